theorem q245 : Cond.fieldLink RX3 181 "RhymeTax$Word" "stress" "I" ∈ wsL_law := wsL_ot (List.mem_of_getElem? (i := 387) (by decide +kernel)) rfl
theorem q246 : Cond.fieldLink RX3 184 "RhymeTax$Word" "vowel" "I" ∈ wsL_law := wsL_ot (List.mem_of_getElem? (i := 389) (by decide +kernel)) rfl
theorem q247 : Cond.fieldLink RX3 187 "RhymeTax$Word" "end" "I" ∈ wsL_law := wsL_ot (List.mem_of_getElem? (i := 391) (by decide +kernel)) rfl
theorem q248 : Cond.fieldLink RX3 190 "RhymeTax$Word" "open" "Z" ∈ wsL_law := wsL_ot (List.mem_of_getElem? (i := 393) (by decide +kernel)) rfl
theorem q249 : Cond.methodLink RX3 194 yX3_usesOf ∈ wsL_law := wsL_ot (List.mem_of_getElem? (i := 261) (by decide +kernel)) rfl
theorem q250 : Cond.instanceMethod yX3_usesOf ∈ wsL_law := wsL_ot (List.mem_of_getElem? (i := 263) (by decide +kernel)) rfl
theorem q251 : Cond.selects RX3 yX3_usesOf yX3_usesOf ∈ wsL_law := List.mem_append_left _ (List.mem_of_getElem? (i := 12) rfl)
theorem q252 : Cond.code yX3_aboutWord cX3_aboutWord 3 (some .int) ∈ wsL_law := wsL_ot (List.mem_of_getElem? (i := 260) (by decide +kernel)) rfl
theorem q253 : Cond.methodLink RX3 61 yX3_neededWord ∈ wsL_law := wsL_ot (List.mem_of_getElem? (i := 467) (by decide +kernel)) rfl
theorem q254 : Cond.instanceMethod yX3_neededWord ∈ wsL_law := wsL_ot (List.mem_of_getElem? (i := 469) (by decide +kernel)) rfl
theorem q255 : Cond.selects RX3 yX3_neededWord yX3_neededWord ∈ wsL_law := List.mem_append_left _ (List.mem_of_getElem? (i := 17) rfl)
theorem q256 : Cond.methodLink RX3 69 yX3_aboutWord ∈ wsL_law := wsL_ot (List.mem_of_getElem? (i := 257) (by decide +kernel)) rfl
theorem q257 : Cond.instanceMethod yX3_aboutWord ∈ wsL_law := wsL_ot (List.mem_of_getElem? (i := 259) (by decide +kernel)) rfl
theorem q258 : Cond.selects RX3 yX3_aboutWord yX3_aboutWord ∈ wsL_law := List.mem_append_left _ (List.mem_of_getElem? (i := 11) rfl)
theorem q259 : Cond.code yX3_about cX3_about 4 (some .int) ∈ wsL_law := wsL_ot (List.mem_of_getElem? (i := 466) (by decide +kernel)) rfl
theorem q260 : Cond.fieldLink RX3 175 "RhymeTax$Line" "mark" "I" ∈ wsL_law := wsL_ot (List.mem_of_getElem? (i := 512) (by decide +kernel)) rfl
theorem q261 : Cond.code yX3_lastWithMark cX3_lastWithMark 4 (some (.object "RhymeTax$Line")) ∈ wsL_law := wsL_ot (List.mem_of_getElem? (i := 502) (by decide +kernel)) rfl
theorem q262 : Cond.methodLink RX3 106 yX1_lastWord ∈ wsL_law := wsL_ot (List.mem_of_getElem? (i := 203) (by decide +kernel)) rfl
theorem q263 : Cond.instanceMethod yX1_lastWord ∈ wsL_law := wsL_ot (List.mem_of_getElem? (i := 204) (by decide +kernel)) rfl
theorem q264 : Cond.selects RX1 yX1_lastWord yX1_lastWord ∈ wsL_law := wsL_ot (List.mem_of_getElem? (i := 205) (by decide +kernel)) rfl
theorem q265 : Cond.methodLink RX3 215 yX2_rhymeWith ∈ wsL_law := wsL_ot (List.mem_of_getElem? (i := 207) (by decide +kernel)) rfl
theorem q266 : Cond.instanceMethod yX2_rhymeWith ∈ wsL_law := wsL_ot (List.mem_of_getElem? (i := 208) (by decide +kernel)) rfl
theorem q267 : Cond.selects RX2 yX2_rhymeWith yX2_rhymeWith ∈ wsL_law := wsL_ot (List.mem_of_getElem? (i := 209) (by decide +kernel)) rfl
theorem q268 : Cond.methodLink RX2 29 yX2_lastStress ∈ wsL_law := wsL_ot (List.mem_of_getElem? (i := 211) (by decide +kernel)) rfl
theorem q269 : Cond.instanceMethod yX2_lastStress ∈ wsL_law := wsL_ot (List.mem_of_getElem? (i := 212) (by decide +kernel)) rfl
theorem q270 : Cond.selects RX2 yX2_lastStress yX2_lastStress ∈ wsL_law := wsL_ot (List.mem_of_getElem? (i := 213) (by decide +kernel)) rfl
theorem q271 : Cond.code yX3_rhymeBetween cX3_rhymeBetween 4 (some .int) ∈ wsL_law := wsL_ot (List.mem_of_getElem? (i := 202) (by decide +kernel)) rfl
theorem q272 : Cond.fieldLink RX3 221 "RhymeTax$Line" "start" "I" ∈ wsL_law := wsL_ot (List.mem_of_getElem? (i := 522) (by decide +kernel)) rfl
theorem q273 : Cond.fieldLink RX3 123 "RhymeTax$Line" "stays" "I" ∈ wsL_law := wsL_ot (List.mem_of_getElem? (i := 525) (by decide +kernel)) rfl
theorem q274 : Cond.fieldLink RX3 209 "RhymeTax$Line" "over" "I" ∈ wsL_law := wsL_ot (List.mem_of_getElem? (i := 527) (by decide +kernel)) rfl
theorem q275 : Cond.methodLink RX3 227 Lib.Math.max.name ∈ wsL_law := wsL_ot (List.mem_of_getElem? (i := 154) (by decide +kernel)) rfl
theorem q276 : Cond.fieldLink RX3 237 "RhymeTax$Line" "partner" "LRhymeTax$Line;" ∈ wsL_law := wsL_ot (List.mem_of_getElem? (i := 514) (by decide +kernel)) rfl
theorem q277 : Cond.methodLink RX3 224 yX0_cutBehind ∈ wsL_law := wsL_ot (List.mem_of_getElem? (i := 146) (by decide +kernel)) rfl
theorem q278 : Cond.instanceMethod yX0_cutBehind ∈ wsL_law := wsL_ot (List.mem_of_getElem? (i := 147) (by decide +kernel)) rfl
theorem q279 : Cond.selects RX0 yX0_cutBehind yX0_cutBehind ∈ wsL_law := wsL_ot (List.mem_of_getElem? (i := 148) (by decide +kernel)) rfl
theorem q280 : Cond.methodLink RX3 233 yX1_scanIn ∈ wsL_law := wsL_ot (List.mem_of_getElem? (i := 157) (by decide +kernel)) rfl
theorem q281 : Cond.instanceMethod yX1_scanIn ∈ wsL_law := wsL_ot (List.mem_of_getElem? (i := 158) (by decide +kernel)) rfl
theorem q282 : Cond.selects RX1 yX1_scanIn yX1_scanIn ∈ wsL_law := wsL_ot (List.mem_of_getElem? (i := 159) (by decide +kernel)) rfl
theorem q283 : Cond.methodLink RX3 132 yX3_rhymeBetween ∈ wsL_law := wsL_ot (List.mem_of_getElem? (i := 200) (by decide +kernel)) rfl
theorem q284 : Cond.static yX3_rhymeBetween ∈ wsL_law := wsL_ot (List.mem_of_getElem? (i := 201) (by decide +kernel)) rfl
theorem q285 : Cond.methodLink RX3 241 yX1_payRhyme ∈ wsL_law := wsL_ot (List.mem_of_getElem? (i := 215) (by decide +kernel)) rfl
theorem q286 : Cond.instanceMethod yX1_payRhyme ∈ wsL_law := wsL_ot (List.mem_of_getElem? (i := 216) (by decide +kernel)) rfl
theorem q287 : Cond.selects RX1 yX1_payRhyme yX1_payRhyme ∈ wsL_law := wsL_ot (List.mem_of_getElem? (i := 217) (by decide +kernel)) rfl
theorem q288 : Cond.fieldLink RX1 130 "RhymeTax$Line" "paid" "I" ∈ wsL_law := wsL_ot (List.mem_of_getElem? (i := 531) (by decide +kernel)) rfl
theorem q289 : Cond.methodLink RX1 143 Lib.Math.max.name ∈ wsL_law := wsL_ot (List.mem_of_getElem? (i := 223) (by decide +kernel)) rfl
theorem q290 : Cond.fieldLink RX1 146 "RhymeTax$Line" "tax" "I" ∈ wsL_law := wsL_ot (List.mem_of_getElem? (i := 532) (by decide +kernel)) rfl
theorem q291 : Cond.methodLink RX1 133 yJx4a65c_isEmpty_aae02 ∈ wsL_law := wsL_ot (List.mem_of_getElem? (i := 219) (by decide +kernel)) rfl
theorem q292 : Cond.instanceMethod yJx4a65c_isEmpty_aae02 ∈ wsL_law := wsL_ot (List.mem_of_getElem? (i := 220) (by decide +kernel)) rfl
theorem q293 : Cond.selects RJx4a65c yJx4a65c_isEmpty_aae02 yJx4a65c_isEmpty_aae02 ∈ wsL_law := wsL_ot (List.mem_of_getElem? (i := 221) (by decide +kernel)) rfl
theorem q294 : Cond.code yX3_scanFrom cX3_scanFrom 6 none ∈ wsL_law := wsL_ot (List.mem_of_getElem? (i := 145) (by decide +kernel)) rfl
theorem q295 : Cond.classLink RX3 77 RX1 ∈ wsL_law := wsL_ot (List.mem_of_getElem? (i := 108) (by decide +kernel)) rfl
theorem q296 : Cond.instantiable RX1 17 ∈ wsL_law := wsL_ot (List.mem_of_getElem? (i := 134) (by decide +kernel)) rfl
theorem q297 : Cond.methodLink RX3 79 yX3_lastWithMark ∈ wsL_law := wsL_ot (List.mem_of_getElem? (i := 499) (by decide +kernel)) rfl
theorem q298 : Cond.instanceMethod yX3_lastWithMark ∈ wsL_law := wsL_ot (List.mem_of_getElem? (i := 501) (by decide +kernel)) rfl
theorem q299 : Cond.selects RX3 yX3_lastWithMark yX3_lastWithMark ∈ wsL_law := List.mem_append_left _ (List.mem_of_getElem? (i := 18) rfl)
theorem q300 : Cond.methodLink RX3 83 yX1_init ∈ wsL_law := wsL_ot (List.mem_of_getElem? (i := 503) (by decide +kernel)) rfl
theorem q301 : Cond.instanceMethod yX1_init ∈ wsL_law := wsL_ot (List.mem_of_getElem? (i := 504) (by decide +kernel)) rfl
theorem q302 : Cond.methodLink RX3 86 yX3_scanFrom ∈ wsL_law := wsL_ot (List.mem_of_getElem? (i := 142) (by decide +kernel)) rfl
theorem q303 : Cond.instanceMethod yX3_scanFrom ∈ wsL_law := wsL_ot (List.mem_of_getElem? (i := 144) (by decide +kernel)) rfl
theorem q304 : Cond.selects RX3 yX3_scanFrom yX3_scanFrom ∈ wsL_law := List.mem_append_left _ (List.mem_of_getElem? (i := 4) rfl)
theorem q305 : Cond.code yX3_line cX3_line 5 (some .int) ∈ wsL_law := wsL_ot (List.mem_of_getElem? (i := 496) (by decide +kernel)) rfl
theorem q306 : Cond.code yX3_neededLine cX3_neededLine 2 (some (.object "RhymeTax$Line")) ∈ wsL_law := wsL_ot (List.mem_of_getElem? (i := 579) (by decide +kernel)) rfl
theorem q307 : Cond.methodLink RX3 218 yX1_replaceWord ∈ wsL_law := wsL_ot (List.mem_of_getElem? (i := 121) (by decide +kernel)) rfl
theorem q308 : Cond.instanceMethod yX1_replaceWord ∈ wsL_law := wsL_ot (List.mem_of_getElem? (i := 122) (by decide +kernel)) rfl
theorem q309 : Cond.selects RX1 yX1_replaceWord yX1_replaceWord ∈ wsL_law := wsL_ot (List.mem_of_getElem? (i := 123) (by decide +kernel)) rfl
theorem q310 : Cond.code yX3_replaceWord cX3_replaceWord 4 none ∈ wsL_law := wsL_ot (List.mem_of_getElem? (i := 117) (by decide +kernel)) rfl
theorem q311 : Cond.fieldLink RX3 93 "RhymeTax$Line" "row" "Ljava/util/ArrayList;" ∈ wsL_law := wsL_ot (List.mem_of_getElem? (i := 516) (by decide +kernel)) rfl
theorem q312 : Cond.methodLink RX3 90 yX3_neededLine ∈ wsL_law := wsL_ot (List.mem_of_getElem? (i := 576) (by decide +kernel)) rfl
theorem q313 : Cond.instanceMethod yX3_neededLine ∈ wsL_law := wsL_ot (List.mem_of_getElem? (i := 578) (by decide +kernel)) rfl
theorem q314 : Cond.selects RX3 yX3_neededLine yX3_neededLine ∈ wsL_law := List.mem_append_left _ (List.mem_of_getElem? (i := 19) rfl)
theorem q315 : Cond.methodLink RX3 96 yX3_replaceWord ∈ wsL_law := wsL_ot (List.mem_of_getElem? (i := 114) (by decide +kernel)) rfl
theorem q316 : Cond.instanceMethod yX3_replaceWord ∈ wsL_law := wsL_ot (List.mem_of_getElem? (i := 116) (by decide +kernel)) rfl
theorem q317 : Cond.selects RX3 yX3_replaceWord yX3_replaceWord ∈ wsL_law := List.mem_append_left _ (List.mem_of_getElem? (i := 2) rfl)
theorem q318 : Cond.methodLink RX3 102 yX1_addWord ∈ wsL_law := wsL_ot (List.mem_of_getElem? (i := 581) (by decide +kernel)) rfl
theorem q319 : Cond.instanceMethod yX1_addWord ∈ wsL_law := wsL_ot (List.mem_of_getElem? (i := 582) (by decide +kernel)) rfl
theorem q320 : Cond.selects RX1 yX1_addWord yX1_addWord ∈ wsL_law := wsL_ot (List.mem_of_getElem? (i := 583) (by decide +kernel)) rfl
theorem q321 : Cond.code yX3_write cX3_write 7 (some .int) ∈ wsL_law := wsL_ot (List.mem_of_getElem? (i := 575) (by decide +kernel)) rfl
theorem q322 : Cond.methodLink RX3 112 yX1_dropLast ∈ wsL_law := wsL_ot (List.mem_of_getElem? (i := 594) (by decide +kernel)) rfl
theorem q323 : Cond.instanceMethod yX1_dropLast ∈ wsL_law := wsL_ot (List.mem_of_getElem? (i := 595) (by decide +kernel)) rfl
theorem q324 : Cond.selects RX1 yX1_dropLast yX1_dropLast ∈ wsL_law := wsL_ot (List.mem_of_getElem? (i := 596) (by decide +kernel)) rfl
theorem q325 : Cond.code yX3_strike cX3_strike 4 (some .int) ∈ wsL_law := wsL_ot (List.mem_of_getElem? (i := 592) (by decide +kernel)) rfl
theorem q326 : Cond.code yX3_neededWordOf cX3_neededWordOf 2 (some (.object "RhymeTax$Word")) ∈ wsL_law := wsL_ot (List.mem_of_getElem? (i := 616) (by decide +kernel)) rfl
theorem q327 : Cond.methodLink RX3 115 yX3_neededWordOf ∈ wsL_law := wsL_ot (List.mem_of_getElem? (i := 614) (by decide +kernel)) rfl
theorem q328 : Cond.static yX3_neededWordOf ∈ wsL_law := wsL_ot (List.mem_of_getElem? (i := 615) (by decide +kernel)) rfl
theorem q329 : Cond.code yX3_written cX3_written 3 (some .int) ∈ wsL_law := wsL_ot (List.mem_of_getElem? (i := 613) (by decide +kernel)) rfl
theorem q330 : Cond.methodLink RX3 119 yX1_tells ∈ wsL_law := wsL_ot (List.mem_of_getElem? (i := 272) (by decide +kernel)) rfl
theorem q331 : Cond.instanceMethod yX1_tells ∈ wsL_law := wsL_ot (List.mem_of_getElem? (i := 273) (by decide +kernel)) rfl
theorem q332 : Cond.selects RX1 yX1_tells yX1_tells ∈ wsL_law := wsL_ot (List.mem_of_getElem? (i := 274) (by decide +kernel)) rfl
theorem q333 : Cond.code yX3_told cX3_told 4 (some .int) ∈ wsL_law := wsL_ot (List.mem_of_getElem? (i := 623) (by decide +kernel)) rfl
theorem q334 : Cond.methodLink RX3 126 yX1_stressAt ∈ wsL_law := wsL_ot (List.mem_of_getElem? (i := 276) (by decide +kernel)) rfl
theorem q335 : Cond.instanceMethod yX1_stressAt ∈ wsL_law := wsL_ot (List.mem_of_getElem? (i := 277) (by decide +kernel)) rfl
theorem q336 : Cond.selects RX1 yX1_stressAt yX1_stressAt ∈ wsL_law := wsL_ot (List.mem_of_getElem? (i := 278) (by decide +kernel)) rfl
theorem q337 : Cond.code yX3_stress cX3_stress 4 (some .int) ∈ wsL_law := wsL_ot (List.mem_of_getElem? (i := 630) (by decide +kernel)) rfl
theorem q338 : Cond.fieldLink RX3 129 "RhymeTax$Line" "melted" "I" ∈ wsL_law := wsL_ot (List.mem_of_getElem? (i := 520) (by decide +kernel)) rfl
theorem q339 : Cond.code yX3_melted cX3_melted 2 (some .int) ∈ wsL_law := wsL_ot (List.mem_of_getElem? (i := 637) (by decide +kernel)) rfl
theorem q340 : Cond.code yX3_rhyme cX3_rhyme 3 (some .int) ∈ wsL_law := wsL_ot (List.mem_of_getElem? (i := 644) (by decide +kernel)) rfl
theorem q341 : Cond.methodLink RX3 136 yX1_faultsBy ∈ wsL_law := wsL_ot (List.mem_of_getElem? (i := 652) (by decide +kernel)) rfl
theorem q342 : Cond.instanceMethod yX1_faultsBy ∈ wsL_law := wsL_ot (List.mem_of_getElem? (i := 653) (by decide +kernel)) rfl
theorem q343 : Cond.selects RX1 yX1_faultsBy yX1_faultsBy ∈ wsL_law := wsL_ot (List.mem_of_getElem? (i := 654) (by decide +kernel)) rfl
theorem q344 : Cond.code yX3_scans cX3_scans 7 (some .int) ∈ wsL_law := wsL_ot (List.mem_of_getElem? (i := 651) (by decide +kernel)) rfl
theorem q345 : Cond.code yX3_lost cX3_lost 2 (some .int) ∈ wsL_law := wsL_ot (List.mem_of_getElem? (i := 244) (by decide +kernel)) rfl
theorem q346 : Cond.fieldLink RX3 212 "RhymeTax$Line" "tax" "I" ∈ wsL_law := wsL_ot (List.mem_of_getElem? (i := 533) (by decide +kernel)) rfl
theorem q347 : Cond.code yX3_allTaxes cX3_allTaxes 3 (some .int) ∈ wsL_law := wsL_ot (List.mem_of_getElem? (i := 89) (by decide +kernel)) rfl
theorem q348 : Cond.methodLink RX3 205 yX1_isFaultless ∈ wsL_law := wsL_ot (List.mem_of_getElem? (i := 249) (by decide +kernel)) rfl
theorem q349 : Cond.instanceMethod yX1_isFaultless ∈ wsL_law := wsL_ot (List.mem_of_getElem? (i := 250) (by decide +kernel)) rfl
theorem q350 : Cond.selects RX1 yX1_isFaultless yX1_isFaultless ∈ wsL_law := wsL_ot (List.mem_of_getElem? (i := 251) (by decide +kernel)) rfl
theorem q351 : Cond.code yX3_countInLines cX3_countInLines 5 (some .int) ∈ wsL_law := wsL_ot (List.mem_of_getElem? (i := 248) (by decide +kernel)) rfl
theorem q352 : Cond.methodLink RX3 199 yX3_lost ∈ wsL_law := wsL_ot (List.mem_of_getElem? (i := 241) (by decide +kernel)) rfl
theorem q353 : Cond.instanceMethod yX3_lost ∈ wsL_law := wsL_ot (List.mem_of_getElem? (i := 243) (by decide +kernel)) rfl
theorem q354 : Cond.selects RX3 yX3_lost yX3_lost ∈ wsL_law := List.mem_append_left _ (List.mem_of_getElem? (i := 9) rfl)
theorem q355 : Cond.methodLink RX3 151 yX3_allTaxes ∈ wsL_law := wsL_ot (List.mem_of_getElem? (i := 86) (by decide +kernel)) rfl
theorem q356 : Cond.instanceMethod yX3_allTaxes ∈ wsL_law := wsL_ot (List.mem_of_getElem? (i := 88) (by decide +kernel)) rfl
theorem q357 : Cond.selects RX3 yX3_allTaxes yX3_allTaxes ∈ wsL_law := List.mem_append_left _ (List.mem_of_getElem? (i := 0) rfl)
theorem q358 : Cond.methodLink RX3 202 yX3_countInLines ∈ wsL_law := wsL_ot (List.mem_of_getElem? (i := 245) (by decide +kernel)) rfl
theorem q359 : Cond.instanceMethod yX3_countInLines ∈ wsL_law := wsL_ot (List.mem_of_getElem? (i := 247) (by decide +kernel)) rfl
theorem q360 : Cond.selects RX3 yX3_countInLines yX3_countInLines ∈ wsL_law := List.mem_append_left _ (List.mem_of_getElem? (i := 10) rfl)
theorem q361 : Cond.code yX3_countAll cX3_countAll 2 (some .int) ∈ wsL_law := wsL_ot (List.mem_of_getElem? (i := 240) (by decide +kernel)) rfl
theorem q362 : Cond.methodLink RX3 140 yX3_countAll ∈ wsL_law := wsL_ot (List.mem_of_getElem? (i := 237) (by decide +kernel)) rfl
theorem q363 : Cond.instanceMethod yX3_countAll ∈ wsL_law := wsL_ot (List.mem_of_getElem? (i := 239) (by decide +kernel)) rfl
theorem q364 : Cond.selects RX3 yX3_countAll yX3_countAll ∈ wsL_law := List.mem_append_left _ (List.mem_of_getElem? (i := 8) rfl)
theorem q365 : Cond.code yX3_count cX3_count 2 (some .int) ∈ wsL_law := wsL_ot (List.mem_of_getElem? (i := 662) (by decide +kernel)) rfl
theorem q366 : Cond.code yX3_taxesWith cX3_taxesWith 6 (some .int) ∈ wsL_law := wsL_ot (List.mem_of_getElem? (i := 227) (by decide +kernel)) rfl
theorem q367 : Cond.methodLink RX3 143 yX3_taxesWith ∈ wsL_law := wsL_ot (List.mem_of_getElem? (i := 224) (by decide +kernel)) rfl
theorem q368 : Cond.instanceMethod yX3_taxesWith ∈ wsL_law := wsL_ot (List.mem_of_getElem? (i := 226) (by decide +kernel)) rfl
theorem q369 : Cond.selects RX3 yX3_taxesWith yX3_taxesWith ∈ wsL_law := List.mem_append_left _ (List.mem_of_getElem? (i := 7) rfl)
theorem q370 : Cond.code yX3_tries cX3_tries 5 (some .int) ∈ wsL_law := wsL_ot (List.mem_of_getElem? (i := 669) (by decide +kernel)) rfl
theorem q371 : Cond.code yX3_bestWord cX3_bestWord 9 (some (.object "RhymeTax$Word")) ∈ wsL_law := wsL_ot (List.mem_of_getElem? (i := 113) (by decide +kernel)) rfl
theorem q372 : Cond.methodLink RX3 147 yX3_bestWord ∈ wsL_law := wsL_ot (List.mem_of_getElem? (i := 110) (by decide +kernel)) rfl
theorem q373 : Cond.instanceMethod yX3_bestWord ∈ wsL_law := wsL_ot (List.mem_of_getElem? (i := 112) (by decide +kernel)) rfl
theorem q374 : Cond.selects RX3 yX3_bestWord yX3_bestWord ∈ wsL_law := List.mem_append_left _ (List.mem_of_getElem? (i := 1) rfl)
theorem q375 : Cond.code yX3_best cX3_best 4 (some .int) ∈ wsL_law := wsL_ot (List.mem_of_getElem? (i := 676) (by decide +kernel)) rfl
theorem q376 : Cond.code yX3_worst cX3_worst 8 (some .int) ∈ wsL_law := wsL_ot (List.mem_of_getElem? (i := 85) (by decide +kernel)) rfl
theorem q377 : Cond.code yX3_mean cX3_mean 2 (some .double) ∈ wsL_law := wsL_ot (List.mem_of_getElem? (i := 231) (by decide +kernel)) rfl
theorem q378 : Cond.code yX3_mix cX3_mix 4 (some .long) ∈ wsL_law := wsL_ot (List.mem_of_getElem? (i := 255) (by decide +kernel)) rfl
theorem q379 : Cond.methodLink RX3 160 yX3_mix ∈ wsL_law := wsL_ot (List.mem_of_getElem? (i := 253) (by decide +kernel)) rfl
theorem q380 : Cond.static yX3_mix ∈ wsL_law := wsL_ot (List.mem_of_getElem? (i := 254) (by decide +kernel)) rfl
theorem q381 : Cond.constantLong RX3 168 (31) ∈ wsL_law := wsL_ot (List.mem_of_getElem? (i := 256) (by decide +kernel)) rfl
theorem q382 : Cond.code yX3_mixLine cX3_mixLine 6 (some .long) ∈ wsL_law := wsL_ot (List.mem_of_getElem? (i := 271) (by decide +kernel)) rfl
theorem q383 : Cond.constantLong RX3 158 (977) ∈ wsL_law := wsL_ot (List.mem_of_getElem? (i := 236) (by decide +kernel)) rfl
theorem q384 : Cond.methodLink RX3 164 yX3_mixLine ∈ wsL_law := wsL_ot (List.mem_of_getElem? (i := 269) (by decide +kernel)) rfl
theorem q385 : Cond.static yX3_mixLine ∈ wsL_law := wsL_ot (List.mem_of_getElem? (i := 270) (by decide +kernel)) rfl
theorem q386 : Cond.code yX3_digest cX3_digest 6 (some .long) ∈ wsL_law := wsL_ot (List.mem_of_getElem? (i := 235) (by decide +kernel)) rfl
theorem q387 : Cond.code yX4_init cX4_init 1 none ∈ wsL_law := wsL_ot (List.mem_of_getElem? (i := 681) (by decide +kernel)) rfl
theorem q388 : Cond.code yX4_thrown cX4_thrown 1 (some .int) ∈ wsL_law := wsL_ot (List.mem_of_getElem? (i := 751) (by decide +kernel)) rfl
theorem q389 : Cond.code yX4_no cX4_no 2 (some .int) ∈ wsL_law := wsL_ot (List.mem_of_getElem? (i := 762) (by decide +kernel)) rfl
theorem q390 : Cond.code yX4_isIn cX4_isIn 3 (some .boolean) ∈ wsL_law := wsL_ot (List.mem_of_getElem? (i := 758) (by decide +kernel)) rfl
theorem q391 : Cond.code yX4_isWord cX4_isWord 2 (some .boolean) ∈ wsL_law := wsL_ot (List.mem_of_getElem? (i := 770) (by decide +kernel)) rfl
theorem q392 : Cond.code yX4_isLine cX4_isLine 2 (some .boolean) ∈ wsL_law := wsL_ot (List.mem_of_getElem? (i := 786) (by decide +kernel)) rfl
theorem q393 : Cond.code yX4_word cX4_word 6 (some .int) ∈ wsL_law := wsL_ot (List.mem_of_getElem? (i := 755) (by decide +kernel)) rfl
theorem q394 : Cond.code yX4_aboutTold cX4_aboutTold 6 (some .int) ∈ wsL_law := wsL_ot (List.mem_of_getElem? (i := 774) (by decide +kernel)) rfl
theorem q395 : Cond.fieldLink RX4 61 "RhymeTaxModel" "thrown" "I" ∈ wsL_law := wsL_ot (List.mem_of_getElem? (i := 683) (by decide +kernel)) rfl
theorem q396 : Cond.methodLink RX4 79 yX4_isWord ∈ wsL_law := wsL_ot (List.mem_of_getElem? (i := 767) (by decide +kernel)) rfl
theorem q397 : Cond.instanceMethod yX4_isWord ∈ wsL_law := wsL_ot (List.mem_of_getElem? (i := 769) (by decide +kernel)) rfl
theorem q398 : Cond.selects RX4 yX4_isWord yX4_isWord ∈ wsL_law := List.mem_append_left _ (List.mem_of_getElem? (i := 22) rfl)
theorem q399 : Cond.initialized RX4 ∈ wsL_law := wsL_ot (List.mem_of_getElem? (i := 6) (by decide +kernel)) rfl
theorem q400 : Cond.fieldLink RX4 65 "RhymeTaxModel" "words" "I" ∈ wsL_law := wsL_ot (List.mem_of_getElem? (i := 684) (by decide +kernel)) rfl
theorem q401 : Cond.methodLink RX4 68 yX4_isIn ∈ wsL_law := wsL_ot (List.mem_of_getElem? (i := 756) (by decide +kernel)) rfl
theorem q402 : Cond.static yX4_isIn ∈ wsL_law := wsL_ot (List.mem_of_getElem? (i := 757) (by decide +kernel)) rfl
theorem q403 : Cond.methodLink RX4 83 yX4_aboutTold ∈ wsL_law := wsL_ot (List.mem_of_getElem? (i := 771) (by decide +kernel)) rfl
theorem q404 : Cond.instanceMethod yX4_aboutTold ∈ wsL_law := wsL_ot (List.mem_of_getElem? (i := 773) (by decide +kernel)) rfl
theorem q405 : Cond.selects RX4 yX4_aboutTold yX4_aboutTold ∈ wsL_law := List.mem_append_left _ (List.mem_of_getElem? (i := 23) rfl)
theorem q406 : Cond.fieldLink RX4 72 "RhymeTaxModel" "lines" "I" ∈ wsL_law := wsL_ot (List.mem_of_getElem? (i := 690) (by decide +kernel)) rfl
theorem q407 : Cond.fieldLink RX4 34 "RhymeTaxModel" "many" "[I" ∈ wsL_law := wsL_ot (List.mem_of_getElem? (i := 694) (by decide +kernel)) rfl
theorem q408 : Cond.fieldLink RX4 37 "RhymeTaxModel" "row" "[I" ∈ wsL_law := wsL_ot (List.mem_of_getElem? (i := 695) (by decide +kernel)) rfl
theorem q409 : Cond.arrayClass .int ∈ wsL_law := wsL_ot (List.mem_of_getElem? (i := 747) (by decide +kernel)) rfl
theorem q410 : Cond.fieldLink RX4 9 "RhymeTaxModel" "syllables" "[I" ∈ wsL_law := wsL_ot (List.mem_of_getElem? (i := 685) (by decide +kernel)) rfl
theorem q411 : Cond.fieldLink RX4 13 "RhymeTaxModel" "stresses" "[I" ∈ wsL_law := wsL_ot (List.mem_of_getElem? (i := 686) (by decide +kernel)) rfl
theorem q412 : Cond.fieldLink RX4 16 "RhymeTaxModel" "vowel" "[I" ∈ wsL_law := wsL_ot (List.mem_of_getElem? (i := 687) (by decide +kernel)) rfl
theorem q413 : Cond.fieldLink RX4 19 "RhymeTaxModel" "end" "[I" ∈ wsL_law := wsL_ot (List.mem_of_getElem? (i := 688) (by decide +kernel)) rfl
theorem q414 : Cond.fieldLink RX4 22 "RhymeTaxModel" "isOpen" "[I" ∈ wsL_law := wsL_ot (List.mem_of_getElem? (i := 689) (by decide +kernel)) rfl
theorem q415 : Cond.methodLink RX4 75 yX4_no ∈ wsL_law := wsL_ot (List.mem_of_getElem? (i := 759) (by decide +kernel)) rfl
theorem q416 : Cond.instanceMethod yX4_no ∈ wsL_law := wsL_ot (List.mem_of_getElem? (i := 761) (by decide +kernel)) rfl
theorem q417 : Cond.selects RX4 yX4_no yX4_no ∈ wsL_law := List.mem_append_left _ (List.mem_of_getElem? (i := 21) rfl)
theorem q418 : Cond.code yX4_about cX4_about 3 (some .int) ∈ wsL_law := wsL_ot (List.mem_of_getElem? (i := 766) (by decide +kernel)) rfl
theorem q419 : Cond.code yX4_line cX4_line 4 (some .int) ∈ wsL_law := wsL_ot (List.mem_of_getElem? (i := 778) (by decide +kernel)) rfl
theorem q420 : Cond.code yX4_write cX4_write 4 (some .int) ∈ wsL_law := wsL_ot (List.mem_of_getElem? (i := 782) (by decide +kernel)) rfl
theorem q421 : Cond.code yX4_strike cX4_strike 2 (some .int) ∈ wsL_law := wsL_ot (List.mem_of_getElem? (i := 790) (by decide +kernel)) rfl
theorem q422 : Cond.code yX4_written cX4_written 3 (some .int) ∈ wsL_law := wsL_ot (List.mem_of_getElem? (i := 794) (by decide +kernel)) rfl
theorem q423 : Cond.code yX4_melts cX4_melts 3 (some .boolean) ∈ wsL_law := wsL_ot (List.mem_of_getElem? (i := 810) (by decide +kernel)) rfl
theorem q424 : Cond.code yX4_putOwn cX4_putOwn 8 (some .int) ∈ wsL_law := wsL_ot (List.mem_of_getElem? (i := 806) (by decide +kernel)) rfl
theorem q425 : Cond.code yX4_beat cX4_beat 2 (some .int) ∈ wsL_law := wsL_ot (List.mem_of_getElem? (i := 820) (by decide +kernel)) rfl
theorem q426 : Cond.code yX4_room cX4_room 2 (some .int) ∈ wsL_law := wsL_ot (List.mem_of_getElem? (i := 814) (by decide +kernel)) rfl
theorem q427 : Cond.code yX4_lacks cX4_lacks 2 (some .int) ∈ wsL_law := wsL_ot (List.mem_of_getElem? (i := 833) (by decide +kernel)) rfl
theorem q428 : Cond.code yX4_last cX4_last 2 (some .int) ∈ wsL_law := wsL_ot (List.mem_of_getElem? (i := 845) (by decide +kernel)) rfl
theorem q429 : Cond.code yX4_lastStress cX4_lastStress 2 (some .int) ∈ wsL_law := wsL_ot (List.mem_of_getElem? (i := 848) (by decide +kernel)) rfl
theorem q430 : Cond.code yX4_rhymeOf cX4_rhymeOf 5 (some .int) ∈ wsL_law := wsL_ot (List.mem_of_getElem? (i := 841) (by decide +kernel)) rfl
theorem q431 : Cond.code yX4_rhymeAhead cX4_rhymeAhead 3 (some .int) ∈ wsL_law := wsL_ot (List.mem_of_getElem? (i := 837) (by decide +kernel)) rfl
theorem q432 : Cond.code yJ6_bitCount_0f7a4 cJ6_bitCount_0f7a4 1 (some .int) ∈ wsL_law := wsL_ot (List.mem_of_getElem? (i := 826) (by decide +kernel)) rfl
theorem q433 : Cond.fieldLink RX4 43 "RhymeTaxModel" "comes" "[I" ∈ wsL_law := wsL_ot (List.mem_of_getElem? (i := 697) (by decide +kernel)) rfl
theorem q434 : Cond.fieldLink RX4 40 "RhymeTaxModel" "own" "[I" ∈ wsL_law := wsL_ot (List.mem_of_getElem? (i := 696) (by decide +kernel)) rfl
theorem q435 : Cond.fieldLink RX4 46 "RhymeTaxModel" "stays" "[I" ∈ wsL_law := wsL_ot (List.mem_of_getElem? (i := 698) (by decide +kernel)) rfl
theorem q436 : Cond.methodLink RX4 115 Lib.Math.min.name ∈ wsL_law := wsL_ot (List.mem_of_getElem? (i := 817) (by decide +kernel)) rfl
theorem q437 : Cond.fieldLink RX4 49 "RhymeTaxModel" "bits" "[I" ∈ wsL_law := wsL_ot (List.mem_of_getElem? (i := 699) (by decide +kernel)) rfl
theorem q438 : Cond.fieldLink RX4 52 "RhymeTaxModel" "off" "[I" ∈ wsL_law := wsL_ot (List.mem_of_getElem? (i := 700) (by decide +kernel)) rfl
theorem q439 : Cond.fieldLink RX4 58 "RhymeTaxModel" "going" "[I" ∈ wsL_law := wsL_ot (List.mem_of_getElem? (i := 702) (by decide +kernel)) rfl
theorem q440 : Cond.fieldLink RX4 25 "RhymeTaxModel" "metre" "[I" ∈ wsL_law := wsL_ot (List.mem_of_getElem? (i := 691) (by decide +kernel)) rfl
theorem q441 : Cond.methodLink RX4 123 arraycopyName ∈ wsL_law := wsL_ot (List.mem_of_getElem? (i := 823) (by decide +kernel)) rfl
theorem q442 : Cond.fieldLink RX4 55 "RhymeTaxModel" "tax" "[I" ∈ wsL_law := wsL_ot (List.mem_of_getElem? (i := 701) (by decide +kernel)) rfl
theorem q443 : Cond.fieldLink RX4 28 "RhymeTaxModel" "feet" "[I" ∈ wsL_law := wsL_ot (List.mem_of_getElem? (i := 692) (by decide +kernel)) rfl
theorem q444 : Cond.methodLink RX4 140 Lib.Math.max.name ∈ wsL_law := wsL_ot (List.mem_of_getElem? (i := 849) (by decide +kernel)) rfl
theorem q445 : Cond.fieldLink RX4 143 "RhymeTaxModel" "lost" "I" ∈ wsL_law := wsL_ot (List.mem_of_getElem? (i := 703) (by decide +kernel)) rfl
theorem q446 : Cond.methodLink RX4 112 yX4_putOwn ∈ wsL_law := wsL_ot (List.mem_of_getElem? (i := 803) (by decide +kernel)) rfl
theorem q447 : Cond.instanceMethod yX4_putOwn ∈ wsL_law := wsL_ot (List.mem_of_getElem? (i := 805) (by decide +kernel)) rfl
theorem q448 : Cond.selects RX4 yX4_putOwn yX4_putOwn ∈ wsL_law := List.mem_append_left _ (List.mem_of_getElem? (i := 26) rfl)
theorem q449 : Cond.methodLink RX4 90 yX4_melts ∈ wsL_law := wsL_ot (List.mem_of_getElem? (i := 807) (by decide +kernel)) rfl
theorem q450 : Cond.instanceMethod yX4_melts ∈ wsL_law := wsL_ot (List.mem_of_getElem? (i := 809) (by decide +kernel)) rfl
theorem q451 : Cond.selects RX4 yX4_melts yX4_melts ∈ wsL_law := List.mem_append_left _ (List.mem_of_getElem? (i := 27) rfl)
theorem q452 : Cond.methodLink RX4 100 yX4_room ∈ wsL_law := wsL_ot (List.mem_of_getElem? (i := 811) (by decide +kernel)) rfl
theorem q453 : Cond.instanceMethod yX4_room ∈ wsL_law := wsL_ot (List.mem_of_getElem? (i := 813) (by decide +kernel)) rfl
theorem q454 : Cond.selects RX4 yX4_room yX4_room ∈ wsL_law := List.mem_append_left _ (List.mem_of_getElem? (i := 28) rfl)
theorem q455 : Cond.fieldLink RX4 94 "RhymeTaxModel" "FOOT" "[I" ∈ wsL_law := wsL_ot (List.mem_of_getElem? (i := 815) (by decide +kernel)) rfl
theorem q456 : Cond.methodLink RX4 120 yX4_beat ∈ wsL_law := wsL_ot (List.mem_of_getElem? (i := 818) (by decide +kernel)) rfl
theorem q457 : Cond.static yX4_beat ∈ wsL_law := wsL_ot (List.mem_of_getElem? (i := 819) (by decide +kernel)) rfl
theorem q458 : Cond.fieldLink RX4 97 "RhymeTaxModel" "BEAT" "[I" ∈ wsL_law := wsL_ot (List.mem_of_getElem? (i := 821) (by decide +kernel)) rfl
theorem q459 : Cond.methodLink RX4 129 yJ6_bitCount_0f7a4 ∈ wsL_law := wsL_ot (List.mem_of_getElem? (i := 824) (by decide +kernel)) rfl
theorem q460 : Cond.static yJ6_bitCount_0f7a4 ∈ wsL_law := wsL_ot (List.mem_of_getElem? (i := 825) (by decide +kernel)) rfl
theorem q461 : Cond.initialized RJ6 ∈ wsL_law := wsL_ot (List.mem_of_getElem? (i := 22) (by decide +kernel)) rfl
theorem q462 : Cond.constant RJ6 265 (1431655765) ∈ wsL_law := wsL_ot (List.mem_of_getElem? (i := 827) (by decide +kernel)) rfl
theorem q463 : Cond.constant RJ6 266 (858993459) ∈ wsL_law := wsL_ot (List.mem_of_getElem? (i := 828) (by decide +kernel)) rfl
theorem q464 : Cond.constant RJ6 267 (252645135) ∈ wsL_law := wsL_ot (List.mem_of_getElem? (i := 829) (by decide +kernel)) rfl
theorem q465 : Cond.methodLink RX4 134 yX4_lacks ∈ wsL_law := wsL_ot (List.mem_of_getElem? (i := 830) (by decide +kernel)) rfl
theorem q466 : Cond.instanceMethod yX4_lacks ∈ wsL_law := wsL_ot (List.mem_of_getElem? (i := 832) (by decide +kernel)) rfl
theorem q467 : Cond.selects RX4 yX4_lacks yX4_lacks ∈ wsL_law := List.mem_append_left _ (List.mem_of_getElem? (i := 29) rfl)
theorem q468 : Cond.methodLink RX4 137 yX4_rhymeAhead ∈ wsL_law := wsL_ot (List.mem_of_getElem? (i := 834) (by decide +kernel)) rfl
theorem q469 : Cond.instanceMethod yX4_rhymeAhead ∈ wsL_law := wsL_ot (List.mem_of_getElem? (i := 836) (by decide +kernel)) rfl
theorem q470 : Cond.selects RX4 yX4_rhymeAhead yX4_rhymeAhead ∈ wsL_law := List.mem_append_left _ (List.mem_of_getElem? (i := 30) rfl)
theorem q471 : Cond.fieldLink RX4 31 "RhymeTaxModel" "mark" "[I" ∈ wsL_law := wsL_ot (List.mem_of_getElem? (i := 693) (by decide +kernel)) rfl
theorem q472 : Cond.methodLink RX4 109 yX4_rhymeOf ∈ wsL_law := wsL_ot (List.mem_of_getElem? (i := 838) (by decide +kernel)) rfl
theorem q473 : Cond.instanceMethod yX4_rhymeOf ∈ wsL_law := wsL_ot (List.mem_of_getElem? (i := 840) (by decide +kernel)) rfl
theorem q474 : Cond.selects RX4 yX4_rhymeOf yX4_rhymeOf ∈ wsL_law := List.mem_append_left _ (List.mem_of_getElem? (i := 31) rfl)
theorem q475 : Cond.methodLink RX4 103 yX4_last ∈ wsL_law := wsL_ot (List.mem_of_getElem? (i := 842) (by decide +kernel)) rfl
theorem q476 : Cond.instanceMethod yX4_last ∈ wsL_law := wsL_ot (List.mem_of_getElem? (i := 844) (by decide +kernel)) rfl
theorem q477 : Cond.selects RX4 yX4_last yX4_last ∈ wsL_law := List.mem_append_left _ (List.mem_of_getElem? (i := 32) rfl)
theorem q478 : Cond.methodLink RX4 106 yX4_lastStress ∈ wsL_law := wsL_ot (List.mem_of_getElem? (i := 846) (by decide +kernel)) rfl
theorem q479 : Cond.static yX4_lastStress ∈ wsL_law := wsL_ot (List.mem_of_getElem? (i := 847) (by decide +kernel)) rfl
theorem q480 : Cond.code yX4_scan cX4_scan 5 (some .int) ∈ wsL_law := wsL_ot (List.mem_of_getElem? (i := 802) (by decide +kernel)) rfl
theorem q481 : Cond.code yX4_toldOf cX4_toldOf 4 (some .int) ∈ wsL_law := wsL_ot (List.mem_of_getElem? (i := 853) (by decide +kernel)) rfl
theorem q482 : Cond.methodLink RX4 87 yX4_isLine ∈ wsL_law := wsL_ot (List.mem_of_getElem? (i := 783) (by decide +kernel)) rfl
theorem q483 : Cond.instanceMethod yX4_isLine ∈ wsL_law := wsL_ot (List.mem_of_getElem? (i := 785) (by decide +kernel)) rfl
theorem q484 : Cond.selects RX4 yX4_isLine yX4_isLine ∈ wsL_law := List.mem_append_left _ (List.mem_of_getElem? (i := 24) rfl)
theorem q485 : Cond.methodLink RX4 146 yX4_scan ∈ wsL_law := wsL_ot (List.mem_of_getElem? (i := 799) (by decide +kernel)) rfl
theorem q486 : Cond.instanceMethod yX4_scan ∈ wsL_law := wsL_ot (List.mem_of_getElem? (i := 801) (by decide +kernel)) rfl
theorem q487 : Cond.selects RX4 yX4_scan yX4_scan ∈ wsL_law := List.mem_append_left _ (List.mem_of_getElem? (i := 25) rfl)
theorem q488 : Cond.methodLink RX4 150 yX4_toldOf ∈ wsL_law := wsL_ot (List.mem_of_getElem? (i := 850) (by decide +kernel)) rfl
theorem q489 : Cond.instanceMethod yX4_toldOf ∈ wsL_law := wsL_ot (List.mem_of_getElem? (i := 852) (by decide +kernel)) rfl
