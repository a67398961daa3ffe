theorem q326 : Cond.code yX3_neededWordOf cX3_neededWordOf 2 (some (.object "RhymeTax$Word")) ∈ wsL_law := wsL_ot (List.mem_of_getElem? (i := 504) (by decide +kernel)) rfl
theorem q327 : Cond.methodLink RX3 115 yX3_neededWordOf ∈ wsL_law := wsL_ot (List.mem_of_getElem? (i := 502) (by decide +kernel)) rfl
theorem q328 : Cond.static yX3_neededWordOf ∈ wsL_law := wsL_ot (List.mem_of_getElem? (i := 503) (by decide +kernel)) rfl
theorem q329 : Cond.code yX3_written cX3_written 3 (some .int) ∈ wsL_law := wsL_ot (List.mem_of_getElem? (i := 501) (by decide +kernel)) rfl
theorem q330 : Cond.methodLink RX3 119 yX1_tells ∈ wsL_law := wsL_ot (List.mem_of_getElem? (i := 509) (by decide +kernel)) rfl
theorem q331 : Cond.instanceMethod yX1_tells ∈ wsL_law := wsL_ot (List.mem_of_getElem? (i := 510) (by decide +kernel)) rfl
theorem q332 : Cond.selects RX1 yX1_tells yX1_tells ∈ wsL_law := wsL_ot (List.mem_of_getElem? (i := 511) (by decide +kernel)) rfl
theorem q333 : Cond.code yX3_told cX3_told 4 (some .int) ∈ wsL_law := wsL_ot (List.mem_of_getElem? (i := 508) (by decide +kernel)) rfl
theorem q334 : Cond.methodLink RX3 126 yX1_stressAt ∈ wsL_law := wsL_ot (List.mem_of_getElem? (i := 517) (by decide +kernel)) rfl
theorem q335 : Cond.instanceMethod yX1_stressAt ∈ wsL_law := wsL_ot (List.mem_of_getElem? (i := 518) (by decide +kernel)) rfl
theorem q336 : Cond.selects RX1 yX1_stressAt yX1_stressAt ∈ wsL_law := wsL_ot (List.mem_of_getElem? (i := 519) (by decide +kernel)) rfl
theorem q337 : Cond.code yX3_stress cX3_stress 4 (some .int) ∈ wsL_law := wsL_ot (List.mem_of_getElem? (i := 516) (by decide +kernel)) rfl
theorem q338 : Cond.methodLink RX3 136 yX1_faultsBy ∈ wsL_law := wsL_ot (List.mem_of_getElem? (i := 525) (by decide +kernel)) rfl
theorem q339 : Cond.instanceMethod yX1_faultsBy ∈ wsL_law := wsL_ot (List.mem_of_getElem? (i := 526) (by decide +kernel)) rfl
theorem q340 : Cond.selects RX1 yX1_faultsBy yX1_faultsBy ∈ wsL_law := wsL_ot (List.mem_of_getElem? (i := 527) (by decide +kernel)) rfl
theorem q341 : Cond.code yX3_scans cX3_scans 7 (some .int) ∈ wsL_law := wsL_ot (List.mem_of_getElem? (i := 524) (by decide +kernel)) rfl
theorem q342 : Cond.code yX3_lost cX3_lost 2 (some .int) ∈ wsL_law := wsL_ot (List.mem_of_getElem? (i := 540) (by decide +kernel)) rfl
theorem q343 : Cond.fieldLink RX3 212 "RhymeTax$Line" "tax" "I" ∈ wsL_law := wsL_ot (List.mem_of_getElem? (i := 330) (by decide +kernel)) rfl
theorem q344 : Cond.code yX3_allTaxes cX3_allTaxes 3 (some .int) ∈ wsL_law := wsL_ot (List.mem_of_getElem? (i := 544) (by decide +kernel)) rfl
theorem q345 : Cond.methodLink RX3 205 yX1_isFaultless ∈ wsL_law := wsL_ot (List.mem_of_getElem? (i := 549) (by decide +kernel)) rfl
theorem q346 : Cond.instanceMethod yX1_isFaultless ∈ wsL_law := wsL_ot (List.mem_of_getElem? (i := 550) (by decide +kernel)) rfl
theorem q347 : Cond.selects RX1 yX1_isFaultless yX1_isFaultless ∈ wsL_law := wsL_ot (List.mem_of_getElem? (i := 551) (by decide +kernel)) rfl
theorem q348 : Cond.code yX3_countInLines cX3_countInLines 5 (some .int) ∈ wsL_law := wsL_ot (List.mem_of_getElem? (i := 548) (by decide +kernel)) rfl
theorem q349 : Cond.methodLink RX3 199 yX3_lost ∈ wsL_law := wsL_ot (List.mem_of_getElem? (i := 537) (by decide +kernel)) rfl
theorem q350 : Cond.instanceMethod yX3_lost ∈ wsL_law := wsL_ot (List.mem_of_getElem? (i := 539) (by decide +kernel)) rfl
theorem q351 : Cond.selects RX3 yX3_lost yX3_lost ∈ wsL_law := List.mem_append_left _ (List.mem_of_getElem? (i := 16) rfl)
theorem q352 : Cond.methodLink RX3 151 yX3_allTaxes ∈ wsL_law := wsL_ot (List.mem_of_getElem? (i := 541) (by decide +kernel)) rfl
theorem q353 : Cond.instanceMethod yX3_allTaxes ∈ wsL_law := wsL_ot (List.mem_of_getElem? (i := 543) (by decide +kernel)) rfl
theorem q354 : Cond.selects RX3 yX3_allTaxes yX3_allTaxes ∈ wsL_law := List.mem_append_left _ (List.mem_of_getElem? (i := 17) rfl)
theorem q355 : Cond.methodLink RX3 202 yX3_countInLines ∈ wsL_law := wsL_ot (List.mem_of_getElem? (i := 545) (by decide +kernel)) rfl
theorem q356 : Cond.instanceMethod yX3_countInLines ∈ wsL_law := wsL_ot (List.mem_of_getElem? (i := 547) (by decide +kernel)) rfl
theorem q357 : Cond.selects RX3 yX3_countInLines yX3_countInLines ∈ wsL_law := List.mem_append_left _ (List.mem_of_getElem? (i := 18) rfl)
theorem q358 : Cond.code yX3_countAll cX3_countAll 2 (some .int) ∈ wsL_law := wsL_ot (List.mem_of_getElem? (i := 536) (by decide +kernel)) rfl
theorem q359 : Cond.methodLink RX3 140 yX3_countAll ∈ wsL_law := wsL_ot (List.mem_of_getElem? (i := 533) (by decide +kernel)) rfl
theorem q360 : Cond.instanceMethod yX3_countAll ∈ wsL_law := wsL_ot (List.mem_of_getElem? (i := 535) (by decide +kernel)) rfl
theorem q361 : Cond.selects RX3 yX3_countAll yX3_countAll ∈ wsL_law := List.mem_append_left _ (List.mem_of_getElem? (i := 15) rfl)
theorem q362 : Cond.code yX3_count cX3_count 2 (some .int) ∈ wsL_law := wsL_ot (List.mem_of_getElem? (i := 532) (by decide +kernel)) rfl
theorem q363 : Cond.code yX3_taxesWith cX3_taxesWith 6 (some .int) ∈ wsL_law := wsL_ot (List.mem_of_getElem? (i := 560) (by decide +kernel)) rfl
theorem q364 : Cond.methodLink RX3 143 yX3_taxesWith ∈ wsL_law := wsL_ot (List.mem_of_getElem? (i := 557) (by decide +kernel)) rfl
theorem q365 : Cond.instanceMethod yX3_taxesWith ∈ wsL_law := wsL_ot (List.mem_of_getElem? (i := 559) (by decide +kernel)) rfl
theorem q366 : Cond.selects RX3 yX3_taxesWith yX3_taxesWith ∈ wsL_law := List.mem_append_left _ (List.mem_of_getElem? (i := 19) rfl)
theorem q367 : Cond.code yX3_tries cX3_tries 5 (some .int) ∈ wsL_law := wsL_ot (List.mem_of_getElem? (i := 556) (by decide +kernel)) rfl
theorem q368 : Cond.code yX3_bestWord cX3_bestWord 9 (some (.object "RhymeTax$Word")) ∈ wsL_law := wsL_ot (List.mem_of_getElem? (i := 568) (by decide +kernel)) rfl
theorem q369 : Cond.methodLink RX3 147 yX3_bestWord ∈ wsL_law := wsL_ot (List.mem_of_getElem? (i := 565) (by decide +kernel)) rfl
theorem q370 : Cond.instanceMethod yX3_bestWord ∈ wsL_law := wsL_ot (List.mem_of_getElem? (i := 567) (by decide +kernel)) rfl
theorem q371 : Cond.selects RX3 yX3_bestWord yX3_bestWord ∈ wsL_law := List.mem_append_left _ (List.mem_of_getElem? (i := 20) rfl)
theorem q372 : Cond.code yX3_best cX3_best 4 (some .int) ∈ wsL_law := wsL_ot (List.mem_of_getElem? (i := 564) (by decide +kernel)) rfl
theorem q373 : Cond.code yX3_worst cX3_worst 8 (some .int) ∈ wsL_law := wsL_ot (List.mem_of_getElem? (i := 572) (by decide +kernel)) rfl
theorem q374 : Cond.code yX3_mean cX3_mean 2 (some .double) ∈ wsL_law := wsL_ot (List.mem_of_getElem? (i := 576) (by decide +kernel)) rfl
theorem q375 : Cond.code yX3_mix cX3_mix 4 (some .long) ∈ wsL_law := wsL_ot (List.mem_of_getElem? (i := 584) (by decide +kernel)) rfl
theorem q376 : Cond.methodLink RX3 160 yX3_mix ∈ wsL_law := wsL_ot (List.mem_of_getElem? (i := 582) (by decide +kernel)) rfl
theorem q377 : Cond.static yX3_mix ∈ wsL_law := wsL_ot (List.mem_of_getElem? (i := 583) (by decide +kernel)) rfl
theorem q378 : Cond.constantLong RX3 168 (31) ∈ wsL_law := wsL_ot (List.mem_of_getElem? (i := 585) (by decide +kernel)) rfl
theorem q379 : Cond.code yX3_mixLine cX3_mixLine 6 (some .long) ∈ wsL_law := wsL_ot (List.mem_of_getElem? (i := 588) (by decide +kernel)) rfl
theorem q380 : Cond.constantLong RX3 158 (977) ∈ wsL_law := wsL_ot (List.mem_of_getElem? (i := 581) (by decide +kernel)) rfl
theorem q381 : Cond.methodLink RX3 164 yX3_mixLine ∈ wsL_law := wsL_ot (List.mem_of_getElem? (i := 586) (by decide +kernel)) rfl
theorem q382 : Cond.static yX3_mixLine ∈ wsL_law := wsL_ot (List.mem_of_getElem? (i := 587) (by decide +kernel)) rfl
theorem q383 : Cond.code yX3_digest cX3_digest 6 (some .long) ∈ wsL_law := wsL_ot (List.mem_of_getElem? (i := 580) (by decide +kernel)) rfl
theorem q384 : Cond.code yJ9_max_7cf53 cJ9_max_7cf53 2 (some .int) ∈ wsL_law := wsL_ot (List.mem_of_getElem? (i := 177) (by decide +kernel)) rfl
theorem q385 : Cond.code yJ9_min_7cf53 cJ9_min_7cf53 2 (some .int) ∈ wsL_law := wsL_ot (List.mem_of_getElem? (i := 205) (by decide +kernel)) rfl
theorem q386 : Cond.code yL_below cL_below 2 (some .int) ∈ wsL_law := wsL_ot (List.mem_of_getElem? (i := 591) (by decide +kernel)) rfl
theorem q387 : Cond.code yL_cell cL_cell 2 (some .int) ∈ wsL_law := wsL_ot (List.mem_of_getElem? (i := 595) (by decide +kernel)) rfl
theorem q388 : Cond.classLink RL 9 RX3 ∈ wsL_law := wsL_ot (List.mem_of_getElem? (i := 600) (by decide +kernel)) rfl
theorem q389 : Cond.instantiable RX3 3 ∈ wsL_law := wsL_ot (List.mem_of_getElem? (i := 218) (by decide +kernel)) rfl
theorem q390 : Cond.methodLink RL 11 yX3_init ∈ wsL_law := wsL_ot (List.mem_of_getElem? (i := 601) (by decide +kernel)) rfl
theorem q391 : Cond.instanceMethod yX3_init ∈ wsL_law := wsL_ot (List.mem_of_getElem? (i := 602) (by decide +kernel)) rfl
theorem q392 : Cond.methodLink RL 12 yL_cell ∈ wsL_law := wsL_ot (List.mem_of_getElem? (i := 593) (by decide +kernel)) rfl
theorem q393 : Cond.static yL_cell ∈ wsL_law := wsL_ot (List.mem_of_getElem? (i := 594) (by decide +kernel)) rfl
theorem q394 : Cond.initialized RL ∈ wsL_law := wsL_ot (List.mem_of_getElem? (i := 0) (by decide +kernel)) rfl
theorem q395 : Cond.constant RL 8 (790386105) ∈ wsL_law := wsL_ot (List.mem_of_getElem? (i := 596) (by decide +kernel)) rfl
theorem q396 : Cond.methodLink RL 18 yL_below ∈ wsL_law := wsL_ot (List.mem_of_getElem? (i := 589) (by decide +kernel)) rfl
theorem q397 : Cond.static yL_below ∈ wsL_law := wsL_ot (List.mem_of_getElem? (i := 590) (by decide +kernel)) rfl
theorem q398 : Cond.constant RL 7 (2147483647) ∈ wsL_law := wsL_ot (List.mem_of_getElem? (i := 592) (by decide +kernel)) rfl
theorem q399 : Cond.methodLink RL 22 yX3_word ∈ wsL_law := wsL_ot (List.mem_of_getElem? (i := 21) (by decide +kernel)) rfl
theorem q400 : Cond.instanceMethod yX3_word ∈ wsL_law := wsL_ot (List.mem_of_getElem? (i := 22) (by decide +kernel)) rfl
theorem q401 : Cond.selects RX3 yX3_word yX3_word ∈ wsL_law := wsL_ot (List.mem_of_getElem? (i := 23) (by decide +kernel)) rfl
theorem q402 : Cond.methodLink RL 26 yX3_line ∈ wsL_law := wsL_ot (List.mem_of_getElem? (i := 269) (by decide +kernel)) rfl
theorem q403 : Cond.instanceMethod yX3_line ∈ wsL_law := wsL_ot (List.mem_of_getElem? (i := 270) (by decide +kernel)) rfl
theorem q404 : Cond.selects RX3 yX3_line yX3_line ∈ wsL_law := wsL_ot (List.mem_of_getElem? (i := 271) (by decide +kernel)) rfl
theorem q405 : Cond.methodLink RL 30 yX3_write ∈ wsL_law := wsL_ot (List.mem_of_getElem? (i := 445) (by decide +kernel)) rfl
theorem q406 : Cond.instanceMethod yX3_write ∈ wsL_law := wsL_ot (List.mem_of_getElem? (i := 446) (by decide +kernel)) rfl
theorem q407 : Cond.selects RX3 yX3_write yX3_write ∈ wsL_law := wsL_ot (List.mem_of_getElem? (i := 447) (by decide +kernel)) rfl
theorem q408 : Cond.code yL_poem cL_poem 8 (some (.object "RhymeTax")) ∈ wsL_law := wsL_ot (List.mem_of_getElem? (i := 599) (by decide +kernel)) rfl
theorem q409 : Cond.methodLink RL 37 yX3_count ∈ wsL_law := wsL_ot (List.mem_of_getElem? (i := 529) (by decide +kernel)) rfl
theorem q410 : Cond.instanceMethod yX3_count ∈ wsL_law := wsL_ot (List.mem_of_getElem? (i := 530) (by decide +kernel)) rfl
theorem q411 : Cond.selects RX3 yX3_count yX3_count ∈ wsL_law := wsL_ot (List.mem_of_getElem? (i := 531) (by decide +kernel)) rfl
theorem q412 : Cond.methodLink RL 41 yX3_told ∈ wsL_law := wsL_ot (List.mem_of_getElem? (i := 505) (by decide +kernel)) rfl
theorem q413 : Cond.instanceMethod yX3_told ∈ wsL_law := wsL_ot (List.mem_of_getElem? (i := 506) (by decide +kernel)) rfl
theorem q414 : Cond.selects RX3 yX3_told yX3_told ∈ wsL_law := wsL_ot (List.mem_of_getElem? (i := 507) (by decide +kernel)) rfl
theorem q415 : Cond.code yL_sum cL_sum 3 (some .int) ∈ wsL_law := wsL_ot (List.mem_of_getElem? (i := 633) (by decide +kernel)) rfl
theorem q416 : Cond.methodLink RL 67 Lib.Math.max.name ∈ wsL_law := wsL_ot (List.mem_of_getElem? (i := 634) (by decide +kernel)) rfl
theorem q417 : Cond.methodLink RL 72 Lib.Math.min.name ∈ wsL_law := wsL_ot (List.mem_of_getElem? (i := 635) (by decide +kernel)) rfl
theorem q418 : Cond.methodLink RL 33 yL_poem ∈ wsL_law := wsL_ot (List.mem_of_getElem? (i := 597) (by decide +kernel)) rfl
theorem q419 : Cond.static yL_poem ∈ wsL_law := wsL_ot (List.mem_of_getElem? (i := 598) (by decide +kernel)) rfl
theorem q420 : Cond.methodLink RL 44 yX3_digest ∈ wsL_law := wsL_ot (List.mem_of_getElem? (i := 577) (by decide +kernel)) rfl
theorem q421 : Cond.instanceMethod yX3_digest ∈ wsL_law := wsL_ot (List.mem_of_getElem? (i := 578) (by decide +kernel)) rfl
theorem q422 : Cond.selects RX3 yX3_digest yX3_digest ∈ wsL_law := wsL_ot (List.mem_of_getElem? (i := 579) (by decide +kernel)) rfl
theorem q423 : Cond.methodLink RL 48 yX3_strike ∈ wsL_law := wsL_ot (List.mem_of_getElem? (i := 480) (by decide +kernel)) rfl
theorem q424 : Cond.instanceMethod yX3_strike ∈ wsL_law := wsL_ot (List.mem_of_getElem? (i := 481) (by decide +kernel)) rfl
theorem q425 : Cond.selects RX3 yX3_strike yX3_strike ∈ wsL_law := wsL_ot (List.mem_of_getElem? (i := 482) (by decide +kernel)) rfl
theorem q426 : Cond.methodLink RL 51 yX3_written ∈ wsL_law := wsL_ot (List.mem_of_getElem? (i := 498) (by decide +kernel)) rfl
theorem q427 : Cond.instanceMethod yX3_written ∈ wsL_law := wsL_ot (List.mem_of_getElem? (i := 499) (by decide +kernel)) rfl
theorem q428 : Cond.selects RX3 yX3_written yX3_written ∈ wsL_law := wsL_ot (List.mem_of_getElem? (i := 500) (by decide +kernel)) rfl
theorem q429 : Cond.methodLink RL 54 yX3_tries ∈ wsL_law := wsL_ot (List.mem_of_getElem? (i := 553) (by decide +kernel)) rfl
theorem q430 : Cond.instanceMethod yX3_tries ∈ wsL_law := wsL_ot (List.mem_of_getElem? (i := 554) (by decide +kernel)) rfl
theorem q431 : Cond.selects RX3 yX3_tries yX3_tries ∈ wsL_law := wsL_ot (List.mem_of_getElem? (i := 555) (by decide +kernel)) rfl
theorem q432 : Cond.methodLink RL 57 yX3_about ∈ wsL_law := wsL_ot (List.mem_of_getElem? (i := 211) (by decide +kernel)) rfl
theorem q433 : Cond.instanceMethod yX3_about ∈ wsL_law := wsL_ot (List.mem_of_getElem? (i := 212) (by decide +kernel)) rfl
theorem q434 : Cond.selects RX3 yX3_about yX3_about ∈ wsL_law := wsL_ot (List.mem_of_getElem? (i := 213) (by decide +kernel)) rfl
theorem q435 : Cond.methodLink RL 60 yL_sum ∈ wsL_law := wsL_ot (List.mem_of_getElem? (i := 631) (by decide +kernel)) rfl
theorem q436 : Cond.static yL_sum ∈ wsL_law := wsL_ot (List.mem_of_getElem? (i := 632) (by decide +kernel)) rfl
theorem q437 : Cond.methodLink RL 64 yX3_stress ∈ wsL_law := wsL_ot (List.mem_of_getElem? (i := 513) (by decide +kernel)) rfl
theorem q438 : Cond.instanceMethod yX3_stress ∈ wsL_law := wsL_ot (List.mem_of_getElem? (i := 514) (by decide +kernel)) rfl
theorem q439 : Cond.selects RX3 yX3_stress yX3_stress ∈ wsL_law := wsL_ot (List.mem_of_getElem? (i := 515) (by decide +kernel)) rfl
theorem q440 : Cond.methodLink RL 75 yX3_scans ∈ wsL_law := wsL_ot (List.mem_of_getElem? (i := 521) (by decide +kernel)) rfl
theorem q441 : Cond.instanceMethod yX3_scans ∈ wsL_law := wsL_ot (List.mem_of_getElem? (i := 522) (by decide +kernel)) rfl
theorem q442 : Cond.selects RX3 yX3_scans yX3_scans ∈ wsL_law := wsL_ot (List.mem_of_getElem? (i := 523) (by decide +kernel)) rfl
theorem q443 : Cond.methodLink RL 78 yX3_worst ∈ wsL_law := wsL_ot (List.mem_of_getElem? (i := 569) (by decide +kernel)) rfl
theorem q444 : Cond.instanceMethod yX3_worst ∈ wsL_law := wsL_ot (List.mem_of_getElem? (i := 570) (by decide +kernel)) rfl
theorem q445 : Cond.selects RX3 yX3_worst yX3_worst ∈ wsL_law := wsL_ot (List.mem_of_getElem? (i := 571) (by decide +kernel)) rfl
theorem q446 : Cond.methodLink RL 82 yX3_best ∈ wsL_law := wsL_ot (List.mem_of_getElem? (i := 561) (by decide +kernel)) rfl
theorem q447 : Cond.instanceMethod yX3_best ∈ wsL_law := wsL_ot (List.mem_of_getElem? (i := 562) (by decide +kernel)) rfl
theorem q448 : Cond.selects RX3 yX3_best yX3_best ∈ wsL_law := wsL_ot (List.mem_of_getElem? (i := 563) (by decide +kernel)) rfl
theorem q449 : Cond.methodLink RL 85 yX3_mean ∈ wsL_law := wsL_ot (List.mem_of_getElem? (i := 573) (by decide +kernel)) rfl
theorem q450 : Cond.instanceMethod yX3_mean ∈ wsL_law := wsL_ot (List.mem_of_getElem? (i := 574) (by decide +kernel)) rfl
theorem q451 : Cond.selects RX3 yX3_mean yX3_mean ∈ wsL_law := wsL_ot (List.mem_of_getElem? (i := 575) (by decide +kernel)) rfl
theorem qfX0_0 : u_lay RX0 TX0 0 ∈ wsL_law := wsL_ot (List.mem_of_getElem? (i := 615) (by decide +kernel)) rfl
theorem qfX0_1 : u_lay RX0 TX0 1 ∈ wsL_law := wsL_ot (List.mem_of_getElem? (i := 617) (by decide +kernel)) rfl
theorem inX0 : ∀ w ∈ wsX00, w ∈ wsL_law := List.forall_mem_cons.mpr ⟨qfX0_0, List.forall_mem_cons.mpr ⟨qfX0_1, fun _ h => absurd h List.not_mem_nil⟩⟩
theorem qfX1_0 : u_lay RX1 TX1 0 ∈ wsL_law := wsL_ot (List.mem_of_getElem? (i := 331) (by decide +kernel)) rfl
theorem qfX1_1 : u_lay RX1 TX1 1 ∈ wsL_law := wsL_ot (List.mem_of_getElem? (i := 333) (by decide +kernel)) rfl
theorem qfX1_2 : u_lay RX1 TX1 2 ∈ wsL_law := wsL_ot (List.mem_of_getElem? (i := 335) (by decide +kernel)) rfl
theorem qfX1_3 : u_lay RX1 TX1 3 ∈ wsL_law := wsL_ot (List.mem_of_getElem? (i := 337) (by decide +kernel)) rfl
theorem qfX1_4 : u_lay RX1 TX1 4 ∈ wsL_law := wsL_ot (List.mem_of_getElem? (i := 339) (by decide +kernel)) rfl
theorem qfX1_5 : u_lay RX1 TX1 5 ∈ wsL_law := wsL_ot (List.mem_of_getElem? (i := 341) (by decide +kernel)) rfl
theorem qfX1_6 : u_lay RX1 TX1 6 ∈ wsL_law := wsL_ot (List.mem_of_getElem? (i := 343) (by decide +kernel)) rfl
theorem qfX1_7 : u_lay RX1 TX1 7 ∈ wsL_law := wsL_ot (List.mem_of_getElem? (i := 345) (by decide +kernel)) rfl
theorem qfX1_8 : u_lay RX1 TX1 8 ∈ wsL_law := wsL_ot (List.mem_of_getElem? (i := 347) (by decide +kernel)) rfl
theorem qfX1_9 : u_lay RX1 TX1 9 ∈ wsL_law := wsL_ot (List.mem_of_getElem? (i := 349) (by decide +kernel)) rfl
theorem qfX1_10 : u_lay RX1 TX1 10 ∈ wsL_law := wsL_ot (List.mem_of_getElem? (i := 351) (by decide +kernel)) rfl
theorem qfX1_11 : u_lay RX1 TX1 11 ∈ wsL_law := wsL_ot (List.mem_of_getElem? (i := 353) (by decide +kernel)) rfl
theorem qfX1_12 : u_lay RX1 TX1 12 ∈ wsL_law := wsL_ot (List.mem_of_getElem? (i := 355) (by decide +kernel)) rfl
theorem qfX1_13 : u_lay RX1 TX1 13 ∈ wsL_law := wsL_ot (List.mem_of_getElem? (i := 357) (by decide +kernel)) rfl
theorem qfX1_14 : u_lay RX1 TX1 14 ∈ wsL_law := wsL_ot (List.mem_of_getElem? (i := 359) (by decide +kernel)) rfl
theorem qfX1_15 : u_lay RX1 TX1 15 ∈ wsL_law := wsL_ot (List.mem_of_getElem? (i := 361) (by decide +kernel)) rfl
theorem qfX1_16 : u_lay RX1 TX1 16 ∈ wsL_law := wsL_ot (List.mem_of_getElem? (i := 363) (by decide +kernel)) rfl
theorem inX1 : ∀ w ∈ wsX10, w ∈ wsL_law := List.forall_mem_cons.mpr ⟨qfX1_0, List.forall_mem_cons.mpr ⟨qfX1_1, List.forall_mem_cons.mpr ⟨qfX1_2, List.forall_mem_cons.mpr ⟨qfX1_3, List.forall_mem_cons.mpr ⟨qfX1_4, List.forall_mem_cons.mpr ⟨qfX1_5, List.forall_mem_cons.mpr ⟨qfX1_6, List.forall_mem_cons.mpr ⟨qfX1_7, List.forall_mem_cons.mpr ⟨qfX1_8, List.forall_mem_cons.mpr ⟨qfX1_9, List.forall_mem_cons.mpr ⟨qfX1_10, List.forall_mem_cons.mpr ⟨qfX1_11, List.forall_mem_cons.mpr ⟨qfX1_12, List.forall_mem_cons.mpr ⟨qfX1_13, List.forall_mem_cons.mpr ⟨qfX1_14, List.forall_mem_cons.mpr ⟨qfX1_15, List.forall_mem_cons.mpr ⟨qfX1_16, fun _ h => absurd h List.not_mem_nil⟩⟩⟩⟩⟩⟩⟩⟩⟩⟩⟩⟩⟩⟩⟩⟩⟩
theorem qfX2_0 : u_lay RX2 TX2 0 ∈ wsL_law := wsL_ot (List.mem_of_getElem? (i := 140) (by decide +kernel)) rfl
theorem qfX2_1 : u_lay RX2 TX2 1 ∈ wsL_law := wsL_ot (List.mem_of_getElem? (i := 142) (by decide +kernel)) rfl
theorem qfX2_2 : u_lay RX2 TX2 2 ∈ wsL_law := wsL_ot (List.mem_of_getElem? (i := 144) (by decide +kernel)) rfl
theorem qfX2_3 : u_lay RX2 TX2 3 ∈ wsL_law := wsL_ot (List.mem_of_getElem? (i := 146) (by decide +kernel)) rfl
theorem qfX2_4 : u_lay RX2 TX2 4 ∈ wsL_law := wsL_ot (List.mem_of_getElem? (i := 148) (by decide +kernel)) rfl
theorem qfX2_5 : u_lay RX2 TX2 5 ∈ wsL_law := wsL_ot (List.mem_of_getElem? (i := 150) (by decide +kernel)) rfl
theorem inX2 : ∀ w ∈ wsX20, w ∈ wsL_law := List.forall_mem_cons.mpr ⟨qfX2_0, List.forall_mem_cons.mpr ⟨qfX2_1, List.forall_mem_cons.mpr ⟨qfX2_2, List.forall_mem_cons.mpr ⟨qfX2_3, List.forall_mem_cons.mpr ⟨qfX2_4, List.forall_mem_cons.mpr ⟨qfX2_5, fun _ h => absurd h List.not_mem_nil⟩⟩⟩⟩⟩⟩
theorem qfX3_0 : u_lay RX3 TX3 0 ∈ wsL_law := wsL_ot (List.mem_of_getElem? (i := 624) (by decide +kernel)) rfl
theorem qfX3_1 : u_lay RX3 TX3 1 ∈ wsL_law := wsL_ot (List.mem_of_getElem? (i := 626) (by decide +kernel)) rfl
theorem qfX3_2 : u_lay RX3 TX3 2 ∈ wsL_law := wsL_ot (List.mem_of_getElem? (i := 628) (by decide +kernel)) rfl
theorem inX3 : ∀ w ∈ wsX30, w ∈ wsL_law := List.forall_mem_cons.mpr ⟨qfX3_0, List.forall_mem_cons.mpr ⟨qfX3_1, List.forall_mem_cons.mpr ⟨qfX3_2, fun _ h => absurd h List.not_mem_nil⟩⟩⟩
theorem qfJx4a65c_0 : u_lay RJx4a65c TJx4a65c 0 ∈ wsL_law := wsL_ot (List.mem_of_getElem? (i := 304) (by decide +kernel)) rfl
theorem qfJx4a65c_1 : u_lay RJx4a65c TJx4a65c 1 ∈ wsL_law := wsL_ot (List.mem_of_getElem? (i := 300) (by decide +kernel)) rfl
theorem qfJx4a65c_2 : u_lay RJx4a65c TJx4a65c 2 ∈ wsL_law := wsL_ot (List.mem_of_getElem? (i := 302) (by decide +kernel)) rfl
theorem inJx4a65c : ∀ w ∈ wsJx4a65c0, w ∈ wsL_law := List.forall_mem_cons.mpr ⟨qfJx4a65c_0, List.forall_mem_cons.mpr ⟨qfJx4a65c_1, List.forall_mem_cons.mpr ⟨qfJx4a65c_2, fun _ h => absurd h List.not_mem_nil⟩⟩⟩
