theorem q490 : Cond.selects RX4 yX4_toldOf yX4_toldOf ∈ wsL_law := List.mem_append_left _ (List.mem_of_getElem? (i := 33) rfl)
theorem q491 : Cond.code yX4_told cX4_told 3 (some .int) ∈ wsL_law := wsL_ot (List.mem_of_getElem? (i := 798) (by decide +kernel)) rfl
theorem q492 : Cond.code yX4_stress cX4_stress 3 (some .int) ∈ wsL_law := wsL_ot (List.mem_of_getElem? (i := 857) (by decide +kernel)) rfl
theorem q493 : Cond.code yX4_melted cX4_melted 4 (some .int) ∈ wsL_law := wsL_ot (List.mem_of_getElem? (i := 861) (by decide +kernel)) rfl
theorem q494 : Cond.code yX4_rhyme cX4_rhyme 3 (some .int) ∈ wsL_law := wsL_ot (List.mem_of_getElem? (i := 865) (by decide +kernel)) rfl
theorem q495 : Cond.constant RX4 153 (2147483647) ∈ wsL_law := wsL_ot (List.mem_of_getElem? (i := 870) (by decide +kernel)) rfl
theorem q496 : Cond.code yX4_scans cX4_scans 6 (some .int) ∈ wsL_law := wsL_ot (List.mem_of_getElem? (i := 869) (by decide +kernel)) rfl
theorem q497 : Cond.code yX4_counted cX4_counted 7 (some .int) ∈ wsL_law := wsL_ot (List.mem_of_getElem? (i := 878) (by decide +kernel)) rfl
theorem q498 : Cond.methodLink RX4 154 yX4_counted ∈ wsL_law := wsL_ot (List.mem_of_getElem? (i := 875) (by decide +kernel)) rfl
theorem q499 : Cond.instanceMethod yX4_counted ∈ wsL_law := wsL_ot (List.mem_of_getElem? (i := 877) (by decide +kernel)) rfl
theorem q500 : Cond.selects RX4 yX4_counted yX4_counted ∈ wsL_law := List.mem_append_left _ (List.mem_of_getElem? (i := 34) rfl)
theorem q501 : Cond.code yX4_count cX4_count 2 (some .int) ∈ wsL_law := wsL_ot (List.mem_of_getElem? (i := 874) (by decide +kernel)) rfl
theorem q502 : Cond.code yX4_taxesWith cX4_taxesWith 5 (some .int) ∈ wsL_law := wsL_ot (List.mem_of_getElem? (i := 886) (by decide +kernel)) rfl
theorem q503 : Cond.methodLink RX4 157 yX4_taxesWith ∈ wsL_law := wsL_ot (List.mem_of_getElem? (i := 883) (by decide +kernel)) rfl
theorem q504 : Cond.instanceMethod yX4_taxesWith ∈ wsL_law := wsL_ot (List.mem_of_getElem? (i := 885) (by decide +kernel)) rfl
theorem q505 : Cond.selects RX4 yX4_taxesWith yX4_taxesWith ∈ wsL_law := List.mem_append_left _ (List.mem_of_getElem? (i := 35) rfl)
theorem q506 : Cond.code yX4_tries cX4_tries 4 (some .int) ∈ wsL_law := wsL_ot (List.mem_of_getElem? (i := 882) (by decide +kernel)) rfl
theorem q507 : Cond.code yX4_best cX4_best 7 (some .int) ∈ wsL_law := wsL_ot (List.mem_of_getElem? (i := 890) (by decide +kernel)) rfl
theorem q508 : Cond.code yX4_worst cX4_worst 7 (some .int) ∈ wsL_law := wsL_ot (List.mem_of_getElem? (i := 894) (by decide +kernel)) rfl
theorem q509 : Cond.code yX4_mean cX4_mean 1 (some .double) ∈ wsL_law := wsL_ot (List.mem_of_getElem? (i := 898) (by decide +kernel)) rfl
theorem q510 : Cond.constantLong RX4 160 (977) ∈ wsL_law := wsL_ot (List.mem_of_getElem? (i := 903) (by decide +kernel)) rfl
theorem q511 : Cond.constantLong RX4 162 (31) ∈ wsL_law := wsL_ot (List.mem_of_getElem? (i := 904) (by decide +kernel)) rfl
theorem q512 : Cond.code yX4_digest cX4_digest 5 (some .long) ∈ wsL_law := wsL_ot (List.mem_of_getElem? (i := 902) (by decide +kernel)) rfl
theorem q513 : Cond.code yJ9_max_7cf53 cJ9_max_7cf53 2 (some .int) ∈ wsL_law := wsL_ot (List.mem_of_getElem? (i := 156) (by decide +kernel)) rfl
theorem q514 : Cond.code yJ9_min_7cf53 cJ9_min_7cf53 2 (some .int) ∈ wsL_law := wsL_ot (List.mem_of_getElem? (i := 174) (by decide +kernel)) rfl
theorem q515 : Cond.classLink RL 13 "java/lang/IllegalArgumentException" ∈ wsL_law := wsL_ot (List.mem_of_getElem? (i := 283) (by decide +kernel)) rfl
theorem q516 : Cond.classLink RL 15 "java/lang/IllegalStateException" ∈ wsL_law := wsL_ot (List.mem_of_getElem? (i := 284) (by decide +kernel)) rfl
theorem q517 : Cond.methodLink RL 7 yX3_word ∈ wsL_law := wsL_ot (List.mem_of_getElem? (i := 285) (by decide +kernel)) rfl
theorem q518 : Cond.instanceMethod yX3_word ∈ wsL_law := wsL_ot (List.mem_of_getElem? (i := 286) (by decide +kernel)) rfl
theorem q519 : Cond.selects RX3 yX3_word yX3_word ∈ wsL_law := wsL_ot (List.mem_of_getElem? (i := 287) (by decide +kernel)) rfl
theorem q520 : Cond.codeWith yL_word cL_word 8 (some .int) [(0, 16, 19, 13), (0, 16, 23, 15)] ∈ wsL_law := wsL_ot (List.mem_of_getElem? (i := 282) (by decide +kernel)) rfl
theorem q521 : Cond.classLink RL 21 "java/lang/IndexOutOfBoundsException" ∈ wsL_law := wsL_ot (List.mem_of_getElem? (i := 462) (by decide +kernel)) rfl
theorem q522 : Cond.methodLink RL 17 yX3_about ∈ wsL_law := wsL_ot (List.mem_of_getElem? (i := 463) (by decide +kernel)) rfl
theorem q523 : Cond.instanceMethod yX3_about ∈ wsL_law := wsL_ot (List.mem_of_getElem? (i := 464) (by decide +kernel)) rfl
theorem q524 : Cond.selects RX3 yX3_about yX3_about ∈ wsL_law := wsL_ot (List.mem_of_getElem? (i := 465) (by decide +kernel)) rfl
theorem q525 : Cond.codeWith yL_about cL_about 5 (some .int) [(0, 10, 13, 21)] ∈ wsL_law := wsL_ot (List.mem_of_getElem? (i := 461) (by decide +kernel)) rfl
theorem q526 : Cond.methodLink RL 23 yX3_line ∈ wsL_law := wsL_ot (List.mem_of_getElem? (i := 493) (by decide +kernel)) rfl
theorem q527 : Cond.instanceMethod yX3_line ∈ wsL_law := wsL_ot (List.mem_of_getElem? (i := 494) (by decide +kernel)) rfl
theorem q528 : Cond.selects RX3 yX3_line yX3_line ∈ wsL_law := wsL_ot (List.mem_of_getElem? (i := 495) (by decide +kernel)) rfl
theorem q529 : Cond.codeWith yL_line cL_line 6 (some .int) [(0, 12, 15, 13), (0, 12, 19, 15)] ∈ wsL_law := wsL_ot (List.mem_of_getElem? (i := 492) (by decide +kernel)) rfl
theorem q530 : Cond.methodLink RL 27 yX3_write ∈ wsL_law := wsL_ot (List.mem_of_getElem? (i := 572) (by decide +kernel)) rfl
theorem q531 : Cond.instanceMethod yX3_write ∈ wsL_law := wsL_ot (List.mem_of_getElem? (i := 573) (by decide +kernel)) rfl
theorem q532 : Cond.selects RX3 yX3_write yX3_write ∈ wsL_law := wsL_ot (List.mem_of_getElem? (i := 574) (by decide +kernel)) rfl
theorem q533 : Cond.codeWith yL_write cL_write 6 (some .int) [(0, 12, 15, 21), (0, 12, 19, 15)] ∈ wsL_law := wsL_ot (List.mem_of_getElem? (i := 571) (by decide +kernel)) rfl
theorem q534 : Cond.methodLink RL 30 yX3_strike ∈ wsL_law := wsL_ot (List.mem_of_getElem? (i := 589) (by decide +kernel)) rfl
theorem q535 : Cond.instanceMethod yX3_strike ∈ wsL_law := wsL_ot (List.mem_of_getElem? (i := 590) (by decide +kernel)) rfl
theorem q536 : Cond.selects RX3 yX3_strike yX3_strike ∈ wsL_law := wsL_ot (List.mem_of_getElem? (i := 591) (by decide +kernel)) rfl
theorem q537 : Cond.codeWith yL_strike cL_strike 4 (some .int) [(0, 9, 12, 21), (0, 9, 15, 15)] ∈ wsL_law := wsL_ot (List.mem_of_getElem? (i := 588) (by decide +kernel)) rfl
theorem q538 : Cond.methodLink RL 34 yX3_written ∈ wsL_law := wsL_ot (List.mem_of_getElem? (i := 610) (by decide +kernel)) rfl
theorem q539 : Cond.instanceMethod yX3_written ∈ wsL_law := wsL_ot (List.mem_of_getElem? (i := 611) (by decide +kernel)) rfl
theorem q540 : Cond.selects RX3 yX3_written yX3_written ∈ wsL_law := wsL_ot (List.mem_of_getElem? (i := 612) (by decide +kernel)) rfl
theorem q541 : Cond.codeWith yL_written cL_written 5 (some .int) [(0, 10, 13, 21)] ∈ wsL_law := wsL_ot (List.mem_of_getElem? (i := 609) (by decide +kernel)) rfl
theorem q542 : Cond.methodLink RL 37 yX3_told ∈ wsL_law := wsL_ot (List.mem_of_getElem? (i := 620) (by decide +kernel)) rfl
theorem q543 : Cond.instanceMethod yX3_told ∈ wsL_law := wsL_ot (List.mem_of_getElem? (i := 621) (by decide +kernel)) rfl
theorem q544 : Cond.selects RX3 yX3_told yX3_told ∈ wsL_law := wsL_ot (List.mem_of_getElem? (i := 622) (by decide +kernel)) rfl
theorem q545 : Cond.codeWith yL_told cL_told 5 (some .int) [(0, 10, 13, 21)] ∈ wsL_law := wsL_ot (List.mem_of_getElem? (i := 619) (by decide +kernel)) rfl
theorem q546 : Cond.methodLink RL 40 yX3_stress ∈ wsL_law := wsL_ot (List.mem_of_getElem? (i := 627) (by decide +kernel)) rfl
theorem q547 : Cond.instanceMethod yX3_stress ∈ wsL_law := wsL_ot (List.mem_of_getElem? (i := 628) (by decide +kernel)) rfl
theorem q548 : Cond.selects RX3 yX3_stress yX3_stress ∈ wsL_law := wsL_ot (List.mem_of_getElem? (i := 629) (by decide +kernel)) rfl
theorem q549 : Cond.codeWith yL_stress cL_stress 5 (some .int) [(0, 10, 13, 21)] ∈ wsL_law := wsL_ot (List.mem_of_getElem? (i := 626) (by decide +kernel)) rfl
theorem q550 : Cond.methodLink RL 43 yX3_melted ∈ wsL_law := wsL_ot (List.mem_of_getElem? (i := 634) (by decide +kernel)) rfl
theorem q551 : Cond.instanceMethod yX3_melted ∈ wsL_law := wsL_ot (List.mem_of_getElem? (i := 635) (by decide +kernel)) rfl
theorem q552 : Cond.selects RX3 yX3_melted yX3_melted ∈ wsL_law := wsL_ot (List.mem_of_getElem? (i := 636) (by decide +kernel)) rfl
theorem q553 : Cond.codeWith yL_melted cL_melted 4 (some .int) [(0, 9, 12, 21)] ∈ wsL_law := wsL_ot (List.mem_of_getElem? (i := 633) (by decide +kernel)) rfl
theorem q554 : Cond.methodLink RL 46 yX3_rhyme ∈ wsL_law := wsL_ot (List.mem_of_getElem? (i := 641) (by decide +kernel)) rfl
theorem q555 : Cond.instanceMethod yX3_rhyme ∈ wsL_law := wsL_ot (List.mem_of_getElem? (i := 642) (by decide +kernel)) rfl
theorem q556 : Cond.selects RX3 yX3_rhyme yX3_rhyme ∈ wsL_law := wsL_ot (List.mem_of_getElem? (i := 643) (by decide +kernel)) rfl
theorem q557 : Cond.codeWith yL_rhyme cL_rhyme 5 (some .int) [(0, 10, 13, 21)] ∈ wsL_law := wsL_ot (List.mem_of_getElem? (i := 640) (by decide +kernel)) rfl
theorem q558 : Cond.methodLink RL 49 yX3_scans ∈ wsL_law := wsL_ot (List.mem_of_getElem? (i := 648) (by decide +kernel)) rfl
theorem q559 : Cond.instanceMethod yX3_scans ∈ wsL_law := wsL_ot (List.mem_of_getElem? (i := 649) (by decide +kernel)) rfl
theorem q560 : Cond.selects RX3 yX3_scans yX3_scans ∈ wsL_law := wsL_ot (List.mem_of_getElem? (i := 650) (by decide +kernel)) rfl
theorem q561 : Cond.codeWith yL_scans cL_scans 4 (some .int) [(0, 9, 12, 21)] ∈ wsL_law := wsL_ot (List.mem_of_getElem? (i := 647) (by decide +kernel)) rfl
theorem q562 : Cond.methodLink RL 52 yX3_count ∈ wsL_law := wsL_ot (List.mem_of_getElem? (i := 659) (by decide +kernel)) rfl
theorem q563 : Cond.instanceMethod yX3_count ∈ wsL_law := wsL_ot (List.mem_of_getElem? (i := 660) (by decide +kernel)) rfl
theorem q564 : Cond.selects RX3 yX3_count yX3_count ∈ wsL_law := wsL_ot (List.mem_of_getElem? (i := 661) (by decide +kernel)) rfl
theorem q565 : Cond.codeWith yL_count cL_count 4 (some .int) [(0, 9, 12, 21)] ∈ wsL_law := wsL_ot (List.mem_of_getElem? (i := 658) (by decide +kernel)) rfl
theorem q566 : Cond.methodLink RL 55 yX3_tries ∈ wsL_law := wsL_ot (List.mem_of_getElem? (i := 666) (by decide +kernel)) rfl
theorem q567 : Cond.instanceMethod yX3_tries ∈ wsL_law := wsL_ot (List.mem_of_getElem? (i := 667) (by decide +kernel)) rfl
theorem q568 : Cond.selects RX3 yX3_tries yX3_tries ∈ wsL_law := wsL_ot (List.mem_of_getElem? (i := 668) (by decide +kernel)) rfl
theorem q569 : Cond.codeWith yL_tries cL_tries 6 (some .int) [(0, 12, 15, 21)] ∈ wsL_law := wsL_ot (List.mem_of_getElem? (i := 665) (by decide +kernel)) rfl
theorem q570 : Cond.methodLink RL 58 yX3_best ∈ wsL_law := wsL_ot (List.mem_of_getElem? (i := 673) (by decide +kernel)) rfl
theorem q571 : Cond.instanceMethod yX3_best ∈ wsL_law := wsL_ot (List.mem_of_getElem? (i := 674) (by decide +kernel)) rfl
theorem q572 : Cond.selects RX3 yX3_best yX3_best ∈ wsL_law := wsL_ot (List.mem_of_getElem? (i := 675) (by decide +kernel)) rfl
theorem q573 : Cond.codeWith yL_best cL_best 5 (some .int) [(0, 10, 13, 21)] ∈ wsL_law := wsL_ot (List.mem_of_getElem? (i := 672) (by decide +kernel)) rfl
theorem q574 : Cond.classLink RL 8 RX3 ∈ wsL_law := wsL_ot (List.mem_of_getElem? (i := 23) (by decide +kernel)) rfl
theorem q575 : Cond.instantiable RX3 3 ∈ wsL_law := wsL_ot (List.mem_of_getElem? (i := 24) (by decide +kernel)) rfl
theorem q576 : Cond.classLink RL 62 RX4 ∈ wsL_law := wsL_ot (List.mem_of_getElem? (i := 677) (by decide +kernel)) rfl
theorem q577 : Cond.instantiable RX4 21 ∈ wsL_law := wsL_ot (List.mem_of_getElem? (i := 678) (by decide +kernel)) rfl
theorem q578 : Cond.methodLink RL 61 yX3_init ∈ wsL_law := wsL_ot (List.mem_of_getElem? (i := 25) (by decide +kernel)) rfl
theorem q579 : Cond.instanceMethod yX3_init ∈ wsL_law := wsL_ot (List.mem_of_getElem? (i := 26) (by decide +kernel)) rfl
theorem q580 : Cond.methodLink RL 64 yX4_init ∈ wsL_law := wsL_ot (List.mem_of_getElem? (i := 679) (by decide +kernel)) rfl
theorem q581 : Cond.instanceMethod yX4_init ∈ wsL_law := wsL_ot (List.mem_of_getElem? (i := 680) (by decide +kernel)) rfl
theorem q582 : Cond.methodLink RX4 1 objectInit ∈ wsL_law := wsL_ot (List.mem_of_getElem? (i := 682) (by decide +kernel)) rfl
theorem q583 : Cond.methodLink RL 65 yL_word ∈ wsL_law := wsL_ot (List.mem_of_getElem? (i := 280) (by decide +kernel)) rfl
theorem q584 : Cond.static yL_word ∈ wsL_law := wsL_ot (List.mem_of_getElem? (i := 281) (by decide +kernel)) rfl
theorem q585 : Cond.initialized RL ∈ wsL_law := wsL_ot (List.mem_of_getElem? (i := 0) (by decide +kernel)) rfl
theorem q586 : Cond.methodLink RL 70 yX4_word ∈ wsL_law := wsL_ot (List.mem_of_getElem? (i := 752) (by decide +kernel)) rfl
theorem q587 : Cond.instanceMethod yX4_word ∈ wsL_law := wsL_ot (List.mem_of_getElem? (i := 753) (by decide +kernel)) rfl
theorem q588 : Cond.selects RX4 yX4_word yX4_word ∈ wsL_law := wsL_ot (List.mem_of_getElem? (i := 754) (by decide +kernel)) rfl
theorem q589 : Cond.methodLink RL 71 yX4_thrown ∈ wsL_law := wsL_ot (List.mem_of_getElem? (i := 748) (by decide +kernel)) rfl
theorem q590 : Cond.instanceMethod yX4_thrown ∈ wsL_law := wsL_ot (List.mem_of_getElem? (i := 749) (by decide +kernel)) rfl
theorem q591 : Cond.selects RX4 yX4_thrown yX4_thrown ∈ wsL_law := wsL_ot (List.mem_of_getElem? (i := 750) (by decide +kernel)) rfl
theorem q592 : Cond.methodLink RL 75 yL_about ∈ wsL_law := wsL_ot (List.mem_of_getElem? (i := 459) (by decide +kernel)) rfl
theorem q593 : Cond.static yL_about ∈ wsL_law := wsL_ot (List.mem_of_getElem? (i := 460) (by decide +kernel)) rfl
theorem q594 : Cond.methodLink RL 78 yX4_about ∈ wsL_law := wsL_ot (List.mem_of_getElem? (i := 763) (by decide +kernel)) rfl
theorem q595 : Cond.instanceMethod yX4_about ∈ wsL_law := wsL_ot (List.mem_of_getElem? (i := 764) (by decide +kernel)) rfl
theorem q596 : Cond.selects RX4 yX4_about yX4_about ∈ wsL_law := wsL_ot (List.mem_of_getElem? (i := 765) (by decide +kernel)) rfl
theorem q597 : Cond.methodLink RL 79 yL_line ∈ wsL_law := wsL_ot (List.mem_of_getElem? (i := 490) (by decide +kernel)) rfl
theorem q598 : Cond.static yL_line ∈ wsL_law := wsL_ot (List.mem_of_getElem? (i := 491) (by decide +kernel)) rfl
theorem q599 : Cond.methodLink RL 82 yX4_line ∈ wsL_law := wsL_ot (List.mem_of_getElem? (i := 775) (by decide +kernel)) rfl
theorem q600 : Cond.instanceMethod yX4_line ∈ wsL_law := wsL_ot (List.mem_of_getElem? (i := 776) (by decide +kernel)) rfl
theorem q601 : Cond.selects RX4 yX4_line yX4_line ∈ wsL_law := wsL_ot (List.mem_of_getElem? (i := 777) (by decide +kernel)) rfl
theorem q602 : Cond.methodLink RL 83 yL_write ∈ wsL_law := wsL_ot (List.mem_of_getElem? (i := 569) (by decide +kernel)) rfl
theorem q603 : Cond.static yL_write ∈ wsL_law := wsL_ot (List.mem_of_getElem? (i := 570) (by decide +kernel)) rfl
theorem q604 : Cond.methodLink RL 85 yX4_write ∈ wsL_law := wsL_ot (List.mem_of_getElem? (i := 779) (by decide +kernel)) rfl
theorem q605 : Cond.instanceMethod yX4_write ∈ wsL_law := wsL_ot (List.mem_of_getElem? (i := 780) (by decide +kernel)) rfl
theorem q606 : Cond.selects RX4 yX4_write yX4_write ∈ wsL_law := wsL_ot (List.mem_of_getElem? (i := 781) (by decide +kernel)) rfl
theorem q607 : Cond.methodLink RL 86 yL_strike ∈ wsL_law := wsL_ot (List.mem_of_getElem? (i := 586) (by decide +kernel)) rfl
theorem q608 : Cond.static yL_strike ∈ wsL_law := wsL_ot (List.mem_of_getElem? (i := 587) (by decide +kernel)) rfl
theorem q609 : Cond.methodLink RL 89 yX4_strike ∈ wsL_law := wsL_ot (List.mem_of_getElem? (i := 787) (by decide +kernel)) rfl
theorem q610 : Cond.instanceMethod yX4_strike ∈ wsL_law := wsL_ot (List.mem_of_getElem? (i := 788) (by decide +kernel)) rfl
theorem q611 : Cond.selects RX4 yX4_strike yX4_strike ∈ wsL_law := wsL_ot (List.mem_of_getElem? (i := 789) (by decide +kernel)) rfl
theorem q612 : Cond.methodLink RL 90 yL_written ∈ wsL_law := wsL_ot (List.mem_of_getElem? (i := 607) (by decide +kernel)) rfl
theorem q613 : Cond.static yL_written ∈ wsL_law := wsL_ot (List.mem_of_getElem? (i := 608) (by decide +kernel)) rfl
theorem q614 : Cond.methodLink RL 92 yX4_written ∈ wsL_law := wsL_ot (List.mem_of_getElem? (i := 791) (by decide +kernel)) rfl
theorem q615 : Cond.instanceMethod yX4_written ∈ wsL_law := wsL_ot (List.mem_of_getElem? (i := 792) (by decide +kernel)) rfl
theorem q616 : Cond.selects RX4 yX4_written yX4_written ∈ wsL_law := wsL_ot (List.mem_of_getElem? (i := 793) (by decide +kernel)) rfl
theorem q617 : Cond.methodLink RL 93 yL_told ∈ wsL_law := wsL_ot (List.mem_of_getElem? (i := 617) (by decide +kernel)) rfl
theorem q618 : Cond.static yL_told ∈ wsL_law := wsL_ot (List.mem_of_getElem? (i := 618) (by decide +kernel)) rfl
theorem q619 : Cond.methodLink RL 95 yX4_told ∈ wsL_law := wsL_ot (List.mem_of_getElem? (i := 795) (by decide +kernel)) rfl
theorem q620 : Cond.instanceMethod yX4_told ∈ wsL_law := wsL_ot (List.mem_of_getElem? (i := 796) (by decide +kernel)) rfl
theorem q621 : Cond.selects RX4 yX4_told yX4_told ∈ wsL_law := wsL_ot (List.mem_of_getElem? (i := 797) (by decide +kernel)) rfl
theorem q622 : Cond.methodLink RL 96 yL_stress ∈ wsL_law := wsL_ot (List.mem_of_getElem? (i := 624) (by decide +kernel)) rfl
theorem q623 : Cond.static yL_stress ∈ wsL_law := wsL_ot (List.mem_of_getElem? (i := 625) (by decide +kernel)) rfl
theorem q624 : Cond.methodLink RL 98 yX4_stress ∈ wsL_law := wsL_ot (List.mem_of_getElem? (i := 854) (by decide +kernel)) rfl
theorem q625 : Cond.instanceMethod yX4_stress ∈ wsL_law := wsL_ot (List.mem_of_getElem? (i := 855) (by decide +kernel)) rfl
theorem q626 : Cond.selects RX4 yX4_stress yX4_stress ∈ wsL_law := wsL_ot (List.mem_of_getElem? (i := 856) (by decide +kernel)) rfl
theorem q627 : Cond.methodLink RL 99 yL_melted ∈ wsL_law := wsL_ot (List.mem_of_getElem? (i := 631) (by decide +kernel)) rfl
theorem q628 : Cond.static yL_melted ∈ wsL_law := wsL_ot (List.mem_of_getElem? (i := 632) (by decide +kernel)) rfl
theorem q629 : Cond.methodLink RL 101 yX4_melted ∈ wsL_law := wsL_ot (List.mem_of_getElem? (i := 858) (by decide +kernel)) rfl
theorem q630 : Cond.instanceMethod yX4_melted ∈ wsL_law := wsL_ot (List.mem_of_getElem? (i := 859) (by decide +kernel)) rfl
theorem q631 : Cond.selects RX4 yX4_melted yX4_melted ∈ wsL_law := wsL_ot (List.mem_of_getElem? (i := 860) (by decide +kernel)) rfl
theorem q632 : Cond.methodLink RL 102 yL_rhyme ∈ wsL_law := wsL_ot (List.mem_of_getElem? (i := 638) (by decide +kernel)) rfl
theorem q633 : Cond.static yL_rhyme ∈ wsL_law := wsL_ot (List.mem_of_getElem? (i := 639) (by decide +kernel)) rfl
theorem q634 : Cond.methodLink RL 104 yX4_rhyme ∈ wsL_law := wsL_ot (List.mem_of_getElem? (i := 862) (by decide +kernel)) rfl
theorem q635 : Cond.instanceMethod yX4_rhyme ∈ wsL_law := wsL_ot (List.mem_of_getElem? (i := 863) (by decide +kernel)) rfl
theorem q636 : Cond.selects RX4 yX4_rhyme yX4_rhyme ∈ wsL_law := wsL_ot (List.mem_of_getElem? (i := 864) (by decide +kernel)) rfl
theorem q637 : Cond.methodLink RL 105 yL_scans ∈ wsL_law := wsL_ot (List.mem_of_getElem? (i := 645) (by decide +kernel)) rfl
theorem q638 : Cond.static yL_scans ∈ wsL_law := wsL_ot (List.mem_of_getElem? (i := 646) (by decide +kernel)) rfl
theorem q639 : Cond.methodLink RL 107 yX4_scans ∈ wsL_law := wsL_ot (List.mem_of_getElem? (i := 866) (by decide +kernel)) rfl
theorem q640 : Cond.instanceMethod yX4_scans ∈ wsL_law := wsL_ot (List.mem_of_getElem? (i := 867) (by decide +kernel)) rfl
theorem q641 : Cond.selects RX4 yX4_scans yX4_scans ∈ wsL_law := wsL_ot (List.mem_of_getElem? (i := 868) (by decide +kernel)) rfl
theorem q642 : Cond.methodLink RL 108 yL_count ∈ wsL_law := wsL_ot (List.mem_of_getElem? (i := 656) (by decide +kernel)) rfl
theorem q643 : Cond.static yL_count ∈ wsL_law := wsL_ot (List.mem_of_getElem? (i := 657) (by decide +kernel)) rfl
theorem q644 : Cond.methodLink RL 110 yX4_count ∈ wsL_law := wsL_ot (List.mem_of_getElem? (i := 871) (by decide +kernel)) rfl
theorem q645 : Cond.instanceMethod yX4_count ∈ wsL_law := wsL_ot (List.mem_of_getElem? (i := 872) (by decide +kernel)) rfl
theorem q646 : Cond.selects RX4 yX4_count yX4_count ∈ wsL_law := wsL_ot (List.mem_of_getElem? (i := 873) (by decide +kernel)) rfl
theorem q647 : Cond.methodLink RL 111 yL_tries ∈ wsL_law := wsL_ot (List.mem_of_getElem? (i := 663) (by decide +kernel)) rfl
theorem q648 : Cond.static yL_tries ∈ wsL_law := wsL_ot (List.mem_of_getElem? (i := 664) (by decide +kernel)) rfl
theorem q649 : Cond.methodLink RL 113 yX4_tries ∈ wsL_law := wsL_ot (List.mem_of_getElem? (i := 879) (by decide +kernel)) rfl
theorem q650 : Cond.instanceMethod yX4_tries ∈ wsL_law := wsL_ot (List.mem_of_getElem? (i := 880) (by decide +kernel)) rfl
theorem q651 : Cond.selects RX4 yX4_tries yX4_tries ∈ wsL_law := wsL_ot (List.mem_of_getElem? (i := 881) (by decide +kernel)) rfl
theorem q652 : Cond.methodLink RL 114 yL_best ∈ wsL_law := wsL_ot (List.mem_of_getElem? (i := 670) (by decide +kernel)) rfl
theorem q653 : Cond.static yL_best ∈ wsL_law := wsL_ot (List.mem_of_getElem? (i := 671) (by decide +kernel)) rfl
theorem q654 : Cond.methodLink RL 116 yX4_best ∈ wsL_law := wsL_ot (List.mem_of_getElem? (i := 887) (by decide +kernel)) rfl
theorem q655 : Cond.instanceMethod yX4_best ∈ wsL_law := wsL_ot (List.mem_of_getElem? (i := 888) (by decide +kernel)) rfl
theorem q656 : Cond.selects RX4 yX4_best yX4_best ∈ wsL_law := wsL_ot (List.mem_of_getElem? (i := 889) (by decide +kernel)) rfl
theorem q657 : Cond.methodLink RL 117 yX3_worst ∈ wsL_law := wsL_ot (List.mem_of_getElem? (i := 82) (by decide +kernel)) rfl
theorem q658 : Cond.instanceMethod yX3_worst ∈ wsL_law := wsL_ot (List.mem_of_getElem? (i := 83) (by decide +kernel)) rfl
theorem q659 : Cond.selects RX3 yX3_worst yX3_worst ∈ wsL_law := wsL_ot (List.mem_of_getElem? (i := 84) (by decide +kernel)) rfl
theorem q660 : Cond.methodLink RL 120 yX4_worst ∈ wsL_law := wsL_ot (List.mem_of_getElem? (i := 891) (by decide +kernel)) rfl
theorem q661 : Cond.instanceMethod yX4_worst ∈ wsL_law := wsL_ot (List.mem_of_getElem? (i := 892) (by decide +kernel)) rfl
theorem q662 : Cond.selects RX4 yX4_worst yX4_worst ∈ wsL_law := wsL_ot (List.mem_of_getElem? (i := 893) (by decide +kernel)) rfl
theorem q663 : Cond.methodLink RL 121 yX3_mean ∈ wsL_law := wsL_ot (List.mem_of_getElem? (i := 228) (by decide +kernel)) rfl
theorem q664 : Cond.instanceMethod yX3_mean ∈ wsL_law := wsL_ot (List.mem_of_getElem? (i := 229) (by decide +kernel)) rfl
theorem q665 : Cond.selects RX3 yX3_mean yX3_mean ∈ wsL_law := wsL_ot (List.mem_of_getElem? (i := 230) (by decide +kernel)) rfl
theorem q666 : Cond.methodLink RL 125 yX4_mean ∈ wsL_law := wsL_ot (List.mem_of_getElem? (i := 895) (by decide +kernel)) rfl
theorem q667 : Cond.instanceMethod yX4_mean ∈ wsL_law := wsL_ot (List.mem_of_getElem? (i := 896) (by decide +kernel)) rfl
theorem q668 : Cond.selects RX4 yX4_mean yX4_mean ∈ wsL_law := wsL_ot (List.mem_of_getElem? (i := 897) (by decide +kernel)) rfl
theorem q669 : Cond.methodLink RL 126 yX3_digest ∈ wsL_law := wsL_ot (List.mem_of_getElem? (i := 232) (by decide +kernel)) rfl
theorem q670 : Cond.instanceMethod yX3_digest ∈ wsL_law := wsL_ot (List.mem_of_getElem? (i := 233) (by decide +kernel)) rfl
theorem q671 : Cond.selects RX3 yX3_digest yX3_digest ∈ wsL_law := wsL_ot (List.mem_of_getElem? (i := 234) (by decide +kernel)) rfl
theorem q672 : Cond.methodLink RL 130 yX4_digest ∈ wsL_law := wsL_ot (List.mem_of_getElem? (i := 899) (by decide +kernel)) rfl
theorem q673 : Cond.instanceMethod yX4_digest ∈ wsL_law := wsL_ot (List.mem_of_getElem? (i := 900) (by decide +kernel)) rfl
theorem q674 : Cond.selects RX4 yX4_digest yX4_digest ∈ wsL_law := wsL_ot (List.mem_of_getElem? (i := 901) (by decide +kernel)) rfl
theorem qfX0_0 : u_lay RX0 TX0 0 ∈ wsL_law := wsL_ot (List.mem_of_getElem? (i := 66) (by decide +kernel)) rfl
theorem qfX0_1 : u_lay RX0 TX0 1 ∈ wsL_law := wsL_ot (List.mem_of_getElem? (i := 68) (by decide +kernel)) rfl
theorem inX0 : ∀ w ∈ wsX00, w ∈ wsL_law := List.forall_mem_cons.mpr ⟨qfX0_0, List.forall_mem_cons.mpr ⟨qfX0_1, fun _ h => absurd h List.not_mem_nil⟩⟩
theorem qfX1_0 : u_lay RX1 TX1 0 ∈ wsL_law := wsL_ot (List.mem_of_getElem? (i := 534) (by decide +kernel)) rfl
theorem qfX1_1 : u_lay RX1 TX1 1 ∈ wsL_law := wsL_ot (List.mem_of_getElem? (i := 536) (by decide +kernel)) rfl
theorem qfX1_2 : u_lay RX1 TX1 2 ∈ wsL_law := wsL_ot (List.mem_of_getElem? (i := 538) (by decide +kernel)) rfl
theorem qfX1_3 : u_lay RX1 TX1 3 ∈ wsL_law := wsL_ot (List.mem_of_getElem? (i := 540) (by decide +kernel)) rfl
theorem qfX1_4 : u_lay RX1 TX1 4 ∈ wsL_law := wsL_ot (List.mem_of_getElem? (i := 542) (by decide +kernel)) rfl
theorem qfX1_5 : u_lay RX1 TX1 5 ∈ wsL_law := wsL_ot (List.mem_of_getElem? (i := 544) (by decide +kernel)) rfl
theorem qfX1_6 : u_lay RX1 TX1 6 ∈ wsL_law := wsL_ot (List.mem_of_getElem? (i := 546) (by decide +kernel)) rfl
theorem qfX1_7 : u_lay RX1 TX1 7 ∈ wsL_law := wsL_ot (List.mem_of_getElem? (i := 548) (by decide +kernel)) rfl
theorem qfX1_8 : u_lay RX1 TX1 8 ∈ wsL_law := wsL_ot (List.mem_of_getElem? (i := 550) (by decide +kernel)) rfl
theorem qfX1_9 : u_lay RX1 TX1 9 ∈ wsL_law := wsL_ot (List.mem_of_getElem? (i := 552) (by decide +kernel)) rfl
theorem qfX1_10 : u_lay RX1 TX1 10 ∈ wsL_law := wsL_ot (List.mem_of_getElem? (i := 554) (by decide +kernel)) rfl
theorem qfX1_11 : u_lay RX1 TX1 11 ∈ wsL_law := wsL_ot (List.mem_of_getElem? (i := 556) (by decide +kernel)) rfl
theorem qfX1_12 : u_lay RX1 TX1 12 ∈ wsL_law := wsL_ot (List.mem_of_getElem? (i := 558) (by decide +kernel)) rfl
theorem qfX1_13 : u_lay RX1 TX1 13 ∈ wsL_law := wsL_ot (List.mem_of_getElem? (i := 560) (by decide +kernel)) rfl
theorem qfX1_14 : u_lay RX1 TX1 14 ∈ wsL_law := wsL_ot (List.mem_of_getElem? (i := 562) (by decide +kernel)) rfl
theorem qfX1_15 : u_lay RX1 TX1 15 ∈ wsL_law := wsL_ot (List.mem_of_getElem? (i := 564) (by decide +kernel)) rfl
theorem qfX1_16 : u_lay RX1 TX1 16 ∈ wsL_law := wsL_ot (List.mem_of_getElem? (i := 566) (by decide +kernel)) rfl
theorem inX1 : ∀ w ∈ wsX10, w ∈ wsL_law := List.forall_mem_cons.mpr ⟨qfX1_0, List.forall_mem_cons.mpr ⟨qfX1_1, List.forall_mem_cons.mpr ⟨qfX1_2, List.forall_mem_cons.mpr ⟨qfX1_3, List.forall_mem_cons.mpr ⟨qfX1_4, List.forall_mem_cons.mpr ⟨qfX1_5, List.forall_mem_cons.mpr ⟨qfX1_6, List.forall_mem_cons.mpr ⟨qfX1_7, List.forall_mem_cons.mpr ⟨qfX1_8, List.forall_mem_cons.mpr ⟨qfX1_9, List.forall_mem_cons.mpr ⟨qfX1_10, List.forall_mem_cons.mpr ⟨qfX1_11, List.forall_mem_cons.mpr ⟨qfX1_12, List.forall_mem_cons.mpr ⟨qfX1_13, List.forall_mem_cons.mpr ⟨qfX1_14, List.forall_mem_cons.mpr ⟨qfX1_15, List.forall_mem_cons.mpr ⟨qfX1_16, fun _ h => absurd h List.not_mem_nil⟩⟩⟩⟩⟩⟩⟩⟩⟩⟩⟩⟩⟩⟩⟩⟩⟩
theorem qfX2_0 : u_lay RX2 TX2 0 ∈ wsL_law := wsL_ot (List.mem_of_getElem? (i := 394) (by decide +kernel)) rfl
theorem qfX2_1 : u_lay RX2 TX2 1 ∈ wsL_law := wsL_ot (List.mem_of_getElem? (i := 396) (by decide +kernel)) rfl
theorem qfX2_2 : u_lay RX2 TX2 2 ∈ wsL_law := wsL_ot (List.mem_of_getElem? (i := 398) (by decide +kernel)) rfl
theorem qfX2_3 : u_lay RX2 TX2 3 ∈ wsL_law := wsL_ot (List.mem_of_getElem? (i := 400) (by decide +kernel)) rfl
theorem qfX2_4 : u_lay RX2 TX2 4 ∈ wsL_law := wsL_ot (List.mem_of_getElem? (i := 402) (by decide +kernel)) rfl
theorem qfX2_5 : u_lay RX2 TX2 5 ∈ wsL_law := wsL_ot (List.mem_of_getElem? (i := 404) (by decide +kernel)) rfl
theorem inX2 : ∀ w ∈ wsX20, w ∈ wsL_law := List.forall_mem_cons.mpr ⟨qfX2_0, List.forall_mem_cons.mpr ⟨qfX2_1, List.forall_mem_cons.mpr ⟨qfX2_2, List.forall_mem_cons.mpr ⟨qfX2_3, List.forall_mem_cons.mpr ⟨qfX2_4, List.forall_mem_cons.mpr ⟨qfX2_5, fun _ h => absurd h List.not_mem_nil⟩⟩⟩⟩⟩⟩
theorem qfX3_0 : u_lay RX3 TX3 0 ∈ wsL_law := wsL_ot (List.mem_of_getElem? (i := 75) (by decide +kernel)) rfl
theorem qfX3_1 : u_lay RX3 TX3 1 ∈ wsL_law := wsL_ot (List.mem_of_getElem? (i := 77) (by decide +kernel)) rfl
theorem qfX3_2 : u_lay RX3 TX3 2 ∈ wsL_law := wsL_ot (List.mem_of_getElem? (i := 79) (by decide +kernel)) rfl
theorem inX3 : ∀ w ∈ wsX30, w ∈ wsL_law := List.forall_mem_cons.mpr ⟨qfX3_0, List.forall_mem_cons.mpr ⟨qfX3_1, List.forall_mem_cons.mpr ⟨qfX3_2, fun _ h => absurd h List.not_mem_nil⟩⟩⟩
theorem qfX4_0 : u_lay RX4 TX4 0 ∈ wsL_law := wsL_ot (List.mem_of_getElem? (i := 704) (by decide +kernel)) rfl
theorem qfX4_1 : u_lay RX4 TX4 1 ∈ wsL_law := wsL_ot (List.mem_of_getElem? (i := 706) (by decide +kernel)) rfl
theorem qfX4_2 : u_lay RX4 TX4 2 ∈ wsL_law := wsL_ot (List.mem_of_getElem? (i := 708) (by decide +kernel)) rfl
theorem qfX4_3 : u_lay RX4 TX4 3 ∈ wsL_law := wsL_ot (List.mem_of_getElem? (i := 710) (by decide +kernel)) rfl
theorem qfX4_4 : u_lay RX4 TX4 4 ∈ wsL_law := wsL_ot (List.mem_of_getElem? (i := 712) (by decide +kernel)) rfl
theorem qfX4_5 : u_lay RX4 TX4 5 ∈ wsL_law := wsL_ot (List.mem_of_getElem? (i := 714) (by decide +kernel)) rfl
theorem qfX4_6 : u_lay RX4 TX4 6 ∈ wsL_law := wsL_ot (List.mem_of_getElem? (i := 716) (by decide +kernel)) rfl
theorem qfX4_7 : u_lay RX4 TX4 7 ∈ wsL_law := wsL_ot (List.mem_of_getElem? (i := 718) (by decide +kernel)) rfl
theorem qfX4_8 : u_lay RX4 TX4 8 ∈ wsL_law := wsL_ot (List.mem_of_getElem? (i := 720) (by decide +kernel)) rfl
theorem qfX4_9 : u_lay RX4 TX4 9 ∈ wsL_law := wsL_ot (List.mem_of_getElem? (i := 722) (by decide +kernel)) rfl
theorem qfX4_10 : u_lay RX4 TX4 10 ∈ wsL_law := wsL_ot (List.mem_of_getElem? (i := 724) (by decide +kernel)) rfl
theorem qfX4_11 : u_lay RX4 TX4 11 ∈ wsL_law := wsL_ot (List.mem_of_getElem? (i := 726) (by decide +kernel)) rfl
theorem qfX4_12 : u_lay RX4 TX4 12 ∈ wsL_law := wsL_ot (List.mem_of_getElem? (i := 728) (by decide +kernel)) rfl
theorem qfX4_13 : u_lay RX4 TX4 13 ∈ wsL_law := wsL_ot (List.mem_of_getElem? (i := 730) (by decide +kernel)) rfl
theorem qfX4_14 : u_lay RX4 TX4 14 ∈ wsL_law := wsL_ot (List.mem_of_getElem? (i := 732) (by decide +kernel)) rfl
theorem qfX4_15 : u_lay RX4 TX4 15 ∈ wsL_law := wsL_ot (List.mem_of_getElem? (i := 734) (by decide +kernel)) rfl
theorem qfX4_16 : u_lay RX4 TX4 16 ∈ wsL_law := wsL_ot (List.mem_of_getElem? (i := 736) (by decide +kernel)) rfl
theorem qfX4_17 : u_lay RX4 TX4 17 ∈ wsL_law := wsL_ot (List.mem_of_getElem? (i := 738) (by decide +kernel)) rfl
theorem qfX4_18 : u_lay RX4 TX4 18 ∈ wsL_law := wsL_ot (List.mem_of_getElem? (i := 740) (by decide +kernel)) rfl
theorem qfX4_19 : u_lay RX4 TX4 19 ∈ wsL_law := wsL_ot (List.mem_of_getElem? (i := 742) (by decide +kernel)) rfl
theorem qfX4_20 : u_lay RX4 TX4 20 ∈ wsL_law := wsL_ot (List.mem_of_getElem? (i := 744) (by decide +kernel)) rfl
theorem inX4 : ∀ w ∈ wsX40, w ∈ wsL_law := List.forall_mem_cons.mpr ⟨qfX4_0, List.forall_mem_cons.mpr ⟨qfX4_1, List.forall_mem_cons.mpr ⟨qfX4_2, List.forall_mem_cons.mpr ⟨qfX4_3, List.forall_mem_cons.mpr ⟨qfX4_4, List.forall_mem_cons.mpr ⟨qfX4_5, List.forall_mem_cons.mpr ⟨qfX4_6, List.forall_mem_cons.mpr ⟨qfX4_7, List.forall_mem_cons.mpr ⟨qfX4_8, List.forall_mem_cons.mpr ⟨qfX4_9, List.forall_mem_cons.mpr ⟨qfX4_10, List.forall_mem_cons.mpr ⟨qfX4_11, List.forall_mem_cons.mpr ⟨qfX4_12, List.forall_mem_cons.mpr ⟨qfX4_13, List.forall_mem_cons.mpr ⟨qfX4_14, List.forall_mem_cons.mpr ⟨qfX4_15, List.forall_mem_cons.mpr ⟨qfX4_16, List.forall_mem_cons.mpr ⟨qfX4_17, List.forall_mem_cons.mpr ⟨qfX4_18, List.forall_mem_cons.mpr ⟨qfX4_19, List.forall_mem_cons.mpr ⟨qfX4_20, fun _ h => absurd h List.not_mem_nil⟩⟩⟩⟩⟩⟩⟩⟩⟩⟩⟩⟩⟩⟩⟩⟩⟩⟩⟩⟩⟩
theorem qfJx4a65c_0 : u_lay RJx4a65c TJx4a65c 0 ∈ wsL_law := wsL_ot (List.mem_of_getElem? (i := 54) (by decide +kernel)) rfl
theorem qfJx4a65c_1 : u_lay RJx4a65c TJx4a65c 1 ∈ wsL_law := wsL_ot (List.mem_of_getElem? (i := 50) (by decide +kernel)) rfl
theorem qfJx4a65c_2 : u_lay RJx4a65c TJx4a65c 2 ∈ wsL_law := wsL_ot (List.mem_of_getElem? (i := 52) (by decide +kernel)) rfl
theorem inJx4a65c : ∀ w ∈ wsJx4a65c0, w ∈ wsL_law := List.forall_mem_cons.mpr ⟨qfJx4a65c_0, List.forall_mem_cons.mpr ⟨qfJx4a65c_1, List.forall_mem_cons.mpr ⟨qfJx4a65c_2, fun _ h => absurd h List.not_mem_nil⟩⟩⟩
