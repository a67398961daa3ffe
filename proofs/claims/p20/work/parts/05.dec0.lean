theorem dX0_init_0 : decode cX0_init 0 = .ok (.aload_n 0, 1) := by decide +kernel
theorem dX0_init_1 : decode cX0_init 1 = .ok (.invokespecial 3, 3) := by decide +kernel
theorem dX0_init_4 : decode cX0_init 4 = .ok (.aload_n 0, 1) := by decide +kernel
theorem dX0_init_5 : decode cX0_init 5 = .ok (.iconst 5, 1) := by decide +kernel
theorem dX0_init_6 : decode cX0_init 6 = .ok (.newarray .long, 2) := by decide +kernel
theorem dX0_init_8 : decode cX0_init 8 = .ok (.putfield 9, 3) := by decide +kernel
theorem dX0_init_11 : decode cX0_init 11 = .ok (.return_, 1) := by decide +kernel
theorem dX0_cutBehind_0 : decode cX0_cutBehind 0 = .ok (.iconst 0, 1) := by decide +kernel
theorem dX0_cutBehind_1 : decode cX0_cutBehind 1 = .ok (.istore_n 2, 1) := by decide +kernel
theorem dX0_cutBehind_2 : decode cX0_cutBehind 2 = .ok (.iload_n 2, 1) := by decide +kernel
theorem dX0_cutBehind_3 : decode cX0_cutBehind 3 = .ok (.aload_n 0, 1) := by decide +kernel
theorem dX0_cutBehind_4 : decode cX0_cutBehind 4 = .ok (.getfield 9, 3) := by decide +kernel
theorem dX0_cutBehind_7 : decode cX0_cutBehind 7 = .ok (.arraylength, 1) := by decide +kernel
theorem dX0_cutBehind_8 : decode cX0_cutBehind 8 = .ok (.if_icmp .ge 27, 3) := by decide +kernel
theorem dX0_cutBehind_11 : decode cX0_cutBehind 11 = .ok (.aload_n 0, 1) := by decide +kernel
theorem dX0_cutBehind_12 : decode cX0_cutBehind 12 = .ok (.getfield 9, 3) := by decide +kernel
theorem dX0_cutBehind_15 : decode cX0_cutBehind 15 = .ok (.iload_n 2, 1) := by decide +kernel
theorem dX0_cutBehind_16 : decode cX0_cutBehind 16 = .ok (.dup2, 1) := by decide +kernel
theorem dX0_cutBehind_17 : decode cX0_cutBehind 17 = .ok (.laload, 1) := by decide +kernel
theorem dX0_cutBehind_18 : decode cX0_cutBehind 18 = .ok (.iload_n 1, 1) := by decide +kernel
theorem dX0_cutBehind_19 : decode cX0_cutBehind 19 = .ok (.iload_n 2, 1) := by decide +kernel
theorem dX0_cutBehind_20 : decode cX0_cutBehind 20 = .ok (.bipush 64, 2) := by decide +kernel
theorem dX0_cutBehind_22 : decode cX0_cutBehind 22 = .ok (.imul, 1) := by decide +kernel
theorem dX0_cutBehind_23 : decode cX0_cutBehind 23 = .ok (.isub, 1) := by decide +kernel
theorem dX0_cutBehind_24 : decode cX0_cutBehind 24 = .ok (.invokestatic 15, 3) := by decide +kernel
theorem dX0_cutBehind_27 : decode cX0_cutBehind 27 = .ok (.land, 1) := by decide +kernel
theorem dX0_cutBehind_28 : decode cX0_cutBehind 28 = .ok (.lastore, 1) := by decide +kernel
theorem dX0_cutBehind_29 : decode cX0_cutBehind 29 = .ok (.iinc 2 1, 3) := by decide +kernel
theorem dX0_cutBehind_32 : decode cX0_cutBehind 32 = .ok (.goto (-30), 3) := by decide +kernel
theorem dX0_cutBehind_35 : decode cX0_cutBehind 35 = .ok (.aload_n 0, 1) := by decide +kernel
theorem dX0_cutBehind_36 : decode cX0_cutBehind 36 = .ok (.iload_n 1, 1) := by decide +kernel
theorem dX0_cutBehind_37 : decode cX0_cutBehind 37 = .ok (.putfield 19, 3) := by decide +kernel
theorem dX0_cutBehind_40 : decode cX0_cutBehind 40 = .ok (.return_, 1) := by decide +kernel
theorem dX0_add_0 : decode cX0_add 0 = .ok (.aload_n 0, 1) := by decide +kernel
theorem dX0_add_1 : decode cX0_add 1 = .ok (.getfield 19, 3) := by decide +kernel
theorem dX0_add_4 : decode cX0_add 4 = .ok (.bipush 64, 2) := by decide +kernel
theorem dX0_add_6 : decode cX0_add 6 = .ok (.idiv, 1) := by decide +kernel
theorem dX0_add_7 : decode cX0_add 7 = .ok (.istore 4, 2) := by decide +kernel
theorem dX0_add_9 : decode cX0_add 9 = .ok (.aload_n 0, 1) := by decide +kernel
theorem dX0_add_10 : decode cX0_add 10 = .ok (.getfield 19, 3) := by decide +kernel
theorem dX0_add_13 : decode cX0_add 13 = .ok (.bipush 64, 2) := by decide +kernel
theorem dX0_add_15 : decode cX0_add 15 = .ok (.irem, 1) := by decide +kernel
theorem dX0_add_16 : decode cX0_add 16 = .ok (.istore 5, 2) := by decide +kernel
theorem dX0_add_18 : decode cX0_add 18 = .ok (.aload_n 0, 1) := by decide +kernel
theorem dX0_add_19 : decode cX0_add 19 = .ok (.iload 4, 2) := by decide +kernel
theorem dX0_add_21 : decode cX0_add 21 = .ok (.lload_n 1, 1) := by decide +kernel
theorem dX0_add_22 : decode cX0_add 22 = .ok (.iload 5, 2) := by decide +kernel
theorem dX0_add_24 : decode cX0_add 24 = .ok (.lshl, 1) := by decide +kernel
theorem dX0_add_25 : decode cX0_add 25 = .ok (.invokevirtual 23, 3) := by decide +kernel
theorem dX0_add_28 : decode cX0_add 28 = .ok (.iload 5, 2) := by decide +kernel
theorem dX0_add_30 : decode cX0_add 30 = .ok (.iload_n 3, 1) := by decide +kernel
theorem dX0_add_31 : decode cX0_add 31 = .ok (.iadd, 1) := by decide +kernel
theorem dX0_add_32 : decode cX0_add 32 = .ok (.bipush 64, 2) := by decide +kernel
theorem dX0_add_34 : decode cX0_add 34 = .ok (.if_icmp .le 18, 3) := by decide +kernel
theorem dX0_add_37 : decode cX0_add 37 = .ok (.aload_n 0, 1) := by decide +kernel
theorem dX0_add_38 : decode cX0_add 38 = .ok (.iload 4, 2) := by decide +kernel
theorem dX0_add_40 : decode cX0_add 40 = .ok (.iconst 1, 1) := by decide +kernel
theorem dX0_add_41 : decode cX0_add 41 = .ok (.iadd, 1) := by decide +kernel
theorem dX0_add_42 : decode cX0_add 42 = .ok (.lload_n 1, 1) := by decide +kernel
theorem dX0_add_43 : decode cX0_add 43 = .ok (.bipush 64, 2) := by decide +kernel
theorem dX0_add_45 : decode cX0_add 45 = .ok (.iload 5, 2) := by decide +kernel
theorem dX0_add_47 : decode cX0_add 47 = .ok (.isub, 1) := by decide +kernel
theorem dX0_add_48 : decode cX0_add 48 = .ok (.lushr, 1) := by decide +kernel
theorem dX0_add_49 : decode cX0_add 49 = .ok (.invokevirtual 23, 3) := by decide +kernel
theorem dX0_add_52 : decode cX0_add 52 = .ok (.aload_n 0, 1) := by decide +kernel
theorem dX0_add_53 : decode cX0_add 53 = .ok (.dup, 1) := by decide +kernel
theorem dX0_add_54 : decode cX0_add 54 = .ok (.getfield 19, 3) := by decide +kernel
theorem dX0_add_57 : decode cX0_add 57 = .ok (.iload_n 3, 1) := by decide +kernel
theorem dX0_add_58 : decode cX0_add 58 = .ok (.iadd, 1) := by decide +kernel
theorem dX0_add_59 : decode cX0_add 59 = .ok (.putfield 19, 3) := by decide +kernel
theorem dX0_add_62 : decode cX0_add 62 = .ok (.return_, 1) := by decide +kernel
theorem dX0_read_0 : decode cX0_read 0 = .ok (.iload_n 1, 1) := by decide +kernel
theorem dX0_read_1 : decode cX0_read 1 = .ok (.bipush 64, 2) := by decide +kernel
theorem dX0_read_3 : decode cX0_read 3 = .ok (.idiv, 1) := by decide +kernel
theorem dX0_read_4 : decode cX0_read 4 = .ok (.istore_n 3, 1) := by decide +kernel
theorem dX0_read_5 : decode cX0_read 5 = .ok (.iload_n 1, 1) := by decide +kernel
theorem dX0_read_6 : decode cX0_read 6 = .ok (.bipush 64, 2) := by decide +kernel
theorem dX0_read_8 : decode cX0_read 8 = .ok (.irem, 1) := by decide +kernel
theorem dX0_read_9 : decode cX0_read 9 = .ok (.istore 4, 2) := by decide +kernel
theorem dX0_read_11 : decode cX0_read 11 = .ok (.aload_n 0, 1) := by decide +kernel
theorem dX0_read_12 : decode cX0_read 12 = .ok (.iload_n 3, 1) := by decide +kernel
theorem dX0_read_13 : decode cX0_read 13 = .ok (.invokevirtual 27, 3) := by decide +kernel
theorem dX0_read_16 : decode cX0_read 16 = .ok (.iload 4, 2) := by decide +kernel
theorem dX0_read_18 : decode cX0_read 18 = .ok (.lushr, 1) := by decide +kernel
theorem dX0_read_19 : decode cX0_read 19 = .ok (.lstore 5, 2) := by decide +kernel
theorem dX0_read_21 : decode cX0_read 21 = .ok (.iload 4, 2) := by decide +kernel
theorem dX0_read_23 : decode cX0_read 23 = .ok (.iload_n 2, 1) := by decide +kernel
theorem dX0_read_24 : decode cX0_read 24 = .ok (.iadd, 1) := by decide +kernel
theorem dX0_read_25 : decode cX0_read 25 = .ok (.bipush 64, 2) := by decide +kernel
theorem dX0_read_27 : decode cX0_read 27 = .ok (.if_icmp .le 21, 3) := by decide +kernel
theorem dX0_read_30 : decode cX0_read 30 = .ok (.lload 5, 2) := by decide +kernel
theorem dX0_read_32 : decode cX0_read 32 = .ok (.aload_n 0, 1) := by decide +kernel
theorem dX0_read_33 : decode cX0_read 33 = .ok (.iload_n 3, 1) := by decide +kernel
theorem dX0_read_34 : decode cX0_read 34 = .ok (.iconst 1, 1) := by decide +kernel
theorem dX0_read_35 : decode cX0_read 35 = .ok (.iadd, 1) := by decide +kernel
theorem dX0_read_36 : decode cX0_read 36 = .ok (.invokevirtual 27, 3) := by decide +kernel
theorem dX0_read_39 : decode cX0_read 39 = .ok (.bipush 64, 2) := by decide +kernel
theorem dX0_read_41 : decode cX0_read 41 = .ok (.iload 4, 2) := by decide +kernel
theorem dX0_read_43 : decode cX0_read 43 = .ok (.isub, 1) := by decide +kernel
theorem dX0_read_44 : decode cX0_read 44 = .ok (.lshl, 1) := by decide +kernel
theorem dX0_read_45 : decode cX0_read 45 = .ok (.lor, 1) := by decide +kernel
theorem dX0_read_46 : decode cX0_read 46 = .ok (.lstore 5, 2) := by decide +kernel
theorem dX0_read_48 : decode cX0_read 48 = .ok (.lload 5, 2) := by decide +kernel
theorem dX0_read_50 : decode cX0_read 50 = .ok (.iload_n 2, 1) := by decide +kernel
theorem dX0_read_51 : decode cX0_read 51 = .ok (.invokestatic 15, 3) := by decide +kernel
theorem dX0_read_54 : decode cX0_read 54 = .ok (.land, 1) := by decide +kernel
theorem dX0_read_55 : decode cX0_read 55 = .ok (.lreturn, 1) := by decide +kernel
theorem dX0_addTo_0 : decode cX0_addTo 0 = .ok (.iload_n 1, 1) := by decide +kernel
theorem dX0_addTo_1 : decode cX0_addTo 1 = .ok (.ifCond .lt 22, 3) := by decide +kernel
theorem dX0_addTo_4 : decode cX0_addTo 4 = .ok (.iload_n 1, 1) := by decide +kernel
theorem dX0_addTo_5 : decode cX0_addTo 5 = .ok (.aload_n 0, 1) := by decide +kernel
theorem dX0_addTo_6 : decode cX0_addTo 6 = .ok (.getfield 9, 3) := by decide +kernel
theorem dX0_addTo_9 : decode cX0_addTo 9 = .ok (.arraylength, 1) := by decide +kernel
theorem dX0_addTo_10 : decode cX0_addTo 10 = .ok (.if_icmp .ge 13, 3) := by decide +kernel
theorem dX0_addTo_13 : decode cX0_addTo 13 = .ok (.aload_n 0, 1) := by decide +kernel
theorem dX0_addTo_14 : decode cX0_addTo 14 = .ok (.getfield 9, 3) := by decide +kernel
theorem dX0_addTo_17 : decode cX0_addTo 17 = .ok (.iload_n 1, 1) := by decide +kernel
theorem dX0_addTo_18 : decode cX0_addTo 18 = .ok (.dup2, 1) := by decide +kernel
theorem dX0_addTo_19 : decode cX0_addTo 19 = .ok (.laload, 1) := by decide +kernel
theorem dX0_addTo_20 : decode cX0_addTo 20 = .ok (.lload_n 2, 1) := by decide +kernel
theorem dX0_addTo_21 : decode cX0_addTo 21 = .ok (.lor, 1) := by decide +kernel
theorem dX0_addTo_22 : decode cX0_addTo 22 = .ok (.lastore, 1) := by decide +kernel
theorem dX0_addTo_23 : decode cX0_addTo 23 = .ok (.return_, 1) := by decide +kernel
theorem dX0_cellAt_0 : decode cX0_cellAt 0 = .ok (.iload_n 1, 1) := by decide +kernel
theorem dX0_cellAt_1 : decode cX0_cellAt 1 = .ok (.ifCond .lt 21, 3) := by decide +kernel
theorem dX0_cellAt_4 : decode cX0_cellAt 4 = .ok (.iload_n 1, 1) := by decide +kernel
theorem dX0_cellAt_5 : decode cX0_cellAt 5 = .ok (.aload_n 0, 1) := by decide +kernel
theorem dX0_cellAt_6 : decode cX0_cellAt 6 = .ok (.getfield 9, 3) := by decide +kernel
theorem dX0_cellAt_9 : decode cX0_cellAt 9 = .ok (.arraylength, 1) := by decide +kernel
theorem dX0_cellAt_10 : decode cX0_cellAt 10 = .ok (.if_icmp .ge 12, 3) := by decide +kernel
theorem dX0_cellAt_13 : decode cX0_cellAt 13 = .ok (.aload_n 0, 1) := by decide +kernel
theorem dX0_cellAt_14 : decode cX0_cellAt 14 = .ok (.getfield 9, 3) := by decide +kernel
theorem dX0_cellAt_17 : decode cX0_cellAt 17 = .ok (.iload_n 1, 1) := by decide +kernel
theorem dX0_cellAt_18 : decode cX0_cellAt 18 = .ok (.laload, 1) := by decide +kernel
theorem dX0_cellAt_19 : decode cX0_cellAt 19 = .ok (.goto 4, 3) := by decide +kernel
theorem dX0_cellAt_22 : decode cX0_cellAt 22 = .ok (.lconst 0, 1) := by decide +kernel
theorem dX0_cellAt_23 : decode cX0_cellAt 23 = .ok (.lreturn, 1) := by decide +kernel
theorem dX1_init_0 : decode cX1_init 0 = .ok (.aload_n 0, 1) := by decide +kernel
theorem dX1_init_1 : decode cX1_init 1 = .ok (.invokespecial 1, 3) := by decide +kernel
theorem dX1_init_4 : decode cX1_init 4 = .ok (.aload_n 0, 1) := by decide +kernel
theorem dX1_init_5 : decode cX1_init 5 = .ok (.iload_n 1, 1) := by decide +kernel
theorem dX1_init_6 : decode cX1_init 6 = .ok (.putfield 7, 3) := by decide +kernel
theorem dX1_init_9 : decode cX1_init 9 = .ok (.aload_n 0, 1) := by decide +kernel
theorem dX1_init_10 : decode cX1_init 10 = .ok (.iload_n 2, 1) := by decide +kernel
theorem dX1_init_11 : decode cX1_init 11 = .ok (.putfield 13, 3) := by decide +kernel
theorem dX1_init_14 : decode cX1_init 14 = .ok (.aload_n 0, 1) := by decide +kernel
theorem dX1_init_15 : decode cX1_init 15 = .ok (.iload_n 3, 1) := by decide +kernel
theorem dX1_init_16 : decode cX1_init 16 = .ok (.putfield 16, 3) := by decide +kernel
theorem dX1_init_19 : decode cX1_init 19 = .ok (.aload_n 0, 1) := by decide +kernel
theorem dX1_init_20 : decode cX1_init 20 = .ok (.aload 4, 2) := by decide +kernel
theorem dX1_init_22 : decode cX1_init 22 = .ok (.putfield 19, 3) := by decide +kernel
theorem dX1_init_25 : decode cX1_init 25 = .ok (.aload_n 0, 1) := by decide +kernel
theorem dX1_init_26 : decode cX1_init 26 = .ok (.new 23, 3) := by decide +kernel
theorem dX1_init_29 : decode cX1_init 29 = .ok (.dup, 1) := by decide +kernel
theorem dX1_init_30 : decode cX1_init 30 = .ok (.invokespecial 25, 3) := by decide +kernel
theorem dX1_init_33 : decode cX1_init 33 = .ok (.putfield 26, 3) := by decide +kernel
theorem dX1_init_36 : decode cX1_init 36 = .ok (.return_, 1) := by decide +kernel
theorem dX1_lastWord_0 : decode cX1_lastWord 0 = .ok (.aload_n 0, 1) := by decide +kernel
theorem dX1_lastWord_1 : decode cX1_lastWord 1 = .ok (.getfield 26, 3) := by decide +kernel
theorem dX1_lastWord_4 : decode cX1_lastWord 4 = .ok (.invokevirtual 30, 3) := by decide +kernel
theorem dX1_lastWord_7 : decode cX1_lastWord 7 = .ok (.istore_n 1, 1) := by decide +kernel
theorem dX1_lastWord_8 : decode cX1_lastWord 8 = .ok (.iload_n 1, 1) := by decide +kernel
theorem dX1_lastWord_9 : decode cX1_lastWord 9 = .ok (.ifCond .le 19, 3) := by decide +kernel
theorem dX1_lastWord_12 : decode cX1_lastWord 12 = .ok (.aload_n 0, 1) := by decide +kernel
theorem dX1_lastWord_13 : decode cX1_lastWord 13 = .ok (.getfield 26, 3) := by decide +kernel
theorem dX1_lastWord_16 : decode cX1_lastWord 16 = .ok (.iload_n 1, 1) := by decide +kernel
theorem dX1_lastWord_17 : decode cX1_lastWord 17 = .ok (.iconst 1, 1) := by decide +kernel
theorem dX1_lastWord_18 : decode cX1_lastWord 18 = .ok (.isub, 1) := by decide +kernel
theorem dX1_lastWord_19 : decode cX1_lastWord 19 = .ok (.invokevirtual 34, 3) := by decide +kernel
theorem dX1_lastWord_22 : decode cX1_lastWord 22 = .ok (.checkcast 38, 3) := by decide +kernel
theorem dX1_lastWord_25 : decode cX1_lastWord 25 = .ok (.goto 4, 3) := by decide +kernel
theorem dX1_lastWord_28 : decode cX1_lastWord 28 = .ok (.aconst_null, 1) := by decide +kernel
theorem dX1_lastWord_29 : decode cX1_lastWord 29 = .ok (.areturn, 1) := by decide +kernel
theorem dX1_usesOf_0 : decode cX1_usesOf 0 = .ok (.iconst 0, 1) := by decide +kernel
theorem dX1_usesOf_1 : decode cX1_usesOf 1 = .ok (.istore_n 2, 1) := by decide +kernel
theorem dX1_usesOf_2 : decode cX1_usesOf 2 = .ok (.iconst 0, 1) := by decide +kernel
theorem dX1_usesOf_3 : decode cX1_usesOf 3 = .ok (.istore_n 3, 1) := by decide +kernel
theorem dX1_usesOf_4 : decode cX1_usesOf 4 = .ok (.iload_n 3, 1) := by decide +kernel
theorem dX1_usesOf_5 : decode cX1_usesOf 5 = .ok (.aload_n 0, 1) := by decide +kernel
theorem dX1_usesOf_6 : decode cX1_usesOf 6 = .ok (.getfield 26, 3) := by decide +kernel
theorem dX1_usesOf_9 : decode cX1_usesOf 9 = .ok (.invokevirtual 30, 3) := by decide +kernel
theorem dX1_usesOf_12 : decode cX1_usesOf 12 = .ok (.if_icmp .ge 33, 3) := by decide +kernel
theorem dX1_usesOf_15 : decode cX1_usesOf 15 = .ok (.aload_n 0, 1) := by decide +kernel
theorem dX1_usesOf_16 : decode cX1_usesOf 16 = .ok (.getfield 26, 3) := by decide +kernel
theorem dX1_usesOf_19 : decode cX1_usesOf 19 = .ok (.iload_n 3, 1) := by decide +kernel
theorem dX1_usesOf_20 : decode cX1_usesOf 20 = .ok (.invokevirtual 34, 3) := by decide +kernel
theorem dX1_usesOf_23 : decode cX1_usesOf 23 = .ok (.checkcast 38, 3) := by decide +kernel
theorem dX1_usesOf_26 : decode cX1_usesOf 26 = .ok (.getfield 40, 3) := by decide +kernel
theorem dX1_usesOf_29 : decode cX1_usesOf 29 = .ok (.aload_n 1, 1) := by decide +kernel
theorem dX1_usesOf_30 : decode cX1_usesOf 30 = .ok (.getfield 40, 3) := by decide +kernel
theorem dX1_usesOf_33 : decode cX1_usesOf 33 = .ok (.if_icmp .ne 6, 3) := by decide +kernel
theorem dX1_usesOf_36 : decode cX1_usesOf 36 = .ok (.iinc 2 1, 3) := by decide +kernel
theorem dX1_usesOf_39 : decode cX1_usesOf 39 = .ok (.iinc 3 1, 3) := by decide +kernel
theorem dX1_usesOf_42 : decode cX1_usesOf 42 = .ok (.goto (-38), 3) := by decide +kernel
theorem dX1_usesOf_45 : decode cX1_usesOf 45 = .ok (.iload_n 2, 1) := by decide +kernel
theorem dX1_usesOf_46 : decode cX1_usesOf 46 = .ok (.ireturn, 1) := by decide +kernel
theorem dX1_addWord_0 : decode cX1_addWord 0 = .ok (.aload_n 0, 1) := by decide +kernel
theorem dX1_addWord_1 : decode cX1_addWord 1 = .ok (.getfield 26, 3) := by decide +kernel
theorem dX1_addWord_4 : decode cX1_addWord 4 = .ok (.aload_n 1, 1) := by decide +kernel
theorem dX1_addWord_5 : decode cX1_addWord 5 = .ok (.invokevirtual 43, 3) := by decide +kernel
theorem dX1_addWord_8 : decode cX1_addWord 8 = .ok (.pop, 1) := by decide +kernel
theorem dX1_addWord_9 : decode cX1_addWord 9 = .ok (.aload_n 0, 1) := by decide +kernel
theorem dX1_addWord_10 : decode cX1_addWord 10 = .ok (.invokevirtual 47, 3) := by decide +kernel
theorem dX1_addWord_13 : decode cX1_addWord 13 = .ok (.return_, 1) := by decide +kernel
theorem dX1_replaceWord_0 : decode cX1_replaceWord 0 = .ok (.iload_n 1, 1) := by decide +kernel
theorem dX1_replaceWord_1 : decode cX1_replaceWord 1 = .ok (.aload_n 0, 1) := by decide +kernel
theorem dX1_replaceWord_2 : decode cX1_replaceWord 2 = .ok (.getfield 26, 3) := by decide +kernel
theorem dX1_replaceWord_5 : decode cX1_replaceWord 5 = .ok (.invokevirtual 30, 3) := by decide +kernel
theorem dX1_replaceWord_8 : decode cX1_replaceWord 8 = .ok (.invokestatic 50, 3) := by decide +kernel
theorem dX1_replaceWord_11 : decode cX1_replaceWord 11 = .ok (.ifCond .eq 13, 3) := by decide +kernel
theorem dX1_replaceWord_14 : decode cX1_replaceWord 14 = .ok (.aload_n 0, 1) := by decide +kernel
theorem dX1_replaceWord_15 : decode cX1_replaceWord 15 = .ok (.getfield 26, 3) := by decide +kernel
theorem dX1_replaceWord_18 : decode cX1_replaceWord 18 = .ok (.iload_n 1, 1) := by decide +kernel
theorem dX1_replaceWord_19 : decode cX1_replaceWord 19 = .ok (.aload_n 2, 1) := by decide +kernel
theorem dX1_replaceWord_20 : decode cX1_replaceWord 20 = .ok (.invokevirtual 56, 3) := by decide +kernel
theorem dX1_replaceWord_23 : decode cX1_replaceWord 23 = .ok (.pop, 1) := by decide +kernel
theorem dX1_replaceWord_24 : decode cX1_replaceWord 24 = .ok (.aload_n 0, 1) := by decide +kernel
theorem dX1_replaceWord_25 : decode cX1_replaceWord 25 = .ok (.invokevirtual 47, 3) := by decide +kernel
theorem dX1_replaceWord_28 : decode cX1_replaceWord 28 = .ok (.return_, 1) := by decide +kernel
theorem dX1_dropLast_0 : decode cX1_dropLast 0 = .ok (.aload_n 0, 1) := by decide +kernel
theorem dX1_dropLast_1 : decode cX1_dropLast 1 = .ok (.getfield 26, 3) := by decide +kernel
theorem dX1_dropLast_4 : decode cX1_dropLast 4 = .ok (.invokevirtual 30, 3) := by decide +kernel
theorem dX1_dropLast_7 : decode cX1_dropLast 7 = .ok (.istore_n 1, 1) := by decide +kernel
theorem dX1_dropLast_8 : decode cX1_dropLast 8 = .ok (.iload_n 1, 1) := by decide +kernel
theorem dX1_dropLast_9 : decode cX1_dropLast 9 = .ok (.ifCond .le 14, 3) := by decide +kernel
theorem dX1_dropLast_12 : decode cX1_dropLast 12 = .ok (.aload_n 0, 1) := by decide +kernel
theorem dX1_dropLast_13 : decode cX1_dropLast 13 = .ok (.getfield 26, 3) := by decide +kernel
theorem dX1_dropLast_16 : decode cX1_dropLast 16 = .ok (.iload_n 1, 1) := by decide +kernel
theorem dX1_dropLast_17 : decode cX1_dropLast 17 = .ok (.iconst 1, 1) := by decide +kernel
theorem dX1_dropLast_18 : decode cX1_dropLast 18 = .ok (.isub, 1) := by decide +kernel
theorem dX1_dropLast_19 : decode cX1_dropLast 19 = .ok (.invokevirtual 60, 3) := by decide +kernel
theorem dX1_dropLast_22 : decode cX1_dropLast 22 = .ok (.pop, 1) := by decide +kernel
theorem dX1_dropLast_23 : decode cX1_dropLast 23 = .ok (.aload_n 0, 1) := by decide +kernel
theorem dX1_dropLast_24 : decode cX1_dropLast 24 = .ok (.invokevirtual 47, 3) := by decide +kernel
theorem dX1_dropLast_27 : decode cX1_dropLast 27 = .ok (.return_, 1) := by decide +kernel
theorem dX1_joinWords_0 : decode cX1_joinWords 0 = .ok (.aload_n 0, 1) := by decide +kernel
theorem dX1_joinWords_1 : decode cX1_joinWords 1 = .ok (.lconst 0, 1) := by decide +kernel
theorem dX1_joinWords_2 : decode cX1_joinWords 2 = .ok (.putfield 63, 3) := by decide +kernel
theorem dX1_joinWords_5 : decode cX1_joinWords 5 = .ok (.aload_n 0, 1) := by decide +kernel
theorem dX1_joinWords_6 : decode cX1_joinWords 6 = .ok (.iconst 0, 1) := by decide +kernel
theorem dX1_joinWords_7 : decode cX1_joinWords 7 = .ok (.putfield 67, 3) := by decide +kernel
theorem dX1_joinWords_10 : decode cX1_joinWords 10 = .ok (.aload_n 0, 1) := by decide +kernel
theorem dX1_joinWords_11 : decode cX1_joinWords 11 = .ok (.iconst 0, 1) := by decide +kernel
theorem dX1_joinWords_12 : decode cX1_joinWords 12 = .ok (.putfield 70, 3) := by decide +kernel
theorem dX1_joinWords_15 : decode cX1_joinWords 15 = .ok (.aconst_null, 1) := by decide +kernel
theorem dX1_joinWords_16 : decode cX1_joinWords 16 = .ok (.astore_n 1, 1) := by decide +kernel
theorem dX1_joinWords_17 : decode cX1_joinWords 17 = .ok (.iconst 0, 1) := by decide +kernel
theorem dX1_joinWords_18 : decode cX1_joinWords 18 = .ok (.istore_n 2, 1) := by decide +kernel
theorem dX1_joinWords_19 : decode cX1_joinWords 19 = .ok (.iload_n 2, 1) := by decide +kernel
theorem dX1_joinWords_20 : decode cX1_joinWords 20 = .ok (.aload_n 0, 1) := by decide +kernel
theorem dX1_joinWords_21 : decode cX1_joinWords 21 = .ok (.getfield 26, 3) := by decide +kernel
theorem dX1_joinWords_24 : decode cX1_joinWords 24 = .ok (.invokevirtual 30, 3) := by decide +kernel
theorem dX1_joinWords_27 : decode cX1_joinWords 27 = .ok (.if_icmp .ge 87, 3) := by decide +kernel
theorem dX1_joinWords_30 : decode cX1_joinWords 30 = .ok (.aload_n 0, 1) := by decide +kernel
theorem dX1_joinWords_31 : decode cX1_joinWords 31 = .ok (.getfield 26, 3) := by decide +kernel
theorem dX1_joinWords_34 : decode cX1_joinWords 34 = .ok (.iload_n 2, 1) := by decide +kernel
theorem dX1_joinWords_35 : decode cX1_joinWords 35 = .ok (.invokevirtual 34, 3) := by decide +kernel
theorem dX1_joinWords_38 : decode cX1_joinWords 38 = .ok (.checkcast 38, 3) := by decide +kernel
theorem dX1_joinWords_41 : decode cX1_joinWords 41 = .ok (.astore_n 3, 1) := by decide +kernel
theorem dX1_joinWords_42 : decode cX1_joinWords 42 = .ok (.aload_n 1, 1) := by decide +kernel
theorem dX1_joinWords_43 : decode cX1_joinWords 43 = .ok (.ifnull 31, 3) := by decide +kernel
theorem dX1_joinWords_46 : decode cX1_joinWords 46 = .ok (.aload_n 1, 1) := by decide +kernel
theorem dX1_joinWords_47 : decode cX1_joinWords 47 = .ok (.aload_n 3, 1) := by decide +kernel
theorem dX1_joinWords_48 : decode cX1_joinWords 48 = .ok (.invokevirtual 73, 3) := by decide +kernel
theorem dX1_joinWords_51 : decode cX1_joinWords 51 = .ok (.ifCond .eq 23, 3) := by decide +kernel
theorem dX1_joinWords_54 : decode cX1_joinWords 54 = .ok (.aload_n 0, 1) := by decide +kernel
theorem dX1_joinWords_55 : decode cX1_joinWords 55 = .ok (.dup, 1) := by decide +kernel
theorem dX1_joinWords_56 : decode cX1_joinWords 56 = .ok (.getfield 70, 3) := by decide +kernel
theorem dX1_joinWords_59 : decode cX1_joinWords 59 = .ok (.iconst 1, 1) := by decide +kernel
theorem dX1_joinWords_60 : decode cX1_joinWords 60 = .ok (.iadd, 1) := by decide +kernel
theorem dX1_joinWords_61 : decode cX1_joinWords 61 = .ok (.putfield 70, 3) := by decide +kernel
theorem dX1_joinWords_64 : decode cX1_joinWords 64 = .ok (.aload_n 0, 1) := by decide +kernel
theorem dX1_joinWords_65 : decode cX1_joinWords 65 = .ok (.dup, 1) := by decide +kernel
theorem dX1_joinWords_66 : decode cX1_joinWords 66 = .ok (.getfield 67, 3) := by decide +kernel
theorem dX1_joinWords_69 : decode cX1_joinWords 69 = .ok (.iconst 1, 1) := by decide +kernel
theorem dX1_joinWords_70 : decode cX1_joinWords 70 = .ok (.isub, 1) := by decide +kernel
theorem dX1_joinWords_71 : decode cX1_joinWords 71 = .ok (.putfield 67, 3) := by decide +kernel
theorem dX1_joinWords_74 : decode cX1_joinWords 74 = .ok (.aload_n 0, 1) := by decide +kernel
theorem dX1_joinWords_75 : decode cX1_joinWords 75 = .ok (.dup, 1) := by decide +kernel
theorem dX1_joinWords_76 : decode cX1_joinWords 76 = .ok (.getfield 63, 3) := by decide +kernel
theorem dX1_joinWords_79 : decode cX1_joinWords 79 = .ok (.aload_n 3, 1) := by decide +kernel
theorem dX1_joinWords_80 : decode cX1_joinWords 80 = .ok (.getfield 77, 3) := by decide +kernel
theorem dX1_joinWords_83 : decode cX1_joinWords 83 = .ok (.i2l, 1) := by decide +kernel
theorem dX1_joinWords_84 : decode cX1_joinWords 84 = .ok (.aload_n 0, 1) := by decide +kernel
theorem dX1_joinWords_85 : decode cX1_joinWords 85 = .ok (.getfield 67, 3) := by decide +kernel
theorem dX1_joinWords_88 : decode cX1_joinWords 88 = .ok (.lshl, 1) := by decide +kernel
theorem dX1_joinWords_89 : decode cX1_joinWords 89 = .ok (.lor, 1) := by decide +kernel
theorem dX1_joinWords_90 : decode cX1_joinWords 90 = .ok (.putfield 63, 3) := by decide +kernel
theorem dX1_joinWords_93 : decode cX1_joinWords 93 = .ok (.aload_n 0, 1) := by decide +kernel
theorem dX1_joinWords_94 : decode cX1_joinWords 94 = .ok (.dup, 1) := by decide +kernel
theorem dX1_joinWords_95 : decode cX1_joinWords 95 = .ok (.getfield 67, 3) := by decide +kernel
theorem dX1_joinWords_98 : decode cX1_joinWords 98 = .ok (.aload_n 3, 1) := by decide +kernel
theorem dX1_joinWords_99 : decode cX1_joinWords 99 = .ok (.getfield 80, 3) := by decide +kernel
theorem dX1_joinWords_102 : decode cX1_joinWords 102 = .ok (.iadd, 1) := by decide +kernel
theorem dX1_joinWords_103 : decode cX1_joinWords 103 = .ok (.putfield 67, 3) := by decide +kernel
theorem dX1_joinWords_106 : decode cX1_joinWords 106 = .ok (.aload_n 3, 1) := by decide +kernel
theorem dX1_joinWords_107 : decode cX1_joinWords 107 = .ok (.astore_n 1, 1) := by decide +kernel
theorem dX1_joinWords_108 : decode cX1_joinWords 108 = .ok (.iinc 2 1, 3) := by decide +kernel
theorem dX1_joinWords_111 : decode cX1_joinWords 111 = .ok (.goto (-92), 3) := by decide +kernel
theorem dX1_joinWords_114 : decode cX1_joinWords 114 = .ok (.return_, 1) := by decide +kernel
theorem dX1_scanIn_0 : decode cX1_scanIn 0 = .ok (.aload_n 0, 1) := by decide +kernel
theorem dX1_scanIn_1 : decode cX1_scanIn 1 = .ok (.iload_n 2, 1) := by decide +kernel
theorem dX1_scanIn_2 : decode cX1_scanIn 2 = .ok (.putfield 83, 3) := by decide +kernel
theorem dX1_scanIn_5 : decode cX1_scanIn 5 = .ok (.aload_n 0, 1) := by decide +kernel
theorem dX1_scanIn_6 : decode cX1_scanIn 6 = .ok (.aload_n 1, 1) := by decide +kernel
theorem dX1_scanIn_7 : decode cX1_scanIn 7 = .ok (.getfield 86, 3) := by decide +kernel
theorem dX1_scanIn_10 : decode cX1_scanIn 10 = .ok (.iload_n 2, 1) := by decide +kernel
theorem dX1_scanIn_11 : decode cX1_scanIn 11 = .ok (.isub, 1) := by decide +kernel
theorem dX1_scanIn_12 : decode cX1_scanIn 12 = .ok (.putfield 91, 3) := by decide +kernel
theorem dX1_scanIn_15 : decode cX1_scanIn 15 = .ok (.aload_n 1, 1) := by decide +kernel
theorem dX1_scanIn_16 : decode cX1_scanIn 16 = .ok (.aload_n 0, 1) := by decide +kernel
theorem dX1_scanIn_17 : decode cX1_scanIn 17 = .ok (.getfield 63, 3) := by decide +kernel
theorem dX1_scanIn_20 : decode cX1_scanIn 20 = .ok (.aload_n 0, 1) := by decide +kernel
theorem dX1_scanIn_21 : decode cX1_scanIn 21 = .ok (.getfield 67, 3) := by decide +kernel
theorem dX1_scanIn_24 : decode cX1_scanIn 24 = .ok (.invokevirtual 94, 3) := by decide +kernel
theorem dX1_scanIn_27 : decode cX1_scanIn 27 = .ok (.aload_n 0, 1) := by decide +kernel
theorem dX1_scanIn_28 : decode cX1_scanIn 28 = .ok (.getfield 7, 3) := by decide +kernel
theorem dX1_scanIn_31 : decode cX1_scanIn 31 = .ok (.invokestatic 97, 3) := by decide +kernel
theorem dX1_scanIn_34 : decode cX1_scanIn 34 = .ok (.aload_n 0, 1) := by decide +kernel
theorem dX1_scanIn_35 : decode cX1_scanIn 35 = .ok (.getfield 13, 3) := by decide +kernel
theorem dX1_scanIn_38 : decode cX1_scanIn 38 = .ok (.imul, 1) := by decide +kernel
theorem dX1_scanIn_39 : decode cX1_scanIn 39 = .ok (.istore_n 3, 1) := by decide +kernel
theorem dX1_scanIn_40 : decode cX1_scanIn 40 = .ok (.aload_n 0, 1) := by decide +kernel
theorem dX1_scanIn_41 : decode cX1_scanIn 41 = .ok (.aload_n 0, 1) := by decide +kernel
theorem dX1_scanIn_42 : decode cX1_scanIn 42 = .ok (.getfield 91, 3) := by decide +kernel
theorem dX1_scanIn_45 : decode cX1_scanIn 45 = .ok (.aload_n 0, 1) := by decide +kernel
theorem dX1_scanIn_46 : decode cX1_scanIn 46 = .ok (.getfield 67, 3) := by decide +kernel
theorem dX1_scanIn_49 : decode cX1_scanIn 49 = .ok (.iadd, 1) := by decide +kernel
theorem dX1_scanIn_50 : decode cX1_scanIn 50 = .ok (.iload_n 3, 1) := by decide +kernel
theorem dX1_scanIn_51 : decode cX1_scanIn 51 = .ok (.invokestatic 101, 3) := by decide +kernel
theorem dX1_scanIn_54 : decode cX1_scanIn 54 = .ok (.putfield 107, 3) := by decide +kernel
theorem dX1_scanIn_57 : decode cX1_scanIn 57 = .ok (.aload_n 0, 1) := by decide +kernel
theorem dX1_scanIn_58 : decode cX1_scanIn 58 = .ok (.aload_n 0, 1) := by decide +kernel
theorem dX1_scanIn_59 : decode cX1_scanIn 59 = .ok (.getfield 91, 3) := by decide +kernel
theorem dX1_scanIn_62 : decode cX1_scanIn 62 = .ok (.aload_n 0, 1) := by decide +kernel
theorem dX1_scanIn_63 : decode cX1_scanIn 63 = .ok (.getfield 67, 3) := by decide +kernel
theorem dX1_scanIn_66 : decode cX1_scanIn 66 = .ok (.iadd, 1) := by decide +kernel
theorem dX1_scanIn_67 : decode cX1_scanIn 67 = .ok (.aload_n 0, 1) := by decide +kernel
theorem dX1_scanIn_68 : decode cX1_scanIn 68 = .ok (.getfield 107, 3) := by decide +kernel
theorem dX1_scanIn_71 : decode cX1_scanIn 71 = .ok (.isub, 1) := by decide +kernel
theorem dX1_scanIn_72 : decode cX1_scanIn 72 = .ok (.putfield 110, 3) := by decide +kernel
theorem dX1_scanIn_75 : decode cX1_scanIn 75 = .ok (.aload_n 0, 1) := by decide +kernel
theorem dX1_scanIn_76 : decode cX1_scanIn 76 = .ok (.aload_n 1, 1) := by decide +kernel
theorem dX1_scanIn_77 : decode cX1_scanIn 77 = .ok (.iload_n 2, 1) := by decide +kernel
theorem dX1_scanIn_78 : decode cX1_scanIn 78 = .ok (.aload_n 0, 1) := by decide +kernel
theorem dX1_scanIn_79 : decode cX1_scanIn 79 = .ok (.getfield 107, 3) := by decide +kernel
theorem dX1_scanIn_82 : decode cX1_scanIn 82 = .ok (.invokevirtual 113, 3) := by decide +kernel
theorem dX1_scanIn_85 : decode cX1_scanIn 85 = .ok (.putfield 117, 3) := by decide +kernel
theorem dX1_scanIn_88 : decode cX1_scanIn 88 = .ok (.aload_n 0, 1) := by decide +kernel
theorem dX1_scanIn_89 : decode cX1_scanIn 89 = .ok (.aload_n 0, 1) := by decide +kernel
theorem dX1_scanIn_90 : decode cX1_scanIn 90 = .ok (.getfield 7, 3) := by decide +kernel
theorem dX1_scanIn_93 : decode cX1_scanIn 93 = .ok (.aload_n 0, 1) := by decide +kernel
theorem dX1_scanIn_94 : decode cX1_scanIn 94 = .ok (.getfield 117, 3) := by decide +kernel
theorem dX1_scanIn_97 : decode cX1_scanIn 97 = .ok (.aload_n 0, 1) := by decide +kernel
theorem dX1_scanIn_98 : decode cX1_scanIn 98 = .ok (.getfield 107, 3) := by decide +kernel
theorem dX1_scanIn_101 : decode cX1_scanIn 101 = .ok (.invokestatic 120, 3) := by decide +kernel
theorem dX1_scanIn_104 : decode cX1_scanIn 104 = .ok (.putfield 124, 3) := by decide +kernel
theorem dX1_scanIn_107 : decode cX1_scanIn 107 = .ok (.aload_n 0, 1) := by decide +kernel
theorem dX1_scanIn_108 : decode cX1_scanIn 108 = .ok (.iload_n 3, 1) := by decide +kernel
theorem dX1_scanIn_109 : decode cX1_scanIn 109 = .ok (.aload_n 0, 1) := by decide +kernel
theorem dX1_scanIn_110 : decode cX1_scanIn 110 = .ok (.getfield 107, 3) := by decide +kernel
theorem dX1_scanIn_113 : decode cX1_scanIn 113 = .ok (.isub, 1) := by decide +kernel
theorem dX1_scanIn_114 : decode cX1_scanIn 114 = .ok (.putfield 127, 3) := by decide +kernel
theorem dX1_scanIn_117 : decode cX1_scanIn 117 = .ok (.return_, 1) := by decide +kernel
theorem dX1_payRhyme_0 : decode cX1_payRhyme 0 = .ok (.aload_n 0, 1) := by decide +kernel
theorem dX1_payRhyme_1 : decode cX1_payRhyme 1 = .ok (.iload_n 1, 1) := by decide +kernel
theorem dX1_payRhyme_2 : decode cX1_payRhyme 2 = .ok (.putfield 130, 3) := by decide +kernel
theorem dX1_payRhyme_5 : decode cX1_payRhyme 5 = .ok (.aload_n 0, 1) := by decide +kernel
theorem dX1_payRhyme_6 : decode cX1_payRhyme 6 = .ok (.aload_n 0, 1) := by decide +kernel
theorem dX1_payRhyme_7 : decode cX1_payRhyme 7 = .ok (.getfield 26, 3) := by decide +kernel
theorem dX1_payRhyme_10 : decode cX1_payRhyme 10 = .ok (.invokevirtual 133, 3) := by decide +kernel
theorem dX1_payRhyme_13 : decode cX1_payRhyme 13 = .ok (.ifCond .eq 10, 3) := by decide +kernel
theorem dX1_payRhyme_16 : decode cX1_payRhyme 16 = .ok (.aload_n 0, 1) := by decide +kernel
theorem dX1_payRhyme_17 : decode cX1_payRhyme 17 = .ok (.getfield 13, 3) := by decide +kernel
theorem dX1_payRhyme_20 : decode cX1_payRhyme 20 = .ok (.goto 37, 3) := by decide +kernel
theorem dX1_payRhyme_23 : decode cX1_payRhyme 23 = .ok (.iconst 0, 1) := by decide +kernel
theorem dX1_payRhyme_24 : decode cX1_payRhyme 24 = .ok (.iconst 2, 1) := by decide +kernel
theorem dX1_payRhyme_25 : decode cX1_payRhyme 25 = .ok (.aload_n 0, 1) := by decide +kernel
theorem dX1_payRhyme_26 : decode cX1_payRhyme 26 = .ok (.getfield 117, 3) := by decide +kernel
theorem dX1_payRhyme_29 : decode cX1_payRhyme 29 = .ok (.invokestatic 137, 3) := by decide +kernel
theorem dX1_payRhyme_32 : decode cX1_payRhyme 32 = .ok (.imul, 1) := by decide +kernel
theorem dX1_payRhyme_33 : decode cX1_payRhyme 33 = .ok (.iconst 3, 1) := by decide +kernel
theorem dX1_payRhyme_34 : decode cX1_payRhyme 34 = .ok (.aload_n 0, 1) := by decide +kernel
theorem dX1_payRhyme_35 : decode cX1_payRhyme 35 = .ok (.getfield 124, 3) := by decide +kernel
theorem dX1_payRhyme_38 : decode cX1_payRhyme 38 = .ok (.imul, 1) := by decide +kernel
theorem dX1_payRhyme_39 : decode cX1_payRhyme 39 = .ok (.iadd, 1) := by decide +kernel
theorem dX1_payRhyme_40 : decode cX1_payRhyme 40 = .ok (.iconst 5, 1) := by decide +kernel
theorem dX1_payRhyme_41 : decode cX1_payRhyme 41 = .ok (.aload_n 0, 1) := by decide +kernel
theorem dX1_payRhyme_42 : decode cX1_payRhyme 42 = .ok (.getfield 127, 3) := by decide +kernel
theorem dX1_payRhyme_45 : decode cX1_payRhyme 45 = .ok (.imul, 1) := by decide +kernel
theorem dX1_payRhyme_46 : decode cX1_payRhyme 46 = .ok (.iadd, 1) := by decide +kernel
theorem dX1_payRhyme_47 : decode cX1_payRhyme 47 = .ok (.iconst 4, 1) := by decide +kernel
theorem dX1_payRhyme_48 : decode cX1_payRhyme 48 = .ok (.aload_n 0, 1) := by decide +kernel
theorem dX1_payRhyme_49 : decode cX1_payRhyme 49 = .ok (.getfield 130, 3) := by decide +kernel
theorem dX1_payRhyme_52 : decode cX1_payRhyme 52 = .ok (.imul, 1) := by decide +kernel
theorem dX1_payRhyme_53 : decode cX1_payRhyme 53 = .ok (.isub, 1) := by decide +kernel
theorem dX1_payRhyme_54 : decode cX1_payRhyme 54 = .ok (.invokestatic 143, 3) := by decide +kernel
theorem dX1_payRhyme_57 : decode cX1_payRhyme 57 = .ok (.putfield 146, 3) := by decide +kernel
theorem dX1_payRhyme_60 : decode cX1_payRhyme 60 = .ok (.return_, 1) := by decide +kernel
theorem dX1_faultsBy_0 : decode cX1_faultsBy 0 = .ok (.iload_n 1, 1) := by decide +kernel
theorem dX1_faultsBy_1 : decode cX1_faultsBy 1 = .ok (.invokestatic 97, 3) := by decide +kernel
theorem dX1_faultsBy_4 : decode cX1_faultsBy 4 = .ok (.aload_n 0, 1) := by decide +kernel
theorem dX1_faultsBy_5 : decode cX1_faultsBy 5 = .ok (.getfield 13, 3) := by decide +kernel
theorem dX1_faultsBy_8 : decode cX1_faultsBy 8 = .ok (.imul, 1) := by decide +kernel
theorem dX1_faultsBy_9 : decode cX1_faultsBy 9 = .ok (.istore_n 3, 1) := by decide +kernel
theorem dX1_faultsBy_10 : decode cX1_faultsBy 10 = .ok (.aload_n 0, 1) := by decide +kernel
theorem dX1_faultsBy_11 : decode cX1_faultsBy 11 = .ok (.getfield 91, 3) := by decide +kernel
theorem dX1_faultsBy_14 : decode cX1_faultsBy 14 = .ok (.aload_n 0, 1) := by decide +kernel
theorem dX1_faultsBy_15 : decode cX1_faultsBy 15 = .ok (.getfield 67, 3) := by decide +kernel
theorem dX1_faultsBy_18 : decode cX1_faultsBy 18 = .ok (.iadd, 1) := by decide +kernel
theorem dX1_faultsBy_19 : decode cX1_faultsBy 19 = .ok (.iload_n 3, 1) := by decide +kernel
theorem dX1_faultsBy_20 : decode cX1_faultsBy 20 = .ok (.invokestatic 101, 3) := by decide +kernel
theorem dX1_faultsBy_23 : decode cX1_faultsBy 23 = .ok (.istore 4, 2) := by decide +kernel
theorem dX1_faultsBy_25 : decode cX1_faultsBy 25 = .ok (.iload_n 1, 1) := by decide +kernel
theorem dX1_faultsBy_26 : decode cX1_faultsBy 26 = .ok (.aload_n 2, 1) := by decide +kernel
theorem dX1_faultsBy_27 : decode cX1_faultsBy 27 = .ok (.aload_n 0, 1) := by decide +kernel
theorem dX1_faultsBy_28 : decode cX1_faultsBy 28 = .ok (.getfield 83, 3) := by decide +kernel
theorem dX1_faultsBy_31 : decode cX1_faultsBy 31 = .ok (.iload 4, 2) := by decide +kernel
theorem dX1_faultsBy_33 : decode cX1_faultsBy 33 = .ok (.invokevirtual 113, 3) := by decide +kernel
theorem dX1_faultsBy_36 : decode cX1_faultsBy 36 = .ok (.iload 4, 2) := by decide +kernel
theorem dX1_faultsBy_38 : decode cX1_faultsBy 38 = .ok (.invokestatic 120, 3) := by decide +kernel
theorem dX1_faultsBy_41 : decode cX1_faultsBy 41 = .ok (.iload_n 3, 1) := by decide +kernel
theorem dX1_faultsBy_42 : decode cX1_faultsBy 42 = .ok (.iadd, 1) := by decide +kernel
theorem dX1_faultsBy_43 : decode cX1_faultsBy 43 = .ok (.iload 4, 2) := by decide +kernel
theorem dX1_faultsBy_45 : decode cX1_faultsBy 45 = .ok (.isub, 1) := by decide +kernel
theorem dX1_faultsBy_46 : decode cX1_faultsBy 46 = .ok (.ireturn, 1) := by decide +kernel
theorem dX1_offBy_0 : decode cX1_offBy 0 = .ok (.lload_n 1, 1) := by decide +kernel
theorem dX1_offBy_1 : decode cX1_offBy 1 = .ok (.iload_n 0, 1) := by decide +kernel
theorem dX1_offBy_2 : decode cX1_offBy 2 = .ok (.invokestatic 149, 3) := by decide +kernel
theorem dX1_offBy_5 : decode cX1_offBy 5 = .ok (.lxor, 1) := by decide +kernel
theorem dX1_offBy_6 : decode cX1_offBy 6 = .ok (.iload_n 3, 1) := by decide +kernel
theorem dX1_offBy_7 : decode cX1_offBy 7 = .ok (.invokestatic 153, 3) := by decide +kernel
theorem dX1_offBy_10 : decode cX1_offBy 10 = .ok (.land, 1) := by decide +kernel
theorem dX1_offBy_11 : decode cX1_offBy 11 = .ok (.invokestatic 137, 3) := by decide +kernel
theorem dX1_offBy_14 : decode cX1_offBy 14 = .ok (.ireturn, 1) := by decide +kernel
theorem dX1_isFaultless_0 : decode cX1_isFaultless 0 = .ok (.aload_n 0, 1) := by decide +kernel
theorem dX1_isFaultless_1 : decode cX1_isFaultless 1 = .ok (.getfield 124, 3) := by decide +kernel
theorem dX1_isFaultless_4 : decode cX1_isFaultless 4 = .ok (.ifCond .ne 14, 3) := by decide +kernel
theorem dX1_isFaultless_7 : decode cX1_isFaultless 7 = .ok (.aload_n 0, 1) := by decide +kernel
theorem dX1_isFaultless_8 : decode cX1_isFaultless 8 = .ok (.getfield 127, 3) := by decide +kernel
theorem dX1_isFaultless_11 : decode cX1_isFaultless 11 = .ok (.ifCond .ne 7, 3) := by decide +kernel
theorem dX1_isFaultless_14 : decode cX1_isFaultless 14 = .ok (.iconst 1, 1) := by decide +kernel
theorem dX1_isFaultless_15 : decode cX1_isFaultless 15 = .ok (.goto 4, 3) := by decide +kernel
theorem dX1_isFaultless_18 : decode cX1_isFaultless 18 = .ok (.iconst 0, 1) := by decide +kernel
theorem dX1_isFaultless_19 : decode cX1_isFaultless 19 = .ok (.ireturn, 1) := by decide +kernel
theorem dX1_stressAt_0 : decode cX1_stressAt 0 = .ok (.aload_n 0, 1) := by decide +kernel
theorem dX1_stressAt_1 : decode cX1_stressAt 1 = .ok (.getfield 117, 3) := by decide +kernel
theorem dX1_stressAt_4 : decode cX1_stressAt 4 = .ok (.iload_n 1, 1) := by decide +kernel
theorem dX1_stressAt_5 : decode cX1_stressAt 5 = .ok (.lushr, 1) := by decide +kernel
theorem dX1_stressAt_6 : decode cX1_stressAt 6 = .ok (.lconst 1, 1) := by decide +kernel
theorem dX1_stressAt_7 : decode cX1_stressAt 7 = .ok (.land, 1) := by decide +kernel
theorem dX1_stressAt_8 : decode cX1_stressAt 8 = .ok (.l2i, 1) := by decide +kernel
theorem dX1_stressAt_9 : decode cX1_stressAt 9 = .ok (.ireturn, 1) := by decide +kernel
theorem dX1_tells_0 : decode cX1_tells 0 = .ok (.iload_n 1, 1) := by decide +kernel
theorem dX1_tells_1 : decode cX1_tells 1 = .ok (.tableswitch 117 0 10 #[59, 64, 69, 74, 82, 87, 92, 97, 102, 107, 112], 59) := by decide +kernel
theorem dX1_tells_60 : decode cX1_tells 60 = .ok (.aload_n 0, 1) := by decide +kernel
theorem dX1_tells_61 : decode cX1_tells 61 = .ok (.getfield 7, 3) := by decide +kernel
theorem dX1_tells_64 : decode cX1_tells 64 = .ok (.ireturn, 1) := by decide +kernel
theorem dX1_tells_65 : decode cX1_tells 65 = .ok (.aload_n 0, 1) := by decide +kernel
theorem dX1_tells_66 : decode cX1_tells 66 = .ok (.getfield 13, 3) := by decide +kernel
theorem dX1_tells_69 : decode cX1_tells 69 = .ok (.ireturn, 1) := by decide +kernel
theorem dX1_tells_70 : decode cX1_tells 70 = .ok (.aload_n 0, 1) := by decide +kernel
theorem dX1_tells_71 : decode cX1_tells 71 = .ok (.getfield 16, 3) := by decide +kernel
theorem dX1_tells_74 : decode cX1_tells 74 = .ok (.ireturn, 1) := by decide +kernel
theorem dX1_tells_75 : decode cX1_tells 75 = .ok (.aload_n 0, 1) := by decide +kernel
theorem dX1_tells_76 : decode cX1_tells 76 = .ok (.getfield 26, 3) := by decide +kernel
theorem dX1_tells_79 : decode cX1_tells 79 = .ok (.invokevirtual 30, 3) := by decide +kernel
theorem dX1_tells_82 : decode cX1_tells 82 = .ok (.ireturn, 1) := by decide +kernel
theorem dX1_tells_83 : decode cX1_tells 83 = .ok (.aload_n 0, 1) := by decide +kernel
theorem dX1_tells_84 : decode cX1_tells 84 = .ok (.getfield 67, 3) := by decide +kernel
theorem dX1_tells_87 : decode cX1_tells 87 = .ok (.ireturn, 1) := by decide +kernel
theorem dX1_tells_88 : decode cX1_tells 88 = .ok (.aload_n 0, 1) := by decide +kernel
theorem dX1_tells_89 : decode cX1_tells 89 = .ok (.getfield 91, 3) := by decide +kernel
theorem dX1_tells_92 : decode cX1_tells 92 = .ok (.ireturn, 1) := by decide +kernel
theorem dX1_tells_93 : decode cX1_tells 93 = .ok (.aload_n 0, 1) := by decide +kernel
theorem dX1_tells_94 : decode cX1_tells 94 = .ok (.getfield 107, 3) := by decide +kernel
theorem dX1_tells_97 : decode cX1_tells 97 = .ok (.ireturn, 1) := by decide +kernel
theorem dX1_tells_98 : decode cX1_tells 98 = .ok (.aload_n 0, 1) := by decide +kernel
theorem dX1_tells_99 : decode cX1_tells 99 = .ok (.getfield 110, 3) := by decide +kernel
theorem dX1_tells_102 : decode cX1_tells 102 = .ok (.ireturn, 1) := by decide +kernel
theorem dX1_tells_103 : decode cX1_tells 103 = .ok (.aload_n 0, 1) := by decide +kernel
theorem dX1_tells_104 : decode cX1_tells 104 = .ok (.getfield 124, 3) := by decide +kernel
theorem dX1_tells_107 : decode cX1_tells 107 = .ok (.ireturn, 1) := by decide +kernel
theorem dX1_tells_108 : decode cX1_tells 108 = .ok (.aload_n 0, 1) := by decide +kernel
theorem dX1_tells_109 : decode cX1_tells 109 = .ok (.getfield 127, 3) := by decide +kernel
theorem dX1_tells_112 : decode cX1_tells 112 = .ok (.ireturn, 1) := by decide +kernel
theorem dX1_tells_113 : decode cX1_tells 113 = .ok (.aload_n 0, 1) := by decide +kernel
theorem dX1_tells_114 : decode cX1_tells 114 = .ok (.getfield 130, 3) := by decide +kernel
theorem dX1_tells_117 : decode cX1_tells 117 = .ok (.ireturn, 1) := by decide +kernel
theorem dX1_tells_118 : decode cX1_tells 118 = .ok (.aload_n 0, 1) := by decide +kernel
theorem dX1_tells_119 : decode cX1_tells 119 = .ok (.getfield 146, 3) := by decide +kernel
theorem dX1_tells_122 : decode cX1_tells 122 = .ok (.ireturn, 1) := by decide +kernel
theorem dX2_init_0 : decode cX2_init 0 = .ok (.aload_n 0, 1) := by decide +kernel
theorem dX2_init_1 : decode cX2_init 1 = .ok (.invokespecial 1, 3) := by decide +kernel
theorem dX2_init_4 : decode cX2_init 4 = .ok (.aload_n 0, 1) := by decide +kernel
theorem dX2_init_5 : decode cX2_init 5 = .ok (.iload_n 1, 1) := by decide +kernel
theorem dX2_init_6 : decode cX2_init 6 = .ok (.putfield 7, 3) := by decide +kernel
theorem dX2_init_9 : decode cX2_init 9 = .ok (.aload_n 0, 1) := by decide +kernel
theorem dX2_init_10 : decode cX2_init 10 = .ok (.iload_n 2, 1) := by decide +kernel
theorem dX2_init_11 : decode cX2_init 11 = .ok (.putfield 13, 3) := by decide +kernel
theorem dX2_init_14 : decode cX2_init 14 = .ok (.aload_n 0, 1) := by decide +kernel
theorem dX2_init_15 : decode cX2_init 15 = .ok (.iload_n 3, 1) := by decide +kernel
theorem dX2_init_16 : decode cX2_init 16 = .ok (.putfield 16, 3) := by decide +kernel
theorem dX2_init_19 : decode cX2_init 19 = .ok (.aload_n 0, 1) := by decide +kernel
theorem dX2_init_20 : decode cX2_init 20 = .ok (.iload 4, 2) := by decide +kernel
theorem dX2_init_22 : decode cX2_init 22 = .ok (.putfield 19, 3) := by decide +kernel
theorem dX2_init_25 : decode cX2_init 25 = .ok (.aload_n 0, 1) := by decide +kernel
theorem dX2_init_26 : decode cX2_init 26 = .ok (.iload 5, 2) := by decide +kernel
theorem dX2_init_28 : decode cX2_init 28 = .ok (.putfield 22, 3) := by decide +kernel
theorem dX2_init_31 : decode cX2_init 31 = .ok (.aload_n 0, 1) := by decide +kernel
theorem dX2_init_32 : decode cX2_init 32 = .ok (.iload 6, 2) := by decide +kernel
theorem dX2_init_34 : decode cX2_init 34 = .ok (.putfield 25, 3) := by decide +kernel
theorem dX2_init_37 : decode cX2_init 37 = .ok (.return_, 1) := by decide +kernel
theorem dX2_meltsInto_0 : decode cX2_meltsInto 0 = .ok (.aload_n 0, 1) := by decide +kernel
theorem dX2_meltsInto_1 : decode cX2_meltsInto 1 = .ok (.getfield 22, 3) := by decide +kernel
theorem dX2_meltsInto_4 : decode cX2_meltsInto 4 = .ok (.ifCond .ne 14, 3) := by decide +kernel
theorem dX2_meltsInto_7 : decode cX2_meltsInto 7 = .ok (.aload_n 1, 1) := by decide +kernel
theorem dX2_meltsInto_8 : decode cX2_meltsInto 8 = .ok (.getfield 25, 3) := by decide +kernel
theorem dX2_meltsInto_11 : decode cX2_meltsInto 11 = .ok (.ifCond .eq 7, 3) := by decide +kernel
theorem dX2_meltsInto_14 : decode cX2_meltsInto 14 = .ok (.iconst 1, 1) := by decide +kernel
theorem dX2_meltsInto_15 : decode cX2_meltsInto 15 = .ok (.goto 4, 3) := by decide +kernel
theorem dX2_meltsInto_18 : decode cX2_meltsInto 18 = .ok (.iconst 0, 1) := by decide +kernel
theorem dX2_meltsInto_19 : decode cX2_meltsInto 19 = .ok (.ireturn, 1) := by decide +kernel
theorem dX2_lastStress_0 : decode cX2_lastStress 0 = .ok (.aload_n 0, 1) := by decide +kernel
theorem dX2_lastStress_1 : decode cX2_lastStress 1 = .ok (.getfield 16, 3) := by decide +kernel
theorem dX2_lastStress_4 : decode cX2_lastStress 4 = .ok (.aload_n 0, 1) := by decide +kernel
theorem dX2_lastStress_5 : decode cX2_lastStress 5 = .ok (.getfield 13, 3) := by decide +kernel
theorem dX2_lastStress_8 : decode cX2_lastStress 8 = .ok (.iconst 1, 1) := by decide +kernel
theorem dX2_lastStress_9 : decode cX2_lastStress 9 = .ok (.isub, 1) := by decide +kernel
theorem dX2_lastStress_10 : decode cX2_lastStress 10 = .ok (.ishr, 1) := by decide +kernel
theorem dX2_lastStress_11 : decode cX2_lastStress 11 = .ok (.iconst 1, 1) := by decide +kernel
theorem dX2_lastStress_12 : decode cX2_lastStress 12 = .ok (.iand, 1) := by decide +kernel
theorem dX2_lastStress_13 : decode cX2_lastStress 13 = .ok (.ireturn, 1) := by decide +kernel
theorem dX2_rhymeWith_0 : decode cX2_rhymeWith 0 = .ok (.aload_n 0, 1) := by decide +kernel
theorem dX2_rhymeWith_1 : decode cX2_rhymeWith 1 = .ok (.getfield 7, 3) := by decide +kernel
theorem dX2_rhymeWith_4 : decode cX2_rhymeWith 4 = .ok (.aload_n 1, 1) := by decide +kernel
theorem dX2_rhymeWith_5 : decode cX2_rhymeWith 5 = .ok (.getfield 7, 3) := by decide +kernel
theorem dX2_rhymeWith_8 : decode cX2_rhymeWith 8 = .ok (.if_icmp .eq 14, 3) := by decide +kernel
theorem dX2_rhymeWith_11 : decode cX2_rhymeWith 11 = .ok (.aload_n 0, 1) := by decide +kernel
theorem dX2_rhymeWith_12 : decode cX2_rhymeWith 12 = .ok (.getfield 19, 3) := by decide +kernel
theorem dX2_rhymeWith_15 : decode cX2_rhymeWith 15 = .ok (.aload_n 1, 1) := by decide +kernel
theorem dX2_rhymeWith_16 : decode cX2_rhymeWith 16 = .ok (.getfield 19, 3) := by decide +kernel
theorem dX2_rhymeWith_19 : decode cX2_rhymeWith 19 = .ok (.if_icmp .eq 5, 3) := by decide +kernel
theorem dX2_rhymeWith_22 : decode cX2_rhymeWith 22 = .ok (.iconst 0, 1) := by decide +kernel
theorem dX2_rhymeWith_23 : decode cX2_rhymeWith 23 = .ok (.ireturn, 1) := by decide +kernel
theorem dX2_rhymeWith_24 : decode cX2_rhymeWith 24 = .ok (.aload_n 0, 1) := by decide +kernel
theorem dX2_rhymeWith_25 : decode cX2_rhymeWith 25 = .ok (.getfield 22, 3) := by decide +kernel
theorem dX2_rhymeWith_28 : decode cX2_rhymeWith 28 = .ok (.aload_n 1, 1) := by decide +kernel
theorem dX2_rhymeWith_29 : decode cX2_rhymeWith 29 = .ok (.getfield 22, 3) := by decide +kernel
theorem dX2_rhymeWith_32 : decode cX2_rhymeWith 32 = .ok (.if_icmp .ne 7, 3) := by decide +kernel
theorem dX2_rhymeWith_35 : decode cX2_rhymeWith 35 = .ok (.iconst 1, 1) := by decide +kernel
theorem dX2_rhymeWith_36 : decode cX2_rhymeWith 36 = .ok (.goto 4, 3) := by decide +kernel
theorem dX2_rhymeWith_39 : decode cX2_rhymeWith 39 = .ok (.iconst 0, 1) := by decide +kernel
theorem dX2_rhymeWith_40 : decode cX2_rhymeWith 40 = .ok (.istore_n 2, 1) := by decide +kernel
theorem dX2_rhymeWith_41 : decode cX2_rhymeWith 41 = .ok (.aload_n 0, 1) := by decide +kernel
theorem dX2_rhymeWith_42 : decode cX2_rhymeWith 42 = .ok (.invokevirtual 29, 3) := by decide +kernel
theorem dX2_rhymeWith_45 : decode cX2_rhymeWith 45 = .ok (.aload_n 1, 1) := by decide +kernel
theorem dX2_rhymeWith_46 : decode cX2_rhymeWith 46 = .ok (.invokevirtual 29, 3) := by decide +kernel
theorem dX2_rhymeWith_49 : decode cX2_rhymeWith 49 = .ok (.if_icmp .ne 7, 3) := by decide +kernel
theorem dX2_rhymeWith_52 : decode cX2_rhymeWith 52 = .ok (.iconst 1, 1) := by decide +kernel
theorem dX2_rhymeWith_53 : decode cX2_rhymeWith 53 = .ok (.goto 4, 3) := by decide +kernel
theorem dX2_rhymeWith_56 : decode cX2_rhymeWith 56 = .ok (.iconst 0, 1) := by decide +kernel
theorem dX2_rhymeWith_57 : decode cX2_rhymeWith 57 = .ok (.istore_n 3, 1) := by decide +kernel
theorem dX2_rhymeWith_58 : decode cX2_rhymeWith 58 = .ok (.iconst 1, 1) := by decide +kernel
theorem dX2_rhymeWith_59 : decode cX2_rhymeWith 59 = .ok (.iload_n 2, 1) := by decide +kernel
theorem dX2_rhymeWith_60 : decode cX2_rhymeWith 60 = .ok (.iadd, 1) := by decide +kernel
theorem dX2_rhymeWith_61 : decode cX2_rhymeWith 61 = .ok (.iload_n 3, 1) := by decide +kernel
theorem dX2_rhymeWith_62 : decode cX2_rhymeWith 62 = .ok (.iadd, 1) := by decide +kernel
theorem dX2_rhymeWith_63 : decode cX2_rhymeWith 63 = .ok (.ireturn, 1) := by decide +kernel
theorem dX3_init_0 : decode cX3_init 0 = .ok (.aload_n 0, 1) := by decide +kernel
theorem dX3_init_1 : decode cX3_init 1 = .ok (.invokespecial 3, 3) := by decide +kernel
theorem dX3_init_4 : decode cX3_init 4 = .ok (.aload_n 0, 1) := by decide +kernel
theorem dX3_init_5 : decode cX3_init 5 = .ok (.new 9, 3) := by decide +kernel
theorem dX3_init_8 : decode cX3_init 8 = .ok (.dup, 1) := by decide +kernel
theorem dX3_init_9 : decode cX3_init 9 = .ok (.invokespecial 11, 3) := by decide +kernel
theorem dX3_init_12 : decode cX3_init 12 = .ok (.putfield 12, 3) := by decide +kernel
theorem dX3_init_15 : decode cX3_init 15 = .ok (.aload_n 0, 1) := by decide +kernel
theorem dX3_init_16 : decode cX3_init 16 = .ok (.new 9, 3) := by decide +kernel
theorem dX3_init_19 : decode cX3_init 19 = .ok (.dup, 1) := by decide +kernel
theorem dX3_init_20 : decode cX3_init 20 = .ok (.invokespecial 11, 3) := by decide +kernel
theorem dX3_init_23 : decode cX3_init 23 = .ok (.putfield 16, 3) := by decide +kernel
theorem dX3_init_26 : decode cX3_init 26 = .ok (.aload_n 0, 1) := by decide +kernel
theorem dX3_init_27 : decode cX3_init 27 = .ok (.new 19, 3) := by decide +kernel
theorem dX3_init_30 : decode cX3_init 30 = .ok (.dup, 1) := by decide +kernel
theorem dX3_init_31 : decode cX3_init 31 = .ok (.invokespecial 21, 3) := by decide +kernel
theorem dX3_init_34 : decode cX3_init 34 = .ok (.putfield 22, 3) := by decide +kernel
theorem dX3_init_37 : decode cX3_init 37 = .ok (.return_, 1) := by decide +kernel
theorem dX3_word_0 : decode cX3_word 0 = .ok (.iload_n 1, 1) := by decide +kernel
theorem dX3_word_1 : decode cX3_word 1 = .ok (.iconst 1, 1) := by decide +kernel
theorem dX3_word_2 : decode cX3_word 2 = .ok (.if_icmp .lt 19, 3) := by decide +kernel
theorem dX3_word_5 : decode cX3_word 5 = .ok (.iload_n 1, 1) := by decide +kernel
theorem dX3_word_6 : decode cX3_word 6 = .ok (.iconst 4, 1) := by decide +kernel
theorem dX3_word_7 : decode cX3_word 7 = .ok (.if_icmp .gt 14, 3) := by decide +kernel
theorem dX3_word_10 : decode cX3_word 10 = .ok (.iload_n 2, 1) := by decide +kernel
theorem dX3_word_11 : decode cX3_word 11 = .ok (.ifCond .lt 10, 3) := by decide +kernel
theorem dX3_word_14 : decode cX3_word 14 = .ok (.iload_n 2, 1) := by decide +kernel
theorem dX3_word_15 : decode cX3_word 15 = .ok (.iconst 1, 1) := by decide +kernel
theorem dX3_word_16 : decode cX3_word 16 = .ok (.iload_n 1, 1) := by decide +kernel
theorem dX3_word_17 : decode cX3_word 17 = .ok (.ishl, 1) := by decide +kernel
theorem dX3_word_18 : decode cX3_word 18 = .ok (.if_icmp .lt 13, 3) := by decide +kernel
theorem dX3_word_21 : decode cX3_word 21 = .ok (.new 26, 3) := by decide +kernel
theorem dX3_word_24 : decode cX3_word 24 = .ok (.dup, 1) := by decide +kernel
theorem dX3_word_25 : decode cX3_word 25 = .ok (.ldc 28, 2) := by decide +kernel
theorem dX3_word_27 : decode cX3_word 27 = .ok (.invokespecial 30, 3) := by decide +kernel
theorem dX3_word_30 : decode cX3_word 30 = .ok (.athrow, 1) := by decide +kernel
theorem dX3_word_31 : decode cX3_word 31 = .ok (.iload_n 3, 1) := by decide +kernel
theorem dX3_word_32 : decode cX3_word 32 = .ok (.bipush 10, 2) := by decide +kernel
theorem dX3_word_34 : decode cX3_word 34 = .ok (.invokestatic 33, 3) := by decide +kernel
theorem dX3_word_37 : decode cX3_word 37 = .ok (.ifCond .eq 13, 3) := by decide +kernel
theorem dX3_word_40 : decode cX3_word 40 = .ok (.iload 4, 2) := by decide +kernel
theorem dX3_word_42 : decode cX3_word 42 = .ok (.bipush 10, 2) := by decide +kernel
theorem dX3_word_44 : decode cX3_word 44 = .ok (.invokestatic 33, 3) := by decide +kernel
theorem dX3_word_47 : decode cX3_word 47 = .ok (.ifCond .ne 13, 3) := by decide +kernel
theorem dX3_word_50 : decode cX3_word 50 = .ok (.new 26, 3) := by decide +kernel
theorem dX3_word_53 : decode cX3_word 53 = .ok (.dup, 1) := by decide +kernel
theorem dX3_word_54 : decode cX3_word 54 = .ok (.ldc 37, 2) := by decide +kernel
theorem dX3_word_56 : decode cX3_word 56 = .ok (.invokespecial 30, 3) := by decide +kernel
theorem dX3_word_59 : decode cX3_word 59 = .ok (.athrow, 1) := by decide +kernel
theorem dX3_word_60 : decode cX3_word 60 = .ok (.aload_n 0, 1) := by decide +kernel
theorem dX3_word_61 : decode cX3_word 61 = .ok (.getfield 12, 3) := by decide +kernel
theorem dX3_word_64 : decode cX3_word 64 = .ok (.invokevirtual 39, 3) := by decide +kernel
theorem dX3_word_67 : decode cX3_word 67 = .ok (.bipush 30, 2) := by decide +kernel
theorem dX3_word_69 : decode cX3_word 69 = .ok (.if_icmp .lt 13, 3) := by decide +kernel
theorem dX3_word_72 : decode cX3_word 72 = .ok (.new 43, 3) := by decide +kernel
theorem dX3_word_75 : decode cX3_word 75 = .ok (.dup, 1) := by decide +kernel
theorem dX3_word_76 : decode cX3_word 76 = .ok (.ldc 45, 2) := by decide +kernel
theorem dX3_word_78 : decode cX3_word 78 = .ok (.invokespecial 47, 3) := by decide +kernel
theorem dX3_word_81 : decode cX3_word 81 = .ok (.athrow, 1) := by decide +kernel
theorem dX3_word_82 : decode cX3_word 82 = .ok (.new 48, 3) := by decide +kernel
theorem dX3_word_85 : decode cX3_word 85 = .ok (.dup, 1) := by decide +kernel
theorem dX3_word_86 : decode cX3_word 86 = .ok (.aload_n 0, 1) := by decide +kernel
theorem dX3_word_87 : decode cX3_word 87 = .ok (.getfield 12, 3) := by decide +kernel
theorem dX3_word_90 : decode cX3_word 90 = .ok (.invokevirtual 39, 3) := by decide +kernel
theorem dX3_word_93 : decode cX3_word 93 = .ok (.iload_n 1, 1) := by decide +kernel
theorem dX3_word_94 : decode cX3_word 94 = .ok (.iload_n 2, 1) := by decide +kernel
theorem dX3_word_95 : decode cX3_word 95 = .ok (.iload_n 3, 1) := by decide +kernel
theorem dX3_word_96 : decode cX3_word 96 = .ok (.iload 4, 2) := by decide +kernel
theorem dX3_word_98 : decode cX3_word 98 = .ok (.iload 5, 2) := by decide +kernel
theorem dX3_word_100 : decode cX3_word 100 = .ok (.invokespecial 50, 3) := by decide +kernel
theorem dX3_word_103 : decode cX3_word 103 = .ok (.astore 6, 2) := by decide +kernel
theorem dX3_word_105 : decode cX3_word 105 = .ok (.aload_n 0, 1) := by decide +kernel
theorem dX3_word_106 : decode cX3_word 106 = .ok (.getfield 12, 3) := by decide +kernel
theorem dX3_word_109 : decode cX3_word 109 = .ok (.aload 6, 2) := by decide +kernel
theorem dX3_word_111 : decode cX3_word 111 = .ok (.invokevirtual 53, 3) := by decide +kernel
theorem dX3_word_114 : decode cX3_word 114 = .ok (.pop, 1) := by decide +kernel
theorem dX3_word_115 : decode cX3_word 115 = .ok (.aload 6, 2) := by decide +kernel
theorem dX3_word_117 : decode cX3_word 117 = .ok (.getfield 57, 3) := by decide +kernel
theorem dX3_word_120 : decode cX3_word 120 = .ok (.ireturn, 1) := by decide +kernel
theorem dX3_about_0 : decode cX3_about 0 = .ok (.aload_n 0, 1) := by decide +kernel
theorem dX3_about_1 : decode cX3_about 1 = .ok (.iload_n 1, 1) := by decide +kernel
theorem dX3_about_2 : decode cX3_about 2 = .ok (.invokevirtual 61, 3) := by decide +kernel
theorem dX3_about_5 : decode cX3_about 5 = .ok (.astore_n 3, 1) := by decide +kernel
theorem dX3_about_6 : decode cX3_about 6 = .ok (.iload_n 2, 1) := by decide +kernel
theorem dX3_about_7 : decode cX3_about 7 = .ok (.bipush 6, 2) := by decide +kernel
theorem dX3_about_9 : decode cX3_about 9 = .ok (.invokestatic 65, 3) := by decide +kernel
theorem dX3_about_12 : decode cX3_about 12 = .ok (.aload_n 0, 1) := by decide +kernel
theorem dX3_about_13 : decode cX3_about 13 = .ok (.aload_n 3, 1) := by decide +kernel
theorem dX3_about_14 : decode cX3_about 14 = .ok (.iload_n 2, 1) := by decide +kernel
theorem dX3_about_15 : decode cX3_about 15 = .ok (.invokevirtual 69, 3) := by decide +kernel
theorem dX3_about_18 : decode cX3_about 18 = .ok (.ireturn, 1) := by decide +kernel
theorem dX3_line_0 : decode cX3_line 0 = .ok (.iload_n 1, 1) := by decide +kernel
theorem dX3_line_1 : decode cX3_line 1 = .ok (.iconst 4, 1) := by decide +kernel
theorem dX3_line_2 : decode cX3_line 2 = .ok (.invokestatic 33, 3) := by decide +kernel
theorem dX3_line_5 : decode cX3_line 5 = .ok (.ifCond .eq 23, 3) := by decide +kernel
theorem dX3_line_8 : decode cX3_line 8 = .ok (.iload_n 2, 1) := by decide +kernel
theorem dX3_line_9 : decode cX3_line 9 = .ok (.iconst 1, 1) := by decide +kernel
theorem dX3_line_10 : decode cX3_line 10 = .ok (.if_icmp .lt 18, 3) := by decide +kernel
theorem dX3_line_13 : decode cX3_line 13 = .ok (.iload_n 2, 1) := by decide +kernel
theorem dX3_line_14 : decode cX3_line 14 = .ok (.bipush 6, 2) := by decide +kernel
theorem dX3_line_16 : decode cX3_line 16 = .ok (.if_icmp .gt 12, 3) := by decide +kernel
theorem dX3_line_19 : decode cX3_line 19 = .ok (.iload_n 3, 1) := by decide +kernel
theorem dX3_line_20 : decode cX3_line 20 = .ok (.bipush 6, 2) := by decide +kernel
theorem dX3_line_22 : decode cX3_line 22 = .ok (.invokestatic 33, 3) := by decide +kernel
theorem dX3_line_25 : decode cX3_line 25 = .ok (.ifCond .ne 13, 3) := by decide +kernel
theorem dX3_line_28 : decode cX3_line 28 = .ok (.new 26, 3) := by decide +kernel
theorem dX3_line_31 : decode cX3_line 31 = .ok (.dup, 1) := by decide +kernel
theorem dX3_line_32 : decode cX3_line 32 = .ok (.ldc 73, 2) := by decide +kernel
theorem dX3_line_34 : decode cX3_line 34 = .ok (.invokespecial 30, 3) := by decide +kernel
theorem dX3_line_37 : decode cX3_line 37 = .ok (.athrow, 1) := by decide +kernel
theorem dX3_line_38 : decode cX3_line 38 = .ok (.aload_n 0, 1) := by decide +kernel
theorem dX3_line_39 : decode cX3_line 39 = .ok (.getfield 16, 3) := by decide +kernel
theorem dX3_line_42 : decode cX3_line 42 = .ok (.invokevirtual 39, 3) := by decide +kernel
theorem dX3_line_45 : decode cX3_line 45 = .ok (.istore 4, 2) := by decide +kernel
theorem dX3_line_47 : decode cX3_line 47 = .ok (.iload 4, 2) := by decide +kernel
theorem dX3_line_49 : decode cX3_line 49 = .ok (.bipush 10, 2) := by decide +kernel
theorem dX3_line_51 : decode cX3_line 51 = .ok (.if_icmp .lt 13, 3) := by decide +kernel
theorem dX3_line_54 : decode cX3_line 54 = .ok (.new 43, 3) := by decide +kernel
theorem dX3_line_57 : decode cX3_line 57 = .ok (.dup, 1) := by decide +kernel
theorem dX3_line_58 : decode cX3_line 58 = .ok (.ldc 75, 2) := by decide +kernel
theorem dX3_line_60 : decode cX3_line 60 = .ok (.invokespecial 47, 3) := by decide +kernel
theorem dX3_line_63 : decode cX3_line 63 = .ok (.athrow, 1) := by decide +kernel
theorem dX3_line_64 : decode cX3_line 64 = .ok (.aload_n 0, 1) := by decide +kernel
theorem dX3_line_65 : decode cX3_line 65 = .ok (.getfield 16, 3) := by decide +kernel
theorem dX3_line_68 : decode cX3_line 68 = .ok (.new 77, 3) := by decide +kernel
theorem dX3_line_71 : decode cX3_line 71 = .ok (.dup, 1) := by decide +kernel
theorem dX3_line_72 : decode cX3_line 72 = .ok (.iload_n 1, 1) := by decide +kernel
theorem dX3_line_73 : decode cX3_line 73 = .ok (.iload_n 2, 1) := by decide +kernel
theorem dX3_line_74 : decode cX3_line 74 = .ok (.iload_n 3, 1) := by decide +kernel
theorem dX3_line_75 : decode cX3_line 75 = .ok (.aload_n 0, 1) := by decide +kernel
theorem dX3_line_76 : decode cX3_line 76 = .ok (.iload_n 3, 1) := by decide +kernel
theorem dX3_line_77 : decode cX3_line 77 = .ok (.invokevirtual 79, 3) := by decide +kernel
theorem dX3_line_80 : decode cX3_line 80 = .ok (.invokespecial 83, 3) := by decide +kernel
theorem dX3_line_83 : decode cX3_line 83 = .ok (.invokevirtual 53, 3) := by decide +kernel
theorem dX3_line_86 : decode cX3_line 86 = .ok (.pop, 1) := by decide +kernel
theorem dX3_line_87 : decode cX3_line 87 = .ok (.aload_n 0, 1) := by decide +kernel
theorem dX3_line_88 : decode cX3_line 88 = .ok (.iload 4, 2) := by decide +kernel
theorem dX3_line_90 : decode cX3_line 90 = .ok (.invokevirtual 86, 3) := by decide +kernel
theorem dX3_line_93 : decode cX3_line 93 = .ok (.iload 4, 2) := by decide +kernel
theorem dX3_line_95 : decode cX3_line 95 = .ok (.ireturn, 1) := by decide +kernel
theorem dX3_write_0 : decode cX3_write 0 = .ok (.aload_n 0, 1) := by decide +kernel
theorem dX3_write_1 : decode cX3_write 1 = .ok (.iload_n 1, 1) := by decide +kernel
theorem dX3_write_2 : decode cX3_write 2 = .ok (.invokevirtual 90, 3) := by decide +kernel
theorem dX3_write_5 : decode cX3_write 5 = .ok (.astore 4, 2) := by decide +kernel
theorem dX3_write_7 : decode cX3_write 7 = .ok (.aload 4, 2) := by decide +kernel
theorem dX3_write_9 : decode cX3_write 9 = .ok (.getfield 93, 3) := by decide +kernel
theorem dX3_write_12 : decode cX3_write 12 = .ok (.invokevirtual 39, 3) := by decide +kernel
theorem dX3_write_15 : decode cX3_write 15 = .ok (.istore 5, 2) := by decide +kernel
theorem dX3_write_17 : decode cX3_write 17 = .ok (.iload_n 2, 1) := by decide +kernel
theorem dX3_write_18 : decode cX3_write 18 = .ok (.iload 5, 2) := by decide +kernel
theorem dX3_write_20 : decode cX3_write 20 = .ok (.iconst 1, 1) := by decide +kernel
theorem dX3_write_21 : decode cX3_write 21 = .ok (.iadd, 1) := by decide +kernel
theorem dX3_write_22 : decode cX3_write 22 = .ok (.invokestatic 65, 3) := by decide +kernel
theorem dX3_write_25 : decode cX3_write 25 = .ok (.aload_n 0, 1) := by decide +kernel
theorem dX3_write_26 : decode cX3_write 26 = .ok (.iload_n 3, 1) := by decide +kernel
theorem dX3_write_27 : decode cX3_write 27 = .ok (.invokevirtual 61, 3) := by decide +kernel
theorem dX3_write_30 : decode cX3_write 30 = .ok (.astore 6, 2) := by decide +kernel
theorem dX3_write_32 : decode cX3_write 32 = .ok (.iload_n 2, 1) := by decide +kernel
theorem dX3_write_33 : decode cX3_write 33 = .ok (.iload 5, 2) := by decide +kernel
theorem dX3_write_35 : decode cX3_write 35 = .ok (.if_icmp .ge 14, 3) := by decide +kernel
theorem dX3_write_38 : decode cX3_write 38 = .ok (.aload_n 0, 1) := by decide +kernel
theorem dX3_write_39 : decode cX3_write 39 = .ok (.iload_n 1, 1) := by decide +kernel
theorem dX3_write_40 : decode cX3_write 40 = .ok (.iload_n 2, 1) := by decide +kernel
theorem dX3_write_41 : decode cX3_write 41 = .ok (.aload 6, 2) := by decide +kernel
theorem dX3_write_43 : decode cX3_write 43 = .ok (.invokevirtual 96, 3) := by decide +kernel
theorem dX3_write_46 : decode cX3_write 46 = .ok (.iload 5, 2) := by decide +kernel
theorem dX3_write_48 : decode cX3_write 48 = .ok (.ireturn, 1) := by decide +kernel
theorem dX3_write_49 : decode cX3_write 49 = .ok (.iload 5, 2) := by decide +kernel
theorem dX3_write_51 : decode cX3_write 51 = .ok (.bipush 8, 2) := by decide +kernel
theorem dX3_write_53 : decode cX3_write 53 = .ok (.if_icmp .lt 13, 3) := by decide +kernel
theorem dX3_write_56 : decode cX3_write 56 = .ok (.new 43, 3) := by decide +kernel
theorem dX3_write_59 : decode cX3_write 59 = .ok (.dup, 1) := by decide +kernel
theorem dX3_write_60 : decode cX3_write 60 = .ok (.ldc 100, 2) := by decide +kernel
theorem dX3_write_62 : decode cX3_write 62 = .ok (.invokespecial 47, 3) := by decide +kernel
theorem dX3_write_65 : decode cX3_write 65 = .ok (.athrow, 1) := by decide +kernel
theorem dX3_write_66 : decode cX3_write 66 = .ok (.aload 4, 2) := by decide +kernel
theorem dX3_write_68 : decode cX3_write 68 = .ok (.aload 6, 2) := by decide +kernel
theorem dX3_write_70 : decode cX3_write 70 = .ok (.invokevirtual 102, 3) := by decide +kernel
theorem dX3_write_73 : decode cX3_write 73 = .ok (.aload_n 0, 1) := by decide +kernel
theorem dX3_write_74 : decode cX3_write 74 = .ok (.iload_n 1, 1) := by decide +kernel
theorem dX3_write_75 : decode cX3_write 75 = .ok (.invokevirtual 86, 3) := by decide +kernel
theorem dX3_write_78 : decode cX3_write 78 = .ok (.iload 5, 2) := by decide +kernel
theorem dX3_write_80 : decode cX3_write 80 = .ok (.iconst 1, 1) := by decide +kernel
theorem dX3_write_81 : decode cX3_write 81 = .ok (.iadd, 1) := by decide +kernel
theorem dX3_write_82 : decode cX3_write 82 = .ok (.ireturn, 1) := by decide +kernel
theorem dX3_strike_0 : decode cX3_strike 0 = .ok (.aload_n 0, 1) := by decide +kernel
theorem dX3_strike_1 : decode cX3_strike 1 = .ok (.iload_n 1, 1) := by decide +kernel
theorem dX3_strike_2 : decode cX3_strike 2 = .ok (.invokevirtual 90, 3) := by decide +kernel
theorem dX3_strike_5 : decode cX3_strike 5 = .ok (.astore_n 2, 1) := by decide +kernel
theorem dX3_strike_6 : decode cX3_strike 6 = .ok (.aload_n 2, 1) := by decide +kernel
theorem dX3_strike_7 : decode cX3_strike 7 = .ok (.invokevirtual 106, 3) := by decide +kernel
theorem dX3_strike_10 : decode cX3_strike 10 = .ok (.astore_n 3, 1) := by decide +kernel
theorem dX3_strike_11 : decode cX3_strike 11 = .ok (.aload_n 3, 1) := by decide +kernel
theorem dX3_strike_12 : decode cX3_strike 12 = .ok (.ifnonnull 13, 3) := by decide +kernel
theorem dX3_strike_15 : decode cX3_strike 15 = .ok (.new 43, 3) := by decide +kernel
theorem dX3_strike_18 : decode cX3_strike 18 = .ok (.dup, 1) := by decide +kernel
theorem dX3_strike_19 : decode cX3_strike 19 = .ok (.ldc 110, 2) := by decide +kernel
theorem dX3_strike_21 : decode cX3_strike 21 = .ok (.invokespecial 47, 3) := by decide +kernel
theorem dX3_strike_24 : decode cX3_strike 24 = .ok (.athrow, 1) := by decide +kernel
theorem dX3_strike_25 : decode cX3_strike 25 = .ok (.aload_n 2, 1) := by decide +kernel
theorem dX3_strike_26 : decode cX3_strike 26 = .ok (.invokevirtual 112, 3) := by decide +kernel
theorem dX3_strike_29 : decode cX3_strike 29 = .ok (.aload_n 0, 1) := by decide +kernel
theorem dX3_strike_30 : decode cX3_strike 30 = .ok (.iload_n 1, 1) := by decide +kernel
theorem dX3_strike_31 : decode cX3_strike 31 = .ok (.invokevirtual 86, 3) := by decide +kernel
theorem dX3_strike_34 : decode cX3_strike 34 = .ok (.aload_n 3, 1) := by decide +kernel
theorem dX3_strike_35 : decode cX3_strike 35 = .ok (.getfield 57, 3) := by decide +kernel
theorem dX3_strike_38 : decode cX3_strike 38 = .ok (.ireturn, 1) := by decide +kernel
theorem dX3_written_0 : decode cX3_written 0 = .ok (.aload_n 0, 1) := by decide +kernel
theorem dX3_written_1 : decode cX3_written 1 = .ok (.iload_n 1, 1) := by decide +kernel
theorem dX3_written_2 : decode cX3_written 2 = .ok (.invokevirtual 90, 3) := by decide +kernel
theorem dX3_written_5 : decode cX3_written 5 = .ok (.iload_n 2, 1) := by decide +kernel
theorem dX3_written_6 : decode cX3_written 6 = .ok (.invokestatic 115, 3) := by decide +kernel
theorem dX3_written_9 : decode cX3_written 9 = .ok (.getfield 57, 3) := by decide +kernel
theorem dX3_written_12 : decode cX3_written 12 = .ok (.ireturn, 1) := by decide +kernel
theorem dX3_told_0 : decode cX3_told 0 = .ok (.aload_n 0, 1) := by decide +kernel
theorem dX3_told_1 : decode cX3_told 1 = .ok (.iload_n 1, 1) := by decide +kernel
theorem dX3_told_2 : decode cX3_told 2 = .ok (.invokevirtual 90, 3) := by decide +kernel
theorem dX3_told_5 : decode cX3_told 5 = .ok (.astore_n 3, 1) := by decide +kernel
theorem dX3_told_6 : decode cX3_told 6 = .ok (.iload_n 2, 1) := by decide +kernel
theorem dX3_told_7 : decode cX3_told 7 = .ok (.bipush 12, 2) := by decide +kernel
theorem dX3_told_9 : decode cX3_told 9 = .ok (.invokestatic 65, 3) := by decide +kernel
theorem dX3_told_12 : decode cX3_told 12 = .ok (.aload_n 3, 1) := by decide +kernel
theorem dX3_told_13 : decode cX3_told 13 = .ok (.iload_n 2, 1) := by decide +kernel
theorem dX3_told_14 : decode cX3_told 14 = .ok (.invokevirtual 119, 3) := by decide +kernel
theorem dX3_told_17 : decode cX3_told 17 = .ok (.ireturn, 1) := by decide +kernel
theorem dX3_stress_0 : decode cX3_stress 0 = .ok (.aload_n 0, 1) := by decide +kernel
theorem dX3_stress_1 : decode cX3_stress 1 = .ok (.iload_n 1, 1) := by decide +kernel
theorem dX3_stress_2 : decode cX3_stress 2 = .ok (.invokevirtual 90, 3) := by decide +kernel
theorem dX3_stress_5 : decode cX3_stress 5 = .ok (.astore_n 3, 1) := by decide +kernel
theorem dX3_stress_6 : decode cX3_stress 6 = .ok (.iload_n 2, 1) := by decide +kernel
theorem dX3_stress_7 : decode cX3_stress 7 = .ok (.aload_n 3, 1) := by decide +kernel
theorem dX3_stress_8 : decode cX3_stress 8 = .ok (.getfield 123, 3) := by decide +kernel
theorem dX3_stress_11 : decode cX3_stress 11 = .ok (.invokestatic 65, 3) := by decide +kernel
theorem dX3_stress_14 : decode cX3_stress 14 = .ok (.aload_n 3, 1) := by decide +kernel
theorem dX3_stress_15 : decode cX3_stress 15 = .ok (.iload_n 2, 1) := by decide +kernel
theorem dX3_stress_16 : decode cX3_stress 16 = .ok (.invokevirtual 126, 3) := by decide +kernel
theorem dX3_stress_19 : decode cX3_stress 19 = .ok (.ireturn, 1) := by decide +kernel
theorem dX3_scans_0 : decode cX3_scans 0 = .ok (.aload_n 0, 1) := by decide +kernel
theorem dX3_scans_1 : decode cX3_scans 1 = .ok (.iload_n 1, 1) := by decide +kernel
theorem dX3_scans_2 : decode cX3_scans 2 = .ok (.invokevirtual 90, 3) := by decide +kernel
theorem dX3_scans_5 : decode cX3_scans 5 = .ok (.astore_n 2, 1) := by decide +kernel
theorem dX3_scans_6 : decode cX3_scans 6 = .ok (.iconst 0, 1) := by decide +kernel
theorem dX3_scans_7 : decode cX3_scans 7 = .ok (.istore_n 3, 1) := by decide +kernel
theorem dX3_scans_8 : decode cX3_scans 8 = .ok (.aload_n 2, 1) := by decide +kernel
theorem dX3_scans_9 : decode cX3_scans 9 = .ok (.iload_n 3, 1) := by decide +kernel
theorem dX3_scans_10 : decode cX3_scans 10 = .ok (.aload_n 0, 1) := by decide +kernel
theorem dX3_scans_11 : decode cX3_scans 11 = .ok (.getfield 22, 3) := by decide +kernel
theorem dX3_scans_14 : decode cX3_scans 14 = .ok (.invokevirtual 136, 3) := by decide +kernel
theorem dX3_scans_17 : decode cX3_scans 17 = .ok (.istore 4, 2) := by decide +kernel
theorem dX3_scans_19 : decode cX3_scans 19 = .ok (.iconst 1, 1) := by decide +kernel
theorem dX3_scans_20 : decode cX3_scans 20 = .ok (.istore 5, 2) := by decide +kernel
theorem dX3_scans_22 : decode cX3_scans 22 = .ok (.iload 5, 2) := by decide +kernel
theorem dX3_scans_24 : decode cX3_scans 24 = .ok (.iconst 4, 1) := by decide +kernel
theorem dX3_scans_25 : decode cX3_scans 25 = .ok (.if_icmp .ge 35, 3) := by decide +kernel
theorem dX3_scans_28 : decode cX3_scans 28 = .ok (.aload_n 2, 1) := by decide +kernel
theorem dX3_scans_29 : decode cX3_scans 29 = .ok (.iload 5, 2) := by decide +kernel
theorem dX3_scans_31 : decode cX3_scans 31 = .ok (.aload_n 0, 1) := by decide +kernel
theorem dX3_scans_32 : decode cX3_scans 32 = .ok (.getfield 22, 3) := by decide +kernel
theorem dX3_scans_35 : decode cX3_scans 35 = .ok (.invokevirtual 136, 3) := by decide +kernel
theorem dX3_scans_38 : decode cX3_scans 38 = .ok (.istore 6, 2) := by decide +kernel
theorem dX3_scans_40 : decode cX3_scans 40 = .ok (.iload 6, 2) := by decide +kernel
theorem dX3_scans_42 : decode cX3_scans 42 = .ok (.iload 4, 2) := by decide +kernel
theorem dX3_scans_44 : decode cX3_scans 44 = .ok (.if_icmp .ge 10, 3) := by decide +kernel
theorem dX3_scans_47 : decode cX3_scans 47 = .ok (.iload 6, 2) := by decide +kernel
theorem dX3_scans_49 : decode cX3_scans 49 = .ok (.istore 4, 2) := by decide +kernel
theorem dX3_scans_51 : decode cX3_scans 51 = .ok (.iload 5, 2) := by decide +kernel
theorem dX3_scans_53 : decode cX3_scans 53 = .ok (.istore_n 3, 1) := by decide +kernel
theorem dX3_scans_54 : decode cX3_scans 54 = .ok (.iinc 5 1, 3) := by decide +kernel
theorem dX3_scans_57 : decode cX3_scans 57 = .ok (.goto (-35), 3) := by decide +kernel
theorem dX3_scans_60 : decode cX3_scans 60 = .ok (.iload_n 3, 1) := by decide +kernel
theorem dX3_scans_61 : decode cX3_scans 61 = .ok (.ireturn, 1) := by decide +kernel
theorem dX3_count_0 : decode cX3_count 0 = .ok (.iload_n 1, 1) := by decide +kernel
theorem dX3_count_1 : decode cX3_count 1 = .ok (.bipush 7, 2) := by decide +kernel
theorem dX3_count_3 : decode cX3_count 3 = .ok (.invokestatic 65, 3) := by decide +kernel
theorem dX3_count_6 : decode cX3_count 6 = .ok (.aload_n 0, 1) := by decide +kernel
theorem dX3_count_7 : decode cX3_count 7 = .ok (.iload_n 1, 1) := by decide +kernel
theorem dX3_count_8 : decode cX3_count 8 = .ok (.invokevirtual 140, 3) := by decide +kernel
theorem dX3_count_11 : decode cX3_count 11 = .ok (.ireturn, 1) := by decide +kernel
theorem dX3_tries_0 : decode cX3_tries 0 = .ok (.aload_n 0, 1) := by decide +kernel
theorem dX3_tries_1 : decode cX3_tries 1 = .ok (.iload_n 1, 1) := by decide +kernel
theorem dX3_tries_2 : decode cX3_tries 2 = .ok (.invokevirtual 90, 3) := by decide +kernel
theorem dX3_tries_5 : decode cX3_tries 5 = .ok (.iload_n 2, 1) := by decide +kernel
theorem dX3_tries_6 : decode cX3_tries 6 = .ok (.invokestatic 115, 3) := by decide +kernel
theorem dX3_tries_9 : decode cX3_tries 9 = .ok (.astore 4, 2) := by decide +kernel
theorem dX3_tries_11 : decode cX3_tries 11 = .ok (.aload_n 0, 1) := by decide +kernel
theorem dX3_tries_12 : decode cX3_tries 12 = .ok (.iload_n 1, 1) := by decide +kernel
theorem dX3_tries_13 : decode cX3_tries 13 = .ok (.iload_n 2, 1) := by decide +kernel
theorem dX3_tries_14 : decode cX3_tries 14 = .ok (.aload_n 0, 1) := by decide +kernel
theorem dX3_tries_15 : decode cX3_tries 15 = .ok (.iload_n 3, 1) := by decide +kernel
theorem dX3_tries_16 : decode cX3_tries 16 = .ok (.invokevirtual 61, 3) := by decide +kernel
theorem dX3_tries_19 : decode cX3_tries 19 = .ok (.aload 4, 2) := by decide +kernel
theorem dX3_tries_21 : decode cX3_tries 21 = .ok (.invokevirtual 143, 3) := by decide +kernel
theorem dX3_tries_24 : decode cX3_tries 24 = .ok (.ireturn, 1) := by decide +kernel
theorem dX3_best_0 : decode cX3_best 0 = .ok (.aload_n 0, 1) := by decide +kernel
theorem dX3_best_1 : decode cX3_best 1 = .ok (.iload_n 1, 1) := by decide +kernel
theorem dX3_best_2 : decode cX3_best 2 = .ok (.invokevirtual 90, 3) := by decide +kernel
theorem dX3_best_5 : decode cX3_best 5 = .ok (.iload_n 2, 1) := by decide +kernel
theorem dX3_best_6 : decode cX3_best 6 = .ok (.invokestatic 115, 3) := by decide +kernel
theorem dX3_best_9 : decode cX3_best 9 = .ok (.astore_n 3, 1) := by decide +kernel
theorem dX3_best_10 : decode cX3_best 10 = .ok (.aload_n 0, 1) := by decide +kernel
theorem dX3_best_11 : decode cX3_best 11 = .ok (.iload_n 1, 1) := by decide +kernel
theorem dX3_best_12 : decode cX3_best 12 = .ok (.iload_n 2, 1) := by decide +kernel
theorem dX3_best_13 : decode cX3_best 13 = .ok (.aload_n 3, 1) := by decide +kernel
theorem dX3_best_14 : decode cX3_best 14 = .ok (.invokevirtual 147, 3) := by decide +kernel
theorem dX3_best_17 : decode cX3_best 17 = .ok (.getfield 57, 3) := by decide +kernel
theorem dX3_best_20 : decode cX3_best 20 = .ok (.ireturn, 1) := by decide +kernel
theorem dX3_worst_0 : decode cX3_worst 0 = .ok (.iconst (-1), 1) := by decide +kernel
theorem dX3_worst_1 : decode cX3_worst 1 = .ok (.istore_n 1, 1) := by decide +kernel
theorem dX3_worst_2 : decode cX3_worst 2 = .ok (.aload_n 0, 1) := by decide +kernel
theorem dX3_worst_3 : decode cX3_worst 3 = .ok (.invokevirtual 151, 3) := by decide +kernel
theorem dX3_worst_6 : decode cX3_worst 6 = .ok (.istore_n 2, 1) := by decide +kernel
theorem dX3_worst_7 : decode cX3_worst 7 = .ok (.iconst 0, 1) := by decide +kernel
theorem dX3_worst_8 : decode cX3_worst 8 = .ok (.istore_n 3, 1) := by decide +kernel
theorem dX3_worst_9 : decode cX3_worst 9 = .ok (.iload_n 3, 1) := by decide +kernel
theorem dX3_worst_10 : decode cX3_worst 10 = .ok (.aload_n 0, 1) := by decide +kernel
theorem dX3_worst_11 : decode cX3_worst 11 = .ok (.getfield 16, 3) := by decide +kernel
theorem dX3_worst_14 : decode cX3_worst 14 = .ok (.invokevirtual 39, 3) := by decide +kernel
theorem dX3_worst_17 : decode cX3_worst 17 = .ok (.if_icmp .ge 96, 3) := by decide +kernel
theorem dX3_worst_20 : decode cX3_worst 20 = .ok (.aload_n 0, 1) := by decide +kernel
theorem dX3_worst_21 : decode cX3_worst 21 = .ok (.getfield 16, 3) := by decide +kernel
theorem dX3_worst_24 : decode cX3_worst 24 = .ok (.iload_n 3, 1) := by decide +kernel
theorem dX3_worst_25 : decode cX3_worst 25 = .ok (.invokevirtual 154, 3) := by decide +kernel
theorem dX3_worst_28 : decode cX3_worst 28 = .ok (.checkcast 77, 3) := by decide +kernel
theorem dX3_worst_31 : decode cX3_worst 31 = .ok (.astore 4, 2) := by decide +kernel
theorem dX3_worst_33 : decode cX3_worst 33 = .ok (.iconst 0, 1) := by decide +kernel
theorem dX3_worst_34 : decode cX3_worst 34 = .ok (.istore 5, 2) := by decide +kernel
theorem dX3_worst_36 : decode cX3_worst 36 = .ok (.iload 5, 2) := by decide +kernel
theorem dX3_worst_38 : decode cX3_worst 38 = .ok (.aload 4, 2) := by decide +kernel
theorem dX3_worst_40 : decode cX3_worst 40 = .ok (.getfield 93, 3) := by decide +kernel
theorem dX3_worst_43 : decode cX3_worst 43 = .ok (.invokevirtual 39, 3) := by decide +kernel
theorem dX3_worst_46 : decode cX3_worst 46 = .ok (.if_icmp .ge 61, 3) := by decide +kernel
theorem dX3_worst_49 : decode cX3_worst 49 = .ok (.aload 4, 2) := by decide +kernel
theorem dX3_worst_51 : decode cX3_worst 51 = .ok (.getfield 93, 3) := by decide +kernel
theorem dX3_worst_54 : decode cX3_worst 54 = .ok (.iload 5, 2) := by decide +kernel
theorem dX3_worst_56 : decode cX3_worst 56 = .ok (.invokevirtual 154, 3) := by decide +kernel
theorem dX3_worst_59 : decode cX3_worst 59 = .ok (.checkcast 48, 3) := by decide +kernel
theorem dX3_worst_62 : decode cX3_worst 62 = .ok (.astore 6, 2) := by decide +kernel
theorem dX3_worst_64 : decode cX3_worst 64 = .ok (.aload_n 0, 1) := by decide +kernel
theorem dX3_worst_65 : decode cX3_worst 65 = .ok (.iload_n 3, 1) := by decide +kernel
theorem dX3_worst_66 : decode cX3_worst 66 = .ok (.iload 5, 2) := by decide +kernel
theorem dX3_worst_68 : decode cX3_worst 68 = .ok (.aload_n 0, 1) := by decide +kernel
theorem dX3_worst_69 : decode cX3_worst 69 = .ok (.iload_n 3, 1) := by decide +kernel
theorem dX3_worst_70 : decode cX3_worst 70 = .ok (.iload 5, 2) := by decide +kernel
theorem dX3_worst_72 : decode cX3_worst 72 = .ok (.aload 6, 2) := by decide +kernel
theorem dX3_worst_74 : decode cX3_worst 74 = .ok (.invokevirtual 147, 3) := by decide +kernel
theorem dX3_worst_77 : decode cX3_worst 77 = .ok (.aload 6, 2) := by decide +kernel
theorem dX3_worst_79 : decode cX3_worst 79 = .ok (.invokevirtual 143, 3) := by decide +kernel
theorem dX3_worst_82 : decode cX3_worst 82 = .ok (.istore 7, 2) := by decide +kernel
theorem dX3_worst_84 : decode cX3_worst 84 = .ok (.iload 7, 2) := by decide +kernel
theorem dX3_worst_86 : decode cX3_worst 86 = .ok (.iload_n 2, 1) := by decide +kernel
theorem dX3_worst_87 : decode cX3_worst 87 = .ok (.if_icmp .ge 14, 3) := by decide +kernel
theorem dX3_worst_90 : decode cX3_worst 90 = .ok (.iload 7, 2) := by decide +kernel
theorem dX3_worst_92 : decode cX3_worst 92 = .ok (.istore_n 2, 1) := by decide +kernel
theorem dX3_worst_93 : decode cX3_worst 93 = .ok (.bipush 10, 2) := by decide +kernel
theorem dX3_worst_95 : decode cX3_worst 95 = .ok (.iload_n 3, 1) := by decide +kernel
theorem dX3_worst_96 : decode cX3_worst 96 = .ok (.imul, 1) := by decide +kernel
theorem dX3_worst_97 : decode cX3_worst 97 = .ok (.iload 5, 2) := by decide +kernel
theorem dX3_worst_99 : decode cX3_worst 99 = .ok (.iadd, 1) := by decide +kernel
theorem dX3_worst_100 : decode cX3_worst 100 = .ok (.istore_n 1, 1) := by decide +kernel
theorem dX3_worst_101 : decode cX3_worst 101 = .ok (.iinc 5 1, 3) := by decide +kernel
theorem dX3_worst_104 : decode cX3_worst 104 = .ok (.goto (-68), 3) := by decide +kernel
theorem dX3_worst_107 : decode cX3_worst 107 = .ok (.iinc 3 1, 3) := by decide +kernel
theorem dX3_worst_110 : decode cX3_worst 110 = .ok (.goto (-101), 3) := by decide +kernel
theorem dX3_worst_113 : decode cX3_worst 113 = .ok (.iload_n 1, 1) := by decide +kernel
theorem dX3_worst_114 : decode cX3_worst 114 = .ok (.ireturn, 1) := by decide +kernel
theorem dX3_mean_0 : decode cX3_mean 0 = .ok (.aload_n 0, 1) := by decide +kernel
theorem dX3_mean_1 : decode cX3_mean 1 = .ok (.getfield 16, 3) := by decide +kernel
theorem dX3_mean_4 : decode cX3_mean 4 = .ok (.invokevirtual 39, 3) := by decide +kernel
theorem dX3_mean_7 : decode cX3_mean 7 = .ok (.istore_n 1, 1) := by decide +kernel
theorem dX3_mean_8 : decode cX3_mean 8 = .ok (.iload_n 1, 1) := by decide +kernel
theorem dX3_mean_9 : decode cX3_mean 9 = .ok (.ifCond .le 14, 3) := by decide +kernel
theorem dX3_mean_12 : decode cX3_mean 12 = .ok (.aload_n 0, 1) := by decide +kernel
theorem dX3_mean_13 : decode cX3_mean 13 = .ok (.invokevirtual 151, 3) := by decide +kernel
theorem dX3_mean_16 : decode cX3_mean 16 = .ok (.i2d, 1) := by decide +kernel
theorem dX3_mean_17 : decode cX3_mean 17 = .ok (.iload_n 1, 1) := by decide +kernel
theorem dX3_mean_18 : decode cX3_mean 18 = .ok (.i2d, 1) := by decide +kernel
theorem dX3_mean_19 : decode cX3_mean 19 = .ok (.ddiv, 1) := by decide +kernel
theorem dX3_mean_20 : decode cX3_mean 20 = .ok (.goto 4, 3) := by decide +kernel
theorem dX3_mean_23 : decode cX3_mean 23 = .ok (.dconst 0, 1) := by decide +kernel
theorem dX3_mean_24 : decode cX3_mean 24 = .ok (.dreturn, 1) := by decide +kernel
theorem dX3_digest_0 : decode cX3_digest 0 = .ok (.ldc2_w 158, 3) := by decide +kernel
theorem dX3_digest_3 : decode cX3_digest 3 = .ok (.lstore_n 1, 1) := by decide +kernel
theorem dX3_digest_4 : decode cX3_digest 4 = .ok (.iconst 0, 1) := by decide +kernel
theorem dX3_digest_5 : decode cX3_digest 5 = .ok (.istore_n 3, 1) := by decide +kernel
theorem dX3_digest_6 : decode cX3_digest 6 = .ok (.iload_n 3, 1) := by decide +kernel
theorem dX3_digest_7 : decode cX3_digest 7 = .ok (.bipush 7, 2) := by decide +kernel
theorem dX3_digest_9 : decode cX3_digest 9 = .ok (.if_icmp .ge 20, 3) := by decide +kernel
theorem dX3_digest_12 : decode cX3_digest 12 = .ok (.lload_n 1, 1) := by decide +kernel
theorem dX3_digest_13 : decode cX3_digest 13 = .ok (.aload_n 0, 1) := by decide +kernel
theorem dX3_digest_14 : decode cX3_digest 14 = .ok (.iload_n 3, 1) := by decide +kernel
theorem dX3_digest_15 : decode cX3_digest 15 = .ok (.invokevirtual 140, 3) := by decide +kernel
theorem dX3_digest_18 : decode cX3_digest 18 = .ok (.i2l, 1) := by decide +kernel
theorem dX3_digest_19 : decode cX3_digest 19 = .ok (.invokestatic 160, 3) := by decide +kernel
theorem dX3_digest_22 : decode cX3_digest 22 = .ok (.lstore_n 1, 1) := by decide +kernel
theorem dX3_digest_23 : decode cX3_digest 23 = .ok (.iinc 3 1, 3) := by decide +kernel
theorem dX3_digest_26 : decode cX3_digest 26 = .ok (.goto (-20), 3) := by decide +kernel
theorem dX3_digest_29 : decode cX3_digest 29 = .ok (.iconst 0, 1) := by decide +kernel
theorem dX3_digest_30 : decode cX3_digest 30 = .ok (.istore_n 3, 1) := by decide +kernel
theorem dX3_digest_31 : decode cX3_digest 31 = .ok (.iload_n 3, 1) := by decide +kernel
theorem dX3_digest_32 : decode cX3_digest 32 = .ok (.aload_n 0, 1) := by decide +kernel
theorem dX3_digest_33 : decode cX3_digest 33 = .ok (.getfield 12, 3) := by decide +kernel
theorem dX3_digest_36 : decode cX3_digest 36 = .ok (.invokevirtual 39, 3) := by decide +kernel
theorem dX3_digest_39 : decode cX3_digest 39 = .ok (.if_icmp .ge 52, 3) := by decide +kernel
theorem dX3_digest_42 : decode cX3_digest 42 = .ok (.aload_n 0, 1) := by decide +kernel
theorem dX3_digest_43 : decode cX3_digest 43 = .ok (.getfield 12, 3) := by decide +kernel
theorem dX3_digest_46 : decode cX3_digest 46 = .ok (.iload_n 3, 1) := by decide +kernel
theorem dX3_digest_47 : decode cX3_digest 47 = .ok (.invokevirtual 154, 3) := by decide +kernel
theorem dX3_digest_50 : decode cX3_digest 50 = .ok (.checkcast 48, 3) := by decide +kernel
theorem dX3_digest_53 : decode cX3_digest 53 = .ok (.astore 4, 2) := by decide +kernel
theorem dX3_digest_55 : decode cX3_digest 55 = .ok (.iconst 0, 1) := by decide +kernel
theorem dX3_digest_56 : decode cX3_digest 56 = .ok (.istore 5, 2) := by decide +kernel
theorem dX3_digest_58 : decode cX3_digest 58 = .ok (.iload 5, 2) := by decide +kernel
theorem dX3_digest_60 : decode cX3_digest 60 = .ok (.bipush 6, 2) := by decide +kernel
theorem dX3_digest_62 : decode cX3_digest 62 = .ok (.if_icmp .ge 23, 3) := by decide +kernel
theorem dX3_digest_65 : decode cX3_digest 65 = .ok (.lload_n 1, 1) := by decide +kernel
theorem dX3_digest_66 : decode cX3_digest 66 = .ok (.aload_n 0, 1) := by decide +kernel
theorem dX3_digest_67 : decode cX3_digest 67 = .ok (.aload 4, 2) := by decide +kernel
theorem dX3_digest_69 : decode cX3_digest 69 = .ok (.iload 5, 2) := by decide +kernel
theorem dX3_digest_71 : decode cX3_digest 71 = .ok (.invokevirtual 69, 3) := by decide +kernel
theorem dX3_digest_74 : decode cX3_digest 74 = .ok (.i2l, 1) := by decide +kernel
theorem dX3_digest_75 : decode cX3_digest 75 = .ok (.invokestatic 160, 3) := by decide +kernel
theorem dX3_digest_78 : decode cX3_digest 78 = .ok (.lstore_n 1, 1) := by decide +kernel
theorem dX3_digest_79 : decode cX3_digest 79 = .ok (.iinc 5 1, 3) := by decide +kernel
theorem dX3_digest_82 : decode cX3_digest 82 = .ok (.goto (-24), 3) := by decide +kernel
theorem dX3_digest_85 : decode cX3_digest 85 = .ok (.iinc 3 1, 3) := by decide +kernel
theorem dX3_digest_88 : decode cX3_digest 88 = .ok (.goto (-57), 3) := by decide +kernel
theorem dX3_digest_91 : decode cX3_digest 91 = .ok (.iconst 0, 1) := by decide +kernel
theorem dX3_digest_92 : decode cX3_digest 92 = .ok (.istore_n 3, 1) := by decide +kernel
theorem dX3_digest_93 : decode cX3_digest 93 = .ok (.iload_n 3, 1) := by decide +kernel
theorem dX3_digest_94 : decode cX3_digest 94 = .ok (.aload_n 0, 1) := by decide +kernel
theorem dX3_digest_95 : decode cX3_digest 95 = .ok (.getfield 16, 3) := by decide +kernel
theorem dX3_digest_98 : decode cX3_digest 98 = .ok (.invokevirtual 39, 3) := by decide +kernel
theorem dX3_digest_101 : decode cX3_digest 101 = .ok (.if_icmp .ge 25, 3) := by decide +kernel
theorem dX3_digest_104 : decode cX3_digest 104 = .ok (.lload_n 1, 1) := by decide +kernel
theorem dX3_digest_105 : decode cX3_digest 105 = .ok (.aload_n 0, 1) := by decide +kernel
theorem dX3_digest_106 : decode cX3_digest 106 = .ok (.getfield 16, 3) := by decide +kernel
theorem dX3_digest_109 : decode cX3_digest 109 = .ok (.iload_n 3, 1) := by decide +kernel
theorem dX3_digest_110 : decode cX3_digest 110 = .ok (.invokevirtual 154, 3) := by decide +kernel
theorem dX3_digest_113 : decode cX3_digest 113 = .ok (.checkcast 77, 3) := by decide +kernel
theorem dX3_digest_116 : decode cX3_digest 116 = .ok (.invokestatic 164, 3) := by decide +kernel
theorem dX3_digest_119 : decode cX3_digest 119 = .ok (.lstore_n 1, 1) := by decide +kernel
theorem dX3_digest_120 : decode cX3_digest 120 = .ok (.iinc 3 1, 3) := by decide +kernel
theorem dX3_digest_123 : decode cX3_digest 123 = .ok (.goto (-30), 3) := by decide +kernel
theorem dX3_digest_126 : decode cX3_digest 126 = .ok (.lload_n 1, 1) := by decide +kernel
theorem dX3_digest_127 : decode cX3_digest 127 = .ok (.lreturn, 1) := by decide +kernel
theorem dX3_mixLine_0 : decode cX3_mixLine 0 = .ok (.lload_n 0, 1) := by decide +kernel
theorem dX3_mixLine_1 : decode cX3_mixLine 1 = .ok (.lstore_n 3, 1) := by decide +kernel
theorem dX3_mixLine_2 : decode cX3_mixLine 2 = .ok (.iconst 0, 1) := by decide +kernel
theorem dX3_mixLine_3 : decode cX3_mixLine 3 = .ok (.istore 5, 2) := by decide +kernel
theorem dX3_mixLine_5 : decode cX3_mixLine 5 = .ok (.iload 5, 2) := by decide +kernel
theorem dX3_mixLine_7 : decode cX3_mixLine 7 = .ok (.bipush 12, 2) := by decide +kernel
theorem dX3_mixLine_9 : decode cX3_mixLine 9 = .ok (.if_icmp .ge 21, 3) := by decide +kernel
theorem dX3_mixLine_12 : decode cX3_mixLine 12 = .ok (.lload_n 3, 1) := by decide +kernel
theorem dX3_mixLine_13 : decode cX3_mixLine 13 = .ok (.aload_n 2, 1) := by decide +kernel
theorem dX3_mixLine_14 : decode cX3_mixLine 14 = .ok (.iload 5, 2) := by decide +kernel
theorem dX3_mixLine_16 : decode cX3_mixLine 16 = .ok (.invokevirtual 119, 3) := by decide +kernel
theorem dX3_mixLine_19 : decode cX3_mixLine 19 = .ok (.i2l, 1) := by decide +kernel
theorem dX3_mixLine_20 : decode cX3_mixLine 20 = .ok (.invokestatic 160, 3) := by decide +kernel
theorem dX3_mixLine_23 : decode cX3_mixLine 23 = .ok (.lstore_n 3, 1) := by decide +kernel
theorem dX3_mixLine_24 : decode cX3_mixLine 24 = .ok (.iinc 5 1, 3) := by decide +kernel
theorem dX3_mixLine_27 : decode cX3_mixLine 27 = .ok (.goto (-22), 3) := by decide +kernel
theorem dX3_mixLine_30 : decode cX3_mixLine 30 = .ok (.iconst 0, 1) := by decide +kernel
theorem dX3_mixLine_31 : decode cX3_mixLine 31 = .ok (.istore 5, 2) := by decide +kernel
theorem dX3_mixLine_33 : decode cX3_mixLine 33 = .ok (.iload 5, 2) := by decide +kernel
theorem dX3_mixLine_35 : decode cX3_mixLine 35 = .ok (.aload_n 2, 1) := by decide +kernel
theorem dX3_mixLine_36 : decode cX3_mixLine 36 = .ok (.getfield 93, 3) := by decide +kernel
theorem dX3_mixLine_39 : decode cX3_mixLine 39 = .ok (.invokevirtual 39, 3) := by decide +kernel
theorem dX3_mixLine_42 : decode cX3_mixLine 42 = .ok (.if_icmp .ge 30, 3) := by decide +kernel
theorem dX3_mixLine_45 : decode cX3_mixLine 45 = .ok (.lload_n 3, 1) := by decide +kernel
theorem dX3_mixLine_46 : decode cX3_mixLine 46 = .ok (.aload_n 2, 1) := by decide +kernel
theorem dX3_mixLine_47 : decode cX3_mixLine 47 = .ok (.getfield 93, 3) := by decide +kernel
theorem dX3_mixLine_50 : decode cX3_mixLine 50 = .ok (.iload 5, 2) := by decide +kernel
theorem dX3_mixLine_52 : decode cX3_mixLine 52 = .ok (.invokevirtual 154, 3) := by decide +kernel
theorem dX3_mixLine_55 : decode cX3_mixLine 55 = .ok (.checkcast 48, 3) := by decide +kernel
theorem dX3_mixLine_58 : decode cX3_mixLine 58 = .ok (.getfield 57, 3) := by decide +kernel
theorem dX3_mixLine_61 : decode cX3_mixLine 61 = .ok (.i2l, 1) := by decide +kernel
theorem dX3_mixLine_62 : decode cX3_mixLine 62 = .ok (.invokestatic 160, 3) := by decide +kernel
theorem dX3_mixLine_65 : decode cX3_mixLine 65 = .ok (.lstore_n 3, 1) := by decide +kernel
theorem dX3_mixLine_66 : decode cX3_mixLine 66 = .ok (.iinc 5 1, 3) := by decide +kernel
theorem dX3_mixLine_69 : decode cX3_mixLine 69 = .ok (.goto (-36), 3) := by decide +kernel
theorem dX3_mixLine_72 : decode cX3_mixLine 72 = .ok (.iconst 0, 1) := by decide +kernel
theorem dX3_mixLine_73 : decode cX3_mixLine 73 = .ok (.istore 5, 2) := by decide +kernel
theorem dX3_mixLine_75 : decode cX3_mixLine 75 = .ok (.iload 5, 2) := by decide +kernel
theorem dX3_mixLine_77 : decode cX3_mixLine 77 = .ok (.aload_n 2, 1) := by decide +kernel
theorem dX3_mixLine_78 : decode cX3_mixLine 78 = .ok (.getfield 123, 3) := by decide +kernel
theorem dX3_mixLine_81 : decode cX3_mixLine 81 = .ok (.if_icmp .ge 21, 3) := by decide +kernel
theorem dX3_mixLine_84 : decode cX3_mixLine 84 = .ok (.lload_n 3, 1) := by decide +kernel
theorem dX3_mixLine_85 : decode cX3_mixLine 85 = .ok (.aload_n 2, 1) := by decide +kernel
theorem dX3_mixLine_86 : decode cX3_mixLine 86 = .ok (.iload 5, 2) := by decide +kernel
theorem dX3_mixLine_88 : decode cX3_mixLine 88 = .ok (.invokevirtual 126, 3) := by decide +kernel
theorem dX3_mixLine_91 : decode cX3_mixLine 91 = .ok (.i2l, 1) := by decide +kernel
theorem dX3_mixLine_92 : decode cX3_mixLine 92 = .ok (.invokestatic 160, 3) := by decide +kernel
theorem dX3_mixLine_95 : decode cX3_mixLine 95 = .ok (.lstore_n 3, 1) := by decide +kernel
theorem dX3_mixLine_96 : decode cX3_mixLine 96 = .ok (.iinc 5 1, 3) := by decide +kernel
theorem dX3_mixLine_99 : decode cX3_mixLine 99 = .ok (.goto (-24), 3) := by decide +kernel
theorem dX3_mixLine_102 : decode cX3_mixLine 102 = .ok (.lload_n 3, 1) := by decide +kernel
theorem dX3_mixLine_103 : decode cX3_mixLine 103 = .ok (.lreturn, 1) := by decide +kernel
theorem dX3_mix_0 : decode cX3_mix 0 = .ok (.lload_n 0, 1) := by decide +kernel
theorem dX3_mix_1 : decode cX3_mix 1 = .ok (.ldc2_w 168, 3) := by decide +kernel
theorem dX3_mix_4 : decode cX3_mix 4 = .ok (.lmul, 1) := by decide +kernel
theorem dX3_mix_5 : decode cX3_mix 5 = .ok (.lload_n 2, 1) := by decide +kernel
theorem dX3_mix_6 : decode cX3_mix 6 = .ok (.ladd, 1) := by decide +kernel
theorem dX3_mix_7 : decode cX3_mix 7 = .ok (.lreturn, 1) := by decide +kernel
theorem dX3_isBelow_0 : decode cX3_isBelow 0 = .ok (.iload_n 0, 1) := by decide +kernel
theorem dX3_isBelow_1 : decode cX3_isBelow 1 = .ok (.ifCond .lt 12, 3) := by decide +kernel
theorem dX3_isBelow_4 : decode cX3_isBelow 4 = .ok (.iload_n 0, 1) := by decide +kernel
theorem dX3_isBelow_5 : decode cX3_isBelow 5 = .ok (.iload_n 1, 1) := by decide +kernel
theorem dX3_isBelow_6 : decode cX3_isBelow 6 = .ok (.if_icmp .ge 7, 3) := by decide +kernel
theorem dX3_isBelow_9 : decode cX3_isBelow 9 = .ok (.iconst 1, 1) := by decide +kernel
theorem dX3_isBelow_10 : decode cX3_isBelow 10 = .ok (.goto 4, 3) := by decide +kernel
theorem dX3_isBelow_13 : decode cX3_isBelow 13 = .ok (.iconst 0, 1) := by decide +kernel
theorem dX3_isBelow_14 : decode cX3_isBelow 14 = .ok (.ireturn, 1) := by decide +kernel
theorem dX3_refuseOutside_0 : decode cX3_refuseOutside 0 = .ok (.iload_n 0, 1) := by decide +kernel
theorem dX3_refuseOutside_1 : decode cX3_refuseOutside 1 = .ok (.iload_n 1, 1) := by decide +kernel
theorem dX3_refuseOutside_2 : decode cX3_refuseOutside 2 = .ok (.invokestatic 33, 3) := by decide +kernel
theorem dX3_refuseOutside_5 : decode cX3_refuseOutside 5 = .ok (.ifCond .ne 13, 3) := by decide +kernel
theorem dX3_refuseOutside_8 : decode cX3_refuseOutside 8 = .ok (.new 170, 3) := by decide +kernel
theorem dX3_refuseOutside_11 : decode cX3_refuseOutside 11 = .ok (.dup, 1) := by decide +kernel
theorem dX3_refuseOutside_12 : decode cX3_refuseOutside 12 = .ok (.ldc 172, 2) := by decide +kernel
theorem dX3_refuseOutside_14 : decode cX3_refuseOutside 14 = .ok (.invokespecial 174, 3) := by decide +kernel
theorem dX3_refuseOutside_17 : decode cX3_refuseOutside 17 = .ok (.athrow, 1) := by decide +kernel
theorem dX3_refuseOutside_18 : decode cX3_refuseOutside 18 = .ok (.return_, 1) := by decide +kernel
theorem dX3_neededWord_0 : decode cX3_neededWord 0 = .ok (.iload_n 1, 1) := by decide +kernel
theorem dX3_neededWord_1 : decode cX3_neededWord 1 = .ok (.aload_n 0, 1) := by decide +kernel
theorem dX3_neededWord_2 : decode cX3_neededWord 2 = .ok (.getfield 12, 3) := by decide +kernel
theorem dX3_neededWord_5 : decode cX3_neededWord 5 = .ok (.invokevirtual 39, 3) := by decide +kernel
theorem dX3_neededWord_8 : decode cX3_neededWord 8 = .ok (.invokestatic 65, 3) := by decide +kernel
theorem dX3_neededWord_11 : decode cX3_neededWord 11 = .ok (.aload_n 0, 1) := by decide +kernel
theorem dX3_neededWord_12 : decode cX3_neededWord 12 = .ok (.getfield 12, 3) := by decide +kernel
theorem dX3_neededWord_15 : decode cX3_neededWord 15 = .ok (.iload_n 1, 1) := by decide +kernel
theorem dX3_neededWord_16 : decode cX3_neededWord 16 = .ok (.invokevirtual 154, 3) := by decide +kernel
theorem dX3_neededWord_19 : decode cX3_neededWord 19 = .ok (.checkcast 48, 3) := by decide +kernel
theorem dX3_neededWord_22 : decode cX3_neededWord 22 = .ok (.areturn, 1) := by decide +kernel
theorem dX3_neededLine_0 : decode cX3_neededLine 0 = .ok (.iload_n 1, 1) := by decide +kernel
theorem dX3_neededLine_1 : decode cX3_neededLine 1 = .ok (.aload_n 0, 1) := by decide +kernel
theorem dX3_neededLine_2 : decode cX3_neededLine 2 = .ok (.getfield 16, 3) := by decide +kernel
theorem dX3_neededLine_5 : decode cX3_neededLine 5 = .ok (.invokevirtual 39, 3) := by decide +kernel
theorem dX3_neededLine_8 : decode cX3_neededLine 8 = .ok (.invokestatic 65, 3) := by decide +kernel
theorem dX3_neededLine_11 : decode cX3_neededLine 11 = .ok (.aload_n 0, 1) := by decide +kernel
theorem dX3_neededLine_12 : decode cX3_neededLine 12 = .ok (.getfield 16, 3) := by decide +kernel
theorem dX3_neededLine_15 : decode cX3_neededLine 15 = .ok (.iload_n 1, 1) := by decide +kernel
theorem dX3_neededLine_16 : decode cX3_neededLine 16 = .ok (.invokevirtual 154, 3) := by decide +kernel
theorem dX3_neededLine_19 : decode cX3_neededLine 19 = .ok (.checkcast 77, 3) := by decide +kernel
theorem dX3_neededLine_22 : decode cX3_neededLine 22 = .ok (.areturn, 1) := by decide +kernel
theorem dX3_neededWordOf_0 : decode cX3_neededWordOf 0 = .ok (.iload_n 1, 1) := by decide +kernel
theorem dX3_neededWordOf_1 : decode cX3_neededWordOf 1 = .ok (.aload_n 0, 1) := by decide +kernel
theorem dX3_neededWordOf_2 : decode cX3_neededWordOf 2 = .ok (.getfield 93, 3) := by decide +kernel
theorem dX3_neededWordOf_5 : decode cX3_neededWordOf 5 = .ok (.invokevirtual 39, 3) := by decide +kernel
theorem dX3_neededWordOf_8 : decode cX3_neededWordOf 8 = .ok (.invokestatic 65, 3) := by decide +kernel
theorem dX3_neededWordOf_11 : decode cX3_neededWordOf 11 = .ok (.aload_n 0, 1) := by decide +kernel
theorem dX3_neededWordOf_12 : decode cX3_neededWordOf 12 = .ok (.getfield 93, 3) := by decide +kernel
theorem dX3_neededWordOf_15 : decode cX3_neededWordOf 15 = .ok (.iload_n 1, 1) := by decide +kernel
theorem dX3_neededWordOf_16 : decode cX3_neededWordOf 16 = .ok (.invokevirtual 154, 3) := by decide +kernel
theorem dX3_neededWordOf_19 : decode cX3_neededWordOf 19 = .ok (.checkcast 48, 3) := by decide +kernel
theorem dX3_neededWordOf_22 : decode cX3_neededWordOf 22 = .ok (.areturn, 1) := by decide +kernel
theorem dX3_lastWithMark_0 : decode cX3_lastWithMark 0 = .ok (.aload_n 0, 1) := by decide +kernel
theorem dX3_lastWithMark_1 : decode cX3_lastWithMark 1 = .ok (.getfield 16, 3) := by decide +kernel
theorem dX3_lastWithMark_4 : decode cX3_lastWithMark 4 = .ok (.invokevirtual 39, 3) := by decide +kernel
theorem dX3_lastWithMark_7 : decode cX3_lastWithMark 7 = .ok (.iconst 1, 1) := by decide +kernel
theorem dX3_lastWithMark_8 : decode cX3_lastWithMark 8 = .ok (.isub, 1) := by decide +kernel
theorem dX3_lastWithMark_9 : decode cX3_lastWithMark 9 = .ok (.istore_n 2, 1) := by decide +kernel
theorem dX3_lastWithMark_10 : decode cX3_lastWithMark 10 = .ok (.iload_n 2, 1) := by decide +kernel
theorem dX3_lastWithMark_11 : decode cX3_lastWithMark 11 = .ok (.ifCond .lt 31, 3) := by decide +kernel
theorem dX3_lastWithMark_14 : decode cX3_lastWithMark 14 = .ok (.aload_n 0, 1) := by decide +kernel
theorem dX3_lastWithMark_15 : decode cX3_lastWithMark 15 = .ok (.getfield 16, 3) := by decide +kernel
theorem dX3_lastWithMark_18 : decode cX3_lastWithMark 18 = .ok (.iload_n 2, 1) := by decide +kernel
theorem dX3_lastWithMark_19 : decode cX3_lastWithMark 19 = .ok (.invokevirtual 154, 3) := by decide +kernel
theorem dX3_lastWithMark_22 : decode cX3_lastWithMark 22 = .ok (.checkcast 77, 3) := by decide +kernel
theorem dX3_lastWithMark_25 : decode cX3_lastWithMark 25 = .ok (.astore_n 3, 1) := by decide +kernel
theorem dX3_lastWithMark_26 : decode cX3_lastWithMark 26 = .ok (.aload_n 3, 1) := by decide +kernel
theorem dX3_lastWithMark_27 : decode cX3_lastWithMark 27 = .ok (.getfield 175, 3) := by decide +kernel
theorem dX3_lastWithMark_30 : decode cX3_lastWithMark 30 = .ok (.iload_n 1, 1) := by decide +kernel
theorem dX3_lastWithMark_31 : decode cX3_lastWithMark 31 = .ok (.if_icmp .ne 5, 3) := by decide +kernel
theorem dX3_lastWithMark_34 : decode cX3_lastWithMark 34 = .ok (.aload_n 3, 1) := by decide +kernel
theorem dX3_lastWithMark_35 : decode cX3_lastWithMark 35 = .ok (.areturn, 1) := by decide +kernel
theorem dX3_lastWithMark_36 : decode cX3_lastWithMark 36 = .ok (.iinc 2 (-1), 3) := by decide +kernel
theorem dX3_lastWithMark_39 : decode cX3_lastWithMark 39 = .ok (.goto (-29), 3) := by decide +kernel
theorem dX3_lastWithMark_42 : decode cX3_lastWithMark 42 = .ok (.aconst_null, 1) := by decide +kernel
theorem dX3_lastWithMark_43 : decode cX3_lastWithMark 43 = .ok (.areturn, 1) := by decide +kernel
theorem dX3_aboutWord_0 : decode cX3_aboutWord 0 = .ok (.iload_n 2, 1) := by decide +kernel
theorem dX3_aboutWord_1 : decode cX3_aboutWord 1 = .ok (.tableswitch 68 0 4 #[35, 40, 45, 50, 55], 35) := by decide +kernel
theorem dX3_aboutWord_36 : decode cX3_aboutWord 36 = .ok (.aload_n 1, 1) := by decide +kernel
theorem dX3_aboutWord_37 : decode cX3_aboutWord 37 = .ok (.getfield 178, 3) := by decide +kernel
theorem dX3_aboutWord_40 : decode cX3_aboutWord 40 = .ok (.ireturn, 1) := by decide +kernel
theorem dX3_aboutWord_41 : decode cX3_aboutWord 41 = .ok (.aload_n 1, 1) := by decide +kernel
theorem dX3_aboutWord_42 : decode cX3_aboutWord 42 = .ok (.getfield 181, 3) := by decide +kernel
theorem dX3_aboutWord_45 : decode cX3_aboutWord 45 = .ok (.ireturn, 1) := by decide +kernel
theorem dX3_aboutWord_46 : decode cX3_aboutWord 46 = .ok (.aload_n 1, 1) := by decide +kernel
theorem dX3_aboutWord_47 : decode cX3_aboutWord 47 = .ok (.getfield 184, 3) := by decide +kernel
theorem dX3_aboutWord_50 : decode cX3_aboutWord 50 = .ok (.ireturn, 1) := by decide +kernel
theorem dX3_aboutWord_51 : decode cX3_aboutWord 51 = .ok (.aload_n 1, 1) := by decide +kernel
theorem dX3_aboutWord_52 : decode cX3_aboutWord 52 = .ok (.getfield 187, 3) := by decide +kernel
theorem dX3_aboutWord_55 : decode cX3_aboutWord 55 = .ok (.ireturn, 1) := by decide +kernel
theorem dX3_aboutWord_56 : decode cX3_aboutWord 56 = .ok (.aload_n 1, 1) := by decide +kernel
theorem dX3_aboutWord_57 : decode cX3_aboutWord 57 = .ok (.getfield 190, 3) := by decide +kernel
theorem dX3_aboutWord_60 : decode cX3_aboutWord 60 = .ok (.ifCond .eq 7, 3) := by decide +kernel
theorem dX3_aboutWord_63 : decode cX3_aboutWord 63 = .ok (.iconst 1, 1) := by decide +kernel
theorem dX3_aboutWord_64 : decode cX3_aboutWord 64 = .ok (.goto 4, 3) := by decide +kernel
theorem dX3_aboutWord_67 : decode cX3_aboutWord 67 = .ok (.iconst 0, 1) := by decide +kernel
theorem dX3_aboutWord_68 : decode cX3_aboutWord 68 = .ok (.ireturn, 1) := by decide +kernel
theorem dX3_aboutWord_69 : decode cX3_aboutWord 69 = .ok (.aload_n 0, 1) := by decide +kernel
theorem dX3_aboutWord_70 : decode cX3_aboutWord 70 = .ok (.aload_n 1, 1) := by decide +kernel
theorem dX3_aboutWord_71 : decode cX3_aboutWord 71 = .ok (.invokevirtual 194, 3) := by decide +kernel
theorem dX3_aboutWord_74 : decode cX3_aboutWord 74 = .ok (.ireturn, 1) := by decide +kernel
theorem dX3_usesOf_0 : decode cX3_usesOf 0 = .ok (.iconst 0, 1) := by decide +kernel
theorem dX3_usesOf_1 : decode cX3_usesOf 1 = .ok (.istore_n 2, 1) := by decide +kernel
theorem dX3_usesOf_2 : decode cX3_usesOf 2 = .ok (.iconst 0, 1) := by decide +kernel
theorem dX3_usesOf_3 : decode cX3_usesOf 3 = .ok (.istore_n 3, 1) := by decide +kernel
theorem dX3_usesOf_4 : decode cX3_usesOf 4 = .ok (.iload_n 3, 1) := by decide +kernel
theorem dX3_usesOf_5 : decode cX3_usesOf 5 = .ok (.aload_n 0, 1) := by decide +kernel
theorem dX3_usesOf_6 : decode cX3_usesOf 6 = .ok (.getfield 16, 3) := by decide +kernel
theorem dX3_usesOf_9 : decode cX3_usesOf 9 = .ok (.invokevirtual 39, 3) := by decide +kernel
theorem dX3_usesOf_12 : decode cX3_usesOf 12 = .ok (.if_icmp .ge 27, 3) := by decide +kernel
theorem dX3_usesOf_15 : decode cX3_usesOf 15 = .ok (.iload_n 2, 1) := by decide +kernel
theorem dX3_usesOf_16 : decode cX3_usesOf 16 = .ok (.aload_n 0, 1) := by decide +kernel
theorem dX3_usesOf_17 : decode cX3_usesOf 17 = .ok (.getfield 16, 3) := by decide +kernel
theorem dX3_usesOf_20 : decode cX3_usesOf 20 = .ok (.iload_n 3, 1) := by decide +kernel
theorem dX3_usesOf_21 : decode cX3_usesOf 21 = .ok (.invokevirtual 154, 3) := by decide +kernel
theorem dX3_usesOf_24 : decode cX3_usesOf 24 = .ok (.checkcast 77, 3) := by decide +kernel
theorem dX3_usesOf_27 : decode cX3_usesOf 27 = .ok (.aload_n 1, 1) := by decide +kernel
theorem dX3_usesOf_28 : decode cX3_usesOf 28 = .ok (.invokevirtual 198, 3) := by decide +kernel
theorem dX3_usesOf_31 : decode cX3_usesOf 31 = .ok (.iadd, 1) := by decide +kernel
theorem dX3_usesOf_32 : decode cX3_usesOf 32 = .ok (.istore_n 2, 1) := by decide +kernel
theorem dX3_usesOf_33 : decode cX3_usesOf 33 = .ok (.iinc 3 1, 3) := by decide +kernel
theorem dX3_usesOf_36 : decode cX3_usesOf 36 = .ok (.goto (-32), 3) := by decide +kernel
theorem dX3_usesOf_39 : decode cX3_usesOf 39 = .ok (.iload_n 2, 1) := by decide +kernel
theorem dX3_usesOf_40 : decode cX3_usesOf 40 = .ok (.ireturn, 1) := by decide +kernel
theorem dX3_countAll_0 : decode cX3_countAll 0 = .ok (.iload_n 1, 1) := by decide +kernel
theorem dX3_countAll_1 : decode cX3_countAll 1 = .ok (.tableswitch 69 0 6 #[43, 51, 69, 69, 69, 59, 64], 43) := by decide +kernel
theorem dX3_countAll_44 : decode cX3_countAll 44 = .ok (.aload_n 0, 1) := by decide +kernel
theorem dX3_countAll_45 : decode cX3_countAll 45 = .ok (.getfield 12, 3) := by decide +kernel
theorem dX3_countAll_48 : decode cX3_countAll 48 = .ok (.invokevirtual 39, 3) := by decide +kernel
theorem dX3_countAll_51 : decode cX3_countAll 51 = .ok (.ireturn, 1) := by decide +kernel
theorem dX3_countAll_52 : decode cX3_countAll 52 = .ok (.aload_n 0, 1) := by decide +kernel
theorem dX3_countAll_53 : decode cX3_countAll 53 = .ok (.getfield 16, 3) := by decide +kernel
theorem dX3_countAll_56 : decode cX3_countAll 56 = .ok (.invokevirtual 39, 3) := by decide +kernel
theorem dX3_countAll_59 : decode cX3_countAll 59 = .ok (.ireturn, 1) := by decide +kernel
theorem dX3_countAll_60 : decode cX3_countAll 60 = .ok (.aload_n 0, 1) := by decide +kernel
theorem dX3_countAll_61 : decode cX3_countAll 61 = .ok (.invokevirtual 199, 3) := by decide +kernel
theorem dX3_countAll_64 : decode cX3_countAll 64 = .ok (.ireturn, 1) := by decide +kernel
theorem dX3_countAll_65 : decode cX3_countAll 65 = .ok (.aload_n 0, 1) := by decide +kernel
theorem dX3_countAll_66 : decode cX3_countAll 66 = .ok (.invokevirtual 151, 3) := by decide +kernel
theorem dX3_countAll_69 : decode cX3_countAll 69 = .ok (.ireturn, 1) := by decide +kernel
theorem dX3_countAll_70 : decode cX3_countAll 70 = .ok (.aload_n 0, 1) := by decide +kernel
theorem dX3_countAll_71 : decode cX3_countAll 71 = .ok (.iload_n 1, 1) := by decide +kernel
theorem dX3_countAll_72 : decode cX3_countAll 72 = .ok (.invokevirtual 202, 3) := by decide +kernel
theorem dX3_countAll_75 : decode cX3_countAll 75 = .ok (.ireturn, 1) := by decide +kernel
theorem dX3_countInLines_0 : decode cX3_countInLines 0 = .ok (.iconst 0, 1) := by decide +kernel
theorem dX3_countInLines_1 : decode cX3_countInLines 1 = .ok (.istore_n 2, 1) := by decide +kernel
theorem dX3_countInLines_2 : decode cX3_countInLines 2 = .ok (.iconst 0, 1) := by decide +kernel
theorem dX3_countInLines_3 : decode cX3_countInLines 3 = .ok (.istore_n 3, 1) := by decide +kernel
theorem dX3_countInLines_4 : decode cX3_countInLines 4 = .ok (.iload_n 3, 1) := by decide +kernel
theorem dX3_countInLines_5 : decode cX3_countInLines 5 = .ok (.aload_n 0, 1) := by decide +kernel
theorem dX3_countInLines_6 : decode cX3_countInLines 6 = .ok (.getfield 16, 3) := by decide +kernel
theorem dX3_countInLines_9 : decode cX3_countInLines 9 = .ok (.invokevirtual 39, 3) := by decide +kernel
theorem dX3_countInLines_12 : decode cX3_countInLines 12 = .ok (.if_icmp .ge 91, 3) := by decide +kernel
theorem dX3_countInLines_15 : decode cX3_countInLines 15 = .ok (.aload_n 0, 1) := by decide +kernel
theorem dX3_countInLines_16 : decode cX3_countInLines 16 = .ok (.getfield 16, 3) := by decide +kernel
theorem dX3_countInLines_19 : decode cX3_countInLines 19 = .ok (.iload_n 3, 1) := by decide +kernel
theorem dX3_countInLines_20 : decode cX3_countInLines 20 = .ok (.invokevirtual 154, 3) := by decide +kernel
theorem dX3_countInLines_23 : decode cX3_countInLines 23 = .ok (.checkcast 77, 3) := by decide +kernel
theorem dX3_countInLines_26 : decode cX3_countInLines 26 = .ok (.astore 4, 2) := by decide +kernel
theorem dX3_countInLines_28 : decode cX3_countInLines 28 = .ok (.iload_n 1, 1) := by decide +kernel
theorem dX3_countInLines_29 : decode cX3_countInLines 29 = .ok (.lookupswitch 60 #[(2, 27), (3, 41)], 27) := by decide +kernel
theorem dX3_countInLines_56 : decode cX3_countInLines 56 = .ok (.iload_n 2, 1) := by decide +kernel
theorem dX3_countInLines_57 : decode cX3_countInLines 57 = .ok (.aload 4, 2) := by decide +kernel
theorem dX3_countInLines_59 : decode cX3_countInLines 59 = .ok (.getfield 93, 3) := by decide +kernel
theorem dX3_countInLines_62 : decode cX3_countInLines 62 = .ok (.invokevirtual 39, 3) := by decide +kernel
theorem dX3_countInLines_65 : decode cX3_countInLines 65 = .ok (.iadd, 1) := by decide +kernel
theorem dX3_countInLines_66 : decode cX3_countInLines 66 = .ok (.istore_n 2, 1) := by decide +kernel
theorem dX3_countInLines_67 : decode cX3_countInLines 67 = .ok (.goto 30, 3) := by decide +kernel
theorem dX3_countInLines_70 : decode cX3_countInLines 70 = .ok (.iload_n 2, 1) := by decide +kernel
theorem dX3_countInLines_71 : decode cX3_countInLines 71 = .ok (.aload 4, 2) := by decide +kernel
theorem dX3_countInLines_73 : decode cX3_countInLines 73 = .ok (.invokevirtual 205, 3) := by decide +kernel
theorem dX3_countInLines_76 : decode cX3_countInLines 76 = .ok (.ifCond .eq 7, 3) := by decide +kernel
theorem dX3_countInLines_79 : decode cX3_countInLines 79 = .ok (.iconst 1, 1) := by decide +kernel
theorem dX3_countInLines_80 : decode cX3_countInLines 80 = .ok (.goto 4, 3) := by decide +kernel
theorem dX3_countInLines_83 : decode cX3_countInLines 83 = .ok (.iconst 0, 1) := by decide +kernel
theorem dX3_countInLines_84 : decode cX3_countInLines 84 = .ok (.iadd, 1) := by decide +kernel
theorem dX3_countInLines_85 : decode cX3_countInLines 85 = .ok (.istore_n 2, 1) := by decide +kernel
theorem dX3_countInLines_86 : decode cX3_countInLines 86 = .ok (.goto 11, 3) := by decide +kernel
theorem dX3_countInLines_89 : decode cX3_countInLines 89 = .ok (.iload_n 2, 1) := by decide +kernel
theorem dX3_countInLines_90 : decode cX3_countInLines 90 = .ok (.aload 4, 2) := by decide +kernel
theorem dX3_countInLines_92 : decode cX3_countInLines 92 = .ok (.getfield 123, 3) := by decide +kernel
theorem dX3_countInLines_95 : decode cX3_countInLines 95 = .ok (.iadd, 1) := by decide +kernel
theorem dX3_countInLines_96 : decode cX3_countInLines 96 = .ok (.istore_n 2, 1) := by decide +kernel
theorem dX3_countInLines_97 : decode cX3_countInLines 97 = .ok (.iinc 3 1, 3) := by decide +kernel
theorem dX3_countInLines_100 : decode cX3_countInLines 100 = .ok (.goto (-96), 3) := by decide +kernel
theorem dX3_countInLines_103 : decode cX3_countInLines 103 = .ok (.iload_n 2, 1) := by decide +kernel
theorem dX3_countInLines_104 : decode cX3_countInLines 104 = .ok (.ireturn, 1) := by decide +kernel
theorem dX3_lost_0 : decode cX3_lost 0 = .ok (.aload_n 0, 1) := by decide +kernel
theorem dX3_lost_1 : decode cX3_lost 1 = .ok (.getfield 16, 3) := by decide +kernel
theorem dX3_lost_4 : decode cX3_lost 4 = .ok (.invokevirtual 39, 3) := by decide +kernel
theorem dX3_lost_7 : decode cX3_lost 7 = .ok (.istore_n 1, 1) := by decide +kernel
theorem dX3_lost_8 : decode cX3_lost 8 = .ok (.iload_n 1, 1) := by decide +kernel
theorem dX3_lost_9 : decode cX3_lost 9 = .ok (.ifCond .le 22, 3) := by decide +kernel
theorem dX3_lost_12 : decode cX3_lost 12 = .ok (.aload_n 0, 1) := by decide +kernel
theorem dX3_lost_13 : decode cX3_lost 13 = .ok (.getfield 16, 3) := by decide +kernel
theorem dX3_lost_16 : decode cX3_lost 16 = .ok (.iload_n 1, 1) := by decide +kernel
theorem dX3_lost_17 : decode cX3_lost 17 = .ok (.iconst 1, 1) := by decide +kernel
theorem dX3_lost_18 : decode cX3_lost 18 = .ok (.isub, 1) := by decide +kernel
theorem dX3_lost_19 : decode cX3_lost 19 = .ok (.invokevirtual 154, 3) := by decide +kernel
theorem dX3_lost_22 : decode cX3_lost 22 = .ok (.checkcast 77, 3) := by decide +kernel
theorem dX3_lost_25 : decode cX3_lost 25 = .ok (.getfield 209, 3) := by decide +kernel
theorem dX3_lost_28 : decode cX3_lost 28 = .ok (.goto 4, 3) := by decide +kernel
theorem dX3_lost_31 : decode cX3_lost 31 = .ok (.iconst 0, 1) := by decide +kernel
theorem dX3_lost_32 : decode cX3_lost 32 = .ok (.ireturn, 1) := by decide +kernel
theorem dX3_allTaxes_0 : decode cX3_allTaxes 0 = .ok (.iconst 0, 1) := by decide +kernel
theorem dX3_allTaxes_1 : decode cX3_allTaxes 1 = .ok (.istore_n 1, 1) := by decide +kernel
theorem dX3_allTaxes_2 : decode cX3_allTaxes 2 = .ok (.iconst 0, 1) := by decide +kernel
theorem dX3_allTaxes_3 : decode cX3_allTaxes 3 = .ok (.istore_n 2, 1) := by decide +kernel
theorem dX3_allTaxes_4 : decode cX3_allTaxes 4 = .ok (.iload_n 2, 1) := by decide +kernel
theorem dX3_allTaxes_5 : decode cX3_allTaxes 5 = .ok (.aload_n 0, 1) := by decide +kernel
theorem dX3_allTaxes_6 : decode cX3_allTaxes 6 = .ok (.getfield 16, 3) := by decide +kernel
theorem dX3_allTaxes_9 : decode cX3_allTaxes 9 = .ok (.invokevirtual 39, 3) := by decide +kernel
theorem dX3_allTaxes_12 : decode cX3_allTaxes 12 = .ok (.if_icmp .ge 26, 3) := by decide +kernel
theorem dX3_allTaxes_15 : decode cX3_allTaxes 15 = .ok (.iload_n 1, 1) := by decide +kernel
theorem dX3_allTaxes_16 : decode cX3_allTaxes 16 = .ok (.aload_n 0, 1) := by decide +kernel
theorem dX3_allTaxes_17 : decode cX3_allTaxes 17 = .ok (.getfield 16, 3) := by decide +kernel
theorem dX3_allTaxes_20 : decode cX3_allTaxes 20 = .ok (.iload_n 2, 1) := by decide +kernel
theorem dX3_allTaxes_21 : decode cX3_allTaxes 21 = .ok (.invokevirtual 154, 3) := by decide +kernel
theorem dX3_allTaxes_24 : decode cX3_allTaxes 24 = .ok (.checkcast 77, 3) := by decide +kernel
theorem dX3_allTaxes_27 : decode cX3_allTaxes 27 = .ok (.getfield 212, 3) := by decide +kernel
theorem dX3_allTaxes_30 : decode cX3_allTaxes 30 = .ok (.iadd, 1) := by decide +kernel
theorem dX3_allTaxes_31 : decode cX3_allTaxes 31 = .ok (.istore_n 1, 1) := by decide +kernel
theorem dX3_allTaxes_32 : decode cX3_allTaxes 32 = .ok (.iinc 2 1, 3) := by decide +kernel
theorem dX3_allTaxes_35 : decode cX3_allTaxes 35 = .ok (.goto (-31), 3) := by decide +kernel
theorem dX3_allTaxes_38 : decode cX3_allTaxes 38 = .ok (.iload_n 1, 1) := by decide +kernel
theorem dX3_allTaxes_39 : decode cX3_allTaxes 39 = .ok (.ireturn, 1) := by decide +kernel
theorem dX3_rhymeBetween_0 : decode cX3_rhymeBetween 0 = .ok (.aload_n 0, 1) := by decide +kernel
theorem dX3_rhymeBetween_1 : decode cX3_rhymeBetween 1 = .ok (.ifnull 7, 3) := by decide +kernel
theorem dX3_rhymeBetween_4 : decode cX3_rhymeBetween 4 = .ok (.aload_n 1, 1) := by decide +kernel
theorem dX3_rhymeBetween_5 : decode cX3_rhymeBetween 5 = .ok (.ifnonnull 5, 3) := by decide +kernel
theorem dX3_rhymeBetween_8 : decode cX3_rhymeBetween 8 = .ok (.iconst 0, 1) := by decide +kernel
theorem dX3_rhymeBetween_9 : decode cX3_rhymeBetween 9 = .ok (.ireturn, 1) := by decide +kernel
theorem dX3_rhymeBetween_10 : decode cX3_rhymeBetween 10 = .ok (.aload_n 0, 1) := by decide +kernel
theorem dX3_rhymeBetween_11 : decode cX3_rhymeBetween 11 = .ok (.invokevirtual 106, 3) := by decide +kernel
theorem dX3_rhymeBetween_14 : decode cX3_rhymeBetween 14 = .ok (.astore_n 2, 1) := by decide +kernel
theorem dX3_rhymeBetween_15 : decode cX3_rhymeBetween 15 = .ok (.aload_n 1, 1) := by decide +kernel
theorem dX3_rhymeBetween_16 : decode cX3_rhymeBetween 16 = .ok (.invokevirtual 106, 3) := by decide +kernel
theorem dX3_rhymeBetween_19 : decode cX3_rhymeBetween 19 = .ok (.astore_n 3, 1) := by decide +kernel
theorem dX3_rhymeBetween_20 : decode cX3_rhymeBetween 20 = .ok (.aload_n 2, 1) := by decide +kernel
theorem dX3_rhymeBetween_21 : decode cX3_rhymeBetween 21 = .ok (.ifnull 7, 3) := by decide +kernel
theorem dX3_rhymeBetween_24 : decode cX3_rhymeBetween 24 = .ok (.aload_n 3, 1) := by decide +kernel
theorem dX3_rhymeBetween_25 : decode cX3_rhymeBetween 25 = .ok (.ifnonnull 7, 3) := by decide +kernel
theorem dX3_rhymeBetween_28 : decode cX3_rhymeBetween 28 = .ok (.iconst 0, 1) := by decide +kernel
theorem dX3_rhymeBetween_29 : decode cX3_rhymeBetween 29 = .ok (.goto 8, 3) := by decide +kernel
theorem dX3_rhymeBetween_32 : decode cX3_rhymeBetween 32 = .ok (.aload_n 2, 1) := by decide +kernel
theorem dX3_rhymeBetween_33 : decode cX3_rhymeBetween 33 = .ok (.aload_n 3, 1) := by decide +kernel
theorem dX3_rhymeBetween_34 : decode cX3_rhymeBetween 34 = .ok (.invokevirtual 215, 3) := by decide +kernel
theorem dX3_rhymeBetween_37 : decode cX3_rhymeBetween 37 = .ok (.ireturn, 1) := by decide +kernel
theorem dX3_replaceWord_0 : decode cX3_replaceWord 0 = .ok (.iload_n 1, 1) := by decide +kernel
theorem dX3_replaceWord_1 : decode cX3_replaceWord 1 = .ok (.aload_n 0, 1) := by decide +kernel
theorem dX3_replaceWord_2 : decode cX3_replaceWord 2 = .ok (.getfield 16, 3) := by decide +kernel
theorem dX3_replaceWord_5 : decode cX3_replaceWord 5 = .ok (.invokevirtual 39, 3) := by decide +kernel
theorem dX3_replaceWord_8 : decode cX3_replaceWord 8 = .ok (.invokestatic 33, 3) := by decide +kernel
theorem dX3_replaceWord_11 : decode cX3_replaceWord 11 = .ok (.ifCond .ne 4, 3) := by decide +kernel
theorem dX3_replaceWord_14 : decode cX3_replaceWord 14 = .ok (.return_, 1) := by decide +kernel
theorem dX3_replaceWord_15 : decode cX3_replaceWord 15 = .ok (.aload_n 0, 1) := by decide +kernel
theorem dX3_replaceWord_16 : decode cX3_replaceWord 16 = .ok (.getfield 16, 3) := by decide +kernel
theorem dX3_replaceWord_19 : decode cX3_replaceWord 19 = .ok (.iload_n 1, 1) := by decide +kernel
theorem dX3_replaceWord_20 : decode cX3_replaceWord 20 = .ok (.invokevirtual 154, 3) := by decide +kernel
theorem dX3_replaceWord_23 : decode cX3_replaceWord 23 = .ok (.checkcast 77, 3) := by decide +kernel
theorem dX3_replaceWord_26 : decode cX3_replaceWord 26 = .ok (.iload_n 2, 1) := by decide +kernel
theorem dX3_replaceWord_27 : decode cX3_replaceWord 27 = .ok (.aload_n 3, 1) := by decide +kernel
theorem dX3_replaceWord_28 : decode cX3_replaceWord 28 = .ok (.invokevirtual 218, 3) := by decide +kernel
theorem dX3_replaceWord_31 : decode cX3_replaceWord 31 = .ok (.aload_n 0, 1) := by decide +kernel
theorem dX3_replaceWord_32 : decode cX3_replaceWord 32 = .ok (.iload_n 1, 1) := by decide +kernel
theorem dX3_replaceWord_33 : decode cX3_replaceWord 33 = .ok (.invokevirtual 86, 3) := by decide +kernel
theorem dX3_replaceWord_36 : decode cX3_replaceWord 36 = .ok (.return_, 1) := by decide +kernel
theorem dX3_taxesWith_0 : decode cX3_taxesWith 0 = .ok (.aload_n 0, 1) := by decide +kernel
theorem dX3_taxesWith_1 : decode cX3_taxesWith 1 = .ok (.iload_n 1, 1) := by decide +kernel
theorem dX3_taxesWith_2 : decode cX3_taxesWith 2 = .ok (.iload_n 2, 1) := by decide +kernel
theorem dX3_taxesWith_3 : decode cX3_taxesWith 3 = .ok (.aload_n 3, 1) := by decide +kernel
theorem dX3_taxesWith_4 : decode cX3_taxesWith 4 = .ok (.invokevirtual 96, 3) := by decide +kernel
theorem dX3_taxesWith_7 : decode cX3_taxesWith 7 = .ok (.aload_n 0, 1) := by decide +kernel
theorem dX3_taxesWith_8 : decode cX3_taxesWith 8 = .ok (.invokevirtual 151, 3) := by decide +kernel
theorem dX3_taxesWith_11 : decode cX3_taxesWith 11 = .ok (.istore 5, 2) := by decide +kernel
theorem dX3_taxesWith_13 : decode cX3_taxesWith 13 = .ok (.aload_n 0, 1) := by decide +kernel
theorem dX3_taxesWith_14 : decode cX3_taxesWith 14 = .ok (.iload_n 1, 1) := by decide +kernel
theorem dX3_taxesWith_15 : decode cX3_taxesWith 15 = .ok (.iload_n 2, 1) := by decide +kernel
theorem dX3_taxesWith_16 : decode cX3_taxesWith 16 = .ok (.aload 4, 2) := by decide +kernel
theorem dX3_taxesWith_18 : decode cX3_taxesWith 18 = .ok (.invokevirtual 96, 3) := by decide +kernel
theorem dX3_taxesWith_21 : decode cX3_taxesWith 21 = .ok (.iload 5, 2) := by decide +kernel
theorem dX3_taxesWith_23 : decode cX3_taxesWith 23 = .ok (.ireturn, 1) := by decide +kernel
theorem dX3_bestWord_0 : decode cX3_bestWord 0 = .ok (.aload_n 3, 1) := by decide +kernel
theorem dX3_bestWord_1 : decode cX3_bestWord 1 = .ok (.astore 4, 2) := by decide +kernel
theorem dX3_bestWord_3 : decode cX3_bestWord 3 = .ok (.iconst 0, 1) := by decide +kernel
theorem dX3_bestWord_4 : decode cX3_bestWord 4 = .ok (.istore 5, 2) := by decide +kernel
theorem dX3_bestWord_6 : decode cX3_bestWord 6 = .ok (.iconst 0, 1) := by decide +kernel
theorem dX3_bestWord_7 : decode cX3_bestWord 7 = .ok (.istore 6, 2) := by decide +kernel
theorem dX3_bestWord_9 : decode cX3_bestWord 9 = .ok (.iload 6, 2) := by decide +kernel
theorem dX3_bestWord_11 : decode cX3_bestWord 11 = .ok (.aload_n 0, 1) := by decide +kernel
theorem dX3_bestWord_12 : decode cX3_bestWord 12 = .ok (.getfield 12, 3) := by decide +kernel
theorem dX3_bestWord_15 : decode cX3_bestWord 15 = .ok (.invokevirtual 39, 3) := by decide +kernel
theorem dX3_bestWord_18 : decode cX3_bestWord 18 = .ok (.if_icmp .ge 57, 3) := by decide +kernel
theorem dX3_bestWord_21 : decode cX3_bestWord 21 = .ok (.aload_n 0, 1) := by decide +kernel
theorem dX3_bestWord_22 : decode cX3_bestWord 22 = .ok (.getfield 12, 3) := by decide +kernel
theorem dX3_bestWord_25 : decode cX3_bestWord 25 = .ok (.iload 6, 2) := by decide +kernel
theorem dX3_bestWord_27 : decode cX3_bestWord 27 = .ok (.invokevirtual 154, 3) := by decide +kernel
theorem dX3_bestWord_30 : decode cX3_bestWord 30 = .ok (.checkcast 48, 3) := by decide +kernel
theorem dX3_bestWord_33 : decode cX3_bestWord 33 = .ok (.astore 7, 2) := by decide +kernel
theorem dX3_bestWord_35 : decode cX3_bestWord 35 = .ok (.aload_n 0, 1) := by decide +kernel
theorem dX3_bestWord_36 : decode cX3_bestWord 36 = .ok (.iload_n 1, 1) := by decide +kernel
theorem dX3_bestWord_37 : decode cX3_bestWord 37 = .ok (.iload_n 2, 1) := by decide +kernel
theorem dX3_bestWord_38 : decode cX3_bestWord 38 = .ok (.aload 7, 2) := by decide +kernel
theorem dX3_bestWord_40 : decode cX3_bestWord 40 = .ok (.invokevirtual 96, 3) := by decide +kernel
theorem dX3_bestWord_43 : decode cX3_bestWord 43 = .ok (.aload_n 0, 1) := by decide +kernel
theorem dX3_bestWord_44 : decode cX3_bestWord 44 = .ok (.invokevirtual 151, 3) := by decide +kernel
theorem dX3_bestWord_47 : decode cX3_bestWord 47 = .ok (.istore 8, 2) := by decide +kernel
theorem dX3_bestWord_49 : decode cX3_bestWord 49 = .ok (.iload 6, 2) := by decide +kernel
theorem dX3_bestWord_51 : decode cX3_bestWord 51 = .ok (.ifCond .eq 10, 3) := by decide +kernel
theorem dX3_bestWord_54 : decode cX3_bestWord 54 = .ok (.iload 8, 2) := by decide +kernel
theorem dX3_bestWord_56 : decode cX3_bestWord 56 = .ok (.iload 5, 2) := by decide +kernel
theorem dX3_bestWord_58 : decode cX3_bestWord 58 = .ok (.if_icmp .ge 11, 3) := by decide +kernel
theorem dX3_bestWord_61 : decode cX3_bestWord 61 = .ok (.iload 8, 2) := by decide +kernel
theorem dX3_bestWord_63 : decode cX3_bestWord 63 = .ok (.istore 5, 2) := by decide +kernel
theorem dX3_bestWord_65 : decode cX3_bestWord 65 = .ok (.aload 7, 2) := by decide +kernel
theorem dX3_bestWord_67 : decode cX3_bestWord 67 = .ok (.astore 4, 2) := by decide +kernel
theorem dX3_bestWord_69 : decode cX3_bestWord 69 = .ok (.iinc 6 1, 3) := by decide +kernel
theorem dX3_bestWord_72 : decode cX3_bestWord 72 = .ok (.goto (-63), 3) := by decide +kernel
theorem dX3_bestWord_75 : decode cX3_bestWord 75 = .ok (.aload_n 0, 1) := by decide +kernel
theorem dX3_bestWord_76 : decode cX3_bestWord 76 = .ok (.iload_n 1, 1) := by decide +kernel
theorem dX3_bestWord_77 : decode cX3_bestWord 77 = .ok (.iload_n 2, 1) := by decide +kernel
theorem dX3_bestWord_78 : decode cX3_bestWord 78 = .ok (.aload_n 3, 1) := by decide +kernel
theorem dX3_bestWord_79 : decode cX3_bestWord 79 = .ok (.invokevirtual 96, 3) := by decide +kernel
theorem dX3_bestWord_82 : decode cX3_bestWord 82 = .ok (.aload 4, 2) := by decide +kernel
theorem dX3_bestWord_84 : decode cX3_bestWord 84 = .ok (.areturn, 1) := by decide +kernel
theorem dX3_scanFrom_0 : decode cX3_scanFrom 0 = .ok (.iconst 0, 1) := by decide +kernel
theorem dX3_scanFrom_1 : decode cX3_scanFrom 1 = .ok (.istore_n 2, 1) := by decide +kernel
theorem dX3_scanFrom_2 : decode cX3_scanFrom 2 = .ok (.iconst 0, 1) := by decide +kernel
theorem dX3_scanFrom_3 : decode cX3_scanFrom 3 = .ok (.istore_n 3, 1) := by decide +kernel
theorem dX3_scanFrom_4 : decode cX3_scanFrom 4 = .ok (.iload_n 1, 1) := by decide +kernel
theorem dX3_scanFrom_5 : decode cX3_scanFrom 5 = .ok (.ifCond .le 49, 3) := by decide +kernel
theorem dX3_scanFrom_8 : decode cX3_scanFrom 8 = .ok (.iload_n 1, 1) := by decide +kernel
theorem dX3_scanFrom_9 : decode cX3_scanFrom 9 = .ok (.aload_n 0, 1) := by decide +kernel
theorem dX3_scanFrom_10 : decode cX3_scanFrom 10 = .ok (.getfield 16, 3) := by decide +kernel
theorem dX3_scanFrom_13 : decode cX3_scanFrom 13 = .ok (.invokevirtual 39, 3) := by decide +kernel
theorem dX3_scanFrom_16 : decode cX3_scanFrom 16 = .ok (.if_icmp .gt 38, 3) := by decide +kernel
theorem dX3_scanFrom_19 : decode cX3_scanFrom 19 = .ok (.aload_n 0, 1) := by decide +kernel
theorem dX3_scanFrom_20 : decode cX3_scanFrom 20 = .ok (.getfield 16, 3) := by decide +kernel
theorem dX3_scanFrom_23 : decode cX3_scanFrom 23 = .ok (.iload_n 1, 1) := by decide +kernel
theorem dX3_scanFrom_24 : decode cX3_scanFrom 24 = .ok (.iconst 1, 1) := by decide +kernel
theorem dX3_scanFrom_25 : decode cX3_scanFrom 25 = .ok (.isub, 1) := by decide +kernel
theorem dX3_scanFrom_26 : decode cX3_scanFrom 26 = .ok (.invokevirtual 154, 3) := by decide +kernel
theorem dX3_scanFrom_29 : decode cX3_scanFrom 29 = .ok (.checkcast 77, 3) := by decide +kernel
theorem dX3_scanFrom_32 : decode cX3_scanFrom 32 = .ok (.astore 4, 2) := by decide +kernel
theorem dX3_scanFrom_34 : decode cX3_scanFrom 34 = .ok (.aload 4, 2) := by decide +kernel
theorem dX3_scanFrom_36 : decode cX3_scanFrom 36 = .ok (.getfield 221, 3) := by decide +kernel
theorem dX3_scanFrom_39 : decode cX3_scanFrom 39 = .ok (.aload 4, 2) := by decide +kernel
theorem dX3_scanFrom_41 : decode cX3_scanFrom 41 = .ok (.getfield 123, 3) := by decide +kernel
theorem dX3_scanFrom_44 : decode cX3_scanFrom 44 = .ok (.iadd, 1) := by decide +kernel
theorem dX3_scanFrom_45 : decode cX3_scanFrom 45 = .ok (.istore_n 2, 1) := by decide +kernel
theorem dX3_scanFrom_46 : decode cX3_scanFrom 46 = .ok (.iload_n 2, 1) := by decide +kernel
theorem dX3_scanFrom_47 : decode cX3_scanFrom 47 = .ok (.aload 4, 2) := by decide +kernel
theorem dX3_scanFrom_49 : decode cX3_scanFrom 49 = .ok (.getfield 209, 3) := by decide +kernel
theorem dX3_scanFrom_52 : decode cX3_scanFrom 52 = .ok (.iadd, 1) := by decide +kernel
theorem dX3_scanFrom_53 : decode cX3_scanFrom 53 = .ok (.istore_n 3, 1) := by decide +kernel
theorem dX3_scanFrom_54 : decode cX3_scanFrom 54 = .ok (.aload_n 0, 1) := by decide +kernel
theorem dX3_scanFrom_55 : decode cX3_scanFrom 55 = .ok (.getfield 22, 3) := by decide +kernel
theorem dX3_scanFrom_58 : decode cX3_scanFrom 58 = .ok (.iload_n 3, 1) := by decide +kernel
theorem dX3_scanFrom_59 : decode cX3_scanFrom 59 = .ok (.invokevirtual 224, 3) := by decide +kernel
theorem dX3_scanFrom_62 : decode cX3_scanFrom 62 = .ok (.iload_n 1, 1) := by decide +kernel
theorem dX3_scanFrom_63 : decode cX3_scanFrom 63 = .ok (.iconst 0, 1) := by decide +kernel
theorem dX3_scanFrom_64 : decode cX3_scanFrom 64 = .ok (.invokestatic 227, 3) := by decide +kernel
theorem dX3_scanFrom_67 : decode cX3_scanFrom 67 = .ok (.istore 4, 2) := by decide +kernel
theorem dX3_scanFrom_69 : decode cX3_scanFrom 69 = .ok (.iload 4, 2) := by decide +kernel
theorem dX3_scanFrom_71 : decode cX3_scanFrom 71 = .ok (.aload_n 0, 1) := by decide +kernel
theorem dX3_scanFrom_72 : decode cX3_scanFrom 72 = .ok (.getfield 16, 3) := by decide +kernel
theorem dX3_scanFrom_75 : decode cX3_scanFrom 75 = .ok (.invokevirtual 39, 3) := by decide +kernel
theorem dX3_scanFrom_78 : decode cX3_scanFrom 78 = .ok (.if_icmp .ge 56, 3) := by decide +kernel
theorem dX3_scanFrom_81 : decode cX3_scanFrom 81 = .ok (.aload_n 0, 1) := by decide +kernel
theorem dX3_scanFrom_82 : decode cX3_scanFrom 82 = .ok (.getfield 16, 3) := by decide +kernel
theorem dX3_scanFrom_85 : decode cX3_scanFrom 85 = .ok (.iload 4, 2) := by decide +kernel
theorem dX3_scanFrom_87 : decode cX3_scanFrom 87 = .ok (.invokevirtual 154, 3) := by decide +kernel
theorem dX3_scanFrom_90 : decode cX3_scanFrom 90 = .ok (.checkcast 77, 3) := by decide +kernel
theorem dX3_scanFrom_93 : decode cX3_scanFrom 93 = .ok (.astore 5, 2) := by decide +kernel
theorem dX3_scanFrom_95 : decode cX3_scanFrom 95 = .ok (.aload 5, 2) := by decide +kernel
theorem dX3_scanFrom_97 : decode cX3_scanFrom 97 = .ok (.aload_n 0, 1) := by decide +kernel
theorem dX3_scanFrom_98 : decode cX3_scanFrom 98 = .ok (.getfield 22, 3) := by decide +kernel
theorem dX3_scanFrom_101 : decode cX3_scanFrom 101 = .ok (.iload_n 2, 1) := by decide +kernel
theorem dX3_scanFrom_102 : decode cX3_scanFrom 102 = .ok (.invokevirtual 233, 3) := by decide +kernel
theorem dX3_scanFrom_105 : decode cX3_scanFrom 105 = .ok (.aload 5, 2) := by decide +kernel
theorem dX3_scanFrom_107 : decode cX3_scanFrom 107 = .ok (.aload 5, 2) := by decide +kernel
theorem dX3_scanFrom_109 : decode cX3_scanFrom 109 = .ok (.aload 5, 2) := by decide +kernel
theorem dX3_scanFrom_111 : decode cX3_scanFrom 111 = .ok (.getfield 237, 3) := by decide +kernel
theorem dX3_scanFrom_114 : decode cX3_scanFrom 114 = .ok (.invokestatic 132, 3) := by decide +kernel
theorem dX3_scanFrom_117 : decode cX3_scanFrom 117 = .ok (.invokevirtual 241, 3) := by decide +kernel
theorem dX3_scanFrom_120 : decode cX3_scanFrom 120 = .ok (.iload_n 2, 1) := by decide +kernel
theorem dX3_scanFrom_121 : decode cX3_scanFrom 121 = .ok (.aload 5, 2) := by decide +kernel
theorem dX3_scanFrom_123 : decode cX3_scanFrom 123 = .ok (.getfield 123, 3) := by decide +kernel
theorem dX3_scanFrom_126 : decode cX3_scanFrom 126 = .ok (.iadd, 1) := by decide +kernel
theorem dX3_scanFrom_127 : decode cX3_scanFrom 127 = .ok (.istore_n 2, 1) := by decide +kernel
theorem dX3_scanFrom_128 : decode cX3_scanFrom 128 = .ok (.iinc 4 1, 3) := by decide +kernel
theorem dX3_scanFrom_131 : decode cX3_scanFrom 131 = .ok (.goto (-62), 3) := by decide +kernel
theorem dX3_scanFrom_134 : decode cX3_scanFrom 134 = .ok (.return_, 1) := by decide +kernel
theorem dX3_lowBits_0 : decode cX3_lowBits 0 = .ok (.iload_n 0, 1) := by decide +kernel
theorem dX3_lowBits_1 : decode cX3_lowBits 1 = .ok (.ifCond .gt 5, 3) := by decide +kernel
theorem dX3_lowBits_4 : decode cX3_lowBits 4 = .ok (.lconst 0, 1) := by decide +kernel
theorem dX3_lowBits_5 : decode cX3_lowBits 5 = .ok (.lreturn, 1) := by decide +kernel
theorem dX3_lowBits_6 : decode cX3_lowBits 6 = .ok (.iload_n 0, 1) := by decide +kernel
theorem dX3_lowBits_7 : decode cX3_lowBits 7 = .ok (.bipush 64, 2) := by decide +kernel
theorem dX3_lowBits_9 : decode cX3_lowBits 9 = .ok (.if_icmp .lt 9, 3) := by decide +kernel
theorem dX3_lowBits_12 : decode cX3_lowBits 12 = .ok (.ldc2_w 244, 3) := by decide +kernel
theorem dX3_lowBits_15 : decode cX3_lowBits 15 = .ok (.goto 8, 3) := by decide +kernel
theorem dX3_lowBits_18 : decode cX3_lowBits 18 = .ok (.lconst 1, 1) := by decide +kernel
theorem dX3_lowBits_19 : decode cX3_lowBits 19 = .ok (.iload_n 0, 1) := by decide +kernel
theorem dX3_lowBits_20 : decode cX3_lowBits 20 = .ok (.lshl, 1) := by decide +kernel
theorem dX3_lowBits_21 : decode cX3_lowBits 21 = .ok (.lconst 1, 1) := by decide +kernel
theorem dX3_lowBits_22 : decode cX3_lowBits 22 = .ok (.lsub, 1) := by decide +kernel
theorem dX3_lowBits_23 : decode cX3_lowBits 23 = .ok (.lreturn, 1) := by decide +kernel
theorem dX3_footSize_0 : decode cX3_footSize 0 = .ok (.iload_n 0, 1) := by decide +kernel
theorem dX3_footSize_1 : decode cX3_footSize 1 = .ok (.iconst 2, 1) := by decide +kernel
theorem dX3_footSize_2 : decode cX3_footSize 2 = .ok (.if_icmp .ge 7, 3) := by decide +kernel
theorem dX3_footSize_5 : decode cX3_footSize 5 = .ok (.iconst 2, 1) := by decide +kernel
theorem dX3_footSize_6 : decode cX3_footSize 6 = .ok (.goto 4, 3) := by decide +kernel
theorem dX3_footSize_9 : decode cX3_footSize 9 = .ok (.iconst 3, 1) := by decide +kernel
theorem dX3_footSize_10 : decode cX3_footSize 10 = .ok (.ireturn, 1) := by decide +kernel
theorem dX3_askedBy_0 : decode cX3_askedBy 0 = .ok (.iload_n 0, 1) := by decide +kernel
theorem dX3_askedBy_1 : decode cX3_askedBy 1 = .ok (.tableswitch 39 0 2 #[27, 31, 35], 27) := by decide +kernel
theorem dX3_askedBy_28 : decode cX3_askedBy 28 = .ok (.ldc2_w 246, 3) := by decide +kernel
theorem dX3_askedBy_31 : decode cX3_askedBy 31 = .ok (.lreturn, 1) := by decide +kernel
theorem dX3_askedBy_32 : decode cX3_askedBy 32 = .ok (.ldc2_w 248, 3) := by decide +kernel
theorem dX3_askedBy_35 : decode cX3_askedBy 35 = .ok (.lreturn, 1) := by decide +kernel
theorem dX3_askedBy_36 : decode cX3_askedBy 36 = .ok (.ldc2_w 250, 3) := by decide +kernel
theorem dX3_askedBy_39 : decode cX3_askedBy 39 = .ok (.lreturn, 1) := by decide +kernel
theorem dX3_askedBy_40 : decode cX3_askedBy 40 = .ok (.ldc2_w 252, 3) := by decide +kernel
theorem dX3_askedBy_43 : decode cX3_askedBy 43 = .ok (.lreturn, 1) := by decide +kernel
theorem dJ13_bitCount_95d88_0 : decode cJ13_bitCount_95d88 0 = .ok (.lload_n 0, 1) := by decide +kernel
theorem dJ13_bitCount_95d88_1 : decode cJ13_bitCount_95d88 1 = .ok (.lload_n 0, 1) := by decide +kernel
theorem dJ13_bitCount_95d88_2 : decode cJ13_bitCount_95d88 2 = .ok (.iconst 1, 1) := by decide +kernel
