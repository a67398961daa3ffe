theorem dX3_askedBy_0 : decode cX3_askedBy 0 = .ok (.iload_n 0, 1) := by decide +kernel
theorem dX3_askedBy_1 : decode cX3_askedBy 1 = .ok (.tableswitch 39 0 2 #[27, 31, 35], 27) := by decide +kernel
theorem dX3_askedBy_28 : decode cX3_askedBy 28 = .ok (.ldc2_w 246, 3) := by decide +kernel
theorem dX3_askedBy_31 : decode cX3_askedBy 31 = .ok (.lreturn, 1) := by decide +kernel
theorem dX3_askedBy_32 : decode cX3_askedBy 32 = .ok (.ldc2_w 248, 3) := by decide +kernel
theorem dX3_askedBy_35 : decode cX3_askedBy 35 = .ok (.lreturn, 1) := by decide +kernel
theorem dX3_askedBy_36 : decode cX3_askedBy 36 = .ok (.ldc2_w 250, 3) := by decide +kernel
theorem dX3_askedBy_39 : decode cX3_askedBy 39 = .ok (.lreturn, 1) := by decide +kernel
theorem dX3_askedBy_40 : decode cX3_askedBy 40 = .ok (.ldc2_w 252, 3) := by decide +kernel
theorem dX3_askedBy_43 : decode cX3_askedBy 43 = .ok (.lreturn, 1) := by decide +kernel
theorem dX4_init_0 : decode cX4_init 0 = .ok (.aload_n 0, 1) := by decide +kernel
theorem dX4_init_1 : decode cX4_init 1 = .ok (.invokespecial 1, 3) := by decide +kernel
theorem dX4_init_4 : decode cX4_init 4 = .ok (.aload_n 0, 1) := by decide +kernel
theorem dX4_init_5 : decode cX4_init 5 = .ok (.bipush 30, 2) := by decide +kernel
theorem dX4_init_7 : decode cX4_init 7 = .ok (.newarray .int, 2) := by decide +kernel
theorem dX4_init_9 : decode cX4_init 9 = .ok (.putfield 9, 3) := by decide +kernel
theorem dX4_init_12 : decode cX4_init 12 = .ok (.aload_n 0, 1) := by decide +kernel
theorem dX4_init_13 : decode cX4_init 13 = .ok (.bipush 30, 2) := by decide +kernel
theorem dX4_init_15 : decode cX4_init 15 = .ok (.newarray .int, 2) := by decide +kernel
theorem dX4_init_17 : decode cX4_init 17 = .ok (.putfield 13, 3) := by decide +kernel
theorem dX4_init_20 : decode cX4_init 20 = .ok (.aload_n 0, 1) := by decide +kernel
theorem dX4_init_21 : decode cX4_init 21 = .ok (.bipush 30, 2) := by decide +kernel
theorem dX4_init_23 : decode cX4_init 23 = .ok (.newarray .int, 2) := by decide +kernel
theorem dX4_init_25 : decode cX4_init 25 = .ok (.putfield 16, 3) := by decide +kernel
theorem dX4_init_28 : decode cX4_init 28 = .ok (.aload_n 0, 1) := by decide +kernel
theorem dX4_init_29 : decode cX4_init 29 = .ok (.bipush 30, 2) := by decide +kernel
theorem dX4_init_31 : decode cX4_init 31 = .ok (.newarray .int, 2) := by decide +kernel
theorem dX4_init_33 : decode cX4_init 33 = .ok (.putfield 19, 3) := by decide +kernel
theorem dX4_init_36 : decode cX4_init 36 = .ok (.aload_n 0, 1) := by decide +kernel
theorem dX4_init_37 : decode cX4_init 37 = .ok (.bipush 30, 2) := by decide +kernel
theorem dX4_init_39 : decode cX4_init 39 = .ok (.newarray .int, 2) := by decide +kernel
theorem dX4_init_41 : decode cX4_init 41 = .ok (.putfield 22, 3) := by decide +kernel
theorem dX4_init_44 : decode cX4_init 44 = .ok (.aload_n 0, 1) := by decide +kernel
theorem dX4_init_45 : decode cX4_init 45 = .ok (.bipush 10, 2) := by decide +kernel
theorem dX4_init_47 : decode cX4_init 47 = .ok (.newarray .int, 2) := by decide +kernel
theorem dX4_init_49 : decode cX4_init 49 = .ok (.putfield 25, 3) := by decide +kernel
theorem dX4_init_52 : decode cX4_init 52 = .ok (.aload_n 0, 1) := by decide +kernel
theorem dX4_init_53 : decode cX4_init 53 = .ok (.bipush 10, 2) := by decide +kernel
theorem dX4_init_55 : decode cX4_init 55 = .ok (.newarray .int, 2) := by decide +kernel
theorem dX4_init_57 : decode cX4_init 57 = .ok (.putfield 28, 3) := by decide +kernel
theorem dX4_init_60 : decode cX4_init 60 = .ok (.aload_n 0, 1) := by decide +kernel
theorem dX4_init_61 : decode cX4_init 61 = .ok (.bipush 10, 2) := by decide +kernel
theorem dX4_init_63 : decode cX4_init 63 = .ok (.newarray .int, 2) := by decide +kernel
theorem dX4_init_65 : decode cX4_init 65 = .ok (.putfield 31, 3) := by decide +kernel
theorem dX4_init_68 : decode cX4_init 68 = .ok (.aload_n 0, 1) := by decide +kernel
theorem dX4_init_69 : decode cX4_init 69 = .ok (.bipush 10, 2) := by decide +kernel
theorem dX4_init_71 : decode cX4_init 71 = .ok (.newarray .int, 2) := by decide +kernel
theorem dX4_init_73 : decode cX4_init 73 = .ok (.putfield 34, 3) := by decide +kernel
theorem dX4_init_76 : decode cX4_init 76 = .ok (.aload_n 0, 1) := by decide +kernel
theorem dX4_init_77 : decode cX4_init 77 = .ok (.bipush 80, 2) := by decide +kernel
theorem dX4_init_79 : decode cX4_init 79 = .ok (.newarray .int, 2) := by decide +kernel
theorem dX4_init_81 : decode cX4_init 81 = .ok (.putfield 37, 3) := by decide +kernel
theorem dX4_init_84 : decode cX4_init 84 = .ok (.aload_n 0, 1) := by decide +kernel
theorem dX4_init_85 : decode cX4_init 85 = .ok (.bipush 10, 2) := by decide +kernel
theorem dX4_init_87 : decode cX4_init 87 = .ok (.newarray .int, 2) := by decide +kernel
theorem dX4_init_89 : decode cX4_init 89 = .ok (.putfield 40, 3) := by decide +kernel
theorem dX4_init_92 : decode cX4_init 92 = .ok (.aload_n 0, 1) := by decide +kernel
theorem dX4_init_93 : decode cX4_init 93 = .ok (.bipush 10, 2) := by decide +kernel
theorem dX4_init_95 : decode cX4_init 95 = .ok (.newarray .int, 2) := by decide +kernel
theorem dX4_init_97 : decode cX4_init 97 = .ok (.putfield 43, 3) := by decide +kernel
theorem dX4_init_100 : decode cX4_init 100 = .ok (.aload_n 0, 1) := by decide +kernel
theorem dX4_init_101 : decode cX4_init 101 = .ok (.bipush 10, 2) := by decide +kernel
theorem dX4_init_103 : decode cX4_init 103 = .ok (.newarray .int, 2) := by decide +kernel
theorem dX4_init_105 : decode cX4_init 105 = .ok (.putfield 46, 3) := by decide +kernel
theorem dX4_init_108 : decode cX4_init 108 = .ok (.aload_n 0, 1) := by decide +kernel
theorem dX4_init_109 : decode cX4_init 109 = .ok (.bipush 10, 2) := by decide +kernel
theorem dX4_init_111 : decode cX4_init 111 = .ok (.newarray .int, 2) := by decide +kernel
theorem dX4_init_113 : decode cX4_init 113 = .ok (.putfield 49, 3) := by decide +kernel
theorem dX4_init_116 : decode cX4_init 116 = .ok (.aload_n 0, 1) := by decide +kernel
theorem dX4_init_117 : decode cX4_init 117 = .ok (.bipush 10, 2) := by decide +kernel
theorem dX4_init_119 : decode cX4_init 119 = .ok (.newarray .int, 2) := by decide +kernel
theorem dX4_init_121 : decode cX4_init 121 = .ok (.putfield 52, 3) := by decide +kernel
theorem dX4_init_124 : decode cX4_init 124 = .ok (.aload_n 0, 1) := by decide +kernel
theorem dX4_init_125 : decode cX4_init 125 = .ok (.bipush 10, 2) := by decide +kernel
theorem dX4_init_127 : decode cX4_init 127 = .ok (.newarray .int, 2) := by decide +kernel
theorem dX4_init_129 : decode cX4_init 129 = .ok (.putfield 55, 3) := by decide +kernel
theorem dX4_init_132 : decode cX4_init 132 = .ok (.aload_n 0, 1) := by decide +kernel
theorem dX4_init_133 : decode cX4_init 133 = .ok (.sipush 320, 3) := by decide +kernel
theorem dX4_init_136 : decode cX4_init 136 = .ok (.newarray .int, 2) := by decide +kernel
theorem dX4_init_138 : decode cX4_init 138 = .ok (.putfield 58, 3) := by decide +kernel
theorem dX4_init_141 : decode cX4_init 141 = .ok (.return_, 1) := by decide +kernel
theorem dX4_thrown_0 : decode cX4_thrown 0 = .ok (.aload_n 0, 1) := by decide +kernel
theorem dX4_thrown_1 : decode cX4_thrown 1 = .ok (.getfield 61, 3) := by decide +kernel
theorem dX4_thrown_4 : decode cX4_thrown 4 = .ok (.ireturn, 1) := by decide +kernel
theorem dX4_no_0 : decode cX4_no 0 = .ok (.aload_n 0, 1) := by decide +kernel
theorem dX4_no_1 : decode cX4_no 1 = .ok (.iload_n 1, 1) := by decide +kernel
theorem dX4_no_2 : decode cX4_no 2 = .ok (.putfield 61, 3) := by decide +kernel
theorem dX4_no_5 : decode cX4_no 5 = .ok (.iconst 0, 1) := by decide +kernel
theorem dX4_no_6 : decode cX4_no 6 = .ok (.ireturn, 1) := by decide +kernel
theorem dX4_isIn_0 : decode cX4_isIn 0 = .ok (.iload_n 0, 1) := by decide +kernel
theorem dX4_isIn_1 : decode cX4_isIn 1 = .ok (.iload_n 1, 1) := by decide +kernel
theorem dX4_isIn_2 : decode cX4_isIn 2 = .ok (.if_icmp .lt 12, 3) := by decide +kernel
theorem dX4_isIn_5 : decode cX4_isIn 5 = .ok (.iload_n 0, 1) := by decide +kernel
theorem dX4_isIn_6 : decode cX4_isIn 6 = .ok (.iload_n 2, 1) := by decide +kernel
theorem dX4_isIn_7 : decode cX4_isIn 7 = .ok (.if_icmp .gt 7, 3) := by decide +kernel
theorem dX4_isIn_10 : decode cX4_isIn 10 = .ok (.iconst 1, 1) := by decide +kernel
theorem dX4_isIn_11 : decode cX4_isIn 11 = .ok (.goto 4, 3) := by decide +kernel
theorem dX4_isIn_14 : decode cX4_isIn 14 = .ok (.iconst 0, 1) := by decide +kernel
theorem dX4_isIn_15 : decode cX4_isIn 15 = .ok (.ireturn, 1) := by decide +kernel
theorem dX4_isWord_0 : decode cX4_isWord 0 = .ok (.iload_n 1, 1) := by decide +kernel
theorem dX4_isWord_1 : decode cX4_isWord 1 = .ok (.iconst 0, 1) := by decide +kernel
theorem dX4_isWord_2 : decode cX4_isWord 2 = .ok (.aload_n 0, 1) := by decide +kernel
theorem dX4_isWord_3 : decode cX4_isWord 3 = .ok (.getfield 65, 3) := by decide +kernel
theorem dX4_isWord_6 : decode cX4_isWord 6 = .ok (.iconst 1, 1) := by decide +kernel
theorem dX4_isWord_7 : decode cX4_isWord 7 = .ok (.isub, 1) := by decide +kernel
theorem dX4_isWord_8 : decode cX4_isWord 8 = .ok (.invokestatic 68, 3) := by decide +kernel
theorem dX4_isWord_11 : decode cX4_isWord 11 = .ok (.ireturn, 1) := by decide +kernel
theorem dX4_isLine_0 : decode cX4_isLine 0 = .ok (.iload_n 1, 1) := by decide +kernel
theorem dX4_isLine_1 : decode cX4_isLine 1 = .ok (.iconst 0, 1) := by decide +kernel
theorem dX4_isLine_2 : decode cX4_isLine 2 = .ok (.aload_n 0, 1) := by decide +kernel
theorem dX4_isLine_3 : decode cX4_isLine 3 = .ok (.getfield 72, 3) := by decide +kernel
theorem dX4_isLine_6 : decode cX4_isLine 6 = .ok (.iconst 1, 1) := by decide +kernel
theorem dX4_isLine_7 : decode cX4_isLine 7 = .ok (.isub, 1) := by decide +kernel
theorem dX4_isLine_8 : decode cX4_isLine 8 = .ok (.invokestatic 68, 3) := by decide +kernel
theorem dX4_isLine_11 : decode cX4_isLine 11 = .ok (.ireturn, 1) := by decide +kernel
theorem dX4_word_0 : decode cX4_word 0 = .ok (.aload_n 0, 1) := by decide +kernel
theorem dX4_word_1 : decode cX4_word 1 = .ok (.iconst 0, 1) := by decide +kernel
theorem dX4_word_2 : decode cX4_word 2 = .ok (.putfield 61, 3) := by decide +kernel
theorem dX4_word_5 : decode cX4_word 5 = .ok (.iload_n 1, 1) := by decide +kernel
theorem dX4_word_6 : decode cX4_word 6 = .ok (.iconst 1, 1) := by decide +kernel
theorem dX4_word_7 : decode cX4_word 7 = .ok (.iconst 4, 1) := by decide +kernel
theorem dX4_word_8 : decode cX4_word 8 = .ok (.invokestatic 68, 3) := by decide +kernel
theorem dX4_word_11 : decode cX4_word 11 = .ok (.ifCond .eq 37, 3) := by decide +kernel
theorem dX4_word_14 : decode cX4_word 14 = .ok (.iload_n 2, 1) := by decide +kernel
theorem dX4_word_15 : decode cX4_word 15 = .ok (.iconst 0, 1) := by decide +kernel
theorem dX4_word_16 : decode cX4_word 16 = .ok (.iconst 1, 1) := by decide +kernel
theorem dX4_word_17 : decode cX4_word 17 = .ok (.iload_n 1, 1) := by decide +kernel
theorem dX4_word_18 : decode cX4_word 18 = .ok (.ishl, 1) := by decide +kernel
theorem dX4_word_19 : decode cX4_word 19 = .ok (.iconst 1, 1) := by decide +kernel
theorem dX4_word_20 : decode cX4_word 20 = .ok (.isub, 1) := by decide +kernel
theorem dX4_word_21 : decode cX4_word 21 = .ok (.invokestatic 68, 3) := by decide +kernel
theorem dX4_word_24 : decode cX4_word 24 = .ok (.ifCond .eq 24, 3) := by decide +kernel
theorem dX4_word_27 : decode cX4_word 27 = .ok (.iload_n 3, 1) := by decide +kernel
theorem dX4_word_28 : decode cX4_word 28 = .ok (.iconst 0, 1) := by decide +kernel
theorem dX4_word_29 : decode cX4_word 29 = .ok (.bipush 9, 2) := by decide +kernel
theorem dX4_word_31 : decode cX4_word 31 = .ok (.invokestatic 68, 3) := by decide +kernel
theorem dX4_word_34 : decode cX4_word 34 = .ok (.ifCond .eq 14, 3) := by decide +kernel
theorem dX4_word_37 : decode cX4_word 37 = .ok (.iload 4, 2) := by decide +kernel
theorem dX4_word_39 : decode cX4_word 39 = .ok (.iconst 0, 1) := by decide +kernel
theorem dX4_word_40 : decode cX4_word 40 = .ok (.bipush 9, 2) := by decide +kernel
theorem dX4_word_42 : decode cX4_word 42 = .ok (.invokestatic 68, 3) := by decide +kernel
theorem dX4_word_45 : decode cX4_word 45 = .ok (.ifCond .ne 9, 3) := by decide +kernel
theorem dX4_word_48 : decode cX4_word 48 = .ok (.aload_n 0, 1) := by decide +kernel
theorem dX4_word_49 : decode cX4_word 49 = .ok (.iconst 1, 1) := by decide +kernel
theorem dX4_word_50 : decode cX4_word 50 = .ok (.invokevirtual 75, 3) := by decide +kernel
theorem dX4_word_53 : decode cX4_word 53 = .ok (.ireturn, 1) := by decide +kernel
theorem dX4_word_54 : decode cX4_word 54 = .ok (.aload_n 0, 1) := by decide +kernel
theorem dX4_word_55 : decode cX4_word 55 = .ok (.getfield 65, 3) := by decide +kernel
theorem dX4_word_58 : decode cX4_word 58 = .ok (.bipush 30, 2) := by decide +kernel
theorem dX4_word_60 : decode cX4_word 60 = .ok (.if_icmp .ne 9, 3) := by decide +kernel
theorem dX4_word_63 : decode cX4_word 63 = .ok (.aload_n 0, 1) := by decide +kernel
theorem dX4_word_64 : decode cX4_word 64 = .ok (.iconst 2, 1) := by decide +kernel
theorem dX4_word_65 : decode cX4_word 65 = .ok (.invokevirtual 75, 3) := by decide +kernel
theorem dX4_word_68 : decode cX4_word 68 = .ok (.ireturn, 1) := by decide +kernel
theorem dX4_word_69 : decode cX4_word 69 = .ok (.aload_n 0, 1) := by decide +kernel
theorem dX4_word_70 : decode cX4_word 70 = .ok (.getfield 9, 3) := by decide +kernel
theorem dX4_word_73 : decode cX4_word 73 = .ok (.aload_n 0, 1) := by decide +kernel
theorem dX4_word_74 : decode cX4_word 74 = .ok (.getfield 65, 3) := by decide +kernel
theorem dX4_word_77 : decode cX4_word 77 = .ok (.iload_n 1, 1) := by decide +kernel
theorem dX4_word_78 : decode cX4_word 78 = .ok (.iastore, 1) := by decide +kernel
theorem dX4_word_79 : decode cX4_word 79 = .ok (.aload_n 0, 1) := by decide +kernel
theorem dX4_word_80 : decode cX4_word 80 = .ok (.getfield 13, 3) := by decide +kernel
theorem dX4_word_83 : decode cX4_word 83 = .ok (.aload_n 0, 1) := by decide +kernel
theorem dX4_word_84 : decode cX4_word 84 = .ok (.getfield 65, 3) := by decide +kernel
theorem dX4_word_87 : decode cX4_word 87 = .ok (.iload_n 2, 1) := by decide +kernel
theorem dX4_word_88 : decode cX4_word 88 = .ok (.iastore, 1) := by decide +kernel
theorem dX4_word_89 : decode cX4_word 89 = .ok (.aload_n 0, 1) := by decide +kernel
theorem dX4_word_90 : decode cX4_word 90 = .ok (.getfield 16, 3) := by decide +kernel
theorem dX4_word_93 : decode cX4_word 93 = .ok (.aload_n 0, 1) := by decide +kernel
theorem dX4_word_94 : decode cX4_word 94 = .ok (.getfield 65, 3) := by decide +kernel
theorem dX4_word_97 : decode cX4_word 97 = .ok (.iload_n 3, 1) := by decide +kernel
theorem dX4_word_98 : decode cX4_word 98 = .ok (.iastore, 1) := by decide +kernel
theorem dX4_word_99 : decode cX4_word 99 = .ok (.aload_n 0, 1) := by decide +kernel
theorem dX4_word_100 : decode cX4_word 100 = .ok (.getfield 19, 3) := by decide +kernel
theorem dX4_word_103 : decode cX4_word 103 = .ok (.aload_n 0, 1) := by decide +kernel
theorem dX4_word_104 : decode cX4_word 104 = .ok (.getfield 65, 3) := by decide +kernel
theorem dX4_word_107 : decode cX4_word 107 = .ok (.iload 4, 2) := by decide +kernel
theorem dX4_word_109 : decode cX4_word 109 = .ok (.iastore, 1) := by decide +kernel
theorem dX4_word_110 : decode cX4_word 110 = .ok (.aload_n 0, 1) := by decide +kernel
theorem dX4_word_111 : decode cX4_word 111 = .ok (.getfield 22, 3) := by decide +kernel
theorem dX4_word_114 : decode cX4_word 114 = .ok (.aload_n 0, 1) := by decide +kernel
theorem dX4_word_115 : decode cX4_word 115 = .ok (.getfield 65, 3) := by decide +kernel
theorem dX4_word_118 : decode cX4_word 118 = .ok (.iload 5, 2) := by decide +kernel
theorem dX4_word_120 : decode cX4_word 120 = .ok (.ifCond .eq 7, 3) := by decide +kernel
theorem dX4_word_123 : decode cX4_word 123 = .ok (.iconst 1, 1) := by decide +kernel
theorem dX4_word_124 : decode cX4_word 124 = .ok (.goto 4, 3) := by decide +kernel
theorem dX4_word_127 : decode cX4_word 127 = .ok (.iconst 0, 1) := by decide +kernel
theorem dX4_word_128 : decode cX4_word 128 = .ok (.iastore, 1) := by decide +kernel
theorem dX4_word_129 : decode cX4_word 129 = .ok (.aload_n 0, 1) := by decide +kernel
theorem dX4_word_130 : decode cX4_word 130 = .ok (.dup, 1) := by decide +kernel
theorem dX4_word_131 : decode cX4_word 131 = .ok (.getfield 65, 3) := by decide +kernel
theorem dX4_word_134 : decode cX4_word 134 = .ok (.iconst 1, 1) := by decide +kernel
theorem dX4_word_135 : decode cX4_word 135 = .ok (.iadd, 1) := by decide +kernel
theorem dX4_word_136 : decode cX4_word 136 = .ok (.putfield 65, 3) := by decide +kernel
theorem dX4_word_139 : decode cX4_word 139 = .ok (.aload_n 0, 1) := by decide +kernel
theorem dX4_word_140 : decode cX4_word 140 = .ok (.getfield 65, 3) := by decide +kernel
theorem dX4_word_143 : decode cX4_word 143 = .ok (.iconst 1, 1) := by decide +kernel
theorem dX4_word_144 : decode cX4_word 144 = .ok (.isub, 1) := by decide +kernel
theorem dX4_word_145 : decode cX4_word 145 = .ok (.ireturn, 1) := by decide +kernel
theorem dX4_aboutTold_0 : decode cX4_aboutTold 0 = .ok (.iconst 0, 1) := by decide +kernel
theorem dX4_aboutTold_1 : decode cX4_aboutTold 1 = .ok (.istore_n 3, 1) := by decide +kernel
theorem dX4_aboutTold_2 : decode cX4_aboutTold 2 = .ok (.iconst 0, 1) := by decide +kernel
theorem dX4_aboutTold_3 : decode cX4_aboutTold 3 = .ok (.istore 4, 2) := by decide +kernel
theorem dX4_aboutTold_5 : decode cX4_aboutTold 5 = .ok (.iload 4, 2) := by decide +kernel
theorem dX4_aboutTold_7 : decode cX4_aboutTold 7 = .ok (.aload_n 0, 1) := by decide +kernel
theorem dX4_aboutTold_8 : decode cX4_aboutTold 8 = .ok (.getfield 72, 3) := by decide +kernel
theorem dX4_aboutTold_11 : decode cX4_aboutTold 11 = .ok (.if_icmp .ge 55, 3) := by decide +kernel
theorem dX4_aboutTold_14 : decode cX4_aboutTold 14 = .ok (.iconst 0, 1) := by decide +kernel
theorem dX4_aboutTold_15 : decode cX4_aboutTold 15 = .ok (.istore 5, 2) := by decide +kernel
theorem dX4_aboutTold_17 : decode cX4_aboutTold 17 = .ok (.iload 5, 2) := by decide +kernel
theorem dX4_aboutTold_19 : decode cX4_aboutTold 19 = .ok (.aload_n 0, 1) := by decide +kernel
theorem dX4_aboutTold_20 : decode cX4_aboutTold 20 = .ok (.getfield 34, 3) := by decide +kernel
theorem dX4_aboutTold_23 : decode cX4_aboutTold 23 = .ok (.iload 4, 2) := by decide +kernel
theorem dX4_aboutTold_25 : decode cX4_aboutTold 25 = .ok (.iaload, 1) := by decide +kernel
theorem dX4_aboutTold_26 : decode cX4_aboutTold 26 = .ok (.if_icmp .ge 34, 3) := by decide +kernel
theorem dX4_aboutTold_29 : decode cX4_aboutTold 29 = .ok (.iload_n 3, 1) := by decide +kernel
theorem dX4_aboutTold_30 : decode cX4_aboutTold 30 = .ok (.aload_n 0, 1) := by decide +kernel
theorem dX4_aboutTold_31 : decode cX4_aboutTold 31 = .ok (.getfield 37, 3) := by decide +kernel
theorem dX4_aboutTold_34 : decode cX4_aboutTold 34 = .ok (.bipush 8, 2) := by decide +kernel
theorem dX4_aboutTold_36 : decode cX4_aboutTold 36 = .ok (.iload 4, 2) := by decide +kernel
theorem dX4_aboutTold_38 : decode cX4_aboutTold 38 = .ok (.imul, 1) := by decide +kernel
theorem dX4_aboutTold_39 : decode cX4_aboutTold 39 = .ok (.iload 5, 2) := by decide +kernel
theorem dX4_aboutTold_41 : decode cX4_aboutTold 41 = .ok (.iadd, 1) := by decide +kernel
theorem dX4_aboutTold_42 : decode cX4_aboutTold 42 = .ok (.iaload, 1) := by decide +kernel
theorem dX4_aboutTold_43 : decode cX4_aboutTold 43 = .ok (.iload_n 1, 1) := by decide +kernel
theorem dX4_aboutTold_44 : decode cX4_aboutTold 44 = .ok (.if_icmp .ne 7, 3) := by decide +kernel
theorem dX4_aboutTold_47 : decode cX4_aboutTold 47 = .ok (.iconst 1, 1) := by decide +kernel
theorem dX4_aboutTold_48 : decode cX4_aboutTold 48 = .ok (.goto 4, 3) := by decide +kernel
theorem dX4_aboutTold_51 : decode cX4_aboutTold 51 = .ok (.iconst 0, 1) := by decide +kernel
theorem dX4_aboutTold_52 : decode cX4_aboutTold 52 = .ok (.iadd, 1) := by decide +kernel
theorem dX4_aboutTold_53 : decode cX4_aboutTold 53 = .ok (.istore_n 3, 1) := by decide +kernel
theorem dX4_aboutTold_54 : decode cX4_aboutTold 54 = .ok (.iinc 5 1, 3) := by decide +kernel
theorem dX4_aboutTold_57 : decode cX4_aboutTold 57 = .ok (.goto (-40), 3) := by decide +kernel
theorem dX4_aboutTold_60 : decode cX4_aboutTold 60 = .ok (.iinc 4 1, 3) := by decide +kernel
theorem dX4_aboutTold_63 : decode cX4_aboutTold 63 = .ok (.goto (-58), 3) := by decide +kernel
theorem dX4_aboutTold_66 : decode cX4_aboutTold 66 = .ok (.bipush 6, 2) := by decide +kernel
theorem dX4_aboutTold_68 : decode cX4_aboutTold 68 = .ok (.newarray .int, 2) := by decide +kernel
theorem dX4_aboutTold_70 : decode cX4_aboutTold 70 = .ok (.dup, 1) := by decide +kernel
theorem dX4_aboutTold_71 : decode cX4_aboutTold 71 = .ok (.iconst 0, 1) := by decide +kernel
theorem dX4_aboutTold_72 : decode cX4_aboutTold 72 = .ok (.aload_n 0, 1) := by decide +kernel
theorem dX4_aboutTold_73 : decode cX4_aboutTold 73 = .ok (.getfield 9, 3) := by decide +kernel
theorem dX4_aboutTold_76 : decode cX4_aboutTold 76 = .ok (.iload_n 1, 1) := by decide +kernel
theorem dX4_aboutTold_77 : decode cX4_aboutTold 77 = .ok (.iaload, 1) := by decide +kernel
theorem dX4_aboutTold_78 : decode cX4_aboutTold 78 = .ok (.iastore, 1) := by decide +kernel
theorem dX4_aboutTold_79 : decode cX4_aboutTold 79 = .ok (.dup, 1) := by decide +kernel
theorem dX4_aboutTold_80 : decode cX4_aboutTold 80 = .ok (.iconst 1, 1) := by decide +kernel
theorem dX4_aboutTold_81 : decode cX4_aboutTold 81 = .ok (.aload_n 0, 1) := by decide +kernel
theorem dX4_aboutTold_82 : decode cX4_aboutTold 82 = .ok (.getfield 13, 3) := by decide +kernel
theorem dX4_aboutTold_85 : decode cX4_aboutTold 85 = .ok (.iload_n 1, 1) := by decide +kernel
theorem dX4_aboutTold_86 : decode cX4_aboutTold 86 = .ok (.iaload, 1) := by decide +kernel
theorem dX4_aboutTold_87 : decode cX4_aboutTold 87 = .ok (.iastore, 1) := by decide +kernel
theorem dX4_aboutTold_88 : decode cX4_aboutTold 88 = .ok (.dup, 1) := by decide +kernel
theorem dX4_aboutTold_89 : decode cX4_aboutTold 89 = .ok (.iconst 2, 1) := by decide +kernel
theorem dX4_aboutTold_90 : decode cX4_aboutTold 90 = .ok (.aload_n 0, 1) := by decide +kernel
theorem dX4_aboutTold_91 : decode cX4_aboutTold 91 = .ok (.getfield 16, 3) := by decide +kernel
theorem dX4_aboutTold_94 : decode cX4_aboutTold 94 = .ok (.iload_n 1, 1) := by decide +kernel
theorem dX4_aboutTold_95 : decode cX4_aboutTold 95 = .ok (.iaload, 1) := by decide +kernel
theorem dX4_aboutTold_96 : decode cX4_aboutTold 96 = .ok (.iastore, 1) := by decide +kernel
theorem dX4_aboutTold_97 : decode cX4_aboutTold 97 = .ok (.dup, 1) := by decide +kernel
theorem dX4_aboutTold_98 : decode cX4_aboutTold 98 = .ok (.iconst 3, 1) := by decide +kernel
theorem dX4_aboutTold_99 : decode cX4_aboutTold 99 = .ok (.aload_n 0, 1) := by decide +kernel
theorem dX4_aboutTold_100 : decode cX4_aboutTold 100 = .ok (.getfield 19, 3) := by decide +kernel
theorem dX4_aboutTold_103 : decode cX4_aboutTold 103 = .ok (.iload_n 1, 1) := by decide +kernel
theorem dX4_aboutTold_104 : decode cX4_aboutTold 104 = .ok (.iaload, 1) := by decide +kernel
theorem dX4_aboutTold_105 : decode cX4_aboutTold 105 = .ok (.iastore, 1) := by decide +kernel
theorem dX4_aboutTold_106 : decode cX4_aboutTold 106 = .ok (.dup, 1) := by decide +kernel
theorem dX4_aboutTold_107 : decode cX4_aboutTold 107 = .ok (.iconst 4, 1) := by decide +kernel
theorem dX4_aboutTold_108 : decode cX4_aboutTold 108 = .ok (.aload_n 0, 1) := by decide +kernel
theorem dX4_aboutTold_109 : decode cX4_aboutTold 109 = .ok (.getfield 22, 3) := by decide +kernel
theorem dX4_aboutTold_112 : decode cX4_aboutTold 112 = .ok (.iload_n 1, 1) := by decide +kernel
theorem dX4_aboutTold_113 : decode cX4_aboutTold 113 = .ok (.iaload, 1) := by decide +kernel
theorem dX4_aboutTold_114 : decode cX4_aboutTold 114 = .ok (.iastore, 1) := by decide +kernel
theorem dX4_aboutTold_115 : decode cX4_aboutTold 115 = .ok (.dup, 1) := by decide +kernel
theorem dX4_aboutTold_116 : decode cX4_aboutTold 116 = .ok (.iconst 5, 1) := by decide +kernel
theorem dX4_aboutTold_117 : decode cX4_aboutTold 117 = .ok (.iload_n 3, 1) := by decide +kernel
theorem dX4_aboutTold_118 : decode cX4_aboutTold 118 = .ok (.iastore, 1) := by decide +kernel
theorem dX4_aboutTold_119 : decode cX4_aboutTold 119 = .ok (.astore 4, 2) := by decide +kernel
theorem dX4_aboutTold_121 : decode cX4_aboutTold 121 = .ok (.aload 4, 2) := by decide +kernel
theorem dX4_aboutTold_123 : decode cX4_aboutTold 123 = .ok (.iload_n 2, 1) := by decide +kernel
theorem dX4_aboutTold_124 : decode cX4_aboutTold 124 = .ok (.iaload, 1) := by decide +kernel
theorem dX4_aboutTold_125 : decode cX4_aboutTold 125 = .ok (.ireturn, 1) := by decide +kernel
theorem dX4_about_0 : decode cX4_about 0 = .ok (.aload_n 0, 1) := by decide +kernel
theorem dX4_about_1 : decode cX4_about 1 = .ok (.iconst 0, 1) := by decide +kernel
theorem dX4_about_2 : decode cX4_about 2 = .ok (.putfield 61, 3) := by decide +kernel
theorem dX4_about_5 : decode cX4_about 5 = .ok (.aload_n 0, 1) := by decide +kernel
theorem dX4_about_6 : decode cX4_about 6 = .ok (.iload_n 1, 1) := by decide +kernel
theorem dX4_about_7 : decode cX4_about 7 = .ok (.invokevirtual 79, 3) := by decide +kernel
theorem dX4_about_10 : decode cX4_about 10 = .ok (.ifCond .eq 21, 3) := by decide +kernel
theorem dX4_about_13 : decode cX4_about 13 = .ok (.iload_n 2, 1) := by decide +kernel
theorem dX4_about_14 : decode cX4_about 14 = .ok (.iconst 0, 1) := by decide +kernel
theorem dX4_about_15 : decode cX4_about 15 = .ok (.iconst 5, 1) := by decide +kernel
theorem dX4_about_16 : decode cX4_about 16 = .ok (.invokestatic 68, 3) := by decide +kernel
theorem dX4_about_19 : decode cX4_about 19 = .ok (.ifCond .eq 12, 3) := by decide +kernel
theorem dX4_about_22 : decode cX4_about 22 = .ok (.aload_n 0, 1) := by decide +kernel
theorem dX4_about_23 : decode cX4_about 23 = .ok (.iload_n 1, 1) := by decide +kernel
theorem dX4_about_24 : decode cX4_about 24 = .ok (.iload_n 2, 1) := by decide +kernel
theorem dX4_about_25 : decode cX4_about 25 = .ok (.invokevirtual 83, 3) := by decide +kernel
theorem dX4_about_28 : decode cX4_about 28 = .ok (.goto 8, 3) := by decide +kernel
theorem dX4_about_31 : decode cX4_about 31 = .ok (.aload_n 0, 1) := by decide +kernel
theorem dX4_about_32 : decode cX4_about 32 = .ok (.iconst 1, 1) := by decide +kernel
theorem dX4_about_33 : decode cX4_about 33 = .ok (.invokevirtual 75, 3) := by decide +kernel
theorem dX4_about_36 : decode cX4_about 36 = .ok (.ireturn, 1) := by decide +kernel
theorem dX4_line_0 : decode cX4_line 0 = .ok (.aload_n 0, 1) := by decide +kernel
theorem dX4_line_1 : decode cX4_line 1 = .ok (.iconst 0, 1) := by decide +kernel
theorem dX4_line_2 : decode cX4_line 2 = .ok (.putfield 61, 3) := by decide +kernel
theorem dX4_line_5 : decode cX4_line 5 = .ok (.iload_n 1, 1) := by decide +kernel
theorem dX4_line_6 : decode cX4_line 6 = .ok (.iconst 0, 1) := by decide +kernel
theorem dX4_line_7 : decode cX4_line 7 = .ok (.iconst 3, 1) := by decide +kernel
theorem dX4_line_8 : decode cX4_line 8 = .ok (.invokestatic 68, 3) := by decide +kernel
theorem dX4_line_11 : decode cX4_line 11 = .ok (.ifCond .eq 22, 3) := by decide +kernel
theorem dX4_line_14 : decode cX4_line 14 = .ok (.iload_n 2, 1) := by decide +kernel
theorem dX4_line_15 : decode cX4_line 15 = .ok (.iconst 1, 1) := by decide +kernel
theorem dX4_line_16 : decode cX4_line 16 = .ok (.bipush 6, 2) := by decide +kernel
theorem dX4_line_18 : decode cX4_line 18 = .ok (.invokestatic 68, 3) := by decide +kernel
theorem dX4_line_21 : decode cX4_line 21 = .ok (.ifCond .eq 12, 3) := by decide +kernel
theorem dX4_line_24 : decode cX4_line 24 = .ok (.iload_n 3, 1) := by decide +kernel
theorem dX4_line_25 : decode cX4_line 25 = .ok (.iconst 0, 1) := by decide +kernel
theorem dX4_line_26 : decode cX4_line 26 = .ok (.iconst 5, 1) := by decide +kernel
theorem dX4_line_27 : decode cX4_line 27 = .ok (.invokestatic 68, 3) := by decide +kernel
theorem dX4_line_30 : decode cX4_line 30 = .ok (.ifCond .ne 9, 3) := by decide +kernel
theorem dX4_line_33 : decode cX4_line 33 = .ok (.aload_n 0, 1) := by decide +kernel
theorem dX4_line_34 : decode cX4_line 34 = .ok (.iconst 1, 1) := by decide +kernel
theorem dX4_line_35 : decode cX4_line 35 = .ok (.invokevirtual 75, 3) := by decide +kernel
theorem dX4_line_38 : decode cX4_line 38 = .ok (.ireturn, 1) := by decide +kernel
theorem dX4_line_39 : decode cX4_line 39 = .ok (.aload_n 0, 1) := by decide +kernel
theorem dX4_line_40 : decode cX4_line 40 = .ok (.getfield 72, 3) := by decide +kernel
theorem dX4_line_43 : decode cX4_line 43 = .ok (.bipush 10, 2) := by decide +kernel
theorem dX4_line_45 : decode cX4_line 45 = .ok (.if_icmp .ne 9, 3) := by decide +kernel
theorem dX4_line_48 : decode cX4_line 48 = .ok (.aload_n 0, 1) := by decide +kernel
theorem dX4_line_49 : decode cX4_line 49 = .ok (.iconst 2, 1) := by decide +kernel
theorem dX4_line_50 : decode cX4_line 50 = .ok (.invokevirtual 75, 3) := by decide +kernel
theorem dX4_line_53 : decode cX4_line 53 = .ok (.ireturn, 1) := by decide +kernel
theorem dX4_line_54 : decode cX4_line 54 = .ok (.aload_n 0, 1) := by decide +kernel
theorem dX4_line_55 : decode cX4_line 55 = .ok (.getfield 25, 3) := by decide +kernel
theorem dX4_line_58 : decode cX4_line 58 = .ok (.aload_n 0, 1) := by decide +kernel
theorem dX4_line_59 : decode cX4_line 59 = .ok (.getfield 72, 3) := by decide +kernel
theorem dX4_line_62 : decode cX4_line 62 = .ok (.iload_n 1, 1) := by decide +kernel
theorem dX4_line_63 : decode cX4_line 63 = .ok (.iastore, 1) := by decide +kernel
theorem dX4_line_64 : decode cX4_line 64 = .ok (.aload_n 0, 1) := by decide +kernel
theorem dX4_line_65 : decode cX4_line 65 = .ok (.getfield 28, 3) := by decide +kernel
theorem dX4_line_68 : decode cX4_line 68 = .ok (.aload_n 0, 1) := by decide +kernel
theorem dX4_line_69 : decode cX4_line 69 = .ok (.getfield 72, 3) := by decide +kernel
theorem dX4_line_72 : decode cX4_line 72 = .ok (.iload_n 2, 1) := by decide +kernel
theorem dX4_line_73 : decode cX4_line 73 = .ok (.iastore, 1) := by decide +kernel
theorem dX4_line_74 : decode cX4_line 74 = .ok (.aload_n 0, 1) := by decide +kernel
theorem dX4_line_75 : decode cX4_line 75 = .ok (.getfield 31, 3) := by decide +kernel
theorem dX4_line_78 : decode cX4_line 78 = .ok (.aload_n 0, 1) := by decide +kernel
theorem dX4_line_79 : decode cX4_line 79 = .ok (.getfield 72, 3) := by decide +kernel
theorem dX4_line_82 : decode cX4_line 82 = .ok (.iload_n 3, 1) := by decide +kernel
theorem dX4_line_83 : decode cX4_line 83 = .ok (.iastore, 1) := by decide +kernel
theorem dX4_line_84 : decode cX4_line 84 = .ok (.aload_n 0, 1) := by decide +kernel
theorem dX4_line_85 : decode cX4_line 85 = .ok (.dup, 1) := by decide +kernel
theorem dX4_line_86 : decode cX4_line 86 = .ok (.getfield 72, 3) := by decide +kernel
theorem dX4_line_89 : decode cX4_line 89 = .ok (.iconst 1, 1) := by decide +kernel
theorem dX4_line_90 : decode cX4_line 90 = .ok (.iadd, 1) := by decide +kernel
theorem dX4_line_91 : decode cX4_line 91 = .ok (.putfield 72, 3) := by decide +kernel
theorem dX4_line_94 : decode cX4_line 94 = .ok (.aload_n 0, 1) := by decide +kernel
theorem dX4_line_95 : decode cX4_line 95 = .ok (.getfield 72, 3) := by decide +kernel
theorem dX4_line_98 : decode cX4_line 98 = .ok (.iconst 1, 1) := by decide +kernel
theorem dX4_line_99 : decode cX4_line 99 = .ok (.isub, 1) := by decide +kernel
theorem dX4_line_100 : decode cX4_line 100 = .ok (.ireturn, 1) := by decide +kernel
theorem dX4_write_0 : decode cX4_write 0 = .ok (.aload_n 0, 1) := by decide +kernel
theorem dX4_write_1 : decode cX4_write 1 = .ok (.iconst 0, 1) := by decide +kernel
theorem dX4_write_2 : decode cX4_write 2 = .ok (.putfield 61, 3) := by decide +kernel
theorem dX4_write_5 : decode cX4_write 5 = .ok (.aload_n 0, 1) := by decide +kernel
theorem dX4_write_6 : decode cX4_write 6 = .ok (.iload_n 1, 1) := by decide +kernel
theorem dX4_write_7 : decode cX4_write 7 = .ok (.invokevirtual 87, 3) := by decide +kernel
theorem dX4_write_10 : decode cX4_write 10 = .ok (.ifCond .eq 25, 3) := by decide +kernel
theorem dX4_write_13 : decode cX4_write 13 = .ok (.iload_n 2, 1) := by decide +kernel
theorem dX4_write_14 : decode cX4_write 14 = .ok (.iconst 0, 1) := by decide +kernel
theorem dX4_write_15 : decode cX4_write 15 = .ok (.aload_n 0, 1) := by decide +kernel
theorem dX4_write_16 : decode cX4_write 16 = .ok (.getfield 34, 3) := by decide +kernel
theorem dX4_write_19 : decode cX4_write 19 = .ok (.iload_n 1, 1) := by decide +kernel
theorem dX4_write_20 : decode cX4_write 20 = .ok (.iaload, 1) := by decide +kernel
theorem dX4_write_21 : decode cX4_write 21 = .ok (.invokestatic 68, 3) := by decide +kernel
theorem dX4_write_24 : decode cX4_write 24 = .ok (.ifCond .eq 11, 3) := by decide +kernel
theorem dX4_write_27 : decode cX4_write 27 = .ok (.aload_n 0, 1) := by decide +kernel
theorem dX4_write_28 : decode cX4_write 28 = .ok (.iload_n 3, 1) := by decide +kernel
theorem dX4_write_29 : decode cX4_write 29 = .ok (.invokevirtual 79, 3) := by decide +kernel
theorem dX4_write_32 : decode cX4_write 32 = .ok (.ifCond .ne 9, 3) := by decide +kernel
theorem dX4_write_35 : decode cX4_write 35 = .ok (.aload_n 0, 1) := by decide +kernel
theorem dX4_write_36 : decode cX4_write 36 = .ok (.iconst 1, 1) := by decide +kernel
theorem dX4_write_37 : decode cX4_write 37 = .ok (.invokevirtual 75, 3) := by decide +kernel
theorem dX4_write_40 : decode cX4_write 40 = .ok (.ireturn, 1) := by decide +kernel
theorem dX4_write_41 : decode cX4_write 41 = .ok (.iload_n 2, 1) := by decide +kernel
theorem dX4_write_42 : decode cX4_write 42 = .ok (.bipush 8, 2) := by decide +kernel
theorem dX4_write_44 : decode cX4_write 44 = .ok (.if_icmp .ne 9, 3) := by decide +kernel
theorem dX4_write_47 : decode cX4_write 47 = .ok (.aload_n 0, 1) := by decide +kernel
theorem dX4_write_48 : decode cX4_write 48 = .ok (.iconst 2, 1) := by decide +kernel
theorem dX4_write_49 : decode cX4_write 49 = .ok (.invokevirtual 75, 3) := by decide +kernel
theorem dX4_write_52 : decode cX4_write 52 = .ok (.ireturn, 1) := by decide +kernel
theorem dX4_write_53 : decode cX4_write 53 = .ok (.aload_n 0, 1) := by decide +kernel
theorem dX4_write_54 : decode cX4_write 54 = .ok (.getfield 37, 3) := by decide +kernel
theorem dX4_write_57 : decode cX4_write 57 = .ok (.bipush 8, 2) := by decide +kernel
theorem dX4_write_59 : decode cX4_write 59 = .ok (.iload_n 1, 1) := by decide +kernel
theorem dX4_write_60 : decode cX4_write 60 = .ok (.imul, 1) := by decide +kernel
theorem dX4_write_61 : decode cX4_write 61 = .ok (.iload_n 2, 1) := by decide +kernel
theorem dX4_write_62 : decode cX4_write 62 = .ok (.iadd, 1) := by decide +kernel
theorem dX4_write_63 : decode cX4_write 63 = .ok (.iload_n 3, 1) := by decide +kernel
theorem dX4_write_64 : decode cX4_write 64 = .ok (.iastore, 1) := by decide +kernel
theorem dX4_write_65 : decode cX4_write 65 = .ok (.iload_n 2, 1) := by decide +kernel
theorem dX4_write_66 : decode cX4_write 66 = .ok (.aload_n 0, 1) := by decide +kernel
theorem dX4_write_67 : decode cX4_write 67 = .ok (.getfield 34, 3) := by decide +kernel
theorem dX4_write_70 : decode cX4_write 70 = .ok (.iload_n 1, 1) := by decide +kernel
theorem dX4_write_71 : decode cX4_write 71 = .ok (.iaload, 1) := by decide +kernel
theorem dX4_write_72 : decode cX4_write 72 = .ok (.if_icmp .ne 13, 3) := by decide +kernel
theorem dX4_write_75 : decode cX4_write 75 = .ok (.aload_n 0, 1) := by decide +kernel
theorem dX4_write_76 : decode cX4_write 76 = .ok (.getfield 34, 3) := by decide +kernel
theorem dX4_write_79 : decode cX4_write 79 = .ok (.iload_n 1, 1) := by decide +kernel
theorem dX4_write_80 : decode cX4_write 80 = .ok (.dup2, 1) := by decide +kernel
theorem dX4_write_81 : decode cX4_write 81 = .ok (.iaload, 1) := by decide +kernel
theorem dX4_write_82 : decode cX4_write 82 = .ok (.iconst 1, 1) := by decide +kernel
theorem dX4_write_83 : decode cX4_write 83 = .ok (.iadd, 1) := by decide +kernel
theorem dX4_write_84 : decode cX4_write 84 = .ok (.iastore, 1) := by decide +kernel
theorem dX4_write_85 : decode cX4_write 85 = .ok (.aload_n 0, 1) := by decide +kernel
theorem dX4_write_86 : decode cX4_write 86 = .ok (.getfield 34, 3) := by decide +kernel
theorem dX4_write_89 : decode cX4_write 89 = .ok (.iload_n 1, 1) := by decide +kernel
theorem dX4_write_90 : decode cX4_write 90 = .ok (.iaload, 1) := by decide +kernel
theorem dX4_write_91 : decode cX4_write 91 = .ok (.ireturn, 1) := by decide +kernel
theorem dX4_strike_0 : decode cX4_strike 0 = .ok (.aload_n 0, 1) := by decide +kernel
theorem dX4_strike_1 : decode cX4_strike 1 = .ok (.iconst 0, 1) := by decide +kernel
theorem dX4_strike_2 : decode cX4_strike 2 = .ok (.putfield 61, 3) := by decide +kernel
theorem dX4_strike_5 : decode cX4_strike 5 = .ok (.aload_n 0, 1) := by decide +kernel
theorem dX4_strike_6 : decode cX4_strike 6 = .ok (.iload_n 1, 1) := by decide +kernel
theorem dX4_strike_7 : decode cX4_strike 7 = .ok (.invokevirtual 87, 3) := by decide +kernel
theorem dX4_strike_10 : decode cX4_strike 10 = .ok (.ifCond .ne 9, 3) := by decide +kernel
theorem dX4_strike_13 : decode cX4_strike 13 = .ok (.aload_n 0, 1) := by decide +kernel
theorem dX4_strike_14 : decode cX4_strike 14 = .ok (.iconst 1, 1) := by decide +kernel
theorem dX4_strike_15 : decode cX4_strike 15 = .ok (.invokevirtual 75, 3) := by decide +kernel
theorem dX4_strike_18 : decode cX4_strike 18 = .ok (.ireturn, 1) := by decide +kernel
theorem dX4_strike_19 : decode cX4_strike 19 = .ok (.aload_n 0, 1) := by decide +kernel
theorem dX4_strike_20 : decode cX4_strike 20 = .ok (.getfield 34, 3) := by decide +kernel
theorem dX4_strike_23 : decode cX4_strike 23 = .ok (.iload_n 1, 1) := by decide +kernel
theorem dX4_strike_24 : decode cX4_strike 24 = .ok (.iaload, 1) := by decide +kernel
theorem dX4_strike_25 : decode cX4_strike 25 = .ok (.ifCond .ne 9, 3) := by decide +kernel
theorem dX4_strike_28 : decode cX4_strike 28 = .ok (.aload_n 0, 1) := by decide +kernel
theorem dX4_strike_29 : decode cX4_strike 29 = .ok (.iconst 2, 1) := by decide +kernel
theorem dX4_strike_30 : decode cX4_strike 30 = .ok (.invokevirtual 75, 3) := by decide +kernel
theorem dX4_strike_33 : decode cX4_strike 33 = .ok (.ireturn, 1) := by decide +kernel
theorem dX4_strike_34 : decode cX4_strike 34 = .ok (.aload_n 0, 1) := by decide +kernel
theorem dX4_strike_35 : decode cX4_strike 35 = .ok (.getfield 34, 3) := by decide +kernel
theorem dX4_strike_38 : decode cX4_strike 38 = .ok (.iload_n 1, 1) := by decide +kernel
theorem dX4_strike_39 : decode cX4_strike 39 = .ok (.dup2, 1) := by decide +kernel
theorem dX4_strike_40 : decode cX4_strike 40 = .ok (.iaload, 1) := by decide +kernel
theorem dX4_strike_41 : decode cX4_strike 41 = .ok (.iconst 1, 1) := by decide +kernel
theorem dX4_strike_42 : decode cX4_strike 42 = .ok (.isub, 1) := by decide +kernel
theorem dX4_strike_43 : decode cX4_strike 43 = .ok (.iastore, 1) := by decide +kernel
theorem dX4_strike_44 : decode cX4_strike 44 = .ok (.aload_n 0, 1) := by decide +kernel
theorem dX4_strike_45 : decode cX4_strike 45 = .ok (.getfield 37, 3) := by decide +kernel
theorem dX4_strike_48 : decode cX4_strike 48 = .ok (.bipush 8, 2) := by decide +kernel
theorem dX4_strike_50 : decode cX4_strike 50 = .ok (.iload_n 1, 1) := by decide +kernel
theorem dX4_strike_51 : decode cX4_strike 51 = .ok (.imul, 1) := by decide +kernel
theorem dX4_strike_52 : decode cX4_strike 52 = .ok (.aload_n 0, 1) := by decide +kernel
theorem dX4_strike_53 : decode cX4_strike 53 = .ok (.getfield 34, 3) := by decide +kernel
theorem dX4_strike_56 : decode cX4_strike 56 = .ok (.iload_n 1, 1) := by decide +kernel
theorem dX4_strike_57 : decode cX4_strike 57 = .ok (.iaload, 1) := by decide +kernel
theorem dX4_strike_58 : decode cX4_strike 58 = .ok (.iadd, 1) := by decide +kernel
theorem dX4_strike_59 : decode cX4_strike 59 = .ok (.iaload, 1) := by decide +kernel
theorem dX4_strike_60 : decode cX4_strike 60 = .ok (.ireturn, 1) := by decide +kernel
theorem dX4_written_0 : decode cX4_written 0 = .ok (.aload_n 0, 1) := by decide +kernel
theorem dX4_written_1 : decode cX4_written 1 = .ok (.iconst 0, 1) := by decide +kernel
theorem dX4_written_2 : decode cX4_written 2 = .ok (.putfield 61, 3) := by decide +kernel
theorem dX4_written_5 : decode cX4_written 5 = .ok (.aload_n 0, 1) := by decide +kernel
theorem dX4_written_6 : decode cX4_written 6 = .ok (.iload_n 1, 1) := by decide +kernel
theorem dX4_written_7 : decode cX4_written 7 = .ok (.invokevirtual 87, 3) := by decide +kernel
theorem dX4_written_10 : decode cX4_written 10 = .ok (.ifCond .eq 33, 3) := by decide +kernel
theorem dX4_written_13 : decode cX4_written 13 = .ok (.iload_n 2, 1) := by decide +kernel
theorem dX4_written_14 : decode cX4_written 14 = .ok (.iconst 0, 1) := by decide +kernel
theorem dX4_written_15 : decode cX4_written 15 = .ok (.aload_n 0, 1) := by decide +kernel
theorem dX4_written_16 : decode cX4_written 16 = .ok (.getfield 34, 3) := by decide +kernel
theorem dX4_written_19 : decode cX4_written 19 = .ok (.iload_n 1, 1) := by decide +kernel
theorem dX4_written_20 : decode cX4_written 20 = .ok (.iaload, 1) := by decide +kernel
theorem dX4_written_21 : decode cX4_written 21 = .ok (.iconst 1, 1) := by decide +kernel
theorem dX4_written_22 : decode cX4_written 22 = .ok (.isub, 1) := by decide +kernel
theorem dX4_written_23 : decode cX4_written 23 = .ok (.invokestatic 68, 3) := by decide +kernel
theorem dX4_written_26 : decode cX4_written 26 = .ok (.ifCond .eq 17, 3) := by decide +kernel
theorem dX4_written_29 : decode cX4_written 29 = .ok (.aload_n 0, 1) := by decide +kernel
theorem dX4_written_30 : decode cX4_written 30 = .ok (.getfield 37, 3) := by decide +kernel
theorem dX4_written_33 : decode cX4_written 33 = .ok (.bipush 8, 2) := by decide +kernel
theorem dX4_written_35 : decode cX4_written 35 = .ok (.iload_n 1, 1) := by decide +kernel
theorem dX4_written_36 : decode cX4_written 36 = .ok (.imul, 1) := by decide +kernel
theorem dX4_written_37 : decode cX4_written 37 = .ok (.iload_n 2, 1) := by decide +kernel
theorem dX4_written_38 : decode cX4_written 38 = .ok (.iadd, 1) := by decide +kernel
theorem dX4_written_39 : decode cX4_written 39 = .ok (.iaload, 1) := by decide +kernel
theorem dX4_written_40 : decode cX4_written 40 = .ok (.goto 8, 3) := by decide +kernel
theorem dX4_written_43 : decode cX4_written 43 = .ok (.aload_n 0, 1) := by decide +kernel
theorem dX4_written_44 : decode cX4_written 44 = .ok (.iconst 1, 1) := by decide +kernel
theorem dX4_written_45 : decode cX4_written 45 = .ok (.invokevirtual 75, 3) := by decide +kernel
theorem dX4_written_48 : decode cX4_written 48 = .ok (.ireturn, 1) := by decide +kernel
theorem dX4_melts_0 : decode cX4_melts 0 = .ok (.iload_n 2, 1) := by decide +kernel
theorem dX4_melts_1 : decode cX4_melts 1 = .ok (.ifCond .le 48, 3) := by decide +kernel
theorem dX4_melts_4 : decode cX4_melts 4 = .ok (.aload_n 0, 1) := by decide +kernel
theorem dX4_melts_5 : decode cX4_melts 5 = .ok (.getfield 19, 3) := by decide +kernel
theorem dX4_melts_8 : decode cX4_melts 8 = .ok (.aload_n 0, 1) := by decide +kernel
theorem dX4_melts_9 : decode cX4_melts 9 = .ok (.getfield 37, 3) := by decide +kernel
theorem dX4_melts_12 : decode cX4_melts 12 = .ok (.bipush 8, 2) := by decide +kernel
theorem dX4_melts_14 : decode cX4_melts 14 = .ok (.iload_n 1, 1) := by decide +kernel
theorem dX4_melts_15 : decode cX4_melts 15 = .ok (.imul, 1) := by decide +kernel
theorem dX4_melts_16 : decode cX4_melts 16 = .ok (.iload_n 2, 1) := by decide +kernel
theorem dX4_melts_17 : decode cX4_melts 17 = .ok (.iadd, 1) := by decide +kernel
theorem dX4_melts_18 : decode cX4_melts 18 = .ok (.iconst 1, 1) := by decide +kernel
theorem dX4_melts_19 : decode cX4_melts 19 = .ok (.isub, 1) := by decide +kernel
theorem dX4_melts_20 : decode cX4_melts 20 = .ok (.iaload, 1) := by decide +kernel
theorem dX4_melts_21 : decode cX4_melts 21 = .ok (.iaload, 1) := by decide +kernel
theorem dX4_melts_22 : decode cX4_melts 22 = .ok (.ifCond .ne 27, 3) := by decide +kernel
theorem dX4_melts_25 : decode cX4_melts 25 = .ok (.aload_n 0, 1) := by decide +kernel
theorem dX4_melts_26 : decode cX4_melts 26 = .ok (.getfield 22, 3) := by decide +kernel
theorem dX4_melts_29 : decode cX4_melts 29 = .ok (.aload_n 0, 1) := by decide +kernel
theorem dX4_melts_30 : decode cX4_melts 30 = .ok (.getfield 37, 3) := by decide +kernel
theorem dX4_melts_33 : decode cX4_melts 33 = .ok (.bipush 8, 2) := by decide +kernel
theorem dX4_melts_35 : decode cX4_melts 35 = .ok (.iload_n 1, 1) := by decide +kernel
theorem dX4_melts_36 : decode cX4_melts 36 = .ok (.imul, 1) := by decide +kernel
theorem dX4_melts_37 : decode cX4_melts 37 = .ok (.iload_n 2, 1) := by decide +kernel
theorem dX4_melts_38 : decode cX4_melts 38 = .ok (.iadd, 1) := by decide +kernel
theorem dX4_melts_39 : decode cX4_melts 39 = .ok (.iaload, 1) := by decide +kernel
theorem dX4_melts_40 : decode cX4_melts 40 = .ok (.iaload, 1) := by decide +kernel
theorem dX4_melts_41 : decode cX4_melts 41 = .ok (.iconst 1, 1) := by decide +kernel
theorem dX4_melts_42 : decode cX4_melts 42 = .ok (.if_icmp .ne 7, 3) := by decide +kernel
theorem dX4_melts_45 : decode cX4_melts 45 = .ok (.iconst 1, 1) := by decide +kernel
theorem dX4_melts_46 : decode cX4_melts 46 = .ok (.goto 4, 3) := by decide +kernel
theorem dX4_melts_49 : decode cX4_melts 49 = .ok (.iconst 0, 1) := by decide +kernel
theorem dX4_melts_50 : decode cX4_melts 50 = .ok (.ireturn, 1) := by decide +kernel
theorem dX4_putOwn_0 : decode cX4_putOwn 0 = .ok (.iload_n 2, 1) := by decide +kernel
theorem dX4_putOwn_1 : decode cX4_putOwn 1 = .ok (.istore_n 3, 1) := by decide +kernel
theorem dX4_putOwn_2 : decode cX4_putOwn 2 = .ok (.iconst 0, 1) := by decide +kernel
theorem dX4_putOwn_3 : decode cX4_putOwn 3 = .ok (.istore 4, 2) := by decide +kernel
theorem dX4_putOwn_5 : decode cX4_putOwn 5 = .ok (.iload 4, 2) := by decide +kernel
theorem dX4_putOwn_7 : decode cX4_putOwn 7 = .ok (.aload_n 0, 1) := by decide +kernel
theorem dX4_putOwn_8 : decode cX4_putOwn 8 = .ok (.getfield 34, 3) := by decide +kernel
theorem dX4_putOwn_11 : decode cX4_putOwn 11 = .ok (.iload_n 1, 1) := by decide +kernel
theorem dX4_putOwn_12 : decode cX4_putOwn 12 = .ok (.iaload, 1) := by decide +kernel
theorem dX4_putOwn_13 : decode cX4_putOwn 13 = .ok (.if_icmp .ge 102, 3) := by decide +kernel
theorem dX4_putOwn_16 : decode cX4_putOwn 16 = .ok (.aload_n 0, 1) := by decide +kernel
theorem dX4_putOwn_17 : decode cX4_putOwn 17 = .ok (.getfield 37, 3) := by decide +kernel
theorem dX4_putOwn_20 : decode cX4_putOwn 20 = .ok (.bipush 8, 2) := by decide +kernel
theorem dX4_putOwn_22 : decode cX4_putOwn 22 = .ok (.iload_n 1, 1) := by decide +kernel
theorem dX4_putOwn_23 : decode cX4_putOwn 23 = .ok (.imul, 1) := by decide +kernel
theorem dX4_putOwn_24 : decode cX4_putOwn 24 = .ok (.iload 4, 2) := by decide +kernel
theorem dX4_putOwn_26 : decode cX4_putOwn 26 = .ok (.iadd, 1) := by decide +kernel
theorem dX4_putOwn_27 : decode cX4_putOwn 27 = .ok (.iaload, 1) := by decide +kernel
theorem dX4_putOwn_28 : decode cX4_putOwn 28 = .ok (.istore 5, 2) := by decide +kernel
theorem dX4_putOwn_30 : decode cX4_putOwn 30 = .ok (.iconst 0, 1) := by decide +kernel
theorem dX4_putOwn_31 : decode cX4_putOwn 31 = .ok (.istore 6, 2) := by decide +kernel
theorem dX4_putOwn_33 : decode cX4_putOwn 33 = .ok (.aload_n 0, 1) := by decide +kernel
theorem dX4_putOwn_34 : decode cX4_putOwn 34 = .ok (.iload_n 1, 1) := by decide +kernel
theorem dX4_putOwn_35 : decode cX4_putOwn 35 = .ok (.iload 4, 2) := by decide +kernel
theorem dX4_putOwn_37 : decode cX4_putOwn 37 = .ok (.invokevirtual 90, 3) := by decide +kernel
theorem dX4_putOwn_40 : decode cX4_putOwn 40 = .ok (.ifCond .eq 26, 3) := by decide +kernel
theorem dX4_putOwn_43 : decode cX4_putOwn 43 = .ok (.aload_n 0, 1) := by decide +kernel
theorem dX4_putOwn_44 : decode cX4_putOwn 44 = .ok (.getfield 58, 3) := by decide +kernel
theorem dX4_putOwn_47 : decode cX4_putOwn 47 = .ok (.iload_n 3, 1) := by decide +kernel
theorem dX4_putOwn_48 : decode cX4_putOwn 48 = .ok (.iconst 1, 1) := by decide +kernel
theorem dX4_putOwn_49 : decode cX4_putOwn 49 = .ok (.isub, 1) := by decide +kernel
theorem dX4_putOwn_50 : decode cX4_putOwn 50 = .ok (.dup2, 1) := by decide +kernel
theorem dX4_putOwn_51 : decode cX4_putOwn 51 = .ok (.iaload, 1) := by decide +kernel
theorem dX4_putOwn_52 : decode cX4_putOwn 52 = .ok (.aload_n 0, 1) := by decide +kernel
theorem dX4_putOwn_53 : decode cX4_putOwn 53 = .ok (.getfield 13, 3) := by decide +kernel
theorem dX4_putOwn_56 : decode cX4_putOwn 56 = .ok (.iload 5, 2) := by decide +kernel
theorem dX4_putOwn_58 : decode cX4_putOwn 58 = .ok (.iaload, 1) := by decide +kernel
theorem dX4_putOwn_59 : decode cX4_putOwn 59 = .ok (.iconst 1, 1) := by decide +kernel
theorem dX4_putOwn_60 : decode cX4_putOwn 60 = .ok (.iand, 1) := by decide +kernel
theorem dX4_putOwn_61 : decode cX4_putOwn 61 = .ok (.ior, 1) := by decide +kernel
theorem dX4_putOwn_62 : decode cX4_putOwn 62 = .ok (.iastore, 1) := by decide +kernel
theorem dX4_putOwn_63 : decode cX4_putOwn 63 = .ok (.iconst 1, 1) := by decide +kernel
theorem dX4_putOwn_64 : decode cX4_putOwn 64 = .ok (.istore 6, 2) := by decide +kernel
theorem dX4_putOwn_66 : decode cX4_putOwn 66 = .ok (.iload 6, 2) := by decide +kernel
theorem dX4_putOwn_68 : decode cX4_putOwn 68 = .ok (.istore 7, 2) := by decide +kernel
theorem dX4_putOwn_70 : decode cX4_putOwn 70 = .ok (.iload 7, 2) := by decide +kernel
theorem dX4_putOwn_72 : decode cX4_putOwn 72 = .ok (.aload_n 0, 1) := by decide +kernel
theorem dX4_putOwn_73 : decode cX4_putOwn 73 = .ok (.getfield 9, 3) := by decide +kernel
theorem dX4_putOwn_76 : decode cX4_putOwn 76 = .ok (.iload 5, 2) := by decide +kernel
theorem dX4_putOwn_78 : decode cX4_putOwn 78 = .ok (.iaload, 1) := by decide +kernel
theorem dX4_putOwn_79 : decode cX4_putOwn 79 = .ok (.if_icmp .ge 30, 3) := by decide +kernel
theorem dX4_putOwn_82 : decode cX4_putOwn 82 = .ok (.aload_n 0, 1) := by decide +kernel
theorem dX4_putOwn_83 : decode cX4_putOwn 83 = .ok (.getfield 58, 3) := by decide +kernel
theorem dX4_putOwn_86 : decode cX4_putOwn 86 = .ok (.iload_n 3, 1) := by decide +kernel
theorem dX4_putOwn_87 : decode cX4_putOwn 87 = .ok (.aload_n 0, 1) := by decide +kernel
theorem dX4_putOwn_88 : decode cX4_putOwn 88 = .ok (.getfield 13, 3) := by decide +kernel
theorem dX4_putOwn_91 : decode cX4_putOwn 91 = .ok (.iload 5, 2) := by decide +kernel
theorem dX4_putOwn_93 : decode cX4_putOwn 93 = .ok (.iaload, 1) := by decide +kernel
theorem dX4_putOwn_94 : decode cX4_putOwn 94 = .ok (.iload 7, 2) := by decide +kernel
theorem dX4_putOwn_96 : decode cX4_putOwn 96 = .ok (.ishr, 1) := by decide +kernel
theorem dX4_putOwn_97 : decode cX4_putOwn 97 = .ok (.iconst 1, 1) := by decide +kernel
theorem dX4_putOwn_98 : decode cX4_putOwn 98 = .ok (.iand, 1) := by decide +kernel
theorem dX4_putOwn_99 : decode cX4_putOwn 99 = .ok (.iastore, 1) := by decide +kernel
theorem dX4_putOwn_100 : decode cX4_putOwn 100 = .ok (.iinc 3 1, 3) := by decide +kernel
theorem dX4_putOwn_103 : decode cX4_putOwn 103 = .ok (.iinc 7 1, 3) := by decide +kernel
theorem dX4_putOwn_106 : decode cX4_putOwn 106 = .ok (.goto (-36), 3) := by decide +kernel
theorem dX4_putOwn_109 : decode cX4_putOwn 109 = .ok (.iinc 4 1, 3) := by decide +kernel
theorem dX4_putOwn_112 : decode cX4_putOwn 112 = .ok (.goto (-107), 3) := by decide +kernel
theorem dX4_putOwn_115 : decode cX4_putOwn 115 = .ok (.iload_n 3, 1) := by decide +kernel
theorem dX4_putOwn_116 : decode cX4_putOwn 116 = .ok (.ireturn, 1) := by decide +kernel
theorem dX4_beat_0 : decode cX4_beat 0 = .ok (.iload_n 1, 1) := by decide +kernel
theorem dX4_beat_1 : decode cX4_beat 1 = .ok (.getstatic 94, 3) := by decide +kernel
theorem dX4_beat_4 : decode cX4_beat 4 = .ok (.iload_n 0, 1) := by decide +kernel
theorem dX4_beat_5 : decode cX4_beat 5 = .ok (.iaload, 1) := by decide +kernel
theorem dX4_beat_6 : decode cX4_beat 6 = .ok (.irem, 1) := by decide +kernel
theorem dX4_beat_7 : decode cX4_beat 7 = .ok (.getstatic 97, 3) := by decide +kernel
theorem dX4_beat_10 : decode cX4_beat 10 = .ok (.iload_n 0, 1) := by decide +kernel
theorem dX4_beat_11 : decode cX4_beat 11 = .ok (.iaload, 1) := by decide +kernel
theorem dX4_beat_12 : decode cX4_beat 12 = .ok (.if_icmp .ne 7, 3) := by decide +kernel
theorem dX4_beat_15 : decode cX4_beat 15 = .ok (.iconst 1, 1) := by decide +kernel
theorem dX4_beat_16 : decode cX4_beat 16 = .ok (.goto 4, 3) := by decide +kernel
theorem dX4_beat_19 : decode cX4_beat 19 = .ok (.iconst 0, 1) := by decide +kernel
theorem dX4_beat_20 : decode cX4_beat 20 = .ok (.ireturn, 1) := by decide +kernel
theorem dX4_room_0 : decode cX4_room 0 = .ok (.aload_n 0, 1) := by decide +kernel
theorem dX4_room_1 : decode cX4_room 1 = .ok (.getfield 28, 3) := by decide +kernel
theorem dX4_room_4 : decode cX4_room 4 = .ok (.iload_n 1, 1) := by decide +kernel
theorem dX4_room_5 : decode cX4_room 5 = .ok (.iaload, 1) := by decide +kernel
theorem dX4_room_6 : decode cX4_room 6 = .ok (.getstatic 94, 3) := by decide +kernel
theorem dX4_room_9 : decode cX4_room 9 = .ok (.aload_n 0, 1) := by decide +kernel
theorem dX4_room_10 : decode cX4_room 10 = .ok (.getfield 25, 3) := by decide +kernel
theorem dX4_room_13 : decode cX4_room 13 = .ok (.iload_n 1, 1) := by decide +kernel
theorem dX4_room_14 : decode cX4_room 14 = .ok (.iaload, 1) := by decide +kernel
theorem dX4_room_15 : decode cX4_room 15 = .ok (.iaload, 1) := by decide +kernel
theorem dX4_room_16 : decode cX4_room 16 = .ok (.imul, 1) := by decide +kernel
theorem dX4_room_17 : decode cX4_room 17 = .ok (.ireturn, 1) := by decide +kernel
theorem dX4_lacks_0 : decode cX4_lacks 0 = .ok (.aload_n 0, 1) := by decide +kernel
theorem dX4_lacks_1 : decode cX4_lacks 1 = .ok (.iload_n 1, 1) := by decide +kernel
theorem dX4_lacks_2 : decode cX4_lacks 2 = .ok (.invokevirtual 100, 3) := by decide +kernel
theorem dX4_lacks_5 : decode cX4_lacks 5 = .ok (.aload_n 0, 1) := by decide +kernel
theorem dX4_lacks_6 : decode cX4_lacks 6 = .ok (.getfield 46, 3) := by decide +kernel
theorem dX4_lacks_9 : decode cX4_lacks 9 = .ok (.iload_n 1, 1) := by decide +kernel
theorem dX4_lacks_10 : decode cX4_lacks 10 = .ok (.iaload, 1) := by decide +kernel
theorem dX4_lacks_11 : decode cX4_lacks 11 = .ok (.isub, 1) := by decide +kernel
theorem dX4_lacks_12 : decode cX4_lacks 12 = .ok (.ireturn, 1) := by decide +kernel
theorem dX4_last_0 : decode cX4_last 0 = .ok (.aload_n 0, 1) := by decide +kernel
theorem dX4_last_1 : decode cX4_last 1 = .ok (.getfield 37, 3) := by decide +kernel
theorem dX4_last_4 : decode cX4_last 4 = .ok (.bipush 8, 2) := by decide +kernel
theorem dX4_last_6 : decode cX4_last 6 = .ok (.iload_n 1, 1) := by decide +kernel
theorem dX4_last_7 : decode cX4_last 7 = .ok (.imul, 1) := by decide +kernel
theorem dX4_last_8 : decode cX4_last 8 = .ok (.aload_n 0, 1) := by decide +kernel
theorem dX4_last_9 : decode cX4_last 9 = .ok (.getfield 34, 3) := by decide +kernel
theorem dX4_last_12 : decode cX4_last 12 = .ok (.iload_n 1, 1) := by decide +kernel
theorem dX4_last_13 : decode cX4_last 13 = .ok (.iaload, 1) := by decide +kernel
theorem dX4_last_14 : decode cX4_last 14 = .ok (.iadd, 1) := by decide +kernel
theorem dX4_last_15 : decode cX4_last 15 = .ok (.iconst 1, 1) := by decide +kernel
theorem dX4_last_16 : decode cX4_last 16 = .ok (.isub, 1) := by decide +kernel
theorem dX4_last_17 : decode cX4_last 17 = .ok (.iaload, 1) := by decide +kernel
theorem dX4_last_18 : decode cX4_last 18 = .ok (.ireturn, 1) := by decide +kernel
theorem dX4_lastStress_0 : decode cX4_lastStress 0 = .ok (.iload_n 1, 1) := by decide +kernel
theorem dX4_lastStress_1 : decode cX4_lastStress 1 = .ok (.iload_n 0, 1) := by decide +kernel
theorem dX4_lastStress_2 : decode cX4_lastStress 2 = .ok (.iconst 1, 1) := by decide +kernel
theorem dX4_lastStress_3 : decode cX4_lastStress 3 = .ok (.isub, 1) := by decide +kernel
theorem dX4_lastStress_4 : decode cX4_lastStress 4 = .ok (.ishr, 1) := by decide +kernel
theorem dX4_lastStress_5 : decode cX4_lastStress 5 = .ok (.iconst 1, 1) := by decide +kernel
theorem dX4_lastStress_6 : decode cX4_lastStress 6 = .ok (.iand, 1) := by decide +kernel
theorem dX4_lastStress_7 : decode cX4_lastStress 7 = .ok (.ireturn, 1) := by decide +kernel
theorem dX4_rhymeOf_0 : decode cX4_rhymeOf 0 = .ok (.aload_n 0, 1) := by decide +kernel
theorem dX4_rhymeOf_1 : decode cX4_rhymeOf 1 = .ok (.getfield 34, 3) := by decide +kernel
theorem dX4_rhymeOf_4 : decode cX4_rhymeOf 4 = .ok (.iload_n 1, 1) := by decide +kernel
theorem dX4_rhymeOf_5 : decode cX4_rhymeOf 5 = .ok (.iaload, 1) := by decide +kernel
theorem dX4_rhymeOf_6 : decode cX4_rhymeOf 6 = .ok (.ifCond .eq 12, 3) := by decide +kernel
theorem dX4_rhymeOf_9 : decode cX4_rhymeOf 9 = .ok (.aload_n 0, 1) := by decide +kernel
theorem dX4_rhymeOf_10 : decode cX4_rhymeOf 10 = .ok (.getfield 34, 3) := by decide +kernel
theorem dX4_rhymeOf_13 : decode cX4_rhymeOf 13 = .ok (.iload_n 2, 1) := by decide +kernel
theorem dX4_rhymeOf_14 : decode cX4_rhymeOf 14 = .ok (.iaload, 1) := by decide +kernel
theorem dX4_rhymeOf_15 : decode cX4_rhymeOf 15 = .ok (.ifCond .ne 5, 3) := by decide +kernel
theorem dX4_rhymeOf_18 : decode cX4_rhymeOf 18 = .ok (.iconst 0, 1) := by decide +kernel
theorem dX4_rhymeOf_19 : decode cX4_rhymeOf 19 = .ok (.ireturn, 1) := by decide +kernel
theorem dX4_rhymeOf_20 : decode cX4_rhymeOf 20 = .ok (.aload_n 0, 1) := by decide +kernel
theorem dX4_rhymeOf_21 : decode cX4_rhymeOf 21 = .ok (.iload_n 1, 1) := by decide +kernel
theorem dX4_rhymeOf_22 : decode cX4_rhymeOf 22 = .ok (.invokevirtual 103, 3) := by decide +kernel
theorem dX4_rhymeOf_25 : decode cX4_rhymeOf 25 = .ok (.istore_n 3, 1) := by decide +kernel
theorem dX4_rhymeOf_26 : decode cX4_rhymeOf 26 = .ok (.aload_n 0, 1) := by decide +kernel
theorem dX4_rhymeOf_27 : decode cX4_rhymeOf 27 = .ok (.iload_n 2, 1) := by decide +kernel
theorem dX4_rhymeOf_28 : decode cX4_rhymeOf 28 = .ok (.invokevirtual 103, 3) := by decide +kernel
theorem dX4_rhymeOf_31 : decode cX4_rhymeOf 31 = .ok (.istore 4, 2) := by decide +kernel
theorem dX4_rhymeOf_33 : decode cX4_rhymeOf 33 = .ok (.iload_n 3, 1) := by decide +kernel
theorem dX4_rhymeOf_34 : decode cX4_rhymeOf 34 = .ok (.iload 4, 2) := by decide +kernel
theorem dX4_rhymeOf_36 : decode cX4_rhymeOf 36 = .ok (.if_icmp .eq 19, 3) := by decide +kernel
theorem dX4_rhymeOf_39 : decode cX4_rhymeOf 39 = .ok (.aload_n 0, 1) := by decide +kernel
theorem dX4_rhymeOf_40 : decode cX4_rhymeOf 40 = .ok (.getfield 16, 3) := by decide +kernel
theorem dX4_rhymeOf_43 : decode cX4_rhymeOf 43 = .ok (.iload_n 3, 1) := by decide +kernel
theorem dX4_rhymeOf_44 : decode cX4_rhymeOf 44 = .ok (.iaload, 1) := by decide +kernel
theorem dX4_rhymeOf_45 : decode cX4_rhymeOf 45 = .ok (.aload_n 0, 1) := by decide +kernel
theorem dX4_rhymeOf_46 : decode cX4_rhymeOf 46 = .ok (.getfield 16, 3) := by decide +kernel
theorem dX4_rhymeOf_49 : decode cX4_rhymeOf 49 = .ok (.iload 4, 2) := by decide +kernel
theorem dX4_rhymeOf_51 : decode cX4_rhymeOf 51 = .ok (.iaload, 1) := by decide +kernel
theorem dX4_rhymeOf_52 : decode cX4_rhymeOf 52 = .ok (.if_icmp .eq 5, 3) := by decide +kernel
theorem dX4_rhymeOf_55 : decode cX4_rhymeOf 55 = .ok (.iconst 0, 1) := by decide +kernel
theorem dX4_rhymeOf_56 : decode cX4_rhymeOf 56 = .ok (.ireturn, 1) := by decide +kernel
theorem dX4_rhymeOf_57 : decode cX4_rhymeOf 57 = .ok (.iconst 1, 1) := by decide +kernel
theorem dX4_rhymeOf_58 : decode cX4_rhymeOf 58 = .ok (.aload_n 0, 1) := by decide +kernel
theorem dX4_rhymeOf_59 : decode cX4_rhymeOf 59 = .ok (.getfield 19, 3) := by decide +kernel
theorem dX4_rhymeOf_62 : decode cX4_rhymeOf 62 = .ok (.iload_n 3, 1) := by decide +kernel
theorem dX4_rhymeOf_63 : decode cX4_rhymeOf 63 = .ok (.iaload, 1) := by decide +kernel
theorem dX4_rhymeOf_64 : decode cX4_rhymeOf 64 = .ok (.aload_n 0, 1) := by decide +kernel
theorem dX4_rhymeOf_65 : decode cX4_rhymeOf 65 = .ok (.getfield 19, 3) := by decide +kernel
theorem dX4_rhymeOf_68 : decode cX4_rhymeOf 68 = .ok (.iload 4, 2) := by decide +kernel
theorem dX4_rhymeOf_70 : decode cX4_rhymeOf 70 = .ok (.iaload, 1) := by decide +kernel
theorem dX4_rhymeOf_71 : decode cX4_rhymeOf 71 = .ok (.if_icmp .ne 7, 3) := by decide +kernel
theorem dX4_rhymeOf_74 : decode cX4_rhymeOf 74 = .ok (.iconst 1, 1) := by decide +kernel
theorem dX4_rhymeOf_75 : decode cX4_rhymeOf 75 = .ok (.goto 4, 3) := by decide +kernel
theorem dX4_rhymeOf_78 : decode cX4_rhymeOf 78 = .ok (.iconst 0, 1) := by decide +kernel
theorem dX4_rhymeOf_79 : decode cX4_rhymeOf 79 = .ok (.iadd, 1) := by decide +kernel
theorem dX4_rhymeOf_80 : decode cX4_rhymeOf 80 = .ok (.aload_n 0, 1) := by decide +kernel
theorem dX4_rhymeOf_81 : decode cX4_rhymeOf 81 = .ok (.getfield 9, 3) := by decide +kernel
theorem dX4_rhymeOf_84 : decode cX4_rhymeOf 84 = .ok (.iload_n 3, 1) := by decide +kernel
theorem dX4_rhymeOf_85 : decode cX4_rhymeOf 85 = .ok (.iaload, 1) := by decide +kernel
theorem dX4_rhymeOf_86 : decode cX4_rhymeOf 86 = .ok (.aload_n 0, 1) := by decide +kernel
theorem dX4_rhymeOf_87 : decode cX4_rhymeOf 87 = .ok (.getfield 13, 3) := by decide +kernel
theorem dX4_rhymeOf_90 : decode cX4_rhymeOf 90 = .ok (.iload_n 3, 1) := by decide +kernel
theorem dX4_rhymeOf_91 : decode cX4_rhymeOf 91 = .ok (.iaload, 1) := by decide +kernel
theorem dX4_rhymeOf_92 : decode cX4_rhymeOf 92 = .ok (.invokestatic 106, 3) := by decide +kernel
theorem dX4_rhymeOf_95 : decode cX4_rhymeOf 95 = .ok (.aload_n 0, 1) := by decide +kernel
theorem dX4_rhymeOf_96 : decode cX4_rhymeOf 96 = .ok (.getfield 9, 3) := by decide +kernel
theorem dX4_rhymeOf_99 : decode cX4_rhymeOf 99 = .ok (.iload 4, 2) := by decide +kernel
theorem dX4_rhymeOf_101 : decode cX4_rhymeOf 101 = .ok (.iaload, 1) := by decide +kernel
theorem dX4_rhymeOf_102 : decode cX4_rhymeOf 102 = .ok (.aload_n 0, 1) := by decide +kernel
theorem dX4_rhymeOf_103 : decode cX4_rhymeOf 103 = .ok (.getfield 13, 3) := by decide +kernel
theorem dX4_rhymeOf_106 : decode cX4_rhymeOf 106 = .ok (.iload 4, 2) := by decide +kernel
theorem dX4_rhymeOf_108 : decode cX4_rhymeOf 108 = .ok (.iaload, 1) := by decide +kernel
theorem dX4_rhymeOf_109 : decode cX4_rhymeOf 109 = .ok (.invokestatic 106, 3) := by decide +kernel
theorem dX4_rhymeOf_112 : decode cX4_rhymeOf 112 = .ok (.if_icmp .ne 7, 3) := by decide +kernel
theorem dX4_rhymeOf_115 : decode cX4_rhymeOf 115 = .ok (.iconst 1, 1) := by decide +kernel
theorem dX4_rhymeOf_116 : decode cX4_rhymeOf 116 = .ok (.goto 4, 3) := by decide +kernel
theorem dX4_rhymeOf_119 : decode cX4_rhymeOf 119 = .ok (.iconst 0, 1) := by decide +kernel
theorem dX4_rhymeOf_120 : decode cX4_rhymeOf 120 = .ok (.iadd, 1) := by decide +kernel
theorem dX4_rhymeOf_121 : decode cX4_rhymeOf 121 = .ok (.ireturn, 1) := by decide +kernel
theorem dX4_rhymeAhead_0 : decode cX4_rhymeAhead 0 = .ok (.iload_n 1, 1) := by decide +kernel
theorem dX4_rhymeAhead_1 : decode cX4_rhymeAhead 1 = .ok (.iconst 1, 1) := by decide +kernel
theorem dX4_rhymeAhead_2 : decode cX4_rhymeAhead 2 = .ok (.isub, 1) := by decide +kernel
theorem dX4_rhymeAhead_3 : decode cX4_rhymeAhead 3 = .ok (.istore_n 2, 1) := by decide +kernel
theorem dX4_rhymeAhead_4 : decode cX4_rhymeAhead 4 = .ok (.iload_n 2, 1) := by decide +kernel
theorem dX4_rhymeAhead_5 : decode cX4_rhymeAhead 5 = .ok (.ifCond .lt 31, 3) := by decide +kernel
theorem dX4_rhymeAhead_8 : decode cX4_rhymeAhead 8 = .ok (.aload_n 0, 1) := by decide +kernel
theorem dX4_rhymeAhead_9 : decode cX4_rhymeAhead 9 = .ok (.getfield 31, 3) := by decide +kernel
theorem dX4_rhymeAhead_12 : decode cX4_rhymeAhead 12 = .ok (.iload_n 2, 1) := by decide +kernel
theorem dX4_rhymeAhead_13 : decode cX4_rhymeAhead 13 = .ok (.iaload, 1) := by decide +kernel
theorem dX4_rhymeAhead_14 : decode cX4_rhymeAhead 14 = .ok (.aload_n 0, 1) := by decide +kernel
theorem dX4_rhymeAhead_15 : decode cX4_rhymeAhead 15 = .ok (.getfield 31, 3) := by decide +kernel
theorem dX4_rhymeAhead_18 : decode cX4_rhymeAhead 18 = .ok (.iload_n 1, 1) := by decide +kernel
theorem dX4_rhymeAhead_19 : decode cX4_rhymeAhead 19 = .ok (.iaload, 1) := by decide +kernel
theorem dX4_rhymeAhead_20 : decode cX4_rhymeAhead 20 = .ok (.if_icmp .ne 10, 3) := by decide +kernel
theorem dX4_rhymeAhead_23 : decode cX4_rhymeAhead 23 = .ok (.aload_n 0, 1) := by decide +kernel
theorem dX4_rhymeAhead_24 : decode cX4_rhymeAhead 24 = .ok (.iload_n 1, 1) := by decide +kernel
theorem dX4_rhymeAhead_25 : decode cX4_rhymeAhead 25 = .ok (.iload_n 2, 1) := by decide +kernel
theorem dX4_rhymeAhead_26 : decode cX4_rhymeAhead 26 = .ok (.invokevirtual 109, 3) := by decide +kernel
theorem dX4_rhymeAhead_29 : decode cX4_rhymeAhead 29 = .ok (.ireturn, 1) := by decide +kernel
theorem dX4_rhymeAhead_30 : decode cX4_rhymeAhead 30 = .ok (.iinc 2 (-1), 3) := by decide +kernel
theorem dX4_rhymeAhead_33 : decode cX4_rhymeAhead 33 = .ok (.goto (-29), 3) := by decide +kernel
theorem dX4_rhymeAhead_36 : decode cX4_rhymeAhead 36 = .ok (.iconst 0, 1) := by decide +kernel
theorem dX4_rhymeAhead_37 : decode cX4_rhymeAhead 37 = .ok (.ireturn, 1) := by decide +kernel
theorem dX4_scan_0 : decode cX4_scan 0 = .ok (.iconst 0, 1) := by decide +kernel
theorem dX4_scan_1 : decode cX4_scan 1 = .ok (.istore_n 1, 1) := by decide +kernel
theorem dX4_scan_2 : decode cX4_scan 2 = .ok (.iconst 0, 1) := by decide +kernel
theorem dX4_scan_3 : decode cX4_scan 3 = .ok (.istore_n 2, 1) := by decide +kernel
theorem dX4_scan_4 : decode cX4_scan 4 = .ok (.iconst 0, 1) := by decide +kernel
theorem dX4_scan_5 : decode cX4_scan 5 = .ok (.istore_n 3, 1) := by decide +kernel
theorem dX4_scan_6 : decode cX4_scan 6 = .ok (.iload_n 3, 1) := by decide +kernel
theorem dX4_scan_7 : decode cX4_scan 7 = .ok (.aload_n 0, 1) := by decide +kernel
theorem dX4_scan_8 : decode cX4_scan 8 = .ok (.getfield 72, 3) := by decide +kernel
theorem dX4_scan_11 : decode cX4_scan 11 = .ok (.if_icmp .ge 245, 3) := by decide +kernel
theorem dX4_scan_14 : decode cX4_scan 14 = .ok (.aload_n 0, 1) := by decide +kernel
theorem dX4_scan_15 : decode cX4_scan 15 = .ok (.getfield 43, 3) := by decide +kernel
theorem dX4_scan_18 : decode cX4_scan 18 = .ok (.iload_n 3, 1) := by decide +kernel
theorem dX4_scan_19 : decode cX4_scan 19 = .ok (.iload_n 1, 1) := by decide +kernel
theorem dX4_scan_20 : decode cX4_scan 20 = .ok (.iastore, 1) := by decide +kernel
theorem dX4_scan_21 : decode cX4_scan 21 = .ok (.aload_n 0, 1) := by decide +kernel
theorem dX4_scan_22 : decode cX4_scan 22 = .ok (.iload_n 3, 1) := by decide +kernel
theorem dX4_scan_23 : decode cX4_scan 23 = .ok (.iload_n 1, 1) := by decide +kernel
theorem dX4_scan_24 : decode cX4_scan 24 = .ok (.invokevirtual 112, 3) := by decide +kernel
theorem dX4_scan_27 : decode cX4_scan 27 = .ok (.istore_n 1, 1) := by decide +kernel
theorem dX4_scan_28 : decode cX4_scan 28 = .ok (.aload_n 0, 1) := by decide +kernel
theorem dX4_scan_29 : decode cX4_scan 29 = .ok (.getfield 40, 3) := by decide +kernel
theorem dX4_scan_32 : decode cX4_scan 32 = .ok (.iload_n 3, 1) := by decide +kernel
theorem dX4_scan_33 : decode cX4_scan 33 = .ok (.iload_n 1, 1) := by decide +kernel
theorem dX4_scan_34 : decode cX4_scan 34 = .ok (.aload_n 0, 1) := by decide +kernel
theorem dX4_scan_35 : decode cX4_scan 35 = .ok (.getfield 43, 3) := by decide +kernel
theorem dX4_scan_38 : decode cX4_scan 38 = .ok (.iload_n 3, 1) := by decide +kernel
theorem dX4_scan_39 : decode cX4_scan 39 = .ok (.iaload, 1) := by decide +kernel
theorem dX4_scan_40 : decode cX4_scan 40 = .ok (.isub, 1) := by decide +kernel
theorem dX4_scan_41 : decode cX4_scan 41 = .ok (.iastore, 1) := by decide +kernel
theorem dX4_scan_42 : decode cX4_scan 42 = .ok (.aload_n 0, 1) := by decide +kernel
theorem dX4_scan_43 : decode cX4_scan 43 = .ok (.getfield 46, 3) := by decide +kernel
theorem dX4_scan_46 : decode cX4_scan 46 = .ok (.iload_n 3, 1) := by decide +kernel
theorem dX4_scan_47 : decode cX4_scan 47 = .ok (.aload_n 0, 1) := by decide +kernel
theorem dX4_scan_48 : decode cX4_scan 48 = .ok (.iload_n 3, 1) := by decide +kernel
theorem dX4_scan_49 : decode cX4_scan 49 = .ok (.invokevirtual 100, 3) := by decide +kernel
theorem dX4_scan_52 : decode cX4_scan 52 = .ok (.iload_n 1, 1) := by decide +kernel
theorem dX4_scan_53 : decode cX4_scan 53 = .ok (.invokestatic 115, 3) := by decide +kernel
theorem dX4_scan_56 : decode cX4_scan 56 = .ok (.iastore, 1) := by decide +kernel
theorem dX4_scan_57 : decode cX4_scan 57 = .ok (.aload_n 0, 1) := by decide +kernel
theorem dX4_scan_58 : decode cX4_scan 58 = .ok (.getfield 49, 3) := by decide +kernel
theorem dX4_scan_61 : decode cX4_scan 61 = .ok (.iload_n 3, 1) := by decide +kernel
theorem dX4_scan_62 : decode cX4_scan 62 = .ok (.iconst 0, 1) := by decide +kernel
theorem dX4_scan_63 : decode cX4_scan 63 = .ok (.iastore, 1) := by decide +kernel
theorem dX4_scan_64 : decode cX4_scan 64 = .ok (.aload_n 0, 1) := by decide +kernel
theorem dX4_scan_65 : decode cX4_scan 65 = .ok (.getfield 52, 3) := by decide +kernel
theorem dX4_scan_68 : decode cX4_scan 68 = .ok (.iload_n 3, 1) := by decide +kernel
theorem dX4_scan_69 : decode cX4_scan 69 = .ok (.iconst 0, 1) := by decide +kernel
theorem dX4_scan_70 : decode cX4_scan 70 = .ok (.iastore, 1) := by decide +kernel
theorem dX4_scan_71 : decode cX4_scan 71 = .ok (.iconst 0, 1) := by decide +kernel
theorem dX4_scan_72 : decode cX4_scan 72 = .ok (.istore 4, 2) := by decide +kernel
theorem dX4_scan_74 : decode cX4_scan 74 = .ok (.iload 4, 2) := by decide +kernel
theorem dX4_scan_76 : decode cX4_scan 76 = .ok (.aload_n 0, 1) := by decide +kernel
theorem dX4_scan_77 : decode cX4_scan 77 = .ok (.getfield 46, 3) := by decide +kernel
theorem dX4_scan_80 : decode cX4_scan 80 = .ok (.iload_n 3, 1) := by decide +kernel
theorem dX4_scan_81 : decode cX4_scan 81 = .ok (.iaload, 1) := by decide +kernel
theorem dX4_scan_82 : decode cX4_scan 82 = .ok (.if_icmp .ge 63, 3) := by decide +kernel
theorem dX4_scan_85 : decode cX4_scan 85 = .ok (.aload_n 0, 1) := by decide +kernel
theorem dX4_scan_86 : decode cX4_scan 86 = .ok (.getfield 49, 3) := by decide +kernel
theorem dX4_scan_89 : decode cX4_scan 89 = .ok (.iload_n 3, 1) := by decide +kernel
theorem dX4_scan_90 : decode cX4_scan 90 = .ok (.dup2, 1) := by decide +kernel
theorem dX4_scan_91 : decode cX4_scan 91 = .ok (.iaload, 1) := by decide +kernel
theorem dX4_scan_92 : decode cX4_scan 92 = .ok (.aload_n 0, 1) := by decide +kernel
theorem dX4_scan_93 : decode cX4_scan 93 = .ok (.getfield 58, 3) := by decide +kernel
theorem dX4_scan_96 : decode cX4_scan 96 = .ok (.iload 4, 2) := by decide +kernel
theorem dX4_scan_98 : decode cX4_scan 98 = .ok (.iaload, 1) := by decide +kernel
theorem dX4_scan_99 : decode cX4_scan 99 = .ok (.iload 4, 2) := by decide +kernel
theorem dX4_scan_101 : decode cX4_scan 101 = .ok (.ishl, 1) := by decide +kernel
theorem dX4_scan_102 : decode cX4_scan 102 = .ok (.ior, 1) := by decide +kernel
theorem dX4_scan_103 : decode cX4_scan 103 = .ok (.iastore, 1) := by decide +kernel
theorem dX4_scan_104 : decode cX4_scan 104 = .ok (.aload_n 0, 1) := by decide +kernel
theorem dX4_scan_105 : decode cX4_scan 105 = .ok (.getfield 52, 3) := by decide +kernel
theorem dX4_scan_108 : decode cX4_scan 108 = .ok (.iload_n 3, 1) := by decide +kernel
theorem dX4_scan_109 : decode cX4_scan 109 = .ok (.dup2, 1) := by decide +kernel
theorem dX4_scan_110 : decode cX4_scan 110 = .ok (.iaload, 1) := by decide +kernel
theorem dX4_scan_111 : decode cX4_scan 111 = .ok (.aload_n 0, 1) := by decide +kernel
theorem dX4_scan_112 : decode cX4_scan 112 = .ok (.getfield 58, 3) := by decide +kernel
theorem dX4_scan_115 : decode cX4_scan 115 = .ok (.iload 4, 2) := by decide +kernel
theorem dX4_scan_117 : decode cX4_scan 117 = .ok (.iaload, 1) := by decide +kernel
theorem dX4_scan_118 : decode cX4_scan 118 = .ok (.aload_n 0, 1) := by decide +kernel
theorem dX4_scan_119 : decode cX4_scan 119 = .ok (.getfield 25, 3) := by decide +kernel
theorem dX4_scan_122 : decode cX4_scan 122 = .ok (.iload_n 3, 1) := by decide +kernel
theorem dX4_scan_123 : decode cX4_scan 123 = .ok (.iaload, 1) := by decide +kernel
theorem dX4_scan_124 : decode cX4_scan 124 = .ok (.iload 4, 2) := by decide +kernel
theorem dX4_scan_126 : decode cX4_scan 126 = .ok (.invokestatic 120, 3) := by decide +kernel
theorem dX4_scan_129 : decode cX4_scan 129 = .ok (.if_icmp .ne 7, 3) := by decide +kernel
theorem dX4_scan_132 : decode cX4_scan 132 = .ok (.iconst 0, 1) := by decide +kernel
theorem dX4_scan_133 : decode cX4_scan 133 = .ok (.goto 4, 3) := by decide +kernel
theorem dX4_scan_136 : decode cX4_scan 136 = .ok (.iconst 1, 1) := by decide +kernel
theorem dX4_scan_137 : decode cX4_scan 137 = .ok (.iadd, 1) := by decide +kernel
theorem dX4_scan_138 : decode cX4_scan 138 = .ok (.iastore, 1) := by decide +kernel
theorem dX4_scan_139 : decode cX4_scan 139 = .ok (.iinc 4 1, 3) := by decide +kernel
theorem dX4_scan_142 : decode cX4_scan 142 = .ok (.goto (-68), 3) := by decide +kernel
theorem dX4_scan_145 : decode cX4_scan 145 = .ok (.iload_n 1, 1) := by decide +kernel
theorem dX4_scan_146 : decode cX4_scan 146 = .ok (.aload_n 0, 1) := by decide +kernel
theorem dX4_scan_147 : decode cX4_scan 147 = .ok (.getfield 46, 3) := by decide +kernel
theorem dX4_scan_150 : decode cX4_scan 150 = .ok (.iload_n 3, 1) := by decide +kernel
theorem dX4_scan_151 : decode cX4_scan 151 = .ok (.iaload, 1) := by decide +kernel
theorem dX4_scan_152 : decode cX4_scan 152 = .ok (.isub, 1) := by decide +kernel
theorem dX4_scan_153 : decode cX4_scan 153 = .ok (.istore_n 1, 1) := by decide +kernel
theorem dX4_scan_154 : decode cX4_scan 154 = .ok (.aload_n 0, 1) := by decide +kernel
theorem dX4_scan_155 : decode cX4_scan 155 = .ok (.getfield 58, 3) := by decide +kernel
theorem dX4_scan_158 : decode cX4_scan 158 = .ok (.aload_n 0, 1) := by decide +kernel
theorem dX4_scan_159 : decode cX4_scan 159 = .ok (.getfield 46, 3) := by decide +kernel
theorem dX4_scan_162 : decode cX4_scan 162 = .ok (.iload_n 3, 1) := by decide +kernel
theorem dX4_scan_163 : decode cX4_scan 163 = .ok (.iaload, 1) := by decide +kernel
theorem dX4_scan_164 : decode cX4_scan 164 = .ok (.aload_n 0, 1) := by decide +kernel
theorem dX4_scan_165 : decode cX4_scan 165 = .ok (.getfield 58, 3) := by decide +kernel
theorem dX4_scan_168 : decode cX4_scan 168 = .ok (.iconst 0, 1) := by decide +kernel
theorem dX4_scan_169 : decode cX4_scan 169 = .ok (.iload_n 1, 1) := by decide +kernel
theorem dX4_scan_170 : decode cX4_scan 170 = .ok (.invokestatic 123, 3) := by decide +kernel
theorem dX4_scan_173 : decode cX4_scan 173 = .ok (.iconst 2, 1) := by decide +kernel
theorem dX4_scan_174 : decode cX4_scan 174 = .ok (.aload_n 0, 1) := by decide +kernel
theorem dX4_scan_175 : decode cX4_scan 175 = .ok (.getfield 49, 3) := by decide +kernel
theorem dX4_scan_178 : decode cX4_scan 178 = .ok (.iload_n 3, 1) := by decide +kernel
theorem dX4_scan_179 : decode cX4_scan 179 = .ok (.iaload, 1) := by decide +kernel
theorem dX4_scan_180 : decode cX4_scan 180 = .ok (.invokestatic 129, 3) := by decide +kernel
theorem dX4_scan_183 : decode cX4_scan 183 = .ok (.imul, 1) := by decide +kernel
theorem dX4_scan_184 : decode cX4_scan 184 = .ok (.iconst 3, 1) := by decide +kernel
theorem dX4_scan_185 : decode cX4_scan 185 = .ok (.aload_n 0, 1) := by decide +kernel
theorem dX4_scan_186 : decode cX4_scan 186 = .ok (.getfield 52, 3) := by decide +kernel
theorem dX4_scan_189 : decode cX4_scan 189 = .ok (.iload_n 3, 1) := by decide +kernel
theorem dX4_scan_190 : decode cX4_scan 190 = .ok (.iaload, 1) := by decide +kernel
theorem dX4_scan_191 : decode cX4_scan 191 = .ok (.imul, 1) := by decide +kernel
theorem dX4_scan_192 : decode cX4_scan 192 = .ok (.iadd, 1) := by decide +kernel
theorem dX4_scan_193 : decode cX4_scan 193 = .ok (.iconst 5, 1) := by decide +kernel
theorem dX4_scan_194 : decode cX4_scan 194 = .ok (.aload_n 0, 1) := by decide +kernel
theorem dX4_scan_195 : decode cX4_scan 195 = .ok (.iload_n 3, 1) := by decide +kernel
theorem dX4_scan_196 : decode cX4_scan 196 = .ok (.invokevirtual 134, 3) := by decide +kernel
theorem dX4_scan_199 : decode cX4_scan 199 = .ok (.imul, 1) := by decide +kernel
theorem dX4_scan_200 : decode cX4_scan 200 = .ok (.iadd, 1) := by decide +kernel
theorem dX4_scan_201 : decode cX4_scan 201 = .ok (.iconst 4, 1) := by decide +kernel
theorem dX4_scan_202 : decode cX4_scan 202 = .ok (.aload_n 0, 1) := by decide +kernel
theorem dX4_scan_203 : decode cX4_scan 203 = .ok (.iload_n 3, 1) := by decide +kernel
theorem dX4_scan_204 : decode cX4_scan 204 = .ok (.invokevirtual 137, 3) := by decide +kernel
theorem dX4_scan_207 : decode cX4_scan 207 = .ok (.imul, 1) := by decide +kernel
theorem dX4_scan_208 : decode cX4_scan 208 = .ok (.isub, 1) := by decide +kernel
theorem dX4_scan_209 : decode cX4_scan 209 = .ok (.istore 4, 2) := by decide +kernel
theorem dX4_scan_211 : decode cX4_scan 211 = .ok (.aload_n 0, 1) := by decide +kernel
theorem dX4_scan_212 : decode cX4_scan 212 = .ok (.getfield 55, 3) := by decide +kernel
theorem dX4_scan_215 : decode cX4_scan 215 = .ok (.iload_n 3, 1) := by decide +kernel
theorem dX4_scan_216 : decode cX4_scan 216 = .ok (.aload_n 0, 1) := by decide +kernel
theorem dX4_scan_217 : decode cX4_scan 217 = .ok (.getfield 34, 3) := by decide +kernel
theorem dX4_scan_220 : decode cX4_scan 220 = .ok (.iload_n 3, 1) := by decide +kernel
theorem dX4_scan_221 : decode cX4_scan 221 = .ok (.iaload, 1) := by decide +kernel
theorem dX4_scan_222 : decode cX4_scan 222 = .ok (.ifCond .ne 12, 3) := by decide +kernel
theorem dX4_scan_225 : decode cX4_scan 225 = .ok (.aload_n 0, 1) := by decide +kernel
theorem dX4_scan_226 : decode cX4_scan 226 = .ok (.getfield 28, 3) := by decide +kernel
theorem dX4_scan_229 : decode cX4_scan 229 = .ok (.iload_n 3, 1) := by decide +kernel
theorem dX4_scan_230 : decode cX4_scan 230 = .ok (.iaload, 1) := by decide +kernel
theorem dX4_scan_231 : decode cX4_scan 231 = .ok (.goto 9, 3) := by decide +kernel
theorem dX4_scan_234 : decode cX4_scan 234 = .ok (.iconst 0, 1) := by decide +kernel
theorem dX4_scan_235 : decode cX4_scan 235 = .ok (.iload 4, 2) := by decide +kernel
theorem dX4_scan_237 : decode cX4_scan 237 = .ok (.invokestatic 140, 3) := by decide +kernel
theorem dX4_scan_240 : decode cX4_scan 240 = .ok (.iastore, 1) := by decide +kernel
theorem dX4_scan_241 : decode cX4_scan 241 = .ok (.iload_n 2, 1) := by decide +kernel
theorem dX4_scan_242 : decode cX4_scan 242 = .ok (.aload_n 0, 1) := by decide +kernel
theorem dX4_scan_243 : decode cX4_scan 243 = .ok (.getfield 55, 3) := by decide +kernel
theorem dX4_scan_246 : decode cX4_scan 246 = .ok (.iload_n 3, 1) := by decide +kernel
theorem dX4_scan_247 : decode cX4_scan 247 = .ok (.iaload, 1) := by decide +kernel
theorem dX4_scan_248 : decode cX4_scan 248 = .ok (.iadd, 1) := by decide +kernel
theorem dX4_scan_249 : decode cX4_scan 249 = .ok (.istore_n 2, 1) := by decide +kernel
theorem dX4_scan_250 : decode cX4_scan 250 = .ok (.iinc 3 1, 3) := by decide +kernel
theorem dX4_scan_253 : decode cX4_scan 253 = .ok (.goto (-247), 3) := by decide +kernel
theorem dX4_scan_256 : decode cX4_scan 256 = .ok (.aload_n 0, 1) := by decide +kernel
theorem dX4_scan_257 : decode cX4_scan 257 = .ok (.iload_n 1, 1) := by decide +kernel
theorem dX4_scan_258 : decode cX4_scan 258 = .ok (.putfield 143, 3) := by decide +kernel
theorem dX4_scan_261 : decode cX4_scan 261 = .ok (.iload_n 2, 1) := by decide +kernel
theorem dX4_scan_262 : decode cX4_scan 262 = .ok (.ireturn, 1) := by decide +kernel
theorem dX4_toldOf_0 : decode cX4_toldOf 0 = .ok (.bipush 12, 2) := by decide +kernel
theorem dX4_toldOf_2 : decode cX4_toldOf 2 = .ok (.newarray .int, 2) := by decide +kernel
theorem dX4_toldOf_4 : decode cX4_toldOf 4 = .ok (.dup, 1) := by decide +kernel
theorem dX4_toldOf_5 : decode cX4_toldOf 5 = .ok (.iconst 0, 1) := by decide +kernel
theorem dX4_toldOf_6 : decode cX4_toldOf 6 = .ok (.aload_n 0, 1) := by decide +kernel
theorem dX4_toldOf_7 : decode cX4_toldOf 7 = .ok (.getfield 25, 3) := by decide +kernel
theorem dX4_toldOf_10 : decode cX4_toldOf 10 = .ok (.iload_n 1, 1) := by decide +kernel
theorem dX4_toldOf_11 : decode cX4_toldOf 11 = .ok (.iaload, 1) := by decide +kernel
theorem dX4_toldOf_12 : decode cX4_toldOf 12 = .ok (.iastore, 1) := by decide +kernel
theorem dX4_toldOf_13 : decode cX4_toldOf 13 = .ok (.dup, 1) := by decide +kernel
theorem dX4_toldOf_14 : decode cX4_toldOf 14 = .ok (.iconst 1, 1) := by decide +kernel
theorem dX4_toldOf_15 : decode cX4_toldOf 15 = .ok (.aload_n 0, 1) := by decide +kernel
theorem dX4_toldOf_16 : decode cX4_toldOf 16 = .ok (.getfield 28, 3) := by decide +kernel
theorem dX4_toldOf_19 : decode cX4_toldOf 19 = .ok (.iload_n 1, 1) := by decide +kernel
theorem dX4_toldOf_20 : decode cX4_toldOf 20 = .ok (.iaload, 1) := by decide +kernel
theorem dX4_toldOf_21 : decode cX4_toldOf 21 = .ok (.iastore, 1) := by decide +kernel
theorem dX4_toldOf_22 : decode cX4_toldOf 22 = .ok (.dup, 1) := by decide +kernel
theorem dX4_toldOf_23 : decode cX4_toldOf 23 = .ok (.iconst 2, 1) := by decide +kernel
theorem dX4_toldOf_24 : decode cX4_toldOf 24 = .ok (.aload_n 0, 1) := by decide +kernel
theorem dX4_toldOf_25 : decode cX4_toldOf 25 = .ok (.getfield 31, 3) := by decide +kernel
theorem dX4_toldOf_28 : decode cX4_toldOf 28 = .ok (.iload_n 1, 1) := by decide +kernel
theorem dX4_toldOf_29 : decode cX4_toldOf 29 = .ok (.iaload, 1) := by decide +kernel
theorem dX4_toldOf_30 : decode cX4_toldOf 30 = .ok (.iastore, 1) := by decide +kernel
theorem dX4_toldOf_31 : decode cX4_toldOf 31 = .ok (.dup, 1) := by decide +kernel
theorem dX4_toldOf_32 : decode cX4_toldOf 32 = .ok (.iconst 3, 1) := by decide +kernel
theorem dX4_toldOf_33 : decode cX4_toldOf 33 = .ok (.aload_n 0, 1) := by decide +kernel
theorem dX4_toldOf_34 : decode cX4_toldOf 34 = .ok (.getfield 34, 3) := by decide +kernel
theorem dX4_toldOf_37 : decode cX4_toldOf 37 = .ok (.iload_n 1, 1) := by decide +kernel
theorem dX4_toldOf_38 : decode cX4_toldOf 38 = .ok (.iaload, 1) := by decide +kernel
theorem dX4_toldOf_39 : decode cX4_toldOf 39 = .ok (.iastore, 1) := by decide +kernel
theorem dX4_toldOf_40 : decode cX4_toldOf 40 = .ok (.dup, 1) := by decide +kernel
theorem dX4_toldOf_41 : decode cX4_toldOf 41 = .ok (.iconst 4, 1) := by decide +kernel
theorem dX4_toldOf_42 : decode cX4_toldOf 42 = .ok (.aload_n 0, 1) := by decide +kernel
theorem dX4_toldOf_43 : decode cX4_toldOf 43 = .ok (.getfield 40, 3) := by decide +kernel
theorem dX4_toldOf_46 : decode cX4_toldOf 46 = .ok (.iload_n 1, 1) := by decide +kernel
theorem dX4_toldOf_47 : decode cX4_toldOf 47 = .ok (.iaload, 1) := by decide +kernel
theorem dX4_toldOf_48 : decode cX4_toldOf 48 = .ok (.iastore, 1) := by decide +kernel
theorem dX4_toldOf_49 : decode cX4_toldOf 49 = .ok (.dup, 1) := by decide +kernel
theorem dX4_toldOf_50 : decode cX4_toldOf 50 = .ok (.iconst 5, 1) := by decide +kernel
theorem dX4_toldOf_51 : decode cX4_toldOf 51 = .ok (.aload_n 0, 1) := by decide +kernel
theorem dX4_toldOf_52 : decode cX4_toldOf 52 = .ok (.getfield 43, 3) := by decide +kernel
theorem dX4_toldOf_55 : decode cX4_toldOf 55 = .ok (.iload_n 1, 1) := by decide +kernel
theorem dX4_toldOf_56 : decode cX4_toldOf 56 = .ok (.iaload, 1) := by decide +kernel
theorem dX4_toldOf_57 : decode cX4_toldOf 57 = .ok (.iastore, 1) := by decide +kernel
theorem dX4_toldOf_58 : decode cX4_toldOf 58 = .ok (.dup, 1) := by decide +kernel
theorem dX4_toldOf_59 : decode cX4_toldOf 59 = .ok (.bipush 6, 2) := by decide +kernel
theorem dX4_toldOf_61 : decode cX4_toldOf 61 = .ok (.aload_n 0, 1) := by decide +kernel
theorem dX4_toldOf_62 : decode cX4_toldOf 62 = .ok (.getfield 46, 3) := by decide +kernel
theorem dX4_toldOf_65 : decode cX4_toldOf 65 = .ok (.iload_n 1, 1) := by decide +kernel
theorem dX4_toldOf_66 : decode cX4_toldOf 66 = .ok (.iaload, 1) := by decide +kernel
theorem dX4_toldOf_67 : decode cX4_toldOf 67 = .ok (.iastore, 1) := by decide +kernel
theorem dX4_toldOf_68 : decode cX4_toldOf 68 = .ok (.dup, 1) := by decide +kernel
theorem dX4_toldOf_69 : decode cX4_toldOf 69 = .ok (.bipush 7, 2) := by decide +kernel
theorem dX4_toldOf_71 : decode cX4_toldOf 71 = .ok (.aload_n 0, 1) := by decide +kernel
theorem dX4_toldOf_72 : decode cX4_toldOf 72 = .ok (.getfield 43, 3) := by decide +kernel
theorem dX4_toldOf_75 : decode cX4_toldOf 75 = .ok (.iload_n 1, 1) := by decide +kernel
theorem dX4_toldOf_76 : decode cX4_toldOf 76 = .ok (.iaload, 1) := by decide +kernel
theorem dX4_toldOf_77 : decode cX4_toldOf 77 = .ok (.aload_n 0, 1) := by decide +kernel
theorem dX4_toldOf_78 : decode cX4_toldOf 78 = .ok (.getfield 40, 3) := by decide +kernel
theorem dX4_toldOf_81 : decode cX4_toldOf 81 = .ok (.iload_n 1, 1) := by decide +kernel
theorem dX4_toldOf_82 : decode cX4_toldOf 82 = .ok (.iaload, 1) := by decide +kernel
theorem dX4_toldOf_83 : decode cX4_toldOf 83 = .ok (.iadd, 1) := by decide +kernel
theorem dX4_toldOf_84 : decode cX4_toldOf 84 = .ok (.aload_n 0, 1) := by decide +kernel
theorem dX4_toldOf_85 : decode cX4_toldOf 85 = .ok (.getfield 46, 3) := by decide +kernel
theorem dX4_toldOf_88 : decode cX4_toldOf 88 = .ok (.iload_n 1, 1) := by decide +kernel
theorem dX4_toldOf_89 : decode cX4_toldOf 89 = .ok (.iaload, 1) := by decide +kernel
theorem dX4_toldOf_90 : decode cX4_toldOf 90 = .ok (.isub, 1) := by decide +kernel
theorem dX4_toldOf_91 : decode cX4_toldOf 91 = .ok (.iastore, 1) := by decide +kernel
theorem dX4_toldOf_92 : decode cX4_toldOf 92 = .ok (.dup, 1) := by decide +kernel
theorem dX4_toldOf_93 : decode cX4_toldOf 93 = .ok (.bipush 8, 2) := by decide +kernel
theorem dX4_toldOf_95 : decode cX4_toldOf 95 = .ok (.aload_n 0, 1) := by decide +kernel
theorem dX4_toldOf_96 : decode cX4_toldOf 96 = .ok (.getfield 52, 3) := by decide +kernel
theorem dX4_toldOf_99 : decode cX4_toldOf 99 = .ok (.iload_n 1, 1) := by decide +kernel
theorem dX4_toldOf_100 : decode cX4_toldOf 100 = .ok (.iaload, 1) := by decide +kernel
theorem dX4_toldOf_101 : decode cX4_toldOf 101 = .ok (.iastore, 1) := by decide +kernel
theorem dX4_toldOf_102 : decode cX4_toldOf 102 = .ok (.dup, 1) := by decide +kernel
theorem dX4_toldOf_103 : decode cX4_toldOf 103 = .ok (.bipush 9, 2) := by decide +kernel
theorem dX4_toldOf_105 : decode cX4_toldOf 105 = .ok (.aload_n 0, 1) := by decide +kernel
theorem dX4_toldOf_106 : decode cX4_toldOf 106 = .ok (.iload_n 1, 1) := by decide +kernel
theorem dX4_toldOf_107 : decode cX4_toldOf 107 = .ok (.invokevirtual 134, 3) := by decide +kernel
theorem dX4_toldOf_110 : decode cX4_toldOf 110 = .ok (.iastore, 1) := by decide +kernel
theorem dX4_toldOf_111 : decode cX4_toldOf 111 = .ok (.dup, 1) := by decide +kernel
theorem dX4_toldOf_112 : decode cX4_toldOf 112 = .ok (.bipush 10, 2) := by decide +kernel
theorem dX4_toldOf_114 : decode cX4_toldOf 114 = .ok (.aload_n 0, 1) := by decide +kernel
theorem dX4_toldOf_115 : decode cX4_toldOf 115 = .ok (.iload_n 1, 1) := by decide +kernel
theorem dX4_toldOf_116 : decode cX4_toldOf 116 = .ok (.invokevirtual 137, 3) := by decide +kernel
theorem dX4_toldOf_119 : decode cX4_toldOf 119 = .ok (.iastore, 1) := by decide +kernel
theorem dX4_toldOf_120 : decode cX4_toldOf 120 = .ok (.dup, 1) := by decide +kernel
theorem dX4_toldOf_121 : decode cX4_toldOf 121 = .ok (.bipush 11, 2) := by decide +kernel
theorem dX4_toldOf_123 : decode cX4_toldOf 123 = .ok (.aload_n 0, 1) := by decide +kernel
theorem dX4_toldOf_124 : decode cX4_toldOf 124 = .ok (.getfield 55, 3) := by decide +kernel
theorem dX4_toldOf_127 : decode cX4_toldOf 127 = .ok (.iload_n 1, 1) := by decide +kernel
theorem dX4_toldOf_128 : decode cX4_toldOf 128 = .ok (.iaload, 1) := by decide +kernel
theorem dX4_toldOf_129 : decode cX4_toldOf 129 = .ok (.iastore, 1) := by decide +kernel
theorem dX4_toldOf_130 : decode cX4_toldOf 130 = .ok (.astore_n 3, 1) := by decide +kernel
theorem dX4_toldOf_131 : decode cX4_toldOf 131 = .ok (.aload_n 3, 1) := by decide +kernel
theorem dX4_toldOf_132 : decode cX4_toldOf 132 = .ok (.iload_n 2, 1) := by decide +kernel
theorem dX4_toldOf_133 : decode cX4_toldOf 133 = .ok (.iaload, 1) := by decide +kernel
theorem dX4_toldOf_134 : decode cX4_toldOf 134 = .ok (.ireturn, 1) := by decide +kernel
theorem dX4_told_0 : decode cX4_told 0 = .ok (.aload_n 0, 1) := by decide +kernel
theorem dX4_told_1 : decode cX4_told 1 = .ok (.iconst 0, 1) := by decide +kernel
theorem dX4_told_2 : decode cX4_told 2 = .ok (.putfield 61, 3) := by decide +kernel
theorem dX4_told_5 : decode cX4_told 5 = .ok (.aload_n 0, 1) := by decide +kernel
theorem dX4_told_6 : decode cX4_told 6 = .ok (.iload_n 1, 1) := by decide +kernel
theorem dX4_told_7 : decode cX4_told 7 = .ok (.invokevirtual 87, 3) := by decide +kernel
theorem dX4_told_10 : decode cX4_told 10 = .ok (.ifCond .eq 13, 3) := by decide +kernel
theorem dX4_told_13 : decode cX4_told 13 = .ok (.iload_n 2, 1) := by decide +kernel
theorem dX4_told_14 : decode cX4_told 14 = .ok (.iconst 0, 1) := by decide +kernel
theorem dX4_told_15 : decode cX4_told 15 = .ok (.bipush 11, 2) := by decide +kernel
theorem dX4_told_17 : decode cX4_told 17 = .ok (.invokestatic 68, 3) := by decide +kernel
theorem dX4_told_20 : decode cX4_told 20 = .ok (.ifCond .ne 9, 3) := by decide +kernel
theorem dX4_told_23 : decode cX4_told 23 = .ok (.aload_n 0, 1) := by decide +kernel
theorem dX4_told_24 : decode cX4_told 24 = .ok (.iconst 1, 1) := by decide +kernel
theorem dX4_told_25 : decode cX4_told 25 = .ok (.invokevirtual 75, 3) := by decide +kernel
theorem dX4_told_28 : decode cX4_told 28 = .ok (.ireturn, 1) := by decide +kernel
theorem dX4_told_29 : decode cX4_told 29 = .ok (.aload_n 0, 1) := by decide +kernel
theorem dX4_told_30 : decode cX4_told 30 = .ok (.invokevirtual 146, 3) := by decide +kernel
theorem dX4_told_33 : decode cX4_told 33 = .ok (.pop, 1) := by decide +kernel
theorem dX4_told_34 : decode cX4_told 34 = .ok (.aload_n 0, 1) := by decide +kernel
theorem dX4_told_35 : decode cX4_told 35 = .ok (.iload_n 1, 1) := by decide +kernel
theorem dX4_told_36 : decode cX4_told 36 = .ok (.iload_n 2, 1) := by decide +kernel
theorem dX4_told_37 : decode cX4_told 37 = .ok (.invokevirtual 150, 3) := by decide +kernel
theorem dX4_told_40 : decode cX4_told 40 = .ok (.ireturn, 1) := by decide +kernel
theorem dX4_stress_0 : decode cX4_stress 0 = .ok (.aload_n 0, 1) := by decide +kernel
theorem dX4_stress_1 : decode cX4_stress 1 = .ok (.iconst 0, 1) := by decide +kernel
theorem dX4_stress_2 : decode cX4_stress 2 = .ok (.putfield 61, 3) := by decide +kernel
theorem dX4_stress_5 : decode cX4_stress 5 = .ok (.aload_n 0, 1) := by decide +kernel
theorem dX4_stress_6 : decode cX4_stress 6 = .ok (.invokevirtual 146, 3) := by decide +kernel
theorem dX4_stress_9 : decode cX4_stress 9 = .ok (.pop, 1) := by decide +kernel
theorem dX4_stress_10 : decode cX4_stress 10 = .ok (.aload_n 0, 1) := by decide +kernel
theorem dX4_stress_11 : decode cX4_stress 11 = .ok (.iload_n 1, 1) := by decide +kernel
theorem dX4_stress_12 : decode cX4_stress 12 = .ok (.invokevirtual 87, 3) := by decide +kernel
theorem dX4_stress_15 : decode cX4_stress 15 = .ok (.ifCond .eq 32, 3) := by decide +kernel
theorem dX4_stress_18 : decode cX4_stress 18 = .ok (.iload_n 2, 1) := by decide +kernel
theorem dX4_stress_19 : decode cX4_stress 19 = .ok (.iconst 0, 1) := by decide +kernel
theorem dX4_stress_20 : decode cX4_stress 20 = .ok (.aload_n 0, 1) := by decide +kernel
theorem dX4_stress_21 : decode cX4_stress 21 = .ok (.getfield 46, 3) := by decide +kernel
theorem dX4_stress_24 : decode cX4_stress 24 = .ok (.iload_n 1, 1) := by decide +kernel
theorem dX4_stress_25 : decode cX4_stress 25 = .ok (.iaload, 1) := by decide +kernel
theorem dX4_stress_26 : decode cX4_stress 26 = .ok (.iconst 1, 1) := by decide +kernel
theorem dX4_stress_27 : decode cX4_stress 27 = .ok (.isub, 1) := by decide +kernel
theorem dX4_stress_28 : decode cX4_stress 28 = .ok (.invokestatic 68, 3) := by decide +kernel
theorem dX4_stress_31 : decode cX4_stress 31 = .ok (.ifCond .eq 16, 3) := by decide +kernel
theorem dX4_stress_34 : decode cX4_stress 34 = .ok (.aload_n 0, 1) := by decide +kernel
theorem dX4_stress_35 : decode cX4_stress 35 = .ok (.getfield 49, 3) := by decide +kernel
theorem dX4_stress_38 : decode cX4_stress 38 = .ok (.iload_n 1, 1) := by decide +kernel
theorem dX4_stress_39 : decode cX4_stress 39 = .ok (.iaload, 1) := by decide +kernel
theorem dX4_stress_40 : decode cX4_stress 40 = .ok (.iload_n 2, 1) := by decide +kernel
theorem dX4_stress_41 : decode cX4_stress 41 = .ok (.ishr, 1) := by decide +kernel
theorem dX4_stress_42 : decode cX4_stress 42 = .ok (.iconst 1, 1) := by decide +kernel
theorem dX4_stress_43 : decode cX4_stress 43 = .ok (.iand, 1) := by decide +kernel
theorem dX4_stress_44 : decode cX4_stress 44 = .ok (.goto 8, 3) := by decide +kernel
theorem dX4_stress_47 : decode cX4_stress 47 = .ok (.aload_n 0, 1) := by decide +kernel
theorem dX4_stress_48 : decode cX4_stress 48 = .ok (.iconst 1, 1) := by decide +kernel
theorem dX4_stress_49 : decode cX4_stress 49 = .ok (.invokevirtual 75, 3) := by decide +kernel
theorem dX4_stress_52 : decode cX4_stress 52 = .ok (.ireturn, 1) := by decide +kernel
theorem dX4_melted_0 : decode cX4_melted 0 = .ok (.aload_n 0, 1) := by decide +kernel
theorem dX4_melted_1 : decode cX4_melted 1 = .ok (.iconst 0, 1) := by decide +kernel
theorem dX4_melted_2 : decode cX4_melted 2 = .ok (.putfield 61, 3) := by decide +kernel
theorem dX4_melted_5 : decode cX4_melted 5 = .ok (.aload_n 0, 1) := by decide +kernel
theorem dX4_melted_6 : decode cX4_melted 6 = .ok (.iload_n 1, 1) := by decide +kernel
theorem dX4_melted_7 : decode cX4_melted 7 = .ok (.invokevirtual 87, 3) := by decide +kernel
theorem dX4_melted_10 : decode cX4_melted 10 = .ok (.ifCond .ne 9, 3) := by decide +kernel
theorem dX4_melted_13 : decode cX4_melted 13 = .ok (.aload_n 0, 1) := by decide +kernel
theorem dX4_melted_14 : decode cX4_melted 14 = .ok (.iconst 1, 1) := by decide +kernel
theorem dX4_melted_15 : decode cX4_melted 15 = .ok (.invokevirtual 75, 3) := by decide +kernel
theorem dX4_melted_18 : decode cX4_melted 18 = .ok (.ireturn, 1) := by decide +kernel
theorem dX4_melted_19 : decode cX4_melted 19 = .ok (.iconst 0, 1) := by decide +kernel
theorem dX4_melted_20 : decode cX4_melted 20 = .ok (.istore_n 2, 1) := by decide +kernel
theorem dX4_melted_21 : decode cX4_melted 21 = .ok (.iconst 0, 1) := by decide +kernel
theorem dX4_melted_22 : decode cX4_melted 22 = .ok (.istore_n 3, 1) := by decide +kernel
theorem dX4_melted_23 : decode cX4_melted 23 = .ok (.iload_n 3, 1) := by decide +kernel
theorem dX4_melted_24 : decode cX4_melted 24 = .ok (.aload_n 0, 1) := by decide +kernel
theorem dX4_melted_25 : decode cX4_melted 25 = .ok (.getfield 34, 3) := by decide +kernel
theorem dX4_melted_28 : decode cX4_melted 28 = .ok (.iload_n 1, 1) := by decide +kernel
theorem dX4_melted_29 : decode cX4_melted 29 = .ok (.iaload, 1) := by decide +kernel
theorem dX4_melted_30 : decode cX4_melted 30 = .ok (.if_icmp .ge 26, 3) := by decide +kernel
theorem dX4_melted_33 : decode cX4_melted 33 = .ok (.iload_n 2, 1) := by decide +kernel
theorem dX4_melted_34 : decode cX4_melted 34 = .ok (.aload_n 0, 1) := by decide +kernel
theorem dX4_melted_35 : decode cX4_melted 35 = .ok (.iload_n 1, 1) := by decide +kernel
theorem dX4_melted_36 : decode cX4_melted 36 = .ok (.iload_n 3, 1) := by decide +kernel
theorem dX4_melted_37 : decode cX4_melted 37 = .ok (.invokevirtual 90, 3) := by decide +kernel
theorem dX4_melted_40 : decode cX4_melted 40 = .ok (.ifCond .eq 7, 3) := by decide +kernel
theorem dX4_melted_43 : decode cX4_melted 43 = .ok (.iconst 1, 1) := by decide +kernel
theorem dX4_melted_44 : decode cX4_melted 44 = .ok (.goto 4, 3) := by decide +kernel
theorem dX4_melted_47 : decode cX4_melted 47 = .ok (.iconst 0, 1) := by decide +kernel
theorem dX4_melted_48 : decode cX4_melted 48 = .ok (.iadd, 1) := by decide +kernel
theorem dX4_melted_49 : decode cX4_melted 49 = .ok (.istore_n 2, 1) := by decide +kernel
theorem dX4_melted_50 : decode cX4_melted 50 = .ok (.iinc 3 1, 3) := by decide +kernel
theorem dX4_melted_53 : decode cX4_melted 53 = .ok (.goto (-30), 3) := by decide +kernel
theorem dX4_melted_56 : decode cX4_melted 56 = .ok (.iload_n 2, 1) := by decide +kernel
theorem dX4_melted_57 : decode cX4_melted 57 = .ok (.ireturn, 1) := by decide +kernel
theorem dX4_rhyme_0 : decode cX4_rhyme 0 = .ok (.aload_n 0, 1) := by decide +kernel
theorem dX4_rhyme_1 : decode cX4_rhyme 1 = .ok (.iconst 0, 1) := by decide +kernel
theorem dX4_rhyme_2 : decode cX4_rhyme 2 = .ok (.putfield 61, 3) := by decide +kernel
theorem dX4_rhyme_5 : decode cX4_rhyme 5 = .ok (.aload_n 0, 1) := by decide +kernel
theorem dX4_rhyme_6 : decode cX4_rhyme 6 = .ok (.iload_n 1, 1) := by decide +kernel
theorem dX4_rhyme_7 : decode cX4_rhyme 7 = .ok (.invokevirtual 87, 3) := by decide +kernel
theorem dX4_rhyme_10 : decode cX4_rhyme 10 = .ok (.ifCond .eq 20, 3) := by decide +kernel
theorem dX4_rhyme_13 : decode cX4_rhyme 13 = .ok (.aload_n 0, 1) := by decide +kernel
theorem dX4_rhyme_14 : decode cX4_rhyme 14 = .ok (.iload_n 2, 1) := by decide +kernel
theorem dX4_rhyme_15 : decode cX4_rhyme 15 = .ok (.invokevirtual 87, 3) := by decide +kernel
theorem dX4_rhyme_18 : decode cX4_rhyme 18 = .ok (.ifCond .eq 12, 3) := by decide +kernel
theorem dX4_rhyme_21 : decode cX4_rhyme 21 = .ok (.aload_n 0, 1) := by decide +kernel
theorem dX4_rhyme_22 : decode cX4_rhyme 22 = .ok (.iload_n 1, 1) := by decide +kernel
theorem dX4_rhyme_23 : decode cX4_rhyme 23 = .ok (.iload_n 2, 1) := by decide +kernel
theorem dX4_rhyme_24 : decode cX4_rhyme 24 = .ok (.invokevirtual 109, 3) := by decide +kernel
theorem dX4_rhyme_27 : decode cX4_rhyme 27 = .ok (.goto 8, 3) := by decide +kernel
theorem dX4_rhyme_30 : decode cX4_rhyme 30 = .ok (.aload_n 0, 1) := by decide +kernel
theorem dX4_rhyme_31 : decode cX4_rhyme 31 = .ok (.iconst 1, 1) := by decide +kernel
theorem dX4_rhyme_32 : decode cX4_rhyme 32 = .ok (.invokevirtual 75, 3) := by decide +kernel
theorem dX4_rhyme_35 : decode cX4_rhyme 35 = .ok (.ireturn, 1) := by decide +kernel
theorem dX4_scans_0 : decode cX4_scans 0 = .ok (.aload_n 0, 1) := by decide +kernel
theorem dX4_scans_1 : decode cX4_scans 1 = .ok (.iconst 0, 1) := by decide +kernel
theorem dX4_scans_2 : decode cX4_scans 2 = .ok (.putfield 61, 3) := by decide +kernel
theorem dX4_scans_5 : decode cX4_scans 5 = .ok (.aload_n 0, 1) := by decide +kernel
theorem dX4_scans_6 : decode cX4_scans 6 = .ok (.iload_n 1, 1) := by decide +kernel
theorem dX4_scans_7 : decode cX4_scans 7 = .ok (.invokevirtual 87, 3) := by decide +kernel
theorem dX4_scans_10 : decode cX4_scans 10 = .ok (.ifCond .ne 9, 3) := by decide +kernel
theorem dX4_scans_13 : decode cX4_scans 13 = .ok (.aload_n 0, 1) := by decide +kernel
theorem dX4_scans_14 : decode cX4_scans 14 = .ok (.iconst 1, 1) := by decide +kernel
theorem dX4_scans_15 : decode cX4_scans 15 = .ok (.invokevirtual 75, 3) := by decide +kernel
theorem dX4_scans_18 : decode cX4_scans 18 = .ok (.ireturn, 1) := by decide +kernel
theorem dX4_scans_19 : decode cX4_scans 19 = .ok (.aload_n 0, 1) := by decide +kernel
theorem dX4_scans_20 : decode cX4_scans 20 = .ok (.getfield 25, 3) := by decide +kernel
theorem dX4_scans_23 : decode cX4_scans 23 = .ok (.iload_n 1, 1) := by decide +kernel
theorem dX4_scans_24 : decode cX4_scans 24 = .ok (.iaload, 1) := by decide +kernel
theorem dX4_scans_25 : decode cX4_scans 25 = .ok (.istore_n 2, 1) := by decide +kernel
theorem dX4_scans_26 : decode cX4_scans 26 = .ok (.iconst 0, 1) := by decide +kernel
theorem dX4_scans_27 : decode cX4_scans 27 = .ok (.istore_n 3, 1) := by decide +kernel
theorem dX4_scans_28 : decode cX4_scans 28 = .ok (.ldc 153, 2) := by decide +kernel
theorem dX4_scans_30 : decode cX4_scans 30 = .ok (.istore 4, 2) := by decide +kernel
theorem dX4_scans_32 : decode cX4_scans 32 = .ok (.iconst 0, 1) := by decide +kernel
theorem dX4_scans_33 : decode cX4_scans 33 = .ok (.istore 5, 2) := by decide +kernel
theorem dX4_scans_35 : decode cX4_scans 35 = .ok (.iload 5, 2) := by decide +kernel
theorem dX4_scans_37 : decode cX4_scans 37 = .ok (.iconst 4, 1) := by decide +kernel
theorem dX4_scans_38 : decode cX4_scans 38 = .ok (.if_icmp .ge 59, 3) := by decide +kernel
theorem dX4_scans_41 : decode cX4_scans 41 = .ok (.aload_n 0, 1) := by decide +kernel
theorem dX4_scans_42 : decode cX4_scans 42 = .ok (.getfield 25, 3) := by decide +kernel
theorem dX4_scans_45 : decode cX4_scans 45 = .ok (.iload_n 1, 1) := by decide +kernel
theorem dX4_scans_46 : decode cX4_scans 46 = .ok (.iload 5, 2) := by decide +kernel
theorem dX4_scans_48 : decode cX4_scans 48 = .ok (.iastore, 1) := by decide +kernel
theorem dX4_scans_49 : decode cX4_scans 49 = .ok (.aload_n 0, 1) := by decide +kernel
theorem dX4_scans_50 : decode cX4_scans 50 = .ok (.invokevirtual 146, 3) := by decide +kernel
theorem dX4_scans_53 : decode cX4_scans 53 = .ok (.pop, 1) := by decide +kernel
theorem dX4_scans_54 : decode cX4_scans 54 = .ok (.aload_n 0, 1) := by decide +kernel
theorem dX4_scans_55 : decode cX4_scans 55 = .ok (.getfield 52, 3) := by decide +kernel
theorem dX4_scans_58 : decode cX4_scans 58 = .ok (.iload_n 1, 1) := by decide +kernel
theorem dX4_scans_59 : decode cX4_scans 59 = .ok (.iaload, 1) := by decide +kernel
theorem dX4_scans_60 : decode cX4_scans 60 = .ok (.aload_n 0, 1) := by decide +kernel
theorem dX4_scans_61 : decode cX4_scans 61 = .ok (.iload_n 1, 1) := by decide +kernel
theorem dX4_scans_62 : decode cX4_scans 62 = .ok (.invokevirtual 134, 3) := by decide +kernel
theorem dX4_scans_65 : decode cX4_scans 65 = .ok (.iadd, 1) := by decide +kernel
theorem dX4_scans_66 : decode cX4_scans 66 = .ok (.iload 4, 2) := by decide +kernel
theorem dX4_scans_68 : decode cX4_scans 68 = .ok (.if_icmp .lt 6, 3) := by decide +kernel
theorem dX4_scans_71 : decode cX4_scans 71 = .ok (.goto 20, 3) := by decide +kernel
theorem dX4_scans_74 : decode cX4_scans 74 = .ok (.aload_n 0, 1) := by decide +kernel
theorem dX4_scans_75 : decode cX4_scans 75 = .ok (.getfield 52, 3) := by decide +kernel
theorem dX4_scans_78 : decode cX4_scans 78 = .ok (.iload_n 1, 1) := by decide +kernel
theorem dX4_scans_79 : decode cX4_scans 79 = .ok (.iaload, 1) := by decide +kernel
theorem dX4_scans_80 : decode cX4_scans 80 = .ok (.aload_n 0, 1) := by decide +kernel
theorem dX4_scans_81 : decode cX4_scans 81 = .ok (.iload_n 1, 1) := by decide +kernel
theorem dX4_scans_82 : decode cX4_scans 82 = .ok (.invokevirtual 134, 3) := by decide +kernel
theorem dX4_scans_85 : decode cX4_scans 85 = .ok (.iadd, 1) := by decide +kernel
theorem dX4_scans_86 : decode cX4_scans 86 = .ok (.istore 4, 2) := by decide +kernel
theorem dX4_scans_88 : decode cX4_scans 88 = .ok (.iload 5, 2) := by decide +kernel
theorem dX4_scans_90 : decode cX4_scans 90 = .ok (.istore_n 3, 1) := by decide +kernel
theorem dX4_scans_91 : decode cX4_scans 91 = .ok (.iinc 5 1, 3) := by decide +kernel
theorem dX4_scans_94 : decode cX4_scans 94 = .ok (.goto (-59), 3) := by decide +kernel
theorem dX4_scans_97 : decode cX4_scans 97 = .ok (.aload_n 0, 1) := by decide +kernel
theorem dX4_scans_98 : decode cX4_scans 98 = .ok (.getfield 25, 3) := by decide +kernel
theorem dX4_scans_101 : decode cX4_scans 101 = .ok (.iload_n 1, 1) := by decide +kernel
theorem dX4_scans_102 : decode cX4_scans 102 = .ok (.iload_n 2, 1) := by decide +kernel
theorem dX4_scans_103 : decode cX4_scans 103 = .ok (.iastore, 1) := by decide +kernel
theorem dX4_scans_104 : decode cX4_scans 104 = .ok (.iload_n 3, 1) := by decide +kernel
theorem dX4_scans_105 : decode cX4_scans 105 = .ok (.ireturn, 1) := by decide +kernel
theorem dX4_counted_0 : decode cX4_counted 0 = .ok (.aload_n 0, 1) := by decide +kernel
theorem dX4_counted_1 : decode cX4_counted 1 = .ok (.invokevirtual 146, 3) := by decide +kernel
theorem dX4_counted_4 : decode cX4_counted 4 = .ok (.istore_n 2, 1) := by decide +kernel
theorem dX4_counted_5 : decode cX4_counted 5 = .ok (.iconst 0, 1) := by decide +kernel
theorem dX4_counted_6 : decode cX4_counted 6 = .ok (.istore_n 3, 1) := by decide +kernel
theorem dX4_counted_7 : decode cX4_counted 7 = .ok (.iconst 0, 1) := by decide +kernel
theorem dX4_counted_8 : decode cX4_counted 8 = .ok (.istore 4, 2) := by decide +kernel
theorem dX4_counted_10 : decode cX4_counted 10 = .ok (.iconst 0, 1) := by decide +kernel
theorem dX4_counted_11 : decode cX4_counted 11 = .ok (.istore 5, 2) := by decide +kernel
theorem dX4_counted_13 : decode cX4_counted 13 = .ok (.iconst 0, 1) := by decide +kernel
theorem dX4_counted_14 : decode cX4_counted 14 = .ok (.istore 6, 2) := by decide +kernel
theorem dX4_counted_16 : decode cX4_counted 16 = .ok (.iload 6, 2) := by decide +kernel
theorem dX4_counted_18 : decode cX4_counted 18 = .ok (.aload_n 0, 1) := by decide +kernel
theorem dX4_counted_19 : decode cX4_counted 19 = .ok (.getfield 72, 3) := by decide +kernel
theorem dX4_counted_22 : decode cX4_counted 22 = .ok (.if_icmp .ge 60, 3) := by decide +kernel
theorem dX4_counted_25 : decode cX4_counted 25 = .ok (.iload_n 3, 1) := by decide +kernel
theorem dX4_counted_26 : decode cX4_counted 26 = .ok (.aload_n 0, 1) := by decide +kernel
theorem dX4_counted_27 : decode cX4_counted 27 = .ok (.getfield 34, 3) := by decide +kernel
theorem dX4_counted_30 : decode cX4_counted 30 = .ok (.iload 6, 2) := by decide +kernel
theorem dX4_counted_32 : decode cX4_counted 32 = .ok (.iaload, 1) := by decide +kernel
theorem dX4_counted_33 : decode cX4_counted 33 = .ok (.iadd, 1) := by decide +kernel
theorem dX4_counted_34 : decode cX4_counted 34 = .ok (.istore_n 3, 1) := by decide +kernel
theorem dX4_counted_35 : decode cX4_counted 35 = .ok (.iload 4, 2) := by decide +kernel
theorem dX4_counted_37 : decode cX4_counted 37 = .ok (.aload_n 0, 1) := by decide +kernel
theorem dX4_counted_38 : decode cX4_counted 38 = .ok (.getfield 52, 3) := by decide +kernel
theorem dX4_counted_41 : decode cX4_counted 41 = .ok (.iload 6, 2) := by decide +kernel
theorem dX4_counted_43 : decode cX4_counted 43 = .ok (.iaload, 1) := by decide +kernel
theorem dX4_counted_44 : decode cX4_counted 44 = .ok (.ifCond .ne 16, 3) := by decide +kernel
theorem dX4_counted_47 : decode cX4_counted 47 = .ok (.aload_n 0, 1) := by decide +kernel
theorem dX4_counted_48 : decode cX4_counted 48 = .ok (.iload 6, 2) := by decide +kernel
theorem dX4_counted_50 : decode cX4_counted 50 = .ok (.invokevirtual 134, 3) := by decide +kernel
theorem dX4_counted_53 : decode cX4_counted 53 = .ok (.ifCond .ne 7, 3) := by decide +kernel
theorem dX4_counted_56 : decode cX4_counted 56 = .ok (.iconst 1, 1) := by decide +kernel
theorem dX4_counted_57 : decode cX4_counted 57 = .ok (.goto 4, 3) := by decide +kernel
theorem dX4_counted_60 : decode cX4_counted 60 = .ok (.iconst 0, 1) := by decide +kernel
theorem dX4_counted_61 : decode cX4_counted 61 = .ok (.iadd, 1) := by decide +kernel
theorem dX4_counted_62 : decode cX4_counted 62 = .ok (.istore 4, 2) := by decide +kernel
theorem dX4_counted_64 : decode cX4_counted 64 = .ok (.iload 5, 2) := by decide +kernel
theorem dX4_counted_66 : decode cX4_counted 66 = .ok (.aload_n 0, 1) := by decide +kernel
theorem dX4_counted_67 : decode cX4_counted 67 = .ok (.getfield 46, 3) := by decide +kernel
theorem dX4_counted_70 : decode cX4_counted 70 = .ok (.iload 6, 2) := by decide +kernel
theorem dX4_counted_72 : decode cX4_counted 72 = .ok (.iaload, 1) := by decide +kernel
theorem dX4_counted_73 : decode cX4_counted 73 = .ok (.iadd, 1) := by decide +kernel
theorem dX4_counted_74 : decode cX4_counted 74 = .ok (.istore 5, 2) := by decide +kernel
theorem dX4_counted_76 : decode cX4_counted 76 = .ok (.iinc 6 1, 3) := by decide +kernel
theorem dX4_counted_79 : decode cX4_counted 79 = .ok (.goto (-63), 3) := by decide +kernel
theorem dX4_counted_82 : decode cX4_counted 82 = .ok (.bipush 7, 2) := by decide +kernel
theorem dX4_counted_84 : decode cX4_counted 84 = .ok (.newarray .int, 2) := by decide +kernel
theorem dX4_counted_86 : decode cX4_counted 86 = .ok (.dup, 1) := by decide +kernel
theorem dX4_counted_87 : decode cX4_counted 87 = .ok (.iconst 0, 1) := by decide +kernel
theorem dX4_counted_88 : decode cX4_counted 88 = .ok (.aload_n 0, 1) := by decide +kernel
theorem dX4_counted_89 : decode cX4_counted 89 = .ok (.getfield 65, 3) := by decide +kernel
theorem dX4_counted_92 : decode cX4_counted 92 = .ok (.iastore, 1) := by decide +kernel
theorem dX4_counted_93 : decode cX4_counted 93 = .ok (.dup, 1) := by decide +kernel
theorem dX4_counted_94 : decode cX4_counted 94 = .ok (.iconst 1, 1) := by decide +kernel
theorem dX4_counted_95 : decode cX4_counted 95 = .ok (.aload_n 0, 1) := by decide +kernel
theorem dX4_counted_96 : decode cX4_counted 96 = .ok (.getfield 72, 3) := by decide +kernel
theorem dX4_counted_99 : decode cX4_counted 99 = .ok (.iastore, 1) := by decide +kernel
theorem dX4_counted_100 : decode cX4_counted 100 = .ok (.dup, 1) := by decide +kernel
theorem dX4_counted_101 : decode cX4_counted 101 = .ok (.iconst 2, 1) := by decide +kernel
theorem dX4_counted_102 : decode cX4_counted 102 = .ok (.iload_n 3, 1) := by decide +kernel
theorem dX4_counted_103 : decode cX4_counted 103 = .ok (.iastore, 1) := by decide +kernel
theorem dX4_counted_104 : decode cX4_counted 104 = .ok (.dup, 1) := by decide +kernel
theorem dX4_counted_105 : decode cX4_counted 105 = .ok (.iconst 3, 1) := by decide +kernel
theorem dX4_counted_106 : decode cX4_counted 106 = .ok (.iload 4, 2) := by decide +kernel
theorem dX4_counted_108 : decode cX4_counted 108 = .ok (.iastore, 1) := by decide +kernel
theorem dX4_counted_109 : decode cX4_counted 109 = .ok (.dup, 1) := by decide +kernel
theorem dX4_counted_110 : decode cX4_counted 110 = .ok (.iconst 4, 1) := by decide +kernel
theorem dX4_counted_111 : decode cX4_counted 111 = .ok (.iload 5, 2) := by decide +kernel
theorem dX4_counted_113 : decode cX4_counted 113 = .ok (.iastore, 1) := by decide +kernel
theorem dX4_counted_114 : decode cX4_counted 114 = .ok (.dup, 1) := by decide +kernel
theorem dX4_counted_115 : decode cX4_counted 115 = .ok (.iconst 5, 1) := by decide +kernel
theorem dX4_counted_116 : decode cX4_counted 116 = .ok (.aload_n 0, 1) := by decide +kernel
theorem dX4_counted_117 : decode cX4_counted 117 = .ok (.getfield 143, 3) := by decide +kernel
theorem dX4_counted_120 : decode cX4_counted 120 = .ok (.iastore, 1) := by decide +kernel
theorem dX4_counted_121 : decode cX4_counted 121 = .ok (.dup, 1) := by decide +kernel
theorem dX4_counted_122 : decode cX4_counted 122 = .ok (.bipush 6, 2) := by decide +kernel
theorem dX4_counted_124 : decode cX4_counted 124 = .ok (.iload_n 2, 1) := by decide +kernel
theorem dX4_counted_125 : decode cX4_counted 125 = .ok (.iastore, 1) := by decide +kernel
theorem dX4_counted_126 : decode cX4_counted 126 = .ok (.astore 6, 2) := by decide +kernel
theorem dX4_counted_128 : decode cX4_counted 128 = .ok (.aload 6, 2) := by decide +kernel
theorem dX4_counted_130 : decode cX4_counted 130 = .ok (.iload_n 1, 1) := by decide +kernel
theorem dX4_counted_131 : decode cX4_counted 131 = .ok (.iaload, 1) := by decide +kernel
theorem dX4_counted_132 : decode cX4_counted 132 = .ok (.ireturn, 1) := by decide +kernel
theorem dX4_count_0 : decode cX4_count 0 = .ok (.aload_n 0, 1) := by decide +kernel
theorem dX4_count_1 : decode cX4_count 1 = .ok (.iconst 0, 1) := by decide +kernel
theorem dX4_count_2 : decode cX4_count 2 = .ok (.putfield 61, 3) := by decide +kernel
theorem dX4_count_5 : decode cX4_count 5 = .ok (.iload_n 1, 1) := by decide +kernel
theorem dX4_count_6 : decode cX4_count 6 = .ok (.iconst 0, 1) := by decide +kernel
theorem dX4_count_7 : decode cX4_count 7 = .ok (.bipush 6, 2) := by decide +kernel
theorem dX4_count_9 : decode cX4_count 9 = .ok (.invokestatic 68, 3) := by decide +kernel
theorem dX4_count_12 : decode cX4_count 12 = .ok (.ifCond .eq 11, 3) := by decide +kernel
theorem dX4_count_15 : decode cX4_count 15 = .ok (.aload_n 0, 1) := by decide +kernel
theorem dX4_count_16 : decode cX4_count 16 = .ok (.iload_n 1, 1) := by decide +kernel
theorem dX4_count_17 : decode cX4_count 17 = .ok (.invokevirtual 154, 3) := by decide +kernel
theorem dX4_count_20 : decode cX4_count 20 = .ok (.goto 8, 3) := by decide +kernel
theorem dX4_count_23 : decode cX4_count 23 = .ok (.aload_n 0, 1) := by decide +kernel
theorem dX4_count_24 : decode cX4_count 24 = .ok (.iconst 1, 1) := by decide +kernel
theorem dX4_count_25 : decode cX4_count 25 = .ok (.invokevirtual 75, 3) := by decide +kernel
theorem dX4_count_28 : decode cX4_count 28 = .ok (.ireturn, 1) := by decide +kernel
theorem dX4_taxesWith_0 : decode cX4_taxesWith 0 = .ok (.aload_n 0, 1) := by decide +kernel
theorem dX4_taxesWith_1 : decode cX4_taxesWith 1 = .ok (.getfield 37, 3) := by decide +kernel
theorem dX4_taxesWith_4 : decode cX4_taxesWith 4 = .ok (.iload_n 1, 1) := by decide +kernel
theorem dX4_taxesWith_5 : decode cX4_taxesWith 5 = .ok (.iaload, 1) := by decide +kernel
theorem dX4_taxesWith_6 : decode cX4_taxesWith 6 = .ok (.istore_n 3, 1) := by decide +kernel
theorem dX4_taxesWith_7 : decode cX4_taxesWith 7 = .ok (.aload_n 0, 1) := by decide +kernel
theorem dX4_taxesWith_8 : decode cX4_taxesWith 8 = .ok (.getfield 37, 3) := by decide +kernel
theorem dX4_taxesWith_11 : decode cX4_taxesWith 11 = .ok (.iload_n 1, 1) := by decide +kernel
theorem dX4_taxesWith_12 : decode cX4_taxesWith 12 = .ok (.iload_n 2, 1) := by decide +kernel
theorem dX4_taxesWith_13 : decode cX4_taxesWith 13 = .ok (.iastore, 1) := by decide +kernel
theorem dX4_taxesWith_14 : decode cX4_taxesWith 14 = .ok (.aload_n 0, 1) := by decide +kernel
theorem dX4_taxesWith_15 : decode cX4_taxesWith 15 = .ok (.invokevirtual 146, 3) := by decide +kernel
theorem dX4_taxesWith_18 : decode cX4_taxesWith 18 = .ok (.istore 4, 2) := by decide +kernel
theorem dX4_taxesWith_20 : decode cX4_taxesWith 20 = .ok (.aload_n 0, 1) := by decide +kernel
theorem dX4_taxesWith_21 : decode cX4_taxesWith 21 = .ok (.getfield 37, 3) := by decide +kernel
theorem dX4_taxesWith_24 : decode cX4_taxesWith 24 = .ok (.iload_n 1, 1) := by decide +kernel
theorem dX4_taxesWith_25 : decode cX4_taxesWith 25 = .ok (.iload_n 3, 1) := by decide +kernel
theorem dX4_taxesWith_26 : decode cX4_taxesWith 26 = .ok (.iastore, 1) := by decide +kernel
theorem dX4_taxesWith_27 : decode cX4_taxesWith 27 = .ok (.iload 4, 2) := by decide +kernel
theorem dX4_taxesWith_29 : decode cX4_taxesWith 29 = .ok (.ireturn, 1) := by decide +kernel
theorem dX4_tries_0 : decode cX4_tries 0 = .ok (.aload_n 0, 1) := by decide +kernel
theorem dX4_tries_1 : decode cX4_tries 1 = .ok (.iconst 0, 1) := by decide +kernel
theorem dX4_tries_2 : decode cX4_tries 2 = .ok (.putfield 61, 3) := by decide +kernel
theorem dX4_tries_5 : decode cX4_tries 5 = .ok (.aload_n 0, 1) := by decide +kernel
theorem dX4_tries_6 : decode cX4_tries 6 = .ok (.iload_n 1, 1) := by decide +kernel
theorem dX4_tries_7 : decode cX4_tries 7 = .ok (.invokevirtual 87, 3) := by decide +kernel
theorem dX4_tries_10 : decode cX4_tries 10 = .ok (.ifCond .eq 41, 3) := by decide +kernel
theorem dX4_tries_13 : decode cX4_tries 13 = .ok (.iload_n 2, 1) := by decide +kernel
theorem dX4_tries_14 : decode cX4_tries 14 = .ok (.iconst 0, 1) := by decide +kernel
theorem dX4_tries_15 : decode cX4_tries 15 = .ok (.aload_n 0, 1) := by decide +kernel
theorem dX4_tries_16 : decode cX4_tries 16 = .ok (.getfield 34, 3) := by decide +kernel
theorem dX4_tries_19 : decode cX4_tries 19 = .ok (.iload_n 1, 1) := by decide +kernel
theorem dX4_tries_20 : decode cX4_tries 20 = .ok (.iaload, 1) := by decide +kernel
theorem dX4_tries_21 : decode cX4_tries 21 = .ok (.iconst 1, 1) := by decide +kernel
theorem dX4_tries_22 : decode cX4_tries 22 = .ok (.isub, 1) := by decide +kernel
theorem dX4_tries_23 : decode cX4_tries 23 = .ok (.invokestatic 68, 3) := by decide +kernel
theorem dX4_tries_26 : decode cX4_tries 26 = .ok (.ifCond .eq 25, 3) := by decide +kernel
theorem dX4_tries_29 : decode cX4_tries 29 = .ok (.aload_n 0, 1) := by decide +kernel
theorem dX4_tries_30 : decode cX4_tries 30 = .ok (.iload_n 3, 1) := by decide +kernel
theorem dX4_tries_31 : decode cX4_tries 31 = .ok (.invokevirtual 79, 3) := by decide +kernel
theorem dX4_tries_34 : decode cX4_tries 34 = .ok (.ifCond .eq 17, 3) := by decide +kernel
theorem dX4_tries_37 : decode cX4_tries 37 = .ok (.aload_n 0, 1) := by decide +kernel
theorem dX4_tries_38 : decode cX4_tries 38 = .ok (.bipush 8, 2) := by decide +kernel
theorem dX4_tries_40 : decode cX4_tries 40 = .ok (.iload_n 1, 1) := by decide +kernel
theorem dX4_tries_41 : decode cX4_tries 41 = .ok (.imul, 1) := by decide +kernel
theorem dX4_tries_42 : decode cX4_tries 42 = .ok (.iload_n 2, 1) := by decide +kernel
theorem dX4_tries_43 : decode cX4_tries 43 = .ok (.iadd, 1) := by decide +kernel
theorem dX4_tries_44 : decode cX4_tries 44 = .ok (.iload_n 3, 1) := by decide +kernel
theorem dX4_tries_45 : decode cX4_tries 45 = .ok (.invokevirtual 157, 3) := by decide +kernel
theorem dX4_tries_48 : decode cX4_tries 48 = .ok (.goto 8, 3) := by decide +kernel
theorem dX4_tries_51 : decode cX4_tries 51 = .ok (.aload_n 0, 1) := by decide +kernel
theorem dX4_tries_52 : decode cX4_tries 52 = .ok (.iconst 1, 1) := by decide +kernel
theorem dX4_tries_53 : decode cX4_tries 53 = .ok (.invokevirtual 75, 3) := by decide +kernel
theorem dX4_tries_56 : decode cX4_tries 56 = .ok (.ireturn, 1) := by decide +kernel
theorem dX4_best_0 : decode cX4_best 0 = .ok (.aload_n 0, 1) := by decide +kernel
theorem dX4_best_1 : decode cX4_best 1 = .ok (.iconst 0, 1) := by decide +kernel
theorem dX4_best_2 : decode cX4_best 2 = .ok (.putfield 61, 3) := by decide +kernel
theorem dX4_best_5 : decode cX4_best 5 = .ok (.aload_n 0, 1) := by decide +kernel
theorem dX4_best_6 : decode cX4_best 6 = .ok (.iload_n 1, 1) := by decide +kernel
theorem dX4_best_7 : decode cX4_best 7 = .ok (.invokevirtual 87, 3) := by decide +kernel
theorem dX4_best_10 : decode cX4_best 10 = .ok (.ifCond .eq 19, 3) := by decide +kernel
theorem dX4_best_13 : decode cX4_best 13 = .ok (.iload_n 2, 1) := by decide +kernel
theorem dX4_best_14 : decode cX4_best 14 = .ok (.iconst 0, 1) := by decide +kernel
theorem dX4_best_15 : decode cX4_best 15 = .ok (.aload_n 0, 1) := by decide +kernel
theorem dX4_best_16 : decode cX4_best 16 = .ok (.getfield 34, 3) := by decide +kernel
theorem dX4_best_19 : decode cX4_best 19 = .ok (.iload_n 1, 1) := by decide +kernel
theorem dX4_best_20 : decode cX4_best 20 = .ok (.iaload, 1) := by decide +kernel
theorem dX4_best_21 : decode cX4_best 21 = .ok (.iconst 1, 1) := by decide +kernel
theorem dX4_best_22 : decode cX4_best 22 = .ok (.isub, 1) := by decide +kernel
theorem dX4_best_23 : decode cX4_best 23 = .ok (.invokestatic 68, 3) := by decide +kernel
theorem dX4_best_26 : decode cX4_best 26 = .ok (.ifCond .ne 9, 3) := by decide +kernel
theorem dX4_best_29 : decode cX4_best 29 = .ok (.aload_n 0, 1) := by decide +kernel
theorem dX4_best_30 : decode cX4_best 30 = .ok (.iconst 1, 1) := by decide +kernel
theorem dX4_best_31 : decode cX4_best 31 = .ok (.invokevirtual 75, 3) := by decide +kernel
theorem dX4_best_34 : decode cX4_best 34 = .ok (.ireturn, 1) := by decide +kernel
theorem dX4_best_35 : decode cX4_best 35 = .ok (.iconst (-1), 1) := by decide +kernel
theorem dX4_best_36 : decode cX4_best 36 = .ok (.istore_n 3, 1) := by decide +kernel
theorem dX4_best_37 : decode cX4_best 37 = .ok (.ldc 153, 2) := by decide +kernel
theorem dX4_best_39 : decode cX4_best 39 = .ok (.istore 4, 2) := by decide +kernel
theorem dX4_best_41 : decode cX4_best 41 = .ok (.iconst 0, 1) := by decide +kernel
theorem dX4_best_42 : decode cX4_best 42 = .ok (.istore 5, 2) := by decide +kernel
theorem dX4_best_44 : decode cX4_best 44 = .ok (.iload 5, 2) := by decide +kernel
theorem dX4_best_46 : decode cX4_best 46 = .ok (.aload_n 0, 1) := by decide +kernel
theorem dX4_best_47 : decode cX4_best 47 = .ok (.getfield 65, 3) := by decide +kernel
theorem dX4_best_50 : decode cX4_best 50 = .ok (.if_icmp .ge 40, 3) := by decide +kernel
theorem dX4_best_53 : decode cX4_best 53 = .ok (.aload_n 0, 1) := by decide +kernel
theorem dX4_best_54 : decode cX4_best 54 = .ok (.bipush 8, 2) := by decide +kernel
theorem dX4_best_56 : decode cX4_best 56 = .ok (.iload_n 1, 1) := by decide +kernel
theorem dX4_best_57 : decode cX4_best 57 = .ok (.imul, 1) := by decide +kernel
theorem dX4_best_58 : decode cX4_best 58 = .ok (.iload_n 2, 1) := by decide +kernel
theorem dX4_best_59 : decode cX4_best 59 = .ok (.iadd, 1) := by decide +kernel
theorem dX4_best_60 : decode cX4_best 60 = .ok (.iload 5, 2) := by decide +kernel
theorem dX4_best_62 : decode cX4_best 62 = .ok (.invokevirtual 157, 3) := by decide +kernel
theorem dX4_best_65 : decode cX4_best 65 = .ok (.istore 6, 2) := by decide +kernel
theorem dX4_best_67 : decode cX4_best 67 = .ok (.iload 6, 2) := by decide +kernel
theorem dX4_best_69 : decode cX4_best 69 = .ok (.iload 4, 2) := by decide +kernel
theorem dX4_best_71 : decode cX4_best 71 = .ok (.if_icmp .lt 6, 3) := by decide +kernel
theorem dX4_best_74 : decode cX4_best 74 = .ok (.goto 10, 3) := by decide +kernel
theorem dX4_best_77 : decode cX4_best 77 = .ok (.iload 6, 2) := by decide +kernel
theorem dX4_best_79 : decode cX4_best 79 = .ok (.istore 4, 2) := by decide +kernel
theorem dX4_best_81 : decode cX4_best 81 = .ok (.iload 5, 2) := by decide +kernel
theorem dX4_best_83 : decode cX4_best 83 = .ok (.istore_n 3, 1) := by decide +kernel
theorem dX4_best_84 : decode cX4_best 84 = .ok (.iinc 5 1, 3) := by decide +kernel
theorem dX4_best_87 : decode cX4_best 87 = .ok (.goto (-43), 3) := by decide +kernel
theorem dX4_best_90 : decode cX4_best 90 = .ok (.iload_n 3, 1) := by decide +kernel
theorem dX4_best_91 : decode cX4_best 91 = .ok (.ireturn, 1) := by decide +kernel
theorem dX4_worst_0 : decode cX4_worst 0 = .ok (.aload_n 0, 1) := by decide +kernel
theorem dX4_worst_1 : decode cX4_worst 1 = .ok (.iconst 0, 1) := by decide +kernel
theorem dX4_worst_2 : decode cX4_worst 2 = .ok (.putfield 61, 3) := by decide +kernel
theorem dX4_worst_5 : decode cX4_worst 5 = .ok (.aload_n 0, 1) := by decide +kernel
theorem dX4_worst_6 : decode cX4_worst 6 = .ok (.invokevirtual 146, 3) := by decide +kernel
theorem dX4_worst_9 : decode cX4_worst 9 = .ok (.istore_n 1, 1) := by decide +kernel
theorem dX4_worst_10 : decode cX4_worst 10 = .ok (.iconst (-1), 1) := by decide +kernel
theorem dX4_worst_11 : decode cX4_worst 11 = .ok (.istore_n 2, 1) := by decide +kernel
theorem dX4_worst_12 : decode cX4_worst 12 = .ok (.iconst 0, 1) := by decide +kernel
theorem dX4_worst_13 : decode cX4_worst 13 = .ok (.istore_n 3, 1) := by decide +kernel
theorem dX4_worst_14 : decode cX4_worst 14 = .ok (.iload_n 3, 1) := by decide +kernel
theorem dX4_worst_15 : decode cX4_worst 15 = .ok (.aload_n 0, 1) := by decide +kernel
theorem dX4_worst_16 : decode cX4_worst 16 = .ok (.getfield 72, 3) := by decide +kernel
theorem dX4_worst_19 : decode cX4_worst 19 = .ok (.if_icmp .ge 82, 3) := by decide +kernel
theorem dX4_worst_22 : decode cX4_worst 22 = .ok (.iconst 0, 1) := by decide +kernel
theorem dX4_worst_23 : decode cX4_worst 23 = .ok (.istore 4, 2) := by decide +kernel
theorem dX4_worst_25 : decode cX4_worst 25 = .ok (.iload 4, 2) := by decide +kernel
theorem dX4_worst_27 : decode cX4_worst 27 = .ok (.aload_n 0, 1) := by decide +kernel
theorem dX4_worst_28 : decode cX4_worst 28 = .ok (.getfield 34, 3) := by decide +kernel
theorem dX4_worst_31 : decode cX4_worst 31 = .ok (.iload_n 3, 1) := by decide +kernel
theorem dX4_worst_32 : decode cX4_worst 32 = .ok (.iaload, 1) := by decide +kernel
theorem dX4_worst_33 : decode cX4_worst 33 = .ok (.if_icmp .ge 62, 3) := by decide +kernel
theorem dX4_worst_36 : decode cX4_worst 36 = .ok (.iconst 0, 1) := by decide +kernel
theorem dX4_worst_37 : decode cX4_worst 37 = .ok (.istore 5, 2) := by decide +kernel
theorem dX4_worst_39 : decode cX4_worst 39 = .ok (.iload 5, 2) := by decide +kernel
theorem dX4_worst_41 : decode cX4_worst 41 = .ok (.aload_n 0, 1) := by decide +kernel
theorem dX4_worst_42 : decode cX4_worst 42 = .ok (.getfield 65, 3) := by decide +kernel
theorem dX4_worst_45 : decode cX4_worst 45 = .ok (.if_icmp .ge 44, 3) := by decide +kernel
theorem dX4_worst_48 : decode cX4_worst 48 = .ok (.aload_n 0, 1) := by decide +kernel
theorem dX4_worst_49 : decode cX4_worst 49 = .ok (.bipush 8, 2) := by decide +kernel
theorem dX4_worst_51 : decode cX4_worst 51 = .ok (.iload_n 3, 1) := by decide +kernel
theorem dX4_worst_52 : decode cX4_worst 52 = .ok (.imul, 1) := by decide +kernel
theorem dX4_worst_53 : decode cX4_worst 53 = .ok (.iload 4, 2) := by decide +kernel
theorem dX4_worst_55 : decode cX4_worst 55 = .ok (.iadd, 1) := by decide +kernel
theorem dX4_worst_56 : decode cX4_worst 56 = .ok (.iload 5, 2) := by decide +kernel
theorem dX4_worst_58 : decode cX4_worst 58 = .ok (.invokevirtual 157, 3) := by decide +kernel
theorem dX4_worst_61 : decode cX4_worst 61 = .ok (.istore 6, 2) := by decide +kernel
theorem dX4_worst_63 : decode cX4_worst 63 = .ok (.iload 6, 2) := by decide +kernel
theorem dX4_worst_65 : decode cX4_worst 65 = .ok (.iload_n 1, 1) := by decide +kernel
theorem dX4_worst_66 : decode cX4_worst 66 = .ok (.if_icmp .lt 6, 3) := by decide +kernel
theorem dX4_worst_69 : decode cX4_worst 69 = .ok (.goto 14, 3) := by decide +kernel
theorem dX4_worst_72 : decode cX4_worst 72 = .ok (.iload 6, 2) := by decide +kernel
theorem dX4_worst_74 : decode cX4_worst 74 = .ok (.istore_n 1, 1) := by decide +kernel
theorem dX4_worst_75 : decode cX4_worst 75 = .ok (.bipush 10, 2) := by decide +kernel
theorem dX4_worst_77 : decode cX4_worst 77 = .ok (.iload_n 3, 1) := by decide +kernel
theorem dX4_worst_78 : decode cX4_worst 78 = .ok (.imul, 1) := by decide +kernel
theorem dX4_worst_79 : decode cX4_worst 79 = .ok (.iload 4, 2) := by decide +kernel
theorem dX4_worst_81 : decode cX4_worst 81 = .ok (.iadd, 1) := by decide +kernel
theorem dX4_worst_82 : decode cX4_worst 82 = .ok (.istore_n 2, 1) := by decide +kernel
theorem dX4_worst_83 : decode cX4_worst 83 = .ok (.iinc 5 1, 3) := by decide +kernel
theorem dX4_worst_86 : decode cX4_worst 86 = .ok (.goto (-47), 3) := by decide +kernel
theorem dX4_worst_89 : decode cX4_worst 89 = .ok (.iinc 4 1, 3) := by decide +kernel
theorem dX4_worst_92 : decode cX4_worst 92 = .ok (.goto (-67), 3) := by decide +kernel
theorem dX4_worst_95 : decode cX4_worst 95 = .ok (.iinc 3 1, 3) := by decide +kernel
theorem dX4_worst_98 : decode cX4_worst 98 = .ok (.goto (-84), 3) := by decide +kernel
theorem dX4_worst_101 : decode cX4_worst 101 = .ok (.iload_n 2, 1) := by decide +kernel
theorem dX4_worst_102 : decode cX4_worst 102 = .ok (.ireturn, 1) := by decide +kernel
theorem dX4_mean_0 : decode cX4_mean 0 = .ok (.aload_n 0, 1) := by decide +kernel
theorem dX4_mean_1 : decode cX4_mean 1 = .ok (.iconst 0, 1) := by decide +kernel
theorem dX4_mean_2 : decode cX4_mean 2 = .ok (.putfield 61, 3) := by decide +kernel
theorem dX4_mean_5 : decode cX4_mean 5 = .ok (.aload_n 0, 1) := by decide +kernel
theorem dX4_mean_6 : decode cX4_mean 6 = .ok (.getfield 72, 3) := by decide +kernel
theorem dX4_mean_9 : decode cX4_mean 9 = .ok (.ifCond .ne 7, 3) := by decide +kernel
theorem dX4_mean_12 : decode cX4_mean 12 = .ok (.dconst 0, 1) := by decide +kernel
theorem dX4_mean_13 : decode cX4_mean 13 = .ok (.goto 14, 3) := by decide +kernel
theorem dX4_mean_16 : decode cX4_mean 16 = .ok (.aload_n 0, 1) := by decide +kernel
theorem dX4_mean_17 : decode cX4_mean 17 = .ok (.invokevirtual 146, 3) := by decide +kernel
theorem dX4_mean_20 : decode cX4_mean 20 = .ok (.i2d, 1) := by decide +kernel
theorem dX4_mean_21 : decode cX4_mean 21 = .ok (.aload_n 0, 1) := by decide +kernel
theorem dX4_mean_22 : decode cX4_mean 22 = .ok (.getfield 72, 3) := by decide +kernel
theorem dX4_mean_25 : decode cX4_mean 25 = .ok (.i2d, 1) := by decide +kernel
theorem dX4_mean_26 : decode cX4_mean 26 = .ok (.ddiv, 1) := by decide +kernel
theorem dX4_mean_27 : decode cX4_mean 27 = .ok (.dreturn, 1) := by decide +kernel
theorem dX4_digest_0 : decode cX4_digest 0 = .ok (.aload_n 0, 1) := by decide +kernel
theorem dX4_digest_1 : decode cX4_digest 1 = .ok (.iconst 0, 1) := by decide +kernel
theorem dX4_digest_2 : decode cX4_digest 2 = .ok (.putfield 61, 3) := by decide +kernel
theorem dX4_digest_5 : decode cX4_digest 5 = .ok (.ldc2_w 160, 3) := by decide +kernel
theorem dX4_digest_8 : decode cX4_digest 8 = .ok (.lstore_n 1, 1) := by decide +kernel
theorem dX4_digest_9 : decode cX4_digest 9 = .ok (.iconst 0, 1) := by decide +kernel
theorem dX4_digest_10 : decode cX4_digest 10 = .ok (.istore_n 3, 1) := by decide +kernel
theorem dX4_digest_11 : decode cX4_digest 11 = .ok (.iload_n 3, 1) := by decide +kernel
theorem dX4_digest_12 : decode cX4_digest 12 = .ok (.bipush 7, 2) := by decide +kernel
theorem dX4_digest_14 : decode cX4_digest 14 = .ok (.if_icmp .ge 22, 3) := by decide +kernel
theorem dX4_digest_17 : decode cX4_digest 17 = .ok (.lload_n 1, 1) := by decide +kernel
theorem dX4_digest_18 : decode cX4_digest 18 = .ok (.ldc2_w 162, 3) := by decide +kernel
theorem dX4_digest_21 : decode cX4_digest 21 = .ok (.lmul, 1) := by decide +kernel
theorem dX4_digest_22 : decode cX4_digest 22 = .ok (.aload_n 0, 1) := by decide +kernel
theorem dX4_digest_23 : decode cX4_digest 23 = .ok (.iload_n 3, 1) := by decide +kernel
theorem dX4_digest_24 : decode cX4_digest 24 = .ok (.invokevirtual 154, 3) := by decide +kernel
theorem dX4_digest_27 : decode cX4_digest 27 = .ok (.i2l, 1) := by decide +kernel
theorem dX4_digest_28 : decode cX4_digest 28 = .ok (.ladd, 1) := by decide +kernel
theorem dX4_digest_29 : decode cX4_digest 29 = .ok (.lstore_n 1, 1) := by decide +kernel
theorem dX4_digest_30 : decode cX4_digest 30 = .ok (.iinc 3 1, 3) := by decide +kernel
theorem dX4_digest_33 : decode cX4_digest 33 = .ok (.goto (-22), 3) := by decide +kernel
theorem dX4_digest_36 : decode cX4_digest 36 = .ok (.iconst 0, 1) := by decide +kernel
theorem dX4_digest_37 : decode cX4_digest 37 = .ok (.istore_n 3, 1) := by decide +kernel
theorem dX4_digest_38 : decode cX4_digest 38 = .ok (.iload_n 3, 1) := by decide +kernel
theorem dX4_digest_39 : decode cX4_digest 39 = .ok (.aload_n 0, 1) := by decide +kernel
theorem dX4_digest_40 : decode cX4_digest 40 = .ok (.getfield 65, 3) := by decide +kernel
theorem dX4_digest_43 : decode cX4_digest 43 = .ok (.if_icmp .ge 40, 3) := by decide +kernel
theorem dX4_digest_46 : decode cX4_digest 46 = .ok (.iconst 0, 1) := by decide +kernel
theorem dX4_digest_47 : decode cX4_digest 47 = .ok (.istore 4, 2) := by decide +kernel
theorem dX4_digest_49 : decode cX4_digest 49 = .ok (.iload 4, 2) := by decide +kernel
theorem dX4_digest_51 : decode cX4_digest 51 = .ok (.bipush 6, 2) := by decide +kernel
theorem dX4_digest_53 : decode cX4_digest 53 = .ok (.if_icmp .ge 24, 3) := by decide +kernel
