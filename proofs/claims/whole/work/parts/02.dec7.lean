theorem d_M_shorten_0 : decode b_M_shorten 0 = .ok (.aload_n 0, 1) := by decide +kernel
theorem d_M_shorten_1 : decode b_M_shorten 1 = .ok (.iconst 0, 1) := by decide +kernel
theorem d_M_shorten_2 : decode b_M_shorten 2 = .ok (.putfield 7, 3) := by decide +kernel
theorem d_M_shorten_5 : decode b_M_shorten 5 = .ok (.aload_n 0, 1) := by decide +kernel
theorem d_M_shorten_6 : decode b_M_shorten 6 = .ok (.iload_n 1, 1) := by decide +kernel
theorem d_M_shorten_7 : decode b_M_shorten 7 = .ok (.iconst 0, 1) := by decide +kernel
theorem d_M_shorten_8 : decode b_M_shorten 8 = .ok (.invokevirtual 100, 3) := by decide +kernel
theorem d_M_shorten_11 : decode b_M_shorten 11 = .ok (.ireturn, 1) := by decide +kernel
theorem d_M_halves_0 : decode b_M_halves 0 = .ok (.aload_n 0, 1) := by decide +kernel
theorem d_M_halves_1 : decode b_M_halves 1 = .ok (.iconst 0, 1) := by decide +kernel
theorem d_M_halves_2 : decode b_M_halves 2 = .ok (.putfield 7, 3) := by decide +kernel
theorem d_M_halves_5 : decode b_M_halves 5 = .ok (.aload_n 0, 1) := by decide +kernel
theorem d_M_halves_6 : decode b_M_halves 6 = .ok (.iload_n 1, 1) := by decide +kernel
theorem d_M_halves_7 : decode b_M_halves 7 = .ok (.iconst 1, 1) := by decide +kernel
theorem d_M_halves_8 : decode b_M_halves 8 = .ok (.invokevirtual 100, 3) := by decide +kernel
theorem d_M_halves_11 : decode b_M_halves 11 = .ok (.ireturn, 1) := by decide +kernel
theorem d_M_take_0 : decode b_M_take 0 = .ok (.aload_n 0, 1) := by decide +kernel
theorem d_M_take_1 : decode b_M_take 1 = .ok (.iload_n 1, 1) := by decide +kernel
theorem d_M_take_2 : decode b_M_take 2 = .ok (.ifCond .lt 9, 3) := by decide +kernel
theorem d_M_take_5 : decode b_M_take 5 = .ok (.iload_n 1, 1) := by decide +kernel
theorem d_M_take_6 : decode b_M_take 6 = .ok (.ldc 76, 2) := by decide +kernel
theorem d_M_take_8 : decode b_M_take 8 = .ok (.if_icmp .le 7, 3) := by decide +kernel
theorem d_M_take_11 : decode b_M_take 11 = .ok (.iconst 1, 1) := by decide +kernel
theorem d_M_take_12 : decode b_M_take 12 = .ok (.goto 4, 3) := by decide +kernel
theorem d_M_take_15 : decode b_M_take 15 = .ok (.iconst 0, 1) := by decide +kernel
theorem d_M_take_16 : decode b_M_take 16 = .ok (.putfield 7, 3) := by decide +kernel
theorem d_M_take_19 : decode b_M_take 19 = .ok (.aload_n 0, 1) := by decide +kernel
theorem d_M_take_20 : decode b_M_take 20 = .ok (.getfield 7, 3) := by decide +kernel
theorem d_M_take_23 : decode b_M_take 23 = .ok (.ifCond .le 5, 3) := by decide +kernel
theorem d_M_take_26 : decode b_M_take 26 = .ok (.iconst 0, 1) := by decide +kernel
theorem d_M_take_27 : decode b_M_take 27 = .ok (.ireturn, 1) := by decide +kernel
theorem d_M_take_28 : decode b_M_take 28 = .ok (.aload_n 0, 1) := by decide +kernel
theorem d_M_take_29 : decode b_M_take 29 = .ok (.getfield 104, 3) := by decide +kernel
theorem d_M_take_32 : decode b_M_take 32 = .ok (.ifCond .ne 22, 3) := by decide +kernel
theorem d_M_take_35 : decode b_M_take 35 = .ok (.iload_n 1, 1) := by decide +kernel
theorem d_M_take_36 : decode b_M_take 36 = .ok (.iconst 4, 1) := by decide +kernel
theorem d_M_take_37 : decode b_M_take 37 = .ok (.irem, 1) := by decide +kernel
theorem d_M_take_38 : decode b_M_take 38 = .ok (.iconst 3, 1) := by decide +kernel
theorem d_M_take_39 : decode b_M_take 39 = .ok (.if_icmp .ne 15, 3) := by decide +kernel
theorem d_M_take_42 : decode b_M_take 42 = .ok (.aload_n 0, 1) := by decide +kernel
theorem d_M_take_43 : decode b_M_take 43 = .ok (.iconst 1, 1) := by decide +kernel
theorem d_M_take_44 : decode b_M_take 44 = .ok (.putfield 104, 3) := by decide +kernel
theorem d_M_take_47 : decode b_M_take 47 = .ok (.aload_n 0, 1) := by decide +kernel
theorem d_M_take_48 : decode b_M_take 48 = .ok (.iload_n 1, 1) := by decide +kernel
theorem d_M_take_49 : decode b_M_take 49 = .ok (.putfield 108, 3) := by decide +kernel
theorem d_M_take_52 : decode b_M_take 52 = .ok (.iconst 0, 1) := by decide +kernel
theorem d_M_take_53 : decode b_M_take 53 = .ok (.ireturn, 1) := by decide +kernel
theorem d_M_take_54 : decode b_M_take 54 = .ok (.aload_n 0, 1) := by decide +kernel
theorem d_M_take_55 : decode b_M_take 55 = .ok (.aload_n 0, 1) := by decide +kernel
theorem d_M_take_56 : decode b_M_take 56 = .ok (.getfield 104, 3) := by decide +kernel
theorem d_M_take_59 : decode b_M_take 59 = .ok (.ifCond .eq 15, 3) := by decide +kernel
theorem d_M_take_62 : decode b_M_take 62 = .ok (.aload_n 0, 1) := by decide +kernel
theorem d_M_take_63 : decode b_M_take 63 = .ok (.getfield 108, 3) := by decide +kernel
theorem d_M_take_66 : decode b_M_take 66 = .ok (.iload_n 1, 1) := by decide +kernel
theorem d_M_take_67 : decode b_M_take 67 = .ok (.bipush 16, 2) := by decide +kernel
theorem d_M_take_69 : decode b_M_take 69 = .ok (.ishl, 1) := by decide +kernel
theorem d_M_take_70 : decode b_M_take 70 = .ok (.ior, 1) := by decide +kernel
theorem d_M_take_71 : decode b_M_take 71 = .ok (.goto 8, 3) := by decide +kernel
theorem d_M_take_74 : decode b_M_take 74 = .ok (.aload_n 0, 1) := by decide +kernel
theorem d_M_take_75 : decode b_M_take 75 = .ok (.iload_n 1, 1) := by decide +kernel
theorem d_M_take_76 : decode b_M_take 76 = .ok (.invokevirtual 77, 3) := by decide +kernel
theorem d_M_take_79 : decode b_M_take 79 = .ok (.putfield 111, 3) := by decide +kernel
theorem d_M_take_82 : decode b_M_take 82 = .ok (.aload_n 0, 1) := by decide +kernel
theorem d_M_take_83 : decode b_M_take 83 = .ok (.aload_n 0, 1) := by decide +kernel
theorem d_M_take_84 : decode b_M_take 84 = .ok (.getfield 104, 3) := by decide +kernel
theorem d_M_take_87 : decode b_M_take 87 = .ok (.ifCond .eq 7, 3) := by decide +kernel
theorem d_M_take_90 : decode b_M_take 90 = .ok (.iconst 4, 1) := by decide +kernel
theorem d_M_take_91 : decode b_M_take 91 = .ok (.goto 4, 3) := by decide +kernel
theorem d_M_take_94 : decode b_M_take 94 = .ok (.iconst 2, 1) := by decide +kernel
theorem d_M_take_95 : decode b_M_take 95 = .ok (.putfield 114, 3) := by decide +kernel
theorem d_M_take_98 : decode b_M_take 98 = .ok (.aload_n 0, 1) := by decide +kernel
theorem d_M_take_99 : decode b_M_take 99 = .ok (.iconst 0, 1) := by decide +kernel
theorem d_M_take_100 : decode b_M_take 100 = .ok (.putfield 104, 3) := by decide +kernel
theorem d_M_take_103 : decode b_M_take 103 = .ok (.aload_n 0, 1) := by decide +kernel
theorem d_M_take_104 : decode b_M_take 104 = .ok (.dup, 1) := by decide +kernel
theorem d_M_take_105 : decode b_M_take 105 = .ok (.getfield 117, 3) := by decide +kernel
theorem d_M_take_108 : decode b_M_take 108 = .ok (.iconst 1, 1) := by decide +kernel
theorem d_M_take_109 : decode b_M_take 109 = .ok (.iadd, 1) := by decide +kernel
theorem d_M_take_110 : decode b_M_take 110 = .ok (.putfield 117, 3) := by decide +kernel
theorem d_M_take_113 : decode b_M_take 113 = .ok (.iconst 1, 1) := by decide +kernel
theorem d_M_take_114 : decode b_M_take 114 = .ok (.ireturn, 1) := by decide +kernel
theorem d_M_word_0 : decode b_M_word 0 = .ok (.aload_n 0, 1) := by decide +kernel
theorem d_M_word_1 : decode b_M_word 1 = .ok (.iconst 0, 1) := by decide +kernel
theorem d_M_word_2 : decode b_M_word 2 = .ok (.putfield 7, 3) := by decide +kernel
theorem d_M_word_5 : decode b_M_word 5 = .ok (.aload_n 0, 1) := by decide +kernel
theorem d_M_word_6 : decode b_M_word 6 = .ok (.getfield 111, 3) := by decide +kernel
theorem d_M_word_9 : decode b_M_word 9 = .ok (.ireturn, 1) := by decide +kernel
theorem d_M_length_0 : decode b_M_length 0 = .ok (.aload_n 0, 1) := by decide +kernel
theorem d_M_length_1 : decode b_M_length 1 = .ok (.iconst 0, 1) := by decide +kernel
theorem d_M_length_2 : decode b_M_length 2 = .ok (.putfield 7, 3) := by decide +kernel
theorem d_M_length_5 : decode b_M_length 5 = .ok (.aload_n 0, 1) := by decide +kernel
theorem d_M_length_6 : decode b_M_length 6 = .ok (.getfield 114, 3) := by decide +kernel
theorem d_M_length_9 : decode b_M_length 9 = .ok (.ireturn, 1) := by decide +kernel
theorem d_M_whole_0 : decode b_M_whole 0 = .ok (.aload_n 0, 1) := by decide +kernel
theorem d_M_whole_1 : decode b_M_whole 1 = .ok (.iconst 0, 1) := by decide +kernel
theorem d_M_whole_2 : decode b_M_whole 2 = .ok (.putfield 7, 3) := by decide +kernel
theorem d_M_whole_5 : decode b_M_whole 5 = .ok (.aload_n 0, 1) := by decide +kernel
theorem d_M_whole_6 : decode b_M_whole 6 = .ok (.getfield 117, 3) := by decide +kernel
theorem d_M_whole_9 : decode b_M_whole 9 = .ok (.ireturn, 1) := by decide +kernel
theorem d_M_drop_0 : decode b_M_drop 0 = .ok (.aload_n 0, 1) := by decide +kernel
theorem d_M_drop_1 : decode b_M_drop 1 = .ok (.iconst 0, 1) := by decide +kernel
theorem d_M_drop_2 : decode b_M_drop 2 = .ok (.putfield 7, 3) := by decide +kernel
theorem d_M_drop_5 : decode b_M_drop 5 = .ok (.aload_n 0, 1) := by decide +kernel
theorem d_M_drop_6 : decode b_M_drop 6 = .ok (.getfield 104, 3) := by decide +kernel
theorem d_M_drop_9 : decode b_M_drop 9 = .ok (.istore_n 1, 1) := by decide +kernel
theorem d_M_drop_10 : decode b_M_drop 10 = .ok (.aload_n 0, 1) := by decide +kernel
theorem d_M_drop_11 : decode b_M_drop 11 = .ok (.iconst 0, 1) := by decide +kernel
theorem d_M_drop_12 : decode b_M_drop 12 = .ok (.putfield 104, 3) := by decide +kernel
theorem d_M_drop_15 : decode b_M_drop 15 = .ok (.iload_n 1, 1) := by decide +kernel
theorem d_M_drop_16 : decode b_M_drop 16 = .ok (.ireturn, 1) := by decide +kernel
theorem d_L_expand_0 : decode b_L_expand 0 = .ok (.aload_n 2, 1) := by decide +kernel
theorem d_L_expand_1 : decode b_L_expand 1 = .ok (.iconst 0, 1) := by decide +kernel
theorem d_L_expand_2 : decode b_L_expand 2 = .ok (.aload_n 0, 1) := by decide +kernel
theorem d_L_expand_3 : decode b_L_expand 3 = .ok (.iload_n 1, 1) := by decide +kernel
theorem d_L_expand_4 : decode b_L_expand 4 = .ok (.invokevirtual 7, 3) := by decide +kernel
theorem d_L_expand_7 : decode b_L_expand 7 = .ok (.i2l, 1) := by decide +kernel
theorem d_L_expand_8 : decode b_L_expand 8 = .ok (.lastore, 1) := by decide +kernel
theorem d_L_expand_9 : decode b_L_expand 9 = .ok (.goto 6, 3) := by decide +kernel
theorem d_L_expand_12 : decode b_L_expand 12 = .ok (.astore_n 3, 1) := by decide +kernel
theorem d_L_expand_13 : decode b_L_expand 13 = .ok (.iconst 1, 1) := by decide +kernel
theorem d_L_expand_14 : decode b_L_expand 14 = .ok (.ireturn, 1) := by decide +kernel
theorem d_L_expand_15 : decode b_L_expand 15 = .ok (.iconst 0, 1) := by decide +kernel
theorem d_L_expand_16 : decode b_L_expand 16 = .ok (.ireturn, 1) := by decide +kernel
theorem d_L_take_0 : decode b_L_take 0 = .ok (.aload_n 2, 1) := by decide +kernel
theorem d_L_take_1 : decode b_L_take 1 = .ok (.iconst 0, 1) := by decide +kernel
theorem d_L_take_2 : decode b_L_take 2 = .ok (.aload_n 0, 1) := by decide +kernel
theorem d_L_take_3 : decode b_L_take 3 = .ok (.iload_n 1, 1) := by decide +kernel
theorem d_L_take_4 : decode b_L_take 4 = .ok (.invokevirtual 15, 3) := by decide +kernel
theorem d_L_take_7 : decode b_L_take 7 = .ok (.ifCond .eq 7, 3) := by decide +kernel
theorem d_L_take_10 : decode b_L_take 10 = .ok (.lconst 1, 1) := by decide +kernel
theorem d_L_take_11 : decode b_L_take 11 = .ok (.goto 4, 3) := by decide +kernel
theorem d_L_take_14 : decode b_L_take 14 = .ok (.lconst 0, 1) := by decide +kernel
theorem d_L_take_15 : decode b_L_take 15 = .ok (.lastore, 1) := by decide +kernel
theorem d_L_take_16 : decode b_L_take 16 = .ok (.goto 6, 3) := by decide +kernel
theorem d_L_take_19 : decode b_L_take 19 = .ok (.astore_n 3, 1) := by decide +kernel
theorem d_L_take_20 : decode b_L_take 20 = .ok (.iconst 1, 1) := by decide +kernel
theorem d_L_take_21 : decode b_L_take 21 = .ok (.ireturn, 1) := by decide +kernel
theorem d_L_take_22 : decode b_L_take 22 = .ok (.iconst 0, 1) := by decide +kernel
theorem d_L_take_23 : decode b_L_take 23 = .ok (.ireturn, 1) := by decide +kernel
theorem d_L_law_0 : decode b_L_law 0 = .ok (.new 8, 3) := by decide +kernel
theorem d_L_law_3 : decode b_L_law 3 = .ok (.dup, 1) := by decide +kernel
theorem d_L_law_4 : decode b_L_law 4 = .ok (.invokespecial 19, 3) := by decide +kernel
theorem d_L_law_7 : decode b_L_law 7 = .ok (.astore_n 1, 1) := by decide +kernel
theorem d_L_law_8 : decode b_L_law 8 = .ok (.new 20, 3) := by decide +kernel
theorem d_L_law_11 : decode b_L_law 11 = .ok (.dup, 1) := by decide +kernel
theorem d_L_law_12 : decode b_L_law 12 = .ok (.invokespecial 22, 3) := by decide +kernel
theorem d_L_law_15 : decode b_L_law 15 = .ok (.astore_n 2, 1) := by decide +kernel
theorem d_L_law_16 : decode b_L_law 16 = .ok (.iconst 1, 1) := by decide +kernel
theorem d_L_law_17 : decode b_L_law 17 = .ok (.newarray .long, 2) := by decide +kernel
theorem d_L_law_19 : decode b_L_law 19 = .ok (.astore_n 3, 1) := by decide +kernel
theorem d_L_law_20 : decode b_L_law 20 = .ok (.iconst 0, 1) := by decide +kernel
theorem d_L_law_21 : decode b_L_law 21 = .ok (.istore 4, 2) := by decide +kernel
theorem d_L_law_23 : decode b_L_law 23 = .ok (.iload 4, 2) := by decide +kernel
theorem d_L_law_25 : decode b_L_law 25 = .ok (.aload_n 0, 1) := by decide +kernel
theorem d_L_law_26 : decode b_L_law 26 = .ok (.arraylength, 1) := by decide +kernel
theorem d_L_law_27 : decode b_L_law 27 = .ok (.iconst 2, 1) := by decide +kernel
theorem d_L_law_28 : decode b_L_law 28 = .ok (.isub, 1) := by decide +kernel
theorem d_L_law_29 : decode b_L_law 29 = .ok (.if_icmp .gt 282, 3) := by decide +kernel
theorem d_L_law_32 : decode b_L_law 32 = .ok (.aload_n 0, 1) := by decide +kernel
theorem d_L_law_33 : decode b_L_law 33 = .ok (.iload 4, 2) := by decide +kernel
theorem d_L_law_35 : decode b_L_law 35 = .ok (.iaload, 1) := by decide +kernel
theorem d_L_law_36 : decode b_L_law 36 = .ok (.bipush 7, 2) := by decide +kernel
theorem d_L_law_38 : decode b_L_law 38 = .ok (.iand, 1) := by decide +kernel
theorem d_L_law_39 : decode b_L_law 39 = .ok (.tableswitch 266 0 7 #[45, 101, 126, 151, 214, 227, 240, 253], 45) := by decide +kernel
theorem d_L_law_84 : decode b_L_law 84 = .ok (.aload_n 1, 1) := by decide +kernel
theorem d_L_law_85 : decode b_L_law 85 = .ok (.aload_n 0, 1) := by decide +kernel
theorem d_L_law_86 : decode b_L_law 86 = .ok (.iload 4, 2) := by decide +kernel
theorem d_L_law_88 : decode b_L_law 88 = .ok (.iconst 1, 1) := by decide +kernel
theorem d_L_law_89 : decode b_L_law 89 = .ok (.iadd, 1) := by decide +kernel
theorem d_L_law_90 : decode b_L_law 90 = .ok (.iaload, 1) := by decide +kernel
theorem d_L_law_91 : decode b_L_law 91 = .ok (.aload_n 3, 1) := by decide +kernel
theorem d_L_law_92 : decode b_L_law 92 = .ok (.invokestatic 23, 3) := by decide +kernel
theorem d_L_law_95 : decode b_L_law 95 = .ok (.istore 5, 2) := by decide +kernel
theorem d_L_law_97 : decode b_L_law 97 = .ok (.aload_n 2, 1) := by decide +kernel
theorem d_L_law_98 : decode b_L_law 98 = .ok (.aload_n 0, 1) := by decide +kernel
theorem d_L_law_99 : decode b_L_law 99 = .ok (.iload 4, 2) := by decide +kernel
theorem d_L_law_101 : decode b_L_law 101 = .ok (.iconst 1, 1) := by decide +kernel
theorem d_L_law_102 : decode b_L_law 102 = .ok (.iadd, 1) := by decide +kernel
theorem d_L_law_103 : decode b_L_law 103 = .ok (.iaload, 1) := by decide +kernel
theorem d_L_law_104 : decode b_L_law 104 = .ok (.invokevirtual 28, 3) := by decide +kernel
theorem d_L_law_107 : decode b_L_law 107 = .ok (.istore 6, 2) := by decide +kernel
theorem d_L_law_109 : decode b_L_law 109 = .ok (.aload_n 2, 1) := by decide +kernel
theorem d_L_law_110 : decode b_L_law 110 = .ok (.invokevirtual 29, 3) := by decide +kernel
theorem d_L_law_113 : decode b_L_law 113 = .ok (.iload 5, 2) := by decide +kernel
theorem d_L_law_115 : decode b_L_law 115 = .ok (.if_icmp .eq 5, 3) := by decide +kernel
theorem d_L_law_118 : decode b_L_law 118 = .ok (.iconst 0, 1) := by decide +kernel
theorem d_L_law_119 : decode b_L_law 119 = .ok (.ireturn, 1) := by decide +kernel
theorem d_L_law_120 : decode b_L_law 120 = .ok (.iload 5, 2) := by decide +kernel
theorem d_L_law_122 : decode b_L_law 122 = .ok (.ifCond .ne 15, 3) := by decide +kernel
theorem d_L_law_125 : decode b_L_law 125 = .ok (.aload_n 3, 1) := by decide +kernel
theorem d_L_law_126 : decode b_L_law 126 = .ok (.iconst 0, 1) := by decide +kernel
theorem d_L_law_127 : decode b_L_law 127 = .ok (.laload, 1) := by decide +kernel
theorem d_L_law_128 : decode b_L_law 128 = .ok (.iload 6, 2) := by decide +kernel
theorem d_L_law_130 : decode b_L_law 130 = .ok (.i2l, 1) := by decide +kernel
theorem d_L_law_131 : decode b_L_law 131 = .ok (.lcmp, 1) := by decide +kernel
theorem d_L_law_132 : decode b_L_law 132 = .ok (.ifCond .eq 5, 3) := by decide +kernel
theorem d_L_law_135 : decode b_L_law 135 = .ok (.iconst 0, 1) := by decide +kernel
theorem d_L_law_136 : decode b_L_law 136 = .ok (.ireturn, 1) := by decide +kernel
theorem d_L_law_137 : decode b_L_law 137 = .ok (.goto 168, 3) := by decide +kernel
theorem d_L_law_140 : decode b_L_law 140 = .ok (.aload_n 1, 1) := by decide +kernel
theorem d_L_law_141 : decode b_L_law 141 = .ok (.aload_n 0, 1) := by decide +kernel
theorem d_L_law_142 : decode b_L_law 142 = .ok (.iload 4, 2) := by decide +kernel
theorem d_L_law_144 : decode b_L_law 144 = .ok (.iconst 1, 1) := by decide +kernel
theorem d_L_law_145 : decode b_L_law 145 = .ok (.iadd, 1) := by decide +kernel
theorem d_L_law_146 : decode b_L_law 146 = .ok (.iaload, 1) := by decide +kernel
theorem d_L_law_147 : decode b_L_law 147 = .ok (.invokevirtual 33, 3) := by decide +kernel
theorem d_L_law_150 : decode b_L_law 150 = .ok (.aload_n 2, 1) := by decide +kernel
theorem d_L_law_151 : decode b_L_law 151 = .ok (.aload_n 0, 1) := by decide +kernel
theorem d_L_law_152 : decode b_L_law 152 = .ok (.iload 4, 2) := by decide +kernel
theorem d_L_law_154 : decode b_L_law 154 = .ok (.iconst 1, 1) := by decide +kernel
theorem d_L_law_155 : decode b_L_law 155 = .ok (.iadd, 1) := by decide +kernel
theorem d_L_law_156 : decode b_L_law 156 = .ok (.iaload, 1) := by decide +kernel
theorem d_L_law_157 : decode b_L_law 157 = .ok (.invokevirtual 36, 3) := by decide +kernel
theorem d_L_law_160 : decode b_L_law 160 = .ok (.if_icmp .eq 145, 3) := by decide +kernel
theorem d_L_law_163 : decode b_L_law 163 = .ok (.iconst 0, 1) := by decide +kernel
theorem d_L_law_164 : decode b_L_law 164 = .ok (.ireturn, 1) := by decide +kernel
theorem d_L_law_165 : decode b_L_law 165 = .ok (.aload_n 1, 1) := by decide +kernel
theorem d_L_law_166 : decode b_L_law 166 = .ok (.aload_n 0, 1) := by decide +kernel
theorem d_L_law_167 : decode b_L_law 167 = .ok (.iload 4, 2) := by decide +kernel
theorem d_L_law_169 : decode b_L_law 169 = .ok (.iconst 1, 1) := by decide +kernel
theorem d_L_law_170 : decode b_L_law 170 = .ok (.iadd, 1) := by decide +kernel
theorem d_L_law_171 : decode b_L_law 171 = .ok (.iaload, 1) := by decide +kernel
theorem d_L_law_172 : decode b_L_law 172 = .ok (.invokevirtual 37, 3) := by decide +kernel
theorem d_L_law_175 : decode b_L_law 175 = .ok (.aload_n 2, 1) := by decide +kernel
theorem d_L_law_176 : decode b_L_law 176 = .ok (.aload_n 0, 1) := by decide +kernel
theorem d_L_law_177 : decode b_L_law 177 = .ok (.iload 4, 2) := by decide +kernel
theorem d_L_law_179 : decode b_L_law 179 = .ok (.iconst 1, 1) := by decide +kernel
theorem d_L_law_180 : decode b_L_law 180 = .ok (.iadd, 1) := by decide +kernel
theorem d_L_law_181 : decode b_L_law 181 = .ok (.iaload, 1) := by decide +kernel
theorem d_L_law_182 : decode b_L_law 182 = .ok (.invokevirtual 40, 3) := by decide +kernel
theorem d_L_law_185 : decode b_L_law 185 = .ok (.if_icmp .eq 120, 3) := by decide +kernel
theorem d_L_law_188 : decode b_L_law 188 = .ok (.iconst 0, 1) := by decide +kernel
theorem d_L_law_189 : decode b_L_law 189 = .ok (.ireturn, 1) := by decide +kernel
theorem d_L_law_190 : decode b_L_law 190 = .ok (.aload_n 1, 1) := by decide +kernel
theorem d_L_law_191 : decode b_L_law 191 = .ok (.aload_n 0, 1) := by decide +kernel
theorem d_L_law_192 : decode b_L_law 192 = .ok (.iload 4, 2) := by decide +kernel
theorem d_L_law_194 : decode b_L_law 194 = .ok (.iconst 1, 1) := by decide +kernel
theorem d_L_law_195 : decode b_L_law 195 = .ok (.iadd, 1) := by decide +kernel
theorem d_L_law_196 : decode b_L_law 196 = .ok (.iaload, 1) := by decide +kernel
theorem d_L_law_197 : decode b_L_law 197 = .ok (.aload_n 3, 1) := by decide +kernel
theorem d_L_law_198 : decode b_L_law 198 = .ok (.invokestatic 41, 3) := by decide +kernel
theorem d_L_law_201 : decode b_L_law 201 = .ok (.istore 5, 2) := by decide +kernel
theorem d_L_law_203 : decode b_L_law 203 = .ok (.aload_n 2, 1) := by decide +kernel
theorem d_L_law_204 : decode b_L_law 204 = .ok (.aload_n 0, 1) := by decide +kernel
theorem d_L_law_205 : decode b_L_law 205 = .ok (.iload 4, 2) := by decide +kernel
theorem d_L_law_207 : decode b_L_law 207 = .ok (.iconst 1, 1) := by decide +kernel
theorem d_L_law_208 : decode b_L_law 208 = .ok (.iadd, 1) := by decide +kernel
theorem d_L_law_209 : decode b_L_law 209 = .ok (.iaload, 1) := by decide +kernel
theorem d_L_law_210 : decode b_L_law 210 = .ok (.invokevirtual 43, 3) := by decide +kernel
theorem d_L_law_213 : decode b_L_law 213 = .ok (.istore 6, 2) := by decide +kernel
theorem d_L_law_215 : decode b_L_law 215 = .ok (.aload_n 2, 1) := by decide +kernel
theorem d_L_law_216 : decode b_L_law 216 = .ok (.invokevirtual 29, 3) := by decide +kernel
theorem d_L_law_219 : decode b_L_law 219 = .ok (.iload 5, 2) := by decide +kernel
theorem d_L_law_221 : decode b_L_law 221 = .ok (.if_icmp .eq 5, 3) := by decide +kernel
theorem d_L_law_224 : decode b_L_law 224 = .ok (.iconst 0, 1) := by decide +kernel
theorem d_L_law_225 : decode b_L_law 225 = .ok (.ireturn, 1) := by decide +kernel
theorem d_L_law_226 : decode b_L_law 226 = .ok (.iload 5, 2) := by decide +kernel
theorem d_L_law_228 : decode b_L_law 228 = .ok (.ifCond .ne 22, 3) := by decide +kernel
theorem d_L_law_231 : decode b_L_law 231 = .ok (.aload_n 3, 1) := by decide +kernel
theorem d_L_law_232 : decode b_L_law 232 = .ok (.iconst 0, 1) := by decide +kernel
theorem d_L_law_233 : decode b_L_law 233 = .ok (.laload, 1) := by decide +kernel
theorem d_L_law_234 : decode b_L_law 234 = .ok (.iload 6, 2) := by decide +kernel
theorem d_L_law_236 : decode b_L_law 236 = .ok (.ifCond .eq 7, 3) := by decide +kernel
theorem d_L_law_239 : decode b_L_law 239 = .ok (.lconst 1, 1) := by decide +kernel
theorem d_L_law_240 : decode b_L_law 240 = .ok (.goto 4, 3) := by decide +kernel
theorem d_L_law_243 : decode b_L_law 243 = .ok (.lconst 0, 1) := by decide +kernel
theorem d_L_law_244 : decode b_L_law 244 = .ok (.lcmp, 1) := by decide +kernel
theorem d_L_law_245 : decode b_L_law 245 = .ok (.ifCond .eq 5, 3) := by decide +kernel
theorem d_L_law_248 : decode b_L_law 248 = .ok (.iconst 0, 1) := by decide +kernel
theorem d_L_law_249 : decode b_L_law 249 = .ok (.ireturn, 1) := by decide +kernel
theorem d_L_law_250 : decode b_L_law 250 = .ok (.goto 55, 3) := by decide +kernel
theorem d_L_law_253 : decode b_L_law 253 = .ok (.aload_n 1, 1) := by decide +kernel
theorem d_L_law_254 : decode b_L_law 254 = .ok (.invokevirtual 44, 3) := by decide +kernel
theorem d_L_law_257 : decode b_L_law 257 = .ok (.aload_n 2, 1) := by decide +kernel
theorem d_L_law_258 : decode b_L_law 258 = .ok (.invokevirtual 47, 3) := by decide +kernel
theorem d_L_law_261 : decode b_L_law 261 = .ok (.if_icmp .eq 44, 3) := by decide +kernel
theorem d_L_law_264 : decode b_L_law 264 = .ok (.iconst 0, 1) := by decide +kernel
theorem d_L_law_265 : decode b_L_law 265 = .ok (.ireturn, 1) := by decide +kernel
theorem d_L_law_266 : decode b_L_law 266 = .ok (.aload_n 1, 1) := by decide +kernel
theorem d_L_law_267 : decode b_L_law 267 = .ok (.invokevirtual 48, 3) := by decide +kernel
theorem d_L_law_270 : decode b_L_law 270 = .ok (.aload_n 2, 1) := by decide +kernel
theorem d_L_law_271 : decode b_L_law 271 = .ok (.invokevirtual 51, 3) := by decide +kernel
theorem d_L_law_274 : decode b_L_law 274 = .ok (.if_icmp .eq 31, 3) := by decide +kernel
theorem d_L_law_277 : decode b_L_law 277 = .ok (.iconst 0, 1) := by decide +kernel
theorem d_L_law_278 : decode b_L_law 278 = .ok (.ireturn, 1) := by decide +kernel
theorem d_L_law_279 : decode b_L_law 279 = .ok (.aload_n 1, 1) := by decide +kernel
theorem d_L_law_280 : decode b_L_law 280 = .ok (.invokevirtual 52, 3) := by decide +kernel
theorem d_L_law_283 : decode b_L_law 283 = .ok (.aload_n 2, 1) := by decide +kernel
theorem d_L_law_284 : decode b_L_law 284 = .ok (.invokevirtual 55, 3) := by decide +kernel
theorem d_L_law_287 : decode b_L_law 287 = .ok (.if_icmp .eq 18, 3) := by decide +kernel
theorem d_L_law_290 : decode b_L_law 290 = .ok (.iconst 0, 1) := by decide +kernel
theorem d_L_law_291 : decode b_L_law 291 = .ok (.ireturn, 1) := by decide +kernel
theorem d_L_law_292 : decode b_L_law 292 = .ok (.aload_n 1, 1) := by decide +kernel
theorem d_L_law_293 : decode b_L_law 293 = .ok (.invokevirtual 56, 3) := by decide +kernel
theorem d_L_law_296 : decode b_L_law 296 = .ok (.aload_n 2, 1) := by decide +kernel
theorem d_L_law_297 : decode b_L_law 297 = .ok (.invokevirtual 60, 3) := by decide +kernel
theorem d_L_law_300 : decode b_L_law 300 = .ok (.if_icmp .eq 5, 3) := by decide +kernel
theorem d_L_law_303 : decode b_L_law 303 = .ok (.iconst 0, 1) := by decide +kernel
theorem d_L_law_304 : decode b_L_law 304 = .ok (.ireturn, 1) := by decide +kernel
theorem d_L_law_305 : decode b_L_law 305 = .ok (.iinc 4 2, 3) := by decide +kernel
theorem d_L_law_308 : decode b_L_law 308 = .ok (.goto (-285), 3) := by decide +kernel
theorem d_L_law_311 : decode b_L_law 311 = .ok (.iconst 1, 1) := by decide +kernel
theorem d_L_law_312 : decode b_L_law 312 = .ok (.ireturn, 1) := by decide +kernel
