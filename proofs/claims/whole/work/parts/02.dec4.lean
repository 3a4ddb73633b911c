theorem d_M_wordS_33 : decode b_M_wordS 33 = .ok (.bipush 127, 2) := by decide +kernel
theorem d_M_wordS_35 : decode b_M_wordS 35 = .ok (.iand, 1) := by decide +kernel
theorem d_M_wordS_36 : decode b_M_wordS 36 = .ok (.imul, 1) := by decide +kernel
theorem d_M_wordS_37 : decode b_M_wordS 37 = .ok (.iadd, 1) := by decide +kernel
theorem d_M_wordS_38 : decode b_M_wordS 38 = .ok (.ireturn, 1) := by decide +kernel
theorem d_M_wordB_0 : decode b_M_wordB 0 = .ok (.bipush 99, 2) := by decide +kernel
theorem d_M_wordB_2 : decode b_M_wordB 2 = .ok (.sipush 4096, 3) := by decide +kernel
theorem d_M_wordB_5 : decode b_M_wordB 5 = .ok (.iload_n 0, 1) := by decide +kernel
theorem d_M_wordB_6 : decode b_M_wordB 6 = .ok (.imul, 1) := by decide +kernel
theorem d_M_wordB_7 : decode b_M_wordB 7 = .ok (.iadd, 1) := by decide +kernel
theorem d_M_wordB_8 : decode b_M_wordB 8 = .ok (.ldc 16, 2) := by decide +kernel
theorem d_M_wordB_10 : decode b_M_wordB 10 = .ok (.iload_n 1, 1) := by decide +kernel
theorem d_M_wordB_11 : decode b_M_wordB 11 = .ok (.imul, 1) := by decide +kernel
theorem d_M_wordB_12 : decode b_M_wordB 12 = .ok (.iadd, 1) := by decide +kernel
theorem d_M_wordB_13 : decode b_M_wordB 13 = .ok (.iload_n 2, 1) := by decide +kernel
theorem d_M_wordB_14 : decode b_M_wordB 14 = .ok (.bipush 11, 2) := by decide +kernel
theorem d_M_wordB_16 : decode b_M_wordB 16 = .ok (.bipush 7, 2) := by decide +kernel
theorem d_M_wordB_18 : decode b_M_wordB 18 = .ok (.invokestatic 23, 3) := by decide +kernel
theorem d_M_wordB_21 : decode b_M_wordB 21 = .ok (.iadd, 1) := by decide +kernel
theorem d_M_wordB_22 : decode b_M_wordB 22 = .ok (.iload_n 2, 1) := by decide +kernel
theorem d_M_wordB_23 : decode b_M_wordB 23 = .ok (.bipush 12, 2) := by decide +kernel
theorem d_M_wordB_25 : decode b_M_wordB 25 = .ok (.bipush 31, 2) := by decide +kernel
theorem d_M_wordB_27 : decode b_M_wordB 27 = .ok (.invokestatic 23, 3) := by decide +kernel
theorem d_M_wordB_30 : decode b_M_wordB 30 = .ok (.iadd, 1) := by decide +kernel
theorem d_M_wordB_31 : decode b_M_wordB 31 = .ok (.istore_n 3, 1) := by decide +kernel
theorem d_M_wordB_32 : decode b_M_wordB 32 = .ok (.iconst 1, 1) := by decide +kernel
theorem d_M_wordB_33 : decode b_M_wordB 33 = .ok (.istore 4, 2) := by decide +kernel
theorem d_M_wordB_35 : decode b_M_wordB 35 = .ok (.iload 4, 2) := by decide +kernel
theorem d_M_wordB_37 : decode b_M_wordB 37 = .ok (.bipush 11, 2) := by decide +kernel
theorem d_M_wordB_39 : decode b_M_wordB 39 = .ok (.if_icmp .ge 37, 3) := by decide +kernel
theorem d_M_wordB_42 : decode b_M_wordB 42 = .ok (.iload_n 3, 1) := by decide +kernel
theorem d_M_wordB_43 : decode b_M_wordB 43 = .ok (.iload_n 2, 1) := by decide +kernel
theorem d_M_wordB_44 : decode b_M_wordB 44 = .ok (.iload 4, 2) := by decide +kernel
theorem d_M_wordB_46 : decode b_M_wordB 46 = .ok (.iload 4, 2) := by decide +kernel
theorem d_M_wordB_48 : decode b_M_wordB 48 = .ok (.iconst 5, 1) := by decide +kernel
theorem d_M_wordB_49 : decode b_M_wordB 49 = .ok (.if_icmp .ge 11, 3) := by decide +kernel
theorem d_M_wordB_52 : decode b_M_wordB 52 = .ok (.iload 4, 2) := by decide +kernel
theorem d_M_wordB_54 : decode b_M_wordB 54 = .ok (.bipush 7, 2) := by decide +kernel
theorem d_M_wordB_56 : decode b_M_wordB 56 = .ok (.iadd, 1) := by decide +kernel
theorem d_M_wordB_57 : decode b_M_wordB 57 = .ok (.goto 8, 3) := by decide +kernel
theorem d_M_wordB_60 : decode b_M_wordB 60 = .ok (.iload 4, 2) := by decide +kernel
theorem d_M_wordB_62 : decode b_M_wordB 62 = .ok (.bipush 20, 2) := by decide +kernel
theorem d_M_wordB_64 : decode b_M_wordB 64 = .ok (.iadd, 1) := by decide +kernel
theorem d_M_wordB_65 : decode b_M_wordB 65 = .ok (.invokestatic 23, 3) := by decide +kernel
theorem d_M_wordB_68 : decode b_M_wordB 68 = .ok (.iadd, 1) := by decide +kernel
theorem d_M_wordB_69 : decode b_M_wordB 69 = .ok (.istore_n 3, 1) := by decide +kernel
theorem d_M_wordB_70 : decode b_M_wordB 70 = .ok (.iinc 4 1, 3) := by decide +kernel
theorem d_M_wordB_73 : decode b_M_wordB 73 = .ok (.goto (-38), 3) := by decide +kernel
theorem d_M_wordB_76 : decode b_M_wordB 76 = .ok (.iload_n 3, 1) := by decide +kernel
theorem d_M_wordB_77 : decode b_M_wordB 77 = .ok (.ireturn, 1) := by decide +kernel
theorem d_M_wordJ_0 : decode b_M_wordJ 0 = .ok (.bipush 111, 2) := by decide +kernel
theorem d_M_wordJ_2 : decode b_M_wordJ 2 = .ok (.iload_n 0, 1) := by decide +kernel
theorem d_M_wordJ_3 : decode b_M_wordJ 3 = .ok (.bipush 11, 2) := by decide +kernel
theorem d_M_wordJ_5 : decode b_M_wordJ 5 = .ok (.bipush 20, 2) := by decide +kernel
theorem d_M_wordJ_7 : decode b_M_wordJ 7 = .ok (.invokestatic 23, 3) := by decide +kernel
theorem d_M_wordJ_10 : decode b_M_wordJ 10 = .ok (.iadd, 1) := by decide +kernel
theorem d_M_wordJ_11 : decode b_M_wordJ 11 = .ok (.iload_n 0, 1) := by decide +kernel
theorem d_M_wordJ_12 : decode b_M_wordJ 12 = .ok (.bipush 20, 2) := by decide +kernel
theorem d_M_wordJ_14 : decode b_M_wordJ 14 = .ok (.bipush 31, 2) := by decide +kernel
theorem d_M_wordJ_16 : decode b_M_wordJ 16 = .ok (.invokestatic 23, 3) := by decide +kernel
theorem d_M_wordJ_19 : decode b_M_wordJ 19 = .ok (.iadd, 1) := by decide +kernel
theorem d_M_wordJ_20 : decode b_M_wordJ 20 = .ok (.istore_n 1, 1) := by decide +kernel
theorem d_M_wordJ_21 : decode b_M_wordJ 21 = .ok (.iconst 1, 1) := by decide +kernel
theorem d_M_wordJ_22 : decode b_M_wordJ 22 = .ok (.istore_n 2, 1) := by decide +kernel
theorem d_M_wordJ_23 : decode b_M_wordJ 23 = .ok (.iload_n 2, 1) := by decide +kernel
theorem d_M_wordJ_24 : decode b_M_wordJ 24 = .ok (.bipush 20, 2) := by decide +kernel
theorem d_M_wordJ_26 : decode b_M_wordJ 26 = .ok (.if_icmp .ge 41, 3) := by decide +kernel
theorem d_M_wordJ_29 : decode b_M_wordJ 29 = .ok (.iload_n 2, 1) := by decide +kernel
theorem d_M_wordJ_30 : decode b_M_wordJ 30 = .ok (.bipush 11, 2) := by decide +kernel
theorem d_M_wordJ_32 : decode b_M_wordJ 32 = .ok (.if_icmp .ne 7, 3) := by decide +kernel
theorem d_M_wordJ_35 : decode b_M_wordJ 35 = .ok (.iload_n 1, 1) := by decide +kernel
theorem d_M_wordJ_36 : decode b_M_wordJ 36 = .ok (.goto 24, 3) := by decide +kernel
theorem d_M_wordJ_39 : decode b_M_wordJ 39 = .ok (.iload_n 1, 1) := by decide +kernel
theorem d_M_wordJ_40 : decode b_M_wordJ 40 = .ok (.iload_n 0, 1) := by decide +kernel
theorem d_M_wordJ_41 : decode b_M_wordJ 41 = .ok (.iload_n 2, 1) := by decide +kernel
theorem d_M_wordJ_42 : decode b_M_wordJ 42 = .ok (.iload_n 2, 1) := by decide +kernel
theorem d_M_wordJ_43 : decode b_M_wordJ 43 = .ok (.bipush 11, 2) := by decide +kernel
theorem d_M_wordJ_45 : decode b_M_wordJ 45 = .ok (.if_icmp .ge 10, 3) := by decide +kernel
theorem d_M_wordJ_48 : decode b_M_wordJ 48 = .ok (.iload_n 2, 1) := by decide +kernel
theorem d_M_wordJ_49 : decode b_M_wordJ 49 = .ok (.bipush 20, 2) := by decide +kernel
theorem d_M_wordJ_51 : decode b_M_wordJ 51 = .ok (.iadd, 1) := by decide +kernel
theorem d_M_wordJ_52 : decode b_M_wordJ 52 = .ok (.goto 4, 3) := by decide +kernel
theorem d_M_wordJ_55 : decode b_M_wordJ 55 = .ok (.iload_n 2, 1) := by decide +kernel
theorem d_M_wordJ_56 : decode b_M_wordJ 56 = .ok (.invokestatic 23, 3) := by decide +kernel
theorem d_M_wordJ_59 : decode b_M_wordJ 59 = .ok (.iadd, 1) := by decide +kernel
theorem d_M_wordJ_60 : decode b_M_wordJ 60 = .ok (.istore_n 1, 1) := by decide +kernel
theorem d_M_wordJ_61 : decode b_M_wordJ 61 = .ok (.iinc 2 1, 3) := by decide +kernel
theorem d_M_wordJ_64 : decode b_M_wordJ 64 = .ok (.goto (-41), 3) := by decide +kernel
theorem d_M_wordJ_67 : decode b_M_wordJ 67 = .ok (.iload_n 1, 1) := by decide +kernel
theorem d_M_wordJ_68 : decode b_M_wordJ 68 = .ok (.ireturn, 1) := by decide +kernel
theorem d_M_plain_0 : decode b_M_plain 0 = .ok (.bipush 32, 2) := by decide +kernel
theorem d_M_plain_2 : decode b_M_plain 2 = .ok (.aload_n 0, 1) := by decide +kernel
theorem d_M_plain_3 : decode b_M_plain 3 = .ok (.bipush 12, 2) := by decide +kernel
theorem d_M_plain_5 : decode b_M_plain 5 = .ok (.bipush 12, 2) := by decide +kernel
theorem d_M_plain_7 : decode b_M_plain 7 = .ok (.invokevirtual 27, 3) := by decide +kernel
theorem d_M_plain_10 : decode b_M_plain 10 = .ok (.imul, 1) := by decide +kernel
theorem d_M_plain_11 : decode b_M_plain 11 = .ok (.aload_n 0, 1) := by decide +kernel
theorem d_M_plain_12 : decode b_M_plain 12 = .ok (.bipush 6, 2) := by decide +kernel
theorem d_M_plain_14 : decode b_M_plain 14 = .ok (.iconst 2, 1) := by decide +kernel
theorem d_M_plain_15 : decode b_M_plain 15 = .ok (.invokevirtual 27, 3) := by decide +kernel
theorem d_M_plain_18 : decode b_M_plain 18 = .ok (.iadd, 1) := by decide +kernel
theorem d_M_plain_19 : decode b_M_plain 19 = .ok (.ireturn, 1) := by decide +kernel
theorem d_M_signed_0 : decode b_M_signed 0 = .ok (.aload_n 0, 1) := by decide +kernel
theorem d_M_signed_1 : decode b_M_signed 1 = .ok (.invokevirtual 31, 3) := by decide +kernel
theorem d_M_signed_4 : decode b_M_signed 4 = .ok (.bipush 64, 2) := by decide +kernel
theorem d_M_signed_6 : decode b_M_signed 6 = .ok (.aload_n 0, 1) := by decide +kernel
theorem d_M_signed_7 : decode b_M_signed 7 = .ok (.bipush 12, 2) := by decide +kernel
theorem d_M_signed_9 : decode b_M_signed 9 = .ok (.bipush 12, 2) := by decide +kernel
theorem d_M_signed_11 : decode b_M_signed 11 = .ok (.invokevirtual 27, 3) := by decide +kernel
theorem d_M_signed_14 : decode b_M_signed 14 = .ok (.imul, 1) := by decide +kernel
theorem d_M_signed_15 : decode b_M_signed 15 = .ok (.isub, 1) := by decide +kernel
theorem d_M_signed_16 : decode b_M_signed 16 = .ok (.ireturn, 1) := by decide +kernel
theorem d_M_eights_0 : decode b_M_eights 0 = .ok (.bipush 64, 2) := by decide +kernel
theorem d_M_eights_2 : decode b_M_eights 2 = .ok (.aload_n 0, 1) := by decide +kernel
theorem d_M_eights_3 : decode b_M_eights 3 = .ok (.bipush 6, 2) := by decide +kernel
theorem d_M_eights_5 : decode b_M_eights 5 = .ok (.iconst 5, 1) := by decide +kernel
theorem d_M_eights_6 : decode b_M_eights 6 = .ok (.invokevirtual 27, 3) := by decide +kernel
theorem d_M_eights_9 : decode b_M_eights 9 = .ok (.imul, 1) := by decide +kernel
theorem d_M_eights_10 : decode b_M_eights 10 = .ok (.bipush 8, 2) := by decide +kernel
theorem d_M_eights_12 : decode b_M_eights 12 = .ok (.aload_n 0, 1) := by decide +kernel
theorem d_M_eights_13 : decode b_M_eights 13 = .ok (.bipush 12, 2) := by decide +kernel
theorem d_M_eights_15 : decode b_M_eights 15 = .ok (.bipush 10, 2) := by decide +kernel
theorem d_M_eights_17 : decode b_M_eights 17 = .ok (.invokevirtual 27, 3) := by decide +kernel
theorem d_M_eights_20 : decode b_M_eights 20 = .ok (.imul, 1) := by decide +kernel
theorem d_M_eights_21 : decode b_M_eights 21 = .ok (.iadd, 1) := by decide +kernel
theorem d_M_eights_22 : decode b_M_eights 22 = .ok (.ireturn, 1) := by decide +kernel
theorem d_M_fours_0 : decode b_M_fours 0 = .ok (.bipush 64, 2) := by decide +kernel
theorem d_M_fours_2 : decode b_M_fours 2 = .ok (.aload_n 0, 1) := by decide +kernel
theorem d_M_fours_3 : decode b_M_fours 3 = .ok (.iconst 5, 1) := by decide +kernel
theorem d_M_fours_4 : decode b_M_fours 4 = .ok (.iconst 5, 1) := by decide +kernel
theorem d_M_fours_5 : decode b_M_fours 5 = .ok (.invokevirtual 27, 3) := by decide +kernel
theorem d_M_fours_8 : decode b_M_fours 8 = .ok (.imul, 1) := by decide +kernel
theorem d_M_fours_9 : decode b_M_fours 9 = .ok (.bipush 8, 2) := by decide +kernel
theorem d_M_fours_11 : decode b_M_fours 11 = .ok (.aload_n 0, 1) := by decide +kernel
theorem d_M_fours_12 : decode b_M_fours 12 = .ok (.bipush 12, 2) := by decide +kernel
theorem d_M_fours_14 : decode b_M_fours 14 = .ok (.bipush 10, 2) := by decide +kernel
theorem d_M_fours_16 : decode b_M_fours 16 = .ok (.invokevirtual 27, 3) := by decide +kernel
theorem d_M_fours_19 : decode b_M_fours 19 = .ok (.imul, 1) := by decide +kernel
theorem d_M_fours_20 : decode b_M_fours 20 = .ok (.iadd, 1) := by decide +kernel
theorem d_M_fours_21 : decode b_M_fours 21 = .ok (.iconst 4, 1) := by decide +kernel
theorem d_M_fours_22 : decode b_M_fours 22 = .ok (.aload_n 0, 1) := by decide +kernel
theorem d_M_fours_23 : decode b_M_fours 23 = .ok (.bipush 6, 2) := by decide +kernel
theorem d_M_fours_25 : decode b_M_fours 25 = .ok (.bipush 6, 2) := by decide +kernel
theorem d_M_fours_27 : decode b_M_fours 27 = .ok (.invokevirtual 27, 3) := by decide +kernel
theorem d_M_fours_30 : decode b_M_fours 30 = .ok (.imul, 1) := by decide +kernel
theorem d_M_fours_31 : decode b_M_fours 31 = .ok (.iadd, 1) := by decide +kernel
theorem d_M_fours_32 : decode b_M_fours 32 = .ok (.ireturn, 1) := by decide +kernel
theorem d_M_quadrant0_0 : decode b_M_quadrant0 0 = .ok (.bipush 8, 2) := by decide +kernel
theorem d_M_quadrant0_2 : decode b_M_quadrant0 2 = .ok (.aload_n 0, 1) := by decide +kernel
theorem d_M_quadrant0_3 : decode b_M_quadrant0 3 = .ok (.bipush 9, 2) := by decide +kernel
theorem d_M_quadrant0_5 : decode b_M_quadrant0 5 = .ok (.bipush 7, 2) := by decide +kernel
theorem d_M_quadrant0_7 : decode b_M_quadrant0 7 = .ok (.invokevirtual 27, 3) := by decide +kernel
theorem d_M_quadrant0_10 : decode b_M_quadrant0 10 = .ok (.iadd, 1) := by decide +kernel
theorem d_M_quadrant0_11 : decode b_M_quadrant0 11 = .ok (.istore_n 1, 1) := by decide +kernel
theorem d_M_quadrant0_12 : decode b_M_quadrant0 12 = .ok (.bipush 8, 2) := by decide +kernel
theorem d_M_quadrant0_14 : decode b_M_quadrant0 14 = .ok (.aload_n 0, 1) := by decide +kernel
theorem d_M_quadrant0_15 : decode b_M_quadrant0 15 = .ok (.iconst 4, 1) := by decide +kernel
theorem d_M_quadrant0_16 : decode b_M_quadrant0 16 = .ok (.iconst 2, 1) := by decide +kernel
theorem d_M_quadrant0_17 : decode b_M_quadrant0 17 = .ok (.invokevirtual 27, 3) := by decide +kernel
theorem d_M_quadrant0_20 : decode b_M_quadrant0 20 = .ok (.iadd, 1) := by decide +kernel
theorem d_M_quadrant0_21 : decode b_M_quadrant0 21 = .ok (.istore_n 2, 1) := by decide +kernel
theorem d_M_quadrant0_22 : decode b_M_quadrant0 22 = .ok (.aload_n 0, 1) := by decide +kernel
theorem d_M_quadrant0_23 : decode b_M_quadrant0 23 = .ok (.bipush 15, 2) := by decide +kernel
theorem d_M_quadrant0_25 : decode b_M_quadrant0 25 = .ok (.bipush 13, 2) := by decide +kernel
theorem d_M_quadrant0_27 : decode b_M_quadrant0 27 = .ok (.invokevirtual 27, 3) := by decide +kernel
theorem d_M_quadrant0_30 : decode b_M_quadrant0 30 = .ok (.tableswitch 185 0 7 #[46, 109, 122, 134, 185, 146, 159, 172], 46) := by decide +kernel
theorem d_M_quadrant0_76 : decode b_M_quadrant0 76 = .ok (.bipush 64, 2) := by decide +kernel
theorem d_M_quadrant0_78 : decode b_M_quadrant0 78 = .ok (.aload_n 0, 1) := by decide +kernel
theorem d_M_quadrant0_79 : decode b_M_quadrant0 79 = .ok (.bipush 10, 2) := by decide +kernel
theorem d_M_quadrant0_81 : decode b_M_quadrant0 81 = .ok (.bipush 7, 2) := by decide +kernel
theorem d_M_quadrant0_83 : decode b_M_quadrant0 83 = .ok (.invokevirtual 27, 3) := by decide +kernel
theorem d_M_quadrant0_86 : decode b_M_quadrant0 86 = .ok (.imul, 1) := by decide +kernel
theorem d_M_quadrant0_87 : decode b_M_quadrant0 87 = .ok (.bipush 16, 2) := by decide +kernel
theorem d_M_quadrant0_89 : decode b_M_quadrant0 89 = .ok (.aload_n 0, 1) := by decide +kernel
theorem d_M_quadrant0_90 : decode b_M_quadrant0 90 = .ok (.bipush 12, 2) := by decide +kernel
theorem d_M_quadrant0_92 : decode b_M_quadrant0 92 = .ok (.bipush 11, 2) := by decide +kernel
theorem d_M_quadrant0_94 : decode b_M_quadrant0 94 = .ok (.invokevirtual 27, 3) := by decide +kernel
theorem d_M_quadrant0_97 : decode b_M_quadrant0 97 = .ok (.imul, 1) := by decide +kernel
theorem d_M_quadrant0_98 : decode b_M_quadrant0 98 = .ok (.iadd, 1) := by decide +kernel
theorem d_M_quadrant0_99 : decode b_M_quadrant0 99 = .ok (.bipush 8, 2) := by decide +kernel
theorem d_M_quadrant0_101 : decode b_M_quadrant0 101 = .ok (.aload_n 0, 1) := by decide +kernel
theorem d_M_quadrant0_102 : decode b_M_quadrant0 102 = .ok (.iconst 5, 1) := by decide +kernel
theorem d_M_quadrant0_103 : decode b_M_quadrant0 103 = .ok (.iconst 5, 1) := by decide +kernel
theorem d_M_quadrant0_104 : decode b_M_quadrant0 104 = .ok (.invokevirtual 27, 3) := by decide +kernel
theorem d_M_quadrant0_107 : decode b_M_quadrant0 107 = .ok (.imul, 1) := by decide +kernel
theorem d_M_quadrant0_108 : decode b_M_quadrant0 108 = .ok (.iadd, 1) := by decide +kernel
theorem d_M_quadrant0_109 : decode b_M_quadrant0 109 = .ok (.iconst 4, 1) := by decide +kernel
theorem d_M_quadrant0_110 : decode b_M_quadrant0 110 = .ok (.aload_n 0, 1) := by decide +kernel
theorem d_M_quadrant0_111 : decode b_M_quadrant0 111 = .ok (.bipush 6, 2) := by decide +kernel
theorem d_M_quadrant0_113 : decode b_M_quadrant0 113 = .ok (.bipush 6, 2) := by decide +kernel
theorem d_M_quadrant0_115 : decode b_M_quadrant0 115 = .ok (.invokevirtual 27, 3) := by decide +kernel
theorem d_M_quadrant0_118 : decode b_M_quadrant0 118 = .ok (.imul, 1) := by decide +kernel
theorem d_M_quadrant0_119 : decode b_M_quadrant0 119 = .ok (.iadd, 1) := by decide +kernel
theorem d_M_quadrant0_120 : decode b_M_quadrant0 120 = .ok (.istore_n 3, 1) := by decide +kernel
theorem d_M_quadrant0_121 : decode b_M_quadrant0 121 = .ok (.iload_n 3, 1) := by decide +kernel
theorem d_M_quadrant0_122 : decode b_M_quadrant0 122 = .ok (.ifCond .ne 7, 3) := by decide +kernel
theorem d_M_quadrant0_125 : decode b_M_quadrant0 125 = .ok (.iconst 0, 1) := by decide +kernel
theorem d_M_quadrant0_126 : decode b_M_quadrant0 126 = .ok (.goto 12, 3) := by decide +kernel
theorem d_M_quadrant0_129 : decode b_M_quadrant0 129 = .ok (.bipush 19, 2) := by decide +kernel
theorem d_M_quadrant0_131 : decode b_M_quadrant0 131 = .ok (.iload_n 2, 1) := by decide +kernel
theorem d_M_quadrant0_132 : decode b_M_quadrant0 132 = .ok (.iconst 0, 1) := by decide +kernel
theorem d_M_quadrant0_133 : decode b_M_quadrant0 133 = .ok (.iconst 2, 1) := by decide +kernel
theorem d_M_quadrant0_134 : decode b_M_quadrant0 134 = .ok (.iload_n 3, 1) := by decide +kernel
theorem d_M_quadrant0_135 : decode b_M_quadrant0 135 = .ok (.invokestatic 18, 3) := by decide +kernel
theorem d_M_quadrant0_138 : decode b_M_quadrant0 138 = .ok (.ireturn, 1) := by decide +kernel
theorem d_M_quadrant0_139 : decode b_M_quadrant0 139 = .ok (.bipush 7, 2) := by decide +kernel
theorem d_M_quadrant0_141 : decode b_M_quadrant0 141 = .ok (.iload_n 2, 1) := by decide +kernel
theorem d_M_quadrant0_142 : decode b_M_quadrant0 142 = .ok (.iconst 3, 1) := by decide +kernel
theorem d_M_quadrant0_143 : decode b_M_quadrant0 143 = .ok (.iload_n 1, 1) := by decide +kernel
theorem d_M_quadrant0_144 : decode b_M_quadrant0 144 = .ok (.aload_n 0, 1) := by decide +kernel
theorem d_M_quadrant0_145 : decode b_M_quadrant0 145 = .ok (.invokevirtual 35, 3) := by decide +kernel
theorem d_M_quadrant0_148 : decode b_M_quadrant0 148 = .ok (.invokestatic 18, 3) := by decide +kernel
theorem d_M_quadrant0_151 : decode b_M_quadrant0 151 = .ok (.ireturn, 1) := by decide +kernel
theorem d_M_quadrant0_152 : decode b_M_quadrant0 152 = .ok (.iconst 3, 1) := by decide +kernel
theorem d_M_quadrant0_153 : decode b_M_quadrant0 153 = .ok (.iload_n 2, 1) := by decide +kernel
theorem d_M_quadrant0_154 : decode b_M_quadrant0 154 = .ok (.iconst 2, 1) := by decide +kernel
theorem d_M_quadrant0_155 : decode b_M_quadrant0 155 = .ok (.iload_n 1, 1) := by decide +kernel
theorem d_M_quadrant0_156 : decode b_M_quadrant0 156 = .ok (.aload_n 0, 1) := by decide +kernel
theorem d_M_quadrant0_157 : decode b_M_quadrant0 157 = .ok (.invokevirtual 38, 3) := by decide +kernel
theorem d_M_quadrant0_160 : decode b_M_quadrant0 160 = .ok (.invokestatic 18, 3) := by decide +kernel
theorem d_M_quadrant0_163 : decode b_M_quadrant0 163 = .ok (.ireturn, 1) := by decide +kernel
theorem d_M_quadrant0_164 : decode b_M_quadrant0 164 = .ok (.iconst 3, 1) := by decide +kernel
theorem d_M_quadrant0_165 : decode b_M_quadrant0 165 = .ok (.iload_n 2, 1) := by decide +kernel
theorem d_M_quadrant0_166 : decode b_M_quadrant0 166 = .ok (.iconst 3, 1) := by decide +kernel
theorem d_M_quadrant0_167 : decode b_M_quadrant0 167 = .ok (.iload_n 1, 1) := by decide +kernel
theorem d_M_quadrant0_168 : decode b_M_quadrant0 168 = .ok (.aload_n 0, 1) := by decide +kernel
theorem d_M_quadrant0_169 : decode b_M_quadrant0 169 = .ok (.invokevirtual 35, 3) := by decide +kernel
theorem d_M_quadrant0_172 : decode b_M_quadrant0 172 = .ok (.invokestatic 18, 3) := by decide +kernel
theorem d_M_quadrant0_175 : decode b_M_quadrant0 175 = .ok (.ireturn, 1) := by decide +kernel
theorem d_M_quadrant0_176 : decode b_M_quadrant0 176 = .ok (.bipush 39, 2) := by decide +kernel
theorem d_M_quadrant0_178 : decode b_M_quadrant0 178 = .ok (.iconst 3, 1) := by decide +kernel
theorem d_M_quadrant0_179 : decode b_M_quadrant0 179 = .ok (.iload_n 1, 1) := by decide +kernel
theorem d_M_quadrant0_180 : decode b_M_quadrant0 180 = .ok (.iload_n 2, 1) := by decide +kernel
theorem d_M_quadrant0_181 : decode b_M_quadrant0 181 = .ok (.aload_n 0, 1) := by decide +kernel
theorem d_M_quadrant0_182 : decode b_M_quadrant0 182 = .ok (.invokevirtual 35, 3) := by decide +kernel
theorem d_M_quadrant0_185 : decode b_M_quadrant0 185 = .ok (.invokestatic 41, 3) := by decide +kernel
theorem d_M_quadrant0_188 : decode b_M_quadrant0 188 = .ok (.ireturn, 1) := by decide +kernel
theorem d_M_quadrant0_189 : decode b_M_quadrant0 189 = .ok (.bipush 35, 2) := by decide +kernel
theorem d_M_quadrant0_191 : decode b_M_quadrant0 191 = .ok (.iconst 2, 1) := by decide +kernel
theorem d_M_quadrant0_192 : decode b_M_quadrant0 192 = .ok (.iload_n 1, 1) := by decide +kernel
theorem d_M_quadrant0_193 : decode b_M_quadrant0 193 = .ok (.iload_n 2, 1) := by decide +kernel
theorem d_M_quadrant0_194 : decode b_M_quadrant0 194 = .ok (.aload_n 0, 1) := by decide +kernel
theorem d_M_quadrant0_195 : decode b_M_quadrant0 195 = .ok (.invokevirtual 38, 3) := by decide +kernel
theorem d_M_quadrant0_198 : decode b_M_quadrant0 198 = .ok (.invokestatic 41, 3) := by decide +kernel
theorem d_M_quadrant0_201 : decode b_M_quadrant0 201 = .ok (.ireturn, 1) := by decide +kernel
theorem d_M_quadrant0_202 : decode b_M_quadrant0 202 = .ok (.bipush 35, 2) := by decide +kernel
theorem d_M_quadrant0_204 : decode b_M_quadrant0 204 = .ok (.iconst 3, 1) := by decide +kernel
theorem d_M_quadrant0_205 : decode b_M_quadrant0 205 = .ok (.iload_n 1, 1) := by decide +kernel
theorem d_M_quadrant0_206 : decode b_M_quadrant0 206 = .ok (.iload_n 2, 1) := by decide +kernel
theorem d_M_quadrant0_207 : decode b_M_quadrant0 207 = .ok (.aload_n 0, 1) := by decide +kernel
theorem d_M_quadrant0_208 : decode b_M_quadrant0 208 = .ok (.invokevirtual 35, 3) := by decide +kernel
theorem d_M_quadrant0_211 : decode b_M_quadrant0 211 = .ok (.invokestatic 41, 3) := by decide +kernel
theorem d_M_quadrant0_214 : decode b_M_quadrant0 214 = .ok (.ireturn, 1) := by decide +kernel
theorem d_M_quadrant0_215 : decode b_M_quadrant0 215 = .ok (.iconst 0, 1) := by decide +kernel
theorem d_M_quadrant0_216 : decode b_M_quadrant0 216 = .ok (.ireturn, 1) := by decide +kernel
theorem d_M_arithmetic_0 : decode b_M_arithmetic 0 = .ok (.bipush 8, 2) := by decide +kernel
theorem d_M_arithmetic_2 : decode b_M_arithmetic 2 = .ok (.aload_n 0, 1) := by decide +kernel
theorem d_M_arithmetic_3 : decode b_M_arithmetic 3 = .ok (.bipush 9, 2) := by decide +kernel
theorem d_M_arithmetic_5 : decode b_M_arithmetic 5 = .ok (.bipush 7, 2) := by decide +kernel
theorem d_M_arithmetic_7 : decode b_M_arithmetic 7 = .ok (.invokevirtual 27, 3) := by decide +kernel
theorem d_M_arithmetic_10 : decode b_M_arithmetic 10 = .ok (.iadd, 1) := by decide +kernel
theorem d_M_arithmetic_11 : decode b_M_arithmetic 11 = .ok (.istore_n 1, 1) := by decide +kernel
theorem d_M_arithmetic_12 : decode b_M_arithmetic 12 = .ok (.bipush 8, 2) := by decide +kernel
theorem d_M_arithmetic_14 : decode b_M_arithmetic 14 = .ok (.aload_n 0, 1) := by decide +kernel
theorem d_M_arithmetic_15 : decode b_M_arithmetic 15 = .ok (.iconst 4, 1) := by decide +kernel
theorem d_M_arithmetic_16 : decode b_M_arithmetic 16 = .ok (.iconst 2, 1) := by decide +kernel
theorem d_M_arithmetic_17 : decode b_M_arithmetic 17 = .ok (.invokevirtual 27, 3) := by decide +kernel
theorem d_M_arithmetic_20 : decode b_M_arithmetic 20 = .ok (.iadd, 1) := by decide +kernel
theorem d_M_arithmetic_21 : decode b_M_arithmetic 21 = .ok (.istore_n 2, 1) := by decide +kernel
theorem d_M_arithmetic_22 : decode b_M_arithmetic 22 = .ok (.aload_n 0, 1) := by decide +kernel
theorem d_M_arithmetic_23 : decode b_M_arithmetic 23 = .ok (.bipush 11, 2) := by decide +kernel
theorem d_M_arithmetic_25 : decode b_M_arithmetic 25 = .ok (.bipush 10, 2) := by decide +kernel
theorem d_M_arithmetic_27 : decode b_M_arithmetic 27 = .ok (.invokevirtual 27, 3) := by decide +kernel
theorem d_M_arithmetic_30 : decode b_M_arithmetic 30 = .ok (.istore_n 3, 1) := by decide +kernel
theorem d_M_arithmetic_31 : decode b_M_arithmetic 31 = .ok (.iload_n 3, 1) := by decide +kernel
theorem d_M_arithmetic_32 : decode b_M_arithmetic 32 = .ok (.iconst 2, 1) := by decide +kernel
theorem d_M_arithmetic_33 : decode b_M_arithmetic 33 = .ok (.if_icmp .ge 22, 3) := by decide +kernel
theorem d_M_arithmetic_36 : decode b_M_arithmetic 36 = .ok (.bipush 19, 2) := by decide +kernel
theorem d_M_arithmetic_38 : decode b_M_arithmetic 38 = .ok (.iload_n 1, 1) := by decide +kernel
theorem d_M_arithmetic_39 : decode b_M_arithmetic 39 = .ok (.iconst 5, 1) := by decide +kernel
theorem d_M_arithmetic_40 : decode b_M_arithmetic 40 = .ok (.iload_n 1, 1) := by decide +kernel
theorem d_M_arithmetic_41 : decode b_M_arithmetic 41 = .ok (.aload_n 0, 1) := by decide +kernel
theorem d_M_arithmetic_42 : decode b_M_arithmetic 42 = .ok (.invokevirtual 31, 3) := by decide +kernel
theorem d_M_arithmetic_45 : decode b_M_arithmetic 45 = .ok (.sipush 1024, 3) := by decide +kernel
theorem d_M_arithmetic_48 : decode b_M_arithmetic 48 = .ok (.iload_n 3, 1) := by decide +kernel
theorem d_M_arithmetic_49 : decode b_M_arithmetic 49 = .ok (.imul, 1) := by decide +kernel
theorem d_M_arithmetic_50 : decode b_M_arithmetic 50 = .ok (.iadd, 1) := by decide +kernel
theorem d_M_arithmetic_51 : decode b_M_arithmetic 51 = .ok (.invokestatic 18, 3) := by decide +kernel
theorem d_M_arithmetic_54 : decode b_M_arithmetic 54 = .ok (.ireturn, 1) := by decide +kernel
theorem d_M_arithmetic_55 : decode b_M_arithmetic 55 = .ok (.iload_n 3, 1) := by decide +kernel
theorem d_M_arithmetic_56 : decode b_M_arithmetic 56 = .ok (.iconst 2, 1) := by decide +kernel
theorem d_M_arithmetic_57 : decode b_M_arithmetic 57 = .ok (.if_icmp .ne 17, 3) := by decide +kernel
theorem d_M_arithmetic_60 : decode b_M_arithmetic 60 = .ok (.bipush 19, 2) := by decide +kernel
theorem d_M_arithmetic_62 : decode b_M_arithmetic 62 = .ok (.iload_n 1, 1) := by decide +kernel
theorem d_M_arithmetic_63 : decode b_M_arithmetic 63 = .ok (.bipush 7, 2) := by decide +kernel
theorem d_M_arithmetic_65 : decode b_M_arithmetic 65 = .ok (.iload_n 1, 1) := by decide +kernel
theorem d_M_arithmetic_66 : decode b_M_arithmetic 66 = .ok (.aload_n 0, 1) := by decide +kernel
theorem d_M_arithmetic_67 : decode b_M_arithmetic 67 = .ok (.invokevirtual 44, 3) := by decide +kernel
theorem d_M_arithmetic_70 : decode b_M_arithmetic 70 = .ok (.invokestatic 18, 3) := by decide +kernel
theorem d_M_arithmetic_73 : decode b_M_arithmetic 73 = .ok (.ireturn, 1) := by decide +kernel
theorem d_M_arithmetic_74 : decode b_M_arithmetic 74 = .ok (.iconst 4, 1) := by decide +kernel
theorem d_M_arithmetic_75 : decode b_M_arithmetic 75 = .ok (.aload_n 0, 1) := by decide +kernel
theorem d_M_arithmetic_76 : decode b_M_arithmetic 76 = .ok (.bipush 12, 2) := by decide +kernel
theorem d_M_arithmetic_78 : decode b_M_arithmetic 78 = .ok (.bipush 12, 2) := by decide +kernel
theorem d_M_arithmetic_80 : decode b_M_arithmetic 80 = .ok (.invokevirtual 27, 3) := by decide +kernel
theorem d_M_arithmetic_83 : decode b_M_arithmetic 83 = .ok (.imul, 1) := by decide +kernel
theorem d_M_arithmetic_84 : decode b_M_arithmetic 84 = .ok (.aload_n 0, 1) := by decide +kernel
theorem d_M_arithmetic_85 : decode b_M_arithmetic 85 = .ok (.bipush 6, 2) := by decide +kernel
theorem d_M_arithmetic_87 : decode b_M_arithmetic 87 = .ok (.iconst 5, 1) := by decide +kernel
theorem d_M_arithmetic_88 : decode b_M_arithmetic 88 = .ok (.invokevirtual 27, 3) := by decide +kernel
theorem d_M_arithmetic_91 : decode b_M_arithmetic 91 = .ok (.iadd, 1) := by decide +kernel
theorem d_M_arithmetic_92 : decode b_M_arithmetic 92 = .ok (.tableswitch 110 0 5 #[40, 52, 63, 75, 87, 99], 40) := by decide +kernel
theorem d_M_arithmetic_132 : decode b_M_arithmetic 132 = .ok (.bipush 51, 2) := by decide +kernel
theorem d_M_arithmetic_134 : decode b_M_arithmetic 134 = .ok (.iload_n 1, 1) := by decide +kernel
theorem d_M_arithmetic_135 : decode b_M_arithmetic 135 = .ok (.iconst 0, 1) := by decide +kernel
theorem d_M_arithmetic_136 : decode b_M_arithmetic 136 = .ok (.iload_n 1, 1) := by decide +kernel
theorem d_M_arithmetic_137 : decode b_M_arithmetic 137 = .ok (.iload_n 2, 1) := by decide +kernel
theorem d_M_arithmetic_138 : decode b_M_arithmetic 138 = .ok (.bipush 32, 2) := by decide +kernel
theorem d_M_arithmetic_140 : decode b_M_arithmetic 140 = .ok (.invokestatic 47, 3) := by decide +kernel
theorem d_M_arithmetic_143 : decode b_M_arithmetic 143 = .ok (.ireturn, 1) := by decide +kernel
theorem d_M_arithmetic_144 : decode b_M_arithmetic 144 = .ok (.bipush 51, 2) := by decide +kernel
theorem d_M_arithmetic_146 : decode b_M_arithmetic 146 = .ok (.iload_n 1, 1) := by decide +kernel
theorem d_M_arithmetic_147 : decode b_M_arithmetic 147 = .ok (.iconst 4, 1) := by decide +kernel
theorem d_M_arithmetic_148 : decode b_M_arithmetic 148 = .ok (.iload_n 1, 1) := by decide +kernel
theorem d_M_arithmetic_149 : decode b_M_arithmetic 149 = .ok (.iload_n 2, 1) := by decide +kernel
theorem d_M_arithmetic_150 : decode b_M_arithmetic 150 = .ok (.iconst 0, 1) := by decide +kernel
theorem d_M_arithmetic_151 : decode b_M_arithmetic 151 = .ok (.invokestatic 47, 3) := by decide +kernel
theorem d_M_arithmetic_154 : decode b_M_arithmetic 154 = .ok (.ireturn, 1) := by decide +kernel
theorem d_M_arithmetic_155 : decode b_M_arithmetic 155 = .ok (.bipush 51, 2) := by decide +kernel
theorem d_M_arithmetic_157 : decode b_M_arithmetic 157 = .ok (.iload_n 1, 1) := by decide +kernel
theorem d_M_arithmetic_158 : decode b_M_arithmetic 158 = .ok (.bipush 6, 2) := by decide +kernel
theorem d_M_arithmetic_160 : decode b_M_arithmetic 160 = .ok (.iload_n 1, 1) := by decide +kernel
theorem d_M_arithmetic_161 : decode b_M_arithmetic 161 = .ok (.iload_n 2, 1) := by decide +kernel
theorem d_M_arithmetic_162 : decode b_M_arithmetic 162 = .ok (.iconst 0, 1) := by decide +kernel
theorem d_M_arithmetic_163 : decode b_M_arithmetic 163 = .ok (.invokestatic 47, 3) := by decide +kernel
theorem d_M_arithmetic_166 : decode b_M_arithmetic 166 = .ok (.ireturn, 1) := by decide +kernel
theorem d_M_arithmetic_167 : decode b_M_arithmetic 167 = .ok (.bipush 51, 2) := by decide +kernel
theorem d_M_arithmetic_169 : decode b_M_arithmetic 169 = .ok (.iload_n 1, 1) := by decide +kernel
theorem d_M_arithmetic_170 : decode b_M_arithmetic 170 = .ok (.bipush 7, 2) := by decide +kernel
theorem d_M_arithmetic_172 : decode b_M_arithmetic 172 = .ok (.iload_n 1, 1) := by decide +kernel
theorem d_M_arithmetic_173 : decode b_M_arithmetic 173 = .ok (.iload_n 2, 1) := by decide +kernel
theorem d_M_arithmetic_174 : decode b_M_arithmetic 174 = .ok (.iconst 0, 1) := by decide +kernel
theorem d_M_arithmetic_175 : decode b_M_arithmetic 175 = .ok (.invokestatic 47, 3) := by decide +kernel
theorem d_M_arithmetic_178 : decode b_M_arithmetic 178 = .ok (.ireturn, 1) := by decide +kernel
theorem d_M_arithmetic_179 : decode b_M_arithmetic 179 = .ok (.bipush 59, 2) := by decide +kernel
theorem d_M_arithmetic_181 : decode b_M_arithmetic 181 = .ok (.iload_n 1, 1) := by decide +kernel
theorem d_M_arithmetic_182 : decode b_M_arithmetic 182 = .ok (.iconst 0, 1) := by decide +kernel
theorem d_M_arithmetic_183 : decode b_M_arithmetic 183 = .ok (.iload_n 1, 1) := by decide +kernel
theorem d_M_arithmetic_184 : decode b_M_arithmetic 184 = .ok (.iload_n 2, 1) := by decide +kernel
theorem d_M_arithmetic_185 : decode b_M_arithmetic 185 = .ok (.bipush 32, 2) := by decide +kernel
