theorem d_S_guessForLow0_25 : decode b_S_guessForLow0 25 = .ok (.iload_n 1, 1) := by decide +kernel
theorem d_S_guessForLow0_26 : decode b_S_guessForLow0 26 = .ok (.invokestatic 167, 3) := by decide +kernel
theorem d_S_guessForLow0_29 : decode b_S_guessForLow0 29 = .ok (.iconst 2, 1) := by decide +kernel
theorem d_S_guessForLow0_30 : decode b_S_guessForLow0 30 = .ok (.iconst 0, 1) := by decide +kernel
theorem d_S_guessForLow0_31 : decode b_S_guessForLow0 31 = .ok (.invokestatic 49, 3) := by decide +kernel
theorem d_S_guessForLow0_34 : decode b_S_guessForLow0 34 = .ok (.iconst 2, 1) := by decide +kernel
theorem d_S_guessForLow0_35 : decode b_S_guessForLow0 35 = .ok (.ishl, 1) := by decide +kernel
theorem d_S_guessForLow0_36 : decode b_S_guessForLow0 36 = .ok (.istore 4, 2) := by decide +kernel
theorem d_S_guessForLow0_38 : decode b_S_guessForLow0 38 = .ok (.iload_n 0, 1) := by decide +kernel
theorem d_S_guessForLow0_39 : decode b_S_guessForLow0 39 = .ok (.tableswitch 100 0 6 #[41, 54, 69, 54, 100, 100, 84], 41) := by decide +kernel
theorem d_S_guessForLow0_80 : decode b_S_guessForLow0 80 = .ok (.iload_n 1, 1) := by decide +kernel
theorem d_S_guessForLow0_81 : decode b_S_guessForLow0 81 = .ok (.invokestatic 170, 3) := by decide +kernel
theorem d_S_guessForLow0_84 : decode b_S_guessForLow0 84 = .ok (.getstatic 63, 3) := by decide +kernel
theorem d_S_guessForLow0_87 : decode b_S_guessForLow0 87 = .ok (.invokestatic 173, 3) := by decide +kernel
theorem d_S_guessForLow0_90 : decode b_S_guessForLow0 90 = .ok (.iload_n 3, 1) := by decide +kernel
theorem d_S_guessForLow0_91 : decode b_S_guessForLow0 91 = .ok (.ior, 1) := by decide +kernel
theorem d_S_guessForLow0_92 : decode b_S_guessForLow0 92 = .ok (.ireturn, 1) := by decide +kernel
theorem d_S_guessForLow0_93 : decode b_S_guessForLow0 93 = .ok (.iload_n 1, 1) := by decide +kernel
theorem d_S_guessForLow0_94 : decode b_S_guessForLow0 94 = .ok (.invokestatic 170, 3) := by decide +kernel
theorem d_S_guessForLow0_97 : decode b_S_guessForLow0 97 = .ok (.getstatic 74, 3) := by decide +kernel
theorem d_S_guessForLow0_100 : decode b_S_guessForLow0 100 = .ok (.invokestatic 173, 3) := by decide +kernel
theorem d_S_guessForLow0_103 : decode b_S_guessForLow0 103 = .ok (.iload_n 2, 1) := by decide +kernel
theorem d_S_guessForLow0_104 : decode b_S_guessForLow0 104 = .ok (.ior, 1) := by decide +kernel
theorem d_S_guessForLow0_105 : decode b_S_guessForLow0 105 = .ok (.iload_n 3, 1) := by decide +kernel
theorem d_S_guessForLow0_106 : decode b_S_guessForLow0 106 = .ok (.ior, 1) := by decide +kernel
theorem d_S_guessForLow0_107 : decode b_S_guessForLow0 107 = .ok (.ireturn, 1) := by decide +kernel
theorem d_S_guessForLow0_108 : decode b_S_guessForLow0 108 = .ok (.iload_n 1, 1) := by decide +kernel
theorem d_S_guessForLow0_109 : decode b_S_guessForLow0 109 = .ok (.invokestatic 170, 3) := by decide +kernel
theorem d_S_guessForLow0_112 : decode b_S_guessForLow0 112 = .ok (.getstatic 81, 3) := by decide +kernel
theorem d_S_guessForLow0_115 : decode b_S_guessForLow0 115 = .ok (.invokestatic 173, 3) := by decide +kernel
theorem d_S_guessForLow0_118 : decode b_S_guessForLow0 118 = .ok (.iload_n 2, 1) := by decide +kernel
theorem d_S_guessForLow0_119 : decode b_S_guessForLow0 119 = .ok (.ior, 1) := by decide +kernel
theorem d_S_guessForLow0_120 : decode b_S_guessForLow0 120 = .ok (.iload_n 3, 1) := by decide +kernel
theorem d_S_guessForLow0_121 : decode b_S_guessForLow0 121 = .ok (.ior, 1) := by decide +kernel
theorem d_S_guessForLow0_122 : decode b_S_guessForLow0 122 = .ok (.ireturn, 1) := by decide +kernel
theorem d_S_guessForLow0_123 : decode b_S_guessForLow0 123 = .ok (.iload_n 1, 1) := by decide +kernel
theorem d_S_guessForLow0_124 : decode b_S_guessForLow0 124 = .ok (.invokestatic 176, 3) := by decide +kernel
theorem d_S_guessForLow0_127 : decode b_S_guessForLow0 127 = .ok (.getstatic 81, 3) := by decide +kernel
theorem d_S_guessForLow0_130 : decode b_S_guessForLow0 130 = .ok (.invokestatic 173, 3) := by decide +kernel
theorem d_S_guessForLow0_133 : decode b_S_guessForLow0 133 = .ok (.iload_n 2, 1) := by decide +kernel
theorem d_S_guessForLow0_134 : decode b_S_guessForLow0 134 = .ok (.ior, 1) := by decide +kernel
theorem d_S_guessForLow0_135 : decode b_S_guessForLow0 135 = .ok (.iload 4, 2) := by decide +kernel
theorem d_S_guessForLow0_137 : decode b_S_guessForLow0 137 = .ok (.ior, 1) := by decide +kernel
theorem d_S_guessForLow0_138 : decode b_S_guessForLow0 138 = .ok (.ireturn, 1) := by decide +kernel
theorem d_S_guessForLow0_139 : decode b_S_guessForLow0 139 = .ok (.iload_n 1, 1) := by decide +kernel
theorem d_S_guessForLow0_140 : decode b_S_guessForLow0 140 = .ok (.invokestatic 176, 3) := by decide +kernel
theorem d_S_guessForLow0_143 : decode b_S_guessForLow0 143 = .ok (.getstatic 74, 3) := by decide +kernel
theorem d_S_guessForLow0_146 : decode b_S_guessForLow0 146 = .ok (.invokestatic 173, 3) := by decide +kernel
theorem d_S_guessForLow0_149 : decode b_S_guessForLow0 149 = .ok (.iload_n 2, 1) := by decide +kernel
theorem d_S_guessForLow0_150 : decode b_S_guessForLow0 150 = .ok (.ior, 1) := by decide +kernel
theorem d_S_guessForLow0_151 : decode b_S_guessForLow0 151 = .ok (.iload 4, 2) := by decide +kernel
theorem d_S_guessForLow0_153 : decode b_S_guessForLow0 153 = .ok (.ior, 1) := by decide +kernel
theorem d_S_guessForLow0_154 : decode b_S_guessForLow0 154 = .ok (.ireturn, 1) := by decide +kernel
theorem d_S_guessForLow1_0 : decode b_S_guessForLow1 0 = .ok (.iload_n 1, 1) := by decide +kernel
theorem d_S_guessForLow1_1 : decode b_S_guessForLow1 1 = .ok (.invokestatic 164, 3) := by decide +kernel
theorem d_S_guessForLow1_4 : decode b_S_guessForLow1 4 = .ok (.bipush 7, 2) := by decide +kernel
theorem d_S_guessForLow1_6 : decode b_S_guessForLow1 6 = .ok (.ishl, 1) := by decide +kernel
theorem d_S_guessForLow1_7 : decode b_S_guessForLow1 7 = .ok (.istore_n 2, 1) := by decide +kernel
theorem d_S_guessForLow1_8 : decode b_S_guessForLow1 8 = .ok (.iload_n 0, 1) := by decide +kernel
theorem d_S_guessForLow1_9 : decode b_S_guessForLow1 9 = .ok (.tableswitch 111 3 7 #[35, 71, 76, 87, 87], 35) := by decide +kernel
theorem d_S_guessForLow1_44 : decode b_S_guessForLow1 44 = .ok (.iload_n 1, 1) := by decide +kernel
theorem d_S_guessForLow1_45 : decode b_S_guessForLow1 45 = .ok (.invokestatic 164, 3) := by decide +kernel
theorem d_S_guessForLow1_48 : decode b_S_guessForLow1 48 = .ok (.iconst 2, 1) := by decide +kernel
theorem d_S_guessForLow1_49 : decode b_S_guessForLow1 49 = .ok (.if_icmp .ne 18, 3) := by decide +kernel
theorem d_S_guessForLow1_52 : decode b_S_guessForLow1 52 = .ok (.iload_n 2, 1) := by decide +kernel
theorem d_S_guessForLow1_53 : decode b_S_guessForLow1 53 = .ok (.iload_n 1, 1) := by decide +kernel
theorem d_S_guessForLow1_54 : decode b_S_guessForLow1 54 = .ok (.invokestatic 170, 3) := by decide +kernel
theorem d_S_guessForLow1_57 : decode b_S_guessForLow1 57 = .ok (.getstatic 90, 3) := by decide +kernel
theorem d_S_guessForLow1_60 : decode b_S_guessForLow1 60 = .ok (.invokestatic 173, 3) := by decide +kernel
theorem d_S_guessForLow1_63 : decode b_S_guessForLow1 63 = .ok (.ior, 1) := by decide +kernel
theorem d_S_guessForLow1_64 : decode b_S_guessForLow1 64 = .ok (.goto 15, 3) := by decide +kernel
theorem d_S_guessForLow1_67 : decode b_S_guessForLow1 67 = .ok (.iload_n 2, 1) := by decide +kernel
theorem d_S_guessForLow1_68 : decode b_S_guessForLow1 68 = .ok (.iload_n 1, 1) := by decide +kernel
theorem d_S_guessForLow1_69 : decode b_S_guessForLow1 69 = .ok (.bipush 16, 2) := by decide +kernel
theorem d_S_guessForLow1_71 : decode b_S_guessForLow1 71 = .ok (.bipush 12, 2) := by decide +kernel
theorem d_S_guessForLow1_73 : decode b_S_guessForLow1 73 = .ok (.invokestatic 49, 3) := by decide +kernel
theorem d_S_guessForLow1_76 : decode b_S_guessForLow1 76 = .ok (.iconst 2, 1) := by decide +kernel
theorem d_S_guessForLow1_77 : decode b_S_guessForLow1 77 = .ok (.ishl, 1) := by decide +kernel
theorem d_S_guessForLow1_78 : decode b_S_guessForLow1 78 = .ok (.ior, 1) := by decide +kernel
theorem d_S_guessForLow1_79 : decode b_S_guessForLow1 79 = .ok (.ireturn, 1) := by decide +kernel
theorem d_S_guessForLow1_80 : decode b_S_guessForLow1 80 = .ok (.iload_n 1, 1) := by decide +kernel
theorem d_S_guessForLow1_81 : decode b_S_guessForLow1 81 = .ok (.invokestatic 179, 3) := by decide +kernel
theorem d_S_guessForLow1_84 : decode b_S_guessForLow1 84 = .ok (.ireturn, 1) := by decide +kernel
theorem d_S_guessForLow1_85 : decode b_S_guessForLow1 85 = .ok (.iload_n 1, 1) := by decide +kernel
theorem d_S_guessForLow1_86 : decode b_S_guessForLow1 86 = .ok (.invokestatic 182, 3) := by decide +kernel
theorem d_S_guessForLow1_89 : decode b_S_guessForLow1 89 = .ok (.getstatic 105, 3) := by decide +kernel
theorem d_S_guessForLow1_92 : decode b_S_guessForLow1 92 = .ok (.invokestatic 173, 3) := by decide +kernel
theorem d_S_guessForLow1_95 : decode b_S_guessForLow1 95 = .ok (.ireturn, 1) := by decide +kernel
theorem d_S_guessForLow1_96 : decode b_S_guessForLow1 96 = .ok (.iload_n 1, 1) := by decide +kernel
theorem d_S_guessForLow1_97 : decode b_S_guessForLow1 97 = .ok (.invokestatic 185, 3) := by decide +kernel
theorem d_S_guessForLow1_100 : decode b_S_guessForLow1 100 = .ok (.getstatic 111, 3) := by decide +kernel
theorem d_S_guessForLow1_103 : decode b_S_guessForLow1 103 = .ok (.invokestatic 173, 3) := by decide +kernel
theorem d_S_guessForLow1_106 : decode b_S_guessForLow1 106 = .ok (.iload_n 1, 1) := by decide +kernel
theorem d_S_guessForLow1_107 : decode b_S_guessForLow1 107 = .ok (.invokestatic 161, 3) := by decide +kernel
theorem d_S_guessForLow1_110 : decode b_S_guessForLow1 110 = .ok (.iconst 2, 1) := by decide +kernel
theorem d_S_guessForLow1_111 : decode b_S_guessForLow1 111 = .ok (.iconst 0, 1) := by decide +kernel
theorem d_S_guessForLow1_112 : decode b_S_guessForLow1 112 = .ok (.invokestatic 49, 3) := by decide +kernel
theorem d_S_guessForLow1_115 : decode b_S_guessForLow1 115 = .ok (.bipush 7, 2) := by decide +kernel
theorem d_S_guessForLow1_117 : decode b_S_guessForLow1 117 = .ok (.ishl, 1) := by decide +kernel
theorem d_S_guessForLow1_118 : decode b_S_guessForLow1 118 = .ok (.ior, 1) := by decide +kernel
theorem d_S_guessForLow1_119 : decode b_S_guessForLow1 119 = .ok (.ireturn, 1) := by decide +kernel
theorem d_S_guessForLow1_120 : decode b_S_guessForLow1 120 = .ok (.iload_n 2, 1) := by decide +kernel
theorem d_S_guessForLow1_121 : decode b_S_guessForLow1 121 = .ok (.iload_n 1, 1) := by decide +kernel
theorem d_S_guessForLow1_122 : decode b_S_guessForLow1 122 = .ok (.invokestatic 167, 3) := by decide +kernel
theorem d_S_guessForLow1_125 : decode b_S_guessForLow1 125 = .ok (.iconst 2, 1) := by decide +kernel
theorem d_S_guessForLow1_126 : decode b_S_guessForLow1 126 = .ok (.ishl, 1) := by decide +kernel
theorem d_S_guessForLow1_127 : decode b_S_guessForLow1 127 = .ok (.ior, 1) := by decide +kernel
theorem d_S_guessForLow1_128 : decode b_S_guessForLow1 128 = .ok (.ireturn, 1) := by decide +kernel
theorem d_S_guessForArithmetic_0 : decode b_S_guessForArithmetic 0 = .ok (.iload_n 0, 1) := by decide +kernel
theorem d_S_guessForArithmetic_1 : decode b_S_guessForArithmetic 1 = .ok (.invokestatic 164, 3) := by decide +kernel
theorem d_S_guessForArithmetic_4 : decode b_S_guessForArithmetic 4 = .ok (.iconst 2, 1) := by decide +kernel
theorem d_S_guessForArithmetic_5 : decode b_S_guessForArithmetic 5 = .ok (.iconst 0, 1) := by decide +kernel
theorem d_S_guessForArithmetic_6 : decode b_S_guessForArithmetic 6 = .ok (.invokestatic 49, 3) := by decide +kernel
theorem d_S_guessForArithmetic_9 : decode b_S_guessForArithmetic 9 = .ok (.bipush 7, 2) := by decide +kernel
theorem d_S_guessForArithmetic_11 : decode b_S_guessForArithmetic 11 = .ok (.ishl, 1) := by decide +kernel
theorem d_S_guessForArithmetic_12 : decode b_S_guessForArithmetic 12 = .ok (.istore_n 1, 1) := by decide +kernel
theorem d_S_guessForArithmetic_13 : decode b_S_guessForArithmetic 13 = .ok (.iload_n 0, 1) := by decide +kernel
theorem d_S_guessForArithmetic_14 : decode b_S_guessForArithmetic 14 = .ok (.invokestatic 167, 3) := by decide +kernel
theorem d_S_guessForArithmetic_17 : decode b_S_guessForArithmetic 17 = .ok (.iconst 2, 1) := by decide +kernel
theorem d_S_guessForArithmetic_18 : decode b_S_guessForArithmetic 18 = .ok (.ishl, 1) := by decide +kernel
theorem d_S_guessForArithmetic_19 : decode b_S_guessForArithmetic 19 = .ok (.istore_n 2, 1) := by decide +kernel
theorem d_S_guessForArithmetic_20 : decode b_S_guessForArithmetic 20 = .ok (.iload_n 0, 1) := by decide +kernel
theorem d_S_guessForArithmetic_21 : decode b_S_guessForArithmetic 21 = .ok (.invokestatic 188, 3) := by decide +kernel
theorem d_S_guessForArithmetic_24 : decode b_S_guessForArithmetic 24 = .ok (.bipush 19, 2) := by decide +kernel
theorem d_S_guessForArithmetic_26 : decode b_S_guessForArithmetic 26 = .ok (.if_icmp .eq 45, 3) := by decide +kernel
theorem d_S_guessForArithmetic_29 : decode b_S_guessForArithmetic 29 = .ok (.iload_n 0, 1) := by decide +kernel
theorem d_S_guessForArithmetic_30 : decode b_S_guessForArithmetic 30 = .ok (.invokestatic 167, 3) := by decide +kernel
theorem d_S_guessForArithmetic_33 : decode b_S_guessForArithmetic 33 = .ok (.iconst 2, 1) := by decide +kernel
theorem d_S_guessForArithmetic_34 : decode b_S_guessForArithmetic 34 = .ok (.iconst 0, 1) := by decide +kernel
theorem d_S_guessForArithmetic_35 : decode b_S_guessForArithmetic 35 = .ok (.invokestatic 49, 3) := by decide +kernel
theorem d_S_guessForArithmetic_38 : decode b_S_guessForArithmetic 38 = .ok (.iconst 2, 1) := by decide +kernel
theorem d_S_guessForArithmetic_39 : decode b_S_guessForArithmetic 39 = .ok (.ishl, 1) := by decide +kernel
theorem d_S_guessForArithmetic_40 : decode b_S_guessForArithmetic 40 = .ok (.istore_n 3, 1) := by decide +kernel
theorem d_S_guessForArithmetic_41 : decode b_S_guessForArithmetic 41 = .ok (.iload_n 0, 1) := by decide +kernel
theorem d_S_guessForArithmetic_42 : decode b_S_guessForArithmetic 42 = .ok (.invokestatic 188, 3) := by decide +kernel
theorem d_S_guessForArithmetic_45 : decode b_S_guessForArithmetic 45 = .ok (.iload_n 0, 1) := by decide +kernel
theorem d_S_guessForArithmetic_46 : decode b_S_guessForArithmetic 46 = .ok (.invokestatic 191, 3) := by decide +kernel
theorem d_S_guessForArithmetic_49 : decode b_S_guessForArithmetic 49 = .ok (.iload_n 0, 1) := by decide +kernel
theorem d_S_guessForArithmetic_50 : decode b_S_guessForArithmetic 50 = .ok (.invokestatic 194, 3) := by decide +kernel
theorem d_S_guessForArithmetic_53 : decode b_S_guessForArithmetic 53 = .ok (.invokestatic 197, 3) := by decide +kernel
theorem d_S_guessForArithmetic_56 : decode b_S_guessForArithmetic 56 = .ok (.istore 4, 2) := by decide +kernel
theorem d_S_guessForArithmetic_58 : decode b_S_guessForArithmetic 58 = .ok (.sipush 3072, 3) := by decide +kernel
theorem d_S_guessForArithmetic_61 : decode b_S_guessForArithmetic 61 = .ok (.iload_n 1, 1) := by decide +kernel
theorem d_S_guessForArithmetic_62 : decode b_S_guessForArithmetic 62 = .ok (.ior, 1) := by decide +kernel
theorem d_S_guessForArithmetic_63 : decode b_S_guessForArithmetic 63 = .ok (.iload 4, 2) := by decide +kernel
theorem d_S_guessForArithmetic_65 : decode b_S_guessForArithmetic 65 = .ok (.iconst 5, 1) := by decide +kernel
theorem d_S_guessForArithmetic_66 : decode b_S_guessForArithmetic 66 = .ok (.ishl, 1) := by decide +kernel
theorem d_S_guessForArithmetic_67 : decode b_S_guessForArithmetic 67 = .ok (.ior, 1) := by decide +kernel
theorem d_S_guessForArithmetic_68 : decode b_S_guessForArithmetic 68 = .ok (.iload_n 3, 1) := by decide +kernel
theorem d_S_guessForArithmetic_69 : decode b_S_guessForArithmetic 69 = .ok (.ior, 1) := by decide +kernel
theorem d_S_guessForArithmetic_70 : decode b_S_guessForArithmetic 70 = .ok (.ireturn, 1) := by decide +kernel
theorem d_S_guessForArithmetic_71 : decode b_S_guessForArithmetic 71 = .ok (.iload_n 0, 1) := by decide +kernel
theorem d_S_guessForArithmetic_72 : decode b_S_guessForArithmetic 72 = .ok (.invokestatic 191, 3) := by decide +kernel
theorem d_S_guessForArithmetic_75 : decode b_S_guessForArithmetic 75 = .ok (.bipush 7, 2) := by decide +kernel
theorem d_S_guessForArithmetic_77 : decode b_S_guessForArithmetic 77 = .ok (.if_icmp .ne 11, 3) := by decide +kernel
theorem d_S_guessForArithmetic_80 : decode b_S_guessForArithmetic 80 = .ok (.sipush 2048, 3) := by decide +kernel
theorem d_S_guessForArithmetic_83 : decode b_S_guessForArithmetic 83 = .ok (.iload_n 1, 1) := by decide +kernel
theorem d_S_guessForArithmetic_84 : decode b_S_guessForArithmetic 84 = .ok (.ior, 1) := by decide +kernel
theorem d_S_guessForArithmetic_85 : decode b_S_guessForArithmetic 85 = .ok (.iload_n 2, 1) := by decide +kernel
theorem d_S_guessForArithmetic_86 : decode b_S_guessForArithmetic 86 = .ok (.ior, 1) := by decide +kernel
theorem d_S_guessForArithmetic_87 : decode b_S_guessForArithmetic 87 = .ok (.ireturn, 1) := by decide +kernel
theorem d_S_guessForArithmetic_88 : decode b_S_guessForArithmetic 88 = .ok (.iload_n 0, 1) := by decide +kernel
theorem d_S_guessForArithmetic_89 : decode b_S_guessForArithmetic 89 = .ok (.bipush 30, 2) := by decide +kernel
theorem d_S_guessForArithmetic_91 : decode b_S_guessForArithmetic 91 = .ok (.bipush 30, 2) := by decide +kernel
theorem d_S_guessForArithmetic_93 : decode b_S_guessForArithmetic 93 = .ok (.invokestatic 49, 3) := by decide +kernel
theorem d_S_guessForArithmetic_96 : decode b_S_guessForArithmetic 96 = .ok (.bipush 10, 2) := by decide +kernel
theorem d_S_guessForArithmetic_98 : decode b_S_guessForArithmetic 98 = .ok (.ishl, 1) := by decide +kernel
theorem d_S_guessForArithmetic_99 : decode b_S_guessForArithmetic 99 = .ok (.iload_n 1, 1) := by decide +kernel
theorem d_S_guessForArithmetic_100 : decode b_S_guessForArithmetic 100 = .ok (.ior, 1) := by decide +kernel
theorem d_S_guessForArithmetic_101 : decode b_S_guessForArithmetic 101 = .ok (.iload_n 2, 1) := by decide +kernel
theorem d_S_guessForArithmetic_102 : decode b_S_guessForArithmetic 102 = .ok (.ior, 1) := by decide +kernel
theorem d_S_guessForArithmetic_103 : decode b_S_guessForArithmetic 103 = .ok (.ireturn, 1) := by decide +kernel
theorem d_S_guessOperation_0 : decode b_S_guessOperation 0 = .ok (.iload_n 1, 1) := by decide +kernel
theorem d_S_guessOperation_1 : decode b_S_guessOperation 1 = .ok (.tableswitch 37 4 7 #[31, 37, 33, 35], 31) := by decide +kernel
theorem d_S_guessOperation_32 : decode b_S_guessOperation 32 = .ok (.iconst 1, 1) := by decide +kernel
theorem d_S_guessOperation_33 : decode b_S_guessOperation 33 = .ok (.ireturn, 1) := by decide +kernel
theorem d_S_guessOperation_34 : decode b_S_guessOperation 34 = .ok (.iconst 2, 1) := by decide +kernel
theorem d_S_guessOperation_35 : decode b_S_guessOperation 35 = .ok (.ireturn, 1) := by decide +kernel
theorem d_S_guessOperation_36 : decode b_S_guessOperation 36 = .ok (.iconst 3, 1) := by decide +kernel
theorem d_S_guessOperation_37 : decode b_S_guessOperation 37 = .ok (.ireturn, 1) := by decide +kernel
theorem d_S_guessOperation_38 : decode b_S_guessOperation 38 = .ok (.iload_n 0, 1) := by decide +kernel
theorem d_S_guessOperation_39 : decode b_S_guessOperation 39 = .ok (.bipush 59, 2) := by decide +kernel
theorem d_S_guessOperation_41 : decode b_S_guessOperation 41 = .ok (.if_icmp .ne 11, 3) := by decide +kernel
theorem d_S_guessOperation_44 : decode b_S_guessOperation 44 = .ok (.iload_n 2, 1) := by decide +kernel
theorem d_S_guessOperation_45 : decode b_S_guessOperation 45 = .ok (.ifCond .ne 7, 3) := by decide +kernel
theorem d_S_guessOperation_48 : decode b_S_guessOperation 48 = .ok (.iconst 1, 1) := by decide +kernel
theorem d_S_guessOperation_49 : decode b_S_guessOperation 49 = .ok (.goto 4, 3) := by decide +kernel
theorem d_S_guessOperation_52 : decode b_S_guessOperation 52 = .ok (.iconst 0, 1) := by decide +kernel
theorem d_S_guessOperation_53 : decode b_S_guessOperation 53 = .ok (.ireturn, 1) := by decide +kernel
theorem d_S_guessForLow2_0 : decode b_S_guessForLow2 0 = .ok (.iload_n 1, 1) := by decide +kernel
theorem d_S_guessForLow2_1 : decode b_S_guessForLow2 1 = .ok (.invokestatic 164, 3) := by decide +kernel
theorem d_S_guessForLow2_4 : decode b_S_guessForLow2 4 = .ok (.bipush 7, 2) := by decide +kernel
theorem d_S_guessForLow2_6 : decode b_S_guessForLow2 6 = .ok (.ishl, 1) := by decide +kernel
theorem d_S_guessForLow2_7 : decode b_S_guessForLow2 7 = .ok (.istore_n 2, 1) := by decide +kernel
theorem d_S_guessForLow2_8 : decode b_S_guessForLow2 8 = .ok (.iload_n 1, 1) := by decide +kernel
theorem d_S_guessForLow2_9 : decode b_S_guessForLow2 9 = .ok (.invokestatic 167, 3) := by decide +kernel
theorem d_S_guessForLow2_12 : decode b_S_guessForLow2 12 = .ok (.iconst 2, 1) := by decide +kernel
theorem d_S_guessForLow2_13 : decode b_S_guessForLow2 13 = .ok (.ishl, 1) := by decide +kernel
theorem d_S_guessForLow2_14 : decode b_S_guessForLow2 14 = .ok (.istore_n 3, 1) := by decide +kernel
theorem d_S_guessForLow2_15 : decode b_S_guessForLow2 15 = .ok (.iload_n 0, 1) := by decide +kernel
theorem d_S_guessForLow2_16 : decode b_S_guessForLow2 16 = .ok (.tableswitch 119 1 7 #[44, 57, 44, 70, 93, 106, 93], 44) := by decide +kernel
theorem d_S_guessForLow2_60 : decode b_S_guessForLow2 60 = .ok (.iload_n 2, 1) := by decide +kernel
theorem d_S_guessForLow2_61 : decode b_S_guessForLow2 61 = .ok (.iload_n 1, 1) := by decide +kernel
theorem d_S_guessForLow2_62 : decode b_S_guessForLow2 62 = .ok (.invokestatic 170, 3) := by decide +kernel
theorem d_S_guessForLow2_65 : decode b_S_guessForLow2 65 = .ok (.getstatic 131, 3) := by decide +kernel
theorem d_S_guessForLow2_68 : decode b_S_guessForLow2 68 = .ok (.invokestatic 173, 3) := by decide +kernel
theorem d_S_guessForLow2_71 : decode b_S_guessForLow2 71 = .ok (.ior, 1) := by decide +kernel
theorem d_S_guessForLow2_72 : decode b_S_guessForLow2 72 = .ok (.ireturn, 1) := by decide +kernel
theorem d_S_guessForLow2_73 : decode b_S_guessForLow2 73 = .ok (.iload_n 2, 1) := by decide +kernel
theorem d_S_guessForLow2_74 : decode b_S_guessForLow2 74 = .ok (.iload_n 1, 1) := by decide +kernel
theorem d_S_guessForLow2_75 : decode b_S_guessForLow2 75 = .ok (.invokestatic 170, 3) := by decide +kernel
theorem d_S_guessForLow2_78 : decode b_S_guessForLow2 78 = .ok (.getstatic 134, 3) := by decide +kernel
theorem d_S_guessForLow2_81 : decode b_S_guessForLow2 81 = .ok (.invokestatic 173, 3) := by decide +kernel
theorem d_S_guessForLow2_84 : decode b_S_guessForLow2 84 = .ok (.ior, 1) := by decide +kernel
theorem d_S_guessForLow2_85 : decode b_S_guessForLow2 85 = .ok (.ireturn, 1) := by decide +kernel
theorem d_S_guessForLow2_86 : decode b_S_guessForLow2 86 = .ok (.iload_n 1, 1) := by decide +kernel
theorem d_S_guessForLow2_87 : decode b_S_guessForLow2 87 = .ok (.invokestatic 188, 3) := by decide +kernel
theorem d_S_guessForLow2_90 : decode b_S_guessForLow2 90 = .ok (.bipush 51, 2) := by decide +kernel
theorem d_S_guessForLow2_92 : decode b_S_guessForLow2 92 = .ok (.if_icmp .ne 9, 3) := by decide +kernel
theorem d_S_guessForLow2_95 : decode b_S_guessForLow2 95 = .ok (.iload_n 2, 1) := by decide +kernel
theorem d_S_guessForLow2_96 : decode b_S_guessForLow2 96 = .ok (.iload_n 3, 1) := by decide +kernel
theorem d_S_guessForLow2_97 : decode b_S_guessForLow2 97 = .ok (.ior, 1) := by decide +kernel
theorem d_S_guessForLow2_98 : decode b_S_guessForLow2 98 = .ok (.goto 10, 3) := by decide +kernel
theorem d_S_guessForLow2_101 : decode b_S_guessForLow2 101 = .ok (.iload_n 1, 1) := by decide +kernel
theorem d_S_guessForLow2_102 : decode b_S_guessForLow2 102 = .ok (.invokestatic 161, 3) := by decide +kernel
theorem d_S_guessForLow2_105 : decode b_S_guessForLow2 105 = .ok (.bipush 7, 2) := by decide +kernel
theorem d_S_guessForLow2_107 : decode b_S_guessForLow2 107 = .ok (.ishl, 1) := by decide +kernel
theorem d_S_guessForLow2_108 : decode b_S_guessForLow2 108 = .ok (.ireturn, 1) := by decide +kernel
theorem d_S_guessForLow2_109 : decode b_S_guessForLow2 109 = .ok (.iload_n 3, 1) := by decide +kernel
theorem d_S_guessForLow2_110 : decode b_S_guessForLow2 110 = .ok (.iload_n 1, 1) := by decide +kernel
theorem d_S_guessForLow2_111 : decode b_S_guessForLow2 111 = .ok (.invokestatic 176, 3) := by decide +kernel
theorem d_S_guessForLow2_114 : decode b_S_guessForLow2 114 = .ok (.getstatic 143, 3) := by decide +kernel
theorem d_S_guessForLow2_117 : decode b_S_guessForLow2 117 = .ok (.invokestatic 173, 3) := by decide +kernel
theorem d_S_guessForLow2_120 : decode b_S_guessForLow2 120 = .ok (.ior, 1) := by decide +kernel
theorem d_S_guessForLow2_121 : decode b_S_guessForLow2 121 = .ok (.ireturn, 1) := by decide +kernel
theorem d_S_guessForLow2_122 : decode b_S_guessForLow2 122 = .ok (.iload_n 3, 1) := by decide +kernel
theorem d_S_guessForLow2_123 : decode b_S_guessForLow2 123 = .ok (.iload_n 1, 1) := by decide +kernel
theorem d_S_guessForLow2_124 : decode b_S_guessForLow2 124 = .ok (.invokestatic 176, 3) := by decide +kernel
theorem d_S_guessForLow2_127 : decode b_S_guessForLow2 127 = .ok (.getstatic 146, 3) := by decide +kernel
theorem d_S_guessForLow2_130 : decode b_S_guessForLow2 130 = .ok (.invokestatic 173, 3) := by decide +kernel
theorem d_S_guessForLow2_133 : decode b_S_guessForLow2 133 = .ok (.ior, 1) := by decide +kernel
theorem d_S_guessForLow2_134 : decode b_S_guessForLow2 134 = .ok (.ireturn, 1) := by decide +kernel
theorem d_S_guessForLow2_135 : decode b_S_guessForLow2 135 = .ok (.iload_n 2, 1) := by decide +kernel
theorem d_S_guessForLow2_136 : decode b_S_guessForLow2 136 = .ok (.iload_n 3, 1) := by decide +kernel
theorem d_S_guessForLow2_137 : decode b_S_guessForLow2 137 = .ok (.ior, 1) := by decide +kernel
theorem d_S_guessForLow2_138 : decode b_S_guessForLow2 138 = .ok (.ireturn, 1) := by decide +kernel
theorem d_S_signedImmediate_0 : decode b_S_signedImmediate 0 = .ok (.iload_n 0, 1) := by decide +kernel
theorem d_S_signedImmediate_1 : decode b_S_signedImmediate 1 = .ok (.bipush 6, 2) := by decide +kernel
theorem d_S_signedImmediate_3 : decode b_S_signedImmediate 3 = .ok (.iconst 2, 1) := by decide +kernel
theorem d_S_signedImmediate_4 : decode b_S_signedImmediate 4 = .ok (.invokestatic 49, 3) := by decide +kernel
theorem d_S_signedImmediate_7 : decode b_S_signedImmediate 7 = .ok (.iload_n 0, 1) := by decide +kernel
theorem d_S_signedImmediate_8 : decode b_S_signedImmediate 8 = .ok (.bipush 12, 2) := by decide +kernel
theorem d_S_signedImmediate_10 : decode b_S_signedImmediate 10 = .ok (.bipush 12, 2) := by decide +kernel
theorem d_S_signedImmediate_12 : decode b_S_signedImmediate 12 = .ok (.invokestatic 49, 3) := by decide +kernel
theorem d_S_signedImmediate_15 : decode b_S_signedImmediate 15 = .ok (.iconst 5, 1) := by decide +kernel
theorem d_S_signedImmediate_16 : decode b_S_signedImmediate 16 = .ok (.ishl, 1) := by decide +kernel
theorem d_S_signedImmediate_17 : decode b_S_signedImmediate 17 = .ok (.isub, 1) := by decide +kernel
theorem d_S_signedImmediate_18 : decode b_S_signedImmediate 18 = .ok (.ireturn, 1) := by decide +kernel
theorem d_S_unsignedImmediate_0 : decode b_S_unsignedImmediate 0 = .ok (.iload_n 0, 1) := by decide +kernel
theorem d_S_unsignedImmediate_1 : decode b_S_unsignedImmediate 1 = .ok (.bipush 6, 2) := by decide +kernel
theorem d_S_unsignedImmediate_3 : decode b_S_unsignedImmediate 3 = .ok (.iconst 2, 1) := by decide +kernel
theorem d_S_unsignedImmediate_4 : decode b_S_unsignedImmediate 4 = .ok (.invokestatic 49, 3) := by decide +kernel
theorem d_S_unsignedImmediate_7 : decode b_S_unsignedImmediate 7 = .ok (.iload_n 0, 1) := by decide +kernel
theorem d_S_unsignedImmediate_8 : decode b_S_unsignedImmediate 8 = .ok (.bipush 12, 2) := by decide +kernel
theorem d_S_unsignedImmediate_10 : decode b_S_unsignedImmediate 10 = .ok (.bipush 12, 2) := by decide +kernel
theorem d_S_unsignedImmediate_12 : decode b_S_unsignedImmediate 12 = .ok (.invokestatic 49, 3) := by decide +kernel
theorem d_S_unsignedImmediate_15 : decode b_S_unsignedImmediate 15 = .ok (.iconst 5, 1) := by decide +kernel
theorem d_S_unsignedImmediate_16 : decode b_S_unsignedImmediate 16 = .ok (.ishl, 1) := by decide +kernel
theorem d_S_unsignedImmediate_17 : decode b_S_unsignedImmediate 17 = .ok (.iadd, 1) := by decide +kernel
theorem d_S_unsignedImmediate_18 : decode b_S_unsignedImmediate 18 = .ok (.ireturn, 1) := by decide +kernel
theorem d_S_withSign_0 : decode b_S_withSign 0 = .ok (.bipush 31, 2) := by decide +kernel
theorem d_S_withSign_2 : decode b_S_withSign 2 = .ok (.iload_n 1, 1) := by decide +kernel
theorem d_S_withSign_3 : decode b_S_withSign 3 = .ok (.isub, 1) := by decide +kernel
theorem d_S_withSign_4 : decode b_S_withSign 4 = .ok (.istore_n 2, 1) := by decide +kernel
theorem d_S_withSign_5 : decode b_S_withSign 5 = .ok (.iload_n 0, 1) := by decide +kernel
theorem d_S_withSign_6 : decode b_S_withSign 6 = .ok (.iload_n 2, 1) := by decide +kernel
theorem d_S_withSign_7 : decode b_S_withSign 7 = .ok (.ishl, 1) := by decide +kernel
theorem d_S_withSign_8 : decode b_S_withSign 8 = .ok (.iload_n 2, 1) := by decide +kernel
theorem d_S_withSign_9 : decode b_S_withSign 9 = .ok (.ishr, 1) := by decide +kernel
theorem d_S_withSign_10 : decode b_S_withSign 10 = .ok (.ireturn, 1) := by decide +kernel
theorem d_S_gather_0 : decode b_S_gather 0 = .ok (.iconst 0, 1) := by decide +kernel
theorem d_S_gather_1 : decode b_S_gather 1 = .ok (.istore_n 2, 1) := by decide +kernel
theorem d_S_gather_2 : decode b_S_gather 2 = .ok (.iconst 0, 1) := by decide +kernel
theorem d_S_gather_3 : decode b_S_gather 3 = .ok (.istore_n 3, 1) := by decide +kernel
theorem d_S_gather_4 : decode b_S_gather 4 = .ok (.iload_n 3, 1) := by decide +kernel
theorem d_S_gather_5 : decode b_S_gather 5 = .ok (.iconst 2, 1) := by decide +kernel
theorem d_S_gather_6 : decode b_S_gather 6 = .ok (.iadd, 1) := by decide +kernel
theorem d_S_gather_7 : decode b_S_gather 7 = .ok (.aload_n 1, 1) := by decide +kernel
theorem d_S_gather_8 : decode b_S_gather 8 = .ok (.arraylength, 1) := by decide +kernel
theorem d_S_gather_9 : decode b_S_gather 9 = .ok (.if_icmp .ge 30, 3) := by decide +kernel
theorem d_S_gather_12 : decode b_S_gather 12 = .ok (.iload_n 2, 1) := by decide +kernel
theorem d_S_gather_13 : decode b_S_gather 13 = .ok (.iload_n 0, 1) := by decide +kernel
theorem d_S_gather_14 : decode b_S_gather 14 = .ok (.aload_n 1, 1) := by decide +kernel
theorem d_S_gather_15 : decode b_S_gather 15 = .ok (.iload_n 3, 1) := by decide +kernel
theorem d_S_gather_16 : decode b_S_gather 16 = .ok (.iconst 1, 1) := by decide +kernel
theorem d_S_gather_17 : decode b_S_gather 17 = .ok (.iadd, 1) := by decide +kernel
theorem d_S_gather_18 : decode b_S_gather 18 = .ok (.iaload, 1) := by decide +kernel
theorem d_S_gather_19 : decode b_S_gather 19 = .ok (.aload_n 1, 1) := by decide +kernel
theorem d_S_gather_20 : decode b_S_gather 20 = .ok (.iload_n 3, 1) := by decide +kernel
theorem d_S_gather_21 : decode b_S_gather 21 = .ok (.iconst 2, 1) := by decide +kernel
theorem d_S_gather_22 : decode b_S_gather 22 = .ok (.iadd, 1) := by decide +kernel
theorem d_S_gather_23 : decode b_S_gather 23 = .ok (.iaload, 1) := by decide +kernel
theorem d_S_gather_24 : decode b_S_gather 24 = .ok (.invokestatic 49, 3) := by decide +kernel
theorem d_S_gather_27 : decode b_S_gather 27 = .ok (.aload_n 1, 1) := by decide +kernel
theorem d_S_gather_28 : decode b_S_gather 28 = .ok (.iload_n 3, 1) := by decide +kernel
theorem d_S_gather_29 : decode b_S_gather 29 = .ok (.iaload, 1) := by decide +kernel
theorem d_S_gather_30 : decode b_S_gather 30 = .ok (.ishl, 1) := by decide +kernel
theorem d_S_gather_31 : decode b_S_gather 31 = .ok (.ior, 1) := by decide +kernel
theorem d_S_gather_32 : decode b_S_gather 32 = .ok (.istore_n 2, 1) := by decide +kernel
theorem d_S_gather_33 : decode b_S_gather 33 = .ok (.iinc 3 3, 3) := by decide +kernel
theorem d_S_gather_36 : decode b_S_gather 36 = .ok (.goto (-32), 3) := by decide +kernel
theorem d_S_gather_39 : decode b_S_gather 39 = .ok (.iload_n 2, 1) := by decide +kernel
theorem d_S_gather_40 : decode b_S_gather 40 = .ok (.ireturn, 1) := by decide +kernel
theorem d_S_scatter_0 : decode b_S_scatter 0 = .ok (.iconst 0, 1) := by decide +kernel
theorem d_S_scatter_1 : decode b_S_scatter 1 = .ok (.istore_n 2, 1) := by decide +kernel
theorem d_S_scatter_2 : decode b_S_scatter 2 = .ok (.iconst 0, 1) := by decide +kernel
theorem d_S_scatter_3 : decode b_S_scatter 3 = .ok (.istore_n 3, 1) := by decide +kernel
theorem d_S_scatter_4 : decode b_S_scatter 4 = .ok (.iload_n 3, 1) := by decide +kernel
theorem d_S_scatter_5 : decode b_S_scatter 5 = .ok (.iconst 2, 1) := by decide +kernel
theorem d_S_scatter_6 : decode b_S_scatter 6 = .ok (.iadd, 1) := by decide +kernel
theorem d_S_scatter_7 : decode b_S_scatter 7 = .ok (.aload_n 1, 1) := by decide +kernel
theorem d_S_scatter_8 : decode b_S_scatter 8 = .ok (.arraylength, 1) := by decide +kernel
theorem d_S_scatter_9 : decode b_S_scatter 9 = .ok (.if_icmp .ge 44, 3) := by decide +kernel
theorem d_S_scatter_12 : decode b_S_scatter 12 = .ok (.aload_n 1, 1) := by decide +kernel
theorem d_S_scatter_13 : decode b_S_scatter 13 = .ok (.iload_n 3, 1) := by decide +kernel
theorem d_S_scatter_14 : decode b_S_scatter 14 = .ok (.iaload, 1) := by decide +kernel
theorem d_S_scatter_15 : decode b_S_scatter 15 = .ok (.aload_n 1, 1) := by decide +kernel
theorem d_S_scatter_16 : decode b_S_scatter 16 = .ok (.iload_n 3, 1) := by decide +kernel
theorem d_S_scatter_17 : decode b_S_scatter 17 = .ok (.iconst 1, 1) := by decide +kernel
theorem d_S_scatter_18 : decode b_S_scatter 18 = .ok (.iadd, 1) := by decide +kernel
theorem d_S_scatter_19 : decode b_S_scatter 19 = .ok (.iaload, 1) := by decide +kernel
theorem d_S_scatter_20 : decode b_S_scatter 20 = .ok (.iadd, 1) := by decide +kernel
theorem d_S_scatter_21 : decode b_S_scatter 21 = .ok (.aload_n 1, 1) := by decide +kernel
theorem d_S_scatter_22 : decode b_S_scatter 22 = .ok (.iload_n 3, 1) := by decide +kernel
theorem d_S_scatter_23 : decode b_S_scatter 23 = .ok (.iconst 2, 1) := by decide +kernel
theorem d_S_scatter_24 : decode b_S_scatter 24 = .ok (.iadd, 1) := by decide +kernel
theorem d_S_scatter_25 : decode b_S_scatter 25 = .ok (.iaload, 1) := by decide +kernel
theorem d_S_scatter_26 : decode b_S_scatter 26 = .ok (.isub, 1) := by decide +kernel
theorem d_S_scatter_27 : decode b_S_scatter 27 = .ok (.istore 4, 2) := by decide +kernel
theorem d_S_scatter_29 : decode b_S_scatter 29 = .ok (.iload_n 2, 1) := by decide +kernel
theorem d_S_scatter_30 : decode b_S_scatter 30 = .ok (.iload_n 0, 1) := by decide +kernel
theorem d_S_scatter_31 : decode b_S_scatter 31 = .ok (.iload 4, 2) := by decide +kernel
theorem d_S_scatter_33 : decode b_S_scatter 33 = .ok (.aload_n 1, 1) := by decide +kernel
theorem d_S_scatter_34 : decode b_S_scatter 34 = .ok (.iload_n 3, 1) := by decide +kernel
theorem d_S_scatter_35 : decode b_S_scatter 35 = .ok (.iaload, 1) := by decide +kernel
theorem d_S_scatter_36 : decode b_S_scatter 36 = .ok (.invokestatic 49, 3) := by decide +kernel
theorem d_S_scatter_39 : decode b_S_scatter 39 = .ok (.aload_n 1, 1) := by decide +kernel
theorem d_S_scatter_40 : decode b_S_scatter 40 = .ok (.iload_n 3, 1) := by decide +kernel
theorem d_S_scatter_41 : decode b_S_scatter 41 = .ok (.iconst 2, 1) := by decide +kernel
theorem d_S_scatter_42 : decode b_S_scatter 42 = .ok (.iadd, 1) := by decide +kernel
