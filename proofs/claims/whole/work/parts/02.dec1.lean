theorem d_S_wordForLow1_191 : decode b_S_wordForLow1 191 = .ok (.invokestatic 67, 3) := by decide +kernel
theorem d_S_wordForLow1_194 : decode b_S_wordForLow1 194 = .ok (.bipush 8, 2) := by decide +kernel
theorem d_S_wordForLow1_196 : decode b_S_wordForLow1 196 = .ok (.invokestatic 93, 3) := by decide +kernel
theorem d_S_wordForLow1_199 : decode b_S_wordForLow1 199 = .ok (.invokestatic 114, 3) := by decide +kernel
theorem d_S_wordForLow1_202 : decode b_S_wordForLow1 202 = .ok (.ireturn, 1) := by decide +kernel
theorem d_S_wordForMoveStack_0 : decode b_S_wordForMoveStack 0 = .ok (.iload_n 0, 1) := by decide +kernel
theorem d_S_wordForMoveStack_1 : decode b_S_wordForMoveStack 1 = .ok (.ifCond .ne 7, 3) := by decide +kernel
theorem d_S_wordForMoveStack_4 : decode b_S_wordForMoveStack 4 = .ok (.iconst 0, 1) := by decide +kernel
theorem d_S_wordForMoveStack_5 : decode b_S_wordForMoveStack 5 = .ok (.goto 12, 3) := by decide +kernel
theorem d_S_wordForMoveStack_8 : decode b_S_wordForMoveStack 8 = .ok (.bipush 19, 2) := by decide +kernel
theorem d_S_wordForMoveStack_10 : decode b_S_wordForMoveStack 10 = .ok (.iconst 2, 1) := by decide +kernel
theorem d_S_wordForMoveStack_11 : decode b_S_wordForMoveStack 11 = .ok (.iconst 0, 1) := by decide +kernel
theorem d_S_wordForMoveStack_12 : decode b_S_wordForMoveStack 12 = .ok (.iconst 2, 1) := by decide +kernel
theorem d_S_wordForMoveStack_13 : decode b_S_wordForMoveStack 13 = .ok (.iload_n 0, 1) := by decide +kernel
theorem d_S_wordForMoveStack_14 : decode b_S_wordForMoveStack 14 = .ok (.invokestatic 77, 3) := by decide +kernel
theorem d_S_wordForMoveStack_17 : decode b_S_wordForMoveStack 17 = .ok (.ireturn, 1) := by decide +kernel
theorem d_S_wordForUpper_0 : decode b_S_wordForUpper 0 = .ok (.iload_n 1, 1) := by decide +kernel
theorem d_S_wordForUpper_1 : decode b_S_wordForUpper 1 = .ok (.ifCond .ne 7, 3) := by decide +kernel
theorem d_S_wordForUpper_4 : decode b_S_wordForUpper 4 = .ok (.iconst 0, 1) := by decide +kernel
theorem d_S_wordForUpper_5 : decode b_S_wordForUpper 5 = .ok (.goto 14, 3) := by decide +kernel
theorem d_S_wordForUpper_8 : decode b_S_wordForUpper 8 = .ok (.bipush 55, 2) := by decide +kernel
theorem d_S_wordForUpper_10 : decode b_S_wordForUpper 10 = .ok (.iload_n 0, 1) := by decide +kernel
theorem d_S_wordForUpper_11 : decode b_S_wordForUpper 11 = .ok (.iload_n 1, 1) := by decide +kernel
theorem d_S_wordForUpper_12 : decode b_S_wordForUpper 12 = .ok (.sipush 4096, 3) := by decide +kernel
theorem d_S_wordForUpper_15 : decode b_S_wordForUpper 15 = .ok (.imul, 1) := by decide +kernel
theorem d_S_wordForUpper_16 : decode b_S_wordForUpper 16 = .ok (.invokestatic 118, 3) := by decide +kernel
theorem d_S_wordForUpper_19 : decode b_S_wordForUpper 19 = .ok (.ireturn, 1) := by decide +kernel
theorem d_S_wordForArithmetic_0 : decode b_S_wordForArithmetic 0 = .ok (.bipush 8, 2) := by decide +kernel
theorem d_S_wordForArithmetic_2 : decode b_S_wordForArithmetic 2 = .ok (.iload_n 0, 1) := by decide +kernel
theorem d_S_wordForArithmetic_3 : decode b_S_wordForArithmetic 3 = .ok (.bipush 9, 2) := by decide +kernel
theorem d_S_wordForArithmetic_5 : decode b_S_wordForArithmetic 5 = .ok (.bipush 7, 2) := by decide +kernel
theorem d_S_wordForArithmetic_7 : decode b_S_wordForArithmetic 7 = .ok (.invokestatic 49, 3) := by decide +kernel
theorem d_S_wordForArithmetic_10 : decode b_S_wordForArithmetic 10 = .ok (.iadd, 1) := by decide +kernel
theorem d_S_wordForArithmetic_11 : decode b_S_wordForArithmetic 11 = .ok (.istore_n 1, 1) := by decide +kernel
theorem d_S_wordForArithmetic_12 : decode b_S_wordForArithmetic 12 = .ok (.iload_n 0, 1) := by decide +kernel
theorem d_S_wordForArithmetic_13 : decode b_S_wordForArithmetic 13 = .ok (.bipush 11, 2) := by decide +kernel
theorem d_S_wordForArithmetic_15 : decode b_S_wordForArithmetic 15 = .ok (.bipush 10, 2) := by decide +kernel
theorem d_S_wordForArithmetic_17 : decode b_S_wordForArithmetic 17 = .ok (.invokestatic 49, 3) := by decide +kernel
theorem d_S_wordForArithmetic_20 : decode b_S_wordForArithmetic 20 = .ok (.tableswitch 72 0 2 #[28, 41, 58], 28) := by decide +kernel
theorem d_S_wordForArithmetic_48 : decode b_S_wordForArithmetic 48 = .ok (.bipush 19, 2) := by decide +kernel
theorem d_S_wordForArithmetic_50 : decode b_S_wordForArithmetic 50 = .ok (.iload_n 1, 1) := by decide +kernel
theorem d_S_wordForArithmetic_51 : decode b_S_wordForArithmetic 51 = .ok (.iconst 5, 1) := by decide +kernel
theorem d_S_wordForArithmetic_52 : decode b_S_wordForArithmetic 52 = .ok (.iload_n 1, 1) := by decide +kernel
theorem d_S_wordForArithmetic_53 : decode b_S_wordForArithmetic 53 = .ok (.iload_n 0, 1) := by decide +kernel
theorem d_S_wordForArithmetic_54 : decode b_S_wordForArithmetic 54 = .ok (.invokestatic 121, 3) := by decide +kernel
theorem d_S_wordForArithmetic_57 : decode b_S_wordForArithmetic 57 = .ok (.invokestatic 77, 3) := by decide +kernel
theorem d_S_wordForArithmetic_60 : decode b_S_wordForArithmetic 60 = .ok (.ireturn, 1) := by decide +kernel
theorem d_S_wordForArithmetic_61 : decode b_S_wordForArithmetic 61 = .ok (.bipush 19, 2) := by decide +kernel
theorem d_S_wordForArithmetic_63 : decode b_S_wordForArithmetic 63 = .ok (.iload_n 1, 1) := by decide +kernel
theorem d_S_wordForArithmetic_64 : decode b_S_wordForArithmetic 64 = .ok (.iconst 5, 1) := by decide +kernel
theorem d_S_wordForArithmetic_65 : decode b_S_wordForArithmetic 65 = .ok (.iload_n 1, 1) := by decide +kernel
theorem d_S_wordForArithmetic_66 : decode b_S_wordForArithmetic 66 = .ok (.iload_n 0, 1) := by decide +kernel
theorem d_S_wordForArithmetic_67 : decode b_S_wordForArithmetic 67 = .ok (.invokestatic 121, 3) := by decide +kernel
theorem d_S_wordForArithmetic_70 : decode b_S_wordForArithmetic 70 = .ok (.sipush 1024, 3) := by decide +kernel
theorem d_S_wordForArithmetic_73 : decode b_S_wordForArithmetic 73 = .ok (.iadd, 1) := by decide +kernel
theorem d_S_wordForArithmetic_74 : decode b_S_wordForArithmetic 74 = .ok (.invokestatic 77, 3) := by decide +kernel
theorem d_S_wordForArithmetic_77 : decode b_S_wordForArithmetic 77 = .ok (.ireturn, 1) := by decide +kernel
theorem d_S_wordForArithmetic_78 : decode b_S_wordForArithmetic 78 = .ok (.bipush 19, 2) := by decide +kernel
theorem d_S_wordForArithmetic_80 : decode b_S_wordForArithmetic 80 = .ok (.iload_n 1, 1) := by decide +kernel
theorem d_S_wordForArithmetic_81 : decode b_S_wordForArithmetic 81 = .ok (.bipush 7, 2) := by decide +kernel
theorem d_S_wordForArithmetic_83 : decode b_S_wordForArithmetic 83 = .ok (.iload_n 1, 1) := by decide +kernel
theorem d_S_wordForArithmetic_84 : decode b_S_wordForArithmetic 84 = .ok (.iload_n 0, 1) := by decide +kernel
theorem d_S_wordForArithmetic_85 : decode b_S_wordForArithmetic 85 = .ok (.invokestatic 87, 3) := by decide +kernel
theorem d_S_wordForArithmetic_88 : decode b_S_wordForArithmetic 88 = .ok (.invokestatic 77, 3) := by decide +kernel
theorem d_S_wordForArithmetic_91 : decode b_S_wordForArithmetic 91 = .ok (.ireturn, 1) := by decide +kernel
theorem d_S_wordForArithmetic_92 : decode b_S_wordForArithmetic 92 = .ok (.iload_n 0, 1) := by decide +kernel
theorem d_S_wordForArithmetic_93 : decode b_S_wordForArithmetic 93 = .ok (.iload_n 1, 1) := by decide +kernel
theorem d_S_wordForArithmetic_94 : decode b_S_wordForArithmetic 94 = .ok (.invokestatic 124, 3) := by decide +kernel
theorem d_S_wordForArithmetic_97 : decode b_S_wordForArithmetic 97 = .ok (.ireturn, 1) := by decide +kernel
theorem d_S_wordForTwoRegisters_0 : decode b_S_wordForTwoRegisters 0 = .ok (.bipush 8, 2) := by decide +kernel
theorem d_S_wordForTwoRegisters_2 : decode b_S_wordForTwoRegisters 2 = .ok (.iload_n 0, 1) := by decide +kernel
theorem d_S_wordForTwoRegisters_3 : decode b_S_wordForTwoRegisters 3 = .ok (.iconst 4, 1) := by decide +kernel
theorem d_S_wordForTwoRegisters_4 : decode b_S_wordForTwoRegisters 4 = .ok (.iconst 2, 1) := by decide +kernel
theorem d_S_wordForTwoRegisters_5 : decode b_S_wordForTwoRegisters 5 = .ok (.invokestatic 49, 3) := by decide +kernel
theorem d_S_wordForTwoRegisters_8 : decode b_S_wordForTwoRegisters 8 = .ok (.iadd, 1) := by decide +kernel
theorem d_S_wordForTwoRegisters_9 : decode b_S_wordForTwoRegisters 9 = .ok (.istore_n 2, 1) := by decide +kernel
theorem d_S_wordForTwoRegisters_10 : decode b_S_wordForTwoRegisters 10 = .ok (.iload_n 0, 1) := by decide +kernel
theorem d_S_wordForTwoRegisters_11 : decode b_S_wordForTwoRegisters 11 = .ok (.bipush 12, 2) := by decide +kernel
theorem d_S_wordForTwoRegisters_13 : decode b_S_wordForTwoRegisters 13 = .ok (.bipush 12, 2) := by decide +kernel
theorem d_S_wordForTwoRegisters_15 : decode b_S_wordForTwoRegisters 15 = .ok (.invokestatic 49, 3) := by decide +kernel
theorem d_S_wordForTwoRegisters_18 : decode b_S_wordForTwoRegisters 18 = .ok (.iconst 2, 1) := by decide +kernel
theorem d_S_wordForTwoRegisters_19 : decode b_S_wordForTwoRegisters 19 = .ok (.ishl, 1) := by decide +kernel
theorem d_S_wordForTwoRegisters_20 : decode b_S_wordForTwoRegisters 20 = .ok (.iload_n 0, 1) := by decide +kernel
theorem d_S_wordForTwoRegisters_21 : decode b_S_wordForTwoRegisters 21 = .ok (.bipush 6, 2) := by decide +kernel
theorem d_S_wordForTwoRegisters_23 : decode b_S_wordForTwoRegisters 23 = .ok (.iconst 5, 1) := by decide +kernel
theorem d_S_wordForTwoRegisters_24 : decode b_S_wordForTwoRegisters 24 = .ok (.invokestatic 49, 3) := by decide +kernel
theorem d_S_wordForTwoRegisters_27 : decode b_S_wordForTwoRegisters 27 = .ok (.ior, 1) := by decide +kernel
theorem d_S_wordForTwoRegisters_28 : decode b_S_wordForTwoRegisters 28 = .ok (.tableswitch 110 0 5 #[40, 52, 63, 75, 87, 99], 40) := by decide +kernel
theorem d_S_wordForTwoRegisters_68 : decode b_S_wordForTwoRegisters 68 = .ok (.bipush 51, 2) := by decide +kernel
theorem d_S_wordForTwoRegisters_70 : decode b_S_wordForTwoRegisters 70 = .ok (.iload_n 1, 1) := by decide +kernel
theorem d_S_wordForTwoRegisters_71 : decode b_S_wordForTwoRegisters 71 = .ok (.iconst 0, 1) := by decide +kernel
theorem d_S_wordForTwoRegisters_72 : decode b_S_wordForTwoRegisters 72 = .ok (.iload_n 1, 1) := by decide +kernel
theorem d_S_wordForTwoRegisters_73 : decode b_S_wordForTwoRegisters 73 = .ok (.iload_n 2, 1) := by decide +kernel
theorem d_S_wordForTwoRegisters_74 : decode b_S_wordForTwoRegisters 74 = .ok (.bipush 32, 2) := by decide +kernel
theorem d_S_wordForTwoRegisters_76 : decode b_S_wordForTwoRegisters 76 = .ok (.invokestatic 127, 3) := by decide +kernel
theorem d_S_wordForTwoRegisters_79 : decode b_S_wordForTwoRegisters 79 = .ok (.ireturn, 1) := by decide +kernel
theorem d_S_wordForTwoRegisters_80 : decode b_S_wordForTwoRegisters 80 = .ok (.bipush 51, 2) := by decide +kernel
theorem d_S_wordForTwoRegisters_82 : decode b_S_wordForTwoRegisters 82 = .ok (.iload_n 1, 1) := by decide +kernel
theorem d_S_wordForTwoRegisters_83 : decode b_S_wordForTwoRegisters 83 = .ok (.iconst 4, 1) := by decide +kernel
theorem d_S_wordForTwoRegisters_84 : decode b_S_wordForTwoRegisters 84 = .ok (.iload_n 1, 1) := by decide +kernel
theorem d_S_wordForTwoRegisters_85 : decode b_S_wordForTwoRegisters 85 = .ok (.iload_n 2, 1) := by decide +kernel
theorem d_S_wordForTwoRegisters_86 : decode b_S_wordForTwoRegisters 86 = .ok (.iconst 0, 1) := by decide +kernel
theorem d_S_wordForTwoRegisters_87 : decode b_S_wordForTwoRegisters 87 = .ok (.invokestatic 127, 3) := by decide +kernel
theorem d_S_wordForTwoRegisters_90 : decode b_S_wordForTwoRegisters 90 = .ok (.ireturn, 1) := by decide +kernel
theorem d_S_wordForTwoRegisters_91 : decode b_S_wordForTwoRegisters 91 = .ok (.bipush 51, 2) := by decide +kernel
theorem d_S_wordForTwoRegisters_93 : decode b_S_wordForTwoRegisters 93 = .ok (.iload_n 1, 1) := by decide +kernel
theorem d_S_wordForTwoRegisters_94 : decode b_S_wordForTwoRegisters 94 = .ok (.bipush 6, 2) := by decide +kernel
theorem d_S_wordForTwoRegisters_96 : decode b_S_wordForTwoRegisters 96 = .ok (.iload_n 1, 1) := by decide +kernel
theorem d_S_wordForTwoRegisters_97 : decode b_S_wordForTwoRegisters 97 = .ok (.iload_n 2, 1) := by decide +kernel
theorem d_S_wordForTwoRegisters_98 : decode b_S_wordForTwoRegisters 98 = .ok (.iconst 0, 1) := by decide +kernel
theorem d_S_wordForTwoRegisters_99 : decode b_S_wordForTwoRegisters 99 = .ok (.invokestatic 127, 3) := by decide +kernel
theorem d_S_wordForTwoRegisters_102 : decode b_S_wordForTwoRegisters 102 = .ok (.ireturn, 1) := by decide +kernel
theorem d_S_wordForTwoRegisters_103 : decode b_S_wordForTwoRegisters 103 = .ok (.bipush 51, 2) := by decide +kernel
theorem d_S_wordForTwoRegisters_105 : decode b_S_wordForTwoRegisters 105 = .ok (.iload_n 1, 1) := by decide +kernel
theorem d_S_wordForTwoRegisters_106 : decode b_S_wordForTwoRegisters 106 = .ok (.bipush 7, 2) := by decide +kernel
theorem d_S_wordForTwoRegisters_108 : decode b_S_wordForTwoRegisters 108 = .ok (.iload_n 1, 1) := by decide +kernel
theorem d_S_wordForTwoRegisters_109 : decode b_S_wordForTwoRegisters 109 = .ok (.iload_n 2, 1) := by decide +kernel
theorem d_S_wordForTwoRegisters_110 : decode b_S_wordForTwoRegisters 110 = .ok (.iconst 0, 1) := by decide +kernel
theorem d_S_wordForTwoRegisters_111 : decode b_S_wordForTwoRegisters 111 = .ok (.invokestatic 127, 3) := by decide +kernel
theorem d_S_wordForTwoRegisters_114 : decode b_S_wordForTwoRegisters 114 = .ok (.ireturn, 1) := by decide +kernel
theorem d_S_wordForTwoRegisters_115 : decode b_S_wordForTwoRegisters 115 = .ok (.bipush 59, 2) := by decide +kernel
theorem d_S_wordForTwoRegisters_117 : decode b_S_wordForTwoRegisters 117 = .ok (.iload_n 1, 1) := by decide +kernel
theorem d_S_wordForTwoRegisters_118 : decode b_S_wordForTwoRegisters 118 = .ok (.iconst 0, 1) := by decide +kernel
theorem d_S_wordForTwoRegisters_119 : decode b_S_wordForTwoRegisters 119 = .ok (.iload_n 1, 1) := by decide +kernel
theorem d_S_wordForTwoRegisters_120 : decode b_S_wordForTwoRegisters 120 = .ok (.iload_n 2, 1) := by decide +kernel
theorem d_S_wordForTwoRegisters_121 : decode b_S_wordForTwoRegisters 121 = .ok (.bipush 32, 2) := by decide +kernel
theorem d_S_wordForTwoRegisters_123 : decode b_S_wordForTwoRegisters 123 = .ok (.invokestatic 127, 3) := by decide +kernel
theorem d_S_wordForTwoRegisters_126 : decode b_S_wordForTwoRegisters 126 = .ok (.ireturn, 1) := by decide +kernel
theorem d_S_wordForTwoRegisters_127 : decode b_S_wordForTwoRegisters 127 = .ok (.bipush 59, 2) := by decide +kernel
theorem d_S_wordForTwoRegisters_129 : decode b_S_wordForTwoRegisters 129 = .ok (.iload_n 1, 1) := by decide +kernel
theorem d_S_wordForTwoRegisters_130 : decode b_S_wordForTwoRegisters 130 = .ok (.iconst 0, 1) := by decide +kernel
theorem d_S_wordForTwoRegisters_131 : decode b_S_wordForTwoRegisters 131 = .ok (.iload_n 1, 1) := by decide +kernel
theorem d_S_wordForTwoRegisters_132 : decode b_S_wordForTwoRegisters 132 = .ok (.iload_n 2, 1) := by decide +kernel
theorem d_S_wordForTwoRegisters_133 : decode b_S_wordForTwoRegisters 133 = .ok (.iconst 0, 1) := by decide +kernel
theorem d_S_wordForTwoRegisters_134 : decode b_S_wordForTwoRegisters 134 = .ok (.invokestatic 127, 3) := by decide +kernel
theorem d_S_wordForTwoRegisters_137 : decode b_S_wordForTwoRegisters 137 = .ok (.ireturn, 1) := by decide +kernel
theorem d_S_wordForTwoRegisters_138 : decode b_S_wordForTwoRegisters 138 = .ok (.iconst 0, 1) := by decide +kernel
theorem d_S_wordForTwoRegisters_139 : decode b_S_wordForTwoRegisters 139 = .ok (.ireturn, 1) := by decide +kernel
theorem d_S_wordForLow2_0 : decode b_S_wordForLow2 0 = .ok (.iload_n 0, 1) := by decide +kernel
theorem d_S_wordForLow2_1 : decode b_S_wordForLow2 1 = .ok (.bipush 11, 2) := by decide +kernel
theorem d_S_wordForLow2_3 : decode b_S_wordForLow2 3 = .ok (.bipush 7, 2) := by decide +kernel
theorem d_S_wordForLow2_5 : decode b_S_wordForLow2 5 = .ok (.invokestatic 49, 3) := by decide +kernel
theorem d_S_wordForLow2_8 : decode b_S_wordForLow2 8 = .ok (.istore_n 1, 1) := by decide +kernel
theorem d_S_wordForLow2_9 : decode b_S_wordForLow2 9 = .ok (.iload_n 0, 1) := by decide +kernel
theorem d_S_wordForLow2_10 : decode b_S_wordForLow2 10 = .ok (.bipush 6, 2) := by decide +kernel
theorem d_S_wordForLow2_12 : decode b_S_wordForLow2 12 = .ok (.iconst 2, 1) := by decide +kernel
theorem d_S_wordForLow2_13 : decode b_S_wordForLow2 13 = .ok (.invokestatic 49, 3) := by decide +kernel
theorem d_S_wordForLow2_16 : decode b_S_wordForLow2 16 = .ok (.istore_n 2, 1) := by decide +kernel
theorem d_S_wordForLow2_17 : decode b_S_wordForLow2 17 = .ok (.iload_n 0, 1) := by decide +kernel
theorem d_S_wordForLow2_18 : decode b_S_wordForLow2 18 = .ok (.bipush 15, 2) := by decide +kernel
theorem d_S_wordForLow2_20 : decode b_S_wordForLow2 20 = .ok (.bipush 13, 2) := by decide +kernel
theorem d_S_wordForLow2_22 : decode b_S_wordForLow2 22 = .ok (.invokestatic 49, 3) := by decide +kernel
theorem d_S_wordForLow2_25 : decode b_S_wordForLow2 25 = .ok (.tableswitch 175 0 6 #[43, 56, 72, 95, 118, 143, 159], 43) := by decide +kernel
theorem d_S_wordForLow2_68 : decode b_S_wordForLow2 68 = .ok (.bipush 19, 2) := by decide +kernel
theorem d_S_wordForLow2_70 : decode b_S_wordForLow2 70 = .ok (.iload_n 1, 1) := by decide +kernel
theorem d_S_wordForLow2_71 : decode b_S_wordForLow2 71 = .ok (.iconst 1, 1) := by decide +kernel
theorem d_S_wordForLow2_72 : decode b_S_wordForLow2 72 = .ok (.iload_n 1, 1) := by decide +kernel
theorem d_S_wordForLow2_73 : decode b_S_wordForLow2 73 = .ok (.iload_n 0, 1) := by decide +kernel
theorem d_S_wordForLow2_74 : decode b_S_wordForLow2 74 = .ok (.invokestatic 121, 3) := by decide +kernel
theorem d_S_wordForLow2_77 : decode b_S_wordForLow2 77 = .ok (.invokestatic 77, 3) := by decide +kernel
theorem d_S_wordForLow2_80 : decode b_S_wordForLow2 80 = .ok (.ireturn, 1) := by decide +kernel
theorem d_S_wordForLow2_81 : decode b_S_wordForLow2 81 = .ok (.bipush 7, 2) := by decide +kernel
theorem d_S_wordForLow2_83 : decode b_S_wordForLow2 83 = .ok (.iload_n 1, 1) := by decide +kernel
theorem d_S_wordForLow2_84 : decode b_S_wordForLow2 84 = .ok (.iconst 3, 1) := by decide +kernel
theorem d_S_wordForLow2_85 : decode b_S_wordForLow2 85 = .ok (.iconst 2, 1) := by decide +kernel
theorem d_S_wordForLow2_86 : decode b_S_wordForLow2 86 = .ok (.iload_n 0, 1) := by decide +kernel
theorem d_S_wordForLow2_87 : decode b_S_wordForLow2 87 = .ok (.getstatic 131, 3) := by decide +kernel
theorem d_S_wordForLow2_90 : decode b_S_wordForLow2 90 = .ok (.invokestatic 67, 3) := by decide +kernel
theorem d_S_wordForLow2_93 : decode b_S_wordForLow2 93 = .ok (.invokestatic 77, 3) := by decide +kernel
theorem d_S_wordForLow2_96 : decode b_S_wordForLow2 96 = .ok (.ireturn, 1) := by decide +kernel
theorem d_S_wordForLow2_97 : decode b_S_wordForLow2 97 = .ok (.iload_n 1, 1) := by decide +kernel
theorem d_S_wordForLow2_98 : decode b_S_wordForLow2 98 = .ok (.ifCond .ne 7, 3) := by decide +kernel
theorem d_S_wordForLow2_101 : decode b_S_wordForLow2 101 = .ok (.iconst 0, 1) := by decide +kernel
theorem d_S_wordForLow2_102 : decode b_S_wordForLow2 102 = .ok (.goto 17, 3) := by decide +kernel
theorem d_S_wordForLow2_105 : decode b_S_wordForLow2 105 = .ok (.iconst 3, 1) := by decide +kernel
theorem d_S_wordForLow2_106 : decode b_S_wordForLow2 106 = .ok (.iload_n 1, 1) := by decide +kernel
theorem d_S_wordForLow2_107 : decode b_S_wordForLow2 107 = .ok (.iconst 2, 1) := by decide +kernel
theorem d_S_wordForLow2_108 : decode b_S_wordForLow2 108 = .ok (.iconst 2, 1) := by decide +kernel
theorem d_S_wordForLow2_109 : decode b_S_wordForLow2 109 = .ok (.iload_n 0, 1) := by decide +kernel
theorem d_S_wordForLow2_110 : decode b_S_wordForLow2 110 = .ok (.getstatic 134, 3) := by decide +kernel
theorem d_S_wordForLow2_113 : decode b_S_wordForLow2 113 = .ok (.invokestatic 67, 3) := by decide +kernel
theorem d_S_wordForLow2_116 : decode b_S_wordForLow2 116 = .ok (.invokestatic 77, 3) := by decide +kernel
theorem d_S_wordForLow2_119 : decode b_S_wordForLow2 119 = .ok (.ireturn, 1) := by decide +kernel
theorem d_S_wordForLow2_120 : decode b_S_wordForLow2 120 = .ok (.iload_n 1, 1) := by decide +kernel
theorem d_S_wordForLow2_121 : decode b_S_wordForLow2 121 = .ok (.ifCond .ne 7, 3) := by decide +kernel
theorem d_S_wordForLow2_124 : decode b_S_wordForLow2 124 = .ok (.iconst 0, 1) := by decide +kernel
theorem d_S_wordForLow2_125 : decode b_S_wordForLow2 125 = .ok (.goto 17, 3) := by decide +kernel
theorem d_S_wordForLow2_128 : decode b_S_wordForLow2 128 = .ok (.iconst 3, 1) := by decide +kernel
theorem d_S_wordForLow2_129 : decode b_S_wordForLow2 129 = .ok (.iload_n 1, 1) := by decide +kernel
theorem d_S_wordForLow2_130 : decode b_S_wordForLow2 130 = .ok (.iconst 3, 1) := by decide +kernel
theorem d_S_wordForLow2_131 : decode b_S_wordForLow2 131 = .ok (.iconst 2, 1) := by decide +kernel
theorem d_S_wordForLow2_132 : decode b_S_wordForLow2 132 = .ok (.iload_n 0, 1) := by decide +kernel
theorem d_S_wordForLow2_133 : decode b_S_wordForLow2 133 = .ok (.getstatic 131, 3) := by decide +kernel
theorem d_S_wordForLow2_136 : decode b_S_wordForLow2 136 = .ok (.invokestatic 67, 3) := by decide +kernel
theorem d_S_wordForLow2_139 : decode b_S_wordForLow2 139 = .ok (.invokestatic 77, 3) := by decide +kernel
theorem d_S_wordForLow2_142 : decode b_S_wordForLow2 142 = .ok (.ireturn, 1) := by decide +kernel
theorem d_S_wordForLow2_143 : decode b_S_wordForLow2 143 = .ok (.iload_n 0, 1) := by decide +kernel
theorem d_S_wordForLow2_144 : decode b_S_wordForLow2 144 = .ok (.bipush 12, 2) := by decide +kernel
theorem d_S_wordForLow2_146 : decode b_S_wordForLow2 146 = .ok (.bipush 12, 2) := by decide +kernel
theorem d_S_wordForLow2_148 : decode b_S_wordForLow2 148 = .ok (.invokestatic 49, 3) := by decide +kernel
theorem d_S_wordForLow2_151 : decode b_S_wordForLow2 151 = .ok (.ifCond .ne 11, 3) := by decide +kernel
theorem d_S_wordForLow2_154 : decode b_S_wordForLow2 154 = .ok (.iload_n 1, 1) := by decide +kernel
theorem d_S_wordForLow2_155 : decode b_S_wordForLow2 155 = .ok (.iload_n 2, 1) := by decide +kernel
theorem d_S_wordForLow2_156 : decode b_S_wordForLow2 156 = .ok (.invokestatic 137, 3) := by decide +kernel
theorem d_S_wordForLow2_159 : decode b_S_wordForLow2 159 = .ok (.goto 8, 3) := by decide +kernel
theorem d_S_wordForLow2_162 : decode b_S_wordForLow2 162 = .ok (.iload_n 1, 1) := by decide +kernel
theorem d_S_wordForLow2_163 : decode b_S_wordForLow2 163 = .ok (.iload_n 2, 1) := by decide +kernel
theorem d_S_wordForLow2_164 : decode b_S_wordForLow2 164 = .ok (.invokestatic 140, 3) := by decide +kernel
theorem d_S_wordForLow2_167 : decode b_S_wordForLow2 167 = .ok (.ireturn, 1) := by decide +kernel
theorem d_S_wordForLow2_168 : decode b_S_wordForLow2 168 = .ok (.bipush 39, 2) := by decide +kernel
theorem d_S_wordForLow2_170 : decode b_S_wordForLow2 170 = .ok (.iconst 3, 1) := by decide +kernel
theorem d_S_wordForLow2_171 : decode b_S_wordForLow2 171 = .ok (.iconst 2, 1) := by decide +kernel
theorem d_S_wordForLow2_172 : decode b_S_wordForLow2 172 = .ok (.iload_n 2, 1) := by decide +kernel
theorem d_S_wordForLow2_173 : decode b_S_wordForLow2 173 = .ok (.iload_n 0, 1) := by decide +kernel
theorem d_S_wordForLow2_174 : decode b_S_wordForLow2 174 = .ok (.getstatic 143, 3) := by decide +kernel
theorem d_S_wordForLow2_177 : decode b_S_wordForLow2 177 = .ok (.invokestatic 67, 3) := by decide +kernel
theorem d_S_wordForLow2_180 : decode b_S_wordForLow2 180 = .ok (.invokestatic 84, 3) := by decide +kernel
theorem d_S_wordForLow2_183 : decode b_S_wordForLow2 183 = .ok (.ireturn, 1) := by decide +kernel
theorem d_S_wordForLow2_184 : decode b_S_wordForLow2 184 = .ok (.bipush 35, 2) := by decide +kernel
theorem d_S_wordForLow2_186 : decode b_S_wordForLow2 186 = .ok (.iconst 2, 1) := by decide +kernel
theorem d_S_wordForLow2_187 : decode b_S_wordForLow2 187 = .ok (.iconst 2, 1) := by decide +kernel
theorem d_S_wordForLow2_188 : decode b_S_wordForLow2 188 = .ok (.iload_n 2, 1) := by decide +kernel
theorem d_S_wordForLow2_189 : decode b_S_wordForLow2 189 = .ok (.iload_n 0, 1) := by decide +kernel
theorem d_S_wordForLow2_190 : decode b_S_wordForLow2 190 = .ok (.getstatic 146, 3) := by decide +kernel
theorem d_S_wordForLow2_193 : decode b_S_wordForLow2 193 = .ok (.invokestatic 67, 3) := by decide +kernel
theorem d_S_wordForLow2_196 : decode b_S_wordForLow2 196 = .ok (.invokestatic 84, 3) := by decide +kernel
theorem d_S_wordForLow2_199 : decode b_S_wordForLow2 199 = .ok (.ireturn, 1) := by decide +kernel
theorem d_S_wordForLow2_200 : decode b_S_wordForLow2 200 = .ok (.bipush 35, 2) := by decide +kernel
theorem d_S_wordForLow2_202 : decode b_S_wordForLow2 202 = .ok (.iconst 3, 1) := by decide +kernel
theorem d_S_wordForLow2_203 : decode b_S_wordForLow2 203 = .ok (.iconst 2, 1) := by decide +kernel
theorem d_S_wordForLow2_204 : decode b_S_wordForLow2 204 = .ok (.iload_n 2, 1) := by decide +kernel
theorem d_S_wordForLow2_205 : decode b_S_wordForLow2 205 = .ok (.iload_n 0, 1) := by decide +kernel
theorem d_S_wordForLow2_206 : decode b_S_wordForLow2 206 = .ok (.getstatic 143, 3) := by decide +kernel
theorem d_S_wordForLow2_209 : decode b_S_wordForLow2 209 = .ok (.invokestatic 67, 3) := by decide +kernel
theorem d_S_wordForLow2_212 : decode b_S_wordForLow2 212 = .ok (.invokestatic 84, 3) := by decide +kernel
theorem d_S_wordForLow2_215 : decode b_S_wordForLow2 215 = .ok (.ireturn, 1) := by decide +kernel
theorem d_S_wordForGoOrCopy_0 : decode b_S_wordForGoOrCopy 0 = .ok (.iload_n 1, 1) := by decide +kernel
theorem d_S_wordForGoOrCopy_1 : decode b_S_wordForGoOrCopy 1 = .ok (.ifCond .eq 14, 3) := by decide +kernel
theorem d_S_wordForGoOrCopy_4 : decode b_S_wordForGoOrCopy 4 = .ok (.bipush 51, 2) := by decide +kernel
theorem d_S_wordForGoOrCopy_6 : decode b_S_wordForGoOrCopy 6 = .ok (.iload_n 0, 1) := by decide +kernel
theorem d_S_wordForGoOrCopy_7 : decode b_S_wordForGoOrCopy 7 = .ok (.iconst 0, 1) := by decide +kernel
theorem d_S_wordForGoOrCopy_8 : decode b_S_wordForGoOrCopy 8 = .ok (.iconst 0, 1) := by decide +kernel
theorem d_S_wordForGoOrCopy_9 : decode b_S_wordForGoOrCopy 9 = .ok (.iload_n 1, 1) := by decide +kernel
theorem d_S_wordForGoOrCopy_10 : decode b_S_wordForGoOrCopy 10 = .ok (.iconst 0, 1) := by decide +kernel
theorem d_S_wordForGoOrCopy_11 : decode b_S_wordForGoOrCopy 11 = .ok (.invokestatic 127, 3) := by decide +kernel
theorem d_S_wordForGoOrCopy_14 : decode b_S_wordForGoOrCopy 14 = .ok (.ireturn, 1) := by decide +kernel
theorem d_S_wordForGoOrCopy_15 : decode b_S_wordForGoOrCopy 15 = .ok (.iload_n 0, 1) := by decide +kernel
theorem d_S_wordForGoOrCopy_16 : decode b_S_wordForGoOrCopy 16 = .ok (.ifCond .ne 7, 3) := by decide +kernel
theorem d_S_wordForGoOrCopy_19 : decode b_S_wordForGoOrCopy 19 = .ok (.iconst 0, 1) := by decide +kernel
theorem d_S_wordForGoOrCopy_20 : decode b_S_wordForGoOrCopy 20 = .ok (.goto 12, 3) := by decide +kernel
theorem d_S_wordForGoOrCopy_23 : decode b_S_wordForGoOrCopy 23 = .ok (.bipush 103, 2) := by decide +kernel
theorem d_S_wordForGoOrCopy_25 : decode b_S_wordForGoOrCopy 25 = .ok (.iconst 0, 1) := by decide +kernel
theorem d_S_wordForGoOrCopy_26 : decode b_S_wordForGoOrCopy 26 = .ok (.iconst 0, 1) := by decide +kernel
theorem d_S_wordForGoOrCopy_27 : decode b_S_wordForGoOrCopy 27 = .ok (.iload_n 0, 1) := by decide +kernel
theorem d_S_wordForGoOrCopy_28 : decode b_S_wordForGoOrCopy 28 = .ok (.iconst 0, 1) := by decide +kernel
theorem d_S_wordForGoOrCopy_29 : decode b_S_wordForGoOrCopy 29 = .ok (.invokestatic 77, 3) := by decide +kernel
theorem d_S_wordForGoOrCopy_32 : decode b_S_wordForGoOrCopy 32 = .ok (.ireturn, 1) := by decide +kernel
theorem d_S_wordForCallOrAdd_0 : decode b_S_wordForCallOrAdd 0 = .ok (.iload_n 1, 1) := by decide +kernel
theorem d_S_wordForCallOrAdd_1 : decode b_S_wordForCallOrAdd 1 = .ok (.ifCond .eq 14, 3) := by decide +kernel
theorem d_S_wordForCallOrAdd_4 : decode b_S_wordForCallOrAdd 4 = .ok (.bipush 51, 2) := by decide +kernel
theorem d_S_wordForCallOrAdd_6 : decode b_S_wordForCallOrAdd 6 = .ok (.iload_n 0, 1) := by decide +kernel
theorem d_S_wordForCallOrAdd_7 : decode b_S_wordForCallOrAdd 7 = .ok (.iconst 0, 1) := by decide +kernel
theorem d_S_wordForCallOrAdd_8 : decode b_S_wordForCallOrAdd 8 = .ok (.iload_n 0, 1) := by decide +kernel
theorem d_S_wordForCallOrAdd_9 : decode b_S_wordForCallOrAdd 9 = .ok (.iload_n 1, 1) := by decide +kernel
theorem d_S_wordForCallOrAdd_10 : decode b_S_wordForCallOrAdd 10 = .ok (.iconst 0, 1) := by decide +kernel
theorem d_S_wordForCallOrAdd_11 : decode b_S_wordForCallOrAdd 11 = .ok (.invokestatic 127, 3) := by decide +kernel
theorem d_S_wordForCallOrAdd_14 : decode b_S_wordForCallOrAdd 14 = .ok (.ireturn, 1) := by decide +kernel
theorem d_S_wordForCallOrAdd_15 : decode b_S_wordForCallOrAdd 15 = .ok (.iload_n 0, 1) := by decide +kernel
theorem d_S_wordForCallOrAdd_16 : decode b_S_wordForCallOrAdd 16 = .ok (.ifCond .ne 15, 3) := by decide +kernel
theorem d_S_wordForCallOrAdd_19 : decode b_S_wordForCallOrAdd 19 = .ok (.bipush 115, 2) := by decide +kernel
theorem d_S_wordForCallOrAdd_21 : decode b_S_wordForCallOrAdd 21 = .ok (.iconst 0, 1) := by decide +kernel
theorem d_S_wordForCallOrAdd_22 : decode b_S_wordForCallOrAdd 22 = .ok (.iconst 0, 1) := by decide +kernel
theorem d_S_wordForCallOrAdd_23 : decode b_S_wordForCallOrAdd 23 = .ok (.iconst 0, 1) := by decide +kernel
theorem d_S_wordForCallOrAdd_24 : decode b_S_wordForCallOrAdd 24 = .ok (.iconst 1, 1) := by decide +kernel
theorem d_S_wordForCallOrAdd_25 : decode b_S_wordForCallOrAdd 25 = .ok (.invokestatic 77, 3) := by decide +kernel
theorem d_S_wordForCallOrAdd_28 : decode b_S_wordForCallOrAdd 28 = .ok (.goto 12, 3) := by decide +kernel
theorem d_S_wordForCallOrAdd_31 : decode b_S_wordForCallOrAdd 31 = .ok (.bipush 103, 2) := by decide +kernel
theorem d_S_wordForCallOrAdd_33 : decode b_S_wordForCallOrAdd 33 = .ok (.iconst 1, 1) := by decide +kernel
theorem d_S_wordForCallOrAdd_34 : decode b_S_wordForCallOrAdd 34 = .ok (.iconst 0, 1) := by decide +kernel
theorem d_S_wordForCallOrAdd_35 : decode b_S_wordForCallOrAdd 35 = .ok (.iload_n 0, 1) := by decide +kernel
theorem d_S_wordForCallOrAdd_36 : decode b_S_wordForCallOrAdd 36 = .ok (.iconst 0, 1) := by decide +kernel
theorem d_S_wordForCallOrAdd_37 : decode b_S_wordForCallOrAdd 37 = .ok (.invokestatic 77, 3) := by decide +kernel
theorem d_S_wordForCallOrAdd_40 : decode b_S_wordForCallOrAdd 40 = .ok (.ireturn, 1) := by decide +kernel
theorem d_S_halfOfKind_0 : decode b_S_halfOfKind 0 = .ok (.iload_n 1, 1) := by decide +kernel
theorem d_S_halfOfKind_1 : decode b_S_halfOfKind 1 = .ok (.ifCond .ne 5, 3) := by decide +kernel
theorem d_S_halfOfKind_4 : decode b_S_halfOfKind 4 = .ok (.iconst (-1), 1) := by decide +kernel
theorem d_S_halfOfKind_5 : decode b_S_halfOfKind 5 = .ok (.ireturn, 1) := by decide +kernel
theorem d_S_halfOfKind_6 : decode b_S_halfOfKind 6 = .ok (.iload_n 0, 1) := by decide +kernel
theorem d_S_halfOfKind_7 : decode b_S_halfOfKind 7 = .ok (.iconst 2, 1) := by decide +kernel
theorem d_S_halfOfKind_8 : decode b_S_halfOfKind 8 = .ok (.ishr, 1) := by decide +kernel
theorem d_S_halfOfKind_9 : decode b_S_halfOfKind 9 = .ok (.istore_n 2, 1) := by decide +kernel
theorem d_S_halfOfKind_10 : decode b_S_halfOfKind 10 = .ok (.iload_n 0, 1) := by decide +kernel
theorem d_S_halfOfKind_11 : decode b_S_halfOfKind 11 = .ok (.iconst 3, 1) := by decide +kernel
theorem d_S_halfOfKind_12 : decode b_S_halfOfKind 12 = .ok (.iand, 1) := by decide +kernel
theorem d_S_halfOfKind_13 : decode b_S_halfOfKind 13 = .ok (.istore_n 3, 1) := by decide +kernel
theorem d_S_halfOfKind_14 : decode b_S_halfOfKind 14 = .ok (.iload_n 2, 1) := by decide +kernel
theorem d_S_halfOfKind_15 : decode b_S_halfOfKind 15 = .ok (.bipush 12, 2) := by decide +kernel
theorem d_S_halfOfKind_17 : decode b_S_halfOfKind 17 = .ok (.ishl, 1) := by decide +kernel
theorem d_S_halfOfKind_18 : decode b_S_halfOfKind 18 = .ok (.iload_n 3, 1) := by decide +kernel
theorem d_S_halfOfKind_19 : decode b_S_halfOfKind 19 = .ok (.iload_n 2, 1) := by decide +kernel
theorem d_S_halfOfKind_20 : decode b_S_halfOfKind 20 = .ok (.iconst 1, 1) := by decide +kernel
theorem d_S_halfOfKind_21 : decode b_S_halfOfKind 21 = .ok (.ishr, 1) := by decide +kernel
theorem d_S_halfOfKind_22 : decode b_S_halfOfKind 22 = .ok (.iload_n 1, 1) := by decide +kernel
theorem d_S_halfOfKind_23 : decode b_S_halfOfKind 23 = .ok (.invokestatic 149, 3) := by decide +kernel
theorem d_S_halfOfKind_26 : decode b_S_halfOfKind 26 = .ok (.sipush 4092, 3) := by decide +kernel
theorem d_S_halfOfKind_29 : decode b_S_halfOfKind 29 = .ok (.iand, 1) := by decide +kernel
theorem d_S_halfOfKind_30 : decode b_S_halfOfKind 30 = .ok (.ior, 1) := by decide +kernel
theorem d_S_halfOfKind_31 : decode b_S_halfOfKind 31 = .ok (.iload_n 3, 1) := by decide +kernel
theorem d_S_halfOfKind_32 : decode b_S_halfOfKind 32 = .ok (.ior, 1) := by decide +kernel
theorem d_S_halfOfKind_33 : decode b_S_halfOfKind 33 = .ok (.istore 4, 2) := by decide +kernel
theorem d_S_halfOfKind_35 : decode b_S_halfOfKind 35 = .ok (.iload 4, 2) := by decide +kernel
theorem d_S_halfOfKind_37 : decode b_S_halfOfKind 37 = .ok (.invokestatic 37, 3) := by decide +kernel
theorem d_S_halfOfKind_40 : decode b_S_halfOfKind 40 = .ok (.iload_n 1, 1) := by decide +kernel
theorem d_S_halfOfKind_41 : decode b_S_halfOfKind 41 = .ok (.if_icmp .ne 8, 3) := by decide +kernel
theorem d_S_halfOfKind_44 : decode b_S_halfOfKind 44 = .ok (.iload 4, 2) := by decide +kernel
theorem d_S_halfOfKind_46 : decode b_S_halfOfKind 46 = .ok (.goto 4, 3) := by decide +kernel
theorem d_S_halfOfKind_49 : decode b_S_halfOfKind 49 = .ok (.iconst (-1), 1) := by decide +kernel
theorem d_S_halfOfKind_50 : decode b_S_halfOfKind 50 = .ok (.ireturn, 1) := by decide +kernel
theorem d_S_guessOpenBits_0 : decode b_S_guessOpenBits 0 = .ok (.iload_n 0, 1) := by decide +kernel
theorem d_S_guessOpenBits_1 : decode b_S_guessOpenBits 1 = .ok (.tableswitch 45 0 2 #[27, 33, 39], 27) := by decide +kernel
theorem d_S_guessOpenBits_28 : decode b_S_guessOpenBits 28 = .ok (.iload_n 1, 1) := by decide +kernel
theorem d_S_guessOpenBits_29 : decode b_S_guessOpenBits 29 = .ok (.iload_n 2, 1) := by decide +kernel
theorem d_S_guessOpenBits_30 : decode b_S_guessOpenBits 30 = .ok (.invokestatic 152, 3) := by decide +kernel
theorem d_S_guessOpenBits_33 : decode b_S_guessOpenBits 33 = .ok (.ireturn, 1) := by decide +kernel
theorem d_S_guessOpenBits_34 : decode b_S_guessOpenBits 34 = .ok (.iload_n 1, 1) := by decide +kernel
theorem d_S_guessOpenBits_35 : decode b_S_guessOpenBits 35 = .ok (.iload_n 2, 1) := by decide +kernel
theorem d_S_guessOpenBits_36 : decode b_S_guessOpenBits 36 = .ok (.invokestatic 155, 3) := by decide +kernel
theorem d_S_guessOpenBits_39 : decode b_S_guessOpenBits 39 = .ok (.ireturn, 1) := by decide +kernel
theorem d_S_guessOpenBits_40 : decode b_S_guessOpenBits 40 = .ok (.iload_n 1, 1) := by decide +kernel
theorem d_S_guessOpenBits_41 : decode b_S_guessOpenBits 41 = .ok (.iload_n 2, 1) := by decide +kernel
theorem d_S_guessOpenBits_42 : decode b_S_guessOpenBits 42 = .ok (.invokestatic 158, 3) := by decide +kernel
theorem d_S_guessOpenBits_45 : decode b_S_guessOpenBits 45 = .ok (.ireturn, 1) := by decide +kernel
theorem d_S_guessOpenBits_46 : decode b_S_guessOpenBits 46 = .ok (.iconst 0, 1) := by decide +kernel
theorem d_S_guessOpenBits_47 : decode b_S_guessOpenBits 47 = .ok (.ireturn, 1) := by decide +kernel
theorem d_S_guessForLow0_0 : decode b_S_guessForLow0 0 = .ok (.iload_n 1, 1) := by decide +kernel
theorem d_S_guessForLow0_1 : decode b_S_guessForLow0 1 = .ok (.invokestatic 161, 3) := by decide +kernel
theorem d_S_guessForLow0_4 : decode b_S_guessForLow0 4 = .ok (.iconst 2, 1) := by decide +kernel
theorem d_S_guessForLow0_5 : decode b_S_guessForLow0 5 = .ok (.iconst 0, 1) := by decide +kernel
theorem d_S_guessForLow0_6 : decode b_S_guessForLow0 6 = .ok (.invokestatic 49, 3) := by decide +kernel
theorem d_S_guessForLow0_9 : decode b_S_guessForLow0 9 = .ok (.bipush 7, 2) := by decide +kernel
theorem d_S_guessForLow0_11 : decode b_S_guessForLow0 11 = .ok (.ishl, 1) := by decide +kernel
theorem d_S_guessForLow0_12 : decode b_S_guessForLow0 12 = .ok (.istore_n 2, 1) := by decide +kernel
theorem d_S_guessForLow0_13 : decode b_S_guessForLow0 13 = .ok (.iload_n 1, 1) := by decide +kernel
theorem d_S_guessForLow0_14 : decode b_S_guessForLow0 14 = .ok (.invokestatic 164, 3) := by decide +kernel
theorem d_S_guessForLow0_17 : decode b_S_guessForLow0 17 = .ok (.iconst 2, 1) := by decide +kernel
theorem d_S_guessForLow0_18 : decode b_S_guessForLow0 18 = .ok (.iconst 0, 1) := by decide +kernel
theorem d_S_guessForLow0_19 : decode b_S_guessForLow0 19 = .ok (.invokestatic 49, 3) := by decide +kernel
theorem d_S_guessForLow0_22 : decode b_S_guessForLow0 22 = .ok (.iconst 2, 1) := by decide +kernel
theorem d_S_guessForLow0_23 : decode b_S_guessForLow0 23 = .ok (.ishl, 1) := by decide +kernel
theorem d_S_guessForLow0_24 : decode b_S_guessForLow0 24 = .ok (.istore_n 3, 1) := by decide +kernel
