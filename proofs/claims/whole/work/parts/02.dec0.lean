theorem d_S_init_0 : decode b_S_init 0 = .ok (.aload_n 0, 1) := by decide +kernel
theorem d_S_init_1 : decode b_S_init 1 = .ok (.invokespecial 1, 3) := by decide +kernel
theorem d_S_init_4 : decode b_S_init 4 = .ok (.aload_n 0, 1) := by decide +kernel
theorem d_S_init_5 : decode b_S_init 5 = .ok (.iconst 0, 1) := by decide +kernel
theorem d_S_init_6 : decode b_S_init 6 = .ok (.putfield 7, 3) := by decide +kernel
theorem d_S_init_9 : decode b_S_init 9 = .ok (.aload_n 0, 1) := by decide +kernel
theorem d_S_init_10 : decode b_S_init 10 = .ok (.iconst 0, 1) := by decide +kernel
theorem d_S_init_11 : decode b_S_init 11 = .ok (.putfield 13, 3) := by decide +kernel
theorem d_S_init_14 : decode b_S_init 14 = .ok (.aload_n 0, 1) := by decide +kernel
theorem d_S_init_15 : decode b_S_init 15 = .ok (.iconst 0, 1) := by decide +kernel
theorem d_S_init_16 : decode b_S_init 16 = .ok (.putfield 17, 3) := by decide +kernel
theorem d_S_init_19 : decode b_S_init 19 = .ok (.aload_n 0, 1) := by decide +kernel
theorem d_S_init_20 : decode b_S_init 20 = .ok (.iconst 0, 1) := by decide +kernel
theorem d_S_init_21 : decode b_S_init 21 = .ok (.putfield 20, 3) := by decide +kernel
theorem d_S_init_24 : decode b_S_init 24 = .ok (.aload_n 0, 1) := by decide +kernel
theorem d_S_init_25 : decode b_S_init 25 = .ok (.iconst 0, 1) := by decide +kernel
theorem d_S_init_26 : decode b_S_init 26 = .ok (.putfield 23, 3) := by decide +kernel
theorem d_S_init_29 : decode b_S_init 29 = .ok (.return_, 1) := by decide +kernel
theorem d_S_expand_0 : decode b_S_expand 0 = .ok (.iload_n 1, 1) := by decide +kernel
theorem d_S_expand_1 : decode b_S_expand 1 = .ok (.invokestatic 26, 3) := by decide +kernel
theorem d_S_expand_4 : decode b_S_expand 4 = .ok (.ifCond .ne 13, 3) := by decide +kernel
theorem d_S_expand_7 : decode b_S_expand 7 = .ok (.new 30, 3) := by decide +kernel
theorem d_S_expand_10 : decode b_S_expand 10 = .ok (.dup, 1) := by decide +kernel
theorem d_S_expand_11 : decode b_S_expand 11 = .ok (.ldc 32, 2) := by decide +kernel
theorem d_S_expand_13 : decode b_S_expand 13 = .ok (.invokespecial 34, 3) := by decide +kernel
theorem d_S_expand_16 : decode b_S_expand 16 = .ok (.athrow, 1) := by decide +kernel
theorem d_S_expand_17 : decode b_S_expand 17 = .ok (.iload_n 1, 1) := by decide +kernel
theorem d_S_expand_18 : decode b_S_expand 18 = .ok (.invokestatic 37, 3) := by decide +kernel
theorem d_S_expand_21 : decode b_S_expand 21 = .ok (.ireturn, 1) := by decide +kernel
theorem d_S_shorten_0 : decode b_S_shorten 0 = .ok (.iconst (-1), 1) := by decide +kernel
theorem d_S_shorten_1 : decode b_S_shorten 1 = .ok (.istore_n 2, 1) := by decide +kernel
theorem d_S_shorten_2 : decode b_S_shorten 2 = .ok (.iconst 0, 1) := by decide +kernel
theorem d_S_shorten_3 : decode b_S_shorten 3 = .ok (.istore_n 3, 1) := by decide +kernel
theorem d_S_shorten_4 : decode b_S_shorten 4 = .ok (.iload_n 3, 1) := by decide +kernel
theorem d_S_shorten_5 : decode b_S_shorten 5 = .ok (.bipush 64, 2) := by decide +kernel
theorem d_S_shorten_7 : decode b_S_shorten 7 = .ok (.if_icmp .ge 36, 3) := by decide +kernel
theorem d_S_shorten_10 : decode b_S_shorten 10 = .ok (.iload_n 3, 1) := by decide +kernel
theorem d_S_shorten_11 : decode b_S_shorten 11 = .ok (.iload_n 1, 1) := by decide +kernel
theorem d_S_shorten_12 : decode b_S_shorten 12 = .ok (.invokestatic 41, 3) := by decide +kernel
theorem d_S_shorten_15 : decode b_S_shorten 15 = .ok (.istore 4, 2) := by decide +kernel
theorem d_S_shorten_17 : decode b_S_shorten 17 = .ok (.iload 4, 2) := by decide +kernel
theorem d_S_shorten_19 : decode b_S_shorten 19 = .ok (.iconst (-1), 1) := by decide +kernel
theorem d_S_shorten_20 : decode b_S_shorten 20 = .ok (.if_icmp .eq 17, 3) := by decide +kernel
theorem d_S_shorten_23 : decode b_S_shorten 23 = .ok (.iload_n 2, 1) := by decide +kernel
theorem d_S_shorten_24 : decode b_S_shorten 24 = .ok (.iconst (-1), 1) := by decide +kernel
theorem d_S_shorten_25 : decode b_S_shorten 25 = .ok (.if_icmp .eq 9, 3) := by decide +kernel
theorem d_S_shorten_28 : decode b_S_shorten 28 = .ok (.iload 4, 2) := by decide +kernel
theorem d_S_shorten_30 : decode b_S_shorten 30 = .ok (.iload_n 2, 1) := by decide +kernel
theorem d_S_shorten_31 : decode b_S_shorten 31 = .ok (.if_icmp .ge 6, 3) := by decide +kernel
theorem d_S_shorten_34 : decode b_S_shorten 34 = .ok (.iload 4, 2) := by decide +kernel
theorem d_S_shorten_36 : decode b_S_shorten 36 = .ok (.istore_n 2, 1) := by decide +kernel
theorem d_S_shorten_37 : decode b_S_shorten 37 = .ok (.iinc 3 1, 3) := by decide +kernel
theorem d_S_shorten_40 : decode b_S_shorten 40 = .ok (.goto (-36), 3) := by decide +kernel
theorem d_S_shorten_43 : decode b_S_shorten 43 = .ok (.iload_n 2, 1) := by decide +kernel
theorem d_S_shorten_44 : decode b_S_shorten 44 = .ok (.ireturn, 1) := by decide +kernel
theorem d_S_halves_0 : decode b_S_halves 0 = .ok (.iconst 0, 1) := by decide +kernel
theorem d_S_halves_1 : decode b_S_halves 1 = .ok (.istore_n 2, 1) := by decide +kernel
theorem d_S_halves_2 : decode b_S_halves 2 = .ok (.iconst 0, 1) := by decide +kernel
theorem d_S_halves_3 : decode b_S_halves 3 = .ok (.istore_n 3, 1) := by decide +kernel
theorem d_S_halves_4 : decode b_S_halves 4 = .ok (.iload_n 3, 1) := by decide +kernel
theorem d_S_halves_5 : decode b_S_halves 5 = .ok (.bipush 64, 2) := by decide +kernel
theorem d_S_halves_7 : decode b_S_halves 7 = .ok (.if_icmp .ge 21, 3) := by decide +kernel
theorem d_S_halves_10 : decode b_S_halves 10 = .ok (.iload_n 3, 1) := by decide +kernel
theorem d_S_halves_11 : decode b_S_halves 11 = .ok (.iload_n 1, 1) := by decide +kernel
theorem d_S_halves_12 : decode b_S_halves 12 = .ok (.invokestatic 41, 3) := by decide +kernel
theorem d_S_halves_15 : decode b_S_halves 15 = .ok (.iconst (-1), 1) := by decide +kernel
theorem d_S_halves_16 : decode b_S_halves 16 = .ok (.if_icmp .eq 6, 3) := by decide +kernel
theorem d_S_halves_19 : decode b_S_halves 19 = .ok (.iinc 2 1, 3) := by decide +kernel
theorem d_S_halves_22 : decode b_S_halves 22 = .ok (.iinc 3 1, 3) := by decide +kernel
theorem d_S_halves_25 : decode b_S_halves 25 = .ok (.goto (-21), 3) := by decide +kernel
theorem d_S_halves_28 : decode b_S_halves 28 = .ok (.iload_n 2, 1) := by decide +kernel
theorem d_S_halves_29 : decode b_S_halves 29 = .ok (.ireturn, 1) := by decide +kernel
theorem d_S_take_0 : decode b_S_take 0 = .ok (.iload_n 1, 1) := by decide +kernel
theorem d_S_take_1 : decode b_S_take 1 = .ok (.invokestatic 26, 3) := by decide +kernel
theorem d_S_take_4 : decode b_S_take 4 = .ok (.ifCond .ne 13, 3) := by decide +kernel
theorem d_S_take_7 : decode b_S_take 7 = .ok (.new 30, 3) := by decide +kernel
theorem d_S_take_10 : decode b_S_take 10 = .ok (.dup, 1) := by decide +kernel
theorem d_S_take_11 : decode b_S_take 11 = .ok (.ldc 32, 2) := by decide +kernel
theorem d_S_take_13 : decode b_S_take 13 = .ok (.invokespecial 34, 3) := by decide +kernel
theorem d_S_take_16 : decode b_S_take 16 = .ok (.athrow, 1) := by decide +kernel
theorem d_S_take_17 : decode b_S_take 17 = .ok (.aload_n 0, 1) := by decide +kernel
theorem d_S_take_18 : decode b_S_take 18 = .ok (.getfield 7, 3) := by decide +kernel
theorem d_S_take_21 : decode b_S_take 21 = .ok (.ifCond .eq 24, 3) := by decide +kernel
theorem d_S_take_24 : decode b_S_take 24 = .ok (.aload_n 0, 1) := by decide +kernel
theorem d_S_take_25 : decode b_S_take 25 = .ok (.iconst 0, 1) := by decide +kernel
theorem d_S_take_26 : decode b_S_take 26 = .ok (.putfield 7, 3) := by decide +kernel
theorem d_S_take_29 : decode b_S_take 29 = .ok (.aload_n 0, 1) := by decide +kernel
theorem d_S_take_30 : decode b_S_take 30 = .ok (.iload_n 1, 1) := by decide +kernel
theorem d_S_take_31 : decode b_S_take 31 = .ok (.bipush 16, 2) := by decide +kernel
theorem d_S_take_33 : decode b_S_take 33 = .ok (.ishl, 1) := by decide +kernel
theorem d_S_take_34 : decode b_S_take 34 = .ok (.aload_n 0, 1) := by decide +kernel
theorem d_S_take_35 : decode b_S_take 35 = .ok (.getfield 13, 3) := by decide +kernel
theorem d_S_take_38 : decode b_S_take 38 = .ok (.ior, 1) := by decide +kernel
theorem d_S_take_39 : decode b_S_take 39 = .ok (.iconst 4, 1) := by decide +kernel
theorem d_S_take_40 : decode b_S_take 40 = .ok (.invokevirtual 45, 3) := by decide +kernel
theorem d_S_take_43 : decode b_S_take 43 = .ok (.iconst 1, 1) := by decide +kernel
theorem d_S_take_44 : decode b_S_take 44 = .ok (.ireturn, 1) := by decide +kernel
theorem d_S_take_45 : decode b_S_take 45 = .ok (.iload_n 1, 1) := by decide +kernel
theorem d_S_take_46 : decode b_S_take 46 = .ok (.iconst 1, 1) := by decide +kernel
theorem d_S_take_47 : decode b_S_take 47 = .ok (.iconst 0, 1) := by decide +kernel
theorem d_S_take_48 : decode b_S_take 48 = .ok (.invokestatic 49, 3) := by decide +kernel
theorem d_S_take_51 : decode b_S_take 51 = .ok (.iconst 3, 1) := by decide +kernel
theorem d_S_take_52 : decode b_S_take 52 = .ok (.if_icmp .ne 15, 3) := by decide +kernel
theorem d_S_take_55 : decode b_S_take 55 = .ok (.aload_n 0, 1) := by decide +kernel
theorem d_S_take_56 : decode b_S_take 56 = .ok (.iconst 1, 1) := by decide +kernel
theorem d_S_take_57 : decode b_S_take 57 = .ok (.putfield 7, 3) := by decide +kernel
theorem d_S_take_60 : decode b_S_take 60 = .ok (.aload_n 0, 1) := by decide +kernel
theorem d_S_take_61 : decode b_S_take 61 = .ok (.iload_n 1, 1) := by decide +kernel
theorem d_S_take_62 : decode b_S_take 62 = .ok (.putfield 13, 3) := by decide +kernel
theorem d_S_take_65 : decode b_S_take 65 = .ok (.iconst 0, 1) := by decide +kernel
theorem d_S_take_66 : decode b_S_take 66 = .ok (.ireturn, 1) := by decide +kernel
theorem d_S_take_67 : decode b_S_take 67 = .ok (.aload_n 0, 1) := by decide +kernel
theorem d_S_take_68 : decode b_S_take 68 = .ok (.iload_n 1, 1) := by decide +kernel
theorem d_S_take_69 : decode b_S_take 69 = .ok (.invokestatic 37, 3) := by decide +kernel
theorem d_S_take_72 : decode b_S_take 72 = .ok (.iconst 2, 1) := by decide +kernel
theorem d_S_take_73 : decode b_S_take 73 = .ok (.invokevirtual 45, 3) := by decide +kernel
theorem d_S_take_76 : decode b_S_take 76 = .ok (.iconst 1, 1) := by decide +kernel
theorem d_S_take_77 : decode b_S_take 77 = .ok (.ireturn, 1) := by decide +kernel
theorem d_S_word_0 : decode b_S_word 0 = .ok (.aload_n 0, 1) := by decide +kernel
theorem d_S_word_1 : decode b_S_word 1 = .ok (.getfield 17, 3) := by decide +kernel
theorem d_S_word_4 : decode b_S_word 4 = .ok (.ireturn, 1) := by decide +kernel
theorem d_S_length_0 : decode b_S_length 0 = .ok (.aload_n 0, 1) := by decide +kernel
theorem d_S_length_1 : decode b_S_length 1 = .ok (.getfield 20, 3) := by decide +kernel
theorem d_S_length_4 : decode b_S_length 4 = .ok (.ireturn, 1) := by decide +kernel
theorem d_S_whole_0 : decode b_S_whole 0 = .ok (.aload_n 0, 1) := by decide +kernel
theorem d_S_whole_1 : decode b_S_whole 1 = .ok (.getfield 23, 3) := by decide +kernel
theorem d_S_whole_4 : decode b_S_whole 4 = .ok (.ireturn, 1) := by decide +kernel
theorem d_S_drop_0 : decode b_S_drop 0 = .ok (.aload_n 0, 1) := by decide +kernel
theorem d_S_drop_1 : decode b_S_drop 1 = .ok (.getfield 7, 3) := by decide +kernel
theorem d_S_drop_4 : decode b_S_drop 4 = .ok (.istore_n 1, 1) := by decide +kernel
theorem d_S_drop_5 : decode b_S_drop 5 = .ok (.aload_n 0, 1) := by decide +kernel
theorem d_S_drop_6 : decode b_S_drop 6 = .ok (.iconst 0, 1) := by decide +kernel
theorem d_S_drop_7 : decode b_S_drop 7 = .ok (.putfield 7, 3) := by decide +kernel
theorem d_S_drop_10 : decode b_S_drop 10 = .ok (.iload_n 1, 1) := by decide +kernel
theorem d_S_drop_11 : decode b_S_drop 11 = .ok (.ireturn, 1) := by decide +kernel
theorem d_S_keepWhole_0 : decode b_S_keepWhole 0 = .ok (.aload_n 0, 1) := by decide +kernel
theorem d_S_keepWhole_1 : decode b_S_keepWhole 1 = .ok (.iload_n 1, 1) := by decide +kernel
theorem d_S_keepWhole_2 : decode b_S_keepWhole 2 = .ok (.putfield 17, 3) := by decide +kernel
theorem d_S_keepWhole_5 : decode b_S_keepWhole 5 = .ok (.aload_n 0, 1) := by decide +kernel
theorem d_S_keepWhole_6 : decode b_S_keepWhole 6 = .ok (.iload_n 2, 1) := by decide +kernel
theorem d_S_keepWhole_7 : decode b_S_keepWhole 7 = .ok (.putfield 20, 3) := by decide +kernel
theorem d_S_keepWhole_10 : decode b_S_keepWhole 10 = .ok (.aload_n 0, 1) := by decide +kernel
theorem d_S_keepWhole_11 : decode b_S_keepWhole 11 = .ok (.dup, 1) := by decide +kernel
theorem d_S_keepWhole_12 : decode b_S_keepWhole 12 = .ok (.getfield 23, 3) := by decide +kernel
theorem d_S_keepWhole_15 : decode b_S_keepWhole 15 = .ok (.iconst 1, 1) := by decide +kernel
theorem d_S_keepWhole_16 : decode b_S_keepWhole 16 = .ok (.iadd, 1) := by decide +kernel
theorem d_S_keepWhole_17 : decode b_S_keepWhole 17 = .ok (.putfield 23, 3) := by decide +kernel
theorem d_S_keepWhole_20 : decode b_S_keepWhole 20 = .ok (.return_, 1) := by decide +kernel
theorem d_S_isHalf_0 : decode b_S_isHalf 0 = .ok (.iload_n 0, 1) := by decide +kernel
theorem d_S_isHalf_1 : decode b_S_isHalf 1 = .ok (.ifCond .lt 13, 3) := by decide +kernel
theorem d_S_isHalf_4 : decode b_S_isHalf 4 = .ok (.iload_n 0, 1) := by decide +kernel
theorem d_S_isHalf_5 : decode b_S_isHalf 5 = .ok (.ldc 53, 2) := by decide +kernel
theorem d_S_isHalf_7 : decode b_S_isHalf 7 = .ok (.if_icmp .gt 7, 3) := by decide +kernel
theorem d_S_isHalf_10 : decode b_S_isHalf 10 = .ok (.iconst 1, 1) := by decide +kernel
theorem d_S_isHalf_11 : decode b_S_isHalf 11 = .ok (.goto 4, 3) := by decide +kernel
theorem d_S_isHalf_14 : decode b_S_isHalf 14 = .ok (.iconst 0, 1) := by decide +kernel
theorem d_S_isHalf_15 : decode b_S_isHalf 15 = .ok (.ireturn, 1) := by decide +kernel
theorem d_S_wordFor_0 : decode b_S_wordFor 0 = .ok (.iload_n 0, 1) := by decide +kernel
theorem d_S_wordFor_1 : decode b_S_wordFor 1 = .ok (.iconst 1, 1) := by decide +kernel
theorem d_S_wordFor_2 : decode b_S_wordFor 2 = .ok (.iconst 0, 1) := by decide +kernel
theorem d_S_wordFor_3 : decode b_S_wordFor 3 = .ok (.invokestatic 49, 3) := by decide +kernel
theorem d_S_wordFor_6 : decode b_S_wordFor 6 = .ok (.tableswitch 41 0 2 #[26, 31, 36], 26) := by decide +kernel
theorem d_S_wordFor_32 : decode b_S_wordFor 32 = .ok (.iload_n 0, 1) := by decide +kernel
theorem d_S_wordFor_33 : decode b_S_wordFor 33 = .ok (.invokestatic 54, 3) := by decide +kernel
theorem d_S_wordFor_36 : decode b_S_wordFor 36 = .ok (.ireturn, 1) := by decide +kernel
theorem d_S_wordFor_37 : decode b_S_wordFor 37 = .ok (.iload_n 0, 1) := by decide +kernel
theorem d_S_wordFor_38 : decode b_S_wordFor 38 = .ok (.invokestatic 57, 3) := by decide +kernel
theorem d_S_wordFor_41 : decode b_S_wordFor 41 = .ok (.ireturn, 1) := by decide +kernel
theorem d_S_wordFor_42 : decode b_S_wordFor 42 = .ok (.iload_n 0, 1) := by decide +kernel
theorem d_S_wordFor_43 : decode b_S_wordFor 43 = .ok (.invokestatic 60, 3) := by decide +kernel
theorem d_S_wordFor_46 : decode b_S_wordFor 46 = .ok (.ireturn, 1) := by decide +kernel
theorem d_S_wordFor_47 : decode b_S_wordFor 47 = .ok (.iconst 0, 1) := by decide +kernel
theorem d_S_wordFor_48 : decode b_S_wordFor 48 = .ok (.ireturn, 1) := by decide +kernel
theorem d_S_wordForLow0_0 : decode b_S_wordForLow0 0 = .ok (.bipush 8, 2) := by decide +kernel
theorem d_S_wordForLow0_2 : decode b_S_wordForLow0 2 = .ok (.iload_n 0, 1) := by decide +kernel
theorem d_S_wordForLow0_3 : decode b_S_wordForLow0 3 = .ok (.bipush 9, 2) := by decide +kernel
theorem d_S_wordForLow0_5 : decode b_S_wordForLow0 5 = .ok (.bipush 7, 2) := by decide +kernel
theorem d_S_wordForLow0_7 : decode b_S_wordForLow0 7 = .ok (.invokestatic 49, 3) := by decide +kernel
theorem d_S_wordForLow0_10 : decode b_S_wordForLow0 10 = .ok (.iadd, 1) := by decide +kernel
theorem d_S_wordForLow0_11 : decode b_S_wordForLow0 11 = .ok (.istore_n 1, 1) := by decide +kernel
theorem d_S_wordForLow0_12 : decode b_S_wordForLow0 12 = .ok (.bipush 8, 2) := by decide +kernel
theorem d_S_wordForLow0_14 : decode b_S_wordForLow0 14 = .ok (.iload_n 0, 1) := by decide +kernel
theorem d_S_wordForLow0_15 : decode b_S_wordForLow0 15 = .ok (.iconst 4, 1) := by decide +kernel
theorem d_S_wordForLow0_16 : decode b_S_wordForLow0 16 = .ok (.iconst 2, 1) := by decide +kernel
theorem d_S_wordForLow0_17 : decode b_S_wordForLow0 17 = .ok (.invokestatic 49, 3) := by decide +kernel
theorem d_S_wordForLow0_20 : decode b_S_wordForLow0 20 = .ok (.iadd, 1) := by decide +kernel
theorem d_S_wordForLow0_21 : decode b_S_wordForLow0 21 = .ok (.istore_n 2, 1) := by decide +kernel
theorem d_S_wordForLow0_22 : decode b_S_wordForLow0 22 = .ok (.iload_n 0, 1) := by decide +kernel
theorem d_S_wordForLow0_23 : decode b_S_wordForLow0 23 = .ok (.bipush 15, 2) := by decide +kernel
theorem d_S_wordForLow0_25 : decode b_S_wordForLow0 25 = .ok (.bipush 13, 2) := by decide +kernel
theorem d_S_wordForLow0_27 : decode b_S_wordForLow0 27 = .ok (.invokestatic 49, 3) := by decide +kernel
theorem d_S_wordForLow0_30 : decode b_S_wordForLow0 30 = .ok (.tableswitch 152 0 7 #[46, 58, 74, 89, 152, 104, 120, 136], 46) := by decide +kernel
theorem d_S_wordForLow0_76 : decode b_S_wordForLow0 76 = .ok (.iload_n 2, 1) := by decide +kernel
theorem d_S_wordForLow0_77 : decode b_S_wordForLow0 77 = .ok (.iload_n 0, 1) := by decide +kernel
theorem d_S_wordForLow0_78 : decode b_S_wordForLow0 78 = .ok (.getstatic 63, 3) := by decide +kernel
theorem d_S_wordForLow0_81 : decode b_S_wordForLow0 81 = .ok (.invokestatic 67, 3) := by decide +kernel
theorem d_S_wordForLow0_84 : decode b_S_wordForLow0 84 = .ok (.invokestatic 71, 3) := by decide +kernel
theorem d_S_wordForLow0_87 : decode b_S_wordForLow0 87 = .ok (.ireturn, 1) := by decide +kernel
theorem d_S_wordForLow0_88 : decode b_S_wordForLow0 88 = .ok (.bipush 7, 2) := by decide +kernel
theorem d_S_wordForLow0_90 : decode b_S_wordForLow0 90 = .ok (.iload_n 2, 1) := by decide +kernel
theorem d_S_wordForLow0_91 : decode b_S_wordForLow0 91 = .ok (.iconst 3, 1) := by decide +kernel
theorem d_S_wordForLow0_92 : decode b_S_wordForLow0 92 = .ok (.iload_n 1, 1) := by decide +kernel
theorem d_S_wordForLow0_93 : decode b_S_wordForLow0 93 = .ok (.iload_n 0, 1) := by decide +kernel
theorem d_S_wordForLow0_94 : decode b_S_wordForLow0 94 = .ok (.getstatic 74, 3) := by decide +kernel
theorem d_S_wordForLow0_97 : decode b_S_wordForLow0 97 = .ok (.invokestatic 67, 3) := by decide +kernel
theorem d_S_wordForLow0_100 : decode b_S_wordForLow0 100 = .ok (.invokestatic 77, 3) := by decide +kernel
theorem d_S_wordForLow0_103 : decode b_S_wordForLow0 103 = .ok (.ireturn, 1) := by decide +kernel
theorem d_S_wordForLow0_104 : decode b_S_wordForLow0 104 = .ok (.iconst 3, 1) := by decide +kernel
theorem d_S_wordForLow0_105 : decode b_S_wordForLow0 105 = .ok (.iload_n 2, 1) := by decide +kernel
theorem d_S_wordForLow0_106 : decode b_S_wordForLow0 106 = .ok (.iconst 2, 1) := by decide +kernel
theorem d_S_wordForLow0_107 : decode b_S_wordForLow0 107 = .ok (.iload_n 1, 1) := by decide +kernel
theorem d_S_wordForLow0_108 : decode b_S_wordForLow0 108 = .ok (.iload_n 0, 1) := by decide +kernel
theorem d_S_wordForLow0_109 : decode b_S_wordForLow0 109 = .ok (.getstatic 81, 3) := by decide +kernel
theorem d_S_wordForLow0_112 : decode b_S_wordForLow0 112 = .ok (.invokestatic 67, 3) := by decide +kernel
theorem d_S_wordForLow0_115 : decode b_S_wordForLow0 115 = .ok (.invokestatic 77, 3) := by decide +kernel
theorem d_S_wordForLow0_118 : decode b_S_wordForLow0 118 = .ok (.ireturn, 1) := by decide +kernel
theorem d_S_wordForLow0_119 : decode b_S_wordForLow0 119 = .ok (.iconst 3, 1) := by decide +kernel
theorem d_S_wordForLow0_120 : decode b_S_wordForLow0 120 = .ok (.iload_n 2, 1) := by decide +kernel
theorem d_S_wordForLow0_121 : decode b_S_wordForLow0 121 = .ok (.iconst 3, 1) := by decide +kernel
theorem d_S_wordForLow0_122 : decode b_S_wordForLow0 122 = .ok (.iload_n 1, 1) := by decide +kernel
theorem d_S_wordForLow0_123 : decode b_S_wordForLow0 123 = .ok (.iload_n 0, 1) := by decide +kernel
theorem d_S_wordForLow0_124 : decode b_S_wordForLow0 124 = .ok (.getstatic 74, 3) := by decide +kernel
theorem d_S_wordForLow0_127 : decode b_S_wordForLow0 127 = .ok (.invokestatic 67, 3) := by decide +kernel
theorem d_S_wordForLow0_130 : decode b_S_wordForLow0 130 = .ok (.invokestatic 77, 3) := by decide +kernel
theorem d_S_wordForLow0_133 : decode b_S_wordForLow0 133 = .ok (.ireturn, 1) := by decide +kernel
theorem d_S_wordForLow0_134 : decode b_S_wordForLow0 134 = .ok (.bipush 39, 2) := by decide +kernel
theorem d_S_wordForLow0_136 : decode b_S_wordForLow0 136 = .ok (.iconst 3, 1) := by decide +kernel
theorem d_S_wordForLow0_137 : decode b_S_wordForLow0 137 = .ok (.iload_n 1, 1) := by decide +kernel
theorem d_S_wordForLow0_138 : decode b_S_wordForLow0 138 = .ok (.iload_n 2, 1) := by decide +kernel
theorem d_S_wordForLow0_139 : decode b_S_wordForLow0 139 = .ok (.iload_n 0, 1) := by decide +kernel
theorem d_S_wordForLow0_140 : decode b_S_wordForLow0 140 = .ok (.getstatic 74, 3) := by decide +kernel
theorem d_S_wordForLow0_143 : decode b_S_wordForLow0 143 = .ok (.invokestatic 67, 3) := by decide +kernel
theorem d_S_wordForLow0_146 : decode b_S_wordForLow0 146 = .ok (.invokestatic 84, 3) := by decide +kernel
theorem d_S_wordForLow0_149 : decode b_S_wordForLow0 149 = .ok (.ireturn, 1) := by decide +kernel
theorem d_S_wordForLow0_150 : decode b_S_wordForLow0 150 = .ok (.bipush 35, 2) := by decide +kernel
theorem d_S_wordForLow0_152 : decode b_S_wordForLow0 152 = .ok (.iconst 2, 1) := by decide +kernel
theorem d_S_wordForLow0_153 : decode b_S_wordForLow0 153 = .ok (.iload_n 1, 1) := by decide +kernel
theorem d_S_wordForLow0_154 : decode b_S_wordForLow0 154 = .ok (.iload_n 2, 1) := by decide +kernel
theorem d_S_wordForLow0_155 : decode b_S_wordForLow0 155 = .ok (.iload_n 0, 1) := by decide +kernel
theorem d_S_wordForLow0_156 : decode b_S_wordForLow0 156 = .ok (.getstatic 81, 3) := by decide +kernel
theorem d_S_wordForLow0_159 : decode b_S_wordForLow0 159 = .ok (.invokestatic 67, 3) := by decide +kernel
theorem d_S_wordForLow0_162 : decode b_S_wordForLow0 162 = .ok (.invokestatic 84, 3) := by decide +kernel
theorem d_S_wordForLow0_165 : decode b_S_wordForLow0 165 = .ok (.ireturn, 1) := by decide +kernel
theorem d_S_wordForLow0_166 : decode b_S_wordForLow0 166 = .ok (.bipush 35, 2) := by decide +kernel
theorem d_S_wordForLow0_168 : decode b_S_wordForLow0 168 = .ok (.iconst 3, 1) := by decide +kernel
theorem d_S_wordForLow0_169 : decode b_S_wordForLow0 169 = .ok (.iload_n 1, 1) := by decide +kernel
theorem d_S_wordForLow0_170 : decode b_S_wordForLow0 170 = .ok (.iload_n 2, 1) := by decide +kernel
theorem d_S_wordForLow0_171 : decode b_S_wordForLow0 171 = .ok (.iload_n 0, 1) := by decide +kernel
theorem d_S_wordForLow0_172 : decode b_S_wordForLow0 172 = .ok (.getstatic 74, 3) := by decide +kernel
theorem d_S_wordForLow0_175 : decode b_S_wordForLow0 175 = .ok (.invokestatic 67, 3) := by decide +kernel
theorem d_S_wordForLow0_178 : decode b_S_wordForLow0 178 = .ok (.invokestatic 84, 3) := by decide +kernel
theorem d_S_wordForLow0_181 : decode b_S_wordForLow0 181 = .ok (.ireturn, 1) := by decide +kernel
theorem d_S_wordForLow0_182 : decode b_S_wordForLow0 182 = .ok (.iconst 0, 1) := by decide +kernel
theorem d_S_wordForLow0_183 : decode b_S_wordForLow0 183 = .ok (.ireturn, 1) := by decide +kernel
theorem d_S_wordForAddToStack_0 : decode b_S_wordForAddToStack 0 = .ok (.iload_n 1, 1) := by decide +kernel
theorem d_S_wordForAddToStack_1 : decode b_S_wordForAddToStack 1 = .ok (.ifCond .ne 7, 3) := by decide +kernel
theorem d_S_wordForAddToStack_4 : decode b_S_wordForAddToStack 4 = .ok (.iconst 0, 1) := by decide +kernel
theorem d_S_wordForAddToStack_5 : decode b_S_wordForAddToStack 5 = .ok (.goto 12, 3) := by decide +kernel
theorem d_S_wordForAddToStack_8 : decode b_S_wordForAddToStack 8 = .ok (.bipush 19, 2) := by decide +kernel
theorem d_S_wordForAddToStack_10 : decode b_S_wordForAddToStack 10 = .ok (.iload_n 0, 1) := by decide +kernel
theorem d_S_wordForAddToStack_11 : decode b_S_wordForAddToStack 11 = .ok (.iconst 0, 1) := by decide +kernel
theorem d_S_wordForAddToStack_12 : decode b_S_wordForAddToStack 12 = .ok (.iconst 2, 1) := by decide +kernel
theorem d_S_wordForAddToStack_13 : decode b_S_wordForAddToStack 13 = .ok (.iload_n 1, 1) := by decide +kernel
theorem d_S_wordForAddToStack_14 : decode b_S_wordForAddToStack 14 = .ok (.invokestatic 77, 3) := by decide +kernel
theorem d_S_wordForAddToStack_17 : decode b_S_wordForAddToStack 17 = .ok (.ireturn, 1) := by decide +kernel
theorem d_S_wordForLow1_0 : decode b_S_wordForLow1 0 = .ok (.iload_n 0, 1) := by decide +kernel
theorem d_S_wordForLow1_1 : decode b_S_wordForLow1 1 = .ok (.bipush 11, 2) := by decide +kernel
theorem d_S_wordForLow1_3 : decode b_S_wordForLow1 3 = .ok (.bipush 7, 2) := by decide +kernel
theorem d_S_wordForLow1_5 : decode b_S_wordForLow1 5 = .ok (.invokestatic 49, 3) := by decide +kernel
theorem d_S_wordForLow1_8 : decode b_S_wordForLow1 8 = .ok (.istore_n 1, 1) := by decide +kernel
theorem d_S_wordForLow1_9 : decode b_S_wordForLow1 9 = .ok (.bipush 8, 2) := by decide +kernel
theorem d_S_wordForLow1_11 : decode b_S_wordForLow1 11 = .ok (.iload_n 0, 1) := by decide +kernel
theorem d_S_wordForLow1_12 : decode b_S_wordForLow1 12 = .ok (.bipush 9, 2) := by decide +kernel
theorem d_S_wordForLow1_14 : decode b_S_wordForLow1 14 = .ok (.bipush 7, 2) := by decide +kernel
theorem d_S_wordForLow1_16 : decode b_S_wordForLow1 16 = .ok (.invokestatic 49, 3) := by decide +kernel
theorem d_S_wordForLow1_19 : decode b_S_wordForLow1 19 = .ok (.iadd, 1) := by decide +kernel
theorem d_S_wordForLow1_20 : decode b_S_wordForLow1 20 = .ok (.istore_n 2, 1) := by decide +kernel
theorem d_S_wordForLow1_21 : decode b_S_wordForLow1 21 = .ok (.iload_n 0, 1) := by decide +kernel
theorem d_S_wordForLow1_22 : decode b_S_wordForLow1 22 = .ok (.invokestatic 87, 3) := by decide +kernel
theorem d_S_wordForLow1_25 : decode b_S_wordForLow1 25 = .ok (.istore_n 3, 1) := by decide +kernel
theorem d_S_wordForLow1_26 : decode b_S_wordForLow1 26 = .ok (.iload_n 0, 1) := by decide +kernel
theorem d_S_wordForLow1_27 : decode b_S_wordForLow1 27 = .ok (.bipush 15, 2) := by decide +kernel
theorem d_S_wordForLow1_29 : decode b_S_wordForLow1 29 = .ok (.bipush 13, 2) := by decide +kernel
theorem d_S_wordForLow1_31 : decode b_S_wordForLow1 31 = .ok (.invokestatic 49, 3) := by decide +kernel
theorem d_S_wordForLow1_34 : decode b_S_wordForLow1 34 = .ok (.tableswitch 150 0 6 #[42, 52, 70, 80, 109, 114, 131], 42) := by decide +kernel
theorem d_S_wordForLow1_76 : decode b_S_wordForLow1 76 = .ok (.bipush 19, 2) := by decide +kernel
theorem d_S_wordForLow1_78 : decode b_S_wordForLow1 78 = .ok (.iload_n 1, 1) := by decide +kernel
theorem d_S_wordForLow1_79 : decode b_S_wordForLow1 79 = .ok (.iconst 0, 1) := by decide +kernel
theorem d_S_wordForLow1_80 : decode b_S_wordForLow1 80 = .ok (.iload_n 1, 1) := by decide +kernel
theorem d_S_wordForLow1_81 : decode b_S_wordForLow1 81 = .ok (.iload_n 3, 1) := by decide +kernel
theorem d_S_wordForLow1_82 : decode b_S_wordForLow1 82 = .ok (.invokestatic 77, 3) := by decide +kernel
theorem d_S_wordForLow1_85 : decode b_S_wordForLow1 85 = .ok (.ireturn, 1) := by decide +kernel
theorem d_S_wordForLow1_86 : decode b_S_wordForLow1 86 = .ok (.iload_n 1, 1) := by decide +kernel
theorem d_S_wordForLow1_87 : decode b_S_wordForLow1 87 = .ok (.ifCond .ne 7, 3) := by decide +kernel
theorem d_S_wordForLow1_90 : decode b_S_wordForLow1 90 = .ok (.iconst 0, 1) := by decide +kernel
theorem d_S_wordForLow1_91 : decode b_S_wordForLow1 91 = .ok (.goto 12, 3) := by decide +kernel
theorem d_S_wordForLow1_94 : decode b_S_wordForLow1 94 = .ok (.bipush 27, 2) := by decide +kernel
theorem d_S_wordForLow1_96 : decode b_S_wordForLow1 96 = .ok (.iload_n 1, 1) := by decide +kernel
theorem d_S_wordForLow1_97 : decode b_S_wordForLow1 97 = .ok (.iconst 0, 1) := by decide +kernel
theorem d_S_wordForLow1_98 : decode b_S_wordForLow1 98 = .ok (.iload_n 1, 1) := by decide +kernel
theorem d_S_wordForLow1_99 : decode b_S_wordForLow1 99 = .ok (.iload_n 3, 1) := by decide +kernel
theorem d_S_wordForLow1_100 : decode b_S_wordForLow1 100 = .ok (.invokestatic 77, 3) := by decide +kernel
theorem d_S_wordForLow1_103 : decode b_S_wordForLow1 103 = .ok (.ireturn, 1) := by decide +kernel
theorem d_S_wordForLow1_104 : decode b_S_wordForLow1 104 = .ok (.bipush 19, 2) := by decide +kernel
theorem d_S_wordForLow1_106 : decode b_S_wordForLow1 106 = .ok (.iload_n 1, 1) := by decide +kernel
theorem d_S_wordForLow1_107 : decode b_S_wordForLow1 107 = .ok (.iconst 0, 1) := by decide +kernel
theorem d_S_wordForLow1_108 : decode b_S_wordForLow1 108 = .ok (.iconst 0, 1) := by decide +kernel
theorem d_S_wordForLow1_109 : decode b_S_wordForLow1 109 = .ok (.iload_n 3, 1) := by decide +kernel
theorem d_S_wordForLow1_110 : decode b_S_wordForLow1 110 = .ok (.invokestatic 77, 3) := by decide +kernel
theorem d_S_wordForLow1_113 : decode b_S_wordForLow1 113 = .ok (.ireturn, 1) := by decide +kernel
theorem d_S_wordForLow1_114 : decode b_S_wordForLow1 114 = .ok (.iload_n 1, 1) := by decide +kernel
theorem d_S_wordForLow1_115 : decode b_S_wordForLow1 115 = .ok (.iconst 2, 1) := by decide +kernel
theorem d_S_wordForLow1_116 : decode b_S_wordForLow1 116 = .ok (.if_icmp .ne 21, 3) := by decide +kernel
theorem d_S_wordForLow1_119 : decode b_S_wordForLow1 119 = .ok (.iload_n 0, 1) := by decide +kernel
theorem d_S_wordForLow1_120 : decode b_S_wordForLow1 120 = .ok (.getstatic 90, 3) := by decide +kernel
theorem d_S_wordForLow1_123 : decode b_S_wordForLow1 123 = .ok (.invokestatic 67, 3) := by decide +kernel
theorem d_S_wordForLow1_126 : decode b_S_wordForLow1 126 = .ok (.bipush 9, 2) := by decide +kernel
theorem d_S_wordForLow1_128 : decode b_S_wordForLow1 128 = .ok (.invokestatic 93, 3) := by decide +kernel
theorem d_S_wordForLow1_131 : decode b_S_wordForLow1 131 = .ok (.invokestatic 96, 3) := by decide +kernel
theorem d_S_wordForLow1_134 : decode b_S_wordForLow1 134 = .ok (.goto 8, 3) := by decide +kernel
theorem d_S_wordForLow1_137 : decode b_S_wordForLow1 137 = .ok (.iload_n 1, 1) := by decide +kernel
theorem d_S_wordForLow1_138 : decode b_S_wordForLow1 138 = .ok (.iload_n 3, 1) := by decide +kernel
theorem d_S_wordForLow1_139 : decode b_S_wordForLow1 139 = .ok (.invokestatic 99, 3) := by decide +kernel
theorem d_S_wordForLow1_142 : decode b_S_wordForLow1 142 = .ok (.ireturn, 1) := by decide +kernel
theorem d_S_wordForLow1_143 : decode b_S_wordForLow1 143 = .ok (.iload_n 0, 1) := by decide +kernel
theorem d_S_wordForLow1_144 : decode b_S_wordForLow1 144 = .ok (.invokestatic 102, 3) := by decide +kernel
theorem d_S_wordForLow1_147 : decode b_S_wordForLow1 147 = .ok (.ireturn, 1) := by decide +kernel
theorem d_S_wordForLow1_148 : decode b_S_wordForLow1 148 = .ok (.iconst 0, 1) := by decide +kernel
theorem d_S_wordForLow1_149 : decode b_S_wordForLow1 149 = .ok (.iload_n 0, 1) := by decide +kernel
theorem d_S_wordForLow1_150 : decode b_S_wordForLow1 150 = .ok (.getstatic 105, 3) := by decide +kernel
theorem d_S_wordForLow1_153 : decode b_S_wordForLow1 153 = .ok (.invokestatic 67, 3) := by decide +kernel
theorem d_S_wordForLow1_156 : decode b_S_wordForLow1 156 = .ok (.bipush 11, 2) := by decide +kernel
theorem d_S_wordForLow1_158 : decode b_S_wordForLow1 158 = .ok (.invokestatic 93, 3) := by decide +kernel
theorem d_S_wordForLow1_161 : decode b_S_wordForLow1 161 = .ok (.invokestatic 108, 3) := by decide +kernel
theorem d_S_wordForLow1_164 : decode b_S_wordForLow1 164 = .ok (.ireturn, 1) := by decide +kernel
theorem d_S_wordForLow1_165 : decode b_S_wordForLow1 165 = .ok (.iconst 0, 1) := by decide +kernel
theorem d_S_wordForLow1_166 : decode b_S_wordForLow1 166 = .ok (.iload_n 2, 1) := by decide +kernel
theorem d_S_wordForLow1_167 : decode b_S_wordForLow1 167 = .ok (.iconst 0, 1) := by decide +kernel
theorem d_S_wordForLow1_168 : decode b_S_wordForLow1 168 = .ok (.iload_n 0, 1) := by decide +kernel
theorem d_S_wordForLow1_169 : decode b_S_wordForLow1 169 = .ok (.getstatic 111, 3) := by decide +kernel
theorem d_S_wordForLow1_172 : decode b_S_wordForLow1 172 = .ok (.invokestatic 67, 3) := by decide +kernel
theorem d_S_wordForLow1_175 : decode b_S_wordForLow1 175 = .ok (.bipush 8, 2) := by decide +kernel
theorem d_S_wordForLow1_177 : decode b_S_wordForLow1 177 = .ok (.invokestatic 93, 3) := by decide +kernel
theorem d_S_wordForLow1_180 : decode b_S_wordForLow1 180 = .ok (.invokestatic 114, 3) := by decide +kernel
theorem d_S_wordForLow1_183 : decode b_S_wordForLow1 183 = .ok (.ireturn, 1) := by decide +kernel
theorem d_S_wordForLow1_184 : decode b_S_wordForLow1 184 = .ok (.iconst 1, 1) := by decide +kernel
theorem d_S_wordForLow1_185 : decode b_S_wordForLow1 185 = .ok (.iload_n 2, 1) := by decide +kernel
theorem d_S_wordForLow1_186 : decode b_S_wordForLow1 186 = .ok (.iconst 0, 1) := by decide +kernel
theorem d_S_wordForLow1_187 : decode b_S_wordForLow1 187 = .ok (.iload_n 0, 1) := by decide +kernel
theorem d_S_wordForLow1_188 : decode b_S_wordForLow1 188 = .ok (.getstatic 111, 3) := by decide +kernel
