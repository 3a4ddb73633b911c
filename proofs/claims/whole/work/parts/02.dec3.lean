theorem d_S_scatter_43 : decode b_S_scatter 43 = .ok (.iaload, 1) := by decide +kernel
theorem d_S_scatter_44 : decode b_S_scatter 44 = .ok (.ishl, 1) := by decide +kernel
theorem d_S_scatter_45 : decode b_S_scatter 45 = .ok (.ior, 1) := by decide +kernel
theorem d_S_scatter_46 : decode b_S_scatter 46 = .ok (.istore_n 2, 1) := by decide +kernel
theorem d_S_scatter_47 : decode b_S_scatter 47 = .ok (.iinc 3 3, 3) := by decide +kernel
theorem d_S_scatter_50 : decode b_S_scatter 50 = .ok (.goto (-46), 3) := by decide +kernel
theorem d_S_scatter_53 : decode b_S_scatter 53 = .ok (.iload_n 2, 1) := by decide +kernel
theorem d_S_scatter_54 : decode b_S_scatter 54 = .ok (.ireturn, 1) := by decide +kernel
theorem d_S_formI_0 : decode b_S_formI 0 = .ok (.iload_n 0, 1) := by decide +kernel
theorem d_S_formI_1 : decode b_S_formI 1 = .ok (.iload_n 1, 1) := by decide +kernel
theorem d_S_formI_2 : decode b_S_formI 2 = .ok (.bipush 7, 2) := by decide +kernel
theorem d_S_formI_4 : decode b_S_formI 4 = .ok (.ishl, 1) := by decide +kernel
theorem d_S_formI_5 : decode b_S_formI 5 = .ok (.ior, 1) := by decide +kernel
theorem d_S_formI_6 : decode b_S_formI 6 = .ok (.iload_n 2, 1) := by decide +kernel
theorem d_S_formI_7 : decode b_S_formI 7 = .ok (.bipush 12, 2) := by decide +kernel
theorem d_S_formI_9 : decode b_S_formI 9 = .ok (.ishl, 1) := by decide +kernel
theorem d_S_formI_10 : decode b_S_formI 10 = .ok (.ior, 1) := by decide +kernel
theorem d_S_formI_11 : decode b_S_formI 11 = .ok (.iload_n 3, 1) := by decide +kernel
theorem d_S_formI_12 : decode b_S_formI 12 = .ok (.bipush 15, 2) := by decide +kernel
theorem d_S_formI_14 : decode b_S_formI 14 = .ok (.ishl, 1) := by decide +kernel
theorem d_S_formI_15 : decode b_S_formI 15 = .ok (.ior, 1) := by decide +kernel
theorem d_S_formI_16 : decode b_S_formI 16 = .ok (.iload 4, 2) := by decide +kernel
theorem d_S_formI_18 : decode b_S_formI 18 = .ok (.bipush 20, 2) := by decide +kernel
theorem d_S_formI_20 : decode b_S_formI 20 = .ok (.ishl, 1) := by decide +kernel
theorem d_S_formI_21 : decode b_S_formI 21 = .ok (.ior, 1) := by decide +kernel
theorem d_S_formI_22 : decode b_S_formI 22 = .ok (.ireturn, 1) := by decide +kernel
theorem d_S_formR_0 : decode b_S_formR 0 = .ok (.iload_n 0, 1) := by decide +kernel
theorem d_S_formR_1 : decode b_S_formR 1 = .ok (.iload_n 1, 1) := by decide +kernel
theorem d_S_formR_2 : decode b_S_formR 2 = .ok (.bipush 7, 2) := by decide +kernel
theorem d_S_formR_4 : decode b_S_formR 4 = .ok (.ishl, 1) := by decide +kernel
theorem d_S_formR_5 : decode b_S_formR 5 = .ok (.ior, 1) := by decide +kernel
theorem d_S_formR_6 : decode b_S_formR 6 = .ok (.iload_n 2, 1) := by decide +kernel
theorem d_S_formR_7 : decode b_S_formR 7 = .ok (.bipush 12, 2) := by decide +kernel
theorem d_S_formR_9 : decode b_S_formR 9 = .ok (.ishl, 1) := by decide +kernel
theorem d_S_formR_10 : decode b_S_formR 10 = .ok (.ior, 1) := by decide +kernel
theorem d_S_formR_11 : decode b_S_formR 11 = .ok (.iload_n 3, 1) := by decide +kernel
theorem d_S_formR_12 : decode b_S_formR 12 = .ok (.bipush 15, 2) := by decide +kernel
theorem d_S_formR_14 : decode b_S_formR 14 = .ok (.ishl, 1) := by decide +kernel
theorem d_S_formR_15 : decode b_S_formR 15 = .ok (.ior, 1) := by decide +kernel
theorem d_S_formR_16 : decode b_S_formR 16 = .ok (.iload 4, 2) := by decide +kernel
theorem d_S_formR_18 : decode b_S_formR 18 = .ok (.bipush 20, 2) := by decide +kernel
theorem d_S_formR_20 : decode b_S_formR 20 = .ok (.ishl, 1) := by decide +kernel
theorem d_S_formR_21 : decode b_S_formR 21 = .ok (.ior, 1) := by decide +kernel
theorem d_S_formR_22 : decode b_S_formR 22 = .ok (.iload 5, 2) := by decide +kernel
theorem d_S_formR_24 : decode b_S_formR 24 = .ok (.bipush 25, 2) := by decide +kernel
theorem d_S_formR_26 : decode b_S_formR 26 = .ok (.ishl, 1) := by decide +kernel
theorem d_S_formR_27 : decode b_S_formR 27 = .ok (.ior, 1) := by decide +kernel
theorem d_S_formR_28 : decode b_S_formR 28 = .ok (.ireturn, 1) := by decide +kernel
theorem d_S_formS_0 : decode b_S_formS 0 = .ok (.iload_n 0, 1) := by decide +kernel
theorem d_S_formS_1 : decode b_S_formS 1 = .ok (.iload 4, 2) := by decide +kernel
theorem d_S_formS_3 : decode b_S_formS 3 = .ok (.iconst 4, 1) := by decide +kernel
theorem d_S_formS_4 : decode b_S_formS 4 = .ok (.iconst 0, 1) := by decide +kernel
theorem d_S_formS_5 : decode b_S_formS 5 = .ok (.invokestatic 49, 3) := by decide +kernel
theorem d_S_formS_8 : decode b_S_formS 8 = .ok (.iload_n 1, 1) := by decide +kernel
theorem d_S_formS_9 : decode b_S_formS 9 = .ok (.iload_n 2, 1) := by decide +kernel
theorem d_S_formS_10 : decode b_S_formS 10 = .ok (.iload_n 3, 1) := by decide +kernel
theorem d_S_formS_11 : decode b_S_formS 11 = .ok (.iload 4, 2) := by decide +kernel
theorem d_S_formS_13 : decode b_S_formS 13 = .ok (.bipush 11, 2) := by decide +kernel
theorem d_S_formS_15 : decode b_S_formS 15 = .ok (.iconst 5, 1) := by decide +kernel
theorem d_S_formS_16 : decode b_S_formS 16 = .ok (.invokestatic 49, 3) := by decide +kernel
theorem d_S_formS_19 : decode b_S_formS 19 = .ok (.invokestatic 127, 3) := by decide +kernel
theorem d_S_formS_22 : decode b_S_formS 22 = .ok (.ireturn, 1) := by decide +kernel
theorem d_S_formU_0 : decode b_S_formU 0 = .ok (.iload_n 0, 1) := by decide +kernel
theorem d_S_formU_1 : decode b_S_formU 1 = .ok (.iload_n 1, 1) := by decide +kernel
theorem d_S_formU_2 : decode b_S_formU 2 = .ok (.bipush 7, 2) := by decide +kernel
theorem d_S_formU_4 : decode b_S_formU 4 = .ok (.ishl, 1) := by decide +kernel
theorem d_S_formU_5 : decode b_S_formU 5 = .ok (.ior, 1) := by decide +kernel
theorem d_S_formU_6 : decode b_S_formU 6 = .ok (.iload_n 2, 1) := by decide +kernel
theorem d_S_formU_7 : decode b_S_formU 7 = .ok (.bipush 31, 2) := by decide +kernel
theorem d_S_formU_9 : decode b_S_formU 9 = .ok (.bipush 12, 2) := by decide +kernel
theorem d_S_formU_11 : decode b_S_formU 11 = .ok (.invokestatic 49, 3) := by decide +kernel
theorem d_S_formU_14 : decode b_S_formU 14 = .ok (.bipush 12, 2) := by decide +kernel
theorem d_S_formU_16 : decode b_S_formU 16 = .ok (.ishl, 1) := by decide +kernel
theorem d_S_formU_17 : decode b_S_formU 17 = .ok (.ior, 1) := by decide +kernel
theorem d_S_formU_18 : decode b_S_formU 18 = .ok (.ireturn, 1) := by decide +kernel
theorem d_S_formB_0 : decode b_S_formB 0 = .ok (.iload_n 3, 1) := by decide +kernel
theorem d_S_formB_1 : decode b_S_formB 1 = .ok (.iconst 4, 1) := by decide +kernel
theorem d_S_formB_2 : decode b_S_formB 2 = .ok (.iconst 1, 1) := by decide +kernel
theorem d_S_formB_3 : decode b_S_formB 3 = .ok (.invokestatic 49, 3) := by decide +kernel
theorem d_S_formB_6 : decode b_S_formB 6 = .ok (.iconst 1, 1) := by decide +kernel
theorem d_S_formB_7 : decode b_S_formB 7 = .ok (.ishl, 1) := by decide +kernel
theorem d_S_formB_8 : decode b_S_formB 8 = .ok (.iload_n 3, 1) := by decide +kernel
theorem d_S_formB_9 : decode b_S_formB 9 = .ok (.bipush 11, 2) := by decide +kernel
theorem d_S_formB_11 : decode b_S_formB 11 = .ok (.bipush 11, 2) := by decide +kernel
theorem d_S_formB_13 : decode b_S_formB 13 = .ok (.invokestatic 49, 3) := by decide +kernel
theorem d_S_formB_16 : decode b_S_formB 16 = .ok (.ior, 1) := by decide +kernel
theorem d_S_formB_17 : decode b_S_formB 17 = .ok (.istore 4, 2) := by decide +kernel
theorem d_S_formB_19 : decode b_S_formB 19 = .ok (.iload_n 3, 1) := by decide +kernel
theorem d_S_formB_20 : decode b_S_formB 20 = .ok (.bipush 12, 2) := by decide +kernel
theorem d_S_formB_22 : decode b_S_formB 22 = .ok (.bipush 12, 2) := by decide +kernel
theorem d_S_formB_24 : decode b_S_formB 24 = .ok (.invokestatic 49, 3) := by decide +kernel
theorem d_S_formB_27 : decode b_S_formB 27 = .ok (.bipush 6, 2) := by decide +kernel
theorem d_S_formB_29 : decode b_S_formB 29 = .ok (.ishl, 1) := by decide +kernel
theorem d_S_formB_30 : decode b_S_formB 30 = .ok (.iload_n 3, 1) := by decide +kernel
theorem d_S_formB_31 : decode b_S_formB 31 = .ok (.bipush 10, 2) := by decide +kernel
theorem d_S_formB_33 : decode b_S_formB 33 = .ok (.iconst 5, 1) := by decide +kernel
theorem d_S_formB_34 : decode b_S_formB 34 = .ok (.invokestatic 49, 3) := by decide +kernel
theorem d_S_formB_37 : decode b_S_formB 37 = .ok (.ior, 1) := by decide +kernel
theorem d_S_formB_38 : decode b_S_formB 38 = .ok (.istore 5, 2) := by decide +kernel
theorem d_S_formB_40 : decode b_S_formB 40 = .ok (.bipush 99, 2) := by decide +kernel
theorem d_S_formB_42 : decode b_S_formB 42 = .ok (.iload 4, 2) := by decide +kernel
theorem d_S_formB_44 : decode b_S_formB 44 = .ok (.iload_n 0, 1) := by decide +kernel
theorem d_S_formB_45 : decode b_S_formB 45 = .ok (.iload_n 1, 1) := by decide +kernel
theorem d_S_formB_46 : decode b_S_formB 46 = .ok (.iload_n 2, 1) := by decide +kernel
theorem d_S_formB_47 : decode b_S_formB 47 = .ok (.iload 5, 2) := by decide +kernel
theorem d_S_formB_49 : decode b_S_formB 49 = .ok (.invokestatic 127, 3) := by decide +kernel
theorem d_S_formB_52 : decode b_S_formB 52 = .ok (.ireturn, 1) := by decide +kernel
theorem d_S_formJ_0 : decode b_S_formJ 0 = .ok (.iload_n 1, 1) := by decide +kernel
theorem d_S_formJ_1 : decode b_S_formJ 1 = .ok (.bipush 20, 2) := by decide +kernel
theorem d_S_formJ_3 : decode b_S_formJ 3 = .ok (.bipush 20, 2) := by decide +kernel
theorem d_S_formJ_5 : decode b_S_formJ 5 = .ok (.invokestatic 49, 3) := by decide +kernel
theorem d_S_formJ_8 : decode b_S_formJ 8 = .ok (.bipush 31, 2) := by decide +kernel
theorem d_S_formJ_10 : decode b_S_formJ 10 = .ok (.ishl, 1) := by decide +kernel
theorem d_S_formJ_11 : decode b_S_formJ 11 = .ok (.iload_n 1, 1) := by decide +kernel
theorem d_S_formJ_12 : decode b_S_formJ 12 = .ok (.bipush 10, 2) := by decide +kernel
theorem d_S_formJ_14 : decode b_S_formJ 14 = .ok (.iconst 1, 1) := by decide +kernel
theorem d_S_formJ_15 : decode b_S_formJ 15 = .ok (.invokestatic 49, 3) := by decide +kernel
theorem d_S_formJ_18 : decode b_S_formJ 18 = .ok (.bipush 21, 2) := by decide +kernel
theorem d_S_formJ_20 : decode b_S_formJ 20 = .ok (.ishl, 1) := by decide +kernel
theorem d_S_formJ_21 : decode b_S_formJ 21 = .ok (.ior, 1) := by decide +kernel
theorem d_S_formJ_22 : decode b_S_formJ 22 = .ok (.iload_n 1, 1) := by decide +kernel
theorem d_S_formJ_23 : decode b_S_formJ 23 = .ok (.bipush 11, 2) := by decide +kernel
theorem d_S_formJ_25 : decode b_S_formJ 25 = .ok (.bipush 11, 2) := by decide +kernel
theorem d_S_formJ_27 : decode b_S_formJ 27 = .ok (.invokestatic 49, 3) := by decide +kernel
theorem d_S_formJ_30 : decode b_S_formJ 30 = .ok (.bipush 20, 2) := by decide +kernel
theorem d_S_formJ_32 : decode b_S_formJ 32 = .ok (.ishl, 1) := by decide +kernel
theorem d_S_formJ_33 : decode b_S_formJ 33 = .ok (.ior, 1) := by decide +kernel
theorem d_S_formJ_34 : decode b_S_formJ 34 = .ok (.istore_n 2, 1) := by decide +kernel
theorem d_S_formJ_35 : decode b_S_formJ 35 = .ok (.bipush 111, 2) := by decide +kernel
theorem d_S_formJ_37 : decode b_S_formJ 37 = .ok (.iload_n 0, 1) := by decide +kernel
theorem d_S_formJ_38 : decode b_S_formJ 38 = .ok (.bipush 7, 2) := by decide +kernel
theorem d_S_formJ_40 : decode b_S_formJ 40 = .ok (.ishl, 1) := by decide +kernel
theorem d_S_formJ_41 : decode b_S_formJ 41 = .ok (.ior, 1) := by decide +kernel
theorem d_S_formJ_42 : decode b_S_formJ 42 = .ok (.iload_n 1, 1) := by decide +kernel
theorem d_S_formJ_43 : decode b_S_formJ 43 = .ok (.bipush 19, 2) := by decide +kernel
theorem d_S_formJ_45 : decode b_S_formJ 45 = .ok (.bipush 12, 2) := by decide +kernel
theorem d_S_formJ_47 : decode b_S_formJ 47 = .ok (.invokestatic 49, 3) := by decide +kernel
theorem d_S_formJ_50 : decode b_S_formJ 50 = .ok (.bipush 12, 2) := by decide +kernel
theorem d_S_formJ_52 : decode b_S_formJ 52 = .ok (.ishl, 1) := by decide +kernel
theorem d_S_formJ_53 : decode b_S_formJ 53 = .ok (.ior, 1) := by decide +kernel
theorem d_S_formJ_54 : decode b_S_formJ 54 = .ok (.iload_n 2, 1) := by decide +kernel
theorem d_S_formJ_55 : decode b_S_formJ 55 = .ok (.ior, 1) := by decide +kernel
theorem d_S_formJ_56 : decode b_S_formJ 56 = .ok (.ireturn, 1) := by decide +kernel
theorem d_S_fieldC_0 : decode b_S_fieldC 0 = .ok (.iload_n 0, 1) := by decide +kernel
theorem d_S_fieldC_1 : decode b_S_fieldC 1 = .ok (.bipush 6, 2) := by decide +kernel
theorem d_S_fieldC_3 : decode b_S_fieldC 3 = .ok (.iconst 0, 1) := by decide +kernel
theorem d_S_fieldC_4 : decode b_S_fieldC 4 = .ok (.invokestatic 49, 3) := by decide +kernel
theorem d_S_fieldC_7 : decode b_S_fieldC 7 = .ok (.ireturn, 1) := by decide +kernel
theorem d_S_fieldD_0 : decode b_S_fieldD 0 = .ok (.iload_n 0, 1) := by decide +kernel
theorem d_S_fieldD_1 : decode b_S_fieldD 1 = .ok (.bipush 11, 2) := by decide +kernel
theorem d_S_fieldD_3 : decode b_S_fieldD 3 = .ok (.bipush 7, 2) := by decide +kernel
theorem d_S_fieldD_5 : decode b_S_fieldD 5 = .ok (.invokestatic 49, 3) := by decide +kernel
theorem d_S_fieldD_8 : decode b_S_fieldD 8 = .ok (.ireturn, 1) := by decide +kernel
theorem d_S_fieldF_0 : decode b_S_fieldF 0 = .ok (.iload_n 0, 1) := by decide +kernel
theorem d_S_fieldF_1 : decode b_S_fieldF 1 = .ok (.bipush 14, 2) := by decide +kernel
theorem d_S_fieldF_3 : decode b_S_fieldF 3 = .ok (.bipush 12, 2) := by decide +kernel
theorem d_S_fieldF_5 : decode b_S_fieldF 5 = .ok (.invokestatic 49, 3) := by decide +kernel
theorem d_S_fieldF_8 : decode b_S_fieldF 8 = .ok (.ireturn, 1) := by decide +kernel
theorem d_S_fieldA_0 : decode b_S_fieldA 0 = .ok (.iload_n 0, 1) := by decide +kernel
theorem d_S_fieldA_1 : decode b_S_fieldA 1 = .ok (.bipush 19, 2) := by decide +kernel
theorem d_S_fieldA_3 : decode b_S_fieldA 3 = .ok (.bipush 15, 2) := by decide +kernel
theorem d_S_fieldA_5 : decode b_S_fieldA 5 = .ok (.invokestatic 49, 3) := by decide +kernel
theorem d_S_fieldA_8 : decode b_S_fieldA 8 = .ok (.ireturn, 1) := by decide +kernel
theorem d_S_fieldB_0 : decode b_S_fieldB 0 = .ok (.iload_n 0, 1) := by decide +kernel
theorem d_S_fieldB_1 : decode b_S_fieldB 1 = .ok (.bipush 24, 2) := by decide +kernel
theorem d_S_fieldB_3 : decode b_S_fieldB 3 = .ok (.bipush 20, 2) := by decide +kernel
theorem d_S_fieldB_5 : decode b_S_fieldB 5 = .ok (.invokestatic 49, 3) := by decide +kernel
theorem d_S_fieldB_8 : decode b_S_fieldB 8 = .ok (.ireturn, 1) := by decide +kernel
theorem d_S_fieldG_0 : decode b_S_fieldG 0 = .ok (.iload_n 0, 1) := by decide +kernel
theorem d_S_fieldG_1 : decode b_S_fieldG 1 = .ok (.bipush 31, 2) := by decide +kernel
theorem d_S_fieldG_3 : decode b_S_fieldG 3 = .ok (.bipush 25, 2) := by decide +kernel
theorem d_S_fieldG_5 : decode b_S_fieldG 5 = .ok (.invokestatic 49, 3) := by decide +kernel
theorem d_S_fieldG_8 : decode b_S_fieldG 8 = .ok (.ireturn, 1) := by decide +kernel
theorem d_S_immediateOfI_0 : decode b_S_immediateOfI 0 = .ok (.iload_n 0, 1) := by decide +kernel
theorem d_S_immediateOfI_1 : decode b_S_immediateOfI 1 = .ok (.bipush 31, 2) := by decide +kernel
theorem d_S_immediateOfI_3 : decode b_S_immediateOfI 3 = .ok (.bipush 20, 2) := by decide +kernel
theorem d_S_immediateOfI_5 : decode b_S_immediateOfI 5 = .ok (.invokestatic 49, 3) := by decide +kernel
theorem d_S_immediateOfI_8 : decode b_S_immediateOfI 8 = .ok (.ireturn, 1) := by decide +kernel
theorem d_S_immediateOfS_0 : decode b_S_immediateOfS 0 = .ok (.iload_n 0, 1) := by decide +kernel
theorem d_S_immediateOfS_1 : decode b_S_immediateOfS 1 = .ok (.invokestatic 194, 3) := by decide +kernel
theorem d_S_immediateOfS_4 : decode b_S_immediateOfS 4 = .ok (.iconst 5, 1) := by decide +kernel
theorem d_S_immediateOfS_5 : decode b_S_immediateOfS 5 = .ok (.ishl, 1) := by decide +kernel
theorem d_S_immediateOfS_6 : decode b_S_immediateOfS 6 = .ok (.iload_n 0, 1) := by decide +kernel
theorem d_S_immediateOfS_7 : decode b_S_immediateOfS 7 = .ok (.invokestatic 164, 3) := by decide +kernel
theorem d_S_immediateOfS_10 : decode b_S_immediateOfS 10 = .ok (.ior, 1) := by decide +kernel
theorem d_S_immediateOfS_11 : decode b_S_immediateOfS 11 = .ok (.ireturn, 1) := by decide +kernel
theorem d_S_immediateOfB_0 : decode b_S_immediateOfB 0 = .ok (.iload_n 0, 1) := by decide +kernel
theorem d_S_immediateOfB_1 : decode b_S_immediateOfB 1 = .ok (.bipush 31, 2) := by decide +kernel
theorem d_S_immediateOfB_3 : decode b_S_immediateOfB 3 = .ok (.bipush 31, 2) := by decide +kernel
theorem d_S_immediateOfB_5 : decode b_S_immediateOfB 5 = .ok (.invokestatic 49, 3) := by decide +kernel
theorem d_S_immediateOfB_8 : decode b_S_immediateOfB 8 = .ok (.bipush 12, 2) := by decide +kernel
theorem d_S_immediateOfB_10 : decode b_S_immediateOfB 10 = .ok (.ishl, 1) := by decide +kernel
theorem d_S_immediateOfB_11 : decode b_S_immediateOfB 11 = .ok (.iload_n 0, 1) := by decide +kernel
theorem d_S_immediateOfB_12 : decode b_S_immediateOfB 12 = .ok (.bipush 7, 2) := by decide +kernel
theorem d_S_immediateOfB_14 : decode b_S_immediateOfB 14 = .ok (.bipush 7, 2) := by decide +kernel
theorem d_S_immediateOfB_16 : decode b_S_immediateOfB 16 = .ok (.invokestatic 49, 3) := by decide +kernel
theorem d_S_immediateOfB_19 : decode b_S_immediateOfB 19 = .ok (.bipush 11, 2) := by decide +kernel
theorem d_S_immediateOfB_21 : decode b_S_immediateOfB 21 = .ok (.ishl, 1) := by decide +kernel
theorem d_S_immediateOfB_22 : decode b_S_immediateOfB 22 = .ok (.ior, 1) := by decide +kernel
theorem d_S_immediateOfB_23 : decode b_S_immediateOfB 23 = .ok (.istore_n 1, 1) := by decide +kernel
theorem d_S_immediateOfB_24 : decode b_S_immediateOfB 24 = .ok (.iload_n 1, 1) := by decide +kernel
theorem d_S_immediateOfB_25 : decode b_S_immediateOfB 25 = .ok (.iload_n 0, 1) := by decide +kernel
theorem d_S_immediateOfB_26 : decode b_S_immediateOfB 26 = .ok (.bipush 30, 2) := by decide +kernel
theorem d_S_immediateOfB_28 : decode b_S_immediateOfB 28 = .ok (.bipush 25, 2) := by decide +kernel
theorem d_S_immediateOfB_30 : decode b_S_immediateOfB 30 = .ok (.invokestatic 49, 3) := by decide +kernel
theorem d_S_immediateOfB_33 : decode b_S_immediateOfB 33 = .ok (.iconst 5, 1) := by decide +kernel
theorem d_S_immediateOfB_34 : decode b_S_immediateOfB 34 = .ok (.ishl, 1) := by decide +kernel
theorem d_S_immediateOfB_35 : decode b_S_immediateOfB 35 = .ok (.ior, 1) := by decide +kernel
theorem d_S_immediateOfB_36 : decode b_S_immediateOfB 36 = .ok (.iload_n 0, 1) := by decide +kernel
theorem d_S_immediateOfB_37 : decode b_S_immediateOfB 37 = .ok (.bipush 11, 2) := by decide +kernel
theorem d_S_immediateOfB_39 : decode b_S_immediateOfB 39 = .ok (.bipush 8, 2) := by decide +kernel
theorem d_S_immediateOfB_41 : decode b_S_immediateOfB 41 = .ok (.invokestatic 49, 3) := by decide +kernel
theorem d_S_immediateOfB_44 : decode b_S_immediateOfB 44 = .ok (.iconst 1, 1) := by decide +kernel
theorem d_S_immediateOfB_45 : decode b_S_immediateOfB 45 = .ok (.ishl, 1) := by decide +kernel
theorem d_S_immediateOfB_46 : decode b_S_immediateOfB 46 = .ok (.ior, 1) := by decide +kernel
theorem d_S_immediateOfB_47 : decode b_S_immediateOfB 47 = .ok (.ireturn, 1) := by decide +kernel
theorem d_S_immediateOfJ_0 : decode b_S_immediateOfJ 0 = .ok (.iload_n 0, 1) := by decide +kernel
theorem d_S_immediateOfJ_1 : decode b_S_immediateOfJ 1 = .ok (.bipush 31, 2) := by decide +kernel
theorem d_S_immediateOfJ_3 : decode b_S_immediateOfJ 3 = .ok (.bipush 31, 2) := by decide +kernel
theorem d_S_immediateOfJ_5 : decode b_S_immediateOfJ 5 = .ok (.invokestatic 49, 3) := by decide +kernel
theorem d_S_immediateOfJ_8 : decode b_S_immediateOfJ 8 = .ok (.bipush 20, 2) := by decide +kernel
theorem d_S_immediateOfJ_10 : decode b_S_immediateOfJ 10 = .ok (.ishl, 1) := by decide +kernel
theorem d_S_immediateOfJ_11 : decode b_S_immediateOfJ 11 = .ok (.iload_n 0, 1) := by decide +kernel
theorem d_S_immediateOfJ_12 : decode b_S_immediateOfJ 12 = .ok (.bipush 19, 2) := by decide +kernel
theorem d_S_immediateOfJ_14 : decode b_S_immediateOfJ 14 = .ok (.bipush 12, 2) := by decide +kernel
theorem d_S_immediateOfJ_16 : decode b_S_immediateOfJ 16 = .ok (.invokestatic 49, 3) := by decide +kernel
theorem d_S_immediateOfJ_19 : decode b_S_immediateOfJ 19 = .ok (.bipush 12, 2) := by decide +kernel
theorem d_S_immediateOfJ_21 : decode b_S_immediateOfJ 21 = .ok (.ishl, 1) := by decide +kernel
theorem d_S_immediateOfJ_22 : decode b_S_immediateOfJ 22 = .ok (.ior, 1) := by decide +kernel
theorem d_S_immediateOfJ_23 : decode b_S_immediateOfJ 23 = .ok (.istore_n 1, 1) := by decide +kernel
theorem d_S_immediateOfJ_24 : decode b_S_immediateOfJ 24 = .ok (.iload_n 1, 1) := by decide +kernel
theorem d_S_immediateOfJ_25 : decode b_S_immediateOfJ 25 = .ok (.iload_n 0, 1) := by decide +kernel
theorem d_S_immediateOfJ_26 : decode b_S_immediateOfJ 26 = .ok (.bipush 20, 2) := by decide +kernel
theorem d_S_immediateOfJ_28 : decode b_S_immediateOfJ 28 = .ok (.bipush 20, 2) := by decide +kernel
theorem d_S_immediateOfJ_30 : decode b_S_immediateOfJ 30 = .ok (.invokestatic 49, 3) := by decide +kernel
theorem d_S_immediateOfJ_33 : decode b_S_immediateOfJ 33 = .ok (.bipush 11, 2) := by decide +kernel
theorem d_S_immediateOfJ_35 : decode b_S_immediateOfJ 35 = .ok (.ishl, 1) := by decide +kernel
theorem d_S_immediateOfJ_36 : decode b_S_immediateOfJ 36 = .ok (.ior, 1) := by decide +kernel
theorem d_S_immediateOfJ_37 : decode b_S_immediateOfJ 37 = .ok (.iload_n 0, 1) := by decide +kernel
theorem d_S_immediateOfJ_38 : decode b_S_immediateOfJ 38 = .ok (.bipush 30, 2) := by decide +kernel
theorem d_S_immediateOfJ_40 : decode b_S_immediateOfJ 40 = .ok (.bipush 21, 2) := by decide +kernel
theorem d_S_immediateOfJ_42 : decode b_S_immediateOfJ 42 = .ok (.invokestatic 49, 3) := by decide +kernel
theorem d_S_immediateOfJ_45 : decode b_S_immediateOfJ 45 = .ok (.iconst 1, 1) := by decide +kernel
theorem d_S_immediateOfJ_46 : decode b_S_immediateOfJ 46 = .ok (.ishl, 1) := by decide +kernel
theorem d_S_immediateOfJ_47 : decode b_S_immediateOfJ 47 = .ok (.ior, 1) := by decide +kernel
theorem d_S_immediateOfJ_48 : decode b_S_immediateOfJ 48 = .ok (.ireturn, 1) := by decide +kernel
theorem d_S_bits_0 : decode b_S_bits 0 = .ok (.iload_n 0, 1) := by decide +kernel
theorem d_S_bits_1 : decode b_S_bits 1 = .ok (.iload_n 2, 1) := by decide +kernel
theorem d_S_bits_2 : decode b_S_bits 2 = .ok (.iushr, 1) := by decide +kernel
theorem d_S_bits_3 : decode b_S_bits 3 = .ok (.iconst 1, 1) := by decide +kernel
theorem d_S_bits_4 : decode b_S_bits 4 = .ok (.iload_n 1, 1) := by decide +kernel
theorem d_S_bits_5 : decode b_S_bits 5 = .ok (.iload_n 2, 1) := by decide +kernel
theorem d_S_bits_6 : decode b_S_bits 6 = .ok (.isub, 1) := by decide +kernel
theorem d_S_bits_7 : decode b_S_bits 7 = .ok (.iconst 1, 1) := by decide +kernel
theorem d_S_bits_8 : decode b_S_bits 8 = .ok (.iadd, 1) := by decide +kernel
theorem d_S_bits_9 : decode b_S_bits 9 = .ok (.ishl, 1) := by decide +kernel
theorem d_S_bits_10 : decode b_S_bits 10 = .ok (.iconst 1, 1) := by decide +kernel
theorem d_S_bits_11 : decode b_S_bits 11 = .ok (.isub, 1) := by decide +kernel
theorem d_S_bits_12 : decode b_S_bits 12 = .ok (.iand, 1) := by decide +kernel
theorem d_S_bits_13 : decode b_S_bits 13 = .ok (.ireturn, 1) := by decide +kernel
theorem d_M_init_0 : decode b_M_init 0 = .ok (.aload_n 0, 1) := by decide +kernel
theorem d_M_init_1 : decode b_M_init 1 = .ok (.invokespecial 1, 3) := by decide +kernel
theorem d_M_init_4 : decode b_M_init 4 = .ok (.return_, 1) := by decide +kernel
theorem d_M_thrown_0 : decode b_M_thrown 0 = .ok (.aload_n 0, 1) := by decide +kernel
theorem d_M_thrown_1 : decode b_M_thrown 1 = .ok (.getfield 7, 3) := by decide +kernel
theorem d_M_thrown_4 : decode b_M_thrown 4 = .ok (.ireturn, 1) := by decide +kernel
theorem d_M_bits_0 : decode b_M_bits 0 = .ok (.iconst 0, 1) := by decide +kernel
theorem d_M_bits_1 : decode b_M_bits 1 = .ok (.istore_n 3, 1) := by decide +kernel
theorem d_M_bits_2 : decode b_M_bits 2 = .ok (.iload_n 1, 1) := by decide +kernel
theorem d_M_bits_3 : decode b_M_bits 3 = .ok (.istore 4, 2) := by decide +kernel
theorem d_M_bits_5 : decode b_M_bits 5 = .ok (.iload 4, 2) := by decide +kernel
theorem d_M_bits_7 : decode b_M_bits 7 = .ok (.iload_n 2, 1) := by decide +kernel
theorem d_M_bits_8 : decode b_M_bits 8 = .ok (.if_icmp .lt 23, 3) := by decide +kernel
theorem d_M_bits_11 : decode b_M_bits 11 = .ok (.iconst 2, 1) := by decide +kernel
theorem d_M_bits_12 : decode b_M_bits 12 = .ok (.iload_n 3, 1) := by decide +kernel
theorem d_M_bits_13 : decode b_M_bits 13 = .ok (.imul, 1) := by decide +kernel
theorem d_M_bits_14 : decode b_M_bits 14 = .ok (.aload_n 0, 1) := by decide +kernel
theorem d_M_bits_15 : decode b_M_bits 15 = .ok (.getfield 13, 3) := by decide +kernel
theorem d_M_bits_18 : decode b_M_bits 18 = .ok (.iload 4, 2) := by decide +kernel
theorem d_M_bits_20 : decode b_M_bits 20 = .ok (.ishr, 1) := by decide +kernel
theorem d_M_bits_21 : decode b_M_bits 21 = .ok (.iconst 1, 1) := by decide +kernel
theorem d_M_bits_22 : decode b_M_bits 22 = .ok (.iand, 1) := by decide +kernel
theorem d_M_bits_23 : decode b_M_bits 23 = .ok (.iadd, 1) := by decide +kernel
theorem d_M_bits_24 : decode b_M_bits 24 = .ok (.istore_n 3, 1) := by decide +kernel
theorem d_M_bits_25 : decode b_M_bits 25 = .ok (.iinc 4 (-1), 3) := by decide +kernel
theorem d_M_bits_28 : decode b_M_bits 28 = .ok (.goto (-23), 3) := by decide +kernel
theorem d_M_bits_31 : decode b_M_bits 31 = .ok (.iload_n 3, 1) := by decide +kernel
theorem d_M_bits_32 : decode b_M_bits 32 = .ok (.ireturn, 1) := by decide +kernel
theorem d_M_bit_0 : decode b_M_bit 0 = .ok (.iload_n 0, 1) := by decide +kernel
theorem d_M_bit_1 : decode b_M_bit 1 = .ok (.iload_n 1, 1) := by decide +kernel
theorem d_M_bit_2 : decode b_M_bit 2 = .ok (.ishr, 1) := by decide +kernel
theorem d_M_bit_3 : decode b_M_bit 3 = .ok (.iconst 1, 1) := by decide +kernel
theorem d_M_bit_4 : decode b_M_bit 4 = .ok (.iand, 1) := by decide +kernel
theorem d_M_bit_5 : decode b_M_bit 5 = .ok (.iload_n 2, 1) := by decide +kernel
theorem d_M_bit_6 : decode b_M_bit 6 = .ok (.ishl, 1) := by decide +kernel
theorem d_M_bit_7 : decode b_M_bit 7 = .ok (.ireturn, 1) := by decide +kernel
theorem d_M_wordI_0 : decode b_M_wordI 0 = .ok (.iload_n 0, 1) := by decide +kernel
theorem d_M_wordI_1 : decode b_M_wordI 1 = .ok (.sipush 128, 3) := by decide +kernel
theorem d_M_wordI_4 : decode b_M_wordI 4 = .ok (.iload_n 1, 1) := by decide +kernel
theorem d_M_wordI_5 : decode b_M_wordI 5 = .ok (.imul, 1) := by decide +kernel
theorem d_M_wordI_6 : decode b_M_wordI 6 = .ok (.iadd, 1) := by decide +kernel
theorem d_M_wordI_7 : decode b_M_wordI 7 = .ok (.sipush 4096, 3) := by decide +kernel
theorem d_M_wordI_10 : decode b_M_wordI 10 = .ok (.iload_n 2, 1) := by decide +kernel
theorem d_M_wordI_11 : decode b_M_wordI 11 = .ok (.imul, 1) := by decide +kernel
theorem d_M_wordI_12 : decode b_M_wordI 12 = .ok (.iadd, 1) := by decide +kernel
theorem d_M_wordI_13 : decode b_M_wordI 13 = .ok (.ldc 16, 2) := by decide +kernel
theorem d_M_wordI_15 : decode b_M_wordI 15 = .ok (.iload_n 3, 1) := by decide +kernel
theorem d_M_wordI_16 : decode b_M_wordI 16 = .ok (.imul, 1) := by decide +kernel
theorem d_M_wordI_17 : decode b_M_wordI 17 = .ok (.iadd, 1) := by decide +kernel
theorem d_M_wordI_18 : decode b_M_wordI 18 = .ok (.ldc 17, 2) := by decide +kernel
theorem d_M_wordI_20 : decode b_M_wordI 20 = .ok (.iload 4, 2) := by decide +kernel
theorem d_M_wordI_22 : decode b_M_wordI 22 = .ok (.sipush 4095, 3) := by decide +kernel
theorem d_M_wordI_25 : decode b_M_wordI 25 = .ok (.iand, 1) := by decide +kernel
theorem d_M_wordI_26 : decode b_M_wordI 26 = .ok (.imul, 1) := by decide +kernel
theorem d_M_wordI_27 : decode b_M_wordI 27 = .ok (.iadd, 1) := by decide +kernel
theorem d_M_wordI_28 : decode b_M_wordI 28 = .ok (.ireturn, 1) := by decide +kernel
theorem d_M_wordR_0 : decode b_M_wordR 0 = .ok (.iload_n 0, 1) := by decide +kernel
theorem d_M_wordR_1 : decode b_M_wordR 1 = .ok (.iload_n 1, 1) := by decide +kernel
theorem d_M_wordR_2 : decode b_M_wordR 2 = .ok (.iload_n 2, 1) := by decide +kernel
theorem d_M_wordR_3 : decode b_M_wordR 3 = .ok (.iload_n 3, 1) := by decide +kernel
theorem d_M_wordR_4 : decode b_M_wordR 4 = .ok (.iload 4, 2) := by decide +kernel
theorem d_M_wordR_6 : decode b_M_wordR 6 = .ok (.bipush 32, 2) := by decide +kernel
theorem d_M_wordR_8 : decode b_M_wordR 8 = .ok (.iload 5, 2) := by decide +kernel
theorem d_M_wordR_10 : decode b_M_wordR 10 = .ok (.imul, 1) := by decide +kernel
theorem d_M_wordR_11 : decode b_M_wordR 11 = .ok (.iadd, 1) := by decide +kernel
theorem d_M_wordR_12 : decode b_M_wordR 12 = .ok (.invokestatic 18, 3) := by decide +kernel
theorem d_M_wordR_15 : decode b_M_wordR 15 = .ok (.ireturn, 1) := by decide +kernel
theorem d_M_wordS_0 : decode b_M_wordS 0 = .ok (.iload_n 0, 1) := by decide +kernel
theorem d_M_wordS_1 : decode b_M_wordS 1 = .ok (.sipush 128, 3) := by decide +kernel
theorem d_M_wordS_4 : decode b_M_wordS 4 = .ok (.iload 4, 2) := by decide +kernel
theorem d_M_wordS_6 : decode b_M_wordS 6 = .ok (.bipush 31, 2) := by decide +kernel
theorem d_M_wordS_8 : decode b_M_wordS 8 = .ok (.iand, 1) := by decide +kernel
theorem d_M_wordS_9 : decode b_M_wordS 9 = .ok (.imul, 1) := by decide +kernel
theorem d_M_wordS_10 : decode b_M_wordS 10 = .ok (.iadd, 1) := by decide +kernel
theorem d_M_wordS_11 : decode b_M_wordS 11 = .ok (.sipush 4096, 3) := by decide +kernel
theorem d_M_wordS_14 : decode b_M_wordS 14 = .ok (.iload_n 1, 1) := by decide +kernel
theorem d_M_wordS_15 : decode b_M_wordS 15 = .ok (.imul, 1) := by decide +kernel
theorem d_M_wordS_16 : decode b_M_wordS 16 = .ok (.iadd, 1) := by decide +kernel
theorem d_M_wordS_17 : decode b_M_wordS 17 = .ok (.ldc 16, 2) := by decide +kernel
theorem d_M_wordS_19 : decode b_M_wordS 19 = .ok (.iload_n 2, 1) := by decide +kernel
theorem d_M_wordS_20 : decode b_M_wordS 20 = .ok (.imul, 1) := by decide +kernel
theorem d_M_wordS_21 : decode b_M_wordS 21 = .ok (.iadd, 1) := by decide +kernel
theorem d_M_wordS_22 : decode b_M_wordS 22 = .ok (.ldc 17, 2) := by decide +kernel
theorem d_M_wordS_24 : decode b_M_wordS 24 = .ok (.iload_n 3, 1) := by decide +kernel
theorem d_M_wordS_25 : decode b_M_wordS 25 = .ok (.imul, 1) := by decide +kernel
theorem d_M_wordS_26 : decode b_M_wordS 26 = .ok (.iadd, 1) := by decide +kernel
theorem d_M_wordS_27 : decode b_M_wordS 27 = .ok (.ldc 22, 2) := by decide +kernel
theorem d_M_wordS_29 : decode b_M_wordS 29 = .ok (.iload 4, 2) := by decide +kernel
theorem d_M_wordS_31 : decode b_M_wordS 31 = .ok (.iconst 5, 1) := by decide +kernel
theorem d_M_wordS_32 : decode b_M_wordS 32 = .ok (.ishr, 1) := by decide +kernel
