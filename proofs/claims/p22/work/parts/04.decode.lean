theorem dX0_init_0 : decode cX0_init 0 = .ok (.aload_n 0, 1) := by decide +kernel
theorem dX0_init_1 : decode cX0_init 1 = .ok (.invokespecial 3, 3) := by decide +kernel
theorem dX0_init_4 : decode cX0_init 4 = .ok (.aload_n 0, 1) := by decide +kernel
theorem dX0_init_5 : decode cX0_init 5 = .ok (.iconst 5, 1) := by decide +kernel
theorem dX0_init_6 : decode cX0_init 6 = .ok (.newarray .int, 2) := by decide +kernel
theorem dX0_init_8 : decode cX0_init 8 = .ok (.putfield 9, 3) := by decide +kernel
theorem dX0_init_11 : decode cX0_init 11 = .ok (.aload_n 0, 1) := by decide +kernel
theorem dX0_init_12 : decode cX0_init 12 = .ok (.iconst 5, 1) := by decide +kernel
theorem dX0_init_13 : decode cX0_init 13 = .ok (.newarray .int, 2) := by decide +kernel
theorem dX0_init_15 : decode cX0_init 15 = .ok (.putfield 15, 3) := by decide +kernel
theorem dX0_init_18 : decode cX0_init 18 = .ok (.aload_n 0, 1) := by decide +kernel
theorem dX0_init_19 : decode cX0_init 19 = .ok (.sipush 3050, 3) := by decide +kernel
theorem dX0_init_22 : decode cX0_init 22 = .ok (.newarray .int, 2) := by decide +kernel
theorem dX0_init_24 : decode cX0_init 24 = .ok (.putfield 18, 3) := by decide +kernel
theorem dX0_init_27 : decode cX0_init 27 = .ok (.aload_n 0, 1) := by decide +kernel
theorem dX0_init_28 : decode cX0_init 28 = .ok (.bipush 6, 2) := by decide +kernel
theorem dX0_init_30 : decode cX0_init 30 = .ok (.newarray .int, 2) := by decide +kernel
theorem dX0_init_32 : decode cX0_init 32 = .ok (.putfield 21, 3) := by decide +kernel
theorem dX0_init_35 : decode cX0_init 35 = .ok (.return_, 1) := by decide +kernel
theorem dX0_lookAt_0 : decode cX0_lookAt 0 = .ok (.aload_n 1, 1) := by decide +kernel
theorem dX0_lookAt_1 : decode cX0_lookAt 1 = .ok (.getfield 24, 3) := by decide +kernel
theorem dX0_lookAt_4 : decode cX0_lookAt 4 = .ok (.iconst 0, 1) := by decide +kernel
theorem dX0_lookAt_5 : decode cX0_lookAt 5 = .ok (.aload_n 0, 1) := by decide +kernel
theorem dX0_lookAt_6 : decode cX0_lookAt 6 = .ok (.getfield 9, 3) := by decide +kernel
theorem dX0_lookAt_9 : decode cX0_lookAt 9 = .ok (.iconst 0, 1) := by decide +kernel
theorem dX0_lookAt_10 : decode cX0_lookAt 10 = .ok (.iconst 5, 1) := by decide +kernel
theorem dX0_lookAt_11 : decode cX0_lookAt 11 = .ok (.invokestatic 27, 3) := by decide +kernel
theorem dX0_lookAt_14 : decode cX0_lookAt 14 = .ok (.aload_n 2, 1) := by decide +kernel
theorem dX0_lookAt_15 : decode cX0_lookAt 15 = .ok (.getfield 33, 3) := by decide +kernel
theorem dX0_lookAt_18 : decode cX0_lookAt 18 = .ok (.iconst 0, 1) := by decide +kernel
theorem dX0_lookAt_19 : decode cX0_lookAt 19 = .ok (.aload_n 0, 1) := by decide +kernel
theorem dX0_lookAt_20 : decode cX0_lookAt 20 = .ok (.getfield 15, 3) := by decide +kernel
theorem dX0_lookAt_23 : decode cX0_lookAt 23 = .ok (.iconst 0, 1) := by decide +kernel
theorem dX0_lookAt_24 : decode cX0_lookAt 24 = .ok (.iconst 5, 1) := by decide +kernel
theorem dX0_lookAt_25 : decode cX0_lookAt 25 = .ok (.invokestatic 27, 3) := by decide +kernel
theorem dX0_lookAt_28 : decode cX0_lookAt 28 = .ok (.aload_n 0, 1) := by decide +kernel
theorem dX0_lookAt_29 : decode cX0_lookAt 29 = .ok (.aload_n 1, 1) := by decide +kernel
theorem dX0_lookAt_30 : decode cX0_lookAt 30 = .ok (.getfield 36, 3) := by decide +kernel
theorem dX0_lookAt_33 : decode cX0_lookAt 33 = .ok (.putfield 40, 3) := by decide +kernel
theorem dX0_lookAt_36 : decode cX0_lookAt 36 = .ok (.aload_n 0, 1) := by decide +kernel
theorem dX0_lookAt_37 : decode cX0_lookAt 37 = .ok (.aload_n 1, 1) := by decide +kernel
theorem dX0_lookAt_38 : decode cX0_lookAt 38 = .ok (.getfield 43, 3) := by decide +kernel
theorem dX0_lookAt_41 : decode cX0_lookAt 41 = .ok (.putfield 46, 3) := by decide +kernel
theorem dX0_lookAt_44 : decode cX0_lookAt 44 = .ok (.aload_n 0, 1) := by decide +kernel
theorem dX0_lookAt_45 : decode cX0_lookAt 45 = .ok (.aload_n 1, 1) := by decide +kernel
theorem dX0_lookAt_46 : decode cX0_lookAt 46 = .ok (.getfield 49, 3) := by decide +kernel
theorem dX0_lookAt_49 : decode cX0_lookAt 49 = .ok (.putfield 52, 3) := by decide +kernel
theorem dX0_lookAt_52 : decode cX0_lookAt 52 = .ok (.aload_n 0, 1) := by decide +kernel
theorem dX0_lookAt_53 : decode cX0_lookAt 53 = .ok (.aload_n 1, 1) := by decide +kernel
theorem dX0_lookAt_54 : decode cX0_lookAt 54 = .ok (.getfield 53, 3) := by decide +kernel
theorem dX0_lookAt_57 : decode cX0_lookAt 57 = .ok (.putfield 56, 3) := by decide +kernel
theorem dX0_lookAt_60 : decode cX0_lookAt 60 = .ok (.aload_n 0, 1) := by decide +kernel
theorem dX0_lookAt_61 : decode cX0_lookAt 61 = .ok (.aload_n 0, 1) := by decide +kernel
theorem dX0_lookAt_62 : decode cX0_lookAt 62 = .ok (.getfield 46, 3) := by decide +kernel
theorem dX0_lookAt_65 : decode cX0_lookAt 65 = .ok (.aload_n 0, 1) := by decide +kernel
theorem dX0_lookAt_66 : decode cX0_lookAt 66 = .ok (.getfield 40, 3) := by decide +kernel
theorem dX0_lookAt_69 : decode cX0_lookAt 69 = .ok (.aload_n 2, 1) := by decide +kernel
theorem dX0_lookAt_70 : decode cX0_lookAt 70 = .ok (.aload_n 0, 1) := by decide +kernel
theorem dX0_lookAt_71 : decode cX0_lookAt 71 = .ok (.getfield 40, 3) := by decide +kernel
theorem dX0_lookAt_74 : decode cX0_lookAt 74 = .ok (.aload_n 0, 1) := by decide +kernel
theorem dX0_lookAt_75 : decode cX0_lookAt 75 = .ok (.getfield 52, 3) := by decide +kernel
theorem dX0_lookAt_78 : decode cX0_lookAt 78 = .ok (.invokevirtual 57, 3) := by decide +kernel
theorem dX0_lookAt_81 : decode cX0_lookAt 81 = .ok (.iadd, 1) := by decide +kernel
theorem dX0_lookAt_82 : decode cX0_lookAt 82 = .ok (.invokestatic 61, 3) := by decide +kernel
theorem dX0_lookAt_85 : decode cX0_lookAt 85 = .ok (.putfield 66, 3) := by decide +kernel
theorem dX0_lookAt_88 : decode cX0_lookAt 88 = .ok (.aload_n 0, 1) := by decide +kernel
theorem dX0_lookAt_89 : decode cX0_lookAt 89 = .ok (.aload_n 2, 1) := by decide +kernel
theorem dX0_lookAt_90 : decode cX0_lookAt 90 = .ok (.getfield 69, 3) := by decide +kernel
theorem dX0_lookAt_93 : decode cX0_lookAt 93 = .ok (.putfield 72, 3) := by decide +kernel
theorem dX0_lookAt_96 : decode cX0_lookAt 96 = .ok (.aload_n 0, 1) := by decide +kernel
theorem dX0_lookAt_97 : decode cX0_lookAt 97 = .ok (.aload_n 2, 1) := by decide +kernel
theorem dX0_lookAt_98 : decode cX0_lookAt 98 = .ok (.invokevirtual 75, 3) := by decide +kernel
theorem dX0_lookAt_101 : decode cX0_lookAt 101 = .ok (.putfield 79, 3) := by decide +kernel
theorem dX0_lookAt_104 : decode cX0_lookAt 104 = .ok (.return_, 1) := by decide +kernel
theorem dX0_greatestWorth_0 : decode cX0_greatestWorth 0 = .ok (.aload_n 0, 1) := by decide +kernel
theorem dX0_greatestWorth_1 : decode cX0_greatestWorth 1 = .ok (.iload_n 1, 1) := by decide +kernel
theorem dX0_greatestWorth_2 : decode cX0_greatestWorth 2 = .ok (.invokevirtual 82, 3) := by decide +kernel
theorem dX0_greatestWorth_5 : decode cX0_greatestWorth 5 = .ok (.aload_n 0, 1) := by decide +kernel
theorem dX0_greatestWorth_6 : decode cX0_greatestWorth 6 = .ok (.aload_n 0, 1) := by decide +kernel
theorem dX0_greatestWorth_7 : decode cX0_greatestWorth 7 = .ok (.getfield 40, 3) := by decide +kernel
theorem dX0_greatestWorth_10 : decode cX0_greatestWorth 10 = .ok (.aload_n 0, 1) := by decide +kernel
theorem dX0_greatestWorth_11 : decode cX0_greatestWorth 11 = .ok (.getfield 72, 3) := by decide +kernel
theorem dX0_greatestWorth_14 : decode cX0_greatestWorth 14 = .ok (.aload_n 0, 1) := by decide +kernel
theorem dX0_greatestWorth_15 : decode cX0_greatestWorth 15 = .ok (.getfield 66, 3) := by decide +kernel
theorem dX0_greatestWorth_18 : decode cX0_greatestWorth 18 = .ok (.aload_n 0, 1) := by decide +kernel
theorem dX0_greatestWorth_19 : decode cX0_greatestWorth 19 = .ok (.getfield 40, 3) := by decide +kernel
theorem dX0_greatestWorth_22 : decode cX0_greatestWorth 22 = .ok (.isub, 1) := by decide +kernel
theorem dX0_greatestWorth_23 : decode cX0_greatestWorth 23 = .ok (.aload_n 0, 1) := by decide +kernel
theorem dX0_greatestWorth_24 : decode cX0_greatestWorth 24 = .ok (.getfield 79, 3) := by decide +kernel
theorem dX0_greatestWorth_27 : decode cX0_greatestWorth 27 = .ok (.invokevirtual 86, 3) := by decide +kernel
theorem dX0_greatestWorth_30 : decode cX0_greatestWorth 30 = .ok (.ireturn, 1) := by decide +kernel
theorem dX0_bestStepIn_0 : decode cX0_bestStepIn 0 = .ok (.aload_n 0, 1) := by decide +kernel
theorem dX0_bestStepIn_1 : decode cX0_bestStepIn 1 = .ok (.bipush 60, 2) := by decide +kernel
theorem dX0_bestStepIn_3 : decode cX0_bestStepIn 3 = .ok (.invokevirtual 82, 3) := by decide +kernel
theorem dX0_bestStepIn_6 : decode cX0_bestStepIn 6 = .ok (.aload_n 0, 1) := by decide +kernel
theorem dX0_bestStepIn_7 : decode cX0_bestStepIn 7 = .ok (.getfield 72, 3) := by decide +kernel
theorem dX0_bestStepIn_10 : decode cX0_bestStepIn 10 = .ok (.istore_n 2, 1) := by decide +kernel
theorem dX0_bestStepIn_11 : decode cX0_bestStepIn 11 = .ok (.aload_n 0, 1) := by decide +kernel
theorem dX0_bestStepIn_12 : decode cX0_bestStepIn 12 = .ok (.getfield 79, 3) := by decide +kernel
theorem dX0_bestStepIn_15 : decode cX0_bestStepIn 15 = .ok (.istore_n 3, 1) := by decide +kernel
theorem dX0_bestStepIn_16 : decode cX0_bestStepIn 16 = .ok (.aload_n 0, 1) := by decide +kernel
theorem dX0_bestStepIn_17 : decode cX0_bestStepIn 17 = .ok (.getfield 66, 3) := by decide +kernel
theorem dX0_bestStepIn_20 : decode cX0_bestStepIn 20 = .ok (.istore 4, 2) := by decide +kernel
theorem dX0_bestStepIn_22 : decode cX0_bestStepIn 22 = .ok (.aload_n 0, 1) := by decide +kernel
theorem dX0_bestStepIn_23 : decode cX0_bestStepIn 23 = .ok (.getfield 40, 3) := by decide +kernel
theorem dX0_bestStepIn_26 : decode cX0_bestStepIn 26 = .ok (.istore 5, 2) := by decide +kernel
theorem dX0_bestStepIn_28 : decode cX0_bestStepIn 28 = .ok (.iload 5, 2) := by decide +kernel
theorem dX0_bestStepIn_30 : decode cX0_bestStepIn 30 = .ok (.iload_n 1, 1) := by decide +kernel
theorem dX0_bestStepIn_31 : decode cX0_bestStepIn 31 = .ok (.if_icmp .gt 62, 3) := by decide +kernel
theorem dX0_bestStepIn_34 : decode cX0_bestStepIn 34 = .ok (.iload 5, 2) := by decide +kernel
theorem dX0_bestStepIn_36 : decode cX0_bestStepIn 36 = .ok (.iload 4, 2) := by decide +kernel
theorem dX0_bestStepIn_38 : decode cX0_bestStepIn 38 = .ok (.if_icmp .lt 36, 3) := by decide +kernel
theorem dX0_bestStepIn_41 : decode cX0_bestStepIn 41 = .ok (.aload_n 0, 1) := by decide +kernel
theorem dX0_bestStepIn_42 : decode cX0_bestStepIn 42 = .ok (.iload 5, 2) := by decide +kernel
theorem dX0_bestStepIn_44 : decode cX0_bestStepIn 44 = .ok (.iload_n 2, 1) := by decide +kernel
theorem dX0_bestStepIn_45 : decode cX0_bestStepIn 45 = .ok (.iload_n 3, 1) := by decide +kernel
theorem dX0_bestStepIn_46 : decode cX0_bestStepIn 46 = .ok (.invokevirtual 90, 3) := by decide +kernel
theorem dX0_bestStepIn_49 : decode cX0_bestStepIn 49 = .ok (.istore 6, 2) := by decide +kernel
theorem dX0_bestStepIn_51 : decode cX0_bestStepIn 51 = .ok (.iload 6, 2) := by decide +kernel
theorem dX0_bestStepIn_53 : decode cX0_bestStepIn 53 = .ok (.iload_n 2, 1) := by decide +kernel
theorem dX0_bestStepIn_54 : decode cX0_bestStepIn 54 = .ok (.if_icmp .le 13, 3) := by decide +kernel
theorem dX0_bestStepIn_57 : decode cX0_bestStepIn 57 = .ok (.iload 5, 2) := by decide +kernel
theorem dX0_bestStepIn_59 : decode cX0_bestStepIn 59 = .ok (.aload_n 0, 1) := by decide +kernel
theorem dX0_bestStepIn_60 : decode cX0_bestStepIn 60 = .ok (.getfield 52, 3) := by decide +kernel
theorem dX0_bestStepIn_63 : decode cX0_bestStepIn 63 = .ok (.iadd, 1) := by decide +kernel
theorem dX0_bestStepIn_64 : decode cX0_bestStepIn 64 = .ok (.goto 5, 3) := by decide +kernel
theorem dX0_bestStepIn_67 : decode cX0_bestStepIn 67 = .ok (.iload 4, 2) := by decide +kernel
theorem dX0_bestStepIn_69 : decode cX0_bestStepIn 69 = .ok (.istore 4, 2) := by decide +kernel
theorem dX0_bestStepIn_71 : decode cX0_bestStepIn 71 = .ok (.iload 6, 2) := by decide +kernel
theorem dX0_bestStepIn_73 : decode cX0_bestStepIn 73 = .ok (.istore_n 2, 1) := by decide +kernel
theorem dX0_bestStepIn_74 : decode cX0_bestStepIn 74 = .ok (.iload_n 3, 1) := by decide +kernel
theorem dX0_bestStepIn_75 : decode cX0_bestStepIn 75 = .ok (.iload_n 3, 1) := by decide +kernel
theorem dX0_bestStepIn_76 : decode cX0_bestStepIn 76 = .ok (.aload_n 0, 1) := by decide +kernel
theorem dX0_bestStepIn_77 : decode cX0_bestStepIn 77 = .ok (.getfield 15, 3) := by decide +kernel
theorem dX0_bestStepIn_80 : decode cX0_bestStepIn 80 = .ok (.iload_n 2, 1) := by decide +kernel
theorem dX0_bestStepIn_81 : decode cX0_bestStepIn 81 = .ok (.iaload, 1) := by decide +kernel
theorem dX0_bestStepIn_82 : decode cX0_bestStepIn 82 = .ok (.invokestatic 61, 3) := by decide +kernel
theorem dX0_bestStepIn_85 : decode cX0_bestStepIn 85 = .ok (.isub, 1) := by decide +kernel
theorem dX0_bestStepIn_86 : decode cX0_bestStepIn 86 = .ok (.istore_n 3, 1) := by decide +kernel
theorem dX0_bestStepIn_87 : decode cX0_bestStepIn 87 = .ok (.iinc 5 1, 3) := by decide +kernel
theorem dX0_bestStepIn_90 : decode cX0_bestStepIn 90 = .ok (.goto (-62), 3) := by decide +kernel
theorem dX0_bestStepIn_93 : decode cX0_bestStepIn 93 = .ok (.iload_n 2, 1) := by decide +kernel
theorem dX0_bestStepIn_94 : decode cX0_bestStepIn 94 = .ok (.ireturn, 1) := by decide +kernel
theorem dX0_tellWorths_0 : decode cX0_tellWorths 0 = .ok (.aload_n 0, 1) := by decide +kernel
theorem dX0_tellWorths_1 : decode cX0_tellWorths 1 = .ok (.iload_n 1, 1) := by decide +kernel
theorem dX0_tellWorths_2 : decode cX0_tellWorths 2 = .ok (.putfield 94, 3) := by decide +kernel
theorem dX0_tellWorths_5 : decode cX0_tellWorths 5 = .ok (.aload_n 0, 1) := by decide +kernel
theorem dX0_tellWorths_6 : decode cX0_tellWorths 6 = .ok (.getfield 46, 3) := by decide +kernel
theorem dX0_tellWorths_9 : decode cX0_tellWorths 9 = .ok (.iconst 1, 1) := by decide +kernel
theorem dX0_tellWorths_10 : decode cX0_tellWorths 10 = .ok (.isub, 1) := by decide +kernel
theorem dX0_tellWorths_11 : decode cX0_tellWorths 11 = .ok (.istore_n 2, 1) := by decide +kernel
theorem dX0_tellWorths_12 : decode cX0_tellWorths 12 = .ok (.iload_n 2, 1) := by decide +kernel
theorem dX0_tellWorths_13 : decode cX0_tellWorths 13 = .ok (.aload_n 0, 1) := by decide +kernel
theorem dX0_tellWorths_14 : decode cX0_tellWorths 14 = .ok (.getfield 66, 3) := by decide +kernel
theorem dX0_tellWorths_17 : decode cX0_tellWorths 17 = .ok (.if_icmp .lt 63, 3) := by decide +kernel
theorem dX0_tellWorths_20 : decode cX0_tellWorths 20 = .ok (.aload_n 0, 1) := by decide +kernel
theorem dX0_tellWorths_21 : decode cX0_tellWorths 21 = .ok (.getfield 72, 3) := by decide +kernel
theorem dX0_tellWorths_24 : decode cX0_tellWorths 24 = .ok (.istore_n 3, 1) := by decide +kernel
theorem dX0_tellWorths_25 : decode cX0_tellWorths 25 = .ok (.iload_n 3, 1) := by decide +kernel
theorem dX0_tellWorths_26 : decode cX0_tellWorths 26 = .ok (.iconst 5, 1) := by decide +kernel
theorem dX0_tellWorths_27 : decode cX0_tellWorths 27 = .ok (.if_icmp .ge 47, 3) := by decide +kernel
theorem dX0_tellWorths_30 : decode cX0_tellWorths 30 = .ok (.iconst 0, 1) := by decide +kernel
theorem dX0_tellWorths_31 : decode cX0_tellWorths 31 = .ok (.istore 4, 2) := by decide +kernel
theorem dX0_tellWorths_33 : decode cX0_tellWorths 33 = .ok (.iload 4, 2) := by decide +kernel
theorem dX0_tellWorths_35 : decode cX0_tellWorths 35 = .ok (.aload_n 0, 1) := by decide +kernel
theorem dX0_tellWorths_36 : decode cX0_tellWorths 36 = .ok (.getfield 79, 3) := by decide +kernel
theorem dX0_tellWorths_39 : decode cX0_tellWorths 39 = .ok (.if_icmp .gt 29, 3) := by decide +kernel
theorem dX0_tellWorths_42 : decode cX0_tellWorths 42 = .ok (.aload_n 0, 1) := by decide +kernel
theorem dX0_tellWorths_43 : decode cX0_tellWorths 43 = .ok (.getfield 18, 3) := by decide +kernel
theorem dX0_tellWorths_46 : decode cX0_tellWorths 46 = .ok (.iload_n 2, 1) := by decide +kernel
theorem dX0_tellWorths_47 : decode cX0_tellWorths 47 = .ok (.iload_n 3, 1) := by decide +kernel
theorem dX0_tellWorths_48 : decode cX0_tellWorths 48 = .ok (.iload 4, 2) := by decide +kernel
theorem dX0_tellWorths_50 : decode cX0_tellWorths 50 = .ok (.invokestatic 97, 3) := by decide +kernel
theorem dX0_tellWorths_53 : decode cX0_tellWorths 53 = .ok (.aload_n 0, 1) := by decide +kernel
theorem dX0_tellWorths_54 : decode cX0_tellWorths 54 = .ok (.iload_n 2, 1) := by decide +kernel
theorem dX0_tellWorths_55 : decode cX0_tellWorths 55 = .ok (.iload_n 3, 1) := by decide +kernel
theorem dX0_tellWorths_56 : decode cX0_tellWorths 56 = .ok (.iload 4, 2) := by decide +kernel
theorem dX0_tellWorths_58 : decode cX0_tellWorths 58 = .ok (.invokevirtual 100, 3) := by decide +kernel
theorem dX0_tellWorths_61 : decode cX0_tellWorths 61 = .ok (.iastore, 1) := by decide +kernel
theorem dX0_tellWorths_62 : decode cX0_tellWorths 62 = .ok (.iinc 4 1, 3) := by decide +kernel
theorem dX0_tellWorths_65 : decode cX0_tellWorths 65 = .ok (.goto (-32), 3) := by decide +kernel
theorem dX0_tellWorths_68 : decode cX0_tellWorths 68 = .ok (.iinc 3 1, 3) := by decide +kernel
theorem dX0_tellWorths_71 : decode cX0_tellWorths 71 = .ok (.goto (-46), 3) := by decide +kernel
theorem dX0_tellWorths_74 : decode cX0_tellWorths 74 = .ok (.iinc 2 (-1), 3) := by decide +kernel
theorem dX0_tellWorths_77 : decode cX0_tellWorths 77 = .ok (.goto (-65), 3) := by decide +kernel
theorem dX0_tellWorths_80 : decode cX0_tellWorths 80 = .ok (.return_, 1) := by decide +kernel
theorem dX0_placeOf_0 : decode cX0_placeOf 0 = .ok (.iload_n 0, 1) := by decide +kernel
theorem dX0_placeOf_1 : decode cX0_placeOf 1 = .ok (.iconst 5, 1) := by decide +kernel
theorem dX0_placeOf_2 : decode cX0_placeOf 2 = .ok (.imul, 1) := by decide +kernel
theorem dX0_placeOf_3 : decode cX0_placeOf 3 = .ok (.iload_n 1, 1) := by decide +kernel
theorem dX0_placeOf_4 : decode cX0_placeOf 4 = .ok (.iadd, 1) := by decide +kernel
theorem dX0_placeOf_5 : decode cX0_placeOf 5 = .ok (.bipush 61, 2) := by decide +kernel
theorem dX0_placeOf_7 : decode cX0_placeOf 7 = .ok (.imul, 1) := by decide +kernel
theorem dX0_placeOf_8 : decode cX0_placeOf 8 = .ok (.iload_n 2, 1) := by decide +kernel
theorem dX0_placeOf_9 : decode cX0_placeOf 9 = .ok (.iadd, 1) := by decide +kernel
theorem dX0_placeOf_10 : decode cX0_placeOf 10 = .ok (.ireturn, 1) := by decide +kernel
theorem dX0_worthOfChoosing_0 : decode cX0_worthOfChoosing 0 = .ok (.iconst (-1), 1) := by decide +kernel
theorem dX0_worthOfChoosing_1 : decode cX0_worthOfChoosing 1 = .ok (.istore 4, 2) := by decide +kernel
theorem dX0_worthOfChoosing_3 : decode cX0_worthOfChoosing 3 = .ok (.iload_n 2, 1) := by decide +kernel
theorem dX0_worthOfChoosing_4 : decode cX0_worthOfChoosing 4 = .ok (.istore 5, 2) := by decide +kernel
theorem dX0_worthOfChoosing_6 : decode cX0_worthOfChoosing 6 = .ok (.iload 5, 2) := by decide +kernel
theorem dX0_worthOfChoosing_8 : decode cX0_worthOfChoosing 8 = .ok (.iconst 5, 1) := by decide +kernel
theorem dX0_worthOfChoosing_9 : decode cX0_worthOfChoosing 9 = .ok (.if_icmp .ge 25, 3) := by decide +kernel
theorem dX0_worthOfChoosing_12 : decode cX0_worthOfChoosing 12 = .ok (.iload 4, 2) := by decide +kernel
theorem dX0_worthOfChoosing_14 : decode cX0_worthOfChoosing 14 = .ok (.aload_n 0, 1) := by decide +kernel
theorem dX0_worthOfChoosing_15 : decode cX0_worthOfChoosing 15 = .ok (.iload_n 1, 1) := by decide +kernel
theorem dX0_worthOfChoosing_16 : decode cX0_worthOfChoosing 16 = .ok (.iload_n 2, 1) := by decide +kernel
theorem dX0_worthOfChoosing_17 : decode cX0_worthOfChoosing 17 = .ok (.iload 5, 2) := by decide +kernel
theorem dX0_worthOfChoosing_19 : decode cX0_worthOfChoosing 19 = .ok (.iload_n 3, 1) := by decide +kernel
theorem dX0_worthOfChoosing_20 : decode cX0_worthOfChoosing 20 = .ok (.invokevirtual 103, 3) := by decide +kernel
theorem dX0_worthOfChoosing_23 : decode cX0_worthOfChoosing 23 = .ok (.invokestatic 106, 3) := by decide +kernel
theorem dX0_worthOfChoosing_26 : decode cX0_worthOfChoosing 26 = .ok (.istore 4, 2) := by decide +kernel
theorem dX0_worthOfChoosing_28 : decode cX0_worthOfChoosing 28 = .ok (.iinc 5 1, 3) := by decide +kernel
theorem dX0_worthOfChoosing_31 : decode cX0_worthOfChoosing 31 = .ok (.goto (-25), 3) := by decide +kernel
theorem dX0_worthOfChoosing_34 : decode cX0_worthOfChoosing 34 = .ok (.iload 4, 2) := by decide +kernel
theorem dX0_worthOfChoosing_36 : decode cX0_worthOfChoosing 36 = .ok (.ireturn, 1) := by decide +kernel
theorem dX0_lowestBestStep_0 : decode cX0_lowestBestStep 0 = .ok (.aload_n 0, 1) := by decide +kernel
theorem dX0_lowestBestStep_1 : decode cX0_lowestBestStep 1 = .ok (.iload_n 1, 1) := by decide +kernel
theorem dX0_lowestBestStep_2 : decode cX0_lowestBestStep 2 = .ok (.iload_n 2, 1) := by decide +kernel
theorem dX0_lowestBestStep_3 : decode cX0_lowestBestStep 3 = .ok (.iload_n 3, 1) := by decide +kernel
theorem dX0_lowestBestStep_4 : decode cX0_lowestBestStep 4 = .ok (.invokevirtual 109, 3) := by decide +kernel
theorem dX0_lowestBestStep_7 : decode cX0_lowestBestStep 7 = .ok (.istore 4, 2) := by decide +kernel
theorem dX0_lowestBestStep_9 : decode cX0_lowestBestStep 9 = .ok (.iload_n 2, 1) := by decide +kernel
theorem dX0_lowestBestStep_10 : decode cX0_lowestBestStep 10 = .ok (.istore 5, 2) := by decide +kernel
theorem dX0_lowestBestStep_12 : decode cX0_lowestBestStep 12 = .ok (.iload 5, 2) := by decide +kernel
theorem dX0_lowestBestStep_14 : decode cX0_lowestBestStep 14 = .ok (.iconst 5, 1) := by decide +kernel
theorem dX0_lowestBestStep_15 : decode cX0_lowestBestStep 15 = .ok (.if_icmp .ge 26, 3) := by decide +kernel
theorem dX0_lowestBestStep_18 : decode cX0_lowestBestStep 18 = .ok (.aload_n 0, 1) := by decide +kernel
theorem dX0_lowestBestStep_19 : decode cX0_lowestBestStep 19 = .ok (.iload_n 1, 1) := by decide +kernel
theorem dX0_lowestBestStep_20 : decode cX0_lowestBestStep 20 = .ok (.iload_n 2, 1) := by decide +kernel
theorem dX0_lowestBestStep_21 : decode cX0_lowestBestStep 21 = .ok (.iload 5, 2) := by decide +kernel
theorem dX0_lowestBestStep_23 : decode cX0_lowestBestStep 23 = .ok (.iload_n 3, 1) := by decide +kernel
theorem dX0_lowestBestStep_24 : decode cX0_lowestBestStep 24 = .ok (.invokevirtual 103, 3) := by decide +kernel
theorem dX0_lowestBestStep_27 : decode cX0_lowestBestStep 27 = .ok (.iload 4, 2) := by decide +kernel
theorem dX0_lowestBestStep_29 : decode cX0_lowestBestStep 29 = .ok (.if_icmp .ne 6, 3) := by decide +kernel
theorem dX0_lowestBestStep_32 : decode cX0_lowestBestStep 32 = .ok (.iload 5, 2) := by decide +kernel
theorem dX0_lowestBestStep_34 : decode cX0_lowestBestStep 34 = .ok (.ireturn, 1) := by decide +kernel
theorem dX0_lowestBestStep_35 : decode cX0_lowestBestStep 35 = .ok (.iinc 5 1, 3) := by decide +kernel
theorem dX0_lowestBestStep_38 : decode cX0_lowestBestStep 38 = .ok (.goto (-26), 3) := by decide +kernel
theorem dX0_lowestBestStep_41 : decode cX0_lowestBestStep 41 = .ok (.iload_n 2, 1) := by decide +kernel
theorem dX0_lowestBestStep_42 : decode cX0_lowestBestStep 42 = .ok (.ireturn, 1) := by decide +kernel
theorem dX0_worthOfTaking_0 : decode cX0_worthOfTaking 0 = .ok (.aload_n 0, 1) := by decide +kernel
theorem dX0_worthOfTaking_1 : decode cX0_worthOfTaking 1 = .ok (.iload_n 1, 1) := by decide +kernel
theorem dX0_worthOfTaking_2 : decode cX0_worthOfTaking 2 = .ok (.iload_n 3, 1) := by decide +kernel
theorem dX0_worthOfTaking_3 : decode cX0_worthOfTaking 3 = .ok (.iload_n 3, 1) := by decide +kernel
theorem dX0_worthOfTaking_4 : decode cX0_worthOfTaking 4 = .ok (.iload_n 2, 1) := by decide +kernel
theorem dX0_worthOfTaking_5 : decode cX0_worthOfTaking 5 = .ok (.if_icmp .le 10, 3) := by decide +kernel
theorem dX0_worthOfTaking_8 : decode cX0_worthOfTaking 8 = .ok (.aload_n 0, 1) := by decide +kernel
theorem dX0_worthOfTaking_9 : decode cX0_worthOfTaking 9 = .ok (.getfield 52, 3) := by decide +kernel
theorem dX0_worthOfTaking_12 : decode cX0_worthOfTaking 12 = .ok (.goto 4, 3) := by decide +kernel
theorem dX0_worthOfTaking_15 : decode cX0_worthOfTaking 15 = .ok (.iconst 1, 1) := by decide +kernel
theorem dX0_worthOfTaking_16 : decode cX0_worthOfTaking 16 = .ok (.iload 4, 2) := by decide +kernel
theorem dX0_worthOfTaking_18 : decode cX0_worthOfTaking 18 = .ok (.invokevirtual 86, 3) := by decide +kernel
theorem dX0_worthOfTaking_21 : decode cX0_worthOfTaking 21 = .ok (.ireturn, 1) := by decide +kernel
theorem dX0_worthOfKeeping_0 : decode cX0_worthOfKeeping 0 = .ok (.iload_n 3, 1) := by decide +kernel
theorem dX0_worthOfKeeping_1 : decode cX0_worthOfKeeping 1 = .ok (.aload_n 0, 1) := by decide +kernel
theorem dX0_worthOfKeeping_2 : decode cX0_worthOfKeeping 2 = .ok (.getfield 46, 3) := by decide +kernel
theorem dX0_worthOfKeeping_5 : decode cX0_worthOfKeeping 5 = .ok (.iload_n 1, 1) := by decide +kernel
theorem dX0_worthOfKeeping_6 : decode cX0_worthOfKeeping 6 = .ok (.isub, 1) := by decide +kernel
theorem dX0_worthOfKeeping_7 : decode cX0_worthOfKeeping 7 = .ok (.invokestatic 61, 3) := by decide +kernel
theorem dX0_worthOfKeeping_10 : decode cX0_worthOfKeeping 10 = .ok (.istore 5, 2) := by decide +kernel
theorem dX0_worthOfKeeping_12 : decode cX0_worthOfKeeping 12 = .ok (.iload 4, 2) := by decide +kernel
theorem dX0_worthOfKeeping_14 : decode cX0_worthOfKeeping 14 = .ok (.iload 5, 2) := by decide +kernel
theorem dX0_worthOfKeeping_16 : decode cX0_worthOfKeeping 16 = .ok (.aload_n 0, 1) := by decide +kernel
theorem dX0_worthOfKeeping_17 : decode cX0_worthOfKeeping 17 = .ok (.getfield 15, 3) := by decide +kernel
theorem dX0_worthOfKeeping_20 : decode cX0_worthOfKeeping 20 = .ok (.iload_n 2, 1) := by decide +kernel
theorem dX0_worthOfKeeping_21 : decode cX0_worthOfKeeping 21 = .ok (.iaload, 1) := by decide +kernel
theorem dX0_worthOfKeeping_22 : decode cX0_worthOfKeeping 22 = .ok (.imul, 1) := by decide +kernel
theorem dX0_worthOfKeeping_23 : decode cX0_worthOfKeeping 23 = .ok (.invokestatic 61, 3) := by decide +kernel
theorem dX0_worthOfKeeping_26 : decode cX0_worthOfKeeping 26 = .ok (.istore 6, 2) := by decide +kernel
theorem dX0_worthOfKeeping_28 : decode cX0_worthOfKeeping 28 = .ok (.aload_n 0, 1) := by decide +kernel
theorem dX0_worthOfKeeping_29 : decode cX0_worthOfKeeping 29 = .ok (.iload_n 1, 1) := by decide +kernel
theorem dX0_worthOfKeeping_30 : decode cX0_worthOfKeeping 30 = .ok (.iload 5, 2) := by decide +kernel
theorem dX0_worthOfKeeping_32 : decode cX0_worthOfKeeping 32 = .ok (.iadd, 1) := by decide +kernel
theorem dX0_worthOfKeeping_33 : decode cX0_worthOfKeeping 33 = .ok (.iload_n 2, 1) := by decide +kernel
theorem dX0_worthOfKeeping_34 : decode cX0_worthOfKeeping 34 = .ok (.iload 4, 2) := by decide +kernel
theorem dX0_worthOfKeeping_36 : decode cX0_worthOfKeeping 36 = .ok (.iload 6, 2) := by decide +kernel
theorem dX0_worthOfKeeping_38 : decode cX0_worthOfKeeping 38 = .ok (.isub, 1) := by decide +kernel
theorem dX0_worthOfKeeping_39 : decode cX0_worthOfKeeping 39 = .ok (.invokevirtual 109, 3) := by decide +kernel
theorem dX0_worthOfKeeping_42 : decode cX0_worthOfKeeping 42 = .ok (.istore 7, 2) := by decide +kernel
theorem dX0_worthOfKeeping_44 : decode cX0_worthOfKeeping 44 = .ok (.iload 7, 2) := by decide +kernel
theorem dX0_worthOfKeeping_46 : decode cX0_worthOfKeeping 46 = .ok (.iconst (-1), 1) := by decide +kernel
theorem dX0_worthOfKeeping_47 : decode cX0_worthOfKeeping 47 = .ok (.if_icmp .ne 7, 3) := by decide +kernel
theorem dX0_worthOfKeeping_50 : decode cX0_worthOfKeeping 50 = .ok (.iconst (-1), 1) := by decide +kernel
theorem dX0_worthOfKeeping_51 : decode cX0_worthOfKeeping 51 = .ok (.goto 15, 3) := by decide +kernel
theorem dX0_worthOfKeeping_54 : decode cX0_worthOfKeeping 54 = .ok (.iload 6, 2) := by decide +kernel
theorem dX0_worthOfKeeping_56 : decode cX0_worthOfKeeping 56 = .ok (.aload_n 0, 1) := by decide +kernel
theorem dX0_worthOfKeeping_57 : decode cX0_worthOfKeeping 57 = .ok (.getfield 9, 3) := by decide +kernel
theorem dX0_worthOfKeeping_60 : decode cX0_worthOfKeeping 60 = .ok (.iload_n 2, 1) := by decide +kernel
theorem dX0_worthOfKeeping_61 : decode cX0_worthOfKeeping 61 = .ok (.iaload, 1) := by decide +kernel
theorem dX0_worthOfKeeping_62 : decode cX0_worthOfKeeping 62 = .ok (.imul, 1) := by decide +kernel
theorem dX0_worthOfKeeping_63 : decode cX0_worthOfKeeping 63 = .ok (.iload 7, 2) := by decide +kernel
theorem dX0_worthOfKeeping_65 : decode cX0_worthOfKeeping 65 = .ok (.iadd, 1) := by decide +kernel
theorem dX0_worthOfKeeping_66 : decode cX0_worthOfKeeping 66 = .ok (.ireturn, 1) := by decide +kernel
theorem dX0_worthFrom_0 : decode cX0_worthFrom 0 = .ok (.iload_n 1, 1) := by decide +kernel
theorem dX0_worthFrom_1 : decode cX0_worthFrom 1 = .ok (.aload_n 0, 1) := by decide +kernel
theorem dX0_worthFrom_2 : decode cX0_worthFrom 2 = .ok (.getfield 46, 3) := by decide +kernel
theorem dX0_worthFrom_5 : decode cX0_worthFrom 5 = .ok (.if_icmp .ge 15, 3) := by decide +kernel
theorem dX0_worthFrom_8 : decode cX0_worthFrom 8 = .ok (.aload_n 0, 1) := by decide +kernel
theorem dX0_worthFrom_9 : decode cX0_worthFrom 9 = .ok (.getfield 18, 3) := by decide +kernel
theorem dX0_worthFrom_12 : decode cX0_worthFrom 12 = .ok (.iload_n 1, 1) := by decide +kernel
theorem dX0_worthFrom_13 : decode cX0_worthFrom 13 = .ok (.iload_n 2, 1) := by decide +kernel
theorem dX0_worthFrom_14 : decode cX0_worthFrom 14 = .ok (.iload_n 3, 1) := by decide +kernel
theorem dX0_worthFrom_15 : decode cX0_worthFrom 15 = .ok (.invokestatic 97, 3) := by decide +kernel
theorem dX0_worthFrom_18 : decode cX0_worthFrom 18 = .ok (.iaload, 1) := by decide +kernel
theorem dX0_worthFrom_19 : decode cX0_worthFrom 19 = .ok (.ireturn, 1) := by decide +kernel
theorem dX0_worthFrom_20 : decode cX0_worthFrom 20 = .ok (.iload_n 3, 1) := by decide +kernel
theorem dX0_worthFrom_21 : decode cX0_worthFrom 21 = .ok (.aload_n 0, 1) := by decide +kernel
theorem dX0_worthFrom_22 : decode cX0_worthFrom 22 = .ok (.getfield 94, 3) := by decide +kernel
theorem dX0_worthFrom_25 : decode cX0_worthFrom 25 = .ok (.if_icmp .le 7, 3) := by decide +kernel
theorem dX0_worthFrom_28 : decode cX0_worthFrom 28 = .ok (.iconst (-1), 1) := by decide +kernel
theorem dX0_worthFrom_29 : decode cX0_worthFrom 29 = .ok (.goto 9, 3) := by decide +kernel
theorem dX0_worthFrom_32 : decode cX0_worthFrom 32 = .ok (.iload_n 3, 1) := by decide +kernel
theorem dX0_worthFrom_33 : decode cX0_worthFrom 33 = .ok (.aload_n 0, 1) := by decide +kernel
theorem dX0_worthFrom_34 : decode cX0_worthFrom 34 = .ok (.getfield 56, 3) := by decide +kernel
theorem dX0_worthFrom_37 : decode cX0_worthFrom 37 = .ok (.imul, 1) := by decide +kernel
theorem dX0_worthFrom_38 : decode cX0_worthFrom 38 = .ok (.ireturn, 1) := by decide +kernel
theorem dX1_init_0 : decode cX1_init 0 = .ok (.aload_n 0, 1) := by decide +kernel
theorem dX1_init_1 : decode cX1_init 1 = .ok (.invokespecial 3, 3) := by decide +kernel
theorem dX1_init_4 : decode cX1_init 4 = .ok (.aload_n 0, 1) := by decide +kernel
theorem dX1_init_5 : decode cX1_init 5 = .ok (.iconst 5, 1) := by decide +kernel
theorem dX1_init_6 : decode cX1_init 6 = .ok (.newarray .int, 2) := by decide +kernel
theorem dX1_init_8 : decode cX1_init 8 = .ok (.putfield 9, 3) := by decide +kernel
theorem dX1_init_11 : decode cX1_init 11 = .ok (.aload_n 0, 1) := by decide +kernel
theorem dX1_init_12 : decode cX1_init 12 = .ok (.bipush 8, 2) := by decide +kernel
theorem dX1_init_14 : decode cX1_init 14 = .ok (.putfield 15, 3) := by decide +kernel
theorem dX1_init_17 : decode cX1_init 17 = .ok (.aload_n 0, 1) := by decide +kernel
theorem dX1_init_18 : decode cX1_init 18 = .ok (.iconst 2, 1) := by decide +kernel
theorem dX1_init_19 : decode cX1_init 19 = .ok (.putfield 19, 3) := by decide +kernel
theorem dX1_init_22 : decode cX1_init 22 = .ok (.iconst 0, 1) := by decide +kernel
theorem dX1_init_23 : decode cX1_init 23 = .ok (.istore_n 1, 1) := by decide +kernel
theorem dX1_init_24 : decode cX1_init 24 = .ok (.iload_n 1, 1) := by decide +kernel
theorem dX1_init_25 : decode cX1_init 25 = .ok (.iconst 5, 1) := by decide +kernel
theorem dX1_init_26 : decode cX1_init 26 = .ok (.if_icmp .ge 17, 3) := by decide +kernel
theorem dX1_init_29 : decode cX1_init 29 = .ok (.aload_n 0, 1) := by decide +kernel
theorem dX1_init_30 : decode cX1_init 30 = .ok (.getfield 9, 3) := by decide +kernel
theorem dX1_init_33 : decode cX1_init 33 = .ok (.iload_n 1, 1) := by decide +kernel
theorem dX1_init_34 : decode cX1_init 34 = .ok (.bipush 100, 2) := by decide +kernel
theorem dX1_init_36 : decode cX1_init 36 = .ok (.iastore, 1) := by decide +kernel
theorem dX1_init_37 : decode cX1_init 37 = .ok (.iinc 1 1, 3) := by decide +kernel
theorem dX1_init_40 : decode cX1_init 40 = .ok (.goto (-16), 3) := by decide +kernel
theorem dX1_init_43 : decode cX1_init 43 = .ok (.return_, 1) := by decide +kernel
theorem dX1_startAnew_0 : decode cX1_startAnew 0 = .ok (.aload_n 0, 1) := by decide +kernel
theorem dX1_startAnew_1 : decode cX1_startAnew 1 = .ok (.iload_n 1, 1) := by decide +kernel
theorem dX1_startAnew_2 : decode cX1_startAnew 2 = .ok (.putfield 15, 3) := by decide +kernel
theorem dX1_startAnew_5 : decode cX1_startAnew 5 = .ok (.aload_n 0, 1) := by decide +kernel
theorem dX1_startAnew_6 : decode cX1_startAnew 6 = .ok (.iconst 0, 1) := by decide +kernel
theorem dX1_startAnew_7 : decode cX1_startAnew 7 = .ok (.putfield 22, 3) := by decide +kernel
theorem dX1_startAnew_10 : decode cX1_startAnew 10 = .ok (.aload_n 0, 1) := by decide +kernel
theorem dX1_startAnew_11 : decode cX1_startAnew 11 = .ok (.iconst 0, 1) := by decide +kernel
theorem dX1_startAnew_12 : decode cX1_startAnew 12 = .ok (.putfield 25, 3) := by decide +kernel
theorem dX1_startAnew_15 : decode cX1_startAnew 15 = .ok (.return_, 1) := by decide +kernel
theorem dX1_keepsLadderDown_0 : decode cX1_keepsLadderDown 0 = .ok (.iload_n 1, 1) := by decide +kernel
theorem dX1_keepsLadderDown_1 : decode cX1_keepsLadderDown 1 = .ok (.ifCond .le 15, 3) := by decide +kernel
theorem dX1_keepsLadderDown_4 : decode cX1_keepsLadderDown 4 = .ok (.iload_n 2, 1) := by decide +kernel
theorem dX1_keepsLadderDown_5 : decode cX1_keepsLadderDown 5 = .ok (.aload_n 0, 1) := by decide +kernel
theorem dX1_keepsLadderDown_6 : decode cX1_keepsLadderDown 6 = .ok (.getfield 9, 3) := by decide +kernel
theorem dX1_keepsLadderDown_9 : decode cX1_keepsLadderDown 9 = .ok (.iload_n 1, 1) := by decide +kernel
theorem dX1_keepsLadderDown_10 : decode cX1_keepsLadderDown 10 = .ok (.iconst 1, 1) := by decide +kernel
theorem dX1_keepsLadderDown_11 : decode cX1_keepsLadderDown 11 = .ok (.isub, 1) := by decide +kernel
theorem dX1_keepsLadderDown_12 : decode cX1_keepsLadderDown 12 = .ok (.iaload, 1) := by decide +kernel
theorem dX1_keepsLadderDown_13 : decode cX1_keepsLadderDown 13 = .ok (.if_icmp .gt 7, 3) := by decide +kernel
theorem dX1_keepsLadderDown_16 : decode cX1_keepsLadderDown 16 = .ok (.iconst 1, 1) := by decide +kernel
theorem dX1_keepsLadderDown_17 : decode cX1_keepsLadderDown 17 = .ok (.goto 4, 3) := by decide +kernel
theorem dX1_keepsLadderDown_20 : decode cX1_keepsLadderDown 20 = .ok (.iconst 0, 1) := by decide +kernel
theorem dX1_keepsLadderDown_21 : decode cX1_keepsLadderDown 21 = .ok (.istore_n 3, 1) := by decide +kernel
theorem dX1_keepsLadderDown_22 : decode cX1_keepsLadderDown 22 = .ok (.iload_n 1, 1) := by decide +kernel
theorem dX1_keepsLadderDown_23 : decode cX1_keepsLadderDown 23 = .ok (.iconst 4, 1) := by decide +kernel
theorem dX1_keepsLadderDown_24 : decode cX1_keepsLadderDown 24 = .ok (.if_icmp .ge 15, 3) := by decide +kernel
theorem dX1_keepsLadderDown_27 : decode cX1_keepsLadderDown 27 = .ok (.iload_n 2, 1) := by decide +kernel
theorem dX1_keepsLadderDown_28 : decode cX1_keepsLadderDown 28 = .ok (.aload_n 0, 1) := by decide +kernel
theorem dX1_keepsLadderDown_29 : decode cX1_keepsLadderDown 29 = .ok (.getfield 9, 3) := by decide +kernel
theorem dX1_keepsLadderDown_32 : decode cX1_keepsLadderDown 32 = .ok (.iload_n 1, 1) := by decide +kernel
theorem dX1_keepsLadderDown_33 : decode cX1_keepsLadderDown 33 = .ok (.iconst 1, 1) := by decide +kernel
theorem dX1_keepsLadderDown_34 : decode cX1_keepsLadderDown 34 = .ok (.iadd, 1) := by decide +kernel
theorem dX1_keepsLadderDown_35 : decode cX1_keepsLadderDown 35 = .ok (.iaload, 1) := by decide +kernel
theorem dX1_keepsLadderDown_36 : decode cX1_keepsLadderDown 36 = .ok (.if_icmp .lt 7, 3) := by decide +kernel
theorem dX1_keepsLadderDown_39 : decode cX1_keepsLadderDown 39 = .ok (.iconst 1, 1) := by decide +kernel
theorem dX1_keepsLadderDown_40 : decode cX1_keepsLadderDown 40 = .ok (.goto 4, 3) := by decide +kernel
theorem dX1_keepsLadderDown_43 : decode cX1_keepsLadderDown 43 = .ok (.iconst 0, 1) := by decide +kernel
theorem dX1_keepsLadderDown_44 : decode cX1_keepsLadderDown 44 = .ok (.istore 4, 2) := by decide +kernel
theorem dX1_keepsLadderDown_46 : decode cX1_keepsLadderDown 46 = .ok (.iload_n 3, 1) := by decide +kernel
theorem dX1_keepsLadderDown_47 : decode cX1_keepsLadderDown 47 = .ok (.ifCond .eq 12, 3) := by decide +kernel
theorem dX1_keepsLadderDown_50 : decode cX1_keepsLadderDown 50 = .ok (.iload 4, 2) := by decide +kernel
theorem dX1_keepsLadderDown_52 : decode cX1_keepsLadderDown 52 = .ok (.ifCond .eq 7, 3) := by decide +kernel
theorem dX1_keepsLadderDown_55 : decode cX1_keepsLadderDown 55 = .ok (.iconst 1, 1) := by decide +kernel
theorem dX1_keepsLadderDown_56 : decode cX1_keepsLadderDown 56 = .ok (.goto 4, 3) := by decide +kernel
theorem dX1_keepsLadderDown_59 : decode cX1_keepsLadderDown 59 = .ok (.iconst 0, 1) := by decide +kernel
theorem dX1_keepsLadderDown_60 : decode cX1_keepsLadderDown 60 = .ok (.ireturn, 1) := by decide +kernel
theorem dX2_init_0 : decode cX2_init 0 = .ok (.aload_n 0, 1) := by decide +kernel
theorem dX2_init_1 : decode cX2_init 1 = .ok (.invokespecial 3, 3) := by decide +kernel
theorem dX2_init_4 : decode cX2_init 4 = .ok (.aload_n 0, 1) := by decide +kernel
theorem dX2_init_5 : decode cX2_init 5 = .ok (.iconst 5, 1) := by decide +kernel
theorem dX2_init_6 : decode cX2_init 6 = .ok (.newarray .int, 2) := by decide +kernel
theorem dX2_init_8 : decode cX2_init 8 = .ok (.putfield 9, 3) := by decide +kernel
theorem dX2_init_11 : decode cX2_init 11 = .ok (.aload_n 0, 1) := by decide +kernel
theorem dX2_init_12 : decode cX2_init 12 = .ok (.iconst 3, 1) := by decide +kernel
theorem dX2_init_13 : decode cX2_init 13 = .ok (.newarray .int, 2) := by decide +kernel
theorem dX2_init_15 : decode cX2_init 15 = .ok (.putfield 15, 3) := by decide +kernel
theorem dX2_init_18 : decode cX2_init 18 = .ok (.aload_n 0, 1) := by decide +kernel
theorem dX2_init_19 : decode cX2_init 19 = .ok (.iconst (-1), 1) := by decide +kernel
theorem dX2_init_20 : decode cX2_init 20 = .ok (.putfield 18, 3) := by decide +kernel
theorem dX2_init_23 : decode cX2_init 23 = .ok (.return_, 1) := by decide +kernel
theorem dX2_startAnew_0 : decode cX2_startAnew 0 = .ok (.aload_n 0, 1) := by decide +kernel
theorem dX2_startAnew_1 : decode cX2_startAnew 1 = .ok (.iconst 0, 1) := by decide +kernel
theorem dX2_startAnew_2 : decode cX2_startAnew 2 = .ok (.putfield 22, 3) := by decide +kernel
theorem dX2_startAnew_5 : decode cX2_startAnew 5 = .ok (.aload_n 0, 1) := by decide +kernel
theorem dX2_startAnew_6 : decode cX2_startAnew 6 = .ok (.iconst (-1), 1) := by decide +kernel
theorem dX2_startAnew_7 : decode cX2_startAnew 7 = .ok (.putfield 18, 3) := by decide +kernel
theorem dX2_startAnew_10 : decode cX2_startAnew 10 = .ok (.aload_n 0, 1) := by decide +kernel
theorem dX2_startAnew_11 : decode cX2_startAnew 11 = .ok (.iconst 0, 1) := by decide +kernel
theorem dX2_startAnew_12 : decode cX2_startAnew 12 = .ok (.putfield 25, 3) := by decide +kernel
theorem dX2_startAnew_15 : decode cX2_startAnew 15 = .ok (.return_, 1) := by decide +kernel
theorem dX2_waitFrom_0 : decode cX2_waitFrom 0 = .ok (.aload_n 0, 1) := by decide +kernel
theorem dX2_waitFrom_1 : decode cX2_waitFrom 1 = .ok (.getfield 18, 3) := by decide +kernel
theorem dX2_waitFrom_4 : decode cX2_waitFrom 4 = .ok (.iconst (-1), 1) := by decide +kernel
theorem dX2_waitFrom_5 : decode cX2_waitFrom 5 = .ok (.if_icmp .ne 7, 3) := by decide +kernel
theorem dX2_waitFrom_8 : decode cX2_waitFrom 8 = .ok (.iconst 0, 1) := by decide +kernel
theorem dX2_waitFrom_9 : decode cX2_waitFrom 9 = .ok (.goto 15, 3) := by decide +kernel
theorem dX2_waitFrom_12 : decode cX2_waitFrom 12 = .ok (.iconst 0, 1) := by decide +kernel
theorem dX2_waitFrom_13 : decode cX2_waitFrom 13 = .ok (.aload_n 0, 1) := by decide +kernel
theorem dX2_waitFrom_14 : decode cX2_waitFrom 14 = .ok (.getfield 18, 3) := by decide +kernel
theorem dX2_waitFrom_17 : decode cX2_waitFrom 17 = .ok (.iload_n 2, 1) := by decide +kernel
theorem dX2_waitFrom_18 : decode cX2_waitFrom 18 = .ok (.iadd, 1) := by decide +kernel
theorem dX2_waitFrom_19 : decode cX2_waitFrom 19 = .ok (.iload_n 1, 1) := by decide +kernel
theorem dX2_waitFrom_20 : decode cX2_waitFrom 20 = .ok (.isub, 1) := by decide +kernel
theorem dX2_waitFrom_21 : decode cX2_waitFrom 21 = .ok (.invokestatic 28, 3) := by decide +kernel
theorem dX2_waitFrom_24 : decode cX2_waitFrom 24 = .ok (.ireturn, 1) := by decide +kernel
theorem dX2_wholeStock_0 : decode cX2_wholeStock 0 = .ok (.iconst 0, 1) := by decide +kernel
theorem dX2_wholeStock_1 : decode cX2_wholeStock 1 = .ok (.istore_n 1, 1) := by decide +kernel
theorem dX2_wholeStock_2 : decode cX2_wholeStock 2 = .ok (.iconst 0, 1) := by decide +kernel
theorem dX2_wholeStock_3 : decode cX2_wholeStock 3 = .ok (.istore_n 2, 1) := by decide +kernel
theorem dX2_wholeStock_4 : decode cX2_wholeStock 4 = .ok (.iload_n 2, 1) := by decide +kernel
theorem dX2_wholeStock_5 : decode cX2_wholeStock 5 = .ok (.iconst 3, 1) := by decide +kernel
theorem dX2_wholeStock_6 : decode cX2_wholeStock 6 = .ok (.if_icmp .ge 18, 3) := by decide +kernel
theorem dX2_wholeStock_9 : decode cX2_wholeStock 9 = .ok (.iload_n 1, 1) := by decide +kernel
theorem dX2_wholeStock_10 : decode cX2_wholeStock 10 = .ok (.aload_n 0, 1) := by decide +kernel
theorem dX2_wholeStock_11 : decode cX2_wholeStock 11 = .ok (.getfield 15, 3) := by decide +kernel
theorem dX2_wholeStock_14 : decode cX2_wholeStock 14 = .ok (.iload_n 2, 1) := by decide +kernel
theorem dX2_wholeStock_15 : decode cX2_wholeStock 15 = .ok (.iaload, 1) := by decide +kernel
theorem dX2_wholeStock_16 : decode cX2_wholeStock 16 = .ok (.iadd, 1) := by decide +kernel
theorem dX2_wholeStock_17 : decode cX2_wholeStock 17 = .ok (.istore_n 1, 1) := by decide +kernel
theorem dX2_wholeStock_18 : decode cX2_wholeStock 18 = .ok (.iinc 2 1, 3) := by decide +kernel
theorem dX2_wholeStock_21 : decode cX2_wholeStock 21 = .ok (.goto (-17), 3) := by decide +kernel
theorem dX2_wholeStock_24 : decode cX2_wholeStock 24 = .ok (.iload_n 1, 1) := by decide +kernel
theorem dX2_wholeStock_25 : decode cX2_wholeStock 25 = .ok (.ireturn, 1) := by decide +kernel
theorem dX2_sizesInStock_0 : decode cX2_sizesInStock 0 = .ok (.iconst 0, 1) := by decide +kernel
theorem dX2_sizesInStock_1 : decode cX2_sizesInStock 1 = .ok (.istore_n 1, 1) := by decide +kernel
theorem dX2_sizesInStock_2 : decode cX2_sizesInStock 2 = .ok (.iconst 0, 1) := by decide +kernel
theorem dX2_sizesInStock_3 : decode cX2_sizesInStock 3 = .ok (.istore_n 2, 1) := by decide +kernel
theorem dX2_sizesInStock_4 : decode cX2_sizesInStock 4 = .ok (.iload_n 2, 1) := by decide +kernel
theorem dX2_sizesInStock_5 : decode cX2_sizesInStock 5 = .ok (.iconst 3, 1) := by decide +kernel
theorem dX2_sizesInStock_6 : decode cX2_sizesInStock 6 = .ok (.if_icmp .ge 21, 3) := by decide +kernel
theorem dX2_sizesInStock_9 : decode cX2_sizesInStock 9 = .ok (.aload_n 0, 1) := by decide +kernel
theorem dX2_sizesInStock_10 : decode cX2_sizesInStock 10 = .ok (.getfield 15, 3) := by decide +kernel
theorem dX2_sizesInStock_13 : decode cX2_sizesInStock 13 = .ok (.iload_n 2, 1) := by decide +kernel
theorem dX2_sizesInStock_14 : decode cX2_sizesInStock 14 = .ok (.iaload, 1) := by decide +kernel
theorem dX2_sizesInStock_15 : decode cX2_sizesInStock 15 = .ok (.ifCond .le 6, 3) := by decide +kernel
theorem dX2_sizesInStock_18 : decode cX2_sizesInStock 18 = .ok (.iinc 1 1, 3) := by decide +kernel
theorem dX2_sizesInStock_21 : decode cX2_sizesInStock 21 = .ok (.iinc 2 1, 3) := by decide +kernel
theorem dX2_sizesInStock_24 : decode cX2_sizesInStock 24 = .ok (.goto (-20), 3) := by decide +kernel
theorem dX2_sizesInStock_27 : decode cX2_sizesInStock 27 = .ok (.iload_n 1, 1) := by decide +kernel
theorem dX2_sizesInStock_28 : decode cX2_sizesInStock 28 = .ok (.ireturn, 1) := by decide +kernel
theorem dX2_salesAt_0 : decode cX2_salesAt 0 = .ok (.aload_n 0, 1) := by decide +kernel
theorem dX2_salesAt_1 : decode cX2_salesAt 1 = .ok (.getfield 9, 3) := by decide +kernel
theorem dX2_salesAt_4 : decode cX2_salesAt 4 = .ok (.iload_n 1, 1) := by decide +kernel
theorem dX2_salesAt_5 : decode cX2_salesAt 5 = .ok (.iaload, 1) := by decide +kernel
theorem dX2_salesAt_6 : decode cX2_salesAt 6 = .ok (.aload_n 0, 1) := by decide +kernel
theorem dX2_salesAt_7 : decode cX2_salesAt 7 = .ok (.invokevirtual 34, 3) := by decide +kernel
theorem dX2_salesAt_10 : decode cX2_salesAt 10 = .ok (.imul, 1) := by decide +kernel
theorem dX2_salesAt_11 : decode cX2_salesAt 11 = .ok (.iconst 3, 1) := by decide +kernel
theorem dX2_salesAt_12 : decode cX2_salesAt 12 = .ok (.idiv, 1) := by decide +kernel
theorem dX2_salesAt_13 : decode cX2_salesAt 13 = .ok (.aload_n 0, 1) := by decide +kernel
theorem dX2_salesAt_14 : decode cX2_salesAt 14 = .ok (.invokevirtual 38, 3) := by decide +kernel
theorem dX2_salesAt_17 : decode cX2_salesAt 17 = .ok (.invokestatic 41, 3) := by decide +kernel
theorem dX2_salesAt_20 : decode cX2_salesAt 20 = .ok (.ireturn, 1) := by decide +kernel
theorem dX2_sellForAWeek_0 : decode cX2_sellForAWeek 0 = .ok (.aload_n 0, 1) := by decide +kernel
theorem dX2_sellForAWeek_1 : decode cX2_sellForAWeek 1 = .ok (.aload_n 0, 1) := by decide +kernel
theorem dX2_sellForAWeek_2 : decode cX2_sellForAWeek 2 = .ok (.getfield 22, 3) := by decide +kernel
theorem dX2_sellForAWeek_5 : decode cX2_sellForAWeek 5 = .ok (.invokevirtual 44, 3) := by decide +kernel
theorem dX2_sellForAWeek_8 : decode cX2_sellForAWeek 8 = .ok (.istore_n 1, 1) := by decide +kernel
theorem dX2_sellForAWeek_9 : decode cX2_sellForAWeek 9 = .ok (.iconst 0, 1) := by decide +kernel
theorem dX2_sellForAWeek_10 : decode cX2_sellForAWeek 10 = .ok (.istore_n 2, 1) := by decide +kernel
theorem dX2_sellForAWeek_11 : decode cX2_sellForAWeek 11 = .ok (.iload_n 2, 1) := by decide +kernel
theorem dX2_sellForAWeek_12 : decode cX2_sellForAWeek 12 = .ok (.iload_n 1, 1) := by decide +kernel
theorem dX2_sellForAWeek_13 : decode cX2_sellForAWeek 13 = .ok (.if_icmp .ge 22, 3) := by decide +kernel
theorem dX2_sellForAWeek_16 : decode cX2_sellForAWeek 16 = .ok (.aload_n 0, 1) := by decide +kernel
theorem dX2_sellForAWeek_17 : decode cX2_sellForAWeek 17 = .ok (.getfield 15, 3) := by decide +kernel
theorem dX2_sellForAWeek_20 : decode cX2_sellForAWeek 20 = .ok (.aload_n 0, 1) := by decide +kernel
theorem dX2_sellForAWeek_21 : decode cX2_sellForAWeek 21 = .ok (.invokevirtual 48, 3) := by decide +kernel
theorem dX2_sellForAWeek_24 : decode cX2_sellForAWeek 24 = .ok (.dup2, 1) := by decide +kernel
theorem dX2_sellForAWeek_25 : decode cX2_sellForAWeek 25 = .ok (.iaload, 1) := by decide +kernel
theorem dX2_sellForAWeek_26 : decode cX2_sellForAWeek 26 = .ok (.iconst 1, 1) := by decide +kernel
theorem dX2_sellForAWeek_27 : decode cX2_sellForAWeek 27 = .ok (.isub, 1) := by decide +kernel
theorem dX2_sellForAWeek_28 : decode cX2_sellForAWeek 28 = .ok (.iastore, 1) := by decide +kernel
theorem dX2_sellForAWeek_29 : decode cX2_sellForAWeek 29 = .ok (.iinc 2 1, 3) := by decide +kernel
theorem dX2_sellForAWeek_32 : decode cX2_sellForAWeek 32 = .ok (.goto (-21), 3) := by decide +kernel
theorem dX2_sellForAWeek_35 : decode cX2_sellForAWeek 35 = .ok (.aload_n 0, 1) := by decide +kernel
theorem dX2_sellForAWeek_36 : decode cX2_sellForAWeek 36 = .ok (.dup, 1) := by decide +kernel
theorem dX2_sellForAWeek_37 : decode cX2_sellForAWeek 37 = .ok (.getfield 25, 3) := by decide +kernel
theorem dX2_sellForAWeek_40 : decode cX2_sellForAWeek 40 = .ok (.iload_n 1, 1) := by decide +kernel
theorem dX2_sellForAWeek_41 : decode cX2_sellForAWeek 41 = .ok (.iadd, 1) := by decide +kernel
theorem dX2_sellForAWeek_42 : decode cX2_sellForAWeek 42 = .ok (.putfield 25, 3) := by decide +kernel
theorem dX2_sellForAWeek_45 : decode cX2_sellForAWeek 45 = .ok (.iload_n 1, 1) := by decide +kernel
theorem dX2_sellForAWeek_46 : decode cX2_sellForAWeek 46 = .ok (.ireturn, 1) := by decide +kernel
theorem dX2_fullestSize_0 : decode cX2_fullestSize 0 = .ok (.iconst 0, 1) := by decide +kernel
theorem dX2_fullestSize_1 : decode cX2_fullestSize 1 = .ok (.istore_n 1, 1) := by decide +kernel
theorem dX2_fullestSize_2 : decode cX2_fullestSize 2 = .ok (.iconst 1, 1) := by decide +kernel
theorem dX2_fullestSize_3 : decode cX2_fullestSize 3 = .ok (.istore_n 2, 1) := by decide +kernel
theorem dX2_fullestSize_4 : decode cX2_fullestSize 4 = .ok (.iload_n 2, 1) := by decide +kernel
theorem dX2_fullestSize_5 : decode cX2_fullestSize 5 = .ok (.iconst 3, 1) := by decide +kernel
theorem dX2_fullestSize_6 : decode cX2_fullestSize 6 = .ok (.if_icmp .ge 26, 3) := by decide +kernel
theorem dX2_fullestSize_9 : decode cX2_fullestSize 9 = .ok (.aload_n 0, 1) := by decide +kernel
theorem dX2_fullestSize_10 : decode cX2_fullestSize 10 = .ok (.getfield 15, 3) := by decide +kernel
theorem dX2_fullestSize_13 : decode cX2_fullestSize 13 = .ok (.iload_n 2, 1) := by decide +kernel
theorem dX2_fullestSize_14 : decode cX2_fullestSize 14 = .ok (.iaload, 1) := by decide +kernel
theorem dX2_fullestSize_15 : decode cX2_fullestSize 15 = .ok (.aload_n 0, 1) := by decide +kernel
theorem dX2_fullestSize_16 : decode cX2_fullestSize 16 = .ok (.getfield 15, 3) := by decide +kernel
theorem dX2_fullestSize_19 : decode cX2_fullestSize 19 = .ok (.iload_n 1, 1) := by decide +kernel
theorem dX2_fullestSize_20 : decode cX2_fullestSize 20 = .ok (.iaload, 1) := by decide +kernel
theorem dX2_fullestSize_21 : decode cX2_fullestSize 21 = .ok (.if_icmp .le 5, 3) := by decide +kernel
theorem dX2_fullestSize_24 : decode cX2_fullestSize 24 = .ok (.iload_n 2, 1) := by decide +kernel
theorem dX2_fullestSize_25 : decode cX2_fullestSize 25 = .ok (.istore_n 1, 1) := by decide +kernel
theorem dX2_fullestSize_26 : decode cX2_fullestSize 26 = .ok (.iinc 2 1, 3) := by decide +kernel
theorem dX2_fullestSize_29 : decode cX2_fullestSize 29 = .ok (.goto (-25), 3) := by decide +kernel
theorem dX2_fullestSize_32 : decode cX2_fullestSize 32 = .ok (.iload_n 1, 1) := by decide +kernel
theorem dX2_fullestSize_33 : decode cX2_fullestSize 33 = .ok (.ireturn, 1) := by decide +kernel
theorem dX3_init_0 : decode cX3_init 0 = .ok (.aload_n 0, 1) := by decide +kernel
theorem dX3_init_1 : decode cX3_init 1 = .ok (.invokespecial 3, 3) := by decide +kernel
theorem dX3_init_4 : decode cX3_init 4 = .ok (.aload_n 0, 1) := by decide +kernel
theorem dX3_init_5 : decode cX3_init 5 = .ok (.new 9, 3) := by decide +kernel
theorem dX3_init_8 : decode cX3_init 8 = .ok (.dup, 1) := by decide +kernel
theorem dX3_init_9 : decode cX3_init 9 = .ok (.invokespecial 11, 3) := by decide +kernel
theorem dX3_init_12 : decode cX3_init 12 = .ok (.putfield 12, 3) := by decide +kernel
theorem dX3_init_15 : decode cX3_init 15 = .ok (.aload_n 0, 1) := by decide +kernel
theorem dX3_init_16 : decode cX3_init 16 = .ok (.iconst 3, 1) := by decide +kernel
theorem dX3_init_17 : decode cX3_init 17 = .ok (.anewarray 16, 3) := by decide +kernel
theorem dX3_init_20 : decode cX3_init 20 = .ok (.putfield 18, 3) := by decide +kernel
theorem dX3_init_23 : decode cX3_init 23 = .ok (.aload_n 0, 1) := by decide +kernel
theorem dX3_init_24 : decode cX3_init 24 = .ok (.new 22, 3) := by decide +kernel
theorem dX3_init_27 : decode cX3_init 27 = .ok (.dup, 1) := by decide +kernel
theorem dX3_init_28 : decode cX3_init 28 = .ok (.invokespecial 24, 3) := by decide +kernel
theorem dX3_init_31 : decode cX3_init 31 = .ok (.putfield 25, 3) := by decide +kernel
theorem dX3_init_34 : decode cX3_init 34 = .ok (.iconst 0, 1) := by decide +kernel
theorem dX3_init_35 : decode cX3_init 35 = .ok (.istore_n 1, 1) := by decide +kernel
theorem dX3_init_36 : decode cX3_init 36 = .ok (.iload_n 1, 1) := by decide +kernel
theorem dX3_init_37 : decode cX3_init 37 = .ok (.iconst 3, 1) := by decide +kernel
theorem dX3_init_38 : decode cX3_init 38 = .ok (.if_icmp .ge 22, 3) := by decide +kernel
theorem dX3_init_41 : decode cX3_init 41 = .ok (.aload_n 0, 1) := by decide +kernel
theorem dX3_init_42 : decode cX3_init 42 = .ok (.getfield 18, 3) := by decide +kernel
theorem dX3_init_45 : decode cX3_init 45 = .ok (.iload_n 1, 1) := by decide +kernel
theorem dX3_init_46 : decode cX3_init 46 = .ok (.new 16, 3) := by decide +kernel
theorem dX3_init_49 : decode cX3_init 49 = .ok (.dup, 1) := by decide +kernel
theorem dX3_init_50 : decode cX3_init 50 = .ok (.invokespecial 29, 3) := by decide +kernel
theorem dX3_init_53 : decode cX3_init 53 = .ok (.aastore, 1) := by decide +kernel
theorem dX3_init_54 : decode cX3_init 54 = .ok (.iinc 1 1, 3) := by decide +kernel
theorem dX3_init_57 : decode cX3_init 57 = .ok (.goto (-21), 3) := by decide +kernel
theorem dX3_init_60 : decode cX3_init 60 = .ok (.return_, 1) := by decide +kernel
theorem dX3_begin_0 : decode cX3_begin 0 = .ok (.iload_n 1, 1) := by decide +kernel
theorem dX3_begin_1 : decode cX3_begin 1 = .ok (.iconst 1, 1) := by decide +kernel
theorem dX3_begin_2 : decode cX3_begin 2 = .ok (.bipush 10, 2) := by decide +kernel
theorem dX3_begin_4 : decode cX3_begin 4 = .ok (.invokestatic 30, 3) := by decide +kernel
theorem dX3_begin_7 : decode cX3_begin 7 = .ok (.aload_n 0, 1) := by decide +kernel
theorem dX3_begin_8 : decode cX3_begin 8 = .ok (.getfield 12, 3) := by decide +kernel
theorem dX3_begin_11 : decode cX3_begin 11 = .ok (.getfield 34, 3) := by decide +kernel
theorem dX3_begin_14 : decode cX3_begin 14 = .ok (.istore_n 2, 1) := by decide +kernel
theorem dX3_begin_15 : decode cX3_begin 15 = .ok (.aload_n 0, 1) := by decide +kernel
theorem dX3_begin_16 : decode cX3_begin 16 = .ok (.getfield 12, 3) := by decide +kernel
theorem dX3_begin_19 : decode cX3_begin 19 = .ok (.iload_n 1, 1) := by decide +kernel
theorem dX3_begin_20 : decode cX3_begin 20 = .ok (.invokevirtual 38, 3) := by decide +kernel
theorem dX3_begin_23 : decode cX3_begin 23 = .ok (.aload_n 0, 1) := by decide +kernel
theorem dX3_begin_24 : decode cX3_begin 24 = .ok (.getfield 18, 3) := by decide +kernel
theorem dX3_begin_27 : decode cX3_begin 27 = .ok (.astore_n 3, 1) := by decide +kernel
theorem dX3_begin_28 : decode cX3_begin 28 = .ok (.aload_n 3, 1) := by decide +kernel
theorem dX3_begin_29 : decode cX3_begin 29 = .ok (.arraylength, 1) := by decide +kernel
theorem dX3_begin_30 : decode cX3_begin 30 = .ok (.istore 4, 2) := by decide +kernel
theorem dX3_begin_32 : decode cX3_begin 32 = .ok (.iconst 0, 1) := by decide +kernel
theorem dX3_begin_33 : decode cX3_begin 33 = .ok (.istore 5, 2) := by decide +kernel
theorem dX3_begin_35 : decode cX3_begin 35 = .ok (.iload 5, 2) := by decide +kernel
theorem dX3_begin_37 : decode cX3_begin 37 = .ok (.iload 4, 2) := by decide +kernel
theorem dX3_begin_39 : decode cX3_begin 39 = .ok (.if_icmp .ge 20, 3) := by decide +kernel
theorem dX3_begin_42 : decode cX3_begin 42 = .ok (.aload_n 3, 1) := by decide +kernel
theorem dX3_begin_43 : decode cX3_begin 43 = .ok (.iload 5, 2) := by decide +kernel
theorem dX3_begin_45 : decode cX3_begin 45 = .ok (.aaload, 1) := by decide +kernel
theorem dX3_begin_46 : decode cX3_begin 46 = .ok (.astore 6, 2) := by decide +kernel
theorem dX3_begin_48 : decode cX3_begin 48 = .ok (.aload 6, 2) := by decide +kernel
theorem dX3_begin_50 : decode cX3_begin 50 = .ok (.invokevirtual 42, 3) := by decide +kernel
theorem dX3_begin_53 : decode cX3_begin 53 = .ok (.iinc 5 1, 3) := by decide +kernel
theorem dX3_begin_56 : decode cX3_begin 56 = .ok (.goto (-21), 3) := by decide +kernel
theorem dX3_begin_59 : decode cX3_begin 59 = .ok (.iload_n 2, 1) := by decide +kernel
theorem dX3_begin_60 : decode cX3_begin 60 = .ok (.ireturn, 1) := by decide +kernel
theorem dX3_setPrice_0 : decode cX3_setPrice 0 = .ok (.iload_n 1, 1) := by decide +kernel
theorem dX3_setPrice_1 : decode cX3_setPrice 1 = .ok (.invokestatic 44, 3) := by decide +kernel
theorem dX3_setPrice_4 : decode cX3_setPrice 4 = .ok (.iload_n 2, 1) := by decide +kernel
theorem dX3_setPrice_5 : decode cX3_setPrice 5 = .ok (.iconst 0, 1) := by decide +kernel
theorem dX3_setPrice_6 : decode cX3_setPrice 6 = .ok (.sipush 1000, 3) := by decide +kernel
theorem dX3_setPrice_9 : decode cX3_setPrice 9 = .ok (.invokestatic 30, 3) := by decide +kernel
theorem dX3_setPrice_12 : decode cX3_setPrice 12 = .ok (.aload_n 0, 1) := by decide +kernel
theorem dX3_setPrice_13 : decode cX3_setPrice 13 = .ok (.getfield 12, 3) := by decide +kernel
theorem dX3_setPrice_16 : decode cX3_setPrice 16 = .ok (.iload_n 1, 1) := by decide +kernel
theorem dX3_setPrice_17 : decode cX3_setPrice 17 = .ok (.iload_n 2, 1) := by decide +kernel
theorem dX3_setPrice_18 : decode cX3_setPrice 18 = .ok (.invokevirtual 47, 3) := by decide +kernel
theorem dX3_setPrice_21 : decode cX3_setPrice 21 = .ok (.ifCond .ne 13, 3) := by decide +kernel
theorem dX3_setPrice_24 : decode cX3_setPrice 24 = .ok (.new 51, 3) := by decide +kernel
theorem dX3_setPrice_27 : decode cX3_setPrice 27 = .ok (.dup, 1) := by decide +kernel
theorem dX3_setPrice_28 : decode cX3_setPrice 28 = .ok (.ldc 53, 2) := by decide +kernel
theorem dX3_setPrice_30 : decode cX3_setPrice 30 = .ok (.invokespecial 55, 3) := by decide +kernel
theorem dX3_setPrice_33 : decode cX3_setPrice 33 = .ok (.athrow, 1) := by decide +kernel
theorem dX3_setPrice_34 : decode cX3_setPrice 34 = .ok (.aload_n 0, 1) := by decide +kernel
theorem dX3_setPrice_35 : decode cX3_setPrice 35 = .ok (.getfield 12, 3) := by decide +kernel
theorem dX3_setPrice_38 : decode cX3_setPrice 38 = .ok (.getfield 58, 3) := by decide +kernel
theorem dX3_setPrice_41 : decode cX3_setPrice 41 = .ok (.iload_n 1, 1) := by decide +kernel
theorem dX3_setPrice_42 : decode cX3_setPrice 42 = .ok (.iaload, 1) := by decide +kernel
theorem dX3_setPrice_43 : decode cX3_setPrice 43 = .ok (.istore_n 3, 1) := by decide +kernel
theorem dX3_setPrice_44 : decode cX3_setPrice 44 = .ok (.aload_n 0, 1) := by decide +kernel
theorem dX3_setPrice_45 : decode cX3_setPrice 45 = .ok (.getfield 12, 3) := by decide +kernel
theorem dX3_setPrice_48 : decode cX3_setPrice 48 = .ok (.getfield 58, 3) := by decide +kernel
theorem dX3_setPrice_51 : decode cX3_setPrice 51 = .ok (.iload_n 1, 1) := by decide +kernel
theorem dX3_setPrice_52 : decode cX3_setPrice 52 = .ok (.iload_n 2, 1) := by decide +kernel
theorem dX3_setPrice_53 : decode cX3_setPrice 53 = .ok (.iastore, 1) := by decide +kernel
theorem dX3_setPrice_54 : decode cX3_setPrice 54 = .ok (.iload_n 3, 1) := by decide +kernel
theorem dX3_setPrice_55 : decode cX3_setPrice 55 = .ok (.ireturn, 1) := by decide +kernel
theorem dX3_setDemand_0 : decode cX3_setDemand 0 = .ok (.aload_n 0, 1) := by decide +kernel
theorem dX3_setDemand_1 : decode cX3_setDemand 1 = .ok (.iload_n 1, 1) := by decide +kernel
theorem dX3_setDemand_2 : decode cX3_setDemand 2 = .ok (.invokevirtual 62, 3) := by decide +kernel
theorem dX3_setDemand_5 : decode cX3_setDemand 5 = .ok (.astore 4, 2) := by decide +kernel
theorem dX3_setDemand_7 : decode cX3_setDemand 7 = .ok (.iload_n 2, 1) := by decide +kernel
theorem dX3_setDemand_8 : decode cX3_setDemand 8 = .ok (.invokestatic 44, 3) := by decide +kernel
theorem dX3_setDemand_11 : decode cX3_setDemand 11 = .ok (.iload_n 3, 1) := by decide +kernel
theorem dX3_setDemand_12 : decode cX3_setDemand 12 = .ok (.iconst 0, 1) := by decide +kernel
theorem dX3_setDemand_13 : decode cX3_setDemand 13 = .ok (.bipush 30, 2) := by decide +kernel
theorem dX3_setDemand_15 : decode cX3_setDemand 15 = .ok (.invokestatic 30, 3) := by decide +kernel
theorem dX3_setDemand_18 : decode cX3_setDemand 18 = .ok (.aload 4, 2) := by decide +kernel
theorem dX3_setDemand_20 : decode cX3_setDemand 20 = .ok (.getfield 66, 3) := by decide +kernel
theorem dX3_setDemand_23 : decode cX3_setDemand 23 = .ok (.iload_n 2, 1) := by decide +kernel
theorem dX3_setDemand_24 : decode cX3_setDemand 24 = .ok (.iaload, 1) := by decide +kernel
theorem dX3_setDemand_25 : decode cX3_setDemand 25 = .ok (.istore 5, 2) := by decide +kernel
theorem dX3_setDemand_27 : decode cX3_setDemand 27 = .ok (.aload 4, 2) := by decide +kernel
theorem dX3_setDemand_29 : decode cX3_setDemand 29 = .ok (.getfield 66, 3) := by decide +kernel
theorem dX3_setDemand_32 : decode cX3_setDemand 32 = .ok (.iload_n 2, 1) := by decide +kernel
theorem dX3_setDemand_33 : decode cX3_setDemand 33 = .ok (.iload_n 3, 1) := by decide +kernel
theorem dX3_setDemand_34 : decode cX3_setDemand 34 = .ok (.iastore, 1) := by decide +kernel
theorem dX3_setDemand_35 : decode cX3_setDemand 35 = .ok (.iload 5, 2) := by decide +kernel
theorem dX3_setDemand_37 : decode cX3_setDemand 37 = .ok (.ireturn, 1) := by decide +kernel
theorem dX3_setRules_0 : decode cX3_setRules 0 = .ok (.iload_n 1, 1) := by decide +kernel
theorem dX3_setRules_1 : decode cX3_setRules 1 = .ok (.iconst 1, 1) := by decide +kernel
theorem dX3_setRules_2 : decode cX3_setRules 2 = .ok (.iconst 4, 1) := by decide +kernel
theorem dX3_setRules_3 : decode cX3_setRules 3 = .ok (.invokestatic 30, 3) := by decide +kernel
theorem dX3_setRules_6 : decode cX3_setRules 6 = .ok (.iload_n 2, 1) := by decide +kernel
theorem dX3_setRules_7 : decode cX3_setRules 7 = .ok (.iconst 0, 1) := by decide +kernel
theorem dX3_setRules_8 : decode cX3_setRules 8 = .ok (.sipush 1000, 3) := by decide +kernel
theorem dX3_setRules_11 : decode cX3_setRules 11 = .ok (.invokestatic 30, 3) := by decide +kernel
theorem dX3_setRules_14 : decode cX3_setRules 14 = .ok (.iload_n 3, 1) := by decide +kernel
theorem dX3_setRules_15 : decode cX3_setRules 15 = .ok (.iconst 0, 1) := by decide +kernel
theorem dX3_setRules_16 : decode cX3_setRules 16 = .ok (.bipush 100, 2) := by decide +kernel
theorem dX3_setRules_18 : decode cX3_setRules 18 = .ok (.invokestatic 30, 3) := by decide +kernel
theorem dX3_setRules_21 : decode cX3_setRules 21 = .ok (.aload_n 0, 1) := by decide +kernel
theorem dX3_setRules_22 : decode cX3_setRules 22 = .ok (.getfield 12, 3) := by decide +kernel
theorem dX3_setRules_25 : decode cX3_setRules 25 = .ok (.iload_n 1, 1) := by decide +kernel
theorem dX3_setRules_26 : decode cX3_setRules 26 = .ok (.putfield 69, 3) := by decide +kernel
theorem dX3_setRules_29 : decode cX3_setRules 29 = .ok (.aload_n 0, 1) := by decide +kernel
theorem dX3_setRules_30 : decode cX3_setRules 30 = .ok (.getfield 12, 3) := by decide +kernel
theorem dX3_setRules_33 : decode cX3_setRules 33 = .ok (.iload_n 2, 1) := by decide +kernel
theorem dX3_setRules_34 : decode cX3_setRules 34 = .ok (.putfield 72, 3) := by decide +kernel
theorem dX3_setRules_37 : decode cX3_setRules 37 = .ok (.aload_n 0, 1) := by decide +kernel
theorem dX3_setRules_38 : decode cX3_setRules 38 = .ok (.getfield 12, 3) := by decide +kernel
theorem dX3_setRules_41 : decode cX3_setRules 41 = .ok (.iload_n 3, 1) := by decide +kernel
theorem dX3_setRules_42 : decode cX3_setRules 42 = .ok (.putfield 75, 3) := by decide +kernel
theorem dX3_setRules_45 : decode cX3_setRules 45 = .ok (.return_, 1) := by decide +kernel
theorem dX3_put_0 : decode cX3_put 0 = .ok (.aload_n 0, 1) := by decide +kernel
theorem dX3_put_1 : decode cX3_put 1 = .ok (.iload_n 1, 1) := by decide +kernel
theorem dX3_put_2 : decode cX3_put 2 = .ok (.invokevirtual 62, 3) := by decide +kernel
theorem dX3_put_5 : decode cX3_put 5 = .ok (.astore 4, 2) := by decide +kernel
theorem dX3_put_7 : decode cX3_put 7 = .ok (.iload_n 2, 1) := by decide +kernel
theorem dX3_put_8 : decode cX3_put 8 = .ok (.invokestatic 78, 3) := by decide +kernel
theorem dX3_put_11 : decode cX3_put 11 = .ok (.iload_n 3, 1) := by decide +kernel
theorem dX3_put_12 : decode cX3_put 12 = .ok (.iconst 1, 1) := by decide +kernel
theorem dX3_put_13 : decode cX3_put 13 = .ok (.bipush 40, 2) := by decide +kernel
theorem dX3_put_15 : decode cX3_put 15 = .ok (.invokestatic 30, 3) := by decide +kernel
theorem dX3_put_18 : decode cX3_put 18 = .ok (.aload 4, 2) := by decide +kernel
theorem dX3_put_20 : decode cX3_put 20 = .ok (.iload_n 3, 1) := by decide +kernel
theorem dX3_put_21 : decode cX3_put 21 = .ok (.invokestatic 81, 3) := by decide +kernel
theorem dX3_put_24 : decode cX3_put 24 = .ok (.aload 4, 2) := by decide +kernel
theorem dX3_put_26 : decode cX3_put 26 = .ok (.getfield 85, 3) := by decide +kernel
theorem dX3_put_29 : decode cX3_put 29 = .ok (.iload_n 2, 1) := by decide +kernel
theorem dX3_put_30 : decode cX3_put 30 = .ok (.dup2, 1) := by decide +kernel
theorem dX3_put_31 : decode cX3_put 31 = .ok (.iaload, 1) := by decide +kernel
theorem dX3_put_32 : decode cX3_put 32 = .ok (.iload_n 3, 1) := by decide +kernel
theorem dX3_put_33 : decode cX3_put 33 = .ok (.iadd, 1) := by decide +kernel
theorem dX3_put_34 : decode cX3_put 34 = .ok (.iastore, 1) := by decide +kernel
theorem dX3_put_35 : decode cX3_put 35 = .ok (.aload 4, 2) := by decide +kernel
theorem dX3_put_37 : decode cX3_put 37 = .ok (.getfield 85, 3) := by decide +kernel
theorem dX3_put_40 : decode cX3_put 40 = .ok (.iload_n 2, 1) := by decide +kernel
theorem dX3_put_41 : decode cX3_put 41 = .ok (.iaload, 1) := by decide +kernel
theorem dX3_put_42 : decode cX3_put 42 = .ok (.ireturn, 1) := by decide +kernel
theorem dX3_markDown_0 : decode cX3_markDown 0 = .ok (.aload_n 0, 1) := by decide +kernel
theorem dX3_markDown_1 : decode cX3_markDown 1 = .ok (.iload_n 1, 1) := by decide +kernel
theorem dX3_markDown_2 : decode cX3_markDown 2 = .ok (.invokevirtual 62, 3) := by decide +kernel
theorem dX3_markDown_5 : decode cX3_markDown 5 = .ok (.astore_n 3, 1) := by decide +kernel
theorem dX3_markDown_6 : decode cX3_markDown 6 = .ok (.iload_n 2, 1) := by decide +kernel
theorem dX3_markDown_7 : decode cX3_markDown 7 = .ok (.invokestatic 44, 3) := by decide +kernel
theorem dX3_markDown_10 : decode cX3_markDown 10 = .ok (.aload_n 0, 1) := by decide +kernel
theorem dX3_markDown_11 : decode cX3_markDown 11 = .ok (.invokevirtual 88, 3) := by decide +kernel
theorem dX3_markDown_14 : decode cX3_markDown 14 = .ok (.iload_n 2, 1) := by decide +kernel
theorem dX3_markDown_15 : decode cX3_markDown 15 = .ok (.aload_n 3, 1) := by decide +kernel
theorem dX3_markDown_16 : decode cX3_markDown 16 = .ok (.getfield 91, 3) := by decide +kernel
theorem dX3_markDown_19 : decode cX3_markDown 19 = .ok (.if_icmp .gt 13, 3) := by decide +kernel
theorem dX3_markDown_22 : decode cX3_markDown 22 = .ok (.new 51, 3) := by decide +kernel
theorem dX3_markDown_25 : decode cX3_markDown 25 = .ok (.dup, 1) := by decide +kernel
theorem dX3_markDown_26 : decode cX3_markDown 26 = .ok (.ldc 94, 2) := by decide +kernel
theorem dX3_markDown_28 : decode cX3_markDown 28 = .ok (.invokespecial 55, 3) := by decide +kernel
theorem dX3_markDown_31 : decode cX3_markDown 31 = .ok (.athrow, 1) := by decide +kernel
theorem dX3_markDown_32 : decode cX3_markDown 32 = .ok (.aload_n 3, 1) := by decide +kernel
theorem dX3_markDown_33 : decode cX3_markDown 33 = .ok (.aload_n 0, 1) := by decide +kernel
theorem dX3_markDown_34 : decode cX3_markDown 34 = .ok (.getfield 12, 3) := by decide +kernel
theorem dX3_markDown_37 : decode cX3_markDown 37 = .ok (.getfield 34, 3) := by decide +kernel
theorem dX3_markDown_40 : decode cX3_markDown 40 = .ok (.aload_n 0, 1) := by decide +kernel
theorem dX3_markDown_41 : decode cX3_markDown 41 = .ok (.getfield 12, 3) := by decide +kernel
theorem dX3_markDown_44 : decode cX3_markDown 44 = .ok (.getfield 69, 3) := by decide +kernel
theorem dX3_markDown_47 : decode cX3_markDown 47 = .ok (.invokevirtual 96, 3) := by decide +kernel
theorem dX3_markDown_50 : decode cX3_markDown 50 = .ok (.ifCond .le 13, 3) := by decide +kernel
theorem dX3_markDown_53 : decode cX3_markDown 53 = .ok (.new 51, 3) := by decide +kernel
theorem dX3_markDown_56 : decode cX3_markDown 56 = .ok (.dup, 1) := by decide +kernel
theorem dX3_markDown_57 : decode cX3_markDown 57 = .ok (.ldc 100, 2) := by decide +kernel
theorem dX3_markDown_59 : decode cX3_markDown 59 = .ok (.invokespecial 55, 3) := by decide +kernel
theorem dX3_markDown_62 : decode cX3_markDown 62 = .ok (.athrow, 1) := by decide +kernel
theorem dX3_markDown_63 : decode cX3_markDown 63 = .ok (.aload_n 3, 1) := by decide +kernel
theorem dX3_markDown_64 : decode cX3_markDown 64 = .ok (.iload_n 2, 1) := by decide +kernel
theorem dX3_markDown_65 : decode cX3_markDown 65 = .ok (.putfield 91, 3) := by decide +kernel
theorem dX3_markDown_68 : decode cX3_markDown 68 = .ok (.aload_n 3, 1) := by decide +kernel
theorem dX3_markDown_69 : decode cX3_markDown 69 = .ok (.aload_n 0, 1) := by decide +kernel
theorem dX3_markDown_70 : decode cX3_markDown 70 = .ok (.getfield 12, 3) := by decide +kernel
theorem dX3_markDown_73 : decode cX3_markDown 73 = .ok (.getfield 34, 3) := by decide +kernel
theorem dX3_markDown_76 : decode cX3_markDown 76 = .ok (.putfield 102, 3) := by decide +kernel
theorem dX3_markDown_79 : decode cX3_markDown 79 = .ok (.aload_n 0, 1) := by decide +kernel
theorem dX3_markDown_80 : decode cX3_markDown 80 = .ok (.getfield 12, 3) := by decide +kernel
theorem dX3_markDown_83 : decode cX3_markDown 83 = .ok (.getfield 58, 3) := by decide +kernel
theorem dX3_markDown_86 : decode cX3_markDown 86 = .ok (.iload_n 2, 1) := by decide +kernel
theorem dX3_markDown_87 : decode cX3_markDown 87 = .ok (.iaload, 1) := by decide +kernel
theorem dX3_markDown_88 : decode cX3_markDown 88 = .ok (.ireturn, 1) := by decide +kernel
theorem dX3_move_0 : decode cX3_move 0 = .ok (.aload_n 0, 1) := by decide +kernel
theorem dX3_move_1 : decode cX3_move 1 = .ok (.iload_n 1, 1) := by decide +kernel
theorem dX3_move_2 : decode cX3_move 2 = .ok (.invokevirtual 62, 3) := by decide +kernel
theorem dX3_move_5 : decode cX3_move 5 = .ok (.astore 5, 2) := by decide +kernel
theorem dX3_move_7 : decode cX3_move 7 = .ok (.aload_n 0, 1) := by decide +kernel
theorem dX3_move_8 : decode cX3_move 8 = .ok (.iload_n 2, 1) := by decide +kernel
theorem dX3_move_9 : decode cX3_move 9 = .ok (.invokevirtual 62, 3) := by decide +kernel
theorem dX3_move_12 : decode cX3_move 12 = .ok (.astore 6, 2) := by decide +kernel
theorem dX3_move_14 : decode cX3_move 14 = .ok (.iload_n 3, 1) := by decide +kernel
theorem dX3_move_15 : decode cX3_move 15 = .ok (.invokestatic 78, 3) := by decide +kernel
theorem dX3_move_18 : decode cX3_move 18 = .ok (.iload 4, 2) := by decide +kernel
theorem dX3_move_20 : decode cX3_move 20 = .ok (.iconst 1, 1) := by decide +kernel
theorem dX3_move_21 : decode cX3_move 21 = .ok (.bipush 40, 2) := by decide +kernel
theorem dX3_move_23 : decode cX3_move 23 = .ok (.invokestatic 30, 3) := by decide +kernel
theorem dX3_move_26 : decode cX3_move 26 = .ok (.iload_n 1, 1) := by decide +kernel
theorem dX3_move_27 : decode cX3_move 27 = .ok (.iload_n 2, 1) := by decide +kernel
theorem dX3_move_28 : decode cX3_move 28 = .ok (.if_icmp .ne 13, 3) := by decide +kernel
theorem dX3_move_31 : decode cX3_move 31 = .ok (.new 105, 3) := by decide +kernel
theorem dX3_move_34 : decode cX3_move 34 = .ok (.dup, 1) := by decide +kernel
theorem dX3_move_35 : decode cX3_move 35 = .ok (.ldc 107, 2) := by decide +kernel
theorem dX3_move_37 : decode cX3_move 37 = .ok (.invokespecial 109, 3) := by decide +kernel
theorem dX3_move_40 : decode cX3_move 40 = .ok (.athrow, 1) := by decide +kernel
theorem dX3_move_41 : decode cX3_move 41 = .ok (.aload_n 0, 1) := by decide +kernel
theorem dX3_move_42 : decode cX3_move 42 = .ok (.invokevirtual 88, 3) := by decide +kernel
theorem dX3_move_45 : decode cX3_move 45 = .ok (.aload 5, 2) := by decide +kernel
theorem dX3_move_47 : decode cX3_move 47 = .ok (.getfield 85, 3) := by decide +kernel
theorem dX3_move_50 : decode cX3_move 50 = .ok (.iload_n 3, 1) := by decide +kernel
theorem dX3_move_51 : decode cX3_move 51 = .ok (.iaload, 1) := by decide +kernel
theorem dX3_move_52 : decode cX3_move 52 = .ok (.iload 4, 2) := by decide +kernel
theorem dX3_move_54 : decode cX3_move 54 = .ok (.if_icmp .ge 13, 3) := by decide +kernel
theorem dX3_move_57 : decode cX3_move 57 = .ok (.new 51, 3) := by decide +kernel
theorem dX3_move_60 : decode cX3_move 60 = .ok (.dup, 1) := by decide +kernel
theorem dX3_move_61 : decode cX3_move 61 = .ok (.ldc 110, 2) := by decide +kernel
theorem dX3_move_63 : decode cX3_move 63 = .ok (.invokespecial 55, 3) := by decide +kernel
theorem dX3_move_66 : decode cX3_move 66 = .ok (.athrow, 1) := by decide +kernel
theorem dX3_move_67 : decode cX3_move 67 = .ok (.aload 6, 2) := by decide +kernel
theorem dX3_move_69 : decode cX3_move 69 = .ok (.iload 4, 2) := by decide +kernel
theorem dX3_move_71 : decode cX3_move 71 = .ok (.invokestatic 81, 3) := by decide +kernel
theorem dX3_move_74 : decode cX3_move 74 = .ok (.aload 5, 2) := by decide +kernel
theorem dX3_move_76 : decode cX3_move 76 = .ok (.getfield 85, 3) := by decide +kernel
theorem dX3_move_79 : decode cX3_move 79 = .ok (.iload_n 3, 1) := by decide +kernel
theorem dX3_move_80 : decode cX3_move 80 = .ok (.dup2, 1) := by decide +kernel
theorem dX3_move_81 : decode cX3_move 81 = .ok (.iaload, 1) := by decide +kernel
theorem dX3_move_82 : decode cX3_move 82 = .ok (.iload 4, 2) := by decide +kernel
theorem dX3_move_84 : decode cX3_move 84 = .ok (.isub, 1) := by decide +kernel
theorem dX3_move_85 : decode cX3_move 85 = .ok (.iastore, 1) := by decide +kernel
theorem dX3_move_86 : decode cX3_move 86 = .ok (.aload 6, 2) := by decide +kernel
theorem dX3_move_88 : decode cX3_move 88 = .ok (.getfield 85, 3) := by decide +kernel
theorem dX3_move_91 : decode cX3_move 91 = .ok (.iload_n 3, 1) := by decide +kernel
theorem dX3_move_92 : decode cX3_move 92 = .ok (.dup2, 1) := by decide +kernel
theorem dX3_move_93 : decode cX3_move 93 = .ok (.iaload, 1) := by decide +kernel
theorem dX3_move_94 : decode cX3_move 94 = .ok (.iload 4, 2) := by decide +kernel
theorem dX3_move_96 : decode cX3_move 96 = .ok (.iadd, 1) := by decide +kernel
theorem dX3_move_97 : decode cX3_move 97 = .ok (.iastore, 1) := by decide +kernel
theorem dX3_move_98 : decode cX3_move 98 = .ok (.iload 4, 2) := by decide +kernel
theorem dX3_move_100 : decode cX3_move 100 = .ok (.aload_n 0, 1) := by decide +kernel
theorem dX3_move_101 : decode cX3_move 101 = .ok (.getfield 12, 3) := by decide +kernel
theorem dX3_move_104 : decode cX3_move 104 = .ok (.getfield 75, 3) := by decide +kernel
theorem dX3_move_107 : decode cX3_move 107 = .ok (.imul, 1) := by decide +kernel
theorem dX3_move_108 : decode cX3_move 108 = .ok (.istore 7, 2) := by decide +kernel
theorem dX3_move_110 : decode cX3_move 110 = .ok (.aload_n 0, 1) := by decide +kernel
theorem dX3_move_111 : decode cX3_move 111 = .ok (.getfield 12, 3) := by decide +kernel
theorem dX3_move_114 : decode cX3_move 114 = .ok (.dup, 1) := by decide +kernel
theorem dX3_move_115 : decode cX3_move 115 = .ok (.getfield 112, 3) := by decide +kernel
theorem dX3_move_118 : decode cX3_move 118 = .ok (.iload 7, 2) := by decide +kernel
theorem dX3_move_120 : decode cX3_move 120 = .ok (.isub, 1) := by decide +kernel
theorem dX3_move_121 : decode cX3_move 121 = .ok (.putfield 112, 3) := by decide +kernel
theorem dX3_move_124 : decode cX3_move 124 = .ok (.iload 7, 2) := by decide +kernel
theorem dX3_move_126 : decode cX3_move 126 = .ok (.ireturn, 1) := by decide +kernel
theorem dX3_run_0 : decode cX3_run 0 = .ok (.aload_n 0, 1) := by decide +kernel
theorem dX3_run_1 : decode cX3_run 1 = .ok (.invokevirtual 88, 3) := by decide +kernel
theorem dX3_run_4 : decode cX3_run 4 = .ok (.iconst 0, 1) := by decide +kernel
theorem dX3_run_5 : decode cX3_run 5 = .ok (.istore_n 1, 1) := by decide +kernel
theorem dX3_run_6 : decode cX3_run 6 = .ok (.aload_n 0, 1) := by decide +kernel
theorem dX3_run_7 : decode cX3_run 7 = .ok (.getfield 18, 3) := by decide +kernel
theorem dX3_run_10 : decode cX3_run 10 = .ok (.astore_n 2, 1) := by decide +kernel
theorem dX3_run_11 : decode cX3_run 11 = .ok (.aload_n 2, 1) := by decide +kernel
theorem dX3_run_12 : decode cX3_run 12 = .ok (.arraylength, 1) := by decide +kernel
theorem dX3_run_13 : decode cX3_run 13 = .ok (.istore_n 3, 1) := by decide +kernel
theorem dX3_run_14 : decode cX3_run 14 = .ok (.iconst 0, 1) := by decide +kernel
theorem dX3_run_15 : decode cX3_run 15 = .ok (.istore 4, 2) := by decide +kernel
theorem dX3_run_17 : decode cX3_run 17 = .ok (.iload 4, 2) := by decide +kernel
theorem dX3_run_19 : decode cX3_run 19 = .ok (.iload_n 3, 1) := by decide +kernel
theorem dX3_run_20 : decode cX3_run 20 = .ok (.if_icmp .ge 37, 3) := by decide +kernel
theorem dX3_run_23 : decode cX3_run 23 = .ok (.aload_n 2, 1) := by decide +kernel
theorem dX3_run_24 : decode cX3_run 24 = .ok (.iload 4, 2) := by decide +kernel
theorem dX3_run_26 : decode cX3_run 26 = .ok (.aaload, 1) := by decide +kernel
theorem dX3_run_27 : decode cX3_run 27 = .ok (.astore 5, 2) := by decide +kernel
theorem dX3_run_29 : decode cX3_run 29 = .ok (.iload_n 1, 1) := by decide +kernel
theorem dX3_run_30 : decode cX3_run 30 = .ok (.aload 5, 2) := by decide +kernel
theorem dX3_run_32 : decode cX3_run 32 = .ok (.invokevirtual 115, 3) := by decide +kernel
theorem dX3_run_35 : decode cX3_run 35 = .ok (.aload_n 0, 1) := by decide +kernel
theorem dX3_run_36 : decode cX3_run 36 = .ok (.getfield 12, 3) := by decide +kernel
theorem dX3_run_39 : decode cX3_run 39 = .ok (.getfield 58, 3) := by decide +kernel
theorem dX3_run_42 : decode cX3_run 42 = .ok (.aload 5, 2) := by decide +kernel
theorem dX3_run_44 : decode cX3_run 44 = .ok (.getfield 91, 3) := by decide +kernel
theorem dX3_run_47 : decode cX3_run 47 = .ok (.iaload, 1) := by decide +kernel
theorem dX3_run_48 : decode cX3_run 48 = .ok (.imul, 1) := by decide +kernel
theorem dX3_run_49 : decode cX3_run 49 = .ok (.iadd, 1) := by decide +kernel
theorem dX3_run_50 : decode cX3_run 50 = .ok (.istore_n 1, 1) := by decide +kernel
theorem dX3_run_51 : decode cX3_run 51 = .ok (.iinc 4 1, 3) := by decide +kernel
theorem dX3_run_54 : decode cX3_run 54 = .ok (.goto (-37), 3) := by decide +kernel
theorem dX3_run_57 : decode cX3_run 57 = .ok (.aload_n 0, 1) := by decide +kernel
theorem dX3_run_58 : decode cX3_run 58 = .ok (.getfield 12, 3) := by decide +kernel
theorem dX3_run_61 : decode cX3_run 61 = .ok (.dup, 1) := by decide +kernel
theorem dX3_run_62 : decode cX3_run 62 = .ok (.getfield 112, 3) := by decide +kernel
theorem dX3_run_65 : decode cX3_run 65 = .ok (.iload_n 1, 1) := by decide +kernel
theorem dX3_run_66 : decode cX3_run 66 = .ok (.iadd, 1) := by decide +kernel
theorem dX3_run_67 : decode cX3_run 67 = .ok (.putfield 112, 3) := by decide +kernel
theorem dX3_run_70 : decode cX3_run 70 = .ok (.aload_n 0, 1) := by decide +kernel
theorem dX3_run_71 : decode cX3_run 71 = .ok (.getfield 12, 3) := by decide +kernel
theorem dX3_run_74 : decode cX3_run 74 = .ok (.dup, 1) := by decide +kernel
theorem dX3_run_75 : decode cX3_run 75 = .ok (.getfield 34, 3) := by decide +kernel
theorem dX3_run_78 : decode cX3_run 78 = .ok (.iconst 1, 1) := by decide +kernel
theorem dX3_run_79 : decode cX3_run 79 = .ok (.iadd, 1) := by decide +kernel
theorem dX3_run_80 : decode cX3_run 80 = .ok (.putfield 34, 3) := by decide +kernel
theorem dX3_run_83 : decode cX3_run 83 = .ok (.iload_n 1, 1) := by decide +kernel
theorem dX3_run_84 : decode cX3_run 84 = .ok (.ireturn, 1) := by decide +kernel
theorem dX3_week_0 : decode cX3_week 0 = .ok (.aload_n 0, 1) := by decide +kernel
theorem dX3_week_1 : decode cX3_week 1 = .ok (.getfield 12, 3) := by decide +kernel
theorem dX3_week_4 : decode cX3_week 4 = .ok (.getfield 34, 3) := by decide +kernel
theorem dX3_week_7 : decode cX3_week 7 = .ok (.ireturn, 1) := by decide +kernel
theorem dX3_stock_0 : decode cX3_stock 0 = .ok (.aload_n 0, 1) := by decide +kernel
theorem dX3_stock_1 : decode cX3_stock 1 = .ok (.iload_n 1, 1) := by decide +kernel
theorem dX3_stock_2 : decode cX3_stock 2 = .ok (.invokevirtual 62, 3) := by decide +kernel
theorem dX3_stock_5 : decode cX3_stock 5 = .ok (.astore_n 3, 1) := by decide +kernel
theorem dX3_stock_6 : decode cX3_stock 6 = .ok (.iload_n 2, 1) := by decide +kernel
theorem dX3_stock_7 : decode cX3_stock 7 = .ok (.invokestatic 78, 3) := by decide +kernel
theorem dX3_stock_10 : decode cX3_stock 10 = .ok (.aload_n 3, 1) := by decide +kernel
theorem dX3_stock_11 : decode cX3_stock 11 = .ok (.getfield 85, 3) := by decide +kernel
theorem dX3_stock_14 : decode cX3_stock 14 = .ok (.iload_n 2, 1) := by decide +kernel
theorem dX3_stock_15 : decode cX3_stock 15 = .ok (.iaload, 1) := by decide +kernel
theorem dX3_stock_16 : decode cX3_stock 16 = .ok (.ireturn, 1) := by decide +kernel
theorem dX3_step_0 : decode cX3_step 0 = .ok (.aload_n 0, 1) := by decide +kernel
theorem dX3_step_1 : decode cX3_step 1 = .ok (.iload_n 1, 1) := by decide +kernel
theorem dX3_step_2 : decode cX3_step 2 = .ok (.invokevirtual 62, 3) := by decide +kernel
theorem dX3_step_5 : decode cX3_step 5 = .ok (.getfield 91, 3) := by decide +kernel
theorem dX3_step_8 : decode cX3_step 8 = .ok (.ireturn, 1) := by decide +kernel
theorem dX3_weeksToWait_0 : decode cX3_weeksToWait 0 = .ok (.aload_n 0, 1) := by decide +kernel
theorem dX3_weeksToWait_1 : decode cX3_weeksToWait 1 = .ok (.iload_n 1, 1) := by decide +kernel
theorem dX3_weeksToWait_2 : decode cX3_weeksToWait 2 = .ok (.invokevirtual 62, 3) := by decide +kernel
theorem dX3_weeksToWait_5 : decode cX3_weeksToWait 5 = .ok (.aload_n 0, 1) := by decide +kernel
theorem dX3_weeksToWait_6 : decode cX3_weeksToWait 6 = .ok (.getfield 12, 3) := by decide +kernel
theorem dX3_weeksToWait_9 : decode cX3_weeksToWait 9 = .ok (.getfield 34, 3) := by decide +kernel
theorem dX3_weeksToWait_12 : decode cX3_weeksToWait 12 = .ok (.aload_n 0, 1) := by decide +kernel
theorem dX3_weeksToWait_13 : decode cX3_weeksToWait 13 = .ok (.getfield 12, 3) := by decide +kernel
theorem dX3_weeksToWait_16 : decode cX3_weeksToWait 16 = .ok (.getfield 69, 3) := by decide +kernel
theorem dX3_weeksToWait_19 : decode cX3_weeksToWait 19 = .ok (.invokevirtual 96, 3) := by decide +kernel
theorem dX3_weeksToWait_22 : decode cX3_weeksToWait 22 = .ok (.ireturn, 1) := by decide +kernel
theorem dX3_sold_0 : decode cX3_sold 0 = .ok (.aload_n 0, 1) := by decide +kernel
theorem dX3_sold_1 : decode cX3_sold 1 = .ok (.iload_n 1, 1) := by decide +kernel
theorem dX3_sold_2 : decode cX3_sold 2 = .ok (.invokevirtual 62, 3) := by decide +kernel
theorem dX3_sold_5 : decode cX3_sold 5 = .ok (.getfield 119, 3) := by decide +kernel
theorem dX3_sold_8 : decode cX3_sold 8 = .ok (.ireturn, 1) := by decide +kernel
theorem dX3_taken_0 : decode cX3_taken 0 = .ok (.aload_n 0, 1) := by decide +kernel
theorem dX3_taken_1 : decode cX3_taken 1 = .ok (.getfield 12, 3) := by decide +kernel
theorem dX3_taken_4 : decode cX3_taken 4 = .ok (.getfield 112, 3) := by decide +kernel
theorem dX3_taken_7 : decode cX3_taken 7 = .ok (.ireturn, 1) := by decide +kernel
theorem dX3_wouldSell_0 : decode cX3_wouldSell 0 = .ok (.aload_n 0, 1) := by decide +kernel
theorem dX3_wouldSell_1 : decode cX3_wouldSell 1 = .ok (.iload_n 1, 1) := by decide +kernel
theorem dX3_wouldSell_2 : decode cX3_wouldSell 2 = .ok (.invokevirtual 62, 3) := by decide +kernel
theorem dX3_wouldSell_5 : decode cX3_wouldSell 5 = .ok (.astore_n 3, 1) := by decide +kernel
theorem dX3_wouldSell_6 : decode cX3_wouldSell 6 = .ok (.iload_n 2, 1) := by decide +kernel
theorem dX3_wouldSell_7 : decode cX3_wouldSell 7 = .ok (.invokestatic 44, 3) := by decide +kernel
theorem dX3_wouldSell_10 : decode cX3_wouldSell 10 = .ok (.aload_n 3, 1) := by decide +kernel
theorem dX3_wouldSell_11 : decode cX3_wouldSell 11 = .ok (.iload_n 2, 1) := by decide +kernel
theorem dX3_wouldSell_12 : decode cX3_wouldSell 12 = .ok (.invokevirtual 122, 3) := by decide +kernel
theorem dX3_wouldSell_15 : decode cX3_wouldSell 15 = .ok (.ireturn, 1) := by decide +kernel
theorem dX3_best_0 : decode cX3_best 0 = .ok (.aload_n 0, 1) := by decide +kernel
theorem dX3_best_1 : decode cX3_best 1 = .ok (.getfield 25, 3) := by decide +kernel
theorem dX3_best_4 : decode cX3_best 4 = .ok (.aload_n 0, 1) := by decide +kernel
theorem dX3_best_5 : decode cX3_best 5 = .ok (.getfield 12, 3) := by decide +kernel
theorem dX3_best_8 : decode cX3_best 8 = .ok (.aload_n 0, 1) := by decide +kernel
theorem dX3_best_9 : decode cX3_best 9 = .ok (.iload_n 1, 1) := by decide +kernel
theorem dX3_best_10 : decode cX3_best 10 = .ok (.invokevirtual 62, 3) := by decide +kernel
theorem dX3_best_13 : decode cX3_best 13 = .ok (.invokevirtual 126, 3) := by decide +kernel
theorem dX3_best_16 : decode cX3_best 16 = .ok (.aload_n 0, 1) := by decide +kernel
theorem dX3_best_17 : decode cX3_best 17 = .ok (.getfield 25, 3) := by decide +kernel
theorem dX3_best_20 : decode cX3_best 20 = .ok (.bipush 60, 2) := by decide +kernel
theorem dX3_best_22 : decode cX3_best 22 = .ok (.invokevirtual 130, 3) := by decide +kernel
theorem dX3_best_25 : decode cX3_best 25 = .ok (.ireturn, 1) := by decide +kernel
theorem dX3_planned_0 : decode cX3_planned 0 = .ok (.aload_n 0, 1) := by decide +kernel
theorem dX3_planned_1 : decode cX3_planned 1 = .ok (.iload_n 1, 1) := by decide +kernel
theorem dX3_planned_2 : decode cX3_planned 2 = .ok (.invokevirtual 62, 3) := by decide +kernel
theorem dX3_planned_5 : decode cX3_planned 5 = .ok (.astore_n 3, 1) := by decide +kernel
theorem dX3_planned_6 : decode cX3_planned 6 = .ok (.iload_n 2, 1) := by decide +kernel
theorem dX3_planned_7 : decode cX3_planned 7 = .ok (.aload_n 0, 1) := by decide +kernel
theorem dX3_planned_8 : decode cX3_planned 8 = .ok (.getfield 12, 3) := by decide +kernel
theorem dX3_planned_11 : decode cX3_planned 11 = .ok (.getfield 34, 3) := by decide +kernel
theorem dX3_planned_14 : decode cX3_planned 14 = .ok (.aload_n 0, 1) := by decide +kernel
theorem dX3_planned_15 : decode cX3_planned 15 = .ok (.getfield 12, 3) := by decide +kernel
theorem dX3_planned_18 : decode cX3_planned 18 = .ok (.getfield 133, 3) := by decide +kernel
theorem dX3_planned_21 : decode cX3_planned 21 = .ok (.iconst 1, 1) := by decide +kernel
theorem dX3_planned_22 : decode cX3_planned 22 = .ok (.isub, 1) := by decide +kernel
theorem dX3_planned_23 : decode cX3_planned 23 = .ok (.invokestatic 30, 3) := by decide +kernel
theorem dX3_planned_26 : decode cX3_planned 26 = .ok (.aload_n 0, 1) := by decide +kernel
theorem dX3_planned_27 : decode cX3_planned 27 = .ok (.getfield 25, 3) := by decide +kernel
theorem dX3_planned_30 : decode cX3_planned 30 = .ok (.aload_n 0, 1) := by decide +kernel
theorem dX3_planned_31 : decode cX3_planned 31 = .ok (.getfield 12, 3) := by decide +kernel
theorem dX3_planned_34 : decode cX3_planned 34 = .ok (.aload_n 3, 1) := by decide +kernel
theorem dX3_planned_35 : decode cX3_planned 35 = .ok (.invokevirtual 126, 3) := by decide +kernel
theorem dX3_planned_38 : decode cX3_planned 38 = .ok (.aload_n 0, 1) := by decide +kernel
theorem dX3_planned_39 : decode cX3_planned 39 = .ok (.getfield 25, 3) := by decide +kernel
theorem dX3_planned_42 : decode cX3_planned 42 = .ok (.iload_n 2, 1) := by decide +kernel
theorem dX3_planned_43 : decode cX3_planned 43 = .ok (.invokevirtual 141, 3) := by decide +kernel
theorem dX3_planned_46 : decode cX3_planned 46 = .ok (.ireturn, 1) := by decide +kernel
theorem dX3_bestLeaving_0 : decode cX3_bestLeaving 0 = .ok (.aload_n 0, 1) := by decide +kernel
theorem dX3_bestLeaving_1 : decode cX3_bestLeaving 1 = .ok (.iload_n 1, 1) := by decide +kernel
theorem dX3_bestLeaving_2 : decode cX3_bestLeaving 2 = .ok (.invokevirtual 62, 3) := by decide +kernel
theorem dX3_bestLeaving_5 : decode cX3_bestLeaving 5 = .ok (.astore_n 3, 1) := by decide +kernel
theorem dX3_bestLeaving_6 : decode cX3_bestLeaving 6 = .ok (.iload_n 2, 1) := by decide +kernel
theorem dX3_bestLeaving_7 : decode cX3_bestLeaving 7 = .ok (.iconst 0, 1) := by decide +kernel
theorem dX3_bestLeaving_8 : decode cX3_bestLeaving 8 = .ok (.bipush 60, 2) := by decide +kernel
theorem dX3_bestLeaving_10 : decode cX3_bestLeaving 10 = .ok (.invokestatic 30, 3) := by decide +kernel
theorem dX3_bestLeaving_13 : decode cX3_bestLeaving 13 = .ok (.aload_n 0, 1) := by decide +kernel
theorem dX3_bestLeaving_14 : decode cX3_bestLeaving 14 = .ok (.getfield 25, 3) := by decide +kernel
theorem dX3_bestLeaving_17 : decode cX3_bestLeaving 17 = .ok (.aload_n 0, 1) := by decide +kernel
theorem dX3_bestLeaving_18 : decode cX3_bestLeaving 18 = .ok (.getfield 12, 3) := by decide +kernel
theorem dX3_bestLeaving_21 : decode cX3_bestLeaving 21 = .ok (.aload_n 3, 1) := by decide +kernel
theorem dX3_bestLeaving_22 : decode cX3_bestLeaving 22 = .ok (.invokevirtual 126, 3) := by decide +kernel
theorem dX3_bestLeaving_25 : decode cX3_bestLeaving 25 = .ok (.aload_n 0, 1) := by decide +kernel
theorem dX3_bestLeaving_26 : decode cX3_bestLeaving 26 = .ok (.getfield 25, 3) := by decide +kernel
theorem dX3_bestLeaving_29 : decode cX3_bestLeaving 29 = .ok (.iload_n 2, 1) := by decide +kernel
theorem dX3_bestLeaving_30 : decode cX3_bestLeaving 30 = .ok (.invokevirtual 130, 3) := by decide +kernel
theorem dX3_bestLeaving_33 : decode cX3_bestLeaving 33 = .ok (.ireturn, 1) := by decide +kernel
theorem dX3_requireWithin_0 : decode cX3_requireWithin 0 = .ok (.iload_n 0, 1) := by decide +kernel
theorem dX3_requireWithin_1 : decode cX3_requireWithin 1 = .ok (.iload_n 1, 1) := by decide +kernel
theorem dX3_requireWithin_2 : decode cX3_requireWithin 2 = .ok (.if_icmp .lt 8, 3) := by decide +kernel
theorem dX3_requireWithin_5 : decode cX3_requireWithin 5 = .ok (.iload_n 0, 1) := by decide +kernel
theorem dX3_requireWithin_6 : decode cX3_requireWithin 6 = .ok (.iload_n 2, 1) := by decide +kernel
theorem dX3_requireWithin_7 : decode cX3_requireWithin 7 = .ok (.if_icmp .le 13, 3) := by decide +kernel
theorem dX3_requireWithin_10 : decode cX3_requireWithin 10 = .ok (.new 105, 3) := by decide +kernel
theorem dX3_requireWithin_13 : decode cX3_requireWithin 13 = .ok (.dup, 1) := by decide +kernel
theorem dX3_requireWithin_14 : decode cX3_requireWithin 14 = .ok (.ldc 144, 2) := by decide +kernel
theorem dX3_requireWithin_16 : decode cX3_requireWithin 16 = .ok (.invokespecial 109, 3) := by decide +kernel
theorem dX3_requireWithin_19 : decode cX3_requireWithin 19 = .ok (.athrow, 1) := by decide +kernel
theorem dX3_requireWithin_20 : decode cX3_requireWithin 20 = .ok (.return_, 1) := by decide +kernel
theorem dX3_requireStep_0 : decode cX3_requireStep 0 = .ok (.iload_n 0, 1) := by decide +kernel
theorem dX3_requireStep_1 : decode cX3_requireStep 1 = .ok (.iconst 0, 1) := by decide +kernel
theorem dX3_requireStep_2 : decode cX3_requireStep 2 = .ok (.iconst 4, 1) := by decide +kernel
theorem dX3_requireStep_3 : decode cX3_requireStep 3 = .ok (.invokestatic 30, 3) := by decide +kernel
theorem dX3_requireStep_6 : decode cX3_requireStep 6 = .ok (.return_, 1) := by decide +kernel
theorem dX3_requireSize_0 : decode cX3_requireSize 0 = .ok (.iload_n 0, 1) := by decide +kernel
theorem dX3_requireSize_1 : decode cX3_requireSize 1 = .ok (.iconst 0, 1) := by decide +kernel
theorem dX3_requireSize_2 : decode cX3_requireSize 2 = .ok (.iconst 2, 1) := by decide +kernel
theorem dX3_requireSize_3 : decode cX3_requireSize 3 = .ok (.invokestatic 30, 3) := by decide +kernel
theorem dX3_requireSize_6 : decode cX3_requireSize 6 = .ok (.return_, 1) := by decide +kernel
theorem dX3_requireRoomFor_0 : decode cX3_requireRoomFor 0 = .ok (.aload_n 0, 1) := by decide +kernel
theorem dX3_requireRoomFor_1 : decode cX3_requireRoomFor 1 = .ok (.invokevirtual 146, 3) := by decide +kernel
theorem dX3_requireRoomFor_4 : decode cX3_requireRoomFor 4 = .ok (.iload_n 1, 1) := by decide +kernel
theorem dX3_requireRoomFor_5 : decode cX3_requireRoomFor 5 = .ok (.iadd, 1) := by decide +kernel
theorem dX3_requireRoomFor_6 : decode cX3_requireRoomFor 6 = .ok (.bipush 60, 2) := by decide +kernel
theorem dX3_requireRoomFor_8 : decode cX3_requireRoomFor 8 = .ok (.if_icmp .le 13, 3) := by decide +kernel
theorem dX3_requireRoomFor_11 : decode cX3_requireRoomFor 11 = .ok (.new 51, 3) := by decide +kernel
theorem dX3_requireRoomFor_14 : decode cX3_requireRoomFor 14 = .ok (.dup, 1) := by decide +kernel
theorem dX3_requireRoomFor_15 : decode cX3_requireRoomFor 15 = .ok (.ldc 149, 2) := by decide +kernel
theorem dX3_requireRoomFor_17 : decode cX3_requireRoomFor 17 = .ok (.invokespecial 55, 3) := by decide +kernel
theorem dX3_requireRoomFor_20 : decode cX3_requireRoomFor 20 = .ok (.athrow, 1) := by decide +kernel
theorem dX3_requireRoomFor_21 : decode cX3_requireRoomFor 21 = .ok (.return_, 1) := by decide +kernel
theorem dX3_requireSeasonOn_0 : decode cX3_requireSeasonOn 0 = .ok (.aload_n 0, 1) := by decide +kernel
theorem dX3_requireSeasonOn_1 : decode cX3_requireSeasonOn 1 = .ok (.getfield 12, 3) := by decide +kernel
theorem dX3_requireSeasonOn_4 : decode cX3_requireSeasonOn 4 = .ok (.getfield 34, 3) := by decide +kernel
theorem dX3_requireSeasonOn_7 : decode cX3_requireSeasonOn 7 = .ok (.aload_n 0, 1) := by decide +kernel
theorem dX3_requireSeasonOn_8 : decode cX3_requireSeasonOn 8 = .ok (.getfield 12, 3) := by decide +kernel
theorem dX3_requireSeasonOn_11 : decode cX3_requireSeasonOn 11 = .ok (.getfield 133, 3) := by decide +kernel
theorem dX3_requireSeasonOn_14 : decode cX3_requireSeasonOn 14 = .ok (.if_icmp .lt 13, 3) := by decide +kernel
theorem dX3_requireSeasonOn_17 : decode cX3_requireSeasonOn 17 = .ok (.new 51, 3) := by decide +kernel
theorem dX3_requireSeasonOn_20 : decode cX3_requireSeasonOn 20 = .ok (.dup, 1) := by decide +kernel
theorem dX3_requireSeasonOn_21 : decode cX3_requireSeasonOn 21 = .ok (.ldc 151, 2) := by decide +kernel
theorem dX3_requireSeasonOn_23 : decode cX3_requireSeasonOn 23 = .ok (.invokespecial 55, 3) := by decide +kernel
theorem dX3_requireSeasonOn_26 : decode cX3_requireSeasonOn 26 = .ok (.athrow, 1) := by decide +kernel
theorem dX3_requireSeasonOn_27 : decode cX3_requireSeasonOn 27 = .ok (.return_, 1) := by decide +kernel
theorem dX3_storeOf_0 : decode cX3_storeOf 0 = .ok (.iload_n 1, 1) := by decide +kernel
theorem dX3_storeOf_1 : decode cX3_storeOf 1 = .ok (.iconst 0, 1) := by decide +kernel
theorem dX3_storeOf_2 : decode cX3_storeOf 2 = .ok (.iconst 2, 1) := by decide +kernel
theorem dX3_storeOf_3 : decode cX3_storeOf 3 = .ok (.invokestatic 30, 3) := by decide +kernel
theorem dX3_storeOf_6 : decode cX3_storeOf 6 = .ok (.aload_n 0, 1) := by decide +kernel
theorem dX3_storeOf_7 : decode cX3_storeOf 7 = .ok (.getfield 18, 3) := by decide +kernel
theorem dX3_storeOf_10 : decode cX3_storeOf 10 = .ok (.iload_n 1, 1) := by decide +kernel
theorem dX3_storeOf_11 : decode cX3_storeOf 11 = .ok (.aaload, 1) := by decide +kernel
theorem dX3_storeOf_12 : decode cX3_storeOf 12 = .ok (.areturn, 1) := by decide +kernel
theorem dL_drawn_0 : decode cL_drawn 0 = .ok (.iload_n 1, 1) := by decide +kernel
theorem dL_drawn_1 : decode cL_drawn 1 = .ok (.aload_n 0, 1) := by decide +kernel
theorem dL_drawn_2 : decode cL_drawn 2 = .ok (.arraylength, 1) := by decide +kernel
theorem dL_drawn_3 : decode cL_drawn 3 = .ok (.if_icmp .ge 9, 3) := by decide +kernel
theorem dL_drawn_6 : decode cL_drawn 6 = .ok (.aload_n 0, 1) := by decide +kernel
theorem dL_drawn_7 : decode cL_drawn 7 = .ok (.iload_n 1, 1) := by decide +kernel
theorem dL_drawn_8 : decode cL_drawn 8 = .ok (.iaload, 1) := by decide +kernel
theorem dL_drawn_9 : decode cL_drawn 9 = .ok (.goto 12, 3) := by decide +kernel
theorem dL_drawn_12 : decode cL_drawn 12 = .ok (.sipush 12227, 3) := by decide +kernel
theorem dL_drawn_15 : decode cL_drawn 15 = .ok (.iload_n 1, 1) := by decide +kernel
theorem dL_drawn_16 : decode cL_drawn 16 = .ok (.imul, 1) := by decide +kernel
theorem dL_drawn_17 : decode cL_drawn 17 = .ok (.sipush 4507, 3) := by decide +kernel
theorem dL_drawn_20 : decode cL_drawn 20 = .ok (.iadd, 1) := by decide +kernel
theorem dL_drawn_21 : decode cL_drawn 21 = .ok (.istore_n 2, 1) := by decide +kernel
theorem dL_drawn_22 : decode cL_drawn 22 = .ok (.iload_n 2, 1) := by decide +kernel
theorem dL_drawn_23 : decode cL_drawn 23 = .ok (.ldc 7, 2) := by decide +kernel
theorem dL_drawn_25 : decode cL_drawn 25 = .ok (.iand, 1) := by decide +kernel
theorem dL_drawn_26 : decode cL_drawn 26 = .ok (.ireturn, 1) := by decide +kernel
theorem dL_does_0 : decode cL_does 0 = .ok (.iload_n 1, 1) := by decide +kernel
theorem dL_does_1 : decode cL_does 1 = .ok (.ifCond .ne 12, 3) := by decide +kernel
theorem dL_does_4 : decode cL_does 4 = .ok (.aload_n 0, 1) := by decide +kernel
theorem dL_does_5 : decode cL_does 5 = .ok (.iload 5, 2) := by decide +kernel
theorem dL_does_7 : decode cL_does 7 = .ok (.invokevirtual 8, 3) := by decide +kernel
theorem dL_does_10 : decode cL_does 10 = .ok (.goto 87, 3) := by decide +kernel
theorem dL_does_13 : decode cL_does 13 = .ok (.iload_n 1, 1) := by decide +kernel
theorem dL_does_14 : decode cL_does 14 = .ok (.iconst 1, 1) := by decide +kernel
theorem dL_does_15 : decode cL_does 15 = .ok (.if_icmp .ne 13, 3) := by decide +kernel
theorem dL_does_18 : decode cL_does 18 = .ok (.aload_n 0, 1) := by decide +kernel
theorem dL_does_19 : decode cL_does 19 = .ok (.iload_n 3, 1) := by decide +kernel
theorem dL_does_20 : decode cL_does 20 = .ok (.iload 5, 2) := by decide +kernel
theorem dL_does_22 : decode cL_does 22 = .ok (.invokevirtual 14, 3) := by decide +kernel
theorem dL_does_25 : decode cL_does 25 = .ok (.goto 72, 3) := by decide +kernel
theorem dL_does_28 : decode cL_does 28 = .ok (.iload_n 1, 1) := by decide +kernel
theorem dL_does_29 : decode cL_does 29 = .ok (.iconst 2, 1) := by decide +kernel
theorem dL_does_30 : decode cL_does 30 = .ok (.if_icmp .ne 14, 3) := by decide +kernel
theorem dL_does_33 : decode cL_does 33 = .ok (.aload_n 0, 1) := by decide +kernel
theorem dL_does_34 : decode cL_does 34 = .ok (.iload_n 2, 1) := by decide +kernel
theorem dL_does_35 : decode cL_does 35 = .ok (.iload_n 3, 1) := by decide +kernel
theorem dL_does_36 : decode cL_does 36 = .ok (.iload 5, 2) := by decide +kernel
theorem dL_does_38 : decode cL_does 38 = .ok (.invokevirtual 18, 3) := by decide +kernel
theorem dL_does_41 : decode cL_does 41 = .ok (.goto 56, 3) := by decide +kernel
theorem dL_does_44 : decode cL_does 44 = .ok (.iload_n 1, 1) := by decide +kernel
theorem dL_does_45 : decode cL_does 45 = .ok (.iconst 3, 1) := by decide +kernel
theorem dL_does_46 : decode cL_does 46 = .ok (.if_icmp .ne 15, 3) := by decide +kernel
theorem dL_does_49 : decode cL_does 49 = .ok (.aload_n 0, 1) := by decide +kernel
theorem dL_does_50 : decode cL_does 50 = .ok (.iload_n 2, 1) := by decide +kernel
theorem dL_does_51 : decode cL_does 51 = .ok (.iload 4, 2) := by decide +kernel
theorem dL_does_53 : decode cL_does 53 = .ok (.iload 5, 2) := by decide +kernel
theorem dL_does_55 : decode cL_does 55 = .ok (.invokevirtual 22, 3) := by decide +kernel
theorem dL_does_58 : decode cL_does 58 = .ok (.goto 39, 3) := by decide +kernel
theorem dL_does_61 : decode cL_does 61 = .ok (.iload_n 1, 1) := by decide +kernel
theorem dL_does_62 : decode cL_does 62 = .ok (.iconst 4, 1) := by decide +kernel
theorem dL_does_63 : decode cL_does 63 = .ok (.if_icmp .ne 16, 3) := by decide +kernel
theorem dL_does_66 : decode cL_does 66 = .ok (.aload_n 0, 1) := by decide +kernel
theorem dL_does_67 : decode cL_does 67 = .ok (.iload_n 2, 1) := by decide +kernel
theorem dL_does_68 : decode cL_does 68 = .ok (.iload_n 3, 1) := by decide +kernel
theorem dL_does_69 : decode cL_does 69 = .ok (.iload 4, 2) := by decide +kernel
theorem dL_does_71 : decode cL_does 71 = .ok (.iload 5, 2) := by decide +kernel
theorem dL_does_73 : decode cL_does 73 = .ok (.invokevirtual 25, 3) := by decide +kernel
theorem dL_does_76 : decode cL_does 76 = .ok (.goto 21, 3) := by decide +kernel
theorem dL_does_79 : decode cL_does 79 = .ok (.iload_n 1, 1) := by decide +kernel
theorem dL_does_80 : decode cL_does 80 = .ok (.iconst 5, 1) := by decide +kernel
theorem dL_does_81 : decode cL_does 81 = .ok (.if_icmp .ne 12, 3) := by decide +kernel
theorem dL_does_84 : decode cL_does 84 = .ok (.aload_n 0, 1) := by decide +kernel
theorem dL_does_85 : decode cL_does 85 = .ok (.iload_n 2, 1) := by decide +kernel
theorem dL_does_86 : decode cL_does 86 = .ok (.iload_n 3, 1) := by decide +kernel
theorem dL_does_87 : decode cL_does 87 = .ok (.invokevirtual 29, 3) := by decide +kernel
theorem dL_does_90 : decode cL_does 90 = .ok (.goto 7, 3) := by decide +kernel
theorem dL_does_93 : decode cL_does 93 = .ok (.aload_n 0, 1) := by decide +kernel
theorem dL_does_94 : decode cL_does 94 = .ok (.invokevirtual 32, 3) := by decide +kernel
theorem dL_does_97 : decode cL_does 97 = .ok (.ireturn, 1) := by decide +kernel
theorem dL_does_98 : decode cL_does 98 = .ok (.astore 6, 2) := by decide +kernel
theorem dL_does_100 : decode cL_does 100 = .ok (.ldc 38, 2) := by decide +kernel
theorem dL_does_102 : decode cL_does 102 = .ok (.ireturn, 1) := by decide +kernel
theorem dL_does_103 : decode cL_does 103 = .ok (.astore 6, 2) := by decide +kernel
theorem dL_does_105 : decode cL_does 105 = .ok (.ldc 38, 2) := by decide +kernel
theorem dL_does_107 : decode cL_does 107 = .ok (.ireturn, 1) := by decide +kernel
theorem dL_rules_0 : decode cL_rules 0 = .ok (.aload_n 0, 1) := by decide +kernel
theorem dL_rules_1 : decode cL_rules 1 = .ok (.iload_n 1, 1) := by decide +kernel
theorem dL_rules_2 : decode cL_rules 2 = .ok (.iload_n 2, 1) := by decide +kernel
theorem dL_rules_3 : decode cL_rules 3 = .ok (.iload_n 3, 1) := by decide +kernel
theorem dL_rules_4 : decode cL_rules 4 = .ok (.invokevirtual 41, 3) := by decide +kernel
theorem dL_rules_7 : decode cL_rules 7 = .ok (.goto 7, 3) := by decide +kernel
theorem dL_rules_10 : decode cL_rules 10 = .ok (.astore 4, 2) := by decide +kernel
theorem dL_rules_12 : decode cL_rules 12 = .ok (.iconst 0, 1) := by decide +kernel
theorem dL_rules_13 : decode cL_rules 13 = .ok (.ireturn, 1) := by decide +kernel
theorem dL_rules_14 : decode cL_rules 14 = .ok (.iconst 1, 1) := by decide +kernel
theorem dL_rules_15 : decode cL_rules 15 = .ok (.ireturn, 1) := by decide +kernel
theorem dL_of_0 : decode cL_of 0 = .ok (.iload_n 1, 1) := by decide +kernel
theorem dL_of_1 : decode cL_of 1 = .ok (.ifCond .ne 12, 3) := by decide +kernel
theorem dL_of_4 : decode cL_of 4 = .ok (.aload_n 0, 1) := by decide +kernel
theorem dL_of_5 : decode cL_of 5 = .ok (.iload_n 2, 1) := by decide +kernel
theorem dL_of_6 : decode cL_of 6 = .ok (.iload_n 3, 1) := by decide +kernel
theorem dL_of_7 : decode cL_of 7 = .ok (.invokevirtual 45, 3) := by decide +kernel
theorem dL_of_10 : decode cL_of 10 = .ok (.goto 90, 3) := by decide +kernel
theorem dL_of_13 : decode cL_of 13 = .ok (.iload_n 1, 1) := by decide +kernel
theorem dL_of_14 : decode cL_of 14 = .ok (.iconst 1, 1) := by decide +kernel
theorem dL_of_15 : decode cL_of 15 = .ok (.if_icmp .ne 12, 3) := by decide +kernel
theorem dL_of_18 : decode cL_of 18 = .ok (.aload_n 0, 1) := by decide +kernel
theorem dL_of_19 : decode cL_of 19 = .ok (.iload_n 2, 1) := by decide +kernel
theorem dL_of_20 : decode cL_of 20 = .ok (.iload_n 3, 1) := by decide +kernel
theorem dL_of_21 : decode cL_of 21 = .ok (.invokevirtual 48, 3) := by decide +kernel
theorem dL_of_24 : decode cL_of 24 = .ok (.goto 76, 3) := by decide +kernel
theorem dL_of_27 : decode cL_of 27 = .ok (.iload_n 1, 1) := by decide +kernel
theorem dL_of_28 : decode cL_of 28 = .ok (.iconst 2, 1) := by decide +kernel
theorem dL_of_29 : decode cL_of 29 = .ok (.if_icmp .ne 11, 3) := by decide +kernel
theorem dL_of_32 : decode cL_of 32 = .ok (.aload_n 0, 1) := by decide +kernel
theorem dL_of_33 : decode cL_of 33 = .ok (.iload_n 2, 1) := by decide +kernel
theorem dL_of_34 : decode cL_of 34 = .ok (.invokevirtual 51, 3) := by decide +kernel
theorem dL_of_37 : decode cL_of 37 = .ok (.goto 63, 3) := by decide +kernel
theorem dL_of_40 : decode cL_of 40 = .ok (.iload_n 1, 1) := by decide +kernel
theorem dL_of_41 : decode cL_of 41 = .ok (.iconst 3, 1) := by decide +kernel
theorem dL_of_42 : decode cL_of 42 = .ok (.if_icmp .ne 11, 3) := by decide +kernel
theorem dL_of_45 : decode cL_of 45 = .ok (.aload_n 0, 1) := by decide +kernel
theorem dL_of_46 : decode cL_of 46 = .ok (.iload_n 2, 1) := by decide +kernel
theorem dL_of_47 : decode cL_of 47 = .ok (.invokevirtual 54, 3) := by decide +kernel
theorem dL_of_50 : decode cL_of 50 = .ok (.goto 50, 3) := by decide +kernel
theorem dL_of_53 : decode cL_of 53 = .ok (.iload_n 1, 1) := by decide +kernel
theorem dL_of_54 : decode cL_of 54 = .ok (.iconst 4, 1) := by decide +kernel
theorem dL_of_55 : decode cL_of 55 = .ok (.if_icmp .ne 11, 3) := by decide +kernel
theorem dL_of_58 : decode cL_of 58 = .ok (.aload_n 0, 1) := by decide +kernel
theorem dL_of_59 : decode cL_of 59 = .ok (.iload_n 2, 1) := by decide +kernel
theorem dL_of_60 : decode cL_of 60 = .ok (.invokevirtual 57, 3) := by decide +kernel
theorem dL_of_63 : decode cL_of 63 = .ok (.goto 37, 3) := by decide +kernel
theorem dL_of_66 : decode cL_of 66 = .ok (.iload_n 1, 1) := by decide +kernel
theorem dL_of_67 : decode cL_of 67 = .ok (.iconst 5, 1) := by decide +kernel
theorem dL_of_68 : decode cL_of 68 = .ok (.if_icmp .ne 11, 3) := by decide +kernel
theorem dL_of_71 : decode cL_of 71 = .ok (.aload_n 0, 1) := by decide +kernel
theorem dL_of_72 : decode cL_of 72 = .ok (.iload_n 2, 1) := by decide +kernel
theorem dL_of_73 : decode cL_of 73 = .ok (.invokevirtual 60, 3) := by decide +kernel
theorem dL_of_76 : decode cL_of 76 = .ok (.goto 24, 3) := by decide +kernel
theorem dL_of_79 : decode cL_of 79 = .ok (.iload_n 1, 1) := by decide +kernel
theorem dL_of_80 : decode cL_of 80 = .ok (.bipush 6, 2) := by decide +kernel
theorem dL_of_82 : decode cL_of 82 = .ok (.if_icmp .ne 12, 3) := by decide +kernel
theorem dL_of_85 : decode cL_of 85 = .ok (.aload_n 0, 1) := by decide +kernel
theorem dL_of_86 : decode cL_of 86 = .ok (.iload_n 2, 1) := by decide +kernel
theorem dL_of_87 : decode cL_of 87 = .ok (.iload_n 3, 1) := by decide +kernel
theorem dL_of_88 : decode cL_of 88 = .ok (.invokevirtual 63, 3) := by decide +kernel
theorem dL_of_91 : decode cL_of 91 = .ok (.goto 9, 3) := by decide +kernel
theorem dL_of_94 : decode cL_of 94 = .ok (.aload_n 0, 1) := by decide +kernel
theorem dL_of_95 : decode cL_of 95 = .ok (.iload_n 2, 1) := by decide +kernel
theorem dL_of_96 : decode cL_of 96 = .ok (.iload_n 3, 1) := by decide +kernel
theorem dL_of_97 : decode cL_of 97 = .ok (.invokevirtual 66, 3) := by decide +kernel
theorem dL_of_100 : decode cL_of 100 = .ok (.ireturn, 1) := by decide +kernel
theorem dL_of_101 : decode cL_of 101 = .ok (.astore 4, 2) := by decide +kernel
theorem dL_of_103 : decode cL_of 103 = .ok (.ldc 38, 2) := by decide +kernel
theorem dL_of_105 : decode cL_of 105 = .ok (.ireturn, 1) := by decide +kernel
