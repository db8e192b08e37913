theorem dX0_init_0 : decode cX0_init 0 = .ok (.aload_n 0, 1) := by decide +kernel
theorem dX0_init_1 : decode cX0_init 1 = .ok (.invokespecial 3, 3) := by decide +kernel
theorem dX0_init_4 : decode cX0_init 4 = .ok (.aload_n 0, 1) := by decide +kernel
theorem dX0_init_5 : decode cX0_init 5 = .ok (.iconst 5, 1) := by decide +kernel
theorem dX0_init_6 : decode cX0_init 6 = .ok (.newarray .int, 2) := by decide +kernel
theorem dX0_init_8 : decode cX0_init 8 = .ok (.putfield 9, 3) := by decide +kernel
theorem dX0_init_11 : decode cX0_init 11 = .ok (.aload_n 0, 1) := by decide +kernel
theorem dX0_init_12 : decode cX0_init 12 = .ok (.iconst 5, 1) := by decide +kernel
theorem dX0_init_13 : decode cX0_init 13 = .ok (.newarray .int, 2) := by decide +kernel
theorem dX0_init_15 : decode cX0_init 15 = .ok (.putfield 15, 3) := by decide +kernel
theorem dX0_init_18 : decode cX0_init 18 = .ok (.aload_n 0, 1) := by decide +kernel
theorem dX0_init_19 : decode cX0_init 19 = .ok (.sipush 3050, 3) := by decide +kernel
theorem dX0_init_22 : decode cX0_init 22 = .ok (.newarray .int, 2) := by decide +kernel
theorem dX0_init_24 : decode cX0_init 24 = .ok (.putfield 18, 3) := by decide +kernel
theorem dX0_init_27 : decode cX0_init 27 = .ok (.aload_n 0, 1) := by decide +kernel
theorem dX0_init_28 : decode cX0_init 28 = .ok (.bipush 6, 2) := by decide +kernel
theorem dX0_init_30 : decode cX0_init 30 = .ok (.newarray .int, 2) := by decide +kernel
theorem dX0_init_32 : decode cX0_init 32 = .ok (.putfield 21, 3) := by decide +kernel
theorem dX0_init_35 : decode cX0_init 35 = .ok (.return_, 1) := by decide +kernel
theorem dX0_lookAt_0 : decode cX0_lookAt 0 = .ok (.aload_n 1, 1) := by decide +kernel
theorem dX0_lookAt_1 : decode cX0_lookAt 1 = .ok (.getfield 24, 3) := by decide +kernel
theorem dX0_lookAt_4 : decode cX0_lookAt 4 = .ok (.iconst 0, 1) := by decide +kernel
theorem dX0_lookAt_5 : decode cX0_lookAt 5 = .ok (.aload_n 0, 1) := by decide +kernel
theorem dX0_lookAt_6 : decode cX0_lookAt 6 = .ok (.getfield 9, 3) := by decide +kernel
theorem dX0_lookAt_9 : decode cX0_lookAt 9 = .ok (.iconst 0, 1) := by decide +kernel
theorem dX0_lookAt_10 : decode cX0_lookAt 10 = .ok (.iconst 5, 1) := by decide +kernel
theorem dX0_lookAt_11 : decode cX0_lookAt 11 = .ok (.invokestatic 27, 3) := by decide +kernel
theorem dX0_lookAt_14 : decode cX0_lookAt 14 = .ok (.aload_n 2, 1) := by decide +kernel
theorem dX0_lookAt_15 : decode cX0_lookAt 15 = .ok (.getfield 33, 3) := by decide +kernel
theorem dX0_lookAt_18 : decode cX0_lookAt 18 = .ok (.iconst 0, 1) := by decide +kernel
theorem dX0_lookAt_19 : decode cX0_lookAt 19 = .ok (.aload_n 0, 1) := by decide +kernel
theorem dX0_lookAt_20 : decode cX0_lookAt 20 = .ok (.getfield 15, 3) := by decide +kernel
theorem dX0_lookAt_23 : decode cX0_lookAt 23 = .ok (.iconst 0, 1) := by decide +kernel
theorem dX0_lookAt_24 : decode cX0_lookAt 24 = .ok (.iconst 5, 1) := by decide +kernel
theorem dX0_lookAt_25 : decode cX0_lookAt 25 = .ok (.invokestatic 27, 3) := by decide +kernel
theorem dX0_lookAt_28 : decode cX0_lookAt 28 = .ok (.aload_n 0, 1) := by decide +kernel
theorem dX0_lookAt_29 : decode cX0_lookAt 29 = .ok (.aload_n 1, 1) := by decide +kernel
theorem dX0_lookAt_30 : decode cX0_lookAt 30 = .ok (.getfield 36, 3) := by decide +kernel
theorem dX0_lookAt_33 : decode cX0_lookAt 33 = .ok (.putfield 40, 3) := by decide +kernel
theorem dX0_lookAt_36 : decode cX0_lookAt 36 = .ok (.aload_n 0, 1) := by decide +kernel
theorem dX0_lookAt_37 : decode cX0_lookAt 37 = .ok (.aload_n 1, 1) := by decide +kernel
theorem dX0_lookAt_38 : decode cX0_lookAt 38 = .ok (.getfield 43, 3) := by decide +kernel
theorem dX0_lookAt_41 : decode cX0_lookAt 41 = .ok (.putfield 46, 3) := by decide +kernel
theorem dX0_lookAt_44 : decode cX0_lookAt 44 = .ok (.aload_n 0, 1) := by decide +kernel
theorem dX0_lookAt_45 : decode cX0_lookAt 45 = .ok (.aload_n 1, 1) := by decide +kernel
theorem dX0_lookAt_46 : decode cX0_lookAt 46 = .ok (.getfield 49, 3) := by decide +kernel
theorem dX0_lookAt_49 : decode cX0_lookAt 49 = .ok (.putfield 52, 3) := by decide +kernel
theorem dX0_lookAt_52 : decode cX0_lookAt 52 = .ok (.aload_n 0, 1) := by decide +kernel
theorem dX0_lookAt_53 : decode cX0_lookAt 53 = .ok (.aload_n 1, 1) := by decide +kernel
theorem dX0_lookAt_54 : decode cX0_lookAt 54 = .ok (.getfield 53, 3) := by decide +kernel
theorem dX0_lookAt_57 : decode cX0_lookAt 57 = .ok (.putfield 56, 3) := by decide +kernel
theorem dX0_lookAt_60 : decode cX0_lookAt 60 = .ok (.aload_n 0, 1) := by decide +kernel
theorem dX0_lookAt_61 : decode cX0_lookAt 61 = .ok (.aload_n 0, 1) := by decide +kernel
theorem dX0_lookAt_62 : decode cX0_lookAt 62 = .ok (.getfield 46, 3) := by decide +kernel
theorem dX0_lookAt_65 : decode cX0_lookAt 65 = .ok (.aload_n 0, 1) := by decide +kernel
theorem dX0_lookAt_66 : decode cX0_lookAt 66 = .ok (.getfield 40, 3) := by decide +kernel
theorem dX0_lookAt_69 : decode cX0_lookAt 69 = .ok (.aload_n 2, 1) := by decide +kernel
theorem dX0_lookAt_70 : decode cX0_lookAt 70 = .ok (.aload_n 0, 1) := by decide +kernel
theorem dX0_lookAt_71 : decode cX0_lookAt 71 = .ok (.getfield 40, 3) := by decide +kernel
theorem dX0_lookAt_74 : decode cX0_lookAt 74 = .ok (.aload_n 0, 1) := by decide +kernel
theorem dX0_lookAt_75 : decode cX0_lookAt 75 = .ok (.getfield 52, 3) := by decide +kernel
theorem dX0_lookAt_78 : decode cX0_lookAt 78 = .ok (.invokevirtual 57, 3) := by decide +kernel
theorem dX0_lookAt_81 : decode cX0_lookAt 81 = .ok (.iadd, 1) := by decide +kernel
theorem dX0_lookAt_82 : decode cX0_lookAt 82 = .ok (.invokestatic 61, 3) := by decide +kernel
theorem dX0_lookAt_85 : decode cX0_lookAt 85 = .ok (.putfield 66, 3) := by decide +kernel
theorem dX0_lookAt_88 : decode cX0_lookAt 88 = .ok (.aload_n 0, 1) := by decide +kernel
theorem dX0_lookAt_89 : decode cX0_lookAt 89 = .ok (.aload_n 2, 1) := by decide +kernel
theorem dX0_lookAt_90 : decode cX0_lookAt 90 = .ok (.getfield 69, 3) := by decide +kernel
theorem dX0_lookAt_93 : decode cX0_lookAt 93 = .ok (.putfield 72, 3) := by decide +kernel
theorem dX0_lookAt_96 : decode cX0_lookAt 96 = .ok (.aload_n 0, 1) := by decide +kernel
theorem dX0_lookAt_97 : decode cX0_lookAt 97 = .ok (.aload_n 2, 1) := by decide +kernel
theorem dX0_lookAt_98 : decode cX0_lookAt 98 = .ok (.invokevirtual 75, 3) := by decide +kernel
theorem dX0_lookAt_101 : decode cX0_lookAt 101 = .ok (.putfield 79, 3) := by decide +kernel
theorem dX0_lookAt_104 : decode cX0_lookAt 104 = .ok (.return_, 1) := by decide +kernel
theorem dX0_greatestWorth_0 : decode cX0_greatestWorth 0 = .ok (.aload_n 0, 1) := by decide +kernel
theorem dX0_greatestWorth_1 : decode cX0_greatestWorth 1 = .ok (.iload_n 1, 1) := by decide +kernel
theorem dX0_greatestWorth_2 : decode cX0_greatestWorth 2 = .ok (.invokevirtual 82, 3) := by decide +kernel
theorem dX0_greatestWorth_5 : decode cX0_greatestWorth 5 = .ok (.aload_n 0, 1) := by decide +kernel
theorem dX0_greatestWorth_6 : decode cX0_greatestWorth 6 = .ok (.aload_n 0, 1) := by decide +kernel
theorem dX0_greatestWorth_7 : decode cX0_greatestWorth 7 = .ok (.getfield 40, 3) := by decide +kernel
theorem dX0_greatestWorth_10 : decode cX0_greatestWorth 10 = .ok (.aload_n 0, 1) := by decide +kernel
theorem dX0_greatestWorth_11 : decode cX0_greatestWorth 11 = .ok (.getfield 72, 3) := by decide +kernel
theorem dX0_greatestWorth_14 : decode cX0_greatestWorth 14 = .ok (.aload_n 0, 1) := by decide +kernel
theorem dX0_greatestWorth_15 : decode cX0_greatestWorth 15 = .ok (.getfield 66, 3) := by decide +kernel
theorem dX0_greatestWorth_18 : decode cX0_greatestWorth 18 = .ok (.aload_n 0, 1) := by decide +kernel
theorem dX0_greatestWorth_19 : decode cX0_greatestWorth 19 = .ok (.getfield 40, 3) := by decide +kernel
theorem dX0_greatestWorth_22 : decode cX0_greatestWorth 22 = .ok (.isub, 1) := by decide +kernel
theorem dX0_greatestWorth_23 : decode cX0_greatestWorth 23 = .ok (.aload_n 0, 1) := by decide +kernel
theorem dX0_greatestWorth_24 : decode cX0_greatestWorth 24 = .ok (.getfield 79, 3) := by decide +kernel
theorem dX0_greatestWorth_27 : decode cX0_greatestWorth 27 = .ok (.invokevirtual 86, 3) := by decide +kernel
theorem dX0_greatestWorth_30 : decode cX0_greatestWorth 30 = .ok (.ireturn, 1) := by decide +kernel
theorem dX0_bestStepIn_0 : decode cX0_bestStepIn 0 = .ok (.aload_n 0, 1) := by decide +kernel
theorem dX0_bestStepIn_1 : decode cX0_bestStepIn 1 = .ok (.bipush 60, 2) := by decide +kernel
theorem dX0_bestStepIn_3 : decode cX0_bestStepIn 3 = .ok (.invokevirtual 82, 3) := by decide +kernel
theorem dX0_bestStepIn_6 : decode cX0_bestStepIn 6 = .ok (.aload_n 0, 1) := by decide +kernel
theorem dX0_bestStepIn_7 : decode cX0_bestStepIn 7 = .ok (.getfield 72, 3) := by decide +kernel
theorem dX0_bestStepIn_10 : decode cX0_bestStepIn 10 = .ok (.istore_n 2, 1) := by decide +kernel
theorem dX0_bestStepIn_11 : decode cX0_bestStepIn 11 = .ok (.aload_n 0, 1) := by decide +kernel
theorem dX0_bestStepIn_12 : decode cX0_bestStepIn 12 = .ok (.getfield 79, 3) := by decide +kernel
theorem dX0_bestStepIn_15 : decode cX0_bestStepIn 15 = .ok (.istore_n 3, 1) := by decide +kernel
theorem dX0_bestStepIn_16 : decode cX0_bestStepIn 16 = .ok (.aload_n 0, 1) := by decide +kernel
theorem dX0_bestStepIn_17 : decode cX0_bestStepIn 17 = .ok (.getfield 66, 3) := by decide +kernel
theorem dX0_bestStepIn_20 : decode cX0_bestStepIn 20 = .ok (.istore 4, 2) := by decide +kernel
theorem dX0_bestStepIn_22 : decode cX0_bestStepIn 22 = .ok (.aload_n 0, 1) := by decide +kernel
theorem dX0_bestStepIn_23 : decode cX0_bestStepIn 23 = .ok (.getfield 40, 3) := by decide +kernel
theorem dX0_bestStepIn_26 : decode cX0_bestStepIn 26 = .ok (.istore 5, 2) := by decide +kernel
theorem dX0_bestStepIn_28 : decode cX0_bestStepIn 28 = .ok (.iload 5, 2) := by decide +kernel
theorem dX0_bestStepIn_30 : decode cX0_bestStepIn 30 = .ok (.iload_n 1, 1) := by decide +kernel
theorem dX0_bestStepIn_31 : decode cX0_bestStepIn 31 = .ok (.if_icmp .gt 62, 3) := by decide +kernel
theorem dX0_bestStepIn_34 : decode cX0_bestStepIn 34 = .ok (.iload 5, 2) := by decide +kernel
theorem dX0_bestStepIn_36 : decode cX0_bestStepIn 36 = .ok (.iload 4, 2) := by decide +kernel
theorem dX0_bestStepIn_38 : decode cX0_bestStepIn 38 = .ok (.if_icmp .lt 36, 3) := by decide +kernel
theorem dX0_bestStepIn_41 : decode cX0_bestStepIn 41 = .ok (.aload_n 0, 1) := by decide +kernel
theorem dX0_bestStepIn_42 : decode cX0_bestStepIn 42 = .ok (.iload 5, 2) := by decide +kernel
theorem dX0_bestStepIn_44 : decode cX0_bestStepIn 44 = .ok (.iload_n 2, 1) := by decide +kernel
theorem dX0_bestStepIn_45 : decode cX0_bestStepIn 45 = .ok (.iload_n 3, 1) := by decide +kernel
theorem dX0_bestStepIn_46 : decode cX0_bestStepIn 46 = .ok (.invokevirtual 90, 3) := by decide +kernel
theorem dX0_bestStepIn_49 : decode cX0_bestStepIn 49 = .ok (.istore 6, 2) := by decide +kernel
theorem dX0_bestStepIn_51 : decode cX0_bestStepIn 51 = .ok (.iload 6, 2) := by decide +kernel
theorem dX0_bestStepIn_53 : decode cX0_bestStepIn 53 = .ok (.iload_n 2, 1) := by decide +kernel
theorem dX0_bestStepIn_54 : decode cX0_bestStepIn 54 = .ok (.if_icmp .le 13, 3) := by decide +kernel
theorem dX0_bestStepIn_57 : decode cX0_bestStepIn 57 = .ok (.iload 5, 2) := by decide +kernel
theorem dX0_bestStepIn_59 : decode cX0_bestStepIn 59 = .ok (.aload_n 0, 1) := by decide +kernel
theorem dX0_bestStepIn_60 : decode cX0_bestStepIn 60 = .ok (.getfield 52, 3) := by decide +kernel
theorem dX0_bestStepIn_63 : decode cX0_bestStepIn 63 = .ok (.iadd, 1) := by decide +kernel
theorem dX0_bestStepIn_64 : decode cX0_bestStepIn 64 = .ok (.goto 5, 3) := by decide +kernel
theorem dX0_bestStepIn_67 : decode cX0_bestStepIn 67 = .ok (.iload 4, 2) := by decide +kernel
theorem dX0_bestStepIn_69 : decode cX0_bestStepIn 69 = .ok (.istore 4, 2) := by decide +kernel
theorem dX0_bestStepIn_71 : decode cX0_bestStepIn 71 = .ok (.iload 6, 2) := by decide +kernel
theorem dX0_bestStepIn_73 : decode cX0_bestStepIn 73 = .ok (.istore_n 2, 1) := by decide +kernel
theorem dX0_bestStepIn_74 : decode cX0_bestStepIn 74 = .ok (.iload_n 3, 1) := by decide +kernel
theorem dX0_bestStepIn_75 : decode cX0_bestStepIn 75 = .ok (.iload_n 3, 1) := by decide +kernel
theorem dX0_bestStepIn_76 : decode cX0_bestStepIn 76 = .ok (.aload_n 0, 1) := by decide +kernel
theorem dX0_bestStepIn_77 : decode cX0_bestStepIn 77 = .ok (.getfield 15, 3) := by decide +kernel
theorem dX0_bestStepIn_80 : decode cX0_bestStepIn 80 = .ok (.iload_n 2, 1) := by decide +kernel
theorem dX0_bestStepIn_81 : decode cX0_bestStepIn 81 = .ok (.iaload, 1) := by decide +kernel
theorem dX0_bestStepIn_82 : decode cX0_bestStepIn 82 = .ok (.invokestatic 61, 3) := by decide +kernel
theorem dX0_bestStepIn_85 : decode cX0_bestStepIn 85 = .ok (.isub, 1) := by decide +kernel
theorem dX0_bestStepIn_86 : decode cX0_bestStepIn 86 = .ok (.istore_n 3, 1) := by decide +kernel
theorem dX0_bestStepIn_87 : decode cX0_bestStepIn 87 = .ok (.iinc 5 1, 3) := by decide +kernel
theorem dX0_bestStepIn_90 : decode cX0_bestStepIn 90 = .ok (.goto (-62), 3) := by decide +kernel
theorem dX0_bestStepIn_93 : decode cX0_bestStepIn 93 = .ok (.iload_n 2, 1) := by decide +kernel
theorem dX0_bestStepIn_94 : decode cX0_bestStepIn 94 = .ok (.ireturn, 1) := by decide +kernel
theorem dX0_tellWorths_0 : decode cX0_tellWorths 0 = .ok (.aload_n 0, 1) := by decide +kernel
theorem dX0_tellWorths_1 : decode cX0_tellWorths 1 = .ok (.iload_n 1, 1) := by decide +kernel
theorem dX0_tellWorths_2 : decode cX0_tellWorths 2 = .ok (.putfield 94, 3) := by decide +kernel
theorem dX0_tellWorths_5 : decode cX0_tellWorths 5 = .ok (.aload_n 0, 1) := by decide +kernel
theorem dX0_tellWorths_6 : decode cX0_tellWorths 6 = .ok (.getfield 46, 3) := by decide +kernel
theorem dX0_tellWorths_9 : decode cX0_tellWorths 9 = .ok (.iconst 1, 1) := by decide +kernel
theorem dX0_tellWorths_10 : decode cX0_tellWorths 10 = .ok (.isub, 1) := by decide +kernel
theorem dX0_tellWorths_11 : decode cX0_tellWorths 11 = .ok (.istore_n 2, 1) := by decide +kernel
theorem dX0_tellWorths_12 : decode cX0_tellWorths 12 = .ok (.iload_n 2, 1) := by decide +kernel
theorem dX0_tellWorths_13 : decode cX0_tellWorths 13 = .ok (.aload_n 0, 1) := by decide +kernel
theorem dX0_tellWorths_14 : decode cX0_tellWorths 14 = .ok (.getfield 66, 3) := by decide +kernel
theorem dX0_tellWorths_17 : decode cX0_tellWorths 17 = .ok (.if_icmp .lt 63, 3) := by decide +kernel
theorem dX0_tellWorths_20 : decode cX0_tellWorths 20 = .ok (.aload_n 0, 1) := by decide +kernel
theorem dX0_tellWorths_21 : decode cX0_tellWorths 21 = .ok (.getfield 72, 3) := by decide +kernel
theorem dX0_tellWorths_24 : decode cX0_tellWorths 24 = .ok (.istore_n 3, 1) := by decide +kernel
theorem dX0_tellWorths_25 : decode cX0_tellWorths 25 = .ok (.iload_n 3, 1) := by decide +kernel
theorem dX0_tellWorths_26 : decode cX0_tellWorths 26 = .ok (.iconst 5, 1) := by decide +kernel
theorem dX0_tellWorths_27 : decode cX0_tellWorths 27 = .ok (.if_icmp .ge 47, 3) := by decide +kernel
theorem dX0_tellWorths_30 : decode cX0_tellWorths 30 = .ok (.iconst 0, 1) := by decide +kernel
theorem dX0_tellWorths_31 : decode cX0_tellWorths 31 = .ok (.istore 4, 2) := by decide +kernel
theorem dX0_tellWorths_33 : decode cX0_tellWorths 33 = .ok (.iload 4, 2) := by decide +kernel
theorem dX0_tellWorths_35 : decode cX0_tellWorths 35 = .ok (.aload_n 0, 1) := by decide +kernel
theorem dX0_tellWorths_36 : decode cX0_tellWorths 36 = .ok (.getfield 79, 3) := by decide +kernel
theorem dX0_tellWorths_39 : decode cX0_tellWorths 39 = .ok (.if_icmp .gt 29, 3) := by decide +kernel
theorem dX0_tellWorths_42 : decode cX0_tellWorths 42 = .ok (.aload_n 0, 1) := by decide +kernel
theorem dX0_tellWorths_43 : decode cX0_tellWorths 43 = .ok (.getfield 18, 3) := by decide +kernel
theorem dX0_tellWorths_46 : decode cX0_tellWorths 46 = .ok (.iload_n 2, 1) := by decide +kernel
theorem dX0_tellWorths_47 : decode cX0_tellWorths 47 = .ok (.iload_n 3, 1) := by decide +kernel
theorem dX0_tellWorths_48 : decode cX0_tellWorths 48 = .ok (.iload 4, 2) := by decide +kernel
theorem dX0_tellWorths_50 : decode cX0_tellWorths 50 = .ok (.invokestatic 97, 3) := by decide +kernel
theorem dX0_tellWorths_53 : decode cX0_tellWorths 53 = .ok (.aload_n 0, 1) := by decide +kernel
theorem dX0_tellWorths_54 : decode cX0_tellWorths 54 = .ok (.iload_n 2, 1) := by decide +kernel
theorem dX0_tellWorths_55 : decode cX0_tellWorths 55 = .ok (.iload_n 3, 1) := by decide +kernel
theorem dX0_tellWorths_56 : decode cX0_tellWorths 56 = .ok (.iload 4, 2) := by decide +kernel
theorem dX0_tellWorths_58 : decode cX0_tellWorths 58 = .ok (.invokevirtual 100, 3) := by decide +kernel
theorem dX0_tellWorths_61 : decode cX0_tellWorths 61 = .ok (.iastore, 1) := by decide +kernel
theorem dX0_tellWorths_62 : decode cX0_tellWorths 62 = .ok (.iinc 4 1, 3) := by decide +kernel
theorem dX0_tellWorths_65 : decode cX0_tellWorths 65 = .ok (.goto (-32), 3) := by decide +kernel
theorem dX0_tellWorths_68 : decode cX0_tellWorths 68 = .ok (.iinc 3 1, 3) := by decide +kernel
theorem dX0_tellWorths_71 : decode cX0_tellWorths 71 = .ok (.goto (-46), 3) := by decide +kernel
theorem dX0_tellWorths_74 : decode cX0_tellWorths 74 = .ok (.iinc 2 (-1), 3) := by decide +kernel
theorem dX0_tellWorths_77 : decode cX0_tellWorths 77 = .ok (.goto (-65), 3) := by decide +kernel
theorem dX0_tellWorths_80 : decode cX0_tellWorths 80 = .ok (.return_, 1) := by decide +kernel
theorem dX0_placeOf_0 : decode cX0_placeOf 0 = .ok (.iload_n 0, 1) := by decide +kernel
theorem dX0_placeOf_1 : decode cX0_placeOf 1 = .ok (.iconst 5, 1) := by decide +kernel
theorem dX0_placeOf_2 : decode cX0_placeOf 2 = .ok (.imul, 1) := by decide +kernel
theorem dX0_placeOf_3 : decode cX0_placeOf 3 = .ok (.iload_n 1, 1) := by decide +kernel
theorem dX0_placeOf_4 : decode cX0_placeOf 4 = .ok (.iadd, 1) := by decide +kernel
theorem dX0_placeOf_5 : decode cX0_placeOf 5 = .ok (.bipush 61, 2) := by decide +kernel
theorem dX0_placeOf_7 : decode cX0_placeOf 7 = .ok (.imul, 1) := by decide +kernel
theorem dX0_placeOf_8 : decode cX0_placeOf 8 = .ok (.iload_n 2, 1) := by decide +kernel
theorem dX0_placeOf_9 : decode cX0_placeOf 9 = .ok (.iadd, 1) := by decide +kernel
theorem dX0_placeOf_10 : decode cX0_placeOf 10 = .ok (.ireturn, 1) := by decide +kernel
theorem dX0_worthOfChoosing_0 : decode cX0_worthOfChoosing 0 = .ok (.iconst (-1), 1) := by decide +kernel
theorem dX0_worthOfChoosing_1 : decode cX0_worthOfChoosing 1 = .ok (.istore 4, 2) := by decide +kernel
theorem dX0_worthOfChoosing_3 : decode cX0_worthOfChoosing 3 = .ok (.iload_n 2, 1) := by decide +kernel
theorem dX0_worthOfChoosing_4 : decode cX0_worthOfChoosing 4 = .ok (.istore 5, 2) := by decide +kernel
theorem dX0_worthOfChoosing_6 : decode cX0_worthOfChoosing 6 = .ok (.iload 5, 2) := by decide +kernel
theorem dX0_worthOfChoosing_8 : decode cX0_worthOfChoosing 8 = .ok (.iconst 5, 1) := by decide +kernel
theorem dX0_worthOfChoosing_9 : decode cX0_worthOfChoosing 9 = .ok (.if_icmp .ge 25, 3) := by decide +kernel
theorem dX0_worthOfChoosing_12 : decode cX0_worthOfChoosing 12 = .ok (.iload 4, 2) := by decide +kernel
theorem dX0_worthOfChoosing_14 : decode cX0_worthOfChoosing 14 = .ok (.aload_n 0, 1) := by decide +kernel
theorem dX0_worthOfChoosing_15 : decode cX0_worthOfChoosing 15 = .ok (.iload_n 1, 1) := by decide +kernel
theorem dX0_worthOfChoosing_16 : decode cX0_worthOfChoosing 16 = .ok (.iload_n 2, 1) := by decide +kernel
theorem dX0_worthOfChoosing_17 : decode cX0_worthOfChoosing 17 = .ok (.iload 5, 2) := by decide +kernel
theorem dX0_worthOfChoosing_19 : decode cX0_worthOfChoosing 19 = .ok (.iload_n 3, 1) := by decide +kernel
theorem dX0_worthOfChoosing_20 : decode cX0_worthOfChoosing 20 = .ok (.invokevirtual 103, 3) := by decide +kernel
theorem dX0_worthOfChoosing_23 : decode cX0_worthOfChoosing 23 = .ok (.invokestatic 106, 3) := by decide +kernel
theorem dX0_worthOfChoosing_26 : decode cX0_worthOfChoosing 26 = .ok (.istore 4, 2) := by decide +kernel
theorem dX0_worthOfChoosing_28 : decode cX0_worthOfChoosing 28 = .ok (.iinc 5 1, 3) := by decide +kernel
theorem dX0_worthOfChoosing_31 : decode cX0_worthOfChoosing 31 = .ok (.goto (-25), 3) := by decide +kernel
theorem dX0_worthOfChoosing_34 : decode cX0_worthOfChoosing 34 = .ok (.iload 4, 2) := by decide +kernel
theorem dX0_worthOfChoosing_36 : decode cX0_worthOfChoosing 36 = .ok (.ireturn, 1) := by decide +kernel
theorem dX0_lowestBestStep_0 : decode cX0_lowestBestStep 0 = .ok (.aload_n 0, 1) := by decide +kernel
theorem dX0_lowestBestStep_1 : decode cX0_lowestBestStep 1 = .ok (.iload_n 1, 1) := by decide +kernel
theorem dX0_lowestBestStep_2 : decode cX0_lowestBestStep 2 = .ok (.iload_n 2, 1) := by decide +kernel
theorem dX0_lowestBestStep_3 : decode cX0_lowestBestStep 3 = .ok (.iload_n 3, 1) := by decide +kernel
theorem dX0_lowestBestStep_4 : decode cX0_lowestBestStep 4 = .ok (.invokevirtual 109, 3) := by decide +kernel
theorem dX0_lowestBestStep_7 : decode cX0_lowestBestStep 7 = .ok (.istore 4, 2) := by decide +kernel
theorem dX0_lowestBestStep_9 : decode cX0_lowestBestStep 9 = .ok (.iload_n 2, 1) := by decide +kernel
theorem dX0_lowestBestStep_10 : decode cX0_lowestBestStep 10 = .ok (.istore 5, 2) := by decide +kernel
theorem dX0_lowestBestStep_12 : decode cX0_lowestBestStep 12 = .ok (.iload 5, 2) := by decide +kernel
theorem dX0_lowestBestStep_14 : decode cX0_lowestBestStep 14 = .ok (.iconst 5, 1) := by decide +kernel
theorem dX0_lowestBestStep_15 : decode cX0_lowestBestStep 15 = .ok (.if_icmp .ge 26, 3) := by decide +kernel
theorem dX0_lowestBestStep_18 : decode cX0_lowestBestStep 18 = .ok (.aload_n 0, 1) := by decide +kernel
theorem dX0_lowestBestStep_19 : decode cX0_lowestBestStep 19 = .ok (.iload_n 1, 1) := by decide +kernel
theorem dX0_lowestBestStep_20 : decode cX0_lowestBestStep 20 = .ok (.iload_n 2, 1) := by decide +kernel
theorem dX0_lowestBestStep_21 : decode cX0_lowestBestStep 21 = .ok (.iload 5, 2) := by decide +kernel
theorem dX0_lowestBestStep_23 : decode cX0_lowestBestStep 23 = .ok (.iload_n 3, 1) := by decide +kernel
theorem dX0_lowestBestStep_24 : decode cX0_lowestBestStep 24 = .ok (.invokevirtual 103, 3) := by decide +kernel
theorem dX0_lowestBestStep_27 : decode cX0_lowestBestStep 27 = .ok (.iload 4, 2) := by decide +kernel
theorem dX0_lowestBestStep_29 : decode cX0_lowestBestStep 29 = .ok (.if_icmp .ne 6, 3) := by decide +kernel
theorem dX0_lowestBestStep_32 : decode cX0_lowestBestStep 32 = .ok (.iload 5, 2) := by decide +kernel
theorem dX0_lowestBestStep_34 : decode cX0_lowestBestStep 34 = .ok (.ireturn, 1) := by decide +kernel
theorem dX0_lowestBestStep_35 : decode cX0_lowestBestStep 35 = .ok (.iinc 5 1, 3) := by decide +kernel
theorem dX0_lowestBestStep_38 : decode cX0_lowestBestStep 38 = .ok (.goto (-26), 3) := by decide +kernel
theorem dX0_lowestBestStep_41 : decode cX0_lowestBestStep 41 = .ok (.iload_n 2, 1) := by decide +kernel
theorem dX0_lowestBestStep_42 : decode cX0_lowestBestStep 42 = .ok (.ireturn, 1) := by decide +kernel
theorem dX0_worthOfTaking_0 : decode cX0_worthOfTaking 0 = .ok (.aload_n 0, 1) := by decide +kernel
theorem dX0_worthOfTaking_1 : decode cX0_worthOfTaking 1 = .ok (.iload_n 1, 1) := by decide +kernel
theorem dX0_worthOfTaking_2 : decode cX0_worthOfTaking 2 = .ok (.iload_n 3, 1) := by decide +kernel
theorem dX0_worthOfTaking_3 : decode cX0_worthOfTaking 3 = .ok (.iload_n 3, 1) := by decide +kernel
theorem dX0_worthOfTaking_4 : decode cX0_worthOfTaking 4 = .ok (.iload_n 2, 1) := by decide +kernel
theorem dX0_worthOfTaking_5 : decode cX0_worthOfTaking 5 = .ok (.if_icmp .le 10, 3) := by decide +kernel
theorem dX0_worthOfTaking_8 : decode cX0_worthOfTaking 8 = .ok (.aload_n 0, 1) := by decide +kernel
theorem dX0_worthOfTaking_9 : decode cX0_worthOfTaking 9 = .ok (.getfield 52, 3) := by decide +kernel
theorem dX0_worthOfTaking_12 : decode cX0_worthOfTaking 12 = .ok (.goto 4, 3) := by decide +kernel
theorem dX0_worthOfTaking_15 : decode cX0_worthOfTaking 15 = .ok (.iconst 1, 1) := by decide +kernel
theorem dX0_worthOfTaking_16 : decode cX0_worthOfTaking 16 = .ok (.iload 4, 2) := by decide +kernel
theorem dX0_worthOfTaking_18 : decode cX0_worthOfTaking 18 = .ok (.invokevirtual 86, 3) := by decide +kernel
theorem dX0_worthOfTaking_21 : decode cX0_worthOfTaking 21 = .ok (.ireturn, 1) := by decide +kernel
theorem dX0_worthOfKeeping_0 : decode cX0_worthOfKeeping 0 = .ok (.iload_n 3, 1) := by decide +kernel
theorem dX0_worthOfKeeping_1 : decode cX0_worthOfKeeping 1 = .ok (.aload_n 0, 1) := by decide +kernel
theorem dX0_worthOfKeeping_2 : decode cX0_worthOfKeeping 2 = .ok (.getfield 46, 3) := by decide +kernel
theorem dX0_worthOfKeeping_5 : decode cX0_worthOfKeeping 5 = .ok (.iload_n 1, 1) := by decide +kernel
theorem dX0_worthOfKeeping_6 : decode cX0_worthOfKeeping 6 = .ok (.isub, 1) := by decide +kernel
theorem dX0_worthOfKeeping_7 : decode cX0_worthOfKeeping 7 = .ok (.invokestatic 61, 3) := by decide +kernel
theorem dX0_worthOfKeeping_10 : decode cX0_worthOfKeeping 10 = .ok (.istore 5, 2) := by decide +kernel
theorem dX0_worthOfKeeping_12 : decode cX0_worthOfKeeping 12 = .ok (.iload 4, 2) := by decide +kernel
theorem dX0_worthOfKeeping_14 : decode cX0_worthOfKeeping 14 = .ok (.iload 5, 2) := by decide +kernel
theorem dX0_worthOfKeeping_16 : decode cX0_worthOfKeeping 16 = .ok (.aload_n 0, 1) := by decide +kernel
theorem dX0_worthOfKeeping_17 : decode cX0_worthOfKeeping 17 = .ok (.getfield 15, 3) := by decide +kernel
theorem dX0_worthOfKeeping_20 : decode cX0_worthOfKeeping 20 = .ok (.iload_n 2, 1) := by decide +kernel
theorem dX0_worthOfKeeping_21 : decode cX0_worthOfKeeping 21 = .ok (.iaload, 1) := by decide +kernel
theorem dX0_worthOfKeeping_22 : decode cX0_worthOfKeeping 22 = .ok (.imul, 1) := by decide +kernel
theorem dX0_worthOfKeeping_23 : decode cX0_worthOfKeeping 23 = .ok (.invokestatic 61, 3) := by decide +kernel
theorem dX0_worthOfKeeping_26 : decode cX0_worthOfKeeping 26 = .ok (.istore 6, 2) := by decide +kernel
theorem dX0_worthOfKeeping_28 : decode cX0_worthOfKeeping 28 = .ok (.aload_n 0, 1) := by decide +kernel
theorem dX0_worthOfKeeping_29 : decode cX0_worthOfKeeping 29 = .ok (.iload_n 1, 1) := by decide +kernel
theorem dX0_worthOfKeeping_30 : decode cX0_worthOfKeeping 30 = .ok (.iload 5, 2) := by decide +kernel
theorem dX0_worthOfKeeping_32 : decode cX0_worthOfKeeping 32 = .ok (.iadd, 1) := by decide +kernel
theorem dX0_worthOfKeeping_33 : decode cX0_worthOfKeeping 33 = .ok (.iload_n 2, 1) := by decide +kernel
theorem dX0_worthOfKeeping_34 : decode cX0_worthOfKeeping 34 = .ok (.iload 4, 2) := by decide +kernel
theorem dX0_worthOfKeeping_36 : decode cX0_worthOfKeeping 36 = .ok (.iload 6, 2) := by decide +kernel
theorem dX0_worthOfKeeping_38 : decode cX0_worthOfKeeping 38 = .ok (.isub, 1) := by decide +kernel
theorem dX0_worthOfKeeping_39 : decode cX0_worthOfKeeping 39 = .ok (.invokevirtual 109, 3) := by decide +kernel
theorem dX0_worthOfKeeping_42 : decode cX0_worthOfKeeping 42 = .ok (.istore 7, 2) := by decide +kernel
theorem dX0_worthOfKeeping_44 : decode cX0_worthOfKeeping 44 = .ok (.iload 7, 2) := by decide +kernel
theorem dX0_worthOfKeeping_46 : decode cX0_worthOfKeeping 46 = .ok (.iconst (-1), 1) := by decide +kernel
theorem dX0_worthOfKeeping_47 : decode cX0_worthOfKeeping 47 = .ok (.if_icmp .ne 7, 3) := by decide +kernel
theorem dX0_worthOfKeeping_50 : decode cX0_worthOfKeeping 50 = .ok (.iconst (-1), 1) := by decide +kernel
theorem dX0_worthOfKeeping_51 : decode cX0_worthOfKeeping 51 = .ok (.goto 15, 3) := by decide +kernel
theorem dX0_worthOfKeeping_54 : decode cX0_worthOfKeeping 54 = .ok (.iload 6, 2) := by decide +kernel
theorem dX0_worthOfKeeping_56 : decode cX0_worthOfKeeping 56 = .ok (.aload_n 0, 1) := by decide +kernel
theorem dX0_worthOfKeeping_57 : decode cX0_worthOfKeeping 57 = .ok (.getfield 9, 3) := by decide +kernel
theorem dX0_worthOfKeeping_60 : decode cX0_worthOfKeeping 60 = .ok (.iload_n 2, 1) := by decide +kernel
theorem dX0_worthOfKeeping_61 : decode cX0_worthOfKeeping 61 = .ok (.iaload, 1) := by decide +kernel
theorem dX0_worthOfKeeping_62 : decode cX0_worthOfKeeping 62 = .ok (.imul, 1) := by decide +kernel
theorem dX0_worthOfKeeping_63 : decode cX0_worthOfKeeping 63 = .ok (.iload 7, 2) := by decide +kernel
theorem dX0_worthOfKeeping_65 : decode cX0_worthOfKeeping 65 = .ok (.iadd, 1) := by decide +kernel
theorem dX0_worthOfKeeping_66 : decode cX0_worthOfKeeping 66 = .ok (.ireturn, 1) := by decide +kernel
theorem dX0_worthFrom_0 : decode cX0_worthFrom 0 = .ok (.iload_n 1, 1) := by decide +kernel
theorem dX0_worthFrom_1 : decode cX0_worthFrom 1 = .ok (.aload_n 0, 1) := by decide +kernel
theorem dX0_worthFrom_2 : decode cX0_worthFrom 2 = .ok (.getfield 46, 3) := by decide +kernel
theorem dX0_worthFrom_5 : decode cX0_worthFrom 5 = .ok (.if_icmp .ge 15, 3) := by decide +kernel
theorem dX0_worthFrom_8 : decode cX0_worthFrom 8 = .ok (.aload_n 0, 1) := by decide +kernel
theorem dX0_worthFrom_9 : decode cX0_worthFrom 9 = .ok (.getfield 18, 3) := by decide +kernel
theorem dX0_worthFrom_12 : decode cX0_worthFrom 12 = .ok (.iload_n 1, 1) := by decide +kernel
theorem dX0_worthFrom_13 : decode cX0_worthFrom 13 = .ok (.iload_n 2, 1) := by decide +kernel
theorem dX0_worthFrom_14 : decode cX0_worthFrom 14 = .ok (.iload_n 3, 1) := by decide +kernel
theorem dX0_worthFrom_15 : decode cX0_worthFrom 15 = .ok (.invokestatic 97, 3) := by decide +kernel
theorem dX0_worthFrom_18 : decode cX0_worthFrom 18 = .ok (.iaload, 1) := by decide +kernel
theorem dX0_worthFrom_19 : decode cX0_worthFrom 19 = .ok (.ireturn, 1) := by decide +kernel
theorem dX0_worthFrom_20 : decode cX0_worthFrom 20 = .ok (.iload_n 3, 1) := by decide +kernel
theorem dX0_worthFrom_21 : decode cX0_worthFrom 21 = .ok (.aload_n 0, 1) := by decide +kernel
theorem dX0_worthFrom_22 : decode cX0_worthFrom 22 = .ok (.getfield 94, 3) := by decide +kernel
theorem dX0_worthFrom_25 : decode cX0_worthFrom 25 = .ok (.if_icmp .le 7, 3) := by decide +kernel
theorem dX0_worthFrom_28 : decode cX0_worthFrom 28 = .ok (.iconst (-1), 1) := by decide +kernel
theorem dX0_worthFrom_29 : decode cX0_worthFrom 29 = .ok (.goto 9, 3) := by decide +kernel
theorem dX0_worthFrom_32 : decode cX0_worthFrom 32 = .ok (.iload_n 3, 1) := by decide +kernel
theorem dX0_worthFrom_33 : decode cX0_worthFrom 33 = .ok (.aload_n 0, 1) := by decide +kernel
theorem dX0_worthFrom_34 : decode cX0_worthFrom 34 = .ok (.getfield 56, 3) := by decide +kernel
theorem dX0_worthFrom_37 : decode cX0_worthFrom 37 = .ok (.imul, 1) := by decide +kernel
theorem dX0_worthFrom_38 : decode cX0_worthFrom 38 = .ok (.ireturn, 1) := by decide +kernel
theorem dX0_greatestWorthByAll_0 : decode cX0_greatestWorthByAll 0 = .ok (.aload_n 0, 1) := by decide +kernel
theorem dX0_greatestWorthByAll_1 : decode cX0_greatestWorthByAll 1 = .ok (.getfield 46, 3) := by decide +kernel
theorem dX0_greatestWorthByAll_4 : decode cX0_greatestWorthByAll 4 = .ok (.aload_n 0, 1) := by decide +kernel
theorem dX0_greatestWorthByAll_5 : decode cX0_greatestWorthByAll 5 = .ok (.getfield 40, 3) := by decide +kernel
theorem dX0_greatestWorthByAll_8 : decode cX0_greatestWorthByAll 8 = .ok (.isub, 1) := by decide +kernel
theorem dX0_greatestWorthByAll_9 : decode cX0_greatestWorthByAll 9 = .ok (.bipush 6, 2) := by decide +kernel
theorem dX0_greatestWorthByAll_11 : decode cX0_greatestWorthByAll 11 = .ok (.invokestatic 61, 3) := by decide +kernel
theorem dX0_greatestWorthByAll_14 : decode cX0_greatestWorthByAll 14 = .ok (.istore_n 1, 1) := by decide +kernel
theorem dX0_greatestWorthByAll_15 : decode cX0_greatestWorthByAll 15 = .ok (.iconst 0, 1) := by decide +kernel
theorem dX0_greatestWorthByAll_16 : decode cX0_greatestWorthByAll 16 = .ok (.istore_n 2, 1) := by decide +kernel
theorem dX0_greatestWorthByAll_17 : decode cX0_greatestWorthByAll 17 = .ok (.iload_n 2, 1) := by decide +kernel
theorem dX0_greatestWorthByAll_18 : decode cX0_greatestWorthByAll 18 = .ok (.iload_n 1, 1) := by decide +kernel
theorem dX0_greatestWorthByAll_19 : decode cX0_greatestWorthByAll 19 = .ok (.if_icmp .ge 19, 3) := by decide +kernel
theorem dX0_greatestWorthByAll_22 : decode cX0_greatestWorthByAll 22 = .ok (.aload_n 0, 1) := by decide +kernel
theorem dX0_greatestWorthByAll_23 : decode cX0_greatestWorthByAll 23 = .ok (.getfield 21, 3) := by decide +kernel
theorem dX0_greatestWorthByAll_26 : decode cX0_greatestWorthByAll 26 = .ok (.iload_n 2, 1) := by decide +kernel
theorem dX0_greatestWorthByAll_27 : decode cX0_greatestWorthByAll 27 = .ok (.aload_n 0, 1) := by decide +kernel
theorem dX0_greatestWorthByAll_28 : decode cX0_greatestWorthByAll 28 = .ok (.getfield 72, 3) := by decide +kernel
theorem dX0_greatestWorthByAll_31 : decode cX0_greatestWorthByAll 31 = .ok (.iastore, 1) := by decide +kernel
theorem dX0_greatestWorthByAll_32 : decode cX0_greatestWorthByAll 32 = .ok (.iinc 2 1, 3) := by decide +kernel
theorem dX0_greatestWorthByAll_35 : decode cX0_greatestWorthByAll 35 = .ok (.goto (-18), 3) := by decide +kernel
theorem dX0_greatestWorthByAll_38 : decode cX0_greatestWorthByAll 38 = .ok (.iconst (-1), 1) := by decide +kernel
theorem dX0_greatestWorthByAll_39 : decode cX0_greatestWorthByAll 39 = .ok (.istore_n 2, 1) := by decide +kernel
theorem dX0_greatestWorthByAll_40 : decode cX0_greatestWorthByAll 40 = .ok (.iconst 1, 1) := by decide +kernel
theorem dX0_greatestWorthByAll_41 : decode cX0_greatestWorthByAll 41 = .ok (.istore_n 3, 1) := by decide +kernel
theorem dX0_greatestWorthByAll_42 : decode cX0_greatestWorthByAll 42 = .ok (.iconst 0, 1) := by decide +kernel
theorem dX0_greatestWorthByAll_43 : decode cX0_greatestWorthByAll 43 = .ok (.istore 4, 2) := by decide +kernel
theorem dX0_greatestWorthByAll_45 : decode cX0_greatestWorthByAll 45 = .ok (.iload_n 3, 1) := by decide +kernel
theorem dX0_greatestWorthByAll_46 : decode cX0_greatestWorthByAll 46 = .ok (.ifCond .eq 32, 3) := by decide +kernel
theorem dX0_greatestWorthByAll_49 : decode cX0_greatestWorthByAll 49 = .ok (.iload 4, 2) := by decide +kernel
theorem dX0_greatestWorthByAll_51 : decode cX0_greatestWorthByAll 51 = .ok (.ldc 112, 2) := by decide +kernel
theorem dX0_greatestWorthByAll_53 : decode cX0_greatestWorthByAll 53 = .ok (.if_icmp .ge 25, 3) := by decide +kernel
theorem dX0_greatestWorthByAll_56 : decode cX0_greatestWorthByAll 56 = .ok (.iload_n 2, 1) := by decide +kernel
theorem dX0_greatestWorthByAll_57 : decode cX0_greatestWorthByAll 57 = .ok (.aload_n 0, 1) := by decide +kernel
theorem dX0_greatestWorthByAll_58 : decode cX0_greatestWorthByAll 58 = .ok (.iload_n 1, 1) := by decide +kernel
theorem dX0_greatestWorthByAll_59 : decode cX0_greatestWorthByAll 59 = .ok (.invokevirtual 113, 3) := by decide +kernel
theorem dX0_greatestWorthByAll_62 : decode cX0_greatestWorthByAll 62 = .ok (.invokestatic 106, 3) := by decide +kernel
theorem dX0_greatestWorthByAll_65 : decode cX0_greatestWorthByAll 65 = .ok (.istore_n 2, 1) := by decide +kernel
theorem dX0_greatestWorthByAll_66 : decode cX0_greatestWorthByAll 66 = .ok (.aload_n 0, 1) := by decide +kernel
theorem dX0_greatestWorthByAll_67 : decode cX0_greatestWorthByAll 67 = .ok (.iload_n 1, 1) := by decide +kernel
theorem dX0_greatestWorthByAll_68 : decode cX0_greatestWorthByAll 68 = .ok (.invokevirtual 117, 3) := by decide +kernel
theorem dX0_greatestWorthByAll_71 : decode cX0_greatestWorthByAll 71 = .ok (.istore_n 3, 1) := by decide +kernel
theorem dX0_greatestWorthByAll_72 : decode cX0_greatestWorthByAll 72 = .ok (.iinc 4 1, 3) := by decide +kernel
theorem dX0_greatestWorthByAll_75 : decode cX0_greatestWorthByAll 75 = .ok (.goto (-30), 3) := by decide +kernel
theorem dX0_greatestWorthByAll_78 : decode cX0_greatestWorthByAll 78 = .ok (.iload_n 2, 1) := by decide +kernel
theorem dX0_greatestWorthByAll_79 : decode cX0_greatestWorthByAll 79 = .ok (.ireturn, 1) := by decide +kernel
theorem dX0_worthOfLadder_0 : decode cX0_worthOfLadder 0 = .ok (.aload_n 0, 1) := by decide +kernel
theorem dX0_worthOfLadder_1 : decode cX0_worthOfLadder 1 = .ok (.getfield 72, 3) := by decide +kernel
theorem dX0_worthOfLadder_4 : decode cX0_worthOfLadder 4 = .ok (.istore_n 2, 1) := by decide +kernel
theorem dX0_worthOfLadder_5 : decode cX0_worthOfLadder 5 = .ok (.aload_n 0, 1) := by decide +kernel
theorem dX0_worthOfLadder_6 : decode cX0_worthOfLadder 6 = .ok (.getfield 79, 3) := by decide +kernel
theorem dX0_worthOfLadder_9 : decode cX0_worthOfLadder 9 = .ok (.istore_n 3, 1) := by decide +kernel
theorem dX0_worthOfLadder_10 : decode cX0_worthOfLadder 10 = .ok (.aload_n 0, 1) := by decide +kernel
theorem dX0_worthOfLadder_11 : decode cX0_worthOfLadder 11 = .ok (.getfield 66, 3) := by decide +kernel
theorem dX0_worthOfLadder_14 : decode cX0_worthOfLadder 14 = .ok (.istore 4, 2) := by decide +kernel
theorem dX0_worthOfLadder_16 : decode cX0_worthOfLadder 16 = .ok (.iconst 0, 1) := by decide +kernel
theorem dX0_worthOfLadder_17 : decode cX0_worthOfLadder 17 = .ok (.istore 5, 2) := by decide +kernel
theorem dX0_worthOfLadder_19 : decode cX0_worthOfLadder 19 = .ok (.iconst 0, 1) := by decide +kernel
theorem dX0_worthOfLadder_20 : decode cX0_worthOfLadder 20 = .ok (.istore 6, 2) := by decide +kernel
theorem dX0_worthOfLadder_22 : decode cX0_worthOfLadder 22 = .ok (.iload 6, 2) := by decide +kernel
theorem dX0_worthOfLadder_24 : decode cX0_worthOfLadder 24 = .ok (.iload_n 1, 1) := by decide +kernel
theorem dX0_worthOfLadder_25 : decode cX0_worthOfLadder 25 = .ok (.if_icmp .ge 88, 3) := by decide +kernel
theorem dX0_worthOfLadder_28 : decode cX0_worthOfLadder 28 = .ok (.aload_n 0, 1) := by decide +kernel
theorem dX0_worthOfLadder_29 : decode cX0_worthOfLadder 29 = .ok (.getfield 21, 3) := by decide +kernel
theorem dX0_worthOfLadder_32 : decode cX0_worthOfLadder 32 = .ok (.iload 6, 2) := by decide +kernel
theorem dX0_worthOfLadder_34 : decode cX0_worthOfLadder 34 = .ok (.iaload, 1) := by decide +kernel
theorem dX0_worthOfLadder_35 : decode cX0_worthOfLadder 35 = .ok (.istore 7, 2) := by decide +kernel
theorem dX0_worthOfLadder_37 : decode cX0_worthOfLadder 37 = .ok (.iload 7, 2) := by decide +kernel
theorem dX0_worthOfLadder_39 : decode cX0_worthOfLadder 39 = .ok (.iload_n 2, 1) := by decide +kernel
theorem dX0_worthOfLadder_40 : decode cX0_worthOfLadder 40 = .ok (.if_icmp .le 31, 3) := by decide +kernel
theorem dX0_worthOfLadder_43 : decode cX0_worthOfLadder 43 = .ok (.aload_n 0, 1) := by decide +kernel
theorem dX0_worthOfLadder_44 : decode cX0_worthOfLadder 44 = .ok (.getfield 40, 3) := by decide +kernel
theorem dX0_worthOfLadder_47 : decode cX0_worthOfLadder 47 = .ok (.iload 6, 2) := by decide +kernel
theorem dX0_worthOfLadder_49 : decode cX0_worthOfLadder 49 = .ok (.iadd, 1) := by decide +kernel
theorem dX0_worthOfLadder_50 : decode cX0_worthOfLadder 50 = .ok (.iload 4, 2) := by decide +kernel
theorem dX0_worthOfLadder_52 : decode cX0_worthOfLadder 52 = .ok (.if_icmp .ge 5, 3) := by decide +kernel
theorem dX0_worthOfLadder_55 : decode cX0_worthOfLadder 55 = .ok (.iconst (-1), 1) := by decide +kernel
theorem dX0_worthOfLadder_56 : decode cX0_worthOfLadder 56 = .ok (.ireturn, 1) := by decide +kernel
theorem dX0_worthOfLadder_57 : decode cX0_worthOfLadder 57 = .ok (.aload_n 0, 1) := by decide +kernel
theorem dX0_worthOfLadder_58 : decode cX0_worthOfLadder 58 = .ok (.getfield 40, 3) := by decide +kernel
theorem dX0_worthOfLadder_61 : decode cX0_worthOfLadder 61 = .ok (.iload 6, 2) := by decide +kernel
theorem dX0_worthOfLadder_63 : decode cX0_worthOfLadder 63 = .ok (.iadd, 1) := by decide +kernel
theorem dX0_worthOfLadder_64 : decode cX0_worthOfLadder 64 = .ok (.aload_n 0, 1) := by decide +kernel
theorem dX0_worthOfLadder_65 : decode cX0_worthOfLadder 65 = .ok (.getfield 52, 3) := by decide +kernel
theorem dX0_worthOfLadder_68 : decode cX0_worthOfLadder 68 = .ok (.iadd, 1) := by decide +kernel
theorem dX0_worthOfLadder_69 : decode cX0_worthOfLadder 69 = .ok (.istore 4, 2) := by decide +kernel
theorem dX0_worthOfLadder_71 : decode cX0_worthOfLadder 71 = .ok (.iload_n 3, 1) := by decide +kernel
theorem dX0_worthOfLadder_72 : decode cX0_worthOfLadder 72 = .ok (.aload_n 0, 1) := by decide +kernel
theorem dX0_worthOfLadder_73 : decode cX0_worthOfLadder 73 = .ok (.getfield 15, 3) := by decide +kernel
theorem dX0_worthOfLadder_76 : decode cX0_worthOfLadder 76 = .ok (.iload 7, 2) := by decide +kernel
theorem dX0_worthOfLadder_78 : decode cX0_worthOfLadder 78 = .ok (.iaload, 1) := by decide +kernel
theorem dX0_worthOfLadder_79 : decode cX0_worthOfLadder 79 = .ok (.invokestatic 61, 3) := by decide +kernel
theorem dX0_worthOfLadder_82 : decode cX0_worthOfLadder 82 = .ok (.istore 8, 2) := by decide +kernel
theorem dX0_worthOfLadder_84 : decode cX0_worthOfLadder 84 = .ok (.iload 5, 2) := by decide +kernel
theorem dX0_worthOfLadder_86 : decode cX0_worthOfLadder 86 = .ok (.iload 8, 2) := by decide +kernel
theorem dX0_worthOfLadder_88 : decode cX0_worthOfLadder 88 = .ok (.aload_n 0, 1) := by decide +kernel
theorem dX0_worthOfLadder_89 : decode cX0_worthOfLadder 89 = .ok (.getfield 9, 3) := by decide +kernel
theorem dX0_worthOfLadder_92 : decode cX0_worthOfLadder 92 = .ok (.iload 7, 2) := by decide +kernel
theorem dX0_worthOfLadder_94 : decode cX0_worthOfLadder 94 = .ok (.iaload, 1) := by decide +kernel
theorem dX0_worthOfLadder_95 : decode cX0_worthOfLadder 95 = .ok (.imul, 1) := by decide +kernel
theorem dX0_worthOfLadder_96 : decode cX0_worthOfLadder 96 = .ok (.iadd, 1) := by decide +kernel
theorem dX0_worthOfLadder_97 : decode cX0_worthOfLadder 97 = .ok (.istore 5, 2) := by decide +kernel
theorem dX0_worthOfLadder_99 : decode cX0_worthOfLadder 99 = .ok (.iload_n 3, 1) := by decide +kernel
theorem dX0_worthOfLadder_100 : decode cX0_worthOfLadder 100 = .ok (.iload 8, 2) := by decide +kernel
theorem dX0_worthOfLadder_102 : decode cX0_worthOfLadder 102 = .ok (.isub, 1) := by decide +kernel
theorem dX0_worthOfLadder_103 : decode cX0_worthOfLadder 103 = .ok (.istore_n 3, 1) := by decide +kernel
theorem dX0_worthOfLadder_104 : decode cX0_worthOfLadder 104 = .ok (.iload 7, 2) := by decide +kernel
theorem dX0_worthOfLadder_106 : decode cX0_worthOfLadder 106 = .ok (.istore_n 2, 1) := by decide +kernel
theorem dX0_worthOfLadder_107 : decode cX0_worthOfLadder 107 = .ok (.iinc 6 1, 3) := by decide +kernel
theorem dX0_worthOfLadder_110 : decode cX0_worthOfLadder 110 = .ok (.goto (-88), 3) := by decide +kernel
theorem dX0_worthOfLadder_113 : decode cX0_worthOfLadder 113 = .ok (.iload 5, 2) := by decide +kernel
theorem dX0_worthOfLadder_115 : decode cX0_worthOfLadder 115 = .ok (.iload_n 3, 1) := by decide +kernel
theorem dX0_worthOfLadder_116 : decode cX0_worthOfLadder 116 = .ok (.aload_n 0, 1) := by decide +kernel
theorem dX0_worthOfLadder_117 : decode cX0_worthOfLadder 117 = .ok (.getfield 56, 3) := by decide +kernel
theorem dX0_worthOfLadder_120 : decode cX0_worthOfLadder 120 = .ok (.imul, 1) := by decide +kernel
theorem dX0_worthOfLadder_121 : decode cX0_worthOfLadder 121 = .ok (.iadd, 1) := by decide +kernel
theorem dX0_worthOfLadder_122 : decode cX0_worthOfLadder 122 = .ok (.ireturn, 1) := by decide +kernel
theorem dX0_turnToNextLadder_0 : decode cX0_turnToNextLadder 0 = .ok (.iload_n 1, 1) := by decide +kernel
theorem dX0_turnToNextLadder_1 : decode cX0_turnToNextLadder 1 = .ok (.iconst 1, 1) := by decide +kernel
theorem dX0_turnToNextLadder_2 : decode cX0_turnToNextLadder 2 = .ok (.isub, 1) := by decide +kernel
theorem dX0_turnToNextLadder_3 : decode cX0_turnToNextLadder 3 = .ok (.istore_n 2, 1) := by decide +kernel
theorem dX0_turnToNextLadder_4 : decode cX0_turnToNextLadder 4 = .ok (.iload_n 2, 1) := by decide +kernel
theorem dX0_turnToNextLadder_5 : decode cX0_turnToNextLadder 5 = .ok (.ifCond .lt 19, 3) := by decide +kernel
theorem dX0_turnToNextLadder_8 : decode cX0_turnToNextLadder 8 = .ok (.aload_n 0, 1) := by decide +kernel
theorem dX0_turnToNextLadder_9 : decode cX0_turnToNextLadder 9 = .ok (.getfield 21, 3) := by decide +kernel
theorem dX0_turnToNextLadder_12 : decode cX0_turnToNextLadder 12 = .ok (.iload_n 2, 1) := by decide +kernel
theorem dX0_turnToNextLadder_13 : decode cX0_turnToNextLadder 13 = .ok (.iaload, 1) := by decide +kernel
theorem dX0_turnToNextLadder_14 : decode cX0_turnToNextLadder 14 = .ok (.iconst 4, 1) := by decide +kernel
theorem dX0_turnToNextLadder_15 : decode cX0_turnToNextLadder 15 = .ok (.if_icmp .ne 9, 3) := by decide +kernel
theorem dX0_turnToNextLadder_18 : decode cX0_turnToNextLadder 18 = .ok (.iinc 2 (-1), 3) := by decide +kernel
theorem dX0_turnToNextLadder_21 : decode cX0_turnToNextLadder 21 = .ok (.goto (-17), 3) := by decide +kernel
theorem dX0_turnToNextLadder_24 : decode cX0_turnToNextLadder 24 = .ok (.iload_n 2, 1) := by decide +kernel
theorem dX0_turnToNextLadder_25 : decode cX0_turnToNextLadder 25 = .ok (.ifCond .ge 5, 3) := by decide +kernel
theorem dX0_turnToNextLadder_28 : decode cX0_turnToNextLadder 28 = .ok (.iconst 0, 1) := by decide +kernel
theorem dX0_turnToNextLadder_29 : decode cX0_turnToNextLadder 29 = .ok (.ireturn, 1) := by decide +kernel
theorem dX0_turnToNextLadder_30 : decode cX0_turnToNextLadder 30 = .ok (.aload_n 0, 1) := by decide +kernel
theorem dX0_turnToNextLadder_31 : decode cX0_turnToNextLadder 31 = .ok (.getfield 21, 3) := by decide +kernel
theorem dX0_turnToNextLadder_34 : decode cX0_turnToNextLadder 34 = .ok (.iload_n 2, 1) := by decide +kernel
theorem dX0_turnToNextLadder_35 : decode cX0_turnToNextLadder 35 = .ok (.iaload, 1) := by decide +kernel
theorem dX0_turnToNextLadder_36 : decode cX0_turnToNextLadder 36 = .ok (.iconst 1, 1) := by decide +kernel
theorem dX0_turnToNextLadder_37 : decode cX0_turnToNextLadder 37 = .ok (.iadd, 1) := by decide +kernel
theorem dX0_turnToNextLadder_38 : decode cX0_turnToNextLadder 38 = .ok (.istore_n 3, 1) := by decide +kernel
theorem dX0_turnToNextLadder_39 : decode cX0_turnToNextLadder 39 = .ok (.iload_n 2, 1) := by decide +kernel
theorem dX0_turnToNextLadder_40 : decode cX0_turnToNextLadder 40 = .ok (.istore 4, 2) := by decide +kernel
theorem dX0_turnToNextLadder_42 : decode cX0_turnToNextLadder 42 = .ok (.iload 4, 2) := by decide +kernel
theorem dX0_turnToNextLadder_44 : decode cX0_turnToNextLadder 44 = .ok (.iload_n 1, 1) := by decide +kernel
theorem dX0_turnToNextLadder_45 : decode cX0_turnToNextLadder 45 = .ok (.if_icmp .ge 17, 3) := by decide +kernel
theorem dX0_turnToNextLadder_48 : decode cX0_turnToNextLadder 48 = .ok (.aload_n 0, 1) := by decide +kernel
theorem dX0_turnToNextLadder_49 : decode cX0_turnToNextLadder 49 = .ok (.getfield 21, 3) := by decide +kernel
theorem dX0_turnToNextLadder_52 : decode cX0_turnToNextLadder 52 = .ok (.iload 4, 2) := by decide +kernel
theorem dX0_turnToNextLadder_54 : decode cX0_turnToNextLadder 54 = .ok (.iload_n 3, 1) := by decide +kernel
theorem dX0_turnToNextLadder_55 : decode cX0_turnToNextLadder 55 = .ok (.iastore, 1) := by decide +kernel
theorem dX0_turnToNextLadder_56 : decode cX0_turnToNextLadder 56 = .ok (.iinc 4 1, 3) := by decide +kernel
theorem dX0_turnToNextLadder_59 : decode cX0_turnToNextLadder 59 = .ok (.goto (-17), 3) := by decide +kernel
theorem dX0_turnToNextLadder_62 : decode cX0_turnToNextLadder 62 = .ok (.iconst 1, 1) := by decide +kernel
theorem dX0_turnToNextLadder_63 : decode cX0_turnToNextLadder 63 = .ok (.ireturn, 1) := by decide +kernel
theorem dX1_init_0 : decode cX1_init 0 = .ok (.aload_n 0, 1) := by decide +kernel
theorem dX1_init_1 : decode cX1_init 1 = .ok (.invokespecial 3, 3) := by decide +kernel
theorem dX1_init_4 : decode cX1_init 4 = .ok (.aload_n 0, 1) := by decide +kernel
theorem dX1_init_5 : decode cX1_init 5 = .ok (.iconst 5, 1) := by decide +kernel
theorem dX1_init_6 : decode cX1_init 6 = .ok (.newarray .int, 2) := by decide +kernel
theorem dX1_init_8 : decode cX1_init 8 = .ok (.putfield 9, 3) := by decide +kernel
theorem dX1_init_11 : decode cX1_init 11 = .ok (.aload_n 0, 1) := by decide +kernel
theorem dX1_init_12 : decode cX1_init 12 = .ok (.bipush 8, 2) := by decide +kernel
theorem dX1_init_14 : decode cX1_init 14 = .ok (.putfield 15, 3) := by decide +kernel
theorem dX1_init_17 : decode cX1_init 17 = .ok (.aload_n 0, 1) := by decide +kernel
theorem dX1_init_18 : decode cX1_init 18 = .ok (.iconst 2, 1) := by decide +kernel
theorem dX1_init_19 : decode cX1_init 19 = .ok (.putfield 19, 3) := by decide +kernel
theorem dX1_init_22 : decode cX1_init 22 = .ok (.iconst 0, 1) := by decide +kernel
theorem dX1_init_23 : decode cX1_init 23 = .ok (.istore_n 1, 1) := by decide +kernel
theorem dX1_init_24 : decode cX1_init 24 = .ok (.iload_n 1, 1) := by decide +kernel
theorem dX1_init_25 : decode cX1_init 25 = .ok (.iconst 5, 1) := by decide +kernel
theorem dX1_init_26 : decode cX1_init 26 = .ok (.if_icmp .ge 17, 3) := by decide +kernel
theorem dX1_init_29 : decode cX1_init 29 = .ok (.aload_n 0, 1) := by decide +kernel
theorem dX1_init_30 : decode cX1_init 30 = .ok (.getfield 9, 3) := by decide +kernel
theorem dX1_init_33 : decode cX1_init 33 = .ok (.iload_n 1, 1) := by decide +kernel
theorem dX1_init_34 : decode cX1_init 34 = .ok (.bipush 100, 2) := by decide +kernel
theorem dX1_init_36 : decode cX1_init 36 = .ok (.iastore, 1) := by decide +kernel
theorem dX1_init_37 : decode cX1_init 37 = .ok (.iinc 1 1, 3) := by decide +kernel
theorem dX1_init_40 : decode cX1_init 40 = .ok (.goto (-16), 3) := by decide +kernel
theorem dX1_init_43 : decode cX1_init 43 = .ok (.return_, 1) := by decide +kernel
theorem dX1_startAnew_0 : decode cX1_startAnew 0 = .ok (.aload_n 0, 1) := by decide +kernel
theorem dX1_startAnew_1 : decode cX1_startAnew 1 = .ok (.iload_n 1, 1) := by decide +kernel
theorem dX1_startAnew_2 : decode cX1_startAnew 2 = .ok (.putfield 15, 3) := by decide +kernel
theorem dX1_startAnew_5 : decode cX1_startAnew 5 = .ok (.aload_n 0, 1) := by decide +kernel
theorem dX1_startAnew_6 : decode cX1_startAnew 6 = .ok (.iconst 0, 1) := by decide +kernel
theorem dX1_startAnew_7 : decode cX1_startAnew 7 = .ok (.putfield 22, 3) := by decide +kernel
theorem dX1_startAnew_10 : decode cX1_startAnew 10 = .ok (.aload_n 0, 1) := by decide +kernel
theorem dX1_startAnew_11 : decode cX1_startAnew 11 = .ok (.iconst 0, 1) := by decide +kernel
theorem dX1_startAnew_12 : decode cX1_startAnew 12 = .ok (.putfield 25, 3) := by decide +kernel
theorem dX1_startAnew_15 : decode cX1_startAnew 15 = .ok (.return_, 1) := by decide +kernel
theorem dX1_keepsLadderDown_0 : decode cX1_keepsLadderDown 0 = .ok (.iload_n 1, 1) := by decide +kernel
theorem dX1_keepsLadderDown_1 : decode cX1_keepsLadderDown 1 = .ok (.ifCond .le 15, 3) := by decide +kernel
theorem dX1_keepsLadderDown_4 : decode cX1_keepsLadderDown 4 = .ok (.iload_n 2, 1) := by decide +kernel
theorem dX1_keepsLadderDown_5 : decode cX1_keepsLadderDown 5 = .ok (.aload_n 0, 1) := by decide +kernel
theorem dX1_keepsLadderDown_6 : decode cX1_keepsLadderDown 6 = .ok (.getfield 9, 3) := by decide +kernel
theorem dX1_keepsLadderDown_9 : decode cX1_keepsLadderDown 9 = .ok (.iload_n 1, 1) := by decide +kernel
theorem dX1_keepsLadderDown_10 : decode cX1_keepsLadderDown 10 = .ok (.iconst 1, 1) := by decide +kernel
theorem dX1_keepsLadderDown_11 : decode cX1_keepsLadderDown 11 = .ok (.isub, 1) := by decide +kernel
theorem dX1_keepsLadderDown_12 : decode cX1_keepsLadderDown 12 = .ok (.iaload, 1) := by decide +kernel
theorem dX1_keepsLadderDown_13 : decode cX1_keepsLadderDown 13 = .ok (.if_icmp .gt 7, 3) := by decide +kernel
theorem dX1_keepsLadderDown_16 : decode cX1_keepsLadderDown 16 = .ok (.iconst 1, 1) := by decide +kernel
theorem dX1_keepsLadderDown_17 : decode cX1_keepsLadderDown 17 = .ok (.goto 4, 3) := by decide +kernel
theorem dX1_keepsLadderDown_20 : decode cX1_keepsLadderDown 20 = .ok (.iconst 0, 1) := by decide +kernel
theorem dX1_keepsLadderDown_21 : decode cX1_keepsLadderDown 21 = .ok (.istore_n 3, 1) := by decide +kernel
theorem dX1_keepsLadderDown_22 : decode cX1_keepsLadderDown 22 = .ok (.iload_n 1, 1) := by decide +kernel
theorem dX1_keepsLadderDown_23 : decode cX1_keepsLadderDown 23 = .ok (.iconst 4, 1) := by decide +kernel
theorem dX1_keepsLadderDown_24 : decode cX1_keepsLadderDown 24 = .ok (.if_icmp .ge 15, 3) := by decide +kernel
theorem dX1_keepsLadderDown_27 : decode cX1_keepsLadderDown 27 = .ok (.iload_n 2, 1) := by decide +kernel
theorem dX1_keepsLadderDown_28 : decode cX1_keepsLadderDown 28 = .ok (.aload_n 0, 1) := by decide +kernel
theorem dX1_keepsLadderDown_29 : decode cX1_keepsLadderDown 29 = .ok (.getfield 9, 3) := by decide +kernel
theorem dX1_keepsLadderDown_32 : decode cX1_keepsLadderDown 32 = .ok (.iload_n 1, 1) := by decide +kernel
theorem dX1_keepsLadderDown_33 : decode cX1_keepsLadderDown 33 = .ok (.iconst 1, 1) := by decide +kernel
theorem dX1_keepsLadderDown_34 : decode cX1_keepsLadderDown 34 = .ok (.iadd, 1) := by decide +kernel
theorem dX1_keepsLadderDown_35 : decode cX1_keepsLadderDown 35 = .ok (.iaload, 1) := by decide +kernel
theorem dX1_keepsLadderDown_36 : decode cX1_keepsLadderDown 36 = .ok (.if_icmp .lt 7, 3) := by decide +kernel
theorem dX1_keepsLadderDown_39 : decode cX1_keepsLadderDown 39 = .ok (.iconst 1, 1) := by decide +kernel
theorem dX1_keepsLadderDown_40 : decode cX1_keepsLadderDown 40 = .ok (.goto 4, 3) := by decide +kernel
theorem dX1_keepsLadderDown_43 : decode cX1_keepsLadderDown 43 = .ok (.iconst 0, 1) := by decide +kernel
theorem dX1_keepsLadderDown_44 : decode cX1_keepsLadderDown 44 = .ok (.istore 4, 2) := by decide +kernel
theorem dX1_keepsLadderDown_46 : decode cX1_keepsLadderDown 46 = .ok (.iload_n 3, 1) := by decide +kernel
theorem dX1_keepsLadderDown_47 : decode cX1_keepsLadderDown 47 = .ok (.ifCond .eq 12, 3) := by decide +kernel
theorem dX1_keepsLadderDown_50 : decode cX1_keepsLadderDown 50 = .ok (.iload 4, 2) := by decide +kernel
theorem dX1_keepsLadderDown_52 : decode cX1_keepsLadderDown 52 = .ok (.ifCond .eq 7, 3) := by decide +kernel
theorem dX1_keepsLadderDown_55 : decode cX1_keepsLadderDown 55 = .ok (.iconst 1, 1) := by decide +kernel
theorem dX1_keepsLadderDown_56 : decode cX1_keepsLadderDown 56 = .ok (.goto 4, 3) := by decide +kernel
theorem dX1_keepsLadderDown_59 : decode cX1_keepsLadderDown 59 = .ok (.iconst 0, 1) := by decide +kernel
theorem dX1_keepsLadderDown_60 : decode cX1_keepsLadderDown 60 = .ok (.ireturn, 1) := by decide +kernel
theorem dX2_init_0 : decode cX2_init 0 = .ok (.aload_n 0, 1) := by decide +kernel
theorem dX2_init_1 : decode cX2_init 1 = .ok (.invokespecial 3, 3) := by decide +kernel
theorem dX2_init_4 : decode cX2_init 4 = .ok (.aload_n 0, 1) := by decide +kernel
theorem dX2_init_5 : decode cX2_init 5 = .ok (.iconst 5, 1) := by decide +kernel
theorem dX2_init_6 : decode cX2_init 6 = .ok (.newarray .int, 2) := by decide +kernel
theorem dX2_init_8 : decode cX2_init 8 = .ok (.putfield 9, 3) := by decide +kernel
theorem dX2_init_11 : decode cX2_init 11 = .ok (.aload_n 0, 1) := by decide +kernel
theorem dX2_init_12 : decode cX2_init 12 = .ok (.iconst 3, 1) := by decide +kernel
theorem dX2_init_13 : decode cX2_init 13 = .ok (.newarray .int, 2) := by decide +kernel
theorem dX2_init_15 : decode cX2_init 15 = .ok (.putfield 15, 3) := by decide +kernel
theorem dX2_init_18 : decode cX2_init 18 = .ok (.aload_n 0, 1) := by decide +kernel
theorem dX2_init_19 : decode cX2_init 19 = .ok (.iconst (-1), 1) := by decide +kernel
theorem dX2_init_20 : decode cX2_init 20 = .ok (.putfield 18, 3) := by decide +kernel
theorem dX2_init_23 : decode cX2_init 23 = .ok (.return_, 1) := by decide +kernel
theorem dX2_startAnew_0 : decode cX2_startAnew 0 = .ok (.aload_n 0, 1) := by decide +kernel
theorem dX2_startAnew_1 : decode cX2_startAnew 1 = .ok (.iconst 0, 1) := by decide +kernel
theorem dX2_startAnew_2 : decode cX2_startAnew 2 = .ok (.putfield 22, 3) := by decide +kernel
theorem dX2_startAnew_5 : decode cX2_startAnew 5 = .ok (.aload_n 0, 1) := by decide +kernel
theorem dX2_startAnew_6 : decode cX2_startAnew 6 = .ok (.iconst (-1), 1) := by decide +kernel
theorem dX2_startAnew_7 : decode cX2_startAnew 7 = .ok (.putfield 18, 3) := by decide +kernel
theorem dX2_startAnew_10 : decode cX2_startAnew 10 = .ok (.aload_n 0, 1) := by decide +kernel
theorem dX2_startAnew_11 : decode cX2_startAnew 11 = .ok (.iconst 0, 1) := by decide +kernel
theorem dX2_startAnew_12 : decode cX2_startAnew 12 = .ok (.putfield 25, 3) := by decide +kernel
theorem dX2_startAnew_15 : decode cX2_startAnew 15 = .ok (.return_, 1) := by decide +kernel
theorem dX2_waitFrom_0 : decode cX2_waitFrom 0 = .ok (.aload_n 0, 1) := by decide +kernel
theorem dX2_waitFrom_1 : decode cX2_waitFrom 1 = .ok (.getfield 18, 3) := by decide +kernel
theorem dX2_waitFrom_4 : decode cX2_waitFrom 4 = .ok (.iconst (-1), 1) := by decide +kernel
theorem dX2_waitFrom_5 : decode cX2_waitFrom 5 = .ok (.if_icmp .ne 7, 3) := by decide +kernel
theorem dX2_waitFrom_8 : decode cX2_waitFrom 8 = .ok (.iconst 0, 1) := by decide +kernel
theorem dX2_waitFrom_9 : decode cX2_waitFrom 9 = .ok (.goto 15, 3) := by decide +kernel
theorem dX2_waitFrom_12 : decode cX2_waitFrom 12 = .ok (.iconst 0, 1) := by decide +kernel
theorem dX2_waitFrom_13 : decode cX2_waitFrom 13 = .ok (.aload_n 0, 1) := by decide +kernel
theorem dX2_waitFrom_14 : decode cX2_waitFrom 14 = .ok (.getfield 18, 3) := by decide +kernel
theorem dX2_waitFrom_17 : decode cX2_waitFrom 17 = .ok (.iload_n 2, 1) := by decide +kernel
theorem dX2_waitFrom_18 : decode cX2_waitFrom 18 = .ok (.iadd, 1) := by decide +kernel
theorem dX2_waitFrom_19 : decode cX2_waitFrom 19 = .ok (.iload_n 1, 1) := by decide +kernel
theorem dX2_waitFrom_20 : decode cX2_waitFrom 20 = .ok (.isub, 1) := by decide +kernel
theorem dX2_waitFrom_21 : decode cX2_waitFrom 21 = .ok (.invokestatic 28, 3) := by decide +kernel
theorem dX2_waitFrom_24 : decode cX2_waitFrom 24 = .ok (.ireturn, 1) := by decide +kernel
theorem dX2_wholeStock_0 : decode cX2_wholeStock 0 = .ok (.iconst 0, 1) := by decide +kernel
theorem dX2_wholeStock_1 : decode cX2_wholeStock 1 = .ok (.istore_n 1, 1) := by decide +kernel
theorem dX2_wholeStock_2 : decode cX2_wholeStock 2 = .ok (.iconst 0, 1) := by decide +kernel
theorem dX2_wholeStock_3 : decode cX2_wholeStock 3 = .ok (.istore_n 2, 1) := by decide +kernel
theorem dX2_wholeStock_4 : decode cX2_wholeStock 4 = .ok (.iload_n 2, 1) := by decide +kernel
theorem dX2_wholeStock_5 : decode cX2_wholeStock 5 = .ok (.iconst 3, 1) := by decide +kernel
theorem dX2_wholeStock_6 : decode cX2_wholeStock 6 = .ok (.if_icmp .ge 18, 3) := by decide +kernel
theorem dX2_wholeStock_9 : decode cX2_wholeStock 9 = .ok (.iload_n 1, 1) := by decide +kernel
theorem dX2_wholeStock_10 : decode cX2_wholeStock 10 = .ok (.aload_n 0, 1) := by decide +kernel
theorem dX2_wholeStock_11 : decode cX2_wholeStock 11 = .ok (.getfield 15, 3) := by decide +kernel
theorem dX2_wholeStock_14 : decode cX2_wholeStock 14 = .ok (.iload_n 2, 1) := by decide +kernel
theorem dX2_wholeStock_15 : decode cX2_wholeStock 15 = .ok (.iaload, 1) := by decide +kernel
theorem dX2_wholeStock_16 : decode cX2_wholeStock 16 = .ok (.iadd, 1) := by decide +kernel
theorem dX2_wholeStock_17 : decode cX2_wholeStock 17 = .ok (.istore_n 1, 1) := by decide +kernel
theorem dX2_wholeStock_18 : decode cX2_wholeStock 18 = .ok (.iinc 2 1, 3) := by decide +kernel
theorem dX2_wholeStock_21 : decode cX2_wholeStock 21 = .ok (.goto (-17), 3) := by decide +kernel
theorem dX2_wholeStock_24 : decode cX2_wholeStock 24 = .ok (.iload_n 1, 1) := by decide +kernel
theorem dX2_wholeStock_25 : decode cX2_wholeStock 25 = .ok (.ireturn, 1) := by decide +kernel
theorem dX2_sizesInStock_0 : decode cX2_sizesInStock 0 = .ok (.iconst 0, 1) := by decide +kernel
theorem dX2_sizesInStock_1 : decode cX2_sizesInStock 1 = .ok (.istore_n 1, 1) := by decide +kernel
theorem dX2_sizesInStock_2 : decode cX2_sizesInStock 2 = .ok (.iconst 0, 1) := by decide +kernel
theorem dX2_sizesInStock_3 : decode cX2_sizesInStock 3 = .ok (.istore_n 2, 1) := by decide +kernel
theorem dX2_sizesInStock_4 : decode cX2_sizesInStock 4 = .ok (.iload_n 2, 1) := by decide +kernel
theorem dX2_sizesInStock_5 : decode cX2_sizesInStock 5 = .ok (.iconst 3, 1) := by decide +kernel
theorem dX2_sizesInStock_6 : decode cX2_sizesInStock 6 = .ok (.if_icmp .ge 21, 3) := by decide +kernel
theorem dX2_sizesInStock_9 : decode cX2_sizesInStock 9 = .ok (.aload_n 0, 1) := by decide +kernel
theorem dX2_sizesInStock_10 : decode cX2_sizesInStock 10 = .ok (.getfield 15, 3) := by decide +kernel
theorem dX2_sizesInStock_13 : decode cX2_sizesInStock 13 = .ok (.iload_n 2, 1) := by decide +kernel
theorem dX2_sizesInStock_14 : decode cX2_sizesInStock 14 = .ok (.iaload, 1) := by decide +kernel
theorem dX2_sizesInStock_15 : decode cX2_sizesInStock 15 = .ok (.ifCond .le 6, 3) := by decide +kernel
theorem dX2_sizesInStock_18 : decode cX2_sizesInStock 18 = .ok (.iinc 1 1, 3) := by decide +kernel
theorem dX2_sizesInStock_21 : decode cX2_sizesInStock 21 = .ok (.iinc 2 1, 3) := by decide +kernel
theorem dX2_sizesInStock_24 : decode cX2_sizesInStock 24 = .ok (.goto (-20), 3) := by decide +kernel
theorem dX2_sizesInStock_27 : decode cX2_sizesInStock 27 = .ok (.iload_n 1, 1) := by decide +kernel
theorem dX2_sizesInStock_28 : decode cX2_sizesInStock 28 = .ok (.ireturn, 1) := by decide +kernel
theorem dX2_salesAt_0 : decode cX2_salesAt 0 = .ok (.aload_n 0, 1) := by decide +kernel
theorem dX2_salesAt_1 : decode cX2_salesAt 1 = .ok (.getfield 9, 3) := by decide +kernel
theorem dX2_salesAt_4 : decode cX2_salesAt 4 = .ok (.iload_n 1, 1) := by decide +kernel
theorem dX2_salesAt_5 : decode cX2_salesAt 5 = .ok (.iaload, 1) := by decide +kernel
theorem dX2_salesAt_6 : decode cX2_salesAt 6 = .ok (.aload_n 0, 1) := by decide +kernel
theorem dX2_salesAt_7 : decode cX2_salesAt 7 = .ok (.invokevirtual 34, 3) := by decide +kernel
theorem dX2_salesAt_10 : decode cX2_salesAt 10 = .ok (.imul, 1) := by decide +kernel
theorem dX2_salesAt_11 : decode cX2_salesAt 11 = .ok (.iconst 3, 1) := by decide +kernel
theorem dX2_salesAt_12 : decode cX2_salesAt 12 = .ok (.idiv, 1) := by decide +kernel
theorem dX2_salesAt_13 : decode cX2_salesAt 13 = .ok (.aload_n 0, 1) := by decide +kernel
theorem dX2_salesAt_14 : decode cX2_salesAt 14 = .ok (.invokevirtual 38, 3) := by decide +kernel
theorem dX2_salesAt_17 : decode cX2_salesAt 17 = .ok (.invokestatic 41, 3) := by decide +kernel
theorem dX2_salesAt_20 : decode cX2_salesAt 20 = .ok (.ireturn, 1) := by decide +kernel
theorem dX2_sellForAWeek_0 : decode cX2_sellForAWeek 0 = .ok (.aload_n 0, 1) := by decide +kernel
theorem dX2_sellForAWeek_1 : decode cX2_sellForAWeek 1 = .ok (.aload_n 0, 1) := by decide +kernel
theorem dX2_sellForAWeek_2 : decode cX2_sellForAWeek 2 = .ok (.getfield 22, 3) := by decide +kernel
theorem dX2_sellForAWeek_5 : decode cX2_sellForAWeek 5 = .ok (.invokevirtual 44, 3) := by decide +kernel
theorem dX2_sellForAWeek_8 : decode cX2_sellForAWeek 8 = .ok (.istore_n 1, 1) := by decide +kernel
theorem dX2_sellForAWeek_9 : decode cX2_sellForAWeek 9 = .ok (.iconst 0, 1) := by decide +kernel
theorem dX2_sellForAWeek_10 : decode cX2_sellForAWeek 10 = .ok (.istore_n 2, 1) := by decide +kernel
theorem dX2_sellForAWeek_11 : decode cX2_sellForAWeek 11 = .ok (.iload_n 2, 1) := by decide +kernel
theorem dX2_sellForAWeek_12 : decode cX2_sellForAWeek 12 = .ok (.iload_n 1, 1) := by decide +kernel
theorem dX2_sellForAWeek_13 : decode cX2_sellForAWeek 13 = .ok (.if_icmp .ge 22, 3) := by decide +kernel
theorem dX2_sellForAWeek_16 : decode cX2_sellForAWeek 16 = .ok (.aload_n 0, 1) := by decide +kernel
theorem dX2_sellForAWeek_17 : decode cX2_sellForAWeek 17 = .ok (.getfield 15, 3) := by decide +kernel
theorem dX2_sellForAWeek_20 : decode cX2_sellForAWeek 20 = .ok (.aload_n 0, 1) := by decide +kernel
theorem dX2_sellForAWeek_21 : decode cX2_sellForAWeek 21 = .ok (.invokevirtual 48, 3) := by decide +kernel
theorem dX2_sellForAWeek_24 : decode cX2_sellForAWeek 24 = .ok (.dup2, 1) := by decide +kernel
theorem dX2_sellForAWeek_25 : decode cX2_sellForAWeek 25 = .ok (.iaload, 1) := by decide +kernel
theorem dX2_sellForAWeek_26 : decode cX2_sellForAWeek 26 = .ok (.iconst 1, 1) := by decide +kernel
theorem dX2_sellForAWeek_27 : decode cX2_sellForAWeek 27 = .ok (.isub, 1) := by decide +kernel
theorem dX2_sellForAWeek_28 : decode cX2_sellForAWeek 28 = .ok (.iastore, 1) := by decide +kernel
theorem dX2_sellForAWeek_29 : decode cX2_sellForAWeek 29 = .ok (.iinc 2 1, 3) := by decide +kernel
theorem dX2_sellForAWeek_32 : decode cX2_sellForAWeek 32 = .ok (.goto (-21), 3) := by decide +kernel
theorem dX2_sellForAWeek_35 : decode cX2_sellForAWeek 35 = .ok (.aload_n 0, 1) := by decide +kernel
theorem dX2_sellForAWeek_36 : decode cX2_sellForAWeek 36 = .ok (.dup, 1) := by decide +kernel
theorem dX2_sellForAWeek_37 : decode cX2_sellForAWeek 37 = .ok (.getfield 25, 3) := by decide +kernel
theorem dX2_sellForAWeek_40 : decode cX2_sellForAWeek 40 = .ok (.iload_n 1, 1) := by decide +kernel
theorem dX2_sellForAWeek_41 : decode cX2_sellForAWeek 41 = .ok (.iadd, 1) := by decide +kernel
theorem dX2_sellForAWeek_42 : decode cX2_sellForAWeek 42 = .ok (.putfield 25, 3) := by decide +kernel
theorem dX2_sellForAWeek_45 : decode cX2_sellForAWeek 45 = .ok (.iload_n 1, 1) := by decide +kernel
theorem dX2_sellForAWeek_46 : decode cX2_sellForAWeek 46 = .ok (.ireturn, 1) := by decide +kernel
theorem dX2_fullestSize_0 : decode cX2_fullestSize 0 = .ok (.iconst 0, 1) := by decide +kernel
theorem dX2_fullestSize_1 : decode cX2_fullestSize 1 = .ok (.istore_n 1, 1) := by decide +kernel
theorem dX2_fullestSize_2 : decode cX2_fullestSize 2 = .ok (.iconst 1, 1) := by decide +kernel
theorem dX2_fullestSize_3 : decode cX2_fullestSize 3 = .ok (.istore_n 2, 1) := by decide +kernel
theorem dX2_fullestSize_4 : decode cX2_fullestSize 4 = .ok (.iload_n 2, 1) := by decide +kernel
theorem dX2_fullestSize_5 : decode cX2_fullestSize 5 = .ok (.iconst 3, 1) := by decide +kernel
theorem dX2_fullestSize_6 : decode cX2_fullestSize 6 = .ok (.if_icmp .ge 26, 3) := by decide +kernel
theorem dX2_fullestSize_9 : decode cX2_fullestSize 9 = .ok (.aload_n 0, 1) := by decide +kernel
theorem dX2_fullestSize_10 : decode cX2_fullestSize 10 = .ok (.getfield 15, 3) := by decide +kernel
theorem dX2_fullestSize_13 : decode cX2_fullestSize 13 = .ok (.iload_n 2, 1) := by decide +kernel
theorem dX2_fullestSize_14 : decode cX2_fullestSize 14 = .ok (.iaload, 1) := by decide +kernel
theorem dX2_fullestSize_15 : decode cX2_fullestSize 15 = .ok (.aload_n 0, 1) := by decide +kernel
theorem dX2_fullestSize_16 : decode cX2_fullestSize 16 = .ok (.getfield 15, 3) := by decide +kernel
theorem dX2_fullestSize_19 : decode cX2_fullestSize 19 = .ok (.iload_n 1, 1) := by decide +kernel
theorem dX2_fullestSize_20 : decode cX2_fullestSize 20 = .ok (.iaload, 1) := by decide +kernel
theorem dX2_fullestSize_21 : decode cX2_fullestSize 21 = .ok (.if_icmp .le 5, 3) := by decide +kernel
theorem dX2_fullestSize_24 : decode cX2_fullestSize 24 = .ok (.iload_n 2, 1) := by decide +kernel
theorem dX2_fullestSize_25 : decode cX2_fullestSize 25 = .ok (.istore_n 1, 1) := by decide +kernel
theorem dX2_fullestSize_26 : decode cX2_fullestSize 26 = .ok (.iinc 2 1, 3) := by decide +kernel
theorem dX2_fullestSize_29 : decode cX2_fullestSize 29 = .ok (.goto (-25), 3) := by decide +kernel
theorem dX2_fullestSize_32 : decode cX2_fullestSize 32 = .ok (.iload_n 1, 1) := by decide +kernel
theorem dX2_fullestSize_33 : decode cX2_fullestSize 33 = .ok (.ireturn, 1) := by decide +kernel
theorem dX3_init_0 : decode cX3_init 0 = .ok (.aload_n 0, 1) := by decide +kernel
theorem dX3_init_1 : decode cX3_init 1 = .ok (.invokespecial 3, 3) := by decide +kernel
theorem dX3_init_4 : decode cX3_init 4 = .ok (.aload_n 0, 1) := by decide +kernel
theorem dX3_init_5 : decode cX3_init 5 = .ok (.new 9, 3) := by decide +kernel
theorem dX3_init_8 : decode cX3_init 8 = .ok (.dup, 1) := by decide +kernel
theorem dX3_init_9 : decode cX3_init 9 = .ok (.invokespecial 11, 3) := by decide +kernel
theorem dX3_init_12 : decode cX3_init 12 = .ok (.putfield 12, 3) := by decide +kernel
theorem dX3_init_15 : decode cX3_init 15 = .ok (.aload_n 0, 1) := by decide +kernel
theorem dX3_init_16 : decode cX3_init 16 = .ok (.iconst 3, 1) := by decide +kernel
theorem dX3_init_17 : decode cX3_init 17 = .ok (.anewarray 16, 3) := by decide +kernel
theorem dX3_init_20 : decode cX3_init 20 = .ok (.putfield 18, 3) := by decide +kernel
theorem dX3_init_23 : decode cX3_init 23 = .ok (.aload_n 0, 1) := by decide +kernel
theorem dX3_init_24 : decode cX3_init 24 = .ok (.new 22, 3) := by decide +kernel
theorem dX3_init_27 : decode cX3_init 27 = .ok (.dup, 1) := by decide +kernel
theorem dX3_init_28 : decode cX3_init 28 = .ok (.invokespecial 24, 3) := by decide +kernel
theorem dX3_init_31 : decode cX3_init 31 = .ok (.putfield 25, 3) := by decide +kernel
theorem dX3_init_34 : decode cX3_init 34 = .ok (.iconst 0, 1) := by decide +kernel
theorem dX3_init_35 : decode cX3_init 35 = .ok (.istore_n 1, 1) := by decide +kernel
theorem dX3_init_36 : decode cX3_init 36 = .ok (.iload_n 1, 1) := by decide +kernel
theorem dX3_init_37 : decode cX3_init 37 = .ok (.iconst 3, 1) := by decide +kernel
theorem dX3_init_38 : decode cX3_init 38 = .ok (.if_icmp .ge 22, 3) := by decide +kernel
theorem dX3_init_41 : decode cX3_init 41 = .ok (.aload_n 0, 1) := by decide +kernel
theorem dX3_init_42 : decode cX3_init 42 = .ok (.getfield 18, 3) := by decide +kernel
theorem dX3_init_45 : decode cX3_init 45 = .ok (.iload_n 1, 1) := by decide +kernel
theorem dX3_init_46 : decode cX3_init 46 = .ok (.new 16, 3) := by decide +kernel
theorem dX3_init_49 : decode cX3_init 49 = .ok (.dup, 1) := by decide +kernel
theorem dX3_init_50 : decode cX3_init 50 = .ok (.invokespecial 29, 3) := by decide +kernel
theorem dX3_init_53 : decode cX3_init 53 = .ok (.aastore, 1) := by decide +kernel
theorem dX3_init_54 : decode cX3_init 54 = .ok (.iinc 1 1, 3) := by decide +kernel
theorem dX3_init_57 : decode cX3_init 57 = .ok (.goto (-21), 3) := by decide +kernel
theorem dX3_init_60 : decode cX3_init 60 = .ok (.return_, 1) := by decide +kernel
theorem dX3_begin_0 : decode cX3_begin 0 = .ok (.iload_n 1, 1) := by decide +kernel
theorem dX3_begin_1 : decode cX3_begin 1 = .ok (.iconst 1, 1) := by decide +kernel
theorem dX3_begin_2 : decode cX3_begin 2 = .ok (.bipush 10, 2) := by decide +kernel
theorem dX3_begin_4 : decode cX3_begin 4 = .ok (.invokestatic 30, 3) := by decide +kernel
theorem dX3_begin_7 : decode cX3_begin 7 = .ok (.aload_n 0, 1) := by decide +kernel
theorem dX3_begin_8 : decode cX3_begin 8 = .ok (.getfield 12, 3) := by decide +kernel
theorem dX3_begin_11 : decode cX3_begin 11 = .ok (.getfield 34, 3) := by decide +kernel
theorem dX3_begin_14 : decode cX3_begin 14 = .ok (.istore_n 2, 1) := by decide +kernel
theorem dX3_begin_15 : decode cX3_begin 15 = .ok (.aload_n 0, 1) := by decide +kernel
theorem dX3_begin_16 : decode cX3_begin 16 = .ok (.getfield 12, 3) := by decide +kernel
theorem dX3_begin_19 : decode cX3_begin 19 = .ok (.iload_n 1, 1) := by decide +kernel
theorem dX3_begin_20 : decode cX3_begin 20 = .ok (.invokevirtual 38, 3) := by decide +kernel
theorem dX3_begin_23 : decode cX3_begin 23 = .ok (.aload_n 0, 1) := by decide +kernel
theorem dX3_begin_24 : decode cX3_begin 24 = .ok (.getfield 18, 3) := by decide +kernel
theorem dX3_begin_27 : decode cX3_begin 27 = .ok (.astore_n 3, 1) := by decide +kernel
theorem dX3_begin_28 : decode cX3_begin 28 = .ok (.aload_n 3, 1) := by decide +kernel
theorem dX3_begin_29 : decode cX3_begin 29 = .ok (.arraylength, 1) := by decide +kernel
theorem dX3_begin_30 : decode cX3_begin 30 = .ok (.istore 4, 2) := by decide +kernel
theorem dX3_begin_32 : decode cX3_begin 32 = .ok (.iconst 0, 1) := by decide +kernel
theorem dX3_begin_33 : decode cX3_begin 33 = .ok (.istore 5, 2) := by decide +kernel
theorem dX3_begin_35 : decode cX3_begin 35 = .ok (.iload 5, 2) := by decide +kernel
theorem dX3_begin_37 : decode cX3_begin 37 = .ok (.iload 4, 2) := by decide +kernel
theorem dX3_begin_39 : decode cX3_begin 39 = .ok (.if_icmp .ge 20, 3) := by decide +kernel
theorem dX3_begin_42 : decode cX3_begin 42 = .ok (.aload_n 3, 1) := by decide +kernel
theorem dX3_begin_43 : decode cX3_begin 43 = .ok (.iload 5, 2) := by decide +kernel
theorem dX3_begin_45 : decode cX3_begin 45 = .ok (.aaload, 1) := by decide +kernel
theorem dX3_begin_46 : decode cX3_begin 46 = .ok (.astore 6, 2) := by decide +kernel
theorem dX3_begin_48 : decode cX3_begin 48 = .ok (.aload 6, 2) := by decide +kernel
theorem dX3_begin_50 : decode cX3_begin 50 = .ok (.invokevirtual 42, 3) := by decide +kernel
theorem dX3_begin_53 : decode cX3_begin 53 = .ok (.iinc 5 1, 3) := by decide +kernel
theorem dX3_begin_56 : decode cX3_begin 56 = .ok (.goto (-21), 3) := by decide +kernel
theorem dX3_begin_59 : decode cX3_begin 59 = .ok (.iload_n 2, 1) := by decide +kernel
theorem dX3_begin_60 : decode cX3_begin 60 = .ok (.ireturn, 1) := by decide +kernel
theorem dX3_setPrice_0 : decode cX3_setPrice 0 = .ok (.iload_n 1, 1) := by decide +kernel
theorem dX3_setPrice_1 : decode cX3_setPrice 1 = .ok (.invokestatic 44, 3) := by decide +kernel
theorem dX3_setPrice_4 : decode cX3_setPrice 4 = .ok (.iload_n 2, 1) := by decide +kernel
theorem dX3_setPrice_5 : decode cX3_setPrice 5 = .ok (.iconst 0, 1) := by decide +kernel
theorem dX3_setPrice_6 : decode cX3_setPrice 6 = .ok (.sipush 1000, 3) := by decide +kernel
theorem dX3_setPrice_9 : decode cX3_setPrice 9 = .ok (.invokestatic 30, 3) := by decide +kernel
theorem dX3_setPrice_12 : decode cX3_setPrice 12 = .ok (.aload_n 0, 1) := by decide +kernel
theorem dX3_setPrice_13 : decode cX3_setPrice 13 = .ok (.getfield 12, 3) := by decide +kernel
theorem dX3_setPrice_16 : decode cX3_setPrice 16 = .ok (.iload_n 1, 1) := by decide +kernel
theorem dX3_setPrice_17 : decode cX3_setPrice 17 = .ok (.iload_n 2, 1) := by decide +kernel
theorem dX3_setPrice_18 : decode cX3_setPrice 18 = .ok (.invokevirtual 47, 3) := by decide +kernel
theorem dX3_setPrice_21 : decode cX3_setPrice 21 = .ok (.ifCond .ne 13, 3) := by decide +kernel
theorem dX3_setPrice_24 : decode cX3_setPrice 24 = .ok (.new 51, 3) := by decide +kernel
theorem dX3_setPrice_27 : decode cX3_setPrice 27 = .ok (.dup, 1) := by decide +kernel
theorem dX3_setPrice_28 : decode cX3_setPrice 28 = .ok (.ldc 53, 2) := by decide +kernel
theorem dX3_setPrice_30 : decode cX3_setPrice 30 = .ok (.invokespecial 55, 3) := by decide +kernel
theorem dX3_setPrice_33 : decode cX3_setPrice 33 = .ok (.athrow, 1) := by decide +kernel
theorem dX3_setPrice_34 : decode cX3_setPrice 34 = .ok (.aload_n 0, 1) := by decide +kernel
theorem dX3_setPrice_35 : decode cX3_setPrice 35 = .ok (.getfield 12, 3) := by decide +kernel
theorem dX3_setPrice_38 : decode cX3_setPrice 38 = .ok (.getfield 58, 3) := by decide +kernel
theorem dX3_setPrice_41 : decode cX3_setPrice 41 = .ok (.iload_n 1, 1) := by decide +kernel
theorem dX3_setPrice_42 : decode cX3_setPrice 42 = .ok (.iaload, 1) := by decide +kernel
theorem dX3_setPrice_43 : decode cX3_setPrice 43 = .ok (.istore_n 3, 1) := by decide +kernel
theorem dX3_setPrice_44 : decode cX3_setPrice 44 = .ok (.aload_n 0, 1) := by decide +kernel
theorem dX3_setPrice_45 : decode cX3_setPrice 45 = .ok (.getfield 12, 3) := by decide +kernel
theorem dX3_setPrice_48 : decode cX3_setPrice 48 = .ok (.getfield 58, 3) := by decide +kernel
theorem dX3_setPrice_51 : decode cX3_setPrice 51 = .ok (.iload_n 1, 1) := by decide +kernel
theorem dX3_setPrice_52 : decode cX3_setPrice 52 = .ok (.iload_n 2, 1) := by decide +kernel
theorem dX3_setPrice_53 : decode cX3_setPrice 53 = .ok (.iastore, 1) := by decide +kernel
theorem dX3_setPrice_54 : decode cX3_setPrice 54 = .ok (.iload_n 3, 1) := by decide +kernel
theorem dX3_setPrice_55 : decode cX3_setPrice 55 = .ok (.ireturn, 1) := by decide +kernel
theorem dX3_setDemand_0 : decode cX3_setDemand 0 = .ok (.aload_n 0, 1) := by decide +kernel
theorem dX3_setDemand_1 : decode cX3_setDemand 1 = .ok (.iload_n 1, 1) := by decide +kernel
theorem dX3_setDemand_2 : decode cX3_setDemand 2 = .ok (.invokevirtual 62, 3) := by decide +kernel
theorem dX3_setDemand_5 : decode cX3_setDemand 5 = .ok (.astore 4, 2) := by decide +kernel
theorem dX3_setDemand_7 : decode cX3_setDemand 7 = .ok (.iload_n 2, 1) := by decide +kernel
theorem dX3_setDemand_8 : decode cX3_setDemand 8 = .ok (.invokestatic 44, 3) := by decide +kernel
theorem dX3_setDemand_11 : decode cX3_setDemand 11 = .ok (.iload_n 3, 1) := by decide +kernel
theorem dX3_setDemand_12 : decode cX3_setDemand 12 = .ok (.iconst 0, 1) := by decide +kernel
theorem dX3_setDemand_13 : decode cX3_setDemand 13 = .ok (.bipush 30, 2) := by decide +kernel
theorem dX3_setDemand_15 : decode cX3_setDemand 15 = .ok (.invokestatic 30, 3) := by decide +kernel
theorem dX3_setDemand_18 : decode cX3_setDemand 18 = .ok (.aload 4, 2) := by decide +kernel
theorem dX3_setDemand_20 : decode cX3_setDemand 20 = .ok (.getfield 66, 3) := by decide +kernel
theorem dX3_setDemand_23 : decode cX3_setDemand 23 = .ok (.iload_n 2, 1) := by decide +kernel
theorem dX3_setDemand_24 : decode cX3_setDemand 24 = .ok (.iaload, 1) := by decide +kernel
theorem dX3_setDemand_25 : decode cX3_setDemand 25 = .ok (.istore 5, 2) := by decide +kernel
theorem dX3_setDemand_27 : decode cX3_setDemand 27 = .ok (.aload 4, 2) := by decide +kernel
theorem dX3_setDemand_29 : decode cX3_setDemand 29 = .ok (.getfield 66, 3) := by decide +kernel
theorem dX3_setDemand_32 : decode cX3_setDemand 32 = .ok (.iload_n 2, 1) := by decide +kernel
theorem dX3_setDemand_33 : decode cX3_setDemand 33 = .ok (.iload_n 3, 1) := by decide +kernel
theorem dX3_setDemand_34 : decode cX3_setDemand 34 = .ok (.iastore, 1) := by decide +kernel
theorem dX3_setDemand_35 : decode cX3_setDemand 35 = .ok (.iload 5, 2) := by decide +kernel
theorem dX3_setDemand_37 : decode cX3_setDemand 37 = .ok (.ireturn, 1) := by decide +kernel
theorem dX3_setRules_0 : decode cX3_setRules 0 = .ok (.iload_n 1, 1) := by decide +kernel
theorem dX3_setRules_1 : decode cX3_setRules 1 = .ok (.iconst 1, 1) := by decide +kernel
theorem dX3_setRules_2 : decode cX3_setRules 2 = .ok (.iconst 4, 1) := by decide +kernel
theorem dX3_setRules_3 : decode cX3_setRules 3 = .ok (.invokestatic 30, 3) := by decide +kernel
theorem dX3_setRules_6 : decode cX3_setRules 6 = .ok (.iload_n 2, 1) := by decide +kernel
theorem dX3_setRules_7 : decode cX3_setRules 7 = .ok (.iconst 0, 1) := by decide +kernel
theorem dX3_setRules_8 : decode cX3_setRules 8 = .ok (.sipush 1000, 3) := by decide +kernel
theorem dX3_setRules_11 : decode cX3_setRules 11 = .ok (.invokestatic 30, 3) := by decide +kernel
theorem dX3_setRules_14 : decode cX3_setRules 14 = .ok (.iload_n 3, 1) := by decide +kernel
theorem dX3_setRules_15 : decode cX3_setRules 15 = .ok (.iconst 0, 1) := by decide +kernel
theorem dX3_setRules_16 : decode cX3_setRules 16 = .ok (.bipush 100, 2) := by decide +kernel
theorem dX3_setRules_18 : decode cX3_setRules 18 = .ok (.invokestatic 30, 3) := by decide +kernel
theorem dX3_setRules_21 : decode cX3_setRules 21 = .ok (.aload_n 0, 1) := by decide +kernel
theorem dX3_setRules_22 : decode cX3_setRules 22 = .ok (.getfield 12, 3) := by decide +kernel
theorem dX3_setRules_25 : decode cX3_setRules 25 = .ok (.iload_n 1, 1) := by decide +kernel
theorem dX3_setRules_26 : decode cX3_setRules 26 = .ok (.putfield 69, 3) := by decide +kernel
theorem dX3_setRules_29 : decode cX3_setRules 29 = .ok (.aload_n 0, 1) := by decide +kernel
theorem dX3_setRules_30 : decode cX3_setRules 30 = .ok (.getfield 12, 3) := by decide +kernel
theorem dX3_setRules_33 : decode cX3_setRules 33 = .ok (.iload_n 2, 1) := by decide +kernel
theorem dX3_setRules_34 : decode cX3_setRules 34 = .ok (.putfield 72, 3) := by decide +kernel
theorem dX3_setRules_37 : decode cX3_setRules 37 = .ok (.aload_n 0, 1) := by decide +kernel
theorem dX3_setRules_38 : decode cX3_setRules 38 = .ok (.getfield 12, 3) := by decide +kernel
theorem dX3_setRules_41 : decode cX3_setRules 41 = .ok (.iload_n 3, 1) := by decide +kernel
theorem dX3_setRules_42 : decode cX3_setRules 42 = .ok (.putfield 75, 3) := by decide +kernel
theorem dX3_setRules_45 : decode cX3_setRules 45 = .ok (.return_, 1) := by decide +kernel
theorem dX3_put_0 : decode cX3_put 0 = .ok (.aload_n 0, 1) := by decide +kernel
theorem dX3_put_1 : decode cX3_put 1 = .ok (.iload_n 1, 1) := by decide +kernel
theorem dX3_put_2 : decode cX3_put 2 = .ok (.invokevirtual 62, 3) := by decide +kernel
theorem dX3_put_5 : decode cX3_put 5 = .ok (.astore 4, 2) := by decide +kernel
theorem dX3_put_7 : decode cX3_put 7 = .ok (.iload_n 2, 1) := by decide +kernel
theorem dX3_put_8 : decode cX3_put 8 = .ok (.invokestatic 78, 3) := by decide +kernel
theorem dX3_put_11 : decode cX3_put 11 = .ok (.iload_n 3, 1) := by decide +kernel
theorem dX3_put_12 : decode cX3_put 12 = .ok (.iconst 1, 1) := by decide +kernel
theorem dX3_put_13 : decode cX3_put 13 = .ok (.bipush 40, 2) := by decide +kernel
theorem dX3_put_15 : decode cX3_put 15 = .ok (.invokestatic 30, 3) := by decide +kernel
theorem dX3_put_18 : decode cX3_put 18 = .ok (.aload 4, 2) := by decide +kernel
theorem dX3_put_20 : decode cX3_put 20 = .ok (.iload_n 3, 1) := by decide +kernel
theorem dX3_put_21 : decode cX3_put 21 = .ok (.invokestatic 81, 3) := by decide +kernel
theorem dX3_put_24 : decode cX3_put 24 = .ok (.aload 4, 2) := by decide +kernel
theorem dX3_put_26 : decode cX3_put 26 = .ok (.getfield 85, 3) := by decide +kernel
theorem dX3_put_29 : decode cX3_put 29 = .ok (.iload_n 2, 1) := by decide +kernel
theorem dX3_put_30 : decode cX3_put 30 = .ok (.dup2, 1) := by decide +kernel
theorem dX3_put_31 : decode cX3_put 31 = .ok (.iaload, 1) := by decide +kernel
theorem dX3_put_32 : decode cX3_put 32 = .ok (.iload_n 3, 1) := by decide +kernel
theorem dX3_put_33 : decode cX3_put 33 = .ok (.iadd, 1) := by decide +kernel
theorem dX3_put_34 : decode cX3_put 34 = .ok (.iastore, 1) := by decide +kernel
theorem dX3_put_35 : decode cX3_put 35 = .ok (.aload 4, 2) := by decide +kernel
theorem dX3_put_37 : decode cX3_put 37 = .ok (.getfield 85, 3) := by decide +kernel
theorem dX3_put_40 : decode cX3_put 40 = .ok (.iload_n 2, 1) := by decide +kernel
theorem dX3_put_41 : decode cX3_put 41 = .ok (.iaload, 1) := by decide +kernel
theorem dX3_put_42 : decode cX3_put 42 = .ok (.ireturn, 1) := by decide +kernel
theorem dX3_markDown_0 : decode cX3_markDown 0 = .ok (.aload_n 0, 1) := by decide +kernel
theorem dX3_markDown_1 : decode cX3_markDown 1 = .ok (.iload_n 1, 1) := by decide +kernel
theorem dX3_markDown_2 : decode cX3_markDown 2 = .ok (.invokevirtual 62, 3) := by decide +kernel
theorem dX3_markDown_5 : decode cX3_markDown 5 = .ok (.astore_n 3, 1) := by decide +kernel
theorem dX3_markDown_6 : decode cX3_markDown 6 = .ok (.iload_n 2, 1) := by decide +kernel
theorem dX3_markDown_7 : decode cX3_markDown 7 = .ok (.invokestatic 44, 3) := by decide +kernel
theorem dX3_markDown_10 : decode cX3_markDown 10 = .ok (.aload_n 0, 1) := by decide +kernel
theorem dX3_markDown_11 : decode cX3_markDown 11 = .ok (.invokevirtual 88, 3) := by decide +kernel
theorem dX3_markDown_14 : decode cX3_markDown 14 = .ok (.iload_n 2, 1) := by decide +kernel
theorem dX3_markDown_15 : decode cX3_markDown 15 = .ok (.aload_n 3, 1) := by decide +kernel
theorem dX3_markDown_16 : decode cX3_markDown 16 = .ok (.getfield 91, 3) := by decide +kernel
theorem dX3_markDown_19 : decode cX3_markDown 19 = .ok (.if_icmp .gt 13, 3) := by decide +kernel
theorem dX3_markDown_22 : decode cX3_markDown 22 = .ok (.new 51, 3) := by decide +kernel
theorem dX3_markDown_25 : decode cX3_markDown 25 = .ok (.dup, 1) := by decide +kernel
theorem dX3_markDown_26 : decode cX3_markDown 26 = .ok (.ldc 94, 2) := by decide +kernel
theorem dX3_markDown_28 : decode cX3_markDown 28 = .ok (.invokespecial 55, 3) := by decide +kernel
theorem dX3_markDown_31 : decode cX3_markDown 31 = .ok (.athrow, 1) := by decide +kernel
theorem dX3_markDown_32 : decode cX3_markDown 32 = .ok (.aload_n 3, 1) := by decide +kernel
theorem dX3_markDown_33 : decode cX3_markDown 33 = .ok (.aload_n 0, 1) := by decide +kernel
theorem dX3_markDown_34 : decode cX3_markDown 34 = .ok (.getfield 12, 3) := by decide +kernel
theorem dX3_markDown_37 : decode cX3_markDown 37 = .ok (.getfield 34, 3) := by decide +kernel
theorem dX3_markDown_40 : decode cX3_markDown 40 = .ok (.aload_n 0, 1) := by decide +kernel
theorem dX3_markDown_41 : decode cX3_markDown 41 = .ok (.getfield 12, 3) := by decide +kernel
theorem dX3_markDown_44 : decode cX3_markDown 44 = .ok (.getfield 69, 3) := by decide +kernel
theorem dX3_markDown_47 : decode cX3_markDown 47 = .ok (.invokevirtual 96, 3) := by decide +kernel
theorem dX3_markDown_50 : decode cX3_markDown 50 = .ok (.ifCond .le 13, 3) := by decide +kernel
theorem dX3_markDown_53 : decode cX3_markDown 53 = .ok (.new 51, 3) := by decide +kernel
theorem dX3_markDown_56 : decode cX3_markDown 56 = .ok (.dup, 1) := by decide +kernel
theorem dX3_markDown_57 : decode cX3_markDown 57 = .ok (.ldc 100, 2) := by decide +kernel
theorem dX3_markDown_59 : decode cX3_markDown 59 = .ok (.invokespecial 55, 3) := by decide +kernel
theorem dX3_markDown_62 : decode cX3_markDown 62 = .ok (.athrow, 1) := by decide +kernel
theorem dX3_markDown_63 : decode cX3_markDown 63 = .ok (.aload_n 3, 1) := by decide +kernel
theorem dX3_markDown_64 : decode cX3_markDown 64 = .ok (.iload_n 2, 1) := by decide +kernel
theorem dX3_markDown_65 : decode cX3_markDown 65 = .ok (.putfield 91, 3) := by decide +kernel
theorem dX3_markDown_68 : decode cX3_markDown 68 = .ok (.aload_n 3, 1) := by decide +kernel
theorem dX3_markDown_69 : decode cX3_markDown 69 = .ok (.aload_n 0, 1) := by decide +kernel
theorem dX3_markDown_70 : decode cX3_markDown 70 = .ok (.getfield 12, 3) := by decide +kernel
theorem dX3_markDown_73 : decode cX3_markDown 73 = .ok (.getfield 34, 3) := by decide +kernel
theorem dX3_markDown_76 : decode cX3_markDown 76 = .ok (.putfield 102, 3) := by decide +kernel
theorem dX3_markDown_79 : decode cX3_markDown 79 = .ok (.aload_n 0, 1) := by decide +kernel
theorem dX3_markDown_80 : decode cX3_markDown 80 = .ok (.getfield 12, 3) := by decide +kernel
theorem dX3_markDown_83 : decode cX3_markDown 83 = .ok (.getfield 58, 3) := by decide +kernel
theorem dX3_markDown_86 : decode cX3_markDown 86 = .ok (.iload_n 2, 1) := by decide +kernel
theorem dX3_markDown_87 : decode cX3_markDown 87 = .ok (.iaload, 1) := by decide +kernel
theorem dX3_markDown_88 : decode cX3_markDown 88 = .ok (.ireturn, 1) := by decide +kernel
theorem dX3_move_0 : decode cX3_move 0 = .ok (.aload_n 0, 1) := by decide +kernel
theorem dX3_move_1 : decode cX3_move 1 = .ok (.iload_n 1, 1) := by decide +kernel
theorem dX3_move_2 : decode cX3_move 2 = .ok (.invokevirtual 62, 3) := by decide +kernel
theorem dX3_move_5 : decode cX3_move 5 = .ok (.astore 5, 2) := by decide +kernel
theorem dX3_move_7 : decode cX3_move 7 = .ok (.aload_n 0, 1) := by decide +kernel
theorem dX3_move_8 : decode cX3_move 8 = .ok (.iload_n 2, 1) := by decide +kernel
theorem dX3_move_9 : decode cX3_move 9 = .ok (.invokevirtual 62, 3) := by decide +kernel
theorem dX3_move_12 : decode cX3_move 12 = .ok (.astore 6, 2) := by decide +kernel
theorem dX3_move_14 : decode cX3_move 14 = .ok (.iload_n 3, 1) := by decide +kernel
theorem dX3_move_15 : decode cX3_move 15 = .ok (.invokestatic 78, 3) := by decide +kernel
theorem dX3_move_18 : decode cX3_move 18 = .ok (.iload 4, 2) := by decide +kernel
theorem dX3_move_20 : decode cX3_move 20 = .ok (.iconst 1, 1) := by decide +kernel
theorem dX3_move_21 : decode cX3_move 21 = .ok (.bipush 40, 2) := by decide +kernel
theorem dX3_move_23 : decode cX3_move 23 = .ok (.invokestatic 30, 3) := by decide +kernel
theorem dX3_move_26 : decode cX3_move 26 = .ok (.iload_n 1, 1) := by decide +kernel
theorem dX3_move_27 : decode cX3_move 27 = .ok (.iload_n 2, 1) := by decide +kernel
theorem dX3_move_28 : decode cX3_move 28 = .ok (.if_icmp .ne 13, 3) := by decide +kernel
theorem dX3_move_31 : decode cX3_move 31 = .ok (.new 105, 3) := by decide +kernel
theorem dX3_move_34 : decode cX3_move 34 = .ok (.dup, 1) := by decide +kernel
theorem dX3_move_35 : decode cX3_move 35 = .ok (.ldc 107, 2) := by decide +kernel
theorem dX3_move_37 : decode cX3_move 37 = .ok (.invokespecial 109, 3) := by decide +kernel
theorem dX3_move_40 : decode cX3_move 40 = .ok (.athrow, 1) := by decide +kernel
theorem dX3_move_41 : decode cX3_move 41 = .ok (.aload_n 0, 1) := by decide +kernel
theorem dX3_move_42 : decode cX3_move 42 = .ok (.invokevirtual 88, 3) := by decide +kernel
theorem dX3_move_45 : decode cX3_move 45 = .ok (.aload 5, 2) := by decide +kernel
theorem dX3_move_47 : decode cX3_move 47 = .ok (.getfield 85, 3) := by decide +kernel
theorem dX3_move_50 : decode cX3_move 50 = .ok (.iload_n 3, 1) := by decide +kernel
theorem dX3_move_51 : decode cX3_move 51 = .ok (.iaload, 1) := by decide +kernel
theorem dX3_move_52 : decode cX3_move 52 = .ok (.iload 4, 2) := by decide +kernel
theorem dX3_move_54 : decode cX3_move 54 = .ok (.if_icmp .ge 13, 3) := by decide +kernel
theorem dX3_move_57 : decode cX3_move 57 = .ok (.new 51, 3) := by decide +kernel
theorem dX3_move_60 : decode cX3_move 60 = .ok (.dup, 1) := by decide +kernel
theorem dX3_move_61 : decode cX3_move 61 = .ok (.ldc 110, 2) := by decide +kernel
theorem dX3_move_63 : decode cX3_move 63 = .ok (.invokespecial 55, 3) := by decide +kernel
theorem dX3_move_66 : decode cX3_move 66 = .ok (.athrow, 1) := by decide +kernel
theorem dX3_move_67 : decode cX3_move 67 = .ok (.aload 6, 2) := by decide +kernel
theorem dX3_move_69 : decode cX3_move 69 = .ok (.iload 4, 2) := by decide +kernel
theorem dX3_move_71 : decode cX3_move 71 = .ok (.invokestatic 81, 3) := by decide +kernel
theorem dX3_move_74 : decode cX3_move 74 = .ok (.aload 5, 2) := by decide +kernel
theorem dX3_move_76 : decode cX3_move 76 = .ok (.getfield 85, 3) := by decide +kernel
theorem dX3_move_79 : decode cX3_move 79 = .ok (.iload_n 3, 1) := by decide +kernel
theorem dX3_move_80 : decode cX3_move 80 = .ok (.dup2, 1) := by decide +kernel
theorem dX3_move_81 : decode cX3_move 81 = .ok (.iaload, 1) := by decide +kernel
theorem dX3_move_82 : decode cX3_move 82 = .ok (.iload 4, 2) := by decide +kernel
theorem dX3_move_84 : decode cX3_move 84 = .ok (.isub, 1) := by decide +kernel
theorem dX3_move_85 : decode cX3_move 85 = .ok (.iastore, 1) := by decide +kernel
theorem dX3_move_86 : decode cX3_move 86 = .ok (.aload 6, 2) := by decide +kernel
theorem dX3_move_88 : decode cX3_move 88 = .ok (.getfield 85, 3) := by decide +kernel
theorem dX3_move_91 : decode cX3_move 91 = .ok (.iload_n 3, 1) := by decide +kernel
theorem dX3_move_92 : decode cX3_move 92 = .ok (.dup2, 1) := by decide +kernel
theorem dX3_move_93 : decode cX3_move 93 = .ok (.iaload, 1) := by decide +kernel
theorem dX3_move_94 : decode cX3_move 94 = .ok (.iload 4, 2) := by decide +kernel
theorem dX3_move_96 : decode cX3_move 96 = .ok (.iadd, 1) := by decide +kernel
theorem dX3_move_97 : decode cX3_move 97 = .ok (.iastore, 1) := by decide +kernel
theorem dX3_move_98 : decode cX3_move 98 = .ok (.iload 4, 2) := by decide +kernel
theorem dX3_move_100 : decode cX3_move 100 = .ok (.aload_n 0, 1) := by decide +kernel
theorem dX3_move_101 : decode cX3_move 101 = .ok (.getfield 12, 3) := by decide +kernel
theorem dX3_move_104 : decode cX3_move 104 = .ok (.getfield 75, 3) := by decide +kernel
theorem dX3_move_107 : decode cX3_move 107 = .ok (.imul, 1) := by decide +kernel
theorem dX3_move_108 : decode cX3_move 108 = .ok (.istore 7, 2) := by decide +kernel
theorem dX3_move_110 : decode cX3_move 110 = .ok (.aload_n 0, 1) := by decide +kernel
theorem dX3_move_111 : decode cX3_move 111 = .ok (.getfield 12, 3) := by decide +kernel
theorem dX3_move_114 : decode cX3_move 114 = .ok (.dup, 1) := by decide +kernel
theorem dX3_move_115 : decode cX3_move 115 = .ok (.getfield 112, 3) := by decide +kernel
theorem dX3_move_118 : decode cX3_move 118 = .ok (.iload 7, 2) := by decide +kernel
theorem dX3_move_120 : decode cX3_move 120 = .ok (.isub, 1) := by decide +kernel
theorem dX3_move_121 : decode cX3_move 121 = .ok (.putfield 112, 3) := by decide +kernel
theorem dX3_move_124 : decode cX3_move 124 = .ok (.iload 7, 2) := by decide +kernel
theorem dX3_move_126 : decode cX3_move 126 = .ok (.ireturn, 1) := by decide +kernel
theorem dX3_run_0 : decode cX3_run 0 = .ok (.aload_n 0, 1) := by decide +kernel
theorem dX3_run_1 : decode cX3_run 1 = .ok (.invokevirtual 88, 3) := by decide +kernel
theorem dX3_run_4 : decode cX3_run 4 = .ok (.iconst 0, 1) := by decide +kernel
theorem dX3_run_5 : decode cX3_run 5 = .ok (.istore_n 1, 1) := by decide +kernel
theorem dX3_run_6 : decode cX3_run 6 = .ok (.aload_n 0, 1) := by decide +kernel
theorem dX3_run_7 : decode cX3_run 7 = .ok (.getfield 18, 3) := by decide +kernel
theorem dX3_run_10 : decode cX3_run 10 = .ok (.astore_n 2, 1) := by decide +kernel
theorem dX3_run_11 : decode cX3_run 11 = .ok (.aload_n 2, 1) := by decide +kernel
theorem dX3_run_12 : decode cX3_run 12 = .ok (.arraylength, 1) := by decide +kernel
theorem dX3_run_13 : decode cX3_run 13 = .ok (.istore_n 3, 1) := by decide +kernel
theorem dX3_run_14 : decode cX3_run 14 = .ok (.iconst 0, 1) := by decide +kernel
theorem dX3_run_15 : decode cX3_run 15 = .ok (.istore 4, 2) := by decide +kernel
theorem dX3_run_17 : decode cX3_run 17 = .ok (.iload 4, 2) := by decide +kernel
theorem dX3_run_19 : decode cX3_run 19 = .ok (.iload_n 3, 1) := by decide +kernel
theorem dX3_run_20 : decode cX3_run 20 = .ok (.if_icmp .ge 37, 3) := by decide +kernel
theorem dX3_run_23 : decode cX3_run 23 = .ok (.aload_n 2, 1) := by decide +kernel
theorem dX3_run_24 : decode cX3_run 24 = .ok (.iload 4, 2) := by decide +kernel
theorem dX3_run_26 : decode cX3_run 26 = .ok (.aaload, 1) := by decide +kernel
theorem dX3_run_27 : decode cX3_run 27 = .ok (.astore 5, 2) := by decide +kernel
theorem dX3_run_29 : decode cX3_run 29 = .ok (.iload_n 1, 1) := by decide +kernel
theorem dX3_run_30 : decode cX3_run 30 = .ok (.aload 5, 2) := by decide +kernel
theorem dX3_run_32 : decode cX3_run 32 = .ok (.invokevirtual 115, 3) := by decide +kernel
theorem dX3_run_35 : decode cX3_run 35 = .ok (.aload_n 0, 1) := by decide +kernel
theorem dX3_run_36 : decode cX3_run 36 = .ok (.getfield 12, 3) := by decide +kernel
theorem dX3_run_39 : decode cX3_run 39 = .ok (.getfield 58, 3) := by decide +kernel
theorem dX3_run_42 : decode cX3_run 42 = .ok (.aload 5, 2) := by decide +kernel
theorem dX3_run_44 : decode cX3_run 44 = .ok (.getfield 91, 3) := by decide +kernel
theorem dX3_run_47 : decode cX3_run 47 = .ok (.iaload, 1) := by decide +kernel
theorem dX3_run_48 : decode cX3_run 48 = .ok (.imul, 1) := by decide +kernel
theorem dX3_run_49 : decode cX3_run 49 = .ok (.iadd, 1) := by decide +kernel
theorem dX3_run_50 : decode cX3_run 50 = .ok (.istore_n 1, 1) := by decide +kernel
theorem dX3_run_51 : decode cX3_run 51 = .ok (.iinc 4 1, 3) := by decide +kernel
theorem dX3_run_54 : decode cX3_run 54 = .ok (.goto (-37), 3) := by decide +kernel
theorem dX3_run_57 : decode cX3_run 57 = .ok (.aload_n 0, 1) := by decide +kernel
theorem dX3_run_58 : decode cX3_run 58 = .ok (.getfield 12, 3) := by decide +kernel
theorem dX3_run_61 : decode cX3_run 61 = .ok (.dup, 1) := by decide +kernel
theorem dX3_run_62 : decode cX3_run 62 = .ok (.getfield 112, 3) := by decide +kernel
theorem dX3_run_65 : decode cX3_run 65 = .ok (.iload_n 1, 1) := by decide +kernel
theorem dX3_run_66 : decode cX3_run 66 = .ok (.iadd, 1) := by decide +kernel
theorem dX3_run_67 : decode cX3_run 67 = .ok (.putfield 112, 3) := by decide +kernel
theorem dX3_run_70 : decode cX3_run 70 = .ok (.aload_n 0, 1) := by decide +kernel
theorem dX3_run_71 : decode cX3_run 71 = .ok (.getfield 12, 3) := by decide +kernel
theorem dX3_run_74 : decode cX3_run 74 = .ok (.dup, 1) := by decide +kernel
theorem dX3_run_75 : decode cX3_run 75 = .ok (.getfield 34, 3) := by decide +kernel
theorem dX3_run_78 : decode cX3_run 78 = .ok (.iconst 1, 1) := by decide +kernel
theorem dX3_run_79 : decode cX3_run 79 = .ok (.iadd, 1) := by decide +kernel
theorem dX3_run_80 : decode cX3_run 80 = .ok (.putfield 34, 3) := by decide +kernel
theorem dX3_run_83 : decode cX3_run 83 = .ok (.iload_n 1, 1) := by decide +kernel
theorem dX3_run_84 : decode cX3_run 84 = .ok (.ireturn, 1) := by decide +kernel
theorem dX3_week_0 : decode cX3_week 0 = .ok (.aload_n 0, 1) := by decide +kernel
theorem dX3_week_1 : decode cX3_week 1 = .ok (.getfield 12, 3) := by decide +kernel
theorem dX3_week_4 : decode cX3_week 4 = .ok (.getfield 34, 3) := by decide +kernel
theorem dX3_week_7 : decode cX3_week 7 = .ok (.ireturn, 1) := by decide +kernel
theorem dX3_stock_0 : decode cX3_stock 0 = .ok (.aload_n 0, 1) := by decide +kernel
theorem dX3_stock_1 : decode cX3_stock 1 = .ok (.iload_n 1, 1) := by decide +kernel
theorem dX3_stock_2 : decode cX3_stock 2 = .ok (.invokevirtual 62, 3) := by decide +kernel
theorem dX3_stock_5 : decode cX3_stock 5 = .ok (.astore_n 3, 1) := by decide +kernel
theorem dX3_stock_6 : decode cX3_stock 6 = .ok (.iload_n 2, 1) := by decide +kernel
theorem dX3_stock_7 : decode cX3_stock 7 = .ok (.invokestatic 78, 3) := by decide +kernel
theorem dX3_stock_10 : decode cX3_stock 10 = .ok (.aload_n 3, 1) := by decide +kernel
theorem dX3_stock_11 : decode cX3_stock 11 = .ok (.getfield 85, 3) := by decide +kernel
theorem dX3_stock_14 : decode cX3_stock 14 = .ok (.iload_n 2, 1) := by decide +kernel
theorem dX3_stock_15 : decode cX3_stock 15 = .ok (.iaload, 1) := by decide +kernel
theorem dX3_stock_16 : decode cX3_stock 16 = .ok (.ireturn, 1) := by decide +kernel
theorem dX3_step_0 : decode cX3_step 0 = .ok (.aload_n 0, 1) := by decide +kernel
theorem dX3_step_1 : decode cX3_step 1 = .ok (.iload_n 1, 1) := by decide +kernel
theorem dX3_step_2 : decode cX3_step 2 = .ok (.invokevirtual 62, 3) := by decide +kernel
theorem dX3_step_5 : decode cX3_step 5 = .ok (.getfield 91, 3) := by decide +kernel
theorem dX3_step_8 : decode cX3_step 8 = .ok (.ireturn, 1) := by decide +kernel
theorem dX3_weeksToWait_0 : decode cX3_weeksToWait 0 = .ok (.aload_n 0, 1) := by decide +kernel
theorem dX3_weeksToWait_1 : decode cX3_weeksToWait 1 = .ok (.iload_n 1, 1) := by decide +kernel
theorem dX3_weeksToWait_2 : decode cX3_weeksToWait 2 = .ok (.invokevirtual 62, 3) := by decide +kernel
theorem dX3_weeksToWait_5 : decode cX3_weeksToWait 5 = .ok (.aload_n 0, 1) := by decide +kernel
theorem dX3_weeksToWait_6 : decode cX3_weeksToWait 6 = .ok (.getfield 12, 3) := by decide +kernel
theorem dX3_weeksToWait_9 : decode cX3_weeksToWait 9 = .ok (.getfield 34, 3) := by decide +kernel
theorem dX3_weeksToWait_12 : decode cX3_weeksToWait 12 = .ok (.aload_n 0, 1) := by decide +kernel
theorem dX3_weeksToWait_13 : decode cX3_weeksToWait 13 = .ok (.getfield 12, 3) := by decide +kernel
theorem dX3_weeksToWait_16 : decode cX3_weeksToWait 16 = .ok (.getfield 69, 3) := by decide +kernel
theorem dX3_weeksToWait_19 : decode cX3_weeksToWait 19 = .ok (.invokevirtual 96, 3) := by decide +kernel
theorem dX3_weeksToWait_22 : decode cX3_weeksToWait 22 = .ok (.ireturn, 1) := by decide +kernel
theorem dX3_sold_0 : decode cX3_sold 0 = .ok (.aload_n 0, 1) := by decide +kernel
theorem dX3_sold_1 : decode cX3_sold 1 = .ok (.iload_n 1, 1) := by decide +kernel
theorem dX3_sold_2 : decode cX3_sold 2 = .ok (.invokevirtual 62, 3) := by decide +kernel
theorem dX3_sold_5 : decode cX3_sold 5 = .ok (.getfield 119, 3) := by decide +kernel
theorem dX3_sold_8 : decode cX3_sold 8 = .ok (.ireturn, 1) := by decide +kernel
theorem dX3_taken_0 : decode cX3_taken 0 = .ok (.aload_n 0, 1) := by decide +kernel
theorem dX3_taken_1 : decode cX3_taken 1 = .ok (.getfield 12, 3) := by decide +kernel
theorem dX3_taken_4 : decode cX3_taken 4 = .ok (.getfield 112, 3) := by decide +kernel
theorem dX3_taken_7 : decode cX3_taken 7 = .ok (.ireturn, 1) := by decide +kernel
theorem dX3_wouldSell_0 : decode cX3_wouldSell 0 = .ok (.aload_n 0, 1) := by decide +kernel
theorem dX3_wouldSell_1 : decode cX3_wouldSell 1 = .ok (.iload_n 1, 1) := by decide +kernel
theorem dX3_wouldSell_2 : decode cX3_wouldSell 2 = .ok (.invokevirtual 62, 3) := by decide +kernel
theorem dX3_wouldSell_5 : decode cX3_wouldSell 5 = .ok (.astore_n 3, 1) := by decide +kernel
theorem dX3_wouldSell_6 : decode cX3_wouldSell 6 = .ok (.iload_n 2, 1) := by decide +kernel
theorem dX3_wouldSell_7 : decode cX3_wouldSell 7 = .ok (.invokestatic 44, 3) := by decide +kernel
theorem dX3_wouldSell_10 : decode cX3_wouldSell 10 = .ok (.aload_n 3, 1) := by decide +kernel
theorem dX3_wouldSell_11 : decode cX3_wouldSell 11 = .ok (.iload_n 2, 1) := by decide +kernel
theorem dX3_wouldSell_12 : decode cX3_wouldSell 12 = .ok (.invokevirtual 122, 3) := by decide +kernel
theorem dX3_wouldSell_15 : decode cX3_wouldSell 15 = .ok (.ireturn, 1) := by decide +kernel
theorem dX3_best_0 : decode cX3_best 0 = .ok (.aload_n 0, 1) := by decide +kernel
theorem dX3_best_1 : decode cX3_best 1 = .ok (.getfield 25, 3) := by decide +kernel
theorem dX3_best_4 : decode cX3_best 4 = .ok (.aload_n 0, 1) := by decide +kernel
theorem dX3_best_5 : decode cX3_best 5 = .ok (.getfield 12, 3) := by decide +kernel
theorem dX3_best_8 : decode cX3_best 8 = .ok (.aload_n 0, 1) := by decide +kernel
theorem dX3_best_9 : decode cX3_best 9 = .ok (.iload_n 1, 1) := by decide +kernel
theorem dX3_best_10 : decode cX3_best 10 = .ok (.invokevirtual 62, 3) := by decide +kernel
theorem dX3_best_13 : decode cX3_best 13 = .ok (.invokevirtual 126, 3) := by decide +kernel
theorem dX3_best_16 : decode cX3_best 16 = .ok (.aload_n 0, 1) := by decide +kernel
theorem dX3_best_17 : decode cX3_best 17 = .ok (.getfield 25, 3) := by decide +kernel
theorem dX3_best_20 : decode cX3_best 20 = .ok (.bipush 60, 2) := by decide +kernel
theorem dX3_best_22 : decode cX3_best 22 = .ok (.invokevirtual 130, 3) := by decide +kernel
theorem dX3_best_25 : decode cX3_best 25 = .ok (.ireturn, 1) := by decide +kernel
theorem dX3_bestByAll_0 : decode cX3_bestByAll 0 = .ok (.aload_n 0, 1) := by decide +kernel
theorem dX3_bestByAll_1 : decode cX3_bestByAll 1 = .ok (.iload_n 1, 1) := by decide +kernel
theorem dX3_bestByAll_2 : decode cX3_bestByAll 2 = .ok (.invokevirtual 62, 3) := by decide +kernel
theorem dX3_bestByAll_5 : decode cX3_bestByAll 5 = .ok (.astore_n 2, 1) := by decide +kernel
theorem dX3_bestByAll_6 : decode cX3_bestByAll 6 = .ok (.aload_n 0, 1) := by decide +kernel
theorem dX3_bestByAll_7 : decode cX3_bestByAll 7 = .ok (.getfield 12, 3) := by decide +kernel
theorem dX3_bestByAll_10 : decode cX3_bestByAll 10 = .ok (.getfield 133, 3) := by decide +kernel
theorem dX3_bestByAll_13 : decode cX3_bestByAll 13 = .ok (.aload_n 0, 1) := by decide +kernel
theorem dX3_bestByAll_14 : decode cX3_bestByAll 14 = .ok (.getfield 12, 3) := by decide +kernel
theorem dX3_bestByAll_17 : decode cX3_bestByAll 17 = .ok (.getfield 34, 3) := by decide +kernel
theorem dX3_bestByAll_20 : decode cX3_bestByAll 20 = .ok (.isub, 1) := by decide +kernel
theorem dX3_bestByAll_21 : decode cX3_bestByAll 21 = .ok (.bipush 6, 2) := by decide +kernel
theorem dX3_bestByAll_23 : decode cX3_bestByAll 23 = .ok (.if_icmp .le 13, 3) := by decide +kernel
theorem dX3_bestByAll_26 : decode cX3_bestByAll 26 = .ok (.new 51, 3) := by decide +kernel
theorem dX3_bestByAll_29 : decode cX3_bestByAll 29 = .ok (.dup, 1) := by decide +kernel
theorem dX3_bestByAll_30 : decode cX3_bestByAll 30 = .ok (.ldc 136, 2) := by decide +kernel
theorem dX3_bestByAll_32 : decode cX3_bestByAll 32 = .ok (.invokespecial 55, 3) := by decide +kernel
theorem dX3_bestByAll_35 : decode cX3_bestByAll 35 = .ok (.athrow, 1) := by decide +kernel
theorem dX3_bestByAll_36 : decode cX3_bestByAll 36 = .ok (.aload_n 0, 1) := by decide +kernel
theorem dX3_bestByAll_37 : decode cX3_bestByAll 37 = .ok (.getfield 25, 3) := by decide +kernel
theorem dX3_bestByAll_40 : decode cX3_bestByAll 40 = .ok (.aload_n 0, 1) := by decide +kernel
theorem dX3_bestByAll_41 : decode cX3_bestByAll 41 = .ok (.getfield 12, 3) := by decide +kernel
theorem dX3_bestByAll_44 : decode cX3_bestByAll 44 = .ok (.aload_n 2, 1) := by decide +kernel
theorem dX3_bestByAll_45 : decode cX3_bestByAll 45 = .ok (.invokevirtual 126, 3) := by decide +kernel
theorem dX3_bestByAll_48 : decode cX3_bestByAll 48 = .ok (.aload_n 0, 1) := by decide +kernel
theorem dX3_bestByAll_49 : decode cX3_bestByAll 49 = .ok (.getfield 25, 3) := by decide +kernel
theorem dX3_bestByAll_52 : decode cX3_bestByAll 52 = .ok (.invokevirtual 138, 3) := by decide +kernel
theorem dX3_bestByAll_55 : decode cX3_bestByAll 55 = .ok (.ireturn, 1) := by decide +kernel
theorem dX3_planned_0 : decode cX3_planned 0 = .ok (.aload_n 0, 1) := by decide +kernel
theorem dX3_planned_1 : decode cX3_planned 1 = .ok (.iload_n 1, 1) := by decide +kernel
theorem dX3_planned_2 : decode cX3_planned 2 = .ok (.invokevirtual 62, 3) := by decide +kernel
theorem dX3_planned_5 : decode cX3_planned 5 = .ok (.astore_n 3, 1) := by decide +kernel
theorem dX3_planned_6 : decode cX3_planned 6 = .ok (.iload_n 2, 1) := by decide +kernel
theorem dX3_planned_7 : decode cX3_planned 7 = .ok (.aload_n 0, 1) := by decide +kernel
theorem dX3_planned_8 : decode cX3_planned 8 = .ok (.getfield 12, 3) := by decide +kernel
theorem dX3_planned_11 : decode cX3_planned 11 = .ok (.getfield 34, 3) := by decide +kernel
theorem dX3_planned_14 : decode cX3_planned 14 = .ok (.aload_n 0, 1) := by decide +kernel
theorem dX3_planned_15 : decode cX3_planned 15 = .ok (.getfield 12, 3) := by decide +kernel
theorem dX3_planned_18 : decode cX3_planned 18 = .ok (.getfield 133, 3) := by decide +kernel
theorem dX3_planned_21 : decode cX3_planned 21 = .ok (.iconst 1, 1) := by decide +kernel
theorem dX3_planned_22 : decode cX3_planned 22 = .ok (.isub, 1) := by decide +kernel
theorem dX3_planned_23 : decode cX3_planned 23 = .ok (.invokestatic 30, 3) := by decide +kernel
theorem dX3_planned_26 : decode cX3_planned 26 = .ok (.aload_n 0, 1) := by decide +kernel
theorem dX3_planned_27 : decode cX3_planned 27 = .ok (.getfield 25, 3) := by decide +kernel
theorem dX3_planned_30 : decode cX3_planned 30 = .ok (.aload_n 0, 1) := by decide +kernel
theorem dX3_planned_31 : decode cX3_planned 31 = .ok (.getfield 12, 3) := by decide +kernel
theorem dX3_planned_34 : decode cX3_planned 34 = .ok (.aload_n 3, 1) := by decide +kernel
theorem dX3_planned_35 : decode cX3_planned 35 = .ok (.invokevirtual 126, 3) := by decide +kernel
theorem dX3_planned_38 : decode cX3_planned 38 = .ok (.aload_n 0, 1) := by decide +kernel
theorem dX3_planned_39 : decode cX3_planned 39 = .ok (.getfield 25, 3) := by decide +kernel
theorem dX3_planned_42 : decode cX3_planned 42 = .ok (.iload_n 2, 1) := by decide +kernel
theorem dX3_planned_43 : decode cX3_planned 43 = .ok (.invokevirtual 141, 3) := by decide +kernel
theorem dX3_planned_46 : decode cX3_planned 46 = .ok (.ireturn, 1) := by decide +kernel
theorem dX3_bestLeaving_0 : decode cX3_bestLeaving 0 = .ok (.aload_n 0, 1) := by decide +kernel
theorem dX3_bestLeaving_1 : decode cX3_bestLeaving 1 = .ok (.iload_n 1, 1) := by decide +kernel
theorem dX3_bestLeaving_2 : decode cX3_bestLeaving 2 = .ok (.invokevirtual 62, 3) := by decide +kernel
theorem dX3_bestLeaving_5 : decode cX3_bestLeaving 5 = .ok (.astore_n 3, 1) := by decide +kernel
theorem dX3_bestLeaving_6 : decode cX3_bestLeaving 6 = .ok (.iload_n 2, 1) := by decide +kernel
theorem dX3_bestLeaving_7 : decode cX3_bestLeaving 7 = .ok (.iconst 0, 1) := by decide +kernel
theorem dX3_bestLeaving_8 : decode cX3_bestLeaving 8 = .ok (.bipush 60, 2) := by decide +kernel
theorem dX3_bestLeaving_10 : decode cX3_bestLeaving 10 = .ok (.invokestatic 30, 3) := by decide +kernel
theorem dX3_bestLeaving_13 : decode cX3_bestLeaving 13 = .ok (.aload_n 0, 1) := by decide +kernel
theorem dX3_bestLeaving_14 : decode cX3_bestLeaving 14 = .ok (.getfield 25, 3) := by decide +kernel
theorem dX3_bestLeaving_17 : decode cX3_bestLeaving 17 = .ok (.aload_n 0, 1) := by decide +kernel
theorem dX3_bestLeaving_18 : decode cX3_bestLeaving 18 = .ok (.getfield 12, 3) := by decide +kernel
theorem dX3_bestLeaving_21 : decode cX3_bestLeaving 21 = .ok (.aload_n 3, 1) := by decide +kernel
theorem dX3_bestLeaving_22 : decode cX3_bestLeaving 22 = .ok (.invokevirtual 126, 3) := by decide +kernel
theorem dX3_bestLeaving_25 : decode cX3_bestLeaving 25 = .ok (.aload_n 0, 1) := by decide +kernel
theorem dX3_bestLeaving_26 : decode cX3_bestLeaving 26 = .ok (.getfield 25, 3) := by decide +kernel
theorem dX3_bestLeaving_29 : decode cX3_bestLeaving 29 = .ok (.iload_n 2, 1) := by decide +kernel
theorem dX3_bestLeaving_30 : decode cX3_bestLeaving 30 = .ok (.invokevirtual 130, 3) := by decide +kernel
theorem dX3_bestLeaving_33 : decode cX3_bestLeaving 33 = .ok (.ireturn, 1) := by decide +kernel
theorem dX3_requireWithin_0 : decode cX3_requireWithin 0 = .ok (.iload_n 0, 1) := by decide +kernel
theorem dX3_requireWithin_1 : decode cX3_requireWithin 1 = .ok (.iload_n 1, 1) := by decide +kernel
theorem dX3_requireWithin_2 : decode cX3_requireWithin 2 = .ok (.if_icmp .lt 8, 3) := by decide +kernel
theorem dX3_requireWithin_5 : decode cX3_requireWithin 5 = .ok (.iload_n 0, 1) := by decide +kernel
theorem dX3_requireWithin_6 : decode cX3_requireWithin 6 = .ok (.iload_n 2, 1) := by decide +kernel
theorem dX3_requireWithin_7 : decode cX3_requireWithin 7 = .ok (.if_icmp .le 13, 3) := by decide +kernel
theorem dX3_requireWithin_10 : decode cX3_requireWithin 10 = .ok (.new 105, 3) := by decide +kernel
theorem dX3_requireWithin_13 : decode cX3_requireWithin 13 = .ok (.dup, 1) := by decide +kernel
theorem dX3_requireWithin_14 : decode cX3_requireWithin 14 = .ok (.ldc 144, 2) := by decide +kernel
theorem dX3_requireWithin_16 : decode cX3_requireWithin 16 = .ok (.invokespecial 109, 3) := by decide +kernel
theorem dX3_requireWithin_19 : decode cX3_requireWithin 19 = .ok (.athrow, 1) := by decide +kernel
theorem dX3_requireWithin_20 : decode cX3_requireWithin 20 = .ok (.return_, 1) := by decide +kernel
theorem dX3_requireStep_0 : decode cX3_requireStep 0 = .ok (.iload_n 0, 1) := by decide +kernel
theorem dX3_requireStep_1 : decode cX3_requireStep 1 = .ok (.iconst 0, 1) := by decide +kernel
theorem dX3_requireStep_2 : decode cX3_requireStep 2 = .ok (.iconst 4, 1) := by decide +kernel
theorem dX3_requireStep_3 : decode cX3_requireStep 3 = .ok (.invokestatic 30, 3) := by decide +kernel
theorem dX3_requireStep_6 : decode cX3_requireStep 6 = .ok (.return_, 1) := by decide +kernel
theorem dX3_requireSize_0 : decode cX3_requireSize 0 = .ok (.iload_n 0, 1) := by decide +kernel
theorem dX3_requireSize_1 : decode cX3_requireSize 1 = .ok (.iconst 0, 1) := by decide +kernel
theorem dX3_requireSize_2 : decode cX3_requireSize 2 = .ok (.iconst 2, 1) := by decide +kernel
theorem dX3_requireSize_3 : decode cX3_requireSize 3 = .ok (.invokestatic 30, 3) := by decide +kernel
theorem dX3_requireSize_6 : decode cX3_requireSize 6 = .ok (.return_, 1) := by decide +kernel
theorem dX3_requireRoomFor_0 : decode cX3_requireRoomFor 0 = .ok (.aload_n 0, 1) := by decide +kernel
theorem dX3_requireRoomFor_1 : decode cX3_requireRoomFor 1 = .ok (.invokevirtual 146, 3) := by decide +kernel
theorem dX3_requireRoomFor_4 : decode cX3_requireRoomFor 4 = .ok (.iload_n 1, 1) := by decide +kernel
theorem dX3_requireRoomFor_5 : decode cX3_requireRoomFor 5 = .ok (.iadd, 1) := by decide +kernel
theorem dX3_requireRoomFor_6 : decode cX3_requireRoomFor 6 = .ok (.bipush 60, 2) := by decide +kernel
theorem dX3_requireRoomFor_8 : decode cX3_requireRoomFor 8 = .ok (.if_icmp .le 13, 3) := by decide +kernel
theorem dX3_requireRoomFor_11 : decode cX3_requireRoomFor 11 = .ok (.new 51, 3) := by decide +kernel
theorem dX3_requireRoomFor_14 : decode cX3_requireRoomFor 14 = .ok (.dup, 1) := by decide +kernel
theorem dX3_requireRoomFor_15 : decode cX3_requireRoomFor 15 = .ok (.ldc 149, 2) := by decide +kernel
theorem dX3_requireRoomFor_17 : decode cX3_requireRoomFor 17 = .ok (.invokespecial 55, 3) := by decide +kernel
theorem dX3_requireRoomFor_20 : decode cX3_requireRoomFor 20 = .ok (.athrow, 1) := by decide +kernel
theorem dX3_requireRoomFor_21 : decode cX3_requireRoomFor 21 = .ok (.return_, 1) := by decide +kernel
theorem dX3_requireSeasonOn_0 : decode cX3_requireSeasonOn 0 = .ok (.aload_n 0, 1) := by decide +kernel
theorem dX3_requireSeasonOn_1 : decode cX3_requireSeasonOn 1 = .ok (.getfield 12, 3) := by decide +kernel
theorem dX3_requireSeasonOn_4 : decode cX3_requireSeasonOn 4 = .ok (.getfield 34, 3) := by decide +kernel
theorem dX3_requireSeasonOn_7 : decode cX3_requireSeasonOn 7 = .ok (.aload_n 0, 1) := by decide +kernel
theorem dX3_requireSeasonOn_8 : decode cX3_requireSeasonOn 8 = .ok (.getfield 12, 3) := by decide +kernel
theorem dX3_requireSeasonOn_11 : decode cX3_requireSeasonOn 11 = .ok (.getfield 133, 3) := by decide +kernel
theorem dX3_requireSeasonOn_14 : decode cX3_requireSeasonOn 14 = .ok (.if_icmp .lt 13, 3) := by decide +kernel
theorem dX3_requireSeasonOn_17 : decode cX3_requireSeasonOn 17 = .ok (.new 51, 3) := by decide +kernel
theorem dX3_requireSeasonOn_20 : decode cX3_requireSeasonOn 20 = .ok (.dup, 1) := by decide +kernel
theorem dX3_requireSeasonOn_21 : decode cX3_requireSeasonOn 21 = .ok (.ldc 151, 2) := by decide +kernel
theorem dX3_requireSeasonOn_23 : decode cX3_requireSeasonOn 23 = .ok (.invokespecial 55, 3) := by decide +kernel
theorem dX3_requireSeasonOn_26 : decode cX3_requireSeasonOn 26 = .ok (.athrow, 1) := by decide +kernel
theorem dX3_requireSeasonOn_27 : decode cX3_requireSeasonOn 27 = .ok (.return_, 1) := by decide +kernel
theorem dX3_storeOf_0 : decode cX3_storeOf 0 = .ok (.iload_n 1, 1) := by decide +kernel
theorem dX3_storeOf_1 : decode cX3_storeOf 1 = .ok (.iconst 0, 1) := by decide +kernel
theorem dX3_storeOf_2 : decode cX3_storeOf 2 = .ok (.iconst 2, 1) := by decide +kernel
theorem dX3_storeOf_3 : decode cX3_storeOf 3 = .ok (.invokestatic 30, 3) := by decide +kernel
theorem dX3_storeOf_6 : decode cX3_storeOf 6 = .ok (.aload_n 0, 1) := by decide +kernel
theorem dX3_storeOf_7 : decode cX3_storeOf 7 = .ok (.getfield 18, 3) := by decide +kernel
theorem dX3_storeOf_10 : decode cX3_storeOf 10 = .ok (.iload_n 1, 1) := by decide +kernel
theorem dX3_storeOf_11 : decode cX3_storeOf 11 = .ok (.aaload, 1) := by decide +kernel
theorem dX3_storeOf_12 : decode cX3_storeOf 12 = .ok (.areturn, 1) := by decide +kernel
theorem dX4_init_0 : decode cX4_init 0 = .ok (.aload_n 0, 1) := by decide +kernel
theorem dX4_init_1 : decode cX4_init 1 = .ok (.invokespecial 1, 3) := by decide +kernel
theorem dX4_init_4 : decode cX4_init 4 = .ok (.aload_n 0, 1) := by decide +kernel
theorem dX4_init_5 : decode cX4_init 5 = .ok (.bipush 8, 2) := by decide +kernel
theorem dX4_init_7 : decode cX4_init 7 = .ok (.putfield 7, 3) := by decide +kernel
theorem dX4_init_10 : decode cX4_init 10 = .ok (.aload_n 0, 1) := by decide +kernel
theorem dX4_init_11 : decode cX4_init 11 = .ok (.iconst 5, 1) := by decide +kernel
theorem dX4_init_12 : decode cX4_init 12 = .ok (.newarray .int, 2) := by decide +kernel
theorem dX4_init_14 : decode cX4_init 14 = .ok (.putfield 13, 3) := by decide +kernel
theorem dX4_init_17 : decode cX4_init 17 = .ok (.aload_n 0, 1) := by decide +kernel
theorem dX4_init_18 : decode cX4_init 18 = .ok (.bipush 15, 2) := by decide +kernel
theorem dX4_init_20 : decode cX4_init 20 = .ok (.newarray .int, 2) := by decide +kernel
theorem dX4_init_22 : decode cX4_init 22 = .ok (.putfield 17, 3) := by decide +kernel
theorem dX4_init_25 : decode cX4_init 25 = .ok (.aload_n 0, 1) := by decide +kernel
theorem dX4_init_26 : decode cX4_init 26 = .ok (.iconst 2, 1) := by decide +kernel
theorem dX4_init_27 : decode cX4_init 27 = .ok (.putfield 20, 3) := by decide +kernel
theorem dX4_init_30 : decode cX4_init 30 = .ok (.aload_n 0, 1) := by decide +kernel
theorem dX4_init_31 : decode cX4_init 31 = .ok (.bipush 9, 2) := by decide +kernel
theorem dX4_init_33 : decode cX4_init 33 = .ok (.newarray .int, 2) := by decide +kernel
theorem dX4_init_35 : decode cX4_init 35 = .ok (.putfield 23, 3) := by decide +kernel
theorem dX4_init_38 : decode cX4_init 38 = .ok (.aload_n 0, 1) := by decide +kernel
theorem dX4_init_39 : decode cX4_init 39 = .ok (.iconst 3, 1) := by decide +kernel
theorem dX4_init_40 : decode cX4_init 40 = .ok (.newarray .int, 2) := by decide +kernel
theorem dX4_init_42 : decode cX4_init 42 = .ok (.putfield 26, 3) := by decide +kernel
theorem dX4_init_45 : decode cX4_init 45 = .ok (.aload_n 0, 1) := by decide +kernel
theorem dX4_init_46 : decode cX4_init 46 = .ok (.iconst 3, 1) := by decide +kernel
theorem dX4_init_47 : decode cX4_init 47 = .ok (.newarray .int, 2) := by decide +kernel
theorem dX4_init_49 : decode cX4_init 49 = .ok (.putfield 29, 3) := by decide +kernel
theorem dX4_init_52 : decode cX4_init 52 = .ok (.aload_n 0, 1) := by decide +kernel
theorem dX4_init_53 : decode cX4_init 53 = .ok (.iconst 3, 1) := by decide +kernel
theorem dX4_init_54 : decode cX4_init 54 = .ok (.newarray .int, 2) := by decide +kernel
theorem dX4_init_56 : decode cX4_init 56 = .ok (.putfield 32, 3) := by decide +kernel
theorem dX4_init_59 : decode cX4_init 59 = .ok (.aload_n 0, 1) := by decide +kernel
theorem dX4_init_60 : decode cX4_init 60 = .ok (.sipush 16775, 3) := by decide +kernel
theorem dX4_init_63 : decode cX4_init 63 = .ok (.newarray .int, 2) := by decide +kernel
theorem dX4_init_65 : decode cX4_init 65 = .ok (.putfield 35, 3) := by decide +kernel
theorem dX4_init_68 : decode cX4_init 68 = .ok (.iconst 0, 1) := by decide +kernel
theorem dX4_init_69 : decode cX4_init 69 = .ok (.istore_n 1, 1) := by decide +kernel
theorem dX4_init_70 : decode cX4_init 70 = .ok (.iload_n 1, 1) := by decide +kernel
theorem dX4_init_71 : decode cX4_init 71 = .ok (.iconst 5, 1) := by decide +kernel
theorem dX4_init_72 : decode cX4_init 72 = .ok (.if_icmp .ge 17, 3) := by decide +kernel
theorem dX4_init_75 : decode cX4_init 75 = .ok (.aload_n 0, 1) := by decide +kernel
theorem dX4_init_76 : decode cX4_init 76 = .ok (.getfield 13, 3) := by decide +kernel
theorem dX4_init_79 : decode cX4_init 79 = .ok (.iload_n 1, 1) := by decide +kernel
theorem dX4_init_80 : decode cX4_init 80 = .ok (.bipush 100, 2) := by decide +kernel
theorem dX4_init_82 : decode cX4_init 82 = .ok (.iastore, 1) := by decide +kernel
theorem dX4_init_83 : decode cX4_init 83 = .ok (.iinc 1 1, 3) := by decide +kernel
theorem dX4_init_86 : decode cX4_init 86 = .ok (.goto (-16), 3) := by decide +kernel
theorem dX4_init_89 : decode cX4_init 89 = .ok (.iconst 0, 1) := by decide +kernel
theorem dX4_init_90 : decode cX4_init 90 = .ok (.istore_n 1, 1) := by decide +kernel
theorem dX4_init_91 : decode cX4_init 91 = .ok (.iload_n 1, 1) := by decide +kernel
theorem dX4_init_92 : decode cX4_init 92 = .ok (.iconst 3, 1) := by decide +kernel
theorem dX4_init_93 : decode cX4_init 93 = .ok (.if_icmp .ge 16, 3) := by decide +kernel
theorem dX4_init_96 : decode cX4_init 96 = .ok (.aload_n 0, 1) := by decide +kernel
theorem dX4_init_97 : decode cX4_init 97 = .ok (.getfield 29, 3) := by decide +kernel
theorem dX4_init_100 : decode cX4_init 100 = .ok (.iload_n 1, 1) := by decide +kernel
theorem dX4_init_101 : decode cX4_init 101 = .ok (.iconst (-1), 1) := by decide +kernel
theorem dX4_init_102 : decode cX4_init 102 = .ok (.iastore, 1) := by decide +kernel
theorem dX4_init_103 : decode cX4_init 103 = .ok (.iinc 1 1, 3) := by decide +kernel
theorem dX4_init_106 : decode cX4_init 106 = .ok (.goto (-15), 3) := by decide +kernel
theorem dX4_init_109 : decode cX4_init 109 = .ok (.return_, 1) := by decide +kernel
theorem dX4_thrown_0 : decode cX4_thrown 0 = .ok (.aload_n 0, 1) := by decide +kernel
theorem dX4_thrown_1 : decode cX4_thrown 1 = .ok (.getfield 38, 3) := by decide +kernel
theorem dX4_thrown_4 : decode cX4_thrown 4 = .ok (.ireturn, 1) := by decide +kernel
theorem dX4_in_0 : decode cX4_in 0 = .ok (.iload_n 0, 1) := by decide +kernel
theorem dX4_in_1 : decode cX4_in 1 = .ok (.iload_n 1, 1) := by decide +kernel
theorem dX4_in_2 : decode cX4_in 2 = .ok (.if_icmp .lt 12, 3) := by decide +kernel
theorem dX4_in_5 : decode cX4_in 5 = .ok (.iload_n 0, 1) := by decide +kernel
theorem dX4_in_6 : decode cX4_in 6 = .ok (.iload_n 2, 1) := by decide +kernel
theorem dX4_in_7 : decode cX4_in 7 = .ok (.if_icmp .gt 7, 3) := by decide +kernel
theorem dX4_in_10 : decode cX4_in 10 = .ok (.iconst 1, 1) := by decide +kernel
theorem dX4_in_11 : decode cX4_in 11 = .ok (.goto 4, 3) := by decide +kernel
theorem dX4_in_14 : decode cX4_in 14 = .ok (.iconst 0, 1) := by decide +kernel
theorem dX4_in_15 : decode cX4_in 15 = .ok (.ireturn, 1) := by decide +kernel
theorem dX4_asked_0 : decode cX4_asked 0 = .ok (.aload_n 0, 1) := by decide +kernel
theorem dX4_asked_1 : decode cX4_asked 1 = .ok (.iload_n 1, 1) := by decide +kernel
theorem dX4_asked_2 : decode cX4_asked 2 = .ok (.ifCond .eq 7, 3) := by decide +kernel
theorem dX4_asked_5 : decode cX4_asked 5 = .ok (.iconst 0, 1) := by decide +kernel
theorem dX4_asked_6 : decode cX4_asked 6 = .ok (.goto 4, 3) := by decide +kernel
theorem dX4_asked_9 : decode cX4_asked 9 = .ok (.iconst 1, 1) := by decide +kernel
theorem dX4_asked_10 : decode cX4_asked 10 = .ok (.putfield 38, 3) := by decide +kernel
theorem dX4_asked_13 : decode cX4_asked 13 = .ok (.iload_n 1, 1) := by decide +kernel
theorem dX4_asked_14 : decode cX4_asked 14 = .ok (.ireturn, 1) := by decide +kernel
theorem dX4_asked__0 : decode cX4_asked_ 0 = .ok (.aload_n 0, 1) := by decide +kernel
theorem dX4_asked__1 : decode cX4_asked_ 1 = .ok (.iload_n 1, 1) := by decide +kernel
theorem dX4_asked__2 : decode cX4_asked_ 2 = .ok (.ifCond .ne 7, 3) := by decide +kernel
theorem dX4_asked__5 : decode cX4_asked_ 5 = .ok (.iconst 1, 1) := by decide +kernel
theorem dX4_asked__6 : decode cX4_asked_ 6 = .ok (.goto 12, 3) := by decide +kernel
theorem dX4_asked__9 : decode cX4_asked_ 9 = .ok (.iload_n 2, 1) := by decide +kernel
theorem dX4_asked__10 : decode cX4_asked_ 10 = .ok (.ifCond .eq 7, 3) := by decide +kernel
theorem dX4_asked__13 : decode cX4_asked_ 13 = .ok (.iconst 0, 1) := by decide +kernel
theorem dX4_asked__14 : decode cX4_asked_ 14 = .ok (.goto 4, 3) := by decide +kernel
theorem dX4_asked__17 : decode cX4_asked_ 17 = .ok (.iconst 2, 1) := by decide +kernel
theorem dX4_asked__18 : decode cX4_asked_ 18 = .ok (.putfield 38, 3) := by decide +kernel
theorem dX4_asked__21 : decode cX4_asked_ 21 = .ok (.aload_n 0, 1) := by decide +kernel
theorem dX4_asked__22 : decode cX4_asked_ 22 = .ok (.getfield 38, 3) := by decide +kernel
theorem dX4_asked__25 : decode cX4_asked_ 25 = .ok (.ifCond .ne 7, 3) := by decide +kernel
theorem dX4_asked__28 : decode cX4_asked_ 28 = .ok (.iconst 1, 1) := by decide +kernel
theorem dX4_asked__29 : decode cX4_asked_ 29 = .ok (.goto 4, 3) := by decide +kernel
theorem dX4_asked__32 : decode cX4_asked_ 32 = .ok (.iconst 0, 1) := by decide +kernel
theorem dX4_asked__33 : decode cX4_asked_ 33 = .ok (.ireturn, 1) := by decide +kernel
theorem dX4_told_0 : decode cX4_told 0 = .ok (.aload_n 0, 1) := by decide +kernel
theorem dX4_told_1 : decode cX4_told 1 = .ok (.iconst 0, 1) := by decide +kernel
theorem dX4_told_2 : decode cX4_told 2 = .ok (.putfield 38, 3) := by decide +kernel
theorem dX4_told_5 : decode cX4_told 5 = .ok (.iload_n 1, 1) := by decide +kernel
theorem dX4_told_6 : decode cX4_told 6 = .ok (.ireturn, 1) := by decide +kernel
theorem dX4_isStore_0 : decode cX4_isStore 0 = .ok (.iload_n 0, 1) := by decide +kernel
theorem dX4_isStore_1 : decode cX4_isStore 1 = .ok (.iconst 0, 1) := by decide +kernel
theorem dX4_isStore_2 : decode cX4_isStore 2 = .ok (.iconst 2, 1) := by decide +kernel
theorem dX4_isStore_3 : decode cX4_isStore 3 = .ok (.invokestatic 41, 3) := by decide +kernel
theorem dX4_isStore_6 : decode cX4_isStore 6 = .ok (.ireturn, 1) := by decide +kernel
theorem dX4_isSize_0 : decode cX4_isSize 0 = .ok (.iload_n 0, 1) := by decide +kernel
theorem dX4_isSize_1 : decode cX4_isSize 1 = .ok (.iconst 0, 1) := by decide +kernel
theorem dX4_isSize_2 : decode cX4_isSize 2 = .ok (.iconst 2, 1) := by decide +kernel
theorem dX4_isSize_3 : decode cX4_isSize 3 = .ok (.invokestatic 41, 3) := by decide +kernel
theorem dX4_isSize_6 : decode cX4_isSize 6 = .ok (.ireturn, 1) := by decide +kernel
theorem dX4_isStep_0 : decode cX4_isStep 0 = .ok (.iload_n 0, 1) := by decide +kernel
theorem dX4_isStep_1 : decode cX4_isStep 1 = .ok (.iconst 0, 1) := by decide +kernel
theorem dX4_isStep_2 : decode cX4_isStep 2 = .ok (.iconst 4, 1) := by decide +kernel
theorem dX4_isStep_3 : decode cX4_isStep 3 = .ok (.invokestatic 41, 3) := by decide +kernel
theorem dX4_isStep_6 : decode cX4_isStep 6 = .ok (.ireturn, 1) := by decide +kernel
theorem dX4_whole_0 : decode cX4_whole 0 = .ok (.aload_n 0, 1) := by decide +kernel
theorem dX4_whole_1 : decode cX4_whole 1 = .ok (.getfield 23, 3) := by decide +kernel
theorem dX4_whole_4 : decode cX4_whole 4 = .ok (.iconst 3, 1) := by decide +kernel
theorem dX4_whole_5 : decode cX4_whole 5 = .ok (.iload_n 1, 1) := by decide +kernel
theorem dX4_whole_6 : decode cX4_whole 6 = .ok (.imul, 1) := by decide +kernel
theorem dX4_whole_7 : decode cX4_whole 7 = .ok (.iaload, 1) := by decide +kernel
theorem dX4_whole_8 : decode cX4_whole 8 = .ok (.aload_n 0, 1) := by decide +kernel
theorem dX4_whole_9 : decode cX4_whole 9 = .ok (.getfield 23, 3) := by decide +kernel
theorem dX4_whole_12 : decode cX4_whole 12 = .ok (.iconst 3, 1) := by decide +kernel
theorem dX4_whole_13 : decode cX4_whole 13 = .ok (.iload_n 1, 1) := by decide +kernel
theorem dX4_whole_14 : decode cX4_whole 14 = .ok (.imul, 1) := by decide +kernel
theorem dX4_whole_15 : decode cX4_whole 15 = .ok (.iconst 1, 1) := by decide +kernel
theorem dX4_whole_16 : decode cX4_whole 16 = .ok (.iadd, 1) := by decide +kernel
theorem dX4_whole_17 : decode cX4_whole 17 = .ok (.iaload, 1) := by decide +kernel
theorem dX4_whole_18 : decode cX4_whole 18 = .ok (.iadd, 1) := by decide +kernel
theorem dX4_whole_19 : decode cX4_whole 19 = .ok (.aload_n 0, 1) := by decide +kernel
theorem dX4_whole_20 : decode cX4_whole 20 = .ok (.getfield 23, 3) := by decide +kernel
theorem dX4_whole_23 : decode cX4_whole 23 = .ok (.iconst 3, 1) := by decide +kernel
theorem dX4_whole_24 : decode cX4_whole 24 = .ok (.iload_n 1, 1) := by decide +kernel
theorem dX4_whole_25 : decode cX4_whole 25 = .ok (.imul, 1) := by decide +kernel
theorem dX4_whole_26 : decode cX4_whole 26 = .ok (.iconst 2, 1) := by decide +kernel
theorem dX4_whole_27 : decode cX4_whole 27 = .ok (.iadd, 1) := by decide +kernel
theorem dX4_whole_28 : decode cX4_whole 28 = .ok (.iaload, 1) := by decide +kernel
theorem dX4_whole_29 : decode cX4_whole 29 = .ok (.iadd, 1) := by decide +kernel
theorem dX4_whole_30 : decode cX4_whole 30 = .ok (.ireturn, 1) := by decide +kernel
theorem dX4_begin_0 : decode cX4_begin 0 = .ok (.aload_n 0, 1) := by decide +kernel
theorem dX4_begin_1 : decode cX4_begin 1 = .ok (.iload_n 1, 1) := by decide +kernel
theorem dX4_begin_2 : decode cX4_begin 2 = .ok (.iconst 1, 1) := by decide +kernel
theorem dX4_begin_3 : decode cX4_begin 3 = .ok (.bipush 10, 2) := by decide +kernel
theorem dX4_begin_5 : decode cX4_begin 5 = .ok (.invokestatic 41, 3) := by decide +kernel
theorem dX4_begin_8 : decode cX4_begin 8 = .ok (.invokevirtual 45, 3) := by decide +kernel
theorem dX4_begin_11 : decode cX4_begin 11 = .ok (.ifCond .ne 5, 3) := by decide +kernel
theorem dX4_begin_14 : decode cX4_begin 14 = .ok (.iconst 0, 1) := by decide +kernel
theorem dX4_begin_15 : decode cX4_begin 15 = .ok (.ireturn, 1) := by decide +kernel
theorem dX4_begin_16 : decode cX4_begin 16 = .ok (.aload_n 0, 1) := by decide +kernel
theorem dX4_begin_17 : decode cX4_begin 17 = .ok (.getfield 49, 3) := by decide +kernel
theorem dX4_begin_20 : decode cX4_begin 20 = .ok (.istore_n 2, 1) := by decide +kernel
theorem dX4_begin_21 : decode cX4_begin 21 = .ok (.aload_n 0, 1) := by decide +kernel
theorem dX4_begin_22 : decode cX4_begin 22 = .ok (.iload_n 1, 1) := by decide +kernel
theorem dX4_begin_23 : decode cX4_begin 23 = .ok (.putfield 7, 3) := by decide +kernel
theorem dX4_begin_26 : decode cX4_begin 26 = .ok (.aload_n 0, 1) := by decide +kernel
theorem dX4_begin_27 : decode cX4_begin 27 = .ok (.iconst 0, 1) := by decide +kernel
theorem dX4_begin_28 : decode cX4_begin 28 = .ok (.putfield 49, 3) := by decide +kernel
theorem dX4_begin_31 : decode cX4_begin 31 = .ok (.aload_n 0, 1) := by decide +kernel
theorem dX4_begin_32 : decode cX4_begin 32 = .ok (.iconst 0, 1) := by decide +kernel
theorem dX4_begin_33 : decode cX4_begin 33 = .ok (.putfield 52, 3) := by decide +kernel
theorem dX4_begin_36 : decode cX4_begin 36 = .ok (.iconst 0, 1) := by decide +kernel
theorem dX4_begin_37 : decode cX4_begin 37 = .ok (.istore_n 3, 1) := by decide +kernel
theorem dX4_begin_38 : decode cX4_begin 38 = .ok (.iload_n 3, 1) := by decide +kernel
theorem dX4_begin_39 : decode cX4_begin 39 = .ok (.iconst 3, 1) := by decide +kernel
theorem dX4_begin_40 : decode cX4_begin 40 = .ok (.if_icmp .ge 30, 3) := by decide +kernel
theorem dX4_begin_43 : decode cX4_begin 43 = .ok (.aload_n 0, 1) := by decide +kernel
theorem dX4_begin_44 : decode cX4_begin 44 = .ok (.getfield 26, 3) := by decide +kernel
theorem dX4_begin_47 : decode cX4_begin 47 = .ok (.iload_n 3, 1) := by decide +kernel
theorem dX4_begin_48 : decode cX4_begin 48 = .ok (.iconst 0, 1) := by decide +kernel
theorem dX4_begin_49 : decode cX4_begin 49 = .ok (.iastore, 1) := by decide +kernel
theorem dX4_begin_50 : decode cX4_begin 50 = .ok (.aload_n 0, 1) := by decide +kernel
theorem dX4_begin_51 : decode cX4_begin 51 = .ok (.getfield 29, 3) := by decide +kernel
theorem dX4_begin_54 : decode cX4_begin 54 = .ok (.iload_n 3, 1) := by decide +kernel
theorem dX4_begin_55 : decode cX4_begin 55 = .ok (.iconst (-1), 1) := by decide +kernel
theorem dX4_begin_56 : decode cX4_begin 56 = .ok (.iastore, 1) := by decide +kernel
theorem dX4_begin_57 : decode cX4_begin 57 = .ok (.aload_n 0, 1) := by decide +kernel
theorem dX4_begin_58 : decode cX4_begin 58 = .ok (.getfield 32, 3) := by decide +kernel
theorem dX4_begin_61 : decode cX4_begin 61 = .ok (.iload_n 3, 1) := by decide +kernel
theorem dX4_begin_62 : decode cX4_begin 62 = .ok (.iconst 0, 1) := by decide +kernel
theorem dX4_begin_63 : decode cX4_begin 63 = .ok (.iastore, 1) := by decide +kernel
theorem dX4_begin_64 : decode cX4_begin 64 = .ok (.iinc 3 1, 3) := by decide +kernel
theorem dX4_begin_67 : decode cX4_begin 67 = .ok (.goto (-29), 3) := by decide +kernel
theorem dX4_begin_70 : decode cX4_begin 70 = .ok (.iload_n 2, 1) := by decide +kernel
theorem dX4_begin_71 : decode cX4_begin 71 = .ok (.ireturn, 1) := by decide +kernel
theorem dX4_setPrice_0 : decode cX4_setPrice 0 = .ok (.iload_n 1, 1) := by decide +kernel
theorem dX4_setPrice_1 : decode cX4_setPrice 1 = .ok (.invokestatic 55, 3) := by decide +kernel
theorem dX4_setPrice_4 : decode cX4_setPrice 4 = .ok (.ifCond .eq 18, 3) := by decide +kernel
theorem dX4_setPrice_7 : decode cX4_setPrice 7 = .ok (.iload_n 2, 1) := by decide +kernel
theorem dX4_setPrice_8 : decode cX4_setPrice 8 = .ok (.iconst 0, 1) := by decide +kernel
theorem dX4_setPrice_9 : decode cX4_setPrice 9 = .ok (.sipush 1000, 3) := by decide +kernel
theorem dX4_setPrice_12 : decode cX4_setPrice 12 = .ok (.invokestatic 41, 3) := by decide +kernel
theorem dX4_setPrice_15 : decode cX4_setPrice 15 = .ok (.ifCond .eq 7, 3) := by decide +kernel
theorem dX4_setPrice_18 : decode cX4_setPrice 18 = .ok (.iconst 1, 1) := by decide +kernel
theorem dX4_setPrice_19 : decode cX4_setPrice 19 = .ok (.goto 4, 3) := by decide +kernel
theorem dX4_setPrice_22 : decode cX4_setPrice 22 = .ok (.iconst 0, 1) := by decide +kernel
theorem dX4_setPrice_23 : decode cX4_setPrice 23 = .ok (.istore_n 3, 1) := by decide +kernel
theorem dX4_setPrice_24 : decode cX4_setPrice 24 = .ok (.iload_n 3, 1) := by decide +kernel
theorem dX4_setPrice_25 : decode cX4_setPrice 25 = .ok (.ifCond .eq 40, 3) := by decide +kernel
theorem dX4_setPrice_28 : decode cX4_setPrice 28 = .ok (.iload_n 1, 1) := by decide +kernel
theorem dX4_setPrice_29 : decode cX4_setPrice 29 = .ok (.ifCond .eq 15, 3) := by decide +kernel
theorem dX4_setPrice_32 : decode cX4_setPrice 32 = .ok (.iload_n 2, 1) := by decide +kernel
theorem dX4_setPrice_33 : decode cX4_setPrice 33 = .ok (.aload_n 0, 1) := by decide +kernel
theorem dX4_setPrice_34 : decode cX4_setPrice 34 = .ok (.getfield 13, 3) := by decide +kernel
theorem dX4_setPrice_37 : decode cX4_setPrice 37 = .ok (.iload_n 1, 1) := by decide +kernel
theorem dX4_setPrice_38 : decode cX4_setPrice 38 = .ok (.iconst 1, 1) := by decide +kernel
theorem dX4_setPrice_39 : decode cX4_setPrice 39 = .ok (.isub, 1) := by decide +kernel
theorem dX4_setPrice_40 : decode cX4_setPrice 40 = .ok (.iaload, 1) := by decide +kernel
theorem dX4_setPrice_41 : decode cX4_setPrice 41 = .ok (.if_icmp .gt 24, 3) := by decide +kernel
theorem dX4_setPrice_44 : decode cX4_setPrice 44 = .ok (.iload_n 1, 1) := by decide +kernel
theorem dX4_setPrice_45 : decode cX4_setPrice 45 = .ok (.iconst 4, 1) := by decide +kernel
theorem dX4_setPrice_46 : decode cX4_setPrice 46 = .ok (.if_icmp .eq 15, 3) := by decide +kernel
theorem dX4_setPrice_49 : decode cX4_setPrice 49 = .ok (.iload_n 2, 1) := by decide +kernel
theorem dX4_setPrice_50 : decode cX4_setPrice 50 = .ok (.aload_n 0, 1) := by decide +kernel
theorem dX4_setPrice_51 : decode cX4_setPrice 51 = .ok (.getfield 13, 3) := by decide +kernel
theorem dX4_setPrice_54 : decode cX4_setPrice 54 = .ok (.iload_n 1, 1) := by decide +kernel
theorem dX4_setPrice_55 : decode cX4_setPrice 55 = .ok (.iconst 1, 1) := by decide +kernel
theorem dX4_setPrice_56 : decode cX4_setPrice 56 = .ok (.iadd, 1) := by decide +kernel
theorem dX4_setPrice_57 : decode cX4_setPrice 57 = .ok (.iaload, 1) := by decide +kernel
theorem dX4_setPrice_58 : decode cX4_setPrice 58 = .ok (.if_icmp .lt 7, 3) := by decide +kernel
theorem dX4_setPrice_61 : decode cX4_setPrice 61 = .ok (.iconst 1, 1) := by decide +kernel
theorem dX4_setPrice_62 : decode cX4_setPrice 62 = .ok (.goto 4, 3) := by decide +kernel
theorem dX4_setPrice_65 : decode cX4_setPrice 65 = .ok (.iconst 0, 1) := by decide +kernel
theorem dX4_setPrice_66 : decode cX4_setPrice 66 = .ok (.istore 4, 2) := by decide +kernel
theorem dX4_setPrice_68 : decode cX4_setPrice 68 = .ok (.aload_n 0, 1) := by decide +kernel
theorem dX4_setPrice_69 : decode cX4_setPrice 69 = .ok (.iload_n 3, 1) := by decide +kernel
theorem dX4_setPrice_70 : decode cX4_setPrice 70 = .ok (.iload 4, 2) := by decide +kernel
theorem dX4_setPrice_72 : decode cX4_setPrice 72 = .ok (.invokevirtual 59, 3) := by decide +kernel
theorem dX4_setPrice_75 : decode cX4_setPrice 75 = .ok (.ifCond .ne 5, 3) := by decide +kernel
theorem dX4_setPrice_78 : decode cX4_setPrice 78 = .ok (.iconst 0, 1) := by decide +kernel
theorem dX4_setPrice_79 : decode cX4_setPrice 79 = .ok (.ireturn, 1) := by decide +kernel
theorem dX4_setPrice_80 : decode cX4_setPrice 80 = .ok (.aload_n 0, 1) := by decide +kernel
theorem dX4_setPrice_81 : decode cX4_setPrice 81 = .ok (.getfield 13, 3) := by decide +kernel
theorem dX4_setPrice_84 : decode cX4_setPrice 84 = .ok (.iload_n 1, 1) := by decide +kernel
theorem dX4_setPrice_85 : decode cX4_setPrice 85 = .ok (.iaload, 1) := by decide +kernel
theorem dX4_setPrice_86 : decode cX4_setPrice 86 = .ok (.istore 5, 2) := by decide +kernel
theorem dX4_setPrice_88 : decode cX4_setPrice 88 = .ok (.aload_n 0, 1) := by decide +kernel
theorem dX4_setPrice_89 : decode cX4_setPrice 89 = .ok (.getfield 13, 3) := by decide +kernel
theorem dX4_setPrice_92 : decode cX4_setPrice 92 = .ok (.iload_n 1, 1) := by decide +kernel
theorem dX4_setPrice_93 : decode cX4_setPrice 93 = .ok (.iload_n 2, 1) := by decide +kernel
theorem dX4_setPrice_94 : decode cX4_setPrice 94 = .ok (.iastore, 1) := by decide +kernel
theorem dX4_setPrice_95 : decode cX4_setPrice 95 = .ok (.iload 5, 2) := by decide +kernel
theorem dX4_setPrice_97 : decode cX4_setPrice 97 = .ok (.ireturn, 1) := by decide +kernel
theorem dX4_setDemand_0 : decode cX4_setDemand 0 = .ok (.aload_n 0, 1) := by decide +kernel
theorem dX4_setDemand_1 : decode cX4_setDemand 1 = .ok (.iload_n 1, 1) := by decide +kernel
theorem dX4_setDemand_2 : decode cX4_setDemand 2 = .ok (.invokestatic 62, 3) := by decide +kernel
theorem dX4_setDemand_5 : decode cX4_setDemand 5 = .ok (.ifCond .eq 24, 3) := by decide +kernel
theorem dX4_setDemand_8 : decode cX4_setDemand 8 = .ok (.iload_n 2, 1) := by decide +kernel
theorem dX4_setDemand_9 : decode cX4_setDemand 9 = .ok (.invokestatic 55, 3) := by decide +kernel
theorem dX4_setDemand_12 : decode cX4_setDemand 12 = .ok (.ifCond .eq 17, 3) := by decide +kernel
theorem dX4_setDemand_15 : decode cX4_setDemand 15 = .ok (.iload_n 3, 1) := by decide +kernel
theorem dX4_setDemand_16 : decode cX4_setDemand 16 = .ok (.iconst 0, 1) := by decide +kernel
theorem dX4_setDemand_17 : decode cX4_setDemand 17 = .ok (.bipush 30, 2) := by decide +kernel
theorem dX4_setDemand_19 : decode cX4_setDemand 19 = .ok (.invokestatic 41, 3) := by decide +kernel
theorem dX4_setDemand_22 : decode cX4_setDemand 22 = .ok (.ifCond .eq 7, 3) := by decide +kernel
theorem dX4_setDemand_25 : decode cX4_setDemand 25 = .ok (.iconst 1, 1) := by decide +kernel
theorem dX4_setDemand_26 : decode cX4_setDemand 26 = .ok (.goto 4, 3) := by decide +kernel
theorem dX4_setDemand_29 : decode cX4_setDemand 29 = .ok (.iconst 0, 1) := by decide +kernel
theorem dX4_setDemand_30 : decode cX4_setDemand 30 = .ok (.invokevirtual 45, 3) := by decide +kernel
theorem dX4_setDemand_33 : decode cX4_setDemand 33 = .ok (.ifCond .ne 5, 3) := by decide +kernel
theorem dX4_setDemand_36 : decode cX4_setDemand 36 = .ok (.iconst 0, 1) := by decide +kernel
theorem dX4_setDemand_37 : decode cX4_setDemand 37 = .ok (.ireturn, 1) := by decide +kernel
theorem dX4_setDemand_38 : decode cX4_setDemand 38 = .ok (.aload_n 0, 1) := by decide +kernel
theorem dX4_setDemand_39 : decode cX4_setDemand 39 = .ok (.getfield 17, 3) := by decide +kernel
theorem dX4_setDemand_42 : decode cX4_setDemand 42 = .ok (.iconst 5, 1) := by decide +kernel
theorem dX4_setDemand_43 : decode cX4_setDemand 43 = .ok (.iload_n 1, 1) := by decide +kernel
theorem dX4_setDemand_44 : decode cX4_setDemand 44 = .ok (.imul, 1) := by decide +kernel
theorem dX4_setDemand_45 : decode cX4_setDemand 45 = .ok (.iload_n 2, 1) := by decide +kernel
theorem dX4_setDemand_46 : decode cX4_setDemand 46 = .ok (.iadd, 1) := by decide +kernel
theorem dX4_setDemand_47 : decode cX4_setDemand 47 = .ok (.iaload, 1) := by decide +kernel
theorem dX4_setDemand_48 : decode cX4_setDemand 48 = .ok (.istore 4, 2) := by decide +kernel
theorem dX4_setDemand_50 : decode cX4_setDemand 50 = .ok (.aload_n 0, 1) := by decide +kernel
theorem dX4_setDemand_51 : decode cX4_setDemand 51 = .ok (.getfield 17, 3) := by decide +kernel
theorem dX4_setDemand_54 : decode cX4_setDemand 54 = .ok (.iconst 5, 1) := by decide +kernel
theorem dX4_setDemand_55 : decode cX4_setDemand 55 = .ok (.iload_n 1, 1) := by decide +kernel
theorem dX4_setDemand_56 : decode cX4_setDemand 56 = .ok (.imul, 1) := by decide +kernel
theorem dX4_setDemand_57 : decode cX4_setDemand 57 = .ok (.iload_n 2, 1) := by decide +kernel
theorem dX4_setDemand_58 : decode cX4_setDemand 58 = .ok (.iadd, 1) := by decide +kernel
theorem dX4_setDemand_59 : decode cX4_setDemand 59 = .ok (.iload_n 3, 1) := by decide +kernel
theorem dX4_setDemand_60 : decode cX4_setDemand 60 = .ok (.iastore, 1) := by decide +kernel
theorem dX4_setDemand_61 : decode cX4_setDemand 61 = .ok (.iload 4, 2) := by decide +kernel
theorem dX4_setDemand_63 : decode cX4_setDemand 63 = .ok (.ireturn, 1) := by decide +kernel
theorem dX4_setRules_0 : decode cX4_setRules 0 = .ok (.aload_n 0, 1) := by decide +kernel
theorem dX4_setRules_1 : decode cX4_setRules 1 = .ok (.iload_n 1, 1) := by decide +kernel
theorem dX4_setRules_2 : decode cX4_setRules 2 = .ok (.iconst 1, 1) := by decide +kernel
theorem dX4_setRules_3 : decode cX4_setRules 3 = .ok (.iconst 4, 1) := by decide +kernel
theorem dX4_setRules_4 : decode cX4_setRules 4 = .ok (.invokestatic 41, 3) := by decide +kernel
theorem dX4_setRules_7 : decode cX4_setRules 7 = .ok (.ifCond .eq 28, 3) := by decide +kernel
theorem dX4_setRules_10 : decode cX4_setRules 10 = .ok (.iload_n 2, 1) := by decide +kernel
theorem dX4_setRules_11 : decode cX4_setRules 11 = .ok (.iconst 0, 1) := by decide +kernel
theorem dX4_setRules_12 : decode cX4_setRules 12 = .ok (.sipush 1000, 3) := by decide +kernel
theorem dX4_setRules_15 : decode cX4_setRules 15 = .ok (.invokestatic 41, 3) := by decide +kernel
theorem dX4_setRules_18 : decode cX4_setRules 18 = .ok (.ifCond .eq 17, 3) := by decide +kernel
theorem dX4_setRules_21 : decode cX4_setRules 21 = .ok (.iload_n 3, 1) := by decide +kernel
theorem dX4_setRules_22 : decode cX4_setRules 22 = .ok (.iconst 0, 1) := by decide +kernel
theorem dX4_setRules_23 : decode cX4_setRules 23 = .ok (.bipush 100, 2) := by decide +kernel
theorem dX4_setRules_25 : decode cX4_setRules 25 = .ok (.invokestatic 41, 3) := by decide +kernel
theorem dX4_setRules_28 : decode cX4_setRules 28 = .ok (.ifCond .eq 7, 3) := by decide +kernel
theorem dX4_setRules_31 : decode cX4_setRules 31 = .ok (.iconst 1, 1) := by decide +kernel
theorem dX4_setRules_32 : decode cX4_setRules 32 = .ok (.goto 4, 3) := by decide +kernel
theorem dX4_setRules_35 : decode cX4_setRules 35 = .ok (.iconst 0, 1) := by decide +kernel
theorem dX4_setRules_36 : decode cX4_setRules 36 = .ok (.invokevirtual 45, 3) := by decide +kernel
theorem dX4_setRules_39 : decode cX4_setRules 39 = .ok (.ifCond .eq 18, 3) := by decide +kernel
theorem dX4_setRules_42 : decode cX4_setRules 42 = .ok (.aload_n 0, 1) := by decide +kernel
theorem dX4_setRules_43 : decode cX4_setRules 43 = .ok (.iload_n 1, 1) := by decide +kernel
theorem dX4_setRules_44 : decode cX4_setRules 44 = .ok (.putfield 20, 3) := by decide +kernel
theorem dX4_setRules_47 : decode cX4_setRules 47 = .ok (.aload_n 0, 1) := by decide +kernel
theorem dX4_setRules_48 : decode cX4_setRules 48 = .ok (.iload_n 2, 1) := by decide +kernel
theorem dX4_setRules_49 : decode cX4_setRules 49 = .ok (.putfield 65, 3) := by decide +kernel
theorem dX4_setRules_52 : decode cX4_setRules 52 = .ok (.aload_n 0, 1) := by decide +kernel
theorem dX4_setRules_53 : decode cX4_setRules 53 = .ok (.iload_n 3, 1) := by decide +kernel
theorem dX4_setRules_54 : decode cX4_setRules 54 = .ok (.putfield 68, 3) := by decide +kernel
theorem dX4_setRules_57 : decode cX4_setRules 57 = .ok (.return_, 1) := by decide +kernel
theorem dX4_put_0 : decode cX4_put 0 = .ok (.iload_n 1, 1) := by decide +kernel
theorem dX4_put_1 : decode cX4_put 1 = .ok (.invokestatic 62, 3) := by decide +kernel
theorem dX4_put_4 : decode cX4_put 4 = .ok (.ifCond .eq 24, 3) := by decide +kernel
theorem dX4_put_7 : decode cX4_put 7 = .ok (.iload_n 2, 1) := by decide +kernel
theorem dX4_put_8 : decode cX4_put 8 = .ok (.invokestatic 71, 3) := by decide +kernel
theorem dX4_put_11 : decode cX4_put 11 = .ok (.ifCond .eq 17, 3) := by decide +kernel
theorem dX4_put_14 : decode cX4_put 14 = .ok (.iload_n 3, 1) := by decide +kernel
theorem dX4_put_15 : decode cX4_put 15 = .ok (.iconst 1, 1) := by decide +kernel
theorem dX4_put_16 : decode cX4_put 16 = .ok (.bipush 40, 2) := by decide +kernel
theorem dX4_put_18 : decode cX4_put 18 = .ok (.invokestatic 41, 3) := by decide +kernel
theorem dX4_put_21 : decode cX4_put 21 = .ok (.ifCond .eq 7, 3) := by decide +kernel
theorem dX4_put_24 : decode cX4_put 24 = .ok (.iconst 1, 1) := by decide +kernel
theorem dX4_put_25 : decode cX4_put 25 = .ok (.goto 4, 3) := by decide +kernel
theorem dX4_put_28 : decode cX4_put 28 = .ok (.iconst 0, 1) := by decide +kernel
theorem dX4_put_29 : decode cX4_put 29 = .ok (.istore 4, 2) := by decide +kernel
theorem dX4_put_31 : decode cX4_put 31 = .ok (.aload_n 0, 1) := by decide +kernel
theorem dX4_put_32 : decode cX4_put 32 = .ok (.iload 4, 2) := by decide +kernel
theorem dX4_put_34 : decode cX4_put 34 = .ok (.iload 4, 2) := by decide +kernel
theorem dX4_put_36 : decode cX4_put 36 = .ok (.ifCond .eq 19, 3) := by decide +kernel
theorem dX4_put_39 : decode cX4_put 39 = .ok (.aload_n 0, 1) := by decide +kernel
theorem dX4_put_40 : decode cX4_put 40 = .ok (.iload_n 1, 1) := by decide +kernel
theorem dX4_put_41 : decode cX4_put 41 = .ok (.invokevirtual 74, 3) := by decide +kernel
theorem dX4_put_44 : decode cX4_put 44 = .ok (.iload_n 3, 1) := by decide +kernel
theorem dX4_put_45 : decode cX4_put 45 = .ok (.iadd, 1) := by decide +kernel
theorem dX4_put_46 : decode cX4_put 46 = .ok (.bipush 60, 2) := by decide +kernel
theorem dX4_put_48 : decode cX4_put 48 = .ok (.if_icmp .gt 7, 3) := by decide +kernel
theorem dX4_put_51 : decode cX4_put 51 = .ok (.iconst 1, 1) := by decide +kernel
theorem dX4_put_52 : decode cX4_put 52 = .ok (.goto 4, 3) := by decide +kernel
theorem dX4_put_55 : decode cX4_put 55 = .ok (.iconst 0, 1) := by decide +kernel
theorem dX4_put_56 : decode cX4_put 56 = .ok (.invokevirtual 59, 3) := by decide +kernel
theorem dX4_put_59 : decode cX4_put 59 = .ok (.ifCond .ne 5, 3) := by decide +kernel
theorem dX4_put_62 : decode cX4_put 62 = .ok (.iconst 0, 1) := by decide +kernel
theorem dX4_put_63 : decode cX4_put 63 = .ok (.ireturn, 1) := by decide +kernel
theorem dX4_put_64 : decode cX4_put 64 = .ok (.aload_n 0, 1) := by decide +kernel
theorem dX4_put_65 : decode cX4_put 65 = .ok (.getfield 23, 3) := by decide +kernel
theorem dX4_put_68 : decode cX4_put 68 = .ok (.iconst 3, 1) := by decide +kernel
theorem dX4_put_69 : decode cX4_put 69 = .ok (.iload_n 1, 1) := by decide +kernel
theorem dX4_put_70 : decode cX4_put 70 = .ok (.imul, 1) := by decide +kernel
theorem dX4_put_71 : decode cX4_put 71 = .ok (.iload_n 2, 1) := by decide +kernel
theorem dX4_put_72 : decode cX4_put 72 = .ok (.iadd, 1) := by decide +kernel
theorem dX4_put_73 : decode cX4_put 73 = .ok (.dup2, 1) := by decide +kernel
theorem dX4_put_74 : decode cX4_put 74 = .ok (.iaload, 1) := by decide +kernel
theorem dX4_put_75 : decode cX4_put 75 = .ok (.iload_n 3, 1) := by decide +kernel
theorem dX4_put_76 : decode cX4_put 76 = .ok (.iadd, 1) := by decide +kernel
theorem dX4_put_77 : decode cX4_put 77 = .ok (.iastore, 1) := by decide +kernel
theorem dX4_put_78 : decode cX4_put 78 = .ok (.aload_n 0, 1) := by decide +kernel
theorem dX4_put_79 : decode cX4_put 79 = .ok (.getfield 23, 3) := by decide +kernel
theorem dX4_put_82 : decode cX4_put 82 = .ok (.iconst 3, 1) := by decide +kernel
theorem dX4_put_83 : decode cX4_put 83 = .ok (.iload_n 1, 1) := by decide +kernel
theorem dX4_put_84 : decode cX4_put 84 = .ok (.imul, 1) := by decide +kernel
theorem dX4_put_85 : decode cX4_put 85 = .ok (.iload_n 2, 1) := by decide +kernel
theorem dX4_put_86 : decode cX4_put 86 = .ok (.iadd, 1) := by decide +kernel
theorem dX4_put_87 : decode cX4_put 87 = .ok (.iaload, 1) := by decide +kernel
theorem dX4_put_88 : decode cX4_put 88 = .ok (.ireturn, 1) := by decide +kernel
theorem dX4_waits_0 : decode cX4_waits 0 = .ok (.aload_n 0, 1) := by decide +kernel
theorem dX4_waits_1 : decode cX4_waits 1 = .ok (.getfield 29, 3) := by decide +kernel
theorem dX4_waits_4 : decode cX4_waits 4 = .ok (.iload_n 1, 1) := by decide +kernel
theorem dX4_waits_5 : decode cX4_waits 5 = .ok (.iaload, 1) := by decide +kernel
theorem dX4_waits_6 : decode cX4_waits 6 = .ok (.iconst (-1), 1) := by decide +kernel
theorem dX4_waits_7 : decode cX4_waits 7 = .ok (.if_icmp .ne 7, 3) := by decide +kernel
theorem dX4_waits_10 : decode cX4_waits 10 = .ok (.iconst 0, 1) := by decide +kernel
theorem dX4_waits_11 : decode cX4_waits 11 = .ok (.goto 19, 3) := by decide +kernel
theorem dX4_waits_14 : decode cX4_waits 14 = .ok (.aload_n 0, 1) := by decide +kernel
theorem dX4_waits_15 : decode cX4_waits 15 = .ok (.getfield 29, 3) := by decide +kernel
theorem dX4_waits_18 : decode cX4_waits 18 = .ok (.iload_n 1, 1) := by decide +kernel
theorem dX4_waits_19 : decode cX4_waits 19 = .ok (.iaload, 1) := by decide +kernel
theorem dX4_waits_20 : decode cX4_waits 20 = .ok (.aload_n 0, 1) := by decide +kernel
theorem dX4_waits_21 : decode cX4_waits 21 = .ok (.getfield 20, 3) := by decide +kernel
theorem dX4_waits_24 : decode cX4_waits 24 = .ok (.iadd, 1) := by decide +kernel
theorem dX4_waits_25 : decode cX4_waits 25 = .ok (.aload_n 0, 1) := by decide +kernel
theorem dX4_waits_26 : decode cX4_waits 26 = .ok (.getfield 49, 3) := by decide +kernel
theorem dX4_waits_29 : decode cX4_waits 29 = .ok (.isub, 1) := by decide +kernel
theorem dX4_waits_30 : decode cX4_waits 30 = .ok (.istore_n 2, 1) := by decide +kernel
theorem dX4_waits_31 : decode cX4_waits 31 = .ok (.iload_n 2, 1) := by decide +kernel
theorem dX4_waits_32 : decode cX4_waits 32 = .ok (.ifCond .le 7, 3) := by decide +kernel
theorem dX4_waits_35 : decode cX4_waits 35 = .ok (.iload_n 2, 1) := by decide +kernel
theorem dX4_waits_36 : decode cX4_waits 36 = .ok (.goto 4, 3) := by decide +kernel
theorem dX4_waits_39 : decode cX4_waits 39 = .ok (.iconst 0, 1) := by decide +kernel
theorem dX4_waits_40 : decode cX4_waits 40 = .ok (.ireturn, 1) := by decide +kernel
theorem dX4_markDown_0 : decode cX4_markDown 0 = .ok (.iload_n 1, 1) := by decide +kernel
theorem dX4_markDown_1 : decode cX4_markDown 1 = .ok (.invokestatic 62, 3) := by decide +kernel
theorem dX4_markDown_4 : decode cX4_markDown 4 = .ok (.ifCond .eq 14, 3) := by decide +kernel
theorem dX4_markDown_7 : decode cX4_markDown 7 = .ok (.iload_n 2, 1) := by decide +kernel
theorem dX4_markDown_8 : decode cX4_markDown 8 = .ok (.invokestatic 55, 3) := by decide +kernel
theorem dX4_markDown_11 : decode cX4_markDown 11 = .ok (.ifCond .eq 7, 3) := by decide +kernel
theorem dX4_markDown_14 : decode cX4_markDown 14 = .ok (.iconst 1, 1) := by decide +kernel
theorem dX4_markDown_15 : decode cX4_markDown 15 = .ok (.goto 4, 3) := by decide +kernel
theorem dX4_markDown_18 : decode cX4_markDown 18 = .ok (.iconst 0, 1) := by decide +kernel
theorem dX4_markDown_19 : decode cX4_markDown 19 = .ok (.istore_n 3, 1) := by decide +kernel
theorem dX4_markDown_20 : decode cX4_markDown 20 = .ok (.aload_n 0, 1) := by decide +kernel
theorem dX4_markDown_21 : decode cX4_markDown 21 = .ok (.iload_n 3, 1) := by decide +kernel
theorem dX4_markDown_22 : decode cX4_markDown 22 = .ok (.iload_n 3, 1) := by decide +kernel
theorem dX4_markDown_23 : decode cX4_markDown 23 = .ok (.ifCond .eq 36, 3) := by decide +kernel
theorem dX4_markDown_26 : decode cX4_markDown 26 = .ok (.aload_n 0, 1) := by decide +kernel
theorem dX4_markDown_27 : decode cX4_markDown 27 = .ok (.getfield 49, 3) := by decide +kernel
theorem dX4_markDown_30 : decode cX4_markDown 30 = .ok (.aload_n 0, 1) := by decide +kernel
theorem dX4_markDown_31 : decode cX4_markDown 31 = .ok (.getfield 7, 3) := by decide +kernel
theorem dX4_markDown_34 : decode cX4_markDown 34 = .ok (.if_icmp .ge 25, 3) := by decide +kernel
theorem dX4_markDown_37 : decode cX4_markDown 37 = .ok (.iload_n 2, 1) := by decide +kernel
theorem dX4_markDown_38 : decode cX4_markDown 38 = .ok (.aload_n 0, 1) := by decide +kernel
theorem dX4_markDown_39 : decode cX4_markDown 39 = .ok (.getfield 26, 3) := by decide +kernel
theorem dX4_markDown_42 : decode cX4_markDown 42 = .ok (.iload_n 1, 1) := by decide +kernel
theorem dX4_markDown_43 : decode cX4_markDown 43 = .ok (.iaload, 1) := by decide +kernel
theorem dX4_markDown_44 : decode cX4_markDown 44 = .ok (.if_icmp .le 15, 3) := by decide +kernel
theorem dX4_markDown_47 : decode cX4_markDown 47 = .ok (.aload_n 0, 1) := by decide +kernel
theorem dX4_markDown_48 : decode cX4_markDown 48 = .ok (.iload_n 1, 1) := by decide +kernel
theorem dX4_markDown_49 : decode cX4_markDown 49 = .ok (.invokevirtual 78, 3) := by decide +kernel
theorem dX4_markDown_52 : decode cX4_markDown 52 = .ok (.ifCond .ne 7, 3) := by decide +kernel
theorem dX4_markDown_55 : decode cX4_markDown 55 = .ok (.iconst 1, 1) := by decide +kernel
theorem dX4_markDown_56 : decode cX4_markDown 56 = .ok (.goto 4, 3) := by decide +kernel
theorem dX4_markDown_59 : decode cX4_markDown 59 = .ok (.iconst 0, 1) := by decide +kernel
theorem dX4_markDown_60 : decode cX4_markDown 60 = .ok (.invokevirtual 59, 3) := by decide +kernel
theorem dX4_markDown_63 : decode cX4_markDown 63 = .ok (.ifCond .ne 5, 3) := by decide +kernel
theorem dX4_markDown_66 : decode cX4_markDown 66 = .ok (.iconst 0, 1) := by decide +kernel
theorem dX4_markDown_67 : decode cX4_markDown 67 = .ok (.ireturn, 1) := by decide +kernel
theorem dX4_markDown_68 : decode cX4_markDown 68 = .ok (.aload_n 0, 1) := by decide +kernel
theorem dX4_markDown_69 : decode cX4_markDown 69 = .ok (.getfield 26, 3) := by decide +kernel
theorem dX4_markDown_72 : decode cX4_markDown 72 = .ok (.iload_n 1, 1) := by decide +kernel
theorem dX4_markDown_73 : decode cX4_markDown 73 = .ok (.iload_n 2, 1) := by decide +kernel
theorem dX4_markDown_74 : decode cX4_markDown 74 = .ok (.iastore, 1) := by decide +kernel
theorem dX4_markDown_75 : decode cX4_markDown 75 = .ok (.aload_n 0, 1) := by decide +kernel
theorem dX4_markDown_76 : decode cX4_markDown 76 = .ok (.getfield 29, 3) := by decide +kernel
theorem dX4_markDown_79 : decode cX4_markDown 79 = .ok (.iload_n 1, 1) := by decide +kernel
theorem dX4_markDown_80 : decode cX4_markDown 80 = .ok (.aload_n 0, 1) := by decide +kernel
theorem dX4_markDown_81 : decode cX4_markDown 81 = .ok (.getfield 49, 3) := by decide +kernel
theorem dX4_markDown_84 : decode cX4_markDown 84 = .ok (.iastore, 1) := by decide +kernel
theorem dX4_markDown_85 : decode cX4_markDown 85 = .ok (.aload_n 0, 1) := by decide +kernel
theorem dX4_markDown_86 : decode cX4_markDown 86 = .ok (.getfield 13, 3) := by decide +kernel
theorem dX4_markDown_89 : decode cX4_markDown 89 = .ok (.iload_n 2, 1) := by decide +kernel
theorem dX4_markDown_90 : decode cX4_markDown 90 = .ok (.iaload, 1) := by decide +kernel
theorem dX4_markDown_91 : decode cX4_markDown 91 = .ok (.ireturn, 1) := by decide +kernel
theorem dX4_move_0 : decode cX4_move 0 = .ok (.iload_n 1, 1) := by decide +kernel
theorem dX4_move_1 : decode cX4_move 1 = .ok (.invokestatic 62, 3) := by decide +kernel
theorem dX4_move_4 : decode cX4_move 4 = .ok (.ifCond .eq 37, 3) := by decide +kernel
theorem dX4_move_7 : decode cX4_move 7 = .ok (.iload_n 2, 1) := by decide +kernel
theorem dX4_move_8 : decode cX4_move 8 = .ok (.invokestatic 62, 3) := by decide +kernel
theorem dX4_move_11 : decode cX4_move 11 = .ok (.ifCond .eq 30, 3) := by decide +kernel
theorem dX4_move_14 : decode cX4_move 14 = .ok (.iload_n 3, 1) := by decide +kernel
theorem dX4_move_15 : decode cX4_move 15 = .ok (.invokestatic 71, 3) := by decide +kernel
theorem dX4_move_18 : decode cX4_move 18 = .ok (.ifCond .eq 23, 3) := by decide +kernel
theorem dX4_move_21 : decode cX4_move 21 = .ok (.iload 4, 2) := by decide +kernel
theorem dX4_move_23 : decode cX4_move 23 = .ok (.iconst 1, 1) := by decide +kernel
theorem dX4_move_24 : decode cX4_move 24 = .ok (.bipush 40, 2) := by decide +kernel
theorem dX4_move_26 : decode cX4_move 26 = .ok (.invokestatic 41, 3) := by decide +kernel
theorem dX4_move_29 : decode cX4_move 29 = .ok (.ifCond .eq 12, 3) := by decide +kernel
theorem dX4_move_32 : decode cX4_move 32 = .ok (.iload_n 1, 1) := by decide +kernel
theorem dX4_move_33 : decode cX4_move 33 = .ok (.iload_n 2, 1) := by decide +kernel
theorem dX4_move_34 : decode cX4_move 34 = .ok (.if_icmp .eq 7, 3) := by decide +kernel
theorem dX4_move_37 : decode cX4_move 37 = .ok (.iconst 1, 1) := by decide +kernel
theorem dX4_move_38 : decode cX4_move 38 = .ok (.goto 4, 3) := by decide +kernel
theorem dX4_move_41 : decode cX4_move 41 = .ok (.iconst 0, 1) := by decide +kernel
theorem dX4_move_42 : decode cX4_move 42 = .ok (.istore 5, 2) := by decide +kernel
theorem dX4_move_44 : decode cX4_move 44 = .ok (.aload_n 0, 1) := by decide +kernel
theorem dX4_move_45 : decode cX4_move 45 = .ok (.iload 5, 2) := by decide +kernel
theorem dX4_move_47 : decode cX4_move 47 = .ok (.iload 5, 2) := by decide +kernel
theorem dX4_move_49 : decode cX4_move 49 = .ok (.ifCond .eq 46, 3) := by decide +kernel
theorem dX4_move_52 : decode cX4_move 52 = .ok (.aload_n 0, 1) := by decide +kernel
theorem dX4_move_53 : decode cX4_move 53 = .ok (.getfield 49, 3) := by decide +kernel
theorem dX4_move_56 : decode cX4_move 56 = .ok (.aload_n 0, 1) := by decide +kernel
theorem dX4_move_57 : decode cX4_move 57 = .ok (.getfield 7, 3) := by decide +kernel
theorem dX4_move_60 : decode cX4_move 60 = .ok (.if_icmp .ge 35, 3) := by decide +kernel
theorem dX4_move_63 : decode cX4_move 63 = .ok (.aload_n 0, 1) := by decide +kernel
theorem dX4_move_64 : decode cX4_move 64 = .ok (.getfield 23, 3) := by decide +kernel
theorem dX4_move_67 : decode cX4_move 67 = .ok (.iconst 3, 1) := by decide +kernel
theorem dX4_move_68 : decode cX4_move 68 = .ok (.iload_n 1, 1) := by decide +kernel
theorem dX4_move_69 : decode cX4_move 69 = .ok (.imul, 1) := by decide +kernel
theorem dX4_move_70 : decode cX4_move 70 = .ok (.iload_n 3, 1) := by decide +kernel
theorem dX4_move_71 : decode cX4_move 71 = .ok (.iadd, 1) := by decide +kernel
theorem dX4_move_72 : decode cX4_move 72 = .ok (.iaload, 1) := by decide +kernel
theorem dX4_move_73 : decode cX4_move 73 = .ok (.iload 4, 2) := by decide +kernel
theorem dX4_move_75 : decode cX4_move 75 = .ok (.if_icmp .lt 20, 3) := by decide +kernel
theorem dX4_move_78 : decode cX4_move 78 = .ok (.aload_n 0, 1) := by decide +kernel
theorem dX4_move_79 : decode cX4_move 79 = .ok (.iload_n 2, 1) := by decide +kernel
theorem dX4_move_80 : decode cX4_move 80 = .ok (.invokevirtual 74, 3) := by decide +kernel
theorem dX4_move_83 : decode cX4_move 83 = .ok (.iload 4, 2) := by decide +kernel
theorem dX4_move_85 : decode cX4_move 85 = .ok (.iadd, 1) := by decide +kernel
theorem dX4_move_86 : decode cX4_move 86 = .ok (.bipush 60, 2) := by decide +kernel
theorem dX4_move_88 : decode cX4_move 88 = .ok (.if_icmp .gt 7, 3) := by decide +kernel
theorem dX4_move_91 : decode cX4_move 91 = .ok (.iconst 1, 1) := by decide +kernel
theorem dX4_move_92 : decode cX4_move 92 = .ok (.goto 4, 3) := by decide +kernel
theorem dX4_move_95 : decode cX4_move 95 = .ok (.iconst 0, 1) := by decide +kernel
theorem dX4_move_96 : decode cX4_move 96 = .ok (.invokevirtual 59, 3) := by decide +kernel
theorem dX4_move_99 : decode cX4_move 99 = .ok (.ifCond .ne 5, 3) := by decide +kernel
theorem dX4_move_102 : decode cX4_move 102 = .ok (.iconst 0, 1) := by decide +kernel
theorem dX4_move_103 : decode cX4_move 103 = .ok (.ireturn, 1) := by decide +kernel
theorem dX4_move_104 : decode cX4_move 104 = .ok (.aload_n 0, 1) := by decide +kernel
theorem dX4_move_105 : decode cX4_move 105 = .ok (.getfield 23, 3) := by decide +kernel
theorem dX4_move_108 : decode cX4_move 108 = .ok (.iconst 3, 1) := by decide +kernel
theorem dX4_move_109 : decode cX4_move 109 = .ok (.iload_n 1, 1) := by decide +kernel
theorem dX4_move_110 : decode cX4_move 110 = .ok (.imul, 1) := by decide +kernel
theorem dX4_move_111 : decode cX4_move 111 = .ok (.iload_n 3, 1) := by decide +kernel
theorem dX4_move_112 : decode cX4_move 112 = .ok (.iadd, 1) := by decide +kernel
theorem dX4_move_113 : decode cX4_move 113 = .ok (.dup2, 1) := by decide +kernel
theorem dX4_move_114 : decode cX4_move 114 = .ok (.iaload, 1) := by decide +kernel
theorem dX4_move_115 : decode cX4_move 115 = .ok (.iload 4, 2) := by decide +kernel
theorem dX4_move_117 : decode cX4_move 117 = .ok (.isub, 1) := by decide +kernel
theorem dX4_move_118 : decode cX4_move 118 = .ok (.iastore, 1) := by decide +kernel
theorem dX4_move_119 : decode cX4_move 119 = .ok (.aload_n 0, 1) := by decide +kernel
theorem dX4_move_120 : decode cX4_move 120 = .ok (.getfield 23, 3) := by decide +kernel
theorem dX4_move_123 : decode cX4_move 123 = .ok (.iconst 3, 1) := by decide +kernel
theorem dX4_move_124 : decode cX4_move 124 = .ok (.iload_n 2, 1) := by decide +kernel
theorem dX4_move_125 : decode cX4_move 125 = .ok (.imul, 1) := by decide +kernel
theorem dX4_move_126 : decode cX4_move 126 = .ok (.iload_n 3, 1) := by decide +kernel
theorem dX4_move_127 : decode cX4_move 127 = .ok (.iadd, 1) := by decide +kernel
theorem dX4_move_128 : decode cX4_move 128 = .ok (.dup2, 1) := by decide +kernel
theorem dX4_move_129 : decode cX4_move 129 = .ok (.iaload, 1) := by decide +kernel
theorem dX4_move_130 : decode cX4_move 130 = .ok (.iload 4, 2) := by decide +kernel
theorem dX4_move_132 : decode cX4_move 132 = .ok (.iadd, 1) := by decide +kernel
theorem dX4_move_133 : decode cX4_move 133 = .ok (.iastore, 1) := by decide +kernel
theorem dX4_move_134 : decode cX4_move 134 = .ok (.aload_n 0, 1) := by decide +kernel
theorem dX4_move_135 : decode cX4_move 135 = .ok (.dup, 1) := by decide +kernel
theorem dX4_move_136 : decode cX4_move 136 = .ok (.getfield 52, 3) := by decide +kernel
theorem dX4_move_139 : decode cX4_move 139 = .ok (.iload 4, 2) := by decide +kernel
theorem dX4_move_141 : decode cX4_move 141 = .ok (.aload_n 0, 1) := by decide +kernel
theorem dX4_move_142 : decode cX4_move 142 = .ok (.getfield 68, 3) := by decide +kernel
theorem dX4_move_145 : decode cX4_move 145 = .ok (.imul, 1) := by decide +kernel
theorem dX4_move_146 : decode cX4_move 146 = .ok (.isub, 1) := by decide +kernel
theorem dX4_move_147 : decode cX4_move 147 = .ok (.putfield 52, 3) := by decide +kernel
theorem dX4_move_150 : decode cX4_move 150 = .ok (.iload 4, 2) := by decide +kernel
theorem dX4_move_152 : decode cX4_move 152 = .ok (.aload_n 0, 1) := by decide +kernel
theorem dX4_move_153 : decode cX4_move 153 = .ok (.getfield 68, 3) := by decide +kernel
theorem dX4_move_156 : decode cX4_move 156 = .ok (.imul, 1) := by decide +kernel
theorem dX4_move_157 : decode cX4_move 157 = .ok (.ireturn, 1) := by decide +kernel
theorem dX4_sells_0 : decode cX4_sells 0 = .ok (.iconst 0, 1) := by decide +kernel
theorem dX4_sells_1 : decode cX4_sells 1 = .ok (.istore_n 3, 1) := by decide +kernel
theorem dX4_sells_2 : decode cX4_sells 2 = .ok (.iconst 0, 1) := by decide +kernel
theorem dX4_sells_3 : decode cX4_sells 3 = .ok (.istore 4, 2) := by decide +kernel
theorem dX4_sells_5 : decode cX4_sells 5 = .ok (.iload 4, 2) := by decide +kernel
theorem dX4_sells_7 : decode cX4_sells 7 = .ok (.iconst 3, 1) := by decide +kernel
theorem dX4_sells_8 : decode cX4_sells 8 = .ok (.if_icmp .ge 31, 3) := by decide +kernel
theorem dX4_sells_11 : decode cX4_sells 11 = .ok (.iload_n 3, 1) := by decide +kernel
theorem dX4_sells_12 : decode cX4_sells 12 = .ok (.aload_n 0, 1) := by decide +kernel
theorem dX4_sells_13 : decode cX4_sells 13 = .ok (.getfield 23, 3) := by decide +kernel
theorem dX4_sells_16 : decode cX4_sells 16 = .ok (.iconst 3, 1) := by decide +kernel
theorem dX4_sells_17 : decode cX4_sells 17 = .ok (.iload_n 1, 1) := by decide +kernel
theorem dX4_sells_18 : decode cX4_sells 18 = .ok (.imul, 1) := by decide +kernel
theorem dX4_sells_19 : decode cX4_sells 19 = .ok (.iload 4, 2) := by decide +kernel
theorem dX4_sells_21 : decode cX4_sells 21 = .ok (.iadd, 1) := by decide +kernel
theorem dX4_sells_22 : decode cX4_sells 22 = .ok (.iaload, 1) := by decide +kernel
theorem dX4_sells_23 : decode cX4_sells 23 = .ok (.ifCond .le 7, 3) := by decide +kernel
theorem dX4_sells_26 : decode cX4_sells 26 = .ok (.iconst 1, 1) := by decide +kernel
theorem dX4_sells_27 : decode cX4_sells 27 = .ok (.goto 4, 3) := by decide +kernel
theorem dX4_sells_30 : decode cX4_sells 30 = .ok (.iconst 0, 1) := by decide +kernel
theorem dX4_sells_31 : decode cX4_sells 31 = .ok (.iadd, 1) := by decide +kernel
theorem dX4_sells_32 : decode cX4_sells 32 = .ok (.istore_n 3, 1) := by decide +kernel
theorem dX4_sells_33 : decode cX4_sells 33 = .ok (.iinc 4 1, 3) := by decide +kernel
theorem dX4_sells_36 : decode cX4_sells 36 = .ok (.goto (-31), 3) := by decide +kernel
theorem dX4_sells_39 : decode cX4_sells 39 = .ok (.aload_n 0, 1) := by decide +kernel
theorem dX4_sells_40 : decode cX4_sells 40 = .ok (.getfield 17, 3) := by decide +kernel
theorem dX4_sells_43 : decode cX4_sells 43 = .ok (.iconst 5, 1) := by decide +kernel
theorem dX4_sells_44 : decode cX4_sells 44 = .ok (.iload_n 1, 1) := by decide +kernel
theorem dX4_sells_45 : decode cX4_sells 45 = .ok (.imul, 1) := by decide +kernel
theorem dX4_sells_46 : decode cX4_sells 46 = .ok (.iload_n 2, 1) := by decide +kernel
theorem dX4_sells_47 : decode cX4_sells 47 = .ok (.iadd, 1) := by decide +kernel
theorem dX4_sells_48 : decode cX4_sells 48 = .ok (.iaload, 1) := by decide +kernel
theorem dX4_sells_49 : decode cX4_sells 49 = .ok (.iload_n 3, 1) := by decide +kernel
theorem dX4_sells_50 : decode cX4_sells 50 = .ok (.imul, 1) := by decide +kernel
theorem dX4_sells_51 : decode cX4_sells 51 = .ok (.iconst 3, 1) := by decide +kernel
theorem dX4_sells_52 : decode cX4_sells 52 = .ok (.idiv, 1) := by decide +kernel
theorem dX4_sells_53 : decode cX4_sells 53 = .ok (.istore 4, 2) := by decide +kernel
theorem dX4_sells_55 : decode cX4_sells 55 = .ok (.iload 4, 2) := by decide +kernel
theorem dX4_sells_57 : decode cX4_sells 57 = .ok (.aload_n 0, 1) := by decide +kernel
theorem dX4_sells_58 : decode cX4_sells 58 = .ok (.iload_n 1, 1) := by decide +kernel
theorem dX4_sells_59 : decode cX4_sells 59 = .ok (.invokevirtual 74, 3) := by decide +kernel
theorem dX4_sells_62 : decode cX4_sells 62 = .ok (.if_icmp .ge 8, 3) := by decide +kernel
theorem dX4_sells_65 : decode cX4_sells 65 = .ok (.iload 4, 2) := by decide +kernel
theorem dX4_sells_67 : decode cX4_sells 67 = .ok (.goto 8, 3) := by decide +kernel
theorem dX4_sells_70 : decode cX4_sells 70 = .ok (.aload_n 0, 1) := by decide +kernel
theorem dX4_sells_71 : decode cX4_sells 71 = .ok (.iload_n 1, 1) := by decide +kernel
theorem dX4_sells_72 : decode cX4_sells 72 = .ok (.invokevirtual 74, 3) := by decide +kernel
theorem dX4_sells_75 : decode cX4_sells 75 = .ok (.ireturn, 1) := by decide +kernel
theorem dX4_run_0 : decode cX4_run 0 = .ok (.aload_n 0, 1) := by decide +kernel
theorem dX4_run_1 : decode cX4_run 1 = .ok (.aload_n 0, 1) := by decide +kernel
theorem dX4_run_2 : decode cX4_run 2 = .ok (.getfield 49, 3) := by decide +kernel
theorem dX4_run_5 : decode cX4_run 5 = .ok (.aload_n 0, 1) := by decide +kernel
theorem dX4_run_6 : decode cX4_run 6 = .ok (.getfield 7, 3) := by decide +kernel
theorem dX4_run_9 : decode cX4_run 9 = .ok (.if_icmp .ge 7, 3) := by decide +kernel
theorem dX4_run_12 : decode cX4_run 12 = .ok (.iconst 1, 1) := by decide +kernel
theorem dX4_run_13 : decode cX4_run 13 = .ok (.goto 4, 3) := by decide +kernel
theorem dX4_run_16 : decode cX4_run 16 = .ok (.iconst 0, 1) := by decide +kernel
theorem dX4_run_17 : decode cX4_run 17 = .ok (.invokevirtual 45, 3) := by decide +kernel
theorem dX4_run_20 : decode cX4_run 20 = .ok (.ifCond .ne 5, 3) := by decide +kernel
theorem dX4_run_23 : decode cX4_run 23 = .ok (.iconst 0, 1) := by decide +kernel
theorem dX4_run_24 : decode cX4_run 24 = .ok (.ireturn, 1) := by decide +kernel
theorem dX4_run_25 : decode cX4_run 25 = .ok (.iconst 0, 1) := by decide +kernel
theorem dX4_run_26 : decode cX4_run 26 = .ok (.istore_n 1, 1) := by decide +kernel
theorem dX4_run_27 : decode cX4_run 27 = .ok (.iconst 0, 1) := by decide +kernel
theorem dX4_run_28 : decode cX4_run 28 = .ok (.istore_n 2, 1) := by decide +kernel
theorem dX4_run_29 : decode cX4_run 29 = .ok (.iload_n 2, 1) := by decide +kernel
theorem dX4_run_30 : decode cX4_run 30 = .ok (.iconst 3, 1) := by decide +kernel
theorem dX4_run_31 : decode cX4_run 31 = .ok (.if_icmp .ge 142, 3) := by decide +kernel
theorem dX4_run_34 : decode cX4_run 34 = .ok (.aload_n 0, 1) := by decide +kernel
theorem dX4_run_35 : decode cX4_run 35 = .ok (.iload_n 2, 1) := by decide +kernel
theorem dX4_run_36 : decode cX4_run 36 = .ok (.aload_n 0, 1) := by decide +kernel
theorem dX4_run_37 : decode cX4_run 37 = .ok (.getfield 26, 3) := by decide +kernel
theorem dX4_run_40 : decode cX4_run 40 = .ok (.iload_n 2, 1) := by decide +kernel
theorem dX4_run_41 : decode cX4_run 41 = .ok (.iaload, 1) := by decide +kernel
theorem dX4_run_42 : decode cX4_run 42 = .ok (.invokevirtual 81, 3) := by decide +kernel
theorem dX4_run_45 : decode cX4_run 45 = .ok (.istore_n 3, 1) := by decide +kernel
theorem dX4_run_46 : decode cX4_run 46 = .ok (.iconst 0, 1) := by decide +kernel
theorem dX4_run_47 : decode cX4_run 47 = .ok (.istore 4, 2) := by decide +kernel
theorem dX4_run_49 : decode cX4_run 49 = .ok (.iload 4, 2) := by decide +kernel
theorem dX4_run_51 : decode cX4_run 51 = .ok (.iload_n 3, 1) := by decide +kernel
theorem dX4_run_52 : decode cX4_run 52 = .ok (.if_icmp .ge 89, 3) := by decide +kernel
theorem dX4_run_55 : decode cX4_run 55 = .ok (.iconst 3, 1) := by decide +kernel
theorem dX4_run_56 : decode cX4_run 56 = .ok (.iload_n 2, 1) := by decide +kernel
theorem dX4_run_57 : decode cX4_run 57 = .ok (.imul, 1) := by decide +kernel
theorem dX4_run_58 : decode cX4_run 58 = .ok (.istore 5, 2) := by decide +kernel
theorem dX4_run_60 : decode cX4_run 60 = .ok (.aload_n 0, 1) := by decide +kernel
theorem dX4_run_61 : decode cX4_run 61 = .ok (.getfield 23, 3) := by decide +kernel
theorem dX4_run_64 : decode cX4_run 64 = .ok (.iconst 3, 1) := by decide +kernel
theorem dX4_run_65 : decode cX4_run 65 = .ok (.iload_n 2, 1) := by decide +kernel
theorem dX4_run_66 : decode cX4_run 66 = .ok (.imul, 1) := by decide +kernel
theorem dX4_run_67 : decode cX4_run 67 = .ok (.iconst 1, 1) := by decide +kernel
theorem dX4_run_68 : decode cX4_run 68 = .ok (.iadd, 1) := by decide +kernel
theorem dX4_run_69 : decode cX4_run 69 = .ok (.iaload, 1) := by decide +kernel
theorem dX4_run_70 : decode cX4_run 70 = .ok (.aload_n 0, 1) := by decide +kernel
theorem dX4_run_71 : decode cX4_run 71 = .ok (.getfield 23, 3) := by decide +kernel
theorem dX4_run_74 : decode cX4_run 74 = .ok (.iload 5, 2) := by decide +kernel
theorem dX4_run_76 : decode cX4_run 76 = .ok (.iaload, 1) := by decide +kernel
theorem dX4_run_77 : decode cX4_run 77 = .ok (.if_icmp .le 11, 3) := by decide +kernel
theorem dX4_run_80 : decode cX4_run 80 = .ok (.iconst 3, 1) := by decide +kernel
theorem dX4_run_81 : decode cX4_run 81 = .ok (.iload_n 2, 1) := by decide +kernel
theorem dX4_run_82 : decode cX4_run 82 = .ok (.imul, 1) := by decide +kernel
theorem dX4_run_83 : decode cX4_run 83 = .ok (.iconst 1, 1) := by decide +kernel
theorem dX4_run_84 : decode cX4_run 84 = .ok (.iadd, 1) := by decide +kernel
theorem dX4_run_85 : decode cX4_run 85 = .ok (.goto 5, 3) := by decide +kernel
theorem dX4_run_88 : decode cX4_run 88 = .ok (.iload 5, 2) := by decide +kernel
theorem dX4_run_90 : decode cX4_run 90 = .ok (.istore 5, 2) := by decide +kernel
theorem dX4_run_92 : decode cX4_run 92 = .ok (.aload_n 0, 1) := by decide +kernel
theorem dX4_run_93 : decode cX4_run 93 = .ok (.getfield 23, 3) := by decide +kernel
theorem dX4_run_96 : decode cX4_run 96 = .ok (.iconst 3, 1) := by decide +kernel
theorem dX4_run_97 : decode cX4_run 97 = .ok (.iload_n 2, 1) := by decide +kernel
theorem dX4_run_98 : decode cX4_run 98 = .ok (.imul, 1) := by decide +kernel
theorem dX4_run_99 : decode cX4_run 99 = .ok (.iconst 2, 1) := by decide +kernel
theorem dX4_run_100 : decode cX4_run 100 = .ok (.iadd, 1) := by decide +kernel
theorem dX4_run_101 : decode cX4_run 101 = .ok (.iaload, 1) := by decide +kernel
theorem dX4_run_102 : decode cX4_run 102 = .ok (.aload_n 0, 1) := by decide +kernel
theorem dX4_run_103 : decode cX4_run 103 = .ok (.getfield 23, 3) := by decide +kernel
theorem dX4_run_106 : decode cX4_run 106 = .ok (.iload 5, 2) := by decide +kernel
theorem dX4_run_108 : decode cX4_run 108 = .ok (.iaload, 1) := by decide +kernel
theorem dX4_run_109 : decode cX4_run 109 = .ok (.if_icmp .le 11, 3) := by decide +kernel
theorem dX4_run_112 : decode cX4_run 112 = .ok (.iconst 3, 1) := by decide +kernel
theorem dX4_run_113 : decode cX4_run 113 = .ok (.iload_n 2, 1) := by decide +kernel
theorem dX4_run_114 : decode cX4_run 114 = .ok (.imul, 1) := by decide +kernel
theorem dX4_run_115 : decode cX4_run 115 = .ok (.iconst 2, 1) := by decide +kernel
theorem dX4_run_116 : decode cX4_run 116 = .ok (.iadd, 1) := by decide +kernel
theorem dX4_run_117 : decode cX4_run 117 = .ok (.goto 5, 3) := by decide +kernel
theorem dX4_run_120 : decode cX4_run 120 = .ok (.iload 5, 2) := by decide +kernel
theorem dX4_run_122 : decode cX4_run 122 = .ok (.istore 5, 2) := by decide +kernel
theorem dX4_run_124 : decode cX4_run 124 = .ok (.aload_n 0, 1) := by decide +kernel
theorem dX4_run_125 : decode cX4_run 125 = .ok (.getfield 23, 3) := by decide +kernel
theorem dX4_run_128 : decode cX4_run 128 = .ok (.iload 5, 2) := by decide +kernel
theorem dX4_run_130 : decode cX4_run 130 = .ok (.dup2, 1) := by decide +kernel
theorem dX4_run_131 : decode cX4_run 131 = .ok (.iaload, 1) := by decide +kernel
theorem dX4_run_132 : decode cX4_run 132 = .ok (.iconst 1, 1) := by decide +kernel
theorem dX4_run_133 : decode cX4_run 133 = .ok (.isub, 1) := by decide +kernel
theorem dX4_run_134 : decode cX4_run 134 = .ok (.iastore, 1) := by decide +kernel
theorem dX4_run_135 : decode cX4_run 135 = .ok (.iinc 4 1, 3) := by decide +kernel
theorem dX4_run_138 : decode cX4_run 138 = .ok (.goto (-89), 3) := by decide +kernel
theorem dX4_run_141 : decode cX4_run 141 = .ok (.aload_n 0, 1) := by decide +kernel
theorem dX4_run_142 : decode cX4_run 142 = .ok (.getfield 32, 3) := by decide +kernel
theorem dX4_run_145 : decode cX4_run 145 = .ok (.iload_n 2, 1) := by decide +kernel
theorem dX4_run_146 : decode cX4_run 146 = .ok (.dup2, 1) := by decide +kernel
theorem dX4_run_147 : decode cX4_run 147 = .ok (.iaload, 1) := by decide +kernel
theorem dX4_run_148 : decode cX4_run 148 = .ok (.iload_n 3, 1) := by decide +kernel
theorem dX4_run_149 : decode cX4_run 149 = .ok (.iadd, 1) := by decide +kernel
theorem dX4_run_150 : decode cX4_run 150 = .ok (.iastore, 1) := by decide +kernel
theorem dX4_run_151 : decode cX4_run 151 = .ok (.iload_n 1, 1) := by decide +kernel
theorem dX4_run_152 : decode cX4_run 152 = .ok (.iload_n 3, 1) := by decide +kernel
theorem dX4_run_153 : decode cX4_run 153 = .ok (.aload_n 0, 1) := by decide +kernel
theorem dX4_run_154 : decode cX4_run 154 = .ok (.getfield 13, 3) := by decide +kernel
theorem dX4_run_157 : decode cX4_run 157 = .ok (.aload_n 0, 1) := by decide +kernel
theorem dX4_run_158 : decode cX4_run 158 = .ok (.getfield 26, 3) := by decide +kernel
theorem dX4_run_161 : decode cX4_run 161 = .ok (.iload_n 2, 1) := by decide +kernel
theorem dX4_run_162 : decode cX4_run 162 = .ok (.iaload, 1) := by decide +kernel
theorem dX4_run_163 : decode cX4_run 163 = .ok (.iaload, 1) := by decide +kernel
theorem dX4_run_164 : decode cX4_run 164 = .ok (.imul, 1) := by decide +kernel
theorem dX4_run_165 : decode cX4_run 165 = .ok (.iadd, 1) := by decide +kernel
theorem dX4_run_166 : decode cX4_run 166 = .ok (.istore_n 1, 1) := by decide +kernel
theorem dX4_run_167 : decode cX4_run 167 = .ok (.iinc 2 1, 3) := by decide +kernel
theorem dX4_run_170 : decode cX4_run 170 = .ok (.goto (-141), 3) := by decide +kernel
theorem dX4_run_173 : decode cX4_run 173 = .ok (.aload_n 0, 1) := by decide +kernel
theorem dX4_run_174 : decode cX4_run 174 = .ok (.dup, 1) := by decide +kernel
theorem dX4_run_175 : decode cX4_run 175 = .ok (.getfield 52, 3) := by decide +kernel
theorem dX4_run_178 : decode cX4_run 178 = .ok (.iload_n 1, 1) := by decide +kernel
theorem dX4_run_179 : decode cX4_run 179 = .ok (.iadd, 1) := by decide +kernel
theorem dX4_run_180 : decode cX4_run 180 = .ok (.putfield 52, 3) := by decide +kernel
theorem dX4_run_183 : decode cX4_run 183 = .ok (.aload_n 0, 1) := by decide +kernel
theorem dX4_run_184 : decode cX4_run 184 = .ok (.dup, 1) := by decide +kernel
theorem dX4_run_185 : decode cX4_run 185 = .ok (.getfield 49, 3) := by decide +kernel
theorem dX4_run_188 : decode cX4_run 188 = .ok (.iconst 1, 1) := by decide +kernel
theorem dX4_run_189 : decode cX4_run 189 = .ok (.iadd, 1) := by decide +kernel
theorem dX4_run_190 : decode cX4_run 190 = .ok (.putfield 49, 3) := by decide +kernel
theorem dX4_run_193 : decode cX4_run 193 = .ok (.iload_n 1, 1) := by decide +kernel
theorem dX4_run_194 : decode cX4_run 194 = .ok (.ireturn, 1) := by decide +kernel
theorem dX4_week_0 : decode cX4_week 0 = .ok (.aload_n 0, 1) := by decide +kernel
theorem dX4_week_1 : decode cX4_week 1 = .ok (.aload_n 0, 1) := by decide +kernel
theorem dX4_week_2 : decode cX4_week 2 = .ok (.getfield 49, 3) := by decide +kernel
theorem dX4_week_5 : decode cX4_week 5 = .ok (.invokevirtual 85, 3) := by decide +kernel
theorem dX4_week_8 : decode cX4_week 8 = .ok (.ireturn, 1) := by decide +kernel
theorem dX4_stock_0 : decode cX4_stock 0 = .ok (.aload_n 0, 1) := by decide +kernel
theorem dX4_stock_1 : decode cX4_stock 1 = .ok (.iload_n 1, 1) := by decide +kernel
theorem dX4_stock_2 : decode cX4_stock 2 = .ok (.invokestatic 62, 3) := by decide +kernel
theorem dX4_stock_5 : decode cX4_stock 5 = .ok (.ifCond .eq 14, 3) := by decide +kernel
theorem dX4_stock_8 : decode cX4_stock 8 = .ok (.iload_n 2, 1) := by decide +kernel
theorem dX4_stock_9 : decode cX4_stock 9 = .ok (.invokestatic 71, 3) := by decide +kernel
theorem dX4_stock_12 : decode cX4_stock 12 = .ok (.ifCond .eq 7, 3) := by decide +kernel
theorem dX4_stock_15 : decode cX4_stock 15 = .ok (.iconst 1, 1) := by decide +kernel
theorem dX4_stock_16 : decode cX4_stock 16 = .ok (.goto 4, 3) := by decide +kernel
theorem dX4_stock_19 : decode cX4_stock 19 = .ok (.iconst 0, 1) := by decide +kernel
theorem dX4_stock_20 : decode cX4_stock 20 = .ok (.invokevirtual 45, 3) := by decide +kernel
theorem dX4_stock_23 : decode cX4_stock 23 = .ok (.ifCond .eq 16, 3) := by decide +kernel
theorem dX4_stock_26 : decode cX4_stock 26 = .ok (.aload_n 0, 1) := by decide +kernel
theorem dX4_stock_27 : decode cX4_stock 27 = .ok (.getfield 23, 3) := by decide +kernel
theorem dX4_stock_30 : decode cX4_stock 30 = .ok (.iconst 3, 1) := by decide +kernel
theorem dX4_stock_31 : decode cX4_stock 31 = .ok (.iload_n 1, 1) := by decide +kernel
theorem dX4_stock_32 : decode cX4_stock 32 = .ok (.imul, 1) := by decide +kernel
theorem dX4_stock_33 : decode cX4_stock 33 = .ok (.iload_n 2, 1) := by decide +kernel
theorem dX4_stock_34 : decode cX4_stock 34 = .ok (.iadd, 1) := by decide +kernel
theorem dX4_stock_35 : decode cX4_stock 35 = .ok (.iaload, 1) := by decide +kernel
theorem dX4_stock_36 : decode cX4_stock 36 = .ok (.goto 4, 3) := by decide +kernel
theorem dX4_stock_39 : decode cX4_stock 39 = .ok (.iconst 0, 1) := by decide +kernel
theorem dX4_stock_40 : decode cX4_stock 40 = .ok (.ireturn, 1) := by decide +kernel
theorem dX4_step_0 : decode cX4_step 0 = .ok (.aload_n 0, 1) := by decide +kernel
theorem dX4_step_1 : decode cX4_step 1 = .ok (.iload_n 1, 1) := by decide +kernel
theorem dX4_step_2 : decode cX4_step 2 = .ok (.invokestatic 62, 3) := by decide +kernel
theorem dX4_step_5 : decode cX4_step 5 = .ok (.invokevirtual 45, 3) := by decide +kernel
theorem dX4_step_8 : decode cX4_step 8 = .ok (.ifCond .eq 12, 3) := by decide +kernel
theorem dX4_step_11 : decode cX4_step 11 = .ok (.aload_n 0, 1) := by decide +kernel
theorem dX4_step_12 : decode cX4_step 12 = .ok (.getfield 26, 3) := by decide +kernel
theorem dX4_step_15 : decode cX4_step 15 = .ok (.iload_n 1, 1) := by decide +kernel
theorem dX4_step_16 : decode cX4_step 16 = .ok (.iaload, 1) := by decide +kernel
theorem dX4_step_17 : decode cX4_step 17 = .ok (.goto 4, 3) := by decide +kernel
theorem dX4_step_20 : decode cX4_step 20 = .ok (.iconst 0, 1) := by decide +kernel
theorem dX4_step_21 : decode cX4_step 21 = .ok (.ireturn, 1) := by decide +kernel
theorem dX4_weeksToWait_0 : decode cX4_weeksToWait 0 = .ok (.aload_n 0, 1) := by decide +kernel
theorem dX4_weeksToWait_1 : decode cX4_weeksToWait 1 = .ok (.iload_n 1, 1) := by decide +kernel
theorem dX4_weeksToWait_2 : decode cX4_weeksToWait 2 = .ok (.invokestatic 62, 3) := by decide +kernel
theorem dX4_weeksToWait_5 : decode cX4_weeksToWait 5 = .ok (.invokevirtual 45, 3) := by decide +kernel
theorem dX4_weeksToWait_8 : decode cX4_weeksToWait 8 = .ok (.ifCond .eq 11, 3) := by decide +kernel
theorem dX4_weeksToWait_11 : decode cX4_weeksToWait 11 = .ok (.aload_n 0, 1) := by decide +kernel
theorem dX4_weeksToWait_12 : decode cX4_weeksToWait 12 = .ok (.iload_n 1, 1) := by decide +kernel
theorem dX4_weeksToWait_13 : decode cX4_weeksToWait 13 = .ok (.invokevirtual 78, 3) := by decide +kernel
theorem dX4_weeksToWait_16 : decode cX4_weeksToWait 16 = .ok (.goto 4, 3) := by decide +kernel
theorem dX4_weeksToWait_19 : decode cX4_weeksToWait 19 = .ok (.iconst 0, 1) := by decide +kernel
theorem dX4_weeksToWait_20 : decode cX4_weeksToWait 20 = .ok (.ireturn, 1) := by decide +kernel
theorem dX4_sold_0 : decode cX4_sold 0 = .ok (.aload_n 0, 1) := by decide +kernel
theorem dX4_sold_1 : decode cX4_sold 1 = .ok (.iload_n 1, 1) := by decide +kernel
theorem dX4_sold_2 : decode cX4_sold 2 = .ok (.invokestatic 62, 3) := by decide +kernel
theorem dX4_sold_5 : decode cX4_sold 5 = .ok (.invokevirtual 45, 3) := by decide +kernel
theorem dX4_sold_8 : decode cX4_sold 8 = .ok (.ifCond .eq 12, 3) := by decide +kernel
theorem dX4_sold_11 : decode cX4_sold 11 = .ok (.aload_n 0, 1) := by decide +kernel
theorem dX4_sold_12 : decode cX4_sold 12 = .ok (.getfield 32, 3) := by decide +kernel
theorem dX4_sold_15 : decode cX4_sold 15 = .ok (.iload_n 1, 1) := by decide +kernel
theorem dX4_sold_16 : decode cX4_sold 16 = .ok (.iaload, 1) := by decide +kernel
theorem dX4_sold_17 : decode cX4_sold 17 = .ok (.goto 4, 3) := by decide +kernel
theorem dX4_sold_20 : decode cX4_sold 20 = .ok (.iconst 0, 1) := by decide +kernel
theorem dX4_sold_21 : decode cX4_sold 21 = .ok (.ireturn, 1) := by decide +kernel
theorem dX4_taken_0 : decode cX4_taken 0 = .ok (.aload_n 0, 1) := by decide +kernel
theorem dX4_taken_1 : decode cX4_taken 1 = .ok (.aload_n 0, 1) := by decide +kernel
theorem dX4_taken_2 : decode cX4_taken 2 = .ok (.getfield 52, 3) := by decide +kernel
theorem dX4_taken_5 : decode cX4_taken 5 = .ok (.invokevirtual 85, 3) := by decide +kernel
theorem dX4_taken_8 : decode cX4_taken 8 = .ok (.ireturn, 1) := by decide +kernel
theorem dX4_wouldSell_0 : decode cX4_wouldSell 0 = .ok (.aload_n 0, 1) := by decide +kernel
theorem dX4_wouldSell_1 : decode cX4_wouldSell 1 = .ok (.iload_n 1, 1) := by decide +kernel
theorem dX4_wouldSell_2 : decode cX4_wouldSell 2 = .ok (.invokestatic 62, 3) := by decide +kernel
theorem dX4_wouldSell_5 : decode cX4_wouldSell 5 = .ok (.ifCond .eq 14, 3) := by decide +kernel
theorem dX4_wouldSell_8 : decode cX4_wouldSell 8 = .ok (.iload_n 2, 1) := by decide +kernel
theorem dX4_wouldSell_9 : decode cX4_wouldSell 9 = .ok (.invokestatic 55, 3) := by decide +kernel
theorem dX4_wouldSell_12 : decode cX4_wouldSell 12 = .ok (.ifCond .eq 7, 3) := by decide +kernel
theorem dX4_wouldSell_15 : decode cX4_wouldSell 15 = .ok (.iconst 1, 1) := by decide +kernel
theorem dX4_wouldSell_16 : decode cX4_wouldSell 16 = .ok (.goto 4, 3) := by decide +kernel
theorem dX4_wouldSell_19 : decode cX4_wouldSell 19 = .ok (.iconst 0, 1) := by decide +kernel
theorem dX4_wouldSell_20 : decode cX4_wouldSell 20 = .ok (.invokevirtual 45, 3) := by decide +kernel
theorem dX4_wouldSell_23 : decode cX4_wouldSell 23 = .ok (.ifCond .eq 12, 3) := by decide +kernel
theorem dX4_wouldSell_26 : decode cX4_wouldSell 26 = .ok (.aload_n 0, 1) := by decide +kernel
theorem dX4_wouldSell_27 : decode cX4_wouldSell 27 = .ok (.iload_n 1, 1) := by decide +kernel
theorem dX4_wouldSell_28 : decode cX4_wouldSell 28 = .ok (.iload_n 2, 1) := by decide +kernel
theorem dX4_wouldSell_29 : decode cX4_wouldSell 29 = .ok (.invokevirtual 81, 3) := by decide +kernel
theorem dX4_wouldSell_32 : decode cX4_wouldSell 32 = .ok (.goto 4, 3) := by decide +kernel
theorem dX4_wouldSell_35 : decode cX4_wouldSell 35 = .ok (.iconst 0, 1) := by decide +kernel
theorem dX4_wouldSell_36 : decode cX4_wouldSell 36 = .ok (.ireturn, 1) := by decide +kernel
theorem dX4_at_0 : decode cX4_at 0 = .ok (.sipush 1525, 3) := by decide +kernel
theorem dX4_at_3 : decode cX4_at 3 = .ok (.iload_n 0, 1) := by decide +kernel
theorem dX4_at_4 : decode cX4_at 4 = .ok (.imul, 1) := by decide +kernel
theorem dX4_at_5 : decode cX4_at 5 = .ok (.iconst 5, 1) := by decide +kernel
theorem dX4_at_6 : decode cX4_at 6 = .ok (.iload_n 1, 1) := by decide +kernel
theorem dX4_at_7 : decode cX4_at 7 = .ok (.imul, 1) := by decide +kernel
theorem dX4_at_8 : decode cX4_at 8 = .ok (.iload_n 2, 1) := by decide +kernel
theorem dX4_at_9 : decode cX4_at 9 = .ok (.iadd, 1) := by decide +kernel
theorem dX4_at_10 : decode cX4_at 10 = .ok (.bipush 61, 2) := by decide +kernel
theorem dX4_at_12 : decode cX4_at 12 = .ok (.imul, 1) := by decide +kernel
theorem dX4_at_13 : decode cX4_at 13 = .ok (.iadd, 1) := by decide +kernel
theorem dX4_at_14 : decode cX4_at 14 = .ok (.iload_n 3, 1) := by decide +kernel
theorem dX4_at_15 : decode cX4_at 15 = .ok (.iadd, 1) := by decide +kernel
theorem dX4_at_16 : decode cX4_at 16 = .ok (.ireturn, 1) := by decide +kernel
theorem dX4_worthOf_0 : decode cX4_worthOf 0 = .ok (.iload 6, 2) := by decide +kernel
theorem dX4_worthOf_2 : decode cX4_worthOf 2 = .ok (.iload_n 3, 1) := by decide +kernel
theorem dX4_worthOf_3 : decode cX4_worthOf 3 = .ok (.if_icmp .le 10, 3) := by decide +kernel
theorem dX4_worthOf_6 : decode cX4_worthOf 6 = .ok (.iload 4, 2) := by decide +kernel
theorem dX4_worthOf_8 : decode cX4_worthOf 8 = .ok (.ifCond .le 5, 3) := by decide +kernel
theorem dX4_worthOf_11 : decode cX4_worthOf 11 = .ok (.iconst (-1), 1) := by decide +kernel
theorem dX4_worthOf_12 : decode cX4_worthOf 12 = .ok (.ireturn, 1) := by decide +kernel
theorem dX4_worthOf_13 : decode cX4_worthOf 13 = .ok (.aload_n 0, 1) := by decide +kernel
theorem dX4_worthOf_14 : decode cX4_worthOf 14 = .ok (.getfield 17, 3) := by decide +kernel
theorem dX4_worthOf_17 : decode cX4_worthOf 17 = .ok (.iconst 5, 1) := by decide +kernel
theorem dX4_worthOf_18 : decode cX4_worthOf 18 = .ok (.iload_n 1, 1) := by decide +kernel
theorem dX4_worthOf_19 : decode cX4_worthOf 19 = .ok (.imul, 1) := by decide +kernel
theorem dX4_worthOf_20 : decode cX4_worthOf 20 = .ok (.iload 6, 2) := by decide +kernel
theorem dX4_worthOf_22 : decode cX4_worthOf 22 = .ok (.iadd, 1) := by decide +kernel
theorem dX4_worthOf_23 : decode cX4_worthOf 23 = .ok (.iaload, 1) := by decide +kernel
theorem dX4_worthOf_24 : decode cX4_worthOf 24 = .ok (.iload 5, 2) := by decide +kernel
theorem dX4_worthOf_26 : decode cX4_worthOf 26 = .ok (.if_icmp .ge 17, 3) := by decide +kernel
theorem dX4_worthOf_29 : decode cX4_worthOf 29 = .ok (.aload_n 0, 1) := by decide +kernel
theorem dX4_worthOf_30 : decode cX4_worthOf 30 = .ok (.getfield 17, 3) := by decide +kernel
theorem dX4_worthOf_33 : decode cX4_worthOf 33 = .ok (.iconst 5, 1) := by decide +kernel
theorem dX4_worthOf_34 : decode cX4_worthOf 34 = .ok (.iload_n 1, 1) := by decide +kernel
theorem dX4_worthOf_35 : decode cX4_worthOf 35 = .ok (.imul, 1) := by decide +kernel
theorem dX4_worthOf_36 : decode cX4_worthOf 36 = .ok (.iload 6, 2) := by decide +kernel
theorem dX4_worthOf_38 : decode cX4_worthOf 38 = .ok (.iadd, 1) := by decide +kernel
theorem dX4_worthOf_39 : decode cX4_worthOf 39 = .ok (.iaload, 1) := by decide +kernel
theorem dX4_worthOf_40 : decode cX4_worthOf 40 = .ok (.goto 5, 3) := by decide +kernel
theorem dX4_worthOf_43 : decode cX4_worthOf 43 = .ok (.iload 5, 2) := by decide +kernel
theorem dX4_worthOf_45 : decode cX4_worthOf 45 = .ok (.istore 7, 2) := by decide +kernel
theorem dX4_worthOf_47 : decode cX4_worthOf 47 = .ok (.iload 6, 2) := by decide +kernel
theorem dX4_worthOf_49 : decode cX4_worthOf 49 = .ok (.iload_n 3, 1) := by decide +kernel
theorem dX4_worthOf_50 : decode cX4_worthOf 50 = .ok (.if_icmp .le 12, 3) := by decide +kernel
theorem dX4_worthOf_53 : decode cX4_worthOf 53 = .ok (.aload_n 0, 1) := by decide +kernel
theorem dX4_worthOf_54 : decode cX4_worthOf 54 = .ok (.getfield 20, 3) := by decide +kernel
theorem dX4_worthOf_57 : decode cX4_worthOf 57 = .ok (.iconst 1, 1) := by decide +kernel
theorem dX4_worthOf_58 : decode cX4_worthOf 58 = .ok (.isub, 1) := by decide +kernel
theorem dX4_worthOf_59 : decode cX4_worthOf 59 = .ok (.goto 16, 3) := by decide +kernel
theorem dX4_worthOf_62 : decode cX4_worthOf 62 = .ok (.iload 4, 2) := by decide +kernel
theorem dX4_worthOf_64 : decode cX4_worthOf 64 = .ok (.ifCond .le 10, 3) := by decide +kernel
theorem dX4_worthOf_67 : decode cX4_worthOf 67 = .ok (.iload 4, 2) := by decide +kernel
theorem dX4_worthOf_69 : decode cX4_worthOf 69 = .ok (.iconst 1, 1) := by decide +kernel
theorem dX4_worthOf_70 : decode cX4_worthOf 70 = .ok (.isub, 1) := by decide +kernel
theorem dX4_worthOf_71 : decode cX4_worthOf 71 = .ok (.goto 4, 3) := by decide +kernel
theorem dX4_worthOf_74 : decode cX4_worthOf 74 = .ok (.iconst 0, 1) := by decide +kernel
theorem dX4_worthOf_75 : decode cX4_worthOf 75 = .ok (.istore 8, 2) := by decide +kernel
theorem dX4_worthOf_77 : decode cX4_worthOf 77 = .ok (.aload_n 0, 1) := by decide +kernel
theorem dX4_worthOf_78 : decode cX4_worthOf 78 = .ok (.getfield 35, 3) := by decide +kernel
theorem dX4_worthOf_81 : decode cX4_worthOf 81 = .ok (.iload_n 2, 1) := by decide +kernel
theorem dX4_worthOf_82 : decode cX4_worthOf 82 = .ok (.iconst 1, 1) := by decide +kernel
theorem dX4_worthOf_83 : decode cX4_worthOf 83 = .ok (.iadd, 1) := by decide +kernel
theorem dX4_worthOf_84 : decode cX4_worthOf 84 = .ok (.iload 6, 2) := by decide +kernel
theorem dX4_worthOf_86 : decode cX4_worthOf 86 = .ok (.iload 8, 2) := by decide +kernel
theorem dX4_worthOf_88 : decode cX4_worthOf 88 = .ok (.iload 5, 2) := by decide +kernel
theorem dX4_worthOf_90 : decode cX4_worthOf 90 = .ok (.iload 7, 2) := by decide +kernel
theorem dX4_worthOf_92 : decode cX4_worthOf 92 = .ok (.isub, 1) := by decide +kernel
theorem dX4_worthOf_93 : decode cX4_worthOf 93 = .ok (.invokestatic 88, 3) := by decide +kernel
theorem dX4_worthOf_96 : decode cX4_worthOf 96 = .ok (.iaload, 1) := by decide +kernel
theorem dX4_worthOf_97 : decode cX4_worthOf 97 = .ok (.istore 9, 2) := by decide +kernel
theorem dX4_worthOf_99 : decode cX4_worthOf 99 = .ok (.iload 9, 2) := by decide +kernel
theorem dX4_worthOf_101 : decode cX4_worthOf 101 = .ok (.iconst (-1), 1) := by decide +kernel
theorem dX4_worthOf_102 : decode cX4_worthOf 102 = .ok (.if_icmp .ne 7, 3) := by decide +kernel
theorem dX4_worthOf_105 : decode cX4_worthOf 105 = .ok (.iconst (-1), 1) := by decide +kernel
theorem dX4_worthOf_106 : decode cX4_worthOf 106 = .ok (.goto 16, 3) := by decide +kernel
theorem dX4_worthOf_109 : decode cX4_worthOf 109 = .ok (.iload 9, 2) := by decide +kernel
theorem dX4_worthOf_111 : decode cX4_worthOf 111 = .ok (.iload 7, 2) := by decide +kernel
theorem dX4_worthOf_113 : decode cX4_worthOf 113 = .ok (.aload_n 0, 1) := by decide +kernel
theorem dX4_worthOf_114 : decode cX4_worthOf 114 = .ok (.getfield 13, 3) := by decide +kernel
theorem dX4_worthOf_117 : decode cX4_worthOf 117 = .ok (.iload 6, 2) := by decide +kernel
theorem dX4_worthOf_119 : decode cX4_worthOf 119 = .ok (.iaload, 1) := by decide +kernel
theorem dX4_worthOf_120 : decode cX4_worthOf 120 = .ok (.imul, 1) := by decide +kernel
theorem dX4_worthOf_121 : decode cX4_worthOf 121 = .ok (.iadd, 1) := by decide +kernel
theorem dX4_worthOf_122 : decode cX4_worthOf 122 = .ok (.ireturn, 1) := by decide +kernel
theorem dX4_finds_0 : decode cX4_finds 0 = .ok (.iconst 0, 1) := by decide +kernel
theorem dX4_finds_1 : decode cX4_finds 1 = .ok (.istore_n 3, 1) := by decide +kernel
theorem dX4_finds_2 : decode cX4_finds 2 = .ok (.iload_n 3, 1) := by decide +kernel
theorem dX4_finds_3 : decode cX4_finds 3 = .ok (.sipush 1525, 3) := by decide +kernel
theorem dX4_finds_6 : decode cX4_finds 6 = .ok (.if_icmp .ge 47, 3) := by decide +kernel
theorem dX4_finds_9 : decode cX4_finds 9 = .ok (.iload_n 3, 1) := by decide +kernel
theorem dX4_finds_10 : decode cX4_finds 10 = .ok (.bipush 61, 2) := by decide +kernel
theorem dX4_finds_12 : decode cX4_finds 12 = .ok (.irem, 1) := by decide +kernel
theorem dX4_finds_13 : decode cX4_finds 13 = .ok (.istore 4, 2) := by decide +kernel
theorem dX4_finds_15 : decode cX4_finds 15 = .ok (.aload_n 0, 1) := by decide +kernel
theorem dX4_finds_16 : decode cX4_finds 16 = .ok (.getfield 35, 3) := by decide +kernel
theorem dX4_finds_19 : decode cX4_finds 19 = .ok (.sipush 1525, 3) := by decide +kernel
theorem dX4_finds_22 : decode cX4_finds 22 = .ok (.aload_n 0, 1) := by decide +kernel
theorem dX4_finds_23 : decode cX4_finds 23 = .ok (.getfield 7, 3) := by decide +kernel
theorem dX4_finds_26 : decode cX4_finds 26 = .ok (.imul, 1) := by decide +kernel
theorem dX4_finds_27 : decode cX4_finds 27 = .ok (.iload_n 3, 1) := by decide +kernel
theorem dX4_finds_28 : decode cX4_finds 28 = .ok (.iadd, 1) := by decide +kernel
theorem dX4_finds_29 : decode cX4_finds 29 = .ok (.iload 4, 2) := by decide +kernel
theorem dX4_finds_31 : decode cX4_finds 31 = .ok (.iload_n 2, 1) := by decide +kernel
theorem dX4_finds_32 : decode cX4_finds 32 = .ok (.if_icmp .gt 13, 3) := by decide +kernel
theorem dX4_finds_35 : decode cX4_finds 35 = .ok (.iload 4, 2) := by decide +kernel
theorem dX4_finds_37 : decode cX4_finds 37 = .ok (.aload_n 0, 1) := by decide +kernel
theorem dX4_finds_38 : decode cX4_finds 38 = .ok (.getfield 65, 3) := by decide +kernel
theorem dX4_finds_41 : decode cX4_finds 41 = .ok (.imul, 1) := by decide +kernel
theorem dX4_finds_42 : decode cX4_finds 42 = .ok (.goto 4, 3) := by decide +kernel
theorem dX4_finds_45 : decode cX4_finds 45 = .ok (.iconst (-1), 1) := by decide +kernel
theorem dX4_finds_46 : decode cX4_finds 46 = .ok (.iastore, 1) := by decide +kernel
theorem dX4_finds_47 : decode cX4_finds 47 = .ok (.iinc 3 1, 3) := by decide +kernel
theorem dX4_finds_50 : decode cX4_finds 50 = .ok (.goto (-48), 3) := by decide +kernel
theorem dX4_finds_53 : decode cX4_finds 53 = .ok (.aload_n 0, 1) := by decide +kernel
theorem dX4_finds_54 : decode cX4_finds 54 = .ok (.getfield 7, 3) := by decide +kernel
theorem dX4_finds_57 : decode cX4_finds 57 = .ok (.iconst 1, 1) := by decide +kernel
theorem dX4_finds_58 : decode cX4_finds 58 = .ok (.isub, 1) := by decide +kernel
theorem dX4_finds_59 : decode cX4_finds 59 = .ok (.istore_n 3, 1) := by decide +kernel
theorem dX4_finds_60 : decode cX4_finds 60 = .ok (.iload_n 3, 1) := by decide +kernel
theorem dX4_finds_61 : decode cX4_finds 61 = .ok (.aload_n 0, 1) := by decide +kernel
theorem dX4_finds_62 : decode cX4_finds 62 = .ok (.getfield 49, 3) := by decide +kernel
theorem dX4_finds_65 : decode cX4_finds 65 = .ok (.if_icmp .lt 109, 3) := by decide +kernel
theorem dX4_finds_68 : decode cX4_finds 68 = .ok (.iconst 0, 1) := by decide +kernel
theorem dX4_finds_69 : decode cX4_finds 69 = .ok (.istore 4, 2) := by decide +kernel
theorem dX4_finds_71 : decode cX4_finds 71 = .ok (.iload 4, 2) := by decide +kernel
theorem dX4_finds_73 : decode cX4_finds 73 = .ok (.sipush 1525, 3) := by decide +kernel
theorem dX4_finds_76 : decode cX4_finds 76 = .ok (.if_icmp .ge 92, 3) := by decide +kernel
theorem dX4_finds_79 : decode cX4_finds 79 = .ok (.iload 4, 2) := by decide +kernel
theorem dX4_finds_81 : decode cX4_finds 81 = .ok (.bipush 61, 2) := by decide +kernel
theorem dX4_finds_83 : decode cX4_finds 83 = .ok (.idiv, 1) := by decide +kernel
theorem dX4_finds_84 : decode cX4_finds 84 = .ok (.iconst 5, 1) := by decide +kernel
theorem dX4_finds_85 : decode cX4_finds 85 = .ok (.idiv, 1) := by decide +kernel
theorem dX4_finds_86 : decode cX4_finds 86 = .ok (.istore 5, 2) := by decide +kernel
theorem dX4_finds_88 : decode cX4_finds 88 = .ok (.iconst (-1), 1) := by decide +kernel
theorem dX4_finds_89 : decode cX4_finds 89 = .ok (.istore 6, 2) := by decide +kernel
theorem dX4_finds_91 : decode cX4_finds 91 = .ok (.iload 5, 2) := by decide +kernel
theorem dX4_finds_93 : decode cX4_finds 93 = .ok (.istore 7, 2) := by decide +kernel
theorem dX4_finds_95 : decode cX4_finds 95 = .ok (.iload 7, 2) := by decide +kernel
theorem dX4_finds_97 : decode cX4_finds 97 = .ok (.iconst 5, 1) := by decide +kernel
theorem dX4_finds_98 : decode cX4_finds 98 = .ok (.if_icmp .ge 49, 3) := by decide +kernel
theorem dX4_finds_101 : decode cX4_finds 101 = .ok (.aload_n 0, 1) := by decide +kernel
theorem dX4_finds_102 : decode cX4_finds 102 = .ok (.iload_n 1, 1) := by decide +kernel
theorem dX4_finds_103 : decode cX4_finds 103 = .ok (.iload_n 3, 1) := by decide +kernel
theorem dX4_finds_104 : decode cX4_finds 104 = .ok (.iload 5, 2) := by decide +kernel
theorem dX4_finds_106 : decode cX4_finds 106 = .ok (.iload 4, 2) := by decide +kernel
theorem dX4_finds_108 : decode cX4_finds 108 = .ok (.bipush 61, 2) := by decide +kernel
theorem dX4_finds_110 : decode cX4_finds 110 = .ok (.idiv, 1) := by decide +kernel
theorem dX4_finds_111 : decode cX4_finds 111 = .ok (.iconst 5, 1) := by decide +kernel
theorem dX4_finds_112 : decode cX4_finds 112 = .ok (.irem, 1) := by decide +kernel
theorem dX4_finds_113 : decode cX4_finds 113 = .ok (.iload 4, 2) := by decide +kernel
theorem dX4_finds_115 : decode cX4_finds 115 = .ok (.bipush 61, 2) := by decide +kernel
theorem dX4_finds_117 : decode cX4_finds 117 = .ok (.irem, 1) := by decide +kernel
theorem dX4_finds_118 : decode cX4_finds 118 = .ok (.iload 7, 2) := by decide +kernel
theorem dX4_finds_120 : decode cX4_finds 120 = .ok (.invokevirtual 92, 3) := by decide +kernel
theorem dX4_finds_123 : decode cX4_finds 123 = .ok (.istore 8, 2) := by decide +kernel
theorem dX4_finds_125 : decode cX4_finds 125 = .ok (.iload 8, 2) := by decide +kernel
theorem dX4_finds_127 : decode cX4_finds 127 = .ok (.iload 6, 2) := by decide +kernel
theorem dX4_finds_129 : decode cX4_finds 129 = .ok (.if_icmp .le 8, 3) := by decide +kernel
theorem dX4_finds_132 : decode cX4_finds 132 = .ok (.iload 8, 2) := by decide +kernel
theorem dX4_finds_134 : decode cX4_finds 134 = .ok (.goto 5, 3) := by decide +kernel
theorem dX4_finds_137 : decode cX4_finds 137 = .ok (.iload 6, 2) := by decide +kernel
theorem dX4_finds_139 : decode cX4_finds 139 = .ok (.istore 6, 2) := by decide +kernel
theorem dX4_finds_141 : decode cX4_finds 141 = .ok (.iinc 7 1, 3) := by decide +kernel
theorem dX4_finds_144 : decode cX4_finds 144 = .ok (.goto (-49), 3) := by decide +kernel
theorem dX4_finds_147 : decode cX4_finds 147 = .ok (.aload_n 0, 1) := by decide +kernel
theorem dX4_finds_148 : decode cX4_finds 148 = .ok (.getfield 35, 3) := by decide +kernel
theorem dX4_finds_151 : decode cX4_finds 151 = .ok (.sipush 1525, 3) := by decide +kernel
theorem dX4_finds_154 : decode cX4_finds 154 = .ok (.iload_n 3, 1) := by decide +kernel
theorem dX4_finds_155 : decode cX4_finds 155 = .ok (.imul, 1) := by decide +kernel
theorem dX4_finds_156 : decode cX4_finds 156 = .ok (.iload 4, 2) := by decide +kernel
theorem dX4_finds_158 : decode cX4_finds 158 = .ok (.iadd, 1) := by decide +kernel
theorem dX4_finds_159 : decode cX4_finds 159 = .ok (.iload 6, 2) := by decide +kernel
theorem dX4_finds_161 : decode cX4_finds 161 = .ok (.iastore, 1) := by decide +kernel
theorem dX4_finds_162 : decode cX4_finds 162 = .ok (.iinc 4 1, 3) := by decide +kernel
theorem dX4_finds_165 : decode cX4_finds 165 = .ok (.goto (-94), 3) := by decide +kernel
theorem dX4_finds_168 : decode cX4_finds 168 = .ok (.iinc 3 (-1), 3) := by decide +kernel
theorem dX4_finds_171 : decode cX4_finds 171 = .ok (.goto (-111), 3) := by decide +kernel
theorem dX4_finds_174 : decode cX4_finds 174 = .ok (.aload_n 0, 1) := by decide +kernel
theorem dX4_finds_175 : decode cX4_finds 175 = .ok (.getfield 35, 3) := by decide +kernel
theorem dX4_finds_178 : decode cX4_finds 178 = .ok (.aload_n 0, 1) := by decide +kernel
theorem dX4_finds_179 : decode cX4_finds 179 = .ok (.getfield 49, 3) := by decide +kernel
theorem dX4_finds_182 : decode cX4_finds 182 = .ok (.aload_n 0, 1) := by decide +kernel
theorem dX4_finds_183 : decode cX4_finds 183 = .ok (.getfield 26, 3) := by decide +kernel
theorem dX4_finds_186 : decode cX4_finds 186 = .ok (.iload_n 1, 1) := by decide +kernel
theorem dX4_finds_187 : decode cX4_finds 187 = .ok (.iaload, 1) := by decide +kernel
theorem dX4_finds_188 : decode cX4_finds 188 = .ok (.aload_n 0, 1) := by decide +kernel
theorem dX4_finds_189 : decode cX4_finds 189 = .ok (.iload_n 1, 1) := by decide +kernel
theorem dX4_finds_190 : decode cX4_finds 190 = .ok (.invokevirtual 78, 3) := by decide +kernel
theorem dX4_finds_193 : decode cX4_finds 193 = .ok (.aload_n 0, 1) := by decide +kernel
theorem dX4_finds_194 : decode cX4_finds 194 = .ok (.iload_n 1, 1) := by decide +kernel
theorem dX4_finds_195 : decode cX4_finds 195 = .ok (.invokevirtual 74, 3) := by decide +kernel
theorem dX4_finds_198 : decode cX4_finds 198 = .ok (.invokestatic 88, 3) := by decide +kernel
theorem dX4_finds_201 : decode cX4_finds 201 = .ok (.iaload, 1) := by decide +kernel
theorem dX4_finds_202 : decode cX4_finds 202 = .ok (.ireturn, 1) := by decide +kernel
theorem dX4_best_0 : decode cX4_best 0 = .ok (.aload_n 0, 1) := by decide +kernel
theorem dX4_best_1 : decode cX4_best 1 = .ok (.iload_n 1, 1) := by decide +kernel
theorem dX4_best_2 : decode cX4_best 2 = .ok (.invokestatic 62, 3) := by decide +kernel
theorem dX4_best_5 : decode cX4_best 5 = .ok (.invokevirtual 45, 3) := by decide +kernel
theorem dX4_best_8 : decode cX4_best 8 = .ok (.ifCond .eq 13, 3) := by decide +kernel
theorem dX4_best_11 : decode cX4_best 11 = .ok (.aload_n 0, 1) := by decide +kernel
theorem dX4_best_12 : decode cX4_best 12 = .ok (.iload_n 1, 1) := by decide +kernel
theorem dX4_best_13 : decode cX4_best 13 = .ok (.bipush 60, 2) := by decide +kernel
theorem dX4_best_15 : decode cX4_best 15 = .ok (.invokevirtual 96, 3) := by decide +kernel
theorem dX4_best_18 : decode cX4_best 18 = .ok (.goto 4, 3) := by decide +kernel
theorem dX4_best_21 : decode cX4_best 21 = .ok (.iconst 0, 1) := by decide +kernel
theorem dX4_best_22 : decode cX4_best 22 = .ok (.ireturn, 1) := by decide +kernel
theorem dX4_bestByAll_0 : decode cX4_bestByAll 0 = .ok (.iload_n 1, 1) := by decide +kernel
theorem dX4_bestByAll_1 : decode cX4_bestByAll 1 = .ok (.invokestatic 62, 3) := by decide +kernel
theorem dX4_bestByAll_4 : decode cX4_bestByAll 4 = .ok (.istore_n 2, 1) := by decide +kernel
theorem dX4_bestByAll_5 : decode cX4_bestByAll 5 = .ok (.aload_n 0, 1) := by decide +kernel
theorem dX4_bestByAll_6 : decode cX4_bestByAll 6 = .ok (.iload_n 2, 1) := by decide +kernel
theorem dX4_bestByAll_7 : decode cX4_bestByAll 7 = .ok (.aload_n 0, 1) := by decide +kernel
theorem dX4_bestByAll_8 : decode cX4_bestByAll 8 = .ok (.getfield 7, 3) := by decide +kernel
theorem dX4_bestByAll_11 : decode cX4_bestByAll 11 = .ok (.aload_n 0, 1) := by decide +kernel
theorem dX4_bestByAll_12 : decode cX4_bestByAll 12 = .ok (.getfield 49, 3) := by decide +kernel
theorem dX4_bestByAll_15 : decode cX4_bestByAll 15 = .ok (.isub, 1) := by decide +kernel
theorem dX4_bestByAll_16 : decode cX4_bestByAll 16 = .ok (.bipush 6, 2) := by decide +kernel
theorem dX4_bestByAll_18 : decode cX4_bestByAll 18 = .ok (.if_icmp .gt 7, 3) := by decide +kernel
theorem dX4_bestByAll_21 : decode cX4_bestByAll 21 = .ok (.iconst 1, 1) := by decide +kernel
theorem dX4_bestByAll_22 : decode cX4_bestByAll 22 = .ok (.goto 4, 3) := by decide +kernel
theorem dX4_bestByAll_25 : decode cX4_bestByAll 25 = .ok (.iconst 0, 1) := by decide +kernel
theorem dX4_bestByAll_26 : decode cX4_bestByAll 26 = .ok (.invokevirtual 59, 3) := by decide +kernel
theorem dX4_bestByAll_29 : decode cX4_bestByAll 29 = .ok (.ifCond .eq 13, 3) := by decide +kernel
theorem dX4_bestByAll_32 : decode cX4_bestByAll 32 = .ok (.aload_n 0, 1) := by decide +kernel
theorem dX4_bestByAll_33 : decode cX4_bestByAll 33 = .ok (.iload_n 1, 1) := by decide +kernel
theorem dX4_bestByAll_34 : decode cX4_bestByAll 34 = .ok (.bipush 60, 2) := by decide +kernel
theorem dX4_bestByAll_36 : decode cX4_bestByAll 36 = .ok (.invokevirtual 96, 3) := by decide +kernel
theorem dX4_bestByAll_39 : decode cX4_bestByAll 39 = .ok (.goto 4, 3) := by decide +kernel
theorem dX4_bestByAll_42 : decode cX4_bestByAll 42 = .ok (.iconst 0, 1) := by decide +kernel
theorem dX4_bestByAll_43 : decode cX4_bestByAll 43 = .ok (.ireturn, 1) := by decide +kernel
theorem dX4_planned_0 : decode cX4_planned 0 = .ok (.aload_n 0, 1) := by decide +kernel
theorem dX4_planned_1 : decode cX4_planned 1 = .ok (.iload_n 1, 1) := by decide +kernel
theorem dX4_planned_2 : decode cX4_planned 2 = .ok (.invokestatic 62, 3) := by decide +kernel
theorem dX4_planned_5 : decode cX4_planned 5 = .ok (.ifCond .eq 24, 3) := by decide +kernel
theorem dX4_planned_8 : decode cX4_planned 8 = .ok (.iload_n 2, 1) := by decide +kernel
theorem dX4_planned_9 : decode cX4_planned 9 = .ok (.aload_n 0, 1) := by decide +kernel
theorem dX4_planned_10 : decode cX4_planned 10 = .ok (.getfield 49, 3) := by decide +kernel
theorem dX4_planned_13 : decode cX4_planned 13 = .ok (.aload_n 0, 1) := by decide +kernel
theorem dX4_planned_14 : decode cX4_planned 14 = .ok (.getfield 7, 3) := by decide +kernel
theorem dX4_planned_17 : decode cX4_planned 17 = .ok (.iconst 1, 1) := by decide +kernel
theorem dX4_planned_18 : decode cX4_planned 18 = .ok (.isub, 1) := by decide +kernel
theorem dX4_planned_19 : decode cX4_planned 19 = .ok (.invokestatic 41, 3) := by decide +kernel
theorem dX4_planned_22 : decode cX4_planned 22 = .ok (.ifCond .eq 7, 3) := by decide +kernel
theorem dX4_planned_25 : decode cX4_planned 25 = .ok (.iconst 1, 1) := by decide +kernel
theorem dX4_planned_26 : decode cX4_planned 26 = .ok (.goto 4, 3) := by decide +kernel
theorem dX4_planned_29 : decode cX4_planned 29 = .ok (.iconst 0, 1) := by decide +kernel
theorem dX4_planned_30 : decode cX4_planned 30 = .ok (.invokevirtual 45, 3) := by decide +kernel
theorem dX4_planned_33 : decode cX4_planned 33 = .ok (.ifCond .ne 5, 3) := by decide +kernel
theorem dX4_planned_36 : decode cX4_planned 36 = .ok (.iconst 0, 1) := by decide +kernel
theorem dX4_planned_37 : decode cX4_planned 37 = .ok (.ireturn, 1) := by decide +kernel
theorem dX4_planned_38 : decode cX4_planned 38 = .ok (.aload_n 0, 1) := by decide +kernel
theorem dX4_planned_39 : decode cX4_planned 39 = .ok (.iload_n 1, 1) := by decide +kernel
theorem dX4_planned_40 : decode cX4_planned 40 = .ok (.bipush 60, 2) := by decide +kernel
theorem dX4_planned_42 : decode cX4_planned 42 = .ok (.invokevirtual 96, 3) := by decide +kernel
theorem dX4_planned_45 : decode cX4_planned 45 = .ok (.istore_n 3, 1) := by decide +kernel
theorem dX4_planned_46 : decode cX4_planned 46 = .ok (.aload_n 0, 1) := by decide +kernel
theorem dX4_planned_47 : decode cX4_planned 47 = .ok (.getfield 26, 3) := by decide +kernel
theorem dX4_planned_50 : decode cX4_planned 50 = .ok (.iload_n 1, 1) := by decide +kernel
theorem dX4_planned_51 : decode cX4_planned 51 = .ok (.iaload, 1) := by decide +kernel
theorem dX4_planned_52 : decode cX4_planned 52 = .ok (.istore 4, 2) := by decide +kernel
theorem dX4_planned_54 : decode cX4_planned 54 = .ok (.aload_n 0, 1) := by decide +kernel
theorem dX4_planned_55 : decode cX4_planned 55 = .ok (.iload_n 1, 1) := by decide +kernel
theorem dX4_planned_56 : decode cX4_planned 56 = .ok (.invokevirtual 78, 3) := by decide +kernel
theorem dX4_planned_59 : decode cX4_planned 59 = .ok (.istore 5, 2) := by decide +kernel
theorem dX4_planned_61 : decode cX4_planned 61 = .ok (.aload_n 0, 1) := by decide +kernel
theorem dX4_planned_62 : decode cX4_planned 62 = .ok (.iload_n 1, 1) := by decide +kernel
theorem dX4_planned_63 : decode cX4_planned 63 = .ok (.invokevirtual 74, 3) := by decide +kernel
theorem dX4_planned_66 : decode cX4_planned 66 = .ok (.istore 6, 2) := by decide +kernel
theorem dX4_planned_68 : decode cX4_planned 68 = .ok (.aload_n 0, 1) := by decide +kernel
theorem dX4_planned_69 : decode cX4_planned 69 = .ok (.getfield 49, 3) := by decide +kernel
theorem dX4_planned_72 : decode cX4_planned 72 = .ok (.istore 7, 2) := by decide +kernel
theorem dX4_planned_74 : decode cX4_planned 74 = .ok (.iload 7, 2) := by decide +kernel
theorem dX4_planned_76 : decode cX4_planned 76 = .ok (.iload_n 2, 1) := by decide +kernel
theorem dX4_planned_77 : decode cX4_planned 77 = .ok (.if_icmp .gt 123, 3) := by decide +kernel
theorem dX4_planned_80 : decode cX4_planned 80 = .ok (.iload 4, 2) := by decide +kernel
theorem dX4_planned_82 : decode cX4_planned 82 = .ok (.istore 8, 2) := by decide +kernel
theorem dX4_planned_84 : decode cX4_planned 84 = .ok (.aload_n 0, 1) := by decide +kernel
theorem dX4_planned_85 : decode cX4_planned 85 = .ok (.iload_n 1, 1) := by decide +kernel
theorem dX4_planned_86 : decode cX4_planned 86 = .ok (.iload 7, 2) := by decide +kernel
theorem dX4_planned_88 : decode cX4_planned 88 = .ok (.iload 8, 2) := by decide +kernel
theorem dX4_planned_90 : decode cX4_planned 90 = .ok (.iload 5, 2) := by decide +kernel
theorem dX4_planned_92 : decode cX4_planned 92 = .ok (.iload 6, 2) := by decide +kernel
theorem dX4_planned_94 : decode cX4_planned 94 = .ok (.iload 4, 2) := by decide +kernel
theorem dX4_planned_96 : decode cX4_planned 96 = .ok (.invokevirtual 92, 3) := by decide +kernel
theorem dX4_planned_99 : decode cX4_planned 99 = .ok (.iload_n 3, 1) := by decide +kernel
theorem dX4_planned_100 : decode cX4_planned 100 = .ok (.if_icmp .eq 9, 3) := by decide +kernel
theorem dX4_planned_103 : decode cX4_planned 103 = .ok (.iinc 4 1, 3) := by decide +kernel
theorem dX4_planned_106 : decode cX4_planned 106 = .ok (.goto (-22), 3) := by decide +kernel
theorem dX4_planned_109 : decode cX4_planned 109 = .ok (.aload_n 0, 1) := by decide +kernel
theorem dX4_planned_110 : decode cX4_planned 110 = .ok (.getfield 17, 3) := by decide +kernel
theorem dX4_planned_113 : decode cX4_planned 113 = .ok (.iconst 5, 1) := by decide +kernel
theorem dX4_planned_114 : decode cX4_planned 114 = .ok (.iload_n 1, 1) := by decide +kernel
theorem dX4_planned_115 : decode cX4_planned 115 = .ok (.imul, 1) := by decide +kernel
theorem dX4_planned_116 : decode cX4_planned 116 = .ok (.iload 4, 2) := by decide +kernel
theorem dX4_planned_118 : decode cX4_planned 118 = .ok (.iadd, 1) := by decide +kernel
theorem dX4_planned_119 : decode cX4_planned 119 = .ok (.iaload, 1) := by decide +kernel
theorem dX4_planned_120 : decode cX4_planned 120 = .ok (.iload 6, 2) := by decide +kernel
theorem dX4_planned_122 : decode cX4_planned 122 = .ok (.if_icmp .ge 17, 3) := by decide +kernel
theorem dX4_planned_125 : decode cX4_planned 125 = .ok (.aload_n 0, 1) := by decide +kernel
theorem dX4_planned_126 : decode cX4_planned 126 = .ok (.getfield 17, 3) := by decide +kernel
theorem dX4_planned_129 : decode cX4_planned 129 = .ok (.iconst 5, 1) := by decide +kernel
theorem dX4_planned_130 : decode cX4_planned 130 = .ok (.iload_n 1, 1) := by decide +kernel
theorem dX4_planned_131 : decode cX4_planned 131 = .ok (.imul, 1) := by decide +kernel
theorem dX4_planned_132 : decode cX4_planned 132 = .ok (.iload 4, 2) := by decide +kernel
theorem dX4_planned_134 : decode cX4_planned 134 = .ok (.iadd, 1) := by decide +kernel
theorem dX4_planned_135 : decode cX4_planned 135 = .ok (.iaload, 1) := by decide +kernel
theorem dX4_planned_136 : decode cX4_planned 136 = .ok (.goto 5, 3) := by decide +kernel
theorem dX4_planned_139 : decode cX4_planned 139 = .ok (.iload 6, 2) := by decide +kernel
theorem dX4_planned_141 : decode cX4_planned 141 = .ok (.istore 9, 2) := by decide +kernel
theorem dX4_planned_143 : decode cX4_planned 143 = .ok (.iload_n 3, 1) := by decide +kernel
theorem dX4_planned_144 : decode cX4_planned 144 = .ok (.iload 9, 2) := by decide +kernel
theorem dX4_planned_146 : decode cX4_planned 146 = .ok (.aload_n 0, 1) := by decide +kernel
theorem dX4_planned_147 : decode cX4_planned 147 = .ok (.getfield 13, 3) := by decide +kernel
theorem dX4_planned_150 : decode cX4_planned 150 = .ok (.iload 4, 2) := by decide +kernel
theorem dX4_planned_152 : decode cX4_planned 152 = .ok (.iaload, 1) := by decide +kernel
theorem dX4_planned_153 : decode cX4_planned 153 = .ok (.imul, 1) := by decide +kernel
theorem dX4_planned_154 : decode cX4_planned 154 = .ok (.isub, 1) := by decide +kernel
theorem dX4_planned_155 : decode cX4_planned 155 = .ok (.istore_n 3, 1) := by decide +kernel
theorem dX4_planned_156 : decode cX4_planned 156 = .ok (.iload 6, 2) := by decide +kernel
theorem dX4_planned_158 : decode cX4_planned 158 = .ok (.iload 9, 2) := by decide +kernel
theorem dX4_planned_160 : decode cX4_planned 160 = .ok (.isub, 1) := by decide +kernel
theorem dX4_planned_161 : decode cX4_planned 161 = .ok (.istore 6, 2) := by decide +kernel
theorem dX4_planned_163 : decode cX4_planned 163 = .ok (.iload 4, 2) := by decide +kernel
theorem dX4_planned_165 : decode cX4_planned 165 = .ok (.iload 8, 2) := by decide +kernel
theorem dX4_planned_167 : decode cX4_planned 167 = .ok (.if_icmp .le 12, 3) := by decide +kernel
theorem dX4_planned_170 : decode cX4_planned 170 = .ok (.aload_n 0, 1) := by decide +kernel
theorem dX4_planned_171 : decode cX4_planned 171 = .ok (.getfield 20, 3) := by decide +kernel
theorem dX4_planned_174 : decode cX4_planned 174 = .ok (.iconst 1, 1) := by decide +kernel
theorem dX4_planned_175 : decode cX4_planned 175 = .ok (.isub, 1) := by decide +kernel
theorem dX4_planned_176 : decode cX4_planned 176 = .ok (.goto 16, 3) := by decide +kernel
theorem dX4_planned_179 : decode cX4_planned 179 = .ok (.iload 5, 2) := by decide +kernel
theorem dX4_planned_181 : decode cX4_planned 181 = .ok (.ifCond .le 10, 3) := by decide +kernel
theorem dX4_planned_184 : decode cX4_planned 184 = .ok (.iload 5, 2) := by decide +kernel
theorem dX4_planned_186 : decode cX4_planned 186 = .ok (.iconst 1, 1) := by decide +kernel
theorem dX4_planned_187 : decode cX4_planned 187 = .ok (.isub, 1) := by decide +kernel
theorem dX4_planned_188 : decode cX4_planned 188 = .ok (.goto 4, 3) := by decide +kernel
theorem dX4_planned_191 : decode cX4_planned 191 = .ok (.iconst 0, 1) := by decide +kernel
theorem dX4_planned_192 : decode cX4_planned 192 = .ok (.istore 5, 2) := by decide +kernel
theorem dX4_planned_194 : decode cX4_planned 194 = .ok (.iinc 7 1, 3) := by decide +kernel
theorem dX4_planned_197 : decode cX4_planned 197 = .ok (.goto (-123), 3) := by decide +kernel
theorem dX4_planned_200 : decode cX4_planned 200 = .ok (.iload 4, 2) := by decide +kernel
theorem dX4_planned_202 : decode cX4_planned 202 = .ok (.ireturn, 1) := by decide +kernel
theorem dX4_bestLeaving_0 : decode cX4_bestLeaving 0 = .ok (.aload_n 0, 1) := by decide +kernel
theorem dX4_bestLeaving_1 : decode cX4_bestLeaving 1 = .ok (.iload_n 1, 1) := by decide +kernel
theorem dX4_bestLeaving_2 : decode cX4_bestLeaving 2 = .ok (.invokestatic 62, 3) := by decide +kernel
theorem dX4_bestLeaving_5 : decode cX4_bestLeaving 5 = .ok (.ifCond .eq 17, 3) := by decide +kernel
theorem dX4_bestLeaving_8 : decode cX4_bestLeaving 8 = .ok (.iload_n 2, 1) := by decide +kernel
theorem dX4_bestLeaving_9 : decode cX4_bestLeaving 9 = .ok (.iconst 0, 1) := by decide +kernel
theorem dX4_bestLeaving_10 : decode cX4_bestLeaving 10 = .ok (.bipush 60, 2) := by decide +kernel
theorem dX4_bestLeaving_12 : decode cX4_bestLeaving 12 = .ok (.invokestatic 41, 3) := by decide +kernel
theorem dX4_bestLeaving_15 : decode cX4_bestLeaving 15 = .ok (.ifCond .eq 7, 3) := by decide +kernel
theorem dX4_bestLeaving_18 : decode cX4_bestLeaving 18 = .ok (.iconst 1, 1) := by decide +kernel
theorem dX4_bestLeaving_19 : decode cX4_bestLeaving 19 = .ok (.goto 4, 3) := by decide +kernel
theorem dX4_bestLeaving_22 : decode cX4_bestLeaving 22 = .ok (.iconst 0, 1) := by decide +kernel
theorem dX4_bestLeaving_23 : decode cX4_bestLeaving 23 = .ok (.invokevirtual 45, 3) := by decide +kernel
theorem dX4_bestLeaving_26 : decode cX4_bestLeaving 26 = .ok (.ifCond .eq 12, 3) := by decide +kernel
theorem dX4_bestLeaving_29 : decode cX4_bestLeaving 29 = .ok (.aload_n 0, 1) := by decide +kernel
theorem dX4_bestLeaving_30 : decode cX4_bestLeaving 30 = .ok (.iload_n 1, 1) := by decide +kernel
theorem dX4_bestLeaving_31 : decode cX4_bestLeaving 31 = .ok (.iload_n 2, 1) := by decide +kernel
theorem dX4_bestLeaving_32 : decode cX4_bestLeaving 32 = .ok (.invokevirtual 96, 3) := by decide +kernel
theorem dX4_bestLeaving_35 : decode cX4_bestLeaving 35 = .ok (.goto 4, 3) := by decide +kernel
theorem dX4_bestLeaving_38 : decode cX4_bestLeaving 38 = .ok (.iconst 0, 1) := by decide +kernel
theorem dX4_bestLeaving_39 : decode cX4_bestLeaving 39 = .ok (.ireturn, 1) := by decide +kernel
theorem dL_begin_0 : decode cL_begin 0 = .ok (.aload_n 2, 1) := by decide +kernel
theorem dL_begin_1 : decode cL_begin 1 = .ok (.iconst 0, 1) := by decide +kernel
theorem dL_begin_2 : decode cL_begin 2 = .ok (.aload_n 0, 1) := by decide +kernel
theorem dL_begin_3 : decode cL_begin 3 = .ok (.iload_n 1, 1) := by decide +kernel
theorem dL_begin_4 : decode cL_begin 4 = .ok (.invokevirtual 7, 3) := by decide +kernel
theorem dL_begin_7 : decode cL_begin 7 = .ok (.i2l, 1) := by decide +kernel
theorem dL_begin_8 : decode cL_begin 8 = .ok (.lastore, 1) := by decide +kernel
theorem dL_begin_9 : decode cL_begin 9 = .ok (.goto 6, 3) := by decide +kernel
theorem dL_begin_12 : decode cL_begin 12 = .ok (.astore_n 3, 1) := by decide +kernel
theorem dL_begin_13 : decode cL_begin 13 = .ok (.iconst 1, 1) := by decide +kernel
theorem dL_begin_14 : decode cL_begin 14 = .ok (.ireturn, 1) := by decide +kernel
theorem dL_begin_15 : decode cL_begin 15 = .ok (.iconst 0, 1) := by decide +kernel
theorem dL_begin_16 : decode cL_begin 16 = .ok (.ireturn, 1) := by decide +kernel
theorem dL_setPrice_0 : decode cL_setPrice 0 = .ok (.aload_n 3, 1) := by decide +kernel
theorem dL_setPrice_1 : decode cL_setPrice 1 = .ok (.iconst 0, 1) := by decide +kernel
theorem dL_setPrice_2 : decode cL_setPrice 2 = .ok (.aload_n 0, 1) := by decide +kernel
theorem dL_setPrice_3 : decode cL_setPrice 3 = .ok (.iload_n 1, 1) := by decide +kernel
theorem dL_setPrice_4 : decode cL_setPrice 4 = .ok (.iload_n 2, 1) := by decide +kernel
theorem dL_setPrice_5 : decode cL_setPrice 5 = .ok (.invokevirtual 15, 3) := by decide +kernel
theorem dL_setPrice_8 : decode cL_setPrice 8 = .ok (.i2l, 1) := by decide +kernel
theorem dL_setPrice_9 : decode cL_setPrice 9 = .ok (.lastore, 1) := by decide +kernel
theorem dL_setPrice_10 : decode cL_setPrice 10 = .ok (.goto 11, 3) := by decide +kernel
theorem dL_setPrice_13 : decode cL_setPrice 13 = .ok (.astore 4, 2) := by decide +kernel
theorem dL_setPrice_15 : decode cL_setPrice 15 = .ok (.iconst 1, 1) := by decide +kernel
theorem dL_setPrice_16 : decode cL_setPrice 16 = .ok (.ireturn, 1) := by decide +kernel
theorem dL_setPrice_17 : decode cL_setPrice 17 = .ok (.astore 4, 2) := by decide +kernel
theorem dL_setPrice_19 : decode cL_setPrice 19 = .ok (.iconst 2, 1) := by decide +kernel
theorem dL_setPrice_20 : decode cL_setPrice 20 = .ok (.ireturn, 1) := by decide +kernel
theorem dL_setPrice_21 : decode cL_setPrice 21 = .ok (.iconst 0, 1) := by decide +kernel
theorem dL_setPrice_22 : decode cL_setPrice 22 = .ok (.ireturn, 1) := by decide +kernel
theorem dL_setDemand_0 : decode cL_setDemand 0 = .ok (.aload 4, 2) := by decide +kernel
theorem dL_setDemand_2 : decode cL_setDemand 2 = .ok (.iconst 0, 1) := by decide +kernel
theorem dL_setDemand_3 : decode cL_setDemand 3 = .ok (.aload_n 0, 1) := by decide +kernel
theorem dL_setDemand_4 : decode cL_setDemand 4 = .ok (.iload_n 1, 1) := by decide +kernel
theorem dL_setDemand_5 : decode cL_setDemand 5 = .ok (.iload_n 2, 1) := by decide +kernel
theorem dL_setDemand_6 : decode cL_setDemand 6 = .ok (.iload_n 3, 1) := by decide +kernel
theorem dL_setDemand_7 : decode cL_setDemand 7 = .ok (.invokevirtual 21, 3) := by decide +kernel
theorem dL_setDemand_10 : decode cL_setDemand 10 = .ok (.i2l, 1) := by decide +kernel
theorem dL_setDemand_11 : decode cL_setDemand 11 = .ok (.lastore, 1) := by decide +kernel
theorem dL_setDemand_12 : decode cL_setDemand 12 = .ok (.goto 7, 3) := by decide +kernel
theorem dL_setDemand_15 : decode cL_setDemand 15 = .ok (.astore 5, 2) := by decide +kernel
theorem dL_setDemand_17 : decode cL_setDemand 17 = .ok (.iconst 1, 1) := by decide +kernel
theorem dL_setDemand_18 : decode cL_setDemand 18 = .ok (.ireturn, 1) := by decide +kernel
theorem dL_setDemand_19 : decode cL_setDemand 19 = .ok (.iconst 0, 1) := by decide +kernel
theorem dL_setDemand_20 : decode cL_setDemand 20 = .ok (.ireturn, 1) := by decide +kernel
theorem dL_setRules_0 : decode cL_setRules 0 = .ok (.aload_n 0, 1) := by decide +kernel
theorem dL_setRules_1 : decode cL_setRules 1 = .ok (.iload_n 1, 1) := by decide +kernel
theorem dL_setRules_2 : decode cL_setRules 2 = .ok (.iload_n 2, 1) := by decide +kernel
theorem dL_setRules_3 : decode cL_setRules 3 = .ok (.iload_n 3, 1) := by decide +kernel
theorem dL_setRules_4 : decode cL_setRules 4 = .ok (.invokevirtual 25, 3) := by decide +kernel
theorem dL_setRules_7 : decode cL_setRules 7 = .ok (.goto 7, 3) := by decide +kernel
theorem dL_setRules_10 : decode cL_setRules 10 = .ok (.astore 4, 2) := by decide +kernel
theorem dL_setRules_12 : decode cL_setRules 12 = .ok (.iconst 1, 1) := by decide +kernel
theorem dL_setRules_13 : decode cL_setRules 13 = .ok (.ireturn, 1) := by decide +kernel
theorem dL_setRules_14 : decode cL_setRules 14 = .ok (.iconst 0, 1) := by decide +kernel
theorem dL_setRules_15 : decode cL_setRules 15 = .ok (.ireturn, 1) := by decide +kernel
theorem dL_put_0 : decode cL_put 0 = .ok (.aload 4, 2) := by decide +kernel
theorem dL_put_2 : decode cL_put 2 = .ok (.iconst 0, 1) := by decide +kernel
theorem dL_put_3 : decode cL_put 3 = .ok (.aload_n 0, 1) := by decide +kernel
theorem dL_put_4 : decode cL_put 4 = .ok (.iload_n 1, 1) := by decide +kernel
theorem dL_put_5 : decode cL_put 5 = .ok (.iload_n 2, 1) := by decide +kernel
theorem dL_put_6 : decode cL_put 6 = .ok (.iload_n 3, 1) := by decide +kernel
theorem dL_put_7 : decode cL_put 7 = .ok (.invokevirtual 29, 3) := by decide +kernel
theorem dL_put_10 : decode cL_put 10 = .ok (.i2l, 1) := by decide +kernel
theorem dL_put_11 : decode cL_put 11 = .ok (.lastore, 1) := by decide +kernel
theorem dL_put_12 : decode cL_put 12 = .ok (.goto 11, 3) := by decide +kernel
theorem dL_put_15 : decode cL_put 15 = .ok (.astore 5, 2) := by decide +kernel
theorem dL_put_17 : decode cL_put 17 = .ok (.iconst 1, 1) := by decide +kernel
theorem dL_put_18 : decode cL_put 18 = .ok (.ireturn, 1) := by decide +kernel
theorem dL_put_19 : decode cL_put 19 = .ok (.astore 5, 2) := by decide +kernel
theorem dL_put_21 : decode cL_put 21 = .ok (.iconst 2, 1) := by decide +kernel
theorem dL_put_22 : decode cL_put 22 = .ok (.ireturn, 1) := by decide +kernel
theorem dL_put_23 : decode cL_put 23 = .ok (.iconst 0, 1) := by decide +kernel
theorem dL_put_24 : decode cL_put 24 = .ok (.ireturn, 1) := by decide +kernel
theorem dL_markDown_0 : decode cL_markDown 0 = .ok (.aload_n 3, 1) := by decide +kernel
theorem dL_markDown_1 : decode cL_markDown 1 = .ok (.iconst 0, 1) := by decide +kernel
theorem dL_markDown_2 : decode cL_markDown 2 = .ok (.aload_n 0, 1) := by decide +kernel
theorem dL_markDown_3 : decode cL_markDown 3 = .ok (.iload_n 1, 1) := by decide +kernel
theorem dL_markDown_4 : decode cL_markDown 4 = .ok (.iload_n 2, 1) := by decide +kernel
theorem dL_markDown_5 : decode cL_markDown 5 = .ok (.invokevirtual 32, 3) := by decide +kernel
theorem dL_markDown_8 : decode cL_markDown 8 = .ok (.i2l, 1) := by decide +kernel
theorem dL_markDown_9 : decode cL_markDown 9 = .ok (.lastore, 1) := by decide +kernel
theorem dL_markDown_10 : decode cL_markDown 10 = .ok (.goto 11, 3) := by decide +kernel
theorem dL_markDown_13 : decode cL_markDown 13 = .ok (.astore 4, 2) := by decide +kernel
theorem dL_markDown_15 : decode cL_markDown 15 = .ok (.iconst 1, 1) := by decide +kernel
theorem dL_markDown_16 : decode cL_markDown 16 = .ok (.ireturn, 1) := by decide +kernel
theorem dL_markDown_17 : decode cL_markDown 17 = .ok (.astore 4, 2) := by decide +kernel
theorem dL_markDown_19 : decode cL_markDown 19 = .ok (.iconst 2, 1) := by decide +kernel
theorem dL_markDown_20 : decode cL_markDown 20 = .ok (.ireturn, 1) := by decide +kernel
theorem dL_markDown_21 : decode cL_markDown 21 = .ok (.iconst 0, 1) := by decide +kernel
theorem dL_markDown_22 : decode cL_markDown 22 = .ok (.ireturn, 1) := by decide +kernel
theorem dL_move_0 : decode cL_move 0 = .ok (.aload 5, 2) := by decide +kernel
theorem dL_move_2 : decode cL_move 2 = .ok (.iconst 0, 1) := by decide +kernel
theorem dL_move_3 : decode cL_move 3 = .ok (.aload_n 0, 1) := by decide +kernel
theorem dL_move_4 : decode cL_move 4 = .ok (.iload_n 1, 1) := by decide +kernel
theorem dL_move_5 : decode cL_move 5 = .ok (.iload_n 2, 1) := by decide +kernel
theorem dL_move_6 : decode cL_move 6 = .ok (.iload_n 3, 1) := by decide +kernel
theorem dL_move_7 : decode cL_move 7 = .ok (.iload 4, 2) := by decide +kernel
theorem dL_move_9 : decode cL_move 9 = .ok (.invokevirtual 35, 3) := by decide +kernel
theorem dL_move_12 : decode cL_move 12 = .ok (.i2l, 1) := by decide +kernel
theorem dL_move_13 : decode cL_move 13 = .ok (.lastore, 1) := by decide +kernel
theorem dL_move_14 : decode cL_move 14 = .ok (.goto 11, 3) := by decide +kernel
theorem dL_move_17 : decode cL_move 17 = .ok (.astore 6, 2) := by decide +kernel
theorem dL_move_19 : decode cL_move 19 = .ok (.iconst 1, 1) := by decide +kernel
theorem dL_move_20 : decode cL_move 20 = .ok (.ireturn, 1) := by decide +kernel
theorem dL_move_21 : decode cL_move 21 = .ok (.astore 6, 2) := by decide +kernel
theorem dL_move_23 : decode cL_move 23 = .ok (.iconst 2, 1) := by decide +kernel
theorem dL_move_24 : decode cL_move 24 = .ok (.ireturn, 1) := by decide +kernel
theorem dL_move_25 : decode cL_move 25 = .ok (.iconst 0, 1) := by decide +kernel
theorem dL_move_26 : decode cL_move 26 = .ok (.ireturn, 1) := by decide +kernel
theorem dL_run_0 : decode cL_run 0 = .ok (.aload_n 1, 1) := by decide +kernel
theorem dL_run_1 : decode cL_run 1 = .ok (.iconst 0, 1) := by decide +kernel
theorem dL_run_2 : decode cL_run 2 = .ok (.aload_n 0, 1) := by decide +kernel
theorem dL_run_3 : decode cL_run 3 = .ok (.invokevirtual 39, 3) := by decide +kernel
theorem dL_run_6 : decode cL_run 6 = .ok (.i2l, 1) := by decide +kernel
theorem dL_run_7 : decode cL_run 7 = .ok (.lastore, 1) := by decide +kernel
theorem dL_run_8 : decode cL_run 8 = .ok (.goto 6, 3) := by decide +kernel
theorem dL_run_11 : decode cL_run 11 = .ok (.astore_n 2, 1) := by decide +kernel
theorem dL_run_12 : decode cL_run 12 = .ok (.iconst 1, 1) := by decide +kernel
theorem dL_run_13 : decode cL_run 13 = .ok (.ireturn, 1) := by decide +kernel
theorem dL_run_14 : decode cL_run 14 = .ok (.iconst 0, 1) := by decide +kernel
theorem dL_run_15 : decode cL_run 15 = .ok (.ireturn, 1) := by decide +kernel
theorem dL_stock_0 : decode cL_stock 0 = .ok (.aload_n 3, 1) := by decide +kernel
theorem dL_stock_1 : decode cL_stock 1 = .ok (.iconst 0, 1) := by decide +kernel
theorem dL_stock_2 : decode cL_stock 2 = .ok (.aload_n 0, 1) := by decide +kernel
theorem dL_stock_3 : decode cL_stock 3 = .ok (.iload_n 1, 1) := by decide +kernel
theorem dL_stock_4 : decode cL_stock 4 = .ok (.iload_n 2, 1) := by decide +kernel
theorem dL_stock_5 : decode cL_stock 5 = .ok (.invokevirtual 43, 3) := by decide +kernel
theorem dL_stock_8 : decode cL_stock 8 = .ok (.i2l, 1) := by decide +kernel
theorem dL_stock_9 : decode cL_stock 9 = .ok (.lastore, 1) := by decide +kernel
theorem dL_stock_10 : decode cL_stock 10 = .ok (.goto 7, 3) := by decide +kernel
theorem dL_stock_13 : decode cL_stock 13 = .ok (.astore 4, 2) := by decide +kernel
theorem dL_stock_15 : decode cL_stock 15 = .ok (.iconst 1, 1) := by decide +kernel
theorem dL_stock_16 : decode cL_stock 16 = .ok (.ireturn, 1) := by decide +kernel
theorem dL_stock_17 : decode cL_stock 17 = .ok (.iconst 0, 1) := by decide +kernel
theorem dL_stock_18 : decode cL_stock 18 = .ok (.ireturn, 1) := by decide +kernel
theorem dL_step_0 : decode cL_step 0 = .ok (.aload_n 2, 1) := by decide +kernel
theorem dL_step_1 : decode cL_step 1 = .ok (.iconst 0, 1) := by decide +kernel
theorem dL_step_2 : decode cL_step 2 = .ok (.aload_n 0, 1) := by decide +kernel
theorem dL_step_3 : decode cL_step 3 = .ok (.iload_n 1, 1) := by decide +kernel
theorem dL_step_4 : decode cL_step 4 = .ok (.invokevirtual 46, 3) := by decide +kernel
theorem dL_step_7 : decode cL_step 7 = .ok (.i2l, 1) := by decide +kernel
theorem dL_step_8 : decode cL_step 8 = .ok (.lastore, 1) := by decide +kernel
theorem dL_step_9 : decode cL_step 9 = .ok (.goto 6, 3) := by decide +kernel
theorem dL_step_12 : decode cL_step 12 = .ok (.astore_n 3, 1) := by decide +kernel
theorem dL_step_13 : decode cL_step 13 = .ok (.iconst 1, 1) := by decide +kernel
theorem dL_step_14 : decode cL_step 14 = .ok (.ireturn, 1) := by decide +kernel
theorem dL_step_15 : decode cL_step 15 = .ok (.iconst 0, 1) := by decide +kernel
theorem dL_step_16 : decode cL_step 16 = .ok (.ireturn, 1) := by decide +kernel
theorem dL_weeksToWait_0 : decode cL_weeksToWait 0 = .ok (.aload_n 2, 1) := by decide +kernel
theorem dL_weeksToWait_1 : decode cL_weeksToWait 1 = .ok (.iconst 0, 1) := by decide +kernel
theorem dL_weeksToWait_2 : decode cL_weeksToWait 2 = .ok (.aload_n 0, 1) := by decide +kernel
theorem dL_weeksToWait_3 : decode cL_weeksToWait 3 = .ok (.iload_n 1, 1) := by decide +kernel
theorem dL_weeksToWait_4 : decode cL_weeksToWait 4 = .ok (.invokevirtual 49, 3) := by decide +kernel
theorem dL_weeksToWait_7 : decode cL_weeksToWait 7 = .ok (.i2l, 1) := by decide +kernel
theorem dL_weeksToWait_8 : decode cL_weeksToWait 8 = .ok (.lastore, 1) := by decide +kernel
theorem dL_weeksToWait_9 : decode cL_weeksToWait 9 = .ok (.goto 6, 3) := by decide +kernel
theorem dL_weeksToWait_12 : decode cL_weeksToWait 12 = .ok (.astore_n 3, 1) := by decide +kernel
theorem dL_weeksToWait_13 : decode cL_weeksToWait 13 = .ok (.iconst 1, 1) := by decide +kernel
theorem dL_weeksToWait_14 : decode cL_weeksToWait 14 = .ok (.ireturn, 1) := by decide +kernel
theorem dL_weeksToWait_15 : decode cL_weeksToWait 15 = .ok (.iconst 0, 1) := by decide +kernel
theorem dL_weeksToWait_16 : decode cL_weeksToWait 16 = .ok (.ireturn, 1) := by decide +kernel
theorem dL_sold_0 : decode cL_sold 0 = .ok (.aload_n 2, 1) := by decide +kernel
theorem dL_sold_1 : decode cL_sold 1 = .ok (.iconst 0, 1) := by decide +kernel
theorem dL_sold_2 : decode cL_sold 2 = .ok (.aload_n 0, 1) := by decide +kernel
theorem dL_sold_3 : decode cL_sold 3 = .ok (.iload_n 1, 1) := by decide +kernel
theorem dL_sold_4 : decode cL_sold 4 = .ok (.invokevirtual 52, 3) := by decide +kernel
theorem dL_sold_7 : decode cL_sold 7 = .ok (.i2l, 1) := by decide +kernel
theorem dL_sold_8 : decode cL_sold 8 = .ok (.lastore, 1) := by decide +kernel
theorem dL_sold_9 : decode cL_sold 9 = .ok (.goto 6, 3) := by decide +kernel
theorem dL_sold_12 : decode cL_sold 12 = .ok (.astore_n 3, 1) := by decide +kernel
theorem dL_sold_13 : decode cL_sold 13 = .ok (.iconst 1, 1) := by decide +kernel
theorem dL_sold_14 : decode cL_sold 14 = .ok (.ireturn, 1) := by decide +kernel
theorem dL_sold_15 : decode cL_sold 15 = .ok (.iconst 0, 1) := by decide +kernel
theorem dL_sold_16 : decode cL_sold 16 = .ok (.ireturn, 1) := by decide +kernel
theorem dL_wouldSell_0 : decode cL_wouldSell 0 = .ok (.aload_n 3, 1) := by decide +kernel
theorem dL_wouldSell_1 : decode cL_wouldSell 1 = .ok (.iconst 0, 1) := by decide +kernel
theorem dL_wouldSell_2 : decode cL_wouldSell 2 = .ok (.aload_n 0, 1) := by decide +kernel
theorem dL_wouldSell_3 : decode cL_wouldSell 3 = .ok (.iload_n 1, 1) := by decide +kernel
theorem dL_wouldSell_4 : decode cL_wouldSell 4 = .ok (.iload_n 2, 1) := by decide +kernel
theorem dL_wouldSell_5 : decode cL_wouldSell 5 = .ok (.invokevirtual 55, 3) := by decide +kernel
theorem dL_wouldSell_8 : decode cL_wouldSell 8 = .ok (.i2l, 1) := by decide +kernel
theorem dL_wouldSell_9 : decode cL_wouldSell 9 = .ok (.lastore, 1) := by decide +kernel
theorem dL_wouldSell_10 : decode cL_wouldSell 10 = .ok (.goto 7, 3) := by decide +kernel
theorem dL_wouldSell_13 : decode cL_wouldSell 13 = .ok (.astore 4, 2) := by decide +kernel
theorem dL_wouldSell_15 : decode cL_wouldSell 15 = .ok (.iconst 1, 1) := by decide +kernel
theorem dL_wouldSell_16 : decode cL_wouldSell 16 = .ok (.ireturn, 1) := by decide +kernel
theorem dL_wouldSell_17 : decode cL_wouldSell 17 = .ok (.iconst 0, 1) := by decide +kernel
theorem dL_wouldSell_18 : decode cL_wouldSell 18 = .ok (.ireturn, 1) := by decide +kernel
theorem dL_best_0 : decode cL_best 0 = .ok (.aload_n 2, 1) := by decide +kernel
theorem dL_best_1 : decode cL_best 1 = .ok (.iconst 0, 1) := by decide +kernel
theorem dL_best_2 : decode cL_best 2 = .ok (.aload_n 0, 1) := by decide +kernel
theorem dL_best_3 : decode cL_best 3 = .ok (.iload_n 1, 1) := by decide +kernel
theorem dL_best_4 : decode cL_best 4 = .ok (.invokevirtual 58, 3) := by decide +kernel
theorem dL_best_7 : decode cL_best 7 = .ok (.i2l, 1) := by decide +kernel
theorem dL_best_8 : decode cL_best 8 = .ok (.lastore, 1) := by decide +kernel
theorem dL_best_9 : decode cL_best 9 = .ok (.goto 6, 3) := by decide +kernel
theorem dL_best_12 : decode cL_best 12 = .ok (.astore_n 3, 1) := by decide +kernel
theorem dL_best_13 : decode cL_best 13 = .ok (.iconst 1, 1) := by decide +kernel
theorem dL_best_14 : decode cL_best 14 = .ok (.ireturn, 1) := by decide +kernel
theorem dL_best_15 : decode cL_best 15 = .ok (.iconst 0, 1) := by decide +kernel
theorem dL_best_16 : decode cL_best 16 = .ok (.ireturn, 1) := by decide +kernel
theorem dL_bestByAll_0 : decode cL_bestByAll 0 = .ok (.aload_n 2, 1) := by decide +kernel
theorem dL_bestByAll_1 : decode cL_bestByAll 1 = .ok (.iconst 0, 1) := by decide +kernel
theorem dL_bestByAll_2 : decode cL_bestByAll 2 = .ok (.aload_n 0, 1) := by decide +kernel
theorem dL_bestByAll_3 : decode cL_bestByAll 3 = .ok (.iload_n 1, 1) := by decide +kernel
theorem dL_bestByAll_4 : decode cL_bestByAll 4 = .ok (.invokevirtual 61, 3) := by decide +kernel
theorem dL_bestByAll_7 : decode cL_bestByAll 7 = .ok (.i2l, 1) := by decide +kernel
theorem dL_bestByAll_8 : decode cL_bestByAll 8 = .ok (.lastore, 1) := by decide +kernel
theorem dL_bestByAll_9 : decode cL_bestByAll 9 = .ok (.goto 9, 3) := by decide +kernel
theorem dL_bestByAll_12 : decode cL_bestByAll 12 = .ok (.astore_n 3, 1) := by decide +kernel
theorem dL_bestByAll_13 : decode cL_bestByAll 13 = .ok (.iconst 1, 1) := by decide +kernel
theorem dL_bestByAll_14 : decode cL_bestByAll 14 = .ok (.ireturn, 1) := by decide +kernel
theorem dL_bestByAll_15 : decode cL_bestByAll 15 = .ok (.astore_n 3, 1) := by decide +kernel
theorem dL_bestByAll_16 : decode cL_bestByAll 16 = .ok (.iconst 2, 1) := by decide +kernel
theorem dL_bestByAll_17 : decode cL_bestByAll 17 = .ok (.ireturn, 1) := by decide +kernel
theorem dL_bestByAll_18 : decode cL_bestByAll 18 = .ok (.iconst 0, 1) := by decide +kernel
theorem dL_bestByAll_19 : decode cL_bestByAll 19 = .ok (.ireturn, 1) := by decide +kernel
theorem dL_planned_0 : decode cL_planned 0 = .ok (.aload_n 3, 1) := by decide +kernel
theorem dL_planned_1 : decode cL_planned 1 = .ok (.iconst 0, 1) := by decide +kernel
theorem dL_planned_2 : decode cL_planned 2 = .ok (.aload_n 0, 1) := by decide +kernel
theorem dL_planned_3 : decode cL_planned 3 = .ok (.iload_n 1, 1) := by decide +kernel
theorem dL_planned_4 : decode cL_planned 4 = .ok (.iload_n 2, 1) := by decide +kernel
theorem dL_planned_5 : decode cL_planned 5 = .ok (.invokevirtual 64, 3) := by decide +kernel
theorem dL_planned_8 : decode cL_planned 8 = .ok (.i2l, 1) := by decide +kernel
theorem dL_planned_9 : decode cL_planned 9 = .ok (.lastore, 1) := by decide +kernel
theorem dL_planned_10 : decode cL_planned 10 = .ok (.goto 7, 3) := by decide +kernel
theorem dL_planned_13 : decode cL_planned 13 = .ok (.astore 4, 2) := by decide +kernel
theorem dL_planned_15 : decode cL_planned 15 = .ok (.iconst 1, 1) := by decide +kernel
theorem dL_planned_16 : decode cL_planned 16 = .ok (.ireturn, 1) := by decide +kernel
theorem dL_planned_17 : decode cL_planned 17 = .ok (.iconst 0, 1) := by decide +kernel
theorem dL_planned_18 : decode cL_planned 18 = .ok (.ireturn, 1) := by decide +kernel
theorem dL_bestLeaving_0 : decode cL_bestLeaving 0 = .ok (.aload_n 3, 1) := by decide +kernel
theorem dL_bestLeaving_1 : decode cL_bestLeaving 1 = .ok (.iconst 0, 1) := by decide +kernel
theorem dL_bestLeaving_2 : decode cL_bestLeaving 2 = .ok (.aload_n 0, 1) := by decide +kernel
theorem dL_bestLeaving_3 : decode cL_bestLeaving 3 = .ok (.iload_n 1, 1) := by decide +kernel
theorem dL_bestLeaving_4 : decode cL_bestLeaving 4 = .ok (.iload_n 2, 1) := by decide +kernel
theorem dL_bestLeaving_5 : decode cL_bestLeaving 5 = .ok (.invokevirtual 67, 3) := by decide +kernel
theorem dL_bestLeaving_8 : decode cL_bestLeaving 8 = .ok (.i2l, 1) := by decide +kernel
theorem dL_bestLeaving_9 : decode cL_bestLeaving 9 = .ok (.lastore, 1) := by decide +kernel
theorem dL_bestLeaving_10 : decode cL_bestLeaving 10 = .ok (.goto 7, 3) := by decide +kernel
theorem dL_bestLeaving_13 : decode cL_bestLeaving 13 = .ok (.astore 4, 2) := by decide +kernel
theorem dL_bestLeaving_15 : decode cL_bestLeaving 15 = .ok (.iconst 1, 1) := by decide +kernel
theorem dL_bestLeaving_16 : decode cL_bestLeaving 16 = .ok (.ireturn, 1) := by decide +kernel
theorem dL_bestLeaving_17 : decode cL_bestLeaving 17 = .ok (.iconst 0, 1) := by decide +kernel
theorem dL_bestLeaving_18 : decode cL_bestLeaving 18 = .ok (.ireturn, 1) := by decide +kernel
