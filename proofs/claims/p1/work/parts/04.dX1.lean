theorem dX1_init_0 : decode cX1_init 0 = .ok (.aload_n 0, 1) := by decide +kernel
theorem dX1_init_1 : decode cX1_init 1 = .ok (.invokespecial 1, 3) := by decide +kernel
theorem dX1_init_4 : decode cX1_init 4 = .ok (.aload_n 0, 1) := by decide +kernel
theorem dX1_init_5 : decode cX1_init 5 = .ok (.bipush 15, 2) := by decide +kernel
theorem dX1_init_7 : decode cX1_init 7 = .ok (.newarray .int, 2) := by decide +kernel
theorem dX1_init_9 : decode cX1_init 9 = .ok (.putfield 9, 3) := by decide +kernel
theorem dX1_init_12 : decode cX1_init 12 = .ok (.aload_n 0, 1) := by decide +kernel
theorem dX1_init_13 : decode cX1_init 13 = .ok (.bipush 15, 2) := by decide +kernel
theorem dX1_init_15 : decode cX1_init 15 = .ok (.newarray .int, 2) := by decide +kernel
theorem dX1_init_17 : decode cX1_init 17 = .ok (.putfield 15, 3) := by decide +kernel
theorem dX1_init_20 : decode cX1_init 20 = .ok (.aload_n 0, 1) := by decide +kernel
theorem dX1_init_21 : decode cX1_init 21 = .ok (.new 7, 3) := by decide +kernel
theorem dX1_init_24 : decode cX1_init 24 = .ok (.dup, 1) := by decide +kernel
theorem dX1_init_25 : decode cX1_init 25 = .ok (.invokespecial 18, 3) := by decide +kernel
theorem dX1_init_28 : decode cX1_init 28 = .ok (.putfield 19, 3) := by decide +kernel
theorem dX1_init_31 : decode cX1_init 31 = .ok (.aload_n 0, 1) := by decide +kernel
theorem dX1_init_32 : decode cX1_init 32 = .ok (.new 7, 3) := by decide +kernel
theorem dX1_init_35 : decode cX1_init 35 = .ok (.dup, 1) := by decide +kernel
theorem dX1_init_36 : decode cX1_init 36 = .ok (.invokespecial 18, 3) := by decide +kernel
theorem dX1_init_39 : decode cX1_init 39 = .ok (.putfield 23, 3) := by decide +kernel
theorem dX1_init_42 : decode cX1_init 42 = .ok (.aload_n 0, 1) := by decide +kernel
theorem dX1_init_43 : decode cX1_init 43 = .ok (.new 7, 3) := by decide +kernel
theorem dX1_init_46 : decode cX1_init 46 = .ok (.dup, 1) := by decide +kernel
theorem dX1_init_47 : decode cX1_init 47 = .ok (.invokespecial 18, 3) := by decide +kernel
theorem dX1_init_50 : decode cX1_init 50 = .ok (.putfield 26, 3) := by decide +kernel
theorem dX1_init_53 : decode cX1_init 53 = .ok (.aload_n 0, 1) := by decide +kernel
theorem dX1_init_54 : decode cX1_init 54 = .ok (.aload_n 0, 1) := by decide +kernel
theorem dX1_init_55 : decode cX1_init 55 = .ok (.getfield 23, 3) := by decide +kernel
theorem dX1_init_58 : decode cX1_init 58 = .ok (.putfield 29, 3) := by decide +kernel
theorem dX1_init_61 : decode cX1_init 61 = .ok (.return_, 1) := by decide +kernel
theorem dX1_findCommon_0 : decode cX1_findCommon 0 = .ok (.aload_n 0, 1) := by decide +kernel
theorem dX1_findCommon_1 : decode cX1_findCommon 1 = .ok (.getfield 23, 3) := by decide +kernel
theorem dX1_findCommon_4 : decode cX1_findCommon 4 = .ok (.astore_n 3, 1) := by decide +kernel
theorem dX1_findCommon_5 : decode cX1_findCommon 5 = .ok (.aload_n 0, 1) := by decide +kernel
theorem dX1_findCommon_6 : decode cX1_findCommon 6 = .ok (.getfield 26, 3) := by decide +kernel
theorem dX1_findCommon_9 : decode cX1_findCommon 9 = .ok (.astore 4, 2) := by decide +kernel
theorem dX1_findCommon_11 : decode cX1_findCommon 11 = .ok (.aload_n 3, 1) := by decide +kernel
theorem dX1_findCommon_12 : decode cX1_findCommon 12 = .ok (.aload_n 1, 1) := by decide +kernel
theorem dX1_findCommon_13 : decode cX1_findCommon 13 = .ok (.invokevirtual 32, 3) := by decide +kernel
theorem dX1_findCommon_16 : decode cX1_findCommon 16 = .ok (.aload 4, 2) := by decide +kernel
theorem dX1_findCommon_18 : decode cX1_findCommon 18 = .ok (.aload_n 2, 1) := by decide +kernel
theorem dX1_findCommon_19 : decode cX1_findCommon 19 = .ok (.invokevirtual 32, 3) := by decide +kernel
theorem dX1_findCommon_22 : decode cX1_findCommon 22 = .ok (.aload_n 3, 1) := by decide +kernel
theorem dX1_findCommon_23 : decode cX1_findCommon 23 = .ok (.aload_n 3, 1) := by decide +kernel
theorem dX1_findCommon_24 : decode cX1_findCommon 24 = .ok (.getfield 36, 3) := by decide +kernel
theorem dX1_findCommon_27 : decode cX1_findCommon 27 = .ok (.invokestatic 40, 3) := by decide +kernel
theorem dX1_findCommon_30 : decode cX1_findCommon 30 = .ok (.putfield 36, 3) := by decide +kernel
theorem dX1_findCommon_33 : decode cX1_findCommon 33 = .ok (.iconst 0, 1) := by decide +kernel
theorem dX1_findCommon_34 : decode cX1_findCommon 34 = .ok (.istore 5, 2) := by decide +kernel
theorem dX1_findCommon_36 : decode cX1_findCommon 36 = .ok (.iload 5, 2) := by decide +kernel
theorem dX1_findCommon_38 : decode cX1_findCommon 38 = .ok (.sipush 10000, 3) := by decide +kernel
theorem dX1_findCommon_41 : decode cX1_findCommon 41 = .ok (.if_icmp .ge 38, 3) := by decide +kernel
theorem dX1_findCommon_44 : decode cX1_findCommon 44 = .ok (.aload 4, 2) := by decide +kernel
theorem dX1_findCommon_46 : decode cX1_findCommon 46 = .ok (.getfield 36, 3) := by decide +kernel
theorem dX1_findCommon_49 : decode cX1_findCommon 49 = .ok (.ifCond .eq 30, 3) := by decide +kernel
theorem dX1_findCommon_52 : decode cX1_findCommon 52 = .ok (.aload_n 0, 1) := by decide +kernel
theorem dX1_findCommon_53 : decode cX1_findCommon 53 = .ok (.aload_n 3, 1) := by decide +kernel
theorem dX1_findCommon_54 : decode cX1_findCommon 54 = .ok (.aload 4, 2) := by decide +kernel
theorem dX1_findCommon_56 : decode cX1_findCommon 56 = .ok (.aload_n 0, 1) := by decide +kernel
theorem dX1_findCommon_57 : decode cX1_findCommon 57 = .ok (.getfield 19, 3) := by decide +kernel
theorem dX1_findCommon_60 : decode cX1_findCommon 60 = .ok (.invokevirtual 46, 3) := by decide +kernel
theorem dX1_findCommon_63 : decode cX1_findCommon 63 = .ok (.aload_n 3, 1) := by decide +kernel
theorem dX1_findCommon_64 : decode cX1_findCommon 64 = .ok (.astore 6, 2) := by decide +kernel
theorem dX1_findCommon_66 : decode cX1_findCommon 66 = .ok (.aload 4, 2) := by decide +kernel
theorem dX1_findCommon_68 : decode cX1_findCommon 68 = .ok (.astore_n 3, 1) := by decide +kernel
theorem dX1_findCommon_69 : decode cX1_findCommon 69 = .ok (.aload 6, 2) := by decide +kernel
theorem dX1_findCommon_71 : decode cX1_findCommon 71 = .ok (.astore 4, 2) := by decide +kernel
theorem dX1_findCommon_73 : decode cX1_findCommon 73 = .ok (.iinc 5 1, 3) := by decide +kernel
theorem dX1_findCommon_76 : decode cX1_findCommon 76 = .ok (.goto (-40), 3) := by decide +kernel
theorem dX1_findCommon_79 : decode cX1_findCommon 79 = .ok (.aload_n 0, 1) := by decide +kernel
theorem dX1_findCommon_80 : decode cX1_findCommon 80 = .ok (.aload_n 3, 1) := by decide +kernel
theorem dX1_findCommon_81 : decode cX1_findCommon 81 = .ok (.putfield 29, 3) := by decide +kernel
theorem dX1_findCommon_84 : decode cX1_findCommon 84 = .ok (.return_, 1) := by decide +kernel
theorem dX1_divideByCommon_0 : decode cX1_divideByCommon 0 = .ok (.aload_n 0, 1) := by decide +kernel
theorem dX1_divideByCommon_1 : decode cX1_divideByCommon 1 = .ok (.getfield 29, 3) := by decide +kernel
theorem dX1_divideByCommon_4 : decode cX1_divideByCommon 4 = .ok (.invokevirtual 50, 3) := by decide +kernel
theorem dX1_divideByCommon_7 : decode cX1_divideByCommon 7 = .ok (.ifCond .ne 24, 3) := by decide +kernel
theorem dX1_divideByCommon_10 : decode cX1_divideByCommon 10 = .ok (.aload_n 0, 1) := by decide +kernel
theorem dX1_divideByCommon_11 : decode cX1_divideByCommon 11 = .ok (.getfield 19, 3) := by decide +kernel
theorem dX1_divideByCommon_14 : decode cX1_divideByCommon 14 = .ok (.aload_n 1, 1) := by decide +kernel
theorem dX1_divideByCommon_15 : decode cX1_divideByCommon 15 = .ok (.invokevirtual 32, 3) := by decide +kernel
theorem dX1_divideByCommon_18 : decode cX1_divideByCommon 18 = .ok (.aload_n 0, 1) := by decide +kernel
theorem dX1_divideByCommon_19 : decode cX1_divideByCommon 19 = .ok (.aload_n 0, 1) := by decide +kernel
theorem dX1_divideByCommon_20 : decode cX1_divideByCommon 20 = .ok (.getfield 19, 3) := by decide +kernel
theorem dX1_divideByCommon_23 : decode cX1_divideByCommon 23 = .ok (.aload_n 0, 1) := by decide +kernel
theorem dX1_divideByCommon_24 : decode cX1_divideByCommon 24 = .ok (.getfield 29, 3) := by decide +kernel
theorem dX1_divideByCommon_27 : decode cX1_divideByCommon 27 = .ok (.aload_n 1, 1) := by decide +kernel
theorem dX1_divideByCommon_28 : decode cX1_divideByCommon 28 = .ok (.invokevirtual 46, 3) := by decide +kernel
theorem dX1_divideByCommon_31 : decode cX1_divideByCommon 31 = .ok (.return_, 1) := by decide +kernel
theorem dX1_divide_0 : decode cX1_divide 0 = .ok (.aload_n 1, 1) := by decide +kernel
theorem dX1_divide_1 : decode cX1_divide 1 = .ok (.getfield 36, 3) := by decide +kernel
theorem dX1_divide_4 : decode cX1_divide 4 = .ok (.aload_n 2, 1) := by decide +kernel
theorem dX1_divide_5 : decode cX1_divide 5 = .ok (.getfield 36, 3) := by decide +kernel
theorem dX1_divide_8 : decode cX1_divide 8 = .ok (.imul, 1) := by decide +kernel
theorem dX1_divide_9 : decode cX1_divide 9 = .ok (.istore 4, 2) := by decide +kernel
theorem dX1_divide_11 : decode cX1_divide 11 = .ok (.iload 4, 2) := by decide +kernel
theorem dX1_divide_13 : decode cX1_divide 13 = .ok (.ifCond .eq 14, 3) := by decide +kernel
theorem dX1_divide_16 : decode cX1_divide 16 = .ok (.aload_n 1, 1) := by decide +kernel
theorem dX1_divide_17 : decode cX1_divide 17 = .ok (.getfield 54, 3) := by decide +kernel
theorem dX1_divide_20 : decode cX1_divide 20 = .ok (.aload_n 2, 1) := by decide +kernel
theorem dX1_divide_21 : decode cX1_divide 21 = .ok (.getfield 54, 3) := by decide +kernel
theorem dX1_divide_24 : decode cX1_divide 24 = .ok (.if_icmp .ge 10, 3) := by decide +kernel
theorem dX1_divide_27 : decode cX1_divide 27 = .ok (.aload_n 3, 1) := by decide +kernel
theorem dX1_divide_28 : decode cX1_divide 28 = .ok (.invokevirtual 57, 3) := by decide +kernel
theorem dX1_divide_31 : decode cX1_divide 31 = .ok (.goto 37, 3) := by decide +kernel
theorem dX1_divide_34 : decode cX1_divide 34 = .ok (.aload_n 2, 1) := by decide +kernel
theorem dX1_divide_35 : decode cX1_divide 35 = .ok (.getfield 54, 3) := by decide +kernel
theorem dX1_divide_38 : decode cX1_divide 38 = .ok (.iconst 1, 1) := by decide +kernel
theorem dX1_divide_39 : decode cX1_divide 39 = .ok (.if_icmp .ne 20, 3) := by decide +kernel
theorem dX1_divide_42 : decode cX1_divide 42 = .ok (.aload_n 0, 1) := by decide +kernel
theorem dX1_divide_43 : decode cX1_divide 43 = .ok (.aload_n 1, 1) := by decide +kernel
theorem dX1_divide_44 : decode cX1_divide 44 = .ok (.aload_n 2, 1) := by decide +kernel
theorem dX1_divide_45 : decode cX1_divide 45 = .ok (.getfield 60, 3) := by decide +kernel
theorem dX1_divide_48 : decode cX1_divide 48 = .ok (.iconst 0, 1) := by decide +kernel
theorem dX1_divide_49 : decode cX1_divide 49 = .ok (.iaload, 1) := by decide +kernel
theorem dX1_divide_50 : decode cX1_divide 50 = .ok (.aload_n 3, 1) := by decide +kernel
theorem dX1_divide_51 : decode cX1_divide 51 = .ok (.iload 4, 2) := by decide +kernel
theorem dX1_divide_53 : decode cX1_divide 53 = .ok (.invokevirtual 63, 3) := by decide +kernel
theorem dX1_divide_56 : decode cX1_divide 56 = .ok (.goto 12, 3) := by decide +kernel
theorem dX1_divide_59 : decode cX1_divide 59 = .ok (.aload_n 0, 1) := by decide +kernel
theorem dX1_divide_60 : decode cX1_divide 60 = .ok (.aload_n 1, 1) := by decide +kernel
theorem dX1_divide_61 : decode cX1_divide 61 = .ok (.aload_n 2, 1) := by decide +kernel
theorem dX1_divide_62 : decode cX1_divide 62 = .ok (.aload_n 3, 1) := by decide +kernel
theorem dX1_divide_63 : decode cX1_divide 63 = .ok (.iload 4, 2) := by decide +kernel
theorem dX1_divide_65 : decode cX1_divide 65 = .ok (.invokevirtual 67, 3) := by decide +kernel
theorem dX1_divide_68 : decode cX1_divide 68 = .ok (.return_, 1) := by decide +kernel
theorem dX1_divideByDigit_0 : decode cX1_divideByDigit 0 = .ok (.lconst 0, 1) := by decide +kernel
theorem dX1_divideByDigit_1 : decode cX1_divideByDigit 1 = .ok (.lstore 5, 2) := by decide +kernel
theorem dX1_divideByDigit_3 : decode cX1_divideByDigit 3 = .ok (.iconst 1, 1) := by decide +kernel
theorem dX1_divideByDigit_4 : decode cX1_divideByDigit 4 = .ok (.iload_n 2, 1) := by decide +kernel
theorem dX1_divideByDigit_5 : decode cX1_divideByDigit 5 = .ok (.invokestatic 71, 3) := by decide +kernel
theorem dX1_divideByDigit_8 : decode cX1_divideByDigit 8 = .ok (.istore 7, 2) := by decide +kernel
theorem dX1_divideByDigit_10 : decode cX1_divideByDigit 10 = .ok (.aload_n 1, 1) := by decide +kernel
theorem dX1_divideByDigit_11 : decode cX1_divideByDigit 11 = .ok (.getfield 54, 3) := by decide +kernel
theorem dX1_divideByDigit_14 : decode cX1_divideByDigit 14 = .ok (.istore 8, 2) := by decide +kernel
theorem dX1_divideByDigit_16 : decode cX1_divideByDigit 16 = .ok (.iload 8, 2) := by decide +kernel
theorem dX1_divideByDigit_18 : decode cX1_divideByDigit 18 = .ok (.iconst 1, 1) := by decide +kernel
theorem dX1_divideByDigit_19 : decode cX1_divideByDigit 19 = .ok (.isub, 1) := by decide +kernel
theorem dX1_divideByDigit_20 : decode cX1_divideByDigit 20 = .ok (.istore 9, 2) := by decide +kernel
theorem dX1_divideByDigit_22 : decode cX1_divideByDigit 22 = .ok (.iload 9, 2) := by decide +kernel
theorem dX1_divideByDigit_24 : decode cX1_divideByDigit 24 = .ok (.ifCond .lt 47, 3) := by decide +kernel
theorem dX1_divideByDigit_27 : decode cX1_divideByDigit 27 = .ok (.lload 5, 2) := by decide +kernel
theorem dX1_divideByDigit_29 : decode cX1_divideByDigit 29 = .ok (.bipush 31, 2) := by decide +kernel
theorem dX1_divideByDigit_31 : decode cX1_divideByDigit 31 = .ok (.lshl, 1) := by decide +kernel
theorem dX1_divideByDigit_32 : decode cX1_divideByDigit 32 = .ok (.aload_n 1, 1) := by decide +kernel
theorem dX1_divideByDigit_33 : decode cX1_divideByDigit 33 = .ok (.getfield 60, 3) := by decide +kernel
theorem dX1_divideByDigit_36 : decode cX1_divideByDigit 36 = .ok (.iload 9, 2) := by decide +kernel
theorem dX1_divideByDigit_38 : decode cX1_divideByDigit 38 = .ok (.iaload, 1) := by decide +kernel
theorem dX1_divideByDigit_39 : decode cX1_divideByDigit 39 = .ok (.i2l, 1) := by decide +kernel
theorem dX1_divideByDigit_40 : decode cX1_divideByDigit 40 = .ok (.lor, 1) := by decide +kernel
theorem dX1_divideByDigit_41 : decode cX1_divideByDigit 41 = .ok (.lstore 5, 2) := by decide +kernel
theorem dX1_divideByDigit_43 : decode cX1_divideByDigit 43 = .ok (.aload_n 3, 1) := by decide +kernel
theorem dX1_divideByDigit_44 : decode cX1_divideByDigit 44 = .ok (.getfield 60, 3) := by decide +kernel
theorem dX1_divideByDigit_47 : decode cX1_divideByDigit 47 = .ok (.iload 9, 2) := by decide +kernel
theorem dX1_divideByDigit_49 : decode cX1_divideByDigit 49 = .ok (.lload 5, 2) := by decide +kernel
theorem dX1_divideByDigit_51 : decode cX1_divideByDigit 51 = .ok (.iload 7, 2) := by decide +kernel
theorem dX1_divideByDigit_53 : decode cX1_divideByDigit 53 = .ok (.i2l, 1) := by decide +kernel
theorem dX1_divideByDigit_54 : decode cX1_divideByDigit 54 = .ok (.ldiv, 1) := by decide +kernel
theorem dX1_divideByDigit_55 : decode cX1_divideByDigit 55 = .ok (.l2i, 1) := by decide +kernel
theorem dX1_divideByDigit_56 : decode cX1_divideByDigit 56 = .ok (.iastore, 1) := by decide +kernel
theorem dX1_divideByDigit_57 : decode cX1_divideByDigit 57 = .ok (.lload 5, 2) := by decide +kernel
theorem dX1_divideByDigit_59 : decode cX1_divideByDigit 59 = .ok (.iload 7, 2) := by decide +kernel
theorem dX1_divideByDigit_61 : decode cX1_divideByDigit 61 = .ok (.i2l, 1) := by decide +kernel
theorem dX1_divideByDigit_62 : decode cX1_divideByDigit 62 = .ok (.lrem, 1) := by decide +kernel
theorem dX1_divideByDigit_63 : decode cX1_divideByDigit 63 = .ok (.lstore 5, 2) := by decide +kernel
theorem dX1_divideByDigit_65 : decode cX1_divideByDigit 65 = .ok (.iinc 9 (-1), 3) := by decide +kernel
theorem dX1_divideByDigit_68 : decode cX1_divideByDigit 68 = .ok (.goto (-46), 3) := by decide +kernel
theorem dX1_divideByDigit_71 : decode cX1_divideByDigit 71 = .ok (.aload_n 3, 1) := by decide +kernel
theorem dX1_divideByDigit_72 : decode cX1_divideByDigit 72 = .ok (.iload 8, 2) := by decide +kernel
theorem dX1_divideByDigit_74 : decode cX1_divideByDigit 74 = .ok (.iload 4, 2) := by decide +kernel
theorem dX1_divideByDigit_76 : decode cX1_divideByDigit 76 = .ok (.invokevirtual 75, 3) := by decide +kernel
theorem dX1_divideByDigit_79 : decode cX1_divideByDigit 79 = .ok (.aload_n 1, 1) := by decide +kernel
theorem dX1_divideByDigit_80 : decode cX1_divideByDigit 80 = .ok (.aload_n 1, 1) := by decide +kernel
theorem dX1_divideByDigit_81 : decode cX1_divideByDigit 81 = .ok (.getfield 36, 3) := by decide +kernel
theorem dX1_divideByDigit_84 : decode cX1_divideByDigit 84 = .ok (.i2l, 1) := by decide +kernel
theorem dX1_divideByDigit_85 : decode cX1_divideByDigit 85 = .ok (.lload 5, 2) := by decide +kernel
theorem dX1_divideByDigit_87 : decode cX1_divideByDigit 87 = .ok (.lmul, 1) := by decide +kernel
theorem dX1_divideByDigit_88 : decode cX1_divideByDigit 88 = .ok (.invokevirtual 79, 3) := by decide +kernel
theorem dX1_divideByDigit_91 : decode cX1_divideByDigit 91 = .ok (.return_, 1) := by decide +kernel
theorem dX1_divideByDigits_0 : decode cX1_divideByDigits 0 = .ok (.aload_n 2, 1) := by decide +kernel
theorem dX1_divideByDigits_1 : decode cX1_divideByDigits 1 = .ok (.getfield 54, 3) := by decide +kernel
theorem dX1_divideByDigits_4 : decode cX1_divideByDigits 4 = .ok (.istore 5, 2) := by decide +kernel
theorem dX1_divideByDigits_6 : decode cX1_divideByDigits 6 = .ok (.aload_n 1, 1) := by decide +kernel
theorem dX1_divideByDigits_7 : decode cX1_divideByDigits 7 = .ok (.getfield 54, 3) := by decide +kernel
theorem dX1_divideByDigits_10 : decode cX1_divideByDigits 10 = .ok (.iload 5, 2) := by decide +kernel
theorem dX1_divideByDigits_12 : decode cX1_divideByDigits 12 = .ok (.isub, 1) := by decide +kernel
theorem dX1_divideByDigits_13 : decode cX1_divideByDigits 13 = .ok (.iconst 1, 1) := by decide +kernel
theorem dX1_divideByDigits_14 : decode cX1_divideByDigits 14 = .ok (.iadd, 1) := by decide +kernel
theorem dX1_divideByDigits_15 : decode cX1_divideByDigits 15 = .ok (.istore 6, 2) := by decide +kernel
theorem dX1_divideByDigits_17 : decode cX1_divideByDigits 17 = .ok (.aload_n 2, 1) := by decide +kernel
theorem dX1_divideByDigits_18 : decode cX1_divideByDigits 18 = .ok (.getfield 60, 3) := by decide +kernel
theorem dX1_divideByDigits_21 : decode cX1_divideByDigits 21 = .ok (.iload 5, 2) := by decide +kernel
theorem dX1_divideByDigits_23 : decode cX1_divideByDigits 23 = .ok (.iconst 1, 1) := by decide +kernel
theorem dX1_divideByDigits_24 : decode cX1_divideByDigits 24 = .ok (.isub, 1) := by decide +kernel
theorem dX1_divideByDigits_25 : decode cX1_divideByDigits 25 = .ok (.iaload, 1) := by decide +kernel
theorem dX1_divideByDigits_26 : decode cX1_divideByDigits 26 = .ok (.invokestatic 83, 3) := by decide +kernel
theorem dX1_divideByDigits_29 : decode cX1_divideByDigits 29 = .ok (.iconst 1, 1) := by decide +kernel
theorem dX1_divideByDigits_30 : decode cX1_divideByDigits 30 = .ok (.isub, 1) := by decide +kernel
theorem dX1_divideByDigits_31 : decode cX1_divideByDigits 31 = .ok (.istore 7, 2) := by decide +kernel
theorem dX1_divideByDigits_33 : decode cX1_divideByDigits 33 = .ok (.aload_n 2, 1) := by decide +kernel
theorem dX1_divideByDigits_34 : decode cX1_divideByDigits 34 = .ok (.iload 7, 2) := by decide +kernel
theorem dX1_divideByDigits_36 : decode cX1_divideByDigits 36 = .ok (.aload_n 0, 1) := by decide +kernel
theorem dX1_divideByDigits_37 : decode cX1_divideByDigits 37 = .ok (.getfield 15, 3) := by decide +kernel
theorem dX1_divideByDigits_40 : decode cX1_divideByDigits 40 = .ok (.invokestatic 88, 3) := by decide +kernel
theorem dX1_divideByDigits_43 : decode cX1_divideByDigits 43 = .ok (.aload_n 1, 1) := by decide +kernel
theorem dX1_divideByDigits_44 : decode cX1_divideByDigits 44 = .ok (.iload 7, 2) := by decide +kernel
theorem dX1_divideByDigits_46 : decode cX1_divideByDigits 46 = .ok (.aload_n 0, 1) := by decide +kernel
theorem dX1_divideByDigits_47 : decode cX1_divideByDigits 47 = .ok (.getfield 9, 3) := by decide +kernel
theorem dX1_divideByDigits_50 : decode cX1_divideByDigits 50 = .ok (.invokestatic 88, 3) := by decide +kernel
theorem dX1_divideByDigits_53 : decode cX1_divideByDigits 53 = .ok (.iload 6, 2) := by decide +kernel
theorem dX1_divideByDigits_55 : decode cX1_divideByDigits 55 = .ok (.iconst 1, 1) := by decide +kernel
theorem dX1_divideByDigits_56 : decode cX1_divideByDigits 56 = .ok (.isub, 1) := by decide +kernel
theorem dX1_divideByDigits_57 : decode cX1_divideByDigits 57 = .ok (.istore 8, 2) := by decide +kernel
theorem dX1_divideByDigits_59 : decode cX1_divideByDigits 59 = .ok (.iload 8, 2) := by decide +kernel
theorem dX1_divideByDigits_61 : decode cX1_divideByDigits 61 = .ok (.ifCond .lt 56, 3) := by decide +kernel
theorem dX1_divideByDigits_64 : decode cX1_divideByDigits 64 = .ok (.aload_n 0, 1) := by decide +kernel
theorem dX1_divideByDigits_65 : decode cX1_divideByDigits 65 = .ok (.iload 8, 2) := by decide +kernel
theorem dX1_divideByDigits_67 : decode cX1_divideByDigits 67 = .ok (.iload 5, 2) := by decide +kernel
theorem dX1_divideByDigits_69 : decode cX1_divideByDigits 69 = .ok (.invokevirtual 92, 3) := by decide +kernel
theorem dX1_divideByDigits_72 : decode cX1_divideByDigits 72 = .ok (.lstore 9, 2) := by decide +kernel
theorem dX1_divideByDigits_74 : decode cX1_divideByDigits 74 = .ok (.aload_n 0, 1) := by decide +kernel
theorem dX1_divideByDigits_75 : decode cX1_divideByDigits 75 = .ok (.lload 9, 2) := by decide +kernel
theorem dX1_divideByDigits_77 : decode cX1_divideByDigits 77 = .ok (.iload 8, 2) := by decide +kernel
theorem dX1_divideByDigits_79 : decode cX1_divideByDigits 79 = .ok (.iload 5, 2) := by decide +kernel
theorem dX1_divideByDigits_81 : decode cX1_divideByDigits 81 = .ok (.invokevirtual 96, 3) := by decide +kernel
theorem dX1_divideByDigits_84 : decode cX1_divideByDigits 84 = .ok (.ifCond .eq 17, 3) := by decide +kernel
theorem dX1_divideByDigits_87 : decode cX1_divideByDigits 87 = .ok (.lload 9, 2) := by decide +kernel
theorem dX1_divideByDigits_89 : decode cX1_divideByDigits 89 = .ok (.lconst 1, 1) := by decide +kernel
theorem dX1_divideByDigits_90 : decode cX1_divideByDigits 90 = .ok (.lsub, 1) := by decide +kernel
theorem dX1_divideByDigits_91 : decode cX1_divideByDigits 91 = .ok (.lstore 9, 2) := by decide +kernel
theorem dX1_divideByDigits_93 : decode cX1_divideByDigits 93 = .ok (.aload_n 0, 1) := by decide +kernel
theorem dX1_divideByDigits_94 : decode cX1_divideByDigits 94 = .ok (.iload 8, 2) := by decide +kernel
theorem dX1_divideByDigits_96 : decode cX1_divideByDigits 96 = .ok (.iload 5, 2) := by decide +kernel
theorem dX1_divideByDigits_98 : decode cX1_divideByDigits 98 = .ok (.invokevirtual 100, 3) := by decide +kernel
theorem dX1_divideByDigits_101 : decode cX1_divideByDigits 101 = .ok (.aload_n 3, 1) := by decide +kernel
theorem dX1_divideByDigits_102 : decode cX1_divideByDigits 102 = .ok (.getfield 60, 3) := by decide +kernel
theorem dX1_divideByDigits_105 : decode cX1_divideByDigits 105 = .ok (.iload 8, 2) := by decide +kernel
theorem dX1_divideByDigits_107 : decode cX1_divideByDigits 107 = .ok (.lload 9, 2) := by decide +kernel
theorem dX1_divideByDigits_109 : decode cX1_divideByDigits 109 = .ok (.l2i, 1) := by decide +kernel
theorem dX1_divideByDigits_110 : decode cX1_divideByDigits 110 = .ok (.iastore, 1) := by decide +kernel
theorem dX1_divideByDigits_111 : decode cX1_divideByDigits 111 = .ok (.iinc 8 (-1), 3) := by decide +kernel
theorem dX1_divideByDigits_114 : decode cX1_divideByDigits 114 = .ok (.goto (-55), 3) := by decide +kernel
theorem dX1_divideByDigits_117 : decode cX1_divideByDigits 117 = .ok (.aload_n 3, 1) := by decide +kernel
theorem dX1_divideByDigits_118 : decode cX1_divideByDigits 118 = .ok (.iload 6, 2) := by decide +kernel
theorem dX1_divideByDigits_120 : decode cX1_divideByDigits 120 = .ok (.iload 4, 2) := by decide +kernel
theorem dX1_divideByDigits_122 : decode cX1_divideByDigits 122 = .ok (.invokevirtual 75, 3) := by decide +kernel
theorem dX1_divideByDigits_125 : decode cX1_divideByDigits 125 = .ok (.iconst 0, 1) := by decide +kernel
theorem dX1_divideByDigits_126 : decode cX1_divideByDigits 126 = .ok (.istore 8, 2) := by decide +kernel
theorem dX1_divideByDigits_128 : decode cX1_divideByDigits 128 = .ok (.iload 8, 2) := by decide +kernel
theorem dX1_divideByDigits_130 : decode cX1_divideByDigits 130 = .ok (.iload 5, 2) := by decide +kernel
theorem dX1_divideByDigits_132 : decode cX1_divideByDigits 132 = .ok (.if_icmp .ge 50, 3) := by decide +kernel
theorem dX1_divideByDigits_135 : decode cX1_divideByDigits 135 = .ok (.aload_n 0, 1) := by decide +kernel
theorem dX1_divideByDigits_136 : decode cX1_divideByDigits 136 = .ok (.getfield 9, 3) := by decide +kernel
theorem dX1_divideByDigits_139 : decode cX1_divideByDigits 139 = .ok (.iload 8, 2) := by decide +kernel
theorem dX1_divideByDigits_141 : decode cX1_divideByDigits 141 = .ok (.iconst 1, 1) := by decide +kernel
theorem dX1_divideByDigits_142 : decode cX1_divideByDigits 142 = .ok (.iadd, 1) := by decide +kernel
theorem dX1_divideByDigits_143 : decode cX1_divideByDigits 143 = .ok (.iaload, 1) := by decide +kernel
theorem dX1_divideByDigits_144 : decode cX1_divideByDigits 144 = .ok (.i2l, 1) := by decide +kernel
theorem dX1_divideByDigits_145 : decode cX1_divideByDigits 145 = .ok (.bipush 31, 2) := by decide +kernel
theorem dX1_divideByDigits_147 : decode cX1_divideByDigits 147 = .ok (.lshl, 1) := by decide +kernel
theorem dX1_divideByDigits_148 : decode cX1_divideByDigits 148 = .ok (.aload_n 0, 1) := by decide +kernel
theorem dX1_divideByDigits_149 : decode cX1_divideByDigits 149 = .ok (.getfield 9, 3) := by decide +kernel
theorem dX1_divideByDigits_152 : decode cX1_divideByDigits 152 = .ok (.iload 8, 2) := by decide +kernel
theorem dX1_divideByDigits_154 : decode cX1_divideByDigits 154 = .ok (.iaload, 1) := by decide +kernel
theorem dX1_divideByDigits_155 : decode cX1_divideByDigits 155 = .ok (.i2l, 1) := by decide +kernel
theorem dX1_divideByDigits_156 : decode cX1_divideByDigits 156 = .ok (.lor, 1) := by decide +kernel
theorem dX1_divideByDigits_157 : decode cX1_divideByDigits 157 = .ok (.lstore 9, 2) := by decide +kernel
theorem dX1_divideByDigits_159 : decode cX1_divideByDigits 159 = .ok (.aload_n 1, 1) := by decide +kernel
theorem dX1_divideByDigits_160 : decode cX1_divideByDigits 160 = .ok (.getfield 60, 3) := by decide +kernel
theorem dX1_divideByDigits_163 : decode cX1_divideByDigits 163 = .ok (.iload 8, 2) := by decide +kernel
theorem dX1_divideByDigits_165 : decode cX1_divideByDigits 165 = .ok (.lload 9, 2) := by decide +kernel
theorem dX1_divideByDigits_167 : decode cX1_divideByDigits 167 = .ok (.iload 7, 2) := by decide +kernel
theorem dX1_divideByDigits_169 : decode cX1_divideByDigits 169 = .ok (.lshr, 1) := by decide +kernel
theorem dX1_divideByDigits_170 : decode cX1_divideByDigits 170 = .ok (.ldc2_w 103, 3) := by decide +kernel
theorem dX1_divideByDigits_173 : decode cX1_divideByDigits 173 = .ok (.land, 1) := by decide +kernel
theorem dX1_divideByDigits_174 : decode cX1_divideByDigits 174 = .ok (.l2i, 1) := by decide +kernel
theorem dX1_divideByDigits_175 : decode cX1_divideByDigits 175 = .ok (.iastore, 1) := by decide +kernel
theorem dX1_divideByDigits_176 : decode cX1_divideByDigits 176 = .ok (.iinc 8 1, 3) := by decide +kernel
theorem dX1_divideByDigits_179 : decode cX1_divideByDigits 179 = .ok (.goto (-51), 3) := by decide +kernel
theorem dX1_divideByDigits_182 : decode cX1_divideByDigits 182 = .ok (.aload_n 1, 1) := by decide +kernel
theorem dX1_divideByDigits_183 : decode cX1_divideByDigits 183 = .ok (.iload 5, 2) := by decide +kernel
theorem dX1_divideByDigits_185 : decode cX1_divideByDigits 185 = .ok (.aload_n 1, 1) := by decide +kernel
theorem dX1_divideByDigits_186 : decode cX1_divideByDigits 186 = .ok (.getfield 36, 3) := by decide +kernel
theorem dX1_divideByDigits_189 : decode cX1_divideByDigits 189 = .ok (.invokevirtual 75, 3) := by decide +kernel
theorem dX1_divideByDigits_192 : decode cX1_divideByDigits 192 = .ok (.return_, 1) := by decide +kernel
theorem dX1_shiftUp_0 : decode cX1_shiftUp 0 = .ok (.lconst 0, 1) := by decide +kernel
theorem dX1_shiftUp_1 : decode cX1_shiftUp 1 = .ok (.lstore_n 3, 1) := by decide +kernel
theorem dX1_shiftUp_2 : decode cX1_shiftUp 2 = .ok (.iconst 0, 1) := by decide +kernel
theorem dX1_shiftUp_3 : decode cX1_shiftUp 3 = .ok (.istore 5, 2) := by decide +kernel
theorem dX1_shiftUp_5 : decode cX1_shiftUp 5 = .ok (.iload 5, 2) := by decide +kernel
theorem dX1_shiftUp_7 : decode cX1_shiftUp 7 = .ok (.aload_n 0, 1) := by decide +kernel
theorem dX1_shiftUp_8 : decode cX1_shiftUp 8 = .ok (.getfield 54, 3) := by decide +kernel
theorem dX1_shiftUp_11 : decode cX1_shiftUp 11 = .ok (.if_icmp .ge 37, 3) := by decide +kernel
theorem dX1_shiftUp_14 : decode cX1_shiftUp 14 = .ok (.lload_n 3, 1) := by decide +kernel
theorem dX1_shiftUp_15 : decode cX1_shiftUp 15 = .ok (.aload_n 0, 1) := by decide +kernel
theorem dX1_shiftUp_16 : decode cX1_shiftUp 16 = .ok (.getfield 60, 3) := by decide +kernel
theorem dX1_shiftUp_19 : decode cX1_shiftUp 19 = .ok (.iload 5, 2) := by decide +kernel
theorem dX1_shiftUp_21 : decode cX1_shiftUp 21 = .ok (.iaload, 1) := by decide +kernel
theorem dX1_shiftUp_22 : decode cX1_shiftUp 22 = .ok (.i2l, 1) := by decide +kernel
theorem dX1_shiftUp_23 : decode cX1_shiftUp 23 = .ok (.iload_n 1, 1) := by decide +kernel
theorem dX1_shiftUp_24 : decode cX1_shiftUp 24 = .ok (.lshl, 1) := by decide +kernel
theorem dX1_shiftUp_25 : decode cX1_shiftUp 25 = .ok (.lor, 1) := by decide +kernel
theorem dX1_shiftUp_26 : decode cX1_shiftUp 26 = .ok (.lstore_n 3, 1) := by decide +kernel
theorem dX1_shiftUp_27 : decode cX1_shiftUp 27 = .ok (.aload_n 2, 1) := by decide +kernel
theorem dX1_shiftUp_28 : decode cX1_shiftUp 28 = .ok (.iload 5, 2) := by decide +kernel
theorem dX1_shiftUp_30 : decode cX1_shiftUp 30 = .ok (.lload_n 3, 1) := by decide +kernel
theorem dX1_shiftUp_31 : decode cX1_shiftUp 31 = .ok (.ldc2_w 103, 3) := by decide +kernel
theorem dX1_shiftUp_34 : decode cX1_shiftUp 34 = .ok (.land, 1) := by decide +kernel
theorem dX1_shiftUp_35 : decode cX1_shiftUp 35 = .ok (.l2i, 1) := by decide +kernel
theorem dX1_shiftUp_36 : decode cX1_shiftUp 36 = .ok (.iastore, 1) := by decide +kernel
theorem dX1_shiftUp_37 : decode cX1_shiftUp 37 = .ok (.lload_n 3, 1) := by decide +kernel
theorem dX1_shiftUp_38 : decode cX1_shiftUp 38 = .ok (.bipush 31, 2) := by decide +kernel
theorem dX1_shiftUp_40 : decode cX1_shiftUp 40 = .ok (.lshr, 1) := by decide +kernel
theorem dX1_shiftUp_41 : decode cX1_shiftUp 41 = .ok (.lstore_n 3, 1) := by decide +kernel
theorem dX1_shiftUp_42 : decode cX1_shiftUp 42 = .ok (.iinc 5 1, 3) := by decide +kernel
theorem dX1_shiftUp_45 : decode cX1_shiftUp 45 = .ok (.goto (-40), 3) := by decide +kernel
theorem dX1_shiftUp_48 : decode cX1_shiftUp 48 = .ok (.aload_n 2, 1) := by decide +kernel
theorem dX1_shiftUp_49 : decode cX1_shiftUp 49 = .ok (.aload_n 0, 1) := by decide +kernel
theorem dX1_shiftUp_50 : decode cX1_shiftUp 50 = .ok (.getfield 54, 3) := by decide +kernel
theorem dX1_shiftUp_53 : decode cX1_shiftUp 53 = .ok (.lload_n 3, 1) := by decide +kernel
theorem dX1_shiftUp_54 : decode cX1_shiftUp 54 = .ok (.l2i, 1) := by decide +kernel
theorem dX1_shiftUp_55 : decode cX1_shiftUp 55 = .ok (.iastore, 1) := by decide +kernel
theorem dX1_shiftUp_56 : decode cX1_shiftUp 56 = .ok (.return_, 1) := by decide +kernel
theorem dX1_guess_0 : decode cX1_guess 0 = .ok (.iconst 1, 1) := by decide +kernel
theorem dX1_guess_1 : decode cX1_guess 1 = .ok (.aload_n 0, 1) := by decide +kernel
theorem dX1_guess_2 : decode cX1_guess 2 = .ok (.getfield 15, 3) := by decide +kernel
theorem dX1_guess_5 : decode cX1_guess 5 = .ok (.iload_n 2, 1) := by decide +kernel
theorem dX1_guess_6 : decode cX1_guess 6 = .ok (.iconst 1, 1) := by decide +kernel
theorem dX1_guess_7 : decode cX1_guess 7 = .ok (.isub, 1) := by decide +kernel
theorem dX1_guess_8 : decode cX1_guess 8 = .ok (.iaload, 1) := by decide +kernel
theorem dX1_guess_9 : decode cX1_guess 9 = .ok (.invokestatic 71, 3) := by decide +kernel
theorem dX1_guess_12 : decode cX1_guess 12 = .ok (.i2l, 1) := by decide +kernel
theorem dX1_guess_13 : decode cX1_guess 13 = .ok (.lstore_n 3, 1) := by decide +kernel
theorem dX1_guess_14 : decode cX1_guess 14 = .ok (.aload_n 0, 1) := by decide +kernel
theorem dX1_guess_15 : decode cX1_guess 15 = .ok (.getfield 9, 3) := by decide +kernel
theorem dX1_guess_18 : decode cX1_guess 18 = .ok (.iload_n 1, 1) := by decide +kernel
theorem dX1_guess_19 : decode cX1_guess 19 = .ok (.iload_n 2, 1) := by decide +kernel
theorem dX1_guess_20 : decode cX1_guess 20 = .ok (.iadd, 1) := by decide +kernel
theorem dX1_guess_21 : decode cX1_guess 21 = .ok (.iaload, 1) := by decide +kernel
theorem dX1_guess_22 : decode cX1_guess 22 = .ok (.i2l, 1) := by decide +kernel
theorem dX1_guess_23 : decode cX1_guess 23 = .ok (.bipush 31, 2) := by decide +kernel
theorem dX1_guess_25 : decode cX1_guess 25 = .ok (.lshl, 1) := by decide +kernel
theorem dX1_guess_26 : decode cX1_guess 26 = .ok (.aload_n 0, 1) := by decide +kernel
theorem dX1_guess_27 : decode cX1_guess 27 = .ok (.getfield 9, 3) := by decide +kernel
theorem dX1_guess_30 : decode cX1_guess 30 = .ok (.iload_n 1, 1) := by decide +kernel
theorem dX1_guess_31 : decode cX1_guess 31 = .ok (.iload_n 2, 1) := by decide +kernel
theorem dX1_guess_32 : decode cX1_guess 32 = .ok (.iadd, 1) := by decide +kernel
theorem dX1_guess_33 : decode cX1_guess 33 = .ok (.iconst 1, 1) := by decide +kernel
theorem dX1_guess_34 : decode cX1_guess 34 = .ok (.isub, 1) := by decide +kernel
theorem dX1_guess_35 : decode cX1_guess 35 = .ok (.iaload, 1) := by decide +kernel
theorem dX1_guess_36 : decode cX1_guess 36 = .ok (.i2l, 1) := by decide +kernel
theorem dX1_guess_37 : decode cX1_guess 37 = .ok (.lor, 1) := by decide +kernel
theorem dX1_guess_38 : decode cX1_guess 38 = .ok (.lstore 5, 2) := by decide +kernel
theorem dX1_guess_40 : decode cX1_guess 40 = .ok (.lload 5, 2) := by decide +kernel
theorem dX1_guess_42 : decode cX1_guess 42 = .ok (.lload_n 3, 1) := by decide +kernel
theorem dX1_guess_43 : decode cX1_guess 43 = .ok (.ldiv, 1) := by decide +kernel
theorem dX1_guess_44 : decode cX1_guess 44 = .ok (.lstore 7, 2) := by decide +kernel
theorem dX1_guess_46 : decode cX1_guess 46 = .ok (.lload 5, 2) := by decide +kernel
theorem dX1_guess_48 : decode cX1_guess 48 = .ok (.lload_n 3, 1) := by decide +kernel
theorem dX1_guess_49 : decode cX1_guess 49 = .ok (.lrem, 1) := by decide +kernel
theorem dX1_guess_50 : decode cX1_guess 50 = .ok (.lstore 9, 2) := by decide +kernel
theorem dX1_guess_52 : decode cX1_guess 52 = .ok (.iconst 0, 1) := by decide +kernel
theorem dX1_guess_53 : decode cX1_guess 53 = .ok (.istore 11, 2) := by decide +kernel
theorem dX1_guess_55 : decode cX1_guess 55 = .ok (.iload 11, 2) := by decide +kernel
theorem dX1_guess_57 : decode cX1_guess 57 = .ok (.iconst 3, 1) := by decide +kernel
theorem dX1_guess_58 : decode cX1_guess 58 = .ok (.if_icmp .ge 72, 3) := by decide +kernel
theorem dX1_guess_61 : decode cX1_guess 61 = .ok (.lload 9, 2) := by decide +kernel
theorem dX1_guess_63 : decode cX1_guess 63 = .ok (.ldc2_w 103, 3) := by decide +kernel
theorem dX1_guess_66 : decode cX1_guess 66 = .ok (.lcmp, 1) := by decide +kernel
theorem dX1_guess_67 : decode cX1_guess 67 = .ok (.ifCond .gt 63, 3) := by decide +kernel
theorem dX1_guess_70 : decode cX1_guess 70 = .ok (.lload 7, 2) := by decide +kernel
theorem dX1_guess_72 : decode cX1_guess 72 = .ok (.ldc2_w 103, 3) := by decide +kernel
theorem dX1_guess_75 : decode cX1_guess 75 = .ok (.lcmp, 1) := by decide +kernel
theorem dX1_guess_76 : decode cX1_guess 76 = .ok (.ifCond .gt 36, 3) := by decide +kernel
theorem dX1_guess_79 : decode cX1_guess 79 = .ok (.lload 7, 2) := by decide +kernel
theorem dX1_guess_81 : decode cX1_guess 81 = .ok (.aload_n 0, 1) := by decide +kernel
theorem dX1_guess_82 : decode cX1_guess 82 = .ok (.getfield 15, 3) := by decide +kernel
theorem dX1_guess_85 : decode cX1_guess 85 = .ok (.iload_n 2, 1) := by decide +kernel
theorem dX1_guess_86 : decode cX1_guess 86 = .ok (.iconst 2, 1) := by decide +kernel
theorem dX1_guess_87 : decode cX1_guess 87 = .ok (.isub, 1) := by decide +kernel
theorem dX1_guess_88 : decode cX1_guess 88 = .ok (.iaload, 1) := by decide +kernel
theorem dX1_guess_89 : decode cX1_guess 89 = .ok (.i2l, 1) := by decide +kernel
theorem dX1_guess_90 : decode cX1_guess 90 = .ok (.lmul, 1) := by decide +kernel
theorem dX1_guess_91 : decode cX1_guess 91 = .ok (.lload 9, 2) := by decide +kernel
theorem dX1_guess_93 : decode cX1_guess 93 = .ok (.bipush 31, 2) := by decide +kernel
theorem dX1_guess_95 : decode cX1_guess 95 = .ok (.lshl, 1) := by decide +kernel
theorem dX1_guess_96 : decode cX1_guess 96 = .ok (.aload_n 0, 1) := by decide +kernel
theorem dX1_guess_97 : decode cX1_guess 97 = .ok (.getfield 9, 3) := by decide +kernel
theorem dX1_guess_100 : decode cX1_guess 100 = .ok (.iload_n 1, 1) := by decide +kernel
theorem dX1_guess_101 : decode cX1_guess 101 = .ok (.iload_n 2, 1) := by decide +kernel
theorem dX1_guess_102 : decode cX1_guess 102 = .ok (.iadd, 1) := by decide +kernel
theorem dX1_guess_103 : decode cX1_guess 103 = .ok (.iconst 2, 1) := by decide +kernel
theorem dX1_guess_104 : decode cX1_guess 104 = .ok (.isub, 1) := by decide +kernel
theorem dX1_guess_105 : decode cX1_guess 105 = .ok (.iaload, 1) := by decide +kernel
theorem dX1_guess_106 : decode cX1_guess 106 = .ok (.i2l, 1) := by decide +kernel
theorem dX1_guess_107 : decode cX1_guess 107 = .ok (.lor, 1) := by decide +kernel
theorem dX1_guess_108 : decode cX1_guess 108 = .ok (.lcmp, 1) := by decide +kernel
theorem dX1_guess_109 : decode cX1_guess 109 = .ok (.ifCond .le 15, 3) := by decide +kernel
theorem dX1_guess_112 : decode cX1_guess 112 = .ok (.lload 7, 2) := by decide +kernel
theorem dX1_guess_114 : decode cX1_guess 114 = .ok (.lconst 1, 1) := by decide +kernel
theorem dX1_guess_115 : decode cX1_guess 115 = .ok (.lsub, 1) := by decide +kernel
theorem dX1_guess_116 : decode cX1_guess 116 = .ok (.lstore 7, 2) := by decide +kernel
theorem dX1_guess_118 : decode cX1_guess 118 = .ok (.lload 9, 2) := by decide +kernel
theorem dX1_guess_120 : decode cX1_guess 120 = .ok (.lload_n 3, 1) := by decide +kernel
theorem dX1_guess_121 : decode cX1_guess 121 = .ok (.ladd, 1) := by decide +kernel
theorem dX1_guess_122 : decode cX1_guess 122 = .ok (.lstore 9, 2) := by decide +kernel
theorem dX1_guess_124 : decode cX1_guess 124 = .ok (.iinc 11 1, 3) := by decide +kernel
theorem dX1_guess_127 : decode cX1_guess 127 = .ok (.goto (-72), 3) := by decide +kernel
theorem dX1_guess_130 : decode cX1_guess 130 = .ok (.lload 7, 2) := by decide +kernel
theorem dX1_guess_132 : decode cX1_guess 132 = .ok (.lreturn, 1) := by decide +kernel
theorem dX1_takeAway_0 : decode cX1_takeAway 0 = .ok (.lconst 0, 1) := by decide +kernel
theorem dX1_takeAway_1 : decode cX1_takeAway 1 = .ok (.lstore 5, 2) := by decide +kernel
theorem dX1_takeAway_3 : decode cX1_takeAway 3 = .ok (.iconst 0, 1) := by decide +kernel
theorem dX1_takeAway_4 : decode cX1_takeAway 4 = .ok (.istore 7, 2) := by decide +kernel
theorem dX1_takeAway_6 : decode cX1_takeAway 6 = .ok (.iload 7, 2) := by decide +kernel
theorem dX1_takeAway_8 : decode cX1_takeAway 8 = .ok (.iload 4, 2) := by decide +kernel
theorem dX1_takeAway_10 : decode cX1_takeAway 10 = .ok (.if_icmp .ge 58, 3) := by decide +kernel
theorem dX1_takeAway_13 : decode cX1_takeAway 13 = .ok (.lload 5, 2) := by decide +kernel
theorem dX1_takeAway_15 : decode cX1_takeAway 15 = .ok (.aload_n 0, 1) := by decide +kernel
theorem dX1_takeAway_16 : decode cX1_takeAway 16 = .ok (.getfield 9, 3) := by decide +kernel
theorem dX1_takeAway_19 : decode cX1_takeAway 19 = .ok (.iload_n 3, 1) := by decide +kernel
theorem dX1_takeAway_20 : decode cX1_takeAway 20 = .ok (.iload 7, 2) := by decide +kernel
theorem dX1_takeAway_22 : decode cX1_takeAway 22 = .ok (.iadd, 1) := by decide +kernel
theorem dX1_takeAway_23 : decode cX1_takeAway 23 = .ok (.iaload, 1) := by decide +kernel
theorem dX1_takeAway_24 : decode cX1_takeAway 24 = .ok (.i2l, 1) := by decide +kernel
theorem dX1_takeAway_25 : decode cX1_takeAway 25 = .ok (.lload_n 1, 1) := by decide +kernel
theorem dX1_takeAway_26 : decode cX1_takeAway 26 = .ok (.aload_n 0, 1) := by decide +kernel
theorem dX1_takeAway_27 : decode cX1_takeAway 27 = .ok (.getfield 15, 3) := by decide +kernel
theorem dX1_takeAway_30 : decode cX1_takeAway 30 = .ok (.iload 7, 2) := by decide +kernel
theorem dX1_takeAway_32 : decode cX1_takeAway 32 = .ok (.iaload, 1) := by decide +kernel
theorem dX1_takeAway_33 : decode cX1_takeAway 33 = .ok (.i2l, 1) := by decide +kernel
theorem dX1_takeAway_34 : decode cX1_takeAway 34 = .ok (.lmul, 1) := by decide +kernel
theorem dX1_takeAway_35 : decode cX1_takeAway 35 = .ok (.lsub, 1) := by decide +kernel
theorem dX1_takeAway_36 : decode cX1_takeAway 36 = .ok (.ladd, 1) := by decide +kernel
theorem dX1_takeAway_37 : decode cX1_takeAway 37 = .ok (.lstore 5, 2) := by decide +kernel
theorem dX1_takeAway_39 : decode cX1_takeAway 39 = .ok (.aload_n 0, 1) := by decide +kernel
theorem dX1_takeAway_40 : decode cX1_takeAway 40 = .ok (.getfield 9, 3) := by decide +kernel
theorem dX1_takeAway_43 : decode cX1_takeAway 43 = .ok (.iload_n 3, 1) := by decide +kernel
theorem dX1_takeAway_44 : decode cX1_takeAway 44 = .ok (.iload 7, 2) := by decide +kernel
theorem dX1_takeAway_46 : decode cX1_takeAway 46 = .ok (.iadd, 1) := by decide +kernel
theorem dX1_takeAway_47 : decode cX1_takeAway 47 = .ok (.lload 5, 2) := by decide +kernel
theorem dX1_takeAway_49 : decode cX1_takeAway 49 = .ok (.ldc2_w 103, 3) := by decide +kernel
theorem dX1_takeAway_52 : decode cX1_takeAway 52 = .ok (.land, 1) := by decide +kernel
theorem dX1_takeAway_53 : decode cX1_takeAway 53 = .ok (.l2i, 1) := by decide +kernel
theorem dX1_takeAway_54 : decode cX1_takeAway 54 = .ok (.iastore, 1) := by decide +kernel
theorem dX1_takeAway_55 : decode cX1_takeAway 55 = .ok (.lload 5, 2) := by decide +kernel
theorem dX1_takeAway_57 : decode cX1_takeAway 57 = .ok (.bipush 31, 2) := by decide +kernel
theorem dX1_takeAway_59 : decode cX1_takeAway 59 = .ok (.lshr, 1) := by decide +kernel
theorem dX1_takeAway_60 : decode cX1_takeAway 60 = .ok (.lstore 5, 2) := by decide +kernel
theorem dX1_takeAway_62 : decode cX1_takeAway 62 = .ok (.iinc 7 1, 3) := by decide +kernel
theorem dX1_takeAway_65 : decode cX1_takeAway 65 = .ok (.goto (-59), 3) := by decide +kernel
theorem dX1_takeAway_68 : decode cX1_takeAway 68 = .ok (.lload 5, 2) := by decide +kernel
theorem dX1_takeAway_70 : decode cX1_takeAway 70 = .ok (.aload_n 0, 1) := by decide +kernel
theorem dX1_takeAway_71 : decode cX1_takeAway 71 = .ok (.getfield 9, 3) := by decide +kernel
theorem dX1_takeAway_74 : decode cX1_takeAway 74 = .ok (.iload_n 3, 1) := by decide +kernel
theorem dX1_takeAway_75 : decode cX1_takeAway 75 = .ok (.iload 4, 2) := by decide +kernel
theorem dX1_takeAway_77 : decode cX1_takeAway 77 = .ok (.iadd, 1) := by decide +kernel
theorem dX1_takeAway_78 : decode cX1_takeAway 78 = .ok (.iaload, 1) := by decide +kernel
theorem dX1_takeAway_79 : decode cX1_takeAway 79 = .ok (.i2l, 1) := by decide +kernel
theorem dX1_takeAway_80 : decode cX1_takeAway 80 = .ok (.ladd, 1) := by decide +kernel
theorem dX1_takeAway_81 : decode cX1_takeAway 81 = .ok (.lstore 5, 2) := by decide +kernel
theorem dX1_takeAway_83 : decode cX1_takeAway 83 = .ok (.aload_n 0, 1) := by decide +kernel
theorem dX1_takeAway_84 : decode cX1_takeAway 84 = .ok (.getfield 9, 3) := by decide +kernel
theorem dX1_takeAway_87 : decode cX1_takeAway 87 = .ok (.iload_n 3, 1) := by decide +kernel
theorem dX1_takeAway_88 : decode cX1_takeAway 88 = .ok (.iload 4, 2) := by decide +kernel
theorem dX1_takeAway_90 : decode cX1_takeAway 90 = .ok (.iadd, 1) := by decide +kernel
theorem dX1_takeAway_91 : decode cX1_takeAway 91 = .ok (.lload 5, 2) := by decide +kernel
theorem dX1_takeAway_93 : decode cX1_takeAway 93 = .ok (.ldc2_w 103, 3) := by decide +kernel
theorem dX1_takeAway_96 : decode cX1_takeAway 96 = .ok (.land, 1) := by decide +kernel
theorem dX1_takeAway_97 : decode cX1_takeAway 97 = .ok (.l2i, 1) := by decide +kernel
theorem dX1_takeAway_98 : decode cX1_takeAway 98 = .ok (.iastore, 1) := by decide +kernel
theorem dX1_takeAway_99 : decode cX1_takeAway 99 = .ok (.lload 5, 2) := by decide +kernel
theorem dX1_takeAway_101 : decode cX1_takeAway 101 = .ok (.lconst 0, 1) := by decide +kernel
theorem dX1_takeAway_102 : decode cX1_takeAway 102 = .ok (.lcmp, 1) := by decide +kernel
theorem dX1_takeAway_103 : decode cX1_takeAway 103 = .ok (.ifCond .ge 7, 3) := by decide +kernel
theorem dX1_takeAway_106 : decode cX1_takeAway 106 = .ok (.iconst 1, 1) := by decide +kernel
theorem dX1_takeAway_107 : decode cX1_takeAway 107 = .ok (.goto 4, 3) := by decide +kernel
theorem dX1_takeAway_110 : decode cX1_takeAway 110 = .ok (.iconst 0, 1) := by decide +kernel
theorem dX1_takeAway_111 : decode cX1_takeAway 111 = .ok (.ireturn, 1) := by decide +kernel
theorem dX1_putBack_0 : decode cX1_putBack 0 = .ok (.lconst 0, 1) := by decide +kernel
theorem dX1_putBack_1 : decode cX1_putBack 1 = .ok (.lstore_n 3, 1) := by decide +kernel
theorem dX1_putBack_2 : decode cX1_putBack 2 = .ok (.iconst 0, 1) := by decide +kernel
theorem dX1_putBack_3 : decode cX1_putBack 3 = .ok (.istore 5, 2) := by decide +kernel
theorem dX1_putBack_5 : decode cX1_putBack 5 = .ok (.iload 5, 2) := by decide +kernel
theorem dX1_putBack_7 : decode cX1_putBack 7 = .ok (.iload_n 2, 1) := by decide +kernel
theorem dX1_putBack_8 : decode cX1_putBack 8 = .ok (.if_icmp .ge 51, 3) := by decide +kernel
theorem dX1_putBack_11 : decode cX1_putBack 11 = .ok (.lload_n 3, 1) := by decide +kernel
theorem dX1_putBack_12 : decode cX1_putBack 12 = .ok (.aload_n 0, 1) := by decide +kernel
theorem dX1_putBack_13 : decode cX1_putBack 13 = .ok (.getfield 9, 3) := by decide +kernel
theorem dX1_putBack_16 : decode cX1_putBack 16 = .ok (.iload_n 1, 1) := by decide +kernel
theorem dX1_putBack_17 : decode cX1_putBack 17 = .ok (.iload 5, 2) := by decide +kernel
theorem dX1_putBack_19 : decode cX1_putBack 19 = .ok (.iadd, 1) := by decide +kernel
theorem dX1_putBack_20 : decode cX1_putBack 20 = .ok (.iaload, 1) := by decide +kernel
theorem dX1_putBack_21 : decode cX1_putBack 21 = .ok (.i2l, 1) := by decide +kernel
theorem dX1_putBack_22 : decode cX1_putBack 22 = .ok (.aload_n 0, 1) := by decide +kernel
theorem dX1_putBack_23 : decode cX1_putBack 23 = .ok (.getfield 15, 3) := by decide +kernel
theorem dX1_putBack_26 : decode cX1_putBack 26 = .ok (.iload 5, 2) := by decide +kernel
theorem dX1_putBack_28 : decode cX1_putBack 28 = .ok (.iaload, 1) := by decide +kernel
theorem dX1_putBack_29 : decode cX1_putBack 29 = .ok (.i2l, 1) := by decide +kernel
theorem dX1_putBack_30 : decode cX1_putBack 30 = .ok (.ladd, 1) := by decide +kernel
theorem dX1_putBack_31 : decode cX1_putBack 31 = .ok (.ladd, 1) := by decide +kernel
theorem dX1_putBack_32 : decode cX1_putBack 32 = .ok (.lstore_n 3, 1) := by decide +kernel
theorem dX1_putBack_33 : decode cX1_putBack 33 = .ok (.aload_n 0, 1) := by decide +kernel
theorem dX1_putBack_34 : decode cX1_putBack 34 = .ok (.getfield 9, 3) := by decide +kernel
theorem dX1_putBack_37 : decode cX1_putBack 37 = .ok (.iload_n 1, 1) := by decide +kernel
theorem dX1_putBack_38 : decode cX1_putBack 38 = .ok (.iload 5, 2) := by decide +kernel
theorem dX1_putBack_40 : decode cX1_putBack 40 = .ok (.iadd, 1) := by decide +kernel
theorem dX1_putBack_41 : decode cX1_putBack 41 = .ok (.lload_n 3, 1) := by decide +kernel
theorem dX1_putBack_42 : decode cX1_putBack 42 = .ok (.ldc2_w 103, 3) := by decide +kernel
theorem dX1_putBack_45 : decode cX1_putBack 45 = .ok (.land, 1) := by decide +kernel
theorem dX1_putBack_46 : decode cX1_putBack 46 = .ok (.l2i, 1) := by decide +kernel
theorem dX1_putBack_47 : decode cX1_putBack 47 = .ok (.iastore, 1) := by decide +kernel
theorem dX1_putBack_48 : decode cX1_putBack 48 = .ok (.lload_n 3, 1) := by decide +kernel
theorem dX1_putBack_49 : decode cX1_putBack 49 = .ok (.bipush 31, 2) := by decide +kernel
theorem dX1_putBack_51 : decode cX1_putBack 51 = .ok (.lshr, 1) := by decide +kernel
theorem dX1_putBack_52 : decode cX1_putBack 52 = .ok (.lstore_n 3, 1) := by decide +kernel
theorem dX1_putBack_53 : decode cX1_putBack 53 = .ok (.iinc 5 1, 3) := by decide +kernel
theorem dX1_putBack_56 : decode cX1_putBack 56 = .ok (.goto (-51), 3) := by decide +kernel
theorem dX1_putBack_59 : decode cX1_putBack 59 = .ok (.aload_n 0, 1) := by decide +kernel
theorem dX1_putBack_60 : decode cX1_putBack 60 = .ok (.getfield 9, 3) := by decide +kernel
theorem dX1_putBack_63 : decode cX1_putBack 63 = .ok (.iload_n 1, 1) := by decide +kernel
theorem dX1_putBack_64 : decode cX1_putBack 64 = .ok (.iload_n 2, 1) := by decide +kernel
theorem dX1_putBack_65 : decode cX1_putBack 65 = .ok (.iadd, 1) := by decide +kernel
theorem dX1_putBack_66 : decode cX1_putBack 66 = .ok (.aload_n 0, 1) := by decide +kernel
theorem dX1_putBack_67 : decode cX1_putBack 67 = .ok (.getfield 9, 3) := by decide +kernel
theorem dX1_putBack_70 : decode cX1_putBack 70 = .ok (.iload_n 1, 1) := by decide +kernel
theorem dX1_putBack_71 : decode cX1_putBack 71 = .ok (.iload_n 2, 1) := by decide +kernel
theorem dX1_putBack_72 : decode cX1_putBack 72 = .ok (.iadd, 1) := by decide +kernel
theorem dX1_putBack_73 : decode cX1_putBack 73 = .ok (.iaload, 1) := by decide +kernel
theorem dX1_putBack_74 : decode cX1_putBack 74 = .ok (.i2l, 1) := by decide +kernel
theorem dX1_putBack_75 : decode cX1_putBack 75 = .ok (.lload_n 3, 1) := by decide +kernel
theorem dX1_putBack_76 : decode cX1_putBack 76 = .ok (.ladd, 1) := by decide +kernel
theorem dX1_putBack_77 : decode cX1_putBack 77 = .ok (.ldc2_w 103, 3) := by decide +kernel
theorem dX1_putBack_80 : decode cX1_putBack 80 = .ok (.land, 1) := by decide +kernel
theorem dX1_putBack_81 : decode cX1_putBack 81 = .ok (.l2i, 1) := by decide +kernel
theorem dX1_putBack_82 : decode cX1_putBack 82 = .ok (.iastore, 1) := by decide +kernel
theorem dX1_putBack_83 : decode cX1_putBack 83 = .ok (.return_, 1) := by decide +kernel
