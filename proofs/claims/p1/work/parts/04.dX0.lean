theorem dX0_init_0 : decode cX0_init 0 = .ok (.aload_n 0, 1) := by decide +kernel
theorem dX0_init_1 : decode cX0_init 1 = .ok (.invokespecial 1, 3) := by decide +kernel
theorem dX0_init_4 : decode cX0_init 4 = .ok (.aload_n 0, 1) := by decide +kernel
theorem dX0_init_5 : decode cX0_init 5 = .ok (.iconst 0, 1) := by decide +kernel
theorem dX0_init_6 : decode cX0_init 6 = .ok (.putfield 7, 3) := by decide +kernel
theorem dX0_init_9 : decode cX0_init 9 = .ok (.aload_n 0, 1) := by decide +kernel
theorem dX0_init_10 : decode cX0_init 10 = .ok (.iconst 0, 1) := by decide +kernel
theorem dX0_init_11 : decode cX0_init 11 = .ok (.putfield 13, 3) := by decide +kernel
theorem dX0_init_14 : decode cX0_init 14 = .ok (.aload_n 0, 1) := by decide +kernel
theorem dX0_init_15 : decode cX0_init 15 = .ok (.bipush 14, 2) := by decide +kernel
theorem dX0_init_17 : decode cX0_init 17 = .ok (.newarray .int, 2) := by decide +kernel
theorem dX0_init_19 : decode cX0_init 19 = .ok (.putfield 16, 3) := by decide +kernel
theorem dX0_init_22 : decode cX0_init 22 = .ok (.return_, 1) := by decide +kernel
theorem dX0_clear_0 : decode cX0_clear 0 = .ok (.aload_n 0, 1) := by decide +kernel
theorem dX0_clear_1 : decode cX0_clear 1 = .ok (.iconst 0, 1) := by decide +kernel
theorem dX0_clear_2 : decode cX0_clear 2 = .ok (.putfield 7, 3) := by decide +kernel
theorem dX0_clear_5 : decode cX0_clear 5 = .ok (.aload_n 0, 1) := by decide +kernel
theorem dX0_clear_6 : decode cX0_clear 6 = .ok (.iconst 0, 1) := by decide +kernel
theorem dX0_clear_7 : decode cX0_clear 7 = .ok (.putfield 13, 3) := by decide +kernel
theorem dX0_clear_10 : decode cX0_clear 10 = .ok (.return_, 1) := by decide +kernel
theorem dX0_turn_0 : decode cX0_turn 0 = .ok (.aload_n 0, 1) := by decide +kernel
theorem dX0_turn_1 : decode cX0_turn 1 = .ok (.aload_n 0, 1) := by decide +kernel
theorem dX0_turn_2 : decode cX0_turn 2 = .ok (.getfield 7, 3) := by decide +kernel
theorem dX0_turn_5 : decode cX0_turn 5 = .ok (.ineg, 1) := by decide +kernel
theorem dX0_turn_6 : decode cX0_turn 6 = .ok (.putfield 7, 3) := by decide +kernel
theorem dX0_turn_9 : decode cX0_turn 9 = .ok (.return_, 1) := by decide +kernel
theorem dX0_copy_0 : decode cX0_copy 0 = .ok (.aload_n 0, 1) := by decide +kernel
theorem dX0_copy_1 : decode cX0_copy 1 = .ok (.aload_n 1, 1) := by decide +kernel
theorem dX0_copy_2 : decode cX0_copy 2 = .ok (.getfield 7, 3) := by decide +kernel
theorem dX0_copy_5 : decode cX0_copy 5 = .ok (.putfield 7, 3) := by decide +kernel
theorem dX0_copy_8 : decode cX0_copy 8 = .ok (.aload_n 0, 1) := by decide +kernel
theorem dX0_copy_9 : decode cX0_copy 9 = .ok (.aload_n 1, 1) := by decide +kernel
theorem dX0_copy_10 : decode cX0_copy 10 = .ok (.getfield 13, 3) := by decide +kernel
theorem dX0_copy_13 : decode cX0_copy 13 = .ok (.putfield 13, 3) := by decide +kernel
theorem dX0_copy_16 : decode cX0_copy 16 = .ok (.aload_n 1, 1) := by decide +kernel
theorem dX0_copy_17 : decode cX0_copy 17 = .ok (.getfield 16, 3) := by decide +kernel
theorem dX0_copy_20 : decode cX0_copy 20 = .ok (.iconst 0, 1) := by decide +kernel
theorem dX0_copy_21 : decode cX0_copy 21 = .ok (.aload_n 0, 1) := by decide +kernel
theorem dX0_copy_22 : decode cX0_copy 22 = .ok (.getfield 16, 3) := by decide +kernel
theorem dX0_copy_25 : decode cX0_copy 25 = .ok (.iconst 0, 1) := by decide +kernel
theorem dX0_copy_26 : decode cX0_copy 26 = .ok (.aload_n 0, 1) := by decide +kernel
theorem dX0_copy_27 : decode cX0_copy 27 = .ok (.getfield 13, 3) := by decide +kernel
theorem dX0_copy_30 : decode cX0_copy 30 = .ok (.invokestatic 20, 3) := by decide +kernel
theorem dX0_copy_33 : decode cX0_copy 33 = .ok (.return_, 1) := by decide +kernel
theorem dX0_setTo_0 : decode cX0_setTo 0 = .ok (.lload_n 1, 1) := by decide +kernel
theorem dX0_setTo_1 : decode cX0_setTo 1 = .ok (.lconst 0, 1) := by decide +kernel
theorem dX0_setTo_2 : decode cX0_setTo 2 = .ok (.lcmp, 1) := by decide +kernel
theorem dX0_setTo_3 : decode cX0_setTo 3 = .ok (.ifCond .ge 8, 3) := by decide +kernel
theorem dX0_setTo_6 : decode cX0_setTo 6 = .ok (.lload_n 1, 1) := by decide +kernel
theorem dX0_setTo_7 : decode cX0_setTo 7 = .ok (.lneg, 1) := by decide +kernel
theorem dX0_setTo_8 : decode cX0_setTo 8 = .ok (.goto 4, 3) := by decide +kernel
theorem dX0_setTo_11 : decode cX0_setTo 11 = .ok (.lload_n 1, 1) := by decide +kernel
theorem dX0_setTo_12 : decode cX0_setTo 12 = .ok (.lstore_n 3, 1) := by decide +kernel
theorem dX0_setTo_13 : decode cX0_setTo 13 = .ok (.aload_n 0, 1) := by decide +kernel
theorem dX0_setTo_14 : decode cX0_setTo 14 = .ok (.getfield 16, 3) := by decide +kernel
theorem dX0_setTo_17 : decode cX0_setTo 17 = .ok (.iconst 0, 1) := by decide +kernel
theorem dX0_setTo_18 : decode cX0_setTo 18 = .ok (.lload_n 3, 1) := by decide +kernel
theorem dX0_setTo_19 : decode cX0_setTo 19 = .ok (.ldc2_w 26, 3) := by decide +kernel
theorem dX0_setTo_22 : decode cX0_setTo 22 = .ok (.land, 1) := by decide +kernel
theorem dX0_setTo_23 : decode cX0_setTo 23 = .ok (.l2i, 1) := by decide +kernel
theorem dX0_setTo_24 : decode cX0_setTo 24 = .ok (.iastore, 1) := by decide +kernel
theorem dX0_setTo_25 : decode cX0_setTo 25 = .ok (.aload_n 0, 1) := by decide +kernel
theorem dX0_setTo_26 : decode cX0_setTo 26 = .ok (.getfield 16, 3) := by decide +kernel
theorem dX0_setTo_29 : decode cX0_setTo 29 = .ok (.iconst 1, 1) := by decide +kernel
theorem dX0_setTo_30 : decode cX0_setTo 30 = .ok (.lload_n 3, 1) := by decide +kernel
theorem dX0_setTo_31 : decode cX0_setTo 31 = .ok (.bipush 31, 2) := by decide +kernel
theorem dX0_setTo_33 : decode cX0_setTo 33 = .ok (.lushr, 1) := by decide +kernel
theorem dX0_setTo_34 : decode cX0_setTo 34 = .ok (.ldc2_w 26, 3) := by decide +kernel
theorem dX0_setTo_37 : decode cX0_setTo 37 = .ok (.land, 1) := by decide +kernel
theorem dX0_setTo_38 : decode cX0_setTo 38 = .ok (.l2i, 1) := by decide +kernel
theorem dX0_setTo_39 : decode cX0_setTo 39 = .ok (.iastore, 1) := by decide +kernel
theorem dX0_setTo_40 : decode cX0_setTo 40 = .ok (.aload_n 0, 1) := by decide +kernel
theorem dX0_setTo_41 : decode cX0_setTo 41 = .ok (.getfield 16, 3) := by decide +kernel
theorem dX0_setTo_44 : decode cX0_setTo 44 = .ok (.iconst 2, 1) := by decide +kernel
theorem dX0_setTo_45 : decode cX0_setTo 45 = .ok (.lload_n 3, 1) := by decide +kernel
theorem dX0_setTo_46 : decode cX0_setTo 46 = .ok (.bipush 62, 2) := by decide +kernel
theorem dX0_setTo_48 : decode cX0_setTo 48 = .ok (.lushr, 1) := by decide +kernel
theorem dX0_setTo_49 : decode cX0_setTo 49 = .ok (.l2i, 1) := by decide +kernel
theorem dX0_setTo_50 : decode cX0_setTo 50 = .ok (.iastore, 1) := by decide +kernel
theorem dX0_setTo_51 : decode cX0_setTo 51 = .ok (.aload_n 0, 1) := by decide +kernel
theorem dX0_setTo_52 : decode cX0_setTo 52 = .ok (.iconst 3, 1) := by decide +kernel
theorem dX0_setTo_53 : decode cX0_setTo 53 = .ok (.lload_n 1, 1) := by decide +kernel
theorem dX0_setTo_54 : decode cX0_setTo 54 = .ok (.lconst 0, 1) := by decide +kernel
theorem dX0_setTo_55 : decode cX0_setTo 55 = .ok (.lcmp, 1) := by decide +kernel
theorem dX0_setTo_56 : decode cX0_setTo 56 = .ok (.ifCond .ge 7, 3) := by decide +kernel
theorem dX0_setTo_59 : decode cX0_setTo 59 = .ok (.iconst (-1), 1) := by decide +kernel
theorem dX0_setTo_60 : decode cX0_setTo 60 = .ok (.goto 4, 3) := by decide +kernel
theorem dX0_setTo_63 : decode cX0_setTo 63 = .ok (.iconst 1, 1) := by decide +kernel
theorem dX0_setTo_64 : decode cX0_setTo 64 = .ok (.invokevirtual 28, 3) := by decide +kernel
theorem dX0_setTo_67 : decode cX0_setTo 67 = .ok (.return_, 1) := by decide +kernel
theorem dX0_setToSize_0 : decode cX0_setToSize 0 = .ok (.lconst 0, 1) := by decide +kernel
theorem dX0_setToSize_1 : decode cX0_setToSize 1 = .ok (.lstore 5, 2) := by decide +kernel
theorem dX0_setToSize_3 : decode cX0_setToSize 3 = .ok (.iload_n 3, 1) := by decide +kernel
theorem dX0_setToSize_4 : decode cX0_setToSize 4 = .ok (.bipush 14, 2) := by decide +kernel
theorem dX0_setToSize_6 : decode cX0_setToSize 6 = .ok (.invokestatic 32, 3) := by decide +kernel
theorem dX0_setToSize_9 : decode cX0_setToSize 9 = .ok (.istore 7, 2) := by decide +kernel
theorem dX0_setToSize_11 : decode cX0_setToSize 11 = .ok (.iconst 0, 1) := by decide +kernel
theorem dX0_setToSize_12 : decode cX0_setToSize 12 = .ok (.istore 8, 2) := by decide +kernel
theorem dX0_setToSize_14 : decode cX0_setToSize 14 = .ok (.iload 8, 2) := by decide +kernel
theorem dX0_setToSize_16 : decode cX0_setToSize 16 = .ok (.iload 7, 2) := by decide +kernel
theorem dX0_setToSize_18 : decode cX0_setToSize 18 = .ok (.if_icmp .ge 58, 3) := by decide +kernel
theorem dX0_setToSize_21 : decode cX0_setToSize 21 = .ok (.lload 5, 2) := by decide +kernel
theorem dX0_setToSize_23 : decode cX0_setToSize 23 = .ok (.iload 4, 2) := by decide +kernel
theorem dX0_setToSize_25 : decode cX0_setToSize 25 = .ok (.ifCond .ge 14, 3) := by decide +kernel
theorem dX0_setToSize_28 : decode cX0_setToSize 28 = .ok (.aload_n 1, 1) := by decide +kernel
theorem dX0_setToSize_29 : decode cX0_setToSize 29 = .ok (.iload_n 2, 1) := by decide +kernel
theorem dX0_setToSize_30 : decode cX0_setToSize 30 = .ok (.iload 8, 2) := by decide +kernel
theorem dX0_setToSize_32 : decode cX0_setToSize 32 = .ok (.iadd, 1) := by decide +kernel
theorem dX0_setToSize_33 : decode cX0_setToSize 33 = .ok (.iaload, 1) := by decide +kernel
theorem dX0_setToSize_34 : decode cX0_setToSize 34 = .ok (.ineg, 1) := by decide +kernel
theorem dX0_setToSize_35 : decode cX0_setToSize 35 = .ok (.i2l, 1) := by decide +kernel
theorem dX0_setToSize_36 : decode cX0_setToSize 36 = .ok (.goto 10, 3) := by decide +kernel
theorem dX0_setToSize_39 : decode cX0_setToSize 39 = .ok (.aload_n 1, 1) := by decide +kernel
theorem dX0_setToSize_40 : decode cX0_setToSize 40 = .ok (.iload_n 2, 1) := by decide +kernel
theorem dX0_setToSize_41 : decode cX0_setToSize 41 = .ok (.iload 8, 2) := by decide +kernel
theorem dX0_setToSize_43 : decode cX0_setToSize 43 = .ok (.iadd, 1) := by decide +kernel
theorem dX0_setToSize_44 : decode cX0_setToSize 44 = .ok (.iaload, 1) := by decide +kernel
theorem dX0_setToSize_45 : decode cX0_setToSize 45 = .ok (.i2l, 1) := by decide +kernel
theorem dX0_setToSize_46 : decode cX0_setToSize 46 = .ok (.ladd, 1) := by decide +kernel
theorem dX0_setToSize_47 : decode cX0_setToSize 47 = .ok (.lstore 5, 2) := by decide +kernel
theorem dX0_setToSize_49 : decode cX0_setToSize 49 = .ok (.aload_n 0, 1) := by decide +kernel
theorem dX0_setToSize_50 : decode cX0_setToSize 50 = .ok (.getfield 16, 3) := by decide +kernel
theorem dX0_setToSize_53 : decode cX0_setToSize 53 = .ok (.iload 8, 2) := by decide +kernel
theorem dX0_setToSize_55 : decode cX0_setToSize 55 = .ok (.lload 5, 2) := by decide +kernel
theorem dX0_setToSize_57 : decode cX0_setToSize 57 = .ok (.ldc2_w 26, 3) := by decide +kernel
theorem dX0_setToSize_60 : decode cX0_setToSize 60 = .ok (.land, 1) := by decide +kernel
theorem dX0_setToSize_61 : decode cX0_setToSize 61 = .ok (.l2i, 1) := by decide +kernel
theorem dX0_setToSize_62 : decode cX0_setToSize 62 = .ok (.iastore, 1) := by decide +kernel
theorem dX0_setToSize_63 : decode cX0_setToSize 63 = .ok (.lload 5, 2) := by decide +kernel
theorem dX0_setToSize_65 : decode cX0_setToSize 65 = .ok (.bipush 31, 2) := by decide +kernel
theorem dX0_setToSize_67 : decode cX0_setToSize 67 = .ok (.lshr, 1) := by decide +kernel
theorem dX0_setToSize_68 : decode cX0_setToSize 68 = .ok (.lstore 5, 2) := by decide +kernel
theorem dX0_setToSize_70 : decode cX0_setToSize 70 = .ok (.iinc 8 1, 3) := by decide +kernel
theorem dX0_setToSize_73 : decode cX0_setToSize 73 = .ok (.goto (-59), 3) := by decide +kernel
theorem dX0_setToSize_76 : decode cX0_setToSize 76 = .ok (.aload_n 0, 1) := by decide +kernel
theorem dX0_setToSize_77 : decode cX0_setToSize 77 = .ok (.iload 7, 2) := by decide +kernel
theorem dX0_setToSize_79 : decode cX0_setToSize 79 = .ok (.iconst 1, 1) := by decide +kernel
theorem dX0_setToSize_80 : decode cX0_setToSize 80 = .ok (.invokevirtual 28, 3) := by decide +kernel
theorem dX0_setToSize_83 : decode cX0_setToSize 83 = .ok (.return_, 1) := by decide +kernel
theorem dX0_setProduct_0 : decode cX0_setProduct 0 = .ok (.bipush 14, 2) := by decide +kernel
theorem dX0_setProduct_2 : decode cX0_setProduct 2 = .ok (.aload_n 1, 1) := by decide +kernel
theorem dX0_setProduct_3 : decode cX0_setProduct 3 = .ok (.getfield 13, 3) := by decide +kernel
theorem dX0_setProduct_6 : decode cX0_setProduct 6 = .ok (.aload_n 2, 1) := by decide +kernel
theorem dX0_setProduct_7 : decode cX0_setProduct 7 = .ok (.getfield 13, 3) := by decide +kernel
theorem dX0_setProduct_10 : decode cX0_setProduct 10 = .ok (.iadd, 1) := by decide +kernel
theorem dX0_setProduct_11 : decode cX0_setProduct 11 = .ok (.invokestatic 32, 3) := by decide +kernel
theorem dX0_setProduct_14 : decode cX0_setProduct 14 = .ok (.istore_n 3, 1) := by decide +kernel
theorem dX0_setProduct_15 : decode cX0_setProduct 15 = .ok (.aload_n 0, 1) := by decide +kernel
theorem dX0_setProduct_16 : decode cX0_setProduct 16 = .ok (.getfield 16, 3) := by decide +kernel
theorem dX0_setProduct_19 : decode cX0_setProduct 19 = .ok (.iconst 0, 1) := by decide +kernel
theorem dX0_setProduct_20 : decode cX0_setProduct 20 = .ok (.iload_n 3, 1) := by decide +kernel
theorem dX0_setProduct_21 : decode cX0_setProduct 21 = .ok (.iconst 0, 1) := by decide +kernel
theorem dX0_setProduct_22 : decode cX0_setProduct 22 = .ok (.invokestatic 38, 3) := by decide +kernel
theorem dX0_setProduct_25 : decode cX0_setProduct 25 = .ok (.iconst 0, 1) := by decide +kernel
theorem dX0_setProduct_26 : decode cX0_setProduct 26 = .ok (.istore 4, 2) := by decide +kernel
theorem dX0_setProduct_28 : decode cX0_setProduct 28 = .ok (.iload 4, 2) := by decide +kernel
theorem dX0_setProduct_30 : decode cX0_setProduct 30 = .ok (.aload_n 1, 1) := by decide +kernel
theorem dX0_setProduct_31 : decode cX0_setProduct 31 = .ok (.getfield 13, 3) := by decide +kernel
theorem dX0_setProduct_34 : decode cX0_setProduct 34 = .ok (.if_icmp .ge 24, 3) := by decide +kernel
theorem dX0_setProduct_37 : decode cX0_setProduct 37 = .ok (.aload_n 0, 1) := by decide +kernel
theorem dX0_setProduct_38 : decode cX0_setProduct 38 = .ok (.aload_n 2, 1) := by decide +kernel
theorem dX0_setProduct_39 : decode cX0_setProduct 39 = .ok (.aload_n 1, 1) := by decide +kernel
theorem dX0_setProduct_40 : decode cX0_setProduct 40 = .ok (.getfield 16, 3) := by decide +kernel
theorem dX0_setProduct_43 : decode cX0_setProduct 43 = .ok (.iload 4, 2) := by decide +kernel
theorem dX0_setProduct_45 : decode cX0_setProduct 45 = .ok (.iaload, 1) := by decide +kernel
theorem dX0_setProduct_46 : decode cX0_setProduct 46 = .ok (.i2l, 1) := by decide +kernel
theorem dX0_setProduct_47 : decode cX0_setProduct 47 = .ok (.iload 4, 2) := by decide +kernel
theorem dX0_setProduct_49 : decode cX0_setProduct 49 = .ok (.invokevirtual 44, 3) := by decide +kernel
theorem dX0_setProduct_52 : decode cX0_setProduct 52 = .ok (.iinc 4 1, 3) := by decide +kernel
theorem dX0_setProduct_55 : decode cX0_setProduct 55 = .ok (.goto (-27), 3) := by decide +kernel
theorem dX0_setProduct_58 : decode cX0_setProduct 58 = .ok (.aload_n 0, 1) := by decide +kernel
theorem dX0_setProduct_59 : decode cX0_setProduct 59 = .ok (.iload_n 3, 1) := by decide +kernel
theorem dX0_setProduct_60 : decode cX0_setProduct 60 = .ok (.aload_n 1, 1) := by decide +kernel
theorem dX0_setProduct_61 : decode cX0_setProduct 61 = .ok (.getfield 7, 3) := by decide +kernel
theorem dX0_setProduct_64 : decode cX0_setProduct 64 = .ok (.aload_n 2, 1) := by decide +kernel
theorem dX0_setProduct_65 : decode cX0_setProduct 65 = .ok (.getfield 7, 3) := by decide +kernel
theorem dX0_setProduct_68 : decode cX0_setProduct 68 = .ok (.imul, 1) := by decide +kernel
theorem dX0_setProduct_69 : decode cX0_setProduct 69 = .ok (.invokevirtual 28, 3) := by decide +kernel
theorem dX0_setProduct_72 : decode cX0_setProduct 72 = .ok (.return_, 1) := by decide +kernel
theorem dX0_setProductBy_0 : decode cX0_setProductBy 0 = .ok (.bipush 14, 2) := by decide +kernel
theorem dX0_setProductBy_2 : decode cX0_setProductBy 2 = .ok (.aload_n 1, 1) := by decide +kernel
theorem dX0_setProductBy_3 : decode cX0_setProductBy 3 = .ok (.getfield 13, 3) := by decide +kernel
theorem dX0_setProductBy_6 : decode cX0_setProductBy 6 = .ok (.iconst 1, 1) := by decide +kernel
theorem dX0_setProductBy_7 : decode cX0_setProductBy 7 = .ok (.iadd, 1) := by decide +kernel
theorem dX0_setProductBy_8 : decode cX0_setProductBy 8 = .ok (.invokestatic 32, 3) := by decide +kernel
theorem dX0_setProductBy_11 : decode cX0_setProductBy 11 = .ok (.istore_n 3, 1) := by decide +kernel
theorem dX0_setProductBy_12 : decode cX0_setProductBy 12 = .ok (.aload_n 0, 1) := by decide +kernel
theorem dX0_setProductBy_13 : decode cX0_setProductBy 13 = .ok (.getfield 16, 3) := by decide +kernel
theorem dX0_setProductBy_16 : decode cX0_setProductBy 16 = .ok (.iconst 0, 1) := by decide +kernel
theorem dX0_setProductBy_17 : decode cX0_setProductBy 17 = .ok (.iload_n 3, 1) := by decide +kernel
theorem dX0_setProductBy_18 : decode cX0_setProductBy 18 = .ok (.iconst 0, 1) := by decide +kernel
theorem dX0_setProductBy_19 : decode cX0_setProductBy 19 = .ok (.invokestatic 38, 3) := by decide +kernel
theorem dX0_setProductBy_22 : decode cX0_setProductBy 22 = .ok (.aload_n 0, 1) := by decide +kernel
theorem dX0_setProductBy_23 : decode cX0_setProductBy 23 = .ok (.aload_n 1, 1) := by decide +kernel
theorem dX0_setProductBy_24 : decode cX0_setProductBy 24 = .ok (.iload_n 2, 1) := by decide +kernel
theorem dX0_setProductBy_25 : decode cX0_setProductBy 25 = .ok (.i2l, 1) := by decide +kernel
theorem dX0_setProductBy_26 : decode cX0_setProductBy 26 = .ok (.invokestatic 48, 3) := by decide +kernel
theorem dX0_setProductBy_29 : decode cX0_setProductBy 29 = .ok (.iconst 0, 1) := by decide +kernel
theorem dX0_setProductBy_30 : decode cX0_setProductBy 30 = .ok (.invokevirtual 44, 3) := by decide +kernel
theorem dX0_setProductBy_33 : decode cX0_setProductBy 33 = .ok (.aload_n 0, 1) := by decide +kernel
theorem dX0_setProductBy_34 : decode cX0_setProductBy 34 = .ok (.iload_n 3, 1) := by decide +kernel
theorem dX0_setProductBy_35 : decode cX0_setProductBy 35 = .ok (.iload_n 2, 1) := by decide +kernel
theorem dX0_setProductBy_36 : decode cX0_setProductBy 36 = .ok (.ifCond .ge 11, 3) := by decide +kernel
theorem dX0_setProductBy_39 : decode cX0_setProductBy 39 = .ok (.aload_n 1, 1) := by decide +kernel
theorem dX0_setProductBy_40 : decode cX0_setProductBy 40 = .ok (.getfield 7, 3) := by decide +kernel
theorem dX0_setProductBy_43 : decode cX0_setProductBy 43 = .ok (.ineg, 1) := by decide +kernel
theorem dX0_setProductBy_44 : decode cX0_setProductBy 44 = .ok (.goto 7, 3) := by decide +kernel
theorem dX0_setProductBy_47 : decode cX0_setProductBy 47 = .ok (.aload_n 1, 1) := by decide +kernel
theorem dX0_setProductBy_48 : decode cX0_setProductBy 48 = .ok (.getfield 7, 3) := by decide +kernel
theorem dX0_setProductBy_51 : decode cX0_setProductBy 51 = .ok (.invokevirtual 28, 3) := by decide +kernel
theorem dX0_setProductBy_54 : decode cX0_setProductBy 54 = .ok (.return_, 1) := by decide +kernel
theorem dX0_add_0 : decode cX0_add 0 = .ok (.aload_n 0, 1) := by decide +kernel
theorem dX0_add_1 : decode cX0_add 1 = .ok (.aload_n 1, 1) := by decide +kernel
theorem dX0_add_2 : decode cX0_add 2 = .ok (.aload_n 1, 1) := by decide +kernel
theorem dX0_add_3 : decode cX0_add 3 = .ok (.getfield 7, 3) := by decide +kernel
theorem dX0_add_6 : decode cX0_add 6 = .ok (.invokevirtual 52, 3) := by decide +kernel
theorem dX0_add_9 : decode cX0_add 9 = .ok (.return_, 1) := by decide +kernel
theorem dX0_subtract_0 : decode cX0_subtract 0 = .ok (.aload_n 0, 1) := by decide +kernel
theorem dX0_subtract_1 : decode cX0_subtract 1 = .ok (.aload_n 1, 1) := by decide +kernel
theorem dX0_subtract_2 : decode cX0_subtract 2 = .ok (.aload_n 1, 1) := by decide +kernel
theorem dX0_subtract_3 : decode cX0_subtract 3 = .ok (.getfield 7, 3) := by decide +kernel
theorem dX0_subtract_6 : decode cX0_subtract 6 = .ok (.ineg, 1) := by decide +kernel
theorem dX0_subtract_7 : decode cX0_subtract 7 = .ok (.invokevirtual 52, 3) := by decide +kernel
theorem dX0_subtract_10 : decode cX0_subtract 10 = .ok (.return_, 1) := by decide +kernel
theorem dX0_compareWith_0 : decode cX0_compareWith 0 = .ok (.aload_n 0, 1) := by decide +kernel
theorem dX0_compareWith_1 : decode cX0_compareWith 1 = .ok (.getfield 7, 3) := by decide +kernel
theorem dX0_compareWith_4 : decode cX0_compareWith 4 = .ok (.aload_n 1, 1) := by decide +kernel
theorem dX0_compareWith_5 : decode cX0_compareWith 5 = .ok (.getfield 7, 3) := by decide +kernel
theorem dX0_compareWith_8 : decode cX0_compareWith 8 = .ok (.if_icmp .eq 20, 3) := by decide +kernel
theorem dX0_compareWith_11 : decode cX0_compareWith 11 = .ok (.aload_n 0, 1) := by decide +kernel
theorem dX0_compareWith_12 : decode cX0_compareWith 12 = .ok (.getfield 7, 3) := by decide +kernel
theorem dX0_compareWith_15 : decode cX0_compareWith 15 = .ok (.aload_n 1, 1) := by decide +kernel
theorem dX0_compareWith_16 : decode cX0_compareWith 16 = .ok (.getfield 7, 3) := by decide +kernel
theorem dX0_compareWith_19 : decode cX0_compareWith 19 = .ok (.if_icmp .ge 7, 3) := by decide +kernel
theorem dX0_compareWith_22 : decode cX0_compareWith 22 = .ok (.iconst (-1), 1) := by decide +kernel
theorem dX0_compareWith_23 : decode cX0_compareWith 23 = .ok (.goto 4, 3) := by decide +kernel
theorem dX0_compareWith_26 : decode cX0_compareWith 26 = .ok (.iconst 1, 1) := by decide +kernel
theorem dX0_compareWith_27 : decode cX0_compareWith 27 = .ok (.ireturn, 1) := by decide +kernel
theorem dX0_compareWith_28 : decode cX0_compareWith 28 = .ok (.aload_n 0, 1) := by decide +kernel
theorem dX0_compareWith_29 : decode cX0_compareWith 29 = .ok (.getfield 7, 3) := by decide +kernel
theorem dX0_compareWith_32 : decode cX0_compareWith 32 = .ok (.aload_n 0, 1) := by decide +kernel
theorem dX0_compareWith_33 : decode cX0_compareWith 33 = .ok (.aload_n 1, 1) := by decide +kernel
theorem dX0_compareWith_34 : decode cX0_compareWith 34 = .ok (.invokevirtual 56, 3) := by decide +kernel
theorem dX0_compareWith_37 : decode cX0_compareWith 37 = .ok (.imul, 1) := by decide +kernel
theorem dX0_compareWith_38 : decode cX0_compareWith 38 = .ok (.ireturn, 1) := by decide +kernel
theorem dX0_isOne_0 : decode cX0_isOne 0 = .ok (.aload_n 0, 1) := by decide +kernel
theorem dX0_isOne_1 : decode cX0_isOne 1 = .ok (.getfield 7, 3) := by decide +kernel
theorem dX0_isOne_4 : decode cX0_isOne 4 = .ok (.iconst 1, 1) := by decide +kernel
theorem dX0_isOne_5 : decode cX0_isOne 5 = .ok (.if_icmp .ne 25, 3) := by decide +kernel
theorem dX0_isOne_8 : decode cX0_isOne 8 = .ok (.aload_n 0, 1) := by decide +kernel
theorem dX0_isOne_9 : decode cX0_isOne 9 = .ok (.getfield 13, 3) := by decide +kernel
theorem dX0_isOne_12 : decode cX0_isOne 12 = .ok (.iconst 1, 1) := by decide +kernel
theorem dX0_isOne_13 : decode cX0_isOne 13 = .ok (.if_icmp .ne 17, 3) := by decide +kernel
theorem dX0_isOne_16 : decode cX0_isOne 16 = .ok (.aload_n 0, 1) := by decide +kernel
theorem dX0_isOne_17 : decode cX0_isOne 17 = .ok (.getfield 16, 3) := by decide +kernel
theorem dX0_isOne_20 : decode cX0_isOne 20 = .ok (.iconst 0, 1) := by decide +kernel
theorem dX0_isOne_21 : decode cX0_isOne 21 = .ok (.iaload, 1) := by decide +kernel
theorem dX0_isOne_22 : decode cX0_isOne 22 = .ok (.iconst 1, 1) := by decide +kernel
theorem dX0_isOne_23 : decode cX0_isOne 23 = .ok (.if_icmp .ne 7, 3) := by decide +kernel
theorem dX0_isOne_26 : decode cX0_isOne 26 = .ok (.iconst 1, 1) := by decide +kernel
theorem dX0_isOne_27 : decode cX0_isOne 27 = .ok (.goto 4, 3) := by decide +kernel
theorem dX0_isOne_30 : decode cX0_isOne 30 = .ok (.iconst 0, 1) := by decide +kernel
theorem dX0_isOne_31 : decode cX0_isOne 31 = .ok (.ireturn, 1) := by decide +kernel
theorem dX0_word_0 : decode cX0_word 0 = .ok (.lconst 0, 1) := by decide +kernel
theorem dX0_word_1 : decode cX0_word 1 = .ok (.lstore_n 2, 1) := by decide +kernel
theorem dX0_word_2 : decode cX0_word 2 = .ok (.iconst 0, 1) := by decide +kernel
theorem dX0_word_3 : decode cX0_word 3 = .ok (.istore 4, 2) := by decide +kernel
theorem dX0_word_5 : decode cX0_word 5 = .ok (.iload 4, 2) := by decide +kernel
theorem dX0_word_7 : decode cX0_word 7 = .ok (.aload_n 0, 1) := by decide +kernel
theorem dX0_word_8 : decode cX0_word 8 = .ok (.getfield 13, 3) := by decide +kernel
theorem dX0_word_11 : decode cX0_word 11 = .ok (.if_icmp .ge 91, 3) := by decide +kernel
theorem dX0_word_14 : decode cX0_word 14 = .ok (.ldc2_w 60, 3) := by decide +kernel
theorem dX0_word_17 : decode cX0_word 17 = .ok (.iload 4, 2) := by decide +kernel
theorem dX0_word_19 : decode cX0_word 19 = .ok (.i2l, 1) := by decide +kernel
theorem dX0_word_20 : decode cX0_word 20 = .ok (.lmul, 1) := by decide +kernel
theorem dX0_word_21 : decode cX0_word 21 = .ok (.ldc2_w 62, 3) := by decide +kernel
theorem dX0_word_24 : decode cX0_word 24 = .ok (.iload_n 1, 1) := by decide +kernel
theorem dX0_word_25 : decode cX0_word 25 = .ok (.i2l, 1) := by decide +kernel
theorem dX0_word_26 : decode cX0_word 26 = .ok (.lmul, 1) := by decide +kernel
theorem dX0_word_27 : decode cX0_word 27 = .ok (.lsub, 1) := by decide +kernel
theorem dX0_word_28 : decode cX0_word 28 = .ok (.lstore 5, 2) := by decide +kernel
theorem dX0_word_30 : decode cX0_word 30 = .ok (.lload 5, 2) := by decide +kernel
theorem dX0_word_32 : decode cX0_word 32 = .ok (.lconst 0, 1) := by decide +kernel
theorem dX0_word_33 : decode cX0_word 33 = .ok (.lcmp, 1) := by decide +kernel
theorem dX0_word_34 : decode cX0_word 34 = .ok (.ifCond .lt 30, 3) := by decide +kernel
theorem dX0_word_37 : decode cX0_word 37 = .ok (.lload 5, 2) := by decide +kernel
theorem dX0_word_39 : decode cX0_word 39 = .ok (.ldc2_w 62, 3) := by decide +kernel
theorem dX0_word_42 : decode cX0_word 42 = .ok (.lcmp, 1) := by decide +kernel
theorem dX0_word_43 : decode cX0_word 43 = .ok (.ifCond .ge 21, 3) := by decide +kernel
theorem dX0_word_46 : decode cX0_word 46 = .ok (.lload_n 2, 1) := by decide +kernel
theorem dX0_word_47 : decode cX0_word 47 = .ok (.aload_n 0, 1) := by decide +kernel
theorem dX0_word_48 : decode cX0_word 48 = .ok (.getfield 16, 3) := by decide +kernel
theorem dX0_word_51 : decode cX0_word 51 = .ok (.iload 4, 2) := by decide +kernel
theorem dX0_word_53 : decode cX0_word 53 = .ok (.iaload, 1) := by decide +kernel
theorem dX0_word_54 : decode cX0_word 54 = .ok (.i2l, 1) := by decide +kernel
theorem dX0_word_55 : decode cX0_word 55 = .ok (.lload 5, 2) := by decide +kernel
theorem dX0_word_57 : decode cX0_word 57 = .ok (.l2i, 1) := by decide +kernel
theorem dX0_word_58 : decode cX0_word 58 = .ok (.lshl, 1) := by decide +kernel
theorem dX0_word_59 : decode cX0_word 59 = .ok (.lor, 1) := by decide +kernel
theorem dX0_word_60 : decode cX0_word 60 = .ok (.lstore_n 2, 1) := by decide +kernel
theorem dX0_word_61 : decode cX0_word 61 = .ok (.goto 35, 3) := by decide +kernel
theorem dX0_word_64 : decode cX0_word 64 = .ok (.lload 5, 2) := by decide +kernel
theorem dX0_word_66 : decode cX0_word 66 = .ok (.lconst 0, 1) := by decide +kernel
theorem dX0_word_67 : decode cX0_word 67 = .ok (.lcmp, 1) := by decide +kernel
theorem dX0_word_68 : decode cX0_word 68 = .ok (.ifCond .ge 28, 3) := by decide +kernel
theorem dX0_word_71 : decode cX0_word 71 = .ok (.lload 5, 2) := by decide +kernel
theorem dX0_word_73 : decode cX0_word 73 = .ok (.ldc2_w 64, 3) := by decide +kernel
theorem dX0_word_76 : decode cX0_word 76 = .ok (.lcmp, 1) := by decide +kernel
theorem dX0_word_77 : decode cX0_word 77 = .ok (.ifCond .le 19, 3) := by decide +kernel
theorem dX0_word_80 : decode cX0_word 80 = .ok (.lload_n 2, 1) := by decide +kernel
theorem dX0_word_81 : decode cX0_word 81 = .ok (.aload_n 0, 1) := by decide +kernel
theorem dX0_word_82 : decode cX0_word 82 = .ok (.getfield 16, 3) := by decide +kernel
theorem dX0_word_85 : decode cX0_word 85 = .ok (.iload 4, 2) := by decide +kernel
theorem dX0_word_87 : decode cX0_word 87 = .ok (.iaload, 1) := by decide +kernel
theorem dX0_word_88 : decode cX0_word 88 = .ok (.i2l, 1) := by decide +kernel
theorem dX0_word_89 : decode cX0_word 89 = .ok (.lload 5, 2) := by decide +kernel
theorem dX0_word_91 : decode cX0_word 91 = .ok (.lneg, 1) := by decide +kernel
theorem dX0_word_92 : decode cX0_word 92 = .ok (.l2i, 1) := by decide +kernel
theorem dX0_word_93 : decode cX0_word 93 = .ok (.lshr, 1) := by decide +kernel
theorem dX0_word_94 : decode cX0_word 94 = .ok (.lor, 1) := by decide +kernel
theorem dX0_word_95 : decode cX0_word 95 = .ok (.lstore_n 2, 1) := by decide +kernel
theorem dX0_word_96 : decode cX0_word 96 = .ok (.iinc 4 1, 3) := by decide +kernel
theorem dX0_word_99 : decode cX0_word 99 = .ok (.goto (-94), 3) := by decide +kernel
theorem dX0_word_102 : decode cX0_word 102 = .ok (.lload_n 2, 1) := by decide +kernel
theorem dX0_word_103 : decode cX0_word 103 = .ok (.lreturn, 1) := by decide +kernel
theorem dX0_trim_0 : decode cX0_trim 0 = .ok (.aload_n 0, 1) := by decide +kernel
theorem dX0_trim_1 : decode cX0_trim 1 = .ok (.iload_n 1, 1) := by decide +kernel
theorem dX0_trim_2 : decode cX0_trim 2 = .ok (.putfield 13, 3) := by decide +kernel
theorem dX0_trim_5 : decode cX0_trim 5 = .ok (.aload_n 0, 1) := by decide +kernel
theorem dX0_trim_6 : decode cX0_trim 6 = .ok (.getfield 13, 3) := by decide +kernel
theorem dX0_trim_9 : decode cX0_trim 9 = .ok (.ifCond .le 30, 3) := by decide +kernel
theorem dX0_trim_12 : decode cX0_trim 12 = .ok (.aload_n 0, 1) := by decide +kernel
theorem dX0_trim_13 : decode cX0_trim 13 = .ok (.getfield 16, 3) := by decide +kernel
theorem dX0_trim_16 : decode cX0_trim 16 = .ok (.aload_n 0, 1) := by decide +kernel
theorem dX0_trim_17 : decode cX0_trim 17 = .ok (.getfield 13, 3) := by decide +kernel
theorem dX0_trim_20 : decode cX0_trim 20 = .ok (.iconst 1, 1) := by decide +kernel
theorem dX0_trim_21 : decode cX0_trim 21 = .ok (.isub, 1) := by decide +kernel
theorem dX0_trim_22 : decode cX0_trim 22 = .ok (.iaload, 1) := by decide +kernel
theorem dX0_trim_23 : decode cX0_trim 23 = .ok (.ifCond .ne 16, 3) := by decide +kernel
theorem dX0_trim_26 : decode cX0_trim 26 = .ok (.aload_n 0, 1) := by decide +kernel
theorem dX0_trim_27 : decode cX0_trim 27 = .ok (.dup, 1) := by decide +kernel
theorem dX0_trim_28 : decode cX0_trim 28 = .ok (.getfield 13, 3) := by decide +kernel
theorem dX0_trim_31 : decode cX0_trim 31 = .ok (.iconst 1, 1) := by decide +kernel
theorem dX0_trim_32 : decode cX0_trim 32 = .ok (.isub, 1) := by decide +kernel
theorem dX0_trim_33 : decode cX0_trim 33 = .ok (.putfield 13, 3) := by decide +kernel
theorem dX0_trim_36 : decode cX0_trim 36 = .ok (.goto (-31), 3) := by decide +kernel
theorem dX0_trim_39 : decode cX0_trim 39 = .ok (.aload_n 0, 1) := by decide +kernel
theorem dX0_trim_40 : decode cX0_trim 40 = .ok (.aload_n 0, 1) := by decide +kernel
theorem dX0_trim_41 : decode cX0_trim 41 = .ok (.getfield 13, 3) := by decide +kernel
theorem dX0_trim_44 : decode cX0_trim 44 = .ok (.ifCond .ne 7, 3) := by decide +kernel
theorem dX0_trim_47 : decode cX0_trim 47 = .ok (.iconst 0, 1) := by decide +kernel
theorem dX0_trim_48 : decode cX0_trim 48 = .ok (.goto 4, 3) := by decide +kernel
theorem dX0_trim_51 : decode cX0_trim 51 = .ok (.iload_n 2, 1) := by decide +kernel
theorem dX0_trim_52 : decode cX0_trim 52 = .ok (.putfield 7, 3) := by decide +kernel
theorem dX0_trim_55 : decode cX0_trim 55 = .ok (.return_, 1) := by decide +kernel
theorem dX0_addTimes_0 : decode cX0_addTimes 0 = .ok (.lconst 0, 1) := by decide +kernel
theorem dX0_addTimes_1 : decode cX0_addTimes 1 = .ok (.lstore 5, 2) := by decide +kernel
theorem dX0_addTimes_3 : decode cX0_addTimes 3 = .ok (.bipush 14, 2) := by decide +kernel
theorem dX0_addTimes_5 : decode cX0_addTimes 5 = .ok (.iload 4, 2) := by decide +kernel
theorem dX0_addTimes_7 : decode cX0_addTimes 7 = .ok (.aload_n 1, 1) := by decide +kernel
theorem dX0_addTimes_8 : decode cX0_addTimes 8 = .ok (.getfield 13, 3) := by decide +kernel
theorem dX0_addTimes_11 : decode cX0_addTimes 11 = .ok (.iadd, 1) := by decide +kernel
theorem dX0_addTimes_12 : decode cX0_addTimes 12 = .ok (.invokestatic 32, 3) := by decide +kernel
theorem dX0_addTimes_15 : decode cX0_addTimes 15 = .ok (.istore 7, 2) := by decide +kernel
theorem dX0_addTimes_17 : decode cX0_addTimes 17 = .ok (.iload 4, 2) := by decide +kernel
theorem dX0_addTimes_19 : decode cX0_addTimes 19 = .ok (.istore 8, 2) := by decide +kernel
theorem dX0_addTimes_21 : decode cX0_addTimes 21 = .ok (.iload 8, 2) := by decide +kernel
theorem dX0_addTimes_23 : decode cX0_addTimes 23 = .ok (.iload 7, 2) := by decide +kernel
theorem dX0_addTimes_25 : decode cX0_addTimes 25 = .ok (.if_icmp .ge 57, 3) := by decide +kernel
theorem dX0_addTimes_28 : decode cX0_addTimes 28 = .ok (.lload 5, 2) := by decide +kernel
theorem dX0_addTimes_30 : decode cX0_addTimes 30 = .ok (.aload_n 0, 1) := by decide +kernel
theorem dX0_addTimes_31 : decode cX0_addTimes 31 = .ok (.getfield 16, 3) := by decide +kernel
theorem dX0_addTimes_34 : decode cX0_addTimes 34 = .ok (.iload 8, 2) := by decide +kernel
theorem dX0_addTimes_36 : decode cX0_addTimes 36 = .ok (.iaload, 1) := by decide +kernel
theorem dX0_addTimes_37 : decode cX0_addTimes 37 = .ok (.i2l, 1) := by decide +kernel
theorem dX0_addTimes_38 : decode cX0_addTimes 38 = .ok (.lload_n 2, 1) := by decide +kernel
theorem dX0_addTimes_39 : decode cX0_addTimes 39 = .ok (.aload_n 1, 1) := by decide +kernel
theorem dX0_addTimes_40 : decode cX0_addTimes 40 = .ok (.getfield 16, 3) := by decide +kernel
theorem dX0_addTimes_43 : decode cX0_addTimes 43 = .ok (.iload 8, 2) := by decide +kernel
theorem dX0_addTimes_45 : decode cX0_addTimes 45 = .ok (.iload 4, 2) := by decide +kernel
theorem dX0_addTimes_47 : decode cX0_addTimes 47 = .ok (.isub, 1) := by decide +kernel
theorem dX0_addTimes_48 : decode cX0_addTimes 48 = .ok (.iaload, 1) := by decide +kernel
theorem dX0_addTimes_49 : decode cX0_addTimes 49 = .ok (.i2l, 1) := by decide +kernel
theorem dX0_addTimes_50 : decode cX0_addTimes 50 = .ok (.lmul, 1) := by decide +kernel
theorem dX0_addTimes_51 : decode cX0_addTimes 51 = .ok (.ladd, 1) := by decide +kernel
theorem dX0_addTimes_52 : decode cX0_addTimes 52 = .ok (.ladd, 1) := by decide +kernel
theorem dX0_addTimes_53 : decode cX0_addTimes 53 = .ok (.lstore 5, 2) := by decide +kernel
theorem dX0_addTimes_55 : decode cX0_addTimes 55 = .ok (.aload_n 0, 1) := by decide +kernel
theorem dX0_addTimes_56 : decode cX0_addTimes 56 = .ok (.getfield 16, 3) := by decide +kernel
theorem dX0_addTimes_59 : decode cX0_addTimes 59 = .ok (.iload 8, 2) := by decide +kernel
theorem dX0_addTimes_61 : decode cX0_addTimes 61 = .ok (.lload 5, 2) := by decide +kernel
theorem dX0_addTimes_63 : decode cX0_addTimes 63 = .ok (.ldc2_w 26, 3) := by decide +kernel
theorem dX0_addTimes_66 : decode cX0_addTimes 66 = .ok (.land, 1) := by decide +kernel
theorem dX0_addTimes_67 : decode cX0_addTimes 67 = .ok (.l2i, 1) := by decide +kernel
theorem dX0_addTimes_68 : decode cX0_addTimes 68 = .ok (.iastore, 1) := by decide +kernel
theorem dX0_addTimes_69 : decode cX0_addTimes 69 = .ok (.lload 5, 2) := by decide +kernel
theorem dX0_addTimes_71 : decode cX0_addTimes 71 = .ok (.bipush 31, 2) := by decide +kernel
theorem dX0_addTimes_73 : decode cX0_addTimes 73 = .ok (.lshr, 1) := by decide +kernel
theorem dX0_addTimes_74 : decode cX0_addTimes 74 = .ok (.lstore 5, 2) := by decide +kernel
theorem dX0_addTimes_76 : decode cX0_addTimes 76 = .ok (.iinc 8 1, 3) := by decide +kernel
theorem dX0_addTimes_79 : decode cX0_addTimes 79 = .ok (.goto (-58), 3) := by decide +kernel
theorem dX0_addTimes_82 : decode cX0_addTimes 82 = .ok (.iload 7, 2) := by decide +kernel
theorem dX0_addTimes_84 : decode cX0_addTimes 84 = .ok (.bipush 14, 2) := by decide +kernel
theorem dX0_addTimes_86 : decode cX0_addTimes 86 = .ok (.if_icmp .ge 13, 3) := by decide +kernel
theorem dX0_addTimes_89 : decode cX0_addTimes 89 = .ok (.aload_n 0, 1) := by decide +kernel
theorem dX0_addTimes_90 : decode cX0_addTimes 90 = .ok (.getfield 16, 3) := by decide +kernel
theorem dX0_addTimes_93 : decode cX0_addTimes 93 = .ok (.iload 7, 2) := by decide +kernel
theorem dX0_addTimes_95 : decode cX0_addTimes 95 = .ok (.lload 5, 2) := by decide +kernel
theorem dX0_addTimes_97 : decode cX0_addTimes 97 = .ok (.l2i, 1) := by decide +kernel
theorem dX0_addTimes_98 : decode cX0_addTimes 98 = .ok (.iastore, 1) := by decide +kernel
theorem dX0_addTimes_99 : decode cX0_addTimes 99 = .ok (.return_, 1) := by decide +kernel
theorem dX0_addSigned_0 : decode cX0_addSigned 0 = .ok (.iload_n 2, 1) := by decide +kernel
theorem dX0_addSigned_1 : decode cX0_addSigned 1 = .ok (.ifCond .ne 4, 3) := by decide +kernel
theorem dX0_addSigned_4 : decode cX0_addSigned 4 = .ok (.return_, 1) := by decide +kernel
theorem dX0_addSigned_5 : decode cX0_addSigned 5 = .ok (.aload_n 0, 1) := by decide +kernel
theorem dX0_addSigned_6 : decode cX0_addSigned 6 = .ok (.getfield 7, 3) := by decide +kernel
theorem dX0_addSigned_9 : decode cX0_addSigned 9 = .ok (.ifCond .eq 11, 3) := by decide +kernel
theorem dX0_addSigned_12 : decode cX0_addSigned 12 = .ok (.aload_n 0, 1) := by decide +kernel
theorem dX0_addSigned_13 : decode cX0_addSigned 13 = .ok (.getfield 7, 3) := by decide +kernel
theorem dX0_addSigned_16 : decode cX0_addSigned 16 = .ok (.iload_n 2, 1) := by decide +kernel
theorem dX0_addSigned_17 : decode cX0_addSigned 17 = .ok (.if_icmp .ne 12, 3) := by decide +kernel
theorem dX0_addSigned_20 : decode cX0_addSigned 20 = .ok (.aload_n 0, 1) := by decide +kernel
theorem dX0_addSigned_21 : decode cX0_addSigned 21 = .ok (.aload_n 1, 1) := by decide +kernel
theorem dX0_addSigned_22 : decode cX0_addSigned 22 = .ok (.iload_n 2, 1) := by decide +kernel
theorem dX0_addSigned_23 : decode cX0_addSigned 23 = .ok (.invokevirtual 66, 3) := by decide +kernel
theorem dX0_addSigned_26 : decode cX0_addSigned 26 = .ok (.goto 31, 3) := by decide +kernel
theorem dX0_addSigned_29 : decode cX0_addSigned 29 = .ok (.aload_n 0, 1) := by decide +kernel
theorem dX0_addSigned_30 : decode cX0_addSigned 30 = .ok (.aload_n 1, 1) := by decide +kernel
theorem dX0_addSigned_31 : decode cX0_addSigned 31 = .ok (.invokevirtual 56, 3) := by decide +kernel
theorem dX0_addSigned_34 : decode cX0_addSigned 34 = .ok (.ifCond .lt 16, 3) := by decide +kernel
theorem dX0_addSigned_37 : decode cX0_addSigned 37 = .ok (.aload_n 0, 1) := by decide +kernel
theorem dX0_addSigned_38 : decode cX0_addSigned 38 = .ok (.aload_n 0, 1) := by decide +kernel
theorem dX0_addSigned_39 : decode cX0_addSigned 39 = .ok (.aload_n 1, 1) := by decide +kernel
theorem dX0_addSigned_40 : decode cX0_addSigned 40 = .ok (.aload_n 0, 1) := by decide +kernel
theorem dX0_addSigned_41 : decode cX0_addSigned 41 = .ok (.getfield 7, 3) := by decide +kernel
theorem dX0_addSigned_44 : decode cX0_addSigned 44 = .ok (.invokevirtual 69, 3) := by decide +kernel
theorem dX0_addSigned_47 : decode cX0_addSigned 47 = .ok (.goto 10, 3) := by decide +kernel
theorem dX0_addSigned_50 : decode cX0_addSigned 50 = .ok (.aload_n 0, 1) := by decide +kernel
theorem dX0_addSigned_51 : decode cX0_addSigned 51 = .ok (.aload_n 1, 1) := by decide +kernel
theorem dX0_addSigned_52 : decode cX0_addSigned 52 = .ok (.aload_n 0, 1) := by decide +kernel
theorem dX0_addSigned_53 : decode cX0_addSigned 53 = .ok (.iload_n 2, 1) := by decide +kernel
theorem dX0_addSigned_54 : decode cX0_addSigned 54 = .ok (.invokevirtual 69, 3) := by decide +kernel
theorem dX0_addSigned_57 : decode cX0_addSigned 57 = .ok (.return_, 1) := by decide +kernel
theorem dX0_addSizes_0 : decode cX0_addSizes 0 = .ok (.lconst 0, 1) := by decide +kernel
theorem dX0_addSizes_1 : decode cX0_addSizes 1 = .ok (.lstore_n 3, 1) := by decide +kernel
theorem dX0_addSizes_2 : decode cX0_addSizes 2 = .ok (.bipush 14, 2) := by decide +kernel
theorem dX0_addSizes_4 : decode cX0_addSizes 4 = .ok (.aload_n 0, 1) := by decide +kernel
theorem dX0_addSizes_5 : decode cX0_addSizes 5 = .ok (.getfield 13, 3) := by decide +kernel
theorem dX0_addSizes_8 : decode cX0_addSizes 8 = .ok (.aload_n 1, 1) := by decide +kernel
theorem dX0_addSizes_9 : decode cX0_addSizes 9 = .ok (.getfield 13, 3) := by decide +kernel
theorem dX0_addSizes_12 : decode cX0_addSizes 12 = .ok (.invokestatic 73, 3) := by decide +kernel
theorem dX0_addSizes_15 : decode cX0_addSizes 15 = .ok (.iconst 1, 1) := by decide +kernel
theorem dX0_addSizes_16 : decode cX0_addSizes 16 = .ok (.iadd, 1) := by decide +kernel
theorem dX0_addSizes_17 : decode cX0_addSizes 17 = .ok (.invokestatic 32, 3) := by decide +kernel
theorem dX0_addSizes_20 : decode cX0_addSizes 20 = .ok (.istore 5, 2) := by decide +kernel
theorem dX0_addSizes_22 : decode cX0_addSizes 22 = .ok (.iconst 0, 1) := by decide +kernel
theorem dX0_addSizes_23 : decode cX0_addSizes 23 = .ok (.istore 6, 2) := by decide +kernel
theorem dX0_addSizes_25 : decode cX0_addSizes 25 = .ok (.iload 6, 2) := by decide +kernel
theorem dX0_addSizes_27 : decode cX0_addSizes 27 = .ok (.iload 5, 2) := by decide +kernel
theorem dX0_addSizes_29 : decode cX0_addSizes 29 = .ok (.if_icmp .ge 45, 3) := by decide +kernel
theorem dX0_addSizes_32 : decode cX0_addSizes 32 = .ok (.lload_n 3, 1) := by decide +kernel
theorem dX0_addSizes_33 : decode cX0_addSizes 33 = .ok (.aload_n 0, 1) := by decide +kernel
theorem dX0_addSizes_34 : decode cX0_addSizes 34 = .ok (.iload 6, 2) := by decide +kernel
theorem dX0_addSizes_36 : decode cX0_addSizes 36 = .ok (.invokevirtual 76, 3) := by decide +kernel
theorem dX0_addSizes_39 : decode cX0_addSizes 39 = .ok (.i2l, 1) := by decide +kernel
theorem dX0_addSizes_40 : decode cX0_addSizes 40 = .ok (.aload_n 1, 1) := by decide +kernel
theorem dX0_addSizes_41 : decode cX0_addSizes 41 = .ok (.iload 6, 2) := by decide +kernel
theorem dX0_addSizes_43 : decode cX0_addSizes 43 = .ok (.invokevirtual 76, 3) := by decide +kernel
theorem dX0_addSizes_46 : decode cX0_addSizes 46 = .ok (.i2l, 1) := by decide +kernel
theorem dX0_addSizes_47 : decode cX0_addSizes 47 = .ok (.ladd, 1) := by decide +kernel
theorem dX0_addSizes_48 : decode cX0_addSizes 48 = .ok (.ladd, 1) := by decide +kernel
theorem dX0_addSizes_49 : decode cX0_addSizes 49 = .ok (.lstore_n 3, 1) := by decide +kernel
theorem dX0_addSizes_50 : decode cX0_addSizes 50 = .ok (.aload_n 0, 1) := by decide +kernel
theorem dX0_addSizes_51 : decode cX0_addSizes 51 = .ok (.getfield 16, 3) := by decide +kernel
theorem dX0_addSizes_54 : decode cX0_addSizes 54 = .ok (.iload 6, 2) := by decide +kernel
theorem dX0_addSizes_56 : decode cX0_addSizes 56 = .ok (.lload_n 3, 1) := by decide +kernel
theorem dX0_addSizes_57 : decode cX0_addSizes 57 = .ok (.ldc2_w 26, 3) := by decide +kernel
theorem dX0_addSizes_60 : decode cX0_addSizes 60 = .ok (.land, 1) := by decide +kernel
theorem dX0_addSizes_61 : decode cX0_addSizes 61 = .ok (.l2i, 1) := by decide +kernel
theorem dX0_addSizes_62 : decode cX0_addSizes 62 = .ok (.iastore, 1) := by decide +kernel
theorem dX0_addSizes_63 : decode cX0_addSizes 63 = .ok (.lload_n 3, 1) := by decide +kernel
theorem dX0_addSizes_64 : decode cX0_addSizes 64 = .ok (.bipush 31, 2) := by decide +kernel
theorem dX0_addSizes_66 : decode cX0_addSizes 66 = .ok (.lshr, 1) := by decide +kernel
theorem dX0_addSizes_67 : decode cX0_addSizes 67 = .ok (.lstore_n 3, 1) := by decide +kernel
theorem dX0_addSizes_68 : decode cX0_addSizes 68 = .ok (.iinc 6 1, 3) := by decide +kernel
theorem dX0_addSizes_71 : decode cX0_addSizes 71 = .ok (.goto (-46), 3) := by decide +kernel
theorem dX0_addSizes_74 : decode cX0_addSizes 74 = .ok (.aload_n 0, 1) := by decide +kernel
theorem dX0_addSizes_75 : decode cX0_addSizes 75 = .ok (.iload 5, 2) := by decide +kernel
theorem dX0_addSizes_77 : decode cX0_addSizes 77 = .ok (.iload_n 2, 1) := by decide +kernel
theorem dX0_addSizes_78 : decode cX0_addSizes 78 = .ok (.invokevirtual 28, 3) := by decide +kernel
theorem dX0_addSizes_81 : decode cX0_addSizes 81 = .ok (.return_, 1) := by decide +kernel
theorem dX0_setDifference_0 : decode cX0_setDifference 0 = .ok (.lconst 0, 1) := by decide +kernel
theorem dX0_setDifference_1 : decode cX0_setDifference 1 = .ok (.lstore 4, 2) := by decide +kernel
theorem dX0_setDifference_3 : decode cX0_setDifference 3 = .ok (.aload_n 1, 1) := by decide +kernel
theorem dX0_setDifference_4 : decode cX0_setDifference 4 = .ok (.getfield 13, 3) := by decide +kernel
theorem dX0_setDifference_7 : decode cX0_setDifference 7 = .ok (.istore 6, 2) := by decide +kernel
theorem dX0_setDifference_9 : decode cX0_setDifference 9 = .ok (.iconst 0, 1) := by decide +kernel
theorem dX0_setDifference_10 : decode cX0_setDifference 10 = .ok (.istore 7, 2) := by decide +kernel
theorem dX0_setDifference_12 : decode cX0_setDifference 12 = .ok (.iload 7, 2) := by decide +kernel
theorem dX0_setDifference_14 : decode cX0_setDifference 14 = .ok (.iload 6, 2) := by decide +kernel
theorem dX0_setDifference_16 : decode cX0_setDifference 16 = .ok (.if_icmp .ge 50, 3) := by decide +kernel
theorem dX0_setDifference_19 : decode cX0_setDifference 19 = .ok (.lload 4, 2) := by decide +kernel
theorem dX0_setDifference_21 : decode cX0_setDifference 21 = .ok (.aload_n 1, 1) := by decide +kernel
theorem dX0_setDifference_22 : decode cX0_setDifference 22 = .ok (.iload 7, 2) := by decide +kernel
theorem dX0_setDifference_24 : decode cX0_setDifference 24 = .ok (.invokevirtual 76, 3) := by decide +kernel
theorem dX0_setDifference_27 : decode cX0_setDifference 27 = .ok (.i2l, 1) := by decide +kernel
theorem dX0_setDifference_28 : decode cX0_setDifference 28 = .ok (.aload_n 2, 1) := by decide +kernel
theorem dX0_setDifference_29 : decode cX0_setDifference 29 = .ok (.iload 7, 2) := by decide +kernel
theorem dX0_setDifference_31 : decode cX0_setDifference 31 = .ok (.invokevirtual 76, 3) := by decide +kernel
theorem dX0_setDifference_34 : decode cX0_setDifference 34 = .ok (.i2l, 1) := by decide +kernel
theorem dX0_setDifference_35 : decode cX0_setDifference 35 = .ok (.lsub, 1) := by decide +kernel
theorem dX0_setDifference_36 : decode cX0_setDifference 36 = .ok (.ladd, 1) := by decide +kernel
theorem dX0_setDifference_37 : decode cX0_setDifference 37 = .ok (.lstore 4, 2) := by decide +kernel
theorem dX0_setDifference_39 : decode cX0_setDifference 39 = .ok (.aload_n 0, 1) := by decide +kernel
theorem dX0_setDifference_40 : decode cX0_setDifference 40 = .ok (.getfield 16, 3) := by decide +kernel
theorem dX0_setDifference_43 : decode cX0_setDifference 43 = .ok (.iload 7, 2) := by decide +kernel
theorem dX0_setDifference_45 : decode cX0_setDifference 45 = .ok (.lload 4, 2) := by decide +kernel
theorem dX0_setDifference_47 : decode cX0_setDifference 47 = .ok (.ldc2_w 26, 3) := by decide +kernel
theorem dX0_setDifference_50 : decode cX0_setDifference 50 = .ok (.land, 1) := by decide +kernel
theorem dX0_setDifference_51 : decode cX0_setDifference 51 = .ok (.l2i, 1) := by decide +kernel
theorem dX0_setDifference_52 : decode cX0_setDifference 52 = .ok (.iastore, 1) := by decide +kernel
theorem dX0_setDifference_53 : decode cX0_setDifference 53 = .ok (.lload 4, 2) := by decide +kernel
theorem dX0_setDifference_55 : decode cX0_setDifference 55 = .ok (.bipush 31, 2) := by decide +kernel
theorem dX0_setDifference_57 : decode cX0_setDifference 57 = .ok (.lshr, 1) := by decide +kernel
theorem dX0_setDifference_58 : decode cX0_setDifference 58 = .ok (.lstore 4, 2) := by decide +kernel
theorem dX0_setDifference_60 : decode cX0_setDifference 60 = .ok (.iinc 7 1, 3) := by decide +kernel
theorem dX0_setDifference_63 : decode cX0_setDifference 63 = .ok (.goto (-51), 3) := by decide +kernel
theorem dX0_setDifference_66 : decode cX0_setDifference 66 = .ok (.aload_n 0, 1) := by decide +kernel
theorem dX0_setDifference_67 : decode cX0_setDifference 67 = .ok (.iload 6, 2) := by decide +kernel
theorem dX0_setDifference_69 : decode cX0_setDifference 69 = .ok (.iload_n 3, 1) := by decide +kernel
theorem dX0_setDifference_70 : decode cX0_setDifference 70 = .ok (.invokevirtual 28, 3) := by decide +kernel
theorem dX0_setDifference_73 : decode cX0_setDifference 73 = .ok (.return_, 1) := by decide +kernel
theorem dX0_compareSize_0 : decode cX0_compareSize 0 = .ok (.aload_n 0, 1) := by decide +kernel
theorem dX0_compareSize_1 : decode cX0_compareSize 1 = .ok (.getfield 13, 3) := by decide +kernel
theorem dX0_compareSize_4 : decode cX0_compareSize 4 = .ok (.aload_n 1, 1) := by decide +kernel
theorem dX0_compareSize_5 : decode cX0_compareSize 5 = .ok (.getfield 13, 3) := by decide +kernel
theorem dX0_compareSize_8 : decode cX0_compareSize 8 = .ok (.if_icmp .eq 20, 3) := by decide +kernel
theorem dX0_compareSize_11 : decode cX0_compareSize 11 = .ok (.aload_n 0, 1) := by decide +kernel
theorem dX0_compareSize_12 : decode cX0_compareSize 12 = .ok (.getfield 13, 3) := by decide +kernel
theorem dX0_compareSize_15 : decode cX0_compareSize 15 = .ok (.aload_n 1, 1) := by decide +kernel
theorem dX0_compareSize_16 : decode cX0_compareSize 16 = .ok (.getfield 13, 3) := by decide +kernel
theorem dX0_compareSize_19 : decode cX0_compareSize 19 = .ok (.if_icmp .ge 7, 3) := by decide +kernel
theorem dX0_compareSize_22 : decode cX0_compareSize 22 = .ok (.iconst (-1), 1) := by decide +kernel
theorem dX0_compareSize_23 : decode cX0_compareSize 23 = .ok (.goto 4, 3) := by decide +kernel
theorem dX0_compareSize_26 : decode cX0_compareSize 26 = .ok (.iconst 1, 1) := by decide +kernel
theorem dX0_compareSize_27 : decode cX0_compareSize 27 = .ok (.ireturn, 1) := by decide +kernel
theorem dX0_compareSize_28 : decode cX0_compareSize 28 = .ok (.aload_n 0, 1) := by decide +kernel
theorem dX0_compareSize_29 : decode cX0_compareSize 29 = .ok (.getfield 13, 3) := by decide +kernel
theorem dX0_compareSize_32 : decode cX0_compareSize 32 = .ok (.iconst 1, 1) := by decide +kernel
theorem dX0_compareSize_33 : decode cX0_compareSize 33 = .ok (.isub, 1) := by decide +kernel
theorem dX0_compareSize_34 : decode cX0_compareSize 34 = .ok (.istore_n 2, 1) := by decide +kernel
theorem dX0_compareSize_35 : decode cX0_compareSize 35 = .ok (.iload_n 2, 1) := by decide +kernel
theorem dX0_compareSize_36 : decode cX0_compareSize 36 = .ok (.ifCond .lt 45, 3) := by decide +kernel
theorem dX0_compareSize_39 : decode cX0_compareSize 39 = .ok (.aload_n 0, 1) := by decide +kernel
theorem dX0_compareSize_40 : decode cX0_compareSize 40 = .ok (.getfield 16, 3) := by decide +kernel
theorem dX0_compareSize_43 : decode cX0_compareSize 43 = .ok (.iload_n 2, 1) := by decide +kernel
theorem dX0_compareSize_44 : decode cX0_compareSize 44 = .ok (.iaload, 1) := by decide +kernel
theorem dX0_compareSize_45 : decode cX0_compareSize 45 = .ok (.aload_n 1, 1) := by decide +kernel
theorem dX0_compareSize_46 : decode cX0_compareSize 46 = .ok (.getfield 16, 3) := by decide +kernel
theorem dX0_compareSize_49 : decode cX0_compareSize 49 = .ok (.iload_n 2, 1) := by decide +kernel
theorem dX0_compareSize_50 : decode cX0_compareSize 50 = .ok (.iaload, 1) := by decide +kernel
theorem dX0_compareSize_51 : decode cX0_compareSize 51 = .ok (.if_icmp .eq 24, 3) := by decide +kernel
theorem dX0_compareSize_54 : decode cX0_compareSize 54 = .ok (.aload_n 0, 1) := by decide +kernel
theorem dX0_compareSize_55 : decode cX0_compareSize 55 = .ok (.getfield 16, 3) := by decide +kernel
theorem dX0_compareSize_58 : decode cX0_compareSize 58 = .ok (.iload_n 2, 1) := by decide +kernel
theorem dX0_compareSize_59 : decode cX0_compareSize 59 = .ok (.iaload, 1) := by decide +kernel
theorem dX0_compareSize_60 : decode cX0_compareSize 60 = .ok (.aload_n 1, 1) := by decide +kernel
theorem dX0_compareSize_61 : decode cX0_compareSize 61 = .ok (.getfield 16, 3) := by decide +kernel
theorem dX0_compareSize_64 : decode cX0_compareSize 64 = .ok (.iload_n 2, 1) := by decide +kernel
theorem dX0_compareSize_65 : decode cX0_compareSize 65 = .ok (.iaload, 1) := by decide +kernel
theorem dX0_compareSize_66 : decode cX0_compareSize 66 = .ok (.if_icmp .ge 7, 3) := by decide +kernel
theorem dX0_compareSize_69 : decode cX0_compareSize 69 = .ok (.iconst (-1), 1) := by decide +kernel
theorem dX0_compareSize_70 : decode cX0_compareSize 70 = .ok (.goto 4, 3) := by decide +kernel
theorem dX0_compareSize_73 : decode cX0_compareSize 73 = .ok (.iconst 1, 1) := by decide +kernel
theorem dX0_compareSize_74 : decode cX0_compareSize 74 = .ok (.ireturn, 1) := by decide +kernel
theorem dX0_compareSize_75 : decode cX0_compareSize 75 = .ok (.iinc 2 (-1), 3) := by decide +kernel
theorem dX0_compareSize_78 : decode cX0_compareSize 78 = .ok (.goto (-43), 3) := by decide +kernel
theorem dX0_compareSize_81 : decode cX0_compareSize 81 = .ok (.iconst 0, 1) := by decide +kernel
theorem dX0_compareSize_82 : decode cX0_compareSize 82 = .ok (.ireturn, 1) := by decide +kernel
theorem dX0_limb_0 : decode cX0_limb 0 = .ok (.iload_n 1, 1) := by decide +kernel
theorem dX0_limb_1 : decode cX0_limb 1 = .ok (.ifCond .lt 20, 3) := by decide +kernel
theorem dX0_limb_4 : decode cX0_limb 4 = .ok (.iload_n 1, 1) := by decide +kernel
theorem dX0_limb_5 : decode cX0_limb 5 = .ok (.aload_n 0, 1) := by decide +kernel
theorem dX0_limb_6 : decode cX0_limb 6 = .ok (.getfield 13, 3) := by decide +kernel
theorem dX0_limb_9 : decode cX0_limb 9 = .ok (.if_icmp .ge 12, 3) := by decide +kernel
theorem dX0_limb_12 : decode cX0_limb 12 = .ok (.aload_n 0, 1) := by decide +kernel
theorem dX0_limb_13 : decode cX0_limb 13 = .ok (.getfield 16, 3) := by decide +kernel
theorem dX0_limb_16 : decode cX0_limb 16 = .ok (.iload_n 1, 1) := by decide +kernel
theorem dX0_limb_17 : decode cX0_limb 17 = .ok (.iaload, 1) := by decide +kernel
theorem dX0_limb_18 : decode cX0_limb 18 = .ok (.goto 4, 3) := by decide +kernel
theorem dX0_limb_21 : decode cX0_limb 21 = .ok (.iconst 0, 1) := by decide +kernel
theorem dX0_limb_22 : decode cX0_limb 22 = .ok (.ireturn, 1) := by decide +kernel
