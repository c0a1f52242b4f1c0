theorem dX2_init_0 : decode cX2_init 0 = .ok (.aload_n 0, 1) := by decide +kernel
theorem dX2_init_1 : decode cX2_init 1 = .ok (.invokespecial 1, 3) := by decide +kernel
theorem dX2_init_4 : decode cX2_init 4 = .ok (.aload_n 0, 1) := by decide +kernel
theorem dX2_init_5 : decode cX2_init 5 = .ok (.new 7, 3) := by decide +kernel
theorem dX2_init_8 : decode cX2_init 8 = .ok (.dup, 1) := by decide +kernel
theorem dX2_init_9 : decode cX2_init 9 = .ok (.invokespecial 9, 3) := by decide +kernel
theorem dX2_init_12 : decode cX2_init 12 = .ok (.putfield 10, 3) := by decide +kernel
theorem dX2_init_15 : decode cX2_init 15 = .ok (.aload_n 0, 1) := by decide +kernel
theorem dX2_init_16 : decode cX2_init 16 = .ok (.new 7, 3) := by decide +kernel
theorem dX2_init_19 : decode cX2_init 19 = .ok (.dup, 1) := by decide +kernel
theorem dX2_init_20 : decode cX2_init 20 = .ok (.invokespecial 9, 3) := by decide +kernel
theorem dX2_init_23 : decode cX2_init 23 = .ok (.putfield 16, 3) := by decide +kernel
theorem dX2_init_26 : decode cX2_init 26 = .ok (.aload_n 0, 1) := by decide +kernel
theorem dX2_init_27 : decode cX2_init 27 = .ok (.getfield 16, 3) := by decide +kernel
theorem dX2_init_30 : decode cX2_init 30 = .ok (.lconst 1, 1) := by decide +kernel
theorem dX2_init_31 : decode cX2_init 31 = .ok (.invokevirtual 19, 3) := by decide +kernel
theorem dX2_init_34 : decode cX2_init 34 = .ok (.return_, 1) := by decide +kernel
theorem dX2_multiplyBelow_0 : decode cX2_multiplyBelow 0 = .ok (.aload_n 2, 1) := by decide +kernel
theorem dX2_multiplyBelow_1 : decode cX2_multiplyBelow 1 = .ok (.aload_n 0, 1) := by decide +kernel
theorem dX2_multiplyBelow_2 : decode cX2_multiplyBelow 2 = .ok (.getfield 16, 3) := by decide +kernel
theorem dX2_multiplyBelow_5 : decode cX2_multiplyBelow 5 = .ok (.aload_n 1, 1) := by decide +kernel
theorem dX2_multiplyBelow_6 : decode cX2_multiplyBelow 6 = .ok (.invokevirtual 23, 3) := by decide +kernel
theorem dX2_multiplyBelow_9 : decode cX2_multiplyBelow 9 = .ok (.aload_n 0, 1) := by decide +kernel
theorem dX2_multiplyBelow_10 : decode cX2_multiplyBelow 10 = .ok (.getfield 16, 3) := by decide +kernel
theorem dX2_multiplyBelow_13 : decode cX2_multiplyBelow 13 = .ok (.aload_n 2, 1) := by decide +kernel
theorem dX2_multiplyBelow_14 : decode cX2_multiplyBelow 14 = .ok (.invokevirtual 27, 3) := by decide +kernel
theorem dX2_multiplyBelow_17 : decode cX2_multiplyBelow 17 = .ok (.return_, 1) := by decide +kernel
theorem dX2_reduce_0 : decode cX2_reduce 0 = .ok (.aload_n 1, 1) := by decide +kernel
theorem dX2_reduce_1 : decode cX2_reduce 1 = .ok (.aload_n 0, 1) := by decide +kernel
theorem dX2_reduce_2 : decode cX2_reduce 2 = .ok (.getfield 10, 3) := by decide +kernel
theorem dX2_reduce_5 : decode cX2_reduce 5 = .ok (.aload_n 0, 1) := by decide +kernel
theorem dX2_reduce_6 : decode cX2_reduce 6 = .ok (.getfield 16, 3) := by decide +kernel
theorem dX2_reduce_9 : decode cX2_reduce 9 = .ok (.invokevirtual 31, 3) := by decide +kernel
theorem dX2_reduce_12 : decode cX2_reduce 12 = .ok (.aload_n 1, 1) := by decide +kernel
theorem dX2_reduce_13 : decode cX2_reduce 13 = .ok (.aload_n 0, 1) := by decide +kernel
theorem dX2_reduce_14 : decode cX2_reduce 14 = .ok (.getfield 10, 3) := by decide +kernel
theorem dX2_reduce_17 : decode cX2_reduce 17 = .ok (.invokevirtual 36, 3) := by decide +kernel
theorem dX2_reduce_20 : decode cX2_reduce 20 = .ok (.aload_n 1, 1) := by decide +kernel
theorem dX2_reduce_21 : decode cX2_reduce 21 = .ok (.aload_n 0, 1) := by decide +kernel
theorem dX2_reduce_22 : decode cX2_reduce 22 = .ok (.getfield 16, 3) := by decide +kernel
theorem dX2_reduce_25 : decode cX2_reduce 25 = .ok (.invokevirtual 36, 3) := by decide +kernel
theorem dX2_reduce_28 : decode cX2_reduce 28 = .ok (.return_, 1) := by decide +kernel
