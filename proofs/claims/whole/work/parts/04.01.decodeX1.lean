theorem dX1_init_0 : decode cX1_init 0 = .ok (.aload_n 0, 1) := by decide +kernel
theorem dX1_init_1 : decode cX1_init 1 = .ok (.invokespecial 1, 3) := by decide +kernel
theorem dX1_init_4 : decode cX1_init 4 = .ok (.aload_n 0, 1) := by decide +kernel
theorem dX1_init_5 : decode cX1_init 5 = .ok (.iconst 1, 1) := by decide +kernel
theorem dX1_init_6 : decode cX1_init 6 = .ok (.putfield 7, 3) := by decide +kernel
theorem dX1_init_9 : decode cX1_init 9 = .ok (.aload_n 0, 1) := by decide +kernel
theorem dX1_init_10 : decode cX1_init 10 = .ok (.iload_n 1, 1) := by decide +kernel
theorem dX1_init_11 : decode cX1_init 11 = .ok (.putfield 13, 3) := by decide +kernel
theorem dX1_init_14 : decode cX1_init 14 = .ok (.aload_n 0, 1) := by decide +kernel
theorem dX1_init_15 : decode cX1_init 15 = .ok (.iload_n 2, 1) := by decide +kernel
theorem dX1_init_16 : decode cX1_init 16 = .ok (.putfield 17, 3) := by decide +kernel
theorem dX1_init_19 : decode cX1_init 19 = .ok (.aload_n 0, 1) := by decide +kernel
theorem dX1_init_20 : decode cX1_init 20 = .ok (.iload_n 3, 1) := by decide +kernel
theorem dX1_init_21 : decode cX1_init 21 = .ok (.putfield 20, 3) := by decide +kernel
theorem dX1_init_24 : decode cX1_init 24 = .ok (.aload_n 0, 1) := by decide +kernel
theorem dX1_init_25 : decode cX1_init 25 = .ok (.aload 4, 2) := by decide +kernel
theorem dX1_init_27 : decode cX1_init 27 = .ok (.putfield 23, 3) := by decide +kernel
theorem dX1_init_30 : decode cX1_init 30 = .ok (.aload_n 0, 1) := by decide +kernel
theorem dX1_init_31 : decode cX1_init 31 = .ok (.iload 5, 2) := by decide +kernel
theorem dX1_init_33 : decode cX1_init 33 = .ok (.putfield 27, 3) := by decide +kernel
theorem dX1_init_36 : decode cX1_init 36 = .ok (.aload_n 0, 1) := by decide +kernel
theorem dX1_init_37 : decode cX1_init 37 = .ok (.iload 6, 2) := by decide +kernel
theorem dX1_init_39 : decode cX1_init 39 = .ok (.putfield 30, 3) := by decide +kernel
theorem dX1_init_42 : decode cX1_init 42 = .ok (.aload_n 0, 1) := by decide +kernel
theorem dX1_init_43 : decode cX1_init 43 = .ok (.iload 7, 2) := by decide +kernel
theorem dX1_init_45 : decode cX1_init 45 = .ok (.putfield 33, 3) := by decide +kernel
theorem dX1_init_48 : decode cX1_init 48 = .ok (.return_, 1) := by decide +kernel
theorem dX1_isShakenBy_0 : decode cX1_isShakenBy 0 = .ok (.aload_n 0, 1) := by decide +kernel
theorem dX1_isShakenBy_1 : decode cX1_isShakenBy 1 = .ok (.getfield 23, 3) := by decide +kernel
theorem dX1_isShakenBy_4 : decode cX1_isShakenBy 4 = .ok (.ifnull 25, 3) := by decide +kernel
theorem dX1_isShakenBy_7 : decode cX1_isShakenBy 7 = .ok (.aload_n 0, 1) := by decide +kernel
theorem dX1_isShakenBy_8 : decode cX1_isShakenBy 8 = .ok (.getfield 23, 3) := by decide +kernel
theorem dX1_isShakenBy_11 : decode cX1_isShakenBy 11 = .ok (.aload_n 1, 1) := by decide +kernel
theorem dX1_isShakenBy_12 : decode cX1_isShakenBy 12 = .ok (.if_acmp .eq 13, 3) := by decide +kernel
theorem dX1_isShakenBy_15 : decode cX1_isShakenBy 15 = .ok (.aload_n 0, 1) := by decide +kernel
theorem dX1_isShakenBy_16 : decode cX1_isShakenBy 16 = .ok (.getfield 23, 3) := by decide +kernel
theorem dX1_isShakenBy_19 : decode cX1_isShakenBy 19 = .ok (.getfield 7, 3) := by decide +kernel
theorem dX1_isShakenBy_22 : decode cX1_isShakenBy 22 = .ok (.ifCond .ne 7, 3) := by decide +kernel
theorem dX1_isShakenBy_25 : decode cX1_isShakenBy 25 = .ok (.iconst 1, 1) := by decide +kernel
theorem dX1_isShakenBy_26 : decode cX1_isShakenBy 26 = .ok (.goto 4, 3) := by decide +kernel
theorem dX1_isShakenBy_29 : decode cX1_isShakenBy 29 = .ok (.iconst 0, 1) := by decide +kernel
theorem dX1_isShakenBy_30 : decode cX1_isShakenBy 30 = .ok (.ireturn, 1) := by decide +kernel
