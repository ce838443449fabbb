theorem dX3_judgedOn_33 : decode cX3_judgedOn 33 = .ok (.invokevirtual 121, 3) := by decide +kernel
theorem dX3_judgedOn_36 : decode cX3_judgedOn 36 = .ok (.isub, 1) := by decide +kernel
theorem dX3_judgedOn_37 : decode cX3_judgedOn 37 = .ok (.istore 4, 2) := by decide +kernel
theorem dX3_judgedOn_39 : decode cX3_judgedOn 39 = .ok (.aload_n 0, 1) := by decide +kernel
theorem dX3_judgedOn_40 : decode cX3_judgedOn 40 = .ok (.iload_n 1, 1) := by decide +kernel
theorem dX3_judgedOn_41 : decode cX3_judgedOn 41 = .ok (.invokevirtual 114, 3) := by decide +kernel
theorem dX3_judgedOn_44 : decode cX3_judgedOn 44 = .ok (.aload_n 0, 1) := by decide +kernel
theorem dX3_judgedOn_45 : decode cX3_judgedOn 45 = .ok (.iload_n 1, 1) := by decide +kernel
theorem dX3_judgedOn_46 : decode cX3_judgedOn 46 = .ok (.iload_n 2, 1) := by decide +kernel
theorem dX3_judgedOn_47 : decode cX3_judgedOn 47 = .ok (.invokevirtual 121, 3) := by decide +kernel
theorem dX3_judgedOn_50 : decode cX3_judgedOn 50 = .ok (.iadd, 1) := by decide +kernel
theorem dX3_judgedOn_51 : decode cX3_judgedOn 51 = .ok (.istore 5, 2) := by decide +kernel
theorem dX3_judgedOn_53 : decode cX3_judgedOn 53 = .ok (.iload 4, 2) := by decide +kernel
theorem dX3_judgedOn_55 : decode cX3_judgedOn 55 = .ok (.iload_n 3, 1) := by decide +kernel
theorem dX3_judgedOn_56 : decode cX3_judgedOn 56 = .ok (.ineg, 1) := by decide +kernel
theorem dX3_judgedOn_57 : decode cX3_judgedOn 57 = .ok (.if_icmp .lt 11, 3) := by decide +kernel
theorem dX3_judgedOn_60 : decode cX3_judgedOn 60 = .ok (.iload 5, 2) := by decide +kernel
theorem dX3_judgedOn_62 : decode cX3_judgedOn 62 = .ok (.iload_n 3, 1) := by decide +kernel
theorem dX3_judgedOn_63 : decode cX3_judgedOn 63 = .ok (.if_icmp .gt 5, 3) := by decide +kernel
theorem dX3_judgedOn_66 : decode cX3_judgedOn 66 = .ok (.iconst 1, 1) := by decide +kernel
theorem dX3_judgedOn_67 : decode cX3_judgedOn 67 = .ok (.ireturn, 1) := by decide +kernel
theorem dX3_judgedOn_68 : decode cX3_judgedOn 68 = .ok (.iload 4, 2) := by decide +kernel
theorem dX3_judgedOn_70 : decode cX3_judgedOn 70 = .ok (.iload_n 3, 1) := by decide +kernel
theorem dX3_judgedOn_71 : decode cX3_judgedOn 71 = .ok (.if_icmp .gt 10, 3) := by decide +kernel
theorem dX3_judgedOn_74 : decode cX3_judgedOn 74 = .ok (.iload 5, 2) := by decide +kernel
theorem dX3_judgedOn_76 : decode cX3_judgedOn 76 = .ok (.iload_n 3, 1) := by decide +kernel
theorem dX3_judgedOn_77 : decode cX3_judgedOn 77 = .ok (.ineg, 1) := by decide +kernel
theorem dX3_judgedOn_78 : decode cX3_judgedOn 78 = .ok (.if_icmp .ge 7, 3) := by decide +kernel
theorem dX3_judgedOn_81 : decode cX3_judgedOn 81 = .ok (.iconst 3, 1) := by decide +kernel
theorem dX3_judgedOn_82 : decode cX3_judgedOn 82 = .ok (.goto 4, 3) := by decide +kernel
theorem dX3_judgedOn_85 : decode cX3_judgedOn 85 = .ok (.iconst 2, 1) := by decide +kernel
theorem dX3_judgedOn_86 : decode cX3_judgedOn 86 = .ok (.ireturn, 1) := by decide +kernel
theorem dX3_judge_0 : decode cX3_judge 0 = .ok (.aload_n 0, 1) := by decide +kernel
theorem dX3_judge_1 : decode cX3_judge 1 = .ok (.iload_n 1, 1) := by decide +kernel
theorem dX3_judge_2 : decode cX3_judge 2 = .ok (.invokevirtual 96, 3) := by decide +kernel
theorem dX3_judge_5 : decode cX3_judge 5 = .ok (.ifCond .eq 15, 3) := by decide +kernel
theorem dX3_judge_8 : decode cX3_judge 8 = .ok (.aload_n 0, 1) := by decide +kernel
theorem dX3_judge_9 : decode cX3_judge 9 = .ok (.iload_n 1, 1) := by decide +kernel
theorem dX3_judge_10 : decode cX3_judge 10 = .ok (.aload_n 0, 1) := by decide +kernel
theorem dX3_judge_11 : decode cX3_judge 11 = .ok (.getfield 92, 3) := by decide +kernel
theorem dX3_judge_14 : decode cX3_judge 14 = .ok (.invokevirtual 135, 3) := by decide +kernel
theorem dX3_judge_17 : decode cX3_judge 17 = .ok (.goto 4, 3) := by decide +kernel
theorem dX3_judge_20 : decode cX3_judge 20 = .ok (.iconst (-1), 1) := by decide +kernel
theorem dX3_judge_21 : decode cX3_judge 21 = .ok (.ireturn, 1) := by decide +kernel
theorem dX3_stays_0 : decode cX3_stays 0 = .ok (.aload_n 0, 1) := by decide +kernel
theorem dX3_stays_1 : decode cX3_stays 1 = .ok (.iload_n 1, 1) := by decide +kernel
theorem dX3_stays_2 : decode cX3_stays 2 = .ok (.invokevirtual 96, 3) := by decide +kernel
theorem dX3_stays_5 : decode cX3_stays 5 = .ok (.ifCond .ne 5, 3) := by decide +kernel
theorem dX3_stays_8 : decode cX3_stays 8 = .ok (.iconst (-1), 1) := by decide +kernel
theorem dX3_stays_9 : decode cX3_stays 9 = .ok (.ireturn, 1) := by decide +kernel
theorem dX3_stays_10 : decode cX3_stays 10 = .ok (.aload_n 0, 1) := by decide +kernel
theorem dX3_stays_11 : decode cX3_stays 11 = .ok (.iload_n 1, 1) := by decide +kernel
theorem dX3_stays_12 : decode cX3_stays 12 = .ok (.aload_n 0, 1) := by decide +kernel
theorem dX3_stays_13 : decode cX3_stays 13 = .ok (.getfield 92, 3) := by decide +kernel
theorem dX3_stays_16 : decode cX3_stays 16 = .ok (.invokevirtual 135, 3) := by decide +kernel
theorem dX3_stays_19 : decode cX3_stays 19 = .ok (.istore_n 2, 1) := by decide +kernel
theorem dX3_stays_20 : decode cX3_stays 20 = .ok (.iload_n 2, 1) := by decide +kernel
theorem dX3_stays_21 : decode cX3_stays 21 = .ok (.ifCond .ne 6, 3) := by decide +kernel
theorem dX3_stays_24 : decode cX3_stays 24 = .ok (.ldc 95, 2) := by decide +kernel
theorem dX3_stays_26 : decode cX3_stays 26 = .ok (.ireturn, 1) := by decide +kernel
theorem dX3_stays_27 : decode cX3_stays 27 = .ok (.iconst 0, 1) := by decide +kernel
theorem dX3_stays_28 : decode cX3_stays 28 = .ok (.istore_n 3, 1) := by decide +kernel
theorem dX3_stays_29 : decode cX3_stays 29 = .ok (.iload_n 3, 1) := by decide +kernel
theorem dX3_stays_30 : decode cX3_stays 30 = .ok (.sipush 20000, 3) := by decide +kernel
theorem dX3_stays_33 : decode cX3_stays 33 = .ok (.if_icmp .ge 26, 3) := by decide +kernel
theorem dX3_stays_36 : decode cX3_stays 36 = .ok (.aload_n 0, 1) := by decide +kernel
theorem dX3_stays_37 : decode cX3_stays 37 = .ok (.iload_n 1, 1) := by decide +kernel
theorem dX3_stays_38 : decode cX3_stays 38 = .ok (.aload_n 0, 1) := by decide +kernel
theorem dX3_stays_39 : decode cX3_stays 39 = .ok (.getfield 92, 3) := by decide +kernel
theorem dX3_stays_42 : decode cX3_stays 42 = .ok (.iload_n 3, 1) := by decide +kernel
theorem dX3_stays_43 : decode cX3_stays 43 = .ok (.iadd, 1) := by decide +kernel
theorem dX3_stays_44 : decode cX3_stays 44 = .ok (.iconst 1, 1) := by decide +kernel
theorem dX3_stays_45 : decode cX3_stays 45 = .ok (.iadd, 1) := by decide +kernel
theorem dX3_stays_46 : decode cX3_stays 46 = .ok (.invokevirtual 135, 3) := by decide +kernel
theorem dX3_stays_49 : decode cX3_stays 49 = .ok (.iload_n 2, 1) := by decide +kernel
theorem dX3_stays_50 : decode cX3_stays 50 = .ok (.if_icmp .ne 9, 3) := by decide +kernel
theorem dX3_stays_53 : decode cX3_stays 53 = .ok (.iinc 3 1, 3) := by decide +kernel
theorem dX3_stays_56 : decode cX3_stays 56 = .ok (.goto (-27), 3) := by decide +kernel
theorem dX3_stays_59 : decode cX3_stays 59 = .ok (.iload_n 3, 1) := by decide +kernel
theorem dX3_stays_60 : decode cX3_stays 60 = .ok (.ireturn, 1) := by decide +kernel
theorem dX3_seal_0 : decode cX3_seal 0 = .ok (.aload_n 0, 1) := by decide +kernel
theorem dX3_seal_1 : decode cX3_seal 1 = .ok (.iload_n 1, 1) := by decide +kernel
theorem dX3_seal_2 : decode cX3_seal 2 = .ok (.invokevirtual 96, 3) := by decide +kernel
theorem dX3_seal_5 : decode cX3_seal 5 = .ok (.ifCond .ne 5, 3) := by decide +kernel
theorem dX3_seal_8 : decode cX3_seal 8 = .ok (.iconst (-1), 1) := by decide +kernel
theorem dX3_seal_9 : decode cX3_seal 9 = .ok (.ireturn, 1) := by decide +kernel
theorem dX3_seal_10 : decode cX3_seal 10 = .ok (.iload_n 2, 1) := by decide +kernel
theorem dX3_seal_11 : decode cX3_seal 11 = .ok (.iconst 1, 1) := by decide +kernel
theorem dX3_seal_12 : decode cX3_seal 12 = .ok (.sipush 9999, 3) := by decide +kernel
theorem dX3_seal_15 : decode cX3_seal 15 = .ok (.invokestatic 88, 3) := by decide +kernel
theorem dX3_seal_18 : decode cX3_seal 18 = .ok (.ifCond .ne 6, 3) := by decide +kernel
theorem dX3_seal_21 : decode cX3_seal 21 = .ok (.bipush (-2), 2) := by decide +kernel
theorem dX3_seal_23 : decode cX3_seal 23 = .ok (.ireturn, 1) := by decide +kernel
theorem dX3_seal_24 : decode cX3_seal 24 = .ok (.aload_n 0, 1) := by decide +kernel
theorem dX3_seal_25 : decode cX3_seal 25 = .ok (.iload_n 1, 1) := by decide +kernel
theorem dX3_seal_26 : decode cX3_seal 26 = .ok (.invokevirtual 102, 3) := by decide +kernel
theorem dX3_seal_29 : decode cX3_seal 29 = .ok (.ifCond .eq 25, 3) := by decide +kernel
theorem dX3_seal_32 : decode cX3_seal 32 = .ok (.aload_n 0, 1) := by decide +kernel
theorem dX3_seal_33 : decode cX3_seal 33 = .ok (.iload_n 1, 1) := by decide +kernel
theorem dX3_seal_34 : decode cX3_seal 34 = .ok (.aload_n 0, 1) := by decide +kernel
theorem dX3_seal_35 : decode cX3_seal 35 = .ok (.getfield 92, 3) := by decide +kernel
theorem dX3_seal_38 : decode cX3_seal 38 = .ok (.invokevirtual 135, 3) := by decide +kernel
theorem dX3_seal_41 : decode cX3_seal 41 = .ok (.iconst 1, 1) := by decide +kernel
theorem dX3_seal_42 : decode cX3_seal 42 = .ok (.if_icmp .ne 12, 3) := by decide +kernel
theorem dX3_seal_45 : decode cX3_seal 45 = .ok (.aload_n 0, 1) := by decide +kernel
theorem dX3_seal_46 : decode cX3_seal 46 = .ok (.getfield 46, 3) := by decide +kernel
theorem dX3_seal_49 : decode cX3_seal 49 = .ok (.iload_n 2, 1) := by decide +kernel
theorem dX3_seal_50 : decode cX3_seal 50 = .ok (.baload, 1) := by decide +kernel
theorem dX3_seal_51 : decode cX3_seal 51 = .ok (.ifCond .eq 6, 3) := by decide +kernel
theorem dX3_seal_54 : decode cX3_seal 54 = .ok (.bipush (-3), 2) := by decide +kernel
theorem dX3_seal_56 : decode cX3_seal 56 = .ok (.ireturn, 1) := by decide +kernel
theorem dX3_seal_57 : decode cX3_seal 57 = .ok (.aload_n 0, 1) := by decide +kernel
theorem dX3_seal_58 : decode cX3_seal 58 = .ok (.getfield 46, 3) := by decide +kernel
theorem dX3_seal_61 : decode cX3_seal 61 = .ok (.iload_n 2, 1) := by decide +kernel
theorem dX3_seal_62 : decode cX3_seal 62 = .ok (.iconst 1, 1) := by decide +kernel
theorem dX3_seal_63 : decode cX3_seal 63 = .ok (.bastore, 1) := by decide +kernel
theorem dX3_seal_64 : decode cX3_seal 64 = .ok (.aload_n 0, 1) := by decide +kernel
theorem dX3_seal_65 : decode cX3_seal 65 = .ok (.getfield 28, 3) := by decide +kernel
theorem dX3_seal_68 : decode cX3_seal 68 = .ok (.iload_n 1, 1) := by decide +kernel
theorem dX3_seal_69 : decode cX3_seal 69 = .ok (.iload_n 2, 1) := by decide +kernel
theorem dX3_seal_70 : decode cX3_seal 70 = .ok (.iastore, 1) := by decide +kernel
theorem dX3_seal_71 : decode cX3_seal 71 = .ok (.iconst 1, 1) := by decide +kernel
theorem dX3_seal_72 : decode cX3_seal 72 = .ok (.ireturn, 1) := by decide +kernel
theorem dX3_sealed_0 : decode cX3_sealed 0 = .ok (.iload_n 1, 1) := by decide +kernel
theorem dX3_sealed_1 : decode cX3_sealed 1 = .ok (.iconst 1, 1) := by decide +kernel
theorem dX3_sealed_2 : decode cX3_sealed 2 = .ok (.sipush 9999, 3) := by decide +kernel
theorem dX3_sealed_5 : decode cX3_sealed 5 = .ok (.invokestatic 88, 3) := by decide +kernel
theorem dX3_sealed_8 : decode cX3_sealed 8 = .ok (.ifCond .ne 6, 3) := by decide +kernel
theorem dX3_sealed_11 : decode cX3_sealed 11 = .ok (.bipush (-2), 2) := by decide +kernel
theorem dX3_sealed_13 : decode cX3_sealed 13 = .ok (.ireturn, 1) := by decide +kernel
theorem dX3_sealed_14 : decode cX3_sealed 14 = .ok (.iconst 0, 1) := by decide +kernel
theorem dX3_sealed_15 : decode cX3_sealed 15 = .ok (.istore_n 2, 1) := by decide +kernel
theorem dX3_sealed_16 : decode cX3_sealed 16 = .ok (.iload_n 2, 1) := by decide +kernel
theorem dX3_sealed_17 : decode cX3_sealed 17 = .ok (.aload_n 0, 1) := by decide +kernel
theorem dX3_sealed_18 : decode cX3_sealed 18 = .ok (.getfield 84, 3) := by decide +kernel
theorem dX3_sealed_21 : decode cX3_sealed 21 = .ok (.if_icmp .ge 21, 3) := by decide +kernel
theorem dX3_sealed_24 : decode cX3_sealed 24 = .ok (.aload_n 0, 1) := by decide +kernel
theorem dX3_sealed_25 : decode cX3_sealed 25 = .ok (.getfield 28, 3) := by decide +kernel
theorem dX3_sealed_28 : decode cX3_sealed 28 = .ok (.iload_n 2, 1) := by decide +kernel
theorem dX3_sealed_29 : decode cX3_sealed 29 = .ok (.iaload, 1) := by decide +kernel
theorem dX3_sealed_30 : decode cX3_sealed 30 = .ok (.iload_n 1, 1) := by decide +kernel
theorem dX3_sealed_31 : decode cX3_sealed 31 = .ok (.if_icmp .ne 5, 3) := by decide +kernel
theorem dX3_sealed_34 : decode cX3_sealed 34 = .ok (.iload_n 2, 1) := by decide +kernel
theorem dX3_sealed_35 : decode cX3_sealed 35 = .ok (.ireturn, 1) := by decide +kernel
theorem dX3_sealed_36 : decode cX3_sealed 36 = .ok (.iinc 2 1, 3) := by decide +kernel
theorem dX3_sealed_39 : decode cX3_sealed 39 = .ok (.goto (-23), 3) := by decide +kernel
theorem dX3_sealed_42 : decode cX3_sealed 42 = .ok (.ldc 95, 2) := by decide +kernel
theorem dX3_sealed_44 : decode cX3_sealed 44 = .ok (.ireturn, 1) := by decide +kernel
theorem dX3_charge_0 : decode cX3_charge 0 = .ok (.aload_n 0, 1) := by decide +kernel
theorem dX3_charge_1 : decode cX3_charge 1 = .ok (.iload_n 1, 1) := by decide +kernel
theorem dX3_charge_2 : decode cX3_charge 2 = .ok (.invokevirtual 96, 3) := by decide +kernel
theorem dX3_charge_5 : decode cX3_charge 5 = .ok (.ifCond .ne 5, 3) := by decide +kernel
theorem dX3_charge_8 : decode cX3_charge 8 = .ok (.iconst (-1), 1) := by decide +kernel
theorem dX3_charge_9 : decode cX3_charge 9 = .ok (.ireturn, 1) := by decide +kernel
theorem dX3_charge_10 : decode cX3_charge 10 = .ok (.aload_n 0, 1) := by decide +kernel
theorem dX3_charge_11 : decode cX3_charge 11 = .ok (.iload_n 1, 1) := by decide +kernel
theorem dX3_charge_12 : decode cX3_charge 12 = .ok (.invokevirtual 102, 3) := by decide +kernel
theorem dX3_charge_15 : decode cX3_charge 15 = .ok (.ifCond .eq 48, 3) := by decide +kernel
theorem dX3_charge_18 : decode cX3_charge 18 = .ok (.aload_n 0, 1) := by decide +kernel
theorem dX3_charge_19 : decode cX3_charge 19 = .ok (.iload_n 1, 1) := by decide +kernel
theorem dX3_charge_20 : decode cX3_charge 20 = .ok (.aload_n 0, 1) := by decide +kernel
theorem dX3_charge_21 : decode cX3_charge 21 = .ok (.getfield 92, 3) := by decide +kernel
theorem dX3_charge_24 : decode cX3_charge 24 = .ok (.invokevirtual 135, 3) := by decide +kernel
theorem dX3_charge_27 : decode cX3_charge 27 = .ok (.iconst 3, 1) := by decide +kernel
theorem dX3_charge_28 : decode cX3_charge 28 = .ok (.if_icmp .ne 35, 3) := by decide +kernel
theorem dX3_charge_31 : decode cX3_charge 31 = .ok (.aload_n 0, 1) := by decide +kernel
theorem dX3_charge_32 : decode cX3_charge 32 = .ok (.getfield 56, 3) := by decide +kernel
theorem dX3_charge_35 : decode cX3_charge 35 = .ok (.aload_n 0, 1) := by decide +kernel
theorem dX3_charge_36 : decode cX3_charge 36 = .ok (.getfield 25, 3) := by decide +kernel
theorem dX3_charge_39 : decode cX3_charge 39 = .ok (.iload_n 1, 1) := by decide +kernel
theorem dX3_charge_40 : decode cX3_charge 40 = .ok (.iaload, 1) := by decide +kernel
theorem dX3_charge_41 : decode cX3_charge 41 = .ok (.iaload, 1) := by decide +kernel
theorem dX3_charge_42 : decode cX3_charge 42 = .ok (.aload_n 0, 1) := by decide +kernel
theorem dX3_charge_43 : decode cX3_charge 43 = .ok (.getfield 92, 3) := by decide +kernel
theorem dX3_charge_46 : decode cX3_charge 46 = .ok (.if_icmp .ne 17, 3) := by decide +kernel
theorem dX3_charge_49 : decode cX3_charge 49 = .ok (.aload_n 0, 1) := by decide +kernel
theorem dX3_charge_50 : decode cX3_charge 50 = .ok (.getfield 74, 3) := by decide +kernel
theorem dX3_charge_53 : decode cX3_charge 53 = .ok (.aload_n 0, 1) := by decide +kernel
theorem dX3_charge_54 : decode cX3_charge 54 = .ok (.getfield 25, 3) := by decide +kernel
theorem dX3_charge_57 : decode cX3_charge 57 = .ok (.iload_n 1, 1) := by decide +kernel
theorem dX3_charge_58 : decode cX3_charge 58 = .ok (.iaload, 1) := by decide +kernel
theorem dX3_charge_59 : decode cX3_charge 59 = .ok (.baload, 1) := by decide +kernel
theorem dX3_charge_60 : decode cX3_charge 60 = .ok (.ifCond .eq 6, 3) := by decide +kernel
theorem dX3_charge_63 : decode cX3_charge 63 = .ok (.bipush (-3), 2) := by decide +kernel
theorem dX3_charge_65 : decode cX3_charge 65 = .ok (.ireturn, 1) := by decide +kernel
theorem dX3_charge_66 : decode cX3_charge 66 = .ok (.aload_n 0, 1) := by decide +kernel
theorem dX3_charge_67 : decode cX3_charge 67 = .ok (.getfield 74, 3) := by decide +kernel
theorem dX3_charge_70 : decode cX3_charge 70 = .ok (.aload_n 0, 1) := by decide +kernel
theorem dX3_charge_71 : decode cX3_charge 71 = .ok (.getfield 25, 3) := by decide +kernel
theorem dX3_charge_74 : decode cX3_charge 74 = .ok (.iload_n 1, 1) := by decide +kernel
theorem dX3_charge_75 : decode cX3_charge 75 = .ok (.iaload, 1) := by decide +kernel
theorem dX3_charge_76 : decode cX3_charge 76 = .ok (.iconst 1, 1) := by decide +kernel
theorem dX3_charge_77 : decode cX3_charge 77 = .ok (.bastore, 1) := by decide +kernel
theorem dX3_charge_78 : decode cX3_charge 78 = .ok (.aload_n 0, 1) := by decide +kernel
theorem dX3_charge_79 : decode cX3_charge 79 = .ok (.getfield 19, 3) := by decide +kernel
theorem dX3_charge_82 : decode cX3_charge 82 = .ok (.iload_n 1, 1) := by decide +kernel
theorem dX3_charge_83 : decode cX3_charge 83 = .ok (.iaload, 1) := by decide +kernel
theorem dX3_charge_84 : decode cX3_charge 84 = .ok (.istore_n 2, 1) := by decide +kernel
theorem dX3_charge_85 : decode cX3_charge 85 = .ok (.aload_n 0, 1) := by decide +kernel
theorem dX3_charge_86 : decode cX3_charge 86 = .ok (.getfield 31, 3) := by decide +kernel
theorem dX3_charge_89 : decode cX3_charge 89 = .ok (.iload_n 1, 1) := by decide +kernel
theorem dX3_charge_90 : decode cX3_charge 90 = .ok (.dup2, 1) := by decide +kernel
theorem dX3_charge_91 : decode cX3_charge 91 = .ok (.iaload, 1) := by decide +kernel
theorem dX3_charge_92 : decode cX3_charge 92 = .ok (.iconst 1, 1) := by decide +kernel
theorem dX3_charge_93 : decode cX3_charge 93 = .ok (.iadd, 1) := by decide +kernel
theorem dX3_charge_94 : decode cX3_charge 94 = .ok (.iastore, 1) := by decide +kernel
theorem dX3_charge_95 : decode cX3_charge 95 = .ok (.aload_n 0, 1) := by decide +kernel
theorem dX3_charge_96 : decode cX3_charge 96 = .ok (.dup, 1) := by decide +kernel
theorem dX3_charge_97 : decode cX3_charge 97 = .ok (.getfield 138, 3) := by decide +kernel
theorem dX3_charge_100 : decode cX3_charge 100 = .ok (.iconst 1, 1) := by decide +kernel
theorem dX3_charge_101 : decode cX3_charge 101 = .ok (.iadd, 1) := by decide +kernel
theorem dX3_charge_102 : decode cX3_charge 102 = .ok (.putfield 138, 3) := by decide +kernel
theorem dX3_charge_105 : decode cX3_charge 105 = .ok (.aload_n 0, 1) := by decide +kernel
theorem dX3_charge_106 : decode cX3_charge 106 = .ok (.getfield 77, 3) := by decide +kernel
theorem dX3_charge_109 : decode cX3_charge 109 = .ok (.iload_n 2, 1) := by decide +kernel
theorem dX3_charge_110 : decode cX3_charge 110 = .ok (.dup2, 1) := by decide +kernel
theorem dX3_charge_111 : decode cX3_charge 111 = .ok (.iaload, 1) := by decide +kernel
theorem dX3_charge_112 : decode cX3_charge 112 = .ok (.iconst 1, 1) := by decide +kernel
theorem dX3_charge_113 : decode cX3_charge 113 = .ok (.iadd, 1) := by decide +kernel
theorem dX3_charge_114 : decode cX3_charge 114 = .ok (.iastore, 1) := by decide +kernel
theorem dX3_charge_115 : decode cX3_charge 115 = .ok (.aload_n 0, 1) := by decide +kernel
theorem dX3_charge_116 : decode cX3_charge 116 = .ok (.iload_n 1, 1) := by decide +kernel
theorem dX3_charge_117 : decode cX3_charge 117 = .ok (.invokevirtual 114, 3) := by decide +kernel
theorem dX3_charge_120 : decode cX3_charge 120 = .ok (.ifCond .ge 12, 3) := by decide +kernel
theorem dX3_charge_123 : decode cX3_charge 123 = .ok (.aload_n 0, 1) := by decide +kernel
theorem dX3_charge_124 : decode cX3_charge 124 = .ok (.iload_n 1, 1) := by decide +kernel
theorem dX3_charge_125 : decode cX3_charge 125 = .ok (.invokevirtual 114, 3) := by decide +kernel
theorem dX3_charge_128 : decode cX3_charge 128 = .ok (.ineg, 1) := by decide +kernel
theorem dX3_charge_129 : decode cX3_charge 129 = .ok (.goto 8, 3) := by decide +kernel
theorem dX3_charge_132 : decode cX3_charge 132 = .ok (.aload_n 0, 1) := by decide +kernel
theorem dX3_charge_133 : decode cX3_charge 133 = .ok (.iload_n 1, 1) := by decide +kernel
theorem dX3_charge_134 : decode cX3_charge 134 = .ok (.invokevirtual 114, 3) := by decide +kernel
theorem dX3_charge_137 : decode cX3_charge 137 = .ok (.istore_n 3, 1) := by decide +kernel
theorem dX3_charge_138 : decode cX3_charge 138 = .ok (.iload_n 3, 1) := by decide +kernel
theorem dX3_charge_139 : decode cX3_charge 139 = .ok (.aload_n 0, 1) := by decide +kernel
theorem dX3_charge_140 : decode cX3_charge 140 = .ok (.iload_n 1, 1) := by decide +kernel
theorem dX3_charge_141 : decode cX3_charge 141 = .ok (.aload_n 0, 1) := by decide +kernel
theorem dX3_charge_142 : decode cX3_charge 142 = .ok (.getfield 92, 3) := by decide +kernel
theorem dX3_charge_145 : decode cX3_charge 145 = .ok (.invokevirtual 121, 3) := by decide +kernel
theorem dX3_charge_148 : decode cX3_charge 148 = .ok (.isub, 1) := by decide +kernel
theorem dX3_charge_149 : decode cX3_charge 149 = .ok (.aload_n 0, 1) := by decide +kernel
theorem dX3_charge_150 : decode cX3_charge 150 = .ok (.iload_n 1, 1) := by decide +kernel
theorem dX3_charge_151 : decode cX3_charge 151 = .ok (.invokevirtual 132, 3) := by decide +kernel
theorem dX3_charge_154 : decode cX3_charge 154 = .ok (.isub, 1) := by decide +kernel
theorem dX3_charge_155 : decode cX3_charge 155 = .ok (.istore 4, 2) := by decide +kernel
theorem dX3_charge_157 : decode cX3_charge 157 = .ok (.bipush 10, 2) := by decide +kernel
theorem dX3_charge_159 : decode cX3_charge 159 = .ok (.iload 4, 2) := by decide +kernel
theorem dX3_charge_161 : decode cX3_charge 161 = .ok (.imul, 1) := by decide +kernel
theorem dX3_charge_162 : decode cX3_charge 162 = .ok (.aload_n 0, 1) := by decide +kernel
theorem dX3_charge_163 : decode cX3_charge 163 = .ok (.getfield 77, 3) := by decide +kernel
theorem dX3_charge_166 : decode cX3_charge 166 = .ok (.iload_n 2, 1) := by decide +kernel
theorem dX3_charge_167 : decode cX3_charge 167 = .ok (.iaload, 1) := by decide +kernel
theorem dX3_charge_168 : decode cX3_charge 168 = .ok (.iconst 5, 1) := by decide +kernel
theorem dX3_charge_169 : decode cX3_charge 169 = .ok (.if_icmp .ge 12, 3) := by decide +kernel
theorem dX3_charge_172 : decode cX3_charge 172 = .ok (.aload_n 0, 1) := by decide +kernel
theorem dX3_charge_173 : decode cX3_charge 173 = .ok (.getfield 77, 3) := by decide +kernel
theorem dX3_charge_176 : decode cX3_charge 176 = .ok (.iload_n 2, 1) := by decide +kernel
theorem dX3_charge_177 : decode cX3_charge 177 = .ok (.iaload, 1) := by decide +kernel
theorem dX3_charge_178 : decode cX3_charge 178 = .ok (.goto 4, 3) := by decide +kernel
theorem dX3_charge_181 : decode cX3_charge 181 = .ok (.iconst 5, 1) := by decide +kernel
theorem dX3_charge_182 : decode cX3_charge 182 = .ok (.imul, 1) := by decide +kernel
theorem dX3_charge_183 : decode cX3_charge 183 = .ok (.istore 5, 2) := by decide +kernel
theorem dX3_charge_185 : decode cX3_charge 185 = .ok (.aload_n 0, 1) := by decide +kernel
theorem dX3_charge_186 : decode cX3_charge 186 = .ok (.getfield 80, 3) := by decide +kernel
theorem dX3_charge_189 : decode cX3_charge 189 = .ok (.iload_n 2, 1) := by decide +kernel
theorem dX3_charge_190 : decode cX3_charge 190 = .ok (.dup2, 1) := by decide +kernel
theorem dX3_charge_191 : decode cX3_charge 191 = .ok (.laload, 1) := by decide +kernel
theorem dX3_charge_192 : decode cX3_charge 192 = .ok (.iload 5, 2) := by decide +kernel
theorem dX3_charge_194 : decode cX3_charge 194 = .ok (.i2l, 1) := by decide +kernel
theorem dX3_charge_195 : decode cX3_charge 195 = .ok (.ladd, 1) := by decide +kernel
theorem dX3_charge_196 : decode cX3_charge 196 = .ok (.lastore, 1) := by decide +kernel
theorem dX3_charge_197 : decode cX3_charge 197 = .ok (.iload 5, 2) := by decide +kernel
theorem dX3_charge_199 : decode cX3_charge 199 = .ok (.ireturn, 1) := by decide +kernel
theorem dX3_charged_0 : decode cX3_charged 0 = .ok (.iload_n 1, 1) := by decide +kernel
theorem dX3_charged_1 : decode cX3_charged 1 = .ok (.iconst 0, 1) := by decide +kernel
theorem dX3_charged_2 : decode cX3_charged 2 = .ok (.bipush 9, 2) := by decide +kernel
theorem dX3_charged_4 : decode cX3_charged 4 = .ok (.invokestatic 88, 3) := by decide +kernel
theorem dX3_charged_7 : decode cX3_charged 7 = .ok (.ifCond .eq 12, 3) := by decide +kernel
theorem dX3_charged_10 : decode cX3_charged 10 = .ok (.aload_n 0, 1) := by decide +kernel
theorem dX3_charged_11 : decode cX3_charged 11 = .ok (.getfield 80, 3) := by decide +kernel
theorem dX3_charged_14 : decode cX3_charged 14 = .ok (.iload_n 1, 1) := by decide +kernel
theorem dX3_charged_15 : decode cX3_charged 15 = .ok (.laload, 1) := by decide +kernel
theorem dX3_charged_16 : decode cX3_charged 16 = .ok (.goto 6, 3) := by decide +kernel
theorem dX3_charged_19 : decode cX3_charged 19 = .ok (.ldc2_w 141, 3) := by decide +kernel
theorem dX3_charged_22 : decode cX3_charged 22 = .ok (.lreturn, 1) := by decide +kernel
theorem dX3_group_0 : decode cX3_group 0 = .ok (.aload_n 0, 1) := by decide +kernel
theorem dX3_group_1 : decode cX3_group 1 = .ok (.getfield 25, 3) := by decide +kernel
theorem dX3_group_4 : decode cX3_group 4 = .ok (.iload_n 1, 1) := by decide +kernel
theorem dX3_group_5 : decode cX3_group 5 = .ok (.iaload, 1) := by decide +kernel
theorem dX3_group_6 : decode cX3_group 6 = .ok (.ldc 95, 2) := by decide +kernel
theorem dX3_group_8 : decode cX3_group 8 = .ok (.if_icmp .ne 7, 3) := by decide +kernel
theorem dX3_group_11 : decode cX3_group 11 = .ok (.iconst 0, 1) := by decide +kernel
theorem dX3_group_12 : decode cX3_group 12 = .ok (.goto 28, 3) := by decide +kernel
theorem dX3_group_15 : decode cX3_group 15 = .ok (.aload_n 0, 1) := by decide +kernel
theorem dX3_group_16 : decode cX3_group 16 = .ok (.iload_n 1, 1) := by decide +kernel
theorem dX3_group_17 : decode cX3_group 17 = .ok (.invokevirtual 105, 3) := by decide +kernel
theorem dX3_group_20 : decode cX3_group 20 = .ok (.ifCond .ne 7, 3) := by decide +kernel
theorem dX3_group_23 : decode cX3_group 23 = .ok (.iconst 1, 1) := by decide +kernel
theorem dX3_group_24 : decode cX3_group 24 = .ok (.goto 16, 3) := by decide +kernel
theorem dX3_group_27 : decode cX3_group 27 = .ok (.aload_n 0, 1) := by decide +kernel
theorem dX3_group_28 : decode cX3_group 28 = .ok (.iload_n 1, 1) := by decide +kernel
theorem dX3_group_29 : decode cX3_group 29 = .ok (.invokevirtual 108, 3) := by decide +kernel
theorem dX3_group_32 : decode cX3_group 32 = .ok (.ifCond .eq 7, 3) := by decide +kernel
theorem dX3_group_35 : decode cX3_group 35 = .ok (.iconst 2, 1) := by decide +kernel
theorem dX3_group_36 : decode cX3_group 36 = .ok (.goto 4, 3) := by decide +kernel
theorem dX3_group_39 : decode cX3_group 39 = .ok (.iconst 3, 1) := by decide +kernel
theorem dX3_group_40 : decode cX3_group 40 = .ok (.ireturn, 1) := by decide +kernel
theorem dX3_weight_0 : decode cX3_weight 0 = .ok (.aload_n 0, 1) := by decide +kernel
theorem dX3_weight_1 : decode cX3_weight 1 = .ok (.iload_n 1, 1) := by decide +kernel
theorem dX3_weight_2 : decode cX3_weight 2 = .ok (.invokevirtual 114, 3) := by decide +kernel
theorem dX3_weight_5 : decode cX3_weight 5 = .ok (.ifCond .ge 12, 3) := by decide +kernel
theorem dX3_weight_8 : decode cX3_weight 8 = .ok (.aload_n 0, 1) := by decide +kernel
theorem dX3_weight_9 : decode cX3_weight 9 = .ok (.iload_n 1, 1) := by decide +kernel
theorem dX3_weight_10 : decode cX3_weight 10 = .ok (.invokevirtual 114, 3) := by decide +kernel
theorem dX3_weight_13 : decode cX3_weight 13 = .ok (.ineg, 1) := by decide +kernel
theorem dX3_weight_14 : decode cX3_weight 14 = .ok (.goto 8, 3) := by decide +kernel
theorem dX3_weight_17 : decode cX3_weight 17 = .ok (.aload_n 0, 1) := by decide +kernel
theorem dX3_weight_18 : decode cX3_weight 18 = .ok (.iload_n 1, 1) := by decide +kernel
theorem dX3_weight_19 : decode cX3_weight 19 = .ok (.invokevirtual 114, 3) := by decide +kernel
theorem dX3_weight_22 : decode cX3_weight 22 = .ok (.istore_n 2, 1) := by decide +kernel
theorem dX3_weight_23 : decode cX3_weight 23 = .ok (.aload_n 0, 1) := by decide +kernel
theorem dX3_weight_24 : decode cX3_weight 24 = .ok (.getfield 25, 3) := by decide +kernel
theorem dX3_weight_27 : decode cX3_weight 27 = .ok (.iload_n 1, 1) := by decide +kernel
theorem dX3_weight_28 : decode cX3_weight 28 = .ok (.iaload, 1) := by decide +kernel
theorem dX3_weight_29 : decode cX3_weight 29 = .ok (.ldc 95, 2) := by decide +kernel
theorem dX3_weight_31 : decode cX3_weight 31 = .ok (.if_icmp .ne 7, 3) := by decide +kernel
theorem dX3_weight_34 : decode cX3_weight 34 = .ok (.iconst 0, 1) := by decide +kernel
theorem dX3_weight_35 : decode cX3_weight 35 = .ok (.goto 20, 3) := by decide +kernel
theorem dX3_weight_38 : decode cX3_weight 38 = .ok (.iload_n 2, 1) := by decide +kernel
theorem dX3_weight_39 : decode cX3_weight 39 = .ok (.aload_n 0, 1) := by decide +kernel
theorem dX3_weight_40 : decode cX3_weight 40 = .ok (.iload_n 1, 1) := by decide +kernel
theorem dX3_weight_41 : decode cX3_weight 41 = .ok (.aload_n 0, 1) := by decide +kernel
theorem dX3_weight_42 : decode cX3_weight 42 = .ok (.getfield 92, 3) := by decide +kernel
theorem dX3_weight_45 : decode cX3_weight 45 = .ok (.invokevirtual 121, 3) := by decide +kernel
theorem dX3_weight_48 : decode cX3_weight 48 = .ok (.iadd, 1) := by decide +kernel
theorem dX3_weight_49 : decode cX3_weight 49 = .ok (.aload_n 0, 1) := by decide +kernel
theorem dX3_weight_50 : decode cX3_weight 50 = .ok (.iload_n 1, 1) := by decide +kernel
theorem dX3_weight_51 : decode cX3_weight 51 = .ok (.invokevirtual 132, 3) := by decide +kernel
theorem dX3_weight_54 : decode cX3_weight 54 = .ok (.isub, 1) := by decide +kernel
theorem dX3_weight_55 : decode cX3_weight 55 = .ok (.ireturn, 1) := by decide +kernel
theorem dX3_isAhead_0 : decode cX3_isAhead 0 = .ok (.aload_n 0, 1) := by decide +kernel
theorem dX3_isAhead_1 : decode cX3_isAhead 1 = .ok (.iload_n 1, 1) := by decide +kernel
theorem dX3_isAhead_2 : decode cX3_isAhead 2 = .ok (.invokevirtual 143, 3) := by decide +kernel
theorem dX3_isAhead_5 : decode cX3_isAhead 5 = .ok (.aload_n 0, 1) := by decide +kernel
theorem dX3_isAhead_6 : decode cX3_isAhead 6 = .ok (.iload_n 2, 1) := by decide +kernel
theorem dX3_isAhead_7 : decode cX3_isAhead 7 = .ok (.invokevirtual 143, 3) := by decide +kernel
theorem dX3_isAhead_10 : decode cX3_isAhead 10 = .ok (.if_icmp .eq 22, 3) := by decide +kernel
theorem dX3_isAhead_13 : decode cX3_isAhead 13 = .ok (.aload_n 0, 1) := by decide +kernel
theorem dX3_isAhead_14 : decode cX3_isAhead 14 = .ok (.iload_n 1, 1) := by decide +kernel
theorem dX3_isAhead_15 : decode cX3_isAhead 15 = .ok (.invokevirtual 143, 3) := by decide +kernel
theorem dX3_isAhead_18 : decode cX3_isAhead 18 = .ok (.aload_n 0, 1) := by decide +kernel
theorem dX3_isAhead_19 : decode cX3_isAhead 19 = .ok (.iload_n 2, 1) := by decide +kernel
theorem dX3_isAhead_20 : decode cX3_isAhead 20 = .ok (.invokevirtual 143, 3) := by decide +kernel
theorem dX3_isAhead_23 : decode cX3_isAhead 23 = .ok (.if_icmp .ge 7, 3) := by decide +kernel
theorem dX3_isAhead_26 : decode cX3_isAhead 26 = .ok (.iconst 1, 1) := by decide +kernel
theorem dX3_isAhead_27 : decode cX3_isAhead 27 = .ok (.goto 4, 3) := by decide +kernel
theorem dX3_isAhead_30 : decode cX3_isAhead 30 = .ok (.iconst 0, 1) := by decide +kernel
theorem dX3_isAhead_31 : decode cX3_isAhead 31 = .ok (.ireturn, 1) := by decide +kernel
theorem dX3_isAhead_32 : decode cX3_isAhead 32 = .ok (.aload_n 0, 1) := by decide +kernel
theorem dX3_isAhead_33 : decode cX3_isAhead 33 = .ok (.iload_n 1, 1) := by decide +kernel
theorem dX3_isAhead_34 : decode cX3_isAhead 34 = .ok (.invokevirtual 146, 3) := by decide +kernel
theorem dX3_isAhead_37 : decode cX3_isAhead 37 = .ok (.aload_n 0, 1) := by decide +kernel
theorem dX3_isAhead_38 : decode cX3_isAhead 38 = .ok (.iload_n 2, 1) := by decide +kernel
theorem dX3_isAhead_39 : decode cX3_isAhead 39 = .ok (.invokevirtual 146, 3) := by decide +kernel
theorem dX3_isAhead_42 : decode cX3_isAhead 42 = .ok (.if_icmp .eq 24, 3) := by decide +kernel
theorem dX3_isAhead_45 : decode cX3_isAhead 45 = .ok (.aload_n 0, 1) := by decide +kernel
theorem dX3_isAhead_46 : decode cX3_isAhead 46 = .ok (.iload_n 1, 1) := by decide +kernel
theorem dX3_isAhead_47 : decode cX3_isAhead 47 = .ok (.invokevirtual 146, 3) := by decide +kernel
theorem dX3_isAhead_50 : decode cX3_isAhead 50 = .ok (.aload_n 0, 1) := by decide +kernel
theorem dX3_isAhead_51 : decode cX3_isAhead 51 = .ok (.iload_n 2, 1) := by decide +kernel
theorem dX3_isAhead_52 : decode cX3_isAhead 52 = .ok (.invokevirtual 146, 3) := by decide +kernel
theorem dX3_isAhead_55 : decode cX3_isAhead 55 = .ok (.if_icmp .le 7, 3) := by decide +kernel
theorem dX3_isAhead_58 : decode cX3_isAhead 58 = .ok (.iconst 1, 1) := by decide +kernel
theorem dX3_isAhead_59 : decode cX3_isAhead 59 = .ok (.goto 17, 3) := by decide +kernel
theorem dX3_isAhead_62 : decode cX3_isAhead 62 = .ok (.iconst 0, 1) := by decide +kernel
theorem dX3_isAhead_63 : decode cX3_isAhead 63 = .ok (.goto 13, 3) := by decide +kernel
theorem dX3_isAhead_66 : decode cX3_isAhead 66 = .ok (.iload_n 1, 1) := by decide +kernel
theorem dX3_isAhead_67 : decode cX3_isAhead 67 = .ok (.iload_n 2, 1) := by decide +kernel
theorem dX3_isAhead_68 : decode cX3_isAhead 68 = .ok (.if_icmp .ge 7, 3) := by decide +kernel
theorem dX3_isAhead_71 : decode cX3_isAhead 71 = .ok (.iconst 1, 1) := by decide +kernel
theorem dX3_isAhead_72 : decode cX3_isAhead 72 = .ok (.goto 4, 3) := by decide +kernel
theorem dX3_isAhead_75 : decode cX3_isAhead 75 = .ok (.iconst 0, 1) := by decide +kernel
theorem dX3_isAhead_76 : decode cX3_isAhead 76 = .ok (.ireturn, 1) := by decide +kernel
theorem dX3_first_0 : decode cX3_first 0 = .ok (.iconst 0, 1) := by decide +kernel
theorem dX3_first_1 : decode cX3_first 1 = .ok (.istore_n 2, 1) := by decide +kernel
theorem dX3_first_2 : decode cX3_first 2 = .ok (.iload_n 2, 1) := by decide +kernel
theorem dX3_first_3 : decode cX3_first 3 = .ok (.aload_n 0, 1) := by decide +kernel
theorem dX3_first_4 : decode cX3_first 4 = .ok (.getfield 84, 3) := by decide +kernel
theorem dX3_first_7 : decode cX3_first 7 = .ok (.if_icmp .ge 85, 3) := by decide +kernel
theorem dX3_first_10 : decode cX3_first 10 = .ok (.iconst 0, 1) := by decide +kernel
theorem dX3_first_11 : decode cX3_first 11 = .ok (.istore_n 3, 1) := by decide +kernel
theorem dX3_first_12 : decode cX3_first 12 = .ok (.iconst 0, 1) := by decide +kernel
theorem dX3_first_13 : decode cX3_first 13 = .ok (.istore 4, 2) := by decide +kernel
theorem dX3_first_15 : decode cX3_first 15 = .ok (.iload 4, 2) := by decide +kernel
theorem dX3_first_17 : decode cX3_first 17 = .ok (.aload_n 0, 1) := by decide +kernel
theorem dX3_first_18 : decode cX3_first 18 = .ok (.getfield 84, 3) := by decide +kernel
theorem dX3_first_21 : decode cX3_first 21 = .ok (.if_icmp .ge 50, 3) := by decide +kernel
theorem dX3_first_24 : decode cX3_first 24 = .ok (.iload_n 3, 1) := by decide +kernel
theorem dX3_first_25 : decode cX3_first 25 = .ok (.aload_n 0, 1) := by decide +kernel
theorem dX3_first_26 : decode cX3_first 26 = .ok (.iload 4, 2) := by decide +kernel
theorem dX3_first_28 : decode cX3_first 28 = .ok (.invokevirtual 102, 3) := by decide +kernel
theorem dX3_first_31 : decode cX3_first 31 = .ok (.ifCond .eq 31, 3) := by decide +kernel
theorem dX3_first_34 : decode cX3_first 34 = .ok (.aload_n 0, 1) := by decide +kernel
theorem dX3_first_35 : decode cX3_first 35 = .ok (.iload_n 2, 1) := by decide +kernel
theorem dX3_first_36 : decode cX3_first 36 = .ok (.invokevirtual 102, 3) := by decide +kernel
theorem dX3_first_39 : decode cX3_first 39 = .ok (.ifCond .eq 23, 3) := by decide +kernel
theorem dX3_first_42 : decode cX3_first 42 = .ok (.iload 4, 2) := by decide +kernel
theorem dX3_first_44 : decode cX3_first 44 = .ok (.iload_n 2, 1) := by decide +kernel
theorem dX3_first_45 : decode cX3_first 45 = .ok (.if_icmp .eq 17, 3) := by decide +kernel
theorem dX3_first_48 : decode cX3_first 48 = .ok (.aload_n 0, 1) := by decide +kernel
theorem dX3_first_49 : decode cX3_first 49 = .ok (.iload 4, 2) := by decide +kernel
theorem dX3_first_51 : decode cX3_first 51 = .ok (.iload_n 2, 1) := by decide +kernel
theorem dX3_first_52 : decode cX3_first 52 = .ok (.invokevirtual 149, 3) := by decide +kernel
theorem dX3_first_55 : decode cX3_first 55 = .ok (.ifCond .eq 7, 3) := by decide +kernel
theorem dX3_first_58 : decode cX3_first 58 = .ok (.iconst 1, 1) := by decide +kernel
theorem dX3_first_59 : decode cX3_first 59 = .ok (.goto 4, 3) := by decide +kernel
theorem dX3_first_62 : decode cX3_first 62 = .ok (.iconst 0, 1) := by decide +kernel
theorem dX3_first_63 : decode cX3_first 63 = .ok (.iadd, 1) := by decide +kernel
theorem dX3_first_64 : decode cX3_first 64 = .ok (.istore_n 3, 1) := by decide +kernel
theorem dX3_first_65 : decode cX3_first 65 = .ok (.iinc 4 1, 3) := by decide +kernel
theorem dX3_first_68 : decode cX3_first 68 = .ok (.goto (-53), 3) := by decide +kernel
theorem dX3_first_71 : decode cX3_first 71 = .ok (.aload_n 0, 1) := by decide +kernel
theorem dX3_first_72 : decode cX3_first 72 = .ok (.iload_n 2, 1) := by decide +kernel
theorem dX3_first_73 : decode cX3_first 73 = .ok (.invokevirtual 102, 3) := by decide +kernel
theorem dX3_first_76 : decode cX3_first 76 = .ok (.ifCond .eq 10, 3) := by decide +kernel
theorem dX3_first_79 : decode cX3_first 79 = .ok (.iload_n 3, 1) := by decide +kernel
theorem dX3_first_80 : decode cX3_first 80 = .ok (.iload_n 1, 1) := by decide +kernel
theorem dX3_first_81 : decode cX3_first 81 = .ok (.if_icmp .ne 5, 3) := by decide +kernel
theorem dX3_first_84 : decode cX3_first 84 = .ok (.iload_n 2, 1) := by decide +kernel
theorem dX3_first_85 : decode cX3_first 85 = .ok (.ireturn, 1) := by decide +kernel
theorem dX3_first_86 : decode cX3_first 86 = .ok (.iinc 2 1, 3) := by decide +kernel
theorem dX3_first_89 : decode cX3_first 89 = .ok (.goto (-87), 3) := by decide +kernel
theorem dX3_first_92 : decode cX3_first 92 = .ok (.ldc 95, 2) := by decide +kernel
theorem dX3_first_94 : decode cX3_first 94 = .ok (.ireturn, 1) := by decide +kernel
theorem dX3_count_0 : decode cX3_count 0 = .ok (.iload_n 1, 1) := by decide +kernel
theorem dX3_count_1 : decode cX3_count 1 = .ok (.iconst 0, 1) := by decide +kernel
theorem dX3_count_2 : decode cX3_count 2 = .ok (.bipush 7, 2) := by decide +kernel
theorem dX3_count_4 : decode cX3_count 4 = .ok (.invokestatic 88, 3) := by decide +kernel
theorem dX3_count_7 : decode cX3_count 7 = .ok (.ifCond .ne 6, 3) := by decide +kernel
theorem dX3_count_10 : decode cX3_count 10 = .ok (.bipush (-2), 2) := by decide +kernel
theorem dX3_count_12 : decode cX3_count 12 = .ok (.ireturn, 1) := by decide +kernel
theorem dX3_count_13 : decode cX3_count 13 = .ok (.iconst 0, 1) := by decide +kernel
theorem dX3_count_14 : decode cX3_count 14 = .ok (.istore_n 2, 1) := by decide +kernel
theorem dX3_count_15 : decode cX3_count 15 = .ok (.iconst 0, 1) := by decide +kernel
theorem dX3_count_16 : decode cX3_count 16 = .ok (.istore_n 3, 1) := by decide +kernel
theorem dX3_count_17 : decode cX3_count 17 = .ok (.iload_n 3, 1) := by decide +kernel
theorem dX3_count_18 : decode cX3_count 18 = .ok (.aload_n 0, 1) := by decide +kernel
theorem dX3_count_19 : decode cX3_count 19 = .ok (.getfield 84, 3) := by decide +kernel
theorem dX3_count_22 : decode cX3_count 22 = .ok (.if_icmp .ge 70, 3) := by decide +kernel
theorem dX3_count_25 : decode cX3_count 25 = .ok (.iload_n 1, 1) := by decide +kernel
theorem dX3_count_26 : decode cX3_count 26 = .ok (.iconst 3, 1) := by decide +kernel
theorem dX3_count_27 : decode cX3_count 27 = .ok (.if_icmp .ne 11, 3) := by decide +kernel
theorem dX3_count_30 : decode cX3_count 30 = .ok (.aload_n 0, 1) := by decide +kernel
theorem dX3_count_31 : decode cX3_count 31 = .ok (.iload_n 3, 1) := by decide +kernel
theorem dX3_count_32 : decode cX3_count 32 = .ok (.invokevirtual 108, 3) := by decide +kernel
theorem dX3_count_35 : decode cX3_count 35 = .ok (.goto 36, 3) := by decide +kernel
theorem dX3_count_38 : decode cX3_count 38 = .ok (.iload_n 1, 1) := by decide +kernel
theorem dX3_count_39 : decode cX3_count 39 = .ok (.iconst 3, 1) := by decide +kernel
theorem dX3_count_40 : decode cX3_count 40 = .ok (.if_icmp .le 30, 3) := by decide +kernel
theorem dX3_count_43 : decode cX3_count 43 = .ok (.aload_n 0, 1) := by decide +kernel
theorem dX3_count_44 : decode cX3_count 44 = .ok (.iload_n 3, 1) := by decide +kernel
theorem dX3_count_45 : decode cX3_count 45 = .ok (.invokevirtual 102, 3) := by decide +kernel
theorem dX3_count_48 : decode cX3_count 48 = .ok (.ifCond .eq 22, 3) := by decide +kernel
theorem dX3_count_51 : decode cX3_count 51 = .ok (.aload_n 0, 1) := by decide +kernel
theorem dX3_count_52 : decode cX3_count 52 = .ok (.iload_n 3, 1) := by decide +kernel
theorem dX3_count_53 : decode cX3_count 53 = .ok (.aload_n 0, 1) := by decide +kernel
theorem dX3_count_54 : decode cX3_count 54 = .ok (.getfield 92, 3) := by decide +kernel
theorem dX3_count_57 : decode cX3_count 57 = .ok (.invokevirtual 135, 3) := by decide +kernel
theorem dX3_count_60 : decode cX3_count 60 = .ok (.iload_n 1, 1) := by decide +kernel
theorem dX3_count_61 : decode cX3_count 61 = .ok (.iconst 3, 1) := by decide +kernel
theorem dX3_count_62 : decode cX3_count 62 = .ok (.isub, 1) := by decide +kernel
theorem dX3_count_63 : decode cX3_count 63 = .ok (.if_icmp .ne 7, 3) := by decide +kernel
theorem dX3_count_66 : decode cX3_count 66 = .ok (.iconst 1, 1) := by decide +kernel
theorem dX3_count_67 : decode cX3_count 67 = .ok (.goto 4, 3) := by decide +kernel
theorem dX3_count_70 : decode cX3_count 70 = .ok (.iconst 0, 1) := by decide +kernel
theorem dX3_count_71 : decode cX3_count 71 = .ok (.istore 4, 2) := by decide +kernel
theorem dX3_count_73 : decode cX3_count 73 = .ok (.iload_n 2, 1) := by decide +kernel
theorem dX3_count_74 : decode cX3_count 74 = .ok (.iload 4, 2) := by decide +kernel
theorem dX3_count_76 : decode cX3_count 76 = .ok (.ifCond .eq 7, 3) := by decide +kernel
theorem dX3_count_79 : decode cX3_count 79 = .ok (.iconst 1, 1) := by decide +kernel
theorem dX3_count_80 : decode cX3_count 80 = .ok (.goto 4, 3) := by decide +kernel
theorem dX3_count_83 : decode cX3_count 83 = .ok (.iconst 0, 1) := by decide +kernel
theorem dX3_count_84 : decode cX3_count 84 = .ok (.iadd, 1) := by decide +kernel
theorem dX3_count_85 : decode cX3_count 85 = .ok (.istore_n 2, 1) := by decide +kernel
theorem dX3_count_86 : decode cX3_count 86 = .ok (.iinc 3 1, 3) := by decide +kernel
theorem dX3_count_89 : decode cX3_count 89 = .ok (.goto (-72), 3) := by decide +kernel
theorem dX3_count_92 : decode cX3_count 92 = .ok (.iload_n 1, 1) := by decide +kernel
theorem dX3_count_93 : decode cX3_count 93 = .ok (.ifCond .ne 10, 3) := by decide +kernel
theorem dX3_count_96 : decode cX3_count 96 = .ok (.aload_n 0, 1) := by decide +kernel
theorem dX3_count_97 : decode cX3_count 97 = .ok (.getfield 92, 3) := by decide +kernel
theorem dX3_count_100 : decode cX3_count 100 = .ok (.goto 41, 3) := by decide +kernel
theorem dX3_count_103 : decode cX3_count 103 = .ok (.iload_n 1, 1) := by decide +kernel
theorem dX3_count_104 : decode cX3_count 104 = .ok (.iconst 1, 1) := by decide +kernel
theorem dX3_count_105 : decode cX3_count 105 = .ok (.if_icmp .ne 10, 3) := by decide +kernel
theorem dX3_count_108 : decode cX3_count 108 = .ok (.aload_n 0, 1) := by decide +kernel
theorem dX3_count_109 : decode cX3_count 109 = .ok (.getfield 84, 3) := by decide +kernel
theorem dX3_count_112 : decode cX3_count 112 = .ok (.goto 29, 3) := by decide +kernel
theorem dX3_count_115 : decode cX3_count 115 = .ok (.iload_n 1, 1) := by decide +kernel
theorem dX3_count_116 : decode cX3_count 116 = .ok (.iconst 2, 1) := by decide +kernel
theorem dX3_count_117 : decode cX3_count 117 = .ok (.if_icmp .ne 10, 3) := by decide +kernel
theorem dX3_count_120 : decode cX3_count 120 = .ok (.aload_n 0, 1) := by decide +kernel
theorem dX3_count_121 : decode cX3_count 121 = .ok (.getfield 111, 3) := by decide +kernel
theorem dX3_count_124 : decode cX3_count 124 = .ok (.goto 17, 3) := by decide +kernel
theorem dX3_count_127 : decode cX3_count 127 = .ok (.iload_n 1, 1) := by decide +kernel
theorem dX3_count_128 : decode cX3_count 128 = .ok (.bipush 7, 2) := by decide +kernel
theorem dX3_count_130 : decode cX3_count 130 = .ok (.if_icmp .ne 10, 3) := by decide +kernel
theorem dX3_count_133 : decode cX3_count 133 = .ok (.aload_n 0, 1) := by decide +kernel
theorem dX3_count_134 : decode cX3_count 134 = .ok (.getfield 138, 3) := by decide +kernel
theorem dX3_count_137 : decode cX3_count 137 = .ok (.goto 4, 3) := by decide +kernel
theorem dX3_count_140 : decode cX3_count 140 = .ok (.iload_n 2, 1) := by decide +kernel
theorem dX3_count_141 : decode cX3_count 141 = .ok (.ireturn, 1) := by decide +kernel
