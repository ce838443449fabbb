theorem dX2_stays_56 : decode cX2_stays 56 = .ok (.iload 4, 2) := by decide +kernel
theorem dX2_stays_58 : decode cX2_stays 58 = .ok (.iload 5, 2) := by decide +kernel
theorem dX2_stays_60 : decode cX2_stays 60 = .ok (.isub, 1) := by decide +kernel
theorem dX2_stays_61 : decode cX2_stays 61 = .ok (.iconst 1, 1) := by decide +kernel
theorem dX2_stays_62 : decode cX2_stays 62 = .ok (.isub, 1) := by decide +kernel
theorem dX2_stays_63 : decode cX2_stays 63 = .ok (.aload_n 0, 1) := by decide +kernel
theorem dX2_stays_64 : decode cX2_stays 64 = .ok (.getfield 48, 3) := by decide +kernel
theorem dX2_stays_67 : decode cX2_stays 67 = .ok (.invokevirtual 192, 3) := by decide +kernel
theorem dX2_stays_70 : decode cX2_stays 70 = .ok (.ireturn, 1) := by decide +kernel
theorem dX2_stays_71 : decode cX2_stays 71 = .ok (.iload_n 3, 1) := by decide +kernel
theorem dX2_stays_72 : decode cX2_stays 72 = .ok (.iconst 2, 1) := by decide +kernel
theorem dX2_stays_73 : decode cX2_stays 73 = .ok (.if_icmp .ne 9, 3) := by decide +kernel
theorem dX2_stays_76 : decode cX2_stays 76 = .ok (.sipush 20000, 3) := by decide +kernel
theorem dX2_stays_79 : decode cX2_stays 79 = .ok (.goto 5, 3) := by decide +kernel
theorem dX2_stays_82 : decode cX2_stays 82 = .ok (.ldc 108, 2) := by decide +kernel
theorem dX2_stays_84 : decode cX2_stays 84 = .ok (.ireturn, 1) := by decide +kernel
theorem dX2_seal_0 : decode cX2_seal 0 = .ok (.aload_n 0, 1) := by decide +kernel
theorem dX2_seal_1 : decode cX2_seal 1 = .ok (.iload_n 1, 1) := by decide +kernel
theorem dX2_seal_2 : decode cX2_seal 2 = .ok (.invokevirtual 62, 3) := by decide +kernel
theorem dX2_seal_5 : decode cX2_seal 5 = .ok (.astore_n 3, 1) := by decide +kernel
theorem dX2_seal_6 : decode cX2_seal 6 = .ok (.aload_n 3, 1) := by decide +kernel
theorem dX2_seal_7 : decode cX2_seal 7 = .ok (.ifnonnull 5, 3) := by decide +kernel
theorem dX2_seal_10 : decode cX2_seal 10 = .ok (.iconst (-1), 1) := by decide +kernel
theorem dX2_seal_11 : decode cX2_seal 11 = .ok (.ireturn, 1) := by decide +kernel
theorem dX2_seal_12 : decode cX2_seal 12 = .ok (.iload_n 2, 1) := by decide +kernel
theorem dX2_seal_13 : decode cX2_seal 13 = .ok (.invokestatic 196, 3) := by decide +kernel
theorem dX2_seal_16 : decode cX2_seal 16 = .ok (.ifCond .ne 6, 3) := by decide +kernel
theorem dX2_seal_19 : decode cX2_seal 19 = .ok (.bipush (-2), 2) := by decide +kernel
theorem dX2_seal_21 : decode cX2_seal 21 = .ok (.ireturn, 1) := by decide +kernel
theorem dX2_seal_22 : decode cX2_seal 22 = .ok (.aload_n 3, 1) := by decide +kernel
theorem dX2_seal_23 : decode cX2_seal 23 = .ok (.invokevirtual 105, 3) := by decide +kernel
theorem dX2_seal_26 : decode cX2_seal 26 = .ok (.ifCond .eq 20, 3) := by decide +kernel
theorem dX2_seal_29 : decode cX2_seal 29 = .ok (.aload_n 0, 1) := by decide +kernel
theorem dX2_seal_30 : decode cX2_seal 30 = .ok (.aload_n 3, 1) := by decide +kernel
theorem dX2_seal_31 : decode cX2_seal 31 = .ok (.invokevirtual 182, 3) := by decide +kernel
theorem dX2_seal_34 : decode cX2_seal 34 = .ok (.iconst 1, 1) := by decide +kernel
theorem dX2_seal_35 : decode cX2_seal 35 = .ok (.if_icmp .ne 11, 3) := by decide +kernel
theorem dX2_seal_38 : decode cX2_seal 38 = .ok (.aload_n 0, 1) := by decide +kernel
theorem dX2_seal_39 : decode cX2_seal 39 = .ok (.iload_n 2, 1) := by decide +kernel
theorem dX2_seal_40 : decode cX2_seal 40 = .ok (.invokevirtual 199, 3) := by decide +kernel
theorem dX2_seal_43 : decode cX2_seal 43 = .ok (.ifCond .eq 6, 3) := by decide +kernel
theorem dX2_seal_46 : decode cX2_seal 46 = .ok (.bipush (-3), 2) := by decide +kernel
theorem dX2_seal_48 : decode cX2_seal 48 = .ok (.ireturn, 1) := by decide +kernel
theorem dX2_seal_49 : decode cX2_seal 49 = .ok (.aload_n 0, 1) := by decide +kernel
theorem dX2_seal_50 : decode cX2_seal 50 = .ok (.iload_n 2, 1) := by decide +kernel
theorem dX2_seal_51 : decode cX2_seal 51 = .ok (.invokevirtual 202, 3) := by decide +kernel
theorem dX2_seal_54 : decode cX2_seal 54 = .ok (.aload_n 3, 1) := by decide +kernel
theorem dX2_seal_55 : decode cX2_seal 55 = .ok (.iload_n 2, 1) := by decide +kernel
theorem dX2_seal_56 : decode cX2_seal 56 = .ok (.putfield 89, 3) := by decide +kernel
theorem dX2_seal_59 : decode cX2_seal 59 = .ok (.iconst 1, 1) := by decide +kernel
theorem dX2_seal_60 : decode cX2_seal 60 = .ok (.ireturn, 1) := by decide +kernel
theorem dX2_sealed_0 : decode cX2_sealed 0 = .ok (.iload_n 1, 1) := by decide +kernel
theorem dX2_sealed_1 : decode cX2_sealed 1 = .ok (.invokestatic 196, 3) := by decide +kernel
theorem dX2_sealed_4 : decode cX2_sealed 4 = .ok (.ifCond .ne 6, 3) := by decide +kernel
theorem dX2_sealed_7 : decode cX2_sealed 7 = .ok (.bipush (-2), 2) := by decide +kernel
theorem dX2_sealed_9 : decode cX2_sealed 9 = .ok (.ireturn, 1) := by decide +kernel
theorem dX2_sealed_10 : decode cX2_sealed 10 = .ok (.iconst 0, 1) := by decide +kernel
theorem dX2_sealed_11 : decode cX2_sealed 11 = .ok (.istore_n 2, 1) := by decide +kernel
theorem dX2_sealed_12 : decode cX2_sealed 12 = .ok (.iload_n 2, 1) := by decide +kernel
theorem dX2_sealed_13 : decode cX2_sealed 13 = .ok (.aload_n 0, 1) := by decide +kernel
theorem dX2_sealed_14 : decode cX2_sealed 14 = .ok (.getfield 56, 3) := by decide +kernel
theorem dX2_sealed_17 : decode cX2_sealed 17 = .ok (.if_icmp .ge 29, 3) := by decide +kernel
theorem dX2_sealed_20 : decode cX2_sealed 20 = .ok (.aload_n 0, 1) := by decide +kernel
theorem dX2_sealed_21 : decode cX2_sealed 21 = .ok (.iload_n 2, 1) := by decide +kernel
theorem dX2_sealed_22 : decode cX2_sealed 22 = .ok (.invokevirtual 62, 3) := by decide +kernel
theorem dX2_sealed_25 : decode cX2_sealed 25 = .ok (.astore_n 3, 1) := by decide +kernel
theorem dX2_sealed_26 : decode cX2_sealed 26 = .ok (.aload_n 3, 1) := by decide +kernel
theorem dX2_sealed_27 : decode cX2_sealed 27 = .ok (.ifnull 13, 3) := by decide +kernel
theorem dX2_sealed_30 : decode cX2_sealed 30 = .ok (.aload_n 3, 1) := by decide +kernel
theorem dX2_sealed_31 : decode cX2_sealed 31 = .ok (.getfield 89, 3) := by decide +kernel
theorem dX2_sealed_34 : decode cX2_sealed 34 = .ok (.iload_n 1, 1) := by decide +kernel
theorem dX2_sealed_35 : decode cX2_sealed 35 = .ok (.if_icmp .ne 5, 3) := by decide +kernel
theorem dX2_sealed_38 : decode cX2_sealed 38 = .ok (.iload_n 2, 1) := by decide +kernel
theorem dX2_sealed_39 : decode cX2_sealed 39 = .ok (.ireturn, 1) := by decide +kernel
theorem dX2_sealed_40 : decode cX2_sealed 40 = .ok (.iinc 2 1, 3) := by decide +kernel
theorem dX2_sealed_43 : decode cX2_sealed 43 = .ok (.goto (-31), 3) := by decide +kernel
theorem dX2_sealed_46 : decode cX2_sealed 46 = .ok (.ldc 108, 2) := by decide +kernel
theorem dX2_sealed_48 : decode cX2_sealed 48 = .ok (.ireturn, 1) := by decide +kernel
theorem dX2_charge_0 : decode cX2_charge 0 = .ok (.aload_n 0, 1) := by decide +kernel
theorem dX2_charge_1 : decode cX2_charge 1 = .ok (.iload_n 1, 1) := by decide +kernel
theorem dX2_charge_2 : decode cX2_charge 2 = .ok (.invokevirtual 62, 3) := by decide +kernel
theorem dX2_charge_5 : decode cX2_charge 5 = .ok (.astore_n 2, 1) := by decide +kernel
theorem dX2_charge_6 : decode cX2_charge 6 = .ok (.aload_n 2, 1) := by decide +kernel
theorem dX2_charge_7 : decode cX2_charge 7 = .ok (.ifnonnull 5, 3) := by decide +kernel
theorem dX2_charge_10 : decode cX2_charge 10 = .ok (.iconst (-1), 1) := by decide +kernel
theorem dX2_charge_11 : decode cX2_charge 11 = .ok (.ireturn, 1) := by decide +kernel
theorem dX2_charge_12 : decode cX2_charge 12 = .ok (.aload_n 2, 1) := by decide +kernel
theorem dX2_charge_13 : decode cX2_charge 13 = .ok (.getfield 81, 3) := by decide +kernel
theorem dX2_charge_16 : decode cX2_charge 16 = .ok (.astore_n 3, 1) := by decide +kernel
theorem dX2_charge_17 : decode cX2_charge 17 = .ok (.aload_n 2, 1) := by decide +kernel
theorem dX2_charge_18 : decode cX2_charge 18 = .ok (.invokevirtual 105, 3) := by decide +kernel
theorem dX2_charge_21 : decode cX2_charge 21 = .ok (.ifCond .eq 16, 3) := by decide +kernel
theorem dX2_charge_24 : decode cX2_charge 24 = .ok (.aload_n 0, 1) := by decide +kernel
theorem dX2_charge_25 : decode cX2_charge 25 = .ok (.aload_n 2, 1) := by decide +kernel
theorem dX2_charge_26 : decode cX2_charge 26 = .ok (.invokevirtual 182, 3) := by decide +kernel
theorem dX2_charge_29 : decode cX2_charge 29 = .ok (.iconst 3, 1) := by decide +kernel
theorem dX2_charge_30 : decode cX2_charge 30 = .ok (.if_icmp .ne 7, 3) := by decide +kernel
theorem dX2_charge_33 : decode cX2_charge 33 = .ok (.aload_n 3, 1) := by decide +kernel
theorem dX2_charge_34 : decode cX2_charge 34 = .ok (.ifnonnull 6, 3) := by decide +kernel
theorem dX2_charge_37 : decode cX2_charge 37 = .ok (.bipush (-3), 2) := by decide +kernel
theorem dX2_charge_39 : decode cX2_charge 39 = .ok (.ireturn, 1) := by decide +kernel
theorem dX2_charge_40 : decode cX2_charge 40 = .ok (.aload_n 3, 1) := by decide +kernel
theorem dX2_charge_41 : decode cX2_charge 41 = .ok (.getfield 151, 3) := by decide +kernel
theorem dX2_charge_44 : decode cX2_charge 44 = .ok (.aload_n 0, 1) := by decide +kernel
theorem dX2_charge_45 : decode cX2_charge 45 = .ok (.getfield 48, 3) := by decide +kernel
theorem dX2_charge_48 : decode cX2_charge 48 = .ok (.if_icmp .ne 10, 3) := by decide +kernel
theorem dX2_charge_51 : decode cX2_charge 51 = .ok (.aload_n 3, 1) := by decide +kernel
theorem dX2_charge_52 : decode cX2_charge 52 = .ok (.getfield 206, 3) := by decide +kernel
theorem dX2_charge_55 : decode cX2_charge 55 = .ok (.ifCond .eq 6, 3) := by decide +kernel
theorem dX2_charge_58 : decode cX2_charge 58 = .ok (.bipush (-3), 2) := by decide +kernel
theorem dX2_charge_60 : decode cX2_charge 60 = .ok (.ireturn, 1) := by decide +kernel
theorem dX2_charge_61 : decode cX2_charge 61 = .ok (.aload_n 2, 1) := by decide +kernel
theorem dX2_charge_62 : decode cX2_charge 62 = .ok (.getfield 75, 3) := by decide +kernel
theorem dX2_charge_65 : decode cX2_charge 65 = .ok (.istore 4, 2) := by decide +kernel
theorem dX2_charge_67 : decode cX2_charge 67 = .ok (.iload 4, 2) := by decide +kernel
theorem dX2_charge_69 : decode cX2_charge 69 = .ok (.invokestatic 52, 3) := by decide +kernel
theorem dX2_charge_72 : decode cX2_charge 72 = .ok (.ifCond .ne 6, 3) := by decide +kernel
theorem dX2_charge_75 : decode cX2_charge 75 = .ok (.bipush (-3), 2) := by decide +kernel
theorem dX2_charge_77 : decode cX2_charge 77 = .ok (.ireturn, 1) := by decide +kernel
theorem dX2_charge_78 : decode cX2_charge 78 = .ok (.aload_n 3, 1) := by decide +kernel
theorem dX2_charge_79 : decode cX2_charge 79 = .ok (.iconst 1, 1) := by decide +kernel
theorem dX2_charge_80 : decode cX2_charge 80 = .ok (.putfield 206, 3) := by decide +kernel
theorem dX2_charge_83 : decode cX2_charge 83 = .ok (.aload_n 2, 1) := by decide +kernel
theorem dX2_charge_84 : decode cX2_charge 84 = .ok (.dup, 1) := by decide +kernel
theorem dX2_charge_85 : decode cX2_charge 85 = .ok (.getfield 92, 3) := by decide +kernel
theorem dX2_charge_88 : decode cX2_charge 88 = .ok (.iconst 1, 1) := by decide +kernel
theorem dX2_charge_89 : decode cX2_charge 89 = .ok (.iadd, 1) := by decide +kernel
theorem dX2_charge_90 : decode cX2_charge 90 = .ok (.putfield 92, 3) := by decide +kernel
theorem dX2_charge_93 : decode cX2_charge 93 = .ok (.aload_n 0, 1) := by decide +kernel
theorem dX2_charge_94 : decode cX2_charge 94 = .ok (.getfield 28, 3) := by decide +kernel
theorem dX2_charge_97 : decode cX2_charge 97 = .ok (.iload 4, 2) := by decide +kernel
theorem dX2_charge_99 : decode cX2_charge 99 = .ok (.dup2, 1) := by decide +kernel
theorem dX2_charge_100 : decode cX2_charge 100 = .ok (.iaload, 1) := by decide +kernel
theorem dX2_charge_101 : decode cX2_charge 101 = .ok (.iconst 1, 1) := by decide +kernel
theorem dX2_charge_102 : decode cX2_charge 102 = .ok (.iadd, 1) := by decide +kernel
theorem dX2_charge_103 : decode cX2_charge 103 = .ok (.iastore, 1) := by decide +kernel
theorem dX2_charge_104 : decode cX2_charge 104 = .ok (.aload_n 0, 1) := by decide +kernel
theorem dX2_charge_105 : decode cX2_charge 105 = .ok (.dup, 1) := by decide +kernel
theorem dX2_charge_106 : decode cX2_charge 106 = .ok (.getfield 209, 3) := by decide +kernel
theorem dX2_charge_109 : decode cX2_charge 109 = .ok (.iconst 1, 1) := by decide +kernel
theorem dX2_charge_110 : decode cX2_charge 110 = .ok (.iadd, 1) := by decide +kernel
theorem dX2_charge_111 : decode cX2_charge 111 = .ok (.putfield 209, 3) := by decide +kernel
theorem dX2_charge_114 : decode cX2_charge 114 = .ok (.aload_n 2, 1) := by decide +kernel
theorem dX2_charge_115 : decode cX2_charge 115 = .ok (.invokevirtual 186, 3) := by decide +kernel
theorem dX2_charge_118 : decode cX2_charge 118 = .ok (.aload_n 2, 1) := by decide +kernel
theorem dX2_charge_119 : decode cX2_charge 119 = .ok (.aload_n 0, 1) := by decide +kernel
theorem dX2_charge_120 : decode cX2_charge 120 = .ok (.getfield 48, 3) := by decide +kernel
theorem dX2_charge_123 : decode cX2_charge 123 = .ok (.invokevirtual 118, 3) := by decide +kernel
theorem dX2_charge_126 : decode cX2_charge 126 = .ok (.isub, 1) := by decide +kernel
theorem dX2_charge_127 : decode cX2_charge 127 = .ok (.aload_n 0, 1) := by decide +kernel
theorem dX2_charge_128 : decode cX2_charge 128 = .ok (.aload_n 2, 1) := by decide +kernel
theorem dX2_charge_129 : decode cX2_charge 129 = .ok (.invokevirtual 189, 3) := by decide +kernel
theorem dX2_charge_132 : decode cX2_charge 132 = .ok (.isub, 1) := by decide +kernel
theorem dX2_charge_133 : decode cX2_charge 133 = .ok (.istore 5, 2) := by decide +kernel
theorem dX2_charge_135 : decode cX2_charge 135 = .ok (.bipush 10, 2) := by decide +kernel
theorem dX2_charge_137 : decode cX2_charge 137 = .ok (.iload 5, 2) := by decide +kernel
theorem dX2_charge_139 : decode cX2_charge 139 = .ok (.imul, 1) := by decide +kernel
theorem dX2_charge_140 : decode cX2_charge 140 = .ok (.aload_n 0, 1) := by decide +kernel
theorem dX2_charge_141 : decode cX2_charge 141 = .ok (.getfield 28, 3) := by decide +kernel
theorem dX2_charge_144 : decode cX2_charge 144 = .ok (.iload 4, 2) := by decide +kernel
theorem dX2_charge_146 : decode cX2_charge 146 = .ok (.iaload, 1) := by decide +kernel
theorem dX2_charge_147 : decode cX2_charge 147 = .ok (.iconst 5, 1) := by decide +kernel
theorem dX2_charge_148 : decode cX2_charge 148 = .ok (.invokestatic 212, 3) := by decide +kernel
theorem dX2_charge_151 : decode cX2_charge 151 = .ok (.imul, 1) := by decide +kernel
theorem dX2_charge_152 : decode cX2_charge 152 = .ok (.istore 6, 2) := by decide +kernel
theorem dX2_charge_154 : decode cX2_charge 154 = .ok (.aload_n 0, 1) := by decide +kernel
theorem dX2_charge_155 : decode cX2_charge 155 = .ok (.getfield 31, 3) := by decide +kernel
theorem dX2_charge_158 : decode cX2_charge 158 = .ok (.iload 4, 2) := by decide +kernel
theorem dX2_charge_160 : decode cX2_charge 160 = .ok (.dup2, 1) := by decide +kernel
theorem dX2_charge_161 : decode cX2_charge 161 = .ok (.laload, 1) := by decide +kernel
theorem dX2_charge_162 : decode cX2_charge 162 = .ok (.iload 6, 2) := by decide +kernel
theorem dX2_charge_164 : decode cX2_charge 164 = .ok (.i2l, 1) := by decide +kernel
theorem dX2_charge_165 : decode cX2_charge 165 = .ok (.ladd, 1) := by decide +kernel
theorem dX2_charge_166 : decode cX2_charge 166 = .ok (.lastore, 1) := by decide +kernel
theorem dX2_charge_167 : decode cX2_charge 167 = .ok (.iload 6, 2) := by decide +kernel
theorem dX2_charge_169 : decode cX2_charge 169 = .ok (.ireturn, 1) := by decide +kernel
theorem dX2_charged_0 : decode cX2_charged 0 = .ok (.iload_n 1, 1) := by decide +kernel
theorem dX2_charged_1 : decode cX2_charged 1 = .ok (.invokestatic 52, 3) := by decide +kernel
theorem dX2_charged_4 : decode cX2_charged 4 = .ok (.ifCond .eq 12, 3) := by decide +kernel
theorem dX2_charged_7 : decode cX2_charged 7 = .ok (.aload_n 0, 1) := by decide +kernel
theorem dX2_charged_8 : decode cX2_charged 8 = .ok (.getfield 31, 3) := by decide +kernel
theorem dX2_charged_11 : decode cX2_charged 11 = .ok (.iload_n 1, 1) := by decide +kernel
theorem dX2_charged_12 : decode cX2_charged 12 = .ok (.laload, 1) := by decide +kernel
theorem dX2_charged_13 : decode cX2_charged 13 = .ok (.goto 6, 3) := by decide +kernel
theorem dX2_charged_16 : decode cX2_charged 16 = .ok (.ldc2_w 217, 3) := by decide +kernel
theorem dX2_charged_19 : decode cX2_charged 19 = .ok (.lreturn, 1) := by decide +kernel
theorem dX2_first_0 : decode cX2_first 0 = .ok (.aload_n 0, 1) := by decide +kernel
theorem dX2_first_1 : decode cX2_first 1 = .ok (.invokevirtual 219, 3) := by decide +kernel
theorem dX2_first_4 : decode cX2_first 4 = .ok (.istore_n 2, 1) := by decide +kernel
theorem dX2_first_5 : decode cX2_first 5 = .ok (.iload_n 1, 1) := by decide +kernel
theorem dX2_first_6 : decode cX2_first 6 = .ok (.iconst 0, 1) := by decide +kernel
theorem dX2_first_7 : decode cX2_first 7 = .ok (.iload_n 2, 1) := by decide +kernel
theorem dX2_first_8 : decode cX2_first 8 = .ok (.iconst 1, 1) := by decide +kernel
theorem dX2_first_9 : decode cX2_first 9 = .ok (.isub, 1) := by decide +kernel
theorem dX2_first_10 : decode cX2_first 10 = .ok (.invokestatic 44, 3) := by decide +kernel
theorem dX2_first_13 : decode cX2_first 13 = .ok (.ifCond .eq 12, 3) := by decide +kernel
theorem dX2_first_16 : decode cX2_first 16 = .ok (.aload_n 0, 1) := by decide +kernel
theorem dX2_first_17 : decode cX2_first 17 = .ok (.getfield 38, 3) := by decide +kernel
theorem dX2_first_20 : decode cX2_first 20 = .ok (.iload_n 1, 1) := by decide +kernel
theorem dX2_first_21 : decode cX2_first 21 = .ok (.iaload, 1) := by decide +kernel
theorem dX2_first_22 : decode cX2_first 22 = .ok (.goto 5, 3) := by decide +kernel
theorem dX2_first_25 : decode cX2_first 25 = .ok (.ldc 108, 2) := by decide +kernel
theorem dX2_first_27 : decode cX2_first 27 = .ok (.ireturn, 1) := by decide +kernel
theorem dX2_count_0 : decode cX2_count 0 = .ok (.iload_n 1, 1) := by decide +kernel
theorem dX2_count_1 : decode cX2_count 1 = .ok (.tableswitch 90 0 7 #[47, 52, 57, 62, 67, 73, 79, 85], 47) := by decide +kernel
theorem dX2_count_48 : decode cX2_count 48 = .ok (.aload_n 0, 1) := by decide +kernel
theorem dX2_count_49 : decode cX2_count 49 = .ok (.getfield 48, 3) := by decide +kernel
theorem dX2_count_52 : decode cX2_count 52 = .ok (.ireturn, 1) := by decide +kernel
theorem dX2_count_53 : decode cX2_count 53 = .ok (.aload_n 0, 1) := by decide +kernel
theorem dX2_count_54 : decode cX2_count 54 = .ok (.getfield 56, 3) := by decide +kernel
theorem dX2_count_57 : decode cX2_count 57 = .ok (.ireturn, 1) := by decide +kernel
theorem dX2_count_58 : decode cX2_count 58 = .ok (.aload_n 0, 1) := by decide +kernel
theorem dX2_count_59 : decode cX2_count 59 = .ok (.getfield 115, 3) := by decide +kernel
theorem dX2_count_62 : decode cX2_count 62 = .ok (.ireturn, 1) := by decide +kernel
theorem dX2_count_63 : decode cX2_count 63 = .ok (.aload_n 0, 1) := by decide +kernel
theorem dX2_count_64 : decode cX2_count 64 = .ok (.invokevirtual 222, 3) := by decide +kernel
theorem dX2_count_67 : decode cX2_count 67 = .ok (.ireturn, 1) := by decide +kernel
theorem dX2_count_68 : decode cX2_count 68 = .ok (.aload_n 0, 1) := by decide +kernel
theorem dX2_count_69 : decode cX2_count 69 = .ok (.iconst 1, 1) := by decide +kernel
theorem dX2_count_70 : decode cX2_count 70 = .ok (.invokevirtual 225, 3) := by decide +kernel
theorem dX2_count_73 : decode cX2_count 73 = .ok (.ireturn, 1) := by decide +kernel
theorem dX2_count_74 : decode cX2_count 74 = .ok (.aload_n 0, 1) := by decide +kernel
theorem dX2_count_75 : decode cX2_count 75 = .ok (.iconst 2, 1) := by decide +kernel
theorem dX2_count_76 : decode cX2_count 76 = .ok (.invokevirtual 225, 3) := by decide +kernel
theorem dX2_count_79 : decode cX2_count 79 = .ok (.ireturn, 1) := by decide +kernel
theorem dX2_count_80 : decode cX2_count 80 = .ok (.aload_n 0, 1) := by decide +kernel
theorem dX2_count_81 : decode cX2_count 81 = .ok (.iconst 3, 1) := by decide +kernel
theorem dX2_count_82 : decode cX2_count 82 = .ok (.invokevirtual 225, 3) := by decide +kernel
theorem dX2_count_85 : decode cX2_count 85 = .ok (.ireturn, 1) := by decide +kernel
theorem dX2_count_86 : decode cX2_count 86 = .ok (.aload_n 0, 1) := by decide +kernel
theorem dX2_count_87 : decode cX2_count 87 = .ok (.getfield 209, 3) := by decide +kernel
theorem dX2_count_90 : decode cX2_count 90 = .ok (.ireturn, 1) := by decide +kernel
theorem dX2_count_91 : decode cX2_count 91 = .ok (.bipush (-2), 2) := by decide +kernel
theorem dX2_count_93 : decode cX2_count 93 = .ok (.ireturn, 1) := by decide +kernel
theorem dX2_isWithin_0 : decode cX2_isWithin 0 = .ok (.iload_n 0, 1) := by decide +kernel
theorem dX2_isWithin_1 : decode cX2_isWithin 1 = .ok (.iload_n 1, 1) := by decide +kernel
theorem dX2_isWithin_2 : decode cX2_isWithin 2 = .ok (.if_icmp .lt 12, 3) := by decide +kernel
theorem dX2_isWithin_5 : decode cX2_isWithin 5 = .ok (.iload_n 0, 1) := by decide +kernel
theorem dX2_isWithin_6 : decode cX2_isWithin 6 = .ok (.iload_n 2, 1) := by decide +kernel
theorem dX2_isWithin_7 : decode cX2_isWithin 7 = .ok (.if_icmp .gt 7, 3) := by decide +kernel
theorem dX2_isWithin_10 : decode cX2_isWithin 10 = .ok (.iconst 1, 1) := by decide +kernel
theorem dX2_isWithin_11 : decode cX2_isWithin 11 = .ok (.goto 4, 3) := by decide +kernel
theorem dX2_isWithin_14 : decode cX2_isWithin 14 = .ok (.iconst 0, 1) := by decide +kernel
theorem dX2_isWithin_15 : decode cX2_isWithin 15 = .ok (.ireturn, 1) := by decide +kernel
theorem dX2_isOwner_0 : decode cX2_isOwner 0 = .ok (.iload_n 0, 1) := by decide +kernel
theorem dX2_isOwner_1 : decode cX2_isOwner 1 = .ok (.iconst 0, 1) := by decide +kernel
theorem dX2_isOwner_2 : decode cX2_isOwner 2 = .ok (.bipush 9, 2) := by decide +kernel
theorem dX2_isOwner_4 : decode cX2_isOwner 4 = .ok (.invokestatic 44, 3) := by decide +kernel
theorem dX2_isOwner_7 : decode cX2_isOwner 7 = .ok (.ireturn, 1) := by decide +kernel
theorem dX2_isSealNumber_0 : decode cX2_isSealNumber 0 = .ok (.iload_n 0, 1) := by decide +kernel
theorem dX2_isSealNumber_1 : decode cX2_isSealNumber 1 = .ok (.iconst 1, 1) := by decide +kernel
theorem dX2_isSealNumber_2 : decode cX2_isSealNumber 2 = .ok (.sipush 9999, 3) := by decide +kernel
theorem dX2_isSealNumber_5 : decode cX2_isSealNumber 5 = .ok (.invokestatic 44, 3) := by decide +kernel
theorem dX2_isSealNumber_8 : decode cX2_isSealNumber 8 = .ok (.ireturn, 1) := by decide +kernel
theorem dX2_numberOf_0 : decode cX2_numberOf 0 = .ok (.aload_n 0, 1) := by decide +kernel
theorem dX2_numberOf_1 : decode cX2_numberOf 1 = .ok (.ifnonnull 8, 3) := by decide +kernel
theorem dX2_numberOf_4 : decode cX2_numberOf 4 = .ok (.ldc 108, 2) := by decide +kernel
theorem dX2_numberOf_6 : decode cX2_numberOf 6 = .ok (.goto 7, 3) := by decide +kernel
theorem dX2_numberOf_9 : decode cX2_numberOf 9 = .ok (.aload_n 0, 1) := by decide +kernel
theorem dX2_numberOf_10 : decode cX2_numberOf 10 = .ok (.getfield 138, 3) := by decide +kernel
theorem dX2_numberOf_13 : decode cX2_numberOf 13 = .ok (.ireturn, 1) := by decide +kernel
theorem dX2_thingAt_0 : decode cX2_thingAt 0 = .ok (.iload_n 1, 1) := by decide +kernel
theorem dX2_thingAt_1 : decode cX2_thingAt 1 = .ok (.iconst 0, 1) := by decide +kernel
theorem dX2_thingAt_2 : decode cX2_thingAt 2 = .ok (.aload_n 0, 1) := by decide +kernel
theorem dX2_thingAt_3 : decode cX2_thingAt 3 = .ok (.getfield 56, 3) := by decide +kernel
theorem dX2_thingAt_6 : decode cX2_thingAt 6 = .ok (.iconst 1, 1) := by decide +kernel
theorem dX2_thingAt_7 : decode cX2_thingAt 7 = .ok (.isub, 1) := by decide +kernel
theorem dX2_thingAt_8 : decode cX2_thingAt 8 = .ok (.invokestatic 44, 3) := by decide +kernel
theorem dX2_thingAt_11 : decode cX2_thingAt 11 = .ok (.ifCond .eq 12, 3) := by decide +kernel
theorem dX2_thingAt_14 : decode cX2_thingAt 14 = .ok (.aload_n 0, 1) := by decide +kernel
theorem dX2_thingAt_15 : decode cX2_thingAt 15 = .ok (.getfield 11, 3) := by decide +kernel
theorem dX2_thingAt_18 : decode cX2_thingAt 18 = .ok (.iload_n 1, 1) := by decide +kernel
theorem dX2_thingAt_19 : decode cX2_thingAt 19 = .ok (.aaload, 1) := by decide +kernel
theorem dX2_thingAt_20 : decode cX2_thingAt 20 = .ok (.goto 4, 3) := by decide +kernel
theorem dX2_thingAt_23 : decode cX2_thingAt 23 = .ok (.aconst_null, 1) := by decide +kernel
theorem dX2_thingAt_24 : decode cX2_thingAt 24 = .ok (.areturn, 1) := by decide +kernel
theorem dX2_trialAt_0 : decode cX2_trialAt 0 = .ok (.iload_n 1, 1) := by decide +kernel
theorem dX2_trialAt_1 : decode cX2_trialAt 1 = .ok (.iconst 0, 1) := by decide +kernel
theorem dX2_trialAt_2 : decode cX2_trialAt 2 = .ok (.aload_n 0, 1) := by decide +kernel
theorem dX2_trialAt_3 : decode cX2_trialAt 3 = .ok (.getfield 115, 3) := by decide +kernel
theorem dX2_trialAt_6 : decode cX2_trialAt 6 = .ok (.iconst 1, 1) := by decide +kernel
theorem dX2_trialAt_7 : decode cX2_trialAt 7 = .ok (.isub, 1) := by decide +kernel
theorem dX2_trialAt_8 : decode cX2_trialAt 8 = .ok (.invokestatic 44, 3) := by decide +kernel
theorem dX2_trialAt_11 : decode cX2_trialAt 11 = .ok (.ifCond .eq 12, 3) := by decide +kernel
theorem dX2_trialAt_14 : decode cX2_trialAt 14 = .ok (.aload_n 0, 1) := by decide +kernel
theorem dX2_trialAt_15 : decode cX2_trialAt 15 = .ok (.getfield 17, 3) := by decide +kernel
theorem dX2_trialAt_18 : decode cX2_trialAt 18 = .ok (.iload_n 1, 1) := by decide +kernel
theorem dX2_trialAt_19 : decode cX2_trialAt 19 = .ok (.aaload, 1) := by decide +kernel
theorem dX2_trialAt_20 : decode cX2_trialAt 20 = .ok (.goto 4, 3) := by decide +kernel
theorem dX2_trialAt_23 : decode cX2_trialAt 23 = .ok (.aconst_null, 1) := by decide +kernel
theorem dX2_trialAt_24 : decode cX2_trialAt 24 = .ok (.areturn, 1) := by decide +kernel
theorem dX2_takeTrial_0 : decode cX2_takeTrial 0 = .ok (.aload_n 1, 1) := by decide +kernel
theorem dX2_takeTrial_1 : decode cX2_takeTrial 1 = .ok (.getfield 81, 3) := by decide +kernel
theorem dX2_takeTrial_4 : decode cX2_takeTrial 4 = .ok (.astore_n 3, 1) := by decide +kernel
theorem dX2_takeTrial_5 : decode cX2_takeTrial 5 = .ok (.aload_n 2, 1) := by decide +kernel
theorem dX2_takeTrial_6 : decode cX2_takeTrial 6 = .ok (.aload_n 1, 1) := by decide +kernel
theorem dX2_takeTrial_7 : decode cX2_takeTrial 7 = .ok (.aload_n 2, 1) := by decide +kernel
theorem dX2_takeTrial_8 : decode cX2_takeTrial 8 = .ok (.invokevirtual 228, 3) := by decide +kernel
theorem dX2_takeTrial_11 : decode cX2_takeTrial 11 = .ok (.putfield 164, 3) := by decide +kernel
theorem dX2_takeTrial_14 : decode cX2_takeTrial 14 = .ok (.aload_n 1, 1) := by decide +kernel
theorem dX2_takeTrial_15 : decode cX2_takeTrial 15 = .ok (.aload_n 2, 1) := by decide +kernel
theorem dX2_takeTrial_16 : decode cX2_takeTrial 16 = .ok (.invokevirtual 232, 3) := by decide +kernel
theorem dX2_takeTrial_19 : decode cX2_takeTrial 19 = .ok (.aload_n 3, 1) := by decide +kernel
theorem dX2_takeTrial_20 : decode cX2_takeTrial 20 = .ok (.ifnull 10, 3) := by decide +kernel
theorem dX2_takeTrial_23 : decode cX2_takeTrial 23 = .ok (.aload_n 2, 1) := by decide +kernel
theorem dX2_takeTrial_24 : decode cX2_takeTrial 24 = .ok (.getfield 164, 3) := by decide +kernel
theorem dX2_takeTrial_27 : decode cX2_takeTrial 27 = .ok (.ifCond .ne 4, 3) := by decide +kernel
theorem dX2_takeTrial_30 : decode cX2_takeTrial 30 = .ok (.return_, 1) := by decide +kernel
theorem dX2_takeTrial_31 : decode cX2_takeTrial 31 = .ok (.aload_n 1, 1) := by decide +kernel
theorem dX2_takeTrial_32 : decode cX2_takeTrial 32 = .ok (.ldc 108, 2) := by decide +kernel
theorem dX2_takeTrial_34 : decode cX2_takeTrial 34 = .ok (.putfield 89, 3) := by decide +kernel
theorem dX2_takeTrial_37 : decode cX2_takeTrial 37 = .ok (.aload_n 0, 1) := by decide +kernel
theorem dX2_takeTrial_38 : decode cX2_takeTrial 38 = .ok (.aload_n 3, 1) := by decide +kernel
theorem dX2_takeTrial_39 : decode cX2_takeTrial 39 = .ok (.invokevirtual 236, 3) := by decide +kernel
theorem dX2_takeTrial_42 : decode cX2_takeTrial 42 = .ok (.return_, 1) := by decide +kernel
theorem dX2_unsettleAllBasedOn_0 : decode cX2_unsettleAllBasedOn 0 = .ok (.aload_n 1, 1) := by decide +kernel
theorem dX2_unsettleAllBasedOn_1 : decode cX2_unsettleAllBasedOn 1 = .ok (.getfield 138, 3) := by decide +kernel
theorem dX2_unsettleAllBasedOn_4 : decode cX2_unsettleAllBasedOn 4 = .ok (.iconst 1, 1) := by decide +kernel
theorem dX2_unsettleAllBasedOn_5 : decode cX2_unsettleAllBasedOn 5 = .ok (.iadd, 1) := by decide +kernel
theorem dX2_unsettleAllBasedOn_6 : decode cX2_unsettleAllBasedOn 6 = .ok (.istore_n 2, 1) := by decide +kernel
theorem dX2_unsettleAllBasedOn_7 : decode cX2_unsettleAllBasedOn 7 = .ok (.iload_n 2, 1) := by decide +kernel
theorem dX2_unsettleAllBasedOn_8 : decode cX2_unsettleAllBasedOn 8 = .ok (.aload_n 0, 1) := by decide +kernel
theorem dX2_unsettleAllBasedOn_9 : decode cX2_unsettleAllBasedOn 9 = .ok (.getfield 115, 3) := by decide +kernel
theorem dX2_unsettleAllBasedOn_12 : decode cX2_unsettleAllBasedOn 12 = .ok (.if_icmp .ge 32, 3) := by decide +kernel
theorem dX2_unsettleAllBasedOn_15 : decode cX2_unsettleAllBasedOn 15 = .ok (.aload_n 0, 1) := by decide +kernel
theorem dX2_unsettleAllBasedOn_16 : decode cX2_unsettleAllBasedOn 16 = .ok (.iload_n 2, 1) := by decide +kernel
theorem dX2_unsettleAllBasedOn_17 : decode cX2_unsettleAllBasedOn 17 = .ok (.invokevirtual 141, 3) := by decide +kernel
theorem dX2_unsettleAllBasedOn_20 : decode cX2_unsettleAllBasedOn 20 = .ok (.astore_n 3, 1) := by decide +kernel
theorem dX2_unsettleAllBasedOn_21 : decode cX2_unsettleAllBasedOn 21 = .ok (.aload_n 3, 1) := by decide +kernel
theorem dX2_unsettleAllBasedOn_22 : decode cX2_unsettleAllBasedOn 22 = .ok (.ifnull 16, 3) := by decide +kernel
theorem dX2_unsettleAllBasedOn_25 : decode cX2_unsettleAllBasedOn 25 = .ok (.aload_n 3, 1) := by decide +kernel
theorem dX2_unsettleAllBasedOn_26 : decode cX2_unsettleAllBasedOn 26 = .ok (.aload_n 1, 1) := by decide +kernel
theorem dX2_unsettleAllBasedOn_27 : decode cX2_unsettleAllBasedOn 27 = .ok (.invokevirtual 239, 3) := by decide +kernel
theorem dX2_unsettleAllBasedOn_30 : decode cX2_unsettleAllBasedOn 30 = .ok (.ifCond .eq 8, 3) := by decide +kernel
theorem dX2_unsettleAllBasedOn_33 : decode cX2_unsettleAllBasedOn 33 = .ok (.aload_n 3, 1) := by decide +kernel
theorem dX2_unsettleAllBasedOn_34 : decode cX2_unsettleAllBasedOn 34 = .ok (.iconst 0, 1) := by decide +kernel
theorem dX2_unsettleAllBasedOn_35 : decode cX2_unsettleAllBasedOn 35 = .ok (.putfield 160, 3) := by decide +kernel
theorem dX2_unsettleAllBasedOn_38 : decode cX2_unsettleAllBasedOn 38 = .ok (.iinc 2 1, 3) := by decide +kernel
theorem dX2_unsettleAllBasedOn_41 : decode cX2_unsettleAllBasedOn 41 = .ok (.goto (-34), 3) := by decide +kernel
theorem dX2_unsettleAllBasedOn_44 : decode cX2_unsettleAllBasedOn 44 = .ok (.return_, 1) := by decide +kernel
theorem dX2_allowanceFor_0 : decode cX2_allowanceFor 0 = .ok (.aload_n 1, 1) := by decide +kernel
theorem dX2_allowanceFor_1 : decode cX2_allowanceFor 1 = .ok (.getfield 66, 3) := by decide +kernel
theorem dX2_allowanceFor_4 : decode cX2_allowanceFor 4 = .ok (.istore_n 2, 1) := by decide +kernel
theorem dX2_allowanceFor_5 : decode cX2_allowanceFor 5 = .ok (.iload_n 2, 1) := by decide +kernel
theorem dX2_allowanceFor_6 : decode cX2_allowanceFor 6 = .ok (.iconst 1, 1) := by decide +kernel
theorem dX2_allowanceFor_7 : decode cX2_allowanceFor 7 = .ok (.iconst 3, 1) := by decide +kernel
theorem dX2_allowanceFor_8 : decode cX2_allowanceFor 8 = .ok (.invokestatic 44, 3) := by decide +kernel
theorem dX2_allowanceFor_11 : decode cX2_allowanceFor 11 = .ok (.ifCond .ne 5, 3) := by decide +kernel
theorem dX2_allowanceFor_14 : decode cX2_allowanceFor 14 = .ok (.iconst 0, 1) := by decide +kernel
theorem dX2_allowanceFor_15 : decode cX2_allowanceFor 15 = .ok (.ireturn, 1) := by decide +kernel
theorem dX2_allowanceFor_16 : decode cX2_allowanceFor 16 = .ok (.aload_n 1, 1) := by decide +kernel
theorem dX2_allowanceFor_17 : decode cX2_allowanceFor 17 = .ok (.getfield 78, 3) := by decide +kernel
theorem dX2_allowanceFor_20 : decode cX2_allowanceFor 20 = .ok (.iconst 1, 1) := by decide +kernel
theorem dX2_allowanceFor_21 : decode cX2_allowanceFor 21 = .ok (.if_icmp .ne 12, 3) := by decide +kernel
theorem dX2_allowanceFor_24 : decode cX2_allowanceFor 24 = .ok (.aload_n 0, 1) := by decide +kernel
theorem dX2_allowanceFor_25 : decode cX2_allowanceFor 25 = .ok (.getfield 21, 3) := by decide +kernel
theorem dX2_allowanceFor_28 : decode cX2_allowanceFor 28 = .ok (.iload_n 2, 1) := by decide +kernel
theorem dX2_allowanceFor_29 : decode cX2_allowanceFor 29 = .ok (.iaload, 1) := by decide +kernel
theorem dX2_allowanceFor_30 : decode cX2_allowanceFor 30 = .ok (.goto 9, 3) := by decide +kernel
theorem dX2_allowanceFor_33 : decode cX2_allowanceFor 33 = .ok (.aload_n 0, 1) := by decide +kernel
theorem dX2_allowanceFor_34 : decode cX2_allowanceFor 34 = .ok (.getfield 25, 3) := by decide +kernel
theorem dX2_allowanceFor_37 : decode cX2_allowanceFor 37 = .ok (.iload_n 2, 1) := by decide +kernel
theorem dX2_allowanceFor_38 : decode cX2_allowanceFor 38 = .ok (.iaload, 1) := by decide +kernel
theorem dX2_allowanceFor_39 : decode cX2_allowanceFor 39 = .ok (.ireturn, 1) := by decide +kernel
theorem dX2_judgement_0 : decode cX2_judgement 0 = .ok (.aload_n 1, 1) := by decide +kernel
theorem dX2_judgement_1 : decode cX2_judgement 1 = .ok (.getfield 66, 3) := by decide +kernel
theorem dX2_judgement_4 : decode cX2_judgement 4 = .ok (.ifCond .eq 10, 3) := by decide +kernel
theorem dX2_judgement_7 : decode cX2_judgement 7 = .ok (.aload_n 1, 1) := by decide +kernel
theorem dX2_judgement_8 : decode cX2_judgement 8 = .ok (.invokevirtual 173, 3) := by decide +kernel
theorem dX2_judgement_11 : decode cX2_judgement 11 = .ok (.ifCond .ne 5, 3) := by decide +kernel
theorem dX2_judgement_14 : decode cX2_judgement 14 = .ok (.iconst 0, 1) := by decide +kernel
theorem dX2_judgement_15 : decode cX2_judgement 15 = .ok (.ireturn, 1) := by decide +kernel
theorem dX2_judgement_16 : decode cX2_judgement 16 = .ok (.aload_n 1, 1) := by decide +kernel
theorem dX2_judgement_17 : decode cX2_judgement 17 = .ok (.invokevirtual 186, 3) := by decide +kernel
theorem dX2_judgement_20 : decode cX2_judgement 20 = .ok (.istore_n 2, 1) := by decide +kernel
theorem dX2_judgement_21 : decode cX2_judgement 21 = .ok (.aload_n 1, 1) := by decide +kernel
theorem dX2_judgement_22 : decode cX2_judgement 22 = .ok (.aload_n 0, 1) := by decide +kernel
theorem dX2_judgement_23 : decode cX2_judgement 23 = .ok (.getfield 48, 3) := by decide +kernel
theorem dX2_judgement_26 : decode cX2_judgement 26 = .ok (.invokevirtual 118, 3) := by decide +kernel
theorem dX2_judgement_29 : decode cX2_judgement 29 = .ok (.istore_n 3, 1) := by decide +kernel
theorem dX2_judgement_30 : decode cX2_judgement 30 = .ok (.aload_n 0, 1) := by decide +kernel
theorem dX2_judgement_31 : decode cX2_judgement 31 = .ok (.aload_n 1, 1) := by decide +kernel
theorem dX2_judgement_32 : decode cX2_judgement 32 = .ok (.invokevirtual 189, 3) := by decide +kernel
theorem dX2_judgement_35 : decode cX2_judgement 35 = .ok (.istore 4, 2) := by decide +kernel
theorem dX2_judgement_37 : decode cX2_judgement 37 = .ok (.iload_n 2, 1) := by decide +kernel
theorem dX2_judgement_38 : decode cX2_judgement 38 = .ok (.iload_n 3, 1) := by decide +kernel
theorem dX2_judgement_39 : decode cX2_judgement 39 = .ok (.iadd, 1) := by decide +kernel
theorem dX2_judgement_40 : decode cX2_judgement 40 = .ok (.iload 4, 2) := by decide +kernel
theorem dX2_judgement_42 : decode cX2_judgement 42 = .ok (.if_icmp .gt 5, 3) := by decide +kernel
theorem dX2_judgement_45 : decode cX2_judgement 45 = .ok (.iconst 1, 1) := by decide +kernel
theorem dX2_judgement_46 : decode cX2_judgement 46 = .ok (.ireturn, 1) := by decide +kernel
theorem dX2_judgement_47 : decode cX2_judgement 47 = .ok (.iload_n 2, 1) := by decide +kernel
theorem dX2_judgement_48 : decode cX2_judgement 48 = .ok (.iload_n 3, 1) := by decide +kernel
theorem dX2_judgement_49 : decode cX2_judgement 49 = .ok (.isub, 1) := by decide +kernel
theorem dX2_judgement_50 : decode cX2_judgement 50 = .ok (.iload 4, 2) := by decide +kernel
theorem dX2_judgement_52 : decode cX2_judgement 52 = .ok (.if_icmp .le 7, 3) := by decide +kernel
theorem dX2_judgement_55 : decode cX2_judgement 55 = .ok (.iconst 3, 1) := by decide +kernel
theorem dX2_judgement_56 : decode cX2_judgement 56 = .ok (.goto 4, 3) := by decide +kernel
theorem dX2_judgement_59 : decode cX2_judgement 59 = .ok (.iconst 2, 1) := by decide +kernel
theorem dX2_judgement_60 : decode cX2_judgement 60 = .ok (.ireturn, 1) := by decide +kernel
theorem dX2_wasPutOn_0 : decode cX2_wasPutOn 0 = .ok (.iload_n 1, 1) := by decide +kernel
theorem dX2_wasPutOn_1 : decode cX2_wasPutOn 1 = .ok (.invokestatic 196, 3) := by decide +kernel
theorem dX2_wasPutOn_4 : decode cX2_wasPutOn 4 = .ok (.ifCond .eq 26, 3) := by decide +kernel
theorem dX2_wasPutOn_7 : decode cX2_wasPutOn 7 = .ok (.aload_n 0, 1) := by decide +kernel
theorem dX2_wasPutOn_8 : decode cX2_wasPutOn 8 = .ok (.getfield 35, 3) := by decide +kernel
theorem dX2_wasPutOn_11 : decode cX2_wasPutOn 11 = .ok (.iload_n 1, 1) := by decide +kernel
theorem dX2_wasPutOn_12 : decode cX2_wasPutOn 12 = .ok (.bipush 32, 2) := by decide +kernel
theorem dX2_wasPutOn_14 : decode cX2_wasPutOn 14 = .ok (.idiv, 1) := by decide +kernel
theorem dX2_wasPutOn_15 : decode cX2_wasPutOn 15 = .ok (.iaload, 1) := by decide +kernel
theorem dX2_wasPutOn_16 : decode cX2_wasPutOn 16 = .ok (.iconst 1, 1) := by decide +kernel
theorem dX2_wasPutOn_17 : decode cX2_wasPutOn 17 = .ok (.iload_n 1, 1) := by decide +kernel
theorem dX2_wasPutOn_18 : decode cX2_wasPutOn 18 = .ok (.bipush 32, 2) := by decide +kernel
theorem dX2_wasPutOn_20 : decode cX2_wasPutOn 20 = .ok (.irem, 1) := by decide +kernel
theorem dX2_wasPutOn_21 : decode cX2_wasPutOn 21 = .ok (.ishl, 1) := by decide +kernel
theorem dX2_wasPutOn_22 : decode cX2_wasPutOn 22 = .ok (.iand, 1) := by decide +kernel
theorem dX2_wasPutOn_23 : decode cX2_wasPutOn 23 = .ok (.ifCond .eq 7, 3) := by decide +kernel
theorem dX2_wasPutOn_26 : decode cX2_wasPutOn 26 = .ok (.iconst 1, 1) := by decide +kernel
theorem dX2_wasPutOn_27 : decode cX2_wasPutOn 27 = .ok (.goto 4, 3) := by decide +kernel
theorem dX2_wasPutOn_30 : decode cX2_wasPutOn 30 = .ok (.iconst 0, 1) := by decide +kernel
theorem dX2_wasPutOn_31 : decode cX2_wasPutOn 31 = .ok (.ireturn, 1) := by decide +kernel
theorem dX2_markPutOn_0 : decode cX2_markPutOn 0 = .ok (.iload_n 1, 1) := by decide +kernel
theorem dX2_markPutOn_1 : decode cX2_markPutOn 1 = .ok (.invokestatic 196, 3) := by decide +kernel
theorem dX2_markPutOn_4 : decode cX2_markPutOn 4 = .ok (.ifCond .eq 21, 3) := by decide +kernel
theorem dX2_markPutOn_7 : decode cX2_markPutOn 7 = .ok (.aload_n 0, 1) := by decide +kernel
theorem dX2_markPutOn_8 : decode cX2_markPutOn 8 = .ok (.getfield 35, 3) := by decide +kernel
theorem dX2_markPutOn_11 : decode cX2_markPutOn 11 = .ok (.iload_n 1, 1) := by decide +kernel
theorem dX2_markPutOn_12 : decode cX2_markPutOn 12 = .ok (.bipush 32, 2) := by decide +kernel
theorem dX2_markPutOn_14 : decode cX2_markPutOn 14 = .ok (.idiv, 1) := by decide +kernel
theorem dX2_markPutOn_15 : decode cX2_markPutOn 15 = .ok (.dup2, 1) := by decide +kernel
theorem dX2_markPutOn_16 : decode cX2_markPutOn 16 = .ok (.iaload, 1) := by decide +kernel
theorem dX2_markPutOn_17 : decode cX2_markPutOn 17 = .ok (.iconst 1, 1) := by decide +kernel
theorem dX2_markPutOn_18 : decode cX2_markPutOn 18 = .ok (.iload_n 1, 1) := by decide +kernel
theorem dX2_markPutOn_19 : decode cX2_markPutOn 19 = .ok (.bipush 32, 2) := by decide +kernel
theorem dX2_markPutOn_21 : decode cX2_markPutOn 21 = .ok (.irem, 1) := by decide +kernel
theorem dX2_markPutOn_22 : decode cX2_markPutOn 22 = .ok (.ishl, 1) := by decide +kernel
theorem dX2_markPutOn_23 : decode cX2_markPutOn 23 = .ok (.ior, 1) := by decide +kernel
theorem dX2_markPutOn_24 : decode cX2_markPutOn 24 = .ok (.iastore, 1) := by decide +kernel
theorem dX2_markPutOn_25 : decode cX2_markPutOn 25 = .ok (.return_, 1) := by decide +kernel
theorem dX2_rankThings_0 : decode cX2_rankThings 0 = .ok (.iconst 0, 1) := by decide +kernel
theorem dX2_rankThings_1 : decode cX2_rankThings 1 = .ok (.istore_n 1, 1) := by decide +kernel
theorem dX2_rankThings_2 : decode cX2_rankThings 2 = .ok (.iconst 0, 1) := by decide +kernel
theorem dX2_rankThings_3 : decode cX2_rankThings 3 = .ok (.istore_n 2, 1) := by decide +kernel
theorem dX2_rankThings_4 : decode cX2_rankThings 4 = .ok (.iload_n 2, 1) := by decide +kernel
theorem dX2_rankThings_5 : decode cX2_rankThings 5 = .ok (.aload_n 0, 1) := by decide +kernel
theorem dX2_rankThings_6 : decode cX2_rankThings 6 = .ok (.getfield 56, 3) := by decide +kernel
theorem dX2_rankThings_9 : decode cX2_rankThings 9 = .ok (.if_icmp .ge 43, 3) := by decide +kernel
theorem dX2_rankThings_12 : decode cX2_rankThings 12 = .ok (.aload_n 0, 1) := by decide +kernel
theorem dX2_rankThings_13 : decode cX2_rankThings 13 = .ok (.iload_n 2, 1) := by decide +kernel
theorem dX2_rankThings_14 : decode cX2_rankThings 14 = .ok (.invokevirtual 62, 3) := by decide +kernel
theorem dX2_rankThings_17 : decode cX2_rankThings 17 = .ok (.astore_n 3, 1) := by decide +kernel
theorem dX2_rankThings_18 : decode cX2_rankThings 18 = .ok (.aload_n 3, 1) := by decide +kernel
theorem dX2_rankThings_19 : decode cX2_rankThings 19 = .ok (.ifnull 27, 3) := by decide +kernel
theorem dX2_rankThings_22 : decode cX2_rankThings 22 = .ok (.aload_n 3, 1) := by decide +kernel
theorem dX2_rankThings_23 : decode cX2_rankThings 23 = .ok (.invokevirtual 105, 3) := by decide +kernel
theorem dX2_rankThings_26 : decode cX2_rankThings 26 = .ok (.ifCond .ne 6, 3) := by decide +kernel
theorem dX2_rankThings_29 : decode cX2_rankThings 29 = .ok (.goto 17, 3) := by decide +kernel
theorem dX2_rankThings_32 : decode cX2_rankThings 32 = .ok (.aload_n 0, 1) := by decide +kernel
theorem dX2_rankThings_33 : decode cX2_rankThings 33 = .ok (.iload_n 1, 1) := by decide +kernel
theorem dX2_rankThings_34 : decode cX2_rankThings 34 = .ok (.iload_n 2, 1) := by decide +kernel
theorem dX2_rankThings_35 : decode cX2_rankThings 35 = .ok (.aload_n 0, 1) := by decide +kernel
theorem dX2_rankThings_36 : decode cX2_rankThings 36 = .ok (.aload_n 3, 1) := by decide +kernel
theorem dX2_rankThings_37 : decode cX2_rankThings 37 = .ok (.invokevirtual 242, 3) := by decide +kernel
theorem dX2_rankThings_40 : decode cX2_rankThings 40 = .ok (.invokevirtual 246, 3) := by decide +kernel
theorem dX2_rankThings_43 : decode cX2_rankThings 43 = .ok (.iinc 1 1, 3) := by decide +kernel
theorem dX2_rankThings_46 : decode cX2_rankThings 46 = .ok (.iinc 2 1, 3) := by decide +kernel
theorem dX2_rankThings_49 : decode cX2_rankThings 49 = .ok (.goto (-45), 3) := by decide +kernel
theorem dX2_rankThings_52 : decode cX2_rankThings 52 = .ok (.iload_n 1, 1) := by decide +kernel
theorem dX2_rankThings_53 : decode cX2_rankThings 53 = .ok (.ireturn, 1) := by decide +kernel
theorem dX2_rankBehind_0 : decode cX2_rankBehind 0 = .ok (.iload_n 1, 1) := by decide +kernel
theorem dX2_rankBehind_1 : decode cX2_rankBehind 1 = .ok (.iconst 0, 1) := by decide +kernel
theorem dX2_rankBehind_2 : decode cX2_rankBehind 2 = .ok (.bipush 39, 2) := by decide +kernel
theorem dX2_rankBehind_4 : decode cX2_rankBehind 4 = .ok (.invokestatic 44, 3) := by decide +kernel
theorem dX2_rankBehind_7 : decode cX2_rankBehind 7 = .ok (.ifCond .ne 4, 3) := by decide +kernel
theorem dX2_rankBehind_10 : decode cX2_rankBehind 10 = .ok (.return_, 1) := by decide +kernel
theorem dX2_rankBehind_11 : decode cX2_rankBehind 11 = .ok (.iload_n 1, 1) := by decide +kernel
theorem dX2_rankBehind_12 : decode cX2_rankBehind 12 = .ok (.istore 5, 2) := by decide +kernel
theorem dX2_rankBehind_14 : decode cX2_rankBehind 14 = .ok (.iload 5, 2) := by decide +kernel
theorem dX2_rankBehind_16 : decode cX2_rankBehind 16 = .ok (.ifCond .le 55, 3) := by decide +kernel
theorem dX2_rankBehind_19 : decode cX2_rankBehind 19 = .ok (.aload_n 0, 1) := by decide +kernel
theorem dX2_rankBehind_20 : decode cX2_rankBehind 20 = .ok (.getfield 41, 3) := by decide +kernel
theorem dX2_rankBehind_23 : decode cX2_rankBehind 23 = .ok (.iload 5, 2) := by decide +kernel
theorem dX2_rankBehind_25 : decode cX2_rankBehind 25 = .ok (.iconst 1, 1) := by decide +kernel
theorem dX2_rankBehind_26 : decode cX2_rankBehind 26 = .ok (.isub, 1) := by decide +kernel
theorem dX2_rankBehind_27 : decode cX2_rankBehind 27 = .ok (.laload, 1) := by decide +kernel
theorem dX2_rankBehind_28 : decode cX2_rankBehind 28 = .ok (.lload_n 3, 1) := by decide +kernel
theorem dX2_rankBehind_29 : decode cX2_rankBehind 29 = .ok (.lcmp, 1) := by decide +kernel
theorem dX2_rankBehind_30 : decode cX2_rankBehind 30 = .ok (.ifCond .ge 41, 3) := by decide +kernel
theorem dX2_rankBehind_33 : decode cX2_rankBehind 33 = .ok (.aload_n 0, 1) := by decide +kernel
theorem dX2_rankBehind_34 : decode cX2_rankBehind 34 = .ok (.getfield 38, 3) := by decide +kernel
theorem dX2_rankBehind_37 : decode cX2_rankBehind 37 = .ok (.iload 5, 2) := by decide +kernel
theorem dX2_rankBehind_39 : decode cX2_rankBehind 39 = .ok (.aload_n 0, 1) := by decide +kernel
theorem dX2_rankBehind_40 : decode cX2_rankBehind 40 = .ok (.getfield 38, 3) := by decide +kernel
theorem dX2_rankBehind_43 : decode cX2_rankBehind 43 = .ok (.iload 5, 2) := by decide +kernel
theorem dX2_rankBehind_45 : decode cX2_rankBehind 45 = .ok (.iconst 1, 1) := by decide +kernel
theorem dX2_rankBehind_46 : decode cX2_rankBehind 46 = .ok (.isub, 1) := by decide +kernel
theorem dX2_rankBehind_47 : decode cX2_rankBehind 47 = .ok (.iaload, 1) := by decide +kernel
theorem dX2_rankBehind_48 : decode cX2_rankBehind 48 = .ok (.iastore, 1) := by decide +kernel
theorem dX2_rankBehind_49 : decode cX2_rankBehind 49 = .ok (.aload_n 0, 1) := by decide +kernel
theorem dX2_rankBehind_50 : decode cX2_rankBehind 50 = .ok (.getfield 41, 3) := by decide +kernel
theorem dX2_rankBehind_53 : decode cX2_rankBehind 53 = .ok (.iload 5, 2) := by decide +kernel
theorem dX2_rankBehind_55 : decode cX2_rankBehind 55 = .ok (.aload_n 0, 1) := by decide +kernel
theorem dX2_rankBehind_56 : decode cX2_rankBehind 56 = .ok (.getfield 41, 3) := by decide +kernel
theorem dX2_rankBehind_59 : decode cX2_rankBehind 59 = .ok (.iload 5, 2) := by decide +kernel
theorem dX2_rankBehind_61 : decode cX2_rankBehind 61 = .ok (.iconst 1, 1) := by decide +kernel
theorem dX2_rankBehind_62 : decode cX2_rankBehind 62 = .ok (.isub, 1) := by decide +kernel
theorem dX2_rankBehind_63 : decode cX2_rankBehind 63 = .ok (.laload, 1) := by decide +kernel
theorem dX2_rankBehind_64 : decode cX2_rankBehind 64 = .ok (.lastore, 1) := by decide +kernel
theorem dX2_rankBehind_65 : decode cX2_rankBehind 65 = .ok (.iinc 5 (-1), 3) := by decide +kernel
theorem dX2_rankBehind_68 : decode cX2_rankBehind 68 = .ok (.goto (-54), 3) := by decide +kernel
theorem dX2_rankBehind_71 : decode cX2_rankBehind 71 = .ok (.aload_n 0, 1) := by decide +kernel
theorem dX2_rankBehind_72 : decode cX2_rankBehind 72 = .ok (.getfield 38, 3) := by decide +kernel
theorem dX2_rankBehind_75 : decode cX2_rankBehind 75 = .ok (.iload 5, 2) := by decide +kernel
theorem dX2_rankBehind_77 : decode cX2_rankBehind 77 = .ok (.iload_n 2, 1) := by decide +kernel
theorem dX2_rankBehind_78 : decode cX2_rankBehind 78 = .ok (.iastore, 1) := by decide +kernel
theorem dX2_rankBehind_79 : decode cX2_rankBehind 79 = .ok (.aload_n 0, 1) := by decide +kernel
theorem dX2_rankBehind_80 : decode cX2_rankBehind 80 = .ok (.getfield 41, 3) := by decide +kernel
theorem dX2_rankBehind_83 : decode cX2_rankBehind 83 = .ok (.iload 5, 2) := by decide +kernel
theorem dX2_rankBehind_85 : decode cX2_rankBehind 85 = .ok (.lload_n 3, 1) := by decide +kernel
theorem dX2_rankBehind_86 : decode cX2_rankBehind 86 = .ok (.lastore, 1) := by decide +kernel
theorem dX2_rankBehind_87 : decode cX2_rankBehind 87 = .ok (.return_, 1) := by decide +kernel
theorem dX2_urgencyOf_0 : decode cX2_urgencyOf 0 = .ok (.aload_n 1, 1) := by decide +kernel
theorem dX2_urgencyOf_1 : decode cX2_urgencyOf 1 = .ok (.getfield 81, 3) := by decide +kernel
theorem dX2_urgencyOf_4 : decode cX2_urgencyOf 4 = .ok (.ifnonnull 7, 3) := by decide +kernel
theorem dX2_urgencyOf_7 : decode cX2_urgencyOf 7 = .ok (.ldc2_w 250, 3) := by decide +kernel
theorem dX2_urgencyOf_10 : decode cX2_urgencyOf 10 = .ok (.lreturn, 1) := by decide +kernel
theorem dX2_urgencyOf_11 : decode cX2_urgencyOf 11 = .ok (.aload_n 1, 1) := by decide +kernel
theorem dX2_urgencyOf_12 : decode cX2_urgencyOf 12 = .ok (.invokevirtual 186, 3) := by decide +kernel
theorem dX2_urgencyOf_15 : decode cX2_urgencyOf 15 = .ok (.aload_n 1, 1) := by decide +kernel
theorem dX2_urgencyOf_16 : decode cX2_urgencyOf 16 = .ok (.aload_n 0, 1) := by decide +kernel
theorem dX2_urgencyOf_17 : decode cX2_urgencyOf 17 = .ok (.getfield 48, 3) := by decide +kernel
theorem dX2_urgencyOf_20 : decode cX2_urgencyOf 20 = .ok (.invokevirtual 118, 3) := by decide +kernel
theorem dX2_urgencyOf_23 : decode cX2_urgencyOf 23 = .ok (.iadd, 1) := by decide +kernel
theorem dX2_urgencyOf_24 : decode cX2_urgencyOf 24 = .ok (.aload_n 0, 1) := by decide +kernel
theorem dX2_urgencyOf_25 : decode cX2_urgencyOf 25 = .ok (.aload_n 1, 1) := by decide +kernel
theorem dX2_urgencyOf_26 : decode cX2_urgencyOf 26 = .ok (.invokevirtual 189, 3) := by decide +kernel
theorem dX2_urgencyOf_29 : decode cX2_urgencyOf 29 = .ok (.isub, 1) := by decide +kernel
theorem dX2_urgencyOf_30 : decode cX2_urgencyOf 30 = .ok (.istore_n 2, 1) := by decide +kernel
theorem dX2_urgencyOf_31 : decode cX2_urgencyOf 31 = .ok (.aload_n 1, 1) := by decide +kernel
theorem dX2_urgencyOf_32 : decode cX2_urgencyOf 32 = .ok (.invokevirtual 173, 3) := by decide +kernel
theorem dX2_urgencyOf_35 : decode cX2_urgencyOf 35 = .ok (.ifCond .ne 10, 3) := by decide +kernel
theorem dX2_urgencyOf_38 : decode cX2_urgencyOf 38 = .ok (.ldc2_w 252, 3) := by decide +kernel
theorem dX2_urgencyOf_41 : decode cX2_urgencyOf 41 = .ok (.iload_n 2, 1) := by decide +kernel
theorem dX2_urgencyOf_42 : decode cX2_urgencyOf 42 = .ok (.i2l, 1) := by decide +kernel
theorem dX2_urgencyOf_43 : decode cX2_urgencyOf 43 = .ok (.ladd, 1) := by decide +kernel
theorem dX2_urgencyOf_44 : decode cX2_urgencyOf 44 = .ok (.lreturn, 1) := by decide +kernel
theorem dX2_urgencyOf_45 : decode cX2_urgencyOf 45 = .ok (.aload_n 1, 1) := by decide +kernel
theorem dX2_urgencyOf_46 : decode cX2_urgencyOf 46 = .ok (.aload_n 0, 1) := by decide +kernel
theorem dX2_urgencyOf_47 : decode cX2_urgencyOf 47 = .ok (.getfield 48, 3) := by decide +kernel
theorem dX2_urgencyOf_50 : decode cX2_urgencyOf 50 = .ok (.invokevirtual 176, 3) := by decide +kernel
theorem dX2_urgencyOf_53 : decode cX2_urgencyOf 53 = .ok (.ifCond .eq 12, 3) := by decide +kernel
theorem dX2_urgencyOf_56 : decode cX2_urgencyOf 56 = .ok (.ldc2_w 254, 3) := by decide +kernel
theorem dX2_urgencyOf_59 : decode cX2_urgencyOf 59 = .ok (.iload_n 2, 1) := by decide +kernel
theorem dX2_urgencyOf_60 : decode cX2_urgencyOf 60 = .ok (.i2l, 1) := by decide +kernel
theorem dX2_urgencyOf_61 : decode cX2_urgencyOf 61 = .ok (.ladd, 1) := by decide +kernel
theorem dX2_urgencyOf_62 : decode cX2_urgencyOf 62 = .ok (.goto 5, 3) := by decide +kernel
theorem dX2_urgencyOf_65 : decode cX2_urgencyOf 65 = .ok (.iload_n 2, 1) := by decide +kernel
theorem dX2_urgencyOf_66 : decode cX2_urgencyOf 66 = .ok (.i2l, 1) := by decide +kernel
theorem dX2_urgencyOf_67 : decode cX2_urgencyOf 67 = .ok (.lreturn, 1) := by decide +kernel
theorem dX2_howManyDue_0 : decode cX2_howManyDue 0 = .ok (.iconst 0, 1) := by decide +kernel
theorem dX2_howManyDue_1 : decode cX2_howManyDue 1 = .ok (.istore_n 1, 1) := by decide +kernel
theorem dX2_howManyDue_2 : decode cX2_howManyDue 2 = .ok (.iconst 0, 1) := by decide +kernel
theorem dX2_howManyDue_3 : decode cX2_howManyDue 3 = .ok (.istore_n 2, 1) := by decide +kernel
theorem dX2_howManyDue_4 : decode cX2_howManyDue 4 = .ok (.iload_n 2, 1) := by decide +kernel
theorem dX2_howManyDue_5 : decode cX2_howManyDue 5 = .ok (.aload_n 0, 1) := by decide +kernel
theorem dX2_howManyDue_6 : decode cX2_howManyDue 6 = .ok (.getfield 56, 3) := by decide +kernel
theorem dX2_howManyDue_9 : decode cX2_howManyDue 9 = .ok (.if_icmp .ge 33, 3) := by decide +kernel
theorem dX2_howManyDue_12 : decode cX2_howManyDue 12 = .ok (.aload_n 0, 1) := by decide +kernel
theorem dX2_howManyDue_13 : decode cX2_howManyDue 13 = .ok (.iload_n 2, 1) := by decide +kernel
theorem dX2_howManyDue_14 : decode cX2_howManyDue 14 = .ok (.invokevirtual 62, 3) := by decide +kernel
theorem dX2_howManyDue_17 : decode cX2_howManyDue 17 = .ok (.astore_n 3, 1) := by decide +kernel
theorem dX2_howManyDue_18 : decode cX2_howManyDue 18 = .ok (.aload_n 3, 1) := by decide +kernel
theorem dX2_howManyDue_19 : decode cX2_howManyDue 19 = .ok (.ifnull 17, 3) := by decide +kernel
theorem dX2_howManyDue_22 : decode cX2_howManyDue 22 = .ok (.aload_n 3, 1) := by decide +kernel
theorem dX2_howManyDue_23 : decode cX2_howManyDue 23 = .ok (.aload_n 0, 1) := by decide +kernel
theorem dX2_howManyDue_24 : decode cX2_howManyDue 24 = .ok (.getfield 48, 3) := by decide +kernel
theorem dX2_howManyDue_27 : decode cX2_howManyDue 27 = .ok (.invokevirtual 176, 3) := by decide +kernel
theorem dX2_howManyDue_30 : decode cX2_howManyDue 30 = .ok (.ifCond .eq 6, 3) := by decide +kernel
theorem dX2_howManyDue_33 : decode cX2_howManyDue 33 = .ok (.iinc 1 1, 3) := by decide +kernel
theorem dX2_howManyDue_36 : decode cX2_howManyDue 36 = .ok (.iinc 2 1, 3) := by decide +kernel
theorem dX2_howManyDue_39 : decode cX2_howManyDue 39 = .ok (.goto (-35), 3) := by decide +kernel
theorem dX2_howManyDue_42 : decode cX2_howManyDue 42 = .ok (.iload_n 1, 1) := by decide +kernel
theorem dX2_howManyDue_43 : decode cX2_howManyDue 43 = .ok (.ireturn, 1) := by decide +kernel
theorem dX2_howManyJudged_0 : decode cX2_howManyJudged 0 = .ok (.iconst 0, 1) := by decide +kernel
theorem dX2_howManyJudged_1 : decode cX2_howManyJudged 1 = .ok (.istore_n 2, 1) := by decide +kernel
theorem dX2_howManyJudged_2 : decode cX2_howManyJudged 2 = .ok (.iconst 0, 1) := by decide +kernel
theorem dX2_howManyJudged_3 : decode cX2_howManyJudged 3 = .ok (.istore_n 3, 1) := by decide +kernel
theorem dX2_howManyJudged_4 : decode cX2_howManyJudged 4 = .ok (.iload_n 3, 1) := by decide +kernel
theorem dX2_howManyJudged_5 : decode cX2_howManyJudged 5 = .ok (.aload_n 0, 1) := by decide +kernel
theorem dX2_howManyJudged_6 : decode cX2_howManyJudged 6 = .ok (.getfield 56, 3) := by decide +kernel
theorem dX2_howManyJudged_9 : decode cX2_howManyJudged 9 = .ok (.if_icmp .ge 42, 3) := by decide +kernel
theorem dX2_howManyJudged_12 : decode cX2_howManyJudged 12 = .ok (.aload_n 0, 1) := by decide +kernel
theorem dX2_howManyJudged_13 : decode cX2_howManyJudged 13 = .ok (.iload_n 3, 1) := by decide +kernel
theorem dX2_howManyJudged_14 : decode cX2_howManyJudged 14 = .ok (.invokevirtual 62, 3) := by decide +kernel
theorem dX2_howManyJudged_17 : decode cX2_howManyJudged 17 = .ok (.astore 4, 2) := by decide +kernel
theorem dX2_howManyJudged_19 : decode cX2_howManyJudged 19 = .ok (.aload 4, 2) := by decide +kernel
theorem dX2_howManyJudged_21 : decode cX2_howManyJudged 21 = .ok (.ifnull 24, 3) := by decide +kernel
theorem dX2_howManyJudged_24 : decode cX2_howManyJudged 24 = .ok (.aload 4, 2) := by decide +kernel
theorem dX2_howManyJudged_26 : decode cX2_howManyJudged 26 = .ok (.invokevirtual 105, 3) := by decide +kernel
theorem dX2_howManyJudged_29 : decode cX2_howManyJudged 29 = .ok (.ifCond .eq 16, 3) := by decide +kernel
theorem dX2_howManyJudged_32 : decode cX2_howManyJudged 32 = .ok (.aload_n 0, 1) := by decide +kernel
