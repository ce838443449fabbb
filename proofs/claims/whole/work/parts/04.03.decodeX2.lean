theorem dX2_init_0 : decode cX2_init 0 = .ok (.aload_n 0, 1) := by decide +kernel
theorem dX2_init_1 : decode cX2_init 1 = .ok (.invokespecial 1, 3) := by decide +kernel
theorem dX2_init_4 : decode cX2_init 4 = .ok (.aload_n 0, 1) := by decide +kernel
theorem dX2_init_5 : decode cX2_init 5 = .ok (.bipush 40, 2) := by decide +kernel
theorem dX2_init_7 : decode cX2_init 7 = .ok (.anewarray 9, 3) := by decide +kernel
theorem dX2_init_10 : decode cX2_init 10 = .ok (.putfield 11, 3) := by decide +kernel
theorem dX2_init_13 : decode cX2_init 13 = .ok (.aload_n 0, 1) := by decide +kernel
theorem dX2_init_14 : decode cX2_init 14 = .ok (.sipush 300, 3) := by decide +kernel
theorem dX2_init_17 : decode cX2_init 17 = .ok (.anewarray 15, 3) := by decide +kernel
theorem dX2_init_20 : decode cX2_init 20 = .ok (.putfield 17, 3) := by decide +kernel
theorem dX2_init_23 : decode cX2_init 23 = .ok (.aload_n 0, 1) := by decide +kernel
theorem dX2_init_24 : decode cX2_init 24 = .ok (.iconst 4, 1) := by decide +kernel
theorem dX2_init_25 : decode cX2_init 25 = .ok (.newarray .int, 2) := by decide +kernel
theorem dX2_init_27 : decode cX2_init 27 = .ok (.putfield 21, 3) := by decide +kernel
theorem dX2_init_30 : decode cX2_init 30 = .ok (.aload_n 0, 1) := by decide +kernel
theorem dX2_init_31 : decode cX2_init 31 = .ok (.iconst 4, 1) := by decide +kernel
theorem dX2_init_32 : decode cX2_init 32 = .ok (.newarray .int, 2) := by decide +kernel
theorem dX2_init_34 : decode cX2_init 34 = .ok (.putfield 25, 3) := by decide +kernel
theorem dX2_init_37 : decode cX2_init 37 = .ok (.aload_n 0, 1) := by decide +kernel
theorem dX2_init_38 : decode cX2_init 38 = .ok (.bipush 10, 2) := by decide +kernel
theorem dX2_init_40 : decode cX2_init 40 = .ok (.newarray .int, 2) := by decide +kernel
theorem dX2_init_42 : decode cX2_init 42 = .ok (.putfield 28, 3) := by decide +kernel
theorem dX2_init_45 : decode cX2_init 45 = .ok (.aload_n 0, 1) := by decide +kernel
theorem dX2_init_46 : decode cX2_init 46 = .ok (.bipush 10, 2) := by decide +kernel
theorem dX2_init_48 : decode cX2_init 48 = .ok (.newarray .long, 2) := by decide +kernel
theorem dX2_init_50 : decode cX2_init 50 = .ok (.putfield 31, 3) := by decide +kernel
theorem dX2_init_53 : decode cX2_init 53 = .ok (.aload_n 0, 1) := by decide +kernel
theorem dX2_init_54 : decode cX2_init 54 = .ok (.sipush 313, 3) := by decide +kernel
theorem dX2_init_57 : decode cX2_init 57 = .ok (.newarray .int, 2) := by decide +kernel
theorem dX2_init_59 : decode cX2_init 59 = .ok (.putfield 35, 3) := by decide +kernel
theorem dX2_init_62 : decode cX2_init 62 = .ok (.aload_n 0, 1) := by decide +kernel
theorem dX2_init_63 : decode cX2_init 63 = .ok (.bipush 40, 2) := by decide +kernel
theorem dX2_init_65 : decode cX2_init 65 = .ok (.newarray .int, 2) := by decide +kernel
theorem dX2_init_67 : decode cX2_init 67 = .ok (.putfield 38, 3) := by decide +kernel
theorem dX2_init_70 : decode cX2_init 70 = .ok (.aload_n 0, 1) := by decide +kernel
theorem dX2_init_71 : decode cX2_init 71 = .ok (.bipush 40, 2) := by decide +kernel
theorem dX2_init_73 : decode cX2_init 73 = .ok (.newarray .long, 2) := by decide +kernel
theorem dX2_init_75 : decode cX2_init 75 = .ok (.putfield 41, 3) := by decide +kernel
theorem dX2_init_78 : decode cX2_init 78 = .ok (.iconst 1, 1) := by decide +kernel
theorem dX2_init_79 : decode cX2_init 79 = .ok (.istore_n 1, 1) := by decide +kernel
theorem dX2_init_80 : decode cX2_init 80 = .ok (.iload_n 1, 1) := by decide +kernel
theorem dX2_init_81 : decode cX2_init 81 = .ok (.iconst 3, 1) := by decide +kernel
theorem dX2_init_82 : decode cX2_init 82 = .ok (.if_icmp .gt 26, 3) := by decide +kernel
theorem dX2_init_85 : decode cX2_init 85 = .ok (.aload_n 0, 1) := by decide +kernel
theorem dX2_init_86 : decode cX2_init 86 = .ok (.getfield 21, 3) := by decide +kernel
theorem dX2_init_89 : decode cX2_init 89 = .ok (.iload_n 1, 1) := by decide +kernel
theorem dX2_init_90 : decode cX2_init 90 = .ok (.bipush 100, 2) := by decide +kernel
theorem dX2_init_92 : decode cX2_init 92 = .ok (.iastore, 1) := by decide +kernel
theorem dX2_init_93 : decode cX2_init 93 = .ok (.aload_n 0, 1) := by decide +kernel
theorem dX2_init_94 : decode cX2_init 94 = .ok (.getfield 25, 3) := by decide +kernel
theorem dX2_init_97 : decode cX2_init 97 = .ok (.iload_n 1, 1) := by decide +kernel
theorem dX2_init_98 : decode cX2_init 98 = .ok (.sipush 200, 3) := by decide +kernel
theorem dX2_init_101 : decode cX2_init 101 = .ok (.iastore, 1) := by decide +kernel
theorem dX2_init_102 : decode cX2_init 102 = .ok (.iinc 1 1, 3) := by decide +kernel
theorem dX2_init_105 : decode cX2_init 105 = .ok (.goto (-25), 3) := by decide +kernel
theorem dX2_init_108 : decode cX2_init 108 = .ok (.return_, 1) := by decide +kernel
theorem dX2_pass_0 : decode cX2_pass 0 = .ok (.iload_n 1, 1) := by decide +kernel
theorem dX2_pass_1 : decode cX2_pass 1 = .ok (.iconst 1, 1) := by decide +kernel
theorem dX2_pass_2 : decode cX2_pass 2 = .ok (.sipush 5000, 3) := by decide +kernel
theorem dX2_pass_5 : decode cX2_pass 5 = .ok (.invokestatic 44, 3) := by decide +kernel
theorem dX2_pass_8 : decode cX2_pass 8 = .ok (.ifCond .ne 6, 3) := by decide +kernel
theorem dX2_pass_11 : decode cX2_pass 11 = .ok (.bipush (-2), 2) := by decide +kernel
theorem dX2_pass_13 : decode cX2_pass 13 = .ok (.ireturn, 1) := by decide +kernel
theorem dX2_pass_14 : decode cX2_pass 14 = .ok (.aload_n 0, 1) := by decide +kernel
theorem dX2_pass_15 : decode cX2_pass 15 = .ok (.getfield 48, 3) := by decide +kernel
theorem dX2_pass_18 : decode cX2_pass 18 = .ok (.iload_n 1, 1) := by decide +kernel
theorem dX2_pass_19 : decode cX2_pass 19 = .ok (.iadd, 1) := by decide +kernel
theorem dX2_pass_20 : decode cX2_pass 20 = .ok (.sipush 20000, 3) := by decide +kernel
theorem dX2_pass_23 : decode cX2_pass 23 = .ok (.if_icmp .le 6, 3) := by decide +kernel
theorem dX2_pass_26 : decode cX2_pass 26 = .ok (.bipush (-4), 2) := by decide +kernel
theorem dX2_pass_28 : decode cX2_pass 28 = .ok (.ireturn, 1) := by decide +kernel
theorem dX2_pass_29 : decode cX2_pass 29 = .ok (.aload_n 0, 1) := by decide +kernel
theorem dX2_pass_30 : decode cX2_pass 30 = .ok (.dup, 1) := by decide +kernel
theorem dX2_pass_31 : decode cX2_pass 31 = .ok (.getfield 48, 3) := by decide +kernel
theorem dX2_pass_34 : decode cX2_pass 34 = .ok (.iload_n 1, 1) := by decide +kernel
theorem dX2_pass_35 : decode cX2_pass 35 = .ok (.iadd, 1) := by decide +kernel
theorem dX2_pass_36 : decode cX2_pass 36 = .ok (.putfield 48, 3) := by decide +kernel
theorem dX2_pass_39 : decode cX2_pass 39 = .ok (.aload_n 0, 1) := by decide +kernel
theorem dX2_pass_40 : decode cX2_pass 40 = .ok (.getfield 48, 3) := by decide +kernel
theorem dX2_pass_43 : decode cX2_pass 43 = .ok (.ireturn, 1) := by decide +kernel
theorem dX2_thing_0 : decode cX2_thing 0 = .ok (.iload_n 1, 1) := by decide +kernel
theorem dX2_thing_1 : decode cX2_thing 1 = .ok (.iconst 0, 1) := by decide +kernel
theorem dX2_thing_2 : decode cX2_thing 2 = .ok (.iconst 3, 1) := by decide +kernel
theorem dX2_thing_3 : decode cX2_thing 3 = .ok (.invokestatic 44, 3) := by decide +kernel
theorem dX2_thing_6 : decode cX2_thing 6 = .ok (.ifCond .ne 6, 3) := by decide +kernel
theorem dX2_thing_9 : decode cX2_thing 9 = .ok (.bipush (-2), 2) := by decide +kernel
theorem dX2_thing_11 : decode cX2_thing 11 = .ok (.ireturn, 1) := by decide +kernel
theorem dX2_thing_12 : decode cX2_thing 12 = .ok (.iload_n 2, 1) := by decide +kernel
theorem dX2_thing_13 : decode cX2_thing 13 = .ok (.iconst 0, 1) := by decide +kernel
theorem dX2_thing_14 : decode cX2_thing 14 = .ok (.bipush 100, 2) := by decide +kernel
theorem dX2_thing_16 : decode cX2_thing 16 = .ok (.invokestatic 44, 3) := by decide +kernel
theorem dX2_thing_19 : decode cX2_thing 19 = .ok (.ifCond .ne 6, 3) := by decide +kernel
theorem dX2_thing_22 : decode cX2_thing 22 = .ok (.bipush (-2), 2) := by decide +kernel
theorem dX2_thing_24 : decode cX2_thing 24 = .ok (.ireturn, 1) := by decide +kernel
theorem dX2_thing_25 : decode cX2_thing 25 = .ok (.iload_n 3, 1) := by decide +kernel
theorem dX2_thing_26 : decode cX2_thing 26 = .ok (.iconst 1, 1) := by decide +kernel
theorem dX2_thing_27 : decode cX2_thing 27 = .ok (.sipush 4000, 3) := by decide +kernel
theorem dX2_thing_30 : decode cX2_thing 30 = .ok (.invokestatic 44, 3) := by decide +kernel
theorem dX2_thing_33 : decode cX2_thing 33 = .ok (.ifCond .ne 6, 3) := by decide +kernel
theorem dX2_thing_36 : decode cX2_thing 36 = .ok (.bipush (-2), 2) := by decide +kernel
theorem dX2_thing_38 : decode cX2_thing 38 = .ok (.ireturn, 1) := by decide +kernel
theorem dX2_thing_39 : decode cX2_thing 39 = .ok (.iload 4, 2) := by decide +kernel
theorem dX2_thing_41 : decode cX2_thing 41 = .ok (.invokestatic 52, 3) := by decide +kernel
theorem dX2_thing_44 : decode cX2_thing 44 = .ok (.ifCond .ne 5, 3) := by decide +kernel
theorem dX2_thing_47 : decode cX2_thing 47 = .ok (.iconst (-1), 1) := by decide +kernel
theorem dX2_thing_48 : decode cX2_thing 48 = .ok (.ireturn, 1) := by decide +kernel
theorem dX2_thing_49 : decode cX2_thing 49 = .ok (.aload_n 0, 1) := by decide +kernel
theorem dX2_thing_50 : decode cX2_thing 50 = .ok (.getfield 56, 3) := by decide +kernel
theorem dX2_thing_53 : decode cX2_thing 53 = .ok (.bipush 40, 2) := by decide +kernel
theorem dX2_thing_55 : decode cX2_thing 55 = .ok (.if_icmp .lt 6, 3) := by decide +kernel
theorem dX2_thing_58 : decode cX2_thing 58 = .ok (.bipush (-4), 2) := by decide +kernel
theorem dX2_thing_60 : decode cX2_thing 60 = .ok (.ireturn, 1) := by decide +kernel
theorem dX2_thing_61 : decode cX2_thing 61 = .ok (.aload_n 0, 1) := by decide +kernel
theorem dX2_thing_62 : decode cX2_thing 62 = .ok (.getfield 56, 3) := by decide +kernel
theorem dX2_thing_65 : decode cX2_thing 65 = .ok (.istore 5, 2) := by decide +kernel
theorem dX2_thing_67 : decode cX2_thing 67 = .ok (.aload_n 0, 1) := by decide +kernel
theorem dX2_thing_68 : decode cX2_thing 68 = .ok (.getfield 11, 3) := by decide +kernel
theorem dX2_thing_71 : decode cX2_thing 71 = .ok (.iload 5, 2) := by decide +kernel
theorem dX2_thing_73 : decode cX2_thing 73 = .ok (.new 9, 3) := by decide +kernel
theorem dX2_thing_76 : decode cX2_thing 76 = .ok (.dup, 1) := by decide +kernel
theorem dX2_thing_77 : decode cX2_thing 77 = .ok (.iload_n 1, 1) := by decide +kernel
theorem dX2_thing_78 : decode cX2_thing 78 = .ok (.iload_n 2, 1) := by decide +kernel
theorem dX2_thing_79 : decode cX2_thing 79 = .ok (.iload_n 3, 1) := by decide +kernel
theorem dX2_thing_80 : decode cX2_thing 80 = .ok (.iload 4, 2) := by decide +kernel
theorem dX2_thing_82 : decode cX2_thing 82 = .ok (.invokespecial 59, 3) := by decide +kernel
theorem dX2_thing_85 : decode cX2_thing 85 = .ok (.aastore, 1) := by decide +kernel
theorem dX2_thing_86 : decode cX2_thing 86 = .ok (.aload_n 0, 1) := by decide +kernel
theorem dX2_thing_87 : decode cX2_thing 87 = .ok (.dup, 1) := by decide +kernel
theorem dX2_thing_88 : decode cX2_thing 88 = .ok (.getfield 56, 3) := by decide +kernel
theorem dX2_thing_91 : decode cX2_thing 91 = .ok (.iconst 1, 1) := by decide +kernel
theorem dX2_thing_92 : decode cX2_thing 92 = .ok (.iadd, 1) := by decide +kernel
theorem dX2_thing_93 : decode cX2_thing 93 = .ok (.putfield 56, 3) := by decide +kernel
theorem dX2_thing_96 : decode cX2_thing 96 = .ok (.iload 5, 2) := by decide +kernel
theorem dX2_thing_98 : decode cX2_thing 98 = .ok (.ireturn, 1) := by decide +kernel
theorem dX2_about_0 : decode cX2_about 0 = .ok (.aload_n 0, 1) := by decide +kernel
theorem dX2_about_1 : decode cX2_about 1 = .ok (.iload_n 1, 1) := by decide +kernel
theorem dX2_about_2 : decode cX2_about 2 = .ok (.invokevirtual 62, 3) := by decide +kernel
theorem dX2_about_5 : decode cX2_about 5 = .ok (.astore_n 3, 1) := by decide +kernel
theorem dX2_about_6 : decode cX2_about 6 = .ok (.aload_n 3, 1) := by decide +kernel
theorem dX2_about_7 : decode cX2_about 7 = .ok (.ifnonnull 5, 3) := by decide +kernel
theorem dX2_about_10 : decode cX2_about 10 = .ok (.iconst (-1), 1) := by decide +kernel
theorem dX2_about_11 : decode cX2_about 11 = .ok (.ireturn, 1) := by decide +kernel
theorem dX2_about_12 : decode cX2_about 12 = .ok (.iload_n 2, 1) := by decide +kernel
theorem dX2_about_13 : decode cX2_about 13 = .ok (.tableswitch 90 0 7 #[47, 52, 57, 62, 67, 72, 80, 85], 47) := by decide +kernel
theorem dX2_about_60 : decode cX2_about 60 = .ok (.aload_n 3, 1) := by decide +kernel
theorem dX2_about_61 : decode cX2_about 61 = .ok (.getfield 66, 3) := by decide +kernel
theorem dX2_about_64 : decode cX2_about 64 = .ok (.ireturn, 1) := by decide +kernel
theorem dX2_about_65 : decode cX2_about 65 = .ok (.aload_n 3, 1) := by decide +kernel
theorem dX2_about_66 : decode cX2_about 66 = .ok (.getfield 69, 3) := by decide +kernel
theorem dX2_about_69 : decode cX2_about 69 = .ok (.ireturn, 1) := by decide +kernel
theorem dX2_about_70 : decode cX2_about 70 = .ok (.aload_n 3, 1) := by decide +kernel
theorem dX2_about_71 : decode cX2_about 71 = .ok (.getfield 72, 3) := by decide +kernel
theorem dX2_about_74 : decode cX2_about 74 = .ok (.ireturn, 1) := by decide +kernel
theorem dX2_about_75 : decode cX2_about 75 = .ok (.aload_n 3, 1) := by decide +kernel
theorem dX2_about_76 : decode cX2_about 76 = .ok (.getfield 75, 3) := by decide +kernel
theorem dX2_about_79 : decode cX2_about 79 = .ok (.ireturn, 1) := by decide +kernel
theorem dX2_about_80 : decode cX2_about 80 = .ok (.aload_n 3, 1) := by decide +kernel
theorem dX2_about_81 : decode cX2_about 81 = .ok (.getfield 78, 3) := by decide +kernel
theorem dX2_about_84 : decode cX2_about 84 = .ok (.ireturn, 1) := by decide +kernel
theorem dX2_about_85 : decode cX2_about 85 = .ok (.aload_n 3, 1) := by decide +kernel
theorem dX2_about_86 : decode cX2_about 86 = .ok (.getfield 81, 3) := by decide +kernel
theorem dX2_about_89 : decode cX2_about 89 = .ok (.invokestatic 85, 3) := by decide +kernel
theorem dX2_about_92 : decode cX2_about 92 = .ok (.ireturn, 1) := by decide +kernel
theorem dX2_about_93 : decode cX2_about 93 = .ok (.aload_n 3, 1) := by decide +kernel
theorem dX2_about_94 : decode cX2_about 94 = .ok (.getfield 89, 3) := by decide +kernel
theorem dX2_about_97 : decode cX2_about 97 = .ok (.ireturn, 1) := by decide +kernel
theorem dX2_about_98 : decode cX2_about 98 = .ok (.aload_n 3, 1) := by decide +kernel
theorem dX2_about_99 : decode cX2_about 99 = .ok (.getfield 92, 3) := by decide +kernel
theorem dX2_about_102 : decode cX2_about 102 = .ok (.ireturn, 1) := by decide +kernel
theorem dX2_about_103 : decode cX2_about 103 = .ok (.bipush (-2), 2) := by decide +kernel
theorem dX2_about_105 : decode cX2_about 105 = .ok (.ireturn, 1) := by decide +kernel
theorem dX2_draw_0 : decode cX2_draw 0 = .ok (.aload_n 0, 1) := by decide +kernel
theorem dX2_draw_1 : decode cX2_draw 1 = .ok (.iload_n 1, 1) := by decide +kernel
theorem dX2_draw_2 : decode cX2_draw 2 = .ok (.invokevirtual 62, 3) := by decide +kernel
theorem dX2_draw_5 : decode cX2_draw 5 = .ok (.astore_n 3, 1) := by decide +kernel
theorem dX2_draw_6 : decode cX2_draw 6 = .ok (.aload_n 3, 1) := by decide +kernel
theorem dX2_draw_7 : decode cX2_draw 7 = .ok (.ifnonnull 5, 3) := by decide +kernel
theorem dX2_draw_10 : decode cX2_draw 10 = .ok (.iconst (-1), 1) := by decide +kernel
theorem dX2_draw_11 : decode cX2_draw 11 = .ok (.ireturn, 1) := by decide +kernel
theorem dX2_draw_12 : decode cX2_draw 12 = .ok (.iload_n 2, 1) := by decide +kernel
theorem dX2_draw_13 : decode cX2_draw 13 = .ok (.ldc 95, 2) := by decide +kernel
theorem dX2_draw_15 : decode cX2_draw 15 = .ok (.ldc 96, 2) := by decide +kernel
theorem dX2_draw_17 : decode cX2_draw 17 = .ok (.invokestatic 44, 3) := by decide +kernel
theorem dX2_draw_20 : decode cX2_draw 20 = .ok (.ifCond .ne 6, 3) := by decide +kernel
theorem dX2_draw_23 : decode cX2_draw 23 = .ok (.bipush (-2), 2) := by decide +kernel
theorem dX2_draw_25 : decode cX2_draw 25 = .ok (.ireturn, 1) := by decide +kernel
theorem dX2_draw_26 : decode cX2_draw 26 = .ok (.aload_n 3, 1) := by decide +kernel
theorem dX2_draw_27 : decode cX2_draw 27 = .ok (.getfield 66, 3) := by decide +kernel
theorem dX2_draw_30 : decode cX2_draw 30 = .ok (.iconst 3, 1) := by decide +kernel
theorem dX2_draw_31 : decode cX2_draw 31 = .ok (.if_icmp .eq 6, 3) := by decide +kernel
theorem dX2_draw_34 : decode cX2_draw 34 = .ok (.bipush (-3), 2) := by decide +kernel
theorem dX2_draw_36 : decode cX2_draw 36 = .ok (.ireturn, 1) := by decide +kernel
theorem dX2_draw_37 : decode cX2_draw 37 = .ok (.aload_n 3, 1) := by decide +kernel
theorem dX2_draw_38 : decode cX2_draw 38 = .ok (.invokevirtual 97, 3) := by decide +kernel
theorem dX2_draw_41 : decode cX2_draw 41 = .ok (.ifCond .eq 6, 3) := by decide +kernel
theorem dX2_draw_44 : decode cX2_draw 44 = .ok (.bipush (-4), 2) := by decide +kernel
theorem dX2_draw_46 : decode cX2_draw 46 = .ok (.ireturn, 1) := by decide +kernel
theorem dX2_draw_47 : decode cX2_draw 47 = .ok (.aload_n 3, 1) := by decide +kernel
theorem dX2_draw_48 : decode cX2_draw 48 = .ok (.iload_n 2, 1) := by decide +kernel
theorem dX2_draw_49 : decode cX2_draw 49 = .ok (.invokevirtual 101, 3) := by decide +kernel
theorem dX2_draw_52 : decode cX2_draw 52 = .ok (.ireturn, 1) := by decide +kernel
theorem dX2_allow_0 : decode cX2_allow 0 = .ok (.iload_n 1, 1) := by decide +kernel
theorem dX2_allow_1 : decode cX2_allow 1 = .ok (.iconst 1, 1) := by decide +kernel
theorem dX2_allow_2 : decode cX2_allow 2 = .ok (.iconst 3, 1) := by decide +kernel
theorem dX2_allow_3 : decode cX2_allow 3 = .ok (.invokestatic 44, 3) := by decide +kernel
theorem dX2_allow_6 : decode cX2_allow 6 = .ok (.ifCond .ne 6, 3) := by decide +kernel
theorem dX2_allow_9 : decode cX2_allow 9 = .ok (.bipush (-2), 2) := by decide +kernel
theorem dX2_allow_11 : decode cX2_allow 11 = .ok (.ireturn, 1) := by decide +kernel
theorem dX2_allow_12 : decode cX2_allow 12 = .ok (.iload_n 3, 1) := by decide +kernel
theorem dX2_allow_13 : decode cX2_allow 13 = .ok (.iconst 0, 1) := by decide +kernel
theorem dX2_allow_14 : decode cX2_allow 14 = .ok (.ldc 96, 2) := by decide +kernel
theorem dX2_allow_16 : decode cX2_allow 16 = .ok (.invokestatic 44, 3) := by decide +kernel
theorem dX2_allow_19 : decode cX2_allow 19 = .ok (.ifCond .ne 6, 3) := by decide +kernel
theorem dX2_allow_22 : decode cX2_allow 22 = .ok (.bipush (-2), 2) := by decide +kernel
theorem dX2_allow_24 : decode cX2_allow 24 = .ok (.ireturn, 1) := by decide +kernel
theorem dX2_allow_25 : decode cX2_allow 25 = .ok (.iload_n 2, 1) := by decide +kernel
theorem dX2_allow_26 : decode cX2_allow 26 = .ok (.ifCond .eq 10, 3) := by decide +kernel
theorem dX2_allow_29 : decode cX2_allow 29 = .ok (.aload_n 0, 1) := by decide +kernel
theorem dX2_allow_30 : decode cX2_allow 30 = .ok (.getfield 21, 3) := by decide +kernel
theorem dX2_allow_33 : decode cX2_allow 33 = .ok (.goto 7, 3) := by decide +kernel
theorem dX2_allow_36 : decode cX2_allow 36 = .ok (.aload_n 0, 1) := by decide +kernel
theorem dX2_allow_37 : decode cX2_allow 37 = .ok (.getfield 25, 3) := by decide +kernel
theorem dX2_allow_40 : decode cX2_allow 40 = .ok (.astore 4, 2) := by decide +kernel
theorem dX2_allow_42 : decode cX2_allow 42 = .ok (.aload 4, 2) := by decide +kernel
theorem dX2_allow_44 : decode cX2_allow 44 = .ok (.iload_n 1, 1) := by decide +kernel
theorem dX2_allow_45 : decode cX2_allow 45 = .ok (.iaload, 1) := by decide +kernel
theorem dX2_allow_46 : decode cX2_allow 46 = .ok (.istore 5, 2) := by decide +kernel
theorem dX2_allow_48 : decode cX2_allow 48 = .ok (.aload 4, 2) := by decide +kernel
theorem dX2_allow_50 : decode cX2_allow 50 = .ok (.iload_n 1, 1) := by decide +kernel
theorem dX2_allow_51 : decode cX2_allow 51 = .ok (.iload_n 3, 1) := by decide +kernel
theorem dX2_allow_52 : decode cX2_allow 52 = .ok (.iastore, 1) := by decide +kernel
theorem dX2_allow_53 : decode cX2_allow 53 = .ok (.iload 5, 2) := by decide +kernel
theorem dX2_allow_55 : decode cX2_allow 55 = .ok (.ireturn, 1) := by decide +kernel
theorem dX2_move_0 : decode cX2_move 0 = .ok (.aload_n 0, 1) := by decide +kernel
theorem dX2_move_1 : decode cX2_move 1 = .ok (.iload_n 1, 1) := by decide +kernel
theorem dX2_move_2 : decode cX2_move 2 = .ok (.invokevirtual 62, 3) := by decide +kernel
theorem dX2_move_5 : decode cX2_move 5 = .ok (.astore_n 3, 1) := by decide +kernel
theorem dX2_move_6 : decode cX2_move 6 = .ok (.aload_n 3, 1) := by decide +kernel
theorem dX2_move_7 : decode cX2_move 7 = .ok (.ifnull 10, 3) := by decide +kernel
theorem dX2_move_10 : decode cX2_move 10 = .ok (.iload_n 2, 1) := by decide +kernel
theorem dX2_move_11 : decode cX2_move 11 = .ok (.invokestatic 52, 3) := by decide +kernel
theorem dX2_move_14 : decode cX2_move 14 = .ok (.ifCond .ne 5, 3) := by decide +kernel
theorem dX2_move_17 : decode cX2_move 17 = .ok (.iconst (-1), 1) := by decide +kernel
theorem dX2_move_18 : decode cX2_move 18 = .ok (.ireturn, 1) := by decide +kernel
theorem dX2_move_19 : decode cX2_move 19 = .ok (.aload_n 3, 1) := by decide +kernel
theorem dX2_move_20 : decode cX2_move 20 = .ok (.invokevirtual 105, 3) := by decide +kernel
theorem dX2_move_23 : decode cX2_move 23 = .ok (.ifCond .ne 6, 3) := by decide +kernel
theorem dX2_move_26 : decode cX2_move 26 = .ok (.bipush (-3), 2) := by decide +kernel
theorem dX2_move_28 : decode cX2_move 28 = .ok (.ireturn, 1) := by decide +kernel
theorem dX2_move_29 : decode cX2_move 29 = .ok (.aload_n 3, 1) := by decide +kernel
theorem dX2_move_30 : decode cX2_move 30 = .ok (.getfield 75, 3) := by decide +kernel
theorem dX2_move_33 : decode cX2_move 33 = .ok (.istore 4, 2) := by decide +kernel
theorem dX2_move_35 : decode cX2_move 35 = .ok (.aload_n 3, 1) := by decide +kernel
theorem dX2_move_36 : decode cX2_move 36 = .ok (.iload_n 2, 1) := by decide +kernel
theorem dX2_move_37 : decode cX2_move 37 = .ok (.putfield 75, 3) := by decide +kernel
theorem dX2_move_40 : decode cX2_move 40 = .ok (.aload_n 3, 1) := by decide +kernel
theorem dX2_move_41 : decode cX2_move 41 = .ok (.ldc 108, 2) := by decide +kernel
theorem dX2_move_43 : decode cX2_move 43 = .ok (.putfield 89, 3) := by decide +kernel
theorem dX2_move_46 : decode cX2_move 46 = .ok (.iload 4, 2) := by decide +kernel
theorem dX2_move_48 : decode cX2_move 48 = .ok (.ireturn, 1) := by decide +kernel
theorem dX2_trial_0 : decode cX2_trial 0 = .ok (.aload_n 0, 1) := by decide +kernel
theorem dX2_trial_1 : decode cX2_trial 1 = .ok (.iload_n 1, 1) := by decide +kernel
theorem dX2_trial_2 : decode cX2_trial 2 = .ok (.invokevirtual 62, 3) := by decide +kernel
theorem dX2_trial_5 : decode cX2_trial 5 = .ok (.astore 5, 2) := by decide +kernel
theorem dX2_trial_7 : decode cX2_trial 7 = .ok (.aload_n 0, 1) := by decide +kernel
theorem dX2_trial_8 : decode cX2_trial 8 = .ok (.iload_n 2, 1) := by decide +kernel
theorem dX2_trial_9 : decode cX2_trial 9 = .ok (.invokevirtual 62, 3) := by decide +kernel
theorem dX2_trial_12 : decode cX2_trial 12 = .ok (.astore 6, 2) := by decide +kernel
theorem dX2_trial_14 : decode cX2_trial 14 = .ok (.aload 5, 2) := by decide +kernel
theorem dX2_trial_16 : decode cX2_trial 16 = .ok (.ifnull 8, 3) := by decide +kernel
theorem dX2_trial_19 : decode cX2_trial 19 = .ok (.aload 6, 2) := by decide +kernel
theorem dX2_trial_21 : decode cX2_trial 21 = .ok (.ifnonnull 5, 3) := by decide +kernel
theorem dX2_trial_24 : decode cX2_trial 24 = .ok (.iconst (-1), 1) := by decide +kernel
theorem dX2_trial_25 : decode cX2_trial 25 = .ok (.ireturn, 1) := by decide +kernel
theorem dX2_trial_26 : decode cX2_trial 26 = .ok (.aload 5, 2) := by decide +kernel
theorem dX2_trial_28 : decode cX2_trial 28 = .ok (.getfield 66, 3) := by decide +kernel
theorem dX2_trial_31 : decode cX2_trial 31 = .ok (.iconst 3, 1) := by decide +kernel
theorem dX2_trial_32 : decode cX2_trial 32 = .ok (.if_icmp .eq 17, 3) := by decide +kernel
theorem dX2_trial_35 : decode cX2_trial 35 = .ok (.iload_n 3, 1) := by decide +kernel
theorem dX2_trial_36 : decode cX2_trial 36 = .ok (.ldc 95, 2) := by decide +kernel
theorem dX2_trial_38 : decode cX2_trial 38 = .ok (.ldc 96, 2) := by decide +kernel
theorem dX2_trial_40 : decode cX2_trial 40 = .ok (.invokestatic 44, 3) := by decide +kernel
theorem dX2_trial_43 : decode cX2_trial 43 = .ok (.ifCond .ne 6, 3) := by decide +kernel
theorem dX2_trial_46 : decode cX2_trial 46 = .ok (.bipush (-2), 2) := by decide +kernel
theorem dX2_trial_48 : decode cX2_trial 48 = .ok (.ireturn, 1) := by decide +kernel
theorem dX2_trial_49 : decode cX2_trial 49 = .ok (.iload 4, 2) := by decide +kernel
theorem dX2_trial_51 : decode cX2_trial 51 = .ok (.iconst 0, 1) := by decide +kernel
theorem dX2_trial_52 : decode cX2_trial 52 = .ok (.ldc 96, 2) := by decide +kernel
theorem dX2_trial_54 : decode cX2_trial 54 = .ok (.invokestatic 44, 3) := by decide +kernel
theorem dX2_trial_57 : decode cX2_trial 57 = .ok (.ifCond .ne 6, 3) := by decide +kernel
theorem dX2_trial_60 : decode cX2_trial 60 = .ok (.bipush (-2), 2) := by decide +kernel
theorem dX2_trial_62 : decode cX2_trial 62 = .ok (.ireturn, 1) := by decide +kernel
theorem dX2_trial_63 : decode cX2_trial 63 = .ok (.aload 5, 2) := by decide +kernel
theorem dX2_trial_65 : decode cX2_trial 65 = .ok (.invokevirtual 109, 3) := by decide +kernel
theorem dX2_trial_68 : decode cX2_trial 68 = .ok (.ifCond .eq 20, 3) := by decide +kernel
theorem dX2_trial_71 : decode cX2_trial 71 = .ok (.iload_n 1, 1) := by decide +kernel
theorem dX2_trial_72 : decode cX2_trial 72 = .ok (.iload_n 2, 1) := by decide +kernel
theorem dX2_trial_73 : decode cX2_trial 73 = .ok (.if_icmp .eq 15, 3) := by decide +kernel
theorem dX2_trial_76 : decode cX2_trial 76 = .ok (.aload 6, 2) := by decide +kernel
theorem dX2_trial_78 : decode cX2_trial 78 = .ok (.aload_n 0, 1) := by decide +kernel
theorem dX2_trial_79 : decode cX2_trial 79 = .ok (.getfield 48, 3) := by decide +kernel
theorem dX2_trial_82 : decode cX2_trial 82 = .ok (.invokevirtual 112, 3) := by decide +kernel
theorem dX2_trial_85 : decode cX2_trial 85 = .ok (.ifCond .ne 6, 3) := by decide +kernel
theorem dX2_trial_88 : decode cX2_trial 88 = .ok (.bipush (-3), 2) := by decide +kernel
theorem dX2_trial_90 : decode cX2_trial 90 = .ok (.ireturn, 1) := by decide +kernel
theorem dX2_trial_91 : decode cX2_trial 91 = .ok (.aload_n 0, 1) := by decide +kernel
theorem dX2_trial_92 : decode cX2_trial 92 = .ok (.getfield 115, 3) := by decide +kernel
theorem dX2_trial_95 : decode cX2_trial 95 = .ok (.sipush 300, 3) := by decide +kernel
theorem dX2_trial_98 : decode cX2_trial 98 = .ok (.if_icmp .lt 6, 3) := by decide +kernel
theorem dX2_trial_101 : decode cX2_trial 101 = .ok (.bipush (-4), 2) := by decide +kernel
theorem dX2_trial_103 : decode cX2_trial 103 = .ok (.ireturn, 1) := by decide +kernel
theorem dX2_trial_104 : decode cX2_trial 104 = .ok (.iload_n 3, 1) := by decide +kernel
theorem dX2_trial_105 : decode cX2_trial 105 = .ok (.istore 7, 2) := by decide +kernel
theorem dX2_trial_107 : decode cX2_trial 107 = .ok (.aload 6, 2) := by decide +kernel
theorem dX2_trial_109 : decode cX2_trial 109 = .ok (.aload_n 0, 1) := by decide +kernel
theorem dX2_trial_110 : decode cX2_trial 110 = .ok (.getfield 48, 3) := by decide +kernel
theorem dX2_trial_113 : decode cX2_trial 113 = .ok (.invokevirtual 118, 3) := by decide +kernel
theorem dX2_trial_116 : decode cX2_trial 116 = .ok (.iload 4, 2) := by decide +kernel
theorem dX2_trial_118 : decode cX2_trial 118 = .ok (.iadd, 1) := by decide +kernel
theorem dX2_trial_119 : decode cX2_trial 119 = .ok (.istore 8, 2) := by decide +kernel
theorem dX2_trial_121 : decode cX2_trial 121 = .ok (.aload 5, 2) := by decide +kernel
theorem dX2_trial_123 : decode cX2_trial 123 = .ok (.getfield 66, 3) := by decide +kernel
theorem dX2_trial_126 : decode cX2_trial 126 = .ok (.iconst 3, 1) := by decide +kernel
theorem dX2_trial_127 : decode cX2_trial 127 = .ok (.if_icmp .ne 20, 3) := by decide +kernel
theorem dX2_trial_130 : decode cX2_trial 130 = .ok (.aload 5, 2) := by decide +kernel
theorem dX2_trial_132 : decode cX2_trial 132 = .ok (.invokevirtual 121, 3) := by decide +kernel
theorem dX2_trial_135 : decode cX2_trial 135 = .ok (.istore 7, 2) := by decide +kernel
theorem dX2_trial_137 : decode cX2_trial 137 = .ok (.iload 8, 2) := by decide +kernel
theorem dX2_trial_139 : decode cX2_trial 139 = .ok (.aload 5, 2) := by decide +kernel
theorem dX2_trial_141 : decode cX2_trial 141 = .ok (.invokevirtual 125, 3) := by decide +kernel
theorem dX2_trial_144 : decode cX2_trial 144 = .ok (.iadd, 1) := by decide +kernel
theorem dX2_trial_145 : decode cX2_trial 145 = .ok (.istore 8, 2) := by decide +kernel
theorem dX2_trial_147 : decode cX2_trial 147 = .ok (.aload 6, 2) := by decide +kernel
theorem dX2_trial_149 : decode cX2_trial 149 = .ok (.invokevirtual 128, 3) := by decide +kernel
theorem dX2_trial_152 : decode cX2_trial 152 = .ok (.iload 7, 2) := by decide +kernel
theorem dX2_trial_154 : decode cX2_trial 154 = .ok (.iadd, 1) := by decide +kernel
theorem dX2_trial_155 : decode cX2_trial 155 = .ok (.istore 9, 2) := by decide +kernel
theorem dX2_trial_157 : decode cX2_trial 157 = .ok (.new 15, 3) := by decide +kernel
theorem dX2_trial_160 : decode cX2_trial 160 = .ok (.dup, 1) := by decide +kernel
theorem dX2_trial_161 : decode cX2_trial 161 = .ok (.aload_n 0, 1) := by decide +kernel
theorem dX2_trial_162 : decode cX2_trial 162 = .ok (.getfield 115, 3) := by decide +kernel
theorem dX2_trial_165 : decode cX2_trial 165 = .ok (.iload_n 1, 1) := by decide +kernel
theorem dX2_trial_166 : decode cX2_trial 166 = .ok (.iload_n 2, 1) := by decide +kernel
theorem dX2_trial_167 : decode cX2_trial 167 = .ok (.aload 6, 2) := by decide +kernel
theorem dX2_trial_169 : decode cX2_trial 169 = .ok (.getfield 81, 3) := by decide +kernel
theorem dX2_trial_172 : decode cX2_trial 172 = .ok (.aload_n 0, 1) := by decide +kernel
theorem dX2_trial_173 : decode cX2_trial 173 = .ok (.getfield 48, 3) := by decide +kernel
theorem dX2_trial_176 : decode cX2_trial 176 = .ok (.iload 9, 2) := by decide +kernel
theorem dX2_trial_178 : decode cX2_trial 178 = .ok (.iload 8, 2) := by decide +kernel
theorem dX2_trial_180 : decode cX2_trial 180 = .ok (.invokespecial 131, 3) := by decide +kernel
theorem dX2_trial_183 : decode cX2_trial 183 = .ok (.astore 10, 2) := by decide +kernel
theorem dX2_trial_185 : decode cX2_trial 185 = .ok (.aload_n 0, 1) := by decide +kernel
theorem dX2_trial_186 : decode cX2_trial 186 = .ok (.getfield 17, 3) := by decide +kernel
theorem dX2_trial_189 : decode cX2_trial 189 = .ok (.aload_n 0, 1) := by decide +kernel
theorem dX2_trial_190 : decode cX2_trial 190 = .ok (.getfield 115, 3) := by decide +kernel
theorem dX2_trial_193 : decode cX2_trial 193 = .ok (.aload 10, 2) := by decide +kernel
theorem dX2_trial_195 : decode cX2_trial 195 = .ok (.aastore, 1) := by decide +kernel
theorem dX2_trial_196 : decode cX2_trial 196 = .ok (.aload_n 0, 1) := by decide +kernel
theorem dX2_trial_197 : decode cX2_trial 197 = .ok (.dup, 1) := by decide +kernel
theorem dX2_trial_198 : decode cX2_trial 198 = .ok (.getfield 115, 3) := by decide +kernel
theorem dX2_trial_201 : decode cX2_trial 201 = .ok (.iconst 1, 1) := by decide +kernel
theorem dX2_trial_202 : decode cX2_trial 202 = .ok (.iadd, 1) := by decide +kernel
theorem dX2_trial_203 : decode cX2_trial 203 = .ok (.putfield 115, 3) := by decide +kernel
theorem dX2_trial_206 : decode cX2_trial 206 = .ok (.aload_n 0, 1) := by decide +kernel
theorem dX2_trial_207 : decode cX2_trial 207 = .ok (.aload 5, 2) := by decide +kernel
theorem dX2_trial_209 : decode cX2_trial 209 = .ok (.aload 10, 2) := by decide +kernel
theorem dX2_trial_211 : decode cX2_trial 211 = .ok (.invokevirtual 134, 3) := by decide +kernel
theorem dX2_trial_214 : decode cX2_trial 214 = .ok (.aload 10, 2) := by decide +kernel
theorem dX2_trial_216 : decode cX2_trial 216 = .ok (.getfield 138, 3) := by decide +kernel
theorem dX2_trial_219 : decode cX2_trial 219 = .ok (.ireturn, 1) := by decide +kernel
theorem dX2_told_0 : decode cX2_told 0 = .ok (.aload_n 0, 1) := by decide +kernel
theorem dX2_told_1 : decode cX2_told 1 = .ok (.iload_n 1, 1) := by decide +kernel
theorem dX2_told_2 : decode cX2_told 2 = .ok (.invokevirtual 141, 3) := by decide +kernel
theorem dX2_told_5 : decode cX2_told 5 = .ok (.astore_n 3, 1) := by decide +kernel
theorem dX2_told_6 : decode cX2_told 6 = .ok (.aload_n 3, 1) := by decide +kernel
theorem dX2_told_7 : decode cX2_told 7 = .ok (.ifnonnull 5, 3) := by decide +kernel
theorem dX2_told_10 : decode cX2_told 10 = .ok (.iconst (-1), 1) := by decide +kernel
theorem dX2_told_11 : decode cX2_told 11 = .ok (.ireturn, 1) := by decide +kernel
theorem dX2_told_12 : decode cX2_told 12 = .ok (.iload_n 2, 1) := by decide +kernel
theorem dX2_told_13 : decode cX2_told 13 = .ok (.tableswitch 106 0 7 #[47, 52, 57, 62, 67, 72, 85, 98], 47) := by decide +kernel
theorem dX2_told_60 : decode cX2_told 60 = .ok (.aload_n 3, 1) := by decide +kernel
theorem dX2_told_61 : decode cX2_told 61 = .ok (.getfield 145, 3) := by decide +kernel
theorem dX2_told_64 : decode cX2_told 64 = .ok (.ireturn, 1) := by decide +kernel
theorem dX2_told_65 : decode cX2_told 65 = .ok (.aload_n 3, 1) := by decide +kernel
theorem dX2_told_66 : decode cX2_told 66 = .ok (.getfield 148, 3) := by decide +kernel
theorem dX2_told_69 : decode cX2_told 69 = .ok (.ireturn, 1) := by decide +kernel
theorem dX2_told_70 : decode cX2_told 70 = .ok (.aload_n 3, 1) := by decide +kernel
theorem dX2_told_71 : decode cX2_told 71 = .ok (.getfield 151, 3) := by decide +kernel
theorem dX2_told_74 : decode cX2_told 74 = .ok (.ireturn, 1) := by decide +kernel
theorem dX2_told_75 : decode cX2_told 75 = .ok (.aload_n 3, 1) := by decide +kernel
theorem dX2_told_76 : decode cX2_told 76 = .ok (.getfield 154, 3) := by decide +kernel
theorem dX2_told_79 : decode cX2_told 79 = .ok (.ireturn, 1) := by decide +kernel
theorem dX2_told_80 : decode cX2_told 80 = .ok (.aload_n 3, 1) := by decide +kernel
theorem dX2_told_81 : decode cX2_told 81 = .ok (.getfield 157, 3) := by decide +kernel
theorem dX2_told_84 : decode cX2_told 84 = .ok (.ireturn, 1) := by decide +kernel
theorem dX2_told_85 : decode cX2_told 85 = .ok (.aload_n 3, 1) := by decide +kernel
theorem dX2_told_86 : decode cX2_told 86 = .ok (.getfield 160, 3) := by decide +kernel
theorem dX2_told_89 : decode cX2_told 89 = .ok (.ifCond .eq 7, 3) := by decide +kernel
theorem dX2_told_92 : decode cX2_told 92 = .ok (.iconst 1, 1) := by decide +kernel
theorem dX2_told_93 : decode cX2_told 93 = .ok (.goto 4, 3) := by decide +kernel
theorem dX2_told_96 : decode cX2_told 96 = .ok (.iconst 0, 1) := by decide +kernel
theorem dX2_told_97 : decode cX2_told 97 = .ok (.ireturn, 1) := by decide +kernel
theorem dX2_told_98 : decode cX2_told 98 = .ok (.aload_n 3, 1) := by decide +kernel
theorem dX2_told_99 : decode cX2_told 99 = .ok (.getfield 164, 3) := by decide +kernel
theorem dX2_told_102 : decode cX2_told 102 = .ok (.ifCond .eq 7, 3) := by decide +kernel
theorem dX2_told_105 : decode cX2_told 105 = .ok (.iconst 1, 1) := by decide +kernel
theorem dX2_told_106 : decode cX2_told 106 = .ok (.goto 4, 3) := by decide +kernel
theorem dX2_told_109 : decode cX2_told 109 = .ok (.iconst 0, 1) := by decide +kernel
theorem dX2_told_110 : decode cX2_told 110 = .ok (.ireturn, 1) := by decide +kernel
theorem dX2_told_111 : decode cX2_told 111 = .ok (.aload_n 3, 1) := by decide +kernel
theorem dX2_told_112 : decode cX2_told 112 = .ok (.getfield 167, 3) := by decide +kernel
theorem dX2_told_115 : decode cX2_told 115 = .ok (.invokestatic 85, 3) := by decide +kernel
theorem dX2_told_118 : decode cX2_told 118 = .ok (.ireturn, 1) := by decide +kernel
theorem dX2_told_119 : decode cX2_told 119 = .ok (.bipush (-2), 2) := by decide +kernel
theorem dX2_told_121 : decode cX2_told 121 = .ok (.ireturn, 1) := by decide +kernel
theorem dX2_error_0 : decode cX2_error 0 = .ok (.aload_n 0, 1) := by decide +kernel
theorem dX2_error_1 : decode cX2_error 1 = .ok (.iload_n 1, 1) := by decide +kernel
theorem dX2_error_2 : decode cX2_error 2 = .ok (.invokevirtual 62, 3) := by decide +kernel
theorem dX2_error_5 : decode cX2_error 5 = .ok (.astore_n 2, 1) := by decide +kernel
theorem dX2_error_6 : decode cX2_error 6 = .ok (.aload_n 2, 1) := by decide +kernel
theorem dX2_error_7 : decode cX2_error 7 = .ok (.ifnonnull 5, 3) := by decide +kernel
theorem dX2_error_10 : decode cX2_error 10 = .ok (.iconst (-1), 1) := by decide +kernel
theorem dX2_error_11 : decode cX2_error 11 = .ok (.ireturn, 1) := by decide +kernel
theorem dX2_error_12 : decode cX2_error 12 = .ok (.aload_n 2, 1) := by decide +kernel
theorem dX2_error_13 : decode cX2_error 13 = .ok (.invokevirtual 170, 3) := by decide +kernel
theorem dX2_error_16 : decode cX2_error 16 = .ok (.ifCond .eq 10, 3) := by decide +kernel
theorem dX2_error_19 : decode cX2_error 19 = .ok (.aload_n 2, 1) := by decide +kernel
theorem dX2_error_20 : decode cX2_error 20 = .ok (.invokevirtual 128, 3) := by decide +kernel
theorem dX2_error_23 : decode cX2_error 23 = .ok (.goto 5, 3) := by decide +kernel
theorem dX2_error_26 : decode cX2_error 26 = .ok (.ldc 108, 2) := by decide +kernel
theorem dX2_error_28 : decode cX2_error 28 = .ok (.ireturn, 1) := by decide +kernel
theorem dX2_span_0 : decode cX2_span 0 = .ok (.aload_n 0, 1) := by decide +kernel
theorem dX2_span_1 : decode cX2_span 1 = .ok (.iload_n 1, 1) := by decide +kernel
theorem dX2_span_2 : decode cX2_span 2 = .ok (.invokevirtual 62, 3) := by decide +kernel
theorem dX2_span_5 : decode cX2_span 5 = .ok (.astore_n 2, 1) := by decide +kernel
theorem dX2_span_6 : decode cX2_span 6 = .ok (.aload_n 2, 1) := by decide +kernel
theorem dX2_span_7 : decode cX2_span 7 = .ok (.ifnonnull 5, 3) := by decide +kernel
theorem dX2_span_10 : decode cX2_span 10 = .ok (.iconst (-1), 1) := by decide +kernel
theorem dX2_span_11 : decode cX2_span 11 = .ok (.ireturn, 1) := by decide +kernel
theorem dX2_span_12 : decode cX2_span 12 = .ok (.aload_n 2, 1) := by decide +kernel
theorem dX2_span_13 : decode cX2_span 13 = .ok (.invokevirtual 170, 3) := by decide +kernel
theorem dX2_span_16 : decode cX2_span 16 = .ok (.ifCond .eq 14, 3) := by decide +kernel
theorem dX2_span_19 : decode cX2_span 19 = .ok (.aload_n 2, 1) := by decide +kernel
theorem dX2_span_20 : decode cX2_span 20 = .ok (.aload_n 0, 1) := by decide +kernel
theorem dX2_span_21 : decode cX2_span 21 = .ok (.getfield 48, 3) := by decide +kernel
theorem dX2_span_24 : decode cX2_span 24 = .ok (.invokevirtual 118, 3) := by decide +kernel
theorem dX2_span_27 : decode cX2_span 27 = .ok (.goto 5, 3) := by decide +kernel
theorem dX2_span_30 : decode cX2_span 30 = .ok (.ldc 108, 2) := by decide +kernel
theorem dX2_span_32 : decode cX2_span 32 = .ok (.ireturn, 1) := by decide +kernel
theorem dX2_settled_0 : decode cX2_settled 0 = .ok (.aload_n 0, 1) := by decide +kernel
theorem dX2_settled_1 : decode cX2_settled 1 = .ok (.iload_n 1, 1) := by decide +kernel
theorem dX2_settled_2 : decode cX2_settled 2 = .ok (.invokevirtual 62, 3) := by decide +kernel
theorem dX2_settled_5 : decode cX2_settled 5 = .ok (.astore_n 2, 1) := by decide +kernel
theorem dX2_settled_6 : decode cX2_settled 6 = .ok (.aload_n 2, 1) := by decide +kernel
theorem dX2_settled_7 : decode cX2_settled 7 = .ok (.ifnonnull 5, 3) := by decide +kernel
theorem dX2_settled_10 : decode cX2_settled 10 = .ok (.iconst (-1), 1) := by decide +kernel
theorem dX2_settled_11 : decode cX2_settled 11 = .ok (.ireturn, 1) := by decide +kernel
theorem dX2_settled_12 : decode cX2_settled 12 = .ok (.aload_n 2, 1) := by decide +kernel
theorem dX2_settled_13 : decode cX2_settled 13 = .ok (.invokevirtual 173, 3) := by decide +kernel
theorem dX2_settled_16 : decode cX2_settled 16 = .ok (.ifCond .eq 7, 3) := by decide +kernel
theorem dX2_settled_19 : decode cX2_settled 19 = .ok (.iconst 1, 1) := by decide +kernel
theorem dX2_settled_20 : decode cX2_settled 20 = .ok (.goto 4, 3) := by decide +kernel
theorem dX2_settled_23 : decode cX2_settled 23 = .ok (.iconst 0, 1) := by decide +kernel
theorem dX2_settled_24 : decode cX2_settled 24 = .ok (.ireturn, 1) := by decide +kernel
theorem dX2_due_0 : decode cX2_due 0 = .ok (.aload_n 0, 1) := by decide +kernel
theorem dX2_due_1 : decode cX2_due 1 = .ok (.iload_n 1, 1) := by decide +kernel
theorem dX2_due_2 : decode cX2_due 2 = .ok (.invokevirtual 62, 3) := by decide +kernel
theorem dX2_due_5 : decode cX2_due 5 = .ok (.astore_n 2, 1) := by decide +kernel
theorem dX2_due_6 : decode cX2_due 6 = .ok (.aload_n 2, 1) := by decide +kernel
theorem dX2_due_7 : decode cX2_due 7 = .ok (.ifnonnull 5, 3) := by decide +kernel
theorem dX2_due_10 : decode cX2_due 10 = .ok (.iconst (-1), 1) := by decide +kernel
theorem dX2_due_11 : decode cX2_due 11 = .ok (.ireturn, 1) := by decide +kernel
theorem dX2_due_12 : decode cX2_due 12 = .ok (.aload_n 2, 1) := by decide +kernel
theorem dX2_due_13 : decode cX2_due 13 = .ok (.aload_n 0, 1) := by decide +kernel
theorem dX2_due_14 : decode cX2_due 14 = .ok (.getfield 48, 3) := by decide +kernel
theorem dX2_due_17 : decode cX2_due 17 = .ok (.invokevirtual 176, 3) := by decide +kernel
theorem dX2_due_20 : decode cX2_due 20 = .ok (.ifCond .eq 7, 3) := by decide +kernel
theorem dX2_due_23 : decode cX2_due 23 = .ok (.iconst 1, 1) := by decide +kernel
theorem dX2_due_24 : decode cX2_due 24 = .ok (.goto 4, 3) := by decide +kernel
theorem dX2_due_27 : decode cX2_due 27 = .ok (.iconst 0, 1) := by decide +kernel
theorem dX2_due_28 : decode cX2_due 28 = .ok (.ireturn, 1) := by decide +kernel
theorem dX2_left_0 : decode cX2_left 0 = .ok (.aload_n 0, 1) := by decide +kernel
theorem dX2_left_1 : decode cX2_left 1 = .ok (.iload_n 1, 1) := by decide +kernel
theorem dX2_left_2 : decode cX2_left 2 = .ok (.invokevirtual 62, 3) := by decide +kernel
theorem dX2_left_5 : decode cX2_left 5 = .ok (.astore_n 2, 1) := by decide +kernel
theorem dX2_left_6 : decode cX2_left 6 = .ok (.aload_n 2, 1) := by decide +kernel
theorem dX2_left_7 : decode cX2_left 7 = .ok (.ifnonnull 5, 3) := by decide +kernel
theorem dX2_left_10 : decode cX2_left 10 = .ok (.iconst (-1), 1) := by decide +kernel
theorem dX2_left_11 : decode cX2_left 11 = .ok (.ireturn, 1) := by decide +kernel
theorem dX2_left_12 : decode cX2_left 12 = .ok (.aload_n 2, 1) := by decide +kernel
theorem dX2_left_13 : decode cX2_left 13 = .ok (.getfield 66, 3) := by decide +kernel
theorem dX2_left_16 : decode cX2_left 16 = .ok (.ifCond .ne 8, 3) := by decide +kernel
theorem dX2_left_19 : decode cX2_left 19 = .ok (.ldc 108, 2) := by decide +kernel
theorem dX2_left_21 : decode cX2_left 21 = .ok (.goto 11, 3) := by decide +kernel
theorem dX2_left_24 : decode cX2_left 24 = .ok (.aload_n 2, 1) := by decide +kernel
theorem dX2_left_25 : decode cX2_left 25 = .ok (.aload_n 0, 1) := by decide +kernel
theorem dX2_left_26 : decode cX2_left 26 = .ok (.getfield 48, 3) := by decide +kernel
theorem dX2_left_29 : decode cX2_left 29 = .ok (.invokevirtual 179, 3) := by decide +kernel
theorem dX2_left_32 : decode cX2_left 32 = .ok (.ireturn, 1) := by decide +kernel
theorem dX2_chain_0 : decode cX2_chain 0 = .ok (.aload_n 0, 1) := by decide +kernel
theorem dX2_chain_1 : decode cX2_chain 1 = .ok (.iload_n 1, 1) := by decide +kernel
theorem dX2_chain_2 : decode cX2_chain 2 = .ok (.invokevirtual 62, 3) := by decide +kernel
theorem dX2_chain_5 : decode cX2_chain 5 = .ok (.astore_n 3, 1) := by decide +kernel
theorem dX2_chain_6 : decode cX2_chain 6 = .ok (.aload_n 3, 1) := by decide +kernel
theorem dX2_chain_7 : decode cX2_chain 7 = .ok (.ifnonnull 5, 3) := by decide +kernel
theorem dX2_chain_10 : decode cX2_chain 10 = .ok (.iconst (-1), 1) := by decide +kernel
theorem dX2_chain_11 : decode cX2_chain 11 = .ok (.ireturn, 1) := by decide +kernel
theorem dX2_chain_12 : decode cX2_chain 12 = .ok (.iload_n 2, 1) := by decide +kernel
theorem dX2_chain_13 : decode cX2_chain 13 = .ok (.iconst 0, 1) := by decide +kernel
theorem dX2_chain_14 : decode cX2_chain 14 = .ok (.sipush 299, 3) := by decide +kernel
theorem dX2_chain_17 : decode cX2_chain 17 = .ok (.invokestatic 44, 3) := by decide +kernel
theorem dX2_chain_20 : decode cX2_chain 20 = .ok (.ifCond .ne 6, 3) := by decide +kernel
theorem dX2_chain_23 : decode cX2_chain 23 = .ok (.ldc 108, 2) := by decide +kernel
theorem dX2_chain_25 : decode cX2_chain 25 = .ok (.ireturn, 1) := by decide +kernel
theorem dX2_chain_26 : decode cX2_chain 26 = .ok (.aload_n 3, 1) := by decide +kernel
theorem dX2_chain_27 : decode cX2_chain 27 = .ok (.getfield 81, 3) := by decide +kernel
theorem dX2_chain_30 : decode cX2_chain 30 = .ok (.astore 4, 2) := by decide +kernel
theorem dX2_chain_32 : decode cX2_chain 32 = .ok (.iconst 0, 1) := by decide +kernel
theorem dX2_chain_33 : decode cX2_chain 33 = .ok (.istore 5, 2) := by decide +kernel
theorem dX2_chain_35 : decode cX2_chain 35 = .ok (.iload 5, 2) := by decide +kernel
theorem dX2_chain_37 : decode cX2_chain 37 = .ok (.iload_n 2, 1) := by decide +kernel
theorem dX2_chain_38 : decode cX2_chain 38 = .ok (.if_icmp .ge 21, 3) := by decide +kernel
theorem dX2_chain_41 : decode cX2_chain 41 = .ok (.aload 4, 2) := by decide +kernel
theorem dX2_chain_43 : decode cX2_chain 43 = .ok (.ifnull 16, 3) := by decide +kernel
theorem dX2_chain_46 : decode cX2_chain 46 = .ok (.aload 4, 2) := by decide +kernel
theorem dX2_chain_48 : decode cX2_chain 48 = .ok (.getfield 167, 3) := by decide +kernel
theorem dX2_chain_51 : decode cX2_chain 51 = .ok (.astore 4, 2) := by decide +kernel
theorem dX2_chain_53 : decode cX2_chain 53 = .ok (.iinc 5 1, 3) := by decide +kernel
theorem dX2_chain_56 : decode cX2_chain 56 = .ok (.goto (-21), 3) := by decide +kernel
theorem dX2_chain_59 : decode cX2_chain 59 = .ok (.aload 4, 2) := by decide +kernel
theorem dX2_chain_61 : decode cX2_chain 61 = .ok (.invokestatic 85, 3) := by decide +kernel
theorem dX2_chain_64 : decode cX2_chain 64 = .ok (.ireturn, 1) := by decide +kernel
theorem dX2_unsettled_0 : decode cX2_unsettled 0 = .ok (.iconst 0, 1) := by decide +kernel
theorem dX2_unsettled_1 : decode cX2_unsettled 1 = .ok (.istore_n 1, 1) := by decide +kernel
theorem dX2_unsettled_2 : decode cX2_unsettled 2 = .ok (.iconst 0, 1) := by decide +kernel
theorem dX2_unsettled_3 : decode cX2_unsettled 3 = .ok (.istore_n 2, 1) := by decide +kernel
theorem dX2_unsettled_4 : decode cX2_unsettled 4 = .ok (.iload_n 2, 1) := by decide +kernel
theorem dX2_unsettled_5 : decode cX2_unsettled 5 = .ok (.aload_n 0, 1) := by decide +kernel
theorem dX2_unsettled_6 : decode cX2_unsettled 6 = .ok (.getfield 115, 3) := by decide +kernel
theorem dX2_unsettled_9 : decode cX2_unsettled 9 = .ok (.if_icmp .ge 29, 3) := by decide +kernel
theorem dX2_unsettled_12 : decode cX2_unsettled 12 = .ok (.aload_n 0, 1) := by decide +kernel
theorem dX2_unsettled_13 : decode cX2_unsettled 13 = .ok (.iload_n 2, 1) := by decide +kernel
theorem dX2_unsettled_14 : decode cX2_unsettled 14 = .ok (.invokevirtual 141, 3) := by decide +kernel
theorem dX2_unsettled_17 : decode cX2_unsettled 17 = .ok (.astore_n 3, 1) := by decide +kernel
theorem dX2_unsettled_18 : decode cX2_unsettled 18 = .ok (.aload_n 3, 1) := by decide +kernel
theorem dX2_unsettled_19 : decode cX2_unsettled 19 = .ok (.ifnull 13, 3) := by decide +kernel
theorem dX2_unsettled_22 : decode cX2_unsettled 22 = .ok (.aload_n 3, 1) := by decide +kernel
theorem dX2_unsettled_23 : decode cX2_unsettled 23 = .ok (.getfield 160, 3) := by decide +kernel
theorem dX2_unsettled_26 : decode cX2_unsettled 26 = .ok (.ifCond .ne 6, 3) := by decide +kernel
theorem dX2_unsettled_29 : decode cX2_unsettled 29 = .ok (.iinc 1 1, 3) := by decide +kernel
theorem dX2_unsettled_32 : decode cX2_unsettled 32 = .ok (.iinc 2 1, 3) := by decide +kernel
theorem dX2_unsettled_35 : decode cX2_unsettled 35 = .ok (.goto (-31), 3) := by decide +kernel
theorem dX2_unsettled_38 : decode cX2_unsettled 38 = .ok (.iload_n 1, 1) := by decide +kernel
theorem dX2_unsettled_39 : decode cX2_unsettled 39 = .ok (.ireturn, 1) := by decide +kernel
theorem dX2_judge_0 : decode cX2_judge 0 = .ok (.aload_n 0, 1) := by decide +kernel
theorem dX2_judge_1 : decode cX2_judge 1 = .ok (.iload_n 1, 1) := by decide +kernel
theorem dX2_judge_2 : decode cX2_judge 2 = .ok (.invokevirtual 62, 3) := by decide +kernel
theorem dX2_judge_5 : decode cX2_judge 5 = .ok (.astore_n 2, 1) := by decide +kernel
theorem dX2_judge_6 : decode cX2_judge 6 = .ok (.aload_n 2, 1) := by decide +kernel
theorem dX2_judge_7 : decode cX2_judge 7 = .ok (.ifnonnull 7, 3) := by decide +kernel
theorem dX2_judge_10 : decode cX2_judge 10 = .ok (.iconst (-1), 1) := by decide +kernel
theorem dX2_judge_11 : decode cX2_judge 11 = .ok (.goto 8, 3) := by decide +kernel
theorem dX2_judge_14 : decode cX2_judge 14 = .ok (.aload_n 0, 1) := by decide +kernel
theorem dX2_judge_15 : decode cX2_judge 15 = .ok (.aload_n 2, 1) := by decide +kernel
theorem dX2_judge_16 : decode cX2_judge 16 = .ok (.invokevirtual 182, 3) := by decide +kernel
theorem dX2_judge_19 : decode cX2_judge 19 = .ok (.ireturn, 1) := by decide +kernel
theorem dX2_stays_0 : decode cX2_stays 0 = .ok (.aload_n 0, 1) := by decide +kernel
theorem dX2_stays_1 : decode cX2_stays 1 = .ok (.iload_n 1, 1) := by decide +kernel
theorem dX2_stays_2 : decode cX2_stays 2 = .ok (.invokevirtual 62, 3) := by decide +kernel
theorem dX2_stays_5 : decode cX2_stays 5 = .ok (.astore_n 2, 1) := by decide +kernel
theorem dX2_stays_6 : decode cX2_stays 6 = .ok (.aload_n 2, 1) := by decide +kernel
theorem dX2_stays_7 : decode cX2_stays 7 = .ok (.ifnonnull 5, 3) := by decide +kernel
theorem dX2_stays_10 : decode cX2_stays 10 = .ok (.iconst (-1), 1) := by decide +kernel
theorem dX2_stays_11 : decode cX2_stays 11 = .ok (.ireturn, 1) := by decide +kernel
theorem dX2_stays_12 : decode cX2_stays 12 = .ok (.aload_n 0, 1) := by decide +kernel
theorem dX2_stays_13 : decode cX2_stays 13 = .ok (.aload_n 2, 1) := by decide +kernel
theorem dX2_stays_14 : decode cX2_stays 14 = .ok (.invokevirtual 182, 3) := by decide +kernel
theorem dX2_stays_17 : decode cX2_stays 17 = .ok (.istore_n 3, 1) := by decide +kernel
theorem dX2_stays_18 : decode cX2_stays 18 = .ok (.aload_n 2, 1) := by decide +kernel
theorem dX2_stays_19 : decode cX2_stays 19 = .ok (.invokevirtual 186, 3) := by decide +kernel
theorem dX2_stays_22 : decode cX2_stays 22 = .ok (.istore 4, 2) := by decide +kernel
theorem dX2_stays_24 : decode cX2_stays 24 = .ok (.aload_n 0, 1) := by decide +kernel
theorem dX2_stays_25 : decode cX2_stays 25 = .ok (.aload_n 2, 1) := by decide +kernel
theorem dX2_stays_26 : decode cX2_stays 26 = .ok (.invokevirtual 189, 3) := by decide +kernel
theorem dX2_stays_29 : decode cX2_stays 29 = .ok (.istore 5, 2) := by decide +kernel
theorem dX2_stays_31 : decode cX2_stays 31 = .ok (.iload_n 3, 1) := by decide +kernel
theorem dX2_stays_32 : decode cX2_stays 32 = .ok (.iconst 1, 1) := by decide +kernel
theorem dX2_stays_33 : decode cX2_stays 33 = .ok (.if_icmp .ne 17, 3) := by decide +kernel
theorem dX2_stays_36 : decode cX2_stays 36 = .ok (.aload_n 2, 1) := by decide +kernel
theorem dX2_stays_37 : decode cX2_stays 37 = .ok (.iload 5, 2) := by decide +kernel
theorem dX2_stays_39 : decode cX2_stays 39 = .ok (.iload 4, 2) := by decide +kernel
theorem dX2_stays_41 : decode cX2_stays 41 = .ok (.isub, 1) := by decide +kernel
theorem dX2_stays_42 : decode cX2_stays 42 = .ok (.aload_n 0, 1) := by decide +kernel
theorem dX2_stays_43 : decode cX2_stays 43 = .ok (.getfield 48, 3) := by decide +kernel
theorem dX2_stays_46 : decode cX2_stays 46 = .ok (.invokevirtual 192, 3) := by decide +kernel
theorem dX2_stays_49 : decode cX2_stays 49 = .ok (.ireturn, 1) := by decide +kernel
theorem dX2_stays_50 : decode cX2_stays 50 = .ok (.iload_n 3, 1) := by decide +kernel
theorem dX2_stays_51 : decode cX2_stays 51 = .ok (.iconst 3, 1) := by decide +kernel
theorem dX2_stays_52 : decode cX2_stays 52 = .ok (.if_icmp .ne 19, 3) := by decide +kernel
theorem dX2_stays_55 : decode cX2_stays 55 = .ok (.aload_n 2, 1) := by decide +kernel
