theorem dX3_init_0 : decode cX3_init 0 = .ok (.aload_n 0, 1) := by decide +kernel
theorem dX3_init_1 : decode cX3_init 1 = .ok (.invokespecial 1, 3) := by decide +kernel
theorem dX3_init_4 : decode cX3_init 4 = .ok (.aload_n 0, 1) := by decide +kernel
theorem dX3_init_5 : decode cX3_init 5 = .ok (.bipush 40, 2) := by decide +kernel
theorem dX3_init_7 : decode cX3_init 7 = .ok (.newarray .int, 2) := by decide +kernel
theorem dX3_init_9 : decode cX3_init 9 = .ok (.putfield 7, 3) := by decide +kernel
theorem dX3_init_12 : decode cX3_init 12 = .ok (.aload_n 0, 1) := by decide +kernel
theorem dX3_init_13 : decode cX3_init 13 = .ok (.bipush 40, 2) := by decide +kernel
theorem dX3_init_15 : decode cX3_init 15 = .ok (.newarray .int, 2) := by decide +kernel
theorem dX3_init_17 : decode cX3_init 17 = .ok (.putfield 13, 3) := by decide +kernel
theorem dX3_init_20 : decode cX3_init 20 = .ok (.aload_n 0, 1) := by decide +kernel
theorem dX3_init_21 : decode cX3_init 21 = .ok (.bipush 40, 2) := by decide +kernel
theorem dX3_init_23 : decode cX3_init 23 = .ok (.newarray .int, 2) := by decide +kernel
theorem dX3_init_25 : decode cX3_init 25 = .ok (.putfield 16, 3) := by decide +kernel
theorem dX3_init_28 : decode cX3_init 28 = .ok (.aload_n 0, 1) := by decide +kernel
theorem dX3_init_29 : decode cX3_init 29 = .ok (.bipush 40, 2) := by decide +kernel
theorem dX3_init_31 : decode cX3_init 31 = .ok (.newarray .int, 2) := by decide +kernel
theorem dX3_init_33 : decode cX3_init 33 = .ok (.putfield 19, 3) := by decide +kernel
theorem dX3_init_36 : decode cX3_init 36 = .ok (.aload_n 0, 1) := by decide +kernel
theorem dX3_init_37 : decode cX3_init 37 = .ok (.bipush 40, 2) := by decide +kernel
theorem dX3_init_39 : decode cX3_init 39 = .ok (.newarray .int, 2) := by decide +kernel
theorem dX3_init_41 : decode cX3_init 41 = .ok (.putfield 22, 3) := by decide +kernel
theorem dX3_init_44 : decode cX3_init 44 = .ok (.aload_n 0, 1) := by decide +kernel
theorem dX3_init_45 : decode cX3_init 45 = .ok (.bipush 40, 2) := by decide +kernel
theorem dX3_init_47 : decode cX3_init 47 = .ok (.newarray .int, 2) := by decide +kernel
theorem dX3_init_49 : decode cX3_init 49 = .ok (.putfield 25, 3) := by decide +kernel
theorem dX3_init_52 : decode cX3_init 52 = .ok (.aload_n 0, 1) := by decide +kernel
theorem dX3_init_53 : decode cX3_init 53 = .ok (.bipush 40, 2) := by decide +kernel
theorem dX3_init_55 : decode cX3_init 55 = .ok (.newarray .int, 2) := by decide +kernel
theorem dX3_init_57 : decode cX3_init 57 = .ok (.putfield 28, 3) := by decide +kernel
theorem dX3_init_60 : decode cX3_init 60 = .ok (.aload_n 0, 1) := by decide +kernel
theorem dX3_init_61 : decode cX3_init 61 = .ok (.bipush 40, 2) := by decide +kernel
theorem dX3_init_63 : decode cX3_init 63 = .ok (.newarray .int, 2) := by decide +kernel
theorem dX3_init_65 : decode cX3_init 65 = .ok (.putfield 31, 3) := by decide +kernel
theorem dX3_init_68 : decode cX3_init 68 = .ok (.aload_n 0, 1) := by decide +kernel
theorem dX3_init_69 : decode cX3_init 69 = .ok (.bipush 40, 2) := by decide +kernel
theorem dX3_init_71 : decode cX3_init 71 = .ok (.newarray .int, 2) := by decide +kernel
theorem dX3_init_73 : decode cX3_init 73 = .ok (.putfield 34, 3) := by decide +kernel
theorem dX3_init_76 : decode cX3_init 76 = .ok (.aload_n 0, 1) := by decide +kernel
theorem dX3_init_77 : decode cX3_init 77 = .ok (.bipush 120, 2) := by decide +kernel
theorem dX3_init_79 : decode cX3_init 79 = .ok (.newarray .int, 2) := by decide +kernel
theorem dX3_init_81 : decode cX3_init 81 = .ok (.putfield 37, 3) := by decide +kernel
theorem dX3_init_84 : decode cX3_init 84 = .ok (.aload_n 0, 1) := by decide +kernel
theorem dX3_init_85 : decode cX3_init 85 = .ok (.iconst 4, 1) := by decide +kernel
theorem dX3_init_86 : decode cX3_init 86 = .ok (.newarray .int, 2) := by decide +kernel
theorem dX3_init_88 : decode cX3_init 88 = .ok (.putfield 40, 3) := by decide +kernel
theorem dX3_init_91 : decode cX3_init 91 = .ok (.aload_n 0, 1) := by decide +kernel
theorem dX3_init_92 : decode cX3_init 92 = .ok (.iconst 4, 1) := by decide +kernel
theorem dX3_init_93 : decode cX3_init 93 = .ok (.newarray .int, 2) := by decide +kernel
theorem dX3_init_95 : decode cX3_init 95 = .ok (.putfield 43, 3) := by decide +kernel
theorem dX3_init_98 : decode cX3_init 98 = .ok (.aload_n 0, 1) := by decide +kernel
theorem dX3_init_99 : decode cX3_init 99 = .ok (.sipush 10000, 3) := by decide +kernel
theorem dX3_init_102 : decode cX3_init 102 = .ok (.newarray .boolean, 2) := by decide +kernel
theorem dX3_init_104 : decode cX3_init 104 = .ok (.putfield 46, 3) := by decide +kernel
theorem dX3_init_107 : decode cX3_init 107 = .ok (.aload_n 0, 1) := by decide +kernel
theorem dX3_init_108 : decode cX3_init 108 = .ok (.sipush 300, 3) := by decide +kernel
theorem dX3_init_111 : decode cX3_init 111 = .ok (.newarray .int, 2) := by decide +kernel
theorem dX3_init_113 : decode cX3_init 113 = .ok (.putfield 50, 3) := by decide +kernel
theorem dX3_init_116 : decode cX3_init 116 = .ok (.aload_n 0, 1) := by decide +kernel
theorem dX3_init_117 : decode cX3_init 117 = .ok (.sipush 300, 3) := by decide +kernel
theorem dX3_init_120 : decode cX3_init 120 = .ok (.newarray .int, 2) := by decide +kernel
theorem dX3_init_122 : decode cX3_init 122 = .ok (.putfield 53, 3) := by decide +kernel
theorem dX3_init_125 : decode cX3_init 125 = .ok (.aload_n 0, 1) := by decide +kernel
theorem dX3_init_126 : decode cX3_init 126 = .ok (.sipush 300, 3) := by decide +kernel
theorem dX3_init_129 : decode cX3_init 129 = .ok (.newarray .int, 2) := by decide +kernel
theorem dX3_init_131 : decode cX3_init 131 = .ok (.putfield 56, 3) := by decide +kernel
theorem dX3_init_134 : decode cX3_init 134 = .ok (.aload_n 0, 1) := by decide +kernel
theorem dX3_init_135 : decode cX3_init 135 = .ok (.sipush 300, 3) := by decide +kernel
theorem dX3_init_138 : decode cX3_init 138 = .ok (.newarray .int, 2) := by decide +kernel
theorem dX3_init_140 : decode cX3_init 140 = .ok (.putfield 59, 3) := by decide +kernel
theorem dX3_init_143 : decode cX3_init 143 = .ok (.aload_n 0, 1) := by decide +kernel
theorem dX3_init_144 : decode cX3_init 144 = .ok (.sipush 300, 3) := by decide +kernel
theorem dX3_init_147 : decode cX3_init 147 = .ok (.newarray .int, 2) := by decide +kernel
theorem dX3_init_149 : decode cX3_init 149 = .ok (.putfield 62, 3) := by decide +kernel
theorem dX3_init_152 : decode cX3_init 152 = .ok (.aload_n 0, 1) := by decide +kernel
theorem dX3_init_153 : decode cX3_init 153 = .ok (.sipush 300, 3) := by decide +kernel
theorem dX3_init_156 : decode cX3_init 156 = .ok (.newarray .boolean, 2) := by decide +kernel
theorem dX3_init_158 : decode cX3_init 158 = .ok (.putfield 65, 3) := by decide +kernel
theorem dX3_init_161 : decode cX3_init 161 = .ok (.aload_n 0, 1) := by decide +kernel
theorem dX3_init_162 : decode cX3_init 162 = .ok (.sipush 300, 3) := by decide +kernel
theorem dX3_init_165 : decode cX3_init 165 = .ok (.newarray .boolean, 2) := by decide +kernel
theorem dX3_init_167 : decode cX3_init 167 = .ok (.putfield 68, 3) := by decide +kernel
theorem dX3_init_170 : decode cX3_init 170 = .ok (.aload_n 0, 1) := by decide +kernel
theorem dX3_init_171 : decode cX3_init 171 = .ok (.sipush 300, 3) := by decide +kernel
theorem dX3_init_174 : decode cX3_init 174 = .ok (.newarray .int, 2) := by decide +kernel
theorem dX3_init_176 : decode cX3_init 176 = .ok (.putfield 71, 3) := by decide +kernel
theorem dX3_init_179 : decode cX3_init 179 = .ok (.aload_n 0, 1) := by decide +kernel
theorem dX3_init_180 : decode cX3_init 180 = .ok (.sipush 300, 3) := by decide +kernel
theorem dX3_init_183 : decode cX3_init 183 = .ok (.newarray .boolean, 2) := by decide +kernel
theorem dX3_init_185 : decode cX3_init 185 = .ok (.putfield 74, 3) := by decide +kernel
theorem dX3_init_188 : decode cX3_init 188 = .ok (.aload_n 0, 1) := by decide +kernel
theorem dX3_init_189 : decode cX3_init 189 = .ok (.bipush 10, 2) := by decide +kernel
theorem dX3_init_191 : decode cX3_init 191 = .ok (.newarray .int, 2) := by decide +kernel
theorem dX3_init_193 : decode cX3_init 193 = .ok (.putfield 77, 3) := by decide +kernel
theorem dX3_init_196 : decode cX3_init 196 = .ok (.aload_n 0, 1) := by decide +kernel
theorem dX3_init_197 : decode cX3_init 197 = .ok (.bipush 10, 2) := by decide +kernel
theorem dX3_init_199 : decode cX3_init 199 = .ok (.newarray .long, 2) := by decide +kernel
theorem dX3_init_201 : decode cX3_init 201 = .ok (.putfield 80, 3) := by decide +kernel
theorem dX3_init_204 : decode cX3_init 204 = .ok (.iconst 0, 1) := by decide +kernel
theorem dX3_init_205 : decode cX3_init 205 = .ok (.istore_n 1, 1) := by decide +kernel
theorem dX3_init_206 : decode cX3_init 206 = .ok (.iload_n 1, 1) := by decide +kernel
theorem dX3_init_207 : decode cX3_init 207 = .ok (.iconst 4, 1) := by decide +kernel
theorem dX3_init_208 : decode cX3_init 208 = .ok (.if_icmp .ge 26, 3) := by decide +kernel
theorem dX3_init_211 : decode cX3_init 211 = .ok (.aload_n 0, 1) := by decide +kernel
theorem dX3_init_212 : decode cX3_init 212 = .ok (.getfield 40, 3) := by decide +kernel
theorem dX3_init_215 : decode cX3_init 215 = .ok (.iload_n 1, 1) := by decide +kernel
theorem dX3_init_216 : decode cX3_init 216 = .ok (.bipush 100, 2) := by decide +kernel
theorem dX3_init_218 : decode cX3_init 218 = .ok (.iastore, 1) := by decide +kernel
theorem dX3_init_219 : decode cX3_init 219 = .ok (.aload_n 0, 1) := by decide +kernel
theorem dX3_init_220 : decode cX3_init 220 = .ok (.getfield 43, 3) := by decide +kernel
theorem dX3_init_223 : decode cX3_init 223 = .ok (.iload_n 1, 1) := by decide +kernel
theorem dX3_init_224 : decode cX3_init 224 = .ok (.sipush 200, 3) := by decide +kernel
theorem dX3_init_227 : decode cX3_init 227 = .ok (.iastore, 1) := by decide +kernel
theorem dX3_init_228 : decode cX3_init 228 = .ok (.iinc 1 1, 3) := by decide +kernel
theorem dX3_init_231 : decode cX3_init 231 = .ok (.goto (-25), 3) := by decide +kernel
theorem dX3_init_234 : decode cX3_init 234 = .ok (.return_, 1) := by decide +kernel
theorem dX3_in_0 : decode cX3_in 0 = .ok (.iload_n 0, 1) := by decide +kernel
theorem dX3_in_1 : decode cX3_in 1 = .ok (.iload_n 1, 1) := by decide +kernel
theorem dX3_in_2 : decode cX3_in 2 = .ok (.if_icmp .lt 12, 3) := by decide +kernel
theorem dX3_in_5 : decode cX3_in 5 = .ok (.iload_n 0, 1) := by decide +kernel
theorem dX3_in_6 : decode cX3_in 6 = .ok (.iload_n 2, 1) := by decide +kernel
theorem dX3_in_7 : decode cX3_in 7 = .ok (.if_icmp .gt 7, 3) := by decide +kernel
theorem dX3_in_10 : decode cX3_in 10 = .ok (.iconst 1, 1) := by decide +kernel
theorem dX3_in_11 : decode cX3_in 11 = .ok (.goto 4, 3) := by decide +kernel
theorem dX3_in_14 : decode cX3_in 14 = .ok (.iconst 0, 1) := by decide +kernel
theorem dX3_in_15 : decode cX3_in 15 = .ok (.ireturn, 1) := by decide +kernel
theorem dX3_isThing_0 : decode cX3_isThing 0 = .ok (.iload_n 1, 1) := by decide +kernel
theorem dX3_isThing_1 : decode cX3_isThing 1 = .ok (.iconst 0, 1) := by decide +kernel
theorem dX3_isThing_2 : decode cX3_isThing 2 = .ok (.aload_n 0, 1) := by decide +kernel
theorem dX3_isThing_3 : decode cX3_isThing 3 = .ok (.getfield 84, 3) := by decide +kernel
theorem dX3_isThing_6 : decode cX3_isThing 6 = .ok (.iconst 1, 1) := by decide +kernel
theorem dX3_isThing_7 : decode cX3_isThing 7 = .ok (.isub, 1) := by decide +kernel
theorem dX3_isThing_8 : decode cX3_isThing 8 = .ok (.invokestatic 88, 3) := by decide +kernel
theorem dX3_isThing_11 : decode cX3_isThing 11 = .ok (.ireturn, 1) := by decide +kernel
theorem dX3_pass_0 : decode cX3_pass 0 = .ok (.iload_n 1, 1) := by decide +kernel
theorem dX3_pass_1 : decode cX3_pass 1 = .ok (.iconst 1, 1) := by decide +kernel
theorem dX3_pass_2 : decode cX3_pass 2 = .ok (.sipush 5000, 3) := by decide +kernel
theorem dX3_pass_5 : decode cX3_pass 5 = .ok (.invokestatic 88, 3) := by decide +kernel
theorem dX3_pass_8 : decode cX3_pass 8 = .ok (.ifCond .ne 6, 3) := by decide +kernel
theorem dX3_pass_11 : decode cX3_pass 11 = .ok (.bipush (-2), 2) := by decide +kernel
theorem dX3_pass_13 : decode cX3_pass 13 = .ok (.ireturn, 1) := by decide +kernel
theorem dX3_pass_14 : decode cX3_pass 14 = .ok (.aload_n 0, 1) := by decide +kernel
theorem dX3_pass_15 : decode cX3_pass 15 = .ok (.getfield 92, 3) := by decide +kernel
theorem dX3_pass_18 : decode cX3_pass 18 = .ok (.iload_n 1, 1) := by decide +kernel
theorem dX3_pass_19 : decode cX3_pass 19 = .ok (.iadd, 1) := by decide +kernel
theorem dX3_pass_20 : decode cX3_pass 20 = .ok (.sipush 20000, 3) := by decide +kernel
theorem dX3_pass_23 : decode cX3_pass 23 = .ok (.if_icmp .le 6, 3) := by decide +kernel
theorem dX3_pass_26 : decode cX3_pass 26 = .ok (.bipush (-4), 2) := by decide +kernel
theorem dX3_pass_28 : decode cX3_pass 28 = .ok (.ireturn, 1) := by decide +kernel
theorem dX3_pass_29 : decode cX3_pass 29 = .ok (.aload_n 0, 1) := by decide +kernel
theorem dX3_pass_30 : decode cX3_pass 30 = .ok (.dup, 1) := by decide +kernel
theorem dX3_pass_31 : decode cX3_pass 31 = .ok (.getfield 92, 3) := by decide +kernel
theorem dX3_pass_34 : decode cX3_pass 34 = .ok (.iload_n 1, 1) := by decide +kernel
theorem dX3_pass_35 : decode cX3_pass 35 = .ok (.iadd, 1) := by decide +kernel
theorem dX3_pass_36 : decode cX3_pass 36 = .ok (.putfield 92, 3) := by decide +kernel
theorem dX3_pass_39 : decode cX3_pass 39 = .ok (.aload_n 0, 1) := by decide +kernel
theorem dX3_pass_40 : decode cX3_pass 40 = .ok (.getfield 92, 3) := by decide +kernel
theorem dX3_pass_43 : decode cX3_pass 43 = .ok (.ireturn, 1) := by decide +kernel
theorem dX3_thing_0 : decode cX3_thing 0 = .ok (.iload_n 1, 1) := by decide +kernel
theorem dX3_thing_1 : decode cX3_thing 1 = .ok (.iconst 0, 1) := by decide +kernel
theorem dX3_thing_2 : decode cX3_thing 2 = .ok (.iconst 3, 1) := by decide +kernel
theorem dX3_thing_3 : decode cX3_thing 3 = .ok (.invokestatic 88, 3) := by decide +kernel
theorem dX3_thing_6 : decode cX3_thing 6 = .ok (.ifCond .eq 24, 3) := by decide +kernel
theorem dX3_thing_9 : decode cX3_thing 9 = .ok (.iload_n 2, 1) := by decide +kernel
theorem dX3_thing_10 : decode cX3_thing 10 = .ok (.iconst 0, 1) := by decide +kernel
theorem dX3_thing_11 : decode cX3_thing 11 = .ok (.bipush 100, 2) := by decide +kernel
theorem dX3_thing_13 : decode cX3_thing 13 = .ok (.invokestatic 88, 3) := by decide +kernel
theorem dX3_thing_16 : decode cX3_thing 16 = .ok (.ifCond .eq 14, 3) := by decide +kernel
theorem dX3_thing_19 : decode cX3_thing 19 = .ok (.iload_n 3, 1) := by decide +kernel
theorem dX3_thing_20 : decode cX3_thing 20 = .ok (.iconst 1, 1) := by decide +kernel
theorem dX3_thing_21 : decode cX3_thing 21 = .ok (.sipush 4000, 3) := by decide +kernel
theorem dX3_thing_24 : decode cX3_thing 24 = .ok (.invokestatic 88, 3) := by decide +kernel
theorem dX3_thing_27 : decode cX3_thing 27 = .ok (.ifCond .ne 6, 3) := by decide +kernel
theorem dX3_thing_30 : decode cX3_thing 30 = .ok (.bipush (-2), 2) := by decide +kernel
theorem dX3_thing_32 : decode cX3_thing 32 = .ok (.ireturn, 1) := by decide +kernel
theorem dX3_thing_33 : decode cX3_thing 33 = .ok (.iload 4, 2) := by decide +kernel
theorem dX3_thing_35 : decode cX3_thing 35 = .ok (.iconst 0, 1) := by decide +kernel
theorem dX3_thing_36 : decode cX3_thing 36 = .ok (.bipush 9, 2) := by decide +kernel
theorem dX3_thing_38 : decode cX3_thing 38 = .ok (.invokestatic 88, 3) := by decide +kernel
theorem dX3_thing_41 : decode cX3_thing 41 = .ok (.ifCond .ne 5, 3) := by decide +kernel
theorem dX3_thing_44 : decode cX3_thing 44 = .ok (.iconst (-1), 1) := by decide +kernel
theorem dX3_thing_45 : decode cX3_thing 45 = .ok (.ireturn, 1) := by decide +kernel
theorem dX3_thing_46 : decode cX3_thing 46 = .ok (.aload_n 0, 1) := by decide +kernel
theorem dX3_thing_47 : decode cX3_thing 47 = .ok (.getfield 84, 3) := by decide +kernel
theorem dX3_thing_50 : decode cX3_thing 50 = .ok (.bipush 40, 2) := by decide +kernel
theorem dX3_thing_52 : decode cX3_thing 52 = .ok (.if_icmp .ne 6, 3) := by decide +kernel
theorem dX3_thing_55 : decode cX3_thing 55 = .ok (.bipush (-4), 2) := by decide +kernel
theorem dX3_thing_57 : decode cX3_thing 57 = .ok (.ireturn, 1) := by decide +kernel
theorem dX3_thing_58 : decode cX3_thing 58 = .ok (.aload_n 0, 1) := by decide +kernel
theorem dX3_thing_59 : decode cX3_thing 59 = .ok (.getfield 7, 3) := by decide +kernel
theorem dX3_thing_62 : decode cX3_thing 62 = .ok (.aload_n 0, 1) := by decide +kernel
theorem dX3_thing_63 : decode cX3_thing 63 = .ok (.getfield 84, 3) := by decide +kernel
theorem dX3_thing_66 : decode cX3_thing 66 = .ok (.iload_n 1, 1) := by decide +kernel
theorem dX3_thing_67 : decode cX3_thing 67 = .ok (.iastore, 1) := by decide +kernel
theorem dX3_thing_68 : decode cX3_thing 68 = .ok (.aload_n 0, 1) := by decide +kernel
theorem dX3_thing_69 : decode cX3_thing 69 = .ok (.getfield 13, 3) := by decide +kernel
theorem dX3_thing_72 : decode cX3_thing 72 = .ok (.aload_n 0, 1) := by decide +kernel
theorem dX3_thing_73 : decode cX3_thing 73 = .ok (.getfield 84, 3) := by decide +kernel
theorem dX3_thing_76 : decode cX3_thing 76 = .ok (.iload_n 2, 1) := by decide +kernel
theorem dX3_thing_77 : decode cX3_thing 77 = .ok (.iastore, 1) := by decide +kernel
theorem dX3_thing_78 : decode cX3_thing 78 = .ok (.aload_n 0, 1) := by decide +kernel
theorem dX3_thing_79 : decode cX3_thing 79 = .ok (.getfield 16, 3) := by decide +kernel
theorem dX3_thing_82 : decode cX3_thing 82 = .ok (.aload_n 0, 1) := by decide +kernel
theorem dX3_thing_83 : decode cX3_thing 83 = .ok (.getfield 84, 3) := by decide +kernel
theorem dX3_thing_86 : decode cX3_thing 86 = .ok (.iload_n 3, 1) := by decide +kernel
theorem dX3_thing_87 : decode cX3_thing 87 = .ok (.iastore, 1) := by decide +kernel
theorem dX3_thing_88 : decode cX3_thing 88 = .ok (.aload_n 0, 1) := by decide +kernel
theorem dX3_thing_89 : decode cX3_thing 89 = .ok (.getfield 19, 3) := by decide +kernel
theorem dX3_thing_92 : decode cX3_thing 92 = .ok (.aload_n 0, 1) := by decide +kernel
theorem dX3_thing_93 : decode cX3_thing 93 = .ok (.getfield 84, 3) := by decide +kernel
theorem dX3_thing_96 : decode cX3_thing 96 = .ok (.iload 4, 2) := by decide +kernel
theorem dX3_thing_98 : decode cX3_thing 98 = .ok (.iastore, 1) := by decide +kernel
theorem dX3_thing_99 : decode cX3_thing 99 = .ok (.aload_n 0, 1) := by decide +kernel
theorem dX3_thing_100 : decode cX3_thing 100 = .ok (.getfield 25, 3) := by decide +kernel
theorem dX3_thing_103 : decode cX3_thing 103 = .ok (.aload_n 0, 1) := by decide +kernel
theorem dX3_thing_104 : decode cX3_thing 104 = .ok (.getfield 84, 3) := by decide +kernel
theorem dX3_thing_107 : decode cX3_thing 107 = .ok (.ldc 95, 2) := by decide +kernel
theorem dX3_thing_109 : decode cX3_thing 109 = .ok (.iastore, 1) := by decide +kernel
theorem dX3_thing_110 : decode cX3_thing 110 = .ok (.aload_n 0, 1) := by decide +kernel
theorem dX3_thing_111 : decode cX3_thing 111 = .ok (.getfield 28, 3) := by decide +kernel
theorem dX3_thing_114 : decode cX3_thing 114 = .ok (.aload_n 0, 1) := by decide +kernel
theorem dX3_thing_115 : decode cX3_thing 115 = .ok (.getfield 84, 3) := by decide +kernel
theorem dX3_thing_118 : decode cX3_thing 118 = .ok (.ldc 95, 2) := by decide +kernel
theorem dX3_thing_120 : decode cX3_thing 120 = .ok (.iastore, 1) := by decide +kernel
theorem dX3_thing_121 : decode cX3_thing 121 = .ok (.aload_n 0, 1) := by decide +kernel
theorem dX3_thing_122 : decode cX3_thing 122 = .ok (.dup, 1) := by decide +kernel
theorem dX3_thing_123 : decode cX3_thing 123 = .ok (.getfield 84, 3) := by decide +kernel
theorem dX3_thing_126 : decode cX3_thing 126 = .ok (.iconst 1, 1) := by decide +kernel
theorem dX3_thing_127 : decode cX3_thing 127 = .ok (.iadd, 1) := by decide +kernel
theorem dX3_thing_128 : decode cX3_thing 128 = .ok (.putfield 84, 3) := by decide +kernel
theorem dX3_thing_131 : decode cX3_thing 131 = .ok (.aload_n 0, 1) := by decide +kernel
theorem dX3_thing_132 : decode cX3_thing 132 = .ok (.getfield 84, 3) := by decide +kernel
theorem dX3_thing_135 : decode cX3_thing 135 = .ok (.iconst 1, 1) := by decide +kernel
theorem dX3_thing_136 : decode cX3_thing 136 = .ok (.isub, 1) := by decide +kernel
theorem dX3_thing_137 : decode cX3_thing 137 = .ok (.ireturn, 1) := by decide +kernel
theorem dX3_about_0 : decode cX3_about 0 = .ok (.aload_n 0, 1) := by decide +kernel
theorem dX3_about_1 : decode cX3_about 1 = .ok (.iload_n 1, 1) := by decide +kernel
theorem dX3_about_2 : decode cX3_about 2 = .ok (.invokevirtual 96, 3) := by decide +kernel
theorem dX3_about_5 : decode cX3_about 5 = .ok (.ifCond .ne 5, 3) := by decide +kernel
theorem dX3_about_8 : decode cX3_about 8 = .ok (.iconst (-1), 1) := by decide +kernel
theorem dX3_about_9 : decode cX3_about 9 = .ok (.ireturn, 1) := by decide +kernel
theorem dX3_about_10 : decode cX3_about 10 = .ok (.iload_n 2, 1) := by decide +kernel
theorem dX3_about_11 : decode cX3_about 11 = .ok (.tableswitch 101 0 7 #[45, 52, 59, 66, 73, 80, 87, 94], 45) := by decide +kernel
theorem dX3_about_56 : decode cX3_about 56 = .ok (.aload_n 0, 1) := by decide +kernel
theorem dX3_about_57 : decode cX3_about 57 = .ok (.getfield 7, 3) := by decide +kernel
theorem dX3_about_60 : decode cX3_about 60 = .ok (.iload_n 1, 1) := by decide +kernel
theorem dX3_about_61 : decode cX3_about 61 = .ok (.iaload, 1) := by decide +kernel
theorem dX3_about_62 : decode cX3_about 62 = .ok (.ireturn, 1) := by decide +kernel
theorem dX3_about_63 : decode cX3_about 63 = .ok (.aload_n 0, 1) := by decide +kernel
theorem dX3_about_64 : decode cX3_about 64 = .ok (.getfield 13, 3) := by decide +kernel
theorem dX3_about_67 : decode cX3_about 67 = .ok (.iload_n 1, 1) := by decide +kernel
theorem dX3_about_68 : decode cX3_about 68 = .ok (.iaload, 1) := by decide +kernel
theorem dX3_about_69 : decode cX3_about 69 = .ok (.ireturn, 1) := by decide +kernel
theorem dX3_about_70 : decode cX3_about 70 = .ok (.aload_n 0, 1) := by decide +kernel
theorem dX3_about_71 : decode cX3_about 71 = .ok (.getfield 16, 3) := by decide +kernel
theorem dX3_about_74 : decode cX3_about 74 = .ok (.iload_n 1, 1) := by decide +kernel
theorem dX3_about_75 : decode cX3_about 75 = .ok (.iaload, 1) := by decide +kernel
theorem dX3_about_76 : decode cX3_about 76 = .ok (.ireturn, 1) := by decide +kernel
theorem dX3_about_77 : decode cX3_about 77 = .ok (.aload_n 0, 1) := by decide +kernel
theorem dX3_about_78 : decode cX3_about 78 = .ok (.getfield 19, 3) := by decide +kernel
theorem dX3_about_81 : decode cX3_about 81 = .ok (.iload_n 1, 1) := by decide +kernel
theorem dX3_about_82 : decode cX3_about 82 = .ok (.iaload, 1) := by decide +kernel
theorem dX3_about_83 : decode cX3_about 83 = .ok (.ireturn, 1) := by decide +kernel
theorem dX3_about_84 : decode cX3_about 84 = .ok (.aload_n 0, 1) := by decide +kernel
theorem dX3_about_85 : decode cX3_about 85 = .ok (.getfield 22, 3) := by decide +kernel
theorem dX3_about_88 : decode cX3_about 88 = .ok (.iload_n 1, 1) := by decide +kernel
theorem dX3_about_89 : decode cX3_about 89 = .ok (.iaload, 1) := by decide +kernel
theorem dX3_about_90 : decode cX3_about 90 = .ok (.ireturn, 1) := by decide +kernel
theorem dX3_about_91 : decode cX3_about 91 = .ok (.aload_n 0, 1) := by decide +kernel
theorem dX3_about_92 : decode cX3_about 92 = .ok (.getfield 25, 3) := by decide +kernel
theorem dX3_about_95 : decode cX3_about 95 = .ok (.iload_n 1, 1) := by decide +kernel
theorem dX3_about_96 : decode cX3_about 96 = .ok (.iaload, 1) := by decide +kernel
theorem dX3_about_97 : decode cX3_about 97 = .ok (.ireturn, 1) := by decide +kernel
theorem dX3_about_98 : decode cX3_about 98 = .ok (.aload_n 0, 1) := by decide +kernel
theorem dX3_about_99 : decode cX3_about 99 = .ok (.getfield 28, 3) := by decide +kernel
theorem dX3_about_102 : decode cX3_about 102 = .ok (.iload_n 1, 1) := by decide +kernel
theorem dX3_about_103 : decode cX3_about 103 = .ok (.iaload, 1) := by decide +kernel
theorem dX3_about_104 : decode cX3_about 104 = .ok (.ireturn, 1) := by decide +kernel
theorem dX3_about_105 : decode cX3_about 105 = .ok (.aload_n 0, 1) := by decide +kernel
theorem dX3_about_106 : decode cX3_about 106 = .ok (.getfield 31, 3) := by decide +kernel
theorem dX3_about_109 : decode cX3_about 109 = .ok (.iload_n 1, 1) := by decide +kernel
theorem dX3_about_110 : decode cX3_about 110 = .ok (.iaload, 1) := by decide +kernel
theorem dX3_about_111 : decode cX3_about 111 = .ok (.ireturn, 1) := by decide +kernel
theorem dX3_about_112 : decode cX3_about 112 = .ok (.bipush (-2), 2) := by decide +kernel
theorem dX3_about_114 : decode cX3_about 114 = .ok (.ireturn, 1) := by decide +kernel
theorem dX3_draw_0 : decode cX3_draw 0 = .ok (.aload_n 0, 1) := by decide +kernel
theorem dX3_draw_1 : decode cX3_draw 1 = .ok (.iload_n 1, 1) := by decide +kernel
theorem dX3_draw_2 : decode cX3_draw 2 = .ok (.invokevirtual 96, 3) := by decide +kernel
theorem dX3_draw_5 : decode cX3_draw 5 = .ok (.ifCond .ne 5, 3) := by decide +kernel
theorem dX3_draw_8 : decode cX3_draw 8 = .ok (.iconst (-1), 1) := by decide +kernel
theorem dX3_draw_9 : decode cX3_draw 9 = .ok (.ireturn, 1) := by decide +kernel
theorem dX3_draw_10 : decode cX3_draw 10 = .ok (.iload_n 2, 1) := by decide +kernel
theorem dX3_draw_11 : decode cX3_draw 11 = .ok (.ldc 100, 2) := by decide +kernel
theorem dX3_draw_13 : decode cX3_draw 13 = .ok (.ldc 101, 2) := by decide +kernel
theorem dX3_draw_15 : decode cX3_draw 15 = .ok (.invokestatic 88, 3) := by decide +kernel
theorem dX3_draw_18 : decode cX3_draw 18 = .ok (.ifCond .ne 6, 3) := by decide +kernel
theorem dX3_draw_21 : decode cX3_draw 21 = .ok (.bipush (-2), 2) := by decide +kernel
theorem dX3_draw_23 : decode cX3_draw 23 = .ok (.ireturn, 1) := by decide +kernel
theorem dX3_draw_24 : decode cX3_draw 24 = .ok (.aload_n 0, 1) := by decide +kernel
theorem dX3_draw_25 : decode cX3_draw 25 = .ok (.getfield 7, 3) := by decide +kernel
theorem dX3_draw_28 : decode cX3_draw 28 = .ok (.iload_n 1, 1) := by decide +kernel
theorem dX3_draw_29 : decode cX3_draw 29 = .ok (.iaload, 1) := by decide +kernel
theorem dX3_draw_30 : decode cX3_draw 30 = .ok (.iconst 3, 1) := by decide +kernel
theorem dX3_draw_31 : decode cX3_draw 31 = .ok (.if_icmp .eq 6, 3) := by decide +kernel
theorem dX3_draw_34 : decode cX3_draw 34 = .ok (.bipush (-3), 2) := by decide +kernel
theorem dX3_draw_36 : decode cX3_draw 36 = .ok (.ireturn, 1) := by decide +kernel
theorem dX3_draw_37 : decode cX3_draw 37 = .ok (.aload_n 0, 1) := by decide +kernel
theorem dX3_draw_38 : decode cX3_draw 38 = .ok (.getfield 34, 3) := by decide +kernel
theorem dX3_draw_41 : decode cX3_draw 41 = .ok (.iload_n 1, 1) := by decide +kernel
theorem dX3_draw_42 : decode cX3_draw 42 = .ok (.iaload, 1) := by decide +kernel
theorem dX3_draw_43 : decode cX3_draw 43 = .ok (.iconst 3, 1) := by decide +kernel
theorem dX3_draw_44 : decode cX3_draw 44 = .ok (.if_icmp .ne 6, 3) := by decide +kernel
theorem dX3_draw_47 : decode cX3_draw 47 = .ok (.bipush (-4), 2) := by decide +kernel
theorem dX3_draw_49 : decode cX3_draw 49 = .ok (.ireturn, 1) := by decide +kernel
theorem dX3_draw_50 : decode cX3_draw 50 = .ok (.aload_n 0, 1) := by decide +kernel
theorem dX3_draw_51 : decode cX3_draw 51 = .ok (.getfield 37, 3) := by decide +kernel
theorem dX3_draw_54 : decode cX3_draw 54 = .ok (.iconst 3, 1) := by decide +kernel
theorem dX3_draw_55 : decode cX3_draw 55 = .ok (.iload_n 1, 1) := by decide +kernel
theorem dX3_draw_56 : decode cX3_draw 56 = .ok (.imul, 1) := by decide +kernel
theorem dX3_draw_57 : decode cX3_draw 57 = .ok (.aload_n 0, 1) := by decide +kernel
theorem dX3_draw_58 : decode cX3_draw 58 = .ok (.getfield 34, 3) := by decide +kernel
theorem dX3_draw_61 : decode cX3_draw 61 = .ok (.iload_n 1, 1) := by decide +kernel
theorem dX3_draw_62 : decode cX3_draw 62 = .ok (.iaload, 1) := by decide +kernel
theorem dX3_draw_63 : decode cX3_draw 63 = .ok (.iadd, 1) := by decide +kernel
theorem dX3_draw_64 : decode cX3_draw 64 = .ok (.iload_n 2, 1) := by decide +kernel
theorem dX3_draw_65 : decode cX3_draw 65 = .ok (.iastore, 1) := by decide +kernel
theorem dX3_draw_66 : decode cX3_draw 66 = .ok (.aload_n 0, 1) := by decide +kernel
theorem dX3_draw_67 : decode cX3_draw 67 = .ok (.getfield 34, 3) := by decide +kernel
theorem dX3_draw_70 : decode cX3_draw 70 = .ok (.iload_n 1, 1) := by decide +kernel
theorem dX3_draw_71 : decode cX3_draw 71 = .ok (.dup2, 1) := by decide +kernel
theorem dX3_draw_72 : decode cX3_draw 72 = .ok (.iaload, 1) := by decide +kernel
theorem dX3_draw_73 : decode cX3_draw 73 = .ok (.iconst 1, 1) := by decide +kernel
theorem dX3_draw_74 : decode cX3_draw 74 = .ok (.iadd, 1) := by decide +kernel
theorem dX3_draw_75 : decode cX3_draw 75 = .ok (.iastore, 1) := by decide +kernel
theorem dX3_draw_76 : decode cX3_draw 76 = .ok (.aload_n 0, 1) := by decide +kernel
theorem dX3_draw_77 : decode cX3_draw 77 = .ok (.getfield 34, 3) := by decide +kernel
theorem dX3_draw_80 : decode cX3_draw 80 = .ok (.iload_n 1, 1) := by decide +kernel
theorem dX3_draw_81 : decode cX3_draw 81 = .ok (.iaload, 1) := by decide +kernel
theorem dX3_draw_82 : decode cX3_draw 82 = .ok (.ireturn, 1) := by decide +kernel
theorem dX3_allow_0 : decode cX3_allow 0 = .ok (.iload_n 1, 1) := by decide +kernel
theorem dX3_allow_1 : decode cX3_allow 1 = .ok (.iconst 1, 1) := by decide +kernel
theorem dX3_allow_2 : decode cX3_allow 2 = .ok (.iconst 3, 1) := by decide +kernel
theorem dX3_allow_3 : decode cX3_allow 3 = .ok (.invokestatic 88, 3) := by decide +kernel
theorem dX3_allow_6 : decode cX3_allow 6 = .ok (.ifCond .eq 13, 3) := by decide +kernel
theorem dX3_allow_9 : decode cX3_allow 9 = .ok (.iload_n 3, 1) := by decide +kernel
theorem dX3_allow_10 : decode cX3_allow 10 = .ok (.iconst 0, 1) := by decide +kernel
theorem dX3_allow_11 : decode cX3_allow 11 = .ok (.ldc 101, 2) := by decide +kernel
theorem dX3_allow_13 : decode cX3_allow 13 = .ok (.invokestatic 88, 3) := by decide +kernel
theorem dX3_allow_16 : decode cX3_allow 16 = .ok (.ifCond .ne 6, 3) := by decide +kernel
theorem dX3_allow_19 : decode cX3_allow 19 = .ok (.bipush (-2), 2) := by decide +kernel
theorem dX3_allow_21 : decode cX3_allow 21 = .ok (.ireturn, 1) := by decide +kernel
theorem dX3_allow_22 : decode cX3_allow 22 = .ok (.iload_n 2, 1) := by decide +kernel
theorem dX3_allow_23 : decode cX3_allow 23 = .ok (.ifCond .eq 12, 3) := by decide +kernel
theorem dX3_allow_26 : decode cX3_allow 26 = .ok (.aload_n 0, 1) := by decide +kernel
theorem dX3_allow_27 : decode cX3_allow 27 = .ok (.getfield 40, 3) := by decide +kernel
theorem dX3_allow_30 : decode cX3_allow 30 = .ok (.iload_n 1, 1) := by decide +kernel
theorem dX3_allow_31 : decode cX3_allow 31 = .ok (.iaload, 1) := by decide +kernel
theorem dX3_allow_32 : decode cX3_allow 32 = .ok (.goto 9, 3) := by decide +kernel
theorem dX3_allow_35 : decode cX3_allow 35 = .ok (.aload_n 0, 1) := by decide +kernel
theorem dX3_allow_36 : decode cX3_allow 36 = .ok (.getfield 43, 3) := by decide +kernel
theorem dX3_allow_39 : decode cX3_allow 39 = .ok (.iload_n 1, 1) := by decide +kernel
theorem dX3_allow_40 : decode cX3_allow 40 = .ok (.iaload, 1) := by decide +kernel
theorem dX3_allow_41 : decode cX3_allow 41 = .ok (.istore 4, 2) := by decide +kernel
theorem dX3_allow_43 : decode cX3_allow 43 = .ok (.iload_n 2, 1) := by decide +kernel
theorem dX3_allow_44 : decode cX3_allow 44 = .ok (.ifCond .eq 13, 3) := by decide +kernel
theorem dX3_allow_47 : decode cX3_allow 47 = .ok (.aload_n 0, 1) := by decide +kernel
theorem dX3_allow_48 : decode cX3_allow 48 = .ok (.getfield 40, 3) := by decide +kernel
theorem dX3_allow_51 : decode cX3_allow 51 = .ok (.iload_n 1, 1) := by decide +kernel
theorem dX3_allow_52 : decode cX3_allow 52 = .ok (.iload_n 3, 1) := by decide +kernel
theorem dX3_allow_53 : decode cX3_allow 53 = .ok (.iastore, 1) := by decide +kernel
theorem dX3_allow_54 : decode cX3_allow 54 = .ok (.goto 10, 3) := by decide +kernel
theorem dX3_allow_57 : decode cX3_allow 57 = .ok (.aload_n 0, 1) := by decide +kernel
theorem dX3_allow_58 : decode cX3_allow 58 = .ok (.getfield 43, 3) := by decide +kernel
theorem dX3_allow_61 : decode cX3_allow 61 = .ok (.iload_n 1, 1) := by decide +kernel
theorem dX3_allow_62 : decode cX3_allow 62 = .ok (.iload_n 3, 1) := by decide +kernel
theorem dX3_allow_63 : decode cX3_allow 63 = .ok (.iastore, 1) := by decide +kernel
theorem dX3_allow_64 : decode cX3_allow 64 = .ok (.iload 4, 2) := by decide +kernel
theorem dX3_allow_66 : decode cX3_allow 66 = .ok (.ireturn, 1) := by decide +kernel
theorem dX3_isTool_0 : decode cX3_isTool 0 = .ok (.aload_n 0, 1) := by decide +kernel
theorem dX3_isTool_1 : decode cX3_isTool 1 = .ok (.getfield 7, 3) := by decide +kernel
theorem dX3_isTool_4 : decode cX3_isTool 4 = .ok (.iload_n 1, 1) := by decide +kernel
theorem dX3_isTool_5 : decode cX3_isTool 5 = .ok (.iaload, 1) := by decide +kernel
theorem dX3_isTool_6 : decode cX3_isTool 6 = .ok (.iconst 2, 1) := by decide +kernel
theorem dX3_isTool_7 : decode cX3_isTool 7 = .ok (.if_icmp .eq 13, 3) := by decide +kernel
theorem dX3_isTool_10 : decode cX3_isTool 10 = .ok (.aload_n 0, 1) := by decide +kernel
theorem dX3_isTool_11 : decode cX3_isTool 11 = .ok (.getfield 7, 3) := by decide +kernel
theorem dX3_isTool_14 : decode cX3_isTool 14 = .ok (.iload_n 1, 1) := by decide +kernel
theorem dX3_isTool_15 : decode cX3_isTool 15 = .ok (.iaload, 1) := by decide +kernel
theorem dX3_isTool_16 : decode cX3_isTool 16 = .ok (.iconst 3, 1) := by decide +kernel
theorem dX3_isTool_17 : decode cX3_isTool 17 = .ok (.if_icmp .ne 7, 3) := by decide +kernel
theorem dX3_isTool_20 : decode cX3_isTool 20 = .ok (.iconst 1, 1) := by decide +kernel
theorem dX3_isTool_21 : decode cX3_isTool 21 = .ok (.goto 4, 3) := by decide +kernel
theorem dX3_isTool_24 : decode cX3_isTool 24 = .ok (.iconst 0, 1) := by decide +kernel
theorem dX3_isTool_25 : decode cX3_isTool 25 = .ok (.ireturn, 1) := by decide +kernel
theorem dX3_move_0 : decode cX3_move 0 = .ok (.aload_n 0, 1) := by decide +kernel
theorem dX3_move_1 : decode cX3_move 1 = .ok (.iload_n 1, 1) := by decide +kernel
theorem dX3_move_2 : decode cX3_move 2 = .ok (.invokevirtual 96, 3) := by decide +kernel
theorem dX3_move_5 : decode cX3_move 5 = .ok (.ifCond .eq 13, 3) := by decide +kernel
theorem dX3_move_8 : decode cX3_move 8 = .ok (.iload_n 2, 1) := by decide +kernel
theorem dX3_move_9 : decode cX3_move 9 = .ok (.iconst 0, 1) := by decide +kernel
theorem dX3_move_10 : decode cX3_move 10 = .ok (.bipush 9, 2) := by decide +kernel
theorem dX3_move_12 : decode cX3_move 12 = .ok (.invokestatic 88, 3) := by decide +kernel
theorem dX3_move_15 : decode cX3_move 15 = .ok (.ifCond .ne 5, 3) := by decide +kernel
theorem dX3_move_18 : decode cX3_move 18 = .ok (.iconst (-1), 1) := by decide +kernel
theorem dX3_move_19 : decode cX3_move 19 = .ok (.ireturn, 1) := by decide +kernel
theorem dX3_move_20 : decode cX3_move 20 = .ok (.aload_n 0, 1) := by decide +kernel
theorem dX3_move_21 : decode cX3_move 21 = .ok (.iload_n 1, 1) := by decide +kernel
theorem dX3_move_22 : decode cX3_move 22 = .ok (.invokevirtual 102, 3) := by decide +kernel
theorem dX3_move_25 : decode cX3_move 25 = .ok (.ifCond .ne 6, 3) := by decide +kernel
theorem dX3_move_28 : decode cX3_move 28 = .ok (.bipush (-3), 2) := by decide +kernel
theorem dX3_move_30 : decode cX3_move 30 = .ok (.ireturn, 1) := by decide +kernel
theorem dX3_move_31 : decode cX3_move 31 = .ok (.aload_n 0, 1) := by decide +kernel
theorem dX3_move_32 : decode cX3_move 32 = .ok (.getfield 19, 3) := by decide +kernel
theorem dX3_move_35 : decode cX3_move 35 = .ok (.iload_n 1, 1) := by decide +kernel
theorem dX3_move_36 : decode cX3_move 36 = .ok (.iaload, 1) := by decide +kernel
theorem dX3_move_37 : decode cX3_move 37 = .ok (.istore_n 3, 1) := by decide +kernel
theorem dX3_move_38 : decode cX3_move 38 = .ok (.aload_n 0, 1) := by decide +kernel
theorem dX3_move_39 : decode cX3_move 39 = .ok (.getfield 19, 3) := by decide +kernel
theorem dX3_move_42 : decode cX3_move 42 = .ok (.iload_n 1, 1) := by decide +kernel
theorem dX3_move_43 : decode cX3_move 43 = .ok (.iload_n 2, 1) := by decide +kernel
theorem dX3_move_44 : decode cX3_move 44 = .ok (.iastore, 1) := by decide +kernel
theorem dX3_move_45 : decode cX3_move 45 = .ok (.aload_n 0, 1) := by decide +kernel
theorem dX3_move_46 : decode cX3_move 46 = .ok (.getfield 28, 3) := by decide +kernel
theorem dX3_move_49 : decode cX3_move 49 = .ok (.iload_n 1, 1) := by decide +kernel
theorem dX3_move_50 : decode cX3_move 50 = .ok (.ldc 95, 2) := by decide +kernel
theorem dX3_move_52 : decode cX3_move 52 = .ok (.iastore, 1) := by decide +kernel
theorem dX3_move_53 : decode cX3_move 53 = .ok (.iload_n 3, 1) := by decide +kernel
theorem dX3_move_54 : decode cX3_move 54 = .ok (.ireturn, 1) := by decide +kernel
theorem dX3_settledNow_0 : decode cX3_settledNow 0 = .ok (.aload_n 0, 1) := by decide +kernel
theorem dX3_settledNow_1 : decode cX3_settledNow 1 = .ok (.getfield 7, 3) := by decide +kernel
theorem dX3_settledNow_4 : decode cX3_settledNow 4 = .ok (.iload_n 1, 1) := by decide +kernel
theorem dX3_settledNow_5 : decode cX3_settledNow 5 = .ok (.iaload, 1) := by decide +kernel
theorem dX3_settledNow_6 : decode cX3_settledNow 6 = .ok (.ifCond .eq 28, 3) := by decide +kernel
theorem dX3_settledNow_9 : decode cX3_settledNow 9 = .ok (.aload_n 0, 1) := by decide +kernel
theorem dX3_settledNow_10 : decode cX3_settledNow 10 = .ok (.getfield 25, 3) := by decide +kernel
theorem dX3_settledNow_13 : decode cX3_settledNow 13 = .ok (.iload_n 1, 1) := by decide +kernel
theorem dX3_settledNow_14 : decode cX3_settledNow 14 = .ok (.iaload, 1) := by decide +kernel
theorem dX3_settledNow_15 : decode cX3_settledNow 15 = .ok (.ldc 95, 2) := by decide +kernel
theorem dX3_settledNow_17 : decode cX3_settledNow 17 = .ok (.if_icmp .eq 21, 3) := by decide +kernel
theorem dX3_settledNow_20 : decode cX3_settledNow 20 = .ok (.aload_n 0, 1) := by decide +kernel
theorem dX3_settledNow_21 : decode cX3_settledNow 21 = .ok (.getfield 65, 3) := by decide +kernel
theorem dX3_settledNow_24 : decode cX3_settledNow 24 = .ok (.aload_n 0, 1) := by decide +kernel
theorem dX3_settledNow_25 : decode cX3_settledNow 25 = .ok (.getfield 25, 3) := by decide +kernel
theorem dX3_settledNow_28 : decode cX3_settledNow 28 = .ok (.iload_n 1, 1) := by decide +kernel
theorem dX3_settledNow_29 : decode cX3_settledNow 29 = .ok (.iaload, 1) := by decide +kernel
theorem dX3_settledNow_30 : decode cX3_settledNow 30 = .ok (.baload, 1) := by decide +kernel
theorem dX3_settledNow_31 : decode cX3_settledNow 31 = .ok (.ifCond .eq 7, 3) := by decide +kernel
theorem dX3_settledNow_34 : decode cX3_settledNow 34 = .ok (.iconst 1, 1) := by decide +kernel
theorem dX3_settledNow_35 : decode cX3_settledNow 35 = .ok (.goto 4, 3) := by decide +kernel
theorem dX3_settledNow_38 : decode cX3_settledNow 38 = .ok (.iconst 0, 1) := by decide +kernel
theorem dX3_settledNow_39 : decode cX3_settledNow 39 = .ok (.ireturn, 1) := by decide +kernel
theorem dX3_dueNow_0 : decode cX3_dueNow 0 = .ok (.aload_n 0, 1) := by decide +kernel
theorem dX3_dueNow_1 : decode cX3_dueNow 1 = .ok (.getfield 7, 3) := by decide +kernel
theorem dX3_dueNow_4 : decode cX3_dueNow 4 = .ok (.iload_n 1, 1) := by decide +kernel
theorem dX3_dueNow_5 : decode cX3_dueNow 5 = .ok (.iaload, 1) := by decide +kernel
theorem dX3_dueNow_6 : decode cX3_dueNow 6 = .ok (.ifCond .eq 43, 3) := by decide +kernel
theorem dX3_dueNow_9 : decode cX3_dueNow 9 = .ok (.aload_n 0, 1) := by decide +kernel
theorem dX3_dueNow_10 : decode cX3_dueNow 10 = .ok (.getfield 25, 3) := by decide +kernel
theorem dX3_dueNow_13 : decode cX3_dueNow 13 = .ok (.iload_n 1, 1) := by decide +kernel
theorem dX3_dueNow_14 : decode cX3_dueNow 14 = .ok (.iaload, 1) := by decide +kernel
theorem dX3_dueNow_15 : decode cX3_dueNow 15 = .ok (.ldc 95, 2) := by decide +kernel
theorem dX3_dueNow_17 : decode cX3_dueNow 17 = .ok (.if_icmp .eq 28, 3) := by decide +kernel
theorem dX3_dueNow_20 : decode cX3_dueNow 20 = .ok (.aload_n 0, 1) := by decide +kernel
theorem dX3_dueNow_21 : decode cX3_dueNow 21 = .ok (.getfield 92, 3) := by decide +kernel
theorem dX3_dueNow_24 : decode cX3_dueNow 24 = .ok (.aload_n 0, 1) := by decide +kernel
theorem dX3_dueNow_25 : decode cX3_dueNow 25 = .ok (.getfield 56, 3) := by decide +kernel
theorem dX3_dueNow_28 : decode cX3_dueNow 28 = .ok (.aload_n 0, 1) := by decide +kernel
theorem dX3_dueNow_29 : decode cX3_dueNow 29 = .ok (.getfield 25, 3) := by decide +kernel
theorem dX3_dueNow_32 : decode cX3_dueNow 32 = .ok (.iload_n 1, 1) := by decide +kernel
theorem dX3_dueNow_33 : decode cX3_dueNow 33 = .ok (.iaload, 1) := by decide +kernel
theorem dX3_dueNow_34 : decode cX3_dueNow 34 = .ok (.iaload, 1) := by decide +kernel
theorem dX3_dueNow_35 : decode cX3_dueNow 35 = .ok (.isub, 1) := by decide +kernel
theorem dX3_dueNow_36 : decode cX3_dueNow 36 = .ok (.aload_n 0, 1) := by decide +kernel
theorem dX3_dueNow_37 : decode cX3_dueNow 37 = .ok (.getfield 16, 3) := by decide +kernel
theorem dX3_dueNow_40 : decode cX3_dueNow 40 = .ok (.iload_n 1, 1) := by decide +kernel
theorem dX3_dueNow_41 : decode cX3_dueNow 41 = .ok (.iaload, 1) := by decide +kernel
theorem dX3_dueNow_42 : decode cX3_dueNow 42 = .ok (.if_icmp .le 7, 3) := by decide +kernel
theorem dX3_dueNow_45 : decode cX3_dueNow 45 = .ok (.iconst 1, 1) := by decide +kernel
theorem dX3_dueNow_46 : decode cX3_dueNow 46 = .ok (.goto 4, 3) := by decide +kernel
theorem dX3_dueNow_49 : decode cX3_dueNow 49 = .ok (.iconst 0, 1) := by decide +kernel
theorem dX3_dueNow_50 : decode cX3_dueNow 50 = .ok (.ireturn, 1) := by decide +kernel
theorem dX3_errorOf_0 : decode cX3_errorOf 0 = .ok (.aload_n 0, 1) := by decide +kernel
theorem dX3_errorOf_1 : decode cX3_errorOf 1 = .ok (.getfield 25, 3) := by decide +kernel
theorem dX3_errorOf_4 : decode cX3_errorOf 4 = .ok (.iload_n 1, 1) := by decide +kernel
theorem dX3_errorOf_5 : decode cX3_errorOf 5 = .ok (.iaload, 1) := by decide +kernel
theorem dX3_errorOf_6 : decode cX3_errorOf 6 = .ok (.ldc 95, 2) := by decide +kernel
theorem dX3_errorOf_8 : decode cX3_errorOf 8 = .ok (.if_icmp .ne 7, 3) := by decide +kernel
theorem dX3_errorOf_11 : decode cX3_errorOf 11 = .ok (.iconst 0, 1) := by decide +kernel
theorem dX3_errorOf_12 : decode cX3_errorOf 12 = .ok (.goto 14, 3) := by decide +kernel
theorem dX3_errorOf_15 : decode cX3_errorOf 15 = .ok (.aload_n 0, 1) := by decide +kernel
theorem dX3_errorOf_16 : decode cX3_errorOf 16 = .ok (.getfield 59, 3) := by decide +kernel
theorem dX3_errorOf_19 : decode cX3_errorOf 19 = .ok (.aload_n 0, 1) := by decide +kernel
theorem dX3_errorOf_20 : decode cX3_errorOf 20 = .ok (.getfield 25, 3) := by decide +kernel
theorem dX3_errorOf_23 : decode cX3_errorOf 23 = .ok (.iload_n 1, 1) := by decide +kernel
theorem dX3_errorOf_24 : decode cX3_errorOf 24 = .ok (.iaload, 1) := by decide +kernel
theorem dX3_errorOf_25 : decode cX3_errorOf 25 = .ok (.iaload, 1) := by decide +kernel
theorem dX3_errorOf_26 : decode cX3_errorOf 26 = .ok (.ireturn, 1) := by decide +kernel
theorem dX3_spanOn_0 : decode cX3_spanOn 0 = .ok (.aload_n 0, 1) := by decide +kernel
theorem dX3_spanOn_1 : decode cX3_spanOn 1 = .ok (.getfield 25, 3) := by decide +kernel
theorem dX3_spanOn_4 : decode cX3_spanOn 4 = .ok (.iload_n 1, 1) := by decide +kernel
theorem dX3_spanOn_5 : decode cX3_spanOn 5 = .ok (.iaload, 1) := by decide +kernel
theorem dX3_spanOn_6 : decode cX3_spanOn 6 = .ok (.ldc 95, 2) := by decide +kernel
theorem dX3_spanOn_8 : decode cX3_spanOn 8 = .ok (.if_icmp .ne 7, 3) := by decide +kernel
theorem dX3_spanOn_11 : decode cX3_spanOn 11 = .ok (.iconst 0, 1) := by decide +kernel
theorem dX3_spanOn_12 : decode cX3_spanOn 12 = .ok (.goto 41, 3) := by decide +kernel
theorem dX3_spanOn_15 : decode cX3_spanOn 15 = .ok (.aload_n 0, 1) := by decide +kernel
theorem dX3_spanOn_16 : decode cX3_spanOn 16 = .ok (.getfield 62, 3) := by decide +kernel
theorem dX3_spanOn_19 : decode cX3_spanOn 19 = .ok (.aload_n 0, 1) := by decide +kernel
theorem dX3_spanOn_20 : decode cX3_spanOn 20 = .ok (.getfield 25, 3) := by decide +kernel
theorem dX3_spanOn_23 : decode cX3_spanOn 23 = .ok (.iload_n 1, 1) := by decide +kernel
theorem dX3_spanOn_24 : decode cX3_spanOn 24 = .ok (.iaload, 1) := by decide +kernel
theorem dX3_spanOn_25 : decode cX3_spanOn 25 = .ok (.iaload, 1) := by decide +kernel
theorem dX3_spanOn_26 : decode cX3_spanOn 26 = .ok (.aload_n 0, 1) := by decide +kernel
theorem dX3_spanOn_27 : decode cX3_spanOn 27 = .ok (.getfield 13, 3) := by decide +kernel
theorem dX3_spanOn_30 : decode cX3_spanOn 30 = .ok (.iload_n 1, 1) := by decide +kernel
theorem dX3_spanOn_31 : decode cX3_spanOn 31 = .ok (.iaload, 1) := by decide +kernel
theorem dX3_spanOn_32 : decode cX3_spanOn 32 = .ok (.iload_n 2, 1) := by decide +kernel
theorem dX3_spanOn_33 : decode cX3_spanOn 33 = .ok (.aload_n 0, 1) := by decide +kernel
theorem dX3_spanOn_34 : decode cX3_spanOn 34 = .ok (.getfield 56, 3) := by decide +kernel
theorem dX3_spanOn_37 : decode cX3_spanOn 37 = .ok (.aload_n 0, 1) := by decide +kernel
theorem dX3_spanOn_38 : decode cX3_spanOn 38 = .ok (.getfield 25, 3) := by decide +kernel
theorem dX3_spanOn_41 : decode cX3_spanOn 41 = .ok (.iload_n 1, 1) := by decide +kernel
theorem dX3_spanOn_42 : decode cX3_spanOn 42 = .ok (.iaload, 1) := by decide +kernel
theorem dX3_spanOn_43 : decode cX3_spanOn 43 = .ok (.iaload, 1) := by decide +kernel
theorem dX3_spanOn_44 : decode cX3_spanOn 44 = .ok (.isub, 1) := by decide +kernel
theorem dX3_spanOn_45 : decode cX3_spanOn 45 = .ok (.imul, 1) := by decide +kernel
theorem dX3_spanOn_46 : decode cX3_spanOn 46 = .ok (.bipush 99, 2) := by decide +kernel
theorem dX3_spanOn_48 : decode cX3_spanOn 48 = .ok (.iadd, 1) := by decide +kernel
theorem dX3_spanOn_49 : decode cX3_spanOn 49 = .ok (.bipush 100, 2) := by decide +kernel
theorem dX3_spanOn_51 : decode cX3_spanOn 51 = .ok (.idiv, 1) := by decide +kernel
theorem dX3_spanOn_52 : decode cX3_spanOn 52 = .ok (.iadd, 1) := by decide +kernel
theorem dX3_spanOn_53 : decode cX3_spanOn 53 = .ok (.ireturn, 1) := by decide +kernel
theorem dX3_middle_0 : decode cX3_middle 0 = .ok (.aload_n 0, 1) := by decide +kernel
theorem dX3_middle_1 : decode cX3_middle 1 = .ok (.getfield 37, 3) := by decide +kernel
theorem dX3_middle_4 : decode cX3_middle 4 = .ok (.iconst 3, 1) := by decide +kernel
theorem dX3_middle_5 : decode cX3_middle 5 = .ok (.iload_n 1, 1) := by decide +kernel
theorem dX3_middle_6 : decode cX3_middle 6 = .ok (.imul, 1) := by decide +kernel
theorem dX3_middle_7 : decode cX3_middle 7 = .ok (.iaload, 1) := by decide +kernel
theorem dX3_middle_8 : decode cX3_middle 8 = .ok (.istore_n 2, 1) := by decide +kernel
theorem dX3_middle_9 : decode cX3_middle 9 = .ok (.aload_n 0, 1) := by decide +kernel
theorem dX3_middle_10 : decode cX3_middle 10 = .ok (.getfield 37, 3) := by decide +kernel
theorem dX3_middle_13 : decode cX3_middle 13 = .ok (.iconst 3, 1) := by decide +kernel
theorem dX3_middle_14 : decode cX3_middle 14 = .ok (.iload_n 1, 1) := by decide +kernel
theorem dX3_middle_15 : decode cX3_middle 15 = .ok (.imul, 1) := by decide +kernel
theorem dX3_middle_16 : decode cX3_middle 16 = .ok (.iconst 1, 1) := by decide +kernel
theorem dX3_middle_17 : decode cX3_middle 17 = .ok (.iadd, 1) := by decide +kernel
theorem dX3_middle_18 : decode cX3_middle 18 = .ok (.iaload, 1) := by decide +kernel
theorem dX3_middle_19 : decode cX3_middle 19 = .ok (.istore_n 3, 1) := by decide +kernel
theorem dX3_middle_20 : decode cX3_middle 20 = .ok (.aload_n 0, 1) := by decide +kernel
theorem dX3_middle_21 : decode cX3_middle 21 = .ok (.getfield 37, 3) := by decide +kernel
theorem dX3_middle_24 : decode cX3_middle 24 = .ok (.iconst 3, 1) := by decide +kernel
theorem dX3_middle_25 : decode cX3_middle 25 = .ok (.iload_n 1, 1) := by decide +kernel
theorem dX3_middle_26 : decode cX3_middle 26 = .ok (.imul, 1) := by decide +kernel
theorem dX3_middle_27 : decode cX3_middle 27 = .ok (.iconst 2, 1) := by decide +kernel
theorem dX3_middle_28 : decode cX3_middle 28 = .ok (.iadd, 1) := by decide +kernel
theorem dX3_middle_29 : decode cX3_middle 29 = .ok (.iaload, 1) := by decide +kernel
theorem dX3_middle_30 : decode cX3_middle 30 = .ok (.istore 4, 2) := by decide +kernel
theorem dX3_middle_32 : decode cX3_middle 32 = .ok (.iload_n 2, 1) := by decide +kernel
theorem dX3_middle_33 : decode cX3_middle 33 = .ok (.iload_n 3, 1) := by decide +kernel
theorem dX3_middle_34 : decode cX3_middle 34 = .ok (.if_icmp .le 7, 3) := by decide +kernel
theorem dX3_middle_37 : decode cX3_middle 37 = .ok (.iload_n 2, 1) := by decide +kernel
theorem dX3_middle_38 : decode cX3_middle 38 = .ok (.goto 4, 3) := by decide +kernel
theorem dX3_middle_41 : decode cX3_middle 41 = .ok (.iload_n 3, 1) := by decide +kernel
theorem dX3_middle_42 : decode cX3_middle 42 = .ok (.istore 5, 2) := by decide +kernel
theorem dX3_middle_44 : decode cX3_middle 44 = .ok (.iload_n 2, 1) := by decide +kernel
theorem dX3_middle_45 : decode cX3_middle 45 = .ok (.iload_n 3, 1) := by decide +kernel
theorem dX3_middle_46 : decode cX3_middle 46 = .ok (.if_icmp .le 7, 3) := by decide +kernel
theorem dX3_middle_49 : decode cX3_middle 49 = .ok (.iload_n 3, 1) := by decide +kernel
theorem dX3_middle_50 : decode cX3_middle 50 = .ok (.goto 4, 3) := by decide +kernel
theorem dX3_middle_53 : decode cX3_middle 53 = .ok (.iload_n 2, 1) := by decide +kernel
theorem dX3_middle_54 : decode cX3_middle 54 = .ok (.istore 6, 2) := by decide +kernel
theorem dX3_middle_56 : decode cX3_middle 56 = .ok (.iload 4, 2) := by decide +kernel
theorem dX3_middle_58 : decode cX3_middle 58 = .ok (.iload 5, 2) := by decide +kernel
theorem dX3_middle_60 : decode cX3_middle 60 = .ok (.if_icmp .le 8, 3) := by decide +kernel
theorem dX3_middle_63 : decode cX3_middle 63 = .ok (.iload 5, 2) := by decide +kernel
theorem dX3_middle_65 : decode cX3_middle 65 = .ok (.goto 17, 3) := by decide +kernel
theorem dX3_middle_68 : decode cX3_middle 68 = .ok (.iload 4, 2) := by decide +kernel
theorem dX3_middle_70 : decode cX3_middle 70 = .ok (.iload 6, 2) := by decide +kernel
theorem dX3_middle_72 : decode cX3_middle 72 = .ok (.if_icmp .ge 8, 3) := by decide +kernel
theorem dX3_middle_75 : decode cX3_middle 75 = .ok (.iload 6, 2) := by decide +kernel
theorem dX3_middle_77 : decode cX3_middle 77 = .ok (.goto 5, 3) := by decide +kernel
theorem dX3_middle_80 : decode cX3_middle 80 = .ok (.iload 4, 2) := by decide +kernel
theorem dX3_middle_82 : decode cX3_middle 82 = .ok (.ireturn, 1) := by decide +kernel
theorem dX3_range_0 : decode cX3_range 0 = .ok (.aload_n 0, 1) := by decide +kernel
theorem dX3_range_1 : decode cX3_range 1 = .ok (.getfield 37, 3) := by decide +kernel
theorem dX3_range_4 : decode cX3_range 4 = .ok (.iconst 3, 1) := by decide +kernel
theorem dX3_range_5 : decode cX3_range 5 = .ok (.iload_n 1, 1) := by decide +kernel
theorem dX3_range_6 : decode cX3_range 6 = .ok (.imul, 1) := by decide +kernel
theorem dX3_range_7 : decode cX3_range 7 = .ok (.iaload, 1) := by decide +kernel
theorem dX3_range_8 : decode cX3_range 8 = .ok (.istore_n 2, 1) := by decide +kernel
theorem dX3_range_9 : decode cX3_range 9 = .ok (.iload_n 2, 1) := by decide +kernel
theorem dX3_range_10 : decode cX3_range 10 = .ok (.istore_n 3, 1) := by decide +kernel
theorem dX3_range_11 : decode cX3_range 11 = .ok (.iconst 1, 1) := by decide +kernel
theorem dX3_range_12 : decode cX3_range 12 = .ok (.istore 4, 2) := by decide +kernel
theorem dX3_range_14 : decode cX3_range 14 = .ok (.iload 4, 2) := by decide +kernel
theorem dX3_range_16 : decode cX3_range 16 = .ok (.iconst 3, 1) := by decide +kernel
theorem dX3_range_17 : decode cX3_range 17 = .ok (.if_icmp .ge 71, 3) := by decide +kernel
theorem dX3_range_20 : decode cX3_range 20 = .ok (.aload_n 0, 1) := by decide +kernel
theorem dX3_range_21 : decode cX3_range 21 = .ok (.getfield 37, 3) := by decide +kernel
theorem dX3_range_24 : decode cX3_range 24 = .ok (.iconst 3, 1) := by decide +kernel
