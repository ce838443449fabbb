theorem dX2_howManyJudged_33 : decode cX2_howManyJudged 33 = .ok (.aload 4, 2) := by decide +kernel
theorem dX2_howManyJudged_35 : decode cX2_howManyJudged 35 = .ok (.invokevirtual 182, 3) := by decide +kernel
theorem dX2_howManyJudged_38 : decode cX2_howManyJudged 38 = .ok (.iload_n 1, 1) := by decide +kernel
theorem dX2_howManyJudged_39 : decode cX2_howManyJudged 39 = .ok (.if_icmp .ne 6, 3) := by decide +kernel
theorem dX2_howManyJudged_42 : decode cX2_howManyJudged 42 = .ok (.iinc 2 1, 3) := by decide +kernel
theorem dX2_howManyJudged_45 : decode cX2_howManyJudged 45 = .ok (.iinc 3 1, 3) := by decide +kernel
theorem dX2_howManyJudged_48 : decode cX2_howManyJudged 48 = .ok (.goto (-44), 3) := by decide +kernel
theorem dX2_howManyJudged_51 : decode cX2_howManyJudged 51 = .ok (.iload_n 2, 1) := by decide +kernel
theorem dX2_howManyJudged_52 : decode cX2_howManyJudged 52 = .ok (.ireturn, 1) := by decide +kernel
