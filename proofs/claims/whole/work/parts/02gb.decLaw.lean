theorem d_Law_take_13 : decode b_Law_take 13 = .ok (.iconst 2, 1) := by decide +kernel
theorem d_Law_take_14 : decode b_Law_take 14 = .ok (.ireturn, 1) := by decide +kernel
theorem d_Law_take_15 : decode b_Law_take 15 = .ok (.iconst 0, 1) := by decide +kernel
theorem d_Law_take_16 : decode b_Law_take 16 = .ok (.ireturn, 1) := by decide +kernel
theorem d_Law_done_0 : decode b_Law_done 0 = .ok (.aload_n 1, 1) := by decide +kernel
theorem d_Law_done_1 : decode b_Law_done 1 = .ok (.iconst 0, 1) := by decide +kernel
theorem d_Law_done_2 : decode b_Law_done 2 = .ok (.aload_n 0, 1) := by decide +kernel
theorem d_Law_done_3 : decode b_Law_done 3 = .ok (.invokevirtual 33, 3) := by decide +kernel
theorem d_Law_done_6 : decode b_Law_done 6 = .ok (.i2l, 1) := by decide +kernel
theorem d_Law_done_7 : decode b_Law_done 7 = .ok (.lastore, 1) := by decide +kernel
theorem d_Law_done_8 : decode b_Law_done 8 = .ok (.goto 9, 3) := by decide +kernel
theorem d_Law_done_11 : decode b_Law_done 11 = .ok (.astore_n 2, 1) := by decide +kernel
theorem d_Law_done_12 : decode b_Law_done 12 = .ok (.iconst 1, 1) := by decide +kernel
theorem d_Law_done_13 : decode b_Law_done 13 = .ok (.ireturn, 1) := by decide +kernel
theorem d_Law_done_14 : decode b_Law_done 14 = .ok (.astore_n 2, 1) := by decide +kernel
theorem d_Law_done_15 : decode b_Law_done 15 = .ok (.iconst 2, 1) := by decide +kernel
theorem d_Law_done_16 : decode b_Law_done 16 = .ok (.ireturn, 1) := by decide +kernel
theorem d_Law_done_17 : decode b_Law_done 17 = .ok (.iconst 0, 1) := by decide +kernel
theorem d_Law_done_18 : decode b_Law_done 18 = .ok (.ireturn, 1) := by decide +kernel
theorem d_Law_commit_0 : decode b_Law_commit 0 = .ok (.aload_n 1, 1) := by decide +kernel
theorem d_Law_commit_1 : decode b_Law_commit 1 = .ok (.iconst 0, 1) := by decide +kernel
theorem d_Law_commit_2 : decode b_Law_commit 2 = .ok (.aload_n 0, 1) := by decide +kernel
theorem d_Law_commit_3 : decode b_Law_commit 3 = .ok (.invokevirtual 36, 3) := by decide +kernel
theorem d_Law_commit_6 : decode b_Law_commit 6 = .ok (.i2l, 1) := by decide +kernel
theorem d_Law_commit_7 : decode b_Law_commit 7 = .ok (.lastore, 1) := by decide +kernel
theorem d_Law_commit_8 : decode b_Law_commit 8 = .ok (.goto 6, 3) := by decide +kernel
theorem d_Law_commit_11 : decode b_Law_commit 11 = .ok (.astore_n 2, 1) := by decide +kernel
theorem d_Law_commit_12 : decode b_Law_commit 12 = .ok (.iconst 1, 1) := by decide +kernel
theorem d_Law_commit_13 : decode b_Law_commit 13 = .ok (.ireturn, 1) := by decide +kernel
theorem d_Law_commit_14 : decode b_Law_commit 14 = .ok (.iconst 0, 1) := by decide +kernel
theorem d_Law_commit_15 : decode b_Law_commit 15 = .ok (.ireturn, 1) := by decide +kernel
theorem d_Law_checkpoint_0 : decode b_Law_checkpoint 0 = .ok (.aload_n 1, 1) := by decide +kernel
theorem d_Law_checkpoint_1 : decode b_Law_checkpoint 1 = .ok (.iconst 0, 1) := by decide +kernel
theorem d_Law_checkpoint_2 : decode b_Law_checkpoint 2 = .ok (.aload_n 0, 1) := by decide +kernel
theorem d_Law_checkpoint_3 : decode b_Law_checkpoint 3 = .ok (.invokevirtual 39, 3) := by decide +kernel
theorem d_Law_checkpoint_6 : decode b_Law_checkpoint 6 = .ok (.i2l, 1) := by decide +kernel
theorem d_Law_checkpoint_7 : decode b_Law_checkpoint 7 = .ok (.lastore, 1) := by decide +kernel
theorem d_Law_checkpoint_8 : decode b_Law_checkpoint 8 = .ok (.goto 6, 3) := by decide +kernel
theorem d_Law_checkpoint_11 : decode b_Law_checkpoint 11 = .ok (.astore_n 2, 1) := by decide +kernel
theorem d_Law_checkpoint_12 : decode b_Law_checkpoint 12 = .ok (.iconst 1, 1) := by decide +kernel
theorem d_Law_checkpoint_13 : decode b_Law_checkpoint 13 = .ok (.ireturn, 1) := by decide +kernel
theorem d_Law_checkpoint_14 : decode b_Law_checkpoint 14 = .ok (.iconst 0, 1) := by decide +kernel
theorem d_Law_checkpoint_15 : decode b_Law_checkpoint 15 = .ok (.ireturn, 1) := by decide +kernel
theorem d_Law_value_0 : decode b_Law_value 0 = .ok (.aload 5, 2) := by decide +kernel
theorem d_Law_value_2 : decode b_Law_value 2 = .ok (.iconst 0, 1) := by decide +kernel
theorem d_Law_value_3 : decode b_Law_value 3 = .ok (.aload_n 0, 1) := by decide +kernel
theorem d_Law_value_4 : decode b_Law_value 4 = .ok (.iload_n 1, 1) := by decide +kernel
theorem d_Law_value_5 : decode b_Law_value 5 = .ok (.iload_n 2, 1) := by decide +kernel
theorem d_Law_value_6 : decode b_Law_value 6 = .ok (.iload_n 3, 1) := by decide +kernel
theorem d_Law_value_7 : decode b_Law_value 7 = .ok (.iload 4, 2) := by decide +kernel
theorem d_Law_value_9 : decode b_Law_value 9 = .ok (.invokevirtual 42, 3) := by decide +kernel
theorem d_Law_value_12 : decode b_Law_value 12 = .ok (.lastore, 1) := by decide +kernel
theorem d_Law_value_13 : decode b_Law_value 13 = .ok (.goto 7, 3) := by decide +kernel
theorem d_Law_value_16 : decode b_Law_value 16 = .ok (.astore 6, 2) := by decide +kernel
theorem d_Law_value_18 : decode b_Law_value 18 = .ok (.iconst 1, 1) := by decide +kernel
theorem d_Law_value_19 : decode b_Law_value 19 = .ok (.ireturn, 1) := by decide +kernel
theorem d_Law_value_20 : decode b_Law_value 20 = .ok (.iconst 0, 1) := by decide +kernel
theorem d_Law_value_21 : decode b_Law_value 21 = .ok (.ireturn, 1) := by decide +kernel
theorem d_Law_law_0 : decode b_Law_law 0 = .ok (.new 8, 3) := by decide +kernel
theorem d_Law_law_3 : decode b_Law_law 3 = .ok (.dup, 1) := by decide +kernel
theorem d_Law_law_4 : decode b_Law_law 4 = .ok (.invokespecial 48, 3) := by decide +kernel
theorem d_Law_law_7 : decode b_Law_law 7 = .ok (.astore_n 1, 1) := by decide +kernel
theorem d_Law_law_8 : decode b_Law_law 8 = .ok (.new 49, 3) := by decide +kernel
theorem d_Law_law_11 : decode b_Law_law 11 = .ok (.dup, 1) := by decide +kernel
theorem d_Law_law_12 : decode b_Law_law 12 = .ok (.invokespecial 51, 3) := by decide +kernel
theorem d_Law_law_15 : decode b_Law_law 15 = .ok (.astore_n 2, 1) := by decide +kernel
theorem d_Law_law_16 : decode b_Law_law 16 = .ok (.iconst 1, 1) := by decide +kernel
theorem d_Law_law_17 : decode b_Law_law 17 = .ok (.newarray .long, 2) := by decide +kernel
theorem d_Law_law_19 : decode b_Law_law 19 = .ok (.astore_n 3, 1) := by decide +kernel
theorem d_Law_law_20 : decode b_Law_law 20 = .ok (.iconst 0, 1) := by decide +kernel
theorem d_Law_law_21 : decode b_Law_law 21 = .ok (.istore 4, 2) := by decide +kernel
theorem d_Law_law_23 : decode b_Law_law 23 = .ok (.iload 4, 2) := by decide +kernel
theorem d_Law_law_25 : decode b_Law_law 25 = .ok (.aload_n 0, 1) := by decide +kernel
theorem d_Law_law_26 : decode b_Law_law 26 = .ok (.arraylength, 1) := by decide +kernel
theorem d_Law_law_27 : decode b_Law_law 27 = .ok (.bipush 7, 2) := by decide +kernel
theorem d_Law_law_29 : decode b_Law_law 29 = .ok (.isub, 1) := by decide +kernel
theorem d_Law_law_30 : decode b_Law_law 30 = .ok (.if_icmp .gt 1090, 3) := by decide +kernel
theorem d_Law_law_33 : decode b_Law_law 33 = .ok (.aload_n 0, 1) := by decide +kernel
theorem d_Law_law_34 : decode b_Law_law 34 = .ok (.iload 4, 2) := by decide +kernel
theorem d_Law_law_36 : decode b_Law_law 36 = .ok (.iaload, 1) := by decide +kernel
theorem d_Law_law_37 : decode b_Law_law 37 = .ok (.bipush 31, 2) := by decide +kernel
theorem d_Law_law_39 : decode b_Law_law 39 = .ok (.iand, 1) := by decide +kernel
theorem d_Law_law_40 : decode b_Law_law 40 = .ok (.tableswitch 1074 0 19 #[96, 165, 209, 312, 457, 537, 585, 598, 642, 655, 668, 712, 725, 769, 794, 807, 856, 921, 958, 1049], 96) := by decide +kernel
theorem d_Law_law_136 : decode b_Law_law 136 = .ok (.aload_n 1, 1) := by decide +kernel
theorem d_Law_law_137 : decode b_Law_law 137 = .ok (.aload_n 0, 1) := by decide +kernel
theorem d_Law_law_138 : decode b_Law_law 138 = .ok (.iload 4, 2) := by decide +kernel
theorem d_Law_law_140 : decode b_Law_law 140 = .ok (.iconst 1, 1) := by decide +kernel
theorem d_Law_law_141 : decode b_Law_law 141 = .ok (.iadd, 1) := by decide +kernel
theorem d_Law_law_142 : decode b_Law_law 142 = .ok (.iaload, 1) := by decide +kernel
theorem d_Law_law_143 : decode b_Law_law 143 = .ok (.i2l, 1) := by decide +kernel
theorem d_Law_law_144 : decode b_Law_law 144 = .ok (.bipush 32, 2) := by decide +kernel
theorem d_Law_law_146 : decode b_Law_law 146 = .ok (.lshl, 1) := by decide +kernel
theorem d_Law_law_147 : decode b_Law_law 147 = .ok (.aload_n 0, 1) := by decide +kernel
theorem d_Law_law_148 : decode b_Law_law 148 = .ok (.iload 4, 2) := by decide +kernel
theorem d_Law_law_150 : decode b_Law_law 150 = .ok (.iconst 2, 1) := by decide +kernel
theorem d_Law_law_151 : decode b_Law_law 151 = .ok (.iadd, 1) := by decide +kernel
theorem d_Law_law_152 : decode b_Law_law 152 = .ok (.iaload, 1) := by decide +kernel
theorem d_Law_law_153 : decode b_Law_law 153 = .ok (.i2l, 1) := by decide +kernel
theorem d_Law_law_154 : decode b_Law_law 154 = .ok (.ldc2_w 52, 3) := by decide +kernel
theorem d_Law_law_157 : decode b_Law_law 157 = .ok (.land, 1) := by decide +kernel
