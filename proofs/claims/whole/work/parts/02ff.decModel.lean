theorem d_Model_link_57 : decode b_Model_link 57 = .ok (.ifCond .ge 7, 3) := by decide +kernel
theorem d_Model_link_60 : decode b_Model_link 60 = .ok (.iconst 1, 1) := by decide +kernel
theorem d_Model_link_61 : decode b_Model_link 61 = .ok (.goto 4, 3) := by decide +kernel
theorem d_Model_link_64 : decode b_Model_link 64 = .ok (.iconst 0, 1) := by decide +kernel
theorem d_Model_link_65 : decode b_Model_link 65 = .ok (.iconst 0, 1) := by decide +kernel
theorem d_Model_link_66 : decode b_Model_link 66 = .ok (.iconst 0, 1) := by decide +kernel
theorem d_Model_link_67 : decode b_Model_link 67 = .ok (.iload 6, 2) := by decide +kernel
theorem d_Model_link_69 : decode b_Model_link 69 = .ok (.ifCond .ge 7, 3) := by decide +kernel
theorem d_Model_link_72 : decode b_Model_link 72 = .ok (.iconst 1, 1) := by decide +kernel
theorem d_Model_link_73 : decode b_Model_link 73 = .ok (.goto 4, 3) := by decide +kernel
theorem d_Model_link_76 : decode b_Model_link 76 = .ok (.iconst 0, 1) := by decide +kernel
theorem d_Model_link_77 : decode b_Model_link 77 = .ok (.iconst 1, 1) := by decide +kernel
theorem d_Model_link_78 : decode b_Model_link 78 = .ok (.invokevirtual 116, 3) := by decide +kernel
theorem d_Model_link_81 : decode b_Model_link 81 = .ok (.ifCond .eq 5, 3) := by decide +kernel
theorem d_Model_link_84 : decode b_Model_link 84 = .ok (.iconst 0, 1) := by decide +kernel
theorem d_Model_link_85 : decode b_Model_link 85 = .ok (.ireturn, 1) := by decide +kernel
theorem d_Model_link_86 : decode b_Model_link 86 = .ok (.aload_n 0, 1) := by decide +kernel
theorem d_Model_link_87 : decode b_Model_link 87 = .ok (.invokevirtual 120, 3) := by decide +kernel
theorem d_Model_link_90 : decode b_Model_link 90 = .ok (.aload_n 0, 1) := by decide +kernel
theorem d_Model_link_91 : decode b_Model_link 91 = .ok (.getfield 7, 3) := by decide +kernel
theorem d_Model_link_94 : decode b_Model_link 94 = .ok (.iload 6, 2) := by decide +kernel
theorem d_Model_link_96 : decode b_Model_link 96 = .ok (.iconst 1, 1) := by decide +kernel
theorem d_Model_link_97 : decode b_Model_link 97 = .ok (.bastore, 1) := by decide +kernel
theorem d_Model_link_98 : decode b_Model_link 98 = .ok (.aload_n 0, 1) := by decide +kernel
theorem d_Model_link_99 : decode b_Model_link 99 = .ok (.getfield 13, 3) := by decide +kernel
theorem d_Model_link_102 : decode b_Model_link 102 = .ok (.iload 6, 2) := by decide +kernel
theorem d_Model_link_104 : decode b_Model_link 104 = .ok (.iload_n 1, 1) := by decide +kernel
theorem d_Model_link_105 : decode b_Model_link 105 = .ok (.iastore, 1) := by decide +kernel
theorem d_Model_link_106 : decode b_Model_link 106 = .ok (.aload_n 0, 1) := by decide +kernel
theorem d_Model_link_107 : decode b_Model_link 107 = .ok (.getfield 17, 3) := by decide +kernel
theorem d_Model_link_110 : decode b_Model_link 110 = .ok (.iload 6, 2) := by decide +kernel
theorem d_Model_link_112 : decode b_Model_link 112 = .ok (.iload_n 2, 1) := by decide +kernel
theorem d_Model_link_113 : decode b_Model_link 113 = .ok (.iastore, 1) := by decide +kernel
theorem d_Model_link_114 : decode b_Model_link 114 = .ok (.aload_n 0, 1) := by decide +kernel
theorem d_Model_link_115 : decode b_Model_link 115 = .ok (.getfield 20, 3) := by decide +kernel
theorem d_Model_link_118 : decode b_Model_link 118 = .ok (.iload 6, 2) := by decide +kernel
theorem d_Model_link_120 : decode b_Model_link 120 = .ok (.iload_n 3, 1) := by decide +kernel
theorem d_Model_link_121 : decode b_Model_link 121 = .ok (.iastore, 1) := by decide +kernel
theorem d_Model_link_122 : decode b_Model_link 122 = .ok (.aload_n 0, 1) := by decide +kernel
theorem d_Model_link_123 : decode b_Model_link 123 = .ok (.getfield 23, 3) := by decide +kernel
theorem d_Model_link_126 : decode b_Model_link 126 = .ok (.iload 6, 2) := by decide +kernel
theorem d_Model_link_128 : decode b_Model_link 128 = .ok (.iconst 0, 1) := by decide +kernel
theorem d_Model_link_129 : decode b_Model_link 129 = .ok (.iastore, 1) := by decide +kernel
theorem d_Model_link_130 : decode b_Model_link 130 = .ok (.aload_n 0, 1) := by decide +kernel
theorem d_Model_link_131 : decode b_Model_link 131 = .ok (.getfield 29, 3) := by decide +kernel
theorem d_Model_link_134 : decode b_Model_link 134 = .ok (.iload 6, 2) := by decide +kernel
theorem d_Model_link_136 : decode b_Model_link 136 = .ok (.iconst 0, 1) := by decide +kernel
theorem d_Model_link_137 : decode b_Model_link 137 = .ok (.iastore, 1) := by decide +kernel
theorem d_Model_link_138 : decode b_Model_link 138 = .ok (.iload 6, 2) := by decide +kernel
theorem d_Model_link_140 : decode b_Model_link 140 = .ok (.bipush 64, 2) := by decide +kernel
theorem d_Model_link_142 : decode b_Model_link 142 = .ok (.isub, 1) := by decide +kernel
theorem d_Model_link_143 : decode b_Model_link 143 = .ok (.ireturn, 1) := by decide +kernel
theorem d_Model_take_0 : decode b_Model_take 0 = .ok (.aload_n 0, 1) := by decide +kernel
theorem d_Model_take_1 : decode b_Model_take 1 = .ok (.getfield 62, 3) := by decide +kernel
theorem d_Model_take_4 : decode b_Model_take 4 = .ok (.ifCond .eq 7, 3) := by decide +kernel
theorem d_Model_take_7 : decode b_Model_take 7 = .ok (.iconst (-1), 1) := by decide +kernel
theorem d_Model_take_8 : decode b_Model_take 8 = .ok (.goto 9, 3) := by decide +kernel
theorem d_Model_take_11 : decode b_Model_take 11 = .ok (.aload_n 0, 1) := by decide +kernel
theorem d_Model_take_12 : decode b_Model_take 12 = .ok (.iload_n 1, 1) := by decide +kernel
theorem d_Model_take_13 : decode b_Model_take 13 = .ok (.iload_n 2, 1) := by decide +kernel
theorem d_Model_take_14 : decode b_Model_take 14 = .ok (.invokevirtual 123, 3) := by decide +kernel
theorem d_Model_take_17 : decode b_Model_take 17 = .ok (.istore_n 3, 1) := by decide +kernel
theorem d_Model_take_18 : decode b_Model_take 18 = .ok (.iload_n 3, 1) := by decide +kernel
theorem d_Model_take_19 : decode b_Model_take 19 = .ok (.ifCond .lt 28, 3) := by decide +kernel
theorem d_Model_take_22 : decode b_Model_take 22 = .ok (.iload_n 1, 1) := by decide +kernel
theorem d_Model_take_23 : decode b_Model_take 23 = .ok (.iconst 4, 1) := by decide +kernel
theorem d_Model_take_24 : decode b_Model_take 24 = .ok (.if_icmp .ne 23, 3) := by decide +kernel
theorem d_Model_take_27 : decode b_Model_take 27 = .ok (.aload_n 0, 1) := by decide +kernel
theorem d_Model_take_28 : decode b_Model_take 28 = .ok (.iload_n 2, 1) := by decide +kernel
theorem d_Model_take_29 : decode b_Model_take 29 = .ok (.iconst 1, 1) := by decide +kernel
theorem d_Model_take_30 : decode b_Model_take 30 = .ok (.invokevirtual 144, 3) := by decide +kernel
theorem d_Model_take_33 : decode b_Model_take 33 = .ok (.aload_n 0, 1) := by decide +kernel
theorem d_Model_take_34 : decode b_Model_take 34 = .ok (.iload_n 2, 1) := by decide +kernel
theorem d_Model_take_35 : decode b_Model_take 35 = .ok (.iconst 0, 1) := by decide +kernel
theorem d_Model_take_36 : decode b_Model_take 36 = .ok (.invokevirtual 144, 3) := by decide +kernel
theorem d_Model_take_39 : decode b_Model_take 39 = .ok (.iadd, 1) := by decide +kernel
theorem d_Model_take_40 : decode b_Model_take 40 = .ok (.ifCond .le 7, 3) := by decide +kernel
theorem d_Model_take_43 : decode b_Model_take 43 = .ok (.iconst 1, 1) := by decide +kernel
theorem d_Model_take_44 : decode b_Model_take 44 = .ok (.goto 4, 3) := by decide +kernel
theorem d_Model_take_47 : decode b_Model_take 47 = .ok (.iconst 0, 1) := by decide +kernel
theorem d_Model_take_48 : decode b_Model_take 48 = .ok (.istore 4, 2) := by decide +kernel
theorem d_Model_take_50 : decode b_Model_take 50 = .ok (.aload_n 0, 1) := by decide +kernel
theorem d_Model_take_51 : decode b_Model_take 51 = .ok (.iload_n 3, 1) := by decide +kernel
theorem d_Model_take_52 : decode b_Model_take 52 = .ok (.ifCond .ge 7, 3) := by decide +kernel
theorem d_Model_take_55 : decode b_Model_take 55 = .ok (.iconst 1, 1) := by decide +kernel
theorem d_Model_take_56 : decode b_Model_take 56 = .ok (.goto 4, 3) := by decide +kernel
theorem d_Model_take_59 : decode b_Model_take 59 = .ok (.iconst 0, 1) := by decide +kernel
theorem d_Model_take_60 : decode b_Model_take 60 = .ok (.iconst 0, 1) := by decide +kernel
theorem d_Model_take_61 : decode b_Model_take 61 = .ok (.iload 4, 2) := by decide +kernel
theorem d_Model_take_63 : decode b_Model_take 63 = .ok (.iconst 0, 1) := by decide +kernel
theorem d_Model_take_64 : decode b_Model_take 64 = .ok (.iconst 1, 1) := by decide +kernel
theorem d_Model_take_65 : decode b_Model_take 65 = .ok (.invokevirtual 116, 3) := by decide +kernel
theorem d_Model_take_68 : decode b_Model_take 68 = .ok (.ifCond .ne 21, 3) := by decide +kernel
theorem d_Model_take_71 : decode b_Model_take 71 = .ok (.aload_n 0, 1) := by decide +kernel
theorem d_Model_take_72 : decode b_Model_take 72 = .ok (.invokevirtual 120, 3) := by decide +kernel
theorem d_Model_take_75 : decode b_Model_take 75 = .ok (.aload_n 0, 1) := by decide +kernel
theorem d_Model_take_76 : decode b_Model_take 76 = .ok (.getfield 7, 3) := by decide +kernel
theorem d_Model_take_79 : decode b_Model_take 79 = .ok (.iload_n 3, 1) := by decide +kernel
theorem d_Model_take_80 : decode b_Model_take 80 = .ok (.iconst 0, 1) := by decide +kernel
theorem d_Model_take_81 : decode b_Model_take 81 = .ok (.bastore, 1) := by decide +kernel
theorem d_Model_take_82 : decode b_Model_take 82 = .ok (.aload_n 0, 1) := by decide +kernel
theorem d_Model_take_83 : decode b_Model_take 83 = .ok (.getfield 45, 3) := by decide +kernel
theorem d_Model_take_86 : decode b_Model_take 86 = .ok (.iload_n 3, 1) := by decide +kernel
theorem d_Model_take_87 : decode b_Model_take 87 = .ok (.iconst 1, 1) := by decide +kernel
theorem d_Model_take_88 : decode b_Model_take 88 = .ok (.bastore, 1) := by decide +kernel
theorem d_Model_take_89 : decode b_Model_take 89 = .ok (.return_, 1) := by decide +kernel
theorem d_Model_error_0 : decode b_Model_error 0 = .ok (.aload_n 0, 1) := by decide +kernel
theorem d_Model_error_1 : decode b_Model_error 1 = .ok (.iconst 0, 1) := by decide +kernel
theorem d_Model_error_2 : decode b_Model_error 2 = .ok (.putfield 51, 3) := by decide +kernel
theorem d_Model_error_5 : decode b_Model_error 5 = .ok (.aload_n 0, 1) := by decide +kernel
theorem d_Model_error_6 : decode b_Model_error 6 = .ok (.getfield 69, 3) := by decide +kernel
theorem d_Model_error_9 : decode b_Model_error 9 = .ok (.ireturn, 1) := by decide +kernel
theorem d_Model_done_0 : decode b_Model_done 0 = .ok (.aload_n 0, 1) := by decide +kernel
theorem d_Model_done_1 : decode b_Model_done 1 = .ok (.aload_n 0, 1) := by decide +kernel
theorem d_Model_done_2 : decode b_Model_done 2 = .ok (.getfield 62, 3) := by decide +kernel
theorem d_Model_done_5 : decode b_Model_done 5 = .ok (.ifCond .eq 7, 3) := by decide +kernel
theorem d_Model_done_8 : decode b_Model_done 8 = .ok (.iconst 2, 1) := by decide +kernel
theorem d_Model_done_9 : decode b_Model_done 9 = .ok (.goto 4, 3) := by decide +kernel
theorem d_Model_done_12 : decode b_Model_done 12 = .ok (.iconst 0, 1) := by decide +kernel
theorem d_Model_done_13 : decode b_Model_done 13 = .ok (.putfield 51, 3) := by decide +kernel
theorem d_Model_done_16 : decode b_Model_done 16 = .ok (.aload_n 0, 1) := by decide +kernel
theorem d_Model_done_17 : decode b_Model_done 17 = .ok (.getfield 62, 3) := by decide +kernel
theorem d_Model_done_20 : decode b_Model_done 20 = .ok (.ifCond .eq 5, 3) := by decide +kernel
theorem d_Model_done_23 : decode b_Model_done 23 = .ok (.iconst 0, 1) := by decide +kernel
theorem d_Model_done_24 : decode b_Model_done 24 = .ok (.ireturn, 1) := by decide +kernel
theorem d_Model_done_25 : decode b_Model_done 25 = .ok (.aload_n 0, 1) := by decide +kernel
theorem d_Model_done_26 : decode b_Model_done 26 = .ok (.getfield 59, 3) := by decide +kernel
theorem d_Model_done_29 : decode b_Model_done 29 = .ok (.istore_n 1, 1) := by decide +kernel
theorem d_Model_done_30 : decode b_Model_done 30 = .ok (.aload_n 0, 1) := by decide +kernel
theorem d_Model_done_31 : decode b_Model_done 31 = .ok (.getfield 81, 3) := by decide +kernel
theorem d_Model_done_34 : decode b_Model_done 34 = .ok (.ifCond .eq 19, 3) := by decide +kernel
theorem d_Model_done_37 : decode b_Model_done 37 = .ok (.aload_n 0, 1) := by decide +kernel
theorem d_Model_done_38 : decode b_Model_done 38 = .ok (.dup, 1) := by decide +kernel
theorem d_Model_done_39 : decode b_Model_done 39 = .ok (.getfield 66, 3) := by decide +kernel
theorem d_Model_done_42 : decode b_Model_done 42 = .ok (.iload_n 1, 1) := by decide +kernel
theorem d_Model_done_43 : decode b_Model_done 43 = .ok (.iadd, 1) := by decide +kernel
theorem d_Model_done_44 : decode b_Model_done 44 = .ok (.putfield 66, 3) := by decide +kernel
theorem d_Model_done_47 : decode b_Model_done 47 = .ok (.aload_n 0, 1) := by decide +kernel
theorem d_Model_done_48 : decode b_Model_done 48 = .ok (.invokevirtual 75, 3) := by decide +kernel
theorem d_Model_done_51 : decode b_Model_done 51 = .ok (.iload_n 1, 1) := by decide +kernel
theorem d_Model_done_52 : decode b_Model_done 52 = .ok (.ireturn, 1) := by decide +kernel
theorem d_Model_done_53 : decode b_Model_done 53 = .ok (.iload_n 1, 1) := by decide +kernel
theorem d_Model_done_54 : decode b_Model_done 54 = .ok (.ifCond .ne 9, 3) := by decide +kernel
theorem d_Model_done_57 : decode b_Model_done 57 = .ok (.aload_n 0, 1) := by decide +kernel
theorem d_Model_done_58 : decode b_Model_done 58 = .ok (.invokevirtual 75, 3) := by decide +kernel
theorem d_Model_done_61 : decode b_Model_done 61 = .ok (.iconst 0, 1) := by decide +kernel
theorem d_Model_done_62 : decode b_Model_done 62 = .ok (.ireturn, 1) := by decide +kernel
theorem d_Model_done_63 : decode b_Model_done 63 = .ok (.aload_n 0, 1) := by decide +kernel
theorem d_Model_done_64 : decode b_Model_done 64 = .ok (.iload_n 1, 1) := by decide +kernel
theorem d_Model_done_65 : decode b_Model_done 65 = .ok (.invokevirtual 148, 3) := by decide +kernel
theorem d_Model_done_68 : decode b_Model_done 68 = .ok (.ifCond .ne 20, 3) := by decide +kernel
theorem d_Model_done_71 : decode b_Model_done 71 = .ok (.aload_n 0, 1) := by decide +kernel
theorem d_Model_done_72 : decode b_Model_done 72 = .ok (.invokevirtual 152, 3) := by decide +kernel
theorem d_Model_done_75 : decode b_Model_done 75 = .ok (.aload_n 0, 1) := by decide +kernel
theorem d_Model_done_76 : decode b_Model_done 76 = .ok (.bipush 9, 2) := by decide +kernel
theorem d_Model_done_78 : decode b_Model_done 78 = .ok (.putfield 69, 3) := by decide +kernel
theorem d_Model_done_81 : decode b_Model_done 81 = .ok (.aload_n 0, 1) := by decide +kernel
theorem d_Model_done_82 : decode b_Model_done 82 = .ok (.iconst 1, 1) := by decide +kernel
theorem d_Model_done_83 : decode b_Model_done 83 = .ok (.putfield 51, 3) := by decide +kernel
theorem d_Model_done_86 : decode b_Model_done 86 = .ok (.iconst 0, 1) := by decide +kernel
theorem d_Model_done_87 : decode b_Model_done 87 = .ok (.ireturn, 1) := by decide +kernel
theorem d_Model_done_88 : decode b_Model_done 88 = .ok (.aload_n 0, 1) := by decide +kernel
theorem d_Model_done_89 : decode b_Model_done 89 = .ok (.iload_n 1, 1) := by decide +kernel
theorem d_Model_done_90 : decode b_Model_done 90 = .ok (.invokevirtual 155, 3) := by decide +kernel
theorem d_Model_done_93 : decode b_Model_done 93 = .ok (.ifCond .ne 10, 3) := by decide +kernel
theorem d_Model_done_96 : decode b_Model_done 96 = .ok (.aload_n 0, 1) := by decide +kernel
theorem d_Model_done_97 : decode b_Model_done 97 = .ok (.iconst 2, 1) := by decide +kernel
theorem d_Model_done_98 : decode b_Model_done 98 = .ok (.putfield 51, 3) := by decide +kernel
theorem d_Model_done_101 : decode b_Model_done 101 = .ok (.iconst 0, 1) := by decide +kernel
theorem d_Model_done_102 : decode b_Model_done 102 = .ok (.ireturn, 1) := by decide +kernel
theorem d_Model_done_103 : decode b_Model_done 103 = .ok (.aload_n 0, 1) := by decide +kernel
theorem d_Model_done_104 : decode b_Model_done 104 = .ok (.invokevirtual 75, 3) := by decide +kernel
theorem d_Model_done_107 : decode b_Model_done 107 = .ok (.iload_n 1, 1) := by decide +kernel
theorem d_Model_done_108 : decode b_Model_done 108 = .ok (.ireturn, 1) := by decide +kernel
theorem d_Model_undo_0 : decode b_Model_undo 0 = .ok (.aload_n 0, 1) := by decide +kernel
theorem d_Model_undo_1 : decode b_Model_undo 1 = .ok (.iconst 0, 1) := by decide +kernel
theorem d_Model_undo_2 : decode b_Model_undo 2 = .ok (.putfield 51, 3) := by decide +kernel
theorem d_Model_undo_5 : decode b_Model_undo 5 = .ok (.aload_n 0, 1) := by decide +kernel
theorem d_Model_undo_6 : decode b_Model_undo 6 = .ok (.getfield 59, 3) := by decide +kernel
theorem d_Model_undo_9 : decode b_Model_undo 9 = .ok (.istore_n 1, 1) := by decide +kernel
theorem d_Model_undo_10 : decode b_Model_undo 10 = .ok (.aload_n 0, 1) := by decide +kernel
theorem d_Model_undo_11 : decode b_Model_undo 11 = .ok (.getfield 62, 3) := by decide +kernel
theorem d_Model_undo_14 : decode b_Model_undo 14 = .ok (.ifCond .ne 7, 3) := by decide +kernel
theorem d_Model_undo_17 : decode b_Model_undo 17 = .ok (.aload_n 0, 1) := by decide +kernel
theorem d_Model_undo_18 : decode b_Model_undo 18 = .ok (.invokevirtual 152, 3) := by decide +kernel
theorem d_Model_undo_21 : decode b_Model_undo 21 = .ok (.iload_n 1, 1) := by decide +kernel
theorem d_Model_undo_22 : decode b_Model_undo 22 = .ok (.ireturn, 1) := by decide +kernel
theorem d_Model_begin_0 : decode b_Model_begin 0 = .ok (.aload_n 0, 1) := by decide +kernel
theorem d_Model_begin_1 : decode b_Model_begin 1 = .ok (.iconst 0, 1) := by decide +kernel
theorem d_Model_begin_2 : decode b_Model_begin 2 = .ok (.putfield 51, 3) := by decide +kernel
theorem d_Model_begin_5 : decode b_Model_begin 5 = .ok (.aload_n 0, 1) := by decide +kernel
theorem d_Model_begin_6 : decode b_Model_begin 6 = .ok (.getfield 62, 3) := by decide +kernel
theorem d_Model_begin_9 : decode b_Model_begin 9 = .ok (.ifCond .ne 10, 3) := by decide +kernel
theorem d_Model_begin_12 : decode b_Model_begin 12 = .ok (.aload_n 0, 1) := by decide +kernel
theorem d_Model_begin_13 : decode b_Model_begin 13 = .ok (.getfield 81, 3) := by decide +kernel
theorem d_Model_begin_16 : decode b_Model_begin 16 = .ok (.ifCond .eq 5, 3) := by decide +kernel
theorem d_Model_begin_19 : decode b_Model_begin 19 = .ok (.iconst 0, 1) := by decide +kernel
theorem d_Model_begin_20 : decode b_Model_begin 20 = .ok (.ireturn, 1) := by decide +kernel
theorem d_Model_begin_21 : decode b_Model_begin 21 = .ok (.aload_n 0, 1) := by decide +kernel
theorem d_Model_begin_22 : decode b_Model_begin 22 = .ok (.invokevirtual 152, 3) := by decide +kernel
theorem d_Model_begin_25 : decode b_Model_begin 25 = .ok (.aload_n 0, 1) := by decide +kernel
theorem d_Model_begin_26 : decode b_Model_begin 26 = .ok (.iconst 1, 1) := by decide +kernel
theorem d_Model_begin_27 : decode b_Model_begin 27 = .ok (.putfield 81, 3) := by decide +kernel
theorem d_Model_begin_30 : decode b_Model_begin 30 = .ok (.aload_n 0, 1) := by decide +kernel
theorem d_Model_begin_31 : decode b_Model_begin 31 = .ok (.iconst 0, 1) := by decide +kernel
theorem d_Model_begin_32 : decode b_Model_begin 32 = .ok (.putfield 66, 3) := by decide +kernel
theorem d_Model_begin_35 : decode b_Model_begin 35 = .ok (.aload_n 0, 1) := by decide +kernel
theorem d_Model_begin_36 : decode b_Model_begin 36 = .ok (.iconst 0, 1) := by decide +kernel
theorem d_Model_begin_37 : decode b_Model_begin 37 = .ok (.iconst 2, 1) := by decide +kernel
theorem d_Model_begin_38 : decode b_Model_begin 38 = .ok (.invokevirtual 72, 3) := by decide +kernel
theorem d_Model_begin_41 : decode b_Model_begin 41 = .ok (.iconst 1, 1) := by decide +kernel
theorem d_Model_begin_42 : decode b_Model_begin 42 = .ok (.ireturn, 1) := by decide +kernel
theorem d_Model_commit_0 : decode b_Model_commit 0 = .ok (.aload_n 0, 1) := by decide +kernel
theorem d_Model_commit_1 : decode b_Model_commit 1 = .ok (.aload_n 0, 1) := by decide +kernel
theorem d_Model_commit_2 : decode b_Model_commit 2 = .ok (.getfield 62, 3) := by decide +kernel
theorem d_Model_commit_5 : decode b_Model_commit 5 = .ok (.ifCond .eq 7, 3) := by decide +kernel
theorem d_Model_commit_8 : decode b_Model_commit 8 = .ok (.iconst 1, 1) := by decide +kernel
theorem d_Model_commit_9 : decode b_Model_commit 9 = .ok (.goto 4, 3) := by decide +kernel
theorem d_Model_commit_12 : decode b_Model_commit 12 = .ok (.iconst 0, 1) := by decide +kernel
theorem d_Model_commit_13 : decode b_Model_commit 13 = .ok (.putfield 51, 3) := by decide +kernel
theorem d_Model_commit_16 : decode b_Model_commit 16 = .ok (.aload_n 0, 1) := by decide +kernel
theorem d_Model_commit_17 : decode b_Model_commit 17 = .ok (.getfield 62, 3) := by decide +kernel
theorem d_Model_commit_20 : decode b_Model_commit 20 = .ok (.ifCond .ne 10, 3) := by decide +kernel
theorem d_Model_commit_23 : decode b_Model_commit 23 = .ok (.aload_n 0, 1) := by decide +kernel
theorem d_Model_commit_24 : decode b_Model_commit 24 = .ok (.getfield 81, 3) := by decide +kernel
theorem d_Model_commit_27 : decode b_Model_commit 27 = .ok (.ifCond .ne 16, 3) := by decide +kernel
theorem d_Model_commit_30 : decode b_Model_commit 30 = .ok (.aload_n 0, 1) := by decide +kernel
theorem d_Model_commit_31 : decode b_Model_commit 31 = .ok (.getfield 62, 3) := by decide +kernel
theorem d_Model_commit_34 : decode b_Model_commit 34 = .ok (.ifCond .eq 7, 3) := by decide +kernel
theorem d_Model_commit_37 : decode b_Model_commit 37 = .ok (.iconst 0, 1) := by decide +kernel
theorem d_Model_commit_38 : decode b_Model_commit 38 = .ok (.goto 4, 3) := by decide +kernel
theorem d_Model_commit_41 : decode b_Model_commit 41 = .ok (.iconst (-1), 1) := by decide +kernel
theorem d_Model_commit_42 : decode b_Model_commit 42 = .ok (.ireturn, 1) := by decide +kernel
theorem d_Model_commit_43 : decode b_Model_commit 43 = .ok (.aload_n 0, 1) := by decide +kernel
theorem d_Model_commit_44 : decode b_Model_commit 44 = .ok (.dup, 1) := by decide +kernel
theorem d_Model_commit_45 : decode b_Model_commit 45 = .ok (.getfield 66, 3) := by decide +kernel
theorem d_Model_commit_48 : decode b_Model_commit 48 = .ok (.aload_n 0, 1) := by decide +kernel
theorem d_Model_commit_49 : decode b_Model_commit 49 = .ok (.getfield 59, 3) := by decide +kernel
theorem d_Model_commit_52 : decode b_Model_commit 52 = .ok (.iadd, 1) := by decide +kernel
theorem d_Model_commit_53 : decode b_Model_commit 53 = .ok (.putfield 66, 3) := by decide +kernel
theorem d_Model_commit_56 : decode b_Model_commit 56 = .ok (.aload_n 0, 1) := by decide +kernel
theorem d_Model_commit_57 : decode b_Model_commit 57 = .ok (.invokevirtual 75, 3) := by decide +kernel
theorem d_Model_commit_60 : decode b_Model_commit 60 = .ok (.aload_n 0, 1) := by decide +kernel
theorem d_Model_commit_61 : decode b_Model_commit 61 = .ok (.getfield 66, 3) := by decide +kernel
theorem d_Model_commit_64 : decode b_Model_commit 64 = .ok (.istore_n 1, 1) := by decide +kernel
theorem d_Model_commit_65 : decode b_Model_commit 65 = .ok (.iload_n 1, 1) := by decide +kernel
theorem d_Model_commit_66 : decode b_Model_commit 66 = .ok (.ifCond .le 14, 3) := by decide +kernel
theorem d_Model_commit_69 : decode b_Model_commit 69 = .ok (.aload_n 0, 1) := by decide +kernel
theorem d_Model_commit_70 : decode b_Model_commit 70 = .ok (.iload_n 1, 1) := by decide +kernel
theorem d_Model_commit_71 : decode b_Model_commit 71 = .ok (.invokevirtual 148, 3) := by decide +kernel
