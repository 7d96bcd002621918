theorem d_Model_commit_74 : decode b_Model_commit 74 = .ok (.ifCond .ne 6, 3) := by decide +kernel
theorem d_Model_commit_77 : decode b_Model_commit 77 = .ok (.bipush (-2), 2) := by decide +kernel
theorem d_Model_commit_79 : decode b_Model_commit 79 = .ok (.ireturn, 1) := by decide +kernel
theorem d_Model_commit_80 : decode b_Model_commit 80 = .ok (.iload_n 1, 1) := by decide +kernel
theorem d_Model_commit_81 : decode b_Model_commit 81 = .ok (.ifCond .le 18, 3) := by decide +kernel
theorem d_Model_commit_84 : decode b_Model_commit 84 = .ok (.aload_n 0, 1) := by decide +kernel
theorem d_Model_commit_85 : decode b_Model_commit 85 = .ok (.iload_n 1, 1) := by decide +kernel
theorem d_Model_commit_86 : decode b_Model_commit 86 = .ok (.invokevirtual 155, 3) := by decide +kernel
theorem d_Model_commit_89 : decode b_Model_commit 89 = .ok (.ifCond .ne 10, 3) := by decide +kernel
theorem d_Model_commit_92 : decode b_Model_commit 92 = .ok (.aload_n 0, 1) := by decide +kernel
theorem d_Model_commit_93 : decode b_Model_commit 93 = .ok (.iconst 1, 1) := by decide +kernel
theorem d_Model_commit_94 : decode b_Model_commit 94 = .ok (.putfield 51, 3) := by decide +kernel
theorem d_Model_commit_97 : decode b_Model_commit 97 = .ok (.iconst 0, 1) := by decide +kernel
theorem d_Model_commit_98 : decode b_Model_commit 98 = .ok (.ireturn, 1) := by decide +kernel
theorem d_Model_commit_99 : decode b_Model_commit 99 = .ok (.aload_n 0, 1) := by decide +kernel
theorem d_Model_commit_100 : decode b_Model_commit 100 = .ok (.iconst 0, 1) := by decide +kernel
theorem d_Model_commit_101 : decode b_Model_commit 101 = .ok (.putfield 81, 3) := by decide +kernel
theorem d_Model_commit_104 : decode b_Model_commit 104 = .ok (.aload_n 0, 1) := by decide +kernel
theorem d_Model_commit_105 : decode b_Model_commit 105 = .ok (.iconst 0, 1) := by decide +kernel
theorem d_Model_commit_106 : decode b_Model_commit 106 = .ok (.putfield 66, 3) := by decide +kernel
theorem d_Model_commit_109 : decode b_Model_commit 109 = .ok (.iload_n 1, 1) := by decide +kernel
theorem d_Model_commit_110 : decode b_Model_commit 110 = .ok (.ifCond .le 9, 3) := by decide +kernel
theorem d_Model_commit_113 : decode b_Model_commit 113 = .ok (.iload_n 1, 1) := by decide +kernel
theorem d_Model_commit_114 : decode b_Model_commit 114 = .ok (.iconst 1, 1) := by decide +kernel
theorem d_Model_commit_115 : decode b_Model_commit 115 = .ok (.iadd, 1) := by decide +kernel
theorem d_Model_commit_116 : decode b_Model_commit 116 = .ok (.goto 4, 3) := by decide +kernel
theorem d_Model_commit_119 : decode b_Model_commit 119 = .ok (.iconst 0, 1) := by decide +kernel
theorem d_Model_commit_120 : decode b_Model_commit 120 = .ok (.ireturn, 1) := by decide +kernel
theorem d_Model_rollback_0 : decode b_Model_rollback 0 = .ok (.aload_n 0, 1) := by decide +kernel
theorem d_Model_rollback_1 : decode b_Model_rollback 1 = .ok (.iconst 0, 1) := by decide +kernel
theorem d_Model_rollback_2 : decode b_Model_rollback 2 = .ok (.putfield 51, 3) := by decide +kernel
theorem d_Model_rollback_5 : decode b_Model_rollback 5 = .ok (.aload_n 0, 1) := by decide +kernel
theorem d_Model_rollback_6 : decode b_Model_rollback 6 = .ok (.getfield 81, 3) := by decide +kernel
theorem d_Model_rollback_9 : decode b_Model_rollback 9 = .ok (.ifCond .ne 5, 3) := by decide +kernel
theorem d_Model_rollback_12 : decode b_Model_rollback 12 = .ok (.iconst 0, 1) := by decide +kernel
theorem d_Model_rollback_13 : decode b_Model_rollback 13 = .ok (.ireturn, 1) := by decide +kernel
theorem d_Model_rollback_14 : decode b_Model_rollback 14 = .ok (.aload_n 0, 1) := by decide +kernel
theorem d_Model_rollback_15 : decode b_Model_rollback 15 = .ok (.iconst 2, 1) := by decide +kernel
theorem d_Model_rollback_16 : decode b_Model_rollback 16 = .ok (.iconst 0, 1) := by decide +kernel
theorem d_Model_rollback_17 : decode b_Model_rollback 17 = .ok (.invokevirtual 72, 3) := by decide +kernel
theorem d_Model_rollback_20 : decode b_Model_rollback 20 = .ok (.aload_n 0, 1) := by decide +kernel
theorem d_Model_rollback_21 : decode b_Model_rollback 21 = .ok (.invokevirtual 75, 3) := by decide +kernel
theorem d_Model_rollback_24 : decode b_Model_rollback 24 = .ok (.aload_n 0, 1) := by decide +kernel
theorem d_Model_rollback_25 : decode b_Model_rollback 25 = .ok (.iconst 0, 1) := by decide +kernel
theorem d_Model_rollback_26 : decode b_Model_rollback 26 = .ok (.putfield 81, 3) := by decide +kernel
theorem d_Model_rollback_29 : decode b_Model_rollback 29 = .ok (.aload_n 0, 1) := by decide +kernel
theorem d_Model_rollback_30 : decode b_Model_rollback 30 = .ok (.iconst 0, 1) := by decide +kernel
theorem d_Model_rollback_31 : decode b_Model_rollback 31 = .ok (.putfield 66, 3) := by decide +kernel
theorem d_Model_rollback_34 : decode b_Model_rollback 34 = .ok (.iconst 1, 1) := by decide +kernel
theorem d_Model_rollback_35 : decode b_Model_rollback 35 = .ok (.ireturn, 1) := by decide +kernel
theorem d_Model_count_0 : decode b_Model_count 0 = .ok (.iconst 0, 1) := by decide +kernel
theorem d_Model_count_1 : decode b_Model_count 1 = .ok (.istore_n 3, 1) := by decide +kernel
theorem d_Model_count_2 : decode b_Model_count 2 = .ok (.iload_n 1, 1) := by decide +kernel
theorem d_Model_count_3 : decode b_Model_count 3 = .ok (.istore 4, 2) := by decide +kernel
theorem d_Model_count_5 : decode b_Model_count 5 = .ok (.iload 4, 2) := by decide +kernel
theorem d_Model_count_7 : decode b_Model_count 7 = .ok (.iload_n 2, 1) := by decide +kernel
theorem d_Model_count_8 : decode b_Model_count 8 = .ok (.if_icmp .ge 27, 3) := by decide +kernel
theorem d_Model_count_11 : decode b_Model_count 11 = .ok (.iload_n 3, 1) := by decide +kernel
theorem d_Model_count_12 : decode b_Model_count 12 = .ok (.aload_n 0, 1) := by decide +kernel
theorem d_Model_count_13 : decode b_Model_count 13 = .ok (.getfield 7, 3) := by decide +kernel
theorem d_Model_count_16 : decode b_Model_count 16 = .ok (.iload 4, 2) := by decide +kernel
theorem d_Model_count_18 : decode b_Model_count 18 = .ok (.baload, 1) := by decide +kernel
theorem d_Model_count_19 : decode b_Model_count 19 = .ok (.ifCond .eq 7, 3) := by decide +kernel
theorem d_Model_count_22 : decode b_Model_count 22 = .ok (.iconst 1, 1) := by decide +kernel
theorem d_Model_count_23 : decode b_Model_count 23 = .ok (.goto 4, 3) := by decide +kernel
theorem d_Model_count_26 : decode b_Model_count 26 = .ok (.iconst 0, 1) := by decide +kernel
theorem d_Model_count_27 : decode b_Model_count 27 = .ok (.iadd, 1) := by decide +kernel
theorem d_Model_count_28 : decode b_Model_count 28 = .ok (.istore_n 3, 1) := by decide +kernel
theorem d_Model_count_29 : decode b_Model_count 29 = .ok (.iinc 4 1, 3) := by decide +kernel
theorem d_Model_count_32 : decode b_Model_count 32 = .ok (.goto (-27), 3) := by decide +kernel
theorem d_Model_count_35 : decode b_Model_count 35 = .ok (.iload_n 3, 1) := by decide +kernel
theorem d_Model_count_36 : decode b_Model_count 36 = .ok (.ireturn, 1) := by decide +kernel
theorem d_Model_checkpoint_0 : decode b_Model_checkpoint 0 = .ok (.aload_n 0, 1) := by decide +kernel
theorem d_Model_checkpoint_1 : decode b_Model_checkpoint 1 = .ok (.aload_n 0, 1) := by decide +kernel
theorem d_Model_checkpoint_2 : decode b_Model_checkpoint 2 = .ok (.getfield 62, 3) := by decide +kernel
theorem d_Model_checkpoint_5 : decode b_Model_checkpoint 5 = .ok (.ifCond .eq 7, 3) := by decide +kernel
theorem d_Model_checkpoint_8 : decode b_Model_checkpoint 8 = .ok (.iconst 1, 1) := by decide +kernel
theorem d_Model_checkpoint_9 : decode b_Model_checkpoint 9 = .ok (.goto 4, 3) := by decide +kernel
theorem d_Model_checkpoint_12 : decode b_Model_checkpoint 12 = .ok (.iconst 0, 1) := by decide +kernel
theorem d_Model_checkpoint_13 : decode b_Model_checkpoint 13 = .ok (.putfield 51, 3) := by decide +kernel
theorem d_Model_checkpoint_16 : decode b_Model_checkpoint 16 = .ok (.aload_n 0, 1) := by decide +kernel
theorem d_Model_checkpoint_17 : decode b_Model_checkpoint 17 = .ok (.getfield 62, 3) := by decide +kernel
theorem d_Model_checkpoint_20 : decode b_Model_checkpoint 20 = .ok (.ifCond .ne 17, 3) := by decide +kernel
theorem d_Model_checkpoint_23 : decode b_Model_checkpoint 23 = .ok (.aload_n 0, 1) := by decide +kernel
theorem d_Model_checkpoint_24 : decode b_Model_checkpoint 24 = .ok (.getfield 81, 3) := by decide +kernel
theorem d_Model_checkpoint_27 : decode b_Model_checkpoint 27 = .ok (.ifCond .ne 10, 3) := by decide +kernel
theorem d_Model_checkpoint_30 : decode b_Model_checkpoint 30 = .ok (.aload_n 0, 1) := by decide +kernel
theorem d_Model_checkpoint_31 : decode b_Model_checkpoint 31 = .ok (.getfield 59, 3) := by decide +kernel
theorem d_Model_checkpoint_34 : decode b_Model_checkpoint 34 = .ok (.ifCond .le 16, 3) := by decide +kernel
theorem d_Model_checkpoint_37 : decode b_Model_checkpoint 37 = .ok (.aload_n 0, 1) := by decide +kernel
theorem d_Model_checkpoint_38 : decode b_Model_checkpoint 38 = .ok (.getfield 62, 3) := by decide +kernel
theorem d_Model_checkpoint_41 : decode b_Model_checkpoint 41 = .ok (.ifCond .eq 7, 3) := by decide +kernel
theorem d_Model_checkpoint_44 : decode b_Model_checkpoint 44 = .ok (.iconst 0, 1) := by decide +kernel
theorem d_Model_checkpoint_45 : decode b_Model_checkpoint 45 = .ok (.goto 4, 3) := by decide +kernel
theorem d_Model_checkpoint_48 : decode b_Model_checkpoint 48 = .ok (.iconst (-1), 1) := by decide +kernel
theorem d_Model_checkpoint_49 : decode b_Model_checkpoint 49 = .ok (.ireturn, 1) := by decide +kernel
theorem d_Model_checkpoint_50 : decode b_Model_checkpoint 50 = .ok (.aload_n 0, 1) := by decide +kernel
theorem d_Model_checkpoint_51 : decode b_Model_checkpoint 51 = .ok (.iconst 0, 1) := by decide +kernel
theorem d_Model_checkpoint_52 : decode b_Model_checkpoint 52 = .ok (.sipush 160, 3) := by decide +kernel
theorem d_Model_checkpoint_55 : decode b_Model_checkpoint 55 = .ok (.invokevirtual 158, 3) := by decide +kernel
theorem d_Model_checkpoint_58 : decode b_Model_checkpoint 58 = .ok (.iconst 1, 1) := by decide +kernel
theorem d_Model_checkpoint_59 : decode b_Model_checkpoint 59 = .ok (.iadd, 1) := by decide +kernel
theorem d_Model_checkpoint_60 : decode b_Model_checkpoint 60 = .ok (.istore_n 1, 1) := by decide +kernel
theorem d_Model_checkpoint_61 : decode b_Model_checkpoint 61 = .ok (.iconst 0, 1) := by decide +kernel
theorem d_Model_checkpoint_62 : decode b_Model_checkpoint 62 = .ok (.istore_n 2, 1) := by decide +kernel
theorem d_Model_checkpoint_63 : decode b_Model_checkpoint 63 = .ok (.iload_n 2, 1) := by decide +kernel
theorem d_Model_checkpoint_64 : decode b_Model_checkpoint 64 = .ok (.iload_n 1, 1) := by decide +kernel
theorem d_Model_checkpoint_65 : decode b_Model_checkpoint 65 = .ok (.if_icmp .ge 23, 3) := by decide +kernel
theorem d_Model_checkpoint_68 : decode b_Model_checkpoint 68 = .ok (.aload_n 0, 1) := by decide +kernel
theorem d_Model_checkpoint_69 : decode b_Model_checkpoint 69 = .ok (.invokevirtual 90, 3) := by decide +kernel
theorem d_Model_checkpoint_72 : decode b_Model_checkpoint 72 = .ok (.ifCond .ne 10, 3) := by decide +kernel
theorem d_Model_checkpoint_75 : decode b_Model_checkpoint 75 = .ok (.aload_n 0, 1) := by decide +kernel
theorem d_Model_checkpoint_76 : decode b_Model_checkpoint 76 = .ok (.iconst 1, 1) := by decide +kernel
theorem d_Model_checkpoint_77 : decode b_Model_checkpoint 77 = .ok (.putfield 51, 3) := by decide +kernel
theorem d_Model_checkpoint_80 : decode b_Model_checkpoint 80 = .ok (.iconst 0, 1) := by decide +kernel
theorem d_Model_checkpoint_81 : decode b_Model_checkpoint 81 = .ok (.ireturn, 1) := by decide +kernel
theorem d_Model_checkpoint_82 : decode b_Model_checkpoint 82 = .ok (.iinc 2 1, 3) := by decide +kernel
theorem d_Model_checkpoint_85 : decode b_Model_checkpoint 85 = .ok (.goto (-22), 3) := by decide +kernel
theorem d_Model_checkpoint_88 : decode b_Model_checkpoint 88 = .ok (.aload_n 0, 1) := by decide +kernel
theorem d_Model_checkpoint_89 : decode b_Model_checkpoint 89 = .ok (.iconst 0, 1) := by decide +kernel
theorem d_Model_checkpoint_90 : decode b_Model_checkpoint 90 = .ok (.putfield 97, 3) := by decide +kernel
theorem d_Model_checkpoint_93 : decode b_Model_checkpoint 93 = .ok (.aload_n 0, 1) := by decide +kernel
theorem d_Model_checkpoint_94 : decode b_Model_checkpoint 94 = .ok (.iconst 0, 1) := by decide +kernel
theorem d_Model_checkpoint_95 : decode b_Model_checkpoint 95 = .ok (.putfield 100, 3) := by decide +kernel
theorem d_Model_checkpoint_98 : decode b_Model_checkpoint 98 = .ok (.iload_n 1, 1) := by decide +kernel
theorem d_Model_checkpoint_99 : decode b_Model_checkpoint 99 = .ok (.ireturn, 1) := by decide +kernel
theorem d_Model_cut_0 : decode b_Model_cut 0 = .ok (.aload_n 0, 1) := by decide +kernel
theorem d_Model_cut_1 : decode b_Model_cut 1 = .ok (.iconst 0, 1) := by decide +kernel
theorem d_Model_cut_2 : decode b_Model_cut 2 = .ok (.putfield 51, 3) := by decide +kernel
theorem d_Model_cut_5 : decode b_Model_cut 5 = .ok (.aload_n 0, 1) := by decide +kernel
theorem d_Model_cut_6 : decode b_Model_cut 6 = .ok (.getfield 62, 3) := by decide +kernel
theorem d_Model_cut_9 : decode b_Model_cut 9 = .ok (.ifCond .ne 14, 3) := by decide +kernel
theorem d_Model_cut_12 : decode b_Model_cut 12 = .ok (.iload_n 1, 1) := by decide +kernel
theorem d_Model_cut_13 : decode b_Model_cut 13 = .ok (.ifCond .lt 10, 3) := by decide +kernel
theorem d_Model_cut_16 : decode b_Model_cut 16 = .ok (.iload_n 1, 1) := by decide +kernel
theorem d_Model_cut_17 : decode b_Model_cut 17 = .ok (.sipush 2000, 3) := by decide +kernel
theorem d_Model_cut_20 : decode b_Model_cut 20 = .ok (.if_icmp .le 5, 3) := by decide +kernel
theorem d_Model_cut_23 : decode b_Model_cut 23 = .ok (.iconst 0, 1) := by decide +kernel
theorem d_Model_cut_24 : decode b_Model_cut 24 = .ok (.ireturn, 1) := by decide +kernel
theorem d_Model_cut_25 : decode b_Model_cut 25 = .ok (.aload_n 0, 1) := by decide +kernel
theorem d_Model_cut_26 : decode b_Model_cut 26 = .ok (.iload_n 1, 1) := by decide +kernel
theorem d_Model_cut_27 : decode b_Model_cut 27 = .ok (.putfield 78, 3) := by decide +kernel
theorem d_Model_cut_30 : decode b_Model_cut 30 = .ok (.iconst 1, 1) := by decide +kernel
theorem d_Model_cut_31 : decode b_Model_cut 31 = .ok (.ireturn, 1) := by decide +kernel
theorem d_Model_recover_0 : decode b_Model_recover 0 = .ok (.aload_n 0, 1) := by decide +kernel
theorem d_Model_recover_1 : decode b_Model_recover 1 = .ok (.iconst 0, 1) := by decide +kernel
theorem d_Model_recover_2 : decode b_Model_recover 2 = .ok (.putfield 51, 3) := by decide +kernel
theorem d_Model_recover_5 : decode b_Model_recover 5 = .ok (.aload_n 0, 1) := by decide +kernel
theorem d_Model_recover_6 : decode b_Model_recover 6 = .ok (.iconst 3, 1) := by decide +kernel
theorem d_Model_recover_7 : decode b_Model_recover 7 = .ok (.iconst 0, 1) := by decide +kernel
theorem d_Model_recover_8 : decode b_Model_recover 8 = .ok (.invokevirtual 72, 3) := by decide +kernel
theorem d_Model_recover_11 : decode b_Model_recover 11 = .ok (.aload_n 0, 1) := by decide +kernel
theorem d_Model_recover_12 : decode b_Model_recover 12 = .ok (.invokevirtual 75, 3) := by decide +kernel
theorem d_Model_recover_15 : decode b_Model_recover 15 = .ok (.aload_n 0, 1) := by decide +kernel
theorem d_Model_recover_16 : decode b_Model_recover 16 = .ok (.iconst 0, 1) := by decide +kernel
theorem d_Model_recover_17 : decode b_Model_recover 17 = .ok (.putfield 81, 3) := by decide +kernel
theorem d_Model_recover_20 : decode b_Model_recover 20 = .ok (.aload_n 0, 1) := by decide +kernel
theorem d_Model_recover_21 : decode b_Model_recover 21 = .ok (.iconst 0, 1) := by decide +kernel
theorem d_Model_recover_22 : decode b_Model_recover 22 = .ok (.putfield 66, 3) := by decide +kernel
theorem d_Model_recover_25 : decode b_Model_recover 25 = .ok (.aload_n 0, 1) := by decide +kernel
theorem d_Model_recover_26 : decode b_Model_recover 26 = .ok (.iconst 0, 1) := by decide +kernel
theorem d_Model_recover_27 : decode b_Model_recover 27 = .ok (.putfield 94, 3) := by decide +kernel
theorem d_Model_recover_30 : decode b_Model_recover 30 = .ok (.aload_n 0, 1) := by decide +kernel
theorem d_Model_recover_31 : decode b_Model_recover 31 = .ok (.iconst 0, 1) := by decide +kernel
theorem d_Model_recover_32 : decode b_Model_recover 32 = .ok (.putfield 62, 3) := by decide +kernel
theorem d_Model_recover_35 : decode b_Model_recover 35 = .ok (.aload_n 0, 1) := by decide +kernel
theorem d_Model_recover_36 : decode b_Model_recover 36 = .ok (.iconst 0, 1) := by decide +kernel
theorem d_Model_recover_37 : decode b_Model_recover 37 = .ok (.putfield 78, 3) := by decide +kernel
theorem d_Model_recover_40 : decode b_Model_recover 40 = .ok (.aload_n 0, 1) := by decide +kernel
theorem d_Model_recover_41 : decode b_Model_recover 41 = .ok (.getfield 100, 3) := by decide +kernel
theorem d_Model_recover_44 : decode b_Model_recover 44 = .ok (.ireturn, 1) := by decide +kernel
theorem d_Model_thing_0 : decode b_Model_thing 0 = .ok (.aload_n 0, 1) := by decide +kernel
theorem d_Model_thing_1 : decode b_Model_thing 1 = .ok (.iconst 0, 1) := by decide +kernel
theorem d_Model_thing_2 : decode b_Model_thing 2 = .ok (.putfield 51, 3) := by decide +kernel
theorem d_Model_thing_5 : decode b_Model_thing 5 = .ok (.aload_n 0, 1) := by decide +kernel
theorem d_Model_thing_6 : decode b_Model_thing 6 = .ok (.iload_n 1, 1) := by decide +kernel
theorem d_Model_thing_7 : decode b_Model_thing 7 = .ok (.iload_n 2, 1) := by decide +kernel
theorem d_Model_thing_8 : decode b_Model_thing 8 = .ok (.invokevirtual 123, 3) := by decide +kernel
theorem d_Model_thing_11 : decode b_Model_thing 11 = .ok (.istore 4, 2) := by decide +kernel
theorem d_Model_thing_13 : decode b_Model_thing 13 = .ok (.iload 4, 2) := by decide +kernel
theorem d_Model_thing_15 : decode b_Model_thing 15 = .ok (.ifCond .lt 12, 3) := by decide +kernel
theorem d_Model_thing_18 : decode b_Model_thing 18 = .ok (.iload_n 3, 1) := by decide +kernel
theorem d_Model_thing_19 : decode b_Model_thing 19 = .ok (.ifCond .lt 8, 3) := by decide +kernel
theorem d_Model_thing_22 : decode b_Model_thing 22 = .ok (.iload_n 3, 1) := by decide +kernel
theorem d_Model_thing_23 : decode b_Model_thing 23 = .ok (.iconst 3, 1) := by decide +kernel
theorem d_Model_thing_24 : decode b_Model_thing 24 = .ok (.if_icmp .le 5, 3) := by decide +kernel
theorem d_Model_thing_27 : decode b_Model_thing 27 = .ok (.iconst (-1), 1) := by decide +kernel
theorem d_Model_thing_28 : decode b_Model_thing 28 = .ok (.ireturn, 1) := by decide +kernel
theorem d_Model_thing_29 : decode b_Model_thing 29 = .ok (.iload_n 3, 1) := by decide +kernel
theorem d_Model_thing_30 : decode b_Model_thing 30 = .ok (.ifCond .ne 11, 3) := by decide +kernel
theorem d_Model_thing_33 : decode b_Model_thing 33 = .ok (.aload_n 0, 1) := by decide +kernel
theorem d_Model_thing_34 : decode b_Model_thing 34 = .ok (.getfield 29, 3) := by decide +kernel
theorem d_Model_thing_37 : decode b_Model_thing 37 = .ok (.iload 4, 2) := by decide +kernel
theorem d_Model_thing_39 : decode b_Model_thing 39 = .ok (.iaload, 1) := by decide +kernel
theorem d_Model_thing_40 : decode b_Model_thing 40 = .ok (.ireturn, 1) := by decide +kernel
theorem d_Model_thing_41 : decode b_Model_thing 41 = .ok (.iload_n 1, 1) := by decide +kernel
theorem d_Model_thing_42 : decode b_Model_thing 42 = .ok (.iconst 4, 1) := by decide +kernel
theorem d_Model_thing_43 : decode b_Model_thing 43 = .ok (.if_icmp .ne 34, 3) := by decide +kernel
theorem d_Model_thing_46 : decode b_Model_thing 46 = .ok (.iload_n 3, 1) := by decide +kernel
theorem d_Model_thing_47 : decode b_Model_thing 47 = .ok (.iconst 1, 1) := by decide +kernel
theorem d_Model_thing_48 : decode b_Model_thing 48 = .ok (.if_icmp .ne 13, 3) := by decide +kernel
theorem d_Model_thing_51 : decode b_Model_thing 51 = .ok (.aload_n 0, 1) := by decide +kernel
theorem d_Model_thing_52 : decode b_Model_thing 52 = .ok (.getfield 23, 3) := by decide +kernel
theorem d_Model_thing_55 : decode b_Model_thing 55 = .ok (.iload 4, 2) := by decide +kernel
theorem d_Model_thing_57 : decode b_Model_thing 57 = .ok (.iaload, 1) := by decide +kernel
theorem d_Model_thing_58 : decode b_Model_thing 58 = .ok (.goto 18, 3) := by decide +kernel
theorem d_Model_thing_61 : decode b_Model_thing 61 = .ok (.aload_n 0, 1) := by decide +kernel
theorem d_Model_thing_62 : decode b_Model_thing 62 = .ok (.iload_n 2, 1) := by decide +kernel
theorem d_Model_thing_63 : decode b_Model_thing 63 = .ok (.iload_n 3, 1) := by decide +kernel
theorem d_Model_thing_64 : decode b_Model_thing 64 = .ok (.iconst 2, 1) := by decide +kernel
theorem d_Model_thing_65 : decode b_Model_thing 65 = .ok (.if_icmp .ne 7, 3) := by decide +kernel
theorem d_Model_thing_68 : decode b_Model_thing 68 = .ok (.iconst 1, 1) := by decide +kernel
theorem d_Model_thing_69 : decode b_Model_thing 69 = .ok (.goto 4, 3) := by decide +kernel
theorem d_Model_thing_72 : decode b_Model_thing 72 = .ok (.iconst 0, 1) := by decide +kernel
theorem d_Model_thing_73 : decode b_Model_thing 73 = .ok (.invokevirtual 144, 3) := by decide +kernel
theorem d_Model_thing_76 : decode b_Model_thing 76 = .ok (.ireturn, 1) := by decide +kernel
theorem d_Model_thing_77 : decode b_Model_thing 77 = .ok (.iload_n 3, 1) := by decide +kernel
theorem d_Model_thing_78 : decode b_Model_thing 78 = .ok (.iconst 1, 1) := by decide +kernel
theorem d_Model_thing_79 : decode b_Model_thing 79 = .ok (.if_icmp .ne 13, 3) := by decide +kernel
theorem d_Model_thing_82 : decode b_Model_thing 82 = .ok (.aload_n 0, 1) := by decide +kernel
theorem d_Model_thing_83 : decode b_Model_thing 83 = .ok (.getfield 13, 3) := by decide +kernel
theorem d_Model_thing_86 : decode b_Model_thing 86 = .ok (.iload 4, 2) := by decide +kernel
theorem d_Model_thing_88 : decode b_Model_thing 88 = .ok (.iaload, 1) := by decide +kernel
theorem d_Model_thing_89 : decode b_Model_thing 89 = .ok (.goto 25, 3) := by decide +kernel
theorem d_Model_thing_92 : decode b_Model_thing 92 = .ok (.iload_n 3, 1) := by decide +kernel
theorem d_Model_thing_93 : decode b_Model_thing 93 = .ok (.iconst 2, 1) := by decide +kernel
theorem d_Model_thing_94 : decode b_Model_thing 94 = .ok (.if_icmp .ne 13, 3) := by decide +kernel
theorem d_Model_thing_97 : decode b_Model_thing 97 = .ok (.aload_n 0, 1) := by decide +kernel
theorem d_Model_thing_98 : decode b_Model_thing 98 = .ok (.getfield 17, 3) := by decide +kernel
theorem d_Model_thing_101 : decode b_Model_thing 101 = .ok (.iload 4, 2) := by decide +kernel
theorem d_Model_thing_103 : decode b_Model_thing 103 = .ok (.iaload, 1) := by decide +kernel
theorem d_Model_thing_104 : decode b_Model_thing 104 = .ok (.goto 10, 3) := by decide +kernel
theorem d_Model_thing_107 : decode b_Model_thing 107 = .ok (.aload_n 0, 1) := by decide +kernel
theorem d_Model_thing_108 : decode b_Model_thing 108 = .ok (.getfield 20, 3) := by decide +kernel
theorem d_Model_thing_111 : decode b_Model_thing 111 = .ok (.iload 4, 2) := by decide +kernel
theorem d_Model_thing_113 : decode b_Model_thing 113 = .ok (.iaload, 1) := by decide +kernel
theorem d_Model_thing_114 : decode b_Model_thing 114 = .ok (.ireturn, 1) := by decide +kernel
theorem d_Model_chain_0 : decode b_Model_chain 0 = .ok (.aload_n 0, 1) := by decide +kernel
theorem d_Model_chain_1 : decode b_Model_chain 1 = .ok (.iconst 0, 1) := by decide +kernel
theorem d_Model_chain_2 : decode b_Model_chain 2 = .ok (.putfield 51, 3) := by decide +kernel
theorem d_Model_chain_5 : decode b_Model_chain 5 = .ok (.aload_n 0, 1) := by decide +kernel
theorem d_Model_chain_6 : decode b_Model_chain 6 = .ok (.iconst 4, 1) := by decide +kernel
theorem d_Model_chain_7 : decode b_Model_chain 7 = .ok (.iload_n 1, 1) := by decide +kernel
theorem d_Model_chain_8 : decode b_Model_chain 8 = .ok (.invokevirtual 123, 3) := by decide +kernel
theorem d_Model_chain_11 : decode b_Model_chain 11 = .ok (.ifCond .ge 7, 3) := by decide +kernel
theorem d_Model_chain_14 : decode b_Model_chain 14 = .ok (.iconst (-1), 1) := by decide +kernel
theorem d_Model_chain_15 : decode b_Model_chain 15 = .ok (.goto 4, 3) := by decide +kernel
theorem d_Model_chain_18 : decode b_Model_chain 18 = .ok (.iload_n 3, 1) := by decide +kernel
theorem d_Model_chain_19 : decode b_Model_chain 19 = .ok (.istore 4, 2) := by decide +kernel
theorem d_Model_chain_21 : decode b_Model_chain 21 = .ok (.bipush 64, 2) := by decide +kernel
