theorem d_Model_find_15 : decode b_Model_find 15 = .ok (.iconst 1, 1) := by decide +kernel
theorem d_Model_find_16 : decode b_Model_find 16 = .ok (.goto 27, 3) := by decide +kernel
theorem d_Model_find_19 : decode b_Model_find 19 = .ok (.iconst 0, 1) := by decide +kernel
theorem d_Model_find_20 : decode b_Model_find 20 = .ok (.goto 23, 3) := by decide +kernel
theorem d_Model_find_23 : decode b_Model_find 23 = .ok (.iload_n 1, 1) := by decide +kernel
theorem d_Model_find_24 : decode b_Model_find 24 = .ok (.iconst 5, 1) := by decide +kernel
theorem d_Model_find_25 : decode b_Model_find 25 = .ok (.if_icmp .ne 17, 3) := by decide +kernel
theorem d_Model_find_28 : decode b_Model_find 28 = .ok (.iload_n 2, 1) := by decide +kernel
theorem d_Model_find_29 : decode b_Model_find 29 = .ok (.ifCond .lt 13, 3) := by decide +kernel
theorem d_Model_find_32 : decode b_Model_find 32 = .ok (.iload_n 2, 1) := by decide +kernel
theorem d_Model_find_33 : decode b_Model_find 33 = .ok (.bipush 96, 2) := by decide +kernel
theorem d_Model_find_35 : decode b_Model_find 35 = .ok (.if_icmp .ge 7, 3) := by decide +kernel
theorem d_Model_find_38 : decode b_Model_find 38 = .ok (.iconst 1, 1) := by decide +kernel
theorem d_Model_find_39 : decode b_Model_find 39 = .ok (.goto 4, 3) := by decide +kernel
theorem d_Model_find_42 : decode b_Model_find 42 = .ok (.iconst 0, 1) := by decide +kernel
theorem d_Model_find_43 : decode b_Model_find 43 = .ok (.istore_n 3, 1) := by decide +kernel
theorem d_Model_find_44 : decode b_Model_find 44 = .ok (.iload_n 1, 1) := by decide +kernel
theorem d_Model_find_45 : decode b_Model_find 45 = .ok (.iconst 5, 1) := by decide +kernel
theorem d_Model_find_46 : decode b_Model_find 46 = .ok (.if_icmp .ne 10, 3) := by decide +kernel
theorem d_Model_find_49 : decode b_Model_find 49 = .ok (.bipush 64, 2) := by decide +kernel
theorem d_Model_find_51 : decode b_Model_find 51 = .ok (.iload_n 2, 1) := by decide +kernel
theorem d_Model_find_52 : decode b_Model_find 52 = .ok (.iadd, 1) := by decide +kernel
theorem d_Model_find_53 : decode b_Model_find 53 = .ok (.goto 4, 3) := by decide +kernel
theorem d_Model_find_56 : decode b_Model_find 56 = .ok (.iload_n 2, 1) := by decide +kernel
theorem d_Model_find_57 : decode b_Model_find 57 = .ok (.istore 4, 2) := by decide +kernel
theorem d_Model_find_59 : decode b_Model_find 59 = .ok (.iload_n 3, 1) := by decide +kernel
theorem d_Model_find_60 : decode b_Model_find 60 = .ok (.ifCond .eq 26, 3) := by decide +kernel
theorem d_Model_find_63 : decode b_Model_find 63 = .ok (.aload_n 0, 1) := by decide +kernel
theorem d_Model_find_64 : decode b_Model_find 64 = .ok (.getfield 7, 3) := by decide +kernel
theorem d_Model_find_67 : decode b_Model_find 67 = .ok (.iload_n 3, 1) := by decide +kernel
theorem d_Model_find_68 : decode b_Model_find 68 = .ok (.ifCond .eq 8, 3) := by decide +kernel
theorem d_Model_find_71 : decode b_Model_find 71 = .ok (.iload 4, 2) := by decide +kernel
theorem d_Model_find_73 : decode b_Model_find 73 = .ok (.goto 4, 3) := by decide +kernel
theorem d_Model_find_76 : decode b_Model_find 76 = .ok (.iconst 0, 1) := by decide +kernel
theorem d_Model_find_77 : decode b_Model_find 77 = .ok (.baload, 1) := by decide +kernel
theorem d_Model_find_78 : decode b_Model_find 78 = .ok (.ifCond .eq 8, 3) := by decide +kernel
theorem d_Model_find_81 : decode b_Model_find 81 = .ok (.iload 4, 2) := by decide +kernel
theorem d_Model_find_83 : decode b_Model_find 83 = .ok (.goto 4, 3) := by decide +kernel
theorem d_Model_find_86 : decode b_Model_find 86 = .ok (.iconst (-1), 1) := by decide +kernel
theorem d_Model_find_87 : decode b_Model_find 87 = .ok (.ireturn, 1) := by decide +kernel
theorem d_Model_propertyOf_0 : decode b_Model_propertyOf 0 = .ok (.iconst (-1), 1) := by decide +kernel
theorem d_Model_propertyOf_1 : decode b_Model_propertyOf 1 = .ok (.istore_n 3, 1) := by decide +kernel
theorem d_Model_propertyOf_2 : decode b_Model_propertyOf 2 = .ok (.iconst 0, 1) := by decide +kernel
theorem d_Model_propertyOf_3 : decode b_Model_propertyOf 3 = .ok (.istore 4, 2) := by decide +kernel
theorem d_Model_propertyOf_5 : decode b_Model_propertyOf 5 = .ok (.iload 4, 2) := by decide +kernel
theorem d_Model_propertyOf_7 : decode b_Model_propertyOf 7 = .ok (.aload_n 0, 1) := by decide +kernel
theorem d_Model_propertyOf_8 : decode b_Model_propertyOf 8 = .ok (.getfield 29, 3) := by decide +kernel
theorem d_Model_propertyOf_11 : decode b_Model_propertyOf 11 = .ok (.iload_n 1, 1) := by decide +kernel
theorem d_Model_propertyOf_12 : decode b_Model_propertyOf 12 = .ok (.iaload, 1) := by decide +kernel
theorem d_Model_propertyOf_13 : decode b_Model_propertyOf 13 = .ok (.if_icmp .ge 37, 3) := by decide +kernel
theorem d_Model_propertyOf_16 : decode b_Model_propertyOf 16 = .ok (.aload_n 0, 1) := by decide +kernel
theorem d_Model_propertyOf_17 : decode b_Model_propertyOf 17 = .ok (.getfield 32, 3) := by decide +kernel
theorem d_Model_propertyOf_20 : decode b_Model_propertyOf 20 = .ok (.bipush 6, 2) := by decide +kernel
theorem d_Model_propertyOf_22 : decode b_Model_propertyOf 22 = .ok (.iload_n 1, 1) := by decide +kernel
theorem d_Model_propertyOf_23 : decode b_Model_propertyOf 23 = .ok (.imul, 1) := by decide +kernel
theorem d_Model_propertyOf_24 : decode b_Model_propertyOf 24 = .ok (.iload 4, 2) := by decide +kernel
theorem d_Model_propertyOf_26 : decode b_Model_propertyOf 26 = .ok (.iadd, 1) := by decide +kernel
theorem d_Model_propertyOf_27 : decode b_Model_propertyOf 27 = .ok (.iaload, 1) := by decide +kernel
theorem d_Model_propertyOf_28 : decode b_Model_propertyOf 28 = .ok (.iload_n 2, 1) := by decide +kernel
theorem d_Model_propertyOf_29 : decode b_Model_propertyOf 29 = .ok (.if_icmp .ne 13, 3) := by decide +kernel
theorem d_Model_propertyOf_32 : decode b_Model_propertyOf 32 = .ok (.bipush 6, 2) := by decide +kernel
theorem d_Model_propertyOf_34 : decode b_Model_propertyOf 34 = .ok (.iload_n 1, 1) := by decide +kernel
theorem d_Model_propertyOf_35 : decode b_Model_propertyOf 35 = .ok (.imul, 1) := by decide +kernel
theorem d_Model_propertyOf_36 : decode b_Model_propertyOf 36 = .ok (.iload 4, 2) := by decide +kernel
theorem d_Model_propertyOf_38 : decode b_Model_propertyOf 38 = .ok (.iadd, 1) := by decide +kernel
theorem d_Model_propertyOf_39 : decode b_Model_propertyOf 39 = .ok (.goto 4, 3) := by decide +kernel
theorem d_Model_propertyOf_42 : decode b_Model_propertyOf 42 = .ok (.iload_n 3, 1) := by decide +kernel
theorem d_Model_propertyOf_43 : decode b_Model_propertyOf 43 = .ok (.istore_n 3, 1) := by decide +kernel
theorem d_Model_propertyOf_44 : decode b_Model_propertyOf 44 = .ok (.iinc 4 1, 3) := by decide +kernel
theorem d_Model_propertyOf_47 : decode b_Model_propertyOf 47 = .ok (.goto (-42), 3) := by decide +kernel
theorem d_Model_propertyOf_50 : decode b_Model_propertyOf 50 = .ok (.iload_n 3, 1) := by decide +kernel
theorem d_Model_propertyOf_51 : decode b_Model_propertyOf 51 = .ok (.ireturn, 1) := by decide +kernel
theorem d_Model_isLabeled_0 : decode b_Model_isLabeled 0 = .ok (.iconst 0, 1) := by decide +kernel
theorem d_Model_isLabeled_1 : decode b_Model_isLabeled 1 = .ok (.istore_n 3, 1) := by decide +kernel
theorem d_Model_isLabeled_2 : decode b_Model_isLabeled 2 = .ok (.iconst 0, 1) := by decide +kernel
theorem d_Model_isLabeled_3 : decode b_Model_isLabeled 3 = .ok (.istore 4, 2) := by decide +kernel
theorem d_Model_isLabeled_5 : decode b_Model_isLabeled 5 = .ok (.iload 4, 2) := by decide +kernel
theorem d_Model_isLabeled_7 : decode b_Model_isLabeled 7 = .ok (.aload_n 0, 1) := by decide +kernel
theorem d_Model_isLabeled_8 : decode b_Model_isLabeled 8 = .ok (.getfield 23, 3) := by decide +kernel
theorem d_Model_isLabeled_11 : decode b_Model_isLabeled 11 = .ok (.iload_n 1, 1) := by decide +kernel
theorem d_Model_isLabeled_12 : decode b_Model_isLabeled 12 = .ok (.iaload, 1) := by decide +kernel
theorem d_Model_isLabeled_13 : decode b_Model_isLabeled 13 = .ok (.if_icmp .ge 34, 3) := by decide +kernel
theorem d_Model_isLabeled_16 : decode b_Model_isLabeled 16 = .ok (.iload_n 3, 1) := by decide +kernel
theorem d_Model_isLabeled_17 : decode b_Model_isLabeled 17 = .ok (.ifCond .ne 18, 3) := by decide +kernel
theorem d_Model_isLabeled_20 : decode b_Model_isLabeled 20 = .ok (.aload_n 0, 1) := by decide +kernel
theorem d_Model_isLabeled_21 : decode b_Model_isLabeled 21 = .ok (.getfield 26, 3) := by decide +kernel
theorem d_Model_isLabeled_24 : decode b_Model_isLabeled 24 = .ok (.iconst 4, 1) := by decide +kernel
theorem d_Model_isLabeled_25 : decode b_Model_isLabeled 25 = .ok (.iload_n 1, 1) := by decide +kernel
theorem d_Model_isLabeled_26 : decode b_Model_isLabeled 26 = .ok (.imul, 1) := by decide +kernel
theorem d_Model_isLabeled_27 : decode b_Model_isLabeled 27 = .ok (.iload 4, 2) := by decide +kernel
theorem d_Model_isLabeled_29 : decode b_Model_isLabeled 29 = .ok (.iadd, 1) := by decide +kernel
theorem d_Model_isLabeled_30 : decode b_Model_isLabeled 30 = .ok (.iaload, 1) := by decide +kernel
theorem d_Model_isLabeled_31 : decode b_Model_isLabeled 31 = .ok (.iload_n 2, 1) := by decide +kernel
theorem d_Model_isLabeled_32 : decode b_Model_isLabeled 32 = .ok (.if_icmp .ne 7, 3) := by decide +kernel
theorem d_Model_isLabeled_35 : decode b_Model_isLabeled 35 = .ok (.iconst 1, 1) := by decide +kernel
theorem d_Model_isLabeled_36 : decode b_Model_isLabeled 36 = .ok (.goto 4, 3) := by decide +kernel
theorem d_Model_isLabeled_39 : decode b_Model_isLabeled 39 = .ok (.iconst 0, 1) := by decide +kernel
theorem d_Model_isLabeled_40 : decode b_Model_isLabeled 40 = .ok (.istore_n 3, 1) := by decide +kernel
theorem d_Model_isLabeled_41 : decode b_Model_isLabeled 41 = .ok (.iinc 4 1, 3) := by decide +kernel
theorem d_Model_isLabeled_44 : decode b_Model_isLabeled 44 = .ok (.goto (-39), 3) := by decide +kernel
theorem d_Model_isLabeled_47 : decode b_Model_isLabeled 47 = .ok (.iload_n 3, 1) := by decide +kernel
theorem d_Model_isLabeled_48 : decode b_Model_isLabeled 48 = .ok (.ireturn, 1) := by decide +kernel
theorem d_Model_links_0 : decode b_Model_links 0 = .ok (.iconst 0, 1) := by decide +kernel
theorem d_Model_links_1 : decode b_Model_links 1 = .ok (.istore_n 3, 1) := by decide +kernel
theorem d_Model_links_2 : decode b_Model_links 2 = .ok (.bipush 64, 2) := by decide +kernel
theorem d_Model_links_4 : decode b_Model_links 4 = .ok (.istore 4, 2) := by decide +kernel
theorem d_Model_links_6 : decode b_Model_links 6 = .ok (.iload 4, 2) := by decide +kernel
theorem d_Model_links_8 : decode b_Model_links 8 = .ok (.sipush 160, 3) := by decide +kernel
theorem d_Model_links_11 : decode b_Model_links 11 = .ok (.if_icmp .ge 52, 3) := by decide +kernel
theorem d_Model_links_14 : decode b_Model_links 14 = .ok (.iload_n 3, 1) := by decide +kernel
theorem d_Model_links_15 : decode b_Model_links 15 = .ok (.aload_n 0, 1) := by decide +kernel
theorem d_Model_links_16 : decode b_Model_links 16 = .ok (.getfield 7, 3) := by decide +kernel
theorem d_Model_links_19 : decode b_Model_links 19 = .ok (.iload 4, 2) := by decide +kernel
theorem d_Model_links_21 : decode b_Model_links 21 = .ok (.baload, 1) := by decide +kernel
theorem d_Model_links_22 : decode b_Model_links 22 = .ok (.ifCond .eq 32, 3) := by decide +kernel
theorem d_Model_links_25 : decode b_Model_links 25 = .ok (.iload_n 2, 1) := by decide +kernel
theorem d_Model_links_26 : decode b_Model_links 26 = .ok (.ifCond .eq 13, 3) := by decide +kernel
theorem d_Model_links_29 : decode b_Model_links 29 = .ok (.aload_n 0, 1) := by decide +kernel
theorem d_Model_links_30 : decode b_Model_links 30 = .ok (.getfield 13, 3) := by decide +kernel
theorem d_Model_links_33 : decode b_Model_links 33 = .ok (.iload 4, 2) := by decide +kernel
theorem d_Model_links_35 : decode b_Model_links 35 = .ok (.iaload, 1) := by decide +kernel
theorem d_Model_links_36 : decode b_Model_links 36 = .ok (.goto 10, 3) := by decide +kernel
theorem d_Model_links_39 : decode b_Model_links 39 = .ok (.aload_n 0, 1) := by decide +kernel
theorem d_Model_links_40 : decode b_Model_links 40 = .ok (.getfield 17, 3) := by decide +kernel
theorem d_Model_links_43 : decode b_Model_links 43 = .ok (.iload 4, 2) := by decide +kernel
theorem d_Model_links_45 : decode b_Model_links 45 = .ok (.iaload, 1) := by decide +kernel
theorem d_Model_links_46 : decode b_Model_links 46 = .ok (.iload_n 1, 1) := by decide +kernel
theorem d_Model_links_47 : decode b_Model_links 47 = .ok (.if_icmp .ne 7, 3) := by decide +kernel
theorem d_Model_links_50 : decode b_Model_links 50 = .ok (.iconst 1, 1) := by decide +kernel
theorem d_Model_links_51 : decode b_Model_links 51 = .ok (.goto 4, 3) := by decide +kernel
theorem d_Model_links_54 : decode b_Model_links 54 = .ok (.iconst 0, 1) := by decide +kernel
theorem d_Model_links_55 : decode b_Model_links 55 = .ok (.iadd, 1) := by decide +kernel
theorem d_Model_links_56 : decode b_Model_links 56 = .ok (.istore_n 3, 1) := by decide +kernel
theorem d_Model_links_57 : decode b_Model_links 57 = .ok (.iinc 4 1, 3) := by decide +kernel
theorem d_Model_links_60 : decode b_Model_links 60 = .ok (.goto (-54), 3) := by decide +kernel
theorem d_Model_links_63 : decode b_Model_links 63 = .ok (.iload_n 3, 1) := by decide +kernel
theorem d_Model_links_64 : decode b_Model_links 64 = .ok (.ireturn, 1) := by decide +kernel
theorem d_Model_free_0 : decode b_Model_free 0 = .ok (.iload_n 1, 1) := by decide +kernel
theorem d_Model_free_1 : decode b_Model_free 1 = .ok (.istore_n 3, 1) := by decide +kernel
theorem d_Model_free_2 : decode b_Model_free 2 = .ok (.iload_n 3, 1) := by decide +kernel
theorem d_Model_free_3 : decode b_Model_free 3 = .ok (.iload_n 2, 1) := by decide +kernel
theorem d_Model_free_4 : decode b_Model_free 4 = .ok (.if_icmp .ge 27, 3) := by decide +kernel
theorem d_Model_free_7 : decode b_Model_free 7 = .ok (.aload_n 0, 1) := by decide +kernel
theorem d_Model_free_8 : decode b_Model_free 8 = .ok (.getfield 7, 3) := by decide +kernel
theorem d_Model_free_11 : decode b_Model_free 11 = .ok (.iload_n 3, 1) := by decide +kernel
theorem d_Model_free_12 : decode b_Model_free 12 = .ok (.baload, 1) := by decide +kernel
theorem d_Model_free_13 : decode b_Model_free 13 = .ok (.ifCond .ne 12, 3) := by decide +kernel
theorem d_Model_free_16 : decode b_Model_free 16 = .ok (.aload_n 0, 1) := by decide +kernel
theorem d_Model_free_17 : decode b_Model_free 17 = .ok (.getfield 45, 3) := by decide +kernel
theorem d_Model_free_20 : decode b_Model_free 20 = .ok (.iload_n 3, 1) := by decide +kernel
theorem d_Model_free_21 : decode b_Model_free 21 = .ok (.baload, 1) := by decide +kernel
theorem d_Model_free_22 : decode b_Model_free 22 = .ok (.ifCond .eq 9, 3) := by decide +kernel
theorem d_Model_free_25 : decode b_Model_free 25 = .ok (.iinc 3 1, 3) := by decide +kernel
theorem d_Model_free_28 : decode b_Model_free 28 = .ok (.goto (-26), 3) := by decide +kernel
theorem d_Model_free_31 : decode b_Model_free 31 = .ok (.iload_n 3, 1) := by decide +kernel
theorem d_Model_free_32 : decode b_Model_free 32 = .ok (.iload_n 2, 1) := by decide +kernel
theorem d_Model_free_33 : decode b_Model_free 33 = .ok (.if_icmp .ge 7, 3) := by decide +kernel
theorem d_Model_free_36 : decode b_Model_free 36 = .ok (.iload_n 3, 1) := by decide +kernel
theorem d_Model_free_37 : decode b_Model_free 37 = .ok (.goto 4, 3) := by decide +kernel
theorem d_Model_free_40 : decode b_Model_free 40 = .ok (.iconst (-1), 1) := by decide +kernel
theorem d_Model_free_41 : decode b_Model_free 41 = .ok (.ireturn, 1) := by decide +kernel
theorem d_Model_settle_0 : decode b_Model_settle 0 = .ok (.aload_n 0, 1) := by decide +kernel
theorem d_Model_settle_1 : decode b_Model_settle 1 = .ok (.iconst 0, 1) := by decide +kernel
theorem d_Model_settle_2 : decode b_Model_settle 2 = .ok (.putfield 59, 3) := by decide +kernel
theorem d_Model_settle_5 : decode b_Model_settle 5 = .ok (.iconst 0, 1) := by decide +kernel
theorem d_Model_settle_6 : decode b_Model_settle 6 = .ok (.istore_n 1, 1) := by decide +kernel
theorem d_Model_settle_7 : decode b_Model_settle 7 = .ok (.iload_n 1, 1) := by decide +kernel
theorem d_Model_settle_8 : decode b_Model_settle 8 = .ok (.sipush 160, 3) := by decide +kernel
theorem d_Model_settle_11 : decode b_Model_settle 11 = .ok (.if_icmp .ge 16, 3) := by decide +kernel
theorem d_Model_settle_14 : decode b_Model_settle 14 = .ok (.aload_n 0, 1) := by decide +kernel
theorem d_Model_settle_15 : decode b_Model_settle 15 = .ok (.getfield 45, 3) := by decide +kernel
theorem d_Model_settle_18 : decode b_Model_settle 18 = .ok (.iload_n 1, 1) := by decide +kernel
theorem d_Model_settle_19 : decode b_Model_settle 19 = .ok (.iconst 0, 1) := by decide +kernel
theorem d_Model_settle_20 : decode b_Model_settle 20 = .ok (.bastore, 1) := by decide +kernel
theorem d_Model_settle_21 : decode b_Model_settle 21 = .ok (.iinc 1 1, 3) := by decide +kernel
theorem d_Model_settle_24 : decode b_Model_settle 24 = .ok (.goto (-17), 3) := by decide +kernel
theorem d_Model_settle_27 : decode b_Model_settle 27 = .ok (.return_, 1) := by decide +kernel
theorem d_Model_fails_0 : decode b_Model_fails 0 = .ok (.aload_n 0, 1) := by decide +kernel
theorem d_Model_fails_1 : decode b_Model_fails 1 = .ok (.getfield 62, 3) := by decide +kernel
theorem d_Model_fails_4 : decode b_Model_fails 4 = .ok (.ifCond .eq 10, 3) := by decide +kernel
theorem d_Model_fails_7 : decode b_Model_fails 7 = .ok (.aload_n 0, 1) := by decide +kernel
theorem d_Model_fails_8 : decode b_Model_fails 8 = .ok (.iconst 2, 1) := by decide +kernel
theorem d_Model_fails_9 : decode b_Model_fails 9 = .ok (.putfield 51, 3) := by decide +kernel
theorem d_Model_fails_12 : decode b_Model_fails 12 = .ok (.iconst 1, 1) := by decide +kernel
theorem d_Model_fails_13 : decode b_Model_fails 13 = .ok (.ireturn, 1) := by decide +kernel
theorem d_Model_fails_14 : decode b_Model_fails 14 = .ok (.iload_n 1, 1) := by decide +kernel
theorem d_Model_fails_15 : decode b_Model_fails 15 = .ok (.ifCond .eq 8, 3) := by decide +kernel
theorem d_Model_fails_18 : decode b_Model_fails 18 = .ok (.bipush 8, 2) := by decide +kernel
theorem d_Model_fails_20 : decode b_Model_fails 20 = .ok (.goto 56, 3) := by decide +kernel
theorem d_Model_fails_23 : decode b_Model_fails 23 = .ok (.iload_n 2, 1) := by decide +kernel
theorem d_Model_fails_24 : decode b_Model_fails 24 = .ok (.ifCond .eq 7, 3) := by decide +kernel
theorem d_Model_fails_27 : decode b_Model_fails 27 = .ok (.iconst 2, 1) := by decide +kernel
theorem d_Model_fails_28 : decode b_Model_fails 28 = .ok (.goto 48, 3) := by decide +kernel
theorem d_Model_fails_31 : decode b_Model_fails 31 = .ok (.iload_n 3, 1) := by decide +kernel
theorem d_Model_fails_32 : decode b_Model_fails 32 = .ok (.ifCond .eq 8, 3) := by decide +kernel
theorem d_Model_fails_35 : decode b_Model_fails 35 = .ok (.bipush 7, 2) := by decide +kernel
theorem d_Model_fails_37 : decode b_Model_fails 37 = .ok (.goto 39, 3) := by decide +kernel
theorem d_Model_fails_40 : decode b_Model_fails 40 = .ok (.iload 4, 2) := by decide +kernel
theorem d_Model_fails_42 : decode b_Model_fails 42 = .ok (.ifCond .eq 8, 3) := by decide +kernel
theorem d_Model_fails_45 : decode b_Model_fails 45 = .ok (.bipush 6, 2) := by decide +kernel
theorem d_Model_fails_47 : decode b_Model_fails 47 = .ok (.goto 29, 3) := by decide +kernel
theorem d_Model_fails_50 : decode b_Model_fails 50 = .ok (.iload 5, 2) := by decide +kernel
theorem d_Model_fails_52 : decode b_Model_fails 52 = .ok (.ifCond .eq 23, 3) := by decide +kernel
theorem d_Model_fails_55 : decode b_Model_fails 55 = .ok (.aload_n 0, 1) := by decide +kernel
theorem d_Model_fails_56 : decode b_Model_fails 56 = .ok (.getfield 66, 3) := by decide +kernel
theorem d_Model_fails_59 : decode b_Model_fails 59 = .ok (.aload_n 0, 1) := by decide +kernel
theorem d_Model_fails_60 : decode b_Model_fails 60 = .ok (.getfield 59, 3) := by decide +kernel
theorem d_Model_fails_63 : decode b_Model_fails 63 = .ok (.iadd, 1) := by decide +kernel
theorem d_Model_fails_64 : decode b_Model_fails 64 = .ok (.sipush 249, 3) := by decide +kernel
theorem d_Model_fails_67 : decode b_Model_fails 67 = .ok (.if_icmp .ne 8, 3) := by decide +kernel
theorem d_Model_fails_70 : decode b_Model_fails 70 = .ok (.bipush 9, 2) := by decide +kernel
theorem d_Model_fails_72 : decode b_Model_fails 72 = .ok (.goto 4, 3) := by decide +kernel
theorem d_Model_fails_75 : decode b_Model_fails 75 = .ok (.iconst 0, 1) := by decide +kernel
theorem d_Model_fails_76 : decode b_Model_fails 76 = .ok (.istore 6, 2) := by decide +kernel
theorem d_Model_fails_78 : decode b_Model_fails 78 = .ok (.aload_n 0, 1) := by decide +kernel
theorem d_Model_fails_79 : decode b_Model_fails 79 = .ok (.iload 6, 2) := by decide +kernel
theorem d_Model_fails_81 : decode b_Model_fails 81 = .ok (.ifCond .le 8, 3) := by decide +kernel
theorem d_Model_fails_84 : decode b_Model_fails 84 = .ok (.iload 6, 2) := by decide +kernel
theorem d_Model_fails_86 : decode b_Model_fails 86 = .ok (.goto 7, 3) := by decide +kernel
theorem d_Model_fails_89 : decode b_Model_fails 89 = .ok (.aload_n 0, 1) := by decide +kernel
theorem d_Model_fails_90 : decode b_Model_fails 90 = .ok (.getfield 69, 3) := by decide +kernel
theorem d_Model_fails_93 : decode b_Model_fails 93 = .ok (.putfield 69, 3) := by decide +kernel
theorem d_Model_fails_96 : decode b_Model_fails 96 = .ok (.aload_n 0, 1) := by decide +kernel
theorem d_Model_fails_97 : decode b_Model_fails 97 = .ok (.iload 6, 2) := by decide +kernel
theorem d_Model_fails_99 : decode b_Model_fails 99 = .ok (.ifCond .le 7, 3) := by decide +kernel
theorem d_Model_fails_102 : decode b_Model_fails 102 = .ok (.iconst 1, 1) := by decide +kernel
theorem d_Model_fails_103 : decode b_Model_fails 103 = .ok (.goto 4, 3) := by decide +kernel
theorem d_Model_fails_106 : decode b_Model_fails 106 = .ok (.iconst 0, 1) := by decide +kernel
theorem d_Model_fails_107 : decode b_Model_fails 107 = .ok (.putfield 51, 3) := by decide +kernel
theorem d_Model_fails_110 : decode b_Model_fails 110 = .ok (.iload 6, 2) := by decide +kernel
theorem d_Model_fails_112 : decode b_Model_fails 112 = .ok (.ifCond .le 7, 3) := by decide +kernel
theorem d_Model_fails_115 : decode b_Model_fails 115 = .ok (.iconst 1, 1) := by decide +kernel
theorem d_Model_fails_116 : decode b_Model_fails 116 = .ok (.goto 4, 3) := by decide +kernel
theorem d_Model_fails_119 : decode b_Model_fails 119 = .ok (.iconst 0, 1) := by decide +kernel
theorem d_Model_fails_120 : decode b_Model_fails 120 = .ok (.ireturn, 1) := by decide +kernel
theorem d_Model_begins_0 : decode b_Model_begins 0 = .ok (.aload_n 0, 1) := by decide +kernel
theorem d_Model_begins_1 : decode b_Model_begins 1 = .ok (.getfield 59, 3) := by decide +kernel
theorem d_Model_begins_4 : decode b_Model_begins 4 = .ok (.ifCond .ne 9, 3) := by decide +kernel
theorem d_Model_begins_7 : decode b_Model_begins 7 = .ok (.aload_n 0, 1) := by decide +kernel
theorem d_Model_begins_8 : decode b_Model_begins 8 = .ok (.iconst 0, 1) := by decide +kernel
theorem d_Model_begins_9 : decode b_Model_begins 9 = .ok (.iconst 1, 1) := by decide +kernel
theorem d_Model_begins_10 : decode b_Model_begins 10 = .ok (.invokevirtual 72, 3) := by decide +kernel
theorem d_Model_begins_13 : decode b_Model_begins 13 = .ok (.aload_n 0, 1) := by decide +kernel
theorem d_Model_begins_14 : decode b_Model_begins 14 = .ok (.dup, 1) := by decide +kernel
theorem d_Model_begins_15 : decode b_Model_begins 15 = .ok (.getfield 59, 3) := by decide +kernel
theorem d_Model_begins_18 : decode b_Model_begins 18 = .ok (.iconst 1, 1) := by decide +kernel
theorem d_Model_begins_19 : decode b_Model_begins 19 = .ok (.iadd, 1) := by decide +kernel
theorem d_Model_begins_20 : decode b_Model_begins 20 = .ok (.putfield 59, 3) := by decide +kernel
theorem d_Model_begins_23 : decode b_Model_begins 23 = .ok (.return_, 1) := by decide +kernel
theorem d_Model_back_0 : decode b_Model_back 0 = .ok (.aload_n 0, 1) := by decide +kernel
