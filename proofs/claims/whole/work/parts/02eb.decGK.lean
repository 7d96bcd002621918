theorem d_GK_checkpoint_4 : decode b_GK_checkpoint 4 = .ok (.aload_n 0, 1) := by decide +kernel
theorem d_GK_checkpoint_5 : decode b_GK_checkpoint 5 = .ok (.getfield 136, 3) := by decide +kernel
theorem d_GK_checkpoint_8 : decode b_GK_checkpoint 8 = .ok (.ifCond .ne 10, 3) := by decide +kernel
theorem d_GK_checkpoint_11 : decode b_GK_checkpoint 11 = .ok (.aload_n 0, 1) := by decide +kernel
theorem d_GK_checkpoint_12 : decode b_GK_checkpoint 12 = .ok (.getfield 133, 3) := by decide +kernel
theorem d_GK_checkpoint_15 : decode b_GK_checkpoint 15 = .ok (.ifCond .le 5, 3) := by decide +kernel
theorem d_GK_checkpoint_18 : decode b_GK_checkpoint 18 = .ok (.iconst (-1), 1) := by decide +kernel
theorem d_GK_checkpoint_19 : decode b_GK_checkpoint 19 = .ok (.ireturn, 1) := by decide +kernel
theorem d_GK_checkpoint_20 : decode b_GK_checkpoint 20 = .ok (.aload_n 0, 1) := by decide +kernel
theorem d_GK_checkpoint_21 : decode b_GK_checkpoint 21 = .ok (.getfield 10, 3) := by decide +kernel
theorem d_GK_checkpoint_24 : decode b_GK_checkpoint 24 = .ok (.invokevirtual 175, 3) := by decide +kernel
theorem d_GK_checkpoint_27 : decode b_GK_checkpoint 27 = .ok (.aload_n 0, 1) := by decide +kernel
theorem d_GK_checkpoint_28 : decode b_GK_checkpoint 28 = .ok (.getfield 10, 3) := by decide +kernel
theorem d_GK_checkpoint_31 : decode b_GK_checkpoint 31 = .ok (.invokevirtual 179, 3) := by decide +kernel
theorem d_GK_checkpoint_34 : decode b_GK_checkpoint 34 = .ok (.iadd, 1) := by decide +kernel
theorem d_GK_checkpoint_35 : decode b_GK_checkpoint 35 = .ok (.iconst 1, 1) := by decide +kernel
theorem d_GK_checkpoint_36 : decode b_GK_checkpoint 36 = .ok (.iadd, 1) := by decide +kernel
theorem d_GK_checkpoint_37 : decode b_GK_checkpoint 37 = .ok (.istore_n 1, 1) := by decide +kernel
theorem d_GK_checkpoint_38 : decode b_GK_checkpoint 38 = .ok (.aload_n 0, 1) := by decide +kernel
theorem d_GK_checkpoint_39 : decode b_GK_checkpoint 39 = .ok (.getfield 25, 3) := by decide +kernel
theorem d_GK_checkpoint_42 : decode b_GK_checkpoint 42 = .ok (.iload_n 1, 1) := by decide +kernel
theorem d_GK_checkpoint_43 : decode b_GK_checkpoint 43 = .ok (.invokevirtual 182, 3) := by decide +kernel
theorem d_GK_checkpoint_46 : decode b_GK_checkpoint 46 = .ok (.ifCond .ne 17, 3) := by decide +kernel
theorem d_GK_checkpoint_49 : decode b_GK_checkpoint 49 = .ok (.aload_n 0, 1) := by decide +kernel
theorem d_GK_checkpoint_50 : decode b_GK_checkpoint 50 = .ok (.invokevirtual 185, 3) := by decide +kernel
theorem d_GK_checkpoint_53 : decode b_GK_checkpoint 53 = .ok (.new 188, 3) := by decide +kernel
theorem d_GK_checkpoint_56 : decode b_GK_checkpoint 56 = .ok (.dup, 1) := by decide +kernel
theorem d_GK_checkpoint_57 : decode b_GK_checkpoint 57 = .ok (.ldc 190, 2) := by decide +kernel
theorem d_GK_checkpoint_59 : decode b_GK_checkpoint 59 = .ok (.invokespecial 192, 3) := by decide +kernel
theorem d_GK_checkpoint_62 : decode b_GK_checkpoint 62 = .ok (.athrow, 1) := by decide +kernel
theorem d_GK_checkpoint_63 : decode b_GK_checkpoint 63 = .ok (.iload_n 1, 1) := by decide +kernel
theorem d_GK_checkpoint_64 : decode b_GK_checkpoint 64 = .ok (.ireturn, 1) := by decide +kernel
theorem d_GK_cut_0 : decode b_GK_cut 0 = .ok (.aload_n 0, 1) := by decide +kernel
theorem d_GK_cut_1 : decode b_GK_cut 1 = .ok (.getfield 159, 3) := by decide +kernel
theorem d_GK_cut_4 : decode b_GK_cut 4 = .ok (.ifCond .ne 14, 3) := by decide +kernel
theorem d_GK_cut_7 : decode b_GK_cut 7 = .ok (.iload_n 1, 1) := by decide +kernel
theorem d_GK_cut_8 : decode b_GK_cut 8 = .ok (.ifCond .lt 10, 3) := by decide +kernel
theorem d_GK_cut_11 : decode b_GK_cut 11 = .ok (.iload_n 1, 1) := by decide +kernel
theorem d_GK_cut_12 : decode b_GK_cut 12 = .ok (.sipush 2000, 3) := by decide +kernel
theorem d_GK_cut_15 : decode b_GK_cut 15 = .ok (.if_icmp .le 5, 3) := by decide +kernel
theorem d_GK_cut_18 : decode b_GK_cut 18 = .ok (.iconst 0, 1) := by decide +kernel
theorem d_GK_cut_19 : decode b_GK_cut 19 = .ok (.ireturn, 1) := by decide +kernel
theorem d_GK_cut_20 : decode b_GK_cut 20 = .ok (.aload_n 0, 1) := by decide +kernel
theorem d_GK_cut_21 : decode b_GK_cut 21 = .ok (.getfield 25, 3) := by decide +kernel
theorem d_GK_cut_24 : decode b_GK_cut 24 = .ok (.iload_n 1, 1) := by decide +kernel
theorem d_GK_cut_25 : decode b_GK_cut 25 = .ok (.invokevirtual 193, 3) := by decide +kernel
theorem d_GK_cut_28 : decode b_GK_cut 28 = .ok (.iconst 1, 1) := by decide +kernel
theorem d_GK_cut_29 : decode b_GK_cut 29 = .ok (.ireturn, 1) := by decide +kernel
theorem d_GK_recover_0 : decode b_GK_recover 0 = .ok (.aload_n 0, 1) := by decide +kernel
theorem d_GK_recover_1 : decode b_GK_recover 1 = .ok (.iconst 0, 1) := by decide +kernel
theorem d_GK_recover_2 : decode b_GK_recover 2 = .ok (.putfield 159, 3) := by decide +kernel
theorem d_GK_recover_5 : decode b_GK_recover 5 = .ok (.aload_n 0, 1) := by decide +kernel
theorem d_GK_recover_6 : decode b_GK_recover 6 = .ok (.invokevirtual 172, 3) := by decide +kernel
theorem d_GK_recover_9 : decode b_GK_recover 9 = .ok (.aload_n 0, 1) := by decide +kernel
theorem d_GK_recover_10 : decode b_GK_recover 10 = .ok (.getfield 25, 3) := by decide +kernel
theorem d_GK_recover_13 : decode b_GK_recover 13 = .ok (.invokevirtual 196, 3) := by decide +kernel
theorem d_GK_recover_16 : decode b_GK_recover 16 = .ok (.ireturn, 1) := by decide +kernel
theorem d_GK_thing_0 : decode b_GK_thing 0 = .ok (.aload_n 0, 1) := by decide +kernel
theorem d_GK_thing_1 : decode b_GK_thing 1 = .ok (.getfield 10, 3) := by decide +kernel
theorem d_GK_thing_4 : decode b_GK_thing 4 = .ok (.iload_n 1, 1) := by decide +kernel
theorem d_GK_thing_5 : decode b_GK_thing 5 = .ok (.iload_n 2, 1) := by decide +kernel
theorem d_GK_thing_6 : decode b_GK_thing 6 = .ok (.invokevirtual 199, 3) := by decide +kernel
theorem d_GK_thing_9 : decode b_GK_thing 9 = .ok (.astore 4, 2) := by decide +kernel
theorem d_GK_thing_11 : decode b_GK_thing 11 = .ok (.aload 4, 2) := by decide +kernel
theorem d_GK_thing_13 : decode b_GK_thing 13 = .ok (.ifnonnull 5, 3) := by decide +kernel
theorem d_GK_thing_16 : decode b_GK_thing 16 = .ok (.iconst (-1), 1) := by decide +kernel
theorem d_GK_thing_17 : decode b_GK_thing 17 = .ok (.ireturn, 1) := by decide +kernel
theorem d_GK_thing_18 : decode b_GK_thing 18 = .ok (.iload_n 3, 1) := by decide +kernel
theorem d_GK_thing_19 : decode b_GK_thing 19 = .ok (.ifCond .ne 10, 3) := by decide +kernel
theorem d_GK_thing_22 : decode b_GK_thing 22 = .ok (.aload 4, 2) := by decide +kernel
theorem d_GK_thing_24 : decode b_GK_thing 24 = .ok (.getfield 202, 3) := by decide +kernel
theorem d_GK_thing_27 : decode b_GK_thing 27 = .ok (.arraylength, 1) := by decide +kernel
theorem d_GK_thing_28 : decode b_GK_thing 28 = .ok (.ireturn, 1) := by decide +kernel
theorem d_GK_thing_29 : decode b_GK_thing 29 = .ok (.aload 4, 2) := by decide +kernel
theorem d_GK_thing_31 : decode b_GK_thing 31 = .ok (.instanceof 57, 3) := by decide +kernel
theorem d_GK_thing_34 : decode b_GK_thing 34 = .ok (.ifCond .eq 19, 3) := by decide +kernel
theorem d_GK_thing_37 : decode b_GK_thing 37 = .ok (.aload 4, 2) := by decide +kernel
theorem d_GK_thing_39 : decode b_GK_thing 39 = .ok (.checkcast 57, 3) := by decide +kernel
theorem d_GK_thing_42 : decode b_GK_thing 42 = .ok (.astore 5, 2) := by decide +kernel
theorem d_GK_thing_44 : decode b_GK_thing 44 = .ok (.aload_n 0, 1) := by decide +kernel
theorem d_GK_thing_45 : decode b_GK_thing 45 = .ok (.aload 5, 2) := by decide +kernel
theorem d_GK_thing_47 : decode b_GK_thing 47 = .ok (.iload_n 2, 1) := by decide +kernel
theorem d_GK_thing_48 : decode b_GK_thing 48 = .ok (.iload_n 3, 1) := by decide +kernel
theorem d_GK_thing_49 : decode b_GK_thing 49 = .ok (.invokevirtual 208, 3) := by decide +kernel
theorem d_GK_thing_52 : decode b_GK_thing 52 = .ok (.ireturn, 1) := by decide +kernel
theorem d_GK_thing_53 : decode b_GK_thing 53 = .ok (.aload 4, 2) := by decide +kernel
theorem d_GK_thing_55 : decode b_GK_thing 55 = .ok (.instanceof 113, 3) := by decide +kernel
theorem d_GK_thing_58 : decode b_GK_thing 58 = .ok (.ifCond .eq 17, 3) := by decide +kernel
theorem d_GK_thing_61 : decode b_GK_thing 61 = .ok (.aload 4, 2) := by decide +kernel
theorem d_GK_thing_63 : decode b_GK_thing 63 = .ok (.checkcast 113, 3) := by decide +kernel
theorem d_GK_thing_66 : decode b_GK_thing 66 = .ok (.astore 5, 2) := by decide +kernel
theorem d_GK_thing_68 : decode b_GK_thing 68 = .ok (.aload 5, 2) := by decide +kernel
theorem d_GK_thing_70 : decode b_GK_thing 70 = .ok (.iload_n 3, 1) := by decide +kernel
theorem d_GK_thing_71 : decode b_GK_thing 71 = .ok (.invokestatic 212, 3) := by decide +kernel
theorem d_GK_thing_74 : decode b_GK_thing 74 = .ok (.ireturn, 1) := by decide +kernel
theorem d_GK_thing_75 : decode b_GK_thing 75 = .ok (.iconst (-1), 1) := by decide +kernel
theorem d_GK_thing_76 : decode b_GK_thing 76 = .ok (.ireturn, 1) := by decide +kernel
theorem d_GK_chain_0 : decode b_GK_chain 0 = .ok (.aload_n 0, 1) := by decide +kernel
theorem d_GK_chain_1 : decode b_GK_chain 1 = .ok (.getfield 10, 3) := by decide +kernel
theorem d_GK_chain_4 : decode b_GK_chain 4 = .ok (.iload_n 1, 1) := by decide +kernel
theorem d_GK_chain_5 : decode b_GK_chain 5 = .ok (.iload_n 2, 1) := by decide +kernel
theorem d_GK_chain_6 : decode b_GK_chain 6 = .ok (.iload_n 3, 1) := by decide +kernel
theorem d_GK_chain_7 : decode b_GK_chain 7 = .ok (.invokevirtual 216, 3) := by decide +kernel
theorem d_GK_chain_10 : decode b_GK_chain 10 = .ok (.ireturn, 1) := by decide +kernel
theorem d_GK_has_0 : decode b_GK_has 0 = .ok (.aload_n 0, 1) := by decide +kernel
theorem d_GK_has_1 : decode b_GK_has 1 = .ok (.getfield 10, 3) := by decide +kernel
theorem d_GK_has_4 : decode b_GK_has 4 = .ok (.iload_n 1, 1) := by decide +kernel
theorem d_GK_has_5 : decode b_GK_has 5 = .ok (.invokevirtual 220, 3) := by decide +kernel
theorem d_GK_has_8 : decode b_GK_has 8 = .ok (.astore_n 3, 1) := by decide +kernel
theorem d_GK_has_9 : decode b_GK_has 9 = .ok (.aload_n 3, 1) := by decide +kernel
theorem d_GK_has_10 : decode b_GK_has 10 = .ok (.ifnull 15, 3) := by decide +kernel
theorem d_GK_has_13 : decode b_GK_has 13 = .ok (.aload_n 3, 1) := by decide +kernel
theorem d_GK_has_14 : decode b_GK_has 14 = .ok (.iload_n 2, 1) := by decide +kernel
theorem d_GK_has_15 : decode b_GK_has 15 = .ok (.invokevirtual 72, 3) := by decide +kernel
theorem d_GK_has_18 : decode b_GK_has 18 = .ok (.ifCond .eq 7, 3) := by decide +kernel
theorem d_GK_has_21 : decode b_GK_has 21 = .ok (.iconst 1, 1) := by decide +kernel
theorem d_GK_has_22 : decode b_GK_has 22 = .ok (.goto 4, 3) := by decide +kernel
theorem d_GK_has_25 : decode b_GK_has 25 = .ok (.iconst 0, 1) := by decide +kernel
theorem d_GK_has_26 : decode b_GK_has 26 = .ok (.ireturn, 1) := by decide +kernel
theorem d_GK_value_0 : decode b_GK_value 0 = .ok (.aload_n 0, 1) := by decide +kernel
theorem d_GK_value_1 : decode b_GK_value 1 = .ok (.getfield 10, 3) := by decide +kernel
theorem d_GK_value_4 : decode b_GK_value 4 = .ok (.iload_n 1, 1) := by decide +kernel
theorem d_GK_value_5 : decode b_GK_value 5 = .ok (.iload_n 2, 1) := by decide +kernel
theorem d_GK_value_6 : decode b_GK_value 6 = .ok (.invokevirtual 199, 3) := by decide +kernel
theorem d_GK_value_9 : decode b_GK_value 9 = .ok (.astore 5, 2) := by decide +kernel
theorem d_GK_value_11 : decode b_GK_value 11 = .ok (.aload 5, 2) := by decide +kernel
theorem d_GK_value_13 : decode b_GK_value 13 = .ok (.ifnonnull 13, 3) := by decide +kernel
theorem d_GK_value_16 : decode b_GK_value 16 = .ok (.new 223, 3) := by decide +kernel
theorem d_GK_value_19 : decode b_GK_value 19 = .ok (.dup, 1) := by decide +kernel
theorem d_GK_value_20 : decode b_GK_value 20 = .ok (.ldc 225, 2) := by decide +kernel
theorem d_GK_value_22 : decode b_GK_value 22 = .ok (.invokespecial 227, 3) := by decide +kernel
theorem d_GK_value_25 : decode b_GK_value 25 = .ok (.athrow, 1) := by decide +kernel
theorem d_GK_value_26 : decode b_GK_value 26 = .ok (.aload 5, 2) := by decide +kernel
theorem d_GK_value_28 : decode b_GK_value 28 = .ok (.iload_n 3, 1) := by decide +kernel
theorem d_GK_value_29 : decode b_GK_value 29 = .ok (.invokevirtual 228, 3) := by decide +kernel
theorem d_GK_value_32 : decode b_GK_value 32 = .ok (.astore 6, 2) := by decide +kernel
theorem d_GK_value_34 : decode b_GK_value 34 = .ok (.iload 4, 2) := by decide +kernel
theorem d_GK_value_36 : decode b_GK_value 36 = .ok (.iconst (-1), 1) := by decide +kernel
theorem d_GK_value_37 : decode b_GK_value 37 = .ok (.if_icmp .ne 19, 3) := by decide +kernel
theorem d_GK_value_40 : decode b_GK_value 40 = .ok (.aload 6, 2) := by decide +kernel
theorem d_GK_value_42 : decode b_GK_value 42 = .ok (.ifnonnull 7, 3) := by decide +kernel
theorem d_GK_value_45 : decode b_GK_value 45 = .ok (.lconst 0, 1) := by decide +kernel
theorem d_GK_value_46 : decode b_GK_value 46 = .ok (.goto 9, 3) := by decide +kernel
theorem d_GK_value_49 : decode b_GK_value 49 = .ok (.aload 6, 2) := by decide +kernel
theorem d_GK_value_51 : decode b_GK_value 51 = .ok (.getfield 232, 3) := by decide +kernel
theorem d_GK_value_54 : decode b_GK_value 54 = .ok (.i2l, 1) := by decide +kernel
theorem d_GK_value_55 : decode b_GK_value 55 = .ok (.lreturn, 1) := by decide +kernel
theorem d_GK_value_56 : decode b_GK_value 56 = .ok (.aload 6, 2) := by decide +kernel
theorem d_GK_value_58 : decode b_GK_value 58 = .ok (.ifnonnull 13, 3) := by decide +kernel
theorem d_GK_value_61 : decode b_GK_value 61 = .ok (.new 223, 3) := by decide +kernel
theorem d_GK_value_64 : decode b_GK_value 64 = .ok (.dup, 1) := by decide +kernel
theorem d_GK_value_65 : decode b_GK_value 65 = .ok (.ldc 235, 2) := by decide +kernel
theorem d_GK_value_67 : decode b_GK_value 67 = .ok (.invokespecial 227, 3) := by decide +kernel
theorem d_GK_value_70 : decode b_GK_value 70 = .ok (.athrow, 1) := by decide +kernel
theorem d_GK_value_71 : decode b_GK_value 71 = .ok (.iload 4, 2) := by decide +kernel
theorem d_GK_value_73 : decode b_GK_value 73 = .ok (.bipush (-2), 2) := by decide +kernel
theorem d_GK_value_75 : decode b_GK_value 75 = .ok (.if_icmp .ne 9, 3) := by decide +kernel
theorem d_GK_value_78 : decode b_GK_value 78 = .ok (.aload 6, 2) := by decide +kernel
theorem d_GK_value_80 : decode b_GK_value 80 = .ok (.getfield 237, 3) := by decide +kernel
theorem d_GK_value_83 : decode b_GK_value 83 = .ok (.lreturn, 1) := by decide +kernel
theorem d_GK_value_84 : decode b_GK_value 84 = .ok (.iload 4, 2) := by decide +kernel
theorem d_GK_value_86 : decode b_GK_value 86 = .ok (.ifCond .lt 14, 3) := by decide +kernel
theorem d_GK_value_89 : decode b_GK_value 89 = .ok (.iload 4, 2) := by decide +kernel
theorem d_GK_value_91 : decode b_GK_value 91 = .ok (.aload 6, 2) := by decide +kernel
theorem d_GK_value_93 : decode b_GK_value 93 = .ok (.getfield 241, 3) := by decide +kernel
theorem d_GK_value_96 : decode b_GK_value 96 = .ok (.arraylength, 1) := by decide +kernel
theorem d_GK_value_97 : decode b_GK_value 97 = .ok (.if_icmp .lt 13, 3) := by decide +kernel
theorem d_GK_value_100 : decode b_GK_value 100 = .ok (.new 223, 3) := by decide +kernel
theorem d_GK_value_103 : decode b_GK_value 103 = .ok (.dup, 1) := by decide +kernel
theorem d_GK_value_104 : decode b_GK_value 104 = .ok (.ldc 245, 2) := by decide +kernel
theorem d_GK_value_106 : decode b_GK_value 106 = .ok (.invokespecial 227, 3) := by decide +kernel
theorem d_GK_value_109 : decode b_GK_value 109 = .ok (.athrow, 1) := by decide +kernel
theorem d_GK_value_110 : decode b_GK_value 110 = .ok (.aload 6, 2) := by decide +kernel
theorem d_GK_value_112 : decode b_GK_value 112 = .ok (.getfield 241, 3) := by decide +kernel
theorem d_GK_value_115 : decode b_GK_value 115 = .ok (.iload 4, 2) := by decide +kernel
theorem d_GK_value_117 : decode b_GK_value 117 = .ok (.baload, 1) := by decide +kernel
theorem d_GK_value_118 : decode b_GK_value 118 = .ok (.i2l, 1) := by decide +kernel
theorem d_GK_value_119 : decode b_GK_value 119 = .ok (.lreturn, 1) := by decide +kernel
theorem d_GK_state_0 : decode b_GK_state 0 = .ok (.iload_n 1, 1) := by decide +kernel
theorem d_GK_state_1 : decode b_GK_state 1 = .ok (.tableswitch 119 0 6 #[43, 51, 59, 67, 83, 96, 109], 43) := by decide +kernel
theorem d_GK_state_44 : decode b_GK_state 44 = .ok (.aload_n 0, 1) := by decide +kernel
theorem d_GK_state_45 : decode b_GK_state 45 = .ok (.getfield 10, 3) := by decide +kernel
theorem d_GK_state_48 : decode b_GK_state 48 = .ok (.invokevirtual 175, 3) := by decide +kernel
theorem d_GK_state_51 : decode b_GK_state 51 = .ok (.ireturn, 1) := by decide +kernel
theorem d_GK_state_52 : decode b_GK_state 52 = .ok (.aload_n 0, 1) := by decide +kernel
theorem d_GK_state_53 : decode b_GK_state 53 = .ok (.getfield 10, 3) := by decide +kernel
theorem d_GK_state_56 : decode b_GK_state 56 = .ok (.invokevirtual 179, 3) := by decide +kernel
theorem d_GK_state_59 : decode b_GK_state 59 = .ok (.ireturn, 1) := by decide +kernel
theorem d_GK_state_60 : decode b_GK_state 60 = .ok (.aload_n 0, 1) := by decide +kernel
theorem d_GK_state_61 : decode b_GK_state 61 = .ok (.getfield 25, 3) := by decide +kernel
theorem d_GK_state_64 : decode b_GK_state 64 = .ok (.getfield 247, 3) := by decide +kernel
theorem d_GK_state_67 : decode b_GK_state 67 = .ok (.ireturn, 1) := by decide +kernel
theorem d_GK_state_68 : decode b_GK_state 68 = .ok (.aload_n 0, 1) := by decide +kernel
theorem d_GK_state_69 : decode b_GK_state 69 = .ok (.getfield 25, 3) := by decide +kernel
theorem d_GK_state_72 : decode b_GK_state 72 = .ok (.getfield 250, 3) := by decide +kernel
theorem d_GK_state_75 : decode b_GK_state 75 = .ok (.aload_n 0, 1) := by decide +kernel
theorem d_GK_state_76 : decode b_GK_state 76 = .ok (.getfield 25, 3) := by decide +kernel
theorem d_GK_state_79 : decode b_GK_state 79 = .ok (.getfield 253, 3) := by decide +kernel
theorem d_GK_state_82 : decode b_GK_state 82 = .ok (.iadd, 1) := by decide +kernel
theorem d_GK_state_83 : decode b_GK_state 83 = .ok (.ireturn, 1) := by decide +kernel
theorem d_GK_state_84 : decode b_GK_state 84 = .ok (.aload_n 0, 1) := by decide +kernel
theorem d_GK_state_85 : decode b_GK_state 85 = .ok (.getfield 159, 3) := by decide +kernel
theorem d_GK_state_88 : decode b_GK_state 88 = .ok (.ifCond .eq 7, 3) := by decide +kernel
theorem d_GK_state_91 : decode b_GK_state 91 = .ok (.iconst 1, 1) := by decide +kernel
theorem d_GK_state_92 : decode b_GK_state 92 = .ok (.goto 4, 3) := by decide +kernel
theorem d_GK_state_95 : decode b_GK_state 95 = .ok (.iconst 0, 1) := by decide +kernel
theorem d_GK_state_96 : decode b_GK_state 96 = .ok (.ireturn, 1) := by decide +kernel
theorem d_GK_state_97 : decode b_GK_state 97 = .ok (.aload_n 0, 1) := by decide +kernel
theorem d_GK_state_98 : decode b_GK_state 98 = .ok (.getfield 136, 3) := by decide +kernel
theorem d_GK_state_101 : decode b_GK_state 101 = .ok (.ifCond .eq 7, 3) := by decide +kernel
theorem d_GK_state_104 : decode b_GK_state 104 = .ok (.iconst 1, 1) := by decide +kernel
theorem d_GK_state_105 : decode b_GK_state 105 = .ok (.goto 4, 3) := by decide +kernel
theorem d_GK_state_108 : decode b_GK_state 108 = .ok (.iconst 0, 1) := by decide +kernel
theorem d_GK_state_109 : decode b_GK_state 109 = .ok (.ireturn, 1) := by decide +kernel
theorem d_GK_state_110 : decode b_GK_state 110 = .ok (.aload_n 0, 1) := by decide +kernel
theorem d_GK_state_111 : decode b_GK_state 111 = .ok (.getfield 162, 3) := by decide +kernel
theorem d_GK_state_114 : decode b_GK_state 114 = .ok (.aload_n 0, 1) := by decide +kernel
theorem d_GK_state_115 : decode b_GK_state 115 = .ok (.getfield 133, 3) := by decide +kernel
theorem d_GK_state_118 : decode b_GK_state 118 = .ok (.iadd, 1) := by decide +kernel
theorem d_GK_state_119 : decode b_GK_state 119 = .ok (.ireturn, 1) := by decide +kernel
theorem d_GK_state_120 : decode b_GK_state 120 = .ok (.iconst (-1), 1) := by decide +kernel
theorem d_GK_state_121 : decode b_GK_state 121 = .ok (.ireturn, 1) := by decide +kernel
theorem d_GK_mustBeOn_0 : decode b_GK_mustBeOn 0 = .ok (.aload_n 0, 1) := by decide +kernel
theorem d_GK_mustBeOn_1 : decode b_GK_mustBeOn 1 = .ok (.getfield 159, 3) := by decide +kernel
theorem d_GK_mustBeOn_4 : decode b_GK_mustBeOn 4 = .ok (.ifCond .eq 14, 3) := by decide +kernel
theorem d_GK_mustBeOn_7 : decode b_GK_mustBeOn 7 = .ok (.new 188, 3) := by decide +kernel
theorem d_GK_mustBeOn_10 : decode b_GK_mustBeOn 10 = .ok (.dup, 1) := by decide +kernel
theorem d_GK_mustBeOn_11 : decode b_GK_mustBeOn 11 = .ok (.ldc_w 256, 3) := by decide +kernel
theorem d_GK_mustBeOn_14 : decode b_GK_mustBeOn 14 = .ok (.invokespecial 192, 3) := by decide +kernel
theorem d_GK_mustBeOn_17 : decode b_GK_mustBeOn 17 = .ok (.athrow, 1) := by decide +kernel
theorem d_GK_mustBeOn_18 : decode b_GK_mustBeOn 18 = .ok (.return_, 1) := by decide +kernel
theorem d_GK_refuse_0 : decode b_GK_refuse 0 = .ok (.aload_n 0, 1) := by decide +kernel
theorem d_GK_refuse_1 : decode b_GK_refuse 1 = .ok (.iload_n 1, 1) := by decide +kernel
theorem d_GK_refuse_2 : decode b_GK_refuse 2 = .ok (.putfield 129, 3) := by decide +kernel
theorem d_GK_refuse_5 : decode b_GK_refuse 5 = .ok (.new 146, 3) := by decide +kernel
theorem d_GK_refuse_8 : decode b_GK_refuse 8 = .ok (.dup, 1) := by decide +kernel
theorem d_GK_refuse_9 : decode b_GK_refuse 9 = .ok (.ldc_w 258, 3) := by decide +kernel
theorem d_GK_refuse_12 : decode b_GK_refuse 12 = .ok (.invokespecial 150, 3) := by decide +kernel
theorem d_GK_refuse_15 : decode b_GK_refuse 15 = .ok (.athrow, 1) := by decide +kernel
theorem d_GK_wantedNode_0 : decode b_GK_wantedNode 0 = .ok (.aload_n 0, 1) := by decide +kernel
theorem d_GK_wantedNode_1 : decode b_GK_wantedNode 1 = .ok (.getfield 10, 3) := by decide +kernel
theorem d_GK_wantedNode_4 : decode b_GK_wantedNode 4 = .ok (.iload_n 1, 1) := by decide +kernel
theorem d_GK_wantedNode_5 : decode b_GK_wantedNode 5 = .ok (.invokevirtual 220, 3) := by decide +kernel
theorem d_GK_wantedNode_8 : decode b_GK_wantedNode 8 = .ok (.astore_n 2, 1) := by decide +kernel
theorem d_GK_wantedNode_9 : decode b_GK_wantedNode 9 = .ok (.aload_n 2, 1) := by decide +kernel
theorem d_GK_wantedNode_10 : decode b_GK_wantedNode 10 = .ok (.ifnonnull 20, 3) := by decide +kernel
theorem d_GK_wantedNode_13 : decode b_GK_wantedNode 13 = .ok (.aload_n 0, 1) := by decide +kernel
theorem d_GK_wantedNode_14 : decode b_GK_wantedNode 14 = .ok (.bipush 8, 2) := by decide +kernel
theorem d_GK_wantedNode_16 : decode b_GK_wantedNode 16 = .ok (.putfield 129, 3) := by decide +kernel
theorem d_GK_wantedNode_19 : decode b_GK_wantedNode 19 = .ok (.new 146, 3) := by decide +kernel
theorem d_GK_wantedNode_22 : decode b_GK_wantedNode 22 = .ok (.dup, 1) := by decide +kernel
theorem d_GK_wantedNode_23 : decode b_GK_wantedNode 23 = .ok (.ldc_w 260, 3) := by decide +kernel
theorem d_GK_wantedNode_26 : decode b_GK_wantedNode 26 = .ok (.invokespecial 150, 3) := by decide +kernel
theorem d_GK_wantedNode_29 : decode b_GK_wantedNode 29 = .ok (.athrow, 1) := by decide +kernel
theorem d_GK_wantedNode_30 : decode b_GK_wantedNode 30 = .ok (.aload_n 2, 1) := by decide +kernel
theorem d_GK_wantedNode_31 : decode b_GK_wantedNode 31 = .ok (.areturn, 1) := by decide +kernel
theorem d_GK_wantedThing_0 : decode b_GK_wantedThing 0 = .ok (.aload_n 0, 1) := by decide +kernel
theorem d_GK_wantedThing_1 : decode b_GK_wantedThing 1 = .ok (.getfield 10, 3) := by decide +kernel
theorem d_GK_wantedThing_4 : decode b_GK_wantedThing 4 = .ok (.iload_n 1, 1) := by decide +kernel
theorem d_GK_wantedThing_5 : decode b_GK_wantedThing 5 = .ok (.iload_n 2, 1) := by decide +kernel
theorem d_GK_wantedThing_6 : decode b_GK_wantedThing 6 = .ok (.invokevirtual 199, 3) := by decide +kernel
theorem d_GK_wantedThing_9 : decode b_GK_wantedThing 9 = .ok (.astore_n 3, 1) := by decide +kernel
theorem d_GK_wantedThing_10 : decode b_GK_wantedThing 10 = .ok (.aload_n 3, 1) := by decide +kernel
theorem d_GK_wantedThing_11 : decode b_GK_wantedThing 11 = .ok (.ifnonnull 19, 3) := by decide +kernel
theorem d_GK_wantedThing_14 : decode b_GK_wantedThing 14 = .ok (.aload_n 0, 1) := by decide +kernel
theorem d_GK_wantedThing_15 : decode b_GK_wantedThing 15 = .ok (.bipush 8, 2) := by decide +kernel
theorem d_GK_wantedThing_17 : decode b_GK_wantedThing 17 = .ok (.putfield 129, 3) := by decide +kernel
theorem d_GK_wantedThing_20 : decode b_GK_wantedThing 20 = .ok (.new 146, 3) := by decide +kernel
theorem d_GK_wantedThing_23 : decode b_GK_wantedThing 23 = .ok (.dup, 1) := by decide +kernel
theorem d_GK_wantedThing_24 : decode b_GK_wantedThing 24 = .ok (.ldc 225, 2) := by decide +kernel
theorem d_GK_wantedThing_26 : decode b_GK_wantedThing 26 = .ok (.invokespecial 150, 3) := by decide +kernel
theorem d_GK_wantedThing_29 : decode b_GK_wantedThing 29 = .ok (.athrow, 1) := by decide +kernel
theorem d_GK_wantedThing_30 : decode b_GK_wantedThing 30 = .ok (.aload_n 3, 1) := by decide +kernel
theorem d_GK_wantedThing_31 : decode b_GK_wantedThing 31 = .ok (.areturn, 1) := by decide +kernel
theorem d_GK_mustBeValue_0 : decode b_GK_mustBeValue 0 = .ok (.iload_n 1, 1) := by decide +kernel
theorem d_GK_mustBeValue_1 : decode b_GK_mustBeValue 1 = .ok (.ifCond .lt 25, 3) := by decide +kernel
theorem d_GK_mustBeValue_4 : decode b_GK_mustBeValue 4 = .ok (.iload_n 1, 1) := by decide +kernel
theorem d_GK_mustBeValue_5 : decode b_GK_mustBeValue 5 = .ok (.iconst 3, 1) := by decide +kernel
theorem d_GK_mustBeValue_6 : decode b_GK_mustBeValue 6 = .ok (.if_icmp .gt 20, 3) := by decide +kernel
theorem d_GK_mustBeValue_9 : decode b_GK_mustBeValue 9 = .ok (.iload_n 1, 1) := by decide +kernel
theorem d_GK_mustBeValue_10 : decode b_GK_mustBeValue 10 = .ok (.iconst 2, 1) := by decide +kernel
theorem d_GK_mustBeValue_11 : decode b_GK_mustBeValue 11 = .ok (.if_icmp .ne 20, 3) := by decide +kernel
theorem d_GK_mustBeValue_14 : decode b_GK_mustBeValue 14 = .ok (.lload_n 2, 1) := by decide +kernel
theorem d_GK_mustBeValue_15 : decode b_GK_mustBeValue 15 = .ok (.lconst 0, 1) := by decide +kernel
theorem d_GK_mustBeValue_16 : decode b_GK_mustBeValue 16 = .ok (.lcmp, 1) := by decide +kernel
theorem d_GK_mustBeValue_17 : decode b_GK_mustBeValue 17 = .ok (.ifCond .eq 14, 3) := by decide +kernel
theorem d_GK_mustBeValue_20 : decode b_GK_mustBeValue 20 = .ok (.lload_n 2, 1) := by decide +kernel
theorem d_GK_mustBeValue_21 : decode b_GK_mustBeValue 21 = .ok (.lconst 1, 1) := by decide +kernel
theorem d_GK_mustBeValue_22 : decode b_GK_mustBeValue 22 = .ok (.lcmp, 1) := by decide +kernel
theorem d_GK_mustBeValue_23 : decode b_GK_mustBeValue 23 = .ok (.ifCond .eq 8, 3) := by decide +kernel
theorem d_GK_mustBeValue_26 : decode b_GK_mustBeValue 26 = .ok (.aload_n 0, 1) := by decide +kernel
theorem d_GK_mustBeValue_27 : decode b_GK_mustBeValue 27 = .ok (.iconst 2, 1) := by decide +kernel
theorem d_GK_mustBeValue_28 : decode b_GK_mustBeValue 28 = .ok (.invokevirtual 262, 3) := by decide +kernel
theorem d_GK_mustBeValue_31 : decode b_GK_mustBeValue 31 = .ok (.return_, 1) := by decide +kernel
theorem d_GK_mustBeLess_0 : decode b_GK_mustBeLess 0 = .ok (.iload_n 1, 1) := by decide +kernel
theorem d_GK_mustBeLess_1 : decode b_GK_mustBeLess 1 = .ok (.iload_n 2, 1) := by decide +kernel
theorem d_GK_mustBeLess_2 : decode b_GK_mustBeLess 2 = .ok (.if_icmp .lt 9, 3) := by decide +kernel
theorem d_GK_mustBeLess_5 : decode b_GK_mustBeLess 5 = .ok (.aload_n 0, 1) := by decide +kernel
theorem d_GK_mustBeLess_6 : decode b_GK_mustBeLess 6 = .ok (.bipush 6, 2) := by decide +kernel
theorem d_GK_mustBeLess_8 : decode b_GK_mustBeLess 8 = .ok (.invokevirtual 262, 3) := by decide +kernel
