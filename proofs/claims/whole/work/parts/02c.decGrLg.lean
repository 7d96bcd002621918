/-! the instructions of Gr -/
theorem d_Gr_init_0 : decode b_Gr_init 0 = .ok (.aload_n 0, 1) := by decide +kernel
theorem d_Gr_init_1 : decode b_Gr_init 1 = .ok (.invokespecial 3, 3) := by decide +kernel
theorem d_Gr_init_4 : decode b_Gr_init 4 = .ok (.aload_n 0, 1) := by decide +kernel
theorem d_Gr_init_5 : decode b_Gr_init 5 = .ok (.bipush 64, 2) := by decide +kernel
theorem d_Gr_init_7 : decode b_Gr_init 7 = .ok (.anewarray 9, 3) := by decide +kernel
theorem d_Gr_init_10 : decode b_Gr_init 10 = .ok (.putfield 11, 3) := by decide +kernel
theorem d_Gr_init_13 : decode b_Gr_init 13 = .ok (.aload_n 0, 1) := by decide +kernel
theorem d_Gr_init_14 : decode b_Gr_init 14 = .ok (.bipush 96, 2) := by decide +kernel
theorem d_Gr_init_16 : decode b_Gr_init 16 = .ok (.anewarray 17, 3) := by decide +kernel
theorem d_Gr_init_19 : decode b_Gr_init 19 = .ok (.putfield 19, 3) := by decide +kernel
theorem d_Gr_init_22 : decode b_Gr_init 22 = .ok (.return_, 1) := by decide +kernel
theorem d_Gr_nodeAt_0 : decode b_Gr_nodeAt 0 = .ok (.iload_n 1, 1) := by decide +kernel
theorem d_Gr_nodeAt_1 : decode b_Gr_nodeAt 1 = .ok (.ifCond .lt 21, 3) := by decide +kernel
theorem d_Gr_nodeAt_4 : decode b_Gr_nodeAt 4 = .ok (.iload_n 1, 1) := by decide +kernel
theorem d_Gr_nodeAt_5 : decode b_Gr_nodeAt 5 = .ok (.aload_n 0, 1) := by decide +kernel
theorem d_Gr_nodeAt_6 : decode b_Gr_nodeAt 6 = .ok (.getfield 11, 3) := by decide +kernel
theorem d_Gr_nodeAt_9 : decode b_Gr_nodeAt 9 = .ok (.arraylength, 1) := by decide +kernel
theorem d_Gr_nodeAt_10 : decode b_Gr_nodeAt 10 = .ok (.if_icmp .ge 12, 3) := by decide +kernel
theorem d_Gr_nodeAt_13 : decode b_Gr_nodeAt 13 = .ok (.aload_n 0, 1) := by decide +kernel
theorem d_Gr_nodeAt_14 : decode b_Gr_nodeAt 14 = .ok (.getfield 11, 3) := by decide +kernel
theorem d_Gr_nodeAt_17 : decode b_Gr_nodeAt 17 = .ok (.iload_n 1, 1) := by decide +kernel
theorem d_Gr_nodeAt_18 : decode b_Gr_nodeAt 18 = .ok (.aaload, 1) := by decide +kernel
theorem d_Gr_nodeAt_19 : decode b_Gr_nodeAt 19 = .ok (.goto 4, 3) := by decide +kernel
theorem d_Gr_nodeAt_22 : decode b_Gr_nodeAt 22 = .ok (.aconst_null, 1) := by decide +kernel
theorem d_Gr_nodeAt_23 : decode b_Gr_nodeAt 23 = .ok (.areturn, 1) := by decide +kernel
theorem d_Gr_linkAt_0 : decode b_Gr_linkAt 0 = .ok (.iload_n 1, 1) := by decide +kernel
theorem d_Gr_linkAt_1 : decode b_Gr_linkAt 1 = .ok (.ifCond .lt 21, 3) := by decide +kernel
theorem d_Gr_linkAt_4 : decode b_Gr_linkAt 4 = .ok (.iload_n 1, 1) := by decide +kernel
theorem d_Gr_linkAt_5 : decode b_Gr_linkAt 5 = .ok (.aload_n 0, 1) := by decide +kernel
theorem d_Gr_linkAt_6 : decode b_Gr_linkAt 6 = .ok (.getfield 19, 3) := by decide +kernel
theorem d_Gr_linkAt_9 : decode b_Gr_linkAt 9 = .ok (.arraylength, 1) := by decide +kernel
theorem d_Gr_linkAt_10 : decode b_Gr_linkAt 10 = .ok (.if_icmp .ge 12, 3) := by decide +kernel
theorem d_Gr_linkAt_13 : decode b_Gr_linkAt 13 = .ok (.aload_n 0, 1) := by decide +kernel
theorem d_Gr_linkAt_14 : decode b_Gr_linkAt 14 = .ok (.getfield 19, 3) := by decide +kernel
theorem d_Gr_linkAt_17 : decode b_Gr_linkAt 17 = .ok (.iload_n 1, 1) := by decide +kernel
theorem d_Gr_linkAt_18 : decode b_Gr_linkAt 18 = .ok (.aaload, 1) := by decide +kernel
theorem d_Gr_linkAt_19 : decode b_Gr_linkAt 19 = .ok (.goto 4, 3) := by decide +kernel
theorem d_Gr_linkAt_22 : decode b_Gr_linkAt 22 = .ok (.aconst_null, 1) := by decide +kernel
theorem d_Gr_linkAt_23 : decode b_Gr_linkAt 23 = .ok (.areturn, 1) := by decide +kernel
theorem d_Gr_thingAt_0 : decode b_Gr_thingAt 0 = .ok (.iload_n 1, 1) := by decide +kernel
theorem d_Gr_thingAt_1 : decode b_Gr_thingAt 1 = .ok (.iconst 4, 1) := by decide +kernel
theorem d_Gr_thingAt_2 : decode b_Gr_thingAt 2 = .ok (.if_icmp .ne 9, 3) := by decide +kernel
theorem d_Gr_thingAt_5 : decode b_Gr_thingAt 5 = .ok (.aload_n 0, 1) := by decide +kernel
theorem d_Gr_thingAt_6 : decode b_Gr_thingAt 6 = .ok (.iload_n 2, 1) := by decide +kernel
theorem d_Gr_thingAt_7 : decode b_Gr_thingAt 7 = .ok (.invokevirtual 23, 3) := by decide +kernel
theorem d_Gr_thingAt_10 : decode b_Gr_thingAt 10 = .ok (.areturn, 1) := by decide +kernel
theorem d_Gr_thingAt_11 : decode b_Gr_thingAt 11 = .ok (.iload_n 1, 1) := by decide +kernel
theorem d_Gr_thingAt_12 : decode b_Gr_thingAt 12 = .ok (.iconst 5, 1) := by decide +kernel
theorem d_Gr_thingAt_13 : decode b_Gr_thingAt 13 = .ok (.if_icmp .ne 11, 3) := by decide +kernel
theorem d_Gr_thingAt_16 : decode b_Gr_thingAt 16 = .ok (.aload_n 0, 1) := by decide +kernel
theorem d_Gr_thingAt_17 : decode b_Gr_thingAt 17 = .ok (.iload_n 2, 1) := by decide +kernel
theorem d_Gr_thingAt_18 : decode b_Gr_thingAt 18 = .ok (.invokevirtual 27, 3) := by decide +kernel
theorem d_Gr_thingAt_21 : decode b_Gr_thingAt 21 = .ok (.goto 4, 3) := by decide +kernel
theorem d_Gr_thingAt_24 : decode b_Gr_thingAt 24 = .ok (.aconst_null, 1) := by decide +kernel
theorem d_Gr_thingAt_25 : decode b_Gr_thingAt 25 = .ok (.areturn, 1) := by decide +kernel
theorem d_Gr_putNode_0 : decode b_Gr_putNode 0 = .ok (.iload_n 1, 1) := by decide +kernel
theorem d_Gr_putNode_1 : decode b_Gr_putNode 1 = .ok (.ifCond .lt 19, 3) := by decide +kernel
theorem d_Gr_putNode_4 : decode b_Gr_putNode 4 = .ok (.iload_n 1, 1) := by decide +kernel
theorem d_Gr_putNode_5 : decode b_Gr_putNode 5 = .ok (.aload_n 0, 1) := by decide +kernel
theorem d_Gr_putNode_6 : decode b_Gr_putNode 6 = .ok (.getfield 11, 3) := by decide +kernel
theorem d_Gr_putNode_9 : decode b_Gr_putNode 9 = .ok (.arraylength, 1) := by decide +kernel
theorem d_Gr_putNode_10 : decode b_Gr_putNode 10 = .ok (.if_icmp .ge 10, 3) := by decide +kernel
theorem d_Gr_putNode_13 : decode b_Gr_putNode 13 = .ok (.aload_n 0, 1) := by decide +kernel
theorem d_Gr_putNode_14 : decode b_Gr_putNode 14 = .ok (.getfield 11, 3) := by decide +kernel
theorem d_Gr_putNode_17 : decode b_Gr_putNode 17 = .ok (.iload_n 1, 1) := by decide +kernel
theorem d_Gr_putNode_18 : decode b_Gr_putNode 18 = .ok (.aload_n 2, 1) := by decide +kernel
theorem d_Gr_putNode_19 : decode b_Gr_putNode 19 = .ok (.aastore, 1) := by decide +kernel
theorem d_Gr_putNode_20 : decode b_Gr_putNode 20 = .ok (.return_, 1) := by decide +kernel
theorem d_Gr_putLink_0 : decode b_Gr_putLink 0 = .ok (.iload_n 1, 1) := by decide +kernel
theorem d_Gr_putLink_1 : decode b_Gr_putLink 1 = .ok (.ifCond .lt 19, 3) := by decide +kernel
theorem d_Gr_putLink_4 : decode b_Gr_putLink 4 = .ok (.iload_n 1, 1) := by decide +kernel
theorem d_Gr_putLink_5 : decode b_Gr_putLink 5 = .ok (.aload_n 0, 1) := by decide +kernel
theorem d_Gr_putLink_6 : decode b_Gr_putLink 6 = .ok (.getfield 19, 3) := by decide +kernel
theorem d_Gr_putLink_9 : decode b_Gr_putLink 9 = .ok (.arraylength, 1) := by decide +kernel
theorem d_Gr_putLink_10 : decode b_Gr_putLink 10 = .ok (.if_icmp .ge 10, 3) := by decide +kernel
theorem d_Gr_putLink_13 : decode b_Gr_putLink 13 = .ok (.aload_n 0, 1) := by decide +kernel
theorem d_Gr_putLink_14 : decode b_Gr_putLink 14 = .ok (.getfield 19, 3) := by decide +kernel
theorem d_Gr_putLink_17 : decode b_Gr_putLink 17 = .ok (.iload_n 1, 1) := by decide +kernel
theorem d_Gr_putLink_18 : decode b_Gr_putLink 18 = .ok (.aload_n 2, 1) := by decide +kernel
theorem d_Gr_putLink_19 : decode b_Gr_putLink 19 = .ok (.aastore, 1) := by decide +kernel
theorem d_Gr_putLink_20 : decode b_Gr_putLink 20 = .ok (.return_, 1) := by decide +kernel
theorem d_Gr_putAgain_0 : decode b_Gr_putAgain 0 = .ok (.aload_n 1, 1) := by decide +kernel
theorem d_Gr_putAgain_1 : decode b_Gr_putAgain 1 = .ok (.instanceof 9, 3) := by decide +kernel
theorem d_Gr_putAgain_4 : decode b_Gr_putAgain 4 = .ok (.ifCond .eq 30, 3) := by decide +kernel
theorem d_Gr_putAgain_7 : decode b_Gr_putAgain 7 = .ok (.aload_n 1, 1) := by decide +kernel
theorem d_Gr_putAgain_8 : decode b_Gr_putAgain 8 = .ok (.checkcast 9, 3) := by decide +kernel
theorem d_Gr_putAgain_11 : decode b_Gr_putAgain 11 = .ok (.astore 4, 2) := by decide +kernel
theorem d_Gr_putAgain_13 : decode b_Gr_putAgain 13 = .ok (.aload_n 0, 1) := by decide +kernel
theorem d_Gr_putAgain_14 : decode b_Gr_putAgain 14 = .ok (.iload_n 2, 1) := by decide +kernel
theorem d_Gr_putAgain_15 : decode b_Gr_putAgain 15 = .ok (.new 9, 3) := by decide +kernel
theorem d_Gr_putAgain_18 : decode b_Gr_putAgain 18 = .ok (.dup, 1) := by decide +kernel
theorem d_Gr_putAgain_19 : decode b_Gr_putAgain 19 = .ok (.aload 4, 2) := by decide +kernel
theorem d_Gr_putAgain_21 : decode b_Gr_putAgain 21 = .ok (.getfield 31, 3) := by decide +kernel
theorem d_Gr_putAgain_24 : decode b_Gr_putAgain 24 = .ok (.aload_n 3, 1) := by decide +kernel
theorem d_Gr_putAgain_25 : decode b_Gr_putAgain 25 = .ok (.invokespecial 35, 3) := by decide +kernel
theorem d_Gr_putAgain_28 : decode b_Gr_putAgain 28 = .ok (.invokevirtual 38, 3) := by decide +kernel
theorem d_Gr_putAgain_31 : decode b_Gr_putAgain 31 = .ok (.goto 44, 3) := by decide +kernel
theorem d_Gr_putAgain_34 : decode b_Gr_putAgain 34 = .ok (.aload_n 1, 1) := by decide +kernel
theorem d_Gr_putAgain_35 : decode b_Gr_putAgain 35 = .ok (.instanceof 17, 3) := by decide +kernel
theorem d_Gr_putAgain_38 : decode b_Gr_putAgain 38 = .ok (.ifCond .eq 37, 3) := by decide +kernel
theorem d_Gr_putAgain_41 : decode b_Gr_putAgain 41 = .ok (.aload_n 1, 1) := by decide +kernel
theorem d_Gr_putAgain_42 : decode b_Gr_putAgain 42 = .ok (.checkcast 17, 3) := by decide +kernel
theorem d_Gr_putAgain_45 : decode b_Gr_putAgain 45 = .ok (.astore 5, 2) := by decide +kernel
theorem d_Gr_putAgain_47 : decode b_Gr_putAgain 47 = .ok (.aload_n 0, 1) := by decide +kernel
theorem d_Gr_putAgain_48 : decode b_Gr_putAgain 48 = .ok (.iload_n 2, 1) := by decide +kernel
theorem d_Gr_putAgain_49 : decode b_Gr_putAgain 49 = .ok (.new 17, 3) := by decide +kernel
theorem d_Gr_putAgain_52 : decode b_Gr_putAgain 52 = .ok (.dup, 1) := by decide +kernel
theorem d_Gr_putAgain_53 : decode b_Gr_putAgain 53 = .ok (.aload 5, 2) := by decide +kernel
theorem d_Gr_putAgain_55 : decode b_Gr_putAgain 55 = .ok (.getfield 42, 3) := by decide +kernel
theorem d_Gr_putAgain_58 : decode b_Gr_putAgain 58 = .ok (.aload 5, 2) := by decide +kernel
theorem d_Gr_putAgain_60 : decode b_Gr_putAgain 60 = .ok (.getfield 46, 3) := by decide +kernel
theorem d_Gr_putAgain_63 : decode b_Gr_putAgain 63 = .ok (.aload 5, 2) := by decide +kernel
theorem d_Gr_putAgain_65 : decode b_Gr_putAgain 65 = .ok (.getfield 49, 3) := by decide +kernel
theorem d_Gr_putAgain_68 : decode b_Gr_putAgain 68 = .ok (.aload_n 3, 1) := by decide +kernel
theorem d_Gr_putAgain_69 : decode b_Gr_putAgain 69 = .ok (.invokespecial 52, 3) := by decide +kernel
theorem d_Gr_putAgain_72 : decode b_Gr_putAgain 72 = .ok (.invokevirtual 55, 3) := by decide +kernel
theorem d_Gr_putAgain_75 : decode b_Gr_putAgain 75 = .ok (.return_, 1) := by decide +kernel
theorem d_Gr_countNodes_0 : decode b_Gr_countNodes 0 = .ok (.iconst 0, 1) := by decide +kernel
theorem d_Gr_countNodes_1 : decode b_Gr_countNodes 1 = .ok (.istore_n 1, 1) := by decide +kernel
theorem d_Gr_countNodes_2 : decode b_Gr_countNodes 2 = .ok (.iconst 0, 1) := by decide +kernel
theorem d_Gr_countNodes_3 : decode b_Gr_countNodes 3 = .ok (.istore_n 2, 1) := by decide +kernel
theorem d_Gr_countNodes_4 : decode b_Gr_countNodes 4 = .ok (.iload_n 2, 1) := by decide +kernel
theorem d_Gr_countNodes_5 : decode b_Gr_countNodes 5 = .ok (.aload_n 0, 1) := by decide +kernel
theorem d_Gr_countNodes_6 : decode b_Gr_countNodes 6 = .ok (.getfield 11, 3) := by decide +kernel
theorem d_Gr_countNodes_9 : decode b_Gr_countNodes 9 = .ok (.arraylength, 1) := by decide +kernel
theorem d_Gr_countNodes_10 : decode b_Gr_countNodes 10 = .ok (.if_icmp .ge 26, 3) := by decide +kernel
theorem d_Gr_countNodes_13 : decode b_Gr_countNodes 13 = .ok (.iload_n 1, 1) := by decide +kernel
theorem d_Gr_countNodes_14 : decode b_Gr_countNodes 14 = .ok (.aload_n 0, 1) := by decide +kernel
theorem d_Gr_countNodes_15 : decode b_Gr_countNodes 15 = .ok (.getfield 11, 3) := by decide +kernel
theorem d_Gr_countNodes_18 : decode b_Gr_countNodes 18 = .ok (.iload_n 2, 1) := by decide +kernel
theorem d_Gr_countNodes_19 : decode b_Gr_countNodes 19 = .ok (.aaload, 1) := by decide +kernel
theorem d_Gr_countNodes_20 : decode b_Gr_countNodes 20 = .ok (.ifnonnull 7, 3) := by decide +kernel
theorem d_Gr_countNodes_23 : decode b_Gr_countNodes 23 = .ok (.iconst 0, 1) := by decide +kernel
theorem d_Gr_countNodes_24 : decode b_Gr_countNodes 24 = .ok (.goto 4, 3) := by decide +kernel
theorem d_Gr_countNodes_27 : decode b_Gr_countNodes 27 = .ok (.iconst 1, 1) := by decide +kernel
theorem d_Gr_countNodes_28 : decode b_Gr_countNodes 28 = .ok (.iadd, 1) := by decide +kernel
theorem d_Gr_countNodes_29 : decode b_Gr_countNodes 29 = .ok (.istore_n 1, 1) := by decide +kernel
theorem d_Gr_countNodes_30 : decode b_Gr_countNodes 30 = .ok (.iinc 2 1, 3) := by decide +kernel
theorem d_Gr_countNodes_33 : decode b_Gr_countNodes 33 = .ok (.goto (-29), 3) := by decide +kernel
theorem d_Gr_countNodes_36 : decode b_Gr_countNodes 36 = .ok (.iload_n 1, 1) := by decide +kernel
theorem d_Gr_countNodes_37 : decode b_Gr_countNodes 37 = .ok (.ireturn, 1) := by decide +kernel
theorem d_Gr_countLinks_0 : decode b_Gr_countLinks 0 = .ok (.iconst 0, 1) := by decide +kernel
theorem d_Gr_countLinks_1 : decode b_Gr_countLinks 1 = .ok (.istore_n 1, 1) := by decide +kernel
theorem d_Gr_countLinks_2 : decode b_Gr_countLinks 2 = .ok (.iconst 0, 1) := by decide +kernel
theorem d_Gr_countLinks_3 : decode b_Gr_countLinks 3 = .ok (.istore_n 2, 1) := by decide +kernel
theorem d_Gr_countLinks_4 : decode b_Gr_countLinks 4 = .ok (.iload_n 2, 1) := by decide +kernel
theorem d_Gr_countLinks_5 : decode b_Gr_countLinks 5 = .ok (.aload_n 0, 1) := by decide +kernel
theorem d_Gr_countLinks_6 : decode b_Gr_countLinks 6 = .ok (.getfield 19, 3) := by decide +kernel
theorem d_Gr_countLinks_9 : decode b_Gr_countLinks 9 = .ok (.arraylength, 1) := by decide +kernel
theorem d_Gr_countLinks_10 : decode b_Gr_countLinks 10 = .ok (.if_icmp .ge 26, 3) := by decide +kernel
theorem d_Gr_countLinks_13 : decode b_Gr_countLinks 13 = .ok (.iload_n 1, 1) := by decide +kernel
theorem d_Gr_countLinks_14 : decode b_Gr_countLinks 14 = .ok (.aload_n 0, 1) := by decide +kernel
theorem d_Gr_countLinks_15 : decode b_Gr_countLinks 15 = .ok (.getfield 19, 3) := by decide +kernel
theorem d_Gr_countLinks_18 : decode b_Gr_countLinks 18 = .ok (.iload_n 2, 1) := by decide +kernel
theorem d_Gr_countLinks_19 : decode b_Gr_countLinks 19 = .ok (.aaload, 1) := by decide +kernel
theorem d_Gr_countLinks_20 : decode b_Gr_countLinks 20 = .ok (.ifnonnull 7, 3) := by decide +kernel
theorem d_Gr_countLinks_23 : decode b_Gr_countLinks 23 = .ok (.iconst 0, 1) := by decide +kernel
theorem d_Gr_countLinks_24 : decode b_Gr_countLinks 24 = .ok (.goto 4, 3) := by decide +kernel
theorem d_Gr_countLinks_27 : decode b_Gr_countLinks 27 = .ok (.iconst 1, 1) := by decide +kernel
theorem d_Gr_countLinks_28 : decode b_Gr_countLinks 28 = .ok (.iadd, 1) := by decide +kernel
theorem d_Gr_countLinks_29 : decode b_Gr_countLinks 29 = .ok (.istore_n 1, 1) := by decide +kernel
theorem d_Gr_countLinks_30 : decode b_Gr_countLinks 30 = .ok (.iinc 2 1, 3) := by decide +kernel
theorem d_Gr_countLinks_33 : decode b_Gr_countLinks 33 = .ok (.goto (-29), 3) := by decide +kernel
theorem d_Gr_countLinks_36 : decode b_Gr_countLinks 36 = .ok (.iload_n 1, 1) := by decide +kernel
theorem d_Gr_countLinks_37 : decode b_Gr_countLinks 37 = .ok (.ireturn, 1) := by decide +kernel
theorem d_Gr_countChain_0 : decode b_Gr_countChain 0 = .ok (.iconst 0, 1) := by decide +kernel
theorem d_Gr_countChain_1 : decode b_Gr_countChain 1 = .ok (.istore_n 3, 1) := by decide +kernel
theorem d_Gr_countChain_2 : decode b_Gr_countChain 2 = .ok (.iconst 0, 1) := by decide +kernel
theorem d_Gr_countChain_3 : decode b_Gr_countChain 3 = .ok (.istore 4, 2) := by decide +kernel
theorem d_Gr_countChain_5 : decode b_Gr_countChain 5 = .ok (.iload 4, 2) := by decide +kernel
theorem d_Gr_countChain_7 : decode b_Gr_countChain 7 = .ok (.aload_n 0, 1) := by decide +kernel
theorem d_Gr_countChain_8 : decode b_Gr_countChain 8 = .ok (.getfield 19, 3) := by decide +kernel
theorem d_Gr_countChain_11 : decode b_Gr_countChain 11 = .ok (.arraylength, 1) := by decide +kernel
theorem d_Gr_countChain_12 : decode b_Gr_countChain 12 = .ok (.if_icmp .ge 28, 3) := by decide +kernel
theorem d_Gr_countChain_15 : decode b_Gr_countChain 15 = .ok (.iload_n 3, 1) := by decide +kernel
theorem d_Gr_countChain_16 : decode b_Gr_countChain 16 = .ok (.aload_n 0, 1) := by decide +kernel
theorem d_Gr_countChain_17 : decode b_Gr_countChain 17 = .ok (.iload 4, 2) := by decide +kernel
theorem d_Gr_countChain_19 : decode b_Gr_countChain 19 = .ok (.iload_n 1, 1) := by decide +kernel
theorem d_Gr_countChain_20 : decode b_Gr_countChain 20 = .ok (.iload_n 2, 1) := by decide +kernel
theorem d_Gr_countChain_21 : decode b_Gr_countChain 21 = .ok (.invokevirtual 59, 3) := by decide +kernel
theorem d_Gr_countChain_24 : decode b_Gr_countChain 24 = .ok (.ifCond .eq 7, 3) := by decide +kernel
theorem d_Gr_countChain_27 : decode b_Gr_countChain 27 = .ok (.iconst 1, 1) := by decide +kernel
theorem d_Gr_countChain_28 : decode b_Gr_countChain 28 = .ok (.goto 4, 3) := by decide +kernel
theorem d_Gr_countChain_31 : decode b_Gr_countChain 31 = .ok (.iconst 0, 1) := by decide +kernel
theorem d_Gr_countChain_32 : decode b_Gr_countChain 32 = .ok (.iadd, 1) := by decide +kernel
theorem d_Gr_countChain_33 : decode b_Gr_countChain 33 = .ok (.istore_n 3, 1) := by decide +kernel
theorem d_Gr_countChain_34 : decode b_Gr_countChain 34 = .ok (.iinc 4 1, 3) := by decide +kernel
theorem d_Gr_countChain_37 : decode b_Gr_countChain 37 = .ok (.goto (-32), 3) := by decide +kernel
theorem d_Gr_countChain_40 : decode b_Gr_countChain 40 = .ok (.iload_n 3, 1) := by decide +kernel
theorem d_Gr_countChain_41 : decode b_Gr_countChain 41 = .ok (.ireturn, 1) := by decide +kernel
theorem d_Gr_linkInChain_0 : decode b_Gr_linkInChain 0 = .ok (.iconst 0, 1) := by decide +kernel
theorem d_Gr_linkInChain_1 : decode b_Gr_linkInChain 1 = .ok (.istore 4, 2) := by decide +kernel
theorem d_Gr_linkInChain_3 : decode b_Gr_linkInChain 3 = .ok (.iconst 0, 1) := by decide +kernel
theorem d_Gr_linkInChain_4 : decode b_Gr_linkInChain 4 = .ok (.istore 5, 2) := by decide +kernel
theorem d_Gr_linkInChain_6 : decode b_Gr_linkInChain 6 = .ok (.iload 5, 2) := by decide +kernel
theorem d_Gr_linkInChain_8 : decode b_Gr_linkInChain 8 = .ok (.aload_n 0, 1) := by decide +kernel
theorem d_Gr_linkInChain_9 : decode b_Gr_linkInChain 9 = .ok (.getfield 19, 3) := by decide +kernel
theorem d_Gr_linkInChain_12 : decode b_Gr_linkInChain 12 = .ok (.arraylength, 1) := by decide +kernel
theorem d_Gr_linkInChain_13 : decode b_Gr_linkInChain 13 = .ok (.if_icmp .ge 32, 3) := by decide +kernel
theorem d_Gr_linkInChain_16 : decode b_Gr_linkInChain 16 = .ok (.aload_n 0, 1) := by decide +kernel
theorem d_Gr_linkInChain_17 : decode b_Gr_linkInChain 17 = .ok (.iload 5, 2) := by decide +kernel
theorem d_Gr_linkInChain_19 : decode b_Gr_linkInChain 19 = .ok (.iload_n 1, 1) := by decide +kernel
theorem d_Gr_linkInChain_20 : decode b_Gr_linkInChain 20 = .ok (.iload_n 2, 1) := by decide +kernel
theorem d_Gr_linkInChain_21 : decode b_Gr_linkInChain 21 = .ok (.invokevirtual 59, 3) := by decide +kernel
theorem d_Gr_linkInChain_24 : decode b_Gr_linkInChain 24 = .ok (.ifCond .eq 15, 3) := by decide +kernel
theorem d_Gr_linkInChain_27 : decode b_Gr_linkInChain 27 = .ok (.iload 4, 2) := by decide +kernel
theorem d_Gr_linkInChain_29 : decode b_Gr_linkInChain 29 = .ok (.iload_n 3, 1) := by decide +kernel
theorem d_Gr_linkInChain_30 : decode b_Gr_linkInChain 30 = .ok (.if_icmp .ne 6, 3) := by decide +kernel
theorem d_Gr_linkInChain_33 : decode b_Gr_linkInChain 33 = .ok (.iload 5, 2) := by decide +kernel
theorem d_Gr_linkInChain_35 : decode b_Gr_linkInChain 35 = .ok (.ireturn, 1) := by decide +kernel
theorem d_Gr_linkInChain_36 : decode b_Gr_linkInChain 36 = .ok (.iinc 4 1, 3) := by decide +kernel
theorem d_Gr_linkInChain_39 : decode b_Gr_linkInChain 39 = .ok (.iinc 5 1, 3) := by decide +kernel
theorem d_Gr_linkInChain_42 : decode b_Gr_linkInChain 42 = .ok (.goto (-36), 3) := by decide +kernel
theorem d_Gr_linkInChain_45 : decode b_Gr_linkInChain 45 = .ok (.iconst (-1), 1) := by decide +kernel
theorem d_Gr_linkInChain_46 : decode b_Gr_linkInChain 46 = .ok (.ireturn, 1) := by decide +kernel
theorem d_Gr_isInChain_0 : decode b_Gr_isInChain 0 = .ok (.aload_n 0, 1) := by decide +kernel
theorem d_Gr_isInChain_1 : decode b_Gr_isInChain 1 = .ok (.iload_n 1, 1) := by decide +kernel
theorem d_Gr_isInChain_2 : decode b_Gr_isInChain 2 = .ok (.invokevirtual 27, 3) := by decide +kernel
theorem d_Gr_isInChain_5 : decode b_Gr_isInChain 5 = .ok (.astore 4, 2) := by decide +kernel
theorem d_Gr_isInChain_7 : decode b_Gr_isInChain 7 = .ok (.aload 4, 2) := by decide +kernel
theorem d_Gr_isInChain_9 : decode b_Gr_isInChain 9 = .ok (.ifnull 28, 3) := by decide +kernel
theorem d_Gr_isInChain_12 : decode b_Gr_isInChain 12 = .ok (.iload_n 3, 1) := by decide +kernel
theorem d_Gr_isInChain_13 : decode b_Gr_isInChain 13 = .ok (.ifCond .eq 11, 3) := by decide +kernel
theorem d_Gr_isInChain_16 : decode b_Gr_isInChain 16 = .ok (.aload 4, 2) := by decide +kernel
theorem d_Gr_isInChain_18 : decode b_Gr_isInChain 18 = .ok (.getfield 42, 3) := by decide +kernel
theorem d_Gr_isInChain_21 : decode b_Gr_isInChain 21 = .ok (.goto 8, 3) := by decide +kernel
theorem d_Gr_isInChain_24 : decode b_Gr_isInChain 24 = .ok (.aload 4, 2) := by decide +kernel
theorem d_Gr_isInChain_26 : decode b_Gr_isInChain 26 = .ok (.getfield 46, 3) := by decide +kernel
theorem d_Gr_isInChain_29 : decode b_Gr_isInChain 29 = .ok (.iload_n 2, 1) := by decide +kernel
theorem d_Gr_isInChain_30 : decode b_Gr_isInChain 30 = .ok (.if_icmp .ne 7, 3) := by decide +kernel
theorem d_Gr_isInChain_33 : decode b_Gr_isInChain 33 = .ok (.iconst 1, 1) := by decide +kernel
theorem d_Gr_isInChain_34 : decode b_Gr_isInChain 34 = .ok (.goto 4, 3) := by decide +kernel
theorem d_Gr_isInChain_37 : decode b_Gr_isInChain 37 = .ok (.iconst 0, 1) := by decide +kernel
theorem d_Gr_isInChain_38 : decode b_Gr_isInChain 38 = .ok (.ireturn, 1) := by decide +kernel
theorem d_Gr_copyFrom_0 : decode b_Gr_copyFrom 0 = .ok (.iconst 0, 1) := by decide +kernel
theorem d_Gr_copyFrom_1 : decode b_Gr_copyFrom 1 = .ok (.istore_n 2, 1) := by decide +kernel
theorem d_Gr_copyFrom_2 : decode b_Gr_copyFrom 2 = .ok (.iload_n 2, 1) := by decide +kernel
theorem d_Gr_copyFrom_3 : decode b_Gr_copyFrom 3 = .ok (.aload_n 0, 1) := by decide +kernel
theorem d_Gr_copyFrom_4 : decode b_Gr_copyFrom 4 = .ok (.getfield 11, 3) := by decide +kernel
theorem d_Gr_copyFrom_7 : decode b_Gr_copyFrom 7 = .ok (.arraylength, 1) := by decide +kernel
theorem d_Gr_copyFrom_8 : decode b_Gr_copyFrom 8 = .ok (.if_icmp .ge 20, 3) := by decide +kernel
theorem d_Gr_copyFrom_11 : decode b_Gr_copyFrom 11 = .ok (.aload_n 0, 1) := by decide +kernel
theorem d_Gr_copyFrom_12 : decode b_Gr_copyFrom 12 = .ok (.getfield 11, 3) := by decide +kernel
theorem d_Gr_copyFrom_15 : decode b_Gr_copyFrom 15 = .ok (.iload_n 2, 1) := by decide +kernel
theorem d_Gr_copyFrom_16 : decode b_Gr_copyFrom 16 = .ok (.aload_n 1, 1) := by decide +kernel
theorem d_Gr_copyFrom_17 : decode b_Gr_copyFrom 17 = .ok (.iload_n 2, 1) := by decide +kernel
theorem d_Gr_copyFrom_18 : decode b_Gr_copyFrom 18 = .ok (.invokevirtual 23, 3) := by decide +kernel
theorem d_Gr_copyFrom_21 : decode b_Gr_copyFrom 21 = .ok (.aastore, 1) := by decide +kernel
theorem d_Gr_copyFrom_22 : decode b_Gr_copyFrom 22 = .ok (.iinc 2 1, 3) := by decide +kernel
theorem d_Gr_copyFrom_25 : decode b_Gr_copyFrom 25 = .ok (.goto (-23), 3) := by decide +kernel
theorem d_Gr_copyFrom_28 : decode b_Gr_copyFrom 28 = .ok (.iconst 0, 1) := by decide +kernel
theorem d_Gr_copyFrom_29 : decode b_Gr_copyFrom 29 = .ok (.istore_n 2, 1) := by decide +kernel
theorem d_Gr_copyFrom_30 : decode b_Gr_copyFrom 30 = .ok (.iload_n 2, 1) := by decide +kernel
theorem d_Gr_copyFrom_31 : decode b_Gr_copyFrom 31 = .ok (.aload_n 0, 1) := by decide +kernel
theorem d_Gr_copyFrom_32 : decode b_Gr_copyFrom 32 = .ok (.getfield 19, 3) := by decide +kernel
theorem d_Gr_copyFrom_35 : decode b_Gr_copyFrom 35 = .ok (.arraylength, 1) := by decide +kernel
theorem d_Gr_copyFrom_36 : decode b_Gr_copyFrom 36 = .ok (.if_icmp .ge 20, 3) := by decide +kernel
theorem d_Gr_copyFrom_39 : decode b_Gr_copyFrom 39 = .ok (.aload_n 0, 1) := by decide +kernel
theorem d_Gr_copyFrom_40 : decode b_Gr_copyFrom 40 = .ok (.getfield 19, 3) := by decide +kernel
theorem d_Gr_copyFrom_43 : decode b_Gr_copyFrom 43 = .ok (.iload_n 2, 1) := by decide +kernel
theorem d_Gr_copyFrom_44 : decode b_Gr_copyFrom 44 = .ok (.aload_n 1, 1) := by decide +kernel
theorem d_Gr_copyFrom_45 : decode b_Gr_copyFrom 45 = .ok (.iload_n 2, 1) := by decide +kernel
theorem d_Gr_copyFrom_46 : decode b_Gr_copyFrom 46 = .ok (.invokevirtual 27, 3) := by decide +kernel
theorem d_Gr_copyFrom_49 : decode b_Gr_copyFrom 49 = .ok (.aastore, 1) := by decide +kernel
theorem d_Gr_copyFrom_50 : decode b_Gr_copyFrom 50 = .ok (.iinc 2 1, 3) := by decide +kernel
theorem d_Gr_copyFrom_53 : decode b_Gr_copyFrom 53 = .ok (.goto (-23), 3) := by decide +kernel
theorem d_Gr_copyFrom_56 : decode b_Gr_copyFrom 56 = .ok (.return_, 1) := by decide +kernel
theorem d_Gr_clear_0 : decode b_Gr_clear 0 = .ok (.iconst 0, 1) := by decide +kernel
theorem d_Gr_clear_1 : decode b_Gr_clear 1 = .ok (.istore_n 1, 1) := by decide +kernel
theorem d_Gr_clear_2 : decode b_Gr_clear 2 = .ok (.iload_n 1, 1) := by decide +kernel
theorem d_Gr_clear_3 : decode b_Gr_clear 3 = .ok (.aload_n 0, 1) := by decide +kernel
theorem d_Gr_clear_4 : decode b_Gr_clear 4 = .ok (.getfield 11, 3) := by decide +kernel
theorem d_Gr_clear_7 : decode b_Gr_clear 7 = .ok (.arraylength, 1) := by decide +kernel
theorem d_Gr_clear_8 : decode b_Gr_clear 8 = .ok (.if_icmp .ge 16, 3) := by decide +kernel
theorem d_Gr_clear_11 : decode b_Gr_clear 11 = .ok (.aload_n 0, 1) := by decide +kernel
theorem d_Gr_clear_12 : decode b_Gr_clear 12 = .ok (.getfield 11, 3) := by decide +kernel
theorem d_Gr_clear_15 : decode b_Gr_clear 15 = .ok (.iload_n 1, 1) := by decide +kernel
theorem d_Gr_clear_16 : decode b_Gr_clear 16 = .ok (.aconst_null, 1) := by decide +kernel
theorem d_Gr_clear_17 : decode b_Gr_clear 17 = .ok (.aastore, 1) := by decide +kernel
theorem d_Gr_clear_18 : decode b_Gr_clear 18 = .ok (.iinc 1 1, 3) := by decide +kernel
theorem d_Gr_clear_21 : decode b_Gr_clear 21 = .ok (.goto (-19), 3) := by decide +kernel
theorem d_Gr_clear_24 : decode b_Gr_clear 24 = .ok (.iconst 0, 1) := by decide +kernel
theorem d_Gr_clear_25 : decode b_Gr_clear 25 = .ok (.istore_n 1, 1) := by decide +kernel
theorem d_Gr_clear_26 : decode b_Gr_clear 26 = .ok (.iload_n 1, 1) := by decide +kernel
theorem d_Gr_clear_27 : decode b_Gr_clear 27 = .ok (.aload_n 0, 1) := by decide +kernel
theorem d_Gr_clear_28 : decode b_Gr_clear 28 = .ok (.getfield 19, 3) := by decide +kernel
theorem d_Gr_clear_31 : decode b_Gr_clear 31 = .ok (.arraylength, 1) := by decide +kernel
theorem d_Gr_clear_32 : decode b_Gr_clear 32 = .ok (.if_icmp .ge 16, 3) := by decide +kernel
theorem d_Gr_clear_35 : decode b_Gr_clear 35 = .ok (.aload_n 0, 1) := by decide +kernel
theorem d_Gr_clear_36 : decode b_Gr_clear 36 = .ok (.getfield 19, 3) := by decide +kernel
theorem d_Gr_clear_39 : decode b_Gr_clear 39 = .ok (.iload_n 1, 1) := by decide +kernel
theorem d_Gr_clear_40 : decode b_Gr_clear 40 = .ok (.aconst_null, 1) := by decide +kernel
theorem d_Gr_clear_41 : decode b_Gr_clear 41 = .ok (.aastore, 1) := by decide +kernel
theorem d_Gr_clear_42 : decode b_Gr_clear 42 = .ok (.iinc 1 1, 3) := by decide +kernel
theorem d_Gr_clear_45 : decode b_Gr_clear 45 = .ok (.goto (-19), 3) := by decide +kernel
theorem d_Gr_clear_48 : decode b_Gr_clear 48 = .ok (.return_, 1) := by decide +kernel
/-! the instructions of Lg -/
theorem d_Lg_init_0 : decode b_Lg_init 0 = .ok (.aload_n 0, 1) := by decide +kernel
theorem d_Lg_init_1 : decode b_Lg_init 1 = .ok (.invokespecial 3, 3) := by decide +kernel
theorem d_Lg_init_4 : decode b_Lg_init 4 = .ok (.return_, 1) := by decide +kernel
theorem d_Lg_writesFor_0 : decode b_Lg_writesFor 0 = .ok (.iload_n 0, 1) := by decide +kernel
theorem d_Lg_writesFor_1 : decode b_Lg_writesFor 1 = .ok (.ifCond .ne 7, 3) := by decide +kernel
theorem d_Lg_writesFor_4 : decode b_Lg_writesFor 4 = .ok (.iconst 0, 1) := by decide +kernel
theorem d_Lg_writesFor_5 : decode b_Lg_writesFor 5 = .ok (.goto 6, 3) := by decide +kernel
theorem d_Lg_writesFor_8 : decode b_Lg_writesFor 8 = .ok (.iload_n 0, 1) := by decide +kernel
theorem d_Lg_writesFor_9 : decode b_Lg_writesFor 9 = .ok (.iconst 1, 1) := by decide +kernel
theorem d_Lg_writesFor_10 : decode b_Lg_writesFor 10 = .ok (.iadd, 1) := by decide +kernel
theorem d_Lg_writesFor_11 : decode b_Lg_writesFor 11 = .ok (.ireturn, 1) := by decide +kernel
theorem d_Lg_hasRoom_0 : decode b_Lg_hasRoom 0 = .ok (.aload_n 0, 1) := by decide +kernel
theorem d_Lg_hasRoom_1 : decode b_Lg_hasRoom 1 = .ok (.getfield 9, 3) := by decide +kernel
theorem d_Lg_hasRoom_4 : decode b_Lg_hasRoom 4 = .ok (.iload_n 1, 1) := by decide +kernel
theorem d_Lg_hasRoom_5 : decode b_Lg_hasRoom 5 = .ok (.invokestatic 15, 3) := by decide +kernel
theorem d_Lg_hasRoom_8 : decode b_Lg_hasRoom 8 = .ok (.iadd, 1) := by decide +kernel
theorem d_Lg_hasRoom_9 : decode b_Lg_hasRoom 9 = .ok (.sipush 250, 3) := by decide +kernel
theorem d_Lg_hasRoom_12 : decode b_Lg_hasRoom 12 = .ok (.if_icmp .gt 7, 3) := by decide +kernel
theorem d_Lg_hasRoom_15 : decode b_Lg_hasRoom 15 = .ok (.iconst 1, 1) := by decide +kernel
theorem d_Lg_hasRoom_16 : decode b_Lg_hasRoom 16 = .ok (.goto 4, 3) := by decide +kernel
theorem d_Lg_hasRoom_19 : decode b_Lg_hasRoom 19 = .ok (.iconst 0, 1) := by decide +kernel
theorem d_Lg_hasRoom_20 : decode b_Lg_hasRoom 20 = .ok (.ireturn, 1) := by decide +kernel
theorem d_Lg_failAt_0 : decode b_Lg_failAt 0 = .ok (.aload_n 0, 1) := by decide +kernel
theorem d_Lg_failAt_1 : decode b_Lg_failAt 1 = .ok (.iload_n 1, 1) := by decide +kernel
theorem d_Lg_failAt_2 : decode b_Lg_failAt 2 = .ok (.putfield 19, 3) := by decide +kernel
theorem d_Lg_failAt_5 : decode b_Lg_failAt 5 = .ok (.return_, 1) := by decide +kernel
theorem d_Lg_writeTransaction_0 : decode b_Lg_writeTransaction 0 = .ok (.iload_n 1, 1) := by decide +kernel
theorem d_Lg_writeTransaction_1 : decode b_Lg_writeTransaction 1 = .ok (.invokestatic 15, 3) := by decide +kernel
theorem d_Lg_writeTransaction_4 : decode b_Lg_writeTransaction 4 = .ok (.istore_n 2, 1) := by decide +kernel
theorem d_Lg_writeTransaction_5 : decode b_Lg_writeTransaction 5 = .ok (.aload_n 0, 1) := by decide +kernel
theorem d_Lg_writeTransaction_6 : decode b_Lg_writeTransaction 6 = .ok (.iload_n 2, 1) := by decide +kernel
theorem d_Lg_writeTransaction_7 : decode b_Lg_writeTransaction 7 = .ok (.invokevirtual 22, 3) := by decide +kernel
theorem d_Lg_writeTransaction_10 : decode b_Lg_writeTransaction 10 = .ok (.istore_n 3, 1) := by decide +kernel
theorem d_Lg_writeTransaction_11 : decode b_Lg_writeTransaction 11 = .ok (.iload_n 3, 1) := by decide +kernel
theorem d_Lg_writeTransaction_12 : decode b_Lg_writeTransaction 12 = .ok (.iload_n 2, 1) := by decide +kernel
theorem d_Lg_writeTransaction_13 : decode b_Lg_writeTransaction 13 = .ok (.if_icmp .ge 10, 3) := by decide +kernel
theorem d_Lg_writeTransaction_16 : decode b_Lg_writeTransaction 16 = .ok (.aload_n 0, 1) := by decide +kernel
theorem d_Lg_writeTransaction_17 : decode b_Lg_writeTransaction 17 = .ok (.iload_n 3, 1) := by decide +kernel
theorem d_Lg_writeTransaction_18 : decode b_Lg_writeTransaction 18 = .ok (.putfield 25, 3) := by decide +kernel
theorem d_Lg_writeTransaction_21 : decode b_Lg_writeTransaction 21 = .ok (.iconst 0, 1) := by decide +kernel
theorem d_Lg_writeTransaction_22 : decode b_Lg_writeTransaction 22 = .ok (.ireturn, 1) := by decide +kernel
theorem d_Lg_writeTransaction_23 : decode b_Lg_writeTransaction 23 = .ok (.aload_n 0, 1) := by decide +kernel
theorem d_Lg_writeTransaction_24 : decode b_Lg_writeTransaction 24 = .ok (.dup, 1) := by decide +kernel
theorem d_Lg_writeTransaction_25 : decode b_Lg_writeTransaction 25 = .ok (.getfield 9, 3) := by decide +kernel
theorem d_Lg_writeTransaction_28 : decode b_Lg_writeTransaction 28 = .ok (.iload_n 2, 1) := by decide +kernel
theorem d_Lg_writeTransaction_29 : decode b_Lg_writeTransaction 29 = .ok (.iadd, 1) := by decide +kernel
theorem d_Lg_writeTransaction_30 : decode b_Lg_writeTransaction 30 = .ok (.putfield 9, 3) := by decide +kernel
theorem d_Lg_writeTransaction_33 : decode b_Lg_writeTransaction 33 = .ok (.aload_n 0, 1) := by decide +kernel
theorem d_Lg_writeTransaction_34 : decode b_Lg_writeTransaction 34 = .ok (.dup, 1) := by decide +kernel
theorem d_Lg_writeTransaction_35 : decode b_Lg_writeTransaction 35 = .ok (.getfield 28, 3) := by decide +kernel
theorem d_Lg_writeTransaction_38 : decode b_Lg_writeTransaction 38 = .ok (.iconst 1, 1) := by decide +kernel
theorem d_Lg_writeTransaction_39 : decode b_Lg_writeTransaction 39 = .ok (.iadd, 1) := by decide +kernel
theorem d_Lg_writeTransaction_40 : decode b_Lg_writeTransaction 40 = .ok (.putfield 28, 3) := by decide +kernel
theorem d_Lg_writeTransaction_43 : decode b_Lg_writeTransaction 43 = .ok (.iconst 1, 1) := by decide +kernel
theorem d_Lg_writeTransaction_44 : decode b_Lg_writeTransaction 44 = .ok (.ireturn, 1) := by decide +kernel
theorem d_Lg_writeCheckpoint_0 : decode b_Lg_writeCheckpoint 0 = .ok (.aload_n 0, 1) := by decide +kernel
theorem d_Lg_writeCheckpoint_1 : decode b_Lg_writeCheckpoint 1 = .ok (.iload_n 1, 1) := by decide +kernel
theorem d_Lg_writeCheckpoint_2 : decode b_Lg_writeCheckpoint 2 = .ok (.invokevirtual 22, 3) := by decide +kernel
theorem d_Lg_writeCheckpoint_5 : decode b_Lg_writeCheckpoint 5 = .ok (.iload_n 1, 1) := by decide +kernel
theorem d_Lg_writeCheckpoint_6 : decode b_Lg_writeCheckpoint 6 = .ok (.if_icmp .ge 5, 3) := by decide +kernel
theorem d_Lg_writeCheckpoint_9 : decode b_Lg_writeCheckpoint 9 = .ok (.iconst 0, 1) := by decide +kernel
theorem d_Lg_writeCheckpoint_10 : decode b_Lg_writeCheckpoint 10 = .ok (.ireturn, 1) := by decide +kernel
theorem d_Lg_writeCheckpoint_11 : decode b_Lg_writeCheckpoint 11 = .ok (.aload_n 0, 1) := by decide +kernel
theorem d_Lg_writeCheckpoint_12 : decode b_Lg_writeCheckpoint 12 = .ok (.iconst 0, 1) := by decide +kernel
theorem d_Lg_writeCheckpoint_13 : decode b_Lg_writeCheckpoint 13 = .ok (.putfield 9, 3) := by decide +kernel
theorem d_Lg_writeCheckpoint_16 : decode b_Lg_writeCheckpoint 16 = .ok (.aload_n 0, 1) := by decide +kernel
theorem d_Lg_writeCheckpoint_17 : decode b_Lg_writeCheckpoint 17 = .ok (.iconst 0, 1) := by decide +kernel
theorem d_Lg_writeCheckpoint_18 : decode b_Lg_writeCheckpoint 18 = .ok (.putfield 28, 3) := by decide +kernel
theorem d_Lg_writeCheckpoint_21 : decode b_Lg_writeCheckpoint 21 = .ok (.iconst 1, 1) := by decide +kernel
theorem d_Lg_writeCheckpoint_22 : decode b_Lg_writeCheckpoint 22 = .ok (.ireturn, 1) := by decide +kernel
theorem d_Lg_reopen_0 : decode b_Lg_reopen 0 = .ok (.aload_n 0, 1) := by decide +kernel
theorem d_Lg_reopen_1 : decode b_Lg_reopen 1 = .ok (.iconst 0, 1) := by decide +kernel
theorem d_Lg_reopen_2 : decode b_Lg_reopen 2 = .ok (.putfield 25, 3) := by decide +kernel
theorem d_Lg_reopen_5 : decode b_Lg_reopen 5 = .ok (.aload_n 0, 1) := by decide +kernel
theorem d_Lg_reopen_6 : decode b_Lg_reopen 6 = .ok (.iconst 0, 1) := by decide +kernel
theorem d_Lg_reopen_7 : decode b_Lg_reopen 7 = .ok (.putfield 19, 3) := by decide +kernel
theorem d_Lg_reopen_10 : decode b_Lg_reopen 10 = .ok (.aload_n 0, 1) := by decide +kernel
theorem d_Lg_reopen_11 : decode b_Lg_reopen 11 = .ok (.getfield 28, 3) := by decide +kernel
theorem d_Lg_reopen_14 : decode b_Lg_reopen 14 = .ok (.ireturn, 1) := by decide +kernel
theorem d_Lg_write_0 : decode b_Lg_write 0 = .ok (.aload_n 0, 1) := by decide +kernel
theorem d_Lg_write_1 : decode b_Lg_write 1 = .ok (.getfield 19, 3) := by decide +kernel
theorem d_Lg_write_4 : decode b_Lg_write 4 = .ok (.ifCond .le 15, 3) := by decide +kernel
theorem d_Lg_write_7 : decode b_Lg_write 7 = .ok (.aload_n 0, 1) := by decide +kernel
theorem d_Lg_write_8 : decode b_Lg_write 8 = .ok (.getfield 19, 3) := by decide +kernel
theorem d_Lg_write_11 : decode b_Lg_write 11 = .ok (.iload_n 1, 1) := by decide +kernel
theorem d_Lg_write_12 : decode b_Lg_write 12 = .ok (.if_icmp .gt 7, 3) := by decide +kernel
theorem d_Lg_write_15 : decode b_Lg_write 15 = .ok (.iconst 1, 1) := by decide +kernel
theorem d_Lg_write_16 : decode b_Lg_write 16 = .ok (.goto 4, 3) := by decide +kernel
theorem d_Lg_write_19 : decode b_Lg_write 19 = .ok (.iconst 0, 1) := by decide +kernel
theorem d_Lg_write_20 : decode b_Lg_write 20 = .ok (.istore_n 2, 1) := by decide +kernel
theorem d_Lg_write_21 : decode b_Lg_write 21 = .ok (.iload_n 2, 1) := by decide +kernel
theorem d_Lg_write_22 : decode b_Lg_write 22 = .ok (.ifCond .eq 12, 3) := by decide +kernel
theorem d_Lg_write_25 : decode b_Lg_write 25 = .ok (.aload_n 0, 1) := by decide +kernel
theorem d_Lg_write_26 : decode b_Lg_write 26 = .ok (.getfield 19, 3) := by decide +kernel
theorem d_Lg_write_29 : decode b_Lg_write 29 = .ok (.iconst 1, 1) := by decide +kernel
theorem d_Lg_write_30 : decode b_Lg_write 30 = .ok (.isub, 1) := by decide +kernel
theorem d_Lg_write_31 : decode b_Lg_write 31 = .ok (.goto 4, 3) := by decide +kernel
theorem d_Lg_write_34 : decode b_Lg_write 34 = .ok (.iload_n 1, 1) := by decide +kernel
theorem d_Lg_write_35 : decode b_Lg_write 35 = .ok (.istore_n 3, 1) := by decide +kernel
theorem d_Lg_write_36 : decode b_Lg_write 36 = .ok (.aload_n 0, 1) := by decide +kernel
theorem d_Lg_write_37 : decode b_Lg_write 37 = .ok (.iload_n 2, 1) := by decide +kernel
theorem d_Lg_write_38 : decode b_Lg_write 38 = .ok (.ifCond .eq 7, 3) := by decide +kernel
theorem d_Lg_write_41 : decode b_Lg_write 41 = .ok (.iconst 0, 1) := by decide +kernel
theorem d_Lg_write_42 : decode b_Lg_write 42 = .ok (.goto 13, 3) := by decide +kernel
theorem d_Lg_write_45 : decode b_Lg_write 45 = .ok (.iconst 0, 1) := by decide +kernel
theorem d_Lg_write_46 : decode b_Lg_write 46 = .ok (.aload_n 0, 1) := by decide +kernel
theorem d_Lg_write_47 : decode b_Lg_write 47 = .ok (.getfield 19, 3) := by decide +kernel
theorem d_Lg_write_50 : decode b_Lg_write 50 = .ok (.iload_n 1, 1) := by decide +kernel
theorem d_Lg_write_51 : decode b_Lg_write 51 = .ok (.isub, 1) := by decide +kernel
theorem d_Lg_write_52 : decode b_Lg_write 52 = .ok (.invokestatic 31, 3) := by decide +kernel
theorem d_Lg_write_55 : decode b_Lg_write 55 = .ok (.putfield 19, 3) := by decide +kernel
theorem d_Lg_write_58 : decode b_Lg_write 58 = .ok (.aload_n 0, 1) := by decide +kernel
theorem d_Lg_write_59 : decode b_Lg_write 59 = .ok (.dup, 1) := by decide +kernel
theorem d_Lg_write_60 : decode b_Lg_write 60 = .ok (.getfield 37, 3) := by decide +kernel
theorem d_Lg_write_63 : decode b_Lg_write 63 = .ok (.iload_n 3, 1) := by decide +kernel
theorem d_Lg_write_64 : decode b_Lg_write 64 = .ok (.iadd, 1) := by decide +kernel
theorem d_Lg_write_65 : decode b_Lg_write 65 = .ok (.putfield 37, 3) := by decide +kernel
theorem d_Lg_write_68 : decode b_Lg_write 68 = .ok (.iload_n 3, 1) := by decide +kernel
theorem d_Lg_write_69 : decode b_Lg_write 69 = .ok (.ireturn, 1) := by decide +kernel
