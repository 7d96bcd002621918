theorem d_GK_mustBeLess_11 : decode b_GK_mustBeLess 11 = .ok (.return_, 1) := by decide +kernel
theorem d_GK_freeNumber_0 : decode b_GK_freeNumber 0 = .ok (.iconst 0, 1) := by decide +kernel
theorem d_GK_freeNumber_1 : decode b_GK_freeNumber 1 = .ok (.istore_n 3, 1) := by decide +kernel
theorem d_GK_freeNumber_2 : decode b_GK_freeNumber 2 = .ok (.iload_n 3, 1) := by decide +kernel
theorem d_GK_freeNumber_3 : decode b_GK_freeNumber 3 = .ok (.aload_n 2, 1) := by decide +kernel
theorem d_GK_freeNumber_4 : decode b_GK_freeNumber 4 = .ok (.arraylength, 1) := by decide +kernel
theorem d_GK_freeNumber_5 : decode b_GK_freeNumber 5 = .ok (.if_icmp .ge 27, 3) := by decide +kernel
theorem d_GK_freeNumber_8 : decode b_GK_freeNumber 8 = .ok (.aload_n 2, 1) := by decide +kernel
theorem d_GK_freeNumber_9 : decode b_GK_freeNumber 9 = .ok (.iload_n 3, 1) := by decide +kernel
theorem d_GK_freeNumber_10 : decode b_GK_freeNumber 10 = .ok (.baload, 1) := by decide +kernel
theorem d_GK_freeNumber_11 : decode b_GK_freeNumber 11 = .ok (.ifCond .ne 15, 3) := by decide +kernel
theorem d_GK_freeNumber_14 : decode b_GK_freeNumber 14 = .ok (.aload_n 0, 1) := by decide +kernel
theorem d_GK_freeNumber_15 : decode b_GK_freeNumber 15 = .ok (.getfield 10, 3) := by decide +kernel
theorem d_GK_freeNumber_18 : decode b_GK_freeNumber 18 = .ok (.iload_n 1, 1) := by decide +kernel
theorem d_GK_freeNumber_19 : decode b_GK_freeNumber 19 = .ok (.iload_n 3, 1) := by decide +kernel
theorem d_GK_freeNumber_20 : decode b_GK_freeNumber 20 = .ok (.invokevirtual 199, 3) := by decide +kernel
theorem d_GK_freeNumber_23 : decode b_GK_freeNumber 23 = .ok (.ifnull 9, 3) := by decide +kernel
theorem d_GK_freeNumber_26 : decode b_GK_freeNumber 26 = .ok (.iinc 3 1, 3) := by decide +kernel
theorem d_GK_freeNumber_29 : decode b_GK_freeNumber 29 = .ok (.goto (-27), 3) := by decide +kernel
theorem d_GK_freeNumber_32 : decode b_GK_freeNumber 32 = .ok (.aload_n 0, 1) := by decide +kernel
theorem d_GK_freeNumber_33 : decode b_GK_freeNumber 33 = .ok (.iload_n 3, 1) := by decide +kernel
theorem d_GK_freeNumber_34 : decode b_GK_freeNumber 34 = .ok (.aload_n 2, 1) := by decide +kernel
theorem d_GK_freeNumber_35 : decode b_GK_freeNumber 35 = .ok (.arraylength, 1) := by decide +kernel
theorem d_GK_freeNumber_36 : decode b_GK_freeNumber 36 = .ok (.invokevirtual 80, 3) := by decide +kernel
theorem d_GK_freeNumber_39 : decode b_GK_freeNumber 39 = .ok (.iload_n 3, 1) := by decide +kernel
theorem d_GK_freeNumber_40 : decode b_GK_freeNumber 40 = .ok (.ireturn, 1) := by decide +kernel
theorem d_GK_countChange_0 : decode b_GK_countChange 0 = .ok (.aload_n 0, 1) := by decide +kernel
theorem d_GK_countChange_1 : decode b_GK_countChange 1 = .ok (.getfield 162, 3) := by decide +kernel
theorem d_GK_countChange_4 : decode b_GK_countChange 4 = .ok (.aload_n 0, 1) := by decide +kernel
theorem d_GK_countChange_5 : decode b_GK_countChange 5 = .ok (.getfield 133, 3) := by decide +kernel
theorem d_GK_countChange_8 : decode b_GK_countChange 8 = .ok (.iadd, 1) := by decide +kernel
theorem d_GK_countChange_9 : decode b_GK_countChange 9 = .ok (.sipush 249, 3) := by decide +kernel
theorem d_GK_countChange_12 : decode b_GK_countChange 12 = .ok (.if_icmp .lt 9, 3) := by decide +kernel
theorem d_GK_countChange_15 : decode b_GK_countChange 15 = .ok (.aload_n 0, 1) := by decide +kernel
theorem d_GK_countChange_16 : decode b_GK_countChange 16 = .ok (.bipush 9, 2) := by decide +kernel
theorem d_GK_countChange_18 : decode b_GK_countChange 18 = .ok (.invokevirtual 262, 3) := by decide +kernel
theorem d_GK_countChange_21 : decode b_GK_countChange 21 = .ok (.aload_n 0, 1) := by decide +kernel
theorem d_GK_countChange_22 : decode b_GK_countChange 22 = .ok (.dup, 1) := by decide +kernel
theorem d_GK_countChange_23 : decode b_GK_countChange 23 = .ok (.getfield 133, 3) := by decide +kernel
theorem d_GK_countChange_26 : decode b_GK_countChange 26 = .ok (.iconst 1, 1) := by decide +kernel
theorem d_GK_countChange_27 : decode b_GK_countChange 27 = .ok (.iadd, 1) := by decide +kernel
theorem d_GK_countChange_28 : decode b_GK_countChange 28 = .ok (.putfield 133, 3) := by decide +kernel
theorem d_GK_countChange_31 : decode b_GK_countChange 31 = .ok (.return_, 1) := by decide +kernel
theorem d_GK_dropProperty_0 : decode b_GK_dropProperty 0 = .ok (.aload_n 1, 1) := by decide +kernel
theorem d_GK_dropProperty_1 : decode b_GK_dropProperty 1 = .ok (.iload_n 3, 1) := by decide +kernel
theorem d_GK_dropProperty_2 : decode b_GK_dropProperty 2 = .ok (.invokevirtual 228, 3) := by decide +kernel
theorem d_GK_dropProperty_5 : decode b_GK_dropProperty 5 = .ok (.ifnonnull 5, 3) := by decide +kernel
theorem d_GK_dropProperty_8 : decode b_GK_dropProperty 8 = .ok (.iconst 0, 1) := by decide +kernel
theorem d_GK_dropProperty_9 : decode b_GK_dropProperty 9 = .ok (.ireturn, 1) := by decide +kernel
theorem d_GK_dropProperty_10 : decode b_GK_dropProperty 10 = .ok (.aload_n 0, 1) := by decide +kernel
theorem d_GK_dropProperty_11 : decode b_GK_dropProperty 11 = .ok (.invokevirtual 54, 3) := by decide +kernel
theorem d_GK_dropProperty_14 : decode b_GK_dropProperty 14 = .ok (.aload_n 0, 1) := by decide +kernel
theorem d_GK_dropProperty_15 : decode b_GK_dropProperty 15 = .ok (.getfield 10, 3) := by decide +kernel
theorem d_GK_dropProperty_18 : decode b_GK_dropProperty 18 = .ok (.aload_n 1, 1) := by decide +kernel
theorem d_GK_dropProperty_19 : decode b_GK_dropProperty 19 = .ok (.iload_n 2, 1) := by decide +kernel
theorem d_GK_dropProperty_20 : decode b_GK_dropProperty 20 = .ok (.aload_n 1, 1) := by decide +kernel
theorem d_GK_dropProperty_21 : decode b_GK_dropProperty 21 = .ok (.iload_n 3, 1) := by decide +kernel
theorem d_GK_dropProperty_22 : decode b_GK_dropProperty 22 = .ok (.invokevirtual 265, 3) := by decide +kernel
theorem d_GK_dropProperty_25 : decode b_GK_dropProperty 25 = .ok (.invokevirtual 269, 3) := by decide +kernel
theorem d_GK_dropProperty_28 : decode b_GK_dropProperty 28 = .ok (.iconst 1, 1) := by decide +kernel
theorem d_GK_dropProperty_29 : decode b_GK_dropProperty 29 = .ok (.ireturn, 1) := by decide +kernel
theorem d_GK_putProperty_0 : decode b_GK_putProperty 0 = .ok (.aload_n 1, 1) := by decide +kernel
theorem d_GK_putProperty_1 : decode b_GK_putProperty 1 = .ok (.aload_n 3, 1) := by decide +kernel
theorem d_GK_putProperty_2 : decode b_GK_putProperty 2 = .ok (.getfield 273, 3) := by decide +kernel
theorem d_GK_putProperty_5 : decode b_GK_putProperty 5 = .ok (.invokevirtual 228, 3) := by decide +kernel
theorem d_GK_putProperty_8 : decode b_GK_putProperty 8 = .ok (.astore 4, 2) := by decide +kernel
theorem d_GK_putProperty_10 : decode b_GK_putProperty 10 = .ok (.aload 4, 2) := by decide +kernel
theorem d_GK_putProperty_12 : decode b_GK_putProperty 12 = .ok (.ifnonnull 17, 3) := by decide +kernel
theorem d_GK_putProperty_15 : decode b_GK_putProperty 15 = .ok (.aload_n 0, 1) := by decide +kernel
theorem d_GK_putProperty_16 : decode b_GK_putProperty 16 = .ok (.aload_n 1, 1) := by decide +kernel
theorem d_GK_putProperty_17 : decode b_GK_putProperty 17 = .ok (.getfield 202, 3) := by decide +kernel
theorem d_GK_putProperty_20 : decode b_GK_putProperty 20 = .ok (.arraylength, 1) := by decide +kernel
theorem d_GK_putProperty_21 : decode b_GK_putProperty 21 = .ok (.bipush 6, 2) := by decide +kernel
theorem d_GK_putProperty_23 : decode b_GK_putProperty 23 = .ok (.invokevirtual 80, 3) := by decide +kernel
theorem d_GK_putProperty_26 : decode b_GK_putProperty 26 = .ok (.goto 14, 3) := by decide +kernel
theorem d_GK_putProperty_29 : decode b_GK_putProperty 29 = .ok (.aload 4, 2) := by decide +kernel
theorem d_GK_putProperty_31 : decode b_GK_putProperty 31 = .ok (.aload_n 3, 1) := by decide +kernel
theorem d_GK_putProperty_32 : decode b_GK_putProperty 32 = .ok (.invokevirtual 276, 3) := by decide +kernel
theorem d_GK_putProperty_35 : decode b_GK_putProperty 35 = .ok (.ifCond .eq 5, 3) := by decide +kernel
theorem d_GK_putProperty_38 : decode b_GK_putProperty 38 = .ok (.iconst 0, 1) := by decide +kernel
theorem d_GK_putProperty_39 : decode b_GK_putProperty 39 = .ok (.ireturn, 1) := by decide +kernel
theorem d_GK_putProperty_40 : decode b_GK_putProperty 40 = .ok (.aload_n 0, 1) := by decide +kernel
theorem d_GK_putProperty_41 : decode b_GK_putProperty 41 = .ok (.invokevirtual 54, 3) := by decide +kernel
theorem d_GK_putProperty_44 : decode b_GK_putProperty 44 = .ok (.aload_n 0, 1) := by decide +kernel
theorem d_GK_putProperty_45 : decode b_GK_putProperty 45 = .ok (.getfield 10, 3) := by decide +kernel
theorem d_GK_putProperty_48 : decode b_GK_putProperty 48 = .ok (.aload_n 1, 1) := by decide +kernel
theorem d_GK_putProperty_49 : decode b_GK_putProperty 49 = .ok (.iload_n 2, 1) := by decide +kernel
theorem d_GK_putProperty_50 : decode b_GK_putProperty 50 = .ok (.aload_n 1, 1) := by decide +kernel
theorem d_GK_putProperty_51 : decode b_GK_putProperty 51 = .ok (.aload_n 3, 1) := by decide +kernel
theorem d_GK_putProperty_52 : decode b_GK_putProperty 52 = .ok (.invokevirtual 280, 3) := by decide +kernel
theorem d_GK_putProperty_55 : decode b_GK_putProperty 55 = .ok (.invokevirtual 269, 3) := by decide +kernel
theorem d_GK_putProperty_58 : decode b_GK_putProperty 58 = .ok (.iconst 1, 1) := by decide +kernel
theorem d_GK_putProperty_59 : decode b_GK_putProperty 59 = .ok (.ireturn, 1) := by decide +kernel
theorem d_GK_takeNode_0 : decode b_GK_takeNode 0 = .ok (.aload_n 0, 1) := by decide +kernel
theorem d_GK_takeNode_1 : decode b_GK_takeNode 1 = .ok (.getfield 10, 3) := by decide +kernel
theorem d_GK_takeNode_4 : decode b_GK_takeNode 4 = .ok (.iload_n 1, 1) := by decide +kernel
theorem d_GK_takeNode_5 : decode b_GK_takeNode 5 = .ok (.iconst 1, 1) := by decide +kernel
theorem d_GK_takeNode_6 : decode b_GK_takeNode 6 = .ok (.invokevirtual 284, 3) := by decide +kernel
theorem d_GK_takeNode_9 : decode b_GK_takeNode 9 = .ok (.aload_n 0, 1) := by decide +kernel
theorem d_GK_takeNode_10 : decode b_GK_takeNode 10 = .ok (.getfield 10, 3) := by decide +kernel
theorem d_GK_takeNode_13 : decode b_GK_takeNode 13 = .ok (.iload_n 1, 1) := by decide +kernel
theorem d_GK_takeNode_14 : decode b_GK_takeNode 14 = .ok (.iconst 0, 1) := by decide +kernel
theorem d_GK_takeNode_15 : decode b_GK_takeNode 15 = .ok (.invokevirtual 284, 3) := by decide +kernel
theorem d_GK_takeNode_18 : decode b_GK_takeNode 18 = .ok (.iadd, 1) := by decide +kernel
theorem d_GK_takeNode_19 : decode b_GK_takeNode 19 = .ok (.ifCond .le 9, 3) := by decide +kernel
theorem d_GK_takeNode_22 : decode b_GK_takeNode 22 = .ok (.aload_n 0, 1) := by decide +kernel
theorem d_GK_takeNode_23 : decode b_GK_takeNode 23 = .ok (.bipush 7, 2) := by decide +kernel
theorem d_GK_takeNode_25 : decode b_GK_takeNode 25 = .ok (.invokevirtual 262, 3) := by decide +kernel
theorem d_GK_takeNode_28 : decode b_GK_takeNode 28 = .ok (.aload_n 0, 1) := by decide +kernel
theorem d_GK_takeNode_29 : decode b_GK_takeNode 29 = .ok (.invokevirtual 54, 3) := by decide +kernel
theorem d_GK_takeNode_32 : decode b_GK_takeNode 32 = .ok (.aload_n 0, 1) := by decide +kernel
theorem d_GK_takeNode_33 : decode b_GK_takeNode 33 = .ok (.getfield 10, 3) := by decide +kernel
theorem d_GK_takeNode_36 : decode b_GK_takeNode 36 = .ok (.iload_n 1, 1) := by decide +kernel
theorem d_GK_takeNode_37 : decode b_GK_takeNode 37 = .ok (.aconst_null, 1) := by decide +kernel
theorem d_GK_takeNode_38 : decode b_GK_takeNode 38 = .ok (.invokevirtual 64, 3) := by decide +kernel
theorem d_GK_takeNode_41 : decode b_GK_takeNode 41 = .ok (.aload_n 0, 1) := by decide +kernel
theorem d_GK_takeNode_42 : decode b_GK_takeNode 42 = .ok (.getfield 36, 3) := by decide +kernel
theorem d_GK_takeNode_45 : decode b_GK_takeNode 45 = .ok (.iload_n 1, 1) := by decide +kernel
theorem d_GK_takeNode_46 : decode b_GK_takeNode 46 = .ok (.invokestatic 288, 3) := by decide +kernel
theorem d_GK_takeNode_49 : decode b_GK_takeNode 49 = .ok (.return_, 1) := by decide +kernel
theorem d_GK_takeLink_0 : decode b_GK_takeLink 0 = .ok (.aload_n 0, 1) := by decide +kernel
theorem d_GK_takeLink_1 : decode b_GK_takeLink 1 = .ok (.invokevirtual 54, 3) := by decide +kernel
theorem d_GK_takeLink_4 : decode b_GK_takeLink 4 = .ok (.aload_n 0, 1) := by decide +kernel
theorem d_GK_takeLink_5 : decode b_GK_takeLink 5 = .ok (.getfield 10, 3) := by decide +kernel
theorem d_GK_takeLink_8 : decode b_GK_takeLink 8 = .ok (.iload_n 1, 1) := by decide +kernel
theorem d_GK_takeLink_9 : decode b_GK_takeLink 9 = .ok (.aconst_null, 1) := by decide +kernel
theorem d_GK_takeLink_10 : decode b_GK_takeLink 10 = .ok (.invokevirtual 118, 3) := by decide +kernel
theorem d_GK_takeLink_13 : decode b_GK_takeLink 13 = .ok (.aload_n 0, 1) := by decide +kernel
theorem d_GK_takeLink_14 : decode b_GK_takeLink 14 = .ok (.getfield 40, 3) := by decide +kernel
theorem d_GK_takeLink_17 : decode b_GK_takeLink 17 = .ok (.iload_n 1, 1) := by decide +kernel
theorem d_GK_takeLink_18 : decode b_GK_takeLink 18 = .ok (.invokestatic 288, 3) := by decide +kernel
theorem d_GK_takeLink_21 : decode b_GK_takeLink 21 = .ok (.return_, 1) := by decide +kernel
theorem d_GK_mark_0 : decode b_GK_mark 0 = .ok (.iload_n 1, 1) := by decide +kernel
theorem d_GK_mark_1 : decode b_GK_mark 1 = .ok (.ifCond .lt 13, 3) := by decide +kernel
theorem d_GK_mark_4 : decode b_GK_mark 4 = .ok (.iload_n 1, 1) := by decide +kernel
theorem d_GK_mark_5 : decode b_GK_mark 5 = .ok (.aload_n 0, 1) := by decide +kernel
theorem d_GK_mark_6 : decode b_GK_mark 6 = .ok (.arraylength, 1) := by decide +kernel
theorem d_GK_mark_7 : decode b_GK_mark 7 = .ok (.if_icmp .ge 7, 3) := by decide +kernel
theorem d_GK_mark_10 : decode b_GK_mark 10 = .ok (.aload_n 0, 1) := by decide +kernel
theorem d_GK_mark_11 : decode b_GK_mark 11 = .ok (.iload_n 1, 1) := by decide +kernel
theorem d_GK_mark_12 : decode b_GK_mark 12 = .ok (.iconst 1, 1) := by decide +kernel
theorem d_GK_mark_13 : decode b_GK_mark 13 = .ok (.bastore, 1) := by decide +kernel
theorem d_GK_mark_14 : decode b_GK_mark 14 = .ok (.return_, 1) := by decide +kernel
theorem d_GK_keep_0 : decode b_GK_keep 0 = .ok (.iload_n 1, 1) := by decide +kernel
theorem d_GK_keep_1 : decode b_GK_keep 1 = .ok (.ifCond .ne 4, 3) := by decide +kernel
theorem d_GK_keep_4 : decode b_GK_keep 4 = .ok (.return_, 1) := by decide +kernel
theorem d_GK_keep_5 : decode b_GK_keep 5 = .ok (.aload_n 0, 1) := by decide +kernel
theorem d_GK_keep_6 : decode b_GK_keep 6 = .ok (.getfield 25, 3) := by decide +kernel
theorem d_GK_keep_9 : decode b_GK_keep 9 = .ok (.iload_n 1, 1) := by decide +kernel
theorem d_GK_keep_10 : decode b_GK_keep 10 = .ok (.invokevirtual 292, 3) := by decide +kernel
theorem d_GK_keep_13 : decode b_GK_keep 13 = .ok (.ifCond .ne 18, 3) := by decide +kernel
theorem d_GK_keep_16 : decode b_GK_keep 16 = .ok (.aload_n 0, 1) := by decide +kernel
theorem d_GK_keep_17 : decode b_GK_keep 17 = .ok (.invokevirtual 185, 3) := by decide +kernel
theorem d_GK_keep_20 : decode b_GK_keep 20 = .ok (.new 188, 3) := by decide +kernel
theorem d_GK_keep_23 : decode b_GK_keep 23 = .ok (.dup, 1) := by decide +kernel
theorem d_GK_keep_24 : decode b_GK_keep 24 = .ok (.ldc_w 295, 3) := by decide +kernel
theorem d_GK_keep_27 : decode b_GK_keep 27 = .ok (.invokespecial 192, 3) := by decide +kernel
theorem d_GK_keep_30 : decode b_GK_keep 30 = .ok (.athrow, 1) := by decide +kernel
theorem d_GK_keep_31 : decode b_GK_keep 31 = .ok (.aload_n 0, 1) := by decide +kernel
theorem d_GK_keep_32 : decode b_GK_keep 32 = .ok (.getfield 19, 3) := by decide +kernel
theorem d_GK_keep_35 : decode b_GK_keep 35 = .ok (.aload_n 0, 1) := by decide +kernel
theorem d_GK_keep_36 : decode b_GK_keep 36 = .ok (.getfield 10, 3) := by decide +kernel
theorem d_GK_keep_39 : decode b_GK_keep 39 = .ok (.invokevirtual 297, 3) := by decide +kernel
theorem d_GK_keep_42 : decode b_GK_keep 42 = .ok (.return_, 1) := by decide +kernel
theorem d_GK_goOff_0 : decode b_GK_goOff 0 = .ok (.aload_n 0, 1) := by decide +kernel
theorem d_GK_goOff_1 : decode b_GK_goOff 1 = .ok (.iconst 1, 1) := by decide +kernel
theorem d_GK_goOff_2 : decode b_GK_goOff 2 = .ok (.putfield 159, 3) := by decide +kernel
theorem d_GK_goOff_5 : decode b_GK_goOff 5 = .ok (.aload_n 0, 1) := by decide +kernel
theorem d_GK_goOff_6 : decode b_GK_goOff 6 = .ok (.getfield 10, 3) := by decide +kernel
theorem d_GK_goOff_9 : decode b_GK_goOff 9 = .ok (.invokevirtual 301, 3) := by decide +kernel
theorem d_GK_goOff_12 : decode b_GK_goOff 12 = .ok (.aload_n 0, 1) := by decide +kernel
theorem d_GK_goOff_13 : decode b_GK_goOff 13 = .ok (.invokevirtual 165, 3) := by decide +kernel
theorem d_GK_goOff_16 : decode b_GK_goOff 16 = .ok (.return_, 1) := by decide +kernel
theorem d_GK_closeStatement_0 : decode b_GK_closeStatement 0 = .ok (.aload_n 0, 1) := by decide +kernel
theorem d_GK_closeStatement_1 : decode b_GK_closeStatement 1 = .ok (.getfield 136, 3) := by decide +kernel
theorem d_GK_closeStatement_4 : decode b_GK_closeStatement 4 = .ok (.ifCond .eq 16, 3) := by decide +kernel
theorem d_GK_closeStatement_7 : decode b_GK_closeStatement 7 = .ok (.aload_n 0, 1) := by decide +kernel
theorem d_GK_closeStatement_8 : decode b_GK_closeStatement 8 = .ok (.dup, 1) := by decide +kernel
theorem d_GK_closeStatement_9 : decode b_GK_closeStatement 9 = .ok (.getfield 162, 3) := by decide +kernel
theorem d_GK_closeStatement_12 : decode b_GK_closeStatement 12 = .ok (.aload_n 0, 1) := by decide +kernel
theorem d_GK_closeStatement_13 : decode b_GK_closeStatement 13 = .ok (.getfield 133, 3) := by decide +kernel
theorem d_GK_closeStatement_16 : decode b_GK_closeStatement 16 = .ok (.iadd, 1) := by decide +kernel
theorem d_GK_closeStatement_17 : decode b_GK_closeStatement 17 = .ok (.putfield 162, 3) := by decide +kernel
theorem d_GK_closeStatement_20 : decode b_GK_closeStatement 20 = .ok (.aload_n 0, 1) := by decide +kernel
theorem d_GK_closeStatement_21 : decode b_GK_closeStatement 21 = .ok (.getfield 133, 3) := by decide +kernel
theorem d_GK_closeStatement_24 : decode b_GK_closeStatement 24 = .ok (.ifCond .le 14, 3) := by decide +kernel
theorem d_GK_closeStatement_27 : decode b_GK_closeStatement 27 = .ok (.aload_n 0, 1) := by decide +kernel
theorem d_GK_closeStatement_28 : decode b_GK_closeStatement 28 = .ok (.getfield 16, 3) := by decide +kernel
theorem d_GK_closeStatement_31 : decode b_GK_closeStatement 31 = .ok (.aload_n 0, 1) := by decide +kernel
theorem d_GK_closeStatement_32 : decode b_GK_closeStatement 32 = .ok (.getfield 10, 3) := by decide +kernel
theorem d_GK_closeStatement_35 : decode b_GK_closeStatement 35 = .ok (.invokevirtual 297, 3) := by decide +kernel
theorem d_GK_closeStatement_38 : decode b_GK_closeStatement 38 = .ok (.aload_n 0, 1) := by decide +kernel
theorem d_GK_closeStatement_39 : decode b_GK_closeStatement 39 = .ok (.invokevirtual 304, 3) := by decide +kernel
theorem d_GK_closeStatement_42 : decode b_GK_closeStatement 42 = .ok (.return_, 1) := by decide +kernel
theorem d_GK_undoStatement_0 : decode b_GK_undoStatement 0 = .ok (.aload_n 0, 1) := by decide +kernel
theorem d_GK_undoStatement_1 : decode b_GK_undoStatement 1 = .ok (.getfield 133, 3) := by decide +kernel
theorem d_GK_undoStatement_4 : decode b_GK_undoStatement 4 = .ok (.ifCond .le 14, 3) := by decide +kernel
theorem d_GK_undoStatement_7 : decode b_GK_undoStatement 7 = .ok (.aload_n 0, 1) := by decide +kernel
theorem d_GK_undoStatement_8 : decode b_GK_undoStatement 8 = .ok (.getfield 10, 3) := by decide +kernel
theorem d_GK_undoStatement_11 : decode b_GK_undoStatement 11 = .ok (.aload_n 0, 1) := by decide +kernel
theorem d_GK_undoStatement_12 : decode b_GK_undoStatement 12 = .ok (.getfield 16, 3) := by decide +kernel
theorem d_GK_undoStatement_15 : decode b_GK_undoStatement 15 = .ok (.invokevirtual 297, 3) := by decide +kernel
theorem d_GK_undoStatement_18 : decode b_GK_undoStatement 18 = .ok (.aload_n 0, 1) := by decide +kernel
theorem d_GK_undoStatement_19 : decode b_GK_undoStatement 19 = .ok (.invokevirtual 304, 3) := by decide +kernel
theorem d_GK_undoStatement_22 : decode b_GK_undoStatement 22 = .ok (.return_, 1) := by decide +kernel
theorem d_GK_startStatement_0 : decode b_GK_startStatement 0 = .ok (.aload_n 0, 1) := by decide +kernel
theorem d_GK_startStatement_1 : decode b_GK_startStatement 1 = .ok (.iconst 0, 1) := by decide +kernel
theorem d_GK_startStatement_2 : decode b_GK_startStatement 2 = .ok (.putfield 133, 3) := by decide +kernel
theorem d_GK_startStatement_5 : decode b_GK_startStatement 5 = .ok (.iconst 0, 1) := by decide +kernel
theorem d_GK_startStatement_6 : decode b_GK_startStatement 6 = .ok (.istore_n 1, 1) := by decide +kernel
theorem d_GK_startStatement_7 : decode b_GK_startStatement 7 = .ok (.iload_n 1, 1) := by decide +kernel
theorem d_GK_startStatement_8 : decode b_GK_startStatement 8 = .ok (.aload_n 0, 1) := by decide +kernel
theorem d_GK_startStatement_9 : decode b_GK_startStatement 9 = .ok (.getfield 36, 3) := by decide +kernel
theorem d_GK_startStatement_12 : decode b_GK_startStatement 12 = .ok (.arraylength, 1) := by decide +kernel
theorem d_GK_startStatement_13 : decode b_GK_startStatement 13 = .ok (.if_icmp .ge 16, 3) := by decide +kernel
theorem d_GK_startStatement_16 : decode b_GK_startStatement 16 = .ok (.aload_n 0, 1) := by decide +kernel
theorem d_GK_startStatement_17 : decode b_GK_startStatement 17 = .ok (.getfield 36, 3) := by decide +kernel
theorem d_GK_startStatement_20 : decode b_GK_startStatement 20 = .ok (.iload_n 1, 1) := by decide +kernel
theorem d_GK_startStatement_21 : decode b_GK_startStatement 21 = .ok (.iconst 0, 1) := by decide +kernel
theorem d_GK_startStatement_22 : decode b_GK_startStatement 22 = .ok (.bastore, 1) := by decide +kernel
theorem d_GK_startStatement_23 : decode b_GK_startStatement 23 = .ok (.iinc 1 1, 3) := by decide +kernel
theorem d_GK_startStatement_26 : decode b_GK_startStatement 26 = .ok (.goto (-19), 3) := by decide +kernel
theorem d_GK_startStatement_29 : decode b_GK_startStatement 29 = .ok (.iconst 0, 1) := by decide +kernel
theorem d_GK_startStatement_30 : decode b_GK_startStatement 30 = .ok (.istore_n 1, 1) := by decide +kernel
theorem d_GK_startStatement_31 : decode b_GK_startStatement 31 = .ok (.iload_n 1, 1) := by decide +kernel
theorem d_GK_startStatement_32 : decode b_GK_startStatement 32 = .ok (.aload_n 0, 1) := by decide +kernel
theorem d_GK_startStatement_33 : decode b_GK_startStatement 33 = .ok (.getfield 40, 3) := by decide +kernel
theorem d_GK_startStatement_36 : decode b_GK_startStatement 36 = .ok (.arraylength, 1) := by decide +kernel
theorem d_GK_startStatement_37 : decode b_GK_startStatement 37 = .ok (.if_icmp .ge 16, 3) := by decide +kernel
theorem d_GK_startStatement_40 : decode b_GK_startStatement 40 = .ok (.aload_n 0, 1) := by decide +kernel
theorem d_GK_startStatement_41 : decode b_GK_startStatement 41 = .ok (.getfield 40, 3) := by decide +kernel
theorem d_GK_startStatement_44 : decode b_GK_startStatement 44 = .ok (.iload_n 1, 1) := by decide +kernel
theorem d_GK_startStatement_45 : decode b_GK_startStatement 45 = .ok (.iconst 0, 1) := by decide +kernel
theorem d_GK_startStatement_46 : decode b_GK_startStatement 46 = .ok (.bastore, 1) := by decide +kernel
theorem d_GK_startStatement_47 : decode b_GK_startStatement 47 = .ok (.iinc 1 1, 3) := by decide +kernel
theorem d_GK_startStatement_50 : decode b_GK_startStatement 50 = .ok (.goto (-19), 3) := by decide +kernel
theorem d_GK_startStatement_53 : decode b_GK_startStatement 53 = .ok (.return_, 1) := by decide +kernel
theorem d_GK_forgetUnderWay_0 : decode b_GK_forgetUnderWay 0 = .ok (.aload_n 0, 1) := by decide +kernel
theorem d_GK_forgetUnderWay_1 : decode b_GK_forgetUnderWay 1 = .ok (.invokevirtual 304, 3) := by decide +kernel
theorem d_GK_forgetUnderWay_4 : decode b_GK_forgetUnderWay 4 = .ok (.aload_n 0, 1) := by decide +kernel
theorem d_GK_forgetUnderWay_5 : decode b_GK_forgetUnderWay 5 = .ok (.iconst 0, 1) := by decide +kernel
theorem d_GK_forgetUnderWay_6 : decode b_GK_forgetUnderWay 6 = .ok (.putfield 162, 3) := by decide +kernel
theorem d_GK_forgetUnderWay_9 : decode b_GK_forgetUnderWay 9 = .ok (.aload_n 0, 1) := by decide +kernel
theorem d_GK_forgetUnderWay_10 : decode b_GK_forgetUnderWay 10 = .ok (.iconst 0, 1) := by decide +kernel
theorem d_GK_forgetUnderWay_11 : decode b_GK_forgetUnderWay 11 = .ok (.putfield 136, 3) := by decide +kernel
theorem d_GK_forgetUnderWay_14 : decode b_GK_forgetUnderWay 14 = .ok (.return_, 1) := by decide +kernel
theorem d_GK_restoreKept_0 : decode b_GK_restoreKept 0 = .ok (.aload_n 0, 1) := by decide +kernel
theorem d_GK_restoreKept_1 : decode b_GK_restoreKept 1 = .ok (.getfield 10, 3) := by decide +kernel
theorem d_GK_restoreKept_4 : decode b_GK_restoreKept 4 = .ok (.aload_n 0, 1) := by decide +kernel
theorem d_GK_restoreKept_5 : decode b_GK_restoreKept 5 = .ok (.getfield 19, 3) := by decide +kernel
theorem d_GK_restoreKept_8 : decode b_GK_restoreKept 8 = .ok (.invokevirtual 297, 3) := by decide +kernel
theorem d_GK_restoreKept_11 : decode b_GK_restoreKept 11 = .ok (.aload_n 0, 1) := by decide +kernel
theorem d_GK_restoreKept_12 : decode b_GK_restoreKept 12 = .ok (.getfield 16, 3) := by decide +kernel
theorem d_GK_restoreKept_15 : decode b_GK_restoreKept 15 = .ok (.aload_n 0, 1) := by decide +kernel
theorem d_GK_restoreKept_16 : decode b_GK_restoreKept 16 = .ok (.getfield 19, 3) := by decide +kernel
theorem d_GK_restoreKept_19 : decode b_GK_restoreKept 19 = .ok (.invokevirtual 297, 3) := by decide +kernel
theorem d_GK_restoreKept_22 : decode b_GK_restoreKept 22 = .ok (.aload_n 0, 1) := by decide +kernel
theorem d_GK_restoreKept_23 : decode b_GK_restoreKept 23 = .ok (.invokevirtual 165, 3) := by decide +kernel
theorem d_GK_restoreKept_26 : decode b_GK_restoreKept 26 = .ok (.return_, 1) := by decide +kernel
theorem d_GK_nodeFact_0 : decode b_GK_nodeFact 0 = .ok (.iload_n 3, 1) := by decide +kernel
theorem d_GK_nodeFact_1 : decode b_GK_nodeFact 1 = .ok (.tableswitch 53 1 3 #[27, 33, 43], 27) := by decide +kernel
theorem d_GK_nodeFact_28 : decode b_GK_nodeFact 28 = .ok (.aload_n 1, 1) := by decide +kernel
theorem d_GK_nodeFact_29 : decode b_GK_nodeFact 29 = .ok (.getfield 76, 3) := by decide +kernel
theorem d_GK_nodeFact_32 : decode b_GK_nodeFact 32 = .ok (.arraylength, 1) := by decide +kernel
theorem d_GK_nodeFact_33 : decode b_GK_nodeFact 33 = .ok (.ireturn, 1) := by decide +kernel
theorem d_GK_nodeFact_34 : decode b_GK_nodeFact 34 = .ok (.aload_n 0, 1) := by decide +kernel
theorem d_GK_nodeFact_35 : decode b_GK_nodeFact 35 = .ok (.getfield 10, 3) := by decide +kernel
theorem d_GK_nodeFact_38 : decode b_GK_nodeFact 38 = .ok (.iload_n 2, 1) := by decide +kernel
theorem d_GK_nodeFact_39 : decode b_GK_nodeFact 39 = .ok (.iconst 1, 1) := by decide +kernel
theorem d_GK_nodeFact_40 : decode b_GK_nodeFact 40 = .ok (.invokevirtual 284, 3) := by decide +kernel
theorem d_GK_nodeFact_43 : decode b_GK_nodeFact 43 = .ok (.ireturn, 1) := by decide +kernel
theorem d_GK_nodeFact_44 : decode b_GK_nodeFact 44 = .ok (.aload_n 0, 1) := by decide +kernel
theorem d_GK_nodeFact_45 : decode b_GK_nodeFact 45 = .ok (.getfield 10, 3) := by decide +kernel
theorem d_GK_nodeFact_48 : decode b_GK_nodeFact 48 = .ok (.iload_n 2, 1) := by decide +kernel
theorem d_GK_nodeFact_49 : decode b_GK_nodeFact 49 = .ok (.iconst 0, 1) := by decide +kernel
theorem d_GK_nodeFact_50 : decode b_GK_nodeFact 50 = .ok (.invokevirtual 284, 3) := by decide +kernel
theorem d_GK_nodeFact_53 : decode b_GK_nodeFact 53 = .ok (.ireturn, 1) := by decide +kernel
theorem d_GK_nodeFact_54 : decode b_GK_nodeFact 54 = .ok (.iconst (-1), 1) := by decide +kernel
theorem d_GK_nodeFact_55 : decode b_GK_nodeFact 55 = .ok (.ireturn, 1) := by decide +kernel
theorem d_GK_linkFact_0 : decode b_GK_linkFact 0 = .ok (.iload_n 1, 1) := by decide +kernel
theorem d_GK_linkFact_1 : decode b_GK_linkFact 1 = .ok (.tableswitch 42 1 3 #[27, 32, 37], 27) := by decide +kernel
theorem d_GK_linkFact_28 : decode b_GK_linkFact 28 = .ok (.aload_n 0, 1) := by decide +kernel
theorem d_GK_linkFact_29 : decode b_GK_linkFact 29 = .ok (.getfield 307, 3) := by decide +kernel
theorem d_GK_linkFact_32 : decode b_GK_linkFact 32 = .ok (.ireturn, 1) := by decide +kernel
theorem d_GK_linkFact_33 : decode b_GK_linkFact 33 = .ok (.aload_n 0, 1) := by decide +kernel
theorem d_GK_linkFact_34 : decode b_GK_linkFact 34 = .ok (.getfield 310, 3) := by decide +kernel
theorem d_GK_linkFact_37 : decode b_GK_linkFact 37 = .ok (.ireturn, 1) := by decide +kernel
theorem d_GK_linkFact_38 : decode b_GK_linkFact 38 = .ok (.aload_n 0, 1) := by decide +kernel
theorem d_GK_linkFact_39 : decode b_GK_linkFact 39 = .ok (.getfield 313, 3) := by decide +kernel
theorem d_GK_linkFact_42 : decode b_GK_linkFact 42 = .ok (.ireturn, 1) := by decide +kernel
theorem d_GK_linkFact_43 : decode b_GK_linkFact 43 = .ok (.iconst (-1), 1) := by decide +kernel
theorem d_GK_linkFact_44 : decode b_GK_linkFact 44 = .ok (.ireturn, 1) := by decide +kernel
