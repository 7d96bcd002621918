/-! the instructions of GK -/
theorem d_GK_init_0 : decode b_GK_init 0 = .ok (.aload_n 0, 1) := by decide +kernel
theorem d_GK_init_1 : decode b_GK_init 1 = .ok (.invokespecial 1, 3) := by decide +kernel
theorem d_GK_init_4 : decode b_GK_init 4 = .ok (.aload_n 0, 1) := by decide +kernel
theorem d_GK_init_5 : decode b_GK_init 5 = .ok (.new 7, 3) := by decide +kernel
theorem d_GK_init_8 : decode b_GK_init 8 = .ok (.dup, 1) := by decide +kernel
theorem d_GK_init_9 : decode b_GK_init 9 = .ok (.invokespecial 9, 3) := by decide +kernel
theorem d_GK_init_12 : decode b_GK_init 12 = .ok (.putfield 10, 3) := by decide +kernel
theorem d_GK_init_15 : decode b_GK_init 15 = .ok (.aload_n 0, 1) := by decide +kernel
theorem d_GK_init_16 : decode b_GK_init 16 = .ok (.new 7, 3) := by decide +kernel
theorem d_GK_init_19 : decode b_GK_init 19 = .ok (.dup, 1) := by decide +kernel
theorem d_GK_init_20 : decode b_GK_init 20 = .ok (.invokespecial 9, 3) := by decide +kernel
theorem d_GK_init_23 : decode b_GK_init 23 = .ok (.putfield 16, 3) := by decide +kernel
theorem d_GK_init_26 : decode b_GK_init 26 = .ok (.aload_n 0, 1) := by decide +kernel
theorem d_GK_init_27 : decode b_GK_init 27 = .ok (.new 7, 3) := by decide +kernel
theorem d_GK_init_30 : decode b_GK_init 30 = .ok (.dup, 1) := by decide +kernel
theorem d_GK_init_31 : decode b_GK_init 31 = .ok (.invokespecial 9, 3) := by decide +kernel
theorem d_GK_init_34 : decode b_GK_init 34 = .ok (.putfield 19, 3) := by decide +kernel
theorem d_GK_init_37 : decode b_GK_init 37 = .ok (.aload_n 0, 1) := by decide +kernel
theorem d_GK_init_38 : decode b_GK_init 38 = .ok (.new 22, 3) := by decide +kernel
theorem d_GK_init_41 : decode b_GK_init 41 = .ok (.dup, 1) := by decide +kernel
theorem d_GK_init_42 : decode b_GK_init 42 = .ok (.invokespecial 24, 3) := by decide +kernel
theorem d_GK_init_45 : decode b_GK_init 45 = .ok (.putfield 25, 3) := by decide +kernel
theorem d_GK_init_48 : decode b_GK_init 48 = .ok (.aload_n 0, 1) := by decide +kernel
theorem d_GK_init_49 : decode b_GK_init 49 = .ok (.new 29, 3) := by decide +kernel
theorem d_GK_init_52 : decode b_GK_init 52 = .ok (.dup, 1) := by decide +kernel
theorem d_GK_init_53 : decode b_GK_init 53 = .ok (.invokespecial 31, 3) := by decide +kernel
theorem d_GK_init_56 : decode b_GK_init 56 = .ok (.putfield 32, 3) := by decide +kernel
theorem d_GK_init_59 : decode b_GK_init 59 = .ok (.aload_n 0, 1) := by decide +kernel
theorem d_GK_init_60 : decode b_GK_init 60 = .ok (.bipush 64, 2) := by decide +kernel
theorem d_GK_init_62 : decode b_GK_init 62 = .ok (.newarray .boolean, 2) := by decide +kernel
theorem d_GK_init_64 : decode b_GK_init 64 = .ok (.putfield 36, 3) := by decide +kernel
theorem d_GK_init_67 : decode b_GK_init 67 = .ok (.aload_n 0, 1) := by decide +kernel
theorem d_GK_init_68 : decode b_GK_init 68 = .ok (.bipush 96, 2) := by decide +kernel
theorem d_GK_init_70 : decode b_GK_init 70 = .ok (.newarray .boolean, 2) := by decide +kernel
theorem d_GK_init_72 : decode b_GK_init 72 = .ok (.putfield 40, 3) := by decide +kernel
theorem d_GK_init_75 : decode b_GK_init 75 = .ok (.return_, 1) := by decide +kernel
theorem d_GK_type_0 : decode b_GK_type 0 = .ok (.aload_n 0, 1) := by decide +kernel
theorem d_GK_type_1 : decode b_GK_type 1 = .ok (.getfield 32, 3) := by decide +kernel
theorem d_GK_type_4 : decode b_GK_type 4 = .ok (.lload_n 1, 1) := by decide +kernel
theorem d_GK_type_5 : decode b_GK_type 5 = .ok (.iload_n 3, 1) := by decide +kernel
theorem d_GK_type_6 : decode b_GK_type 6 = .ok (.invokevirtual 43, 3) := by decide +kernel
theorem d_GK_type_9 : decode b_GK_type 9 = .ok (.ireturn, 1) := by decide +kernel
theorem d_GK_node_0 : decode b_GK_node 0 = .ok (.aload_n 0, 1) := by decide +kernel
theorem d_GK_node_1 : decode b_GK_node 1 = .ok (.invokevirtual 47, 3) := by decide +kernel
theorem d_GK_node_4 : decode b_GK_node 4 = .ok (.aload_n 0, 1) := by decide +kernel
theorem d_GK_node_5 : decode b_GK_node 5 = .ok (.iconst 4, 1) := by decide +kernel
theorem d_GK_node_6 : decode b_GK_node 6 = .ok (.aload_n 0, 1) := by decide +kernel
theorem d_GK_node_7 : decode b_GK_node 7 = .ok (.getfield 36, 3) := by decide +kernel
theorem d_GK_node_10 : decode b_GK_node 10 = .ok (.invokevirtual 50, 3) := by decide +kernel
theorem d_GK_node_13 : decode b_GK_node 13 = .ok (.istore_n 1, 1) := by decide +kernel
theorem d_GK_node_14 : decode b_GK_node 14 = .ok (.aload_n 0, 1) := by decide +kernel
theorem d_GK_node_15 : decode b_GK_node 15 = .ok (.invokevirtual 54, 3) := by decide +kernel
theorem d_GK_node_18 : decode b_GK_node 18 = .ok (.aload_n 0, 1) := by decide +kernel
theorem d_GK_node_19 : decode b_GK_node 19 = .ok (.getfield 10, 3) := by decide +kernel
theorem d_GK_node_22 : decode b_GK_node 22 = .ok (.iload_n 1, 1) := by decide +kernel
theorem d_GK_node_23 : decode b_GK_node 23 = .ok (.new 57, 3) := by decide +kernel
theorem d_GK_node_26 : decode b_GK_node 26 = .ok (.dup, 1) := by decide +kernel
theorem d_GK_node_27 : decode b_GK_node 27 = .ok (.iconst 0, 1) := by decide +kernel
theorem d_GK_node_28 : decode b_GK_node 28 = .ok (.newarray .int, 2) := by decide +kernel
theorem d_GK_node_30 : decode b_GK_node 30 = .ok (.iconst 0, 1) := by decide +kernel
theorem d_GK_node_31 : decode b_GK_node 31 = .ok (.anewarray 59, 3) := by decide +kernel
theorem d_GK_node_34 : decode b_GK_node 34 = .ok (.invokespecial 61, 3) := by decide +kernel
theorem d_GK_node_37 : decode b_GK_node 37 = .ok (.invokevirtual 64, 3) := by decide +kernel
theorem d_GK_node_40 : decode b_GK_node 40 = .ok (.iload_n 1, 1) := by decide +kernel
theorem d_GK_node_41 : decode b_GK_node 41 = .ok (.ireturn, 1) := by decide +kernel
theorem d_GK_label_0 : decode b_GK_label 0 = .ok (.aload_n 0, 1) := by decide +kernel
theorem d_GK_label_1 : decode b_GK_label 1 = .ok (.invokevirtual 47, 3) := by decide +kernel
theorem d_GK_label_4 : decode b_GK_label 4 = .ok (.aload_n 0, 1) := by decide +kernel
theorem d_GK_label_5 : decode b_GK_label 5 = .ok (.iload_n 1, 1) := by decide +kernel
theorem d_GK_label_6 : decode b_GK_label 6 = .ok (.invokevirtual 68, 3) := by decide +kernel
theorem d_GK_label_9 : decode b_GK_label 9 = .ok (.astore 4, 2) := by decide +kernel
theorem d_GK_label_11 : decode b_GK_label 11 = .ok (.aload 4, 2) := by decide +kernel
theorem d_GK_label_13 : decode b_GK_label 13 = .ok (.iload_n 2, 1) := by decide +kernel
theorem d_GK_label_14 : decode b_GK_label 14 = .ok (.invokevirtual 72, 3) := by decide +kernel
theorem d_GK_label_17 : decode b_GK_label 17 = .ok (.iload_n 3, 1) := by decide +kernel
theorem d_GK_label_18 : decode b_GK_label 18 = .ok (.if_icmp .ne 5, 3) := by decide +kernel
theorem d_GK_label_21 : decode b_GK_label 21 = .ok (.iconst 0, 1) := by decide +kernel
theorem d_GK_label_22 : decode b_GK_label 22 = .ok (.ireturn, 1) := by decide +kernel
theorem d_GK_label_23 : decode b_GK_label 23 = .ok (.iload_n 3, 1) := by decide +kernel
theorem d_GK_label_24 : decode b_GK_label 24 = .ok (.ifCond .eq 14, 3) := by decide +kernel
theorem d_GK_label_27 : decode b_GK_label 27 = .ok (.aload_n 0, 1) := by decide +kernel
theorem d_GK_label_28 : decode b_GK_label 28 = .ok (.aload 4, 2) := by decide +kernel
theorem d_GK_label_30 : decode b_GK_label 30 = .ok (.getfield 76, 3) := by decide +kernel
theorem d_GK_label_33 : decode b_GK_label 33 = .ok (.arraylength, 1) := by decide +kernel
theorem d_GK_label_34 : decode b_GK_label 34 = .ok (.iconst 4, 1) := by decide +kernel
theorem d_GK_label_35 : decode b_GK_label 35 = .ok (.invokevirtual 80, 3) := by decide +kernel
theorem d_GK_label_38 : decode b_GK_label 38 = .ok (.aload_n 0, 1) := by decide +kernel
theorem d_GK_label_39 : decode b_GK_label 39 = .ok (.invokevirtual 54, 3) := by decide +kernel
theorem d_GK_label_42 : decode b_GK_label 42 = .ok (.aload_n 0, 1) := by decide +kernel
theorem d_GK_label_43 : decode b_GK_label 43 = .ok (.getfield 10, 3) := by decide +kernel
theorem d_GK_label_46 : decode b_GK_label 46 = .ok (.iload_n 1, 1) := by decide +kernel
theorem d_GK_label_47 : decode b_GK_label 47 = .ok (.iload_n 3, 1) := by decide +kernel
theorem d_GK_label_48 : decode b_GK_label 48 = .ok (.ifCond .eq 12, 3) := by decide +kernel
theorem d_GK_label_51 : decode b_GK_label 51 = .ok (.aload 4, 2) := by decide +kernel
theorem d_GK_label_53 : decode b_GK_label 53 = .ok (.iload_n 2, 1) := by decide +kernel
theorem d_GK_label_54 : decode b_GK_label 54 = .ok (.invokevirtual 84, 3) := by decide +kernel
theorem d_GK_label_57 : decode b_GK_label 57 = .ok (.goto 9, 3) := by decide +kernel
theorem d_GK_label_60 : decode b_GK_label 60 = .ok (.aload 4, 2) := by decide +kernel
theorem d_GK_label_62 : decode b_GK_label 62 = .ok (.iload_n 2, 1) := by decide +kernel
theorem d_GK_label_63 : decode b_GK_label 63 = .ok (.invokevirtual 87, 3) := by decide +kernel
theorem d_GK_label_66 : decode b_GK_label 66 = .ok (.invokevirtual 64, 3) := by decide +kernel
theorem d_GK_label_69 : decode b_GK_label 69 = .ok (.iconst 1, 1) := by decide +kernel
theorem d_GK_label_70 : decode b_GK_label 70 = .ok (.ireturn, 1) := by decide +kernel
theorem d_GK_property_0 : decode b_GK_property 0 = .ok (.aload_n 0, 1) := by decide +kernel
theorem d_GK_property_1 : decode b_GK_property 1 = .ok (.invokevirtual 47, 3) := by decide +kernel
theorem d_GK_property_4 : decode b_GK_property 4 = .ok (.aload_n 0, 1) := by decide +kernel
theorem d_GK_property_5 : decode b_GK_property 5 = .ok (.iload_n 1, 1) := by decide +kernel
theorem d_GK_property_6 : decode b_GK_property 6 = .ok (.iload_n 2, 1) := by decide +kernel
theorem d_GK_property_7 : decode b_GK_property 7 = .ok (.invokevirtual 90, 3) := by decide +kernel
theorem d_GK_property_10 : decode b_GK_property 10 = .ok (.astore 7, 2) := by decide +kernel
theorem d_GK_property_12 : decode b_GK_property 12 = .ok (.aload_n 0, 1) := by decide +kernel
theorem d_GK_property_13 : decode b_GK_property 13 = .ok (.iload 4, 2) := by decide +kernel
theorem d_GK_property_15 : decode b_GK_property 15 = .ok (.lload 5, 2) := by decide +kernel
theorem d_GK_property_17 : decode b_GK_property 17 = .ok (.invokevirtual 94, 3) := by decide +kernel
theorem d_GK_property_20 : decode b_GK_property 20 = .ok (.iload 4, 2) := by decide +kernel
theorem d_GK_property_22 : decode b_GK_property 22 = .ok (.ifCond .ne 12, 3) := by decide +kernel
theorem d_GK_property_25 : decode b_GK_property 25 = .ok (.aload_n 0, 1) := by decide +kernel
theorem d_GK_property_26 : decode b_GK_property 26 = .ok (.aload 7, 2) := by decide +kernel
theorem d_GK_property_28 : decode b_GK_property 28 = .ok (.iload_n 2, 1) := by decide +kernel
theorem d_GK_property_29 : decode b_GK_property 29 = .ok (.iload_n 3, 1) := by decide +kernel
theorem d_GK_property_30 : decode b_GK_property 30 = .ok (.invokevirtual 98, 3) := by decide +kernel
theorem d_GK_property_33 : decode b_GK_property 33 = .ok (.ireturn, 1) := by decide +kernel
theorem d_GK_property_34 : decode b_GK_property 34 = .ok (.iload 4, 2) := by decide +kernel
theorem d_GK_property_36 : decode b_GK_property 36 = .ok (.iconst 3, 1) := by decide +kernel
theorem d_GK_property_37 : decode b_GK_property 37 = .ok (.if_icmp .ne 13, 3) := by decide +kernel
theorem d_GK_property_40 : decode b_GK_property 40 = .ok (.aload_n 0, 1) := by decide +kernel
theorem d_GK_property_41 : decode b_GK_property 41 = .ok (.getfield 32, 3) := by decide +kernel
theorem d_GK_property_44 : decode b_GK_property 44 = .ok (.invokevirtual 102, 3) := by decide +kernel
theorem d_GK_property_47 : decode b_GK_property 47 = .ok (.goto 6, 3) := by decide +kernel
theorem d_GK_property_50 : decode b_GK_property 50 = .ok (.iconst 0, 1) := by decide +kernel
theorem d_GK_property_51 : decode b_GK_property 51 = .ok (.newarray .byte, 2) := by decide +kernel
theorem d_GK_property_53 : decode b_GK_property 53 = .ok (.astore 8, 2) := by decide +kernel
theorem d_GK_property_55 : decode b_GK_property 55 = .ok (.iload 4, 2) := by decide +kernel
theorem d_GK_property_57 : decode b_GK_property 57 = .ok (.iconst 3, 1) := by decide +kernel
theorem d_GK_property_58 : decode b_GK_property 58 = .ok (.if_icmp .ne 10, 3) := by decide +kernel
theorem d_GK_property_61 : decode b_GK_property 61 = .ok (.aload 8, 2) := by decide +kernel
theorem d_GK_property_63 : decode b_GK_property 63 = .ok (.arraylength, 1) := by decide +kernel
theorem d_GK_property_64 : decode b_GK_property 64 = .ok (.i2l, 1) := by decide +kernel
theorem d_GK_property_65 : decode b_GK_property 65 = .ok (.goto 5, 3) := by decide +kernel
theorem d_GK_property_68 : decode b_GK_property 68 = .ok (.lload 5, 2) := by decide +kernel
theorem d_GK_property_70 : decode b_GK_property 70 = .ok (.lstore 9, 2) := by decide +kernel
theorem d_GK_property_72 : decode b_GK_property 72 = .ok (.aload_n 0, 1) := by decide +kernel
theorem d_GK_property_73 : decode b_GK_property 73 = .ok (.aload 7, 2) := by decide +kernel
theorem d_GK_property_75 : decode b_GK_property 75 = .ok (.iload_n 2, 1) := by decide +kernel
theorem d_GK_property_76 : decode b_GK_property 76 = .ok (.new 59, 3) := by decide +kernel
theorem d_GK_property_79 : decode b_GK_property 79 = .ok (.dup, 1) := by decide +kernel
theorem d_GK_property_80 : decode b_GK_property 80 = .ok (.iload_n 3, 1) := by decide +kernel
theorem d_GK_property_81 : decode b_GK_property 81 = .ok (.iload 4, 2) := by decide +kernel
theorem d_GK_property_83 : decode b_GK_property 83 = .ok (.lload 9, 2) := by decide +kernel
theorem d_GK_property_85 : decode b_GK_property 85 = .ok (.aload 8, 2) := by decide +kernel
theorem d_GK_property_87 : decode b_GK_property 87 = .ok (.invokespecial 106, 3) := by decide +kernel
theorem d_GK_property_90 : decode b_GK_property 90 = .ok (.invokevirtual 109, 3) := by decide +kernel
theorem d_GK_property_93 : decode b_GK_property 93 = .ok (.ireturn, 1) := by decide +kernel
theorem d_GK_link_0 : decode b_GK_link 0 = .ok (.aload_n 0, 1) := by decide +kernel
theorem d_GK_link_1 : decode b_GK_link 1 = .ok (.invokevirtual 47, 3) := by decide +kernel
theorem d_GK_link_4 : decode b_GK_link 4 = .ok (.aload_n 0, 1) := by decide +kernel
theorem d_GK_link_5 : decode b_GK_link 5 = .ok (.iload_n 1, 1) := by decide +kernel
theorem d_GK_link_6 : decode b_GK_link 6 = .ok (.invokevirtual 68, 3) := by decide +kernel
theorem d_GK_link_9 : decode b_GK_link 9 = .ok (.pop, 1) := by decide +kernel
theorem d_GK_link_10 : decode b_GK_link 10 = .ok (.aload_n 0, 1) := by decide +kernel
theorem d_GK_link_11 : decode b_GK_link 11 = .ok (.iload_n 2, 1) := by decide +kernel
theorem d_GK_link_12 : decode b_GK_link 12 = .ok (.invokevirtual 68, 3) := by decide +kernel
theorem d_GK_link_15 : decode b_GK_link 15 = .ok (.pop, 1) := by decide +kernel
theorem d_GK_link_16 : decode b_GK_link 16 = .ok (.aload_n 0, 1) := by decide +kernel
theorem d_GK_link_17 : decode b_GK_link 17 = .ok (.iconst 5, 1) := by decide +kernel
theorem d_GK_link_18 : decode b_GK_link 18 = .ok (.aload_n 0, 1) := by decide +kernel
theorem d_GK_link_19 : decode b_GK_link 19 = .ok (.getfield 40, 3) := by decide +kernel
theorem d_GK_link_22 : decode b_GK_link 22 = .ok (.invokevirtual 50, 3) := by decide +kernel
theorem d_GK_link_25 : decode b_GK_link 25 = .ok (.istore 4, 2) := by decide +kernel
theorem d_GK_link_27 : decode b_GK_link 27 = .ok (.aload_n 0, 1) := by decide +kernel
theorem d_GK_link_28 : decode b_GK_link 28 = .ok (.invokevirtual 54, 3) := by decide +kernel
theorem d_GK_link_31 : decode b_GK_link 31 = .ok (.aload_n 0, 1) := by decide +kernel
theorem d_GK_link_32 : decode b_GK_link 32 = .ok (.getfield 10, 3) := by decide +kernel
theorem d_GK_link_35 : decode b_GK_link 35 = .ok (.iload 4, 2) := by decide +kernel
theorem d_GK_link_37 : decode b_GK_link 37 = .ok (.new 113, 3) := by decide +kernel
theorem d_GK_link_40 : decode b_GK_link 40 = .ok (.dup, 1) := by decide +kernel
theorem d_GK_link_41 : decode b_GK_link 41 = .ok (.iload_n 1, 1) := by decide +kernel
theorem d_GK_link_42 : decode b_GK_link 42 = .ok (.iload_n 2, 1) := by decide +kernel
theorem d_GK_link_43 : decode b_GK_link 43 = .ok (.iload_n 3, 1) := by decide +kernel
theorem d_GK_link_44 : decode b_GK_link 44 = .ok (.iconst 0, 1) := by decide +kernel
theorem d_GK_link_45 : decode b_GK_link 45 = .ok (.anewarray 59, 3) := by decide +kernel
theorem d_GK_link_48 : decode b_GK_link 48 = .ok (.invokespecial 115, 3) := by decide +kernel
theorem d_GK_link_51 : decode b_GK_link 51 = .ok (.invokevirtual 118, 3) := by decide +kernel
theorem d_GK_link_54 : decode b_GK_link 54 = .ok (.iload 4, 2) := by decide +kernel
theorem d_GK_link_56 : decode b_GK_link 56 = .ok (.ireturn, 1) := by decide +kernel
theorem d_GK_take_0 : decode b_GK_take 0 = .ok (.aload_n 0, 1) := by decide +kernel
theorem d_GK_take_1 : decode b_GK_take 1 = .ok (.invokevirtual 47, 3) := by decide +kernel
theorem d_GK_take_4 : decode b_GK_take 4 = .ok (.aload_n 0, 1) := by decide +kernel
theorem d_GK_take_5 : decode b_GK_take 5 = .ok (.iload_n 1, 1) := by decide +kernel
theorem d_GK_take_6 : decode b_GK_take 6 = .ok (.iload_n 2, 1) := by decide +kernel
theorem d_GK_take_7 : decode b_GK_take 7 = .ok (.invokevirtual 90, 3) := by decide +kernel
theorem d_GK_take_10 : decode b_GK_take 10 = .ok (.pop, 1) := by decide +kernel
theorem d_GK_take_11 : decode b_GK_take 11 = .ok (.iload_n 1, 1) := by decide +kernel
theorem d_GK_take_12 : decode b_GK_take 12 = .ok (.iconst 4, 1) := by decide +kernel
theorem d_GK_take_13 : decode b_GK_take 13 = .ok (.if_icmp .ne 11, 3) := by decide +kernel
theorem d_GK_take_16 : decode b_GK_take 16 = .ok (.aload_n 0, 1) := by decide +kernel
theorem d_GK_take_17 : decode b_GK_take 17 = .ok (.iload_n 2, 1) := by decide +kernel
theorem d_GK_take_18 : decode b_GK_take 18 = .ok (.invokevirtual 122, 3) := by decide +kernel
theorem d_GK_take_21 : decode b_GK_take 21 = .ok (.goto 8, 3) := by decide +kernel
theorem d_GK_take_24 : decode b_GK_take 24 = .ok (.aload_n 0, 1) := by decide +kernel
theorem d_GK_take_25 : decode b_GK_take 25 = .ok (.iload_n 2, 1) := by decide +kernel
theorem d_GK_take_26 : decode b_GK_take 26 = .ok (.invokevirtual 126, 3) := by decide +kernel
theorem d_GK_take_29 : decode b_GK_take 29 = .ok (.return_, 1) := by decide +kernel
theorem d_GK_error_0 : decode b_GK_error 0 = .ok (.aload_n 0, 1) := by decide +kernel
theorem d_GK_error_1 : decode b_GK_error 1 = .ok (.getfield 129, 3) := by decide +kernel
theorem d_GK_error_4 : decode b_GK_error 4 = .ok (.ireturn, 1) := by decide +kernel
theorem d_GK_done_0 : decode b_GK_done 0 = .ok (.aload_n 0, 1) := by decide +kernel
theorem d_GK_done_1 : decode b_GK_done 1 = .ok (.invokevirtual 47, 3) := by decide +kernel
theorem d_GK_done_4 : decode b_GK_done 4 = .ok (.aload_n 0, 1) := by decide +kernel
theorem d_GK_done_5 : decode b_GK_done 5 = .ok (.getfield 133, 3) := by decide +kernel
theorem d_GK_done_8 : decode b_GK_done 8 = .ok (.istore_n 1, 1) := by decide +kernel
theorem d_GK_done_9 : decode b_GK_done 9 = .ok (.aload_n 0, 1) := by decide +kernel
theorem d_GK_done_10 : decode b_GK_done 10 = .ok (.getfield 136, 3) := by decide +kernel
theorem d_GK_done_13 : decode b_GK_done 13 = .ok (.ifCond .ne 34, 3) := by decide +kernel
theorem d_GK_done_16 : decode b_GK_done 16 = .ok (.aload_n 0, 1) := by decide +kernel
theorem d_GK_done_17 : decode b_GK_done 17 = .ok (.getfield 25, 3) := by decide +kernel
theorem d_GK_done_20 : decode b_GK_done 20 = .ok (.iload_n 1, 1) := by decide +kernel
theorem d_GK_done_21 : decode b_GK_done 21 = .ok (.invokevirtual 140, 3) := by decide +kernel
theorem d_GK_done_24 : decode b_GK_done 24 = .ok (.ifCond .ne 23, 3) := by decide +kernel
theorem d_GK_done_27 : decode b_GK_done 27 = .ok (.aload_n 0, 1) := by decide +kernel
theorem d_GK_done_28 : decode b_GK_done 28 = .ok (.invokevirtual 143, 3) := by decide +kernel
theorem d_GK_done_31 : decode b_GK_done 31 = .ok (.aload_n 0, 1) := by decide +kernel
theorem d_GK_done_32 : decode b_GK_done 32 = .ok (.bipush 9, 2) := by decide +kernel
theorem d_GK_done_34 : decode b_GK_done 34 = .ok (.putfield 129, 3) := by decide +kernel
theorem d_GK_done_37 : decode b_GK_done 37 = .ok (.new 146, 3) := by decide +kernel
theorem d_GK_done_40 : decode b_GK_done 40 = .ok (.dup, 1) := by decide +kernel
theorem d_GK_done_41 : decode b_GK_done 41 = .ok (.ldc 148, 2) := by decide +kernel
theorem d_GK_done_43 : decode b_GK_done 43 = .ok (.invokespecial 150, 3) := by decide +kernel
theorem d_GK_done_46 : decode b_GK_done 46 = .ok (.athrow, 1) := by decide +kernel
theorem d_GK_done_47 : decode b_GK_done 47 = .ok (.aload_n 0, 1) := by decide +kernel
theorem d_GK_done_48 : decode b_GK_done 48 = .ok (.getfield 136, 3) := by decide +kernel
theorem d_GK_done_51 : decode b_GK_done 51 = .ok (.ifCond .ne 8, 3) := by decide +kernel
theorem d_GK_done_54 : decode b_GK_done 54 = .ok (.aload_n 0, 1) := by decide +kernel
theorem d_GK_done_55 : decode b_GK_done 55 = .ok (.iload_n 1, 1) := by decide +kernel
theorem d_GK_done_56 : decode b_GK_done 56 = .ok (.invokevirtual 153, 3) := by decide +kernel
theorem d_GK_done_59 : decode b_GK_done 59 = .ok (.aload_n 0, 1) := by decide +kernel
theorem d_GK_done_60 : decode b_GK_done 60 = .ok (.invokevirtual 156, 3) := by decide +kernel
theorem d_GK_done_63 : decode b_GK_done 63 = .ok (.iload_n 1, 1) := by decide +kernel
theorem d_GK_done_64 : decode b_GK_done 64 = .ok (.ireturn, 1) := by decide +kernel
theorem d_GK_undo_0 : decode b_GK_undo 0 = .ok (.aload_n 0, 1) := by decide +kernel
theorem d_GK_undo_1 : decode b_GK_undo 1 = .ok (.getfield 133, 3) := by decide +kernel
theorem d_GK_undo_4 : decode b_GK_undo 4 = .ok (.istore_n 1, 1) := by decide +kernel
theorem d_GK_undo_5 : decode b_GK_undo 5 = .ok (.aload_n 0, 1) := by decide +kernel
theorem d_GK_undo_6 : decode b_GK_undo 6 = .ok (.invokevirtual 143, 3) := by decide +kernel
theorem d_GK_undo_9 : decode b_GK_undo 9 = .ok (.iload_n 1, 1) := by decide +kernel
theorem d_GK_undo_10 : decode b_GK_undo 10 = .ok (.ireturn, 1) := by decide +kernel
theorem d_GK_begin_0 : decode b_GK_begin 0 = .ok (.aload_n 0, 1) := by decide +kernel
theorem d_GK_begin_1 : decode b_GK_begin 1 = .ok (.getfield 159, 3) := by decide +kernel
theorem d_GK_begin_4 : decode b_GK_begin 4 = .ok (.ifCond .ne 10, 3) := by decide +kernel
theorem d_GK_begin_7 : decode b_GK_begin 7 = .ok (.aload_n 0, 1) := by decide +kernel
theorem d_GK_begin_8 : decode b_GK_begin 8 = .ok (.getfield 136, 3) := by decide +kernel
theorem d_GK_begin_11 : decode b_GK_begin 11 = .ok (.ifCond .eq 5, 3) := by decide +kernel
theorem d_GK_begin_14 : decode b_GK_begin 14 = .ok (.iconst 0, 1) := by decide +kernel
theorem d_GK_begin_15 : decode b_GK_begin 15 = .ok (.ireturn, 1) := by decide +kernel
theorem d_GK_begin_16 : decode b_GK_begin 16 = .ok (.aload_n 0, 1) := by decide +kernel
theorem d_GK_begin_17 : decode b_GK_begin 17 = .ok (.invokevirtual 143, 3) := by decide +kernel
theorem d_GK_begin_20 : decode b_GK_begin 20 = .ok (.aload_n 0, 1) := by decide +kernel
theorem d_GK_begin_21 : decode b_GK_begin 21 = .ok (.iconst 1, 1) := by decide +kernel
theorem d_GK_begin_22 : decode b_GK_begin 22 = .ok (.putfield 136, 3) := by decide +kernel
theorem d_GK_begin_25 : decode b_GK_begin 25 = .ok (.iconst 1, 1) := by decide +kernel
theorem d_GK_begin_26 : decode b_GK_begin 26 = .ok (.ireturn, 1) := by decide +kernel
theorem d_GK_commit_0 : decode b_GK_commit 0 = .ok (.aload_n 0, 1) := by decide +kernel
theorem d_GK_commit_1 : decode b_GK_commit 1 = .ok (.invokevirtual 47, 3) := by decide +kernel
theorem d_GK_commit_4 : decode b_GK_commit 4 = .ok (.aload_n 0, 1) := by decide +kernel
theorem d_GK_commit_5 : decode b_GK_commit 5 = .ok (.getfield 136, 3) := by decide +kernel
theorem d_GK_commit_8 : decode b_GK_commit 8 = .ok (.ifCond .ne 5, 3) := by decide +kernel
theorem d_GK_commit_11 : decode b_GK_commit 11 = .ok (.iconst (-1), 1) := by decide +kernel
theorem d_GK_commit_12 : decode b_GK_commit 12 = .ok (.ireturn, 1) := by decide +kernel
theorem d_GK_commit_13 : decode b_GK_commit 13 = .ok (.aload_n 0, 1) := by decide +kernel
theorem d_GK_commit_14 : decode b_GK_commit 14 = .ok (.invokevirtual 156, 3) := by decide +kernel
theorem d_GK_commit_17 : decode b_GK_commit 17 = .ok (.aload_n 0, 1) := by decide +kernel
theorem d_GK_commit_18 : decode b_GK_commit 18 = .ok (.getfield 162, 3) := by decide +kernel
theorem d_GK_commit_21 : decode b_GK_commit 21 = .ok (.istore_n 1, 1) := by decide +kernel
theorem d_GK_commit_22 : decode b_GK_commit 22 = .ok (.aload_n 0, 1) := by decide +kernel
theorem d_GK_commit_23 : decode b_GK_commit 23 = .ok (.getfield 25, 3) := by decide +kernel
theorem d_GK_commit_26 : decode b_GK_commit 26 = .ok (.iload_n 1, 1) := by decide +kernel
theorem d_GK_commit_27 : decode b_GK_commit 27 = .ok (.invokevirtual 140, 3) := by decide +kernel
theorem d_GK_commit_30 : decode b_GK_commit 30 = .ok (.ifCond .ne 6, 3) := by decide +kernel
theorem d_GK_commit_33 : decode b_GK_commit 33 = .ok (.bipush (-2), 2) := by decide +kernel
theorem d_GK_commit_35 : decode b_GK_commit 35 = .ok (.ireturn, 1) := by decide +kernel
theorem d_GK_commit_36 : decode b_GK_commit 36 = .ok (.aload_n 0, 1) := by decide +kernel
theorem d_GK_commit_37 : decode b_GK_commit 37 = .ok (.iload_n 1, 1) := by decide +kernel
theorem d_GK_commit_38 : decode b_GK_commit 38 = .ok (.invokevirtual 153, 3) := by decide +kernel
theorem d_GK_commit_41 : decode b_GK_commit 41 = .ok (.aload_n 0, 1) := by decide +kernel
theorem d_GK_commit_42 : decode b_GK_commit 42 = .ok (.invokevirtual 165, 3) := by decide +kernel
theorem d_GK_commit_45 : decode b_GK_commit 45 = .ok (.iload_n 1, 1) := by decide +kernel
theorem d_GK_commit_46 : decode b_GK_commit 46 = .ok (.invokestatic 168, 3) := by decide +kernel
theorem d_GK_commit_49 : decode b_GK_commit 49 = .ok (.ireturn, 1) := by decide +kernel
theorem d_GK_rollback_0 : decode b_GK_rollback 0 = .ok (.aload_n 0, 1) := by decide +kernel
theorem d_GK_rollback_1 : decode b_GK_rollback 1 = .ok (.getfield 136, 3) := by decide +kernel
theorem d_GK_rollback_4 : decode b_GK_rollback 4 = .ok (.ifCond .ne 5, 3) := by decide +kernel
theorem d_GK_rollback_7 : decode b_GK_rollback 7 = .ok (.iconst 0, 1) := by decide +kernel
theorem d_GK_rollback_8 : decode b_GK_rollback 8 = .ok (.ireturn, 1) := by decide +kernel
theorem d_GK_rollback_9 : decode b_GK_rollback 9 = .ok (.aload_n 0, 1) := by decide +kernel
theorem d_GK_rollback_10 : decode b_GK_rollback 10 = .ok (.invokevirtual 172, 3) := by decide +kernel
theorem d_GK_rollback_13 : decode b_GK_rollback 13 = .ok (.iconst 1, 1) := by decide +kernel
theorem d_GK_rollback_14 : decode b_GK_rollback 14 = .ok (.ireturn, 1) := by decide +kernel
theorem d_GK_checkpoint_0 : decode b_GK_checkpoint 0 = .ok (.aload_n 0, 1) := by decide +kernel
theorem d_GK_checkpoint_1 : decode b_GK_checkpoint 1 = .ok (.invokevirtual 47, 3) := by decide +kernel
