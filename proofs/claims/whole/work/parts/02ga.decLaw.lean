/-! the instructions of Law -/
theorem d_Law_node_0 : decode b_Law_node 0 = .ok (.aload_n 1, 1) := by decide +kernel
theorem d_Law_node_1 : decode b_Law_node 1 = .ok (.iconst 0, 1) := by decide +kernel
theorem d_Law_node_2 : decode b_Law_node 2 = .ok (.aload_n 0, 1) := by decide +kernel
theorem d_Law_node_3 : decode b_Law_node 3 = .ok (.invokevirtual 7, 3) := by decide +kernel
theorem d_Law_node_6 : decode b_Law_node 6 = .ok (.i2l, 1) := by decide +kernel
theorem d_Law_node_7 : decode b_Law_node 7 = .ok (.lastore, 1) := by decide +kernel
theorem d_Law_node_8 : decode b_Law_node 8 = .ok (.goto 9, 3) := by decide +kernel
theorem d_Law_node_11 : decode b_Law_node 11 = .ok (.astore_n 2, 1) := by decide +kernel
theorem d_Law_node_12 : decode b_Law_node 12 = .ok (.iconst 1, 1) := by decide +kernel
theorem d_Law_node_13 : decode b_Law_node 13 = .ok (.ireturn, 1) := by decide +kernel
theorem d_Law_node_14 : decode b_Law_node 14 = .ok (.astore_n 2, 1) := by decide +kernel
theorem d_Law_node_15 : decode b_Law_node 15 = .ok (.iconst 2, 1) := by decide +kernel
theorem d_Law_node_16 : decode b_Law_node 16 = .ok (.ireturn, 1) := by decide +kernel
theorem d_Law_node_17 : decode b_Law_node 17 = .ok (.iconst 0, 1) := by decide +kernel
theorem d_Law_node_18 : decode b_Law_node 18 = .ok (.ireturn, 1) := by decide +kernel
theorem d_Law_label_0 : decode b_Law_label 0 = .ok (.aload 4, 2) := by decide +kernel
theorem d_Law_label_2 : decode b_Law_label 2 = .ok (.iconst 0, 1) := by decide +kernel
theorem d_Law_label_3 : decode b_Law_label 3 = .ok (.aload_n 0, 1) := by decide +kernel
theorem d_Law_label_4 : decode b_Law_label 4 = .ok (.iload_n 1, 1) := by decide +kernel
theorem d_Law_label_5 : decode b_Law_label 5 = .ok (.iload_n 2, 1) := by decide +kernel
theorem d_Law_label_6 : decode b_Law_label 6 = .ok (.iload_n 3, 1) := by decide +kernel
theorem d_Law_label_7 : decode b_Law_label 7 = .ok (.invokevirtual 17, 3) := by decide +kernel
theorem d_Law_label_10 : decode b_Law_label 10 = .ok (.ifCond .eq 7, 3) := by decide +kernel
theorem d_Law_label_13 : decode b_Law_label 13 = .ok (.lconst 1, 1) := by decide +kernel
theorem d_Law_label_14 : decode b_Law_label 14 = .ok (.goto 4, 3) := by decide +kernel
theorem d_Law_label_17 : decode b_Law_label 17 = .ok (.lconst 0, 1) := by decide +kernel
theorem d_Law_label_18 : decode b_Law_label 18 = .ok (.lastore, 1) := by decide +kernel
theorem d_Law_label_19 : decode b_Law_label 19 = .ok (.goto 11, 3) := by decide +kernel
theorem d_Law_label_22 : decode b_Law_label 22 = .ok (.astore 5, 2) := by decide +kernel
theorem d_Law_label_24 : decode b_Law_label 24 = .ok (.iconst 1, 1) := by decide +kernel
theorem d_Law_label_25 : decode b_Law_label 25 = .ok (.ireturn, 1) := by decide +kernel
theorem d_Law_label_26 : decode b_Law_label 26 = .ok (.astore 5, 2) := by decide +kernel
theorem d_Law_label_28 : decode b_Law_label 28 = .ok (.iconst 2, 1) := by decide +kernel
theorem d_Law_label_29 : decode b_Law_label 29 = .ok (.ireturn, 1) := by decide +kernel
theorem d_Law_label_30 : decode b_Law_label 30 = .ok (.iconst 0, 1) := by decide +kernel
theorem d_Law_label_31 : decode b_Law_label 31 = .ok (.ireturn, 1) := by decide +kernel
theorem d_Law_property_0 : decode b_Law_property 0 = .ok (.aload 7, 2) := by decide +kernel
theorem d_Law_property_2 : decode b_Law_property 2 = .ok (.iconst 0, 1) := by decide +kernel
theorem d_Law_property_3 : decode b_Law_property 3 = .ok (.aload_n 0, 1) := by decide +kernel
theorem d_Law_property_4 : decode b_Law_property 4 = .ok (.iload_n 1, 1) := by decide +kernel
theorem d_Law_property_5 : decode b_Law_property 5 = .ok (.iload_n 2, 1) := by decide +kernel
theorem d_Law_property_6 : decode b_Law_property 6 = .ok (.iload_n 3, 1) := by decide +kernel
theorem d_Law_property_7 : decode b_Law_property 7 = .ok (.iload 4, 2) := by decide +kernel
theorem d_Law_property_9 : decode b_Law_property 9 = .ok (.lload 5, 2) := by decide +kernel
theorem d_Law_property_11 : decode b_Law_property 11 = .ok (.invokevirtual 21, 3) := by decide +kernel
theorem d_Law_property_14 : decode b_Law_property 14 = .ok (.ifCond .eq 7, 3) := by decide +kernel
theorem d_Law_property_17 : decode b_Law_property 17 = .ok (.lconst 1, 1) := by decide +kernel
theorem d_Law_property_18 : decode b_Law_property 18 = .ok (.goto 4, 3) := by decide +kernel
theorem d_Law_property_21 : decode b_Law_property 21 = .ok (.lconst 0, 1) := by decide +kernel
theorem d_Law_property_22 : decode b_Law_property 22 = .ok (.lastore, 1) := by decide +kernel
theorem d_Law_property_23 : decode b_Law_property 23 = .ok (.goto 11, 3) := by decide +kernel
theorem d_Law_property_26 : decode b_Law_property 26 = .ok (.astore 8, 2) := by decide +kernel
theorem d_Law_property_28 : decode b_Law_property 28 = .ok (.iconst 1, 1) := by decide +kernel
theorem d_Law_property_29 : decode b_Law_property 29 = .ok (.ireturn, 1) := by decide +kernel
theorem d_Law_property_30 : decode b_Law_property 30 = .ok (.astore 8, 2) := by decide +kernel
theorem d_Law_property_32 : decode b_Law_property 32 = .ok (.iconst 2, 1) := by decide +kernel
theorem d_Law_property_33 : decode b_Law_property 33 = .ok (.ireturn, 1) := by decide +kernel
theorem d_Law_property_34 : decode b_Law_property 34 = .ok (.iconst 0, 1) := by decide +kernel
theorem d_Law_property_35 : decode b_Law_property 35 = .ok (.ireturn, 1) := by decide +kernel
theorem d_Law_link_0 : decode b_Law_link 0 = .ok (.aload 4, 2) := by decide +kernel
theorem d_Law_link_2 : decode b_Law_link 2 = .ok (.iconst 0, 1) := by decide +kernel
theorem d_Law_link_3 : decode b_Law_link 3 = .ok (.aload_n 0, 1) := by decide +kernel
theorem d_Law_link_4 : decode b_Law_link 4 = .ok (.iload_n 1, 1) := by decide +kernel
theorem d_Law_link_5 : decode b_Law_link 5 = .ok (.iload_n 2, 1) := by decide +kernel
theorem d_Law_link_6 : decode b_Law_link 6 = .ok (.iload_n 3, 1) := by decide +kernel
theorem d_Law_link_7 : decode b_Law_link 7 = .ok (.invokevirtual 25, 3) := by decide +kernel
theorem d_Law_link_10 : decode b_Law_link 10 = .ok (.i2l, 1) := by decide +kernel
theorem d_Law_link_11 : decode b_Law_link 11 = .ok (.lastore, 1) := by decide +kernel
theorem d_Law_link_12 : decode b_Law_link 12 = .ok (.goto 11, 3) := by decide +kernel
theorem d_Law_link_15 : decode b_Law_link 15 = .ok (.astore 5, 2) := by decide +kernel
theorem d_Law_link_17 : decode b_Law_link 17 = .ok (.iconst 1, 1) := by decide +kernel
theorem d_Law_link_18 : decode b_Law_link 18 = .ok (.ireturn, 1) := by decide +kernel
theorem d_Law_link_19 : decode b_Law_link 19 = .ok (.astore 5, 2) := by decide +kernel
theorem d_Law_link_21 : decode b_Law_link 21 = .ok (.iconst 2, 1) := by decide +kernel
theorem d_Law_link_22 : decode b_Law_link 22 = .ok (.ireturn, 1) := by decide +kernel
theorem d_Law_link_23 : decode b_Law_link 23 = .ok (.iconst 0, 1) := by decide +kernel
theorem d_Law_link_24 : decode b_Law_link 24 = .ok (.ireturn, 1) := by decide +kernel
theorem d_Law_take_0 : decode b_Law_take 0 = .ok (.aload_n 0, 1) := by decide +kernel
theorem d_Law_take_1 : decode b_Law_take 1 = .ok (.iload_n 1, 1) := by decide +kernel
theorem d_Law_take_2 : decode b_Law_take 2 = .ok (.iload_n 2, 1) := by decide +kernel
theorem d_Law_take_3 : decode b_Law_take 3 = .ok (.invokevirtual 29, 3) := by decide +kernel
theorem d_Law_take_6 : decode b_Law_take 6 = .ok (.goto 9, 3) := by decide +kernel
theorem d_Law_take_9 : decode b_Law_take 9 = .ok (.astore_n 3, 1) := by decide +kernel
theorem d_Law_take_10 : decode b_Law_take 10 = .ok (.iconst 1, 1) := by decide +kernel
theorem d_Law_take_11 : decode b_Law_take 11 = .ok (.ireturn, 1) := by decide +kernel
theorem d_Law_take_12 : decode b_Law_take 12 = .ok (.astore_n 3, 1) := by decide +kernel
