/-! the instructions of Pr -/
theorem d_Pr_init_0 : decode b_Pr_init 0 = .ok (.aload_n 0, 1) := by decide +kernel
theorem d_Pr_init_1 : decode b_Pr_init 1 = .ok (.invokespecial 1, 3) := by decide +kernel
theorem d_Pr_init_4 : decode b_Pr_init 4 = .ok (.aload_n 0, 1) := by decide +kernel
theorem d_Pr_init_5 : decode b_Pr_init 5 = .ok (.iload_n 1, 1) := by decide +kernel
theorem d_Pr_init_6 : decode b_Pr_init 6 = .ok (.putfield 7, 3) := by decide +kernel
theorem d_Pr_init_9 : decode b_Pr_init 9 = .ok (.aload_n 0, 1) := by decide +kernel
theorem d_Pr_init_10 : decode b_Pr_init 10 = .ok (.iload_n 2, 1) := by decide +kernel
theorem d_Pr_init_11 : decode b_Pr_init 11 = .ok (.putfield 13, 3) := by decide +kernel
theorem d_Pr_init_14 : decode b_Pr_init 14 = .ok (.aload_n 0, 1) := by decide +kernel
theorem d_Pr_init_15 : decode b_Pr_init 15 = .ok (.lload_n 3, 1) := by decide +kernel
theorem d_Pr_init_16 : decode b_Pr_init 16 = .ok (.putfield 16, 3) := by decide +kernel
theorem d_Pr_init_19 : decode b_Pr_init 19 = .ok (.aload_n 0, 1) := by decide +kernel
theorem d_Pr_init_20 : decode b_Pr_init 20 = .ok (.aload 5, 2) := by decide +kernel
theorem d_Pr_init_22 : decode b_Pr_init 22 = .ok (.putfield 20, 3) := by decide +kernel
theorem d_Pr_init_25 : decode b_Pr_init 25 = .ok (.return_, 1) := by decide +kernel
theorem d_Pr_isSameValue_0 : decode b_Pr_isSameValue 0 = .ok (.aload_n 0, 1) := by decide +kernel
theorem d_Pr_isSameValue_1 : decode b_Pr_isSameValue 1 = .ok (.getfield 13, 3) := by decide +kernel
theorem d_Pr_isSameValue_4 : decode b_Pr_isSameValue 4 = .ok (.aload_n 1, 1) := by decide +kernel
theorem d_Pr_isSameValue_5 : decode b_Pr_isSameValue 5 = .ok (.getfield 13, 3) := by decide +kernel
theorem d_Pr_isSameValue_8 : decode b_Pr_isSameValue 8 = .ok (.if_icmp .ne 28, 3) := by decide +kernel
theorem d_Pr_isSameValue_11 : decode b_Pr_isSameValue 11 = .ok (.aload_n 0, 1) := by decide +kernel
theorem d_Pr_isSameValue_12 : decode b_Pr_isSameValue 12 = .ok (.getfield 16, 3) := by decide +kernel
theorem d_Pr_isSameValue_15 : decode b_Pr_isSameValue 15 = .ok (.aload_n 1, 1) := by decide +kernel
theorem d_Pr_isSameValue_16 : decode b_Pr_isSameValue 16 = .ok (.getfield 16, 3) := by decide +kernel
theorem d_Pr_isSameValue_19 : decode b_Pr_isSameValue 19 = .ok (.lcmp, 1) := by decide +kernel
theorem d_Pr_isSameValue_20 : decode b_Pr_isSameValue 20 = .ok (.ifCond .ne 16, 3) := by decide +kernel
theorem d_Pr_isSameValue_23 : decode b_Pr_isSameValue 23 = .ok (.aload_n 0, 1) := by decide +kernel
theorem d_Pr_isSameValue_24 : decode b_Pr_isSameValue 24 = .ok (.getfield 20, 3) := by decide +kernel
theorem d_Pr_isSameValue_27 : decode b_Pr_isSameValue 27 = .ok (.arraylength, 1) := by decide +kernel
theorem d_Pr_isSameValue_28 : decode b_Pr_isSameValue 28 = .ok (.aload_n 1, 1) := by decide +kernel
theorem d_Pr_isSameValue_29 : decode b_Pr_isSameValue 29 = .ok (.getfield 20, 3) := by decide +kernel
theorem d_Pr_isSameValue_32 : decode b_Pr_isSameValue 32 = .ok (.arraylength, 1) := by decide +kernel
theorem d_Pr_isSameValue_33 : decode b_Pr_isSameValue 33 = .ok (.if_icmp .eq 5, 3) := by decide +kernel
theorem d_Pr_isSameValue_36 : decode b_Pr_isSameValue 36 = .ok (.iconst 0, 1) := by decide +kernel
theorem d_Pr_isSameValue_37 : decode b_Pr_isSameValue 37 = .ok (.ireturn, 1) := by decide +kernel
theorem d_Pr_isSameValue_38 : decode b_Pr_isSameValue 38 = .ok (.iconst 0, 1) := by decide +kernel
theorem d_Pr_isSameValue_39 : decode b_Pr_isSameValue 39 = .ok (.istore_n 2, 1) := by decide +kernel
theorem d_Pr_isSameValue_40 : decode b_Pr_isSameValue 40 = .ok (.iload_n 2, 1) := by decide +kernel
theorem d_Pr_isSameValue_41 : decode b_Pr_isSameValue 41 = .ok (.aload_n 0, 1) := by decide +kernel
theorem d_Pr_isSameValue_42 : decode b_Pr_isSameValue 42 = .ok (.getfield 20, 3) := by decide +kernel
theorem d_Pr_isSameValue_45 : decode b_Pr_isSameValue 45 = .ok (.arraylength, 1) := by decide +kernel
theorem d_Pr_isSameValue_46 : decode b_Pr_isSameValue 46 = .ok (.if_icmp .ge 26, 3) := by decide +kernel
theorem d_Pr_isSameValue_49 : decode b_Pr_isSameValue 49 = .ok (.aload_n 0, 1) := by decide +kernel
theorem d_Pr_isSameValue_50 : decode b_Pr_isSameValue 50 = .ok (.getfield 20, 3) := by decide +kernel
theorem d_Pr_isSameValue_53 : decode b_Pr_isSameValue 53 = .ok (.iload_n 2, 1) := by decide +kernel
theorem d_Pr_isSameValue_54 : decode b_Pr_isSameValue 54 = .ok (.baload, 1) := by decide +kernel
theorem d_Pr_isSameValue_55 : decode b_Pr_isSameValue 55 = .ok (.aload_n 1, 1) := by decide +kernel
theorem d_Pr_isSameValue_56 : decode b_Pr_isSameValue 56 = .ok (.getfield 20, 3) := by decide +kernel
theorem d_Pr_isSameValue_59 : decode b_Pr_isSameValue 59 = .ok (.iload_n 2, 1) := by decide +kernel
theorem d_Pr_isSameValue_60 : decode b_Pr_isSameValue 60 = .ok (.baload, 1) := by decide +kernel
theorem d_Pr_isSameValue_61 : decode b_Pr_isSameValue 61 = .ok (.if_icmp .eq 5, 3) := by decide +kernel
theorem d_Pr_isSameValue_64 : decode b_Pr_isSameValue 64 = .ok (.iconst 0, 1) := by decide +kernel
theorem d_Pr_isSameValue_65 : decode b_Pr_isSameValue 65 = .ok (.ireturn, 1) := by decide +kernel
theorem d_Pr_isSameValue_66 : decode b_Pr_isSameValue 66 = .ok (.iinc 2 1, 3) := by decide +kernel
theorem d_Pr_isSameValue_69 : decode b_Pr_isSameValue 69 = .ok (.goto (-29), 3) := by decide +kernel
theorem d_Pr_isSameValue_72 : decode b_Pr_isSameValue 72 = .ok (.iconst 1, 1) := by decide +kernel
theorem d_Pr_isSameValue_73 : decode b_Pr_isSameValue 73 = .ok (.ireturn, 1) := by decide +kernel
/-! the instructions of Th -/
theorem d_Th_init_0 : decode b_Th_init 0 = .ok (.aload_n 0, 1) := by decide +kernel
theorem d_Th_init_1 : decode b_Th_init 1 = .ok (.invokespecial 1, 3) := by decide +kernel
theorem d_Th_init_4 : decode b_Th_init 4 = .ok (.aload_n 0, 1) := by decide +kernel
theorem d_Th_init_5 : decode b_Th_init 5 = .ok (.aload_n 1, 1) := by decide +kernel
theorem d_Th_init_6 : decode b_Th_init 6 = .ok (.putfield 7, 3) := by decide +kernel
theorem d_Th_init_9 : decode b_Th_init 9 = .ok (.return_, 1) := by decide +kernel
theorem d_Th_propertyOf_0 : decode b_Th_propertyOf 0 = .ok (.aload_n 0, 1) := by decide +kernel
theorem d_Th_propertyOf_1 : decode b_Th_propertyOf 1 = .ok (.iload_n 1, 1) := by decide +kernel
theorem d_Th_propertyOf_2 : decode b_Th_propertyOf 2 = .ok (.invokevirtual 13, 3) := by decide +kernel
theorem d_Th_propertyOf_5 : decode b_Th_propertyOf 5 = .ok (.istore_n 2, 1) := by decide +kernel
theorem d_Th_propertyOf_6 : decode b_Th_propertyOf 6 = .ok (.iload_n 2, 1) := by decide +kernel
theorem d_Th_propertyOf_7 : decode b_Th_propertyOf 7 = .ok (.aload_n 0, 1) := by decide +kernel
theorem d_Th_propertyOf_8 : decode b_Th_propertyOf 8 = .ok (.getfield 7, 3) := by decide +kernel
theorem d_Th_propertyOf_11 : decode b_Th_propertyOf 11 = .ok (.arraylength, 1) := by decide +kernel
theorem d_Th_propertyOf_12 : decode b_Th_propertyOf 12 = .ok (.if_icmp .ge 12, 3) := by decide +kernel
theorem d_Th_propertyOf_15 : decode b_Th_propertyOf 15 = .ok (.aload_n 0, 1) := by decide +kernel
theorem d_Th_propertyOf_16 : decode b_Th_propertyOf 16 = .ok (.getfield 7, 3) := by decide +kernel
theorem d_Th_propertyOf_19 : decode b_Th_propertyOf 19 = .ok (.iload_n 2, 1) := by decide +kernel
theorem d_Th_propertyOf_20 : decode b_Th_propertyOf 20 = .ok (.aaload, 1) := by decide +kernel
theorem d_Th_propertyOf_21 : decode b_Th_propertyOf 21 = .ok (.goto 4, 3) := by decide +kernel
theorem d_Th_propertyOf_24 : decode b_Th_propertyOf 24 = .ok (.aconst_null, 1) := by decide +kernel
theorem d_Th_propertyOf_25 : decode b_Th_propertyOf 25 = .ok (.areturn, 1) := by decide +kernel
theorem d_Th_propertiesWith_0 : decode b_Th_propertiesWith 0 = .ok (.aload_n 0, 1) := by decide +kernel
theorem d_Th_propertiesWith_1 : decode b_Th_propertiesWith 1 = .ok (.aload_n 1, 1) := by decide +kernel
theorem d_Th_propertiesWith_2 : decode b_Th_propertiesWith 2 = .ok (.getfield 17, 3) := by decide +kernel
theorem d_Th_propertiesWith_5 : decode b_Th_propertiesWith 5 = .ok (.invokevirtual 13, 3) := by decide +kernel
theorem d_Th_propertiesWith_8 : decode b_Th_propertiesWith 8 = .ok (.istore_n 2, 1) := by decide +kernel
theorem d_Th_propertiesWith_9 : decode b_Th_propertiesWith 9 = .ok (.iload_n 2, 1) := by decide +kernel
theorem d_Th_propertiesWith_10 : decode b_Th_propertiesWith 10 = .ok (.aload_n 0, 1) := by decide +kernel
theorem d_Th_propertiesWith_11 : decode b_Th_propertiesWith 11 = .ok (.getfield 7, 3) := by decide +kernel
theorem d_Th_propertiesWith_14 : decode b_Th_propertiesWith 14 = .ok (.arraylength, 1) := by decide +kernel
theorem d_Th_propertiesWith_15 : decode b_Th_propertiesWith 15 = .ok (.if_icmp .ge 11, 3) := by decide +kernel
theorem d_Th_propertiesWith_18 : decode b_Th_propertiesWith 18 = .ok (.aload_n 0, 1) := by decide +kernel
theorem d_Th_propertiesWith_19 : decode b_Th_propertiesWith 19 = .ok (.getfield 7, 3) := by decide +kernel
theorem d_Th_propertiesWith_22 : decode b_Th_propertiesWith 22 = .ok (.arraylength, 1) := by decide +kernel
theorem d_Th_propertiesWith_23 : decode b_Th_propertiesWith 23 = .ok (.goto 10, 3) := by decide +kernel
theorem d_Th_propertiesWith_26 : decode b_Th_propertiesWith 26 = .ok (.aload_n 0, 1) := by decide +kernel
theorem d_Th_propertiesWith_27 : decode b_Th_propertiesWith 27 = .ok (.getfield 7, 3) := by decide +kernel
theorem d_Th_propertiesWith_30 : decode b_Th_propertiesWith 30 = .ok (.arraylength, 1) := by decide +kernel
theorem d_Th_propertiesWith_31 : decode b_Th_propertiesWith 31 = .ok (.iconst 1, 1) := by decide +kernel
theorem d_Th_propertiesWith_32 : decode b_Th_propertiesWith 32 = .ok (.iadd, 1) := by decide +kernel
theorem d_Th_propertiesWith_33 : decode b_Th_propertiesWith 33 = .ok (.istore_n 3, 1) := by decide +kernel
theorem d_Th_propertiesWith_34 : decode b_Th_propertiesWith 34 = .ok (.iload_n 3, 1) := by decide +kernel
theorem d_Th_propertiesWith_35 : decode b_Th_propertiesWith 35 = .ok (.anewarray 18, 3) := by decide +kernel
theorem d_Th_propertiesWith_38 : decode b_Th_propertiesWith 38 = .ok (.astore 4, 2) := by decide +kernel
theorem d_Th_propertiesWith_40 : decode b_Th_propertiesWith 40 = .ok (.iconst 0, 1) := by decide +kernel
theorem d_Th_propertiesWith_41 : decode b_Th_propertiesWith 41 = .ok (.istore 5, 2) := by decide +kernel
theorem d_Th_propertiesWith_43 : decode b_Th_propertiesWith 43 = .ok (.iload 5, 2) := by decide +kernel
theorem d_Th_propertiesWith_45 : decode b_Th_propertiesWith 45 = .ok (.iload_n 3, 1) := by decide +kernel
theorem d_Th_propertiesWith_46 : decode b_Th_propertiesWith 46 = .ok (.if_icmp .ge 31, 3) := by decide +kernel
theorem d_Th_propertiesWith_49 : decode b_Th_propertiesWith 49 = .ok (.aload 4, 2) := by decide +kernel
theorem d_Th_propertiesWith_51 : decode b_Th_propertiesWith 51 = .ok (.iload 5, 2) := by decide +kernel
theorem d_Th_propertiesWith_53 : decode b_Th_propertiesWith 53 = .ok (.iload 5, 2) := by decide +kernel
theorem d_Th_propertiesWith_55 : decode b_Th_propertiesWith 55 = .ok (.iload_n 2, 1) := by decide +kernel
theorem d_Th_propertiesWith_56 : decode b_Th_propertiesWith 56 = .ok (.if_icmp .ne 7, 3) := by decide +kernel
theorem d_Th_propertiesWith_59 : decode b_Th_propertiesWith 59 = .ok (.aload_n 1, 1) := by decide +kernel
theorem d_Th_propertiesWith_60 : decode b_Th_propertiesWith 60 = .ok (.goto 10, 3) := by decide +kernel
theorem d_Th_propertiesWith_63 : decode b_Th_propertiesWith 63 = .ok (.aload_n 0, 1) := by decide +kernel
theorem d_Th_propertiesWith_64 : decode b_Th_propertiesWith 64 = .ok (.getfield 7, 3) := by decide +kernel
theorem d_Th_propertiesWith_67 : decode b_Th_propertiesWith 67 = .ok (.iload 5, 2) := by decide +kernel
theorem d_Th_propertiesWith_69 : decode b_Th_propertiesWith 69 = .ok (.aaload, 1) := by decide +kernel
theorem d_Th_propertiesWith_70 : decode b_Th_propertiesWith 70 = .ok (.aastore, 1) := by decide +kernel
theorem d_Th_propertiesWith_71 : decode b_Th_propertiesWith 71 = .ok (.iinc 5 1, 3) := by decide +kernel
theorem d_Th_propertiesWith_74 : decode b_Th_propertiesWith 74 = .ok (.goto (-31), 3) := by decide +kernel
theorem d_Th_propertiesWith_77 : decode b_Th_propertiesWith 77 = .ok (.aload 4, 2) := by decide +kernel
theorem d_Th_propertiesWith_79 : decode b_Th_propertiesWith 79 = .ok (.areturn, 1) := by decide +kernel
theorem d_Th_propertiesWithout_0 : decode b_Th_propertiesWithout 0 = .ok (.aload_n 0, 1) := by decide +kernel
theorem d_Th_propertiesWithout_1 : decode b_Th_propertiesWithout 1 = .ok (.iload_n 1, 1) := by decide +kernel
theorem d_Th_propertiesWithout_2 : decode b_Th_propertiesWithout 2 = .ok (.invokevirtual 13, 3) := by decide +kernel
theorem d_Th_propertiesWithout_5 : decode b_Th_propertiesWithout 5 = .ok (.istore_n 2, 1) := by decide +kernel
theorem d_Th_propertiesWithout_6 : decode b_Th_propertiesWithout 6 = .ok (.iload_n 2, 1) := by decide +kernel
theorem d_Th_propertiesWithout_7 : decode b_Th_propertiesWithout 7 = .ok (.aload_n 0, 1) := by decide +kernel
theorem d_Th_propertiesWithout_8 : decode b_Th_propertiesWithout 8 = .ok (.getfield 7, 3) := by decide +kernel
theorem d_Th_propertiesWithout_11 : decode b_Th_propertiesWithout 11 = .ok (.arraylength, 1) := by decide +kernel
theorem d_Th_propertiesWithout_12 : decode b_Th_propertiesWithout 12 = .ok (.if_icmp .lt 8, 3) := by decide +kernel
theorem d_Th_propertiesWithout_15 : decode b_Th_propertiesWithout 15 = .ok (.aload_n 0, 1) := by decide +kernel
theorem d_Th_propertiesWithout_16 : decode b_Th_propertiesWithout 16 = .ok (.getfield 7, 3) := by decide +kernel
theorem d_Th_propertiesWithout_19 : decode b_Th_propertiesWithout 19 = .ok (.areturn, 1) := by decide +kernel
theorem d_Th_propertiesWithout_20 : decode b_Th_propertiesWithout 20 = .ok (.aload_n 0, 1) := by decide +kernel
theorem d_Th_propertiesWithout_21 : decode b_Th_propertiesWithout 21 = .ok (.getfield 7, 3) := by decide +kernel
theorem d_Th_propertiesWithout_24 : decode b_Th_propertiesWithout 24 = .ok (.arraylength, 1) := by decide +kernel
theorem d_Th_propertiesWithout_25 : decode b_Th_propertiesWithout 25 = .ok (.iconst 1, 1) := by decide +kernel
theorem d_Th_propertiesWithout_26 : decode b_Th_propertiesWithout 26 = .ok (.isub, 1) := by decide +kernel
theorem d_Th_propertiesWithout_27 : decode b_Th_propertiesWithout 27 = .ok (.anewarray 18, 3) := by decide +kernel
theorem d_Th_propertiesWithout_30 : decode b_Th_propertiesWithout 30 = .ok (.astore_n 3, 1) := by decide +kernel
theorem d_Th_propertiesWithout_31 : decode b_Th_propertiesWithout 31 = .ok (.iconst 0, 1) := by decide +kernel
theorem d_Th_propertiesWithout_32 : decode b_Th_propertiesWithout 32 = .ok (.istore 4, 2) := by decide +kernel
theorem d_Th_propertiesWithout_34 : decode b_Th_propertiesWithout 34 = .ok (.iload 4, 2) := by decide +kernel
theorem d_Th_propertiesWithout_36 : decode b_Th_propertiesWithout 36 = .ok (.aload_n 3, 1) := by decide +kernel
theorem d_Th_propertiesWithout_37 : decode b_Th_propertiesWithout 37 = .ok (.arraylength, 1) := by decide +kernel
theorem d_Th_propertiesWithout_38 : decode b_Th_propertiesWithout 38 = .ok (.if_icmp .ge 33, 3) := by decide +kernel
theorem d_Th_propertiesWithout_41 : decode b_Th_propertiesWithout 41 = .ok (.aload_n 3, 1) := by decide +kernel
theorem d_Th_propertiesWithout_42 : decode b_Th_propertiesWithout 42 = .ok (.iload 4, 2) := by decide +kernel
theorem d_Th_propertiesWithout_44 : decode b_Th_propertiesWithout 44 = .ok (.aload_n 0, 1) := by decide +kernel
theorem d_Th_propertiesWithout_45 : decode b_Th_propertiesWithout 45 = .ok (.getfield 7, 3) := by decide +kernel
theorem d_Th_propertiesWithout_48 : decode b_Th_propertiesWithout 48 = .ok (.iload 4, 2) := by decide +kernel
theorem d_Th_propertiesWithout_50 : decode b_Th_propertiesWithout 50 = .ok (.iload_n 2, 1) := by decide +kernel
theorem d_Th_propertiesWithout_51 : decode b_Th_propertiesWithout 51 = .ok (.if_icmp .ge 8, 3) := by decide +kernel
theorem d_Th_propertiesWithout_54 : decode b_Th_propertiesWithout 54 = .ok (.iload 4, 2) := by decide +kernel
theorem d_Th_propertiesWithout_56 : decode b_Th_propertiesWithout 56 = .ok (.goto 7, 3) := by decide +kernel
theorem d_Th_propertiesWithout_59 : decode b_Th_propertiesWithout 59 = .ok (.iload 4, 2) := by decide +kernel
theorem d_Th_propertiesWithout_61 : decode b_Th_propertiesWithout 61 = .ok (.iconst 1, 1) := by decide +kernel
theorem d_Th_propertiesWithout_62 : decode b_Th_propertiesWithout 62 = .ok (.iadd, 1) := by decide +kernel
theorem d_Th_propertiesWithout_63 : decode b_Th_propertiesWithout 63 = .ok (.aaload, 1) := by decide +kernel
theorem d_Th_propertiesWithout_64 : decode b_Th_propertiesWithout 64 = .ok (.aastore, 1) := by decide +kernel
theorem d_Th_propertiesWithout_65 : decode b_Th_propertiesWithout 65 = .ok (.iinc 4 1, 3) := by decide +kernel
theorem d_Th_propertiesWithout_68 : decode b_Th_propertiesWithout 68 = .ok (.goto (-34), 3) := by decide +kernel
theorem d_Th_propertiesWithout_71 : decode b_Th_propertiesWithout 71 = .ok (.aload_n 3, 1) := by decide +kernel
theorem d_Th_propertiesWithout_72 : decode b_Th_propertiesWithout 72 = .ok (.areturn, 1) := by decide +kernel
theorem d_Th_placeOf_0 : decode b_Th_placeOf 0 = .ok (.iconst 0, 1) := by decide +kernel
theorem d_Th_placeOf_1 : decode b_Th_placeOf 1 = .ok (.istore_n 2, 1) := by decide +kernel
theorem d_Th_placeOf_2 : decode b_Th_placeOf 2 = .ok (.iload_n 2, 1) := by decide +kernel
theorem d_Th_placeOf_3 : decode b_Th_placeOf 3 = .ok (.aload_n 0, 1) := by decide +kernel
theorem d_Th_placeOf_4 : decode b_Th_placeOf 4 = .ok (.getfield 7, 3) := by decide +kernel
theorem d_Th_placeOf_7 : decode b_Th_placeOf 7 = .ok (.arraylength, 1) := by decide +kernel
theorem d_Th_placeOf_8 : decode b_Th_placeOf 8 = .ok (.if_icmp .ge 22, 3) := by decide +kernel
theorem d_Th_placeOf_11 : decode b_Th_placeOf 11 = .ok (.aload_n 0, 1) := by decide +kernel
theorem d_Th_placeOf_12 : decode b_Th_placeOf 12 = .ok (.getfield 7, 3) := by decide +kernel
theorem d_Th_placeOf_15 : decode b_Th_placeOf 15 = .ok (.iload_n 2, 1) := by decide +kernel
theorem d_Th_placeOf_16 : decode b_Th_placeOf 16 = .ok (.aaload, 1) := by decide +kernel
theorem d_Th_placeOf_17 : decode b_Th_placeOf 17 = .ok (.getfield 17, 3) := by decide +kernel
theorem d_Th_placeOf_20 : decode b_Th_placeOf 20 = .ok (.iload_n 1, 1) := by decide +kernel
theorem d_Th_placeOf_21 : decode b_Th_placeOf 21 = .ok (.if_icmp .eq 9, 3) := by decide +kernel
theorem d_Th_placeOf_24 : decode b_Th_placeOf 24 = .ok (.iinc 2 1, 3) := by decide +kernel
theorem d_Th_placeOf_27 : decode b_Th_placeOf 27 = .ok (.goto (-25), 3) := by decide +kernel
theorem d_Th_placeOf_30 : decode b_Th_placeOf 30 = .ok (.iload_n 2, 1) := by decide +kernel
theorem d_Th_placeOf_31 : decode b_Th_placeOf 31 = .ok (.ireturn, 1) := by decide +kernel
/-! the instructions of Nd -/
theorem d_Nd_init_0 : decode b_Nd_init 0 = .ok (.aload_n 0, 1) := by decide +kernel
theorem d_Nd_init_1 : decode b_Nd_init 1 = .ok (.aload_n 2, 1) := by decide +kernel
theorem d_Nd_init_2 : decode b_Nd_init 2 = .ok (.invokespecial 1, 3) := by decide +kernel
theorem d_Nd_init_5 : decode b_Nd_init 5 = .ok (.aload_n 0, 1) := by decide +kernel
theorem d_Nd_init_6 : decode b_Nd_init 6 = .ok (.aload_n 1, 1) := by decide +kernel
theorem d_Nd_init_7 : decode b_Nd_init 7 = .ok (.putfield 7, 3) := by decide +kernel
theorem d_Nd_init_10 : decode b_Nd_init 10 = .ok (.return_, 1) := by decide +kernel
theorem d_Nd_isLabelled_0 : decode b_Nd_isLabelled 0 = .ok (.aload_n 0, 1) := by decide +kernel
theorem d_Nd_isLabelled_1 : decode b_Nd_isLabelled 1 = .ok (.iload_n 1, 1) := by decide +kernel
theorem d_Nd_isLabelled_2 : decode b_Nd_isLabelled 2 = .ok (.invokevirtual 13, 3) := by decide +kernel
theorem d_Nd_isLabelled_5 : decode b_Nd_isLabelled 5 = .ok (.aload_n 0, 1) := by decide +kernel
theorem d_Nd_isLabelled_6 : decode b_Nd_isLabelled 6 = .ok (.getfield 7, 3) := by decide +kernel
theorem d_Nd_isLabelled_9 : decode b_Nd_isLabelled 9 = .ok (.arraylength, 1) := by decide +kernel
theorem d_Nd_isLabelled_10 : decode b_Nd_isLabelled 10 = .ok (.if_icmp .ge 7, 3) := by decide +kernel
theorem d_Nd_isLabelled_13 : decode b_Nd_isLabelled 13 = .ok (.iconst 1, 1) := by decide +kernel
theorem d_Nd_isLabelled_14 : decode b_Nd_isLabelled 14 = .ok (.goto 4, 3) := by decide +kernel
theorem d_Nd_isLabelled_17 : decode b_Nd_isLabelled 17 = .ok (.iconst 0, 1) := by decide +kernel
theorem d_Nd_isLabelled_18 : decode b_Nd_isLabelled 18 = .ok (.ireturn, 1) := by decide +kernel
theorem d_Nd_withLabel_0 : decode b_Nd_withLabel 0 = .ok (.aload_n 0, 1) := by decide +kernel
theorem d_Nd_withLabel_1 : decode b_Nd_withLabel 1 = .ok (.getfield 7, 3) := by decide +kernel
theorem d_Nd_withLabel_4 : decode b_Nd_withLabel 4 = .ok (.arraylength, 1) := by decide +kernel
theorem d_Nd_withLabel_5 : decode b_Nd_withLabel 5 = .ok (.iconst 1, 1) := by decide +kernel
theorem d_Nd_withLabel_6 : decode b_Nd_withLabel 6 = .ok (.iadd, 1) := by decide +kernel
theorem d_Nd_withLabel_7 : decode b_Nd_withLabel 7 = .ok (.newarray .int, 2) := by decide +kernel
theorem d_Nd_withLabel_9 : decode b_Nd_withLabel 9 = .ok (.astore_n 2, 1) := by decide +kernel
theorem d_Nd_withLabel_10 : decode b_Nd_withLabel 10 = .ok (.iconst 0, 1) := by decide +kernel
theorem d_Nd_withLabel_11 : decode b_Nd_withLabel 11 = .ok (.istore_n 3, 1) := by decide +kernel
theorem d_Nd_withLabel_12 : decode b_Nd_withLabel 12 = .ok (.iload_n 3, 1) := by decide +kernel
theorem d_Nd_withLabel_13 : decode b_Nd_withLabel 13 = .ok (.aload_n 0, 1) := by decide +kernel
theorem d_Nd_withLabel_14 : decode b_Nd_withLabel 14 = .ok (.getfield 7, 3) := by decide +kernel
theorem d_Nd_withLabel_17 : decode b_Nd_withLabel 17 = .ok (.arraylength, 1) := by decide +kernel
theorem d_Nd_withLabel_18 : decode b_Nd_withLabel 18 = .ok (.if_icmp .ge 18, 3) := by decide +kernel
theorem d_Nd_withLabel_21 : decode b_Nd_withLabel 21 = .ok (.aload_n 2, 1) := by decide +kernel
theorem d_Nd_withLabel_22 : decode b_Nd_withLabel 22 = .ok (.iload_n 3, 1) := by decide +kernel
theorem d_Nd_withLabel_23 : decode b_Nd_withLabel 23 = .ok (.aload_n 0, 1) := by decide +kernel
theorem d_Nd_withLabel_24 : decode b_Nd_withLabel 24 = .ok (.getfield 7, 3) := by decide +kernel
theorem d_Nd_withLabel_27 : decode b_Nd_withLabel 27 = .ok (.iload_n 3, 1) := by decide +kernel
theorem d_Nd_withLabel_28 : decode b_Nd_withLabel 28 = .ok (.iaload, 1) := by decide +kernel
theorem d_Nd_withLabel_29 : decode b_Nd_withLabel 29 = .ok (.iastore, 1) := by decide +kernel
theorem d_Nd_withLabel_30 : decode b_Nd_withLabel 30 = .ok (.iinc 3 1, 3) := by decide +kernel
theorem d_Nd_withLabel_33 : decode b_Nd_withLabel 33 = .ok (.goto (-21), 3) := by decide +kernel
theorem d_Nd_withLabel_36 : decode b_Nd_withLabel 36 = .ok (.aload_n 2, 1) := by decide +kernel
theorem d_Nd_withLabel_37 : decode b_Nd_withLabel 37 = .ok (.aload_n 0, 1) := by decide +kernel
theorem d_Nd_withLabel_38 : decode b_Nd_withLabel 38 = .ok (.getfield 7, 3) := by decide +kernel
theorem d_Nd_withLabel_41 : decode b_Nd_withLabel 41 = .ok (.arraylength, 1) := by decide +kernel
theorem d_Nd_withLabel_42 : decode b_Nd_withLabel 42 = .ok (.iload_n 1, 1) := by decide +kernel
theorem d_Nd_withLabel_43 : decode b_Nd_withLabel 43 = .ok (.iastore, 1) := by decide +kernel
theorem d_Nd_withLabel_44 : decode b_Nd_withLabel 44 = .ok (.new 8, 3) := by decide +kernel
theorem d_Nd_withLabel_47 : decode b_Nd_withLabel 47 = .ok (.dup, 1) := by decide +kernel
theorem d_Nd_withLabel_48 : decode b_Nd_withLabel 48 = .ok (.aload_n 2, 1) := by decide +kernel
theorem d_Nd_withLabel_49 : decode b_Nd_withLabel 49 = .ok (.aload_n 0, 1) := by decide +kernel
theorem d_Nd_withLabel_50 : decode b_Nd_withLabel 50 = .ok (.getfield 17, 3) := by decide +kernel
theorem d_Nd_withLabel_53 : decode b_Nd_withLabel 53 = .ok (.invokespecial 21, 3) := by decide +kernel
theorem d_Nd_withLabel_56 : decode b_Nd_withLabel 56 = .ok (.areturn, 1) := by decide +kernel
theorem d_Nd_withoutLabel_0 : decode b_Nd_withoutLabel 0 = .ok (.aload_n 0, 1) := by decide +kernel
theorem d_Nd_withoutLabel_1 : decode b_Nd_withoutLabel 1 = .ok (.iload_n 1, 1) := by decide +kernel
theorem d_Nd_withoutLabel_2 : decode b_Nd_withoutLabel 2 = .ok (.invokevirtual 13, 3) := by decide +kernel
theorem d_Nd_withoutLabel_5 : decode b_Nd_withoutLabel 5 = .ok (.istore_n 2, 1) := by decide +kernel
theorem d_Nd_withoutLabel_6 : decode b_Nd_withoutLabel 6 = .ok (.iload_n 2, 1) := by decide +kernel
theorem d_Nd_withoutLabel_7 : decode b_Nd_withoutLabel 7 = .ok (.aload_n 0, 1) := by decide +kernel
theorem d_Nd_withoutLabel_8 : decode b_Nd_withoutLabel 8 = .ok (.getfield 7, 3) := by decide +kernel
theorem d_Nd_withoutLabel_11 : decode b_Nd_withoutLabel 11 = .ok (.arraylength, 1) := by decide +kernel
theorem d_Nd_withoutLabel_12 : decode b_Nd_withoutLabel 12 = .ok (.if_icmp .lt 5, 3) := by decide +kernel
theorem d_Nd_withoutLabel_15 : decode b_Nd_withoutLabel 15 = .ok (.aload_n 0, 1) := by decide +kernel
theorem d_Nd_withoutLabel_16 : decode b_Nd_withoutLabel 16 = .ok (.areturn, 1) := by decide +kernel
theorem d_Nd_withoutLabel_17 : decode b_Nd_withoutLabel 17 = .ok (.aload_n 0, 1) := by decide +kernel
theorem d_Nd_withoutLabel_18 : decode b_Nd_withoutLabel 18 = .ok (.getfield 7, 3) := by decide +kernel
theorem d_Nd_withoutLabel_21 : decode b_Nd_withoutLabel 21 = .ok (.arraylength, 1) := by decide +kernel
theorem d_Nd_withoutLabel_22 : decode b_Nd_withoutLabel 22 = .ok (.iconst 1, 1) := by decide +kernel
theorem d_Nd_withoutLabel_23 : decode b_Nd_withoutLabel 23 = .ok (.isub, 1) := by decide +kernel
theorem d_Nd_withoutLabel_24 : decode b_Nd_withoutLabel 24 = .ok (.newarray .int, 2) := by decide +kernel
theorem d_Nd_withoutLabel_26 : decode b_Nd_withoutLabel 26 = .ok (.astore_n 3, 1) := by decide +kernel
theorem d_Nd_withoutLabel_27 : decode b_Nd_withoutLabel 27 = .ok (.iconst 0, 1) := by decide +kernel
theorem d_Nd_withoutLabel_28 : decode b_Nd_withoutLabel 28 = .ok (.istore 4, 2) := by decide +kernel
theorem d_Nd_withoutLabel_30 : decode b_Nd_withoutLabel 30 = .ok (.iload 4, 2) := by decide +kernel
theorem d_Nd_withoutLabel_32 : decode b_Nd_withoutLabel 32 = .ok (.aload_n 3, 1) := by decide +kernel
theorem d_Nd_withoutLabel_33 : decode b_Nd_withoutLabel 33 = .ok (.arraylength, 1) := by decide +kernel
theorem d_Nd_withoutLabel_34 : decode b_Nd_withoutLabel 34 = .ok (.if_icmp .ge 33, 3) := by decide +kernel
theorem d_Nd_withoutLabel_37 : decode b_Nd_withoutLabel 37 = .ok (.aload_n 3, 1) := by decide +kernel
theorem d_Nd_withoutLabel_38 : decode b_Nd_withoutLabel 38 = .ok (.iload 4, 2) := by decide +kernel
theorem d_Nd_withoutLabel_40 : decode b_Nd_withoutLabel 40 = .ok (.aload_n 0, 1) := by decide +kernel
theorem d_Nd_withoutLabel_41 : decode b_Nd_withoutLabel 41 = .ok (.getfield 7, 3) := by decide +kernel
theorem d_Nd_withoutLabel_44 : decode b_Nd_withoutLabel 44 = .ok (.iload 4, 2) := by decide +kernel
theorem d_Nd_withoutLabel_46 : decode b_Nd_withoutLabel 46 = .ok (.iload_n 2, 1) := by decide +kernel
theorem d_Nd_withoutLabel_47 : decode b_Nd_withoutLabel 47 = .ok (.if_icmp .ge 8, 3) := by decide +kernel
theorem d_Nd_withoutLabel_50 : decode b_Nd_withoutLabel 50 = .ok (.iload 4, 2) := by decide +kernel
theorem d_Nd_withoutLabel_52 : decode b_Nd_withoutLabel 52 = .ok (.goto 7, 3) := by decide +kernel
theorem d_Nd_withoutLabel_55 : decode b_Nd_withoutLabel 55 = .ok (.iload 4, 2) := by decide +kernel
theorem d_Nd_withoutLabel_57 : decode b_Nd_withoutLabel 57 = .ok (.iconst 1, 1) := by decide +kernel
theorem d_Nd_withoutLabel_58 : decode b_Nd_withoutLabel 58 = .ok (.iadd, 1) := by decide +kernel
theorem d_Nd_withoutLabel_59 : decode b_Nd_withoutLabel 59 = .ok (.iaload, 1) := by decide +kernel
theorem d_Nd_withoutLabel_60 : decode b_Nd_withoutLabel 60 = .ok (.iastore, 1) := by decide +kernel
theorem d_Nd_withoutLabel_61 : decode b_Nd_withoutLabel 61 = .ok (.iinc 4 1, 3) := by decide +kernel
theorem d_Nd_withoutLabel_64 : decode b_Nd_withoutLabel 64 = .ok (.goto (-34), 3) := by decide +kernel
theorem d_Nd_withoutLabel_67 : decode b_Nd_withoutLabel 67 = .ok (.new 8, 3) := by decide +kernel
theorem d_Nd_withoutLabel_70 : decode b_Nd_withoutLabel 70 = .ok (.dup, 1) := by decide +kernel
theorem d_Nd_withoutLabel_71 : decode b_Nd_withoutLabel 71 = .ok (.aload_n 3, 1) := by decide +kernel
theorem d_Nd_withoutLabel_72 : decode b_Nd_withoutLabel 72 = .ok (.aload_n 0, 1) := by decide +kernel
theorem d_Nd_withoutLabel_73 : decode b_Nd_withoutLabel 73 = .ok (.getfield 17, 3) := by decide +kernel
theorem d_Nd_withoutLabel_76 : decode b_Nd_withoutLabel 76 = .ok (.invokespecial 21, 3) := by decide +kernel
theorem d_Nd_withoutLabel_79 : decode b_Nd_withoutLabel 79 = .ok (.areturn, 1) := by decide +kernel
theorem d_Nd_placeOfLabel_0 : decode b_Nd_placeOfLabel 0 = .ok (.iconst 0, 1) := by decide +kernel
theorem d_Nd_placeOfLabel_1 : decode b_Nd_placeOfLabel 1 = .ok (.istore_n 2, 1) := by decide +kernel
theorem d_Nd_placeOfLabel_2 : decode b_Nd_placeOfLabel 2 = .ok (.iload_n 2, 1) := by decide +kernel
theorem d_Nd_placeOfLabel_3 : decode b_Nd_placeOfLabel 3 = .ok (.aload_n 0, 1) := by decide +kernel
theorem d_Nd_placeOfLabel_4 : decode b_Nd_placeOfLabel 4 = .ok (.getfield 7, 3) := by decide +kernel
theorem d_Nd_placeOfLabel_7 : decode b_Nd_placeOfLabel 7 = .ok (.arraylength, 1) := by decide +kernel
theorem d_Nd_placeOfLabel_8 : decode b_Nd_placeOfLabel 8 = .ok (.if_icmp .ge 19, 3) := by decide +kernel
theorem d_Nd_placeOfLabel_11 : decode b_Nd_placeOfLabel 11 = .ok (.aload_n 0, 1) := by decide +kernel
theorem d_Nd_placeOfLabel_12 : decode b_Nd_placeOfLabel 12 = .ok (.getfield 7, 3) := by decide +kernel
theorem d_Nd_placeOfLabel_15 : decode b_Nd_placeOfLabel 15 = .ok (.iload_n 2, 1) := by decide +kernel
theorem d_Nd_placeOfLabel_16 : decode b_Nd_placeOfLabel 16 = .ok (.iaload, 1) := by decide +kernel
theorem d_Nd_placeOfLabel_17 : decode b_Nd_placeOfLabel 17 = .ok (.iload_n 1, 1) := by decide +kernel
theorem d_Nd_placeOfLabel_18 : decode b_Nd_placeOfLabel 18 = .ok (.if_icmp .eq 9, 3) := by decide +kernel
theorem d_Nd_placeOfLabel_21 : decode b_Nd_placeOfLabel 21 = .ok (.iinc 2 1, 3) := by decide +kernel
theorem d_Nd_placeOfLabel_24 : decode b_Nd_placeOfLabel 24 = .ok (.goto (-22), 3) := by decide +kernel
theorem d_Nd_placeOfLabel_27 : decode b_Nd_placeOfLabel 27 = .ok (.iload_n 2, 1) := by decide +kernel
theorem d_Nd_placeOfLabel_28 : decode b_Nd_placeOfLabel 28 = .ok (.ireturn, 1) := by decide +kernel
/-! the instructions of Lk -/
theorem d_Lk_init_0 : decode b_Lk_init 0 = .ok (.aload_n 0, 1) := by decide +kernel
theorem d_Lk_init_1 : decode b_Lk_init 1 = .ok (.aload 4, 2) := by decide +kernel
theorem d_Lk_init_3 : decode b_Lk_init 3 = .ok (.invokespecial 1, 3) := by decide +kernel
theorem d_Lk_init_6 : decode b_Lk_init 6 = .ok (.aload_n 0, 1) := by decide +kernel
theorem d_Lk_init_7 : decode b_Lk_init 7 = .ok (.iload_n 1, 1) := by decide +kernel
theorem d_Lk_init_8 : decode b_Lk_init 8 = .ok (.putfield 7, 3) := by decide +kernel
theorem d_Lk_init_11 : decode b_Lk_init 11 = .ok (.aload_n 0, 1) := by decide +kernel
theorem d_Lk_init_12 : decode b_Lk_init 12 = .ok (.iload_n 2, 1) := by decide +kernel
theorem d_Lk_init_13 : decode b_Lk_init 13 = .ok (.putfield 13, 3) := by decide +kernel
theorem d_Lk_init_16 : decode b_Lk_init 16 = .ok (.aload_n 0, 1) := by decide +kernel
theorem d_Lk_init_17 : decode b_Lk_init 17 = .ok (.iload_n 3, 1) := by decide +kernel
theorem d_Lk_init_18 : decode b_Lk_init 18 = .ok (.putfield 16, 3) := by decide +kernel
theorem d_Lk_init_21 : decode b_Lk_init 21 = .ok (.return_, 1) := by decide +kernel
/-! the instructions of Tp -/
theorem d_Tp_init_0 : decode b_Tp_init 0 = .ok (.aload_n 0, 1) := by decide +kernel
theorem d_Tp_init_1 : decode b_Tp_init 1 = .ok (.invokespecial 3, 3) := by decide +kernel
theorem d_Tp_init_4 : decode b_Tp_init 4 = .ok (.aload_n 0, 1) := by decide +kernel
theorem d_Tp_init_5 : decode b_Tp_init 5 = .ok (.bipush 24, 2) := by decide +kernel
theorem d_Tp_init_7 : decode b_Tp_init 7 = .ok (.newarray .byte, 2) := by decide +kernel
theorem d_Tp_init_9 : decode b_Tp_init 9 = .ok (.putfield 9, 3) := by decide +kernel
theorem d_Tp_init_12 : decode b_Tp_init 12 = .ok (.return_, 1) := by decide +kernel
theorem d_Tp_append_0 : decode b_Tp_append 0 = .ok (.iload_n 3, 1) := by decide +kernel
theorem d_Tp_append_1 : decode b_Tp_append 1 = .ok (.iconst 1, 1) := by decide +kernel
theorem d_Tp_append_2 : decode b_Tp_append 2 = .ok (.if_icmp .lt 23, 3) := by decide +kernel
theorem d_Tp_append_5 : decode b_Tp_append 5 = .ok (.iload_n 3, 1) := by decide +kernel
theorem d_Tp_append_6 : decode b_Tp_append 6 = .ok (.bipush 8, 2) := by decide +kernel
theorem d_Tp_append_8 : decode b_Tp_append 8 = .ok (.if_icmp .gt 17, 3) := by decide +kernel
theorem d_Tp_append_11 : decode b_Tp_append 11 = .ok (.aload_n 0, 1) := by decide +kernel
theorem d_Tp_append_12 : decode b_Tp_append 12 = .ok (.getfield 15, 3) := by decide +kernel
theorem d_Tp_append_15 : decode b_Tp_append 15 = .ok (.iload_n 3, 1) := by decide +kernel
theorem d_Tp_append_16 : decode b_Tp_append 16 = .ok (.iadd, 1) := by decide +kernel
theorem d_Tp_append_17 : decode b_Tp_append 17 = .ok (.aload_n 0, 1) := by decide +kernel
theorem d_Tp_append_18 : decode b_Tp_append 18 = .ok (.getfield 9, 3) := by decide +kernel
theorem d_Tp_append_21 : decode b_Tp_append 21 = .ok (.arraylength, 1) := by decide +kernel
theorem d_Tp_append_22 : decode b_Tp_append 22 = .ok (.if_icmp .le 5, 3) := by decide +kernel
theorem d_Tp_append_25 : decode b_Tp_append 25 = .ok (.iconst 0, 1) := by decide +kernel
theorem d_Tp_append_26 : decode b_Tp_append 26 = .ok (.ireturn, 1) := by decide +kernel
theorem d_Tp_append_27 : decode b_Tp_append 27 = .ok (.iconst 0, 1) := by decide +kernel
theorem d_Tp_append_28 : decode b_Tp_append 28 = .ok (.istore 4, 2) := by decide +kernel
theorem d_Tp_append_30 : decode b_Tp_append 30 = .ok (.iload 4, 2) := by decide +kernel
theorem d_Tp_append_32 : decode b_Tp_append 32 = .ok (.iload_n 3, 1) := by decide +kernel
theorem d_Tp_append_33 : decode b_Tp_append 33 = .ok (.if_icmp .ge 33, 3) := by decide +kernel
theorem d_Tp_append_36 : decode b_Tp_append 36 = .ok (.lload_n 1, 1) := by decide +kernel
theorem d_Tp_append_37 : decode b_Tp_append 37 = .ok (.iload 4, 2) := by decide +kernel
theorem d_Tp_append_39 : decode b_Tp_append 39 = .ok (.invokestatic 19, 3) := by decide +kernel
theorem d_Tp_append_42 : decode b_Tp_append 42 = .ok (.bipush 32, 2) := by decide +kernel
theorem d_Tp_append_44 : decode b_Tp_append 44 = .ok (.if_icmp .lt 14, 3) := by decide +kernel
theorem d_Tp_append_47 : decode b_Tp_append 47 = .ok (.lload_n 1, 1) := by decide +kernel
theorem d_Tp_append_48 : decode b_Tp_append 48 = .ok (.iload 4, 2) := by decide +kernel
theorem d_Tp_append_50 : decode b_Tp_append 50 = .ok (.invokestatic 19, 3) := by decide +kernel
theorem d_Tp_append_53 : decode b_Tp_append 53 = .ok (.bipush 126, 2) := by decide +kernel
theorem d_Tp_append_55 : decode b_Tp_append 55 = .ok (.if_icmp .le 5, 3) := by decide +kernel
theorem d_Tp_append_58 : decode b_Tp_append 58 = .ok (.iconst 0, 1) := by decide +kernel
theorem d_Tp_append_59 : decode b_Tp_append 59 = .ok (.ireturn, 1) := by decide +kernel
theorem d_Tp_append_60 : decode b_Tp_append 60 = .ok (.iinc 4 1, 3) := by decide +kernel
theorem d_Tp_append_63 : decode b_Tp_append 63 = .ok (.goto (-33), 3) := by decide +kernel
theorem d_Tp_append_66 : decode b_Tp_append 66 = .ok (.iload_n 3, 1) := by decide +kernel
theorem d_Tp_append_67 : decode b_Tp_append 67 = .ok (.iconst 1, 1) := by decide +kernel
theorem d_Tp_append_68 : decode b_Tp_append 68 = .ok (.isub, 1) := by decide +kernel
theorem d_Tp_append_69 : decode b_Tp_append 69 = .ok (.istore 4, 2) := by decide +kernel
theorem d_Tp_append_71 : decode b_Tp_append 71 = .ok (.iload 4, 2) := by decide +kernel
theorem d_Tp_append_73 : decode b_Tp_append 73 = .ok (.ifCond .lt 35, 3) := by decide +kernel
theorem d_Tp_append_76 : decode b_Tp_append 76 = .ok (.aload_n 0, 1) := by decide +kernel
theorem d_Tp_append_77 : decode b_Tp_append 77 = .ok (.getfield 9, 3) := by decide +kernel
theorem d_Tp_append_80 : decode b_Tp_append 80 = .ok (.aload_n 0, 1) := by decide +kernel
theorem d_Tp_append_81 : decode b_Tp_append 81 = .ok (.getfield 15, 3) := by decide +kernel
theorem d_Tp_append_84 : decode b_Tp_append 84 = .ok (.lload_n 1, 1) := by decide +kernel
theorem d_Tp_append_85 : decode b_Tp_append 85 = .ok (.iload 4, 2) := by decide +kernel
theorem d_Tp_append_87 : decode b_Tp_append 87 = .ok (.invokestatic 19, 3) := by decide +kernel
theorem d_Tp_append_90 : decode b_Tp_append 90 = .ok (.i2b, 1) := by decide +kernel
theorem d_Tp_append_91 : decode b_Tp_append 91 = .ok (.bastore, 1) := by decide +kernel
theorem d_Tp_append_92 : decode b_Tp_append 92 = .ok (.aload_n 0, 1) := by decide +kernel
theorem d_Tp_append_93 : decode b_Tp_append 93 = .ok (.dup, 1) := by decide +kernel
theorem d_Tp_append_94 : decode b_Tp_append 94 = .ok (.getfield 15, 3) := by decide +kernel
theorem d_Tp_append_97 : decode b_Tp_append 97 = .ok (.iconst 1, 1) := by decide +kernel
theorem d_Tp_append_98 : decode b_Tp_append 98 = .ok (.iadd, 1) := by decide +kernel
theorem d_Tp_append_99 : decode b_Tp_append 99 = .ok (.putfield 15, 3) := by decide +kernel
theorem d_Tp_append_102 : decode b_Tp_append 102 = .ok (.iinc 4 (-1), 3) := by decide +kernel
theorem d_Tp_append_105 : decode b_Tp_append 105 = .ok (.goto (-34), 3) := by decide +kernel
theorem d_Tp_append_108 : decode b_Tp_append 108 = .ok (.iconst 1, 1) := by decide +kernel
theorem d_Tp_append_109 : decode b_Tp_append 109 = .ok (.ireturn, 1) := by decide +kernel
theorem d_Tp_pull_0 : decode b_Tp_pull 0 = .ok (.aload_n 0, 1) := by decide +kernel
theorem d_Tp_pull_1 : decode b_Tp_pull 1 = .ok (.getfield 15, 3) := by decide +kernel
theorem d_Tp_pull_4 : decode b_Tp_pull 4 = .ok (.newarray .byte, 2) := by decide +kernel
theorem d_Tp_pull_6 : decode b_Tp_pull 6 = .ok (.astore_n 1, 1) := by decide +kernel
theorem d_Tp_pull_7 : decode b_Tp_pull 7 = .ok (.iconst 0, 1) := by decide +kernel
theorem d_Tp_pull_8 : decode b_Tp_pull 8 = .ok (.istore_n 2, 1) := by decide +kernel
theorem d_Tp_pull_9 : decode b_Tp_pull 9 = .ok (.iload_n 2, 1) := by decide +kernel
theorem d_Tp_pull_10 : decode b_Tp_pull 10 = .ok (.aload_n 0, 1) := by decide +kernel
theorem d_Tp_pull_11 : decode b_Tp_pull 11 = .ok (.getfield 15, 3) := by decide +kernel
theorem d_Tp_pull_14 : decode b_Tp_pull 14 = .ok (.if_icmp .ge 18, 3) := by decide +kernel
theorem d_Tp_pull_17 : decode b_Tp_pull 17 = .ok (.aload_n 1, 1) := by decide +kernel
theorem d_Tp_pull_18 : decode b_Tp_pull 18 = .ok (.iload_n 2, 1) := by decide +kernel
theorem d_Tp_pull_19 : decode b_Tp_pull 19 = .ok (.aload_n 0, 1) := by decide +kernel
theorem d_Tp_pull_20 : decode b_Tp_pull 20 = .ok (.getfield 9, 3) := by decide +kernel
theorem d_Tp_pull_23 : decode b_Tp_pull 23 = .ok (.iload_n 2, 1) := by decide +kernel
theorem d_Tp_pull_24 : decode b_Tp_pull 24 = .ok (.baload, 1) := by decide +kernel
theorem d_Tp_pull_25 : decode b_Tp_pull 25 = .ok (.bastore, 1) := by decide +kernel
theorem d_Tp_pull_26 : decode b_Tp_pull 26 = .ok (.iinc 2 1, 3) := by decide +kernel
theorem d_Tp_pull_29 : decode b_Tp_pull 29 = .ok (.goto (-20), 3) := by decide +kernel
theorem d_Tp_pull_32 : decode b_Tp_pull 32 = .ok (.aload_n 0, 1) := by decide +kernel
theorem d_Tp_pull_33 : decode b_Tp_pull 33 = .ok (.iconst 0, 1) := by decide +kernel
theorem d_Tp_pull_34 : decode b_Tp_pull 34 = .ok (.putfield 15, 3) := by decide +kernel
theorem d_Tp_pull_37 : decode b_Tp_pull 37 = .ok (.aload_n 1, 1) := by decide +kernel
theorem d_Tp_pull_38 : decode b_Tp_pull 38 = .ok (.areturn, 1) := by decide +kernel
theorem d_Tp_byteOf_0 : decode b_Tp_byteOf 0 = .ok (.lload_n 0, 1) := by decide +kernel
theorem d_Tp_byteOf_1 : decode b_Tp_byteOf 1 = .ok (.bipush 8, 2) := by decide +kernel
theorem d_Tp_byteOf_3 : decode b_Tp_byteOf 3 = .ok (.iload_n 2, 1) := by decide +kernel
theorem d_Tp_byteOf_4 : decode b_Tp_byteOf 4 = .ok (.imul, 1) := by decide +kernel
theorem d_Tp_byteOf_5 : decode b_Tp_byteOf 5 = .ok (.lushr, 1) := by decide +kernel
theorem d_Tp_byteOf_6 : decode b_Tp_byteOf 6 = .ok (.l2i, 1) := by decide +kernel
theorem d_Tp_byteOf_7 : decode b_Tp_byteOf 7 = .ok (.sipush 255, 3) := by decide +kernel
theorem d_Tp_byteOf_10 : decode b_Tp_byteOf 10 = .ok (.iand, 1) := by decide +kernel
theorem d_Tp_byteOf_11 : decode b_Tp_byteOf 11 = .ok (.ireturn, 1) := by decide +kernel
