theorem d_Model_back_1 : decode b_Model_back 1 = .ok (.getfield 59, 3) := by decide +kernel
theorem d_Model_back_4 : decode b_Model_back 4 = .ok (.ifCond .le 9, 3) := by decide +kernel
theorem d_Model_back_7 : decode b_Model_back 7 = .ok (.aload_n 0, 1) := by decide +kernel
theorem d_Model_back_8 : decode b_Model_back 8 = .ok (.iconst 1, 1) := by decide +kernel
theorem d_Model_back_9 : decode b_Model_back 9 = .ok (.iconst 0, 1) := by decide +kernel
theorem d_Model_back_10 : decode b_Model_back 10 = .ok (.invokevirtual 72, 3) := by decide +kernel
theorem d_Model_back_13 : decode b_Model_back 13 = .ok (.aload_n 0, 1) := by decide +kernel
theorem d_Model_back_14 : decode b_Model_back 14 = .ok (.invokevirtual 75, 3) := by decide +kernel
theorem d_Model_back_17 : decode b_Model_back 17 = .ok (.return_, 1) := by decide +kernel
theorem d_Model_write_0 : decode b_Model_write 0 = .ok (.aload_n 0, 1) := by decide +kernel
theorem d_Model_write_1 : decode b_Model_write 1 = .ok (.getfield 78, 3) := by decide +kernel
theorem d_Model_write_4 : decode b_Model_write 4 = .ok (.iconst 1, 1) := by decide +kernel
theorem d_Model_write_5 : decode b_Model_write 5 = .ok (.if_icmp .ne 33, 3) := by decide +kernel
theorem d_Model_write_8 : decode b_Model_write 8 = .ok (.aload_n 0, 1) := by decide +kernel
theorem d_Model_write_9 : decode b_Model_write 9 = .ok (.iconst 1, 1) := by decide +kernel
theorem d_Model_write_10 : decode b_Model_write 10 = .ok (.putfield 62, 3) := by decide +kernel
theorem d_Model_write_13 : decode b_Model_write 13 = .ok (.aload_n 0, 1) := by decide +kernel
theorem d_Model_write_14 : decode b_Model_write 14 = .ok (.iconst 0, 1) := by decide +kernel
theorem d_Model_write_15 : decode b_Model_write 15 = .ok (.putfield 78, 3) := by decide +kernel
theorem d_Model_write_18 : decode b_Model_write 18 = .ok (.aload_n 0, 1) := by decide +kernel
theorem d_Model_write_19 : decode b_Model_write 19 = .ok (.iconst 0, 1) := by decide +kernel
theorem d_Model_write_20 : decode b_Model_write 20 = .ok (.putfield 81, 3) := by decide +kernel
theorem d_Model_write_23 : decode b_Model_write 23 = .ok (.aload_n 0, 1) := by decide +kernel
theorem d_Model_write_24 : decode b_Model_write 24 = .ok (.iconst 0, 1) := by decide +kernel
theorem d_Model_write_25 : decode b_Model_write 25 = .ok (.putfield 66, 3) := by decide +kernel
theorem d_Model_write_28 : decode b_Model_write 28 = .ok (.aload_n 0, 1) := by decide +kernel
theorem d_Model_write_29 : decode b_Model_write 29 = .ok (.invokevirtual 75, 3) := by decide +kernel
theorem d_Model_write_32 : decode b_Model_write 32 = .ok (.aload_n 0, 1) := by decide +kernel
theorem d_Model_write_33 : decode b_Model_write 33 = .ok (.invokevirtual 84, 3) := by decide +kernel
theorem d_Model_write_36 : decode b_Model_write 36 = .ok (.iconst 0, 1) := by decide +kernel
theorem d_Model_write_37 : decode b_Model_write 37 = .ok (.ireturn, 1) := by decide +kernel
theorem d_Model_write_38 : decode b_Model_write 38 = .ok (.aload_n 0, 1) := by decide +kernel
theorem d_Model_write_39 : decode b_Model_write 39 = .ok (.dup, 1) := by decide +kernel
theorem d_Model_write_40 : decode b_Model_write 40 = .ok (.getfield 78, 3) := by decide +kernel
theorem d_Model_write_43 : decode b_Model_write 43 = .ok (.aload_n 0, 1) := by decide +kernel
theorem d_Model_write_44 : decode b_Model_write 44 = .ok (.getfield 78, 3) := by decide +kernel
theorem d_Model_write_47 : decode b_Model_write 47 = .ok (.ifCond .le 7, 3) := by decide +kernel
theorem d_Model_write_50 : decode b_Model_write 50 = .ok (.iconst 1, 1) := by decide +kernel
theorem d_Model_write_51 : decode b_Model_write 51 = .ok (.goto 4, 3) := by decide +kernel
theorem d_Model_write_54 : decode b_Model_write 54 = .ok (.iconst 0, 1) := by decide +kernel
theorem d_Model_write_55 : decode b_Model_write 55 = .ok (.isub, 1) := by decide +kernel
theorem d_Model_write_56 : decode b_Model_write 56 = .ok (.putfield 78, 3) := by decide +kernel
theorem d_Model_write_59 : decode b_Model_write 59 = .ok (.aload_n 0, 1) := by decide +kernel
theorem d_Model_write_60 : decode b_Model_write 60 = .ok (.dup, 1) := by decide +kernel
theorem d_Model_write_61 : decode b_Model_write 61 = .ok (.getfield 87, 3) := by decide +kernel
theorem d_Model_write_64 : decode b_Model_write 64 = .ok (.iconst 1, 1) := by decide +kernel
theorem d_Model_write_65 : decode b_Model_write 65 = .ok (.iadd, 1) := by decide +kernel
theorem d_Model_write_66 : decode b_Model_write 66 = .ok (.putfield 87, 3) := by decide +kernel
theorem d_Model_write_69 : decode b_Model_write 69 = .ok (.iconst 1, 1) := by decide +kernel
theorem d_Model_write_70 : decode b_Model_write 70 = .ok (.ireturn, 1) := by decide +kernel
theorem d_Model_log_0 : decode b_Model_log 0 = .ok (.iconst 0, 1) := by decide +kernel
theorem d_Model_log_1 : decode b_Model_log 1 = .ok (.istore_n 2, 1) := by decide +kernel
theorem d_Model_log_2 : decode b_Model_log 2 = .ok (.iload_n 2, 1) := by decide +kernel
theorem d_Model_log_3 : decode b_Model_log 3 = .ok (.iload_n 1, 1) := by decide +kernel
theorem d_Model_log_4 : decode b_Model_log 4 = .ok (.if_icmp .ge 28, 3) := by decide +kernel
theorem d_Model_log_7 : decode b_Model_log 7 = .ok (.aload_n 0, 1) := by decide +kernel
theorem d_Model_log_8 : decode b_Model_log 8 = .ok (.invokevirtual 90, 3) := by decide +kernel
theorem d_Model_log_11 : decode b_Model_log 11 = .ok (.ifCond .ne 5, 3) := by decide +kernel
theorem d_Model_log_14 : decode b_Model_log 14 = .ok (.iconst 0, 1) := by decide +kernel
theorem d_Model_log_15 : decode b_Model_log 15 = .ok (.ireturn, 1) := by decide +kernel
theorem d_Model_log_16 : decode b_Model_log 16 = .ok (.aload_n 0, 1) := by decide +kernel
theorem d_Model_log_17 : decode b_Model_log 17 = .ok (.dup, 1) := by decide +kernel
theorem d_Model_log_18 : decode b_Model_log 18 = .ok (.getfield 94, 3) := by decide +kernel
theorem d_Model_log_21 : decode b_Model_log 21 = .ok (.iconst 1, 1) := by decide +kernel
theorem d_Model_log_22 : decode b_Model_log 22 = .ok (.iadd, 1) := by decide +kernel
theorem d_Model_log_23 : decode b_Model_log 23 = .ok (.putfield 94, 3) := by decide +kernel
theorem d_Model_log_26 : decode b_Model_log 26 = .ok (.iinc 2 1, 3) := by decide +kernel
theorem d_Model_log_29 : decode b_Model_log 29 = .ok (.goto (-27), 3) := by decide +kernel
theorem d_Model_log_32 : decode b_Model_log 32 = .ok (.aload_n 0, 1) := by decide +kernel
theorem d_Model_log_33 : decode b_Model_log 33 = .ok (.invokevirtual 90, 3) := by decide +kernel
theorem d_Model_log_36 : decode b_Model_log 36 = .ok (.ifCond .ne 5, 3) := by decide +kernel
theorem d_Model_log_39 : decode b_Model_log 39 = .ok (.iconst 0, 1) := by decide +kernel
theorem d_Model_log_40 : decode b_Model_log 40 = .ok (.ireturn, 1) := by decide +kernel
theorem d_Model_log_41 : decode b_Model_log 41 = .ok (.aload_n 0, 1) := by decide +kernel
theorem d_Model_log_42 : decode b_Model_log 42 = .ok (.iconst 0, 1) := by decide +kernel
theorem d_Model_log_43 : decode b_Model_log 43 = .ok (.putfield 94, 3) := by decide +kernel
theorem d_Model_log_46 : decode b_Model_log 46 = .ok (.aload_n 0, 1) := by decide +kernel
theorem d_Model_log_47 : decode b_Model_log 47 = .ok (.dup, 1) := by decide +kernel
theorem d_Model_log_48 : decode b_Model_log 48 = .ok (.getfield 97, 3) := by decide +kernel
theorem d_Model_log_51 : decode b_Model_log 51 = .ok (.iload_n 1, 1) := by decide +kernel
theorem d_Model_log_52 : decode b_Model_log 52 = .ok (.iconst 1, 1) := by decide +kernel
theorem d_Model_log_53 : decode b_Model_log 53 = .ok (.iadd, 1) := by decide +kernel
theorem d_Model_log_54 : decode b_Model_log 54 = .ok (.iadd, 1) := by decide +kernel
theorem d_Model_log_55 : decode b_Model_log 55 = .ok (.putfield 97, 3) := by decide +kernel
theorem d_Model_log_58 : decode b_Model_log 58 = .ok (.aload_n 0, 1) := by decide +kernel
theorem d_Model_log_59 : decode b_Model_log 59 = .ok (.dup, 1) := by decide +kernel
theorem d_Model_log_60 : decode b_Model_log 60 = .ok (.getfield 100, 3) := by decide +kernel
theorem d_Model_log_63 : decode b_Model_log 63 = .ok (.iconst 1, 1) := by decide +kernel
theorem d_Model_log_64 : decode b_Model_log 64 = .ok (.iadd, 1) := by decide +kernel
theorem d_Model_log_65 : decode b_Model_log 65 = .ok (.putfield 100, 3) := by decide +kernel
theorem d_Model_log_68 : decode b_Model_log 68 = .ok (.aload_n 0, 1) := by decide +kernel
theorem d_Model_log_69 : decode b_Model_log 69 = .ok (.iconst 0, 1) := by decide +kernel
theorem d_Model_log_70 : decode b_Model_log 70 = .ok (.iconst 3, 1) := by decide +kernel
theorem d_Model_log_71 : decode b_Model_log 71 = .ok (.invokevirtual 72, 3) := by decide +kernel
theorem d_Model_log_74 : decode b_Model_log 74 = .ok (.iconst 1, 1) := by decide +kernel
theorem d_Model_log_75 : decode b_Model_log 75 = .ok (.ireturn, 1) := by decide +kernel
theorem d_Model_fits_0 : decode b_Model_fits 0 = .ok (.aload_n 0, 1) := by decide +kernel
theorem d_Model_fits_1 : decode b_Model_fits 1 = .ok (.getfield 97, 3) := by decide +kernel
theorem d_Model_fits_4 : decode b_Model_fits 4 = .ok (.iload_n 1, 1) := by decide +kernel
theorem d_Model_fits_5 : decode b_Model_fits 5 = .ok (.iadd, 1) := by decide +kernel
theorem d_Model_fits_6 : decode b_Model_fits 6 = .ok (.iconst 1, 1) := by decide +kernel
theorem d_Model_fits_7 : decode b_Model_fits 7 = .ok (.iadd, 1) := by decide +kernel
theorem d_Model_fits_8 : decode b_Model_fits 8 = .ok (.sipush 250, 3) := by decide +kernel
theorem d_Model_fits_11 : decode b_Model_fits 11 = .ok (.if_icmp .gt 7, 3) := by decide +kernel
theorem d_Model_fits_14 : decode b_Model_fits 14 = .ok (.iconst 1, 1) := by decide +kernel
theorem d_Model_fits_15 : decode b_Model_fits 15 = .ok (.goto 4, 3) := by decide +kernel
theorem d_Model_fits_18 : decode b_Model_fits 18 = .ok (.iconst 0, 1) := by decide +kernel
theorem d_Model_fits_19 : decode b_Model_fits 19 = .ok (.ireturn, 1) := by decide +kernel
theorem d_Model_type_0 : decode b_Model_type 0 = .ok (.aload_n 0, 1) := by decide +kernel
theorem d_Model_type_1 : decode b_Model_type 1 = .ok (.iconst 0, 1) := by decide +kernel
theorem d_Model_type_2 : decode b_Model_type 2 = .ok (.putfield 51, 3) := by decide +kernel
theorem d_Model_type_5 : decode b_Model_type 5 = .ok (.iload_n 3, 1) := by decide +kernel
theorem d_Model_type_6 : decode b_Model_type 6 = .ok (.ifCond .le 24, 3) := by decide +kernel
theorem d_Model_type_9 : decode b_Model_type 9 = .ok (.iload_n 3, 1) := by decide +kernel
theorem d_Model_type_10 : decode b_Model_type 10 = .ok (.bipush 9, 2) := by decide +kernel
theorem d_Model_type_12 : decode b_Model_type 12 = .ok (.if_icmp .ge 18, 3) := by decide +kernel
theorem d_Model_type_15 : decode b_Model_type 15 = .ok (.aload_n 0, 1) := by decide +kernel
theorem d_Model_type_16 : decode b_Model_type 16 = .ok (.getfield 103, 3) := by decide +kernel
theorem d_Model_type_19 : decode b_Model_type 19 = .ok (.iload_n 3, 1) := by decide +kernel
theorem d_Model_type_20 : decode b_Model_type 20 = .ok (.iadd, 1) := by decide +kernel
theorem d_Model_type_21 : decode b_Model_type 21 = .ok (.bipush 25, 2) := by decide +kernel
theorem d_Model_type_23 : decode b_Model_type 23 = .ok (.if_icmp .ge 7, 3) := by decide +kernel
theorem d_Model_type_26 : decode b_Model_type 26 = .ok (.iconst 1, 1) := by decide +kernel
theorem d_Model_type_27 : decode b_Model_type 27 = .ok (.goto 4, 3) := by decide +kernel
theorem d_Model_type_30 : decode b_Model_type 30 = .ok (.iconst 0, 1) := by decide +kernel
theorem d_Model_type_31 : decode b_Model_type 31 = .ok (.istore 4, 2) := by decide +kernel
theorem d_Model_type_33 : decode b_Model_type 33 = .ok (.iconst 0, 1) := by decide +kernel
theorem d_Model_type_34 : decode b_Model_type 34 = .ok (.istore 5, 2) := by decide +kernel
theorem d_Model_type_36 : decode b_Model_type 36 = .ok (.iload 5, 2) := by decide +kernel
theorem d_Model_type_38 : decode b_Model_type 38 = .ok (.iload_n 3, 1) := by decide +kernel
theorem d_Model_type_39 : decode b_Model_type 39 = .ok (.if_icmp .ge 52, 3) := by decide +kernel
theorem d_Model_type_42 : decode b_Model_type 42 = .ok (.iload 4, 2) := by decide +kernel
theorem d_Model_type_44 : decode b_Model_type 44 = .ok (.ifCond .eq 47, 3) := by decide +kernel
theorem d_Model_type_47 : decode b_Model_type 47 = .ok (.lload_n 1, 1) := by decide +kernel
theorem d_Model_type_48 : decode b_Model_type 48 = .ok (.bipush 8, 2) := by decide +kernel
theorem d_Model_type_50 : decode b_Model_type 50 = .ok (.iload 5, 2) := by decide +kernel
theorem d_Model_type_52 : decode b_Model_type 52 = .ok (.imul, 1) := by decide +kernel
theorem d_Model_type_53 : decode b_Model_type 53 = .ok (.lshr, 1) := by decide +kernel
theorem d_Model_type_54 : decode b_Model_type 54 = .ok (.ldc2_w 106, 3) := by decide +kernel
theorem d_Model_type_57 : decode b_Model_type 57 = .ok (.land, 1) := by decide +kernel
theorem d_Model_type_58 : decode b_Model_type 58 = .ok (.lstore 6, 2) := by decide +kernel
theorem d_Model_type_60 : decode b_Model_type 60 = .ok (.lload 6, 2) := by decide +kernel
theorem d_Model_type_62 : decode b_Model_type 62 = .ok (.ldc2_w 108, 3) := by decide +kernel
theorem d_Model_type_65 : decode b_Model_type 65 = .ok (.lcmp, 1) := by decide +kernel
theorem d_Model_type_66 : decode b_Model_type 66 = .ok (.ifCond .le 16, 3) := by decide +kernel
theorem d_Model_type_69 : decode b_Model_type 69 = .ok (.lload 6, 2) := by decide +kernel
theorem d_Model_type_71 : decode b_Model_type 71 = .ok (.ldc2_w 110, 3) := by decide +kernel
theorem d_Model_type_74 : decode b_Model_type 74 = .ok (.lcmp, 1) := by decide +kernel
theorem d_Model_type_75 : decode b_Model_type 75 = .ok (.ifCond .ge 7, 3) := by decide +kernel
theorem d_Model_type_78 : decode b_Model_type 78 = .ok (.iconst 1, 1) := by decide +kernel
theorem d_Model_type_79 : decode b_Model_type 79 = .ok (.goto 4, 3) := by decide +kernel
theorem d_Model_type_82 : decode b_Model_type 82 = .ok (.iconst 0, 1) := by decide +kernel
theorem d_Model_type_83 : decode b_Model_type 83 = .ok (.istore 4, 2) := by decide +kernel
theorem d_Model_type_85 : decode b_Model_type 85 = .ok (.iinc 5 1, 3) := by decide +kernel
theorem d_Model_type_88 : decode b_Model_type 88 = .ok (.goto (-52), 3) := by decide +kernel
theorem d_Model_type_91 : decode b_Model_type 91 = .ok (.iload_n 3, 1) := by decide +kernel
theorem d_Model_type_92 : decode b_Model_type 92 = .ok (.iconst 1, 1) := by decide +kernel
theorem d_Model_type_93 : decode b_Model_type 93 = .ok (.isub, 1) := by decide +kernel
theorem d_Model_type_94 : decode b_Model_type 94 = .ok (.istore 5, 2) := by decide +kernel
theorem d_Model_type_96 : decode b_Model_type 96 = .ok (.iload 5, 2) := by decide +kernel
theorem d_Model_type_98 : decode b_Model_type 98 = .ok (.ifCond .lt 95, 3) := by decide +kernel
theorem d_Model_type_101 : decode b_Model_type 101 = .ok (.iload 4, 2) := by decide +kernel
theorem d_Model_type_103 : decode b_Model_type 103 = .ok (.ifCond .eq 90, 3) := by decide +kernel
theorem d_Model_type_106 : decode b_Model_type 106 = .ok (.aload_n 0, 1) := by decide +kernel
theorem d_Model_type_107 : decode b_Model_type 107 = .ok (.getfield 103, 3) := by decide +kernel
theorem d_Model_type_110 : decode b_Model_type 110 = .ok (.istore 6, 2) := by decide +kernel
theorem d_Model_type_112 : decode b_Model_type 112 = .ok (.aload_n 0, 1) := by decide +kernel
theorem d_Model_type_113 : decode b_Model_type 113 = .ok (.getfield 48, 3) := by decide +kernel
theorem d_Model_type_116 : decode b_Model_type 116 = .ok (.iload 6, 2) := by decide +kernel
theorem d_Model_type_118 : decode b_Model_type 118 = .ok (.bipush 8, 2) := by decide +kernel
theorem d_Model_type_120 : decode b_Model_type 120 = .ok (.idiv, 1) := by decide +kernel
theorem d_Model_type_121 : decode b_Model_type 121 = .ok (.iload 6, 2) := by decide +kernel
theorem d_Model_type_123 : decode b_Model_type 123 = .ok (.bipush 8, 2) := by decide +kernel
theorem d_Model_type_125 : decode b_Model_type 125 = .ok (.irem, 1) := by decide +kernel
theorem d_Model_type_126 : decode b_Model_type 126 = .ok (.ifCond .ne 7, 3) := by decide +kernel
theorem d_Model_type_129 : decode b_Model_type 129 = .ok (.lconst 0, 1) := by decide +kernel
theorem d_Model_type_130 : decode b_Model_type 130 = .ok (.goto 13, 3) := by decide +kernel
theorem d_Model_type_133 : decode b_Model_type 133 = .ok (.aload_n 0, 1) := by decide +kernel
theorem d_Model_type_134 : decode b_Model_type 134 = .ok (.getfield 48, 3) := by decide +kernel
theorem d_Model_type_137 : decode b_Model_type 137 = .ok (.iload 6, 2) := by decide +kernel
theorem d_Model_type_139 : decode b_Model_type 139 = .ok (.bipush 8, 2) := by decide +kernel
theorem d_Model_type_141 : decode b_Model_type 141 = .ok (.idiv, 1) := by decide +kernel
theorem d_Model_type_142 : decode b_Model_type 142 = .ok (.laload, 1) := by decide +kernel
theorem d_Model_type_143 : decode b_Model_type 143 = .ok (.lastore, 1) := by decide +kernel
theorem d_Model_type_144 : decode b_Model_type 144 = .ok (.aload_n 0, 1) := by decide +kernel
theorem d_Model_type_145 : decode b_Model_type 145 = .ok (.getfield 48, 3) := by decide +kernel
theorem d_Model_type_148 : decode b_Model_type 148 = .ok (.iload 6, 2) := by decide +kernel
theorem d_Model_type_150 : decode b_Model_type 150 = .ok (.bipush 8, 2) := by decide +kernel
theorem d_Model_type_152 : decode b_Model_type 152 = .ok (.idiv, 1) := by decide +kernel
theorem d_Model_type_153 : decode b_Model_type 153 = .ok (.dup2, 1) := by decide +kernel
theorem d_Model_type_154 : decode b_Model_type 154 = .ok (.laload, 1) := by decide +kernel
theorem d_Model_type_155 : decode b_Model_type 155 = .ok (.lload_n 1, 1) := by decide +kernel
theorem d_Model_type_156 : decode b_Model_type 156 = .ok (.bipush 8, 2) := by decide +kernel
theorem d_Model_type_158 : decode b_Model_type 158 = .ok (.iload 5, 2) := by decide +kernel
theorem d_Model_type_160 : decode b_Model_type 160 = .ok (.imul, 1) := by decide +kernel
theorem d_Model_type_161 : decode b_Model_type 161 = .ok (.lshr, 1) := by decide +kernel
theorem d_Model_type_162 : decode b_Model_type 162 = .ok (.ldc2_w 106, 3) := by decide +kernel
theorem d_Model_type_165 : decode b_Model_type 165 = .ok (.land, 1) := by decide +kernel
theorem d_Model_type_166 : decode b_Model_type 166 = .ok (.bipush 8, 2) := by decide +kernel
theorem d_Model_type_168 : decode b_Model_type 168 = .ok (.iload 6, 2) := by decide +kernel
theorem d_Model_type_170 : decode b_Model_type 170 = .ok (.bipush 8, 2) := by decide +kernel
theorem d_Model_type_172 : decode b_Model_type 172 = .ok (.irem, 1) := by decide +kernel
theorem d_Model_type_173 : decode b_Model_type 173 = .ok (.imul, 1) := by decide +kernel
theorem d_Model_type_174 : decode b_Model_type 174 = .ok (.lshl, 1) := by decide +kernel
theorem d_Model_type_175 : decode b_Model_type 175 = .ok (.lor, 1) := by decide +kernel
theorem d_Model_type_176 : decode b_Model_type 176 = .ok (.lastore, 1) := by decide +kernel
theorem d_Model_type_177 : decode b_Model_type 177 = .ok (.aload_n 0, 1) := by decide +kernel
theorem d_Model_type_178 : decode b_Model_type 178 = .ok (.dup, 1) := by decide +kernel
theorem d_Model_type_179 : decode b_Model_type 179 = .ok (.getfield 103, 3) := by decide +kernel
theorem d_Model_type_182 : decode b_Model_type 182 = .ok (.iconst 1, 1) := by decide +kernel
theorem d_Model_type_183 : decode b_Model_type 183 = .ok (.iadd, 1) := by decide +kernel
theorem d_Model_type_184 : decode b_Model_type 184 = .ok (.putfield 103, 3) := by decide +kernel
theorem d_Model_type_187 : decode b_Model_type 187 = .ok (.iinc 5 (-1), 3) := by decide +kernel
theorem d_Model_type_190 : decode b_Model_type 190 = .ok (.goto (-94), 3) := by decide +kernel
theorem d_Model_type_193 : decode b_Model_type 193 = .ok (.iload 4, 2) := by decide +kernel
theorem d_Model_type_195 : decode b_Model_type 195 = .ok (.ireturn, 1) := by decide +kernel
theorem d_Model_node_0 : decode b_Model_node 0 = .ok (.aload_n 0, 1) := by decide +kernel
theorem d_Model_node_1 : decode b_Model_node 1 = .ok (.iconst 0, 1) := by decide +kernel
theorem d_Model_node_2 : decode b_Model_node 2 = .ok (.bipush 64, 2) := by decide +kernel
theorem d_Model_node_4 : decode b_Model_node 4 = .ok (.invokevirtual 112, 3) := by decide +kernel
theorem d_Model_node_7 : decode b_Model_node 7 = .ok (.istore_n 1, 1) := by decide +kernel
theorem d_Model_node_8 : decode b_Model_node 8 = .ok (.aload_n 0, 1) := by decide +kernel
theorem d_Model_node_9 : decode b_Model_node 9 = .ok (.iconst 0, 1) := by decide +kernel
theorem d_Model_node_10 : decode b_Model_node 10 = .ok (.iconst 0, 1) := by decide +kernel
theorem d_Model_node_11 : decode b_Model_node 11 = .ok (.iconst 0, 1) := by decide +kernel
theorem d_Model_node_12 : decode b_Model_node 12 = .ok (.iload_n 1, 1) := by decide +kernel
theorem d_Model_node_13 : decode b_Model_node 13 = .ok (.ifCond .ge 7, 3) := by decide +kernel
theorem d_Model_node_16 : decode b_Model_node 16 = .ok (.iconst 1, 1) := by decide +kernel
theorem d_Model_node_17 : decode b_Model_node 17 = .ok (.goto 4, 3) := by decide +kernel
theorem d_Model_node_20 : decode b_Model_node 20 = .ok (.iconst 0, 1) := by decide +kernel
theorem d_Model_node_21 : decode b_Model_node 21 = .ok (.iconst 1, 1) := by decide +kernel
theorem d_Model_node_22 : decode b_Model_node 22 = .ok (.invokevirtual 116, 3) := by decide +kernel
theorem d_Model_node_25 : decode b_Model_node 25 = .ok (.ifCond .eq 5, 3) := by decide +kernel
theorem d_Model_node_28 : decode b_Model_node 28 = .ok (.iconst 0, 1) := by decide +kernel
theorem d_Model_node_29 : decode b_Model_node 29 = .ok (.ireturn, 1) := by decide +kernel
theorem d_Model_node_30 : decode b_Model_node 30 = .ok (.aload_n 0, 1) := by decide +kernel
theorem d_Model_node_31 : decode b_Model_node 31 = .ok (.invokevirtual 120, 3) := by decide +kernel
theorem d_Model_node_34 : decode b_Model_node 34 = .ok (.aload_n 0, 1) := by decide +kernel
theorem d_Model_node_35 : decode b_Model_node 35 = .ok (.getfield 7, 3) := by decide +kernel
theorem d_Model_node_38 : decode b_Model_node 38 = .ok (.iload_n 1, 1) := by decide +kernel
theorem d_Model_node_39 : decode b_Model_node 39 = .ok (.iconst 1, 1) := by decide +kernel
theorem d_Model_node_40 : decode b_Model_node 40 = .ok (.bastore, 1) := by decide +kernel
theorem d_Model_node_41 : decode b_Model_node 41 = .ok (.aload_n 0, 1) := by decide +kernel
theorem d_Model_node_42 : decode b_Model_node 42 = .ok (.getfield 23, 3) := by decide +kernel
theorem d_Model_node_45 : decode b_Model_node 45 = .ok (.iload_n 1, 1) := by decide +kernel
theorem d_Model_node_46 : decode b_Model_node 46 = .ok (.iconst 0, 1) := by decide +kernel
theorem d_Model_node_47 : decode b_Model_node 47 = .ok (.iastore, 1) := by decide +kernel
theorem d_Model_node_48 : decode b_Model_node 48 = .ok (.aload_n 0, 1) := by decide +kernel
theorem d_Model_node_49 : decode b_Model_node 49 = .ok (.getfield 29, 3) := by decide +kernel
theorem d_Model_node_52 : decode b_Model_node 52 = .ok (.iload_n 1, 1) := by decide +kernel
