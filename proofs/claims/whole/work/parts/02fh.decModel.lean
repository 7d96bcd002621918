theorem d_Model_chain_23 : decode b_Model_chain 23 = .ok (.istore 5, 2) := by decide +kernel
theorem d_Model_chain_25 : decode b_Model_chain 25 = .ok (.iload 5, 2) := by decide +kernel
theorem d_Model_chain_27 : decode b_Model_chain 27 = .ok (.sipush 160, 3) := by decide +kernel
theorem d_Model_chain_30 : decode b_Model_chain 30 = .ok (.if_icmp .ge 63, 3) := by decide +kernel
theorem d_Model_chain_33 : decode b_Model_chain 33 = .ok (.iload 4, 2) := by decide +kernel
theorem d_Model_chain_35 : decode b_Model_chain 35 = .ok (.ifCond .lt 58, 3) := by decide +kernel
theorem d_Model_chain_38 : decode b_Model_chain 38 = .ok (.aload_n 0, 1) := by decide +kernel
theorem d_Model_chain_39 : decode b_Model_chain 39 = .ok (.getfield 7, 3) := by decide +kernel
theorem d_Model_chain_42 : decode b_Model_chain 42 = .ok (.iload 5, 2) := by decide +kernel
theorem d_Model_chain_44 : decode b_Model_chain 44 = .ok (.baload, 1) := by decide +kernel
theorem d_Model_chain_45 : decode b_Model_chain 45 = .ok (.ifCond .eq 42, 3) := by decide +kernel
theorem d_Model_chain_48 : decode b_Model_chain 48 = .ok (.iload_n 2, 1) := by decide +kernel
theorem d_Model_chain_49 : decode b_Model_chain 49 = .ok (.ifCond .eq 13, 3) := by decide +kernel
theorem d_Model_chain_52 : decode b_Model_chain 52 = .ok (.aload_n 0, 1) := by decide +kernel
theorem d_Model_chain_53 : decode b_Model_chain 53 = .ok (.getfield 13, 3) := by decide +kernel
theorem d_Model_chain_56 : decode b_Model_chain 56 = .ok (.iload 5, 2) := by decide +kernel
theorem d_Model_chain_58 : decode b_Model_chain 58 = .ok (.iaload, 1) := by decide +kernel
theorem d_Model_chain_59 : decode b_Model_chain 59 = .ok (.goto 10, 3) := by decide +kernel
theorem d_Model_chain_62 : decode b_Model_chain 62 = .ok (.aload_n 0, 1) := by decide +kernel
theorem d_Model_chain_63 : decode b_Model_chain 63 = .ok (.getfield 17, 3) := by decide +kernel
theorem d_Model_chain_66 : decode b_Model_chain 66 = .ok (.iload 5, 2) := by decide +kernel
theorem d_Model_chain_68 : decode b_Model_chain 68 = .ok (.iaload, 1) := by decide +kernel
theorem d_Model_chain_69 : decode b_Model_chain 69 = .ok (.iload_n 1, 1) := by decide +kernel
theorem d_Model_chain_70 : decode b_Model_chain 70 = .ok (.if_icmp .ne 17, 3) := by decide +kernel
theorem d_Model_chain_73 : decode b_Model_chain 73 = .ok (.iload 4, 2) := by decide +kernel
theorem d_Model_chain_75 : decode b_Model_chain 75 = .ok (.ifCond .ne 9, 3) := by decide +kernel
theorem d_Model_chain_78 : decode b_Model_chain 78 = .ok (.iload 5, 2) := by decide +kernel
theorem d_Model_chain_80 : decode b_Model_chain 80 = .ok (.bipush 64, 2) := by decide +kernel
theorem d_Model_chain_82 : decode b_Model_chain 82 = .ok (.isub, 1) := by decide +kernel
theorem d_Model_chain_83 : decode b_Model_chain 83 = .ok (.ireturn, 1) := by decide +kernel
theorem d_Model_chain_84 : decode b_Model_chain 84 = .ok (.iinc 4 (-1), 3) := by decide +kernel
theorem d_Model_chain_87 : decode b_Model_chain 87 = .ok (.iinc 5 1, 3) := by decide +kernel
theorem d_Model_chain_90 : decode b_Model_chain 90 = .ok (.goto (-65), 3) := by decide +kernel
theorem d_Model_chain_93 : decode b_Model_chain 93 = .ok (.iconst (-1), 1) := by decide +kernel
theorem d_Model_chain_94 : decode b_Model_chain 94 = .ok (.ireturn, 1) := by decide +kernel
theorem d_Model_has_0 : decode b_Model_has 0 = .ok (.aload_n 0, 1) := by decide +kernel
theorem d_Model_has_1 : decode b_Model_has 1 = .ok (.iconst 0, 1) := by decide +kernel
theorem d_Model_has_2 : decode b_Model_has 2 = .ok (.putfield 51, 3) := by decide +kernel
theorem d_Model_has_5 : decode b_Model_has 5 = .ok (.aload_n 0, 1) := by decide +kernel
theorem d_Model_has_6 : decode b_Model_has 6 = .ok (.iconst 4, 1) := by decide +kernel
theorem d_Model_has_7 : decode b_Model_has 7 = .ok (.iload_n 1, 1) := by decide +kernel
theorem d_Model_has_8 : decode b_Model_has 8 = .ok (.invokevirtual 123, 3) := by decide +kernel
theorem d_Model_has_11 : decode b_Model_has 11 = .ok (.istore_n 3, 1) := by decide +kernel
theorem d_Model_has_12 : decode b_Model_has 12 = .ok (.iload_n 3, 1) := by decide +kernel
theorem d_Model_has_13 : decode b_Model_has 13 = .ok (.ifCond .lt 16, 3) := by decide +kernel
theorem d_Model_has_16 : decode b_Model_has 16 = .ok (.aload_n 0, 1) := by decide +kernel
theorem d_Model_has_17 : decode b_Model_has 17 = .ok (.iload_n 3, 1) := by decide +kernel
theorem d_Model_has_18 : decode b_Model_has 18 = .ok (.iload_n 2, 1) := by decide +kernel
theorem d_Model_has_19 : decode b_Model_has 19 = .ok (.invokevirtual 126, 3) := by decide +kernel
theorem d_Model_has_22 : decode b_Model_has 22 = .ok (.ifCond .eq 7, 3) := by decide +kernel
theorem d_Model_has_25 : decode b_Model_has 25 = .ok (.iconst 1, 1) := by decide +kernel
theorem d_Model_has_26 : decode b_Model_has 26 = .ok (.goto 4, 3) := by decide +kernel
theorem d_Model_has_29 : decode b_Model_has 29 = .ok (.iconst 0, 1) := by decide +kernel
theorem d_Model_has_30 : decode b_Model_has 30 = .ok (.ireturn, 1) := by decide +kernel
theorem d_Model_value_0 : decode b_Model_value 0 = .ok (.aload_n 0, 1) := by decide +kernel
theorem d_Model_value_1 : decode b_Model_value 1 = .ok (.iload_n 1, 1) := by decide +kernel
theorem d_Model_value_2 : decode b_Model_value 2 = .ok (.iload_n 2, 1) := by decide +kernel
theorem d_Model_value_3 : decode b_Model_value 3 = .ok (.invokevirtual 123, 3) := by decide +kernel
theorem d_Model_value_6 : decode b_Model_value 6 = .ok (.istore 5, 2) := by decide +kernel
theorem d_Model_value_8 : decode b_Model_value 8 = .ok (.iload 5, 2) := by decide +kernel
theorem d_Model_value_10 : decode b_Model_value 10 = .ok (.ifCond .ge 7, 3) := by decide +kernel
theorem d_Model_value_13 : decode b_Model_value 13 = .ok (.iconst (-1), 1) := by decide +kernel
theorem d_Model_value_14 : decode b_Model_value 14 = .ok (.goto 10, 3) := by decide +kernel
theorem d_Model_value_17 : decode b_Model_value 17 = .ok (.aload_n 0, 1) := by decide +kernel
theorem d_Model_value_18 : decode b_Model_value 18 = .ok (.iload 5, 2) := by decide +kernel
theorem d_Model_value_20 : decode b_Model_value 20 = .ok (.iload_n 3, 1) := by decide +kernel
theorem d_Model_value_21 : decode b_Model_value 21 = .ok (.invokevirtual 130, 3) := by decide +kernel
theorem d_Model_value_24 : decode b_Model_value 24 = .ok (.istore 6, 2) := by decide +kernel
theorem d_Model_value_26 : decode b_Model_value 26 = .ok (.iload 6, 2) := by decide +kernel
theorem d_Model_value_28 : decode b_Model_value 28 = .ok (.ifCond .lt 37, 3) := by decide +kernel
theorem d_Model_value_31 : decode b_Model_value 31 = .ok (.aload_n 0, 1) := by decide +kernel
theorem d_Model_value_32 : decode b_Model_value 32 = .ok (.getfield 35, 3) := by decide +kernel
theorem d_Model_value_35 : decode b_Model_value 35 = .ok (.iload 6, 2) := by decide +kernel
theorem d_Model_value_37 : decode b_Model_value 37 = .ok (.iaload, 1) := by decide +kernel
theorem d_Model_value_38 : decode b_Model_value 38 = .ok (.iconst 3, 1) := by decide +kernel
theorem d_Model_value_39 : decode b_Model_value 39 = .ok (.if_icmp .ne 26, 3) := by decide +kernel
theorem d_Model_value_42 : decode b_Model_value 42 = .ok (.iload 4, 2) := by decide +kernel
theorem d_Model_value_44 : decode b_Model_value 44 = .ok (.ifCond .lt 21, 3) := by decide +kernel
theorem d_Model_value_47 : decode b_Model_value 47 = .ok (.iload 4, 2) := by decide +kernel
theorem d_Model_value_49 : decode b_Model_value 49 = .ok (.i2l, 1) := by decide +kernel
theorem d_Model_value_50 : decode b_Model_value 50 = .ok (.aload_n 0, 1) := by decide +kernel
theorem d_Model_value_51 : decode b_Model_value 51 = .ok (.getfield 38, 3) := by decide +kernel
theorem d_Model_value_54 : decode b_Model_value 54 = .ok (.iload 6, 2) := by decide +kernel
theorem d_Model_value_56 : decode b_Model_value 56 = .ok (.laload, 1) := by decide +kernel
theorem d_Model_value_57 : decode b_Model_value 57 = .ok (.lcmp, 1) := by decide +kernel
theorem d_Model_value_58 : decode b_Model_value 58 = .ok (.ifCond .ge 7, 3) := by decide +kernel
theorem d_Model_value_61 : decode b_Model_value 61 = .ok (.iconst 1, 1) := by decide +kernel
theorem d_Model_value_62 : decode b_Model_value 62 = .ok (.goto 4, 3) := by decide +kernel
theorem d_Model_value_65 : decode b_Model_value 65 = .ok (.iconst 0, 1) := by decide +kernel
theorem d_Model_value_66 : decode b_Model_value 66 = .ok (.istore 7, 2) := by decide +kernel
theorem d_Model_value_68 : decode b_Model_value 68 = .ok (.iload 4, 2) := by decide +kernel
theorem d_Model_value_70 : decode b_Model_value 70 = .ok (.iconst (-1), 1) := by decide +kernel
theorem d_Model_value_71 : decode b_Model_value 71 = .ok (.if_icmp .ne 16, 3) := by decide +kernel
theorem d_Model_value_74 : decode b_Model_value 74 = .ok (.iload 5, 2) := by decide +kernel
theorem d_Model_value_76 : decode b_Model_value 76 = .ok (.ifCond .lt 7, 3) := by decide +kernel
theorem d_Model_value_79 : decode b_Model_value 79 = .ok (.iconst 1, 1) := by decide +kernel
theorem d_Model_value_80 : decode b_Model_value 80 = .ok (.goto 29, 3) := by decide +kernel
theorem d_Model_value_83 : decode b_Model_value 83 = .ok (.iconst 0, 1) := by decide +kernel
theorem d_Model_value_84 : decode b_Model_value 84 = .ok (.goto 25, 3) := by decide +kernel
theorem d_Model_value_87 : decode b_Model_value 87 = .ok (.iload 4, 2) := by decide +kernel
theorem d_Model_value_89 : decode b_Model_value 89 = .ok (.bipush (-2), 2) := by decide +kernel
theorem d_Model_value_91 : decode b_Model_value 91 = .ok (.if_icmp .ne 16, 3) := by decide +kernel
theorem d_Model_value_94 : decode b_Model_value 94 = .ok (.iload 6, 2) := by decide +kernel
theorem d_Model_value_96 : decode b_Model_value 96 = .ok (.ifCond .lt 7, 3) := by decide +kernel
theorem d_Model_value_99 : decode b_Model_value 99 = .ok (.iconst 1, 1) := by decide +kernel
theorem d_Model_value_100 : decode b_Model_value 100 = .ok (.goto 9, 3) := by decide +kernel
theorem d_Model_value_103 : decode b_Model_value 103 = .ok (.iconst 0, 1) := by decide +kernel
theorem d_Model_value_104 : decode b_Model_value 104 = .ok (.goto 5, 3) := by decide +kernel
theorem d_Model_value_107 : decode b_Model_value 107 = .ok (.iload 7, 2) := by decide +kernel
theorem d_Model_value_109 : decode b_Model_value 109 = .ok (.istore 8, 2) := by decide +kernel
theorem d_Model_value_111 : decode b_Model_value 111 = .ok (.aload_n 0, 1) := by decide +kernel
theorem d_Model_value_112 : decode b_Model_value 112 = .ok (.iload 8, 2) := by decide +kernel
theorem d_Model_value_114 : decode b_Model_value 114 = .ok (.ifCond .eq 7, 3) := by decide +kernel
theorem d_Model_value_117 : decode b_Model_value 117 = .ok (.iconst 0, 1) := by decide +kernel
theorem d_Model_value_118 : decode b_Model_value 118 = .ok (.goto 4, 3) := by decide +kernel
theorem d_Model_value_121 : decode b_Model_value 121 = .ok (.iconst 1, 1) := by decide +kernel
theorem d_Model_value_122 : decode b_Model_value 122 = .ok (.putfield 51, 3) := by decide +kernel
theorem d_Model_value_125 : decode b_Model_value 125 = .ok (.iload 8, 2) := by decide +kernel
theorem d_Model_value_127 : decode b_Model_value 127 = .ok (.ifCond .eq 8, 3) := by decide +kernel
theorem d_Model_value_130 : decode b_Model_value 130 = .ok (.iload 6, 2) := by decide +kernel
theorem d_Model_value_132 : decode b_Model_value 132 = .ok (.ifCond .ge 5, 3) := by decide +kernel
theorem d_Model_value_135 : decode b_Model_value 135 = .ok (.lconst 0, 1) := by decide +kernel
theorem d_Model_value_136 : decode b_Model_value 136 = .ok (.lreturn, 1) := by decide +kernel
theorem d_Model_value_137 : decode b_Model_value 137 = .ok (.iload 4, 2) := by decide +kernel
theorem d_Model_value_139 : decode b_Model_value 139 = .ok (.iconst (-1), 1) := by decide +kernel
theorem d_Model_value_140 : decode b_Model_value 140 = .ok (.if_icmp .ne 14, 3) := by decide +kernel
theorem d_Model_value_143 : decode b_Model_value 143 = .ok (.aload_n 0, 1) := by decide +kernel
theorem d_Model_value_144 : decode b_Model_value 144 = .ok (.getfield 35, 3) := by decide +kernel
theorem d_Model_value_147 : decode b_Model_value 147 = .ok (.iload 6, 2) := by decide +kernel
theorem d_Model_value_149 : decode b_Model_value 149 = .ok (.iaload, 1) := by decide +kernel
theorem d_Model_value_150 : decode b_Model_value 150 = .ok (.i2l, 1) := by decide +kernel
theorem d_Model_value_151 : decode b_Model_value 151 = .ok (.goto 48, 3) := by decide +kernel
theorem d_Model_value_154 : decode b_Model_value 154 = .ok (.iload 4, 2) := by decide +kernel
theorem d_Model_value_156 : decode b_Model_value 156 = .ok (.bipush (-2), 2) := by decide +kernel
theorem d_Model_value_158 : decode b_Model_value 158 = .ok (.if_icmp .ne 13, 3) := by decide +kernel
theorem d_Model_value_161 : decode b_Model_value 161 = .ok (.aload_n 0, 1) := by decide +kernel
theorem d_Model_value_162 : decode b_Model_value 162 = .ok (.getfield 38, 3) := by decide +kernel
theorem d_Model_value_165 : decode b_Model_value 165 = .ok (.iload 6, 2) := by decide +kernel
theorem d_Model_value_167 : decode b_Model_value 167 = .ok (.laload, 1) := by decide +kernel
theorem d_Model_value_168 : decode b_Model_value 168 = .ok (.goto 31, 3) := by decide +kernel
theorem d_Model_value_171 : decode b_Model_value 171 = .ok (.aload_n 0, 1) := by decide +kernel
theorem d_Model_value_172 : decode b_Model_value 172 = .ok (.getfield 42, 3) := by decide +kernel
theorem d_Model_value_175 : decode b_Model_value 175 = .ok (.iconst 3, 1) := by decide +kernel
theorem d_Model_value_176 : decode b_Model_value 176 = .ok (.iload 6, 2) := by decide +kernel
theorem d_Model_value_178 : decode b_Model_value 178 = .ok (.imul, 1) := by decide +kernel
theorem d_Model_value_179 : decode b_Model_value 179 = .ok (.iload 4, 2) := by decide +kernel
theorem d_Model_value_181 : decode b_Model_value 181 = .ok (.bipush 8, 2) := by decide +kernel
theorem d_Model_value_183 : decode b_Model_value 183 = .ok (.idiv, 1) := by decide +kernel
theorem d_Model_value_184 : decode b_Model_value 184 = .ok (.iadd, 1) := by decide +kernel
theorem d_Model_value_185 : decode b_Model_value 185 = .ok (.laload, 1) := by decide +kernel
theorem d_Model_value_186 : decode b_Model_value 186 = .ok (.bipush 8, 2) := by decide +kernel
theorem d_Model_value_188 : decode b_Model_value 188 = .ok (.iload 4, 2) := by decide +kernel
theorem d_Model_value_190 : decode b_Model_value 190 = .ok (.bipush 8, 2) := by decide +kernel
theorem d_Model_value_192 : decode b_Model_value 192 = .ok (.irem, 1) := by decide +kernel
theorem d_Model_value_193 : decode b_Model_value 193 = .ok (.imul, 1) := by decide +kernel
theorem d_Model_value_194 : decode b_Model_value 194 = .ok (.lshr, 1) := by decide +kernel
theorem d_Model_value_195 : decode b_Model_value 195 = .ok (.ldc2_w 106, 3) := by decide +kernel
theorem d_Model_value_198 : decode b_Model_value 198 = .ok (.land, 1) := by decide +kernel
theorem d_Model_value_199 : decode b_Model_value 199 = .ok (.lreturn, 1) := by decide +kernel
theorem d_Model_state_0 : decode b_Model_state 0 = .ok (.aload_n 0, 1) := by decide +kernel
theorem d_Model_state_1 : decode b_Model_state 1 = .ok (.iconst 0, 1) := by decide +kernel
theorem d_Model_state_2 : decode b_Model_state 2 = .ok (.putfield 51, 3) := by decide +kernel
theorem d_Model_state_5 : decode b_Model_state 5 = .ok (.iload_n 1, 1) := by decide +kernel
theorem d_Model_state_6 : decode b_Model_state 6 = .ok (.tableswitch 111 0 6 #[42, 50, 60, 65, 75, 88, 101], 42) := by decide +kernel
theorem d_Model_state_48 : decode b_Model_state 48 = .ok (.aload_n 0, 1) := by decide +kernel
theorem d_Model_state_49 : decode b_Model_state 49 = .ok (.iconst 0, 1) := by decide +kernel
theorem d_Model_state_50 : decode b_Model_state 50 = .ok (.bipush 64, 2) := by decide +kernel
theorem d_Model_state_52 : decode b_Model_state 52 = .ok (.invokevirtual 158, 3) := by decide +kernel
theorem d_Model_state_55 : decode b_Model_state 55 = .ok (.ireturn, 1) := by decide +kernel
theorem d_Model_state_56 : decode b_Model_state 56 = .ok (.aload_n 0, 1) := by decide +kernel
theorem d_Model_state_57 : decode b_Model_state 57 = .ok (.bipush 64, 2) := by decide +kernel
theorem d_Model_state_59 : decode b_Model_state 59 = .ok (.sipush 160, 3) := by decide +kernel
theorem d_Model_state_62 : decode b_Model_state 62 = .ok (.invokevirtual 158, 3) := by decide +kernel
theorem d_Model_state_65 : decode b_Model_state 65 = .ok (.ireturn, 1) := by decide +kernel
theorem d_Model_state_66 : decode b_Model_state 66 = .ok (.aload_n 0, 1) := by decide +kernel
theorem d_Model_state_67 : decode b_Model_state 67 = .ok (.getfield 87, 3) := by decide +kernel
theorem d_Model_state_70 : decode b_Model_state 70 = .ok (.ireturn, 1) := by decide +kernel
theorem d_Model_state_71 : decode b_Model_state 71 = .ok (.aload_n 0, 1) := by decide +kernel
theorem d_Model_state_72 : decode b_Model_state 72 = .ok (.getfield 97, 3) := by decide +kernel
theorem d_Model_state_75 : decode b_Model_state 75 = .ok (.aload_n 0, 1) := by decide +kernel
theorem d_Model_state_76 : decode b_Model_state 76 = .ok (.getfield 94, 3) := by decide +kernel
theorem d_Model_state_79 : decode b_Model_state 79 = .ok (.iadd, 1) := by decide +kernel
theorem d_Model_state_80 : decode b_Model_state 80 = .ok (.ireturn, 1) := by decide +kernel
theorem d_Model_state_81 : decode b_Model_state 81 = .ok (.aload_n 0, 1) := by decide +kernel
theorem d_Model_state_82 : decode b_Model_state 82 = .ok (.getfield 62, 3) := by decide +kernel
theorem d_Model_state_85 : decode b_Model_state 85 = .ok (.ifCond .eq 7, 3) := by decide +kernel
theorem d_Model_state_88 : decode b_Model_state 88 = .ok (.iconst 1, 1) := by decide +kernel
theorem d_Model_state_89 : decode b_Model_state 89 = .ok (.goto 4, 3) := by decide +kernel
theorem d_Model_state_92 : decode b_Model_state 92 = .ok (.iconst 0, 1) := by decide +kernel
theorem d_Model_state_93 : decode b_Model_state 93 = .ok (.ireturn, 1) := by decide +kernel
theorem d_Model_state_94 : decode b_Model_state 94 = .ok (.aload_n 0, 1) := by decide +kernel
theorem d_Model_state_95 : decode b_Model_state 95 = .ok (.getfield 81, 3) := by decide +kernel
theorem d_Model_state_98 : decode b_Model_state 98 = .ok (.ifCond .eq 7, 3) := by decide +kernel
theorem d_Model_state_101 : decode b_Model_state 101 = .ok (.iconst 1, 1) := by decide +kernel
theorem d_Model_state_102 : decode b_Model_state 102 = .ok (.goto 4, 3) := by decide +kernel
theorem d_Model_state_105 : decode b_Model_state 105 = .ok (.iconst 0, 1) := by decide +kernel
theorem d_Model_state_106 : decode b_Model_state 106 = .ok (.ireturn, 1) := by decide +kernel
theorem d_Model_state_107 : decode b_Model_state 107 = .ok (.aload_n 0, 1) := by decide +kernel
theorem d_Model_state_108 : decode b_Model_state 108 = .ok (.getfield 66, 3) := by decide +kernel
theorem d_Model_state_111 : decode b_Model_state 111 = .ok (.aload_n 0, 1) := by decide +kernel
theorem d_Model_state_112 : decode b_Model_state 112 = .ok (.getfield 59, 3) := by decide +kernel
theorem d_Model_state_115 : decode b_Model_state 115 = .ok (.iadd, 1) := by decide +kernel
theorem d_Model_state_116 : decode b_Model_state 116 = .ok (.ireturn, 1) := by decide +kernel
theorem d_Model_state_117 : decode b_Model_state 117 = .ok (.iconst (-1), 1) := by decide +kernel
theorem d_Model_state_118 : decode b_Model_state 118 = .ok (.ireturn, 1) := by decide +kernel
