theorem d_Model_node_53 : decode b_Model_node 53 = .ok (.iconst 0, 1) := by decide +kernel
theorem d_Model_node_54 : decode b_Model_node 54 = .ok (.iastore, 1) := by decide +kernel
theorem d_Model_node_55 : decode b_Model_node 55 = .ok (.iload_n 1, 1) := by decide +kernel
theorem d_Model_node_56 : decode b_Model_node 56 = .ok (.ireturn, 1) := by decide +kernel
theorem d_Model_label_0 : decode b_Model_label 0 = .ok (.aload_n 0, 1) := by decide +kernel
theorem d_Model_label_1 : decode b_Model_label 1 = .ok (.getfield 62, 3) := by decide +kernel
theorem d_Model_label_4 : decode b_Model_label 4 = .ok (.ifCond .eq 7, 3) := by decide +kernel
theorem d_Model_label_7 : decode b_Model_label 7 = .ok (.iconst (-1), 1) := by decide +kernel
theorem d_Model_label_8 : decode b_Model_label 8 = .ok (.goto 9, 3) := by decide +kernel
theorem d_Model_label_11 : decode b_Model_label 11 = .ok (.aload_n 0, 1) := by decide +kernel
theorem d_Model_label_12 : decode b_Model_label 12 = .ok (.iconst 4, 1) := by decide +kernel
theorem d_Model_label_13 : decode b_Model_label 13 = .ok (.iload_n 1, 1) := by decide +kernel
theorem d_Model_label_14 : decode b_Model_label 14 = .ok (.invokevirtual 123, 3) := by decide +kernel
theorem d_Model_label_17 : decode b_Model_label 17 = .ok (.istore 4, 2) := by decide +kernel
theorem d_Model_label_19 : decode b_Model_label 19 = .ok (.iload 4, 2) := by decide +kernel
theorem d_Model_label_21 : decode b_Model_label 21 = .ok (.ifCond .lt 18, 3) := by decide +kernel
theorem d_Model_label_24 : decode b_Model_label 24 = .ok (.aload_n 0, 1) := by decide +kernel
theorem d_Model_label_25 : decode b_Model_label 25 = .ok (.iload 4, 2) := by decide +kernel
theorem d_Model_label_27 : decode b_Model_label 27 = .ok (.iload_n 2, 1) := by decide +kernel
theorem d_Model_label_28 : decode b_Model_label 28 = .ok (.invokevirtual 126, 3) := by decide +kernel
theorem d_Model_label_31 : decode b_Model_label 31 = .ok (.iload_n 3, 1) := by decide +kernel
theorem d_Model_label_32 : decode b_Model_label 32 = .ok (.if_icmp .eq 7, 3) := by decide +kernel
theorem d_Model_label_35 : decode b_Model_label 35 = .ok (.iconst 1, 1) := by decide +kernel
theorem d_Model_label_36 : decode b_Model_label 36 = .ok (.goto 4, 3) := by decide +kernel
theorem d_Model_label_39 : decode b_Model_label 39 = .ok (.iconst 0, 1) := by decide +kernel
theorem d_Model_label_40 : decode b_Model_label 40 = .ok (.istore 5, 2) := by decide +kernel
theorem d_Model_label_42 : decode b_Model_label 42 = .ok (.aload_n 0, 1) := by decide +kernel
theorem d_Model_label_43 : decode b_Model_label 43 = .ok (.iload 4, 2) := by decide +kernel
theorem d_Model_label_45 : decode b_Model_label 45 = .ok (.ifCond .ge 7, 3) := by decide +kernel
theorem d_Model_label_48 : decode b_Model_label 48 = .ok (.iconst 1, 1) := by decide +kernel
theorem d_Model_label_49 : decode b_Model_label 49 = .ok (.goto 4, 3) := by decide +kernel
theorem d_Model_label_52 : decode b_Model_label 52 = .ok (.iconst 0, 1) := by decide +kernel
theorem d_Model_label_53 : decode b_Model_label 53 = .ok (.iconst 0, 1) := by decide +kernel
theorem d_Model_label_54 : decode b_Model_label 54 = .ok (.iconst 0, 1) := by decide +kernel
theorem d_Model_label_55 : decode b_Model_label 55 = .ok (.iload 5, 2) := by decide +kernel
theorem d_Model_label_57 : decode b_Model_label 57 = .ok (.ifCond .eq 22, 3) := by decide +kernel
theorem d_Model_label_60 : decode b_Model_label 60 = .ok (.iload_n 3, 1) := by decide +kernel
theorem d_Model_label_61 : decode b_Model_label 61 = .ok (.ifCond .eq 18, 3) := by decide +kernel
theorem d_Model_label_64 : decode b_Model_label 64 = .ok (.aload_n 0, 1) := by decide +kernel
theorem d_Model_label_65 : decode b_Model_label 65 = .ok (.getfield 23, 3) := by decide +kernel
theorem d_Model_label_68 : decode b_Model_label 68 = .ok (.iload 4, 2) := by decide +kernel
theorem d_Model_label_70 : decode b_Model_label 70 = .ok (.iaload, 1) := by decide +kernel
theorem d_Model_label_71 : decode b_Model_label 71 = .ok (.iconst 4, 1) := by decide +kernel
theorem d_Model_label_72 : decode b_Model_label 72 = .ok (.if_icmp .ne 7, 3) := by decide +kernel
theorem d_Model_label_75 : decode b_Model_label 75 = .ok (.iconst 1, 1) := by decide +kernel
theorem d_Model_label_76 : decode b_Model_label 76 = .ok (.goto 4, 3) := by decide +kernel
theorem d_Model_label_79 : decode b_Model_label 79 = .ok (.iconst 0, 1) := by decide +kernel
theorem d_Model_label_80 : decode b_Model_label 80 = .ok (.iload 5, 2) := by decide +kernel
theorem d_Model_label_82 : decode b_Model_label 82 = .ok (.invokevirtual 116, 3) := by decide +kernel
theorem d_Model_label_85 : decode b_Model_label 85 = .ok (.ifCond .ne 8, 3) := by decide +kernel
theorem d_Model_label_88 : decode b_Model_label 88 = .ok (.iload 5, 2) := by decide +kernel
theorem d_Model_label_90 : decode b_Model_label 90 = .ok (.ifCond .ne 5, 3) := by decide +kernel
theorem d_Model_label_93 : decode b_Model_label 93 = .ok (.iconst 0, 1) := by decide +kernel
theorem d_Model_label_94 : decode b_Model_label 94 = .ok (.ireturn, 1) := by decide +kernel
theorem d_Model_label_95 : decode b_Model_label 95 = .ok (.aload_n 0, 1) := by decide +kernel
theorem d_Model_label_96 : decode b_Model_label 96 = .ok (.invokevirtual 120, 3) := by decide +kernel
theorem d_Model_label_99 : decode b_Model_label 99 = .ok (.iload_n 3, 1) := by decide +kernel
theorem d_Model_label_100 : decode b_Model_label 100 = .ok (.ifCond .eq 34, 3) := by decide +kernel
theorem d_Model_label_103 : decode b_Model_label 103 = .ok (.aload_n 0, 1) := by decide +kernel
theorem d_Model_label_104 : decode b_Model_label 104 = .ok (.getfield 26, 3) := by decide +kernel
theorem d_Model_label_107 : decode b_Model_label 107 = .ok (.iconst 4, 1) := by decide +kernel
theorem d_Model_label_108 : decode b_Model_label 108 = .ok (.iload 4, 2) := by decide +kernel
theorem d_Model_label_110 : decode b_Model_label 110 = .ok (.imul, 1) := by decide +kernel
theorem d_Model_label_111 : decode b_Model_label 111 = .ok (.aload_n 0, 1) := by decide +kernel
theorem d_Model_label_112 : decode b_Model_label 112 = .ok (.getfield 23, 3) := by decide +kernel
theorem d_Model_label_115 : decode b_Model_label 115 = .ok (.iload 4, 2) := by decide +kernel
theorem d_Model_label_117 : decode b_Model_label 117 = .ok (.iaload, 1) := by decide +kernel
theorem d_Model_label_118 : decode b_Model_label 118 = .ok (.iadd, 1) := by decide +kernel
theorem d_Model_label_119 : decode b_Model_label 119 = .ok (.iload_n 2, 1) := by decide +kernel
theorem d_Model_label_120 : decode b_Model_label 120 = .ok (.iastore, 1) := by decide +kernel
theorem d_Model_label_121 : decode b_Model_label 121 = .ok (.aload_n 0, 1) := by decide +kernel
theorem d_Model_label_122 : decode b_Model_label 122 = .ok (.getfield 23, 3) := by decide +kernel
theorem d_Model_label_125 : decode b_Model_label 125 = .ok (.iload 4, 2) := by decide +kernel
theorem d_Model_label_127 : decode b_Model_label 127 = .ok (.dup2, 1) := by decide +kernel
theorem d_Model_label_128 : decode b_Model_label 128 = .ok (.iaload, 1) := by decide +kernel
theorem d_Model_label_129 : decode b_Model_label 129 = .ok (.iconst 1, 1) := by decide +kernel
theorem d_Model_label_130 : decode b_Model_label 130 = .ok (.iadd, 1) := by decide +kernel
theorem d_Model_label_131 : decode b_Model_label 131 = .ok (.iastore, 1) := by decide +kernel
theorem d_Model_label_132 : decode b_Model_label 132 = .ok (.iconst 1, 1) := by decide +kernel
theorem d_Model_label_133 : decode b_Model_label 133 = .ok (.ireturn, 1) := by decide +kernel
theorem d_Model_label_134 : decode b_Model_label 134 = .ok (.iconst 4, 1) := by decide +kernel
theorem d_Model_label_135 : decode b_Model_label 135 = .ok (.iload 4, 2) := by decide +kernel
theorem d_Model_label_137 : decode b_Model_label 137 = .ok (.imul, 1) := by decide +kernel
theorem d_Model_label_138 : decode b_Model_label 138 = .ok (.istore 6, 2) := by decide +kernel
theorem d_Model_label_140 : decode b_Model_label 140 = .ok (.iconst 4, 1) := by decide +kernel
theorem d_Model_label_141 : decode b_Model_label 141 = .ok (.iload 4, 2) := by decide +kernel
theorem d_Model_label_143 : decode b_Model_label 143 = .ok (.imul, 1) := by decide +kernel
theorem d_Model_label_144 : decode b_Model_label 144 = .ok (.istore 7, 2) := by decide +kernel
theorem d_Model_label_146 : decode b_Model_label 146 = .ok (.iload 7, 2) := by decide +kernel
theorem d_Model_label_148 : decode b_Model_label 148 = .ok (.iconst 4, 1) := by decide +kernel
theorem d_Model_label_149 : decode b_Model_label 149 = .ok (.iload 4, 2) := by decide +kernel
theorem d_Model_label_151 : decode b_Model_label 151 = .ok (.imul, 1) := by decide +kernel
theorem d_Model_label_152 : decode b_Model_label 152 = .ok (.aload_n 0, 1) := by decide +kernel
theorem d_Model_label_153 : decode b_Model_label 153 = .ok (.getfield 23, 3) := by decide +kernel
theorem d_Model_label_156 : decode b_Model_label 156 = .ok (.iload 4, 2) := by decide +kernel
theorem d_Model_label_158 : decode b_Model_label 158 = .ok (.iaload, 1) := by decide +kernel
theorem d_Model_label_159 : decode b_Model_label 159 = .ok (.iadd, 1) := by decide +kernel
theorem d_Model_label_160 : decode b_Model_label 160 = .ok (.if_icmp .ge 37, 3) := by decide +kernel
theorem d_Model_label_163 : decode b_Model_label 163 = .ok (.aload_n 0, 1) := by decide +kernel
theorem d_Model_label_164 : decode b_Model_label 164 = .ok (.getfield 26, 3) := by decide +kernel
theorem d_Model_label_167 : decode b_Model_label 167 = .ok (.iload 7, 2) := by decide +kernel
theorem d_Model_label_169 : decode b_Model_label 169 = .ok (.iaload, 1) := by decide +kernel
theorem d_Model_label_170 : decode b_Model_label 170 = .ok (.iload_n 2, 1) := by decide +kernel
theorem d_Model_label_171 : decode b_Model_label 171 = .ok (.if_icmp .eq 20, 3) := by decide +kernel
theorem d_Model_label_174 : decode b_Model_label 174 = .ok (.aload_n 0, 1) := by decide +kernel
theorem d_Model_label_175 : decode b_Model_label 175 = .ok (.getfield 26, 3) := by decide +kernel
theorem d_Model_label_178 : decode b_Model_label 178 = .ok (.iload 6, 2) := by decide +kernel
theorem d_Model_label_180 : decode b_Model_label 180 = .ok (.aload_n 0, 1) := by decide +kernel
theorem d_Model_label_181 : decode b_Model_label 181 = .ok (.getfield 26, 3) := by decide +kernel
theorem d_Model_label_184 : decode b_Model_label 184 = .ok (.iload 7, 2) := by decide +kernel
theorem d_Model_label_186 : decode b_Model_label 186 = .ok (.iaload, 1) := by decide +kernel
theorem d_Model_label_187 : decode b_Model_label 187 = .ok (.iastore, 1) := by decide +kernel
theorem d_Model_label_188 : decode b_Model_label 188 = .ok (.iinc 6 1, 3) := by decide +kernel
theorem d_Model_label_191 : decode b_Model_label 191 = .ok (.iinc 7 1, 3) := by decide +kernel
theorem d_Model_label_194 : decode b_Model_label 194 = .ok (.goto (-48), 3) := by decide +kernel
theorem d_Model_label_197 : decode b_Model_label 197 = .ok (.aload_n 0, 1) := by decide +kernel
theorem d_Model_label_198 : decode b_Model_label 198 = .ok (.getfield 23, 3) := by decide +kernel
theorem d_Model_label_201 : decode b_Model_label 201 = .ok (.iload 4, 2) := by decide +kernel
theorem d_Model_label_203 : decode b_Model_label 203 = .ok (.dup2, 1) := by decide +kernel
theorem d_Model_label_204 : decode b_Model_label 204 = .ok (.iaload, 1) := by decide +kernel
theorem d_Model_label_205 : decode b_Model_label 205 = .ok (.iconst 1, 1) := by decide +kernel
theorem d_Model_label_206 : decode b_Model_label 206 = .ok (.isub, 1) := by decide +kernel
theorem d_Model_label_207 : decode b_Model_label 207 = .ok (.iastore, 1) := by decide +kernel
theorem d_Model_label_208 : decode b_Model_label 208 = .ok (.iconst 1, 1) := by decide +kernel
theorem d_Model_label_209 : decode b_Model_label 209 = .ok (.ireturn, 1) := by decide +kernel
theorem d_Model_isSame_0 : decode b_Model_isSame 0 = .ok (.aload_n 0, 1) := by decide +kernel
theorem d_Model_isSame_1 : decode b_Model_isSame 1 = .ok (.getfield 35, 3) := by decide +kernel
theorem d_Model_isSame_4 : decode b_Model_isSame 4 = .ok (.iload_n 1, 1) := by decide +kernel
theorem d_Model_isSame_5 : decode b_Model_isSame 5 = .ok (.iaload, 1) := by decide +kernel
theorem d_Model_isSame_6 : decode b_Model_isSame 6 = .ok (.iload_n 2, 1) := by decide +kernel
theorem d_Model_isSame_7 : decode b_Model_isSame 7 = .ok (.if_icmp .ne 18, 3) := by decide +kernel
theorem d_Model_isSame_10 : decode b_Model_isSame 10 = .ok (.aload_n 0, 1) := by decide +kernel
theorem d_Model_isSame_11 : decode b_Model_isSame 11 = .ok (.getfield 38, 3) := by decide +kernel
theorem d_Model_isSame_14 : decode b_Model_isSame 14 = .ok (.iload_n 1, 1) := by decide +kernel
theorem d_Model_isSame_15 : decode b_Model_isSame 15 = .ok (.laload, 1) := by decide +kernel
theorem d_Model_isSame_16 : decode b_Model_isSame 16 = .ok (.lload_n 3, 1) := by decide +kernel
theorem d_Model_isSame_17 : decode b_Model_isSame 17 = .ok (.lcmp, 1) := by decide +kernel
theorem d_Model_isSame_18 : decode b_Model_isSame 18 = .ok (.ifCond .ne 7, 3) := by decide +kernel
theorem d_Model_isSame_21 : decode b_Model_isSame 21 = .ok (.iconst 1, 1) := by decide +kernel
theorem d_Model_isSame_22 : decode b_Model_isSame 22 = .ok (.goto 4, 3) := by decide +kernel
theorem d_Model_isSame_25 : decode b_Model_isSame 25 = .ok (.iconst 0, 1) := by decide +kernel
theorem d_Model_isSame_26 : decode b_Model_isSame 26 = .ok (.istore 5, 2) := by decide +kernel
theorem d_Model_isSame_28 : decode b_Model_isSame 28 = .ok (.iconst 0, 1) := by decide +kernel
theorem d_Model_isSame_29 : decode b_Model_isSame 29 = .ok (.istore 6, 2) := by decide +kernel
theorem d_Model_isSame_31 : decode b_Model_isSame 31 = .ok (.iload 6, 2) := by decide +kernel
theorem d_Model_isSame_33 : decode b_Model_isSame 33 = .ok (.aload_n 0, 1) := by decide +kernel
theorem d_Model_isSame_34 : decode b_Model_isSame 34 = .ok (.getfield 103, 3) := by decide +kernel
theorem d_Model_isSame_37 : decode b_Model_isSame 37 = .ok (.if_icmp .ge 80, 3) := by decide +kernel
theorem d_Model_isSame_40 : decode b_Model_isSame 40 = .ok (.iload 5, 2) := by decide +kernel
theorem d_Model_isSame_42 : decode b_Model_isSame 42 = .ok (.ifCond .eq 75, 3) := by decide +kernel
theorem d_Model_isSame_45 : decode b_Model_isSame 45 = .ok (.iload_n 2, 1) := by decide +kernel
theorem d_Model_isSame_46 : decode b_Model_isSame 46 = .ok (.iconst 3, 1) := by decide +kernel
theorem d_Model_isSame_47 : decode b_Model_isSame 47 = .ok (.if_icmp .ne 70, 3) := by decide +kernel
theorem d_Model_isSame_50 : decode b_Model_isSame 50 = .ok (.aload_n 0, 1) := by decide +kernel
theorem d_Model_isSame_51 : decode b_Model_isSame 51 = .ok (.getfield 42, 3) := by decide +kernel
theorem d_Model_isSame_54 : decode b_Model_isSame 54 = .ok (.iconst 3, 1) := by decide +kernel
theorem d_Model_isSame_55 : decode b_Model_isSame 55 = .ok (.iload_n 1, 1) := by decide +kernel
theorem d_Model_isSame_56 : decode b_Model_isSame 56 = .ok (.imul, 1) := by decide +kernel
theorem d_Model_isSame_57 : decode b_Model_isSame 57 = .ok (.iload 6, 2) := by decide +kernel
theorem d_Model_isSame_59 : decode b_Model_isSame 59 = .ok (.bipush 8, 2) := by decide +kernel
theorem d_Model_isSame_61 : decode b_Model_isSame 61 = .ok (.idiv, 1) := by decide +kernel
theorem d_Model_isSame_62 : decode b_Model_isSame 62 = .ok (.iadd, 1) := by decide +kernel
theorem d_Model_isSame_63 : decode b_Model_isSame 63 = .ok (.laload, 1) := by decide +kernel
theorem d_Model_isSame_64 : decode b_Model_isSame 64 = .ok (.bipush 8, 2) := by decide +kernel
theorem d_Model_isSame_66 : decode b_Model_isSame 66 = .ok (.iload 6, 2) := by decide +kernel
theorem d_Model_isSame_68 : decode b_Model_isSame 68 = .ok (.bipush 8, 2) := by decide +kernel
theorem d_Model_isSame_70 : decode b_Model_isSame 70 = .ok (.irem, 1) := by decide +kernel
theorem d_Model_isSame_71 : decode b_Model_isSame 71 = .ok (.imul, 1) := by decide +kernel
theorem d_Model_isSame_72 : decode b_Model_isSame 72 = .ok (.lshr, 1) := by decide +kernel
theorem d_Model_isSame_73 : decode b_Model_isSame 73 = .ok (.ldc2_w 106, 3) := by decide +kernel
theorem d_Model_isSame_76 : decode b_Model_isSame 76 = .ok (.land, 1) := by decide +kernel
theorem d_Model_isSame_77 : decode b_Model_isSame 77 = .ok (.aload_n 0, 1) := by decide +kernel
theorem d_Model_isSame_78 : decode b_Model_isSame 78 = .ok (.getfield 48, 3) := by decide +kernel
theorem d_Model_isSame_81 : decode b_Model_isSame 81 = .ok (.iload 6, 2) := by decide +kernel
theorem d_Model_isSame_83 : decode b_Model_isSame 83 = .ok (.bipush 8, 2) := by decide +kernel
theorem d_Model_isSame_85 : decode b_Model_isSame 85 = .ok (.idiv, 1) := by decide +kernel
theorem d_Model_isSame_86 : decode b_Model_isSame 86 = .ok (.laload, 1) := by decide +kernel
theorem d_Model_isSame_87 : decode b_Model_isSame 87 = .ok (.bipush 8, 2) := by decide +kernel
theorem d_Model_isSame_89 : decode b_Model_isSame 89 = .ok (.iload 6, 2) := by decide +kernel
theorem d_Model_isSame_91 : decode b_Model_isSame 91 = .ok (.bipush 8, 2) := by decide +kernel
theorem d_Model_isSame_93 : decode b_Model_isSame 93 = .ok (.irem, 1) := by decide +kernel
theorem d_Model_isSame_94 : decode b_Model_isSame 94 = .ok (.imul, 1) := by decide +kernel
theorem d_Model_isSame_95 : decode b_Model_isSame 95 = .ok (.lshr, 1) := by decide +kernel
theorem d_Model_isSame_96 : decode b_Model_isSame 96 = .ok (.ldc2_w 106, 3) := by decide +kernel
theorem d_Model_isSame_99 : decode b_Model_isSame 99 = .ok (.land, 1) := by decide +kernel
theorem d_Model_isSame_100 : decode b_Model_isSame 100 = .ok (.lcmp, 1) := by decide +kernel
theorem d_Model_isSame_101 : decode b_Model_isSame 101 = .ok (.ifCond .ne 7, 3) := by decide +kernel
theorem d_Model_isSame_104 : decode b_Model_isSame 104 = .ok (.iconst 1, 1) := by decide +kernel
theorem d_Model_isSame_105 : decode b_Model_isSame 105 = .ok (.goto 4, 3) := by decide +kernel
theorem d_Model_isSame_108 : decode b_Model_isSame 108 = .ok (.iconst 0, 1) := by decide +kernel
theorem d_Model_isSame_109 : decode b_Model_isSame 109 = .ok (.istore 5, 2) := by decide +kernel
theorem d_Model_isSame_111 : decode b_Model_isSame 111 = .ok (.iinc 6 1, 3) := by decide +kernel
theorem d_Model_isSame_114 : decode b_Model_isSame 114 = .ok (.goto (-83), 3) := by decide +kernel
theorem d_Model_isSame_117 : decode b_Model_isSame 117 = .ok (.iload 5, 2) := by decide +kernel
theorem d_Model_isSame_119 : decode b_Model_isSame 119 = .ok (.ireturn, 1) := by decide +kernel
theorem d_Model_lay_0 : decode b_Model_lay 0 = .ok (.aload_n 0, 1) := by decide +kernel
theorem d_Model_lay_1 : decode b_Model_lay 1 = .ok (.getfield 32, 3) := by decide +kernel
theorem d_Model_lay_4 : decode b_Model_lay 4 = .ok (.iload_n 1, 1) := by decide +kernel
theorem d_Model_lay_5 : decode b_Model_lay 5 = .ok (.iload_n 2, 1) := by decide +kernel
theorem d_Model_lay_6 : decode b_Model_lay 6 = .ok (.iastore, 1) := by decide +kernel
theorem d_Model_lay_7 : decode b_Model_lay 7 = .ok (.aload_n 0, 1) := by decide +kernel
theorem d_Model_lay_8 : decode b_Model_lay 8 = .ok (.getfield 35, 3) := by decide +kernel
theorem d_Model_lay_11 : decode b_Model_lay 11 = .ok (.iload_n 1, 1) := by decide +kernel
theorem d_Model_lay_12 : decode b_Model_lay 12 = .ok (.iload_n 3, 1) := by decide +kernel
theorem d_Model_lay_13 : decode b_Model_lay 13 = .ok (.iastore, 1) := by decide +kernel
theorem d_Model_lay_14 : decode b_Model_lay 14 = .ok (.aload_n 0, 1) := by decide +kernel
theorem d_Model_lay_15 : decode b_Model_lay 15 = .ok (.getfield 38, 3) := by decide +kernel
theorem d_Model_lay_18 : decode b_Model_lay 18 = .ok (.iload_n 1, 1) := by decide +kernel
theorem d_Model_lay_19 : decode b_Model_lay 19 = .ok (.lload 4, 2) := by decide +kernel
theorem d_Model_lay_21 : decode b_Model_lay 21 = .ok (.lastore, 1) := by decide +kernel
theorem d_Model_lay_22 : decode b_Model_lay 22 = .ok (.iconst 0, 1) := by decide +kernel
theorem d_Model_lay_23 : decode b_Model_lay 23 = .ok (.istore 6, 2) := by decide +kernel
theorem d_Model_lay_25 : decode b_Model_lay 25 = .ok (.iload 6, 2) := by decide +kernel
theorem d_Model_lay_27 : decode b_Model_lay 27 = .ok (.iconst 3, 1) := by decide +kernel
theorem d_Model_lay_28 : decode b_Model_lay 28 = .ok (.if_icmp .ge 36, 3) := by decide +kernel
theorem d_Model_lay_31 : decode b_Model_lay 31 = .ok (.aload_n 0, 1) := by decide +kernel
theorem d_Model_lay_32 : decode b_Model_lay 32 = .ok (.getfield 42, 3) := by decide +kernel
theorem d_Model_lay_35 : decode b_Model_lay 35 = .ok (.iconst 3, 1) := by decide +kernel
theorem d_Model_lay_36 : decode b_Model_lay 36 = .ok (.iload_n 1, 1) := by decide +kernel
theorem d_Model_lay_37 : decode b_Model_lay 37 = .ok (.imul, 1) := by decide +kernel
theorem d_Model_lay_38 : decode b_Model_lay 38 = .ok (.iload 6, 2) := by decide +kernel
theorem d_Model_lay_40 : decode b_Model_lay 40 = .ok (.iadd, 1) := by decide +kernel
theorem d_Model_lay_41 : decode b_Model_lay 41 = .ok (.iload_n 3, 1) := by decide +kernel
theorem d_Model_lay_42 : decode b_Model_lay 42 = .ok (.iconst 3, 1) := by decide +kernel
theorem d_Model_lay_43 : decode b_Model_lay 43 = .ok (.if_icmp .ne 13, 3) := by decide +kernel
theorem d_Model_lay_46 : decode b_Model_lay 46 = .ok (.aload_n 0, 1) := by decide +kernel
theorem d_Model_lay_47 : decode b_Model_lay 47 = .ok (.getfield 48, 3) := by decide +kernel
theorem d_Model_lay_50 : decode b_Model_lay 50 = .ok (.iload 6, 2) := by decide +kernel
theorem d_Model_lay_52 : decode b_Model_lay 52 = .ok (.laload, 1) := by decide +kernel
theorem d_Model_lay_53 : decode b_Model_lay 53 = .ok (.goto 4, 3) := by decide +kernel
theorem d_Model_lay_56 : decode b_Model_lay 56 = .ok (.lconst 0, 1) := by decide +kernel
theorem d_Model_lay_57 : decode b_Model_lay 57 = .ok (.lastore, 1) := by decide +kernel
theorem d_Model_lay_58 : decode b_Model_lay 58 = .ok (.iinc 6 1, 3) := by decide +kernel
theorem d_Model_lay_61 : decode b_Model_lay 61 = .ok (.goto (-36), 3) := by decide +kernel
theorem d_Model_lay_64 : decode b_Model_lay 64 = .ok (.return_, 1) := by decide +kernel
theorem d_Model_dropProperty_0 : decode b_Model_dropProperty 0 = .ok (.iload_n 2, 1) := by decide +kernel
theorem d_Model_dropProperty_1 : decode b_Model_dropProperty 1 = .ok (.istore_n 3, 1) := by decide +kernel
theorem d_Model_dropProperty_2 : decode b_Model_dropProperty 2 = .ok (.iload_n 3, 1) := by decide +kernel
theorem d_Model_dropProperty_3 : decode b_Model_dropProperty 3 = .ok (.bipush 6, 2) := by decide +kernel
theorem d_Model_dropProperty_5 : decode b_Model_dropProperty 5 = .ok (.iload_n 1, 1) := by decide +kernel
theorem d_Model_dropProperty_6 : decode b_Model_dropProperty 6 = .ok (.imul, 1) := by decide +kernel
theorem d_Model_dropProperty_7 : decode b_Model_dropProperty 7 = .ok (.aload_n 0, 1) := by decide +kernel
theorem d_Model_dropProperty_8 : decode b_Model_dropProperty 8 = .ok (.getfield 29, 3) := by decide +kernel
theorem d_Model_dropProperty_11 : decode b_Model_dropProperty 11 = .ok (.iload_n 1, 1) := by decide +kernel
theorem d_Model_dropProperty_12 : decode b_Model_dropProperty 12 = .ok (.iaload, 1) := by decide +kernel
theorem d_Model_dropProperty_13 : decode b_Model_dropProperty 13 = .ok (.iadd, 1) := by decide +kernel
theorem d_Model_dropProperty_14 : decode b_Model_dropProperty 14 = .ok (.iconst 1, 1) := by decide +kernel
theorem d_Model_dropProperty_15 : decode b_Model_dropProperty 15 = .ok (.isub, 1) := by decide +kernel
theorem d_Model_dropProperty_16 : decode b_Model_dropProperty 16 = .ok (.if_icmp .ge 90, 3) := by decide +kernel
theorem d_Model_dropProperty_19 : decode b_Model_dropProperty 19 = .ok (.aload_n 0, 1) := by decide +kernel
