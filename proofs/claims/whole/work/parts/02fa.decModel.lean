/-! the instructions of Model -/
theorem d_Model_init_0 : decode b_Model_init 0 = .ok (.aload_n 0, 1) := by decide +kernel
theorem d_Model_init_1 : decode b_Model_init 1 = .ok (.invokespecial 1, 3) := by decide +kernel
theorem d_Model_init_4 : decode b_Model_init 4 = .ok (.aload_n 0, 1) := by decide +kernel
theorem d_Model_init_5 : decode b_Model_init 5 = .ok (.sipush 640, 3) := by decide +kernel
theorem d_Model_init_8 : decode b_Model_init 8 = .ok (.newarray .boolean, 2) := by decide +kernel
theorem d_Model_init_10 : decode b_Model_init 10 = .ok (.putfield 7, 3) := by decide +kernel
theorem d_Model_init_13 : decode b_Model_init 13 = .ok (.aload_n 0, 1) := by decide +kernel
theorem d_Model_init_14 : decode b_Model_init 14 = .ok (.sipush 640, 3) := by decide +kernel
theorem d_Model_init_17 : decode b_Model_init 17 = .ok (.newarray .int, 2) := by decide +kernel
theorem d_Model_init_19 : decode b_Model_init 19 = .ok (.putfield 13, 3) := by decide +kernel
theorem d_Model_init_22 : decode b_Model_init 22 = .ok (.aload_n 0, 1) := by decide +kernel
theorem d_Model_init_23 : decode b_Model_init 23 = .ok (.sipush 640, 3) := by decide +kernel
theorem d_Model_init_26 : decode b_Model_init 26 = .ok (.newarray .int, 2) := by decide +kernel
theorem d_Model_init_28 : decode b_Model_init 28 = .ok (.putfield 17, 3) := by decide +kernel
theorem d_Model_init_31 : decode b_Model_init 31 = .ok (.aload_n 0, 1) := by decide +kernel
theorem d_Model_init_32 : decode b_Model_init 32 = .ok (.sipush 640, 3) := by decide +kernel
theorem d_Model_init_35 : decode b_Model_init 35 = .ok (.newarray .int, 2) := by decide +kernel
theorem d_Model_init_37 : decode b_Model_init 37 = .ok (.putfield 20, 3) := by decide +kernel
theorem d_Model_init_40 : decode b_Model_init 40 = .ok (.aload_n 0, 1) := by decide +kernel
theorem d_Model_init_41 : decode b_Model_init 41 = .ok (.sipush 640, 3) := by decide +kernel
theorem d_Model_init_44 : decode b_Model_init 44 = .ok (.newarray .int, 2) := by decide +kernel
theorem d_Model_init_46 : decode b_Model_init 46 = .ok (.putfield 23, 3) := by decide +kernel
theorem d_Model_init_49 : decode b_Model_init 49 = .ok (.aload_n 0, 1) := by decide +kernel
theorem d_Model_init_50 : decode b_Model_init 50 = .ok (.sipush 2560, 3) := by decide +kernel
theorem d_Model_init_53 : decode b_Model_init 53 = .ok (.newarray .int, 2) := by decide +kernel
theorem d_Model_init_55 : decode b_Model_init 55 = .ok (.putfield 26, 3) := by decide +kernel
theorem d_Model_init_58 : decode b_Model_init 58 = .ok (.aload_n 0, 1) := by decide +kernel
theorem d_Model_init_59 : decode b_Model_init 59 = .ok (.sipush 640, 3) := by decide +kernel
theorem d_Model_init_62 : decode b_Model_init 62 = .ok (.newarray .int, 2) := by decide +kernel
theorem d_Model_init_64 : decode b_Model_init 64 = .ok (.putfield 29, 3) := by decide +kernel
theorem d_Model_init_67 : decode b_Model_init 67 = .ok (.aload_n 0, 1) := by decide +kernel
theorem d_Model_init_68 : decode b_Model_init 68 = .ok (.sipush 3840, 3) := by decide +kernel
theorem d_Model_init_71 : decode b_Model_init 71 = .ok (.newarray .int, 2) := by decide +kernel
theorem d_Model_init_73 : decode b_Model_init 73 = .ok (.putfield 32, 3) := by decide +kernel
theorem d_Model_init_76 : decode b_Model_init 76 = .ok (.aload_n 0, 1) := by decide +kernel
theorem d_Model_init_77 : decode b_Model_init 77 = .ok (.sipush 3840, 3) := by decide +kernel
theorem d_Model_init_80 : decode b_Model_init 80 = .ok (.newarray .int, 2) := by decide +kernel
theorem d_Model_init_82 : decode b_Model_init 82 = .ok (.putfield 35, 3) := by decide +kernel
theorem d_Model_init_85 : decode b_Model_init 85 = .ok (.aload_n 0, 1) := by decide +kernel
theorem d_Model_init_86 : decode b_Model_init 86 = .ok (.sipush 3840, 3) := by decide +kernel
theorem d_Model_init_89 : decode b_Model_init 89 = .ok (.newarray .long, 2) := by decide +kernel
theorem d_Model_init_91 : decode b_Model_init 91 = .ok (.putfield 38, 3) := by decide +kernel
theorem d_Model_init_94 : decode b_Model_init 94 = .ok (.aload_n 0, 1) := by decide +kernel
theorem d_Model_init_95 : decode b_Model_init 95 = .ok (.sipush 11520, 3) := by decide +kernel
theorem d_Model_init_98 : decode b_Model_init 98 = .ok (.newarray .long, 2) := by decide +kernel
theorem d_Model_init_100 : decode b_Model_init 100 = .ok (.putfield 42, 3) := by decide +kernel
theorem d_Model_init_103 : decode b_Model_init 103 = .ok (.aload_n 0, 1) := by decide +kernel
theorem d_Model_init_104 : decode b_Model_init 104 = .ok (.sipush 160, 3) := by decide +kernel
theorem d_Model_init_107 : decode b_Model_init 107 = .ok (.newarray .boolean, 2) := by decide +kernel
theorem d_Model_init_109 : decode b_Model_init 109 = .ok (.putfield 45, 3) := by decide +kernel
theorem d_Model_init_112 : decode b_Model_init 112 = .ok (.aload_n 0, 1) := by decide +kernel
theorem d_Model_init_113 : decode b_Model_init 113 = .ok (.iconst 3, 1) := by decide +kernel
theorem d_Model_init_114 : decode b_Model_init 114 = .ok (.newarray .long, 2) := by decide +kernel
theorem d_Model_init_116 : decode b_Model_init 116 = .ok (.putfield 48, 3) := by decide +kernel
theorem d_Model_init_119 : decode b_Model_init 119 = .ok (.return_, 1) := by decide +kernel
theorem d_Model_thrown_0 : decode b_Model_thrown 0 = .ok (.aload_n 0, 1) := by decide +kernel
theorem d_Model_thrown_1 : decode b_Model_thrown 1 = .ok (.getfield 51, 3) := by decide +kernel
theorem d_Model_thrown_4 : decode b_Model_thrown 4 = .ok (.ireturn, 1) := by decide +kernel
theorem d_Model_copyThing_0 : decode b_Model_copyThing 0 = .ok (.aload_n 0, 1) := by decide +kernel
theorem d_Model_copyThing_1 : decode b_Model_copyThing 1 = .ok (.getfield 7, 3) := by decide +kernel
theorem d_Model_copyThing_4 : decode b_Model_copyThing 4 = .ok (.iload_n 2, 1) := by decide +kernel
theorem d_Model_copyThing_5 : decode b_Model_copyThing 5 = .ok (.aload_n 0, 1) := by decide +kernel
theorem d_Model_copyThing_6 : decode b_Model_copyThing 6 = .ok (.getfield 7, 3) := by decide +kernel
theorem d_Model_copyThing_9 : decode b_Model_copyThing 9 = .ok (.iload_n 1, 1) := by decide +kernel
theorem d_Model_copyThing_10 : decode b_Model_copyThing 10 = .ok (.baload, 1) := by decide +kernel
theorem d_Model_copyThing_11 : decode b_Model_copyThing 11 = .ok (.bastore, 1) := by decide +kernel
theorem d_Model_copyThing_12 : decode b_Model_copyThing 12 = .ok (.aload_n 0, 1) := by decide +kernel
theorem d_Model_copyThing_13 : decode b_Model_copyThing 13 = .ok (.getfield 13, 3) := by decide +kernel
theorem d_Model_copyThing_16 : decode b_Model_copyThing 16 = .ok (.iload_n 2, 1) := by decide +kernel
theorem d_Model_copyThing_17 : decode b_Model_copyThing 17 = .ok (.aload_n 0, 1) := by decide +kernel
theorem d_Model_copyThing_18 : decode b_Model_copyThing 18 = .ok (.getfield 13, 3) := by decide +kernel
theorem d_Model_copyThing_21 : decode b_Model_copyThing 21 = .ok (.iload_n 1, 1) := by decide +kernel
theorem d_Model_copyThing_22 : decode b_Model_copyThing 22 = .ok (.iaload, 1) := by decide +kernel
theorem d_Model_copyThing_23 : decode b_Model_copyThing 23 = .ok (.iastore, 1) := by decide +kernel
theorem d_Model_copyThing_24 : decode b_Model_copyThing 24 = .ok (.aload_n 0, 1) := by decide +kernel
theorem d_Model_copyThing_25 : decode b_Model_copyThing 25 = .ok (.getfield 17, 3) := by decide +kernel
theorem d_Model_copyThing_28 : decode b_Model_copyThing 28 = .ok (.iload_n 2, 1) := by decide +kernel
theorem d_Model_copyThing_29 : decode b_Model_copyThing 29 = .ok (.aload_n 0, 1) := by decide +kernel
theorem d_Model_copyThing_30 : decode b_Model_copyThing 30 = .ok (.getfield 17, 3) := by decide +kernel
theorem d_Model_copyThing_33 : decode b_Model_copyThing 33 = .ok (.iload_n 1, 1) := by decide +kernel
theorem d_Model_copyThing_34 : decode b_Model_copyThing 34 = .ok (.iaload, 1) := by decide +kernel
theorem d_Model_copyThing_35 : decode b_Model_copyThing 35 = .ok (.iastore, 1) := by decide +kernel
theorem d_Model_copyThing_36 : decode b_Model_copyThing 36 = .ok (.aload_n 0, 1) := by decide +kernel
theorem d_Model_copyThing_37 : decode b_Model_copyThing 37 = .ok (.getfield 20, 3) := by decide +kernel
theorem d_Model_copyThing_40 : decode b_Model_copyThing 40 = .ok (.iload_n 2, 1) := by decide +kernel
theorem d_Model_copyThing_41 : decode b_Model_copyThing 41 = .ok (.aload_n 0, 1) := by decide +kernel
theorem d_Model_copyThing_42 : decode b_Model_copyThing 42 = .ok (.getfield 20, 3) := by decide +kernel
theorem d_Model_copyThing_45 : decode b_Model_copyThing 45 = .ok (.iload_n 1, 1) := by decide +kernel
theorem d_Model_copyThing_46 : decode b_Model_copyThing 46 = .ok (.iaload, 1) := by decide +kernel
theorem d_Model_copyThing_47 : decode b_Model_copyThing 47 = .ok (.iastore, 1) := by decide +kernel
theorem d_Model_copyThing_48 : decode b_Model_copyThing 48 = .ok (.aload_n 0, 1) := by decide +kernel
theorem d_Model_copyThing_49 : decode b_Model_copyThing 49 = .ok (.getfield 23, 3) := by decide +kernel
theorem d_Model_copyThing_52 : decode b_Model_copyThing 52 = .ok (.iload_n 2, 1) := by decide +kernel
theorem d_Model_copyThing_53 : decode b_Model_copyThing 53 = .ok (.aload_n 0, 1) := by decide +kernel
theorem d_Model_copyThing_54 : decode b_Model_copyThing 54 = .ok (.getfield 23, 3) := by decide +kernel
theorem d_Model_copyThing_57 : decode b_Model_copyThing 57 = .ok (.iload_n 1, 1) := by decide +kernel
theorem d_Model_copyThing_58 : decode b_Model_copyThing 58 = .ok (.iaload, 1) := by decide +kernel
theorem d_Model_copyThing_59 : decode b_Model_copyThing 59 = .ok (.iastore, 1) := by decide +kernel
theorem d_Model_copyThing_60 : decode b_Model_copyThing 60 = .ok (.aload_n 0, 1) := by decide +kernel
theorem d_Model_copyThing_61 : decode b_Model_copyThing 61 = .ok (.getfield 29, 3) := by decide +kernel
theorem d_Model_copyThing_64 : decode b_Model_copyThing 64 = .ok (.iload_n 2, 1) := by decide +kernel
theorem d_Model_copyThing_65 : decode b_Model_copyThing 65 = .ok (.aload_n 0, 1) := by decide +kernel
theorem d_Model_copyThing_66 : decode b_Model_copyThing 66 = .ok (.getfield 29, 3) := by decide +kernel
theorem d_Model_copyThing_69 : decode b_Model_copyThing 69 = .ok (.iload_n 1, 1) := by decide +kernel
theorem d_Model_copyThing_70 : decode b_Model_copyThing 70 = .ok (.iaload, 1) := by decide +kernel
theorem d_Model_copyThing_71 : decode b_Model_copyThing 71 = .ok (.iastore, 1) := by decide +kernel
theorem d_Model_copyThing_72 : decode b_Model_copyThing 72 = .ok (.iconst 0, 1) := by decide +kernel
theorem d_Model_copyThing_73 : decode b_Model_copyThing 73 = .ok (.istore_n 3, 1) := by decide +kernel
theorem d_Model_copyThing_74 : decode b_Model_copyThing 74 = .ok (.iload_n 3, 1) := by decide +kernel
theorem d_Model_copyThing_75 : decode b_Model_copyThing 75 = .ok (.iconst 4, 1) := by decide +kernel
theorem d_Model_copyThing_76 : decode b_Model_copyThing 76 = .ok (.if_icmp .ge 29, 3) := by decide +kernel
theorem d_Model_copyThing_79 : decode b_Model_copyThing 79 = .ok (.aload_n 0, 1) := by decide +kernel
theorem d_Model_copyThing_80 : decode b_Model_copyThing 80 = .ok (.getfield 26, 3) := by decide +kernel
theorem d_Model_copyThing_83 : decode b_Model_copyThing 83 = .ok (.iconst 4, 1) := by decide +kernel
theorem d_Model_copyThing_84 : decode b_Model_copyThing 84 = .ok (.iload_n 2, 1) := by decide +kernel
theorem d_Model_copyThing_85 : decode b_Model_copyThing 85 = .ok (.imul, 1) := by decide +kernel
theorem d_Model_copyThing_86 : decode b_Model_copyThing 86 = .ok (.iload_n 3, 1) := by decide +kernel
theorem d_Model_copyThing_87 : decode b_Model_copyThing 87 = .ok (.iadd, 1) := by decide +kernel
theorem d_Model_copyThing_88 : decode b_Model_copyThing 88 = .ok (.aload_n 0, 1) := by decide +kernel
theorem d_Model_copyThing_89 : decode b_Model_copyThing 89 = .ok (.getfield 26, 3) := by decide +kernel
theorem d_Model_copyThing_92 : decode b_Model_copyThing 92 = .ok (.iconst 4, 1) := by decide +kernel
theorem d_Model_copyThing_93 : decode b_Model_copyThing 93 = .ok (.iload_n 1, 1) := by decide +kernel
theorem d_Model_copyThing_94 : decode b_Model_copyThing 94 = .ok (.imul, 1) := by decide +kernel
theorem d_Model_copyThing_95 : decode b_Model_copyThing 95 = .ok (.iload_n 3, 1) := by decide +kernel
theorem d_Model_copyThing_96 : decode b_Model_copyThing 96 = .ok (.iadd, 1) := by decide +kernel
theorem d_Model_copyThing_97 : decode b_Model_copyThing 97 = .ok (.iaload, 1) := by decide +kernel
theorem d_Model_copyThing_98 : decode b_Model_copyThing 98 = .ok (.iastore, 1) := by decide +kernel
theorem d_Model_copyThing_99 : decode b_Model_copyThing 99 = .ok (.iinc 3 1, 3) := by decide +kernel
theorem d_Model_copyThing_102 : decode b_Model_copyThing 102 = .ok (.goto (-28), 3) := by decide +kernel
theorem d_Model_copyThing_105 : decode b_Model_copyThing 105 = .ok (.iconst 0, 1) := by decide +kernel
theorem d_Model_copyThing_106 : decode b_Model_copyThing 106 = .ok (.istore_n 3, 1) := by decide +kernel
theorem d_Model_copyThing_107 : decode b_Model_copyThing 107 = .ok (.iload_n 3, 1) := by decide +kernel
theorem d_Model_copyThing_108 : decode b_Model_copyThing 108 = .ok (.bipush 6, 2) := by decide +kernel
theorem d_Model_copyThing_110 : decode b_Model_copyThing 110 = .ok (.if_icmp .ge 75, 3) := by decide +kernel
theorem d_Model_copyThing_113 : decode b_Model_copyThing 113 = .ok (.aload_n 0, 1) := by decide +kernel
theorem d_Model_copyThing_114 : decode b_Model_copyThing 114 = .ok (.getfield 32, 3) := by decide +kernel
theorem d_Model_copyThing_117 : decode b_Model_copyThing 117 = .ok (.bipush 6, 2) := by decide +kernel
theorem d_Model_copyThing_119 : decode b_Model_copyThing 119 = .ok (.iload_n 2, 1) := by decide +kernel
theorem d_Model_copyThing_120 : decode b_Model_copyThing 120 = .ok (.imul, 1) := by decide +kernel
theorem d_Model_copyThing_121 : decode b_Model_copyThing 121 = .ok (.iload_n 3, 1) := by decide +kernel
theorem d_Model_copyThing_122 : decode b_Model_copyThing 122 = .ok (.iadd, 1) := by decide +kernel
theorem d_Model_copyThing_123 : decode b_Model_copyThing 123 = .ok (.aload_n 0, 1) := by decide +kernel
theorem d_Model_copyThing_124 : decode b_Model_copyThing 124 = .ok (.getfield 32, 3) := by decide +kernel
theorem d_Model_copyThing_127 : decode b_Model_copyThing 127 = .ok (.bipush 6, 2) := by decide +kernel
theorem d_Model_copyThing_129 : decode b_Model_copyThing 129 = .ok (.iload_n 1, 1) := by decide +kernel
theorem d_Model_copyThing_130 : decode b_Model_copyThing 130 = .ok (.imul, 1) := by decide +kernel
theorem d_Model_copyThing_131 : decode b_Model_copyThing 131 = .ok (.iload_n 3, 1) := by decide +kernel
theorem d_Model_copyThing_132 : decode b_Model_copyThing 132 = .ok (.iadd, 1) := by decide +kernel
theorem d_Model_copyThing_133 : decode b_Model_copyThing 133 = .ok (.iaload, 1) := by decide +kernel
theorem d_Model_copyThing_134 : decode b_Model_copyThing 134 = .ok (.iastore, 1) := by decide +kernel
theorem d_Model_copyThing_135 : decode b_Model_copyThing 135 = .ok (.aload_n 0, 1) := by decide +kernel
theorem d_Model_copyThing_136 : decode b_Model_copyThing 136 = .ok (.getfield 35, 3) := by decide +kernel
theorem d_Model_copyThing_139 : decode b_Model_copyThing 139 = .ok (.bipush 6, 2) := by decide +kernel
theorem d_Model_copyThing_141 : decode b_Model_copyThing 141 = .ok (.iload_n 2, 1) := by decide +kernel
theorem d_Model_copyThing_142 : decode b_Model_copyThing 142 = .ok (.imul, 1) := by decide +kernel
theorem d_Model_copyThing_143 : decode b_Model_copyThing 143 = .ok (.iload_n 3, 1) := by decide +kernel
theorem d_Model_copyThing_144 : decode b_Model_copyThing 144 = .ok (.iadd, 1) := by decide +kernel
theorem d_Model_copyThing_145 : decode b_Model_copyThing 145 = .ok (.aload_n 0, 1) := by decide +kernel
theorem d_Model_copyThing_146 : decode b_Model_copyThing 146 = .ok (.getfield 35, 3) := by decide +kernel
theorem d_Model_copyThing_149 : decode b_Model_copyThing 149 = .ok (.bipush 6, 2) := by decide +kernel
theorem d_Model_copyThing_151 : decode b_Model_copyThing 151 = .ok (.iload_n 1, 1) := by decide +kernel
theorem d_Model_copyThing_152 : decode b_Model_copyThing 152 = .ok (.imul, 1) := by decide +kernel
theorem d_Model_copyThing_153 : decode b_Model_copyThing 153 = .ok (.iload_n 3, 1) := by decide +kernel
theorem d_Model_copyThing_154 : decode b_Model_copyThing 154 = .ok (.iadd, 1) := by decide +kernel
theorem d_Model_copyThing_155 : decode b_Model_copyThing 155 = .ok (.iaload, 1) := by decide +kernel
theorem d_Model_copyThing_156 : decode b_Model_copyThing 156 = .ok (.iastore, 1) := by decide +kernel
theorem d_Model_copyThing_157 : decode b_Model_copyThing 157 = .ok (.aload_n 0, 1) := by decide +kernel
theorem d_Model_copyThing_158 : decode b_Model_copyThing 158 = .ok (.getfield 38, 3) := by decide +kernel
theorem d_Model_copyThing_161 : decode b_Model_copyThing 161 = .ok (.bipush 6, 2) := by decide +kernel
theorem d_Model_copyThing_163 : decode b_Model_copyThing 163 = .ok (.iload_n 2, 1) := by decide +kernel
theorem d_Model_copyThing_164 : decode b_Model_copyThing 164 = .ok (.imul, 1) := by decide +kernel
theorem d_Model_copyThing_165 : decode b_Model_copyThing 165 = .ok (.iload_n 3, 1) := by decide +kernel
theorem d_Model_copyThing_166 : decode b_Model_copyThing 166 = .ok (.iadd, 1) := by decide +kernel
theorem d_Model_copyThing_167 : decode b_Model_copyThing 167 = .ok (.aload_n 0, 1) := by decide +kernel
theorem d_Model_copyThing_168 : decode b_Model_copyThing 168 = .ok (.getfield 38, 3) := by decide +kernel
theorem d_Model_copyThing_171 : decode b_Model_copyThing 171 = .ok (.bipush 6, 2) := by decide +kernel
theorem d_Model_copyThing_173 : decode b_Model_copyThing 173 = .ok (.iload_n 1, 1) := by decide +kernel
theorem d_Model_copyThing_174 : decode b_Model_copyThing 174 = .ok (.imul, 1) := by decide +kernel
theorem d_Model_copyThing_175 : decode b_Model_copyThing 175 = .ok (.iload_n 3, 1) := by decide +kernel
theorem d_Model_copyThing_176 : decode b_Model_copyThing 176 = .ok (.iadd, 1) := by decide +kernel
theorem d_Model_copyThing_177 : decode b_Model_copyThing 177 = .ok (.laload, 1) := by decide +kernel
theorem d_Model_copyThing_178 : decode b_Model_copyThing 178 = .ok (.lastore, 1) := by decide +kernel
theorem d_Model_copyThing_179 : decode b_Model_copyThing 179 = .ok (.iinc 3 1, 3) := by decide +kernel
theorem d_Model_copyThing_182 : decode b_Model_copyThing 182 = .ok (.goto (-75), 3) := by decide +kernel
theorem d_Model_copyThing_185 : decode b_Model_copyThing 185 = .ok (.iconst 0, 1) := by decide +kernel
theorem d_Model_copyThing_186 : decode b_Model_copyThing 186 = .ok (.istore_n 3, 1) := by decide +kernel
theorem d_Model_copyThing_187 : decode b_Model_copyThing 187 = .ok (.iload_n 3, 1) := by decide +kernel
theorem d_Model_copyThing_188 : decode b_Model_copyThing 188 = .ok (.bipush 18, 2) := by decide +kernel
theorem d_Model_copyThing_190 : decode b_Model_copyThing 190 = .ok (.if_icmp .ge 31, 3) := by decide +kernel
theorem d_Model_copyThing_193 : decode b_Model_copyThing 193 = .ok (.aload_n 0, 1) := by decide +kernel
theorem d_Model_copyThing_194 : decode b_Model_copyThing 194 = .ok (.getfield 42, 3) := by decide +kernel
theorem d_Model_copyThing_197 : decode b_Model_copyThing 197 = .ok (.bipush 18, 2) := by decide +kernel
theorem d_Model_copyThing_199 : decode b_Model_copyThing 199 = .ok (.iload_n 2, 1) := by decide +kernel
theorem d_Model_copyThing_200 : decode b_Model_copyThing 200 = .ok (.imul, 1) := by decide +kernel
theorem d_Model_copyThing_201 : decode b_Model_copyThing 201 = .ok (.iload_n 3, 1) := by decide +kernel
theorem d_Model_copyThing_202 : decode b_Model_copyThing 202 = .ok (.iadd, 1) := by decide +kernel
theorem d_Model_copyThing_203 : decode b_Model_copyThing 203 = .ok (.aload_n 0, 1) := by decide +kernel
theorem d_Model_copyThing_204 : decode b_Model_copyThing 204 = .ok (.getfield 42, 3) := by decide +kernel
theorem d_Model_copyThing_207 : decode b_Model_copyThing 207 = .ok (.bipush 18, 2) := by decide +kernel
theorem d_Model_copyThing_209 : decode b_Model_copyThing 209 = .ok (.iload_n 1, 1) := by decide +kernel
theorem d_Model_copyThing_210 : decode b_Model_copyThing 210 = .ok (.imul, 1) := by decide +kernel
theorem d_Model_copyThing_211 : decode b_Model_copyThing 211 = .ok (.iload_n 3, 1) := by decide +kernel
theorem d_Model_copyThing_212 : decode b_Model_copyThing 212 = .ok (.iadd, 1) := by decide +kernel
theorem d_Model_copyThing_213 : decode b_Model_copyThing 213 = .ok (.laload, 1) := by decide +kernel
theorem d_Model_copyThing_214 : decode b_Model_copyThing 214 = .ok (.lastore, 1) := by decide +kernel
theorem d_Model_copyThing_215 : decode b_Model_copyThing 215 = .ok (.iinc 3 1, 3) := by decide +kernel
theorem d_Model_copyThing_218 : decode b_Model_copyThing 218 = .ok (.goto (-31), 3) := by decide +kernel
theorem d_Model_copyThing_221 : decode b_Model_copyThing 221 = .ok (.return_, 1) := by decide +kernel
theorem d_Model_copy_0 : decode b_Model_copy 0 = .ok (.iconst 0, 1) := by decide +kernel
theorem d_Model_copy_1 : decode b_Model_copy 1 = .ok (.istore_n 3, 1) := by decide +kernel
theorem d_Model_copy_2 : decode b_Model_copy 2 = .ok (.iload_n 3, 1) := by decide +kernel
theorem d_Model_copy_3 : decode b_Model_copy 3 = .ok (.sipush 160, 3) := by decide +kernel
theorem d_Model_copy_6 : decode b_Model_copy 6 = .ok (.if_icmp .ge 27, 3) := by decide +kernel
theorem d_Model_copy_9 : decode b_Model_copy 9 = .ok (.aload_n 0, 1) := by decide +kernel
theorem d_Model_copy_10 : decode b_Model_copy 10 = .ok (.sipush 160, 3) := by decide +kernel
theorem d_Model_copy_13 : decode b_Model_copy 13 = .ok (.iload_n 1, 1) := by decide +kernel
theorem d_Model_copy_14 : decode b_Model_copy 14 = .ok (.imul, 1) := by decide +kernel
theorem d_Model_copy_15 : decode b_Model_copy 15 = .ok (.iload_n 3, 1) := by decide +kernel
theorem d_Model_copy_16 : decode b_Model_copy 16 = .ok (.iadd, 1) := by decide +kernel
theorem d_Model_copy_17 : decode b_Model_copy 17 = .ok (.sipush 160, 3) := by decide +kernel
theorem d_Model_copy_20 : decode b_Model_copy 20 = .ok (.iload_n 2, 1) := by decide +kernel
theorem d_Model_copy_21 : decode b_Model_copy 21 = .ok (.imul, 1) := by decide +kernel
theorem d_Model_copy_22 : decode b_Model_copy 22 = .ok (.iload_n 3, 1) := by decide +kernel
theorem d_Model_copy_23 : decode b_Model_copy 23 = .ok (.iadd, 1) := by decide +kernel
theorem d_Model_copy_24 : decode b_Model_copy 24 = .ok (.invokevirtual 55, 3) := by decide +kernel
theorem d_Model_copy_27 : decode b_Model_copy 27 = .ok (.iinc 3 1, 3) := by decide +kernel
theorem d_Model_copy_30 : decode b_Model_copy 30 = .ok (.goto (-28), 3) := by decide +kernel
theorem d_Model_copy_33 : decode b_Model_copy 33 = .ok (.return_, 1) := by decide +kernel
theorem d_Model_erase_0 : decode b_Model_erase 0 = .ok (.iconst 0, 1) := by decide +kernel
theorem d_Model_erase_1 : decode b_Model_erase 1 = .ok (.istore_n 1, 1) := by decide +kernel
theorem d_Model_erase_2 : decode b_Model_erase 2 = .ok (.iload_n 1, 1) := by decide +kernel
theorem d_Model_erase_3 : decode b_Model_erase 3 = .ok (.sipush 160, 3) := by decide +kernel
theorem d_Model_erase_6 : decode b_Model_erase 6 = .ok (.if_icmp .ge 16, 3) := by decide +kernel
theorem d_Model_erase_9 : decode b_Model_erase 9 = .ok (.aload_n 0, 1) := by decide +kernel
theorem d_Model_erase_10 : decode b_Model_erase 10 = .ok (.getfield 7, 3) := by decide +kernel
theorem d_Model_erase_13 : decode b_Model_erase 13 = .ok (.iload_n 1, 1) := by decide +kernel
theorem d_Model_erase_14 : decode b_Model_erase 14 = .ok (.iconst 0, 1) := by decide +kernel
theorem d_Model_erase_15 : decode b_Model_erase 15 = .ok (.bastore, 1) := by decide +kernel
theorem d_Model_erase_16 : decode b_Model_erase 16 = .ok (.iinc 1 1, 3) := by decide +kernel
theorem d_Model_erase_19 : decode b_Model_erase 19 = .ok (.goto (-17), 3) := by decide +kernel
theorem d_Model_erase_22 : decode b_Model_erase 22 = .ok (.return_, 1) := by decide +kernel
theorem d_Model_find_0 : decode b_Model_find 0 = .ok (.iload_n 1, 1) := by decide +kernel
theorem d_Model_find_1 : decode b_Model_find 1 = .ok (.iconst 4, 1) := by decide +kernel
theorem d_Model_find_2 : decode b_Model_find 2 = .ok (.if_icmp .ne 21, 3) := by decide +kernel
theorem d_Model_find_5 : decode b_Model_find 5 = .ok (.iload_n 2, 1) := by decide +kernel
theorem d_Model_find_6 : decode b_Model_find 6 = .ok (.ifCond .lt 13, 3) := by decide +kernel
theorem d_Model_find_9 : decode b_Model_find 9 = .ok (.iload_n 2, 1) := by decide +kernel
theorem d_Model_find_10 : decode b_Model_find 10 = .ok (.bipush 64, 2) := by decide +kernel
theorem d_Model_find_12 : decode b_Model_find 12 = .ok (.if_icmp .ge 7, 3) := by decide +kernel
