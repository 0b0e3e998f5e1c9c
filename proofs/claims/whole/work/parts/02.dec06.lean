theorem dX12_readClause_49 : decode cX12_readClause 49 = .ok (.iconst 1, 1) := by decide +kernel
theorem dX12_readClause_50 : decode cX12_readClause 50 = .ok (.goto 4, 3) := by decide +kernel
theorem dX12_readClause_53 : decode cX12_readClause 53 = .ok (.iconst 0, 1) := by decide +kernel
theorem dX12_readClause_54 : decode cX12_readClause 54 = .ok (.invokevirtual 228, 3) := by decide +kernel
theorem dX12_readClause_57 : decode cX12_readClause 57 = .ok (.aload_n 0, 1) := by decide +kernel
theorem dX12_readClause_58 : decode cX12_readClause 58 = .ok (.getfield 193, 3) := by decide +kernel
theorem dX12_readClause_61 : decode cX12_readClause 61 = .ok (.ifCond .eq 4, 3) := by decide +kernel
theorem dX12_readClause_64 : decode cX12_readClause 64 = .ok (.return_, 1) := by decide +kernel
theorem dX12_readClause_65 : decode cX12_readClause 65 = .ok (.bipush 8, 2) := by decide +kernel
theorem dX12_readClause_67 : decode cX12_readClause 67 = .ok (.aload_n 0, 1) := by decide +kernel
theorem dX12_readClause_68 : decode cX12_readClause 68 = .ok (.getfield 310, 3) := by decide +kernel
theorem dX12_readClause_71 : decode cX12_readClause 71 = .ok (.imul, 1) := by decide +kernel
theorem dX12_readClause_72 : decode cX12_readClause 72 = .ok (.istore_n 2, 1) := by decide +kernel
theorem dX12_readClause_73 : decode cX12_readClause 73 = .ok (.iconst 0, 1) := by decide +kernel
theorem dX12_readClause_74 : decode cX12_readClause 74 = .ok (.istore_n 3, 1) := by decide +kernel
theorem dX12_readClause_75 : decode cX12_readClause 75 = .ok (.iload_n 3, 1) := by decide +kernel
theorem dX12_readClause_76 : decode cX12_readClause 76 = .ok (.bipush 8, 2) := by decide +kernel
theorem dX12_readClause_78 : decode cX12_readClause 78 = .ok (.if_icmp .ge 18, 3) := by decide +kernel
theorem dX12_readClause_81 : decode cX12_readClause 81 = .ok (.aload_n 0, 1) := by decide +kernel
theorem dX12_readClause_82 : decode cX12_readClause 82 = .ok (.getfield 30, 3) := by decide +kernel
theorem dX12_readClause_85 : decode cX12_readClause 85 = .ok (.iload_n 2, 1) := by decide +kernel
theorem dX12_readClause_86 : decode cX12_readClause 86 = .ok (.iload_n 3, 1) := by decide +kernel
theorem dX12_readClause_87 : decode cX12_readClause 87 = .ok (.iadd, 1) := by decide +kernel
theorem dX12_readClause_88 : decode cX12_readClause 88 = .ok (.iconst 0, 1) := by decide +kernel
theorem dX12_readClause_89 : decode cX12_readClause 89 = .ok (.iastore, 1) := by decide +kernel
theorem dX12_readClause_90 : decode cX12_readClause 90 = .ok (.iinc 3 1, 3) := by decide +kernel
theorem dX12_readClause_93 : decode cX12_readClause 93 = .ok (.goto (-18), 3) := by decide +kernel
theorem dX12_readClause_96 : decode cX12_readClause 96 = .ok (.aload_n 0, 1) := by decide +kernel
theorem dX12_readClause_97 : decode cX12_readClause 97 = .ok (.getfield 30, 3) := by decide +kernel
theorem dX12_readClause_100 : decode cX12_readClause 100 = .ok (.iload_n 2, 1) := by decide +kernel
theorem dX12_readClause_101 : decode cX12_readClause 101 = .ok (.iload_n 1, 1) := by decide +kernel
theorem dX12_readClause_102 : decode cX12_readClause 102 = .ok (.iastore, 1) := by decide +kernel
theorem dX12_readClause_103 : decode cX12_readClause 103 = .ok (.aload_n 0, 1) := by decide +kernel
theorem dX12_readClause_104 : decode cX12_readClause 104 = .ok (.dup, 1) := by decide +kernel
theorem dX12_readClause_105 : decode cX12_readClause 105 = .ok (.getfield 310, 3) := by decide +kernel
theorem dX12_readClause_108 : decode cX12_readClause 108 = .ok (.iconst 1, 1) := by decide +kernel
theorem dX12_readClause_109 : decode cX12_readClause 109 = .ok (.iadd, 1) := by decide +kernel
theorem dX12_readClause_110 : decode cX12_readClause 110 = .ok (.putfield 310, 3) := by decide +kernel
theorem dX12_readClause_113 : decode cX12_readClause 113 = .ok (.aload_n 0, 1) := by decide +kernel
theorem dX12_readClause_114 : decode cX12_readClause 114 = .ok (.getfield 30, 3) := by decide +kernel
theorem dX12_readClause_117 : decode cX12_readClause 117 = .ok (.iload_n 2, 1) := by decide +kernel
theorem dX12_readClause_118 : decode cX12_readClause 118 = .ok (.iconst 3, 1) := by decide +kernel
theorem dX12_readClause_119 : decode cX12_readClause 119 = .ok (.iadd, 1) := by decide +kernel
theorem dX12_readClause_120 : decode cX12_readClause 120 = .ok (.aload_n 0, 1) := by decide +kernel
theorem dX12_readClause_121 : decode cX12_readClause 121 = .ok (.getfield 232, 3) := by decide +kernel
theorem dX12_readClause_124 : decode cX12_readClause 124 = .ok (.iastore, 1) := by decide +kernel
theorem dX12_readClause_125 : decode cX12_readClause 125 = .ok (.iload_n 1, 1) := by decide +kernel
theorem dX12_readClause_126 : decode cX12_readClause 126 = .ok (.ifCond .ne 8, 3) := by decide +kernel
theorem dX12_readClause_129 : decode cX12_readClause 129 = .ok (.aload_n 0, 1) := by decide +kernel
theorem dX12_readClause_130 : decode cX12_readClause 130 = .ok (.iconst 0, 1) := by decide +kernel
theorem dX12_readClause_131 : decode cX12_readClause 131 = .ok (.invokevirtual 313, 3) := by decide +kernel
theorem dX12_readClause_134 : decode cX12_readClause 134 = .ok (.aload_n 0, 1) := by decide +kernel
theorem dX12_readClause_135 : decode cX12_readClause 135 = .ok (.getfield 30, 3) := by decide +kernel
theorem dX12_readClause_138 : decode cX12_readClause 138 = .ok (.iload_n 2, 1) := by decide +kernel
theorem dX12_readClause_139 : decode cX12_readClause 139 = .ok (.iconst 4, 1) := by decide +kernel
theorem dX12_readClause_140 : decode cX12_readClause 140 = .ok (.iadd, 1) := by decide +kernel
theorem dX12_readClause_141 : decode cX12_readClause 141 = .ok (.aload_n 0, 1) := by decide +kernel
theorem dX12_readClause_142 : decode cX12_readClause 142 = .ok (.getfield 232, 3) := by decide +kernel
theorem dX12_readClause_145 : decode cX12_readClause 145 = .ok (.iastore, 1) := by decide +kernel
theorem dX12_readClause_146 : decode cX12_readClause 146 = .ok (.aload_n 0, 1) := by decide +kernel
theorem dX12_readClause_147 : decode cX12_readClause 147 = .ok (.getfield 30, 3) := by decide +kernel
theorem dX12_readClause_150 : decode cX12_readClause 150 = .ok (.iload_n 2, 1) := by decide +kernel
theorem dX12_readClause_151 : decode cX12_readClause 151 = .ok (.iconst 5, 1) := by decide +kernel
theorem dX12_readClause_152 : decode cX12_readClause 152 = .ok (.iadd, 1) := by decide +kernel
theorem dX12_readClause_153 : decode cX12_readClause 153 = .ok (.aload_n 0, 1) := by decide +kernel
theorem dX12_readClause_154 : decode cX12_readClause 154 = .ok (.getfield 232, 3) := by decide +kernel
theorem dX12_readClause_157 : decode cX12_readClause 157 = .ok (.iastore, 1) := by decide +kernel
theorem dX12_readClause_158 : decode cX12_readClause 158 = .ok (.aload_n 0, 1) := by decide +kernel
theorem dX12_readClause_159 : decode cX12_readClause 159 = .ok (.getfield 193, 3) := by decide +kernel
theorem dX12_readClause_162 : decode cX12_readClause 162 = .ok (.ifCond .ne 22, 3) := by decide +kernel
theorem dX12_readClause_165 : decode cX12_readClause 165 = .ok (.aload_n 0, 1) := by decide +kernel
theorem dX12_readClause_166 : decode cX12_readClause 166 = .ok (.ldc2_w 316, 3) := by decide +kernel
theorem dX12_readClause_169 : decode cX12_readClause 169 = .ok (.invokevirtual 253, 3) := by decide +kernel
theorem dX12_readClause_172 : decode cX12_readClause 172 = .ok (.ifCond .eq 12, 3) := by decide +kernel
theorem dX12_readClause_175 : decode cX12_readClause 175 = .ok (.aload_n 0, 1) := by decide +kernel
theorem dX12_readClause_176 : decode cX12_readClause 176 = .ok (.invokevirtual 197, 3) := by decide +kernel
theorem dX12_readClause_179 : decode cX12_readClause 179 = .ok (.aload_n 0, 1) := by decide +kernel
theorem dX12_readClause_180 : decode cX12_readClause 180 = .ok (.iconst 1, 1) := by decide +kernel
theorem dX12_readClause_181 : decode cX12_readClause 181 = .ok (.invokevirtual 313, 3) := by decide +kernel
theorem dX12_readClause_184 : decode cX12_readClause 184 = .ok (.aload_n 0, 1) := by decide +kernel
theorem dX12_readClause_185 : decode cX12_readClause 185 = .ok (.getfield 30, 3) := by decide +kernel
theorem dX12_readClause_188 : decode cX12_readClause 188 = .ok (.iload_n 2, 1) := by decide +kernel
theorem dX12_readClause_189 : decode cX12_readClause 189 = .ok (.bipush 6, 2) := by decide +kernel
theorem dX12_readClause_191 : decode cX12_readClause 191 = .ok (.iadd, 1) := by decide +kernel
theorem dX12_readClause_192 : decode cX12_readClause 192 = .ok (.aload_n 0, 1) := by decide +kernel
theorem dX12_readClause_193 : decode cX12_readClause 193 = .ok (.getfield 232, 3) := by decide +kernel
theorem dX12_readClause_196 : decode cX12_readClause 196 = .ok (.iastore, 1) := by decide +kernel
theorem dX12_readClause_197 : decode cX12_readClause 197 = .ok (.return_, 1) := by decide +kernel
theorem dX12_law_0 : decode cX12_law 0 = .ok (.aload_n 0, 1) := by decide +kernel
theorem dX12_law_1 : decode cX12_law 1 = .ok (.iconst 0, 1) := by decide +kernel
theorem dX12_law_2 : decode cX12_law 2 = .ok (.putfield 123, 3) := by decide +kernel
theorem dX12_law_5 : decode cX12_law 5 = .ok (.aload_n 0, 1) := by decide +kernel
theorem dX12_law_6 : decode cX12_law 6 = .ok (.getfield 13, 3) := by decide +kernel
theorem dX12_law_9 : decode cX12_law 9 = .ok (.iconst 2, 1) := by decide +kernel
theorem dX12_law_10 : decode cX12_law 10 = .ok (.iaload, 1) := by decide +kernel
theorem dX12_law_11 : decode cX12_law 11 = .ok (.bipush 6, 2) := by decide +kernel
theorem dX12_law_13 : decode cX12_law 13 = .ok (.if_icmp .ne 15, 3) := by decide +kernel
theorem dX12_law_16 : decode cX12_law 16 = .ok (.aload_n 0, 1) := by decide +kernel
theorem dX12_law_17 : decode cX12_law 17 = .ok (.iconst 0, 1) := by decide +kernel
theorem dX12_law_18 : decode cX12_law 18 = .ok (.putfield 180, 3) := by decide +kernel
theorem dX12_law_21 : decode cX12_law 21 = .ok (.aload_n 0, 1) := by decide +kernel
theorem dX12_law_22 : decode cX12_law 22 = .ok (.bipush (-5), 2) := by decide +kernel
theorem dX12_law_24 : decode cX12_law 24 = .ok (.invokevirtual 133, 3) := by decide +kernel
theorem dX12_law_27 : decode cX12_law 27 = .ok (.ireturn, 1) := by decide +kernel
theorem dX12_law_28 : decode cX12_law 28 = .ok (.aload_n 0, 1) := by decide +kernel
theorem dX12_law_29 : decode cX12_law 29 = .ok (.invokevirtual 318, 3) := by decide +kernel
theorem dX12_law_32 : decode cX12_law 32 = .ok (.aload_n 0, 1) := by decide +kernel
theorem dX12_law_33 : decode cX12_law 33 = .ok (.iconst 0, 1) := by decide +kernel
theorem dX12_law_34 : decode cX12_law 34 = .ok (.putfield 310, 3) := by decide +kernel
theorem dX12_law_37 : decode cX12_law 37 = .ok (.aload_n 0, 1) := by decide +kernel
theorem dX12_law_38 : decode cX12_law 38 = .ok (.iconst 0, 1) := by decide +kernel
theorem dX12_law_39 : decode cX12_law 39 = .ok (.putfield 232, 3) := by decide +kernel
theorem dX12_law_42 : decode cX12_law 42 = .ok (.aload_n 0, 1) := by decide +kernel
theorem dX12_law_43 : decode cX12_law 43 = .ok (.iconst 0, 1) := by decide +kernel
theorem dX12_law_44 : decode cX12_law 44 = .ok (.putfield 263, 3) := by decide +kernel
theorem dX12_law_47 : decode cX12_law 47 = .ok (.aload_n 0, 1) := by decide +kernel
theorem dX12_law_48 : decode cX12_law 48 = .ok (.invokevirtual 321, 3) := by decide +kernel
theorem dX12_law_51 : decode cX12_law 51 = .ok (.aload_n 0, 1) := by decide +kernel
theorem dX12_law_52 : decode cX12_law 52 = .ok (.getfield 193, 3) := by decide +kernel
theorem dX12_law_55 : decode cX12_law 55 = .ok (.ifCond .ne 23, 3) := by decide +kernel
theorem dX12_law_58 : decode cX12_law 58 = .ok (.aload_n 0, 1) := by decide +kernel
theorem dX12_law_59 : decode cX12_law 59 = .ok (.bipush 59, 2) := by decide +kernel
theorem dX12_law_61 : decode cX12_law 61 = .ok (.invokevirtual 266, 3) := by decide +kernel
theorem dX12_law_64 : decode cX12_law 64 = .ok (.ifCond .eq 14, 3) := by decide +kernel
theorem dX12_law_67 : decode cX12_law 67 = .ok (.aload_n 0, 1) := by decide +kernel
theorem dX12_law_68 : decode cX12_law 68 = .ok (.invokevirtual 197, 3) := by decide +kernel
theorem dX12_law_71 : decode cX12_law 71 = .ok (.aload_n 0, 1) := by decide +kernel
theorem dX12_law_72 : decode cX12_law 72 = .ok (.invokevirtual 321, 3) := by decide +kernel
theorem dX12_law_75 : decode cX12_law 75 = .ok (.goto (-24), 3) := by decide +kernel
theorem dX12_law_78 : decode cX12_law 78 = .ok (.aload_n 0, 1) := by decide +kernel
theorem dX12_law_79 : decode cX12_law 79 = .ok (.getfield 193, 3) := by decide +kernel
theorem dX12_law_82 : decode cX12_law 82 = .ok (.ifCond .ne 15, 3) := by decide +kernel
theorem dX12_law_85 : decode cX12_law 85 = .ok (.aload_n 0, 1) := by decide +kernel
theorem dX12_law_86 : decode cX12_law 86 = .ok (.getfield 213, 3) := by decide +kernel
theorem dX12_law_89 : decode cX12_law 89 = .ok (.ifCond .eq 8, 3) := by decide +kernel
theorem dX12_law_92 : decode cX12_law 92 = .ok (.aload_n 0, 1) := by decide +kernel
theorem dX12_law_93 : decode cX12_law 93 = .ok (.iconst 0, 1) := by decide +kernel
theorem dX12_law_94 : decode cX12_law 94 = .ok (.invokevirtual 228, 3) := by decide +kernel
theorem dX12_law_97 : decode cX12_law 97 = .ok (.aload_n 0, 1) := by decide +kernel
theorem dX12_law_98 : decode cX12_law 98 = .ok (.iconst 0, 1) := by decide +kernel
theorem dX12_law_99 : decode cX12_law 99 = .ok (.putfield 180, 3) := by decide +kernel
theorem dX12_law_102 : decode cX12_law 102 = .ok (.aload_n 0, 1) := by decide +kernel
theorem dX12_law_103 : decode cX12_law 103 = .ok (.getfield 193, 3) := by decide +kernel
theorem dX12_law_106 : decode cX12_law 106 = .ok (.ifCond .eq 10, 3) := by decide +kernel
theorem dX12_law_109 : decode cX12_law 109 = .ok (.aload_n 0, 1) := by decide +kernel
theorem dX12_law_110 : decode cX12_law 110 = .ok (.bipush (-6), 2) := by decide +kernel
theorem dX12_law_112 : decode cX12_law 112 = .ok (.invokevirtual 133, 3) := by decide +kernel
theorem dX12_law_115 : decode cX12_law 115 = .ok (.ireturn, 1) := by decide +kernel
theorem dX12_law_116 : decode cX12_law 116 = .ok (.sipush 160, 3) := by decide +kernel
theorem dX12_law_119 : decode cX12_law 119 = .ok (.sipush 900, 3) := by decide +kernel
theorem dX12_law_122 : decode cX12_law 122 = .ok (.aload_n 0, 1) := by decide +kernel
theorem dX12_law_123 : decode cX12_law 123 = .ok (.getfield 13, 3) := by decide +kernel
theorem dX12_law_126 : decode cX12_law 126 = .ok (.iconst 2, 1) := by decide +kernel
theorem dX12_law_127 : decode cX12_law 127 = .ok (.iaload, 1) := by decide +kernel
theorem dX12_law_128 : decode cX12_law 128 = .ok (.imul, 1) := by decide +kernel
theorem dX12_law_129 : decode cX12_law 129 = .ok (.iadd, 1) := by decide +kernel
theorem dX12_law_130 : decode cX12_law 130 = .ok (.istore_n 1, 1) := by decide +kernel
theorem dX12_law_131 : decode cX12_law 131 = .ok (.aload_n 0, 1) := by decide +kernel
theorem dX12_law_132 : decode cX12_law 132 = .ok (.getfield 13, 3) := by decide +kernel
theorem dX12_law_135 : decode cX12_law 135 = .ok (.iload_n 1, 1) := by decide +kernel
theorem dX12_law_136 : decode cX12_law 136 = .ok (.iconst 1, 1) := by decide +kernel
theorem dX12_law_137 : decode cX12_law 137 = .ok (.iadd, 1) := by decide +kernel
theorem dX12_law_138 : decode cX12_law 138 = .ok (.aload_n 0, 1) := by decide +kernel
theorem dX12_law_139 : decode cX12_law 139 = .ok (.getfield 310, 3) := by decide +kernel
theorem dX12_law_142 : decode cX12_law 142 = .ok (.iastore, 1) := by decide +kernel
theorem dX12_law_143 : decode cX12_law 143 = .ok (.iconst 0, 1) := by decide +kernel
theorem dX12_law_144 : decode cX12_law 144 = .ok (.istore_n 2, 1) := by decide +kernel
theorem dX12_law_145 : decode cX12_law 145 = .ok (.iload_n 2, 1) := by decide +kernel
theorem dX12_law_146 : decode cX12_law 146 = .ok (.bipush 8, 2) := by decide +kernel
theorem dX12_law_148 : decode cX12_law 148 = .ok (.aload_n 0, 1) := by decide +kernel
theorem dX12_law_149 : decode cX12_law 149 = .ok (.getfield 310, 3) := by decide +kernel
theorem dX12_law_152 : decode cX12_law 152 = .ok (.imul, 1) := by decide +kernel
theorem dX12_law_153 : decode cX12_law 153 = .ok (.if_icmp .ge 25, 3) := by decide +kernel
theorem dX12_law_156 : decode cX12_law 156 = .ok (.aload_n 0, 1) := by decide +kernel
theorem dX12_law_157 : decode cX12_law 157 = .ok (.getfield 13, 3) := by decide +kernel
theorem dX12_law_160 : decode cX12_law 160 = .ok (.iload_n 1, 1) := by decide +kernel
theorem dX12_law_161 : decode cX12_law 161 = .ok (.iconst 2, 1) := by decide +kernel
theorem dX12_law_162 : decode cX12_law 162 = .ok (.iadd, 1) := by decide +kernel
theorem dX12_law_163 : decode cX12_law 163 = .ok (.iload_n 2, 1) := by decide +kernel
theorem dX12_law_164 : decode cX12_law 164 = .ok (.iadd, 1) := by decide +kernel
theorem dX12_law_165 : decode cX12_law 165 = .ok (.aload_n 0, 1) := by decide +kernel
theorem dX12_law_166 : decode cX12_law 166 = .ok (.getfield 30, 3) := by decide +kernel
theorem dX12_law_169 : decode cX12_law 169 = .ok (.iload_n 2, 1) := by decide +kernel
theorem dX12_law_170 : decode cX12_law 170 = .ok (.iaload, 1) := by decide +kernel
theorem dX12_law_171 : decode cX12_law 171 = .ok (.iastore, 1) := by decide +kernel
theorem dX12_law_172 : decode cX12_law 172 = .ok (.iinc 2 1, 3) := by decide +kernel
theorem dX12_law_175 : decode cX12_law 175 = .ok (.goto (-30), 3) := by decide +kernel
theorem dX12_law_178 : decode cX12_law 178 = .ok (.iconst 0, 1) := by decide +kernel
theorem dX12_law_179 : decode cX12_law 179 = .ok (.istore_n 2, 1) := by decide +kernel
theorem dX12_law_180 : decode cX12_law 180 = .ok (.iload_n 2, 1) := by decide +kernel
theorem dX12_law_181 : decode cX12_law 181 = .ok (.aload_n 0, 1) := by decide +kernel
theorem dX12_law_182 : decode cX12_law 182 = .ok (.getfield 232, 3) := by decide +kernel
theorem dX12_law_185 : decode cX12_law 185 = .ok (.if_icmp .ge 49, 3) := by decide +kernel
theorem dX12_law_188 : decode cX12_law 188 = .ok (.aload_n 0, 1) := by decide +kernel
theorem dX12_law_189 : decode cX12_law 189 = .ok (.getfield 13, 3) := by decide +kernel
theorem dX12_law_192 : decode cX12_law 192 = .ok (.iload_n 1, 1) := by decide +kernel
theorem dX12_law_193 : decode cX12_law 193 = .ok (.bipush 98, 2) := by decide +kernel
theorem dX12_law_195 : decode cX12_law 195 = .ok (.iadd, 1) := by decide +kernel
theorem dX12_law_196 : decode cX12_law 196 = .ok (.iconst 2, 1) := by decide +kernel
theorem dX12_law_197 : decode cX12_law 197 = .ok (.iload_n 2, 1) := by decide +kernel
theorem dX12_law_198 : decode cX12_law 198 = .ok (.imul, 1) := by decide +kernel
theorem dX12_law_199 : decode cX12_law 199 = .ok (.iadd, 1) := by decide +kernel
theorem dX12_law_200 : decode cX12_law 200 = .ok (.aload_n 0, 1) := by decide +kernel
theorem dX12_law_201 : decode cX12_law 201 = .ok (.getfield 33, 3) := by decide +kernel
theorem dX12_law_204 : decode cX12_law 204 = .ok (.iload_n 2, 1) := by decide +kernel
theorem dX12_law_205 : decode cX12_law 205 = .ok (.iaload, 1) := by decide +kernel
theorem dX12_law_206 : decode cX12_law 206 = .ok (.iastore, 1) := by decide +kernel
theorem dX12_law_207 : decode cX12_law 207 = .ok (.aload_n 0, 1) := by decide +kernel
theorem dX12_law_208 : decode cX12_law 208 = .ok (.getfield 13, 3) := by decide +kernel
theorem dX12_law_211 : decode cX12_law 211 = .ok (.iload_n 1, 1) := by decide +kernel
theorem dX12_law_212 : decode cX12_law 212 = .ok (.bipush 98, 2) := by decide +kernel
theorem dX12_law_214 : decode cX12_law 214 = .ok (.iadd, 1) := by decide +kernel
theorem dX12_law_215 : decode cX12_law 215 = .ok (.iconst 2, 1) := by decide +kernel
theorem dX12_law_216 : decode cX12_law 216 = .ok (.iload_n 2, 1) := by decide +kernel
theorem dX12_law_217 : decode cX12_law 217 = .ok (.imul, 1) := by decide +kernel
theorem dX12_law_218 : decode cX12_law 218 = .ok (.iadd, 1) := by decide +kernel
theorem dX12_law_219 : decode cX12_law 219 = .ok (.iconst 1, 1) := by decide +kernel
theorem dX12_law_220 : decode cX12_law 220 = .ok (.iadd, 1) := by decide +kernel
theorem dX12_law_221 : decode cX12_law 221 = .ok (.aload_n 0, 1) := by decide +kernel
theorem dX12_law_222 : decode cX12_law 222 = .ok (.getfield 36, 3) := by decide +kernel
theorem dX12_law_225 : decode cX12_law 225 = .ok (.iload_n 2, 1) := by decide +kernel
theorem dX12_law_226 : decode cX12_law 226 = .ok (.iaload, 1) := by decide +kernel
theorem dX12_law_227 : decode cX12_law 227 = .ok (.iastore, 1) := by decide +kernel
theorem dX12_law_228 : decode cX12_law 228 = .ok (.iinc 2 1, 3) := by decide +kernel
theorem dX12_law_231 : decode cX12_law 231 = .ok (.goto (-51), 3) := by decide +kernel
theorem dX12_law_234 : decode cX12_law 234 = .ok (.aload_n 0, 1) := by decide +kernel
theorem dX12_law_235 : decode cX12_law 235 = .ok (.getfield 13, 3) := by decide +kernel
theorem dX12_law_238 : decode cX12_law 238 = .ok (.iconst 2, 1) := by decide +kernel
theorem dX12_law_239 : decode cX12_law 239 = .ok (.dup2, 1) := by decide +kernel
theorem dX12_law_240 : decode cX12_law 240 = .ok (.iaload, 1) := by decide +kernel
theorem dX12_law_241 : decode cX12_law 241 = .ok (.iconst 1, 1) := by decide +kernel
theorem dX12_law_242 : decode cX12_law 242 = .ok (.iadd, 1) := by decide +kernel
theorem dX12_law_243 : decode cX12_law 243 = .ok (.iastore, 1) := by decide +kernel
theorem dX12_law_244 : decode cX12_law 244 = .ok (.aload_n 0, 1) := by decide +kernel
theorem dX12_law_245 : decode cX12_law 245 = .ok (.aload_n 0, 1) := by decide +kernel
theorem dX12_law_246 : decode cX12_law 246 = .ok (.getfield 13, 3) := by decide +kernel
theorem dX12_law_249 : decode cX12_law 249 = .ok (.iconst 2, 1) := by decide +kernel
theorem dX12_law_250 : decode cX12_law 250 = .ok (.iaload, 1) := by decide +kernel
theorem dX12_law_251 : decode cX12_law 251 = .ok (.iconst 1, 1) := by decide +kernel
theorem dX12_law_252 : decode cX12_law 252 = .ok (.isub, 1) := by decide +kernel
theorem dX12_law_253 : decode cX12_law 253 = .ok (.invokevirtual 133, 3) := by decide +kernel
theorem dX12_law_256 : decode cX12_law 256 = .ok (.ireturn, 1) := by decide +kernel
theorem dX12_force_0 : decode cX12_force 0 = .ok (.aload_n 0, 1) := by decide +kernel
theorem dX12_force_1 : decode cX12_force 1 = .ok (.iconst 0, 1) := by decide +kernel
theorem dX12_force_2 : decode cX12_force 2 = .ok (.putfield 123, 3) := by decide +kernel
theorem dX12_force_5 : decode cX12_force 5 = .ok (.iload_n 1, 1) := by decide +kernel
theorem dX12_force_6 : decode cX12_force 6 = .ok (.iconst (-1), 1) := by decide +kernel
theorem dX12_force_7 : decode cX12_force 7 = .ok (.if_icmp .eq 21, 3) := by decide +kernel
theorem dX12_force_10 : decode cX12_force 10 = .ok (.iload_n 1, 1) := by decide +kernel
theorem dX12_force_11 : decode cX12_force 11 = .ok (.i2l, 1) := by decide +kernel
theorem dX12_force_12 : decode cX12_force 12 = .ok (.lconst 0, 1) := by decide +kernel
theorem dX12_force_13 : decode cX12_force 13 = .ok (.aload_n 0, 1) := by decide +kernel
theorem dX12_force_14 : decode cX12_force 14 = .ok (.getfield 13, 3) := by decide +kernel
theorem dX12_force_17 : decode cX12_force 17 = .ok (.iconst 2, 1) := by decide +kernel
theorem dX12_force_18 : decode cX12_force 18 = .ok (.iaload, 1) := by decide +kernel
theorem dX12_force_19 : decode cX12_force 19 = .ok (.i2l, 1) := by decide +kernel
theorem dX12_force_20 : decode cX12_force 20 = .ok (.lconst 1, 1) := by decide +kernel
theorem dX12_force_21 : decode cX12_force 21 = .ok (.lsub, 1) := by decide +kernel
theorem dX12_force_22 : decode cX12_force 22 = .ok (.invokestatic 129, 3) := by decide +kernel
theorem dX12_force_25 : decode cX12_force 25 = .ok (.ifCond .eq 12, 3) := by decide +kernel
theorem dX12_force_28 : decode cX12_force 28 = .ok (.aload_n 0, 1) := by decide +kernel
theorem dX12_force_29 : decode cX12_force 29 = .ok (.iconst 3, 1) := by decide +kernel
theorem dX12_force_30 : decode cX12_force 30 = .ok (.iload_n 1, 1) := by decide +kernel
theorem dX12_force_31 : decode cX12_force 31 = .ok (.invokevirtual 177, 3) := by decide +kernel
theorem dX12_force_34 : decode cX12_force 34 = .ok (.goto 9, 3) := by decide +kernel
theorem dX12_force_37 : decode cX12_force 37 = .ok (.aload_n 0, 1) := by decide +kernel
theorem dX12_force_38 : decode cX12_force 38 = .ok (.bipush (-2), 2) := by decide +kernel
theorem dX12_force_40 : decode cX12_force 40 = .ok (.invokevirtual 133, 3) := by decide +kernel
theorem dX12_force_43 : decode cX12_force 43 = .ok (.ireturn, 1) := by decide +kernel
theorem dX12_reckon_0 : decode cX12_reckon 0 = .ok (.iload_n 1, 1) := by decide +kernel
theorem dX12_reckon_1 : decode cX12_reckon 1 = .ok (.tableswitch 112 20 25 #[39, 44, 49, 54, 86, 99], 39) := by decide +kernel
theorem dX12_reckon_40 : decode cX12_reckon 40 = .ok (.lload_n 2, 1) := by decide +kernel
theorem dX12_reckon_41 : decode cX12_reckon 41 = .ok (.lload 4, 2) := by decide +kernel
theorem dX12_reckon_43 : decode cX12_reckon 43 = .ok (.ladd, 1) := by decide +kernel
theorem dX12_reckon_44 : decode cX12_reckon 44 = .ok (.lreturn, 1) := by decide +kernel
theorem dX12_reckon_45 : decode cX12_reckon 45 = .ok (.lload_n 2, 1) := by decide +kernel
theorem dX12_reckon_46 : decode cX12_reckon 46 = .ok (.lload 4, 2) := by decide +kernel
theorem dX12_reckon_48 : decode cX12_reckon 48 = .ok (.lsub, 1) := by decide +kernel
theorem dX12_reckon_49 : decode cX12_reckon 49 = .ok (.lreturn, 1) := by decide +kernel
theorem dX12_reckon_50 : decode cX12_reckon 50 = .ok (.lload_n 2, 1) := by decide +kernel
theorem dX12_reckon_51 : decode cX12_reckon 51 = .ok (.lload 4, 2) := by decide +kernel
theorem dX12_reckon_53 : decode cX12_reckon 53 = .ok (.lmul, 1) := by decide +kernel
theorem dX12_reckon_54 : decode cX12_reckon 54 = .ok (.lreturn, 1) := by decide +kernel
theorem dX12_reckon_55 : decode cX12_reckon 55 = .ok (.aload_n 0, 1) := by decide +kernel
theorem dX12_reckon_56 : decode cX12_reckon 56 = .ok (.lload 4, 2) := by decide +kernel
theorem dX12_reckon_58 : decode cX12_reckon 58 = .ok (.lconst 0, 1) := by decide +kernel
theorem dX12_reckon_59 : decode cX12_reckon 59 = .ok (.lcmp, 1) := by decide +kernel
theorem dX12_reckon_60 : decode cX12_reckon 60 = .ok (.ifCond .ne 7, 3) := by decide +kernel
theorem dX12_reckon_63 : decode cX12_reckon 63 = .ok (.iconst 1, 1) := by decide +kernel
theorem dX12_reckon_64 : decode cX12_reckon 64 = .ok (.goto 4, 3) := by decide +kernel
theorem dX12_reckon_67 : decode cX12_reckon 67 = .ok (.iconst 0, 1) := by decide +kernel
theorem dX12_reckon_68 : decode cX12_reckon 68 = .ok (.putfield 324, 3) := by decide +kernel
theorem dX12_reckon_71 : decode cX12_reckon 71 = .ok (.aload_n 0, 1) := by decide +kernel
theorem dX12_reckon_72 : decode cX12_reckon 72 = .ok (.getfield 324, 3) := by decide +kernel
theorem dX12_reckon_75 : decode cX12_reckon 75 = .ok (.ifCond .eq 7, 3) := by decide +kernel
theorem dX12_reckon_78 : decode cX12_reckon 78 = .ok (.lconst 0, 1) := by decide +kernel
theorem dX12_reckon_79 : decode cX12_reckon 79 = .ok (.goto 7, 3) := by decide +kernel
theorem dX12_reckon_82 : decode cX12_reckon 82 = .ok (.lload_n 2, 1) := by decide +kernel
theorem dX12_reckon_83 : decode cX12_reckon 83 = .ok (.lload 4, 2) := by decide +kernel
theorem dX12_reckon_85 : decode cX12_reckon 85 = .ok (.ldiv, 1) := by decide +kernel
theorem dX12_reckon_86 : decode cX12_reckon 86 = .ok (.lreturn, 1) := by decide +kernel
theorem dX12_reckon_87 : decode cX12_reckon 87 = .ok (.lload_n 2, 1) := by decide +kernel
theorem dX12_reckon_88 : decode cX12_reckon 88 = .ok (.lload 4, 2) := by decide +kernel
theorem dX12_reckon_90 : decode cX12_reckon 90 = .ok (.lcmp, 1) := by decide +kernel
theorem dX12_reckon_91 : decode cX12_reckon 91 = .ok (.ifCond .ge 7, 3) := by decide +kernel
theorem dX12_reckon_94 : decode cX12_reckon 94 = .ok (.lconst 1, 1) := by decide +kernel
theorem dX12_reckon_95 : decode cX12_reckon 95 = .ok (.goto 4, 3) := by decide +kernel
theorem dX12_reckon_98 : decode cX12_reckon 98 = .ok (.lconst 0, 1) := by decide +kernel
theorem dX12_reckon_99 : decode cX12_reckon 99 = .ok (.lreturn, 1) := by decide +kernel
theorem dX12_reckon_100 : decode cX12_reckon 100 = .ok (.lload_n 2, 1) := by decide +kernel
theorem dX12_reckon_101 : decode cX12_reckon 101 = .ok (.lload 4, 2) := by decide +kernel
theorem dX12_reckon_103 : decode cX12_reckon 103 = .ok (.lcmp, 1) := by decide +kernel
theorem dX12_reckon_104 : decode cX12_reckon 104 = .ok (.ifCond .le 7, 3) := by decide +kernel
theorem dX12_reckon_107 : decode cX12_reckon 107 = .ok (.lconst 1, 1) := by decide +kernel
theorem dX12_reckon_108 : decode cX12_reckon 108 = .ok (.goto 4, 3) := by decide +kernel
theorem dX12_reckon_111 : decode cX12_reckon 111 = .ok (.lconst 0, 1) := by decide +kernel
theorem dX12_reckon_112 : decode cX12_reckon 112 = .ok (.lreturn, 1) := by decide +kernel
theorem dX12_reckon_113 : decode cX12_reckon 113 = .ok (.lload_n 2, 1) := by decide +kernel
theorem dX12_reckon_114 : decode cX12_reckon 114 = .ok (.lload 4, 2) := by decide +kernel
theorem dX12_reckon_116 : decode cX12_reckon 116 = .ok (.lcmp, 1) := by decide +kernel
theorem dX12_reckon_117 : decode cX12_reckon 117 = .ok (.ifCond .ne 7, 3) := by decide +kernel
theorem dX12_reckon_120 : decode cX12_reckon 120 = .ok (.lconst 1, 1) := by decide +kernel
theorem dX12_reckon_121 : decode cX12_reckon 121 = .ok (.goto 4, 3) := by decide +kernel
theorem dX12_reckon_124 : decode cX12_reckon 124 = .ok (.lconst 0, 1) := by decide +kernel
theorem dX12_reckon_125 : decode cX12_reckon 125 = .ok (.lreturn, 1) := by decide +kernel
theorem dX12_reckonAll_0 : decode cX12_reckonAll 0 = .ok (.aload_n 0, 1) := by decide +kernel
theorem dX12_reckonAll_1 : decode cX12_reckonAll 1 = .ok (.iconst 0, 1) := by decide +kernel
theorem dX12_reckonAll_2 : decode cX12_reckonAll 2 = .ok (.putfield 324, 3) := by decide +kernel
theorem dX12_reckonAll_5 : decode cX12_reckonAll 5 = .ok (.iconst 0, 1) := by decide +kernel
theorem dX12_reckonAll_6 : decode cX12_reckonAll 6 = .ok (.istore_n 3, 1) := by decide +kernel
theorem dX12_reckonAll_7 : decode cX12_reckonAll 7 = .ok (.iload_n 1, 1) := by decide +kernel
theorem dX12_reckonAll_8 : decode cX12_reckonAll 8 = .ok (.istore 4, 2) := by decide +kernel
theorem dX12_reckonAll_10 : decode cX12_reckonAll 10 = .ok (.iload 4, 2) := by decide +kernel
theorem dX12_reckonAll_12 : decode cX12_reckonAll 12 = .ok (.iload_n 2, 1) := by decide +kernel
theorem dX12_reckonAll_13 : decode cX12_reckonAll 13 = .ok (.if_icmp .ge 232, 3) := by decide +kernel
theorem dX12_reckonAll_16 : decode cX12_reckonAll 16 = .ok (.aload_n 0, 1) := by decide +kernel
theorem dX12_reckonAll_17 : decode cX12_reckonAll 17 = .ok (.getfield 324, 3) := by decide +kernel
theorem dX12_reckonAll_20 : decode cX12_reckonAll 20 = .ok (.ifCond .ne 225, 3) := by decide +kernel
theorem dX12_reckonAll_23 : decode cX12_reckonAll 23 = .ok (.aload_n 0, 1) := by decide +kernel
theorem dX12_reckonAll_24 : decode cX12_reckonAll 24 = .ok (.getfield 13, 3) := by decide +kernel
theorem dX12_reckonAll_27 : decode cX12_reckonAll 27 = .ok (.aload_n 0, 1) := by decide +kernel
theorem dX12_reckonAll_28 : decode cX12_reckonAll 28 = .ok (.getfield 327, 3) := by decide +kernel
theorem dX12_reckonAll_31 : decode cX12_reckonAll 31 = .ok (.bipush 98, 2) := by decide +kernel
theorem dX12_reckonAll_33 : decode cX12_reckonAll 33 = .ok (.iadd, 1) := by decide +kernel
theorem dX12_reckonAll_34 : decode cX12_reckonAll 34 = .ok (.iconst 2, 1) := by decide +kernel
theorem dX12_reckonAll_35 : decode cX12_reckonAll 35 = .ok (.iload 4, 2) := by decide +kernel
theorem dX12_reckonAll_37 : decode cX12_reckonAll 37 = .ok (.imul, 1) := by decide +kernel
theorem dX12_reckonAll_38 : decode cX12_reckonAll 38 = .ok (.iadd, 1) := by decide +kernel
theorem dX12_reckonAll_39 : decode cX12_reckonAll 39 = .ok (.iaload, 1) := by decide +kernel
theorem dX12_reckonAll_40 : decode cX12_reckonAll 40 = .ok (.istore 5, 2) := by decide +kernel
theorem dX12_reckonAll_42 : decode cX12_reckonAll 42 = .ok (.aload_n 0, 1) := by decide +kernel
theorem dX12_reckonAll_43 : decode cX12_reckonAll 43 = .ok (.getfield 13, 3) := by decide +kernel
theorem dX12_reckonAll_46 : decode cX12_reckonAll 46 = .ok (.aload_n 0, 1) := by decide +kernel
theorem dX12_reckonAll_47 : decode cX12_reckonAll 47 = .ok (.getfield 327, 3) := by decide +kernel
theorem dX12_reckonAll_50 : decode cX12_reckonAll 50 = .ok (.bipush 98, 2) := by decide +kernel
theorem dX12_reckonAll_52 : decode cX12_reckonAll 52 = .ok (.iadd, 1) := by decide +kernel
theorem dX12_reckonAll_53 : decode cX12_reckonAll 53 = .ok (.iconst 2, 1) := by decide +kernel
theorem dX12_reckonAll_54 : decode cX12_reckonAll 54 = .ok (.iload 4, 2) := by decide +kernel
theorem dX12_reckonAll_56 : decode cX12_reckonAll 56 = .ok (.imul, 1) := by decide +kernel
theorem dX12_reckonAll_57 : decode cX12_reckonAll 57 = .ok (.iadd, 1) := by decide +kernel
theorem dX12_reckonAll_58 : decode cX12_reckonAll 58 = .ok (.iconst 1, 1) := by decide +kernel
theorem dX12_reckonAll_59 : decode cX12_reckonAll 59 = .ok (.iadd, 1) := by decide +kernel
theorem dX12_reckonAll_60 : decode cX12_reckonAll 60 = .ok (.iaload, 1) := by decide +kernel
theorem dX12_reckonAll_61 : decode cX12_reckonAll 61 = .ok (.istore 6, 2) := by decide +kernel
theorem dX12_reckonAll_63 : decode cX12_reckonAll 63 = .ok (.iinc 4 1, 3) := by decide +kernel
theorem dX12_reckonAll_66 : decode cX12_reckonAll 66 = .ok (.iload 5, 2) := by decide +kernel
theorem dX12_reckonAll_68 : decode cX12_reckonAll 68 = .ok (.bipush 20, 2) := by decide +kernel
theorem dX12_reckonAll_70 : decode cX12_reckonAll 70 = .ok (.if_icmp .ge 33, 3) := by decide +kernel
theorem dX12_reckonAll_73 : decode cX12_reckonAll 73 = .ok (.aload_n 0, 1) := by decide +kernel
theorem dX12_reckonAll_74 : decode cX12_reckonAll 74 = .ok (.getfield 75, 3) := by decide +kernel
theorem dX12_reckonAll_77 : decode cX12_reckonAll 77 = .ok (.iload_n 3, 1) := by decide +kernel
theorem dX12_reckonAll_78 : decode cX12_reckonAll 78 = .ok (.iload 5, 2) := by decide +kernel
theorem dX12_reckonAll_80 : decode cX12_reckonAll 80 = .ok (.ifCond .ne 9, 3) := by decide +kernel
theorem dX12_reckonAll_83 : decode cX12_reckonAll 83 = .ok (.iload 6, 2) := by decide +kernel
theorem dX12_reckonAll_85 : decode cX12_reckonAll 85 = .ok (.i2l, 1) := by decide +kernel
theorem dX12_reckonAll_86 : decode cX12_reckonAll 86 = .ok (.goto 10, 3) := by decide +kernel
theorem dX12_reckonAll_89 : decode cX12_reckonAll 89 = .ok (.aload_n 0, 1) := by decide +kernel
theorem dX12_reckonAll_90 : decode cX12_reckonAll 90 = .ok (.getfield 72, 3) := by decide +kernel
theorem dX12_reckonAll_93 : decode cX12_reckonAll 93 = .ok (.iload 5, 2) := by decide +kernel
theorem dX12_reckonAll_95 : decode cX12_reckonAll 95 = .ok (.laload, 1) := by decide +kernel
theorem dX12_reckonAll_96 : decode cX12_reckonAll 96 = .ok (.lastore, 1) := by decide +kernel
theorem dX12_reckonAll_97 : decode cX12_reckonAll 97 = .ok (.iinc 3 1, 3) := by decide +kernel
theorem dX12_reckonAll_100 : decode cX12_reckonAll 100 = .ok (.goto 142, 3) := by decide +kernel
theorem dX12_reckonAll_103 : decode cX12_reckonAll 103 = .ok (.iload 5, 2) := by decide +kernel
theorem dX12_reckonAll_105 : decode cX12_reckonAll 105 = .ok (.bipush 27, 2) := by decide +kernel
theorem dX12_reckonAll_107 : decode cX12_reckonAll 107 = .ok (.if_icmp .ge 73, 3) := by decide +kernel
theorem dX12_reckonAll_110 : decode cX12_reckonAll 110 = .ok (.iinc 3 (-1), 3) := by decide +kernel
theorem dX12_reckonAll_113 : decode cX12_reckonAll 113 = .ok (.aload_n 0, 1) := by decide +kernel
theorem dX12_reckonAll_114 : decode cX12_reckonAll 114 = .ok (.getfield 75, 3) := by decide +kernel
theorem dX12_reckonAll_117 : decode cX12_reckonAll 117 = .ok (.iload_n 3, 1) := by decide +kernel
theorem dX12_reckonAll_118 : decode cX12_reckonAll 118 = .ok (.iconst 1, 1) := by decide +kernel
theorem dX12_reckonAll_119 : decode cX12_reckonAll 119 = .ok (.isub, 1) := by decide +kernel
theorem dX12_reckonAll_120 : decode cX12_reckonAll 120 = .ok (.aload_n 0, 1) := by decide +kernel
theorem dX12_reckonAll_121 : decode cX12_reckonAll 121 = .ok (.iload 5, 2) := by decide +kernel
theorem dX12_reckonAll_123 : decode cX12_reckonAll 123 = .ok (.aload_n 0, 1) := by decide +kernel
theorem dX12_reckonAll_124 : decode cX12_reckonAll 124 = .ok (.getfield 75, 3) := by decide +kernel
theorem dX12_reckonAll_127 : decode cX12_reckonAll 127 = .ok (.iload_n 3, 1) := by decide +kernel
theorem dX12_reckonAll_128 : decode cX12_reckonAll 128 = .ok (.iconst 1, 1) := by decide +kernel
theorem dX12_reckonAll_129 : decode cX12_reckonAll 129 = .ok (.isub, 1) := by decide +kernel
theorem dX12_reckonAll_130 : decode cX12_reckonAll 130 = .ok (.laload, 1) := by decide +kernel
theorem dX12_reckonAll_131 : decode cX12_reckonAll 131 = .ok (.aload_n 0, 1) := by decide +kernel
theorem dX12_reckonAll_132 : decode cX12_reckonAll 132 = .ok (.getfield 75, 3) := by decide +kernel
theorem dX12_reckonAll_135 : decode cX12_reckonAll 135 = .ok (.iload_n 3, 1) := by decide +kernel
theorem dX12_reckonAll_136 : decode cX12_reckonAll 136 = .ok (.laload, 1) := by decide +kernel
theorem dX12_reckonAll_137 : decode cX12_reckonAll 137 = .ok (.invokevirtual 330, 3) := by decide +kernel
theorem dX12_reckonAll_140 : decode cX12_reckonAll 140 = .ok (.lastore, 1) := by decide +kernel
theorem dX12_reckonAll_141 : decode cX12_reckonAll 141 = .ok (.aload_n 0, 1) := by decide +kernel
theorem dX12_reckonAll_142 : decode cX12_reckonAll 142 = .ok (.aload_n 0, 1) := by decide +kernel
theorem dX12_reckonAll_143 : decode cX12_reckonAll 143 = .ok (.getfield 324, 3) := by decide +kernel
theorem dX12_reckonAll_146 : decode cX12_reckonAll 146 = .ok (.ifCond .ne 23, 3) := by decide +kernel
theorem dX12_reckonAll_149 : decode cX12_reckonAll 149 = .ok (.aload_n 0, 1) := by decide +kernel
theorem dX12_reckonAll_150 : decode cX12_reckonAll 150 = .ok (.getfield 75, 3) := by decide +kernel
theorem dX12_reckonAll_153 : decode cX12_reckonAll 153 = .ok (.iload_n 3, 1) := by decide +kernel
theorem dX12_reckonAll_154 : decode cX12_reckonAll 154 = .ok (.iconst 1, 1) := by decide +kernel
theorem dX12_reckonAll_155 : decode cX12_reckonAll 155 = .ok (.isub, 1) := by decide +kernel
theorem dX12_reckonAll_156 : decode cX12_reckonAll 156 = .ok (.laload, 1) := by decide +kernel
theorem dX12_reckonAll_157 : decode cX12_reckonAll 157 = .ok (.ldc2_w 334, 3) := by decide +kernel
theorem dX12_reckonAll_160 : decode cX12_reckonAll 160 = .ok (.ldc2_w 336, 3) := by decide +kernel
theorem dX12_reckonAll_163 : decode cX12_reckonAll 163 = .ok (.invokestatic 129, 3) := by decide +kernel
theorem dX12_reckonAll_166 : decode cX12_reckonAll 166 = .ok (.ifCond .ne 7, 3) := by decide +kernel
theorem dX12_reckonAll_169 : decode cX12_reckonAll 169 = .ok (.iconst 1, 1) := by decide +kernel
theorem dX12_reckonAll_170 : decode cX12_reckonAll 170 = .ok (.goto 4, 3) := by decide +kernel
theorem dX12_reckonAll_173 : decode cX12_reckonAll 173 = .ok (.iconst 0, 1) := by decide +kernel
theorem dX12_reckonAll_174 : decode cX12_reckonAll 174 = .ok (.putfield 324, 3) := by decide +kernel
theorem dX12_reckonAll_177 : decode cX12_reckonAll 177 = .ok (.goto 65, 3) := by decide +kernel
theorem dX12_reckonAll_180 : decode cX12_reckonAll 180 = .ok (.iload 5, 2) := by decide +kernel
theorem dX12_reckonAll_182 : decode cX12_reckonAll 182 = .ok (.bipush 27, 2) := by decide +kernel
theorem dX12_reckonAll_184 : decode cX12_reckonAll 184 = .ok (.if_icmp .ne 24, 3) := by decide +kernel
theorem dX12_reckonAll_187 : decode cX12_reckonAll 187 = .ok (.aload_n 0, 1) := by decide +kernel
theorem dX12_reckonAll_188 : decode cX12_reckonAll 188 = .ok (.getfield 75, 3) := by decide +kernel
theorem dX12_reckonAll_191 : decode cX12_reckonAll 191 = .ok (.iload_n 3, 1) := by decide +kernel
theorem dX12_reckonAll_192 : decode cX12_reckonAll 192 = .ok (.iconst 1, 1) := by decide +kernel
theorem dX12_reckonAll_193 : decode cX12_reckonAll 193 = .ok (.isub, 1) := by decide +kernel
theorem dX12_reckonAll_194 : decode cX12_reckonAll 194 = .ok (.lconst 1, 1) := by decide +kernel
theorem dX12_reckonAll_195 : decode cX12_reckonAll 195 = .ok (.aload_n 0, 1) := by decide +kernel
theorem dX12_reckonAll_196 : decode cX12_reckonAll 196 = .ok (.getfield 75, 3) := by decide +kernel
theorem dX12_reckonAll_199 : decode cX12_reckonAll 199 = .ok (.iload_n 3, 1) := by decide +kernel
theorem dX12_reckonAll_200 : decode cX12_reckonAll 200 = .ok (.iconst 1, 1) := by decide +kernel
theorem dX12_reckonAll_201 : decode cX12_reckonAll 201 = .ok (.isub, 1) := by decide +kernel
theorem dX12_reckonAll_202 : decode cX12_reckonAll 202 = .ok (.laload, 1) := by decide +kernel
theorem dX12_reckonAll_203 : decode cX12_reckonAll 203 = .ok (.lsub, 1) := by decide +kernel
theorem dX12_reckonAll_204 : decode cX12_reckonAll 204 = .ok (.lastore, 1) := by decide +kernel
theorem dX12_reckonAll_205 : decode cX12_reckonAll 205 = .ok (.goto 37, 3) := by decide +kernel
theorem dX12_reckonAll_208 : decode cX12_reckonAll 208 = .ok (.aload_n 0, 1) := by decide +kernel
theorem dX12_reckonAll_209 : decode cX12_reckonAll 209 = .ok (.getfield 75, 3) := by decide +kernel
theorem dX12_reckonAll_212 : decode cX12_reckonAll 212 = .ok (.iload_n 3, 1) := by decide +kernel
theorem dX12_reckonAll_213 : decode cX12_reckonAll 213 = .ok (.iconst 1, 1) := by decide +kernel
theorem dX12_reckonAll_214 : decode cX12_reckonAll 214 = .ok (.isub, 1) := by decide +kernel
theorem dX12_reckonAll_215 : decode cX12_reckonAll 215 = .ok (.laload, 1) := by decide +kernel
theorem dX12_reckonAll_216 : decode cX12_reckonAll 216 = .ok (.iload 5, 2) := by decide +kernel
theorem dX12_reckonAll_218 : decode cX12_reckonAll 218 = .ok (.bipush 28, 2) := by decide +kernel
theorem dX12_reckonAll_220 : decode cX12_reckonAll 220 = .ok (.if_icmp .ne 7, 3) := by decide +kernel
theorem dX12_reckonAll_223 : decode cX12_reckonAll 223 = .ok (.lconst 0, 1) := by decide +kernel
theorem dX12_reckonAll_224 : decode cX12_reckonAll 224 = .ok (.goto 4, 3) := by decide +kernel
theorem dX12_reckonAll_227 : decode cX12_reckonAll 227 = .ok (.lconst 1, 1) := by decide +kernel
theorem dX12_reckonAll_228 : decode cX12_reckonAll 228 = .ok (.lcmp, 1) := by decide +kernel
theorem dX12_reckonAll_229 : decode cX12_reckonAll 229 = .ok (.ifCond .ne 10, 3) := by decide +kernel
theorem dX12_reckonAll_232 : decode cX12_reckonAll 232 = .ok (.iload 6, 2) := by decide +kernel
theorem dX12_reckonAll_234 : decode cX12_reckonAll 234 = .ok (.istore 4, 2) := by decide +kernel
theorem dX12_reckonAll_236 : decode cX12_reckonAll 236 = .ok (.goto 6, 3) := by decide +kernel
theorem dX12_reckonAll_239 : decode cX12_reckonAll 239 = .ok (.iinc 3 (-1), 3) := by decide +kernel
theorem dX12_reckonAll_242 : decode cX12_reckonAll 242 = .ok (.goto (-232), 3) := by decide +kernel
theorem dX12_reckonAll_245 : decode cX12_reckonAll 245 = .ok (.aload_n 0, 1) := by decide +kernel
theorem dX12_reckonAll_246 : decode cX12_reckonAll 246 = .ok (.iload_n 3, 1) := by decide +kernel
theorem dX12_reckonAll_247 : decode cX12_reckonAll 247 = .ok (.ifCond .le 12, 3) := by decide +kernel
theorem dX12_reckonAll_250 : decode cX12_reckonAll 250 = .ok (.aload_n 0, 1) := by decide +kernel
theorem dX12_reckonAll_251 : decode cX12_reckonAll 251 = .ok (.getfield 75, 3) := by decide +kernel
theorem dX12_reckonAll_254 : decode cX12_reckonAll 254 = .ok (.iconst 0, 1) := by decide +kernel
theorem dX12_reckonAll_255 : decode cX12_reckonAll 255 = .ok (.laload, 1) := by decide +kernel
theorem dX12_reckonAll_256 : decode cX12_reckonAll 256 = .ok (.goto 4, 3) := by decide +kernel
theorem dX12_reckonAll_259 : decode cX12_reckonAll 259 = .ok (.lconst 0, 1) := by decide +kernel
theorem dX12_reckonAll_260 : decode cX12_reckonAll 260 = .ok (.putfield 338, 3) := by decide +kernel
theorem dX12_reckonAll_263 : decode cX12_reckonAll 263 = .ok (.return_, 1) := by decide +kernel
theorem dX12_isSo_0 : decode cX12_isSo 0 = .ok (.aload_n 0, 1) := by decide +kernel
theorem dX12_isSo_1 : decode cX12_isSo 1 = .ok (.getfield 13, 3) := by decide +kernel
theorem dX12_isSo_4 : decode cX12_isSo 4 = .ok (.iload_n 1, 1) := by decide +kernel
theorem dX12_isSo_5 : decode cX12_isSo 5 = .ok (.iconst 5, 1) := by decide +kernel
theorem dX12_isSo_6 : decode cX12_isSo 6 = .ok (.iadd, 1) := by decide +kernel
theorem dX12_isSo_7 : decode cX12_isSo 7 = .ok (.iaload, 1) := by decide +kernel
theorem dX12_isSo_8 : decode cX12_isSo 8 = .ok (.aload_n 0, 1) := by decide +kernel
theorem dX12_isSo_9 : decode cX12_isSo 9 = .ok (.getfield 13, 3) := by decide +kernel
theorem dX12_isSo_12 : decode cX12_isSo 12 = .ok (.iload_n 1, 1) := by decide +kernel
theorem dX12_isSo_13 : decode cX12_isSo 13 = .ok (.bipush 6, 2) := by decide +kernel
theorem dX12_isSo_15 : decode cX12_isSo 15 = .ok (.iadd, 1) := by decide +kernel
theorem dX12_isSo_16 : decode cX12_isSo 16 = .ok (.iaload, 1) := by decide +kernel
theorem dX12_isSo_17 : decode cX12_isSo 17 = .ok (.if_icmp .ge 42, 3) := by decide +kernel
theorem dX12_isSo_20 : decode cX12_isSo 20 = .ok (.aload_n 0, 1) := by decide +kernel
theorem dX12_isSo_21 : decode cX12_isSo 21 = .ok (.aload_n 0, 1) := by decide +kernel
theorem dX12_isSo_22 : decode cX12_isSo 22 = .ok (.getfield 13, 3) := by decide +kernel
theorem dX12_isSo_25 : decode cX12_isSo 25 = .ok (.iload_n 1, 1) := by decide +kernel
theorem dX12_isSo_26 : decode cX12_isSo 26 = .ok (.iconst 5, 1) := by decide +kernel
theorem dX12_isSo_27 : decode cX12_isSo 27 = .ok (.iadd, 1) := by decide +kernel
theorem dX12_isSo_28 : decode cX12_isSo 28 = .ok (.iaload, 1) := by decide +kernel
theorem dX12_isSo_29 : decode cX12_isSo 29 = .ok (.aload_n 0, 1) := by decide +kernel
theorem dX12_isSo_30 : decode cX12_isSo 30 = .ok (.getfield 13, 3) := by decide +kernel
theorem dX12_isSo_33 : decode cX12_isSo 33 = .ok (.iload_n 1, 1) := by decide +kernel
theorem dX12_isSo_34 : decode cX12_isSo 34 = .ok (.bipush 6, 2) := by decide +kernel
theorem dX12_isSo_36 : decode cX12_isSo 36 = .ok (.iadd, 1) := by decide +kernel
theorem dX12_isSo_37 : decode cX12_isSo 37 = .ok (.iaload, 1) := by decide +kernel
theorem dX12_isSo_38 : decode cX12_isSo 38 = .ok (.invokevirtual 341, 3) := by decide +kernel
theorem dX12_isSo_41 : decode cX12_isSo 41 = .ok (.aload_n 0, 1) := by decide +kernel
theorem dX12_isSo_42 : decode cX12_isSo 42 = .ok (.getfield 324, 3) := by decide +kernel
theorem dX12_isSo_45 : decode cX12_isSo 45 = .ok (.ifCond .ne 12, 3) := by decide +kernel
theorem dX12_isSo_48 : decode cX12_isSo 48 = .ok (.aload_n 0, 1) := by decide +kernel
theorem dX12_isSo_49 : decode cX12_isSo 49 = .ok (.getfield 338, 3) := by decide +kernel
theorem dX12_isSo_52 : decode cX12_isSo 52 = .ok (.lconst 0, 1) := by decide +kernel
theorem dX12_isSo_53 : decode cX12_isSo 53 = .ok (.lcmp, 1) := by decide +kernel
theorem dX12_isSo_54 : decode cX12_isSo 54 = .ok (.ifCond .ne 5, 3) := by decide +kernel
theorem dX12_isSo_57 : decode cX12_isSo 57 = .ok (.iconst 0, 1) := by decide +kernel
theorem dX12_isSo_58 : decode cX12_isSo 58 = .ok (.ireturn, 1) := by decide +kernel
theorem dX12_isSo_59 : decode cX12_isSo 59 = .ok (.aload_n 0, 1) := by decide +kernel
theorem dX12_isSo_60 : decode cX12_isSo 60 = .ok (.getfield 13, 3) := by decide +kernel
theorem dX12_isSo_63 : decode cX12_isSo 63 = .ok (.iload_n 1, 1) := by decide +kernel
theorem dX12_isSo_64 : decode cX12_isSo 64 = .ok (.iaload, 1) := by decide +kernel
theorem dX12_isSo_65 : decode cX12_isSo 65 = .ok (.ifCond .ne 44, 3) := by decide +kernel
theorem dX12_isSo_68 : decode cX12_isSo 68 = .ok (.aload_n 0, 1) := by decide +kernel
theorem dX12_isSo_69 : decode cX12_isSo 69 = .ok (.aload_n 0, 1) := by decide +kernel
theorem dX12_isSo_70 : decode cX12_isSo 70 = .ok (.getfield 13, 3) := by decide +kernel
theorem dX12_isSo_73 : decode cX12_isSo 73 = .ok (.iload_n 1, 1) := by decide +kernel
theorem dX12_isSo_74 : decode cX12_isSo 74 = .ok (.iconst 3, 1) := by decide +kernel
theorem dX12_isSo_75 : decode cX12_isSo 75 = .ok (.iadd, 1) := by decide +kernel
theorem dX12_isSo_76 : decode cX12_isSo 76 = .ok (.iaload, 1) := by decide +kernel
theorem dX12_isSo_77 : decode cX12_isSo 77 = .ok (.aload_n 0, 1) := by decide +kernel
theorem dX12_isSo_78 : decode cX12_isSo 78 = .ok (.getfield 13, 3) := by decide +kernel
theorem dX12_isSo_81 : decode cX12_isSo 81 = .ok (.iload_n 1, 1) := by decide +kernel
theorem dX12_isSo_82 : decode cX12_isSo 82 = .ok (.iconst 4, 1) := by decide +kernel
theorem dX12_isSo_83 : decode cX12_isSo 83 = .ok (.iadd, 1) := by decide +kernel
theorem dX12_isSo_84 : decode cX12_isSo 84 = .ok (.iaload, 1) := by decide +kernel
theorem dX12_isSo_85 : decode cX12_isSo 85 = .ok (.invokevirtual 341, 3) := by decide +kernel
theorem dX12_isSo_88 : decode cX12_isSo 88 = .ok (.aload_n 0, 1) := by decide +kernel
theorem dX12_isSo_89 : decode cX12_isSo 89 = .ok (.aload_n 0, 1) := by decide +kernel
theorem dX12_isSo_90 : decode cX12_isSo 90 = .ok (.getfield 338, 3) := by decide +kernel
theorem dX12_isSo_93 : decode cX12_isSo 93 = .ok (.putfield 344, 3) := by decide +kernel
theorem dX12_isSo_96 : decode cX12_isSo 96 = .ok (.aload_n 0, 1) := by decide +kernel
theorem dX12_isSo_97 : decode cX12_isSo 97 = .ok (.getfield 324, 3) := by decide +kernel
theorem dX12_isSo_100 : decode cX12_isSo 100 = .ok (.ifCond .ne 7, 3) := by decide +kernel
theorem dX12_isSo_103 : decode cX12_isSo 103 = .ok (.iconst 1, 1) := by decide +kernel
theorem dX12_isSo_104 : decode cX12_isSo 104 = .ok (.goto 4, 3) := by decide +kernel
theorem dX12_isSo_107 : decode cX12_isSo 107 = .ok (.iconst 0, 1) := by decide +kernel
theorem dX12_isSo_108 : decode cX12_isSo 108 = .ok (.ireturn, 1) := by decide +kernel
theorem dX12_isSo_109 : decode cX12_isSo 109 = .ok (.iconst 1, 1) := by decide +kernel
theorem dX12_isSo_110 : decode cX12_isSo 110 = .ok (.ireturn, 1) := by decide +kernel
theorem dX12_askAll_0 : decode cX12_askAll 0 = .ok (.iconst 0, 1) := by decide +kernel
theorem dX12_askAll_1 : decode cX12_askAll 1 = .ok (.istore_n 1, 1) := by decide +kernel
theorem dX12_askAll_2 : decode cX12_askAll 2 = .ok (.iload_n 1, 1) := by decide +kernel
theorem dX12_askAll_3 : decode cX12_askAll 3 = .ok (.aload_n 0, 1) := by decide +kernel
theorem dX12_askAll_4 : decode cX12_askAll 4 = .ok (.invokevirtual 139, 3) := by decide +kernel
theorem dX12_askAll_7 : decode cX12_askAll 7 = .ok (.if_icmp .ge 14, 3) := by decide +kernel
theorem dX12_askAll_10 : decode cX12_askAll 10 = .ok (.aload_n 0, 1) := by decide +kernel
theorem dX12_askAll_11 : decode cX12_askAll 11 = .ok (.iload_n 1, 1) := by decide +kernel
theorem dX12_askAll_12 : decode cX12_askAll 12 = .ok (.invokevirtual 347, 3) := by decide +kernel
theorem dX12_askAll_15 : decode cX12_askAll 15 = .ok (.iinc 1 1, 3) := by decide +kernel
theorem dX12_askAll_18 : decode cX12_askAll 18 = .ok (.goto (-16), 3) := by decide +kernel
theorem dX12_askAll_21 : decode cX12_askAll 21 = .ok (.return_, 1) := by decide +kernel
theorem dX12_askOne_0 : decode cX12_askOne 0 = .ok (.aload_n 0, 1) := by decide +kernel
theorem dX12_askOne_1 : decode cX12_askOne 1 = .ok (.iload_n 1, 1) := by decide +kernel
theorem dX12_askOne_2 : decode cX12_askOne 2 = .ok (.invokevirtual 350, 3) := by decide +kernel
theorem dX12_askOne_5 : decode cX12_askOne 5 = .ok (.i2l, 1) := by decide +kernel
theorem dX12_askOne_6 : decode cX12_askOne 6 = .ok (.lstore_n 2, 1) := by decide +kernel
theorem dX12_askOne_7 : decode cX12_askOne 7 = .ok (.aload_n 0, 1) := by decide +kernel
theorem dX12_askOne_8 : decode cX12_askOne 8 = .ok (.getfield 81, 3) := by decide +kernel
theorem dX12_askOne_11 : decode cX12_askOne 11 = .ok (.iload_n 1, 1) := by decide +kernel
theorem dX12_askOne_12 : decode cX12_askOne 12 = .ok (.iconst 0, 1) := by decide +kernel
theorem dX12_askOne_13 : decode cX12_askOne 13 = .ok (.bastore, 1) := by decide +kernel
theorem dX12_askOne_14 : decode cX12_askOne 14 = .ok (.aload_n 0, 1) := by decide +kernel
theorem dX12_askOne_15 : decode cX12_askOne 15 = .ok (.getfield 84, 3) := by decide +kernel
theorem dX12_askOne_18 : decode cX12_askOne 18 = .ok (.iload_n 1, 1) := by decide +kernel
theorem dX12_askOne_19 : decode cX12_askOne 19 = .ok (.iconst 0, 1) := by decide +kernel
theorem dX12_askOne_20 : decode cX12_askOne 20 = .ok (.bastore, 1) := by decide +kernel
theorem dX12_askOne_21 : decode cX12_askOne 21 = .ok (.aload_n 0, 1) := by decide +kernel
theorem dX12_askOne_22 : decode cX12_askOne 22 = .ok (.getfield 13, 3) := by decide +kernel
theorem dX12_askOne_25 : decode cX12_askOne 25 = .ok (.iconst 3, 1) := by decide +kernel
theorem dX12_askOne_26 : decode cX12_askOne 26 = .ok (.iaload, 1) := by decide +kernel
theorem dX12_askOne_27 : decode cX12_askOne 27 = .ok (.iconst (-1), 1) := by decide +kernel
theorem dX12_askOne_28 : decode cX12_askOne 28 = .ok (.if_icmp .eq 293, 3) := by decide +kernel
theorem dX12_askOne_31 : decode cX12_askOne 31 = .ok (.aload_n 0, 1) := by decide +kernel
theorem dX12_askOne_32 : decode cX12_askOne 32 = .ok (.sipush 160, 3) := by decide +kernel
theorem dX12_askOne_35 : decode cX12_askOne 35 = .ok (.sipush 900, 3) := by decide +kernel
theorem dX12_askOne_38 : decode cX12_askOne 38 = .ok (.aload_n 0, 1) := by decide +kernel
theorem dX12_askOne_39 : decode cX12_askOne 39 = .ok (.getfield 13, 3) := by decide +kernel
theorem dX12_askOne_42 : decode cX12_askOne 42 = .ok (.iconst 3, 1) := by decide +kernel
theorem dX12_askOne_43 : decode cX12_askOne 43 = .ok (.iaload, 1) := by decide +kernel
theorem dX12_askOne_44 : decode cX12_askOne 44 = .ok (.imul, 1) := by decide +kernel
theorem dX12_askOne_45 : decode cX12_askOne 45 = .ok (.iadd, 1) := by decide +kernel
theorem dX12_askOne_46 : decode cX12_askOne 46 = .ok (.putfield 327, 3) := by decide +kernel
theorem dX12_askOne_49 : decode cX12_askOne 49 = .ok (.aload_n 0, 1) := by decide +kernel
theorem dX12_askOne_50 : decode cX12_askOne 50 = .ok (.getfield 72, 3) := by decide +kernel
theorem dX12_askOne_53 : decode cX12_askOne 53 = .ok (.iconst 1, 1) := by decide +kernel
theorem dX12_askOne_54 : decode cX12_askOne 54 = .ok (.aload_n 0, 1) := by decide +kernel
theorem dX12_askOne_55 : decode cX12_askOne 55 = .ok (.iload_n 1, 1) := by decide +kernel
theorem dX12_askOne_56 : decode cX12_askOne 56 = .ok (.iconst 0, 1) := by decide +kernel
theorem dX12_askOne_57 : decode cX12_askOne 57 = .ok (.invokevirtual 143, 3) := by decide +kernel
theorem dX12_askOne_60 : decode cX12_askOne 60 = .ok (.i2l, 1) := by decide +kernel
theorem dX12_askOne_61 : decode cX12_askOne 61 = .ok (.lastore, 1) := by decide +kernel
theorem dX12_askOne_62 : decode cX12_askOne 62 = .ok (.aload_n 0, 1) := by decide +kernel
theorem dX12_askOne_63 : decode cX12_askOne 63 = .ok (.getfield 72, 3) := by decide +kernel
theorem dX12_askOne_66 : decode cX12_askOne 66 = .ok (.iconst 2, 1) := by decide +kernel
theorem dX12_askOne_67 : decode cX12_askOne 67 = .ok (.aload_n 0, 1) := by decide +kernel
theorem dX12_askOne_68 : decode cX12_askOne 68 = .ok (.iload_n 1, 1) := by decide +kernel
theorem dX12_askOne_69 : decode cX12_askOne 69 = .ok (.iconst 1, 1) := by decide +kernel
theorem dX12_askOne_70 : decode cX12_askOne 70 = .ok (.invokevirtual 143, 3) := by decide +kernel
theorem dX12_askOne_73 : decode cX12_askOne 73 = .ok (.i2l, 1) := by decide +kernel
theorem dX12_askOne_74 : decode cX12_askOne 74 = .ok (.lastore, 1) := by decide +kernel
theorem dX12_askOne_75 : decode cX12_askOne 75 = .ok (.aload_n 0, 1) := by decide +kernel
theorem dX12_askOne_76 : decode cX12_askOne 76 = .ok (.getfield 72, 3) := by decide +kernel
theorem dX12_askOne_79 : decode cX12_askOne 79 = .ok (.iconst 3, 1) := by decide +kernel
theorem dX12_askOne_80 : decode cX12_askOne 80 = .ok (.aload_n 0, 1) := by decide +kernel
theorem dX12_askOne_81 : decode cX12_askOne 81 = .ok (.iload_n 1, 1) := by decide +kernel
theorem dX12_askOne_82 : decode cX12_askOne 82 = .ok (.iconst 2, 1) := by decide +kernel
theorem dX12_askOne_83 : decode cX12_askOne 83 = .ok (.invokevirtual 143, 3) := by decide +kernel
theorem dX12_askOne_86 : decode cX12_askOne 86 = .ok (.i2l, 1) := by decide +kernel
theorem dX12_askOne_87 : decode cX12_askOne 87 = .ok (.lastore, 1) := by decide +kernel
theorem dX12_askOne_88 : decode cX12_askOne 88 = .ok (.aload_n 0, 1) := by decide +kernel
theorem dX12_askOne_89 : decode cX12_askOne 89 = .ok (.getfield 72, 3) := by decide +kernel
theorem dX12_askOne_92 : decode cX12_askOne 92 = .ok (.iconst 4, 1) := by decide +kernel
theorem dX12_askOne_93 : decode cX12_askOne 93 = .ok (.aload_n 0, 1) := by decide +kernel
theorem dX12_askOne_94 : decode cX12_askOne 94 = .ok (.iload_n 1, 1) := by decide +kernel
theorem dX12_askOne_95 : decode cX12_askOne 95 = .ok (.invokevirtual 350, 3) := by decide +kernel
theorem dX12_askOne_98 : decode cX12_askOne 98 = .ok (.i2l, 1) := by decide +kernel
theorem dX12_askOne_99 : decode cX12_askOne 99 = .ok (.lastore, 1) := by decide +kernel
theorem dX12_askOne_100 : decode cX12_askOne 100 = .ok (.aload_n 0, 1) := by decide +kernel
theorem dX12_askOne_101 : decode cX12_askOne 101 = .ok (.getfield 72, 3) := by decide +kernel
theorem dX12_askOne_104 : decode cX12_askOne 104 = .ok (.iconst 5, 1) := by decide +kernel
theorem dX12_askOne_105 : decode cX12_askOne 105 = .ok (.aload_n 0, 1) := by decide +kernel
theorem dX12_askOne_106 : decode cX12_askOne 106 = .ok (.iload_n 1, 1) := by decide +kernel
theorem dX12_askOne_107 : decode cX12_askOne 107 = .ok (.iconst 3, 1) := by decide +kernel
theorem dX12_askOne_108 : decode cX12_askOne 108 = .ok (.invokevirtual 143, 3) := by decide +kernel
theorem dX12_askOne_111 : decode cX12_askOne 111 = .ok (.i2l, 1) := by decide +kernel
theorem dX12_askOne_112 : decode cX12_askOne 112 = .ok (.lastore, 1) := by decide +kernel
theorem dX12_askOne_113 : decode cX12_askOne 113 = .ok (.aload_n 0, 1) := by decide +kernel
theorem dX12_askOne_114 : decode cX12_askOne 114 = .ok (.getfield 72, 3) := by decide +kernel
theorem dX12_askOne_117 : decode cX12_askOne 117 = .ok (.bipush 6, 2) := by decide +kernel
theorem dX12_askOne_119 : decode cX12_askOne 119 = .ok (.aload_n 0, 1) := by decide +kernel
theorem dX12_askOne_120 : decode cX12_askOne 120 = .ok (.getfield 13, 3) := by decide +kernel
theorem dX12_askOne_123 : decode cX12_askOne 123 = .ok (.bipush 7, 2) := by decide +kernel
theorem dX12_askOne_125 : decode cX12_askOne 125 = .ok (.iaload, 1) := by decide +kernel
theorem dX12_askOne_126 : decode cX12_askOne 126 = .ok (.aload_n 0, 1) := by decide +kernel
theorem dX12_askOne_127 : decode cX12_askOne 127 = .ok (.iload_n 1, 1) := by decide +kernel
theorem dX12_askOne_128 : decode cX12_askOne 128 = .ok (.iconst 4, 1) := by decide +kernel
theorem dX12_askOne_129 : decode cX12_askOne 129 = .ok (.invokevirtual 143, 3) := by decide +kernel
theorem dX12_askOne_132 : decode cX12_askOne 132 = .ok (.isub, 1) := by decide +kernel
theorem dX12_askOne_133 : decode cX12_askOne 133 = .ok (.i2l, 1) := by decide +kernel
theorem dX12_askOne_134 : decode cX12_askOne 134 = .ok (.lastore, 1) := by decide +kernel
theorem dX12_askOne_135 : decode cX12_askOne 135 = .ok (.aload_n 0, 1) := by decide +kernel
theorem dX12_askOne_136 : decode cX12_askOne 136 = .ok (.getfield 72, 3) := by decide +kernel
theorem dX12_askOne_139 : decode cX12_askOne 139 = .ok (.bipush 7, 2) := by decide +kernel
theorem dX12_askOne_141 : decode cX12_askOne 141 = .ok (.lconst 0, 1) := by decide +kernel
theorem dX12_askOne_142 : decode cX12_askOne 142 = .ok (.lastore, 1) := by decide +kernel
theorem dX12_askOne_143 : decode cX12_askOne 143 = .ok (.iconst 0, 1) := by decide +kernel
theorem dX12_askOne_144 : decode cX12_askOne 144 = .ok (.istore 4, 2) := by decide +kernel
theorem dX12_askOne_146 : decode cX12_askOne 146 = .ok (.iload 4, 2) := by decide +kernel
theorem dX12_askOne_148 : decode cX12_askOne 148 = .ok (.aload_n 0, 1) := by decide +kernel
theorem dX12_askOne_149 : decode cX12_askOne 149 = .ok (.invokevirtual 139, 3) := by decide +kernel
theorem dX12_askOne_152 : decode cX12_askOne 152 = .ok (.if_icmp .ge 40, 3) := by decide +kernel
theorem dX12_askOne_155 : decode cX12_askOne 155 = .ok (.aload_n 0, 1) := by decide +kernel
theorem dX12_askOne_156 : decode cX12_askOne 156 = .ok (.getfield 72, 3) := by decide +kernel
theorem dX12_askOne_159 : decode cX12_askOne 159 = .ok (.bipush 7, 2) := by decide +kernel
theorem dX12_askOne_161 : decode cX12_askOne 161 = .ok (.dup2, 1) := by decide +kernel
theorem dX12_askOne_162 : decode cX12_askOne 162 = .ok (.laload, 1) := by decide +kernel
theorem dX12_askOne_163 : decode cX12_askOne 163 = .ok (.aload_n 0, 1) := by decide +kernel
theorem dX12_askOne_164 : decode cX12_askOne 164 = .ok (.iload 4, 2) := by decide +kernel
theorem dX12_askOne_166 : decode cX12_askOne 166 = .ok (.iconst 0, 1) := by decide +kernel
theorem dX12_askOne_167 : decode cX12_askOne 167 = .ok (.invokevirtual 143, 3) := by decide +kernel
theorem dX12_askOne_170 : decode cX12_askOne 170 = .ok (.aload_n 0, 1) := by decide +kernel
theorem dX12_askOne_171 : decode cX12_askOne 171 = .ok (.iload_n 1, 1) := by decide +kernel
theorem dX12_askOne_172 : decode cX12_askOne 172 = .ok (.iconst 0, 1) := by decide +kernel
theorem dX12_askOne_173 : decode cX12_askOne 173 = .ok (.invokevirtual 143, 3) := by decide +kernel
theorem dX12_askOne_176 : decode cX12_askOne 176 = .ok (.if_icmp .ne 7, 3) := by decide +kernel
theorem dX12_askOne_179 : decode cX12_askOne 179 = .ok (.lconst 1, 1) := by decide +kernel
theorem dX12_askOne_180 : decode cX12_askOne 180 = .ok (.goto 4, 3) := by decide +kernel
theorem dX12_askOne_183 : decode cX12_askOne 183 = .ok (.lconst 0, 1) := by decide +kernel
theorem dX12_askOne_184 : decode cX12_askOne 184 = .ok (.ladd, 1) := by decide +kernel
theorem dX12_askOne_185 : decode cX12_askOne 185 = .ok (.lastore, 1) := by decide +kernel
theorem dX12_askOne_186 : decode cX12_askOne 186 = .ok (.iinc 4 1, 3) := by decide +kernel
theorem dX12_askOne_189 : decode cX12_askOne 189 = .ok (.goto (-43), 3) := by decide +kernel
theorem dX12_askOne_192 : decode cX12_askOne 192 = .ok (.iconst 0, 1) := by decide +kernel
theorem dX12_askOne_193 : decode cX12_askOne 193 = .ok (.istore 4, 2) := by decide +kernel
theorem dX12_askOne_195 : decode cX12_askOne 195 = .ok (.iload 4, 2) := by decide +kernel
theorem dX12_askOne_197 : decode cX12_askOne 197 = .ok (.aload_n 0, 1) := by decide +kernel
theorem dX12_askOne_198 : decode cX12_askOne 198 = .ok (.getfield 13, 3) := by decide +kernel
theorem dX12_askOne_201 : decode cX12_askOne 201 = .ok (.aload_n 0, 1) := by decide +kernel
theorem dX12_askOne_202 : decode cX12_askOne 202 = .ok (.getfield 327, 3) := by decide +kernel
theorem dX12_askOne_205 : decode cX12_askOne 205 = .ok (.iconst 1, 1) := by decide +kernel
theorem dX12_askOne_206 : decode cX12_askOne 206 = .ok (.iadd, 1) := by decide +kernel
theorem dX12_askOne_207 : decode cX12_askOne 207 = .ok (.iaload, 1) := by decide +kernel
theorem dX12_askOne_208 : decode cX12_askOne 208 = .ok (.if_icmp .ge 113, 3) := by decide +kernel
theorem dX12_askOne_211 : decode cX12_askOne 211 = .ok (.aload_n 0, 1) := by decide +kernel
theorem dX12_askOne_212 : decode cX12_askOne 212 = .ok (.getfield 327, 3) := by decide +kernel
theorem dX12_askOne_215 : decode cX12_askOne 215 = .ok (.iconst 2, 1) := by decide +kernel
theorem dX12_askOne_216 : decode cX12_askOne 216 = .ok (.iadd, 1) := by decide +kernel
theorem dX12_askOne_217 : decode cX12_askOne 217 = .ok (.bipush 8, 2) := by decide +kernel
theorem dX12_askOne_219 : decode cX12_askOne 219 = .ok (.iload 4, 2) := by decide +kernel
theorem dX12_askOne_221 : decode cX12_askOne 221 = .ok (.imul, 1) := by decide +kernel
theorem dX12_askOne_222 : decode cX12_askOne 222 = .ok (.iadd, 1) := by decide +kernel
theorem dX12_askOne_223 : decode cX12_askOne 223 = .ok (.istore 5, 2) := by decide +kernel
theorem dX12_askOne_225 : decode cX12_askOne 225 = .ok (.aload_n 0, 1) := by decide +kernel
theorem dX12_askOne_226 : decode cX12_askOne 226 = .ok (.iload 5, 2) := by decide +kernel
theorem dX12_askOne_228 : decode cX12_askOne 228 = .ok (.invokevirtual 353, 3) := by decide +kernel
theorem dX12_askOne_231 : decode cX12_askOne 231 = .ok (.ifCond .eq 84, 3) := by decide +kernel
theorem dX12_askOne_234 : decode cX12_askOne 234 = .ok (.aload_n 0, 1) := by decide +kernel
theorem dX12_askOne_235 : decode cX12_askOne 235 = .ok (.getfield 13, 3) := by decide +kernel
theorem dX12_askOne_238 : decode cX12_askOne 238 = .ok (.iload 5, 2) := by decide +kernel
theorem dX12_askOne_240 : decode cX12_askOne 240 = .ok (.iaload, 1) := by decide +kernel
theorem dX12_askOne_241 : decode cX12_askOne 241 = .ok (.ifCond .ne 10, 3) := by decide +kernel
theorem dX12_askOne_244 : decode cX12_askOne 244 = .ok (.aload_n 0, 1) := by decide +kernel
theorem dX12_askOne_245 : decode cX12_askOne 245 = .ok (.getfield 344, 3) := by decide +kernel
theorem dX12_askOne_248 : decode cX12_askOne 248 = .ok (.goto 4, 3) := by decide +kernel
theorem dX12_askOne_251 : decode cX12_askOne 251 = .ok (.lload_n 2, 1) := by decide +kernel
theorem dX12_askOne_252 : decode cX12_askOne 252 = .ok (.lstore_n 2, 1) := by decide +kernel
theorem dX12_askOne_253 : decode cX12_askOne 253 = .ok (.aload_n 0, 1) := by decide +kernel
theorem dX12_askOne_254 : decode cX12_askOne 254 = .ok (.getfield 84, 3) := by decide +kernel
theorem dX12_askOne_257 : decode cX12_askOne 257 = .ok (.iload_n 1, 1) := by decide +kernel
theorem dX12_askOne_258 : decode cX12_askOne 258 = .ok (.aload_n 0, 1) := by decide +kernel
theorem dX12_askOne_259 : decode cX12_askOne 259 = .ok (.getfield 84, 3) := by decide +kernel
theorem dX12_askOne_262 : decode cX12_askOne 262 = .ok (.iload_n 1, 1) := by decide +kernel
theorem dX12_askOne_263 : decode cX12_askOne 263 = .ok (.baload, 1) := by decide +kernel
theorem dX12_askOne_264 : decode cX12_askOne 264 = .ok (.ifCond .ne 14, 3) := by decide +kernel
theorem dX12_askOne_267 : decode cX12_askOne 267 = .ok (.aload_n 0, 1) := by decide +kernel
theorem dX12_askOne_268 : decode cX12_askOne 268 = .ok (.getfield 13, 3) := by decide +kernel
theorem dX12_askOne_271 : decode cX12_askOne 271 = .ok (.iload 5, 2) := by decide +kernel
theorem dX12_askOne_273 : decode cX12_askOne 273 = .ok (.iaload, 1) := by decide +kernel
theorem dX12_askOne_274 : decode cX12_askOne 274 = .ok (.iconst 1, 1) := by decide +kernel
theorem dX12_askOne_275 : decode cX12_askOne 275 = .ok (.if_icmp .ne 7, 3) := by decide +kernel
theorem dX12_askOne_278 : decode cX12_askOne 278 = .ok (.iconst 1, 1) := by decide +kernel
theorem dX12_askOne_279 : decode cX12_askOne 279 = .ok (.goto 4, 3) := by decide +kernel
theorem dX12_askOne_282 : decode cX12_askOne 282 = .ok (.iconst 0, 1) := by decide +kernel
theorem dX12_askOne_283 : decode cX12_askOne 283 = .ok (.bastore, 1) := by decide +kernel
theorem dX12_askOne_284 : decode cX12_askOne 284 = .ok (.aload_n 0, 1) := by decide +kernel
theorem dX12_askOne_285 : decode cX12_askOne 285 = .ok (.getfield 81, 3) := by decide +kernel
theorem dX12_askOne_288 : decode cX12_askOne 288 = .ok (.iload_n 1, 1) := by decide +kernel
theorem dX12_askOne_289 : decode cX12_askOne 289 = .ok (.aload_n 0, 1) := by decide +kernel
theorem dX12_askOne_290 : decode cX12_askOne 290 = .ok (.getfield 81, 3) := by decide +kernel
theorem dX12_askOne_293 : decode cX12_askOne 293 = .ok (.iload_n 1, 1) := by decide +kernel
theorem dX12_askOne_294 : decode cX12_askOne 294 = .ok (.baload, 1) := by decide +kernel
theorem dX12_askOne_295 : decode cX12_askOne 295 = .ok (.ifCond .ne 14, 3) := by decide +kernel
theorem dX12_askOne_298 : decode cX12_askOne 298 = .ok (.aload_n 0, 1) := by decide +kernel
theorem dX12_askOne_299 : decode cX12_askOne 299 = .ok (.getfield 13, 3) := by decide +kernel
theorem dX12_askOne_302 : decode cX12_askOne 302 = .ok (.iload 5, 2) := by decide +kernel
theorem dX12_askOne_304 : decode cX12_askOne 304 = .ok (.iaload, 1) := by decide +kernel
theorem dX12_askOne_305 : decode cX12_askOne 305 = .ok (.iconst 2, 1) := by decide +kernel
theorem dX12_askOne_306 : decode cX12_askOne 306 = .ok (.if_icmp .ne 7, 3) := by decide +kernel
theorem dX12_askOne_309 : decode cX12_askOne 309 = .ok (.iconst 1, 1) := by decide +kernel
theorem dX12_askOne_310 : decode cX12_askOne 310 = .ok (.goto 4, 3) := by decide +kernel
theorem dX12_askOne_313 : decode cX12_askOne 313 = .ok (.iconst 0, 1) := by decide +kernel
theorem dX12_askOne_314 : decode cX12_askOne 314 = .ok (.bastore, 1) := by decide +kernel
theorem dX12_askOne_315 : decode cX12_askOne 315 = .ok (.iinc 4 1, 3) := by decide +kernel
theorem dX12_askOne_318 : decode cX12_askOne 318 = .ok (.goto (-123), 3) := by decide +kernel
theorem dX12_askOne_321 : decode cX12_askOne 321 = .ok (.aload_n 0, 1) := by decide +kernel
theorem dX12_askOne_322 : decode cX12_askOne 322 = .ok (.getfield 78, 3) := by decide +kernel
theorem dX12_askOne_325 : decode cX12_askOne 325 = .ok (.iload_n 1, 1) := by decide +kernel
theorem dX12_askOne_326 : decode cX12_askOne 326 = .ok (.lload_n 2, 1) := by decide +kernel
theorem dX12_askOne_327 : decode cX12_askOne 327 = .ok (.lconst 0, 1) := by decide +kernel
theorem dX12_askOne_328 : decode cX12_askOne 328 = .ok (.lcmp, 1) := by decide +kernel
theorem dX12_askOne_329 : decode cX12_askOne 329 = .ok (.ifCond .ge 7, 3) := by decide +kernel
theorem dX12_askOne_332 : decode cX12_askOne 332 = .ok (.iconst 0, 1) := by decide +kernel
theorem dX12_askOne_333 : decode cX12_askOne 333 = .ok (.goto 19, 3) := by decide +kernel
theorem dX12_askOne_336 : decode cX12_askOne 336 = .ok (.lload_n 2, 1) := by decide +kernel
theorem dX12_askOne_337 : decode cX12_askOne 337 = .ok (.ldc2_w 175, 3) := by decide +kernel
theorem dX12_askOne_340 : decode cX12_askOne 340 = .ok (.lcmp, 1) := by decide +kernel
theorem dX12_askOne_341 : decode cX12_askOne 341 = .ok (.ifCond .le 9, 3) := by decide +kernel
theorem dX12_askOne_344 : decode cX12_askOne 344 = .ok (.sipush 999, 3) := by decide +kernel
theorem dX12_askOne_347 : decode cX12_askOne 347 = .ok (.goto 5, 3) := by decide +kernel
theorem dX12_askOne_350 : decode cX12_askOne 350 = .ok (.lload_n 2, 1) := by decide +kernel
theorem dX12_askOne_351 : decode cX12_askOne 351 = .ok (.l2i, 1) := by decide +kernel
theorem dX12_askOne_352 : decode cX12_askOne 352 = .ok (.iastore, 1) := by decide +kernel
theorem dX12_askOne_353 : decode cX12_askOne 353 = .ok (.return_, 1) := by decide +kernel
theorem dX12_balanceOf_0 : decode cX12_balanceOf 0 = .ok (.iconst 0, 1) := by decide +kernel
theorem dX12_balanceOf_1 : decode cX12_balanceOf 1 = .ok (.istore_n 2, 1) := by decide +kernel
theorem dX12_balanceOf_2 : decode cX12_balanceOf 2 = .ok (.iconst 0, 1) := by decide +kernel
theorem dX12_balanceOf_3 : decode cX12_balanceOf 3 = .ok (.istore_n 3, 1) := by decide +kernel
theorem dX12_balanceOf_4 : decode cX12_balanceOf 4 = .ok (.iload_n 3, 1) := by decide +kernel
theorem dX12_balanceOf_5 : decode cX12_balanceOf 5 = .ok (.aload_n 0, 1) := by decide +kernel
theorem dX12_balanceOf_6 : decode cX12_balanceOf 6 = .ok (.invokevirtual 139, 3) := by decide +kernel
theorem dX12_balanceOf_9 : decode cX12_balanceOf 9 = .ok (.if_icmp .ge 72, 3) := by decide +kernel
theorem dX12_balanceOf_12 : decode cX12_balanceOf 12 = .ok (.aload_n 0, 1) := by decide +kernel
theorem dX12_balanceOf_13 : decode cX12_balanceOf 13 = .ok (.iload_n 3, 1) := by decide +kernel
theorem dX12_balanceOf_14 : decode cX12_balanceOf 14 = .ok (.iconst 1, 1) := by decide +kernel
theorem dX12_balanceOf_15 : decode cX12_balanceOf 15 = .ok (.invokevirtual 143, 3) := by decide +kernel
theorem dX12_balanceOf_18 : decode cX12_balanceOf 18 = .ok (.iload_n 1, 1) := by decide +kernel
theorem dX12_balanceOf_19 : decode cX12_balanceOf 19 = .ok (.if_icmp .ne 7, 3) := by decide +kernel
theorem dX12_balanceOf_22 : decode cX12_balanceOf 22 = .ok (.iconst 1, 1) := by decide +kernel
theorem dX12_balanceOf_23 : decode cX12_balanceOf 23 = .ok (.goto 18, 3) := by decide +kernel
theorem dX12_balanceOf_26 : decode cX12_balanceOf 26 = .ok (.aload_n 0, 1) := by decide +kernel
theorem dX12_balanceOf_27 : decode cX12_balanceOf 27 = .ok (.iload_n 3, 1) := by decide +kernel
theorem dX12_balanceOf_28 : decode cX12_balanceOf 28 = .ok (.iconst 0, 1) := by decide +kernel
theorem dX12_balanceOf_29 : decode cX12_balanceOf 29 = .ok (.invokevirtual 143, 3) := by decide +kernel
theorem dX12_balanceOf_32 : decode cX12_balanceOf 32 = .ok (.iload_n 1, 1) := by decide +kernel
theorem dX12_balanceOf_33 : decode cX12_balanceOf 33 = .ok (.if_icmp .ne 7, 3) := by decide +kernel
theorem dX12_balanceOf_36 : decode cX12_balanceOf 36 = .ok (.iconst (-1), 1) := by decide +kernel
theorem dX12_balanceOf_37 : decode cX12_balanceOf 37 = .ok (.goto 4, 3) := by decide +kernel
theorem dX12_balanceOf_40 : decode cX12_balanceOf 40 = .ok (.iconst 0, 1) := by decide +kernel
theorem dX12_balanceOf_41 : decode cX12_balanceOf 41 = .ok (.istore 4, 2) := by decide +kernel
theorem dX12_balanceOf_43 : decode cX12_balanceOf 43 = .ok (.iload_n 2, 1) := by decide +kernel
theorem dX12_balanceOf_44 : decode cX12_balanceOf 44 = .ok (.aload_n 0, 1) := by decide +kernel
theorem dX12_balanceOf_45 : decode cX12_balanceOf 45 = .ok (.getfield 81, 3) := by decide +kernel
theorem dX12_balanceOf_48 : decode cX12_balanceOf 48 = .ok (.iload_n 3, 1) := by decide +kernel
theorem dX12_balanceOf_49 : decode cX12_balanceOf 49 = .ok (.baload, 1) := by decide +kernel
theorem dX12_balanceOf_50 : decode cX12_balanceOf 50 = .ok (.ifCond .eq 7, 3) := by decide +kernel
theorem dX12_balanceOf_53 : decode cX12_balanceOf 53 = .ok (.iconst 0, 1) := by decide +kernel
theorem dX12_balanceOf_54 : decode cX12_balanceOf 54 = .ok (.goto 19, 3) := by decide +kernel
theorem dX12_balanceOf_57 : decode cX12_balanceOf 57 = .ok (.iload 4, 2) := by decide +kernel
theorem dX12_balanceOf_59 : decode cX12_balanceOf 59 = .ok (.aload_n 0, 1) := by decide +kernel
theorem dX12_balanceOf_60 : decode cX12_balanceOf 60 = .ok (.iload_n 3, 1) := by decide +kernel
theorem dX12_balanceOf_61 : decode cX12_balanceOf 61 = .ok (.iconst 3, 1) := by decide +kernel
theorem dX12_balanceOf_62 : decode cX12_balanceOf 62 = .ok (.invokevirtual 143, 3) := by decide +kernel
theorem dX12_balanceOf_65 : decode cX12_balanceOf 65 = .ok (.imul, 1) := by decide +kernel
theorem dX12_balanceOf_66 : decode cX12_balanceOf 66 = .ok (.aload_n 0, 1) := by decide +kernel
theorem dX12_balanceOf_67 : decode cX12_balanceOf 67 = .ok (.getfield 78, 3) := by decide +kernel
theorem dX12_balanceOf_70 : decode cX12_balanceOf 70 = .ok (.iload_n 3, 1) := by decide +kernel
theorem dX12_balanceOf_71 : decode cX12_balanceOf 71 = .ok (.iaload, 1) := by decide +kernel
theorem dX12_balanceOf_72 : decode cX12_balanceOf 72 = .ok (.imul, 1) := by decide +kernel
theorem dX12_balanceOf_73 : decode cX12_balanceOf 73 = .ok (.iadd, 1) := by decide +kernel
theorem dX12_balanceOf_74 : decode cX12_balanceOf 74 = .ok (.istore_n 2, 1) := by decide +kernel
theorem dX12_balanceOf_75 : decode cX12_balanceOf 75 = .ok (.iinc 3 1, 3) := by decide +kernel
theorem dX12_balanceOf_78 : decode cX12_balanceOf 78 = .ok (.goto (-74), 3) := by decide +kernel
theorem dX12_balanceOf_81 : decode cX12_balanceOf 81 = .ok (.iload_n 2, 1) := by decide +kernel
theorem dX12_balanceOf_82 : decode cX12_balanceOf 82 = .ok (.ireturn, 1) := by decide +kernel
theorem dX12_balance_0 : decode cX12_balance 0 = .ok (.aload_n 0, 1) := by decide +kernel
theorem dX12_balance_1 : decode cX12_balance 1 = .ok (.iconst 0, 1) := by decide +kernel
theorem dX12_balance_2 : decode cX12_balance 2 = .ok (.putfield 123, 3) := by decide +kernel
theorem dX12_balance_5 : decode cX12_balance 5 = .ok (.iload_n 1, 1) := by decide +kernel
theorem dX12_balance_6 : decode cX12_balance 6 = .ok (.invokestatic 153, 3) := by decide +kernel
theorem dX12_balance_9 : decode cX12_balance 9 = .ok (.ifCond .ne 7, 3) := by decide +kernel
theorem dX12_balance_12 : decode cX12_balance 12 = .ok (.ldc_w 356, 3) := by decide +kernel
theorem dX12_balance_15 : decode cX12_balance 15 = .ok (.ireturn, 1) := by decide +kernel
theorem dX12_balance_16 : decode cX12_balance 16 = .ok (.aload_n 0, 1) := by decide +kernel
theorem dX12_balance_17 : decode cX12_balance 17 = .ok (.invokevirtual 169, 3) := by decide +kernel
theorem dX12_balance_20 : decode cX12_balance 20 = .ok (.aload_n 0, 1) := by decide +kernel
theorem dX12_balance_21 : decode cX12_balance 21 = .ok (.iload_n 1, 1) := by decide +kernel
theorem dX12_balance_22 : decode cX12_balance 22 = .ok (.invokevirtual 357, 3) := by decide +kernel
theorem dX12_balance_25 : decode cX12_balance 25 = .ok (.ireturn, 1) := by decide +kernel
theorem dX12_richest_0 : decode cX12_richest 0 = .ok (.aload_n 0, 1) := by decide +kernel
theorem dX12_richest_1 : decode cX12_richest 1 = .ok (.iconst 0, 1) := by decide +kernel
theorem dX12_richest_2 : decode cX12_richest 2 = .ok (.putfield 123, 3) := by decide +kernel
theorem dX12_richest_5 : decode cX12_richest 5 = .ok (.aload_n 0, 1) := by decide +kernel
theorem dX12_richest_6 : decode cX12_richest 6 = .ok (.invokevirtual 169, 3) := by decide +kernel
theorem dX12_richest_9 : decode cX12_richest 9 = .ok (.iconst 0, 1) := by decide +kernel
theorem dX12_richest_10 : decode cX12_richest 10 = .ok (.istore_n 1, 1) := by decide +kernel
theorem dX12_richest_11 : decode cX12_richest 11 = .ok (.iconst 1, 1) := by decide +kernel
theorem dX12_richest_12 : decode cX12_richest 12 = .ok (.istore_n 2, 1) := by decide +kernel
theorem dX12_richest_13 : decode cX12_richest 13 = .ok (.iload_n 2, 1) := by decide +kernel
theorem dX12_richest_14 : decode cX12_richest 14 = .ok (.bipush 8, 2) := by decide +kernel
theorem dX12_richest_16 : decode cX12_richest 16 = .ok (.if_icmp .ge 28, 3) := by decide +kernel
theorem dX12_richest_19 : decode cX12_richest 19 = .ok (.aload_n 0, 1) := by decide +kernel
theorem dX12_richest_20 : decode cX12_richest 20 = .ok (.iload_n 2, 1) := by decide +kernel
theorem dX12_richest_21 : decode cX12_richest 21 = .ok (.invokevirtual 357, 3) := by decide +kernel
theorem dX12_richest_24 : decode cX12_richest 24 = .ok (.aload_n 0, 1) := by decide +kernel
theorem dX12_richest_25 : decode cX12_richest 25 = .ok (.iload_n 1, 1) := by decide +kernel
theorem dX12_richest_26 : decode cX12_richest 26 = .ok (.invokevirtual 357, 3) := by decide +kernel
theorem dX12_richest_29 : decode cX12_richest 29 = .ok (.if_icmp .le 7, 3) := by decide +kernel
theorem dX12_richest_32 : decode cX12_richest 32 = .ok (.iload_n 2, 1) := by decide +kernel
theorem dX12_richest_33 : decode cX12_richest 33 = .ok (.goto 4, 3) := by decide +kernel
theorem dX12_richest_36 : decode cX12_richest 36 = .ok (.iload_n 1, 1) := by decide +kernel
theorem dX12_richest_37 : decode cX12_richest 37 = .ok (.istore_n 1, 1) := by decide +kernel
theorem dX12_richest_38 : decode cX12_richest 38 = .ok (.iinc 2 1, 3) := by decide +kernel
theorem dX12_richest_41 : decode cX12_richest 41 = .ok (.goto (-28), 3) := by decide +kernel
theorem dX12_richest_44 : decode cX12_richest 44 = .ok (.iload_n 1, 1) := by decide +kernel
theorem dX12_richest_45 : decode cX12_richest 45 = .ok (.ireturn, 1) := by decide +kernel
theorem dX12_counts_0 : decode cX12_counts 0 = .ok (.aload_n 0, 1) := by decide +kernel
theorem dX12_counts_1 : decode cX12_counts 1 = .ok (.iload_n 1, 1) := by decide +kernel
theorem dX12_counts_2 : decode cX12_counts 2 = .ok (.iconst 2, 1) := by decide +kernel
theorem dX12_counts_3 : decode cX12_counts 3 = .ok (.invokevirtual 143, 3) := by decide +kernel
theorem dX12_counts_6 : decode cX12_counts 6 = .ok (.iload_n 2, 1) := by decide +kernel
theorem dX12_counts_7 : decode cX12_counts 7 = .ok (.if_icmp .ne 16, 3) := by decide +kernel
theorem dX12_counts_10 : decode cX12_counts 10 = .ok (.aload_n 0, 1) := by decide +kernel
theorem dX12_counts_11 : decode cX12_counts 11 = .ok (.getfield 81, 3) := by decide +kernel
theorem dX12_counts_14 : decode cX12_counts 14 = .ok (.iload_n 1, 1) := by decide +kernel
theorem dX12_counts_15 : decode cX12_counts 15 = .ok (.baload, 1) := by decide +kernel
theorem dX12_counts_16 : decode cX12_counts 16 = .ok (.ifCond .ne 7, 3) := by decide +kernel
theorem dX12_counts_19 : decode cX12_counts 19 = .ok (.iconst 1, 1) := by decide +kernel
theorem dX12_counts_20 : decode cX12_counts 20 = .ok (.goto 4, 3) := by decide +kernel
theorem dX12_counts_23 : decode cX12_counts 23 = .ok (.iconst 0, 1) := by decide +kernel
theorem dX12_counts_24 : decode cX12_counts 24 = .ok (.ireturn, 1) := by decide +kernel
theorem dX12_netOf_0 : decode cX12_netOf 0 = .ok (.iconst 0, 1) := by decide +kernel
theorem dX12_netOf_1 : decode cX12_netOf 1 = .ok (.istore_n 3, 1) := by decide +kernel
theorem dX12_netOf_2 : decode cX12_netOf 2 = .ok (.iconst 0, 1) := by decide +kernel
theorem dX12_netOf_3 : decode cX12_netOf 3 = .ok (.istore 4, 2) := by decide +kernel
theorem dX12_netOf_5 : decode cX12_netOf 5 = .ok (.iload 4, 2) := by decide +kernel
theorem dX12_netOf_7 : decode cX12_netOf 7 = .ok (.aload_n 0, 1) := by decide +kernel
theorem dX12_netOf_8 : decode cX12_netOf 8 = .ok (.invokevirtual 139, 3) := by decide +kernel
theorem dX12_netOf_11 : decode cX12_netOf 11 = .ok (.if_icmp .ge 69, 3) := by decide +kernel
theorem dX12_netOf_14 : decode cX12_netOf 14 = .ok (.aload_n 0, 1) := by decide +kernel
theorem dX12_netOf_15 : decode cX12_netOf 15 = .ok (.iload 4, 2) := by decide +kernel
theorem dX12_netOf_17 : decode cX12_netOf 17 = .ok (.iconst 1, 1) := by decide +kernel
theorem dX12_netOf_18 : decode cX12_netOf 18 = .ok (.invokevirtual 143, 3) := by decide +kernel
theorem dX12_netOf_21 : decode cX12_netOf 21 = .ok (.iload_n 1, 1) := by decide +kernel
theorem dX12_netOf_22 : decode cX12_netOf 22 = .ok (.if_icmp .ne 7, 3) := by decide +kernel
theorem dX12_netOf_25 : decode cX12_netOf 25 = .ok (.iconst 1, 1) := by decide +kernel
theorem dX12_netOf_26 : decode cX12_netOf 26 = .ok (.goto 19, 3) := by decide +kernel
theorem dX12_netOf_29 : decode cX12_netOf 29 = .ok (.aload_n 0, 1) := by decide +kernel
theorem dX12_netOf_30 : decode cX12_netOf 30 = .ok (.iload 4, 2) := by decide +kernel
theorem dX12_netOf_32 : decode cX12_netOf 32 = .ok (.iconst 0, 1) := by decide +kernel
theorem dX12_netOf_33 : decode cX12_netOf 33 = .ok (.invokevirtual 143, 3) := by decide +kernel
theorem dX12_netOf_36 : decode cX12_netOf 36 = .ok (.iload_n 1, 1) := by decide +kernel
theorem dX12_netOf_37 : decode cX12_netOf 37 = .ok (.if_icmp .ne 7, 3) := by decide +kernel
theorem dX12_netOf_40 : decode cX12_netOf 40 = .ok (.iconst (-1), 1) := by decide +kernel
theorem dX12_netOf_41 : decode cX12_netOf 41 = .ok (.goto 4, 3) := by decide +kernel
theorem dX12_netOf_44 : decode cX12_netOf 44 = .ok (.iconst 0, 1) := by decide +kernel
theorem dX12_netOf_45 : decode cX12_netOf 45 = .ok (.istore 5, 2) := by decide +kernel
theorem dX12_netOf_47 : decode cX12_netOf 47 = .ok (.iload_n 3, 1) := by decide +kernel
theorem dX12_netOf_48 : decode cX12_netOf 48 = .ok (.aload_n 0, 1) := by decide +kernel
theorem dX12_netOf_49 : decode cX12_netOf 49 = .ok (.iload 4, 2) := by decide +kernel
theorem dX12_netOf_51 : decode cX12_netOf 51 = .ok (.iload_n 2, 1) := by decide +kernel
theorem dX12_netOf_52 : decode cX12_netOf 52 = .ok (.invokevirtual 360, 3) := by decide +kernel
theorem dX12_netOf_55 : decode cX12_netOf 55 = .ok (.ifCond .eq 16, 3) := by decide +kernel
theorem dX12_netOf_58 : decode cX12_netOf 58 = .ok (.iload 5, 2) := by decide +kernel
theorem dX12_netOf_60 : decode cX12_netOf 60 = .ok (.aload_n 0, 1) := by decide +kernel
theorem dX12_netOf_61 : decode cX12_netOf 61 = .ok (.iload 4, 2) := by decide +kernel
theorem dX12_netOf_63 : decode cX12_netOf 63 = .ok (.iconst 3, 1) := by decide +kernel
theorem dX12_netOf_64 : decode cX12_netOf 64 = .ok (.invokevirtual 143, 3) := by decide +kernel
theorem dX12_netOf_67 : decode cX12_netOf 67 = .ok (.imul, 1) := by decide +kernel
theorem dX12_netOf_68 : decode cX12_netOf 68 = .ok (.goto 4, 3) := by decide +kernel
theorem dX12_netOf_71 : decode cX12_netOf 71 = .ok (.iconst 0, 1) := by decide +kernel
theorem dX12_netOf_72 : decode cX12_netOf 72 = .ok (.iadd, 1) := by decide +kernel
theorem dX12_netOf_73 : decode cX12_netOf 73 = .ok (.istore_n 3, 1) := by decide +kernel
theorem dX12_netOf_74 : decode cX12_netOf 74 = .ok (.iinc 4 1, 3) := by decide +kernel
theorem dX12_netOf_77 : decode cX12_netOf 77 = .ok (.goto (-72), 3) := by decide +kernel
theorem dX12_netOf_80 : decode cX12_netOf 80 = .ok (.iload_n 3, 1) := by decide +kernel
theorem dX12_netOf_81 : decode cX12_netOf 81 = .ok (.ireturn, 1) := by decide +kernel
theorem dX12_net_0 : decode cX12_net 0 = .ok (.aload_n 0, 1) := by decide +kernel
theorem dX12_net_1 : decode cX12_net 1 = .ok (.iconst 0, 1) := by decide +kernel
theorem dX12_net_2 : decode cX12_net 2 = .ok (.putfield 123, 3) := by decide +kernel
theorem dX12_net_5 : decode cX12_net 5 = .ok (.iload_n 1, 1) := by decide +kernel
theorem dX12_net_6 : decode cX12_net 6 = .ok (.invokestatic 153, 3) := by decide +kernel
theorem dX12_net_9 : decode cX12_net 9 = .ok (.ifCond .eq 11, 3) := by decide +kernel
theorem dX12_net_12 : decode cX12_net 12 = .ok (.aload_n 0, 1) := by decide +kernel
theorem dX12_net_13 : decode cX12_net 13 = .ok (.iload_n 2, 1) := by decide +kernel
theorem dX12_net_14 : decode cX12_net 14 = .ok (.invokevirtual 149, 3) := by decide +kernel
theorem dX12_net_17 : decode cX12_net 17 = .ok (.ifCond .ne 7, 3) := by decide +kernel
theorem dX12_net_20 : decode cX12_net 20 = .ok (.ldc_w 356, 3) := by decide +kernel
theorem dX12_net_23 : decode cX12_net 23 = .ok (.ireturn, 1) := by decide +kernel
theorem dX12_net_24 : decode cX12_net 24 = .ok (.aload_n 0, 1) := by decide +kernel
theorem dX12_net_25 : decode cX12_net 25 = .ok (.invokevirtual 169, 3) := by decide +kernel
theorem dX12_net_28 : decode cX12_net 28 = .ok (.aload_n 0, 1) := by decide +kernel
theorem dX12_net_29 : decode cX12_net 29 = .ok (.iload_n 1, 1) := by decide +kernel
theorem dX12_net_30 : decode cX12_net 30 = .ok (.iload_n 2, 1) := by decide +kernel
theorem dX12_net_31 : decode cX12_net 31 = .ok (.invokevirtual 364, 3) := by decide +kernel
theorem dX12_net_34 : decode cX12_net 34 = .ok (.ireturn, 1) := by decide +kernel
theorem dX12_payments_0 : decode cX12_payments 0 = .ok (.iconst 0, 1) := by decide +kernel
theorem dX12_payments_1 : decode cX12_payments 1 = .ok (.istore_n 2, 1) := by decide +kernel
theorem dX12_payments_2 : decode cX12_payments 2 = .ok (.iconst 0, 1) := by decide +kernel
theorem dX12_payments_3 : decode cX12_payments 3 = .ok (.istore_n 3, 1) := by decide +kernel
theorem dX12_payments_4 : decode cX12_payments 4 = .ok (.iload_n 3, 1) := by decide +kernel
theorem dX12_payments_5 : decode cX12_payments 5 = .ok (.bipush 8, 2) := by decide +kernel
theorem dX12_payments_7 : decode cX12_payments 7 = .ok (.if_icmp .ge 28, 3) := by decide +kernel
theorem dX12_payments_10 : decode cX12_payments 10 = .ok (.iload_n 2, 1) := by decide +kernel
theorem dX12_payments_11 : decode cX12_payments 11 = .ok (.aload_n 0, 1) := by decide +kernel
theorem dX12_payments_12 : decode cX12_payments 12 = .ok (.iload_n 3, 1) := by decide +kernel
theorem dX12_payments_13 : decode cX12_payments 13 = .ok (.iload_n 1, 1) := by decide +kernel
theorem dX12_payments_14 : decode cX12_payments 14 = .ok (.invokevirtual 364, 3) := by decide +kernel
theorem dX12_payments_17 : decode cX12_payments 17 = .ok (.ifCond .ne 7, 3) := by decide +kernel
theorem dX12_payments_20 : decode cX12_payments 20 = .ok (.iconst 0, 1) := by decide +kernel
theorem dX12_payments_21 : decode cX12_payments 21 = .ok (.goto 6, 3) := by decide +kernel
theorem dX12_payments_24 : decode cX12_payments 24 = .ok (.iconst 1, 1) := by decide +kernel
theorem dX12_payments_25 : decode cX12_payments 25 = .ok (.iload_n 3, 1) := by decide +kernel
theorem dX12_payments_26 : decode cX12_payments 26 = .ok (.ishl, 1) := by decide +kernel
theorem dX12_payments_27 : decode cX12_payments 27 = .ok (.ior, 1) := by decide +kernel
theorem dX12_payments_28 : decode cX12_payments 28 = .ok (.istore_n 2, 1) := by decide +kernel
theorem dX12_payments_29 : decode cX12_payments 29 = .ok (.iinc 3 1, 3) := by decide +kernel
theorem dX12_payments_32 : decode cX12_payments 32 = .ok (.goto (-28), 3) := by decide +kernel
theorem dX12_payments_35 : decode cX12_payments 35 = .ok (.iconst 0, 1) := by decide +kernel
theorem dX12_payments_36 : decode cX12_payments 36 = .ok (.istore_n 3, 1) := by decide +kernel
theorem dX12_payments_37 : decode cX12_payments 37 = .ok (.iload_n 3, 1) := by decide +kernel
theorem dX12_payments_38 : decode cX12_payments 38 = .ok (.sipush 256, 3) := by decide +kernel
theorem dX12_payments_41 : decode cX12_payments 41 = .ok (.if_icmp .ge 189, 3) := by decide +kernel
theorem dX12_payments_44 : decode cX12_payments 44 = .ok (.aload_n 0, 1) := by decide +kernel
theorem dX12_payments_45 : decode cX12_payments 45 = .ok (.getfield 87, 3) := by decide +kernel
theorem dX12_payments_48 : decode cX12_payments 48 = .ok (.iload_n 3, 1) := by decide +kernel
theorem dX12_payments_49 : decode cX12_payments 49 = .ok (.iconst 0, 1) := by decide +kernel
theorem dX12_payments_50 : decode cX12_payments 50 = .ok (.iastore, 1) := by decide +kernel
theorem dX12_payments_51 : decode cX12_payments 51 = .ok (.aload_n 0, 1) := by decide +kernel
theorem dX12_payments_52 : decode cX12_payments 52 = .ok (.getfield 90, 3) := by decide +kernel
theorem dX12_payments_55 : decode cX12_payments 55 = .ok (.iload_n 3, 1) := by decide +kernel
theorem dX12_payments_56 : decode cX12_payments 56 = .ok (.iconst 0, 1) := by decide +kernel
theorem dX12_payments_57 : decode cX12_payments 57 = .ok (.iastore, 1) := by decide +kernel
theorem dX12_payments_58 : decode cX12_payments 58 = .ok (.iconst 0, 1) := by decide +kernel
theorem dX12_payments_59 : decode cX12_payments 59 = .ok (.istore 4, 2) := by decide +kernel
theorem dX12_payments_61 : decode cX12_payments 61 = .ok (.iload 4, 2) := by decide +kernel
theorem dX12_payments_63 : decode cX12_payments 63 = .ok (.bipush 8, 2) := by decide +kernel
theorem dX12_payments_65 : decode cX12_payments 65 = .ok (.if_icmp .ge 38, 3) := by decide +kernel
theorem dX12_payments_68 : decode cX12_payments 68 = .ok (.aload_n 0, 1) := by decide +kernel
theorem dX12_payments_69 : decode cX12_payments 69 = .ok (.getfield 87, 3) := by decide +kernel
theorem dX12_payments_72 : decode cX12_payments 72 = .ok (.iload_n 3, 1) := by decide +kernel
theorem dX12_payments_73 : decode cX12_payments 73 = .ok (.dup2, 1) := by decide +kernel
theorem dX12_payments_74 : decode cX12_payments 74 = .ok (.iaload, 1) := by decide +kernel
theorem dX12_payments_75 : decode cX12_payments 75 = .ok (.iload_n 3, 1) := by decide +kernel
theorem dX12_payments_76 : decode cX12_payments 76 = .ok (.iload 4, 2) := by decide +kernel
theorem dX12_payments_78 : decode cX12_payments 78 = .ok (.invokestatic 367, 3) := by decide +kernel
theorem dX12_payments_81 : decode cX12_payments 81 = .ok (.ifCond .eq 13, 3) := by decide +kernel
theorem dX12_payments_84 : decode cX12_payments 84 = .ok (.aload_n 0, 1) := by decide +kernel
theorem dX12_payments_85 : decode cX12_payments 85 = .ok (.iload 4, 2) := by decide +kernel
theorem dX12_payments_87 : decode cX12_payments 87 = .ok (.iload_n 1, 1) := by decide +kernel
theorem dX12_payments_88 : decode cX12_payments 88 = .ok (.invokevirtual 364, 3) := by decide +kernel
theorem dX12_payments_91 : decode cX12_payments 91 = .ok (.goto 4, 3) := by decide +kernel
theorem dX12_payments_94 : decode cX12_payments 94 = .ok (.iconst 0, 1) := by decide +kernel
theorem dX12_payments_95 : decode cX12_payments 95 = .ok (.iadd, 1) := by decide +kernel
theorem dX12_payments_96 : decode cX12_payments 96 = .ok (.iastore, 1) := by decide +kernel
theorem dX12_payments_97 : decode cX12_payments 97 = .ok (.iinc 4 1, 3) := by decide +kernel
theorem dX12_payments_100 : decode cX12_payments 100 = .ok (.goto (-39), 3) := by decide +kernel
theorem dX12_payments_103 : decode cX12_payments 103 = .ok (.iconst 0, 1) := by decide +kernel
theorem dX12_payments_104 : decode cX12_payments 104 = .ok (.istore 4, 2) := by decide +kernel
theorem dX12_payments_106 : decode cX12_payments 106 = .ok (.iload 4, 2) := by decide +kernel
theorem dX12_payments_108 : decode cX12_payments 108 = .ok (.bipush 8, 2) := by decide +kernel
theorem dX12_payments_110 : decode cX12_payments 110 = .ok (.if_icmp .ge 79, 3) := by decide +kernel
theorem dX12_payments_113 : decode cX12_payments 113 = .ok (.iload_n 3, 1) := by decide +kernel
theorem dX12_payments_114 : decode cX12_payments 114 = .ok (.iload 4, 2) := by decide +kernel
theorem dX12_payments_116 : decode cX12_payments 116 = .ok (.invokestatic 367, 3) := by decide +kernel
theorem dX12_payments_119 : decode cX12_payments 119 = .ok (.ifCond .eq 14, 3) := by decide +kernel
theorem dX12_payments_122 : decode cX12_payments 122 = .ok (.iload_n 3, 1) := by decide +kernel
theorem dX12_payments_123 : decode cX12_payments 123 = .ok (.iconst 1, 1) := by decide +kernel
theorem dX12_payments_124 : decode cX12_payments 124 = .ok (.iload 4, 2) := by decide +kernel
theorem dX12_payments_126 : decode cX12_payments 126 = .ok (.ishl, 1) := by decide +kernel
theorem dX12_payments_127 : decode cX12_payments 127 = .ok (.iconst (-1), 1) := by decide +kernel
theorem dX12_payments_128 : decode cX12_payments 128 = .ok (.ixor, 1) := by decide +kernel
theorem dX12_payments_129 : decode cX12_payments 129 = .ok (.iand, 1) := by decide +kernel
theorem dX12_payments_130 : decode cX12_payments 130 = .ok (.goto 4, 3) := by decide +kernel
theorem dX12_payments_133 : decode cX12_payments 133 = .ok (.iconst 0, 1) := by decide +kernel
theorem dX12_payments_134 : decode cX12_payments 134 = .ok (.istore 5, 2) := by decide +kernel
theorem dX12_payments_136 : decode cX12_payments 136 = .ok (.aload_n 0, 1) := by decide +kernel
theorem dX12_payments_137 : decode cX12_payments 137 = .ok (.getfield 90, 3) := by decide +kernel
theorem dX12_payments_140 : decode cX12_payments 140 = .ok (.iload_n 3, 1) := by decide +kernel
theorem dX12_payments_141 : decode cX12_payments 141 = .ok (.iload_n 3, 1) := by decide +kernel
theorem dX12_payments_142 : decode cX12_payments 142 = .ok (.iload 4, 2) := by decide +kernel
theorem dX12_payments_144 : decode cX12_payments 144 = .ok (.invokestatic 367, 3) := by decide +kernel
theorem dX12_payments_147 : decode cX12_payments 147 = .ok (.ifCond .eq 29, 3) := by decide +kernel
theorem dX12_payments_150 : decode cX12_payments 150 = .ok (.aload_n 0, 1) := by decide +kernel
theorem dX12_payments_151 : decode cX12_payments 151 = .ok (.getfield 90, 3) := by decide +kernel
theorem dX12_payments_154 : decode cX12_payments 154 = .ok (.iload 5, 2) := by decide +kernel
theorem dX12_payments_156 : decode cX12_payments 156 = .ok (.iaload, 1) := by decide +kernel
theorem dX12_payments_157 : decode cX12_payments 157 = .ok (.aload_n 0, 1) := by decide +kernel
theorem dX12_payments_158 : decode cX12_payments 158 = .ok (.getfield 90, 3) := by decide +kernel
theorem dX12_payments_161 : decode cX12_payments 161 = .ok (.iload_n 3, 1) := by decide +kernel
theorem dX12_payments_162 : decode cX12_payments 162 = .ok (.iaload, 1) := by decide +kernel
theorem dX12_payments_163 : decode cX12_payments 163 = .ok (.if_icmp .le 13, 3) := by decide +kernel
theorem dX12_payments_166 : decode cX12_payments 166 = .ok (.aload_n 0, 1) := by decide +kernel
theorem dX12_payments_167 : decode cX12_payments 167 = .ok (.getfield 90, 3) := by decide +kernel
theorem dX12_payments_170 : decode cX12_payments 170 = .ok (.iload 5, 2) := by decide +kernel
theorem dX12_payments_172 : decode cX12_payments 172 = .ok (.iaload, 1) := by decide +kernel
theorem dX12_payments_173 : decode cX12_payments 173 = .ok (.goto 9, 3) := by decide +kernel
theorem dX12_payments_176 : decode cX12_payments 176 = .ok (.aload_n 0, 1) := by decide +kernel
theorem dX12_payments_177 : decode cX12_payments 177 = .ok (.getfield 90, 3) := by decide +kernel
theorem dX12_payments_180 : decode cX12_payments 180 = .ok (.iload_n 3, 1) := by decide +kernel
theorem dX12_payments_181 : decode cX12_payments 181 = .ok (.iaload, 1) := by decide +kernel
theorem dX12_payments_182 : decode cX12_payments 182 = .ok (.iastore, 1) := by decide +kernel
theorem dX12_payments_183 : decode cX12_payments 183 = .ok (.iinc 4 1, 3) := by decide +kernel
theorem dX12_payments_186 : decode cX12_payments 186 = .ok (.goto (-80), 3) := by decide +kernel
theorem dX12_payments_189 : decode cX12_payments 189 = .ok (.aload_n 0, 1) := by decide +kernel
theorem dX12_payments_190 : decode cX12_payments 190 = .ok (.getfield 90, 3) := by decide +kernel
theorem dX12_payments_193 : decode cX12_payments 193 = .ok (.iload_n 3, 1) := by decide +kernel
theorem dX12_payments_194 : decode cX12_payments 194 = .ok (.dup2, 1) := by decide +kernel
theorem dX12_payments_195 : decode cX12_payments 195 = .ok (.iaload, 1) := by decide +kernel
theorem dX12_payments_196 : decode cX12_payments 196 = .ok (.iload_n 3, 1) := by decide +kernel
theorem dX12_payments_197 : decode cX12_payments 197 = .ok (.ifCond .eq 24, 3) := by decide +kernel
theorem dX12_payments_200 : decode cX12_payments 200 = .ok (.iload_n 3, 1) := by decide +kernel
theorem dX12_payments_201 : decode cX12_payments 201 = .ok (.iload_n 2, 1) := by decide +kernel
theorem dX12_payments_202 : decode cX12_payments 202 = .ok (.iconst (-1), 1) := by decide +kernel
theorem dX12_payments_203 : decode cX12_payments 203 = .ok (.ixor, 1) := by decide +kernel
theorem dX12_payments_204 : decode cX12_payments 204 = .ok (.iand, 1) := by decide +kernel
theorem dX12_payments_205 : decode cX12_payments 205 = .ok (.ifCond .ne 16, 3) := by decide +kernel
theorem dX12_payments_208 : decode cX12_payments 208 = .ok (.aload_n 0, 1) := by decide +kernel
theorem dX12_payments_209 : decode cX12_payments 209 = .ok (.getfield 87, 3) := by decide +kernel
theorem dX12_payments_212 : decode cX12_payments 212 = .ok (.iload_n 3, 1) := by decide +kernel
theorem dX12_payments_213 : decode cX12_payments 213 = .ok (.iaload, 1) := by decide +kernel
theorem dX12_payments_214 : decode cX12_payments 214 = .ok (.ifCond .ne 7, 3) := by decide +kernel
theorem dX12_payments_217 : decode cX12_payments 217 = .ok (.iconst 1, 1) := by decide +kernel
theorem dX12_payments_218 : decode cX12_payments 218 = .ok (.goto 4, 3) := by decide +kernel
theorem dX12_payments_221 : decode cX12_payments 221 = .ok (.iconst 0, 1) := by decide +kernel
theorem dX12_payments_222 : decode cX12_payments 222 = .ok (.iadd, 1) := by decide +kernel
theorem dX12_payments_223 : decode cX12_payments 223 = .ok (.iastore, 1) := by decide +kernel
theorem dX12_payments_224 : decode cX12_payments 224 = .ok (.iinc 3 1, 3) := by decide +kernel
theorem dX12_payments_227 : decode cX12_payments 227 = .ok (.goto (-190), 3) := by decide +kernel
theorem dX12_payments_230 : decode cX12_payments 230 = .ok (.iload_n 2, 1) := by decide +kernel
theorem dX12_payments_231 : decode cX12_payments 231 = .ok (.invokestatic 370, 3) := by decide +kernel
theorem dX12_payments_234 : decode cX12_payments 234 = .ok (.aload_n 0, 1) := by decide +kernel
theorem dX12_payments_235 : decode cX12_payments 235 = .ok (.getfield 90, 3) := by decide +kernel
theorem dX12_payments_238 : decode cX12_payments 238 = .ok (.iload_n 2, 1) := by decide +kernel
theorem dX12_payments_239 : decode cX12_payments 239 = .ok (.iaload, 1) := by decide +kernel
theorem dX12_payments_240 : decode cX12_payments 240 = .ok (.isub, 1) := by decide +kernel
theorem dX12_payments_241 : decode cX12_payments 241 = .ok (.ireturn, 1) := by decide +kernel
theorem dX12_left_0 : decode cX12_left 0 = .ok (.aload_n 0, 1) := by decide +kernel
theorem dX12_left_1 : decode cX12_left 1 = .ok (.iconst 0, 1) := by decide +kernel
theorem dX12_left_2 : decode cX12_left 2 = .ok (.putfield 123, 3) := by decide +kernel
theorem dX12_left_5 : decode cX12_left 5 = .ok (.aload_n 0, 1) := by decide +kernel
theorem dX12_left_6 : decode cX12_left 6 = .ok (.iload_n 1, 1) := by decide +kernel
theorem dX12_left_7 : decode cX12_left 7 = .ok (.invokevirtual 149, 3) := by decide +kernel
theorem dX12_left_10 : decode cX12_left 10 = .ok (.ifCond .eq 15, 3) := by decide +kernel
theorem dX12_left_13 : decode cX12_left 13 = .ok (.iload_n 2, 1) := by decide +kernel
theorem dX12_left_14 : decode cX12_left 14 = .ok (.i2l, 1) := by decide +kernel
theorem dX12_left_15 : decode cX12_left 15 = .ok (.lconst 0, 1) := by decide +kernel
theorem dX12_left_16 : decode cX12_left 16 = .ok (.ldc2_w 373, 3) := by decide +kernel
theorem dX12_left_19 : decode cX12_left 19 = .ok (.invokestatic 129, 3) := by decide +kernel
theorem dX12_left_22 : decode cX12_left 22 = .ok (.ifCond .ne 5, 3) := by decide +kernel
theorem dX12_left_25 : decode cX12_left 25 = .ok (.iconst (-1), 1) := by decide +kernel
theorem dX12_left_26 : decode cX12_left 26 = .ok (.ireturn, 1) := by decide +kernel
theorem dX12_left_27 : decode cX12_left 27 = .ok (.aload_n 0, 1) := by decide +kernel
theorem dX12_left_28 : decode cX12_left 28 = .ok (.invokevirtual 169, 3) := by decide +kernel
theorem dX12_left_31 : decode cX12_left 31 = .ok (.iload_n 2, 1) := by decide +kernel
theorem dX12_left_32 : decode cX12_left 32 = .ok (.iconst 2, 1) := by decide +kernel
theorem dX12_left_33 : decode cX12_left 33 = .ok (.if_icmp .ne 9, 3) := by decide +kernel
theorem dX12_left_36 : decode cX12_left 36 = .ok (.aload_n 0, 1) := by decide +kernel
theorem dX12_left_37 : decode cX12_left 37 = .ok (.iload_n 1, 1) := by decide +kernel
theorem dX12_left_38 : decode cX12_left 38 = .ok (.invokevirtual 375, 3) := by decide +kernel
theorem dX12_left_41 : decode cX12_left 41 = .ok (.ireturn, 1) := by decide +kernel
theorem dX12_left_42 : decode cX12_left 42 = .ok (.iconst 0, 1) := by decide +kernel
theorem dX12_left_43 : decode cX12_left 43 = .ok (.istore_n 3, 1) := by decide +kernel
theorem dX12_left_44 : decode cX12_left 44 = .ok (.iconst 0, 1) := by decide +kernel
theorem dX12_left_45 : decode cX12_left 45 = .ok (.istore 4, 2) := by decide +kernel
theorem dX12_left_47 : decode cX12_left 47 = .ok (.iload 4, 2) := by decide +kernel
theorem dX12_left_49 : decode cX12_left 49 = .ok (.aload_n 0, 1) := by decide +kernel
theorem dX12_left_50 : decode cX12_left 50 = .ok (.invokevirtual 139, 3) := by decide +kernel
theorem dX12_left_53 : decode cX12_left 53 = .ok (.if_icmp .ge 37, 3) := by decide +kernel
theorem dX12_left_56 : decode cX12_left 56 = .ok (.iload_n 2, 1) := by decide +kernel
theorem dX12_left_57 : decode cX12_left 57 = .ok (.ifCond .ne 33, 3) := by decide +kernel
theorem dX12_left_60 : decode cX12_left 60 = .ok (.iload_n 3, 1) := by decide +kernel
theorem dX12_left_61 : decode cX12_left 61 = .ok (.aload_n 0, 1) := by decide +kernel
theorem dX12_left_62 : decode cX12_left 62 = .ok (.iload 4, 2) := by decide +kernel
theorem dX12_left_64 : decode cX12_left 64 = .ok (.iload_n 1, 1) := by decide +kernel
theorem dX12_left_65 : decode cX12_left 65 = .ok (.invokevirtual 360, 3) := by decide +kernel
theorem dX12_left_68 : decode cX12_left 68 = .ok (.ifCond .eq 13, 3) := by decide +kernel
theorem dX12_left_71 : decode cX12_left 71 = .ok (.aload_n 0, 1) := by decide +kernel
theorem dX12_left_72 : decode cX12_left 72 = .ok (.iload 4, 2) := by decide +kernel
theorem dX12_left_74 : decode cX12_left 74 = .ok (.iconst 3, 1) := by decide +kernel
theorem dX12_left_75 : decode cX12_left 75 = .ok (.invokevirtual 143, 3) := by decide +kernel
theorem dX12_left_78 : decode cX12_left 78 = .ok (.goto 4, 3) := by decide +kernel
theorem dX12_left_81 : decode cX12_left 81 = .ok (.iconst 0, 1) := by decide +kernel
theorem dX12_left_82 : decode cX12_left 82 = .ok (.iadd, 1) := by decide +kernel
theorem dX12_left_83 : decode cX12_left 83 = .ok (.istore_n 3, 1) := by decide +kernel
theorem dX12_left_84 : decode cX12_left 84 = .ok (.iinc 4 1, 3) := by decide +kernel
theorem dX12_left_87 : decode cX12_left 87 = .ok (.goto (-40), 3) := by decide +kernel
theorem dX12_left_90 : decode cX12_left 90 = .ok (.iconst 0, 1) := by decide +kernel
theorem dX12_left_91 : decode cX12_left 91 = .ok (.istore 4, 2) := by decide +kernel
theorem dX12_left_93 : decode cX12_left 93 = .ok (.iload 4, 2) := by decide +kernel
theorem dX12_left_95 : decode cX12_left 95 = .ok (.bipush 8, 2) := by decide +kernel
theorem dX12_left_97 : decode cX12_left 97 = .ok (.if_icmp .ge 37, 3) := by decide +kernel
theorem dX12_left_100 : decode cX12_left 100 = .ok (.iload_n 2, 1) := by decide +kernel
theorem dX12_left_101 : decode cX12_left 101 = .ok (.iconst 1, 1) := by decide +kernel
theorem dX12_left_102 : decode cX12_left 102 = .ok (.if_icmp .ne 32, 3) := by decide +kernel
theorem dX12_left_105 : decode cX12_left 105 = .ok (.aload_n 0, 1) := by decide +kernel
theorem dX12_left_106 : decode cX12_left 106 = .ok (.iload 4, 2) := by decide +kernel
theorem dX12_left_108 : decode cX12_left 108 = .ok (.iload_n 1, 1) := by decide +kernel
theorem dX12_left_109 : decode cX12_left 109 = .ok (.invokevirtual 364, 3) := by decide +kernel
theorem dX12_left_112 : decode cX12_left 112 = .ok (.istore 5, 2) := by decide +kernel
theorem dX12_left_114 : decode cX12_left 114 = .ok (.iload_n 3, 1) := by decide +kernel
theorem dX12_left_115 : decode cX12_left 115 = .ok (.iload 5, 2) := by decide +kernel
theorem dX12_left_117 : decode cX12_left 117 = .ok (.ifCond .le 8, 3) := by decide +kernel
theorem dX12_left_120 : decode cX12_left 120 = .ok (.iload 5, 2) := by decide +kernel
theorem dX12_left_122 : decode cX12_left 122 = .ok (.goto 4, 3) := by decide +kernel
theorem dX12_left_125 : decode cX12_left 125 = .ok (.iconst 0, 1) := by decide +kernel
theorem dX12_left_126 : decode cX12_left 126 = .ok (.iadd, 1) := by decide +kernel
theorem dX12_left_127 : decode cX12_left 127 = .ok (.istore_n 3, 1) := by decide +kernel
theorem dX12_left_128 : decode cX12_left 128 = .ok (.iinc 4 1, 3) := by decide +kernel
theorem dX12_left_131 : decode cX12_left 131 = .ok (.goto (-38), 3) := by decide +kernel
theorem dX12_left_134 : decode cX12_left 134 = .ok (.iload_n 3, 1) := by decide +kernel
theorem dX12_left_135 : decode cX12_left 135 = .ok (.ireturn, 1) := by decide +kernel
theorem dX12_between_0 : decode cX12_between 0 = .ok (.iconst 0, 1) := by decide +kernel
theorem dX12_between_1 : decode cX12_between 1 = .ok (.istore 4, 2) := by decide +kernel
theorem dX12_between_3 : decode cX12_between 3 = .ok (.iconst 0, 1) := by decide +kernel
theorem dX12_between_4 : decode cX12_between 4 = .ok (.istore 5, 2) := by decide +kernel
theorem dX12_between_6 : decode cX12_between 6 = .ok (.iload 5, 2) := by decide +kernel
theorem dX12_between_8 : decode cX12_between 8 = .ok (.aload_n 0, 1) := by decide +kernel
theorem dX12_between_9 : decode cX12_between 9 = .ok (.invokevirtual 139, 3) := by decide +kernel
theorem dX12_between_12 : decode cX12_between 12 = .ok (.if_icmp .ge 57, 3) := by decide +kernel
theorem dX12_between_15 : decode cX12_between 15 = .ok (.iload 4, 2) := by decide +kernel
theorem dX12_between_17 : decode cX12_between 17 = .ok (.aload_n 0, 1) := by decide +kernel
theorem dX12_between_18 : decode cX12_between 18 = .ok (.iload 5, 2) := by decide +kernel
theorem dX12_between_20 : decode cX12_between 20 = .ok (.iload_n 3, 1) := by decide +kernel
theorem dX12_between_21 : decode cX12_between 21 = .ok (.invokevirtual 360, 3) := by decide +kernel
theorem dX12_between_24 : decode cX12_between 24 = .ok (.ifCond .eq 35, 3) := by decide +kernel
theorem dX12_between_27 : decode cX12_between 27 = .ok (.aload_n 0, 1) := by decide +kernel
theorem dX12_between_28 : decode cX12_between 28 = .ok (.iload 5, 2) := by decide +kernel
theorem dX12_between_30 : decode cX12_between 30 = .ok (.iconst 0, 1) := by decide +kernel
theorem dX12_between_31 : decode cX12_between 31 = .ok (.invokevirtual 143, 3) := by decide +kernel
theorem dX12_between_34 : decode cX12_between 34 = .ok (.iload_n 1, 1) := by decide +kernel
theorem dX12_between_35 : decode cX12_between 35 = .ok (.if_icmp .ne 24, 3) := by decide +kernel
theorem dX12_between_38 : decode cX12_between 38 = .ok (.aload_n 0, 1) := by decide +kernel
theorem dX12_between_39 : decode cX12_between 39 = .ok (.iload 5, 2) := by decide +kernel
theorem dX12_between_41 : decode cX12_between 41 = .ok (.iconst 1, 1) := by decide +kernel
theorem dX12_between_42 : decode cX12_between 42 = .ok (.invokevirtual 143, 3) := by decide +kernel
theorem dX12_between_45 : decode cX12_between 45 = .ok (.iload_n 2, 1) := by decide +kernel
theorem dX12_between_46 : decode cX12_between 46 = .ok (.if_icmp .ne 13, 3) := by decide +kernel
theorem dX12_between_49 : decode cX12_between 49 = .ok (.aload_n 0, 1) := by decide +kernel
theorem dX12_between_50 : decode cX12_between 50 = .ok (.iload 5, 2) := by decide +kernel
theorem dX12_between_52 : decode cX12_between 52 = .ok (.iconst 3, 1) := by decide +kernel
theorem dX12_between_53 : decode cX12_between 53 = .ok (.invokevirtual 143, 3) := by decide +kernel
theorem dX12_between_56 : decode cX12_between 56 = .ok (.goto 4, 3) := by decide +kernel
theorem dX12_between_59 : decode cX12_between 59 = .ok (.iconst 0, 1) := by decide +kernel
theorem dX12_between_60 : decode cX12_between 60 = .ok (.iadd, 1) := by decide +kernel
theorem dX12_between_61 : decode cX12_between 61 = .ok (.istore 4, 2) := by decide +kernel
theorem dX12_between_63 : decode cX12_between 63 = .ok (.iinc 5 1, 3) := by decide +kernel
theorem dX12_between_66 : decode cX12_between 66 = .ok (.goto (-60), 3) := by decide +kernel
theorem dX12_between_69 : decode cX12_between 69 = .ok (.iload 4, 2) := by decide +kernel
theorem dX12_between_71 : decode cX12_between 71 = .ok (.ireturn, 1) := by decide +kernel
theorem dX12_findRing_0 : decode cX12_findRing 0 = .ok (.aload_n 0, 1) := by decide +kernel
theorem dX12_findRing_1 : decode cX12_findRing 1 = .ok (.iconst 0, 1) := by decide +kernel
theorem dX12_findRing_2 : decode cX12_findRing 2 = .ok (.putfield 378, 3) := by decide +kernel
theorem dX12_findRing_5 : decode cX12_findRing 5 = .ok (.aload_n 0, 1) := by decide +kernel
theorem dX12_findRing_6 : decode cX12_findRing 6 = .ok (.iconst 0, 1) := by decide +kernel
theorem dX12_findRing_7 : decode cX12_findRing 7 = .ok (.putfield 381, 3) := by decide +kernel
theorem dX12_findRing_10 : decode cX12_findRing 10 = .ok (.iconst 0, 1) := by decide +kernel
theorem dX12_findRing_11 : decode cX12_findRing 11 = .ok (.istore_n 2, 1) := by decide +kernel
