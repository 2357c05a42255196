theorem dL_law_0 : decode code 0 = .ok (.new 7, 3) := by decide +kernel
theorem dL_law_3 : decode code 3 = .ok (.dup, 1) := by decide +kernel
theorem dL_law_4 : decode code 4 = .ok (.aload_n 0, 1) := by decide +kernel
theorem dL_law_5 : decode code 5 = .ok (.iconst 0, 1) := by decide +kernel
theorem dL_law_6 : decode code 6 = .ok (.invokestatic 9, 3) := by decide +kernel
theorem dL_law_9 : decode code 9 = .ok (.invokespecial 15, 3) := by decide +kernel
theorem dL_law_12 : decode code 12 = .ok (.astore_n 1, 1) := by decide +kernel
theorem dL_law_13 : decode code 13 = .ok (.new 18, 3) := by decide +kernel
theorem dL_law_16 : decode code 16 = .ok (.dup, 1) := by decide +kernel
theorem dL_law_17 : decode code 17 = .ok (.aload_n 0, 1) := by decide +kernel
theorem dL_law_18 : decode code 18 = .ok (.iconst 0, 1) := by decide +kernel
theorem dL_law_19 : decode code 19 = .ok (.invokestatic 9, 3) := by decide +kernel
theorem dL_law_22 : decode code 22 = .ok (.invokespecial 20, 3) := by decide +kernel
theorem dL_law_25 : decode code 25 = .ok (.astore_n 2, 1) := by decide +kernel
theorem dL_law_26 : decode code 26 = .ok (.iconst 1, 1) := by decide +kernel
theorem dL_law_27 : decode code 27 = .ok (.istore_n 3, 1) := by decide +kernel
theorem dL_law_28 : decode code 28 = .ok (.iload_n 3, 1) := by decide +kernel
theorem dL_law_29 : decode code 29 = .ok (.aload_n 0, 1) := by decide +kernel
theorem dL_law_30 : decode code 30 = .ok (.arraylength, 1) := by decide +kernel
theorem dL_law_31 : decode code 31 = .ok (.iconst 4, 1) := by decide +kernel
theorem dL_law_32 : decode code 32 = .ok (.isub, 1) := by decide +kernel
theorem dL_law_33 : decode code 33 = .ok (.if_icmp .gt 480, 3) := by decide +kernel
theorem dL_law_36 : decode code 36 = .ok (.aload_n 0, 1) := by decide +kernel
theorem dL_law_37 : decode code 37 = .ok (.iload_n 3, 1) := by decide +kernel
theorem dL_law_38 : decode code 38 = .ok (.iaload, 1) := by decide +kernel
theorem dL_law_39 : decode code 39 = .ok (.bipush 15, 2) := by decide +kernel
theorem dL_law_41 : decode code 41 = .ok (.iand, 1) := by decide +kernel
theorem dL_law_42 : decode code 42 = .ok (.tableswitch 465 0 12 #[66, 109, 142, 165, 198, 231, 274, 317, 340, 363, 386, 409, 442], 66) := by decide +kernel
theorem dL_law_108 : decode code 108 = .ok (.aload_n 1, 1) := by decide +kernel
theorem dL_law_109 : decode code 109 = .ok (.aload_n 0, 1) := by decide +kernel
theorem dL_law_110 : decode code 110 = .ok (.iload_n 3, 1) := by decide +kernel
theorem dL_law_111 : decode code 111 = .ok (.iconst 1, 1) := by decide +kernel
theorem dL_law_112 : decode code 112 = .ok (.iadd, 1) := by decide +kernel
theorem dL_law_113 : decode code 113 = .ok (.iaload, 1) := by decide +kernel
theorem dL_law_114 : decode code 114 = .ok (.aload_n 0, 1) := by decide +kernel
theorem dL_law_115 : decode code 115 = .ok (.iload_n 3, 1) := by decide +kernel
theorem dL_law_116 : decode code 116 = .ok (.iconst 2, 1) := by decide +kernel
theorem dL_law_117 : decode code 117 = .ok (.iadd, 1) := by decide +kernel
theorem dL_law_118 : decode code 118 = .ok (.iaload, 1) := by decide +kernel
theorem dL_law_119 : decode code 119 = .ok (.aload_n 0, 1) := by decide +kernel
theorem dL_law_120 : decode code 120 = .ok (.iload_n 3, 1) := by decide +kernel
theorem dL_law_121 : decode code 121 = .ok (.iconst 3, 1) := by decide +kernel
theorem dL_law_122 : decode code 122 = .ok (.iadd, 1) := by decide +kernel
theorem dL_law_123 : decode code 123 = .ok (.iaload, 1) := by decide +kernel
theorem dL_law_124 : decode code 124 = .ok (.invokevirtual 21, 3) := by decide +kernel
theorem dL_law_127 : decode code 127 = .ok (.aload_n 2, 1) := by decide +kernel
theorem dL_law_128 : decode code 128 = .ok (.aload_n 0, 1) := by decide +kernel
theorem dL_law_129 : decode code 129 = .ok (.iload_n 3, 1) := by decide +kernel
theorem dL_law_130 : decode code 130 = .ok (.iconst 1, 1) := by decide +kernel
theorem dL_law_131 : decode code 131 = .ok (.iadd, 1) := by decide +kernel
theorem dL_law_132 : decode code 132 = .ok (.iaload, 1) := by decide +kernel
theorem dL_law_133 : decode code 133 = .ok (.aload_n 0, 1) := by decide +kernel
theorem dL_law_134 : decode code 134 = .ok (.iload_n 3, 1) := by decide +kernel
theorem dL_law_135 : decode code 135 = .ok (.iconst 2, 1) := by decide +kernel
theorem dL_law_136 : decode code 136 = .ok (.iadd, 1) := by decide +kernel
theorem dL_law_137 : decode code 137 = .ok (.iaload, 1) := by decide +kernel
theorem dL_law_138 : decode code 138 = .ok (.aload_n 0, 1) := by decide +kernel
theorem dL_law_139 : decode code 139 = .ok (.iload_n 3, 1) := by decide +kernel
theorem dL_law_140 : decode code 140 = .ok (.iconst 3, 1) := by decide +kernel
theorem dL_law_141 : decode code 141 = .ok (.iadd, 1) := by decide +kernel
theorem dL_law_142 : decode code 142 = .ok (.iaload, 1) := by decide +kernel
theorem dL_law_143 : decode code 143 = .ok (.invokevirtual 25, 3) := by decide +kernel
theorem dL_law_146 : decode code 146 = .ok (.if_icmp .eq 361, 3) := by decide +kernel
theorem dL_law_149 : decode code 149 = .ok (.iconst 0, 1) := by decide +kernel
theorem dL_law_150 : decode code 150 = .ok (.ireturn, 1) := by decide +kernel
theorem dL_law_151 : decode code 151 = .ok (.aload_n 1, 1) := by decide +kernel
theorem dL_law_152 : decode code 152 = .ok (.aload_n 0, 1) := by decide +kernel
theorem dL_law_153 : decode code 153 = .ok (.iload_n 3, 1) := by decide +kernel
theorem dL_law_154 : decode code 154 = .ok (.iconst 1, 1) := by decide +kernel
theorem dL_law_155 : decode code 155 = .ok (.iadd, 1) := by decide +kernel
theorem dL_law_156 : decode code 156 = .ok (.iaload, 1) := by decide +kernel
theorem dL_law_157 : decode code 157 = .ok (.aload_n 0, 1) := by decide +kernel
theorem dL_law_158 : decode code 158 = .ok (.iload_n 3, 1) := by decide +kernel
theorem dL_law_159 : decode code 159 = .ok (.iconst 2, 1) := by decide +kernel
theorem dL_law_160 : decode code 160 = .ok (.iadd, 1) := by decide +kernel
theorem dL_law_161 : decode code 161 = .ok (.iaload, 1) := by decide +kernel
theorem dL_law_162 : decode code 162 = .ok (.invokevirtual 26, 3) := by decide +kernel
theorem dL_law_165 : decode code 165 = .ok (.aload_n 2, 1) := by decide +kernel
theorem dL_law_166 : decode code 166 = .ok (.aload_n 0, 1) := by decide +kernel
theorem dL_law_167 : decode code 167 = .ok (.iload_n 3, 1) := by decide +kernel
theorem dL_law_168 : decode code 168 = .ok (.iconst 1, 1) := by decide +kernel
theorem dL_law_169 : decode code 169 = .ok (.iadd, 1) := by decide +kernel
theorem dL_law_170 : decode code 170 = .ok (.iaload, 1) := by decide +kernel
theorem dL_law_171 : decode code 171 = .ok (.aload_n 0, 1) := by decide +kernel
theorem dL_law_172 : decode code 172 = .ok (.iload_n 3, 1) := by decide +kernel
theorem dL_law_173 : decode code 173 = .ok (.iconst 2, 1) := by decide +kernel
theorem dL_law_174 : decode code 174 = .ok (.iadd, 1) := by decide +kernel
theorem dL_law_175 : decode code 175 = .ok (.iaload, 1) := by decide +kernel
theorem dL_law_176 : decode code 176 = .ok (.invokevirtual 30, 3) := by decide +kernel
theorem dL_law_179 : decode code 179 = .ok (.if_icmp .eq 328, 3) := by decide +kernel
theorem dL_law_182 : decode code 182 = .ok (.iconst 0, 1) := by decide +kernel
theorem dL_law_183 : decode code 183 = .ok (.ireturn, 1) := by decide +kernel
theorem dL_law_184 : decode code 184 = .ok (.aload_n 1, 1) := by decide +kernel
theorem dL_law_185 : decode code 185 = .ok (.aload_n 0, 1) := by decide +kernel
theorem dL_law_186 : decode code 186 = .ok (.iload_n 3, 1) := by decide +kernel
theorem dL_law_187 : decode code 187 = .ok (.iconst 1, 1) := by decide +kernel
theorem dL_law_188 : decode code 188 = .ok (.iadd, 1) := by decide +kernel
theorem dL_law_189 : decode code 189 = .ok (.iaload, 1) := by decide +kernel
theorem dL_law_190 : decode code 190 = .ok (.invokevirtual 31, 3) := by decide +kernel
theorem dL_law_193 : decode code 193 = .ok (.aload_n 2, 1) := by decide +kernel
theorem dL_law_194 : decode code 194 = .ok (.aload_n 0, 1) := by decide +kernel
theorem dL_law_195 : decode code 195 = .ok (.iload_n 3, 1) := by decide +kernel
theorem dL_law_196 : decode code 196 = .ok (.iconst 1, 1) := by decide +kernel
theorem dL_law_197 : decode code 197 = .ok (.iadd, 1) := by decide +kernel
theorem dL_law_198 : decode code 198 = .ok (.iaload, 1) := by decide +kernel
theorem dL_law_199 : decode code 199 = .ok (.invokevirtual 35, 3) := by decide +kernel
theorem dL_law_202 : decode code 202 = .ok (.if_icmp .eq 305, 3) := by decide +kernel
theorem dL_law_205 : decode code 205 = .ok (.iconst 0, 1) := by decide +kernel
theorem dL_law_206 : decode code 206 = .ok (.ireturn, 1) := by decide +kernel
theorem dL_law_207 : decode code 207 = .ok (.aload_n 1, 1) := by decide +kernel
theorem dL_law_208 : decode code 208 = .ok (.aload_n 0, 1) := by decide +kernel
theorem dL_law_209 : decode code 209 = .ok (.iload_n 3, 1) := by decide +kernel
theorem dL_law_210 : decode code 210 = .ok (.iconst 1, 1) := by decide +kernel
theorem dL_law_211 : decode code 211 = .ok (.iadd, 1) := by decide +kernel
theorem dL_law_212 : decode code 212 = .ok (.iaload, 1) := by decide +kernel
theorem dL_law_213 : decode code 213 = .ok (.aload_n 0, 1) := by decide +kernel
theorem dL_law_214 : decode code 214 = .ok (.iload_n 3, 1) := by decide +kernel
theorem dL_law_215 : decode code 215 = .ok (.iconst 2, 1) := by decide +kernel
theorem dL_law_216 : decode code 216 = .ok (.iadd, 1) := by decide +kernel
theorem dL_law_217 : decode code 217 = .ok (.iaload, 1) := by decide +kernel
