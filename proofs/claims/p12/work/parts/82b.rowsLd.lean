theorem q9_dL_law_0 : (decode cL_law 0 = .ok (.new 7, 3)) ∧ (decode cL_law 3 = .ok (.dup, 1)) ∧ (decode cL_law 4 = .ok (.invokespecial 9, 3)) ∧ (decode cL_law 7 = .ok (.astore_n 1, 1)) ∧ (decode cL_law 8 = .ok (.new 10, 3)) ∧ (decode cL_law 11 = .ok (.dup, 1)) ∧ (decode cL_law 12 = .ok (.invokespecial 12, 3)) ∧ (decode cL_law 15 = .ok (.astore_n 2, 1)) ∧ (decode cL_law 16 = .ok (.iconst 0, 1)) ∧ (decode cL_law 17 = .ok (.istore_n 3, 1)) := by decide +kernel
theorem dL_law_0 : decode cL_law 0 = .ok (.new 7, 3) := q9_dL_law_0.1
theorem dL_law_3 : decode cL_law 3 = .ok (.dup, 1) := q9_dL_law_0.2.1
theorem dL_law_4 : decode cL_law 4 = .ok (.invokespecial 9, 3) := q9_dL_law_0.2.2.1
theorem dL_law_7 : decode cL_law 7 = .ok (.astore_n 1, 1) := q9_dL_law_0.2.2.2.1
theorem dL_law_8 : decode cL_law 8 = .ok (.new 10, 3) := q9_dL_law_0.2.2.2.2.1
theorem dL_law_11 : decode cL_law 11 = .ok (.dup, 1) := q9_dL_law_0.2.2.2.2.2.1
theorem dL_law_12 : decode cL_law 12 = .ok (.invokespecial 12, 3) := q9_dL_law_0.2.2.2.2.2.2.1
theorem dL_law_15 : decode cL_law 15 = .ok (.astore_n 2, 1) := q9_dL_law_0.2.2.2.2.2.2.2.1
theorem dL_law_16 : decode cL_law 16 = .ok (.iconst 0, 1) := q9_dL_law_0.2.2.2.2.2.2.2.2.1
theorem dL_law_17 : decode cL_law 17 = .ok (.istore_n 3, 1) := q9_dL_law_0.2.2.2.2.2.2.2.2.2
theorem q9_dL_law_18 : (decode cL_law 18 = .ok (.iload_n 3, 1)) ∧ (decode cL_law 19 = .ok (.aload_n 0, 1)) ∧ (decode cL_law 20 = .ok (.arraylength, 1)) ∧ (decode cL_law 21 = .ok (.bipush 6, 2)) ∧ (decode cL_law 23 = .ok (.isub, 1)) ∧ (decode cL_law 24 = .ok (.if_icmp .gt 743, 3)) ∧ (decode cL_law 27 = .ok (.aload_n 0, 1)) ∧ (decode cL_law 28 = .ok (.iload_n 3, 1)) ∧ (decode cL_law 29 = .ok (.iaload, 1)) ∧ (decode cL_law 30 = .ok (.bipush 31, 2)) := by decide +kernel
theorem dL_law_18 : decode cL_law 18 = .ok (.iload_n 3, 1) := q9_dL_law_18.1
theorem dL_law_19 : decode cL_law 19 = .ok (.aload_n 0, 1) := q9_dL_law_18.2.1
theorem dL_law_20 : decode cL_law 20 = .ok (.arraylength, 1) := q9_dL_law_18.2.2.1
theorem dL_law_21 : decode cL_law 21 = .ok (.bipush 6, 2) := q9_dL_law_18.2.2.2.1
theorem dL_law_23 : decode cL_law 23 = .ok (.isub, 1) := q9_dL_law_18.2.2.2.2.1
theorem dL_law_24 : decode cL_law 24 = .ok (.if_icmp .gt 743, 3) := q9_dL_law_18.2.2.2.2.2.1
theorem dL_law_27 : decode cL_law 27 = .ok (.aload_n 0, 1) := q9_dL_law_18.2.2.2.2.2.2.1
theorem dL_law_28 : decode cL_law 28 = .ok (.iload_n 3, 1) := q9_dL_law_18.2.2.2.2.2.2.2.1
theorem dL_law_29 : decode cL_law 29 = .ok (.iaload, 1) := q9_dL_law_18.2.2.2.2.2.2.2.2.1
theorem dL_law_30 : decode cL_law 30 = .ok (.bipush 31, 2) := q9_dL_law_18.2.2.2.2.2.2.2.2.2
theorem q9_dL_law_32 : (decode cL_law 32 = .ok (.iand, 1)) ∧ (decode cL_law 33 = .ok (.tableswitch 728 0 18 #[91, 154, 187, 210, 233, 266, 289, 342, 365, 408, 451, 484, 517, 540, 573, 606, 639, 672, 705], 91)) ∧ (decode cL_law 124 = .ok (.aload_n 1, 1)) ∧ (decode cL_law 125 = .ok (.aload_n 0, 1)) ∧ (decode cL_law 126 = .ok (.iload_n 3, 1)) ∧ (decode cL_law 127 = .ok (.iconst 1, 1)) ∧ (decode cL_law 128 = .ok (.iadd, 1)) ∧ (decode cL_law 129 = .ok (.iaload, 1)) ∧ (decode cL_law 130 = .ok (.aload_n 0, 1)) ∧ (decode cL_law 131 = .ok (.iload_n 3, 1)) := by decide +kernel
theorem dL_law_32 : decode cL_law 32 = .ok (.iand, 1) := q9_dL_law_32.1
theorem dL_law_33 : decode cL_law 33 = .ok (.tableswitch 728 0 18 #[91, 154, 187, 210, 233, 266, 289, 342, 365, 408, 451, 484, 517, 540, 573, 606, 639, 672, 705], 91) := q9_dL_law_32.2.1
theorem dL_law_124 : decode cL_law 124 = .ok (.aload_n 1, 1) := q9_dL_law_32.2.2.1
theorem dL_law_125 : decode cL_law 125 = .ok (.aload_n 0, 1) := q9_dL_law_32.2.2.2.1
theorem dL_law_126 : decode cL_law 126 = .ok (.iload_n 3, 1) := q9_dL_law_32.2.2.2.2.1
theorem dL_law_127 : decode cL_law 127 = .ok (.iconst 1, 1) := q9_dL_law_32.2.2.2.2.2.1
theorem dL_law_128 : decode cL_law 128 = .ok (.iadd, 1) := q9_dL_law_32.2.2.2.2.2.2.1
theorem dL_law_129 : decode cL_law 129 = .ok (.iaload, 1) := q9_dL_law_32.2.2.2.2.2.2.2.1
theorem dL_law_130 : decode cL_law 130 = .ok (.aload_n 0, 1) := q9_dL_law_32.2.2.2.2.2.2.2.2.1
theorem dL_law_131 : decode cL_law 131 = .ok (.iload_n 3, 1) := q9_dL_law_32.2.2.2.2.2.2.2.2.2
theorem q9_dL_law_132 : (decode cL_law 132 = .ok (.iconst 2, 1)) ∧ (decode cL_law 133 = .ok (.iadd, 1)) ∧ (decode cL_law 134 = .ok (.iaload, 1)) ∧ (decode cL_law 135 = .ok (.aload_n 0, 1)) ∧ (decode cL_law 136 = .ok (.iload_n 3, 1)) ∧ (decode cL_law 137 = .ok (.iconst 3, 1)) ∧ (decode cL_law 138 = .ok (.iadd, 1)) ∧ (decode cL_law 139 = .ok (.iaload, 1)) ∧ (decode cL_law 140 = .ok (.aload_n 0, 1)) ∧ (decode cL_law 141 = .ok (.iload_n 3, 1)) := by decide +kernel
theorem dL_law_132 : decode cL_law 132 = .ok (.iconst 2, 1) := q9_dL_law_132.1
theorem dL_law_133 : decode cL_law 133 = .ok (.iadd, 1) := q9_dL_law_132.2.1
theorem dL_law_134 : decode cL_law 134 = .ok (.iaload, 1) := q9_dL_law_132.2.2.1
theorem dL_law_135 : decode cL_law 135 = .ok (.aload_n 0, 1) := q9_dL_law_132.2.2.2.1
theorem dL_law_136 : decode cL_law 136 = .ok (.iload_n 3, 1) := q9_dL_law_132.2.2.2.2.1
theorem dL_law_137 : decode cL_law 137 = .ok (.iconst 3, 1) := q9_dL_law_132.2.2.2.2.2.1
theorem dL_law_138 : decode cL_law 138 = .ok (.iadd, 1) := q9_dL_law_132.2.2.2.2.2.2.1
theorem dL_law_139 : decode cL_law 139 = .ok (.iaload, 1) := q9_dL_law_132.2.2.2.2.2.2.2.1
theorem dL_law_140 : decode cL_law 140 = .ok (.aload_n 0, 1) := q9_dL_law_132.2.2.2.2.2.2.2.2.1
theorem dL_law_141 : decode cL_law 141 = .ok (.iload_n 3, 1) := q9_dL_law_132.2.2.2.2.2.2.2.2.2
theorem q9_dL_law_142 : (decode cL_law 142 = .ok (.iconst 4, 1)) ∧ (decode cL_law 143 = .ok (.iadd, 1)) ∧ (decode cL_law 144 = .ok (.iaload, 1)) ∧ (decode cL_law 145 = .ok (.aload_n 0, 1)) ∧ (decode cL_law 146 = .ok (.iload_n 3, 1)) ∧ (decode cL_law 147 = .ok (.iconst 5, 1)) ∧ (decode cL_law 148 = .ok (.iadd, 1)) ∧ (decode cL_law 149 = .ok (.iaload, 1)) ∧ (decode cL_law 150 = .ok (.invokevirtual 13, 3)) ∧ (decode cL_law 153 = .ok (.pop, 1)) := by decide +kernel
theorem dL_law_142 : decode cL_law 142 = .ok (.iconst 4, 1) := q9_dL_law_142.1
theorem dL_law_143 : decode cL_law 143 = .ok (.iadd, 1) := q9_dL_law_142.2.1
theorem dL_law_144 : decode cL_law 144 = .ok (.iaload, 1) := q9_dL_law_142.2.2.1
theorem dL_law_145 : decode cL_law 145 = .ok (.aload_n 0, 1) := q9_dL_law_142.2.2.2.1
theorem dL_law_146 : decode cL_law 146 = .ok (.iload_n 3, 1) := q9_dL_law_142.2.2.2.2.1
theorem dL_law_147 : decode cL_law 147 = .ok (.iconst 5, 1) := q9_dL_law_142.2.2.2.2.2.1
theorem dL_law_148 : decode cL_law 148 = .ok (.iadd, 1) := q9_dL_law_142.2.2.2.2.2.2.1
theorem dL_law_149 : decode cL_law 149 = .ok (.iaload, 1) := q9_dL_law_142.2.2.2.2.2.2.2.1
theorem dL_law_150 : decode cL_law 150 = .ok (.invokevirtual 13, 3) := q9_dL_law_142.2.2.2.2.2.2.2.2.1
theorem dL_law_153 : decode cL_law 153 = .ok (.pop, 1) := q9_dL_law_142.2.2.2.2.2.2.2.2.2
theorem q9_dL_law_154 : (decode cL_law 154 = .ok (.aload_n 2, 1)) ∧ (decode cL_law 155 = .ok (.aload_n 0, 1)) ∧ (decode cL_law 156 = .ok (.iload_n 3, 1)) ∧ (decode cL_law 157 = .ok (.iconst 1, 1)) ∧ (decode cL_law 158 = .ok (.iadd, 1)) ∧ (decode cL_law 159 = .ok (.iaload, 1)) ∧ (decode cL_law 160 = .ok (.aload_n 0, 1)) ∧ (decode cL_law 161 = .ok (.iload_n 3, 1)) ∧ (decode cL_law 162 = .ok (.iconst 2, 1)) ∧ (decode cL_law 163 = .ok (.iadd, 1)) := by decide +kernel
theorem dL_law_154 : decode cL_law 154 = .ok (.aload_n 2, 1) := q9_dL_law_154.1
theorem dL_law_155 : decode cL_law 155 = .ok (.aload_n 0, 1) := q9_dL_law_154.2.1
theorem dL_law_156 : decode cL_law 156 = .ok (.iload_n 3, 1) := q9_dL_law_154.2.2.1
theorem dL_law_157 : decode cL_law 157 = .ok (.iconst 1, 1) := q9_dL_law_154.2.2.2.1
theorem dL_law_158 : decode cL_law 158 = .ok (.iadd, 1) := q9_dL_law_154.2.2.2.2.1
theorem dL_law_159 : decode cL_law 159 = .ok (.iaload, 1) := q9_dL_law_154.2.2.2.2.2.1
theorem dL_law_160 : decode cL_law 160 = .ok (.aload_n 0, 1) := q9_dL_law_154.2.2.2.2.2.2.1
theorem dL_law_161 : decode cL_law 161 = .ok (.iload_n 3, 1) := q9_dL_law_154.2.2.2.2.2.2.2.1
theorem dL_law_162 : decode cL_law 162 = .ok (.iconst 2, 1) := q9_dL_law_154.2.2.2.2.2.2.2.2.1
theorem dL_law_163 : decode cL_law 163 = .ok (.iadd, 1) := q9_dL_law_154.2.2.2.2.2.2.2.2.2
theorem q9_dL_law_164 : (decode cL_law 164 = .ok (.iaload, 1)) ∧ (decode cL_law 165 = .ok (.aload_n 0, 1)) ∧ (decode cL_law 166 = .ok (.iload_n 3, 1)) ∧ (decode cL_law 167 = .ok (.iconst 3, 1)) ∧ (decode cL_law 168 = .ok (.iadd, 1)) ∧ (decode cL_law 169 = .ok (.iaload, 1)) ∧ (decode cL_law 170 = .ok (.aload_n 0, 1)) ∧ (decode cL_law 171 = .ok (.iload_n 3, 1)) ∧ (decode cL_law 172 = .ok (.iconst 4, 1)) ∧ (decode cL_law 173 = .ok (.iadd, 1)) := by decide +kernel
theorem dL_law_164 : decode cL_law 164 = .ok (.iaload, 1) := q9_dL_law_164.1
theorem dL_law_165 : decode cL_law 165 = .ok (.aload_n 0, 1) := q9_dL_law_164.2.1
theorem dL_law_166 : decode cL_law 166 = .ok (.iload_n 3, 1) := q9_dL_law_164.2.2.1
theorem dL_law_167 : decode cL_law 167 = .ok (.iconst 3, 1) := q9_dL_law_164.2.2.2.1
theorem dL_law_168 : decode cL_law 168 = .ok (.iadd, 1) := q9_dL_law_164.2.2.2.2.1
theorem dL_law_169 : decode cL_law 169 = .ok (.iaload, 1) := q9_dL_law_164.2.2.2.2.2.1
theorem dL_law_170 : decode cL_law 170 = .ok (.aload_n 0, 1) := q9_dL_law_164.2.2.2.2.2.2.1
theorem dL_law_171 : decode cL_law 171 = .ok (.iload_n 3, 1) := q9_dL_law_164.2.2.2.2.2.2.2.1
theorem dL_law_172 : decode cL_law 172 = .ok (.iconst 4, 1) := q9_dL_law_164.2.2.2.2.2.2.2.2.1
theorem dL_law_173 : decode cL_law 173 = .ok (.iadd, 1) := q9_dL_law_164.2.2.2.2.2.2.2.2.2
theorem q9_dL_law_174 : (decode cL_law 174 = .ok (.iaload, 1)) ∧ (decode cL_law 175 = .ok (.aload_n 0, 1)) ∧ (decode cL_law 176 = .ok (.iload_n 3, 1)) ∧ (decode cL_law 177 = .ok (.iconst 5, 1)) ∧ (decode cL_law 178 = .ok (.iadd, 1)) ∧ (decode cL_law 179 = .ok (.iaload, 1)) ∧ (decode cL_law 180 = .ok (.invokevirtual 17, 3)) ∧ (decode cL_law 183 = .ok (.pop, 1)) ∧ (decode cL_law 184 = .ok (.goto 577, 3)) ∧ (decode cL_law 187 = .ok (.aload_n 1, 1)) := by decide +kernel
theorem dL_law_174 : decode cL_law 174 = .ok (.iaload, 1) := q9_dL_law_174.1
theorem dL_law_175 : decode cL_law 175 = .ok (.aload_n 0, 1) := q9_dL_law_174.2.1
theorem dL_law_176 : decode cL_law 176 = .ok (.iload_n 3, 1) := q9_dL_law_174.2.2.1
theorem dL_law_177 : decode cL_law 177 = .ok (.iconst 5, 1) := q9_dL_law_174.2.2.2.1
theorem dL_law_178 : decode cL_law 178 = .ok (.iadd, 1) := q9_dL_law_174.2.2.2.2.1
theorem dL_law_179 : decode cL_law 179 = .ok (.iaload, 1) := q9_dL_law_174.2.2.2.2.2.1
theorem dL_law_180 : decode cL_law 180 = .ok (.invokevirtual 17, 3) := q9_dL_law_174.2.2.2.2.2.2.1
theorem dL_law_183 : decode cL_law 183 = .ok (.pop, 1) := q9_dL_law_174.2.2.2.2.2.2.2.1
theorem dL_law_184 : decode cL_law 184 = .ok (.goto 577, 3) := q9_dL_law_174.2.2.2.2.2.2.2.2.1
theorem dL_law_187 : decode cL_law 187 = .ok (.aload_n 1, 1) := q9_dL_law_174.2.2.2.2.2.2.2.2.2
theorem q9_dL_law_188 : (decode cL_law 188 = .ok (.aload_n 0, 1)) ∧ (decode cL_law 189 = .ok (.iload_n 3, 1)) ∧ (decode cL_law 190 = .ok (.iconst 1, 1)) ∧ (decode cL_law 191 = .ok (.iadd, 1)) ∧ (decode cL_law 192 = .ok (.iaload, 1)) ∧ (decode cL_law 193 = .ok (.aload_n 0, 1)) ∧ (decode cL_law 194 = .ok (.iload_n 3, 1)) ∧ (decode cL_law 195 = .ok (.iconst 2, 1)) ∧ (decode cL_law 196 = .ok (.iadd, 1)) ∧ (decode cL_law 197 = .ok (.iaload, 1)) := by decide +kernel
theorem dL_law_188 : decode cL_law 188 = .ok (.aload_n 0, 1) := q9_dL_law_188.1
theorem dL_law_189 : decode cL_law 189 = .ok (.iload_n 3, 1) := q9_dL_law_188.2.1
theorem dL_law_190 : decode cL_law 190 = .ok (.iconst 1, 1) := q9_dL_law_188.2.2.1
theorem dL_law_191 : decode cL_law 191 = .ok (.iadd, 1) := q9_dL_law_188.2.2.2.1
theorem dL_law_192 : decode cL_law 192 = .ok (.iaload, 1) := q9_dL_law_188.2.2.2.2.1
theorem dL_law_193 : decode cL_law 193 = .ok (.aload_n 0, 1) := q9_dL_law_188.2.2.2.2.2.1
theorem dL_law_194 : decode cL_law 194 = .ok (.iload_n 3, 1) := q9_dL_law_188.2.2.2.2.2.2.1
theorem dL_law_195 : decode cL_law 195 = .ok (.iconst 2, 1) := q9_dL_law_188.2.2.2.2.2.2.2.1
theorem dL_law_196 : decode cL_law 196 = .ok (.iadd, 1) := q9_dL_law_188.2.2.2.2.2.2.2.2.1
theorem dL_law_197 : decode cL_law 197 = .ok (.iaload, 1) := q9_dL_law_188.2.2.2.2.2.2.2.2.2
theorem q9_dL_law_198 : (decode cL_law 198 = .ok (.invokevirtual 18, 3)) ∧ (decode cL_law 201 = .ok (.pop, 1)) ∧ (decode cL_law 202 = .ok (.aload_n 2, 1)) ∧ (decode cL_law 203 = .ok (.aload_n 0, 1)) ∧ (decode cL_law 204 = .ok (.iload_n 3, 1)) ∧ (decode cL_law 205 = .ok (.iconst 1, 1)) ∧ (decode cL_law 206 = .ok (.iadd, 1)) ∧ (decode cL_law 207 = .ok (.iaload, 1)) ∧ (decode cL_law 208 = .ok (.aload_n 0, 1)) ∧ (decode cL_law 209 = .ok (.iload_n 3, 1)) := by decide +kernel
theorem dL_law_198 : decode cL_law 198 = .ok (.invokevirtual 18, 3) := q9_dL_law_198.1
theorem dL_law_201 : decode cL_law 201 = .ok (.pop, 1) := q9_dL_law_198.2.1
theorem dL_law_202 : decode cL_law 202 = .ok (.aload_n 2, 1) := q9_dL_law_198.2.2.1
theorem dL_law_203 : decode cL_law 203 = .ok (.aload_n 0, 1) := q9_dL_law_198.2.2.2.1
theorem dL_law_204 : decode cL_law 204 = .ok (.iload_n 3, 1) := q9_dL_law_198.2.2.2.2.1
theorem dL_law_205 : decode cL_law 205 = .ok (.iconst 1, 1) := q9_dL_law_198.2.2.2.2.2.1
theorem dL_law_206 : decode cL_law 206 = .ok (.iadd, 1) := q9_dL_law_198.2.2.2.2.2.2.1
theorem dL_law_207 : decode cL_law 207 = .ok (.iaload, 1) := q9_dL_law_198.2.2.2.2.2.2.2.1
theorem dL_law_208 : decode cL_law 208 = .ok (.aload_n 0, 1) := q9_dL_law_198.2.2.2.2.2.2.2.2.1
theorem dL_law_209 : decode cL_law 209 = .ok (.iload_n 3, 1) := q9_dL_law_198.2.2.2.2.2.2.2.2.2
theorem q9_dL_law_210 : (decode cL_law 210 = .ok (.iconst 2, 1)) ∧ (decode cL_law 211 = .ok (.iadd, 1)) ∧ (decode cL_law 212 = .ok (.iaload, 1)) ∧ (decode cL_law 213 = .ok (.invokevirtual 22, 3)) ∧ (decode cL_law 216 = .ok (.pop, 1)) ∧ (decode cL_law 217 = .ok (.goto 544, 3)) ∧ (decode cL_law 220 = .ok (.aload_n 1, 1)) ∧ (decode cL_law 221 = .ok (.aload_n 0, 1)) ∧ (decode cL_law 222 = .ok (.iload_n 3, 1)) ∧ (decode cL_law 223 = .ok (.iconst 1, 1)) := by decide +kernel
theorem dL_law_210 : decode cL_law 210 = .ok (.iconst 2, 1) := q9_dL_law_210.1
theorem dL_law_211 : decode cL_law 211 = .ok (.iadd, 1) := q9_dL_law_210.2.1
theorem dL_law_212 : decode cL_law 212 = .ok (.iaload, 1) := q9_dL_law_210.2.2.1
theorem dL_law_213 : decode cL_law 213 = .ok (.invokevirtual 22, 3) := q9_dL_law_210.2.2.2.1
theorem dL_law_216 : decode cL_law 216 = .ok (.pop, 1) := q9_dL_law_210.2.2.2.2.1
theorem dL_law_217 : decode cL_law 217 = .ok (.goto 544, 3) := q9_dL_law_210.2.2.2.2.2.1
theorem dL_law_220 : decode cL_law 220 = .ok (.aload_n 1, 1) := q9_dL_law_210.2.2.2.2.2.2.1
theorem dL_law_221 : decode cL_law 221 = .ok (.aload_n 0, 1) := q9_dL_law_210.2.2.2.2.2.2.2.1
theorem dL_law_222 : decode cL_law 222 = .ok (.iload_n 3, 1) := q9_dL_law_210.2.2.2.2.2.2.2.2.1
theorem dL_law_223 : decode cL_law 223 = .ok (.iconst 1, 1) := q9_dL_law_210.2.2.2.2.2.2.2.2.2
theorem q9_dL_law_224 : (decode cL_law 224 = .ok (.iadd, 1)) ∧ (decode cL_law 225 = .ok (.iaload, 1)) ∧ (decode cL_law 226 = .ok (.invokevirtual 23, 3)) ∧ (decode cL_law 229 = .ok (.pop, 1)) ∧ (decode cL_law 230 = .ok (.aload_n 2, 1)) ∧ (decode cL_law 231 = .ok (.aload_n 0, 1)) ∧ (decode cL_law 232 = .ok (.iload_n 3, 1)) ∧ (decode cL_law 233 = .ok (.iconst 1, 1)) ∧ (decode cL_law 234 = .ok (.iadd, 1)) ∧ (decode cL_law 235 = .ok (.iaload, 1)) := by decide +kernel
theorem dL_law_224 : decode cL_law 224 = .ok (.iadd, 1) := q9_dL_law_224.1
theorem dL_law_225 : decode cL_law 225 = .ok (.iaload, 1) := q9_dL_law_224.2.1
theorem dL_law_226 : decode cL_law 226 = .ok (.invokevirtual 23, 3) := q9_dL_law_224.2.2.1
theorem dL_law_229 : decode cL_law 229 = .ok (.pop, 1) := q9_dL_law_224.2.2.2.1
theorem dL_law_230 : decode cL_law 230 = .ok (.aload_n 2, 1) := q9_dL_law_224.2.2.2.2.1
theorem dL_law_231 : decode cL_law 231 = .ok (.aload_n 0, 1) := q9_dL_law_224.2.2.2.2.2.1
theorem dL_law_232 : decode cL_law 232 = .ok (.iload_n 3, 1) := q9_dL_law_224.2.2.2.2.2.2.1
theorem dL_law_233 : decode cL_law 233 = .ok (.iconst 1, 1) := q9_dL_law_224.2.2.2.2.2.2.2.1
theorem dL_law_234 : decode cL_law 234 = .ok (.iadd, 1) := q9_dL_law_224.2.2.2.2.2.2.2.2.1
theorem dL_law_235 : decode cL_law 235 = .ok (.iaload, 1) := q9_dL_law_224.2.2.2.2.2.2.2.2.2
theorem q9_dL_law_236 : (decode cL_law 236 = .ok (.invokevirtual 27, 3)) ∧ (decode cL_law 239 = .ok (.pop, 1)) ∧ (decode cL_law 240 = .ok (.goto 521, 3)) ∧ (decode cL_law 243 = .ok (.aload_n 1, 1)) ∧ (decode cL_law 244 = .ok (.aload_n 0, 1)) ∧ (decode cL_law 245 = .ok (.iload_n 3, 1)) ∧ (decode cL_law 246 = .ok (.iconst 1, 1)) ∧ (decode cL_law 247 = .ok (.iadd, 1)) ∧ (decode cL_law 248 = .ok (.iaload, 1)) ∧ (decode cL_law 249 = .ok (.invokevirtual 28, 3)) := by decide +kernel
theorem dL_law_236 : decode cL_law 236 = .ok (.invokevirtual 27, 3) := q9_dL_law_236.1
theorem dL_law_239 : decode cL_law 239 = .ok (.pop, 1) := q9_dL_law_236.2.1
theorem dL_law_240 : decode cL_law 240 = .ok (.goto 521, 3) := q9_dL_law_236.2.2.1
theorem dL_law_243 : decode cL_law 243 = .ok (.aload_n 1, 1) := q9_dL_law_236.2.2.2.1
theorem dL_law_244 : decode cL_law 244 = .ok (.aload_n 0, 1) := q9_dL_law_236.2.2.2.2.1
theorem dL_law_245 : decode cL_law 245 = .ok (.iload_n 3, 1) := q9_dL_law_236.2.2.2.2.2.1
theorem dL_law_246 : decode cL_law 246 = .ok (.iconst 1, 1) := q9_dL_law_236.2.2.2.2.2.2.1
theorem dL_law_247 : decode cL_law 247 = .ok (.iadd, 1) := q9_dL_law_236.2.2.2.2.2.2.2.1
theorem dL_law_248 : decode cL_law 248 = .ok (.iaload, 1) := q9_dL_law_236.2.2.2.2.2.2.2.2.1
theorem dL_law_249 : decode cL_law 249 = .ok (.invokevirtual 28, 3) := q9_dL_law_236.2.2.2.2.2.2.2.2.2
theorem q9_dL_law_252 : (decode cL_law 252 = .ok (.pop, 1)) ∧ (decode cL_law 253 = .ok (.aload_n 2, 1)) ∧ (decode cL_law 254 = .ok (.aload_n 0, 1)) ∧ (decode cL_law 255 = .ok (.iload_n 3, 1)) ∧ (decode cL_law 256 = .ok (.iconst 1, 1)) ∧ (decode cL_law 257 = .ok (.iadd, 1)) ∧ (decode cL_law 258 = .ok (.iaload, 1)) ∧ (decode cL_law 259 = .ok (.invokevirtual 31, 3)) ∧ (decode cL_law 262 = .ok (.pop, 1)) ∧ (decode cL_law 263 = .ok (.goto 498, 3)) := by decide +kernel
theorem dL_law_252 : decode cL_law 252 = .ok (.pop, 1) := q9_dL_law_252.1
theorem dL_law_253 : decode cL_law 253 = .ok (.aload_n 2, 1) := q9_dL_law_252.2.1
theorem dL_law_254 : decode cL_law 254 = .ok (.aload_n 0, 1) := q9_dL_law_252.2.2.1
theorem dL_law_255 : decode cL_law 255 = .ok (.iload_n 3, 1) := q9_dL_law_252.2.2.2.1
theorem dL_law_256 : decode cL_law 256 = .ok (.iconst 1, 1) := q9_dL_law_252.2.2.2.2.1
theorem dL_law_257 : decode cL_law 257 = .ok (.iadd, 1) := q9_dL_law_252.2.2.2.2.2.1
theorem dL_law_258 : decode cL_law 258 = .ok (.iaload, 1) := q9_dL_law_252.2.2.2.2.2.2.1
theorem dL_law_259 : decode cL_law 259 = .ok (.invokevirtual 31, 3) := q9_dL_law_252.2.2.2.2.2.2.2.1
theorem dL_law_262 : decode cL_law 262 = .ok (.pop, 1) := q9_dL_law_252.2.2.2.2.2.2.2.2.1
theorem dL_law_263 : decode cL_law 263 = .ok (.goto 498, 3) := q9_dL_law_252.2.2.2.2.2.2.2.2.2
theorem q9_dL_law_266 : (decode cL_law 266 = .ok (.aload_n 1, 1)) ∧ (decode cL_law 267 = .ok (.aload_n 0, 1)) ∧ (decode cL_law 268 = .ok (.iload_n 3, 1)) ∧ (decode cL_law 269 = .ok (.iconst 1, 1)) ∧ (decode cL_law 270 = .ok (.iadd, 1)) ∧ (decode cL_law 271 = .ok (.iaload, 1)) ∧ (decode cL_law 272 = .ok (.aload_n 0, 1)) ∧ (decode cL_law 273 = .ok (.iload_n 3, 1)) ∧ (decode cL_law 274 = .ok (.iconst 2, 1)) ∧ (decode cL_law 275 = .ok (.iadd, 1)) := by decide +kernel
theorem dL_law_266 : decode cL_law 266 = .ok (.aload_n 1, 1) := q9_dL_law_266.1
theorem dL_law_267 : decode cL_law 267 = .ok (.aload_n 0, 1) := q9_dL_law_266.2.1
theorem dL_law_268 : decode cL_law 268 = .ok (.iload_n 3, 1) := q9_dL_law_266.2.2.1
theorem dL_law_269 : decode cL_law 269 = .ok (.iconst 1, 1) := q9_dL_law_266.2.2.2.1
theorem dL_law_270 : decode cL_law 270 = .ok (.iadd, 1) := q9_dL_law_266.2.2.2.2.1
theorem dL_law_271 : decode cL_law 271 = .ok (.iaload, 1) := q9_dL_law_266.2.2.2.2.2.1
theorem dL_law_272 : decode cL_law 272 = .ok (.aload_n 0, 1) := q9_dL_law_266.2.2.2.2.2.2.1
theorem dL_law_273 : decode cL_law 273 = .ok (.iload_n 3, 1) := q9_dL_law_266.2.2.2.2.2.2.2.1
theorem dL_law_274 : decode cL_law 274 = .ok (.iconst 2, 1) := q9_dL_law_266.2.2.2.2.2.2.2.2.1
theorem dL_law_275 : decode cL_law 275 = .ok (.iadd, 1) := q9_dL_law_266.2.2.2.2.2.2.2.2.2
theorem q9_dL_law_276 : (decode cL_law 276 = .ok (.iaload, 1)) ∧ (decode cL_law 277 = .ok (.invokevirtual 32, 3)) ∧ (decode cL_law 280 = .ok (.pop, 1)) ∧ (decode cL_law 281 = .ok (.aload_n 2, 1)) ∧ (decode cL_law 282 = .ok (.aload_n 0, 1)) ∧ (decode cL_law 283 = .ok (.iload_n 3, 1)) ∧ (decode cL_law 284 = .ok (.iconst 1, 1)) ∧ (decode cL_law 285 = .ok (.iadd, 1)) ∧ (decode cL_law 286 = .ok (.iaload, 1)) ∧ (decode cL_law 287 = .ok (.aload_n 0, 1)) := by decide +kernel
theorem dL_law_276 : decode cL_law 276 = .ok (.iaload, 1) := q9_dL_law_276.1
theorem dL_law_277 : decode cL_law 277 = .ok (.invokevirtual 32, 3) := q9_dL_law_276.2.1
theorem dL_law_280 : decode cL_law 280 = .ok (.pop, 1) := q9_dL_law_276.2.2.1
theorem dL_law_281 : decode cL_law 281 = .ok (.aload_n 2, 1) := q9_dL_law_276.2.2.2.1
theorem dL_law_282 : decode cL_law 282 = .ok (.aload_n 0, 1) := q9_dL_law_276.2.2.2.2.1
theorem dL_law_283 : decode cL_law 283 = .ok (.iload_n 3, 1) := q9_dL_law_276.2.2.2.2.2.1
theorem dL_law_284 : decode cL_law 284 = .ok (.iconst 1, 1) := q9_dL_law_276.2.2.2.2.2.2.1
theorem dL_law_285 : decode cL_law 285 = .ok (.iadd, 1) := q9_dL_law_276.2.2.2.2.2.2.2.1
theorem dL_law_286 : decode cL_law 286 = .ok (.iaload, 1) := q9_dL_law_276.2.2.2.2.2.2.2.2.1
theorem dL_law_287 : decode cL_law 287 = .ok (.aload_n 0, 1) := q9_dL_law_276.2.2.2.2.2.2.2.2.2
theorem q9_dL_law_288 : (decode cL_law 288 = .ok (.iload_n 3, 1)) ∧ (decode cL_law 289 = .ok (.iconst 2, 1)) ∧ (decode cL_law 290 = .ok (.iadd, 1)) ∧ (decode cL_law 291 = .ok (.iaload, 1)) ∧ (decode cL_law 292 = .ok (.invokevirtual 36, 3)) ∧ (decode cL_law 295 = .ok (.pop, 1)) ∧ (decode cL_law 296 = .ok (.goto 465, 3)) ∧ (decode cL_law 299 = .ok (.aload_n 1, 1)) ∧ (decode cL_law 300 = .ok (.aload_n 0, 1)) ∧ (decode cL_law 301 = .ok (.iload_n 3, 1)) := by decide +kernel
theorem dL_law_288 : decode cL_law 288 = .ok (.iload_n 3, 1) := q9_dL_law_288.1
theorem dL_law_289 : decode cL_law 289 = .ok (.iconst 2, 1) := q9_dL_law_288.2.1
theorem dL_law_290 : decode cL_law 290 = .ok (.iadd, 1) := q9_dL_law_288.2.2.1
theorem dL_law_291 : decode cL_law 291 = .ok (.iaload, 1) := q9_dL_law_288.2.2.2.1
theorem dL_law_292 : decode cL_law 292 = .ok (.invokevirtual 36, 3) := q9_dL_law_288.2.2.2.2.1
theorem dL_law_295 : decode cL_law 295 = .ok (.pop, 1) := q9_dL_law_288.2.2.2.2.2.1
theorem dL_law_296 : decode cL_law 296 = .ok (.goto 465, 3) := q9_dL_law_288.2.2.2.2.2.2.1
theorem dL_law_299 : decode cL_law 299 = .ok (.aload_n 1, 1) := q9_dL_law_288.2.2.2.2.2.2.2.1
theorem dL_law_300 : decode cL_law 300 = .ok (.aload_n 0, 1) := q9_dL_law_288.2.2.2.2.2.2.2.2.1
theorem dL_law_301 : decode cL_law 301 = .ok (.iload_n 3, 1) := q9_dL_law_288.2.2.2.2.2.2.2.2.2
theorem q9_dL_law_302 : (decode cL_law 302 = .ok (.iconst 1, 1)) ∧ (decode cL_law 303 = .ok (.iadd, 1)) ∧ (decode cL_law 304 = .ok (.iaload, 1)) ∧ (decode cL_law 305 = .ok (.invokevirtual 37, 3)) ∧ (decode cL_law 308 = .ok (.pop, 1)) ∧ (decode cL_law 309 = .ok (.aload_n 2, 1)) ∧ (decode cL_law 310 = .ok (.aload_n 0, 1)) ∧ (decode cL_law 311 = .ok (.iload_n 3, 1)) ∧ (decode cL_law 312 = .ok (.iconst 1, 1)) ∧ (decode cL_law 313 = .ok (.iadd, 1)) := by decide +kernel
theorem dL_law_302 : decode cL_law 302 = .ok (.iconst 1, 1) := q9_dL_law_302.1
theorem dL_law_303 : decode cL_law 303 = .ok (.iadd, 1) := q9_dL_law_302.2.1
theorem dL_law_304 : decode cL_law 304 = .ok (.iaload, 1) := q9_dL_law_302.2.2.1
theorem dL_law_305 : decode cL_law 305 = .ok (.invokevirtual 37, 3) := q9_dL_law_302.2.2.2.1
theorem dL_law_308 : decode cL_law 308 = .ok (.pop, 1) := q9_dL_law_302.2.2.2.2.1
theorem dL_law_309 : decode cL_law 309 = .ok (.aload_n 2, 1) := q9_dL_law_302.2.2.2.2.2.1
theorem dL_law_310 : decode cL_law 310 = .ok (.aload_n 0, 1) := q9_dL_law_302.2.2.2.2.2.2.1
theorem dL_law_311 : decode cL_law 311 = .ok (.iload_n 3, 1) := q9_dL_law_302.2.2.2.2.2.2.2.1
theorem dL_law_312 : decode cL_law 312 = .ok (.iconst 1, 1) := q9_dL_law_302.2.2.2.2.2.2.2.2.1
theorem dL_law_313 : decode cL_law 313 = .ok (.iadd, 1) := q9_dL_law_302.2.2.2.2.2.2.2.2.2
theorem q9_dL_law_314 : (decode cL_law 314 = .ok (.iaload, 1)) ∧ (decode cL_law 315 = .ok (.invokevirtual 40, 3)) ∧ (decode cL_law 318 = .ok (.pop, 1)) ∧ (decode cL_law 319 = .ok (.goto 442, 3)) ∧ (decode cL_law 322 = .ok (.aload_n 1, 1)) ∧ (decode cL_law 323 = .ok (.aload_n 0, 1)) ∧ (decode cL_law 324 = .ok (.iload_n 3, 1)) ∧ (decode cL_law 325 = .ok (.iconst 1, 1)) ∧ (decode cL_law 326 = .ok (.iadd, 1)) ∧ (decode cL_law 327 = .ok (.iaload, 1)) := by decide +kernel
theorem dL_law_314 : decode cL_law 314 = .ok (.iaload, 1) := q9_dL_law_314.1
theorem dL_law_315 : decode cL_law 315 = .ok (.invokevirtual 40, 3) := q9_dL_law_314.2.1
theorem dL_law_318 : decode cL_law 318 = .ok (.pop, 1) := q9_dL_law_314.2.2.1
theorem dL_law_319 : decode cL_law 319 = .ok (.goto 442, 3) := q9_dL_law_314.2.2.2.1
theorem dL_law_322 : decode cL_law 322 = .ok (.aload_n 1, 1) := q9_dL_law_314.2.2.2.2.1
theorem dL_law_323 : decode cL_law 323 = .ok (.aload_n 0, 1) := q9_dL_law_314.2.2.2.2.2.1
theorem dL_law_324 : decode cL_law 324 = .ok (.iload_n 3, 1) := q9_dL_law_314.2.2.2.2.2.2.1
theorem dL_law_325 : decode cL_law 325 = .ok (.iconst 1, 1) := q9_dL_law_314.2.2.2.2.2.2.2.1
theorem dL_law_326 : decode cL_law 326 = .ok (.iadd, 1) := q9_dL_law_314.2.2.2.2.2.2.2.2.1
theorem dL_law_327 : decode cL_law 327 = .ok (.iaload, 1) := q9_dL_law_314.2.2.2.2.2.2.2.2.2
theorem q9_dL_law_328 : (decode cL_law 328 = .ok (.aload_n 0, 1)) ∧ (decode cL_law 329 = .ok (.iload_n 3, 1)) ∧ (decode cL_law 330 = .ok (.iconst 2, 1)) ∧ (decode cL_law 331 = .ok (.iadd, 1)) ∧ (decode cL_law 332 = .ok (.iaload, 1)) ∧ (decode cL_law 333 = .ok (.aload_n 0, 1)) ∧ (decode cL_law 334 = .ok (.iload_n 3, 1)) ∧ (decode cL_law 335 = .ok (.iconst 3, 1)) ∧ (decode cL_law 336 = .ok (.iadd, 1)) ∧ (decode cL_law 337 = .ok (.iaload, 1)) := by decide +kernel
theorem dL_law_328 : decode cL_law 328 = .ok (.aload_n 0, 1) := q9_dL_law_328.1
theorem dL_law_329 : decode cL_law 329 = .ok (.iload_n 3, 1) := q9_dL_law_328.2.1
theorem dL_law_330 : decode cL_law 330 = .ok (.iconst 2, 1) := q9_dL_law_328.2.2.1
theorem dL_law_331 : decode cL_law 331 = .ok (.iadd, 1) := q9_dL_law_328.2.2.2.1
theorem dL_law_332 : decode cL_law 332 = .ok (.iaload, 1) := q9_dL_law_328.2.2.2.2.1
theorem dL_law_333 : decode cL_law 333 = .ok (.aload_n 0, 1) := q9_dL_law_328.2.2.2.2.2.1
theorem dL_law_334 : decode cL_law 334 = .ok (.iload_n 3, 1) := q9_dL_law_328.2.2.2.2.2.2.1
theorem dL_law_335 : decode cL_law 335 = .ok (.iconst 3, 1) := q9_dL_law_328.2.2.2.2.2.2.2.1
theorem dL_law_336 : decode cL_law 336 = .ok (.iadd, 1) := q9_dL_law_328.2.2.2.2.2.2.2.2.1
theorem dL_law_337 : decode cL_law 337 = .ok (.iaload, 1) := q9_dL_law_328.2.2.2.2.2.2.2.2.2
theorem q9_dL_law_338 : (decode cL_law 338 = .ok (.aload_n 0, 1)) ∧ (decode cL_law 339 = .ok (.iload_n 3, 1)) ∧ (decode cL_law 340 = .ok (.iconst 4, 1)) ∧ (decode cL_law 341 = .ok (.iadd, 1)) ∧ (decode cL_law 342 = .ok (.iaload, 1)) ∧ (decode cL_law 343 = .ok (.invokevirtual 41, 3)) ∧ (decode cL_law 346 = .ok (.pop, 1)) ∧ (decode cL_law 347 = .ok (.aload_n 2, 1)) ∧ (decode cL_law 348 = .ok (.aload_n 0, 1)) ∧ (decode cL_law 349 = .ok (.iload_n 3, 1)) := by decide +kernel
theorem dL_law_338 : decode cL_law 338 = .ok (.aload_n 0, 1) := q9_dL_law_338.1
theorem dL_law_339 : decode cL_law 339 = .ok (.iload_n 3, 1) := q9_dL_law_338.2.1
theorem dL_law_340 : decode cL_law 340 = .ok (.iconst 4, 1) := q9_dL_law_338.2.2.1
theorem dL_law_341 : decode cL_law 341 = .ok (.iadd, 1) := q9_dL_law_338.2.2.2.1
theorem dL_law_342 : decode cL_law 342 = .ok (.iaload, 1) := q9_dL_law_338.2.2.2.2.1
theorem dL_law_343 : decode cL_law 343 = .ok (.invokevirtual 41, 3) := q9_dL_law_338.2.2.2.2.2.1
theorem dL_law_346 : decode cL_law 346 = .ok (.pop, 1) := q9_dL_law_338.2.2.2.2.2.2.1
theorem dL_law_347 : decode cL_law 347 = .ok (.aload_n 2, 1) := q9_dL_law_338.2.2.2.2.2.2.2.1
theorem dL_law_348 : decode cL_law 348 = .ok (.aload_n 0, 1) := q9_dL_law_338.2.2.2.2.2.2.2.2.1
theorem dL_law_349 : decode cL_law 349 = .ok (.iload_n 3, 1) := q9_dL_law_338.2.2.2.2.2.2.2.2.2
theorem q9_dL_law_350 : (decode cL_law 350 = .ok (.iconst 1, 1)) ∧ (decode cL_law 351 = .ok (.iadd, 1)) ∧ (decode cL_law 352 = .ok (.iaload, 1)) ∧ (decode cL_law 353 = .ok (.aload_n 0, 1)) ∧ (decode cL_law 354 = .ok (.iload_n 3, 1)) ∧ (decode cL_law 355 = .ok (.iconst 2, 1)) ∧ (decode cL_law 356 = .ok (.iadd, 1)) ∧ (decode cL_law 357 = .ok (.iaload, 1)) ∧ (decode cL_law 358 = .ok (.aload_n 0, 1)) ∧ (decode cL_law 359 = .ok (.iload_n 3, 1)) := by decide +kernel
theorem dL_law_350 : decode cL_law 350 = .ok (.iconst 1, 1) := q9_dL_law_350.1
theorem dL_law_351 : decode cL_law 351 = .ok (.iadd, 1) := q9_dL_law_350.2.1
theorem dL_law_352 : decode cL_law 352 = .ok (.iaload, 1) := q9_dL_law_350.2.2.1
theorem dL_law_353 : decode cL_law 353 = .ok (.aload_n 0, 1) := q9_dL_law_350.2.2.2.1
theorem dL_law_354 : decode cL_law 354 = .ok (.iload_n 3, 1) := q9_dL_law_350.2.2.2.2.1
theorem dL_law_355 : decode cL_law 355 = .ok (.iconst 2, 1) := q9_dL_law_350.2.2.2.2.2.1
theorem dL_law_356 : decode cL_law 356 = .ok (.iadd, 1) := q9_dL_law_350.2.2.2.2.2.2.1
theorem dL_law_357 : decode cL_law 357 = .ok (.iaload, 1) := q9_dL_law_350.2.2.2.2.2.2.2.1
theorem dL_law_358 : decode cL_law 358 = .ok (.aload_n 0, 1) := q9_dL_law_350.2.2.2.2.2.2.2.2.1
theorem dL_law_359 : decode cL_law 359 = .ok (.iload_n 3, 1) := q9_dL_law_350.2.2.2.2.2.2.2.2.2
theorem q9_dL_law_360 : (decode cL_law 360 = .ok (.iconst 3, 1)) ∧ (decode cL_law 361 = .ok (.iadd, 1)) ∧ (decode cL_law 362 = .ok (.iaload, 1)) ∧ (decode cL_law 363 = .ok (.aload_n 0, 1)) ∧ (decode cL_law 364 = .ok (.iload_n 3, 1)) ∧ (decode cL_law 365 = .ok (.iconst 4, 1)) ∧ (decode cL_law 366 = .ok (.iadd, 1)) ∧ (decode cL_law 367 = .ok (.iaload, 1)) ∧ (decode cL_law 368 = .ok (.invokevirtual 45, 3)) ∧ (decode cL_law 371 = .ok (.pop, 1)) := by decide +kernel
theorem dL_law_360 : decode cL_law 360 = .ok (.iconst 3, 1) := q9_dL_law_360.1
theorem dL_law_361 : decode cL_law 361 = .ok (.iadd, 1) := q9_dL_law_360.2.1
theorem dL_law_362 : decode cL_law 362 = .ok (.iaload, 1) := q9_dL_law_360.2.2.1
theorem dL_law_363 : decode cL_law 363 = .ok (.aload_n 0, 1) := q9_dL_law_360.2.2.2.1
theorem dL_law_364 : decode cL_law 364 = .ok (.iload_n 3, 1) := q9_dL_law_360.2.2.2.2.1
theorem dL_law_365 : decode cL_law 365 = .ok (.iconst 4, 1) := q9_dL_law_360.2.2.2.2.2.1
theorem dL_law_366 : decode cL_law 366 = .ok (.iadd, 1) := q9_dL_law_360.2.2.2.2.2.2.1
theorem dL_law_367 : decode cL_law 367 = .ok (.iaload, 1) := q9_dL_law_360.2.2.2.2.2.2.2.1
theorem dL_law_368 : decode cL_law 368 = .ok (.invokevirtual 45, 3) := q9_dL_law_360.2.2.2.2.2.2.2.2.1
theorem dL_law_371 : decode cL_law 371 = .ok (.pop, 1) := q9_dL_law_360.2.2.2.2.2.2.2.2.2
theorem q9_dL_law_372 : (decode cL_law 372 = .ok (.goto 389, 3)) ∧ (decode cL_law 375 = .ok (.aload_n 1, 1)) ∧ (decode cL_law 376 = .ok (.aload_n 0, 1)) ∧ (decode cL_law 377 = .ok (.iload_n 3, 1)) ∧ (decode cL_law 378 = .ok (.iconst 1, 1)) ∧ (decode cL_law 379 = .ok (.iadd, 1)) ∧ (decode cL_law 380 = .ok (.iaload, 1)) ∧ (decode cL_law 381 = .ok (.invokevirtual 46, 3)) ∧ (decode cL_law 384 = .ok (.pop, 1)) ∧ (decode cL_law 385 = .ok (.aload_n 2, 1)) := by decide +kernel
theorem dL_law_372 : decode cL_law 372 = .ok (.goto 389, 3) := q9_dL_law_372.1
theorem dL_law_375 : decode cL_law 375 = .ok (.aload_n 1, 1) := q9_dL_law_372.2.1
theorem dL_law_376 : decode cL_law 376 = .ok (.aload_n 0, 1) := q9_dL_law_372.2.2.1
theorem dL_law_377 : decode cL_law 377 = .ok (.iload_n 3, 1) := q9_dL_law_372.2.2.2.1
theorem dL_law_378 : decode cL_law 378 = .ok (.iconst 1, 1) := q9_dL_law_372.2.2.2.2.1
theorem dL_law_379 : decode cL_law 379 = .ok (.iadd, 1) := q9_dL_law_372.2.2.2.2.2.1
theorem dL_law_380 : decode cL_law 380 = .ok (.iaload, 1) := q9_dL_law_372.2.2.2.2.2.2.1
theorem dL_law_381 : decode cL_law 381 = .ok (.invokevirtual 46, 3) := q9_dL_law_372.2.2.2.2.2.2.2.1
theorem dL_law_384 : decode cL_law 384 = .ok (.pop, 1) := q9_dL_law_372.2.2.2.2.2.2.2.2.1
theorem dL_law_385 : decode cL_law 385 = .ok (.aload_n 2, 1) := q9_dL_law_372.2.2.2.2.2.2.2.2.2
theorem q9_dL_law_386 : (decode cL_law 386 = .ok (.aload_n 0, 1)) ∧ (decode cL_law 387 = .ok (.iload_n 3, 1)) ∧ (decode cL_law 388 = .ok (.iconst 1, 1)) ∧ (decode cL_law 389 = .ok (.iadd, 1)) ∧ (decode cL_law 390 = .ok (.iaload, 1)) ∧ (decode cL_law 391 = .ok (.invokevirtual 49, 3)) ∧ (decode cL_law 394 = .ok (.pop, 1)) ∧ (decode cL_law 395 = .ok (.goto 366, 3)) ∧ (decode cL_law 398 = .ok (.aload_n 1, 1)) ∧ (decode cL_law 399 = .ok (.aload_n 0, 1)) := by decide +kernel
theorem dL_law_386 : decode cL_law 386 = .ok (.aload_n 0, 1) := q9_dL_law_386.1
theorem dL_law_387 : decode cL_law 387 = .ok (.iload_n 3, 1) := q9_dL_law_386.2.1
theorem dL_law_388 : decode cL_law 388 = .ok (.iconst 1, 1) := q9_dL_law_386.2.2.1
theorem dL_law_389 : decode cL_law 389 = .ok (.iadd, 1) := q9_dL_law_386.2.2.2.1
theorem dL_law_390 : decode cL_law 390 = .ok (.iaload, 1) := q9_dL_law_386.2.2.2.2.1
theorem dL_law_391 : decode cL_law 391 = .ok (.invokevirtual 49, 3) := q9_dL_law_386.2.2.2.2.2.1
theorem dL_law_394 : decode cL_law 394 = .ok (.pop, 1) := q9_dL_law_386.2.2.2.2.2.2.1
theorem dL_law_395 : decode cL_law 395 = .ok (.goto 366, 3) := q9_dL_law_386.2.2.2.2.2.2.2.1
theorem dL_law_398 : decode cL_law 398 = .ok (.aload_n 1, 1) := q9_dL_law_386.2.2.2.2.2.2.2.2.1
theorem dL_law_399 : decode cL_law 399 = .ok (.aload_n 0, 1) := q9_dL_law_386.2.2.2.2.2.2.2.2.2
theorem q9_dL_law_400 : (decode cL_law 400 = .ok (.iload_n 3, 1)) ∧ (decode cL_law 401 = .ok (.iconst 1, 1)) ∧ (decode cL_law 402 = .ok (.iadd, 1)) ∧ (decode cL_law 403 = .ok (.iaload, 1)) ∧ (decode cL_law 404 = .ok (.aload_n 0, 1)) ∧ (decode cL_law 405 = .ok (.iload_n 3, 1)) ∧ (decode cL_law 406 = .ok (.iconst 2, 1)) ∧ (decode cL_law 407 = .ok (.iadd, 1)) ∧ (decode cL_law 408 = .ok (.iaload, 1)) ∧ (decode cL_law 409 = .ok (.aload_n 0, 1)) := by decide +kernel
theorem dL_law_400 : decode cL_law 400 = .ok (.iload_n 3, 1) := q9_dL_law_400.1
theorem dL_law_401 : decode cL_law 401 = .ok (.iconst 1, 1) := q9_dL_law_400.2.1
theorem dL_law_402 : decode cL_law 402 = .ok (.iadd, 1) := q9_dL_law_400.2.2.1
theorem dL_law_403 : decode cL_law 403 = .ok (.iaload, 1) := q9_dL_law_400.2.2.2.1
theorem dL_law_404 : decode cL_law 404 = .ok (.aload_n 0, 1) := q9_dL_law_400.2.2.2.2.1
theorem dL_law_405 : decode cL_law 405 = .ok (.iload_n 3, 1) := q9_dL_law_400.2.2.2.2.2.1
theorem dL_law_406 : decode cL_law 406 = .ok (.iconst 2, 1) := q9_dL_law_400.2.2.2.2.2.2.1
theorem dL_law_407 : decode cL_law 407 = .ok (.iadd, 1) := q9_dL_law_400.2.2.2.2.2.2.2.1
theorem dL_law_408 : decode cL_law 408 = .ok (.iaload, 1) := q9_dL_law_400.2.2.2.2.2.2.2.2.1
theorem dL_law_409 : decode cL_law 409 = .ok (.aload_n 0, 1) := q9_dL_law_400.2.2.2.2.2.2.2.2.2
theorem q9_dL_law_410 : (decode cL_law 410 = .ok (.iload_n 3, 1)) ∧ (decode cL_law 411 = .ok (.iconst 3, 1)) ∧ (decode cL_law 412 = .ok (.iadd, 1)) ∧ (decode cL_law 413 = .ok (.iaload, 1)) ∧ (decode cL_law 414 = .ok (.invokevirtual 50, 3)) ∧ (decode cL_law 417 = .ok (.pop, 1)) ∧ (decode cL_law 418 = .ok (.aload_n 2, 1)) ∧ (decode cL_law 419 = .ok (.aload_n 0, 1)) ∧ (decode cL_law 420 = .ok (.iload_n 3, 1)) ∧ (decode cL_law 421 = .ok (.iconst 1, 1)) := by decide +kernel
theorem dL_law_410 : decode cL_law 410 = .ok (.iload_n 3, 1) := q9_dL_law_410.1
theorem dL_law_411 : decode cL_law 411 = .ok (.iconst 3, 1) := q9_dL_law_410.2.1
theorem dL_law_412 : decode cL_law 412 = .ok (.iadd, 1) := q9_dL_law_410.2.2.1
theorem dL_law_413 : decode cL_law 413 = .ok (.iaload, 1) := q9_dL_law_410.2.2.2.1
theorem dL_law_414 : decode cL_law 414 = .ok (.invokevirtual 50, 3) := q9_dL_law_410.2.2.2.2.1
theorem dL_law_417 : decode cL_law 417 = .ok (.pop, 1) := q9_dL_law_410.2.2.2.2.2.1
theorem dL_law_418 : decode cL_law 418 = .ok (.aload_n 2, 1) := q9_dL_law_410.2.2.2.2.2.2.1
theorem dL_law_419 : decode cL_law 419 = .ok (.aload_n 0, 1) := q9_dL_law_410.2.2.2.2.2.2.2.1
theorem dL_law_420 : decode cL_law 420 = .ok (.iload_n 3, 1) := q9_dL_law_410.2.2.2.2.2.2.2.2.1
theorem dL_law_421 : decode cL_law 421 = .ok (.iconst 1, 1) := q9_dL_law_410.2.2.2.2.2.2.2.2.2
theorem q9_dL_law_422 : (decode cL_law 422 = .ok (.iadd, 1)) ∧ (decode cL_law 423 = .ok (.iaload, 1)) ∧ (decode cL_law 424 = .ok (.aload_n 0, 1)) ∧ (decode cL_law 425 = .ok (.iload_n 3, 1)) ∧ (decode cL_law 426 = .ok (.iconst 2, 1)) ∧ (decode cL_law 427 = .ok (.iadd, 1)) ∧ (decode cL_law 428 = .ok (.iaload, 1)) ∧ (decode cL_law 429 = .ok (.aload_n 0, 1)) ∧ (decode cL_law 430 = .ok (.iload_n 3, 1)) ∧ (decode cL_law 431 = .ok (.iconst 3, 1)) := by decide +kernel
theorem dL_law_422 : decode cL_law 422 = .ok (.iadd, 1) := q9_dL_law_422.1
theorem dL_law_423 : decode cL_law 423 = .ok (.iaload, 1) := q9_dL_law_422.2.1
theorem dL_law_424 : decode cL_law 424 = .ok (.aload_n 0, 1) := q9_dL_law_422.2.2.1
theorem dL_law_425 : decode cL_law 425 = .ok (.iload_n 3, 1) := q9_dL_law_422.2.2.2.1
theorem dL_law_426 : decode cL_law 426 = .ok (.iconst 2, 1) := q9_dL_law_422.2.2.2.2.1
theorem dL_law_427 : decode cL_law 427 = .ok (.iadd, 1) := q9_dL_law_422.2.2.2.2.2.1
theorem dL_law_428 : decode cL_law 428 = .ok (.iaload, 1) := q9_dL_law_422.2.2.2.2.2.2.1
theorem dL_law_429 : decode cL_law 429 = .ok (.aload_n 0, 1) := q9_dL_law_422.2.2.2.2.2.2.2.1
theorem dL_law_430 : decode cL_law 430 = .ok (.iload_n 3, 1) := q9_dL_law_422.2.2.2.2.2.2.2.2.1
theorem dL_law_431 : decode cL_law 431 = .ok (.iconst 3, 1) := q9_dL_law_422.2.2.2.2.2.2.2.2.2
theorem q9_dL_law_432 : (decode cL_law 432 = .ok (.iadd, 1)) ∧ (decode cL_law 433 = .ok (.iaload, 1)) ∧ (decode cL_law 434 = .ok (.invokevirtual 54, 3)) ∧ (decode cL_law 437 = .ok (.pop, 1)) ∧ (decode cL_law 438 = .ok (.goto 323, 3)) ∧ (decode cL_law 441 = .ok (.aload_n 1, 1)) ∧ (decode cL_law 442 = .ok (.aload_n 0, 1)) ∧ (decode cL_law 443 = .ok (.iload_n 3, 1)) ∧ (decode cL_law 444 = .ok (.iconst 1, 1)) ∧ (decode cL_law 445 = .ok (.iadd, 1)) := by decide +kernel
theorem dL_law_432 : decode cL_law 432 = .ok (.iadd, 1) := q9_dL_law_432.1
theorem dL_law_433 : decode cL_law 433 = .ok (.iaload, 1) := q9_dL_law_432.2.1
theorem dL_law_434 : decode cL_law 434 = .ok (.invokevirtual 54, 3) := q9_dL_law_432.2.2.1
theorem dL_law_437 : decode cL_law 437 = .ok (.pop, 1) := q9_dL_law_432.2.2.2.1
theorem dL_law_438 : decode cL_law 438 = .ok (.goto 323, 3) := q9_dL_law_432.2.2.2.2.1
theorem dL_law_441 : decode cL_law 441 = .ok (.aload_n 1, 1) := q9_dL_law_432.2.2.2.2.2.1
theorem dL_law_442 : decode cL_law 442 = .ok (.aload_n 0, 1) := q9_dL_law_432.2.2.2.2.2.2.1
theorem dL_law_443 : decode cL_law 443 = .ok (.iload_n 3, 1) := q9_dL_law_432.2.2.2.2.2.2.2.1
theorem dL_law_444 : decode cL_law 444 = .ok (.iconst 1, 1) := q9_dL_law_432.2.2.2.2.2.2.2.2.1
theorem dL_law_445 : decode cL_law 445 = .ok (.iadd, 1) := q9_dL_law_432.2.2.2.2.2.2.2.2.2
theorem q9_dL_law_446 : (decode cL_law 446 = .ok (.iaload, 1)) ∧ (decode cL_law 447 = .ok (.aload_n 0, 1)) ∧ (decode cL_law 448 = .ok (.iload_n 3, 1)) ∧ (decode cL_law 449 = .ok (.iconst 2, 1)) ∧ (decode cL_law 450 = .ok (.iadd, 1)) ∧ (decode cL_law 451 = .ok (.iaload, 1)) ∧ (decode cL_law 452 = .ok (.aload_n 0, 1)) ∧ (decode cL_law 453 = .ok (.iload_n 3, 1)) ∧ (decode cL_law 454 = .ok (.iconst 3, 1)) ∧ (decode cL_law 455 = .ok (.iadd, 1)) := by decide +kernel
theorem dL_law_446 : decode cL_law 446 = .ok (.iaload, 1) := q9_dL_law_446.1
theorem dL_law_447 : decode cL_law 447 = .ok (.aload_n 0, 1) := q9_dL_law_446.2.1
theorem dL_law_448 : decode cL_law 448 = .ok (.iload_n 3, 1) := q9_dL_law_446.2.2.1
theorem dL_law_449 : decode cL_law 449 = .ok (.iconst 2, 1) := q9_dL_law_446.2.2.2.1
theorem dL_law_450 : decode cL_law 450 = .ok (.iadd, 1) := q9_dL_law_446.2.2.2.2.1
theorem dL_law_451 : decode cL_law 451 = .ok (.iaload, 1) := q9_dL_law_446.2.2.2.2.2.1
theorem dL_law_452 : decode cL_law 452 = .ok (.aload_n 0, 1) := q9_dL_law_446.2.2.2.2.2.2.1
theorem dL_law_453 : decode cL_law 453 = .ok (.iload_n 3, 1) := q9_dL_law_446.2.2.2.2.2.2.2.1
theorem dL_law_454 : decode cL_law 454 = .ok (.iconst 3, 1) := q9_dL_law_446.2.2.2.2.2.2.2.2.1
theorem dL_law_455 : decode cL_law 455 = .ok (.iadd, 1) := q9_dL_law_446.2.2.2.2.2.2.2.2.2
theorem q9_dL_law_456 : (decode cL_law 456 = .ok (.iaload, 1)) ∧ (decode cL_law 457 = .ok (.invokevirtual 55, 3)) ∧ (decode cL_law 460 = .ok (.pop, 1)) ∧ (decode cL_law 461 = .ok (.aload_n 2, 1)) ∧ (decode cL_law 462 = .ok (.aload_n 0, 1)) ∧ (decode cL_law 463 = .ok (.iload_n 3, 1)) ∧ (decode cL_law 464 = .ok (.iconst 1, 1)) ∧ (decode cL_law 465 = .ok (.iadd, 1)) ∧ (decode cL_law 466 = .ok (.iaload, 1)) ∧ (decode cL_law 467 = .ok (.aload_n 0, 1)) := by decide +kernel
theorem dL_law_456 : decode cL_law 456 = .ok (.iaload, 1) := q9_dL_law_456.1
theorem dL_law_457 : decode cL_law 457 = .ok (.invokevirtual 55, 3) := q9_dL_law_456.2.1
theorem dL_law_460 : decode cL_law 460 = .ok (.pop, 1) := q9_dL_law_456.2.2.1
theorem dL_law_461 : decode cL_law 461 = .ok (.aload_n 2, 1) := q9_dL_law_456.2.2.2.1
theorem dL_law_462 : decode cL_law 462 = .ok (.aload_n 0, 1) := q9_dL_law_456.2.2.2.2.1
theorem dL_law_463 : decode cL_law 463 = .ok (.iload_n 3, 1) := q9_dL_law_456.2.2.2.2.2.1
theorem dL_law_464 : decode cL_law 464 = .ok (.iconst 1, 1) := q9_dL_law_456.2.2.2.2.2.2.1
theorem dL_law_465 : decode cL_law 465 = .ok (.iadd, 1) := q9_dL_law_456.2.2.2.2.2.2.2.1
theorem dL_law_466 : decode cL_law 466 = .ok (.iaload, 1) := q9_dL_law_456.2.2.2.2.2.2.2.2.1
theorem dL_law_467 : decode cL_law 467 = .ok (.aload_n 0, 1) := q9_dL_law_456.2.2.2.2.2.2.2.2.2
theorem q9_dL_law_468 : (decode cL_law 468 = .ok (.iload_n 3, 1)) ∧ (decode cL_law 469 = .ok (.iconst 2, 1)) ∧ (decode cL_law 470 = .ok (.iadd, 1)) ∧ (decode cL_law 471 = .ok (.iaload, 1)) ∧ (decode cL_law 472 = .ok (.aload_n 0, 1)) ∧ (decode cL_law 473 = .ok (.iload_n 3, 1)) ∧ (decode cL_law 474 = .ok (.iconst 3, 1)) ∧ (decode cL_law 475 = .ok (.iadd, 1)) ∧ (decode cL_law 476 = .ok (.iaload, 1)) ∧ (decode cL_law 477 = .ok (.invokevirtual 59, 3)) := by decide +kernel
theorem dL_law_468 : decode cL_law 468 = .ok (.iload_n 3, 1) := q9_dL_law_468.1
theorem dL_law_469 : decode cL_law 469 = .ok (.iconst 2, 1) := q9_dL_law_468.2.1
theorem dL_law_470 : decode cL_law 470 = .ok (.iadd, 1) := q9_dL_law_468.2.2.1
theorem dL_law_471 : decode cL_law 471 = .ok (.iaload, 1) := q9_dL_law_468.2.2.2.1
theorem dL_law_472 : decode cL_law 472 = .ok (.aload_n 0, 1) := q9_dL_law_468.2.2.2.2.1
theorem dL_law_473 : decode cL_law 473 = .ok (.iload_n 3, 1) := q9_dL_law_468.2.2.2.2.2.1
theorem dL_law_474 : decode cL_law 474 = .ok (.iconst 3, 1) := q9_dL_law_468.2.2.2.2.2.2.1
theorem dL_law_475 : decode cL_law 475 = .ok (.iadd, 1) := q9_dL_law_468.2.2.2.2.2.2.2.1
theorem dL_law_476 : decode cL_law 476 = .ok (.iaload, 1) := q9_dL_law_468.2.2.2.2.2.2.2.2.1
theorem dL_law_477 : decode cL_law 477 = .ok (.invokevirtual 59, 3) := q9_dL_law_468.2.2.2.2.2.2.2.2.2
theorem q9_dL_law_480 : (decode cL_law 480 = .ok (.pop, 1)) ∧ (decode cL_law 481 = .ok (.goto 280, 3)) ∧ (decode cL_law 484 = .ok (.aload_n 1, 1)) ∧ (decode cL_law 485 = .ok (.aload_n 0, 1)) ∧ (decode cL_law 486 = .ok (.iload_n 3, 1)) ∧ (decode cL_law 487 = .ok (.iconst 1, 1)) ∧ (decode cL_law 488 = .ok (.iadd, 1)) ∧ (decode cL_law 489 = .ok (.iaload, 1)) ∧ (decode cL_law 490 = .ok (.aload_n 0, 1)) ∧ (decode cL_law 491 = .ok (.iload_n 3, 1)) := by decide +kernel
theorem dL_law_480 : decode cL_law 480 = .ok (.pop, 1) := q9_dL_law_480.1
theorem dL_law_481 : decode cL_law 481 = .ok (.goto 280, 3) := q9_dL_law_480.2.1
theorem dL_law_484 : decode cL_law 484 = .ok (.aload_n 1, 1) := q9_dL_law_480.2.2.1
theorem dL_law_485 : decode cL_law 485 = .ok (.aload_n 0, 1) := q9_dL_law_480.2.2.2.1
theorem dL_law_486 : decode cL_law 486 = .ok (.iload_n 3, 1) := q9_dL_law_480.2.2.2.2.1
theorem dL_law_487 : decode cL_law 487 = .ok (.iconst 1, 1) := q9_dL_law_480.2.2.2.2.2.1
theorem dL_law_488 : decode cL_law 488 = .ok (.iadd, 1) := q9_dL_law_480.2.2.2.2.2.2.1
theorem dL_law_489 : decode cL_law 489 = .ok (.iaload, 1) := q9_dL_law_480.2.2.2.2.2.2.2.1
theorem dL_law_490 : decode cL_law 490 = .ok (.aload_n 0, 1) := q9_dL_law_480.2.2.2.2.2.2.2.2.1
theorem dL_law_491 : decode cL_law 491 = .ok (.iload_n 3, 1) := q9_dL_law_480.2.2.2.2.2.2.2.2.2
theorem q9_dL_law_492 : (decode cL_law 492 = .ok (.iconst 2, 1)) ∧ (decode cL_law 493 = .ok (.iadd, 1)) ∧ (decode cL_law 494 = .ok (.iaload, 1)) ∧ (decode cL_law 495 = .ok (.invokevirtual 60, 3)) ∧ (decode cL_law 498 = .ok (.aload_n 2, 1)) ∧ (decode cL_law 499 = .ok (.aload_n 0, 1)) ∧ (decode cL_law 500 = .ok (.iload_n 3, 1)) ∧ (decode cL_law 501 = .ok (.iconst 1, 1)) ∧ (decode cL_law 502 = .ok (.iadd, 1)) ∧ (decode cL_law 503 = .ok (.iaload, 1)) := by decide +kernel
theorem dL_law_492 : decode cL_law 492 = .ok (.iconst 2, 1) := q9_dL_law_492.1
theorem dL_law_493 : decode cL_law 493 = .ok (.iadd, 1) := q9_dL_law_492.2.1
theorem dL_law_494 : decode cL_law 494 = .ok (.iaload, 1) := q9_dL_law_492.2.2.1
theorem dL_law_495 : decode cL_law 495 = .ok (.invokevirtual 60, 3) := q9_dL_law_492.2.2.2.1
theorem dL_law_498 : decode cL_law 498 = .ok (.aload_n 2, 1) := q9_dL_law_492.2.2.2.2.1
theorem dL_law_499 : decode cL_law 499 = .ok (.aload_n 0, 1) := q9_dL_law_492.2.2.2.2.2.1
theorem dL_law_500 : decode cL_law 500 = .ok (.iload_n 3, 1) := q9_dL_law_492.2.2.2.2.2.2.1
theorem dL_law_501 : decode cL_law 501 = .ok (.iconst 1, 1) := q9_dL_law_492.2.2.2.2.2.2.2.1
theorem dL_law_502 : decode cL_law 502 = .ok (.iadd, 1) := q9_dL_law_492.2.2.2.2.2.2.2.2.1
theorem dL_law_503 : decode cL_law 503 = .ok (.iaload, 1) := q9_dL_law_492.2.2.2.2.2.2.2.2.2
theorem q9_dL_law_504 : (decode cL_law 504 = .ok (.aload_n 0, 1)) ∧ (decode cL_law 505 = .ok (.iload_n 3, 1)) ∧ (decode cL_law 506 = .ok (.iconst 2, 1)) ∧ (decode cL_law 507 = .ok (.iadd, 1)) ∧ (decode cL_law 508 = .ok (.iaload, 1)) ∧ (decode cL_law 509 = .ok (.invokevirtual 63, 3)) ∧ (decode cL_law 512 = .ok (.if_icmp .eq 249, 3)) ∧ (decode cL_law 515 = .ok (.iconst 0, 1)) ∧ (decode cL_law 516 = .ok (.ireturn, 1)) ∧ (decode cL_law 517 = .ok (.aload_n 1, 1)) := by decide +kernel
theorem dL_law_504 : decode cL_law 504 = .ok (.aload_n 0, 1) := q9_dL_law_504.1
theorem dL_law_505 : decode cL_law 505 = .ok (.iload_n 3, 1) := q9_dL_law_504.2.1
theorem dL_law_506 : decode cL_law 506 = .ok (.iconst 2, 1) := q9_dL_law_504.2.2.1
theorem dL_law_507 : decode cL_law 507 = .ok (.iadd, 1) := q9_dL_law_504.2.2.2.1
theorem dL_law_508 : decode cL_law 508 = .ok (.iaload, 1) := q9_dL_law_504.2.2.2.2.1
theorem dL_law_509 : decode cL_law 509 = .ok (.invokevirtual 63, 3) := q9_dL_law_504.2.2.2.2.2.1
theorem dL_law_512 : decode cL_law 512 = .ok (.if_icmp .eq 249, 3) := q9_dL_law_504.2.2.2.2.2.2.1
theorem dL_law_515 : decode cL_law 515 = .ok (.iconst 0, 1) := q9_dL_law_504.2.2.2.2.2.2.2.1
theorem dL_law_516 : decode cL_law 516 = .ok (.ireturn, 1) := q9_dL_law_504.2.2.2.2.2.2.2.2.1
theorem dL_law_517 : decode cL_law 517 = .ok (.aload_n 1, 1) := q9_dL_law_504.2.2.2.2.2.2.2.2.2
theorem q9_dL_law_518 : (decode cL_law 518 = .ok (.aload_n 0, 1)) ∧ (decode cL_law 519 = .ok (.iload_n 3, 1)) ∧ (decode cL_law 520 = .ok (.iconst 1, 1)) ∧ (decode cL_law 521 = .ok (.iadd, 1)) ∧ (decode cL_law 522 = .ok (.iaload, 1)) ∧ (decode cL_law 523 = .ok (.aload_n 0, 1)) ∧ (decode cL_law 524 = .ok (.iload_n 3, 1)) ∧ (decode cL_law 525 = .ok (.iconst 2, 1)) ∧ (decode cL_law 526 = .ok (.iadd, 1)) ∧ (decode cL_law 527 = .ok (.iaload, 1)) := by decide +kernel
theorem dL_law_518 : decode cL_law 518 = .ok (.aload_n 0, 1) := q9_dL_law_518.1
theorem dL_law_519 : decode cL_law 519 = .ok (.iload_n 3, 1) := q9_dL_law_518.2.1
theorem dL_law_520 : decode cL_law 520 = .ok (.iconst 1, 1) := q9_dL_law_518.2.2.1
theorem dL_law_521 : decode cL_law 521 = .ok (.iadd, 1) := q9_dL_law_518.2.2.2.1
theorem dL_law_522 : decode cL_law 522 = .ok (.iaload, 1) := q9_dL_law_518.2.2.2.2.1
theorem dL_law_523 : decode cL_law 523 = .ok (.aload_n 0, 1) := q9_dL_law_518.2.2.2.2.2.1
theorem dL_law_524 : decode cL_law 524 = .ok (.iload_n 3, 1) := q9_dL_law_518.2.2.2.2.2.2.1
theorem dL_law_525 : decode cL_law 525 = .ok (.iconst 2, 1) := q9_dL_law_518.2.2.2.2.2.2.2.1
theorem dL_law_526 : decode cL_law 526 = .ok (.iadd, 1) := q9_dL_law_518.2.2.2.2.2.2.2.2.1
theorem dL_law_527 : decode cL_law 527 = .ok (.iaload, 1) := q9_dL_law_518.2.2.2.2.2.2.2.2.2
theorem q9_dL_law_528 : (decode cL_law 528 = .ok (.invokevirtual 64, 3)) ∧ (decode cL_law 531 = .ok (.pop, 1)) ∧ (decode cL_law 532 = .ok (.aload_n 2, 1)) ∧ (decode cL_law 533 = .ok (.aload_n 0, 1)) ∧ (decode cL_law 534 = .ok (.iload_n 3, 1)) ∧ (decode cL_law 535 = .ok (.iconst 1, 1)) ∧ (decode cL_law 536 = .ok (.iadd, 1)) ∧ (decode cL_law 537 = .ok (.iaload, 1)) ∧ (decode cL_law 538 = .ok (.aload_n 0, 1)) ∧ (decode cL_law 539 = .ok (.iload_n 3, 1)) := by decide +kernel
theorem dL_law_528 : decode cL_law 528 = .ok (.invokevirtual 64, 3) := q9_dL_law_528.1
theorem dL_law_531 : decode cL_law 531 = .ok (.pop, 1) := q9_dL_law_528.2.1
theorem dL_law_532 : decode cL_law 532 = .ok (.aload_n 2, 1) := q9_dL_law_528.2.2.1
theorem dL_law_533 : decode cL_law 533 = .ok (.aload_n 0, 1) := q9_dL_law_528.2.2.2.1
theorem dL_law_534 : decode cL_law 534 = .ok (.iload_n 3, 1) := q9_dL_law_528.2.2.2.2.1
theorem dL_law_535 : decode cL_law 535 = .ok (.iconst 1, 1) := q9_dL_law_528.2.2.2.2.2.1
theorem dL_law_536 : decode cL_law 536 = .ok (.iadd, 1) := q9_dL_law_528.2.2.2.2.2.2.1
theorem dL_law_537 : decode cL_law 537 = .ok (.iaload, 1) := q9_dL_law_528.2.2.2.2.2.2.2.1
theorem dL_law_538 : decode cL_law 538 = .ok (.aload_n 0, 1) := q9_dL_law_528.2.2.2.2.2.2.2.2.1
theorem dL_law_539 : decode cL_law 539 = .ok (.iload_n 3, 1) := q9_dL_law_528.2.2.2.2.2.2.2.2.2
theorem q9_dL_law_540 : (decode cL_law 540 = .ok (.iconst 2, 1)) ∧ (decode cL_law 541 = .ok (.iadd, 1)) ∧ (decode cL_law 542 = .ok (.iaload, 1)) ∧ (decode cL_law 543 = .ok (.invokevirtual 67, 3)) ∧ (decode cL_law 546 = .ok (.pop, 1)) ∧ (decode cL_law 547 = .ok (.goto 214, 3)) ∧ (decode cL_law 550 = .ok (.aload_n 1, 1)) ∧ (decode cL_law 551 = .ok (.aload_n 0, 1)) ∧ (decode cL_law 552 = .ok (.iload_n 3, 1)) ∧ (decode cL_law 553 = .ok (.iconst 1, 1)) := by decide +kernel
theorem dL_law_540 : decode cL_law 540 = .ok (.iconst 2, 1) := q9_dL_law_540.1
theorem dL_law_541 : decode cL_law 541 = .ok (.iadd, 1) := q9_dL_law_540.2.1
theorem dL_law_542 : decode cL_law 542 = .ok (.iaload, 1) := q9_dL_law_540.2.2.1
theorem dL_law_543 : decode cL_law 543 = .ok (.invokevirtual 67, 3) := q9_dL_law_540.2.2.2.1
theorem dL_law_546 : decode cL_law 546 = .ok (.pop, 1) := q9_dL_law_540.2.2.2.2.1
theorem dL_law_547 : decode cL_law 547 = .ok (.goto 214, 3) := q9_dL_law_540.2.2.2.2.2.1
theorem dL_law_550 : decode cL_law 550 = .ok (.aload_n 1, 1) := q9_dL_law_540.2.2.2.2.2.2.1
theorem dL_law_551 : decode cL_law 551 = .ok (.aload_n 0, 1) := q9_dL_law_540.2.2.2.2.2.2.2.1
theorem dL_law_552 : decode cL_law 552 = .ok (.iload_n 3, 1) := q9_dL_law_540.2.2.2.2.2.2.2.2.1
theorem dL_law_553 : decode cL_law 553 = .ok (.iconst 1, 1) := q9_dL_law_540.2.2.2.2.2.2.2.2.2
theorem q9_dL_law_554 : (decode cL_law 554 = .ok (.iadd, 1)) ∧ (decode cL_law 555 = .ok (.iaload, 1)) ∧ (decode cL_law 556 = .ok (.invokevirtual 68, 3)) ∧ (decode cL_law 559 = .ok (.pop, 1)) ∧ (decode cL_law 560 = .ok (.aload_n 2, 1)) ∧ (decode cL_law 561 = .ok (.aload_n 0, 1)) ∧ (decode cL_law 562 = .ok (.iload_n 3, 1)) ∧ (decode cL_law 563 = .ok (.iconst 1, 1)) ∧ (decode cL_law 564 = .ok (.iadd, 1)) ∧ (decode cL_law 565 = .ok (.iaload, 1)) := by decide +kernel
theorem dL_law_554 : decode cL_law 554 = .ok (.iadd, 1) := q9_dL_law_554.1
theorem dL_law_555 : decode cL_law 555 = .ok (.iaload, 1) := q9_dL_law_554.2.1
theorem dL_law_556 : decode cL_law 556 = .ok (.invokevirtual 68, 3) := q9_dL_law_554.2.2.1
theorem dL_law_559 : decode cL_law 559 = .ok (.pop, 1) := q9_dL_law_554.2.2.2.1
theorem dL_law_560 : decode cL_law 560 = .ok (.aload_n 2, 1) := q9_dL_law_554.2.2.2.2.1
theorem dL_law_561 : decode cL_law 561 = .ok (.aload_n 0, 1) := q9_dL_law_554.2.2.2.2.2.1
theorem dL_law_562 : decode cL_law 562 = .ok (.iload_n 3, 1) := q9_dL_law_554.2.2.2.2.2.2.1
theorem dL_law_563 : decode cL_law 563 = .ok (.iconst 1, 1) := q9_dL_law_554.2.2.2.2.2.2.2.1
theorem dL_law_564 : decode cL_law 564 = .ok (.iadd, 1) := q9_dL_law_554.2.2.2.2.2.2.2.2.1
theorem dL_law_565 : decode cL_law 565 = .ok (.iaload, 1) := q9_dL_law_554.2.2.2.2.2.2.2.2.2
theorem q9_dL_law_566 : (decode cL_law 566 = .ok (.invokevirtual 72, 3)) ∧ (decode cL_law 569 = .ok (.pop, 1)) ∧ (decode cL_law 570 = .ok (.goto 191, 3)) ∧ (decode cL_law 573 = .ok (.aload_n 1, 1)) ∧ (decode cL_law 574 = .ok (.aload_n 0, 1)) ∧ (decode cL_law 575 = .ok (.iload_n 3, 1)) ∧ (decode cL_law 576 = .ok (.iconst 1, 1)) ∧ (decode cL_law 577 = .ok (.iadd, 1)) ∧ (decode cL_law 578 = .ok (.iaload, 1)) ∧ (decode cL_law 579 = .ok (.aload_n 0, 1)) := by decide +kernel
theorem dL_law_566 : decode cL_law 566 = .ok (.invokevirtual 72, 3) := q9_dL_law_566.1
theorem dL_law_569 : decode cL_law 569 = .ok (.pop, 1) := q9_dL_law_566.2.1
theorem dL_law_570 : decode cL_law 570 = .ok (.goto 191, 3) := q9_dL_law_566.2.2.1
theorem dL_law_573 : decode cL_law 573 = .ok (.aload_n 1, 1) := q9_dL_law_566.2.2.2.1
theorem dL_law_574 : decode cL_law 574 = .ok (.aload_n 0, 1) := q9_dL_law_566.2.2.2.2.1
theorem dL_law_575 : decode cL_law 575 = .ok (.iload_n 3, 1) := q9_dL_law_566.2.2.2.2.2.1
theorem dL_law_576 : decode cL_law 576 = .ok (.iconst 1, 1) := q9_dL_law_566.2.2.2.2.2.2.1
theorem dL_law_577 : decode cL_law 577 = .ok (.iadd, 1) := q9_dL_law_566.2.2.2.2.2.2.2.1
theorem dL_law_578 : decode cL_law 578 = .ok (.iaload, 1) := q9_dL_law_566.2.2.2.2.2.2.2.2.1
theorem dL_law_579 : decode cL_law 579 = .ok (.aload_n 0, 1) := q9_dL_law_566.2.2.2.2.2.2.2.2.2
theorem q9_dL_law_580 : (decode cL_law 580 = .ok (.iload_n 3, 1)) ∧ (decode cL_law 581 = .ok (.iconst 2, 1)) ∧ (decode cL_law 582 = .ok (.iadd, 1)) ∧ (decode cL_law 583 = .ok (.iaload, 1)) ∧ (decode cL_law 584 = .ok (.invokevirtual 73, 3)) ∧ (decode cL_law 587 = .ok (.pop, 1)) ∧ (decode cL_law 588 = .ok (.aload_n 2, 1)) ∧ (decode cL_law 589 = .ok (.aload_n 0, 1)) ∧ (decode cL_law 590 = .ok (.iload_n 3, 1)) ∧ (decode cL_law 591 = .ok (.iconst 1, 1)) := by decide +kernel
theorem dL_law_580 : decode cL_law 580 = .ok (.iload_n 3, 1) := q9_dL_law_580.1
theorem dL_law_581 : decode cL_law 581 = .ok (.iconst 2, 1) := q9_dL_law_580.2.1
theorem dL_law_582 : decode cL_law 582 = .ok (.iadd, 1) := q9_dL_law_580.2.2.1
theorem dL_law_583 : decode cL_law 583 = .ok (.iaload, 1) := q9_dL_law_580.2.2.2.1
theorem dL_law_584 : decode cL_law 584 = .ok (.invokevirtual 73, 3) := q9_dL_law_580.2.2.2.2.1
theorem dL_law_587 : decode cL_law 587 = .ok (.pop, 1) := q9_dL_law_580.2.2.2.2.2.1
theorem dL_law_588 : decode cL_law 588 = .ok (.aload_n 2, 1) := q9_dL_law_580.2.2.2.2.2.2.1
theorem dL_law_589 : decode cL_law 589 = .ok (.aload_n 0, 1) := q9_dL_law_580.2.2.2.2.2.2.2.1
theorem dL_law_590 : decode cL_law 590 = .ok (.iload_n 3, 1) := q9_dL_law_580.2.2.2.2.2.2.2.2.1
theorem dL_law_591 : decode cL_law 591 = .ok (.iconst 1, 1) := q9_dL_law_580.2.2.2.2.2.2.2.2.2
theorem q9_dL_law_592 : (decode cL_law 592 = .ok (.iadd, 1)) ∧ (decode cL_law 593 = .ok (.iaload, 1)) ∧ (decode cL_law 594 = .ok (.aload_n 0, 1)) ∧ (decode cL_law 595 = .ok (.iload_n 3, 1)) ∧ (decode cL_law 596 = .ok (.iconst 2, 1)) ∧ (decode cL_law 597 = .ok (.iadd, 1)) ∧ (decode cL_law 598 = .ok (.iaload, 1)) ∧ (decode cL_law 599 = .ok (.invokevirtual 76, 3)) ∧ (decode cL_law 602 = .ok (.pop, 1)) ∧ (decode cL_law 603 = .ok (.goto 158, 3)) := by decide +kernel
theorem dL_law_592 : decode cL_law 592 = .ok (.iadd, 1) := q9_dL_law_592.1
theorem dL_law_593 : decode cL_law 593 = .ok (.iaload, 1) := q9_dL_law_592.2.1
theorem dL_law_594 : decode cL_law 594 = .ok (.aload_n 0, 1) := q9_dL_law_592.2.2.1
theorem dL_law_595 : decode cL_law 595 = .ok (.iload_n 3, 1) := q9_dL_law_592.2.2.2.1
theorem dL_law_596 : decode cL_law 596 = .ok (.iconst 2, 1) := q9_dL_law_592.2.2.2.2.1
theorem dL_law_597 : decode cL_law 597 = .ok (.iadd, 1) := q9_dL_law_592.2.2.2.2.2.1
theorem dL_law_598 : decode cL_law 598 = .ok (.iaload, 1) := q9_dL_law_592.2.2.2.2.2.2.1
theorem dL_law_599 : decode cL_law 599 = .ok (.invokevirtual 76, 3) := q9_dL_law_592.2.2.2.2.2.2.2.1
theorem dL_law_602 : decode cL_law 602 = .ok (.pop, 1) := q9_dL_law_592.2.2.2.2.2.2.2.2.1
theorem dL_law_603 : decode cL_law 603 = .ok (.goto 158, 3) := q9_dL_law_592.2.2.2.2.2.2.2.2.2
theorem q9_dL_law_606 : (decode cL_law 606 = .ok (.aload_n 1, 1)) ∧ (decode cL_law 607 = .ok (.aload_n 0, 1)) ∧ (decode cL_law 608 = .ok (.iload_n 3, 1)) ∧ (decode cL_law 609 = .ok (.iconst 1, 1)) ∧ (decode cL_law 610 = .ok (.iadd, 1)) ∧ (decode cL_law 611 = .ok (.iaload, 1)) ∧ (decode cL_law 612 = .ok (.aload_n 0, 1)) ∧ (decode cL_law 613 = .ok (.iload_n 3, 1)) ∧ (decode cL_law 614 = .ok (.iconst 2, 1)) ∧ (decode cL_law 615 = .ok (.iadd, 1)) := by decide +kernel
theorem dL_law_606 : decode cL_law 606 = .ok (.aload_n 1, 1) := q9_dL_law_606.1
theorem dL_law_607 : decode cL_law 607 = .ok (.aload_n 0, 1) := q9_dL_law_606.2.1
theorem dL_law_608 : decode cL_law 608 = .ok (.iload_n 3, 1) := q9_dL_law_606.2.2.1
theorem dL_law_609 : decode cL_law 609 = .ok (.iconst 1, 1) := q9_dL_law_606.2.2.2.1
theorem dL_law_610 : decode cL_law 610 = .ok (.iadd, 1) := q9_dL_law_606.2.2.2.2.1
theorem dL_law_611 : decode cL_law 611 = .ok (.iaload, 1) := q9_dL_law_606.2.2.2.2.2.1
theorem dL_law_612 : decode cL_law 612 = .ok (.aload_n 0, 1) := q9_dL_law_606.2.2.2.2.2.2.1
theorem dL_law_613 : decode cL_law 613 = .ok (.iload_n 3, 1) := q9_dL_law_606.2.2.2.2.2.2.2.1
theorem dL_law_614 : decode cL_law 614 = .ok (.iconst 2, 1) := q9_dL_law_606.2.2.2.2.2.2.2.2.1
theorem dL_law_615 : decode cL_law 615 = .ok (.iadd, 1) := q9_dL_law_606.2.2.2.2.2.2.2.2.2
theorem q9_dL_law_616 : (decode cL_law 616 = .ok (.iaload, 1)) ∧ (decode cL_law 617 = .ok (.invokevirtual 77, 3)) ∧ (decode cL_law 620 = .ok (.pop, 1)) ∧ (decode cL_law 621 = .ok (.aload_n 2, 1)) ∧ (decode cL_law 622 = .ok (.aload_n 0, 1)) ∧ (decode cL_law 623 = .ok (.iload_n 3, 1)) ∧ (decode cL_law 624 = .ok (.iconst 1, 1)) ∧ (decode cL_law 625 = .ok (.iadd, 1)) ∧ (decode cL_law 626 = .ok (.iaload, 1)) ∧ (decode cL_law 627 = .ok (.aload_n 0, 1)) := by decide +kernel
theorem dL_law_616 : decode cL_law 616 = .ok (.iaload, 1) := q9_dL_law_616.1
theorem dL_law_617 : decode cL_law 617 = .ok (.invokevirtual 77, 3) := q9_dL_law_616.2.1
theorem dL_law_620 : decode cL_law 620 = .ok (.pop, 1) := q9_dL_law_616.2.2.1
theorem dL_law_621 : decode cL_law 621 = .ok (.aload_n 2, 1) := q9_dL_law_616.2.2.2.1
theorem dL_law_622 : decode cL_law 622 = .ok (.aload_n 0, 1) := q9_dL_law_616.2.2.2.2.1
theorem dL_law_623 : decode cL_law 623 = .ok (.iload_n 3, 1) := q9_dL_law_616.2.2.2.2.2.1
theorem dL_law_624 : decode cL_law 624 = .ok (.iconst 1, 1) := q9_dL_law_616.2.2.2.2.2.2.1
theorem dL_law_625 : decode cL_law 625 = .ok (.iadd, 1) := q9_dL_law_616.2.2.2.2.2.2.2.1
theorem dL_law_626 : decode cL_law 626 = .ok (.iaload, 1) := q9_dL_law_616.2.2.2.2.2.2.2.2.1
theorem dL_law_627 : decode cL_law 627 = .ok (.aload_n 0, 1) := q9_dL_law_616.2.2.2.2.2.2.2.2.2
theorem q9_dL_law_628 : (decode cL_law 628 = .ok (.iload_n 3, 1)) ∧ (decode cL_law 629 = .ok (.iconst 2, 1)) ∧ (decode cL_law 630 = .ok (.iadd, 1)) ∧ (decode cL_law 631 = .ok (.iaload, 1)) ∧ (decode cL_law 632 = .ok (.invokevirtual 80, 3)) ∧ (decode cL_law 635 = .ok (.pop, 1)) ∧ (decode cL_law 636 = .ok (.goto 125, 3)) ∧ (decode cL_law 639 = .ok (.aload_n 1, 1)) ∧ (decode cL_law 640 = .ok (.aload_n 0, 1)) ∧ (decode cL_law 641 = .ok (.iload_n 3, 1)) := by decide +kernel
theorem dL_law_628 : decode cL_law 628 = .ok (.iload_n 3, 1) := q9_dL_law_628.1
theorem dL_law_629 : decode cL_law 629 = .ok (.iconst 2, 1) := q9_dL_law_628.2.1
theorem dL_law_630 : decode cL_law 630 = .ok (.iadd, 1) := q9_dL_law_628.2.2.1
theorem dL_law_631 : decode cL_law 631 = .ok (.iaload, 1) := q9_dL_law_628.2.2.2.1
theorem dL_law_632 : decode cL_law 632 = .ok (.invokevirtual 80, 3) := q9_dL_law_628.2.2.2.2.1
theorem dL_law_635 : decode cL_law 635 = .ok (.pop, 1) := q9_dL_law_628.2.2.2.2.2.1
theorem dL_law_636 : decode cL_law 636 = .ok (.goto 125, 3) := q9_dL_law_628.2.2.2.2.2.2.1
theorem dL_law_639 : decode cL_law 639 = .ok (.aload_n 1, 1) := q9_dL_law_628.2.2.2.2.2.2.2.1
theorem dL_law_640 : decode cL_law 640 = .ok (.aload_n 0, 1) := q9_dL_law_628.2.2.2.2.2.2.2.2.1
theorem dL_law_641 : decode cL_law 641 = .ok (.iload_n 3, 1) := q9_dL_law_628.2.2.2.2.2.2.2.2.2
theorem q9_dL_law_642 : (decode cL_law 642 = .ok (.iconst 1, 1)) ∧ (decode cL_law 643 = .ok (.iadd, 1)) ∧ (decode cL_law 644 = .ok (.iaload, 1)) ∧ (decode cL_law 645 = .ok (.aload_n 0, 1)) ∧ (decode cL_law 646 = .ok (.iload_n 3, 1)) ∧ (decode cL_law 647 = .ok (.iconst 2, 1)) ∧ (decode cL_law 648 = .ok (.iadd, 1)) ∧ (decode cL_law 649 = .ok (.iaload, 1)) ∧ (decode cL_law 650 = .ok (.invokevirtual 81, 3)) ∧ (decode cL_law 653 = .ok (.pop, 1)) := by decide +kernel
theorem dL_law_642 : decode cL_law 642 = .ok (.iconst 1, 1) := q9_dL_law_642.1
theorem dL_law_643 : decode cL_law 643 = .ok (.iadd, 1) := q9_dL_law_642.2.1
theorem dL_law_644 : decode cL_law 644 = .ok (.iaload, 1) := q9_dL_law_642.2.2.1
theorem dL_law_645 : decode cL_law 645 = .ok (.aload_n 0, 1) := q9_dL_law_642.2.2.2.1
theorem dL_law_646 : decode cL_law 646 = .ok (.iload_n 3, 1) := q9_dL_law_642.2.2.2.2.1
theorem dL_law_647 : decode cL_law 647 = .ok (.iconst 2, 1) := q9_dL_law_642.2.2.2.2.2.1
theorem dL_law_648 : decode cL_law 648 = .ok (.iadd, 1) := q9_dL_law_642.2.2.2.2.2.2.1
theorem dL_law_649 : decode cL_law 649 = .ok (.iaload, 1) := q9_dL_law_642.2.2.2.2.2.2.2.1
theorem dL_law_650 : decode cL_law 650 = .ok (.invokevirtual 81, 3) := q9_dL_law_642.2.2.2.2.2.2.2.2.1
theorem dL_law_653 : decode cL_law 653 = .ok (.pop, 1) := q9_dL_law_642.2.2.2.2.2.2.2.2.2
theorem q9_dL_law_654 : (decode cL_law 654 = .ok (.aload_n 2, 1)) ∧ (decode cL_law 655 = .ok (.aload_n 0, 1)) ∧ (decode cL_law 656 = .ok (.iload_n 3, 1)) ∧ (decode cL_law 657 = .ok (.iconst 1, 1)) ∧ (decode cL_law 658 = .ok (.iadd, 1)) ∧ (decode cL_law 659 = .ok (.iaload, 1)) ∧ (decode cL_law 660 = .ok (.aload_n 0, 1)) ∧ (decode cL_law 661 = .ok (.iload_n 3, 1)) ∧ (decode cL_law 662 = .ok (.iconst 2, 1)) ∧ (decode cL_law 663 = .ok (.iadd, 1)) := by decide +kernel
theorem dL_law_654 : decode cL_law 654 = .ok (.aload_n 2, 1) := q9_dL_law_654.1
theorem dL_law_655 : decode cL_law 655 = .ok (.aload_n 0, 1) := q9_dL_law_654.2.1
theorem dL_law_656 : decode cL_law 656 = .ok (.iload_n 3, 1) := q9_dL_law_654.2.2.1
theorem dL_law_657 : decode cL_law 657 = .ok (.iconst 1, 1) := q9_dL_law_654.2.2.2.1
theorem dL_law_658 : decode cL_law 658 = .ok (.iadd, 1) := q9_dL_law_654.2.2.2.2.1
theorem dL_law_659 : decode cL_law 659 = .ok (.iaload, 1) := q9_dL_law_654.2.2.2.2.2.1
theorem dL_law_660 : decode cL_law 660 = .ok (.aload_n 0, 1) := q9_dL_law_654.2.2.2.2.2.2.1
theorem dL_law_661 : decode cL_law 661 = .ok (.iload_n 3, 1) := q9_dL_law_654.2.2.2.2.2.2.2.1
theorem dL_law_662 : decode cL_law 662 = .ok (.iconst 2, 1) := q9_dL_law_654.2.2.2.2.2.2.2.2.1
theorem dL_law_663 : decode cL_law 663 = .ok (.iadd, 1) := q9_dL_law_654.2.2.2.2.2.2.2.2.2
theorem q9_dL_law_664 : (decode cL_law 664 = .ok (.iaload, 1)) ∧ (decode cL_law 665 = .ok (.invokevirtual 84, 3)) ∧ (decode cL_law 668 = .ok (.pop, 1)) ∧ (decode cL_law 669 = .ok (.goto 92, 3)) ∧ (decode cL_law 672 = .ok (.aload_n 1, 1)) ∧ (decode cL_law 673 = .ok (.aload_n 0, 1)) ∧ (decode cL_law 674 = .ok (.iload_n 3, 1)) ∧ (decode cL_law 675 = .ok (.iconst 1, 1)) ∧ (decode cL_law 676 = .ok (.iadd, 1)) ∧ (decode cL_law 677 = .ok (.iaload, 1)) := by decide +kernel
theorem dL_law_664 : decode cL_law 664 = .ok (.iaload, 1) := q9_dL_law_664.1
theorem dL_law_665 : decode cL_law 665 = .ok (.invokevirtual 84, 3) := q9_dL_law_664.2.1
theorem dL_law_668 : decode cL_law 668 = .ok (.pop, 1) := q9_dL_law_664.2.2.1
theorem dL_law_669 : decode cL_law 669 = .ok (.goto 92, 3) := q9_dL_law_664.2.2.2.1
theorem dL_law_672 : decode cL_law 672 = .ok (.aload_n 1, 1) := q9_dL_law_664.2.2.2.2.1
theorem dL_law_673 : decode cL_law 673 = .ok (.aload_n 0, 1) := q9_dL_law_664.2.2.2.2.2.1
theorem dL_law_674 : decode cL_law 674 = .ok (.iload_n 3, 1) := q9_dL_law_664.2.2.2.2.2.2.1
theorem dL_law_675 : decode cL_law 675 = .ok (.iconst 1, 1) := q9_dL_law_664.2.2.2.2.2.2.2.1
theorem dL_law_676 : decode cL_law 676 = .ok (.iadd, 1) := q9_dL_law_664.2.2.2.2.2.2.2.2.1
theorem dL_law_677 : decode cL_law 677 = .ok (.iaload, 1) := q9_dL_law_664.2.2.2.2.2.2.2.2.2
theorem q9_dL_law_678 : (decode cL_law 678 = .ok (.aload_n 0, 1)) ∧ (decode cL_law 679 = .ok (.iload_n 3, 1)) ∧ (decode cL_law 680 = .ok (.iconst 2, 1)) ∧ (decode cL_law 681 = .ok (.iadd, 1)) ∧ (decode cL_law 682 = .ok (.iaload, 1)) ∧ (decode cL_law 683 = .ok (.invokevirtual 85, 3)) ∧ (decode cL_law 686 = .ok (.pop, 1)) ∧ (decode cL_law 687 = .ok (.aload_n 2, 1)) ∧ (decode cL_law 688 = .ok (.aload_n 0, 1)) ∧ (decode cL_law 689 = .ok (.iload_n 3, 1)) := by decide +kernel
theorem dL_law_678 : decode cL_law 678 = .ok (.aload_n 0, 1) := q9_dL_law_678.1
theorem dL_law_679 : decode cL_law 679 = .ok (.iload_n 3, 1) := q9_dL_law_678.2.1
theorem dL_law_680 : decode cL_law 680 = .ok (.iconst 2, 1) := q9_dL_law_678.2.2.1
theorem dL_law_681 : decode cL_law 681 = .ok (.iadd, 1) := q9_dL_law_678.2.2.2.1
theorem dL_law_682 : decode cL_law 682 = .ok (.iaload, 1) := q9_dL_law_678.2.2.2.2.1
theorem dL_law_683 : decode cL_law 683 = .ok (.invokevirtual 85, 3) := q9_dL_law_678.2.2.2.2.2.1
theorem dL_law_686 : decode cL_law 686 = .ok (.pop, 1) := q9_dL_law_678.2.2.2.2.2.2.1
theorem dL_law_687 : decode cL_law 687 = .ok (.aload_n 2, 1) := q9_dL_law_678.2.2.2.2.2.2.2.1
theorem dL_law_688 : decode cL_law 688 = .ok (.aload_n 0, 1) := q9_dL_law_678.2.2.2.2.2.2.2.2.1
theorem dL_law_689 : decode cL_law 689 = .ok (.iload_n 3, 1) := q9_dL_law_678.2.2.2.2.2.2.2.2.2
theorem q9_dL_law_690 : (decode cL_law 690 = .ok (.iconst 1, 1)) ∧ (decode cL_law 691 = .ok (.iadd, 1)) ∧ (decode cL_law 692 = .ok (.iaload, 1)) ∧ (decode cL_law 693 = .ok (.aload_n 0, 1)) ∧ (decode cL_law 694 = .ok (.iload_n 3, 1)) ∧ (decode cL_law 695 = .ok (.iconst 2, 1)) ∧ (decode cL_law 696 = .ok (.iadd, 1)) ∧ (decode cL_law 697 = .ok (.iaload, 1)) ∧ (decode cL_law 698 = .ok (.invokevirtual 88, 3)) ∧ (decode cL_law 701 = .ok (.pop, 1)) := by decide +kernel
theorem dL_law_690 : decode cL_law 690 = .ok (.iconst 1, 1) := q9_dL_law_690.1
theorem dL_law_691 : decode cL_law 691 = .ok (.iadd, 1) := q9_dL_law_690.2.1
theorem dL_law_692 : decode cL_law 692 = .ok (.iaload, 1) := q9_dL_law_690.2.2.1
theorem dL_law_693 : decode cL_law 693 = .ok (.aload_n 0, 1) := q9_dL_law_690.2.2.2.1
theorem dL_law_694 : decode cL_law 694 = .ok (.iload_n 3, 1) := q9_dL_law_690.2.2.2.2.1
theorem dL_law_695 : decode cL_law 695 = .ok (.iconst 2, 1) := q9_dL_law_690.2.2.2.2.2.1
theorem dL_law_696 : decode cL_law 696 = .ok (.iadd, 1) := q9_dL_law_690.2.2.2.2.2.2.1
theorem dL_law_697 : decode cL_law 697 = .ok (.iaload, 1) := q9_dL_law_690.2.2.2.2.2.2.2.1
theorem dL_law_698 : decode cL_law 698 = .ok (.invokevirtual 88, 3) := q9_dL_law_690.2.2.2.2.2.2.2.2.1
theorem dL_law_701 : decode cL_law 701 = .ok (.pop, 1) := q9_dL_law_690.2.2.2.2.2.2.2.2.2
theorem q9_dL_law_702 : (decode cL_law 702 = .ok (.goto 59, 3)) ∧ (decode cL_law 705 = .ok (.aload_n 1, 1)) ∧ (decode cL_law 706 = .ok (.aload_n 0, 1)) ∧ (decode cL_law 707 = .ok (.iload_n 3, 1)) ∧ (decode cL_law 708 = .ok (.iconst 1, 1)) ∧ (decode cL_law 709 = .ok (.iadd, 1)) ∧ (decode cL_law 710 = .ok (.iaload, 1)) ∧ (decode cL_law 711 = .ok (.aload_n 0, 1)) ∧ (decode cL_law 712 = .ok (.iload_n 3, 1)) ∧ (decode cL_law 713 = .ok (.iconst 2, 1)) := by decide +kernel
theorem dL_law_702 : decode cL_law 702 = .ok (.goto 59, 3) := q9_dL_law_702.1
theorem dL_law_705 : decode cL_law 705 = .ok (.aload_n 1, 1) := q9_dL_law_702.2.1
theorem dL_law_706 : decode cL_law 706 = .ok (.aload_n 0, 1) := q9_dL_law_702.2.2.1
theorem dL_law_707 : decode cL_law 707 = .ok (.iload_n 3, 1) := q9_dL_law_702.2.2.2.1
theorem dL_law_708 : decode cL_law 708 = .ok (.iconst 1, 1) := q9_dL_law_702.2.2.2.2.1
theorem dL_law_709 : decode cL_law 709 = .ok (.iadd, 1) := q9_dL_law_702.2.2.2.2.2.1
theorem dL_law_710 : decode cL_law 710 = .ok (.iaload, 1) := q9_dL_law_702.2.2.2.2.2.2.1
theorem dL_law_711 : decode cL_law 711 = .ok (.aload_n 0, 1) := q9_dL_law_702.2.2.2.2.2.2.2.1
theorem dL_law_712 : decode cL_law 712 = .ok (.iload_n 3, 1) := q9_dL_law_702.2.2.2.2.2.2.2.2.1
theorem dL_law_713 : decode cL_law 713 = .ok (.iconst 2, 1) := q9_dL_law_702.2.2.2.2.2.2.2.2.2
theorem q9_dL_law_714 : (decode cL_law 714 = .ok (.iadd, 1)) ∧ (decode cL_law 715 = .ok (.iaload, 1)) ∧ (decode cL_law 716 = .ok (.invokevirtual 89, 3)) ∧ (decode cL_law 719 = .ok (.pop, 1)) ∧ (decode cL_law 720 = .ok (.aload_n 2, 1)) ∧ (decode cL_law 721 = .ok (.aload_n 0, 1)) ∧ (decode cL_law 722 = .ok (.iload_n 3, 1)) ∧ (decode cL_law 723 = .ok (.iconst 1, 1)) ∧ (decode cL_law 724 = .ok (.iadd, 1)) ∧ (decode cL_law 725 = .ok (.iaload, 1)) := by decide +kernel
theorem dL_law_714 : decode cL_law 714 = .ok (.iadd, 1) := q9_dL_law_714.1
theorem dL_law_715 : decode cL_law 715 = .ok (.iaload, 1) := q9_dL_law_714.2.1
theorem dL_law_716 : decode cL_law 716 = .ok (.invokevirtual 89, 3) := q9_dL_law_714.2.2.1
theorem dL_law_719 : decode cL_law 719 = .ok (.pop, 1) := q9_dL_law_714.2.2.2.1
theorem dL_law_720 : decode cL_law 720 = .ok (.aload_n 2, 1) := q9_dL_law_714.2.2.2.2.1
theorem dL_law_721 : decode cL_law 721 = .ok (.aload_n 0, 1) := q9_dL_law_714.2.2.2.2.2.1
theorem dL_law_722 : decode cL_law 722 = .ok (.iload_n 3, 1) := q9_dL_law_714.2.2.2.2.2.2.1
theorem dL_law_723 : decode cL_law 723 = .ok (.iconst 1, 1) := q9_dL_law_714.2.2.2.2.2.2.2.1
theorem dL_law_724 : decode cL_law 724 = .ok (.iadd, 1) := q9_dL_law_714.2.2.2.2.2.2.2.2.1
theorem dL_law_725 : decode cL_law 725 = .ok (.iaload, 1) := q9_dL_law_714.2.2.2.2.2.2.2.2.2
theorem q9_dL_law_726 : (decode cL_law 726 = .ok (.aload_n 0, 1)) ∧ (decode cL_law 727 = .ok (.iload_n 3, 1)) ∧ (decode cL_law 728 = .ok (.iconst 2, 1)) ∧ (decode cL_law 729 = .ok (.iadd, 1)) ∧ (decode cL_law 730 = .ok (.iaload, 1)) ∧ (decode cL_law 731 = .ok (.invokevirtual 92, 3)) ∧ (decode cL_law 734 = .ok (.pop, 1)) ∧ (decode cL_law 735 = .ok (.goto 26, 3)) ∧ (decode cL_law 738 = .ok (.aload_n 1, 1)) ∧ (decode cL_law 739 = .ok (.aload_n 0, 1)) := by decide +kernel
theorem dL_law_726 : decode cL_law 726 = .ok (.aload_n 0, 1) := q9_dL_law_726.1
theorem dL_law_727 : decode cL_law 727 = .ok (.iload_n 3, 1) := q9_dL_law_726.2.1
theorem dL_law_728 : decode cL_law 728 = .ok (.iconst 2, 1) := q9_dL_law_726.2.2.1
theorem dL_law_729 : decode cL_law 729 = .ok (.iadd, 1) := q9_dL_law_726.2.2.2.1
theorem dL_law_730 : decode cL_law 730 = .ok (.iaload, 1) := q9_dL_law_726.2.2.2.2.1
theorem dL_law_731 : decode cL_law 731 = .ok (.invokevirtual 92, 3) := q9_dL_law_726.2.2.2.2.2.1
theorem dL_law_734 : decode cL_law 734 = .ok (.pop, 1) := q9_dL_law_726.2.2.2.2.2.2.1
theorem dL_law_735 : decode cL_law 735 = .ok (.goto 26, 3) := q9_dL_law_726.2.2.2.2.2.2.2.1
theorem dL_law_738 : decode cL_law 738 = .ok (.aload_n 1, 1) := q9_dL_law_726.2.2.2.2.2.2.2.2.1
theorem dL_law_739 : decode cL_law 739 = .ok (.aload_n 0, 1) := q9_dL_law_726.2.2.2.2.2.2.2.2.2
theorem q9_dL_law_740 : (decode cL_law 740 = .ok (.iload_n 3, 1)) ∧ (decode cL_law 741 = .ok (.iconst 1, 1)) ∧ (decode cL_law 742 = .ok (.iadd, 1)) ∧ (decode cL_law 743 = .ok (.iaload, 1)) ∧ (decode cL_law 744 = .ok (.invokevirtual 93, 3)) ∧ (decode cL_law 747 = .ok (.pop, 1)) ∧ (decode cL_law 748 = .ok (.aload_n 2, 1)) ∧ (decode cL_law 749 = .ok (.aload_n 0, 1)) ∧ (decode cL_law 750 = .ok (.iload_n 3, 1)) ∧ (decode cL_law 751 = .ok (.iconst 1, 1)) := by decide +kernel
theorem dL_law_740 : decode cL_law 740 = .ok (.iload_n 3, 1) := q9_dL_law_740.1
theorem dL_law_741 : decode cL_law 741 = .ok (.iconst 1, 1) := q9_dL_law_740.2.1
theorem dL_law_742 : decode cL_law 742 = .ok (.iadd, 1) := q9_dL_law_740.2.2.1
theorem dL_law_743 : decode cL_law 743 = .ok (.iaload, 1) := q9_dL_law_740.2.2.2.1
theorem dL_law_744 : decode cL_law 744 = .ok (.invokevirtual 93, 3) := q9_dL_law_740.2.2.2.2.1
theorem dL_law_747 : decode cL_law 747 = .ok (.pop, 1) := q9_dL_law_740.2.2.2.2.2.1
theorem dL_law_748 : decode cL_law 748 = .ok (.aload_n 2, 1) := q9_dL_law_740.2.2.2.2.2.2.1
theorem dL_law_749 : decode cL_law 749 = .ok (.aload_n 0, 1) := q9_dL_law_740.2.2.2.2.2.2.2.1
theorem dL_law_750 : decode cL_law 750 = .ok (.iload_n 3, 1) := q9_dL_law_740.2.2.2.2.2.2.2.2.1
theorem dL_law_751 : decode cL_law 751 = .ok (.iconst 1, 1) := q9_dL_law_740.2.2.2.2.2.2.2.2.2
theorem q9_dL_law_752 : (decode cL_law 752 = .ok (.iadd, 1)) ∧ (decode cL_law 753 = .ok (.iaload, 1)) ∧ (decode cL_law 754 = .ok (.invokevirtual 96, 3)) ∧ (decode cL_law 757 = .ok (.pop, 1)) ∧ (decode cL_law 758 = .ok (.goto 3, 3)) ∧ (decode cL_law 761 = .ok (.iinc 3 6, 3)) ∧ (decode cL_law 764 = .ok (.goto (-746), 3)) ∧ (decode cL_law 767 = .ok (.iconst 1, 1)) ∧ (decode cL_law 768 = .ok (.ireturn, 1)) := by decide +kernel
theorem dL_law_752 : decode cL_law 752 = .ok (.iadd, 1) := q9_dL_law_752.1
theorem dL_law_753 : decode cL_law 753 = .ok (.iaload, 1) := q9_dL_law_752.2.1
theorem dL_law_754 : decode cL_law 754 = .ok (.invokevirtual 96, 3) := q9_dL_law_752.2.2.1
theorem dL_law_757 : decode cL_law 757 = .ok (.pop, 1) := q9_dL_law_752.2.2.2.1
theorem dL_law_758 : decode cL_law 758 = .ok (.goto 3, 3) := q9_dL_law_752.2.2.2.2.1
theorem dL_law_761 : decode cL_law 761 = .ok (.iinc 3 6, 3) := q9_dL_law_752.2.2.2.2.2.1
theorem dL_law_764 : decode cL_law 764 = .ok (.goto (-746), 3) := q9_dL_law_752.2.2.2.2.2.2.1
theorem dL_law_767 : decode cL_law 767 = .ok (.iconst 1, 1) := q9_dL_law_752.2.2.2.2.2.2.2.1
theorem dL_law_768 : decode cL_law 768 = .ok (.ireturn, 1) := q9_dL_law_752.2.2.2.2.2.2.2.2

