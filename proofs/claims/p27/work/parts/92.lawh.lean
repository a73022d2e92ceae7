theorem bdL_law_0 : (decode cL_law 0 = .ok (.new 7, 3)) ∧ (decode cL_law 3 = .ok (.dup, 1)) ∧ (decode cL_law 4 = .ok (.invokespecial 9, 3)) ∧ (decode cL_law 7 = .ok (.astore_n 1, 1)) ∧ (decode cL_law 8 = .ok (.new 10, 3)) ∧ (decode cL_law 11 = .ok (.dup, 1)) ∧ (decode cL_law 12 = .ok (.invokespecial 12, 3)) ∧ (decode cL_law 15 = .ok (.astore_n 2, 1)) ∧ (decode cL_law 16 = .ok (.iconst 0, 1)) ∧ (decode cL_law 17 = .ok (.istore_n 3, 1)) ∧ (decode cL_law 18 = .ok (.iload_n 3, 1)) ∧ (decode cL_law 19 = .ok (.aload_n 0, 1)) ∧ (decode cL_law 20 = .ok (.arraylength, 1)) ∧ (decode cL_law 21 = .ok (.iconst 5, 1)) ∧ (decode cL_law 22 = .ok (.isub, 1)) ∧ (decode cL_law 23 = .ok (.if_icmp .gt 873, 3)) := by decide +kernel
theorem dL_law_0 : decode cL_law 0 = .ok (.new 7, 3) := bdL_law_0.1
theorem dL_law_3 : decode cL_law 3 = .ok (.dup, 1) := bdL_law_0.2.1
theorem dL_law_4 : decode cL_law 4 = .ok (.invokespecial 9, 3) := bdL_law_0.2.2.1
theorem dL_law_7 : decode cL_law 7 = .ok (.astore_n 1, 1) := bdL_law_0.2.2.2.1
theorem dL_law_8 : decode cL_law 8 = .ok (.new 10, 3) := bdL_law_0.2.2.2.2.1
theorem dL_law_11 : decode cL_law 11 = .ok (.dup, 1) := bdL_law_0.2.2.2.2.2.1
theorem dL_law_12 : decode cL_law 12 = .ok (.invokespecial 12, 3) := bdL_law_0.2.2.2.2.2.2.1
theorem dL_law_15 : decode cL_law 15 = .ok (.astore_n 2, 1) := bdL_law_0.2.2.2.2.2.2.2.1
theorem dL_law_16 : decode cL_law 16 = .ok (.iconst 0, 1) := bdL_law_0.2.2.2.2.2.2.2.2.1
theorem dL_law_17 : decode cL_law 17 = .ok (.istore_n 3, 1) := bdL_law_0.2.2.2.2.2.2.2.2.2.1
theorem dL_law_18 : decode cL_law 18 = .ok (.iload_n 3, 1) := bdL_law_0.2.2.2.2.2.2.2.2.2.2.1
theorem dL_law_19 : decode cL_law 19 = .ok (.aload_n 0, 1) := bdL_law_0.2.2.2.2.2.2.2.2.2.2.2.1
theorem dL_law_20 : decode cL_law 20 = .ok (.arraylength, 1) := bdL_law_0.2.2.2.2.2.2.2.2.2.2.2.2.1
theorem dL_law_21 : decode cL_law 21 = .ok (.iconst 5, 1) := bdL_law_0.2.2.2.2.2.2.2.2.2.2.2.2.2.1
theorem dL_law_22 : decode cL_law 22 = .ok (.isub, 1) := bdL_law_0.2.2.2.2.2.2.2.2.2.2.2.2.2.2.1
theorem dL_law_23 : decode cL_law 23 = .ok (.if_icmp .gt 873, 3) := bdL_law_0.2.2.2.2.2.2.2.2.2.2.2.2.2.2.2
theorem bdL_law_26 : (decode cL_law 26 = .ok (.aload_n 0, 1)) ∧ (decode cL_law 27 = .ok (.iload_n 3, 1)) ∧ (decode cL_law 28 = .ok (.iaload, 1)) ∧ (decode cL_law 29 = .ok (.bipush 31, 2)) ∧ (decode cL_law 31 = .ok (.iand, 1)) ∧ (decode cL_law 32 = .ok (.tableswitch 858 0 25 #[120, 153, 176, 219, 252, 265, 278, 311, 374, 387, 410, 433, 466, 499, 522, 535, 568, 581, 604, 617, 660, 673, 696, 739, 762, 815], 120)) ∧ (decode cL_law 152 = .ok (.aload_n 1, 1)) ∧ (decode cL_law 153 = .ok (.aload_n 0, 1)) ∧ (decode cL_law 154 = .ok (.iload_n 3, 1)) ∧ (decode cL_law 155 = .ok (.iconst 1, 1)) ∧ (decode cL_law 156 = .ok (.iadd, 1)) ∧ (decode cL_law 157 = .ok (.iaload, 1)) ∧ (decode cL_law 158 = .ok (.aload_n 0, 1)) ∧ (decode cL_law 159 = .ok (.iload_n 3, 1)) ∧ (decode cL_law 160 = .ok (.iconst 2, 1)) ∧ (decode cL_law 161 = .ok (.iadd, 1)) := by decide +kernel
theorem dL_law_26 : decode cL_law 26 = .ok (.aload_n 0, 1) := bdL_law_26.1
theorem dL_law_27 : decode cL_law 27 = .ok (.iload_n 3, 1) := bdL_law_26.2.1
theorem dL_law_28 : decode cL_law 28 = .ok (.iaload, 1) := bdL_law_26.2.2.1
theorem dL_law_29 : decode cL_law 29 = .ok (.bipush 31, 2) := bdL_law_26.2.2.2.1
theorem dL_law_31 : decode cL_law 31 = .ok (.iand, 1) := bdL_law_26.2.2.2.2.1
theorem dL_law_32 : decode cL_law 32 = .ok (.tableswitch 858 0 25 #[120, 153, 176, 219, 252, 265, 278, 311, 374, 387, 410, 433, 466, 499, 522, 535, 568, 581, 604, 617, 660, 673, 696, 739, 762, 815], 120) := bdL_law_26.2.2.2.2.2.1
theorem dL_law_152 : decode cL_law 152 = .ok (.aload_n 1, 1) := bdL_law_26.2.2.2.2.2.2.1
theorem dL_law_153 : decode cL_law 153 = .ok (.aload_n 0, 1) := bdL_law_26.2.2.2.2.2.2.2.1
theorem dL_law_154 : decode cL_law 154 = .ok (.iload_n 3, 1) := bdL_law_26.2.2.2.2.2.2.2.2.1
theorem dL_law_155 : decode cL_law 155 = .ok (.iconst 1, 1) := bdL_law_26.2.2.2.2.2.2.2.2.2.1
theorem dL_law_156 : decode cL_law 156 = .ok (.iadd, 1) := bdL_law_26.2.2.2.2.2.2.2.2.2.2.1
theorem dL_law_157 : decode cL_law 157 = .ok (.iaload, 1) := bdL_law_26.2.2.2.2.2.2.2.2.2.2.2.1
theorem dL_law_158 : decode cL_law 158 = .ok (.aload_n 0, 1) := bdL_law_26.2.2.2.2.2.2.2.2.2.2.2.2.1
theorem dL_law_159 : decode cL_law 159 = .ok (.iload_n 3, 1) := bdL_law_26.2.2.2.2.2.2.2.2.2.2.2.2.2.1
theorem dL_law_160 : decode cL_law 160 = .ok (.iconst 2, 1) := bdL_law_26.2.2.2.2.2.2.2.2.2.2.2.2.2.2.1
theorem dL_law_161 : decode cL_law 161 = .ok (.iadd, 1) := bdL_law_26.2.2.2.2.2.2.2.2.2.2.2.2.2.2.2
theorem bdL_law_162 : (decode cL_law 162 = .ok (.iaload, 1)) ∧ (decode cL_law 163 = .ok (.invokevirtual 13, 3)) ∧ (decode cL_law 166 = .ok (.pop, 1)) ∧ (decode cL_law 167 = .ok (.aload_n 2, 1)) ∧ (decode cL_law 168 = .ok (.aload_n 0, 1)) ∧ (decode cL_law 169 = .ok (.iload_n 3, 1)) ∧ (decode cL_law 170 = .ok (.iconst 1, 1)) ∧ (decode cL_law 171 = .ok (.iadd, 1)) ∧ (decode cL_law 172 = .ok (.iaload, 1)) ∧ (decode cL_law 173 = .ok (.aload_n 0, 1)) ∧ (decode cL_law 174 = .ok (.iload_n 3, 1)) ∧ (decode cL_law 175 = .ok (.iconst 2, 1)) ∧ (decode cL_law 176 = .ok (.iadd, 1)) ∧ (decode cL_law 177 = .ok (.iaload, 1)) ∧ (decode cL_law 178 = .ok (.invokevirtual 17, 3)) ∧ (decode cL_law 181 = .ok (.pop, 1)) := by decide +kernel
theorem dL_law_162 : decode cL_law 162 = .ok (.iaload, 1) := bdL_law_162.1
theorem dL_law_163 : decode cL_law 163 = .ok (.invokevirtual 13, 3) := bdL_law_162.2.1
theorem dL_law_166 : decode cL_law 166 = .ok (.pop, 1) := bdL_law_162.2.2.1
theorem dL_law_167 : decode cL_law 167 = .ok (.aload_n 2, 1) := bdL_law_162.2.2.2.1
theorem dL_law_168 : decode cL_law 168 = .ok (.aload_n 0, 1) := bdL_law_162.2.2.2.2.1
theorem dL_law_169 : decode cL_law 169 = .ok (.iload_n 3, 1) := bdL_law_162.2.2.2.2.2.1
theorem dL_law_170 : decode cL_law 170 = .ok (.iconst 1, 1) := bdL_law_162.2.2.2.2.2.2.1
theorem dL_law_171 : decode cL_law 171 = .ok (.iadd, 1) := bdL_law_162.2.2.2.2.2.2.2.1
theorem dL_law_172 : decode cL_law 172 = .ok (.iaload, 1) := bdL_law_162.2.2.2.2.2.2.2.2.1
theorem dL_law_173 : decode cL_law 173 = .ok (.aload_n 0, 1) := bdL_law_162.2.2.2.2.2.2.2.2.2.1
theorem dL_law_174 : decode cL_law 174 = .ok (.iload_n 3, 1) := bdL_law_162.2.2.2.2.2.2.2.2.2.2.1
theorem dL_law_175 : decode cL_law 175 = .ok (.iconst 2, 1) := bdL_law_162.2.2.2.2.2.2.2.2.2.2.2.1
theorem dL_law_176 : decode cL_law 176 = .ok (.iadd, 1) := bdL_law_162.2.2.2.2.2.2.2.2.2.2.2.2.1
theorem dL_law_177 : decode cL_law 177 = .ok (.iaload, 1) := bdL_law_162.2.2.2.2.2.2.2.2.2.2.2.2.2.1
theorem dL_law_178 : decode cL_law 178 = .ok (.invokevirtual 17, 3) := bdL_law_162.2.2.2.2.2.2.2.2.2.2.2.2.2.2.1
theorem dL_law_181 : decode cL_law 181 = .ok (.pop, 1) := bdL_law_162.2.2.2.2.2.2.2.2.2.2.2.2.2.2.2
theorem bdL_law_182 : (decode cL_law 182 = .ok (.goto 708, 3)) ∧ (decode cL_law 185 = .ok (.aload_n 1, 1)) ∧ (decode cL_law 186 = .ok (.aload_n 0, 1)) ∧ (decode cL_law 187 = .ok (.iload_n 3, 1)) ∧ (decode cL_law 188 = .ok (.iconst 1, 1)) ∧ (decode cL_law 189 = .ok (.iadd, 1)) ∧ (decode cL_law 190 = .ok (.iaload, 1)) ∧ (decode cL_law 191 = .ok (.invokevirtual 18, 3)) ∧ (decode cL_law 194 = .ok (.pop, 1)) ∧ (decode cL_law 195 = .ok (.aload_n 2, 1)) ∧ (decode cL_law 196 = .ok (.aload_n 0, 1)) ∧ (decode cL_law 197 = .ok (.iload_n 3, 1)) ∧ (decode cL_law 198 = .ok (.iconst 1, 1)) ∧ (decode cL_law 199 = .ok (.iadd, 1)) ∧ (decode cL_law 200 = .ok (.iaload, 1)) ∧ (decode cL_law 201 = .ok (.invokevirtual 22, 3)) := by decide +kernel
theorem dL_law_182 : decode cL_law 182 = .ok (.goto 708, 3) := bdL_law_182.1
theorem dL_law_185 : decode cL_law 185 = .ok (.aload_n 1, 1) := bdL_law_182.2.1
theorem dL_law_186 : decode cL_law 186 = .ok (.aload_n 0, 1) := bdL_law_182.2.2.1
theorem dL_law_187 : decode cL_law 187 = .ok (.iload_n 3, 1) := bdL_law_182.2.2.2.1
theorem dL_law_188 : decode cL_law 188 = .ok (.iconst 1, 1) := bdL_law_182.2.2.2.2.1
theorem dL_law_189 : decode cL_law 189 = .ok (.iadd, 1) := bdL_law_182.2.2.2.2.2.1
theorem dL_law_190 : decode cL_law 190 = .ok (.iaload, 1) := bdL_law_182.2.2.2.2.2.2.1
theorem dL_law_191 : decode cL_law 191 = .ok (.invokevirtual 18, 3) := bdL_law_182.2.2.2.2.2.2.2.1
theorem dL_law_194 : decode cL_law 194 = .ok (.pop, 1) := bdL_law_182.2.2.2.2.2.2.2.2.1
theorem dL_law_195 : decode cL_law 195 = .ok (.aload_n 2, 1) := bdL_law_182.2.2.2.2.2.2.2.2.2.1
theorem dL_law_196 : decode cL_law 196 = .ok (.aload_n 0, 1) := bdL_law_182.2.2.2.2.2.2.2.2.2.2.1
theorem dL_law_197 : decode cL_law 197 = .ok (.iload_n 3, 1) := bdL_law_182.2.2.2.2.2.2.2.2.2.2.2.1
theorem dL_law_198 : decode cL_law 198 = .ok (.iconst 1, 1) := bdL_law_182.2.2.2.2.2.2.2.2.2.2.2.2.1
theorem dL_law_199 : decode cL_law 199 = .ok (.iadd, 1) := bdL_law_182.2.2.2.2.2.2.2.2.2.2.2.2.2.1
theorem dL_law_200 : decode cL_law 200 = .ok (.iaload, 1) := bdL_law_182.2.2.2.2.2.2.2.2.2.2.2.2.2.2.1
theorem dL_law_201 : decode cL_law 201 = .ok (.invokevirtual 22, 3) := bdL_law_182.2.2.2.2.2.2.2.2.2.2.2.2.2.2.2
theorem bdL_law_204 : (decode cL_law 204 = .ok (.pop, 1)) ∧ (decode cL_law 205 = .ok (.goto 685, 3)) ∧ (decode cL_law 208 = .ok (.aload_n 1, 1)) ∧ (decode cL_law 209 = .ok (.aload_n 0, 1)) ∧ (decode cL_law 210 = .ok (.iload_n 3, 1)) ∧ (decode cL_law 211 = .ok (.iconst 1, 1)) ∧ (decode cL_law 212 = .ok (.iadd, 1)) ∧ (decode cL_law 213 = .ok (.iaload, 1)) ∧ (decode cL_law 214 = .ok (.aload_n 0, 1)) ∧ (decode cL_law 215 = .ok (.iload_n 3, 1)) ∧ (decode cL_law 216 = .ok (.iconst 2, 1)) ∧ (decode cL_law 217 = .ok (.iadd, 1)) ∧ (decode cL_law 218 = .ok (.iaload, 1)) ∧ (decode cL_law 219 = .ok (.aload_n 0, 1)) ∧ (decode cL_law 220 = .ok (.iload_n 3, 1)) ∧ (decode cL_law 221 = .ok (.iconst 3, 1)) := by decide +kernel
theorem dL_law_204 : decode cL_law 204 = .ok (.pop, 1) := bdL_law_204.1
theorem dL_law_205 : decode cL_law 205 = .ok (.goto 685, 3) := bdL_law_204.2.1
theorem dL_law_208 : decode cL_law 208 = .ok (.aload_n 1, 1) := bdL_law_204.2.2.1
theorem dL_law_209 : decode cL_law 209 = .ok (.aload_n 0, 1) := bdL_law_204.2.2.2.1
theorem dL_law_210 : decode cL_law 210 = .ok (.iload_n 3, 1) := bdL_law_204.2.2.2.2.1
theorem dL_law_211 : decode cL_law 211 = .ok (.iconst 1, 1) := bdL_law_204.2.2.2.2.2.1
theorem dL_law_212 : decode cL_law 212 = .ok (.iadd, 1) := bdL_law_204.2.2.2.2.2.2.1
theorem dL_law_213 : decode cL_law 213 = .ok (.iaload, 1) := bdL_law_204.2.2.2.2.2.2.2.1
theorem dL_law_214 : decode cL_law 214 = .ok (.aload_n 0, 1) := bdL_law_204.2.2.2.2.2.2.2.2.1
theorem dL_law_215 : decode cL_law 215 = .ok (.iload_n 3, 1) := bdL_law_204.2.2.2.2.2.2.2.2.2.1
theorem dL_law_216 : decode cL_law 216 = .ok (.iconst 2, 1) := bdL_law_204.2.2.2.2.2.2.2.2.2.2.1
theorem dL_law_217 : decode cL_law 217 = .ok (.iadd, 1) := bdL_law_204.2.2.2.2.2.2.2.2.2.2.2.1
theorem dL_law_218 : decode cL_law 218 = .ok (.iaload, 1) := bdL_law_204.2.2.2.2.2.2.2.2.2.2.2.2.1
theorem dL_law_219 : decode cL_law 219 = .ok (.aload_n 0, 1) := bdL_law_204.2.2.2.2.2.2.2.2.2.2.2.2.2.1
theorem dL_law_220 : decode cL_law 220 = .ok (.iload_n 3, 1) := bdL_law_204.2.2.2.2.2.2.2.2.2.2.2.2.2.2.1
theorem dL_law_221 : decode cL_law 221 = .ok (.iconst 3, 1) := bdL_law_204.2.2.2.2.2.2.2.2.2.2.2.2.2.2.2
theorem bdL_law_222 : (decode cL_law 222 = .ok (.iadd, 1)) ∧ (decode cL_law 223 = .ok (.iaload, 1)) ∧ (decode cL_law 224 = .ok (.invokevirtual 23, 3)) ∧ (decode cL_law 227 = .ok (.pop, 1)) ∧ (decode cL_law 228 = .ok (.aload_n 2, 1)) ∧ (decode cL_law 229 = .ok (.aload_n 0, 1)) ∧ (decode cL_law 230 = .ok (.iload_n 3, 1)) ∧ (decode cL_law 231 = .ok (.iconst 1, 1)) ∧ (decode cL_law 232 = .ok (.iadd, 1)) ∧ (decode cL_law 233 = .ok (.iaload, 1)) ∧ (decode cL_law 234 = .ok (.aload_n 0, 1)) ∧ (decode cL_law 235 = .ok (.iload_n 3, 1)) ∧ (decode cL_law 236 = .ok (.iconst 2, 1)) ∧ (decode cL_law 237 = .ok (.iadd, 1)) ∧ (decode cL_law 238 = .ok (.iaload, 1)) ∧ (decode cL_law 239 = .ok (.aload_n 0, 1)) := by decide +kernel
theorem dL_law_222 : decode cL_law 222 = .ok (.iadd, 1) := bdL_law_222.1
theorem dL_law_223 : decode cL_law 223 = .ok (.iaload, 1) := bdL_law_222.2.1
theorem dL_law_224 : decode cL_law 224 = .ok (.invokevirtual 23, 3) := bdL_law_222.2.2.1
theorem dL_law_227 : decode cL_law 227 = .ok (.pop, 1) := bdL_law_222.2.2.2.1
theorem dL_law_228 : decode cL_law 228 = .ok (.aload_n 2, 1) := bdL_law_222.2.2.2.2.1
theorem dL_law_229 : decode cL_law 229 = .ok (.aload_n 0, 1) := bdL_law_222.2.2.2.2.2.1
theorem dL_law_230 : decode cL_law 230 = .ok (.iload_n 3, 1) := bdL_law_222.2.2.2.2.2.2.1
theorem dL_law_231 : decode cL_law 231 = .ok (.iconst 1, 1) := bdL_law_222.2.2.2.2.2.2.2.1
theorem dL_law_232 : decode cL_law 232 = .ok (.iadd, 1) := bdL_law_222.2.2.2.2.2.2.2.2.1
theorem dL_law_233 : decode cL_law 233 = .ok (.iaload, 1) := bdL_law_222.2.2.2.2.2.2.2.2.2.1
theorem dL_law_234 : decode cL_law 234 = .ok (.aload_n 0, 1) := bdL_law_222.2.2.2.2.2.2.2.2.2.2.1
theorem dL_law_235 : decode cL_law 235 = .ok (.iload_n 3, 1) := bdL_law_222.2.2.2.2.2.2.2.2.2.2.2.1
theorem dL_law_236 : decode cL_law 236 = .ok (.iconst 2, 1) := bdL_law_222.2.2.2.2.2.2.2.2.2.2.2.2.1
theorem dL_law_237 : decode cL_law 237 = .ok (.iadd, 1) := bdL_law_222.2.2.2.2.2.2.2.2.2.2.2.2.2.1
theorem dL_law_238 : decode cL_law 238 = .ok (.iaload, 1) := bdL_law_222.2.2.2.2.2.2.2.2.2.2.2.2.2.2.1
theorem dL_law_239 : decode cL_law 239 = .ok (.aload_n 0, 1) := bdL_law_222.2.2.2.2.2.2.2.2.2.2.2.2.2.2.2
theorem bdL_law_240 : (decode cL_law 240 = .ok (.iload_n 3, 1)) ∧ (decode cL_law 241 = .ok (.iconst 3, 1)) ∧ (decode cL_law 242 = .ok (.iadd, 1)) ∧ (decode cL_law 243 = .ok (.iaload, 1)) ∧ (decode cL_law 244 = .ok (.invokevirtual 27, 3)) ∧ (decode cL_law 247 = .ok (.pop, 1)) ∧ (decode cL_law 248 = .ok (.goto 642, 3)) ∧ (decode cL_law 251 = .ok (.aload_n 1, 1)) ∧ (decode cL_law 252 = .ok (.aload_n 0, 1)) ∧ (decode cL_law 253 = .ok (.iload_n 3, 1)) ∧ (decode cL_law 254 = .ok (.iconst 1, 1)) ∧ (decode cL_law 255 = .ok (.iadd, 1)) ∧ (decode cL_law 256 = .ok (.iaload, 1)) ∧ (decode cL_law 257 = .ok (.aload_n 0, 1)) ∧ (decode cL_law 258 = .ok (.iload_n 3, 1)) ∧ (decode cL_law 259 = .ok (.iconst 2, 1)) := by decide +kernel
theorem dL_law_240 : decode cL_law 240 = .ok (.iload_n 3, 1) := bdL_law_240.1
theorem dL_law_241 : decode cL_law 241 = .ok (.iconst 3, 1) := bdL_law_240.2.1
theorem dL_law_242 : decode cL_law 242 = .ok (.iadd, 1) := bdL_law_240.2.2.1
theorem dL_law_243 : decode cL_law 243 = .ok (.iaload, 1) := bdL_law_240.2.2.2.1
theorem dL_law_244 : decode cL_law 244 = .ok (.invokevirtual 27, 3) := bdL_law_240.2.2.2.2.1
theorem dL_law_247 : decode cL_law 247 = .ok (.pop, 1) := bdL_law_240.2.2.2.2.2.1
theorem dL_law_248 : decode cL_law 248 = .ok (.goto 642, 3) := bdL_law_240.2.2.2.2.2.2.1
theorem dL_law_251 : decode cL_law 251 = .ok (.aload_n 1, 1) := bdL_law_240.2.2.2.2.2.2.2.1
theorem dL_law_252 : decode cL_law 252 = .ok (.aload_n 0, 1) := bdL_law_240.2.2.2.2.2.2.2.2.1
theorem dL_law_253 : decode cL_law 253 = .ok (.iload_n 3, 1) := bdL_law_240.2.2.2.2.2.2.2.2.2.1
theorem dL_law_254 : decode cL_law 254 = .ok (.iconst 1, 1) := bdL_law_240.2.2.2.2.2.2.2.2.2.2.1
theorem dL_law_255 : decode cL_law 255 = .ok (.iadd, 1) := bdL_law_240.2.2.2.2.2.2.2.2.2.2.2.1
theorem dL_law_256 : decode cL_law 256 = .ok (.iaload, 1) := bdL_law_240.2.2.2.2.2.2.2.2.2.2.2.2.1
theorem dL_law_257 : decode cL_law 257 = .ok (.aload_n 0, 1) := bdL_law_240.2.2.2.2.2.2.2.2.2.2.2.2.2.1
theorem dL_law_258 : decode cL_law 258 = .ok (.iload_n 3, 1) := bdL_law_240.2.2.2.2.2.2.2.2.2.2.2.2.2.2.1
theorem dL_law_259 : decode cL_law 259 = .ok (.iconst 2, 1) := bdL_law_240.2.2.2.2.2.2.2.2.2.2.2.2.2.2.2
theorem bdL_law_260 : (decode cL_law 260 = .ok (.iadd, 1)) ∧ (decode cL_law 261 = .ok (.iaload, 1)) ∧ (decode cL_law 262 = .ok (.invokevirtual 28, 3)) ∧ (decode cL_law 265 = .ok (.pop, 1)) ∧ (decode cL_law 266 = .ok (.aload_n 2, 1)) ∧ (decode cL_law 267 = .ok (.aload_n 0, 1)) ∧ (decode cL_law 268 = .ok (.iload_n 3, 1)) ∧ (decode cL_law 269 = .ok (.iconst 1, 1)) ∧ (decode cL_law 270 = .ok (.iadd, 1)) ∧ (decode cL_law 271 = .ok (.iaload, 1)) ∧ (decode cL_law 272 = .ok (.aload_n 0, 1)) ∧ (decode cL_law 273 = .ok (.iload_n 3, 1)) ∧ (decode cL_law 274 = .ok (.iconst 2, 1)) ∧ (decode cL_law 275 = .ok (.iadd, 1)) ∧ (decode cL_law 276 = .ok (.iaload, 1)) ∧ (decode cL_law 277 = .ok (.invokevirtual 31, 3)) := by decide +kernel
theorem dL_law_260 : decode cL_law 260 = .ok (.iadd, 1) := bdL_law_260.1
theorem dL_law_261 : decode cL_law 261 = .ok (.iaload, 1) := bdL_law_260.2.1
theorem dL_law_262 : decode cL_law 262 = .ok (.invokevirtual 28, 3) := bdL_law_260.2.2.1
theorem dL_law_265 : decode cL_law 265 = .ok (.pop, 1) := bdL_law_260.2.2.2.1
theorem dL_law_266 : decode cL_law 266 = .ok (.aload_n 2, 1) := bdL_law_260.2.2.2.2.1
theorem dL_law_267 : decode cL_law 267 = .ok (.aload_n 0, 1) := bdL_law_260.2.2.2.2.2.1
theorem dL_law_268 : decode cL_law 268 = .ok (.iload_n 3, 1) := bdL_law_260.2.2.2.2.2.2.1
theorem dL_law_269 : decode cL_law 269 = .ok (.iconst 1, 1) := bdL_law_260.2.2.2.2.2.2.2.1
theorem dL_law_270 : decode cL_law 270 = .ok (.iadd, 1) := bdL_law_260.2.2.2.2.2.2.2.2.1
theorem dL_law_271 : decode cL_law 271 = .ok (.iaload, 1) := bdL_law_260.2.2.2.2.2.2.2.2.2.1
theorem dL_law_272 : decode cL_law 272 = .ok (.aload_n 0, 1) := bdL_law_260.2.2.2.2.2.2.2.2.2.2.1
theorem dL_law_273 : decode cL_law 273 = .ok (.iload_n 3, 1) := bdL_law_260.2.2.2.2.2.2.2.2.2.2.2.1
theorem dL_law_274 : decode cL_law 274 = .ok (.iconst 2, 1) := bdL_law_260.2.2.2.2.2.2.2.2.2.2.2.2.1
theorem dL_law_275 : decode cL_law 275 = .ok (.iadd, 1) := bdL_law_260.2.2.2.2.2.2.2.2.2.2.2.2.2.1
theorem dL_law_276 : decode cL_law 276 = .ok (.iaload, 1) := bdL_law_260.2.2.2.2.2.2.2.2.2.2.2.2.2.2.1
theorem dL_law_277 : decode cL_law 277 = .ok (.invokevirtual 31, 3) := bdL_law_260.2.2.2.2.2.2.2.2.2.2.2.2.2.2.2
theorem bdL_law_280 : (decode cL_law 280 = .ok (.pop, 1)) ∧ (decode cL_law 281 = .ok (.goto 609, 3)) ∧ (decode cL_law 284 = .ok (.aload_n 1, 1)) ∧ (decode cL_law 285 = .ok (.invokevirtual 32, 3)) ∧ (decode cL_law 288 = .ok (.pop, 1)) ∧ (decode cL_law 289 = .ok (.aload_n 2, 1)) ∧ (decode cL_law 290 = .ok (.invokevirtual 36, 3)) ∧ (decode cL_law 293 = .ok (.pop, 1)) ∧ (decode cL_law 294 = .ok (.goto 596, 3)) ∧ (decode cL_law 297 = .ok (.aload_n 1, 1)) ∧ (decode cL_law 298 = .ok (.invokevirtual 37, 3)) ∧ (decode cL_law 301 = .ok (.pop, 1)) ∧ (decode cL_law 302 = .ok (.aload_n 2, 1)) ∧ (decode cL_law 303 = .ok (.invokevirtual 40, 3)) ∧ (decode cL_law 306 = .ok (.pop, 1)) ∧ (decode cL_law 307 = .ok (.goto 583, 3)) := by decide +kernel
theorem dL_law_280 : decode cL_law 280 = .ok (.pop, 1) := bdL_law_280.1
theorem dL_law_281 : decode cL_law 281 = .ok (.goto 609, 3) := bdL_law_280.2.1
theorem dL_law_284 : decode cL_law 284 = .ok (.aload_n 1, 1) := bdL_law_280.2.2.1
theorem dL_law_285 : decode cL_law 285 = .ok (.invokevirtual 32, 3) := bdL_law_280.2.2.2.1
theorem dL_law_288 : decode cL_law 288 = .ok (.pop, 1) := bdL_law_280.2.2.2.2.1
theorem dL_law_289 : decode cL_law 289 = .ok (.aload_n 2, 1) := bdL_law_280.2.2.2.2.2.1
theorem dL_law_290 : decode cL_law 290 = .ok (.invokevirtual 36, 3) := bdL_law_280.2.2.2.2.2.2.1
theorem dL_law_293 : decode cL_law 293 = .ok (.pop, 1) := bdL_law_280.2.2.2.2.2.2.2.1
theorem dL_law_294 : decode cL_law 294 = .ok (.goto 596, 3) := bdL_law_280.2.2.2.2.2.2.2.2.1
theorem dL_law_297 : decode cL_law 297 = .ok (.aload_n 1, 1) := bdL_law_280.2.2.2.2.2.2.2.2.2.1
theorem dL_law_298 : decode cL_law 298 = .ok (.invokevirtual 37, 3) := bdL_law_280.2.2.2.2.2.2.2.2.2.2.1
theorem dL_law_301 : decode cL_law 301 = .ok (.pop, 1) := bdL_law_280.2.2.2.2.2.2.2.2.2.2.2.1
theorem dL_law_302 : decode cL_law 302 = .ok (.aload_n 2, 1) := bdL_law_280.2.2.2.2.2.2.2.2.2.2.2.2.1
theorem dL_law_303 : decode cL_law 303 = .ok (.invokevirtual 40, 3) := bdL_law_280.2.2.2.2.2.2.2.2.2.2.2.2.2.1
theorem dL_law_306 : decode cL_law 306 = .ok (.pop, 1) := bdL_law_280.2.2.2.2.2.2.2.2.2.2.2.2.2.2.1
theorem dL_law_307 : decode cL_law 307 = .ok (.goto 583, 3) := bdL_law_280.2.2.2.2.2.2.2.2.2.2.2.2.2.2.2
theorem bdL_law_310 : (decode cL_law 310 = .ok (.aload_n 1, 1)) ∧ (decode cL_law 311 = .ok (.aload_n 0, 1)) ∧ (decode cL_law 312 = .ok (.iload_n 3, 1)) ∧ (decode cL_law 313 = .ok (.iconst 1, 1)) ∧ (decode cL_law 314 = .ok (.iadd, 1)) ∧ (decode cL_law 315 = .ok (.iaload, 1)) ∧ (decode cL_law 316 = .ok (.aload_n 0, 1)) ∧ (decode cL_law 317 = .ok (.iload_n 3, 1)) ∧ (decode cL_law 318 = .ok (.iconst 2, 1)) ∧ (decode cL_law 319 = .ok (.iadd, 1)) ∧ (decode cL_law 320 = .ok (.iaload, 1)) ∧ (decode cL_law 321 = .ok (.invokevirtual 41, 3)) ∧ (decode cL_law 324 = .ok (.pop, 1)) ∧ (decode cL_law 325 = .ok (.aload_n 2, 1)) ∧ (decode cL_law 326 = .ok (.aload_n 0, 1)) ∧ (decode cL_law 327 = .ok (.iload_n 3, 1)) := by decide +kernel
theorem dL_law_310 : decode cL_law 310 = .ok (.aload_n 1, 1) := bdL_law_310.1
theorem dL_law_311 : decode cL_law 311 = .ok (.aload_n 0, 1) := bdL_law_310.2.1
theorem dL_law_312 : decode cL_law 312 = .ok (.iload_n 3, 1) := bdL_law_310.2.2.1
theorem dL_law_313 : decode cL_law 313 = .ok (.iconst 1, 1) := bdL_law_310.2.2.2.1
theorem dL_law_314 : decode cL_law 314 = .ok (.iadd, 1) := bdL_law_310.2.2.2.2.1
theorem dL_law_315 : decode cL_law 315 = .ok (.iaload, 1) := bdL_law_310.2.2.2.2.2.1
theorem dL_law_316 : decode cL_law 316 = .ok (.aload_n 0, 1) := bdL_law_310.2.2.2.2.2.2.1
theorem dL_law_317 : decode cL_law 317 = .ok (.iload_n 3, 1) := bdL_law_310.2.2.2.2.2.2.2.1
theorem dL_law_318 : decode cL_law 318 = .ok (.iconst 2, 1) := bdL_law_310.2.2.2.2.2.2.2.2.1
theorem dL_law_319 : decode cL_law 319 = .ok (.iadd, 1) := bdL_law_310.2.2.2.2.2.2.2.2.2.1
theorem dL_law_320 : decode cL_law 320 = .ok (.iaload, 1) := bdL_law_310.2.2.2.2.2.2.2.2.2.2.1
theorem dL_law_321 : decode cL_law 321 = .ok (.invokevirtual 41, 3) := bdL_law_310.2.2.2.2.2.2.2.2.2.2.2.1
theorem dL_law_324 : decode cL_law 324 = .ok (.pop, 1) := bdL_law_310.2.2.2.2.2.2.2.2.2.2.2.2.1
theorem dL_law_325 : decode cL_law 325 = .ok (.aload_n 2, 1) := bdL_law_310.2.2.2.2.2.2.2.2.2.2.2.2.2.1
theorem dL_law_326 : decode cL_law 326 = .ok (.aload_n 0, 1) := bdL_law_310.2.2.2.2.2.2.2.2.2.2.2.2.2.2.1
theorem dL_law_327 : decode cL_law 327 = .ok (.iload_n 3, 1) := bdL_law_310.2.2.2.2.2.2.2.2.2.2.2.2.2.2.2
theorem bdL_law_328 : (decode cL_law 328 = .ok (.iconst 1, 1)) ∧ (decode cL_law 329 = .ok (.iadd, 1)) ∧ (decode cL_law 330 = .ok (.iaload, 1)) ∧ (decode cL_law 331 = .ok (.aload_n 0, 1)) ∧ (decode cL_law 332 = .ok (.iload_n 3, 1)) ∧ (decode cL_law 333 = .ok (.iconst 2, 1)) ∧ (decode cL_law 334 = .ok (.iadd, 1)) ∧ (decode cL_law 335 = .ok (.iaload, 1)) ∧ (decode cL_law 336 = .ok (.invokevirtual 44, 3)) ∧ (decode cL_law 339 = .ok (.pop, 1)) ∧ (decode cL_law 340 = .ok (.goto 550, 3)) ∧ (decode cL_law 343 = .ok (.aload_n 1, 1)) ∧ (decode cL_law 344 = .ok (.aload_n 0, 1)) ∧ (decode cL_law 345 = .ok (.iload_n 3, 1)) ∧ (decode cL_law 346 = .ok (.iconst 1, 1)) ∧ (decode cL_law 347 = .ok (.iadd, 1)) := by decide +kernel
theorem dL_law_328 : decode cL_law 328 = .ok (.iconst 1, 1) := bdL_law_328.1
theorem dL_law_329 : decode cL_law 329 = .ok (.iadd, 1) := bdL_law_328.2.1
theorem dL_law_330 : decode cL_law 330 = .ok (.iaload, 1) := bdL_law_328.2.2.1
theorem dL_law_331 : decode cL_law 331 = .ok (.aload_n 0, 1) := bdL_law_328.2.2.2.1
theorem dL_law_332 : decode cL_law 332 = .ok (.iload_n 3, 1) := bdL_law_328.2.2.2.2.1
theorem dL_law_333 : decode cL_law 333 = .ok (.iconst 2, 1) := bdL_law_328.2.2.2.2.2.1
theorem dL_law_334 : decode cL_law 334 = .ok (.iadd, 1) := bdL_law_328.2.2.2.2.2.2.1
theorem dL_law_335 : decode cL_law 335 = .ok (.iaload, 1) := bdL_law_328.2.2.2.2.2.2.2.1
theorem dL_law_336 : decode cL_law 336 = .ok (.invokevirtual 44, 3) := bdL_law_328.2.2.2.2.2.2.2.2.1
theorem dL_law_339 : decode cL_law 339 = .ok (.pop, 1) := bdL_law_328.2.2.2.2.2.2.2.2.2.1
theorem dL_law_340 : decode cL_law 340 = .ok (.goto 550, 3) := bdL_law_328.2.2.2.2.2.2.2.2.2.2.1
theorem dL_law_343 : decode cL_law 343 = .ok (.aload_n 1, 1) := bdL_law_328.2.2.2.2.2.2.2.2.2.2.2.1
theorem dL_law_344 : decode cL_law 344 = .ok (.aload_n 0, 1) := bdL_law_328.2.2.2.2.2.2.2.2.2.2.2.2.1
theorem dL_law_345 : decode cL_law 345 = .ok (.iload_n 3, 1) := bdL_law_328.2.2.2.2.2.2.2.2.2.2.2.2.2.1
theorem dL_law_346 : decode cL_law 346 = .ok (.iconst 1, 1) := bdL_law_328.2.2.2.2.2.2.2.2.2.2.2.2.2.2.1
theorem dL_law_347 : decode cL_law 347 = .ok (.iadd, 1) := bdL_law_328.2.2.2.2.2.2.2.2.2.2.2.2.2.2.2
theorem bdL_law_348 : (decode cL_law 348 = .ok (.iaload, 1)) ∧ (decode cL_law 349 = .ok (.i2l, 1)) ∧ (decode cL_law 350 = .ok (.bipush 32, 2)) ∧ (decode cL_law 352 = .ok (.lshl, 1)) ∧ (decode cL_law 353 = .ok (.aload_n 0, 1)) ∧ (decode cL_law 354 = .ok (.iload_n 3, 1)) ∧ (decode cL_law 355 = .ok (.iconst 2, 1)) ∧ (decode cL_law 356 = .ok (.iadd, 1)) ∧ (decode cL_law 357 = .ok (.iaload, 1)) ∧ (decode cL_law 358 = .ok (.i2l, 1)) ∧ (decode cL_law 359 = .ok (.ldc2_w 45, 3)) ∧ (decode cL_law 362 = .ok (.land, 1)) ∧ (decode cL_law 363 = .ok (.lor, 1)) ∧ (decode cL_law 364 = .ok (.aload_n 0, 1)) ∧ (decode cL_law 365 = .ok (.iload_n 3, 1)) ∧ (decode cL_law 366 = .ok (.iconst 3, 1)) := by decide +kernel
theorem dL_law_348 : decode cL_law 348 = .ok (.iaload, 1) := bdL_law_348.1
theorem dL_law_349 : decode cL_law 349 = .ok (.i2l, 1) := bdL_law_348.2.1
theorem dL_law_350 : decode cL_law 350 = .ok (.bipush 32, 2) := bdL_law_348.2.2.1
theorem dL_law_352 : decode cL_law 352 = .ok (.lshl, 1) := bdL_law_348.2.2.2.1
theorem dL_law_353 : decode cL_law 353 = .ok (.aload_n 0, 1) := bdL_law_348.2.2.2.2.1
theorem dL_law_354 : decode cL_law 354 = .ok (.iload_n 3, 1) := bdL_law_348.2.2.2.2.2.1
theorem dL_law_355 : decode cL_law 355 = .ok (.iconst 2, 1) := bdL_law_348.2.2.2.2.2.2.1
theorem dL_law_356 : decode cL_law 356 = .ok (.iadd, 1) := bdL_law_348.2.2.2.2.2.2.2.1
theorem dL_law_357 : decode cL_law 357 = .ok (.iaload, 1) := bdL_law_348.2.2.2.2.2.2.2.2.1
theorem dL_law_358 : decode cL_law 358 = .ok (.i2l, 1) := bdL_law_348.2.2.2.2.2.2.2.2.2.1
theorem dL_law_359 : decode cL_law 359 = .ok (.ldc2_w 45, 3) := bdL_law_348.2.2.2.2.2.2.2.2.2.2.1
theorem dL_law_362 : decode cL_law 362 = .ok (.land, 1) := bdL_law_348.2.2.2.2.2.2.2.2.2.2.2.1
theorem dL_law_363 : decode cL_law 363 = .ok (.lor, 1) := bdL_law_348.2.2.2.2.2.2.2.2.2.2.2.2.1
theorem dL_law_364 : decode cL_law 364 = .ok (.aload_n 0, 1) := bdL_law_348.2.2.2.2.2.2.2.2.2.2.2.2.2.1
theorem dL_law_365 : decode cL_law 365 = .ok (.iload_n 3, 1) := bdL_law_348.2.2.2.2.2.2.2.2.2.2.2.2.2.2.1
theorem dL_law_366 : decode cL_law 366 = .ok (.iconst 3, 1) := bdL_law_348.2.2.2.2.2.2.2.2.2.2.2.2.2.2.2
theorem bdL_law_367 : (decode cL_law 367 = .ok (.iadd, 1)) ∧ (decode cL_law 368 = .ok (.iaload, 1)) ∧ (decode cL_law 369 = .ok (.invokevirtual 47, 3)) ∧ (decode cL_law 372 = .ok (.pop, 1)) ∧ (decode cL_law 373 = .ok (.aload_n 2, 1)) ∧ (decode cL_law 374 = .ok (.aload_n 0, 1)) ∧ (decode cL_law 375 = .ok (.iload_n 3, 1)) ∧ (decode cL_law 376 = .ok (.iconst 1, 1)) ∧ (decode cL_law 377 = .ok (.iadd, 1)) ∧ (decode cL_law 378 = .ok (.iaload, 1)) ∧ (decode cL_law 379 = .ok (.i2l, 1)) ∧ (decode cL_law 380 = .ok (.bipush 32, 2)) ∧ (decode cL_law 382 = .ok (.lshl, 1)) ∧ (decode cL_law 383 = .ok (.aload_n 0, 1)) ∧ (decode cL_law 384 = .ok (.iload_n 3, 1)) ∧ (decode cL_law 385 = .ok (.iconst 2, 1)) := by decide +kernel
theorem dL_law_367 : decode cL_law 367 = .ok (.iadd, 1) := bdL_law_367.1
theorem dL_law_368 : decode cL_law 368 = .ok (.iaload, 1) := bdL_law_367.2.1
theorem dL_law_369 : decode cL_law 369 = .ok (.invokevirtual 47, 3) := bdL_law_367.2.2.1
theorem dL_law_372 : decode cL_law 372 = .ok (.pop, 1) := bdL_law_367.2.2.2.1
theorem dL_law_373 : decode cL_law 373 = .ok (.aload_n 2, 1) := bdL_law_367.2.2.2.2.1
theorem dL_law_374 : decode cL_law 374 = .ok (.aload_n 0, 1) := bdL_law_367.2.2.2.2.2.1
theorem dL_law_375 : decode cL_law 375 = .ok (.iload_n 3, 1) := bdL_law_367.2.2.2.2.2.2.1
theorem dL_law_376 : decode cL_law 376 = .ok (.iconst 1, 1) := bdL_law_367.2.2.2.2.2.2.2.1
theorem dL_law_377 : decode cL_law 377 = .ok (.iadd, 1) := bdL_law_367.2.2.2.2.2.2.2.2.1
theorem dL_law_378 : decode cL_law 378 = .ok (.iaload, 1) := bdL_law_367.2.2.2.2.2.2.2.2.2.1
theorem dL_law_379 : decode cL_law 379 = .ok (.i2l, 1) := bdL_law_367.2.2.2.2.2.2.2.2.2.2.1
theorem dL_law_380 : decode cL_law 380 = .ok (.bipush 32, 2) := bdL_law_367.2.2.2.2.2.2.2.2.2.2.2.1
theorem dL_law_382 : decode cL_law 382 = .ok (.lshl, 1) := bdL_law_367.2.2.2.2.2.2.2.2.2.2.2.2.1
theorem dL_law_383 : decode cL_law 383 = .ok (.aload_n 0, 1) := bdL_law_367.2.2.2.2.2.2.2.2.2.2.2.2.2.1
theorem dL_law_384 : decode cL_law 384 = .ok (.iload_n 3, 1) := bdL_law_367.2.2.2.2.2.2.2.2.2.2.2.2.2.2.1
theorem dL_law_385 : decode cL_law 385 = .ok (.iconst 2, 1) := bdL_law_367.2.2.2.2.2.2.2.2.2.2.2.2.2.2.2
theorem bdL_law_386 : (decode cL_law 386 = .ok (.iadd, 1)) ∧ (decode cL_law 387 = .ok (.iaload, 1)) ∧ (decode cL_law 388 = .ok (.i2l, 1)) ∧ (decode cL_law 389 = .ok (.ldc2_w 45, 3)) ∧ (decode cL_law 392 = .ok (.land, 1)) ∧ (decode cL_law 393 = .ok (.lor, 1)) ∧ (decode cL_law 394 = .ok (.aload_n 0, 1)) ∧ (decode cL_law 395 = .ok (.iload_n 3, 1)) ∧ (decode cL_law 396 = .ok (.iconst 3, 1)) ∧ (decode cL_law 397 = .ok (.iadd, 1)) ∧ (decode cL_law 398 = .ok (.iaload, 1)) ∧ (decode cL_law 399 = .ok (.invokevirtual 51, 3)) ∧ (decode cL_law 402 = .ok (.pop, 1)) ∧ (decode cL_law 403 = .ok (.goto 487, 3)) ∧ (decode cL_law 406 = .ok (.aload_n 1, 1)) ∧ (decode cL_law 407 = .ok (.invokevirtual 52, 3)) := by decide +kernel
theorem dL_law_386 : decode cL_law 386 = .ok (.iadd, 1) := bdL_law_386.1
theorem dL_law_387 : decode cL_law 387 = .ok (.iaload, 1) := bdL_law_386.2.1
theorem dL_law_388 : decode cL_law 388 = .ok (.i2l, 1) := bdL_law_386.2.2.1
theorem dL_law_389 : decode cL_law 389 = .ok (.ldc2_w 45, 3) := bdL_law_386.2.2.2.1
theorem dL_law_392 : decode cL_law 392 = .ok (.land, 1) := bdL_law_386.2.2.2.2.1
theorem dL_law_393 : decode cL_law 393 = .ok (.lor, 1) := bdL_law_386.2.2.2.2.2.1
theorem dL_law_394 : decode cL_law 394 = .ok (.aload_n 0, 1) := bdL_law_386.2.2.2.2.2.2.1
theorem dL_law_395 : decode cL_law 395 = .ok (.iload_n 3, 1) := bdL_law_386.2.2.2.2.2.2.2.1
theorem dL_law_396 : decode cL_law 396 = .ok (.iconst 3, 1) := bdL_law_386.2.2.2.2.2.2.2.2.1
theorem dL_law_397 : decode cL_law 397 = .ok (.iadd, 1) := bdL_law_386.2.2.2.2.2.2.2.2.2.1
theorem dL_law_398 : decode cL_law 398 = .ok (.iaload, 1) := bdL_law_386.2.2.2.2.2.2.2.2.2.2.1
theorem dL_law_399 : decode cL_law 399 = .ok (.invokevirtual 51, 3) := bdL_law_386.2.2.2.2.2.2.2.2.2.2.2.1
theorem dL_law_402 : decode cL_law 402 = .ok (.pop, 1) := bdL_law_386.2.2.2.2.2.2.2.2.2.2.2.2.1
theorem dL_law_403 : decode cL_law 403 = .ok (.goto 487, 3) := bdL_law_386.2.2.2.2.2.2.2.2.2.2.2.2.2.1
theorem dL_law_406 : decode cL_law 406 = .ok (.aload_n 1, 1) := bdL_law_386.2.2.2.2.2.2.2.2.2.2.2.2.2.2.1
theorem dL_law_407 : decode cL_law 407 = .ok (.invokevirtual 52, 3) := bdL_law_386.2.2.2.2.2.2.2.2.2.2.2.2.2.2.2
theorem bdL_law_410 : (decode cL_law 410 = .ok (.pop, 1)) ∧ (decode cL_law 411 = .ok (.aload_n 2, 1)) ∧ (decode cL_law 412 = .ok (.invokevirtual 55, 3)) ∧ (decode cL_law 415 = .ok (.pop, 1)) ∧ (decode cL_law 416 = .ok (.goto 474, 3)) ∧ (decode cL_law 419 = .ok (.aload_n 1, 1)) ∧ (decode cL_law 420 = .ok (.aload_n 0, 1)) ∧ (decode cL_law 421 = .ok (.iload_n 3, 1)) ∧ (decode cL_law 422 = .ok (.iconst 1, 1)) ∧ (decode cL_law 423 = .ok (.iadd, 1)) ∧ (decode cL_law 424 = .ok (.iaload, 1)) ∧ (decode cL_law 425 = .ok (.invokevirtual 56, 3)) ∧ (decode cL_law 428 = .ok (.pop, 1)) ∧ (decode cL_law 429 = .ok (.aload_n 2, 1)) ∧ (decode cL_law 430 = .ok (.aload_n 0, 1)) ∧ (decode cL_law 431 = .ok (.iload_n 3, 1)) := by decide +kernel
theorem dL_law_410 : decode cL_law 410 = .ok (.pop, 1) := bdL_law_410.1
theorem dL_law_411 : decode cL_law 411 = .ok (.aload_n 2, 1) := bdL_law_410.2.1
theorem dL_law_412 : decode cL_law 412 = .ok (.invokevirtual 55, 3) := bdL_law_410.2.2.1
theorem dL_law_415 : decode cL_law 415 = .ok (.pop, 1) := bdL_law_410.2.2.2.1
theorem dL_law_416 : decode cL_law 416 = .ok (.goto 474, 3) := bdL_law_410.2.2.2.2.1
theorem dL_law_419 : decode cL_law 419 = .ok (.aload_n 1, 1) := bdL_law_410.2.2.2.2.2.1
theorem dL_law_420 : decode cL_law 420 = .ok (.aload_n 0, 1) := bdL_law_410.2.2.2.2.2.2.1
theorem dL_law_421 : decode cL_law 421 = .ok (.iload_n 3, 1) := bdL_law_410.2.2.2.2.2.2.2.1
theorem dL_law_422 : decode cL_law 422 = .ok (.iconst 1, 1) := bdL_law_410.2.2.2.2.2.2.2.2.1
theorem dL_law_423 : decode cL_law 423 = .ok (.iadd, 1) := bdL_law_410.2.2.2.2.2.2.2.2.2.1
theorem dL_law_424 : decode cL_law 424 = .ok (.iaload, 1) := bdL_law_410.2.2.2.2.2.2.2.2.2.2.1
theorem dL_law_425 : decode cL_law 425 = .ok (.invokevirtual 56, 3) := bdL_law_410.2.2.2.2.2.2.2.2.2.2.2.1
theorem dL_law_428 : decode cL_law 428 = .ok (.pop, 1) := bdL_law_410.2.2.2.2.2.2.2.2.2.2.2.2.1
theorem dL_law_429 : decode cL_law 429 = .ok (.aload_n 2, 1) := bdL_law_410.2.2.2.2.2.2.2.2.2.2.2.2.2.1
theorem dL_law_430 : decode cL_law 430 = .ok (.aload_n 0, 1) := bdL_law_410.2.2.2.2.2.2.2.2.2.2.2.2.2.2.1
theorem dL_law_431 : decode cL_law 431 = .ok (.iload_n 3, 1) := bdL_law_410.2.2.2.2.2.2.2.2.2.2.2.2.2.2.2
theorem bdL_law_432 : (decode cL_law 432 = .ok (.iconst 1, 1)) ∧ (decode cL_law 433 = .ok (.iadd, 1)) ∧ (decode cL_law 434 = .ok (.iaload, 1)) ∧ (decode cL_law 435 = .ok (.invokevirtual 59, 3)) ∧ (decode cL_law 438 = .ok (.pop, 1)) ∧ (decode cL_law 439 = .ok (.goto 451, 3)) ∧ (decode cL_law 442 = .ok (.aload_n 1, 1)) ∧ (decode cL_law 443 = .ok (.aload_n 0, 1)) ∧ (decode cL_law 444 = .ok (.iload_n 3, 1)) ∧ (decode cL_law 445 = .ok (.iconst 1, 1)) ∧ (decode cL_law 446 = .ok (.iadd, 1)) ∧ (decode cL_law 447 = .ok (.iaload, 1)) ∧ (decode cL_law 448 = .ok (.invokevirtual 60, 3)) ∧ (decode cL_law 451 = .ok (.pop, 1)) ∧ (decode cL_law 452 = .ok (.aload_n 2, 1)) ∧ (decode cL_law 453 = .ok (.aload_n 0, 1)) := by decide +kernel
theorem dL_law_432 : decode cL_law 432 = .ok (.iconst 1, 1) := bdL_law_432.1
theorem dL_law_433 : decode cL_law 433 = .ok (.iadd, 1) := bdL_law_432.2.1
theorem dL_law_434 : decode cL_law 434 = .ok (.iaload, 1) := bdL_law_432.2.2.1
theorem dL_law_435 : decode cL_law 435 = .ok (.invokevirtual 59, 3) := bdL_law_432.2.2.2.1
theorem dL_law_438 : decode cL_law 438 = .ok (.pop, 1) := bdL_law_432.2.2.2.2.1
theorem dL_law_439 : decode cL_law 439 = .ok (.goto 451, 3) := bdL_law_432.2.2.2.2.2.1
theorem dL_law_442 : decode cL_law 442 = .ok (.aload_n 1, 1) := bdL_law_432.2.2.2.2.2.2.1
theorem dL_law_443 : decode cL_law 443 = .ok (.aload_n 0, 1) := bdL_law_432.2.2.2.2.2.2.2.1
theorem dL_law_444 : decode cL_law 444 = .ok (.iload_n 3, 1) := bdL_law_432.2.2.2.2.2.2.2.2.1
theorem dL_law_445 : decode cL_law 445 = .ok (.iconst 1, 1) := bdL_law_432.2.2.2.2.2.2.2.2.2.1
theorem dL_law_446 : decode cL_law 446 = .ok (.iadd, 1) := bdL_law_432.2.2.2.2.2.2.2.2.2.2.1
theorem dL_law_447 : decode cL_law 447 = .ok (.iaload, 1) := bdL_law_432.2.2.2.2.2.2.2.2.2.2.2.1
theorem dL_law_448 : decode cL_law 448 = .ok (.invokevirtual 60, 3) := bdL_law_432.2.2.2.2.2.2.2.2.2.2.2.2.1
theorem dL_law_451 : decode cL_law 451 = .ok (.pop, 1) := bdL_law_432.2.2.2.2.2.2.2.2.2.2.2.2.2.1
theorem dL_law_452 : decode cL_law 452 = .ok (.aload_n 2, 1) := bdL_law_432.2.2.2.2.2.2.2.2.2.2.2.2.2.2.1
theorem dL_law_453 : decode cL_law 453 = .ok (.aload_n 0, 1) := bdL_law_432.2.2.2.2.2.2.2.2.2.2.2.2.2.2.2
theorem bdL_law_454 : (decode cL_law 454 = .ok (.iload_n 3, 1)) ∧ (decode cL_law 455 = .ok (.iconst 1, 1)) ∧ (decode cL_law 456 = .ok (.iadd, 1)) ∧ (decode cL_law 457 = .ok (.iaload, 1)) ∧ (decode cL_law 458 = .ok (.invokevirtual 63, 3)) ∧ (decode cL_law 461 = .ok (.pop, 1)) ∧ (decode cL_law 462 = .ok (.goto 428, 3)) ∧ (decode cL_law 465 = .ok (.aload_n 1, 1)) ∧ (decode cL_law 466 = .ok (.aload_n 0, 1)) ∧ (decode cL_law 467 = .ok (.iload_n 3, 1)) ∧ (decode cL_law 468 = .ok (.iconst 1, 1)) ∧ (decode cL_law 469 = .ok (.iadd, 1)) ∧ (decode cL_law 470 = .ok (.iaload, 1)) ∧ (decode cL_law 471 = .ok (.aload_n 0, 1)) ∧ (decode cL_law 472 = .ok (.iload_n 3, 1)) ∧ (decode cL_law 473 = .ok (.iconst 2, 1)) := by decide +kernel
theorem dL_law_454 : decode cL_law 454 = .ok (.iload_n 3, 1) := bdL_law_454.1
theorem dL_law_455 : decode cL_law 455 = .ok (.iconst 1, 1) := bdL_law_454.2.1
theorem dL_law_456 : decode cL_law 456 = .ok (.iadd, 1) := bdL_law_454.2.2.1
theorem dL_law_457 : decode cL_law 457 = .ok (.iaload, 1) := bdL_law_454.2.2.2.1
theorem dL_law_458 : decode cL_law 458 = .ok (.invokevirtual 63, 3) := bdL_law_454.2.2.2.2.1
theorem dL_law_461 : decode cL_law 461 = .ok (.pop, 1) := bdL_law_454.2.2.2.2.2.1
theorem dL_law_462 : decode cL_law 462 = .ok (.goto 428, 3) := bdL_law_454.2.2.2.2.2.2.1
theorem dL_law_465 : decode cL_law 465 = .ok (.aload_n 1, 1) := bdL_law_454.2.2.2.2.2.2.2.1
theorem dL_law_466 : decode cL_law 466 = .ok (.aload_n 0, 1) := bdL_law_454.2.2.2.2.2.2.2.2.1
theorem dL_law_467 : decode cL_law 467 = .ok (.iload_n 3, 1) := bdL_law_454.2.2.2.2.2.2.2.2.2.1
theorem dL_law_468 : decode cL_law 468 = .ok (.iconst 1, 1) := bdL_law_454.2.2.2.2.2.2.2.2.2.2.1
theorem dL_law_469 : decode cL_law 469 = .ok (.iadd, 1) := bdL_law_454.2.2.2.2.2.2.2.2.2.2.2.1
theorem dL_law_470 : decode cL_law 470 = .ok (.iaload, 1) := bdL_law_454.2.2.2.2.2.2.2.2.2.2.2.2.1
theorem dL_law_471 : decode cL_law 471 = .ok (.aload_n 0, 1) := bdL_law_454.2.2.2.2.2.2.2.2.2.2.2.2.2.1
theorem dL_law_472 : decode cL_law 472 = .ok (.iload_n 3, 1) := bdL_law_454.2.2.2.2.2.2.2.2.2.2.2.2.2.2.1
theorem dL_law_473 : decode cL_law 473 = .ok (.iconst 2, 1) := bdL_law_454.2.2.2.2.2.2.2.2.2.2.2.2.2.2.2
theorem bdL_law_474 : (decode cL_law 474 = .ok (.iadd, 1)) ∧ (decode cL_law 475 = .ok (.iaload, 1)) ∧ (decode cL_law 476 = .ok (.invokevirtual 64, 3)) ∧ (decode cL_law 479 = .ok (.pop, 1)) ∧ (decode cL_law 480 = .ok (.aload_n 2, 1)) ∧ (decode cL_law 481 = .ok (.aload_n 0, 1)) ∧ (decode cL_law 482 = .ok (.iload_n 3, 1)) ∧ (decode cL_law 483 = .ok (.iconst 1, 1)) ∧ (decode cL_law 484 = .ok (.iadd, 1)) ∧ (decode cL_law 485 = .ok (.iaload, 1)) ∧ (decode cL_law 486 = .ok (.aload_n 0, 1)) ∧ (decode cL_law 487 = .ok (.iload_n 3, 1)) ∧ (decode cL_law 488 = .ok (.iconst 2, 1)) ∧ (decode cL_law 489 = .ok (.iadd, 1)) ∧ (decode cL_law 490 = .ok (.iaload, 1)) ∧ (decode cL_law 491 = .ok (.invokevirtual 67, 3)) := by decide +kernel
theorem dL_law_474 : decode cL_law 474 = .ok (.iadd, 1) := bdL_law_474.1
theorem dL_law_475 : decode cL_law 475 = .ok (.iaload, 1) := bdL_law_474.2.1
theorem dL_law_476 : decode cL_law 476 = .ok (.invokevirtual 64, 3) := bdL_law_474.2.2.1
theorem dL_law_479 : decode cL_law 479 = .ok (.pop, 1) := bdL_law_474.2.2.2.1
theorem dL_law_480 : decode cL_law 480 = .ok (.aload_n 2, 1) := bdL_law_474.2.2.2.2.1
theorem dL_law_481 : decode cL_law 481 = .ok (.aload_n 0, 1) := bdL_law_474.2.2.2.2.2.1
theorem dL_law_482 : decode cL_law 482 = .ok (.iload_n 3, 1) := bdL_law_474.2.2.2.2.2.2.1
theorem dL_law_483 : decode cL_law 483 = .ok (.iconst 1, 1) := bdL_law_474.2.2.2.2.2.2.2.1
theorem dL_law_484 : decode cL_law 484 = .ok (.iadd, 1) := bdL_law_474.2.2.2.2.2.2.2.2.1
theorem dL_law_485 : decode cL_law 485 = .ok (.iaload, 1) := bdL_law_474.2.2.2.2.2.2.2.2.2.1
theorem dL_law_486 : decode cL_law 486 = .ok (.aload_n 0, 1) := bdL_law_474.2.2.2.2.2.2.2.2.2.2.1
theorem dL_law_487 : decode cL_law 487 = .ok (.iload_n 3, 1) := bdL_law_474.2.2.2.2.2.2.2.2.2.2.2.1
theorem dL_law_488 : decode cL_law 488 = .ok (.iconst 2, 1) := bdL_law_474.2.2.2.2.2.2.2.2.2.2.2.2.1
theorem dL_law_489 : decode cL_law 489 = .ok (.iadd, 1) := bdL_law_474.2.2.2.2.2.2.2.2.2.2.2.2.2.1
theorem dL_law_490 : decode cL_law 490 = .ok (.iaload, 1) := bdL_law_474.2.2.2.2.2.2.2.2.2.2.2.2.2.2.1
theorem dL_law_491 : decode cL_law 491 = .ok (.invokevirtual 67, 3) := bdL_law_474.2.2.2.2.2.2.2.2.2.2.2.2.2.2.2
theorem bdL_law_494 : (decode cL_law 494 = .ok (.pop, 1)) ∧ (decode cL_law 495 = .ok (.goto 395, 3)) ∧ (decode cL_law 498 = .ok (.aload_n 1, 1)) ∧ (decode cL_law 499 = .ok (.aload_n 0, 1)) ∧ (decode cL_law 500 = .ok (.iload_n 3, 1)) ∧ (decode cL_law 501 = .ok (.iconst 1, 1)) ∧ (decode cL_law 502 = .ok (.iadd, 1)) ∧ (decode cL_law 503 = .ok (.iaload, 1)) ∧ (decode cL_law 504 = .ok (.aload_n 0, 1)) ∧ (decode cL_law 505 = .ok (.iload_n 3, 1)) ∧ (decode cL_law 506 = .ok (.iconst 2, 1)) ∧ (decode cL_law 507 = .ok (.iadd, 1)) ∧ (decode cL_law 508 = .ok (.iaload, 1)) ∧ (decode cL_law 509 = .ok (.invokevirtual 68, 3)) ∧ (decode cL_law 512 = .ok (.pop, 1)) ∧ (decode cL_law 513 = .ok (.aload_n 2, 1)) := by decide +kernel
theorem dL_law_494 : decode cL_law 494 = .ok (.pop, 1) := bdL_law_494.1
theorem dL_law_495 : decode cL_law 495 = .ok (.goto 395, 3) := bdL_law_494.2.1
theorem dL_law_498 : decode cL_law 498 = .ok (.aload_n 1, 1) := bdL_law_494.2.2.1
theorem dL_law_499 : decode cL_law 499 = .ok (.aload_n 0, 1) := bdL_law_494.2.2.2.1
theorem dL_law_500 : decode cL_law 500 = .ok (.iload_n 3, 1) := bdL_law_494.2.2.2.2.1
theorem dL_law_501 : decode cL_law 501 = .ok (.iconst 1, 1) := bdL_law_494.2.2.2.2.2.1
theorem dL_law_502 : decode cL_law 502 = .ok (.iadd, 1) := bdL_law_494.2.2.2.2.2.2.1
theorem dL_law_503 : decode cL_law 503 = .ok (.iaload, 1) := bdL_law_494.2.2.2.2.2.2.2.1
theorem dL_law_504 : decode cL_law 504 = .ok (.aload_n 0, 1) := bdL_law_494.2.2.2.2.2.2.2.2.1
theorem dL_law_505 : decode cL_law 505 = .ok (.iload_n 3, 1) := bdL_law_494.2.2.2.2.2.2.2.2.2.1
theorem dL_law_506 : decode cL_law 506 = .ok (.iconst 2, 1) := bdL_law_494.2.2.2.2.2.2.2.2.2.2.1
theorem dL_law_507 : decode cL_law 507 = .ok (.iadd, 1) := bdL_law_494.2.2.2.2.2.2.2.2.2.2.2.1
theorem dL_law_508 : decode cL_law 508 = .ok (.iaload, 1) := bdL_law_494.2.2.2.2.2.2.2.2.2.2.2.2.1
theorem dL_law_509 : decode cL_law 509 = .ok (.invokevirtual 68, 3) := bdL_law_494.2.2.2.2.2.2.2.2.2.2.2.2.2.1
theorem dL_law_512 : decode cL_law 512 = .ok (.pop, 1) := bdL_law_494.2.2.2.2.2.2.2.2.2.2.2.2.2.2.1
theorem dL_law_513 : decode cL_law 513 = .ok (.aload_n 2, 1) := bdL_law_494.2.2.2.2.2.2.2.2.2.2.2.2.2.2.2
theorem bdL_law_514 : (decode cL_law 514 = .ok (.aload_n 0, 1)) ∧ (decode cL_law 515 = .ok (.iload_n 3, 1)) ∧ (decode cL_law 516 = .ok (.iconst 1, 1)) ∧ (decode cL_law 517 = .ok (.iadd, 1)) ∧ (decode cL_law 518 = .ok (.iaload, 1)) ∧ (decode cL_law 519 = .ok (.aload_n 0, 1)) ∧ (decode cL_law 520 = .ok (.iload_n 3, 1)) ∧ (decode cL_law 521 = .ok (.iconst 2, 1)) ∧ (decode cL_law 522 = .ok (.iadd, 1)) ∧ (decode cL_law 523 = .ok (.iaload, 1)) ∧ (decode cL_law 524 = .ok (.invokevirtual 71, 3)) ∧ (decode cL_law 527 = .ok (.pop, 1)) ∧ (decode cL_law 528 = .ok (.goto 362, 3)) ∧ (decode cL_law 531 = .ok (.aload_n 1, 1)) ∧ (decode cL_law 532 = .ok (.aload_n 0, 1)) ∧ (decode cL_law 533 = .ok (.iload_n 3, 1)) := by decide +kernel
theorem dL_law_514 : decode cL_law 514 = .ok (.aload_n 0, 1) := bdL_law_514.1
theorem dL_law_515 : decode cL_law 515 = .ok (.iload_n 3, 1) := bdL_law_514.2.1
theorem dL_law_516 : decode cL_law 516 = .ok (.iconst 1, 1) := bdL_law_514.2.2.1
theorem dL_law_517 : decode cL_law 517 = .ok (.iadd, 1) := bdL_law_514.2.2.2.1
theorem dL_law_518 : decode cL_law 518 = .ok (.iaload, 1) := bdL_law_514.2.2.2.2.1
theorem dL_law_519 : decode cL_law 519 = .ok (.aload_n 0, 1) := bdL_law_514.2.2.2.2.2.1
theorem dL_law_520 : decode cL_law 520 = .ok (.iload_n 3, 1) := bdL_law_514.2.2.2.2.2.2.1
theorem dL_law_521 : decode cL_law 521 = .ok (.iconst 2, 1) := bdL_law_514.2.2.2.2.2.2.2.1
theorem dL_law_522 : decode cL_law 522 = .ok (.iadd, 1) := bdL_law_514.2.2.2.2.2.2.2.2.1
theorem dL_law_523 : decode cL_law 523 = .ok (.iaload, 1) := bdL_law_514.2.2.2.2.2.2.2.2.2.1
theorem dL_law_524 : decode cL_law 524 = .ok (.invokevirtual 71, 3) := bdL_law_514.2.2.2.2.2.2.2.2.2.2.1
theorem dL_law_527 : decode cL_law 527 = .ok (.pop, 1) := bdL_law_514.2.2.2.2.2.2.2.2.2.2.2.1
theorem dL_law_528 : decode cL_law 528 = .ok (.goto 362, 3) := bdL_law_514.2.2.2.2.2.2.2.2.2.2.2.2.1
theorem dL_law_531 : decode cL_law 531 = .ok (.aload_n 1, 1) := bdL_law_514.2.2.2.2.2.2.2.2.2.2.2.2.2.1
theorem dL_law_532 : decode cL_law 532 = .ok (.aload_n 0, 1) := bdL_law_514.2.2.2.2.2.2.2.2.2.2.2.2.2.2.1
theorem dL_law_533 : decode cL_law 533 = .ok (.iload_n 3, 1) := bdL_law_514.2.2.2.2.2.2.2.2.2.2.2.2.2.2.2
theorem bdL_law_534 : (decode cL_law 534 = .ok (.iconst 1, 1)) ∧ (decode cL_law 535 = .ok (.iadd, 1)) ∧ (decode cL_law 536 = .ok (.iaload, 1)) ∧ (decode cL_law 537 = .ok (.invokevirtual 72, 3)) ∧ (decode cL_law 540 = .ok (.pop2, 1)) ∧ (decode cL_law 541 = .ok (.aload_n 2, 1)) ∧ (decode cL_law 542 = .ok (.aload_n 0, 1)) ∧ (decode cL_law 543 = .ok (.iload_n 3, 1)) ∧ (decode cL_law 544 = .ok (.iconst 1, 1)) ∧ (decode cL_law 545 = .ok (.iadd, 1)) ∧ (decode cL_law 546 = .ok (.iaload, 1)) ∧ (decode cL_law 547 = .ok (.invokevirtual 76, 3)) ∧ (decode cL_law 550 = .ok (.pop2, 1)) ∧ (decode cL_law 551 = .ok (.goto 339, 3)) ∧ (decode cL_law 554 = .ok (.aload_n 1, 1)) ∧ (decode cL_law 555 = .ok (.invokevirtual 77, 3)) := by decide +kernel
theorem dL_law_534 : decode cL_law 534 = .ok (.iconst 1, 1) := bdL_law_534.1
theorem dL_law_535 : decode cL_law 535 = .ok (.iadd, 1) := bdL_law_534.2.1
theorem dL_law_536 : decode cL_law 536 = .ok (.iaload, 1) := bdL_law_534.2.2.1
theorem dL_law_537 : decode cL_law 537 = .ok (.invokevirtual 72, 3) := bdL_law_534.2.2.2.1
theorem dL_law_540 : decode cL_law 540 = .ok (.pop2, 1) := bdL_law_534.2.2.2.2.1
theorem dL_law_541 : decode cL_law 541 = .ok (.aload_n 2, 1) := bdL_law_534.2.2.2.2.2.1
theorem dL_law_542 : decode cL_law 542 = .ok (.aload_n 0, 1) := bdL_law_534.2.2.2.2.2.2.1
theorem dL_law_543 : decode cL_law 543 = .ok (.iload_n 3, 1) := bdL_law_534.2.2.2.2.2.2.2.1
theorem dL_law_544 : decode cL_law 544 = .ok (.iconst 1, 1) := bdL_law_534.2.2.2.2.2.2.2.2.1
theorem dL_law_545 : decode cL_law 545 = .ok (.iadd, 1) := bdL_law_534.2.2.2.2.2.2.2.2.2.1
theorem dL_law_546 : decode cL_law 546 = .ok (.iaload, 1) := bdL_law_534.2.2.2.2.2.2.2.2.2.2.1
theorem dL_law_547 : decode cL_law 547 = .ok (.invokevirtual 76, 3) := bdL_law_534.2.2.2.2.2.2.2.2.2.2.2.1
theorem dL_law_550 : decode cL_law 550 = .ok (.pop2, 1) := bdL_law_534.2.2.2.2.2.2.2.2.2.2.2.2.1
theorem dL_law_551 : decode cL_law 551 = .ok (.goto 339, 3) := bdL_law_534.2.2.2.2.2.2.2.2.2.2.2.2.2.1
theorem dL_law_554 : decode cL_law 554 = .ok (.aload_n 1, 1) := bdL_law_534.2.2.2.2.2.2.2.2.2.2.2.2.2.2.1
theorem dL_law_555 : decode cL_law 555 = .ok (.invokevirtual 77, 3) := bdL_law_534.2.2.2.2.2.2.2.2.2.2.2.2.2.2.2
theorem bdL_law_558 : (decode cL_law 558 = .ok (.pop, 1)) ∧ (decode cL_law 559 = .ok (.aload_n 2, 1)) ∧ (decode cL_law 560 = .ok (.invokevirtual 80, 3)) ∧ (decode cL_law 563 = .ok (.pop, 1)) ∧ (decode cL_law 564 = .ok (.goto 326, 3)) ∧ (decode cL_law 567 = .ok (.aload_n 1, 1)) ∧ (decode cL_law 568 = .ok (.aload_n 0, 1)) ∧ (decode cL_law 569 = .ok (.iload_n 3, 1)) ∧ (decode cL_law 570 = .ok (.iconst 1, 1)) ∧ (decode cL_law 571 = .ok (.iadd, 1)) ∧ (decode cL_law 572 = .ok (.iaload, 1)) ∧ (decode cL_law 573 = .ok (.aload_n 0, 1)) ∧ (decode cL_law 574 = .ok (.iload_n 3, 1)) ∧ (decode cL_law 575 = .ok (.iconst 2, 1)) ∧ (decode cL_law 576 = .ok (.iadd, 1)) ∧ (decode cL_law 577 = .ok (.iaload, 1)) := by decide +kernel
theorem dL_law_558 : decode cL_law 558 = .ok (.pop, 1) := bdL_law_558.1
theorem dL_law_559 : decode cL_law 559 = .ok (.aload_n 2, 1) := bdL_law_558.2.1
theorem dL_law_560 : decode cL_law 560 = .ok (.invokevirtual 80, 3) := bdL_law_558.2.2.1
theorem dL_law_563 : decode cL_law 563 = .ok (.pop, 1) := bdL_law_558.2.2.2.1
theorem dL_law_564 : decode cL_law 564 = .ok (.goto 326, 3) := bdL_law_558.2.2.2.2.1
theorem dL_law_567 : decode cL_law 567 = .ok (.aload_n 1, 1) := bdL_law_558.2.2.2.2.2.1
theorem dL_law_568 : decode cL_law 568 = .ok (.aload_n 0, 1) := bdL_law_558.2.2.2.2.2.2.1
theorem dL_law_569 : decode cL_law 569 = .ok (.iload_n 3, 1) := bdL_law_558.2.2.2.2.2.2.2.1
theorem dL_law_570 : decode cL_law 570 = .ok (.iconst 1, 1) := bdL_law_558.2.2.2.2.2.2.2.2.1
theorem dL_law_571 : decode cL_law 571 = .ok (.iadd, 1) := bdL_law_558.2.2.2.2.2.2.2.2.2.1
theorem dL_law_572 : decode cL_law 572 = .ok (.iaload, 1) := bdL_law_558.2.2.2.2.2.2.2.2.2.2.1
theorem dL_law_573 : decode cL_law 573 = .ok (.aload_n 0, 1) := bdL_law_558.2.2.2.2.2.2.2.2.2.2.2.1
theorem dL_law_574 : decode cL_law 574 = .ok (.iload_n 3, 1) := bdL_law_558.2.2.2.2.2.2.2.2.2.2.2.2.1
theorem dL_law_575 : decode cL_law 575 = .ok (.iconst 2, 1) := bdL_law_558.2.2.2.2.2.2.2.2.2.2.2.2.2.1
theorem dL_law_576 : decode cL_law 576 = .ok (.iadd, 1) := bdL_law_558.2.2.2.2.2.2.2.2.2.2.2.2.2.2.1
theorem dL_law_577 : decode cL_law 577 = .ok (.iaload, 1) := bdL_law_558.2.2.2.2.2.2.2.2.2.2.2.2.2.2.2
theorem bdL_law_578 : (decode cL_law 578 = .ok (.invokevirtual 81, 3)) ∧ (decode cL_law 581 = .ok (.pop2, 1)) ∧ (decode cL_law 582 = .ok (.aload_n 2, 1)) ∧ (decode cL_law 583 = .ok (.aload_n 0, 1)) ∧ (decode cL_law 584 = .ok (.iload_n 3, 1)) ∧ (decode cL_law 585 = .ok (.iconst 1, 1)) ∧ (decode cL_law 586 = .ok (.iadd, 1)) ∧ (decode cL_law 587 = .ok (.iaload, 1)) ∧ (decode cL_law 588 = .ok (.aload_n 0, 1)) ∧ (decode cL_law 589 = .ok (.iload_n 3, 1)) ∧ (decode cL_law 590 = .ok (.iconst 2, 1)) ∧ (decode cL_law 591 = .ok (.iadd, 1)) ∧ (decode cL_law 592 = .ok (.iaload, 1)) ∧ (decode cL_law 593 = .ok (.invokevirtual 85, 3)) ∧ (decode cL_law 596 = .ok (.pop2, 1)) ∧ (decode cL_law 597 = .ok (.goto 293, 3)) := by decide +kernel
theorem dL_law_578 : decode cL_law 578 = .ok (.invokevirtual 81, 3) := bdL_law_578.1
theorem dL_law_581 : decode cL_law 581 = .ok (.pop2, 1) := bdL_law_578.2.1
theorem dL_law_582 : decode cL_law 582 = .ok (.aload_n 2, 1) := bdL_law_578.2.2.1
theorem dL_law_583 : decode cL_law 583 = .ok (.aload_n 0, 1) := bdL_law_578.2.2.2.1
theorem dL_law_584 : decode cL_law 584 = .ok (.iload_n 3, 1) := bdL_law_578.2.2.2.2.1
theorem dL_law_585 : decode cL_law 585 = .ok (.iconst 1, 1) := bdL_law_578.2.2.2.2.2.1
theorem dL_law_586 : decode cL_law 586 = .ok (.iadd, 1) := bdL_law_578.2.2.2.2.2.2.1
theorem dL_law_587 : decode cL_law 587 = .ok (.iaload, 1) := bdL_law_578.2.2.2.2.2.2.2.1
theorem dL_law_588 : decode cL_law 588 = .ok (.aload_n 0, 1) := bdL_law_578.2.2.2.2.2.2.2.2.1
theorem dL_law_589 : decode cL_law 589 = .ok (.iload_n 3, 1) := bdL_law_578.2.2.2.2.2.2.2.2.2.1
theorem dL_law_590 : decode cL_law 590 = .ok (.iconst 2, 1) := bdL_law_578.2.2.2.2.2.2.2.2.2.2.1
theorem dL_law_591 : decode cL_law 591 = .ok (.iadd, 1) := bdL_law_578.2.2.2.2.2.2.2.2.2.2.2.1
theorem dL_law_592 : decode cL_law 592 = .ok (.iaload, 1) := bdL_law_578.2.2.2.2.2.2.2.2.2.2.2.2.1
theorem dL_law_593 : decode cL_law 593 = .ok (.invokevirtual 85, 3) := bdL_law_578.2.2.2.2.2.2.2.2.2.2.2.2.2.1
theorem dL_law_596 : decode cL_law 596 = .ok (.pop2, 1) := bdL_law_578.2.2.2.2.2.2.2.2.2.2.2.2.2.2.1
theorem dL_law_597 : decode cL_law 597 = .ok (.goto 293, 3) := bdL_law_578.2.2.2.2.2.2.2.2.2.2.2.2.2.2.2
theorem bdL_law_600 : (decode cL_law 600 = .ok (.aload_n 1, 1)) ∧ (decode cL_law 601 = .ok (.invokevirtual 86, 3)) ∧ (decode cL_law 604 = .ok (.pop, 1)) ∧ (decode cL_law 605 = .ok (.aload_n 2, 1)) ∧ (decode cL_law 606 = .ok (.invokevirtual 89, 3)) ∧ (decode cL_law 609 = .ok (.pop, 1)) ∧ (decode cL_law 610 = .ok (.goto 280, 3)) ∧ (decode cL_law 613 = .ok (.aload_n 1, 1)) ∧ (decode cL_law 614 = .ok (.aload_n 0, 1)) ∧ (decode cL_law 615 = .ok (.iload_n 3, 1)) ∧ (decode cL_law 616 = .ok (.iconst 1, 1)) ∧ (decode cL_law 617 = .ok (.iadd, 1)) ∧ (decode cL_law 618 = .ok (.iaload, 1)) ∧ (decode cL_law 619 = .ok (.invokevirtual 90, 3)) ∧ (decode cL_law 622 = .ok (.pop, 1)) ∧ (decode cL_law 623 = .ok (.aload_n 2, 1)) := by decide +kernel
theorem dL_law_600 : decode cL_law 600 = .ok (.aload_n 1, 1) := bdL_law_600.1
theorem dL_law_601 : decode cL_law 601 = .ok (.invokevirtual 86, 3) := bdL_law_600.2.1
theorem dL_law_604 : decode cL_law 604 = .ok (.pop, 1) := bdL_law_600.2.2.1
theorem dL_law_605 : decode cL_law 605 = .ok (.aload_n 2, 1) := bdL_law_600.2.2.2.1
theorem dL_law_606 : decode cL_law 606 = .ok (.invokevirtual 89, 3) := bdL_law_600.2.2.2.2.1
theorem dL_law_609 : decode cL_law 609 = .ok (.pop, 1) := bdL_law_600.2.2.2.2.2.1
theorem dL_law_610 : decode cL_law 610 = .ok (.goto 280, 3) := bdL_law_600.2.2.2.2.2.2.1
theorem dL_law_613 : decode cL_law 613 = .ok (.aload_n 1, 1) := bdL_law_600.2.2.2.2.2.2.2.1
theorem dL_law_614 : decode cL_law 614 = .ok (.aload_n 0, 1) := bdL_law_600.2.2.2.2.2.2.2.2.1
theorem dL_law_615 : decode cL_law 615 = .ok (.iload_n 3, 1) := bdL_law_600.2.2.2.2.2.2.2.2.2.1
theorem dL_law_616 : decode cL_law 616 = .ok (.iconst 1, 1) := bdL_law_600.2.2.2.2.2.2.2.2.2.2.1
theorem dL_law_617 : decode cL_law 617 = .ok (.iadd, 1) := bdL_law_600.2.2.2.2.2.2.2.2.2.2.2.1
theorem dL_law_618 : decode cL_law 618 = .ok (.iaload, 1) := bdL_law_600.2.2.2.2.2.2.2.2.2.2.2.2.1
theorem dL_law_619 : decode cL_law 619 = .ok (.invokevirtual 90, 3) := bdL_law_600.2.2.2.2.2.2.2.2.2.2.2.2.2.1
theorem dL_law_622 : decode cL_law 622 = .ok (.pop, 1) := bdL_law_600.2.2.2.2.2.2.2.2.2.2.2.2.2.2.1
theorem dL_law_623 : decode cL_law 623 = .ok (.aload_n 2, 1) := bdL_law_600.2.2.2.2.2.2.2.2.2.2.2.2.2.2.2
theorem bdL_law_624 : (decode cL_law 624 = .ok (.aload_n 0, 1)) ∧ (decode cL_law 625 = .ok (.iload_n 3, 1)) ∧ (decode cL_law 626 = .ok (.iconst 1, 1)) ∧ (decode cL_law 627 = .ok (.iadd, 1)) ∧ (decode cL_law 628 = .ok (.iaload, 1)) ∧ (decode cL_law 629 = .ok (.invokevirtual 93, 3)) ∧ (decode cL_law 632 = .ok (.pop, 1)) ∧ (decode cL_law 633 = .ok (.goto 257, 3)) ∧ (decode cL_law 636 = .ok (.aload_n 1, 1)) ∧ (decode cL_law 637 = .ok (.invokevirtual 94, 3)) ∧ (decode cL_law 640 = .ok (.pop, 1)) ∧ (decode cL_law 641 = .ok (.aload_n 2, 1)) ∧ (decode cL_law 642 = .ok (.invokevirtual 97, 3)) ∧ (decode cL_law 645 = .ok (.pop, 1)) ∧ (decode cL_law 646 = .ok (.goto 244, 3)) ∧ (decode cL_law 649 = .ok (.aload_n 1, 1)) := by decide +kernel
theorem dL_law_624 : decode cL_law 624 = .ok (.aload_n 0, 1) := bdL_law_624.1
theorem dL_law_625 : decode cL_law 625 = .ok (.iload_n 3, 1) := bdL_law_624.2.1
theorem dL_law_626 : decode cL_law 626 = .ok (.iconst 1, 1) := bdL_law_624.2.2.1
theorem dL_law_627 : decode cL_law 627 = .ok (.iadd, 1) := bdL_law_624.2.2.2.1
theorem dL_law_628 : decode cL_law 628 = .ok (.iaload, 1) := bdL_law_624.2.2.2.2.1
theorem dL_law_629 : decode cL_law 629 = .ok (.invokevirtual 93, 3) := bdL_law_624.2.2.2.2.2.1
theorem dL_law_632 : decode cL_law 632 = .ok (.pop, 1) := bdL_law_624.2.2.2.2.2.2.1
theorem dL_law_633 : decode cL_law 633 = .ok (.goto 257, 3) := bdL_law_624.2.2.2.2.2.2.2.1
theorem dL_law_636 : decode cL_law 636 = .ok (.aload_n 1, 1) := bdL_law_624.2.2.2.2.2.2.2.2.1
theorem dL_law_637 : decode cL_law 637 = .ok (.invokevirtual 94, 3) := bdL_law_624.2.2.2.2.2.2.2.2.2.1
theorem dL_law_640 : decode cL_law 640 = .ok (.pop, 1) := bdL_law_624.2.2.2.2.2.2.2.2.2.2.1
theorem dL_law_641 : decode cL_law 641 = .ok (.aload_n 2, 1) := bdL_law_624.2.2.2.2.2.2.2.2.2.2.2.1
theorem dL_law_642 : decode cL_law 642 = .ok (.invokevirtual 97, 3) := bdL_law_624.2.2.2.2.2.2.2.2.2.2.2.2.1
theorem dL_law_645 : decode cL_law 645 = .ok (.pop, 1) := bdL_law_624.2.2.2.2.2.2.2.2.2.2.2.2.2.1
theorem dL_law_646 : decode cL_law 646 = .ok (.goto 244, 3) := bdL_law_624.2.2.2.2.2.2.2.2.2.2.2.2.2.2.1
theorem dL_law_649 : decode cL_law 649 = .ok (.aload_n 1, 1) := bdL_law_624.2.2.2.2.2.2.2.2.2.2.2.2.2.2.2
theorem bdL_law_650 : (decode cL_law 650 = .ok (.aload_n 0, 1)) ∧ (decode cL_law 651 = .ok (.iload_n 3, 1)) ∧ (decode cL_law 652 = .ok (.iconst 1, 1)) ∧ (decode cL_law 653 = .ok (.iadd, 1)) ∧ (decode cL_law 654 = .ok (.iaload, 1)) ∧ (decode cL_law 655 = .ok (.aload_n 0, 1)) ∧ (decode cL_law 656 = .ok (.iload_n 3, 1)) ∧ (decode cL_law 657 = .ok (.iconst 2, 1)) ∧ (decode cL_law 658 = .ok (.iadd, 1)) ∧ (decode cL_law 659 = .ok (.iaload, 1)) ∧ (decode cL_law 660 = .ok (.aload_n 0, 1)) ∧ (decode cL_law 661 = .ok (.iload_n 3, 1)) ∧ (decode cL_law 662 = .ok (.iconst 3, 1)) ∧ (decode cL_law 663 = .ok (.iadd, 1)) ∧ (decode cL_law 664 = .ok (.iaload, 1)) ∧ (decode cL_law 665 = .ok (.invokevirtual 98, 3)) := by decide +kernel
theorem dL_law_650 : decode cL_law 650 = .ok (.aload_n 0, 1) := bdL_law_650.1
theorem dL_law_651 : decode cL_law 651 = .ok (.iload_n 3, 1) := bdL_law_650.2.1
theorem dL_law_652 : decode cL_law 652 = .ok (.iconst 1, 1) := bdL_law_650.2.2.1
theorem dL_law_653 : decode cL_law 653 = .ok (.iadd, 1) := bdL_law_650.2.2.2.1
theorem dL_law_654 : decode cL_law 654 = .ok (.iaload, 1) := bdL_law_650.2.2.2.2.1
theorem dL_law_655 : decode cL_law 655 = .ok (.aload_n 0, 1) := bdL_law_650.2.2.2.2.2.1
theorem dL_law_656 : decode cL_law 656 = .ok (.iload_n 3, 1) := bdL_law_650.2.2.2.2.2.2.1
theorem dL_law_657 : decode cL_law 657 = .ok (.iconst 2, 1) := bdL_law_650.2.2.2.2.2.2.2.1
theorem dL_law_658 : decode cL_law 658 = .ok (.iadd, 1) := bdL_law_650.2.2.2.2.2.2.2.2.1
theorem dL_law_659 : decode cL_law 659 = .ok (.iaload, 1) := bdL_law_650.2.2.2.2.2.2.2.2.2.1
theorem dL_law_660 : decode cL_law 660 = .ok (.aload_n 0, 1) := bdL_law_650.2.2.2.2.2.2.2.2.2.2.1
theorem dL_law_661 : decode cL_law 661 = .ok (.iload_n 3, 1) := bdL_law_650.2.2.2.2.2.2.2.2.2.2.2.1
theorem dL_law_662 : decode cL_law 662 = .ok (.iconst 3, 1) := bdL_law_650.2.2.2.2.2.2.2.2.2.2.2.2.1
theorem dL_law_663 : decode cL_law 663 = .ok (.iadd, 1) := bdL_law_650.2.2.2.2.2.2.2.2.2.2.2.2.2.1
theorem dL_law_664 : decode cL_law 664 = .ok (.iaload, 1) := bdL_law_650.2.2.2.2.2.2.2.2.2.2.2.2.2.2.1
theorem dL_law_665 : decode cL_law 665 = .ok (.invokevirtual 98, 3) := bdL_law_650.2.2.2.2.2.2.2.2.2.2.2.2.2.2.2
theorem bdL_law_668 : (decode cL_law 668 = .ok (.pop, 1)) ∧ (decode cL_law 669 = .ok (.aload_n 2, 1)) ∧ (decode cL_law 670 = .ok (.aload_n 0, 1)) ∧ (decode cL_law 671 = .ok (.iload_n 3, 1)) ∧ (decode cL_law 672 = .ok (.iconst 1, 1)) ∧ (decode cL_law 673 = .ok (.iadd, 1)) ∧ (decode cL_law 674 = .ok (.iaload, 1)) ∧ (decode cL_law 675 = .ok (.aload_n 0, 1)) ∧ (decode cL_law 676 = .ok (.iload_n 3, 1)) ∧ (decode cL_law 677 = .ok (.iconst 2, 1)) ∧ (decode cL_law 678 = .ok (.iadd, 1)) ∧ (decode cL_law 679 = .ok (.iaload, 1)) ∧ (decode cL_law 680 = .ok (.aload_n 0, 1)) ∧ (decode cL_law 681 = .ok (.iload_n 3, 1)) ∧ (decode cL_law 682 = .ok (.iconst 3, 1)) ∧ (decode cL_law 683 = .ok (.iadd, 1)) := by decide +kernel
theorem dL_law_668 : decode cL_law 668 = .ok (.pop, 1) := bdL_law_668.1
theorem dL_law_669 : decode cL_law 669 = .ok (.aload_n 2, 1) := bdL_law_668.2.1
theorem dL_law_670 : decode cL_law 670 = .ok (.aload_n 0, 1) := bdL_law_668.2.2.1
theorem dL_law_671 : decode cL_law 671 = .ok (.iload_n 3, 1) := bdL_law_668.2.2.2.1
theorem dL_law_672 : decode cL_law 672 = .ok (.iconst 1, 1) := bdL_law_668.2.2.2.2.1
theorem dL_law_673 : decode cL_law 673 = .ok (.iadd, 1) := bdL_law_668.2.2.2.2.2.1
theorem dL_law_674 : decode cL_law 674 = .ok (.iaload, 1) := bdL_law_668.2.2.2.2.2.2.1
theorem dL_law_675 : decode cL_law 675 = .ok (.aload_n 0, 1) := bdL_law_668.2.2.2.2.2.2.2.1
theorem dL_law_676 : decode cL_law 676 = .ok (.iload_n 3, 1) := bdL_law_668.2.2.2.2.2.2.2.2.1
theorem dL_law_677 : decode cL_law 677 = .ok (.iconst 2, 1) := bdL_law_668.2.2.2.2.2.2.2.2.2.1
theorem dL_law_678 : decode cL_law 678 = .ok (.iadd, 1) := bdL_law_668.2.2.2.2.2.2.2.2.2.2.1
theorem dL_law_679 : decode cL_law 679 = .ok (.iaload, 1) := bdL_law_668.2.2.2.2.2.2.2.2.2.2.2.1
theorem dL_law_680 : decode cL_law 680 = .ok (.aload_n 0, 1) := bdL_law_668.2.2.2.2.2.2.2.2.2.2.2.2.1
theorem dL_law_681 : decode cL_law 681 = .ok (.iload_n 3, 1) := bdL_law_668.2.2.2.2.2.2.2.2.2.2.2.2.2.1
theorem dL_law_682 : decode cL_law 682 = .ok (.iconst 3, 1) := bdL_law_668.2.2.2.2.2.2.2.2.2.2.2.2.2.2.1
theorem dL_law_683 : decode cL_law 683 = .ok (.iadd, 1) := bdL_law_668.2.2.2.2.2.2.2.2.2.2.2.2.2.2.2
theorem bdL_law_684 : (decode cL_law 684 = .ok (.iaload, 1)) ∧ (decode cL_law 685 = .ok (.invokevirtual 101, 3)) ∧ (decode cL_law 688 = .ok (.pop, 1)) ∧ (decode cL_law 689 = .ok (.goto 201, 3)) ∧ (decode cL_law 692 = .ok (.aload_n 1, 1)) ∧ (decode cL_law 693 = .ok (.invokevirtual 102, 3)) ∧ (decode cL_law 696 = .ok (.pop, 1)) ∧ (decode cL_law 697 = .ok (.aload_n 2, 1)) ∧ (decode cL_law 698 = .ok (.invokevirtual 105, 3)) ∧ (decode cL_law 701 = .ok (.pop, 1)) ∧ (decode cL_law 702 = .ok (.goto 188, 3)) ∧ (decode cL_law 705 = .ok (.aload_n 1, 1)) ∧ (decode cL_law 706 = .ok (.aload_n 0, 1)) ∧ (decode cL_law 707 = .ok (.iload_n 3, 1)) ∧ (decode cL_law 708 = .ok (.iconst 1, 1)) ∧ (decode cL_law 709 = .ok (.iadd, 1)) := by decide +kernel
theorem dL_law_684 : decode cL_law 684 = .ok (.iaload, 1) := bdL_law_684.1
theorem dL_law_685 : decode cL_law 685 = .ok (.invokevirtual 101, 3) := bdL_law_684.2.1
theorem dL_law_688 : decode cL_law 688 = .ok (.pop, 1) := bdL_law_684.2.2.1
theorem dL_law_689 : decode cL_law 689 = .ok (.goto 201, 3) := bdL_law_684.2.2.2.1
theorem dL_law_692 : decode cL_law 692 = .ok (.aload_n 1, 1) := bdL_law_684.2.2.2.2.1
theorem dL_law_693 : decode cL_law 693 = .ok (.invokevirtual 102, 3) := bdL_law_684.2.2.2.2.2.1
theorem dL_law_696 : decode cL_law 696 = .ok (.pop, 1) := bdL_law_684.2.2.2.2.2.2.1
theorem dL_law_697 : decode cL_law 697 = .ok (.aload_n 2, 1) := bdL_law_684.2.2.2.2.2.2.2.1
theorem dL_law_698 : decode cL_law 698 = .ok (.invokevirtual 105, 3) := bdL_law_684.2.2.2.2.2.2.2.2.1
theorem dL_law_701 : decode cL_law 701 = .ok (.pop, 1) := bdL_law_684.2.2.2.2.2.2.2.2.2.1
theorem dL_law_702 : decode cL_law 702 = .ok (.goto 188, 3) := bdL_law_684.2.2.2.2.2.2.2.2.2.2.1
theorem dL_law_705 : decode cL_law 705 = .ok (.aload_n 1, 1) := bdL_law_684.2.2.2.2.2.2.2.2.2.2.2.1
theorem dL_law_706 : decode cL_law 706 = .ok (.aload_n 0, 1) := bdL_law_684.2.2.2.2.2.2.2.2.2.2.2.2.1
theorem dL_law_707 : decode cL_law 707 = .ok (.iload_n 3, 1) := bdL_law_684.2.2.2.2.2.2.2.2.2.2.2.2.2.1
theorem dL_law_708 : decode cL_law 708 = .ok (.iconst 1, 1) := bdL_law_684.2.2.2.2.2.2.2.2.2.2.2.2.2.2.1
theorem dL_law_709 : decode cL_law 709 = .ok (.iadd, 1) := bdL_law_684.2.2.2.2.2.2.2.2.2.2.2.2.2.2.2
theorem bdL_law_710 : (decode cL_law 710 = .ok (.iaload, 1)) ∧ (decode cL_law 711 = .ok (.invokevirtual 106, 3)) ∧ (decode cL_law 714 = .ok (.pop, 1)) ∧ (decode cL_law 715 = .ok (.aload_n 2, 1)) ∧ (decode cL_law 716 = .ok (.aload_n 0, 1)) ∧ (decode cL_law 717 = .ok (.iload_n 3, 1)) ∧ (decode cL_law 718 = .ok (.iconst 1, 1)) ∧ (decode cL_law 719 = .ok (.iadd, 1)) ∧ (decode cL_law 720 = .ok (.iaload, 1)) ∧ (decode cL_law 721 = .ok (.invokevirtual 109, 3)) ∧ (decode cL_law 724 = .ok (.pop, 1)) ∧ (decode cL_law 725 = .ok (.goto 165, 3)) ∧ (decode cL_law 728 = .ok (.aload_n 1, 1)) ∧ (decode cL_law 729 = .ok (.aload_n 0, 1)) ∧ (decode cL_law 730 = .ok (.iload_n 3, 1)) ∧ (decode cL_law 731 = .ok (.iconst 1, 1)) := by decide +kernel
theorem dL_law_710 : decode cL_law 710 = .ok (.iaload, 1) := bdL_law_710.1
theorem dL_law_711 : decode cL_law 711 = .ok (.invokevirtual 106, 3) := bdL_law_710.2.1
theorem dL_law_714 : decode cL_law 714 = .ok (.pop, 1) := bdL_law_710.2.2.1
theorem dL_law_715 : decode cL_law 715 = .ok (.aload_n 2, 1) := bdL_law_710.2.2.2.1
theorem dL_law_716 : decode cL_law 716 = .ok (.aload_n 0, 1) := bdL_law_710.2.2.2.2.1
theorem dL_law_717 : decode cL_law 717 = .ok (.iload_n 3, 1) := bdL_law_710.2.2.2.2.2.1
theorem dL_law_718 : decode cL_law 718 = .ok (.iconst 1, 1) := bdL_law_710.2.2.2.2.2.2.1
theorem dL_law_719 : decode cL_law 719 = .ok (.iadd, 1) := bdL_law_710.2.2.2.2.2.2.2.1
theorem dL_law_720 : decode cL_law 720 = .ok (.iaload, 1) := bdL_law_710.2.2.2.2.2.2.2.2.1
theorem dL_law_721 : decode cL_law 721 = .ok (.invokevirtual 109, 3) := bdL_law_710.2.2.2.2.2.2.2.2.2.1
theorem dL_law_724 : decode cL_law 724 = .ok (.pop, 1) := bdL_law_710.2.2.2.2.2.2.2.2.2.2.1
theorem dL_law_725 : decode cL_law 725 = .ok (.goto 165, 3) := bdL_law_710.2.2.2.2.2.2.2.2.2.2.2.1
theorem dL_law_728 : decode cL_law 728 = .ok (.aload_n 1, 1) := bdL_law_710.2.2.2.2.2.2.2.2.2.2.2.2.1
theorem dL_law_729 : decode cL_law 729 = .ok (.aload_n 0, 1) := bdL_law_710.2.2.2.2.2.2.2.2.2.2.2.2.2.1
theorem dL_law_730 : decode cL_law 730 = .ok (.iload_n 3, 1) := bdL_law_710.2.2.2.2.2.2.2.2.2.2.2.2.2.2.1
theorem dL_law_731 : decode cL_law 731 = .ok (.iconst 1, 1) := bdL_law_710.2.2.2.2.2.2.2.2.2.2.2.2.2.2.2
theorem bdL_law_732 : (decode cL_law 732 = .ok (.iadd, 1)) ∧ (decode cL_law 733 = .ok (.iaload, 1)) ∧ (decode cL_law 734 = .ok (.aload_n 0, 1)) ∧ (decode cL_law 735 = .ok (.iload_n 3, 1)) ∧ (decode cL_law 736 = .ok (.iconst 2, 1)) ∧ (decode cL_law 737 = .ok (.iadd, 1)) ∧ (decode cL_law 738 = .ok (.iaload, 1)) ∧ (decode cL_law 739 = .ok (.aload_n 0, 1)) ∧ (decode cL_law 740 = .ok (.iload_n 3, 1)) ∧ (decode cL_law 741 = .ok (.iconst 3, 1)) ∧ (decode cL_law 742 = .ok (.iadd, 1)) ∧ (decode cL_law 743 = .ok (.iaload, 1)) ∧ (decode cL_law 744 = .ok (.invokevirtual 110, 3)) ∧ (decode cL_law 747 = .ok (.pop, 1)) ∧ (decode cL_law 748 = .ok (.aload_n 2, 1)) ∧ (decode cL_law 749 = .ok (.aload_n 0, 1)) := by decide +kernel
theorem dL_law_732 : decode cL_law 732 = .ok (.iadd, 1) := bdL_law_732.1
theorem dL_law_733 : decode cL_law 733 = .ok (.iaload, 1) := bdL_law_732.2.1
theorem dL_law_734 : decode cL_law 734 = .ok (.aload_n 0, 1) := bdL_law_732.2.2.1
theorem dL_law_735 : decode cL_law 735 = .ok (.iload_n 3, 1) := bdL_law_732.2.2.2.1
theorem dL_law_736 : decode cL_law 736 = .ok (.iconst 2, 1) := bdL_law_732.2.2.2.2.1
theorem dL_law_737 : decode cL_law 737 = .ok (.iadd, 1) := bdL_law_732.2.2.2.2.2.1
theorem dL_law_738 : decode cL_law 738 = .ok (.iaload, 1) := bdL_law_732.2.2.2.2.2.2.1
theorem dL_law_739 : decode cL_law 739 = .ok (.aload_n 0, 1) := bdL_law_732.2.2.2.2.2.2.2.1
theorem dL_law_740 : decode cL_law 740 = .ok (.iload_n 3, 1) := bdL_law_732.2.2.2.2.2.2.2.2.1
theorem dL_law_741 : decode cL_law 741 = .ok (.iconst 3, 1) := bdL_law_732.2.2.2.2.2.2.2.2.2.1
theorem dL_law_742 : decode cL_law 742 = .ok (.iadd, 1) := bdL_law_732.2.2.2.2.2.2.2.2.2.2.1
theorem dL_law_743 : decode cL_law 743 = .ok (.iaload, 1) := bdL_law_732.2.2.2.2.2.2.2.2.2.2.2.1
theorem dL_law_744 : decode cL_law 744 = .ok (.invokevirtual 110, 3) := bdL_law_732.2.2.2.2.2.2.2.2.2.2.2.2.1
theorem dL_law_747 : decode cL_law 747 = .ok (.pop, 1) := bdL_law_732.2.2.2.2.2.2.2.2.2.2.2.2.2.1
theorem dL_law_748 : decode cL_law 748 = .ok (.aload_n 2, 1) := bdL_law_732.2.2.2.2.2.2.2.2.2.2.2.2.2.2.1
theorem dL_law_749 : decode cL_law 749 = .ok (.aload_n 0, 1) := bdL_law_732.2.2.2.2.2.2.2.2.2.2.2.2.2.2.2
theorem bdL_law_750 : (decode cL_law 750 = .ok (.iload_n 3, 1)) ∧ (decode cL_law 751 = .ok (.iconst 1, 1)) ∧ (decode cL_law 752 = .ok (.iadd, 1)) ∧ (decode cL_law 753 = .ok (.iaload, 1)) ∧ (decode cL_law 754 = .ok (.aload_n 0, 1)) ∧ (decode cL_law 755 = .ok (.iload_n 3, 1)) ∧ (decode cL_law 756 = .ok (.iconst 2, 1)) ∧ (decode cL_law 757 = .ok (.iadd, 1)) ∧ (decode cL_law 758 = .ok (.iaload, 1)) ∧ (decode cL_law 759 = .ok (.aload_n 0, 1)) ∧ (decode cL_law 760 = .ok (.iload_n 3, 1)) ∧ (decode cL_law 761 = .ok (.iconst 3, 1)) ∧ (decode cL_law 762 = .ok (.iadd, 1)) ∧ (decode cL_law 763 = .ok (.iaload, 1)) ∧ (decode cL_law 764 = .ok (.invokevirtual 113, 3)) ∧ (decode cL_law 767 = .ok (.pop, 1)) := by decide +kernel
theorem dL_law_750 : decode cL_law 750 = .ok (.iload_n 3, 1) := bdL_law_750.1
theorem dL_law_751 : decode cL_law 751 = .ok (.iconst 1, 1) := bdL_law_750.2.1
theorem dL_law_752 : decode cL_law 752 = .ok (.iadd, 1) := bdL_law_750.2.2.1
theorem dL_law_753 : decode cL_law 753 = .ok (.iaload, 1) := bdL_law_750.2.2.2.1
theorem dL_law_754 : decode cL_law 754 = .ok (.aload_n 0, 1) := bdL_law_750.2.2.2.2.1
theorem dL_law_755 : decode cL_law 755 = .ok (.iload_n 3, 1) := bdL_law_750.2.2.2.2.2.1
theorem dL_law_756 : decode cL_law 756 = .ok (.iconst 2, 1) := bdL_law_750.2.2.2.2.2.2.1
theorem dL_law_757 : decode cL_law 757 = .ok (.iadd, 1) := bdL_law_750.2.2.2.2.2.2.2.1
theorem dL_law_758 : decode cL_law 758 = .ok (.iaload, 1) := bdL_law_750.2.2.2.2.2.2.2.2.1
theorem dL_law_759 : decode cL_law 759 = .ok (.aload_n 0, 1) := bdL_law_750.2.2.2.2.2.2.2.2.2.1
theorem dL_law_760 : decode cL_law 760 = .ok (.iload_n 3, 1) := bdL_law_750.2.2.2.2.2.2.2.2.2.2.1
theorem dL_law_761 : decode cL_law 761 = .ok (.iconst 3, 1) := bdL_law_750.2.2.2.2.2.2.2.2.2.2.2.1
theorem dL_law_762 : decode cL_law 762 = .ok (.iadd, 1) := bdL_law_750.2.2.2.2.2.2.2.2.2.2.2.2.1
theorem dL_law_763 : decode cL_law 763 = .ok (.iaload, 1) := bdL_law_750.2.2.2.2.2.2.2.2.2.2.2.2.2.1
theorem dL_law_764 : decode cL_law 764 = .ok (.invokevirtual 113, 3) := bdL_law_750.2.2.2.2.2.2.2.2.2.2.2.2.2.2.1
theorem dL_law_767 : decode cL_law 767 = .ok (.pop, 1) := bdL_law_750.2.2.2.2.2.2.2.2.2.2.2.2.2.2.2
theorem bdL_law_768 : (decode cL_law 768 = .ok (.goto 122, 3)) ∧ (decode cL_law 771 = .ok (.aload_n 1, 1)) ∧ (decode cL_law 772 = .ok (.aload_n 0, 1)) ∧ (decode cL_law 773 = .ok (.iload_n 3, 1)) ∧ (decode cL_law 774 = .ok (.iconst 1, 1)) ∧ (decode cL_law 775 = .ok (.iadd, 1)) ∧ (decode cL_law 776 = .ok (.iaload, 1)) ∧ (decode cL_law 777 = .ok (.invokevirtual 114, 3)) ∧ (decode cL_law 780 = .ok (.pop, 1)) ∧ (decode cL_law 781 = .ok (.aload_n 2, 1)) ∧ (decode cL_law 782 = .ok (.aload_n 0, 1)) ∧ (decode cL_law 783 = .ok (.iload_n 3, 1)) ∧ (decode cL_law 784 = .ok (.iconst 1, 1)) ∧ (decode cL_law 785 = .ok (.iadd, 1)) ∧ (decode cL_law 786 = .ok (.iaload, 1)) ∧ (decode cL_law 787 = .ok (.invokevirtual 117, 3)) := by decide +kernel
theorem dL_law_768 : decode cL_law 768 = .ok (.goto 122, 3) := bdL_law_768.1
theorem dL_law_771 : decode cL_law 771 = .ok (.aload_n 1, 1) := bdL_law_768.2.1
theorem dL_law_772 : decode cL_law 772 = .ok (.aload_n 0, 1) := bdL_law_768.2.2.1
theorem dL_law_773 : decode cL_law 773 = .ok (.iload_n 3, 1) := bdL_law_768.2.2.2.1
theorem dL_law_774 : decode cL_law 774 = .ok (.iconst 1, 1) := bdL_law_768.2.2.2.2.1
theorem dL_law_775 : decode cL_law 775 = .ok (.iadd, 1) := bdL_law_768.2.2.2.2.2.1
theorem dL_law_776 : decode cL_law 776 = .ok (.iaload, 1) := bdL_law_768.2.2.2.2.2.2.1
theorem dL_law_777 : decode cL_law 777 = .ok (.invokevirtual 114, 3) := bdL_law_768.2.2.2.2.2.2.2.1
theorem dL_law_780 : decode cL_law 780 = .ok (.pop, 1) := bdL_law_768.2.2.2.2.2.2.2.2.1
theorem dL_law_781 : decode cL_law 781 = .ok (.aload_n 2, 1) := bdL_law_768.2.2.2.2.2.2.2.2.2.1
theorem dL_law_782 : decode cL_law 782 = .ok (.aload_n 0, 1) := bdL_law_768.2.2.2.2.2.2.2.2.2.2.1
theorem dL_law_783 : decode cL_law 783 = .ok (.iload_n 3, 1) := bdL_law_768.2.2.2.2.2.2.2.2.2.2.2.1
theorem dL_law_784 : decode cL_law 784 = .ok (.iconst 1, 1) := bdL_law_768.2.2.2.2.2.2.2.2.2.2.2.2.1
theorem dL_law_785 : decode cL_law 785 = .ok (.iadd, 1) := bdL_law_768.2.2.2.2.2.2.2.2.2.2.2.2.2.1
theorem dL_law_786 : decode cL_law 786 = .ok (.iaload, 1) := bdL_law_768.2.2.2.2.2.2.2.2.2.2.2.2.2.2.1
theorem dL_law_787 : decode cL_law 787 = .ok (.invokevirtual 117, 3) := bdL_law_768.2.2.2.2.2.2.2.2.2.2.2.2.2.2.2
theorem bdL_law_790 : (decode cL_law 790 = .ok (.pop, 1)) ∧ (decode cL_law 791 = .ok (.goto 99, 3)) ∧ (decode cL_law 794 = .ok (.aload_n 1, 1)) ∧ (decode cL_law 795 = .ok (.aload_n 0, 1)) ∧ (decode cL_law 796 = .ok (.iload_n 3, 1)) ∧ (decode cL_law 797 = .ok (.iconst 1, 1)) ∧ (decode cL_law 798 = .ok (.iadd, 1)) ∧ (decode cL_law 799 = .ok (.iaload, 1)) ∧ (decode cL_law 800 = .ok (.aload_n 0, 1)) ∧ (decode cL_law 801 = .ok (.iload_n 3, 1)) ∧ (decode cL_law 802 = .ok (.iconst 2, 1)) ∧ (decode cL_law 803 = .ok (.iadd, 1)) ∧ (decode cL_law 804 = .ok (.iaload, 1)) ∧ (decode cL_law 805 = .ok (.aload_n 0, 1)) ∧ (decode cL_law 806 = .ok (.iload_n 3, 1)) ∧ (decode cL_law 807 = .ok (.iconst 3, 1)) := by decide +kernel
theorem dL_law_790 : decode cL_law 790 = .ok (.pop, 1) := bdL_law_790.1
theorem dL_law_791 : decode cL_law 791 = .ok (.goto 99, 3) := bdL_law_790.2.1
theorem dL_law_794 : decode cL_law 794 = .ok (.aload_n 1, 1) := bdL_law_790.2.2.1
theorem dL_law_795 : decode cL_law 795 = .ok (.aload_n 0, 1) := bdL_law_790.2.2.2.1
theorem dL_law_796 : decode cL_law 796 = .ok (.iload_n 3, 1) := bdL_law_790.2.2.2.2.1
theorem dL_law_797 : decode cL_law 797 = .ok (.iconst 1, 1) := bdL_law_790.2.2.2.2.2.1
theorem dL_law_798 : decode cL_law 798 = .ok (.iadd, 1) := bdL_law_790.2.2.2.2.2.2.1
theorem dL_law_799 : decode cL_law 799 = .ok (.iaload, 1) := bdL_law_790.2.2.2.2.2.2.2.1
theorem dL_law_800 : decode cL_law 800 = .ok (.aload_n 0, 1) := bdL_law_790.2.2.2.2.2.2.2.2.1
theorem dL_law_801 : decode cL_law 801 = .ok (.iload_n 3, 1) := bdL_law_790.2.2.2.2.2.2.2.2.2.1
theorem dL_law_802 : decode cL_law 802 = .ok (.iconst 2, 1) := bdL_law_790.2.2.2.2.2.2.2.2.2.2.1
theorem dL_law_803 : decode cL_law 803 = .ok (.iadd, 1) := bdL_law_790.2.2.2.2.2.2.2.2.2.2.2.1
theorem dL_law_804 : decode cL_law 804 = .ok (.iaload, 1) := bdL_law_790.2.2.2.2.2.2.2.2.2.2.2.2.1
theorem dL_law_805 : decode cL_law 805 = .ok (.aload_n 0, 1) := bdL_law_790.2.2.2.2.2.2.2.2.2.2.2.2.2.1
theorem dL_law_806 : decode cL_law 806 = .ok (.iload_n 3, 1) := bdL_law_790.2.2.2.2.2.2.2.2.2.2.2.2.2.2.1
theorem dL_law_807 : decode cL_law 807 = .ok (.iconst 3, 1) := bdL_law_790.2.2.2.2.2.2.2.2.2.2.2.2.2.2.2
theorem bdL_law_808 : (decode cL_law 808 = .ok (.iadd, 1)) ∧ (decode cL_law 809 = .ok (.iaload, 1)) ∧ (decode cL_law 810 = .ok (.aload_n 0, 1)) ∧ (decode cL_law 811 = .ok (.iload_n 3, 1)) ∧ (decode cL_law 812 = .ok (.iconst 4, 1)) ∧ (decode cL_law 813 = .ok (.iadd, 1)) ∧ (decode cL_law 814 = .ok (.iaload, 1)) ∧ (decode cL_law 815 = .ok (.invokevirtual 118, 3)) ∧ (decode cL_law 818 = .ok (.pop, 1)) ∧ (decode cL_law 819 = .ok (.aload_n 2, 1)) ∧ (decode cL_law 820 = .ok (.aload_n 0, 1)) ∧ (decode cL_law 821 = .ok (.iload_n 3, 1)) ∧ (decode cL_law 822 = .ok (.iconst 1, 1)) ∧ (decode cL_law 823 = .ok (.iadd, 1)) ∧ (decode cL_law 824 = .ok (.iaload, 1)) ∧ (decode cL_law 825 = .ok (.aload_n 0, 1)) := by decide +kernel
theorem dL_law_808 : decode cL_law 808 = .ok (.iadd, 1) := bdL_law_808.1
theorem dL_law_809 : decode cL_law 809 = .ok (.iaload, 1) := bdL_law_808.2.1
theorem dL_law_810 : decode cL_law 810 = .ok (.aload_n 0, 1) := bdL_law_808.2.2.1
theorem dL_law_811 : decode cL_law 811 = .ok (.iload_n 3, 1) := bdL_law_808.2.2.2.1
theorem dL_law_812 : decode cL_law 812 = .ok (.iconst 4, 1) := bdL_law_808.2.2.2.2.1
theorem dL_law_813 : decode cL_law 813 = .ok (.iadd, 1) := bdL_law_808.2.2.2.2.2.1
theorem dL_law_814 : decode cL_law 814 = .ok (.iaload, 1) := bdL_law_808.2.2.2.2.2.2.1
theorem dL_law_815 : decode cL_law 815 = .ok (.invokevirtual 118, 3) := bdL_law_808.2.2.2.2.2.2.2.1
theorem dL_law_818 : decode cL_law 818 = .ok (.pop, 1) := bdL_law_808.2.2.2.2.2.2.2.2.1
theorem dL_law_819 : decode cL_law 819 = .ok (.aload_n 2, 1) := bdL_law_808.2.2.2.2.2.2.2.2.2.1
theorem dL_law_820 : decode cL_law 820 = .ok (.aload_n 0, 1) := bdL_law_808.2.2.2.2.2.2.2.2.2.2.1
theorem dL_law_821 : decode cL_law 821 = .ok (.iload_n 3, 1) := bdL_law_808.2.2.2.2.2.2.2.2.2.2.2.1
theorem dL_law_822 : decode cL_law 822 = .ok (.iconst 1, 1) := bdL_law_808.2.2.2.2.2.2.2.2.2.2.2.2.1
theorem dL_law_823 : decode cL_law 823 = .ok (.iadd, 1) := bdL_law_808.2.2.2.2.2.2.2.2.2.2.2.2.2.1
theorem dL_law_824 : decode cL_law 824 = .ok (.iaload, 1) := bdL_law_808.2.2.2.2.2.2.2.2.2.2.2.2.2.2.1
theorem dL_law_825 : decode cL_law 825 = .ok (.aload_n 0, 1) := bdL_law_808.2.2.2.2.2.2.2.2.2.2.2.2.2.2.2
theorem bdL_law_826 : (decode cL_law 826 = .ok (.iload_n 3, 1)) ∧ (decode cL_law 827 = .ok (.iconst 2, 1)) ∧ (decode cL_law 828 = .ok (.iadd, 1)) ∧ (decode cL_law 829 = .ok (.iaload, 1)) ∧ (decode cL_law 830 = .ok (.aload_n 0, 1)) ∧ (decode cL_law 831 = .ok (.iload_n 3, 1)) ∧ (decode cL_law 832 = .ok (.iconst 3, 1)) ∧ (decode cL_law 833 = .ok (.iadd, 1)) ∧ (decode cL_law 834 = .ok (.iaload, 1)) ∧ (decode cL_law 835 = .ok (.aload_n 0, 1)) ∧ (decode cL_law 836 = .ok (.iload_n 3, 1)) ∧ (decode cL_law 837 = .ok (.iconst 4, 1)) ∧ (decode cL_law 838 = .ok (.iadd, 1)) ∧ (decode cL_law 839 = .ok (.iaload, 1)) ∧ (decode cL_law 840 = .ok (.invokevirtual 122, 3)) ∧ (decode cL_law 843 = .ok (.pop, 1)) := by decide +kernel
theorem dL_law_826 : decode cL_law 826 = .ok (.iload_n 3, 1) := bdL_law_826.1
theorem dL_law_827 : decode cL_law 827 = .ok (.iconst 2, 1) := bdL_law_826.2.1
theorem dL_law_828 : decode cL_law 828 = .ok (.iadd, 1) := bdL_law_826.2.2.1
theorem dL_law_829 : decode cL_law 829 = .ok (.iaload, 1) := bdL_law_826.2.2.2.1
theorem dL_law_830 : decode cL_law 830 = .ok (.aload_n 0, 1) := bdL_law_826.2.2.2.2.1
theorem dL_law_831 : decode cL_law 831 = .ok (.iload_n 3, 1) := bdL_law_826.2.2.2.2.2.1
theorem dL_law_832 : decode cL_law 832 = .ok (.iconst 3, 1) := bdL_law_826.2.2.2.2.2.2.1
theorem dL_law_833 : decode cL_law 833 = .ok (.iadd, 1) := bdL_law_826.2.2.2.2.2.2.2.1
theorem dL_law_834 : decode cL_law 834 = .ok (.iaload, 1) := bdL_law_826.2.2.2.2.2.2.2.2.1
theorem dL_law_835 : decode cL_law 835 = .ok (.aload_n 0, 1) := bdL_law_826.2.2.2.2.2.2.2.2.2.1
theorem dL_law_836 : decode cL_law 836 = .ok (.iload_n 3, 1) := bdL_law_826.2.2.2.2.2.2.2.2.2.2.1
theorem dL_law_837 : decode cL_law 837 = .ok (.iconst 4, 1) := bdL_law_826.2.2.2.2.2.2.2.2.2.2.2.1
theorem dL_law_838 : decode cL_law 838 = .ok (.iadd, 1) := bdL_law_826.2.2.2.2.2.2.2.2.2.2.2.2.1
theorem dL_law_839 : decode cL_law 839 = .ok (.iaload, 1) := bdL_law_826.2.2.2.2.2.2.2.2.2.2.2.2.2.1
theorem dL_law_840 : decode cL_law 840 = .ok (.invokevirtual 122, 3) := bdL_law_826.2.2.2.2.2.2.2.2.2.2.2.2.2.2.1
theorem dL_law_843 : decode cL_law 843 = .ok (.pop, 1) := bdL_law_826.2.2.2.2.2.2.2.2.2.2.2.2.2.2.2
theorem bdL_law_844 : (decode cL_law 844 = .ok (.goto 46, 3)) ∧ (decode cL_law 847 = .ok (.aload_n 1, 1)) ∧ (decode cL_law 848 = .ok (.aload_n 0, 1)) ∧ (decode cL_law 849 = .ok (.iload_n 3, 1)) ∧ (decode cL_law 850 = .ok (.iconst 1, 1)) ∧ (decode cL_law 851 = .ok (.iadd, 1)) ∧ (decode cL_law 852 = .ok (.iaload, 1)) ∧ (decode cL_law 853 = .ok (.aload_n 0, 1)) ∧ (decode cL_law 854 = .ok (.iload_n 3, 1)) ∧ (decode cL_law 855 = .ok (.iconst 2, 1)) ∧ (decode cL_law 856 = .ok (.iadd, 1)) ∧ (decode cL_law 857 = .ok (.iaload, 1)) ∧ (decode cL_law 858 = .ok (.aload_n 0, 1)) ∧ (decode cL_law 859 = .ok (.iload_n 3, 1)) ∧ (decode cL_law 860 = .ok (.iconst 3, 1)) ∧ (decode cL_law 861 = .ok (.iadd, 1)) := by decide +kernel
theorem dL_law_844 : decode cL_law 844 = .ok (.goto 46, 3) := bdL_law_844.1
theorem dL_law_847 : decode cL_law 847 = .ok (.aload_n 1, 1) := bdL_law_844.2.1
theorem dL_law_848 : decode cL_law 848 = .ok (.aload_n 0, 1) := bdL_law_844.2.2.1
theorem dL_law_849 : decode cL_law 849 = .ok (.iload_n 3, 1) := bdL_law_844.2.2.2.1
theorem dL_law_850 : decode cL_law 850 = .ok (.iconst 1, 1) := bdL_law_844.2.2.2.2.1
theorem dL_law_851 : decode cL_law 851 = .ok (.iadd, 1) := bdL_law_844.2.2.2.2.2.1
theorem dL_law_852 : decode cL_law 852 = .ok (.iaload, 1) := bdL_law_844.2.2.2.2.2.2.1
theorem dL_law_853 : decode cL_law 853 = .ok (.aload_n 0, 1) := bdL_law_844.2.2.2.2.2.2.2.1
theorem dL_law_854 : decode cL_law 854 = .ok (.iload_n 3, 1) := bdL_law_844.2.2.2.2.2.2.2.2.1
theorem dL_law_855 : decode cL_law 855 = .ok (.iconst 2, 1) := bdL_law_844.2.2.2.2.2.2.2.2.2.1
theorem dL_law_856 : decode cL_law 856 = .ok (.iadd, 1) := bdL_law_844.2.2.2.2.2.2.2.2.2.2.1
theorem dL_law_857 : decode cL_law 857 = .ok (.iaload, 1) := bdL_law_844.2.2.2.2.2.2.2.2.2.2.2.1
theorem dL_law_858 : decode cL_law 858 = .ok (.aload_n 0, 1) := bdL_law_844.2.2.2.2.2.2.2.2.2.2.2.2.1
theorem dL_law_859 : decode cL_law 859 = .ok (.iload_n 3, 1) := bdL_law_844.2.2.2.2.2.2.2.2.2.2.2.2.2.1
theorem dL_law_860 : decode cL_law 860 = .ok (.iconst 3, 1) := bdL_law_844.2.2.2.2.2.2.2.2.2.2.2.2.2.2.1
theorem dL_law_861 : decode cL_law 861 = .ok (.iadd, 1) := bdL_law_844.2.2.2.2.2.2.2.2.2.2.2.2.2.2.2
theorem bdL_law_862 : (decode cL_law 862 = .ok (.iaload, 1)) ∧ (decode cL_law 863 = .ok (.invokevirtual 123, 3)) ∧ (decode cL_law 866 = .ok (.aload_n 2, 1)) ∧ (decode cL_law 867 = .ok (.aload_n 0, 1)) ∧ (decode cL_law 868 = .ok (.iload_n 3, 1)) ∧ (decode cL_law 869 = .ok (.iconst 1, 1)) ∧ (decode cL_law 870 = .ok (.iadd, 1)) ∧ (decode cL_law 871 = .ok (.iaload, 1)) ∧ (decode cL_law 872 = .ok (.aload_n 0, 1)) ∧ (decode cL_law 873 = .ok (.iload_n 3, 1)) ∧ (decode cL_law 874 = .ok (.iconst 2, 1)) ∧ (decode cL_law 875 = .ok (.iadd, 1)) ∧ (decode cL_law 876 = .ok (.iaload, 1)) ∧ (decode cL_law 877 = .ok (.aload_n 0, 1)) ∧ (decode cL_law 878 = .ok (.iload_n 3, 1)) ∧ (decode cL_law 879 = .ok (.iconst 3, 1)) := by decide +kernel
theorem dL_law_862 : decode cL_law 862 = .ok (.iaload, 1) := bdL_law_862.1
theorem dL_law_863 : decode cL_law 863 = .ok (.invokevirtual 123, 3) := bdL_law_862.2.1
theorem dL_law_866 : decode cL_law 866 = .ok (.aload_n 2, 1) := bdL_law_862.2.2.1
theorem dL_law_867 : decode cL_law 867 = .ok (.aload_n 0, 1) := bdL_law_862.2.2.2.1
theorem dL_law_868 : decode cL_law 868 = .ok (.iload_n 3, 1) := bdL_law_862.2.2.2.2.1
theorem dL_law_869 : decode cL_law 869 = .ok (.iconst 1, 1) := bdL_law_862.2.2.2.2.2.1
theorem dL_law_870 : decode cL_law 870 = .ok (.iadd, 1) := bdL_law_862.2.2.2.2.2.2.1
theorem dL_law_871 : decode cL_law 871 = .ok (.iaload, 1) := bdL_law_862.2.2.2.2.2.2.2.1
theorem dL_law_872 : decode cL_law 872 = .ok (.aload_n 0, 1) := bdL_law_862.2.2.2.2.2.2.2.2.1
theorem dL_law_873 : decode cL_law 873 = .ok (.iload_n 3, 1) := bdL_law_862.2.2.2.2.2.2.2.2.2.1
theorem dL_law_874 : decode cL_law 874 = .ok (.iconst 2, 1) := bdL_law_862.2.2.2.2.2.2.2.2.2.2.1
theorem dL_law_875 : decode cL_law 875 = .ok (.iadd, 1) := bdL_law_862.2.2.2.2.2.2.2.2.2.2.2.1
theorem dL_law_876 : decode cL_law 876 = .ok (.iaload, 1) := bdL_law_862.2.2.2.2.2.2.2.2.2.2.2.2.1
theorem dL_law_877 : decode cL_law 877 = .ok (.aload_n 0, 1) := bdL_law_862.2.2.2.2.2.2.2.2.2.2.2.2.2.1
theorem dL_law_878 : decode cL_law 878 = .ok (.iload_n 3, 1) := bdL_law_862.2.2.2.2.2.2.2.2.2.2.2.2.2.2.1
theorem dL_law_879 : decode cL_law 879 = .ok (.iconst 3, 1) := bdL_law_862.2.2.2.2.2.2.2.2.2.2.2.2.2.2.2
theorem bdL_law_880 : (decode cL_law 880 = .ok (.iadd, 1)) ∧ (decode cL_law 881 = .ok (.iaload, 1)) ∧ (decode cL_law 882 = .ok (.invokevirtual 126, 3)) ∧ (decode cL_law 885 = .ok (.if_icmp .eq 5, 3)) ∧ (decode cL_law 888 = .ok (.iconst 0, 1)) ∧ (decode cL_law 889 = .ok (.ireturn, 1)) ∧ (decode cL_law 890 = .ok (.iinc 3 5, 3)) ∧ (decode cL_law 893 = .ok (.goto (-875), 3)) ∧ (decode cL_law 896 = .ok (.iconst 1, 1)) ∧ (decode cL_law 897 = .ok (.ireturn, 1)) := by decide +kernel
theorem dL_law_880 : decode cL_law 880 = .ok (.iadd, 1) := bdL_law_880.1
theorem dL_law_881 : decode cL_law 881 = .ok (.iaload, 1) := bdL_law_880.2.1
theorem dL_law_882 : decode cL_law 882 = .ok (.invokevirtual 126, 3) := bdL_law_880.2.2.1
theorem dL_law_885 : decode cL_law 885 = .ok (.if_icmp .eq 5, 3) := bdL_law_880.2.2.2.1
theorem dL_law_888 : decode cL_law 888 = .ok (.iconst 0, 1) := bdL_law_880.2.2.2.2.1
theorem dL_law_889 : decode cL_law 889 = .ok (.ireturn, 1) := bdL_law_880.2.2.2.2.2.1
theorem dL_law_890 : decode cL_law 890 = .ok (.iinc 3 5, 3) := bdL_law_880.2.2.2.2.2.2.1
theorem dL_law_893 : decode cL_law 893 = .ok (.goto (-875), 3) := bdL_law_880.2.2.2.2.2.2.2.1
theorem dL_law_896 : decode cL_law 896 = .ok (.iconst 1, 1) := bdL_law_880.2.2.2.2.2.2.2.2.1
theorem dL_law_897 : decode cL_law 897 = .ok (.ireturn, 1) := bdL_law_880.2.2.2.2.2.2.2.2.2
