theorem lr_d_L_0 : decode code 0 = .ok (.new 7, 3) := by decide +kernel
theorem lr_d_L_3 : decode code 3 = .ok (.dup, 1) := by decide +kernel
theorem lr_d_L_4 : decode code 4 = .ok (.invokespecial 9, 3) := by decide +kernel
theorem lr_d_L_7 : decode code 7 = .ok (.astore_n 1, 1) := by decide +kernel
theorem lr_d_L_8 : decode code 8 = .ok (.new 10, 3) := by decide +kernel
theorem lr_d_L_11 : decode code 11 = .ok (.dup, 1) := by decide +kernel
theorem lr_d_L_12 : decode code 12 = .ok (.invokespecial 12, 3) := by decide +kernel
theorem lr_d_L_15 : decode code 15 = .ok (.astore_n 2, 1) := by decide +kernel
theorem lr_d_L_16 : decode code 16 = .ok (.iconst 0, 1) := by decide +kernel
theorem lr_d_L_17 : decode code 17 = .ok (.istore_n 3, 1) := by decide +kernel
theorem lr_d_L_18 : decode code 18 = .ok (.iload_n 3, 1) := by decide +kernel
theorem lr_d_L_19 : decode code 19 = .ok (.aload_n 0, 1) := by decide +kernel
theorem lr_d_L_20 : decode code 20 = .ok (.arraylength, 1) := by decide +kernel
theorem lr_d_L_21 : decode code 21 = .ok (.iconst 5, 1) := by decide +kernel
theorem lr_d_L_22 : decode code 22 = .ok (.isub, 1) := by decide +kernel
theorem lr_d_L_23 : decode code 23 = .ok (.if_icmp .gt 734, 3) := by decide +kernel
theorem lr_d_L_26 : decode code 26 = .ok (.aload_n 0, 1) := by decide +kernel
theorem lr_d_L_27 : decode code 27 = .ok (.iload_n 3, 1) := by decide +kernel
theorem lr_d_L_28 : decode code 28 = .ok (.iaload, 1) := by decide +kernel
theorem lr_d_L_29 : decode code 29 = .ok (.bipush 31, 2) := by decide +kernel
theorem lr_d_L_31 : decode code 31 = .ok (.iand, 1) := by decide +kernel
theorem lr_d_L_32 : decode code 32 = .ok (.tableswitch 719 0 18 #[92, 125, 178, 231, 264, 317, 360, 383, 406, 429, 452, 475, 498, 511, 544, 577, 620, 663, 686], 92) := by decide +kernel
theorem lr_d_L_124 : decode code 124 = .ok (.aload_n 1, 1) := by decide +kernel
theorem lr_d_L_125 : decode code 125 = .ok (.aload_n 0, 1) := by decide +kernel
theorem lr_d_L_126 : decode code 126 = .ok (.iload_n 3, 1) := by decide +kernel
theorem lr_d_L_127 : decode code 127 = .ok (.iconst 1, 1) := by decide +kernel
theorem lr_d_L_128 : decode code 128 = .ok (.iadd, 1) := by decide +kernel
theorem lr_d_L_129 : decode code 129 = .ok (.iaload, 1) := by decide +kernel
theorem lr_d_L_130 : decode code 130 = .ok (.aload_n 0, 1) := by decide +kernel
theorem lr_d_L_131 : decode code 131 = .ok (.iload_n 3, 1) := by decide +kernel
theorem lr_d_L_132 : decode code 132 = .ok (.iconst 2, 1) := by decide +kernel
theorem lr_d_L_133 : decode code 133 = .ok (.iadd, 1) := by decide +kernel
theorem lr_d_L_134 : decode code 134 = .ok (.iaload, 1) := by decide +kernel
theorem lr_d_L_135 : decode code 135 = .ok (.invokevirtual 13, 3) := by decide +kernel
theorem lr_d_L_138 : decode code 138 = .ok (.aload_n 2, 1) := by decide +kernel
theorem lr_d_L_139 : decode code 139 = .ok (.aload_n 0, 1) := by decide +kernel
theorem lr_d_L_140 : decode code 140 = .ok (.iload_n 3, 1) := by decide +kernel
theorem lr_d_L_141 : decode code 141 = .ok (.iconst 1, 1) := by decide +kernel
theorem lr_d_L_142 : decode code 142 = .ok (.iadd, 1) := by decide +kernel
theorem lr_d_L_143 : decode code 143 = .ok (.iaload, 1) := by decide +kernel
theorem lr_d_L_144 : decode code 144 = .ok (.aload_n 0, 1) := by decide +kernel
theorem lr_d_L_145 : decode code 145 = .ok (.iload_n 3, 1) := by decide +kernel
theorem lr_d_L_146 : decode code 146 = .ok (.iconst 2, 1) := by decide +kernel
theorem lr_d_L_147 : decode code 147 = .ok (.iadd, 1) := by decide +kernel
theorem lr_d_L_148 : decode code 148 = .ok (.iaload, 1) := by decide +kernel
theorem lr_d_L_149 : decode code 149 = .ok (.invokevirtual 17, 3) := by decide +kernel
theorem lr_d_L_152 : decode code 152 = .ok (.if_icmp .eq 599, 3) := by decide +kernel
theorem lr_d_L_155 : decode code 155 = .ok (.iconst 0, 1) := by decide +kernel
theorem lr_d_L_156 : decode code 156 = .ok (.ireturn, 1) := by decide +kernel
theorem lr_d_L_157 : decode code 157 = .ok (.aload_n 1, 1) := by decide +kernel
theorem lr_d_L_158 : decode code 158 = .ok (.aload_n 0, 1) := by decide +kernel
theorem lr_d_L_159 : decode code 159 = .ok (.iload_n 3, 1) := by decide +kernel
theorem lr_d_L_160 : decode code 160 = .ok (.iconst 1, 1) := by decide +kernel
theorem lr_d_L_161 : decode code 161 = .ok (.iadd, 1) := by decide +kernel
theorem lr_d_L_162 : decode code 162 = .ok (.iaload, 1) := by decide +kernel
theorem lr_d_L_163 : decode code 163 = .ok (.aload_n 0, 1) := by decide +kernel
theorem lr_d_L_164 : decode code 164 = .ok (.iload_n 3, 1) := by decide +kernel
theorem lr_d_L_165 : decode code 165 = .ok (.iconst 2, 1) := by decide +kernel
theorem lr_d_L_166 : decode code 166 = .ok (.iadd, 1) := by decide +kernel
theorem lr_d_L_167 : decode code 167 = .ok (.iaload, 1) := by decide +kernel
theorem lr_d_L_168 : decode code 168 = .ok (.aload_n 0, 1) := by decide +kernel
theorem lr_d_L_169 : decode code 169 = .ok (.iload_n 3, 1) := by decide +kernel
theorem lr_d_L_170 : decode code 170 = .ok (.iconst 3, 1) := by decide +kernel
theorem lr_d_L_171 : decode code 171 = .ok (.iadd, 1) := by decide +kernel
theorem lr_d_L_172 : decode code 172 = .ok (.iaload, 1) := by decide +kernel
theorem lr_d_L_173 : decode code 173 = .ok (.aload_n 0, 1) := by decide +kernel
theorem lr_d_L_174 : decode code 174 = .ok (.iload_n 3, 1) := by decide +kernel
theorem lr_d_L_175 : decode code 175 = .ok (.iconst 4, 1) := by decide +kernel
theorem lr_d_L_176 : decode code 176 = .ok (.iadd, 1) := by decide +kernel
theorem lr_d_L_177 : decode code 177 = .ok (.iaload, 1) := by decide +kernel
theorem lr_d_L_178 : decode code 178 = .ok (.invokevirtual 18, 3) := by decide +kernel
theorem lr_d_L_181 : decode code 181 = .ok (.aload_n 2, 1) := by decide +kernel
theorem lr_d_L_182 : decode code 182 = .ok (.aload_n 0, 1) := by decide +kernel
theorem lr_d_L_183 : decode code 183 = .ok (.iload_n 3, 1) := by decide +kernel
theorem lr_d_L_184 : decode code 184 = .ok (.iconst 1, 1) := by decide +kernel
theorem lr_d_L_185 : decode code 185 = .ok (.iadd, 1) := by decide +kernel
theorem lr_d_L_186 : decode code 186 = .ok (.iaload, 1) := by decide +kernel
theorem lr_d_L_187 : decode code 187 = .ok (.aload_n 0, 1) := by decide +kernel
theorem lr_d_L_188 : decode code 188 = .ok (.iload_n 3, 1) := by decide +kernel
theorem lr_d_L_189 : decode code 189 = .ok (.iconst 2, 1) := by decide +kernel
theorem lr_d_L_190 : decode code 190 = .ok (.iadd, 1) := by decide +kernel
theorem lr_d_L_191 : decode code 191 = .ok (.iaload, 1) := by decide +kernel
theorem lr_d_L_192 : decode code 192 = .ok (.aload_n 0, 1) := by decide +kernel
theorem lr_d_L_193 : decode code 193 = .ok (.iload_n 3, 1) := by decide +kernel
theorem lr_d_L_194 : decode code 194 = .ok (.iconst 3, 1) := by decide +kernel
theorem lr_d_L_195 : decode code 195 = .ok (.iadd, 1) := by decide +kernel
theorem lr_d_L_196 : decode code 196 = .ok (.iaload, 1) := by decide +kernel
theorem lr_d_L_197 : decode code 197 = .ok (.aload_n 0, 1) := by decide +kernel
theorem lr_d_L_198 : decode code 198 = .ok (.iload_n 3, 1) := by decide +kernel
theorem lr_d_L_199 : decode code 199 = .ok (.iconst 4, 1) := by decide +kernel
theorem lr_d_L_200 : decode code 200 = .ok (.iadd, 1) := by decide +kernel
theorem lr_d_L_201 : decode code 201 = .ok (.iaload, 1) := by decide +kernel
theorem lr_d_L_202 : decode code 202 = .ok (.invokevirtual 22, 3) := by decide +kernel
theorem lr_d_L_205 : decode code 205 = .ok (.if_icmp .eq 546, 3) := by decide +kernel
theorem lr_d_L_208 : decode code 208 = .ok (.iconst 0, 1) := by decide +kernel
theorem lr_d_L_209 : decode code 209 = .ok (.ireturn, 1) := by decide +kernel
theorem lr_d_L_210 : decode code 210 = .ok (.aload_n 1, 1) := by decide +kernel
theorem lr_d_L_211 : decode code 211 = .ok (.aload_n 0, 1) := by decide +kernel
theorem lr_d_L_212 : decode code 212 = .ok (.iload_n 3, 1) := by decide +kernel
theorem lr_d_L_213 : decode code 213 = .ok (.iconst 1, 1) := by decide +kernel
theorem lr_d_L_214 : decode code 214 = .ok (.iadd, 1) := by decide +kernel
theorem lr_d_L_215 : decode code 215 = .ok (.iaload, 1) := by decide +kernel
theorem lr_d_L_216 : decode code 216 = .ok (.aload_n 0, 1) := by decide +kernel
theorem lr_d_L_217 : decode code 217 = .ok (.iload_n 3, 1) := by decide +kernel
theorem lr_d_L_218 : decode code 218 = .ok (.iconst 2, 1) := by decide +kernel
theorem lr_d_L_219 : decode code 219 = .ok (.iadd, 1) := by decide +kernel
theorem lr_d_L_220 : decode code 220 = .ok (.iaload, 1) := by decide +kernel
theorem lr_d_L_221 : decode code 221 = .ok (.aload_n 0, 1) := by decide +kernel
theorem lr_d_L_222 : decode code 222 = .ok (.iload_n 3, 1) := by decide +kernel
theorem lr_d_L_223 : decode code 223 = .ok (.iconst 3, 1) := by decide +kernel
theorem lr_d_L_224 : decode code 224 = .ok (.iadd, 1) := by decide +kernel
theorem lr_d_L_225 : decode code 225 = .ok (.iaload, 1) := by decide +kernel
theorem lr_d_L_226 : decode code 226 = .ok (.aload_n 0, 1) := by decide +kernel
theorem lr_d_L_227 : decode code 227 = .ok (.iload_n 3, 1) := by decide +kernel
theorem lr_d_L_228 : decode code 228 = .ok (.iconst 4, 1) := by decide +kernel
theorem lr_d_L_229 : decode code 229 = .ok (.iadd, 1) := by decide +kernel
theorem lr_d_L_230 : decode code 230 = .ok (.iaload, 1) := by decide +kernel
theorem lr_d_L_231 : decode code 231 = .ok (.invokevirtual 23, 3) := by decide +kernel
theorem lr_d_L_234 : decode code 234 = .ok (.aload_n 2, 1) := by decide +kernel
theorem lr_d_L_235 : decode code 235 = .ok (.aload_n 0, 1) := by decide +kernel
theorem lr_d_L_236 : decode code 236 = .ok (.iload_n 3, 1) := by decide +kernel
theorem lr_d_L_237 : decode code 237 = .ok (.iconst 1, 1) := by decide +kernel
theorem lr_d_L_238 : decode code 238 = .ok (.iadd, 1) := by decide +kernel
theorem lr_d_L_239 : decode code 239 = .ok (.iaload, 1) := by decide +kernel
theorem lr_d_L_240 : decode code 240 = .ok (.aload_n 0, 1) := by decide +kernel
theorem lr_d_L_241 : decode code 241 = .ok (.iload_n 3, 1) := by decide +kernel
theorem lr_d_L_242 : decode code 242 = .ok (.iconst 2, 1) := by decide +kernel
theorem lr_d_L_243 : decode code 243 = .ok (.iadd, 1) := by decide +kernel
theorem lr_d_L_244 : decode code 244 = .ok (.iaload, 1) := by decide +kernel
theorem lr_d_L_245 : decode code 245 = .ok (.aload_n 0, 1) := by decide +kernel
theorem lr_d_L_246 : decode code 246 = .ok (.iload_n 3, 1) := by decide +kernel
theorem lr_d_L_247 : decode code 247 = .ok (.iconst 3, 1) := by decide +kernel
theorem lr_d_L_248 : decode code 248 = .ok (.iadd, 1) := by decide +kernel
theorem lr_d_L_249 : decode code 249 = .ok (.iaload, 1) := by decide +kernel
theorem lr_d_L_250 : decode code 250 = .ok (.aload_n 0, 1) := by decide +kernel
theorem lr_d_L_251 : decode code 251 = .ok (.iload_n 3, 1) := by decide +kernel
theorem lr_d_L_252 : decode code 252 = .ok (.iconst 4, 1) := by decide +kernel
theorem lr_d_L_253 : decode code 253 = .ok (.iadd, 1) := by decide +kernel
theorem lr_d_L_254 : decode code 254 = .ok (.iaload, 1) := by decide +kernel
theorem lr_d_L_255 : decode code 255 = .ok (.invokevirtual 26, 3) := by decide +kernel
