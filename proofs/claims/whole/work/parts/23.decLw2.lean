theorem d_Lw_law_134 : decode k_Lw_law.1 134 = .ok (.iconst 0, 1) := by decide +kernel
theorem d_Lw_law_135 : decode k_Lw_law.1 135 = .ok (.aload_n 3, 1) := by decide +kernel
theorem d_Lw_law_136 : decode k_Lw_law.1 136 = .ok (.invokestatic 59, 3) := by decide +kernel
theorem d_Lw_law_139 : decode k_Lw_law.1 139 = .ok (.istore 5, 2) := by decide +kernel
theorem d_Lw_law_141 : decode k_Lw_law.1 141 = .ok (.aload_n 2, 1) := by decide +kernel
theorem d_Lw_law_142 : decode k_Lw_law.1 142 = .ok (.aload_n 0, 1) := by decide +kernel
theorem d_Lw_law_143 : decode k_Lw_law.1 143 = .ok (.iload 4, 2) := by decide +kernel
theorem d_Lw_law_145 : decode k_Lw_law.1 145 = .ok (.iconst 1, 1) := by decide +kernel
theorem d_Lw_law_146 : decode k_Lw_law.1 146 = .ok (.iadd, 1) := by decide +kernel
theorem d_Lw_law_147 : decode k_Lw_law.1 147 = .ok (.iaload, 1) := by decide +kernel
theorem d_Lw_law_148 : decode k_Lw_law.1 148 = .ok (.aload_n 0, 1) := by decide +kernel
theorem d_Lw_law_149 : decode k_Lw_law.1 149 = .ok (.iload 4, 2) := by decide +kernel
theorem d_Lw_law_151 : decode k_Lw_law.1 151 = .ok (.iconst 2, 1) := by decide +kernel
theorem d_Lw_law_152 : decode k_Lw_law.1 152 = .ok (.iadd, 1) := by decide +kernel
theorem d_Lw_law_153 : decode k_Lw_law.1 153 = .ok (.iaload, 1) := by decide +kernel
theorem d_Lw_law_154 : decode k_Lw_law.1 154 = .ok (.aload_n 0, 1) := by decide +kernel
theorem d_Lw_law_155 : decode k_Lw_law.1 155 = .ok (.iload 4, 2) := by decide +kernel
theorem d_Lw_law_157 : decode k_Lw_law.1 157 = .ok (.iconst 3, 1) := by decide +kernel
theorem d_Lw_law_158 : decode k_Lw_law.1 158 = .ok (.iadd, 1) := by decide +kernel
theorem d_Lw_law_159 : decode k_Lw_law.1 159 = .ok (.iaload, 1) := by decide +kernel
theorem d_Lw_law_160 : decode k_Lw_law.1 160 = .ok (.ifCond .eq 7, 3) := by decide +kernel
theorem d_Lw_law_163 : decode k_Lw_law.1 163 = .ok (.iconst 1, 1) := by decide +kernel
theorem d_Lw_law_164 : decode k_Lw_law.1 164 = .ok (.goto 4, 3) := by decide +kernel
theorem d_Lw_law_167 : decode k_Lw_law.1 167 = .ok (.iconst 0, 1) := by decide +kernel
theorem d_Lw_law_168 : decode k_Lw_law.1 168 = .ok (.invokevirtual 64, 3) := by decide +kernel
theorem d_Lw_law_171 : decode k_Lw_law.1 171 = .ok (.istore 6, 2) := by decide +kernel
theorem d_Lw_law_173 : decode k_Lw_law.1 173 = .ok (.aload_n 2, 1) := by decide +kernel
theorem d_Lw_law_174 : decode k_Lw_law.1 174 = .ok (.invokevirtual 65, 3) := by decide +kernel
theorem d_Lw_law_177 : decode k_Lw_law.1 177 = .ok (.iload 5, 2) := by decide +kernel
theorem d_Lw_law_179 : decode k_Lw_law.1 179 = .ok (.if_icmp .eq 5, 3) := by decide +kernel
theorem d_Lw_law_182 : decode k_Lw_law.1 182 = .ok (.iconst 0, 1) := by decide +kernel
theorem d_Lw_law_183 : decode k_Lw_law.1 183 = .ok (.ireturn, 1) := by decide +kernel
theorem d_Lw_law_184 : decode k_Lw_law.1 184 = .ok (.iload 5, 2) := by decide +kernel
theorem d_Lw_law_186 : decode k_Lw_law.1 186 = .ok (.ifCond .ne 15, 3) := by decide +kernel
theorem d_Lw_law_189 : decode k_Lw_law.1 189 = .ok (.aload_n 3, 1) := by decide +kernel
theorem d_Lw_law_190 : decode k_Lw_law.1 190 = .ok (.iconst 0, 1) := by decide +kernel
theorem d_Lw_law_191 : decode k_Lw_law.1 191 = .ok (.laload, 1) := by decide +kernel
theorem d_Lw_law_192 : decode k_Lw_law.1 192 = .ok (.iload 6, 2) := by decide +kernel
theorem d_Lw_law_194 : decode k_Lw_law.1 194 = .ok (.i2l, 1) := by decide +kernel
theorem d_Lw_law_195 : decode k_Lw_law.1 195 = .ok (.lcmp, 1) := by decide +kernel
theorem d_Lw_law_196 : decode k_Lw_law.1 196 = .ok (.ifCond .eq 5, 3) := by decide +kernel
theorem d_Lw_law_199 : decode k_Lw_law.1 199 = .ok (.iconst 0, 1) := by decide +kernel
theorem d_Lw_law_200 : decode k_Lw_law.1 200 = .ok (.ireturn, 1) := by decide +kernel
theorem d_Lw_law_201 : decode k_Lw_law.1 201 = .ok (.goto 737, 3) := by decide +kernel
theorem d_Lw_law_204 : decode k_Lw_law.1 204 = .ok (.aload_n 1, 1) := by decide +kernel
theorem d_Lw_law_205 : decode k_Lw_law.1 205 = .ok (.aload_n 0, 1) := by decide +kernel
theorem d_Lw_law_206 : decode k_Lw_law.1 206 = .ok (.iload 4, 2) := by decide +kernel
theorem d_Lw_law_208 : decode k_Lw_law.1 208 = .ok (.iconst 1, 1) := by decide +kernel
theorem d_Lw_law_209 : decode k_Lw_law.1 209 = .ok (.iadd, 1) := by decide +kernel
theorem d_Lw_law_210 : decode k_Lw_law.1 210 = .ok (.iaload, 1) := by decide +kernel
theorem d_Lw_law_211 : decode k_Lw_law.1 211 = .ok (.aload_n 0, 1) := by decide +kernel
theorem d_Lw_law_212 : decode k_Lw_law.1 212 = .ok (.iload 4, 2) := by decide +kernel
theorem d_Lw_law_214 : decode k_Lw_law.1 214 = .ok (.iconst 2, 1) := by decide +kernel
theorem d_Lw_law_215 : decode k_Lw_law.1 215 = .ok (.iadd, 1) := by decide +kernel
theorem d_Lw_law_216 : decode k_Lw_law.1 216 = .ok (.iaload, 1) := by decide +kernel
theorem d_Lw_law_217 : decode k_Lw_law.1 217 = .ok (.i2l, 1) := by decide +kernel
theorem d_Lw_law_218 : decode k_Lw_law.1 218 = .ok (.bipush 32, 2) := by decide +kernel
theorem d_Lw_law_220 : decode k_Lw_law.1 220 = .ok (.lshl, 1) := by decide +kernel
theorem d_Lw_law_221 : decode k_Lw_law.1 221 = .ok (.aload_n 0, 1) := by decide +kernel
theorem d_Lw_law_222 : decode k_Lw_law.1 222 = .ok (.iload 4, 2) := by decide +kernel
theorem d_Lw_law_224 : decode k_Lw_law.1 224 = .ok (.iconst 3, 1) := by decide +kernel
theorem d_Lw_law_225 : decode k_Lw_law.1 225 = .ok (.iadd, 1) := by decide +kernel
theorem d_Lw_law_226 : decode k_Lw_law.1 226 = .ok (.iaload, 1) := by decide +kernel
theorem d_Lw_law_227 : decode k_Lw_law.1 227 = .ok (.i2l, 1) := by decide +kernel
theorem d_Lw_law_228 : decode k_Lw_law.1 228 = .ok (.ldc2_w 69, 3) := by decide +kernel
theorem d_Lw_law_231 : decode k_Lw_law.1 231 = .ok (.land, 1) := by decide +kernel
theorem d_Lw_law_232 : decode k_Lw_law.1 232 = .ok (.lor, 1) := by decide +kernel
theorem d_Lw_law_233 : decode k_Lw_law.1 233 = .ok (.aload_n 0, 1) := by decide +kernel
theorem d_Lw_law_234 : decode k_Lw_law.1 234 = .ok (.iload 4, 2) := by decide +kernel
theorem d_Lw_law_236 : decode k_Lw_law.1 236 = .ok (.iconst 4, 1) := by decide +kernel
theorem d_Lw_law_237 : decode k_Lw_law.1 237 = .ok (.iadd, 1) := by decide +kernel
theorem d_Lw_law_238 : decode k_Lw_law.1 238 = .ok (.iaload, 1) := by decide +kernel
theorem d_Lw_law_239 : decode k_Lw_law.1 239 = .ok (.aload_n 3, 1) := by decide +kernel
theorem d_Lw_law_240 : decode k_Lw_law.1 240 = .ok (.invokestatic 71, 3) := by decide +kernel
theorem d_Lw_law_243 : decode k_Lw_law.1 243 = .ok (.istore 5, 2) := by decide +kernel
theorem d_Lw_law_245 : decode k_Lw_law.1 245 = .ok (.aload_n 2, 1) := by decide +kernel
theorem d_Lw_law_246 : decode k_Lw_law.1 246 = .ok (.aload_n 0, 1) := by decide +kernel
theorem d_Lw_law_247 : decode k_Lw_law.1 247 = .ok (.iload 4, 2) := by decide +kernel
theorem d_Lw_law_249 : decode k_Lw_law.1 249 = .ok (.iconst 1, 1) := by decide +kernel
theorem d_Lw_law_250 : decode k_Lw_law.1 250 = .ok (.iadd, 1) := by decide +kernel
theorem d_Lw_law_251 : decode k_Lw_law.1 251 = .ok (.iaload, 1) := by decide +kernel
theorem d_Lw_law_252 : decode k_Lw_law.1 252 = .ok (.aload_n 0, 1) := by decide +kernel
theorem d_Lw_law_253 : decode k_Lw_law.1 253 = .ok (.iload 4, 2) := by decide +kernel
theorem d_Lw_law_255 : decode k_Lw_law.1 255 = .ok (.iconst 2, 1) := by decide +kernel
theorem d_Lw_law_256 : decode k_Lw_law.1 256 = .ok (.iadd, 1) := by decide +kernel
theorem d_Lw_law_257 : decode k_Lw_law.1 257 = .ok (.iaload, 1) := by decide +kernel
theorem d_Lw_law_258 : decode k_Lw_law.1 258 = .ok (.i2l, 1) := by decide +kernel
theorem d_Lw_law_259 : decode k_Lw_law.1 259 = .ok (.bipush 32, 2) := by decide +kernel
theorem d_Lw_law_261 : decode k_Lw_law.1 261 = .ok (.lshl, 1) := by decide +kernel
theorem d_Lw_law_262 : decode k_Lw_law.1 262 = .ok (.aload_n 0, 1) := by decide +kernel
theorem d_Lw_law_263 : decode k_Lw_law.1 263 = .ok (.iload 4, 2) := by decide +kernel
theorem d_Lw_law_265 : decode k_Lw_law.1 265 = .ok (.iconst 3, 1) := by decide +kernel
theorem d_Lw_law_266 : decode k_Lw_law.1 266 = .ok (.iadd, 1) := by decide +kernel
theorem d_Lw_law_267 : decode k_Lw_law.1 267 = .ok (.iaload, 1) := by decide +kernel
theorem d_Lw_law_268 : decode k_Lw_law.1 268 = .ok (.i2l, 1) := by decide +kernel
theorem d_Lw_law_269 : decode k_Lw_law.1 269 = .ok (.ldc2_w 69, 3) := by decide +kernel
theorem d_Lw_law_272 : decode k_Lw_law.1 272 = .ok (.land, 1) := by decide +kernel
theorem d_Lw_law_273 : decode k_Lw_law.1 273 = .ok (.lor, 1) := by decide +kernel
theorem d_Lw_law_274 : decode k_Lw_law.1 274 = .ok (.aload_n 0, 1) := by decide +kernel
theorem d_Lw_law_275 : decode k_Lw_law.1 275 = .ok (.iload 4, 2) := by decide +kernel
theorem d_Lw_law_277 : decode k_Lw_law.1 277 = .ok (.iconst 4, 1) := by decide +kernel
theorem d_Lw_law_278 : decode k_Lw_law.1 278 = .ok (.iadd, 1) := by decide +kernel
theorem d_Lw_law_279 : decode k_Lw_law.1 279 = .ok (.iaload, 1) := by decide +kernel
theorem d_Lw_law_280 : decode k_Lw_law.1 280 = .ok (.invokevirtual 74, 3) := by decide +kernel
theorem d_Lw_law_283 : decode k_Lw_law.1 283 = .ok (.istore 6, 2) := by decide +kernel
theorem d_Lw_law_285 : decode k_Lw_law.1 285 = .ok (.aload_n 2, 1) := by decide +kernel
theorem d_Lw_law_286 : decode k_Lw_law.1 286 = .ok (.invokevirtual 65, 3) := by decide +kernel
theorem d_Lw_law_289 : decode k_Lw_law.1 289 = .ok (.iload 5, 2) := by decide +kernel
theorem d_Lw_law_291 : decode k_Lw_law.1 291 = .ok (.if_icmp .eq 5, 3) := by decide +kernel
theorem d_Lw_law_294 : decode k_Lw_law.1 294 = .ok (.iconst 0, 1) := by decide +kernel
theorem d_Lw_law_295 : decode k_Lw_law.1 295 = .ok (.ireturn, 1) := by decide +kernel
theorem d_Lw_law_296 : decode k_Lw_law.1 296 = .ok (.iload 5, 2) := by decide +kernel
theorem d_Lw_law_298 : decode k_Lw_law.1 298 = .ok (.ifCond .ne 15, 3) := by decide +kernel
theorem d_Lw_law_301 : decode k_Lw_law.1 301 = .ok (.aload_n 3, 1) := by decide +kernel
theorem d_Lw_law_302 : decode k_Lw_law.1 302 = .ok (.iconst 0, 1) := by decide +kernel
theorem d_Lw_law_303 : decode k_Lw_law.1 303 = .ok (.laload, 1) := by decide +kernel
theorem d_Lw_law_304 : decode k_Lw_law.1 304 = .ok (.iload 6, 2) := by decide +kernel
theorem d_Lw_law_306 : decode k_Lw_law.1 306 = .ok (.i2l, 1) := by decide +kernel
theorem d_Lw_law_307 : decode k_Lw_law.1 307 = .ok (.lcmp, 1) := by decide +kernel
theorem d_Lw_law_308 : decode k_Lw_law.1 308 = .ok (.ifCond .eq 5, 3) := by decide +kernel
