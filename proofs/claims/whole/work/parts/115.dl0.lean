theorem dl_23 : decode code 23 = .ok (.iload 4, 2) := by decide +kernel
theorem dl_25 : decode code 25 = .ok (.aload_n 0, 1) := by decide +kernel
theorem dl_26 : decode code 26 = .ok (.arraylength, 1) := by decide +kernel
theorem dl_27 : decode code 27 = .ok (.bipush 7, 2) := by decide +kernel
theorem dl_29 : decode code 29 = .ok (.isub, 1) := by decide +kernel
theorem dl_30 : decode code 30 = .ok (.if_icmp .gt 1331, 3) := by decide +kernel
theorem dl_33 : decode code 33 = .ok (.aload_n 0, 1) := by decide +kernel
theorem dl_34 : decode code 34 = .ok (.iload 4, 2) := by decide +kernel
theorem dl_36 : decode code 36 = .ok (.iaload, 1) := by decide +kernel
theorem dl_37 : decode code 37 = .ok (.bipush 15, 2) := by decide +kernel
theorem dl_39 : decode code 39 = .ok (.iand, 1) := by decide +kernel
theorem dl_40 : decode code 40 = .ok (.tableswitch 1315 0 15 #[80, 208, 382, 462, 594, 706, 719, 763, 776, 789, 872, 967, 1111, 1167, 1223, 1271], 80) := by decide +kernel
theorem dl_120 : decode code 120 = .ok (.aload_n 1, 1) := by decide +kernel
theorem dl_121 : decode code 121 = .ok (.aload_n 0, 1) := by decide +kernel
theorem dl_122 : decode code 122 = .ok (.iload 4, 2) := by decide +kernel
theorem dl_124 : decode code 124 = .ok (.iconst 1, 1) := by decide +kernel
theorem dl_125 : decode code 125 = .ok (.iadd, 1) := by decide +kernel
theorem dl_126 : decode code 126 = .ok (.iaload, 1) := by decide +kernel
theorem dl_127 : decode code 127 = .ok (.i2l, 1) := by decide +kernel
theorem dl_128 : decode code 128 = .ok (.bipush 32, 2) := by decide +kernel
theorem dl_130 : decode code 130 = .ok (.lshl, 1) := by decide +kernel
theorem dl_131 : decode code 131 = .ok (.aload_n 0, 1) := by decide +kernel
theorem dl_132 : decode code 132 = .ok (.iload 4, 2) := by decide +kernel
theorem dl_134 : decode code 134 = .ok (.iconst 2, 1) := by decide +kernel
theorem dl_135 : decode code 135 = .ok (.iadd, 1) := by decide +kernel
theorem dl_136 : decode code 136 = .ok (.iaload, 1) := by decide +kernel
theorem dl_137 : decode code 137 = .ok (.i2l, 1) := by decide +kernel
theorem dl_138 : decode code 138 = .ok (.ldc2_w 71, 3) := by decide +kernel
theorem dl_141 : decode code 141 = .ok (.land, 1) := by decide +kernel
theorem dl_142 : decode code 142 = .ok (.lor, 1) := by decide +kernel
theorem dl_143 : decode code 143 = .ok (.aload_n 0, 1) := by decide +kernel
theorem dl_144 : decode code 144 = .ok (.iload 4, 2) := by decide +kernel
theorem dl_146 : decode code 146 = .ok (.iconst 3, 1) := by decide +kernel
theorem dl_147 : decode code 147 = .ok (.iadd, 1) := by decide +kernel
theorem dl_148 : decode code 148 = .ok (.iaload, 1) := by decide +kernel
theorem dl_149 : decode code 149 = .ok (.aload_n 0, 1) := by decide +kernel
theorem dl_150 : decode code 150 = .ok (.iload 4, 2) := by decide +kernel
theorem dl_152 : decode code 152 = .ok (.iconst 4, 1) := by decide +kernel
theorem dl_153 : decode code 153 = .ok (.iadd, 1) := by decide +kernel
theorem dl_154 : decode code 154 = .ok (.iaload, 1) := by decide +kernel
theorem dl_155 : decode code 155 = .ok (.ifCond .eq 7, 3) := by decide +kernel
theorem dl_158 : decode code 158 = .ok (.iconst 1, 1) := by decide +kernel
theorem dl_159 : decode code 159 = .ok (.goto 4, 3) := by decide +kernel
theorem dl_162 : decode code 162 = .ok (.iconst 0, 1) := by decide +kernel
theorem dl_163 : decode code 163 = .ok (.aload_n 3, 1) := by decide +kernel
theorem dl_164 : decode code 164 = .ok (.invokestatic 73, 3) := by decide +kernel
theorem dl_167 : decode code 167 = .ok (.istore 5, 2) := by decide +kernel
theorem dl_169 : decode code 169 = .ok (.aload_n 2, 1) := by decide +kernel
theorem dl_170 : decode code 170 = .ok (.aload_n 0, 1) := by decide +kernel
theorem dl_171 : decode code 171 = .ok (.iload 4, 2) := by decide +kernel
theorem dl_173 : decode code 173 = .ok (.iconst 1, 1) := by decide +kernel
theorem dl_174 : decode code 174 = .ok (.iadd, 1) := by decide +kernel
theorem dl_175 : decode code 175 = .ok (.iaload, 1) := by decide +kernel
theorem dl_176 : decode code 176 = .ok (.i2l, 1) := by decide +kernel
theorem dl_177 : decode code 177 = .ok (.bipush 32, 2) := by decide +kernel
theorem dl_179 : decode code 179 = .ok (.lshl, 1) := by decide +kernel
theorem dl_180 : decode code 180 = .ok (.aload_n 0, 1) := by decide +kernel
theorem dl_181 : decode code 181 = .ok (.iload 4, 2) := by decide +kernel
theorem dl_183 : decode code 183 = .ok (.iconst 2, 1) := by decide +kernel
theorem dl_184 : decode code 184 = .ok (.iadd, 1) := by decide +kernel
theorem dl_185 : decode code 185 = .ok (.iaload, 1) := by decide +kernel
theorem dl_186 : decode code 186 = .ok (.i2l, 1) := by decide +kernel
theorem dl_187 : decode code 187 = .ok (.ldc2_w 71, 3) := by decide +kernel
theorem dl_190 : decode code 190 = .ok (.land, 1) := by decide +kernel
theorem dl_191 : decode code 191 = .ok (.lor, 1) := by decide +kernel
theorem dl_192 : decode code 192 = .ok (.aload_n 0, 1) := by decide +kernel
theorem dl_193 : decode code 193 = .ok (.iload 4, 2) := by decide +kernel
theorem dl_195 : decode code 195 = .ok (.iconst 3, 1) := by decide +kernel
theorem dl_196 : decode code 196 = .ok (.iadd, 1) := by decide +kernel
theorem dl_197 : decode code 197 = .ok (.iaload, 1) := by decide +kernel
theorem dl_198 : decode code 198 = .ok (.aload_n 0, 1) := by decide +kernel
theorem dl_199 : decode code 199 = .ok (.iload 4, 2) := by decide +kernel
theorem dl_201 : decode code 201 = .ok (.iconst 4, 1) := by decide +kernel
theorem dl_202 : decode code 202 = .ok (.iadd, 1) := by decide +kernel
theorem dl_203 : decode code 203 = .ok (.iaload, 1) := by decide +kernel
theorem dl_204 : decode code 204 = .ok (.ifCond .eq 7, 3) := by decide +kernel
theorem dl_207 : decode code 207 = .ok (.iconst 1, 1) := by decide +kernel
theorem dl_208 : decode code 208 = .ok (.goto 4, 3) := by decide +kernel
theorem dl_211 : decode code 211 = .ok (.iconst 0, 1) := by decide +kernel
theorem dl_212 : decode code 212 = .ok (.invokevirtual 78, 3) := by decide +kernel
theorem dl_215 : decode code 215 = .ok (.istore 6, 2) := by decide +kernel
theorem dl_217 : decode code 217 = .ok (.aload_n 2, 1) := by decide +kernel
theorem dl_218 : decode code 218 = .ok (.invokevirtual 79, 3) := by decide +kernel
theorem dl_221 : decode code 221 = .ok (.iload 5, 2) := by decide +kernel
theorem dl_223 : decode code 223 = .ok (.if_icmp .eq 5, 3) := by decide +kernel
theorem dl_226 : decode code 226 = .ok (.iconst 0, 1) := by decide +kernel
theorem dl_227 : decode code 227 = .ok (.ireturn, 1) := by decide +kernel
theorem dl_228 : decode code 228 = .ok (.iload 5, 2) := by decide +kernel
theorem dl_230 : decode code 230 = .ok (.ifCond .ne 15, 3) := by decide +kernel
theorem dl_233 : decode code 233 = .ok (.aload_n 3, 1) := by decide +kernel
theorem dl_234 : decode code 234 = .ok (.iconst 0, 1) := by decide +kernel
theorem dl_235 : decode code 235 = .ok (.laload, 1) := by decide +kernel
theorem dl_236 : decode code 236 = .ok (.iload 6, 2) := by decide +kernel
theorem dl_238 : decode code 238 = .ok (.i2l, 1) := by decide +kernel
theorem dl_239 : decode code 239 = .ok (.lcmp, 1) := by decide +kernel
theorem dl_240 : decode code 240 = .ok (.ifCond .eq 5, 3) := by decide +kernel
theorem dl_243 : decode code 243 = .ok (.iconst 0, 1) := by decide +kernel
theorem dl_244 : decode code 244 = .ok (.ireturn, 1) := by decide +kernel
theorem dl_245 : decode code 245 = .ok (.goto 1110, 3) := by decide +kernel
theorem dl_248 : decode code 248 = .ok (.aload_n 1, 1) := by decide +kernel
theorem dl_249 : decode code 249 = .ok (.aload_n 0, 1) := by decide +kernel
theorem dl_250 : decode code 250 = .ok (.iload 4, 2) := by decide +kernel
theorem dl_252 : decode code 252 = .ok (.iconst 1, 1) := by decide +kernel
theorem dl_253 : decode code 253 = .ok (.iadd, 1) := by decide +kernel
theorem dl_254 : decode code 254 = .ok (.iaload, 1) := by decide +kernel
theorem dl_255 : decode code 255 = .ok (.aload_n 0, 1) := by decide +kernel
theorem dl_256 : decode code 256 = .ok (.iload 4, 2) := by decide +kernel
theorem dl_258 : decode code 258 = .ok (.iconst 2, 1) := by decide +kernel
theorem dl_259 : decode code 259 = .ok (.iadd, 1) := by decide +kernel
theorem dl_260 : decode code 260 = .ok (.iaload, 1) := by decide +kernel
theorem dl_261 : decode code 261 = .ok (.i2l, 1) := by decide +kernel
theorem dl_262 : decode code 262 = .ok (.bipush 32, 2) := by decide +kernel
theorem dl_264 : decode code 264 = .ok (.lshl, 1) := by decide +kernel
theorem dl_265 : decode code 265 = .ok (.aload_n 0, 1) := by decide +kernel
theorem dl_266 : decode code 266 = .ok (.iload 4, 2) := by decide +kernel
theorem dl_268 : decode code 268 = .ok (.iconst 3, 1) := by decide +kernel
theorem dl_269 : decode code 269 = .ok (.iadd, 1) := by decide +kernel
theorem dl_270 : decode code 270 = .ok (.iaload, 1) := by decide +kernel
theorem dl_271 : decode code 271 = .ok (.i2l, 1) := by decide +kernel
theorem dl_272 : decode code 272 = .ok (.ldc2_w 71, 3) := by decide +kernel
theorem dl_275 : decode code 275 = .ok (.land, 1) := by decide +kernel
theorem dl_276 : decode code 276 = .ok (.lor, 1) := by decide +kernel
theorem dl_277 : decode code 277 = .ok (.aload_n 0, 1) := by decide +kernel
theorem dl_278 : decode code 278 = .ok (.iload 4, 2) := by decide +kernel
theorem dl_280 : decode code 280 = .ok (.iconst 4, 1) := by decide +kernel
theorem dl_281 : decode code 281 = .ok (.iadd, 1) := by decide +kernel
theorem dl_282 : decode code 282 = .ok (.iaload, 1) := by decide +kernel
theorem dl_283 : decode code 283 = .ok (.i2l, 1) := by decide +kernel
theorem dl_284 : decode code 284 = .ok (.bipush 32, 2) := by decide +kernel
theorem dl_286 : decode code 286 = .ok (.lshl, 1) := by decide +kernel
theorem dl_287 : decode code 287 = .ok (.aload_n 0, 1) := by decide +kernel
theorem dl_288 : decode code 288 = .ok (.iload 4, 2) := by decide +kernel
theorem dl_290 : decode code 290 = .ok (.iconst 5, 1) := by decide +kernel
theorem dl_291 : decode code 291 = .ok (.iadd, 1) := by decide +kernel
theorem dl_292 : decode code 292 = .ok (.iaload, 1) := by decide +kernel
theorem dl_293 : decode code 293 = .ok (.i2l, 1) := by decide +kernel
theorem dl_294 : decode code 294 = .ok (.ldc2_w 71, 3) := by decide +kernel
theorem dl_297 : decode code 297 = .ok (.land, 1) := by decide +kernel
theorem dl_298 : decode code 298 = .ok (.lor, 1) := by decide +kernel
theorem dl_299 : decode code 299 = .ok (.aload_n 0, 1) := by decide +kernel
theorem dl_300 : decode code 300 = .ok (.iload 4, 2) := by decide +kernel
theorem dl_302 : decode code 302 = .ok (.bipush 6, 2) := by decide +kernel
theorem dl_304 : decode code 304 = .ok (.iadd, 1) := by decide +kernel
theorem dl_305 : decode code 305 = .ok (.iaload, 1) := by decide +kernel
theorem dl_306 : decode code 306 = .ok (.ifCond .eq 7, 3) := by decide +kernel
theorem dl_309 : decode code 309 = .ok (.iconst 1, 1) := by decide +kernel
theorem dl_310 : decode code 310 = .ok (.goto 4, 3) := by decide +kernel
theorem dl_313 : decode code 313 = .ok (.iconst 0, 1) := by decide +kernel
theorem dl_314 : decode code 314 = .ok (.aload_n 3, 1) := by decide +kernel
theorem dl_315 : decode code 315 = .ok (.invokestatic 82, 3) := by decide +kernel
theorem dl_318 : decode code 318 = .ok (.istore 5, 2) := by decide +kernel
theorem dl_320 : decode code 320 = .ok (.aload_n 2, 1) := by decide +kernel
theorem dl_321 : decode code 321 = .ok (.aload_n 0, 1) := by decide +kernel
theorem dl_322 : decode code 322 = .ok (.iload 4, 2) := by decide +kernel
theorem dl_324 : decode code 324 = .ok (.iconst 1, 1) := by decide +kernel
theorem dl_325 : decode code 325 = .ok (.iadd, 1) := by decide +kernel
theorem dl_326 : decode code 326 = .ok (.iaload, 1) := by decide +kernel
theorem dl_327 : decode code 327 = .ok (.aload_n 0, 1) := by decide +kernel
theorem dl_328 : decode code 328 = .ok (.iload 4, 2) := by decide +kernel
theorem dl_330 : decode code 330 = .ok (.iconst 2, 1) := by decide +kernel
