theorem dX10_digest_49 : decode cX10_digest 49 = .ok (.lmul, 1) := by decide +kernel
theorem dX10_digest_50 : decode cX10_digest 50 = .ok (.aload_n 0, 1) := by decide +kernel
theorem dX10_digest_51 : decode cX10_digest 51 = .ok (.getfield 260, 3) := by decide +kernel
theorem dX10_digest_54 : decode cX10_digest 54 = .ok (.i2l, 1) := by decide +kernel
theorem dX10_digest_55 : decode cX10_digest 55 = .ok (.ladd, 1) := by decide +kernel
theorem dX10_digest_56 : decode cX10_digest 56 = .ok (.ldc2_w 283, 3) := by decide +kernel
theorem dX10_digest_59 : decode cX10_digest 59 = .ok (.lmul, 1) := by decide +kernel
theorem dX10_digest_60 : decode cX10_digest 60 = .ok (.aload_n 0, 1) := by decide +kernel
theorem dX10_digest_61 : decode cX10_digest 61 = .ok (.getfield 220, 3) := by decide +kernel
theorem dX10_digest_64 : decode cX10_digest 64 = .ok (.i2l, 1) := by decide +kernel
theorem dX10_digest_65 : decode cX10_digest 65 = .ok (.ladd, 1) := by decide +kernel
theorem dX10_digest_66 : decode cX10_digest 66 = .ok (.ldc2_w 283, 3) := by decide +kernel
theorem dX10_digest_69 : decode cX10_digest 69 = .ok (.lmul, 1) := by decide +kernel
theorem dX10_digest_70 : decode cX10_digest 70 = .ok (.aload_n 0, 1) := by decide +kernel
theorem dX10_digest_71 : decode cX10_digest 71 = .ok (.getfield 223, 3) := by decide +kernel
theorem dX10_digest_74 : decode cX10_digest 74 = .ok (.i2l, 1) := by decide +kernel
theorem dX10_digest_75 : decode cX10_digest 75 = .ok (.ladd, 1) := by decide +kernel
theorem dX10_digest_76 : decode cX10_digest 76 = .ok (.ldc2_w 283, 3) := by decide +kernel
theorem dX10_digest_79 : decode cX10_digest 79 = .ok (.lmul, 1) := by decide +kernel
theorem dX10_digest_80 : decode cX10_digest 80 = .ok (.aload_n 0, 1) := by decide +kernel
theorem dX10_digest_81 : decode cX10_digest 81 = .ok (.invokevirtual 278, 3) := by decide +kernel
theorem dX10_digest_84 : decode cX10_digest 84 = .ok (.i2l, 1) := by decide +kernel
theorem dX10_digest_85 : decode cX10_digest 85 = .ok (.ladd, 1) := by decide +kernel
theorem dX10_digest_86 : decode cX10_digest 86 = .ok (.lstore_n 1, 1) := by decide +kernel
theorem dX10_digest_87 : decode cX10_digest 87 = .ok (.iconst 0, 1) := by decide +kernel
theorem dX10_digest_88 : decode cX10_digest 88 = .ok (.istore_n 3, 1) := by decide +kernel
theorem dX10_digest_89 : decode cX10_digest 89 = .ok (.iload_n 3, 1) := by decide +kernel
theorem dX10_digest_90 : decode cX10_digest 90 = .ok (.aload_n 0, 1) := by decide +kernel
theorem dX10_digest_91 : decode cX10_digest 91 = .ok (.getfield 166, 3) := by decide +kernel
theorem dX10_digest_94 : decode cX10_digest 94 = .ok (.if_icmp .ge 147, 3) := by decide +kernel
theorem dX10_digest_97 : decode cX10_digest 97 = .ok (.lload_n 1, 1) := by decide +kernel
theorem dX10_digest_98 : decode cX10_digest 98 = .ok (.ldc2_w 283, 3) := by decide +kernel
theorem dX10_digest_101 : decode cX10_digest 101 = .ok (.lmul, 1) := by decide +kernel
theorem dX10_digest_102 : decode cX10_digest 102 = .ok (.aload_n 0, 1) := by decide +kernel
theorem dX10_digest_103 : decode cX10_digest 103 = .ok (.getfield 131, 3) := by decide +kernel
theorem dX10_digest_106 : decode cX10_digest 106 = .ok (.iload_n 3, 1) := by decide +kernel
theorem dX10_digest_107 : decode cX10_digest 107 = .ok (.aaload, 1) := by decide +kernel
theorem dX10_digest_108 : decode cX10_digest 108 = .ok (.arraylength, 1) := by decide +kernel
theorem dX10_digest_109 : decode cX10_digest 109 = .ok (.i2l, 1) := by decide +kernel
theorem dX10_digest_110 : decode cX10_digest 110 = .ok (.ladd, 1) := by decide +kernel
theorem dX10_digest_111 : decode cX10_digest 111 = .ok (.ldc2_w 283, 3) := by decide +kernel
theorem dX10_digest_114 : decode cX10_digest 114 = .ok (.lmul, 1) := by decide +kernel
theorem dX10_digest_115 : decode cX10_digest 115 = .ok (.aload_n 0, 1) := by decide +kernel
theorem dX10_digest_116 : decode cX10_digest 116 = .ok (.getfield 131, 3) := by decide +kernel
theorem dX10_digest_119 : decode cX10_digest 119 = .ok (.iload_n 3, 1) := by decide +kernel
theorem dX10_digest_120 : decode cX10_digest 120 = .ok (.aaload, 1) := by decide +kernel
theorem dX10_digest_121 : decode cX10_digest 121 = .ok (.invokestatic 52, 3) := by decide +kernel
theorem dX10_digest_124 : decode cX10_digest 124 = .ok (.i2l, 1) := by decide +kernel
theorem dX10_digest_125 : decode cX10_digest 125 = .ok (.ladd, 1) := by decide +kernel
theorem dX10_digest_126 : decode cX10_digest 126 = .ok (.ldc2_w 283, 3) := by decide +kernel
theorem dX10_digest_129 : decode cX10_digest 129 = .ok (.lmul, 1) := by decide +kernel
theorem dX10_digest_130 : decode cX10_digest 130 = .ok (.aload_n 0, 1) := by decide +kernel
theorem dX10_digest_131 : decode cX10_digest 131 = .ok (.aload_n 0, 1) := by decide +kernel
theorem dX10_digest_132 : decode cX10_digest 132 = .ok (.getfield 131, 3) := by decide +kernel
theorem dX10_digest_135 : decode cX10_digest 135 = .ok (.iload_n 3, 1) := by decide +kernel
theorem dX10_digest_136 : decode cX10_digest 136 = .ok (.aaload, 1) := by decide +kernel
theorem dX10_digest_137 : decode cX10_digest 137 = .ok (.invokevirtual 229, 3) := by decide +kernel
theorem dX10_digest_140 : decode cX10_digest 140 = .ok (.i2l, 1) := by decide +kernel
theorem dX10_digest_141 : decode cX10_digest 141 = .ok (.ladd, 1) := by decide +kernel
theorem dX10_digest_142 : decode cX10_digest 142 = .ok (.ldc2_w 283, 3) := by decide +kernel
theorem dX10_digest_145 : decode cX10_digest 145 = .ok (.lmul, 1) := by decide +kernel
theorem dX10_digest_146 : decode cX10_digest 146 = .ok (.aload_n 0, 1) := by decide +kernel
theorem dX10_digest_147 : decode cX10_digest 147 = .ok (.aload_n 0, 1) := by decide +kernel
theorem dX10_digest_148 : decode cX10_digest 148 = .ok (.getfield 131, 3) := by decide +kernel
theorem dX10_digest_151 : decode cX10_digest 151 = .ok (.iload_n 3, 1) := by decide +kernel
theorem dX10_digest_152 : decode cX10_digest 152 = .ok (.aaload, 1) := by decide +kernel
theorem dX10_digest_153 : decode cX10_digest 153 = .ok (.invokevirtual 232, 3) := by decide +kernel
theorem dX10_digest_156 : decode cX10_digest 156 = .ok (.i2l, 1) := by decide +kernel
theorem dX10_digest_157 : decode cX10_digest 157 = .ok (.ladd, 1) := by decide +kernel
theorem dX10_digest_158 : decode cX10_digest 158 = .ok (.ldc2_w 283, 3) := by decide +kernel
theorem dX10_digest_161 : decode cX10_digest 161 = .ok (.lmul, 1) := by decide +kernel
theorem dX10_digest_162 : decode cX10_digest 162 = .ok (.aload_n 0, 1) := by decide +kernel
theorem dX10_digest_163 : decode cX10_digest 163 = .ok (.aload_n 0, 1) := by decide +kernel
theorem dX10_digest_164 : decode cX10_digest 164 = .ok (.getfield 131, 3) := by decide +kernel
theorem dX10_digest_167 : decode cX10_digest 167 = .ok (.iload_n 3, 1) := by decide +kernel
theorem dX10_digest_168 : decode cX10_digest 168 = .ok (.aaload, 1) := by decide +kernel
theorem dX10_digest_169 : decode cX10_digest 169 = .ok (.invokevirtual 275, 3) := by decide +kernel
theorem dX10_digest_172 : decode cX10_digest 172 = .ok (.i2l, 1) := by decide +kernel
theorem dX10_digest_173 : decode cX10_digest 173 = .ok (.ladd, 1) := by decide +kernel
theorem dX10_digest_174 : decode cX10_digest 174 = .ok (.lstore_n 1, 1) := by decide +kernel
theorem dX10_digest_175 : decode cX10_digest 175 = .ok (.aload_n 0, 1) := by decide +kernel
theorem dX10_digest_176 : decode cX10_digest 176 = .ok (.getfield 131, 3) := by decide +kernel
theorem dX10_digest_179 : decode cX10_digest 179 = .ok (.iload_n 3, 1) := by decide +kernel
theorem dX10_digest_180 : decode cX10_digest 180 = .ok (.aaload, 1) := by decide +kernel
theorem dX10_digest_181 : decode cX10_digest 181 = .ok (.astore 4, 2) := by decide +kernel
theorem dX10_digest_183 : decode cX10_digest 183 = .ok (.aload 4, 2) := by decide +kernel
theorem dX10_digest_185 : decode cX10_digest 185 = .ok (.arraylength, 1) := by decide +kernel
theorem dX10_digest_186 : decode cX10_digest 186 = .ok (.istore 5, 2) := by decide +kernel
theorem dX10_digest_188 : decode cX10_digest 188 = .ok (.iconst 0, 1) := by decide +kernel
theorem dX10_digest_189 : decode cX10_digest 189 = .ok (.istore 6, 2) := by decide +kernel
theorem dX10_digest_191 : decode cX10_digest 191 = .ok (.iload 6, 2) := by decide +kernel
theorem dX10_digest_193 : decode cX10_digest 193 = .ok (.iload 5, 2) := by decide +kernel
theorem dX10_digest_195 : decode cX10_digest 195 = .ok (.if_icmp .ge 40, 3) := by decide +kernel
theorem dX10_digest_198 : decode cX10_digest 198 = .ok (.aload 4, 2) := by decide +kernel
theorem dX10_digest_200 : decode cX10_digest 200 = .ok (.iload 6, 2) := by decide +kernel
theorem dX10_digest_202 : decode cX10_digest 202 = .ok (.iaload, 1) := by decide +kernel
theorem dX10_digest_203 : decode cX10_digest 203 = .ok (.istore 7, 2) := by decide +kernel
theorem dX10_digest_205 : decode cX10_digest 205 = .ok (.lload_n 1, 1) := by decide +kernel
theorem dX10_digest_206 : decode cX10_digest 206 = .ok (.ldc2_w 283, 3) := by decide +kernel
theorem dX10_digest_209 : decode cX10_digest 209 = .ok (.lmul, 1) := by decide +kernel
theorem dX10_digest_210 : decode cX10_digest 210 = .ok (.iload 7, 2) := by decide +kernel
theorem dX10_digest_212 : decode cX10_digest 212 = .ok (.invokestatic 35, 3) := by decide +kernel
theorem dX10_digest_215 : decode cX10_digest 215 = .ok (.i2l, 1) := by decide +kernel
theorem dX10_digest_216 : decode cX10_digest 216 = .ok (.ladd, 1) := by decide +kernel
theorem dX10_digest_217 : decode cX10_digest 217 = .ok (.ldc2_w 283, 3) := by decide +kernel
theorem dX10_digest_220 : decode cX10_digest 220 = .ok (.lmul, 1) := by decide +kernel
theorem dX10_digest_221 : decode cX10_digest 221 = .ok (.iload 7, 2) := by decide +kernel
theorem dX10_digest_223 : decode cX10_digest 223 = .ok (.invokestatic 76, 3) := by decide +kernel
theorem dX10_digest_226 : decode cX10_digest 226 = .ok (.i2l, 1) := by decide +kernel
theorem dX10_digest_227 : decode cX10_digest 227 = .ok (.ladd, 1) := by decide +kernel
theorem dX10_digest_228 : decode cX10_digest 228 = .ok (.lstore_n 1, 1) := by decide +kernel
theorem dX10_digest_229 : decode cX10_digest 229 = .ok (.iinc 6 1, 3) := by decide +kernel
theorem dX10_digest_232 : decode cX10_digest 232 = .ok (.goto (-41), 3) := by decide +kernel
theorem dX10_digest_235 : decode cX10_digest 235 = .ok (.iinc 3 1, 3) := by decide +kernel
theorem dX10_digest_238 : decode cX10_digest 238 = .ok (.goto (-149), 3) := by decide +kernel
theorem dX10_digest_241 : decode cX10_digest 241 = .ok (.aload_n 0, 1) := by decide +kernel
theorem dX10_digest_242 : decode cX10_digest 242 = .ok (.invokevirtual 252, 3) := by decide +kernel
theorem dX10_digest_245 : decode cX10_digest 245 = .ok (.astore_n 3, 1) := by decide +kernel
theorem dX10_digest_246 : decode cX10_digest 246 = .ok (.aload_n 3, 1) := by decide +kernel
theorem dX10_digest_247 : decode cX10_digest 247 = .ok (.astore 4, 2) := by decide +kernel
theorem dX10_digest_249 : decode cX10_digest 249 = .ok (.aload 4, 2) := by decide +kernel
theorem dX10_digest_251 : decode cX10_digest 251 = .ok (.arraylength, 1) := by decide +kernel
theorem dX10_digest_252 : decode cX10_digest 252 = .ok (.istore 5, 2) := by decide +kernel
theorem dX10_digest_254 : decode cX10_digest 254 = .ok (.iconst 0, 1) := by decide +kernel
theorem dX10_digest_255 : decode cX10_digest 255 = .ok (.istore 6, 2) := by decide +kernel
theorem dX10_digest_257 : decode cX10_digest 257 = .ok (.iload 6, 2) := by decide +kernel
theorem dX10_digest_259 : decode cX10_digest 259 = .ok (.iload 5, 2) := by decide +kernel
theorem dX10_digest_261 : decode cX10_digest 261 = .ok (.if_icmp .ge 26, 3) := by decide +kernel
theorem dX10_digest_264 : decode cX10_digest 264 = .ok (.aload 4, 2) := by decide +kernel
theorem dX10_digest_266 : decode cX10_digest 266 = .ok (.iload 6, 2) := by decide +kernel
theorem dX10_digest_268 : decode cX10_digest 268 = .ok (.iaload, 1) := by decide +kernel
theorem dX10_digest_269 : decode cX10_digest 269 = .ok (.istore 7, 2) := by decide +kernel
theorem dX10_digest_271 : decode cX10_digest 271 = .ok (.lload_n 1, 1) := by decide +kernel
theorem dX10_digest_272 : decode cX10_digest 272 = .ok (.ldc2_w 283, 3) := by decide +kernel
theorem dX10_digest_275 : decode cX10_digest 275 = .ok (.lmul, 1) := by decide +kernel
theorem dX10_digest_276 : decode cX10_digest 276 = .ok (.iload 7, 2) := by decide +kernel
theorem dX10_digest_278 : decode cX10_digest 278 = .ok (.i2l, 1) := by decide +kernel
theorem dX10_digest_279 : decode cX10_digest 279 = .ok (.ladd, 1) := by decide +kernel
theorem dX10_digest_280 : decode cX10_digest 280 = .ok (.lstore_n 1, 1) := by decide +kernel
theorem dX10_digest_281 : decode cX10_digest 281 = .ok (.iinc 6 1, 3) := by decide +kernel
theorem dX10_digest_284 : decode cX10_digest 284 = .ok (.goto (-27), 3) := by decide +kernel
theorem dX10_digest_287 : decode cX10_digest 287 = .ok (.lload_n 1, 1) := by decide +kernel
theorem dX10_digest_288 : decode cX10_digest 288 = .ok (.lreturn, 1) := by decide +kernel
