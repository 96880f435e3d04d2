theorem zNC_eq : zNC = 622 := rfl
theorem sh_0 : zSh 0 = (11, 11, 4) := rfl
theorem sh_1 : zSh 1 = (1, 17, 5) := rfl
theorem sh_2 : zSh 2 = (8, 6, 3) := rfl
theorem sh_3 : zSh 3 = (19, 38, 6) := rfl
theorem sh_4 : zSh 4 = (16, 38, 0) := rfl
theorem sh_5 : zSh 5 = (16, 38, 0) := rfl
theorem sh_6 : zSh 6 = (16, 38, 0) := rfl
theorem sh_7 : zSh 7 = (16, 38, 0) := rfl
theorem sh_8 : zSh 8 = (16, 38, 0) := rfl
theorem sh_9 : zSh 9 = (16, 38, 0) := rfl
theorem sh_10 : zSh 10 = (16, 38, 0) := rfl
theorem sh_11 : zSh 11 = (16, 38, 0) := rfl
theorem sh_12 : zSh 12 = (16, 38, 0) := rfl
theorem sh_13 : zSh 13 = (16, 38, 0) := rfl
theorem sh_14 : zSh 14 = (16, 38, 0) := rfl
theorem sh_15 : zSh 15 = (16, 38, 0) := rfl
theorem sh_16 : zSh 16 = (16, 38, 0) := rfl
theorem sh_17 : zSh 17 = (16, 38, 0) := rfl
theorem sh_18 : zSh 18 = (16, 38, 0) := rfl
theorem sh_19 : zSh 19 = (16, 38, 0) := rfl
theorem sh_20 : zSh 20 = (16, 38, 0) := rfl
theorem sh_21 : zSh 21 = (16, 38, 0) := rfl
theorem sh_22 : zSh 22 = (16, 38, 0) := rfl
theorem sh_23 : zSh 23 = (16, 38, 0) := rfl
theorem sh_24 : zSh 24 = (16, 38, 0) := rfl
theorem sh_25 : zSh 25 = (16, 38, 0) := rfl
theorem sh_26 : zSh 26 = (16, 38, 0) := rfl
theorem sh_27 : zSh 27 = (16, 38, 0) := rfl
theorem sh_28 : zSh 28 = (16, 38, 0) := rfl
theorem sh_29 : zSh 29 = (16, 38, 0) := rfl
theorem sh_30 : zSh 30 = (16, 38, 0) := rfl
theorem sh_31 : zSh 31 = (16, 38, 0) := rfl
theorem sh_32 : zSh 32 = (16, 38, 0) := rfl
theorem sh_33 : zSh 33 = (16, 38, 0) := rfl
theorem sh_34 : zSh 34 = (16, 38, 0) := rfl
theorem sh_35 : zSh 35 = (16, 38, 0) := rfl
theorem sh_36 : zSh 36 = (16, 38, 0) := rfl
theorem sh_37 : zSh 37 = (16, 38, 0) := rfl
theorem sh_38 : zSh 38 = (16, 38, 0) := rfl
theorem sh_39 : zSh 39 = (16, 38, 0) := rfl
theorem sh_40 : zSh 40 = (16, 38, 0) := rfl
theorem sh_41 : zSh 41 = (16, 38, 0) := rfl
theorem sh_42 : zSh 42 = (16, 8, 0) := rfl
theorem sh_43 : zSh 43 = (16, 8, 0) := rfl
theorem sh_44 : zSh 44 = (16, 9, 0) := rfl
theorem sh_45 : zSh 45 = (16, 8, 0) := rfl
theorem sh_46 : zSh 46 = (20, 12, 4) := rfl
theorem sh_47 : zSh 47 = (21, 60, 6) := rfl
theorem sh_48 : zSh 48 = (4, 4, 2) := rfl
theorem sh_49 : zSh 49 = (16, 60, 0) := rfl
theorem sh_50 : zSh 50 = (16, 30, 0) := rfl
theorem sh_51 : zSh 51 = (4, 4, 2) := rfl
theorem sh_52 : zSh 52 = (16, 60, 0) := rfl
theorem sh_53 : zSh 53 = (16, 30, 0) := rfl
theorem sh_54 : zSh 54 = (16, 12, 0) := rfl
theorem sh_55 : zSh 55 = (16, 60, 0) := rfl
theorem sh_56 : zSh 56 = (16, 61, 0) := rfl
theorem sh_57 : zSh 57 = (0, 8, 3) := rfl
theorem sh_58 : zSh 58 = (16, 6, 0) := rfl
theorem sh_59 : zSh 59 = (16, 6, 0) := rfl
theorem sh_60 : zSh 60 = (0, 8, 3) := rfl
theorem sh_61 : zSh 61 = (16, 6, 0) := rfl
theorem sh_62 : zSh 62 = (16, 6, 0) := rfl
theorem sh_63 : zSh 63 = (0, 8, 3) := rfl
theorem sh_64 : zSh 64 = (16, 6, 0) := rfl
theorem sh_65 : zSh 65 = (16, 6, 0) := rfl
theorem sh_66 : zSh 66 = (0, 8, 3) := rfl
theorem sh_67 : zSh 67 = (16, 6, 0) := rfl
theorem sh_68 : zSh 68 = (16, 6, 0) := rfl
theorem sh_69 : zSh 69 = (0, 8, 3) := rfl
theorem sh_70 : zSh 70 = (16, 6, 0) := rfl
theorem sh_71 : zSh 71 = (16, 6, 0) := rfl
theorem sh_72 : zSh 72 = (0, 8, 3) := rfl
theorem sh_73 : zSh 73 = (16, 6, 0) := rfl
theorem sh_74 : zSh 74 = (16, 6, 0) := rfl
theorem sh_75 : zSh 75 = (0, 8, 3) := rfl
theorem sh_76 : zSh 76 = (16, 6, 0) := rfl
theorem sh_77 : zSh 77 = (16, 6, 0) := rfl
theorem sh_78 : zSh 78 = (0, 8, 3) := rfl
theorem sh_79 : zSh 79 = (16, 6, 0) := rfl
theorem sh_80 : zSh 80 = (16, 6, 0) := rfl
theorem sh_81 : zSh 81 = (0, 8, 3) := rfl
theorem sh_82 : zSh 82 = (16, 6, 0) := rfl
theorem sh_83 : zSh 83 = (16, 6, 0) := rfl
theorem sh_84 : zSh 84 = (0, 8, 3) := rfl
theorem sh_85 : zSh 85 = (16, 6, 0) := rfl
theorem sh_86 : zSh 86 = (16, 6, 0) := rfl
theorem sh_87 : zSh 87 = (0, 8, 3) := rfl
theorem sh_88 : zSh 88 = (16, 6, 0) := rfl
theorem sh_89 : zSh 89 = (16, 6, 0) := rfl
theorem sh_90 : zSh 90 = (0, 8, 3) := rfl
theorem sh_91 : zSh 91 = (16, 6, 0) := rfl
theorem sh_92 : zSh 92 = (16, 6, 0) := rfl
theorem sh_93 : zSh 93 = (5, 6, 3) := rfl
theorem sh_94 : zSh 94 = (16, 12, 0) := rfl
theorem sh_95 : zSh 95 = (5, 6, 3) := rfl
theorem sh_96 : zSh 96 = (16, 12, 0) := rfl
theorem sh_97 : zSh 97 = (5, 6, 3) := rfl
theorem sh_98 : zSh 98 = (16, 12, 0) := rfl
theorem sh_99 : zSh 99 = (5, 6, 3) := rfl
theorem sh_100 : zSh 100 = (16, 12, 0) := rfl
theorem sh_101 : zSh 101 = (5, 6, 3) := rfl
theorem sh_102 : zSh 102 = (16, 12, 0) := rfl
theorem sh_103 : zSh 103 = (5, 6, 3) := rfl
theorem sh_104 : zSh 104 = (16, 12, 0) := rfl
theorem sh_105 : zSh 105 = (5, 6, 3) := rfl
theorem sh_106 : zSh 106 = (16, 12, 0) := rfl
theorem sh_107 : zSh 107 = (5, 6, 3) := rfl
theorem sh_108 : zSh 108 = (16, 12, 0) := rfl
theorem sh_109 : zSh 109 = (5, 6, 3) := rfl
theorem sh_110 : zSh 110 = (16, 12, 0) := rfl
theorem sh_111 : zSh 111 = (5, 6, 3) := rfl
theorem sh_112 : zSh 112 = (16, 12, 0) := rfl
theorem sh_113 : zSh 113 = (5, 6, 3) := rfl
theorem sh_114 : zSh 114 = (16, 12, 0) := rfl
theorem sh_115 : zSh 115 = (5, 6, 3) := rfl
theorem sh_116 : zSh 116 = (16, 12, 0) := rfl
theorem sh_117 : zSh 117 = (5, 6, 3) := rfl
theorem sh_118 : zSh 118 = (16, 12, 0) := rfl
theorem sh_119 : zSh 119 = (5, 6, 3) := rfl
theorem sh_120 : zSh 120 = (16, 12, 0) := rfl
theorem sh_121 : zSh 121 = (5, 6, 3) := rfl
theorem sh_122 : zSh 122 = (16, 12, 0) := rfl
theorem sh_123 : zSh 123 = (5, 6, 3) := rfl
theorem sh_124 : zSh 124 = (16, 12, 0) := rfl
theorem sh_125 : zSh 125 = (5, 6, 3) := rfl
theorem sh_126 : zSh 126 = (16, 12, 0) := rfl
theorem sh_127 : zSh 127 = (5, 6, 3) := rfl
theorem sh_128 : zSh 128 = (16, 12, 0) := rfl
theorem sh_129 : zSh 129 = (5, 6, 3) := rfl
theorem sh_130 : zSh 130 = (16, 12, 0) := rfl
theorem sh_131 : zSh 131 = (5, 6, 3) := rfl
theorem sh_132 : zSh 132 = (16, 12, 0) := rfl
theorem sh_133 : zSh 133 = (5, 6, 3) := rfl
theorem sh_134 : zSh 134 = (16, 12, 0) := rfl
theorem sh_135 : zSh 135 = (5, 6, 3) := rfl
theorem sh_136 : zSh 136 = (16, 12, 0) := rfl
theorem sh_137 : zSh 137 = (5, 6, 3) := rfl
theorem sh_138 : zSh 138 = (16, 12, 0) := rfl
theorem sh_139 : zSh 139 = (5, 6, 3) := rfl
theorem sh_140 : zSh 140 = (16, 12, 0) := rfl
theorem sh_141 : zSh 141 = (5, 6, 3) := rfl
theorem sh_142 : zSh 142 = (16, 12, 0) := rfl
theorem sh_143 : zSh 143 = (5, 6, 3) := rfl
theorem sh_144 : zSh 144 = (16, 12, 0) := rfl
theorem sh_145 : zSh 145 = (5, 6, 3) := rfl
theorem sh_146 : zSh 146 = (16, 12, 0) := rfl
theorem sh_147 : zSh 147 = (5, 6, 3) := rfl
theorem sh_148 : zSh 148 = (16, 12, 0) := rfl
theorem sh_149 : zSh 149 = (5, 6, 3) := rfl
theorem sh_150 : zSh 150 = (16, 12, 0) := rfl
theorem sh_151 : zSh 151 = (5, 6, 3) := rfl
theorem sh_152 : zSh 152 = (16, 12, 0) := rfl
theorem sh_153 : zSh 153 = (5, 6, 3) := rfl
theorem sh_154 : zSh 154 = (16, 12, 0) := rfl
theorem sh_155 : zSh 155 = (5, 6, 3) := rfl
theorem sh_156 : zSh 156 = (16, 12, 0) := rfl
theorem sh_157 : zSh 157 = (5, 6, 3) := rfl
theorem sh_158 : zSh 158 = (16, 12, 0) := rfl
theorem sh_159 : zSh 159 = (5, 6, 3) := rfl
theorem sh_160 : zSh 160 = (16, 12, 0) := rfl
theorem sh_161 : zSh 161 = (5, 6, 3) := rfl
theorem sh_162 : zSh 162 = (16, 12, 0) := rfl
theorem sh_163 : zSh 163 = (5, 6, 3) := rfl
theorem sh_164 : zSh 164 = (16, 12, 0) := rfl
theorem sh_165 : zSh 165 = (5, 6, 3) := rfl
theorem sh_166 : zSh 166 = (16, 12, 0) := rfl
theorem sh_167 : zSh 167 = (5, 6, 3) := rfl
theorem sh_168 : zSh 168 = (16, 12, 0) := rfl
theorem sh_169 : zSh 169 = (5, 6, 3) := rfl
theorem sh_170 : zSh 170 = (16, 12, 0) := rfl
theorem sh_171 : zSh 171 = (5, 6, 3) := rfl
theorem sh_172 : zSh 172 = (16, 12, 0) := rfl
theorem sh_173 : zSh 173 = (5, 6, 3) := rfl
theorem sh_174 : zSh 174 = (16, 12, 0) := rfl
theorem sh_175 : zSh 175 = (5, 6, 3) := rfl
theorem sh_176 : zSh 176 = (16, 12, 0) := rfl
theorem sh_177 : zSh 177 = (5, 6, 3) := rfl
theorem sh_178 : zSh 178 = (16, 12, 0) := rfl
theorem sh_179 : zSh 179 = (5, 6, 3) := rfl
theorem sh_180 : zSh 180 = (16, 12, 0) := rfl
theorem sh_181 : zSh 181 = (5, 6, 3) := rfl
theorem sh_182 : zSh 182 = (16, 12, 0) := rfl
theorem sh_183 : zSh 183 = (5, 6, 3) := rfl
theorem sh_184 : zSh 184 = (16, 12, 0) := rfl
theorem sh_185 : zSh 185 = (5, 6, 3) := rfl
theorem sh_186 : zSh 186 = (16, 12, 0) := rfl
theorem sh_187 : zSh 187 = (5, 6, 3) := rfl
theorem sh_188 : zSh 188 = (16, 12, 0) := rfl
theorem sh_189 : zSh 189 = (5, 6, 3) := rfl
theorem sh_190 : zSh 190 = (16, 12, 0) := rfl
theorem sh_191 : zSh 191 = (5, 6, 3) := rfl
theorem sh_192 : zSh 192 = (16, 12, 0) := rfl
theorem sh_193 : zSh 193 = (5, 6, 3) := rfl
theorem sh_194 : zSh 194 = (16, 12, 0) := rfl
theorem sh_195 : zSh 195 = (5, 6, 3) := rfl
theorem sh_196 : zSh 196 = (16, 12, 0) := rfl
theorem sh_197 : zSh 197 = (5, 6, 3) := rfl
theorem sh_198 : zSh 198 = (16, 12, 0) := rfl
theorem sh_199 : zSh 199 = (5, 6, 3) := rfl
theorem sh_200 : zSh 200 = (16, 12, 0) := rfl
theorem sh_201 : zSh 201 = (5, 6, 3) := rfl
theorem sh_202 : zSh 202 = (16, 12, 0) := rfl
theorem sh_203 : zSh 203 = (5, 6, 3) := rfl
theorem sh_204 : zSh 204 = (16, 12, 0) := rfl
theorem sh_205 : zSh 205 = (5, 6, 3) := rfl
theorem sh_206 : zSh 206 = (16, 12, 0) := rfl
theorem sh_207 : zSh 207 = (5, 6, 3) := rfl
theorem sh_208 : zSh 208 = (16, 12, 0) := rfl
theorem sh_209 : zSh 209 = (5, 6, 3) := rfl
theorem sh_210 : zSh 210 = (16, 12, 0) := rfl
theorem sh_211 : zSh 211 = (5, 6, 3) := rfl
theorem sh_212 : zSh 212 = (16, 12, 0) := rfl
theorem sh_213 : zSh 213 = (10, 4, 2) := rfl
theorem sh_214 : zSh 214 = (16, 600, 0) := rfl
theorem sh_215 : zSh 215 = (9, 8, 3) := rfl
theorem sh_216 : zSh 216 = (16, 60, 0) := rfl
theorem sh_217 : zSh 217 = (16, 60, 0) := rfl
theorem sh_218 : zSh 218 = (16, 72, 0) := rfl
theorem sh_219 : zSh 219 = (16, 72, 0) := rfl
theorem sh_220 : zSh 220 = (16, 72, 0) := rfl
theorem sh_221 : zSh 221 = (6, 12, 4) := rfl
theorem sh_222 : zSh 222 = (16, 72, 0) := rfl
theorem sh_223 : zSh 223 = (16, 12, 0) := rfl
theorem sh_224 : zSh 224 = (19, 72, 7) := rfl
theorem sh_225 : zSh 225 = (16, 12, 0) := rfl
theorem sh_226 : zSh 226 = (16, 12, 0) := rfl
theorem sh_227 : zSh 227 = (16, 12, 0) := rfl
theorem sh_228 : zSh 228 = (16, 12, 0) := rfl
theorem sh_229 : zSh 229 = (16, 12, 0) := rfl
theorem sh_230 : zSh 230 = (16, 12, 0) := rfl
theorem sh_231 : zSh 231 = (16, 12, 0) := rfl
theorem sh_232 : zSh 232 = (16, 12, 0) := rfl
theorem sh_233 : zSh 233 = (16, 12, 0) := rfl
theorem sh_234 : zSh 234 = (16, 12, 0) := rfl
theorem sh_235 : zSh 235 = (16, 12, 0) := rfl
theorem sh_236 : zSh 236 = (16, 12, 0) := rfl
theorem sh_237 : zSh 237 = (16, 12, 0) := rfl
theorem sh_238 : zSh 238 = (16, 12, 0) := rfl
theorem sh_239 : zSh 239 = (16, 12, 0) := rfl
theorem sh_240 : zSh 240 = (16, 12, 0) := rfl
theorem sh_241 : zSh 241 = (16, 12, 0) := rfl
theorem sh_242 : zSh 242 = (16, 12, 0) := rfl
theorem sh_243 : zSh 243 = (16, 12, 0) := rfl
theorem sh_244 : zSh 244 = (16, 12, 0) := rfl
theorem sh_245 : zSh 245 = (16, 12, 0) := rfl
theorem sh_246 : zSh 246 = (16, 12, 0) := rfl
theorem sh_247 : zSh 247 = (16, 12, 0) := rfl
theorem sh_248 : zSh 248 = (16, 12, 0) := rfl
theorem sh_249 : zSh 249 = (16, 12, 0) := rfl
theorem sh_250 : zSh 250 = (16, 12, 0) := rfl
theorem sh_251 : zSh 251 = (16, 12, 0) := rfl
theorem sh_252 : zSh 252 = (16, 12, 0) := rfl
theorem sh_253 : zSh 253 = (16, 12, 0) := rfl
theorem sh_254 : zSh 254 = (16, 12, 0) := rfl
theorem sh_255 : zSh 255 = (16, 12, 0) := rfl
theorem sh_256 : zSh 256 = (16, 12, 0) := rfl
theorem sh_257 : zSh 257 = (16, 12, 0) := rfl
theorem sh_258 : zSh 258 = (16, 12, 0) := rfl
theorem sh_259 : zSh 259 = (16, 12, 0) := rfl
theorem sh_260 : zSh 260 = (16, 12, 0) := rfl
theorem sh_261 : zSh 261 = (16, 12, 0) := rfl
theorem sh_262 : zSh 262 = (16, 12, 0) := rfl
theorem sh_263 : zSh 263 = (16, 12, 0) := rfl
theorem sh_264 : zSh 264 = (16, 12, 0) := rfl
theorem sh_265 : zSh 265 = (16, 12, 0) := rfl
theorem sh_266 : zSh 266 = (16, 12, 0) := rfl
theorem sh_267 : zSh 267 = (16, 12, 0) := rfl
theorem sh_268 : zSh 268 = (16, 12, 0) := rfl
theorem sh_269 : zSh 269 = (16, 12, 0) := rfl
theorem sh_270 : zSh 270 = (16, 12, 0) := rfl
theorem sh_271 : zSh 271 = (16, 12, 0) := rfl
theorem sh_272 : zSh 272 = (16, 12, 0) := rfl
theorem sh_273 : zSh 273 = (16, 12, 0) := rfl
theorem sh_274 : zSh 274 = (16, 12, 0) := rfl
theorem sh_275 : zSh 275 = (16, 12, 0) := rfl
theorem sh_276 : zSh 276 = (16, 12, 0) := rfl
theorem sh_277 : zSh 277 = (16, 12, 0) := rfl
theorem sh_278 : zSh 278 = (16, 12, 0) := rfl
theorem sh_279 : zSh 279 = (16, 12, 0) := rfl
theorem sh_280 : zSh 280 = (16, 12, 0) := rfl
theorem sh_281 : zSh 281 = (16, 12, 0) := rfl
theorem sh_282 : zSh 282 = (16, 12, 0) := rfl
theorem sh_283 : zSh 283 = (16, 12, 0) := rfl
theorem sh_284 : zSh 284 = (16, 12, 0) := rfl
theorem sh_285 : zSh 285 = (16, 12, 0) := rfl
theorem sh_286 : zSh 286 = (16, 12, 0) := rfl
theorem sh_287 : zSh 287 = (16, 12, 0) := rfl
theorem sh_288 : zSh 288 = (16, 12, 0) := rfl
theorem sh_289 : zSh 289 = (16, 12, 0) := rfl
theorem sh_290 : zSh 290 = (16, 12, 0) := rfl
theorem sh_291 : zSh 291 = (16, 12, 0) := rfl
theorem sh_292 : zSh 292 = (16, 12, 0) := rfl
theorem sh_293 : zSh 293 = (16, 12, 0) := rfl
theorem sh_294 : zSh 294 = (16, 12, 0) := rfl
theorem sh_295 : zSh 295 = (16, 12, 0) := rfl
theorem sh_296 : zSh 296 = (16, 12, 0) := rfl
theorem sh_297 : zSh 297 = (16, 72, 0) := rfl
theorem sh_298 : zSh 298 = (16, 12, 0) := rfl
theorem sh_299 : zSh 299 = (19, 72, 7) := rfl
theorem sh_300 : zSh 300 = (16, 12, 0) := rfl
theorem sh_301 : zSh 301 = (16, 12, 0) := rfl
theorem sh_302 : zSh 302 = (16, 12, 0) := rfl
theorem sh_303 : zSh 303 = (16, 12, 0) := rfl
theorem sh_304 : zSh 304 = (16, 12, 0) := rfl
theorem sh_305 : zSh 305 = (16, 12, 0) := rfl
theorem sh_306 : zSh 306 = (16, 12, 0) := rfl
theorem sh_307 : zSh 307 = (16, 12, 0) := rfl
theorem sh_308 : zSh 308 = (16, 12, 0) := rfl
theorem sh_309 : zSh 309 = (16, 12, 0) := rfl
theorem sh_310 : zSh 310 = (16, 12, 0) := rfl
theorem sh_311 : zSh 311 = (16, 12, 0) := rfl
theorem sh_312 : zSh 312 = (16, 12, 0) := rfl
theorem sh_313 : zSh 313 = (16, 12, 0) := rfl
theorem sh_314 : zSh 314 = (16, 12, 0) := rfl
theorem sh_315 : zSh 315 = (16, 12, 0) := rfl
theorem sh_316 : zSh 316 = (16, 12, 0) := rfl
theorem sh_317 : zSh 317 = (16, 12, 0) := rfl
theorem sh_318 : zSh 318 = (16, 12, 0) := rfl
theorem sh_319 : zSh 319 = (16, 12, 0) := rfl
theorem sh_320 : zSh 320 = (16, 12, 0) := rfl
theorem sh_321 : zSh 321 = (16, 12, 0) := rfl
theorem sh_322 : zSh 322 = (16, 12, 0) := rfl
theorem sh_323 : zSh 323 = (16, 12, 0) := rfl
theorem sh_324 : zSh 324 = (16, 12, 0) := rfl
theorem sh_325 : zSh 325 = (16, 12, 0) := rfl
theorem sh_326 : zSh 326 = (16, 12, 0) := rfl
theorem sh_327 : zSh 327 = (16, 12, 0) := rfl
theorem sh_328 : zSh 328 = (16, 12, 0) := rfl
theorem sh_329 : zSh 329 = (16, 12, 0) := rfl
theorem sh_330 : zSh 330 = (16, 12, 0) := rfl
theorem sh_331 : zSh 331 = (16, 12, 0) := rfl
theorem sh_332 : zSh 332 = (16, 12, 0) := rfl
theorem sh_333 : zSh 333 = (16, 12, 0) := rfl
theorem sh_334 : zSh 334 = (16, 12, 0) := rfl
theorem sh_335 : zSh 335 = (16, 12, 0) := rfl
theorem sh_336 : zSh 336 = (16, 12, 0) := rfl
theorem sh_337 : zSh 337 = (16, 12, 0) := rfl
theorem sh_338 : zSh 338 = (16, 12, 0) := rfl
theorem sh_339 : zSh 339 = (16, 12, 0) := rfl
theorem sh_340 : zSh 340 = (16, 12, 0) := rfl
theorem sh_341 : zSh 341 = (16, 12, 0) := rfl
theorem sh_342 : zSh 342 = (16, 12, 0) := rfl
theorem sh_343 : zSh 343 = (16, 12, 0) := rfl
theorem sh_344 : zSh 344 = (16, 12, 0) := rfl
theorem sh_345 : zSh 345 = (16, 12, 0) := rfl
theorem sh_346 : zSh 346 = (16, 12, 0) := rfl
theorem sh_347 : zSh 347 = (16, 12, 0) := rfl
theorem sh_348 : zSh 348 = (16, 12, 0) := rfl
theorem sh_349 : zSh 349 = (16, 12, 0) := rfl
theorem sh_350 : zSh 350 = (16, 12, 0) := rfl
theorem sh_351 : zSh 351 = (16, 12, 0) := rfl
theorem sh_352 : zSh 352 = (16, 12, 0) := rfl
theorem sh_353 : zSh 353 = (16, 12, 0) := rfl
theorem sh_354 : zSh 354 = (16, 12, 0) := rfl
theorem sh_355 : zSh 355 = (16, 12, 0) := rfl
theorem sh_356 : zSh 356 = (16, 12, 0) := rfl
theorem sh_357 : zSh 357 = (16, 12, 0) := rfl
theorem sh_358 : zSh 358 = (16, 12, 0) := rfl
theorem sh_359 : zSh 359 = (16, 12, 0) := rfl
theorem sh_360 : zSh 360 = (16, 12, 0) := rfl
theorem sh_361 : zSh 361 = (16, 12, 0) := rfl
theorem sh_362 : zSh 362 = (16, 12, 0) := rfl
theorem sh_363 : zSh 363 = (16, 12, 0) := rfl
theorem sh_364 : zSh 364 = (16, 12, 0) := rfl
theorem sh_365 : zSh 365 = (16, 12, 0) := rfl
theorem sh_366 : zSh 366 = (16, 12, 0) := rfl
theorem sh_367 : zSh 367 = (16, 12, 0) := rfl
theorem sh_368 : zSh 368 = (16, 12, 0) := rfl
theorem sh_369 : zSh 369 = (16, 12, 0) := rfl
theorem sh_370 : zSh 370 = (16, 12, 0) := rfl
theorem sh_371 : zSh 371 = (16, 12, 0) := rfl
theorem sh_372 : zSh 372 = (3, 11, 4) := rfl
theorem sh_373 : zSh 373 = (16, 72, 0) := rfl
theorem sh_374 : zSh 374 = (16, 12, 0) := rfl
theorem sh_375 : zSh 375 = (19, 72, 7) := rfl
theorem sh_376 : zSh 376 = (16, 12, 0) := rfl
theorem sh_377 : zSh 377 = (16, 12, 0) := rfl
theorem sh_378 : zSh 378 = (16, 12, 0) := rfl
theorem sh_379 : zSh 379 = (16, 12, 0) := rfl
theorem sh_380 : zSh 380 = (16, 12, 0) := rfl
theorem sh_381 : zSh 381 = (16, 12, 0) := rfl
theorem sh_382 : zSh 382 = (16, 12, 0) := rfl
theorem sh_383 : zSh 383 = (16, 12, 0) := rfl
theorem sh_384 : zSh 384 = (16, 12, 0) := rfl
theorem sh_385 : zSh 385 = (16, 12, 0) := rfl
theorem sh_386 : zSh 386 = (16, 12, 0) := rfl
theorem sh_387 : zSh 387 = (16, 12, 0) := rfl
theorem sh_388 : zSh 388 = (16, 12, 0) := rfl
theorem sh_389 : zSh 389 = (16, 12, 0) := rfl
theorem sh_390 : zSh 390 = (16, 12, 0) := rfl
theorem sh_391 : zSh 391 = (16, 12, 0) := rfl
theorem sh_392 : zSh 392 = (16, 12, 0) := rfl
theorem sh_393 : zSh 393 = (16, 12, 0) := rfl
theorem sh_394 : zSh 394 = (16, 12, 0) := rfl
theorem sh_395 : zSh 395 = (16, 12, 0) := rfl
theorem sh_396 : zSh 396 = (16, 12, 0) := rfl
theorem sh_397 : zSh 397 = (16, 12, 0) := rfl
theorem sh_398 : zSh 398 = (16, 12, 0) := rfl
theorem sh_399 : zSh 399 = (16, 12, 0) := rfl
theorem sh_400 : zSh 400 = (16, 12, 0) := rfl
theorem sh_401 : zSh 401 = (16, 12, 0) := rfl
theorem sh_402 : zSh 402 = (16, 12, 0) := rfl
theorem sh_403 : zSh 403 = (16, 12, 0) := rfl
theorem sh_404 : zSh 404 = (16, 12, 0) := rfl
theorem sh_405 : zSh 405 = (16, 12, 0) := rfl
theorem sh_406 : zSh 406 = (16, 12, 0) := rfl
theorem sh_407 : zSh 407 = (16, 12, 0) := rfl
theorem sh_408 : zSh 408 = (16, 12, 0) := rfl
theorem sh_409 : zSh 409 = (16, 12, 0) := rfl
theorem sh_410 : zSh 410 = (16, 12, 0) := rfl
theorem sh_411 : zSh 411 = (16, 12, 0) := rfl
theorem sh_412 : zSh 412 = (16, 12, 0) := rfl
theorem sh_413 : zSh 413 = (16, 12, 0) := rfl
theorem sh_414 : zSh 414 = (16, 12, 0) := rfl
theorem sh_415 : zSh 415 = (16, 12, 0) := rfl
theorem sh_416 : zSh 416 = (16, 12, 0) := rfl
theorem sh_417 : zSh 417 = (16, 12, 0) := rfl
theorem sh_418 : zSh 418 = (16, 12, 0) := rfl
theorem sh_419 : zSh 419 = (16, 12, 0) := rfl
theorem sh_420 : zSh 420 = (16, 12, 0) := rfl
theorem sh_421 : zSh 421 = (16, 12, 0) := rfl
theorem sh_422 : zSh 422 = (16, 12, 0) := rfl
theorem sh_423 : zSh 423 = (16, 12, 0) := rfl
theorem sh_424 : zSh 424 = (16, 12, 0) := rfl
theorem sh_425 : zSh 425 = (16, 12, 0) := rfl
theorem sh_426 : zSh 426 = (16, 12, 0) := rfl
theorem sh_427 : zSh 427 = (16, 12, 0) := rfl
theorem sh_428 : zSh 428 = (16, 12, 0) := rfl
theorem sh_429 : zSh 429 = (16, 12, 0) := rfl
theorem sh_430 : zSh 430 = (16, 12, 0) := rfl
theorem sh_431 : zSh 431 = (16, 12, 0) := rfl
theorem sh_432 : zSh 432 = (16, 12, 0) := rfl
theorem sh_433 : zSh 433 = (16, 12, 0) := rfl
theorem sh_434 : zSh 434 = (16, 12, 0) := rfl
theorem sh_435 : zSh 435 = (16, 12, 0) := rfl
theorem sh_436 : zSh 436 = (16, 12, 0) := rfl
theorem sh_437 : zSh 437 = (16, 12, 0) := rfl
theorem sh_438 : zSh 438 = (16, 12, 0) := rfl
theorem sh_439 : zSh 439 = (16, 12, 0) := rfl
theorem sh_440 : zSh 440 = (16, 12, 0) := rfl
theorem sh_441 : zSh 441 = (16, 12, 0) := rfl
theorem sh_442 : zSh 442 = (16, 12, 0) := rfl
theorem sh_443 : zSh 443 = (16, 12, 0) := rfl
theorem sh_444 : zSh 444 = (16, 12, 0) := rfl
theorem sh_445 : zSh 445 = (16, 12, 0) := rfl
theorem sh_446 : zSh 446 = (16, 12, 0) := rfl
theorem sh_447 : zSh 447 = (16, 12, 0) := rfl
theorem sh_448 : zSh 448 = (16, 12, 0) := rfl
theorem sh_449 : zSh 449 = (16, 12, 0) := rfl
theorem sh_450 : zSh 450 = (16, 12, 0) := rfl
theorem sh_451 : zSh 451 = (7, 7, 3) := rfl
theorem sh_452 : zSh 452 = (16, 5, 0) := rfl
theorem sh_453 : zSh 453 = (16, 12, 0) := rfl
theorem sh_454 : zSh 454 = (19, 12, 4) := rfl
theorem sh_455 : zSh 455 = (16, 32, 0) := rfl
theorem sh_456 : zSh 456 = (16, 32, 0) := rfl
theorem sh_457 : zSh 457 = (16, 32, 0) := rfl
theorem sh_458 : zSh 458 = (16, 32, 0) := rfl
theorem sh_459 : zSh 459 = (16, 32, 0) := rfl
theorem sh_460 : zSh 460 = (16, 32, 0) := rfl
theorem sh_461 : zSh 461 = (16, 32, 0) := rfl
theorem sh_462 : zSh 462 = (16, 32, 0) := rfl
theorem sh_463 : zSh 463 = (16, 32, 0) := rfl
theorem sh_464 : zSh 464 = (16, 32, 0) := rfl
theorem sh_465 : zSh 465 = (16, 32, 0) := rfl
theorem sh_466 : zSh 466 = (16, 32, 0) := rfl
theorem sh_467 : zSh 467 = (16, 32, 0) := rfl
theorem sh_468 : zSh 468 = (22, 20, 5) := rfl
theorem sh_469 : zSh 469 = (2, 6, 3) := rfl
theorem sh_470 : zSh 470 = (4, 4, 2) := rfl
theorem sh_471 : zSh 471 = (16, 60, 0) := rfl
theorem sh_472 : zSh 472 = (16, 30, 0) := rfl
theorem sh_473 : zSh 473 = (5, 6, 3) := rfl
theorem sh_474 : zSh 474 = (16, 12, 0) := rfl
theorem sh_475 : zSh 475 = (2, 6, 3) := rfl
theorem sh_476 : zSh 476 = (4, 4, 2) := rfl
theorem sh_477 : zSh 477 = (16, 60, 0) := rfl
theorem sh_478 : zSh 478 = (16, 30, 0) := rfl
theorem sh_479 : zSh 479 = (5, 6, 3) := rfl
theorem sh_480 : zSh 480 = (16, 12, 0) := rfl
theorem sh_481 : zSh 481 = (2, 6, 3) := rfl
theorem sh_482 : zSh 482 = (4, 4, 2) := rfl
theorem sh_483 : zSh 483 = (16, 60, 0) := rfl
theorem sh_484 : zSh 484 = (16, 30, 0) := rfl
theorem sh_485 : zSh 485 = (5, 6, 3) := rfl
theorem sh_486 : zSh 486 = (16, 12, 0) := rfl
theorem sh_487 : zSh 487 = (2, 6, 3) := rfl
theorem sh_488 : zSh 488 = (4, 4, 2) := rfl
theorem sh_489 : zSh 489 = (16, 60, 0) := rfl
theorem sh_490 : zSh 490 = (16, 30, 0) := rfl
theorem sh_491 : zSh 491 = (5, 6, 3) := rfl
theorem sh_492 : zSh 492 = (16, 12, 0) := rfl
theorem sh_493 : zSh 493 = (2, 6, 3) := rfl
theorem sh_494 : zSh 494 = (4, 4, 2) := rfl
theorem sh_495 : zSh 495 = (16, 60, 0) := rfl
theorem sh_496 : zSh 496 = (16, 30, 0) := rfl
theorem sh_497 : zSh 497 = (5, 6, 3) := rfl
theorem sh_498 : zSh 498 = (16, 12, 0) := rfl
theorem sh_499 : zSh 499 = (2, 6, 3) := rfl
theorem sh_500 : zSh 500 = (4, 4, 2) := rfl
theorem sh_501 : zSh 501 = (16, 60, 0) := rfl
theorem sh_502 : zSh 502 = (16, 30, 0) := rfl
theorem sh_503 : zSh 503 = (5, 6, 3) := rfl
theorem sh_504 : zSh 504 = (16, 12, 0) := rfl
theorem sh_505 : zSh 505 = (2, 6, 3) := rfl
theorem sh_506 : zSh 506 = (4, 4, 2) := rfl
theorem sh_507 : zSh 507 = (16, 60, 0) := rfl
theorem sh_508 : zSh 508 = (16, 30, 0) := rfl
theorem sh_509 : zSh 509 = (5, 6, 3) := rfl
theorem sh_510 : zSh 510 = (16, 12, 0) := rfl
theorem sh_511 : zSh 511 = (2, 6, 3) := rfl
theorem sh_512 : zSh 512 = (4, 4, 2) := rfl
theorem sh_513 : zSh 513 = (16, 60, 0) := rfl
theorem sh_514 : zSh 514 = (16, 30, 0) := rfl
theorem sh_515 : zSh 515 = (5, 6, 3) := rfl
theorem sh_516 : zSh 516 = (16, 12, 0) := rfl
theorem sh_517 : zSh 517 = (2, 6, 3) := rfl
theorem sh_518 : zSh 518 = (4, 4, 2) := rfl
theorem sh_519 : zSh 519 = (16, 60, 0) := rfl
theorem sh_520 : zSh 520 = (16, 30, 0) := rfl
theorem sh_521 : zSh 521 = (5, 6, 3) := rfl
theorem sh_522 : zSh 522 = (16, 12, 0) := rfl
theorem sh_523 : zSh 523 = (2, 6, 3) := rfl
theorem sh_524 : zSh 524 = (4, 4, 2) := rfl
theorem sh_525 : zSh 525 = (16, 60, 0) := rfl
theorem sh_526 : zSh 526 = (16, 30, 0) := rfl
theorem sh_527 : zSh 527 = (5, 6, 3) := rfl
theorem sh_528 : zSh 528 = (16, 12, 0) := rfl
theorem sh_529 : zSh 529 = (2, 6, 3) := rfl
theorem sh_530 : zSh 530 = (4, 4, 2) := rfl
theorem sh_531 : zSh 531 = (16, 60, 0) := rfl
theorem sh_532 : zSh 532 = (16, 30, 0) := rfl
theorem sh_533 : zSh 533 = (5, 6, 3) := rfl
theorem sh_534 : zSh 534 = (16, 12, 0) := rfl
theorem sh_535 : zSh 535 = (2, 6, 3) := rfl
theorem sh_536 : zSh 536 = (4, 4, 2) := rfl
theorem sh_537 : zSh 537 = (16, 60, 0) := rfl
theorem sh_538 : zSh 538 = (16, 30, 0) := rfl
theorem sh_539 : zSh 539 = (5, 6, 3) := rfl
theorem sh_540 : zSh 540 = (16, 12, 0) := rfl
theorem sh_541 : zSh 541 = (2, 6, 3) := rfl
theorem sh_542 : zSh 542 = (4, 4, 2) := rfl
theorem sh_543 : zSh 543 = (16, 60, 0) := rfl
theorem sh_544 : zSh 544 = (16, 30, 0) := rfl
theorem sh_545 : zSh 545 = (5, 6, 3) := rfl
theorem sh_546 : zSh 546 = (16, 12, 0) := rfl
theorem sh_547 : zSh 547 = (2, 6, 3) := rfl
theorem sh_548 : zSh 548 = (4, 4, 2) := rfl
theorem sh_549 : zSh 549 = (16, 60, 0) := rfl
theorem sh_550 : zSh 550 = (16, 30, 0) := rfl
theorem sh_551 : zSh 551 = (5, 6, 3) := rfl
theorem sh_552 : zSh 552 = (16, 12, 0) := rfl
theorem sh_553 : zSh 553 = (2, 6, 3) := rfl
theorem sh_554 : zSh 554 = (4, 4, 2) := rfl
theorem sh_555 : zSh 555 = (16, 60, 0) := rfl
theorem sh_556 : zSh 556 = (16, 30, 0) := rfl
theorem sh_557 : zSh 557 = (5, 6, 3) := rfl
theorem sh_558 : zSh 558 = (16, 12, 0) := rfl
theorem sh_559 : zSh 559 = (2, 6, 3) := rfl
theorem sh_560 : zSh 560 = (4, 4, 2) := rfl
theorem sh_561 : zSh 561 = (16, 60, 0) := rfl
theorem sh_562 : zSh 562 = (16, 30, 0) := rfl
theorem sh_563 : zSh 563 = (5, 6, 3) := rfl
theorem sh_564 : zSh 564 = (16, 12, 0) := rfl
theorem sh_565 : zSh 565 = (2, 6, 3) := rfl
theorem sh_566 : zSh 566 = (4, 4, 2) := rfl
theorem sh_567 : zSh 567 = (16, 60, 0) := rfl
theorem sh_568 : zSh 568 = (16, 30, 0) := rfl
theorem sh_569 : zSh 569 = (5, 6, 3) := rfl
theorem sh_570 : zSh 570 = (16, 12, 0) := rfl
theorem sh_571 : zSh 571 = (2, 6, 3) := rfl
theorem sh_572 : zSh 572 = (4, 4, 2) := rfl
theorem sh_573 : zSh 573 = (16, 60, 0) := rfl
theorem sh_574 : zSh 574 = (16, 30, 0) := rfl
theorem sh_575 : zSh 575 = (5, 6, 3) := rfl
theorem sh_576 : zSh 576 = (16, 12, 0) := rfl
theorem sh_577 : zSh 577 = (2, 6, 3) := rfl
theorem sh_578 : zSh 578 = (4, 4, 2) := rfl
theorem sh_579 : zSh 579 = (16, 60, 0) := rfl
theorem sh_580 : zSh 580 = (16, 30, 0) := rfl
theorem sh_581 : zSh 581 = (5, 6, 3) := rfl
theorem sh_582 : zSh 582 = (16, 12, 0) := rfl
theorem sh_583 : zSh 583 = (2, 6, 3) := rfl
theorem sh_584 : zSh 584 = (4, 4, 2) := rfl
theorem sh_585 : zSh 585 = (16, 60, 0) := rfl
theorem sh_586 : zSh 586 = (16, 30, 0) := rfl
theorem sh_587 : zSh 587 = (5, 6, 3) := rfl
theorem sh_588 : zSh 588 = (16, 12, 0) := rfl
theorem sh_589 : zSh 589 = (16, 240, 0) := rfl
theorem sh_590 : zSh 590 = (12, 52, 6) := rfl
theorem sh_591 : zSh 591 = (16, 1124, 0) := rfl
theorem sh_592 : zSh 592 = (16, 22480, 0) := rfl
theorem sh_593 : zSh 593 = (17, 600, 0) := rfl
theorem sh_594 : zSh 594 = (16, 1124, 0) := rfl
theorem sh_595 : zSh 595 = (16, 64, 0) := rfl
theorem sh_596 : zSh 596 = (16, 9, 0) := rfl
theorem sh_597 : zSh 597 = (16, 9, 0) := rfl
theorem sh_598 : zSh 598 = (16, 34, 0) := rfl
theorem sh_599 : zSh 599 = (16, 9, 0) := rfl
theorem sh_600 : zSh 600 = (16, 60, 0) := rfl
theorem sh_601 : zSh 601 = (16, 60, 0) := rfl
theorem sh_602 : zSh 602 = (16, 60, 0) := rfl
theorem sh_603 : zSh 603 = (16, 72, 0) := rfl
theorem sh_604 : zSh 604 = (16, 72, 0) := rfl
theorem sh_605 : zSh 605 = (16, 72, 0) := rfl
theorem sh_606 : zSh 606 = (16, 72, 0) := rfl
theorem sh_607 : zSh 607 = (16, 12, 0) := rfl
theorem sh_608 : zSh 608 = (16, 864, 0) := rfl
theorem sh_609 : zSh 609 = (16, 864, 0) := rfl
theorem sh_610 : zSh 610 = (16, 84, 0) := rfl
theorem sh_611 : zSh 611 = (16, 84, 0) := rfl
theorem sh_612 : zSh 612 = (16, 60, 0) := rfl
theorem sh_613 : zSh 613 = (16, 60, 0) := rfl
theorem sh_614 : zSh 614 = (16, 61, 0) := rfl
theorem sh_615 : zSh 615 = (16, 61, 0) := rfl
theorem sh_616 : zSh 616 = (16, 8, 0) := rfl
theorem sh_617 : zSh 617 = (16, 60, 0) := rfl
theorem sh_618 : zSh 618 = (16, 5, 0) := rfl
theorem sh_619 : zSh 619 = (16, 5, 0) := rfl
theorem sh_620 : zSh 620 = (18, 60, 0) := rfl
theorem sh_621 : zSh 621 = (17, 240, 0) := rfl
theorem tg_0_0 : ztg 0 0 = 1 := rfl
theorem tg_0_1 : ztg 0 1 = 0 := rfl
theorem tg_0_2 : ztg 0 2 = 0 := rfl
theorem tg_0_3 : ztg 0 3 = 0 := rfl
theorem tg_0_4 : ztg 0 4 = 0 := rfl
theorem tg_0_5 : ztg 0 5 = 0 := rfl
theorem tg_0_6 : ztg 0 6 = 2 := rfl
theorem tg_0_7 : ztg 0 7 = 2 := rfl
theorem tg_1_0 : ztg 1 0 = 2 := rfl
theorem tg_1_1 : ztg 1 1 = 2 := rfl
theorem tg_1_2 : ztg 1 2 = 0 := rfl
theorem tg_1_3 : ztg 1 3 = 2 := rfl
theorem tg_1_4 : ztg 1 4 = 0 := rfl
theorem tg_1_5 : ztg 1 5 = 2 := rfl
theorem tg_1_6 : ztg 1 6 = 2 := rfl
theorem tg_1_7 : ztg 1 7 = 0 := rfl
theorem tg_1_8 : ztg 1 8 = 0 := rfl
theorem tg_1_9 : ztg 1 9 = 0 := rfl
theorem tg_1_10 : ztg 1 10 = 0 := rfl
theorem tg_1_11 : ztg 1 11 = 0 := rfl
theorem tg_1_12 : ztg 1 12 = 0 := rfl
theorem tg_1_13 : ztg 1 13 = 0 := rfl
theorem tg_1_14 : ztg 1 14 = 2 := rfl
theorem tg_1_15 : ztg 1 15 = 2 := rfl
theorem tg_1_16 : ztg 1 16 = 2 := rfl
theorem tg_2_0 : ztg 2 0 = 0 := rfl
theorem tg_2_1 : ztg 2 1 = 0 := rfl
theorem tg_2_2 : ztg 2 2 = 0 := rfl
theorem tg_2_3 : ztg 2 3 = 0 := rfl
theorem tg_2_4 : ztg 2 4 = 2 := rfl
theorem tg_2_5 : ztg 2 5 = 2 := rfl
theorem tg_3_0 : ztg 3 0 = 2 := rfl
theorem tg_3_1 : ztg 3 1 = 2 := rfl
theorem tg_3_2 : ztg 3 2 = 0 := rfl
theorem tg_3_3 : ztg 3 3 = 2 := rfl
theorem tg_3_4 : ztg 3 4 = 2 := rfl
theorem tg_3_5 : ztg 3 5 = 2 := rfl
theorem tg_3_6 : ztg 3 6 = 2 := rfl
theorem tg_3_7 : ztg 3 7 = 2 := rfl
theorem tg_3_8 : ztg 3 8 = 2 := rfl
theorem tg_3_9 : ztg 3 9 = 0 := rfl
theorem tg_3_10 : ztg 3 10 = 0 := rfl
theorem tg_4_0 : ztg 4 0 = 2 := rfl
theorem tg_4_1 : ztg 4 1 = 2 := rfl
theorem tg_4_2 : ztg 4 2 = 0 := rfl
theorem tg_4_3 : ztg 4 3 = 0 := rfl
theorem tg_5_0 : ztg 5 0 = 0 := rfl
theorem tg_5_1 : ztg 5 1 = 0 := rfl
theorem tg_5_2 : ztg 5 2 = 0 := rfl
theorem tg_5_3 : ztg 5 3 = 1 := rfl
theorem tg_5_4 : ztg 5 4 = 0 := rfl
theorem tg_5_5 : ztg 5 5 = 2 := rfl
theorem tg_6_0 : ztg 6 0 = 2 := rfl
theorem tg_6_1 : ztg 6 1 = 2 := rfl
theorem tg_6_2 : ztg 6 2 = 0 := rfl
theorem tg_6_3 : ztg 6 3 = 2 := rfl
theorem tg_6_4 : ztg 6 4 = 2 := rfl
theorem tg_6_5 : ztg 6 5 = 2 := rfl
theorem tg_6_6 : ztg 6 6 = 0 := rfl
theorem tg_6_7 : ztg 6 7 = 2 := rfl
theorem tg_6_8 : ztg 6 8 = 2 := rfl
theorem tg_6_9 : ztg 6 9 = 2 := rfl
theorem tg_6_10 : ztg 6 10 = 0 := rfl
theorem tg_6_11 : ztg 6 11 = 0 := rfl
theorem tg_7_0 : ztg 7 0 = 2 := rfl
theorem tg_7_1 : ztg 7 1 = 2 := rfl
theorem tg_7_2 : ztg 7 2 = 2 := rfl
theorem tg_7_3 : ztg 7 3 = 0 := rfl
theorem tg_7_4 : ztg 7 4 = 2 := rfl
theorem tg_7_5 : ztg 7 5 = 2 := rfl
theorem tg_7_6 : ztg 7 6 = 2 := rfl
theorem tg_8_0 : ztg 8 0 = 2 := rfl
theorem tg_8_1 : ztg 8 1 = 2 := rfl
theorem tg_8_2 : ztg 8 2 = 2 := rfl
theorem tg_8_3 : ztg 8 3 = 0 := rfl
theorem tg_8_4 : ztg 8 4 = 2 := rfl
theorem tg_8_5 : ztg 8 5 = 2 := rfl
theorem tg_9_0 : ztg 9 0 = 2 := rfl
theorem tg_9_1 : ztg 9 1 = 0 := rfl
theorem tg_9_2 : ztg 9 2 = 2 := rfl
theorem tg_9_3 : ztg 9 3 = 2 := rfl
theorem tg_9_4 : ztg 9 4 = 0 := rfl
theorem tg_9_5 : ztg 9 5 = 2 := rfl
theorem tg_9_6 : ztg 9 6 = 2 := rfl
theorem tg_9_7 : ztg 9 7 = 2 := rfl
theorem tg_10_0 : ztg 10 0 = 2 := rfl
theorem tg_10_1 : ztg 10 1 = 0 := rfl
theorem tg_10_2 : ztg 10 2 = 0 := rfl
theorem tg_10_3 : ztg 10 3 = 0 := rfl
theorem tg_11_0 : ztg 11 0 = 2 := rfl
theorem tg_11_1 : ztg 11 1 = 2 := rfl
theorem tg_11_2 : ztg 11 2 = 2 := rfl
theorem tg_11_3 : ztg 11 3 = 2 := rfl
theorem tg_11_4 : ztg 11 4 = 2 := rfl
theorem tg_11_5 : ztg 11 5 = 2 := rfl
theorem tg_11_6 : ztg 11 6 = 2 := rfl
theorem tg_11_7 : ztg 11 7 = 0 := rfl
theorem tg_11_8 : ztg 11 8 = 0 := rfl
theorem tg_11_9 : ztg 11 9 = 2 := rfl
theorem tg_11_10 : ztg 11 10 = 0 := rfl
theorem tg_12_0 : ztg 12 0 = 2 := rfl
theorem tg_12_1 : ztg 12 1 = 2 := rfl
theorem tg_12_2 : ztg 12 2 = 0 := rfl
theorem tg_12_3 : ztg 12 3 = 2 := rfl
theorem tg_12_4 : ztg 12 4 = 0 := rfl
theorem tg_12_5 : ztg 12 5 = 0 := rfl
theorem tg_12_6 : ztg 12 6 = 0 := rfl
theorem tg_12_7 : ztg 12 7 = 0 := rfl
theorem tg_12_8 : ztg 12 8 = 2 := rfl
theorem tg_12_9 : ztg 12 9 = 2 := rfl
theorem tg_12_10 : ztg 12 10 = 0 := rfl
theorem tg_12_11 : ztg 12 11 = 0 := rfl
theorem tg_12_12 : ztg 12 12 = 2 := rfl
theorem tg_12_13 : ztg 12 13 = 2 := rfl
theorem tg_12_14 : ztg 12 14 = 0 := rfl
theorem tg_12_15 : ztg 12 15 = 2 := rfl
theorem tg_12_16 : ztg 12 16 = 2 := rfl
theorem tg_12_17 : ztg 12 17 = 0 := rfl
theorem tg_12_18 : ztg 12 18 = 0 := rfl
theorem tg_12_19 : ztg 12 19 = 0 := rfl
theorem tg_12_20 : ztg 12 20 = 2 := rfl
theorem tg_12_21 : ztg 12 21 = 2 := rfl
theorem tg_12_22 : ztg 12 22 = 2 := rfl
theorem tg_12_23 : ztg 12 23 = 2 := rfl
theorem tg_12_24 : ztg 12 24 = 2 := rfl
theorem tg_12_25 : ztg 12 25 = 2 := rfl
theorem tg_12_26 : ztg 12 26 = 0 := rfl
theorem tg_12_27 : ztg 12 27 = 2 := rfl
theorem tg_12_28 : ztg 12 28 = 2 := rfl
theorem tg_12_29 : ztg 12 29 = 2 := rfl
theorem tg_12_30 : ztg 12 30 = 2 := rfl
theorem tg_12_31 : ztg 12 31 = 0 := rfl
theorem tg_12_32 : ztg 12 32 = 0 := rfl
theorem tg_12_33 : ztg 12 33 = 2 := rfl
theorem tg_12_34 : ztg 12 34 = 2 := rfl
theorem tg_12_35 : ztg 12 35 = 2 := rfl
theorem tg_12_36 : ztg 12 36 = 2 := rfl
theorem tg_12_37 : ztg 12 37 = 2 := rfl
theorem tg_12_38 : ztg 12 38 = 2 := rfl
theorem tg_12_39 : ztg 12 39 = 0 := rfl
theorem tg_12_40 : ztg 12 40 = 0 := rfl
theorem tg_12_41 : ztg 12 41 = 0 := rfl
theorem tg_12_42 : ztg 12 42 = 0 := rfl
theorem tg_12_43 : ztg 12 43 = 2 := rfl
theorem tg_12_44 : ztg 12 44 = 2 := rfl
theorem tg_12_45 : ztg 12 45 = 2 := rfl
theorem tg_12_46 : ztg 12 46 = 2 := rfl
theorem tg_12_47 : ztg 12 47 = 0 := rfl
theorem tg_12_48 : ztg 12 48 = 0 := rfl
theorem tg_12_49 : ztg 12 49 = 2 := rfl
theorem tg_12_50 : ztg 12 50 = 2 := rfl
theorem tg_12_51 : ztg 12 51 = 0 := rfl
theorem gv_0_0 (H : PH) : gv H 0 0 = 1 := rfl
theorem gv_0_1 (H : PH) : gv H 0 1 = 213 := rfl
theorem gv_0_2 (H : PH) : gv H 0 2 = 215 := rfl
theorem gv_0_3 (H : PH) : gv H 0 3 = 221 := rfl
theorem gv_0_4 (H : PH) : gv H 0 4 = 372 := rfl
theorem gv_0_5 (H : PH) : gv H 0 5 = 451 := rfl
theorem gv_0_6 (H : PH) : gv H 0 6 = 468 := rfl
theorem gv_0_7 (H : PH) : gv H 0 7 = H 0 7 := rfl
theorem gv_0_8 (H : PH) : gv H 0 8 = H 0 8 := rfl
theorem gv_0_9 (H : PH) : gv H 0 9 = 589 := rfl
theorem gv_0_10 (H : PH) : gv H 0 10 = H 0 10 := rfl
theorem gv_1_0 (H : PH) : gv H 1 0 = 2 := rfl
theorem gv_1_1 (H : PH) : gv H 1 1 = 46 := rfl
theorem gv_1_2 (H : PH) : gv H 1 2 = H 1 2 := rfl
theorem gv_1_3 (H : PH) : gv H 1 3 = 47 := rfl
theorem gv_1_4 (H : PH) : gv H 1 4 = H 1 4 := rfl
theorem gv_1_5 (H : PH) : gv H 1 5 = H 1 5 := rfl
theorem gv_1_6 (H : PH) : gv H 1 6 = H 1 6 := rfl
theorem gv_1_7 (H : PH) : gv H 1 7 = H 1 7 := rfl
theorem gv_1_8 (H : PH) : gv H 1 8 = H 1 8 := rfl
theorem gv_1_9 (H : PH) : gv H 1 9 = H 1 9 := rfl
theorem gv_1_10 (H : PH) : gv H 1 10 = H 1 10 := rfl
theorem gv_1_11 (H : PH) : gv H 1 11 = H 1 11 := rfl
theorem gv_1_12 (H : PH) : gv H 1 12 = H 1 12 := rfl
theorem gv_1_13 (H : PH) : gv H 1 13 = H 1 13 := rfl
theorem gv_1_14 (H : PH) : gv H 1 14 = 54 := rfl
theorem gv_1_15 (H : PH) : gv H 1 15 = 55 := rfl
theorem gv_1_16 (H : PH) : gv H 1 16 = 56 := rfl
theorem gv_2_0 (H : PH) : gv H 2 0 = 3 := rfl
theorem gv_2_1 (H : PH) : gv H 2 1 = 42 := rfl
theorem gv_2_2 (H : PH) : gv H 2 2 = 43 := rfl
theorem gv_2_3 (H : PH) : gv H 2 3 = H 2 3 := rfl
theorem gv_2_4 (H : PH) : gv H 2 4 = 44 := rfl
theorem gv_2_5 (H : PH) : gv H 2 5 = 45 := rfl
theorem gv_213_0 (H : PH) : gv H 213 0 = 214 := rfl
theorem gv_213_1 (H : PH) : gv H 213 1 = H 213 1 := rfl
theorem gv_213_2 (H : PH) : gv H 213 2 = H 213 2 := rfl
theorem gv_213_3 (H : PH) : gv H 213 3 = H 213 3 := rfl
theorem gv_215_0 (H : PH) : gv H 215 0 = 1 := rfl
theorem gv_215_1 (H : PH) : gv H 215 1 = H 215 1 := rfl
theorem gv_215_2 (H : PH) : gv H 215 2 = 216 := rfl
theorem gv_215_3 (H : PH) : gv H 215 3 = 217 := rfl
theorem gv_215_4 (H : PH) : gv H 215 4 = H 215 4 := rfl
theorem gv_215_5 (H : PH) : gv H 215 5 = 218 := rfl
theorem gv_215_6 (H : PH) : gv H 215 6 = 219 := rfl
theorem gv_215_7 (H : PH) : gv H 215 7 = 220 := rfl
theorem gv_221_0 (H : PH) : gv H 221 0 = 1 := rfl
theorem gv_221_1 (H : PH) : gv H 221 1 = 215 := rfl
theorem gv_221_2 (H : PH) : gv H 221 2 = H 221 2 := rfl
theorem gv_221_3 (H : PH) : gv H 221 3 = 222 := rfl
theorem gv_221_4 (H : PH) : gv H 221 4 = 223 := rfl
theorem gv_221_5 (H : PH) : gv H 221 5 = 224 := rfl
theorem gv_221_6 (H : PH) : gv H 221 6 = H 221 6 := rfl
theorem gv_221_7 (H : PH) : gv H 221 7 = 297 := rfl
theorem gv_221_8 (H : PH) : gv H 221 8 = 298 := rfl
theorem gv_221_9 (H : PH) : gv H 221 9 = 299 := rfl
theorem gv_221_10 (H : PH) : gv H 221 10 = H 221 10 := rfl
theorem gv_221_11 (H : PH) : gv H 221 11 = H 221 11 := rfl
theorem gv_372_0 (H : PH) : gv H 372 0 = 1 := rfl
theorem gv_372_1 (H : PH) : gv H 372 1 = 221 := rfl
theorem gv_372_2 (H : PH) : gv H 372 2 = H 372 2 := rfl
theorem gv_372_3 (H : PH) : gv H 372 3 = 373 := rfl
theorem gv_372_4 (H : PH) : gv H 372 4 = 374 := rfl
theorem gv_372_5 (H : PH) : gv H 372 5 = 375 := rfl
theorem gv_372_6 (H : PH) : gv H 372 6 = 448 := rfl
theorem gv_372_7 (H : PH) : gv H 372 7 = 449 := rfl
theorem gv_372_8 (H : PH) : gv H 372 8 = 450 := rfl
theorem gv_372_9 (H : PH) : gv H 372 9 = H 372 9 := rfl
theorem gv_372_10 (H : PH) : gv H 372 10 = H 372 10 := rfl
theorem gv_451_0 (H : PH) : gv H 451 0 = 1 := rfl
theorem gv_451_1 (H : PH) : gv H 451 1 = 215 := rfl
theorem gv_451_2 (H : PH) : gv H 451 2 = 452 := rfl
theorem gv_451_3 (H : PH) : gv H 451 3 = H 451 3 := rfl
theorem gv_451_4 (H : PH) : gv H 451 4 = 453 := rfl
theorem gv_451_5 (H : PH) : gv H 451 5 = 454 := rfl
theorem gv_451_6 (H : PH) : gv H 451 6 = 467 := rfl
theorem gv_590_0 (H : PH) : gv H 590 0 = 591 := rfl
theorem gv_590_1 (H : PH) : gv H 590 1 = 592 := rfl
theorem gv_590_2 (H : PH) : gv H 590 2 = H 590 2 := rfl
theorem gv_590_3 (H : PH) : gv H 590 3 = 593 := rfl
theorem gv_590_4 (H : PH) : gv H 590 4 = H 590 4 := rfl
theorem gv_590_5 (H : PH) : gv H 590 5 = H 590 5 := rfl
theorem gv_590_6 (H : PH) : gv H 590 6 = H 590 6 := rfl
theorem gv_590_7 (H : PH) : gv H 590 7 = H 590 7 := rfl
theorem gv_590_8 (H : PH) : gv H 590 8 = 594 := rfl
theorem gv_590_9 (H : PH) : gv H 590 9 = 595 := rfl
theorem gv_590_10 (H : PH) : gv H 590 10 = H 590 10 := rfl
theorem gv_590_11 (H : PH) : gv H 590 11 = H 590 11 := rfl
theorem gv_590_12 (H : PH) : gv H 590 12 = 596 := rfl
theorem gv_590_13 (H : PH) : gv H 590 13 = 597 := rfl
theorem gv_590_14 (H : PH) : gv H 590 14 = H 590 14 := rfl
theorem gv_590_15 (H : PH) : gv H 590 15 = 598 := rfl
theorem gv_590_16 (H : PH) : gv H 590 16 = 599 := rfl
theorem gv_590_17 (H : PH) : gv H 590 17 = H 590 17 := rfl
theorem gv_590_18 (H : PH) : gv H 590 18 = H 590 18 := rfl
theorem gv_590_19 (H : PH) : gv H 590 19 = H 590 19 := rfl
theorem gv_590_20 (H : PH) : gv H 590 20 = 600 := rfl
theorem gv_590_21 (H : PH) : gv H 590 21 = 601 := rfl
theorem gv_590_22 (H : PH) : gv H 590 22 = 602 := rfl
theorem gv_590_23 (H : PH) : gv H 590 23 = 603 := rfl
theorem gv_590_24 (H : PH) : gv H 590 24 = 604 := rfl
theorem gv_590_25 (H : PH) : gv H 590 25 = 605 := rfl
theorem gv_590_26 (H : PH) : gv H 590 26 = H 590 26 := rfl
theorem gv_590_27 (H : PH) : gv H 590 27 = 606 := rfl
theorem gv_590_28 (H : PH) : gv H 590 28 = 607 := rfl
theorem gv_590_29 (H : PH) : gv H 590 29 = 608 := rfl
theorem gv_590_30 (H : PH) : gv H 590 30 = 609 := rfl
theorem gv_590_31 (H : PH) : gv H 590 31 = H 590 31 := rfl
theorem gv_590_32 (H : PH) : gv H 590 32 = H 590 32 := rfl
theorem gv_590_33 (H : PH) : gv H 590 33 = 610 := rfl
theorem gv_590_34 (H : PH) : gv H 590 34 = 611 := rfl
theorem gv_590_35 (H : PH) : gv H 590 35 = 612 := rfl
theorem gv_590_36 (H : PH) : gv H 590 36 = 613 := rfl
theorem gv_590_37 (H : PH) : gv H 590 37 = 614 := rfl
theorem gv_590_38 (H : PH) : gv H 590 38 = 615 := rfl
theorem gv_590_39 (H : PH) : gv H 590 39 = H 590 39 := rfl
theorem gv_590_40 (H : PH) : gv H 590 40 = H 590 40 := rfl
theorem gv_590_41 (H : PH) : gv H 590 41 = H 590 41 := rfl
theorem gv_590_42 (H : PH) : gv H 590 42 = H 590 42 := rfl
theorem gv_590_43 (H : PH) : gv H 590 43 = 616 := rfl
theorem gv_590_44 (H : PH) : gv H 590 44 = 617 := rfl
theorem gv_590_45 (H : PH) : gv H 590 45 = 618 := rfl
theorem gv_590_46 (H : PH) : gv H 590 46 = 619 := rfl
theorem gv_590_47 (H : PH) : gv H 590 47 = H 590 47 := rfl
theorem gv_590_48 (H : PH) : gv H 590 48 = H 590 48 := rfl
theorem gv_590_49 (H : PH) : gv H 590 49 = 620 := rfl
theorem gv_590_50 (H : PH) : gv H 590 50 = 621 := rfl
theorem gv_590_51 (H : PH) : gv H 590 51 = H 590 51 := rfl
theorem zw_lit {x : Int} (h1 : -2147483648 ≤ x) (h2 : x < 2147483648) : zw x = x := zw_id ⟨h1, h2⟩
