theorem dL_house_0 : decode cL_house 0 = .ok (.new 11, 3) := by decide +kernel
theorem dL_house_3 : decode cL_house 3 = .ok (.dup, 1) := by decide +kernel
theorem dL_house_4 : decode cL_house 4 = .ok (.invokespecial 97, 3) := by decide +kernel
theorem dL_house_7 : decode cL_house 7 = .ok (.astore_n 2, 1) := by decide +kernel
theorem dL_house_8 : decode cL_house 8 = .ok (.iconst 3, 1) := by decide +kernel
theorem dL_house_9 : decode cL_house 9 = .ok (.newarray .int, 2) := by decide +kernel
theorem dL_house_11 : decode cL_house 11 = .ok (.astore_n 3, 1) := by decide +kernel
theorem dL_house_12 : decode cL_house 12 = .ok (.bipush 8, 2) := by decide +kernel
theorem dL_house_14 : decode cL_house 14 = .ok (.newarray .int, 2) := by decide +kernel
theorem dL_house_16 : decode cL_house 16 = .ok (.astore 4, 2) := by decide +kernel
theorem dL_house_18 : decode cL_house 18 = .ok (.bipush 48, 2) := by decide +kernel
theorem dL_house_20 : decode cL_house 20 = .ok (.newarray .int, 2) := by decide +kernel
theorem dL_house_22 : decode cL_house 22 = .ok (.astore 5, 2) := by decide +kernel
theorem dL_house_24 : decode cL_house 24 = .ok (.iconst 1, 1) := by decide +kernel
theorem dL_house_25 : decode cL_house 25 = .ok (.istore 6, 2) := by decide +kernel
theorem dL_house_27 : decode cL_house 27 = .ok (.iconst 0, 1) := by decide +kernel
theorem dL_house_28 : decode cL_house 28 = .ok (.istore 7, 2) := by decide +kernel
theorem dL_house_30 : decode cL_house 30 = .ok (.iload 7, 2) := by decide +kernel
theorem dL_house_32 : decode cL_house 32 = .ok (.bipush 90, 2) := by decide +kernel
theorem dL_house_34 : decode cL_house 34 = .ok (.if_icmp .ge 571, 3) := by decide +kernel
theorem dL_house_37 : decode cL_house 37 = .ok (.iload 6, 2) := by decide +kernel
theorem dL_house_39 : decode cL_house 39 = .ok (.ifCond .eq 566, 3) := by decide +kernel
theorem dL_house_42 : decode cL_house 42 = .ok (.aload_n 0, 1) := by decide +kernel
theorem dL_house_43 : decode cL_house 43 = .ok (.iload_n 1, 1) := by decide +kernel
theorem dL_house_44 : decode cL_house 44 = .ok (.iconst 2, 1) := by decide +kernel
theorem dL_house_45 : decode cL_house 45 = .ok (.iload 7, 2) := by decide +kernel
theorem dL_house_47 : decode cL_house 47 = .ok (.imul, 1) := by decide +kernel
theorem dL_house_48 : decode cL_house 48 = .ok (.iadd, 1) := by decide +kernel
theorem dL_house_49 : decode cL_house 49 = .ok (.ldc 98, 2) := by decide +kernel
theorem dL_house_51 : decode cL_house 51 = .ok (.invokestatic 99, 3) := by decide +kernel
theorem dL_house_54 : decode cL_house 54 = .ok (.istore 8, 2) := by decide +kernel
theorem dL_house_56 : decode cL_house 56 = .ok (.aload_n 0, 1) := by decide +kernel
theorem dL_house_57 : decode cL_house 57 = .ok (.iload_n 1, 1) := by decide +kernel
theorem dL_house_58 : decode cL_house 58 = .ok (.iconst 2, 1) := by decide +kernel
theorem dL_house_59 : decode cL_house 59 = .ok (.iload 7, 2) := by decide +kernel
theorem dL_house_61 : decode cL_house 61 = .ok (.imul, 1) := by decide +kernel
theorem dL_house_62 : decode cL_house 62 = .ok (.iadd, 1) := by decide +kernel
theorem dL_house_63 : decode cL_house 63 = .ok (.iconst 1, 1) := by decide +kernel
theorem dL_house_64 : decode cL_house 64 = .ok (.iadd, 1) := by decide +kernel
theorem dL_house_65 : decode cL_house 65 = .ok (.ldc 98, 2) := by decide +kernel
theorem dL_house_67 : decode cL_house 67 = .ok (.invokestatic 99, 3) := by decide +kernel
theorem dL_house_70 : decode cL_house 70 = .ok (.istore 9, 2) := by decide +kernel
theorem dL_house_72 : decode cL_house 72 = .ok (.aload_n 3, 1) := by decide +kernel
theorem dL_house_73 : decode cL_house 73 = .ok (.iconst 0, 1) := by decide +kernel
theorem dL_house_74 : decode cL_house 74 = .ok (.iaload, 1) := by decide +kernel
theorem dL_house_75 : decode cL_house 75 = .ok (.ifCond .ne 7, 3) := by decide +kernel
theorem dL_house_78 : decode cL_house 78 = .ok (.iconst 0, 1) := by decide +kernel
theorem dL_house_79 : decode cL_house 79 = .ok (.goto 8, 3) := by decide +kernel
theorem dL_house_82 : decode cL_house 82 = .ok (.iload 8, 2) := by decide +kernel
theorem dL_house_84 : decode cL_house 84 = .ok (.bipush 20, 2) := by decide +kernel
theorem dL_house_86 : decode cL_house 86 = .ok (.irem, 1) := by decide +kernel
theorem dL_house_87 : decode cL_house 87 = .ok (.istore 10, 2) := by decide +kernel
theorem dL_house_89 : decode cL_house 89 = .ok (.iload 8, 2) := by decide +kernel
theorem dL_house_91 : decode cL_house 91 = .ok (.bipush 20, 2) := by decide +kernel
theorem dL_house_93 : decode cL_house 93 = .ok (.idiv, 1) := by decide +kernel
theorem dL_house_94 : decode cL_house 94 = .ok (.istore 11, 2) := by decide +kernel
theorem dL_house_96 : decode cL_house 96 = .ok (.iload 10, 2) := by decide +kernel
theorem dL_house_98 : decode cL_house 98 = .ok (.ifCond .ne 194, 3) := by decide +kernel
theorem dL_house_101 : decode cL_house 101 = .ok (.aload_n 3, 1) := by decide +kernel
theorem dL_house_102 : decode cL_house 102 = .ok (.iconst 0, 1) := by decide +kernel
theorem dL_house_103 : decode cL_house 103 = .ok (.iaload, 1) := by decide +kernel
theorem dL_house_104 : decode cL_house 104 = .ok (.bipush 8, 2) := by decide +kernel
theorem dL_house_106 : decode cL_house 106 = .ok (.if_icmp .ge 186, 3) := by decide +kernel
theorem dL_house_109 : decode cL_house 109 = .ok (.iconst 3, 1) := by decide +kernel
theorem dL_house_110 : decode cL_house 110 = .ok (.iload 9, 2) := by decide +kernel
theorem dL_house_112 : decode cL_house 112 = .ok (.iconst 4, 1) := by decide +kernel
theorem dL_house_113 : decode cL_house 113 = .ok (.irem, 1) := by decide +kernel
theorem dL_house_114 : decode cL_house 114 = .ok (.iadd, 1) := by decide +kernel
theorem dL_house_115 : decode cL_house 115 = .ok (.istore 12, 2) := by decide +kernel
theorem dL_house_117 : decode cL_house 117 = .ok (.aload 5, 2) := by decide +kernel
theorem dL_house_119 : decode cL_house 119 = .ok (.bipush 6, 2) := by decide +kernel
theorem dL_house_121 : decode cL_house 121 = .ok (.aload_n 3, 1) := by decide +kernel
theorem dL_house_122 : decode cL_house 122 = .ok (.iconst 0, 1) := by decide +kernel
theorem dL_house_123 : decode cL_house 123 = .ok (.iaload, 1) := by decide +kernel
theorem dL_house_124 : decode cL_house 124 = .ok (.imul, 1) := by decide +kernel
theorem dL_house_125 : decode cL_house 125 = .ok (.aload_n 3, 1) := by decide +kernel
theorem dL_house_126 : decode cL_house 126 = .ok (.iconst 1, 1) := by decide +kernel
theorem dL_house_127 : decode cL_house 127 = .ok (.iaload, 1) := by decide +kernel
theorem dL_house_128 : decode cL_house 128 = .ok (.iastore, 1) := by decide +kernel
theorem dL_house_129 : decode cL_house 129 = .ok (.aload 5, 2) := by decide +kernel
theorem dL_house_131 : decode cL_house 131 = .ok (.bipush 6, 2) := by decide +kernel
theorem dL_house_133 : decode cL_house 133 = .ok (.aload_n 3, 1) := by decide +kernel
theorem dL_house_134 : decode cL_house 134 = .ok (.iconst 0, 1) := by decide +kernel
theorem dL_house_135 : decode cL_house 135 = .ok (.iaload, 1) := by decide +kernel
theorem dL_house_136 : decode cL_house 136 = .ok (.imul, 1) := by decide +kernel
theorem dL_house_137 : decode cL_house 137 = .ok (.iconst 1, 1) := by decide +kernel
theorem dL_house_138 : decode cL_house 138 = .ok (.iadd, 1) := by decide +kernel
theorem dL_house_139 : decode cL_house 139 = .ok (.iload 9, 2) := by decide +kernel
theorem dL_house_141 : decode cL_house 141 = .ok (.iconst 4, 1) := by decide +kernel
theorem dL_house_142 : decode cL_house 142 = .ok (.idiv, 1) := by decide +kernel
theorem dL_house_143 : decode cL_house 143 = .ok (.sipush 1000, 3) := by decide +kernel
theorem dL_house_146 : decode cL_house 146 = .ok (.irem, 1) := by decide +kernel
theorem dL_house_147 : decode cL_house 147 = .ok (.iastore, 1) := by decide +kernel
theorem dL_house_148 : decode cL_house 148 = .ok (.aload 5, 2) := by decide +kernel
theorem dL_house_150 : decode cL_house 150 = .ok (.bipush 6, 2) := by decide +kernel
theorem dL_house_152 : decode cL_house 152 = .ok (.aload_n 3, 1) := by decide +kernel
theorem dL_house_153 : decode cL_house 153 = .ok (.iconst 0, 1) := by decide +kernel
theorem dL_house_154 : decode cL_house 154 = .ok (.iaload, 1) := by decide +kernel
theorem dL_house_155 : decode cL_house 155 = .ok (.imul, 1) := by decide +kernel
theorem dL_house_156 : decode cL_house 156 = .ok (.iconst 2, 1) := by decide +kernel
theorem dL_house_157 : decode cL_house 157 = .ok (.iadd, 1) := by decide +kernel
theorem dL_house_158 : decode cL_house 158 = .ok (.iload 12, 2) := by decide +kernel
theorem dL_house_160 : decode cL_house 160 = .ok (.iastore, 1) := by decide +kernel
theorem dL_house_161 : decode cL_house 161 = .ok (.aload 5, 2) := by decide +kernel
theorem dL_house_163 : decode cL_house 163 = .ok (.bipush 6, 2) := by decide +kernel
theorem dL_house_165 : decode cL_house 165 = .ok (.aload_n 3, 1) := by decide +kernel
theorem dL_house_166 : decode cL_house 166 = .ok (.iconst 0, 1) := by decide +kernel
theorem dL_house_167 : decode cL_house 167 = .ok (.iaload, 1) := by decide +kernel
theorem dL_house_168 : decode cL_house 168 = .ok (.imul, 1) := by decide +kernel
theorem dL_house_169 : decode cL_house 169 = .ok (.iconst 3, 1) := by decide +kernel
theorem dL_house_170 : decode cL_house 170 = .ok (.iadd, 1) := by decide +kernel
theorem dL_house_171 : decode cL_house 171 = .ok (.iconst 1, 1) := by decide +kernel
theorem dL_house_172 : decode cL_house 172 = .ok (.iload 9, 2) := by decide +kernel
theorem dL_house_174 : decode cL_house 174 = .ok (.sipush 4000, 3) := by decide +kernel
theorem dL_house_177 : decode cL_house 177 = .ok (.idiv, 1) := by decide +kernel
theorem dL_house_178 : decode cL_house 178 = .ok (.bipush 10, 2) := by decide +kernel
theorem dL_house_180 : decode cL_house 180 = .ok (.irem, 1) := by decide +kernel
theorem dL_house_181 : decode cL_house 181 = .ok (.iadd, 1) := by decide +kernel
theorem dL_house_182 : decode cL_house 182 = .ok (.iastore, 1) := by decide +kernel
theorem dL_house_183 : decode cL_house 183 = .ok (.aload 5, 2) := by decide +kernel
theorem dL_house_185 : decode cL_house 185 = .ok (.bipush 6, 2) := by decide +kernel
theorem dL_house_187 : decode cL_house 187 = .ok (.aload_n 3, 1) := by decide +kernel
theorem dL_house_188 : decode cL_house 188 = .ok (.iconst 0, 1) := by decide +kernel
theorem dL_house_189 : decode cL_house 189 = .ok (.iaload, 1) := by decide +kernel
theorem dL_house_190 : decode cL_house 190 = .ok (.imul, 1) := by decide +kernel
theorem dL_house_191 : decode cL_house 191 = .ok (.iconst 4, 1) := by decide +kernel
theorem dL_house_192 : decode cL_house 192 = .ok (.iadd, 1) := by decide +kernel
theorem dL_house_193 : decode cL_house 193 = .ok (.iconst 1, 1) := by decide +kernel
theorem dL_house_194 : decode cL_house 194 = .ok (.iastore, 1) := by decide +kernel
theorem dL_house_195 : decode cL_house 195 = .ok (.aload 5, 2) := by decide +kernel
theorem dL_house_197 : decode cL_house 197 = .ok (.bipush 6, 2) := by decide +kernel
theorem dL_house_199 : decode cL_house 199 = .ok (.aload_n 3, 1) := by decide +kernel
theorem dL_house_200 : decode cL_house 200 = .ok (.iconst 0, 1) := by decide +kernel
theorem dL_house_201 : decode cL_house 201 = .ok (.iaload, 1) := by decide +kernel
theorem dL_house_202 : decode cL_house 202 = .ok (.imul, 1) := by decide +kernel
theorem dL_house_203 : decode cL_house 203 = .ok (.iconst 5, 1) := by decide +kernel
theorem dL_house_204 : decode cL_house 204 = .ok (.iadd, 1) := by decide +kernel
theorem dL_house_205 : decode cL_house 205 = .ok (.iconst (-1), 1) := by decide +kernel
theorem dL_house_206 : decode cL_house 206 = .ok (.iastore, 1) := by decide +kernel
theorem dL_house_207 : decode cL_house 207 = .ok (.aload 4, 2) := by decide +kernel
theorem dL_house_209 : decode cL_house 209 = .ok (.aload_n 3, 1) := by decide +kernel
theorem dL_house_210 : decode cL_house 210 = .ok (.iconst 0, 1) := by decide +kernel
theorem dL_house_211 : decode cL_house 211 = .ok (.iaload, 1) := by decide +kernel
theorem dL_house_212 : decode cL_house 212 = .ok (.aload_n 3, 1) := by decide +kernel
theorem dL_house_213 : decode cL_house 213 = .ok (.iconst 1, 1) := by decide +kernel
theorem dL_house_214 : decode cL_house 214 = .ok (.iaload, 1) := by decide +kernel
theorem dL_house_215 : decode cL_house 215 = .ok (.iastore, 1) := by decide +kernel
theorem dL_house_216 : decode cL_house 216 = .ok (.aload_n 3, 1) := by decide +kernel
theorem dL_house_217 : decode cL_house 217 = .ok (.iconst 0, 1) := by decide +kernel
theorem dL_house_218 : decode cL_house 218 = .ok (.dup2, 1) := by decide +kernel
theorem dL_house_219 : decode cL_house 219 = .ok (.iaload, 1) := by decide +kernel
theorem dL_house_220 : decode cL_house 220 = .ok (.iconst 1, 1) := by decide +kernel
theorem dL_house_221 : decode cL_house 221 = .ok (.iadd, 1) := by decide +kernel
theorem dL_house_222 : decode cL_house 222 = .ok (.iastore, 1) := by decide +kernel
theorem dL_house_223 : decode cL_house 223 = .ok (.aload_n 2, 1) := by decide +kernel
theorem dL_house_224 : decode cL_house 224 = .ok (.iload 11, 2) := by decide +kernel
theorem dL_house_226 : decode cL_house 226 = .ok (.iconst 4, 1) := by decide +kernel
theorem dL_house_227 : decode cL_house 227 = .ok (.irem, 1) := by decide +kernel
theorem dL_house_228 : decode cL_house 228 = .ok (.iload 11, 2) := by decide +kernel
theorem dL_house_230 : decode cL_house 230 = .ok (.iconst 4, 1) := by decide +kernel
theorem dL_house_231 : decode cL_house 231 = .ok (.idiv, 1) := by decide +kernel
theorem dL_house_232 : decode cL_house 232 = .ok (.iconst 3, 1) := by decide +kernel
theorem dL_house_233 : decode cL_house 233 = .ok (.irem, 1) := by decide +kernel
theorem dL_house_234 : decode cL_house 234 = .ok (.iload 12, 2) := by decide +kernel
theorem dL_house_236 : decode cL_house 236 = .ok (.iconst 1, 1) := by decide +kernel
theorem dL_house_237 : decode cL_house 237 = .ok (.iload 9, 2) := by decide +kernel
theorem dL_house_239 : decode cL_house 239 = .ok (.sipush 4000, 3) := by decide +kernel
theorem dL_house_242 : decode cL_house 242 = .ok (.idiv, 1) := by decide +kernel
theorem dL_house_243 : decode cL_house 243 = .ok (.bipush 10, 2) := by decide +kernel
theorem dL_house_245 : decode cL_house 245 = .ok (.irem, 1) := by decide +kernel
theorem dL_house_246 : decode cL_house 246 = .ok (.iadd, 1) := by decide +kernel
theorem dL_house_247 : decode cL_house 247 = .ok (.iload 9, 2) := by decide +kernel
theorem dL_house_249 : decode cL_house 249 = .ok (.iconst 4, 1) := by decide +kernel
theorem dL_house_250 : decode cL_house 250 = .ok (.idiv, 1) := by decide +kernel
theorem dL_house_251 : decode cL_house 251 = .ok (.sipush 1000, 3) := by decide +kernel
theorem dL_house_254 : decode cL_house 254 = .ok (.irem, 1) := by decide +kernel
theorem dL_house_255 : decode cL_house 255 = .ok (.invokevirtual 103, 3) := by decide +kernel
theorem dL_house_258 : decode cL_house 258 = .ok (.aload_n 3, 1) := by decide +kernel
theorem dL_house_259 : decode cL_house 259 = .ok (.iconst 0, 1) := by decide +kernel
theorem dL_house_260 : decode cL_house 260 = .ok (.iaload, 1) := by decide +kernel
theorem dL_house_261 : decode cL_house 261 = .ok (.iconst 1, 1) := by decide +kernel
theorem dL_house_262 : decode cL_house 262 = .ok (.isub, 1) := by decide +kernel
theorem dL_house_263 : decode cL_house 263 = .ok (.if_icmp .ne 23, 3) := by decide +kernel
theorem dL_house_266 : decode cL_house 266 = .ok (.aload_n 2, 1) := by decide +kernel
theorem dL_house_267 : decode cL_house 267 = .ok (.aload_n 3, 1) := by decide +kernel
theorem dL_house_268 : decode cL_house 268 = .ok (.iconst 0, 1) := by decide +kernel
theorem dL_house_269 : decode cL_house 269 = .ok (.iaload, 1) := by decide +kernel
theorem dL_house_270 : decode cL_house 270 = .ok (.iconst 1, 1) := by decide +kernel
theorem dL_house_271 : decode cL_house 271 = .ok (.isub, 1) := by decide +kernel
theorem dL_house_272 : decode cL_house 272 = .ok (.iconst 0, 1) := by decide +kernel
theorem dL_house_273 : decode cL_house 273 = .ok (.invokevirtual 69, 3) := by decide +kernel
