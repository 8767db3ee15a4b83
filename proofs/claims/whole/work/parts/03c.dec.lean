theorem dX5_no_0 : decode cX5_no 0 = .ok (.aload_n 0, 1) := by decide +kernel
theorem dX5_no_1 : decode cX5_no 1 = .ok (.getfield 1, 3) := by decide +kernel
theorem dX5_no_4 : decode cX5_no 4 = .ok (.iload_n 1, 1) := by decide +kernel
theorem dX5_no_5 : decode cX5_no 5 = .ok (.ineg, 1) := by decide +kernel
theorem dX5_no_6 : decode cX5_no 6 = .ok (.dup2, 1) := by decide +kernel
theorem dX5_no_7 : decode cX5_no 7 = .ok (.iaload, 1) := by decide +kernel
theorem dX5_no_8 : decode cX5_no 8 = .ok (.iconst 1, 1) := by decide +kernel
theorem dX5_no_9 : decode cX5_no 9 = .ok (.iadd, 1) := by decide +kernel
theorem dX5_no_10 : decode cX5_no 10 = .ok (.iastore, 1) := by decide +kernel
theorem dX5_no_11 : decode cX5_no 11 = .ok (.iload_n 1, 1) := by decide +kernel
theorem dX5_no_12 : decode cX5_no 12 = .ok (.ireturn, 1) := by decide +kernel
theorem dX5_init_0 : decode cX5_init 0 = .ok (.aload_n 0, 1) := by decide +kernel
theorem dX5_init_1 : decode cX5_init 1 = .ok (.invokespecial 7, 3) := by decide +kernel
theorem dX5_init_4 : decode cX5_init 4 = .ok (.aload_n 0, 1) := by decide +kernel
theorem dX5_init_5 : decode cX5_init 5 = .ok (.bipush 7, 2) := by decide +kernel
theorem dX5_init_7 : decode cX5_init 7 = .ok (.newarray .int, 2) := by decide +kernel
theorem dX5_init_9 : decode cX5_init 9 = .ok (.putfield 1, 3) := by decide +kernel
theorem dX5_init_12 : decode cX5_init 12 = .ok (.aload_n 0, 1) := by decide +kernel
theorem dX5_init_13 : decode cX5_init 13 = .ok (.bipush 46, 2) := by decide +kernel
theorem dX5_init_15 : decode cX5_init 15 = .ok (.newarray .int, 2) := by decide +kernel
theorem dX5_init_17 : decode cX5_init 17 = .ok (.putfield 13, 3) := by decide +kernel
theorem dX5_init_20 : decode cX5_init 20 = .ok (.aload_n 0, 1) := by decide +kernel
theorem dX5_init_21 : decode cX5_init 21 = .ok (.bipush 46, 2) := by decide +kernel
theorem dX5_init_23 : decode cX5_init 23 = .ok (.newarray .int, 2) := by decide +kernel
theorem dX5_init_25 : decode cX5_init 25 = .ok (.putfield 16, 3) := by decide +kernel
theorem dX5_init_28 : decode cX5_init 28 = .ok (.aload_n 0, 1) := by decide +kernel
theorem dX5_init_29 : decode cX5_init 29 = .ok (.bipush 46, 2) := by decide +kernel
theorem dX5_init_31 : decode cX5_init 31 = .ok (.newarray .int, 2) := by decide +kernel
theorem dX5_init_33 : decode cX5_init 33 = .ok (.putfield 19, 3) := by decide +kernel
theorem dX5_init_36 : decode cX5_init 36 = .ok (.aload_n 0, 1) := by decide +kernel
theorem dX5_init_37 : decode cX5_init 37 = .ok (.iconst 4, 1) := by decide +kernel
theorem dX5_init_38 : decode cX5_init 38 = .ok (.newarray .int, 2) := by decide +kernel
theorem dX5_init_40 : decode cX5_init 40 = .ok (.putfield 22, 3) := by decide +kernel
theorem dX5_init_43 : decode cX5_init 43 = .ok (.aload_n 0, 1) := by decide +kernel
theorem dX5_init_44 : decode cX5_init 44 = .ok (.bipush 60, 2) := by decide +kernel
theorem dX5_init_46 : decode cX5_init 46 = .ok (.newarray .int, 2) := by decide +kernel
theorem dX5_init_48 : decode cX5_init 48 = .ok (.putfield 25, 3) := by decide +kernel
theorem dX5_init_51 : decode cX5_init 51 = .ok (.aload_n 0, 1) := by decide +kernel
theorem dX5_init_52 : decode cX5_init 52 = .ok (.bipush 6, 2) := by decide +kernel
theorem dX5_init_54 : decode cX5_init 54 = .ok (.newarray .int, 2) := by decide +kernel
theorem dX5_init_56 : decode cX5_init 56 = .ok (.putfield 28, 3) := by decide +kernel
theorem dX5_init_59 : decode cX5_init 59 = .ok (.aload_n 0, 1) := by decide +kernel
theorem dX5_init_60 : decode cX5_init 60 = .ok (.bipush 96, 2) := by decide +kernel
theorem dX5_init_62 : decode cX5_init 62 = .ok (.newarray .int, 2) := by decide +kernel
theorem dX5_init_64 : decode cX5_init 64 = .ok (.putfield 31, 3) := by decide +kernel
theorem dX5_init_67 : decode cX5_init 67 = .ok (.aload_n 0, 1) := by decide +kernel
theorem dX5_init_68 : decode cX5_init 68 = .ok (.bipush 7, 2) := by decide +kernel
theorem dX5_init_70 : decode cX5_init 70 = .ok (.newarray .char, 2) := by decide +kernel
theorem dX5_init_72 : decode cX5_init 72 = .ok (.dup, 1) := by decide +kernel
theorem dX5_init_73 : decode cX5_init 73 = .ok (.iconst 0, 1) := by decide +kernel
theorem dX5_init_74 : decode cX5_init 74 = .ok (.bipush 101, 2) := by decide +kernel
theorem dX5_init_76 : decode cX5_init 76 = .ok (.castore, 1) := by decide +kernel
theorem dX5_init_77 : decode cX5_init 77 = .ok (.dup, 1) := by decide +kernel
theorem dX5_init_78 : decode cX5_init 78 = .ok (.iconst 1, 1) := by decide +kernel
theorem dX5_init_79 : decode cX5_init 79 = .ok (.bipush 115, 2) := by decide +kernel
theorem dX5_init_81 : decode cX5_init 81 = .ok (.castore, 1) := by decide +kernel
theorem dX5_init_82 : decode cX5_init 82 = .ok (.dup, 1) := by decide +kernel
theorem dX5_init_83 : decode cX5_init 83 = .ok (.iconst 2, 1) := by decide +kernel
theorem dX5_init_84 : decode cX5_init 84 = .ok (.bipush 119, 2) := by decide +kernel
theorem dX5_init_86 : decode cX5_init 86 = .ok (.castore, 1) := by decide +kernel
theorem dX5_init_87 : decode cX5_init 87 = .ok (.dup, 1) := by decide +kernel
theorem dX5_init_88 : decode cX5_init 88 = .ok (.iconst 3, 1) := by decide +kernel
theorem dX5_init_89 : decode cX5_init 89 = .ok (.bipush 98, 2) := by decide +kernel
theorem dX5_init_91 : decode cX5_init 91 = .ok (.castore, 1) := by decide +kernel
theorem dX5_init_92 : decode cX5_init 92 = .ok (.dup, 1) := by decide +kernel
theorem dX5_init_93 : decode cX5_init 93 = .ok (.iconst 4, 1) := by decide +kernel
theorem dX5_init_94 : decode cX5_init 94 = .ok (.bipush 104, 2) := by decide +kernel
theorem dX5_init_96 : decode cX5_init 96 = .ok (.castore, 1) := by decide +kernel
theorem dX5_init_97 : decode cX5_init 97 = .ok (.dup, 1) := by decide +kernel
theorem dX5_init_98 : decode cX5_init 98 = .ok (.iconst 5, 1) := by decide +kernel
theorem dX5_init_99 : decode cX5_init 99 = .ok (.bipush 99, 2) := by decide +kernel
theorem dX5_init_101 : decode cX5_init 101 = .ok (.castore, 1) := by decide +kernel
theorem dX5_init_102 : decode cX5_init 102 = .ok (.dup, 1) := by decide +kernel
theorem dX5_init_103 : decode cX5_init 103 = .ok (.bipush 6, 2) := by decide +kernel
theorem dX5_init_105 : decode cX5_init 105 = .ok (.bipush 100, 2) := by decide +kernel
theorem dX5_init_107 : decode cX5_init 107 = .ok (.castore, 1) := by decide +kernel
theorem dX5_init_108 : decode cX5_init 108 = .ok (.putfield 34, 3) := by decide +kernel
theorem dX5_init_111 : decode cX5_init 111 = .ok (.aload_n 0, 1) := by decide +kernel
theorem dX5_init_112 : decode cX5_init 112 = .ok (.bipush 6, 2) := by decide +kernel
theorem dX5_init_114 : decode cX5_init 114 = .ok (.newarray .char, 2) := by decide +kernel
theorem dX5_init_116 : decode cX5_init 116 = .ok (.dup, 1) := by decide +kernel
theorem dX5_init_117 : decode cX5_init 117 = .ok (.iconst 0, 1) := by decide +kernel
theorem dX5_init_118 : decode cX5_init 118 = .ok (.bipush 101, 2) := by decide +kernel
theorem dX5_init_120 : decode cX5_init 120 = .ok (.castore, 1) := by decide +kernel
theorem dX5_init_121 : decode cX5_init 121 = .ok (.dup, 1) := by decide +kernel
theorem dX5_init_122 : decode cX5_init 122 = .ok (.iconst 1, 1) := by decide +kernel
theorem dX5_init_123 : decode cX5_init 123 = .ok (.bipush 102, 2) := by decide +kernel
theorem dX5_init_125 : decode cX5_init 125 = .ok (.castore, 1) := by decide +kernel
theorem dX5_init_126 : decode cX5_init 126 = .ok (.dup, 1) := by decide +kernel
theorem dX5_init_127 : decode cX5_init 127 = .ok (.iconst 2, 1) := by decide +kernel
theorem dX5_init_128 : decode cX5_init 128 = .ok (.bipush 99, 2) := by decide +kernel
theorem dX5_init_130 : decode cX5_init 130 = .ok (.castore, 1) := by decide +kernel
theorem dX5_init_131 : decode cX5_init 131 = .ok (.dup, 1) := by decide +kernel
theorem dX5_init_132 : decode cX5_init 132 = .ok (.iconst 3, 1) := by decide +kernel
theorem dX5_init_133 : decode cX5_init 133 = .ok (.bipush 112, 2) := by decide +kernel
theorem dX5_init_135 : decode cX5_init 135 = .ok (.castore, 1) := by decide +kernel
theorem dX5_init_136 : decode cX5_init 136 = .ok (.dup, 1) := by decide +kernel
theorem dX5_init_137 : decode cX5_init 137 = .ok (.iconst 4, 1) := by decide +kernel
theorem dX5_init_138 : decode cX5_init 138 = .ok (.bipush 104, 2) := by decide +kernel
theorem dX5_init_140 : decode cX5_init 140 = .ok (.castore, 1) := by decide +kernel
theorem dX5_init_141 : decode cX5_init 141 = .ok (.dup, 1) := by decide +kernel
theorem dX5_init_142 : decode cX5_init 142 = .ok (.iconst 5, 1) := by decide +kernel
theorem dX5_init_143 : decode cX5_init 143 = .ok (.bipush 97, 2) := by decide +kernel
theorem dX5_init_145 : decode cX5_init 145 = .ok (.castore, 1) := by decide +kernel
theorem dX5_init_146 : decode cX5_init 146 = .ok (.putfield 38, 3) := by decide +kernel
theorem dX5_init_149 : decode cX5_init 149 = .ok (.aload_n 0, 1) := by decide +kernel
theorem dX5_init_150 : decode cX5_init 150 = .ok (.bipush 6, 2) := by decide +kernel
theorem dX5_init_152 : decode cX5_init 152 = .ok (.newarray .char, 2) := by decide +kernel
theorem dX5_init_154 : decode cX5_init 154 = .ok (.dup, 1) := by decide +kernel
theorem dX5_init_155 : decode cX5_init 155 = .ok (.iconst 0, 1) := by decide +kernel
theorem dX5_init_156 : decode cX5_init 156 = .ok (.bipush 111, 2) := by decide +kernel
theorem dX5_init_158 : decode cX5_init 158 = .ok (.castore, 1) := by decide +kernel
theorem dX5_init_159 : decode cX5_init 159 = .ok (.dup, 1) := by decide +kernel
theorem dX5_init_160 : decode cX5_init 160 = .ok (.iconst 1, 1) := by decide +kernel
theorem dX5_init_161 : decode cX5_init 161 = .ok (.bipush 110, 2) := by decide +kernel
theorem dX5_init_163 : decode cX5_init 163 = .ok (.castore, 1) := by decide +kernel
theorem dX5_init_164 : decode cX5_init 164 = .ok (.dup, 1) := by decide +kernel
theorem dX5_init_165 : decode cX5_init 165 = .ok (.iconst 2, 1) := by decide +kernel
theorem dX5_init_166 : decode cX5_init 166 = .ok (.bipush 109, 2) := by decide +kernel
theorem dX5_init_168 : decode cX5_init 168 = .ok (.castore, 1) := by decide +kernel
theorem dX5_init_169 : decode cX5_init 169 = .ok (.dup, 1) := by decide +kernel
theorem dX5_init_170 : decode cX5_init 170 = .ok (.iconst 3, 1) := by decide +kernel
theorem dX5_init_171 : decode cX5_init 171 = .ok (.bipush 116, 2) := by decide +kernel
theorem dX5_init_173 : decode cX5_init 173 = .ok (.castore, 1) := by decide +kernel
theorem dX5_init_174 : decode cX5_init 174 = .ok (.dup, 1) := by decide +kernel
theorem dX5_init_175 : decode cX5_init 175 = .ok (.iconst 4, 1) := by decide +kernel
theorem dX5_init_176 : decode cX5_init 176 = .ok (.bipush 98, 2) := by decide +kernel
theorem dX5_init_178 : decode cX5_init 178 = .ok (.castore, 1) := by decide +kernel
theorem dX5_init_179 : decode cX5_init 179 = .ok (.dup, 1) := by decide +kernel
theorem dX5_init_180 : decode cX5_init 180 = .ok (.iconst 5, 1) := by decide +kernel
theorem dX5_init_181 : decode cX5_init 181 = .ok (.bipush 115, 2) := by decide +kernel
theorem dX5_init_183 : decode cX5_init 183 = .ok (.castore, 1) := by decide +kernel
theorem dX5_init_184 : decode cX5_init 184 = .ok (.putfield 41, 3) := by decide +kernel
theorem dX5_init_187 : decode cX5_init 187 = .ok (.aload_n 0, 1) := by decide +kernel
theorem dX5_init_188 : decode cX5_init 188 = .ok (.iconst 2, 1) := by decide +kernel
theorem dX5_init_189 : decode cX5_init 189 = .ok (.newarray .char, 2) := by decide +kernel
theorem dX5_init_191 : decode cX5_init 191 = .ok (.dup, 1) := by decide +kernel
theorem dX5_init_192 : decode cX5_init 192 = .ok (.iconst 0, 1) := by decide +kernel
theorem dX5_init_193 : decode cX5_init 193 = .ok (.bipush 120, 2) := by decide +kernel
theorem dX5_init_195 : decode cX5_init 195 = .ok (.castore, 1) := by decide +kernel
theorem dX5_init_196 : decode cX5_init 196 = .ok (.dup, 1) := by decide +kernel
theorem dX5_init_197 : decode cX5_init 197 = .ok (.iconst 1, 1) := by decide +kernel
theorem dX5_init_198 : decode cX5_init 198 = .ok (.bipush 111, 2) := by decide +kernel
theorem dX5_init_200 : decode cX5_init 200 = .ok (.castore, 1) := by decide +kernel
theorem dX5_init_201 : decode cX5_init 201 = .ok (.putfield 44, 3) := by decide +kernel
theorem dX5_init_204 : decode cX5_init 204 = .ok (.aload_n 0, 1) := by decide +kernel
theorem dX5_init_205 : decode cX5_init 205 = .ok (.bipush 7, 2) := by decide +kernel
theorem dX5_init_207 : decode cX5_init 207 = .ok (.newarray .int, 2) := by decide +kernel
theorem dX5_init_209 : decode cX5_init 209 = .ok (.putfield 47, 3) := by decide +kernel
theorem dX5_init_212 : decode cX5_init 212 = .ok (.aload_n 0, 1) := by decide +kernel
theorem dX5_init_213 : decode cX5_init 213 = .ok (.iconst 4, 1) := by decide +kernel
theorem dX5_init_214 : decode cX5_init 214 = .ok (.newarray .int, 2) := by decide +kernel
theorem dX5_init_216 : decode cX5_init 216 = .ok (.putfield 50, 3) := by decide +kernel
theorem dX5_init_219 : decode cX5_init 219 = .ok (.aload_n 0, 1) := by decide +kernel
theorem dX5_init_220 : decode cX5_init 220 = .ok (.bipush 20, 2) := by decide +kernel
theorem dX5_init_222 : decode cX5_init 222 = .ok (.newarray .int, 2) := by decide +kernel
theorem dX5_init_224 : decode cX5_init 224 = .ok (.putfield 53, 3) := by decide +kernel
theorem dX5_init_227 : decode cX5_init 227 = .ok (.aload_n 0, 1) := by decide +kernel
theorem dX5_init_228 : decode cX5_init 228 = .ok (.getfield 13, 3) := by decide +kernel
theorem dX5_init_231 : decode cX5_init 231 = .ok (.iconst 2, 1) := by decide +kernel
theorem dX5_init_232 : decode cX5_init 232 = .ok (.bipush 6, 2) := by decide +kernel
theorem dX5_init_234 : decode cX5_init 234 = .ok (.iastore, 1) := by decide +kernel
theorem dX5_init_235 : decode cX5_init 235 = .ok (.aload_n 0, 1) := by decide +kernel
theorem dX5_init_236 : decode cX5_init 236 = .ok (.getfield 13, 3) := by decide +kernel
theorem dX5_init_239 : decode cX5_init 239 = .ok (.iconst 4, 1) := by decide +kernel
theorem dX5_init_240 : decode cX5_init 240 = .ok (.iconst 2, 1) := by decide +kernel
theorem dX5_init_241 : decode cX5_init 241 = .ok (.iastore, 1) := by decide +kernel
theorem dX5_init_242 : decode cX5_init 242 = .ok (.aload_n 0, 1) := by decide +kernel
theorem dX5_init_243 : decode cX5_init 243 = .ok (.getfield 13, 3) := by decide +kernel
theorem dX5_init_246 : decode cX5_init 246 = .ok (.iconst 5, 1) := by decide +kernel
theorem dX5_init_247 : decode cX5_init 247 = .ok (.iconst 1, 1) := by decide +kernel
theorem dX5_init_248 : decode cX5_init 248 = .ok (.iastore, 1) := by decide +kernel
theorem dX5_init_249 : decode cX5_init 249 = .ok (.aload_n 0, 1) := by decide +kernel
theorem dX5_init_250 : decode cX5_init 250 = .ok (.getfield 13, 3) := by decide +kernel
theorem dX5_init_253 : decode cX5_init 253 = .ok (.bipush 6, 2) := by decide +kernel
theorem dX5_init_255 : decode cX5_init 255 = .ok (.iconst 3, 1) := by decide +kernel
theorem dX5_init_256 : decode cX5_init 256 = .ok (.iastore, 1) := by decide +kernel
theorem dX5_init_257 : decode cX5_init 257 = .ok (.iconst 0, 1) := by decide +kernel
theorem dX5_init_258 : decode cX5_init 258 = .ok (.istore_n 1, 1) := by decide +kernel
theorem dX5_init_259 : decode cX5_init 259 = .ok (.iload_n 1, 1) := by decide +kernel
theorem dX5_init_260 : decode cX5_init 260 = .ok (.bipush 7, 2) := by decide +kernel
theorem dX5_init_262 : decode cX5_init 262 = .ok (.if_icmp .ge 19, 3) := by decide +kernel
theorem dX5_init_265 : decode cX5_init 265 = .ok (.aload_n 0, 1) := by decide +kernel
theorem dX5_init_266 : decode cX5_init 266 = .ok (.getfield 13, 3) := by decide +kernel
theorem dX5_init_269 : decode cX5_init 269 = .ok (.bipush 20, 2) := by decide +kernel
theorem dX5_init_271 : decode cX5_init 271 = .ok (.iload_n 1, 1) := by decide +kernel
theorem dX5_init_272 : decode cX5_init 272 = .ok (.iadd, 1) := by decide +kernel
theorem dX5_init_273 : decode cX5_init 273 = .ok (.iconst 1, 1) := by decide +kernel
theorem dX5_init_274 : decode cX5_init 274 = .ok (.iastore, 1) := by decide +kernel
theorem dX5_init_275 : decode cX5_init 275 = .ok (.iinc 1 1, 3) := by decide +kernel
theorem dX5_init_278 : decode cX5_init 278 = .ok (.goto (-19), 3) := by decide +kernel
theorem dX5_init_281 : decode cX5_init 281 = .ok (.return_, 1) := by decide +kernel
theorem dX5_move_0 : decode cX5_move 0 = .ok (.iconst 0, 1) := by decide +kernel
theorem dX5_move_1 : decode cX5_move 1 = .ok (.istore_n 2, 1) := by decide +kernel
theorem dX5_move_2 : decode cX5_move 2 = .ok (.iload_n 2, 1) := by decide +kernel
theorem dX5_move_3 : decode cX5_move 3 = .ok (.bipush 46, 2) := by decide +kernel
theorem dX5_move_5 : decode cX5_move 5 = .ok (.if_icmp .ge 15, 3) := by decide +kernel
theorem dX5_move_8 : decode cX5_move 8 = .ok (.aload_n 1, 1) := by decide +kernel
theorem dX5_move_9 : decode cX5_move 9 = .ok (.iload_n 2, 1) := by decide +kernel
theorem dX5_move_10 : decode cX5_move 10 = .ok (.aload_n 0, 1) := by decide +kernel
theorem dX5_move_11 : decode cX5_move 11 = .ok (.iload_n 2, 1) := by decide +kernel
theorem dX5_move_12 : decode cX5_move 12 = .ok (.iaload, 1) := by decide +kernel
theorem dX5_move_13 : decode cX5_move 13 = .ok (.iastore, 1) := by decide +kernel
theorem dX5_move_14 : decode cX5_move 14 = .ok (.iinc 2 1, 3) := by decide +kernel
theorem dX5_move_17 : decode cX5_move 17 = .ok (.goto (-15), 3) := by decide +kernel
theorem dX5_move_20 : decode cX5_move 20 = .ok (.return_, 1) := by decide +kernel
theorem dX5_image_0 : decode cX5_image 0 = .ok (.aload_n 0, 1) := by decide +kernel
theorem dX5_image_1 : decode cX5_image 1 = .ok (.iconst 1, 1) := by decide +kernel
theorem dX5_image_2 : decode cX5_image 2 = .ok (.putfield 56, 3) := by decide +kernel
theorem dX5_image_5 : decode cX5_image 5 = .ok (.aload_n 0, 1) := by decide +kernel
theorem dX5_image_6 : decode cX5_image 6 = .ok (.getfield 13, 3) := by decide +kernel
theorem dX5_image_9 : decode cX5_image 9 = .ok (.aload_n 0, 1) := by decide +kernel
theorem dX5_image_10 : decode cX5_image 10 = .ok (.getfield 19, 3) := by decide +kernel
theorem dX5_image_13 : decode cX5_image 13 = .ok (.invokestatic 60, 3) := by decide +kernel
theorem dX5_image_16 : decode cX5_image 16 = .ok (.aload_n 0, 1) := by decide +kernel
theorem dX5_image_17 : decode cX5_image 17 = .ok (.getfield 13, 3) := by decide +kernel
theorem dX5_image_20 : decode cX5_image 20 = .ok (.iconst 1, 1) := by decide +kernel
theorem dX5_image_21 : decode cX5_image 21 = .ok (.iaload, 1) := by decide +kernel
theorem dX5_image_22 : decode cX5_image 22 = .ok (.ireturn, 1) := by decide +kernel
theorem dX5_on_0 : decode cX5_on 0 = .ok (.aload_n 0, 1) := by decide +kernel
theorem dX5_on_1 : decode cX5_on 1 = .ok (.getfield 56, 3) := by decide +kernel
theorem dX5_on_4 : decode cX5_on 4 = .ok (.ifCond .ne 10, 3) := by decide +kernel
theorem dX5_on_7 : decode cX5_on 7 = .ok (.aload_n 0, 1) := by decide +kernel
theorem dX5_on_8 : decode cX5_on 8 = .ok (.bipush (-3), 2) := by decide +kernel
theorem dX5_on_10 : decode cX5_on 10 = .ok (.invokevirtual 64, 3) := by decide +kernel
theorem dX5_on_13 : decode cX5_on 13 = .ok (.ireturn, 1) := by decide +kernel
theorem dX5_on_14 : decode cX5_on 14 = .ok (.aload_n 0, 1) := by decide +kernel
theorem dX5_on_15 : decode cX5_on 15 = .ok (.getfield 19, 3) := by decide +kernel
theorem dX5_on_18 : decode cX5_on 18 = .ok (.aload_n 0, 1) := by decide +kernel
theorem dX5_on_19 : decode cX5_on 19 = .ok (.getfield 13, 3) := by decide +kernel
theorem dX5_on_22 : decode cX5_on 22 = .ok (.invokestatic 60, 3) := by decide +kernel
theorem dX5_on_25 : decode cX5_on 25 = .ok (.aload_n 0, 1) := by decide +kernel
theorem dX5_on_26 : decode cX5_on 26 = .ok (.getfield 13, 3) := by decide +kernel
theorem dX5_on_29 : decode cX5_on 29 = .ok (.iconst 1, 1) := by decide +kernel
theorem dX5_on_30 : decode cX5_on 30 = .ok (.iaload, 1) := by decide +kernel
theorem dX5_on_31 : decode cX5_on 31 = .ok (.ireturn, 1) := by decide +kernel
theorem dX5_worthOf_0 : decode cX5_worthOf 0 = .ok (.aload_n 0, 1) := by decide +kernel
theorem dX5_worthOf_1 : decode cX5_worthOf 1 = .ok (.bipush 30, 2) := by decide +kernel
theorem dX5_worthOf_3 : decode cX5_worthOf 3 = .ok (.iconst 4, 1) := by decide +kernel
theorem dX5_worthOf_4 : decode cX5_worthOf 4 = .ok (.iload_n 1, 1) := by decide +kernel
theorem dX5_worthOf_5 : decode cX5_worthOf 5 = .ok (.imul, 1) := by decide +kernel
theorem dX5_worthOf_6 : decode cX5_worthOf 6 = .ok (.iadd, 1) := by decide +kernel
theorem dX5_worthOf_7 : decode cX5_worthOf 7 = .ok (.iaload, 1) := by decide +kernel
theorem dX5_worthOf_8 : decode cX5_worthOf 8 = .ok (.istore_n 3, 1) := by decide +kernel
theorem dX5_worthOf_9 : decode cX5_worthOf 9 = .ok (.aload_n 0, 1) := by decide +kernel
theorem dX5_worthOf_10 : decode cX5_worthOf 10 = .ok (.bipush 30, 2) := by decide +kernel
theorem dX5_worthOf_12 : decode cX5_worthOf 12 = .ok (.iconst 4, 1) := by decide +kernel
theorem dX5_worthOf_13 : decode cX5_worthOf 13 = .ok (.iload_n 1, 1) := by decide +kernel
theorem dX5_worthOf_14 : decode cX5_worthOf 14 = .ok (.imul, 1) := by decide +kernel
theorem dX5_worthOf_15 : decode cX5_worthOf 15 = .ok (.iadd, 1) := by decide +kernel
theorem dX5_worthOf_16 : decode cX5_worthOf 16 = .ok (.iconst 2, 1) := by decide +kernel
theorem dX5_worthOf_17 : decode cX5_worthOf 17 = .ok (.iadd, 1) := by decide +kernel
theorem dX5_worthOf_18 : decode cX5_worthOf 18 = .ok (.iaload, 1) := by decide +kernel
theorem dX5_worthOf_19 : decode cX5_worthOf 19 = .ok (.istore 4, 2) := by decide +kernel
theorem dX5_worthOf_21 : decode cX5_worthOf 21 = .ok (.iload_n 3, 1) := by decide +kernel
theorem dX5_worthOf_22 : decode cX5_worthOf 22 = .ok (.tableswitch 66 0 4 #[34, 66, 43, 66, 64], 34) := by decide +kernel
theorem dX5_worthOf_56 : decode cX5_worthOf 56 = .ok (.iconst 0, 1) := by decide +kernel
theorem dX5_worthOf_57 : decode cX5_worthOf 57 = .ok (.iload 4, 2) := by decide +kernel
theorem dX5_worthOf_59 : decode cX5_worthOf 59 = .ok (.iload_n 2, 1) := by decide +kernel
theorem dX5_worthOf_60 : decode cX5_worthOf 60 = .ok (.isub, 1) := by decide +kernel
theorem dX5_worthOf_61 : decode cX5_worthOf 61 = .ok (.invokestatic 68, 3) := by decide +kernel
theorem dX5_worthOf_64 : decode cX5_worthOf 64 = .ok (.ireturn, 1) := by decide +kernel
theorem dX5_worthOf_65 : decode cX5_worthOf 65 = .ok (.iload_n 2, 1) := by decide +kernel
theorem dX5_worthOf_66 : decode cX5_worthOf 66 = .ok (.iconst 2, 1) := by decide +kernel
theorem dX5_worthOf_67 : decode cX5_worthOf 67 = .ok (.if_icmp .le 10, 3) := by decide +kernel
theorem dX5_worthOf_70 : decode cX5_worthOf 70 = .ok (.iload 4, 2) := by decide +kernel
theorem dX5_worthOf_72 : decode cX5_worthOf 72 = .ok (.iconst 1, 1) := by decide +kernel
theorem dX5_worthOf_73 : decode cX5_worthOf 73 = .ok (.iadd, 1) := by decide +kernel
theorem dX5_worthOf_74 : decode cX5_worthOf 74 = .ok (.goto 11, 3) := by decide +kernel
theorem dX5_worthOf_77 : decode cX5_worthOf 77 = .ok (.iconst 0, 1) := by decide +kernel
theorem dX5_worthOf_78 : decode cX5_worthOf 78 = .ok (.iload 4, 2) := by decide +kernel
theorem dX5_worthOf_80 : decode cX5_worthOf 80 = .ok (.iload_n 2, 1) := by decide +kernel
theorem dX5_worthOf_81 : decode cX5_worthOf 81 = .ok (.isub, 1) := by decide +kernel
theorem dX5_worthOf_82 : decode cX5_worthOf 82 = .ok (.invokestatic 68, 3) := by decide +kernel
theorem dX5_worthOf_85 : decode cX5_worthOf 85 = .ok (.ireturn, 1) := by decide +kernel
theorem dX5_worthOf_86 : decode cX5_worthOf 86 = .ok (.iconst 1, 1) := by decide +kernel
theorem dX5_worthOf_87 : decode cX5_worthOf 87 = .ok (.ireturn, 1) := by decide +kernel
theorem dX5_worthOf_88 : decode cX5_worthOf 88 = .ok (.iload_n 2, 1) := by decide +kernel
theorem dX5_worthOf_89 : decode cX5_worthOf 89 = .ok (.iconst 1, 1) := by decide +kernel
theorem dX5_worthOf_90 : decode cX5_worthOf 90 = .ok (.if_icmp .gt 13, 3) := by decide +kernel
theorem dX5_worthOf_93 : decode cX5_worthOf 93 = .ok (.iload_n 2, 1) := by decide +kernel
theorem dX5_worthOf_94 : decode cX5_worthOf 94 = .ok (.iconst 1, 1) := by decide +kernel
theorem dX5_worthOf_95 : decode cX5_worthOf 95 = .ok (.if_icmp .ne 10, 3) := by decide +kernel
theorem dX5_worthOf_98 : decode cX5_worthOf 98 = .ok (.iload_n 3, 1) := by decide +kernel
theorem dX5_worthOf_99 : decode cX5_worthOf 99 = .ok (.iconst 1, 1) := by decide +kernel
theorem dX5_worthOf_100 : decode cX5_worthOf 100 = .ok (.if_icmp .ne 5, 3) := by decide +kernel
theorem dX5_worthOf_103 : decode cX5_worthOf 103 = .ok (.iconst (-1), 1) := by decide +kernel
theorem dX5_worthOf_104 : decode cX5_worthOf 104 = .ok (.ireturn, 1) := by decide +kernel
theorem dX5_worthOf_105 : decode cX5_worthOf 105 = .ok (.iload_n 2, 1) := by decide +kernel
theorem dX5_worthOf_106 : decode cX5_worthOf 106 = .ok (.ifCond .ne 8, 3) := by decide +kernel
theorem dX5_worthOf_109 : decode cX5_worthOf 109 = .ok (.iload 4, 2) := by decide +kernel
theorem dX5_worthOf_111 : decode cX5_worthOf 111 = .ok (.goto 7, 3) := by decide +kernel
theorem dX5_worthOf_114 : decode cX5_worthOf 114 = .ok (.iload 4, 2) := by decide +kernel
theorem dX5_worthOf_116 : decode cX5_worthOf 116 = .ok (.iconst 2, 1) := by decide +kernel
theorem dX5_worthOf_117 : decode cX5_worthOf 117 = .ok (.idiv, 1) := by decide +kernel
theorem dX5_worthOf_118 : decode cX5_worthOf 118 = .ok (.istore 5, 2) := by decide +kernel
theorem dX5_worthOf_120 : decode cX5_worthOf 120 = .ok (.iload_n 3, 1) := by decide +kernel
theorem dX5_worthOf_121 : decode cX5_worthOf 121 = .ok (.iconst 5, 1) := by decide +kernel
theorem dX5_worthOf_122 : decode cX5_worthOf 122 = .ok (.if_icmp .ne 24, 3) := by decide +kernel
theorem dX5_worthOf_125 : decode cX5_worthOf 125 = .ok (.aload_n 0, 1) := by decide +kernel
theorem dX5_worthOf_126 : decode cX5_worthOf 126 = .ok (.iconst 1, 1) := by decide +kernel
theorem dX5_worthOf_127 : decode cX5_worthOf 127 = .ok (.iaload, 1) := by decide +kernel
theorem dX5_worthOf_128 : decode cX5_worthOf 128 = .ok (.bipush 7, 2) := by decide +kernel
theorem dX5_worthOf_130 : decode cX5_worthOf 130 = .ok (.irem, 1) := by decide +kernel
theorem dX5_worthOf_131 : decode cX5_worthOf 131 = .ok (.iconst 4, 1) := by decide +kernel
theorem dX5_worthOf_132 : decode cX5_worthOf 132 = .ok (.if_icmp .le 14, 3) := by decide +kernel
theorem dX5_worthOf_135 : decode cX5_worthOf 135 = .ok (.iconst 0, 1) := by decide +kernel
theorem dX5_worthOf_136 : decode cX5_worthOf 136 = .ok (.iload 5, 2) := by decide +kernel
theorem dX5_worthOf_138 : decode cX5_worthOf 138 = .ok (.iconst 1, 1) := by decide +kernel
theorem dX5_worthOf_139 : decode cX5_worthOf 139 = .ok (.isub, 1) := by decide +kernel
theorem dX5_worthOf_140 : decode cX5_worthOf 140 = .ok (.invokestatic 68, 3) := by decide +kernel
theorem dX5_worthOf_143 : decode cX5_worthOf 143 = .ok (.goto 5, 3) := by decide +kernel
theorem dX5_worthOf_146 : decode cX5_worthOf 146 = .ok (.iload 5, 2) := by decide +kernel
theorem dX5_worthOf_148 : decode cX5_worthOf 148 = .ok (.ireturn, 1) := by decide +kernel
theorem dX5_next_0 : decode cX5_next 0 = .ok (.aload_n 0, 1) := by decide +kernel
theorem dX5_next_1 : decode cX5_next 1 = .ok (.bipush 7, 2) := by decide +kernel
theorem dX5_next_3 : decode cX5_next 3 = .ok (.iaload, 1) := by decide +kernel
theorem dX5_next_4 : decode cX5_next 4 = .ok (.istore_n 2, 1) := by decide +kernel
theorem dX5_next_5 : decode cX5_next 5 = .ok (.iload_n 2, 1) := by decide +kernel
theorem dX5_next_6 : decode cX5_next 6 = .ok (.iconst 4, 1) := by decide +kernel
theorem dX5_next_7 : decode cX5_next 7 = .ok (.if_icmp .ne 19, 3) := by decide +kernel
theorem dX5_next_10 : decode cX5_next 10 = .ok (.aload_n 0, 1) := by decide +kernel
theorem dX5_next_11 : decode cX5_next 11 = .ok (.iconst 1, 1) := by decide +kernel
theorem dX5_next_12 : decode cX5_next 12 = .ok (.iaload, 1) := by decide +kernel
theorem dX5_next_13 : decode cX5_next 13 = .ok (.iconst 2, 1) := by decide +kernel
theorem dX5_next_14 : decode cX5_next 14 = .ok (.irem, 1) := by decide +kernel
theorem dX5_next_15 : decode cX5_next 15 = .ok (.ifCond .ne 7, 3) := by decide +kernel
theorem dX5_next_18 : decode cX5_next 18 = .ok (.iconst 2, 1) := by decide +kernel
theorem dX5_next_19 : decode cX5_next 19 = .ok (.goto 8, 3) := by decide +kernel
theorem dX5_next_22 : decode cX5_next 22 = .ok (.iconst 1, 1) := by decide +kernel
theorem dX5_next_23 : decode cX5_next 23 = .ok (.goto 4, 3) := by decide +kernel
theorem dX5_next_26 : decode cX5_next 26 = .ok (.iload_n 2, 1) := by decide +kernel
theorem dX5_next_27 : decode cX5_next 27 = .ok (.istore_n 2, 1) := by decide +kernel
theorem dX5_next_28 : decode cX5_next 28 = .ok (.bipush (-9), 2) := by decide +kernel
theorem dX5_next_30 : decode cX5_next 30 = .ok (.istore_n 3, 1) := by decide +kernel
theorem dX5_next_31 : decode cX5_next 31 = .ok (.iconst 4, 1) := by decide +kernel
theorem dX5_next_32 : decode cX5_next 32 = .ok (.istore 4, 2) := by decide +kernel
theorem dX5_next_34 : decode cX5_next 34 = .ok (.iload 4, 2) := by decide +kernel
theorem dX5_next_36 : decode cX5_next 36 = .ok (.ifCond .lt 79, 3) := by decide +kernel
theorem dX5_next_39 : decode cX5_next 39 = .ok (.aload_n 0, 1) := by decide +kernel
theorem dX5_next_40 : decode cX5_next 40 = .ok (.iload_n 1, 1) := by decide +kernel
theorem dX5_next_41 : decode cX5_next 41 = .ok (.iload 4, 2) := by decide +kernel
theorem dX5_next_43 : decode cX5_next 43 = .ok (.invokestatic 74, 3) := by decide +kernel
theorem dX5_next_46 : decode cX5_next 46 = .ok (.istore 5, 2) := by decide +kernel
theorem dX5_next_48 : decode cX5_next 48 = .ok (.aload_n 0, 1) := by decide +kernel
theorem dX5_next_49 : decode cX5_next 49 = .ok (.bipush 10, 2) := by decide +kernel
theorem dX5_next_51 : decode cX5_next 51 = .ok (.iload 4, 2) := by decide +kernel
theorem dX5_next_53 : decode cX5_next 53 = .ok (.iadd, 1) := by decide +kernel
theorem dX5_next_54 : decode cX5_next 54 = .ok (.iaload, 1) := by decide +kernel
theorem dX5_next_55 : decode cX5_next 55 = .ok (.ifCond .le 54, 3) := by decide +kernel
theorem dX5_next_58 : decode cX5_next 58 = .ok (.iload 5, 2) := by decide +kernel
theorem dX5_next_60 : decode cX5_next 60 = .ok (.ifCond .lt 49, 3) := by decide +kernel
theorem dX5_next_63 : decode cX5_next 63 = .ok (.iload_n 3, 1) := by decide +kernel
theorem dX5_next_64 : decode cX5_next 64 = .ok (.bipush (-9), 2) := by decide +kernel
theorem dX5_next_66 : decode cX5_next 66 = .ok (.if_icmp .eq 24, 3) := by decide +kernel
theorem dX5_next_69 : decode cX5_next 69 = .ok (.iload_n 2, 1) := by decide +kernel
theorem dX5_next_70 : decode cX5_next 70 = .ok (.iconst 1, 1) := by decide +kernel
theorem dX5_next_71 : decode cX5_next 71 = .ok (.if_icmp .eq 19, 3) := by decide +kernel
theorem dX5_next_74 : decode cX5_next 74 = .ok (.iload_n 2, 1) := by decide +kernel
theorem dX5_next_75 : decode cX5_next 75 = .ok (.iconst 2, 1) := by decide +kernel
theorem dX5_next_76 : decode cX5_next 76 = .ok (.if_icmp .ne 18, 3) := by decide +kernel
theorem dX5_next_79 : decode cX5_next 79 = .ok (.iload 5, 2) := by decide +kernel
theorem dX5_next_81 : decode cX5_next 81 = .ok (.aload_n 0, 1) := by decide +kernel
theorem dX5_next_82 : decode cX5_next 82 = .ok (.iload_n 1, 1) := by decide +kernel
theorem dX5_next_83 : decode cX5_next 83 = .ok (.iload_n 3, 1) := by decide +kernel
theorem dX5_next_84 : decode cX5_next 84 = .ok (.invokestatic 74, 3) := by decide +kernel
theorem dX5_next_87 : decode cX5_next 87 = .ok (.if_icmp .le 7, 3) := by decide +kernel
theorem dX5_next_90 : decode cX5_next 90 = .ok (.iconst 1, 1) := by decide +kernel
theorem dX5_next_91 : decode cX5_next 91 = .ok (.goto 4, 3) := by decide +kernel
theorem dX5_next_94 : decode cX5_next 94 = .ok (.iconst 0, 1) := by decide +kernel
theorem dX5_next_95 : decode cX5_next 95 = .ok (.istore 6, 2) := by decide +kernel
theorem dX5_next_97 : decode cX5_next 97 = .ok (.iload 6, 2) := by decide +kernel
theorem dX5_next_99 : decode cX5_next 99 = .ok (.ifCond .eq 8, 3) := by decide +kernel
theorem dX5_next_102 : decode cX5_next 102 = .ok (.iload 4, 2) := by decide +kernel
theorem dX5_next_104 : decode cX5_next 104 = .ok (.goto 4, 3) := by decide +kernel
theorem dX5_next_107 : decode cX5_next 107 = .ok (.iload_n 3, 1) := by decide +kernel
theorem dX5_next_108 : decode cX5_next 108 = .ok (.istore_n 3, 1) := by decide +kernel
theorem dX5_next_109 : decode cX5_next 109 = .ok (.iinc 4 (-1), 3) := by decide +kernel
theorem dX5_next_112 : decode cX5_next 112 = .ok (.goto (-78), 3) := by decide +kernel
theorem dX5_next_115 : decode cX5_next 115 = .ok (.iload_n 3, 1) := by decide +kernel
theorem dX5_next_116 : decode cX5_next 116 = .ok (.ifCond .ne 26, 3) := by decide +kernel
theorem dX5_next_119 : decode cX5_next 119 = .ok (.iload_n 2, 1) := by decide +kernel
theorem dX5_next_120 : decode cX5_next 120 = .ok (.iconst 3, 1) := by decide +kernel
theorem dX5_next_121 : decode cX5_next 121 = .ok (.if_icmp .eq 8, 3) := by decide +kernel
theorem dX5_next_124 : decode cX5_next 124 = .ok (.iload_n 2, 1) := by decide +kernel
theorem dX5_next_125 : decode cX5_next 125 = .ok (.iconst 5, 1) := by decide +kernel
theorem dX5_next_126 : decode cX5_next 126 = .ok (.if_icmp .ne 16, 3) := by decide +kernel
theorem dX5_next_129 : decode cX5_next 129 = .ok (.aload_n 0, 1) := by decide +kernel
theorem dX5_next_130 : decode cX5_next 130 = .ok (.bipush 10, 2) := by decide +kernel
theorem dX5_next_132 : decode cX5_next 132 = .ok (.iaload, 1) := by decide +kernel
theorem dX5_next_133 : decode cX5_next 133 = .ok (.iconst 3, 1) := by decide +kernel
theorem dX5_next_134 : decode cX5_next 134 = .ok (.if_icmp .gt 8, 3) := by decide +kernel
theorem dX5_next_137 : decode cX5_next 137 = .ok (.bipush (-9), 2) := by decide +kernel
theorem dX5_next_139 : decode cX5_next 139 = .ok (.goto 4, 3) := by decide +kernel
theorem dX5_next_142 : decode cX5_next 142 = .ok (.iload_n 3, 1) := by decide +kernel
theorem dX5_next_143 : decode cX5_next 143 = .ok (.ireturn, 1) := by decide +kernel
theorem dX5_come_0 : decode cX5_come 0 = .ok (.iload_n 3, 1) := by decide +kernel
theorem dX5_come_1 : decode cX5_come 1 = .ok (.bipush 60, 2) := by decide +kernel
theorem dX5_come_3 : decode cX5_come 3 = .ok (.aload_n 1, 1) := by decide +kernel
theorem dX5_come_4 : decode cX5_come 4 = .ok (.bipush 10, 2) := by decide +kernel
theorem dX5_come_6 : decode cX5_come 6 = .ok (.iload_n 2, 1) := by decide +kernel
theorem dX5_come_7 : decode cX5_come 7 = .ok (.iadd, 1) := by decide +kernel
theorem dX5_come_8 : decode cX5_come 8 = .ok (.iaload, 1) := by decide +kernel
theorem dX5_come_9 : decode cX5_come 9 = .ok (.isub, 1) := by decide +kernel
theorem dX5_come_10 : decode cX5_come 10 = .ok (.invokestatic 78, 3) := by decide +kernel
theorem dX5_come_13 : decode cX5_come 13 = .ok (.istore 4, 2) := by decide +kernel
theorem dX5_come_15 : decode cX5_come 15 = .ok (.aload_n 1, 1) := by decide +kernel
theorem dX5_come_16 : decode cX5_come 16 = .ok (.bipush 10, 2) := by decide +kernel
theorem dX5_come_18 : decode cX5_come 18 = .ok (.iload_n 2, 1) := by decide +kernel
theorem dX5_come_19 : decode cX5_come 19 = .ok (.iadd, 1) := by decide +kernel
theorem dX5_come_20 : decode cX5_come 20 = .ok (.dup2, 1) := by decide +kernel
theorem dX5_come_21 : decode cX5_come 21 = .ok (.iaload, 1) := by decide +kernel
theorem dX5_come_22 : decode cX5_come 22 = .ok (.iload 4, 2) := by decide +kernel
theorem dX5_come_24 : decode cX5_come 24 = .ok (.iadd, 1) := by decide +kernel
theorem dX5_come_25 : decode cX5_come 25 = .ok (.iastore, 1) := by decide +kernel
theorem dX5_come_26 : decode cX5_come 26 = .ok (.aload_n 0, 1) := by decide +kernel
theorem dX5_come_27 : decode cX5_come 27 = .ok (.dup, 1) := by decide +kernel
theorem dX5_come_28 : decode cX5_come 28 = .ok (.getfield 81, 3) := by decide +kernel
theorem dX5_come_31 : decode cX5_come 31 = .ok (.iload 4, 2) := by decide +kernel
theorem dX5_come_33 : decode cX5_come 33 = .ok (.iadd, 1) := by decide +kernel
theorem dX5_come_34 : decode cX5_come 34 = .ok (.putfield 81, 3) := by decide +kernel
theorem dX5_come_37 : decode cX5_come 37 = .ok (.iload 4, 2) := by decide +kernel
theorem dX5_come_39 : decode cX5_come 39 = .ok (.ireturn, 1) := by decide +kernel
theorem dX5_day_0 : decode cX5_day 0 = .ok (.aload_n 0, 1) := by decide +kernel
theorem dX5_day_1 : decode cX5_day 1 = .ok (.iconst 0, 1) := by decide +kernel
theorem dX5_day_2 : decode cX5_day 2 = .ok (.putfield 85, 3) := by decide +kernel
theorem dX5_day_5 : decode cX5_day 5 = .ok (.aload_n 0, 1) := by decide +kernel
theorem dX5_day_6 : decode cX5_day 6 = .ok (.iconst 0, 1) := by decide +kernel
theorem dX5_day_7 : decode cX5_day 7 = .ok (.putfield 88, 3) := by decide +kernel
theorem dX5_day_10 : decode cX5_day 10 = .ok (.aload_n 0, 1) := by decide +kernel
theorem dX5_day_11 : decode cX5_day 11 = .ok (.iconst 0, 1) := by decide +kernel
theorem dX5_day_12 : decode cX5_day 12 = .ok (.putfield 91, 3) := by decide +kernel
theorem dX5_day_15 : decode cX5_day 15 = .ok (.aload_n 0, 1) := by decide +kernel
theorem dX5_day_16 : decode cX5_day 16 = .ok (.iconst 0, 1) := by decide +kernel
theorem dX5_day_17 : decode cX5_day 17 = .ok (.putfield 81, 3) := by decide +kernel
theorem dX5_day_20 : decode cX5_day 20 = .ok (.aload_n 0, 1) := by decide +kernel
theorem dX5_day_21 : decode cX5_day 21 = .ok (.iconst 0, 1) := by decide +kernel
theorem dX5_day_22 : decode cX5_day 22 = .ok (.putfield 94, 3) := by decide +kernel
theorem dX5_day_25 : decode cX5_day 25 = .ok (.aload_n 1, 1) := by decide +kernel
theorem dX5_day_26 : decode cX5_day 26 = .ok (.bipush 20, 2) := by decide +kernel
theorem dX5_day_28 : decode cX5_day 28 = .ok (.aload_n 1, 1) := by decide +kernel
theorem dX5_day_29 : decode cX5_day 29 = .ok (.iconst 1, 1) := by decide +kernel
theorem dX5_day_30 : decode cX5_day 30 = .ok (.iaload, 1) := by decide +kernel
theorem dX5_day_31 : decode cX5_day 31 = .ok (.bipush 7, 2) := by decide +kernel
theorem dX5_day_33 : decode cX5_day 33 = .ok (.irem, 1) := by decide +kernel
theorem dX5_day_34 : decode cX5_day 34 = .ok (.iadd, 1) := by decide +kernel
theorem dX5_day_35 : decode cX5_day 35 = .ok (.iaload, 1) := by decide +kernel
theorem dX5_day_36 : decode cX5_day 36 = .ok (.iconst 1, 1) := by decide +kernel
theorem dX5_day_37 : decode cX5_day 37 = .ok (.if_icmp .ne 89, 3) := by decide +kernel
theorem dX5_day_40 : decode cX5_day 40 = .ok (.aload_n 0, 1) := by decide +kernel
theorem dX5_day_41 : decode cX5_day 41 = .ok (.dup, 1) := by decide +kernel
theorem dX5_day_42 : decode cX5_day 42 = .ok (.getfield 85, 3) := by decide +kernel
theorem dX5_day_45 : decode cX5_day 45 = .ok (.aload_n 1, 1) := by decide +kernel
theorem dX5_day_46 : decode cX5_day 46 = .ok (.iconst 4, 1) := by decide +kernel
theorem dX5_day_47 : decode cX5_day 47 = .ok (.iaload, 1) := by decide +kernel
theorem dX5_day_48 : decode cX5_day 48 = .ok (.aload_n 0, 1) := by decide +kernel
theorem dX5_day_49 : decode cX5_day 49 = .ok (.aload_n 1, 1) := by decide +kernel
theorem dX5_day_50 : decode cX5_day 50 = .ok (.iconst 0, 1) := by decide +kernel
theorem dX5_day_51 : decode cX5_day 51 = .ok (.aload_n 1, 1) := by decide +kernel
theorem dX5_day_52 : decode cX5_day 52 = .ok (.iconst 2, 1) := by decide +kernel
theorem dX5_day_53 : decode cX5_day 53 = .ok (.iaload, 1) := by decide +kernel
theorem dX5_day_54 : decode cX5_day 54 = .ok (.iload_n 2, 1) := by decide +kernel
theorem dX5_day_55 : decode cX5_day 55 = .ok (.isub, 1) := by decide +kernel
theorem dX5_day_56 : decode cX5_day 56 = .ok (.invokevirtual 97, 3) := by decide +kernel
theorem dX5_day_59 : decode cX5_day 59 = .ok (.imul, 1) := by decide +kernel
theorem dX5_day_60 : decode cX5_day 60 = .ok (.isub, 1) := by decide +kernel
theorem dX5_day_61 : decode cX5_day 61 = .ok (.putfield 85, 3) := by decide +kernel
theorem dX5_day_64 : decode cX5_day 64 = .ok (.aload_n 0, 1) := by decide +kernel
theorem dX5_day_65 : decode cX5_day 65 = .ok (.dup, 1) := by decide +kernel
theorem dX5_day_66 : decode cX5_day 66 = .ok (.getfield 85, 3) := by decide +kernel
theorem dX5_day_69 : decode cX5_day 69 = .ok (.aload_n 1, 1) := by decide +kernel
theorem dX5_day_70 : decode cX5_day 70 = .ok (.iconst 4, 1) := by decide +kernel
theorem dX5_day_71 : decode cX5_day 71 = .ok (.iaload, 1) := by decide +kernel
theorem dX5_day_72 : decode cX5_day 72 = .ok (.iconst 2, 1) := by decide +kernel
theorem dX5_day_73 : decode cX5_day 73 = .ok (.idiv, 1) := by decide +kernel
theorem dX5_day_74 : decode cX5_day 74 = .ok (.aload_n 0, 1) := by decide +kernel
theorem dX5_day_75 : decode cX5_day 75 = .ok (.aload_n 1, 1) := by decide +kernel
theorem dX5_day_76 : decode cX5_day 76 = .ok (.iconst 1, 1) := by decide +kernel
theorem dX5_day_77 : decode cX5_day 77 = .ok (.aload_n 1, 1) := by decide +kernel
theorem dX5_day_78 : decode cX5_day 78 = .ok (.iconst 3, 1) := by decide +kernel
theorem dX5_day_79 : decode cX5_day 79 = .ok (.iaload, 1) := by decide +kernel
theorem dX5_day_80 : decode cX5_day 80 = .ok (.invokevirtual 97, 3) := by decide +kernel
theorem dX5_day_83 : decode cX5_day 83 = .ok (.imul, 1) := by decide +kernel
theorem dX5_day_84 : decode cX5_day 84 = .ok (.isub, 1) := by decide +kernel
theorem dX5_day_85 : decode cX5_day 85 = .ok (.putfield 85, 3) := by decide +kernel
theorem dX5_day_88 : decode cX5_day 88 = .ok (.aload_n 1, 1) := by decide +kernel
theorem dX5_day_89 : decode cX5_day 89 = .ok (.bipush 20, 2) := by decide +kernel
theorem dX5_day_91 : decode cX5_day 91 = .ok (.aload_n 1, 1) := by decide +kernel
theorem dX5_day_92 : decode cX5_day 92 = .ok (.iconst 1, 1) := by decide +kernel
theorem dX5_day_93 : decode cX5_day 93 = .ok (.iaload, 1) := by decide +kernel
theorem dX5_day_94 : decode cX5_day 94 = .ok (.iconst 1, 1) := by decide +kernel
theorem dX5_day_95 : decode cX5_day 95 = .ok (.iadd, 1) := by decide +kernel
theorem dX5_day_96 : decode cX5_day 96 = .ok (.bipush 7, 2) := by decide +kernel
theorem dX5_day_98 : decode cX5_day 98 = .ok (.irem, 1) := by decide +kernel
theorem dX5_day_99 : decode cX5_day 99 = .ok (.iadd, 1) := by decide +kernel
theorem dX5_day_100 : decode cX5_day 100 = .ok (.iaload, 1) := by decide +kernel
theorem dX5_day_101 : decode cX5_day 101 = .ok (.ifCond .ne 25, 3) := by decide +kernel
theorem dX5_day_104 : decode cX5_day 104 = .ok (.aload_n 0, 1) := by decide +kernel
theorem dX5_day_105 : decode cX5_day 105 = .ok (.dup, 1) := by decide +kernel
theorem dX5_day_106 : decode cX5_day 106 = .ok (.getfield 85, 3) := by decide +kernel
theorem dX5_day_109 : decode cX5_day 109 = .ok (.aload_n 1, 1) := by decide +kernel
theorem dX5_day_110 : decode cX5_day 110 = .ok (.iconst 4, 1) := by decide +kernel
theorem dX5_day_111 : decode cX5_day 111 = .ok (.iaload, 1) := by decide +kernel
theorem dX5_day_112 : decode cX5_day 112 = .ok (.aload_n 0, 1) := by decide +kernel
theorem dX5_day_113 : decode cX5_day 113 = .ok (.aload_n 1, 1) := by decide +kernel
theorem dX5_day_114 : decode cX5_day 114 = .ok (.iconst 0, 1) := by decide +kernel
theorem dX5_day_115 : decode cX5_day 115 = .ok (.aload_n 1, 1) := by decide +kernel
theorem dX5_day_116 : decode cX5_day 116 = .ok (.iconst 2, 1) := by decide +kernel
theorem dX5_day_117 : decode cX5_day 117 = .ok (.iaload, 1) := by decide +kernel
theorem dX5_day_118 : decode cX5_day 118 = .ok (.invokevirtual 97, 3) := by decide +kernel
theorem dX5_day_121 : decode cX5_day 121 = .ok (.imul, 1) := by decide +kernel
theorem dX5_day_122 : decode cX5_day 122 = .ok (.isub, 1) := by decide +kernel
theorem dX5_day_123 : decode cX5_day 123 = .ok (.putfield 85, 3) := by decide +kernel
theorem dX5_day_126 : decode cX5_day 126 = .ok (.iconst 0, 1) := by decide +kernel
theorem dX5_day_127 : decode cX5_day 127 = .ok (.istore_n 3, 1) := by decide +kernel
theorem dX5_day_128 : decode cX5_day 128 = .ok (.iload_n 3, 1) := by decide +kernel
theorem dX5_day_129 : decode cX5_day 129 = .ok (.aload_n 1, 1) := by decide +kernel
theorem dX5_day_130 : decode cX5_day 130 = .ok (.iconst 0, 1) := by decide +kernel
theorem dX5_day_131 : decode cX5_day 131 = .ok (.iaload, 1) := by decide +kernel
theorem dX5_day_132 : decode cX5_day 132 = .ok (.if_icmp .ge 162, 3) := by decide +kernel
theorem dX5_day_135 : decode cX5_day 135 = .ok (.aload_n 1, 1) := by decide +kernel
theorem dX5_day_136 : decode cX5_day 136 = .ok (.bipush 7, 2) := by decide +kernel
theorem dX5_day_138 : decode cX5_day 138 = .ok (.iaload, 1) := by decide +kernel
theorem dX5_day_139 : decode cX5_day 139 = .ok (.iconst 5, 1) := by decide +kernel
theorem dX5_day_140 : decode cX5_day 140 = .ok (.if_icmp .ne 18, 3) := by decide +kernel
theorem dX5_day_143 : decode cX5_day 143 = .ok (.iconst 0, 1) := by decide +kernel
theorem dX5_day_144 : decode cX5_day 144 = .ok (.aload_n 0, 1) := by decide +kernel
theorem dX5_day_145 : decode cX5_day 145 = .ok (.getfield 22, 3) := by decide +kernel
theorem dX5_day_148 : decode cX5_day 148 = .ok (.iload_n 3, 1) := by decide +kernel
theorem dX5_day_149 : decode cX5_day 149 = .ok (.iaload, 1) := by decide +kernel
theorem dX5_day_150 : decode cX5_day 150 = .ok (.iconst 1, 1) := by decide +kernel
theorem dX5_day_151 : decode cX5_day 151 = .ok (.isub, 1) := by decide +kernel
theorem dX5_day_152 : decode cX5_day 152 = .ok (.invokestatic 68, 3) := by decide +kernel
theorem dX5_day_155 : decode cX5_day 155 = .ok (.goto 9, 3) := by decide +kernel
theorem dX5_day_158 : decode cX5_day 158 = .ok (.aload_n 0, 1) := by decide +kernel
theorem dX5_day_159 : decode cX5_day 159 = .ok (.getfield 22, 3) := by decide +kernel
theorem dX5_day_162 : decode cX5_day 162 = .ok (.iload_n 3, 1) := by decide +kernel
theorem dX5_day_163 : decode cX5_day 163 = .ok (.iaload, 1) := by decide +kernel
theorem dX5_day_164 : decode cX5_day 164 = .ok (.istore 4, 2) := by decide +kernel
theorem dX5_day_166 : decode cX5_day 166 = .ok (.iconst 0, 1) := by decide +kernel
theorem dX5_day_167 : decode cX5_day 167 = .ok (.istore 5, 2) := by decide +kernel
theorem dX5_day_169 : decode cX5_day 169 = .ok (.aload_n 1, 1) := by decide +kernel
theorem dX5_day_170 : decode cX5_day 170 = .ok (.iload_n 3, 1) := by decide +kernel
theorem dX5_day_171 : decode cX5_day 171 = .ok (.invokestatic 100, 3) := by decide +kernel
theorem dX5_day_174 : decode cX5_day 174 = .ok (.istore 6, 2) := by decide +kernel
theorem dX5_day_176 : decode cX5_day 176 = .ok (.iload 5, 2) := by decide +kernel
theorem dX5_day_178 : decode cX5_day 178 = .ok (.iload 4, 2) := by decide +kernel
theorem dX5_day_180 : decode cX5_day 180 = .ok (.if_icmp .ge 90, 3) := by decide +kernel
theorem dX5_day_183 : decode cX5_day 183 = .ok (.iload 6, 2) := by decide +kernel
theorem dX5_day_185 : decode cX5_day 185 = .ok (.bipush (-9), 2) := by decide +kernel
theorem dX5_day_187 : decode cX5_day 187 = .ok (.if_icmp .eq 83, 3) := by decide +kernel
theorem dX5_day_190 : decode cX5_day 190 = .ok (.aload_n 0, 1) := by decide +kernel
theorem dX5_day_191 : decode cX5_day 191 = .ok (.dup, 1) := by decide +kernel
theorem dX5_day_192 : decode cX5_day 192 = .ok (.getfield 85, 3) := by decide +kernel
theorem dX5_day_195 : decode cX5_day 195 = .ok (.aload_n 1, 1) := by decide +kernel
theorem dX5_day_196 : decode cX5_day 196 = .ok (.iload_n 3, 1) := by decide +kernel
theorem dX5_day_197 : decode cX5_day 197 = .ok (.iload 6, 2) := by decide +kernel
theorem dX5_day_199 : decode cX5_day 199 = .ok (.invokestatic 74, 3) := by decide +kernel
theorem dX5_day_202 : decode cX5_day 202 = .ok (.iadd, 1) := by decide +kernel
theorem dX5_day_203 : decode cX5_day 203 = .ok (.putfield 85, 3) := by decide +kernel
theorem dX5_day_206 : decode cX5_day 206 = .ok (.aload_n 1, 1) := by decide +kernel
theorem dX5_day_207 : decode cX5_day 207 = .ok (.bipush 10, 2) := by decide +kernel
theorem dX5_day_209 : decode cX5_day 209 = .ok (.iload 6, 2) := by decide +kernel
theorem dX5_day_211 : decode cX5_day 211 = .ok (.iadd, 1) := by decide +kernel
theorem dX5_day_212 : decode cX5_day 212 = .ok (.dup2, 1) := by decide +kernel
theorem dX5_day_213 : decode cX5_day 213 = .ok (.iaload, 1) := by decide +kernel
theorem dX5_day_214 : decode cX5_day 214 = .ok (.iconst 1, 1) := by decide +kernel
theorem dX5_day_215 : decode cX5_day 215 = .ok (.isub, 1) := by decide +kernel
theorem dX5_day_216 : decode cX5_day 216 = .ok (.iastore, 1) := by decide +kernel
theorem dX5_day_217 : decode cX5_day 217 = .ok (.aload_n 0, 1) := by decide +kernel
theorem dX5_day_218 : decode cX5_day 218 = .ok (.getfield 25, 3) := by decide +kernel
theorem dX5_day_221 : decode cX5_day 221 = .ok (.aload_n 0, 1) := by decide +kernel
theorem dX5_day_222 : decode cX5_day 222 = .ok (.getfield 94, 3) := by decide +kernel
theorem dX5_day_225 : decode cX5_day 225 = .ok (.iload 6, 2) := by decide +kernel
theorem dX5_day_227 : decode cX5_day 227 = .ok (.iastore, 1) := by decide +kernel
theorem dX5_day_228 : decode cX5_day 228 = .ok (.aload_n 0, 1) := by decide +kernel
theorem dX5_day_229 : decode cX5_day 229 = .ok (.dup, 1) := by decide +kernel
theorem dX5_day_230 : decode cX5_day 230 = .ok (.getfield 94, 3) := by decide +kernel
theorem dX5_day_233 : decode cX5_day 233 = .ok (.iconst 1, 1) := by decide +kernel
theorem dX5_day_234 : decode cX5_day 234 = .ok (.iadd, 1) := by decide +kernel
theorem dX5_day_235 : decode cX5_day 235 = .ok (.putfield 94, 3) := by decide +kernel
theorem dX5_day_238 : decode cX5_day 238 = .ok (.aload_n 0, 1) := by decide +kernel
theorem dX5_day_239 : decode cX5_day 239 = .ok (.dup, 1) := by decide +kernel
theorem dX5_day_240 : decode cX5_day 240 = .ok (.getfield 88, 3) := by decide +kernel
theorem dX5_day_243 : decode cX5_day 243 = .ok (.iload 6, 2) := by decide +kernel
theorem dX5_day_245 : decode cX5_day 245 = .ok (.ifCond .ne 7, 3) := by decide +kernel
theorem dX5_day_248 : decode cX5_day 248 = .ok (.iconst 1, 1) := by decide +kernel
theorem dX5_day_249 : decode cX5_day 249 = .ok (.goto 4, 3) := by decide +kernel
theorem dX5_day_252 : decode cX5_day 252 = .ok (.iconst 0, 1) := by decide +kernel
theorem dX5_day_253 : decode cX5_day 253 = .ok (.iadd, 1) := by decide +kernel
theorem dX5_day_254 : decode cX5_day 254 = .ok (.putfield 88, 3) := by decide +kernel
theorem dX5_day_257 : decode cX5_day 257 = .ok (.iinc 5 1, 3) := by decide +kernel
theorem dX5_day_260 : decode cX5_day 260 = .ok (.aload_n 1, 1) := by decide +kernel
theorem dX5_day_261 : decode cX5_day 261 = .ok (.iload_n 3, 1) := by decide +kernel
theorem dX5_day_262 : decode cX5_day 262 = .ok (.invokestatic 100, 3) := by decide +kernel
theorem dX5_day_265 : decode cX5_day 265 = .ok (.istore 6, 2) := by decide +kernel
theorem dX5_day_267 : decode cX5_day 267 = .ok (.goto (-91), 3) := by decide +kernel
theorem dX5_day_270 : decode cX5_day 270 = .ok (.aload_n 0, 1) := by decide +kernel
theorem dX5_day_271 : decode cX5_day 271 = .ok (.dup, 1) := by decide +kernel
theorem dX5_day_272 : decode cX5_day 272 = .ok (.getfield 91, 3) := by decide +kernel
theorem dX5_day_275 : decode cX5_day 275 = .ok (.aload_n 0, 1) := by decide +kernel
theorem dX5_day_276 : decode cX5_day 276 = .ok (.getfield 22, 3) := by decide +kernel
theorem dX5_day_279 : decode cX5_day 279 = .ok (.iload_n 3, 1) := by decide +kernel
theorem dX5_day_280 : decode cX5_day 280 = .ok (.iaload, 1) := by decide +kernel
theorem dX5_day_281 : decode cX5_day 281 = .ok (.iload 5, 2) := by decide +kernel
theorem dX5_day_283 : decode cX5_day 283 = .ok (.isub, 1) := by decide +kernel
theorem dX5_day_284 : decode cX5_day 284 = .ok (.iadd, 1) := by decide +kernel
theorem dX5_day_285 : decode cX5_day 285 = .ok (.putfield 91, 3) := by decide +kernel
theorem dX5_day_288 : decode cX5_day 288 = .ok (.iinc 3 1, 3) := by decide +kernel
theorem dX5_day_291 : decode cX5_day 291 = .ok (.goto (-163), 3) := by decide +kernel
theorem dX5_day_294 : decode cX5_day 294 = .ok (.aload_n 0, 1) := by decide +kernel
theorem dX5_day_295 : decode cX5_day 295 = .ok (.aload_n 1, 1) := by decide +kernel
theorem dX5_day_296 : decode cX5_day 296 = .ok (.bipush 14, 2) := by decide +kernel
theorem dX5_day_298 : decode cX5_day 298 = .ok (.iaload, 1) := by decide +kernel
theorem dX5_day_299 : decode cX5_day 299 = .ok (.putfield 104, 3) := by decide +kernel
theorem dX5_day_302 : decode cX5_day 302 = .ok (.aload_n 0, 1) := by decide +kernel
theorem dX5_day_303 : decode cX5_day 303 = .ok (.dup, 1) := by decide +kernel
theorem dX5_day_304 : decode cX5_day 304 = .ok (.getfield 85, 3) := by decide +kernel
theorem dX5_day_307 : decode cX5_day 307 = .ok (.aload_n 1, 1) := by decide +kernel
theorem dX5_day_308 : decode cX5_day 308 = .ok (.bipush 6, 2) := by decide +kernel
theorem dX5_day_310 : decode cX5_day 310 = .ok (.iaload, 1) := by decide +kernel
theorem dX5_day_311 : decode cX5_day 311 = .ok (.aload_n 0, 1) := by decide +kernel
theorem dX5_day_312 : decode cX5_day 312 = .ok (.getfield 91, 3) := by decide +kernel
theorem dX5_day_315 : decode cX5_day 315 = .ok (.imul, 1) := by decide +kernel
theorem dX5_day_316 : decode cX5_day 316 = .ok (.aload_n 1, 1) := by decide +kernel
theorem dX5_day_317 : decode cX5_day 317 = .ok (.iconst 5, 1) := by decide +kernel
theorem dX5_day_318 : decode cX5_day 318 = .ok (.iaload, 1) := by decide +kernel
theorem dX5_day_319 : decode cX5_day 319 = .ok (.aload_n 0, 1) := by decide +kernel
theorem dX5_day_320 : decode cX5_day 320 = .ok (.getfield 104, 3) := by decide +kernel
theorem dX5_day_323 : decode cX5_day 323 = .ok (.imul, 1) := by decide +kernel
theorem dX5_day_324 : decode cX5_day 324 = .ok (.iadd, 1) := by decide +kernel
theorem dX5_day_325 : decode cX5_day 325 = .ok (.isub, 1) := by decide +kernel
theorem dX5_day_326 : decode cX5_day 326 = .ok (.putfield 85, 3) := by decide +kernel
theorem dX5_day_329 : decode cX5_day 329 = .ok (.iconst 4, 1) := by decide +kernel
theorem dX5_day_330 : decode cX5_day 330 = .ok (.istore_n 3, 1) := by decide +kernel
theorem dX5_day_331 : decode cX5_day 331 = .ok (.iload_n 3, 1) := by decide +kernel
theorem dX5_day_332 : decode cX5_day 332 = .ok (.ifCond .le 23, 3) := by decide +kernel
theorem dX5_day_335 : decode cX5_day 335 = .ok (.aload_n 1, 1) := by decide +kernel
theorem dX5_day_336 : decode cX5_day 336 = .ok (.bipush 10, 2) := by decide +kernel
theorem dX5_day_338 : decode cX5_day 338 = .ok (.iload_n 3, 1) := by decide +kernel
theorem dX5_day_339 : decode cX5_day 339 = .ok (.iadd, 1) := by decide +kernel
theorem dX5_day_340 : decode cX5_day 340 = .ok (.aload_n 1, 1) := by decide +kernel
theorem dX5_day_341 : decode cX5_day 341 = .ok (.bipush 10, 2) := by decide +kernel
theorem dX5_day_343 : decode cX5_day 343 = .ok (.iload_n 3, 1) := by decide +kernel
theorem dX5_day_344 : decode cX5_day 344 = .ok (.iadd, 1) := by decide +kernel
theorem dX5_day_345 : decode cX5_day 345 = .ok (.iconst 1, 1) := by decide +kernel
theorem dX5_day_346 : decode cX5_day 346 = .ok (.isub, 1) := by decide +kernel
theorem dX5_day_347 : decode cX5_day 347 = .ok (.iaload, 1) := by decide +kernel
theorem dX5_day_348 : decode cX5_day 348 = .ok (.iastore, 1) := by decide +kernel
theorem dX5_day_349 : decode cX5_day 349 = .ok (.iinc 3 (-1), 3) := by decide +kernel
theorem dX5_day_352 : decode cX5_day 352 = .ok (.goto (-21), 3) := by decide +kernel
theorem dX5_day_355 : decode cX5_day 355 = .ok (.aload_n 1, 1) := by decide +kernel
theorem dX5_day_356 : decode cX5_day 356 = .ok (.bipush 10, 2) := by decide +kernel
theorem dX5_day_358 : decode cX5_day 358 = .ok (.iconst 0, 1) := by decide +kernel
theorem dX5_day_359 : decode cX5_day 359 = .ok (.iastore, 1) := by decide +kernel
theorem dX5_day_360 : decode cX5_day 360 = .ok (.aload_n 1, 1) := by decide +kernel
theorem dX5_day_361 : decode cX5_day 361 = .ok (.iconst 1, 1) := by decide +kernel
theorem dX5_day_362 : decode cX5_day 362 = .ok (.dup2, 1) := by decide +kernel
theorem dX5_day_363 : decode cX5_day 363 = .ok (.iaload, 1) := by decide +kernel
theorem dX5_day_364 : decode cX5_day 364 = .ok (.iconst 1, 1) := by decide +kernel
theorem dX5_day_365 : decode cX5_day 365 = .ok (.iadd, 1) := by decide +kernel
theorem dX5_day_366 : decode cX5_day 366 = .ok (.iastore, 1) := by decide +kernel
theorem dX5_day_367 : decode cX5_day 367 = .ok (.return_, 1) := by decide +kernel
theorem dX5_asTold_0 : decode cX5_asTold 0 = .ok (.iconst 0, 1) := by decide +kernel
theorem dX5_asTold_1 : decode cX5_asTold 1 = .ok (.istore_n 2, 1) := by decide +kernel
theorem dX5_asTold_2 : decode cX5_asTold 2 = .ok (.iload_n 2, 1) := by decide +kernel
theorem dX5_asTold_3 : decode cX5_asTold 3 = .ok (.aload_n 1, 1) := by decide +kernel
theorem dX5_asTold_4 : decode cX5_asTold 4 = .ok (.iconst 0, 1) := by decide +kernel
theorem dX5_asTold_5 : decode cX5_asTold 5 = .ok (.iaload, 1) := by decide +kernel
theorem dX5_asTold_6 : decode cX5_asTold 6 = .ok (.if_icmp .ge 25, 3) := by decide +kernel
theorem dX5_asTold_9 : decode cX5_asTold 9 = .ok (.aload_n 0, 1) := by decide +kernel
theorem dX5_asTold_10 : decode cX5_asTold 10 = .ok (.getfield 22, 3) := by decide +kernel
theorem dX5_asTold_13 : decode cX5_asTold 13 = .ok (.iload_n 2, 1) := by decide +kernel
theorem dX5_asTold_14 : decode cX5_asTold 14 = .ok (.aload_n 1, 1) := by decide +kernel
theorem dX5_asTold_15 : decode cX5_asTold 15 = .ok (.bipush 30, 2) := by decide +kernel
theorem dX5_asTold_17 : decode cX5_asTold 17 = .ok (.iconst 4, 1) := by decide +kernel
theorem dX5_asTold_18 : decode cX5_asTold 18 = .ok (.iload_n 2, 1) := by decide +kernel
theorem dX5_asTold_19 : decode cX5_asTold 19 = .ok (.imul, 1) := by decide +kernel
theorem dX5_asTold_20 : decode cX5_asTold 20 = .ok (.iadd, 1) := by decide +kernel
theorem dX5_asTold_21 : decode cX5_asTold 21 = .ok (.iconst 1, 1) := by decide +kernel
theorem dX5_asTold_22 : decode cX5_asTold 22 = .ok (.iadd, 1) := by decide +kernel
theorem dX5_asTold_23 : decode cX5_asTold 23 = .ok (.iaload, 1) := by decide +kernel
theorem dX5_asTold_24 : decode cX5_asTold 24 = .ok (.iastore, 1) := by decide +kernel
theorem dX5_asTold_25 : decode cX5_asTold 25 = .ok (.iinc 2 1, 3) := by decide +kernel
theorem dX5_asTold_28 : decode cX5_asTold 28 = .ok (.goto (-26), 3) := by decide +kernel
theorem dX5_asTold_31 : decode cX5_asTold 31 = .ok (.return_, 1) := by decide +kernel
theorem dX5_goOn_0 : decode cX5_goOn 0 = .ok (.aload_n 0, 1) := by decide +kernel
theorem dX5_goOn_1 : decode cX5_goOn 1 = .ok (.aload_n 0, 1) := by decide +kernel
theorem dX5_goOn_2 : decode cX5_goOn 2 = .ok (.getfield 16, 3) := by decide +kernel
theorem dX5_goOn_5 : decode cX5_goOn 5 = .ok (.invokevirtual 107, 3) := by decide +kernel
theorem dX5_goOn_8 : decode cX5_goOn 8 = .ok (.iconst 0, 1) := by decide +kernel
theorem dX5_goOn_9 : decode cX5_goOn 9 = .ok (.istore_n 3, 1) := by decide +kernel
theorem dX5_goOn_10 : decode cX5_goOn 10 = .ok (.iload_n 3, 1) := by decide +kernel
theorem dX5_goOn_11 : decode cX5_goOn 11 = .ok (.bipush 6, 2) := by decide +kernel
theorem dX5_goOn_13 : decode cX5_goOn 13 = .ok (.if_icmp .ge 16, 3) := by decide +kernel
theorem dX5_goOn_16 : decode cX5_goOn 16 = .ok (.aload_n 0, 1) := by decide +kernel
theorem dX5_goOn_17 : decode cX5_goOn 17 = .ok (.getfield 28, 3) := by decide +kernel
theorem dX5_goOn_20 : decode cX5_goOn 20 = .ok (.iload_n 3, 1) := by decide +kernel
theorem dX5_goOn_21 : decode cX5_goOn 21 = .ok (.iconst 0, 1) := by decide +kernel
theorem dX5_goOn_22 : decode cX5_goOn 22 = .ok (.iastore, 1) := by decide +kernel
theorem dX5_goOn_23 : decode cX5_goOn 23 = .ok (.iinc 3 1, 3) := by decide +kernel
theorem dX5_goOn_26 : decode cX5_goOn 26 = .ok (.goto (-16), 3) := by decide +kernel
theorem dX5_goOn_29 : decode cX5_goOn 29 = .ok (.iload_n 2, 1) := by decide +kernel
theorem dX5_goOn_30 : decode cX5_goOn 30 = .ok (.istore_n 3, 1) := by decide +kernel
theorem dX5_goOn_31 : decode cX5_goOn 31 = .ok (.iconst 0, 1) := by decide +kernel
theorem dX5_goOn_32 : decode cX5_goOn 32 = .ok (.istore 4, 2) := by decide +kernel
theorem dX5_goOn_34 : decode cX5_goOn 34 = .ok (.iload 4, 2) := by decide +kernel
theorem dX5_goOn_36 : decode cX5_goOn 36 = .ok (.iload_n 1, 1) := by decide +kernel
theorem dX5_goOn_37 : decode cX5_goOn 37 = .ok (.if_icmp .ge 144, 3) := by decide +kernel
theorem dX5_goOn_40 : decode cX5_goOn 40 = .ok (.aload_n 0, 1) := by decide +kernel
theorem dX5_goOn_41 : decode cX5_goOn 41 = .ok (.getfield 16, 3) := by decide +kernel
theorem dX5_goOn_44 : decode cX5_goOn 44 = .ok (.bipush 20, 2) := by decide +kernel
theorem dX5_goOn_46 : decode cX5_goOn 46 = .ok (.aload_n 0, 1) := by decide +kernel
theorem dX5_goOn_47 : decode cX5_goOn 47 = .ok (.getfield 16, 3) := by decide +kernel
theorem dX5_goOn_50 : decode cX5_goOn 50 = .ok (.iconst 1, 1) := by decide +kernel
theorem dX5_goOn_51 : decode cX5_goOn 51 = .ok (.iaload, 1) := by decide +kernel
theorem dX5_goOn_52 : decode cX5_goOn 52 = .ok (.bipush 7, 2) := by decide +kernel
theorem dX5_goOn_54 : decode cX5_goOn 54 = .ok (.irem, 1) := by decide +kernel
theorem dX5_goOn_55 : decode cX5_goOn 55 = .ok (.iadd, 1) := by decide +kernel
theorem dX5_goOn_56 : decode cX5_goOn 56 = .ok (.iaload, 1) := by decide +kernel
theorem dX5_goOn_57 : decode cX5_goOn 57 = .ok (.iconst 1, 1) := by decide +kernel
theorem dX5_goOn_58 : decode cX5_goOn 58 = .ok (.if_icmp .ne 7, 3) := by decide +kernel
theorem dX5_goOn_61 : decode cX5_goOn 61 = .ok (.iconst 1, 1) := by decide +kernel
theorem dX5_goOn_62 : decode cX5_goOn 62 = .ok (.goto 4, 3) := by decide +kernel
theorem dX5_goOn_65 : decode cX5_goOn 65 = .ok (.iconst 0, 1) := by decide +kernel
theorem dX5_goOn_66 : decode cX5_goOn 66 = .ok (.istore 5, 2) := by decide +kernel
theorem dX5_goOn_68 : decode cX5_goOn 68 = .ok (.aload_n 0, 1) := by decide +kernel
theorem dX5_goOn_69 : decode cX5_goOn 69 = .ok (.aload_n 0, 1) := by decide +kernel
theorem dX5_goOn_70 : decode cX5_goOn 70 = .ok (.getfield 16, 3) := by decide +kernel
theorem dX5_goOn_73 : decode cX5_goOn 73 = .ok (.iload 5, 2) := by decide +kernel
theorem dX5_goOn_75 : decode cX5_goOn 75 = .ok (.ifCond .eq 7, 3) := by decide +kernel
theorem dX5_goOn_78 : decode cX5_goOn 78 = .ok (.iload_n 3, 1) := by decide +kernel
theorem dX5_goOn_79 : decode cX5_goOn 79 = .ok (.goto 4, 3) := by decide +kernel
theorem dX5_goOn_82 : decode cX5_goOn 82 = .ok (.iconst 0, 1) := by decide +kernel
theorem dX5_goOn_83 : decode cX5_goOn 83 = .ok (.invokevirtual 111, 3) := by decide +kernel
theorem dX5_goOn_86 : decode cX5_goOn 86 = .ok (.iload 5, 2) := by decide +kernel
theorem dX5_goOn_88 : decode cX5_goOn 88 = .ok (.ifCond .eq 7, 3) := by decide +kernel
theorem dX5_goOn_91 : decode cX5_goOn 91 = .ok (.iconst 0, 1) := by decide +kernel
theorem dX5_goOn_92 : decode cX5_goOn 92 = .ok (.goto 4, 3) := by decide +kernel
theorem dX5_goOn_95 : decode cX5_goOn 95 = .ok (.iload_n 3, 1) := by decide +kernel
theorem dX5_goOn_96 : decode cX5_goOn 96 = .ok (.istore_n 3, 1) := by decide +kernel
theorem dX5_goOn_97 : decode cX5_goOn 97 = .ok (.aload_n 0, 1) := by decide +kernel
theorem dX5_goOn_98 : decode cX5_goOn 98 = .ok (.getfield 28, 3) := by decide +kernel
theorem dX5_goOn_101 : decode cX5_goOn 101 = .ok (.iconst 0, 1) := by decide +kernel
theorem dX5_goOn_102 : decode cX5_goOn 102 = .ok (.dup2, 1) := by decide +kernel
theorem dX5_goOn_103 : decode cX5_goOn 103 = .ok (.iaload, 1) := by decide +kernel
theorem dX5_goOn_104 : decode cX5_goOn 104 = .ok (.aload_n 0, 1) := by decide +kernel
theorem dX5_goOn_105 : decode cX5_goOn 105 = .ok (.getfield 85, 3) := by decide +kernel
theorem dX5_goOn_108 : decode cX5_goOn 108 = .ok (.iadd, 1) := by decide +kernel
theorem dX5_goOn_109 : decode cX5_goOn 109 = .ok (.iastore, 1) := by decide +kernel
theorem dX5_goOn_110 : decode cX5_goOn 110 = .ok (.aload_n 0, 1) := by decide +kernel
theorem dX5_goOn_111 : decode cX5_goOn 111 = .ok (.getfield 28, 3) := by decide +kernel
theorem dX5_goOn_114 : decode cX5_goOn 114 = .ok (.iconst 1, 1) := by decide +kernel
theorem dX5_goOn_115 : decode cX5_goOn 115 = .ok (.dup2, 1) := by decide +kernel
theorem dX5_goOn_116 : decode cX5_goOn 116 = .ok (.iaload, 1) := by decide +kernel
theorem dX5_goOn_117 : decode cX5_goOn 117 = .ok (.aload_n 0, 1) := by decide +kernel
theorem dX5_goOn_118 : decode cX5_goOn 118 = .ok (.getfield 94, 3) := by decide +kernel
theorem dX5_goOn_121 : decode cX5_goOn 121 = .ok (.iadd, 1) := by decide +kernel
theorem dX5_goOn_122 : decode cX5_goOn 122 = .ok (.iastore, 1) := by decide +kernel
theorem dX5_goOn_123 : decode cX5_goOn 123 = .ok (.aload_n 0, 1) := by decide +kernel
theorem dX5_goOn_124 : decode cX5_goOn 124 = .ok (.getfield 28, 3) := by decide +kernel
theorem dX5_goOn_127 : decode cX5_goOn 127 = .ok (.iconst 2, 1) := by decide +kernel
theorem dX5_goOn_128 : decode cX5_goOn 128 = .ok (.dup2, 1) := by decide +kernel
theorem dX5_goOn_129 : decode cX5_goOn 129 = .ok (.iaload, 1) := by decide +kernel
theorem dX5_goOn_130 : decode cX5_goOn 130 = .ok (.aload_n 0, 1) := by decide +kernel
theorem dX5_goOn_131 : decode cX5_goOn 131 = .ok (.getfield 88, 3) := by decide +kernel
theorem dX5_goOn_134 : decode cX5_goOn 134 = .ok (.iadd, 1) := by decide +kernel
theorem dX5_goOn_135 : decode cX5_goOn 135 = .ok (.iastore, 1) := by decide +kernel
theorem dX5_goOn_136 : decode cX5_goOn 136 = .ok (.aload_n 0, 1) := by decide +kernel
theorem dX5_goOn_137 : decode cX5_goOn 137 = .ok (.getfield 28, 3) := by decide +kernel
theorem dX5_goOn_140 : decode cX5_goOn 140 = .ok (.iconst 3, 1) := by decide +kernel
theorem dX5_goOn_141 : decode cX5_goOn 141 = .ok (.dup2, 1) := by decide +kernel
theorem dX5_goOn_142 : decode cX5_goOn 142 = .ok (.iaload, 1) := by decide +kernel
theorem dX5_goOn_143 : decode cX5_goOn 143 = .ok (.aload_n 0, 1) := by decide +kernel
theorem dX5_goOn_144 : decode cX5_goOn 144 = .ok (.getfield 104, 3) := by decide +kernel
theorem dX5_goOn_147 : decode cX5_goOn 147 = .ok (.iadd, 1) := by decide +kernel
theorem dX5_goOn_148 : decode cX5_goOn 148 = .ok (.iastore, 1) := by decide +kernel
theorem dX5_goOn_149 : decode cX5_goOn 149 = .ok (.aload_n 0, 1) := by decide +kernel
theorem dX5_goOn_150 : decode cX5_goOn 150 = .ok (.getfield 28, 3) := by decide +kernel
theorem dX5_goOn_153 : decode cX5_goOn 153 = .ok (.iconst 4, 1) := by decide +kernel
theorem dX5_goOn_154 : decode cX5_goOn 154 = .ok (.dup2, 1) := by decide +kernel
theorem dX5_goOn_155 : decode cX5_goOn 155 = .ok (.iaload, 1) := by decide +kernel
theorem dX5_goOn_156 : decode cX5_goOn 156 = .ok (.aload_n 0, 1) := by decide +kernel
theorem dX5_goOn_157 : decode cX5_goOn 157 = .ok (.getfield 91, 3) := by decide +kernel
theorem dX5_goOn_160 : decode cX5_goOn 160 = .ok (.iadd, 1) := by decide +kernel
theorem dX5_goOn_161 : decode cX5_goOn 161 = .ok (.iastore, 1) := by decide +kernel
theorem dX5_goOn_162 : decode cX5_goOn 162 = .ok (.aload_n 0, 1) := by decide +kernel
theorem dX5_goOn_163 : decode cX5_goOn 163 = .ok (.getfield 28, 3) := by decide +kernel
theorem dX5_goOn_166 : decode cX5_goOn 166 = .ok (.iconst 5, 1) := by decide +kernel
theorem dX5_goOn_167 : decode cX5_goOn 167 = .ok (.dup2, 1) := by decide +kernel
theorem dX5_goOn_168 : decode cX5_goOn 168 = .ok (.iaload, 1) := by decide +kernel
theorem dX5_goOn_169 : decode cX5_goOn 169 = .ok (.aload_n 0, 1) := by decide +kernel
theorem dX5_goOn_170 : decode cX5_goOn 170 = .ok (.getfield 81, 3) := by decide +kernel
theorem dX5_goOn_173 : decode cX5_goOn 173 = .ok (.iadd, 1) := by decide +kernel
theorem dX5_goOn_174 : decode cX5_goOn 174 = .ok (.iastore, 1) := by decide +kernel
theorem dX5_goOn_175 : decode cX5_goOn 175 = .ok (.iinc 4 1, 3) := by decide +kernel
theorem dX5_goOn_178 : decode cX5_goOn 178 = .ok (.goto (-144), 3) := by decide +kernel
theorem dX5_goOn_181 : decode cX5_goOn 181 = .ok (.return_, 1) := by decide +kernel
theorem dX5_valueOf_0 : decode cX5_valueOf 0 = .ok (.aload_n 0, 1) := by decide +kernel
theorem dX5_valueOf_1 : decode cX5_valueOf 1 = .ok (.iload_n 1, 1) := by decide +kernel
theorem dX5_valueOf_2 : decode cX5_valueOf 2 = .ok (.iconst 0, 1) := by decide +kernel
theorem dX5_valueOf_3 : decode cX5_valueOf 3 = .ok (.invokevirtual 115, 3) := by decide +kernel
theorem dX5_valueOf_6 : decode cX5_valueOf 6 = .ok (.aload_n 0, 1) := by decide +kernel
theorem dX5_valueOf_7 : decode cX5_valueOf 7 = .ok (.getfield 28, 3) := by decide +kernel
theorem dX5_valueOf_10 : decode cX5_valueOf 10 = .ok (.iconst 0, 1) := by decide +kernel
theorem dX5_valueOf_11 : decode cX5_valueOf 11 = .ok (.iaload, 1) := by decide +kernel
theorem dX5_valueOf_12 : decode cX5_valueOf 12 = .ok (.ireturn, 1) := by decide +kernel
theorem dX5_letter_0 : decode cX5_letter 0 = .ok (.iload_n 1, 1) := by decide +kernel
theorem dX5_letter_1 : decode cX5_letter 1 = .ok (.ifCond .ge 10, 3) := by decide +kernel
theorem dX5_letter_4 : decode cX5_letter 4 = .ok (.aload_n 0, 1) := by decide +kernel
theorem dX5_letter_5 : decode cX5_letter 5 = .ok (.bipush (-4), 2) := by decide +kernel
theorem dX5_letter_7 : decode cX5_letter 7 = .ok (.invokevirtual 64, 3) := by decide +kernel
theorem dX5_letter_10 : decode cX5_letter 10 = .ok (.ireturn, 1) := by decide +kernel
theorem dX5_letter_11 : decode cX5_letter 11 = .ok (.iload_n 1, 1) := by decide +kernel
theorem dX5_letter_12 : decode cX5_letter 12 = .ok (.sipush 255, 3) := by decide +kernel
theorem dX5_letter_15 : decode cX5_letter 15 = .ok (.if_icmp .gt 12, 3) := by decide +kernel
theorem dX5_letter_18 : decode cX5_letter 18 = .ok (.aload_n 0, 1) := by decide +kernel
theorem dX5_letter_19 : decode cX5_letter 19 = .ok (.getfield 119, 3) := by decide +kernel
theorem dX5_letter_22 : decode cX5_letter 22 = .ok (.bipush 96, 2) := by decide +kernel
theorem dX5_letter_24 : decode cX5_letter 24 = .ok (.if_icmp .ne 10, 3) := by decide +kernel
theorem dX5_letter_27 : decode cX5_letter 27 = .ok (.aload_n 0, 1) := by decide +kernel
theorem dX5_letter_28 : decode cX5_letter 28 = .ok (.bipush (-6), 2) := by decide +kernel
theorem dX5_letter_30 : decode cX5_letter 30 = .ok (.invokevirtual 64, 3) := by decide +kernel
theorem dX5_letter_33 : decode cX5_letter 33 = .ok (.ireturn, 1) := by decide +kernel
theorem dX5_letter_34 : decode cX5_letter 34 = .ok (.aload_n 0, 1) := by decide +kernel
theorem dX5_letter_35 : decode cX5_letter 35 = .ok (.getfield 31, 3) := by decide +kernel
theorem dX5_letter_38 : decode cX5_letter 38 = .ok (.aload_n 0, 1) := by decide +kernel
theorem dX5_letter_39 : decode cX5_letter 39 = .ok (.getfield 119, 3) := by decide +kernel
theorem dX5_letter_42 : decode cX5_letter 42 = .ok (.iload_n 1, 1) := by decide +kernel
theorem dX5_letter_43 : decode cX5_letter 43 = .ok (.iastore, 1) := by decide +kernel
theorem dX5_letter_44 : decode cX5_letter 44 = .ok (.aload_n 0, 1) := by decide +kernel
theorem dX5_letter_45 : decode cX5_letter 45 = .ok (.dup, 1) := by decide +kernel
theorem dX5_letter_46 : decode cX5_letter 46 = .ok (.getfield 119, 3) := by decide +kernel
theorem dX5_letter_49 : decode cX5_letter 49 = .ok (.iconst 1, 1) := by decide +kernel
theorem dX5_letter_50 : decode cX5_letter 50 = .ok (.iadd, 1) := by decide +kernel
theorem dX5_letter_51 : decode cX5_letter 51 = .ok (.putfield 119, 3) := by decide +kernel
theorem dX5_letter_54 : decode cX5_letter 54 = .ok (.aload_n 0, 1) := by decide +kernel
theorem dX5_letter_55 : decode cX5_letter 55 = .ok (.getfield 119, 3) := by decide +kernel
theorem dX5_letter_58 : decode cX5_letter 58 = .ok (.ireturn, 1) := by decide +kernel
theorem dX5_oneOf_0 : decode cX5_oneOf 0 = .ok (.iconst 0, 1) := by decide +kernel
theorem dX5_oneOf_1 : decode cX5_oneOf 1 = .ok (.istore_n 2, 1) := by decide +kernel
theorem dX5_oneOf_2 : decode cX5_oneOf 2 = .ok (.iload_n 2, 1) := by decide +kernel
theorem dX5_oneOf_3 : decode cX5_oneOf 3 = .ok (.aload_n 1, 1) := by decide +kernel
theorem dX5_oneOf_4 : decode cX5_oneOf 4 = .ok (.arraylength, 1) := by decide +kernel
theorem dX5_oneOf_5 : decode cX5_oneOf 5 = .ok (.if_icmp .ge 54, 3) := by decide +kernel
theorem dX5_oneOf_8 : decode cX5_oneOf 8 = .ok (.aload_n 0, 1) := by decide +kernel
theorem dX5_oneOf_9 : decode cX5_oneOf 9 = .ok (.getfield 122, 3) := by decide +kernel
theorem dX5_oneOf_12 : decode cX5_oneOf 12 = .ok (.ifCond .eq 41, 3) := by decide +kernel
theorem dX5_oneOf_15 : decode cX5_oneOf 15 = .ok (.aload_n 0, 1) := by decide +kernel
theorem dX5_oneOf_16 : decode cX5_oneOf 16 = .ok (.getfield 125, 3) := by decide +kernel
theorem dX5_oneOf_19 : decode cX5_oneOf 19 = .ok (.aload_n 0, 1) := by decide +kernel
theorem dX5_oneOf_20 : decode cX5_oneOf 20 = .ok (.getfield 119, 3) := by decide +kernel
theorem dX5_oneOf_23 : decode cX5_oneOf 23 = .ok (.if_icmp .ge 30, 3) := by decide +kernel
theorem dX5_oneOf_26 : decode cX5_oneOf 26 = .ok (.aload_n 0, 1) := by decide +kernel
theorem dX5_oneOf_27 : decode cX5_oneOf 27 = .ok (.getfield 31, 3) := by decide +kernel
theorem dX5_oneOf_30 : decode cX5_oneOf 30 = .ok (.aload_n 0, 1) := by decide +kernel
theorem dX5_oneOf_31 : decode cX5_oneOf 31 = .ok (.getfield 125, 3) := by decide +kernel
theorem dX5_oneOf_34 : decode cX5_oneOf 34 = .ok (.iaload, 1) := by decide +kernel
theorem dX5_oneOf_35 : decode cX5_oneOf 35 = .ok (.aload_n 1, 1) := by decide +kernel
theorem dX5_oneOf_36 : decode cX5_oneOf 36 = .ok (.iload_n 2, 1) := by decide +kernel
theorem dX5_oneOf_37 : decode cX5_oneOf 37 = .ok (.caload, 1) := by decide +kernel
theorem dX5_oneOf_38 : decode cX5_oneOf 38 = .ok (.if_icmp .ne 15, 3) := by decide +kernel
theorem dX5_oneOf_41 : decode cX5_oneOf 41 = .ok (.aload_n 0, 1) := by decide +kernel
theorem dX5_oneOf_42 : decode cX5_oneOf 42 = .ok (.dup, 1) := by decide +kernel
theorem dX5_oneOf_43 : decode cX5_oneOf 43 = .ok (.getfield 125, 3) := by decide +kernel
theorem dX5_oneOf_46 : decode cX5_oneOf 46 = .ok (.iconst 1, 1) := by decide +kernel
theorem dX5_oneOf_47 : decode cX5_oneOf 47 = .ok (.iadd, 1) := by decide +kernel
theorem dX5_oneOf_48 : decode cX5_oneOf 48 = .ok (.putfield 125, 3) := by decide +kernel
theorem dX5_oneOf_51 : decode cX5_oneOf 51 = .ok (.iload_n 2, 1) := by decide +kernel
theorem dX5_oneOf_52 : decode cX5_oneOf 52 = .ok (.ireturn, 1) := by decide +kernel
theorem dX5_oneOf_53 : decode cX5_oneOf 53 = .ok (.iinc 2 1, 3) := by decide +kernel
theorem dX5_oneOf_56 : decode cX5_oneOf 56 = .ok (.goto (-54), 3) := by decide +kernel
theorem dX5_oneOf_59 : decode cX5_oneOf 59 = .ok (.aload_n 0, 1) := by decide +kernel
theorem dX5_oneOf_60 : decode cX5_oneOf 60 = .ok (.iconst 0, 1) := by decide +kernel
theorem dX5_oneOf_61 : decode cX5_oneOf 61 = .ok (.putfield 122, 3) := by decide +kernel
theorem dX5_oneOf_64 : decode cX5_oneOf 64 = .ok (.iconst 0, 1) := by decide +kernel
theorem dX5_oneOf_65 : decode cX5_oneOf 65 = .ok (.ireturn, 1) := by decide +kernel
theorem dX5_figures_0 : decode cX5_figures 0 = .ok (.iconst 0, 1) := by decide +kernel
theorem dX5_figures_1 : decode cX5_figures 1 = .ok (.istore_n 3, 1) := by decide +kernel
theorem dX5_figures_2 : decode cX5_figures 2 = .ok (.iconst 0, 1) := by decide +kernel
theorem dX5_figures_3 : decode cX5_figures 3 = .ok (.istore 4, 2) := by decide +kernel
theorem dX5_figures_5 : decode cX5_figures 5 = .ok (.aload_n 0, 1) := by decide +kernel
theorem dX5_figures_6 : decode cX5_figures 6 = .ok (.getfield 122, 3) := by decide +kernel
theorem dX5_figures_9 : decode cX5_figures 9 = .ok (.ifCond .eq 82, 3) := by decide +kernel
theorem dX5_figures_12 : decode cX5_figures 12 = .ok (.iload 4, 2) := by decide +kernel
theorem dX5_figures_14 : decode cX5_figures 14 = .ok (.iload_n 2, 1) := by decide +kernel
theorem dX5_figures_15 : decode cX5_figures 15 = .ok (.if_icmp .ge 76, 3) := by decide +kernel
theorem dX5_figures_18 : decode cX5_figures 18 = .ok (.aload_n 0, 1) := by decide +kernel
theorem dX5_figures_19 : decode cX5_figures 19 = .ok (.getfield 125, 3) := by decide +kernel
theorem dX5_figures_22 : decode cX5_figures 22 = .ok (.aload_n 0, 1) := by decide +kernel
theorem dX5_figures_23 : decode cX5_figures 23 = .ok (.getfield 119, 3) := by decide +kernel
theorem dX5_figures_26 : decode cX5_figures 26 = .ok (.if_icmp .ge 65, 3) := by decide +kernel
theorem dX5_figures_29 : decode cX5_figures 29 = .ok (.aload_n 0, 1) := by decide +kernel
theorem dX5_figures_30 : decode cX5_figures 30 = .ok (.getfield 31, 3) := by decide +kernel
theorem dX5_figures_33 : decode cX5_figures 33 = .ok (.aload_n 0, 1) := by decide +kernel
theorem dX5_figures_34 : decode cX5_figures 34 = .ok (.getfield 125, 3) := by decide +kernel
theorem dX5_figures_37 : decode cX5_figures 37 = .ok (.iaload, 1) := by decide +kernel
theorem dX5_figures_38 : decode cX5_figures 38 = .ok (.bipush 48, 2) := by decide +kernel
theorem dX5_figures_40 : decode cX5_figures 40 = .ok (.if_icmp .lt 51, 3) := by decide +kernel
theorem dX5_figures_43 : decode cX5_figures 43 = .ok (.aload_n 0, 1) := by decide +kernel
theorem dX5_figures_44 : decode cX5_figures 44 = .ok (.getfield 31, 3) := by decide +kernel
theorem dX5_figures_47 : decode cX5_figures 47 = .ok (.aload_n 0, 1) := by decide +kernel
theorem dX5_figures_48 : decode cX5_figures 48 = .ok (.getfield 125, 3) := by decide +kernel
theorem dX5_figures_51 : decode cX5_figures 51 = .ok (.iaload, 1) := by decide +kernel
theorem dX5_figures_52 : decode cX5_figures 52 = .ok (.bipush 57, 2) := by decide +kernel
theorem dX5_figures_54 : decode cX5_figures 54 = .ok (.if_icmp .gt 37, 3) := by decide +kernel
theorem dX5_figures_57 : decode cX5_figures 57 = .ok (.bipush 10, 2) := by decide +kernel
theorem dX5_figures_59 : decode cX5_figures 59 = .ok (.iload_n 3, 1) := by decide +kernel
theorem dX5_figures_60 : decode cX5_figures 60 = .ok (.imul, 1) := by decide +kernel
theorem dX5_figures_61 : decode cX5_figures 61 = .ok (.aload_n 0, 1) := by decide +kernel
theorem dX5_figures_62 : decode cX5_figures 62 = .ok (.getfield 31, 3) := by decide +kernel
theorem dX5_figures_65 : decode cX5_figures 65 = .ok (.aload_n 0, 1) := by decide +kernel
theorem dX5_figures_66 : decode cX5_figures 66 = .ok (.getfield 125, 3) := by decide +kernel
theorem dX5_figures_69 : decode cX5_figures 69 = .ok (.iaload, 1) := by decide +kernel
theorem dX5_figures_70 : decode cX5_figures 70 = .ok (.iadd, 1) := by decide +kernel
theorem dX5_figures_71 : decode cX5_figures 71 = .ok (.bipush 48, 2) := by decide +kernel
theorem dX5_figures_73 : decode cX5_figures 73 = .ok (.isub, 1) := by decide +kernel
theorem dX5_figures_74 : decode cX5_figures 74 = .ok (.istore_n 3, 1) := by decide +kernel
theorem dX5_figures_75 : decode cX5_figures 75 = .ok (.aload_n 0, 1) := by decide +kernel
theorem dX5_figures_76 : decode cX5_figures 76 = .ok (.dup, 1) := by decide +kernel
theorem dX5_figures_77 : decode cX5_figures 77 = .ok (.getfield 125, 3) := by decide +kernel
theorem dX5_figures_80 : decode cX5_figures 80 = .ok (.iconst 1, 1) := by decide +kernel
theorem dX5_figures_81 : decode cX5_figures 81 = .ok (.iadd, 1) := by decide +kernel
theorem dX5_figures_82 : decode cX5_figures 82 = .ok (.putfield 125, 3) := by decide +kernel
theorem dX5_figures_85 : decode cX5_figures 85 = .ok (.iinc 4 1, 3) := by decide +kernel
theorem dX5_figures_88 : decode cX5_figures 88 = .ok (.goto (-83), 3) := by decide +kernel
theorem dX5_figures_91 : decode cX5_figures 91 = .ok (.aload_n 0, 1) := by decide +kernel
theorem dX5_figures_92 : decode cX5_figures 92 = .ok (.aload_n 0, 1) := by decide +kernel
theorem dX5_figures_93 : decode cX5_figures 93 = .ok (.getfield 122, 3) := by decide +kernel
theorem dX5_figures_96 : decode cX5_figures 96 = .ok (.ifCond .eq 13, 3) := by decide +kernel
theorem dX5_figures_99 : decode cX5_figures 99 = .ok (.iload 4, 2) := by decide +kernel
theorem dX5_figures_101 : decode cX5_figures 101 = .ok (.iload_n 1, 1) := by decide +kernel
theorem dX5_figures_102 : decode cX5_figures 102 = .ok (.if_icmp .lt 7, 3) := by decide +kernel
theorem dX5_figures_105 : decode cX5_figures 105 = .ok (.iconst 1, 1) := by decide +kernel
theorem dX5_figures_106 : decode cX5_figures 106 = .ok (.goto 4, 3) := by decide +kernel
theorem dX5_figures_109 : decode cX5_figures 109 = .ok (.iconst 0, 1) := by decide +kernel
theorem dX5_figures_110 : decode cX5_figures 110 = .ok (.putfield 122, 3) := by decide +kernel
theorem dX5_figures_113 : decode cX5_figures 113 = .ok (.iload_n 3, 1) := by decide +kernel
theorem dX5_figures_114 : decode cX5_figures 114 = .ok (.ireturn, 1) := by decide +kernel
theorem dX5_statement_0 : decode cX5_statement 0 = .ok (.aload_n 0, 1) := by decide +kernel
theorem dX5_statement_1 : decode cX5_statement 1 = .ok (.aload_n 0, 1) := by decide +kernel
theorem dX5_statement_2 : decode cX5_statement 2 = .ok (.aload_n 0, 1) := by decide +kernel
theorem dX5_statement_3 : decode cX5_statement 3 = .ok (.getfield 34, 3) := by decide +kernel
theorem dX5_statement_6 : decode cX5_statement 6 = .ok (.invokevirtual 128, 3) := by decide +kernel
theorem dX5_statement_9 : decode cX5_statement 9 = .ok (.putfield 132, 3) := by decide +kernel
theorem dX5_statement_12 : decode cX5_statement 12 = .ok (.aload_n 0, 1) := by decide +kernel
theorem dX5_statement_13 : decode cX5_statement 13 = .ok (.getfield 132, 3) := by decide +kernel
theorem dX5_statement_16 : decode cX5_statement 16 = .ok (.tableswitch 223 0 5 #[40, 93, 120, 151, 178, 195], 40) := by decide +kernel
theorem dX5_statement_56 : decode cX5_statement 56 = .ok (.aload_n 0, 1) := by decide +kernel
theorem dX5_statement_57 : decode cX5_statement 57 = .ok (.getfield 47, 3) := by decide +kernel
theorem dX5_statement_60 : decode cX5_statement 60 = .ok (.iconst 0, 1) := by decide +kernel
theorem dX5_statement_61 : decode cX5_statement 61 = .ok (.aload_n 0, 1) := by decide +kernel
theorem dX5_statement_62 : decode cX5_statement 62 = .ok (.aload_n 0, 1) := by decide +kernel
theorem dX5_statement_63 : decode cX5_statement 63 = .ok (.getfield 38, 3) := by decide +kernel
theorem dX5_statement_66 : decode cX5_statement 66 = .ok (.invokevirtual 128, 3) := by decide +kernel
theorem dX5_statement_69 : decode cX5_statement 69 = .ok (.iastore, 1) := by decide +kernel
theorem dX5_statement_70 : decode cX5_statement 70 = .ok (.aload_n 0, 1) := by decide +kernel
theorem dX5_statement_71 : decode cX5_statement 71 = .ok (.getfield 47, 3) := by decide +kernel
theorem dX5_statement_74 : decode cX5_statement 74 = .ok (.iconst 1, 1) := by decide +kernel
theorem dX5_statement_75 : decode cX5_statement 75 = .ok (.aload_n 0, 1) := by decide +kernel
theorem dX5_statement_76 : decode cX5_statement 76 = .ok (.iconst 1, 1) := by decide +kernel
theorem dX5_statement_77 : decode cX5_statement 77 = .ok (.iconst 1, 1) := by decide +kernel
theorem dX5_statement_78 : decode cX5_statement 78 = .ok (.invokevirtual 135, 3) := by decide +kernel
theorem dX5_statement_81 : decode cX5_statement 81 = .ok (.iastore, 1) := by decide +kernel
theorem dX5_statement_82 : decode cX5_statement 82 = .ok (.aload_n 0, 1) := by decide +kernel
theorem dX5_statement_83 : decode cX5_statement 83 = .ok (.getfield 47, 3) := by decide +kernel
theorem dX5_statement_86 : decode cX5_statement 86 = .ok (.iconst 2, 1) := by decide +kernel
theorem dX5_statement_87 : decode cX5_statement 87 = .ok (.aload_n 0, 1) := by decide +kernel
theorem dX5_statement_88 : decode cX5_statement 88 = .ok (.iconst 1, 1) := by decide +kernel
theorem dX5_statement_89 : decode cX5_statement 89 = .ok (.iconst 1, 1) := by decide +kernel
theorem dX5_statement_90 : decode cX5_statement 90 = .ok (.invokevirtual 135, 3) := by decide +kernel
theorem dX5_statement_93 : decode cX5_statement 93 = .ok (.iastore, 1) := by decide +kernel
theorem dX5_statement_94 : decode cX5_statement 94 = .ok (.aload_n 0, 1) := by decide +kernel
theorem dX5_statement_95 : decode cX5_statement 95 = .ok (.getfield 47, 3) := by decide +kernel
theorem dX5_statement_98 : decode cX5_statement 98 = .ok (.iconst 3, 1) := by decide +kernel
theorem dX5_statement_99 : decode cX5_statement 99 = .ok (.aload_n 0, 1) := by decide +kernel
theorem dX5_statement_100 : decode cX5_statement 100 = .ok (.iconst 1, 1) := by decide +kernel
theorem dX5_statement_101 : decode cX5_statement 101 = .ok (.iconst 2, 1) := by decide +kernel
theorem dX5_statement_102 : decode cX5_statement 102 = .ok (.invokevirtual 135, 3) := by decide +kernel
theorem dX5_statement_105 : decode cX5_statement 105 = .ok (.iastore, 1) := by decide +kernel
theorem dX5_statement_106 : decode cX5_statement 106 = .ok (.goto 133, 3) := by decide +kernel
theorem dX5_statement_109 : decode cX5_statement 109 = .ok (.aload_n 0, 1) := by decide +kernel
theorem dX5_statement_110 : decode cX5_statement 110 = .ok (.getfield 47, 3) := by decide +kernel
theorem dX5_statement_113 : decode cX5_statement 113 = .ok (.iconst 0, 1) := by decide +kernel
theorem dX5_statement_114 : decode cX5_statement 114 = .ok (.aload_n 0, 1) := by decide +kernel
theorem dX5_statement_115 : decode cX5_statement 115 = .ok (.iconst 1, 1) := by decide +kernel
theorem dX5_statement_116 : decode cX5_statement 116 = .ok (.iconst 1, 1) := by decide +kernel
theorem dX5_statement_117 : decode cX5_statement 117 = .ok (.invokevirtual 135, 3) := by decide +kernel
theorem dX5_statement_120 : decode cX5_statement 120 = .ok (.iastore, 1) := by decide +kernel
theorem dX5_statement_121 : decode cX5_statement 121 = .ok (.aload_n 0, 1) := by decide +kernel
theorem dX5_statement_122 : decode cX5_statement 122 = .ok (.getfield 47, 3) := by decide +kernel
theorem dX5_statement_125 : decode cX5_statement 125 = .ok (.iconst 1, 1) := by decide +kernel
theorem dX5_statement_126 : decode cX5_statement 126 = .ok (.aload_n 0, 1) := by decide +kernel
theorem dX5_statement_127 : decode cX5_statement 127 = .ok (.iconst 2, 1) := by decide +kernel
theorem dX5_statement_128 : decode cX5_statement 128 = .ok (.iconst 2, 1) := by decide +kernel
theorem dX5_statement_129 : decode cX5_statement 129 = .ok (.invokevirtual 135, 3) := by decide +kernel
theorem dX5_statement_132 : decode cX5_statement 132 = .ok (.iastore, 1) := by decide +kernel
theorem dX5_statement_133 : decode cX5_statement 133 = .ok (.goto 106, 3) := by decide +kernel
theorem dX5_statement_136 : decode cX5_statement 136 = .ok (.iconst 0, 1) := by decide +kernel
theorem dX5_statement_137 : decode cX5_statement 137 = .ok (.istore_n 1, 1) := by decide +kernel
theorem dX5_statement_138 : decode cX5_statement 138 = .ok (.iload_n 1, 1) := by decide +kernel
theorem dX5_statement_139 : decode cX5_statement 139 = .ok (.bipush 7, 2) := by decide +kernel
theorem dX5_statement_141 : decode cX5_statement 141 = .ok (.if_icmp .ge 23, 3) := by decide +kernel
theorem dX5_statement_144 : decode cX5_statement 144 = .ok (.aload_n 0, 1) := by decide +kernel
theorem dX5_statement_145 : decode cX5_statement 145 = .ok (.getfield 47, 3) := by decide +kernel
theorem dX5_statement_148 : decode cX5_statement 148 = .ok (.iload_n 1, 1) := by decide +kernel
theorem dX5_statement_149 : decode cX5_statement 149 = .ok (.aload_n 0, 1) := by decide +kernel
theorem dX5_statement_150 : decode cX5_statement 150 = .ok (.aload_n 0, 1) := by decide +kernel
theorem dX5_statement_151 : decode cX5_statement 151 = .ok (.getfield 44, 3) := by decide +kernel
theorem dX5_statement_154 : decode cX5_statement 154 = .ok (.invokevirtual 128, 3) := by decide +kernel
theorem dX5_statement_157 : decode cX5_statement 157 = .ok (.iastore, 1) := by decide +kernel
theorem dX5_statement_158 : decode cX5_statement 158 = .ok (.iinc 1 1, 3) := by decide +kernel
theorem dX5_statement_161 : decode cX5_statement 161 = .ok (.goto (-23), 3) := by decide +kernel
theorem dX5_statement_164 : decode cX5_statement 164 = .ok (.goto 75, 3) := by decide +kernel
theorem dX5_statement_167 : decode cX5_statement 167 = .ok (.aload_n 0, 1) := by decide +kernel
theorem dX5_statement_168 : decode cX5_statement 168 = .ok (.getfield 47, 3) := by decide +kernel
theorem dX5_statement_171 : decode cX5_statement 171 = .ok (.iconst 0, 1) := by decide +kernel
theorem dX5_statement_172 : decode cX5_statement 172 = .ok (.aload_n 0, 1) := by decide +kernel
theorem dX5_statement_173 : decode cX5_statement 173 = .ok (.iconst 2, 1) := by decide +kernel
theorem dX5_statement_174 : decode cX5_statement 174 = .ok (.iconst 2, 1) := by decide +kernel
theorem dX5_statement_175 : decode cX5_statement 175 = .ok (.invokevirtual 135, 3) := by decide +kernel
theorem dX5_statement_178 : decode cX5_statement 178 = .ok (.iastore, 1) := by decide +kernel
theorem dX5_statement_179 : decode cX5_statement 179 = .ok (.aload_n 0, 1) := by decide +kernel
theorem dX5_statement_180 : decode cX5_statement 180 = .ok (.getfield 47, 3) := by decide +kernel
theorem dX5_statement_183 : decode cX5_statement 183 = .ok (.iconst 1, 1) := by decide +kernel
theorem dX5_statement_184 : decode cX5_statement 184 = .ok (.aload_n 0, 1) := by decide +kernel
theorem dX5_statement_185 : decode cX5_statement 185 = .ok (.iconst 1, 1) := by decide +kernel
theorem dX5_statement_186 : decode cX5_statement 186 = .ok (.iconst 1, 1) := by decide +kernel
theorem dX5_statement_187 : decode cX5_statement 187 = .ok (.invokevirtual 135, 3) := by decide +kernel
theorem dX5_statement_190 : decode cX5_statement 190 = .ok (.iastore, 1) := by decide +kernel
theorem dX5_statement_191 : decode cX5_statement 191 = .ok (.goto 48, 3) := by decide +kernel
theorem dX5_statement_194 : decode cX5_statement 194 = .ok (.aload_n 0, 1) := by decide +kernel
theorem dX5_statement_195 : decode cX5_statement 195 = .ok (.getfield 47, 3) := by decide +kernel
theorem dX5_statement_198 : decode cX5_statement 198 = .ok (.iconst 0, 1) := by decide +kernel
theorem dX5_statement_199 : decode cX5_statement 199 = .ok (.aload_n 0, 1) := by decide +kernel
theorem dX5_statement_200 : decode cX5_statement 200 = .ok (.aload_n 0, 1) := by decide +kernel
theorem dX5_statement_201 : decode cX5_statement 201 = .ok (.getfield 41, 3) := by decide +kernel
theorem dX5_statement_204 : decode cX5_statement 204 = .ok (.invokevirtual 128, 3) := by decide +kernel
theorem dX5_statement_207 : decode cX5_statement 207 = .ok (.iastore, 1) := by decide +kernel
theorem dX5_statement_208 : decode cX5_statement 208 = .ok (.goto 31, 3) := by decide +kernel
theorem dX5_statement_211 : decode cX5_statement 211 = .ok (.iconst 0, 1) := by decide +kernel
theorem dX5_statement_212 : decode cX5_statement 212 = .ok (.istore_n 1, 1) := by decide +kernel
theorem dX5_statement_213 : decode cX5_statement 213 = .ok (.iload_n 1, 1) := by decide +kernel
theorem dX5_statement_214 : decode cX5_statement 214 = .ok (.iconst 3, 1) := by decide +kernel
theorem dX5_statement_215 : decode cX5_statement 215 = .ok (.if_icmp .ge 21, 3) := by decide +kernel
theorem dX5_statement_218 : decode cX5_statement 218 = .ok (.aload_n 0, 1) := by decide +kernel
theorem dX5_statement_219 : decode cX5_statement 219 = .ok (.getfield 47, 3) := by decide +kernel
theorem dX5_statement_222 : decode cX5_statement 222 = .ok (.iload_n 1, 1) := by decide +kernel
theorem dX5_statement_223 : decode cX5_statement 223 = .ok (.aload_n 0, 1) := by decide +kernel
theorem dX5_statement_224 : decode cX5_statement 224 = .ok (.iconst 1, 1) := by decide +kernel
theorem dX5_statement_225 : decode cX5_statement 225 = .ok (.iconst 1, 1) := by decide +kernel
theorem dX5_statement_226 : decode cX5_statement 226 = .ok (.invokevirtual 135, 3) := by decide +kernel
theorem dX5_statement_229 : decode cX5_statement 229 = .ok (.iastore, 1) := by decide +kernel
theorem dX5_statement_230 : decode cX5_statement 230 = .ok (.iinc 1 1, 3) := by decide +kernel
theorem dX5_statement_233 : decode cX5_statement 233 = .ok (.goto (-20), 3) := by decide +kernel
theorem dX5_statement_236 : decode cX5_statement 236 = .ok (.goto 3, 3) := by decide +kernel
theorem dX5_statement_239 : decode cX5_statement 239 = .ok (.aload_n 0, 1) := by decide +kernel
theorem dX5_statement_240 : decode cX5_statement 240 = .ok (.getfield 122, 3) := by decide +kernel
theorem dX5_statement_243 : decode cX5_statement 243 = .ok (.ifCond .eq 41, 3) := by decide +kernel
theorem dX5_statement_246 : decode cX5_statement 246 = .ok (.aload_n 0, 1) := by decide +kernel
theorem dX5_statement_247 : decode cX5_statement 247 = .ok (.getfield 125, 3) := by decide +kernel
theorem dX5_statement_250 : decode cX5_statement 250 = .ok (.aload_n 0, 1) := by decide +kernel
theorem dX5_statement_251 : decode cX5_statement 251 = .ok (.getfield 119, 3) := by decide +kernel
theorem dX5_statement_254 : decode cX5_statement 254 = .ok (.if_icmp .ge 30, 3) := by decide +kernel
theorem dX5_statement_257 : decode cX5_statement 257 = .ok (.aload_n 0, 1) := by decide +kernel
theorem dX5_statement_258 : decode cX5_statement 258 = .ok (.getfield 31, 3) := by decide +kernel
theorem dX5_statement_261 : decode cX5_statement 261 = .ok (.aload_n 0, 1) := by decide +kernel
theorem dX5_statement_262 : decode cX5_statement 262 = .ok (.getfield 125, 3) := by decide +kernel
theorem dX5_statement_265 : decode cX5_statement 265 = .ok (.iaload, 1) := by decide +kernel
theorem dX5_statement_266 : decode cX5_statement 266 = .ok (.bipush 59, 2) := by decide +kernel
theorem dX5_statement_268 : decode cX5_statement 268 = .ok (.if_icmp .ne 16, 3) := by decide +kernel
theorem dX5_statement_271 : decode cX5_statement 271 = .ok (.aload_n 0, 1) := by decide +kernel
theorem dX5_statement_272 : decode cX5_statement 272 = .ok (.dup, 1) := by decide +kernel
theorem dX5_statement_273 : decode cX5_statement 273 = .ok (.getfield 125, 3) := by decide +kernel
theorem dX5_statement_276 : decode cX5_statement 276 = .ok (.iconst 1, 1) := by decide +kernel
theorem dX5_statement_277 : decode cX5_statement 277 = .ok (.iadd, 1) := by decide +kernel
theorem dX5_statement_278 : decode cX5_statement 278 = .ok (.putfield 125, 3) := by decide +kernel
theorem dX5_statement_281 : decode cX5_statement 281 = .ok (.goto 8, 3) := by decide +kernel
theorem dX5_statement_284 : decode cX5_statement 284 = .ok (.aload_n 0, 1) := by decide +kernel
theorem dX5_statement_285 : decode cX5_statement 285 = .ok (.iconst 0, 1) := by decide +kernel
theorem dX5_statement_286 : decode cX5_statement 286 = .ok (.putfield 122, 3) := by decide +kernel
theorem dX5_statement_289 : decode cX5_statement 289 = .ok (.return_, 1) := by decide +kernel
theorem dX5_isAsItMustBe_0 : decode cX5_isAsItMustBe 0 = .ok (.aload_n 0, 1) := by decide +kernel
theorem dX5_isAsItMustBe_1 : decode cX5_isAsItMustBe 1 = .ok (.getfield 132, 3) := by decide +kernel
theorem dX5_isAsItMustBe_4 : decode cX5_isAsItMustBe 4 = .ok (.tableswitch 143 0 6 #[44, 81, 143, 108, 143, 143, 125], 44) := by decide +kernel
theorem dX5_isAsItMustBe_48 : decode cX5_isAsItMustBe 48 = .ok (.aload_n 0, 1) := by decide +kernel
theorem dX5_isAsItMustBe_49 : decode cX5_isAsItMustBe 49 = .ok (.getfield 47, 3) := by decide +kernel
theorem dX5_isAsItMustBe_52 : decode cX5_isAsItMustBe 52 = .ok (.iconst 3, 1) := by decide +kernel
theorem dX5_isAsItMustBe_53 : decode cX5_isAsItMustBe 53 = .ok (.iaload, 1) := by decide +kernel
theorem dX5_isAsItMustBe_54 : decode cX5_isAsItMustBe 54 = .ok (.iconst 1, 1) := by decide +kernel
theorem dX5_isAsItMustBe_55 : decode cX5_isAsItMustBe 55 = .ok (.if_icmp .lt 28, 3) := by decide +kernel
theorem dX5_isAsItMustBe_58 : decode cX5_isAsItMustBe 58 = .ok (.aload_n 0, 1) := by decide +kernel
theorem dX5_isAsItMustBe_59 : decode cX5_isAsItMustBe 59 = .ok (.getfield 47, 3) := by decide +kernel
theorem dX5_isAsItMustBe_62 : decode cX5_isAsItMustBe 62 = .ok (.iconst 3, 1) := by decide +kernel
theorem dX5_isAsItMustBe_63 : decode cX5_isAsItMustBe 63 = .ok (.iaload, 1) := by decide +kernel
theorem dX5_isAsItMustBe_64 : decode cX5_isAsItMustBe 64 = .ok (.bipush 10, 2) := by decide +kernel
theorem dX5_isAsItMustBe_66 : decode cX5_isAsItMustBe 66 = .ok (.if_icmp .gt 17, 3) := by decide +kernel
theorem dX5_isAsItMustBe_69 : decode cX5_isAsItMustBe 69 = .ok (.aload_n 0, 1) := by decide +kernel
theorem dX5_isAsItMustBe_70 : decode cX5_isAsItMustBe 70 = .ok (.getfield 13, 3) := by decide +kernel
theorem dX5_isAsItMustBe_73 : decode cX5_isAsItMustBe 73 = .ok (.iconst 0, 1) := by decide +kernel
theorem dX5_isAsItMustBe_74 : decode cX5_isAsItMustBe 74 = .ok (.iaload, 1) := by decide +kernel
theorem dX5_isAsItMustBe_75 : decode cX5_isAsItMustBe 75 = .ok (.iconst 4, 1) := by decide +kernel
theorem dX5_isAsItMustBe_76 : decode cX5_isAsItMustBe 76 = .ok (.if_icmp .ge 7, 3) := by decide +kernel
theorem dX5_isAsItMustBe_79 : decode cX5_isAsItMustBe 79 = .ok (.iconst 1, 1) := by decide +kernel
theorem dX5_isAsItMustBe_80 : decode cX5_isAsItMustBe 80 = .ok (.goto 4, 3) := by decide +kernel
theorem dX5_isAsItMustBe_83 : decode cX5_isAsItMustBe 83 = .ok (.iconst 0, 1) := by decide +kernel
theorem dX5_isAsItMustBe_84 : decode cX5_isAsItMustBe 84 = .ok (.ireturn, 1) := by decide +kernel
theorem dX5_isAsItMustBe_85 : decode cX5_isAsItMustBe 85 = .ok (.aload_n 0, 1) := by decide +kernel
theorem dX5_isAsItMustBe_86 : decode cX5_isAsItMustBe 86 = .ok (.getfield 47, 3) := by decide +kernel
theorem dX5_isAsItMustBe_89 : decode cX5_isAsItMustBe 89 = .ok (.iconst 0, 1) := by decide +kernel
theorem dX5_isAsItMustBe_90 : decode cX5_isAsItMustBe 90 = .ok (.iaload, 1) := by decide +kernel
theorem dX5_isAsItMustBe_91 : decode cX5_isAsItMustBe 91 = .ok (.iconst 5, 1) := by decide +kernel
theorem dX5_isAsItMustBe_92 : decode cX5_isAsItMustBe 92 = .ok (.if_icmp .ge 18, 3) := by decide +kernel
theorem dX5_isAsItMustBe_95 : decode cX5_isAsItMustBe 95 = .ok (.aload_n 0, 1) := by decide +kernel
theorem dX5_isAsItMustBe_96 : decode cX5_isAsItMustBe 96 = .ok (.getfield 47, 3) := by decide +kernel
theorem dX5_isAsItMustBe_99 : decode cX5_isAsItMustBe 99 = .ok (.iconst 1, 1) := by decide +kernel
theorem dX5_isAsItMustBe_100 : decode cX5_isAsItMustBe 100 = .ok (.iaload, 1) := by decide +kernel
theorem dX5_isAsItMustBe_101 : decode cX5_isAsItMustBe 101 = .ok (.bipush 60, 2) := by decide +kernel
theorem dX5_isAsItMustBe_103 : decode cX5_isAsItMustBe 103 = .ok (.if_icmp .gt 7, 3) := by decide +kernel
theorem dX5_isAsItMustBe_106 : decode cX5_isAsItMustBe 106 = .ok (.iconst 1, 1) := by decide +kernel
theorem dX5_isAsItMustBe_107 : decode cX5_isAsItMustBe 107 = .ok (.goto 4, 3) := by decide +kernel
theorem dX5_isAsItMustBe_110 : decode cX5_isAsItMustBe 110 = .ok (.iconst 0, 1) := by decide +kernel
theorem dX5_isAsItMustBe_111 : decode cX5_isAsItMustBe 111 = .ok (.ireturn, 1) := by decide +kernel
theorem dX5_isAsItMustBe_112 : decode cX5_isAsItMustBe 112 = .ok (.aload_n 0, 1) := by decide +kernel
theorem dX5_isAsItMustBe_113 : decode cX5_isAsItMustBe 113 = .ok (.getfield 47, 3) := by decide +kernel
theorem dX5_isAsItMustBe_116 : decode cX5_isAsItMustBe 116 = .ok (.iconst 0, 1) := by decide +kernel
theorem dX5_isAsItMustBe_117 : decode cX5_isAsItMustBe 117 = .ok (.iaload, 1) := by decide +kernel
theorem dX5_isAsItMustBe_118 : decode cX5_isAsItMustBe 118 = .ok (.bipush 30, 2) := by decide +kernel
theorem dX5_isAsItMustBe_120 : decode cX5_isAsItMustBe 120 = .ok (.if_icmp .gt 7, 3) := by decide +kernel
theorem dX5_isAsItMustBe_123 : decode cX5_isAsItMustBe 123 = .ok (.iconst 1, 1) := by decide +kernel
theorem dX5_isAsItMustBe_124 : decode cX5_isAsItMustBe 124 = .ok (.goto 4, 3) := by decide +kernel
theorem dX5_isAsItMustBe_127 : decode cX5_isAsItMustBe 127 = .ok (.iconst 0, 1) := by decide +kernel
theorem dX5_isAsItMustBe_128 : decode cX5_isAsItMustBe 128 = .ok (.ireturn, 1) := by decide +kernel
theorem dX5_isAsItMustBe_129 : decode cX5_isAsItMustBe 129 = .ok (.aload_n 0, 1) := by decide +kernel
theorem dX5_isAsItMustBe_130 : decode cX5_isAsItMustBe 130 = .ok (.getfield 13, 3) := by decide +kernel
theorem dX5_isAsItMustBe_133 : decode cX5_isAsItMustBe 133 = .ok (.iconst 1, 1) := by decide +kernel
theorem dX5_isAsItMustBe_134 : decode cX5_isAsItMustBe 134 = .ok (.iaload, 1) := by decide +kernel
theorem dX5_isAsItMustBe_135 : decode cX5_isAsItMustBe 135 = .ok (.sipush 9999, 3) := by decide +kernel
theorem dX5_isAsItMustBe_138 : decode cX5_isAsItMustBe 138 = .ok (.if_icmp .ge 7, 3) := by decide +kernel
theorem dX5_isAsItMustBe_141 : decode cX5_isAsItMustBe 141 = .ok (.iconst 1, 1) := by decide +kernel
theorem dX5_isAsItMustBe_142 : decode cX5_isAsItMustBe 142 = .ok (.goto 4, 3) := by decide +kernel
theorem dX5_isAsItMustBe_145 : decode cX5_isAsItMustBe 145 = .ok (.iconst 0, 1) := by decide +kernel
theorem dX5_isAsItMustBe_146 : decode cX5_isAsItMustBe 146 = .ok (.ireturn, 1) := by decide +kernel
theorem dX5_isAsItMustBe_147 : decode cX5_isAsItMustBe 147 = .ok (.iconst 1, 1) := by decide +kernel
theorem dX5_isAsItMustBe_148 : decode cX5_isAsItMustBe 148 = .ok (.ireturn, 1) := by decide +kernel
theorem dX5_take_0 : decode cX5_take 0 = .ok (.aload_n 0, 1) := by decide +kernel
theorem dX5_take_1 : decode cX5_take 1 = .ok (.getfield 132, 3) := by decide +kernel
theorem dX5_take_4 : decode cX5_take 4 = .ok (.tableswitch 218 0 5 #[40, 90, 113, 145, 172, 188], 40) := by decide +kernel
theorem dX5_take_44 : decode cX5_take 44 = .ok (.iconst 0, 1) := by decide +kernel
theorem dX5_take_45 : decode cX5_take 45 = .ok (.istore_n 1, 1) := by decide +kernel
theorem dX5_take_46 : decode cX5_take 46 = .ok (.iload_n 1, 1) := by decide +kernel
theorem dX5_take_47 : decode cX5_take 47 = .ok (.iconst 4, 1) := by decide +kernel
theorem dX5_take_48 : decode cX5_take 48 = .ok (.if_icmp .ge 33, 3) := by decide +kernel
theorem dX5_take_51 : decode cX5_take 51 = .ok (.aload_n 0, 1) := by decide +kernel
theorem dX5_take_52 : decode cX5_take 52 = .ok (.getfield 13, 3) := by decide +kernel
theorem dX5_take_55 : decode cX5_take 55 = .ok (.bipush 30, 2) := by decide +kernel
theorem dX5_take_57 : decode cX5_take 57 = .ok (.iconst 4, 1) := by decide +kernel
theorem dX5_take_58 : decode cX5_take 58 = .ok (.aload_n 0, 1) := by decide +kernel
theorem dX5_take_59 : decode cX5_take 59 = .ok (.getfield 13, 3) := by decide +kernel
theorem dX5_take_62 : decode cX5_take 62 = .ok (.iconst 0, 1) := by decide +kernel
theorem dX5_take_63 : decode cX5_take 63 = .ok (.iaload, 1) := by decide +kernel
theorem dX5_take_64 : decode cX5_take 64 = .ok (.imul, 1) := by decide +kernel
theorem dX5_take_65 : decode cX5_take 65 = .ok (.iadd, 1) := by decide +kernel
theorem dX5_take_66 : decode cX5_take 66 = .ok (.iload_n 1, 1) := by decide +kernel
theorem dX5_take_67 : decode cX5_take 67 = .ok (.iadd, 1) := by decide +kernel
theorem dX5_take_68 : decode cX5_take 68 = .ok (.aload_n 0, 1) := by decide +kernel
theorem dX5_take_69 : decode cX5_take 69 = .ok (.getfield 47, 3) := by decide +kernel
theorem dX5_take_72 : decode cX5_take 72 = .ok (.iload_n 1, 1) := by decide +kernel
theorem dX5_take_73 : decode cX5_take 73 = .ok (.iaload, 1) := by decide +kernel
theorem dX5_take_74 : decode cX5_take 74 = .ok (.iastore, 1) := by decide +kernel
theorem dX5_take_75 : decode cX5_take 75 = .ok (.iinc 1 1, 3) := by decide +kernel
theorem dX5_take_78 : decode cX5_take 78 = .ok (.goto (-32), 3) := by decide +kernel
theorem dX5_take_81 : decode cX5_take 81 = .ok (.aload_n 0, 1) := by decide +kernel
theorem dX5_take_82 : decode cX5_take 82 = .ok (.getfield 13, 3) := by decide +kernel
theorem dX5_take_85 : decode cX5_take 85 = .ok (.iconst 0, 1) := by decide +kernel
theorem dX5_take_86 : decode cX5_take 86 = .ok (.dup2, 1) := by decide +kernel
theorem dX5_take_87 : decode cX5_take 87 = .ok (.iaload, 1) := by decide +kernel
theorem dX5_take_88 : decode cX5_take 88 = .ok (.iconst 1, 1) := by decide +kernel
theorem dX5_take_89 : decode cX5_take 89 = .ok (.iadd, 1) := by decide +kernel
theorem dX5_take_90 : decode cX5_take 90 = .ok (.iastore, 1) := by decide +kernel
theorem dX5_take_91 : decode cX5_take 91 = .ok (.goto 148, 3) := by decide +kernel
theorem dX5_take_94 : decode cX5_take 94 = .ok (.aload_n 0, 1) := by decide +kernel
theorem dX5_take_95 : decode cX5_take 95 = .ok (.getfield 13, 3) := by decide +kernel
theorem dX5_take_98 : decode cX5_take 98 = .ok (.bipush 10, 2) := by decide +kernel
theorem dX5_take_100 : decode cX5_take 100 = .ok (.aload_n 0, 1) := by decide +kernel
theorem dX5_take_101 : decode cX5_take 101 = .ok (.getfield 47, 3) := by decide +kernel
theorem dX5_take_104 : decode cX5_take 104 = .ok (.iconst 0, 1) := by decide +kernel
theorem dX5_take_105 : decode cX5_take 105 = .ok (.iaload, 1) := by decide +kernel
theorem dX5_take_106 : decode cX5_take 106 = .ok (.iadd, 1) := by decide +kernel
theorem dX5_take_107 : decode cX5_take 107 = .ok (.aload_n 0, 1) := by decide +kernel
theorem dX5_take_108 : decode cX5_take 108 = .ok (.getfield 47, 3) := by decide +kernel
theorem dX5_take_111 : decode cX5_take 111 = .ok (.iconst 1, 1) := by decide +kernel
theorem dX5_take_112 : decode cX5_take 112 = .ok (.iaload, 1) := by decide +kernel
theorem dX5_take_113 : decode cX5_take 113 = .ok (.iastore, 1) := by decide +kernel
theorem dX5_take_114 : decode cX5_take 114 = .ok (.goto 125, 3) := by decide +kernel
theorem dX5_take_117 : decode cX5_take 117 = .ok (.iconst 0, 1) := by decide +kernel
theorem dX5_take_118 : decode cX5_take 118 = .ok (.istore_n 1, 1) := by decide +kernel
theorem dX5_take_119 : decode cX5_take 119 = .ok (.iload_n 1, 1) := by decide +kernel
theorem dX5_take_120 : decode cX5_take 120 = .ok (.bipush 7, 2) := by decide +kernel
theorem dX5_take_122 : decode cX5_take 122 = .ok (.if_icmp .ge 24, 3) := by decide +kernel
theorem dX5_take_125 : decode cX5_take 125 = .ok (.aload_n 0, 1) := by decide +kernel
theorem dX5_take_126 : decode cX5_take 126 = .ok (.getfield 13, 3) := by decide +kernel
theorem dX5_take_129 : decode cX5_take 129 = .ok (.bipush 20, 2) := by decide +kernel
theorem dX5_take_131 : decode cX5_take 131 = .ok (.iload_n 1, 1) := by decide +kernel
theorem dX5_take_132 : decode cX5_take 132 = .ok (.iadd, 1) := by decide +kernel
theorem dX5_take_133 : decode cX5_take 133 = .ok (.aload_n 0, 1) := by decide +kernel
theorem dX5_take_134 : decode cX5_take 134 = .ok (.getfield 47, 3) := by decide +kernel
theorem dX5_take_137 : decode cX5_take 137 = .ok (.iload_n 1, 1) := by decide +kernel
theorem dX5_take_138 : decode cX5_take 138 = .ok (.iaload, 1) := by decide +kernel
theorem dX5_take_139 : decode cX5_take 139 = .ok (.iastore, 1) := by decide +kernel
theorem dX5_take_140 : decode cX5_take 140 = .ok (.iinc 1 1, 3) := by decide +kernel
theorem dX5_take_143 : decode cX5_take 143 = .ok (.goto (-24), 3) := by decide +kernel
theorem dX5_take_146 : decode cX5_take 146 = .ok (.goto 93, 3) := by decide +kernel
theorem dX5_take_149 : decode cX5_take 149 = .ok (.aload_n 0, 1) := by decide +kernel
theorem dX5_take_150 : decode cX5_take 150 = .ok (.getfield 13, 3) := by decide +kernel
theorem dX5_take_153 : decode cX5_take 153 = .ok (.iconst 2, 1) := by decide +kernel
theorem dX5_take_154 : decode cX5_take 154 = .ok (.aload_n 0, 1) := by decide +kernel
theorem dX5_take_155 : decode cX5_take 155 = .ok (.getfield 47, 3) := by decide +kernel
theorem dX5_take_158 : decode cX5_take 158 = .ok (.iconst 0, 1) := by decide +kernel
theorem dX5_take_159 : decode cX5_take 159 = .ok (.iaload, 1) := by decide +kernel
theorem dX5_take_160 : decode cX5_take 160 = .ok (.iastore, 1) := by decide +kernel
theorem dX5_take_161 : decode cX5_take 161 = .ok (.aload_n 0, 1) := by decide +kernel
theorem dX5_take_162 : decode cX5_take 162 = .ok (.getfield 13, 3) := by decide +kernel
theorem dX5_take_165 : decode cX5_take 165 = .ok (.iconst 3, 1) := by decide +kernel
theorem dX5_take_166 : decode cX5_take 166 = .ok (.aload_n 0, 1) := by decide +kernel
theorem dX5_take_167 : decode cX5_take 167 = .ok (.getfield 47, 3) := by decide +kernel
theorem dX5_take_170 : decode cX5_take 170 = .ok (.iconst 1, 1) := by decide +kernel
theorem dX5_take_171 : decode cX5_take 171 = .ok (.iaload, 1) := by decide +kernel
theorem dX5_take_172 : decode cX5_take 172 = .ok (.iastore, 1) := by decide +kernel
theorem dX5_take_173 : decode cX5_take 173 = .ok (.goto 66, 3) := by decide +kernel
theorem dX5_take_176 : decode cX5_take 176 = .ok (.aload_n 0, 1) := by decide +kernel
theorem dX5_take_177 : decode cX5_take 177 = .ok (.getfield 13, 3) := by decide +kernel
theorem dX5_take_180 : decode cX5_take 180 = .ok (.bipush 7, 2) := by decide +kernel
theorem dX5_take_182 : decode cX5_take 182 = .ok (.aload_n 0, 1) := by decide +kernel
theorem dX5_take_183 : decode cX5_take 183 = .ok (.getfield 47, 3) := by decide +kernel
theorem dX5_take_186 : decode cX5_take 186 = .ok (.iconst 0, 1) := by decide +kernel
theorem dX5_take_187 : decode cX5_take 187 = .ok (.iaload, 1) := by decide +kernel
theorem dX5_take_188 : decode cX5_take 188 = .ok (.iastore, 1) := by decide +kernel
theorem dX5_take_189 : decode cX5_take 189 = .ok (.goto 50, 3) := by decide +kernel
theorem dX5_take_192 : decode cX5_take 192 = .ok (.iconst 0, 1) := by decide +kernel
theorem dX5_take_193 : decode cX5_take 193 = .ok (.istore_n 1, 1) := by decide +kernel
theorem dX5_take_194 : decode cX5_take 194 = .ok (.iload_n 1, 1) := by decide +kernel
theorem dX5_take_195 : decode cX5_take 195 = .ok (.iconst 3, 1) := by decide +kernel
theorem dX5_take_196 : decode cX5_take 196 = .ok (.if_icmp .ge 23, 3) := by decide +kernel
theorem dX5_take_199 : decode cX5_take 199 = .ok (.aload_n 0, 1) := by decide +kernel
theorem dX5_take_200 : decode cX5_take 200 = .ok (.getfield 13, 3) := by decide +kernel
theorem dX5_take_203 : decode cX5_take 203 = .ok (.iconst 4, 1) := by decide +kernel
theorem dX5_take_204 : decode cX5_take 204 = .ok (.iload_n 1, 1) := by decide +kernel
theorem dX5_take_205 : decode cX5_take 205 = .ok (.iadd, 1) := by decide +kernel
theorem dX5_take_206 : decode cX5_take 206 = .ok (.aload_n 0, 1) := by decide +kernel
theorem dX5_take_207 : decode cX5_take 207 = .ok (.getfield 47, 3) := by decide +kernel
theorem dX5_take_210 : decode cX5_take 210 = .ok (.iload_n 1, 1) := by decide +kernel
theorem dX5_take_211 : decode cX5_take 211 = .ok (.iaload, 1) := by decide +kernel
theorem dX5_take_212 : decode cX5_take 212 = .ok (.iastore, 1) := by decide +kernel
theorem dX5_take_213 : decode cX5_take 213 = .ok (.iinc 1 1, 3) := by decide +kernel
theorem dX5_take_216 : decode cX5_take 216 = .ok (.goto (-22), 3) := by decide +kernel
theorem dX5_take_219 : decode cX5_take 219 = .ok (.goto 20, 3) := by decide +kernel
theorem dX5_take_222 : decode cX5_take 222 = .ok (.aload_n 0, 1) := by decide +kernel
theorem dX5_take_223 : decode cX5_take 223 = .ok (.aload_n 0, 1) := by decide +kernel
theorem dX5_take_224 : decode cX5_take 224 = .ok (.getfield 13, 3) := by decide +kernel
theorem dX5_take_227 : decode cX5_take 227 = .ok (.invokevirtual 107, 3) := by decide +kernel
theorem dX5_take_230 : decode cX5_take 230 = .ok (.aload_n 0, 1) := by decide +kernel
theorem dX5_take_231 : decode cX5_take 231 = .ok (.aload_n 0, 1) := by decide +kernel
theorem dX5_take_232 : decode cX5_take 232 = .ok (.getfield 13, 3) := by decide +kernel
theorem dX5_take_235 : decode cX5_take 235 = .ok (.iconst 0, 1) := by decide +kernel
theorem dX5_take_236 : decode cX5_take 236 = .ok (.invokevirtual 111, 3) := by decide +kernel
theorem dX5_take_239 : decode cX5_take 239 = .ok (.return_, 1) := by decide +kernel
theorem dX5_read_0 : decode cX5_read 0 = .ok (.iconst 0, 1) := by decide +kernel
theorem dX5_read_1 : decode cX5_read 1 = .ok (.istore_n 1, 1) := by decide +kernel
theorem dX5_read_2 : decode cX5_read 2 = .ok (.aload_n 0, 1) := by decide +kernel
theorem dX5_read_3 : decode cX5_read 3 = .ok (.iconst 0, 1) := by decide +kernel
theorem dX5_read_4 : decode cX5_read 4 = .ok (.putfield 125, 3) := by decide +kernel
theorem dX5_read_7 : decode cX5_read 7 = .ok (.aload_n 0, 1) := by decide +kernel
theorem dX5_read_8 : decode cX5_read 8 = .ok (.iconst 1, 1) := by decide +kernel
theorem dX5_read_9 : decode cX5_read 9 = .ok (.putfield 122, 3) := by decide +kernel
theorem dX5_read_12 : decode cX5_read 12 = .ok (.aload_n 0, 1) := by decide +kernel
theorem dX5_read_13 : decode cX5_read 13 = .ok (.invokevirtual 138, 3) := by decide +kernel
theorem dX5_read_16 : decode cX5_read 16 = .ok (.iinc 1 1, 3) := by decide +kernel
theorem dX5_read_19 : decode cX5_read 19 = .ok (.aload_n 0, 1) := by decide +kernel
theorem dX5_read_20 : decode cX5_read 20 = .ok (.getfield 122, 3) := by decide +kernel
theorem dX5_read_23 : decode cX5_read 23 = .ok (.ifCond .eq 14, 3) := by decide +kernel
theorem dX5_read_26 : decode cX5_read 26 = .ok (.aload_n 0, 1) := by decide +kernel
theorem dX5_read_27 : decode cX5_read 27 = .ok (.getfield 125, 3) := by decide +kernel
theorem dX5_read_30 : decode cX5_read 30 = .ok (.aload_n 0, 1) := by decide +kernel
theorem dX5_read_31 : decode cX5_read 31 = .ok (.getfield 119, 3) := by decide +kernel
theorem dX5_read_34 : decode cX5_read 34 = .ok (.if_icmp .lt (-22), 3) := by decide +kernel
theorem dX5_read_37 : decode cX5_read 37 = .ok (.aload_n 0, 1) := by decide +kernel
theorem dX5_read_38 : decode cX5_read 38 = .ok (.getfield 122, 3) := by decide +kernel
theorem dX5_read_41 : decode cX5_read 41 = .ok (.ifCond .ne 12, 3) := by decide +kernel
theorem dX5_read_44 : decode cX5_read 44 = .ok (.sipush (-1000), 3) := by decide +kernel
theorem dX5_read_47 : decode cX5_read 47 = .ok (.aload_n 0, 1) := by decide +kernel
theorem dX5_read_48 : decode cX5_read 48 = .ok (.getfield 125, 3) := by decide +kernel
theorem dX5_read_51 : decode cX5_read 51 = .ok (.isub, 1) := by decide +kernel
theorem dX5_read_52 : decode cX5_read 52 = .ok (.ireturn, 1) := by decide +kernel
theorem dX5_read_53 : decode cX5_read 53 = .ok (.aload_n 0, 1) := by decide +kernel
theorem dX5_read_54 : decode cX5_read 54 = .ok (.iconst 0, 1) := by decide +kernel
theorem dX5_read_55 : decode cX5_read 55 = .ok (.putfield 125, 3) := by decide +kernel
theorem dX5_read_58 : decode cX5_read 58 = .ok (.bipush 46, 2) := by decide +kernel
theorem dX5_read_60 : decode cX5_read 60 = .ok (.newarray .int, 2) := by decide +kernel
theorem dX5_read_62 : decode cX5_read 62 = .ok (.astore_n 2, 1) := by decide +kernel
theorem dX5_read_63 : decode cX5_read 63 = .ok (.aload_n 0, 1) := by decide +kernel
theorem dX5_read_64 : decode cX5_read 64 = .ok (.getfield 13, 3) := by decide +kernel
theorem dX5_read_67 : decode cX5_read 67 = .ok (.aload_n 2, 1) := by decide +kernel
theorem dX5_read_68 : decode cX5_read 68 = .ok (.invokestatic 60, 3) := by decide +kernel
theorem dX5_read_71 : decode cX5_read 71 = .ok (.aload_n 0, 1) := by decide +kernel
theorem dX5_read_72 : decode cX5_read 72 = .ok (.getfield 125, 3) := by decide +kernel
theorem dX5_read_75 : decode cX5_read 75 = .ok (.aload_n 0, 1) := by decide +kernel
theorem dX5_read_76 : decode cX5_read 76 = .ok (.getfield 119, 3) := by decide +kernel
theorem dX5_read_79 : decode cX5_read 79 = .ok (.if_icmp .ge 40, 3) := by decide +kernel
theorem dX5_read_82 : decode cX5_read 82 = .ok (.aload_n 0, 1) := by decide +kernel
theorem dX5_read_83 : decode cX5_read 83 = .ok (.getfield 125, 3) := by decide +kernel
theorem dX5_read_86 : decode cX5_read 86 = .ok (.istore_n 3, 1) := by decide +kernel
theorem dX5_read_87 : decode cX5_read 87 = .ok (.aload_n 0, 1) := by decide +kernel
theorem dX5_read_88 : decode cX5_read 88 = .ok (.invokevirtual 138, 3) := by decide +kernel
theorem dX5_read_91 : decode cX5_read 91 = .ok (.aload_n 0, 1) := by decide +kernel
theorem dX5_read_92 : decode cX5_read 92 = .ok (.invokevirtual 141, 3) := by decide +kernel
theorem dX5_read_95 : decode cX5_read 95 = .ok (.ifCond .ne 17, 3) := by decide +kernel
theorem dX5_read_98 : decode cX5_read 98 = .ok (.aload_n 2, 1) := by decide +kernel
theorem dX5_read_99 : decode cX5_read 99 = .ok (.aload_n 0, 1) := by decide +kernel
theorem dX5_read_100 : decode cX5_read 100 = .ok (.getfield 13, 3) := by decide +kernel
theorem dX5_read_103 : decode cX5_read 103 = .ok (.invokestatic 60, 3) := by decide +kernel
theorem dX5_read_106 : decode cX5_read 106 = .ok (.sipush (-2000), 3) := by decide +kernel
theorem dX5_read_109 : decode cX5_read 109 = .ok (.iload_n 3, 1) := by decide +kernel
theorem dX5_read_110 : decode cX5_read 110 = .ok (.isub, 1) := by decide +kernel
theorem dX5_read_111 : decode cX5_read 111 = .ok (.ireturn, 1) := by decide +kernel
theorem dX5_read_112 : decode cX5_read 112 = .ok (.aload_n 0, 1) := by decide +kernel
theorem dX5_read_113 : decode cX5_read 113 = .ok (.invokevirtual 145, 3) := by decide +kernel
theorem dX5_read_116 : decode cX5_read 116 = .ok (.goto (-45), 3) := by decide +kernel
theorem dX5_read_119 : decode cX5_read 119 = .ok (.iload_n 1, 1) := by decide +kernel
theorem dX5_read_120 : decode cX5_read 120 = .ok (.ireturn, 1) := by decide +kernel
theorem dX5_house_0 : decode cX5_house 0 = .ok (.aload_n 0, 1) := by decide +kernel
theorem dX5_house_1 : decode cX5_house 1 = .ok (.invokevirtual 148, 3) := by decide +kernel
theorem dX5_house_4 : decode cX5_house 4 = .ok (.istore_n 1, 1) := by decide +kernel
theorem dX5_house_5 : decode cX5_house 5 = .ok (.aload_n 0, 1) := by decide +kernel
theorem dX5_house_6 : decode cX5_house 6 = .ok (.iconst 0, 1) := by decide +kernel
theorem dX5_house_7 : decode cX5_house 7 = .ok (.putfield 119, 3) := by decide +kernel
theorem dX5_house_10 : decode cX5_house 10 = .ok (.iload_n 1, 1) := by decide +kernel
theorem dX5_house_11 : decode cX5_house 11 = .ok (.ireturn, 1) := by decide +kernel
theorem dX5_isNoEater_0 : decode cX5_isNoEater 0 = .ok (.iload_n 1, 1) := by decide +kernel
theorem dX5_isNoEater_1 : decode cX5_isNoEater 1 = .ok (.ifCond .lt 13, 3) := by decide +kernel
theorem dX5_isNoEater_4 : decode cX5_isNoEater 4 = .ok (.iload_n 1, 1) := by decide +kernel
theorem dX5_isNoEater_5 : decode cX5_isNoEater 5 = .ok (.aload_n 0, 1) := by decide +kernel
theorem dX5_isNoEater_6 : decode cX5_isNoEater 6 = .ok (.getfield 13, 3) := by decide +kernel
theorem dX5_isNoEater_9 : decode cX5_isNoEater 9 = .ok (.iconst 0, 1) := by decide +kernel
theorem dX5_isNoEater_10 : decode cX5_isNoEater 10 = .ok (.iaload, 1) := by decide +kernel
theorem dX5_isNoEater_11 : decode cX5_isNoEater 11 = .ok (.if_icmp .lt 7, 3) := by decide +kernel
theorem dX5_isNoEater_14 : decode cX5_isNoEater 14 = .ok (.iconst 1, 1) := by decide +kernel
theorem dX5_isNoEater_15 : decode cX5_isNoEater 15 = .ok (.goto 4, 3) := by decide +kernel
theorem dX5_isNoEater_18 : decode cX5_isNoEater 18 = .ok (.iconst 0, 1) := by decide +kernel
theorem dX5_isNoEater_19 : decode cX5_isNoEater 19 = .ok (.ireturn, 1) := by decide +kernel
theorem dX5_isNoAge_0 : decode cX5_isNoAge 0 = .ok (.iload_n 0, 1) := by decide +kernel
theorem dX5_isNoAge_1 : decode cX5_isNoAge 1 = .ok (.ifCond .lt 8, 3) := by decide +kernel
theorem dX5_isNoAge_4 : decode cX5_isNoAge 4 = .ok (.iload_n 0, 1) := by decide +kernel
theorem dX5_isNoAge_5 : decode cX5_isNoAge 5 = .ok (.iconst 4, 1) := by decide +kernel
theorem dX5_isNoAge_6 : decode cX5_isNoAge 6 = .ok (.if_icmp .le 7, 3) := by decide +kernel
theorem dX5_isNoAge_9 : decode cX5_isNoAge 9 = .ok (.iconst 1, 1) := by decide +kernel
theorem dX5_isNoAge_10 : decode cX5_isNoAge 10 = .ok (.goto 4, 3) := by decide +kernel
theorem dX5_isNoAge_13 : decode cX5_isNoAge 13 = .ok (.iconst 0, 1) := by decide +kernel
theorem dX5_isNoAge_14 : decode cX5_isNoAge 14 = .ok (.ireturn, 1) := by decide +kernel
theorem dX5_eater_0 : decode cX5_eater 0 = .ok (.aload_n 0, 1) := by decide +kernel
theorem dX5_eater_1 : decode cX5_eater 1 = .ok (.iload_n 1, 1) := by decide +kernel
theorem dX5_eater_2 : decode cX5_eater 2 = .ok (.invokevirtual 152, 3) := by decide +kernel
theorem dX5_eater_5 : decode cX5_eater 5 = .ok (.ifCond .eq 9, 3) := by decide +kernel
theorem dX5_eater_8 : decode cX5_eater 8 = .ok (.aload_n 0, 1) := by decide +kernel
theorem dX5_eater_9 : decode cX5_eater 9 = .ok (.iconst (-1), 1) := by decide +kernel
theorem dX5_eater_10 : decode cX5_eater 10 = .ok (.invokevirtual 64, 3) := by decide +kernel
theorem dX5_eater_13 : decode cX5_eater 13 = .ok (.ireturn, 1) := by decide +kernel
theorem dX5_eater_14 : decode cX5_eater 14 = .ok (.iload_n 2, 1) := by decide +kernel
theorem dX5_eater_15 : decode cX5_eater 15 = .ok (.ifCond .lt 8, 3) := by decide +kernel
theorem dX5_eater_18 : decode cX5_eater 18 = .ok (.iload_n 2, 1) := by decide +kernel
theorem dX5_eater_19 : decode cX5_eater 19 = .ok (.iconst 3, 1) := by decide +kernel
theorem dX5_eater_20 : decode cX5_eater 20 = .ok (.if_icmp .le 12, 3) := by decide +kernel
theorem dX5_eater_23 : decode cX5_eater 23 = .ok (.aload_n 0, 1) := by decide +kernel
theorem dX5_eater_24 : decode cX5_eater 24 = .ok (.bipush (-2), 2) := by decide +kernel
theorem dX5_eater_26 : decode cX5_eater 26 = .ok (.invokevirtual 64, 3) := by decide +kernel
theorem dX5_eater_29 : decode cX5_eater 29 = .ok (.goto 16, 3) := by decide +kernel
theorem dX5_eater_32 : decode cX5_eater 32 = .ok (.aload_n 0, 1) := by decide +kernel
theorem dX5_eater_33 : decode cX5_eater 33 = .ok (.getfield 13, 3) := by decide +kernel
theorem dX5_eater_36 : decode cX5_eater 36 = .ok (.bipush 30, 2) := by decide +kernel
theorem dX5_eater_38 : decode cX5_eater 38 = .ok (.iconst 4, 1) := by decide +kernel
theorem dX5_eater_39 : decode cX5_eater 39 = .ok (.iload_n 1, 1) := by decide +kernel
theorem dX5_eater_40 : decode cX5_eater 40 = .ok (.imul, 1) := by decide +kernel
theorem dX5_eater_41 : decode cX5_eater 41 = .ok (.iadd, 1) := by decide +kernel
theorem dX5_eater_42 : decode cX5_eater 42 = .ok (.iload_n 2, 1) := by decide +kernel
theorem dX5_eater_43 : decode cX5_eater 43 = .ok (.iadd, 1) := by decide +kernel
theorem dX5_eater_44 : decode cX5_eater 44 = .ok (.iaload, 1) := by decide +kernel
theorem dX5_eater_45 : decode cX5_eater 45 = .ok (.ireturn, 1) := by decide +kernel
theorem dX5_change_0 : decode cX5_change 0 = .ok (.iload_n 2, 1) := by decide +kernel
theorem dX5_change_1 : decode cX5_change 1 = .ok (.ifCond .ge 10, 3) := by decide +kernel
theorem dX5_change_4 : decode cX5_change 4 = .ok (.aload_n 0, 1) := by decide +kernel
theorem dX5_change_5 : decode cX5_change 5 = .ok (.bipush (-4), 2) := by decide +kernel
theorem dX5_change_7 : decode cX5_change 7 = .ok (.invokevirtual 64, 3) := by decide +kernel
theorem dX5_change_10 : decode cX5_change 10 = .ok (.ireturn, 1) := by decide +kernel
theorem dX5_change_11 : decode cX5_change 11 = .ok (.iload_n 2, 1) := by decide +kernel
theorem dX5_change_12 : decode cX5_change 12 = .ok (.iload_n 3, 1) := by decide +kernel
theorem dX5_change_13 : decode cX5_change 13 = .ok (.if_icmp .le 10, 3) := by decide +kernel
theorem dX5_change_16 : decode cX5_change 16 = .ok (.aload_n 0, 1) := by decide +kernel
theorem dX5_change_17 : decode cX5_change 17 = .ok (.bipush (-6), 2) := by decide +kernel
theorem dX5_change_19 : decode cX5_change 19 = .ok (.invokevirtual 64, 3) := by decide +kernel
theorem dX5_change_22 : decode cX5_change 22 = .ok (.ireturn, 1) := by decide +kernel
theorem dX5_change_23 : decode cX5_change 23 = .ok (.aload_n 0, 1) := by decide +kernel
theorem dX5_change_24 : decode cX5_change 24 = .ok (.getfield 13, 3) := by decide +kernel
theorem dX5_change_27 : decode cX5_change 27 = .ok (.iload_n 1, 1) := by decide +kernel
theorem dX5_change_28 : decode cX5_change 28 = .ok (.iaload, 1) := by decide +kernel
theorem dX5_change_29 : decode cX5_change 29 = .ok (.istore 4, 2) := by decide +kernel
theorem dX5_change_31 : decode cX5_change 31 = .ok (.aload_n 0, 1) := by decide +kernel
theorem dX5_change_32 : decode cX5_change 32 = .ok (.getfield 13, 3) := by decide +kernel
theorem dX5_change_35 : decode cX5_change 35 = .ok (.iload_n 1, 1) := by decide +kernel
theorem dX5_change_36 : decode cX5_change 36 = .ok (.iload_n 2, 1) := by decide +kernel
theorem dX5_change_37 : decode cX5_change 37 = .ok (.iastore, 1) := by decide +kernel
theorem dX5_change_38 : decode cX5_change 38 = .ok (.iload 4, 2) := by decide +kernel
theorem dX5_change_40 : decode cX5_change 40 = .ok (.ireturn, 1) := by decide +kernel
theorem dX5_stock_0 : decode cX5_stock 0 = .ok (.iload_n 1, 1) := by decide +kernel
theorem dX5_stock_1 : decode cX5_stock 1 = .ok (.invokestatic 156, 3) := by decide +kernel
theorem dX5_stock_4 : decode cX5_stock 4 = .ok (.ifCond .eq 11, 3) := by decide +kernel
theorem dX5_stock_7 : decode cX5_stock 7 = .ok (.aload_n 0, 1) := by decide +kernel
theorem dX5_stock_8 : decode cX5_stock 8 = .ok (.iconst (-1), 1) := by decide +kernel
theorem dX5_stock_9 : decode cX5_stock 9 = .ok (.invokevirtual 64, 3) := by decide +kernel
theorem dX5_stock_12 : decode cX5_stock 12 = .ok (.goto 14, 3) := by decide +kernel
theorem dX5_stock_15 : decode cX5_stock 15 = .ok (.aload_n 0, 1) := by decide +kernel
theorem dX5_stock_16 : decode cX5_stock 16 = .ok (.bipush 10, 2) := by decide +kernel
theorem dX5_stock_18 : decode cX5_stock 18 = .ok (.iload_n 1, 1) := by decide +kernel
theorem dX5_stock_19 : decode cX5_stock 19 = .ok (.iadd, 1) := by decide +kernel
theorem dX5_stock_20 : decode cX5_stock 20 = .ok (.iload_n 2, 1) := by decide +kernel
theorem dX5_stock_21 : decode cX5_stock 21 = .ok (.bipush 60, 2) := by decide +kernel
theorem dX5_stock_23 : decode cX5_stock 23 = .ok (.invokevirtual 159, 3) := by decide +kernel
theorem dX5_stock_26 : decode cX5_stock 26 = .ok (.ireturn, 1) := by decide +kernel
theorem dX5_open_0 : decode cX5_open 0 = .ok (.iload_n 1, 1) := by decide +kernel
theorem dX5_open_1 : decode cX5_open 1 = .ok (.ifCond .lt 9, 3) := by decide +kernel
theorem dX5_open_4 : decode cX5_open 4 = .ok (.iload_n 1, 1) := by decide +kernel
theorem dX5_open_5 : decode cX5_open 5 = .ok (.bipush 6, 2) := by decide +kernel
theorem dX5_open_7 : decode cX5_open 7 = .ok (.if_icmp .le 9, 3) := by decide +kernel
theorem dX5_open_10 : decode cX5_open 10 = .ok (.aload_n 0, 1) := by decide +kernel
theorem dX5_open_11 : decode cX5_open 11 = .ok (.iconst (-1), 1) := by decide +kernel
theorem dX5_open_12 : decode cX5_open 12 = .ok (.invokevirtual 64, 3) := by decide +kernel
theorem dX5_open_15 : decode cX5_open 15 = .ok (.ireturn, 1) := by decide +kernel
theorem dX5_open_16 : decode cX5_open 16 = .ok (.iload_n 2, 1) := by decide +kernel
theorem dX5_open_17 : decode cX5_open 17 = .ok (.ifCond .eq 17, 3) := by decide +kernel
theorem dX5_open_20 : decode cX5_open 20 = .ok (.iload_n 2, 1) := by decide +kernel
theorem dX5_open_21 : decode cX5_open 21 = .ok (.iconst 1, 1) := by decide +kernel
theorem dX5_open_22 : decode cX5_open 22 = .ok (.if_icmp .eq 12, 3) := by decide +kernel
theorem dX5_open_25 : decode cX5_open 25 = .ok (.aload_n 0, 1) := by decide +kernel
theorem dX5_open_26 : decode cX5_open 26 = .ok (.bipush (-2), 2) := by decide +kernel
theorem dX5_open_28 : decode cX5_open 28 = .ok (.invokevirtual 64, 3) := by decide +kernel
theorem dX5_open_31 : decode cX5_open 31 = .ok (.goto 13, 3) := by decide +kernel
theorem dX5_open_34 : decode cX5_open 34 = .ok (.aload_n 0, 1) := by decide +kernel
theorem dX5_open_35 : decode cX5_open 35 = .ok (.bipush 20, 2) := by decide +kernel
theorem dX5_open_37 : decode cX5_open 37 = .ok (.iload_n 1, 1) := by decide +kernel
theorem dX5_open_38 : decode cX5_open 38 = .ok (.iadd, 1) := by decide +kernel
theorem dX5_open_39 : decode cX5_open 39 = .ok (.iload_n 2, 1) := by decide +kernel
theorem dX5_open_40 : decode cX5_open 40 = .ok (.iconst 1, 1) := by decide +kernel
theorem dX5_open_41 : decode cX5_open 41 = .ok (.invokevirtual 159, 3) := by decide +kernel
theorem dX5_open_44 : decode cX5_open 44 = .ok (.ireturn, 1) := by decide +kernel
theorem dX5_set_0 : decode cX5_set 0 = .ok (.iload_n 1, 1) := by decide +kernel
theorem dX5_set_1 : decode cX5_set 1 = .ok (.ifCond .lt 8, 3) := by decide +kernel
theorem dX5_set_4 : decode cX5_set 4 = .ok (.iload_n 1, 1) := by decide +kernel
theorem dX5_set_5 : decode cX5_set 5 = .ok (.iconst 5, 1) := by decide +kernel
theorem dX5_set_6 : decode cX5_set 6 = .ok (.if_icmp .le 10, 3) := by decide +kernel
theorem dX5_set_9 : decode cX5_set 9 = .ok (.aload_n 0, 1) := by decide +kernel
theorem dX5_set_10 : decode cX5_set 10 = .ok (.bipush (-2), 2) := by decide +kernel
theorem dX5_set_12 : decode cX5_set 12 = .ok (.invokevirtual 64, 3) := by decide +kernel
theorem dX5_set_15 : decode cX5_set 15 = .ok (.ireturn, 1) := by decide +kernel
theorem dX5_set_16 : decode cX5_set 16 = .ok (.aload_n 0, 1) := by decide +kernel
theorem dX5_set_17 : decode cX5_set 17 = .ok (.iconst 2, 1) := by decide +kernel
theorem dX5_set_18 : decode cX5_set 18 = .ok (.iload_n 1, 1) := by decide +kernel
theorem dX5_set_19 : decode cX5_set 19 = .ok (.iadd, 1) := by decide +kernel
theorem dX5_set_20 : decode cX5_set 20 = .ok (.iload_n 2, 1) := by decide +kernel
theorem dX5_set_21 : decode cX5_set 21 = .ok (.iload_n 1, 1) := by decide +kernel
theorem dX5_set_22 : decode cX5_set 22 = .ok (.ifCond .ne 8, 3) := by decide +kernel
theorem dX5_set_25 : decode cX5_set 25 = .ok (.bipush 30, 2) := by decide +kernel
theorem dX5_set_27 : decode cX5_set 27 = .ok (.goto 14, 3) := by decide +kernel
theorem dX5_set_30 : decode cX5_set 30 = .ok (.iload_n 1, 1) := by decide +kernel
theorem dX5_set_31 : decode cX5_set 31 = .ok (.iconst 5, 1) := by decide +kernel
theorem dX5_set_32 : decode cX5_set 32 = .ok (.if_icmp .ne 7, 3) := by decide +kernel
theorem dX5_set_35 : decode cX5_set 35 = .ok (.iconst 5, 1) := by decide +kernel
theorem dX5_set_36 : decode cX5_set 36 = .ok (.goto 5, 3) := by decide +kernel
theorem dX5_set_39 : decode cX5_set 39 = .ok (.bipush 9, 2) := by decide +kernel
theorem dX5_set_41 : decode cX5_set 41 = .ok (.invokevirtual 159, 3) := by decide +kernel
theorem dX5_set_44 : decode cX5_set 44 = .ok (.ireturn, 1) := by decide +kernel
theorem dX5_worth_0 : decode cX5_worth 0 = .ok (.aload_n 0, 1) := by decide +kernel
theorem dX5_worth_1 : decode cX5_worth 1 = .ok (.iload_n 1, 1) := by decide +kernel
theorem dX5_worth_2 : decode cX5_worth 2 = .ok (.invokevirtual 152, 3) := by decide +kernel
theorem dX5_worth_5 : decode cX5_worth 5 = .ok (.ifCond .ne 10, 3) := by decide +kernel
theorem dX5_worth_8 : decode cX5_worth 8 = .ok (.iload_n 2, 1) := by decide +kernel
theorem dX5_worth_9 : decode cX5_worth 9 = .ok (.invokestatic 156, 3) := by decide +kernel
theorem dX5_worth_12 : decode cX5_worth 12 = .ok (.ifCond .eq 9, 3) := by decide +kernel
theorem dX5_worth_15 : decode cX5_worth 15 = .ok (.aload_n 0, 1) := by decide +kernel
theorem dX5_worth_16 : decode cX5_worth 16 = .ok (.iconst (-1), 1) := by decide +kernel
theorem dX5_worth_17 : decode cX5_worth 17 = .ok (.invokevirtual 64, 3) := by decide +kernel
theorem dX5_worth_20 : decode cX5_worth 20 = .ok (.ireturn, 1) := by decide +kernel
theorem dX5_worth_21 : decode cX5_worth 21 = .ok (.aload_n 0, 1) := by decide +kernel
theorem dX5_worth_22 : decode cX5_worth 22 = .ok (.getfield 13, 3) := by decide +kernel
theorem dX5_worth_25 : decode cX5_worth 25 = .ok (.iload_n 1, 1) := by decide +kernel
theorem dX5_worth_26 : decode cX5_worth 26 = .ok (.iload_n 2, 1) := by decide +kernel
theorem dX5_worth_27 : decode cX5_worth 27 = .ok (.invokestatic 74, 3) := by decide +kernel
theorem dX5_worth_30 : decode cX5_worth 30 = .ok (.istore_n 3, 1) := by decide +kernel
theorem dX5_worth_31 : decode cX5_worth 31 = .ok (.iload_n 3, 1) := by decide +kernel
theorem dX5_worth_32 : decode cX5_worth 32 = .ok (.ifCond .ge 8, 3) := by decide +kernel
theorem dX5_worth_35 : decode cX5_worth 35 = .ok (.bipush (-9), 2) := by decide +kernel
theorem dX5_worth_37 : decode cX5_worth 37 = .ok (.goto 4, 3) := by decide +kernel
theorem dX5_worth_40 : decode cX5_worth 40 = .ok (.iload_n 3, 1) := by decide +kernel
theorem dX5_worth_41 : decode cX5_worth 41 = .ok (.ireturn, 1) := by decide +kernel
theorem dX5_dayOn_0 : decode cX5_dayOn 0 = .ok (.aload_n 0, 1) := by decide +kernel
theorem dX5_dayOn_1 : decode cX5_dayOn 1 = .ok (.getfield 13, 3) := by decide +kernel
theorem dX5_dayOn_4 : decode cX5_dayOn 4 = .ok (.iconst 1, 1) := by decide +kernel
theorem dX5_dayOn_5 : decode cX5_dayOn 5 = .ok (.iaload, 1) := by decide +kernel
theorem dX5_dayOn_6 : decode cX5_dayOn 6 = .ok (.sipush 9999, 3) := by decide +kernel
theorem dX5_dayOn_9 : decode cX5_dayOn 9 = .ok (.if_icmp .ne 13, 3) := by decide +kernel
theorem dX5_dayOn_12 : decode cX5_dayOn 12 = .ok (.ldc 163, 2) := by decide +kernel
theorem dX5_dayOn_14 : decode cX5_dayOn 14 = .ok (.aload_n 0, 1) := by decide +kernel
theorem dX5_dayOn_15 : decode cX5_dayOn 15 = .ok (.bipush (-6), 2) := by decide +kernel
theorem dX5_dayOn_17 : decode cX5_dayOn 17 = .ok (.invokevirtual 64, 3) := by decide +kernel
theorem dX5_dayOn_20 : decode cX5_dayOn 20 = .ok (.isub, 1) := by decide +kernel
theorem dX5_dayOn_21 : decode cX5_dayOn 21 = .ok (.ireturn, 1) := by decide +kernel
theorem dX5_dayOn_22 : decode cX5_dayOn 22 = .ok (.aload_n 0, 1) := by decide +kernel
theorem dX5_dayOn_23 : decode cX5_dayOn 23 = .ok (.aload_n 0, 1) := by decide +kernel
theorem dX5_dayOn_24 : decode cX5_dayOn 24 = .ok (.getfield 13, 3) := by decide +kernel
theorem dX5_dayOn_27 : decode cX5_dayOn 27 = .ok (.invokevirtual 107, 3) := by decide +kernel
theorem dX5_dayOn_30 : decode cX5_dayOn 30 = .ok (.aload_n 0, 1) := by decide +kernel
theorem dX5_dayOn_31 : decode cX5_dayOn 31 = .ok (.aload_n 0, 1) := by decide +kernel
theorem dX5_dayOn_32 : decode cX5_dayOn 32 = .ok (.getfield 13, 3) := by decide +kernel
theorem dX5_dayOn_35 : decode cX5_dayOn 35 = .ok (.iconst 0, 1) := by decide +kernel
theorem dX5_dayOn_36 : decode cX5_dayOn 36 = .ok (.invokevirtual 111, 3) := by decide +kernel
theorem dX5_dayOn_39 : decode cX5_dayOn 39 = .ok (.aload_n 0, 1) := by decide +kernel
theorem dX5_dayOn_40 : decode cX5_dayOn 40 = .ok (.getfield 85, 3) := by decide +kernel
theorem dX5_dayOn_43 : decode cX5_dayOn 43 = .ok (.ireturn, 1) := by decide +kernel
theorem dX5_isWrong_0 : decode cX5_isWrong 0 = .ok (.iload_n 1, 1) := by decide +kernel
theorem dX5_isWrong_1 : decode cX5_isWrong 1 = .ok (.ifCond .ge 8, 3) := by decide +kernel
theorem dX5_isWrong_4 : decode cX5_isWrong 4 = .ok (.bipush (-4), 2) := by decide +kernel
theorem dX5_isWrong_6 : decode cX5_isWrong 6 = .ok (.goto 15, 3) := by decide +kernel
theorem dX5_isWrong_9 : decode cX5_isWrong 9 = .ok (.iload_n 1, 1) := by decide +kernel
theorem dX5_isWrong_10 : decode cX5_isWrong 10 = .ok (.bipush 28, 2) := by decide +kernel
theorem dX5_isWrong_12 : decode cX5_isWrong 12 = .ok (.if_icmp .le 8, 3) := by decide +kernel
theorem dX5_isWrong_15 : decode cX5_isWrong 15 = .ok (.bipush (-6), 2) := by decide +kernel
theorem dX5_isWrong_17 : decode cX5_isWrong 17 = .ok (.goto 4, 3) := by decide +kernel
theorem dX5_isWrong_20 : decode cX5_isWrong 20 = .ok (.iconst 0, 1) := by decide +kernel
theorem dX5_isWrong_21 : decode cX5_isWrong 21 = .ok (.ireturn, 1) := by decide +kernel
theorem dX5_total_0 : decode cX5_total 0 = .ok (.aload_n 0, 1) := by decide +kernel
theorem dX5_total_1 : decode cX5_total 1 = .ok (.iload_n 1, 1) := by decide +kernel
theorem dX5_total_2 : decode cX5_total 2 = .ok (.invokevirtual 164, 3) := by decide +kernel
theorem dX5_total_5 : decode cX5_total 5 = .ok (.ifCond .ge 16, 3) := by decide +kernel
theorem dX5_total_8 : decode cX5_total 8 = .ok (.ldc 163, 2) := by decide +kernel
theorem dX5_total_10 : decode cX5_total 10 = .ok (.aload_n 0, 1) := by decide +kernel
theorem dX5_total_11 : decode cX5_total 11 = .ok (.aload_n 0, 1) := by decide +kernel
theorem dX5_total_12 : decode cX5_total 12 = .ok (.iload_n 1, 1) := by decide +kernel
theorem dX5_total_13 : decode cX5_total 13 = .ok (.invokevirtual 164, 3) := by decide +kernel
theorem dX5_total_16 : decode cX5_total 16 = .ok (.invokevirtual 64, 3) := by decide +kernel
theorem dX5_total_19 : decode cX5_total 19 = .ok (.isub, 1) := by decide +kernel
theorem dX5_total_20 : decode cX5_total 20 = .ok (.ireturn, 1) := by decide +kernel
theorem dX5_total_21 : decode cX5_total 21 = .ok (.iload_n 2, 1) := by decide +kernel
theorem dX5_total_22 : decode cX5_total 22 = .ok (.ifCond .lt 8, 3) := by decide +kernel
theorem dX5_total_25 : decode cX5_total 25 = .ok (.iload_n 2, 1) := by decide +kernel
theorem dX5_total_26 : decode cX5_total 26 = .ok (.iconst 5, 1) := by decide +kernel
theorem dX5_total_27 : decode cX5_total 27 = .ok (.if_icmp .le 13, 3) := by decide +kernel
theorem dX5_total_30 : decode cX5_total 30 = .ok (.ldc 163, 2) := by decide +kernel
theorem dX5_total_32 : decode cX5_total 32 = .ok (.aload_n 0, 1) := by decide +kernel
theorem dX5_total_33 : decode cX5_total 33 = .ok (.bipush (-2), 2) := by decide +kernel
theorem dX5_total_35 : decode cX5_total 35 = .ok (.invokevirtual 64, 3) := by decide +kernel
theorem dX5_total_38 : decode cX5_total 38 = .ok (.isub, 1) := by decide +kernel
theorem dX5_total_39 : decode cX5_total 39 = .ok (.ireturn, 1) := by decide +kernel
theorem dX5_total_40 : decode cX5_total 40 = .ok (.aload_n 0, 1) := by decide +kernel
theorem dX5_total_41 : decode cX5_total 41 = .ok (.getfield 13, 3) := by decide +kernel
theorem dX5_total_44 : decode cX5_total 44 = .ok (.aload_n 0, 1) := by decide +kernel
theorem dX5_total_45 : decode cX5_total 45 = .ok (.getfield 16, 3) := by decide +kernel
theorem dX5_total_48 : decode cX5_total 48 = .ok (.invokestatic 60, 3) := by decide +kernel
theorem dX5_total_51 : decode cX5_total 51 = .ok (.aload_n 0, 1) := by decide +kernel
theorem dX5_total_52 : decode cX5_total 52 = .ok (.iload_n 1, 1) := by decide +kernel
theorem dX5_total_53 : decode cX5_total 53 = .ok (.iconst 0, 1) := by decide +kernel
theorem dX5_total_54 : decode cX5_total 54 = .ok (.invokevirtual 115, 3) := by decide +kernel
theorem dX5_total_57 : decode cX5_total 57 = .ok (.aload_n 0, 1) := by decide +kernel
theorem dX5_total_58 : decode cX5_total 58 = .ok (.getfield 28, 3) := by decide +kernel
theorem dX5_total_61 : decode cX5_total 61 = .ok (.iload_n 2, 1) := by decide +kernel
theorem dX5_total_62 : decode cX5_total 62 = .ok (.iaload, 1) := by decide +kernel
theorem dX5_total_63 : decode cX5_total 63 = .ok (.ireturn, 1) := by decide +kernel
theorem dX5_left_0 : decode cX5_left 0 = .ok (.aload_n 0, 1) := by decide +kernel
theorem dX5_left_1 : decode cX5_left 1 = .ok (.iload_n 1, 1) := by decide +kernel
theorem dX5_left_2 : decode cX5_left 2 = .ok (.invokevirtual 164, 3) := by decide +kernel
theorem dX5_left_5 : decode cX5_left 5 = .ok (.ifCond .ge 13, 3) := by decide +kernel
theorem dX5_left_8 : decode cX5_left 8 = .ok (.aload_n 0, 1) := by decide +kernel
theorem dX5_left_9 : decode cX5_left 9 = .ok (.aload_n 0, 1) := by decide +kernel
theorem dX5_left_10 : decode cX5_left 10 = .ok (.iload_n 1, 1) := by decide +kernel
theorem dX5_left_11 : decode cX5_left 11 = .ok (.invokevirtual 164, 3) := by decide +kernel
theorem dX5_left_14 : decode cX5_left 14 = .ok (.invokevirtual 64, 3) := by decide +kernel
theorem dX5_left_17 : decode cX5_left 17 = .ok (.ireturn, 1) := by decide +kernel
theorem dX5_left_18 : decode cX5_left 18 = .ok (.iload_n 2, 1) := by decide +kernel
theorem dX5_left_19 : decode cX5_left 19 = .ok (.invokestatic 156, 3) := by decide +kernel
theorem dX5_left_22 : decode cX5_left 22 = .ok (.ifCond .eq 9, 3) := by decide +kernel
theorem dX5_left_25 : decode cX5_left 25 = .ok (.aload_n 0, 1) := by decide +kernel
theorem dX5_left_26 : decode cX5_left 26 = .ok (.iconst (-1), 1) := by decide +kernel
theorem dX5_left_27 : decode cX5_left 27 = .ok (.invokevirtual 64, 3) := by decide +kernel
theorem dX5_left_30 : decode cX5_left 30 = .ok (.ireturn, 1) := by decide +kernel
theorem dX5_left_31 : decode cX5_left 31 = .ok (.aload_n 0, 1) := by decide +kernel
theorem dX5_left_32 : decode cX5_left 32 = .ok (.getfield 13, 3) := by decide +kernel
theorem dX5_left_35 : decode cX5_left 35 = .ok (.aload_n 0, 1) := by decide +kernel
theorem dX5_left_36 : decode cX5_left 36 = .ok (.getfield 16, 3) := by decide +kernel
theorem dX5_left_39 : decode cX5_left 39 = .ok (.invokestatic 60, 3) := by decide +kernel
theorem dX5_left_42 : decode cX5_left 42 = .ok (.aload_n 0, 1) := by decide +kernel
theorem dX5_left_43 : decode cX5_left 43 = .ok (.iload_n 1, 1) := by decide +kernel
theorem dX5_left_44 : decode cX5_left 44 = .ok (.iconst 0, 1) := by decide +kernel
theorem dX5_left_45 : decode cX5_left 45 = .ok (.invokevirtual 115, 3) := by decide +kernel
theorem dX5_left_48 : decode cX5_left 48 = .ok (.aload_n 0, 1) := by decide +kernel
theorem dX5_left_49 : decode cX5_left 49 = .ok (.getfield 16, 3) := by decide +kernel
theorem dX5_left_52 : decode cX5_left 52 = .ok (.bipush 10, 2) := by decide +kernel
theorem dX5_left_54 : decode cX5_left 54 = .ok (.iload_n 2, 1) := by decide +kernel
theorem dX5_left_55 : decode cX5_left 55 = .ok (.iadd, 1) := by decide +kernel
theorem dX5_left_56 : decode cX5_left 56 = .ok (.iaload, 1) := by decide +kernel
theorem dX5_left_57 : decode cX5_left 57 = .ok (.ireturn, 1) := by decide +kernel
theorem dX5_never_0 : decode cX5_never 0 = .ok (.aload_n 0, 1) := by decide +kernel
theorem dX5_never_1 : decode cX5_never 1 = .ok (.getfield 13, 3) := by decide +kernel
theorem dX5_never_4 : decode cX5_never 4 = .ok (.aload_n 0, 1) := by decide +kernel
theorem dX5_never_5 : decode cX5_never 5 = .ok (.getfield 16, 3) := by decide +kernel
theorem dX5_never_8 : decode cX5_never 8 = .ok (.invokestatic 60, 3) := by decide +kernel
theorem dX5_never_11 : decode cX5_never 11 = .ok (.aload_n 0, 1) := by decide +kernel
theorem dX5_never_12 : decode cX5_never 12 = .ok (.aload_n 0, 1) := by decide +kernel
theorem dX5_never_13 : decode cX5_never 13 = .ok (.getfield 16, 3) := by decide +kernel
theorem dX5_never_16 : decode cX5_never 16 = .ok (.invokevirtual 107, 3) := by decide +kernel
theorem dX5_never_19 : decode cX5_never 19 = .ok (.iconst 0, 1) := by decide +kernel
theorem dX5_never_20 : decode cX5_never 20 = .ok (.istore_n 1, 1) := by decide +kernel
theorem dX5_never_21 : decode cX5_never 21 = .ok (.iload_n 1, 1) := by decide +kernel
theorem dX5_never_22 : decode cX5_never 22 = .ok (.bipush 28, 2) := by decide +kernel
theorem dX5_never_24 : decode cX5_never 24 = .ok (.if_icmp .ge 27, 3) := by decide +kernel
theorem dX5_never_27 : decode cX5_never 27 = .ok (.aload_n 0, 1) := by decide +kernel
theorem dX5_never_28 : decode cX5_never 28 = .ok (.aload_n 0, 1) := by decide +kernel
theorem dX5_never_29 : decode cX5_never 29 = .ok (.getfield 16, 3) := by decide +kernel
theorem dX5_never_32 : decode cX5_never 32 = .ok (.iconst 0, 1) := by decide +kernel
theorem dX5_never_33 : decode cX5_never 33 = .ok (.invokevirtual 111, 3) := by decide +kernel
theorem dX5_never_36 : decode cX5_never 36 = .ok (.aload_n 0, 1) := by decide +kernel
theorem dX5_never_37 : decode cX5_never 37 = .ok (.getfield 88, 3) := by decide +kernel
theorem dX5_never_40 : decode cX5_never 40 = .ok (.ifCond .le 5, 3) := by decide +kernel
theorem dX5_never_43 : decode cX5_never 43 = .ok (.iload_n 1, 1) := by decide +kernel
theorem dX5_never_44 : decode cX5_never 44 = .ok (.ireturn, 1) := by decide +kernel
theorem dX5_never_45 : decode cX5_never 45 = .ok (.iinc 1 1, 3) := by decide +kernel
theorem dX5_never_48 : decode cX5_never 48 = .ok (.goto (-27), 3) := by decide +kernel
theorem dX5_never_51 : decode cX5_never 51 = .ok (.bipush 28, 2) := by decide +kernel
theorem dX5_never_53 : decode cX5_never 53 = .ok (.ireturn, 1) := by decide +kernel
theorem dX5_slices_0 : decode cX5_slices 0 = .ok (.iconst 0, 1) := by decide +kernel
theorem dX5_slices_1 : decode cX5_slices 1 = .ok (.istore_n 1, 1) := by decide +kernel
theorem dX5_slices_2 : decode cX5_slices 2 = .ok (.iconst 0, 1) := by decide +kernel
theorem dX5_slices_3 : decode cX5_slices 3 = .ok (.istore_n 2, 1) := by decide +kernel
theorem dX5_slices_4 : decode cX5_slices 4 = .ok (.iload_n 2, 1) := by decide +kernel
theorem dX5_slices_5 : decode cX5_slices 5 = .ok (.iconst 5, 1) := by decide +kernel
theorem dX5_slices_6 : decode cX5_slices 6 = .ok (.if_icmp .ge 18, 3) := by decide +kernel
theorem dX5_slices_9 : decode cX5_slices 9 = .ok (.iload_n 1, 1) := by decide +kernel
theorem dX5_slices_10 : decode cX5_slices 10 = .ok (.aload_n 0, 1) := by decide +kernel
theorem dX5_slices_11 : decode cX5_slices 11 = .ok (.bipush 10, 2) := by decide +kernel
theorem dX5_slices_13 : decode cX5_slices 13 = .ok (.iload_n 2, 1) := by decide +kernel
theorem dX5_slices_14 : decode cX5_slices 14 = .ok (.iadd, 1) := by decide +kernel
theorem dX5_slices_15 : decode cX5_slices 15 = .ok (.iaload, 1) := by decide +kernel
theorem dX5_slices_16 : decode cX5_slices 16 = .ok (.iadd, 1) := by decide +kernel
theorem dX5_slices_17 : decode cX5_slices 17 = .ok (.istore_n 1, 1) := by decide +kernel
theorem dX5_slices_18 : decode cX5_slices 18 = .ok (.iinc 2 1, 3) := by decide +kernel
theorem dX5_slices_21 : decode cX5_slices 21 = .ok (.goto (-17), 3) := by decide +kernel
theorem dX5_slices_24 : decode cX5_slices 24 = .ok (.iload_n 1, 1) := by decide +kernel
theorem dX5_slices_25 : decode cX5_slices 25 = .ok (.ireturn, 1) := by decide +kernel
theorem dX5_out_0 : decode cX5_out 0 = .ok (.aload_n 0, 1) := by decide +kernel
theorem dX5_out_1 : decode cX5_out 1 = .ok (.iload_n 1, 1) := by decide +kernel
theorem dX5_out_2 : decode cX5_out 2 = .ok (.invokevirtual 164, 3) := by decide +kernel
theorem dX5_out_5 : decode cX5_out 5 = .ok (.ifCond .ge 13, 3) := by decide +kernel
theorem dX5_out_8 : decode cX5_out 8 = .ok (.aload_n 0, 1) := by decide +kernel
theorem dX5_out_9 : decode cX5_out 9 = .ok (.aload_n 0, 1) := by decide +kernel
theorem dX5_out_10 : decode cX5_out 10 = .ok (.iload_n 1, 1) := by decide +kernel
theorem dX5_out_11 : decode cX5_out 11 = .ok (.invokevirtual 164, 3) := by decide +kernel
theorem dX5_out_14 : decode cX5_out 14 = .ok (.invokevirtual 64, 3) := by decide +kernel
theorem dX5_out_17 : decode cX5_out 17 = .ok (.ireturn, 1) := by decide +kernel
theorem dX5_out_18 : decode cX5_out 18 = .ok (.iconst 0, 1) := by decide +kernel
theorem dX5_out_19 : decode cX5_out 19 = .ok (.istore_n 2, 1) := by decide +kernel
theorem dX5_out_20 : decode cX5_out 20 = .ok (.iconst 0, 1) := by decide +kernel
theorem dX5_out_21 : decode cX5_out 21 = .ok (.istore_n 3, 1) := by decide +kernel
theorem dX5_out_22 : decode cX5_out 22 = .ok (.iconst 0, 1) := by decide +kernel
theorem dX5_out_23 : decode cX5_out 23 = .ok (.istore 4, 2) := by decide +kernel
theorem dX5_out_25 : decode cX5_out 25 = .ok (.iload 4, 2) := by decide +kernel
theorem dX5_out_27 : decode cX5_out 27 = .ok (.bipush 20, 2) := by decide +kernel
theorem dX5_out_29 : decode cX5_out 29 = .ok (.aload_n 0, 1) := by decide +kernel
theorem dX5_out_30 : decode cX5_out 30 = .ok (.getfield 13, 3) := by decide +kernel
theorem dX5_out_33 : decode cX5_out 33 = .ok (.invokestatic 167, 3) := by decide +kernel
theorem dX5_out_36 : decode cX5_out 36 = .ok (.invokestatic 78, 3) := by decide +kernel
theorem dX5_out_39 : decode cX5_out 39 = .ok (.if_icmp .gt 106, 3) := by decide +kernel
theorem dX5_out_42 : decode cX5_out 42 = .ok (.aload_n 0, 1) := by decide +kernel
theorem dX5_out_43 : decode cX5_out 43 = .ok (.getfield 13, 3) := by decide +kernel
theorem dX5_out_46 : decode cX5_out 46 = .ok (.aload_n 0, 1) := by decide +kernel
theorem dX5_out_47 : decode cX5_out 47 = .ok (.getfield 16, 3) := by decide +kernel
theorem dX5_out_50 : decode cX5_out 50 = .ok (.invokestatic 60, 3) := by decide +kernel
theorem dX5_out_53 : decode cX5_out 53 = .ok (.iconst 0, 1) := by decide +kernel
theorem dX5_out_54 : decode cX5_out 54 = .ok (.istore 5, 2) := by decide +kernel
theorem dX5_out_56 : decode cX5_out 56 = .ok (.iload 5, 2) := by decide +kernel
theorem dX5_out_58 : decode cX5_out 58 = .ok (.iload 4, 2) := by decide +kernel
theorem dX5_out_60 : decode cX5_out 60 = .ok (.if_icmp .ge 45, 3) := by decide +kernel
theorem dX5_out_63 : decode cX5_out 63 = .ok (.iconst 4, 1) := by decide +kernel
theorem dX5_out_64 : decode cX5_out 64 = .ok (.istore 6, 2) := by decide +kernel
theorem dX5_out_66 : decode cX5_out 66 = .ok (.aload_n 0, 1) := by decide +kernel
theorem dX5_out_67 : decode cX5_out 67 = .ok (.getfield 16, 3) := by decide +kernel
theorem dX5_out_70 : decode cX5_out 70 = .ok (.bipush 10, 2) := by decide +kernel
theorem dX5_out_72 : decode cX5_out 72 = .ok (.iload 6, 2) := by decide +kernel
theorem dX5_out_74 : decode cX5_out 74 = .ok (.iadd, 1) := by decide +kernel
theorem dX5_out_75 : decode cX5_out 75 = .ok (.iaload, 1) := by decide +kernel
theorem dX5_out_76 : decode cX5_out 76 = .ok (.ifCond .ne 9, 3) := by decide +kernel
theorem dX5_out_79 : decode cX5_out 79 = .ok (.iinc 6 (-1), 3) := by decide +kernel
theorem dX5_out_82 : decode cX5_out 82 = .ok (.goto (-16), 3) := by decide +kernel
theorem dX5_out_85 : decode cX5_out 85 = .ok (.aload_n 0, 1) := by decide +kernel
theorem dX5_out_86 : decode cX5_out 86 = .ok (.getfield 16, 3) := by decide +kernel
theorem dX5_out_89 : decode cX5_out 89 = .ok (.bipush 10, 2) := by decide +kernel
theorem dX5_out_91 : decode cX5_out 91 = .ok (.iload 6, 2) := by decide +kernel
theorem dX5_out_93 : decode cX5_out 93 = .ok (.iadd, 1) := by decide +kernel
theorem dX5_out_94 : decode cX5_out 94 = .ok (.dup2, 1) := by decide +kernel
theorem dX5_out_95 : decode cX5_out 95 = .ok (.iaload, 1) := by decide +kernel
theorem dX5_out_96 : decode cX5_out 96 = .ok (.iconst 1, 1) := by decide +kernel
theorem dX5_out_97 : decode cX5_out 97 = .ok (.isub, 1) := by decide +kernel
theorem dX5_out_98 : decode cX5_out 98 = .ok (.iastore, 1) := by decide +kernel
theorem dX5_out_99 : decode cX5_out 99 = .ok (.iinc 5 1, 3) := by decide +kernel
theorem dX5_out_102 : decode cX5_out 102 = .ok (.goto (-46), 3) := by decide +kernel
theorem dX5_out_105 : decode cX5_out 105 = .ok (.aload_n 0, 1) := by decide +kernel
theorem dX5_out_106 : decode cX5_out 106 = .ok (.iload_n 1, 1) := by decide +kernel
theorem dX5_out_107 : decode cX5_out 107 = .ok (.invokevirtual 171, 3) := by decide +kernel
theorem dX5_out_110 : decode cX5_out 110 = .ok (.iload 4, 2) := by decide +kernel
theorem dX5_out_112 : decode cX5_out 112 = .ok (.aload_n 0, 1) := by decide +kernel
theorem dX5_out_113 : decode cX5_out 113 = .ok (.getfield 13, 3) := by decide +kernel
theorem dX5_out_116 : decode cX5_out 116 = .ok (.iconst 5, 1) := by decide +kernel
theorem dX5_out_117 : decode cX5_out 117 = .ok (.iaload, 1) := by decide +kernel
theorem dX5_out_118 : decode cX5_out 118 = .ok (.imul, 1) := by decide +kernel
theorem dX5_out_119 : decode cX5_out 119 = .ok (.isub, 1) := by decide +kernel
theorem dX5_out_120 : decode cX5_out 120 = .ok (.istore 5, 2) := by decide +kernel
theorem dX5_out_122 : decode cX5_out 122 = .ok (.iload 4, 2) := by decide +kernel
theorem dX5_out_124 : decode cX5_out 124 = .ok (.ifCond .eq 9, 3) := by decide +kernel
theorem dX5_out_127 : decode cX5_out 127 = .ok (.iload 5, 2) := by decide +kernel
theorem dX5_out_129 : decode cX5_out 129 = .ok (.iload_n 3, 1) := by decide +kernel
theorem dX5_out_130 : decode cX5_out 130 = .ok (.if_icmp .le 9, 3) := by decide +kernel
theorem dX5_out_133 : decode cX5_out 133 = .ok (.iload 5, 2) := by decide +kernel
theorem dX5_out_135 : decode cX5_out 135 = .ok (.istore_n 3, 1) := by decide +kernel
theorem dX5_out_136 : decode cX5_out 136 = .ok (.iload 4, 2) := by decide +kernel
theorem dX5_out_138 : decode cX5_out 138 = .ok (.istore_n 2, 1) := by decide +kernel
theorem dX5_out_139 : decode cX5_out 139 = .ok (.iinc 4 1, 3) := by decide +kernel
theorem dX5_out_142 : decode cX5_out 142 = .ok (.goto (-117), 3) := by decide +kernel
theorem dX5_out_145 : decode cX5_out 145 = .ok (.iload_n 2, 1) := by decide +kernel
theorem dX5_out_146 : decode cX5_out 146 = .ok (.ireturn, 1) := by decide +kernel
theorem dX5_less_0 : decode cX5_less 0 = .ok (.aload_n 0, 1) := by decide +kernel
theorem dX5_less_1 : decode cX5_less 1 = .ok (.iload_n 1, 1) := by decide +kernel
theorem dX5_less_2 : decode cX5_less 2 = .ok (.invokevirtual 164, 3) := by decide +kernel
theorem dX5_less_5 : decode cX5_less 5 = .ok (.ifCond .ge 13, 3) := by decide +kernel
theorem dX5_less_8 : decode cX5_less 8 = .ok (.aload_n 0, 1) := by decide +kernel
theorem dX5_less_9 : decode cX5_less 9 = .ok (.aload_n 0, 1) := by decide +kernel
theorem dX5_less_10 : decode cX5_less 10 = .ok (.iload_n 1, 1) := by decide +kernel
theorem dX5_less_11 : decode cX5_less 11 = .ok (.invokevirtual 164, 3) := by decide +kernel
theorem dX5_less_14 : decode cX5_less 14 = .ok (.invokevirtual 64, 3) := by decide +kernel
theorem dX5_less_17 : decode cX5_less 17 = .ok (.ireturn, 1) := by decide +kernel
theorem dX5_less_18 : decode cX5_less 18 = .ok (.aload_n 0, 1) := by decide +kernel
theorem dX5_less_19 : decode cX5_less 19 = .ok (.invokevirtual 174, 3) := by decide +kernel
theorem dX5_less_22 : decode cX5_less 22 = .ok (.ifCond .ne 6, 3) := by decide +kernel
theorem dX5_less_25 : decode cX5_less 25 = .ok (.bipush (-9), 2) := by decide +kernel
theorem dX5_less_27 : decode cX5_less 27 = .ok (.ireturn, 1) := by decide +kernel
theorem dX5_less_28 : decode cX5_less 28 = .ok (.iconst 0, 1) := by decide +kernel
theorem dX5_less_29 : decode cX5_less 29 = .ok (.istore_n 2, 1) := by decide +kernel
theorem dX5_less_30 : decode cX5_less 30 = .ok (.iconst 0, 1) := by decide +kernel
theorem dX5_less_31 : decode cX5_less 31 = .ok (.istore_n 3, 1) := by decide +kernel
theorem dX5_less_32 : decode cX5_less 32 = .ok (.iconst 0, 1) := by decide +kernel
theorem dX5_less_33 : decode cX5_less 33 = .ok (.istore 4, 2) := by decide +kernel
theorem dX5_less_35 : decode cX5_less 35 = .ok (.iload 4, 2) := by decide +kernel
theorem dX5_less_37 : decode cX5_less 37 = .ok (.aload_n 0, 1) := by decide +kernel
theorem dX5_less_38 : decode cX5_less 38 = .ok (.getfield 13, 3) := by decide +kernel
theorem dX5_less_41 : decode cX5_less 41 = .ok (.iconst 2, 1) := by decide +kernel
theorem dX5_less_42 : decode cX5_less 42 = .ok (.iaload, 1) := by decide +kernel
theorem dX5_less_43 : decode cX5_less 43 = .ok (.if_icmp .gt 52, 3) := by decide +kernel
theorem dX5_less_46 : decode cX5_less 46 = .ok (.aload_n 0, 1) := by decide +kernel
theorem dX5_less_47 : decode cX5_less 47 = .ok (.getfield 13, 3) := by decide +kernel
theorem dX5_less_50 : decode cX5_less 50 = .ok (.aload_n 0, 1) := by decide +kernel
theorem dX5_less_51 : decode cX5_less 51 = .ok (.getfield 16, 3) := by decide +kernel
theorem dX5_less_54 : decode cX5_less 54 = .ok (.invokestatic 60, 3) := by decide +kernel
theorem dX5_less_57 : decode cX5_less 57 = .ok (.aload_n 0, 1) := by decide +kernel
theorem dX5_less_58 : decode cX5_less 58 = .ok (.iload_n 1, 1) := by decide +kernel
theorem dX5_less_59 : decode cX5_less 59 = .ok (.iload 4, 2) := by decide +kernel
theorem dX5_less_61 : decode cX5_less 61 = .ok (.invokevirtual 115, 3) := by decide +kernel
theorem dX5_less_64 : decode cX5_less 64 = .ok (.iload 4, 2) := by decide +kernel
theorem dX5_less_66 : decode cX5_less 66 = .ok (.ifCond .eq 13, 3) := by decide +kernel
theorem dX5_less_69 : decode cX5_less 69 = .ok (.aload_n 0, 1) := by decide +kernel
theorem dX5_less_70 : decode cX5_less 70 = .ok (.getfield 28, 3) := by decide +kernel
theorem dX5_less_73 : decode cX5_less 73 = .ok (.iconst 0, 1) := by decide +kernel
theorem dX5_less_74 : decode cX5_less 74 = .ok (.iaload, 1) := by decide +kernel
theorem dX5_less_75 : decode cX5_less 75 = .ok (.iload_n 3, 1) := by decide +kernel
theorem dX5_less_76 : decode cX5_less 76 = .ok (.if_icmp .le 13, 3) := by decide +kernel
theorem dX5_less_79 : decode cX5_less 79 = .ok (.aload_n 0, 1) := by decide +kernel
theorem dX5_less_80 : decode cX5_less 80 = .ok (.getfield 28, 3) := by decide +kernel
theorem dX5_less_83 : decode cX5_less 83 = .ok (.iconst 0, 1) := by decide +kernel
theorem dX5_less_84 : decode cX5_less 84 = .ok (.iaload, 1) := by decide +kernel
theorem dX5_less_85 : decode cX5_less 85 = .ok (.istore_n 3, 1) := by decide +kernel
theorem dX5_less_86 : decode cX5_less 86 = .ok (.iload 4, 2) := by decide +kernel
theorem dX5_less_88 : decode cX5_less 88 = .ok (.istore_n 2, 1) := by decide +kernel
theorem dX5_less_89 : decode cX5_less 89 = .ok (.iinc 4 1, 3) := by decide +kernel
theorem dX5_less_92 : decode cX5_less 92 = .ok (.goto (-57), 3) := by decide +kernel
theorem dX5_less_95 : decode cX5_less 95 = .ok (.iload_n 2, 1) := by decide +kernel
theorem dX5_less_96 : decode cX5_less 96 = .ok (.ireturn, 1) := by decide +kernel
theorem dX5_bestAt_0 : decode cX5_bestAt 0 = .ok (.iconst 0, 1) := by decide +kernel
theorem dX5_bestAt_1 : decode cX5_bestAt 1 = .ok (.istore 4, 2) := by decide +kernel
theorem dX5_bestAt_3 : decode cX5_bestAt 3 = .ok (.iconst 0, 1) := by decide +kernel
theorem dX5_bestAt_4 : decode cX5_bestAt 4 = .ok (.istore 5, 2) := by decide +kernel
theorem dX5_bestAt_6 : decode cX5_bestAt 6 = .ok (.iload 5, 2) := by decide +kernel
theorem dX5_bestAt_8 : decode cX5_bestAt 8 = .ok (.iload_n 2, 1) := by decide +kernel
theorem dX5_bestAt_9 : decode cX5_bestAt 9 = .ok (.if_icmp .gt 59, 3) := by decide +kernel
theorem dX5_bestAt_12 : decode cX5_bestAt 12 = .ok (.aload_n 0, 1) := by decide +kernel
theorem dX5_bestAt_13 : decode cX5_bestAt 13 = .ok (.getfield 13, 3) := by decide +kernel
theorem dX5_bestAt_16 : decode cX5_bestAt 16 = .ok (.aload_n 0, 1) := by decide +kernel
theorem dX5_bestAt_17 : decode cX5_bestAt 17 = .ok (.getfield 16, 3) := by decide +kernel
theorem dX5_bestAt_20 : decode cX5_bestAt 20 = .ok (.invokestatic 60, 3) := by decide +kernel
theorem dX5_bestAt_23 : decode cX5_bestAt 23 = .ok (.aload_n 0, 1) := by decide +kernel
theorem dX5_bestAt_24 : decode cX5_bestAt 24 = .ok (.getfield 16, 3) := by decide +kernel
theorem dX5_bestAt_27 : decode cX5_bestAt 27 = .ok (.iload_n 1, 1) := by decide +kernel
theorem dX5_bestAt_28 : decode cX5_bestAt 28 = .ok (.iload 5, 2) := by decide +kernel
theorem dX5_bestAt_30 : decode cX5_bestAt 30 = .ok (.iastore, 1) := by decide +kernel
theorem dX5_bestAt_31 : decode cX5_bestAt 31 = .ok (.aload_n 0, 1) := by decide +kernel
theorem dX5_bestAt_32 : decode cX5_bestAt 32 = .ok (.iload_n 3, 1) := by decide +kernel
theorem dX5_bestAt_33 : decode cX5_bestAt 33 = .ok (.invokevirtual 171, 3) := by decide +kernel
theorem dX5_bestAt_36 : decode cX5_bestAt 36 = .ok (.istore 6, 2) := by decide +kernel
theorem dX5_bestAt_38 : decode cX5_bestAt 38 = .ok (.iload 5, 2) := by decide +kernel
theorem dX5_bestAt_40 : decode cX5_bestAt 40 = .ok (.ifCond .eq 12, 3) := by decide +kernel
theorem dX5_bestAt_43 : decode cX5_bestAt 43 = .ok (.iload 6, 2) := by decide +kernel
theorem dX5_bestAt_45 : decode cX5_bestAt 45 = .ok (.aload_n 0, 1) := by decide +kernel
theorem dX5_bestAt_46 : decode cX5_bestAt 46 = .ok (.getfield 177, 3) := by decide +kernel
theorem dX5_bestAt_49 : decode cX5_bestAt 49 = .ok (.if_icmp .le 13, 3) := by decide +kernel
theorem dX5_bestAt_52 : decode cX5_bestAt 52 = .ok (.aload_n 0, 1) := by decide +kernel
theorem dX5_bestAt_53 : decode cX5_bestAt 53 = .ok (.iload 6, 2) := by decide +kernel
theorem dX5_bestAt_55 : decode cX5_bestAt 55 = .ok (.putfield 177, 3) := by decide +kernel
theorem dX5_bestAt_58 : decode cX5_bestAt 58 = .ok (.iload 5, 2) := by decide +kernel
theorem dX5_bestAt_60 : decode cX5_bestAt 60 = .ok (.istore 4, 2) := by decide +kernel
theorem dX5_bestAt_62 : decode cX5_bestAt 62 = .ok (.iinc 5 1, 3) := by decide +kernel
theorem dX5_bestAt_65 : decode cX5_bestAt 65 = .ok (.goto (-59), 3) := by decide +kernel
theorem dX5_bestAt_68 : decode cX5_bestAt 68 = .ok (.iload 4, 2) := by decide +kernel
theorem dX5_bestAt_70 : decode cX5_bestAt 70 = .ok (.ireturn, 1) := by decide +kernel
theorem dX5_best_0 : decode cX5_best 0 = .ok (.aload_n 0, 1) := by decide +kernel
theorem dX5_best_1 : decode cX5_best 1 = .ok (.iload_n 1, 1) := by decide +kernel
theorem dX5_best_2 : decode cX5_best 2 = .ok (.invokevirtual 164, 3) := by decide +kernel
theorem dX5_best_5 : decode cX5_best 5 = .ok (.ifCond .ge 15, 3) := by decide +kernel
theorem dX5_best_8 : decode cX5_best 8 = .ok (.aload_n 0, 1) := by decide +kernel
theorem dX5_best_9 : decode cX5_best 9 = .ok (.aload_n 0, 1) := by decide +kernel
theorem dX5_best_10 : decode cX5_best 10 = .ok (.iload_n 1, 1) := by decide +kernel
theorem dX5_best_11 : decode cX5_best 11 = .ok (.invokevirtual 164, 3) := by decide +kernel
theorem dX5_best_14 : decode cX5_best 14 = .ok (.invokevirtual 64, 3) := by decide +kernel
theorem dX5_best_17 : decode cX5_best 17 = .ok (.goto 11, 3) := by decide +kernel
theorem dX5_best_20 : decode cX5_best 20 = .ok (.aload_n 0, 1) := by decide +kernel
theorem dX5_best_21 : decode cX5_best 21 = .ok (.bipush 7, 2) := by decide +kernel
theorem dX5_best_23 : decode cX5_best 23 = .ok (.iconst 5, 1) := by decide +kernel
theorem dX5_best_24 : decode cX5_best 24 = .ok (.iload_n 1, 1) := by decide +kernel
theorem dX5_best_25 : decode cX5_best 25 = .ok (.invokevirtual 180, 3) := by decide +kernel
theorem dX5_best_28 : decode cX5_best 28 = .ok (.ireturn, 1) := by decide +kernel
theorem dX5_buying_0 : decode cX5_buying 0 = .ok (.aload_n 0, 1) := by decide +kernel
theorem dX5_buying_1 : decode cX5_buying 1 = .ok (.iload_n 1, 1) := by decide +kernel
theorem dX5_buying_2 : decode cX5_buying 2 = .ok (.invokevirtual 164, 3) := by decide +kernel
theorem dX5_buying_5 : decode cX5_buying 5 = .ok (.ifCond .ge 15, 3) := by decide +kernel
theorem dX5_buying_8 : decode cX5_buying 8 = .ok (.aload_n 0, 1) := by decide +kernel
theorem dX5_buying_9 : decode cX5_buying 9 = .ok (.aload_n 0, 1) := by decide +kernel
theorem dX5_buying_10 : decode cX5_buying 10 = .ok (.iload_n 1, 1) := by decide +kernel
theorem dX5_buying_11 : decode cX5_buying 11 = .ok (.invokevirtual 164, 3) := by decide +kernel
theorem dX5_buying_14 : decode cX5_buying 14 = .ok (.invokevirtual 64, 3) := by decide +kernel
theorem dX5_buying_17 : decode cX5_buying 17 = .ok (.goto 11, 3) := by decide +kernel
theorem dX5_buying_20 : decode cX5_buying 20 = .ok (.aload_n 0, 1) := by decide +kernel
theorem dX5_buying_21 : decode cX5_buying 21 = .ok (.iconst 2, 1) := by decide +kernel
theorem dX5_buying_22 : decode cX5_buying 22 = .ok (.bipush 30, 2) := by decide +kernel
theorem dX5_buying_24 : decode cX5_buying 24 = .ok (.iload_n 1, 1) := by decide +kernel
theorem dX5_buying_25 : decode cX5_buying 25 = .ok (.invokevirtual 180, 3) := by decide +kernel
theorem dX5_buying_28 : decode cX5_buying 28 = .ok (.ireturn, 1) := by decide +kernel
theorem dX5_half_0 : decode cX5_half 0 = .ok (.aload_n 0, 1) := by decide +kernel
theorem dX5_half_1 : decode cX5_half 1 = .ok (.iload_n 1, 1) := by decide +kernel
theorem dX5_half_2 : decode cX5_half 2 = .ok (.invokevirtual 164, 3) := by decide +kernel
theorem dX5_half_5 : decode cX5_half 5 = .ok (.ifCond .ge 15, 3) := by decide +kernel
theorem dX5_half_8 : decode cX5_half 8 = .ok (.aload_n 0, 1) := by decide +kernel
theorem dX5_half_9 : decode cX5_half 9 = .ok (.aload_n 0, 1) := by decide +kernel
theorem dX5_half_10 : decode cX5_half 10 = .ok (.iload_n 1, 1) := by decide +kernel
theorem dX5_half_11 : decode cX5_half 11 = .ok (.invokevirtual 164, 3) := by decide +kernel
theorem dX5_half_14 : decode cX5_half 14 = .ok (.invokevirtual 64, 3) := by decide +kernel
theorem dX5_half_17 : decode cX5_half 17 = .ok (.goto 11, 3) := by decide +kernel
theorem dX5_half_20 : decode cX5_half 20 = .ok (.aload_n 0, 1) := by decide +kernel
theorem dX5_half_21 : decode cX5_half 21 = .ok (.iconst 3, 1) := by decide +kernel
theorem dX5_half_22 : decode cX5_half 22 = .ok (.bipush 9, 2) := by decide +kernel
theorem dX5_half_24 : decode cX5_half 24 = .ok (.iload_n 1, 1) := by decide +kernel
theorem dX5_half_25 : decode cX5_half 25 = .ok (.invokevirtual 180, 3) := by decide +kernel
theorem dX5_half_28 : decode cX5_half 28 = .ok (.ireturn, 1) := by decide +kernel
theorem dX5_pays_0 : decode cX5_pays 0 = .ok (.aload_n 0, 1) := by decide +kernel
theorem dX5_pays_1 : decode cX5_pays 1 = .ok (.iload_n 1, 1) := by decide +kernel
theorem dX5_pays_2 : decode cX5_pays 2 = .ok (.invokevirtual 164, 3) := by decide +kernel
theorem dX5_pays_5 : decode cX5_pays 5 = .ok (.ifCond .ge 16, 3) := by decide +kernel
theorem dX5_pays_8 : decode cX5_pays 8 = .ok (.ldc 163, 2) := by decide +kernel
theorem dX5_pays_10 : decode cX5_pays 10 = .ok (.aload_n 0, 1) := by decide +kernel
theorem dX5_pays_11 : decode cX5_pays 11 = .ok (.aload_n 0, 1) := by decide +kernel
theorem dX5_pays_12 : decode cX5_pays 12 = .ok (.iload_n 1, 1) := by decide +kernel
theorem dX5_pays_13 : decode cX5_pays 13 = .ok (.invokevirtual 164, 3) := by decide +kernel
theorem dX5_pays_16 : decode cX5_pays 16 = .ok (.invokevirtual 64, 3) := by decide +kernel
theorem dX5_pays_19 : decode cX5_pays 19 = .ok (.isub, 1) := by decide +kernel
theorem dX5_pays_20 : decode cX5_pays 20 = .ok (.ireturn, 1) := by decide +kernel
theorem dX5_pays_21 : decode cX5_pays 21 = .ok (.aload_n 0, 1) := by decide +kernel
theorem dX5_pays_22 : decode cX5_pays 22 = .ok (.iconst 3, 1) := by decide +kernel
theorem dX5_pays_23 : decode cX5_pays 23 = .ok (.bipush 9, 2) := by decide +kernel
theorem dX5_pays_25 : decode cX5_pays 25 = .ok (.iload_n 1, 1) := by decide +kernel
theorem dX5_pays_26 : decode cX5_pays 26 = .ok (.invokevirtual 180, 3) := by decide +kernel
theorem dX5_pays_29 : decode cX5_pays 29 = .ok (.pop, 1) := by decide +kernel
theorem dX5_pays_30 : decode cX5_pays 30 = .ok (.aload_n 0, 1) := by decide +kernel
theorem dX5_pays_31 : decode cX5_pays 31 = .ok (.getfield 177, 3) := by decide +kernel
theorem dX5_pays_34 : decode cX5_pays 34 = .ok (.istore_n 2, 1) := by decide +kernel
theorem dX5_pays_35 : decode cX5_pays 35 = .ok (.aload_n 0, 1) := by decide +kernel
theorem dX5_pays_36 : decode cX5_pays 36 = .ok (.getfield 13, 3) := by decide +kernel
theorem dX5_pays_39 : decode cX5_pays 39 = .ok (.aload_n 0, 1) := by decide +kernel
theorem dX5_pays_40 : decode cX5_pays 40 = .ok (.getfield 16, 3) := by decide +kernel
theorem dX5_pays_43 : decode cX5_pays 43 = .ok (.invokestatic 60, 3) := by decide +kernel
theorem dX5_pays_46 : decode cX5_pays 46 = .ok (.aload_n 0, 1) := by decide +kernel
theorem dX5_pays_47 : decode cX5_pays 47 = .ok (.getfield 16, 3) := by decide +kernel
theorem dX5_pays_50 : decode cX5_pays 50 = .ok (.iconst 3, 1) := by decide +kernel
theorem dX5_pays_51 : decode cX5_pays 51 = .ok (.iconst 0, 1) := by decide +kernel
theorem dX5_pays_52 : decode cX5_pays 52 = .ok (.iastore, 1) := by decide +kernel
theorem dX5_pays_53 : decode cX5_pays 53 = .ok (.iload_n 2, 1) := by decide +kernel
theorem dX5_pays_54 : decode cX5_pays 54 = .ok (.aload_n 0, 1) := by decide +kernel
theorem dX5_pays_55 : decode cX5_pays 55 = .ok (.iload_n 1, 1) := by decide +kernel
theorem dX5_pays_56 : decode cX5_pays 56 = .ok (.invokevirtual 171, 3) := by decide +kernel
theorem dX5_pays_59 : decode cX5_pays 59 = .ok (.isub, 1) := by decide +kernel
theorem dX5_pays_60 : decode cX5_pays 60 = .ok (.ireturn, 1) := by decide +kernel
theorem dX5_close_0 : decode cX5_close 0 = .ok (.bipush (-9), 2) := by decide +kernel
theorem dX5_close_2 : decode cX5_close 2 = .ok (.istore_n 1, 1) := by decide +kernel
theorem dX5_close_3 : decode cX5_close 3 = .ok (.iconst 0, 1) := by decide +kernel
theorem dX5_close_4 : decode cX5_close 4 = .ok (.istore_n 2, 1) := by decide +kernel
theorem dX5_close_5 : decode cX5_close 5 = .ok (.iconst 0, 1) := by decide +kernel
theorem dX5_close_6 : decode cX5_close 6 = .ok (.istore_n 3, 1) := by decide +kernel
theorem dX5_close_7 : decode cX5_close 7 = .ok (.iload_n 3, 1) := by decide +kernel
theorem dX5_close_8 : decode cX5_close 8 = .ok (.bipush 7, 2) := by decide +kernel
theorem dX5_close_10 : decode cX5_close 10 = .ok (.if_icmp .ge 68, 3) := by decide +kernel
theorem dX5_close_13 : decode cX5_close 13 = .ok (.aload_n 0, 1) := by decide +kernel
theorem dX5_close_14 : decode cX5_close 14 = .ok (.getfield 13, 3) := by decide +kernel
theorem dX5_close_17 : decode cX5_close 17 = .ok (.bipush 20, 2) := by decide +kernel
theorem dX5_close_19 : decode cX5_close 19 = .ok (.iload_n 3, 1) := by decide +kernel
theorem dX5_close_20 : decode cX5_close 20 = .ok (.iadd, 1) := by decide +kernel
theorem dX5_close_21 : decode cX5_close 21 = .ok (.iaload, 1) := by decide +kernel
theorem dX5_close_22 : decode cX5_close 22 = .ok (.iconst 1, 1) := by decide +kernel
theorem dX5_close_23 : decode cX5_close 23 = .ok (.if_icmp .ne 49, 3) := by decide +kernel
theorem dX5_close_26 : decode cX5_close 26 = .ok (.aload_n 0, 1) := by decide +kernel
theorem dX5_close_27 : decode cX5_close 27 = .ok (.getfield 13, 3) := by decide +kernel
theorem dX5_close_30 : decode cX5_close 30 = .ok (.aload_n 0, 1) := by decide +kernel
theorem dX5_close_31 : decode cX5_close 31 = .ok (.getfield 16, 3) := by decide +kernel
theorem dX5_close_34 : decode cX5_close 34 = .ok (.invokestatic 60, 3) := by decide +kernel
theorem dX5_close_37 : decode cX5_close 37 = .ok (.aload_n 0, 1) := by decide +kernel
theorem dX5_close_38 : decode cX5_close 38 = .ok (.getfield 16, 3) := by decide +kernel
theorem dX5_close_41 : decode cX5_close 41 = .ok (.bipush 20, 2) := by decide +kernel
theorem dX5_close_43 : decode cX5_close 43 = .ok (.iload_n 3, 1) := by decide +kernel
theorem dX5_close_44 : decode cX5_close 44 = .ok (.iadd, 1) := by decide +kernel
theorem dX5_close_45 : decode cX5_close 45 = .ok (.iconst 0, 1) := by decide +kernel
theorem dX5_close_46 : decode cX5_close 46 = .ok (.iastore, 1) := by decide +kernel
theorem dX5_close_47 : decode cX5_close 47 = .ok (.aload_n 0, 1) := by decide +kernel
theorem dX5_close_48 : decode cX5_close 48 = .ok (.bipush 14, 2) := by decide +kernel
theorem dX5_close_50 : decode cX5_close 50 = .ok (.invokevirtual 171, 3) := by decide +kernel
theorem dX5_close_53 : decode cX5_close 53 = .ok (.istore 4, 2) := by decide +kernel
theorem dX5_close_55 : decode cX5_close 55 = .ok (.iload_n 1, 1) := by decide +kernel
theorem dX5_close_56 : decode cX5_close 56 = .ok (.bipush (-9), 2) := by decide +kernel
theorem dX5_close_58 : decode cX5_close 58 = .ok (.if_icmp .eq 9, 3) := by decide +kernel
theorem dX5_close_61 : decode cX5_close 61 = .ok (.iload 4, 2) := by decide +kernel
theorem dX5_close_63 : decode cX5_close 63 = .ok (.iload_n 2, 1) := by decide +kernel
theorem dX5_close_64 : decode cX5_close 64 = .ok (.if_icmp .le 8, 3) := by decide +kernel
theorem dX5_close_67 : decode cX5_close 67 = .ok (.iload 4, 2) := by decide +kernel
theorem dX5_close_69 : decode cX5_close 69 = .ok (.istore_n 2, 1) := by decide +kernel
theorem dX5_close_70 : decode cX5_close 70 = .ok (.iload_n 3, 1) := by decide +kernel
theorem dX5_close_71 : decode cX5_close 71 = .ok (.istore_n 1, 1) := by decide +kernel
theorem dX5_close_72 : decode cX5_close 72 = .ok (.iinc 3 1, 3) := by decide +kernel
theorem dX5_close_75 : decode cX5_close 75 = .ok (.goto (-68), 3) := by decide +kernel
theorem dX5_close_78 : decode cX5_close 78 = .ok (.iload_n 1, 1) := by decide +kernel
theorem dX5_close_79 : decode cX5_close 79 = .ok (.ireturn, 1) := by decide +kernel
theorem dX5_openDays_0 : decode cX5_openDays 0 = .ok (.iconst 0, 1) := by decide +kernel
theorem dX5_openDays_1 : decode cX5_openDays 1 = .ok (.istore_n 1, 1) := by decide +kernel
theorem dX5_openDays_2 : decode cX5_openDays 2 = .ok (.iconst 0, 1) := by decide +kernel
theorem dX5_openDays_3 : decode cX5_openDays 3 = .ok (.istore_n 2, 1) := by decide +kernel
theorem dX5_openDays_4 : decode cX5_openDays 4 = .ok (.iload_n 2, 1) := by decide +kernel
theorem dX5_openDays_5 : decode cX5_openDays 5 = .ok (.bipush 7, 2) := by decide +kernel
theorem dX5_openDays_7 : decode cX5_openDays 7 = .ok (.if_icmp .ge 21, 3) := by decide +kernel
theorem dX5_openDays_10 : decode cX5_openDays 10 = .ok (.iload_n 1, 1) := by decide +kernel
theorem dX5_openDays_11 : decode cX5_openDays 11 = .ok (.aload_n 0, 1) := by decide +kernel
theorem dX5_openDays_12 : decode cX5_openDays 12 = .ok (.getfield 13, 3) := by decide +kernel
theorem dX5_openDays_15 : decode cX5_openDays 15 = .ok (.bipush 20, 2) := by decide +kernel
theorem dX5_openDays_17 : decode cX5_openDays 17 = .ok (.iload_n 2, 1) := by decide +kernel
theorem dX5_openDays_18 : decode cX5_openDays 18 = .ok (.iadd, 1) := by decide +kernel
theorem dX5_openDays_19 : decode cX5_openDays 19 = .ok (.iaload, 1) := by decide +kernel
theorem dX5_openDays_20 : decode cX5_openDays 20 = .ok (.iadd, 1) := by decide +kernel
theorem dX5_openDays_21 : decode cX5_openDays 21 = .ok (.istore_n 1, 1) := by decide +kernel
theorem dX5_openDays_22 : decode cX5_openDays 22 = .ok (.iinc 2 1, 3) := by decide +kernel
theorem dX5_openDays_25 : decode cX5_openDays 25 = .ok (.goto (-21), 3) := by decide +kernel
theorem dX5_openDays_28 : decode cX5_openDays 28 = .ok (.iload_n 1, 1) := by decide +kernel
theorem dX5_openDays_29 : decode cX5_openDays 29 = .ok (.ireturn, 1) := by decide +kernel
theorem dX5_mean_0 : decode cX5_mean 0 = .ok (.iload_n 1, 1) := by decide +kernel
theorem dX5_mean_1 : decode cX5_mean 1 = .ok (.ifCond .eq 20, 3) := by decide +kernel
theorem dX5_mean_4 : decode cX5_mean 4 = .ok (.iload_n 1, 1) := by decide +kernel
theorem dX5_mean_5 : decode cX5_mean 5 = .ok (.iconst 1, 1) := by decide +kernel
theorem dX5_mean_6 : decode cX5_mean 6 = .ok (.if_icmp .eq 15, 3) := by decide +kernel
theorem dX5_mean_9 : decode cX5_mean 9 = .ok (.ldc2_w 183, 3) := by decide +kernel
theorem dX5_mean_12 : decode cX5_mean 12 = .ok (.aload_n 0, 1) := by decide +kernel
theorem dX5_mean_13 : decode cX5_mean 13 = .ok (.bipush (-2), 2) := by decide +kernel
theorem dX5_mean_15 : decode cX5_mean 15 = .ok (.invokevirtual 64, 3) := by decide +kernel
theorem dX5_mean_18 : decode cX5_mean 18 = .ok (.i2l, 1) := by decide +kernel
theorem dX5_mean_19 : decode cX5_mean 19 = .ok (.lsub, 1) := by decide +kernel
theorem dX5_mean_20 : decode cX5_mean 20 = .ok (.lreturn, 1) := by decide +kernel
theorem dX5_mean_21 : decode cX5_mean 21 = .ok (.lconst 0, 1) := by decide +kernel
theorem dX5_mean_22 : decode cX5_mean 22 = .ok (.lstore_n 2, 1) := by decide +kernel
theorem dX5_mean_23 : decode cX5_mean 23 = .ok (.lconst 1, 1) := by decide +kernel
theorem dX5_mean_24 : decode cX5_mean 24 = .ok (.lstore 4, 2) := by decide +kernel
theorem dX5_mean_26 : decode cX5_mean 26 = .ok (.iconst 0, 1) := by decide +kernel
theorem dX5_mean_27 : decode cX5_mean 27 = .ok (.istore 6, 2) := by decide +kernel
theorem dX5_mean_29 : decode cX5_mean 29 = .ok (.iload 6, 2) := by decide +kernel
theorem dX5_mean_31 : decode cX5_mean 31 = .ok (.aload_n 0, 1) := by decide +kernel
theorem dX5_mean_32 : decode cX5_mean 32 = .ok (.getfield 13, 3) := by decide +kernel
theorem dX5_mean_35 : decode cX5_mean 35 = .ok (.iconst 0, 1) := by decide +kernel
theorem dX5_mean_36 : decode cX5_mean 36 = .ok (.iaload, 1) := by decide +kernel
theorem dX5_mean_37 : decode cX5_mean 37 = .ok (.if_icmp .ge 17, 3) := by decide +kernel
theorem dX5_mean_40 : decode cX5_mean 40 = .ok (.lload 4, 2) := by decide +kernel
theorem dX5_mean_42 : decode cX5_mean 42 = .ok (.ldc2_w 185, 3) := by decide +kernel
theorem dX5_mean_45 : decode cX5_mean 45 = .ok (.lmul, 1) := by decide +kernel
theorem dX5_mean_46 : decode cX5_mean 46 = .ok (.lstore 4, 2) := by decide +kernel
theorem dX5_mean_48 : decode cX5_mean 48 = .ok (.iinc 6 1, 3) := by decide +kernel
theorem dX5_mean_51 : decode cX5_mean 51 = .ok (.goto (-22), 3) := by decide +kernel
theorem dX5_mean_54 : decode cX5_mean 54 = .ok (.iconst 0, 1) := by decide +kernel
theorem dX5_mean_55 : decode cX5_mean 55 = .ok (.istore 6, 2) := by decide +kernel
theorem dX5_mean_57 : decode cX5_mean 57 = .ok (.iload 6, 2) := by decide +kernel
theorem dX5_mean_59 : decode cX5_mean 59 = .ok (.iconst 1, 1) := by decide +kernel
theorem dX5_mean_60 : decode cX5_mean 60 = .ok (.aload_n 0, 1) := by decide +kernel
theorem dX5_mean_61 : decode cX5_mean 61 = .ok (.getfield 13, 3) := by decide +kernel
theorem dX5_mean_64 : decode cX5_mean 64 = .ok (.iconst 0, 1) := by decide +kernel
theorem dX5_mean_65 : decode cX5_mean 65 = .ok (.iaload, 1) := by decide +kernel
theorem dX5_mean_66 : decode cX5_mean 66 = .ok (.ishl, 1) := by decide +kernel
theorem dX5_mean_67 : decode cX5_mean 67 = .ok (.if_icmp .ge 149, 3) := by decide +kernel
theorem dX5_mean_70 : decode cX5_mean 70 = .ok (.aload_n 0, 1) := by decide +kernel
theorem dX5_mean_71 : decode cX5_mean 71 = .ok (.getfield 13, 3) := by decide +kernel
theorem dX5_mean_74 : decode cX5_mean 74 = .ok (.aload_n 0, 1) := by decide +kernel
theorem dX5_mean_75 : decode cX5_mean 75 = .ok (.getfield 16, 3) := by decide +kernel
theorem dX5_mean_78 : decode cX5_mean 78 = .ok (.invokestatic 60, 3) := by decide +kernel
theorem dX5_mean_81 : decode cX5_mean 81 = .ok (.lconst 1, 1) := by decide +kernel
theorem dX5_mean_82 : decode cX5_mean 82 = .ok (.lstore 7, 2) := by decide +kernel
theorem dX5_mean_84 : decode cX5_mean 84 = .ok (.iconst 0, 1) := by decide +kernel
theorem dX5_mean_85 : decode cX5_mean 85 = .ok (.istore 9, 2) := by decide +kernel
theorem dX5_mean_87 : decode cX5_mean 87 = .ok (.iload 9, 2) := by decide +kernel
theorem dX5_mean_89 : decode cX5_mean 89 = .ok (.aload_n 0, 1) := by decide +kernel
theorem dX5_mean_90 : decode cX5_mean 90 = .ok (.getfield 13, 3) := by decide +kernel
theorem dX5_mean_93 : decode cX5_mean 93 = .ok (.iconst 0, 1) := by decide +kernel
theorem dX5_mean_94 : decode cX5_mean 94 = .ok (.iaload, 1) := by decide +kernel
theorem dX5_mean_95 : decode cX5_mean 95 = .ok (.if_icmp .ge 95, 3) := by decide +kernel
theorem dX5_mean_98 : decode cX5_mean 98 = .ok (.iload 6, 2) := by decide +kernel
theorem dX5_mean_100 : decode cX5_mean 100 = .ok (.iload 9, 2) := by decide +kernel
theorem dX5_mean_102 : decode cX5_mean 102 = .ok (.ishr, 1) := by decide +kernel
theorem dX5_mean_103 : decode cX5_mean 103 = .ok (.iconst 1, 1) := by decide +kernel
theorem dX5_mean_104 : decode cX5_mean 104 = .ok (.iand, 1) := by decide +kernel
theorem dX5_mean_105 : decode cX5_mean 105 = .ok (.iconst 1, 1) := by decide +kernel
theorem dX5_mean_106 : decode cX5_mean 106 = .ok (.if_icmp .ne 7, 3) := by decide +kernel
theorem dX5_mean_109 : decode cX5_mean 109 = .ok (.iconst 1, 1) := by decide +kernel
theorem dX5_mean_110 : decode cX5_mean 110 = .ok (.goto 4, 3) := by decide +kernel
theorem dX5_mean_113 : decode cX5_mean 113 = .ok (.iconst 0, 1) := by decide +kernel
theorem dX5_mean_114 : decode cX5_mean 114 = .ok (.istore 10, 2) := by decide +kernel
theorem dX5_mean_116 : decode cX5_mean 116 = .ok (.aload_n 0, 1) := by decide +kernel
theorem dX5_mean_117 : decode cX5_mean 117 = .ok (.getfield 13, 3) := by decide +kernel
theorem dX5_mean_120 : decode cX5_mean 120 = .ok (.bipush 30, 2) := by decide +kernel
theorem dX5_mean_122 : decode cX5_mean 122 = .ok (.iconst 4, 1) := by decide +kernel
theorem dX5_mean_123 : decode cX5_mean 123 = .ok (.iload 9, 2) := by decide +kernel
theorem dX5_mean_125 : decode cX5_mean 125 = .ok (.imul, 1) := by decide +kernel
theorem dX5_mean_126 : decode cX5_mean 126 = .ok (.iadd, 1) := by decide +kernel
theorem dX5_mean_127 : decode cX5_mean 127 = .ok (.iconst 3, 1) := by decide +kernel
theorem dX5_mean_128 : decode cX5_mean 128 = .ok (.iadd, 1) := by decide +kernel
theorem dX5_mean_129 : decode cX5_mean 129 = .ok (.iaload, 1) := by decide +kernel
theorem dX5_mean_130 : decode cX5_mean 130 = .ok (.istore 11, 2) := by decide +kernel
theorem dX5_mean_132 : decode cX5_mean 132 = .ok (.lload 7, 2) := by decide +kernel
theorem dX5_mean_134 : decode cX5_mean 134 = .ok (.iload 10, 2) := by decide +kernel
theorem dX5_mean_136 : decode cX5_mean 136 = .ok (.ifCond .eq 9, 3) := by decide +kernel
theorem dX5_mean_139 : decode cX5_mean 139 = .ok (.iload 11, 2) := by decide +kernel
theorem dX5_mean_141 : decode cX5_mean 141 = .ok (.i2l, 1) := by decide +kernel
theorem dX5_mean_142 : decode cX5_mean 142 = .ok (.goto 9, 3) := by decide +kernel
theorem dX5_mean_145 : decode cX5_mean 145 = .ok (.bipush 10, 2) := by decide +kernel
theorem dX5_mean_147 : decode cX5_mean 147 = .ok (.iload 11, 2) := by decide +kernel
theorem dX5_mean_149 : decode cX5_mean 149 = .ok (.isub, 1) := by decide +kernel
theorem dX5_mean_150 : decode cX5_mean 150 = .ok (.i2l, 1) := by decide +kernel
theorem dX5_mean_151 : decode cX5_mean 151 = .ok (.lmul, 1) := by decide +kernel
theorem dX5_mean_152 : decode cX5_mean 152 = .ok (.lstore 7, 2) := by decide +kernel
theorem dX5_mean_154 : decode cX5_mean 154 = .ok (.aload_n 0, 1) := by decide +kernel
theorem dX5_mean_155 : decode cX5_mean 155 = .ok (.getfield 22, 3) := by decide +kernel
theorem dX5_mean_158 : decode cX5_mean 158 = .ok (.iload 9, 2) := by decide +kernel
theorem dX5_mean_160 : decode cX5_mean 160 = .ok (.iload 10, 2) := by decide +kernel
theorem dX5_mean_162 : decode cX5_mean 162 = .ok (.ifCond .eq 20, 3) := by decide +kernel
theorem dX5_mean_165 : decode cX5_mean 165 = .ok (.aload_n 0, 1) := by decide +kernel
theorem dX5_mean_166 : decode cX5_mean 166 = .ok (.getfield 13, 3) := by decide +kernel
theorem dX5_mean_169 : decode cX5_mean 169 = .ok (.bipush 30, 2) := by decide +kernel
theorem dX5_mean_171 : decode cX5_mean 171 = .ok (.iconst 4, 1) := by decide +kernel
theorem dX5_mean_172 : decode cX5_mean 172 = .ok (.iload 9, 2) := by decide +kernel
theorem dX5_mean_174 : decode cX5_mean 174 = .ok (.imul, 1) := by decide +kernel
theorem dX5_mean_175 : decode cX5_mean 175 = .ok (.iadd, 1) := by decide +kernel
theorem dX5_mean_176 : decode cX5_mean 176 = .ok (.iconst 1, 1) := by decide +kernel
theorem dX5_mean_177 : decode cX5_mean 177 = .ok (.iadd, 1) := by decide +kernel
theorem dX5_mean_178 : decode cX5_mean 178 = .ok (.iaload, 1) := by decide +kernel
theorem dX5_mean_179 : decode cX5_mean 179 = .ok (.goto 4, 3) := by decide +kernel
theorem dX5_mean_182 : decode cX5_mean 182 = .ok (.iconst 0, 1) := by decide +kernel
theorem dX5_mean_183 : decode cX5_mean 183 = .ok (.iastore, 1) := by decide +kernel
theorem dX5_mean_184 : decode cX5_mean 184 = .ok (.iinc 9 1, 3) := by decide +kernel
theorem dX5_mean_187 : decode cX5_mean 187 = .ok (.goto (-100), 3) := by decide +kernel
theorem dX5_mean_190 : decode cX5_mean 190 = .ok (.aload_n 0, 1) := by decide +kernel
theorem dX5_mean_191 : decode cX5_mean 191 = .ok (.aload_n 0, 1) := by decide +kernel
theorem dX5_mean_192 : decode cX5_mean 192 = .ok (.getfield 16, 3) := by decide +kernel
theorem dX5_mean_195 : decode cX5_mean 195 = .ok (.iconst 0, 1) := by decide +kernel
theorem dX5_mean_196 : decode cX5_mean 196 = .ok (.invokevirtual 111, 3) := by decide +kernel
theorem dX5_mean_199 : decode cX5_mean 199 = .ok (.lload_n 2, 1) := by decide +kernel
theorem dX5_mean_200 : decode cX5_mean 200 = .ok (.lload 7, 2) := by decide +kernel
theorem dX5_mean_202 : decode cX5_mean 202 = .ok (.aload_n 0, 1) := by decide +kernel
theorem dX5_mean_203 : decode cX5_mean 203 = .ok (.getfield 85, 3) := by decide +kernel
theorem dX5_mean_206 : decode cX5_mean 206 = .ok (.i2l, 1) := by decide +kernel
theorem dX5_mean_207 : decode cX5_mean 207 = .ok (.lmul, 1) := by decide +kernel
theorem dX5_mean_208 : decode cX5_mean 208 = .ok (.ladd, 1) := by decide +kernel
theorem dX5_mean_209 : decode cX5_mean 209 = .ok (.lstore_n 2, 1) := by decide +kernel
theorem dX5_mean_210 : decode cX5_mean 210 = .ok (.iinc 6 1, 3) := by decide +kernel
theorem dX5_mean_213 : decode cX5_mean 213 = .ok (.goto (-156), 3) := by decide +kernel
theorem dX5_mean_216 : decode cX5_mean 216 = .ok (.lload_n 2, 1) := by decide +kernel
theorem dX5_mean_217 : decode cX5_mean 217 = .ok (.lconst 0, 1) := by decide +kernel
theorem dX5_mean_218 : decode cX5_mean 218 = .ok (.lcmp, 1) := by decide +kernel
theorem dX5_mean_219 : decode cX5_mean 219 = .ok (.ifCond .ne 6, 3) := by decide +kernel
theorem dX5_mean_222 : decode cX5_mean 222 = .ok (.iload_n 1, 1) := by decide +kernel
theorem dX5_mean_223 : decode cX5_mean 223 = .ok (.i2l, 1) := by decide +kernel
theorem dX5_mean_224 : decode cX5_mean 224 = .ok (.lreturn, 1) := by decide +kernel
theorem dX5_mean_225 : decode cX5_mean 225 = .ok (.lload_n 2, 1) := by decide +kernel
theorem dX5_mean_226 : decode cX5_mean 226 = .ok (.invokestatic 187, 3) := by decide +kernel
theorem dX5_mean_229 : decode cX5_mean 229 = .ok (.lstore 6, 2) := by decide +kernel
theorem dX5_mean_231 : decode cX5_mean 231 = .ok (.lload 4, 2) := by decide +kernel
theorem dX5_mean_233 : decode cX5_mean 233 = .ok (.lstore 8, 2) := by decide +kernel
theorem dX5_mean_235 : decode cX5_mean 235 = .ok (.lload 8, 2) := by decide +kernel
theorem dX5_mean_237 : decode cX5_mean 237 = .ok (.lconst 0, 1) := by decide +kernel
theorem dX5_mean_238 : decode cX5_mean 238 = .ok (.lcmp, 1) := by decide +kernel
theorem dX5_mean_239 : decode cX5_mean 239 = .ok (.ifCond .eq 21, 3) := by decide +kernel
theorem dX5_mean_242 : decode cX5_mean 242 = .ok (.lload 6, 2) := by decide +kernel
theorem dX5_mean_244 : decode cX5_mean 244 = .ok (.lload 8, 2) := by decide +kernel
theorem dX5_mean_246 : decode cX5_mean 246 = .ok (.lrem, 1) := by decide +kernel
theorem dX5_mean_247 : decode cX5_mean 247 = .ok (.lstore 10, 2) := by decide +kernel
theorem dX5_mean_249 : decode cX5_mean 249 = .ok (.lload 8, 2) := by decide +kernel
theorem dX5_mean_251 : decode cX5_mean 251 = .ok (.lstore 6, 2) := by decide +kernel
theorem dX5_mean_253 : decode cX5_mean 253 = .ok (.lload 10, 2) := by decide +kernel
theorem dX5_mean_255 : decode cX5_mean 255 = .ok (.lstore 8, 2) := by decide +kernel
theorem dX5_mean_257 : decode cX5_mean 257 = .ok (.goto (-22), 3) := by decide +kernel
theorem dX5_mean_260 : decode cX5_mean 260 = .ok (.iload_n 1, 1) := by decide +kernel
theorem dX5_mean_261 : decode cX5_mean 261 = .ok (.ifCond .ne 7, 3) := by decide +kernel
theorem dX5_mean_264 : decode cX5_mean 264 = .ok (.lload_n 2, 1) := by decide +kernel
theorem dX5_mean_265 : decode cX5_mean 265 = .ok (.goto 5, 3) := by decide +kernel
theorem dX5_mean_268 : decode cX5_mean 268 = .ok (.lload 4, 2) := by decide +kernel
theorem dX5_mean_270 : decode cX5_mean 270 = .ok (.lload 6, 2) := by decide +kernel
theorem dX5_mean_272 : decode cX5_mean 272 = .ok (.ldiv, 1) := by decide +kernel
theorem dX5_mean_273 : decode cX5_mean 273 = .ok (.lreturn, 1) := by decide +kernel
theorem dX5_likes_0 : decode cX5_likes 0 = .ok (.aload_n 0, 1) := by decide +kernel
theorem dX5_likes_1 : decode cX5_likes 1 = .ok (.iload_n 1, 1) := by decide +kernel
theorem dX5_likes_2 : decode cX5_likes 2 = .ok (.invokevirtual 152, 3) := by decide +kernel
theorem dX5_likes_5 : decode cX5_likes 5 = .ok (.ifCond .eq 9, 3) := by decide +kernel
theorem dX5_likes_8 : decode cX5_likes 8 = .ok (.aload_n 0, 1) := by decide +kernel
theorem dX5_likes_9 : decode cX5_likes 9 = .ok (.iconst (-1), 1) := by decide +kernel
theorem dX5_likes_10 : decode cX5_likes 10 = .ok (.invokevirtual 64, 3) := by decide +kernel
theorem dX5_likes_13 : decode cX5_likes 13 = .ok (.ireturn, 1) := by decide +kernel
theorem dX5_likes_14 : decode cX5_likes 14 = .ok (.bipush (-9), 2) := by decide +kernel
theorem dX5_likes_16 : decode cX5_likes 16 = .ok (.istore_n 2, 1) := by decide +kernel
theorem dX5_likes_17 : decode cX5_likes 17 = .ok (.iconst 0, 1) := by decide +kernel
theorem dX5_likes_18 : decode cX5_likes 18 = .ok (.istore_n 3, 1) := by decide +kernel
theorem dX5_likes_19 : decode cX5_likes 19 = .ok (.iload_n 3, 1) := by decide +kernel
theorem dX5_likes_20 : decode cX5_likes 20 = .ok (.iconst 5, 1) := by decide +kernel
theorem dX5_likes_21 : decode cX5_likes 21 = .ok (.if_icmp .ge 47, 3) := by decide +kernel
theorem dX5_likes_24 : decode cX5_likes 24 = .ok (.aload_n 0, 1) := by decide +kernel
theorem dX5_likes_25 : decode cX5_likes 25 = .ok (.getfield 13, 3) := by decide +kernel
theorem dX5_likes_28 : decode cX5_likes 28 = .ok (.iload_n 1, 1) := by decide +kernel
theorem dX5_likes_29 : decode cX5_likes 29 = .ok (.iload_n 3, 1) := by decide +kernel
theorem dX5_likes_30 : decode cX5_likes 30 = .ok (.invokestatic 74, 3) := by decide +kernel
theorem dX5_likes_33 : decode cX5_likes 33 = .ok (.istore 4, 2) := by decide +kernel
theorem dX5_likes_35 : decode cX5_likes 35 = .ok (.iload 4, 2) := by decide +kernel
theorem dX5_likes_37 : decode cX5_likes 37 = .ok (.ifCond .lt 25, 3) := by decide +kernel
theorem dX5_likes_40 : decode cX5_likes 40 = .ok (.iload_n 2, 1) := by decide +kernel
theorem dX5_likes_41 : decode cX5_likes 41 = .ok (.bipush (-9), 2) := by decide +kernel
theorem dX5_likes_43 : decode cX5_likes 43 = .ok (.if_icmp .eq 17, 3) := by decide +kernel
theorem dX5_likes_46 : decode cX5_likes 46 = .ok (.iload 4, 2) := by decide +kernel
theorem dX5_likes_48 : decode cX5_likes 48 = .ok (.aload_n 0, 1) := by decide +kernel
theorem dX5_likes_49 : decode cX5_likes 49 = .ok (.getfield 13, 3) := by decide +kernel
theorem dX5_likes_52 : decode cX5_likes 52 = .ok (.iload_n 1, 1) := by decide +kernel
theorem dX5_likes_53 : decode cX5_likes 53 = .ok (.iload_n 2, 1) := by decide +kernel
theorem dX5_likes_54 : decode cX5_likes 54 = .ok (.invokestatic 74, 3) := by decide +kernel
theorem dX5_likes_57 : decode cX5_likes 57 = .ok (.if_icmp .le 5, 3) := by decide +kernel
theorem dX5_likes_60 : decode cX5_likes 60 = .ok (.iload_n 3, 1) := by decide +kernel
theorem dX5_likes_61 : decode cX5_likes 61 = .ok (.istore_n 2, 1) := by decide +kernel
theorem dX5_likes_62 : decode cX5_likes 62 = .ok (.iinc 3 1, 3) := by decide +kernel
theorem dX5_likes_65 : decode cX5_likes 65 = .ok (.goto (-46), 3) := by decide +kernel
theorem dX5_likes_68 : decode cX5_likes 68 = .ok (.iload_n 2, 1) := by decide +kernel
theorem dX5_likes_69 : decode cX5_likes 69 = .ok (.ireturn, 1) := by decide +kernel
theorem dX5_whose_0 : decode cX5_whose 0 = .ok (.iload_n 1, 1) := by decide +kernel
theorem dX5_whose_1 : decode cX5_whose 1 = .ok (.invokestatic 156, 3) := by decide +kernel
theorem dX5_whose_4 : decode cX5_whose 4 = .ok (.ifCond .eq 9, 3) := by decide +kernel
theorem dX5_whose_7 : decode cX5_whose 7 = .ok (.aload_n 0, 1) := by decide +kernel
theorem dX5_whose_8 : decode cX5_whose 8 = .ok (.iconst (-1), 1) := by decide +kernel
theorem dX5_whose_9 : decode cX5_whose 9 = .ok (.invokevirtual 64, 3) := by decide +kernel
theorem dX5_whose_12 : decode cX5_whose 12 = .ok (.ireturn, 1) := by decide +kernel
theorem dX5_whose_13 : decode cX5_whose 13 = .ok (.bipush (-9), 2) := by decide +kernel
theorem dX5_whose_15 : decode cX5_whose 15 = .ok (.istore_n 2, 1) := by decide +kernel
theorem dX5_whose_16 : decode cX5_whose 16 = .ok (.iconst 0, 1) := by decide +kernel
theorem dX5_whose_17 : decode cX5_whose 17 = .ok (.istore_n 3, 1) := by decide +kernel
theorem dX5_whose_18 : decode cX5_whose 18 = .ok (.iload_n 3, 1) := by decide +kernel
theorem dX5_whose_19 : decode cX5_whose 19 = .ok (.aload_n 0, 1) := by decide +kernel
theorem dX5_whose_20 : decode cX5_whose 20 = .ok (.getfield 13, 3) := by decide +kernel
theorem dX5_whose_23 : decode cX5_whose 23 = .ok (.iconst 0, 1) := by decide +kernel
theorem dX5_whose_24 : decode cX5_whose 24 = .ok (.iaload, 1) := by decide +kernel
theorem dX5_whose_25 : decode cX5_whose 25 = .ok (.if_icmp .ge 47, 3) := by decide +kernel
theorem dX5_whose_28 : decode cX5_whose 28 = .ok (.aload_n 0, 1) := by decide +kernel
theorem dX5_whose_29 : decode cX5_whose 29 = .ok (.getfield 13, 3) := by decide +kernel
theorem dX5_whose_32 : decode cX5_whose 32 = .ok (.iload_n 3, 1) := by decide +kernel
theorem dX5_whose_33 : decode cX5_whose 33 = .ok (.iload_n 1, 1) := by decide +kernel
theorem dX5_whose_34 : decode cX5_whose 34 = .ok (.invokestatic 74, 3) := by decide +kernel
theorem dX5_whose_37 : decode cX5_whose 37 = .ok (.istore 4, 2) := by decide +kernel
theorem dX5_whose_39 : decode cX5_whose 39 = .ok (.iload 4, 2) := by decide +kernel
theorem dX5_whose_41 : decode cX5_whose 41 = .ok (.ifCond .lt 25, 3) := by decide +kernel
theorem dX5_whose_44 : decode cX5_whose 44 = .ok (.iload_n 2, 1) := by decide +kernel
theorem dX5_whose_45 : decode cX5_whose 45 = .ok (.bipush (-9), 2) := by decide +kernel
theorem dX5_whose_47 : decode cX5_whose 47 = .ok (.if_icmp .eq 17, 3) := by decide +kernel
theorem dX5_whose_50 : decode cX5_whose 50 = .ok (.iload 4, 2) := by decide +kernel
theorem dX5_whose_52 : decode cX5_whose 52 = .ok (.aload_n 0, 1) := by decide +kernel
theorem dX5_whose_53 : decode cX5_whose 53 = .ok (.getfield 13, 3) := by decide +kernel
theorem dX5_whose_56 : decode cX5_whose 56 = .ok (.iload_n 2, 1) := by decide +kernel
theorem dX5_whose_57 : decode cX5_whose 57 = .ok (.iload_n 1, 1) := by decide +kernel
theorem dX5_whose_58 : decode cX5_whose 58 = .ok (.invokestatic 74, 3) := by decide +kernel
theorem dX5_whose_61 : decode cX5_whose 61 = .ok (.if_icmp .le 5, 3) := by decide +kernel
theorem dX5_whose_64 : decode cX5_whose 64 = .ok (.iload_n 3, 1) := by decide +kernel
theorem dX5_whose_65 : decode cX5_whose 65 = .ok (.istore_n 2, 1) := by decide +kernel
theorem dX5_whose_66 : decode cX5_whose 66 = .ok (.iinc 3 1, 3) := by decide +kernel
theorem dX5_whose_69 : decode cX5_whose 69 = .ok (.goto (-51), 3) := by decide +kernel
theorem dX5_whose_72 : decode cX5_whose 72 = .ok (.iload_n 2, 1) := by decide +kernel
theorem dX5_whose_73 : decode cX5_whose 73 = .ok (.ireturn, 1) := by decide +kernel
theorem dX5_shared_0 : decode cX5_shared 0 = .ok (.iload_n 1, 1) := by decide +kernel
theorem dX5_shared_1 : decode cX5_shared 1 = .ok (.iload_n 2, 1) := by decide +kernel
theorem dX5_shared_2 : decode cX5_shared 2 = .ok (.if_icmp .ne 5, 3) := by decide +kernel
theorem dX5_shared_5 : decode cX5_shared 5 = .ok (.iconst 0, 1) := by decide +kernel
theorem dX5_shared_6 : decode cX5_shared 6 = .ok (.ireturn, 1) := by decide +kernel
theorem dX5_shared_7 : decode cX5_shared 7 = .ok (.iconst 0, 1) := by decide +kernel
theorem dX5_shared_8 : decode cX5_shared 8 = .ok (.istore_n 3, 1) := by decide +kernel
theorem dX5_shared_9 : decode cX5_shared 9 = .ok (.aload_n 0, 1) := by decide +kernel
theorem dX5_shared_10 : decode cX5_shared 10 = .ok (.getfield 13, 3) := by decide +kernel
theorem dX5_shared_13 : decode cX5_shared 13 = .ok (.bipush 10, 2) := by decide +kernel
theorem dX5_shared_15 : decode cX5_shared 15 = .ok (.iaload, 1) := by decide +kernel
theorem dX5_shared_16 : decode cX5_shared 16 = .ok (.istore 4, 2) := by decide +kernel
theorem dX5_shared_18 : decode cX5_shared 18 = .ok (.iload_n 1, 1) := by decide +kernel
theorem dX5_shared_19 : decode cX5_shared 19 = .ok (.iload 4, 2) := by decide +kernel
theorem dX5_shared_21 : decode cX5_shared 21 = .ok (.if_icmp .lt 23, 3) := by decide +kernel
theorem dX5_shared_24 : decode cX5_shared 24 = .ok (.iinc 3 1, 3) := by decide +kernel
theorem dX5_shared_27 : decode cX5_shared 27 = .ok (.iload 4, 2) := by decide +kernel
theorem dX5_shared_29 : decode cX5_shared 29 = .ok (.aload_n 0, 1) := by decide +kernel
theorem dX5_shared_30 : decode cX5_shared 30 = .ok (.getfield 13, 3) := by decide +kernel
theorem dX5_shared_33 : decode cX5_shared 33 = .ok (.bipush 10, 2) := by decide +kernel
theorem dX5_shared_35 : decode cX5_shared 35 = .ok (.iload_n 3, 1) := by decide +kernel
theorem dX5_shared_36 : decode cX5_shared 36 = .ok (.iadd, 1) := by decide +kernel
theorem dX5_shared_37 : decode cX5_shared 37 = .ok (.iaload, 1) := by decide +kernel
theorem dX5_shared_38 : decode cX5_shared 38 = .ok (.iadd, 1) := by decide +kernel
theorem dX5_shared_39 : decode cX5_shared 39 = .ok (.istore 4, 2) := by decide +kernel
theorem dX5_shared_41 : decode cX5_shared 41 = .ok (.goto (-23), 3) := by decide +kernel
theorem dX5_shared_44 : decode cX5_shared 44 = .ok (.aload_n 0, 1) := by decide +kernel
theorem dX5_shared_45 : decode cX5_shared 45 = .ok (.iload_n 1, 1) := by decide +kernel
theorem dX5_shared_46 : decode cX5_shared 46 = .ok (.iconst 1, 1) := by decide +kernel
theorem dX5_shared_47 : decode cX5_shared 47 = .ok (.iadd, 1) := by decide +kernel
theorem dX5_shared_48 : decode cX5_shared 48 = .ok (.iload_n 2, 1) := by decide +kernel
theorem dX5_shared_49 : decode cX5_shared 49 = .ok (.invokevirtual 191, 3) := by decide +kernel
theorem dX5_shared_52 : decode cX5_shared 52 = .ok (.istore 5, 2) := by decide +kernel
theorem dX5_shared_54 : decode cX5_shared 54 = .ok (.iconst 0, 1) := by decide +kernel
theorem dX5_shared_55 : decode cX5_shared 55 = .ok (.istore 6, 2) := by decide +kernel
theorem dX5_shared_57 : decode cX5_shared 57 = .ok (.iload 6, 2) := by decide +kernel
theorem dX5_shared_59 : decode cX5_shared 59 = .ok (.aload_n 0, 1) := by decide +kernel
theorem dX5_shared_60 : decode cX5_shared 60 = .ok (.getfield 13, 3) := by decide +kernel
theorem dX5_shared_63 : decode cX5_shared 63 = .ok (.iconst 0, 1) := by decide +kernel
theorem dX5_shared_64 : decode cX5_shared 64 = .ok (.iaload, 1) := by decide +kernel
theorem dX5_shared_65 : decode cX5_shared 65 = .ok (.if_icmp .ge 77, 3) := by decide +kernel
theorem dX5_shared_68 : decode cX5_shared 68 = .ok (.aload_n 0, 1) := by decide +kernel
theorem dX5_shared_69 : decode cX5_shared 69 = .ok (.getfield 13, 3) := by decide +kernel
theorem dX5_shared_72 : decode cX5_shared 72 = .ok (.iload 6, 2) := by decide +kernel
theorem dX5_shared_74 : decode cX5_shared 74 = .ok (.iload_n 3, 1) := by decide +kernel
theorem dX5_shared_75 : decode cX5_shared 75 = .ok (.invokestatic 74, 3) := by decide +kernel
theorem dX5_shared_78 : decode cX5_shared 78 = .ok (.istore 7, 2) := by decide +kernel
theorem dX5_shared_80 : decode cX5_shared 80 = .ok (.iload 7, 2) := by decide +kernel
theorem dX5_shared_82 : decode cX5_shared 82 = .ok (.ifCond .lt 54, 3) := by decide +kernel
theorem dX5_shared_85 : decode cX5_shared 85 = .ok (.aload_n 0, 1) := by decide +kernel
theorem dX5_shared_86 : decode cX5_shared 86 = .ok (.getfield 50, 3) := by decide +kernel
theorem dX5_shared_89 : decode cX5_shared 89 = .ok (.iload 6, 2) := by decide +kernel
theorem dX5_shared_91 : decode cX5_shared 91 = .ok (.iaload, 1) := by decide +kernel
theorem dX5_shared_92 : decode cX5_shared 92 = .ok (.iconst 2, 1) := by decide +kernel
theorem dX5_shared_93 : decode cX5_shared 93 = .ok (.if_icmp .ge 43, 3) := by decide +kernel
theorem dX5_shared_96 : decode cX5_shared 96 = .ok (.aload_n 0, 1) := by decide +kernel
theorem dX5_shared_97 : decode cX5_shared 97 = .ok (.getfield 50, 3) := by decide +kernel
theorem dX5_shared_100 : decode cX5_shared 100 = .ok (.iload 6, 2) := by decide +kernel
theorem dX5_shared_102 : decode cX5_shared 102 = .ok (.dup2, 1) := by decide +kernel
theorem dX5_shared_103 : decode cX5_shared 103 = .ok (.iaload, 1) := by decide +kernel
theorem dX5_shared_104 : decode cX5_shared 104 = .ok (.iconst 1, 1) := by decide +kernel
theorem dX5_shared_105 : decode cX5_shared 105 = .ok (.iadd, 1) := by decide +kernel
theorem dX5_shared_106 : decode cX5_shared 106 = .ok (.iastore, 1) := by decide +kernel
theorem dX5_shared_107 : decode cX5_shared 107 = .ok (.iload 5, 2) := by decide +kernel
theorem dX5_shared_109 : decode cX5_shared 109 = .ok (.iload 7, 2) := by decide +kernel
theorem dX5_shared_111 : decode cX5_shared 111 = .ok (.aload_n 0, 1) := by decide +kernel
theorem dX5_shared_112 : decode cX5_shared 112 = .ok (.iload_n 1, 1) := by decide +kernel
theorem dX5_shared_113 : decode cX5_shared 113 = .ok (.iconst 1, 1) := by decide +kernel
theorem dX5_shared_114 : decode cX5_shared 114 = .ok (.iadd, 1) := by decide +kernel
theorem dX5_shared_115 : decode cX5_shared 115 = .ok (.iload_n 2, 1) := by decide +kernel
theorem dX5_shared_116 : decode cX5_shared 116 = .ok (.invokevirtual 191, 3) := by decide +kernel
theorem dX5_shared_119 : decode cX5_shared 119 = .ok (.iadd, 1) := by decide +kernel
theorem dX5_shared_120 : decode cX5_shared 120 = .ok (.invokestatic 68, 3) := by decide +kernel
theorem dX5_shared_123 : decode cX5_shared 123 = .ok (.istore 5, 2) := by decide +kernel
theorem dX5_shared_125 : decode cX5_shared 125 = .ok (.aload_n 0, 1) := by decide +kernel
theorem dX5_shared_126 : decode cX5_shared 126 = .ok (.getfield 50, 3) := by decide +kernel
theorem dX5_shared_129 : decode cX5_shared 129 = .ok (.iload 6, 2) := by decide +kernel
theorem dX5_shared_131 : decode cX5_shared 131 = .ok (.dup2, 1) := by decide +kernel
theorem dX5_shared_132 : decode cX5_shared 132 = .ok (.iaload, 1) := by decide +kernel
theorem dX5_shared_133 : decode cX5_shared 133 = .ok (.iconst 1, 1) := by decide +kernel
theorem dX5_shared_134 : decode cX5_shared 134 = .ok (.isub, 1) := by decide +kernel
theorem dX5_shared_135 : decode cX5_shared 135 = .ok (.iastore, 1) := by decide +kernel
theorem dX5_shared_136 : decode cX5_shared 136 = .ok (.iinc 6 1, 3) := by decide +kernel
theorem dX5_shared_139 : decode cX5_shared 139 = .ok (.goto (-82), 3) := by decide +kernel
theorem dX5_shared_142 : decode cX5_shared 142 = .ok (.iload 5, 2) := by decide +kernel
theorem dX5_shared_144 : decode cX5_shared 144 = .ok (.ireturn, 1) := by decide +kernel
theorem dX5_share_0 : decode cX5_share 0 = .ok (.aload_n 0, 1) := by decide +kernel
theorem dX5_share_1 : decode cX5_share 1 = .ok (.iconst 0, 1) := by decide +kernel
theorem dX5_share_2 : decode cX5_share 2 = .ok (.bipush 6, 2) := by decide +kernel
theorem dX5_share_4 : decode cX5_share 4 = .ok (.aload_n 0, 1) := by decide +kernel
theorem dX5_share_5 : decode cX5_share 5 = .ok (.getfield 13, 3) := by decide +kernel
theorem dX5_share_8 : decode cX5_share 8 = .ok (.invokestatic 167, 3) := by decide +kernel
theorem dX5_share_11 : decode cX5_share 11 = .ok (.invokestatic 78, 3) := by decide +kernel
theorem dX5_share_14 : decode cX5_share 14 = .ok (.invokevirtual 191, 3) := by decide +kernel
theorem dX5_share_17 : decode cX5_share 17 = .ok (.ireturn, 1) := by decide +kernel
theorem dX5_opened_0 : decode cX5_opened 0 = .ok (.iconst 3, 1) := by decide +kernel
theorem dX5_opened_1 : decode cX5_opened 1 = .ok (.iload_n 1, 1) := by decide +kernel
theorem dX5_opened_2 : decode cX5_opened 2 = .ok (.imul, 1) := by decide +kernel
theorem dX5_opened_3 : decode cX5_opened 3 = .ok (.aload_n 0, 1) := by decide +kernel
theorem dX5_opened_4 : decode cX5_opened 4 = .ok (.getfield 194, 3) := by decide +kernel
theorem dX5_opened_7 : decode cX5_opened 7 = .ok (.if_icmp .ne 5, 3) := by decide +kernel
theorem dX5_opened_10 : decode cX5_opened 10 = .ok (.iconst 0, 1) := by decide +kernel
theorem dX5_opened_11 : decode cX5_opened 11 = .ok (.ireturn, 1) := by decide +kernel
theorem dX5_opened_12 : decode cX5_opened 12 = .ok (.aload_n 0, 1) := by decide +kernel
theorem dX5_opened_13 : decode cX5_opened 13 = .ok (.iload_n 1, 1) := by decide +kernel
theorem dX5_opened_14 : decode cX5_opened 14 = .ok (.iconst 1, 1) := by decide +kernel
theorem dX5_opened_15 : decode cX5_opened 15 = .ok (.iadd, 1) := by decide +kernel
theorem dX5_opened_16 : decode cX5_opened 16 = .ok (.iload_n 2, 1) := by decide +kernel
theorem dX5_opened_17 : decode cX5_opened 17 = .ok (.iload_n 3, 1) := by decide +kernel
theorem dX5_opened_18 : decode cX5_opened 18 = .ok (.invokevirtual 197, 3) := by decide +kernel
theorem dX5_opened_21 : decode cX5_opened 21 = .ok (.istore 4, 2) := by decide +kernel
theorem dX5_opened_23 : decode cX5_opened 23 = .ok (.aload_n 0, 1) := by decide +kernel
theorem dX5_opened_24 : decode cX5_opened 24 = .ok (.getfield 53, 3) := by decide +kernel
theorem dX5_opened_27 : decode cX5_opened 27 = .ok (.iconst 3, 1) := by decide +kernel
theorem dX5_opened_28 : decode cX5_opened 28 = .ok (.iload_n 1, 1) := by decide +kernel
theorem dX5_opened_29 : decode cX5_opened 29 = .ok (.imul, 1) := by decide +kernel
theorem dX5_opened_30 : decode cX5_opened 30 = .ok (.iaload, 1) := by decide +kernel
theorem dX5_opened_31 : decode cX5_opened 31 = .ok (.istore 5, 2) := by decide +kernel
theorem dX5_opened_33 : decode cX5_opened 33 = .ok (.iload 5, 2) := by decide +kernel
theorem dX5_opened_35 : decode cX5_opened 35 = .ok (.aload_n 0, 1) := by decide +kernel
theorem dX5_opened_36 : decode cX5_opened 36 = .ok (.getfield 53, 3) := by decide +kernel
theorem dX5_opened_39 : decode cX5_opened 39 = .ok (.iconst 3, 1) := by decide +kernel
theorem dX5_opened_40 : decode cX5_opened 40 = .ok (.iload_n 1, 1) := by decide +kernel
theorem dX5_opened_41 : decode cX5_opened 41 = .ok (.imul, 1) := by decide +kernel
theorem dX5_opened_42 : decode cX5_opened 42 = .ok (.iconst 1, 1) := by decide +kernel
theorem dX5_opened_43 : decode cX5_opened 43 = .ok (.iadd, 1) := by decide +kernel
theorem dX5_opened_44 : decode cX5_opened 44 = .ok (.iaload, 1) := by decide +kernel
theorem dX5_opened_45 : decode cX5_opened 45 = .ok (.if_icmp .gt 56, 3) := by decide +kernel
theorem dX5_opened_48 : decode cX5_opened 48 = .ok (.iload 5, 2) := by decide +kernel
theorem dX5_opened_50 : decode cX5_opened 50 = .ok (.iload_n 2, 1) := by decide +kernel
theorem dX5_opened_51 : decode cX5_opened 51 = .ok (.if_icmp .ge 50, 3) := by decide +kernel
theorem dX5_opened_54 : decode cX5_opened 54 = .ok (.iload_n 3, 1) := by decide +kernel
theorem dX5_opened_55 : decode cX5_opened 55 = .ok (.iload 5, 2) := by decide +kernel
theorem dX5_opened_57 : decode cX5_opened 57 = .ok (.ishr, 1) := by decide +kernel
theorem dX5_opened_58 : decode cX5_opened 58 = .ok (.iconst 1, 1) := by decide +kernel
theorem dX5_opened_59 : decode cX5_opened 59 = .ok (.iand, 1) := by decide +kernel
theorem dX5_opened_60 : decode cX5_opened 60 = .ok (.ifCond .ne 35, 3) := by decide +kernel
theorem dX5_opened_63 : decode cX5_opened 63 = .ok (.iload 4, 2) := by decide +kernel
theorem dX5_opened_65 : decode cX5_opened 65 = .ok (.aload_n 0, 1) := by decide +kernel
theorem dX5_opened_66 : decode cX5_opened 66 = .ok (.getfield 53, 3) := by decide +kernel
theorem dX5_opened_69 : decode cX5_opened 69 = .ok (.iconst 3, 1) := by decide +kernel
theorem dX5_opened_70 : decode cX5_opened 70 = .ok (.iload_n 1, 1) := by decide +kernel
theorem dX5_opened_71 : decode cX5_opened 71 = .ok (.imul, 1) := by decide +kernel
theorem dX5_opened_72 : decode cX5_opened 72 = .ok (.iconst 2, 1) := by decide +kernel
theorem dX5_opened_73 : decode cX5_opened 73 = .ok (.iadd, 1) := by decide +kernel
theorem dX5_opened_74 : decode cX5_opened 74 = .ok (.iaload, 1) := by decide +kernel
theorem dX5_opened_75 : decode cX5_opened 75 = .ok (.aload_n 0, 1) := by decide +kernel
theorem dX5_opened_76 : decode cX5_opened 76 = .ok (.iload_n 1, 1) := by decide +kernel
theorem dX5_opened_77 : decode cX5_opened 77 = .ok (.iconst 1, 1) := by decide +kernel
theorem dX5_opened_78 : decode cX5_opened 78 = .ok (.iadd, 1) := by decide +kernel
theorem dX5_opened_79 : decode cX5_opened 79 = .ok (.iload_n 2, 1) := by decide +kernel
theorem dX5_opened_80 : decode cX5_opened 80 = .ok (.iload_n 3, 1) := by decide +kernel
theorem dX5_opened_81 : decode cX5_opened 81 = .ok (.iconst 1, 1) := by decide +kernel
theorem dX5_opened_82 : decode cX5_opened 82 = .ok (.iload 5, 2) := by decide +kernel
theorem dX5_opened_84 : decode cX5_opened 84 = .ok (.ishl, 1) := by decide +kernel
theorem dX5_opened_85 : decode cX5_opened 85 = .ok (.ior, 1) := by decide +kernel
theorem dX5_opened_86 : decode cX5_opened 86 = .ok (.invokevirtual 197, 3) := by decide +kernel
theorem dX5_opened_89 : decode cX5_opened 89 = .ok (.iadd, 1) := by decide +kernel
theorem dX5_opened_90 : decode cX5_opened 90 = .ok (.invokestatic 68, 3) := by decide +kernel
theorem dX5_opened_93 : decode cX5_opened 93 = .ok (.istore 4, 2) := by decide +kernel
theorem dX5_opened_95 : decode cX5_opened 95 = .ok (.iinc 5 1, 3) := by decide +kernel
theorem dX5_opened_98 : decode cX5_opened 98 = .ok (.goto (-65), 3) := by decide +kernel
theorem dX5_opened_101 : decode cX5_opened 101 = .ok (.iload 4, 2) := by decide +kernel
theorem dX5_opened_103 : decode cX5_opened 103 = .ok (.ireturn, 1) := by decide +kernel
theorem dX5_bottles_0 : decode cX5_bottles 0 = .ok (.iload_n 1, 1) := by decide +kernel
theorem dX5_bottles_1 : decode cX5_bottles 1 = .ok (.iconst 1, 1) := by decide +kernel
theorem dX5_bottles_2 : decode cX5_bottles 2 = .ok (.if_icmp .ge 10, 3) := by decide +kernel
theorem dX5_bottles_5 : decode cX5_bottles 5 = .ok (.aload_n 0, 1) := by decide +kernel
theorem dX5_bottles_6 : decode cX5_bottles 6 = .ok (.bipush (-4), 2) := by decide +kernel
theorem dX5_bottles_8 : decode cX5_bottles 8 = .ok (.invokevirtual 64, 3) := by decide +kernel
theorem dX5_bottles_11 : decode cX5_bottles 11 = .ok (.ireturn, 1) := by decide +kernel
theorem dX5_bottles_12 : decode cX5_bottles 12 = .ok (.iload_n 1, 1) := by decide +kernel
theorem dX5_bottles_13 : decode cX5_bottles 13 = .ok (.bipush 6, 2) := by decide +kernel
theorem dX5_bottles_15 : decode cX5_bottles 15 = .ok (.if_icmp .le 10, 3) := by decide +kernel
theorem dX5_bottles_18 : decode cX5_bottles 18 = .ok (.aload_n 0, 1) := by decide +kernel
theorem dX5_bottles_19 : decode cX5_bottles 19 = .ok (.bipush (-6), 2) := by decide +kernel
theorem dX5_bottles_21 : decode cX5_bottles 21 = .ok (.invokevirtual 64, 3) := by decide +kernel
theorem dX5_bottles_24 : decode cX5_bottles 24 = .ok (.ireturn, 1) := by decide +kernel
theorem dX5_bottles_25 : decode cX5_bottles 25 = .ok (.aload_n 0, 1) := by decide +kernel
theorem dX5_bottles_26 : decode cX5_bottles 26 = .ok (.getfield 194, 3) := by decide +kernel
theorem dX5_bottles_29 : decode cX5_bottles 29 = .ok (.iconst 3, 1) := by decide +kernel
theorem dX5_bottles_30 : decode cX5_bottles 30 = .ok (.irem, 1) := by decide +kernel
theorem dX5_bottles_31 : decode cX5_bottles 31 = .ok (.ifCond .ne 22, 3) := by decide +kernel
theorem dX5_bottles_34 : decode cX5_bottles 34 = .ok (.aload_n 0, 1) := by decide +kernel
theorem dX5_bottles_35 : decode cX5_bottles 35 = .ok (.getfield 194, 3) := by decide +kernel
theorem dX5_bottles_38 : decode cX5_bottles 38 = .ok (.bipush 18, 2) := by decide +kernel
theorem dX5_bottles_40 : decode cX5_bottles 40 = .ok (.if_icmp .gt 13, 3) := by decide +kernel
theorem dX5_bottles_43 : decode cX5_bottles 43 = .ok (.aload_n 0, 1) := by decide +kernel
theorem dX5_bottles_44 : decode cX5_bottles 44 = .ok (.iconst 0, 1) := by decide +kernel
theorem dX5_bottles_45 : decode cX5_bottles 45 = .ok (.iload_n 1, 1) := by decide +kernel
theorem dX5_bottles_46 : decode cX5_bottles 46 = .ok (.iconst 0, 1) := by decide +kernel
theorem dX5_bottles_47 : decode cX5_bottles 47 = .ok (.invokevirtual 197, 3) := by decide +kernel
theorem dX5_bottles_50 : decode cX5_bottles 50 = .ok (.goto 9, 3) := by decide +kernel
theorem dX5_bottles_53 : decode cX5_bottles 53 = .ok (.aload_n 0, 1) := by decide +kernel
theorem dX5_bottles_54 : decode cX5_bottles 54 = .ok (.bipush (-3), 2) := by decide +kernel
theorem dX5_bottles_56 : decode cX5_bottles 56 = .ok (.invokevirtual 64, 3) := by decide +kernel
theorem dX5_bottles_59 : decode cX5_bottles 59 = .ok (.ireturn, 1) := by decide +kernel
theorem dX5_row_0 : decode cX5_row 0 = .ok (.iload_n 1, 1) := by decide +kernel
theorem dX5_row_1 : decode cX5_row 1 = .ok (.ifCond .ge 10, 3) := by decide +kernel
theorem dX5_row_4 : decode cX5_row 4 = .ok (.aload_n 0, 1) := by decide +kernel
theorem dX5_row_5 : decode cX5_row 5 = .ok (.bipush (-4), 2) := by decide +kernel
theorem dX5_row_7 : decode cX5_row 7 = .ok (.invokevirtual 64, 3) := by decide +kernel
theorem dX5_row_10 : decode cX5_row 10 = .ok (.ireturn, 1) := by decide +kernel
theorem dX5_row_11 : decode cX5_row 11 = .ok (.iload_n 1, 1) := by decide +kernel
theorem dX5_row_12 : decode cX5_row 12 = .ok (.bipush 99, 2) := by decide +kernel
theorem dX5_row_14 : decode cX5_row 14 = .ok (.if_icmp .gt 12, 3) := by decide +kernel
theorem dX5_row_17 : decode cX5_row 17 = .ok (.aload_n 0, 1) := by decide +kernel
theorem dX5_row_18 : decode cX5_row 18 = .ok (.getfield 194, 3) := by decide +kernel
theorem dX5_row_21 : decode cX5_row 21 = .ok (.bipush 20, 2) := by decide +kernel
theorem dX5_row_23 : decode cX5_row 23 = .ok (.if_icmp .ne 10, 3) := by decide +kernel
theorem dX5_row_26 : decode cX5_row 26 = .ok (.aload_n 0, 1) := by decide +kernel
theorem dX5_row_27 : decode cX5_row 27 = .ok (.bipush (-6), 2) := by decide +kernel
theorem dX5_row_29 : decode cX5_row 29 = .ok (.invokevirtual 64, 3) := by decide +kernel
theorem dX5_row_32 : decode cX5_row 32 = .ok (.ireturn, 1) := by decide +kernel
theorem dX5_row_33 : decode cX5_row 33 = .ok (.aload_n 0, 1) := by decide +kernel
theorem dX5_row_34 : decode cX5_row 34 = .ok (.getfield 53, 3) := by decide +kernel
theorem dX5_row_37 : decode cX5_row 37 = .ok (.aload_n 0, 1) := by decide +kernel
theorem dX5_row_38 : decode cX5_row 38 = .ok (.getfield 194, 3) := by decide +kernel
theorem dX5_row_41 : decode cX5_row 41 = .ok (.iload_n 1, 1) := by decide +kernel
theorem dX5_row_42 : decode cX5_row 42 = .ok (.iastore, 1) := by decide +kernel
theorem dX5_row_43 : decode cX5_row 43 = .ok (.aload_n 0, 1) := by decide +kernel
theorem dX5_row_44 : decode cX5_row 44 = .ok (.dup, 1) := by decide +kernel
theorem dX5_row_45 : decode cX5_row 45 = .ok (.getfield 194, 3) := by decide +kernel
theorem dX5_row_48 : decode cX5_row 48 = .ok (.iconst 1, 1) := by decide +kernel
theorem dX5_row_49 : decode cX5_row 49 = .ok (.iadd, 1) := by decide +kernel
theorem dX5_row_50 : decode cX5_row 50 = .ok (.putfield 194, 3) := by decide +kernel
theorem dX5_row_53 : decode cX5_row 53 = .ok (.aload_n 0, 1) := by decide +kernel
theorem dX5_row_54 : decode cX5_row 54 = .ok (.getfield 194, 3) := by decide +kernel
theorem dX5_row_57 : decode cX5_row 57 = .ok (.ireturn, 1) := by decide +kernel
theorem dX5_fits_0 : decode cX5_fits 0 = .ok (.iconst 0, 1) := by decide +kernel
theorem dX5_fits_1 : decode cX5_fits 1 = .ok (.istore_n 1, 1) := by decide +kernel
theorem dX5_fits_2 : decode cX5_fits 2 = .ok (.iconst 0, 1) := by decide +kernel
theorem dX5_fits_3 : decode cX5_fits 3 = .ok (.istore_n 2, 1) := by decide +kernel
theorem dX5_fits_4 : decode cX5_fits 4 = .ok (.iload_n 2, 1) := by decide +kernel
theorem dX5_fits_5 : decode cX5_fits 5 = .ok (.bipush 6, 2) := by decide +kernel
theorem dX5_fits_7 : decode cX5_fits 7 = .ok (.if_icmp .ge 103, 3) := by decide +kernel
theorem dX5_fits_10 : decode cX5_fits 10 = .ok (.aload_n 0, 1) := by decide +kernel
theorem dX5_fits_11 : decode cX5_fits 11 = .ok (.getfield 13, 3) := by decide +kernel
theorem dX5_fits_14 : decode cX5_fits 14 = .ok (.aload_n 0, 1) := by decide +kernel
theorem dX5_fits_15 : decode cX5_fits 15 = .ok (.getfield 16, 3) := by decide +kernel
theorem dX5_fits_18 : decode cX5_fits 18 = .ok (.invokestatic 60, 3) := by decide +kernel
theorem dX5_fits_21 : decode cX5_fits 21 = .ok (.aload_n 0, 1) := by decide +kernel
theorem dX5_fits_22 : decode cX5_fits 22 = .ok (.getfield 16, 3) := by decide +kernel
theorem dX5_fits_25 : decode cX5_fits 25 = .ok (.bipush 7, 2) := by decide +kernel
theorem dX5_fits_27 : decode cX5_fits 27 = .ok (.iload_n 2, 1) := by decide +kernel
theorem dX5_fits_28 : decode cX5_fits 28 = .ok (.iastore, 1) := by decide +kernel
theorem dX5_fits_29 : decode cX5_fits 29 = .ok (.aload_n 0, 1) := by decide +kernel
theorem dX5_fits_30 : decode cX5_fits 30 = .ok (.aload_n 0, 1) := by decide +kernel
theorem dX5_fits_31 : decode cX5_fits 31 = .ok (.getfield 16, 3) := by decide +kernel
theorem dX5_fits_34 : decode cX5_fits 34 = .ok (.invokevirtual 107, 3) := by decide +kernel
theorem dX5_fits_37 : decode cX5_fits 37 = .ok (.iconst 1, 1) := by decide +kernel
theorem dX5_fits_38 : decode cX5_fits 38 = .ok (.istore_n 3, 1) := by decide +kernel
theorem dX5_fits_39 : decode cX5_fits 39 = .ok (.iconst 0, 1) := by decide +kernel
theorem dX5_fits_40 : decode cX5_fits 40 = .ok (.istore 4, 2) := by decide +kernel
theorem dX5_fits_42 : decode cX5_fits 42 = .ok (.iload 4, 2) := by decide +kernel
theorem dX5_fits_44 : decode cX5_fits 44 = .ok (.aload_n 0, 1) := by decide +kernel
theorem dX5_fits_45 : decode cX5_fits 45 = .ok (.getfield 194, 3) := by decide +kernel
theorem dX5_fits_48 : decode cX5_fits 48 = .ok (.if_icmp .ge 42, 3) := by decide +kernel
theorem dX5_fits_51 : decode cX5_fits 51 = .ok (.aload_n 0, 1) := by decide +kernel
theorem dX5_fits_52 : decode cX5_fits 52 = .ok (.aload_n 0, 1) := by decide +kernel
theorem dX5_fits_53 : decode cX5_fits 53 = .ok (.getfield 16, 3) := by decide +kernel
theorem dX5_fits_56 : decode cX5_fits 56 = .ok (.iconst 0, 1) := by decide +kernel
theorem dX5_fits_57 : decode cX5_fits 57 = .ok (.invokevirtual 111, 3) := by decide +kernel
theorem dX5_fits_60 : decode cX5_fits 60 = .ok (.iload_n 3, 1) := by decide +kernel
theorem dX5_fits_61 : decode cX5_fits 61 = .ok (.ifCond .eq 21, 3) := by decide +kernel
theorem dX5_fits_64 : decode cX5_fits 64 = .ok (.aload_n 0, 1) := by decide +kernel
theorem dX5_fits_65 : decode cX5_fits 65 = .ok (.getfield 104, 3) := by decide +kernel
theorem dX5_fits_68 : decode cX5_fits 68 = .ok (.aload_n 0, 1) := by decide +kernel
theorem dX5_fits_69 : decode cX5_fits 69 = .ok (.getfield 53, 3) := by decide +kernel
theorem dX5_fits_72 : decode cX5_fits 72 = .ok (.iload 4, 2) := by decide +kernel
theorem dX5_fits_74 : decode cX5_fits 74 = .ok (.iaload, 1) := by decide +kernel
theorem dX5_fits_75 : decode cX5_fits 75 = .ok (.if_icmp .ne 7, 3) := by decide +kernel
theorem dX5_fits_78 : decode cX5_fits 78 = .ok (.iconst 1, 1) := by decide +kernel
theorem dX5_fits_79 : decode cX5_fits 79 = .ok (.goto 4, 3) := by decide +kernel
theorem dX5_fits_82 : decode cX5_fits 82 = .ok (.iconst 0, 1) := by decide +kernel
theorem dX5_fits_83 : decode cX5_fits 83 = .ok (.istore_n 3, 1) := by decide +kernel
theorem dX5_fits_84 : decode cX5_fits 84 = .ok (.iinc 4 1, 3) := by decide +kernel
theorem dX5_fits_87 : decode cX5_fits 87 = .ok (.goto (-45), 3) := by decide +kernel
theorem dX5_fits_90 : decode cX5_fits 90 = .ok (.iload_n 1, 1) := by decide +kernel
theorem dX5_fits_91 : decode cX5_fits 91 = .ok (.iload_n 3, 1) := by decide +kernel
theorem dX5_fits_92 : decode cX5_fits 92 = .ok (.ifCond .eq 9, 3) := by decide +kernel
theorem dX5_fits_95 : decode cX5_fits 95 = .ok (.iconst 1, 1) := by decide +kernel
theorem dX5_fits_96 : decode cX5_fits 96 = .ok (.iload_n 2, 1) := by decide +kernel
theorem dX5_fits_97 : decode cX5_fits 97 = .ok (.ishl, 1) := by decide +kernel
theorem dX5_fits_98 : decode cX5_fits 98 = .ok (.goto 4, 3) := by decide +kernel
theorem dX5_fits_101 : decode cX5_fits 101 = .ok (.iconst 0, 1) := by decide +kernel
theorem dX5_fits_102 : decode cX5_fits 102 = .ok (.ior, 1) := by decide +kernel
theorem dX5_fits_103 : decode cX5_fits 103 = .ok (.istore_n 1, 1) := by decide +kernel
theorem dX5_fits_104 : decode cX5_fits 104 = .ok (.iinc 2 1, 3) := by decide +kernel
theorem dX5_fits_107 : decode cX5_fits 107 = .ok (.goto (-103), 3) := by decide +kernel
theorem dX5_fits_110 : decode cX5_fits 110 = .ok (.iload_n 1, 1) := by decide +kernel
theorem dX5_fits_111 : decode cX5_fits 111 = .ok (.ireturn, 1) := by decide +kernel
theorem dX5_judge_0 : decode cX5_judge 0 = .ok (.aload_n 0, 1) := by decide +kernel
theorem dX5_judge_1 : decode cX5_judge 1 = .ok (.getfield 13, 3) := by decide +kernel
theorem dX5_judge_4 : decode cX5_judge 4 = .ok (.aload_n 0, 1) := by decide +kernel
theorem dX5_judge_5 : decode cX5_judge 5 = .ok (.getfield 16, 3) := by decide +kernel
theorem dX5_judge_8 : decode cX5_judge 8 = .ok (.invokestatic 60, 3) := by decide +kernel
theorem dX5_judge_11 : decode cX5_judge 11 = .ok (.aload_n 0, 1) := by decide +kernel
theorem dX5_judge_12 : decode cX5_judge 12 = .ok (.aload_n 0, 1) := by decide +kernel
theorem dX5_judge_13 : decode cX5_judge 13 = .ok (.getfield 16, 3) := by decide +kernel
theorem dX5_judge_16 : decode cX5_judge 16 = .ok (.invokevirtual 107, 3) := by decide +kernel
theorem dX5_judge_19 : decode cX5_judge 19 = .ok (.aload_n 0, 1) := by decide +kernel
theorem dX5_judge_20 : decode cX5_judge 20 = .ok (.aload_n 0, 1) := by decide +kernel
theorem dX5_judge_21 : decode cX5_judge 21 = .ok (.getfield 16, 3) := by decide +kernel
theorem dX5_judge_24 : decode cX5_judge 24 = .ok (.iconst 0, 1) := by decide +kernel
theorem dX5_judge_25 : decode cX5_judge 25 = .ok (.invokevirtual 111, 3) := by decide +kernel
theorem dX5_judge_28 : decode cX5_judge 28 = .ok (.bipush (-9), 2) := by decide +kernel
theorem dX5_judge_30 : decode cX5_judge 30 = .ok (.istore_n 1, 1) := by decide +kernel
theorem dX5_judge_31 : decode cX5_judge 31 = .ok (.aload_n 0, 1) := by decide +kernel
theorem dX5_judge_32 : decode cX5_judge 32 = .ok (.getfield 194, 3) := by decide +kernel
theorem dX5_judge_35 : decode cX5_judge 35 = .ok (.iconst 1, 1) := by decide +kernel
theorem dX5_judge_36 : decode cX5_judge 36 = .ok (.isub, 1) := by decide +kernel
theorem dX5_judge_37 : decode cX5_judge 37 = .ok (.istore_n 2, 1) := by decide +kernel
theorem dX5_judge_38 : decode cX5_judge 38 = .ok (.iload_n 2, 1) := by decide +kernel
theorem dX5_judge_39 : decode cX5_judge 39 = .ok (.ifCond .lt 38, 3) := by decide +kernel
theorem dX5_judge_42 : decode cX5_judge 42 = .ok (.iload_n 2, 1) := by decide +kernel
theorem dX5_judge_43 : decode cX5_judge 43 = .ok (.aload_n 0, 1) := by decide +kernel
theorem dX5_judge_44 : decode cX5_judge 44 = .ok (.getfield 94, 3) := by decide +kernel
theorem dX5_judge_47 : decode cX5_judge 47 = .ok (.if_icmp .ge 18, 3) := by decide +kernel
theorem dX5_judge_50 : decode cX5_judge 50 = .ok (.aload_n 0, 1) := by decide +kernel
theorem dX5_judge_51 : decode cX5_judge 51 = .ok (.getfield 25, 3) := by decide +kernel
theorem dX5_judge_54 : decode cX5_judge 54 = .ok (.iload_n 2, 1) := by decide +kernel
theorem dX5_judge_55 : decode cX5_judge 55 = .ok (.iaload, 1) := by decide +kernel
theorem dX5_judge_56 : decode cX5_judge 56 = .ok (.aload_n 0, 1) := by decide +kernel
theorem dX5_judge_57 : decode cX5_judge 57 = .ok (.getfield 53, 3) := by decide +kernel
theorem dX5_judge_60 : decode cX5_judge 60 = .ok (.iload_n 2, 1) := by decide +kernel
theorem dX5_judge_61 : decode cX5_judge 61 = .ok (.iaload, 1) := by decide +kernel
theorem dX5_judge_62 : decode cX5_judge 62 = .ok (.if_icmp .eq 7, 3) := by decide +kernel
theorem dX5_judge_65 : decode cX5_judge 65 = .ok (.iload_n 2, 1) := by decide +kernel
theorem dX5_judge_66 : decode cX5_judge 66 = .ok (.goto 4, 3) := by decide +kernel
theorem dX5_judge_69 : decode cX5_judge 69 = .ok (.iload_n 1, 1) := by decide +kernel
theorem dX5_judge_70 : decode cX5_judge 70 = .ok (.istore_n 1, 1) := by decide +kernel
theorem dX5_judge_71 : decode cX5_judge 71 = .ok (.iinc 2 (-1), 3) := by decide +kernel
theorem dX5_judge_74 : decode cX5_judge 74 = .ok (.goto (-36), 3) := by decide +kernel
theorem dX5_judge_77 : decode cX5_judge 77 = .ok (.aload_n 0, 1) := by decide +kernel
theorem dX5_judge_78 : decode cX5_judge 78 = .ok (.iconst 0, 1) := by decide +kernel
theorem dX5_judge_79 : decode cX5_judge 79 = .ok (.putfield 194, 3) := by decide +kernel
theorem dX5_judge_82 : decode cX5_judge 82 = .ok (.iload_n 1, 1) := by decide +kernel
theorem dX5_judge_83 : decode cX5_judge 83 = .ok (.ireturn, 1) := by decide +kernel
theorem dX5_lots_0 : decode cX5_lots 0 = .ok (.iload_n 1, 1) := by decide +kernel
theorem dX5_lots_1 : decode cX5_lots 1 = .ok (.iconst 1, 1) := by decide +kernel
theorem dX5_lots_2 : decode cX5_lots 2 = .ok (.if_icmp .ge 10, 3) := by decide +kernel
theorem dX5_lots_5 : decode cX5_lots 5 = .ok (.aload_n 0, 1) := by decide +kernel
theorem dX5_lots_6 : decode cX5_lots 6 = .ok (.bipush (-4), 2) := by decide +kernel
theorem dX5_lots_8 : decode cX5_lots 8 = .ok (.invokevirtual 64, 3) := by decide +kernel
theorem dX5_lots_11 : decode cX5_lots 11 = .ok (.ireturn, 1) := by decide +kernel
theorem dX5_lots_12 : decode cX5_lots 12 = .ok (.iload_n 1, 1) := by decide +kernel
theorem dX5_lots_13 : decode cX5_lots 13 = .ok (.bipush 20, 2) := by decide +kernel
theorem dX5_lots_15 : decode cX5_lots 15 = .ok (.if_icmp .le 10, 3) := by decide +kernel
theorem dX5_lots_18 : decode cX5_lots 18 = .ok (.aload_n 0, 1) := by decide +kernel
theorem dX5_lots_19 : decode cX5_lots 19 = .ok (.bipush (-6), 2) := by decide +kernel
theorem dX5_lots_21 : decode cX5_lots 21 = .ok (.invokevirtual 64, 3) := by decide +kernel
theorem dX5_lots_24 : decode cX5_lots 24 = .ok (.ireturn, 1) := by decide +kernel
theorem dX5_lots_25 : decode cX5_lots 25 = .ok (.iload_n 2, 1) := by decide +kernel
theorem dX5_lots_26 : decode cX5_lots 26 = .ok (.istore_n 3, 1) := by decide +kernel
theorem dX5_lots_27 : decode cX5_lots 27 = .ok (.iconst 0, 1) := by decide +kernel
theorem dX5_lots_28 : decode cX5_lots 28 = .ok (.istore 4, 2) := by decide +kernel
theorem dX5_lots_30 : decode cX5_lots 30 = .ok (.iconst 0, 1) := by decide +kernel
theorem dX5_lots_31 : decode cX5_lots 31 = .ok (.istore 5, 2) := by decide +kernel
theorem dX5_lots_33 : decode cX5_lots 33 = .ok (.iload 5, 2) := by decide +kernel
theorem dX5_lots_35 : decode cX5_lots 35 = .ok (.iload_n 1, 1) := by decide +kernel
theorem dX5_lots_36 : decode cX5_lots 36 = .ok (.if_icmp .ge 114, 3) := by decide +kernel
theorem dX5_lots_39 : decode cX5_lots 39 = .ok (.aload_n 0, 1) := by decide +kernel
theorem dX5_lots_40 : decode cX5_lots 40 = .ok (.getfield 13, 3) := by decide +kernel
theorem dX5_lots_43 : decode cX5_lots 43 = .ok (.aload_n 0, 1) := by decide +kernel
theorem dX5_lots_44 : decode cX5_lots 44 = .ok (.getfield 16, 3) := by decide +kernel
theorem dX5_lots_47 : decode cX5_lots 47 = .ok (.invokestatic 60, 3) := by decide +kernel
theorem dX5_lots_50 : decode cX5_lots 50 = .ok (.iconst 0, 1) := by decide +kernel
theorem dX5_lots_51 : decode cX5_lots 51 = .ok (.istore 6, 2) := by decide +kernel
theorem dX5_lots_53 : decode cX5_lots 53 = .ok (.iload 6, 2) := by decide +kernel
theorem dX5_lots_55 : decode cX5_lots 55 = .ok (.bipush 28, 2) := by decide +kernel
theorem dX5_lots_57 : decode cX5_lots 57 = .ok (.if_icmp .ge 87, 3) := by decide +kernel
theorem dX5_lots_60 : decode cX5_lots 60 = .ok (.iconst 0, 1) := by decide +kernel
theorem dX5_lots_61 : decode cX5_lots 61 = .ok (.istore 7, 2) := by decide +kernel
theorem dX5_lots_63 : decode cX5_lots 63 = .ok (.iload 7, 2) := by decide +kernel
theorem dX5_lots_65 : decode cX5_lots 65 = .ok (.aload_n 0, 1) := by decide +kernel
theorem dX5_lots_66 : decode cX5_lots 66 = .ok (.getfield 16, 3) := by decide +kernel
theorem dX5_lots_69 : decode cX5_lots 69 = .ok (.iconst 0, 1) := by decide +kernel
theorem dX5_lots_70 : decode cX5_lots 70 = .ok (.iaload, 1) := by decide +kernel
theorem dX5_lots_71 : decode cX5_lots 71 = .ok (.if_icmp .ge 49, 3) := by decide +kernel
theorem dX5_lots_74 : decode cX5_lots 74 = .ok (.iload_n 3, 1) := by decide +kernel
theorem dX5_lots_75 : decode cX5_lots 75 = .ok (.ldc 200, 2) := by decide +kernel
theorem dX5_lots_77 : decode cX5_lots 77 = .ok (.imul, 1) := by decide +kernel
theorem dX5_lots_78 : decode cX5_lots 78 = .ok (.ldc 201, 2) := by decide +kernel
theorem dX5_lots_80 : decode cX5_lots 80 = .ok (.iadd, 1) := by decide +kernel
theorem dX5_lots_81 : decode cX5_lots 81 = .ok (.istore_n 3, 1) := by decide +kernel
theorem dX5_lots_82 : decode cX5_lots 82 = .ok (.aload_n 0, 1) := by decide +kernel
theorem dX5_lots_83 : decode cX5_lots 83 = .ok (.getfield 22, 3) := by decide +kernel
theorem dX5_lots_86 : decode cX5_lots 86 = .ok (.iload 7, 2) := by decide +kernel
theorem dX5_lots_88 : decode cX5_lots 88 = .ok (.iload_n 3, 1) := by decide +kernel
theorem dX5_lots_89 : decode cX5_lots 89 = .ok (.ldc 202, 2) := by decide +kernel
theorem dX5_lots_91 : decode cX5_lots 91 = .ok (.iand, 1) := by decide +kernel
theorem dX5_lots_92 : decode cX5_lots 92 = .ok (.sipush 256, 3) := by decide +kernel
theorem dX5_lots_95 : decode cX5_lots 95 = .ok (.idiv, 1) := by decide +kernel
theorem dX5_lots_96 : decode cX5_lots 96 = .ok (.aload_n 0, 1) := by decide +kernel
theorem dX5_lots_97 : decode cX5_lots 97 = .ok (.getfield 16, 3) := by decide +kernel
theorem dX5_lots_100 : decode cX5_lots 100 = .ok (.bipush 30, 2) := by decide +kernel
theorem dX5_lots_102 : decode cX5_lots 102 = .ok (.iconst 4, 1) := by decide +kernel
theorem dX5_lots_103 : decode cX5_lots 103 = .ok (.iload 7, 2) := by decide +kernel
theorem dX5_lots_105 : decode cX5_lots 105 = .ok (.imul, 1) := by decide +kernel
theorem dX5_lots_106 : decode cX5_lots 106 = .ok (.iadd, 1) := by decide +kernel
theorem dX5_lots_107 : decode cX5_lots 107 = .ok (.iconst 1, 1) := by decide +kernel
theorem dX5_lots_108 : decode cX5_lots 108 = .ok (.iadd, 1) := by decide +kernel
theorem dX5_lots_109 : decode cX5_lots 109 = .ok (.iaload, 1) := by decide +kernel
theorem dX5_lots_110 : decode cX5_lots 110 = .ok (.iconst 3, 1) := by decide +kernel
theorem dX5_lots_111 : decode cX5_lots 111 = .ok (.iadd, 1) := by decide +kernel
theorem dX5_lots_112 : decode cX5_lots 112 = .ok (.irem, 1) := by decide +kernel
theorem dX5_lots_113 : decode cX5_lots 113 = .ok (.iastore, 1) := by decide +kernel
theorem dX5_lots_114 : decode cX5_lots 114 = .ok (.iinc 7 1, 3) := by decide +kernel
theorem dX5_lots_117 : decode cX5_lots 117 = .ok (.goto (-54), 3) := by decide +kernel
theorem dX5_lots_120 : decode cX5_lots 120 = .ok (.aload_n 0, 1) := by decide +kernel
theorem dX5_lots_121 : decode cX5_lots 121 = .ok (.aload_n 0, 1) := by decide +kernel
theorem dX5_lots_122 : decode cX5_lots 122 = .ok (.getfield 16, 3) := by decide +kernel
theorem dX5_lots_125 : decode cX5_lots 125 = .ok (.iconst 0, 1) := by decide +kernel
theorem dX5_lots_126 : decode cX5_lots 126 = .ok (.invokevirtual 111, 3) := by decide +kernel
theorem dX5_lots_129 : decode cX5_lots 129 = .ok (.iload 4, 2) := by decide +kernel
theorem dX5_lots_131 : decode cX5_lots 131 = .ok (.aload_n 0, 1) := by decide +kernel
theorem dX5_lots_132 : decode cX5_lots 132 = .ok (.getfield 104, 3) := by decide +kernel
theorem dX5_lots_135 : decode cX5_lots 135 = .ok (.iadd, 1) := by decide +kernel
theorem dX5_lots_136 : decode cX5_lots 136 = .ok (.istore 4, 2) := by decide +kernel
theorem dX5_lots_138 : decode cX5_lots 138 = .ok (.iinc 6 1, 3) := by decide +kernel
theorem dX5_lots_141 : decode cX5_lots 141 = .ok (.goto (-88), 3) := by decide +kernel
theorem dX5_lots_144 : decode cX5_lots 144 = .ok (.iinc 5 1, 3) := by decide +kernel
theorem dX5_lots_147 : decode cX5_lots 147 = .ok (.goto (-114), 3) := by decide +kernel
theorem dX5_lots_150 : decode cX5_lots 150 = .ok (.iload 4, 2) := by decide +kernel
theorem dX5_lots_152 : decode cX5_lots 152 = .ok (.ireturn, 1) := by decide +kernel
theorem dX5_count_0 : decode cX5_count 0 = .ok (.iload_n 1, 1) := by decide +kernel
theorem dX5_count_1 : decode cX5_count 1 = .ok (.tableswitch 141 0 8 #[51, 58, 65, 73, 80, 85, 93, 131, 136], 51) := by decide +kernel
theorem dX5_count_52 : decode cX5_count 52 = .ok (.aload_n 0, 1) := by decide +kernel
theorem dX5_count_53 : decode cX5_count 53 = .ok (.getfield 13, 3) := by decide +kernel
theorem dX5_count_56 : decode cX5_count 56 = .ok (.iconst 0, 1) := by decide +kernel
theorem dX5_count_57 : decode cX5_count 57 = .ok (.iaload, 1) := by decide +kernel
theorem dX5_count_58 : decode cX5_count 58 = .ok (.ireturn, 1) := by decide +kernel
theorem dX5_count_59 : decode cX5_count 59 = .ok (.aload_n 0, 1) := by decide +kernel
theorem dX5_count_60 : decode cX5_count 60 = .ok (.getfield 13, 3) := by decide +kernel
theorem dX5_count_63 : decode cX5_count 63 = .ok (.iconst 1, 1) := by decide +kernel
theorem dX5_count_64 : decode cX5_count 64 = .ok (.iaload, 1) := by decide +kernel
theorem dX5_count_65 : decode cX5_count 65 = .ok (.ireturn, 1) := by decide +kernel
theorem dX5_count_66 : decode cX5_count 66 = .ok (.aload_n 0, 1) := by decide +kernel
theorem dX5_count_67 : decode cX5_count 67 = .ok (.getfield 13, 3) := by decide +kernel
theorem dX5_count_70 : decode cX5_count 70 = .ok (.invokestatic 167, 3) := by decide +kernel
theorem dX5_count_73 : decode cX5_count 73 = .ok (.ireturn, 1) := by decide +kernel
theorem dX5_count_74 : decode cX5_count 74 = .ok (.aload_n 0, 1) := by decide +kernel
theorem dX5_count_75 : decode cX5_count 75 = .ok (.getfield 13, 3) := by decide +kernel
theorem dX5_count_78 : decode cX5_count 78 = .ok (.iconst 2, 1) := by decide +kernel
theorem dX5_count_79 : decode cX5_count 79 = .ok (.iaload, 1) := by decide +kernel
theorem dX5_count_80 : decode cX5_count 80 = .ok (.ireturn, 1) := by decide +kernel
theorem dX5_count_81 : decode cX5_count 81 = .ok (.aload_n 0, 1) := by decide +kernel
theorem dX5_count_82 : decode cX5_count 82 = .ok (.invokevirtual 174, 3) := by decide +kernel
theorem dX5_count_85 : decode cX5_count 85 = .ok (.ireturn, 1) := by decide +kernel
theorem dX5_count_86 : decode cX5_count 86 = .ok (.aload_n 0, 1) := by decide +kernel
theorem dX5_count_87 : decode cX5_count 87 = .ok (.getfield 13, 3) := by decide +kernel
theorem dX5_count_90 : decode cX5_count 90 = .ok (.bipush 7, 2) := by decide +kernel
theorem dX5_count_92 : decode cX5_count 92 = .ok (.iaload, 1) := by decide +kernel
theorem dX5_count_93 : decode cX5_count 93 = .ok (.ireturn, 1) := by decide +kernel
theorem dX5_count_94 : decode cX5_count 94 = .ok (.iconst 0, 1) := by decide +kernel
theorem dX5_count_95 : decode cX5_count 95 = .ok (.istore_n 2, 1) := by decide +kernel
theorem dX5_count_96 : decode cX5_count 96 = .ok (.iconst 0, 1) := by decide +kernel
theorem dX5_count_97 : decode cX5_count 97 = .ok (.istore_n 3, 1) := by decide +kernel
theorem dX5_count_98 : decode cX5_count 98 = .ok (.iload_n 3, 1) := by decide +kernel
theorem dX5_count_99 : decode cX5_count 99 = .ok (.aload_n 0, 1) := by decide +kernel
theorem dX5_count_100 : decode cX5_count 100 = .ok (.getfield 13, 3) := by decide +kernel
theorem dX5_count_103 : decode cX5_count 103 = .ok (.iconst 0, 1) := by decide +kernel
theorem dX5_count_104 : decode cX5_count 104 = .ok (.iaload, 1) := by decide +kernel
theorem dX5_count_105 : decode cX5_count 105 = .ok (.if_icmp .ge 25, 3) := by decide +kernel
theorem dX5_count_108 : decode cX5_count 108 = .ok (.iload_n 2, 1) := by decide +kernel
theorem dX5_count_109 : decode cX5_count 109 = .ok (.aload_n 0, 1) := by decide +kernel
theorem dX5_count_110 : decode cX5_count 110 = .ok (.getfield 13, 3) := by decide +kernel
theorem dX5_count_113 : decode cX5_count 113 = .ok (.bipush 30, 2) := by decide +kernel
theorem dX5_count_115 : decode cX5_count 115 = .ok (.iconst 4, 1) := by decide +kernel
theorem dX5_count_116 : decode cX5_count 116 = .ok (.iload_n 3, 1) := by decide +kernel
theorem dX5_count_117 : decode cX5_count 117 = .ok (.imul, 1) := by decide +kernel
theorem dX5_count_118 : decode cX5_count 118 = .ok (.iadd, 1) := by decide +kernel
theorem dX5_count_119 : decode cX5_count 119 = .ok (.iconst 1, 1) := by decide +kernel
theorem dX5_count_120 : decode cX5_count 120 = .ok (.iadd, 1) := by decide +kernel
theorem dX5_count_121 : decode cX5_count 121 = .ok (.iaload, 1) := by decide +kernel
theorem dX5_count_122 : decode cX5_count 122 = .ok (.iadd, 1) := by decide +kernel
theorem dX5_count_123 : decode cX5_count 123 = .ok (.istore_n 2, 1) := by decide +kernel
theorem dX5_count_124 : decode cX5_count 124 = .ok (.iinc 3 1, 3) := by decide +kernel
theorem dX5_count_127 : decode cX5_count 127 = .ok (.goto (-29), 3) := by decide +kernel
theorem dX5_count_130 : decode cX5_count 130 = .ok (.iload_n 2, 1) := by decide +kernel
theorem dX5_count_131 : decode cX5_count 131 = .ok (.ireturn, 1) := by decide +kernel
theorem dX5_count_132 : decode cX5_count 132 = .ok (.aload_n 0, 1) := by decide +kernel
theorem dX5_count_133 : decode cX5_count 133 = .ok (.getfield 194, 3) := by decide +kernel
theorem dX5_count_136 : decode cX5_count 136 = .ok (.ireturn, 1) := by decide +kernel
theorem dX5_count_137 : decode cX5_count 137 = .ok (.aload_n 0, 1) := by decide +kernel
theorem dX5_count_138 : decode cX5_count 138 = .ok (.getfield 119, 3) := by decide +kernel
theorem dX5_count_141 : decode cX5_count 141 = .ok (.ireturn, 1) := by decide +kernel
theorem dX5_count_142 : decode cX5_count 142 = .ok (.iload_n 1, 1) := by decide +kernel
theorem dX5_count_143 : decode cX5_count 143 = .ok (.bipush 11, 2) := by decide +kernel
theorem dX5_count_145 : decode cX5_count 145 = .ok (.if_icmp .lt 21, 3) := by decide +kernel
theorem dX5_count_148 : decode cX5_count 148 = .ok (.iload_n 1, 1) := by decide +kernel
theorem dX5_count_149 : decode cX5_count 149 = .ok (.bipush 16, 2) := by decide +kernel
theorem dX5_count_151 : decode cX5_count 151 = .ok (.if_icmp .gt 15, 3) := by decide +kernel
theorem dX5_count_154 : decode cX5_count 154 = .ok (.aload_n 0, 1) := by decide +kernel
theorem dX5_count_155 : decode cX5_count 155 = .ok (.getfield 1, 3) := by decide +kernel
theorem dX5_count_158 : decode cX5_count 158 = .ok (.iload_n 1, 1) := by decide +kernel
theorem dX5_count_159 : decode cX5_count 159 = .ok (.bipush 10, 2) := by decide +kernel
theorem dX5_count_161 : decode cX5_count 161 = .ok (.isub, 1) := by decide +kernel
theorem dX5_count_162 : decode cX5_count 162 = .ok (.iaload, 1) := by decide +kernel
theorem dX5_count_163 : decode cX5_count 163 = .ok (.goto 5, 3) := by decide +kernel
theorem dX5_count_166 : decode cX5_count 166 = .ok (.bipush (-9), 2) := by decide +kernel
theorem dX5_count_168 : decode cX5_count 168 = .ok (.ireturn, 1) := by decide +kernel
