theorem rw_214_61 : mm_code 213 61 = some (.aload_n 0, 1, 0, 0, []) := rfl
theorem rw_214_62 : mm_code 213 62 = some (.iconst 3, 1, 3, 0, []) := rfl
theorem rw_214_63 : mm_code 213 63 = some (.invokevirtual 208, 3, 151, 2, [65, 0]) := rfl
theorem rw_214_66 : mm_code 213 66 = some (.ireturn, 1, 1, 0, []) := rfl
theorem rw_214_67 : mm_code 213 67 = some (.aload_n 0, 1, 0, 0, []) := rfl
theorem rw_214_68 : mm_code 213 68 = some (.invokevirtual 211, 3, 155, 1, [66, 0]) := rfl
theorem rw_214_71 : mm_code 213 71 = some (.aload_n 0, 1, 0, 0, []) := rfl
theorem rw_214_72 : mm_code 213 72 = some (.bipush 59, 2, 59, 0, []) := rfl
theorem rw_214_74 : mm_code 213 74 = some (.invokevirtual 280, 3, 159, 2, [87, 0]) := rfl
theorem rw_214_77 : mm_code 213 77 = some (.ireturn, 1, 1, 0, []) := rfl
theorem rw_215_0 : mm_code 214 0 = some (.aload_n 0, 1, 0, 0, []) := rfl
theorem rw_215_1 : mm_code 214 1 = some (.bipush 41, 2, 41, 0, []) := rfl
theorem rw_215_3 : mm_code 214 3 = some (.invokevirtual 205, 3, 158, 2, [64, 0]) := rfl
theorem rw_215_6 : mm_code 214 6 = some (.ifCond .eq 44, 3, 50, 0, []) := rfl
theorem rw_215_9 : mm_code 214 9 = some (.aload_n 0, 1, 0, 0, []) := rfl
theorem rw_215_10 : mm_code 214 10 = some (.getfield 364, 3, 11, 52, [0, 114]) := rfl
theorem rw_215_13 : mm_code 214 13 = some (.ifCond .le 37, 3, 50, 0, []) := rfl
theorem rw_215_16 : mm_code 214 16 = some (.aload_n 0, 1, 0, 0, []) := rfl
theorem rw_215_17 : mm_code 214 17 = some (.dup, 1, 0, 0, []) := rfl
theorem rw_215_18 : mm_code 214 18 = some (.getfield 364, 3, 11, 52, [0, 114]) := rfl
theorem rw_215_21 : mm_code 214 21 = some (.iconst 1, 1, 1, 0, []) := rfl
theorem rw_215_22 : mm_code 214 22 = some (.isub, 1, 0, 0, []) := rfl
theorem rw_215_23 : mm_code 214 23 = some (.putfield 364, 3, 11, 52, [0, 114]) := rfl
theorem rw_215_26 : mm_code 214 26 = some (.aload_n 0, 1, 0, 0, []) := rfl
theorem rw_215_27 : mm_code 214 27 = some (.getfield 97, 3, 11, 49, [3, 29]) := rfl
theorem rw_215_30 : mm_code 214 30 = some (.aload_n 0, 1, 0, 0, []) := rfl
theorem rw_215_31 : mm_code 214 31 = some (.getfield 106, 3, 11, 53, [3, 32]) := rfl
theorem rw_215_34 : mm_code 214 34 = some (.aload_n 0, 1, 0, 0, []) := rfl
theorem rw_215_35 : mm_code 214 35 = some (.getfield 364, 3, 11, 52, [0, 114]) := rfl
theorem rw_215_38 : mm_code 214 38 = some (.iaload, 1, 0, 0, []) := rfl
theorem rw_215_39 : mm_code 214 39 = some (.aload_n 0, 1, 0, 0, []) := rfl
theorem rw_215_40 : mm_code 214 40 = some (.getfield 367, 3, 11, 44, [0, 115]) := rfl
theorem rw_215_43 : mm_code 214 43 = some (.iastore, 1, 0, 0, []) := rfl
theorem rw_215_44 : mm_code 214 44 = some (.aload_n 0, 1, 0, 0, []) := rfl
theorem rw_215_45 : mm_code 214 45 = some (.invokevirtual 211, 3, 155, 1, [66, 0]) := rfl
theorem rw_215_48 : mm_code 214 48 = some (.iconst 1, 1, 1, 0, []) := rfl
theorem rw_215_49 : mm_code 214 49 = some (.ireturn, 1, 1, 0, []) := rfl
theorem rw_215_50 : mm_code 214 50 = some (.aload_n 0, 1, 0, 0, []) := rfl
theorem rw_215_51 : mm_code 214 51 = some (.getfield 185, 3, 11, 8, [0, 58]) := rfl
theorem rw_215_54 : mm_code 214 54 = some (.iconst 1, 1, 1, 0, []) := rfl
theorem rw_215_55 : mm_code 214 55 = some (.if_icmp .ne 30, 3, 85, 0, []) := rfl
theorem rw_215_58 : mm_code 214 58 = some (.aload_n 0, 1, 0, 0, []) := rfl
theorem rw_215_59 : mm_code 214 59 = some (.getfield 196, 3, 11, 9, [0, 61]) := rfl
theorem rw_215_62 : mm_code 214 62 = some (.bipush 7, 2, 7, 0, []) := rfl
theorem rw_215_64 : mm_code 214 64 = some (.if_icmp .eq 27, 3, 91, 0, []) := rfl
theorem rw_215_67 : mm_code 214 67 = some (.aload_n 0, 1, 0, 0, []) := rfl
theorem rw_215_68 : mm_code 214 68 = some (.getfield 196, 3, 11, 9, [0, 61]) := rfl
theorem rw_215_71 : mm_code 214 71 = some (.bipush 10, 2, 10, 0, []) := rfl
theorem rw_215_73 : mm_code 214 73 = some (.if_icmp .eq 18, 3, 91, 0, []) := rfl
theorem rw_215_76 : mm_code 214 76 = some (.aload_n 0, 1, 0, 0, []) := rfl
theorem rw_215_77 : mm_code 214 77 = some (.getfield 196, 3, 11, 9, [0, 61]) := rfl
theorem rw_215_80 : mm_code 214 80 = some (.bipush 11, 2, 11, 0, []) := rfl
theorem rw_215_82 : mm_code 214 82 = some (.if_icmp .eq 9, 3, 91, 0, []) := rfl
theorem rw_215_85 : mm_code 214 85 = some (.aload_n 0, 1, 0, 0, []) := rfl
theorem rw_215_86 : mm_code 214 86 = some (.iconst 1, 1, 1, 0, []) := rfl
theorem rw_215_87 : mm_code 214 87 = some (.invokevirtual 208, 3, 151, 2, [65, 0]) := rfl
theorem rw_215_90 : mm_code 214 90 = some (.ireturn, 1, 1, 0, []) := rfl
theorem rw_215_91 : mm_code 214 91 = some (.aload_n 0, 1, 0, 0, []) := rfl
theorem rw_215_92 : mm_code 214 92 = some (.getfield 367, 3, 11, 44, [0, 115]) := rfl
theorem rw_215_95 : mm_code 214 95 = some (.bipush 40, 2, 40, 0, []) := rfl
theorem rw_215_97 : mm_code 214 97 = some (.if_icmp .ne 9, 3, 106, 0, []) := rfl
theorem rw_215_100 : mm_code 214 100 = some (.aload_n 0, 1, 0, 0, []) := rfl
theorem rw_215_101 : mm_code 214 101 = some (.iconst 2, 1, 2, 0, []) := rfl
theorem rw_215_102 : mm_code 214 102 = some (.invokevirtual 208, 3, 151, 2, [65, 0]) := rfl
theorem rw_215_105 : mm_code 214 105 = some (.ireturn, 1, 1, 0, []) := rfl
theorem rw_215_106 : mm_code 214 106 = some (.aload_n 0, 1, 0, 0, []) := rfl
theorem rw_215_107 : mm_code 214 107 = some (.getfield 367, 3, 11, 44, [0, 115]) := rfl
theorem rw_215_110 : mm_code 214 110 = some (.istore_n 1, 1, 0, 0, []) := rfl
theorem rw_215_111 : mm_code 214 111 = some (.aload_n 0, 1, 0, 0, []) := rfl
theorem rw_215_112 : mm_code 214 112 = some (.getfield 85, 3, 11, 45, [3, 25]) := rfl
theorem rw_215_115 : mm_code 214 115 = some (.iload_n 1, 1, 0, 0, []) := rfl
theorem rw_215_116 : mm_code 214 116 = some (.aload_n 0, 1, 0, 0, []) := rfl
theorem rw_215_117 : mm_code 214 117 = some (.getfield 196, 3, 11, 9, [0, 61]) := rfl
theorem rw_215_120 : mm_code 214 120 = some (.bipush 7, 2, 7, 0, []) := rfl
theorem rw_215_122 : mm_code 214 122 = some (.if_icmp .ne 7, 3, 129, 0, []) := rfl
theorem rw_215_125 : mm_code 214 125 = some (.iconst 0, 1, 0, 0, []) := rfl
theorem rw_215_126 : mm_code 214 126 = some (.goto 17, 3, 143, 0, []) := rfl
theorem rw_215_129 : mm_code 214 129 = some (.aload_n 0, 1, 0, 0, []) := rfl
theorem rw_215_130 : mm_code 214 130 = some (.getfield 196, 3, 11, 9, [0, 61]) := rfl
theorem rw_215_133 : mm_code 214 133 = some (.bipush 10, 2, 10, 0, []) := rfl
theorem rw_215_135 : mm_code 214 135 = some (.if_icmp .ne 7, 3, 142, 0, []) := rfl
theorem rw_215_138 : mm_code 214 138 = some (.iconst 1, 1, 1, 0, []) := rfl
theorem rw_215_139 : mm_code 214 139 = some (.goto 4, 3, 143, 0, []) := rfl
theorem rw_215_142 : mm_code 214 142 = some (.iconst 2, 1, 2, 0, []) := rfl
theorem rw_215_143 : mm_code 214 143 = some (.iastore, 1, 0, 0, []) := rfl
theorem rw_215_144 : mm_code 214 144 = some (.aload_n 0, 1, 0, 0, []) := rfl
theorem rw_215_145 : mm_code 214 145 = some (.dup, 1, 0, 0, []) := rfl
theorem rw_215_146 : mm_code 214 146 = some (.getfield 367, 3, 11, 44, [0, 115]) := rfl
theorem rw_215_149 : mm_code 214 149 = some (.iconst 1, 1, 1, 0, []) := rfl
theorem rw_215_150 : mm_code 214 150 = some (.iadd, 1, 0, 0, []) := rfl
theorem rw_215_151 : mm_code 214 151 = some (.putfield 367, 3, 11, 44, [0, 115]) := rfl
theorem rw_215_154 : mm_code 214 154 = some (.aload_n 0, 1, 0, 0, []) := rfl
theorem rw_215_155 : mm_code 214 155 = some (.invokevirtual 211, 3, 155, 1, [66, 0]) := rfl
theorem rw_215_158 : mm_code 214 158 = some (.aload_n 0, 1, 0, 0, []) := rfl
theorem rw_215_159 : mm_code 214 159 = some (.getfield 85, 3, 11, 45, [3, 25]) := rfl
theorem rw_215_162 : mm_code 214 162 = some (.iload_n 1, 1, 0, 0, []) := rfl
theorem rw_215_163 : mm_code 214 163 = some (.iaload, 1, 0, 0, []) := rfl
theorem rw_215_164 : mm_code 214 164 = some (.ifCond .ne 9, 3, 173, 0, []) := rfl
theorem rw_215_167 : mm_code 214 167 = some (.aload_n 0, 1, 0, 0, []) := rfl
theorem rw_215_168 : mm_code 214 168 = some (.iload_n 1, 1, 0, 0, []) := rfl
theorem rw_215_169 : mm_code 214 169 = some (.invokevirtual 370, 3, 212, 2, [116, 0]) := rfl
theorem rw_215_172 : mm_code 214 172 = some (.ireturn, 1, 1, 0, []) := rfl
theorem rw_215_173 : mm_code 214 173 = some (.aload_n 0, 1, 0, 0, []) := rfl
theorem rw_215_174 : mm_code 214 174 = some (.getfield 85, 3, 11, 45, [3, 25]) := rfl
theorem rw_215_177 : mm_code 214 177 = some (.iload_n 1, 1, 0, 0, []) := rfl
theorem rw_215_178 : mm_code 214 178 = some (.iaload, 1, 0, 0, []) := rfl
theorem rw_215_179 : mm_code 214 179 = some (.iconst 1, 1, 1, 0, []) := rfl
theorem rw_215_180 : mm_code 214 180 = some (.if_icmp .ne 9, 3, 189, 0, []) := rfl
theorem rw_215_183 : mm_code 214 183 = some (.aload_n 0, 1, 0, 0, []) := rfl
theorem rw_215_184 : mm_code 214 184 = some (.iload_n 1, 1, 0, 0, []) := rfl
theorem rw_215_185 : mm_code 214 185 = some (.invokevirtual 373, 3, 213, 2, [117, 0]) := rfl
theorem rw_215_188 : mm_code 214 188 = some (.ireturn, 1, 1, 0, []) := rfl
theorem rw_215_189 : mm_code 214 189 = some (.aload_n 0, 1, 0, 0, []) := rfl
theorem rw_215_190 : mm_code 214 190 = some (.iconst 0, 1, 0, 0, []) := rfl
theorem rw_215_191 : mm_code 214 191 = some (.bipush 99, 2, 99, 0, []) := rfl
theorem rw_215_193 : mm_code 214 193 = some (.invokevirtual 266, 3, 161, 3, [83, 0]) := rfl
theorem rw_215_196 : mm_code 214 196 = some (.ifCond .ne 5, 3, 201, 0, []) := rfl
theorem rw_215_199 : mm_code 214 199 = some (.iconst 0, 1, 0, 0, []) := rfl
theorem rw_215_200 : mm_code 214 200 = some (.ireturn, 1, 1, 0, []) := rfl
theorem rw_215_201 : mm_code 214 201 = some (.aload_n 0, 1, 0, 0, []) := rfl
theorem rw_215_202 : mm_code 214 202 = some (.getfield 88, 3, 11, 46, [3, 26]) := rfl
theorem rw_215_205 : mm_code 214 205 = some (.iload_n 1, 1, 0, 0, []) := rfl
theorem rw_215_206 : mm_code 214 206 = some (.aload_n 0, 1, 0, 0, []) := rfl
theorem rw_215_207 : mm_code 214 207 = some (.getfield 196, 3, 11, 9, [0, 61]) := rfl
theorem rw_215_210 : mm_code 214 210 = some (.iastore, 1, 0, 0, []) := rfl
theorem rw_215_211 : mm_code 214 211 = some (.aload_n 0, 1, 0, 0, []) := rfl
theorem rw_215_212 : mm_code 214 212 = some (.invokevirtual 211, 3, 155, 1, [66, 0]) := rfl
theorem rw_215_215 : mm_code 214 215 = some (.aload_n 0, 1, 0, 0, []) := rfl
theorem rw_215_216 : mm_code 214 216 = some (.bipush 40, 2, 40, 0, []) := rfl
theorem rw_215_218 : mm_code 214 218 = some (.invokevirtual 205, 3, 158, 2, [64, 0]) := rfl
theorem rw_215_221 : mm_code 214 221 = some (.ifCond .ne 9, 3, 230, 0, []) := rfl
theorem rw_215_224 : mm_code 214 224 = some (.aload_n 0, 1, 0, 0, []) := rfl
theorem rw_215_225 : mm_code 214 225 = some (.iconst 1, 1, 1, 0, []) := rfl
theorem rw_215_226 : mm_code 214 226 = some (.invokevirtual 208, 3, 151, 2, [65, 0]) := rfl
theorem rw_215_229 : mm_code 214 229 = some (.ireturn, 1, 1, 0, []) := rfl
theorem rw_215_230 : mm_code 214 230 = some (.aload_n 0, 1, 0, 0, []) := rfl
theorem rw_215_231 : mm_code 214 231 = some (.getfield 364, 3, 11, 52, [0, 114]) := rfl
theorem rw_215_234 : mm_code 214 234 = some (.iconst 5, 1, 5, 0, []) := rfl
theorem rw_215_235 : mm_code 214 235 = some (.if_icmp .ne 9, 3, 244, 0, []) := rfl
theorem rw_215_238 : mm_code 214 238 = some (.aload_n 0, 1, 0, 0, []) := rfl
theorem rw_215_239 : mm_code 214 239 = some (.iconst 2, 1, 2, 0, []) := rfl
theorem rw_215_240 : mm_code 214 240 = some (.invokevirtual 208, 3, 151, 2, [65, 0]) := rfl
theorem rw_215_243 : mm_code 214 243 = some (.ireturn, 1, 1, 0, []) := rfl
theorem rw_215_244 : mm_code 214 244 = some (.aload_n 0, 1, 0, 0, []) := rfl
theorem rw_215_245 : mm_code 214 245 = some (.getfield 106, 3, 11, 53, [3, 32]) := rfl
theorem rw_215_248 : mm_code 214 248 = some (.aload_n 0, 1, 0, 0, []) := rfl
theorem rw_215_249 : mm_code 214 249 = some (.getfield 364, 3, 11, 52, [0, 114]) := rfl
theorem rw_215_252 : mm_code 214 252 = some (.iload_n 1, 1, 0, 0, []) := rfl
theorem rw_215_253 : mm_code 214 253 = some (.iastore, 1, 0, 0, []) := rfl
theorem rw_215_254 : mm_code 214 254 = some (.aload_n 0, 1, 0, 0, []) := rfl
theorem rw_215_255 : mm_code 214 255 = some (.dup, 1, 0, 0, []) := rfl
theorem rw_215_256 : mm_code 214 256 = some (.getfield 364, 3, 11, 52, [0, 114]) := rfl
theorem rw_215_259 : mm_code 214 259 = some (.iconst 1, 1, 1, 0, []) := rfl
theorem rw_215_260 : mm_code 214 260 = some (.iadd, 1, 0, 0, []) := rfl
theorem rw_215_261 : mm_code 214 261 = some (.putfield 364, 3, 11, 52, [0, 114]) := rfl
theorem rw_215_264 : mm_code 214 264 = some (.aload_n 0, 1, 0, 0, []) := rfl
theorem rw_215_265 : mm_code 214 265 = some (.invokevirtual 211, 3, 155, 1, [66, 0]) := rfl
theorem rw_215_268 : mm_code 214 268 = some (.iconst 1, 1, 1, 0, []) := rfl
theorem rw_215_269 : mm_code 214 269 = some (.ireturn, 1, 1, 0, []) := rfl
theorem rw_216_0 : mm_code 215 0 = some (.aload_n 0, 1, 0, 0, []) := rfl
theorem rw_216_1 : mm_code 215 1 = some (.getfield 100, 3, 11, 50, [3, 30]) := rfl
theorem rw_216_4 : mm_code 215 4 = some (.iload_n 1, 1, 0, 0, []) := rfl
theorem rw_216_5 : mm_code 215 5 = some (.laload, 1, 0, 0, []) := rfl
theorem rw_216_6 : mm_code 215 6 = some (.lstore_n 2, 1, 0, 0, []) := rfl
theorem rw_216_7 : mm_code 215 7 = some (.iconst 0, 1, 0, 0, []) := rfl
theorem rw_216_8 : mm_code 215 8 = some (.istore 4, 2, 0, 0, []) := rfl
theorem rw_216_10 : mm_code 215 10 = some (.iload 4, 2, 0, 0, []) := rfl
theorem rw_216_12 : mm_code 215 12 = some (.aload_n 0, 1, 0, 0, []) := rfl
theorem rw_216_13 : mm_code 215 13 = some (.getfield 236, 3, 11, 13, [0, 74]) := rfl
theorem rw_216_16 : mm_code 215 16 = some (.if_icmp .ge 38, 3, 54, 0, []) := rfl
theorem rw_216_19 : mm_code 215 19 = some (.lload_n 2, 1, 0, 0, []) := rfl
theorem rw_216_20 : mm_code 215 20 = some (.aload_n 0, 1, 0, 0, []) := rfl
theorem rw_216_21 : mm_code 215 21 = some (.getfield 103, 3, 11, 51, [3, 31]) := rfl
theorem rw_216_24 : mm_code 215 24 = some (.iload_n 1, 1, 0, 0, []) := rfl
theorem rw_216_25 : mm_code 215 25 = some (.iaload, 1, 0, 0, []) := rfl
theorem rw_216_26 : mm_code 215 26 = some (.iload 4, 2, 0, 0, []) := rfl
theorem rw_216_28 : mm_code 215 28 = some (.ishr, 1, 0, 0, []) := rfl
theorem rw_216_29 : mm_code 215 29 = some (.iconst 1, 1, 1, 0, []) := rfl
theorem rw_216_30 : mm_code 215 30 = some (.iand, 1, 0, 0, []) := rfl
theorem rw_216_31 : mm_code 215 31 = some (.iconst 1, 1, 1, 0, []) := rfl
theorem rw_216_32 : mm_code 215 32 = some (.if_icmp .ne 13, 3, 45, 0, []) := rfl
theorem rw_216_35 : mm_code 215 35 = some (.aload_n 0, 1, 0, 0, []) := rfl
theorem rw_216_36 : mm_code 215 36 = some (.getfield 67, 3, 11, 35, [3, 19]) := rfl
theorem rw_216_39 : mm_code 215 39 = some (.iload 4, 2, 0, 0, []) := rfl
theorem rw_216_41 : mm_code 215 41 = some (.laload, 1, 0, 0, []) := rfl
theorem rw_216_42 : mm_code 215 42 = some (.goto 4, 3, 46, 0, []) := rfl
theorem rw_216_45 : mm_code 215 45 = some (.lconst 0, 1, 0, 0, []) := rfl
theorem rw_216_46 : mm_code 215 46 = some (.lor, 1, 0, 0, []) := rfl
theorem rw_216_47 : mm_code 215 47 = some (.lstore_n 2, 1, 0, 0, []) := rfl
theorem rw_216_48 : mm_code 215 48 = some (.iinc 4 1, 3, 1, 0, []) := rfl
theorem rw_216_51 : mm_code 215 51 = some (.goto (-41), 3, 10, 0, []) := rfl
theorem rw_216_54 : mm_code 215 54 = some (.aload_n 0, 1, 0, 0, []) := rfl
theorem rw_216_55 : mm_code 215 55 = some (.getfield 88, 3, 11, 46, [3, 26]) := rfl
theorem rw_216_58 : mm_code 215 58 = some (.iload_n 1, 1, 0, 0, []) := rfl
theorem rw_216_59 : mm_code 215 59 = some (.iaload, 1, 0, 0, []) := rfl
theorem rw_216_60 : mm_code 215 60 = some (.istore 4, 2, 0, 0, []) := rfl
theorem rw_216_62 : mm_code 215 62 = some (.aload_n 0, 1, 0, 0, []) := rfl
theorem rw_216_63 : mm_code 215 63 = some (.getfield 82, 3, 11, 40, [3, 24]) := rfl
theorem rw_216_66 : mm_code 215 66 = some (.iload 4, 2, 0, 0, []) := rfl
theorem rw_216_68 : mm_code 215 68 = some (.iaload, 1, 0, 0, []) := rfl
theorem rw_216_69 : mm_code 215 69 = some (.istore 5, 2, 0, 0, []) := rfl
theorem rw_216_71 : mm_code 215 71 = some (.iconst 0, 1, 0, 0, []) := rfl
theorem rw_216_72 : mm_code 215 72 = some (.istore 6, 2, 0, 0, []) := rfl
theorem rw_216_74 : mm_code 215 74 = some (.iload 6, 2, 0, 0, []) := rfl
theorem rw_216_76 : mm_code 215 76 = some (.iload 5, 2, 0, 0, []) := rfl
theorem rw_216_78 : mm_code 215 78 = some (.if_icmp .ge 29, 3, 107, 0, []) := rfl
theorem rw_216_81 : mm_code 215 81 = some (.aload_n 0, 1, 0, 0, []) := rfl
theorem rw_216_82 : mm_code 215 82 = some (.getfield 109, 3, 11, 54, [3, 33]) := rfl
theorem rw_216_85 : mm_code 215 85 = some (.iload 6, 2, 0, 0, []) := rfl
theorem rw_216_87 : mm_code 215 87 = some (.aload_n 0, 1, 0, 0, []) := rfl
theorem rw_216_88 : mm_code 215 88 = some (.getfield 79, 3, 11, 39, [3, 23]) := rfl
theorem rw_216_91 : mm_code 215 91 = some (.bipush 30, 2, 30, 0, []) := rfl
theorem rw_216_93 : mm_code 215 93 = some (.iload 4, 2, 0, 0, []) := rfl
theorem rw_216_95 : mm_code 215 95 = some (.imul, 1, 0, 0, []) := rfl
theorem rw_216_96 : mm_code 215 96 = some (.iload 6, 2, 0, 0, []) := rfl
theorem rw_216_98 : mm_code 215 98 = some (.iadd, 1, 0, 0, []) := rfl
theorem rw_216_99 : mm_code 215 99 = some (.iaload, 1, 0, 0, []) := rfl
theorem rw_216_100 : mm_code 215 100 = some (.iastore, 1, 0, 0, []) := rfl
theorem rw_216_101 : mm_code 215 101 = some (.iinc 6 1, 3, 1, 0, []) := rfl
theorem rw_216_104 : mm_code 215 104 = some (.goto (-30), 3, 74, 0, []) := rfl
theorem rw_216_107 : mm_code 215 107 = some (.aload_n 0, 1, 0, 0, []) := rfl
theorem rw_216_108 : mm_code 215 108 = some (.getfield 82, 3, 11, 40, [3, 24]) := rfl
theorem rw_216_111 : mm_code 215 111 = some (.iload 4, 2, 0, 0, []) := rfl
theorem rw_216_113 : mm_code 215 113 = some (.iconst 0, 1, 0, 0, []) := rfl
theorem rw_216_114 : mm_code 215 114 = some (.iastore, 1, 0, 0, []) := rfl
theorem rw_216_115 : mm_code 215 115 = some (.iconst 0, 1, 0, 0, []) := rfl
theorem rw_216_116 : mm_code 215 116 = some (.istore 6, 2, 0, 0, []) := rfl
theorem rw_216_118 : mm_code 215 118 = some (.iload 6, 2, 0, 0, []) := rfl
theorem rw_216_120 : mm_code 215 120 = some (.iload 5, 2, 0, 0, []) := rfl
theorem rw_216_122 : mm_code 215 122 = some (.if_icmp .ge 50, 3, 172, 0, []) := rfl
theorem rw_216_125 : mm_code 215 125 = some (.aload_n 0, 1, 0, 0, []) := rfl
theorem rw_216_126 : mm_code 215 126 = some (.aload_n 0, 1, 0, 0, []) := rfl
theorem rw_216_127 : mm_code 215 127 = some (.aload_n 0, 1, 0, 0, []) := rfl
theorem rw_216_128 : mm_code 215 128 = some (.getfield 109, 3, 11, 54, [3, 33]) := rfl
theorem rw_216_131 : mm_code 215 131 = some (.iload 6, 2, 0, 0, []) := rfl
theorem rw_216_133 : mm_code 215 133 = some (.iaload, 1, 0, 0, []) := rfl
theorem rw_216_134 : mm_code 215 134 = some (.lload_n 2, 1, 0, 0, []) := rfl
theorem rw_216_135 : mm_code 215 135 = some (.invokevirtual 349, 3, 206, 3, [109, 0]) := rfl
theorem rw_216_138 : mm_code 215 138 = some (.ifCond .eq 12, 3, 150, 0, []) := rfl
theorem rw_216_141 : mm_code 215 141 = some (.aload_n 0, 1, 0, 0, []) := rfl
theorem rw_216_142 : mm_code 215 142 = some (.getfield 91, 3, 11, 47, [3, 27]) := rfl
theorem rw_216_145 : mm_code 215 145 = some (.iload_n 1, 1, 0, 0, []) := rfl
theorem rw_216_146 : mm_code 215 146 = some (.iaload, 1, 0, 0, []) := rfl
theorem rw_216_147 : mm_code 215 147 = some (.goto 9, 3, 156, 0, []) := rfl
theorem rw_216_150 : mm_code 215 150 = some (.aload_n 0, 1, 0, 0, []) := rfl
theorem rw_216_151 : mm_code 215 151 = some (.getfield 94, 3, 11, 48, [3, 28]) := rfl
theorem rw_216_154 : mm_code 215 154 = some (.iload_n 1, 1, 0, 0, []) := rfl
theorem rw_216_155 : mm_code 215 155 = some (.iaload, 1, 0, 0, []) := rfl
theorem rw_216_156 : mm_code 215 156 = some (.aload_n 0, 1, 0, 0, []) := rfl
theorem rw_216_157 : mm_code 215 157 = some (.getfield 109, 3, 11, 54, [3, 33]) := rfl
theorem rw_216_160 : mm_code 215 160 = some (.iload 6, 2, 0, 0, []) := rfl
theorem rw_216_162 : mm_code 215 162 = some (.iaload, 1, 0, 0, []) := rfl
theorem rw_216_163 : mm_code 215 163 = some (.invokevirtual 376, 3, 209, 3, [118, 0]) := rfl
theorem rw_216_166 : mm_code 215 166 = some (.iinc 6 1, 3, 1, 0, []) := rfl
theorem rw_216_169 : mm_code 215 169 = some (.goto (-51), 3, 118, 0, []) := rfl
theorem rw_216_172 : mm_code 215 172 = some (.aload_n 0, 1, 0, 0, []) := rfl
theorem rw_216_173 : mm_code 215 173 = some (.dup, 1, 0, 0, []) := rfl
theorem rw_216_174 : mm_code 215 174 = some (.getfield 380, 3, 11, 42, [0, 119]) := rfl
theorem rw_216_177 : mm_code 215 177 = some (.iconst 1, 1, 1, 0, []) := rfl
theorem rw_216_178 : mm_code 215 178 = some (.iadd, 1, 0, 0, []) := rfl
theorem rw_216_179 : mm_code 215 179 = some (.putfield 380, 3, 11, 42, [0, 119]) := rfl
theorem rw_216_182 : mm_code 215 182 = some (.return_, 1, 0, 0, []) := rfl
theorem rw_217_0 : mm_code 216 0 = some (.aload_n 0, 1, 0, 0, []) := rfl
theorem rw_217_1 : mm_code 216 1 = some (.getfield 88, 3, 11, 46, [3, 26]) := rfl
theorem rw_217_4 : mm_code 216 4 = some (.iload_n 1, 1, 0, 0, []) := rfl
theorem rw_217_5 : mm_code 216 5 = some (.iaload, 1, 0, 0, []) := rfl
theorem rw_217_6 : mm_code 216 6 = some (.istore_n 2, 1, 0, 0, []) := rfl
theorem rw_217_7 : mm_code 216 7 = some (.iconst 0, 1, 0, 0, []) := rfl
theorem rw_217_8 : mm_code 216 8 = some (.istore_n 3, 1, 0, 0, []) := rfl
theorem rw_217_9 : mm_code 216 9 = some (.iload_n 3, 1, 0, 0, []) := rfl
theorem rw_217_10 : mm_code 216 10 = some (.aload_n 0, 1, 0, 0, []) := rfl
theorem rw_217_11 : mm_code 216 11 = some (.getfield 82, 3, 11, 40, [3, 24]) := rfl
theorem rw_217_14 : mm_code 216 14 = some (.iload_n 2, 1, 0, 0, []) := rfl
theorem rw_217_15 : mm_code 216 15 = some (.iaload, 1, 0, 0, []) := rfl
theorem rw_217_16 : mm_code 216 16 = some (.if_icmp .ge 30, 3, 46, 0, []) := rfl
theorem rw_217_19 : mm_code 216 19 = some (.aload_n 0, 1, 0, 0, []) := rfl
theorem rw_217_20 : mm_code 216 20 = some (.aload_n 0, 1, 0, 0, []) := rfl
theorem rw_217_21 : mm_code 216 21 = some (.getfield 91, 3, 11, 47, [3, 27]) := rfl
theorem rw_217_24 : mm_code 216 24 = some (.iload_n 1, 1, 0, 0, []) := rfl
theorem rw_217_25 : mm_code 216 25 = some (.iaload, 1, 0, 0, []) := rfl
theorem rw_217_26 : mm_code 216 26 = some (.aload_n 0, 1, 0, 0, []) := rfl
theorem rw_217_27 : mm_code 216 27 = some (.getfield 79, 3, 11, 39, [3, 23]) := rfl
theorem rw_217_30 : mm_code 216 30 = some (.bipush 30, 2, 30, 0, []) := rfl
theorem rw_217_32 : mm_code 216 32 = some (.iload_n 2, 1, 0, 0, []) := rfl
theorem rw_217_33 : mm_code 216 33 = some (.imul, 1, 0, 0, []) := rfl
theorem rw_217_34 : mm_code 216 34 = some (.iload_n 3, 1, 0, 0, []) := rfl
theorem rw_217_35 : mm_code 216 35 = some (.iadd, 1, 0, 0, []) := rfl
theorem rw_217_36 : mm_code 216 36 = some (.iaload, 1, 0, 0, []) := rfl
theorem rw_217_37 : mm_code 216 37 = some (.invokevirtual 376, 3, 209, 3, [118, 0]) := rfl
theorem rw_217_40 : mm_code 216 40 = some (.iinc 3 1, 3, 1, 0, []) := rfl
theorem rw_217_43 : mm_code 216 43 = some (.goto (-34), 3, 9, 0, []) := rfl
theorem rw_217_46 : mm_code 216 46 = some (.aload_n 0, 1, 0, 0, []) := rfl
theorem rw_217_47 : mm_code 216 47 = some (.getfield 82, 3, 11, 40, [3, 24]) := rfl
theorem rw_217_50 : mm_code 216 50 = some (.iload_n 2, 1, 0, 0, []) := rfl
theorem rw_217_51 : mm_code 216 51 = some (.iconst 0, 1, 0, 0, []) := rfl
theorem rw_217_52 : mm_code 216 52 = some (.iastore, 1, 0, 0, []) := rfl
theorem rw_217_53 : mm_code 216 53 = some (.return_, 1, 0, 0, []) := rfl
theorem rw_218_0 : mm_code 217 0 = some (.aload_n 0, 1, 0, 0, []) := rfl
theorem rw_218_1 : mm_code 217 1 = some (.aload_n 0, 1, 0, 0, []) := rfl
theorem rw_218_2 : mm_code 217 2 = some (.getfield 242, 3, 11, 29, [0, 76]) := rfl
theorem rw_218_5 : mm_code 217 5 = some (.invokevirtual 326, 3, 188, 2, [102, 0]) := rfl
theorem rw_218_8 : mm_code 217 8 = some (.aload_n 0, 1, 0, 0, []) := rfl
theorem rw_218_9 : mm_code 217 9 = some (.iconst 0, 1, 0, 0, []) := rfl
theorem rw_218_10 : mm_code 217 10 = some (.putfield 380, 3, 11, 42, [0, 119]) := rfl
theorem rw_218_13 : mm_code 217 13 = some (.aload_n 0, 1, 0, 0, []) := rfl
theorem rw_218_14 : mm_code 217 14 = some (.iconst 0, 1, 0, 0, []) := rfl
theorem rw_218_15 : mm_code 217 15 = some (.putfield 383, 3, 11, 43, [0, 120]) := rfl
theorem rw_218_18 : mm_code 217 18 = some (.iconst 0, 1, 0, 0, []) := rfl
theorem rw_218_19 : mm_code 217 19 = some (.istore_n 1, 1, 0, 0, []) := rfl
theorem rw_218_20 : mm_code 217 20 = some (.iconst 0, 1, 0, 0, []) := rfl
theorem rw_218_21 : mm_code 217 21 = some (.istore_n 2, 1, 0, 0, []) := rfl
theorem rw_218_22 : mm_code 217 22 = some (.iload_n 1, 1, 0, 0, []) := rfl
theorem rw_218_23 : mm_code 217 23 = some (.ifCond .le 63, 3, 86, 0, []) := rfl
theorem rw_218_26 : mm_code 217 26 = some (.iload_n 2, 1, 0, 0, []) := rfl
theorem rw_218_27 : mm_code 217 27 = some (.aload_n 0, 1, 0, 0, []) := rfl
theorem rw_218_28 : mm_code 217 28 = some (.getfield 97, 3, 11, 49, [3, 29]) := rfl
theorem rw_218_31 : mm_code 217 31 = some (.aload_n 0, 1, 0, 0, []) := rfl
theorem rw_218_32 : mm_code 217 32 = some (.getfield 112, 3, 11, 55, [3, 34]) := rfl
theorem rw_218_35 : mm_code 217 35 = some (.iload_n 1, 1, 0, 0, []) := rfl
theorem rw_218_36 : mm_code 217 36 = some (.iconst 1, 1, 1, 0, []) := rfl
theorem rw_218_37 : mm_code 217 37 = some (.isub, 1, 0, 0, []) := rfl
theorem rw_218_38 : mm_code 217 38 = some (.iaload, 1, 0, 0, []) := rfl
theorem rw_218_39 : mm_code 217 39 = some (.iaload, 1, 0, 0, []) := rfl
theorem rw_218_40 : mm_code 217 40 = some (.if_icmp .ne 46, 3, 86, 0, []) := rfl
theorem rw_218_43 : mm_code 217 43 = some (.aload_n 0, 1, 0, 0, []) := rfl
theorem rw_218_44 : mm_code 217 44 = some (.getfield 115, 3, 11, 56, [3, 35]) := rfl
theorem rw_218_47 : mm_code 217 47 = some (.iload_n 1, 1, 0, 0, []) := rfl
theorem rw_218_48 : mm_code 217 48 = some (.iconst 1, 1, 1, 0, []) := rfl
theorem rw_218_49 : mm_code 217 49 = some (.isub, 1, 0, 0, []) := rfl
theorem rw_218_50 : mm_code 217 50 = some (.dup2, 1, 0, 0, []) := rfl
theorem rw_218_51 : mm_code 217 51 = some (.iaload, 1, 0, 0, []) := rfl
theorem rw_218_52 : mm_code 217 52 = some (.iconst 1, 1, 1, 0, []) := rfl
theorem rw_218_53 : mm_code 217 53 = some (.isub, 1, 0, 0, []) := rfl
theorem rw_218_54 : mm_code 217 54 = some (.iastore, 1, 0, 0, []) := rfl
theorem rw_218_55 : mm_code 217 55 = some (.aload_n 0, 1, 0, 0, []) := rfl
theorem rw_218_56 : mm_code 217 56 = some (.getfield 115, 3, 11, 56, [3, 35]) := rfl
theorem rw_218_59 : mm_code 217 59 = some (.iload_n 1, 1, 0, 0, []) := rfl
theorem rw_218_60 : mm_code 217 60 = some (.iconst 1, 1, 1, 0, []) := rfl
theorem rw_218_61 : mm_code 217 61 = some (.isub, 1, 0, 0, []) := rfl
theorem rw_218_62 : mm_code 217 62 = some (.iaload, 1, 0, 0, []) := rfl
theorem rw_218_63 : mm_code 217 63 = some (.ifCond .le 17, 3, 80, 0, []) := rfl
theorem rw_218_66 : mm_code 217 66 = some (.aload_n 0, 1, 0, 0, []) := rfl
theorem rw_218_67 : mm_code 217 67 = some (.getfield 112, 3, 11, 55, [3, 34]) := rfl
theorem rw_218_70 : mm_code 217 70 = some (.iload_n 1, 1, 0, 0, []) := rfl
theorem rw_218_71 : mm_code 217 71 = some (.iconst 1, 1, 1, 0, []) := rfl
theorem rw_218_72 : mm_code 217 72 = some (.isub, 1, 0, 0, []) := rfl
theorem rw_218_73 : mm_code 217 73 = some (.iaload, 1, 0, 0, []) := rfl
theorem rw_218_74 : mm_code 217 74 = some (.iconst 1, 1, 1, 0, []) := rfl
theorem rw_218_75 : mm_code 217 75 = some (.iadd, 1, 0, 0, []) := rfl
theorem rw_218_76 : mm_code 217 76 = some (.istore_n 2, 1, 0, 0, []) := rfl
theorem rw_218_77 : mm_code 217 77 = some (.goto (-55), 3, 22, 0, []) := rfl
theorem rw_218_80 : mm_code 217 80 = some (.iinc 1 (-1), 3, 1, 1, []) := rfl
theorem rw_218_83 : mm_code 217 83 = some (.goto (-61), 3, 22, 0, []) := rfl
theorem rw_218_86 : mm_code 217 86 = some (.iload_n 2, 1, 0, 0, []) := rfl
theorem rw_218_87 : mm_code 217 87 = some (.aload_n 0, 1, 0, 0, []) := rfl
theorem rw_218_88 : mm_code 217 88 = some (.getfield 367, 3, 11, 44, [0, 115]) := rfl
theorem rw_218_91 : mm_code 217 91 = some (.if_icmp .ne 5, 3, 96, 0, []) := rfl
theorem rw_218_94 : mm_code 217 94 = some (.iconst 0, 1, 0, 0, []) := rfl
theorem rw_218_95 : mm_code 217 95 = some (.ireturn, 1, 0, 0, []) := rfl
theorem rw_218_96 : mm_code 217 96 = some (.aload_n 0, 1, 0, 0, []) := rfl
theorem rw_218_97 : mm_code 217 97 = some (.getfield 383, 3, 11, 43, [0, 120]) := rfl
theorem rw_218_100 : mm_code 217 100 = some (.sipush 3000, 3, 3000, 0, []) := rfl
theorem rw_218_103 : mm_code 217 103 = some (.if_icmp .ne 5, 3, 108, 0, []) := rfl
theorem rw_218_106 : mm_code 217 106 = some (.iconst 1, 1, 1, 0, []) := rfl
theorem rw_218_107 : mm_code 217 107 = some (.ireturn, 1, 0, 0, []) := rfl
theorem rw_218_108 : mm_code 217 108 = some (.aload_n 0, 1, 0, 0, []) := rfl
theorem rw_218_109 : mm_code 217 109 = some (.dup, 1, 0, 0, []) := rfl
theorem rw_218_110 : mm_code 217 110 = some (.getfield 383, 3, 11, 43, [0, 120]) := rfl
theorem rw_218_113 : mm_code 217 113 = some (.iconst 1, 1, 1, 0, []) := rfl
theorem rw_218_114 : mm_code 217 114 = some (.iadd, 1, 0, 0, []) := rfl
theorem rw_218_115 : mm_code 217 115 = some (.putfield 383, 3, 11, 43, [0, 120]) := rfl
theorem rw_218_118 : mm_code 217 118 = some (.aload_n 0, 1, 0, 0, []) := rfl
theorem rw_218_119 : mm_code 217 119 = some (.getfield 85, 3, 11, 45, [3, 25]) := rfl
theorem rw_218_122 : mm_code 217 122 = some (.iload_n 2, 1, 0, 0, []) := rfl
theorem rw_218_123 : mm_code 217 123 = some (.iaload, 1, 0, 0, []) := rfl
theorem rw_218_124 : mm_code 217 124 = some (.ifCond .ne 8, 3, 132, 0, []) := rfl
theorem rw_218_127 : mm_code 217 127 = some (.aload_n 0, 1, 0, 0, []) := rfl
theorem rw_218_128 : mm_code 217 128 = some (.iload_n 2, 1, 0, 0, []) := rfl
theorem rw_218_129 : mm_code 217 129 = some (.invokevirtual 386, 3, 215, 2, [121, 0]) := rfl
theorem rw_218_132 : mm_code 217 132 = some (.aload_n 0, 1, 0, 0, []) := rfl
theorem rw_218_133 : mm_code 217 133 = some (.getfield 85, 3, 11, 45, [3, 25]) := rfl
theorem rw_218_136 : mm_code 217 136 = some (.iload_n 2, 1, 0, 0, []) := rfl
theorem rw_218_137 : mm_code 217 137 = some (.iaload, 1, 0, 0, []) := rfl
theorem rw_218_138 : mm_code 217 138 = some (.iconst 1, 1, 1, 0, []) := rfl
theorem rw_218_139 : mm_code 217 139 = some (.if_icmp .ne 8, 3, 147, 0, []) := rfl
theorem rw_218_142 : mm_code 217 142 = some (.aload_n 0, 1, 0, 0, []) := rfl
theorem rw_218_143 : mm_code 217 143 = some (.iload_n 2, 1, 0, 0, []) := rfl
theorem rw_218_144 : mm_code 217 144 = some (.invokevirtual 388, 3, 216, 2, [122, 0]) := rfl
theorem rw_218_147 : mm_code 217 147 = some (.aload_n 0, 1, 0, 0, []) := rfl
theorem rw_218_148 : mm_code 217 148 = some (.getfield 85, 3, 11, 45, [3, 25]) := rfl
theorem rw_218_151 : mm_code 217 151 = some (.iload_n 2, 1, 0, 0, []) := rfl
theorem rw_218_152 : mm_code 217 152 = some (.iaload, 1, 0, 0, []) := rfl
theorem rw_218_153 : mm_code 217 153 = some (.iconst 2, 1, 2, 0, []) := rfl
theorem rw_218_154 : mm_code 217 154 = some (.if_icmp .ge 9, 3, 163, 0, []) := rfl
theorem rw_218_157 : mm_code 217 157 = some (.iinc 2 1, 3, 1, 0, []) := rfl
theorem rw_218_160 : mm_code 217 160 = some (.goto (-138), 3, 22, 0, []) := rfl
theorem rw_218_163 : mm_code 217 163 = some (.aload_n 0, 1, 0, 0, []) := rfl
theorem rw_218_164 : mm_code 217 164 = some (.getfield 88, 3, 11, 46, [3, 26]) := rfl
theorem rw_218_167 : mm_code 217 167 = some (.iload_n 2, 1, 0, 0, []) := rfl
theorem rw_218_168 : mm_code 217 168 = some (.iaload, 1, 0, 0, []) := rfl
theorem rw_218_169 : mm_code 217 169 = some (.ifCond .ne 13, 3, 182, 0, []) := rfl
theorem rw_218_172 : mm_code 217 172 = some (.aload_n 0, 1, 0, 0, []) := rfl
theorem rw_218_173 : mm_code 217 173 = some (.getfield 97, 3, 11, 49, [3, 29]) := rfl
theorem rw_218_176 : mm_code 217 176 = some (.iload_n 2, 1, 0, 0, []) := rfl
theorem rw_218_177 : mm_code 217 177 = some (.iaload, 1, 0, 0, []) := rfl
theorem rw_218_178 : mm_code 217 178 = some (.istore_n 2, 1, 0, 0, []) := rfl
theorem rw_218_179 : mm_code 217 179 = some (.goto (-157), 3, 22, 0, []) := rfl
theorem rw_218_182 : mm_code 217 182 = some (.aload_n 0, 1, 0, 0, []) := rfl
theorem rw_218_183 : mm_code 217 183 = some (.getfield 112, 3, 11, 55, [3, 34]) := rfl
theorem rw_218_186 : mm_code 217 186 = some (.iload_n 1, 1, 0, 0, []) := rfl
theorem rw_218_187 : mm_code 217 187 = some (.iload_n 2, 1, 0, 0, []) := rfl
theorem rw_218_188 : mm_code 217 188 = some (.iastore, 1, 0, 0, []) := rfl
theorem rw_218_189 : mm_code 217 189 = some (.aload_n 0, 1, 0, 0, []) := rfl
theorem rw_218_190 : mm_code 217 190 = some (.getfield 115, 3, 11, 56, [3, 35]) := rfl
theorem rw_218_193 : mm_code 217 193 = some (.iload_n 1, 1, 0, 0, []) := rfl
theorem rw_218_194 : mm_code 217 194 = some (.aload_n 0, 1, 0, 0, []) := rfl
theorem rw_218_195 : mm_code 217 195 = some (.getfield 88, 3, 11, 46, [3, 26]) := rfl
theorem rw_218_198 : mm_code 217 198 = some (.iload_n 2, 1, 0, 0, []) := rfl
theorem rw_218_199 : mm_code 217 199 = some (.iaload, 1, 0, 0, []) := rfl
theorem rw_218_200 : mm_code 217 200 = some (.iastore, 1, 0, 0, []) := rfl
theorem rw_218_201 : mm_code 217 201 = some (.iinc 1 1, 3, 1, 0, []) := rfl
theorem rw_218_204 : mm_code 217 204 = some (.iinc 2 1, 3, 1, 0, []) := rfl
theorem rw_218_207 : mm_code 217 207 = some (.goto (-185), 3, 22, 0, []) := rfl
theorem rw_219_0 : mm_code 218 0 = some (.aload_n 0, 1, 0, 0, []) := rfl
theorem rw_219_1 : mm_code 218 1 = some (.iconst 0, 1, 0, 0, []) := rfl
theorem rw_219_2 : mm_code 218 2 = some (.putfield 163, 3, 11, 2, [0, 51]) := rfl
theorem rw_219_5 : mm_code 218 5 = some (.aload_n 0, 1, 0, 0, []) := rfl
theorem rw_219_6 : mm_code 218 6 = some (.iload_n 1, 1, 0, 0, []) := rfl
theorem rw_219_7 : mm_code 218 7 = some (.invokevirtual 283, 3, 162, 2, [88, 0]) := rfl
theorem rw_219_10 : mm_code 218 10 = some (.ifCond .ne 6, 3, 16, 0, []) := rfl
theorem rw_219_13 : mm_code 218 13 = some (.bipush (-2), 2, 2, 1, []) := rfl
theorem rw_219_15 : mm_code 218 15 = some (.ireturn, 1, 0, 0, []) := rfl
theorem rw_219_16 : mm_code 218 16 = some (.aload_n 0, 1, 0, 0, []) := rfl
theorem rw_219_17 : mm_code 218 17 = some (.iconst 0, 1, 0, 0, []) := rfl
theorem rw_219_18 : mm_code 218 18 = some (.putfield 367, 3, 11, 44, [0, 115]) := rfl
theorem rw_219_21 : mm_code 218 21 = some (.aload_n 0, 1, 0, 0, []) := rfl
theorem rw_219_22 : mm_code 218 22 = some (.iconst 0, 1, 0, 0, []) := rfl
theorem rw_219_23 : mm_code 218 23 = some (.putfield 364, 3, 11, 52, [0, 114]) := rfl
theorem rw_219_26 : mm_code 218 26 = some (.aload_n 0, 1, 0, 0, []) := rfl
theorem rw_219_27 : mm_code 218 27 = some (.getfield 185, 3, 11, 8, [0, 58]) := rfl
theorem rw_219_30 : mm_code 218 30 = some (.ifCond .ne 10, 3, 40, 0, []) := rfl
theorem rw_219_33 : mm_code 218 33 = some (.aload_n 0, 1, 0, 0, []) := rfl
theorem rw_219_34 : mm_code 218 34 = some (.getfield 364, 3, 11, 52, [0, 114]) := rfl
theorem rw_219_37 : mm_code 218 37 = some (.ifCond .le 12, 3, 49, 0, []) := rfl
theorem rw_219_40 : mm_code 218 40 = some (.aload_n 0, 1, 0, 0, []) := rfl
theorem rw_219_41 : mm_code 218 41 = some (.invokevirtual 391, 3, 214, 1, [123, 0]) := rfl
theorem rw_219_44 : mm_code 218 44 = some (.ifCond .ne (-18), 3, 26, 0, []) := rfl
theorem rw_219_47 : mm_code 218 47 = some (.iconst (-1), 1, 1, 1, []) := rfl
theorem rw_219_48 : mm_code 218 48 = some (.ireturn, 1, 0, 0, []) := rfl
theorem rw_219_49 : mm_code 218 49 = some (.aload_n 0, 1, 0, 0, []) := rfl
theorem rw_219_50 : mm_code 218 50 = some (.invokevirtual 394, 3, 217, 1, [124, 0]) := rfl
theorem rw_219_53 : mm_code 218 53 = some (.ireturn, 1, 0, 0, []) := rfl
theorem rw_220_0 : mm_code 219 0 = some (.iload_n 1, 1, 0, 0, []) := rfl
theorem rw_220_1 : mm_code 219 1 = some (.iconst 2, 1, 2, 0, []) := rfl
theorem rw_220_2 : mm_code 219 2 = some (.if_icmp .ne 7, 3, 9, 0, []) := rfl
theorem rw_220_5 : mm_code 219 5 = some (.iconst 3, 1, 3, 0, []) := rfl
theorem rw_220_6 : mm_code 219 6 = some (.goto 22, 3, 28, 0, []) := rfl
theorem rw_220_9 : mm_code 219 9 = some (.iload_n 1, 1, 0, 0, []) := rfl
theorem rw_220_10 : mm_code 219 10 = some (.iconst 3, 1, 3, 0, []) := rfl
theorem rw_220_11 : mm_code 219 11 = some (.if_icmp .ne 7, 3, 18, 0, []) := rfl
theorem rw_220_14 : mm_code 219 14 = some (.iconst 2, 1, 2, 0, []) := rfl
theorem rw_220_15 : mm_code 219 15 = some (.goto 13, 3, 28, 0, []) := rfl
theorem rw_220_18 : mm_code 219 18 = some (.iload_n 1, 1, 0, 0, []) := rfl
theorem rw_220_19 : mm_code 219 19 = some (.iconst 4, 1, 4, 0, []) := rfl
theorem rw_220_20 : mm_code 219 20 = some (.if_icmp .ne 7, 3, 27, 0, []) := rfl
theorem rw_220_23 : mm_code 219 23 = some (.iconst 1, 1, 1, 0, []) := rfl
theorem rw_220_24 : mm_code 219 24 = some (.goto 4, 3, 28, 0, []) := rfl
theorem rw_220_27 : mm_code 219 27 = some (.iconst 0, 1, 0, 0, []) := rfl
theorem rw_220_28 : mm_code 219 28 = some (.ireturn, 1, 0, 0, []) := rfl
theorem rw_221_0 : mm_code 220 0 = some (.aload_n 0, 1, 0, 0, []) := rfl
theorem rw_221_1 : mm_code 220 1 = some (.getfield 118, 3, 11, 60, [3, 36]) := rfl
theorem rw_221_4 : mm_code 220 4 = some (.bipush 40, 2, 40, 0, []) := rfl
theorem rw_221_6 : mm_code 220 6 = some (.aload_n 0, 1, 0, 0, []) := rfl
theorem rw_221_7 : mm_code 220 7 = some (.getfield 397, 3, 11, 59, [0, 125]) := rfl
theorem rw_221_10 : mm_code 220 10 = some (.iadd, 1, 0, 0, []) := rfl
theorem rw_221_11 : mm_code 220 11 = some (.iload_n 1, 1, 0, 0, []) := rfl
theorem rw_221_12 : mm_code 220 12 = some (.iastore, 1, 0, 0, []) := rfl
theorem rw_221_13 : mm_code 220 13 = some (.aload_n 0, 1, 0, 0, []) := rfl
theorem rw_221_14 : mm_code 220 14 = some (.getfield 121, 3, 11, 61, [3, 37]) := rfl
theorem rw_221_17 : mm_code 220 17 = some (.bipush 40, 2, 40, 0, []) := rfl
theorem rw_221_19 : mm_code 220 19 = some (.aload_n 0, 1, 0, 0, []) := rfl
theorem rw_221_20 : mm_code 220 20 = some (.getfield 397, 3, 11, 59, [0, 125]) := rfl
theorem rw_221_23 : mm_code 220 23 = some (.iadd, 1, 0, 0, []) := rfl
theorem rw_221_24 : mm_code 220 24 = some (.iload_n 2, 1, 0, 0, []) := rfl
theorem rw_221_25 : mm_code 220 25 = some (.iastore, 1, 0, 0, []) := rfl
theorem rw_221_26 : mm_code 220 26 = some (.aload_n 0, 1, 0, 0, []) := rfl
theorem rw_221_27 : mm_code 220 27 = some (.getfield 124, 3, 11, 62, [3, 38]) := rfl
theorem rw_221_30 : mm_code 220 30 = some (.bipush 40, 2, 40, 0, []) := rfl
theorem rw_221_32 : mm_code 220 32 = some (.aload_n 0, 1, 0, 0, []) := rfl
theorem rw_221_33 : mm_code 220 33 = some (.getfield 397, 3, 11, 59, [0, 125]) := rfl
theorem rw_221_36 : mm_code 220 36 = some (.iadd, 1, 0, 0, []) := rfl
theorem rw_221_37 : mm_code 220 37 = some (.iload_n 3, 1, 0, 0, []) := rfl
theorem rw_221_38 : mm_code 220 38 = some (.iastore, 1, 0, 0, []) := rfl
theorem rw_221_39 : mm_code 220 39 = some (.aload_n 0, 1, 0, 0, []) := rfl
theorem rw_221_40 : mm_code 220 40 = some (.getfield 130, 3, 11, 64, [3, 40]) := rfl
theorem rw_221_43 : mm_code 220 43 = some (.aload_n 0, 1, 0, 0, []) := rfl
theorem rw_221_44 : mm_code 220 44 = some (.getfield 400, 3, 11, 66, [0, 126]) := rfl
theorem rw_221_47 : mm_code 220 47 = some (.aload_n 0, 1, 0, 0, []) := rfl
theorem rw_221_48 : mm_code 220 48 = some (.getfield 397, 3, 11, 59, [0, 125]) := rfl
theorem rw_221_51 : mm_code 220 51 = some (.iastore, 1, 0, 0, []) := rfl
theorem rw_221_52 : mm_code 220 52 = some (.aload_n 0, 1, 0, 0, []) := rfl
theorem rw_221_53 : mm_code 220 53 = some (.dup, 1, 0, 0, []) := rfl
theorem rw_221_54 : mm_code 220 54 = some (.getfield 400, 3, 11, 66, [0, 126]) := rfl
theorem rw_221_57 : mm_code 220 57 = some (.iconst 1, 1, 1, 0, []) := rfl
theorem rw_221_58 : mm_code 220 58 = some (.iadd, 1, 0, 0, []) := rfl
theorem rw_221_59 : mm_code 220 59 = some (.putfield 400, 3, 11, 66, [0, 126]) := rfl
theorem rw_221_62 : mm_code 220 62 = some (.aload_n 0, 1, 0, 0, []) := rfl
theorem rw_221_63 : mm_code 220 63 = some (.dup, 1, 0, 0, []) := rfl
theorem rw_221_64 : mm_code 220 64 = some (.getfield 397, 3, 11, 59, [0, 125]) := rfl
theorem rw_221_67 : mm_code 220 67 = some (.iconst 1, 1, 1, 0, []) := rfl
theorem rw_221_68 : mm_code 220 68 = some (.iadd, 1, 0, 0, []) := rfl
theorem rw_221_69 : mm_code 220 69 = some (.putfield 397, 3, 11, 59, [0, 125]) := rfl
theorem rw_221_72 : mm_code 220 72 = some (.return_, 1, 0, 0, []) := rfl
theorem rw_222_0 : mm_code 221 0 = some (.aload_n 0, 1, 0, 0, []) := rfl
theorem rw_222_1 : mm_code 221 1 = some (.dup, 1, 0, 0, []) := rfl
theorem rw_222_2 : mm_code 221 2 = some (.getfield 400, 3, 11, 66, [0, 126]) := rfl
theorem rw_222_5 : mm_code 221 5 = some (.iconst 1, 1, 1, 0, []) := rfl
theorem rw_222_6 : mm_code 221 6 = some (.isub, 1, 0, 0, []) := rfl
theorem rw_222_7 : mm_code 221 7 = some (.putfield 400, 3, 11, 66, [0, 126]) := rfl
theorem rw_222_10 : mm_code 221 10 = some (.aload_n 0, 1, 0, 0, []) := rfl
theorem rw_222_11 : mm_code 221 11 = some (.getfield 130, 3, 11, 64, [3, 40]) := rfl
theorem rw_222_14 : mm_code 221 14 = some (.aload_n 0, 1, 0, 0, []) := rfl
theorem rw_222_15 : mm_code 221 15 = some (.getfield 400, 3, 11, 66, [0, 126]) := rfl
theorem rw_222_18 : mm_code 221 18 = some (.iaload, 1, 0, 0, []) := rfl
theorem rw_222_19 : mm_code 221 19 = some (.ireturn, 1, 0, 0, []) := rfl
theorem rw_223_0 : mm_code 222 0 = some (.aload_n 0, 1, 0, 0, []) := rfl
theorem rw_223_1 : mm_code 222 1 = some (.getfield 403, 3, 11, 65, [0, 127]) := rfl
theorem rw_223_4 : mm_code 222 4 = some (.ifCond .le 73, 3, 77, 0, []) := rfl
theorem rw_223_7 : mm_code 222 7 = some (.aload_n 0, 1, 0, 0, []) := rfl
theorem rw_223_8 : mm_code 222 8 = some (.aload_n 0, 1, 0, 0, []) := rfl
theorem rw_223_9 : mm_code 222 9 = some (.getfield 127, 3, 11, 63, [3, 39]) := rfl
theorem rw_223_12 : mm_code 222 12 = some (.aload_n 0, 1, 0, 0, []) := rfl
theorem rw_223_13 : mm_code 222 13 = some (.getfield 403, 3, 11, 65, [0, 127]) := rfl
theorem rw_223_16 : mm_code 222 16 = some (.iconst 1, 1, 1, 0, []) := rfl
theorem rw_223_17 : mm_code 222 17 = some (.isub, 1, 0, 0, []) := rfl
theorem rw_223_18 : mm_code 222 18 = some (.iaload, 1, 0, 0, []) := rfl
theorem rw_223_19 : mm_code 222 19 = some (.invokevirtual 406, 3, 219, 2, [128, 0]) := rfl
theorem rw_223_22 : mm_code 222 22 = some (.iload_n 1, 1, 0, 0, []) := rfl
theorem rw_223_23 : mm_code 222 23 = some (.if_icmp .lt 54, 3, 77, 0, []) := rfl
theorem rw_223_26 : mm_code 222 26 = some (.aload_n 0, 1, 0, 0, []) := rfl
theorem rw_223_27 : mm_code 222 27 = some (.dup, 1, 0, 0, []) := rfl
theorem rw_223_28 : mm_code 222 28 = some (.getfield 403, 3, 11, 65, [0, 127]) := rfl
theorem rw_223_31 : mm_code 222 31 = some (.iconst 1, 1, 1, 0, []) := rfl
theorem rw_223_32 : mm_code 222 32 = some (.isub, 1, 0, 0, []) := rfl
theorem rw_223_33 : mm_code 222 33 = some (.putfield 403, 3, 11, 65, [0, 127]) := rfl
theorem rw_223_36 : mm_code 222 36 = some (.aload_n 0, 1, 0, 0, []) := rfl
theorem rw_223_37 : mm_code 222 37 = some (.getfield 127, 3, 11, 63, [3, 39]) := rfl
theorem rw_223_40 : mm_code 222 40 = some (.aload_n 0, 1, 0, 0, []) := rfl
theorem rw_223_41 : mm_code 222 41 = some (.getfield 403, 3, 11, 65, [0, 127]) := rfl
theorem rw_223_44 : mm_code 222 44 = some (.iaload, 1, 0, 0, []) := rfl
theorem rw_223_45 : mm_code 222 45 = some (.istore_n 2, 1, 0, 0, []) := rfl
theorem rw_223_46 : mm_code 222 46 = some (.iload_n 2, 1, 0, 0, []) := rfl
theorem rw_223_47 : mm_code 222 47 = some (.iconst 2, 1, 2, 0, []) := rfl
theorem rw_223_48 : mm_code 222 48 = some (.if_icmp .ne 7, 3, 55, 0, []) := rfl
theorem rw_223_51 : mm_code 222 51 = some (.iconst (-1), 1, 1, 1, []) := rfl
theorem rw_223_52 : mm_code 222 52 = some (.goto 7, 3, 59, 0, []) := rfl
theorem rw_223_55 : mm_code 222 55 = some (.aload_n 0, 1, 0, 0, []) := rfl
theorem rw_223_56 : mm_code 222 56 = some (.invokevirtual 409, 3, 221, 1, [129, 0]) := rfl
theorem rw_223_59 : mm_code 222 59 = some (.istore_n 3, 1, 0, 0, []) := rfl
theorem rw_223_60 : mm_code 222 60 = some (.aload_n 0, 1, 0, 0, []) := rfl
theorem rw_223_61 : mm_code 222 61 = some (.invokevirtual 409, 3, 221, 1, [129, 0]) := rfl
theorem rw_223_64 : mm_code 222 64 = some (.istore 4, 2, 0, 0, []) := rfl
theorem rw_223_66 : mm_code 222 66 = some (.aload_n 0, 1, 0, 0, []) := rfl
theorem rw_223_67 : mm_code 222 67 = some (.iload_n 2, 1, 0, 0, []) := rfl
theorem rw_223_68 : mm_code 222 68 = some (.iload 4, 2, 0, 0, []) := rfl
theorem rw_223_70 : mm_code 222 70 = some (.iload_n 3, 1, 0, 0, []) := rfl
theorem rw_223_71 : mm_code 222 71 = some (.invokevirtual 412, 3, 220, 4, [130, 0]) := rfl
theorem rw_223_74 : mm_code 222 74 = some (.goto (-74), 3, 0, 0, []) := rfl
theorem rw_223_77 : mm_code 222 77 = some (.return_, 1, 0, 0, []) := rfl
theorem rw_224_0 : mm_code 223 0 = some (.aload_n 0, 1, 0, 0, []) := rfl
theorem rw_224_1 : mm_code 223 1 = some (.getfield 416, 3, 11, 69, [0, 131]) := rfl
theorem rw_224_4 : mm_code 223 4 = some (.bipush 40, 2, 40, 0, []) := rfl
theorem rw_224_6 : mm_code 223 6 = some (.if_icmp .ne 9, 3, 15, 0, []) := rfl
theorem rw_224_9 : mm_code 223 9 = some (.aload_n 0, 1, 0, 0, []) := rfl
theorem rw_224_10 : mm_code 223 10 = some (.iconst 2, 1, 2, 0, []) := rfl
theorem rw_224_11 : mm_code 223 11 = some (.invokevirtual 208, 3, 151, 2, [65, 0]) := rfl
theorem rw_224_14 : mm_code 223 14 = some (.ireturn, 1, 1, 0, []) := rfl
theorem rw_224_15 : mm_code 223 15 = some (.aload_n 0, 1, 0, 0, []) := rfl
theorem rw_224_16 : mm_code 223 16 = some (.dup, 1, 0, 0, []) := rfl
theorem rw_224_17 : mm_code 223 17 = some (.getfield 416, 3, 11, 69, [0, 131]) := rfl
theorem rw_224_20 : mm_code 223 20 = some (.iconst 1, 1, 1, 0, []) := rfl
theorem rw_224_21 : mm_code 223 21 = some (.iadd, 1, 0, 0, []) := rfl
theorem rw_224_22 : mm_code 223 22 = some (.putfield 416, 3, 11, 69, [0, 131]) := rfl
theorem rw_224_25 : mm_code 223 25 = some (.iconst 1, 1, 1, 0, []) := rfl
theorem rw_224_26 : mm_code 223 26 = some (.ireturn, 1, 1, 0, []) := rfl
theorem rw_225_0 : mm_code 224 0 = some (.aload_n 0, 1, 0, 0, []) := rfl
theorem rw_225_1 : mm_code 224 1 = some (.bipush 40, 2, 40, 0, []) := rfl
theorem rw_225_3 : mm_code 224 3 = some (.invokevirtual 205, 3, 158, 2, [64, 0]) := rfl
theorem rw_225_6 : mm_code 224 6 = some (.ifCond .eq 54, 3, 60, 0, []) := rfl
theorem rw_225_9 : mm_code 224 9 = some (.aload_n 0, 1, 0, 0, []) := rfl
theorem rw_225_10 : mm_code 224 10 = some (.getfield 419, 3, 11, 67, [0, 132]) := rfl
theorem rw_225_13 : mm_code 224 13 = some (.bipush 8, 2, 8, 0, []) := rfl
theorem rw_225_15 : mm_code 224 15 = some (.if_icmp .ne 9, 3, 24, 0, []) := rfl
theorem rw_225_18 : mm_code 224 18 = some (.aload_n 0, 1, 0, 0, []) := rfl
theorem rw_225_19 : mm_code 224 19 = some (.iconst 2, 1, 2, 0, []) := rfl
theorem rw_225_20 : mm_code 224 20 = some (.invokevirtual 208, 3, 151, 2, [65, 0]) := rfl
theorem rw_225_23 : mm_code 224 23 = some (.ireturn, 1, 1, 0, []) := rfl
theorem rw_225_24 : mm_code 224 24 = some (.aload_n 0, 1, 0, 0, []) := rfl
theorem rw_225_25 : mm_code 224 25 = some (.dup, 1, 0, 0, []) := rfl
theorem rw_225_26 : mm_code 224 26 = some (.getfield 419, 3, 11, 67, [0, 132]) := rfl
theorem rw_225_29 : mm_code 224 29 = some (.iconst 1, 1, 1, 0, []) := rfl
theorem rw_225_30 : mm_code 224 30 = some (.iadd, 1, 0, 0, []) := rfl
theorem rw_225_31 : mm_code 224 31 = some (.putfield 419, 3, 11, 67, [0, 132]) := rfl
theorem rw_225_34 : mm_code 224 34 = some (.aload_n 0, 1, 0, 0, []) := rfl
theorem rw_225_35 : mm_code 224 35 = some (.getfield 127, 3, 11, 63, [3, 39]) := rfl
theorem rw_225_38 : mm_code 224 38 = some (.aload_n 0, 1, 0, 0, []) := rfl
theorem rw_225_39 : mm_code 224 39 = some (.getfield 403, 3, 11, 65, [0, 127]) := rfl
theorem rw_225_42 : mm_code 224 42 = some (.iconst 0, 1, 0, 0, []) := rfl
theorem rw_225_43 : mm_code 224 43 = some (.iastore, 1, 0, 0, []) := rfl
theorem rw_225_44 : mm_code 224 44 = some (.aload_n 0, 1, 0, 0, []) := rfl
theorem rw_225_45 : mm_code 224 45 = some (.dup, 1, 0, 0, []) := rfl
theorem rw_225_46 : mm_code 224 46 = some (.getfield 403, 3, 11, 65, [0, 127]) := rfl
theorem rw_225_49 : mm_code 224 49 = some (.iconst 1, 1, 1, 0, []) := rfl
theorem rw_225_50 : mm_code 224 50 = some (.iadd, 1, 0, 0, []) := rfl
theorem rw_225_51 : mm_code 224 51 = some (.putfield 403, 3, 11, 65, [0, 127]) := rfl
theorem rw_225_54 : mm_code 224 54 = some (.aload_n 0, 1, 0, 0, []) := rfl
theorem rw_225_55 : mm_code 224 55 = some (.invokevirtual 211, 3, 155, 1, [66, 0]) := rfl
theorem rw_225_58 : mm_code 224 58 = some (.iconst 1, 1, 1, 0, []) := rfl
theorem rw_225_59 : mm_code 224 59 = some (.ireturn, 1, 1, 0, []) := rfl
theorem rw_225_60 : mm_code 224 60 = some (.aload_n 0, 1, 0, 0, []) := rfl
theorem rw_225_61 : mm_code 224 61 = some (.bipush 14, 2, 14, 0, []) := rfl
theorem rw_225_63 : mm_code 224 63 = some (.invokevirtual 214, 3, 157, 2, [67, 0]) := rfl
theorem rw_225_66 : mm_code 224 66 = some (.ifCond .eq 38, 3, 104, 0, []) := rfl
theorem rw_225_69 : mm_code 224 69 = some (.aload_n 0, 1, 0, 0, []) := rfl
theorem rw_225_70 : mm_code 224 70 = some (.invokevirtual 422, 3, 223, 1, [133, 0]) := rfl
theorem rw_225_73 : mm_code 224 73 = some (.ifCond .ne 5, 3, 78, 0, []) := rfl
theorem rw_225_76 : mm_code 224 76 = some (.iconst 0, 1, 0, 0, []) := rfl
theorem rw_225_77 : mm_code 224 77 = some (.ireturn, 1, 1, 0, []) := rfl
theorem rw_225_78 : mm_code 224 78 = some (.aload_n 0, 1, 0, 0, []) := rfl
theorem rw_225_79 : mm_code 224 79 = some (.getfield 127, 3, 11, 63, [3, 39]) := rfl
theorem rw_225_82 : mm_code 224 82 = some (.aload_n 0, 1, 0, 0, []) := rfl
theorem rw_225_83 : mm_code 224 83 = some (.getfield 403, 3, 11, 65, [0, 127]) := rfl
theorem rw_225_86 : mm_code 224 86 = some (.iconst 2, 1, 2, 0, []) := rfl
theorem rw_225_87 : mm_code 224 87 = some (.iastore, 1, 0, 0, []) := rfl
theorem rw_225_88 : mm_code 224 88 = some (.aload_n 0, 1, 0, 0, []) := rfl
theorem rw_225_89 : mm_code 224 89 = some (.dup, 1, 0, 0, []) := rfl
theorem rw_225_90 : mm_code 224 90 = some (.getfield 403, 3, 11, 65, [0, 127]) := rfl
theorem rw_225_93 : mm_code 224 93 = some (.iconst 1, 1, 1, 0, []) := rfl
theorem rw_225_94 : mm_code 224 94 = some (.iadd, 1, 0, 0, []) := rfl
theorem rw_225_95 : mm_code 224 95 = some (.putfield 403, 3, 11, 65, [0, 127]) := rfl
theorem rw_225_98 : mm_code 224 98 = some (.aload_n 0, 1, 0, 0, []) := rfl
theorem rw_225_99 : mm_code 224 99 = some (.invokevirtual 211, 3, 155, 1, [66, 0]) := rfl
theorem rw_225_102 : mm_code 224 102 = some (.iconst 1, 1, 1, 0, []) := rfl
theorem rw_225_103 : mm_code 224 103 = some (.ireturn, 1, 1, 0, []) := rfl
theorem rw_225_104 : mm_code 224 104 = some (.aload_n 0, 1, 0, 0, []) := rfl
theorem rw_225_105 : mm_code 224 105 = some (.getfield 185, 3, 11, 8, [0, 58]) := rfl
theorem rw_225_108 : mm_code 224 108 = some (.iconst 2, 1, 2, 0, []) := rfl
theorem rw_225_109 : mm_code 224 109 = some (.if_icmp .eq 9, 3, 118, 0, []) := rfl
theorem rw_225_112 : mm_code 224 112 = some (.aload_n 0, 1, 0, 0, []) := rfl
theorem rw_225_113 : mm_code 224 113 = some (.iconst 1, 1, 1, 0, []) := rfl
theorem rw_225_114 : mm_code 224 114 = some (.invokevirtual 208, 3, 151, 2, [65, 0]) := rfl
theorem rw_225_117 : mm_code 224 117 = some (.ireturn, 1, 1, 0, []) := rfl
theorem rw_225_118 : mm_code 224 118 = some (.aload_n 0, 1, 0, 0, []) := rfl
theorem rw_225_119 : mm_code 224 119 = some (.invokevirtual 422, 3, 223, 1, [133, 0]) := rfl
theorem rw_225_122 : mm_code 224 122 = some (.ifCond .ne 5, 3, 127, 0, []) := rfl
theorem rw_225_125 : mm_code 224 125 = some (.iconst 0, 1, 0, 0, []) := rfl
theorem rw_225_126 : mm_code 224 126 = some (.ireturn, 1, 1, 0, []) := rfl
theorem rw_225_127 : mm_code 224 127 = some (.aload_n 0, 1, 0, 0, []) := rfl
theorem rw_225_128 : mm_code 224 128 = some (.getfield 196, 3, 11, 9, [0, 61]) := rfl
theorem rw_225_131 : mm_code 224 131 = some (.istore_n 1, 1, 0, 0, []) := rfl
theorem rw_225_132 : mm_code 224 132 = some (.aload_n 0, 1, 0, 0, []) := rfl
theorem rw_225_133 : mm_code 224 133 = some (.getfield 176, 3, 11, 10, [0, 55]) := rfl
theorem rw_225_136 : mm_code 224 136 = some (.istore_n 2, 1, 0, 0, []) := rfl
theorem rw_225_137 : mm_code 224 137 = some (.aload_n 0, 1, 0, 0, []) := rfl
theorem rw_225_138 : mm_code 224 138 = some (.invokevirtual 211, 3, 155, 1, [66, 0]) := rfl
theorem rw_225_141 : mm_code 224 141 = some (.aload_n 0, 1, 0, 0, []) := rfl
theorem rw_225_142 : mm_code 224 142 = some (.bipush 61, 2, 61, 0, []) := rfl
theorem rw_225_144 : mm_code 224 144 = some (.invokevirtual 205, 3, 158, 2, [64, 0]) := rfl
theorem rw_225_147 : mm_code 224 147 = some (.istore_n 3, 1, 0, 0, []) := rfl
theorem rw_225_148 : mm_code 224 148 = some (.aload_n 0, 1, 0, 0, []) := rfl
theorem rw_225_149 : mm_code 224 149 = some (.iload_n 1, 1, 0, 0, []) := rfl
theorem rw_225_150 : mm_code 224 150 = some (.invokevirtual 290, 3, 174, 2, [90, 0]) := rfl
theorem rw_225_153 : mm_code 224 153 = some (.istore 4, 2, 0, 0, []) := rfl
theorem rw_225_155 : mm_code 224 155 = some (.aload_n 0, 1, 0, 0, []) := rfl
theorem rw_225_156 : mm_code 224 156 = some (.iload_n 1, 1, 0, 0, []) := rfl
theorem rw_225_157 : mm_code 224 157 = some (.invokevirtual 293, 3, 175, 2, [91, 0]) := rfl
theorem rw_225_160 : mm_code 224 160 = some (.istore 5, 2, 0, 0, []) := rfl
theorem rw_225_162 : mm_code 224 162 = some (.iload_n 3, 1, 0, 0, []) := rfl
theorem rw_225_163 : mm_code 224 163 = some (.ifCond .eq 15, 3, 178, 0, []) := rfl
theorem rw_225_166 : mm_code 224 166 = some (.aload_n 0, 1, 0, 0, []) := rfl
theorem rw_225_167 : mm_code 224 167 = some (.iload 4, 2, 0, 0, []) := rfl
theorem rw_225_169 : mm_code 224 169 = some (.invokevirtual 302, 3, 178, 2, [94, 0]) := rfl
theorem rw_225_172 : mm_code 224 172 = some (.ifCond .ne 22, 3, 194, 0, []) := rfl
theorem rw_225_175 : mm_code 224 175 = some (.goto 8, 3, 183, 0, []) := rfl
theorem rw_225_178 : mm_code 224 178 = some (.iload 5, 2, 0, 0, []) := rfl
theorem rw_225_180 : mm_code 224 180 = some (.ifCond .ge 14, 3, 194, 0, []) := rfl
theorem rw_225_183 : mm_code 224 183 = some (.aload_n 0, 1, 0, 0, []) := rfl
theorem rw_225_184 : mm_code 224 184 = some (.iload_n 2, 1, 0, 0, []) := rfl
theorem rw_225_185 : mm_code 224 185 = some (.putfield 176, 3, 11, 10, [0, 55]) := rfl
theorem rw_225_188 : mm_code 224 188 = some (.aload_n 0, 1, 0, 0, []) := rfl
theorem rw_225_189 : mm_code 224 189 = some (.iconst 4, 1, 4, 0, []) := rfl
theorem rw_225_190 : mm_code 224 190 = some (.invokevirtual 208, 3, 151, 2, [65, 0]) := rfl
theorem rw_225_193 : mm_code 224 193 = some (.ireturn, 1, 1, 0, []) := rfl
theorem rw_225_194 : mm_code 224 194 = some (.aload_n 0, 1, 0, 0, []) := rfl
theorem rw_225_195 : mm_code 224 195 = some (.iconst 1, 1, 1, 0, []) := rfl
theorem rw_225_196 : mm_code 224 196 = some (.putfield 425, 3, 11, 68, [0, 134]) := rfl
theorem rw_225_199 : mm_code 224 199 = some (.iload_n 3, 1, 0, 0, []) := rfl
theorem rw_225_200 : mm_code 224 200 = some (.ifCond .ne 13, 3, 213, 0, []) := rfl
theorem rw_225_203 : mm_code 224 203 = some (.aload_n 0, 1, 0, 0, []) := rfl
theorem rw_225_204 : mm_code 224 204 = some (.iconst 1, 1, 1, 0, []) := rfl
theorem rw_225_205 : mm_code 224 205 = some (.iload 5, 2, 0, 0, []) := rfl
theorem rw_225_207 : mm_code 224 207 = some (.iconst 0, 1, 0, 0, []) := rfl
theorem rw_225_208 : mm_code 224 208 = some (.invokevirtual 412, 3, 220, 4, [130, 0]) := rfl
theorem rw_225_211 : mm_code 224 211 = some (.iconst 1, 1, 1, 0, []) := rfl
theorem rw_225_212 : mm_code 224 212 = some (.ireturn, 1, 1, 0, []) := rfl
theorem rw_225_213 : mm_code 224 213 = some (.aload_n 0, 1, 0, 0, []) := rfl
theorem rw_225_214 : mm_code 224 214 = some (.invokevirtual 211, 3, 155, 1, [66, 0]) := rfl
theorem rw_225_217 : mm_code 224 217 = some (.aload_n 0, 1, 0, 0, []) := rfl
theorem rw_225_218 : mm_code 224 218 = some (.iconst 0, 1, 0, 0, []) := rfl
theorem rw_225_219 : mm_code 224 219 = some (.aload_n 0, 1, 0, 0, []) := rfl
theorem rw_225_220 : mm_code 224 220 = some (.getfield 32, 3, 11, 21, [3, 8]) := rfl
theorem rw_225_223 : mm_code 224 223 = some (.iload 4, 2, 0, 0, []) := rfl
theorem rw_225_225 : mm_code 224 225 = some (.iaload, 1, 0, 0, []) := rfl
theorem rw_225_226 : mm_code 224 226 = some (.iconst 1, 1, 1, 0, []) := rfl
theorem rw_225_227 : mm_code 224 227 = some (.isub, 1, 0, 0, []) := rfl
theorem rw_225_228 : mm_code 224 228 = some (.invokevirtual 266, 3, 161, 3, [83, 0]) := rfl
theorem rw_225_231 : mm_code 224 231 = some (.ifCond .ne 5, 3, 236, 0, []) := rfl
theorem rw_225_234 : mm_code 224 234 = some (.iconst 0, 1, 0, 0, []) := rfl
theorem rw_225_235 : mm_code 224 235 = some (.ireturn, 1, 1, 0, []) := rfl
theorem rw_225_236 : mm_code 224 236 = some (.aload_n 0, 1, 0, 0, []) := rfl
theorem rw_225_237 : mm_code 224 237 = some (.iconst 0, 1, 0, 0, []) := rfl
theorem rw_225_238 : mm_code 224 238 = some (.iload 4, 2, 0, 0, []) := rfl
theorem rw_225_240 : mm_code 224 240 = some (.aload_n 0, 1, 0, 0, []) := rfl
theorem rw_225_241 : mm_code 224 241 = some (.getfield 196, 3, 11, 9, [0, 61]) := rfl
theorem rw_225_244 : mm_code 224 244 = some (.invokevirtual 412, 3, 220, 4, [130, 0]) := rfl
theorem rw_225_247 : mm_code 224 247 = some (.aload_n 0, 1, 0, 0, []) := rfl
theorem rw_225_248 : mm_code 224 248 = some (.invokevirtual 211, 3, 155, 1, [66, 0]) := rfl
theorem rw_225_251 : mm_code 224 251 = some (.iconst 1, 1, 1, 0, []) := rfl
theorem rw_225_252 : mm_code 224 252 = some (.ireturn, 1, 1, 0, []) := rfl
theorem rw_226_0 : mm_code 225 0 = some (.aload_n 0, 1, 0, 0, []) := rfl
theorem rw_226_1 : mm_code 225 1 = some (.bipush 12, 2, 12, 0, []) := rfl
theorem rw_226_3 : mm_code 225 3 = some (.invokevirtual 214, 3, 157, 2, [67, 0]) := rfl
theorem rw_226_6 : mm_code 225 6 = some (.ifCond .ne 12, 3, 18, 0, []) := rfl
theorem rw_226_9 : mm_code 225 9 = some (.aload_n 0, 1, 0, 0, []) := rfl
theorem rw_226_10 : mm_code 225 10 = some (.bipush 13, 2, 13, 0, []) := rfl
theorem rw_226_12 : mm_code 225 12 = some (.invokevirtual 214, 3, 157, 2, [67, 0]) := rfl
theorem rw_226_15 : mm_code 225 15 = some (.ifCond .eq 67, 3, 82, 0, []) := rfl
theorem rw_226_18 : mm_code 225 18 = some (.aload_n 0, 1, 0, 0, []) := rfl
theorem rw_226_19 : mm_code 225 19 = some (.getfield 196, 3, 11, 9, [0, 61]) := rfl
theorem rw_226_22 : mm_code 225 22 = some (.bipush 12, 2, 12, 0, []) := rfl
theorem rw_226_24 : mm_code 225 24 = some (.if_icmp .ne 7, 3, 31, 0, []) := rfl
theorem rw_226_27 : mm_code 225 27 = some (.iconst 3, 1, 3, 0, []) := rfl
theorem rw_226_28 : mm_code 225 28 = some (.goto 4, 3, 32, 0, []) := rfl
theorem rw_226_31 : mm_code 225 31 = some (.iconst 4, 1, 4, 0, []) := rfl
theorem rw_226_32 : mm_code 225 32 = some (.istore_n 1, 1, 0, 0, []) := rfl
theorem rw_226_33 : mm_code 225 33 = some (.aload_n 0, 1, 0, 0, []) := rfl
theorem rw_226_34 : mm_code 225 34 = some (.invokevirtual 422, 3, 223, 1, [133, 0]) := rfl
theorem rw_226_37 : mm_code 225 37 = some (.ifCond .ne 5, 3, 42, 0, []) := rfl
theorem rw_226_40 : mm_code 225 40 = some (.iconst 0, 1, 0, 0, []) := rfl
theorem rw_226_41 : mm_code 225 41 = some (.ireturn, 1, 1, 0, []) := rfl
theorem rw_226_42 : mm_code 225 42 = some (.aload_n 0, 1, 0, 0, []) := rfl
theorem rw_226_43 : mm_code 225 43 = some (.aload_n 0, 1, 0, 0, []) := rfl
theorem rw_226_44 : mm_code 225 44 = some (.iload_n 1, 1, 0, 0, []) := rfl
theorem rw_226_45 : mm_code 225 45 = some (.invokevirtual 406, 3, 219, 2, [128, 0]) := rfl
theorem rw_226_48 : mm_code 225 48 = some (.invokevirtual 428, 3, 222, 2, [135, 0]) := rfl
theorem rw_226_51 : mm_code 225 51 = some (.aload_n 0, 1, 0, 0, []) := rfl
theorem rw_226_52 : mm_code 225 52 = some (.getfield 127, 3, 11, 63, [3, 39]) := rfl
theorem rw_226_55 : mm_code 225 55 = some (.aload_n 0, 1, 0, 0, []) := rfl
theorem rw_226_56 : mm_code 225 56 = some (.getfield 403, 3, 11, 65, [0, 127]) := rfl
theorem rw_226_59 : mm_code 225 59 = some (.iload_n 1, 1, 0, 0, []) := rfl
theorem rw_226_60 : mm_code 225 60 = some (.iastore, 1, 0, 0, []) := rfl
theorem rw_226_61 : mm_code 225 61 = some (.aload_n 0, 1, 0, 0, []) := rfl
theorem rw_226_62 : mm_code 225 62 = some (.dup, 1, 0, 0, []) := rfl
theorem rw_226_63 : mm_code 225 63 = some (.getfield 403, 3, 11, 65, [0, 127]) := rfl
theorem rw_226_66 : mm_code 225 66 = some (.iconst 1, 1, 1, 0, []) := rfl
theorem rw_226_67 : mm_code 225 67 = some (.iadd, 1, 0, 0, []) := rfl
theorem rw_226_68 : mm_code 225 68 = some (.putfield 403, 3, 11, 65, [0, 127]) := rfl
theorem rw_226_71 : mm_code 225 71 = some (.aload_n 0, 1, 0, 0, []) := rfl
theorem rw_226_72 : mm_code 225 72 = some (.iconst 0, 1, 0, 0, []) := rfl
theorem rw_226_73 : mm_code 225 73 = some (.putfield 425, 3, 11, 68, [0, 134]) := rfl
theorem rw_226_76 : mm_code 225 76 = some (.aload_n 0, 1, 0, 0, []) := rfl
theorem rw_226_77 : mm_code 225 77 = some (.invokevirtual 211, 3, 155, 1, [66, 0]) := rfl
theorem rw_226_80 : mm_code 225 80 = some (.iconst 1, 1, 1, 0, []) := rfl
theorem rw_226_81 : mm_code 225 81 = some (.ireturn, 1, 1, 0, []) := rfl
theorem rw_226_82 : mm_code 225 82 = some (.aload_n 0, 1, 0, 0, []) := rfl
theorem rw_226_83 : mm_code 225 83 = some (.bipush 41, 2, 41, 0, []) := rfl
theorem rw_226_85 : mm_code 225 85 = some (.invokevirtual 205, 3, 158, 2, [64, 0]) := rfl
theorem rw_226_88 : mm_code 225 88 = some (.ifCond .eq 10, 3, 98, 0, []) := rfl
theorem rw_226_91 : mm_code 225 91 = some (.aload_n 0, 1, 0, 0, []) := rfl
theorem rw_226_92 : mm_code 225 92 = some (.getfield 419, 3, 11, 67, [0, 132]) := rfl
theorem rw_226_95 : mm_code 225 95 = some (.ifCond .ne 9, 3, 104, 0, []) := rfl
theorem rw_226_98 : mm_code 225 98 = some (.aload_n 0, 1, 0, 0, []) := rfl
theorem rw_226_99 : mm_code 225 99 = some (.iconst 1, 1, 1, 0, []) := rfl
theorem rw_226_100 : mm_code 225 100 = some (.invokevirtual 208, 3, 151, 2, [65, 0]) := rfl
theorem rw_226_103 : mm_code 225 103 = some (.ireturn, 1, 1, 0, []) := rfl
theorem rw_226_104 : mm_code 225 104 = some (.aload_n 0, 1, 0, 0, []) := rfl
theorem rw_226_105 : mm_code 225 105 = some (.iconst 1, 1, 1, 0, []) := rfl
theorem rw_226_106 : mm_code 225 106 = some (.invokevirtual 428, 3, 222, 2, [135, 0]) := rfl
theorem rw_226_109 : mm_code 225 109 = some (.aload_n 0, 1, 0, 0, []) := rfl
theorem rw_226_110 : mm_code 225 110 = some (.dup, 1, 0, 0, []) := rfl
theorem rw_226_111 : mm_code 225 111 = some (.getfield 403, 3, 11, 65, [0, 127]) := rfl
theorem rw_226_114 : mm_code 225 114 = some (.iconst 1, 1, 1, 0, []) := rfl
theorem rw_226_115 : mm_code 225 115 = some (.isub, 1, 0, 0, []) := rfl
theorem rw_226_116 : mm_code 225 116 = some (.putfield 403, 3, 11, 65, [0, 127]) := rfl
theorem rw_226_119 : mm_code 225 119 = some (.aload_n 0, 1, 0, 0, []) := rfl
theorem rw_226_120 : mm_code 225 120 = some (.dup, 1, 0, 0, []) := rfl
theorem rw_226_121 : mm_code 225 121 = some (.getfield 419, 3, 11, 67, [0, 132]) := rfl
theorem rw_226_124 : mm_code 225 124 = some (.iconst 1, 1, 1, 0, []) := rfl
theorem rw_226_125 : mm_code 225 125 = some (.isub, 1, 0, 0, []) := rfl
theorem rw_226_126 : mm_code 225 126 = some (.putfield 419, 3, 11, 67, [0, 132]) := rfl
theorem rw_226_129 : mm_code 225 129 = some (.aload_n 0, 1, 0, 0, []) := rfl
theorem rw_226_130 : mm_code 225 130 = some (.invokevirtual 211, 3, 155, 1, [66, 0]) := rfl
theorem rw_226_133 : mm_code 225 133 = some (.iconst 1, 1, 1, 0, []) := rfl
theorem rw_226_134 : mm_code 225 134 = some (.ireturn, 1, 1, 0, []) := rfl
theorem rw_227_0 : mm_code 226 0 = some (.aload_n 0, 1, 0, 0, []) := rfl
theorem rw_227_1 : mm_code 226 1 = some (.iconst 0, 1, 0, 0, []) := rfl
theorem rw_227_2 : mm_code 226 2 = some (.putfield 163, 3, 11, 2, [0, 51]) := rfl
theorem rw_227_5 : mm_code 226 5 = some (.aload_n 0, 1, 0, 0, []) := rfl
theorem rw_227_6 : mm_code 226 6 = some (.iload_n 1, 1, 0, 0, []) := rfl
theorem rw_227_7 : mm_code 226 7 = some (.invokevirtual 283, 3, 162, 2, [88, 0]) := rfl
theorem rw_227_10 : mm_code 226 10 = some (.ifCond .ne 6, 3, 16, 0, []) := rfl
theorem rw_227_13 : mm_code 226 13 = some (.bipush (-2), 2, 2, 1, []) := rfl
theorem rw_227_15 : mm_code 226 15 = some (.ireturn, 1, 0, 0, []) := rfl
theorem rw_227_16 : mm_code 226 16 = some (.aload_n 0, 1, 0, 0, []) := rfl
theorem rw_227_17 : mm_code 226 17 = some (.iconst 0, 1, 0, 0, []) := rfl
theorem rw_227_18 : mm_code 226 18 = some (.putfield 397, 3, 11, 59, [0, 125]) := rfl
theorem rw_227_21 : mm_code 226 21 = some (.aload_n 0, 1, 0, 0, []) := rfl
theorem rw_227_22 : mm_code 226 22 = some (.iconst 0, 1, 0, 0, []) := rfl
theorem rw_227_23 : mm_code 226 23 = some (.putfield 416, 3, 11, 69, [0, 131]) := rfl
theorem rw_227_26 : mm_code 226 26 = some (.aload_n 0, 1, 0, 0, []) := rfl
theorem rw_227_27 : mm_code 226 27 = some (.iconst 0, 1, 0, 0, []) := rfl
theorem rw_227_28 : mm_code 226 28 = some (.putfield 403, 3, 11, 65, [0, 127]) := rfl
theorem rw_227_31 : mm_code 226 31 = some (.aload_n 0, 1, 0, 0, []) := rfl
theorem rw_227_32 : mm_code 226 32 = some (.iconst 0, 1, 0, 0, []) := rfl
theorem rw_227_33 : mm_code 226 33 = some (.putfield 400, 3, 11, 66, [0, 126]) := rfl
theorem rw_227_36 : mm_code 226 36 = some (.aload_n 0, 1, 0, 0, []) := rfl
theorem rw_227_37 : mm_code 226 37 = some (.iconst 0, 1, 0, 0, []) := rfl
theorem rw_227_38 : mm_code 226 38 = some (.putfield 419, 3, 11, 67, [0, 132]) := rfl
theorem rw_227_41 : mm_code 226 41 = some (.aload_n 0, 1, 0, 0, []) := rfl
theorem rw_227_42 : mm_code 226 42 = some (.iconst 0, 1, 0, 0, []) := rfl
theorem rw_227_43 : mm_code 226 43 = some (.putfield 425, 3, 11, 68, [0, 134]) := rfl
theorem rw_227_46 : mm_code 226 46 = some (.aload_n 0, 1, 0, 0, []) := rfl
theorem rw_227_47 : mm_code 226 47 = some (.getfield 185, 3, 11, 8, [0, 58]) := rfl
theorem rw_227_50 : mm_code 226 50 = some (.ifCond .ne 17, 3, 67, 0, []) := rfl
theorem rw_227_53 : mm_code 226 53 = some (.aload_n 0, 1, 0, 0, []) := rfl
theorem rw_227_54 : mm_code 226 54 = some (.getfield 425, 3, 11, 68, [0, 134]) := rfl
theorem rw_227_57 : mm_code 226 57 = some (.ifCond .eq 10, 3, 67, 0, []) := rfl
theorem rw_227_60 : mm_code 226 60 = some (.aload_n 0, 1, 0, 0, []) := rfl
theorem rw_227_61 : mm_code 226 61 = some (.getfield 419, 3, 11, 67, [0, 132]) := rfl
theorem rw_227_64 : mm_code 226 64 = some (.ifCond .le 29, 3, 93, 0, []) := rfl
theorem rw_227_67 : mm_code 226 67 = some (.aload_n 0, 1, 0, 0, []) := rfl
theorem rw_227_68 : mm_code 226 68 = some (.getfield 425, 3, 11, 68, [0, 134]) := rfl
theorem rw_227_71 : mm_code 226 71 = some (.ifCond .ne 13, 3, 84, 0, []) := rfl
theorem rw_227_74 : mm_code 226 74 = some (.aload_n 0, 1, 0, 0, []) := rfl
theorem rw_227_75 : mm_code 226 75 = some (.invokevirtual 431, 3, 224, 1, [136, 0]) := rfl
theorem rw_227_78 : mm_code 226 78 = some (.ifCond .eq 13, 3, 91, 0, []) := rfl
theorem rw_227_81 : mm_code 226 81 = some (.goto (-35), 3, 46, 0, []) := rfl
theorem rw_227_84 : mm_code 226 84 = some (.aload_n 0, 1, 0, 0, []) := rfl
theorem rw_227_85 : mm_code 226 85 = some (.invokevirtual 434, 3, 225, 1, [137, 0]) := rfl
theorem rw_227_88 : mm_code 226 88 = some (.ifCond .ne (-42), 3, 46, 0, []) := rfl
theorem rw_227_91 : mm_code 226 91 = some (.iconst (-1), 1, 1, 1, []) := rfl
theorem rw_227_92 : mm_code 226 92 = some (.ireturn, 1, 0, 0, []) := rfl
theorem rw_227_93 : mm_code 226 93 = some (.aload_n 0, 1, 0, 0, []) := rfl
theorem rw_227_94 : mm_code 226 94 = some (.iconst 1, 1, 1, 0, []) := rfl
theorem rw_227_95 : mm_code 226 95 = some (.invokevirtual 428, 3, 222, 2, [135, 0]) := rfl
theorem rw_227_98 : mm_code 226 98 = some (.aload_n 0, 1, 0, 0, []) := rfl
theorem rw_227_99 : mm_code 226 99 = some (.aload_n 0, 1, 0, 0, []) := rfl
theorem rw_227_100 : mm_code 226 100 = some (.getfield 397, 3, 11, 59, [0, 125]) := rfl
theorem rw_227_103 : mm_code 226 103 = some (.putfield 245, 3, 11, 58, [0, 77]) := rfl
theorem rw_227_106 : mm_code 226 106 = some (.aload_n 0, 1, 0, 0, []) := rfl
theorem rw_227_107 : mm_code 226 107 = some (.iconst 1, 1, 1, 0, []) := rfl
theorem rw_227_108 : mm_code 226 108 = some (.putfield 248, 3, 11, 57, [1, 78]) := rfl
theorem rw_227_111 : mm_code 226 111 = some (.iconst 0, 1, 0, 0, []) := rfl
theorem rw_227_112 : mm_code 226 112 = some (.istore_n 2, 1, 0, 0, []) := rfl
theorem rw_227_113 : mm_code 226 113 = some (.iload_n 2, 1, 0, 0, []) := rfl
theorem rw_227_114 : mm_code 226 114 = some (.aload_n 0, 1, 0, 0, []) := rfl
theorem rw_227_115 : mm_code 226 115 = some (.getfield 245, 3, 11, 58, [0, 77]) := rfl
theorem rw_227_118 : mm_code 226 118 = some (.if_icmp .ge 54, 3, 172, 0, []) := rfl
theorem rw_227_121 : mm_code 226 121 = some (.aload_n 0, 1, 0, 0, []) := rfl
theorem rw_227_122 : mm_code 226 122 = some (.getfield 118, 3, 11, 60, [3, 36]) := rfl
theorem rw_227_125 : mm_code 226 125 = some (.iload_n 2, 1, 0, 0, []) := rfl
theorem rw_227_126 : mm_code 226 126 = some (.aload_n 0, 1, 0, 0, []) := rfl
theorem rw_227_127 : mm_code 226 127 = some (.getfield 118, 3, 11, 60, [3, 36]) := rfl
theorem rw_227_130 : mm_code 226 130 = some (.bipush 40, 2, 40, 0, []) := rfl
theorem rw_227_132 : mm_code 226 132 = some (.iload_n 2, 1, 0, 0, []) := rfl
theorem rw_227_133 : mm_code 226 133 = some (.iadd, 1, 0, 0, []) := rfl
theorem rw_227_134 : mm_code 226 134 = some (.iaload, 1, 0, 0, []) := rfl
theorem rw_227_135 : mm_code 226 135 = some (.iastore, 1, 0, 0, []) := rfl
theorem rw_227_136 : mm_code 226 136 = some (.aload_n 0, 1, 0, 0, []) := rfl
theorem rw_227_137 : mm_code 226 137 = some (.getfield 121, 3, 11, 61, [3, 37]) := rfl
theorem rw_227_140 : mm_code 226 140 = some (.iload_n 2, 1, 0, 0, []) := rfl
theorem rw_227_141 : mm_code 226 141 = some (.aload_n 0, 1, 0, 0, []) := rfl
theorem rw_227_142 : mm_code 226 142 = some (.getfield 121, 3, 11, 61, [3, 37]) := rfl
theorem rw_227_145 : mm_code 226 145 = some (.bipush 40, 2, 40, 0, []) := rfl
theorem rw_227_147 : mm_code 226 147 = some (.iload_n 2, 1, 0, 0, []) := rfl
theorem rw_227_148 : mm_code 226 148 = some (.iadd, 1, 0, 0, []) := rfl
theorem rw_227_149 : mm_code 226 149 = some (.iaload, 1, 0, 0, []) := rfl
theorem rw_227_150 : mm_code 226 150 = some (.iastore, 1, 0, 0, []) := rfl
theorem rw_227_151 : mm_code 226 151 = some (.aload_n 0, 1, 0, 0, []) := rfl
theorem rw_227_152 : mm_code 226 152 = some (.getfield 124, 3, 11, 62, [3, 38]) := rfl
theorem rw_227_155 : mm_code 226 155 = some (.iload_n 2, 1, 0, 0, []) := rfl
theorem rw_227_156 : mm_code 226 156 = some (.aload_n 0, 1, 0, 0, []) := rfl
theorem rw_227_157 : mm_code 226 157 = some (.getfield 124, 3, 11, 62, [3, 38]) := rfl
theorem rw_227_160 : mm_code 226 160 = some (.bipush 40, 2, 40, 0, []) := rfl
theorem rw_227_162 : mm_code 226 162 = some (.iload_n 2, 1, 0, 0, []) := rfl
theorem rw_227_163 : mm_code 226 163 = some (.iadd, 1, 0, 0, []) := rfl
theorem rw_227_164 : mm_code 226 164 = some (.iaload, 1, 0, 0, []) := rfl
theorem rw_227_165 : mm_code 226 165 = some (.iastore, 1, 0, 0, []) := rfl
theorem rw_227_166 : mm_code 226 166 = some (.iinc 2 1, 3, 1, 0, []) := rfl
theorem rw_227_169 : mm_code 226 169 = some (.goto (-56), 3, 113, 0, []) := rfl
theorem rw_227_172 : mm_code 226 172 = some (.aload_n 0, 1, 0, 0, []) := rfl
theorem rw_227_173 : mm_code 226 173 = some (.getfield 245, 3, 11, 58, [0, 77]) := rfl
theorem rw_227_176 : mm_code 226 176 = some (.ireturn, 1, 0, 0, []) := rfl
theorem rw_228_0 : mm_code 227 0 = some (.iconst 0, 1, 0, 0, []) := rfl
theorem rw_228_1 : mm_code 227 1 = some (.istore_n 3, 1, 0, 0, []) := rfl
theorem rw_228_2 : mm_code 227 2 = some (.iload_n 3, 1, 0, 0, []) := rfl
theorem rw_228_3 : mm_code 227 3 = some (.aload_n 0, 1, 0, 0, []) := rfl
theorem rw_228_4 : mm_code 227 4 = some (.getfield 245, 3, 11, 58, [0, 77]) := rfl
theorem rw_228_7 : mm_code 227 7 = some (.if_icmp .ge 283, 3, 290, 0, []) := rfl
theorem rw_228_10 : mm_code 227 10 = some (.aload_n 0, 1, 0, 0, []) := rfl
theorem rw_228_11 : mm_code 227 11 = some (.getfield 121, 3, 11, 61, [3, 37]) := rfl
theorem rw_228_14 : mm_code 227 14 = some (.iload_n 3, 1, 0, 0, []) := rfl
theorem rw_228_15 : mm_code 227 15 = some (.iaload, 1, 0, 0, []) := rfl
theorem rw_228_16 : mm_code 227 16 = some (.istore 4, 2, 0, 0, []) := rfl
theorem rw_228_18 : mm_code 227 18 = some (.aload_n 0, 1, 0, 0, []) := rfl
theorem rw_228_19 : mm_code 227 19 = some (.getfield 124, 3, 11, 62, [3, 38]) := rfl
theorem rw_228_22 : mm_code 227 22 = some (.iload_n 3, 1, 0, 0, []) := rfl
theorem rw_228_23 : mm_code 227 23 = some (.iaload, 1, 0, 0, []) := rfl
theorem rw_228_24 : mm_code 227 24 = some (.istore 5, 2, 0, 0, []) := rfl
theorem rw_228_26 : mm_code 227 26 = some (.aload_n 0, 1, 0, 0, []) := rfl
theorem rw_228_27 : mm_code 227 27 = some (.getfield 118, 3, 11, 60, [3, 36]) := rfl
theorem rw_228_30 : mm_code 227 30 = some (.iload_n 3, 1, 0, 0, []) := rfl
theorem rw_228_31 : mm_code 227 31 = some (.iaload, 1, 0, 0, []) := rfl
theorem rw_228_32 : mm_code 227 32 = some (.tableswitch 221 0 3 #[32, 99, 163, 187], 32, 253, 0, [64, 131, 195, 219]) := rfl
theorem rw_228_64 : mm_code 227 64 = some (.aload_n 0, 1, 0, 0, []) := rfl
theorem rw_228_65 : mm_code 227 65 = some (.getfield 133, 3, 11, 70, [3, 41]) := rfl
theorem rw_228_68 : mm_code 227 68 = some (.iload_n 3, 1, 0, 0, []) := rfl
theorem rw_228_69 : mm_code 227 69 = some (.iload_n 2, 1, 0, 0, []) := rfl
theorem rw_228_70 : mm_code 227 70 = some (.ifCond .eq 28, 3, 98, 0, []) := rfl
theorem rw_228_73 : mm_code 227 73 = some (.aload_n 0, 1, 0, 0, []) := rfl
theorem rw_228_74 : mm_code 227 74 = some (.getfield 73, 3, 11, 37, [3, 21]) := rfl
theorem rw_228_77 : mm_code 227 77 = some (.bipush 8, 2, 8, 0, []) := rfl
theorem rw_228_79 : mm_code 227 79 = some (.iload_n 1, 1, 0, 0, []) := rfl
theorem rw_228_80 : mm_code 227 80 = some (.imul, 1, 0, 0, []) := rfl
theorem rw_228_81 : mm_code 227 81 = some (.iload 4, 2, 0, 0, []) := rfl
theorem rw_228_83 : mm_code 227 83 = some (.iadd, 1, 0, 0, []) := rfl
theorem rw_228_84 : mm_code 227 84 = some (.iaload, 1, 0, 0, []) := rfl
theorem rw_228_85 : mm_code 227 85 = some (.iload 5, 2, 0, 0, []) := rfl
theorem rw_228_87 : mm_code 227 87 = some (.if_icmp .ne 7, 3, 94, 0, []) := rfl
theorem rw_228_90 : mm_code 227 90 = some (.iconst 1, 1, 1, 0, []) := rfl
theorem rw_228_91 : mm_code 227 91 = some (.goto 36, 3, 127, 0, []) := rfl
theorem rw_228_94 : mm_code 227 94 = some (.iconst 0, 1, 0, 0, []) := rfl
theorem rw_228_95 : mm_code 227 95 = some (.goto 32, 3, 127, 0, []) := rfl
theorem rw_228_98 : mm_code 227 98 = some (.aload_n 0, 1, 0, 0, []) := rfl
theorem rw_228_99 : mm_code 227 99 = some (.iload 4, 2, 0, 0, []) := rfl
theorem rw_228_101 : mm_code 227 101 = some (.iload 5, 2, 0, 0, []) := rfl
theorem rw_228_103 : mm_code 227 103 = some (.invokevirtual 308, 3, 182, 3, [96, 0]) := rfl
theorem rw_228_106 : mm_code 227 106 = some (.aload_n 0, 1, 0, 0, []) := rfl
theorem rw_228_107 : mm_code 227 107 = some (.getfield 70, 3, 11, 36, [3, 20]) := rfl
theorem rw_228_110 : mm_code 227 110 = some (.iload_n 1, 1, 0, 0, []) := rfl
theorem rw_228_111 : mm_code 227 111 = some (.laload, 1, 0, 0, []) := rfl
theorem rw_228_112 : mm_code 227 112 = some (.ldc2_w 315, 3, 1, 1, [98]) := rfl
theorem rw_228_115 : mm_code 227 115 = some (.lxor, 1, 0, 0, []) := rfl
theorem rw_228_116 : mm_code 227 116 = some (.land, 1, 0, 0, []) := rfl
theorem rw_228_117 : mm_code 227 117 = some (.lconst 0, 1, 0, 0, []) := rfl
theorem rw_228_118 : mm_code 227 118 = some (.lcmp, 1, 0, 0, []) := rfl
theorem rw_228_119 : mm_code 227 119 = some (.ifCond .ne 7, 3, 126, 0, []) := rfl
theorem rw_228_122 : mm_code 227 122 = some (.iconst 1, 1, 1, 0, []) := rfl
theorem rw_228_123 : mm_code 227 123 = some (.goto 4, 3, 127, 0, []) := rfl
theorem rw_228_126 : mm_code 227 126 = some (.iconst 0, 1, 0, 0, []) := rfl
theorem rw_228_127 : mm_code 227 127 = some (.bastore, 1, 0, 0, []) := rfl
theorem rw_228_128 : mm_code 227 128 = some (.goto 156, 3, 284, 0, []) := rfl
theorem rw_228_131 : mm_code 227 131 = some (.aload_n 0, 1, 0, 0, []) := rfl
theorem rw_228_132 : mm_code 227 132 = some (.getfield 133, 3, 11, 70, [3, 41]) := rfl
theorem rw_228_135 : mm_code 227 135 = some (.iload_n 3, 1, 0, 0, []) := rfl
theorem rw_228_136 : mm_code 227 136 = some (.iload_n 2, 1, 0, 0, []) := rfl
theorem rw_228_137 : mm_code 227 137 = some (.ifCond .eq 26, 3, 163, 0, []) := rfl
theorem rw_228_140 : mm_code 227 140 = some (.aload_n 0, 1, 0, 0, []) := rfl
theorem rw_228_141 : mm_code 227 141 = some (.getfield 76, 3, 11, 38, [3, 22]) := rfl
theorem rw_228_144 : mm_code 227 144 = some (.iload_n 1, 1, 0, 0, []) := rfl
theorem rw_228_145 : mm_code 227 145 = some (.iaload, 1, 0, 0, []) := rfl
theorem rw_228_146 : mm_code 227 146 = some (.iload 4, 2, 0, 0, []) := rfl
theorem rw_228_148 : mm_code 227 148 = some (.ishr, 1, 0, 0, []) := rfl
theorem rw_228_149 : mm_code 227 149 = some (.iconst 1, 1, 1, 0, []) := rfl
theorem rw_228_150 : mm_code 227 150 = some (.iand, 1, 0, 0, []) := rfl
theorem rw_228_151 : mm_code 227 151 = some (.iconst 1, 1, 1, 0, []) := rfl
theorem rw_228_152 : mm_code 227 152 = some (.if_icmp .ne 7, 3, 159, 0, []) := rfl
theorem rw_228_155 : mm_code 227 155 = some (.iconst 1, 1, 1, 0, []) := rfl
theorem rw_228_156 : mm_code 227 156 = some (.goto 35, 3, 191, 0, []) := rfl
theorem rw_228_159 : mm_code 227 159 = some (.iconst 0, 1, 0, 0, []) := rfl
theorem rw_228_160 : mm_code 227 160 = some (.goto 31, 3, 191, 0, []) := rfl
theorem rw_228_163 : mm_code 227 163 = some (.aload_n 0, 1, 0, 0, []) := rfl
theorem rw_228_164 : mm_code 227 164 = some (.getfield 67, 3, 11, 35, [3, 19]) := rfl
theorem rw_228_167 : mm_code 227 167 = some (.iload 4, 2, 0, 0, []) := rfl
theorem rw_228_169 : mm_code 227 169 = some (.laload, 1, 0, 0, []) := rfl
theorem rw_228_170 : mm_code 227 170 = some (.aload_n 0, 1, 0, 0, []) := rfl
theorem rw_228_171 : mm_code 227 171 = some (.getfield 70, 3, 11, 36, [3, 20]) := rfl
theorem rw_228_174 : mm_code 227 174 = some (.iload_n 1, 1, 0, 0, []) := rfl
theorem rw_228_175 : mm_code 227 175 = some (.laload, 1, 0, 0, []) := rfl
theorem rw_228_176 : mm_code 227 176 = some (.ldc2_w 315, 3, 1, 1, [98]) := rfl
theorem rw_228_179 : mm_code 227 179 = some (.lxor, 1, 0, 0, []) := rfl
theorem rw_228_180 : mm_code 227 180 = some (.land, 1, 0, 0, []) := rfl
theorem rw_228_181 : mm_code 227 181 = some (.lconst 0, 1, 0, 0, []) := rfl
theorem rw_228_182 : mm_code 227 182 = some (.lcmp, 1, 0, 0, []) := rfl
theorem rw_228_183 : mm_code 227 183 = some (.ifCond .ne 7, 3, 190, 0, []) := rfl
theorem rw_228_186 : mm_code 227 186 = some (.iconst 1, 1, 1, 0, []) := rfl
theorem rw_228_187 : mm_code 227 187 = some (.goto 4, 3, 191, 0, []) := rfl
theorem rw_228_190 : mm_code 227 190 = some (.iconst 0, 1, 0, 0, []) := rfl
theorem rw_228_191 : mm_code 227 191 = some (.bastore, 1, 0, 0, []) := rfl
theorem rw_228_192 : mm_code 227 192 = some (.goto 92, 3, 284, 0, []) := rfl
theorem rw_228_195 : mm_code 227 195 = some (.aload_n 0, 1, 0, 0, []) := rfl
theorem rw_228_196 : mm_code 227 196 = some (.getfield 133, 3, 11, 70, [3, 41]) := rfl
theorem rw_228_199 : mm_code 227 199 = some (.iload_n 3, 1, 0, 0, []) := rfl
theorem rw_228_200 : mm_code 227 200 = some (.aload_n 0, 1, 0, 0, []) := rfl
theorem rw_228_201 : mm_code 227 201 = some (.getfield 133, 3, 11, 70, [3, 41]) := rfl
theorem rw_228_204 : mm_code 227 204 = some (.iload 4, 2, 0, 0, []) := rfl
theorem rw_228_206 : mm_code 227 206 = some (.baload, 1, 0, 0, []) := rfl
theorem rw_228_207 : mm_code 227 207 = some (.ifCond .ne 7, 3, 214, 0, []) := rfl
theorem rw_228_210 : mm_code 227 210 = some (.iconst 1, 1, 1, 0, []) := rfl
theorem rw_228_211 : mm_code 227 211 = some (.goto 4, 3, 215, 0, []) := rfl
theorem rw_228_214 : mm_code 227 214 = some (.iconst 0, 1, 0, 0, []) := rfl
theorem rw_228_215 : mm_code 227 215 = some (.bastore, 1, 0, 0, []) := rfl
theorem rw_228_216 : mm_code 227 216 = some (.goto 68, 3, 284, 0, []) := rfl
theorem rw_228_219 : mm_code 227 219 = some (.aload_n 0, 1, 0, 0, []) := rfl
theorem rw_228_220 : mm_code 227 220 = some (.getfield 133, 3, 11, 70, [3, 41]) := rfl
theorem rw_228_223 : mm_code 227 223 = some (.iload_n 3, 1, 0, 0, []) := rfl
theorem rw_228_224 : mm_code 227 224 = some (.aload_n 0, 1, 0, 0, []) := rfl
theorem rw_228_225 : mm_code 227 225 = some (.getfield 133, 3, 11, 70, [3, 41]) := rfl
theorem rw_228_228 : mm_code 227 228 = some (.iload 4, 2, 0, 0, []) := rfl
theorem rw_228_230 : mm_code 227 230 = some (.baload, 1, 0, 0, []) := rfl
theorem rw_228_231 : mm_code 227 231 = some (.ifCond .eq 17, 3, 248, 0, []) := rfl
theorem rw_228_234 : mm_code 227 234 = some (.aload_n 0, 1, 0, 0, []) := rfl
theorem rw_228_235 : mm_code 227 235 = some (.getfield 133, 3, 11, 70, [3, 41]) := rfl
theorem rw_228_238 : mm_code 227 238 = some (.iload 5, 2, 0, 0, []) := rfl
theorem rw_228_240 : mm_code 227 240 = some (.baload, 1, 0, 0, []) := rfl
theorem rw_228_241 : mm_code 227 241 = some (.ifCond .eq 7, 3, 248, 0, []) := rfl
theorem rw_228_244 : mm_code 227 244 = some (.iconst 1, 1, 1, 0, []) := rfl
theorem rw_228_245 : mm_code 227 245 = some (.goto 4, 3, 249, 0, []) := rfl
theorem rw_228_248 : mm_code 227 248 = some (.iconst 0, 1, 0, 0, []) := rfl
theorem rw_228_249 : mm_code 227 249 = some (.bastore, 1, 0, 0, []) := rfl
theorem rw_228_250 : mm_code 227 250 = some (.goto 34, 3, 284, 0, []) := rfl
theorem rw_228_253 : mm_code 227 253 = some (.aload_n 0, 1, 0, 0, []) := rfl
theorem rw_228_254 : mm_code 227 254 = some (.getfield 133, 3, 11, 70, [3, 41]) := rfl
theorem rw_228_257 : mm_code 227 257 = some (.iload_n 3, 1, 0, 0, []) := rfl
theorem rw_228_258 : mm_code 227 258 = some (.aload_n 0, 1, 0, 0, []) := rfl
theorem rw_228_259 : mm_code 227 259 = some (.getfield 133, 3, 11, 70, [3, 41]) := rfl
theorem rw_228_262 : mm_code 227 262 = some (.iload 4, 2, 0, 0, []) := rfl
theorem rw_228_264 : mm_code 227 264 = some (.baload, 1, 0, 0, []) := rfl
theorem rw_228_265 : mm_code 227 265 = some (.ifCond .ne 13, 3, 278, 0, []) := rfl
theorem rw_228_268 : mm_code 227 268 = some (.aload_n 0, 1, 0, 0, []) := rfl
theorem rw_228_269 : mm_code 227 269 = some (.getfield 133, 3, 11, 70, [3, 41]) := rfl
theorem rw_228_272 : mm_code 227 272 = some (.iload 5, 2, 0, 0, []) := rfl
theorem rw_228_274 : mm_code 227 274 = some (.baload, 1, 0, 0, []) := rfl
theorem rw_228_275 : mm_code 227 275 = some (.ifCond .eq 7, 3, 282, 0, []) := rfl
theorem rw_228_278 : mm_code 227 278 = some (.iconst 1, 1, 1, 0, []) := rfl
theorem rw_228_279 : mm_code 227 279 = some (.goto 4, 3, 283, 0, []) := rfl
theorem rw_228_282 : mm_code 227 282 = some (.iconst 0, 1, 0, 0, []) := rfl
theorem rw_228_283 : mm_code 227 283 = some (.bastore, 1, 0, 0, []) := rfl
theorem rw_228_284 : mm_code 227 284 = some (.iinc 3 1, 3, 1, 0, []) := rfl
theorem rw_228_287 : mm_code 227 287 = some (.goto (-285), 3, 2, 0, []) := rfl
theorem rw_228_290 : mm_code 227 290 = some (.aload_n 0, 1, 0, 0, []) := rfl
theorem rw_228_291 : mm_code 227 291 = some (.getfield 133, 3, 11, 70, [3, 41]) := rfl
theorem rw_228_294 : mm_code 227 294 = some (.aload_n 0, 1, 0, 0, []) := rfl
theorem rw_228_295 : mm_code 227 295 = some (.getfield 245, 3, 11, 58, [0, 77]) := rfl
theorem rw_228_298 : mm_code 227 298 = some (.iconst 1, 1, 1, 0, []) := rfl
theorem rw_228_299 : mm_code 227 299 = some (.isub, 1, 0, 0, []) := rfl
theorem rw_228_300 : mm_code 227 300 = some (.baload, 1, 0, 0, []) := rfl
theorem rw_228_301 : mm_code 227 301 = some (.ireturn, 1, 1, 0, []) := rfl
theorem rw_229_0 : mm_code 228 0 = some (.aload_n 0, 1, 0, 0, []) := rfl
theorem rw_229_1 : mm_code 228 1 = some (.iconst 0, 1, 0, 0, []) := rfl
theorem rw_229_2 : mm_code 228 2 = some (.putfield 163, 3, 11, 2, [0, 51]) := rfl
theorem rw_229_5 : mm_code 228 5 = some (.aload_n 0, 1, 0, 0, []) := rfl
theorem rw_229_6 : mm_code 228 6 = some (.getfield 248, 3, 11, 57, [1, 78]) := rfl
theorem rw_229_9 : mm_code 228 9 = some (.ifCond .eq 20, 3, 29, 0, []) := rfl
theorem rw_229_12 : mm_code 228 12 = some (.aload_n 0, 1, 0, 0, []) := rfl
theorem rw_229_13 : mm_code 228 13 = some (.iload_n 1, 1, 0, 0, []) := rfl
theorem rw_229_14 : mm_code 228 14 = some (.invokevirtual 320, 3, 185, 2, [100, 0]) := rfl
theorem rw_229_17 : mm_code 228 17 = some (.ifCond .eq 12, 3, 29, 0, []) := rfl
theorem rw_229_20 : mm_code 228 20 = some (.iload_n 2, 1, 0, 0, []) := rfl
theorem rw_229_21 : mm_code 228 21 = some (.iconst 0, 1, 0, 0, []) := rfl
theorem rw_229_22 : mm_code 228 22 = some (.iconst 3, 1, 3, 0, []) := rfl
theorem rw_229_23 : mm_code 228 23 = some (.invokestatic 437, 3, 148, 3, [138, 0]) := rfl
theorem rw_229_26 : mm_code 228 26 = some (.ifCond .ne 5, 3, 31, 0, []) := rfl
theorem rw_229_29 : mm_code 228 29 = some (.iconst (-1), 1, 1, 1, []) := rfl
theorem rw_229_30 : mm_code 228 30 = some (.ireturn, 1, 0, 0, []) := rfl
theorem rw_229_31 : mm_code 228 31 = some (.aload_n 0, 1, 0, 0, []) := rfl
theorem rw_229_32 : mm_code 228 32 = some (.iload_n 1, 1, 0, 0, []) := rfl
theorem rw_229_33 : mm_code 228 33 = some (.invokevirtual 326, 3, 188, 2, [102, 0]) := rfl
theorem rw_229_36 : mm_code 228 36 = some (.iconst 0, 1, 0, 0, []) := rfl
theorem rw_229_37 : mm_code 228 37 = some (.istore_n 3, 1, 0, 0, []) := rfl
theorem rw_229_38 : mm_code 228 38 = some (.iconst 0, 1, 0, 0, []) := rfl
theorem rw_229_39 : mm_code 228 39 = some (.istore 4, 2, 0, 0, []) := rfl
theorem rw_229_41 : mm_code 228 41 = some (.iconst 0, 1, 0, 0, []) := rfl
theorem rw_229_42 : mm_code 228 42 = some (.istore 5, 2, 0, 0, []) := rfl
theorem rw_229_44 : mm_code 228 44 = some (.iload 5, 2, 0, 0, []) := rfl
theorem rw_229_46 : mm_code 228 46 = some (.aload_n 0, 1, 0, 0, []) := rfl
theorem rw_229_47 : mm_code 228 47 = some (.getfield 239, 3, 11, 28, [0, 75]) := rfl
theorem rw_229_50 : mm_code 228 50 = some (.if_icmp .ge 53, 3, 103, 0, []) := rfl
theorem rw_229_53 : mm_code 228 53 = some (.iload_n 3, 1, 0, 0, []) := rfl
theorem rw_229_54 : mm_code 228 54 = some (.aload_n 0, 1, 0, 0, []) := rfl
theorem rw_229_55 : mm_code 228 55 = some (.iload 5, 2, 0, 0, []) := rfl
theorem rw_229_57 : mm_code 228 57 = some (.iconst 0, 1, 0, 0, []) := rfl
theorem rw_229_58 : mm_code 228 58 = some (.invokevirtual 441, 3, 227, 3, [139, 0]) := rfl
theorem rw_229_61 : mm_code 228 61 = some (.ifCond .eq 10, 3, 71, 0, []) := rfl
theorem rw_229_64 : mm_code 228 64 = some (.iconst 1, 1, 1, 0, []) := rfl
theorem rw_229_65 : mm_code 228 65 = some (.iload 5, 2, 0, 0, []) := rfl
theorem rw_229_67 : mm_code 228 67 = some (.ishl, 1, 0, 0, []) := rfl
theorem rw_229_68 : mm_code 228 68 = some (.goto 4, 3, 72, 0, []) := rfl
theorem rw_229_71 : mm_code 228 71 = some (.iconst 0, 1, 0, 0, []) := rfl
theorem rw_229_72 : mm_code 228 72 = some (.ior, 1, 0, 0, []) := rfl
theorem rw_229_73 : mm_code 228 73 = some (.istore_n 3, 1, 0, 0, []) := rfl
theorem rw_229_74 : mm_code 228 74 = some (.iload 4, 2, 0, 0, []) := rfl
theorem rw_229_76 : mm_code 228 76 = some (.aload_n 0, 1, 0, 0, []) := rfl
theorem rw_229_77 : mm_code 228 77 = some (.iload 5, 2, 0, 0, []) := rfl
theorem rw_229_79 : mm_code 228 79 = some (.iconst 1, 1, 1, 0, []) := rfl
theorem rw_229_80 : mm_code 228 80 = some (.invokevirtual 441, 3, 227, 3, [139, 0]) := rfl
theorem rw_229_83 : mm_code 228 83 = some (.ifCond .eq 10, 3, 93, 0, []) := rfl
theorem rw_229_86 : mm_code 228 86 = some (.iconst 1, 1, 1, 0, []) := rfl
theorem rw_229_87 : mm_code 228 87 = some (.iload 5, 2, 0, 0, []) := rfl
theorem rw_229_89 : mm_code 228 89 = some (.ishl, 1, 0, 0, []) := rfl
theorem rw_229_90 : mm_code 228 90 = some (.goto 4, 3, 94, 0, []) := rfl
theorem rw_229_93 : mm_code 228 93 = some (.iconst 0, 1, 0, 0, []) := rfl
theorem rw_229_94 : mm_code 228 94 = some (.ior, 1, 0, 0, []) := rfl
theorem rw_229_95 : mm_code 228 95 = some (.istore 4, 2, 0, 0, []) := rfl
theorem rw_229_97 : mm_code 228 97 = some (.iinc 5 1, 3, 1, 0, []) := rfl
theorem rw_229_100 : mm_code 228 100 = some (.goto (-56), 3, 44, 0, []) := rfl
theorem rw_229_103 : mm_code 228 103 = some (.iload_n 2, 1, 0, 0, []) := rfl
theorem rw_229_104 : mm_code 228 104 = some (.ifCond .ne 7, 3, 111, 0, []) := rfl
theorem rw_229_107 : mm_code 228 107 = some (.iload_n 3, 1, 0, 0, []) := rfl
theorem rw_229_108 : mm_code 228 108 = some (.goto 33, 3, 141, 0, []) := rfl
theorem rw_229_111 : mm_code 228 111 = some (.iload_n 2, 1, 0, 0, []) := rfl
theorem rw_229_112 : mm_code 228 112 = some (.iconst 1, 1, 1, 0, []) := rfl
theorem rw_229_113 : mm_code 228 113 = some (.if_icmp .ne 8, 3, 121, 0, []) := rfl
theorem rw_229_116 : mm_code 228 116 = some (.iload 4, 2, 0, 0, []) := rfl
theorem rw_229_118 : mm_code 228 118 = some (.goto 23, 3, 141, 0, []) := rfl
theorem rw_229_121 : mm_code 228 121 = some (.iload_n 2, 1, 0, 0, []) := rfl
theorem rw_229_122 : mm_code 228 122 = some (.iconst 2, 1, 2, 0, []) := rfl
theorem rw_229_123 : mm_code 228 123 = some (.if_icmp .ne 12, 3, 135, 0, []) := rfl
theorem rw_229_126 : mm_code 228 126 = some (.iload_n 3, 1, 0, 0, []) := rfl
theorem rw_229_127 : mm_code 228 127 = some (.iload 4, 2, 0, 0, []) := rfl
theorem rw_229_129 : mm_code 228 129 = some (.iconst (-1), 1, 1, 1, []) := rfl
theorem rw_229_130 : mm_code 228 130 = some (.ixor, 1, 0, 0, []) := rfl
theorem rw_229_131 : mm_code 228 131 = some (.iand, 1, 0, 0, []) := rfl
theorem rw_229_132 : mm_code 228 132 = some (.goto 9, 3, 141, 0, []) := rfl
theorem rw_229_135 : mm_code 228 135 = some (.iload 4, 2, 0, 0, []) := rfl
theorem rw_229_137 : mm_code 228 137 = some (.iload_n 3, 1, 0, 0, []) := rfl
theorem rw_229_138 : mm_code 228 138 = some (.iconst (-1), 1, 1, 1, []) := rfl
theorem rw_229_139 : mm_code 228 139 = some (.ixor, 1, 0, 0, []) := rfl
theorem rw_229_140 : mm_code 228 140 = some (.iand, 1, 0, 0, []) := rfl
theorem rw_229_141 : mm_code 228 141 = some (.ireturn, 1, 0, 0, []) := rfl
theorem rw_230_0 : mm_code 229 0 = some (.lconst 1, 1, 1, 0, []) := rfl
theorem rw_230_1 : mm_code 229 1 = some (.lstore_n 2, 1, 0, 0, []) := rfl
theorem rw_230_2 : mm_code 229 2 = some (.iconst 0, 1, 0, 0, []) := rfl
theorem rw_230_3 : mm_code 229 3 = some (.istore 4, 2, 0, 0, []) := rfl
theorem rw_230_5 : mm_code 229 5 = some (.iload 4, 2, 0, 0, []) := rfl
theorem rw_230_7 : mm_code 229 7 = some (.iload_n 1, 1, 0, 0, []) := rfl
theorem rw_230_8 : mm_code 229 8 = some (.if_icmp .ge 23, 3, 31, 0, []) := rfl
theorem rw_230_11 : mm_code 229 11 = some (.lload_n 2, 1, 0, 0, []) := rfl
theorem rw_230_12 : mm_code 229 12 = some (.iload_n 0, 1, 0, 0, []) := rfl
theorem rw_230_13 : mm_code 229 13 = some (.iload 4, 2, 0, 0, []) := rfl
theorem rw_230_15 : mm_code 229 15 = some (.isub, 1, 0, 0, []) := rfl
theorem rw_230_16 : mm_code 229 16 = some (.i2l, 1, 0, 0, []) := rfl
theorem rw_230_17 : mm_code 229 17 = some (.lmul, 1, 0, 0, []) := rfl
theorem rw_230_18 : mm_code 229 18 = some (.iload 4, 2, 0, 0, []) := rfl
theorem rw_230_20 : mm_code 229 20 = some (.iconst 1, 1, 1, 0, []) := rfl
theorem rw_230_21 : mm_code 229 21 = some (.iadd, 1, 0, 0, []) := rfl
theorem rw_230_22 : mm_code 229 22 = some (.i2l, 1, 0, 0, []) := rfl
theorem rw_230_23 : mm_code 229 23 = some (.ldiv, 1, 0, 0, []) := rfl
theorem rw_230_24 : mm_code 229 24 = some (.lstore_n 2, 1, 0, 0, []) := rfl
theorem rw_230_25 : mm_code 229 25 = some (.iinc 4 1, 3, 1, 0, []) := rfl
theorem rw_230_28 : mm_code 229 28 = some (.goto (-23), 3, 5, 0, []) := rfl
theorem rw_230_31 : mm_code 229 31 = some (.iload_n 0, 1, 0, 0, []) := rfl
theorem rw_230_32 : mm_code 229 32 = some (.iload_n 1, 1, 0, 0, []) := rfl
theorem rw_230_33 : mm_code 229 33 = some (.if_icmp .ge 7, 3, 40, 0, []) := rfl
theorem rw_230_36 : mm_code 229 36 = some (.lconst 0, 1, 0, 0, []) := rfl
theorem rw_230_37 : mm_code 229 37 = some (.goto 4, 3, 41, 0, []) := rfl
theorem rw_230_40 : mm_code 229 40 = some (.lload_n 2, 1, 0, 0, []) := rfl
theorem rw_230_41 : mm_code 229 41 = some (.lreturn, 1, 0, 0, []) := rfl
theorem rw_231_0 : mm_code 230 0 = some (.aload_n 0, 1, 0, 0, []) := rfl
theorem rw_231_1 : mm_code 230 1 = some (.getfield 76, 3, 11, 38, [3, 22]) := rfl
theorem rw_231_4 : mm_code 230 4 = some (.iload_n 1, 1, 0, 0, []) := rfl
theorem rw_231_5 : mm_code 230 5 = some (.iaload, 1, 0, 0, []) := rfl
theorem rw_231_6 : mm_code 230 6 = some (.iload_n 2, 1, 0, 0, []) := rfl
theorem rw_231_7 : mm_code 230 7 = some (.ishr, 1, 0, 0, []) := rfl
theorem rw_231_8 : mm_code 230 8 = some (.iconst 1, 1, 1, 0, []) := rfl
theorem rw_231_9 : mm_code 230 9 = some (.iand, 1, 0, 0, []) := rfl
theorem rw_231_10 : mm_code 230 10 = some (.iconst 1, 1, 1, 0, []) := rfl
theorem rw_231_11 : mm_code 230 11 = some (.if_icmp .ne 7, 3, 18, 0, []) := rfl
theorem rw_231_14 : mm_code 230 14 = some (.iconst 1, 1, 1, 0, []) := rfl
theorem rw_231_15 : mm_code 230 15 = some (.goto 4, 3, 19, 0, []) := rfl
theorem rw_231_18 : mm_code 230 18 = some (.iconst 0, 1, 0, 0, []) := rfl
theorem rw_231_19 : mm_code 230 19 = some (.ireturn, 1, 1, 0, []) := rfl
theorem rw_232_0 : mm_code 231 0 = some (.aload_n 0, 1, 0, 0, []) := rfl
theorem rw_232_1 : mm_code 231 1 = some (.getfield 70, 3, 11, 36, [3, 20]) := rfl
theorem rw_232_4 : mm_code 231 4 = some (.iload_n 1, 1, 0, 0, []) := rfl
theorem rw_232_5 : mm_code 231 5 = some (.laload, 1, 0, 0, []) := rfl
theorem rw_232_6 : mm_code 231 6 = some (.aload_n 0, 1, 0, 0, []) := rfl
theorem rw_232_7 : mm_code 231 7 = some (.getfield 26, 3, 11, 19, [3, 6]) := rfl
theorem rw_232_10 : mm_code 231 10 = some (.iload_n 2, 1, 0, 0, []) := rfl
theorem rw_232_11 : mm_code 231 11 = some (.iaload, 1, 0, 0, []) := rfl
theorem rw_232_12 : mm_code 231 12 = some (.aload_n 0, 1, 0, 0, []) := rfl
theorem rw_232_13 : mm_code 231 13 = some (.getfield 29, 3, 11, 20, [3, 7]) := rfl
theorem rw_232_16 : mm_code 231 16 = some (.iload_n 2, 1, 0, 0, []) := rfl
theorem rw_232_17 : mm_code 231 17 = some (.iaload, 1, 0, 0, []) := rfl
theorem rw_232_18 : mm_code 231 18 = some (.invokestatic 270, 3, 167, 2, [84, 0]) := rfl
theorem rw_232_21 : mm_code 231 21 = some (.land, 1, 0, 0, []) := rfl
theorem rw_232_22 : mm_code 231 22 = some (.lreturn, 1, 0, 0, []) := rfl
theorem rw_233_0 : mm_code 232 0 = some (.aload_n 0, 1, 0, 0, []) := rfl
theorem rw_233_1 : mm_code 232 1 = some (.iconst 0, 1, 0, 0, []) := rfl
theorem rw_233_2 : mm_code 232 2 = some (.putfield 163, 3, 11, 2, [0, 51]) := rfl
theorem rw_233_5 : mm_code 232 5 = some (.aload_n 0, 1, 0, 0, []) := rfl
theorem rw_233_6 : mm_code 232 6 = some (.iload_n 1, 1, 0, 0, []) := rfl
theorem rw_233_7 : mm_code 232 7 = some (.invokevirtual 320, 3, 185, 2, [100, 0]) := rfl
theorem rw_233_10 : mm_code 232 10 = some (.ifCond .eq 20, 3, 30, 0, []) := rfl
theorem rw_233_13 : mm_code 232 13 = some (.aload_n 0, 1, 0, 0, []) := rfl
theorem rw_233_14 : mm_code 232 14 = some (.iload_n 2, 1, 0, 0, []) := rfl
theorem rw_233_15 : mm_code 232 15 = some (.invokevirtual 323, 3, 179, 2, [101, 0]) := rfl
theorem rw_233_18 : mm_code 232 18 = some (.ifCond .eq 12, 3, 30, 0, []) := rfl
theorem rw_233_21 : mm_code 232 21 = some (.iload_n 3, 1, 0, 0, []) := rfl
theorem rw_233_22 : mm_code 232 22 = some (.iconst 0, 1, 0, 0, []) := rfl
theorem rw_233_23 : mm_code 232 23 = some (.iconst 1, 1, 1, 0, []) := rfl
theorem rw_233_24 : mm_code 232 24 = some (.invokestatic 437, 3, 148, 3, [138, 0]) := rfl
theorem rw_233_27 : mm_code 232 27 = some (.ifCond .ne 7, 3, 34, 0, []) := rfl
theorem rw_233_30 : mm_code 232 30 = some (.ldc2_w 315, 3, 1, 1, [98]) := rfl
theorem rw_233_33 : mm_code 232 33 = some (.lreturn, 1, 0, 0, []) := rfl
theorem rw_233_34 : mm_code 232 34 = some (.aload_n 0, 1, 0, 0, []) := rfl
theorem rw_233_35 : mm_code 232 35 = some (.iload_n 1, 1, 0, 0, []) := rfl
theorem rw_233_36 : mm_code 232 36 = some (.invokevirtual 326, 3, 188, 2, [102, 0]) := rfl
theorem rw_233_39 : mm_code 232 39 = some (.aload_n 0, 1, 0, 0, []) := rfl
theorem rw_233_40 : mm_code 232 40 = some (.getfield 38, 3, 11, 23, [3, 10]) := rfl
theorem rw_233_43 : mm_code 232 43 = some (.iload_n 2, 1, 0, 0, []) := rfl
theorem rw_233_44 : mm_code 232 44 = some (.iaload, 1, 0, 0, []) := rfl
theorem rw_233_45 : mm_code 232 45 = some (.istore 4, 2, 0, 0, []) := rfl
theorem rw_233_47 : mm_code 232 47 = some (.iload_n 3, 1, 0, 0, []) := rfl
theorem rw_233_48 : mm_code 232 48 = some (.iconst 1, 1, 1, 0, []) := rfl
theorem rw_233_49 : mm_code 232 49 = some (.if_icmp .ne 20, 3, 69, 0, []) := rfl
theorem rw_233_52 : mm_code 232 52 = some (.aload_n 0, 1, 0, 0, []) := rfl
theorem rw_233_53 : mm_code 232 53 = some (.iload 4, 2, 0, 0, []) := rfl
theorem rw_233_55 : mm_code 232 55 = some (.invokevirtual 336, 3, 196, 2, [105, 0]) := rfl
theorem rw_233_58 : mm_code 232 58 = some (.aload_n 0, 1, 0, 0, []) := rfl
theorem rw_233_59 : mm_code 232 59 = some (.getfield 32, 3, 11, 21, [3, 8]) := rfl
theorem rw_233_62 : mm_code 232 62 = some (.iload 4, 2, 0, 0, []) := rfl
theorem rw_233_64 : mm_code 232 64 = some (.iaload, 1, 0, 0, []) := rfl
theorem rw_233_65 : mm_code 232 65 = some (.invokestatic 445, 3, 229, 2, [140, 0]) := rfl
theorem rw_233_68 : mm_code 232 68 = some (.lreturn, 1, 0, 0, []) := rfl
theorem rw_233_69 : mm_code 232 69 = some (.lconst 0, 1, 0, 0, []) := rfl
theorem rw_233_70 : mm_code 232 70 = some (.lstore 5, 2, 0, 0, []) := rfl
theorem rw_233_72 : mm_code 232 72 = some (.iconst 0, 1, 0, 0, []) := rfl
theorem rw_233_73 : mm_code 232 73 = some (.istore 7, 2, 0, 0, []) := rfl
theorem rw_233_75 : mm_code 232 75 = some (.iload 7, 2, 0, 0, []) := rfl
theorem rw_233_77 : mm_code 232 77 = some (.aload_n 0, 1, 0, 0, []) := rfl
theorem rw_233_78 : mm_code 232 78 = some (.getfield 239, 3, 11, 28, [0, 75]) := rfl
theorem rw_233_81 : mm_code 232 81 = some (.if_icmp .ge 49, 3, 130, 0, []) := rfl
theorem rw_233_84 : mm_code 232 84 = some (.lload 5, 2, 0, 0, []) := rfl
theorem rw_233_86 : mm_code 232 86 = some (.aload_n 0, 1, 0, 0, []) := rfl
theorem rw_233_87 : mm_code 232 87 = some (.iload 7, 2, 0, 0, []) := rfl
theorem rw_233_89 : mm_code 232 89 = some (.iload_n 2, 1, 0, 0, []) := rfl
theorem rw_233_90 : mm_code 232 90 = some (.invokevirtual 448, 3, 230, 3, [141, 0]) := rfl
theorem rw_233_93 : mm_code 232 93 = some (.ifCond .eq 7, 3, 100, 0, []) := rfl
theorem rw_233_96 : mm_code 232 96 = some (.lconst 0, 1, 0, 0, []) := rfl
theorem rw_233_97 : mm_code 232 97 = some (.goto 24, 3, 121, 0, []) := rfl
theorem rw_233_100 : mm_code 232 100 = some (.aload_n 0, 1, 0, 0, []) := rfl
theorem rw_233_101 : mm_code 232 101 = some (.iload 7, 2, 0, 0, []) := rfl
theorem rw_233_103 : mm_code 232 103 = some (.iload 4, 2, 0, 0, []) := rfl
theorem rw_233_105 : mm_code 232 105 = some (.invokevirtual 451, 3, 231, 3, [142, 0]) := rfl
theorem rw_233_108 : mm_code 232 108 = some (.invokestatic 339, 3, 150, 1, [106, 0]) := rfl
theorem rw_233_111 : mm_code 232 111 = some (.aload_n 0, 1, 0, 0, []) := rfl
theorem rw_233_112 : mm_code 232 112 = some (.getfield 32, 3, 11, 21, [3, 8]) := rfl
theorem rw_233_115 : mm_code 232 115 = some (.iload 4, 2, 0, 0, []) := rfl
theorem rw_233_117 : mm_code 232 117 = some (.iaload, 1, 0, 0, []) := rfl
theorem rw_233_118 : mm_code 232 118 = some (.invokestatic 445, 3, 229, 2, [140, 0]) := rfl
theorem rw_233_121 : mm_code 232 121 = some (.ladd, 1, 0, 0, []) := rfl
theorem rw_233_122 : mm_code 232 122 = some (.lstore 5, 2, 0, 0, []) := rfl
theorem rw_233_124 : mm_code 232 124 = some (.iinc 7 1, 3, 1, 0, []) := rfl
theorem rw_233_127 : mm_code 232 127 = some (.goto (-52), 3, 75, 0, []) := rfl
theorem rw_233_130 : mm_code 232 130 = some (.lload 5, 2, 0, 0, []) := rfl
theorem rw_233_132 : mm_code 232 132 = some (.lreturn, 1, 0, 0, []) := rfl
theorem rw_234_0 : mm_code 233 0 = some (.iconst 0, 1, 0, 0, []) := rfl
theorem rw_234_1 : mm_code 233 1 = some (.istore 4, 2, 0, 0, []) := rfl
theorem rw_234_3 : mm_code 233 3 = some (.iconst 0, 1, 0, 0, []) := rfl
theorem rw_234_4 : mm_code 233 4 = some (.istore 5, 2, 0, 0, []) := rfl
theorem rw_234_6 : mm_code 233 6 = some (.iload 5, 2, 0, 0, []) := rfl
theorem rw_234_8 : mm_code 233 8 = some (.aload_n 0, 1, 0, 0, []) := rfl
theorem rw_234_9 : mm_code 233 9 = some (.getfield 239, 3, 11, 28, [0, 75]) := rfl
theorem rw_234_12 : mm_code 233 12 = some (.if_icmp .ge 47, 3, 59, 0, []) := rfl
theorem rw_234_15 : mm_code 233 15 = some (.iload 4, 2, 0, 0, []) := rfl
theorem rw_234_17 : mm_code 233 17 = some (.aload_n 0, 1, 0, 0, []) := rfl
theorem rw_234_18 : mm_code 233 18 = some (.iload 5, 2, 0, 0, []) := rfl
theorem rw_234_20 : mm_code 233 20 = some (.iload_n 1, 1, 0, 0, []) := rfl
theorem rw_234_21 : mm_code 233 21 = some (.invokevirtual 448, 3, 230, 3, [141, 0]) := rfl
theorem rw_234_24 : mm_code 233 24 = some (.ifCond .ne 25, 3, 49, 0, []) := rfl
theorem rw_234_27 : mm_code 233 27 = some (.lload_n 2, 1, 0, 0, []) := rfl
theorem rw_234_28 : mm_code 233 28 = some (.aload_n 0, 1, 0, 0, []) := rfl
theorem rw_234_29 : mm_code 233 29 = some (.getfield 70, 3, 11, 36, [3, 20]) := rfl
theorem rw_234_32 : mm_code 233 32 = some (.iload 5, 2, 0, 0, []) := rfl
theorem rw_234_34 : mm_code 233 34 = some (.laload, 1, 0, 0, []) := rfl
theorem rw_234_35 : mm_code 233 35 = some (.ldc2_w 315, 3, 1, 1, [98]) := rfl
theorem rw_234_38 : mm_code 233 38 = some (.lxor, 1, 0, 0, []) := rfl
theorem rw_234_39 : mm_code 233 39 = some (.land, 1, 0, 0, []) := rfl
theorem rw_234_40 : mm_code 233 40 = some (.lconst 0, 1, 0, 0, []) := rfl
theorem rw_234_41 : mm_code 233 41 = some (.lcmp, 1, 0, 0, []) := rfl
theorem rw_234_42 : mm_code 233 42 = some (.ifCond .ne 7, 3, 49, 0, []) := rfl
theorem rw_234_45 : mm_code 233 45 = some (.iconst 1, 1, 1, 0, []) := rfl
theorem rw_234_46 : mm_code 233 46 = some (.goto 4, 3, 50, 0, []) := rfl
theorem rw_234_49 : mm_code 233 49 = some (.iconst 0, 1, 0, 0, []) := rfl
theorem rw_234_50 : mm_code 233 50 = some (.iadd, 1, 0, 0, []) := rfl
theorem rw_234_51 : mm_code 233 51 = some (.istore 4, 2, 0, 0, []) := rfl
theorem rw_234_53 : mm_code 233 53 = some (.iinc 5 1, 3, 1, 0, []) := rfl
theorem rw_234_56 : mm_code 233 56 = some (.goto (-50), 3, 6, 0, []) := rfl
theorem rw_234_59 : mm_code 233 59 = some (.iload 4, 2, 0, 0, []) := rfl
theorem rw_234_61 : mm_code 233 61 = some (.ireturn, 1, 0, 0, []) := rfl
theorem rw_235_0 : mm_code 234 0 = some (.aload_n 0, 1, 0, 0, []) := rfl
theorem rw_235_1 : mm_code 234 1 = some (.iconst 0, 1, 0, 0, []) := rfl
theorem rw_235_2 : mm_code 234 2 = some (.putfield 163, 3, 11, 2, [0, 51]) := rfl
theorem rw_235_5 : mm_code 234 5 = some (.aload_n 0, 1, 0, 0, []) := rfl
theorem rw_235_6 : mm_code 234 6 = some (.iload_n 1, 1, 0, 0, []) := rfl
theorem rw_235_7 : mm_code 234 7 = some (.invokevirtual 320, 3, 185, 2, [100, 0]) := rfl
theorem rw_235_10 : mm_code 234 10 = some (.ifCond .eq 11, 3, 21, 0, []) := rfl
theorem rw_235_13 : mm_code 234 13 = some (.aload_n 0, 1, 0, 0, []) := rfl
theorem rw_235_14 : mm_code 234 14 = some (.iload_n 2, 1, 0, 0, []) := rfl
theorem rw_235_15 : mm_code 234 15 = some (.invokevirtual 323, 3, 179, 2, [101, 0]) := rfl
theorem rw_235_18 : mm_code 234 18 = some (.ifCond .ne 5, 3, 23, 0, []) := rfl
theorem rw_235_21 : mm_code 234 21 = some (.iconst (-1), 1, 1, 1, []) := rfl
theorem rw_235_22 : mm_code 234 22 = some (.ireturn, 1, 0, 0, []) := rfl
theorem rw_235_23 : mm_code 234 23 = some (.aload_n 0, 1, 0, 0, []) := rfl
theorem rw_235_24 : mm_code 234 24 = some (.iload_n 1, 1, 0, 0, []) := rfl
theorem rw_235_25 : mm_code 234 25 = some (.invokevirtual 326, 3, 188, 2, [102, 0]) := rfl
theorem rw_235_28 : mm_code 234 28 = some (.aload_n 0, 1, 0, 0, []) := rfl
theorem rw_235_29 : mm_code 234 29 = some (.iload_n 2, 1, 0, 0, []) := rfl
theorem rw_235_30 : mm_code 234 30 = some (.aload_n 0, 1, 0, 0, []) := rfl
theorem rw_235_31 : mm_code 234 31 = some (.getfield 67, 3, 11, 35, [3, 19]) := rfl
theorem rw_235_34 : mm_code 234 34 = some (.iload_n 2, 1, 0, 0, []) := rfl
theorem rw_235_35 : mm_code 234 35 = some (.laload, 1, 0, 0, []) := rfl
theorem rw_235_36 : mm_code 234 36 = some (.invokevirtual 454, 3, 233, 3, [143, 0]) := rfl
theorem rw_235_39 : mm_code 234 39 = some (.ireturn, 1, 0, 0, []) := rfl
theorem rw_236_0 : mm_code 235 0 = some (.iconst 0, 1, 0, 0, []) := rfl
theorem rw_236_1 : mm_code 235 1 = some (.istore 4, 2, 0, 0, []) := rfl
theorem rw_236_3 : mm_code 235 3 = some (.iconst 0, 1, 0, 0, []) := rfl
theorem rw_236_4 : mm_code 235 4 = some (.istore 5, 2, 0, 0, []) := rfl
theorem rw_236_6 : mm_code 235 6 = some (.iload 5, 2, 0, 0, []) := rfl
theorem rw_236_8 : mm_code 235 8 = some (.aload_n 0, 1, 0, 0, []) := rfl
theorem rw_236_9 : mm_code 235 9 = some (.getfield 236, 3, 11, 13, [0, 74]) := rfl
theorem rw_236_12 : mm_code 235 12 = some (.if_icmp .ge 36, 3, 48, 0, []) := rfl
theorem rw_236_15 : mm_code 235 15 = some (.iload 4, 2, 0, 0, []) := rfl
theorem rw_236_17 : mm_code 235 17 = some (.iload 5, 2, 0, 0, []) := rfl
theorem rw_236_19 : mm_code 235 19 = some (.iload_n 1, 1, 0, 0, []) := rfl
theorem rw_236_20 : mm_code 235 20 = some (.if_icmp .ne 7, 3, 27, 0, []) := rfl
theorem rw_236_23 : mm_code 235 23 = some (.iconst 0, 1, 0, 0, []) := rfl
theorem rw_236_24 : mm_code 235 24 = some (.goto 15, 3, 39, 0, []) := rfl
theorem rw_236_27 : mm_code 235 27 = some (.aload_n 0, 1, 0, 0, []) := rfl
theorem rw_236_28 : mm_code 235 28 = some (.getfield 67, 3, 11, 35, [3, 19]) := rfl
theorem rw_236_31 : mm_code 235 31 = some (.iload 5, 2, 0, 0, []) := rfl
theorem rw_236_33 : mm_code 235 33 = some (.laload, 1, 0, 0, []) := rfl
theorem rw_236_34 : mm_code 235 34 = some (.lload_n 2, 1, 0, 0, []) := rfl
theorem rw_236_35 : mm_code 235 35 = some (.land, 1, 0, 0, []) := rfl
theorem rw_236_36 : mm_code 235 36 = some (.invokestatic 339, 3, 150, 1, [106, 0]) := rfl
theorem rw_236_39 : mm_code 235 39 = some (.iadd, 1, 0, 0, []) := rfl
theorem rw_236_40 : mm_code 235 40 = some (.istore 4, 2, 0, 0, []) := rfl
theorem rw_236_42 : mm_code 235 42 = some (.iinc 5 1, 3, 1, 0, []) := rfl
theorem rw_236_45 : mm_code 235 45 = some (.goto (-39), 3, 6, 0, []) := rfl
theorem rw_236_48 : mm_code 235 48 = some (.iload 4, 2, 0, 0, []) := rfl
theorem rw_236_50 : mm_code 235 50 = some (.ireturn, 1, 0, 0, []) := rfl
theorem rw_237_0 : mm_code 236 0 = some (.aload_n 0, 1, 0, 0, []) := rfl
theorem rw_237_1 : mm_code 236 1 = some (.iconst 0, 1, 0, 0, []) := rfl
theorem rw_237_2 : mm_code 236 2 = some (.putfield 163, 3, 11, 2, [0, 51]) := rfl
theorem rw_237_5 : mm_code 236 5 = some (.aload_n 0, 1, 0, 0, []) := rfl
theorem rw_237_6 : mm_code 236 6 = some (.iload_n 1, 1, 0, 0, []) := rfl
theorem rw_237_7 : mm_code 236 7 = some (.invokevirtual 320, 3, 185, 2, [100, 0]) := rfl
theorem rw_237_10 : mm_code 236 10 = some (.ifCond .eq 11, 3, 21, 0, []) := rfl
theorem rw_237_13 : mm_code 236 13 = some (.aload_n 0, 1, 0, 0, []) := rfl
theorem rw_237_14 : mm_code 236 14 = some (.iload_n 2, 1, 0, 0, []) := rfl
theorem rw_237_15 : mm_code 236 15 = some (.invokevirtual 323, 3, 179, 2, [101, 0]) := rfl
theorem rw_237_18 : mm_code 236 18 = some (.ifCond .ne 5, 3, 23, 0, []) := rfl
theorem rw_237_21 : mm_code 236 21 = some (.iconst (-1), 1, 1, 1, []) := rfl
theorem rw_237_22 : mm_code 236 22 = some (.ireturn, 1, 0, 0, []) := rfl
theorem rw_237_23 : mm_code 236 23 = some (.aload_n 0, 1, 0, 0, []) := rfl
theorem rw_237_24 : mm_code 236 24 = some (.iload_n 1, 1, 0, 0, []) := rfl
theorem rw_237_25 : mm_code 236 25 = some (.invokevirtual 326, 3, 188, 2, [102, 0]) := rfl
theorem rw_237_28 : mm_code 236 28 = some (.aload_n 0, 1, 0, 0, []) := rfl
theorem rw_237_29 : mm_code 236 29 = some (.getfield 38, 3, 11, 23, [3, 10]) := rfl
theorem rw_237_32 : mm_code 236 32 = some (.iload_n 2, 1, 0, 0, []) := rfl
theorem rw_237_33 : mm_code 236 33 = some (.iaload, 1, 0, 0, []) := rfl
theorem rw_237_34 : mm_code 236 34 = some (.istore_n 3, 1, 0, 0, []) := rfl
theorem rw_237_35 : mm_code 236 35 = some (.aload_n 0, 1, 0, 0, []) := rfl
theorem rw_237_36 : mm_code 236 36 = some (.getfield 32, 3, 11, 21, [3, 8]) := rfl
theorem rw_237_39 : mm_code 236 39 = some (.iload_n 3, 1, 0, 0, []) := rfl
theorem rw_237_40 : mm_code 236 40 = some (.iaload, 1, 0, 0, []) := rfl
theorem rw_237_41 : mm_code 236 41 = some (.istore 4, 2, 0, 0, []) := rfl
theorem rw_237_43 : mm_code 236 43 = some (.iconst (-1), 1, 1, 1, []) := rfl
theorem rw_237_44 : mm_code 236 44 = some (.istore 5, 2, 0, 0, []) := rfl
theorem rw_237_46 : mm_code 236 46 = some (.iconst 0, 1, 0, 0, []) := rfl
theorem rw_237_47 : mm_code 236 47 = some (.istore 6, 2, 0, 0, []) := rfl
theorem rw_237_49 : mm_code 236 49 = some (.iconst 0, 1, 0, 0, []) := rfl
theorem rw_237_50 : mm_code 236 50 = some (.istore 7, 2, 0, 0, []) := rfl
theorem rw_237_52 : mm_code 236 52 = some (.iconst 0, 1, 0, 0, []) := rfl
theorem rw_237_53 : mm_code 236 53 = some (.istore 8, 2, 0, 0, []) := rfl
theorem rw_237_55 : mm_code 236 55 = some (.iload 8, 2, 0, 0, []) := rfl
theorem rw_237_57 : mm_code 236 57 = some (.iload 4, 2, 0, 0, []) := rfl
theorem rw_237_59 : mm_code 236 59 = some (.if_icmp .ge 18, 3, 77, 0, []) := rfl
theorem rw_237_62 : mm_code 236 62 = some (.aload_n 0, 1, 0, 0, []) := rfl
theorem rw_237_63 : mm_code 236 63 = some (.getfield 136, 3, 11, 71, [3, 42]) := rfl
theorem rw_237_66 : mm_code 236 66 = some (.iload 8, 2, 0, 0, []) := rfl
theorem rw_237_68 : mm_code 236 68 = some (.iload 8, 2, 0, 0, []) := rfl
theorem rw_237_70 : mm_code 236 70 = some (.iastore, 1, 0, 0, []) := rfl
theorem rw_237_71 : mm_code 236 71 = some (.iinc 8 1, 3, 1, 0, []) := rfl
theorem rw_237_74 : mm_code 236 74 = some (.goto (-19), 3, 55, 0, []) := rfl
theorem rw_237_77 : mm_code 236 77 = some (.iconst 0, 1, 0, 0, []) := rfl
theorem rw_237_78 : mm_code 236 78 = some (.istore 8, 2, 0, 0, []) := rfl
theorem rw_237_80 : mm_code 236 80 = some (.iconst 0, 1, 0, 0, []) := rfl
theorem rw_237_81 : mm_code 236 81 = some (.istore 9, 2, 0, 0, []) := rfl
theorem rw_237_83 : mm_code 236 83 = some (.iload 9, 2, 0, 0, []) := rfl
theorem rw_237_85 : mm_code 236 85 = some (.iload 4, 2, 0, 0, []) := rfl
theorem rw_237_87 : mm_code 236 87 = some (.if_icmp .ge 23, 3, 110, 0, []) := rfl
theorem rw_237_90 : mm_code 236 90 = some (.iload 8, 2, 0, 0, []) := rfl
theorem rw_237_92 : mm_code 236 92 = some (.iconst 1, 1, 1, 0, []) := rfl
theorem rw_237_93 : mm_code 236 93 = some (.aload_n 0, 1, 0, 0, []) := rfl
theorem rw_237_94 : mm_code 236 94 = some (.getfield 136, 3, 11, 71, [3, 42]) := rfl
theorem rw_237_97 : mm_code 236 97 = some (.iload 9, 2, 0, 0, []) := rfl
theorem rw_237_99 : mm_code 236 99 = some (.iaload, 1, 0, 0, []) := rfl
theorem rw_237_100 : mm_code 236 100 = some (.ishl, 1, 0, 0, []) := rfl
theorem rw_237_101 : mm_code 236 101 = some (.ior, 1, 0, 0, []) := rfl
theorem rw_237_102 : mm_code 236 102 = some (.istore 8, 2, 0, 0, []) := rfl
theorem rw_237_104 : mm_code 236 104 = some (.iinc 9 1, 3, 1, 0, []) := rfl
theorem rw_237_107 : mm_code 236 107 = some (.goto (-24), 3, 83, 0, []) := rfl
theorem rw_237_110 : mm_code 236 110 = some (.aload_n 0, 1, 0, 0, []) := rfl
theorem rw_237_111 : mm_code 236 111 = some (.iload_n 2, 1, 0, 0, []) := rfl
theorem rw_237_112 : mm_code 236 112 = some (.aload_n 0, 1, 0, 0, []) := rfl
theorem rw_237_113 : mm_code 236 113 = some (.iload_n 2, 1, 0, 0, []) := rfl
theorem rw_237_114 : mm_code 236 114 = some (.iload 8, 2, 0, 0, []) := rfl
theorem rw_237_116 : mm_code 236 116 = some (.invokevirtual 317, 3, 187, 3, [99, 0]) := rfl
theorem rw_237_119 : mm_code 236 119 = some (.invokevirtual 454, 3, 233, 3, [143, 0]) := rfl
theorem rw_237_122 : mm_code 236 122 = some (.istore 9, 2, 0, 0, []) := rfl
theorem rw_237_124 : mm_code 236 124 = some (.iload 5, 2, 0, 0, []) := rfl
theorem rw_237_126 : mm_code 236 126 = some (.iconst (-1), 1, 1, 1, []) := rfl
theorem rw_237_127 : mm_code 236 127 = some (.if_icmp .eq 10, 3, 137, 0, []) := rfl
theorem rw_237_130 : mm_code 236 130 = some (.iload 9, 2, 0, 0, []) := rfl
theorem rw_237_132 : mm_code 236 132 = some (.iload 6, 2, 0, 0, []) := rfl
theorem rw_237_134 : mm_code 236 134 = some (.if_icmp .gt 18, 3, 152, 0, []) := rfl
theorem rw_237_137 : mm_code 236 137 = some (.aload_n 0, 1, 0, 0, []) := rfl
theorem rw_237_138 : mm_code 236 138 = some (.iload_n 2, 1, 0, 0, []) := rfl
theorem rw_237_139 : mm_code 236 139 = some (.aload_n 0, 1, 0, 0, []) := rfl
theorem rw_237_140 : mm_code 236 140 = some (.iload_n 2, 1, 0, 0, []) := rfl
theorem rw_237_141 : mm_code 236 141 = some (.iload 8, 2, 0, 0, []) := rfl
theorem rw_237_143 : mm_code 236 143 = some (.invokevirtual 317, 3, 187, 3, [99, 0]) := rfl
theorem rw_237_146 : mm_code 236 146 = some (.invokevirtual 458, 3, 235, 3, [144, 0]) := rfl
theorem rw_237_149 : mm_code 236 149 = some (.goto 4, 3, 153, 0, []) := rfl
theorem rw_237_152 : mm_code 236 152 = some (.iconst 0, 1, 0, 0, []) := rfl
theorem rw_237_153 : mm_code 236 153 = some (.istore 10, 2, 0, 0, []) := rfl
theorem rw_237_155 : mm_code 236 155 = some (.iload 5, 2, 0, 0, []) := rfl
theorem rw_237_157 : mm_code 236 157 = some (.iconst (-1), 1, 1, 1, []) := rfl
theorem rw_237_158 : mm_code 236 158 = some (.if_icmp .eq 38, 3, 196, 0, []) := rfl
theorem rw_237_161 : mm_code 236 161 = some (.iload 9, 2, 0, 0, []) := rfl
theorem rw_237_163 : mm_code 236 163 = some (.iload 6, 2, 0, 0, []) := rfl
theorem rw_237_165 : mm_code 236 165 = some (.if_icmp .lt 31, 3, 196, 0, []) := rfl
theorem rw_237_168 : mm_code 236 168 = some (.iload 9, 2, 0, 0, []) := rfl
theorem rw_237_170 : mm_code 236 170 = some (.iload 6, 2, 0, 0, []) := rfl
theorem rw_237_172 : mm_code 236 172 = some (.if_icmp .ne 28, 3, 200, 0, []) := rfl
theorem rw_237_175 : mm_code 236 175 = some (.iload 10, 2, 0, 0, []) := rfl
theorem rw_237_177 : mm_code 236 177 = some (.iload 7, 2, 0, 0, []) := rfl
theorem rw_237_179 : mm_code 236 179 = some (.if_icmp .lt 17, 3, 196, 0, []) := rfl
theorem rw_237_182 : mm_code 236 182 = some (.iload 10, 2, 0, 0, []) := rfl
theorem rw_237_184 : mm_code 236 184 = some (.iload 7, 2, 0, 0, []) := rfl
theorem rw_237_186 : mm_code 236 186 = some (.if_icmp .ne 14, 3, 200, 0, []) := rfl
theorem rw_237_189 : mm_code 236 189 = some (.iload 8, 2, 0, 0, []) := rfl
theorem rw_237_191 : mm_code 236 191 = some (.iload 5, 2, 0, 0, []) := rfl
theorem rw_237_193 : mm_code 236 193 = some (.if_icmp .ge 7, 3, 200, 0, []) := rfl
theorem rw_237_196 : mm_code 236 196 = some (.iconst 1, 1, 1, 0, []) := rfl
theorem rw_237_197 : mm_code 236 197 = some (.goto 4, 3, 201, 0, []) := rfl
theorem rw_237_200 : mm_code 236 200 = some (.iconst 0, 1, 0, 0, []) := rfl
theorem rw_237_201 : mm_code 236 201 = some (.istore 11, 2, 0, 0, []) := rfl
theorem rw_237_203 : mm_code 236 203 = some (.iload 11, 2, 0, 0, []) := rfl
theorem rw_237_205 : mm_code 236 205 = some (.ifCond .eq 15, 3, 220, 0, []) := rfl
theorem rw_237_208 : mm_code 236 208 = some (.iload 8, 2, 0, 0, []) := rfl
theorem rw_237_210 : mm_code 236 210 = some (.istore 5, 2, 0, 0, []) := rfl
theorem rw_237_212 : mm_code 236 212 = some (.iload 9, 2, 0, 0, []) := rfl
theorem rw_237_214 : mm_code 236 214 = some (.istore 6, 2, 0, 0, []) := rfl
theorem rw_237_216 : mm_code 236 216 = some (.iload 10, 2, 0, 0, []) := rfl
theorem rw_237_218 : mm_code 236 218 = some (.istore 7, 2, 0, 0, []) := rfl
theorem rw_237_220 : mm_code 236 220 = some (.iload 4, 2, 0, 0, []) := rfl
theorem rw_237_222 : mm_code 236 222 = some (.iconst 1, 1, 1, 0, []) := rfl
theorem rw_237_223 : mm_code 236 223 = some (.isub, 1, 0, 0, []) := rfl
theorem rw_237_224 : mm_code 236 224 = some (.istore 12, 2, 0, 0, []) := rfl
theorem rw_237_226 : mm_code 236 226 = some (.iload 12, 2, 0, 0, []) := rfl
theorem rw_237_228 : mm_code 236 228 = some (.ifCond .lt 30, 3, 258, 0, []) := rfl
theorem rw_237_231 : mm_code 236 231 = some (.aload_n 0, 1, 0, 0, []) := rfl
theorem rw_237_232 : mm_code 236 232 = some (.getfield 136, 3, 11, 71, [3, 42]) := rfl
theorem rw_237_235 : mm_code 236 235 = some (.iload 12, 2, 0, 0, []) := rfl
theorem rw_237_237 : mm_code 236 237 = some (.iaload, 1, 0, 0, []) := rfl
theorem rw_237_238 : mm_code 236 238 = some (.aload_n 0, 1, 0, 0, []) := rfl
theorem rw_237_239 : mm_code 236 239 = some (.iload_n 3, 1, 0, 0, []) := rfl
theorem rw_237_240 : mm_code 236 240 = some (.invokevirtual 336, 3, 196, 2, [105, 0]) := rfl
theorem rw_237_243 : mm_code 236 243 = some (.iload 4, 2, 0, 0, []) := rfl
theorem rw_237_245 : mm_code 236 245 = some (.isub, 1, 0, 0, []) := rfl
theorem rw_237_246 : mm_code 236 246 = some (.iload 12, 2, 0, 0, []) := rfl
theorem rw_237_248 : mm_code 236 248 = some (.iadd, 1, 0, 0, []) := rfl
theorem rw_237_249 : mm_code 236 249 = some (.if_icmp .ne 9, 3, 258, 0, []) := rfl
theorem rw_237_252 : mm_code 236 252 = some (.iinc 12 (-1), 3, 1, 1, []) := rfl
theorem rw_237_255 : mm_code 236 255 = some (.goto (-29), 3, 226, 0, []) := rfl
theorem rw_237_258 : mm_code 236 258 = some (.iload 12, 2, 0, 0, []) := rfl
theorem rw_237_260 : mm_code 236 260 = some (.ifCond .ge 6, 3, 266, 0, []) := rfl
theorem rw_237_263 : mm_code 236 263 = some (.iload 5, 2, 0, 0, []) := rfl
theorem rw_237_265 : mm_code 236 265 = some (.ireturn, 1, 0, 0, []) := rfl
theorem rw_237_266 : mm_code 236 266 = some (.aload_n 0, 1, 0, 0, []) := rfl
theorem rw_237_267 : mm_code 236 267 = some (.getfield 136, 3, 11, 71, [3, 42]) := rfl
theorem rw_237_270 : mm_code 236 270 = some (.iload 12, 2, 0, 0, []) := rfl
theorem rw_237_272 : mm_code 236 272 = some (.dup2, 1, 0, 0, []) := rfl
theorem rw_237_273 : mm_code 236 273 = some (.iaload, 1, 0, 0, []) := rfl
theorem rw_237_274 : mm_code 236 274 = some (.iconst 1, 1, 1, 0, []) := rfl
theorem rw_237_275 : mm_code 236 275 = some (.iadd, 1, 0, 0, []) := rfl
theorem rw_237_276 : mm_code 236 276 = some (.iastore, 1, 0, 0, []) := rfl
theorem rw_237_277 : mm_code 236 277 = some (.iload 12, 2, 0, 0, []) := rfl
theorem rw_237_279 : mm_code 236 279 = some (.iconst 1, 1, 1, 0, []) := rfl
theorem rw_237_280 : mm_code 236 280 = some (.iadd, 1, 0, 0, []) := rfl
theorem rw_237_281 : mm_code 236 281 = some (.istore 13, 2, 0, 0, []) := rfl
theorem rw_237_283 : mm_code 236 283 = some (.iload 13, 2, 0, 0, []) := rfl
theorem rw_237_285 : mm_code 236 285 = some (.iload 4, 2, 0, 0, []) := rfl
theorem rw_237_287 : mm_code 236 287 = some (.if_icmp .ge 27, 3, 314, 0, []) := rfl
theorem rw_237_290 : mm_code 236 290 = some (.aload_n 0, 1, 0, 0, []) := rfl
theorem rw_237_291 : mm_code 236 291 = some (.getfield 136, 3, 11, 71, [3, 42]) := rfl
theorem rw_237_294 : mm_code 236 294 = some (.iload 13, 2, 0, 0, []) := rfl
theorem rw_237_296 : mm_code 236 296 = some (.aload_n 0, 1, 0, 0, []) := rfl
theorem rw_237_297 : mm_code 236 297 = some (.getfield 136, 3, 11, 71, [3, 42]) := rfl
theorem rw_237_300 : mm_code 236 300 = some (.iload 13, 2, 0, 0, []) := rfl
theorem rw_237_302 : mm_code 236 302 = some (.iconst 1, 1, 1, 0, []) := rfl
theorem rw_237_303 : mm_code 236 303 = some (.isub, 1, 0, 0, []) := rfl
theorem rw_237_304 : mm_code 236 304 = some (.iaload, 1, 0, 0, []) := rfl
theorem rw_237_305 : mm_code 236 305 = some (.iconst 1, 1, 1, 0, []) := rfl
theorem rw_237_306 : mm_code 236 306 = some (.iadd, 1, 0, 0, []) := rfl
theorem rw_237_307 : mm_code 236 307 = some (.iastore, 1, 0, 0, []) := rfl
theorem rw_237_308 : mm_code 236 308 = some (.iinc 13 1, 3, 1, 0, []) := rfl
theorem rw_237_311 : mm_code 236 311 = some (.goto (-28), 3, 283, 0, []) := rfl
theorem rw_237_314 : mm_code 236 314 = some (.goto (-237), 3, 77, 0, []) := rfl
theorem rw_238_0 : mm_code 237 0 = some (.aload_n 0, 1, 0, 0, []) := rfl
theorem rw_238_1 : mm_code 237 1 = some (.iconst 0, 1, 0, 0, []) := rfl
theorem rw_238_2 : mm_code 237 2 = some (.putfield 163, 3, 11, 2, [0, 51]) := rfl
theorem rw_238_5 : mm_code 237 5 = some (.aload_n 0, 1, 0, 0, []) := rfl
theorem rw_238_6 : mm_code 237 6 = some (.iload_n 1, 1, 0, 0, []) := rfl
theorem rw_238_7 : mm_code 237 7 = some (.invokevirtual 320, 3, 185, 2, [100, 0]) := rfl
theorem rw_238_10 : mm_code 237 10 = some (.ifCond .eq 40, 3, 50, 0, []) := rfl
theorem rw_238_13 : mm_code 237 13 = some (.aload_n 0, 1, 0, 0, []) := rfl
theorem rw_238_14 : mm_code 237 14 = some (.iload_n 2, 1, 0, 0, []) := rfl
theorem rw_238_15 : mm_code 237 15 = some (.invokevirtual 329, 3, 186, 2, [103, 0]) := rfl
theorem rw_238_18 : mm_code 237 18 = some (.ifCond .eq 32, 3, 50, 0, []) := rfl
theorem rw_238_21 : mm_code 237 21 = some (.aload_n 0, 1, 0, 0, []) := rfl
theorem rw_238_22 : mm_code 237 22 = some (.iload_n 3, 1, 0, 0, []) := rfl
theorem rw_238_23 : mm_code 237 23 = some (.invokevirtual 296, 3, 177, 2, [92, 0]) := rfl
theorem rw_238_26 : mm_code 237 26 = some (.ifCond .eq 24, 3, 50, 0, []) := rfl
theorem rw_238_29 : mm_code 237 29 = some (.iload 4, 2, 0, 0, []) := rfl
theorem rw_238_31 : mm_code 237 31 = some (.iconst 0, 1, 0, 0, []) := rfl
theorem rw_238_32 : mm_code 237 32 = some (.bipush 9, 2, 9, 0, []) := rfl
theorem rw_238_34 : mm_code 237 34 = some (.invokestatic 437, 3, 148, 3, [138, 0]) := rfl
theorem rw_238_37 : mm_code 237 37 = some (.ifCond .eq 13, 3, 50, 0, []) := rfl
theorem rw_238_40 : mm_code 237 40 = some (.iload 5, 2, 0, 0, []) := rfl
theorem rw_238_42 : mm_code 237 42 = some (.iconst 0, 1, 0, 0, []) := rfl
theorem rw_238_43 : mm_code 237 43 = some (.iconst 2, 1, 2, 0, []) := rfl
theorem rw_238_44 : mm_code 237 44 = some (.invokestatic 437, 3, 148, 3, [138, 0]) := rfl
theorem rw_238_47 : mm_code 237 47 = some (.ifCond .ne 6, 3, 53, 0, []) := rfl
theorem rw_238_50 : mm_code 237 50 = some (.bipush (-2), 2, 2, 1, []) := rfl
theorem rw_238_52 : mm_code 237 52 = some (.ireturn, 1, 0, 0, []) := rfl
theorem rw_238_53 : mm_code 237 53 = some (.aload_n 0, 1, 0, 0, []) := rfl
theorem rw_238_54 : mm_code 237 54 = some (.iload_n 1, 1, 0, 0, []) := rfl
theorem rw_238_55 : mm_code 237 55 = some (.invokevirtual 326, 3, 188, 2, [102, 0]) := rfl
theorem rw_238_58 : mm_code 237 58 = some (.aload_n 0, 1, 0, 0, []) := rfl
theorem rw_238_59 : mm_code 237 59 = some (.getfield 23, 3, 11, 18, [3, 5]) := rfl
theorem rw_238_62 : mm_code 237 62 = some (.iload_n 3, 1, 0, 0, []) := rfl
theorem rw_238_63 : mm_code 237 63 = some (.iaload, 1, 0, 0, []) := rfl
theorem rw_238_64 : mm_code 237 64 = some (.iconst 3, 1, 3, 0, []) := rfl
theorem rw_238_65 : mm_code 237 65 = some (.if_icmp .ne 16, 3, 81, 0, []) := rfl
theorem rw_238_68 : mm_code 237 68 = some (.aload_n 0, 1, 0, 0, []) := rfl
theorem rw_238_69 : mm_code 237 69 = some (.iload_n 2, 1, 0, 0, []) := rfl
theorem rw_238_70 : mm_code 237 70 = some (.iload_n 3, 1, 0, 0, []) := rfl
theorem rw_238_71 : mm_code 237 71 = some (.iload 4, 2, 0, 0, []) := rfl
theorem rw_238_73 : mm_code 237 73 = some (.iload 5, 2, 0, 0, []) := rfl
theorem rw_238_75 : mm_code 237 75 = some (.invokevirtual 461, 3, 238, 5, [145, 0]) := rfl
theorem rw_238_78 : mm_code 237 78 = some (.goto 13, 3, 91, 0, []) := rfl
theorem rw_238_81 : mm_code 237 81 = some (.aload_n 0, 1, 0, 0, []) := rfl
theorem rw_238_82 : mm_code 237 82 = some (.iload_n 2, 1, 0, 0, []) := rfl
theorem rw_238_83 : mm_code 237 83 = some (.iload_n 3, 1, 0, 0, []) := rfl
theorem rw_238_84 : mm_code 237 84 = some (.iload 4, 2, 0, 0, []) := rfl
theorem rw_238_86 : mm_code 237 86 = some (.iload 5, 2, 0, 0, []) := rfl
theorem rw_238_88 : mm_code 237 88 = some (.invokevirtual 464, 3, 239, 5, [146, 0]) := rfl
theorem rw_238_91 : mm_code 237 91 = some (.ireturn, 1, 0, 0, []) := rfl
theorem rw_239_0 : mm_code 238 0 = some (.aload_n 0, 1, 0, 0, []) := rfl
theorem rw_239_1 : mm_code 238 1 = some (.iload_n 1, 1, 0, 0, []) := rfl
theorem rw_239_2 : mm_code 238 2 = some (.iload_n 2, 1, 0, 0, []) := rfl
theorem rw_239_3 : mm_code 238 3 = some (.invokevirtual 451, 3, 231, 3, [142, 0]) := rfl
theorem rw_239_6 : mm_code 238 6 = some (.lstore 5, 2, 0, 0, []) := rfl
theorem rw_239_8 : mm_code 238 8 = some (.iconst 0, 1, 0, 0, []) := rfl
theorem rw_239_9 : mm_code 238 9 = some (.istore 7, 2, 0, 0, []) := rfl
theorem rw_239_11 : mm_code 238 11 = some (.iconst 0, 1, 0, 0, []) := rfl
theorem rw_239_12 : mm_code 238 12 = some (.istore 8, 2, 0, 0, []) := rfl
theorem rw_239_14 : mm_code 238 14 = some (.iload 8, 2, 0, 0, []) := rfl
theorem rw_239_16 : mm_code 238 16 = some (.aload_n 0, 1, 0, 0, []) := rfl
theorem rw_239_17 : mm_code 238 17 = some (.getfield 236, 3, 11, 13, [0, 74]) := rfl
theorem rw_239_20 : mm_code 238 20 = some (.if_icmp .ge 54, 3, 74, 0, []) := rfl
theorem rw_239_23 : mm_code 238 23 = some (.aload_n 0, 1, 0, 0, []) := rfl
theorem rw_239_24 : mm_code 238 24 = some (.getfield 38, 3, 11, 23, [3, 10]) := rfl
theorem rw_239_27 : mm_code 238 27 = some (.iload 8, 2, 0, 0, []) := rfl
theorem rw_239_29 : mm_code 238 29 = some (.iaload, 1, 0, 0, []) := rfl
theorem rw_239_30 : mm_code 238 30 = some (.iload_n 2, 1, 0, 0, []) := rfl
theorem rw_239_31 : mm_code 238 31 = some (.if_icmp .ne 37, 3, 68, 0, []) := rfl
theorem rw_239_34 : mm_code 238 34 = some (.aload_n 0, 1, 0, 0, []) := rfl
theorem rw_239_35 : mm_code 238 35 = some (.getfield 67, 3, 11, 35, [3, 19]) := rfl
theorem rw_239_38 : mm_code 238 38 = some (.iload 8, 2, 0, 0, []) := rfl
theorem rw_239_40 : mm_code 238 40 = some (.laload, 1, 0, 0, []) := rfl
theorem rw_239_41 : mm_code 238 41 = some (.lload 5, 2, 0, 0, []) := rfl
theorem rw_239_43 : mm_code 238 43 = some (.ldc2_w 315, 3, 1, 1, [98]) := rfl
theorem rw_239_46 : mm_code 238 46 = some (.lxor, 1, 0, 0, []) := rfl
theorem rw_239_47 : mm_code 238 47 = some (.land, 1, 0, 0, []) := rfl
theorem rw_239_48 : mm_code 238 48 = some (.lconst 0, 1, 0, 0, []) := rfl
theorem rw_239_49 : mm_code 238 49 = some (.lcmp, 1, 0, 0, []) := rfl
theorem rw_239_50 : mm_code 238 50 = some (.ifCond .eq 6, 3, 56, 0, []) := rfl
theorem rw_239_53 : mm_code 238 53 = some (.goto 15, 3, 68, 0, []) := rfl
theorem rw_239_56 : mm_code 238 56 = some (.aload_n 0, 1, 0, 0, []) := rfl
theorem rw_239_57 : mm_code 238 57 = some (.getfield 139, 3, 11, 72, [3, 43]) := rfl
theorem rw_239_60 : mm_code 238 60 = some (.iload 7, 2, 0, 0, []) := rfl
theorem rw_239_62 : mm_code 238 62 = some (.iload 8, 2, 0, 0, []) := rfl
theorem rw_239_64 : mm_code 238 64 = some (.iastore, 1, 0, 0, []) := rfl
theorem rw_239_65 : mm_code 238 65 = some (.iinc 7 1, 3, 1, 0, []) := rfl
theorem rw_239_68 : mm_code 238 68 = some (.iinc 8 1, 3, 1, 0, []) := rfl
theorem rw_239_71 : mm_code 238 71 = some (.goto (-57), 3, 14, 0, []) := rfl
theorem rw_239_74 : mm_code 238 74 = some (.sipush 4095, 3, 4095, 0, []) := rfl
theorem rw_239_77 : mm_code 238 77 = some (.istore 8, 2, 0, 0, []) := rfl
theorem rw_239_79 : mm_code 238 79 = some (.iconst 0, 1, 0, 0, []) := rfl
theorem rw_239_80 : mm_code 238 80 = some (.istore 9, 2, 0, 0, []) := rfl
theorem rw_239_82 : mm_code 238 82 = some (.iconst 0, 1, 0, 0, []) := rfl
theorem rw_239_83 : mm_code 238 83 = some (.istore 10, 2, 0, 0, []) := rfl
theorem rw_239_85 : mm_code 238 85 = some (.iconst 0, 1, 0, 0, []) := rfl
theorem rw_239_86 : mm_code 238 86 = some (.istore 11, 2, 0, 0, []) := rfl
theorem rw_239_88 : mm_code 238 88 = some (.iload 11, 2, 0, 0, []) := rfl
theorem rw_239_90 : mm_code 238 90 = some (.iconst 1, 1, 1, 0, []) := rfl
theorem rw_239_91 : mm_code 238 91 = some (.iload 7, 2, 0, 0, []) := rfl
theorem rw_239_93 : mm_code 238 93 = some (.ishl, 1, 0, 0, []) := rfl
theorem rw_239_94 : mm_code 238 94 = some (.if_icmp .ge 111, 3, 205, 0, []) := rfl
theorem rw_239_97 : mm_code 238 97 = some (.lconst 0, 1, 0, 0, []) := rfl
theorem rw_239_98 : mm_code 238 98 = some (.lstore 12, 2, 0, 0, []) := rfl
theorem rw_239_100 : mm_code 238 100 = some (.iconst 0, 1, 0, 0, []) := rfl
theorem rw_239_101 : mm_code 238 101 = some (.istore 14, 2, 0, 0, []) := rfl
theorem rw_239_103 : mm_code 238 103 = some (.iconst 0, 1, 0, 0, []) := rfl
theorem rw_239_104 : mm_code 238 104 = some (.istore 15, 2, 0, 0, []) := rfl
theorem rw_239_106 : mm_code 238 106 = some (.iload 15, 2, 0, 0, []) := rfl
theorem rw_239_108 : mm_code 238 108 = some (.iload 7, 2, 0, 0, []) := rfl
theorem rw_239_110 : mm_code 238 110 = some (.if_icmp .ge 53, 3, 163, 0, []) := rfl
theorem rw_239_113 : mm_code 238 113 = some (.iload 11, 2, 0, 0, []) := rfl
theorem rw_239_115 : mm_code 238 115 = some (.iload 15, 2, 0, 0, []) := rfl
theorem rw_239_117 : mm_code 238 117 = some (.ishr, 1, 0, 0, []) := rfl
theorem rw_239_118 : mm_code 238 118 = some (.iconst 1, 1, 1, 0, []) := rfl
theorem rw_239_119 : mm_code 238 119 = some (.iand, 1, 0, 0, []) := rfl
theorem rw_239_120 : mm_code 238 120 = some (.ifCond .ne 6, 3, 126, 0, []) := rfl
theorem rw_239_123 : mm_code 238 123 = some (.goto 34, 3, 157, 0, []) := rfl
theorem rw_239_126 : mm_code 238 126 = some (.lload 12, 2, 0, 0, []) := rfl
theorem rw_239_128 : mm_code 238 128 = some (.aload_n 0, 1, 0, 0, []) := rfl
theorem rw_239_129 : mm_code 238 129 = some (.getfield 67, 3, 11, 35, [3, 19]) := rfl
theorem rw_239_132 : mm_code 238 132 = some (.aload_n 0, 1, 0, 0, []) := rfl
theorem rw_239_133 : mm_code 238 133 = some (.getfield 139, 3, 11, 72, [3, 43]) := rfl
theorem rw_239_136 : mm_code 238 136 = some (.iload 15, 2, 0, 0, []) := rfl
theorem rw_239_138 : mm_code 238 138 = some (.iaload, 1, 0, 0, []) := rfl
theorem rw_239_139 : mm_code 238 139 = some (.laload, 1, 0, 0, []) := rfl
theorem rw_239_140 : mm_code 238 140 = some (.lor, 1, 0, 0, []) := rfl
theorem rw_239_141 : mm_code 238 141 = some (.lstore 12, 2, 0, 0, []) := rfl
theorem rw_239_143 : mm_code 238 143 = some (.iload 14, 2, 0, 0, []) := rfl
theorem rw_239_145 : mm_code 238 145 = some (.iconst 1, 1, 1, 0, []) := rfl
theorem rw_239_146 : mm_code 238 146 = some (.aload_n 0, 1, 0, 0, []) := rfl
theorem rw_239_147 : mm_code 238 147 = some (.getfield 139, 3, 11, 72, [3, 43]) := rfl
theorem rw_239_150 : mm_code 238 150 = some (.iload 15, 2, 0, 0, []) := rfl
theorem rw_239_152 : mm_code 238 152 = some (.iaload, 1, 0, 0, []) := rfl
theorem rw_239_153 : mm_code 238 153 = some (.ishl, 1, 0, 0, []) := rfl
theorem rw_239_154 : mm_code 238 154 = some (.ior, 1, 0, 0, []) := rfl
theorem rw_239_155 : mm_code 238 155 = some (.istore 14, 2, 0, 0, []) := rfl
theorem rw_239_157 : mm_code 238 157 = some (.iinc 15 1, 3, 1, 0, []) := rfl
theorem rw_239_160 : mm_code 238 160 = some (.goto (-54), 3, 106, 0, []) := rfl
theorem rw_239_163 : mm_code 238 163 = some (.lload 5, 2, 0, 0, []) := rfl
theorem rw_239_165 : mm_code 238 165 = some (.lload 12, 2, 0, 0, []) := rfl
theorem rw_239_167 : mm_code 238 167 = some (.ldc2_w 315, 3, 1, 1, [98]) := rfl
theorem rw_239_170 : mm_code 238 170 = some (.lxor, 1, 0, 0, []) := rfl
theorem rw_239_171 : mm_code 238 171 = some (.land, 1, 0, 0, []) := rfl
theorem rw_239_172 : mm_code 238 172 = some (.invokestatic 339, 3, 150, 1, [106, 0]) := rfl
theorem rw_239_175 : mm_code 238 175 = some (.iload_n 3, 1, 0, 0, []) := rfl
theorem rw_239_176 : mm_code 238 176 = some (.if_icmp .le 6, 3, 182, 0, []) := rfl
theorem rw_239_179 : mm_code 238 179 = some (.goto 20, 3, 199, 0, []) := rfl
theorem rw_239_182 : mm_code 238 182 = some (.iload 8, 2, 0, 0, []) := rfl
theorem rw_239_184 : mm_code 238 184 = some (.iload 14, 2, 0, 0, []) := rfl
theorem rw_239_186 : mm_code 238 186 = some (.iand, 1, 0, 0, []) := rfl
theorem rw_239_187 : mm_code 238 187 = some (.istore 8, 2, 0, 0, []) := rfl
theorem rw_239_189 : mm_code 238 189 = some (.iload 9, 2, 0, 0, []) := rfl
theorem rw_239_191 : mm_code 238 191 = some (.iload 14, 2, 0, 0, []) := rfl
theorem rw_239_193 : mm_code 238 193 = some (.ior, 1, 0, 0, []) := rfl
theorem rw_239_194 : mm_code 238 194 = some (.istore 9, 2, 0, 0, []) := rfl
theorem rw_239_196 : mm_code 238 196 = some (.iinc 10 1, 3, 1, 0, []) := rfl
theorem rw_239_199 : mm_code 238 199 = some (.iinc 11 1, 3, 1, 0, []) := rfl
theorem rw_239_202 : mm_code 238 202 = some (.goto (-114), 3, 88, 0, []) := rfl
theorem rw_239_205 : mm_code 238 205 = some (.iload 4, 2, 0, 0, []) := rfl
theorem rw_239_207 : mm_code 238 207 = some (.ifCond .ne 17, 3, 224, 0, []) := rfl
theorem rw_239_210 : mm_code 238 210 = some (.iload 10, 2, 0, 0, []) := rfl
theorem rw_239_212 : mm_code 238 212 = some (.ifCond .ne 7, 3, 219, 0, []) := rfl
theorem rw_239_215 : mm_code 238 215 = some (.iconst 0, 1, 0, 0, []) := rfl
theorem rw_239_216 : mm_code 238 216 = some (.goto 21, 3, 237, 0, []) := rfl
theorem rw_239_219 : mm_code 238 219 = some (.iload 8, 2, 0, 0, []) := rfl
theorem rw_239_221 : mm_code 238 221 = some (.goto 16, 3, 237, 0, []) := rfl
theorem rw_239_224 : mm_code 238 224 = some (.iload 4, 2, 0, 0, []) := rfl
theorem rw_239_226 : mm_code 238 226 = some (.iconst 1, 1, 1, 0, []) := rfl
theorem rw_239_227 : mm_code 238 227 = some (.if_icmp .ne 8, 3, 235, 0, []) := rfl
theorem rw_239_230 : mm_code 238 230 = some (.iload 9, 2, 0, 0, []) := rfl
theorem rw_239_232 : mm_code 238 232 = some (.goto 5, 3, 237, 0, []) := rfl
theorem rw_239_235 : mm_code 238 235 = some (.iload 10, 2, 0, 0, []) := rfl
theorem rw_239_237 : mm_code 238 237 = some (.ireturn, 1, 0, 0, []) := rfl
theorem rw_240_0 : mm_code 239 0 = some (.aload_n 0, 1, 0, 0, []) := rfl
theorem rw_240_1 : mm_code 239 1 = some (.iload_n 1, 1, 0, 0, []) := rfl
theorem rw_240_2 : mm_code 239 2 = some (.iload_n 2, 1, 0, 0, []) := rfl
theorem rw_240_3 : mm_code 239 3 = some (.invokevirtual 451, 3, 231, 3, [142, 0]) := rfl
theorem rw_240_6 : mm_code 239 6 = some (.lstore 5, 2, 0, 0, []) := rfl
theorem rw_240_8 : mm_code 239 8 = some (.iconst 0, 1, 0, 0, []) := rfl
theorem rw_240_9 : mm_code 239 9 = some (.istore 7, 2, 0, 0, []) := rfl
theorem rw_240_11 : mm_code 239 11 = some (.iconst 0, 1, 0, 0, []) := rfl
theorem rw_240_12 : mm_code 239 12 = some (.istore 8, 2, 0, 0, []) := rfl
theorem rw_240_14 : mm_code 239 14 = some (.iconst (-1), 1, 1, 1, []) := rfl
theorem rw_240_15 : mm_code 239 15 = some (.istore 9, 2, 0, 0, []) := rfl
theorem rw_240_17 : mm_code 239 17 = some (.iconst 0, 1, 0, 0, []) := rfl
theorem rw_240_18 : mm_code 239 18 = some (.istore 10, 2, 0, 0, []) := rfl
theorem rw_240_20 : mm_code 239 20 = some (.iload 10, 2, 0, 0, []) := rfl
theorem rw_240_22 : mm_code 239 22 = some (.aload_n 0, 1, 0, 0, []) := rfl
theorem rw_240_23 : mm_code 239 23 = some (.getfield 32, 3, 11, 21, [3, 8]) := rfl
theorem rw_240_26 : mm_code 239 26 = some (.iload_n 2, 1, 0, 0, []) := rfl
theorem rw_240_27 : mm_code 239 27 = some (.iaload, 1, 0, 0, []) := rfl
theorem rw_240_28 : mm_code 239 28 = some (.if_icmp .ge 67, 3, 95, 0, []) := rfl
theorem rw_240_31 : mm_code 239 31 = some (.aload_n 0, 1, 0, 0, []) := rfl
theorem rw_240_32 : mm_code 239 32 = some (.iload_n 2, 1, 0, 0, []) := rfl
theorem rw_240_33 : mm_code 239 33 = some (.iload 10, 2, 0, 0, []) := rfl
theorem rw_240_35 : mm_code 239 35 = some (.invokevirtual 308, 3, 182, 3, [96, 0]) := rfl
theorem rw_240_38 : mm_code 239 38 = some (.lstore 11, 2, 0, 0, []) := rfl
theorem rw_240_40 : mm_code 239 40 = some (.lload 11, 2, 0, 0, []) := rfl
theorem rw_240_42 : mm_code 239 42 = some (.lload 5, 2, 0, 0, []) := rfl
theorem rw_240_44 : mm_code 239 44 = some (.ldc2_w 315, 3, 1, 1, [98]) := rfl
theorem rw_240_47 : mm_code 239 47 = some (.lxor, 1, 0, 0, []) := rfl
theorem rw_240_48 : mm_code 239 48 = some (.land, 1, 0, 0, []) := rfl
theorem rw_240_49 : mm_code 239 49 = some (.lconst 0, 1, 0, 0, []) := rfl
theorem rw_240_50 : mm_code 239 50 = some (.lcmp, 1, 0, 0, []) := rfl
theorem rw_240_51 : mm_code 239 51 = some (.ifCond .ne 38, 3, 89, 0, []) := rfl
theorem rw_240_54 : mm_code 239 54 = some (.lload 5, 2, 0, 0, []) := rfl
theorem rw_240_56 : mm_code 239 56 = some (.lload 11, 2, 0, 0, []) := rfl
theorem rw_240_58 : mm_code 239 58 = some (.ldc2_w 315, 3, 1, 1, [98]) := rfl
theorem rw_240_61 : mm_code 239 61 = some (.lxor, 1, 0, 0, []) := rfl
theorem rw_240_62 : mm_code 239 62 = some (.land, 1, 0, 0, []) := rfl
theorem rw_240_63 : mm_code 239 63 = some (.invokestatic 339, 3, 150, 1, [106, 0]) := rfl
theorem rw_240_66 : mm_code 239 66 = some (.iload_n 3, 1, 0, 0, []) := rfl
theorem rw_240_67 : mm_code 239 67 = some (.if_icmp .le 6, 3, 73, 0, []) := rfl
theorem rw_240_70 : mm_code 239 70 = some (.goto 19, 3, 89, 0, []) := rfl
theorem rw_240_73 : mm_code 239 73 = some (.iload 7, 2, 0, 0, []) := rfl
theorem rw_240_75 : mm_code 239 75 = some (.iconst 1, 1, 1, 0, []) := rfl
theorem rw_240_76 : mm_code 239 76 = some (.iload 10, 2, 0, 0, []) := rfl
theorem rw_240_78 : mm_code 239 78 = some (.ishl, 1, 0, 0, []) := rfl
theorem rw_240_79 : mm_code 239 79 = some (.ior, 1, 0, 0, []) := rfl
theorem rw_240_80 : mm_code 239 80 = some (.istore 7, 2, 0, 0, []) := rfl
theorem rw_240_82 : mm_code 239 82 = some (.iload 10, 2, 0, 0, []) := rfl
theorem rw_240_84 : mm_code 239 84 = some (.istore 9, 2, 0, 0, []) := rfl
theorem rw_240_86 : mm_code 239 86 = some (.iinc 8 1, 3, 1, 0, []) := rfl
theorem rw_240_89 : mm_code 239 89 = some (.iinc 10 1, 3, 1, 0, []) := rfl
theorem rw_240_92 : mm_code 239 92 = some (.goto (-72), 3, 20, 0, []) := rfl
theorem rw_240_95 : mm_code 239 95 = some (.iload 4, 2, 0, 0, []) := rfl
theorem rw_240_97 : mm_code 239 97 = some (.ifCond .ne 18, 3, 115, 0, []) := rfl
theorem rw_240_100 : mm_code 239 100 = some (.iload 8, 2, 0, 0, []) := rfl
theorem rw_240_102 : mm_code 239 102 = some (.iconst 1, 1, 1, 0, []) := rfl
theorem rw_240_103 : mm_code 239 103 = some (.if_icmp .ne 8, 3, 111, 0, []) := rfl
theorem rw_240_106 : mm_code 239 106 = some (.iload 9, 2, 0, 0, []) := rfl
theorem rw_240_108 : mm_code 239 108 = some (.goto 20, 3, 128, 0, []) := rfl
theorem rw_240_111 : mm_code 239 111 = some (.iconst (-1), 1, 1, 1, []) := rfl
theorem rw_240_112 : mm_code 239 112 = some (.goto 16, 3, 128, 0, []) := rfl
theorem rw_240_115 : mm_code 239 115 = some (.iload 4, 2, 0, 0, []) := rfl
theorem rw_240_117 : mm_code 239 117 = some (.iconst 1, 1, 1, 0, []) := rfl
theorem rw_240_118 : mm_code 239 118 = some (.if_icmp .ne 8, 3, 126, 0, []) := rfl
theorem rw_240_121 : mm_code 239 121 = some (.iload 7, 2, 0, 0, []) := rfl
theorem rw_240_123 : mm_code 239 123 = some (.goto 5, 3, 128, 0, []) := rfl
theorem rw_240_126 : mm_code 239 126 = some (.iload 8, 2, 0, 0, []) := rfl
theorem rw_240_128 : mm_code 239 128 = some (.ireturn, 1, 0, 0, []) := rfl
theorem rw_241_0 : mm_code 240 0 = some (.aload_n 0, 1, 0, 0, []) := rfl
theorem rw_241_1 : mm_code 240 1 = some (.getfield 73, 3, 11, 37, [3, 21]) := rfl
theorem rw_241_4 : mm_code 240 4 = some (.bipush 8, 2, 8, 0, []) := rfl
theorem rw_241_6 : mm_code 240 6 = some (.iload_n 1, 1, 0, 0, []) := rfl
theorem rw_241_7 : mm_code 240 7 = some (.imul, 1, 0, 0, []) := rfl
theorem rw_241_8 : mm_code 240 8 = some (.iload_n 2, 1, 0, 0, []) := rfl
theorem rw_241_9 : mm_code 240 9 = some (.iadd, 1, 0, 0, []) := rfl
theorem rw_241_10 : mm_code 240 10 = some (.iaload, 1, 0, 0, []) := rfl
theorem rw_241_11 : mm_code 240 11 = some (.ireturn, 1, 0, 0, []) := rfl
theorem rw_242_0 : mm_code 241 0 = some (.aload_n 0, 1, 0, 0, []) := rfl
theorem rw_242_1 : mm_code 241 1 = some (.iconst 0, 1, 0, 0, []) := rfl
theorem rw_242_2 : mm_code 241 2 = some (.putfield 163, 3, 11, 2, [0, 51]) := rfl
theorem rw_242_5 : mm_code 241 5 = some (.iload_n 1, 1, 0, 0, []) := rfl
theorem rw_242_6 : mm_code 241 6 = some (.invokestatic 346, 3, 204, 1, [108, 0]) := rfl
theorem rw_242_9 : mm_code 241 9 = some (.ifCond .eq 11, 3, 20, 0, []) := rfl
theorem rw_242_12 : mm_code 241 12 = some (.aload_n 0, 1, 0, 0, []) := rfl
theorem rw_242_13 : mm_code 241 13 = some (.iload_n 2, 1, 0, 0, []) := rfl
theorem rw_242_14 : mm_code 241 14 = some (.invokevirtual 302, 3, 178, 2, [94, 0]) := rfl
theorem rw_242_17 : mm_code 241 17 = some (.ifCond .ne 5, 3, 22, 0, []) := rfl
theorem rw_242_20 : mm_code 241 20 = some (.iconst (-1), 1, 1, 1, []) := rfl
theorem rw_242_21 : mm_code 241 21 = some (.ireturn, 1, 0, 0, []) := rfl
theorem rw_242_22 : mm_code 241 22 = some (.aload_n 0, 1, 0, 0, []) := rfl
theorem rw_242_23 : mm_code 241 23 = some (.aload_n 0, 1, 0, 0, []) := rfl
theorem rw_242_24 : mm_code 241 24 = some (.getfield 242, 3, 11, 29, [0, 76]) := rfl
theorem rw_242_27 : mm_code 241 27 = some (.invokevirtual 326, 3, 188, 2, [102, 0]) := rfl
theorem rw_242_30 : mm_code 241 30 = some (.iconst 0, 1, 0, 0, []) := rfl
theorem rw_242_31 : mm_code 241 31 = some (.istore_n 3, 1, 0, 0, []) := rfl
theorem rw_242_32 : mm_code 241 32 = some (.iconst 0, 1, 0, 0, []) := rfl
theorem rw_242_33 : mm_code 241 33 = some (.istore 4, 2, 0, 0, []) := rfl
theorem rw_242_35 : mm_code 241 35 = some (.iload 4, 2, 0, 0, []) := rfl
theorem rw_242_37 : mm_code 241 37 = some (.aload_n 0, 1, 0, 0, []) := rfl
theorem rw_242_38 : mm_code 241 38 = some (.getfield 82, 3, 11, 40, [3, 24]) := rfl
theorem rw_242_41 : mm_code 241 41 = some (.iload_n 1, 1, 0, 0, []) := rfl
theorem rw_242_42 : mm_code 241 42 = some (.iaload, 1, 0, 0, []) := rfl
theorem rw_242_43 : mm_code 241 43 = some (.if_icmp .ge 128, 3, 171, 0, []) := rfl
theorem rw_242_46 : mm_code 241 46 = some (.aload_n 0, 1, 0, 0, []) := rfl
theorem rw_242_47 : mm_code 241 47 = some (.getfield 142, 3, 11, 73, [3, 44]) := rfl
theorem rw_242_50 : mm_code 241 50 = some (.iload 4, 2, 0, 0, []) := rfl
theorem rw_242_52 : mm_code 241 52 = some (.iconst 1, 1, 1, 0, []) := rfl
theorem rw_242_53 : mm_code 241 53 = some (.iastore, 1, 0, 0, []) := rfl
theorem rw_242_54 : mm_code 241 54 = some (.iconst 0, 1, 0, 0, []) := rfl
theorem rw_242_55 : mm_code 241 55 = some (.istore 5, 2, 0, 0, []) := rfl
theorem rw_242_57 : mm_code 241 57 = some (.iload 5, 2, 0, 0, []) := rfl
theorem rw_242_59 : mm_code 241 59 = some (.iload 4, 2, 0, 0, []) := rfl
theorem rw_242_61 : mm_code 241 61 = some (.if_icmp .ge 81, 3, 142, 0, []) := rfl
theorem rw_242_64 : mm_code 241 64 = some (.aload_n 0, 1, 0, 0, []) := rfl
theorem rw_242_65 : mm_code 241 65 = some (.aload_n 0, 1, 0, 0, []) := rfl
theorem rw_242_66 : mm_code 241 66 = some (.getfield 79, 3, 11, 39, [3, 23]) := rfl
theorem rw_242_69 : mm_code 241 69 = some (.bipush 30, 2, 30, 0, []) := rfl
theorem rw_242_71 : mm_code 241 71 = some (.iload_n 1, 1, 0, 0, []) := rfl
theorem rw_242_72 : mm_code 241 72 = some (.imul, 1, 0, 0, []) := rfl
theorem rw_242_73 : mm_code 241 73 = some (.iload 5, 2, 0, 0, []) := rfl
theorem rw_242_75 : mm_code 241 75 = some (.iadd, 1, 0, 0, []) := rfl
theorem rw_242_76 : mm_code 241 76 = some (.iaload, 1, 0, 0, []) := rfl
theorem rw_242_77 : mm_code 241 77 = some (.iload_n 2, 1, 0, 0, []) := rfl
theorem rw_242_78 : mm_code 241 78 = some (.invokevirtual 467, 3, 240, 3, [147, 0]) := rfl
theorem rw_242_81 : mm_code 241 81 = some (.aload_n 0, 1, 0, 0, []) := rfl
theorem rw_242_82 : mm_code 241 82 = some (.aload_n 0, 1, 0, 0, []) := rfl
theorem rw_242_83 : mm_code 241 83 = some (.getfield 79, 3, 11, 39, [3, 23]) := rfl
theorem rw_242_86 : mm_code 241 86 = some (.bipush 30, 2, 30, 0, []) := rfl
theorem rw_242_88 : mm_code 241 88 = some (.iload_n 1, 1, 0, 0, []) := rfl
theorem rw_242_89 : mm_code 241 89 = some (.imul, 1, 0, 0, []) := rfl
theorem rw_242_90 : mm_code 241 90 = some (.iload 4, 2, 0, 0, []) := rfl
theorem rw_242_92 : mm_code 241 92 = some (.iadd, 1, 0, 0, []) := rfl
theorem rw_242_93 : mm_code 241 93 = some (.iaload, 1, 0, 0, []) := rfl
theorem rw_242_94 : mm_code 241 94 = some (.iload_n 2, 1, 0, 0, []) := rfl
theorem rw_242_95 : mm_code 241 95 = some (.invokevirtual 467, 3, 240, 3, [147, 0]) := rfl
theorem rw_242_98 : mm_code 241 98 = some (.if_icmp .gt 38, 3, 136, 0, []) := rfl
theorem rw_242_101 : mm_code 241 101 = some (.aload_n 0, 1, 0, 0, []) := rfl
theorem rw_242_102 : mm_code 241 102 = some (.getfield 142, 3, 11, 73, [3, 44]) := rfl
theorem rw_242_105 : mm_code 241 105 = some (.iload 5, 2, 0, 0, []) := rfl
theorem rw_242_107 : mm_code 241 107 = some (.iaload, 1, 0, 0, []) := rfl
theorem rw_242_108 : mm_code 241 108 = some (.iconst 1, 1, 1, 0, []) := rfl
theorem rw_242_109 : mm_code 241 109 = some (.iadd, 1, 0, 0, []) := rfl
theorem rw_242_110 : mm_code 241 110 = some (.aload_n 0, 1, 0, 0, []) := rfl
theorem rw_242_111 : mm_code 241 111 = some (.getfield 142, 3, 11, 73, [3, 44]) := rfl
theorem rw_242_114 : mm_code 241 114 = some (.iload 4, 2, 0, 0, []) := rfl
theorem rw_242_116 : mm_code 241 116 = some (.iaload, 1, 0, 0, []) := rfl
theorem rw_242_117 : mm_code 241 117 = some (.if_icmp .le 19, 3, 136, 0, []) := rfl
theorem rw_242_120 : mm_code 241 120 = some (.aload_n 0, 1, 0, 0, []) := rfl
theorem rw_242_121 : mm_code 241 121 = some (.getfield 142, 3, 11, 73, [3, 44]) := rfl
theorem rw_242_124 : mm_code 241 124 = some (.iload 4, 2, 0, 0, []) := rfl
theorem rw_242_126 : mm_code 241 126 = some (.aload_n 0, 1, 0, 0, []) := rfl
theorem rw_242_127 : mm_code 241 127 = some (.getfield 142, 3, 11, 73, [3, 44]) := rfl
theorem rw_242_130 : mm_code 241 130 = some (.iload 5, 2, 0, 0, []) := rfl
theorem rw_242_132 : mm_code 241 132 = some (.iaload, 1, 0, 0, []) := rfl
theorem rw_242_133 : mm_code 241 133 = some (.iconst 1, 1, 1, 0, []) := rfl
theorem rw_242_134 : mm_code 241 134 = some (.iadd, 1, 0, 0, []) := rfl
theorem rw_242_135 : mm_code 241 135 = some (.iastore, 1, 0, 0, []) := rfl
theorem rw_242_136 : mm_code 241 136 = some (.iinc 5 1, 3, 1, 0, []) := rfl
theorem rw_242_139 : mm_code 241 139 = some (.goto (-82), 3, 57, 0, []) := rfl
theorem rw_242_142 : mm_code 241 142 = some (.aload_n 0, 1, 0, 0, []) := rfl
theorem rw_242_143 : mm_code 241 143 = some (.getfield 142, 3, 11, 73, [3, 44]) := rfl
theorem rw_242_146 : mm_code 241 146 = some (.iload 4, 2, 0, 0, []) := rfl
theorem rw_242_148 : mm_code 241 148 = some (.iaload, 1, 0, 0, []) := rfl
theorem rw_242_149 : mm_code 241 149 = some (.iload_n 3, 1, 0, 0, []) := rfl
theorem rw_242_150 : mm_code 241 150 = some (.if_icmp .le 13, 3, 163, 0, []) := rfl
theorem rw_242_153 : mm_code 241 153 = some (.aload_n 0, 1, 0, 0, []) := rfl
theorem rw_242_154 : mm_code 241 154 = some (.getfield 142, 3, 11, 73, [3, 44]) := rfl
theorem rw_242_157 : mm_code 241 157 = some (.iload 4, 2, 0, 0, []) := rfl
theorem rw_242_159 : mm_code 241 159 = some (.iaload, 1, 0, 0, []) := rfl
theorem rw_242_160 : mm_code 241 160 = some (.goto 4, 3, 164, 0, []) := rfl
theorem rw_242_163 : mm_code 241 163 = some (.iload_n 3, 1, 0, 0, []) := rfl
theorem rw_242_164 : mm_code 241 164 = some (.istore_n 3, 1, 0, 0, []) := rfl
theorem rw_242_165 : mm_code 241 165 = some (.iinc 4 1, 3, 1, 0, []) := rfl
theorem rw_242_168 : mm_code 241 168 = some (.goto (-133), 3, 35, 0, []) := rfl
theorem rw_242_171 : mm_code 241 171 = some (.aload_n 0, 1, 0, 0, []) := rfl
theorem rw_242_172 : mm_code 241 172 = some (.getfield 82, 3, 11, 40, [3, 24]) := rfl
theorem rw_242_175 : mm_code 241 175 = some (.iload_n 1, 1, 0, 0, []) := rfl
theorem rw_242_176 : mm_code 241 176 = some (.iaload, 1, 0, 0, []) := rfl
theorem rw_242_177 : mm_code 241 177 = some (.iload_n 3, 1, 0, 0, []) := rfl
theorem rw_242_178 : mm_code 241 178 = some (.isub, 1, 0, 0, []) := rfl
theorem rw_242_179 : mm_code 241 179 = some (.ireturn, 1, 0, 0, []) := rfl
theorem rw_243_0 : mm_code 242 0 = some (.aload_n 0, 1, 0, 0, []) := rfl
theorem rw_243_1 : mm_code 242 1 = some (.getfield 82, 3, 11, 40, [3, 24]) := rfl
theorem rw_243_4 : mm_code 242 4 = some (.iload_n 1, 1, 0, 0, []) := rfl
theorem rw_243_5 : mm_code 242 5 = some (.iaload, 1, 0, 0, []) := rfl
theorem rw_243_6 : mm_code 242 6 = some (.istore 4, 2, 0, 0, []) := rfl
theorem rw_243_8 : mm_code 242 8 = some (.iconst 0, 1, 0, 0, []) := rfl
theorem rw_243_9 : mm_code 242 9 = some (.istore 5, 2, 0, 0, []) := rfl
theorem rw_243_11 : mm_code 242 11 = some (.iload 5, 2, 0, 0, []) := rfl
theorem rw_243_13 : mm_code 242 13 = some (.iload 4, 2, 0, 0, []) := rfl
theorem rw_243_15 : mm_code 242 15 = some (.if_icmp .ge 28, 3, 43, 0, []) := rfl
theorem rw_243_18 : mm_code 242 18 = some (.aload_n 0, 1, 0, 0, []) := rfl
theorem rw_243_19 : mm_code 242 19 = some (.getfield 145, 3, 11, 74, [3, 45]) := rfl
theorem rw_243_22 : mm_code 242 22 = some (.iload 5, 2, 0, 0, []) := rfl
theorem rw_243_24 : mm_code 242 24 = some (.aload_n 0, 1, 0, 0, []) := rfl
theorem rw_243_25 : mm_code 242 25 = some (.getfield 79, 3, 11, 39, [3, 23]) := rfl
theorem rw_243_28 : mm_code 242 28 = some (.bipush 30, 2, 30, 0, []) := rfl
theorem rw_243_30 : mm_code 242 30 = some (.iload_n 1, 1, 0, 0, []) := rfl
theorem rw_243_31 : mm_code 242 31 = some (.imul, 1, 0, 0, []) := rfl
theorem rw_243_32 : mm_code 242 32 = some (.iload 5, 2, 0, 0, []) := rfl
theorem rw_243_34 : mm_code 242 34 = some (.iadd, 1, 0, 0, []) := rfl
theorem rw_243_35 : mm_code 242 35 = some (.iaload, 1, 0, 0, []) := rfl
theorem rw_243_36 : mm_code 242 36 = some (.iastore, 1, 0, 0, []) := rfl
theorem rw_243_37 : mm_code 242 37 = some (.iinc 5 1, 3, 1, 0, []) := rfl
theorem rw_243_40 : mm_code 242 40 = some (.goto (-29), 3, 11, 0, []) := rfl
theorem rw_243_43 : mm_code 242 43 = some (.iconst 0, 1, 0, 0, []) := rfl
theorem rw_243_44 : mm_code 242 44 = some (.istore 5, 2, 0, 0, []) := rfl
theorem rw_243_46 : mm_code 242 46 = some (.iload 5, 2, 0, 0, []) := rfl
theorem rw_243_48 : mm_code 242 48 = some (.iload_n 3, 1, 0, 0, []) := rfl
theorem rw_243_49 : mm_code 242 49 = some (.if_icmp .ge 166, 3, 215, 0, []) := rfl
theorem rw_243_52 : mm_code 242 52 = some (.iconst 0, 1, 0, 0, []) := rfl
theorem rw_243_53 : mm_code 242 53 = some (.istore 6, 2, 0, 0, []) := rfl
theorem rw_243_55 : mm_code 242 55 = some (.iconst 0, 1, 0, 0, []) := rfl
theorem rw_243_56 : mm_code 242 56 = some (.istore 7, 2, 0, 0, []) := rfl
theorem rw_243_58 : mm_code 242 58 = some (.iload 7, 2, 0, 0, []) := rfl
theorem rw_243_60 : mm_code 242 60 = some (.iload 4, 2, 0, 0, []) := rfl
theorem rw_243_62 : mm_code 242 62 = some (.if_icmp .ge 55, 3, 117, 0, []) := rfl
theorem rw_243_65 : mm_code 242 65 = some (.aload_n 0, 1, 0, 0, []) := rfl
theorem rw_243_66 : mm_code 242 66 = some (.getfield 154, 3, 11, 77, [3, 48]) := rfl
theorem rw_243_69 : mm_code 242 69 = some (.bipush 6, 2, 6, 0, []) := rfl
theorem rw_243_71 : mm_code 242 71 = some (.aload_n 0, 1, 0, 0, []) := rfl
theorem rw_243_72 : mm_code 242 72 = some (.getfield 145, 3, 11, 74, [3, 45]) := rfl
theorem rw_243_75 : mm_code 242 75 = some (.iload 7, 2, 0, 0, []) := rfl
theorem rw_243_77 : mm_code 242 77 = some (.iaload, 1, 0, 0, []) := rfl
theorem rw_243_78 : mm_code 242 78 = some (.imul, 1, 0, 0, []) := rfl
theorem rw_243_79 : mm_code 242 79 = some (.aload_n 0, 1, 0, 0, []) := rfl
theorem rw_243_80 : mm_code 242 80 = some (.getfield 151, 3, 11, 76, [3, 47]) := rfl
theorem rw_243_83 : mm_code 242 83 = some (.iload 5, 2, 0, 0, []) := rfl
theorem rw_243_85 : mm_code 242 85 = some (.iaload, 1, 0, 0, []) := rfl
theorem rw_243_86 : mm_code 242 86 = some (.iadd, 1, 0, 0, []) := rfl
theorem rw_243_87 : mm_code 242 87 = some (.baload, 1, 0, 0, []) := rfl
theorem rw_243_88 : mm_code 242 88 = some (.ifCond .eq 6, 3, 94, 0, []) := rfl
theorem rw_243_91 : mm_code 242 91 = some (.goto 20, 3, 111, 0, []) := rfl
theorem rw_243_94 : mm_code 242 94 = some (.aload_n 0, 1, 0, 0, []) := rfl
theorem rw_243_95 : mm_code 242 95 = some (.getfield 148, 3, 11, 75, [3, 46]) := rfl
theorem rw_243_98 : mm_code 242 98 = some (.iload 6, 2, 0, 0, []) := rfl
theorem rw_243_100 : mm_code 242 100 = some (.aload_n 0, 1, 0, 0, []) := rfl
theorem rw_243_101 : mm_code 242 101 = some (.getfield 145, 3, 11, 74, [3, 45]) := rfl
theorem rw_243_104 : mm_code 242 104 = some (.iload 7, 2, 0, 0, []) := rfl
theorem rw_243_106 : mm_code 242 106 = some (.iaload, 1, 0, 0, []) := rfl
theorem rw_243_107 : mm_code 242 107 = some (.iastore, 1, 0, 0, []) := rfl
theorem rw_243_108 : mm_code 242 108 = some (.iinc 6 1, 3, 1, 0, []) := rfl
theorem rw_243_111 : mm_code 242 111 = some (.iinc 7 1, 3, 1, 0, []) := rfl
theorem rw_243_114 : mm_code 242 114 = some (.goto (-56), 3, 58, 0, []) := rfl
theorem rw_243_117 : mm_code 242 117 = some (.iconst 0, 1, 0, 0, []) := rfl
theorem rw_243_118 : mm_code 242 118 = some (.istore 7, 2, 0, 0, []) := rfl
theorem rw_243_120 : mm_code 242 120 = some (.iload 7, 2, 0, 0, []) := rfl
theorem rw_243_122 : mm_code 242 122 = some (.iload 4, 2, 0, 0, []) := rfl
theorem rw_243_124 : mm_code 242 124 = some (.if_icmp .ge 55, 3, 179, 0, []) := rfl
theorem rw_243_127 : mm_code 242 127 = some (.aload_n 0, 1, 0, 0, []) := rfl
theorem rw_243_128 : mm_code 242 128 = some (.getfield 154, 3, 11, 77, [3, 48]) := rfl
theorem rw_243_131 : mm_code 242 131 = some (.bipush 6, 2, 6, 0, []) := rfl
theorem rw_243_133 : mm_code 242 133 = some (.aload_n 0, 1, 0, 0, []) := rfl
theorem rw_243_134 : mm_code 242 134 = some (.getfield 145, 3, 11, 74, [3, 45]) := rfl
theorem rw_243_137 : mm_code 242 137 = some (.iload 7, 2, 0, 0, []) := rfl
theorem rw_243_139 : mm_code 242 139 = some (.iaload, 1, 0, 0, []) := rfl
theorem rw_243_140 : mm_code 242 140 = some (.imul, 1, 0, 0, []) := rfl
theorem rw_243_141 : mm_code 242 141 = some (.aload_n 0, 1, 0, 0, []) := rfl
theorem rw_243_142 : mm_code 242 142 = some (.getfield 151, 3, 11, 76, [3, 47]) := rfl
theorem rw_243_145 : mm_code 242 145 = some (.iload 5, 2, 0, 0, []) := rfl
theorem rw_243_147 : mm_code 242 147 = some (.iaload, 1, 0, 0, []) := rfl
theorem rw_243_148 : mm_code 242 148 = some (.iadd, 1, 0, 0, []) := rfl
theorem rw_243_149 : mm_code 242 149 = some (.baload, 1, 0, 0, []) := rfl
theorem rw_243_150 : mm_code 242 150 = some (.ifCond .ne 6, 3, 156, 0, []) := rfl
theorem rw_243_153 : mm_code 242 153 = some (.goto 20, 3, 173, 0, []) := rfl
theorem rw_243_156 : mm_code 242 156 = some (.aload_n 0, 1, 0, 0, []) := rfl
theorem rw_243_157 : mm_code 242 157 = some (.getfield 148, 3, 11, 75, [3, 46]) := rfl
theorem rw_243_160 : mm_code 242 160 = some (.iload 6, 2, 0, 0, []) := rfl
theorem rw_243_162 : mm_code 242 162 = some (.aload_n 0, 1, 0, 0, []) := rfl
theorem rw_243_163 : mm_code 242 163 = some (.getfield 145, 3, 11, 74, [3, 45]) := rfl
theorem rw_243_166 : mm_code 242 166 = some (.iload 7, 2, 0, 0, []) := rfl
theorem rw_243_168 : mm_code 242 168 = some (.iaload, 1, 0, 0, []) := rfl
theorem rw_243_169 : mm_code 242 169 = some (.iastore, 1, 0, 0, []) := rfl
theorem rw_243_170 : mm_code 242 170 = some (.iinc 6 1, 3, 1, 0, []) := rfl
theorem rw_243_173 : mm_code 242 173 = some (.iinc 7 1, 3, 1, 0, []) := rfl
theorem rw_243_176 : mm_code 242 176 = some (.goto (-56), 3, 120, 0, []) := rfl
theorem rw_243_179 : mm_code 242 179 = some (.iconst 0, 1, 0, 0, []) := rfl
theorem rw_243_180 : mm_code 242 180 = some (.istore 7, 2, 0, 0, []) := rfl
theorem rw_243_182 : mm_code 242 182 = some (.iload 7, 2, 0, 0, []) := rfl
theorem rw_243_184 : mm_code 242 184 = some (.iload 4, 2, 0, 0, []) := rfl
theorem rw_243_186 : mm_code 242 186 = some (.if_icmp .ge 23, 3, 209, 0, []) := rfl
theorem rw_243_189 : mm_code 242 189 = some (.aload_n 0, 1, 0, 0, []) := rfl
theorem rw_243_190 : mm_code 242 190 = some (.getfield 145, 3, 11, 74, [3, 45]) := rfl
theorem rw_243_193 : mm_code 242 193 = some (.iload 7, 2, 0, 0, []) := rfl
theorem rw_243_195 : mm_code 242 195 = some (.aload_n 0, 1, 0, 0, []) := rfl
theorem rw_243_196 : mm_code 242 196 = some (.getfield 148, 3, 11, 75, [3, 46]) := rfl
theorem rw_243_199 : mm_code 242 199 = some (.iload 7, 2, 0, 0, []) := rfl
theorem rw_243_201 : mm_code 242 201 = some (.iaload, 1, 0, 0, []) := rfl
theorem rw_243_202 : mm_code 242 202 = some (.iastore, 1, 0, 0, []) := rfl
theorem rw_243_203 : mm_code 242 203 = some (.iinc 7 1, 3, 1, 0, []) := rfl
theorem rw_243_206 : mm_code 242 206 = some (.goto (-24), 3, 182, 0, []) := rfl
theorem rw_243_209 : mm_code 242 209 = some (.iinc 5 1, 3, 1, 0, []) := rfl
theorem rw_243_212 : mm_code 242 212 = some (.goto (-166), 3, 46, 0, []) := rfl
theorem rw_243_215 : mm_code 242 215 = some (.iconst 1, 1, 1, 0, []) := rfl
theorem rw_243_216 : mm_code 242 216 = some (.istore 5, 2, 0, 0, []) := rfl
theorem rw_243_218 : mm_code 242 218 = some (.iload 5, 2, 0, 0, []) := rfl
theorem rw_243_220 : mm_code 242 220 = some (.iload 4, 2, 0, 0, []) := rfl
theorem rw_243_222 : mm_code 242 222 = some (.if_icmp .ge 40, 3, 262, 0, []) := rfl
theorem rw_243_225 : mm_code 242 225 = some (.aload_n 0, 1, 0, 0, []) := rfl
theorem rw_243_226 : mm_code 242 226 = some (.aload_n 0, 1, 0, 0, []) := rfl
theorem rw_243_227 : mm_code 242 227 = some (.getfield 145, 3, 11, 74, [3, 45]) := rfl
theorem rw_243_230 : mm_code 242 230 = some (.iload 5, 2, 0, 0, []) := rfl
theorem rw_243_232 : mm_code 242 232 = some (.iconst 1, 1, 1, 0, []) := rfl
theorem rw_243_233 : mm_code 242 233 = some (.isub, 1, 0, 0, []) := rfl
theorem rw_243_234 : mm_code 242 234 = some (.iaload, 1, 0, 0, []) := rfl
theorem rw_243_235 : mm_code 242 235 = some (.iload_n 2, 1, 0, 0, []) := rfl
theorem rw_243_236 : mm_code 242 236 = some (.invokevirtual 467, 3, 240, 3, [147, 0]) := rfl
theorem rw_243_239 : mm_code 242 239 = some (.aload_n 0, 1, 0, 0, []) := rfl
theorem rw_243_240 : mm_code 242 240 = some (.aload_n 0, 1, 0, 0, []) := rfl
theorem rw_243_241 : mm_code 242 241 = some (.getfield 145, 3, 11, 74, [3, 45]) := rfl
theorem rw_243_244 : mm_code 242 244 = some (.iload 5, 2, 0, 0, []) := rfl
theorem rw_243_246 : mm_code 242 246 = some (.iaload, 1, 0, 0, []) := rfl
theorem rw_243_247 : mm_code 242 247 = some (.iload_n 2, 1, 0, 0, []) := rfl
theorem rw_243_248 : mm_code 242 248 = some (.invokevirtual 467, 3, 240, 3, [147, 0]) := rfl
theorem rw_243_251 : mm_code 242 251 = some (.if_icmp .le 5, 3, 256, 0, []) := rfl
theorem rw_243_254 : mm_code 242 254 = some (.iconst 0, 1, 0, 0, []) := rfl
theorem rw_243_255 : mm_code 242 255 = some (.ireturn, 1, 1, 0, []) := rfl
theorem rw_243_256 : mm_code 242 256 = some (.iinc 5 1, 3, 1, 0, []) := rfl
theorem rw_243_259 : mm_code 242 259 = some (.goto (-41), 3, 218, 0, []) := rfl
theorem rw_243_262 : mm_code 242 262 = some (.iconst 1, 1, 1, 0, []) := rfl
theorem rw_243_263 : mm_code 242 263 = some (.ireturn, 1, 1, 0, []) := rfl
theorem rw_244_0 : mm_code 243 0 = some (.iconst 0, 1, 0, 0, []) := rfl
theorem rw_244_1 : mm_code 243 1 = some (.istore_n 3, 1, 0, 0, []) := rfl
theorem rw_244_2 : mm_code 243 2 = some (.iconst 0, 1, 0, 0, []) := rfl
theorem rw_244_3 : mm_code 243 3 = some (.istore 4, 2, 0, 0, []) := rfl
theorem rw_244_5 : mm_code 243 5 = some (.iload 4, 2, 0, 0, []) := rfl
theorem rw_244_7 : mm_code 243 7 = some (.iload_n 1, 1, 0, 0, []) := rfl
theorem rw_244_8 : mm_code 243 8 = some (.if_icmp .ge 21, 3, 29, 0, []) := rfl
theorem rw_244_11 : mm_code 243 11 = some (.iload_n 2, 1, 0, 0, []) := rfl
theorem rw_244_12 : mm_code 243 12 = some (.iload_n 3, 1, 0, 0, []) := rfl
theorem rw_244_13 : mm_code 243 13 = some (.imul, 1, 0, 0, []) := rfl
theorem rw_244_14 : mm_code 243 14 = some (.aload_n 0, 1, 0, 0, []) := rfl
theorem rw_244_15 : mm_code 243 15 = some (.getfield 151, 3, 11, 76, [3, 47]) := rfl
theorem rw_244_18 : mm_code 243 18 = some (.iload 4, 2, 0, 0, []) := rfl
theorem rw_244_20 : mm_code 243 20 = some (.iaload, 1, 0, 0, []) := rfl
theorem rw_244_21 : mm_code 243 21 = some (.iadd, 1, 0, 0, []) := rfl
theorem rw_244_22 : mm_code 243 22 = some (.istore_n 3, 1, 0, 0, []) := rfl
theorem rw_244_23 : mm_code 243 23 = some (.iinc 4 1, 3, 1, 0, []) := rfl
theorem rw_244_26 : mm_code 243 26 = some (.goto (-21), 3, 5, 0, []) := rfl
theorem rw_244_29 : mm_code 243 29 = some (.iconst 1, 1, 1, 0, []) := rfl
theorem rw_244_30 : mm_code 243 30 = some (.istore 4, 2, 0, 0, []) := rfl
theorem rw_244_32 : mm_code 243 32 = some (.iconst 0, 1, 0, 0, []) := rfl
theorem rw_244_33 : mm_code 243 33 = some (.istore 5, 2, 0, 0, []) := rfl
theorem rw_244_35 : mm_code 243 35 = some (.iload 5, 2, 0, 0, []) := rfl
theorem rw_244_37 : mm_code 243 37 = some (.iload_n 1, 1, 0, 0, []) := rfl
theorem rw_244_38 : mm_code 243 38 = some (.if_icmp .ge 15, 3, 53, 0, []) := rfl
theorem rw_244_41 : mm_code 243 41 = some (.iload 4, 2, 0, 0, []) := rfl
theorem rw_244_43 : mm_code 243 43 = some (.iload_n 2, 1, 0, 0, []) := rfl
theorem rw_244_44 : mm_code 243 44 = some (.imul, 1, 0, 0, []) := rfl
theorem rw_244_45 : mm_code 243 45 = some (.istore 4, 2, 0, 0, []) := rfl
theorem rw_244_47 : mm_code 243 47 = some (.iinc 5 1, 3, 1, 0, []) := rfl
theorem rw_244_50 : mm_code 243 50 = some (.goto (-15), 3, 35, 0, []) := rfl
theorem rw_244_53 : mm_code 243 53 = some (.iload_n 3, 1, 0, 0, []) := rfl
theorem rw_244_54 : mm_code 243 54 = some (.iconst 1, 1, 1, 0, []) := rfl
theorem rw_244_55 : mm_code 243 55 = some (.iadd, 1, 0, 0, []) := rfl
theorem rw_244_56 : mm_code 243 56 = some (.istore 5, 2, 0, 0, []) := rfl
theorem rw_244_58 : mm_code 243 58 = some (.iload 5, 2, 0, 0, []) := rfl
theorem rw_244_60 : mm_code 243 60 = some (.iload 4, 2, 0, 0, []) := rfl
theorem rw_244_62 : mm_code 243 62 = some (.if_icmp .ge 75, 3, 137, 0, []) := rfl
theorem rw_244_65 : mm_code 243 65 = some (.iload 5, 2, 0, 0, []) := rfl
theorem rw_244_67 : mm_code 243 67 = some (.istore 6, 2, 0, 0, []) := rfl
theorem rw_244_69 : mm_code 243 69 = some (.iconst 0, 1, 0, 0, []) := rfl
theorem rw_244_70 : mm_code 243 70 = some (.istore 7, 2, 0, 0, []) := rfl
theorem rw_244_72 : mm_code 243 72 = some (.iload_n 1, 1, 0, 0, []) := rfl
theorem rw_244_73 : mm_code 243 73 = some (.iconst 1, 1, 1, 0, []) := rfl
theorem rw_244_74 : mm_code 243 74 = some (.isub, 1, 0, 0, []) := rfl
theorem rw_244_75 : mm_code 243 75 = some (.istore 8, 2, 0, 0, []) := rfl
theorem rw_244_77 : mm_code 243 77 = some (.iload 8, 2, 0, 0, []) := rfl
theorem rw_244_79 : mm_code 243 79 = some (.ifCond .lt 40, 3, 119, 0, []) := rfl
theorem rw_244_82 : mm_code 243 82 = some (.aload_n 0, 1, 0, 0, []) := rfl
theorem rw_244_83 : mm_code 243 83 = some (.getfield 151, 3, 11, 76, [3, 47]) := rfl
theorem rw_244_86 : mm_code 243 86 = some (.iload 8, 2, 0, 0, []) := rfl
theorem rw_244_88 : mm_code 243 88 = some (.iload 6, 2, 0, 0, []) := rfl
theorem rw_244_90 : mm_code 243 90 = some (.iload_n 2, 1, 0, 0, []) := rfl
theorem rw_244_91 : mm_code 243 91 = some (.irem, 1, 0, 0, []) := rfl
theorem rw_244_92 : mm_code 243 92 = some (.iastore, 1, 0, 0, []) := rfl
theorem rw_244_93 : mm_code 243 93 = some (.iload 7, 2, 0, 0, []) := rfl
theorem rw_244_95 : mm_code 243 95 = some (.iconst 1, 1, 1, 0, []) := rfl
theorem rw_244_96 : mm_code 243 96 = some (.aload_n 0, 1, 0, 0, []) := rfl
theorem rw_244_97 : mm_code 243 97 = some (.getfield 151, 3, 11, 76, [3, 47]) := rfl
theorem rw_244_100 : mm_code 243 100 = some (.iload 8, 2, 0, 0, []) := rfl
theorem rw_244_102 : mm_code 243 102 = some (.iaload, 1, 0, 0, []) := rfl
theorem rw_244_103 : mm_code 243 103 = some (.ishl, 1, 0, 0, []) := rfl
theorem rw_244_104 : mm_code 243 104 = some (.ior, 1, 0, 0, []) := rfl
theorem rw_244_105 : mm_code 243 105 = some (.istore 7, 2, 0, 0, []) := rfl
theorem rw_244_107 : mm_code 243 107 = some (.iload 6, 2, 0, 0, []) := rfl
theorem rw_244_109 : mm_code 243 109 = some (.iload_n 2, 1, 0, 0, []) := rfl
theorem rw_244_110 : mm_code 243 110 = some (.idiv, 1, 0, 0, []) := rfl
theorem rw_244_111 : mm_code 243 111 = some (.istore 6, 2, 0, 0, []) := rfl
theorem rw_244_113 : mm_code 243 113 = some (.iinc 8 (-1), 3, 1, 1, []) := rfl
theorem rw_244_116 : mm_code 243 116 = some (.goto (-39), 3, 77, 0, []) := rfl
theorem rw_244_119 : mm_code 243 119 = some (.iload 7, 2, 0, 0, []) := rfl
theorem rw_244_121 : mm_code 243 121 = some (.i2l, 1, 0, 0, []) := rfl
theorem rw_244_122 : mm_code 243 122 = some (.invokestatic 339, 3, 150, 1, [106, 0]) := rfl
theorem rw_244_125 : mm_code 243 125 = some (.iload_n 1, 1, 0, 0, []) := rfl
theorem rw_244_126 : mm_code 243 126 = some (.if_icmp .ne 5, 3, 131, 0, []) := rfl
theorem rw_244_129 : mm_code 243 129 = some (.iconst 1, 1, 1, 0, []) := rfl
theorem rw_244_130 : mm_code 243 130 = some (.ireturn, 1, 1, 0, []) := rfl
theorem rw_244_131 : mm_code 243 131 = some (.iinc 5 1, 3, 1, 0, []) := rfl
theorem rw_244_134 : mm_code 243 134 = some (.goto (-76), 3, 58, 0, []) := rfl
theorem rw_244_137 : mm_code 243 137 = some (.iconst 0, 1, 0, 0, []) := rfl
theorem rw_244_138 : mm_code 243 138 = some (.ireturn, 1, 1, 0, []) := rfl
theorem rw_245_0 : mm_code 244 0 = some (.aload_n 0, 1, 0, 0, []) := rfl
theorem rw_245_1 : mm_code 244 1 = some (.iconst 0, 1, 0, 0, []) := rfl
theorem rw_245_2 : mm_code 244 2 = some (.putfield 163, 3, 11, 2, [0, 51]) := rfl
theorem rw_245_5 : mm_code 244 5 = some (.iload_n 1, 1, 0, 0, []) := rfl
theorem rw_245_6 : mm_code 244 6 = some (.invokestatic 346, 3, 204, 1, [108, 0]) := rfl
theorem rw_245_9 : mm_code 244 9 = some (.ifCond .eq 31, 3, 40, 0, []) := rfl
theorem rw_245_12 : mm_code 244 12 = some (.aload_n 0, 1, 0, 0, []) := rfl
theorem rw_245_13 : mm_code 244 13 = some (.iload_n 2, 1, 0, 0, []) := rfl
theorem rw_245_14 : mm_code 244 14 = some (.invokevirtual 302, 3, 178, 2, [94, 0]) := rfl
theorem rw_245_17 : mm_code 244 17 = some (.ifCond .eq 23, 3, 40, 0, []) := rfl
theorem rw_245_20 : mm_code 244 20 = some (.aload_n 0, 1, 0, 0, []) := rfl
theorem rw_245_21 : mm_code 244 21 = some (.iload_n 2, 1, 0, 0, []) := rfl
theorem rw_245_22 : mm_code 244 22 = some (.invokevirtual 336, 3, 196, 2, [105, 0]) := rfl
theorem rw_245_25 : mm_code 244 25 = some (.bipush 6, 2, 6, 0, []) := rfl
theorem rw_245_27 : mm_code 244 27 = some (.if_icmp .gt 13, 3, 40, 0, []) := rfl
theorem rw_245_30 : mm_code 244 30 = some (.iload_n 3, 1, 0, 0, []) := rfl
theorem rw_245_31 : mm_code 244 31 = some (.iconst 0, 1, 0, 0, []) := rfl
theorem rw_245_32 : mm_code 244 32 = some (.bipush 6, 2, 6, 0, []) := rfl
theorem rw_245_34 : mm_code 244 34 = some (.invokestatic 437, 3, 148, 3, [138, 0]) := rfl
theorem rw_245_37 : mm_code 244 37 = some (.ifCond .ne 5, 3, 42, 0, []) := rfl
theorem rw_245_40 : mm_code 244 40 = some (.iconst (-1), 1, 1, 1, []) := rfl
theorem rw_245_41 : mm_code 244 41 = some (.ireturn, 1, 0, 0, []) := rfl
theorem rw_245_42 : mm_code 244 42 = some (.aload_n 0, 1, 0, 0, []) := rfl
theorem rw_245_43 : mm_code 244 43 = some (.aload_n 0, 1, 0, 0, []) := rfl
theorem rw_245_44 : mm_code 244 44 = some (.getfield 242, 3, 11, 29, [0, 76]) := rfl
theorem rw_245_47 : mm_code 244 47 = some (.invokevirtual 326, 3, 188, 2, [102, 0]) := rfl
theorem rw_245_50 : mm_code 244 50 = some (.aload_n 0, 1, 0, 0, []) := rfl
theorem rw_245_51 : mm_code 244 51 = some (.iload_n 2, 1, 0, 0, []) := rfl
theorem rw_245_52 : mm_code 244 52 = some (.invokevirtual 336, 3, 196, 2, [105, 0]) := rfl
theorem rw_245_55 : mm_code 244 55 = some (.istore 4, 2, 0, 0, []) := rfl
theorem rw_245_57 : mm_code 244 57 = some (.iconst 0, 1, 0, 0, []) := rfl
theorem rw_245_58 : mm_code 244 58 = some (.istore 5, 2, 0, 0, []) := rfl
theorem rw_245_60 : mm_code 244 60 = some (.iload 5, 2, 0, 0, []) := rfl
theorem rw_245_62 : mm_code 244 62 = some (.aload_n 0, 1, 0, 0, []) := rfl
theorem rw_245_63 : mm_code 244 63 = some (.getfield 239, 3, 11, 28, [0, 75]) := rfl
theorem rw_245_66 : mm_code 244 66 = some (.if_icmp .ge 55, 3, 121, 0, []) := rfl
theorem rw_245_69 : mm_code 244 69 = some (.iconst 0, 1, 0, 0, []) := rfl
theorem rw_245_70 : mm_code 244 70 = some (.istore 6, 2, 0, 0, []) := rfl
theorem rw_245_72 : mm_code 244 72 = some (.iload 6, 2, 0, 0, []) := rfl
theorem rw_245_74 : mm_code 244 74 = some (.iload 4, 2, 0, 0, []) := rfl
theorem rw_245_76 : mm_code 244 76 = some (.if_icmp .ge 39, 3, 115, 0, []) := rfl
theorem rw_245_79 : mm_code 244 79 = some (.aload_n 0, 1, 0, 0, []) := rfl
theorem rw_245_80 : mm_code 244 80 = some (.getfield 154, 3, 11, 77, [3, 48]) := rfl
theorem rw_245_83 : mm_code 244 83 = some (.bipush 6, 2, 6, 0, []) := rfl
theorem rw_245_85 : mm_code 244 85 = some (.iload 5, 2, 0, 0, []) := rfl
theorem rw_245_87 : mm_code 244 87 = some (.imul, 1, 0, 0, []) := rfl
theorem rw_245_88 : mm_code 244 88 = some (.iload 6, 2, 0, 0, []) := rfl
theorem rw_245_90 : mm_code 244 90 = some (.iadd, 1, 0, 0, []) := rfl
theorem rw_245_91 : mm_code 244 91 = some (.aload_n 0, 1, 0, 0, []) := rfl
theorem rw_245_92 : mm_code 244 92 = some (.iload 5, 2, 0, 0, []) := rfl
theorem rw_245_94 : mm_code 244 94 = some (.lconst 1, 1, 1, 0, []) := rfl
theorem rw_245_95 : mm_code 244 95 = some (.aload_n 0, 1, 0, 0, []) := rfl
theorem rw_245_96 : mm_code 244 96 = some (.getfield 26, 3, 11, 19, [3, 6]) := rfl
theorem rw_245_99 : mm_code 244 99 = some (.iload_n 2, 1, 0, 0, []) := rfl
theorem rw_245_100 : mm_code 244 100 = some (.iaload, 1, 0, 0, []) := rfl
theorem rw_245_101 : mm_code 244 101 = some (.iload 6, 2, 0, 0, []) := rfl
theorem rw_245_103 : mm_code 244 103 = some (.iadd, 1, 0, 0, []) := rfl
theorem rw_245_104 : mm_code 244 104 = some (.lshl, 1, 0, 0, []) := rfl
theorem rw_245_105 : mm_code 244 105 = some (.invokevirtual 349, 3, 206, 3, [109, 0]) := rfl
theorem rw_245_108 : mm_code 244 108 = some (.bastore, 1, 0, 0, []) := rfl
theorem rw_245_109 : mm_code 244 109 = some (.iinc 6 1, 3, 1, 0, []) := rfl
theorem rw_245_112 : mm_code 244 112 = some (.goto (-40), 3, 72, 0, []) := rfl
theorem rw_245_115 : mm_code 244 115 = some (.iinc 5 1, 3, 1, 0, []) := rfl
theorem rw_245_118 : mm_code 244 118 = some (.goto (-58), 3, 60, 0, []) := rfl
theorem rw_245_121 : mm_code 244 121 = some (.iconst 0, 1, 0, 0, []) := rfl
theorem rw_245_122 : mm_code 244 122 = some (.istore 5, 2, 0, 0, []) := rfl
theorem rw_245_124 : mm_code 244 124 = some (.iload 5, 2, 0, 0, []) := rfl
theorem rw_245_126 : mm_code 244 126 = some (.iload 4, 2, 0, 0, []) := rfl
theorem rw_245_128 : mm_code 244 128 = some (.if_icmp .gt 101, 3, 229, 0, []) := rfl
theorem rw_245_131 : mm_code 244 131 = some (.iconst 0, 1, 0, 0, []) := rfl
theorem rw_245_132 : mm_code 244 132 = some (.istore 6, 2, 0, 0, []) := rfl
theorem rw_245_134 : mm_code 244 134 = some (.iload 6, 2, 0, 0, []) := rfl
theorem rw_245_136 : mm_code 244 136 = some (.iload 5, 2, 0, 0, []) := rfl
theorem rw_245_138 : mm_code 244 138 = some (.if_icmp .ge 18, 3, 156, 0, []) := rfl
theorem rw_245_141 : mm_code 244 141 = some (.aload_n 0, 1, 0, 0, []) := rfl
theorem rw_245_142 : mm_code 244 142 = some (.getfield 151, 3, 11, 76, [3, 47]) := rfl
theorem rw_245_145 : mm_code 244 145 = some (.iload 6, 2, 0, 0, []) := rfl
theorem rw_245_147 : mm_code 244 147 = some (.iload 6, 2, 0, 0, []) := rfl
theorem rw_245_149 : mm_code 244 149 = some (.iastore, 1, 0, 0, []) := rfl
theorem rw_245_150 : mm_code 244 150 = some (.iinc 6 1, 3, 1, 0, []) := rfl
theorem rw_245_153 : mm_code 244 153 = some (.goto (-19), 3, 134, 0, []) := rfl
theorem rw_245_156 : mm_code 244 156 = some (.iconst 1, 1, 1, 0, []) := rfl
theorem rw_245_157 : mm_code 244 157 = some (.istore 6, 2, 0, 0, []) := rfl
theorem rw_245_159 : mm_code 244 159 = some (.iload 6, 2, 0, 0, []) := rfl
theorem rw_245_161 : mm_code 244 161 = some (.ifCond .eq 62, 3, 223, 0, []) := rfl
theorem rw_245_164 : mm_code 244 164 = some (.aload_n 0, 1, 0, 0, []) := rfl
theorem rw_245_165 : mm_code 244 165 = some (.iload_n 1, 1, 0, 0, []) := rfl
theorem rw_245_166 : mm_code 244 166 = some (.iload_n 2, 1, 0, 0, []) := rfl
theorem rw_245_167 : mm_code 244 167 = some (.iload 5, 2, 0, 0, []) := rfl
theorem rw_245_169 : mm_code 244 169 = some (.invokevirtual 470, 3, 242, 4, [148, 0]) := rfl
theorem rw_245_172 : mm_code 244 172 = some (.ifCond .eq 38, 3, 210, 0, []) := rfl
theorem rw_245_175 : mm_code 244 175 = some (.iload_n 3, 1, 0, 0, []) := rfl
theorem rw_245_176 : mm_code 244 176 = some (.ifCond .ne 8, 3, 184, 0, []) := rfl
theorem rw_245_179 : mm_code 244 179 = some (.iload 5, 2, 0, 0, []) := rfl
theorem rw_245_181 : mm_code 244 181 = some (.goto 28, 3, 209, 0, []) := rfl
theorem rw_245_184 : mm_code 244 184 = some (.iload_n 3, 1, 0, 0, []) := rfl
theorem rw_245_185 : mm_code 244 185 = some (.iload 5, 2, 0, 0, []) := rfl
theorem rw_245_187 : mm_code 244 187 = some (.if_icmp .gt 21, 3, 208, 0, []) := rfl
theorem rw_245_190 : mm_code 244 190 = some (.aload_n 0, 1, 0, 0, []) := rfl
theorem rw_245_191 : mm_code 244 191 = some (.getfield 26, 3, 11, 19, [3, 6]) := rfl
theorem rw_245_194 : mm_code 244 194 = some (.iload_n 2, 1, 0, 0, []) := rfl
theorem rw_245_195 : mm_code 244 195 = some (.iaload, 1, 0, 0, []) := rfl
theorem rw_245_196 : mm_code 244 196 = some (.aload_n 0, 1, 0, 0, []) := rfl
theorem rw_245_197 : mm_code 244 197 = some (.getfield 151, 3, 11, 76, [3, 47]) := rfl
theorem rw_245_200 : mm_code 244 200 = some (.iload_n 3, 1, 0, 0, []) := rfl
theorem rw_245_201 : mm_code 244 201 = some (.iconst 1, 1, 1, 0, []) := rfl
theorem rw_245_202 : mm_code 244 202 = some (.isub, 1, 0, 0, []) := rfl
theorem rw_245_203 : mm_code 244 203 = some (.iaload, 1, 0, 0, []) := rfl
theorem rw_245_204 : mm_code 244 204 = some (.iadd, 1, 0, 0, []) := rfl
theorem rw_245_205 : mm_code 244 205 = some (.goto 4, 3, 209, 0, []) := rfl
theorem rw_245_208 : mm_code 244 208 = some (.iconst (-1), 1, 1, 1, []) := rfl
theorem rw_245_209 : mm_code 244 209 = some (.ireturn, 1, 0, 0, []) := rfl
theorem rw_245_210 : mm_code 244 210 = some (.aload_n 0, 1, 0, 0, []) := rfl
theorem rw_245_211 : mm_code 244 211 = some (.iload 5, 2, 0, 0, []) := rfl
theorem rw_245_213 : mm_code 244 213 = some (.iload 4, 2, 0, 0, []) := rfl
theorem rw_245_215 : mm_code 244 215 = some (.invokevirtual 473, 3, 243, 3, [149, 0]) := rfl
theorem rw_245_218 : mm_code 244 218 = some (.istore 6, 2, 0, 0, []) := rfl
theorem rw_245_220 : mm_code 244 220 = some (.goto (-61), 3, 159, 0, []) := rfl
theorem rw_245_223 : mm_code 244 223 = some (.iinc 5 1, 3, 1, 0, []) := rfl
theorem rw_245_226 : mm_code 244 226 = some (.goto (-102), 3, 124, 0, []) := rfl
theorem rw_245_229 : mm_code 244 229 = some (.bipush (-2), 2, 2, 1, []) := rfl
theorem rw_245_231 : mm_code 244 231 = some (.ireturn, 1, 0, 0, []) := rfl
theorem rw_246_0 : mm_code 245 0 = some (.aload_n 0, 1, 0, 0, []) := rfl
theorem rw_246_1 : mm_code 245 1 = some (.iconst 0, 1, 0, 0, []) := rfl
theorem rw_246_2 : mm_code 245 2 = some (.putfield 163, 3, 11, 2, [0, 51]) := rfl
theorem rw_246_5 : mm_code 245 5 = some (.iload_n 1, 1, 0, 0, []) := rfl
theorem rw_246_6 : mm_code 245 6 = some (.tableswitch 86 0 7 #[46, 51, 56, 61, 66, 71, 76, 81], 46, 92, 0, [52, 57, 62, 67, 72, 77, 82, 87]) := rfl
theorem rw_246_52 : mm_code 245 52 = some (.aload_n 0, 1, 0, 0, []) := rfl
theorem rw_246_53 : mm_code 245 53 = some (.getfield 230, 3, 11, 11, [0, 72]) := rfl
theorem rw_246_56 : mm_code 245 56 = some (.ireturn, 1, 0, 0, []) := rfl
theorem rw_246_57 : mm_code 245 57 = some (.aload_n 0, 1, 0, 0, []) := rfl
theorem rw_246_58 : mm_code 245 58 = some (.getfield 233, 3, 11, 12, [0, 73]) := rfl
theorem rw_246_61 : mm_code 245 61 = some (.ireturn, 1, 0, 0, []) := rfl
theorem rw_246_62 : mm_code 245 62 = some (.aload_n 0, 1, 0, 0, []) := rfl
theorem rw_246_63 : mm_code 245 63 = some (.getfield 236, 3, 11, 13, [0, 74]) := rfl
theorem rw_246_66 : mm_code 245 66 = some (.ireturn, 1, 0, 0, []) := rfl
theorem rw_246_67 : mm_code 245 67 = some (.aload_n 0, 1, 0, 0, []) := rfl
theorem rw_246_68 : mm_code 245 68 = some (.getfield 239, 3, 11, 28, [0, 75]) := rfl
theorem rw_246_71 : mm_code 245 71 = some (.ireturn, 1, 0, 0, []) := rfl
theorem rw_246_72 : mm_code 245 72 = some (.aload_n 0, 1, 0, 0, []) := rfl
theorem rw_246_73 : mm_code 245 73 = some (.getfield 242, 3, 11, 29, [0, 76]) := rfl
theorem rw_246_76 : mm_code 245 76 = some (.ireturn, 1, 0, 0, []) := rfl
theorem rw_246_77 : mm_code 245 77 = some (.aload_n 0, 1, 0, 0, []) := rfl
theorem rw_246_78 : mm_code 245 78 = some (.getfield 245, 3, 11, 58, [0, 77]) := rfl
theorem rw_246_81 : mm_code 245 81 = some (.ireturn, 1, 0, 0, []) := rfl
theorem rw_246_82 : mm_code 245 82 = some (.aload_n 0, 1, 0, 0, []) := rfl
theorem rw_246_83 : mm_code 245 83 = some (.getfield 380, 3, 11, 42, [0, 119]) := rfl
theorem rw_246_86 : mm_code 245 86 = some (.ireturn, 1, 0, 0, []) := rfl
theorem rw_246_87 : mm_code 245 87 = some (.aload_n 0, 1, 0, 0, []) := rfl
theorem rw_246_88 : mm_code 245 88 = some (.getfield 383, 3, 11, 43, [0, 120]) := rfl
theorem rw_246_91 : mm_code 245 91 = some (.ireturn, 1, 0, 0, []) := rfl
theorem rw_246_92 : mm_code 245 92 = some (.iconst (-1), 1, 1, 1, []) := rfl
theorem rw_246_93 : mm_code 245 93 = some (.ireturn, 1, 0, 0, []) := rfl
theorem rw_247_0 : mm_code 246 0 = some (.iload_n 0, 1, 0, 0, []) := rfl
theorem rw_247_1 : mm_code 246 1 = some (.iload_n 0, 1, 0, 0, []) := rfl
theorem rw_247_2 : mm_code 246 2 = some (.iconst 1, 1, 1, 0, []) := rfl
theorem rw_247_3 : mm_code 246 3 = some (.iushr, 1, 0, 0, []) := rfl
theorem rw_247_4 : mm_code 246 4 = some (.ldc_w 265, 3, 1431655765, 0, [0]) := rfl
theorem rw_247_7 : mm_code 246 7 = some (.iand, 1, 0, 0, []) := rfl
theorem rw_247_8 : mm_code 246 8 = some (.isub, 1, 0, 0, []) := rfl
theorem rw_247_9 : mm_code 246 9 = some (.istore_n 0, 1, 0, 0, []) := rfl
theorem rw_247_10 : mm_code 246 10 = some (.iload_n 0, 1, 0, 0, []) := rfl
theorem rw_247_11 : mm_code 246 11 = some (.ldc_w 266, 3, 858993459, 0, [1]) := rfl
theorem rw_247_14 : mm_code 246 14 = some (.iand, 1, 0, 0, []) := rfl
theorem rw_247_15 : mm_code 246 15 = some (.iload_n 0, 1, 0, 0, []) := rfl
theorem rw_247_16 : mm_code 246 16 = some (.iconst 2, 1, 2, 0, []) := rfl
theorem rw_247_17 : mm_code 246 17 = some (.iushr, 1, 0, 0, []) := rfl
theorem rw_247_18 : mm_code 246 18 = some (.ldc_w 266, 3, 858993459, 0, [1]) := rfl
theorem rw_247_21 : mm_code 246 21 = some (.iand, 1, 0, 0, []) := rfl
theorem rw_247_22 : mm_code 246 22 = some (.iadd, 1, 0, 0, []) := rfl
theorem rw_247_23 : mm_code 246 23 = some (.istore_n 0, 1, 0, 0, []) := rfl
theorem rw_247_24 : mm_code 246 24 = some (.iload_n 0, 1, 0, 0, []) := rfl
theorem rw_247_25 : mm_code 246 25 = some (.iload_n 0, 1, 0, 0, []) := rfl
theorem rw_247_26 : mm_code 246 26 = some (.iconst 4, 1, 4, 0, []) := rfl
theorem rw_247_27 : mm_code 246 27 = some (.iushr, 1, 0, 0, []) := rfl
theorem rw_247_28 : mm_code 246 28 = some (.iadd, 1, 0, 0, []) := rfl
theorem rw_247_29 : mm_code 246 29 = some (.ldc_w 267, 3, 252645135, 0, [2]) := rfl
theorem rw_247_32 : mm_code 246 32 = some (.iand, 1, 0, 0, []) := rfl
theorem rw_247_33 : mm_code 246 33 = some (.istore_n 0, 1, 0, 0, []) := rfl
theorem rw_247_34 : mm_code 246 34 = some (.iload_n 0, 1, 0, 0, []) := rfl
theorem rw_247_35 : mm_code 246 35 = some (.iload_n 0, 1, 0, 0, []) := rfl
theorem rw_247_36 : mm_code 246 36 = some (.bipush 8, 2, 8, 0, []) := rfl
theorem rw_247_38 : mm_code 246 38 = some (.iushr, 1, 0, 0, []) := rfl
theorem rw_247_39 : mm_code 246 39 = some (.iadd, 1, 0, 0, []) := rfl
theorem rw_247_40 : mm_code 246 40 = some (.istore_n 0, 1, 0, 0, []) := rfl
theorem rw_247_41 : mm_code 246 41 = some (.iload_n 0, 1, 0, 0, []) := rfl
theorem rw_247_42 : mm_code 246 42 = some (.iload_n 0, 1, 0, 0, []) := rfl
theorem rw_247_43 : mm_code 246 43 = some (.bipush 16, 2, 16, 0, []) := rfl
theorem rw_247_45 : mm_code 246 45 = some (.iushr, 1, 0, 0, []) := rfl
theorem rw_247_46 : mm_code 246 46 = some (.iadd, 1, 0, 0, []) := rfl
theorem rw_247_47 : mm_code 246 47 = some (.istore_n 0, 1, 0, 0, []) := rfl
theorem rw_247_48 : mm_code 246 48 = some (.iload_n 0, 1, 0, 0, []) := rfl
theorem rw_247_49 : mm_code 246 49 = some (.bipush 63, 2, 63, 0, []) := rfl
theorem rw_247_51 : mm_code 246 51 = some (.iand, 1, 0, 0, []) := rfl
theorem rw_247_52 : mm_code 246 52 = some (.ireturn, 1, 0, 0, []) := rfl
theorem rw_248_0 : mm_code 247 0 = some (.lload_n 0, 1, 0, 0, []) := rfl
theorem rw_248_1 : mm_code 247 1 = some (.lload_n 0, 1, 0, 0, []) := rfl
theorem rw_248_2 : mm_code 247 2 = some (.iconst 1, 1, 1, 0, []) := rfl
theorem rw_248_3 : mm_code 247 3 = some (.lushr, 1, 0, 0, []) := rfl
theorem rw_248_4 : mm_code 247 4 = some (.ldc2_w 314, 3, 6148914691236517205, 0, [0]) := rfl
theorem rw_248_7 : mm_code 247 7 = some (.land, 1, 0, 0, []) := rfl
theorem rw_248_8 : mm_code 247 8 = some (.lsub, 1, 0, 0, []) := rfl
theorem rw_248_9 : mm_code 247 9 = some (.lstore_n 0, 1, 0, 0, []) := rfl
theorem rw_248_10 : mm_code 247 10 = some (.lload_n 0, 1, 0, 0, []) := rfl
theorem rw_248_11 : mm_code 247 11 = some (.ldc2_w 316, 3, 3689348814741910323, 0, [1]) := rfl
theorem rw_248_14 : mm_code 247 14 = some (.land, 1, 0, 0, []) := rfl
theorem rw_248_15 : mm_code 247 15 = some (.lload_n 0, 1, 0, 0, []) := rfl
theorem rw_248_16 : mm_code 247 16 = some (.iconst 2, 1, 2, 0, []) := rfl
theorem rw_248_17 : mm_code 247 17 = some (.lushr, 1, 0, 0, []) := rfl
theorem rw_248_18 : mm_code 247 18 = some (.ldc2_w 316, 3, 3689348814741910323, 0, [1]) := rfl
theorem rw_248_21 : mm_code 247 21 = some (.land, 1, 0, 0, []) := rfl
theorem rw_248_22 : mm_code 247 22 = some (.ladd, 1, 0, 0, []) := rfl
theorem rw_248_23 : mm_code 247 23 = some (.lstore_n 0, 1, 0, 0, []) := rfl
theorem rw_248_24 : mm_code 247 24 = some (.lload_n 0, 1, 0, 0, []) := rfl
theorem rw_248_25 : mm_code 247 25 = some (.lload_n 0, 1, 0, 0, []) := rfl
theorem rw_248_26 : mm_code 247 26 = some (.iconst 4, 1, 4, 0, []) := rfl
theorem rw_248_27 : mm_code 247 27 = some (.lushr, 1, 0, 0, []) := rfl
theorem rw_248_28 : mm_code 247 28 = some (.ladd, 1, 0, 0, []) := rfl
theorem rw_248_29 : mm_code 247 29 = some (.ldc2_w 318, 3, 1085102592571150095, 0, [2]) := rfl
theorem rw_248_32 : mm_code 247 32 = some (.land, 1, 0, 0, []) := rfl
theorem rw_248_33 : mm_code 247 33 = some (.lstore_n 0, 1, 0, 0, []) := rfl
theorem rw_248_34 : mm_code 247 34 = some (.lload_n 0, 1, 0, 0, []) := rfl
theorem rw_248_35 : mm_code 247 35 = some (.lload_n 0, 1, 0, 0, []) := rfl
theorem rw_248_36 : mm_code 247 36 = some (.bipush 8, 2, 8, 0, []) := rfl
theorem rw_248_38 : mm_code 247 38 = some (.lushr, 1, 0, 0, []) := rfl
theorem rw_248_39 : mm_code 247 39 = some (.ladd, 1, 0, 0, []) := rfl
theorem rw_248_40 : mm_code 247 40 = some (.lstore_n 0, 1, 0, 0, []) := rfl
theorem rw_248_41 : mm_code 247 41 = some (.lload_n 0, 1, 0, 0, []) := rfl
theorem rw_248_42 : mm_code 247 42 = some (.lload_n 0, 1, 0, 0, []) := rfl
theorem rw_248_43 : mm_code 247 43 = some (.bipush 16, 2, 16, 0, []) := rfl
theorem rw_248_45 : mm_code 247 45 = some (.lushr, 1, 0, 0, []) := rfl
theorem rw_248_46 : mm_code 247 46 = some (.ladd, 1, 0, 0, []) := rfl
theorem rw_248_47 : mm_code 247 47 = some (.lstore_n 0, 1, 0, 0, []) := rfl
theorem rw_248_48 : mm_code 247 48 = some (.lload_n 0, 1, 0, 0, []) := rfl
theorem rw_248_49 : mm_code 247 49 = some (.lload_n 0, 1, 0, 0, []) := rfl
theorem rw_248_50 : mm_code 247 50 = some (.bipush 32, 2, 32, 0, []) := rfl
theorem rw_248_52 : mm_code 247 52 = some (.lushr, 1, 0, 0, []) := rfl
theorem rw_248_53 : mm_code 247 53 = some (.ladd, 1, 0, 0, []) := rfl
theorem rw_248_54 : mm_code 247 54 = some (.lstore_n 0, 1, 0, 0, []) := rfl
theorem rw_248_55 : mm_code 247 55 = some (.lload_n 0, 1, 0, 0, []) := rfl
theorem rw_248_56 : mm_code 247 56 = some (.l2i, 1, 0, 0, []) := rfl
theorem rw_248_57 : mm_code 247 57 = some (.bipush 127, 2, 127, 0, []) := rfl
theorem rw_248_59 : mm_code 247 59 = some (.iand, 1, 0, 0, []) := rfl
theorem rw_248_60 : mm_code 247 60 = some (.ireturn, 1, 0, 0, []) := rfl
theorem rw_249_0 : mm_code 248 0 = some (.aload_n 0, 1, 0, 0, []) := rfl
theorem rw_249_1 : mm_code 248 1 = some (.getfield 68, 3, 10, 8, [3, 18]) := rfl
theorem rw_249_4 : mm_code 248 4 = some (.iload_n 1, 1, 0, 0, []) := rfl
theorem rw_249_5 : mm_code 248 5 = some (.invokevirtual 150, 3, 43, 2, [55, 0]) := rfl
theorem rw_249_8 : mm_code 248 8 = some (.ifCond .ne 13, 3, 21, 0, []) := rfl
theorem rw_249_21 : mm_code 248 21 = some (.iload_n 2, 1, 0, 0, []) := rfl
theorem rw_249_22 : mm_code 248 22 = some (.tableswitch 70 0 3 #[30, 40, 50, 60], 30, 92, 0, [52, 62, 72, 82]) := rfl
theorem rw_249_52 : mm_code 248 52 = some (.aload_n 0, 1, 0, 0, []) := rfl
theorem rw_249_53 : mm_code 248 53 = some (.getfield 68, 3, 10, 8, [3, 18]) := rfl
theorem rw_249_56 : mm_code 248 56 = some (.getfield 160, 3, 5, 6, [3, 92]) := rfl
theorem rw_249_59 : mm_code 248 59 = some (.iload_n 1, 1, 0, 0, []) := rfl
theorem rw_249_60 : mm_code 248 60 = some (.iaload, 1, 0, 0, []) := rfl
theorem rw_249_61 : mm_code 248 61 = some (.ireturn, 1, 0, 0, []) := rfl
theorem rw_249_62 : mm_code 248 62 = some (.aload_n 0, 1, 0, 0, []) := rfl
theorem rw_249_63 : mm_code 248 63 = some (.getfield 68, 3, 10, 8, [3, 18]) := rfl
theorem rw_249_66 : mm_code 248 66 = some (.getfield 164, 3, 5, 7, [3, 85]) := rfl
theorem rw_249_69 : mm_code 248 69 = some (.iload_n 1, 1, 0, 0, []) := rfl
theorem rw_249_70 : mm_code 248 70 = some (.iaload, 1, 0, 0, []) := rfl
theorem rw_249_71 : mm_code 248 71 = some (.ireturn, 1, 0, 0, []) := rfl
theorem rw_249_72 : mm_code 248 72 = some (.aload_n 0, 1, 0, 0, []) := rfl
theorem rw_249_73 : mm_code 248 73 = some (.getfield 68, 3, 10, 8, [3, 18]) := rfl
theorem rw_249_76 : mm_code 248 76 = some (.getfield 167, 3, 5, 8, [3, 93]) := rfl
theorem rw_249_79 : mm_code 248 79 = some (.iload_n 1, 1, 0, 0, []) := rfl
theorem rw_249_80 : mm_code 248 80 = some (.iaload, 1, 0, 0, []) := rfl
theorem rw_249_81 : mm_code 248 81 = some (.ireturn, 1, 0, 0, []) := rfl
theorem rw_249_82 : mm_code 248 82 = some (.aload_n 0, 1, 0, 0, []) := rfl
theorem rw_249_83 : mm_code 248 83 = some (.getfield 68, 3, 10, 8, [3, 18]) := rfl
theorem rw_249_86 : mm_code 248 86 = some (.getfield 170, 3, 5, 9, [3, 68]) := rfl
theorem rw_249_89 : mm_code 248 89 = some (.iload_n 1, 1, 0, 0, []) := rfl
theorem rw_249_90 : mm_code 248 90 = some (.iaload, 1, 0, 0, []) := rfl
theorem rw_249_91 : mm_code 248 91 = some (.ireturn, 1, 0, 0, []) := rfl
