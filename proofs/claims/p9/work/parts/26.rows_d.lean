section
theorem rw_214_61 : mm_code 213 61 = some (.aload_n 0, 1, 0, 0, []) := rfl
theorem rw_214_62 : mm_code 213 62 = some (.iconst 3, 1, 3, 0, []) := rfl
theorem rw_214_63 : mm_code 213 63 = some (.invokevirtual 208, 3, 151, 2, [65, 0]) := rfl
theorem rw_214_66 : mm_code 213 66 = some (.ireturn, 1, 1, 0, []) := rfl
theorem rw_214_67 : mm_code 213 67 = some (.aload_n 0, 1, 0, 0, []) := rfl
theorem rw_214_68 : mm_code 213 68 = some (.invokevirtual 211, 3, 155, 1, [66, 0]) := rfl
theorem rw_214_71 : mm_code 213 71 = some (.aload_n 0, 1, 0, 0, []) := rfl
theorem rw_214_72 : mm_code 213 72 = some (.bipush 59, 2, 59, 0, []) := rfl
theorem rw_214_74 : mm_code 213 74 = some (.invokevirtual 280, 3, 159, 2, [87, 0]) := rfl
theorem rw_214_77 : mm_code 213 77 = some (.ireturn, 1, 1, 0, []) := rfl
theorem rw_215_0 : mm_code 214 0 = some (.aload_n 0, 1, 0, 0, []) := rfl
theorem rw_215_1 : mm_code 214 1 = some (.bipush 41, 2, 41, 0, []) := rfl
theorem rw_215_3 : mm_code 214 3 = some (.invokevirtual 205, 3, 158, 2, [64, 0]) := rfl
theorem rw_215_6 : mm_code 214 6 = some (.ifCond .eq 44, 3, 50, 0, []) := rfl
theorem rw_215_9 : mm_code 214 9 = some (.aload_n 0, 1, 0, 0, []) := rfl
theorem rw_215_10 : mm_code 214 10 = some (.getfield 364, 3, 11, 52, [0, 114]) := rfl
theorem rw_215_13 : mm_code 214 13 = some (.ifCond .le 37, 3, 50, 0, []) := rfl
theorem rw_215_16 : mm_code 214 16 = some (.aload_n 0, 1, 0, 0, []) := rfl
theorem rw_215_17 : mm_code 214 17 = some (.dup, 1, 0, 0, []) := rfl
theorem rw_215_18 : mm_code 214 18 = some (.getfield 364, 3, 11, 52, [0, 114]) := rfl
theorem rw_215_21 : mm_code 214 21 = some (.iconst 1, 1, 1, 0, []) := rfl
theorem rw_215_22 : mm_code 214 22 = some (.isub, 1, 0, 0, []) := rfl
theorem rw_215_23 : mm_code 214 23 = some (.putfield 364, 3, 11, 52, [0, 114]) := rfl
theorem rw_215_26 : mm_code 214 26 = some (.aload_n 0, 1, 0, 0, []) := rfl
theorem rw_215_27 : mm_code 214 27 = some (.getfield 97, 3, 11, 49, [3, 29]) := rfl
theorem rw_215_30 : mm_code 214 30 = some (.aload_n 0, 1, 0, 0, []) := rfl
theorem rw_215_31 : mm_code 214 31 = some (.getfield 106, 3, 11, 53, [3, 32]) := rfl
theorem rw_215_34 : mm_code 214 34 = some (.aload_n 0, 1, 0, 0, []) := rfl
theorem rw_215_35 : mm_code 214 35 = some (.getfield 364, 3, 11, 52, [0, 114]) := rfl
theorem rw_215_38 : mm_code 214 38 = some (.iaload, 1, 0, 0, []) := rfl
theorem rw_215_39 : mm_code 214 39 = some (.aload_n 0, 1, 0, 0, []) := rfl
theorem rw_215_40 : mm_code 214 40 = some (.getfield 367, 3, 11, 44, [0, 115]) := rfl
theorem rw_215_43 : mm_code 214 43 = some (.iastore, 1, 0, 0, []) := rfl
theorem rw_215_44 : mm_code 214 44 = some (.aload_n 0, 1, 0, 0, []) := rfl
theorem rw_215_45 : mm_code 214 45 = some (.invokevirtual 211, 3, 155, 1, [66, 0]) := rfl
theorem rw_215_48 : mm_code 214 48 = some (.iconst 1, 1, 1, 0, []) := rfl
theorem rw_215_49 : mm_code 214 49 = some (.ireturn, 1, 1, 0, []) := rfl
theorem rw_215_50 : mm_code 214 50 = some (.aload_n 0, 1, 0, 0, []) := rfl
theorem rw_215_51 : mm_code 214 51 = some (.getfield 185, 3, 11, 8, [0, 58]) := rfl
theorem rw_215_54 : mm_code 214 54 = some (.iconst 1, 1, 1, 0, []) := rfl
theorem rw_215_55 : mm_code 214 55 = some (.if_icmp .ne 30, 3, 85, 0, []) := rfl
theorem rw_215_58 : mm_code 214 58 = some (.aload_n 0, 1, 0, 0, []) := rfl
theorem rw_215_59 : mm_code 214 59 = some (.getfield 196, 3, 11, 9, [0, 61]) := rfl
theorem rw_215_62 : mm_code 214 62 = some (.bipush 7, 2, 7, 0, []) := rfl
theorem rw_215_64 : mm_code 214 64 = some (.if_icmp .eq 27, 3, 91, 0, []) := rfl
theorem rw_215_67 : mm_code 214 67 = some (.aload_n 0, 1, 0, 0, []) := rfl
theorem rw_215_68 : mm_code 214 68 = some (.getfield 196, 3, 11, 9, [0, 61]) := rfl
theorem rw_215_71 : mm_code 214 71 = some (.bipush 10, 2, 10, 0, []) := rfl
theorem rw_215_73 : mm_code 214 73 = some (.if_icmp .eq 18, 3, 91, 0, []) := rfl
theorem rw_215_76 : mm_code 214 76 = some (.aload_n 0, 1, 0, 0, []) := rfl
theorem rw_215_77 : mm_code 214 77 = some (.getfield 196, 3, 11, 9, [0, 61]) := rfl
theorem rw_215_80 : mm_code 214 80 = some (.bipush 11, 2, 11, 0, []) := rfl
theorem rw_215_82 : mm_code 214 82 = some (.if_icmp .eq 9, 3, 91, 0, []) := rfl
theorem rw_215_85 : mm_code 214 85 = some (.aload_n 0, 1, 0, 0, []) := rfl
theorem rw_215_86 : mm_code 214 86 = some (.iconst 1, 1, 1, 0, []) := rfl
theorem rw_215_87 : mm_code 214 87 = some (.invokevirtual 208, 3, 151, 2, [65, 0]) := rfl
theorem rw_215_90 : mm_code 214 90 = some (.ireturn, 1, 1, 0, []) := rfl
theorem rw_215_91 : mm_code 214 91 = some (.aload_n 0, 1, 0, 0, []) := rfl
theorem rw_215_92 : mm_code 214 92 = some (.getfield 367, 3, 11, 44, [0, 115]) := rfl
theorem rw_215_95 : mm_code 214 95 = some (.bipush 40, 2, 40, 0, []) := rfl
theorem rw_215_97 : mm_code 214 97 = some (.if_icmp .ne 9, 3, 106, 0, []) := rfl
theorem rw_215_100 : mm_code 214 100 = some (.aload_n 0, 1, 0, 0, []) := rfl
theorem rw_215_101 : mm_code 214 101 = some (.iconst 2, 1, 2, 0, []) := rfl
theorem rw_215_102 : mm_code 214 102 = some (.invokevirtual 208, 3, 151, 2, [65, 0]) := rfl
theorem rw_215_105 : mm_code 214 105 = some (.ireturn, 1, 1, 0, []) := rfl
theorem rw_215_106 : mm_code 214 106 = some (.aload_n 0, 1, 0, 0, []) := rfl
theorem rw_215_107 : mm_code 214 107 = some (.getfield 367, 3, 11, 44, [0, 115]) := rfl
theorem rw_215_110 : mm_code 214 110 = some (.istore_n 1, 1, 0, 0, []) := rfl
theorem rw_215_111 : mm_code 214 111 = some (.aload_n 0, 1, 0, 0, []) := rfl
theorem rw_215_112 : mm_code 214 112 = some (.getfield 85, 3, 11, 45, [3, 25]) := rfl
theorem rw_215_115 : mm_code 214 115 = some (.iload_n 1, 1, 0, 0, []) := rfl
theorem rw_215_116 : mm_code 214 116 = some (.aload_n 0, 1, 0, 0, []) := rfl
theorem rw_215_117 : mm_code 214 117 = some (.getfield 196, 3, 11, 9, [0, 61]) := rfl
theorem rw_215_120 : mm_code 214 120 = some (.bipush 7, 2, 7, 0, []) := rfl
theorem rw_215_122 : mm_code 214 122 = some (.if_icmp .ne 7, 3, 129, 0, []) := rfl
theorem rw_215_125 : mm_code 214 125 = some (.iconst 0, 1, 0, 0, []) := rfl
theorem rw_215_126 : mm_code 214 126 = some (.goto 17, 3, 143, 0, []) := rfl
theorem rw_215_129 : mm_code 214 129 = some (.aload_n 0, 1, 0, 0, []) := rfl
theorem rw_215_130 : mm_code 214 130 = some (.getfield 196, 3, 11, 9, [0, 61]) := rfl
theorem rw_215_133 : mm_code 214 133 = some (.bipush 10, 2, 10, 0, []) := rfl
theorem rw_215_135 : mm_code 214 135 = some (.if_icmp .ne 7, 3, 142, 0, []) := rfl
theorem rw_215_138 : mm_code 214 138 = some (.iconst 1, 1, 1, 0, []) := rfl
theorem rw_215_139 : mm_code 214 139 = some (.goto 4, 3, 143, 0, []) := rfl
theorem rw_215_142 : mm_code 214 142 = some (.iconst 2, 1, 2, 0, []) := rfl
theorem rw_215_143 : mm_code 214 143 = some (.iastore, 1, 0, 0, []) := rfl
theorem rw_215_144 : mm_code 214 144 = some (.aload_n 0, 1, 0, 0, []) := rfl
theorem rw_215_145 : mm_code 214 145 = some (.dup, 1, 0, 0, []) := rfl
theorem rw_215_146 : mm_code 214 146 = some (.getfield 367, 3, 11, 44, [0, 115]) := rfl
theorem rw_215_149 : mm_code 214 149 = some (.iconst 1, 1, 1, 0, []) := rfl
theorem rw_215_150 : mm_code 214 150 = some (.iadd, 1, 0, 0, []) := rfl
theorem rw_215_151 : mm_code 214 151 = some (.putfield 367, 3, 11, 44, [0, 115]) := rfl
theorem rw_215_154 : mm_code 214 154 = some (.aload_n 0, 1, 0, 0, []) := rfl
theorem rw_215_155 : mm_code 214 155 = some (.invokevirtual 211, 3, 155, 1, [66, 0]) := rfl
theorem rw_215_158 : mm_code 214 158 = some (.aload_n 0, 1, 0, 0, []) := rfl
theorem rw_215_159 : mm_code 214 159 = some (.getfield 85, 3, 11, 45, [3, 25]) := rfl
theorem rw_215_162 : mm_code 214 162 = some (.iload_n 1, 1, 0, 0, []) := rfl
theorem rw_215_163 : mm_code 214 163 = some (.iaload, 1, 0, 0, []) := rfl
theorem rw_215_164 : mm_code 214 164 = some (.ifCond .ne 9, 3, 173, 0, []) := rfl
theorem rw_215_167 : mm_code 214 167 = some (.aload_n 0, 1, 0, 0, []) := rfl
theorem rw_215_168 : mm_code 214 168 = some (.iload_n 1, 1, 0, 0, []) := rfl
theorem rw_215_169 : mm_code 214 169 = some (.invokevirtual 370, 3, 212, 2, [116, 0]) := rfl
theorem rw_215_172 : mm_code 214 172 = some (.ireturn, 1, 1, 0, []) := rfl
theorem rw_215_173 : mm_code 214 173 = some (.aload_n 0, 1, 0, 0, []) := rfl
theorem rw_215_174 : mm_code 214 174 = some (.getfield 85, 3, 11, 45, [3, 25]) := rfl
theorem rw_215_177 : mm_code 214 177 = some (.iload_n 1, 1, 0, 0, []) := rfl
theorem rw_215_178 : mm_code 214 178 = some (.iaload, 1, 0, 0, []) := rfl
theorem rw_215_179 : mm_code 214 179 = some (.iconst 1, 1, 1, 0, []) := rfl
theorem rw_215_180 : mm_code 214 180 = some (.if_icmp .ne 9, 3, 189, 0, []) := rfl
theorem rw_215_183 : mm_code 214 183 = some (.aload_n 0, 1, 0, 0, []) := rfl
theorem rw_215_184 : mm_code 214 184 = some (.iload_n 1, 1, 0, 0, []) := rfl
theorem rw_215_185 : mm_code 214 185 = some (.invokevirtual 373, 3, 213, 2, [117, 0]) := rfl
theorem rw_215_188 : mm_code 214 188 = some (.ireturn, 1, 1, 0, []) := rfl
theorem rw_215_189 : mm_code 214 189 = some (.aload_n 0, 1, 0, 0, []) := rfl
theorem rw_215_190 : mm_code 214 190 = some (.iconst 0, 1, 0, 0, []) := rfl
theorem rw_215_191 : mm_code 214 191 = some (.bipush 99, 2, 99, 0, []) := rfl
theorem rw_215_193 : mm_code 214 193 = some (.invokevirtual 266, 3, 161, 3, [83, 0]) := rfl
theorem rw_215_196 : mm_code 214 196 = some (.ifCond .ne 5, 3, 201, 0, []) := rfl
theorem rw_215_199 : mm_code 214 199 = some (.iconst 0, 1, 0, 0, []) := rfl
theorem rw_215_200 : mm_code 214 200 = some (.ireturn, 1, 1, 0, []) := rfl
theorem rw_215_201 : mm_code 214 201 = some (.aload_n 0, 1, 0, 0, []) := rfl
theorem rw_215_202 : mm_code 214 202 = some (.getfield 88, 3, 11, 46, [3, 26]) := rfl
theorem rw_215_205 : mm_code 214 205 = some (.iload_n 1, 1, 0, 0, []) := rfl
theorem rw_215_206 : mm_code 214 206 = some (.aload_n 0, 1, 0, 0, []) := rfl
theorem rw_215_207 : mm_code 214 207 = some (.getfield 196, 3, 11, 9, [0, 61]) := rfl
theorem rw_215_210 : mm_code 214 210 = some (.iastore, 1, 0, 0, []) := rfl
theorem rw_215_211 : mm_code 214 211 = some (.aload_n 0, 1, 0, 0, []) := rfl
theorem rw_215_212 : mm_code 214 212 = some (.invokevirtual 211, 3, 155, 1, [66, 0]) := rfl
theorem rw_215_215 : mm_code 214 215 = some (.aload_n 0, 1, 0, 0, []) := rfl
theorem rw_215_216 : mm_code 214 216 = some (.bipush 40, 2, 40, 0, []) := rfl
theorem rw_215_218 : mm_code 214 218 = some (.invokevirtual 205, 3, 158, 2, [64, 0]) := rfl
theorem rw_215_221 : mm_code 214 221 = some (.ifCond .ne 9, 3, 230, 0, []) := rfl
theorem rw_215_224 : mm_code 214 224 = some (.aload_n 0, 1, 0, 0, []) := rfl
theorem rw_215_225 : mm_code 214 225 = some (.iconst 1, 1, 1, 0, []) := rfl
theorem rw_215_226 : mm_code 214 226 = some (.invokevirtual 208, 3, 151, 2, [65, 0]) := rfl
theorem rw_215_229 : mm_code 214 229 = some (.ireturn, 1, 1, 0, []) := rfl
theorem rw_215_230 : mm_code 214 230 = some (.aload_n 0, 1, 0, 0, []) := rfl
theorem rw_215_231 : mm_code 214 231 = some (.getfield 364, 3, 11, 52, [0, 114]) := rfl
theorem rw_215_234 : mm_code 214 234 = some (.iconst 5, 1, 5, 0, []) := rfl
theorem rw_215_235 : mm_code 214 235 = some (.if_icmp .ne 9, 3, 244, 0, []) := rfl
theorem rw_215_238 : mm_code 214 238 = some (.aload_n 0, 1, 0, 0, []) := rfl
theorem rw_215_239 : mm_code 214 239 = some (.iconst 2, 1, 2, 0, []) := rfl
theorem rw_215_240 : mm_code 214 240 = some (.invokevirtual 208, 3, 151, 2, [65, 0]) := rfl
theorem rw_215_243 : mm_code 214 243 = some (.ireturn, 1, 1, 0, []) := rfl
theorem rw_215_244 : mm_code 214 244 = some (.aload_n 0, 1, 0, 0, []) := rfl
theorem rw_215_245 : mm_code 214 245 = some (.getfield 106, 3, 11, 53, [3, 32]) := rfl
theorem rw_215_248 : mm_code 214 248 = some (.aload_n 0, 1, 0, 0, []) := rfl
theorem rw_215_249 : mm_code 214 249 = some (.getfield 364, 3, 11, 52, [0, 114]) := rfl
theorem rw_215_252 : mm_code 214 252 = some (.iload_n 1, 1, 0, 0, []) := rfl
theorem rw_215_253 : mm_code 214 253 = some (.iastore, 1, 0, 0, []) := rfl
theorem rw_215_254 : mm_code 214 254 = some (.aload_n 0, 1, 0, 0, []) := rfl
theorem rw_215_255 : mm_code 214 255 = some (.dup, 1, 0, 0, []) := rfl
theorem rw_215_256 : mm_code 214 256 = some (.getfield 364, 3, 11, 52, [0, 114]) := rfl
theorem rw_215_259 : mm_code 214 259 = some (.iconst 1, 1, 1, 0, []) := rfl
theorem rw_215_260 : mm_code 214 260 = some (.iadd, 1, 0, 0, []) := rfl
theorem rw_215_261 : mm_code 214 261 = some (.putfield 364, 3, 11, 52, [0, 114]) := rfl
theorem rw_215_264 : mm_code 214 264 = some (.aload_n 0, 1, 0, 0, []) := rfl
theorem rw_215_265 : mm_code 214 265 = some (.invokevirtual 211, 3, 155, 1, [66, 0]) := rfl
theorem rw_215_268 : mm_code 214 268 = some (.iconst 1, 1, 1, 0, []) := rfl
theorem rw_215_269 : mm_code 214 269 = some (.ireturn, 1, 1, 0, []) := rfl
theorem rw_216_0 : mm_code 215 0 = some (.aload_n 0, 1, 0, 0, []) := rfl
theorem rw_216_1 : mm_code 215 1 = some (.getfield 100, 3, 11, 50, [3, 30]) := rfl
theorem rw_216_4 : mm_code 215 4 = some (.iload_n 1, 1, 0, 0, []) := rfl
theorem rw_216_5 : mm_code 215 5 = some (.laload, 1, 0, 0, []) := rfl
theorem rw_216_6 : mm_code 215 6 = some (.lstore_n 2, 1, 0, 0, []) := rfl
theorem rw_216_7 : mm_code 215 7 = some (.iconst 0, 1, 0, 0, []) := rfl
theorem rw_216_8 : mm_code 215 8 = some (.istore 4, 2, 0, 0, []) := rfl
theorem rw_216_10 : mm_code 215 10 = some (.iload 4, 2, 0, 0, []) := rfl
theorem rw_216_12 : mm_code 215 12 = some (.aload_n 0, 1, 0, 0, []) := rfl
theorem rw_216_13 : mm_code 215 13 = some (.getfield 236, 3, 11, 13, [0, 74]) := rfl
theorem rw_216_16 : mm_code 215 16 = some (.if_icmp .ge 38, 3, 54, 0, []) := rfl
theorem rw_216_19 : mm_code 215 19 = some (.lload_n 2, 1, 0, 0, []) := rfl
theorem rw_216_20 : mm_code 215 20 = some (.aload_n 0, 1, 0, 0, []) := rfl
theorem rw_216_21 : mm_code 215 21 = some (.getfield 103, 3, 11, 51, [3, 31]) := rfl
theorem rw_216_24 : mm_code 215 24 = some (.iload_n 1, 1, 0, 0, []) := rfl
theorem rw_216_25 : mm_code 215 25 = some (.iaload, 1, 0, 0, []) := rfl
theorem rw_216_26 : mm_code 215 26 = some (.iload 4, 2, 0, 0, []) := rfl
theorem rw_216_28 : mm_code 215 28 = some (.ishr, 1, 0, 0, []) := rfl
theorem rw_216_29 : mm_code 215 29 = some (.iconst 1, 1, 1, 0, []) := rfl
theorem rw_216_30 : mm_code 215 30 = some (.iand, 1, 0, 0, []) := rfl
theorem rw_216_31 : mm_code 215 31 = some (.iconst 1, 1, 1, 0, []) := rfl
theorem rw_216_32 : mm_code 215 32 = some (.if_icmp .ne 13, 3, 45, 0, []) := rfl
theorem rw_216_35 : mm_code 215 35 = some (.aload_n 0, 1, 0, 0, []) := rfl
theorem rw_216_36 : mm_code 215 36 = some (.getfield 67, 3, 11, 35, [3, 19]) := rfl
theorem rw_216_39 : mm_code 215 39 = some (.iload 4, 2, 0, 0, []) := rfl
theorem rw_216_41 : mm_code 215 41 = some (.laload, 1, 0, 0, []) := rfl
theorem rw_216_42 : mm_code 215 42 = some (.goto 4, 3, 46, 0, []) := rfl
theorem rw_216_45 : mm_code 215 45 = some (.lconst 0, 1, 0, 0, []) := rfl
theorem rw_216_46 : mm_code 215 46 = some (.lor, 1, 0, 0, []) := rfl
theorem rw_216_47 : mm_code 215 47 = some (.lstore_n 2, 1, 0, 0, []) := rfl
theorem rw_216_48 : mm_code 215 48 = some (.iinc 4 1, 3, 1, 0, []) := rfl
theorem rw_216_51 : mm_code 215 51 = some (.goto (-41), 3, 10, 0, []) := rfl
theorem rw_216_54 : mm_code 215 54 = some (.aload_n 0, 1, 0, 0, []) := rfl
theorem rw_216_55 : mm_code 215 55 = some (.getfield 88, 3, 11, 46, [3, 26]) := rfl
theorem rw_216_58 : mm_code 215 58 = some (.iload_n 1, 1, 0, 0, []) := rfl
theorem rw_216_59 : mm_code 215 59 = some (.iaload, 1, 0, 0, []) := rfl
theorem rw_216_60 : mm_code 215 60 = some (.istore 4, 2, 0, 0, []) := rfl
theorem rw_216_62 : mm_code 215 62 = some (.aload_n 0, 1, 0, 0, []) := rfl
theorem rw_216_63 : mm_code 215 63 = some (.getfield 82, 3, 11, 40, [3, 24]) := rfl
theorem rw_216_66 : mm_code 215 66 = some (.iload 4, 2, 0, 0, []) := rfl
theorem rw_216_68 : mm_code 215 68 = some (.iaload, 1, 0, 0, []) := rfl
theorem rw_216_69 : mm_code 215 69 = some (.istore 5, 2, 0, 0, []) := rfl
theorem rw_216_71 : mm_code 215 71 = some (.iconst 0, 1, 0, 0, []) := rfl
theorem rw_216_72 : mm_code 215 72 = some (.istore 6, 2, 0, 0, []) := rfl
theorem rw_216_74 : mm_code 215 74 = some (.iload 6, 2, 0, 0, []) := rfl
theorem rw_216_76 : mm_code 215 76 = some (.iload 5, 2, 0, 0, []) := rfl
theorem rw_216_78 : mm_code 215 78 = some (.if_icmp .ge 29, 3, 107, 0, []) := rfl
theorem rw_216_81 : mm_code 215 81 = some (.aload_n 0, 1, 0, 0, []) := rfl
theorem rw_216_82 : mm_code 215 82 = some (.getfield 109, 3, 11, 54, [3, 33]) := rfl
theorem rw_216_85 : mm_code 215 85 = some (.iload 6, 2, 0, 0, []) := rfl
theorem rw_216_87 : mm_code 215 87 = some (.aload_n 0, 1, 0, 0, []) := rfl
theorem rw_216_88 : mm_code 215 88 = some (.getfield 79, 3, 11, 39, [3, 23]) := rfl
theorem rw_216_91 : mm_code 215 91 = some (.bipush 30, 2, 30, 0, []) := rfl
theorem rw_216_93 : mm_code 215 93 = some (.iload 4, 2, 0, 0, []) := rfl
theorem rw_216_95 : mm_code 215 95 = some (.imul, 1, 0, 0, []) := rfl
theorem rw_216_96 : mm_code 215 96 = some (.iload 6, 2, 0, 0, []) := rfl
theorem rw_216_98 : mm_code 215 98 = some (.iadd, 1, 0, 0, []) := rfl
theorem rw_216_99 : mm_code 215 99 = some (.iaload, 1, 0, 0, []) := rfl
theorem rw_216_100 : mm_code 215 100 = some (.iastore, 1, 0, 0, []) := rfl
theorem rw_216_101 : mm_code 215 101 = some (.iinc 6 1, 3, 1, 0, []) := rfl
theorem rw_216_104 : mm_code 215 104 = some (.goto (-30), 3, 74, 0, []) := rfl
theorem rw_216_107 : mm_code 215 107 = some (.aload_n 0, 1, 0, 0, []) := rfl
theorem rw_216_108 : mm_code 215 108 = some (.getfield 82, 3, 11, 40, [3, 24]) := rfl
theorem rw_216_111 : mm_code 215 111 = some (.iload 4, 2, 0, 0, []) := rfl
theorem rw_216_113 : mm_code 215 113 = some (.iconst 0, 1, 0, 0, []) := rfl
theorem rw_216_114 : mm_code 215 114 = some (.iastore, 1, 0, 0, []) := rfl
theorem rw_216_115 : mm_code 215 115 = some (.iconst 0, 1, 0, 0, []) := rfl
theorem rw_216_116 : mm_code 215 116 = some (.istore 6, 2, 0, 0, []) := rfl
theorem rw_216_118 : mm_code 215 118 = some (.iload 6, 2, 0, 0, []) := rfl
theorem rw_216_120 : mm_code 215 120 = some (.iload 5, 2, 0, 0, []) := rfl
theorem rw_216_122 : mm_code 215 122 = some (.if_icmp .ge 50, 3, 172, 0, []) := rfl
theorem rw_216_125 : mm_code 215 125 = some (.aload_n 0, 1, 0, 0, []) := rfl
theorem rw_216_126 : mm_code 215 126 = some (.aload_n 0, 1, 0, 0, []) := rfl
theorem rw_216_127 : mm_code 215 127 = some (.aload_n 0, 1, 0, 0, []) := rfl
theorem rw_216_128 : mm_code 215 128 = some (.getfield 109, 3, 11, 54, [3, 33]) := rfl
theorem rw_216_131 : mm_code 215 131 = some (.iload 6, 2, 0, 0, []) := rfl
theorem rw_216_133 : mm_code 215 133 = some (.iaload, 1, 0, 0, []) := rfl
theorem rw_216_134 : mm_code 215 134 = some (.lload_n 2, 1, 0, 0, []) := rfl
theorem rw_216_135 : mm_code 215 135 = some (.invokevirtual 349, 3, 206, 3, [109, 0]) := rfl
theorem rw_216_138 : mm_code 215 138 = some (.ifCond .eq 12, 3, 150, 0, []) := rfl
theorem rw_216_141 : mm_code 215 141 = some (.aload_n 0, 1, 0, 0, []) := rfl
theorem rw_216_142 : mm_code 215 142 = some (.getfield 91, 3, 11, 47, [3, 27]) := rfl
theorem rw_216_145 : mm_code 215 145 = some (.iload_n 1, 1, 0, 0, []) := rfl
theorem rw_216_146 : mm_code 215 146 = some (.iaload, 1, 0, 0, []) := rfl
theorem rw_216_147 : mm_code 215 147 = some (.goto 9, 3, 156, 0, []) := rfl
theorem rw_216_150 : mm_code 215 150 = some (.aload_n 0, 1, 0, 0, []) := rfl
theorem rw_216_151 : mm_code 215 151 = some (.getfield 94, 3, 11, 48, [3, 28]) := rfl
theorem rw_216_154 : mm_code 215 154 = some (.iload_n 1, 1, 0, 0, []) := rfl
theorem rw_216_155 : mm_code 215 155 = some (.iaload, 1, 0, 0, []) := rfl
theorem rw_216_156 : mm_code 215 156 = some (.aload_n 0, 1, 0, 0, []) := rfl
theorem rw_216_157 : mm_code 215 157 = some (.getfield 109, 3, 11, 54, [3, 33]) := rfl
theorem rw_216_160 : mm_code 215 160 = some (.iload 6, 2, 0, 0, []) := rfl
theorem rw_216_162 : mm_code 215 162 = some (.iaload, 1, 0, 0, []) := rfl
theorem rw_216_163 : mm_code 215 163 = some (.invokevirtual 376, 3, 209, 3, [118, 0]) := rfl
theorem rw_216_166 : mm_code 215 166 = some (.iinc 6 1, 3, 1, 0, []) := rfl
theorem rw_216_169 : mm_code 215 169 = some (.goto (-51), 3, 118, 0, []) := rfl
theorem rw_216_172 : mm_code 215 172 = some (.aload_n 0, 1, 0, 0, []) := rfl
theorem rw_216_173 : mm_code 215 173 = some (.dup, 1, 0, 0, []) := rfl
theorem rw_216_174 : mm_code 215 174 = some (.getfield 380, 3, 11, 42, [0, 119]) := rfl
theorem rw_216_177 : mm_code 215 177 = some (.iconst 1, 1, 1, 0, []) := rfl
theorem rw_216_178 : mm_code 215 178 = some (.iadd, 1, 0, 0, []) := rfl
theorem rw_216_179 : mm_code 215 179 = some (.putfield 380, 3, 11, 42, [0, 119]) := rfl
theorem rw_216_182 : mm_code 215 182 = some (.return_, 1, 0, 0, []) := rfl
theorem rw_217_0 : mm_code 216 0 = some (.aload_n 0, 1, 0, 0, []) := rfl
theorem rw_217_1 : mm_code 216 1 = some (.getfield 88, 3, 11, 46, [3, 26]) := rfl
theorem rw_217_4 : mm_code 216 4 = some (.iload_n 1, 1, 0, 0, []) := rfl
theorem rw_217_5 : mm_code 216 5 = some (.iaload, 1, 0, 0, []) := rfl
theorem rw_217_6 : mm_code 216 6 = some (.istore_n 2, 1, 0, 0, []) := rfl
theorem rw_217_7 : mm_code 216 7 = some (.iconst 0, 1, 0, 0, []) := rfl
theorem rw_217_8 : mm_code 216 8 = some (.istore_n 3, 1, 0, 0, []) := rfl
theorem rw_217_9 : mm_code 216 9 = some (.iload_n 3, 1, 0, 0, []) := rfl
theorem rw_217_10 : mm_code 216 10 = some (.aload_n 0, 1, 0, 0, []) := rfl
theorem rw_217_11 : mm_code 216 11 = some (.getfield 82, 3, 11, 40, [3, 24]) := rfl
theorem rw_217_14 : mm_code 216 14 = some (.iload_n 2, 1, 0, 0, []) := rfl
theorem rw_217_15 : mm_code 216 15 = some (.iaload, 1, 0, 0, []) := rfl
theorem rw_217_16 : mm_code 216 16 = some (.if_icmp .ge 30, 3, 46, 0, []) := rfl
theorem rw_217_19 : mm_code 216 19 = some (.aload_n 0, 1, 0, 0, []) := rfl
theorem rw_217_20 : mm_code 216 20 = some (.aload_n 0, 1, 0, 0, []) := rfl
theorem rw_217_21 : mm_code 216 21 = some (.getfield 91, 3, 11, 47, [3, 27]) := rfl
theorem rw_217_24 : mm_code 216 24 = some (.iload_n 1, 1, 0, 0, []) := rfl
theorem rw_217_25 : mm_code 216 25 = some (.iaload, 1, 0, 0, []) := rfl
theorem rw_217_26 : mm_code 216 26 = some (.aload_n 0, 1, 0, 0, []) := rfl
theorem rw_217_27 : mm_code 216 27 = some (.getfield 79, 3, 11, 39, [3, 23]) := rfl
theorem rw_217_30 : mm_code 216 30 = some (.bipush 30, 2, 30, 0, []) := rfl
theorem rw_217_32 : mm_code 216 32 = some (.iload_n 2, 1, 0, 0, []) := rfl
theorem rw_217_33 : mm_code 216 33 = some (.imul, 1, 0, 0, []) := rfl
theorem rw_217_34 : mm_code 216 34 = some (.iload_n 3, 1, 0, 0, []) := rfl
theorem rw_217_35 : mm_code 216 35 = some (.iadd, 1, 0, 0, []) := rfl
theorem rw_217_36 : mm_code 216 36 = some (.iaload, 1, 0, 0, []) := rfl
theorem rw_217_37 : mm_code 216 37 = some (.invokevirtual 376, 3, 209, 3, [118, 0]) := rfl
theorem rw_217_40 : mm_code 216 40 = some (.iinc 3 1, 3, 1, 0, []) := rfl
theorem rw_217_43 : mm_code 216 43 = some (.goto (-34), 3, 9, 0, []) := rfl
theorem rw_217_46 : mm_code 216 46 = some (.aload_n 0, 1, 0, 0, []) := rfl
theorem rw_217_47 : mm_code 216 47 = some (.getfield 82, 3, 11, 40, [3, 24]) := rfl
theorem rw_217_50 : mm_code 216 50 = some (.iload_n 2, 1, 0, 0, []) := rfl
theorem rw_217_51 : mm_code 216 51 = some (.iconst 0, 1, 0, 0, []) := rfl
theorem rw_217_52 : mm_code 216 52 = some (.iastore, 1, 0, 0, []) := rfl
theorem rw_217_53 : mm_code 216 53 = some (.return_, 1, 0, 0, []) := rfl
theorem rw_218_0 : mm_code 217 0 = some (.aload_n 0, 1, 0, 0, []) := rfl
theorem rw_218_1 : mm_code 217 1 = some (.aload_n 0, 1, 0, 0, []) := rfl
theorem rw_218_2 : mm_code 217 2 = some (.getfield 242, 3, 11, 29, [0, 76]) := rfl
theorem rw_218_5 : mm_code 217 5 = some (.invokevirtual 326, 3, 188, 2, [102, 0]) := rfl
theorem rw_218_8 : mm_code 217 8 = some (.aload_n 0, 1, 0, 0, []) := rfl
theorem rw_218_9 : mm_code 217 9 = some (.iconst 0, 1, 0, 0, []) := rfl
theorem rw_218_10 : mm_code 217 10 = some (.putfield 380, 3, 11, 42, [0, 119]) := rfl
theorem rw_218_13 : mm_code 217 13 = some (.aload_n 0, 1, 0, 0, []) := rfl
theorem rw_218_14 : mm_code 217 14 = some (.iconst 0, 1, 0, 0, []) := rfl
theorem rw_218_15 : mm_code 217 15 = some (.putfield 383, 3, 11, 43, [0, 120]) := rfl
theorem rw_218_18 : mm_code 217 18 = some (.iconst 0, 1, 0, 0, []) := rfl
theorem rw_218_19 : mm_code 217 19 = some (.istore_n 1, 1, 0, 0, []) := rfl
theorem rw_218_20 : mm_code 217 20 = some (.iconst 0, 1, 0, 0, []) := rfl
theorem rw_218_21 : mm_code 217 21 = some (.istore_n 2, 1, 0, 0, []) := rfl
theorem rw_218_22 : mm_code 217 22 = some (.iload_n 1, 1, 0, 0, []) := rfl
theorem rw_218_23 : mm_code 217 23 = some (.ifCond .le 63, 3, 86, 0, []) := rfl
theorem rw_218_26 : mm_code 217 26 = some (.iload_n 2, 1, 0, 0, []) := rfl
theorem rw_218_27 : mm_code 217 27 = some (.aload_n 0, 1, 0, 0, []) := rfl
theorem rw_218_28 : mm_code 217 28 = some (.getfield 97, 3, 11, 49, [3, 29]) := rfl
theorem rw_218_31 : mm_code 217 31 = some (.aload_n 0, 1, 0, 0, []) := rfl
theorem rw_218_32 : mm_code 217 32 = some (.getfield 112, 3, 11, 55, [3, 34]) := rfl
theorem rw_218_35 : mm_code 217 35 = some (.iload_n 1, 1, 0, 0, []) := rfl
theorem rw_218_36 : mm_code 217 36 = some (.iconst 1, 1, 1, 0, []) := rfl
theorem rw_218_37 : mm_code 217 37 = some (.isub, 1, 0, 0, []) := rfl
theorem rw_218_38 : mm_code 217 38 = some (.iaload, 1, 0, 0, []) := rfl
theorem rw_218_39 : mm_code 217 39 = some (.iaload, 1, 0, 0, []) := rfl
theorem rw_218_40 : mm_code 217 40 = some (.if_icmp .ne 46, 3, 86, 0, []) := rfl
theorem rw_218_43 : mm_code 217 43 = some (.aload_n 0, 1, 0, 0, []) := rfl
theorem rw_218_44 : mm_code 217 44 = some (.getfield 115, 3, 11, 56, [3, 35]) := rfl
theorem rw_218_47 : mm_code 217 47 = some (.iload_n 1, 1, 0, 0, []) := rfl
theorem rw_218_48 : mm_code 217 48 = some (.iconst 1, 1, 1, 0, []) := rfl
theorem rw_218_49 : mm_code 217 49 = some (.isub, 1, 0, 0, []) := rfl
theorem rw_218_50 : mm_code 217 50 = some (.dup2, 1, 0, 0, []) := rfl
theorem rw_218_51 : mm_code 217 51 = some (.iaload, 1, 0, 0, []) := rfl
theorem rw_218_52 : mm_code 217 52 = some (.iconst 1, 1, 1, 0, []) := rfl
theorem rw_218_53 : mm_code 217 53 = some (.isub, 1, 0, 0, []) := rfl
theorem rw_218_54 : mm_code 217 54 = some (.iastore, 1, 0, 0, []) := rfl
theorem rw_218_55 : mm_code 217 55 = some (.aload_n 0, 1, 0, 0, []) := rfl
theorem rw_218_56 : mm_code 217 56 = some (.getfield 115, 3, 11, 56, [3, 35]) := rfl
theorem rw_218_59 : mm_code 217 59 = some (.iload_n 1, 1, 0, 0, []) := rfl
theorem rw_218_60 : mm_code 217 60 = some (.iconst 1, 1, 1, 0, []) := rfl
theorem rw_218_61 : mm_code 217 61 = some (.isub, 1, 0, 0, []) := rfl
theorem rw_218_62 : mm_code 217 62 = some (.iaload, 1, 0, 0, []) := rfl
theorem rw_218_63 : mm_code 217 63 = some (.ifCond .le 17, 3, 80, 0, []) := rfl
theorem rw_218_66 : mm_code 217 66 = some (.aload_n 0, 1, 0, 0, []) := rfl
theorem rw_218_67 : mm_code 217 67 = some (.getfield 112, 3, 11, 55, [3, 34]) := rfl
theorem rw_218_70 : mm_code 217 70 = some (.iload_n 1, 1, 0, 0, []) := rfl
theorem rw_218_71 : mm_code 217 71 = some (.iconst 1, 1, 1, 0, []) := rfl
theorem rw_218_72 : mm_code 217 72 = some (.isub, 1, 0, 0, []) := rfl
theorem rw_218_73 : mm_code 217 73 = some (.iaload, 1, 0, 0, []) := rfl
theorem rw_218_74 : mm_code 217 74 = some (.iconst 1, 1, 1, 0, []) := rfl
theorem rw_218_75 : mm_code 217 75 = some (.iadd, 1, 0, 0, []) := rfl
theorem rw_218_76 : mm_code 217 76 = some (.istore_n 2, 1, 0, 0, []) := rfl
theorem rw_218_77 : mm_code 217 77 = some (.goto (-55), 3, 22, 0, []) := rfl
theorem rw_218_80 : mm_code 217 80 = some (.iinc 1 (-1), 3, 1, 1, []) := rfl
theorem rw_218_83 : mm_code 217 83 = some (.goto (-61), 3, 22, 0, []) := rfl
theorem rw_218_86 : mm_code 217 86 = some (.iload_n 2, 1, 0, 0, []) := rfl
theorem rw_218_87 : mm_code 217 87 = some (.aload_n 0, 1, 0, 0, []) := rfl
theorem rw_218_88 : mm_code 217 88 = some (.getfield 367, 3, 11, 44, [0, 115]) := rfl
theorem rw_218_91 : mm_code 217 91 = some (.if_icmp .ne 5, 3, 96, 0, []) := rfl
theorem rw_218_94 : mm_code 217 94 = some (.iconst 0, 1, 0, 0, []) := rfl
theorem rw_218_95 : mm_code 217 95 = some (.ireturn, 1, 0, 0, []) := rfl
theorem rw_218_96 : mm_code 217 96 = some (.aload_n 0, 1, 0, 0, []) := rfl
theorem rw_218_97 : mm_code 217 97 = some (.getfield 383, 3, 11, 43, [0, 120]) := rfl
theorem rw_218_100 : mm_code 217 100 = some (.sipush 3000, 3, 3000, 0, []) := rfl
theorem rw_218_103 : mm_code 217 103 = some (.if_icmp .ne 5, 3, 108, 0, []) := rfl
theorem rw_218_106 : mm_code 217 106 = some (.iconst 1, 1, 1, 0, []) := rfl
theorem rw_218_107 : mm_code 217 107 = some (.ireturn, 1, 0, 0, []) := rfl
theorem rw_218_108 : mm_code 217 108 = some (.aload_n 0, 1, 0, 0, []) := rfl
theorem rw_218_109 : mm_code 217 109 = some (.dup, 1, 0, 0, []) := rfl
theorem rw_218_110 : mm_code 217 110 = some (.getfield 383, 3, 11, 43, [0, 120]) := rfl
theorem rw_218_113 : mm_code 217 113 = some (.iconst 1, 1, 1, 0, []) := rfl
theorem rw_218_114 : mm_code 217 114 = some (.iadd, 1, 0, 0, []) := rfl
theorem rw_218_115 : mm_code 217 115 = some (.putfield 383, 3, 11, 43, [0, 120]) := rfl
theorem rw_218_118 : mm_code 217 118 = some (.aload_n 0, 1, 0, 0, []) := rfl
theorem rw_218_119 : mm_code 217 119 = some (.getfield 85, 3, 11, 45, [3, 25]) := rfl
theorem rw_218_122 : mm_code 217 122 = some (.iload_n 2, 1, 0, 0, []) := rfl
theorem rw_218_123 : mm_code 217 123 = some (.iaload, 1, 0, 0, []) := rfl
theorem rw_218_124 : mm_code 217 124 = some (.ifCond .ne 8, 3, 132, 0, []) := rfl
theorem rw_218_127 : mm_code 217 127 = some (.aload_n 0, 1, 0, 0, []) := rfl
theorem rw_218_128 : mm_code 217 128 = some (.iload_n 2, 1, 0, 0, []) := rfl
theorem rw_218_129 : mm_code 217 129 = some (.invokevirtual 386, 3, 215, 2, [121, 0]) := rfl
theorem rw_218_132 : mm_code 217 132 = some (.aload_n 0, 1, 0, 0, []) := rfl
theorem rw_218_133 : mm_code 217 133 = some (.getfield 85, 3, 11, 45, [3, 25]) := rfl
theorem rw_218_136 : mm_code 217 136 = some (.iload_n 2, 1, 0, 0, []) := rfl
theorem rw_218_137 : mm_code 217 137 = some (.iaload, 1, 0, 0, []) := rfl
theorem rw_218_138 : mm_code 217 138 = some (.iconst 1, 1, 1, 0, []) := rfl
theorem rw_218_139 : mm_code 217 139 = some (.if_icmp .ne 8, 3, 147, 0, []) := rfl
theorem rw_218_142 : mm_code 217 142 = some (.aload_n 0, 1, 0, 0, []) := rfl
theorem rw_218_143 : mm_code 217 143 = some (.iload_n 2, 1, 0, 0, []) := rfl
theorem rw_218_144 : mm_code 217 144 = some (.invokevirtual 388, 3, 216, 2, [122, 0]) := rfl
theorem rw_218_147 : mm_code 217 147 = some (.aload_n 0, 1, 0, 0, []) := rfl
theorem rw_218_148 : mm_code 217 148 = some (.getfield 85, 3, 11, 45, [3, 25]) := rfl
theorem rw_218_151 : mm_code 217 151 = some (.iload_n 2, 1, 0, 0, []) := rfl
theorem rw_218_152 : mm_code 217 152 = some (.iaload, 1, 0, 0, []) := rfl
theorem rw_218_153 : mm_code 217 153 = some (.iconst 2, 1, 2, 0, []) := rfl
theorem rw_218_154 : mm_code 217 154 = some (.if_icmp .ge 9, 3, 163, 0, []) := rfl
theorem rw_218_157 : mm_code 217 157 = some (.iinc 2 1, 3, 1, 0, []) := rfl
theorem rw_218_160 : mm_code 217 160 = some (.goto (-138), 3, 22, 0, []) := rfl
theorem rw_218_163 : mm_code 217 163 = some (.aload_n 0, 1, 0, 0, []) := rfl
theorem rw_218_164 : mm_code 217 164 = some (.getfield 88, 3, 11, 46, [3, 26]) := rfl
theorem rw_218_167 : mm_code 217 167 = some (.iload_n 2, 1, 0, 0, []) := rfl
theorem rw_218_168 : mm_code 217 168 = some (.iaload, 1, 0, 0, []) := rfl
theorem rw_218_169 : mm_code 217 169 = some (.ifCond .ne 13, 3, 182, 0, []) := rfl
theorem rw_218_172 : mm_code 217 172 = some (.aload_n 0, 1, 0, 0, []) := rfl
theorem rw_218_173 : mm_code 217 173 = some (.getfield 97, 3, 11, 49, [3, 29]) := rfl
theorem rw_218_176 : mm_code 217 176 = some (.iload_n 2, 1, 0, 0, []) := rfl
theorem rw_218_177 : mm_code 217 177 = some (.iaload, 1, 0, 0, []) := rfl
theorem rw_218_178 : mm_code 217 178 = some (.istore_n 2, 1, 0, 0, []) := rfl
theorem rw_218_179 : mm_code 217 179 = some (.goto (-157), 3, 22, 0, []) := rfl
theorem rw_218_182 : mm_code 217 182 = some (.aload_n 0, 1, 0, 0, []) := rfl
theorem rw_218_183 : mm_code 217 183 = some (.getfield 112, 3, 11, 55, [3, 34]) := rfl
theorem rw_218_186 : mm_code 217 186 = some (.iload_n 1, 1, 0, 0, []) := rfl
theorem rw_218_187 : mm_code 217 187 = some (.iload_n 2, 1, 0, 0, []) := rfl
theorem rw_218_188 : mm_code 217 188 = some (.iastore, 1, 0, 0, []) := rfl
theorem rw_218_189 : mm_code 217 189 = some (.aload_n 0, 1, 0, 0, []) := rfl
theorem rw_218_190 : mm_code 217 190 = some (.getfield 115, 3, 11, 56, [3, 35]) := rfl
theorem rw_218_193 : mm_code 217 193 = some (.iload_n 1, 1, 0, 0, []) := rfl
theorem rw_218_194 : mm_code 217 194 = some (.aload_n 0, 1, 0, 0, []) := rfl
theorem rw_218_195 : mm_code 217 195 = some (.getfield 88, 3, 11, 46, [3, 26]) := rfl
theorem rw_218_198 : mm_code 217 198 = some (.iload_n 2, 1, 0, 0, []) := rfl
theorem rw_218_199 : mm_code 217 199 = some (.iaload, 1, 0, 0, []) := rfl
theorem rw_218_200 : mm_code 217 200 = some (.iastore, 1, 0, 0, []) := rfl
theorem rw_218_201 : mm_code 217 201 = some (.iinc 1 1, 3, 1, 0, []) := rfl
theorem rw_218_204 : mm_code 217 204 = some (.iinc 2 1, 3, 1, 0, []) := rfl
theorem rw_218_207 : mm_code 217 207 = some (.goto (-185), 3, 22, 0, []) := rfl
theorem rw_219_0 : mm_code 218 0 = some (.aload_n 0, 1, 0, 0, []) := rfl
theorem rw_219_1 : mm_code 218 1 = some (.iconst 0, 1, 0, 0, []) := rfl
theorem rw_219_2 : mm_code 218 2 = some (.putfield 163, 3, 11, 2, [0, 51]) := rfl
theorem rw_219_5 : mm_code 218 5 = some (.aload_n 0, 1, 0, 0, []) := rfl
theorem rw_219_6 : mm_code 218 6 = some (.iload_n 1, 1, 0, 0, []) := rfl
theorem rw_219_7 : mm_code 218 7 = some (.invokevirtual 283, 3, 162, 2, [88, 0]) := rfl
theorem rw_219_10 : mm_code 218 10 = some (.ifCond .ne 6, 3, 16, 0, []) := rfl
theorem rw_219_13 : mm_code 218 13 = some (.bipush (-2), 2, 2, 1, []) := rfl
theorem rw_219_15 : mm_code 218 15 = some (.ireturn, 1, 0, 0, []) := rfl
theorem rw_219_16 : mm_code 218 16 = some (.aload_n 0, 1, 0, 0, []) := rfl
theorem rw_219_17 : mm_code 218 17 = some (.iconst 0, 1, 0, 0, []) := rfl
theorem rw_219_18 : mm_code 218 18 = some (.putfield 367, 3, 11, 44, [0, 115]) := rfl
theorem rw_219_21 : mm_code 218 21 = some (.aload_n 0, 1, 0, 0, []) := rfl
theorem rw_219_22 : mm_code 218 22 = some (.iconst 0, 1, 0, 0, []) := rfl
theorem rw_219_23 : mm_code 218 23 = some (.putfield 364, 3, 11, 52, [0, 114]) := rfl
theorem rw_219_26 : mm_code 218 26 = some (.aload_n 0, 1, 0, 0, []) := rfl
theorem rw_219_27 : mm_code 218 27 = some (.getfield 185, 3, 11, 8, [0, 58]) := rfl
theorem rw_219_30 : mm_code 218 30 = some (.ifCond .ne 10, 3, 40, 0, []) := rfl
theorem rw_219_33 : mm_code 218 33 = some (.aload_n 0, 1, 0, 0, []) := rfl
theorem rw_219_34 : mm_code 218 34 = some (.getfield 364, 3, 11, 52, [0, 114]) := rfl
theorem rw_219_37 : mm_code 218 37 = some (.ifCond .le 12, 3, 49, 0, []) := rfl
theorem rw_219_40 : mm_code 218 40 = some (.aload_n 0, 1, 0, 0, []) := rfl
theorem rw_219_41 : mm_code 218 41 = some (.invokevirtual 391, 3, 214, 1, [123, 0]) := rfl
theorem rw_219_44 : mm_code 218 44 = some (.ifCond .ne (-18), 3, 26, 0, []) := rfl
theorem rw_219_47 : mm_code 218 47 = some (.iconst (-1), 1, 1, 1, []) := rfl
theorem rw_219_48 : mm_code 218 48 = some (.ireturn, 1, 0, 0, []) := rfl
theorem rw_219_49 : mm_code 218 49 = some (.aload_n 0, 1, 0, 0, []) := rfl
theorem rw_219_50 : mm_code 218 50 = some (.invokevirtual 394, 3, 217, 1, [124, 0]) := rfl
theorem rw_219_53 : mm_code 218 53 = some (.ireturn, 1, 0, 0, []) := rfl
theorem rw_220_0 : mm_code 219 0 = some (.iload_n 1, 1, 0, 0, []) := rfl
theorem rw_220_1 : mm_code 219 1 = some (.iconst 2, 1, 2, 0, []) := rfl
theorem rw_220_2 : mm_code 219 2 = some (.if_icmp .ne 7, 3, 9, 0, []) := rfl
theorem rw_220_5 : mm_code 219 5 = some (.iconst 3, 1, 3, 0, []) := rfl
theorem rw_220_6 : mm_code 219 6 = some (.goto 22, 3, 28, 0, []) := rfl
theorem rw_220_9 : mm_code 219 9 = some (.iload_n 1, 1, 0, 0, []) := rfl
theorem rw_220_10 : mm_code 219 10 = some (.iconst 3, 1, 3, 0, []) := rfl
theorem rw_220_11 : mm_code 219 11 = some (.if_icmp .ne 7, 3, 18, 0, []) := rfl
theorem rw_220_14 : mm_code 219 14 = some (.iconst 2, 1, 2, 0, []) := rfl
theorem rw_220_15 : mm_code 219 15 = some (.goto 13, 3, 28, 0, []) := rfl
theorem rw_220_18 : mm_code 219 18 = some (.iload_n 1, 1, 0, 0, []) := rfl
theorem rw_220_19 : mm_code 219 19 = some (.iconst 4, 1, 4, 0, []) := rfl
theorem rw_220_20 : mm_code 219 20 = some (.if_icmp .ne 7, 3, 27, 0, []) := rfl
theorem rw_220_23 : mm_code 219 23 = some (.iconst 1, 1, 1, 0, []) := rfl
theorem rw_220_24 : mm_code 219 24 = some (.goto 4, 3, 28, 0, []) := rfl
theorem rw_220_27 : mm_code 219 27 = some (.iconst 0, 1, 0, 0, []) := rfl
theorem rw_220_28 : mm_code 219 28 = some (.ireturn, 1, 0, 0, []) := rfl
theorem rw_221_0 : mm_code 220 0 = some (.aload_n 0, 1, 0, 0, []) := rfl
theorem rw_221_1 : mm_code 220 1 = some (.getfield 118, 3, 11, 60, [3, 36]) := rfl
theorem rw_221_4 : mm_code 220 4 = some (.bipush 40, 2, 40, 0, []) := rfl
theorem rw_221_6 : mm_code 220 6 = some (.aload_n 0, 1, 0, 0, []) := rfl
theorem rw_221_7 : mm_code 220 7 = some (.getfield 397, 3, 11, 59, [0, 125]) := rfl
theorem rw_221_10 : mm_code 220 10 = some (.iadd, 1, 0, 0, []) := rfl
theorem rw_221_11 : mm_code 220 11 = some (.iload_n 1, 1, 0, 0, []) := rfl
theorem rw_221_12 : mm_code 220 12 = some (.iastore, 1, 0, 0, []) := rfl
theorem rw_221_13 : mm_code 220 13 = some (.aload_n 0, 1, 0, 0, []) := rfl
theorem rw_221_14 : mm_code 220 14 = some (.getfield 121, 3, 11, 61, [3, 37]) := rfl
theorem rw_221_17 : mm_code 220 17 = some (.bipush 40, 2, 40, 0, []) := rfl
theorem rw_221_19 : mm_code 220 19 = some (.aload_n 0, 1, 0, 0, []) := rfl
theorem rw_221_20 : mm_code 220 20 = some (.getfield 397, 3, 11, 59, [0, 125]) := rfl
theorem rw_221_23 : mm_code 220 23 = some (.iadd, 1, 0, 0, []) := rfl
theorem rw_221_24 : mm_code 220 24 = some (.iload_n 2, 1, 0, 0, []) := rfl
theorem rw_221_25 : mm_code 220 25 = some (.iastore, 1, 0, 0, []) := rfl
theorem rw_221_26 : mm_code 220 26 = some (.aload_n 0, 1, 0, 0, []) := rfl
theorem rw_221_27 : mm_code 220 27 = some (.getfield 124, 3, 11, 62, [3, 38]) := rfl
theorem rw_221_30 : mm_code 220 30 = some (.bipush 40, 2, 40, 0, []) := rfl
theorem rw_221_32 : mm_code 220 32 = some (.aload_n 0, 1, 0, 0, []) := rfl
theorem rw_221_33 : mm_code 220 33 = some (.getfield 397, 3, 11, 59, [0, 125]) := rfl
theorem rw_221_36 : mm_code 220 36 = some (.iadd, 1, 0, 0, []) := rfl
theorem rw_221_37 : mm_code 220 37 = some (.iload_n 3, 1, 0, 0, []) := rfl
theorem rw_221_38 : mm_code 220 38 = some (.iastore, 1, 0, 0, []) := rfl
theorem rw_221_39 : mm_code 220 39 = some (.aload_n 0, 1, 0, 0, []) := rfl
theorem rw_221_40 : mm_code 220 40 = some (.getfield 130, 3, 11, 64, [3, 40]) := rfl
theorem rw_221_43 : mm_code 220 43 = some (.aload_n 0, 1, 0, 0, []) := rfl
theorem rw_221_44 : mm_code 220 44 = some (.getfield 400, 3, 11, 66, [0, 126]) := rfl
theorem rw_221_47 : mm_code 220 47 = some (.aload_n 0, 1, 0, 0, []) := rfl
theorem rw_221_48 : mm_code 220 48 = some (.getfield 397, 3, 11, 59, [0, 125]) := rfl
theorem rw_221_51 : mm_code 220 51 = some (.iastore, 1, 0, 0, []) := rfl
theorem rw_221_52 : mm_code 220 52 = some (.aload_n 0, 1, 0, 0, []) := rfl
theorem rw_221_53 : mm_code 220 53 = some (.dup, 1, 0, 0, []) := rfl
theorem rw_221_54 : mm_code 220 54 = some (.getfield 400, 3, 11, 66, [0, 126]) := rfl
theorem rw_221_57 : mm_code 220 57 = some (.iconst 1, 1, 1, 0, []) := rfl
theorem rw_221_58 : mm_code 220 58 = some (.iadd, 1, 0, 0, []) := rfl
theorem rw_221_59 : mm_code 220 59 = some (.putfield 400, 3, 11, 66, [0, 126]) := rfl
theorem rw_221_62 : mm_code 220 62 = some (.aload_n 0, 1, 0, 0, []) := rfl
theorem rw_221_63 : mm_code 220 63 = some (.dup, 1, 0, 0, []) := rfl
theorem rw_221_64 : mm_code 220 64 = some (.getfield 397, 3, 11, 59, [0, 125]) := rfl
theorem rw_221_67 : mm_code 220 67 = some (.iconst 1, 1, 1, 0, []) := rfl
theorem rw_221_68 : mm_code 220 68 = some (.iadd, 1, 0, 0, []) := rfl
theorem rw_221_69 : mm_code 220 69 = some (.putfield 397, 3, 11, 59, [0, 125]) := rfl
theorem rw_221_72 : mm_code 220 72 = some (.return_, 1, 0, 0, []) := rfl
theorem rw_222_0 : mm_code 221 0 = some (.aload_n 0, 1, 0, 0, []) := rfl
theorem rw_222_1 : mm_code 221 1 = some (.dup, 1, 0, 0, []) := rfl
theorem rw_222_2 : mm_code 221 2 = some (.getfield 400, 3, 11, 66, [0, 126]) := rfl
theorem rw_222_5 : mm_code 221 5 = some (.iconst 1, 1, 1, 0, []) := rfl
theorem rw_222_6 : mm_code 221 6 = some (.isub, 1, 0, 0, []) := rfl
theorem rw_222_7 : mm_code 221 7 = some (.putfield 400, 3, 11, 66, [0, 126]) := rfl
theorem rw_222_10 : mm_code 221 10 = some (.aload_n 0, 1, 0, 0, []) := rfl
theorem rw_222_11 : mm_code 221 11 = some (.getfield 130, 3, 11, 64, [3, 40]) := rfl
theorem rw_222_14 : mm_code 221 14 = some (.aload_n 0, 1, 0, 0, []) := rfl
theorem rw_222_15 : mm_code 221 15 = some (.getfield 400, 3, 11, 66, [0, 126]) := rfl
theorem rw_222_18 : mm_code 221 18 = some (.iaload, 1, 0, 0, []) := rfl
theorem rw_222_19 : mm_code 221 19 = some (.ireturn, 1, 0, 0, []) := rfl
theorem rw_223_0 : mm_code 222 0 = some (.aload_n 0, 1, 0, 0, []) := rfl
theorem rw_223_1 : mm_code 222 1 = some (.getfield 403, 3, 11, 65, [0, 127]) := rfl
theorem rw_223_4 : mm_code 222 4 = some (.ifCond .le 73, 3, 77, 0, []) := rfl
theorem rw_223_7 : mm_code 222 7 = some (.aload_n 0, 1, 0, 0, []) := rfl
theorem rw_223_8 : mm_code 222 8 = some (.aload_n 0, 1, 0, 0, []) := rfl
theorem rw_223_9 : mm_code 222 9 = some (.getfield 127, 3, 11, 63, [3, 39]) := rfl
theorem rw_223_12 : mm_code 222 12 = some (.aload_n 0, 1, 0, 0, []) := rfl
theorem rw_223_13 : mm_code 222 13 = some (.getfield 403, 3, 11, 65, [0, 127]) := rfl
theorem rw_223_16 : mm_code 222 16 = some (.iconst 1, 1, 1, 0, []) := rfl
theorem rw_223_17 : mm_code 222 17 = some (.isub, 1, 0, 0, []) := rfl
theorem rw_223_18 : mm_code 222 18 = some (.iaload, 1, 0, 0, []) := rfl
theorem rw_223_19 : mm_code 222 19 = some (.invokevirtual 406, 3, 219, 2, [128, 0]) := rfl
theorem rw_223_22 : mm_code 222 22 = some (.iload_n 1, 1, 0, 0, []) := rfl
theorem rw_223_23 : mm_code 222 23 = some (.if_icmp .lt 54, 3, 77, 0, []) := rfl
theorem rw_223_26 : mm_code 222 26 = some (.aload_n 0, 1, 0, 0, []) := rfl
theorem rw_223_27 : mm_code 222 27 = some (.dup, 1, 0, 0, []) := rfl
theorem rw_223_28 : mm_code 222 28 = some (.getfield 403, 3, 11, 65, [0, 127]) := rfl
theorem rw_223_31 : mm_code 222 31 = some (.iconst 1, 1, 1, 0, []) := rfl
theorem rw_223_32 : mm_code 222 32 = some (.isub, 1, 0, 0, []) := rfl
theorem rw_223_33 : mm_code 222 33 = some (.putfield 403, 3, 11, 65, [0, 127]) := rfl
theorem rw_223_36 : mm_code 222 36 = some (.aload_n 0, 1, 0, 0, []) := rfl
theorem rw_223_37 : mm_code 222 37 = some (.getfield 127, 3, 11, 63, [3, 39]) := rfl
theorem rw_223_40 : mm_code 222 40 = some (.aload_n 0, 1, 0, 0, []) := rfl
theorem rw_223_41 : mm_code 222 41 = some (.getfield 403, 3, 11, 65, [0, 127]) := rfl
theorem rw_223_44 : mm_code 222 44 = some (.iaload, 1, 0, 0, []) := rfl
theorem rw_223_45 : mm_code 222 45 = some (.istore_n 2, 1, 0, 0, []) := rfl
theorem rw_223_46 : mm_code 222 46 = some (.iload_n 2, 1, 0, 0, []) := rfl
theorem rw_223_47 : mm_code 222 47 = some (.iconst 2, 1, 2, 0, []) := rfl
theorem rw_223_48 : mm_code 222 48 = some (.if_icmp .ne 7, 3, 55, 0, []) := rfl
theorem rw_223_51 : mm_code 222 51 = some (.iconst (-1), 1, 1, 1, []) := rfl
theorem rw_223_52 : mm_code 222 52 = some (.goto 7, 3, 59, 0, []) := rfl
theorem rw_223_55 : mm_code 222 55 = some (.aload_n 0, 1, 0, 0, []) := rfl
theorem rw_223_56 : mm_code 222 56 = some (.invokevirtual 409, 3, 221, 1, [129, 0]) := rfl
theorem rw_223_59 : mm_code 222 59 = some (.istore_n 3, 1, 0, 0, []) := rfl
theorem rw_223_60 : mm_code 222 60 = some (.aload_n 0, 1, 0, 0, []) := rfl
theorem rw_223_61 : mm_code 222 61 = some (.invokevirtual 409, 3, 221, 1, [129, 0]) := rfl
theorem rw_223_64 : mm_code 222 64 = some (.istore 4, 2, 0, 0, []) := rfl
theorem rw_223_66 : mm_code 222 66 = some (.aload_n 0, 1, 0, 0, []) := rfl
theorem rw_223_67 : mm_code 222 67 = some (.iload_n 2, 1, 0, 0, []) := rfl
theorem rw_223_68 : mm_code 222 68 = some (.iload 4, 2, 0, 0, []) := rfl
theorem rw_223_70 : mm_code 222 70 = some (.iload_n 3, 1, 0, 0, []) := rfl
theorem rw_223_71 : mm_code 222 71 = some (.invokevirtual 412, 3, 220, 4, [130, 0]) := rfl
theorem rw_223_74 : mm_code 222 74 = some (.goto (-74), 3, 0, 0, []) := rfl
theorem rw_223_77 : mm_code 222 77 = some (.return_, 1, 0, 0, []) := rfl
theorem rw_224_0 : mm_code 223 0 = some (.aload_n 0, 1, 0, 0, []) := rfl
theorem rw_224_1 : mm_code 223 1 = some (.getfield 416, 3, 11, 69, [0, 131]) := rfl
theorem rw_224_4 : mm_code 223 4 = some (.bipush 40, 2, 40, 0, []) := rfl
theorem rw_224_6 : mm_code 223 6 = some (.if_icmp .ne 9, 3, 15, 0, []) := rfl
theorem rw_224_9 : mm_code 223 9 = some (.aload_n 0, 1, 0, 0, []) := rfl
theorem rw_224_10 : mm_code 223 10 = some (.iconst 2, 1, 2, 0, []) := rfl
theorem rw_224_11 : mm_code 223 11 = some (.invokevirtual 208, 3, 151, 2, [65, 0]) := rfl
theorem rw_224_14 : mm_code 223 14 = some (.ireturn, 1, 1, 0, []) := rfl
theorem rw_224_15 : mm_code 223 15 = some (.aload_n 0, 1, 0, 0, []) := rfl
theorem rw_224_16 : mm_code 223 16 = some (.dup, 1, 0, 0, []) := rfl
theorem rw_224_17 : mm_code 223 17 = some (.getfield 416, 3, 11, 69, [0, 131]) := rfl
theorem rw_224_20 : mm_code 223 20 = some (.iconst 1, 1, 1, 0, []) := rfl
theorem rw_224_21 : mm_code 223 21 = some (.iadd, 1, 0, 0, []) := rfl
theorem rw_224_22 : mm_code 223 22 = some (.putfield 416, 3, 11, 69, [0, 131]) := rfl
theorem rw_224_25 : mm_code 223 25 = some (.iconst 1, 1, 1, 0, []) := rfl
theorem rw_224_26 : mm_code 223 26 = some (.ireturn, 1, 1, 0, []) := rfl
theorem rw_225_0 : mm_code 224 0 = some (.aload_n 0, 1, 0, 0, []) := rfl
theorem rw_225_1 : mm_code 224 1 = some (.bipush 40, 2, 40, 0, []) := rfl
theorem rw_225_3 : mm_code 224 3 = some (.invokevirtual 205, 3, 158, 2, [64, 0]) := rfl
theorem rw_225_6 : mm_code 224 6 = some (.ifCond .eq 54, 3, 60, 0, []) := rfl
theorem rw_225_9 : mm_code 224 9 = some (.aload_n 0, 1, 0, 0, []) := rfl
theorem rw_225_10 : mm_code 224 10 = some (.getfield 419, 3, 11, 67, [0, 132]) := rfl
theorem rw_225_13 : mm_code 224 13 = some (.bipush 8, 2, 8, 0, []) := rfl
theorem rw_225_15 : mm_code 224 15 = some (.if_icmp .ne 9, 3, 24, 0, []) := rfl
theorem rw_225_18 : mm_code 224 18 = some (.aload_n 0, 1, 0, 0, []) := rfl
theorem rw_225_19 : mm_code 224 19 = some (.iconst 2, 1, 2, 0, []) := rfl
theorem rw_225_20 : mm_code 224 20 = some (.invokevirtual 208, 3, 151, 2, [65, 0]) := rfl
theorem rw_225_23 : mm_code 224 23 = some (.ireturn, 1, 1, 0, []) := rfl
theorem rw_225_24 : mm_code 224 24 = some (.aload_n 0, 1, 0, 0, []) := rfl
theorem rw_225_25 : mm_code 224 25 = some (.dup, 1, 0, 0, []) := rfl
theorem rw_225_26 : mm_code 224 26 = some (.getfield 419, 3, 11, 67, [0, 132]) := rfl
theorem rw_225_29 : mm_code 224 29 = some (.iconst 1, 1, 1, 0, []) := rfl
theorem rw_225_30 : mm_code 224 30 = some (.iadd, 1, 0, 0, []) := rfl
theorem rw_225_31 : mm_code 224 31 = some (.putfield 419, 3, 11, 67, [0, 132]) := rfl
theorem rw_225_34 : mm_code 224 34 = some (.aload_n 0, 1, 0, 0, []) := rfl
theorem rw_225_35 : mm_code 224 35 = some (.getfield 127, 3, 11, 63, [3, 39]) := rfl
theorem rw_225_38 : mm_code 224 38 = some (.aload_n 0, 1, 0, 0, []) := rfl
theorem rw_225_39 : mm_code 224 39 = some (.getfield 403, 3, 11, 65, [0, 127]) := rfl
theorem rw_225_42 : mm_code 224 42 = some (.iconst 0, 1, 0, 0, []) := rfl
theorem rw_225_43 : mm_code 224 43 = some (.iastore, 1, 0, 0, []) := rfl
theorem rw_225_44 : mm_code 224 44 = some (.aload_n 0, 1, 0, 0, []) := rfl
theorem rw_225_45 : mm_code 224 45 = some (.dup, 1, 0, 0, []) := rfl
theorem rw_225_46 : mm_code 224 46 = some (.getfield 403, 3, 11, 65, [0, 127]) := rfl
theorem rw_225_49 : mm_code 224 49 = some (.iconst 1, 1, 1, 0, []) := rfl
theorem rw_225_50 : mm_code 224 50 = some (.iadd, 1, 0, 0, []) := rfl
theorem rw_225_51 : mm_code 224 51 = some (.putfield 403, 3, 11, 65, [0, 127]) := rfl
theorem rw_225_54 : mm_code 224 54 = some (.aload_n 0, 1, 0, 0, []) := rfl
theorem rw_225_55 : mm_code 224 55 = some (.invokevirtual 211, 3, 155, 1, [66, 0]) := rfl
theorem rw_225_58 : mm_code 224 58 = some (.iconst 1, 1, 1, 0, []) := rfl
theorem rw_225_59 : mm_code 224 59 = some (.ireturn, 1, 1, 0, []) := rfl
theorem rw_225_60 : mm_code 224 60 = some (.aload_n 0, 1, 0, 0, []) := rfl
theorem rw_225_61 : mm_code 224 61 = some (.bipush 14, 2, 14, 0, []) := rfl
theorem rw_225_63 : mm_code 224 63 = some (.invokevirtual 214, 3, 157, 2, [67, 0]) := rfl
theorem rw_225_66 : mm_code 224 66 = some (.ifCond .eq 38, 3, 104, 0, []) := rfl
theorem rw_225_69 : mm_code 224 69 = some (.aload_n 0, 1, 0, 0, []) := rfl
theorem rw_225_70 : mm_code 224 70 = some (.invokevirtual 422, 3, 223, 1, [133, 0]) := rfl
theorem rw_225_73 : mm_code 224 73 = some (.ifCond .ne 5, 3, 78, 0, []) := rfl
theorem rw_225_76 : mm_code 224 76 = some (.iconst 0, 1, 0, 0, []) := rfl
theorem rw_225_77 : mm_code 224 77 = some (.ireturn, 1, 1, 0, []) := rfl
theorem rw_225_78 : mm_code 224 78 = some (.aload_n 0, 1, 0, 0, []) := rfl
theorem rw_225_79 : mm_code 224 79 = some (.getfield 127, 3, 11, 63, [3, 39]) := rfl
theorem rw_225_82 : mm_code 224 82 = some (.aload_n 0, 1, 0, 0, []) := rfl
theorem rw_225_83 : mm_code 224 83 = some (.getfield 403, 3, 11, 65, [0, 127]) := rfl
theorem rw_225_86 : mm_code 224 86 = some (.iconst 2, 1, 2, 0, []) := rfl
theorem rw_225_87 : mm_code 224 87 = some (.iastore, 1, 0, 0, []) := rfl
theorem rw_225_88 : mm_code 224 88 = some (.aload_n 0, 1, 0, 0, []) := rfl
theorem rw_225_89 : mm_code 224 89 = some (.dup, 1, 0, 0, []) := rfl
theorem rw_225_90 : mm_code 224 90 = some (.getfield 403, 3, 11, 65, [0, 127]) := rfl
theorem rw_225_93 : mm_code 224 93 = some (.iconst 1, 1, 1, 0, []) := rfl
theorem rw_225_94 : mm_code 224 94 = some (.iadd, 1, 0, 0, []) := rfl
theorem rw_225_95 : mm_code 224 95 = some (.putfield 403, 3, 11, 65, [0, 127]) := rfl
theorem rw_225_98 : mm_code 224 98 = some (.aload_n 0, 1, 0, 0, []) := rfl
theorem rw_225_99 : mm_code 224 99 = some (.invokevirtual 211, 3, 155, 1, [66, 0]) := rfl
theorem rw_225_102 : mm_code 224 102 = some (.iconst 1, 1, 1, 0, []) := rfl
theorem rw_225_103 : mm_code 224 103 = some (.ireturn, 1, 1, 0, []) := rfl
theorem rw_225_104 : mm_code 224 104 = some (.aload_n 0, 1, 0, 0, []) := rfl
theorem rw_225_105 : mm_code 224 105 = some (.getfield 185, 3, 11, 8, [0, 58]) := rfl
theorem rw_225_108 : mm_code 224 108 = some (.iconst 2, 1, 2, 0, []) := rfl
theorem rw_225_109 : mm_code 224 109 = some (.if_icmp .eq 9, 3, 118, 0, []) := rfl
theorem rw_225_112 : mm_code 224 112 = some (.aload_n 0, 1, 0, 0, []) := rfl
theorem rw_225_113 : mm_code 224 113 = some (.iconst 1, 1, 1, 0, []) := rfl
theorem rw_225_114 : mm_code 224 114 = some (.invokevirtual 208, 3, 151, 2, [65, 0]) := rfl
theorem rw_225_117 : mm_code 224 117 = some (.ireturn, 1, 1, 0, []) := rfl
theorem rw_225_118 : mm_code 224 118 = some (.aload_n 0, 1, 0, 0, []) := rfl
theorem rw_225_119 : mm_code 224 119 = some (.invokevirtual 422, 3, 223, 1, [133, 0]) := rfl
theorem rw_225_122 : mm_code 224 122 = some (.ifCond .ne 5, 3, 127, 0, []) := rfl
theorem rw_225_125 : mm_code 224 125 = some (.iconst 0, 1, 0, 0, []) := rfl
theorem rw_225_126 : mm_code 224 126 = some (.ireturn, 1, 1, 0, []) := rfl
theorem rw_225_127 : mm_code 224 127 = some (.aload_n 0, 1, 0, 0, []) := rfl
theorem rw_225_128 : mm_code 224 128 = some (.getfield 196, 3, 11, 9, [0, 61]) := rfl
theorem rw_225_131 : mm_code 224 131 = some (.istore_n 1, 1, 0, 0, []) := rfl
theorem rw_225_132 : mm_code 224 132 = some (.aload_n 0, 1, 0, 0, []) := rfl
theorem rw_225_133 : mm_code 224 133 = some (.getfield 176, 3, 11, 10, [0, 55]) := rfl
theorem rw_225_136 : mm_code 224 136 = some (.istore_n 2, 1, 0, 0, []) := rfl
theorem rw_225_137 : mm_code 224 137 = some (.aload_n 0, 1, 0, 0, []) := rfl
theorem rw_225_138 : mm_code 224 138 = some (.invokevirtual 211, 3, 155, 1, [66, 0]) := rfl
theorem rw_225_141 : mm_code 224 141 = some (.aload_n 0, 1, 0, 0, []) := rfl
theorem rw_225_142 : mm_code 224 142 = some (.bipush 61, 2, 61, 0, []) := rfl
theorem rw_225_144 : mm_code 224 144 = some (.invokevirtual 205, 3, 158, 2, [64, 0]) := rfl
theorem rw_225_147 : mm_code 224 147 = some (.istore_n 3, 1, 0, 0, []) := rfl
theorem rw_225_148 : mm_code 224 148 = some (.aload_n 0, 1, 0, 0, []) := rfl
theorem rw_225_149 : mm_code 224 149 = some (.iload_n 1, 1, 0, 0, []) := rfl
theorem rw_225_150 : mm_code 224 150 = some (.invokevirtual 290, 3, 174, 2, [90, 0]) := rfl
theorem rw_225_153 : mm_code 224 153 = some (.istore 4, 2, 0, 0, []) := rfl
theorem rw_225_155 : mm_code 224 155 = some (.aload_n 0, 1, 0, 0, []) := rfl
theorem rw_225_156 : mm_code 224 156 = some (.iload_n 1, 1, 0, 0, []) := rfl
theorem rw_225_157 : mm_code 224 157 = some (.invokevirtual 293, 3, 175, 2, [91, 0]) := rfl
theorem rw_225_160 : mm_code 224 160 = some (.istore 5, 2, 0, 0, []) := rfl
theorem rw_225_162 : mm_code 224 162 = some (.iload_n 3, 1, 0, 0, []) := rfl
theorem rw_225_163 : mm_code 224 163 = some (.ifCond .eq 15, 3, 178, 0, []) := rfl
theorem rw_225_166 : mm_code 224 166 = some (.aload_n 0, 1, 0, 0, []) := rfl
theorem rw_225_167 : mm_code 224 167 = some (.iload 4, 2, 0, 0, []) := rfl
theorem rw_225_169 : mm_code 224 169 = some (.invokevirtual 302, 3, 178, 2, [94, 0]) := rfl
theorem rw_225_172 : mm_code 224 172 = some (.ifCond .ne 22, 3, 194, 0, []) := rfl
theorem rw_225_175 : mm_code 224 175 = some (.goto 8, 3, 183, 0, []) := rfl
theorem rw_225_178 : mm_code 224 178 = some (.iload 5, 2, 0, 0, []) := rfl
theorem rw_225_180 : mm_code 224 180 = some (.ifCond .ge 14, 3, 194, 0, []) := rfl
theorem rw_225_183 : mm_code 224 183 = some (.aload_n 0, 1, 0, 0, []) := rfl
theorem rw_225_184 : mm_code 224 184 = some (.iload_n 2, 1, 0, 0, []) := rfl
theorem rw_225_185 : mm_code 224 185 = some (.putfield 176, 3, 11, 10, [0, 55]) := rfl
theorem rw_225_188 : mm_code 224 188 = some (.aload_n 0, 1, 0, 0, []) := rfl
theorem rw_225_189 : mm_code 224 189 = some (.iconst 4, 1, 4, 0, []) := rfl
theorem rw_225_190 : mm_code 224 190 = some (.invokevirtual 208, 3, 151, 2, [65, 0]) := rfl
theorem rw_225_193 : mm_code 224 193 = some (.ireturn, 1, 1, 0, []) := rfl
theorem rw_225_194 : mm_code 224 194 = some (.aload_n 0, 1, 0, 0, []) := rfl
theorem rw_225_195 : mm_code 224 195 = some (.iconst 1, 1, 1, 0, []) := rfl
theorem rw_225_196 : mm_code 224 196 = some (.putfield 425, 3, 11, 68, [0, 134]) := rfl
theorem rw_225_199 : mm_code 224 199 = some (.iload_n 3, 1, 0, 0, []) := rfl
theorem rw_225_200 : mm_code 224 200 = some (.ifCond .ne 13, 3, 213, 0, []) := rfl
theorem rw_225_203 : mm_code 224 203 = some (.aload_n 0, 1, 0, 0, []) := rfl
theorem rw_225_204 : mm_code 224 204 = some (.iconst 1, 1, 1, 0, []) := rfl
theorem rw_225_205 : mm_code 224 205 = some (.iload 5, 2, 0, 0, []) := rfl
theorem rw_225_207 : mm_code 224 207 = some (.iconst 0, 1, 0, 0, []) := rfl
theorem rw_225_208 : mm_code 224 208 = some (.invokevirtual 412, 3, 220, 4, [130, 0]) := rfl
theorem rw_225_211 : mm_code 224 211 = some (.iconst 1, 1, 1, 0, []) := rfl
theorem rw_225_212 : mm_code 224 212 = some (.ireturn, 1, 1, 0, []) := rfl
theorem rw_225_213 : mm_code 224 213 = some (.aload_n 0, 1, 0, 0, []) := rfl
theorem rw_225_214 : mm_code 224 214 = some (.invokevirtual 211, 3, 155, 1, [66, 0]) := rfl
theorem rw_225_217 : mm_code 224 217 = some (.aload_n 0, 1, 0, 0, []) := rfl
theorem rw_225_218 : mm_code 224 218 = some (.iconst 0, 1, 0, 0, []) := rfl
theorem rw_225_219 : mm_code 224 219 = some (.aload_n 0, 1, 0, 0, []) := rfl
theorem rw_225_220 : mm_code 224 220 = some (.getfield 32, 3, 11, 21, [3, 8]) := rfl
theorem rw_225_223 : mm_code 224 223 = some (.iload 4, 2, 0, 0, []) := rfl
theorem rw_225_225 : mm_code 224 225 = some (.iaload, 1, 0, 0, []) := rfl
theorem rw_225_226 : mm_code 224 226 = some (.iconst 1, 1, 1, 0, []) := rfl
theorem rw_225_227 : mm_code 224 227 = some (.isub, 1, 0, 0, []) := rfl
theorem rw_225_228 : mm_code 224 228 = some (.invokevirtual 266, 3, 161, 3, [83, 0]) := rfl
theorem rw_225_231 : mm_code 224 231 = some (.ifCond .ne 5, 3, 236, 0, []) := rfl
theorem rw_225_234 : mm_code 224 234 = some (.iconst 0, 1, 0, 0, []) := rfl
theorem rw_225_235 : mm_code 224 235 = some (.ireturn, 1, 1, 0, []) := rfl
theorem rw_225_236 : mm_code 224 236 = some (.aload_n 0, 1, 0, 0, []) := rfl
theorem rw_225_237 : mm_code 224 237 = some (.iconst 0, 1, 0, 0, []) := rfl
theorem rw_225_238 : mm_code 224 238 = some (.iload 4, 2, 0, 0, []) := rfl
theorem rw_225_240 : mm_code 224 240 = some (.aload_n 0, 1, 0, 0, []) := rfl
theorem rw_225_241 : mm_code 224 241 = some (.getfield 196, 3, 11, 9, [0, 61]) := rfl
theorem rw_225_244 : mm_code 224 244 = some (.invokevirtual 412, 3, 220, 4, [130, 0]) := rfl
theorem rw_225_247 : mm_code 224 247 = some (.aload_n 0, 1, 0, 0, []) := rfl
theorem rw_225_248 : mm_code 224 248 = some (.invokevirtual 211, 3, 155, 1, [66, 0]) := rfl
theorem rw_225_251 : mm_code 224 251 = some (.iconst 1, 1, 1, 0, []) := rfl
theorem rw_225_252 : mm_code 224 252 = some (.ireturn, 1, 1, 0, []) := rfl
theorem rw_226_0 : mm_code 225 0 = some (.aload_n 0, 1, 0, 0, []) := rfl
theorem rw_226_1 : mm_code 225 1 = some (.bipush 12, 2, 12, 0, []) := rfl
theorem rw_226_3 : mm_code 225 3 = some (.invokevirtual 214, 3, 157, 2, [67, 0]) := rfl
theorem rw_226_6 : mm_code 225 6 = some (.ifCond .ne 12, 3, 18, 0, []) := rfl
theorem rw_226_9 : mm_code 225 9 = some (.aload_n 0, 1, 0, 0, []) := rfl
theorem rw_226_10 : mm_code 225 10 = some (.bipush 13, 2, 13, 0, []) := rfl
theorem rw_226_12 : mm_code 225 12 = some (.invokevirtual 214, 3, 157, 2, [67, 0]) := rfl
theorem rw_226_15 : mm_code 225 15 = some (.ifCond .eq 67, 3, 82, 0, []) := rfl
theorem rw_226_18 : mm_code 225 18 = some (.aload_n 0, 1, 0, 0, []) := rfl
theorem rw_226_19 : mm_code 225 19 = some (.getfield 196, 3, 11, 9, [0, 61]) := rfl
theorem rw_226_22 : mm_code 225 22 = some (.bipush 12, 2, 12, 0, []) := rfl
theorem rw_226_24 : mm_code 225 24 = some (.if_icmp .ne 7, 3, 31, 0, []) := rfl
theorem rw_226_27 : mm_code 225 27 = some (.iconst 3, 1, 3, 0, []) := rfl
theorem rw_226_28 : mm_code 225 28 = some (.goto 4, 3, 32, 0, []) := rfl
theorem rw_226_31 : mm_code 225 31 = some (.iconst 4, 1, 4, 0, []) := rfl
theorem rw_226_32 : mm_code 225 32 = some (.istore_n 1, 1, 0, 0, []) := rfl
theorem rw_226_33 : mm_code 225 33 = some (.aload_n 0, 1, 0, 0, []) := rfl
theorem rw_226_34 : mm_code 225 34 = some (.invokevirtual 422, 3, 223, 1, [133, 0]) := rfl
theorem rw_226_37 : mm_code 225 37 = some (.ifCond .ne 5, 3, 42, 0, []) := rfl
theorem rw_226_40 : mm_code 225 40 = some (.iconst 0, 1, 0, 0, []) := rfl
theorem rw_226_41 : mm_code 225 41 = some (.ireturn, 1, 1, 0, []) := rfl
theorem rw_226_42 : mm_code 225 42 = some (.aload_n 0, 1, 0, 0, []) := rfl
theorem rw_226_43 : mm_code 225 43 = some (.aload_n 0, 1, 0, 0, []) := rfl
theorem rw_226_44 : mm_code 225 44 = some (.iload_n 1, 1, 0, 0, []) := rfl
theorem rw_226_45 : mm_code 225 45 = some (.invokevirtual 406, 3, 219, 2, [128, 0]) := rfl
theorem rw_226_48 : mm_code 225 48 = some (.invokevirtual 428, 3, 222, 2, [135, 0]) := rfl
theorem rw_226_51 : mm_code 225 51 = some (.aload_n 0, 1, 0, 0, []) := rfl
theorem rw_226_52 : mm_code 225 52 = some (.getfield 127, 3, 11, 63, [3, 39]) := rfl
theorem rw_226_55 : mm_code 225 55 = some (.aload_n 0, 1, 0, 0, []) := rfl
theorem rw_226_56 : mm_code 225 56 = some (.getfield 403, 3, 11, 65, [0, 127]) := rfl
theorem rw_226_59 : mm_code 225 59 = some (.iload_n 1, 1, 0, 0, []) := rfl
theorem rw_226_60 : mm_code 225 60 = some (.iastore, 1, 0, 0, []) := rfl
theorem rw_226_61 : mm_code 225 61 = some (.aload_n 0, 1, 0, 0, []) := rfl
theorem rw_226_62 : mm_code 225 62 = some (.dup, 1, 0, 0, []) := rfl
theorem rw_226_63 : mm_code 225 63 = some (.getfield 403, 3, 11, 65, [0, 127]) := rfl
theorem rw_226_66 : mm_code 225 66 = some (.iconst 1, 1, 1, 0, []) := rfl
theorem rw_226_67 : mm_code 225 67 = some (.iadd, 1, 0, 0, []) := rfl
theorem rw_226_68 : mm_code 225 68 = some (.putfield 403, 3, 11, 65, [0, 127]) := rfl
theorem rw_226_71 : mm_code 225 71 = some (.aload_n 0, 1, 0, 0, []) := rfl
theorem rw_226_72 : mm_code 225 72 = some (.iconst 0, 1, 0, 0, []) := rfl
theorem rw_226_73 : mm_code 225 73 = some (.putfield 425, 3, 11, 68, [0, 134]) := rfl
theorem rw_226_76 : mm_code 225 76 = some (.aload_n 0, 1, 0, 0, []) := rfl
theorem rw_226_77 : mm_code 225 77 = some (.invokevirtual 211, 3, 155, 1, [66, 0]) := rfl
theorem rw_226_80 : mm_code 225 80 = some (.iconst 1, 1, 1, 0, []) := rfl
theorem rw_226_81 : mm_code 225 81 = some (.ireturn, 1, 1, 0, []) := rfl
theorem rw_226_82 : mm_code 225 82 = some (.aload_n 0, 1, 0, 0, []) := rfl
theorem rw_226_83 : mm_code 225 83 = some (.bipush 41, 2, 41, 0, []) := rfl
theorem rw_226_85 : mm_code 225 85 = some (.invokevirtual 205, 3, 158, 2, [64, 0]) := rfl
theorem rw_226_88 : mm_code 225 88 = some (.ifCond .eq 10, 3, 98, 0, []) := rfl
theorem rw_226_91 : mm_code 225 91 = some (.aload_n 0, 1, 0, 0, []) := rfl
theorem rw_226_92 : mm_code 225 92 = some (.getfield 419, 3, 11, 67, [0, 132]) := rfl
theorem rw_226_95 : mm_code 225 95 = some (.ifCond .ne 9, 3, 104, 0, []) := rfl
theorem rw_226_98 : mm_code 225 98 = some (.aload_n 0, 1, 0, 0, []) := rfl
theorem rw_226_99 : mm_code 225 99 = some (.iconst 1, 1, 1, 0, []) := rfl
theorem rw_226_100 : mm_code 225 100 = some (.invokevirtual 208, 3, 151, 2, [65, 0]) := rfl
theorem rw_226_103 : mm_code 225 103 = some (.ireturn, 1, 1, 0, []) := rfl
theorem rw_226_104 : mm_code 225 104 = some (.aload_n 0, 1, 0, 0, []) := rfl
theorem rw_226_105 : mm_code 225 105 = some (.iconst 1, 1, 1, 0, []) := rfl
theorem rw_226_106 : mm_code 225 106 = some (.invokevirtual 428, 3, 222, 2, [135, 0]) := rfl
theorem rw_226_109 : mm_code 225 109 = some (.aload_n 0, 1, 0, 0, []) := rfl
theorem rw_226_110 : mm_code 225 110 = some (.dup, 1, 0, 0, []) := rfl
theorem rw_226_111 : mm_code 225 111 = some (.getfield 403, 3, 11, 65, [0, 127]) := rfl
theorem rw_226_114 : mm_code 225 114 = some (.iconst 1, 1, 1, 0, []) := rfl
theorem rw_226_115 : mm_code 225 115 = some (.isub, 1, 0, 0, []) := rfl
theorem rw_226_116 : mm_code 225 116 = some (.putfield 403, 3, 11, 65, [0, 127]) := rfl
theorem rw_226_119 : mm_code 225 119 = some (.aload_n 0, 1, 0, 0, []) := rfl
theorem rw_226_120 : mm_code 225 120 = some (.dup, 1, 0, 0, []) := rfl
theorem rw_226_121 : mm_code 225 121 = some (.getfield 419, 3, 11, 67, [0, 132]) := rfl
theorem rw_226_124 : mm_code 225 124 = some (.iconst 1, 1, 1, 0, []) := rfl
theorem rw_226_125 : mm_code 225 125 = some (.isub, 1, 0, 0, []) := rfl
theorem rw_226_126 : mm_code 225 126 = some (.putfield 419, 3, 11, 67, [0, 132]) := rfl
theorem rw_226_129 : mm_code 225 129 = some (.aload_n 0, 1, 0, 0, []) := rfl
theorem rw_226_130 : mm_code 225 130 = some (.invokevirtual 211, 3, 155, 1, [66, 0]) := rfl
theorem rw_226_133 : mm_code 225 133 = some (.iconst 1, 1, 1, 0, []) := rfl
theorem rw_226_134 : mm_code 225 134 = some (.ireturn, 1, 1, 0, []) := rfl
theorem rw_227_0 : mm_code 226 0 = some (.aload_n 0, 1, 0, 0, []) := rfl
theorem rw_227_1 : mm_code 226 1 = some (.iconst 0, 1, 0, 0, []) := rfl
theorem rw_227_2 : mm_code 226 2 = some (.putfield 163, 3, 11, 2, [0, 51]) := rfl
theorem rw_227_5 : mm_code 226 5 = some (.aload_n 0, 1, 0, 0, []) := rfl
theorem rw_227_6 : mm_code 226 6 = some (.iload_n 1, 1, 0, 0, []) := rfl
theorem rw_227_7 : mm_code 226 7 = some (.invokevirtual 283, 3, 162, 2, [88, 0]) := rfl
theorem rw_227_10 : mm_code 226 10 = some (.ifCond .ne 6, 3, 16, 0, []) := rfl
theorem rw_227_13 : mm_code 226 13 = some (.bipush (-2), 2, 2, 1, []) := rfl
theorem rw_227_15 : mm_code 226 15 = some (.ireturn, 1, 0, 0, []) := rfl
theorem rw_227_16 : mm_code 226 16 = some (.aload_n 0, 1, 0, 0, []) := rfl
theorem rw_227_17 : mm_code 226 17 = some (.iconst 0, 1, 0, 0, []) := rfl
theorem rw_227_18 : mm_code 226 18 = some (.putfield 397, 3, 11, 59, [0, 125]) := rfl
theorem rw_227_21 : mm_code 226 21 = some (.aload_n 0, 1, 0, 0, []) := rfl
theorem rw_227_22 : mm_code 226 22 = some (.iconst 0, 1, 0, 0, []) := rfl
theorem rw_227_23 : mm_code 226 23 = some (.putfield 416, 3, 11, 69, [0, 131]) := rfl
theorem rw_227_26 : mm_code 226 26 = some (.aload_n 0, 1, 0, 0, []) := rfl
theorem rw_227_27 : mm_code 226 27 = some (.iconst 0, 1, 0, 0, []) := rfl
theorem rw_227_28 : mm_code 226 28 = some (.putfield 403, 3, 11, 65, [0, 127]) := rfl
theorem rw_227_31 : mm_code 226 31 = some (.aload_n 0, 1, 0, 0, []) := rfl
theorem rw_227_32 : mm_code 226 32 = some (.iconst 0, 1, 0, 0, []) := rfl
theorem rw_227_33 : mm_code 226 33 = some (.putfield 400, 3, 11, 66, [0, 126]) := rfl
theorem rw_227_36 : mm_code 226 36 = some (.aload_n 0, 1, 0, 0, []) := rfl
theorem rw_227_37 : mm_code 226 37 = some (.iconst 0, 1, 0, 0, []) := rfl
theorem rw_227_38 : mm_code 226 38 = some (.putfield 419, 3, 11, 67, [0, 132]) := rfl
theorem rw_227_41 : mm_code 226 41 = some (.aload_n 0, 1, 0, 0, []) := rfl
theorem rw_227_42 : mm_code 226 42 = some (.iconst 0, 1, 0, 0, []) := rfl
theorem rw_227_43 : mm_code 226 43 = some (.putfield 425, 3, 11, 68, [0, 134]) := rfl
theorem rw_227_46 : mm_code 226 46 = some (.aload_n 0, 1, 0, 0, []) := rfl
theorem rw_227_47 : mm_code 226 47 = some (.getfield 185, 3, 11, 8, [0, 58]) := rfl
theorem rw_227_50 : mm_code 226 50 = some (.ifCond .ne 17, 3, 67, 0, []) := rfl
theorem rw_227_53 : mm_code 226 53 = some (.aload_n 0, 1, 0, 0, []) := rfl
theorem rw_227_54 : mm_code 226 54 = some (.getfield 425, 3, 11, 68, [0, 134]) := rfl
theorem rw_227_57 : mm_code 226 57 = some (.ifCond .eq 10, 3, 67, 0, []) := rfl
theorem rw_227_60 : mm_code 226 60 = some (.aload_n 0, 1, 0, 0, []) := rfl
theorem rw_227_61 : mm_code 226 61 = some (.getfield 419, 3, 11, 67, [0, 132]) := rfl
theorem rw_227_64 : mm_code 226 64 = some (.ifCond .le 29, 3, 93, 0, []) := rfl
theorem rw_227_67 : mm_code 226 67 = some (.aload_n 0, 1, 0, 0, []) := rfl
theorem rw_227_68 : mm_code 226 68 = some (.getfield 425, 3, 11, 68, [0, 134]) := rfl
theorem rw_227_71 : mm_code 226 71 = some (.ifCond .ne 13, 3, 84, 0, []) := rfl
theorem rw_227_74 : mm_code 226 74 = some (.aload_n 0, 1, 0, 0, []) := rfl
theorem rw_227_75 : mm_code 226 75 = some (.invokevirtual 431, 3, 224, 1, [136, 0]) := rfl
theorem rw_227_78 : mm_code 226 78 = some (.ifCond .eq 13, 3, 91, 0, []) := rfl
theorem rw_227_81 : mm_code 226 81 = some (.goto (-35), 3, 46, 0, []) := rfl
theorem rw_227_84 : mm_code 226 84 = some (.aload_n 0, 1, 0, 0, []) := rfl
theorem rw_227_85 : mm_code 226 85 = some (.invokevirtual 434, 3, 225, 1, [137, 0]) := rfl
theorem rw_227_88 : mm_code 226 88 = some (.ifCond .ne (-42), 3, 46, 0, []) := rfl
theorem rw_227_91 : mm_code 226 91 = some (.iconst (-1), 1, 1, 1, []) := rfl
theorem rw_227_92 : mm_code 226 92 = some (.ireturn, 1, 0, 0, []) := rfl
theorem rw_227_93 : mm_code 226 93 = some (.aload_n 0, 1, 0, 0, []) := rfl
theorem rw_227_94 : mm_code 226 94 = some (.iconst 1, 1, 1, 0, []) := rfl
theorem rw_227_95 : mm_code 226 95 = some (.invokevirtual 428, 3, 222, 2, [135, 0]) := rfl
theorem rw_227_98 : mm_code 226 98 = some (.aload_n 0, 1, 0, 0, []) := rfl
theorem rw_227_99 : mm_code 226 99 = some (.aload_n 0, 1, 0, 0, []) := rfl
theorem rw_227_100 : mm_code 226 100 = some (.getfield 397, 3, 11, 59, [0, 125]) := rfl
theorem rw_227_103 : mm_code 226 103 = some (.putfield 245, 3, 11, 58, [0, 77]) := rfl
theorem rw_227_106 : mm_code 226 106 = some (.aload_n 0, 1, 0, 0, []) := rfl
theorem rw_227_107 : mm_code 226 107 = some (.iconst 1, 1, 1, 0, []) := rfl
theorem rw_227_108 : mm_code 226 108 = some (.putfield 248, 3, 11, 57, [1, 78]) := rfl
theorem rw_227_111 : mm_code 226 111 = some (.iconst 0, 1, 0, 0, []) := rfl
theorem rw_227_112 : mm_code 226 112 = some (.istore_n 2, 1, 0, 0, []) := rfl
theorem rw_227_113 : mm_code 226 113 = some (.iload_n 2, 1, 0, 0, []) := rfl
theorem rw_227_114 : mm_code 226 114 = some (.aload_n 0, 1, 0, 0, []) := rfl
theorem rw_227_115 : mm_code 226 115 = some (.getfield 245, 3, 11, 58, [0, 77]) := rfl
theorem rw_227_118 : mm_code 226 118 = some (.if_icmp .ge 54, 3, 172, 0, []) := rfl
theorem rw_227_121 : mm_code 226 121 = some (.aload_n 0, 1, 0, 0, []) := rfl
theorem rw_227_122 : mm_code 226 122 = some (.getfield 118, 3, 11, 60, [3, 36]) := rfl
theorem rw_227_125 : mm_code 226 125 = some (.iload_n 2, 1, 0, 0, []) := rfl
theorem rw_227_126 : mm_code 226 126 = some (.aload_n 0, 1, 0, 0, []) := rfl
theorem rw_227_127 : mm_code 226 127 = some (.getfield 118, 3, 11, 60, [3, 36]) := rfl
theorem rw_227_130 : mm_code 226 130 = some (.bipush 40, 2, 40, 0, []) := rfl
theorem rw_227_132 : mm_code 226 132 = some (.iload_n 2, 1, 0, 0, []) := rfl
theorem rw_227_133 : mm_code 226 133 = some (.iadd, 1, 0, 0, []) := rfl
theorem rw_227_134 : mm_code 226 134 = some (.iaload, 1, 0, 0, []) := rfl
theorem rw_227_135 : mm_code 226 135 = some (.iastore, 1, 0, 0, []) := rfl
theorem rw_227_136 : mm_code 226 136 = some (.aload_n 0, 1, 0, 0, []) := rfl
theorem rw_227_137 : mm_code 226 137 = some (.getfield 121, 3, 11, 61, [3, 37]) := rfl
theorem rw_227_140 : mm_code 226 140 = some (.iload_n 2, 1, 0, 0, []) := rfl
theorem rw_227_141 : mm_code 226 141 = some (.aload_n 0, 1, 0, 0, []) := rfl
theorem rw_227_142 : mm_code 226 142 = some (.getfield 121, 3, 11, 61, [3, 37]) := rfl
theorem rw_227_145 : mm_code 226 145 = some (.bipush 40, 2, 40, 0, []) := rfl
theorem rw_227_147 : mm_code 226 147 = some (.iload_n 2, 1, 0, 0, []) := rfl
theorem rw_227_148 : mm_code 226 148 = some (.iadd, 1, 0, 0, []) := rfl
theorem rw_227_149 : mm_code 226 149 = some (.iaload, 1, 0, 0, []) := rfl
theorem rw_227_150 : mm_code 226 150 = some (.iastore, 1, 0, 0, []) := rfl
theorem rw_227_151 : mm_code 226 151 = some (.aload_n 0, 1, 0, 0, []) := rfl
theorem rw_227_152 : mm_code 226 152 = some (.getfield 124, 3, 11, 62, [3, 38]) := rfl
theorem rw_227_155 : mm_code 226 155 = some (.iload_n 2, 1, 0, 0, []) := rfl
theorem rw_227_156 : mm_code 226 156 = some (.aload_n 0, 1, 0, 0, []) := rfl
theorem rw_227_157 : mm_code 226 157 = some (.getfield 124, 3, 11, 62, [3, 38]) := rfl
theorem rw_227_160 : mm_code 226 160 = some (.bipush 40, 2, 40, 0, []) := rfl
theorem rw_227_162 : mm_code 226 162 = some (.iload_n 2, 1, 0, 0, []) := rfl
theorem rw_227_163 : mm_code 226 163 = some (.iadd, 1, 0, 0, []) := rfl
theorem rw_227_164 : mm_code 226 164 = some (.iaload, 1, 0, 0, []) := rfl
theorem rw_227_165 : mm_code 226 165 = some (.iastore, 1, 0, 0, []) := rfl
theorem rw_227_166 : mm_code 226 166 = some (.iinc 2 1, 3, 1, 0, []) := rfl
theorem rw_227_169 : mm_code 226 169 = some (.goto (-56), 3, 113, 0, []) := rfl
theorem rw_227_172 : mm_code 226 172 = some (.aload_n 0, 1, 0, 0, []) := rfl
theorem rw_227_173 : mm_code 226 173 = some (.getfield 245, 3, 11, 58, [0, 77]) := rfl
theorem rw_227_176 : mm_code 226 176 = some (.ireturn, 1, 0, 0, []) := rfl
theorem rw_228_0 : mm_code 227 0 = some (.iconst 0, 1, 0, 0, []) := rfl
theorem rw_228_1 : mm_code 227 1 = some (.istore_n 3, 1, 0, 0, []) := rfl
theorem rw_228_2 : mm_code 227 2 = some (.iload_n 3, 1, 0, 0, []) := rfl
theorem rw_228_3 : mm_code 227 3 = some (.aload_n 0, 1, 0, 0, []) := rfl
theorem rw_228_4 : mm_code 227 4 = some (.getfield 245, 3, 11, 58, [0, 77]) := rfl
theorem rw_228_7 : mm_code 227 7 = some (.if_icmp .ge 283, 3, 290, 0, []) := rfl
theorem rw_228_10 : mm_code 227 10 = some (.aload_n 0, 1, 0, 0, []) := rfl
theorem rw_228_11 : mm_code 227 11 = some (.getfield 121, 3, 11, 61, [3, 37]) := rfl
theorem rw_228_14 : mm_code 227 14 = some (.iload_n 3, 1, 0, 0, []) := rfl
theorem rw_228_15 : mm_code 227 15 = some (.iaload, 1, 0, 0, []) := rfl
theorem rw_228_16 : mm_code 227 16 = some (.istore 4, 2, 0, 0, []) := rfl
theorem rw_228_18 : mm_code 227 18 = some (.aload_n 0, 1, 0, 0, []) := rfl
theorem rw_228_19 : mm_code 227 19 = some (.getfield 124, 3, 11, 62, [3, 38]) := rfl
theorem rw_228_22 : mm_code 227 22 = some (.iload_n 3, 1, 0, 0, []) := rfl
theorem rw_228_23 : mm_code 227 23 = some (.iaload, 1, 0, 0, []) := rfl
theorem rw_228_24 : mm_code 227 24 = some (.istore 5, 2, 0, 0, []) := rfl
theorem rw_228_26 : mm_code 227 26 = some (.aload_n 0, 1, 0, 0, []) := rfl
theorem rw_228_27 : mm_code 227 27 = some (.getfield 118, 3, 11, 60, [3, 36]) := rfl
theorem rw_228_30 : mm_code 227 30 = some (.iload_n 3, 1, 0, 0, []) := rfl
theorem rw_228_31 : mm_code 227 31 = some (.iaload, 1, 0, 0, []) := rfl
theorem rw_228_32 : mm_code 227 32 = some (.tableswitch 221 0 3 #[32, 99, 163, 187], 32, 253, 0, [64, 131, 195, 219]) := rfl
theorem rw_228_64 : mm_code 227 64 = some (.aload_n 0, 1, 0, 0, []) := rfl
theorem rw_228_65 : mm_code 227 65 = some (.getfield 133, 3, 11, 70, [3, 41]) := rfl
theorem rw_228_68 : mm_code 227 68 = some (.iload_n 3, 1, 0, 0, []) := rfl
theorem rw_228_69 : mm_code 227 69 = some (.iload_n 2, 1, 0, 0, []) := rfl
theorem rw_228_70 : mm_code 227 70 = some (.ifCond .eq 28, 3, 98, 0, []) := rfl
theorem rw_228_73 : mm_code 227 73 = some (.aload_n 0, 1, 0, 0, []) := rfl
theorem rw_228_74 : mm_code 227 74 = some (.getfield 73, 3, 11, 37, [3, 21]) := rfl
theorem rw_228_77 : mm_code 227 77 = some (.bipush 8, 2, 8, 0, []) := rfl
theorem rw_228_79 : mm_code 227 79 = some (.iload_n 1, 1, 0, 0, []) := rfl
theorem rw_228_80 : mm_code 227 80 = some (.imul, 1, 0, 0, []) := rfl
theorem rw_228_81 : mm_code 227 81 = some (.iload 4, 2, 0, 0, []) := rfl
theorem rw_228_83 : mm_code 227 83 = some (.iadd, 1, 0, 0, []) := rfl
theorem rw_228_84 : mm_code 227 84 = some (.iaload, 1, 0, 0, []) := rfl
theorem rw_228_85 : mm_code 227 85 = some (.iload 5, 2, 0, 0, []) := rfl
theorem rw_228_87 : mm_code 227 87 = some (.if_icmp .ne 7, 3, 94, 0, []) := rfl
theorem rw_228_90 : mm_code 227 90 = some (.iconst 1, 1, 1, 0, []) := rfl
theorem rw_228_91 : mm_code 227 91 = some (.goto 36, 3, 127, 0, []) := rfl
theorem rw_228_94 : mm_code 227 94 = some (.iconst 0, 1, 0, 0, []) := rfl
theorem rw_228_95 : mm_code 227 95 = some (.goto 32, 3, 127, 0, []) := rfl
theorem rw_228_98 : mm_code 227 98 = some (.aload_n 0, 1, 0, 0, []) := rfl
theorem rw_228_99 : mm_code 227 99 = some (.iload 4, 2, 0, 0, []) := rfl
theorem rw_228_101 : mm_code 227 101 = some (.iload 5, 2, 0, 0, []) := rfl
theorem rw_228_103 : mm_code 227 103 = some (.invokevirtual 308, 3, 182, 3, [96, 0]) := rfl
theorem rw_228_106 : mm_code 227 106 = some (.aload_n 0, 1, 0, 0, []) := rfl
theorem rw_228_107 : mm_code 227 107 = some (.getfield 70, 3, 11, 36, [3, 20]) := rfl
theorem rw_228_110 : mm_code 227 110 = some (.iload_n 1, 1, 0, 0, []) := rfl
theorem rw_228_111 : mm_code 227 111 = some (.laload, 1, 0, 0, []) := rfl
theorem rw_228_112 : mm_code 227 112 = some (.ldc2_w 315, 3, 1, 1, [98]) := rfl
theorem rw_228_115 : mm_code 227 115 = some (.lxor, 1, 0, 0, []) := rfl
theorem rw_228_116 : mm_code 227 116 = some (.land, 1, 0, 0, []) := rfl
theorem rw_228_117 : mm_code 227 117 = some (.lconst 0, 1, 0, 0, []) := rfl
theorem rw_228_118 : mm_code 227 118 = some (.lcmp, 1, 0, 0, []) := rfl
theorem rw_228_119 : mm_code 227 119 = some (.ifCond .ne 7, 3, 126, 0, []) := rfl
theorem rw_228_122 : mm_code 227 122 = some (.iconst 1, 1, 1, 0, []) := rfl
theorem rw_228_123 : mm_code 227 123 = some (.goto 4, 3, 127, 0, []) := rfl
theorem rw_228_126 : mm_code 227 126 = some (.iconst 0, 1, 0, 0, []) := rfl
theorem rw_228_127 : mm_code 227 127 = some (.bastore, 1, 0, 0, []) := rfl
theorem rw_228_128 : mm_code 227 128 = some (.goto 156, 3, 284, 0, []) := rfl
theorem rw_228_131 : mm_code 227 131 = some (.aload_n 0, 1, 0, 0, []) := rfl
theorem rw_228_132 : mm_code 227 132 = some (.getfield 133, 3, 11, 70, [3, 41]) := rfl
theorem rw_228_135 : mm_code 227 135 = some (.iload_n 3, 1, 0, 0, []) := rfl
theorem rw_228_136 : mm_code 227 136 = some (.iload_n 2, 1, 0, 0, []) := rfl
theorem rw_228_137 : mm_code 227 137 = some (.ifCond .eq 26, 3, 163, 0, []) := rfl
theorem rw_228_140 : mm_code 227 140 = some (.aload_n 0, 1, 0, 0, []) := rfl
theorem rw_228_141 : mm_code 227 141 = some (.getfield 76, 3, 11, 38, [3, 22]) := rfl
theorem rw_228_144 : mm_code 227 144 = some (.iload_n 1, 1, 0, 0, []) := rfl
theorem rw_228_145 : mm_code 227 145 = some (.iaload, 1, 0, 0, []) := rfl
theorem rw_228_146 : mm_code 227 146 = some (.iload 4, 2, 0, 0, []) := rfl
theorem rw_228_148 : mm_code 227 148 = some (.ishr, 1, 0, 0, []) := rfl
theorem rw_228_149 : mm_code 227 149 = some (.iconst 1, 1, 1, 0, []) := rfl
theorem rw_228_150 : mm_code 227 150 = some (.iand, 1, 0, 0, []) := rfl
theorem rw_228_151 : mm_code 227 151 = some (.iconst 1, 1, 1, 0, []) := rfl
theorem rw_228_152 : mm_code 227 152 = some (.if_icmp .ne 7, 3, 159, 0, []) := rfl
theorem rw_228_155 : mm_code 227 155 = some (.iconst 1, 1, 1, 0, []) := rfl
theorem rw_228_156 : mm_code 227 156 = some (.goto 35, 3, 191, 0, []) := rfl
theorem rw_228_159 : mm_code 227 159 = some (.iconst 0, 1, 0, 0, []) := rfl
theorem rw_228_160 : mm_code 227 160 = some (.goto 31, 3, 191, 0, []) := rfl
theorem rw_228_163 : mm_code 227 163 = some (.aload_n 0, 1, 0, 0, []) := rfl
theorem rw_228_164 : mm_code 227 164 = some (.getfield 67, 3, 11, 35, [3, 19]) := rfl
theorem rw_228_167 : mm_code 227 167 = some (.iload 4, 2, 0, 0, []) := rfl
theorem rw_228_169 : mm_code 227 169 = some (.laload, 1, 0, 0, []) := rfl
theorem rw_228_170 : mm_code 227 170 = some (.aload_n 0, 1, 0, 0, []) := rfl
theorem rw_228_171 : mm_code 227 171 = some (.getfield 70, 3, 11, 36, [3, 20]) := rfl
theorem rw_228_174 : mm_code 227 174 = some (.iload_n 1, 1, 0, 0, []) := rfl
theorem rw_228_175 : mm_code 227 175 = some (.laload, 1, 0, 0, []) := rfl
theorem rw_228_176 : mm_code 227 176 = some (.ldc2_w 315, 3, 1, 1, [98]) := rfl
theorem rw_228_179 : mm_code 227 179 = some (.lxor, 1, 0, 0, []) := rfl
theorem rw_228_180 : mm_code 227 180 = some (.land, 1, 0, 0, []) := rfl
theorem rw_228_181 : mm_code 227 181 = some (.lconst 0, 1, 0, 0, []) := rfl
theorem rw_228_182 : mm_code 227 182 = some (.lcmp, 1, 0, 0, []) := rfl
theorem rw_228_183 : mm_code 227 183 = some (.ifCond .ne 7, 3, 190, 0, []) := rfl
theorem rw_228_186 : mm_code 227 186 = some (.iconst 1, 1, 1, 0, []) := rfl
theorem rw_228_187 : mm_code 227 187 = some (.goto 4, 3, 191, 0, []) := rfl
theorem rw_228_190 : mm_code 227 190 = some (.iconst 0, 1, 0, 0, []) := rfl
theorem rw_228_191 : mm_code 227 191 = some (.bastore, 1, 0, 0, []) := rfl
theorem rw_228_192 : mm_code 227 192 = some (.goto 92, 3, 284, 0, []) := rfl
theorem rw_228_195 : mm_code 227 195 = some (.aload_n 0, 1, 0, 0, []) := rfl
theorem rw_228_196 : mm_code 227 196 = some (.getfield 133, 3, 11, 70, [3, 41]) := rfl
theorem rw_228_199 : mm_code 227 199 = some (.iload_n 3, 1, 0, 0, []) := rfl
theorem rw_228_200 : mm_code 227 200 = some (.aload_n 0, 1, 0, 0, []) := rfl
theorem rw_228_201 : mm_code 227 201 = some (.getfield 133, 3, 11, 70, [3, 41]) := rfl
theorem rw_228_204 : mm_code 227 204 = some (.iload 4, 2, 0, 0, []) := rfl
theorem rw_228_206 : mm_code 227 206 = some (.baload, 1, 0, 0, []) := rfl
theorem rw_228_207 : mm_code 227 207 = some (.ifCond .ne 7, 3, 214, 0, []) := rfl
theorem rw_228_210 : mm_code 227 210 = some (.iconst 1, 1, 1, 0, []) := rfl
theorem rw_228_211 : mm_code 227 211 = some (.goto 4, 3, 215, 0, []) := rfl
theorem rw_228_214 : mm_code 227 214 = some (.iconst 0, 1, 0, 0, []) := rfl
theorem rw_228_215 : mm_code 227 215 = some (.bastore, 1, 0, 0, []) := rfl
theorem rw_228_216 : mm_code 227 216 = some (.goto 68, 3, 284, 0, []) := rfl
theorem rw_228_219 : mm_code 227 219 = some (.aload_n 0, 1, 0, 0, []) := rfl
theorem rw_228_220 : mm_code 227 220 = some (.getfield 133, 3, 11, 70, [3, 41]) := rfl
theorem rw_228_223 : mm_code 227 223 = some (.iload_n 3, 1, 0, 0, []) := rfl
theorem rw_228_224 : mm_code 227 224 = some (.aload_n 0, 1, 0, 0, []) := rfl
theorem rw_228_225 : mm_code 227 225 = some (.getfield 133, 3, 11, 70, [3, 41]) := rfl
theorem rw_228_228 : mm_code 227 228 = some (.iload 4, 2, 0, 0, []) := rfl
theorem rw_228_230 : mm_code 227 230 = some (.baload, 1, 0, 0, []) := rfl
theorem rw_228_231 : mm_code 227 231 = some (.ifCond .eq 17, 3, 248, 0, []) := rfl
theorem rw_228_234 : mm_code 227 234 = some (.aload_n 0, 1, 0, 0, []) := rfl
theorem rw_228_235 : mm_code 227 235 = some (.getfield 133, 3, 11, 70, [3, 41]) := rfl
theorem rw_228_238 : mm_code 227 238 = some (.iload 5, 2, 0, 0, []) := rfl
theorem rw_228_240 : mm_code 227 240 = some (.baload, 1, 0, 0, []) := rfl
theorem rw_228_241 : mm_code 227 241 = some (.ifCond .eq 7, 3, 248, 0, []) := rfl
theorem rw_228_244 : mm_code 227 244 = some (.iconst 1, 1, 1, 0, []) := rfl
theorem rw_228_245 : mm_code 227 245 = some (.goto 4, 3, 249, 0, []) := rfl
theorem rw_228_248 : mm_code 227 248 = some (.iconst 0, 1, 0, 0, []) := rfl
theorem rw_228_249 : mm_code 227 249 = some (.bastore, 1, 0, 0, []) := rfl
theorem rw_228_250 : mm_code 227 250 = some (.goto 34, 3, 284, 0, []) := rfl
theorem rw_228_253 : mm_code 227 253 = some (.aload_n 0, 1, 0, 0, []) := rfl
theorem rw_228_254 : mm_code 227 254 = some (.getfield 133, 3, 11, 70, [3, 41]) := rfl
theorem rw_228_257 : mm_code 227 257 = some (.iload_n 3, 1, 0, 0, []) := rfl
theorem rw_228_258 : mm_code 227 258 = some (.aload_n 0, 1, 0, 0, []) := rfl
theorem rw_228_259 : mm_code 227 259 = some (.getfield 133, 3, 11, 70, [3, 41]) := rfl
theorem rw_228_262 : mm_code 227 262 = some (.iload 4, 2, 0, 0, []) := rfl
theorem rw_228_264 : mm_code 227 264 = some (.baload, 1, 0, 0, []) := rfl
theorem rw_228_265 : mm_code 227 265 = some (.ifCond .ne 13, 3, 278, 0, []) := rfl
theorem rw_228_268 : mm_code 227 268 = some (.aload_n 0, 1, 0, 0, []) := rfl
theorem rw_228_269 : mm_code 227 269 = some (.getfield 133, 3, 11, 70, [3, 41]) := rfl
theorem rw_228_272 : mm_code 227 272 = some (.iload 5, 2, 0, 0, []) := rfl
theorem rw_228_274 : mm_code 227 274 = some (.baload, 1, 0, 0, []) := rfl
theorem rw_228_275 : mm_code 227 275 = some (.ifCond .eq 7, 3, 282, 0, []) := rfl
theorem rw_228_278 : mm_code 227 278 = some (.iconst 1, 1, 1, 0, []) := rfl
theorem rw_228_279 : mm_code 227 279 = some (.goto 4, 3, 283, 0, []) := rfl
theorem rw_228_282 : mm_code 227 282 = some (.iconst 0, 1, 0, 0, []) := rfl
theorem rw_228_283 : mm_code 227 283 = some (.bastore, 1, 0, 0, []) := rfl
theorem rw_228_284 : mm_code 227 284 = some (.iinc 3 1, 3, 1, 0, []) := rfl
theorem rw_228_287 : mm_code 227 287 = some (.goto (-285), 3, 2, 0, []) := rfl
theorem rw_228_290 : mm_code 227 290 = some (.aload_n 0, 1, 0, 0, []) := rfl
theorem rw_228_291 : mm_code 227 291 = some (.getfield 133, 3, 11, 70, [3, 41]) := rfl
theorem rw_228_294 : mm_code 227 294 = some (.aload_n 0, 1, 0, 0, []) := rfl
theorem rw_228_295 : mm_code 227 295 = some (.getfield 245, 3, 11, 58, [0, 77]) := rfl
theorem rw_228_298 : mm_code 227 298 = some (.iconst 1, 1, 1, 0, []) := rfl
theorem rw_228_299 : mm_code 227 299 = some (.isub, 1, 0, 0, []) := rfl
theorem rw_228_300 : mm_code 227 300 = some (.baload, 1, 0, 0, []) := rfl
theorem rw_228_301 : mm_code 227 301 = some (.ireturn, 1, 1, 0, []) := rfl
theorem rw_229_0 : mm_code 228 0 = some (.aload_n 0, 1, 0, 0, []) := rfl
theorem rw_229_1 : mm_code 228 1 = some (.iconst 0, 1, 0, 0, []) := rfl
theorem rw_229_2 : mm_code 228 2 = some (.putfield 163, 3, 11, 2, [0, 51]) := rfl
theorem rw_229_5 : mm_code 228 5 = some (.aload_n 0, 1, 0, 0, []) := rfl
theorem rw_229_6 : mm_code 228 6 = some (.getfield 248, 3, 11, 57, [1, 78]) := rfl
theorem rw_229_9 : mm_code 228 9 = some (.ifCond .eq 20, 3, 29, 0, []) := rfl
theorem rw_229_12 : mm_code 228 12 = some (.aload_n 0, 1, 0, 0, []) := rfl
theorem rw_229_13 : mm_code 228 13 = some (.iload_n 1, 1, 0, 0, []) := rfl
theorem rw_229_14 : mm_code 228 14 = some (.invokevirtual 320, 3, 185, 2, [100, 0]) := rfl
theorem rw_229_17 : mm_code 228 17 = some (.ifCond .eq 12, 3, 29, 0, []) := rfl
theorem rw_229_20 : mm_code 228 20 = some (.iload_n 2, 1, 0, 0, []) := rfl
theorem rw_229_21 : mm_code 228 21 = some (.iconst 0, 1, 0, 0, []) := rfl
theorem rw_229_22 : mm_code 228 22 = some (.iconst 3, 1, 3, 0, []) := rfl
theorem rw_229_23 : mm_code 228 23 = some (.invokestatic 437, 3, 148, 3, [138, 0]) := rfl
theorem rw_229_26 : mm_code 228 26 = some (.ifCond .ne 5, 3, 31, 0, []) := rfl
theorem rw_229_29 : mm_code 228 29 = some (.iconst (-1), 1, 1, 1, []) := rfl
theorem rw_229_30 : mm_code 228 30 = some (.ireturn, 1, 0, 0, []) := rfl
theorem rw_229_31 : mm_code 228 31 = some (.aload_n 0, 1, 0, 0, []) := rfl
theorem rw_229_32 : mm_code 228 32 = some (.iload_n 1, 1, 0, 0, []) := rfl
theorem rw_229_33 : mm_code 228 33 = some (.invokevirtual 326, 3, 188, 2, [102, 0]) := rfl
theorem rw_229_36 : mm_code 228 36 = some (.iconst 0, 1, 0, 0, []) := rfl
theorem rw_229_37 : mm_code 228 37 = some (.istore_n 3, 1, 0, 0, []) := rfl
theorem rw_229_38 : mm_code 228 38 = some (.iconst 0, 1, 0, 0, []) := rfl
theorem rw_229_39 : mm_code 228 39 = some (.istore 4, 2, 0, 0, []) := rfl
theorem rw_229_41 : mm_code 228 41 = some (.iconst 0, 1, 0, 0, []) := rfl
theorem rw_229_42 : mm_code 228 42 = some (.istore 5, 2, 0, 0, []) := rfl
theorem rw_229_44 : mm_code 228 44 = some (.iload 5, 2, 0, 0, []) := rfl
theorem rw_229_46 : mm_code 228 46 = some (.aload_n 0, 1, 0, 0, []) := rfl
theorem rw_229_47 : mm_code 228 47 = some (.getfield 239, 3, 11, 28, [0, 75]) := rfl
theorem rw_229_50 : mm_code 228 50 = some (.if_icmp .ge 53, 3, 103, 0, []) := rfl
theorem rw_229_53 : mm_code 228 53 = some (.iload_n 3, 1, 0, 0, []) := rfl
theorem rw_229_54 : mm_code 228 54 = some (.aload_n 0, 1, 0, 0, []) := rfl
theorem rw_229_55 : mm_code 228 55 = some (.iload 5, 2, 0, 0, []) := rfl
theorem rw_229_57 : mm_code 228 57 = some (.iconst 0, 1, 0, 0, []) := rfl
theorem rw_229_58 : mm_code 228 58 = some (.invokevirtual 441, 3, 227, 3, [139, 0]) := rfl
theorem rw_229_61 : mm_code 228 61 = some (.ifCond .eq 10, 3, 71, 0, []) := rfl
theorem rw_229_64 : mm_code 228 64 = some (.iconst 1, 1, 1, 0, []) := rfl
theorem rw_229_65 : mm_code 228 65 = some (.iload 5, 2, 0, 0, []) := rfl
theorem rw_229_67 : mm_code 228 67 = some (.ishl, 1, 0, 0, []) := rfl
theorem rw_229_68 : mm_code 228 68 = some (.goto 4, 3, 72, 0, []) := rfl
theorem rw_229_71 : mm_code 228 71 = some (.iconst 0, 1, 0, 0, []) := rfl
theorem rw_229_72 : mm_code 228 72 = some (.ior, 1, 0, 0, []) := rfl
theorem rw_229_73 : mm_code 228 73 = some (.istore_n 3, 1, 0, 0, []) := rfl
theorem rw_229_74 : mm_code 228 74 = some (.iload 4, 2, 0, 0, []) := rfl
theorem rw_229_76 : mm_code 228 76 = some (.aload_n 0, 1, 0, 0, []) := rfl
theorem rw_229_77 : mm_code 228 77 = some (.iload 5, 2, 0, 0, []) := rfl
theorem rw_229_79 : mm_code 228 79 = some (.iconst 1, 1, 1, 0, []) := rfl
theorem rw_229_80 : mm_code 228 80 = some (.invokevirtual 441, 3, 227, 3, [139, 0]) := rfl
theorem rw_229_83 : mm_code 228 83 = some (.ifCond .eq 10, 3, 93, 0, []) := rfl
theorem rw_229_86 : mm_code 228 86 = some (.iconst 1, 1, 1, 0, []) := rfl
theorem rw_229_87 : mm_code 228 87 = some (.iload 5, 2, 0, 0, []) := rfl
theorem rw_229_89 : mm_code 228 89 = some (.ishl, 1, 0, 0, []) := rfl
theorem rw_229_90 : mm_code 228 90 = some (.goto 4, 3, 94, 0, []) := rfl
theorem rw_229_93 : mm_code 228 93 = some (.iconst 0, 1, 0, 0, []) := rfl
theorem rw_229_94 : mm_code 228 94 = some (.ior, 1, 0, 0, []) := rfl
theorem rw_229_95 : mm_code 228 95 = some (.istore 4, 2, 0, 0, []) := rfl
theorem rw_229_97 : mm_code 228 97 = some (.iinc 5 1, 3, 1, 0, []) := rfl
theorem rw_229_100 : mm_code 228 100 = some (.goto (-56), 3, 44, 0, []) := rfl
theorem rw_229_103 : mm_code 228 103 = some (.iload_n 2, 1, 0, 0, []) := rfl
theorem rw_229_104 : mm_code 228 104 = some (.ifCond .ne 7, 3, 111, 0, []) := rfl
theorem rw_229_107 : mm_code 228 107 = some (.iload_n 3, 1, 0, 0, []) := rfl
theorem rw_229_108 : mm_code 228 108 = some (.goto 33, 3, 141, 0, []) := rfl
theorem rw_229_111 : mm_code 228 111 = some (.iload_n 2, 1, 0, 0, []) := rfl
theorem rw_229_112 : mm_code 228 112 = some (.iconst 1, 1, 1, 0, []) := rfl
theorem rw_229_113 : mm_code 228 113 = some (.if_icmp .ne 8, 3, 121, 0, []) := rfl
theorem rw_229_116 : mm_code 228 116 = some (.iload 4, 2, 0, 0, []) := rfl
theorem rw_229_118 : mm_code 228 118 = some (.goto 23, 3, 141, 0, []) := rfl
theorem rw_229_121 : mm_code 228 121 = some (.iload_n 2, 1, 0, 0, []) := rfl
theorem rw_229_122 : mm_code 228 122 = some (.iconst 2, 1, 2, 0, []) := rfl
theorem rw_229_123 : mm_code 228 123 = some (.if_icmp .ne 12, 3, 135, 0, []) := rfl
theorem rw_229_126 : mm_code 228 126 = some (.iload_n 3, 1, 0, 0, []) := rfl
theorem rw_229_127 : mm_code 228 127 = some (.iload 4, 2, 0, 0, []) := rfl
theorem rw_229_129 : mm_code 228 129 = some (.iconst (-1), 1, 1, 1, []) := rfl
theorem rw_229_130 : mm_code 228 130 = some (.ixor, 1, 0, 0, []) := rfl
theorem rw_229_131 : mm_code 228 131 = some (.iand, 1, 0, 0, []) := rfl
theorem rw_229_132 : mm_code 228 132 = some (.goto 9, 3, 141, 0, []) := rfl
theorem rw_229_135 : mm_code 228 135 = some (.iload 4, 2, 0, 0, []) := rfl
theorem rw_229_137 : mm_code 228 137 = some (.iload_n 3, 1, 0, 0, []) := rfl
theorem rw_229_138 : mm_code 228 138 = some (.iconst (-1), 1, 1, 1, []) := rfl
theorem rw_229_139 : mm_code 228 139 = some (.ixor, 1, 0, 0, []) := rfl
theorem rw_229_140 : mm_code 228 140 = some (.iand, 1, 0, 0, []) := rfl
theorem rw_229_141 : mm_code 228 141 = some (.ireturn, 1, 0, 0, []) := rfl
theorem rw_230_0 : mm_code 229 0 = some (.lconst 1, 1, 1, 0, []) := rfl
theorem rw_230_1 : mm_code 229 1 = some (.lstore_n 2, 1, 0, 0, []) := rfl
theorem rw_230_2 : mm_code 229 2 = some (.iconst 0, 1, 0, 0, []) := rfl
theorem rw_230_3 : mm_code 229 3 = some (.istore 4, 2, 0, 0, []) := rfl
theorem rw_230_5 : mm_code 229 5 = some (.iload 4, 2, 0, 0, []) := rfl
theorem rw_230_7 : mm_code 229 7 = some (.iload_n 1, 1, 0, 0, []) := rfl
theorem rw_230_8 : mm_code 229 8 = some (.if_icmp .ge 23, 3, 31, 0, []) := rfl
theorem rw_230_11 : mm_code 229 11 = some (.lload_n 2, 1, 0, 0, []) := rfl
theorem rw_230_12 : mm_code 229 12 = some (.iload_n 0, 1, 0, 0, []) := rfl
theorem rw_230_13 : mm_code 229 13 = some (.iload 4, 2, 0, 0, []) := rfl
theorem rw_230_15 : mm_code 229 15 = some (.isub, 1, 0, 0, []) := rfl
theorem rw_230_16 : mm_code 229 16 = some (.i2l, 1, 0, 0, []) := rfl
theorem rw_230_17 : mm_code 229 17 = some (.lmul, 1, 0, 0, []) := rfl
theorem rw_230_18 : mm_code 229 18 = some (.iload 4, 2, 0, 0, []) := rfl
theorem rw_230_20 : mm_code 229 20 = some (.iconst 1, 1, 1, 0, []) := rfl
theorem rw_230_21 : mm_code 229 21 = some (.iadd, 1, 0, 0, []) := rfl
theorem rw_230_22 : mm_code 229 22 = some (.i2l, 1, 0, 0, []) := rfl
theorem rw_230_23 : mm_code 229 23 = some (.ldiv, 1, 0, 0, []) := rfl
theorem rw_230_24 : mm_code 229 24 = some (.lstore_n 2, 1, 0, 0, []) := rfl
theorem rw_230_25 : mm_code 229 25 = some (.iinc 4 1, 3, 1, 0, []) := rfl
theorem rw_230_28 : mm_code 229 28 = some (.goto (-23), 3, 5, 0, []) := rfl
theorem rw_230_31 : mm_code 229 31 = some (.iload_n 0, 1, 0, 0, []) := rfl
theorem rw_230_32 : mm_code 229 32 = some (.iload_n 1, 1, 0, 0, []) := rfl
theorem rw_230_33 : mm_code 229 33 = some (.if_icmp .ge 7, 3, 40, 0, []) := rfl
theorem rw_230_36 : mm_code 229 36 = some (.lconst 0, 1, 0, 0, []) := rfl
theorem rw_230_37 : mm_code 229 37 = some (.goto 4, 3, 41, 0, []) := rfl
theorem rw_230_40 : mm_code 229 40 = some (.lload_n 2, 1, 0, 0, []) := rfl
theorem rw_230_41 : mm_code 229 41 = some (.lreturn, 1, 0, 0, []) := rfl
theorem rw_231_0 : mm_code 230 0 = some (.aload_n 0, 1, 0, 0, []) := rfl
theorem rw_231_1 : mm_code 230 1 = some (.getfield 76, 3, 11, 38, [3, 22]) := rfl
theorem rw_231_4 : mm_code 230 4 = some (.iload_n 1, 1, 0, 0, []) := rfl
theorem rw_231_5 : mm_code 230 5 = some (.iaload, 1, 0, 0, []) := rfl
theorem rw_231_6 : mm_code 230 6 = some (.iload_n 2, 1, 0, 0, []) := rfl
theorem rw_231_7 : mm_code 230 7 = some (.ishr, 1, 0, 0, []) := rfl
theorem rw_231_8 : mm_code 230 8 = some (.iconst 1, 1, 1, 0, []) := rfl
theorem rw_231_9 : mm_code 230 9 = some (.iand, 1, 0, 0, []) := rfl
theorem rw_231_10 : mm_code 230 10 = some (.iconst 1, 1, 1, 0, []) := rfl
theorem rw_231_11 : mm_code 230 11 = some (.if_icmp .ne 7, 3, 18, 0, []) := rfl
theorem rw_231_14 : mm_code 230 14 = some (.iconst 1, 1, 1, 0, []) := rfl
theorem rw_231_15 : mm_code 230 15 = some (.goto 4, 3, 19, 0, []) := rfl
theorem rw_231_18 : mm_code 230 18 = some (.iconst 0, 1, 0, 0, []) := rfl
theorem rw_231_19 : mm_code 230 19 = some (.ireturn, 1, 1, 0, []) := rfl
theorem rw_232_0 : mm_code 231 0 = some (.aload_n 0, 1, 0, 0, []) := rfl
theorem rw_232_1 : mm_code 231 1 = some (.getfield 70, 3, 11, 36, [3, 20]) := rfl
theorem rw_232_4 : mm_code 231 4 = some (.iload_n 1, 1, 0, 0, []) := rfl
theorem rw_232_5 : mm_code 231 5 = some (.laload, 1, 0, 0, []) := rfl
theorem rw_232_6 : mm_code 231 6 = some (.aload_n 0, 1, 0, 0, []) := rfl
theorem rw_232_7 : mm_code 231 7 = some (.getfield 26, 3, 11, 19, [3, 6]) := rfl
theorem rw_232_10 : mm_code 231 10 = some (.iload_n 2, 1, 0, 0, []) := rfl
theorem rw_232_11 : mm_code 231 11 = some (.iaload, 1, 0, 0, []) := rfl
theorem rw_232_12 : mm_code 231 12 = some (.aload_n 0, 1, 0, 0, []) := rfl
theorem rw_232_13 : mm_code 231 13 = some (.getfield 29, 3, 11, 20, [3, 7]) := rfl
theorem rw_232_16 : mm_code 231 16 = some (.iload_n 2, 1, 0, 0, []) := rfl
theorem rw_232_17 : mm_code 231 17 = some (.iaload, 1, 0, 0, []) := rfl
theorem rw_232_18 : mm_code 231 18 = some (.invokestatic 270, 3, 167, 2, [84, 0]) := rfl
theorem rw_232_21 : mm_code 231 21 = some (.land, 1, 0, 0, []) := rfl
theorem rw_232_22 : mm_code 231 22 = some (.lreturn, 1, 0, 0, []) := rfl
theorem rw_233_0 : mm_code 232 0 = some (.aload_n 0, 1, 0, 0, []) := rfl
theorem rw_233_1 : mm_code 232 1 = some (.iconst 0, 1, 0, 0, []) := rfl
theorem rw_233_2 : mm_code 232 2 = some (.putfield 163, 3, 11, 2, [0, 51]) := rfl
theorem rw_233_5 : mm_code 232 5 = some (.aload_n 0, 1, 0, 0, []) := rfl
theorem rw_233_6 : mm_code 232 6 = some (.iload_n 1, 1, 0, 0, []) := rfl
theorem rw_233_7 : mm_code 232 7 = some (.invokevirtual 320, 3, 185, 2, [100, 0]) := rfl
theorem rw_233_10 : mm_code 232 10 = some (.ifCond .eq 20, 3, 30, 0, []) := rfl
theorem rw_233_13 : mm_code 232 13 = some (.aload_n 0, 1, 0, 0, []) := rfl
theorem rw_233_14 : mm_code 232 14 = some (.iload_n 2, 1, 0, 0, []) := rfl
theorem rw_233_15 : mm_code 232 15 = some (.invokevirtual 323, 3, 179, 2, [101, 0]) := rfl
theorem rw_233_18 : mm_code 232 18 = some (.ifCond .eq 12, 3, 30, 0, []) := rfl
theorem rw_233_21 : mm_code 232 21 = some (.iload_n 3, 1, 0, 0, []) := rfl
theorem rw_233_22 : mm_code 232 22 = some (.iconst 0, 1, 0, 0, []) := rfl
theorem rw_233_23 : mm_code 232 23 = some (.iconst 1, 1, 1, 0, []) := rfl
theorem rw_233_24 : mm_code 232 24 = some (.invokestatic 437, 3, 148, 3, [138, 0]) := rfl
theorem rw_233_27 : mm_code 232 27 = some (.ifCond .ne 7, 3, 34, 0, []) := rfl
theorem rw_233_30 : mm_code 232 30 = some (.ldc2_w 315, 3, 1, 1, [98]) := rfl
theorem rw_233_33 : mm_code 232 33 = some (.lreturn, 1, 0, 0, []) := rfl
theorem rw_233_34 : mm_code 232 34 = some (.aload_n 0, 1, 0, 0, []) := rfl
theorem rw_233_35 : mm_code 232 35 = some (.iload_n 1, 1, 0, 0, []) := rfl
theorem rw_233_36 : mm_code 232 36 = some (.invokevirtual 326, 3, 188, 2, [102, 0]) := rfl
theorem rw_233_39 : mm_code 232 39 = some (.aload_n 0, 1, 0, 0, []) := rfl
theorem rw_233_40 : mm_code 232 40 = some (.getfield 38, 3, 11, 23, [3, 10]) := rfl
theorem rw_233_43 : mm_code 232 43 = some (.iload_n 2, 1, 0, 0, []) := rfl
theorem rw_233_44 : mm_code 232 44 = some (.iaload, 1, 0, 0, []) := rfl
theorem rw_233_45 : mm_code 232 45 = some (.istore 4, 2, 0, 0, []) := rfl
theorem rw_233_47 : mm_code 232 47 = some (.iload_n 3, 1, 0, 0, []) := rfl
theorem rw_233_48 : mm_code 232 48 = some (.iconst 1, 1, 1, 0, []) := rfl
theorem rw_233_49 : mm_code 232 49 = some (.if_icmp .ne 20, 3, 69, 0, []) := rfl
theorem rw_233_52 : mm_code 232 52 = some (.aload_n 0, 1, 0, 0, []) := rfl
theorem rw_233_53 : mm_code 232 53 = some (.iload 4, 2, 0, 0, []) := rfl
theorem rw_233_55 : mm_code 232 55 = some (.invokevirtual 336, 3, 196, 2, [105, 0]) := rfl
theorem rw_233_58 : mm_code 232 58 = some (.aload_n 0, 1, 0, 0, []) := rfl
theorem rw_233_59 : mm_code 232 59 = some (.getfield 32, 3, 11, 21, [3, 8]) := rfl
theorem rw_233_62 : mm_code 232 62 = some (.iload 4, 2, 0, 0, []) := rfl
theorem rw_233_64 : mm_code 232 64 = some (.iaload, 1, 0, 0, []) := rfl
theorem rw_233_65 : mm_code 232 65 = some (.invokestatic 445, 3, 229, 2, [140, 0]) := rfl
theorem rw_233_68 : mm_code 232 68 = some (.lreturn, 1, 0, 0, []) := rfl
theorem rw_233_69 : mm_code 232 69 = some (.lconst 0, 1, 0, 0, []) := rfl
theorem rw_233_70 : mm_code 232 70 = some (.lstore 5, 2, 0, 0, []) := rfl
theorem rw_233_72 : mm_code 232 72 = some (.iconst 0, 1, 0, 0, []) := rfl
theorem rw_233_73 : mm_code 232 73 = some (.istore 7, 2, 0, 0, []) := rfl
theorem rw_233_75 : mm_code 232 75 = some (.iload 7, 2, 0, 0, []) := rfl
theorem rw_233_77 : mm_code 232 77 = some (.aload_n 0, 1, 0, 0, []) := rfl
theorem rw_233_78 : mm_code 232 78 = some (.getfield 239, 3, 11, 28, [0, 75]) := rfl
theorem rw_233_81 : mm_code 232 81 = some (.if_icmp .ge 49, 3, 130, 0, []) := rfl
theorem rw_233_84 : mm_code 232 84 = some (.lload 5, 2, 0, 0, []) := rfl
theorem rw_233_86 : mm_code 232 86 = some (.aload_n 0, 1, 0, 0, []) := rfl
theorem rw_233_87 : mm_code 232 87 = some (.iload 7, 2, 0, 0, []) := rfl
theorem rw_233_89 : mm_code 232 89 = some (.iload_n 2, 1, 0, 0, []) := rfl
theorem rw_233_90 : mm_code 232 90 = some (.invokevirtual 448, 3, 230, 3, [141, 0]) := rfl
theorem rw_233_93 : mm_code 232 93 = some (.ifCond .eq 7, 3, 100, 0, []) := rfl
theorem rw_233_96 : mm_code 232 96 = some (.lconst 0, 1, 0, 0, []) := rfl
theorem rw_233_97 : mm_code 232 97 = some (.goto 24, 3, 121, 0, []) := rfl
theorem rw_233_100 : mm_code 232 100 = some (.aload_n 0, 1, 0, 0, []) := rfl
theorem rw_233_101 : mm_code 232 101 = some (.iload 7, 2, 0, 0, []) := rfl
theorem rw_233_103 : mm_code 232 103 = some (.iload 4, 2, 0, 0, []) := rfl
theorem rw_233_105 : mm_code 232 105 = some (.invokevirtual 451, 3, 231, 3, [142, 0]) := rfl
theorem rw_233_108 : mm_code 232 108 = some (.invokestatic 339, 3, 150, 1, [106, 0]) := rfl
theorem rw_233_111 : mm_code 232 111 = some (.aload_n 0, 1, 0, 0, []) := rfl
theorem rw_233_112 : mm_code 232 112 = some (.getfield 32, 3, 11, 21, [3, 8]) := rfl
theorem rw_233_115 : mm_code 232 115 = some (.iload 4, 2, 0, 0, []) := rfl
theorem rw_233_117 : mm_code 232 117 = some (.iaload, 1, 0, 0, []) := rfl
theorem rw_233_118 : mm_code 232 118 = some (.invokestatic 445, 3, 229, 2, [140, 0]) := rfl
theorem rw_233_121 : mm_code 232 121 = some (.ladd, 1, 0, 0, []) := rfl
theorem rw_233_122 : mm_code 232 122 = some (.lstore 5, 2, 0, 0, []) := rfl
theorem rw_233_124 : mm_code 232 124 = some (.iinc 7 1, 3, 1, 0, []) := rfl
theorem rw_233_127 : mm_code 232 127 = some (.goto (-52), 3, 75, 0, []) := rfl
theorem rw_233_130 : mm_code 232 130 = some (.lload 5, 2, 0, 0, []) := rfl
theorem rw_233_132 : mm_code 232 132 = some (.lreturn, 1, 0, 0, []) := rfl
theorem rw_234_0 : mm_code 233 0 = some (.iconst 0, 1, 0, 0, []) := rfl
theorem rw_234_1 : mm_code 233 1 = some (.istore 4, 2, 0, 0, []) := rfl
theorem rw_234_3 : mm_code 233 3 = some (.iconst 0, 1, 0, 0, []) := rfl
theorem rw_234_4 : mm_code 233 4 = some (.istore 5, 2, 0, 0, []) := rfl
theorem rw_234_6 : mm_code 233 6 = some (.iload 5, 2, 0, 0, []) := rfl
theorem rw_234_8 : mm_code 233 8 = some (.aload_n 0, 1, 0, 0, []) := rfl
theorem rw_234_9 : mm_code 233 9 = some (.getfield 239, 3, 11, 28, [0, 75]) := rfl
theorem rw_234_12 : mm_code 233 12 = some (.if_icmp .ge 47, 3, 59, 0, []) := rfl
theorem rw_234_15 : mm_code 233 15 = some (.iload 4, 2, 0, 0, []) := rfl
theorem rw_234_17 : mm_code 233 17 = some (.aload_n 0, 1, 0, 0, []) := rfl
theorem rw_234_18 : mm_code 233 18 = some (.iload 5, 2, 0, 0, []) := rfl
theorem rw_234_20 : mm_code 233 20 = some (.iload_n 1, 1, 0, 0, []) := rfl
theorem rw_234_21 : mm_code 233 21 = some (.invokevirtual 448, 3, 230, 3, [141, 0]) := rfl
theorem rw_234_24 : mm_code 233 24 = some (.ifCond .ne 25, 3, 49, 0, []) := rfl
theorem rw_234_27 : mm_code 233 27 = some (.lload_n 2, 1, 0, 0, []) := rfl
theorem rw_234_28 : mm_code 233 28 = some (.aload_n 0, 1, 0, 0, []) := rfl
theorem rw_234_29 : mm_code 233 29 = some (.getfield 70, 3, 11, 36, [3, 20]) := rfl
theorem rw_234_32 : mm_code 233 32 = some (.iload 5, 2, 0, 0, []) := rfl
theorem rw_234_34 : mm_code 233 34 = some (.laload, 1, 0, 0, []) := rfl
theorem rw_234_35 : mm_code 233 35 = some (.ldc2_w 315, 3, 1, 1, [98]) := rfl
theorem rw_234_38 : mm_code 233 38 = some (.lxor, 1, 0, 0, []) := rfl
theorem rw_234_39 : mm_code 233 39 = some (.land, 1, 0, 0, []) := rfl
theorem rw_234_40 : mm_code 233 40 = some (.lconst 0, 1, 0, 0, []) := rfl
theorem rw_234_41 : mm_code 233 41 = some (.lcmp, 1, 0, 0, []) := rfl
theorem rw_234_42 : mm_code 233 42 = some (.ifCond .ne 7, 3, 49, 0, []) := rfl
theorem rw_234_45 : mm_code 233 45 = some (.iconst 1, 1, 1, 0, []) := rfl
theorem rw_234_46 : mm_code 233 46 = some (.goto 4, 3, 50, 0, []) := rfl
theorem rw_234_49 : mm_code 233 49 = some (.iconst 0, 1, 0, 0, []) := rfl
theorem rw_234_50 : mm_code 233 50 = some (.iadd, 1, 0, 0, []) := rfl
theorem rw_234_51 : mm_code 233 51 = some (.istore 4, 2, 0, 0, []) := rfl
theorem rw_234_53 : mm_code 233 53 = some (.iinc 5 1, 3, 1, 0, []) := rfl
theorem rw_234_56 : mm_code 233 56 = some (.goto (-50), 3, 6, 0, []) := rfl
theorem rw_234_59 : mm_code 233 59 = some (.iload 4, 2, 0, 0, []) := rfl
theorem rw_234_61 : mm_code 233 61 = some (.ireturn, 1, 0, 0, []) := rfl
theorem rw_235_0 : mm_code 234 0 = some (.aload_n 0, 1, 0, 0, []) := rfl
theorem rw_235_1 : mm_code 234 1 = some (.iconst 0, 1, 0, 0, []) := rfl
theorem rw_235_2 : mm_code 234 2 = some (.putfield 163, 3, 11, 2, [0, 51]) := rfl
theorem rw_235_5 : mm_code 234 5 = some (.aload_n 0, 1, 0, 0, []) := rfl
theorem rw_235_6 : mm_code 234 6 = some (.iload_n 1, 1, 0, 0, []) := rfl
theorem rw_235_7 : mm_code 234 7 = some (.invokevirtual 320, 3, 185, 2, [100, 0]) := rfl
theorem rw_235_10 : mm_code 234 10 = some (.ifCond .eq 11, 3, 21, 0, []) := rfl
theorem rw_235_13 : mm_code 234 13 = some (.aload_n 0, 1, 0, 0, []) := rfl
theorem rw_235_14 : mm_code 234 14 = some (.iload_n 2, 1, 0, 0, []) := rfl
theorem rw_235_15 : mm_code 234 15 = some (.invokevirtual 323, 3, 179, 2, [101, 0]) := rfl
theorem rw_235_18 : mm_code 234 18 = some (.ifCond .ne 5, 3, 23, 0, []) := rfl
theorem rw_235_21 : mm_code 234 21 = some (.iconst (-1), 1, 1, 1, []) := rfl
theorem rw_235_22 : mm_code 234 22 = some (.ireturn, 1, 0, 0, []) := rfl
theorem rw_235_23 : mm_code 234 23 = some (.aload_n 0, 1, 0, 0, []) := rfl
theorem rw_235_24 : mm_code 234 24 = some (.iload_n 1, 1, 0, 0, []) := rfl
theorem rw_235_25 : mm_code 234 25 = some (.invokevirtual 326, 3, 188, 2, [102, 0]) := rfl
theorem rw_235_28 : mm_code 234 28 = some (.aload_n 0, 1, 0, 0, []) := rfl
theorem rw_235_29 : mm_code 234 29 = some (.iload_n 2, 1, 0, 0, []) := rfl
theorem rw_235_30 : mm_code 234 30 = some (.aload_n 0, 1, 0, 0, []) := rfl
theorem rw_235_31 : mm_code 234 31 = some (.getfield 67, 3, 11, 35, [3, 19]) := rfl
theorem rw_235_34 : mm_code 234 34 = some (.iload_n 2, 1, 0, 0, []) := rfl
theorem rw_235_35 : mm_code 234 35 = some (.laload, 1, 0, 0, []) := rfl
theorem rw_235_36 : mm_code 234 36 = some (.invokevirtual 454, 3, 233, 3, [143, 0]) := rfl
theorem rw_235_39 : mm_code 234 39 = some (.ireturn, 1, 0, 0, []) := rfl
theorem rw_236_0 : mm_code 235 0 = some (.iconst 0, 1, 0, 0, []) := rfl
theorem rw_236_1 : mm_code 235 1 = some (.istore 4, 2, 0, 0, []) := rfl
theorem rw_236_3 : mm_code 235 3 = some (.iconst 0, 1, 0, 0, []) := rfl
theorem rw_236_4 : mm_code 235 4 = some (.istore 5, 2, 0, 0, []) := rfl
theorem rw_236_6 : mm_code 235 6 = some (.iload 5, 2, 0, 0, []) := rfl
theorem rw_236_8 : mm_code 235 8 = some (.aload_n 0, 1, 0, 0, []) := rfl
theorem rw_236_9 : mm_code 235 9 = some (.getfield 236, 3, 11, 13, [0, 74]) := rfl
theorem rw_236_12 : mm_code 235 12 = some (.if_icmp .ge 36, 3, 48, 0, []) := rfl
theorem rw_236_15 : mm_code 235 15 = some (.iload 4, 2, 0, 0, []) := rfl
theorem rw_236_17 : mm_code 235 17 = some (.iload 5, 2, 0, 0, []) := rfl
theorem rw_236_19 : mm_code 235 19 = some (.iload_n 1, 1, 0, 0, []) := rfl
theorem rw_236_20 : mm_code 235 20 = some (.if_icmp .ne 7, 3, 27, 0, []) := rfl
theorem rw_236_23 : mm_code 235 23 = some (.iconst 0, 1, 0, 0, []) := rfl
theorem rw_236_24 : mm_code 235 24 = some (.goto 15, 3, 39, 0, []) := rfl
theorem rw_236_27 : mm_code 235 27 = some (.aload_n 0, 1, 0, 0, []) := rfl
theorem rw_236_28 : mm_code 235 28 = some (.getfield 67, 3, 11, 35, [3, 19]) := rfl
theorem rw_236_31 : mm_code 235 31 = some (.iload 5, 2, 0, 0, []) := rfl
theorem rw_236_33 : mm_code 235 33 = some (.laload, 1, 0, 0, []) := rfl
theorem rw_236_34 : mm_code 235 34 = some (.lload_n 2, 1, 0, 0, []) := rfl
theorem rw_236_35 : mm_code 235 35 = some (.land, 1, 0, 0, []) := rfl
theorem rw_236_36 : mm_code 235 36 = some (.invokestatic 339, 3, 150, 1, [106, 0]) := rfl
theorem rw_236_39 : mm_code 235 39 = some (.iadd, 1, 0, 0, []) := rfl
theorem rw_236_40 : mm_code 235 40 = some (.istore 4, 2, 0, 0, []) := rfl
theorem rw_236_42 : mm_code 235 42 = some (.iinc 5 1, 3, 1, 0, []) := rfl
theorem rw_236_45 : mm_code 235 45 = some (.goto (-39), 3, 6, 0, []) := rfl
theorem rw_236_48 : mm_code 235 48 = some (.iload 4, 2, 0, 0, []) := rfl
theorem rw_236_50 : mm_code 235 50 = some (.ireturn, 1, 0, 0, []) := rfl
theorem rw_237_0 : mm_code 236 0 = some (.aload_n 0, 1, 0, 0, []) := rfl
theorem rw_237_1 : mm_code 236 1 = some (.iconst 0, 1, 0, 0, []) := rfl
theorem rw_237_2 : mm_code 236 2 = some (.putfield 163, 3, 11, 2, [0, 51]) := rfl
theorem rw_237_5 : mm_code 236 5 = some (.aload_n 0, 1, 0, 0, []) := rfl
theorem rw_237_6 : mm_code 236 6 = some (.iload_n 1, 1, 0, 0, []) := rfl
theorem rw_237_7 : mm_code 236 7 = some (.invokevirtual 320, 3, 185, 2, [100, 0]) := rfl
theorem rw_237_10 : mm_code 236 10 = some (.ifCond .eq 11, 3, 21, 0, []) := rfl
theorem rw_237_13 : mm_code 236 13 = some (.aload_n 0, 1, 0, 0, []) := rfl
theorem rw_237_14 : mm_code 236 14 = some (.iload_n 2, 1, 0, 0, []) := rfl
theorem rw_237_15 : mm_code 236 15 = some (.invokevirtual 323, 3, 179, 2, [101, 0]) := rfl
theorem rw_237_18 : mm_code 236 18 = some (.ifCond .ne 5, 3, 23, 0, []) := rfl
theorem rw_237_21 : mm_code 236 21 = some (.iconst (-1), 1, 1, 1, []) := rfl
theorem rw_237_22 : mm_code 236 22 = some (.ireturn, 1, 0, 0, []) := rfl
theorem rw_237_23 : mm_code 236 23 = some (.aload_n 0, 1, 0, 0, []) := rfl
theorem rw_237_24 : mm_code 236 24 = some (.iload_n 1, 1, 0, 0, []) := rfl
theorem rw_237_25 : mm_code 236 25 = some (.invokevirtual 326, 3, 188, 2, [102, 0]) := rfl
theorem rw_237_28 : mm_code 236 28 = some (.aload_n 0, 1, 0, 0, []) := rfl
theorem rw_237_29 : mm_code 236 29 = some (.getfield 38, 3, 11, 23, [3, 10]) := rfl
theorem rw_237_32 : mm_code 236 32 = some (.iload_n 2, 1, 0, 0, []) := rfl
theorem rw_237_33 : mm_code 236 33 = some (.iaload, 1, 0, 0, []) := rfl
theorem rw_237_34 : mm_code 236 34 = some (.istore_n 3, 1, 0, 0, []) := rfl
theorem rw_237_35 : mm_code 236 35 = some (.aload_n 0, 1, 0, 0, []) := rfl
theorem rw_237_36 : mm_code 236 36 = some (.getfield 32, 3, 11, 21, [3, 8]) := rfl
theorem rw_237_39 : mm_code 236 39 = some (.iload_n 3, 1, 0, 0, []) := rfl
theorem rw_237_40 : mm_code 236 40 = some (.iaload, 1, 0, 0, []) := rfl
theorem rw_237_41 : mm_code 236 41 = some (.istore 4, 2, 0, 0, []) := rfl
theorem rw_237_43 : mm_code 236 43 = some (.iconst (-1), 1, 1, 1, []) := rfl
theorem rw_237_44 : mm_code 236 44 = some (.istore 5, 2, 0, 0, []) := rfl
theorem rw_237_46 : mm_code 236 46 = some (.iconst 0, 1, 0, 0, []) := rfl
theorem rw_237_47 : mm_code 236 47 = some (.istore 6, 2, 0, 0, []) := rfl
theorem rw_237_49 : mm_code 236 49 = some (.iconst 0, 1, 0, 0, []) := rfl
theorem rw_237_50 : mm_code 236 50 = some (.istore 7, 2, 0, 0, []) := rfl
theorem rw_237_52 : mm_code 236 52 = some (.iconst 0, 1, 0, 0, []) := rfl
theorem rw_237_53 : mm_code 236 53 = some (.istore 8, 2, 0, 0, []) := rfl
theorem rw_237_55 : mm_code 236 55 = some (.iload 8, 2, 0, 0, []) := rfl
theorem rw_237_57 : mm_code 236 57 = some (.iload 4, 2, 0, 0, []) := rfl
theorem rw_237_59 : mm_code 236 59 = some (.if_icmp .ge 18, 3, 77, 0, []) := rfl
theorem rw_237_62 : mm_code 236 62 = some (.aload_n 0, 1, 0, 0, []) := rfl
theorem rw_237_63 : mm_code 236 63 = some (.getfield 136, 3, 11, 71, [3, 42]) := rfl
theorem rw_237_66 : mm_code 236 66 = some (.iload 8, 2, 0, 0, []) := rfl
theorem rw_237_68 : mm_code 236 68 = some (.iload 8, 2, 0, 0, []) := rfl
theorem rw_237_70 : mm_code 236 70 = some (.iastore, 1, 0, 0, []) := rfl
theorem rw_237_71 : mm_code 236 71 = some (.iinc 8 1, 3, 1, 0, []) := rfl
theorem rw_237_74 : mm_code 236 74 = some (.goto (-19), 3, 55, 0, []) := rfl
theorem rw_237_77 : mm_code 236 77 = some (.iconst 0, 1, 0, 0, []) := rfl
theorem rw_237_78 : mm_code 236 78 = some (.istore 8, 2, 0, 0, []) := rfl
theorem rw_237_80 : mm_code 236 80 = some (.iconst 0, 1, 0, 0, []) := rfl
theorem rw_237_81 : mm_code 236 81 = some (.istore 9, 2, 0, 0, []) := rfl
theorem rw_237_83 : mm_code 236 83 = some (.iload 9, 2, 0, 0, []) := rfl
theorem rw_237_85 : mm_code 236 85 = some (.iload 4, 2, 0, 0, []) := rfl
theorem rw_237_87 : mm_code 236 87 = some (.if_icmp .ge 23, 3, 110, 0, []) := rfl
theorem rw_237_90 : mm_code 236 90 = some (.iload 8, 2, 0, 0, []) := rfl
theorem rw_237_92 : mm_code 236 92 = some (.iconst 1, 1, 1, 0, []) := rfl
theorem rw_237_93 : mm_code 236 93 = some (.aload_n 0, 1, 0, 0, []) := rfl
theorem rw_237_94 : mm_code 236 94 = some (.getfield 136, 3, 11, 71, [3, 42]) := rfl
theorem rw_237_97 : mm_code 236 97 = some (.iload 9, 2, 0, 0, []) := rfl
theorem rw_237_99 : mm_code 236 99 = some (.iaload, 1, 0, 0, []) := rfl
theorem rw_237_100 : mm_code 236 100 = some (.ishl, 1, 0, 0, []) := rfl
theorem rw_237_101 : mm_code 236 101 = some (.ior, 1, 0, 0, []) := rfl
theorem rw_237_102 : mm_code 236 102 = some (.istore 8, 2, 0, 0, []) := rfl
theorem rw_237_104 : mm_code 236 104 = some (.iinc 9 1, 3, 1, 0, []) := rfl
theorem rw_237_107 : mm_code 236 107 = some (.goto (-24), 3, 83, 0, []) := rfl
theorem rw_237_110 : mm_code 236 110 = some (.aload_n 0, 1, 0, 0, []) := rfl
theorem rw_237_111 : mm_code 236 111 = some (.iload_n 2, 1, 0, 0, []) := rfl
theorem rw_237_112 : mm_code 236 112 = some (.aload_n 0, 1, 0, 0, []) := rfl
theorem rw_237_113 : mm_code 236 113 = some (.iload_n 2, 1, 0, 0, []) := rfl
theorem rw_237_114 : mm_code 236 114 = some (.iload 8, 2, 0, 0, []) := rfl
theorem rw_237_116 : mm_code 236 116 = some (.invokevirtual 317, 3, 187, 3, [99, 0]) := rfl
theorem rw_237_119 : mm_code 236 119 = some (.invokevirtual 454, 3, 233, 3, [143, 0]) := rfl
theorem rw_237_122 : mm_code 236 122 = some (.istore 9, 2, 0, 0, []) := rfl
theorem rw_237_124 : mm_code 236 124 = some (.iload 5, 2, 0, 0, []) := rfl
theorem rw_237_126 : mm_code 236 126 = some (.iconst (-1), 1, 1, 1, []) := rfl
theorem rw_237_127 : mm_code 236 127 = some (.if_icmp .eq 10, 3, 137, 0, []) := rfl
theorem rw_237_130 : mm_code 236 130 = some (.iload 9, 2, 0, 0, []) := rfl
theorem rw_237_132 : mm_code 236 132 = some (.iload 6, 2, 0, 0, []) := rfl
theorem rw_237_134 : mm_code 236 134 = some (.if_icmp .gt 18, 3, 152, 0, []) := rfl
theorem rw_237_137 : mm_code 236 137 = some (.aload_n 0, 1, 0, 0, []) := rfl
theorem rw_237_138 : mm_code 236 138 = some (.iload_n 2, 1, 0, 0, []) := rfl
theorem rw_237_139 : mm_code 236 139 = some (.aload_n 0, 1, 0, 0, []) := rfl
theorem rw_237_140 : mm_code 236 140 = some (.iload_n 2, 1, 0, 0, []) := rfl
theorem rw_237_141 : mm_code 236 141 = some (.iload 8, 2, 0, 0, []) := rfl
theorem rw_237_143 : mm_code 236 143 = some (.invokevirtual 317, 3, 187, 3, [99, 0]) := rfl
theorem rw_237_146 : mm_code 236 146 = some (.invokevirtual 458, 3, 235, 3, [144, 0]) := rfl
theorem rw_237_149 : mm_code 236 149 = some (.goto 4, 3, 153, 0, []) := rfl
theorem rw_237_152 : mm_code 236 152 = some (.iconst 0, 1, 0, 0, []) := rfl
theorem rw_237_153 : mm_code 236 153 = some (.istore 10, 2, 0, 0, []) := rfl
theorem rw_237_155 : mm_code 236 155 = some (.iload 5, 2, 0, 0, []) := rfl
theorem rw_237_157 : mm_code 236 157 = some (.iconst (-1), 1, 1, 1, []) := rfl
theorem rw_237_158 : mm_code 236 158 = some (.if_icmp .eq 38, 3, 196, 0, []) := rfl
theorem rw_237_161 : mm_code 236 161 = some (.iload 9, 2, 0, 0, []) := rfl
theorem rw_237_163 : mm_code 236 163 = some (.iload 6, 2, 0, 0, []) := rfl
theorem rw_237_165 : mm_code 236 165 = some (.if_icmp .lt 31, 3, 196, 0, []) := rfl
theorem rw_237_168 : mm_code 236 168 = some (.iload 9, 2, 0, 0, []) := rfl
theorem rw_237_170 : mm_code 236 170 = some (.iload 6, 2, 0, 0, []) := rfl
theorem rw_237_172 : mm_code 236 172 = some (.if_icmp .ne 28, 3, 200, 0, []) := rfl
theorem rw_237_175 : mm_code 236 175 = some (.iload 10, 2, 0, 0, []) := rfl
theorem rw_237_177 : mm_code 236 177 = some (.iload 7, 2, 0, 0, []) := rfl
theorem rw_237_179 : mm_code 236 179 = some (.if_icmp .lt 17, 3, 196, 0, []) := rfl
theorem rw_237_182 : mm_code 236 182 = some (.iload 10, 2, 0, 0, []) := rfl
theorem rw_237_184 : mm_code 236 184 = some (.iload 7, 2, 0, 0, []) := rfl
theorem rw_237_186 : mm_code 236 186 = some (.if_icmp .ne 14, 3, 200, 0, []) := rfl
theorem rw_237_189 : mm_code 236 189 = some (.iload 8, 2, 0, 0, []) := rfl
theorem rw_237_191 : mm_code 236 191 = some (.iload 5, 2, 0, 0, []) := rfl
theorem rw_237_193 : mm_code 236 193 = some (.if_icmp .ge 7, 3, 200, 0, []) := rfl
theorem rw_237_196 : mm_code 236 196 = some (.iconst 1, 1, 1, 0, []) := rfl
theorem rw_237_197 : mm_code 236 197 = some (.goto 4, 3, 201, 0, []) := rfl
theorem rw_237_200 : mm_code 236 200 = some (.iconst 0, 1, 0, 0, []) := rfl
theorem rw_237_201 : mm_code 236 201 = some (.istore 11, 2, 0, 0, []) := rfl
theorem rw_237_203 : mm_code 236 203 = some (.iload 11, 2, 0, 0, []) := rfl
theorem rw_237_205 : mm_code 236 205 = some (.ifCond .eq 15, 3, 220, 0, []) := rfl
theorem rw_237_208 : mm_code 236 208 = some (.iload 8, 2, 0, 0, []) := rfl
theorem rw_237_210 : mm_code 236 210 = some (.istore 5, 2, 0, 0, []) := rfl
theorem rw_237_212 : mm_code 236 212 = some (.iload 9, 2, 0, 0, []) := rfl
theorem rw_237_214 : mm_code 236 214 = some (.istore 6, 2, 0, 0, []) := rfl
theorem rw_237_216 : mm_code 236 216 = some (.iload 10, 2, 0, 0, []) := rfl
theorem rw_237_218 : mm_code 236 218 = some (.istore 7, 2, 0, 0, []) := rfl
theorem rw_237_220 : mm_code 236 220 = some (.iload 4, 2, 0, 0, []) := rfl
theorem rw_237_222 : mm_code 236 222 = some (.iconst 1, 1, 1, 0, []) := rfl
theorem rw_237_223 : mm_code 236 223 = some (.isub, 1, 0, 0, []) := rfl
theorem rw_237_224 : mm_code 236 224 = some (.istore 12, 2, 0, 0, []) := rfl
theorem rw_237_226 : mm_code 236 226 = some (.iload 12, 2, 0, 0, []) := rfl
theorem rw_237_228 : mm_code 236 228 = some (.ifCond .lt 30, 3, 258, 0, []) := rfl
theorem rw_237_231 : mm_code 236 231 = some (.aload_n 0, 1, 0, 0, []) := rfl
theorem rw_237_232 : mm_code 236 232 = some (.getfield 136, 3, 11, 71, [3, 42]) := rfl
theorem rw_237_235 : mm_code 236 235 = some (.iload 12, 2, 0, 0, []) := rfl
theorem rw_237_237 : mm_code 236 237 = some (.iaload, 1, 0, 0, []) := rfl
theorem rw_237_238 : mm_code 236 238 = some (.aload_n 0, 1, 0, 0, []) := rfl
theorem rw_237_239 : mm_code 236 239 = some (.iload_n 3, 1, 0, 0, []) := rfl
theorem rw_237_240 : mm_code 236 240 = some (.invokevirtual 336, 3, 196, 2, [105, 0]) := rfl
theorem rw_237_243 : mm_code 236 243 = some (.iload 4, 2, 0, 0, []) := rfl
theorem rw_237_245 : mm_code 236 245 = some (.isub, 1, 0, 0, []) := rfl
theorem rw_237_246 : mm_code 236 246 = some (.iload 12, 2, 0, 0, []) := rfl
theorem rw_237_248 : mm_code 236 248 = some (.iadd, 1, 0, 0, []) := rfl
theorem rw_237_249 : mm_code 236 249 = some (.if_icmp .ne 9, 3, 258, 0, []) := rfl
theorem rw_237_252 : mm_code 236 252 = some (.iinc 12 (-1), 3, 1, 1, []) := rfl
theorem rw_237_255 : mm_code 236 255 = some (.goto (-29), 3, 226, 0, []) := rfl
theorem rw_237_258 : mm_code 236 258 = some (.iload 12, 2, 0, 0, []) := rfl
theorem rw_237_260 : mm_code 236 260 = some (.ifCond .ge 6, 3, 266, 0, []) := rfl
theorem rw_237_263 : mm_code 236 263 = some (.iload 5, 2, 0, 0, []) := rfl
theorem rw_237_265 : mm_code 236 265 = some (.ireturn, 1, 0, 0, []) := rfl
theorem rw_237_266 : mm_code 236 266 = some (.aload_n 0, 1, 0, 0, []) := rfl
theorem rw_237_267 : mm_code 236 267 = some (.getfield 136, 3, 11, 71, [3, 42]) := rfl
theorem rw_237_270 : mm_code 236 270 = some (.iload 12, 2, 0, 0, []) := rfl
theorem rw_237_272 : mm_code 236 272 = some (.dup2, 1, 0, 0, []) := rfl
theorem rw_237_273 : mm_code 236 273 = some (.iaload, 1, 0, 0, []) := rfl
theorem rw_237_274 : mm_code 236 274 = some (.iconst 1, 1, 1, 0, []) := rfl
theorem rw_237_275 : mm_code 236 275 = some (.iadd, 1, 0, 0, []) := rfl
theorem rw_237_276 : mm_code 236 276 = some (.iastore, 1, 0, 0, []) := rfl
theorem rw_237_277 : mm_code 236 277 = some (.iload 12, 2, 0, 0, []) := rfl
theorem rw_237_279 : mm_code 236 279 = some (.iconst 1, 1, 1, 0, []) := rfl
theorem rw_237_280 : mm_code 236 280 = some (.iadd, 1, 0, 0, []) := rfl
theorem rw_237_281 : mm_code 236 281 = some (.istore 13, 2, 0, 0, []) := rfl
theorem rw_237_283 : mm_code 236 283 = some (.iload 13, 2, 0, 0, []) := rfl
theorem rw_237_285 : mm_code 236 285 = some (.iload 4, 2, 0, 0, []) := rfl
theorem rw_237_287 : mm_code 236 287 = some (.if_icmp .ge 27, 3, 314, 0, []) := rfl
theorem rw_237_290 : mm_code 236 290 = some (.aload_n 0, 1, 0, 0, []) := rfl
theorem rw_237_291 : mm_code 236 291 = some (.getfield 136, 3, 11, 71, [3, 42]) := rfl
theorem rw_237_294 : mm_code 236 294 = some (.iload 13, 2, 0, 0, []) := rfl
theorem rw_237_296 : mm_code 236 296 = some (.aload_n 0, 1, 0, 0, []) := rfl
theorem rw_237_297 : mm_code 236 297 = some (.getfield 136, 3, 11, 71, [3, 42]) := rfl
theorem rw_237_300 : mm_code 236 300 = some (.iload 13, 2, 0, 0, []) := rfl
theorem rw_237_302 : mm_code 236 302 = some (.iconst 1, 1, 1, 0, []) := rfl
theorem rw_237_303 : mm_code 236 303 = some (.isub, 1, 0, 0, []) := rfl
theorem rw_237_304 : mm_code 236 304 = some (.iaload, 1, 0, 0, []) := rfl
theorem rw_237_305 : mm_code 236 305 = some (.iconst 1, 1, 1, 0, []) := rfl
theorem rw_237_306 : mm_code 236 306 = some (.iadd, 1, 0, 0, []) := rfl
theorem rw_237_307 : mm_code 236 307 = some (.iastore, 1, 0, 0, []) := rfl
theorem rw_237_308 : mm_code 236 308 = some (.iinc 13 1, 3, 1, 0, []) := rfl
theorem rw_237_311 : mm_code 236 311 = some (.goto (-28), 3, 283, 0, []) := rfl
theorem rw_237_314 : mm_code 236 314 = some (.goto (-237), 3, 77, 0, []) := rfl
theorem rw_238_0 : mm_code 237 0 = some (.aload_n 0, 1, 0, 0, []) := rfl
theorem rw_238_1 : mm_code 237 1 = some (.iconst 0, 1, 0, 0, []) := rfl
theorem rw_238_2 : mm_code 237 2 = some (.putfield 163, 3, 11, 2, [0, 51]) := rfl
theorem rw_238_5 : mm_code 237 5 = some (.aload_n 0, 1, 0, 0, []) := rfl
theorem rw_238_6 : mm_code 237 6 = some (.iload_n 1, 1, 0, 0, []) := rfl
theorem rw_238_7 : mm_code 237 7 = some (.invokevirtual 320, 3, 185, 2, [100, 0]) := rfl
theorem rw_238_10 : mm_code 237 10 = some (.ifCond .eq 40, 3, 50, 0, []) := rfl
theorem rw_238_13 : mm_code 237 13 = some (.aload_n 0, 1, 0, 0, []) := rfl
theorem rw_238_14 : mm_code 237 14 = some (.iload_n 2, 1, 0, 0, []) := rfl
theorem rw_238_15 : mm_code 237 15 = some (.invokevirtual 329, 3, 186, 2, [103, 0]) := rfl
theorem rw_238_18 : mm_code 237 18 = some (.ifCond .eq 32, 3, 50, 0, []) := rfl
theorem rw_238_21 : mm_code 237 21 = some (.aload_n 0, 1, 0, 0, []) := rfl
theorem rw_238_22 : mm_code 237 22 = some (.iload_n 3, 1, 0, 0, []) := rfl
theorem rw_238_23 : mm_code 237 23 = some (.invokevirtual 296, 3, 177, 2, [92, 0]) := rfl
theorem rw_238_26 : mm_code 237 26 = some (.ifCond .eq 24, 3, 50, 0, []) := rfl
theorem rw_238_29 : mm_code 237 29 = some (.iload 4, 2, 0, 0, []) := rfl
theorem rw_238_31 : mm_code 237 31 = some (.iconst 0, 1, 0, 0, []) := rfl
theorem rw_238_32 : mm_code 237 32 = some (.bipush 9, 2, 9, 0, []) := rfl
theorem rw_238_34 : mm_code 237 34 = some (.invokestatic 437, 3, 148, 3, [138, 0]) := rfl
theorem rw_238_37 : mm_code 237 37 = some (.ifCond .eq 13, 3, 50, 0, []) := rfl
theorem rw_238_40 : mm_code 237 40 = some (.iload 5, 2, 0, 0, []) := rfl
theorem rw_238_42 : mm_code 237 42 = some (.iconst 0, 1, 0, 0, []) := rfl
theorem rw_238_43 : mm_code 237 43 = some (.iconst 2, 1, 2, 0, []) := rfl
theorem rw_238_44 : mm_code 237 44 = some (.invokestatic 437, 3, 148, 3, [138, 0]) := rfl
theorem rw_238_47 : mm_code 237 47 = some (.ifCond .ne 6, 3, 53, 0, []) := rfl
theorem rw_238_50 : mm_code 237 50 = some (.bipush (-2), 2, 2, 1, []) := rfl
theorem rw_238_52 : mm_code 237 52 = some (.ireturn, 1, 0, 0, []) := rfl
theorem rw_238_53 : mm_code 237 53 = some (.aload_n 0, 1, 0, 0, []) := rfl
theorem rw_238_54 : mm_code 237 54 = some (.iload_n 1, 1, 0, 0, []) := rfl
theorem rw_238_55 : mm_code 237 55 = some (.invokevirtual 326, 3, 188, 2, [102, 0]) := rfl
theorem rw_238_58 : mm_code 237 58 = some (.aload_n 0, 1, 0, 0, []) := rfl
theorem rw_238_59 : mm_code 237 59 = some (.getfield 23, 3, 11, 18, [3, 5]) := rfl
theorem rw_238_62 : mm_code 237 62 = some (.iload_n 3, 1, 0, 0, []) := rfl
theorem rw_238_63 : mm_code 237 63 = some (.iaload, 1, 0, 0, []) := rfl
theorem rw_238_64 : mm_code 237 64 = some (.iconst 3, 1, 3, 0, []) := rfl
theorem rw_238_65 : mm_code 237 65 = some (.if_icmp .ne 16, 3, 81, 0, []) := rfl
theorem rw_238_68 : mm_code 237 68 = some (.aload_n 0, 1, 0, 0, []) := rfl
theorem rw_238_69 : mm_code 237 69 = some (.iload_n 2, 1, 0, 0, []) := rfl
theorem rw_238_70 : mm_code 237 70 = some (.iload_n 3, 1, 0, 0, []) := rfl
theorem rw_238_71 : mm_code 237 71 = some (.iload 4, 2, 0, 0, []) := rfl
theorem rw_238_73 : mm_code 237 73 = some (.iload 5, 2, 0, 0, []) := rfl
theorem rw_238_75 : mm_code 237 75 = some (.invokevirtual 461, 3, 238, 5, [145, 0]) := rfl
theorem rw_238_78 : mm_code 237 78 = some (.goto 13, 3, 91, 0, []) := rfl
theorem rw_238_81 : mm_code 237 81 = some (.aload_n 0, 1, 0, 0, []) := rfl
theorem rw_238_82 : mm_code 237 82 = some (.iload_n 2, 1, 0, 0, []) := rfl
theorem rw_238_83 : mm_code 237 83 = some (.iload_n 3, 1, 0, 0, []) := rfl
theorem rw_238_84 : mm_code 237 84 = some (.iload 4, 2, 0, 0, []) := rfl
theorem rw_238_86 : mm_code 237 86 = some (.iload 5, 2, 0, 0, []) := rfl
theorem rw_238_88 : mm_code 237 88 = some (.invokevirtual 464, 3, 239, 5, [146, 0]) := rfl
theorem rw_238_91 : mm_code 237 91 = some (.ireturn, 1, 0, 0, []) := rfl
theorem rw_239_0 : mm_code 238 0 = some (.aload_n 0, 1, 0, 0, []) := rfl
theorem rw_239_1 : mm_code 238 1 = some (.iload_n 1, 1, 0, 0, []) := rfl
theorem rw_239_2 : mm_code 238 2 = some (.iload_n 2, 1, 0, 0, []) := rfl
theorem rw_239_3 : mm_code 238 3 = some (.invokevirtual 451, 3, 231, 3, [142, 0]) := rfl
theorem rw_239_6 : mm_code 238 6 = some (.lstore 5, 2, 0, 0, []) := rfl
theorem rw_239_8 : mm_code 238 8 = some (.iconst 0, 1, 0, 0, []) := rfl
theorem rw_239_9 : mm_code 238 9 = some (.istore 7, 2, 0, 0, []) := rfl
theorem rw_239_11 : mm_code 238 11 = some (.iconst 0, 1, 0, 0, []) := rfl
theorem rw_239_12 : mm_code 238 12 = some (.istore 8, 2, 0, 0, []) := rfl
theorem rw_239_14 : mm_code 238 14 = some (.iload 8, 2, 0, 0, []) := rfl
theorem rw_239_16 : mm_code 238 16 = some (.aload_n 0, 1, 0, 0, []) := rfl
theorem rw_239_17 : mm_code 238 17 = some (.getfield 236, 3, 11, 13, [0, 74]) := rfl
theorem rw_239_20 : mm_code 238 20 = some (.if_icmp .ge 54, 3, 74, 0, []) := rfl
theorem rw_239_23 : mm_code 238 23 = some (.aload_n 0, 1, 0, 0, []) := rfl
theorem rw_239_24 : mm_code 238 24 = some (.getfield 38, 3, 11, 23, [3, 10]) := rfl
theorem rw_239_27 : mm_code 238 27 = some (.iload 8, 2, 0, 0, []) := rfl
theorem rw_239_29 : mm_code 238 29 = some (.iaload, 1, 0, 0, []) := rfl
theorem rw_239_30 : mm_code 238 30 = some (.iload_n 2, 1, 0, 0, []) := rfl
theorem rw_239_31 : mm_code 238 31 = some (.if_icmp .ne 37, 3, 68, 0, []) := rfl
theorem rw_239_34 : mm_code 238 34 = some (.aload_n 0, 1, 0, 0, []) := rfl
theorem rw_239_35 : mm_code 238 35 = some (.getfield 67, 3, 11, 35, [3, 19]) := rfl
theorem rw_239_38 : mm_code 238 38 = some (.iload 8, 2, 0, 0, []) := rfl
theorem rw_239_40 : mm_code 238 40 = some (.laload, 1, 0, 0, []) := rfl
theorem rw_239_41 : mm_code 238 41 = some (.lload 5, 2, 0, 0, []) := rfl
theorem rw_239_43 : mm_code 238 43 = some (.ldc2_w 315, 3, 1, 1, [98]) := rfl
theorem rw_239_46 : mm_code 238 46 = some (.lxor, 1, 0, 0, []) := rfl
theorem rw_239_47 : mm_code 238 47 = some (.land, 1, 0, 0, []) := rfl
theorem rw_239_48 : mm_code 238 48 = some (.lconst 0, 1, 0, 0, []) := rfl
theorem rw_239_49 : mm_code 238 49 = some (.lcmp, 1, 0, 0, []) := rfl
theorem rw_239_50 : mm_code 238 50 = some (.ifCond .eq 6, 3, 56, 0, []) := rfl
theorem rw_239_53 : mm_code 238 53 = some (.goto 15, 3, 68, 0, []) := rfl
theorem rw_239_56 : mm_code 238 56 = some (.aload_n 0, 1, 0, 0, []) := rfl
theorem rw_239_57 : mm_code 238 57 = some (.getfield 139, 3, 11, 72, [3, 43]) := rfl
theorem rw_239_60 : mm_code 238 60 = some (.iload 7, 2, 0, 0, []) := rfl
theorem rw_239_62 : mm_code 238 62 = some (.iload 8, 2, 0, 0, []) := rfl
theorem rw_239_64 : mm_code 238 64 = some (.iastore, 1, 0, 0, []) := rfl
theorem rw_239_65 : mm_code 238 65 = some (.iinc 7 1, 3, 1, 0, []) := rfl
theorem rw_239_68 : mm_code 238 68 = some (.iinc 8 1, 3, 1, 0, []) := rfl
theorem rw_239_71 : mm_code 238 71 = some (.goto (-57), 3, 14, 0, []) := rfl
theorem rw_239_74 : mm_code 238 74 = some (.sipush 4095, 3, 4095, 0, []) := rfl
theorem rw_239_77 : mm_code 238 77 = some (.istore 8, 2, 0, 0, []) := rfl
theorem rw_239_79 : mm_code 238 79 = some (.iconst 0, 1, 0, 0, []) := rfl
theorem rw_239_80 : mm_code 238 80 = some (.istore 9, 2, 0, 0, []) := rfl
theorem rw_239_82 : mm_code 238 82 = some (.iconst 0, 1, 0, 0, []) := rfl
theorem rw_239_83 : mm_code 238 83 = some (.istore 10, 2, 0, 0, []) := rfl
theorem rw_239_85 : mm_code 238 85 = some (.iconst 0, 1, 0, 0, []) := rfl
theorem rw_239_86 : mm_code 238 86 = some (.istore 11, 2, 0, 0, []) := rfl
theorem rw_239_88 : mm_code 238 88 = some (.iload 11, 2, 0, 0, []) := rfl
theorem rw_239_90 : mm_code 238 90 = some (.iconst 1, 1, 1, 0, []) := rfl
theorem rw_239_91 : mm_code 238 91 = some (.iload 7, 2, 0, 0, []) := rfl
theorem rw_239_93 : mm_code 238 93 = some (.ishl, 1, 0, 0, []) := rfl
theorem rw_239_94 : mm_code 238 94 = some (.if_icmp .ge 111, 3, 205, 0, []) := rfl
theorem rw_239_97 : mm_code 238 97 = some (.lconst 0, 1, 0, 0, []) := rfl
theorem rw_239_98 : mm_code 238 98 = some (.lstore 12, 2, 0, 0, []) := rfl
theorem rw_239_100 : mm_code 238 100 = some (.iconst 0, 1, 0, 0, []) := rfl
theorem rw_239_101 : mm_code 238 101 = some (.istore 14, 2, 0, 0, []) := rfl
theorem rw_239_103 : mm_code 238 103 = some (.iconst 0, 1, 0, 0, []) := rfl
theorem rw_239_104 : mm_code 238 104 = some (.istore 15, 2, 0, 0, []) := rfl
theorem rw_239_106 : mm_code 238 106 = some (.iload 15, 2, 0, 0, []) := rfl
theorem rw_239_108 : mm_code 238 108 = some (.iload 7, 2, 0, 0, []) := rfl
theorem rw_239_110 : mm_code 238 110 = some (.if_icmp .ge 53, 3, 163, 0, []) := rfl
theorem rw_239_113 : mm_code 238 113 = some (.iload 11, 2, 0, 0, []) := rfl
theorem rw_239_115 : mm_code 238 115 = some (.iload 15, 2, 0, 0, []) := rfl
theorem rw_239_117 : mm_code 238 117 = some (.ishr, 1, 0, 0, []) := rfl
theorem rw_239_118 : mm_code 238 118 = some (.iconst 1, 1, 1, 0, []) := rfl
theorem rw_239_119 : mm_code 238 119 = some (.iand, 1, 0, 0, []) := rfl
theorem rw_239_120 : mm_code 238 120 = some (.ifCond .ne 6, 3, 126, 0, []) := rfl
theorem rw_239_123 : mm_code 238 123 = some (.goto 34, 3, 157, 0, []) := rfl
theorem rw_239_126 : mm_code 238 126 = some (.lload 12, 2, 0, 0, []) := rfl
theorem rw_239_128 : mm_code 238 128 = some (.aload_n 0, 1, 0, 0, []) := rfl
theorem rw_239_129 : mm_code 238 129 = some (.getfield 67, 3, 11, 35, [3, 19]) := rfl
theorem rw_239_132 : mm_code 238 132 = some (.aload_n 0, 1, 0, 0, []) := rfl
theorem rw_239_133 : mm_code 238 133 = some (.getfield 139, 3, 11, 72, [3, 43]) := rfl
theorem rw_239_136 : mm_code 238 136 = some (.iload 15, 2, 0, 0, []) := rfl
theorem rw_239_138 : mm_code 238 138 = some (.iaload, 1, 0, 0, []) := rfl
theorem rw_239_139 : mm_code 238 139 = some (.laload, 1, 0, 0, []) := rfl
theorem rw_239_140 : mm_code 238 140 = some (.lor, 1, 0, 0, []) := rfl
theorem rw_239_141 : mm_code 238 141 = some (.lstore 12, 2, 0, 0, []) := rfl
theorem rw_239_143 : mm_code 238 143 = some (.iload 14, 2, 0, 0, []) := rfl
theorem rw_239_145 : mm_code 238 145 = some (.iconst 1, 1, 1, 0, []) := rfl
theorem rw_239_146 : mm_code 238 146 = some (.aload_n 0, 1, 0, 0, []) := rfl
theorem rw_239_147 : mm_code 238 147 = some (.getfield 139, 3, 11, 72, [3, 43]) := rfl
theorem rw_239_150 : mm_code 238 150 = some (.iload 15, 2, 0, 0, []) := rfl
theorem rw_239_152 : mm_code 238 152 = some (.iaload, 1, 0, 0, []) := rfl
theorem rw_239_153 : mm_code 238 153 = some (.ishl, 1, 0, 0, []) := rfl
theorem rw_239_154 : mm_code 238 154 = some (.ior, 1, 0, 0, []) := rfl
theorem rw_239_155 : mm_code 238 155 = some (.istore 14, 2, 0, 0, []) := rfl
theorem rw_239_157 : mm_code 238 157 = some (.iinc 15 1, 3, 1, 0, []) := rfl
theorem rw_239_160 : mm_code 238 160 = some (.goto (-54), 3, 106, 0, []) := rfl
theorem rw_239_163 : mm_code 238 163 = some (.lload 5, 2, 0, 0, []) := rfl
theorem rw_239_165 : mm_code 238 165 = some (.lload 12, 2, 0, 0, []) := rfl
theorem rw_239_167 : mm_code 238 167 = some (.ldc2_w 315, 3, 1, 1, [98]) := rfl
theorem rw_239_170 : mm_code 238 170 = some (.lxor, 1, 0, 0, []) := rfl
theorem rw_239_171 : mm_code 238 171 = some (.land, 1, 0, 0, []) := rfl
theorem rw_239_172 : mm_code 238 172 = some (.invokestatic 339, 3, 150, 1, [106, 0]) := rfl
theorem rw_239_175 : mm_code 238 175 = some (.iload_n 3, 1, 0, 0, []) := rfl
theorem rw_239_176 : mm_code 238 176 = some (.if_icmp .le 6, 3, 182, 0, []) := rfl
theorem rw_239_179 : mm_code 238 179 = some (.goto 20, 3, 199, 0, []) := rfl
theorem rw_239_182 : mm_code 238 182 = some (.iload 8, 2, 0, 0, []) := rfl
theorem rw_239_184 : mm_code 238 184 = some (.iload 14, 2, 0, 0, []) := rfl
theorem rw_239_186 : mm_code 238 186 = some (.iand, 1, 0, 0, []) := rfl
theorem rw_239_187 : mm_code 238 187 = some (.istore 8, 2, 0, 0, []) := rfl
theorem rw_239_189 : mm_code 238 189 = some (.iload 9, 2, 0, 0, []) := rfl
theorem rw_239_191 : mm_code 238 191 = some (.iload 14, 2, 0, 0, []) := rfl
theorem rw_239_193 : mm_code 238 193 = some (.ior, 1, 0, 0, []) := rfl
theorem rw_239_194 : mm_code 238 194 = some (.istore 9, 2, 0, 0, []) := rfl
theorem rw_239_196 : mm_code 238 196 = some (.iinc 10 1, 3, 1, 0, []) := rfl
theorem rw_239_199 : mm_code 238 199 = some (.iinc 11 1, 3, 1, 0, []) := rfl
theorem rw_239_202 : mm_code 238 202 = some (.goto (-114), 3, 88, 0, []) := rfl
theorem rw_239_205 : mm_code 238 205 = some (.iload 4, 2, 0, 0, []) := rfl
theorem rw_239_207 : mm_code 238 207 = some (.ifCond .ne 17, 3, 224, 0, []) := rfl
theorem rw_239_210 : mm_code 238 210 = some (.iload 10, 2, 0, 0, []) := rfl
theorem rw_239_212 : mm_code 238 212 = some (.ifCond .ne 7, 3, 219, 0, []) := rfl
theorem rw_239_215 : mm_code 238 215 = some (.iconst 0, 1, 0, 0, []) := rfl
theorem rw_239_216 : mm_code 238 216 = some (.goto 21, 3, 237, 0, []) := rfl
theorem rw_239_219 : mm_code 238 219 = some (.iload 8, 2, 0, 0, []) := rfl
theorem rw_239_221 : mm_code 238 221 = some (.goto 16, 3, 237, 0, []) := rfl
theorem rw_239_224 : mm_code 238 224 = some (.iload 4, 2, 0, 0, []) := rfl
theorem rw_239_226 : mm_code 238 226 = some (.iconst 1, 1, 1, 0, []) := rfl
theorem rw_239_227 : mm_code 238 227 = some (.if_icmp .ne 8, 3, 235, 0, []) := rfl
theorem rw_239_230 : mm_code 238 230 = some (.iload 9, 2, 0, 0, []) := rfl
theorem rw_239_232 : mm_code 238 232 = some (.goto 5, 3, 237, 0, []) := rfl
theorem rw_239_235 : mm_code 238 235 = some (.iload 10, 2, 0, 0, []) := rfl
theorem rw_239_237 : mm_code 238 237 = some (.ireturn, 1, 0, 0, []) := rfl
theorem rw_240_0 : mm_code 239 0 = some (.aload_n 0, 1, 0, 0, []) := rfl
theorem rw_240_1 : mm_code 239 1 = some (.iload_n 1, 1, 0, 0, []) := rfl
theorem rw_240_2 : mm_code 239 2 = some (.iload_n 2, 1, 0, 0, []) := rfl
theorem rw_240_3 : mm_code 239 3 = some (.invokevirtual 451, 3, 231, 3, [142, 0]) := rfl
theorem rw_240_6 : mm_code 239 6 = some (.lstore 5, 2, 0, 0, []) := rfl
theorem rw_240_8 : mm_code 239 8 = some (.iconst 0, 1, 0, 0, []) := rfl
theorem rw_240_9 : mm_code 239 9 = some (.istore 7, 2, 0, 0, []) := rfl
theorem rw_240_11 : mm_code 239 11 = some (.iconst 0, 1, 0, 0, []) := rfl
theorem rw_240_12 : mm_code 239 12 = some (.istore 8, 2, 0, 0, []) := rfl
theorem rw_240_14 : mm_code 239 14 = some (.iconst (-1), 1, 1, 1, []) := rfl
theorem rw_240_15 : mm_code 239 15 = some (.istore 9, 2, 0, 0, []) := rfl
theorem rw_240_17 : mm_code 239 17 = some (.iconst 0, 1, 0, 0, []) := rfl
theorem rw_240_18 : mm_code 239 18 = some (.istore 10, 2, 0, 0, []) := rfl
theorem rw_240_20 : mm_code 239 20 = some (.iload 10, 2, 0, 0, []) := rfl
theorem rw_240_22 : mm_code 239 22 = some (.aload_n 0, 1, 0, 0, []) := rfl
theorem rw_240_23 : mm_code 239 23 = some (.getfield 32, 3, 11, 21, [3, 8]) := rfl
theorem rw_240_26 : mm_code 239 26 = some (.iload_n 2, 1, 0, 0, []) := rfl
theorem rw_240_27 : mm_code 239 27 = some (.iaload, 1, 0, 0, []) := rfl
theorem rw_240_28 : mm_code 239 28 = some (.if_icmp .ge 67, 3, 95, 0, []) := rfl
theorem rw_240_31 : mm_code 239 31 = some (.aload_n 0, 1, 0, 0, []) := rfl
theorem rw_240_32 : mm_code 239 32 = some (.iload_n 2, 1, 0, 0, []) := rfl
theorem rw_240_33 : mm_code 239 33 = some (.iload 10, 2, 0, 0, []) := rfl
theorem rw_240_35 : mm_code 239 35 = some (.invokevirtual 308, 3, 182, 3, [96, 0]) := rfl
theorem rw_240_38 : mm_code 239 38 = some (.lstore 11, 2, 0, 0, []) := rfl
theorem rw_240_40 : mm_code 239 40 = some (.lload 11, 2, 0, 0, []) := rfl
theorem rw_240_42 : mm_code 239 42 = some (.lload 5, 2, 0, 0, []) := rfl
theorem rw_240_44 : mm_code 239 44 = some (.ldc2_w 315, 3, 1, 1, [98]) := rfl
theorem rw_240_47 : mm_code 239 47 = some (.lxor, 1, 0, 0, []) := rfl
theorem rw_240_48 : mm_code 239 48 = some (.land, 1, 0, 0, []) := rfl
theorem rw_240_49 : mm_code 239 49 = some (.lconst 0, 1, 0, 0, []) := rfl
theorem rw_240_50 : mm_code 239 50 = some (.lcmp, 1, 0, 0, []) := rfl
theorem rw_240_51 : mm_code 239 51 = some (.ifCond .ne 38, 3, 89, 0, []) := rfl
theorem rw_240_54 : mm_code 239 54 = some (.lload 5, 2, 0, 0, []) := rfl
theorem rw_240_56 : mm_code 239 56 = some (.lload 11, 2, 0, 0, []) := rfl
theorem rw_240_58 : mm_code 239 58 = some (.ldc2_w 315, 3, 1, 1, [98]) := rfl
theorem rw_240_61 : mm_code 239 61 = some (.lxor, 1, 0, 0, []) := rfl
theorem rw_240_62 : mm_code 239 62 = some (.land, 1, 0, 0, []) := rfl
theorem rw_240_63 : mm_code 239 63 = some (.invokestatic 339, 3, 150, 1, [106, 0]) := rfl
theorem rw_240_66 : mm_code 239 66 = some (.iload_n 3, 1, 0, 0, []) := rfl
theorem rw_240_67 : mm_code 239 67 = some (.if_icmp .le 6, 3, 73, 0, []) := rfl
theorem rw_240_70 : mm_code 239 70 = some (.goto 19, 3, 89, 0, []) := rfl
theorem rw_240_73 : mm_code 239 73 = some (.iload 7, 2, 0, 0, []) := rfl
theorem rw_240_75 : mm_code 239 75 = some (.iconst 1, 1, 1, 0, []) := rfl
theorem rw_240_76 : mm_code 239 76 = some (.iload 10, 2, 0, 0, []) := rfl
theorem rw_240_78 : mm_code 239 78 = some (.ishl, 1, 0, 0, []) := rfl
theorem rw_240_79 : mm_code 239 79 = some (.ior, 1, 0, 0, []) := rfl
theorem rw_240_80 : mm_code 239 80 = some (.istore 7, 2, 0, 0, []) := rfl
theorem rw_240_82 : mm_code 239 82 = some (.iload 10, 2, 0, 0, []) := rfl
theorem rw_240_84 : mm_code 239 84 = some (.istore 9, 2, 0, 0, []) := rfl
theorem rw_240_86 : mm_code 239 86 = some (.iinc 8 1, 3, 1, 0, []) := rfl
theorem rw_240_89 : mm_code 239 89 = some (.iinc 10 1, 3, 1, 0, []) := rfl
theorem rw_240_92 : mm_code 239 92 = some (.goto (-72), 3, 20, 0, []) := rfl
theorem rw_240_95 : mm_code 239 95 = some (.iload 4, 2, 0, 0, []) := rfl
theorem rw_240_97 : mm_code 239 97 = some (.ifCond .ne 18, 3, 115, 0, []) := rfl
theorem rw_240_100 : mm_code 239 100 = some (.iload 8, 2, 0, 0, []) := rfl
theorem rw_240_102 : mm_code 239 102 = some (.iconst 1, 1, 1, 0, []) := rfl
theorem rw_240_103 : mm_code 239 103 = some (.if_icmp .ne 8, 3, 111, 0, []) := rfl
theorem rw_240_106 : mm_code 239 106 = some (.iload 9, 2, 0, 0, []) := rfl
theorem rw_240_108 : mm_code 239 108 = some (.goto 20, 3, 128, 0, []) := rfl
theorem rw_240_111 : mm_code 239 111 = some (.iconst (-1), 1, 1, 1, []) := rfl
theorem rw_240_112 : mm_code 239 112 = some (.goto 16, 3, 128, 0, []) := rfl
theorem rw_240_115 : mm_code 239 115 = some (.iload 4, 2, 0, 0, []) := rfl
theorem rw_240_117 : mm_code 239 117 = some (.iconst 1, 1, 1, 0, []) := rfl
theorem rw_240_118 : mm_code 239 118 = some (.if_icmp .ne 8, 3, 126, 0, []) := rfl
theorem rw_240_121 : mm_code 239 121 = some (.iload 7, 2, 0, 0, []) := rfl
theorem rw_240_123 : mm_code 239 123 = some (.goto 5, 3, 128, 0, []) := rfl
theorem rw_240_126 : mm_code 239 126 = some (.iload 8, 2, 0, 0, []) := rfl
theorem rw_240_128 : mm_code 239 128 = some (.ireturn, 1, 0, 0, []) := rfl
theorem rw_241_0 : mm_code 240 0 = some (.aload_n 0, 1, 0, 0, []) := rfl
theorem rw_241_1 : mm_code 240 1 = some (.getfield 73, 3, 11, 37, [3, 21]) := rfl
theorem rw_241_4 : mm_code 240 4 = some (.bipush 8, 2, 8, 0, []) := rfl
theorem rw_241_6 : mm_code 240 6 = some (.iload_n 1, 1, 0, 0, []) := rfl
theorem rw_241_7 : mm_code 240 7 = some (.imul, 1, 0, 0, []) := rfl
theorem rw_241_8 : mm_code 240 8 = some (.iload_n 2, 1, 0, 0, []) := rfl
theorem rw_241_9 : mm_code 240 9 = some (.iadd, 1, 0, 0, []) := rfl
theorem rw_241_10 : mm_code 240 10 = some (.iaload, 1, 0, 0, []) := rfl
theorem rw_241_11 : mm_code 240 11 = some (.ireturn, 1, 0, 0, []) := rfl
theorem rw_242_0 : mm_code 241 0 = some (.aload_n 0, 1, 0, 0, []) := rfl
theorem rw_242_1 : mm_code 241 1 = some (.iconst 0, 1, 0, 0, []) := rfl
theorem rw_242_2 : mm_code 241 2 = some (.putfield 163, 3, 11, 2, [0, 51]) := rfl
theorem rw_242_5 : mm_code 241 5 = some (.iload_n 1, 1, 0, 0, []) := rfl
theorem rw_242_6 : mm_code 241 6 = some (.invokestatic 346, 3, 204, 1, [108, 0]) := rfl
theorem rw_242_9 : mm_code 241 9 = some (.ifCond .eq 11, 3, 20, 0, []) := rfl
theorem rw_242_12 : mm_code 241 12 = some (.aload_n 0, 1, 0, 0, []) := rfl
theorem rw_242_13 : mm_code 241 13 = some (.iload_n 2, 1, 0, 0, []) := rfl
theorem rw_242_14 : mm_code 241 14 = some (.invokevirtual 302, 3, 178, 2, [94, 0]) := rfl
theorem rw_242_17 : mm_code 241 17 = some (.ifCond .ne 5, 3, 22, 0, []) := rfl
theorem rw_242_20 : mm_code 241 20 = some (.iconst (-1), 1, 1, 1, []) := rfl
theorem rw_242_21 : mm_code 241 21 = some (.ireturn, 1, 0, 0, []) := rfl
theorem rw_242_22 : mm_code 241 22 = some (.aload_n 0, 1, 0, 0, []) := rfl
theorem rw_242_23 : mm_code 241 23 = some (.aload_n 0, 1, 0, 0, []) := rfl
theorem rw_242_24 : mm_code 241 24 = some (.getfield 242, 3, 11, 29, [0, 76]) := rfl
theorem rw_242_27 : mm_code 241 27 = some (.invokevirtual 326, 3, 188, 2, [102, 0]) := rfl
theorem rw_242_30 : mm_code 241 30 = some (.iconst 0, 1, 0, 0, []) := rfl
theorem rw_242_31 : mm_code 241 31 = some (.istore_n 3, 1, 0, 0, []) := rfl
theorem rw_242_32 : mm_code 241 32 = some (.iconst 0, 1, 0, 0, []) := rfl
theorem rw_242_33 : mm_code 241 33 = some (.istore 4, 2, 0, 0, []) := rfl
theorem rw_242_35 : mm_code 241 35 = some (.iload 4, 2, 0, 0, []) := rfl
theorem rw_242_37 : mm_code 241 37 = some (.aload_n 0, 1, 0, 0, []) := rfl
theorem rw_242_38 : mm_code 241 38 = some (.getfield 82, 3, 11, 40, [3, 24]) := rfl
theorem rw_242_41 : mm_code 241 41 = some (.iload_n 1, 1, 0, 0, []) := rfl
theorem rw_242_42 : mm_code 241 42 = some (.iaload, 1, 0, 0, []) := rfl
theorem rw_242_43 : mm_code 241 43 = some (.if_icmp .ge 128, 3, 171, 0, []) := rfl
theorem rw_242_46 : mm_code 241 46 = some (.aload_n 0, 1, 0, 0, []) := rfl
theorem rw_242_47 : mm_code 241 47 = some (.getfield 142, 3, 11, 73, [3, 44]) := rfl
theorem rw_242_50 : mm_code 241 50 = some (.iload 4, 2, 0, 0, []) := rfl
theorem rw_242_52 : mm_code 241 52 = some (.iconst 1, 1, 1, 0, []) := rfl
theorem rw_242_53 : mm_code 241 53 = some (.iastore, 1, 0, 0, []) := rfl
theorem rw_242_54 : mm_code 241 54 = some (.iconst 0, 1, 0, 0, []) := rfl
theorem rw_242_55 : mm_code 241 55 = some (.istore 5, 2, 0, 0, []) := rfl
theorem rw_242_57 : mm_code 241 57 = some (.iload 5, 2, 0, 0, []) := rfl
theorem rw_242_59 : mm_code 241 59 = some (.iload 4, 2, 0, 0, []) := rfl
theorem rw_242_61 : mm_code 241 61 = some (.if_icmp .ge 81, 3, 142, 0, []) := rfl
theorem rw_242_64 : mm_code 241 64 = some (.aload_n 0, 1, 0, 0, []) := rfl
theorem rw_242_65 : mm_code 241 65 = some (.aload_n 0, 1, 0, 0, []) := rfl
theorem rw_242_66 : mm_code 241 66 = some (.getfield 79, 3, 11, 39, [3, 23]) := rfl
theorem rw_242_69 : mm_code 241 69 = some (.bipush 30, 2, 30, 0, []) := rfl
theorem rw_242_71 : mm_code 241 71 = some (.iload_n 1, 1, 0, 0, []) := rfl
theorem rw_242_72 : mm_code 241 72 = some (.imul, 1, 0, 0, []) := rfl
theorem rw_242_73 : mm_code 241 73 = some (.iload 5, 2, 0, 0, []) := rfl
theorem rw_242_75 : mm_code 241 75 = some (.iadd, 1, 0, 0, []) := rfl
theorem rw_242_76 : mm_code 241 76 = some (.iaload, 1, 0, 0, []) := rfl
theorem rw_242_77 : mm_code 241 77 = some (.iload_n 2, 1, 0, 0, []) := rfl
theorem rw_242_78 : mm_code 241 78 = some (.invokevirtual 467, 3, 240, 3, [147, 0]) := rfl
theorem rw_242_81 : mm_code 241 81 = some (.aload_n 0, 1, 0, 0, []) := rfl
theorem rw_242_82 : mm_code 241 82 = some (.aload_n 0, 1, 0, 0, []) := rfl
theorem rw_242_83 : mm_code 241 83 = some (.getfield 79, 3, 11, 39, [3, 23]) := rfl
theorem rw_242_86 : mm_code 241 86 = some (.bipush 30, 2, 30, 0, []) := rfl
theorem rw_242_88 : mm_code 241 88 = some (.iload_n 1, 1, 0, 0, []) := rfl
theorem rw_242_89 : mm_code 241 89 = some (.imul, 1, 0, 0, []) := rfl
theorem rw_242_90 : mm_code 241 90 = some (.iload 4, 2, 0, 0, []) := rfl
theorem rw_242_92 : mm_code 241 92 = some (.iadd, 1, 0, 0, []) := rfl
theorem rw_242_93 : mm_code 241 93 = some (.iaload, 1, 0, 0, []) := rfl
theorem rw_242_94 : mm_code 241 94 = some (.iload_n 2, 1, 0, 0, []) := rfl
theorem rw_242_95 : mm_code 241 95 = some (.invokevirtual 467, 3, 240, 3, [147, 0]) := rfl
theorem rw_242_98 : mm_code 241 98 = some (.if_icmp .gt 38, 3, 136, 0, []) := rfl
theorem rw_242_101 : mm_code 241 101 = some (.aload_n 0, 1, 0, 0, []) := rfl
theorem rw_242_102 : mm_code 241 102 = some (.getfield 142, 3, 11, 73, [3, 44]) := rfl
theorem rw_242_105 : mm_code 241 105 = some (.iload 5, 2, 0, 0, []) := rfl
theorem rw_242_107 : mm_code 241 107 = some (.iaload, 1, 0, 0, []) := rfl
theorem rw_242_108 : mm_code 241 108 = some (.iconst 1, 1, 1, 0, []) := rfl
theorem rw_242_109 : mm_code 241 109 = some (.iadd, 1, 0, 0, []) := rfl
theorem rw_242_110 : mm_code 241 110 = some (.aload_n 0, 1, 0, 0, []) := rfl
theorem rw_242_111 : mm_code 241 111 = some (.getfield 142, 3, 11, 73, [3, 44]) := rfl
theorem rw_242_114 : mm_code 241 114 = some (.iload 4, 2, 0, 0, []) := rfl
theorem rw_242_116 : mm_code 241 116 = some (.iaload, 1, 0, 0, []) := rfl
theorem rw_242_117 : mm_code 241 117 = some (.if_icmp .le 19, 3, 136, 0, []) := rfl
theorem rw_242_120 : mm_code 241 120 = some (.aload_n 0, 1, 0, 0, []) := rfl
theorem rw_242_121 : mm_code 241 121 = some (.getfield 142, 3, 11, 73, [3, 44]) := rfl
theorem rw_242_124 : mm_code 241 124 = some (.iload 4, 2, 0, 0, []) := rfl
theorem rw_242_126 : mm_code 241 126 = some (.aload_n 0, 1, 0, 0, []) := rfl
theorem rw_242_127 : mm_code 241 127 = some (.getfield 142, 3, 11, 73, [3, 44]) := rfl
theorem rw_242_130 : mm_code 241 130 = some (.iload 5, 2, 0, 0, []) := rfl
theorem rw_242_132 : mm_code 241 132 = some (.iaload, 1, 0, 0, []) := rfl
theorem rw_242_133 : mm_code 241 133 = some (.iconst 1, 1, 1, 0, []) := rfl
theorem rw_242_134 : mm_code 241 134 = some (.iadd, 1, 0, 0, []) := rfl
theorem rw_242_135 : mm_code 241 135 = some (.iastore, 1, 0, 0, []) := rfl
theorem rw_242_136 : mm_code 241 136 = some (.iinc 5 1, 3, 1, 0, []) := rfl
theorem rw_242_139 : mm_code 241 139 = some (.goto (-82), 3, 57, 0, []) := rfl
theorem rw_242_142 : mm_code 241 142 = some (.aload_n 0, 1, 0, 0, []) := rfl
theorem rw_242_143 : mm_code 241 143 = some (.getfield 142, 3, 11, 73, [3, 44]) := rfl
theorem rw_242_146 : mm_code 241 146 = some (.iload 4, 2, 0, 0, []) := rfl
theorem rw_242_148 : mm_code 241 148 = some (.iaload, 1, 0, 0, []) := rfl
theorem rw_242_149 : mm_code 241 149 = some (.iload_n 3, 1, 0, 0, []) := rfl
theorem rw_242_150 : mm_code 241 150 = some (.if_icmp .le 13, 3, 163, 0, []) := rfl
theorem rw_242_153 : mm_code 241 153 = some (.aload_n 0, 1, 0, 0, []) := rfl
theorem rw_242_154 : mm_code 241 154 = some (.getfield 142, 3, 11, 73, [3, 44]) := rfl
theorem rw_242_157 : mm_code 241 157 = some (.iload 4, 2, 0, 0, []) := rfl
theorem rw_242_159 : mm_code 241 159 = some (.iaload, 1, 0, 0, []) := rfl
theorem rw_242_160 : mm_code 241 160 = some (.goto 4, 3, 164, 0, []) := rfl
theorem rw_242_163 : mm_code 241 163 = some (.iload_n 3, 1, 0, 0, []) := rfl
theorem rw_242_164 : mm_code 241 164 = some (.istore_n 3, 1, 0, 0, []) := rfl
theorem rw_242_165 : mm_code 241 165 = some (.iinc 4 1, 3, 1, 0, []) := rfl
theorem rw_242_168 : mm_code 241 168 = some (.goto (-133), 3, 35, 0, []) := rfl
theorem rw_242_171 : mm_code 241 171 = some (.aload_n 0, 1, 0, 0, []) := rfl
theorem rw_242_172 : mm_code 241 172 = some (.getfield 82, 3, 11, 40, [3, 24]) := rfl
theorem rw_242_175 : mm_code 241 175 = some (.iload_n 1, 1, 0, 0, []) := rfl
theorem rw_242_176 : mm_code 241 176 = some (.iaload, 1, 0, 0, []) := rfl
theorem rw_242_177 : mm_code 241 177 = some (.iload_n 3, 1, 0, 0, []) := rfl
theorem rw_242_178 : mm_code 241 178 = some (.isub, 1, 0, 0, []) := rfl
theorem rw_242_179 : mm_code 241 179 = some (.ireturn, 1, 0, 0, []) := rfl
theorem rw_243_0 : mm_code 242 0 = some (.aload_n 0, 1, 0, 0, []) := rfl
theorem rw_243_1 : mm_code 242 1 = some (.getfield 82, 3, 11, 40, [3, 24]) := rfl
theorem rw_243_4 : mm_code 242 4 = some (.iload_n 1, 1, 0, 0, []) := rfl
theorem rw_243_5 : mm_code 242 5 = some (.iaload, 1, 0, 0, []) := rfl
theorem rw_243_6 : mm_code 242 6 = some (.istore 4, 2, 0, 0, []) := rfl
theorem rw_243_8 : mm_code 242 8 = some (.iconst 0, 1, 0, 0, []) := rfl
theorem rw_243_9 : mm_code 242 9 = some (.istore 5, 2, 0, 0, []) := rfl
theorem rw_243_11 : mm_code 242 11 = some (.iload 5, 2, 0, 0, []) := rfl
theorem rw_243_13 : mm_code 242 13 = some (.iload 4, 2, 0, 0, []) := rfl
theorem rw_243_15 : mm_code 242 15 = some (.if_icmp .ge 28, 3, 43, 0, []) := rfl
theorem rw_243_18 : mm_code 242 18 = some (.aload_n 0, 1, 0, 0, []) := rfl
theorem rw_243_19 : mm_code 242 19 = some (.getfield 145, 3, 11, 74, [3, 45]) := rfl
theorem rw_243_22 : mm_code 242 22 = some (.iload 5, 2, 0, 0, []) := rfl
theorem rw_243_24 : mm_code 242 24 = some (.aload_n 0, 1, 0, 0, []) := rfl
theorem rw_243_25 : mm_code 242 25 = some (.getfield 79, 3, 11, 39, [3, 23]) := rfl
theorem rw_243_28 : mm_code 242 28 = some (.bipush 30, 2, 30, 0, []) := rfl
theorem rw_243_30 : mm_code 242 30 = some (.iload_n 1, 1, 0, 0, []) := rfl
theorem rw_243_31 : mm_code 242 31 = some (.imul, 1, 0, 0, []) := rfl
theorem rw_243_32 : mm_code 242 32 = some (.iload 5, 2, 0, 0, []) := rfl
theorem rw_243_34 : mm_code 242 34 = some (.iadd, 1, 0, 0, []) := rfl
theorem rw_243_35 : mm_code 242 35 = some (.iaload, 1, 0, 0, []) := rfl
theorem rw_243_36 : mm_code 242 36 = some (.iastore, 1, 0, 0, []) := rfl
theorem rw_243_37 : mm_code 242 37 = some (.iinc 5 1, 3, 1, 0, []) := rfl
theorem rw_243_40 : mm_code 242 40 = some (.goto (-29), 3, 11, 0, []) := rfl
theorem rw_243_43 : mm_code 242 43 = some (.iconst 0, 1, 0, 0, []) := rfl
theorem rw_243_44 : mm_code 242 44 = some (.istore 5, 2, 0, 0, []) := rfl
theorem rw_243_46 : mm_code 242 46 = some (.iload 5, 2, 0, 0, []) := rfl
theorem rw_243_48 : mm_code 242 48 = some (.iload_n 3, 1, 0, 0, []) := rfl
theorem rw_243_49 : mm_code 242 49 = some (.if_icmp .ge 166, 3, 215, 0, []) := rfl
theorem rw_243_52 : mm_code 242 52 = some (.iconst 0, 1, 0, 0, []) := rfl
theorem rw_243_53 : mm_code 242 53 = some (.istore 6, 2, 0, 0, []) := rfl
theorem rw_243_55 : mm_code 242 55 = some (.iconst 0, 1, 0, 0, []) := rfl
theorem rw_243_56 : mm_code 242 56 = some (.istore 7, 2, 0, 0, []) := rfl
theorem rw_243_58 : mm_code 242 58 = some (.iload 7, 2, 0, 0, []) := rfl
theorem rw_243_60 : mm_code 242 60 = some (.iload 4, 2, 0, 0, []) := rfl
theorem rw_243_62 : mm_code 242 62 = some (.if_icmp .ge 55, 3, 117, 0, []) := rfl
theorem rw_243_65 : mm_code 242 65 = some (.aload_n 0, 1, 0, 0, []) := rfl
theorem rw_243_66 : mm_code 242 66 = some (.getfield 154, 3, 11, 77, [3, 48]) := rfl
theorem rw_243_69 : mm_code 242 69 = some (.bipush 6, 2, 6, 0, []) := rfl
theorem rw_243_71 : mm_code 242 71 = some (.aload_n 0, 1, 0, 0, []) := rfl
theorem rw_243_72 : mm_code 242 72 = some (.getfield 145, 3, 11, 74, [3, 45]) := rfl
theorem rw_243_75 : mm_code 242 75 = some (.iload 7, 2, 0, 0, []) := rfl
theorem rw_243_77 : mm_code 242 77 = some (.iaload, 1, 0, 0, []) := rfl
theorem rw_243_78 : mm_code 242 78 = some (.imul, 1, 0, 0, []) := rfl
theorem rw_243_79 : mm_code 242 79 = some (.aload_n 0, 1, 0, 0, []) := rfl
theorem rw_243_80 : mm_code 242 80 = some (.getfield 151, 3, 11, 76, [3, 47]) := rfl
theorem rw_243_83 : mm_code 242 83 = some (.iload 5, 2, 0, 0, []) := rfl
theorem rw_243_85 : mm_code 242 85 = some (.iaload, 1, 0, 0, []) := rfl
theorem rw_243_86 : mm_code 242 86 = some (.iadd, 1, 0, 0, []) := rfl
theorem rw_243_87 : mm_code 242 87 = some (.baload, 1, 0, 0, []) := rfl
theorem rw_243_88 : mm_code 242 88 = some (.ifCond .eq 6, 3, 94, 0, []) := rfl
theorem rw_243_91 : mm_code 242 91 = some (.goto 20, 3, 111, 0, []) := rfl
theorem rw_243_94 : mm_code 242 94 = some (.aload_n 0, 1, 0, 0, []) := rfl
theorem rw_243_95 : mm_code 242 95 = some (.getfield 148, 3, 11, 75, [3, 46]) := rfl
theorem rw_243_98 : mm_code 242 98 = some (.iload 6, 2, 0, 0, []) := rfl
theorem rw_243_100 : mm_code 242 100 = some (.aload_n 0, 1, 0, 0, []) := rfl
theorem rw_243_101 : mm_code 242 101 = some (.getfield 145, 3, 11, 74, [3, 45]) := rfl
theorem rw_243_104 : mm_code 242 104 = some (.iload 7, 2, 0, 0, []) := rfl
theorem rw_243_106 : mm_code 242 106 = some (.iaload, 1, 0, 0, []) := rfl
theorem rw_243_107 : mm_code 242 107 = some (.iastore, 1, 0, 0, []) := rfl
theorem rw_243_108 : mm_code 242 108 = some (.iinc 6 1, 3, 1, 0, []) := rfl
theorem rw_243_111 : mm_code 242 111 = some (.iinc 7 1, 3, 1, 0, []) := rfl
theorem rw_243_114 : mm_code 242 114 = some (.goto (-56), 3, 58, 0, []) := rfl
theorem rw_243_117 : mm_code 242 117 = some (.iconst 0, 1, 0, 0, []) := rfl
theorem rw_243_118 : mm_code 242 118 = some (.istore 7, 2, 0, 0, []) := rfl
theorem rw_243_120 : mm_code 242 120 = some (.iload 7, 2, 0, 0, []) := rfl
theorem rw_243_122 : mm_code 242 122 = some (.iload 4, 2, 0, 0, []) := rfl
theorem rw_243_124 : mm_code 242 124 = some (.if_icmp .ge 55, 3, 179, 0, []) := rfl
theorem rw_243_127 : mm_code 242 127 = some (.aload_n 0, 1, 0, 0, []) := rfl
theorem rw_243_128 : mm_code 242 128 = some (.getfield 154, 3, 11, 77, [3, 48]) := rfl
theorem rw_243_131 : mm_code 242 131 = some (.bipush 6, 2, 6, 0, []) := rfl
theorem rw_243_133 : mm_code 242 133 = some (.aload_n 0, 1, 0, 0, []) := rfl
theorem rw_243_134 : mm_code 242 134 = some (.getfield 145, 3, 11, 74, [3, 45]) := rfl
theorem rw_243_137 : mm_code 242 137 = some (.iload 7, 2, 0, 0, []) := rfl
theorem rw_243_139 : mm_code 242 139 = some (.iaload, 1, 0, 0, []) := rfl
theorem rw_243_140 : mm_code 242 140 = some (.imul, 1, 0, 0, []) := rfl
theorem rw_243_141 : mm_code 242 141 = some (.aload_n 0, 1, 0, 0, []) := rfl
theorem rw_243_142 : mm_code 242 142 = some (.getfield 151, 3, 11, 76, [3, 47]) := rfl
theorem rw_243_145 : mm_code 242 145 = some (.iload 5, 2, 0, 0, []) := rfl
theorem rw_243_147 : mm_code 242 147 = some (.iaload, 1, 0, 0, []) := rfl
theorem rw_243_148 : mm_code 242 148 = some (.iadd, 1, 0, 0, []) := rfl
theorem rw_243_149 : mm_code 242 149 = some (.baload, 1, 0, 0, []) := rfl
theorem rw_243_150 : mm_code 242 150 = some (.ifCond .ne 6, 3, 156, 0, []) := rfl
theorem rw_243_153 : mm_code 242 153 = some (.goto 20, 3, 173, 0, []) := rfl
theorem rw_243_156 : mm_code 242 156 = some (.aload_n 0, 1, 0, 0, []) := rfl
theorem rw_243_157 : mm_code 242 157 = some (.getfield 148, 3, 11, 75, [3, 46]) := rfl
theorem rw_243_160 : mm_code 242 160 = some (.iload 6, 2, 0, 0, []) := rfl
theorem rw_243_162 : mm_code 242 162 = some (.aload_n 0, 1, 0, 0, []) := rfl
theorem rw_243_163 : mm_code 242 163 = some (.getfield 145, 3, 11, 74, [3, 45]) := rfl
theorem rw_243_166 : mm_code 242 166 = some (.iload 7, 2, 0, 0, []) := rfl
theorem rw_243_168 : mm_code 242 168 = some (.iaload, 1, 0, 0, []) := rfl
theorem rw_243_169 : mm_code 242 169 = some (.iastore, 1, 0, 0, []) := rfl
theorem rw_243_170 : mm_code 242 170 = some (.iinc 6 1, 3, 1, 0, []) := rfl
theorem rw_243_173 : mm_code 242 173 = some (.iinc 7 1, 3, 1, 0, []) := rfl
theorem rw_243_176 : mm_code 242 176 = some (.goto (-56), 3, 120, 0, []) := rfl
theorem rw_243_179 : mm_code 242 179 = some (.iconst 0, 1, 0, 0, []) := rfl
theorem rw_243_180 : mm_code 242 180 = some (.istore 7, 2, 0, 0, []) := rfl
theorem rw_243_182 : mm_code 242 182 = some (.iload 7, 2, 0, 0, []) := rfl
theorem rw_243_184 : mm_code 242 184 = some (.iload 4, 2, 0, 0, []) := rfl
theorem rw_243_186 : mm_code 242 186 = some (.if_icmp .ge 23, 3, 209, 0, []) := rfl
theorem rw_243_189 : mm_code 242 189 = some (.aload_n 0, 1, 0, 0, []) := rfl
theorem rw_243_190 : mm_code 242 190 = some (.getfield 145, 3, 11, 74, [3, 45]) := rfl
theorem rw_243_193 : mm_code 242 193 = some (.iload 7, 2, 0, 0, []) := rfl
theorem rw_243_195 : mm_code 242 195 = some (.aload_n 0, 1, 0, 0, []) := rfl
theorem rw_243_196 : mm_code 242 196 = some (.getfield 148, 3, 11, 75, [3, 46]) := rfl
theorem rw_243_199 : mm_code 242 199 = some (.iload 7, 2, 0, 0, []) := rfl
theorem rw_243_201 : mm_code 242 201 = some (.iaload, 1, 0, 0, []) := rfl
theorem rw_243_202 : mm_code 242 202 = some (.iastore, 1, 0, 0, []) := rfl
theorem rw_243_203 : mm_code 242 203 = some (.iinc 7 1, 3, 1, 0, []) := rfl
theorem rw_243_206 : mm_code 242 206 = some (.goto (-24), 3, 182, 0, []) := rfl
theorem rw_243_209 : mm_code 242 209 = some (.iinc 5 1, 3, 1, 0, []) := rfl
theorem rw_243_212 : mm_code 242 212 = some (.goto (-166), 3, 46, 0, []) := rfl
theorem rw_243_215 : mm_code 242 215 = some (.iconst 1, 1, 1, 0, []) := rfl
theorem rw_243_216 : mm_code 242 216 = some (.istore 5, 2, 0, 0, []) := rfl
theorem rw_243_218 : mm_code 242 218 = some (.iload 5, 2, 0, 0, []) := rfl
theorem rw_243_220 : mm_code 242 220 = some (.iload 4, 2, 0, 0, []) := rfl
theorem rw_243_222 : mm_code 242 222 = some (.if_icmp .ge 40, 3, 262, 0, []) := rfl
theorem rw_243_225 : mm_code 242 225 = some (.aload_n 0, 1, 0, 0, []) := rfl
theorem rw_243_226 : mm_code 242 226 = some (.aload_n 0, 1, 0, 0, []) := rfl
theorem rw_243_227 : mm_code 242 227 = some (.getfield 145, 3, 11, 74, [3, 45]) := rfl
theorem rw_243_230 : mm_code 242 230 = some (.iload 5, 2, 0, 0, []) := rfl
theorem rw_243_232 : mm_code 242 232 = some (.iconst 1, 1, 1, 0, []) := rfl
theorem rw_243_233 : mm_code 242 233 = some (.isub, 1, 0, 0, []) := rfl
theorem rw_243_234 : mm_code 242 234 = some (.iaload, 1, 0, 0, []) := rfl
theorem rw_243_235 : mm_code 242 235 = some (.iload_n 2, 1, 0, 0, []) := rfl
theorem rw_243_236 : mm_code 242 236 = some (.invokevirtual 467, 3, 240, 3, [147, 0]) := rfl
theorem rw_243_239 : mm_code 242 239 = some (.aload_n 0, 1, 0, 0, []) := rfl
theorem rw_243_240 : mm_code 242 240 = some (.aload_n 0, 1, 0, 0, []) := rfl
theorem rw_243_241 : mm_code 242 241 = some (.getfield 145, 3, 11, 74, [3, 45]) := rfl
theorem rw_243_244 : mm_code 242 244 = some (.iload 5, 2, 0, 0, []) := rfl
theorem rw_243_246 : mm_code 242 246 = some (.iaload, 1, 0, 0, []) := rfl
theorem rw_243_247 : mm_code 242 247 = some (.iload_n 2, 1, 0, 0, []) := rfl
theorem rw_243_248 : mm_code 242 248 = some (.invokevirtual 467, 3, 240, 3, [147, 0]) := rfl
theorem rw_243_251 : mm_code 242 251 = some (.if_icmp .le 5, 3, 256, 0, []) := rfl
theorem rw_243_254 : mm_code 242 254 = some (.iconst 0, 1, 0, 0, []) := rfl
theorem rw_243_255 : mm_code 242 255 = some (.ireturn, 1, 1, 0, []) := rfl
theorem rw_243_256 : mm_code 242 256 = some (.iinc 5 1, 3, 1, 0, []) := rfl
theorem rw_243_259 : mm_code 242 259 = some (.goto (-41), 3, 218, 0, []) := rfl
theorem rw_243_262 : mm_code 242 262 = some (.iconst 1, 1, 1, 0, []) := rfl
theorem rw_243_263 : mm_code 242 263 = some (.ireturn, 1, 1, 0, []) := rfl
theorem rw_244_0 : mm_code 243 0 = some (.iconst 0, 1, 0, 0, []) := rfl
theorem rw_244_1 : mm_code 243 1 = some (.istore_n 3, 1, 0, 0, []) := rfl
theorem rw_244_2 : mm_code 243 2 = some (.iconst 0, 1, 0, 0, []) := rfl
theorem rw_244_3 : mm_code 243 3 = some (.istore 4, 2, 0, 0, []) := rfl
theorem rw_244_5 : mm_code 243 5 = some (.iload 4, 2, 0, 0, []) := rfl
theorem rw_244_7 : mm_code 243 7 = some (.iload_n 1, 1, 0, 0, []) := rfl
theorem rw_244_8 : mm_code 243 8 = some (.if_icmp .ge 21, 3, 29, 0, []) := rfl
theorem rw_244_11 : mm_code 243 11 = some (.iload_n 2, 1, 0, 0, []) := rfl
theorem rw_244_12 : mm_code 243 12 = some (.iload_n 3, 1, 0, 0, []) := rfl
theorem rw_244_13 : mm_code 243 13 = some (.imul, 1, 0, 0, []) := rfl
theorem rw_244_14 : mm_code 243 14 = some (.aload_n 0, 1, 0, 0, []) := rfl
theorem rw_244_15 : mm_code 243 15 = some (.getfield 151, 3, 11, 76, [3, 47]) := rfl
theorem rw_244_18 : mm_code 243 18 = some (.iload 4, 2, 0, 0, []) := rfl
theorem rw_244_20 : mm_code 243 20 = some (.iaload, 1, 0, 0, []) := rfl
theorem rw_244_21 : mm_code 243 21 = some (.iadd, 1, 0, 0, []) := rfl
theorem rw_244_22 : mm_code 243 22 = some (.istore_n 3, 1, 0, 0, []) := rfl
theorem rw_244_23 : mm_code 243 23 = some (.iinc 4 1, 3, 1, 0, []) := rfl
theorem rw_244_26 : mm_code 243 26 = some (.goto (-21), 3, 5, 0, []) := rfl
theorem rw_244_29 : mm_code 243 29 = some (.iconst 1, 1, 1, 0, []) := rfl
theorem rw_244_30 : mm_code 243 30 = some (.istore 4, 2, 0, 0, []) := rfl
theorem rw_244_32 : mm_code 243 32 = some (.iconst 0, 1, 0, 0, []) := rfl
theorem rw_244_33 : mm_code 243 33 = some (.istore 5, 2, 0, 0, []) := rfl
theorem rw_244_35 : mm_code 243 35 = some (.iload 5, 2, 0, 0, []) := rfl
theorem rw_244_37 : mm_code 243 37 = some (.iload_n 1, 1, 0, 0, []) := rfl
theorem rw_244_38 : mm_code 243 38 = some (.if_icmp .ge 15, 3, 53, 0, []) := rfl
theorem rw_244_41 : mm_code 243 41 = some (.iload 4, 2, 0, 0, []) := rfl
theorem rw_244_43 : mm_code 243 43 = some (.iload_n 2, 1, 0, 0, []) := rfl
theorem rw_244_44 : mm_code 243 44 = some (.imul, 1, 0, 0, []) := rfl
theorem rw_244_45 : mm_code 243 45 = some (.istore 4, 2, 0, 0, []) := rfl
theorem rw_244_47 : mm_code 243 47 = some (.iinc 5 1, 3, 1, 0, []) := rfl
theorem rw_244_50 : mm_code 243 50 = some (.goto (-15), 3, 35, 0, []) := rfl
theorem rw_244_53 : mm_code 243 53 = some (.iload_n 3, 1, 0, 0, []) := rfl
theorem rw_244_54 : mm_code 243 54 = some (.iconst 1, 1, 1, 0, []) := rfl
theorem rw_244_55 : mm_code 243 55 = some (.iadd, 1, 0, 0, []) := rfl
theorem rw_244_56 : mm_code 243 56 = some (.istore 5, 2, 0, 0, []) := rfl
theorem rw_244_58 : mm_code 243 58 = some (.iload 5, 2, 0, 0, []) := rfl
theorem rw_244_60 : mm_code 243 60 = some (.iload 4, 2, 0, 0, []) := rfl
theorem rw_244_62 : mm_code 243 62 = some (.if_icmp .ge 75, 3, 137, 0, []) := rfl
theorem rw_244_65 : mm_code 243 65 = some (.iload 5, 2, 0, 0, []) := rfl
theorem rw_244_67 : mm_code 243 67 = some (.istore 6, 2, 0, 0, []) := rfl
theorem rw_244_69 : mm_code 243 69 = some (.iconst 0, 1, 0, 0, []) := rfl
theorem rw_244_70 : mm_code 243 70 = some (.istore 7, 2, 0, 0, []) := rfl
theorem rw_244_72 : mm_code 243 72 = some (.iload_n 1, 1, 0, 0, []) := rfl
theorem rw_244_73 : mm_code 243 73 = some (.iconst 1, 1, 1, 0, []) := rfl
theorem rw_244_74 : mm_code 243 74 = some (.isub, 1, 0, 0, []) := rfl
theorem rw_244_75 : mm_code 243 75 = some (.istore 8, 2, 0, 0, []) := rfl
theorem rw_244_77 : mm_code 243 77 = some (.iload 8, 2, 0, 0, []) := rfl
theorem rw_244_79 : mm_code 243 79 = some (.ifCond .lt 40, 3, 119, 0, []) := rfl
theorem rw_244_82 : mm_code 243 82 = some (.aload_n 0, 1, 0, 0, []) := rfl
theorem rw_244_83 : mm_code 243 83 = some (.getfield 151, 3, 11, 76, [3, 47]) := rfl
theorem rw_244_86 : mm_code 243 86 = some (.iload 8, 2, 0, 0, []) := rfl
theorem rw_244_88 : mm_code 243 88 = some (.iload 6, 2, 0, 0, []) := rfl
theorem rw_244_90 : mm_code 243 90 = some (.iload_n 2, 1, 0, 0, []) := rfl
theorem rw_244_91 : mm_code 243 91 = some (.irem, 1, 0, 0, []) := rfl
theorem rw_244_92 : mm_code 243 92 = some (.iastore, 1, 0, 0, []) := rfl
theorem rw_244_93 : mm_code 243 93 = some (.iload 7, 2, 0, 0, []) := rfl
theorem rw_244_95 : mm_code 243 95 = some (.iconst 1, 1, 1, 0, []) := rfl
theorem rw_244_96 : mm_code 243 96 = some (.aload_n 0, 1, 0, 0, []) := rfl
theorem rw_244_97 : mm_code 243 97 = some (.getfield 151, 3, 11, 76, [3, 47]) := rfl
theorem rw_244_100 : mm_code 243 100 = some (.iload 8, 2, 0, 0, []) := rfl
theorem rw_244_102 : mm_code 243 102 = some (.iaload, 1, 0, 0, []) := rfl
theorem rw_244_103 : mm_code 243 103 = some (.ishl, 1, 0, 0, []) := rfl
theorem rw_244_104 : mm_code 243 104 = some (.ior, 1, 0, 0, []) := rfl
theorem rw_244_105 : mm_code 243 105 = some (.istore 7, 2, 0, 0, []) := rfl
theorem rw_244_107 : mm_code 243 107 = some (.iload 6, 2, 0, 0, []) := rfl
theorem rw_244_109 : mm_code 243 109 = some (.iload_n 2, 1, 0, 0, []) := rfl
theorem rw_244_110 : mm_code 243 110 = some (.idiv, 1, 0, 0, []) := rfl
theorem rw_244_111 : mm_code 243 111 = some (.istore 6, 2, 0, 0, []) := rfl
theorem rw_244_113 : mm_code 243 113 = some (.iinc 8 (-1), 3, 1, 1, []) := rfl
theorem rw_244_116 : mm_code 243 116 = some (.goto (-39), 3, 77, 0, []) := rfl
theorem rw_244_119 : mm_code 243 119 = some (.iload 7, 2, 0, 0, []) := rfl
theorem rw_244_121 : mm_code 243 121 = some (.i2l, 1, 0, 0, []) := rfl
theorem rw_244_122 : mm_code 243 122 = some (.invokestatic 339, 3, 150, 1, [106, 0]) := rfl
theorem rw_244_125 : mm_code 243 125 = some (.iload_n 1, 1, 0, 0, []) := rfl
theorem rw_244_126 : mm_code 243 126 = some (.if_icmp .ne 5, 3, 131, 0, []) := rfl
theorem rw_244_129 : mm_code 243 129 = some (.iconst 1, 1, 1, 0, []) := rfl
theorem rw_244_130 : mm_code 243 130 = some (.ireturn, 1, 1, 0, []) := rfl
theorem rw_244_131 : mm_code 243 131 = some (.iinc 5 1, 3, 1, 0, []) := rfl
theorem rw_244_134 : mm_code 243 134 = some (.goto (-76), 3, 58, 0, []) := rfl
theorem rw_244_137 : mm_code 243 137 = some (.iconst 0, 1, 0, 0, []) := rfl
theorem rw_244_138 : mm_code 243 138 = some (.ireturn, 1, 1, 0, []) := rfl
theorem rw_245_0 : mm_code 244 0 = some (.aload_n 0, 1, 0, 0, []) := rfl
theorem rw_245_1 : mm_code 244 1 = some (.iconst 0, 1, 0, 0, []) := rfl
theorem rw_245_2 : mm_code 244 2 = some (.putfield 163, 3, 11, 2, [0, 51]) := rfl
theorem rw_245_5 : mm_code 244 5 = some (.iload_n 1, 1, 0, 0, []) := rfl
theorem rw_245_6 : mm_code 244 6 = some (.invokestatic 346, 3, 204, 1, [108, 0]) := rfl
theorem rw_245_9 : mm_code 244 9 = some (.ifCond .eq 31, 3, 40, 0, []) := rfl
theorem rw_245_12 : mm_code 244 12 = some (.aload_n 0, 1, 0, 0, []) := rfl
theorem rw_245_13 : mm_code 244 13 = some (.iload_n 2, 1, 0, 0, []) := rfl
theorem rw_245_14 : mm_code 244 14 = some (.invokevirtual 302, 3, 178, 2, [94, 0]) := rfl
theorem rw_245_17 : mm_code 244 17 = some (.ifCond .eq 23, 3, 40, 0, []) := rfl
theorem rw_245_20 : mm_code 244 20 = some (.aload_n 0, 1, 0, 0, []) := rfl
theorem rw_245_21 : mm_code 244 21 = some (.iload_n 2, 1, 0, 0, []) := rfl
theorem rw_245_22 : mm_code 244 22 = some (.invokevirtual 336, 3, 196, 2, [105, 0]) := rfl
theorem rw_245_25 : mm_code 244 25 = some (.bipush 6, 2, 6, 0, []) := rfl
theorem rw_245_27 : mm_code 244 27 = some (.if_icmp .gt 13, 3, 40, 0, []) := rfl
theorem rw_245_30 : mm_code 244 30 = some (.iload_n 3, 1, 0, 0, []) := rfl
theorem rw_245_31 : mm_code 244 31 = some (.iconst 0, 1, 0, 0, []) := rfl
theorem rw_245_32 : mm_code 244 32 = some (.bipush 6, 2, 6, 0, []) := rfl
theorem rw_245_34 : mm_code 244 34 = some (.invokestatic 437, 3, 148, 3, [138, 0]) := rfl
theorem rw_245_37 : mm_code 244 37 = some (.ifCond .ne 5, 3, 42, 0, []) := rfl
theorem rw_245_40 : mm_code 244 40 = some (.iconst (-1), 1, 1, 1, []) := rfl
theorem rw_245_41 : mm_code 244 41 = some (.ireturn, 1, 0, 0, []) := rfl
theorem rw_245_42 : mm_code 244 42 = some (.aload_n 0, 1, 0, 0, []) := rfl
theorem rw_245_43 : mm_code 244 43 = some (.aload_n 0, 1, 0, 0, []) := rfl
theorem rw_245_44 : mm_code 244 44 = some (.getfield 242, 3, 11, 29, [0, 76]) := rfl
theorem rw_245_47 : mm_code 244 47 = some (.invokevirtual 326, 3, 188, 2, [102, 0]) := rfl
theorem rw_245_50 : mm_code 244 50 = some (.aload_n 0, 1, 0, 0, []) := rfl
theorem rw_245_51 : mm_code 244 51 = some (.iload_n 2, 1, 0, 0, []) := rfl
theorem rw_245_52 : mm_code 244 52 = some (.invokevirtual 336, 3, 196, 2, [105, 0]) := rfl
theorem rw_245_55 : mm_code 244 55 = some (.istore 4, 2, 0, 0, []) := rfl
theorem rw_245_57 : mm_code 244 57 = some (.iconst 0, 1, 0, 0, []) := rfl
theorem rw_245_58 : mm_code 244 58 = some (.istore 5, 2, 0, 0, []) := rfl
theorem rw_245_60 : mm_code 244 60 = some (.iload 5, 2, 0, 0, []) := rfl
theorem rw_245_62 : mm_code 244 62 = some (.aload_n 0, 1, 0, 0, []) := rfl
theorem rw_245_63 : mm_code 244 63 = some (.getfield 239, 3, 11, 28, [0, 75]) := rfl
theorem rw_245_66 : mm_code 244 66 = some (.if_icmp .ge 55, 3, 121, 0, []) := rfl
theorem rw_245_69 : mm_code 244 69 = some (.iconst 0, 1, 0, 0, []) := rfl
theorem rw_245_70 : mm_code 244 70 = some (.istore 6, 2, 0, 0, []) := rfl
theorem rw_245_72 : mm_code 244 72 = some (.iload 6, 2, 0, 0, []) := rfl
theorem rw_245_74 : mm_code 244 74 = some (.iload 4, 2, 0, 0, []) := rfl
theorem rw_245_76 : mm_code 244 76 = some (.if_icmp .ge 39, 3, 115, 0, []) := rfl
theorem rw_245_79 : mm_code 244 79 = some (.aload_n 0, 1, 0, 0, []) := rfl
theorem rw_245_80 : mm_code 244 80 = some (.getfield 154, 3, 11, 77, [3, 48]) := rfl
theorem rw_245_83 : mm_code 244 83 = some (.bipush 6, 2, 6, 0, []) := rfl
theorem rw_245_85 : mm_code 244 85 = some (.iload 5, 2, 0, 0, []) := rfl
theorem rw_245_87 : mm_code 244 87 = some (.imul, 1, 0, 0, []) := rfl
theorem rw_245_88 : mm_code 244 88 = some (.iload 6, 2, 0, 0, []) := rfl
theorem rw_245_90 : mm_code 244 90 = some (.iadd, 1, 0, 0, []) := rfl
theorem rw_245_91 : mm_code 244 91 = some (.aload_n 0, 1, 0, 0, []) := rfl
theorem rw_245_92 : mm_code 244 92 = some (.iload 5, 2, 0, 0, []) := rfl
theorem rw_245_94 : mm_code 244 94 = some (.lconst 1, 1, 1, 0, []) := rfl
theorem rw_245_95 : mm_code 244 95 = some (.aload_n 0, 1, 0, 0, []) := rfl
theorem rw_245_96 : mm_code 244 96 = some (.getfield 26, 3, 11, 19, [3, 6]) := rfl
theorem rw_245_99 : mm_code 244 99 = some (.iload_n 2, 1, 0, 0, []) := rfl
theorem rw_245_100 : mm_code 244 100 = some (.iaload, 1, 0, 0, []) := rfl
theorem rw_245_101 : mm_code 244 101 = some (.iload 6, 2, 0, 0, []) := rfl
theorem rw_245_103 : mm_code 244 103 = some (.iadd, 1, 0, 0, []) := rfl
theorem rw_245_104 : mm_code 244 104 = some (.lshl, 1, 0, 0, []) := rfl
theorem rw_245_105 : mm_code 244 105 = some (.invokevirtual 349, 3, 206, 3, [109, 0]) := rfl
theorem rw_245_108 : mm_code 244 108 = some (.bastore, 1, 0, 0, []) := rfl
theorem rw_245_109 : mm_code 244 109 = some (.iinc 6 1, 3, 1, 0, []) := rfl
theorem rw_245_112 : mm_code 244 112 = some (.goto (-40), 3, 72, 0, []) := rfl
theorem rw_245_115 : mm_code 244 115 = some (.iinc 5 1, 3, 1, 0, []) := rfl
theorem rw_245_118 : mm_code 244 118 = some (.goto (-58), 3, 60, 0, []) := rfl
theorem rw_245_121 : mm_code 244 121 = some (.iconst 0, 1, 0, 0, []) := rfl
theorem rw_245_122 : mm_code 244 122 = some (.istore 5, 2, 0, 0, []) := rfl
theorem rw_245_124 : mm_code 244 124 = some (.iload 5, 2, 0, 0, []) := rfl
theorem rw_245_126 : mm_code 244 126 = some (.iload 4, 2, 0, 0, []) := rfl
theorem rw_245_128 : mm_code 244 128 = some (.if_icmp .gt 101, 3, 229, 0, []) := rfl
theorem rw_245_131 : mm_code 244 131 = some (.iconst 0, 1, 0, 0, []) := rfl
theorem rw_245_132 : mm_code 244 132 = some (.istore 6, 2, 0, 0, []) := rfl
theorem rw_245_134 : mm_code 244 134 = some (.iload 6, 2, 0, 0, []) := rfl
theorem rw_245_136 : mm_code 244 136 = some (.iload 5, 2, 0, 0, []) := rfl
theorem rw_245_138 : mm_code 244 138 = some (.if_icmp .ge 18, 3, 156, 0, []) := rfl
theorem rw_245_141 : mm_code 244 141 = some (.aload_n 0, 1, 0, 0, []) := rfl
theorem rw_245_142 : mm_code 244 142 = some (.getfield 151, 3, 11, 76, [3, 47]) := rfl
theorem rw_245_145 : mm_code 244 145 = some (.iload 6, 2, 0, 0, []) := rfl
theorem rw_245_147 : mm_code 244 147 = some (.iload 6, 2, 0, 0, []) := rfl
theorem rw_245_149 : mm_code 244 149 = some (.iastore, 1, 0, 0, []) := rfl
theorem rw_245_150 : mm_code 244 150 = some (.iinc 6 1, 3, 1, 0, []) := rfl
theorem rw_245_153 : mm_code 244 153 = some (.goto (-19), 3, 134, 0, []) := rfl
theorem rw_245_156 : mm_code 244 156 = some (.iconst 1, 1, 1, 0, []) := rfl
theorem rw_245_157 : mm_code 244 157 = some (.istore 6, 2, 0, 0, []) := rfl
theorem rw_245_159 : mm_code 244 159 = some (.iload 6, 2, 0, 0, []) := rfl
theorem rw_245_161 : mm_code 244 161 = some (.ifCond .eq 62, 3, 223, 0, []) := rfl
theorem rw_245_164 : mm_code 244 164 = some (.aload_n 0, 1, 0, 0, []) := rfl
theorem rw_245_165 : mm_code 244 165 = some (.iload_n 1, 1, 0, 0, []) := rfl
theorem rw_245_166 : mm_code 244 166 = some (.iload_n 2, 1, 0, 0, []) := rfl
theorem rw_245_167 : mm_code 244 167 = some (.iload 5, 2, 0, 0, []) := rfl
theorem rw_245_169 : mm_code 244 169 = some (.invokevirtual 470, 3, 242, 4, [148, 0]) := rfl
theorem rw_245_172 : mm_code 244 172 = some (.ifCond .eq 38, 3, 210, 0, []) := rfl
theorem rw_245_175 : mm_code 244 175 = some (.iload_n 3, 1, 0, 0, []) := rfl
theorem rw_245_176 : mm_code 244 176 = some (.ifCond .ne 8, 3, 184, 0, []) := rfl
theorem rw_245_179 : mm_code 244 179 = some (.iload 5, 2, 0, 0, []) := rfl
theorem rw_245_181 : mm_code 244 181 = some (.goto 28, 3, 209, 0, []) := rfl
theorem rw_245_184 : mm_code 244 184 = some (.iload_n 3, 1, 0, 0, []) := rfl
theorem rw_245_185 : mm_code 244 185 = some (.iload 5, 2, 0, 0, []) := rfl
theorem rw_245_187 : mm_code 244 187 = some (.if_icmp .gt 21, 3, 208, 0, []) := rfl
theorem rw_245_190 : mm_code 244 190 = some (.aload_n 0, 1, 0, 0, []) := rfl
theorem rw_245_191 : mm_code 244 191 = some (.getfield 26, 3, 11, 19, [3, 6]) := rfl
theorem rw_245_194 : mm_code 244 194 = some (.iload_n 2, 1, 0, 0, []) := rfl
theorem rw_245_195 : mm_code 244 195 = some (.iaload, 1, 0, 0, []) := rfl
theorem rw_245_196 : mm_code 244 196 = some (.aload_n 0, 1, 0, 0, []) := rfl
theorem rw_245_197 : mm_code 244 197 = some (.getfield 151, 3, 11, 76, [3, 47]) := rfl
theorem rw_245_200 : mm_code 244 200 = some (.iload_n 3, 1, 0, 0, []) := rfl
theorem rw_245_201 : mm_code 244 201 = some (.iconst 1, 1, 1, 0, []) := rfl
theorem rw_245_202 : mm_code 244 202 = some (.isub, 1, 0, 0, []) := rfl
theorem rw_245_203 : mm_code 244 203 = some (.iaload, 1, 0, 0, []) := rfl
theorem rw_245_204 : mm_code 244 204 = some (.iadd, 1, 0, 0, []) := rfl
theorem rw_245_205 : mm_code 244 205 = some (.goto 4, 3, 209, 0, []) := rfl
theorem rw_245_208 : mm_code 244 208 = some (.iconst (-1), 1, 1, 1, []) := rfl
theorem rw_245_209 : mm_code 244 209 = some (.ireturn, 1, 0, 0, []) := rfl
theorem rw_245_210 : mm_code 244 210 = some (.aload_n 0, 1, 0, 0, []) := rfl
theorem rw_245_211 : mm_code 244 211 = some (.iload 5, 2, 0, 0, []) := rfl
theorem rw_245_213 : mm_code 244 213 = some (.iload 4, 2, 0, 0, []) := rfl
theorem rw_245_215 : mm_code 244 215 = some (.invokevirtual 473, 3, 243, 3, [149, 0]) := rfl
theorem rw_245_218 : mm_code 244 218 = some (.istore 6, 2, 0, 0, []) := rfl
theorem rw_245_220 : mm_code 244 220 = some (.goto (-61), 3, 159, 0, []) := rfl
theorem rw_245_223 : mm_code 244 223 = some (.iinc 5 1, 3, 1, 0, []) := rfl
theorem rw_245_226 : mm_code 244 226 = some (.goto (-102), 3, 124, 0, []) := rfl
theorem rw_245_229 : mm_code 244 229 = some (.bipush (-2), 2, 2, 1, []) := rfl
theorem rw_245_231 : mm_code 244 231 = some (.ireturn, 1, 0, 0, []) := rfl
theorem rw_246_0 : mm_code 245 0 = some (.aload_n 0, 1, 0, 0, []) := rfl
theorem rw_246_1 : mm_code 245 1 = some (.iconst 0, 1, 0, 0, []) := rfl
theorem rw_246_2 : mm_code 245 2 = some (.putfield 163, 3, 11, 2, [0, 51]) := rfl
theorem rw_246_5 : mm_code 245 5 = some (.iload_n 1, 1, 0, 0, []) := rfl
theorem rw_246_6 : mm_code 245 6 = some (.tableswitch 86 0 7 #[46, 51, 56, 61, 66, 71, 76, 81], 46, 92, 0, [52, 57, 62, 67, 72, 77, 82, 87]) := rfl
theorem rw_246_52 : mm_code 245 52 = some (.aload_n 0, 1, 0, 0, []) := rfl
theorem rw_246_53 : mm_code 245 53 = some (.getfield 230, 3, 11, 11, [0, 72]) := rfl
theorem rw_246_56 : mm_code 245 56 = some (.ireturn, 1, 0, 0, []) := rfl
theorem rw_246_57 : mm_code 245 57 = some (.aload_n 0, 1, 0, 0, []) := rfl
theorem rw_246_58 : mm_code 245 58 = some (.getfield 233, 3, 11, 12, [0, 73]) := rfl
theorem rw_246_61 : mm_code 245 61 = some (.ireturn, 1, 0, 0, []) := rfl
theorem rw_246_62 : mm_code 245 62 = some (.aload_n 0, 1, 0, 0, []) := rfl
theorem rw_246_63 : mm_code 245 63 = some (.getfield 236, 3, 11, 13, [0, 74]) := rfl
theorem rw_246_66 : mm_code 245 66 = some (.ireturn, 1, 0, 0, []) := rfl
theorem rw_246_67 : mm_code 245 67 = some (.aload_n 0, 1, 0, 0, []) := rfl
theorem rw_246_68 : mm_code 245 68 = some (.getfield 239, 3, 11, 28, [0, 75]) := rfl
theorem rw_246_71 : mm_code 245 71 = some (.ireturn, 1, 0, 0, []) := rfl
theorem rw_246_72 : mm_code 245 72 = some (.aload_n 0, 1, 0, 0, []) := rfl
theorem rw_246_73 : mm_code 245 73 = some (.getfield 242, 3, 11, 29, [0, 76]) := rfl
theorem rw_246_76 : mm_code 245 76 = some (.ireturn, 1, 0, 0, []) := rfl
theorem rw_246_77 : mm_code 245 77 = some (.aload_n 0, 1, 0, 0, []) := rfl
theorem rw_246_78 : mm_code 245 78 = some (.getfield 245, 3, 11, 58, [0, 77]) := rfl
theorem rw_246_81 : mm_code 245 81 = some (.ireturn, 1, 0, 0, []) := rfl
theorem rw_246_82 : mm_code 245 82 = some (.aload_n 0, 1, 0, 0, []) := rfl
theorem rw_246_83 : mm_code 245 83 = some (.getfield 380, 3, 11, 42, [0, 119]) := rfl
theorem rw_246_86 : mm_code 245 86 = some (.ireturn, 1, 0, 0, []) := rfl
theorem rw_246_87 : mm_code 245 87 = some (.aload_n 0, 1, 0, 0, []) := rfl
theorem rw_246_88 : mm_code 245 88 = some (.getfield 383, 3, 11, 43, [0, 120]) := rfl
theorem rw_246_91 : mm_code 245 91 = some (.ireturn, 1, 0, 0, []) := rfl
theorem rw_246_92 : mm_code 245 92 = some (.iconst (-1), 1, 1, 1, []) := rfl
theorem rw_246_93 : mm_code 245 93 = some (.ireturn, 1, 0, 0, []) := rfl
theorem rw_247_0 : mm_code 246 0 = some (.iload_n 0, 1, 0, 0, []) := rfl
theorem rw_247_1 : mm_code 246 1 = some (.iload_n 0, 1, 0, 0, []) := rfl
theorem rw_247_2 : mm_code 246 2 = some (.iconst 1, 1, 1, 0, []) := rfl
theorem rw_247_3 : mm_code 246 3 = some (.iushr, 1, 0, 0, []) := rfl
theorem rw_247_4 : mm_code 246 4 = some (.ldc_w 265, 3, 1431655765, 0, [0]) := rfl
theorem rw_247_7 : mm_code 246 7 = some (.iand, 1, 0, 0, []) := rfl
theorem rw_247_8 : mm_code 246 8 = some (.isub, 1, 0, 0, []) := rfl
theorem rw_247_9 : mm_code 246 9 = some (.istore_n 0, 1, 0, 0, []) := rfl
theorem rw_247_10 : mm_code 246 10 = some (.iload_n 0, 1, 0, 0, []) := rfl
theorem rw_247_11 : mm_code 246 11 = some (.ldc_w 266, 3, 858993459, 0, [1]) := rfl
theorem rw_247_14 : mm_code 246 14 = some (.iand, 1, 0, 0, []) := rfl
theorem rw_247_15 : mm_code 246 15 = some (.iload_n 0, 1, 0, 0, []) := rfl
theorem rw_247_16 : mm_code 246 16 = some (.iconst 2, 1, 2, 0, []) := rfl
theorem rw_247_17 : mm_code 246 17 = some (.iushr, 1, 0, 0, []) := rfl
theorem rw_247_18 : mm_code 246 18 = some (.ldc_w 266, 3, 858993459, 0, [1]) := rfl
theorem rw_247_21 : mm_code 246 21 = some (.iand, 1, 0, 0, []) := rfl
theorem rw_247_22 : mm_code 246 22 = some (.iadd, 1, 0, 0, []) := rfl
theorem rw_247_23 : mm_code 246 23 = some (.istore_n 0, 1, 0, 0, []) := rfl
theorem rw_247_24 : mm_code 246 24 = some (.iload_n 0, 1, 0, 0, []) := rfl
theorem rw_247_25 : mm_code 246 25 = some (.iload_n 0, 1, 0, 0, []) := rfl
theorem rw_247_26 : mm_code 246 26 = some (.iconst 4, 1, 4, 0, []) := rfl
theorem rw_247_27 : mm_code 246 27 = some (.iushr, 1, 0, 0, []) := rfl
theorem rw_247_28 : mm_code 246 28 = some (.iadd, 1, 0, 0, []) := rfl
theorem rw_247_29 : mm_code 246 29 = some (.ldc_w 267, 3, 252645135, 0, [2]) := rfl
theorem rw_247_32 : mm_code 246 32 = some (.iand, 1, 0, 0, []) := rfl
theorem rw_247_33 : mm_code 246 33 = some (.istore_n 0, 1, 0, 0, []) := rfl
theorem rw_247_34 : mm_code 246 34 = some (.iload_n 0, 1, 0, 0, []) := rfl
theorem rw_247_35 : mm_code 246 35 = some (.iload_n 0, 1, 0, 0, []) := rfl
theorem rw_247_36 : mm_code 246 36 = some (.bipush 8, 2, 8, 0, []) := rfl
theorem rw_247_38 : mm_code 246 38 = some (.iushr, 1, 0, 0, []) := rfl
theorem rw_247_39 : mm_code 246 39 = some (.iadd, 1, 0, 0, []) := rfl
theorem rw_247_40 : mm_code 246 40 = some (.istore_n 0, 1, 0, 0, []) := rfl
theorem rw_247_41 : mm_code 246 41 = some (.iload_n 0, 1, 0, 0, []) := rfl
theorem rw_247_42 : mm_code 246 42 = some (.iload_n 0, 1, 0, 0, []) := rfl
theorem rw_247_43 : mm_code 246 43 = some (.bipush 16, 2, 16, 0, []) := rfl
theorem rw_247_45 : mm_code 246 45 = some (.iushr, 1, 0, 0, []) := rfl
theorem rw_247_46 : mm_code 246 46 = some (.iadd, 1, 0, 0, []) := rfl
theorem rw_247_47 : mm_code 246 47 = some (.istore_n 0, 1, 0, 0, []) := rfl
theorem rw_247_48 : mm_code 246 48 = some (.iload_n 0, 1, 0, 0, []) := rfl
theorem rw_247_49 : mm_code 246 49 = some (.bipush 63, 2, 63, 0, []) := rfl
theorem rw_247_51 : mm_code 246 51 = some (.iand, 1, 0, 0, []) := rfl
theorem rw_247_52 : mm_code 246 52 = some (.ireturn, 1, 0, 0, []) := rfl
theorem rw_248_0 : mm_code 247 0 = some (.lload_n 0, 1, 0, 0, []) := rfl
theorem rw_248_1 : mm_code 247 1 = some (.lload_n 0, 1, 0, 0, []) := rfl
theorem rw_248_2 : mm_code 247 2 = some (.iconst 1, 1, 1, 0, []) := rfl
theorem rw_248_3 : mm_code 247 3 = some (.lushr, 1, 0, 0, []) := rfl
theorem rw_248_4 : mm_code 247 4 = some (.ldc2_w 314, 3, 6148914691236517205, 0, [0]) := rfl
theorem rw_248_7 : mm_code 247 7 = some (.land, 1, 0, 0, []) := rfl
theorem rw_248_8 : mm_code 247 8 = some (.lsub, 1, 0, 0, []) := rfl
theorem rw_248_9 : mm_code 247 9 = some (.lstore_n 0, 1, 0, 0, []) := rfl
theorem rw_248_10 : mm_code 247 10 = some (.lload_n 0, 1, 0, 0, []) := rfl
theorem rw_248_11 : mm_code 247 11 = some (.ldc2_w 316, 3, 3689348814741910323, 0, [1]) := rfl
theorem rw_248_14 : mm_code 247 14 = some (.land, 1, 0, 0, []) := rfl
theorem rw_248_15 : mm_code 247 15 = some (.lload_n 0, 1, 0, 0, []) := rfl
theorem rw_248_16 : mm_code 247 16 = some (.iconst 2, 1, 2, 0, []) := rfl
theorem rw_248_17 : mm_code 247 17 = some (.lushr, 1, 0, 0, []) := rfl
theorem rw_248_18 : mm_code 247 18 = some (.ldc2_w 316, 3, 3689348814741910323, 0, [1]) := rfl
theorem rw_248_21 : mm_code 247 21 = some (.land, 1, 0, 0, []) := rfl
theorem rw_248_22 : mm_code 247 22 = some (.ladd, 1, 0, 0, []) := rfl
theorem rw_248_23 : mm_code 247 23 = some (.lstore_n 0, 1, 0, 0, []) := rfl
theorem rw_248_24 : mm_code 247 24 = some (.lload_n 0, 1, 0, 0, []) := rfl
theorem rw_248_25 : mm_code 247 25 = some (.lload_n 0, 1, 0, 0, []) := rfl
theorem rw_248_26 : mm_code 247 26 = some (.iconst 4, 1, 4, 0, []) := rfl
theorem rw_248_27 : mm_code 247 27 = some (.lushr, 1, 0, 0, []) := rfl
theorem rw_248_28 : mm_code 247 28 = some (.ladd, 1, 0, 0, []) := rfl
theorem rw_248_29 : mm_code 247 29 = some (.ldc2_w 318, 3, 1085102592571150095, 0, [2]) := rfl
theorem rw_248_32 : mm_code 247 32 = some (.land, 1, 0, 0, []) := rfl
theorem rw_248_33 : mm_code 247 33 = some (.lstore_n 0, 1, 0, 0, []) := rfl
theorem rw_248_34 : mm_code 247 34 = some (.lload_n 0, 1, 0, 0, []) := rfl
theorem rw_248_35 : mm_code 247 35 = some (.lload_n 0, 1, 0, 0, []) := rfl
theorem rw_248_36 : mm_code 247 36 = some (.bipush 8, 2, 8, 0, []) := rfl
theorem rw_248_38 : mm_code 247 38 = some (.lushr, 1, 0, 0, []) := rfl
theorem rw_248_39 : mm_code 247 39 = some (.ladd, 1, 0, 0, []) := rfl
theorem rw_248_40 : mm_code 247 40 = some (.lstore_n 0, 1, 0, 0, []) := rfl
theorem rw_248_41 : mm_code 247 41 = some (.lload_n 0, 1, 0, 0, []) := rfl
theorem rw_248_42 : mm_code 247 42 = some (.lload_n 0, 1, 0, 0, []) := rfl
theorem rw_248_43 : mm_code 247 43 = some (.bipush 16, 2, 16, 0, []) := rfl
theorem rw_248_45 : mm_code 247 45 = some (.lushr, 1, 0, 0, []) := rfl
theorem rw_248_46 : mm_code 247 46 = some (.ladd, 1, 0, 0, []) := rfl
theorem rw_248_47 : mm_code 247 47 = some (.lstore_n 0, 1, 0, 0, []) := rfl
theorem rw_248_48 : mm_code 247 48 = some (.lload_n 0, 1, 0, 0, []) := rfl
theorem rw_248_49 : mm_code 247 49 = some (.lload_n 0, 1, 0, 0, []) := rfl
theorem rw_248_50 : mm_code 247 50 = some (.bipush 32, 2, 32, 0, []) := rfl
theorem rw_248_52 : mm_code 247 52 = some (.lushr, 1, 0, 0, []) := rfl
theorem rw_248_53 : mm_code 247 53 = some (.ladd, 1, 0, 0, []) := rfl
theorem rw_248_54 : mm_code 247 54 = some (.lstore_n 0, 1, 0, 0, []) := rfl
theorem rw_248_55 : mm_code 247 55 = some (.lload_n 0, 1, 0, 0, []) := rfl
theorem rw_248_56 : mm_code 247 56 = some (.l2i, 1, 0, 0, []) := rfl
theorem rw_248_57 : mm_code 247 57 = some (.bipush 127, 2, 127, 0, []) := rfl
theorem rw_248_59 : mm_code 247 59 = some (.iand, 1, 0, 0, []) := rfl
theorem rw_248_60 : mm_code 247 60 = some (.ireturn, 1, 0, 0, []) := rfl
theorem rw_249_0 : mm_code 248 0 = some (.aload_n 0, 1, 0, 0, []) := rfl
theorem rw_249_1 : mm_code 248 1 = some (.getfield 68, 3, 10, 8, [3, 18]) := rfl
theorem rw_249_4 : mm_code 248 4 = some (.iload_n 1, 1, 0, 0, []) := rfl
theorem rw_249_5 : mm_code 248 5 = some (.invokevirtual 150, 3, 43, 2, [55, 0]) := rfl
theorem rw_249_8 : mm_code 248 8 = some (.ifCond .ne 13, 3, 21, 0, []) := rfl
theorem rw_249_21 : mm_code 248 21 = some (.iload_n 2, 1, 0, 0, []) := rfl
theorem rw_249_22 : mm_code 248 22 = some (.tableswitch 70 0 3 #[30, 40, 50, 60], 30, 92, 0, [52, 62, 72, 82]) := rfl
theorem rw_249_52 : mm_code 248 52 = some (.aload_n 0, 1, 0, 0, []) := rfl
theorem rw_249_53 : mm_code 248 53 = some (.getfield 68, 3, 10, 8, [3, 18]) := rfl
theorem rw_249_56 : mm_code 248 56 = some (.getfield 160, 3, 5, 6, [3, 92]) := rfl
theorem rw_249_59 : mm_code 248 59 = some (.iload_n 1, 1, 0, 0, []) := rfl
theorem rw_249_60 : mm_code 248 60 = some (.iaload, 1, 0, 0, []) := rfl
theorem rw_249_61 : mm_code 248 61 = some (.ireturn, 1, 0, 0, []) := rfl
theorem rw_249_62 : mm_code 248 62 = some (.aload_n 0, 1, 0, 0, []) := rfl
theorem rw_249_63 : mm_code 248 63 = some (.getfield 68, 3, 10, 8, [3, 18]) := rfl
theorem rw_249_66 : mm_code 248 66 = some (.getfield 164, 3, 5, 7, [3, 85]) := rfl
theorem rw_249_69 : mm_code 248 69 = some (.iload_n 1, 1, 0, 0, []) := rfl
theorem rw_249_70 : mm_code 248 70 = some (.iaload, 1, 0, 0, []) := rfl
theorem rw_249_71 : mm_code 248 71 = some (.ireturn, 1, 0, 0, []) := rfl
theorem rw_249_72 : mm_code 248 72 = some (.aload_n 0, 1, 0, 0, []) := rfl
theorem rw_249_73 : mm_code 248 73 = some (.getfield 68, 3, 10, 8, [3, 18]) := rfl
theorem rw_249_76 : mm_code 248 76 = some (.getfield 167, 3, 5, 8, [3, 93]) := rfl
theorem rw_249_79 : mm_code 248 79 = some (.iload_n 1, 1, 0, 0, []) := rfl
theorem rw_249_80 : mm_code 248 80 = some (.iaload, 1, 0, 0, []) := rfl
theorem rw_249_81 : mm_code 248 81 = some (.ireturn, 1, 0, 0, []) := rfl
theorem rw_249_82 : mm_code 248 82 = some (.aload_n 0, 1, 0, 0, []) := rfl
theorem rw_249_83 : mm_code 248 83 = some (.getfield 68, 3, 10, 8, [3, 18]) := rfl
theorem rw_249_86 : mm_code 248 86 = some (.getfield 170, 3, 5, 9, [3, 68]) := rfl
theorem rw_249_89 : mm_code 248 89 = some (.iload_n 1, 1, 0, 0, []) := rfl
theorem rw_249_90 : mm_code 248 90 = some (.iaload, 1, 0, 0, []) := rfl
theorem rw_249_91 : mm_code 248 91 = some (.ireturn, 1, 0, 0, []) := rfl
end
section
/-! references that change: the two PLANS, the two QUESTIONS -/
noncomputable def FRX (P : Nat → Nat → Prop) (M M1 : mm_M) : Prop := M1.1 = M.1 ∧ ∀ a i, ¬ P a i → M1.2.1 a i = M.2.1 a i ∧ M1.2.2.1 a i = M.2.2.1 a i
section GX
variable {M M0 M1 : mm_M} {P P2 : Nat → Nat → Prop}
theorem FR.x (h : FR P M M1) : FRX P M M1 := ⟨h.1, h.2.2⟩
theorem FRX.rf : FRX P M M := ⟨rfl, fun _ _ _ => ⟨rfl, rfl⟩⟩
theorem FRX.w {a i : Nat} {v : Int32} (h : FRX P M0 M) (W : M1 = mm_setI M a i v) (hp : P a i) : FRX P M0 M1 := by
  subst W
  refine ⟨h.1, fun b j hn => ⟨?_, (h.2 b j hn).2⟩⟩
  show (if b = a ∧ j = i then v else M.2.1 b j) = _
  rw [if_neg (fun z => hn (by rw [z.1, z.2]; exact hp))]
  exact (h.2 b j hn).1
theorem FRX.wl {a i : Nat} {v : Int64} (h : FRX P M0 M) (W : M1 = mm_setL M a i v) (hp : P a i) : FRX P M0 M1 := by
  subst W
  refine ⟨h.1, fun b j hn => ⟨(h.2 b j hn).1, ?_⟩⟩
  show (if b = a ∧ j = i then v else M.2.2.1 b j) = _
  rw [if_neg (fun z => hn (by rw [z.1, z.2]; exact hp))]
  exact (h.2 b j hn).2
theorem FRX.wr {a i : Nat} {v : Option Nat} (h : FRX P M0 M) (W : M1 = mm_setR M a i v) : FRX P M0 M1 := by
  subst W
  exact ⟨h.1, h.2⟩
theorem FRX.c (h : FRX P M0 M) (h2 : FR P2 M M1) (hs : ∀ a i, P2 a i → P a i) : FRX P M0 M1 := ⟨h2.1.trans h.1, fun a i hn => ⟨((h2.2.2 a i (fun z => hn (hs a i z))).1).trans (h.2 a i hn).1, ((h2.2.2 a i (fun z => hn (hs a i z))).2).trans (h.2 a i hn).2⟩⟩
theorem W_rf {a i b j : Nat} {v : Option Nat} {w : Int32} (W : M1 = mm_setR M a i v) (h : M.2.1 b j = w) : M1.2.1 b j = w := by
  subst W
  exact h
theorem g_wr {a i : Nat} {v : Option Nat} (hG : g_G M) (W : M1 = mm_setR M a i v) (h : g_rf a i = none) : g_G M1 := by
  subst W
  refine ⟨⟨hG.1.1, hG.1.2.1, fun b j w hb => ?_⟩, hG.2.1, hG.2.2⟩
  show (if b = a ∧ j = i then v else M.2.2.2 b j) = some w
  rw [if_neg (fun z => by rw [z.1, z.2, h] at hb; cases hb)]
  exact hG.1.2.2 b j w hb
theorem PQ_s8 {p p2 q q2 v : Nat} (W : M1 = mm_setR M 0 8 (some v)) (h : g_PQ M p p2 q q2) : g_PQ M1 v p2 q q2 := by
  subst W
  exact ⟨rfl, h.2.1, h.2.2.1, h.2.2.2⟩
theorem PQ_s9 {p p2 q q2 v : Nat} (W : M1 = mm_setR M 0 9 (some v)) (h : g_PQ M p p2 q q2) : g_PQ M1 p v q q2 := by
  subst W
  exact ⟨h.1, rfl, h.2.2.1, h.2.2.2⟩
theorem PQ_s10 {p p2 q q2 v : Nat} (W : M1 = mm_setR M 0 10 (some v)) (h : g_PQ M p p2 q q2) : g_PQ M1 p p2 v q2 := by
  subst W
  exact ⟨h.1, h.2.1, rfl, h.2.2.2⟩
theorem PQ_s11 {p p2 q q2 v : Nat} (W : M1 = mm_setR M 0 11 (some v)) (h : g_PQ M p p2 q q2) : g_PQ M1 p p2 q v := by
  subst W
  exact ⟨h.1, h.2.1, h.2.2.1, rfl⟩
end GX
noncomputable def g_PP (M : mm_M) (p p2 q q2 : Nat) : Prop := g_PQ M p p2 q q2 ∨ g_PQ M p2 p q q2
noncomputable def g_QQ (M : mm_M) (p p2 q q2 : Nat) : Prop := g_PQ M p p2 q q2 ∨ g_PQ M p p2 q2 q
theorem s_pR {X : mm_X} {d mi pc : Nat} {ls st : List Value} {M : mm_M} {Q : Option Value → mm_M → Prop} {len a b : Nat} {ps : List Nat} {i o v : Nat} (hc : mm_code mi pc = some (.putfield i, len, a, b, 3 :: ps)) (hG : g_G M) (ho : (Nat.blt o 126 && Nat.beq (g_ty o) a) = true) (hv : Nat.blt v 126 = true) (h : ∀ M1, M1 = mm_setR M o b (some v) → mm_T X d mi (pc + len) ls st M1 Q) : mm_T X d mi pc ls (.ref v :: .ref o :: st) M Q := tt_1 hc (by
  show mm_b (mm_isObj M o a) (mm_b (Nat.blt v M.1.1.1) (mm_T X d mi (pc + len) ls st (mm_setR M o b (some v)) Q) False) False
  rw [g_o hG ho, hG.1.1, hv]
  exact h _ rfl)
theorem g_79 {M : mm_M} {A : Int} {v : Int32} (hG : g_G M) (hv : M.2.1 79 A.toNat = v) : A = 69 → v.toInt = 32 := fun z => by
  subst z
  have e : M.2.1 79 (69 : Int).toNat = 32 := hG.2.2
  rw [← hv, e]; rfl
section S4
variable {X : mm_X} {d mi pc : Nat} {ls st : List Value} {M : mm_M} {Q : Option Value → mm_M → Prop} {len a b : Nat} {ps : List Nat} {x y v : Int32} {A B : Int}
theorem s_addk (hc : mm_code mi pc = some (.iadd, len, a, b, ps)) (ex : x.toInt = A) (ey : y.toInt = B) (hr : -2147483648 ≤ A + B ∧ A + B ≤ 2147483647) (hv : v.toInt = A + B) (h : mm_T X d mi (pc + len) ls (.int v :: st) M Q) : mm_T X d mi pc ls (.int y :: .int x :: st) M Q := to_2 (v := v) hc (congrArg some (Int32.toInt_inj.mp ((i_add ex ey hr).trans hv.symm))) h
theorem s_subk (hc : mm_code mi pc = some (.isub, len, a, b, ps)) (ex : x.toInt = A) (ey : y.toInt = B) (hr : -2147483648 ≤ A - B ∧ A - B ≤ 2147483647) (hv : v.toInt = A - B) (h : mm_T X d mi (pc + len) ls (.int v :: st) M Q) : mm_T X d mi pc ls (.int y :: .int x :: st) M Q := to_2 (v := v) hc (congrArg some (Int32.toInt_inj.mp ((i_sub ex ey hr).trans hv.symm))) h
theorem s_mulk (hc : mm_code mi pc = some (.imul, len, a, b, ps)) (ex : x.toInt = A) (ey : y.toInt = B) (hr : -2147483648 ≤ A * B ∧ A * B ≤ 2147483647) (hv : v.toInt = A * B) (h : mm_T X d mi (pc + len) ls (.int v :: st) M Q) : mm_T X d mi pc ls (.int y :: .int x :: st) M Q := to_2 (v := v) hc (congrArg some (Int32.toInt_inj.mp ((i_mul ex ey hr).trans hv.symm))) h
end S4
/-! THE REFERENCE'S PLAN: what holds of its rows; the upper halves are those being read -/
abbrev FA_c (s f l z : Int) : Prop := ((s = 1 ∨ s = 2) → z ≤ 10) ∧ (s = 3 → 1 ≤ z ∧ z ≤ 4 ∧ z ≤ l - f + 1) ∧ f ≤ l
noncomputable def FA (M : mm_M) : Prop := ∀ i : Nat, FA_c (M.2.1 81 i).toInt (M.2.1 82 i).toInt (M.2.1 83 i).toInt (M.2.1 84 i).toInt
theorem FA_f {M M1 : mm_M} (h : ∀ a i, (81 ≤ a ∧ a ≤ 84) → M1.2.1 a i = M.2.1 a i) (H : FA M) : FA M1 := fun i => by
  rw [h 81 i (by omega), h 82 i (by omega), h 83 i (by omega), h 84 i (by omega)]
  exact H i
theorem FA_u {M : mm_M} (H : FA M) (i : Nat) : FA_c (M.2.1 81 i).toInt (M.2.1 82 i).toInt (M.2.1 83 i).toInt (M.2.1 84 i).toInt := H i
theorem FA_k {M M1 M2 M3 M4 : mm_M} {n : Nat} {s f l z : Int32} (H : FA M) (W1 : M1 = mm_setI M 81 n s) (W2 : M2 = mm_setI M1 82 n f) (W3 : M3 = mm_setI M2 83 n l) (W4 : M4 = mm_setI M3 84 n z) (hc : FA_c s.toInt f.toInt l.toInt z.toInt) : FA M4 := by
  intro i
  by_cases e : i = n
  · subst e
    rw [W_n W4 (by omega) (W_n W3 (by omega) (W_n W2 (by omega) (W_e W1))), W_n W4 (by omega) (W_n W3 (by omega) (W_e W2)), W_n W4 (by omega) (W_e W3), W_e W4]
    exact hc
  · rw [W_n W4 (by omega) (W_n W3 (by omega) (W_n W2 (by omega) (W_n W1 (by omega) rfl))), W_n W4 (by omega) (W_n W3 (by omega) (W_n W2 (by omega) (W_n W1 (by omega) rfl))), W_n W4 (by omega) (W_n W3 (by omega) (W_n W2 (by omega) (W_n W1 (by omega) rfl))), W_n W4 (by omega) (W_n W3 (by omega) (W_n W2 (by omega) (W_n W1 (by omega) rfl)))]
    exact H i
/-- WORDS being read lie in laid FIELDS -/
noncomputable def WR (M : mm_M) : Prop := ∀ w : Nat, w < 12 → (w : Int) < (M.2.1 77 16).toInt → (M.2.1 86 (12 + w)).toInt.toNat < 8 ∧ (0 ≤ (M.2.1 86 (12 + w)).toInt ∧ (M.2.1 86 (12 + w)).toInt < (M.2.1 77 15).toInt) ∧ (M.2.1 81 (8 + (M.2.1 86 (12 + w)).toInt.toNat)).toInt = 3
noncomputable def WC (M : mm_M) : Prop := ∀ w : Nat, w < 12 → (w : Int) < (M.2.1 77 13).toInt → (M.2.1 86 w).toInt.toNat < 8 ∧ (M.2.1 81 (M.2.1 86 w).toInt.toNat).toInt = 3
abbrev WR_r (a i : Nat) : Prop := a = 77 ∧ (i = 15 ∨ i = 16) ∨ a = 86 ∧ 12 ≤ i ∧ i < 24 ∨ a = 81 ∧ 8 ≤ i ∧ i < 16
abbrev WC_r (a i : Nat) : Prop := a = 77 ∧ i = 13 ∨ a = 86 ∧ i < 12 ∨ a = 81 ∧ i < 8
theorem WR_f {M M1 : mm_M} (h : ∀ a i, WR_r a i → M1.2.1 a i = M.2.1 a i) (H : WR M) : WR M1 := fun w hw hl => by
  rw [h 77 16 (by omega)] at hl
  obtain ⟨g1, g2, g3⟩ := H w hw hl
  rw [h 86 (12 + w) (by omega), h 77 15 (by omega), h 81 _ (by omega)]
  exact ⟨g1, g2, g3⟩
theorem WC_f {M M1 : mm_M} (h : ∀ a i, WC_r a i → M1.2.1 a i = M.2.1 a i) (H : WC M) : WC M1 := fun w hw hl => by
  rw [h 77 13 (by omega)] at hl
  obtain ⟨g1, g2⟩ := H w hw hl
  rw [h 86 w (by omega), h 81 _ (by omega)]
  exact ⟨g1, g2⟩
theorem WR_0 {M : mm_M} (h : (M.2.1 77 16).toInt = 0) : WR M := fun w _ hl => by omega
/-- a FIELD more -/
theorem WR_field {M M1 : mm_M} {n : Nat} (H : WR M) (hn : (n : Int) = (M.2.1 77 15).toInt) (h16 : M1.2.1 77 16 = M.2.1 77 16) (h86 : ∀ i, M1.2.1 86 i = M.2.1 86 i) (h81 : ∀ i, ¬ i = 8 + n → M1.2.1 81 i = M.2.1 81 i) (h15 : (M.2.1 77 15).toInt ≤ (M1.2.1 77 15).toInt) : WR M1 := fun w hw hl => by
  rw [h16] at hl
  obtain ⟨g1, g2, g3⟩ := H w hw hl
  rw [h86, h81 _ (by omega)]
  exact ⟨g1, by omega, g3⟩
/-- a WORD more -/
theorem WR_word {M M1 : mm_M} {n : Nat} {f : Int32} (H : WR M) (hn : (n : Int) = (M.2.1 77 16).toInt) (h15 : M1.2.1 77 15 = M.2.1 77 15) (h81 : ∀ i, M1.2.1 81 i = M.2.1 81 i) (h86 : ∀ i, ¬ i = 12 + n → M1.2.1 86 i = M.2.1 86 i) (hf : M1.2.1 86 (12 + n) = f) (h16 : (M1.2.1 77 16).toInt = (n : Int) + 1) (hf0 : 0 ≤ f.toInt ∧ f.toInt < (M.2.1 77 15).toInt ∧ f.toInt ≤ 7) (h3 : (M.2.1 81 (8 + f.toInt.toNat)).toInt = 3) : WR M1 := fun w hw hl => by
  by_cases e : w = n
  · subst e
    rw [hf, h15, h81]
    exact ⟨by omega, by omega, h3⟩
  · obtain ⟨g1, g2, g3⟩ := H w hw (by omega)
    rw [h86 _ (by omega), h15, h81]
    exact ⟨g1, g2, g3⟩
/-- what is read becomes what is -/
theorem WC_k {M : mm_M} (H : WR M) (h13 : (M.2.1 77 13).toInt = (M.2.1 77 16).toInt) (h15 : (M.2.1 77 15).toInt ≤ 8) (h81 : ∀ j : Nat, j < 8 → M.2.1 81 j = M.2.1 81 (8 + j)) (h86 : ∀ j : Nat, j < 12 → M.2.1 86 j = M.2.1 86 (12 + j)) : WC M := fun w hw hl => by
  obtain ⟨g1, g2, g3⟩ := H w hw (by omega)
  rw [h86 w hw, h81 _ g1]
  exact ⟨g1, g3⟩
theorem CP_s {M M1 : mm_M} {r o k : Nat} {v : Int32} (H : ∀ j : Nat, j < k → M.2.1 r j = M.2.1 r (o + j)) (ho : k < o) (hn : ∀ i, ¬ i = k → M1.2.1 r i = M.2.1 r i) (hk : M1.2.1 r k = v) (hv : M.2.1 r (o + k) = v) : ∀ j : Nat, j < k + 1 → M1.2.1 r j = M1.2.1 r (o + j) := fun j hj => by
  rw [hn (o + j) (by omega)]
  by_cases e : j = k
  · subst e
    rw [hk, hv]
  · rw [hn j e]
    exact H j (by omega)
theorem CP_f {M M1 : mm_M} {r o k : Nat} (H : ∀ j : Nat, j < k → M.2.1 r j = M.2.1 r (o + j)) (hn : ∀ i, M1.2.1 r i = M.2.1 r i) : ∀ j : Nat, j < k → M1.2.1 r j = M1.2.1 r (o + j) := fun j hj => by
  rw [hn, hn]
  exact H j hj
/-- PACKS: no more CARDS in all than there are -/
noncomputable def PSm (M : mm_M) : Int := (M.2.1 100 0).toInt + (M.2.1 100 1).toInt + (M.2.1 100 2).toInt + (M.2.1 100 3).toInt + (M.2.1 100 4).toInt + (M.2.1 100 5).toInt
noncomputable def PS (M : mm_M) : Prop := PSm M ≤ (M.2.1 77 28).toInt
theorem PS_f {M M1 : mm_M} (h : ∀ a i, (a = 100 ∨ a = 77 ∧ i = 28) → M1.2.1 a i = M.2.1 a i) (H : PS M) : PS M1 := by
  unfold PS PSm at H ⊢
  rw [h 100 0 (by omega), h 100 1 (by omega), h 100 2 (by omega), h 100 3 (by omega), h 100 4 (by omega), h 100 5 (by omega), h 77 28 (by omega)]
  exact H
theorem PS_0 {M : mm_M} (h : ∀ j : Nat, j < 6 → M.2.1 100 j = 0) (hc : 0 ≤ (M.2.1 77 28).toInt) : PS M := by
  unfold PS PSm
  rw [h 0 (by omega), h 1 (by omega), h 2 (by omega), h 3 (by omega), h 4 (by omega), h 5 (by omega)]
  have : (0 : Int32).toInt = 0 := rfl
  omega
theorem ZR_s {M M1 : mm_M} {r k : Nat} {v : Int32} (H : ∀ j : Nat, j < k → M.2.1 r j = v) (hn : ∀ i, ¬ i = k → M1.2.1 r i = M.2.1 r i) (hk : M1.2.1 r k = v) : ∀ j : Nat, j < k + 1 → M1.2.1 r j = v := fun j hj => by
  by_cases e : j = k
  · subst e
    exact hk
  · rw [hn j e]
    exact H j (by omega)
theorem FA_copy {M M1 M2 M3 M4 : mm_M} {n m : Nat} {s f l z : Int32} (H : FA M) (hs : M.2.1 81 m = s) (hf : M.2.1 82 m = f) (hl : M.2.1 83 m = l) (hz : M.2.1 84 m = z) (W1 : M1 = mm_setI M 81 n s) (W2 : M2 = mm_setI M1 82 n f) (W3 : M3 = mm_setI M2 83 n l) (W4 : M4 = mm_setI M3 84 n z) : FA M4 := FA_k H W1 W2 W3 W4 (by rw [← hs, ← hf, ← hl, ← hz]; exact H m)
/-! THE REFERENCE'S NOTES and its QUESTION -/
noncomputable def NJ (M : mm_M) : Prop := ∀ k : Nat, k < 150 → (k : Int) < (M.2.1 77 29).toInt →
  ((M.2.1 90 k).toInt = 0 → (M.2.1 91 k).toInt ≤ 29 ∧ (0 ≤ (M.2.1 92 k).toInt ∧ (M.2.1 92 k).toInt ≤ 7) ∧ 0 ≤ (M.2.1 93 k).toInt ∧ ((M.2.1 81 (M.2.1 92 k).toInt.toNat).toInt = 0 ∨ (M.2.1 93 k).toInt ≤ 9)) ∧
  ((M.2.1 90 k).toInt = 1 → (M.2.1 91 k).toInt ≤ 29 ∧ 0 ≤ (M.2.1 92 k).toInt ∧ (M.2.1 92 k).toInt ≤ 11) ∧ ((M.2.1 90 k).toInt = 2 → (M.2.1 91 k).toInt ≤ 29) ∧ ((M.2.1 90 k).toInt = 3 → (M.2.1 91 k).toInt ≤ 29) ∧ ((M.2.1 90 k).toInt = 4 → (M.2.1 91 k).toInt ≤ 11)
abbrev NJ_r (a i : Nat) : Prop := a = 77 ∧ i = 29 ∨ 90 ≤ a ∧ a ≤ 93 ∨ a = 81 ∧ i < 8
theorem NJ_f {M M1 : mm_M} (h : ∀ a i, NJ_r a i → M1.2.1 a i = M.2.1 a i) (H : NJ M) : NJ M1 := fun k hk hl => by
  rw [h 77 29 (by omega)] at hl
  obtain ⟨g1, g2⟩ := H k hk hl
  rw [h 90 k (by omega), h 91 k (by omega), h 92 k (by omega), h 93 k (by omega)]
  refine ⟨fun hw => ?_, g2⟩
  obtain ⟨a1, a2, a3, a4⟩ := g1 hw
  rw [h 81 _ (by omega)]
  exact ⟨a1, a2, a3, a4⟩
theorem NJ_0 {M : mm_M} (h : (M.2.1 77 29).toInt = 0) : NJ M := fun k _ hl => by omega
theorem NJ_k {M M1 : mm_M} {n : Nat} {w o m v : Int32} (H : NJ M) (hn : (n : Int) = (M.2.1 77 29).toInt) (h29 : (M1.2.1 77 29).toInt = (n : Int) + 1) (hf : ∀ a i, (90 ≤ a ∧ a ≤ 93 ∧ ¬ i = n ∨ a = 81) → M1.2.1 a i = M.2.1 a i) (e0 : M1.2.1 90 n = w) (e1 : M1.2.1 91 n = o) (e2 : M1.2.1 92 n = m) (e3 : M1.2.1 93 n = v)
    (c0 : w.toInt = 0 → o.toInt ≤ 29 ∧ (0 ≤ m.toInt ∧ m.toInt ≤ 7) ∧ 0 ≤ v.toInt ∧ ((M.2.1 81 m.toInt.toNat).toInt = 0 ∨ v.toInt ≤ 9)) (c1 : w.toInt = 1 → o.toInt ≤ 29 ∧ 0 ≤ m.toInt ∧ m.toInt ≤ 11) (c2 : w.toInt = 2 → o.toInt ≤ 29) (c3 : w.toInt = 3 → o.toInt ≤ 29) (c4 : w.toInt = 4 → o.toInt ≤ 11) : NJ M1 := fun k hk hl => by
  by_cases e : k = n
  · subst e
    rw [e0, e1, e2, e3, hf 81 _ (Or.inr rfl)]
    exact ⟨c0, c1, c2, c3, c4⟩
  · rw [hf 90 k (by omega), hf 91 k (by omega), hf 92 k (by omega), hf 93 k (by omega), hf 81 _ (Or.inr rfl)]
    exact H k hk (by omega)
theorem NJ_u {M : mm_M} {A : Int} (H : NJ M) (h0 : 0 ≤ A) (h1 : A < (M.2.1 77 29).toInt) (h2 : A < 150) :
  ((M.2.1 90 A.toNat).toInt = 0 → (M.2.1 91 A.toNat).toInt ≤ 29 ∧ (0 ≤ (M.2.1 92 A.toNat).toInt ∧ (M.2.1 92 A.toNat).toInt ≤ 7) ∧ 0 ≤ (M.2.1 93 A.toNat).toInt ∧ ((M.2.1 81 (M.2.1 92 A.toNat).toInt.toNat).toInt = 0 ∨ (M.2.1 93 A.toNat).toInt ≤ 9)) ∧
  ((M.2.1 90 A.toNat).toInt = 1 → (M.2.1 91 A.toNat).toInt ≤ 29 ∧ 0 ≤ (M.2.1 92 A.toNat).toInt ∧ (M.2.1 92 A.toNat).toInt ≤ 11) ∧ ((M.2.1 90 A.toNat).toInt = 2 → (M.2.1 91 A.toNat).toInt ≤ 29) ∧ ((M.2.1 90 A.toNat).toInt = 3 → (M.2.1 91 A.toNat).toInt ≤ 29) ∧ ((M.2.1 90 A.toNat).toInt = 4 → (M.2.1 91 A.toNat).toInt ≤ 11) := H A.toNat (by omega) (by omega)
/-- knots from one on, k of them -/
noncomputable def KN (M : mm_M) (z n : Nat) : Prop := ∀ k : Nat, k < 40 → k < n →
  ((M.2.1 112 (z + k)).toInt = 0 → (0 ≤ (M.2.1 113 (z + k)).toInt ∧ (M.2.1 113 (z + k)).toInt ≤ 7) ∧ 0 ≤ (M.2.1 114 (z + k)).toInt ∧ ((M.2.1 81 (M.2.1 113 (z + k)).toInt.toNat).toInt = 0 ∨ (M.2.1 114 (z + k)).toInt ≤ 9)) ∧
  ((M.2.1 112 (z + k)).toInt = 1 → 0 ≤ (M.2.1 113 (z + k)).toInt ∧ (M.2.1 113 (z + k)).toInt ≤ 11) ∧ ((M.2.1 112 (z + k)).toInt = 3 → 0 ≤ (M.2.1 114 (z + k)).toInt ∧ (M.2.1 114 (z + k)).toInt ≤ 39) ∧ ((M.2.1 112 (z + k)).toInt = 4 → 0 ≤ (M.2.1 114 (z + k)).toInt ∧ (M.2.1 114 (z + k)).toInt ≤ 39)
theorem KN_f {M M1 : mm_M} {z n : Nat} (h : ∀ a i, (112 ≤ a ∧ a ≤ 114 ∧ z ≤ i ∧ i < z + 40 ∨ a = 81 ∧ i < 8) → M1.2.1 a i = M.2.1 a i) (H : KN M z n) : KN M1 z n := fun k hk hl => by
  obtain ⟨g1, g2⟩ := H k hk hl
  rw [h 112 _ (by omega), h 113 _ (by omega), h 114 _ (by omega)]
  refine ⟨fun hw => ?_, g2⟩
  obtain ⟨a2, a3, a4⟩ := g1 hw
  rw [h 81 _ (by omega)]
  exact ⟨a2, a3, a4⟩
noncomputable def KQ (M : mm_M) : Prop := KN M 0 (M.2.1 77 58).toInt.toNat ∧ ((M.2.1 77 57).toInt = 1 → 1 ≤ (M.2.1 77 58).toInt)
abbrev KQ_r (a i : Nat) : Prop := 112 ≤ a ∧ a ≤ 114 ∧ i < 40 ∨ a = 81 ∧ i < 8 ∨ a = 77 ∧ (i = 57 ∨ i = 58)
theorem KQ_f {M M1 : mm_M} (h : ∀ a i, KQ_r a i → M1.2.1 a i = M.2.1 a i) (H : KQ M) : KQ M1 := by
  unfold KQ
  rw [h 77 58 (by omega), h 77 57 (by omega)]
  exact ⟨KN_f (fun a i z => h a i (by omega)) H.1, H.2⟩
theorem KQ_0 {M : mm_M} (h : (M.2.1 77 58).toInt = 0) (h2 : (M.2.1 77 57).toInt = 0) : KQ M := by
  refine ⟨fun k _ hl => ?_, fun z => ?_⟩
  · rw [h] at hl
    exact absurd hl (by omega)
  · rw [h2] at z
    exact absurd z (by omega)
theorem g_nn {M : mm_M} (hG : g_G M) (i : Nat) : 0 ≤ (M.2.1 100 i).toInt ∧ (M.2.1 100 i).toInt ≤ 30 := g_b hG rfl rfl
theorem PSm_le {M : mm_M} (hG : g_G M) {p : Nat} (hp : p < 6) : (M.2.1 100 p).toInt ≤ PSm M := by
  have h0 := g_nn hG 0
  have h1 := g_nn hG 1
  have h2 := g_nn hG 2
  have h3 := g_nn hG 3
  have h4 := g_nn hG 4
  have h5 := g_nn hG 5
  unfold PSm
  rcases (show p = 0 ∨ p = 1 ∨ p = 2 ∨ p = 3 ∨ p = 4 ∨ p = 5 by omega) with z | z | z | z | z | z <;> subst z <;> omega
theorem PSm_le2 {M : mm_M} (hG : g_G M) {p q : Nat} (hp : p < 6) (hq : q < 6) (hn : ¬ p = q) : (M.2.1 100 p).toInt + (M.2.1 100 q).toInt ≤ PSm M := by
  have h0 := g_nn hG 0
  have h1 := g_nn hG 1
  have h2 := g_nn hG 2
  have h3 := g_nn hG 3
  have h4 := g_nn hG 4
  have h5 := g_nn hG 5
  unfold PSm
  rcases (show p = 0 ∨ p = 1 ∨ p = 2 ∨ p = 3 ∨ p = 4 ∨ p = 5 by omega) with z | z | z | z | z | z <;> subst z <;> rcases (show q = 0 ∨ q = 1 ∨ q = 2 ∨ q = 3 ∨ q = 4 ∨ q = 5 by omega) with z | z | z | z | z | z <;> subst z <;> first | omega | (exact absurd rfl hn)
theorem PSm_set {M M1 : mm_M} {p : Nat} (hp : p < 6) (hn : ∀ i, ¬ i = p → M1.2.1 100 i = M.2.1 100 i) : PSm M1 = PSm M - (M.2.1 100 p).toInt + (M1.2.1 100 p).toInt := by
  unfold PSm
  rcases (show p = 0 ∨ p = 1 ∨ p = 2 ∨ p = 3 ∨ p = 4 ∨ p = 5 by omega) with z | z | z | z | z | z <;> subst z
  · rw [hn 1 (by omega), hn 2 (by omega), hn 3 (by omega), hn 4 (by omega), hn 5 (by omega)]; omega
  · rw [hn 0 (by omega), hn 2 (by omega), hn 3 (by omega), hn 4 (by omega), hn 5 (by omega)]; omega
  · rw [hn 0 (by omega), hn 1 (by omega), hn 3 (by omega), hn 4 (by omega), hn 5 (by omega)]; omega
  · rw [hn 0 (by omega), hn 1 (by omega), hn 2 (by omega), hn 4 (by omega), hn 5 (by omega)]; omega
  · rw [hn 0 (by omega), hn 1 (by omega), hn 2 (by omega), hn 3 (by omega), hn 5 (by omega)]; omega
  · rw [hn 0 (by omega), hn 1 (by omega), hn 2 (by omega), hn 3 (by omega), hn 4 (by omega)]; omega
theorem PSm_f {M M1 : mm_M} (h : ∀ i, M1.2.1 100 i = M.2.1 100 i) : PSm M1 = PSm M := by
  unfold PSm
  rw [h 0, h 1, h 2, h 3, h 4, h 5]
theorem PSm_0 {M : mm_M} (h : ∀ j : Nat, j < 6 → M.2.1 100 j = 0) : PSm M = 0 := by
  unfold PSm
  rw [h 0 (by omega), h 1 (by omega), h 2 (by omega), h 3 (by omega), h 4 (by omega), h 5 (by omega)]
  rfl
theorem PS_i {M : mm_M} (h : PSm M ≤ (M.2.1 77 28).toInt) : PS M := h
theorem PS_e {M : mm_M} (h : PS M) : PSm M ≤ (M.2.1 77 28).toInt := h
end
section
/-! ACTS as they are read: what their numbers are, and how the repeated ones are nested -/
abbrev AB_c (w o t h : Int) : Prop := (w = 0 → 0 ≤ o ∧ o ≤ 5 ∧ 0 ≤ t ∧ 0 ≤ h) ∧ (w = 1 → 0 ≤ o ∧ o ≤ 5 ∧ 0 ≤ t ∧ ¬ t = o) ∧ (w = 2 → 0 ≤ o)
noncomputable def AB (M : mm_M) : Prop := ∀ a : Nat, a < 40 → (a : Int) < (M.2.1 77 44).toInt → AB_c (M.2.1 101 a).toInt (M.2.1 102 a).toInt (M.2.1 103 a).toInt (M.2.1 104 a).toInt
abbrev AB_r (a i : Nat) : Prop := a = 77 ∧ i = 44 ∨ 101 ≤ a ∧ a ≤ 104
theorem AB_f {M M1 : mm_M} (h : ∀ a i, AB_r a i → M1.2.1 a i = M.2.1 a i) (H : AB M) : AB M1 := fun a ha hl => by
  rw [h 77 44 (by omega)] at hl
  rw [h 101 a (by omega), h 102 a (by omega), h 103 a (by omega), h 104 a (by omega)]
  exact H a ha hl
theorem AB_0 {M : mm_M} (h : (M.2.1 77 44).toInt = 0) : AB M := fun a _ hl => by omega
theorem AB_k {M M1 : mm_M} {n : Nat} (H : AB M) (hn : (n : Int) = (M.2.1 77 44).toInt) (h44 : (M1.2.1 77 44).toInt = (n : Int) + 1) (hf : ∀ r i : Nat, (101 ≤ r ∧ r ≤ 104) → ¬ i = n → M1.2.1 r i = M.2.1 r i) (hc : AB_c (M1.2.1 101 n).toInt (M1.2.1 102 n).toInt (M1.2.1 103 n).toInt (M1.2.1 104 n).toInt) : AB M1 := fun a ha hl => by
  by_cases e : a = n
  · subst e
    exact hc
  · rw [hf 101 a (by omega) e, hf 102 a (by omega) e, hf 103 a (by omega) e, hf 104 a (by omega) e]
    exact H a ha (by omega)
theorem AB_u {M : mm_M} {A : Int} (H : AB M) (h0 : 0 ≤ A) (h1 : A < (M.2.1 77 44).toInt) (h2 : A < 40) : AB_c (M.2.1 101 A.toNat).toInt (M.2.1 102 A.toNat).toInt (M.2.1 103 A.toNat).toInt (M.2.1 104 A.toNat).toInt := H A.toNat (by omega) (by omega)
/-- a repeated act that is closed -/
noncomputable def cl (M : mm_M) (lev : Nat → Nat) (n : Int) (a : Nat) : Prop := (a : Int) < (M.2.1 105 a).toInt ∧ (M.2.1 105 a).toInt ≤ n ∧ ∀ c : Nat, a < c → (c : Int) < (M.2.1 105 a).toInt → (M.2.1 101 c).toInt = 2 → (M.2.1 105 c).toInt ≤ (M.2.1 105 a).toInt ∧ lev a + 1 ≤ lev c
noncomputable def ST (M : mm_M) : Prop := ∃ lev : Nat → Nat,
  (∀ a : Nat, (a : Int) < (M.2.1 77 44).toInt → (M.2.1 101 a).toInt = 2 → lev a ≤ 4 ∧ ((∃ i : Nat, (i : Int) < (M.2.1 77 52).toInt ∧ (M.2.1 108 i).toInt = a) ∨ (cl M lev (M.2.1 77 44).toInt a ∧ ∀ i : Nat, (i : Int) < (M.2.1 77 52).toInt → (M.2.1 108 i).toInt ≤ a ∨ (M.2.1 105 a).toInt ≤ (M.2.1 108 i).toInt))) ∧
  (∀ i : Nat, (i : Int) < (M.2.1 77 52).toInt → 0 ≤ (M.2.1 108 i).toInt ∧ (M.2.1 108 i).toInt < (M.2.1 77 44).toInt ∧ (M.2.1 101 (M.2.1 108 i).toInt.toNat).toInt = 2 ∧ lev (M.2.1 108 i).toInt.toNat = i ∧ ∀ c : Nat, (M.2.1 108 i).toInt < c → (c : Int) < (M.2.1 77 44).toInt → (M.2.1 101 c).toInt = 2 → i + 1 ≤ lev c) ∧
  (∀ i j : Nat, i < j → (j : Int) < (M.2.1 77 52).toInt → (M.2.1 108 i).toInt < (M.2.1 108 j).toInt)
abbrev ST_r (a i : Nat) : Prop := a = 77 ∧ (i = 44 ∨ i = 52) ∨ a = 101 ∨ a = 105 ∨ a = 108
theorem ST_f {M M1 : mm_M} (h : ∀ a i, ST_r a i → M1.2.1 a i = M.2.1 a i) (H : ST M) : ST M1 := by
  have h1 : ∀ i, M1.2.1 101 i = M.2.1 101 i := fun i => h 101 i (by omega)
  have h5 : ∀ i, M1.2.1 105 i = M.2.1 105 i := fun i => h 105 i (by omega)
  have h8 : ∀ i, M1.2.1 108 i = M.2.1 108 i := fun i => h 108 i (by omega)
  unfold ST cl at H ⊢
  simp only [h1, h5, h8, h 77 44 (by omega), h 77 52 (by omega)]
  exact H
theorem ST_0 {M : mm_M} (h : (M.2.1 77 44).toInt = 0) (h2 : (M.2.1 77 52).toInt = 0) : ST M := ⟨fun _ => 0, fun a hl => absurd hl (by omega), fun i hl => absurd hl (by omega), fun i j _ hl => absurd hl (by omega)⟩
theorem ST_close {M M1 : mm_M} {k : Nat} (H : ST M) (hk : (k : Int) + 1 = (M.2.1 77 52).toInt) (h44 : (M1.2.1 77 44).toInt = (M.2.1 77 44).toInt) (h52 : (M1.2.1 77 52).toInt = (k : Int)) (h101 : ∀ i, M1.2.1 101 i = M.2.1 101 i) (h108 : ∀ i, M1.2.1 108 i = M.2.1 108 i) (h105 : ∀ i, ¬ i = (M.2.1 108 k).toInt.toNat → M1.2.1 105 i = M.2.1 105 i) (h5a : (M1.2.1 105 (M.2.1 108 k).toInt.toNat).toInt = (M.2.1 77 44).toInt) : ST M1 := by
  obtain ⟨lev, H1, H2, H3⟩ := H
  obtain ⟨b1, b2, b3, b4, b5⟩ := H2 k (by omega)
  refine ⟨lev, fun a ha hw => ?_, fun i hi => ?_, fun i j hij hj => ?_⟩
  · rw [h101] at hw
    rw [h44] at ha
    obtain ⟨c1, c2⟩ := H1 a ha hw
    refine ⟨c1, ?_⟩
    by_cases e : a = (M.2.1 108 k).toInt.toNat
    · right
      refine ⟨⟨by rw [e, h5a]; omega, by rw [e, h5a, h44]; omega, fun c hc hce hcw => ?_⟩, fun i hi => ?_⟩
      · rw [e, h5a] at hce ⊢
        rw [h101] at hcw
        have hne : ¬ c = (M.2.1 108 k).toInt.toNat := by omega
        rw [h105 c hne]
        obtain ⟨-, d2⟩ := H1 c hce hcw
        refine ⟨?_, ?_⟩
        · rcases d2 with ⟨i, hi, hie⟩ | ⟨d3, -⟩
          · by_cases z : i = k
            · subst z
              omega
            · have := H3 i k (by omega) (by omega)
              omega
          · exact d3.2.1
        · have := b5 c (by omega) hce hcw
          rw [b4]
          exact this
      · rw [h108]
        left
        have := H3 i k (by omega) (by omega)
        omega
    · rcases c2 with ⟨i, hi, hie⟩ | ⟨d3, d4⟩
      · left
        refine ⟨i, ?_, by rw [h108]; exact hie⟩
        have : ¬ i = k := fun z => e (by rw [← z]; omega)
        omega
      · right
        have d5 := d4 k (by omega)
        refine ⟨⟨by rw [h105 a e]; exact d3.1, by rw [h105 a e, h44]; exact d3.2.1, fun c hc hce hcw => ?_⟩, fun i hi => ?_⟩
        · rw [h105 a e] at hce ⊢
          rw [h101] at hcw
          rw [h105 c (by omega)]
          exact d3.2.2 c hc hce hcw
        · rw [h105 a e, h108]
          exact d4 i (by omega)
  · obtain ⟨g1, g2, g3, g4, g5⟩ := H2 i (by omega)
    rw [h108, h44, h101]
    refine ⟨g1, g2, g3, g4, fun c hc hcn hcw => ?_⟩
    rw [h101] at hcw
    exact g5 c hc hcn hcw
  · rw [h108, h108]
    exact H3 i j hij (by omega)
theorem ST_push {M M1 : mm_M} {n k : Nat} (H : ST M) (hn : (n : Int) = (M.2.1 77 44).toInt) (hk : (k : Int) = (M.2.1 77 52).toInt) (hk4 : k ≤ 4) (h44 : (M1.2.1 77 44).toInt = (n : Int) + 1) (h52 : (M1.2.1 77 52).toInt = (k : Int) + 1) (h101 : ∀ i, ¬ i = n → M1.2.1 101 i = M.2.1 101 i) (h1n : (M1.2.1 101 n).toInt = 2) (h108 : ∀ i, ¬ i = k → M1.2.1 108 i = M.2.1 108 i) (h8k : (M1.2.1 108 k).toInt = (n : Int)) (h105 : ∀ i, M1.2.1 105 i = M.2.1 105 i) : ST M1 := by
  obtain ⟨lev, H1, H2, H3⟩ := H
  refine ⟨fun a => if a = n then k else lev a, fun a ha hw => ?_, fun i hi => ?_, fun i j hij hj => ?_⟩
  · by_cases e : a = n
    · refine ⟨?_, Or.inl ⟨k, by omega, by rw [h8k, e]⟩⟩
      show (if a = n then k else lev a) ≤ 4
      rw [if_pos e]; exact hk4
    · rw [h101 a e] at hw
      obtain ⟨c1, c2⟩ := H1 a (by omega) hw
      refine ⟨?_, ?_⟩
      · show (if a = n then k else lev a) ≤ 4
        rw [if_neg e]; exact c1
      · rcases c2 with ⟨i, hi, hie⟩ | ⟨d3, d4⟩
        · left
          exact ⟨i, by omega, by rw [h108 i (by omega)]; exact hie⟩
        · right
          have d5 := d3.2.1
          refine ⟨⟨by rw [h105]; exact d3.1, by rw [h105]; omega, fun c hc hce hcw => ?_⟩, fun i hi => ?_⟩
          · rw [h105] at hce
            have hcn : ¬ c = n := by omega
            rw [h101 c hcn] at hcw
            rw [h105, h105]
            show _ ∧ (if a = n then k else lev a) + 1 ≤ (if c = n then k else lev c)
            rw [if_neg e, if_neg hcn]
            exact d3.2.2 c hc hce hcw
          · rw [h105]
            by_cases z : i = k
            · subst z
              rw [h8k]
              right; omega
            · rw [h108 i z]
              exact d4 i (by omega)
  · by_cases z : i = k
    · subst z
      rw [h8k, h44]
      refine ⟨by omega, by omega, ?_, ?_, fun c hc hcn _ => absurd hc (by omega)⟩
      · rw [show (n : Int).toNat = n by omega]; exact h1n
      · show (if (n : Int).toNat = n then i else _) = i
        rw [if_pos (by omega)]
    · obtain ⟨g1, g2, g3, g4, g5⟩ := H2 i (by omega)
      rw [h108 i z]
      have hne : ¬ (M.2.1 108 i).toInt.toNat = n := by omega
      refine ⟨g1, by omega, by rw [h101 _ hne]; exact g3, ?_, fun c hc hcn hcw => ?_⟩
      · show (if (M.2.1 108 i).toInt.toNat = n then k else lev (M.2.1 108 i).toInt.toNat) = i
        rw [if_neg hne]; exact g4
      · show i + 1 ≤ (if c = n then k else lev c)
        by_cases ec : c = n
        · rw [if_pos ec]; omega
        · rw [if_neg ec]
          rw [h101 c ec] at hcw
          exact g5 c hc (by omega) hcw
  · by_cases z : j = k
    · subst z
      rw [h8k, h108 i (by omega)]
      have := (H2 i (by omega)).2.1
      omega
    · rw [h108 i (by omega), h108 j z]
      exact H3 i j hij (by omega)
theorem ST_plain {M M1 : mm_M} {n : Nat} (H : ST M) (hn : (n : Int) = (M.2.1 77 44).toInt) (h44 : (M1.2.1 77 44).toInt = (n : Int) + 1) (h52 : (M1.2.1 77 52).toInt = (M.2.1 77 52).toInt) (h101 : ∀ i, ¬ i = n → M1.2.1 101 i = M.2.1 101 i) (h1n : ¬ (M1.2.1 101 n).toInt = 2) (h108 : ∀ i, M1.2.1 108 i = M.2.1 108 i) (h105 : ∀ i, M1.2.1 105 i = M.2.1 105 i) : ST M1 := by
  obtain ⟨lev, H1, H2, H3⟩ := H
  refine ⟨lev, fun a ha hw => ?_, fun i hi => ?_, fun i j hij hj => ?_⟩
  · have e : ¬ a = n := fun z => h1n (by rw [← z]; exact hw)
    rw [h101 a e] at hw
    obtain ⟨c1, c2⟩ := H1 a (by omega) hw
    refine ⟨c1, ?_⟩
    rcases c2 with ⟨i, hi, hie⟩ | ⟨d3, d4⟩
    · left
      exact ⟨i, by omega, by rw [h108]; exact hie⟩
    · right
      have d5 := d3.2.1
      refine ⟨⟨by rw [h105]; exact d3.1, by rw [h105]; omega, fun c hc hce hcw => ?_⟩, fun i hi => ?_⟩
      · rw [h105] at hce
        have hcn : ¬ c = n := by omega
        rw [h101 c hcn] at hcw
        rw [h105, h105]
        exact d3.2.2 c hc hce hcw
      · rw [h105, h108]
        exact d4 i (by omega)
  · obtain ⟨g1, g2, g3, g4, g5⟩ := H2 i (by omega)
    have hne : ¬ (M.2.1 108 i).toInt.toNat = n := by omega
    rw [h108, h101 _ hne]
    refine ⟨g1, by omega, g3, g4, fun c hc hcn hcw => ?_⟩
    have ec : ¬ c = n := fun z => h1n (by rw [← z]; exact hcw)
    rw [h101 c ec] at hcw
    exact g5 c hc (by omega) hcw
  · rw [h108, h108]
    exact H3 i j hij (by omega)
/-! ACTS as they are done: the repetitions begun lie in one another -/
noncomputable def DS (M : mm_M) (lev : Nat → Nat) : Prop := ∀ a : Nat, (a : Int) < (M.2.1 77 44).toInt → (M.2.1 101 a).toInt = 2 → lev a ≤ 4 ∧ cl M lev (M.2.1 77 44).toInt a
noncomputable def LK (M : mm_M) (lev : Nat → Nat) (a : Int) (k : Nat) : Prop := ∀ i : Nat, i < k → (0 ≤ (M.2.1 110 i).toInt ∧ (M.2.1 110 i).toInt < (M.2.1 77 44).toInt) ∧ (M.2.1 101 (M.2.1 110 i).toInt.toNat).toInt = 2 ∧ (M.2.1 110 i).toInt < a ∧ a ≤ (M.2.1 105 (M.2.1 110 i).toInt.toNat).toInt ∧ i ≤ lev (M.2.1 110 i).toInt.toNat ∧ ∀ j : Nat, i < j → j < k → (M.2.1 110 i).toInt < (M.2.1 110 j).toInt ∧ (M.2.1 105 (M.2.1 110 j).toInt.toNat).toInt ≤ (M.2.1 105 (M.2.1 110 i).toInt.toNat).toInt
noncomputable def DK (M : mm_M) (a : Int) (k : Nat) : Prop := ∃ lev : Nat → Nat, DS M lev ∧ LK M lev a k
theorem DK_0 {M : mm_M} {a : Int} (H : ST M) (h : (M.2.1 77 52).toInt ≤ 0) : DK M a 0 := by
  obtain ⟨lev, H1, -, -⟩ := H
  refine ⟨lev, fun b hb hw => ?_, fun i hi => absurd hi (by omega)⟩
  obtain ⟨c1, c2⟩ := H1 b hb hw
  rcases c2 with ⟨i, hi, -⟩ | ⟨c3, -⟩
  · exact absurd hi (by omega)
  · exact ⟨c1, c3⟩
theorem DK_f {M M1 : mm_M} {a : Int} {k : Nat} (h : ∀ r i, (r = 77 ∧ i = 44 ∨ r = 101 ∨ r = 105 ∨ r = 110) → M1.2.1 r i = M.2.1 r i) (H : DK M a k) : DK M1 a k := by
  have h1 : ∀ i, M1.2.1 101 i = M.2.1 101 i := fun i => h 101 i (by omega)
  have h5 : ∀ i, M1.2.1 105 i = M.2.1 105 i := fun i => h 105 i (by omega)
  have h8 : ∀ i, M1.2.1 110 i = M.2.1 110 i := fun i => h 110 i (by omega)
  unfold DK DS LK cl at H ⊢
  simp only [h1, h5, h8, h 77 44 (by omega)]
  exact H
theorem DK_pop {M : mm_M} {a : Int} {k : Nat} (H : DK M a (k + 1)) : DK M a k := by
  obtain ⟨lev, H1, H2⟩ := H
  refine ⟨lev, H1, fun i hi => ?_⟩
  obtain ⟨g1, g2, g3, g4, g5, g6⟩ := H2 i (by omega)
  exact ⟨g1, g2, g3, g4, g5, fun j hij hj => g6 j hij (by omega)⟩
theorem DK_t {M : mm_M} {a : Int} {k : Nat} (H : DK M a (k + 1)) : 0 ≤ (M.2.1 110 k).toInt ∧ (M.2.1 110 k).toInt < (M.2.1 77 44).toInt ∧ (M.2.1 110 k).toInt < a ∧ a ≤ (M.2.1 105 (M.2.1 110 k).toInt.toNat).toInt ∧ (M.2.1 105 (M.2.1 110 k).toInt.toNat).toInt ≤ (M.2.1 77 44).toInt := by
  obtain ⟨lev, H1, H2⟩ := H
  obtain ⟨g1, g2, g3, g4, -, -⟩ := H2 k (by omega)
  obtain ⟨-, c⟩ := H1 _ (by omega) g2
  exact ⟨g1.1, g1.2, g3, g4, c.2.1⟩
theorem DK_dec {M : mm_M} {a b : Int} {k : Nat} (H : DK M a (k + 1)) (hb : b = (M.2.1 110 k).toInt + 1) : DK M b (k + 1) := by
  obtain ⟨lev, H1, H2⟩ := H
  obtain ⟨t1, t2, t3, t4, t5, -⟩ := H2 k (by omega)
  obtain ⟨-, c⟩ := H1 _ (by omega) t2
  have c1 := c.1
  refine ⟨lev, H1, fun i hi => ?_⟩
  obtain ⟨g1, g2, g3, g4, g5, g6⟩ := H2 i hi
  by_cases e : i = k
  · subst e
    exact ⟨g1, g2, by omega, by omega, g5, g6⟩
  · have := g6 k (by omega) (by omega)
    exact ⟨g1, g2, by omega, by omega, g5, g6⟩
theorem DK_in {M : mm_M} {a : Int} {k : Nat} {lev : Nat → Nat} (H2 : LK M lev a k) (hne : k = 0 ∨ a < (M.2.1 105 (M.2.1 110 (k - 1)).toInt.toNat).toInt) (i : Nat) (hi : i < k) : a < (M.2.1 105 (M.2.1 110 i).toInt.toNat).toInt := by
  rcases hne with z | z
  · omega
  · by_cases e : i = k - 1
    · rw [e]; exact z
    · have := (H2 i hi).2.2.2.2.2 (k - 1) (by omega) (by omega)
      omega
theorem DK_next {M : mm_M} {a : Int} {k : Nat} (H : DK M a k) (hne : k = 0 ∨ a < (M.2.1 105 (M.2.1 110 (k - 1)).toInt.toNat).toInt) : DK M (a + 1) k := by
  obtain ⟨lev, H1, H2⟩ := H
  refine ⟨lev, H1, fun i hi => ?_⟩
  have := DK_in H2 hne i hi
  obtain ⟨g1, g2, g3, g4, g5, g6⟩ := H2 i hi
  exact ⟨g1, g2, by omega, by omega, g5, g6⟩
theorem DK_skip {M : mm_M} {a : Int} {k : Nat} (H : DK M a k) (h0 : 0 ≤ a) (hn : a < (M.2.1 77 44).toInt) (hw : (M.2.1 101 a.toNat).toInt = 2) (hne : k = 0 ∨ a < (M.2.1 105 (M.2.1 110 (k - 1)).toInt.toNat).toInt) : DK M (M.2.1 105 a.toNat).toInt k ∧ a < (M.2.1 105 a.toNat).toInt ∧ (M.2.1 105 a.toNat).toInt ≤ (M.2.1 77 44).toInt := by
  obtain ⟨lev, H1, H2⟩ := H
  obtain ⟨-, c⟩ := H1 a.toNat (by omega) hw
  have c1 := c.1
  refine ⟨⟨lev, H1, fun i hi => ?_⟩, by omega, c.2.1⟩
  have z := DK_in H2 hne i hi
  obtain ⟨g1, g2, g3, g4, g5, g6⟩ := H2 i hi
  obtain ⟨-, b⟩ := H1 _ (by omega) g2
  have := b.2.2 a.toNat (by omega) (by omega) hw
  exact ⟨g1, g2, by omega, by omega, g5, g6⟩
theorem DK_lev {M : mm_M} {a : Int} {k : Nat} {lev : Nat → Nat} (H1 : DS M lev) (H2 : LK M lev a k) (h0 : 0 ≤ a) (hw : (M.2.1 101 a.toNat).toInt = 2) (hne : k = 0 ∨ a < (M.2.1 105 (M.2.1 110 (k - 1)).toInt.toNat).toInt) : k ≤ lev a.toNat := by
  by_cases e : k = 0
  · omega
  · have z := DK_in H2 hne (k - 1) (by omega)
    obtain ⟨g1, g2, g3, g4, g5, g6⟩ := H2 (k - 1) (by omega)
    obtain ⟨-, b⟩ := H1 _ (by omega) g2
    have := b.2.2 a.toNat (by omega) (by omega) hw
    omega
theorem DK_le {M : mm_M} {a : Int} {k : Nat} (H : DK M a k) (h0 : 0 ≤ a) (hn : a < (M.2.1 77 44).toInt) (hw : (M.2.1 101 a.toNat).toInt = 2) (hne : k = 0 ∨ a < (M.2.1 105 (M.2.1 110 (k - 1)).toInt.toNat).toInt) : k ≤ 4 := by
  obtain ⟨lev, H1, H2⟩ := H
  have := DK_lev H1 H2 h0 hw hne
  have := (H1 a.toNat (by omega) hw).1
  omega
theorem DK_push {M M1 : mm_M} {a : Int} {k : Nat} (H : DK M a k) (h0 : 0 ≤ a) (hn : a < (M.2.1 77 44).toInt) (hw : (M.2.1 101 a.toNat).toInt = 2) (hne : k = 0 ∨ a < (M.2.1 105 (M.2.1 110 (k - 1)).toInt.toNat).toInt) (hf : ∀ r i, (r = 77 ∧ i = 44 ∨ r = 101 ∨ r = 105 ∨ r = 110 ∧ ¬ i = k) → M1.2.1 r i = M.2.1 r i) (hk : (M1.2.1 110 k).toInt = a) : DK M1 (a + 1) (k + 1) := by
  have h1 : ∀ i, M1.2.1 101 i = M.2.1 101 i := fun i => hf 101 i (by omega)
  have h5 : ∀ i, M1.2.1 105 i = M.2.1 105 i := fun i => hf 105 i (by omega)
  have h44 : M1.2.1 77 44 = M.2.1 77 44 := hf 77 44 (by omega)
  obtain ⟨lev, H1, H2⟩ := H
  have hl := DK_lev H1 H2 h0 hw hne
  obtain ⟨-, c⟩ := H1 a.toNat (by omega) hw
  have c1 := c.1
  refine ⟨lev, ?_, fun i hi => ?_⟩
  · unfold DS cl at H1 ⊢
    simp only [h1, h5, h44]
    exact H1
  · simp only [h1, h5, h44]
    by_cases e : i = k
    · subst e
      rw [hk]
      exact ⟨⟨h0, hn⟩, hw, by omega, by omega, hl, fun j hij hj => absurd hij (by omega)⟩
    · have z := DK_in H2 hne i (by omega)
      obtain ⟨g1, g2, g3, g4, g5, g6⟩ := H2 i (by omega)
      rw [hf 110 i (by omega)]
      obtain ⟨-, b⟩ := H1 _ (by omega) g2
      have hb := b.2.2 a.toNat (by omega) (by omega) hw
      refine ⟨g1, g2, by omega, by omega, g5, fun j hij hj => ?_⟩
      by_cases ej : j = k
      · subst ej
        rw [hk]
        exact ⟨g3, hb.1⟩
      · rw [hf 110 j (by omega)]
        exact g6 j hij (by omega)
/-- how often they are still to be done -/
noncomputable def LSm (M : mm_M) : Nat → Int
  | 0 => 0
  | k + 1 => LSm M k + (M.2.1 111 k).toInt + 1
theorem LSm_nn {M : mm_M} (hG : g_G M) : ∀ k : Nat, 0 ≤ LSm M k ∧ LSm M k ≤ 100 * (k : Int)
  | 0 => ⟨Int.le_refl 0, Int.le_refl 0⟩
  | k + 1 => by
    have h := LSm_nn hG k
    have h2 : 0 ≤ (M.2.1 111 k).toInt ∧ (M.2.1 111 k).toInt ≤ 99 := g_b hG rfl rfl
    show 0 ≤ LSm M k + (M.2.1 111 k).toInt + 1 ∧ LSm M k + (M.2.1 111 k).toInt + 1 ≤ 100 * ((k + 1 : Nat) : Int)
    omega
theorem LSm_f {M M1 : mm_M} : ∀ k : Nat, (∀ i, i < k → M1.2.1 111 i = M.2.1 111 i) → LSm M1 k = LSm M k
  | 0, _ => rfl
  | k + 1, h => by
    show LSm M1 k + (M1.2.1 111 k).toInt + 1 = LSm M k + (M.2.1 111 k).toInt + 1
    rw [LSm_f k (fun i hi => h i (by omega)), h k (by omega)]
theorem LSm_s {M : mm_M} (k : Nat) : LSm M (k + 1) = LSm M k + (M.2.1 111 k).toInt + 1 := rfl
end
section
/-! THE QUESTION is read: what waits, what is held -/
noncomputable def Wo (M : mm_M) : Nat → Int
  | 0 => 0
  | k + 1 => Wo M k + (if (M.2.1 115 k).toInt = 0 then 0 else 1)
noncomputable def Wz (M : mm_M) : Nat → Int
  | 0 => 0
  | k + 1 => Wz M k + (if (M.2.1 115 k).toInt = 0 then 1 else 0)
noncomputable def Wb (M : mm_M) : Nat → Int
  | 0 => 0
  | k + 1 => Wb M k + (if (M.2.1 115 k).toInt = 3 ∨ (M.2.1 115 k).toInt = 4 then 1 else 0)
theorem Wx_f {M M1 : mm_M} : ∀ k : Nat, (∀ i, i < k → M1.2.1 115 i = M.2.1 115 i) → Wo M1 k = Wo M k ∧ Wz M1 k = Wz M k ∧ Wb M1 k = Wb M k
  | 0, _ => ⟨rfl, rfl, rfl⟩
  | k + 1, h => by
    obtain ⟨g1, g2, g3⟩ := Wx_f k (fun i hi => h i (by omega))
    refine ⟨?_, ?_, ?_⟩
    · show Wo M1 k + (if (M1.2.1 115 k).toInt = 0 then 0 else 1) = _
      rw [g1, h k (by omega)]; rfl
    · show Wz M1 k + (if (M1.2.1 115 k).toInt = 0 then 1 else 0) = _
      rw [g2, h k (by omega)]; rfl
    · show Wb M1 k + (if (M1.2.1 115 k).toInt = 3 ∨ (M1.2.1 115 k).toInt = 4 then 1 else 0) = _
      rw [g3, h k (by omega)]; rfl
theorem Wx_s (M : mm_M) (k : Nat) : ((M.2.1 115 k).toInt = 0 → Wo M (k + 1) = Wo M k ∧ Wz M (k + 1) = Wz M k + 1 ∧ Wb M (k + 1) = Wb M k) ∧ ((M.2.1 115 k).toInt = 2 → Wo M (k + 1) = Wo M k + 1 ∧ Wz M (k + 1) = Wz M k ∧ Wb M (k + 1) = Wb M k) ∧ (((M.2.1 115 k).toInt = 3 ∨ (M.2.1 115 k).toInt = 4) → Wo M (k + 1) = Wo M k + 1 ∧ Wz M (k + 1) = Wz M k ∧ Wb M (k + 1) = Wb M k + 1) := by
  have e1 : Wo M (k + 1) = Wo M k + (if (M.2.1 115 k).toInt = 0 then 0 else 1) := rfl
  have e2 : Wz M (k + 1) = Wz M k + (if (M.2.1 115 k).toInt = 0 then 1 else 0) := rfl
  have e3 : Wb M (k + 1) = Wb M k + (if (M.2.1 115 k).toInt = 3 ∨ (M.2.1 115 k).toInt = 4 then 1 else 0) := rfl
  rw [e1, e2, e3]
  refine ⟨fun z => ?_, fun z => ?_, fun z => ?_⟩
  · rw [z]; simp
  · rw [z]; simp
  · have hn : ¬ (M.2.1 115 k).toInt = 0 := by omega
    rw [if_neg hn, if_neg hn, if_pos z]
    exact ⟨rfl, by omega, rfl⟩
theorem Wx_b (M : mm_M) : ∀ k : Nat, 0 ≤ Wo M k ∧ 0 ≤ Wz M k ∧ 0 ≤ Wb M k ∧ Wb M k ≤ Wo M k ∧ Wo M k + Wz M k = (k : Int)
  | 0 => ⟨Int.le_refl 0, Int.le_refl 0, Int.le_refl 0, Int.le_refl 0, rfl⟩
  | k + 1 => by
    have h := Wx_b M k
    have e1 : Wo M (k + 1) = Wo M k + (if (M.2.1 115 k).toInt = 0 then 0 else 1) := rfl
    have e2 : Wz M (k + 1) = Wz M k + (if (M.2.1 115 k).toInt = 0 then 1 else 0) := rfl
    have e3 : Wb M (k + 1) = Wb M k + (if (M.2.1 115 k).toInt = 3 ∨ (M.2.1 115 k).toInt = 4 then 1 else 0) := rfl
    rw [e1, e2, e3]
    by_cases z : (M.2.1 115 k).toInt = 0
    · rw [if_pos z, if_pos z, if_neg (by omega)]
      omega
    · rw [if_neg z, if_neg z]
      by_cases z2 : (M.2.1 115 k).toInt = 3 ∨ (M.2.1 115 k).toInt = 4
      · rw [if_pos z2]
        omega
      · rw [if_neg z2]
        omega
abbrev QK_c (M : mm_M) (n b w c hl t : Int) : Prop := Wz M w.toNat = b ∧ n + Wo M w.toNat ≤ c ∧ hl = Wb M w.toNat + t ∧ hl ≤ n
noncomputable def QK (M : mm_M) : Prop := QK_c M (M.2.1 77 59).toInt (M.2.1 77 67).toInt (M.2.1 77 65).toInt (M.2.1 77 69).toInt (M.2.1 77 66).toInt (M.2.1 77 68).toInt ∧ (∀ i : Nat, (i : Int) < (M.2.1 77 65).toInt → ¬ (M.2.1 115 i).toInt = 1) ∧ KN M 40 (M.2.1 77 59).toInt.toNat
abbrev QK_r (a i : Nat) : Prop := a = 77 ∧ (i = 59 ∨ 65 ≤ i ∧ i ≤ 69) ∨ a = 115 ∨ 112 ≤ a ∧ a ≤ 114 ∧ 40 ≤ i ∧ i < 80 ∨ a = 81 ∧ i < 8
theorem QK_f {M M1 : mm_M} (h : ∀ a i, QK_r a i → M1.2.1 a i = M.2.1 a i) (H : QK M) : QK M1 := by
  obtain ⟨H1, H2, H3⟩ := H
  have hw := Wx_f (M := M) (M1 := M1) (M.2.1 77 65).toInt.toNat (fun i _ => h 115 i (by omega))
  unfold QK QK_c
  rw [h 77 59 (by omega), h 77 65 (by omega), h 77 66 (by omega), h 77 67 (by omega), h 77 68 (by omega), h 77 69 (by omega), hw.1, hw.2.1, hw.2.2]
  refine ⟨H1, fun i hi => ?_, KN_f (fun a i z => h a i (by omega)) H3⟩
  rw [h 115 i (by omega)]
  exact H2 i hi
theorem QK_0 {M : mm_M} (h1 : (M.2.1 77 59).toInt = 0) (h2 : (M.2.1 77 67).toInt = 0) (h3 : (M.2.1 77 65).toInt = 0) (h4 : 0 ≤ (M.2.1 77 69).toInt) (h5 : (M.2.1 77 66).toInt = 0) (h6 : (M.2.1 77 68).toInt = 0) : QK M := by
  unfold QK QK_c
  rw [h1, h2, h3, h5, h6]
  refine ⟨⟨rfl, h4, rfl, Int.le_refl 0⟩, fun i hi => absurd hi (by omega), fun k _ hl => absurd hl (by simp)⟩
theorem KN_k {M M1 : mm_M} {n : Nat} {k p o : Int32} (H : KN M 40 n) (hf : ∀ a i, (112 ≤ a ∧ a ≤ 114 ∧ ¬ i = 40 + n ∨ a = 81) → M1.2.1 a i = M.2.1 a i) (e0 : M1.2.1 112 (40 + n) = k) (e1 : M1.2.1 113 (40 + n) = p) (e2 : M1.2.1 114 (40 + n) = o) (c0 : k.toInt = 0 → (0 ≤ p.toInt ∧ p.toInt ≤ 7) ∧ 0 ≤ o.toInt ∧ ((M.2.1 81 p.toInt.toNat).toInt = 0 ∨ o.toInt ≤ 9)) (c1 : k.toInt = 1 → 0 ≤ p.toInt ∧ p.toInt ≤ 11) (c3 : k.toInt = 3 → 0 ≤ o.toInt ∧ o.toInt ≤ 39) (c4 : k.toInt = 4 → 0 ≤ o.toInt ∧ o.toInt ≤ 39) : KN M1 40 (n + 1) := fun j hj hl => by
  by_cases e : j = n
  · subst e
    rw [e0, e1, e2, hf 81 _ (Or.inr rfl)]
    exact ⟨c0, c1, c3, c4⟩
  · rw [hf 112 _ (by omega), hf 113 _ (by omega), hf 114 _ (by omega), hf 81 _ (Or.inr rfl)]
    exact H j hj (by omega)
theorem KN_u {M : mm_M} {z n : Nat} {A : Int} (H : KN M z n) (h0 : 0 ≤ A) (h1 : A < (n : Int)) (h2 : A < 40) :
  ((M.2.1 112 (z + A.toNat)).toInt = 0 → (0 ≤ (M.2.1 113 (z + A.toNat)).toInt ∧ (M.2.1 113 (z + A.toNat)).toInt ≤ 7) ∧ 0 ≤ (M.2.1 114 (z + A.toNat)).toInt ∧ ((M.2.1 81 (M.2.1 113 (z + A.toNat)).toInt.toNat).toInt = 0 ∨ (M.2.1 114 (z + A.toNat)).toInt ≤ 9)) ∧
  ((M.2.1 112 (z + A.toNat)).toInt = 1 → 0 ≤ (M.2.1 113 (z + A.toNat)).toInt ∧ (M.2.1 113 (z + A.toNat)).toInt ≤ 11) ∧ ((M.2.1 112 (z + A.toNat)).toInt = 3 → 0 ≤ (M.2.1 114 (z + A.toNat)).toInt ∧ (M.2.1 114 (z + A.toNat)).toInt ≤ 39) ∧ ((M.2.1 112 (z + A.toNat)).toInt = 4 → 0 ≤ (M.2.1 114 (z + A.toNat)).toInt ∧ (M.2.1 114 (z + A.toNat)).toInt ≤ 39) := H A.toNat (by omega) (by omega)
theorem KN_c {M : mm_M} {n : Nat} (H : KN M 40 n) (h : ∀ a j : Nat, (112 ≤ a ∧ a ≤ 114) → j < n → M.2.1 a j = M.2.1 a (40 + j)) : KN M 0 n := fun k hk hl => by
  rw [show 0 + k = k by omega, h 112 k (by omega) hl, h 113 k (by omega) hl, h 114 k (by omega) hl]
  exact H k hk hl
theorem QK_i {M : mm_M} (h1 : QK_c M (M.2.1 77 59).toInt (M.2.1 77 67).toInt (M.2.1 77 65).toInt (M.2.1 77 69).toInt (M.2.1 77 66).toInt (M.2.1 77 68).toInt) (h2 : ∀ i : Nat, (i : Int) < (M.2.1 77 65).toInt → ¬ (M.2.1 115 i).toInt = 1) (h3 : KN M 40 (M.2.1 77 59).toInt.toNat) : QK M := ⟨h1, h2, h3⟩
theorem QK_e {M : mm_M} (H : QK M) : QK_c M (M.2.1 77 59).toInt (M.2.1 77 67).toInt (M.2.1 77 65).toInt (M.2.1 77 69).toInt (M.2.1 77 66).toInt (M.2.1 77 68).toInt := H.1
theorem KQ_u {M : mm_M} {A : Int} (H : KQ M) (h0 : 0 ≤ A) (h1 : A < (M.2.1 77 58).toInt) (h2 : A < 40) :
  ((M.2.1 112 A.toNat).toInt = 0 → (0 ≤ (M.2.1 113 A.toNat).toInt ∧ (M.2.1 113 A.toNat).toInt ≤ 7) ∧ 0 ≤ (M.2.1 114 A.toNat).toInt ∧ ((M.2.1 81 (M.2.1 113 A.toNat).toInt.toNat).toInt = 0 ∨ (M.2.1 114 A.toNat).toInt ≤ 9)) ∧
  ((M.2.1 112 A.toNat).toInt = 1 → 0 ≤ (M.2.1 113 A.toNat).toInt ∧ (M.2.1 113 A.toNat).toInt ≤ 11) ∧ ((M.2.1 112 A.toNat).toInt = 3 → 0 ≤ (M.2.1 114 A.toNat).toInt ∧ (M.2.1 114 A.toNat).toInt ≤ 39) ∧ ((M.2.1 112 A.toNat).toInt = 4 → 0 ≤ (M.2.1 114 A.toNat).toInt ∧ (M.2.1 114 A.toNat).toInt ≤ 39) := by
  have h := H.1 A.toNat (by omega) (by omega)
  rw [show 0 + A.toNat = A.toNat by omega] at h
  exact h
theorem KQ_h {M : mm_M} (H : KQ M) : (M.2.1 77 57).toInt = 1 → 1 ≤ (M.2.1 77 58).toInt := H.2
theorem i_shl12 {y : Int32} {B : Int} (ey : y.toInt = B) (h : 0 ≤ B ∧ B ≤ 12) : 1 ≤ ((1 : Int32) <<< y).toInt ∧ ((1 : Int32) <<< y).toInt ≤ 4096 := by
  by_cases h6 : B ≤ 6
  · have := i_shl1 ey ⟨h.1, h6⟩
    omega
  · rcases (show B = 7 ∨ B = 8 ∨ B = 9 ∨ B = 10 ∨ B = 11 ∨ B = 12 by omega) with z | z | z | z | z | z <;> subst z
    · rw [(i_eq ey (rfl : (7 : Int32).toInt = 7)).mpr rfl]; decide
    · rw [(i_eq ey (rfl : (8 : Int32).toInt = 8)).mpr rfl]; decide
    · rw [(i_eq ey (rfl : (9 : Int32).toInt = 9)).mpr rfl]; decide
    · rw [(i_eq ey (rfl : (10 : Int32).toInt = 10)).mpr rfl]; decide
    · rw [(i_eq ey (rfl : (11 : Int32).toInt = 11)).mpr rfl]; decide
    · rw [(i_eq ey (rfl : (12 : Int32).toInt = 12)).mpr rfl]; decide
theorem s_shl12 {X : mm_X} {d mi pc : Nat} {ls st : List Value} {M : mm_M} {Q : Option Value → mm_M → Prop} {len a b : Nat} {ps : List Nat} {y : Int32} {B : Int} (hc : mm_code mi pc = some (.ishl, len, a, b, ps)) (ey : y.toInt = B) (hr : 0 ≤ B ∧ B ≤ 12) (h : ∀ v : Int32, 1 ≤ v.toInt → v.toInt ≤ 4096 → mm_T X d mi (pc + len) ls (.int v :: st) M Q) : mm_T X d mi pc ls (.int y :: .int (1 : Int32) :: st) M Q := tt_1 hc (h ((1 : Int32) <<< y) (i_shl12 ey hr).1 (i_shl12 ey hr).2)
end
section
/-! rows put in order: how many of the first k don't fall -/
noncomputable def NF (M : mm_M) (r : Int) : Nat → Int
  | 0 => 0
  | k + 1 => NF M r k + (if (M.2.1 124 (6 * (M.2.1 121 k).toInt + r).toNat).toInt = 0 then 1 else 0)
theorem NF_f {M M1 : mm_M} {r : Int} (h : ∀ a i, (a = 121 ∨ a = 124) → M1.2.1 a i = M.2.1 a i) : ∀ k : Nat, NF M1 r k = NF M r k
  | 0 => rfl
  | k + 1 => by
    show NF M1 r k + (if (M1.2.1 124 (6 * (M1.2.1 121 k).toInt + r).toNat).toInt = 0 then 1 else 0) = NF M r k + (if (M.2.1 124 (6 * (M.2.1 121 k).toInt + r).toNat).toInt = 0 then 1 else 0)
    rw [NF_f h k, h 121 k (Or.inl rfl), h 124 _ (Or.inr rfl)]
theorem NF_s {M : mm_M} {r : Int} (k : Nat) : NF M r (k + 1) = NF M r k + (if (M.2.1 124 (6 * (M.2.1 121 k).toInt + r).toNat).toInt = 0 then 1 else 0) := rfl
theorem NF_b {M : mm_M} {r : Int} : ∀ k : Nat, 0 ≤ NF M r k ∧ NF M r k ≤ (k : Int)
  | 0 => ⟨Int.le_refl 0, Int.le_refl 0⟩
  | k + 1 => by
    have h := NF_b (M := M) (r := r) k
    rw [NF_s]
    split <;> omega
theorem NF_le {M : mm_M} {r : Int} (k : Nat) : ∀ j : Nat, NF M r k ≤ NF M r (k + j) ∧ NF M r (k + j) ≤ NF M r k + (j : Int)
  | 0 => ⟨Int.le_refl _, by show NF M r k ≤ NF M r k + 0; omega⟩
  | j + 1 => by
    have h := NF_le (M := M) (r := r) k j
    show NF M r k ≤ NF M r (k + j + 1) ∧ NF M r (k + j + 1) ≤ NF M r k + ((j + 1 : Nat) : Int)
    rw [NF_s]
    split <;> omega
theorem NF_t {M : mm_M} {r : Int} {k m : Nat} (h : k ≤ m) : NF M r k ≤ NF M r m ∧ NF M r m ≤ NF M r k + ((m : Int) - (k : Int)) := by
  obtain ⟨j, rfl⟩ : ∃ j, m = k + j := ⟨m - k, by omega⟩
  have := NF_le (M := M) (r := r) k j
  omega
theorem NF_v {M : mm_M} {r I : Int} {k : Nat} {l v : Int32} (hl : M.2.1 121 k = l) (hi : I = 6 * l.toInt + r) (hv : M.2.1 124 I.toNat = v) : (v.toInt = 0 → NF M r (k + 1) = NF M r k + 1) ∧ (¬ v.toInt = 0 → NF M r (k + 1) = NF M r k) := by
  rw [NF_s, hl, ← hi, hv]
  refine ⟨fun z => by rw [if_pos z], fun z => by rw [if_neg z]; omega⟩
/-! CODES one after another: what is picked, read as a number -/
noncomputable def PV (M : mm_M) : Nat → Int
  | 0 => 0
  | k + 1 => PV M k * 64 + (M.2.1 118 k).toInt
theorem PV_f {M M1 : mm_M} : ∀ k : Nat, (∀ i, i < k → M1.2.1 118 i = M.2.1 118 i) → PV M1 k = PV M k
  | 0, _ => rfl
  | k + 1, h => by
    show PV M1 k * 64 + (M1.2.1 118 k).toInt = PV M k * 64 + (M.2.1 118 k).toInt
    rw [PV_f k (fun i hi => h i (by omega)), h k (by omega)]
theorem PV_s {M : mm_M} (k : Nat) : PV M (k + 1) = PV M k * 64 + (M.2.1 118 k).toInt := rfl
theorem g_118 {M : mm_M} (hG : g_G M) (i : Nat) : 0 ≤ (M.2.1 118 i).toInt ∧ (M.2.1 118 i).toInt ≤ 63 := g_b hG rfl rfl
/-- with noughts behind the first j, k in all -/
noncomputable def PW (M : mm_M) (j k : Nat) : Int := PV M j * (64 : Int) ^ (k - j)
theorem PW_k {M : mm_M} {k : Nat} : PW M k k = PV M k := by
  unfold PW
  rw [Nat.sub_self]
  show PV M k * 1 = _
  omega
theorem PW_s {M : mm_M} {j k : Nat} (hj : j < k) : PW M (j + 1) k = PW M j k + (M.2.1 118 j).toInt * (64 : Int) ^ (k - (j + 1)) := by
  unfold PW
  rw [PV_s, show k - j = k - (j + 1) + 1 by omega, Int.pow_succ, Int.add_mul, Int.mul_assoc, Int.mul_comm 64]
theorem pw_pos (n : Nat) : 1 ≤ (64 : Int) ^ n := by
  induction n with
  | zero => exact Int.le_refl 1
  | succ n ih => rw [Int.pow_succ]; omega
theorem PW_le {M : mm_M} (hG : g_G M) {j k : Nat} (hj : j < k) : PW M j k ≤ PW M (j + 1) k := by
  rw [PW_s hj]
  have h1 := (g_118 hG j).1
  have h2 := pw_pos (k - (j + 1))
  have h3 : 0 ≤ (M.2.1 118 j).toInt * (64 : Int) ^ (k - (j + 1)) := Int.mul_nonneg h1 (by omega)
  omega
/-- what is behind the first j is less than one more there -/
theorem PW_lt {M : mm_M} (hG : g_G M) (j : Nat) : ∀ n : Nat, PV M (j + n) + 1 ≤ (PV M j + 1) * (64 : Int) ^ n
  | 0 => by show PV M j + 1 ≤ (PV M j + 1) * 1; omega
  | n + 1 => by
    have h := PW_lt hG j n
    have h2 := g_118 hG (j + n)
    show PV M (j + n) * 64 + (M.2.1 118 (j + n)).toInt + 1 ≤ _
    rw [Int.pow_succ, ← Int.mul_assoc]
    omega
theorem PW_inc {M M1 : mm_M} (hG : g_G M) {i k : Nat} (hi : i < k) (hf : ∀ a, a < i → M1.2.1 118 a = M.2.1 118 a) (hv : (M1.2.1 118 i).toInt = (M.2.1 118 i).toInt + 1) : PV M k + 1 ≤ PW M1 (i + 1) k := by
  have h := PW_lt hG (i + 1) (k - (i + 1))
  rw [show i + 1 + (k - (i + 1)) = k by omega] at h
  have e : PV M1 (i + 1) = PV M (i + 1) + 1 := by
    rw [PV_s, PV_s, PV_f i hf, hv]; omega
  unfold PW
  rw [e]
  exact h
theorem PV_b {M : mm_M} (hG : g_G M) (k : Nat) : 0 ≤ PV M k ∧ PV M k + 1 ≤ (64 : Int) ^ k := by
  constructor
  · induction k with
    | zero => exact Int.le_refl 0
    | succ k ih =>
      have := (g_118 hG k).1
      rw [PV_s]; omega
  · have h := PW_lt hG 0 k
    rw [Nat.zero_add] at h
    have e : (PV M 0 + 1) * (64 : Int) ^ k = (64 : Int) ^ k := by
      show (0 + 1) * _ = _
      rw [Int.zero_add, Int.one_mul]
    rw [e] at h
    exact h
theorem pw_4 {k : Nat} (hk : k ≤ 4) : (64 : Int) ^ k ≤ 16777216 := by
  rcases (show k = 0 ∨ k = 1 ∨ k = 2 ∨ k = 3 ∨ k = 4 by omega) with z | z | z | z | z <;> subst z <;> decide
theorem PW_b {M : mm_M} (hG : g_G M) {j k : Nat} (hj : j ≤ k) (hk : k ≤ 4) : 0 ≤ PW M j k ∧ PW M j k ≤ 16777216 := by
  have h := PV_b hG j
  have hp := pw_pos (k - j)
  have h4 := pw_4 hk
  unfold PW
  refine ⟨Int.mul_nonneg h.1 (by omega), ?_⟩
  have h1 : PV M j * (64 : Int) ^ (k - j) ≤ (64 : Int) ^ j * (64 : Int) ^ (k - j) := Int.mul_le_mul_of_nonneg_right (by omega) (by omega)
  rw [← Int.pow_add, show j + (k - j) = k by omega] at h1
  omega
theorem PW_f {M M1 : mm_M} {j k : Nat} (h : ∀ i, i < j → M1.2.1 118 i = M.2.1 118 i) : PW M1 j k = PW M j k := by
  unfold PW
  rw [PV_f j h]
theorem WC_u {M : mm_M} {A : Int} {f : Int32} (H : WC M) (h0 : 0 ≤ A) (h1 : A < (M.2.1 77 13).toInt) (h2 : A < 12) (hf : M.2.1 86 A.toNat = f) : (M.2.1 81 f.toInt.toNat).toInt = 3 := by
  have := (H A.toNat (by omega) (by omega)).2
  rw [hf] at this
  exact this
/-! rows of HOLES one after another: a row read as a number -/
noncomputable def NV (M : mm_M) (l : Int) : Nat → Int
  | 0 => 0
  | k + 1 => l * NV M l k + (M.2.1 123 k).toInt
theorem NV_s {M : mm_M} {l : Int} (k : Nat) : NV M l (k + 1) = l * NV M l k + (M.2.1 123 k).toInt := rfl
theorem NV_f {M M1 : mm_M} {l : Int} (h : ∀ i, M1.2.1 123 i = M.2.1 123 i) : ∀ k : Nat, NV M1 l k = NV M l k
  | 0 => rfl
  | k + 1 => by rw [NV_s, NV_s, NV_f h k, h k]
theorem g_123 {M : mm_M} (hG : g_G M) (i : Nat) : 0 ≤ (M.2.1 123 i).toInt ∧ (M.2.1 123 i).toInt ≤ 5 := g_b hG rfl rfl
theorem NV_6 {M : mm_M} (hG : g_G M) {l : Int} (h0 : 0 ≤ l) (h1 : l ≤ 6) : ∀ k : Nat, 0 ≤ NV M l k ∧ NV M l k + 1 ≤ (6 : Int) ^ k
  | 0 => ⟨Int.le_refl 0, Int.le_refl 1⟩
  | k + 1 => by
    have h := NV_6 hG h0 h1 k
    have h2 := g_123 hG k
    have h3 : 0 ≤ l * NV M l k := Int.mul_nonneg h0 h.1
    have h4 : l * NV M l k ≤ 6 * NV M l k := Int.mul_le_mul_of_nonneg_right h1 h.1
    rw [NV_s, Int.pow_succ]
    omega
theorem p6 {k : Nat} (hk : k ≤ 6) : (6 : Int) ^ k ≤ 46656 := by
  rcases (show k = 0 ∨ k = 1 ∨ k = 2 ∨ k = 3 ∨ k = 4 ∨ k = 5 ∨ k = 6 by omega) with z | z | z | z | z | z | z <;> subst z <;> decide
theorem NV_b {M : mm_M} (hG : g_G M) {l : Int} (h0 : 0 ≤ l) (h1 : l ≤ 6) {k : Nat} (hk : k ≤ 6) : 0 ≤ NV M l k ∧ NV M l k ≤ 46655 := by
  have := NV_6 hG h0 h1 k
  have := p6 hk
  omega
theorem pl_b {l : Int} (h0 : 1 ≤ l) (h1 : l ≤ 6) : ∀ k : Nat, 1 ≤ l ^ k ∧ l ^ k ≤ (6 : Int) ^ k
  | 0 => by rw [Int.pow_zero, Int.pow_zero]; omega
  | k + 1 => by
    have h := pl_b h0 h1 k
    have h3 : 1 * 1 ≤ l ^ k * l := Int.mul_le_mul h.1 h0 (by omega) (by omega)
    have h4 : l ^ k * l ≤ (6 : Int) ^ k * 6 := Int.mul_le_mul h.2 h1 (by omega) (by omega)
    rw [Int.pow_succ, Int.pow_succ]
    omega
theorem pl_6 {l : Int} (h0 : 1 ≤ l) (h1 : l ≤ 6) {k : Nat} (hk : k ≤ 6) : 1 ≤ l ^ k ∧ l ^ k ≤ 46656 := by
  have := pl_b h0 h1 k
  have := p6 hk
  omega
theorem mul_r {A B a b : Int} (h1 : 0 ≤ A ∧ A ≤ a) (h2 : 0 ≤ B ∧ B ≤ b) : 0 ≤ A * B ∧ A * B ≤ a * b := ⟨Int.mul_nonneg h1.1 h2.1, Int.mul_le_mul h1.2 h2.2 h2.1 (by omega)⟩
/-- c digits from j on -/
noncomputable def DV (M : mm_M) (l : Int) : Nat → Nat → Int
  | _, 0 => 0
  | j, c + 1 => (M.2.1 123 j).toInt * l ^ c + DV M l (j + 1) c
theorem DV_f {M M1 : mm_M} {l : Int} : ∀ (c j : Nat), (∀ i, j ≤ i → M1.2.1 123 i = M.2.1 123 i) → DV M1 l j c = DV M l j c
  | 0, _, _ => rfl
  | c + 1, j, h => by
    show (M1.2.1 123 j).toInt * l ^ c + DV M1 l (j + 1) c = (M.2.1 123 j).toInt * l ^ c + DV M l (j + 1) c
    rw [h j (Nat.le_refl _), DV_f c (j + 1) (fun i hi => h i (by omega))]
theorem DV_nn {M : mm_M} (hG : g_G M) {l : Int} (h0 : 1 ≤ l) (h1 : l ≤ 6) : ∀ (c j : Nat), 0 ≤ DV M l j c
  | 0, _ => Int.le_refl 0
  | c + 1, j => by
    have h := DV_nn hG h0 h1 c (j + 1)
    have h2 := (g_123 hG j).1
    have h3 := (pl_b h0 h1 c).1
    have h4 : 0 ≤ (M.2.1 123 j).toInt * l ^ c := Int.mul_nonneg h2 (by omega)
    show 0 ≤ (M.2.1 123 j).toInt * l ^ c + DV M l (j + 1) c
    omega
theorem DV_NV {M : mm_M} {l : Int} : ∀ (c j : Nat), NV M l (j + c) = NV M l j * l ^ c + DV M l j c
  | 0, j => by
    show NV M l j = NV M l j * l ^ 0 + 0
    rw [Int.pow_zero]; omega
  | c + 1, j => by
      have h := DV_NV (M := M) (l := l) c (j + 1)
      rw [show j + 1 + c = j + (c + 1) by omega] at h
      rw [h, NV_s]
      show (l * NV M l j + (M.2.1 123 j).toInt) * l ^ c + DV M l (j + 1) c = NV M l j * l ^ (c + 1) + ((M.2.1 123 j).toInt * l ^ c + DV M l (j + 1) c)
      rw [Int.pow_succ, Int.add_mul, Int.mul_comm l, Int.mul_assoc, Int.mul_comm l]
      omega
theorem DV_step {M M1 : mm_M} {l x v q r : Int} {i c : Nat} (h : v = x * l ^ c + DV M l (i + 1) c) (hq : q = x / l) (hr : r = x % l) (hf : ∀ a, ¬ a = i → M1.2.1 123 a = M.2.1 123 a) (hi : (M1.2.1 123 i).toInt = r) : v = q * l ^ (c + 1) + DV M1 l i (c + 1) := by
  show v = q * l ^ (c + 1) + ((M1.2.1 123 i).toInt * l ^ c + DV M1 l (i + 1) c)
  rw [hi, DV_f c (i + 1) (fun a ha => hf a (by omega)), h, Int.pow_succ, Int.mul_comm (l ^ c), ← Int.mul_assoc, ← Int.add_assoc, ← Int.add_mul, hq, hr]
  rw [Int.mul_comm (x / l) l, Int.mul_ediv_add_emod]
theorem DV_end {M : mm_M} (hG : g_G M) {l x v : Int} {n : Nat} (h0 : 1 ≤ l) (h1 : l ≤ 6) (h : v = x * l ^ n + DV M l 0 n) (hx : 0 ≤ x) (hv : v < l ^ n) : NV M l n = v := by
  have e := DV_NV (M := M) (l := l) n 0
  rw [Nat.zero_add] at e
  have e2 : NV M l 0 * l ^ n = 0 := by show 0 * _ = _; omega
  have hd := DV_nn hG h0 h1 n 0
  have hp := (pl_b h0 h1 n).1
  have hx0 : x = 0 := by
    by_cases z : x = 0
    · exact z
    · have h3 : 1 * l ^ n ≤ x * l ^ n := Int.mul_le_mul_of_nonneg_right (by omega) (by omega)
      omega
  rw [hx0, Int.zero_mul] at h
  omega
noncomputable def NM (t v : Int) : Int := if t = 0 then 0 else 100000 - v
theorem NM_0 {t v : Int} (h : t = 0) : NM t v = 0 := if_pos h
theorem NM_1 {t v : Int} (h : t = 1) : NM t v = 100000 - v := by
  unfold NM
  rw [if_neg (by omega)]
end
section
abbrev md_0 (a i : Nat) : Prop := a < 0
abbrev md_t (a i : Nat) : Prop := a = 1 ∧ 5 ≤ i ∨ 3 ≤ a ∧ a ≤ 5
abbrev md_a (a i : Nat) : Prop := a = 1 ∧ i = 1 ∨ a = 2
abbrev md_bg (a i : Nat) : Prop := a = 1 ∨ 3 ≤ a ∧ a ≤ 5
abbrev md_pr (a i : Nat) : Prop := a = 1 ∧ 5 ≤ i ∨ 3 ≤ a ∧ a ≤ 5 ∨ 50 ≤ a ∧ a ≤ 57 ∨ 59 ≤ a ∧ a ≤ 66
abbrev md_pt (a i : Nat) : Prop := a = 1 ∧ 5 ≤ i ∨ 3 ≤ a ∧ a ≤ 5 ∨ 49 ≤ a ∧ a ≤ 66
abbrev md_n (a i : Nat) : Prop := 6 ≤ a ∧ a ≤ 10
abbrev md_k (a i : Nat) : Prop := 11 ≤ a ∧ a ≤ 16
abbrev md_c (a i : Nat) : Prop := 17 ≤ a ∧ a ≤ 27
abbrev md_c8 (a i : Nat) : Prop := 18 ≤ a ∧ a ≤ 27
abbrev md_17 (a i : Nat) : Prop := a = 17
abbrev md_c42 (a i : Nat) : Prop := a = 1 ∧ 5 ≤ i ∨ 3 ≤ a ∧ a ≤ 5 ∨ a = 57 ∨ a = 66
abbrev md_b (a i : Nat) : Prop := 36 ≤ a ∧ a ≤ 38
abbrev md_m (a i : Nat) : Prop := 39 ≤ a ∧ a ≤ 41
abbrev md_m2 (a i : Nat) : Prop := a = 39 ∧ 4 ≤ i
abbrev md_s (a i : Nat) : Prop := 42 ≤ a ∧ a ≤ 48
abbrev md_s2 (a i : Nat) : Prop := 43 ≤ a ∧ a ≤ 48
abbrev md_w (a i : Nat) : Prop := 18 ≤ a ∧ a ≤ 35
abbrev md_wt (a i : Nat) : Prop := a = 1 ∧ 5 ≤ i ∨ 3 ≤ a ∧ a ≤ 5 ∨ 28 ≤ a ∧ a ≤ 35
abbrev md_wr (a i : Nat) : Prop := a = 1 ∧ 5 ≤ i ∨ 3 ≤ a ∧ a ≤ 5 ∨ 29 ≤ a ∧ a ≤ 35
abbrev md_qt (a i : Nat) : Prop := a = 1 ∧ 5 ≤ i ∨ 3 ≤ a ∧ a ≤ 5 ∨ 67 ≤ a ∧ a ≤ 76
abbrev md_qk (a i : Nat) : Prop := a = 1 ∧ 5 ≤ i ∨ 3 ≤ a ∧ a ≤ 5 ∨ a = 67 ∨ a = 72
abbrev md_q (a i : Nat) : Prop := 67 ≤ a ∧ a ≤ 76
abbrev md_t3 (a i : Nat) : Prop := a = 1 ∧ 5 ≤ i ∨ 3 ≤ a ∧ a ≤ 5 ∨ a = 33
abbrev md_qa (a i : Nat) : Prop := a = 71 ∨ a = 76
abbrev md_y (a i : Nat) : Prop := 11 ≤ a ∧ a ≤ 16 ∨ 18 ≤ a ∧ a ≤ 48 ∨ 67 ≤ a ∧ a ≤ 76
abbrev md_yc (a i : Nat) : Prop := a = 0 ∧ i = 12 ∨ 18 ≤ a ∧ a ≤ 27
abbrev md_X2 (a i : Nat) : Prop := a = 1 ∨ 3 ≤ a ∧ a ≤ 5 ∨ 11 ≤ a ∧ a ≤ 16 ∨ 18 ≤ a ∧ a ≤ 48
abbrev md_X3 (a i : Nat) : Prop := a = 1 ∨ 3 ≤ a ∧ a ≤ 5 ∨ 67 ≤ a ∧ a ≤ 76
abbrev md_X (a i : Nat) : Prop := a ≤ 76 ∧ ¬ a = 2
abbrev md_ak (a i : Nat) : Prop := 11 ≤ a ∧ a ≤ 16 ∨ a = 71 ∨ a = 76
abbrev md_tk (a i : Nat) : Prop := a = 77 ∧ 7 ≤ i ∧ i ≤ 10
abbrev md_tw (a i : Nat) : Prop := a = 77 ∧ (i = 4 ∨ i = 5 ∨ 7 ≤ i ∧ i ≤ 10)
abbrev md_wr2 (a i : Nat) : Prop := a = 77 ∧ (i = 4 ∨ i = 5)
abbrev md_bn (a i : Nat) : Prop := a = 77 ∧ (i = 1 ∨ 4 ≤ i ∧ i ≤ 10)
abbrev md_fe (a i : Nat) : Prop := a = 77 ∧ (i = 1 ∨ i = 2) ∨ a = 78
abbrev md_pl (a i : Nat) : Prop := a = 77 ∧ (i = 4 ∨ i = 5 ∨ 7 ≤ i ∧ i ≤ 10 ∨ 14 ≤ i ∧ i ≤ 16 ∨ i = 25) ∨ 80 ≤ a ∧ a ≤ 84 ∧ 8 ≤ i ∨ 85 ≤ a ∧ a ≤ 87 ∧ 12 ≤ i
abbrev md_p0 (a i : Nat) : Prop := a = 77 ∧ (14 ≤ i ∧ i ≤ 16 ∨ i = 25)
abbrev md_ke (a i : Nat) : Prop := a = 77 ∧ (11 ≤ i ∧ i ≤ 13 ∨ i = 28 ∨ i = 29 ∨ i = 41 ∨ i = 57 ∨ i = 58) ∨ 80 ≤ a ∧ a ≤ 87 ∨ a = 100
abbrev md_P (a i : Nat) : Prop := a = 77 ∨ 79 < a ∧ a ≤ 87 ∨ a = 100
abbrev md_wl (a i : Nat) : Prop := a = 77 ∧ (i = 4 ∨ i = 5 ∨ 7 ≤ i ∧ i ≤ 10 ∨ i = 16) ∨ 85 ≤ a ∧ a ≤ 87 ∧ 12 ≤ i
abbrev md_2 (a i : Nat) : Prop := a = 77 ∧ i = 2
abbrev md_kn (a i : Nat) : Prop := 94 ≤ a ∧ a ≤ 98
abbrev md_k2 (a i : Nat) : Prop := a = 77 ∧ i = 2 ∨ 94 ≤ a ∧ a ≤ 98
abbrev md_te (a i : Nat) : Prop := a = 77 ∧ i = 29 ∨ 90 ≤ a ∧ a ≤ 93
abbrev md_t2 (a i : Nat) : Prop := a = 77 ∧ (i = 2 ∨ i = 29) ∨ 90 ≤ a ∧ a ≤ 93
abbrev md_cd (a i : Nat) : Prop := a = 77 ∧ (i = 2 ∨ i = 28) ∨ a = 99 ∨ a = 100
abbrev md_ga (a i : Nat) : Prop := a = 77 ∧ (i = 2 ∨ i = 41) ∨ a = 99 ∨ a = 100
abbrev md_tu (a i : Nat) : Prop := a = 77 ∧ (i = 2 ∨ i = 41)
abbrev md_co (a i : Nat) : Prop := a = 99 ∨ a = 100
abbrev md_pa (a i : Nat) : Prop := a = 77 ∧ i = 42 ∨ a = 99 ∨ a = 100 ∨ a = 109
abbrev md_ho (a i : Nat) : Prop := a = 77 ∧ (i = 4 ∨ i = 5 ∨ 7 ≤ i ∧ i ≤ 10) ∨ a = 106 ∨ a = 107
abbrev md_ps (a i : Nat) : Prop := a = 77 ∧ (i = 4 ∨ i = 5 ∨ 7 ≤ i ∧ i ≤ 10) ∨ 102 ≤ a ∧ a ≤ 104 ∨ a = 106 ∨ a = 107
abbrev md_ac (a i : Nat) : Prop := a = 77 ∧ (i = 4 ∨ i = 5 ∨ 7 ≤ i ∧ i ≤ 10) ∨ a = 77 ∧ (i = 44 ∨ i = 52) ∨ 101 ≤ a ∧ a ≤ 108
abbrev md_do (a i : Nat) : Prop := a = 77 ∧ (i = 42 ∨ i = 43) ∨ 94 ≤ a ∧ a ≤ 98 ∨ a = 99 ∨ a = 100 ∨ a = 109 ∨ a = 110 ∨ a = 111
abbrev md_wk (a i : Nat) : Prop := a = 77 ∧ (1 ≤ i ∧ i ≤ 2 ∨ 4 ≤ i ∧ i ≤ 10 ∨ 42 ≤ i ∧ i ≤ 44 ∨ i = 52) ∨ 94 ≤ a ∧ a ≤ 111
abbrev md_gr (a i : Nat) : Prop := a = 77 ∧ (i = 59 ∨ i = 66) ∨ 112 ≤ a ∧ a ≤ 114 ∧ 40 ≤ i ∨ a = 116
abbrev md_bi (a i : Nat) : Prop := a = 77 ∧ (i = 59 ∨ i = 65 ∨ i = 66) ∨ 112 ≤ a ∧ a ≤ 114 ∧ 40 ≤ i ∨ a = 116
abbrev md_qr (a i : Nat) : Prop := a = 77 ∧ (i = 4 ∨ i = 5 ∨ 7 ≤ i ∧ i ≤ 10) ∨ a = 77 ∧ (i = 59 ∨ 65 ≤ i ∧ i ≤ 69) ∨ 112 ≤ a ∧ a ≤ 114 ∧ 40 ≤ i ∨ a = 115 ∨ a = 116
abbrev md_qu (a i : Nat) : Prop := a = 77 ∧ (1 ≤ i ∧ i ≤ 2 ∨ 4 ≤ i ∧ i ≤ 10 ∨ 57 ≤ i ∧ i ≤ 59 ∨ 65 ≤ i ∧ i ≤ 69) ∨ 112 ≤ a ∧ a ≤ 116
abbrev md_an (a i : Nat) : Prop := a = 117
abbrev md_as (a i : Nat) : Prop := a = 77 ∧ i = 2 ∨ 94 ≤ a ∧ a ≤ 98 ∨ a = 117
abbrev md_mw (a i : Nat) : Prop := a = 119
abbrev md_me (a i : Nat) : Prop := a = 77 ∧ i = 2 ∨ 94 ≤ a ∧ a ≤ 98 ∨ a = 119
abbrev md_be (a i : Nat) : Prop := a = 77 ∧ i = 2 ∨ 94 ≤ a ∧ a ≤ 98 ∨ a = 120
abbrev md_so (a i : Nat) : Prop := a = 121 ∨ a = 122
abbrev md_bs (a i : Nat) : Prop := a = 77 ∧ i = 2 ∨ 94 ≤ a ∧ a ≤ 98 ∨ a = 118
abbrev md_ro (a i : Nat) : Prop := a = 123
abbrev md_st (a i : Nat) : Prop := a = 77 ∧ i = 2 ∨ 94 ≤ a ∧ a ≤ 98 ∨ 121 ≤ a ∧ a ≤ 124
end
section
/-! how deep a call may go -/
theorem dp0 {n m d : Nat} (h : m ≤ d) (k : n ≤ m) : n ≤ d := Nat.le_trans k h
theorem dp1 {n m d : Nat} (h : m ≤ d) (k : n + 1 ≤ m) : n ≤ d - 1 := by omega
theorem dp2 {n m d : Nat} (h : m ≤ d) (k : n + 2 ≤ m) : n ≤ d - 1 - 1 := by omega
theorem dp3 {n m d : Nat} (h : m ≤ d) (k : n + 3 ≤ m) : n ≤ d - 1 - 1 - 1 := by omega
end
section
/-! THE TOKENS OF A TEXT: t its bytes, n how many, a a token's place -/
noncomputable def x_run (P : Int → Bool) (t : Nat → Int) : Nat → Nat → Nat
  | 0, p => p
  | f + 1, p => bif P (t p) then x_run P t f (p + 1) else p
noncomputable def x_bl (c : Int) : Bool := decide (c = 10 ∨ c = 32)
noncomputable def x_lt (c : Int) : Bool := decide (97 ≤ c ∧ c ≤ 122)
noncomputable def x_dg (c : Int) : Bool := decide (48 ≤ c ∧ c ≤ 57)
theorem x_bl_t {c : Int} (h : c = 10 ∨ c = 32) : x_bl c = true := decide_eq_true h
theorem x_bl_f {c : Int} (h : ¬ (c = 10 ∨ c = 32)) : x_bl c = false := decide_eq_false h
theorem x_lt_t {c : Int} (h : 97 ≤ c ∧ c ≤ 122) : x_lt c = true := decide_eq_true h
theorem x_lt_f {c : Int} (h : ¬ (97 ≤ c ∧ c ≤ 122)) : x_lt c = false := decide_eq_false h
theorem x_dg_t {c : Int} (h : 48 ≤ c ∧ c ≤ 57) : x_dg c = true := decide_eq_true h
theorem x_dg_f {c : Int} (h : ¬ (48 ≤ c ∧ c ≤ 57)) : x_dg c = false := decide_eq_false h
noncomputable def x_end (P : Int → Bool) (t : Nat → Int) (n x : Int) : Int := (x_run P t (n - x).toNat x.toNat : Nat)
section XL
variable {P : Int → Bool} {t : Nat → Int} {n x : Int}
theorem x_go (h0 : 0 ≤ x) (h1 : x < n) (h : P (t x.toNat) = true) : x_end P t n x = x_end P t n (x + 1) := by
  have e1 : (n - x).toNat = (n - (x + 1)).toNat + 1 := by omega
  have e2 : (x + 1).toNat = x.toNat + 1 := by omega
  unfold x_end
  rw [e1, e2, x_run, h]
  rfl
theorem x_no (h0 : 0 ≤ x) (h : n ≤ x ∨ P (t x.toNat) = false) : x_end P t n x = x := by
  unfold x_end
  by_cases g : n ≤ x
  · have e1 : (n - x).toNat = 0 := by omega
    rw [e1, x_run]
    omega
  · have h2 : P (t x.toNat) = false := h.resolve_left g
    have e1 : (n - x).toNat = (n - (x + 1)).toNat + 1 := by omega
    rw [e1, x_run, h2]
    show ((x.toNat : Nat) : Int) = x
    omega
theorem x_run_le (P : Int → Bool) (t : Nat → Int) : ∀ f p, p ≤ x_run P t f p ∧ x_run P t f p ≤ p + f
  | 0, p => ⟨Nat.le_refl _, Nat.le_refl _⟩
  | f + 1, p => by
    have ih := x_run_le P t f (p + 1)
    rw [x_run]
    cases P (t p) with
    | true => show p ≤ x_run P t f (p + 1) ∧ _; exact ⟨by omega, by show x_run P t f (p + 1) ≤ _; omega⟩
    | false => show p ≤ p ∧ _; exact ⟨Nat.le_refl _, by show p ≤ _; omega⟩
theorem x_le (h0 : 0 ≤ x) (h1 : x ≤ n) : x ≤ x_end P t n x ∧ x_end P t n x ≤ n := by
  have := x_run_le P t (n - x).toNat x.toNat
  unfold x_end
  omega
theorem x_run_in (P : Int → Bool) (t : Nat → Int) : ∀ f p k, p ≤ k → k < x_run P t f p → P (t k) = true
  | 0, p, k, h1, h2 => by rw [x_run] at h2; omega
  | f + 1, p, k, h1, h2 => by
    rw [x_run] at h2
    cases g : P (t p) with
    | false => rw [g] at h2; have h2 : k < p := h2; omega
    | true =>
      rw [g] at h2
      have h2 : k < x_run P t f (p + 1) := h2
      by_cases e : k = p
      · rw [e]; exact g
      · exact x_run_in P t f (p + 1) k (by omega) h2
theorem x_in {k : Nat} (h0 : 0 ≤ x) (h1 : x ≤ k) (h2 : (k : Int) < x_end P t n x) : P (t k) = true := x_run_in P t (n - x).toNat x.toNat k (by omega) (by unfold x_end at h2; omega)
theorem x_run_at (P : Int → Bool) (t : Nat → Int) : ∀ f p, x_run P t f p < p + f → P (t (x_run P t f p)) = false
  | 0, p, h => by rw [x_run] at h; omega
  | f + 1, p, h => by
    rw [x_run] at h ⊢
    cases g : P (t p) with
    | false => show P (t p) = false; exact g
    | true =>
      rw [g] at h
      have h : x_run P t f (p + 1) < p + (f + 1) := h
      exact x_run_at P t f (p + 1) (by omega)
theorem x_at (h0 : 0 ≤ x) (h1 : x ≤ n) (h : x_end P t n x < n) : P (t (x_end P t n x).toNat) = false := by
  have := x_run_at P t (n - x).toNat x.toNat (by unfold x_end at h; omega)
  unfold x_end
  exact this
end XL
/-- numbers -/
noncomputable def x_nv (t : Nat → Int) : Nat → Nat → Int → Int
  | 0, _, v => v
  | f + 1, p, v => bif x_dg (t p) then x_nv t f (p + 1) (if v * 10 + t p - 48 ≤ 100 then v * 10 + t p - 48 else 100) else v
noncomputable def x_num (t : Nat → Int) (n x v : Int) : Int := x_nv t (n - x).toNat x.toNat v
section XN
variable {t : Nat → Int} {n x v w : Int}
theorem x_num_go (h0 : 0 ≤ x) (h1 : x < n) (h : 48 ≤ t x.toNat ∧ t x.toNat ≤ 57) (hw : w = if v * 10 + t x.toNat - 48 ≤ 100 then v * 10 + t x.toNat - 48 else 100) : x_num t n x v = x_num t n (x + 1) w := by
  have e1 : (n - x).toNat = (n - (x + 1)).toNat + 1 := by omega
  have e2 : (x + 1).toNat = x.toNat + 1 := by omega
  unfold x_num
  rw [e1, e2, x_nv, x_dg_t h, hw]
  rfl
theorem x_num_no (h0 : 0 ≤ x) (h : n ≤ x ∨ ¬ (48 ≤ t x.toNat ∧ t x.toNat ≤ 57)) : x_num t n x v = v := by
  unfold x_num
  by_cases g : n ≤ x
  · have e1 : (n - x).toNat = 0 := by omega
    rw [e1, x_nv]
  · have h2 := h.resolve_left g
    have e1 : (n - x).toNat = (n - (x + 1)).toNat + 1 := by omega
    rw [e1, x_nv, x_dg_f h2]
    rfl
theorem x_nv_b (t : Nat → Int) : ∀ f p v, 0 ≤ v → v ≤ 100 → 0 ≤ x_nv t f p v ∧ x_nv t f p v ≤ 100
  | 0, p, v, h0, h1 => ⟨h0, h1⟩
  | f + 1, p, v, h0, h1 => by
    rw [x_nv]
    cases g : x_dg (t p) with
    | false => exact ⟨h0, h1⟩
    | true =>
      have g2 : 48 ≤ t p ∧ t p ≤ 57 := of_decide_eq_true g
      refine x_nv_b t f (p + 1) _ ?_ ?_
      · split <;> omega
      · split <;> omega
theorem x_num_b (h0 : 0 ≤ v) (h1 : v ≤ 100) : 0 ≤ x_num t n x v ∧ x_num t n x v ≤ 100 := x_nv_b t _ _ v h0 h1
end XN
/-- letters, packed -/
noncomputable def x_pw (j : Nat) : Int := if j = 0 then 33554432 else if j = 1 then 1048576 else if j = 2 then 32768 else if j = 3 then 1024 else if j = 4 then 32 else if j = 5 then 1 else 0
noncomputable def x_pk (t : Nat → Int) (a : Nat) : Nat → Int
  | 0 => 0
  | j + 1 => x_pk t a j + (t (a + j) - 96) * x_pw j
noncomputable def x_ws : List Int := [284563040, 210940032, 788074496, 518160384, 659999744, 538233440, 404000768, 538561536, 686817280, 93323264, 351582208, 40936896, 48365568, 522190848, 486146048]
noncomputable def x_kx (v : Int) : Int := if v = 284563040 then 0 else if v = 210940032 then 1 else if v = 788074496 then 2 else if v = 518160384 then 3 else if v = 659999744 then 4 else if v = 538233440 then 5 else if v = 404000768 then 6 else if v = 538561536 then 7 else if v = 686817280 then 8 else if v = 93323264 then 9 else if v = 351582208 then 10 else if v = 40936896 then 11 else if v = 48365568 then 12 else if v = 522190848 then 13 else if v = 486146048 then 14 else -1
theorem x_kx_b {v : Int} : -1 ≤ x_kx v ∧ x_kx v ≤ 14 := by
  unfold x_kx
  repeat' split
  all_goals omega
/-- tokens -/
noncomputable def x_e (t : Nat → Int) (n a : Int) : Int := x_end x_lt t n a
noncomputable def x_lv (t : Nat → Int) (n a : Int) : Int := x_pk t a.toNat (x_e t n a - a).toNat
noncomputable def x_kind (t : Nat → Int) (n a : Int) : Int :=
  if n ≤ a then 0 else
  if 97 ≤ t a.toNat ∧ t a.toNat ≤ 122 then (if 6 < x_e t n a - a then 5 else if 0 ≤ x_kx (x_lv t n a) then 1 else 2) else
  if 48 ≤ t a.toNat ∧ t a.toNat ≤ 57 then 3 else
  if t a.toNat = 59 ∨ t a.toNat = 40 ∨ t a.toNat = 41 ∨ t a.toNat = 61 then 4 else 5
noncomputable def x_val (t : Nat → Int) (n a : Int) : Int :=
  if n ≤ a then 0 else
  if 97 ≤ t a.toNat ∧ t a.toNat ≤ 122 then x_lv t n a else
  if 48 ≤ t a.toNat ∧ t a.toNat ≤ 57 then x_num t n a 0 else t a.toNat
noncomputable def x_nx (t : Nat → Int) (n a : Int) : Int :=
  if n ≤ a then a else
  if 97 ≤ t a.toNat ∧ t a.toNat ≤ 122 then x_e t n a else
  if 48 ≤ t a.toNat ∧ t a.toNat ≤ 57 then x_end x_dg t n a else a + 1
noncomputable def x_sk (t : Nat → Int) (n a : Int) : Int := x_end x_bl t n a
noncomputable def x_ns (t : Nat → Int) (n a : Int) : Int := x_sk t n (x_nx t n a)
/-- a token as the class keeps it, and as the reference does -/
noncomputable def x_C (K V tok val : Int) : Prop := (K = 0 ∧ tok = 0 ∧ val = 0) ∨ (K = 1 ∧ tok = 4 ∧ val = V) ∨ (K = 2 ∧ tok = 3 ∧ val = V) ∨ (K = 3 ∧ tok = 2 ∧ val = V) ∨ (K = 4 ∧ tok = V ∧ val = 0 ∧ (V = 59 ∨ V = 40 ∨ V = 41 ∨ V = 61)) ∨ (K = 5 ∧ tok = 1 ∧ val = 0)
noncomputable def x_R (K V kd wh : Int) : Prop := (K = 0 ∧ kd = 0) ∨ (K = 1 ∧ kd = 1 ∧ wh = x_kx V ∧ 0 ≤ wh) ∨ (K = 2 ∧ kd = 2 ∧ wh = V) ∨ (K = 3 ∧ kd = 3 ∧ (wh = V ∧ wh ≤ 99 ∨ V = 100 ∧ 100 ≤ wh) ∧ 0 ≤ wh) ∨ (K = 4 ∧ kd = 4 ∧ wh = V ∧ (V = 59 ∨ V = 40 ∨ V = 41 ∨ V = 61)) ∨ (K = 5 ∧ kd = 5)
section XT
variable {t : Nat → Int} {n a : Int}
theorem x_t0 (h : n ≤ a) : x_kind t n a = 0 ∧ x_nx t n a = a := by
  unfold x_kind x_nx
  rw [if_pos h, if_pos h]
  exact ⟨rfl, rfl⟩
theorem x_tl (h : a < n) (hl : 97 ≤ t a.toNat ∧ t a.toNat ≤ 122) : x_kind t n a = (if 6 < x_e t n a - a then 5 else if 0 ≤ x_kx (x_lv t n a) then 1 else 2) ∧ x_val t n a = x_lv t n a ∧ x_nx t n a = x_e t n a := by
  have h1 : ¬ n ≤ a := by omega
  unfold x_kind x_nx x_val
  rw [if_neg h1, if_neg h1, if_neg h1, if_pos hl, if_pos hl, if_pos hl]
  exact ⟨rfl, rfl, rfl⟩
theorem x_td (h : a < n) (hd : 48 ≤ t a.toNat ∧ t a.toNat ≤ 57) : x_kind t n a = 3 ∧ x_val t n a = x_num t n a 0 ∧ x_nx t n a = x_end x_dg t n a := by
  have h1 : ¬ n ≤ a := by omega
  have h2 : ¬ (97 ≤ t a.toNat ∧ t a.toNat ≤ 122) := by omega
  unfold x_kind x_nx x_val
  rw [if_neg h1, if_neg h1, if_neg h1, if_neg h2, if_neg h2, if_neg h2, if_pos hd, if_pos hd, if_pos hd]
  exact ⟨rfl, rfl, rfl⟩
theorem x_ts (h : a < n) (h2 : ¬ (97 ≤ t a.toNat ∧ t a.toNat ≤ 122)) (h3 : ¬ (48 ≤ t a.toNat ∧ t a.toNat ≤ 57)) : x_kind t n a = (if t a.toNat = 59 ∨ t a.toNat = 40 ∨ t a.toNat = 41 ∨ t a.toNat = 61 then 4 else 5) ∧ x_val t n a = t a.toNat ∧ x_nx t n a = a + 1 := by
  have h1 : ¬ n ≤ a := by omega
  unfold x_kind x_nx x_val
  rw [if_neg h1, if_neg h1, if_neg h1, if_neg h2, if_neg h2, if_neg h2, if_neg h3, if_neg h3, if_neg h3]
  exact ⟨rfl, rfl, rfl⟩
theorem x_ns_n : 0 ≤ n → x_ns t n n = n := by
  intro h
  unfold x_ns x_sk
  rw [(x_t0 (Int.le_refl n)).2]
  exact x_no h (Or.inl (Int.le_refl n))
theorem x_e_b (h0 : 0 ≤ a) (h1 : a ≤ n) : a ≤ x_e t n a ∧ x_e t n a ≤ n := x_le h0 h1
theorem x_nx_b (h0 : 0 ≤ a) (h1 : a ≤ n) : a ≤ x_nx t n a ∧ x_nx t n a ≤ n ∧ (a < n → a < x_nx t n a) := by
  unfold x_nx
  by_cases g : n ≤ a
  · rw [if_pos g]; omega
  · rw [if_neg g]
    by_cases g2 : 97 ≤ t a.toNat ∧ t a.toNat ≤ 122
    · rw [if_pos g2]
      unfold x_e
      rw [x_go h0 (by omega) (x_lt_t g2)]
      have := x_le (P := x_lt) (t := t) (n := n) (x := a + 1) (by omega) (by omega)
      omega
    · rw [if_neg g2]
      by_cases g3 : 48 ≤ t a.toNat ∧ t a.toNat ≤ 57
      · rw [if_pos g3]
        rw [x_go h0 (by omega) (x_dg_t g3)]
        have := x_le (P := x_dg) (t := t) (n := n) (x := a + 1) (by omega) (by omega)
        omega
      · rw [if_neg g3]; omega
theorem x_ns_b (h0 : 0 ≤ a) (h1 : a ≤ n) : a ≤ x_ns t n a ∧ x_ns t n a ≤ n := by
  have h2 := x_nx_b (t := t) h0 h1
  have := x_le (P := x_bl) (t := t) (n := n) (x := x_nx t n a) (by omega) (by omega)
  unfold x_ns x_sk
  omega
end XT
/-! packed letters, and the words of the language -/
theorem x_or {a b : Int32} {A B : Int} {k : Nat} {q : Nat} (ea : a.toInt = A) (eb : b.toInt = B) (hA : A = 2 ^ k * (q : Int)) (h0 : 0 ≤ B) (h1 : B < 2 ^ k) (h2 : A + B < 2147483648) : (a ||| b).toInt = A + B := by
  have p0 : (0 : Int) ≤ 2 ^ k * (q : Int) := Int.mul_nonneg (Int.le_of_lt (Int.pow_pos (by decide))) (Int.natCast_nonneg q)
  have ma : a.toBitVec.msb = false := by
    rw [BitVec.msb_eq_toInt]
    have : a.toBitVec.toInt = A := ea
    simp only [this, decide_eq_false_iff_not]; omega
  have mb : b.toBitVec.msb = false := by
    rw [BitVec.msb_eq_toInt]
    have : b.toBitVec.toInt = B := eb
    simp only [this, decide_eq_false_iff_not]; omega
  have e1 : A = (a.toBitVec.toNat : Int) := by
    rw [← ea]
    show a.toBitVec.toInt = _
    rw [BitVec.toInt_eq_toNat_of_msb ma]
  have e2 : B = (b.toBitVec.toNat : Int) := by
    rw [← eb]
    show b.toBitVec.toInt = _
    rw [BitVec.toInt_eq_toNat_of_msb mb]
  have e : (a ||| b).toInt = ((a.toBitVec ||| b.toBitVec).toNat : Int) := by
    show (a ||| b).toBitVec.toInt = _
    rw [Int32.toBitVec_or, BitVec.toInt_eq_toNat_of_msb (by rw [BitVec.msb_or, ma, mb]; rfl)]
  have e3 : a.toBitVec.toNat = 2 ^ k * q := by
    have : (a.toBitVec.toNat : Int) = ((2 ^ k * q : Nat) : Int) := by rw [← e1, hA]; push_cast; rfl
    exact Int.ofNat.inj this
  have h3 : b.toBitVec.toNat < 2 ^ k := by
    have : (b.toBitVec.toNat : Int) < ((2 ^ k : Nat) : Int) := by rw [← e2]; push_cast; exact h1
    exact Int.ofNat_lt.mp this
  rw [e, BitVec.toNat_or, e3, ← Nat.two_pow_add_eq_or_of_lt h3, e2, hA]
  push_cast
  rfl
theorem x_i32 {x : Int32} {k : Int} (h : x.toInt = k) : x = Int32.ofInt k := by rw [← h, Int32.ofInt_toInt]
theorem x_26 : ∀ k : Fin 26, ∀ j : Fin 6, ((((Int32.ofInt (97 + (k.val : Int))) &&& 31) <<< (Int32.ofInt (25 - 5 * (j.val : Int)))).toInt = (1 + (k.val : Int)) * x_pw j.val) := by decide +kernel
theorem x_shl {s c : Int32} {j : Nat} (h0 : 97 ≤ s.toInt) (h1 : s.toInt ≤ 122) (hj : j < 6) (hc : c.toInt = 25 - 5 * (j : Int)) : ((s &&& 31) <<< c).toInt = (s.toInt - 96) * x_pw j := by
  have := x_26 ⟨(s.toInt - 97).toNat, by omega⟩ ⟨j, hj⟩
  have e : (97 : Int) + (((s.toInt - 97).toNat : Nat) : Int) = s.toInt := by omega
  have e2 : (1 : Int) + (((s.toInt - 97).toNat : Nat) : Int) = s.toInt - 96 := by omega
  simp only [e, e2] at this
  rw [x_i32 hc, ← this, Int32.ofInt_toInt]
section XP
variable {t : Nat → Int} {a : Nat}
/-- what the class has packed after j letters: a multiple of 32 to the power 6 - j -/
theorem x_pk_q : ∀ j, j ≤ 6 → (∀ i, i < j → 97 ≤ t (a + i) ∧ t (a + i) ≤ 122) → ∃ q : Nat, x_pk t a j = 2 ^ (30 - 5 * j) * (q : Int) ∧ (q : Int) < 2 ^ (5 * j)
  | 0, _, _ => ⟨0, by rw [x_pk]; rfl, by decide⟩
  | j + 1, hj, h => by
    obtain ⟨q, h1, h2⟩ := x_pk_q j (by omega) (fun i hi => h i (by omega))
    have hl := h j (by omega)
    refine ⟨32 * q + (t (a + j) - 96).toNat, ?_, ?_⟩
    · rw [x_pk, h1]
      generalize t (a + j) = c at hl ⊢
      have e : (((32 * q + (c - 96).toNat : Nat)) : Int) = 32 * (q : Int) + (c - 96) := by push_cast; omega
      rw [e]
      rcases (show j = 0 ∨ j = 1 ∨ j = 2 ∨ j = 3 ∨ j = 4 ∨ j = 5 by omega) with rfl | rfl | rfl | rfl | rfl | rfl <;> simp [x_pw] <;> omega
    · generalize t (a + j) = c at hl ⊢
      have e : (((32 * q + (c - 96).toNat : Nat)) : Int) = 32 * (q : Int) + (c - 96) := by push_cast; omega
      rw [e]
      rcases (show j = 0 ∨ j = 1 ∨ j = 2 ∨ j = 3 ∨ j = 4 ∨ j = 5 by omega) with rfl | rfl | rfl | rfl | rfl | rfl <;> simp at h2 ⊢ <;> omega
theorem x_pk_s {x w : Int32} {j : Nat} (hx : x.toInt = x_pk t a j) (hj : j < 6) (hl : ∀ i, i < j + 1 → 97 ≤ t (a + i) ∧ t (a + i) ≤ 122) (hw : w.toInt = (t (a + j) - 96) * x_pw j) : (x ||| w).toInt = x_pk t a (j + 1) := by
  obtain ⟨q, h1, h2⟩ := x_pk_q (t := t) (a := a) j (by omega) (fun i hi => hl i (by omega))
  have h3 := hl j (by omega)
  rw [x_pk]
  generalize t (a + j) = c at h3 hw ⊢
  rw [x_or (k := 30 - 5 * j) (q := q) hx hw (by rw [h1]) ?_ ?_ ?_]
  · rcases (show j = 0 ∨ j = 1 ∨ j = 2 ∨ j = 3 ∨ j = 4 ∨ j = 5 by omega) with rfl | rfl | rfl | rfl | rfl | rfl <;> simp [x_pw] <;> omega
  · rcases (show j = 0 ∨ j = 1 ∨ j = 2 ∨ j = 3 ∨ j = 4 ∨ j = 5 by omega) with rfl | rfl | rfl | rfl | rfl | rfl <;> simp [x_pw] <;> omega
  · rw [h1]
    rcases (show j = 0 ∨ j = 1 ∨ j = 2 ∨ j = 3 ∨ j = 4 ∨ j = 5 by omega) with rfl | rfl | rfl | rfl | rfl | rfl <;> simp [x_pw] at h2 ⊢ <;> omega
/-- the reference's packing: m letters, after j rounds -/
noncomputable def x_pr (t : Nat → Int) (a m : Nat) : Nat → Int
  | 0 => 0
  | j + 1 => 32 * x_pr t a m j + (if j < m then t (a + j) - 96 else 0)
theorem x_pr_b {m : Nat} (hl : ∀ i, i < m → 97 ≤ t (a + i) ∧ t (a + i) ≤ 122) : ∀ j, 0 ≤ x_pr t a m j ∧ x_pr t a m j < 32 ^ j
  | 0 => by rw [x_pr]; decide
  | j + 1 => by
    have ih := x_pr_b hl j
    rw [x_pr, Int.pow_succ]
    by_cases g : j < m
    · rw [if_pos g]
      have := hl j g
      omega
    · rw [if_neg g]
      omega
theorem x_pr_6 {m : Nat} (h : m ≤ 6) : x_pr t a m 6 = x_pk t a m := by
  rcases (show m = 0 ∨ m = 1 ∨ m = 2 ∨ m = 3 ∨ m = 4 ∨ m = 5 ∨ m = 6 by omega) with rfl | rfl | rfl | rfl | rfl | rfl | rfl <;> simp [x_pr, x_pk, x_pw] <;> omega
theorem x_sh5 {x : Int32} {A : Int} (h : x.toInt = A) (h0 : 0 ≤ A) (h1 : A < 33554432) : (x <<< (5 : Int32)).toInt = 32 * A := by
  have e : x <<< (5 : Int32) = x * 32 := by
    apply Int32.toBitVec_inj.mp
    rw [Int32.toBitVec_shiftLeft, Int32.toBitVec_mul]
    show x.toBitVec <<< ((5 : BitVec 32).smod 32) = x.toBitVec * 32
    rw [show ((5 : BitVec 32).smod 32) = 5#32 from by decide]
    rw [show (32 : BitVec 32) = BitVec.twoPow 32 5 from by decide, BitVec.mul_twoPow_eq_shiftLeft]
    rfl
  rw [e, Int32.toInt_mul, h, show (32 : Int32).toInt = 32 from rfl, Int.bmod_eq_of_le] <;> omega
theorem x_pr_s {x w : Int32} {m j : Nat} (hl : ∀ i, i < m → 97 ≤ t (a + i) ∧ t (a + i) ≤ 122) (hx : x.toInt = x_pr t a m j) (hj : j < 6) (hw : w.toInt = if j < m then t (a + j) - 96 else 0) : ((x <<< (5 : Int32)) ||| w).toInt = x_pr t a m (j + 1) := by
  have hb := x_pr_b (t := t) (a := a) hl j
  have hw2 : 0 ≤ w.toInt ∧ w.toInt < 32 := by
    rw [hw]
    by_cases g : j < m
    · rw [if_pos g]; have := hl j g; omega
    · rw [if_neg g]; omega
  have h32 : (32 : Int) ^ j ≤ 33554432 := by
    rcases (show j = 0 ∨ j = 1 ∨ j = 2 ∨ j = 3 ∨ j = 4 ∨ j = 5 by omega) with rfl | rfl | rfl | rfl | rfl | rfl <;> decide
  have e := x_sh5 hx hb.1 (by omega)
  rw [x_pr, ← hw]
  exact x_or (k := 5) (q := (x_pr t a m j).toNat) e rfl (by omega) (by omega) (by omega) (by omega)
end XP
/-- the reference's words, one after the other -/
noncomputable def x_w79 : List Int32 := [104, 111, 108, 101, 115, 32, 102, 105, 101, 108, 100, 32, 119, 111, 114, 100, 32, 111, 110, 101, 32, 115, 117, 109, 115, 32, 112, 97, 105, 114, 115, 32, 108, 97, 105, 100, 32, 112, 97, 115, 115, 32, 116, 111, 32, 98, 121, 32, 106, 111, 105, 110, 32, 97, 103, 97, 105, 110, 32, 97, 110, 100, 32, 111, 114, 32, 110, 111, 116, 32]
noncomputable def x_w (i : Nat) : Int := (x_w79.getD i 0).toInt
noncomputable def x_off (k : Int) : Int := if k = 0 then 0 else if k = 1 then 6 else if k = 2 then 12 else if k = 3 then 17 else if k = 4 then 21 else if k = 5 then 26 else if k = 6 then 32 else if k = 7 then 37 else if k = 8 then 42 else if k = 9 then 45 else if k = 10 then 48 else if k = 11 then 53 else if k = 12 then 59 else if k = 13 then 63 else if k = 14 then 66 else 70
noncomputable def x_len (k : Int) : Int := if k = 0 then 5 else if k = 1 then 5 else if k = 2 then 4 else if k = 3 then 3 else if k = 4 then 4 else if k = 5 then 5 else if k = 6 then 4 else if k = 7 then 4 else if k = 8 then 2 else if k = 9 then 2 else if k = 10 then 4 else if k = 11 then 5 else if k = 12 then 3 else if k = 13 then 2 else if k = 14 then 3 else 0
theorem x_off_s : ∀ k : Fin 15, x_off (k.val + 1) = x_off k.val + x_len k.val + 1 ∧ 2 ≤ x_len k.val ∧ x_len k.val ≤ 5 ∧ 0 ≤ x_off k.val ∧ x_off k.val + x_len k.val ≤ 69 ∧ x_w (x_off k.val + x_len k.val).toNat = 32 ∧ ∀ j : Fin 5, (j.val : Int) < x_len k.val → x_w (x_off k.val + (j.val : Int)).toNat ≠ 32 := by decide +kernel
/-- the letters from a to b are word k -/
noncomputable def x_m (t : Nat → Int) (a b k : Int) : Prop := x_len k = b - a ∧ ∀ j : Nat, (j : Int) < x_len k → x_w (x_off k + j).toNat = t (a + j).toNat
theorem x_m_pk {t : Nat → Int} {a b k : Int} (h0 : 0 ≤ a) (hk0 : 0 ≤ k) (hk : k ≤ 14) (h : x_m t a b k) : b - a ≤ 6 ∧ x_kx (x_pk t a.toNat (b - a).toNat) = k := by
  obtain ⟨h1, h2⟩ := h
  have key : ∀ (l : Nat), x_len k = (l : Int) → ∀ j : Nat, j < l → t (a.toNat + j) = x_w (x_off k + j).toNat := fun l hl j hj => by
    rw [h2 j (by omega)]
    congr 1
    omega
  rcases (show k = 0 ∨ k = 1 ∨ k = 2 ∨ k = 3 ∨ k = 4 ∨ k = 5 ∨ k = 6 ∨ k = 7 ∨ k = 8 ∨ k = 9 ∨ k = 10 ∨ k = 11 ∨ k = 12 ∨ k = 13 ∨ k = 14 by omega) with
    rfl | rfl | rfl | rfl | rfl | rfl | rfl | rfl | rfl | rfl | rfl | rfl | rfl | rfl | rfl
  all_goals
    first
    | (have e : b - a = 2 := by rw [← h1]; rfl
       have k0 := key 2 rfl 0 (by decide); have k1 := key 2 rfl 1 (by decide)
       refine ⟨by omega, ?_⟩
       rw [e, show (2 : Int).toNat = 2 from rfl, x_pk, x_pk, x_pk, k0, k1]; decide +kernel)
    | (have e : b - a = 3 := by rw [← h1]; rfl
       have k0 := key 3 rfl 0 (by decide); have k1 := key 3 rfl 1 (by decide); have k2 := key 3 rfl 2 (by decide)
       refine ⟨by omega, ?_⟩
       rw [e, show (3 : Int).toNat = 3 from rfl, x_pk, x_pk, x_pk, x_pk, k0, k1, k2]; decide +kernel)
    | (have e : b - a = 4 := by rw [← h1]; rfl
       have k0 := key 4 rfl 0 (by decide); have k1 := key 4 rfl 1 (by decide); have k2 := key 4 rfl 2 (by decide); have k3 := key 4 rfl 3 (by decide)
       refine ⟨by omega, ?_⟩
       rw [e, show (4 : Int).toNat = 4 from rfl, x_pk, x_pk, x_pk, x_pk, x_pk, k0, k1, k2, k3]; decide +kernel)
    | (have e : b - a = 5 := by rw [← h1]; rfl
       have k0 := key 5 rfl 0 (by decide); have k1 := key 5 rfl 1 (by decide); have k2 := key 5 rfl 2 (by decide); have k3 := key 5 rfl 3 (by decide); have k4 := key 5 rfl 4 (by decide)
       refine ⟨by omega, ?_⟩
       rw [e, show (5 : Int).toNat = 5 from rfl, x_pk, x_pk, x_pk, x_pk, x_pk, x_pk, k0, k1, k2, k3, k4]; decide +kernel)
theorem x_kx_c {v k : Int} (h : x_kx v = k) (hk : 0 ≤ k) : (k = 0 ∧ v = 284563040) ∨ (k = 1 ∧ v = 210940032) ∨ (k = 2 ∧ v = 788074496) ∨ (k = 3 ∧ v = 518160384) ∨ (k = 4 ∧ v = 659999744) ∨ (k = 5 ∧ v = 538233440) ∨ (k = 6 ∧ v = 404000768) ∨ (k = 7 ∧ v = 538561536) ∨ (k = 8 ∧ v = 686817280) ∨ (k = 9 ∧ v = 93323264) ∨ (k = 10 ∧ v = 351582208) ∨ (k = 11 ∧ v = 40936896) ∨ (k = 12 ∧ v = 48365568) ∨ (k = 13 ∧ v = 522190848) ∨ (k = 14 ∧ v = 486146048) := by
  unfold x_kx at h
  by_cases e0 : v = 284563040
  · rw [if_pos e0] at h; exact Or.inl ⟨h.symm, e0⟩
  rw [if_neg e0] at h
  by_cases e1 : v = 210940032
  · rw [if_pos e1] at h; exact Or.inr (Or.inl ⟨h.symm, e1⟩)
  rw [if_neg e1] at h
  by_cases e2 : v = 788074496
  · rw [if_pos e2] at h; exact Or.inr (Or.inr (Or.inl ⟨h.symm, e2⟩))
  rw [if_neg e2] at h
  by_cases e3 : v = 518160384
  · rw [if_pos e3] at h; exact Or.inr (Or.inr (Or.inr (Or.inl ⟨h.symm, e3⟩)))
  rw [if_neg e3] at h
  by_cases e4 : v = 659999744
  · rw [if_pos e4] at h; exact Or.inr (Or.inr (Or.inr (Or.inr (Or.inl ⟨h.symm, e4⟩))))
  rw [if_neg e4] at h
  by_cases e5 : v = 538233440
  · rw [if_pos e5] at h; exact Or.inr (Or.inr (Or.inr (Or.inr (Or.inr (Or.inl ⟨h.symm, e5⟩)))))
  rw [if_neg e5] at h
  by_cases e6 : v = 404000768
  · rw [if_pos e6] at h; exact Or.inr (Or.inr (Or.inr (Or.inr (Or.inr (Or.inr (Or.inl ⟨h.symm, e6⟩))))))
  rw [if_neg e6] at h
  by_cases e7 : v = 538561536
  · rw [if_pos e7] at h; exact Or.inr (Or.inr (Or.inr (Or.inr (Or.inr (Or.inr (Or.inr (Or.inl ⟨h.symm, e7⟩)))))))
  rw [if_neg e7] at h
  by_cases e8 : v = 686817280
  · rw [if_pos e8] at h; exact Or.inr (Or.inr (Or.inr (Or.inr (Or.inr (Or.inr (Or.inr (Or.inr (Or.inl ⟨h.symm, e8⟩))))))))
  rw [if_neg e8] at h
  by_cases e9 : v = 93323264
  · rw [if_pos e9] at h; exact Or.inr (Or.inr (Or.inr (Or.inr (Or.inr (Or.inr (Or.inr (Or.inr (Or.inr (Or.inl ⟨h.symm, e9⟩)))))))))
  rw [if_neg e9] at h
  by_cases e10 : v = 351582208
  · rw [if_pos e10] at h; exact Or.inr (Or.inr (Or.inr (Or.inr (Or.inr (Or.inr (Or.inr (Or.inr (Or.inr (Or.inr (Or.inl ⟨h.symm, e10⟩))))))))))
  rw [if_neg e10] at h
  by_cases e11 : v = 40936896
  · rw [if_pos e11] at h; exact Or.inr (Or.inr (Or.inr (Or.inr (Or.inr (Or.inr (Or.inr (Or.inr (Or.inr (Or.inr (Or.inr (Or.inl ⟨h.symm, e11⟩)))))))))))
  rw [if_neg e11] at h
  by_cases e12 : v = 48365568
  · rw [if_pos e12] at h; exact Or.inr (Or.inr (Or.inr (Or.inr (Or.inr (Or.inr (Or.inr (Or.inr (Or.inr (Or.inr (Or.inr (Or.inr (Or.inl ⟨h.symm, e12⟩))))))))))))
  rw [if_neg e12] at h
  by_cases e13 : v = 522190848
  · rw [if_pos e13] at h; exact Or.inr (Or.inr (Or.inr (Or.inr (Or.inr (Or.inr (Or.inr (Or.inr (Or.inr (Or.inr (Or.inr (Or.inr (Or.inr (Or.inl ⟨h.symm, e13⟩)))))))))))))
  rw [if_neg e13] at h
  by_cases e14 : v = 486146048
  · rw [if_pos e14] at h; exact Or.inr (Or.inr (Or.inr (Or.inr (Or.inr (Or.inr (Or.inr (Or.inr (Or.inr (Or.inr (Or.inr (Or.inr (Or.inr (Or.inr (⟨h.symm, e14⟩))))))))))))))
  rw [if_neg e14] at h
  exfalso; omega
theorem x_pk_m {t : Nat → Int} {a b : Int} (h0 : 0 ≤ a) (hab : a < b) (h6 : b - a ≤ 6) (hl : ∀ j : Nat, (j : Int) < b - a → 97 ≤ t (a.toNat + j) ∧ t (a.toNat + j) ≤ 122) (hk : 0 ≤ x_kx (x_pk t a.toNat (b - a).toNat)) : x_m t a b (x_kx (x_pk t a.toNat (b - a).toNat)) := by
  generalize hx : x_kx (x_pk t a.toNat (b - a).toNat) = k at hk ⊢
  have hc := x_kx_c hx hk
  clear hx
  have fin : ∀ (l : Nat), x_len k = (l : Int) → b - a = (l : Int) → (∀ j : Nat, j < l → x_w (x_off k + j).toNat = t (a.toNat + j)) → x_m t a b k := fun l e1 e2 h => ⟨by omega, fun j hj => by rw [h j (by omega)]; congr 1; omega⟩
  rcases (show b - a = 1 ∨ b - a = 2 ∨ b - a = 3 ∨ b - a = 4 ∨ b - a = 5 ∨ b - a = 6 by omega) with e | e | e | e | e | e
  · have l0 := hl 0 (by omega)
    rw [e, show (1 : Int).toNat = 1 from rfl, x_pk, x_pk] at hc
    generalize h90 : t (a.toNat + 0) = c0 at hc l0
    have w0 : x_pw 0 = 33554432 := rfl; have w1 : x_pw 1 = 1048576 := rfl; have w2 : x_pw 2 = 32768 := rfl; have w3 : x_pw 3 = 1024 := rfl; have w4 : x_pw 4 = 32 := rfl; have w5 : x_pw 5 = 1 := rfl
    rw [w0] at hc
    clear fin hl
    rcases hc with ⟨rfl, hv⟩ | ⟨rfl, hv⟩ | ⟨rfl, hv⟩ | ⟨rfl, hv⟩ | ⟨rfl, hv⟩ | ⟨rfl, hv⟩ | ⟨rfl, hv⟩ | ⟨rfl, hv⟩ | ⟨rfl, hv⟩ | ⟨rfl, hv⟩ | ⟨rfl, hv⟩ | ⟨rfl, hv⟩ | ⟨rfl, hv⟩ | ⟨rfl, hv⟩ | ⟨rfl, hv⟩
    · exfalso; omega
    · exfalso; omega
    · exfalso; omega
    · exfalso; omega
    · exfalso; omega
    · exfalso; omega
    · exfalso; omega
    · exfalso; omega
    · exfalso; omega
    · exfalso; omega
    · exfalso; omega
    · exfalso; omega
    · exfalso; omega
    · exfalso; omega
    · exfalso; omega
  · have l0 := hl 0 (by omega); have l1 := hl 1 (by omega)
    rw [e, show (2 : Int).toNat = 2 from rfl, x_pk, x_pk, x_pk] at hc
    generalize h90 : t (a.toNat + 0) = c0 at hc l0; generalize h91 : t (a.toNat + 1) = c1 at hc l1
    have w0 : x_pw 0 = 33554432 := rfl; have w1 : x_pw 1 = 1048576 := rfl; have w2 : x_pw 2 = 32768 := rfl; have w3 : x_pw 3 = 1024 := rfl; have w4 : x_pw 4 = 32 := rfl; have w5 : x_pw 5 = 1 := rfl
    rw [w0, w1] at hc
    clear hl
    rcases hc with ⟨rfl, hv⟩ | ⟨rfl, hv⟩ | ⟨rfl, hv⟩ | ⟨rfl, hv⟩ | ⟨rfl, hv⟩ | ⟨rfl, hv⟩ | ⟨rfl, hv⟩ | ⟨rfl, hv⟩ | ⟨rfl, hv⟩ | ⟨rfl, hv⟩ | ⟨rfl, hv⟩ | ⟨rfl, hv⟩ | ⟨rfl, hv⟩ | ⟨rfl, hv⟩ | ⟨rfl, hv⟩
    · exfalso; omega
    · exfalso; omega
    · exfalso; omega
    · exfalso; omega
    · exfalso; omega
    · exfalso; omega
    · exfalso; omega
    · exfalso; omega
    · have z0 : c0 = 116 := (by omega); have z1 : c1 = 111 := (by omega)
      refine fin 2 rfl e (fun j hj => ?_)
      rcases (show j = 0 ∨ j = 1 by omega) with rfl | rfl
      · rw [h90, z0]; decide +kernel
      · rw [h91, z1]; decide +kernel
    · have z0 : c0 = 98 := (by omega); have z1 : c1 = 121 := (by omega)
      refine fin 2 rfl e (fun j hj => ?_)
      rcases (show j = 0 ∨ j = 1 by omega) with rfl | rfl
      · rw [h90, z0]; decide +kernel
      · rw [h91, z1]; decide +kernel
    · exfalso; omega
    · exfalso; omega
    · exfalso; omega
    · have z0 : c0 = 111 := (by omega); have z1 : c1 = 114 := (by omega)
      refine fin 2 rfl e (fun j hj => ?_)
      rcases (show j = 0 ∨ j = 1 by omega) with rfl | rfl
      · rw [h90, z0]; decide +kernel
      · rw [h91, z1]; decide +kernel
    · exfalso; omega
  · have l0 := hl 0 (by omega); have l1 := hl 1 (by omega); have l2 := hl 2 (by omega)
    rw [e, show (3 : Int).toNat = 3 from rfl, x_pk, x_pk, x_pk, x_pk] at hc
    generalize h90 : t (a.toNat + 0) = c0 at hc l0; generalize h91 : t (a.toNat + 1) = c1 at hc l1; generalize h92 : t (a.toNat + 2) = c2 at hc l2
    have w0 : x_pw 0 = 33554432 := rfl; have w1 : x_pw 1 = 1048576 := rfl; have w2 : x_pw 2 = 32768 := rfl; have w3 : x_pw 3 = 1024 := rfl; have w4 : x_pw 4 = 32 := rfl; have w5 : x_pw 5 = 1 := rfl
    rw [w0, w1, w2] at hc
    clear hl
    rcases hc with ⟨rfl, hv⟩ | ⟨rfl, hv⟩ | ⟨rfl, hv⟩ | ⟨rfl, hv⟩ | ⟨rfl, hv⟩ | ⟨rfl, hv⟩ | ⟨rfl, hv⟩ | ⟨rfl, hv⟩ | ⟨rfl, hv⟩ | ⟨rfl, hv⟩ | ⟨rfl, hv⟩ | ⟨rfl, hv⟩ | ⟨rfl, hv⟩ | ⟨rfl, hv⟩ | ⟨rfl, hv⟩
    · exfalso; omega
    · exfalso; omega
    · exfalso; omega
    · have z0 : c0 = 111 := (by omega); have z1 : c1 = 110 := (by omega); have z2 : c2 = 101 := (by omega)
      refine fin 3 rfl e (fun j hj => ?_)
      rcases (show j = 0 ∨ j = 1 ∨ j = 2 by omega) with rfl | rfl | rfl
      · rw [h90, z0]; decide +kernel
      · rw [h91, z1]; decide +kernel
      · rw [h92, z2]; decide +kernel
    · exfalso; omega
    · exfalso; omega
    · exfalso; omega
    · exfalso; omega
    · exfalso; omega
    · exfalso; omega
    · exfalso; omega
    · exfalso; omega
    · have z0 : c0 = 97 := (by omega); have z1 : c1 = 110 := (by omega); have z2 : c2 = 100 := (by omega)
      refine fin 3 rfl e (fun j hj => ?_)
      rcases (show j = 0 ∨ j = 1 ∨ j = 2 by omega) with rfl | rfl | rfl
      · rw [h90, z0]; decide +kernel
      · rw [h91, z1]; decide +kernel
      · rw [h92, z2]; decide +kernel
    · exfalso; omega
    · have z0 : c0 = 110 := (by omega); have z1 : c1 = 111 := (by omega); have z2 : c2 = 116 := (by omega)
      refine fin 3 rfl e (fun j hj => ?_)
      rcases (show j = 0 ∨ j = 1 ∨ j = 2 by omega) with rfl | rfl | rfl
      · rw [h90, z0]; decide +kernel
      · rw [h91, z1]; decide +kernel
      · rw [h92, z2]; decide +kernel
  · have l0 := hl 0 (by omega); have l1 := hl 1 (by omega); have l2 := hl 2 (by omega); have l3 := hl 3 (by omega)
    rw [e, show (4 : Int).toNat = 4 from rfl, x_pk, x_pk, x_pk, x_pk, x_pk] at hc
    generalize h90 : t (a.toNat + 0) = c0 at hc l0; generalize h91 : t (a.toNat + 1) = c1 at hc l1; generalize h92 : t (a.toNat + 2) = c2 at hc l2; generalize h93 : t (a.toNat + 3) = c3 at hc l3
    have w0 : x_pw 0 = 33554432 := rfl; have w1 : x_pw 1 = 1048576 := rfl; have w2 : x_pw 2 = 32768 := rfl; have w3 : x_pw 3 = 1024 := rfl; have w4 : x_pw 4 = 32 := rfl; have w5 : x_pw 5 = 1 := rfl
    rw [w0, w1, w2, w3] at hc
    clear hl
    rcases hc with ⟨rfl, hv⟩ | ⟨rfl, hv⟩ | ⟨rfl, hv⟩ | ⟨rfl, hv⟩ | ⟨rfl, hv⟩ | ⟨rfl, hv⟩ | ⟨rfl, hv⟩ | ⟨rfl, hv⟩ | ⟨rfl, hv⟩ | ⟨rfl, hv⟩ | ⟨rfl, hv⟩ | ⟨rfl, hv⟩ | ⟨rfl, hv⟩ | ⟨rfl, hv⟩ | ⟨rfl, hv⟩
    · exfalso; omega
    · exfalso; omega
    · have z0 : c0 = 119 := (by omega); have z1 : c1 = 111 := (by omega); have z2 : c2 = 114 := (by omega); have z3 : c3 = 100 := (by omega)
      refine fin 4 rfl e (fun j hj => ?_)
      rcases (show j = 0 ∨ j = 1 ∨ j = 2 ∨ j = 3 by omega) with rfl | rfl | rfl | rfl
      · rw [h90, z0]; decide +kernel
      · rw [h91, z1]; decide +kernel
      · rw [h92, z2]; decide +kernel
      · rw [h93, z3]; decide +kernel
    · exfalso; omega
    · have z0 : c0 = 115 := (by omega); have z1 : c1 = 117 := (by omega); have z2 : c2 = 109 := (by omega); have z3 : c3 = 115 := (by omega)
      refine fin 4 rfl e (fun j hj => ?_)
      rcases (show j = 0 ∨ j = 1 ∨ j = 2 ∨ j = 3 by omega) with rfl | rfl | rfl | rfl
      · rw [h90, z0]; decide +kernel
      · rw [h91, z1]; decide +kernel
      · rw [h92, z2]; decide +kernel
      · rw [h93, z3]; decide +kernel
    · exfalso; omega
    · have z0 : c0 = 108 := (by omega); have z1 : c1 = 97 := (by omega); have z2 : c2 = 105 := (by omega); have z3 : c3 = 100 := (by omega)
      refine fin 4 rfl e (fun j hj => ?_)
      rcases (show j = 0 ∨ j = 1 ∨ j = 2 ∨ j = 3 by omega) with rfl | rfl | rfl | rfl
      · rw [h90, z0]; decide +kernel
      · rw [h91, z1]; decide +kernel
      · rw [h92, z2]; decide +kernel
      · rw [h93, z3]; decide +kernel
    · have z0 : c0 = 112 := (by omega); have z1 : c1 = 97 := (by omega); have z2 : c2 = 115 := (by omega); have z3 : c3 = 115 := (by omega)
      refine fin 4 rfl e (fun j hj => ?_)
      rcases (show j = 0 ∨ j = 1 ∨ j = 2 ∨ j = 3 by omega) with rfl | rfl | rfl | rfl
      · rw [h90, z0]; decide +kernel
      · rw [h91, z1]; decide +kernel
      · rw [h92, z2]; decide +kernel
      · rw [h93, z3]; decide +kernel
    · exfalso; omega
    · exfalso; omega
    · have z0 : c0 = 106 := (by omega); have z1 : c1 = 111 := (by omega); have z2 : c2 = 105 := (by omega); have z3 : c3 = 110 := (by omega)
      refine fin 4 rfl e (fun j hj => ?_)
      rcases (show j = 0 ∨ j = 1 ∨ j = 2 ∨ j = 3 by omega) with rfl | rfl | rfl | rfl
      · rw [h90, z0]; decide +kernel
      · rw [h91, z1]; decide +kernel
      · rw [h92, z2]; decide +kernel
      · rw [h93, z3]; decide +kernel
    · exfalso; omega
    · exfalso; omega
    · exfalso; omega
    · exfalso; omega
  · have l0 := hl 0 (by omega); have l1 := hl 1 (by omega); have l2 := hl 2 (by omega); have l3 := hl 3 (by omega); have l4 := hl 4 (by omega)
    rw [e, show (5 : Int).toNat = 5 from rfl, x_pk, x_pk, x_pk, x_pk, x_pk, x_pk] at hc
    generalize h90 : t (a.toNat + 0) = c0 at hc l0; generalize h91 : t (a.toNat + 1) = c1 at hc l1; generalize h92 : t (a.toNat + 2) = c2 at hc l2; generalize h93 : t (a.toNat + 3) = c3 at hc l3; generalize h94 : t (a.toNat + 4) = c4 at hc l4
    have w0 : x_pw 0 = 33554432 := rfl; have w1 : x_pw 1 = 1048576 := rfl; have w2 : x_pw 2 = 32768 := rfl; have w3 : x_pw 3 = 1024 := rfl; have w4 : x_pw 4 = 32 := rfl; have w5 : x_pw 5 = 1 := rfl
    rw [w0, w1, w2, w3, w4] at hc
    clear hl
    rcases hc with ⟨rfl, hv⟩ | ⟨rfl, hv⟩ | ⟨rfl, hv⟩ | ⟨rfl, hv⟩ | ⟨rfl, hv⟩ | ⟨rfl, hv⟩ | ⟨rfl, hv⟩ | ⟨rfl, hv⟩ | ⟨rfl, hv⟩ | ⟨rfl, hv⟩ | ⟨rfl, hv⟩ | ⟨rfl, hv⟩ | ⟨rfl, hv⟩ | ⟨rfl, hv⟩ | ⟨rfl, hv⟩
    · have z0 : c0 = 104 := (by omega); have z1 : c1 = 111 := (by omega); have z2 : c2 = 108 := (by omega); have z3 : c3 = 101 := (by omega); have z4 : c4 = 115 := (by omega)
      refine fin 5 rfl e (fun j hj => ?_)
      rcases (show j = 0 ∨ j = 1 ∨ j = 2 ∨ j = 3 ∨ j = 4 by omega) with rfl | rfl | rfl | rfl | rfl
      · rw [h90, z0]; decide +kernel
      · rw [h91, z1]; decide +kernel
      · rw [h92, z2]; decide +kernel
      · rw [h93, z3]; decide +kernel
      · rw [h94, z4]; decide +kernel
    · have z0 : c0 = 102 := (by omega); have z1 : c1 = 105 := (by omega); have z2 : c2 = 101 := (by omega); have z3 : c3 = 108 := (by omega); have z4 : c4 = 100 := (by omega)
      refine fin 5 rfl e (fun j hj => ?_)
      rcases (show j = 0 ∨ j = 1 ∨ j = 2 ∨ j = 3 ∨ j = 4 by omega) with rfl | rfl | rfl | rfl | rfl
      · rw [h90, z0]; decide +kernel
      · rw [h91, z1]; decide +kernel
      · rw [h92, z2]; decide +kernel
      · rw [h93, z3]; decide +kernel
      · rw [h94, z4]; decide +kernel
    · exfalso; omega
    · exfalso; omega
    · exfalso; omega
    · have z0 : c0 = 112 := (by omega); have z1 : c1 = 97 := (by omega); have z2 : c2 = 105 := (by omega); have z3 : c3 = 114 := (by omega); have z4 : c4 = 115 := (by omega)
      refine fin 5 rfl e (fun j hj => ?_)
      rcases (show j = 0 ∨ j = 1 ∨ j = 2 ∨ j = 3 ∨ j = 4 by omega) with rfl | rfl | rfl | rfl | rfl
      · rw [h90, z0]; decide +kernel
      · rw [h91, z1]; decide +kernel
      · rw [h92, z2]; decide +kernel
      · rw [h93, z3]; decide +kernel
      · rw [h94, z4]; decide +kernel
    · exfalso; omega
    · exfalso; omega
    · exfalso; omega
    · exfalso; omega
    · exfalso; omega
    · have z0 : c0 = 97 := (by omega); have z1 : c1 = 103 := (by omega); have z2 : c2 = 97 := (by omega); have z3 : c3 = 105 := (by omega); have z4 : c4 = 110 := (by omega)
      refine fin 5 rfl e (fun j hj => ?_)
      rcases (show j = 0 ∨ j = 1 ∨ j = 2 ∨ j = 3 ∨ j = 4 by omega) with rfl | rfl | rfl | rfl | rfl
      · rw [h90, z0]; decide +kernel
      · rw [h91, z1]; decide +kernel
      · rw [h92, z2]; decide +kernel
      · rw [h93, z3]; decide +kernel
      · rw [h94, z4]; decide +kernel
    · exfalso; omega
    · exfalso; omega
    · exfalso; omega
  · have l0 := hl 0 (by omega); have l1 := hl 1 (by omega); have l2 := hl 2 (by omega); have l3 := hl 3 (by omega); have l4 := hl 4 (by omega); have l5 := hl 5 (by omega)
    rw [e, show (6 : Int).toNat = 6 from rfl, x_pk, x_pk, x_pk, x_pk, x_pk, x_pk, x_pk] at hc
    generalize h90 : t (a.toNat + 0) = c0 at hc l0; generalize h91 : t (a.toNat + 1) = c1 at hc l1; generalize h92 : t (a.toNat + 2) = c2 at hc l2; generalize h93 : t (a.toNat + 3) = c3 at hc l3; generalize h94 : t (a.toNat + 4) = c4 at hc l4; generalize h95 : t (a.toNat + 5) = c5 at hc l5
    have w0 : x_pw 0 = 33554432 := rfl; have w1 : x_pw 1 = 1048576 := rfl; have w2 : x_pw 2 = 32768 := rfl; have w3 : x_pw 3 = 1024 := rfl; have w4 : x_pw 4 = 32 := rfl; have w5 : x_pw 5 = 1 := rfl
    rw [w0, w1, w2, w3, w4, w5] at hc
    clear fin hl
    rcases hc with ⟨rfl, hv⟩ | ⟨rfl, hv⟩ | ⟨rfl, hv⟩ | ⟨rfl, hv⟩ | ⟨rfl, hv⟩ | ⟨rfl, hv⟩ | ⟨rfl, hv⟩ | ⟨rfl, hv⟩ | ⟨rfl, hv⟩ | ⟨rfl, hv⟩ | ⟨rfl, hv⟩ | ⟨rfl, hv⟩ | ⟨rfl, hv⟩ | ⟨rfl, hv⟩ | ⟨rfl, hv⟩
    · exfalso; omega
    · exfalso; omega
    · exfalso; omega
    · exfalso; omega
    · exfalso; omega
    · exfalso; omega
    · exfalso; omega
    · exfalso; omega
    · exfalso; omega
    · exfalso; omega
    · exfalso; omega
    · exfalso; omega
    · exfalso; omega
    · exfalso; omega
    · exfalso; omega
/-! THE PLAN'S LINES, read from tokens -/
noncomputable def x_eq (x y : Int64) : Int := if x = y then 1 else 0
theorem x_eq_b {x y : Int64} : 0 ≤ x_eq x y ∧ x_eq x y ≤ 1 := by unfold x_eq; split <;> omega
theorem x_eq_1 {x y : Int64} : x_eq x y = 1 ↔ x = y := by
  unfold x_eq
  by_cases h : x = y
  · rw [if_pos h]; exact ⟨fun _ => h, fun _ => rfl⟩
  · rw [if_neg h]; exact ⟨fun z => by omega, fun z => absurd z h⟩
noncomputable def x_sh (h : Int) : Int64 := (Int32.ofInt h).toInt64 &&& 63
noncomputable def x_bit (h : Int) : Int64 := (1 : Int64) <<< x_sh h
noncomputable def x_bw (a b : Int) : Int64 := (((1 : Int64) <<< x_sh (b - a + 1)) - 1) <<< x_sh a
noncomputable def x_bwr : Nat → Int64 → Nat → Int64
  | 0, acc, _ => acc
  | n + 1, acc, h => x_bwr n (acc ||| x_bit h) (h + 1)
theorem x_bw_60 : ∀ a : Fin 60, ∀ b : Fin 60, a.val ≤ b.val → x_bwr (b.val + 1 - a.val) 0 a.val = x_bw a.val b.val := by decide +kernel
theorem x_sh_e {v : Int32} {h : Int} (e : v.toInt = h) : v.toInt64 &&& 63 = x_sh h := by
  unfold x_sh
  rw [← e, Int32.ofInt_toInt]
/-- a plan: holes, how many fields, how many words, holes taken, rows (1 names, 2 kinds, 3 first, 4 last holes, 5 choices; 6 words, 7 their fields) -/
abbrev x_S : Type := Int × Int × Int × Int64 × (Nat → Nat → Int)
noncomputable def x_find (g : Nat → Int) (v : Int) : Nat → Nat → Int
  | 0, _ => -1
  | n + 1, k => if g k = v then (k : Int) else x_find g v n (k + 1)
noncomputable def x_fn (s : x_S) (r : Nat) (v : Int) : Int := x_find (s.2.2.2.2 r) v (if r ≤ 5 then s.2.1 else s.2.2.1).toNat 0
noncomputable def x_row (s : x_S) (r : Nat) (k : Int) : Int := s.2.2.2.2 r k.toNat
noncomputable def x_push (s : x_S) (nm kd f l c : Int) : x_S := (s.1, s.2.1 + 1, s.2.2.1, s.2.2.2.1 ||| x_bw f l, fun r k => if r ≤ 5 ∧ (k : Int) = s.2.1 then (if r = 1 then nm else if r = 2 then kd else if r = 3 then f else if r = 4 then l else c) else s.2.2.2.2 r k)
noncomputable def x_pushw (s : x_S) (nm f b : Int) : x_S := (s.1, s.2.1, s.2.2.1 + 1, s.2.2.2.1, fun r k => if 6 ≤ r ∧ (k : Int) = s.2.2.1 then (if r = 6 then nm else if r = 7 then f else b) else s.2.2.2.2 r k)
noncomputable def x_free (s : x_S) (f l : Int) : Int := x_eq (s.2.2.2.1 &&& x_bw f l) 0
abbrev x_Res : Type := Option (Int × x_S)
abbrev x_K : Type := Int → x_S → x_Res
section XP
variable (t : Nat → Int) (nn : Int)
noncomputable def x_holes (s : x_S) (a : Int) (k : x_K) : x_Res := if x_kind t nn a = 3 ∧ 10 ≤ x_val t nn a ∧ x_val t nn a ≤ 60 then k (x_ns t nn a) (x_val t nn a, s.2) else none
noncomputable def x_fc (s : x_S) (nm f l a : Int) (k : x_K) : x_Res := if x_kind t nn a = 3 ∧ 1 ≤ x_val t nn a ∧ x_val t nn a ≤ 4 ∧ x_val t nn a ≤ l - f + 1 then k (x_ns t nn a) (x_push s nm 3 f l (x_val t nn a)) else none
noncomputable def x_fm (s : x_S) (nm kd f a : Int) (k : x_K) : x_Res := if x_kind t nn a = 3 ∧ f ≤ x_val t nn a ∧ (kd = 0 → f + 1 ≤ x_val t nn a) ∧ x_val t nn a ≤ s.1 - 1 ∧ x_val t nn a ≤ f + 23 ∧ x_free s f (x_val t nn a) = 1 then (if kd = 0 then k (x_ns t nn a) (x_push s nm 0 f (x_val t nn a) (x_val t nn a - f + 1)) else x_fc t nn s nm f (x_val t nn a) (x_ns t nn a) k) else none
noncomputable def x_fl (s : x_S) (nm kd a : Int) (k : x_K) : x_Res := if x_kind t nn a = 3 ∧ x_val t nn a ≤ s.1 - 1 ∧ x_free s (x_val t nn a) (x_val t nn a) = 1 then x_fm t nn s nm kd (x_val t nn a) (x_ns t nn a) k else none
noncomputable def x_fd (s : x_S) (nm kd a : Int) (k : x_K) : x_Res := if x_kind t nn a = 3 ∧ x_val t nn a ≤ s.1 - (kd + 3) ∧ x_free s (x_val t nn a) (x_val t nn a + (kd + 2)) = 1 then k (x_ns t nn a) (x_push s nm kd (x_val t nn a) (x_val t nn a + (kd + 2)) 10) else none
noncomputable def x_fs (s : x_S) (nm kd a : Int) (k : x_K) : x_Res := if kd = 1 ∨ kd = 2 then x_fd t nn s nm kd a k else x_fl t nn s nm kd a k
noncomputable def x_fk (s : x_S) (nm a : Int) (k : x_K) : x_Res := if x_kind t nn a = 1 ∧ 3 ≤ x_kx (x_val t nn a) ∧ x_kx (x_val t nn a) ≤ 6 then x_fs t nn s nm (x_kx (x_val t nn a) - 3) (x_ns t nn a) k else none
noncomputable def x_nw (s : x_S) (a : Int) : Prop := x_kind t nn a = 2 ∧ x_fn s 1 (x_val t nn a) = -1 ∧ x_fn s 6 (x_val t nn a) = -1
noncomputable def x_field (s : x_S) (a : Int) (k : x_K) : x_Res := if s.2.1 < 8 ∧ x_kind t nn a = 2 ∧ x_fn s 1 (x_val t nn a) = -1 ∧ x_fn s 6 (x_val t nn a) = -1 then x_fk t nn s (x_val t nn a) (x_ns t nn a) k else none
noncomputable def x_hit (bits : Int64) (h : Int) : Int := x_eq (bits &&& x_bit h) 0
noncomputable def x_rc (s : x_S) (f nm : Int) (k : x_K) : Nat → Int → Int64 → Int → x_Res
  | 0, _, _, _ => none
  | fu + 1, told, bits, a => if x_kind t nn a = 3 then (if told < x_row s 5 f ∧ x_val t nn a ≤ x_row s 4 f - x_row s 3 f ∧ x_hit bits (x_row s 3 f + x_val t nn a) = 1 then x_rc s f nm k fu (told + 1) (bits ||| x_bit (x_row s 3 f + x_val t nn a)) (x_ns t nn a) else none) else if told = x_row s 5 f then k a (x_pushw s nm f bits.toInt) else none
noncomputable def x_wn (s : x_S) (f a : Int) (k : x_K) : x_Res := if x_kind t nn a = 2 ∧ x_fn s 1 (x_val t nn a) = -1 ∧ x_fn s 6 (x_val t nn a) = -1 then x_rc t nn s f (x_val t nn a) k 6 0 0 (x_ns t nn a) else none
noncomputable def x_word (s : x_S) (a : Int) (k : x_K) : x_Res := if s.2.2.1 < 12 ∧ x_kind t nn a = 2 ∧ 0 ≤ x_fn s 1 (x_val t nn a) ∧ x_row s 2 (x_fn s 1 (x_val t nn a)) = 3 then x_wn t nn s (x_fn s 1 (x_val t nn a)) (x_ns t nn a) k else none
noncomputable def x_line (L : Int) (s : x_S) (a : Int) (k : x_K) : x_Res := if x_kind t nn a = 1 ∧ x_kx (x_val t nn a) = 0 ∧ L = 0 then x_holes t nn s (x_ns t nn a) k else if x_kind t nn a = 1 ∧ x_kx (x_val t nn a) = 1 ∧ 0 < L then x_field t nn s (x_ns t nn a) k else if x_kind t nn a = 1 ∧ x_kx (x_val t nn a) = 2 ∧ 0 < L then x_word t nn s (x_ns t nn a) k else none
noncomputable def x_plan : Nat → Int → x_S → Int → x_Res
  | 0, _, _, _ => none
  | fu + 1, L, s, a => if x_kind t nn a = 0 then some (L, s) else x_line t nn L s a (fun a2 s2 => if x_kind t nn a2 = 4 ∧ x_val t nn a2 = 59 then x_plan fu (L + 1) s2 (x_ns t nn a2) else none)
end XP
noncomputable def x_s0 : x_S := (10, 0, 0, 0, fun _ _ => 0)
/-- what holds of a plan that is read -/
noncomputable def x_G (s : x_S) : Prop := 10 ≤ s.1 ∧ s.1 ≤ 60 ∧ 0 ≤ s.2.1 ∧ s.2.1 ≤ 8 ∧ 0 ≤ s.2.2.1 ∧ s.2.2.1 ≤ 12 ∧ (∀ k : Int, 0 ≤ k → k < s.2.2.1 → 0 ≤ x_row s 7 k ∧ x_row s 7 k < s.2.1 ∧ x_row s 2 (x_row s 7 k) = 3) ∧ ∀ k : Int, 0 ≤ k → k < s.2.1 → 0 ≤ x_row s 2 k ∧ x_row s 2 k ≤ 3 ∧ 0 ≤ x_row s 3 k ∧ x_row s 3 k ≤ x_row s 4 k ∧ x_row s 4 k ≤ 59 ∧ x_row s 4 k - x_row s 3 k ≤ 23 ∧ 1 ≤ x_row s 5 k ∧ x_row s 5 k ≤ 24 ∧ (x_row s 2 k = 3 → x_row s 5 k ≤ 4)
theorem x_find_b {g : Nat → Int} {v : Int} : ∀ n k, -1 ≤ x_find g v n k ∧ (x_find g v n k < (k : Int) + n)
  | 0, k => by rw [x_find]; omega
  | n + 1, k => by
    have := x_find_b (g := g) (v := v) n (k + 1)
    rw [x_find]
    split <;> omega
theorem x_fn_b {s : x_S} {v : Int} (h : x_G s) : -1 ≤ x_fn s 1 v ∧ x_fn s 1 v < 8 ∧ (0 ≤ x_fn s 1 v → x_fn s 1 v < s.2.1) := by
  have := x_find_b (g := s.2.2.2.2 1) (v := v) (if 1 ≤ 5 then s.2.1 else s.2.2.1).toNat 0
  rw [if_pos (by decide)] at this
  have h2 := h.2.2.1
  have h3 := h.2.2.2.1
  unfold x_fn
  rw [if_pos (by decide)]
  omega
theorem x_find_go {g : Nat → Int} {v : Int} {n k : Nat} (h : g k ≠ v) : x_find g v (n + 1) k = x_find g v n (k + 1) := by rw [x_find, if_neg h]
theorem x_find_at {g : Nat → Int} {v : Int} {n k : Nat} (h : g k = v) : x_find g v (n + 1) k = (k : Int) := by rw [x_find, if_pos h]
theorem x_bw_r {a b : Int} (h0 : 0 ≤ a) (h1 : a ≤ b) (h2 : b ≤ 59) : x_bwr (b + 1 - a).toNat 0 a.toNat = x_bw a b := by
  have := x_bw_60 ⟨a.toNat, by omega⟩ ⟨b.toNat, by omega⟩ (by show a.toNat ≤ b.toNat; omega)
  have e1 : ((a.toNat : Nat) : Int) = a := by omega
  have e2 : ((b.toNat : Nat) : Int) = b := by omega
  have e3 : b.toNat + 1 - a.toNat = (b + 1 - a).toNat := by omega
  simp only [e1, e2, e3] at this
  exact this
/-- a line of a field can be read: a is its name's place -/
noncomputable def x_fC (t : Nat → Int) (nn : Int) (s : x_S) (a : Int) : Prop := s.2.1 < 8 ∧ x_kind t nn a = 2 ∧ x_fn s 1 (x_val t nn a) = -1 ∧ x_fn s 6 (x_val t nn a) = -1 ∧ x_kind t nn (x_ns t nn a) = 1 ∧ 3 ≤ x_kx (x_val t nn (x_ns t nn a)) ∧ x_kx (x_val t nn (x_ns t nn a)) ≤ 6 ∧ x_kind t nn (x_ns t nn (x_ns t nn a)) = 3 ∧ (x_kx (x_val t nn (x_ns t nn a)) = 4 ∨ x_kx (x_val t nn (x_ns t nn a)) = 5 → x_val t nn (x_ns t nn (x_ns t nn a)) ≤ s.1 - x_kx (x_val t nn (x_ns t nn a)) ∧ x_free s (x_val t nn (x_ns t nn (x_ns t nn a))) (x_val t nn (x_ns t nn (x_ns t nn a)) + (x_kx (x_val t nn (x_ns t nn a)) - 1)) = 1) ∧ (x_kx (x_val t nn (x_ns t nn a)) = 3 ∨ x_kx (x_val t nn (x_ns t nn a)) = 6 → x_val t nn (x_ns t nn (x_ns t nn a)) ≤ s.1 - 1 ∧ x_free s (x_val t nn (x_ns t nn (x_ns t nn a))) (x_val t nn (x_ns t nn (x_ns t nn a))) = 1 ∧ x_kind t nn (x_ns t nn (x_ns t nn (x_ns t nn a))) = 3 ∧ x_val t nn (x_ns t nn (x_ns t nn a)) ≤ x_val t nn (x_ns t nn (x_ns t nn (x_ns t nn a))) ∧ (x_kx (x_val t nn (x_ns t nn a)) = 3 → x_val t nn (x_ns t nn (x_ns t nn a)) + 1 ≤ x_val t nn (x_ns t nn (x_ns t nn (x_ns t nn a)))) ∧ x_val t nn (x_ns t nn (x_ns t nn (x_ns t nn a))) ≤ s.1 - 1 ∧ x_val t nn (x_ns t nn (x_ns t nn (x_ns t nn a))) ≤ x_val t nn (x_ns t nn (x_ns t nn a)) + 23 ∧ x_free s (x_val t nn (x_ns t nn (x_ns t nn a))) (x_val t nn (x_ns t nn (x_ns t nn (x_ns t nn a)))) = 1) ∧ (x_kx (x_val t nn (x_ns t nn a)) = 6 → x_kind t nn (x_ns t nn (x_ns t nn (x_ns t nn (x_ns t nn a)))) = 3 ∧ 1 ≤ x_val t nn (x_ns t nn (x_ns t nn (x_ns t nn (x_ns t nn a)))) ∧ x_val t nn (x_ns t nn (x_ns t nn (x_ns t nn (x_ns t nn a)))) ≤ 4 ∧ x_val t nn (x_ns t nn (x_ns t nn (x_ns t nn (x_ns t nn a)))) ≤ x_val t nn (x_ns t nn (x_ns t nn (x_ns t nn a))) - x_val t nn (x_ns t nn (x_ns t nn a)) + 1)
section XF
variable {t : Nat → Int} {nn a : Int} {s : x_S} {k : x_K}
theorem x_field_d (h : x_fC t nn s a) (hk : x_kx (x_val t nn (x_ns t nn a)) = 4 ∨ x_kx (x_val t nn (x_ns t nn a)) = 5) : x_field t nn s a k = k (x_ns t nn (x_ns t nn (x_ns t nn a))) (x_push s (x_val t nn a) (x_kx (x_val t nn (x_ns t nn a)) - 3) (x_val t nn (x_ns t nn (x_ns t nn a))) (x_val t nn (x_ns t nn (x_ns t nn a)) + (x_kx (x_val t nn (x_ns t nn a)) - 1)) 10) := by
  obtain ⟨h1, h2, h3, h4, h5, h6, h7, h8, h9, h10, h11⟩ := h
  have q := h9 hk
  have e : x_kx (x_val t nn (x_ns t nn a)) - 1 = x_kx (x_val t nn (x_ns t nn a)) - 3 + 2 := by omega
  rw [e] at q ⊢
  unfold x_field
  rw [if_pos ⟨h1, h2, h3, h4⟩]
  unfold x_fk
  rw [if_pos ⟨h5, h6, h7⟩]
  unfold x_fs
  rw [if_pos (by omega)]
  unfold x_fd
  rw [if_pos ⟨h8, by omega, q.2⟩]
theorem x_field_0 (h : x_fC t nn s a) (hk : x_kx (x_val t nn (x_ns t nn a)) = 3) : x_field t nn s a k = k (x_ns t nn (x_ns t nn (x_ns t nn (x_ns t nn a)))) (x_push s (x_val t nn a) 0 (x_val t nn (x_ns t nn (x_ns t nn a))) (x_val t nn (x_ns t nn (x_ns t nn (x_ns t nn a)))) (x_val t nn (x_ns t nn (x_ns t nn (x_ns t nn a))) - x_val t nn (x_ns t nn (x_ns t nn a)) + 1)) := by
  obtain ⟨h1, h2, h3, h4, h5, h6, h7, h8, h9, h10, h11⟩ := h
  obtain ⟨g1, g2, g3, g4, g5, g6, g7, g8⟩ := h10 (Or.inl hk)
  unfold x_field
  rw [if_pos ⟨h1, h2, h3, h4⟩]
  unfold x_fk
  rw [if_pos ⟨h5, h6, h7⟩]
  unfold x_fs
  rw [if_neg (by omega)]
  unfold x_fl
  rw [if_pos ⟨h8, g1, g2⟩]
  unfold x_fm
  rw [if_pos ⟨g3, g4, fun _ => g5 hk, g6, g7, g8⟩, if_pos (by omega)]
theorem x_field_3 (h : x_fC t nn s a) (hk : x_kx (x_val t nn (x_ns t nn a)) = 6) : x_field t nn s a k = k (x_ns t nn (x_ns t nn (x_ns t nn (x_ns t nn (x_ns t nn a))))) (x_push s (x_val t nn a) 3 (x_val t nn (x_ns t nn (x_ns t nn a))) (x_val t nn (x_ns t nn (x_ns t nn (x_ns t nn a)))) (x_val t nn (x_ns t nn (x_ns t nn (x_ns t nn (x_ns t nn a)))))) := by
  obtain ⟨h1, h2, h3, h4, h5, h6, h7, h8, h9, h10, h11⟩ := h
  obtain ⟨g1, g2, g3, g4, g5, g6, g7, g8⟩ := h10 (Or.inr hk)
  unfold x_field
  rw [if_pos ⟨h1, h2, h3, h4⟩]
  unfold x_fk
  rw [if_pos ⟨h5, h6, h7⟩]
  unfold x_fs
  rw [if_neg (by omega)]
  unfold x_fl
  rw [if_pos ⟨h8, g1, g2⟩]
  unfold x_fm
  rw [if_pos ⟨g3, g4, fun z => by omega, g6, g7, g8⟩, if_neg (by omega)]
  unfold x_fc
  rw [if_pos (h11 hk)]
theorem x_field_n (h : ¬ x_fC t nn s a) : x_field t nn s a k = none := by
  unfold x_field
  split
  · rename_i c1
    unfold x_fk
    split
    · rename_i c2
      unfold x_fs
      split
      · rename_i c3
        unfold x_fd
        split
        · rename_i c4
          exfalso
          apply h
          have e : x_kx (x_val t nn (x_ns t nn a)) - 1 = x_kx (x_val t nn (x_ns t nn a)) - 3 + 2 := by omega
          unfold x_fC
          rw [e]
          omega
        · rfl
      · rename_i c3
        unfold x_fl
        split
        · rename_i c4
          unfold x_fm
          split
          · rename_i c5
            split
            · rename_i c6
              exfalso
              apply h
              unfold x_fC
              omega
            · rename_i c6
              unfold x_fc
              split
              · rename_i c7
                exfalso
                apply h
                unfold x_fC
                omega
              · rfl
          · rfl
        · rfl
    · rfl
  · rfl
end XF
theorem x_free_v {s : x_S} {f l f2 l2 : Int} : f = f2 → l = l2 → x_free s f l = x_free s f2 l2 := fun h1 h2 => by rw [h1, h2]
/-- a field more -/
theorem x_G_p {s : x_S} {nm kd f l c : Int} (H : x_G s) (hF : s.2.1 ≤ 7) (h1 : 0 ≤ kd ∧ kd ≤ 3) (h2 : 0 ≤ f ∧ f ≤ l ∧ l ≤ 59 ∧ l - f ≤ 23) (h3 : 1 ≤ c ∧ c ≤ 24) (h4 : kd = 3 → c ≤ 4) : x_G (x_push s nm kd f l c) := by
  obtain ⟨a1, a2, a3, a4, a5, a6, a8, a7⟩ := H
  refine ⟨a1, a2, by show 0 ≤ s.2.1 + 1; omega, by show s.2.1 + 1 ≤ 8; omega, a5, a6, fun k k0 k1 => ?_, fun k k0 k1 => ?_⟩
  · have e : x_row (x_push s nm kd f l c) 7 k = x_row s 7 k := by
      show (if (7 : Nat) ≤ 5 ∧ ((k.toNat : Nat) : Int) = s.2.1 then (if (7 : Nat) = 1 then nm else if (7 : Nat) = 2 then kd else if (7 : Nat) = 3 then f else if (7 : Nat) = 4 then l else c) else s.2.2.2.2 7 k.toNat) = _
      rw [if_neg (fun z => absurd z.1 (by decide))]
      rfl
    have a9 := a8 k k0 k1
    have e2 : x_row (x_push s nm kd f l c) 2 (x_row s 7 k) = x_row s 2 (x_row s 7 k) := by
      show (if (2 : Nat) ≤ 5 ∧ (((x_row s 7 k).toNat : Nat) : Int) = s.2.1 then (if (2 : Nat) = 1 then nm else if (2 : Nat) = 2 then kd else if (2 : Nat) = 3 then f else if (2 : Nat) = 4 then l else c) else s.2.2.2.2 2 (x_row s 7 k).toNat) = _
      rw [if_neg (fun z => by have z2 := z.2; omega)]
      rfl
    rw [e, e2]
    exact ⟨a9.1, by show _ < s.2.1 + 1; omega, a9.2.2⟩
  have k1 : k < s.2.1 + 1 := k1
  by_cases g : k = s.2.1
  · have e : ∀ r, x_row (x_push s nm kd f l c) r k = if r ≤ 5 ∧ ((k.toNat : Nat) : Int) = s.2.1 then (if r = 1 then nm else if r = 2 then kd else if r = 3 then f else if r = 4 then l else c) else s.2.2.2.2 r k.toNat := fun r => rfl
    have gk : ((k.toNat : Nat) : Int) = s.2.1 := by omega
    have e2 : x_row (x_push s nm kd f l c) 2 k = kd := by rw [e, if_pos ⟨by decide, gk⟩]; rfl
    have e3 : x_row (x_push s nm kd f l c) 3 k = f := by rw [e, if_pos ⟨by decide, gk⟩]; rfl
    have e4 : x_row (x_push s nm kd f l c) 4 k = l := by rw [e, if_pos ⟨by decide, gk⟩]; rfl
    have e5 : x_row (x_push s nm kd f l c) 5 k = c := by rw [e, if_pos ⟨by decide, gk⟩]; rfl
    rw [e2, e3, e4, e5]
    omega
  · have e : ∀ r, x_row (x_push s nm kd f l c) r k = x_row s r k := fun r => by
      show (if r ≤ 5 ∧ ((k.toNat : Nat) : Int) = s.2.1 then _ else _) = _
      rw [if_neg (fun z => g (by omega))]
      rfl
    rw [e, e, e, e]
    exact a7 k k0 (by omega)
theorem x_G_w {s : x_S} {nm f b : Int} (H : x_G s) (hW : s.2.2.1 ≤ 11) (hf : 0 ≤ f ∧ f < s.2.1 ∧ x_row s 2 f = 3) : x_G (x_pushw s nm f b) := by
  obtain ⟨a1, a2, a3, a4, a5, a6, a8, a7⟩ := H
  refine ⟨a1, a2, a3, a4, by show 0 ≤ s.2.2.1 + 1; omega, by show s.2.2.1 + 1 ≤ 12; omega, fun k k0 k1 => ?_, fun k k0 k1 => ?_⟩
  · have k1 : k < s.2.2.1 + 1 := k1
    show 0 ≤ x_row (x_pushw s nm f b) 7 k ∧ x_row (x_pushw s nm f b) 7 k < s.2.1 ∧ x_row (x_pushw s nm f b) 2 (x_row (x_pushw s nm f b) 7 k) = 3
    have e2 : ∀ j : Int, x_row (x_pushw s nm f b) 2 j = x_row s 2 j := fun j => by
      show (if 6 ≤ (2 : Nat) ∧ ((j.toNat : Nat) : Int) = s.2.2.1 then (if (2 : Nat) = 6 then nm else if (2 : Nat) = 7 then f else b) else s.2.2.2.2 2 j.toNat) = _
      rw [if_neg (fun z => absurd z.1 (by decide))]
      rfl
    by_cases g : k = s.2.2.1
    · have e : x_row (x_pushw s nm f b) 7 k = f := by
        show (if 6 ≤ (7 : Nat) ∧ ((k.toNat : Nat) : Int) = s.2.2.1 then (if (7 : Nat) = 6 then nm else if (7 : Nat) = 7 then f else b) else s.2.2.2.2 7 k.toNat) = _
        rw [if_pos ⟨by decide, by omega⟩]
        rfl
      rw [e, e2]
      exact hf
    · have e : x_row (x_pushw s nm f b) 7 k = x_row s 7 k := by
        show (if 6 ≤ (7 : Nat) ∧ ((k.toNat : Nat) : Int) = s.2.2.1 then (if (7 : Nat) = 6 then nm else if (7 : Nat) = 7 then f else b) else s.2.2.2.2 7 k.toNat) = _
        rw [if_neg (fun z => g (by omega))]
        rfl
      rw [e, e2]
      exact a8 k k0 (by omega)
  have e : ∀ r, r ≤ 5 → x_row (x_pushw s nm f b) r k = x_row s r k := fun r hr => by
    show (if 6 ≤ r ∧ ((k.toNat : Nat) : Int) = s.2.2.1 then _ else _) = _
    rw [if_neg (fun z => by omega)]
    rfl
  rw [e 2 (by decide), e 3 (by decide), e 4 (by decide), e 5 (by decide)]
  exact a7 k k0 k1
end
section
abbrev md_ad (a i : Nat) : Prop := a = 1 ∧ i = 5 ∨ 3 ≤ a ∧ a ≤ 5
abbrev md_av (a i : Nat) : Prop := a = 1 ∧ 6 ≤ i ∧ i ≤ 9
abbrev md_fl (a i : Nat) : Prop := a = 1 ∧ (i = 10 ∨ i = 11)
abbrev md_f33 (p a i : Nat) : Prop := a = 1 ∧ 6 ≤ i ∧ i ≤ 11 ∨ a = p ∧ 2 ≤ i ∨ p + 1 ≤ a ∧ a ≤ p + 5
abbrev md_c42e (p a i : Nat) : Prop := a = 1 ∧ 6 ≤ i ∧ i ≤ 11 ∨ a = p + 8
abbrev md_w41 (p a i : Nat) : Prop := a = 1 ∧ 6 ≤ i ∧ i ≤ 11 ∨ a = p ∧ i = 3 ∨ p + 6 ≤ a ∧ a ≤ p + 8
abbrev md_l31 (p a i : Nat) : Prop := a = 1 ∧ 6 ≤ i ∧ i ≤ 11 ∨ a = p ∧ ¬ i = 1 ∨ p + 1 ≤ a ∧ a ≤ p + 8
abbrev md_p90 (a i : Nat) : Prop := a = 1 ∧ 6 ≤ i ∧ i ≤ 11
abbrev md_r30 (p a i : Nat) : Prop := a = 1 ∧ 6 ≤ i ∧ i ≤ 11 ∨ p ≤ a ∧ a ≤ p + 8
abbrev md_fl170 (a i : Nat) : Prop := a = 77 ∧ (i = 4 ∨ i = 5 ∨ 7 ≤ i ∧ i ≤ 10 ∨ i = 15 ∨ i = 25) ∨ 80 ≤ a ∧ a ≤ 84 ∧ 8 ≤ i
abbrev md_w171 (a i : Nat) : Prop := a = 77 ∧ (i = 4 ∨ i = 5 ∨ 7 ≤ i ∧ i ≤ 10 ∨ i = 16) ∨ 85 ≤ a ∧ a ≤ 87 ∧ 12 ≤ i
abbrev md_l172 (a i : Nat) : Prop := a = 77 ∧ (i = 4 ∨ i = 5 ∨ 7 ≤ i ∧ i ≤ 10 ∨ 14 ≤ i ∧ i ≤ 16 ∨ i = 25) ∨ 80 ≤ a ∧ a ≤ 84 ∧ 8 ≤ i ∨ 85 ≤ a ∧ a ≤ 87 ∧ 12 ≤ i
abbrev md_ka (a i : Nat) : Prop := 12 ≤ a ∧ a ≤ 15
abbrev md_ks (a i : Nat) : Prop := a = 16
abbrev md_kr (a i : Nat) : Prop := 95 ≤ a ∧ a ≤ 98
/-! exact steps, and the class's text -/
section SE
variable {X : mm_X} {d mi pc : Nat} {ls st : List Value} {M : mm_M} {Q : Option Value → mm_M → Prop} {len a b : Nat} {ps : List Nat} {x y : Int32} {A B : Int}
theorem s_opE {i : Instr} {w : Int32} (hc : mm_code mi pc = some (i, len, a, b, ps)) (hw : mm_op2 i x y = some w) (h : ∀ v : Int32, w = v → mm_T X d mi (pc + len) ls (.int v :: st) M Q) : mm_T X d mi pc ls (.int y :: .int x :: st) M Q := to_2 hc hw (h w rfl)
theorem s_xalE {e n : Nat} (hc : mm_code mi pc = some (.iaload, len, a, b, ps)) (hX : g_X X) (he : (Nat.ble 1 e && Nat.ble e 3 && Nat.beq (g_xn e) n) = true) (ex : x.toInt = A) (h0 : 0 ≤ A) (h1 : A < (n : Int)) (h : ∀ v : Int32, (X e).2 A.toNat = v → mm_T X d mi (pc + len) ls (.int v :: st) M Q) : mm_T X d mi pc ls (.int x :: .ref (mm_ext + e) :: st) M Q := by
  rw [Bool.and_eq_true, Bool.and_eq_true] at he
  have hn := hX e (Nat.le_of_ble_eq_true he.1.1) (Nat.le_of_ble_eq_true he.1.2)
  rw [Nat.eq_of_beq_eq_true he.2] at hn
  exact tt_xal hc (by rw [hn]; exact i_ix ex h0 h1) rfl (h _ (by rw [show x.toNatClampNeg = A.toNat by rw [← ex]; rfl]))
end SE
noncomputable def g_W (X : mm_X) : Prop := ∀ j : Nat, j < 15 → (X 1).2 j = fr_W.getD j 0
theorem g_W_u {X : mm_X} {v : Int32} {A : Int} (H : g_W X) (k : Nat) (hk : k < 15) (e : A.toNat = k) (h : (X 1).2 A.toNat = v) : v.toInt = (fr_W.getD k 0).toInt := by
  rw [← h, e, H k hk]
/-- the bytes of the class's text are t's -/
noncomputable def TT (M : mm_M) (t : Nat → Int) (nn : Int) : Prop := ∀ k : Nat, (k : Int) < nn → (M.2.1 2 k &&& 255).toInt = t k
theorem TT_f {M M1 : mm_M} {t : Nat → Int} {nn : Int} (h : ∀ a i, a = 2 → M1.2.1 a i = M.2.1 a i) (H : TT M t nn) : TT M1 t nn := fun k hk => by rw [h 2 k rfl]; exact H k hk
theorem TT_u {M : mm_M} {t : Nat → Int} {nn A : Int} {v w : Int32} (H : TT M t nn) (h0 : 0 ≤ A) (h1 : A < nn) (hv : M.2.1 2 A.toNat = v) (hw : v &&& 255 = w) : w.toInt = t A.toNat := by
  rw [← hw, ← hv]
  exact H A.toNat (by omega)
theorem x_pk_6 {t : Nat → Int} {a j : Nat} (h : 6 ≤ j) : x_pk t a (j + 1) = x_pk t a j := by
  rw [x_pk, show x_pw j = 0 from by unfold x_pw; repeat' rw [if_neg (by omega)]]
  omega
section XC
variable {t : Nat → Int} {n a : Int}
theorem x_C_0 (h : n ≤ a) : x_C (x_kind t n a) (x_val t n a) 0 0 := Or.inl ⟨(x_t0 h).1, rfl, rfl⟩
theorem x_C_l5 (h : a < n) (hl : 97 ≤ t a.toNat ∧ t a.toNat ≤ 122) (h6 : 6 < x_e t n a - a) : x_C (x_kind t n a) (x_val t n a) 1 0 := by
  rw [(x_tl h hl).1, if_pos h6]
  exact Or.inr (Or.inr (Or.inr (Or.inr (Or.inr ⟨rfl, rfl, rfl⟩))))
theorem x_C_l1 {v : Int} (h : a < n) (hl : 97 ≤ t a.toNat ∧ t a.toNat ≤ 122) (h6 : x_e t n a - a ≤ 6) (hv : v = x_lv t n a) (hk : 0 ≤ x_kx v) : x_C (x_kind t n a) (x_val t n a) 4 v := by
  rw [(x_tl h hl).1, if_neg (by omega), if_pos (by rw [← hv]; exact hk), (x_tl h hl).2.1, ← hv]
  exact Or.inr (Or.inl ⟨rfl, rfl, rfl⟩)
theorem x_C_l2 {v : Int} (h : a < n) (hl : 97 ≤ t a.toNat ∧ t a.toNat ≤ 122) (h6 : x_e t n a - a ≤ 6) (hv : v = x_lv t n a) (hk : x_kx v < 0) : x_C (x_kind t n a) (x_val t n a) 3 v := by
  rw [(x_tl h hl).1, if_neg (by omega), if_neg (by rw [← hv]; omega), (x_tl h hl).2.1, ← hv]
  exact Or.inr (Or.inr (Or.inl ⟨rfl, rfl, rfl⟩))
theorem x_C_d (h : a < n) (hd : 48 ≤ t a.toNat ∧ t a.toNat ≤ 57) : x_C (x_kind t n a) (x_val t n a) 2 (x_num t n a 0) := by
  rw [(x_td h hd).1, (x_td h hd).2.1]
  exact Or.inr (Or.inr (Or.inr (Or.inl ⟨rfl, rfl, rfl⟩)))
theorem x_C_s {v : Int} (h : a < n) (hv : v = t a.toNat) (h1 : v = 59 ∨ v = 40 ∨ v = 41 ∨ v = 61) : x_C (x_kind t n a) (x_val t n a) v 0 := by
  have q := x_ts (t := t) h (by omega) (by omega)
  rw [q.1, q.2.1, if_pos (by omega), ← hv]
  exact Or.inr (Or.inr (Or.inr (Or.inr (Or.inl ⟨rfl, rfl, rfl, h1⟩))))
theorem x_C_b (h : a < n) (h1 : ¬ (97 ≤ t a.toNat ∧ t a.toNat ≤ 122)) (h2 : ¬ (48 ≤ t a.toNat ∧ t a.toNat ≤ 57)) (h3 : ¬ (t a.toNat = 59 ∨ t a.toNat = 40 ∨ t a.toNat = 41 ∨ t a.toNat = 61)) : x_C (x_kind t n a) (x_val t n a) 1 0 := by
  have q := x_ts (t := t) h h1 h2
  rw [q.1, if_neg h3]
  exact Or.inr (Or.inr (Or.inr (Or.inr (Or.inr ⟨rfl, rfl, rfl⟩))))
end XC
/-- a token was added -/
noncomputable def AD (M M1 : mm_M) (tok val pl : Int) : Prop := (M1.2.1 1 5).toInt = (M.2.1 1 5).toInt + 1 ∧ (M1.2.1 3 (M.2.1 1 5).toInt.toNat).toInt = tok ∧ (M1.2.1 4 (M.2.1 1 5).toInt.toNat).toInt = val ∧ (M1.2.1 5 (M.2.1 1 5).toInt.toNat).toInt = pl ∧ ∀ i, i ≠ (M.2.1 1 5).toInt.toNat → M1.2.1 3 i = M.2.1 3 i ∧ M1.2.1 4 i = M.2.1 4 i ∧ M1.2.1 5 i = M.2.1 5 i
theorem AD_k {M M1 M2 M3 M4 : mm_M} {x y z v : Int32} (W1 : M1 = mm_setI M 3 (M.2.1 1 5).toInt.toNat x) (W2 : M2 = mm_setI M1 4 (M.2.1 1 5).toInt.toNat y) (W3 : M3 = mm_setI M2 5 (M.2.1 1 5).toInt.toNat z) (W4 : M4 = mm_setI M3 1 5 v) (hv : v.toInt = (M.2.1 1 5).toInt + 1) : AD M M4 x.toInt y.toInt z.toInt := by
  refine ⟨?_, ?_, ?_, ?_, fun i hi => ⟨?_, ?_, ?_⟩⟩
  · rw [W_e W4, hv]
  · rw [W_n W4 (by omega) (W_n W3 (by omega) (W_n W2 (by omega) (W_e W1)))]
  · rw [W_n W4 (by omega) (W_n W3 (by omega) (W_e W2))]
  · rw [W_n W4 (by omega) (W_e W3)]
  · exact W_n W4 (by omega) (W_n W3 (by omega) (W_n W2 (by omega) (W_n W1 (by omega) rfl)))
  · exact W_n W4 (by omega) (W_n W3 (by omega) (W_n W2 (by omega) (W_n W1 (by omega) rfl)))
  · exact W_n W4 (by omega) (W_n W3 (by omega) (W_n W2 (by omega) (W_n W1 (by omega) rfl)))
/-- token i of the class's rows, of s in all -/
noncomputable def TE (M : mm_M) (t : Nat → Int) (nn s : Int) (i : Nat) : Prop := x_C (x_kind t nn (M.2.1 5 i).toInt) (x_val t nn (M.2.1 5 i).toInt) (M.2.1 3 i).toInt (M.2.1 4 i).toInt ∧ 0 ≤ (M.2.1 5 i).toInt ∧ (M.2.1 5 i).toInt ≤ nn ∧ ((i : Int) + 1 < s → (M.2.1 5 (i + 1)).toInt = x_ns t nn (M.2.1 5 i).toInt)
/-- the tokens of the text up to x stand in the rows -/
noncomputable def TB (M : mm_M) (t : Nat → Int) (nn x : Int) : Prop := 0 ≤ (M.2.1 1 5).toInt ∧ (M.2.1 1 5).toInt ≤ x ∧ (∀ i : Nat, (i : Int) < (M.2.1 1 5).toInt → TE M t nn (M.2.1 1 5).toInt i) ∧ ((M.2.1 1 5).toInt = 0 → x_sk t nn x = x_sk t nn 0) ∧ (0 < (M.2.1 1 5).toInt → x_sk t nn x = x_ns t nn (M.2.1 5 ((M.2.1 1 5).toInt - 1).toNat).toInt ∧ (M.2.1 5 0).toInt = x_sk t nn 0)
/-- all tokens stand in the rows -/
noncomputable def TA (M : mm_M) (t : Nat → Int) (nn : Int) : Prop := 1 ≤ (M.2.1 1 5).toInt ∧ (M.2.1 1 5).toInt ≤ 501 ∧ (∀ i : Nat, (i : Int) < (M.2.1 1 5).toInt → TE M t nn (M.2.1 1 5).toInt i) ∧ (M.2.1 5 0).toInt = x_sk t nn 0 ∧ (M.2.1 5 ((M.2.1 1 5).toInt - 1).toNat).toInt = nn
theorem TE_f {M M1 : mm_M} {t : Nat → Int} {nn s : Int} {i : Nat} (h : ∀ a i, 3 ≤ a ∧ a ≤ 5 → M1.2.1 a i = M.2.1 a i) (H : TE M t nn s i) : TE M1 t nn s i := by
  unfold TE at H ⊢
  rw [h 3 i (by decide), h 4 i (by decide), h 5 i (by decide), h 5 (i + 1) (by decide)]
  exact H
theorem TA_f {M M1 : mm_M} {t : Nat → Int} {nn : Int} (h : ∀ a i, (a = 1 ∧ i = 5 ∨ 3 ≤ a ∧ a ≤ 5) → M1.2.1 a i = M.2.1 a i) (H : TA M t nn) : TA M1 t nn := by
  unfold TA at H ⊢
  rw [h 1 5 (by decide), h 5 0 (by decide), h 5 _ (by omega)]
  exact ⟨H.1, H.2.1, fun i hi => TE_f (fun a i z => h a i (Or.inr z)) (H.2.2.1 i hi), H.2.2.2.1, H.2.2.2.2⟩
theorem TB_f {M M1 : mm_M} {t : Nat → Int} {nn x : Int} (h : ∀ a i, (a = 1 ∧ i = 5 ∨ 3 ≤ a ∧ a ≤ 5) → M1.2.1 a i = M.2.1 a i) (H : TB M t nn x) : TB M1 t nn x := by
  unfold TB at H ⊢
  rw [h 1 5 (by decide), h 5 0 (by decide), h 5 _ (by omega)]
  exact ⟨H.1, H.2.1, fun i hi => TE_f (fun a i z => h a i (Or.inr z)) (H.2.2.1 i hi), H.2.2.2.1, H.2.2.2.2⟩
theorem TB_0 {M : mm_M} {t : Nat → Int} {nn : Int} (h : (M.2.1 1 5).toInt = 0) : TB M t nn 0 := ⟨by omega, by omega, fun i hi => by exfalso; omega, fun _ => rfl, fun z => by exfalso; omega⟩
theorem TB_s {M : mm_M} {t : Nat → Int} {nn x y : Int} (H : TB M t nn x) (h0 : 0 ≤ x) (h1 : x < nn) (hb : t x.toNat = 10 ∨ t x.toNat = 32) (hy : y = x + 1) : TB M t nn y := by
  have e : x_sk t nn x = x_sk t nn y := by rw [hy]; exact x_go h0 h1 (x_bl_t hb)
  unfold TB at H ⊢
  rw [← e]
  exact ⟨H.1, by omega, H.2.2⟩
/-- one more entry -/
theorem TE_a {M M1 : mm_M} {t : Nat → Int} {nn x tok val : Int} (h0 : 0 ≤ x) (h1 : x ≤ nn) (hs : x_sk t nn x = x) (H : TB M t nn x) (A : AD M M1 tok val x) (hc : x_C (x_kind t nn x) (x_val t nn x) tok val) : (∀ i : Nat, (i : Int) < (M1.2.1 1 5).toInt → TE M1 t nn (M1.2.1 1 5).toInt i) ∧ (M1.2.1 5 0).toInt = x_sk t nn 0 ∧ (M1.2.1 5 ((M1.2.1 1 5).toInt - 1).toNat).toInt = x := by
  obtain ⟨a1, a2, a3, a4, a5⟩ := A
  obtain ⟨b0, b1, b2, b3, b4⟩ := H
  have es : ((M1.2.1 1 5).toInt - 1).toNat = (M.2.1 1 5).toInt.toNat := by rw [a1]; congr 1; omega
  refine ⟨fun i hi => ?_, ?_, by rw [es]; exact a4⟩
  · rw [a1] at hi ⊢
    by_cases g : (i : Int) = (M.2.1 1 5).toInt
    · have gi : i = (M.2.1 1 5).toInt.toNat := by omega
      unfold TE
      rw [gi, a2, a3, a4]
      exact ⟨hc, h0, h1, fun z => by exfalso; omega⟩
    · obtain ⟨c1, c2, c3, c4⟩ := b2 i (by omega)
      have q := a5 i (by omega)
      unfold TE
      rw [q.1, q.2.1, q.2.2]
      refine ⟨c1, c2, c3, fun z => ?_⟩
      by_cases g2 : (i : Int) + 1 = (M.2.1 1 5).toInt
      · have e2 : i + 1 = (M.2.1 1 5).toInt.toNat := by omega
        have e3 : ((M.2.1 1 5).toInt - 1).toNat = i := by omega
        rw [e2, a4, ← hs, (b4 (by omega)).1, e3]
      · rw [(a5 (i + 1) (by omega)).2.2]
        exact c4 (by omega)
  · by_cases g : (M.2.1 1 5).toInt = 0
    · have e : (M.2.1 1 5).toInt.toNat = 0 := by omega
      rw [e] at a4
      rw [a4, ← b3 g, hs]
    · rw [(a5 0 (by omega)).2.2]
      exact (b4 (by omega)).2
theorem TB_a {M M1 : mm_M} {t : Nat → Int} {nn x y : Int} (H : TB M t nn x) (h0 : 0 ≤ x) (h1 : x < nn) (hb : ¬ (t x.toNat = 10 ∨ t x.toNat = 32)) (A : ∃ tok val : Int, AD M M1 tok val x ∧ x_C (x_kind t nn x) (x_val t nn x) tok val) (hy : y = x_nx t nn x) : TB M1 t nn y := by
  obtain ⟨tok, val, A, hc⟩ := A
  have hs : x_sk t nn x = x := x_no h0 (Or.inr (x_bl_f hb))
  obtain ⟨k1, k2, k3⟩ := TE_a h0 (by omega) hs H A hc
  have b := x_nx_b (t := t) h0 (Int.le_of_lt h1)
  have a1 := A.1
  have b1 := H.2.1
  have b0 := H.1
  refine ⟨by omega, by omega, k1, fun z => by exfalso; omega, fun _ => ⟨?_, k2⟩⟩
  rw [k3, hy]
  rfl
theorem TA_e {M M1 : mm_M} {t : Nat → Int} {nn x : Int} (H : TB M t nn x) (h0 : 0 ≤ nn) (h5 : nn ≤ 500) (hx : x = nn) (A : AD M M1 0 0 nn) : TA M1 t nn := by
  subst hx
  obtain ⟨k1, k2, k3⟩ := TE_a h0 (Int.le_refl _) (x_no h0 (Or.inl (Int.le_refl _))) H A (x_C_0 (Int.le_refl _))
  have a1 := A.1
  have b1 := H.2.1
  have b0 := H.1
  exact ⟨by omega, by omega, k1, k2, k3⟩
/-- the text stands at a token -/
noncomputable def CS (M : mm_M) (t : Nat → Int) (nn : Int) : Prop := TA M t nn ∧ 0 ≤ (M.2.1 1 6).toInt ∧ (M.2.1 1 6).toInt < (M.2.1 1 5).toInt ∧ (M.2.1 1 7).toInt = (M.2.1 3 (M.2.1 1 6).toInt.toNat).toInt ∧ (M.2.1 1 8).toInt = (M.2.1 4 (M.2.1 1 6).toInt.toNat).toInt ∧ (M.2.1 1 9).toInt = (M.2.1 5 (M.2.1 1 6).toInt.toNat).toInt
theorem CS_f {M M1 : mm_M} {t : Nat → Int} {nn : Int} (h : ∀ a i, (a = 1 ∧ 5 ≤ i ∧ i ≤ 9 ∨ 3 ≤ a ∧ a ≤ 5) → M1.2.1 a i = M.2.1 a i) (H : CS M t nn) : CS M1 t nn := by
  have h1 := TA_f (M := M) (M1 := M1) (t := t) (nn := nn) (fun a i z => h a i (by omega)) H.1
  unfold CS at H ⊢
  rw [h 1 5 (by decide), h 1 6 (by decide), h 1 7 (by decide), h 1 8 (by decide), h 1 9 (by decide), h 3 _ (by omega), h 4 _ (by omega), h 5 _ (by omega)]
  exact ⟨h1, H.2⟩
theorem CS_c {M : mm_M} {t : Nat → Int} {nn : Int} (H : CS M t nn) : x_C (x_kind t nn (M.2.1 1 9).toInt) (x_val t nn (M.2.1 1 9).toInt) (M.2.1 1 7).toInt (M.2.1 1 8).toInt ∧ 0 ≤ (M.2.1 1 9).toInt ∧ (M.2.1 1 9).toInt ≤ nn := by
  obtain ⟨h1, h2, h3, h4, h5, h6⟩ := H
  have q := h1.2.2.1 (M.2.1 1 6).toInt.toNat (by omega)
  rw [h4, h5, h6]
  exact ⟨q.1, q.2.1, q.2.2.1⟩
section X80
variable {t : Nat → Int} {nn f x4 y : Int}
theorem x_pk_e {x3 s s31 c w r : Int32} (h0 : 0 ≤ f) (hx : f ≤ x4) (h6 : x4 - f < 6) (hp : x3.toInt = x_pk t f.toNat (x4 - f).toNat) (hl : ∀ i : Nat, i < (x4 - f).toNat → 97 ≤ t (f.toNat + i) ∧ t (f.toNat + i) ≤ 122) (hs : s.toInt = t x4.toNat) (hs1 : 97 ≤ s.toInt) (hs2 : s.toInt ≤ 122) (e31 : s &&& 31 = s31) (hc : c.toInt = 25 - 5 * (x4 - f)) (ew : s31 <<< c = w) (er : x3 ||| w = r) (hy : y = x4 + 1) : r.toInt = x_pk t f.toNat (y - f).toNat := by
  have ej : (y - f).toNat = (x4 - f).toNat + 1 := by omega
  have e4 : f.toNat + (x4 - f).toNat = x4.toNat := by omega
  rw [ej, ← er]
  refine x_pk_s hp (by omega) (fun i hi => ?_) ?_
  · by_cases g : i < (x4 - f).toNat
    · exact hl i g
    · have : i = (x4 - f).toNat := by omega
      rw [this, e4, ← hs]
      exact ⟨hs1, hs2⟩
  · rw [e4, ← hs, ← ew, ← e31]
    exact x_shl hs1 hs2 (by omega) (by omega)
theorem x_pk_z {x3 : Int32} (h6 : 6 ≤ x4 - f) (hp : x3.toInt = x_pk t f.toNat (x4 - f).toNat) (hy : y = x4 + 1) : x3.toInt = x_pk t f.toNat (y - f).toNat := by
  have ej : (y - f).toNat = (x4 - f).toNat + 1 := by omega
  rw [ej, x_pk_6 (by omega)]
  exact hp
theorem x_lt_e (h0 : 0 ≤ f) (hx : f ≤ x4) (hl : ∀ i : Nat, i < (x4 - f).toNat → 97 ≤ t (f.toNat + i) ∧ t (f.toNat + i) ≤ 122) (h : 97 ≤ t x4.toNat ∧ t x4.toNat ≤ 122) (hy : y = x4 + 1) : ∀ i : Nat, i < (y - f).toNat → 97 ≤ t (f.toNat + i) ∧ t (f.toNat + i) ≤ 122 := fun i hi => by
  by_cases g : i < (x4 - f).toNat
  · exact hl i g
  · have e4 : f.toNat + i = x4.toNat := by omega
    rw [e4]
    exact h
theorem x_ee_e {E : Int} (h0 : 0 ≤ x4) (h1 : x4 < nn) (h : 97 ≤ t x4.toNat ∧ t x4.toNat ≤ 122) (hy : y = x4 + 1) (g : x_e t nn x4 = E) : x_e t nn y = E := by
  rw [hy, ← g]
  exact (x_go h0 h1 (x_lt_t h)).symm
theorem x_ed_e {E : Int} (h0 : 0 ≤ x4) (h1 : x4 < nn) (h : 48 ≤ t x4.toNat ∧ t x4.toNat ≤ 57) (hy : y = x4 + 1) (g : x_end x_dg t nn x4 = E) : x_end x_dg t nn y = E := by
  rw [hy, ← g]
  exact (x_go h0 h1 (x_dg_t h)).symm
theorem x_nu_e {E v w : Int} (h0 : 0 ≤ x4) (h1 : x4 < nn) (h : 48 ≤ t x4.toNat ∧ t x4.toNat ≤ 57) (hy : y = x4 + 1) (hw : w = if v * 10 + t x4.toNat - 48 ≤ 100 then v * 10 + t x4.toNat - 48 else 100) (g : x_num t nn x4 v = E) : x_num t nn y w = E := by
  rw [hy, ← g]
  exact (x_num_go h0 h1 h hw).symm
end X80
section E80
variable {M N M1 : mm_M} {t : Nat → Int} {nn f : Int}
theorem E80_5 (sm : N = M) (ad : AD N M1 (1 : Int32).toInt (0 : Int32).toInt f) (h : f < nn) (hl : 97 ≤ t f.toNat ∧ t f.toNat ≤ 122) (h6 : 6 < x_e t nn f - f) : ∃ tok val : Int, AD M M1 tok val f ∧ x_C (x_kind t nn f) (x_val t nn f) tok val := ⟨1, 0, sm ▸ ad, x_C_l5 h hl h6⟩
theorem E80_1 {v : Int32} (sm : N = M) (ad : AD N M1 (4 : Int32).toInt v.toInt f) (h : f < nn) (hl : 97 ≤ t f.toNat ∧ t f.toNat ≤ 122) (h6 : x_e t nn f - f ≤ 6) (hv : v.toInt = x_lv t nn f) (hk : 0 ≤ x_kx v.toInt) : ∃ tok val : Int, AD M M1 tok val f ∧ x_C (x_kind t nn f) (x_val t nn f) tok val := ⟨4, v.toInt, sm ▸ ad, x_C_l1 h hl h6 hv hk⟩
theorem E80_2 {v : Int32} (sm : N = M) (ad : AD N M1 (3 : Int32).toInt v.toInt f) (h : f < nn) (hl : 97 ≤ t f.toNat ∧ t f.toNat ≤ 122) (h6 : x_e t nn f - f ≤ 6) (hv : v.toInt = x_lv t nn f) (hk : x_kx v.toInt < 0) : ∃ tok val : Int, AD M M1 tok val f ∧ x_C (x_kind t nn f) (x_val t nn f) tok val := ⟨3, v.toInt, sm ▸ ad, x_C_l2 h hl h6 hv hk⟩
theorem E81_2 {v : Int32} (sm : N = M) (ad : AD N M1 (2 : Int32).toInt v.toInt f) (h : f < nn) (hd : 48 ≤ t f.toNat ∧ t f.toNat ≤ 57) (hv : v.toInt = x_num t nn f 0) : ∃ tok val : Int, AD M M1 tok val f ∧ x_C (x_kind t nn f) (x_val t nn f) tok val := ⟨2, v.toInt, sm ▸ ad, hv ▸ x_C_d h hd⟩
theorem x_lv_e {x3 : Int32} {x4 : Int} (hp : x3.toInt = x_pk t f.toNat (x4 - f).toNat) (e : x4 = x_e t nn f) : x3.toInt = x_lv t nn f := by
  rw [hp, e]
  rfl
end E80
theorem FR_id {M M1 : mm_M} (F : FR md_0 M M1) : M1 = M := by
  obtain ⟨h1, h2, h3⟩ := F
  obtain ⟨a, b, c, e⟩ := M
  obtain ⟨a1, b1, c1, e1⟩ := M1
  have k1 : a1 = a := h1
  have k2 : e1 = e := h2
  have k3 : b1 = b := funext fun x => funext fun y => (h3 x y (Nat.not_lt_zero x)).1
  have k4 : c1 = c := funext fun x => funext fun y => (h3 x y (Nat.not_lt_zero x)).2
  rw [k1, k2, k3, k4]
section E83
variable {M M1 : mm_M} {t : Nat → Int} {nn : Int}
theorem CS_n (H : CS M t nn) (h5 : M1.2.1 1 5 = M.2.1 1 5) (h3 : ∀ a i, 3 ≤ a ∧ a ≤ 5 → M1.2.1 a i = M.2.1 a i) (h6 : (M1.2.1 1 6).toInt = (M.2.1 1 6).toInt + 1 ∧ (M.2.1 1 6).toInt + 1 < (M.2.1 1 5).toInt ∨ (M1.2.1 1 6).toInt = (M.2.1 1 6).toInt ∧ (M.2.1 1 5).toInt ≤ (M.2.1 1 6).toInt + 1) (h7 : (M1.2.1 1 7).toInt = (M.2.1 3 (M1.2.1 1 6).toInt.toNat).toInt) (h8 : (M1.2.1 1 8).toInt = (M.2.1 4 (M1.2.1 1 6).toInt.toNat).toInt) (h9 : (M1.2.1 1 9).toInt = (M.2.1 5 (M1.2.1 1 6).toInt.toNat).toInt) : CS M1 t nn ∧ (M1.2.1 1 9).toInt = x_ns t nn (M.2.1 1 9).toInt := by
  obtain ⟨h1, a0, a1, a7, a8, a9⟩ := H
  have hA : TA M1 t nn := TA_f (fun a i z => by
    rcases z with ⟨rfl, rfl⟩ | z
    · exact h5
    · exact h3 a i z) h1
  refine ⟨⟨hA, by omega, by rw [h5]; omega, by rw [h7, h3 3 _ (by omega)], by rw [h8, h3 4 _ (by omega)], by rw [h9, h3 5 _ (by omega)]⟩, ?_⟩
  rw [h9, a9]
  rcases h6 with ⟨k1, k2⟩ | ⟨k1, k2⟩
  · rw [k1, show ((M.2.1 1 6).toInt + 1).toNat = (M.2.1 1 6).toInt.toNat + 1 by omega]
    exact (h1.2.2.1 (M.2.1 1 6).toInt.toNat (by omega)).2.2.2 (by omega)
  · have e : (M.2.1 1 6).toInt.toNat = ((M.2.1 1 5).toInt - 1).toNat := by omega
    have hn : 0 ≤ nn := by
      have q := h1.2.2.1 (M.2.1 1 6).toInt.toNat (by omega)
      have := q.2.1
      have := q.2.2.1
      omega
    rw [k1, e, h1.2.2.2.2, x_ns_n hn]
theorem CS_b (H : TA M t nn) (h5 : M1.2.1 1 5 = M.2.1 1 5) (h3 : ∀ a i, 3 ≤ a ∧ a ≤ 5 → M1.2.1 a i = M.2.1 a i) (h6 : (M1.2.1 1 6).toInt = 0) (h7 : (M1.2.1 1 7).toInt = (M.2.1 3 (M1.2.1 1 6).toInt.toNat).toInt) (h8 : (M1.2.1 1 8).toInt = (M.2.1 4 (M1.2.1 1 6).toInt.toNat).toInt) (h9 : (M1.2.1 1 9).toInt = (M.2.1 5 (M1.2.1 1 6).toInt.toNat).toInt) : CS M1 t nn ∧ (M1.2.1 1 9).toInt = x_sk t nn 0 := by
  have hA : TA M1 t nn := TA_f (fun a i z => by
    rcases z with ⟨rfl, rfl⟩ | z
    · exact h5
    · exact h3 a i z) H
  have h1 := H.1
  refine ⟨⟨hA, by omega, by rw [h5]; omega, by rw [h7, h3 3 _ (by omega)], by rw [h8, h3 4 _ (by omega)], by rw [h9, h3 5 _ (by omega)]⟩, ?_⟩
  rw [h9, h6]
  exact H.2.2.2.1
end E83
theorem E79_a {M M1 : mm_M} {t : Nat → Int} {nn x : Int} {k v w : Int32} (ad : AD M M1 k.toInt v.toInt w.toInt) (hw : w.toInt = x) (hv : v.toInt = 0) (hc : x_C (x_kind t nn x) (x_val t nn x) k.toInt 0) : ∃ tok val : Int, AD M M1 tok val x ∧ x_C (x_kind t nn x) (x_val t nn x) tok val := ⟨k.toInt, 0, hw ▸ hv ▸ ad, hc⟩
section SL
variable {X : mm_X} {d mi pc : Nat} {ls st : List Value} {M : mm_M} {Q : Option Value → mm_M → Prop} {len a b : Nat} {ps : List Nat} {x y : Int64}
theorem lg_0 : lg_cmp x y = 0 ↔ x = y := by
  unfold lg_cmp
  by_cases h : x = y
  · subst h
    constructor
    · intro _; rfl
    · intro _; simp
  · constructor
    · intro z; revert z; simp; split <;> simp_all
    · intro z; exact absurd z h
theorem s_lcmpE (hc : mm_code mi pc = some (.lcmp, len, a, b, ps)) (h : ∀ v : Int32, (v.toInt = 0 ↔ x_eq x y = 1) → mm_T X d mi (pc + len) ls (.int v :: st) M Q) : mm_T X d mi pc ls (.long y :: .long x :: st) M Q := to_lc hc rfl (h _ (by
  rw [x_eq_1, ← lg_0, ← Int32.toInt_inj]
  rfl))
end SL
section FI
variable {g : Nat → Int} {v n x3 y E : Int}
theorem x_fi_e (h0 : 0 ≤ x3) (h1 : x3 < n) (h : g x3.toNat ≠ v) (hy : y = x3 + 1) (H : x_find g v (n - x3).toNat x3.toNat = E) : x_find g v (n - y).toNat y.toNat = E := by
  rw [← H, show (n - x3).toNat = (n - y).toNat + 1 by omega, x_find_go h, show y.toNat = x3.toNat + 1 by omega]
theorem x_fi_n (h1 : n ≤ x3) (H : x_find g v (n - x3).toNat x3.toNat = E) : E = -1 := by
  rw [← H, show (n - x3).toNat = 0 by omega]
  rfl
theorem x_fi_y (h0 : 0 ≤ x3) (h1 : x3 < n) (h : g x3.toNat = v) (H : x_find g v (n - x3).toNat x3.toNat = E) : E = x3 := by
  rw [← H, show (n - x3).toNat = (n - x3 - 1).toNat + 1 by omega, x_find_at h]
  omega
end FI
/-! the reference's tokens -/
noncomputable def TR (M : mm_M) (t : Nat → Int) (nn : Int) : Prop := ∀ k : Nat, (k : Int) < nn → (M.2.1 78 k).toInt = t k
theorem TR_f {M M1 : mm_M} {t : Nat → Int} {nn : Int} (h : ∀ a i, a = 78 → M1.2.1 a i = M.2.1 a i) (H : TR M t nn) : TR M1 t nn := fun k hk => by rw [h 78 k rfl]; exact H k hk
theorem TR_u {M : mm_M} {t : Nat → Int} {nn A B : Int} {v : Int32} (H : TR M t nn) (h0 : 0 ≤ A) (h1 : A < nn) (hv : M.2.1 78 A.toNat = v) (hB : A = B) : v.toInt = t B.toNat := by
  rw [← hB, ← hv]
  exact H A.toNat (by omega)
noncomputable def W9 (M : mm_M) : Prop := ∀ i : Nat, i < 70 → (M.2.1 79 i).toInt = x_w i
theorem W9_f {M M1 : mm_M} (h : ∀ a i, a = 79 → M1.2.1 a i = M.2.1 a i) (H : W9 M) : W9 M1 := fun k hk => by rw [h 79 k rfl]; exact H k hk
theorem W9_u {M : mm_M} {A B : Int} {v : Int32} (H : W9 M) (h0 : 0 ≤ A) (h1 : A < 70) (hv : M.2.1 79 A.toNat = v) (hB : A = B) : v.toInt = x_w B.toNat := by
  rw [← hB, ← hv]
  exact H A.toNat (by omega)
theorem x_off_u {k : Int} (h0 : 0 ≤ k) (h1 : k ≤ 14) : x_off (k + 1) = x_off k + x_len k + 1 ∧ 2 ≤ x_len k ∧ x_len k ≤ 5 ∧ 0 ≤ x_off k ∧ x_off k + x_len k ≤ 69 := by
  have q := x_off_s ⟨k.toNat, by omega⟩
  have e : ((k.toNat : Nat) : Int) = k := by omega
  simp only [e] at q
  exact ⟨q.1, q.2.1, q.2.2.1, q.2.2.2.1, q.2.2.2.2.1⟩
theorem x_off_w {k n : Int} {v : Int32} (h0 : 0 ≤ k) (h1 : k ≤ 14) (hn : 0 ≤ n) (hv : v.toInt = x_w (x_off k + n).toNat) : (n = x_len k → v.toInt = 32) ∧ (n < x_len k → v.toInt ≠ 32) := by
  have q := x_off_s ⟨k.toNat, by omega⟩
  have e : ((k.toNat : Nat) : Int) = k := by omega
  simp only [e] at q
  refine ⟨fun h => ?_, fun h => ?_⟩
  · rw [hv, h]
    exact q.2.2.2.2.2.1
  · rw [hv]
    have h5 := q.2.2.1
    have := q.2.2.2.2.2.2 ⟨n.toNat, by omega⟩
    have e2 : ((n.toNat : Nat) : Int) = n := by omega
    simp only [e2] at this
    exact this h
theorem x_off_15 {k : Int} : k = 15 → x_off k = 70 := fun h => by rw [h]; rfl
section X153
variable {t : Nat → Int} {a b k i : Int}
theorem x_sa_0 {s : Int} (h : s = (1 : Int) → x_len k = b - a) : s = 1 → x_len k = b - a ∧ ∀ j : Nat, (j : Int) < 0 → x_w (x_off k + j).toNat = t (a + j).toNat := fun z => ⟨h z, fun j hj => by exfalso; omega⟩
theorem x_sb_0 {s : Int} (h : s = 0 → x_len k ≠ b - a) : s = 0 → ¬ x_m t a b k := fun z m => h z m.1
theorem x_sa_s {s s2 y : Int} (h : s = 1 → x_len k = b - a ∧ ∀ j : Nat, (j : Int) < i → x_w (x_off k + j).toNat = t (a + j).toNat) (hs : s = 1) (h2 : s2 = 1 → x_w (x_off k + i).toNat = t (a + i).toNat) (hi : 0 ≤ i) (hy : y = i + 1) : s2 = 1 → x_len k = b - a ∧ ∀ j : Nat, (j : Int) < y → x_w (x_off k + j).toNat = t (a + j).toNat := fun z => ⟨(h hs).1, fun j hj => by
  by_cases g : (j : Int) < i
  · exact (h hs).2 j g
  · have e : (j : Int) = i := by omega
    rw [e]
    exact h2 z⟩
theorem x_sb_s {s2 : Int} (h2 : s2 = 0 → x_w (x_off k + i).toNat ≠ t (a + i).toNat) (hi : 0 ≤ i) (hl : i < x_len k) : s2 = 0 → ¬ x_m t a b k := fun z m => by
  have q := m.2 i.toNat (by omega)
  have e : ((i.toNat : Nat) : Int) = i := by omega
  rw [e] at q
  exact h2 z q
theorem x_no_s {y : Int} (h : ∀ q : Int, 0 ≤ q → q < k → ¬ x_m t a b q) (h2 : ¬ x_m t a b k) (hy : y = k + 1) : ∀ q : Int, 0 ≤ q → q < y → ¬ x_m t a b q := fun q h0 h1 => by
  by_cases g : q < k
  · exact h q h0 g
  · have e : q = k := by omega
    rw [e]
    exact h2
end X153
section X157
variable {t : Nat → Int} {a b x4 y : Int}
theorem x_pr_e {x s5 w r : Int32} (h0 : 0 ≤ a) (hx : a ≤ x4) (h6 : x4 < a + 6) (hl : ∀ i : Nat, i < (b - a).toNat → 97 ≤ t (a.toNat + i) ∧ t (a.toNat + i) ≤ 122) (hp : x.toInt = x_pr t a.toNat (b - a).toNat (x4 - a).toNat) (hw : x4 < b ∧ w.toInt = t x4.toNat - 96 ∨ b ≤ x4 ∧ w.toInt = 0) (e5 : x <<< (5 : Int32) = s5) (er : s5 ||| w = r) (hy : y = x4 + 1) : r.toInt = x_pr t a.toNat (b - a).toNat (y - a).toNat := by
  have ej : (y - a).toNat = (x4 - a).toNat + 1 := by omega
  have e4 : a.toNat + (x4 - a).toNat = x4.toNat := by omega
  rw [ej, ← er, ← e5]
  refine x_pr_s hl hp (by omega) ?_
  rw [e4]
  rcases hw with ⟨h1, h2⟩ | ⟨h1, h2⟩
  · rw [if_pos (by omega), h2]
  · rw [if_neg (by omega), h2]
theorem x_pr_x {x : Int32} (hp : x.toInt = x_pr t a.toNat (b - a).toNat (x4 - a).toNat) (h : x4 = a + 6) (hm : b - a ≤ 6) : x.toInt = x_pk t a.toNat (b - a).toNat := by
  rw [hp, show (x4 - a).toNat = 6 by omega]
  exact x_pr_6 (by omega)
end X157
section XR
variable {t : Nat → Int} {n a : Int}
theorem x_R_0 {w : Int} (h : n ≤ a) : x_R (x_kind t n a) (x_val t n a) 0 w := Or.inl ⟨(x_t0 h).1, rfl⟩
theorem x_R_k {r : Int} (h0 : 0 ≤ a) (h : a < n) (hl : 97 ≤ t a.toNat ∧ t a.toNat ≤ 122) (hr0 : 0 ≤ r) (hr : r ≤ 14) (hm : x_m t a (x_e t n a) r) : x_R (x_kind t n a) (x_val t n a) 1 r := by
  have q := x_m_pk h0 hr0 hr hm
  have e : x_kx (x_lv t n a) = r := q.2
  rw [(x_tl h hl).1, if_neg (by omega), if_pos (by omega), (x_tl h hl).2.1]
  exact Or.inr (Or.inl ⟨rfl, rfl, e.symm, hr0⟩)
theorem x_R_5 {w : Int} (h : a < n) (hl : 97 ≤ t a.toNat ∧ t a.toNat ≤ 122) (h6 : 6 < x_e t n a - a) : x_R (x_kind t n a) (x_val t n a) 5 w := by
  rw [(x_tl h hl).1, if_pos h6]
  exact Or.inr (Or.inr (Or.inr (Or.inr (Or.inr ⟨rfl, rfl⟩))))
theorem x_e_l (h0 : 0 ≤ a) : ∀ j : Nat, (j : Int) < x_e t n a - a → 97 ≤ t (a.toNat + j) ∧ t (a.toNat + j) ≤ 122 := fun j hj => by
  have := x_in (P := x_lt) (t := t) (n := n) (x := a) (k := a.toNat + j) h0 (by omega) (by show _ < x_e t n a; omega)
  exact of_decide_eq_true this
theorem x_R_2 {v : Int} (h0 : 0 ≤ a) (h : a < n) (hl : 97 ≤ t a.toNat ∧ t a.toNat ≤ 122) (h6 : x_e t n a - a ≤ 6) (hm : ∀ k : Int, 0 ≤ k → k < 15 → ¬ x_m t a (x_e t n a) k) (hv : v = x_pk t a.toNat (x_e t n a - a).toNat) : x_R (x_kind t n a) (x_val t n a) 2 v := by
  have hb := x_nx_b (t := t) (n := n) (a := a) h0 (Int.le_of_lt h)
  rw [(x_tl h hl).2.2] at hb
  have hk : ¬ 0 ≤ x_kx (x_lv t n a) := fun z => by
    have b := x_kx_b (v := x_lv t n a)
    exact hm _ z (by omega) (x_pk_m h0 (hb.2.2 h) h6 (x_e_l h0) z)
  rw [(x_tl h hl).1, if_neg (by omega), if_neg hk, (x_tl h hl).2.1]
  exact Or.inr (Or.inr (Or.inl ⟨rfl, rfl, hv⟩))
theorem x_R_d {w : Int} (h : a < n) (hd : 48 ≤ t a.toNat ∧ t a.toNat ≤ 57) (h0 : 0 ≤ w) (hw : (w ≤ 99 ∧ w = x_num t n a 0) ∨ (100 ≤ w ∧ x_num t n a 0 = 100)) : x_R (x_kind t n a) (x_val t n a) 3 w := by
  rw [(x_td h hd).1, (x_td h hd).2.1]
  refine Or.inr (Or.inr (Or.inr (Or.inl ⟨rfl, rfl, ?_, h0⟩)))
  omega
theorem x_R_s {v : Int} (h : a < n) (hv : v = t a.toNat) (h1 : v = 59 ∨ v = 40 ∨ v = 41 ∨ v = 61) : x_R (x_kind t n a) (x_val t n a) 4 v := by
  have q := x_ts (t := t) h (by omega) (by omega)
  rw [q.1, q.2.1, if_pos (by omega), ← hv]
  exact Or.inr (Or.inr (Or.inr (Or.inr (Or.inl ⟨rfl, rfl, rfl, h1⟩))))
theorem x_R_b {w : Int} (h : a < n) (h1 : ¬ (97 ≤ t a.toNat ∧ t a.toNat ≤ 122)) (h2 : ¬ (48 ≤ t a.toNat ∧ t a.toNat ≤ 57)) (h3 : ¬ (t a.toNat = 59 ∨ t a.toNat = 40 ∨ t a.toNat = 41 ∨ t a.toNat = 61)) : x_R (x_kind t n a) (x_val t n a) 5 w := by
  have q := x_ts (t := t) h h1 h2
  rw [q.1, if_neg h3]
  exact Or.inr (Or.inr (Or.inr (Or.inr (Or.inr ⟨rfl, rfl⟩))))
end XR
/-- the reference stands at a token -/
noncomputable def RS (M : mm_M) (t : Nat → Int) (nn : Int) : Prop := (M.2.1 77 6).toInt = nn ∧ 0 ≤ (M.2.1 77 10).toInt ∧ (M.2.1 77 10).toInt ≤ nn ∧ (M.2.1 77 7).toInt = x_nx t nn (M.2.1 77 10).toInt ∧ x_R (x_kind t nn (M.2.1 77 10).toInt) (x_val t nn (M.2.1 77 10).toInt) (M.2.1 77 8).toInt (M.2.1 77 9).toInt
theorem RS_f {M M1 : mm_M} {t : Nat → Int} {nn : Int} (h : ∀ a i, (a = 77 ∧ 6 ≤ i ∧ i ≤ 10) → M1.2.1 a i = M.2.1 a i) (H : RS M t nn) : RS M1 t nn := by
  unfold RS at H ⊢
  rw [h 77 6 (by decide), h 77 7 (by decide), h 77 8 (by decide), h 77 9 (by decide), h 77 10 (by decide)]
  exact H
theorem RS_m {M : mm_M} {t : Nat → Int} {nn p a kd wh : Int} (h6 : (M.2.1 77 6).toInt = nn) (ha : (M.2.1 77 10).toInt = a) (hs : a = x_sk t nn p) (h0 : 0 ≤ a) (h1 : a ≤ nn) (h7 : (M.2.1 77 7).toInt = x_nx t nn a) (h8 : (M.2.1 77 8).toInt = kd) (h9 : (M.2.1 77 9).toInt = wh) (hR : x_R (x_kind t nn a) (x_val t nn a) kd wh) : RS M t nn ∧ (M.2.1 77 10).toInt = x_sk t nn p := by
  refine ⟨⟨h6, by omega, by omega, by rw [ha]; exact h7, by rw [ha, h8, h9]; exact hR⟩, by rw [ha]; exact hs⟩
theorem x_sk_e {t : Nat → Int} {nn x y E : Int} (h0 : 0 ≤ x) (h1 : x < nn) (h : t x.toNat = 10 ∨ t x.toNat = 32) (hy : y = x + 1) (g : x_sk t nn x = E) : x_sk t nn y = E := by
  rw [hy, ← g]
  exact (x_go h0 h1 (x_bl_t h)).symm
theorem x_sk_x {t : Nat → Int} {nn x E : Int} (h0 : 0 ≤ x) (h : nn ≤ x ∨ ¬ (t x.toNat = 10 ∨ t x.toNat = 32)) (g : x_sk t nn x = E) : x = E := by
  rw [← g]
  exact (x_no h0 (h.imp id x_bl_f)).symm
/-- the number as the reference counts it -/
noncomputable def x_mn (w : Int) : Int := if w ≤ 99 then w else 100
theorem x_mn_e {t : Nat → Int} {nn x y w w2 E : Int} (h0 : 0 ≤ x) (h1 : x < nn) (h : 48 ≤ t x.toNat ∧ t x.toNat ≤ 57) (hy : y = x + 1) (hw0 : 0 ≤ w) (hw : (99 < w ∧ w2 = w) ∨ (w ≤ 99 ∧ w2 = 10 * w + t x.toNat - 48)) (g : x_num t nn x (x_mn w) = E) : x_num t nn y (x_mn w2) = E := by
  rw [hy, ← g]
  refine (x_num_go h0 h1 h ?_).symm
  unfold x_mn
  rcases hw with ⟨a1, a2⟩ | ⟨a1, a2⟩
  · rw [if_neg (show ¬ w2 ≤ 99 by omega), if_neg (show ¬ w ≤ 99 by omega), if_neg (by omega)]
  · rw [if_pos a1]
    by_cases g2 : w2 ≤ 99
    · rw [if_pos g2, if_pos (by omega)]; omega
    · rw [if_neg g2]
      by_cases g3 : w * 10 + t x.toNat - 48 ≤ 100
      · rw [if_pos g3]; omega
      · rw [if_neg g3]
theorem x_mn_x {t : Nat → Int} {nn x w E : Int} (h0 : 0 ≤ x) (h : nn ≤ x ∨ ¬ (48 ≤ t x.toNat ∧ t x.toNat ≤ 57)) (g : x_num t nn x (x_mn w) = E) : (w ≤ 99 ∧ w = E) ∨ (100 ≤ w ∧ E = 100) := by
  rw [x_num_no h0 h] at g
  unfold x_mn at g
  by_cases g2 : w ≤ 99
  · rw [if_pos g2] at g; exact Or.inl ⟨g2, g⟩
  · rw [if_neg g2] at g; exact Or.inr ⟨by omega, g.symm⟩
theorem x_lt_e2 {t : Nat → Int} {f f2 x4 y : Int} (h0 : 0 ≤ f) (hx : f ≤ x4) (hl : ∀ i : Nat, i < (x4 - f).toNat → 97 ≤ t (f.toNat + i) ∧ t (f.toNat + i) ≤ 122) (h : 97 ≤ t x4.toNat ∧ t x4.toNat ≤ 122) (hy : y = x4 + 1) (hf : f2 = f) : ∀ i : Nat, i < (y - f2).toNat → 97 ≤ t (f2.toNat + i) ∧ t (f2.toNat + i) ≤ 122 := by
  subst hf
  exact x_lt_e h0 hx hl h hy
/-! the class's plan -/
theorem x_find_c {g g2 : Nat → Int} {v : Int} : ∀ n k, (∀ i, k ≤ i → i < k + n → g i = g2 i) → x_find g v n k = x_find g2 v n k
  | 0, _, _ => rfl
  | n + 1, k, h => by rw [x_find, x_find, h k (Nat.le_refl _) (by omega), x_find_c n (k + 1) (fun i h1 h2 => h i (by omega) (by omega))]
noncomputable def PLc (M : mm_M) (p : Nat) (s : x_S) : Prop := x_G s ∧ (M.2.1 p 0).toInt = s.1 ∧ (M.2.1 p 2).toInt = s.2.1 ∧ (M.2.1 p 3).toInt = s.2.2.1 ∧ M.2.2.1 p 4 = s.2.2.2.1 ∧ (∀ r k : Nat, 1 ≤ r → r ≤ 5 → (k : Int) < s.2.1 → (M.2.1 (p + r) k).toInt = s.2.2.2.2 r k) ∧ (∀ r k : Nat, 6 ≤ r → r ≤ 7 → (k : Int) < s.2.2.1 → (M.2.1 (p + r) k).toInt = s.2.2.2.2 r k)
theorem PLc_f {M M1 : mm_M} {p : Nat} {s : x_S} (h : ∀ a i : Nat, (a = p ∧ (i = 0 ∨ i = 2 ∨ i = 3) ∨ p + 1 ≤ a ∧ a ≤ p + 5 ∧ (i : Int) < s.2.1 ∨ p + 6 ≤ a ∧ a ≤ p + 7 ∧ (i : Int) < s.2.2.1) → M1.2.1 a i = M.2.1 a i) (hl : M1.2.2.1 p 4 = M.2.2.1 p 4) (H : PLc M p s) : PLc M1 p s := by
  obtain ⟨h0, h1, h2, h3, h4, h5, h6⟩ := H
  exact ⟨h0, by rw [h p 0 (by omega)]; exact h1, by rw [h p 2 (by omega)]; exact h2, by rw [h p 3 (by omega)]; exact h3, by rw [hl]; exact h4, fun r k a b c => by rw [h (p + r) k (by omega)]; exact h5 r k a b c, fun r k a b c => by rw [h (p + r) k (by omega)]; exact h6 r k a b c⟩
theorem PLc_n {M : mm_M} {p : Nat} {s : x_S} {v : Int} {n : Int} (H : PLc M p s) (hn : n = s.2.1) : x_find (fun k => (M.2.1 (p + 1) k).toInt) v n.toNat 0 = x_fn s 1 v := by
  unfold x_fn
  rw [if_pos (by decide), hn]
  exact x_find_c _ 0 (fun i h1 h2 => H.2.2.2.2.2.1 1 i (by decide) (by decide) (by omega))
theorem PLc_w {M : mm_M} {p : Nat} {s : x_S} {v : Int} {n : Int} (H : PLc M p s) (hn : n = s.2.2.1) : x_find (fun k => (M.2.1 (p + 6) k).toInt) v n.toNat 0 = x_fn s 6 v := by
  unfold x_fn
  rw [if_neg (by decide), hn]
  exact x_find_c _ 0 (fun i h1 h2 => H.2.2.2.2.2.2 6 i (by decide) (by decide) (by omega))
theorem CS_u {M : mm_M} {t : Nat → Int} {nn a : Int} (H : CS M t nn) (e : (M.2.1 1 9).toInt = a) : x_C (x_kind t nn a) (x_val t nn a) (M.2.1 1 7).toInt (M.2.1 1 8).toInt ∧ 0 ≤ a ∧ a ≤ nn := e ▸ CS_c H
theorem x_kx_w (v : Int) : (x_kx v = 0 ↔ v = 284563040) ∧ (x_kx v = 1 ↔ v = 210940032) ∧ (x_kx v = 2 ↔ v = 788074496) := by
  refine ⟨⟨fun h => ?_, fun h => by rw [h]; rfl⟩, ⟨fun h => ?_, fun h => by rw [h]; rfl⟩, ⟨fun h => ?_, fun h => by rw [h]; rfl⟩⟩
  · rcases x_kx_c h (by decide) with z | z | z | z | z | z | z | z | z | z | z | z | z | z | z <;> omega
  · rcases x_kx_c h (by decide) with z | z | z | z | z | z | z | z | z | z | z | z | z | z | z <;> omega
  · rcases x_kx_c h (by decide) with z | z | z | z | z | z | z | z | z | z | z | z | z | z | z <;> omega
theorem x_kx_s (v : Int) : (x_kx v = 3 ↔ v = 518160384) ∧ (x_kx v = 4 ↔ v = 659999744) ∧ (x_kx v = 5 ↔ v = 538233440) ∧ (x_kx v = 6 ↔ v = 404000768) := by
  refine ⟨⟨fun h => ?_, fun h => by rw [h]; rfl⟩, ⟨fun h => ?_, fun h => by rw [h]; rfl⟩, ⟨fun h => ?_, fun h => by rw [h]; rfl⟩, ⟨fun h => ?_, fun h => by rw [h]; rfl⟩⟩
  · rcases x_kx_c h (by decide) with z | z | z | z | z | z | z | z | z | z | z | z | z | z | z <;> omega
  · rcases x_kx_c h (by decide) with z | z | z | z | z | z | z | z | z | z | z | z | z | z | z <;> omega
  · rcases x_kx_c h (by decide) with z | z | z | z | z | z | z | z | z | z | z | z | z | z | z <;> omega
  · rcases x_kx_c h (by decide) with z | z | z | z | z | z | z | z | z | z | z | z | z | z | z <;> omega
theorem x_free_e {M : mm_M} {p : Nat} {s : x_S} {v f l : Int32} (H : PLc M p s) (hv : v.toInt = l.toInt - f.toInt + 1) : x_eq (M.2.2.1 p 4 &&& (((1 : Int64) <<< (v.toInt64 &&& 63)) - 1) <<< (f.toInt64 &&& 63)) 0 = x_free s f.toInt l.toInt := by
  rw [H.2.2.2.2.1, x_sh_e hv, x_sh_e (rfl : f.toInt = f.toInt)]
  rfl
theorem x_fn_v {s : x_S} {r : Nat} {v w : Int} : v = w → x_fn s r v = x_fn s r w := fun h => by rw [h]
theorem x_or_e {M : mm_M} {p : Nat} {s : x_S} {v f : Int32} {f2 l2 : Int} (H : PLc M p s) (hv : v.toInt = l2 - f2 + 1) (hf : f.toInt = f2) : M.2.2.1 p 4 ||| (((1 : Int64) <<< (v.toInt64 &&& 63)) - 1) <<< (f.toInt64 &&& 63) = s.2.2.2.1 ||| x_bw f2 l2 := by
  rw [H.2.2.2.2.1, x_sh_e hv, x_sh_e hf]
  rfl
theorem PLc_p {M M1 M2 : mm_M} {p : Nat} {s : x_S} {v : Int32} {X : Int64} {nm kd f l c : Int} (H : PLc M p s) (WL : M1 = mm_setL M p 4 X) (W : M2 = mm_setI M1 p 2 v) (hX : X = s.2.2.2.1 ||| x_bw f l) (hv : v.toInt = s.2.1 + 1) (hF : s.2.1 ≤ 7) (r1 : (M.2.1 (p + 1) s.2.1.toNat).toInt = nm) (r2 : (M.2.1 (p + 2) s.2.1.toNat).toInt = kd) (r3 : (M.2.1 (p + 3) s.2.1.toNat).toInt = f) (r4 : (M.2.1 (p + 4) s.2.1.toNat).toInt = l) (r5 : (M.2.1 (p + 5) s.2.1.toNat).toInt = c) (h1 : 0 ≤ kd ∧ kd ≤ 3) (h2 : 0 ≤ f ∧ f ≤ l ∧ l ≤ 59 ∧ l - f ≤ 23) (h3 : 1 ≤ c ∧ c ≤ 24) (h4 : kd = 3 → c ≤ 4) : PLc M2 p (x_push s nm kd f l c) := by
  obtain ⟨a0, a1, a2, a3, a4, a5, a6⟩ := H
  have nf : ∀ a i : Nat, ¬ (a = p ∧ i = 2) → M2.2.1 a i = M.2.1 a i := fun a i h => W_n W h (W_l WL rfl)
  refine ⟨x_G_p a0 hF h1 h2 h3 h4, by rw [nf p 0 (by omega)]; exact a1, by rw [W_e W]; exact hv, by rw [nf p 3 (by omega)]; exact a3, ?_, fun r k g1 g2 g3 => ?_, fun r k g1 g2 g3 => ?_⟩
  · rw [W_j W (L_e WL), hX]
    rfl
  · rw [nf (p + r) k (by omega)]
    have g3 : (k : Int) < s.2.1 + 1 := g3
    show _ = if r ≤ 5 ∧ (k : Int) = s.2.1 then (if r = 1 then nm else if r = 2 then kd else if r = 3 then f else if r = 4 then l else c) else s.2.2.2.2 r k
    by_cases g : (k : Int) = s.2.1
    · have ek : k = s.2.1.toNat := by omega
      rw [if_pos ⟨g2, g⟩, ek]
      rcases (show r = 1 ∨ r = 2 ∨ r = 3 ∨ r = 4 ∨ r = 5 by omega) with rfl | rfl | rfl | rfl | rfl
      · exact r1
      · exact r2
      · exact r3
      · exact r4
      · exact r5
    · rw [if_neg (fun z => g z.2)]
      exact a5 r k g1 g2 (by omega)
  · rw [nf (p + r) k (by omega)]
    show _ = if r ≤ 5 ∧ (k : Int) = s.2.1 then _ else s.2.2.2.2 r k
    rw [if_neg (fun z => by omega)]
    exact a6 r k g1 g2 g3
theorem x_val_b {t : Nat → Int} {nn a : Int} : x_kind t nn a = 3 → 0 ≤ x_val t nn a ∧ x_val t nn a ≤ 100 := by
  intro h
  by_cases g : nn ≤ a
  · exact absurd h (by rw [(x_t0 g).1]; decide)
  · by_cases g2 : 97 ≤ t a.toNat ∧ t a.toNat ≤ 122
    · exfalso
      have q := (x_tl (t := t) (n := nn) (a := a) (by omega) g2).1
      rw [q] at h
      revert h
      split
      · omega
      · split <;> omega
    · by_cases g3 : 48 ≤ t a.toNat ∧ t a.toNat ≤ 57
      · rw [(x_td (t := t) (n := nn) (a := a) (by omega) g3).2.1]
        exact x_num_b (by decide) (by decide)
      · exfalso
        have q := (x_ts (t := t) (n := nn) (a := a) (by omega) g2 g3).1
        rw [q] at h
        revert h
        split <;> omega
end
section
section XRC
variable {t : Nat → Int} {nn : Int} {s : x_S} {f nm b told : Int} {k : x_K} {fu : Nat} {bits : Int64}
theorem x_rc_n1 (h : x_kind t nn b = 3) (h2 : ¬ (told < x_row s 5 f ∧ x_val t nn b ≤ x_row s 4 f - x_row s 3 f ∧ x_hit bits (x_row s 3 f + x_val t nn b) = 1)) : x_rc t nn s f nm k fu told bits b = none := by
  cases fu with
  | zero => rfl
  | succ n => rw [x_rc, if_pos h, if_neg h2]
theorem x_rc_n2 (h : ¬ x_kind t nn b = 3) (h2 : ¬ told = x_row s 5 f) : x_rc t nn s f nm k fu told bits b = none := by
  cases fu with
  | zero => rfl
  | succ n => rw [x_rc, if_neg h, if_neg h2]
theorem x_rc_y (hf : 0 < fu) (h : ¬ x_kind t nn b = 3) (h2 : told = x_row s 5 f) : x_rc t nn s f nm k fu told bits b = k b (x_pushw s nm f bits.toInt) := by
  cases fu with
  | zero => omega
  | succ n => rw [x_rc, if_neg h, if_pos h2]
theorem x_rc_s {fu2 : Nat} {told2 b2 : Int} {bits2 : Int64} {E : x_Res} (hf : fu = fu2 + 1) (h : x_kind t nn b = 3) (h2 : told < x_row s 5 f ∧ x_val t nn b ≤ x_row s 4 f - x_row s 3 f ∧ x_hit bits (x_row s 3 f + x_val t nn b) = 1) (ht : told2 = told + 1) (hb : b2 = x_ns t nn b) (hbits : bits2 = bits ||| x_bit (x_row s 3 f + x_val t nn b)) (H : x_rc t nn s f nm k fu told bits b = E) : x_rc t nn s f nm k fu2 told2 bits2 b2 = E := by
  rw [ht, hb, hbits, ← H, hf, x_rc, if_pos h, if_pos h2]
end XRC
theorem x_hit_e {v : Int32} {h : Int} {bits : Int64} : v.toInt = h → x_eq (bits &&& ((1 : Int64) <<< (v.toInt64 &&& 63))) 0 = x_hit bits h := fun e => by
  rw [x_sh_e e]
  rfl
theorem x_bit_e {v : Int32} {h : Int} (e : v.toInt = h) : (1 : Int64) <<< (v.toInt64 &&& 63) = x_bit h := by
  rw [x_sh_e e]
  rfl
section XW
variable {t : Nat → Int} {nn a : Int} {s : x_S} {k : x_K}
theorem x_word_n (h : ¬ (s.2.2.1 < 12 ∧ x_kind t nn a = 2 ∧ 0 ≤ x_fn s 1 (x_val t nn a) ∧ x_row s 2 (x_fn s 1 (x_val t nn a)) = 3 ∧ x_kind t nn (x_ns t nn a) = 2 ∧ x_fn s 1 (x_val t nn (x_ns t nn a)) = -1 ∧ x_fn s 6 (x_val t nn (x_ns t nn a)) = -1)) : x_word t nn s a k = none := by
  unfold x_word
  split
  · unfold x_wn
    split
    · exfalso; omega
    · rfl
  · rfl
theorem x_word_y {f : Int} (h : s.2.2.1 < 12 ∧ x_kind t nn a = 2 ∧ 0 ≤ x_fn s 1 (x_val t nn a) ∧ x_row s 2 (x_fn s 1 (x_val t nn a)) = 3 ∧ x_kind t nn (x_ns t nn a) = 2 ∧ x_fn s 1 (x_val t nn (x_ns t nn a)) = -1 ∧ x_fn s 6 (x_val t nn (x_ns t nn a)) = -1) (hf : f = x_fn s 1 (x_val t nn a)) : x_word t nn s a k = x_rc t nn s f (x_val t nn (x_ns t nn a)) k 6 0 0 (x_ns t nn (x_ns t nn a)) := by
  unfold x_word
  rw [if_pos ⟨h.1, h.2.1, h.2.2.1, h.2.2.2.1⟩]
  unfold x_wn
  rw [if_pos h.2.2.2.2, hf]
theorem x_row_v {r : Nat} {x y : Int} : x = y → x_row s r x = x_row s r y := fun h => by rw [h]
variable {L : Int}
theorem x_line_n (h : ¬ (x_kind t nn a = 1 ∧ 0 ≤ x_kx (x_val t nn a) ∧ x_kx (x_val t nn a) ≤ 2)) : x_line t nn L s a k = none := by
  unfold x_line
  rw [if_neg (by omega), if_neg (by omega), if_neg (by omega)]
theorem x_line_t (h : ¬ (x_kx (x_val t nn a) = 0 ↔ L = 0)) (hL : 0 ≤ L) : x_line t nn L s a k = none := by
  unfold x_line
  rw [if_neg (by omega)]
  by_cases g : L = 0
  · rw [if_neg (by omega), if_neg (by omega)]
  · rw [if_neg (by omega), if_neg (by omega)]
theorem x_line_h (h : x_kind t nn a = 1) (h1 : x_kx (x_val t nn a) = 0) (h2 : L = 0) : x_line t nn L s a k = x_holes t nn s (x_ns t nn a) k := by
  unfold x_line
  rw [if_pos ⟨h, h1, h2⟩]
theorem x_line_f (h : x_kind t nn a = 1) (h1 : x_kx (x_val t nn a) = 1) (h2 : 0 < L) : x_line t nn L s a k = x_field t nn s (x_ns t nn a) k := by
  unfold x_line
  rw [if_neg (by omega), if_pos ⟨h, h1, h2⟩]
theorem x_line_w (h : x_kind t nn a = 1) (h1 : x_kx (x_val t nn a) = 2) (h2 : 0 < L) : x_line t nn L s a k = x_word t nn s (x_ns t nn a) k := by
  unfold x_line
  rw [if_neg (by omega), if_neg (by omega), if_pos ⟨h, h1, h2⟩]
theorem x_holes_n (h : ¬ (x_kind t nn a = 3 ∧ 10 ≤ x_val t nn a ∧ x_val t nn a ≤ 60)) : x_holes t nn s a k = none := by
  unfold x_holes
  rw [if_neg h]
theorem x_holes_y (h : x_kind t nn a = 3 ∧ 10 ≤ x_val t nn a ∧ x_val t nn a ≤ 60) : x_holes t nn s a k = k (x_ns t nn a) (x_val t nn a, s.2) := by
  unfold x_holes
  rw [if_pos h]
theorem x_plan_e {fu : Nat} (hf : 0 < fu) (h : x_kind t nn a = 0) : x_plan t nn fu L s a = some (L, s) := by
  cases fu with
  | zero => omega
  | succ n => rw [x_plan, if_pos h]
noncomputable def x_kk (t : Nat → Int) (nn : Int) (fu : Nat) (L : Int) : x_K := fun a2 s2 => if x_kind t nn a2 = 4 ∧ x_val t nn a2 = 59 then x_plan t nn fu (L + 1) s2 (x_ns t nn a2) else none
theorem x_plan_l {fu fu2 : Nat} (hf : fu = fu2 + 1) (h : ¬ x_kind t nn a = 0) : x_plan t nn fu L s a = x_line t nn L s a (x_kk t nn fu2 L) := by
  rw [hf, x_plan, if_neg h]
  rfl
theorem x_kk_n {fu : Nat} (h : ¬ (x_kind t nn a = 4 ∧ x_val t nn a = 59)) : x_kk t nn fu L a s = none := by
  unfold x_kk
  rw [if_neg h]
theorem x_kk_y {fu : Nat} (h : x_kind t nn a = 4 ∧ x_val t nn a = 59) : x_kk t nn fu L a s = x_plan t nn fu (L + 1) s (x_ns t nn a) := by
  unfold x_kk
  rw [if_pos h]
end XW
theorem x_G_h {s : x_S} {v : Int} (H : x_G s) (h : 10 ≤ v ∧ v ≤ 60) : x_G (v, s.2) := ⟨h.1, h.2, H.2.2⟩
theorem x_G_0 : x_G x_s0 := ⟨by decide, by decide, by decide, by decide, by decide, by decide, fun k h0 h1 => by have h1 : k < 0 := h1; omega, fun k h0 h1 => by have h1 : k < 0 := h1; omega⟩
theorem PLc_r {M : mm_M} {p : Nat} {s : x_S} {k : Int} {v : Int32} (H : PLc M p s) (r : Nat) (h1 : 1 ≤ r) (h2 : r ≤ 5) (h0 : 0 ≤ k) (hk : k < s.2.1) (hv : M.2.1 (p + r) k.toNat = v) : v.toInt = x_row s r k := by
  rw [← hv]
  exact H.2.2.2.2.2.1 r k.toNat h1 h2 (by omega)
theorem PLc_h {M M1 : mm_M} {p : Nat} {s : x_S} {v : Int32} {w : Int} (H : PLc M p s) (W : M1 = mm_setI M p 0 v) (hv : v.toInt = w) (h : 10 ≤ w ∧ w ≤ 60) : PLc M1 p (w, s.2) := by
  obtain ⟨a0, a1, a2, a3, a4, a5, a6⟩ := H
  have nf : ∀ a i : Nat, ¬ (a = p ∧ i = 0) → M1.2.1 a i = M.2.1 a i := fun a i h => W_n W h rfl
  exact ⟨x_G_h a0 h, by rw [W_e W]; exact hv, by rw [nf p 2 (by omega)]; exact a2, by rw [nf p 3 (by omega)]; exact a3, by rw [W_j W rfl]; exact a4, fun r k g1 g2 g3 => by rw [nf (p + r) k (by omega)]; exact a5 r k g1 g2 g3, fun r k g1 g2 g3 => by rw [nf (p + r) k (by omega)]; exact a6 r k g1 g2 g3⟩
theorem PLc_wp {M M1 : mm_M} {p : Nat} {s : x_S} {v : Int32} {nm f b : Int} (H : PLc M p s) (W : M1 = mm_setI M p 3 v) (hv : v.toInt = s.2.2.1 + 1) (hW : s.2.2.1 ≤ 11) (hf : 0 ≤ f ∧ f < s.2.1 ∧ x_row s 2 f = 3) (r6 : (M.2.1 (p + 6) s.2.2.1.toNat).toInt = nm) (r7 : (M.2.1 (p + 7) s.2.2.1.toNat).toInt = f) : PLc M1 p (x_pushw s nm f b) := by
  obtain ⟨a0, a1, a2, a3, a4, a5, a6⟩ := H
  have nf : ∀ a i : Nat, ¬ (a = p ∧ i = 3) → M1.2.1 a i = M.2.1 a i := fun a i h => W_n W h rfl
  refine ⟨x_G_w a0 hW hf, by rw [nf p 0 (by omega)]; exact a1, by rw [nf p 2 (by omega)]; exact a2, by rw [W_e W]; exact hv, by rw [W_j W rfl]; exact a4, fun r k g1 g2 g3 => ?_, fun r k g1 g2 g3 => ?_⟩
  · rw [nf (p + r) k (by omega)]
    show _ = if 6 ≤ r ∧ (k : Int) = s.2.2.1 then _ else s.2.2.2.2 r k
    rw [if_neg (fun z => by omega)]
    exact a5 r k g1 g2 g3
  · rw [nf (p + r) k (by omega)]
    have g3 : (k : Int) < s.2.2.1 + 1 := g3
    show _ = if 6 ≤ r ∧ (k : Int) = s.2.2.1 then (if r = 6 then nm else if r = 7 then f else b) else s.2.2.2.2 r k
    by_cases g : (k : Int) = s.2.2.1
    · have ek : k = s.2.2.1.toNat := by omega
      rw [if_pos ⟨g1, g⟩, ek]
      rcases (show r = 6 ∨ r = 7 by omega) with rfl | rfl
      · exact r6
      · exact r7
    · rw [if_neg (fun z => g z.2)]
      exact a6 r k g1 g2 (by omega)
theorem PLc_0 {M : mm_M} {p : Nat} (h0 : (M.2.1 p 0).toInt = 10) (h2 : (M.2.1 p 2).toInt = 0) (h3 : (M.2.1 p 3).toInt = 0) (h4 : M.2.2.1 p 4 = 0) : PLc M p x_s0 := ⟨x_G_0, h0, h2, h3, h4, fun r k _ _ g => by have g : (k : Int) < 0 := g; omega, fun r k _ _ g => by have g : (k : Int) < 0 := g; omega⟩
/-! the words' codes: longs -/
noncomputable def CW (M : mm_M) (p : Nat) (s : x_S) : Prop := ∀ k : Nat, (k : Int) < s.2.2.1 → (M.2.2.1 (p + 8) k).toInt = s.2.2.2.2 8 k
noncomputable def CWr (M : mm_M) (s : x_S) : Prop := ∀ k : Nat, (k : Int) < s.2.2.1 → (M.2.2.1 87 (12 + k)).toInt = s.2.2.2.2 8 k
noncomputable def CWk (M : mm_M) (s : x_S) : Prop := ∀ k : Nat, (k : Int) < s.2.2.1 → (M.2.2.1 87 k).toInt = s.2.2.2.2 8 k
theorem CW_f {M M1 : mm_M} {p : Nat} {s : x_S} (h : ∀ k : Nat, (k : Int) < s.2.2.1 → M1.2.2.1 (p + 8) k = M.2.2.1 (p + 8) k) (H : CW M p s) : CW M1 p s := fun k hk => by rw [h k hk]; exact H k hk
theorem CWr_f {M M1 : mm_M} {s : x_S} (h : ∀ k : Nat, (k : Int) < s.2.2.1 → M1.2.2.1 87 (12 + k) = M.2.2.1 87 (12 + k)) (H : CWr M s) : CWr M1 s := fun k hk => by rw [h k hk]; exact H k hk
theorem CWk_f {M M1 : mm_M} {s : x_S} (h : ∀ k : Nat, (k : Int) < s.2.2.1 → M1.2.2.1 87 k = M.2.2.1 87 k) (H : CWk M s) : CWk M1 s := fun k hk => by rw [h k hk]; exact H k hk
theorem CW_0 {M : mm_M} {p : Nat} : CW M p x_s0 := fun k hk => by have hk : (k : Int) < 0 := hk; omega
theorem CWr_0 {M : mm_M} : CWr M x_s0 := fun k hk => by have hk : (k : Int) < 0 := hk; omega
theorem CWk_0 {M : mm_M} : CWk M x_s0 := fun k hk => by have hk : (k : Int) < 0 := hk; omega
theorem CW_p {M : mm_M} {p : Nat} {s : x_S} {nm kd f l c : Int} (H : CW M p s) : CW M p (x_push s nm kd f l c) := fun k hk => by
  show _ = if (8 : Nat) ≤ 5 ∧ (k : Int) = s.2.1 then (if (8 : Nat) = 1 then nm else if (8 : Nat) = 2 then kd else if (8 : Nat) = 3 then f else if (8 : Nat) = 4 then l else c) else s.2.2.2.2 8 k
  rw [if_neg (fun z => by omega)]
  exact H k hk
theorem CWr_p {M : mm_M} {s : x_S} {nm kd f l c : Int} (H : CWr M s) : CWr M (x_push s nm kd f l c) := fun k hk => by
  show _ = if (8 : Nat) ≤ 5 ∧ (k : Int) = s.2.1 then (if (8 : Nat) = 1 then nm else if (8 : Nat) = 2 then kd else if (8 : Nat) = 3 then f else if (8 : Nat) = 4 then l else c) else s.2.2.2.2 8 k
  rw [if_neg (fun z => by omega)]
  exact H k hk
theorem CW_wp {M M1 : mm_M} {p : Nat} {s : x_S} {v : Int32} {nm f b : Int} (H : CW M p s) (W : M1 = mm_setI M p 3 v) (e : (M.2.2.1 (p + 8) s.2.2.1.toNat).toInt = b) : CW M1 p (x_pushw s nm f b) := fun k hk => by
  rw [W_j W rfl]
  have hk : (k : Int) < s.2.2.1 + 1 := hk
  show _ = if 6 ≤ (8 : Nat) ∧ (k : Int) = s.2.2.1 then (if (8 : Nat) = 6 then nm else if (8 : Nat) = 7 then f else b) else s.2.2.2.2 8 k
  by_cases g : (k : Int) = s.2.2.1
  · rw [if_pos ⟨by decide, g⟩, show k = s.2.2.1.toNat by omega]
    exact e
  · rw [if_neg (fun z => g z.2)]
    exact H k (by omega)
theorem CWr_wp {M M1 M2 M3 M4 : mm_M} {s : x_S} {X : Int64} {v1 v2 v : Int32} {j j2 i3 : Nat} {nm f b : Int} (H : CWr M s) (W1 : M1 = mm_setI M 85 j v1) (W2 : M2 = mm_setI M1 86 j2 v2) (W3 : M3 = mm_setL M2 87 i3 X) (W4 : M4 = mm_setI M3 77 16 v) (h3 : (i3 : Int) = 12 + s.2.2.1) (e : X.toInt = b) : CWr M4 (x_pushw s nm f b) := fun k hk => by
  have hk : (k : Int) < s.2.2.1 + 1 := hk
  show _ = if 6 ≤ (8 : Nat) ∧ (k : Int) = s.2.2.1 then (if (8 : Nat) = 6 then nm else if (8 : Nat) = 7 then f else b) else s.2.2.2.2 8 k
  by_cases g : (k : Int) = s.2.2.1
  · rw [if_pos ⟨by decide, g⟩, show 12 + k = i3 by omega, W_j W4 (L_e W3)]
    exact e
  · rw [if_neg (fun z => g z.2), W_j W4 (L_n W3 (by omega) (W_j W2 (W_j W1 rfl)))]
    exact H k (by omega)
noncomputable def PLc2 (M : mm_M) (p : Nat) (s : x_S) : Prop := PLc M p s ∧ CW M p s
/-! the plan's loop, on the class's side -/
noncomputable def LOK (t : Nat → Int) (nn : Int) (R : x_Res) (k : x_K) (M : mm_M) (p : Nat) (L : Int) (sg : x_S) : Prop := (∃ s2 : x_S, R = k (M.2.1 1 9).toInt s2 ∧ PLc2 M p s2 ∧ (L = 0 → s2.2.1 + s2.2.2.1 = sg.2.1 + sg.2.2.1) ∧ (0 < L → s2.2.1 + s2.2.2.1 = sg.2.1 + sg.2.2.1 + 1)) ∨ R = none ∧ ¬ (x_kind t nn (M.2.1 1 9).toInt = 4 ∧ x_val t nn (M.2.1 1 9).toInt = 59)
noncomputable def IVc (t : Nat → Int) (nn : Int) (R : x_Res) (M : mm_M) (p : Nat) (L : Int) (b : Int) : Prop := ∃ sg : x_S, PLc2 M p sg ∧ x_plan t nn (23 - L).toNat L sg b = R ∧ (L = 0 → sg.2.1 + sg.2.2.1 = 0) ∧ (0 < L → L = 1 + sg.2.1 + sg.2.2.1)
noncomputable def ROK (R : x_Res) (M : mm_M) (p : Nat) : Prop := ∃ s2 : x_S, R = some ((M.2.1 p 1).toInt, s2) ∧ PLc2 M p s2
theorem IVc_0 {t : Nat → Int} {nn a b L : Int} {M : mm_M} {p : Nat} (H : PLc2 M p x_s0) (hb : b = a) (hL : L = 0) : IVc t nn (x_plan t nn 23 0 x_s0 a) M p L b := by
  subst hb
  subst hL
  exact ⟨x_s0, H, rfl, fun _ => rfl, fun z => absurd z (by decide)⟩
theorem IVc_s {t : Nat → Int} {nn b b2 b3 L L2 : Int} {R : x_Res} {M M1 : mm_M} {p : Nat} {sg : x_S} (hL : 0 ≤ L) (hL2 : L ≤ 22) (h : x_plan t nn (23 - L).toNat L sg b = R) (hn : ¬ x_kind t nn b = 0) (c0 : L = 0 → sg.2.1 + sg.2.2.1 = 0) (c1 : 0 < L → L = 1 + sg.2.1 + sg.2.2.1) (H : LOK t nn (x_line t nn L sg b (x_kk t nn (22 - L).toNat L)) (x_kk t nn (22 - L).toNat L) M p L sg) (hb : (M.2.1 1 9).toInt = b2) (hs : x_kind t nn b2 = 4 ∧ x_val t nn b2 = 59) (hb3 : b3 = x_ns t nn b2) (h2 : L2 = L + 1) (tr : ∀ s, PLc2 M p s → PLc2 M1 p s) : IVc t nn R M1 p L2 b3 := by
  rcases H with ⟨s2, e1, j1, d0, d1⟩ | ⟨e1, e2⟩
  · refine ⟨s2, tr s2 j1, ?_, fun z => by exfalso; omega, fun _ => ?_⟩
    · rw [← h, x_plan_l (fu2 := (22 - L).toNat) (by omega) hn, e1, hb, x_kk_y hs, hb3, h2]
      congr 1
      omega
    · by_cases g : L = 0
      · have := d0 g; have := c0 g; omega
      · have := d1 (by omega); have := c1 (by omega); omega
  · rw [hb] at e2
    exact absurd hs e2
theorem IVc_n {t : Nat → Int} {nn b b2 L : Int} {R : x_Res} {M : mm_M} {p : Nat} {sg : x_S} (hL : 0 ≤ L) (hL2 : L ≤ 22) (h : x_plan t nn (23 - L).toNat L sg b = R) (hn : ¬ x_kind t nn b = 0) (H : LOK t nn (x_line t nn L sg b (x_kk t nn (22 - L).toNat L)) (x_kk t nn (22 - L).toNat L) M p L sg) (hb : (M.2.1 1 9).toInt = b2) (hs : ¬ (x_kind t nn b2 = 4 ∧ x_val t nn b2 = 59)) : R = none := by
  rw [← h, x_plan_l (fu2 := (22 - L).toNat) (by omega) hn]
  rcases H with ⟨s2, e1, j1, d0, d1⟩ | ⟨e1, e2⟩
  · rw [e1, hb, x_kk_n hs]
  · exact e1
theorem IVc_l {t : Nat → Int} {nn b L : Int} {R : x_Res} {sg : x_S} (hL : 0 ≤ L) (hL2 : L ≤ 22) (h : x_plan t nn (23 - L).toNat L sg b = R) (hn : ¬ x_kind t nn b = 0) (H : x_line t nn L sg b (x_kk t nn (22 - L).toNat L) = none) : R = none := by
  rw [← h, x_plan_l (fu2 := (22 - L).toNat) (by omega) hn]
  exact H
theorem IVc_e {t : Nat → Int} {nn b L : Int} {R : x_Res} {M1 : mm_M} {p : Nat} {sg : x_S} (hL2 : L ≤ 22) (h : x_plan t nn (23 - L).toNat L sg b = R) (hn : x_kind t nn b = 0) (H : PLc2 M1 p sg) (hl : (M1.2.1 p 1).toInt = L) : ROK R M1 p := ⟨sg, by rw [hl, ← h]; exact x_plan_e (by omega) hn, H⟩
/-! the reference's plan -/
theorem RS_u {M : mm_M} {t : Nat → Int} {nn a : Int} (H : RS M t nn) (e : (M.2.1 77 10).toInt = a) : x_R (x_kind t nn a) (x_val t nn a) (M.2.1 77 8).toInt (M.2.1 77 9).toInt := e ▸ H.2.2.2.2
theorem RS_b {M : mm_M} {t : Nat → Int} {nn a : Int} (H : RS M t nn) (e : (M.2.1 77 10).toInt = a) : (M.2.1 77 6).toInt = nn ∧ (M.2.1 77 7).toInt ≤ nn ∧ (M.2.1 77 7).toInt = x_nx t nn a ∧ 0 ≤ a ∧ a ≤ nn := by
  have b := x_nx_b (t := t) (n := nn) (a := a) (by rw [← e]; exact H.2.1) (by rw [← e]; exact H.2.2.1)
  have h := H.2.2.2.1
  rw [e] at h
  exact ⟨H.1, by omega, h, by rw [← e]; exact H.2.1, by rw [← e]; exact H.2.2.1⟩
theorem RS_s {M M1 : mm_M} {t : Nat → Int} {nn a : Int} (h : (M1.2.1 77 10).toInt = x_sk t nn (M.2.1 77 7).toInt) (e : (M.2.1 77 7).toInt = x_nx t nn a) : (M1.2.1 77 10).toInt = x_ns t nn a := by
  rw [h, e]
  rfl
noncomputable def PLr (M : mm_M) (s : x_S) : Prop := x_G s ∧ (M.2.1 77 14).toInt = s.1 ∧ (M.2.1 77 15).toInt = s.2.1 ∧ (M.2.1 77 16).toInt = s.2.2.1 ∧ M.2.2.1 77 25 = s.2.2.2.1 ∧ (∀ r k : Nat, 1 ≤ r → r ≤ 5 → (k : Int) < s.2.1 → (M.2.1 (79 + r) (8 + k)).toInt = s.2.2.2.2 r k) ∧ (∀ r k : Nat, 6 ≤ r → r ≤ 7 → (k : Int) < s.2.2.1 → (M.2.1 (79 + r) (12 + k)).toInt = s.2.2.2.2 r k)
theorem PLr_f {M M1 : mm_M} {s : x_S} (h : ∀ a i : Nat, (a = 77 ∧ 14 ≤ i ∧ i ≤ 16 ∨ 80 ≤ a ∧ a ≤ 84 ∧ 8 ≤ i ∧ (i : Int) < s.2.1 + 8 ∨ 85 ≤ a ∧ a ≤ 86 ∧ 12 ≤ i ∧ (i : Int) < s.2.2.1 + 12) → M1.2.1 a i = M.2.1 a i) (hl : M1.2.2.1 77 25 = M.2.2.1 77 25) (H : PLr M s) : PLr M1 s := by
  obtain ⟨h0, h1, h2, h3, h4, h5, h6⟩ := H
  exact ⟨h0, by rw [h 77 14 (by omega)]; exact h1, by rw [h 77 15 (by omega)]; exact h2, by rw [h 77 16 (by omega)]; exact h3, by rw [hl]; exact h4, fun r k a b c => by rw [h (79 + r) (8 + k) (by omega)]; exact h5 r k a b c, fun r k a b c => by rw [h (79 + r) (12 + k) (by omega)]; exact h6 r k a b c⟩
theorem PLr_r {M : mm_M} {s : x_S} {i k : Int} {v : Int32} (H : PLr M s) (r : Nat) (a : Nat) (ha : a = 79 + r) (h1 : 1 ≤ r) (h2 : r ≤ 5) (h0 : 0 ≤ k) (hk : k < s.2.1) (hi : i = 8 + k) (hv : M.2.1 a i.toNat = v) : v.toInt = x_row s r k := by
  rw [← hv, ha, show i.toNat = 8 + k.toNat by omega]
  exact H.2.2.2.2.2.1 r k.toNat h1 h2 (by omega)
theorem PLr_w {M : mm_M} {s : x_S} {i k : Int} {v : Int32} (H : PLr M s) (r : Nat) (a : Nat) (ha : a = 79 + r) (h1 : 6 ≤ r) (h2 : r ≤ 7) (h0 : 0 ≤ k) (hk : k < s.2.2.1) (hi : i = 12 + k) (hv : M.2.1 a i.toNat = v) : v.toInt = x_row s r k := by
  rw [← hv, ha, show i.toNat = 12 + k.toNat by omega]
  exact H.2.2.2.2.2.2 r k.toNat h1 h2 (by omega)
theorem x_fn_1 {s : x_S} {v : Int} : x_fn s 1 v = x_find (s.2.2.2.2 1) v s.2.1.toNat 0 := rfl
theorem x_fn_6 {s : x_S} {v : Int} : x_fn s 6 v = x_find (s.2.2.2.2 6) v s.2.2.1.toNat 0 := rfl
theorem PLr_0 {M : mm_M} (h0 : (M.2.1 77 14).toInt = 10) (h2 : (M.2.1 77 15).toInt = 0) (h3 : (M.2.1 77 16).toInt = 0) (h4 : M.2.2.1 77 25 = 0) : PLr M x_s0 := ⟨x_G_0, h0, h2, h3, h4, fun r k _ _ g => by have g : (k : Int) < 0 := g; omega, fun r k _ _ g => by have g : (k : Int) < 0 := g; omega⟩
theorem PLr_h {M M1 : mm_M} {s : x_S} {v : Int32} {w : Int} (H : PLr M s) (W : M1 = mm_setI M 77 14 v) (hv : v.toInt = w) (h : 10 ≤ w ∧ w ≤ 60) : PLr M1 (w, s.2) := by
  obtain ⟨a0, a1, a2, a3, a4, a5, a6⟩ := H
  have nf : ∀ a i : Nat, ¬ (a = 77 ∧ i = 14) → M1.2.1 a i = M.2.1 a i := fun a i h => W_n W h rfl
  exact ⟨x_G_h a0 h, by rw [W_e W]; exact hv, by rw [nf 77 15 (by omega)]; exact a2, by rw [nf 77 16 (by omega)]; exact a3, by rw [W_j W rfl]; exact a4, fun r k g1 g2 g3 => by rw [nf (79 + r) (8 + k) (by omega)]; exact a5 r k g1 g2 g3, fun r k g1 g2 g3 => by rw [nf (79 + r) (12 + k) (by omega)]; exact a6 r k g1 g2 g3⟩
/-- a field more: taken first, then the five rows, then how many -/
theorem PLr_p {M M0 M1 M2 M3 M4 M5 M6 : mm_M} {s : x_S} {X : Int64} {v1 v2 v3 v4 v5 v : Int32} {j : Nat} {nm kd f l c : Int} (H : PLr M s) (W0 : M0 = mm_setL M 77 25 X) (W1 : M1 = mm_setI M0 80 j v1) (W2 : M2 = mm_setI M1 81 j v2) (W3 : M3 = mm_setI M2 82 j v3) (W4 : M4 = mm_setI M3 83 j v4) (W5 : M5 = mm_setI M4 84 j v5) (W6 : M6 = mm_setI M5 77 15 v) (hj : (j : Int) = 8 + s.2.1) (hX : X = s.2.2.2.1 ||| x_bw f l) (hv : v.toInt = s.2.1 + 1) (hF : s.2.1 ≤ 7) (r1 : v1.toInt = nm) (r2 : v2.toInt = kd) (r3 : v3.toInt = f) (r4 : v4.toInt = l) (r5 : v5.toInt = c) (h1 : 0 ≤ kd ∧ kd ≤ 3) (h2 : 0 ≤ f ∧ f ≤ l ∧ l ≤ 59 ∧ l - f ≤ 23) (h3 : 1 ≤ c ∧ c ≤ 24) (h4 : kd = 3 → c ≤ 4) : PLr M6 (x_push s nm kd f l c) := by
  obtain ⟨a0, a1, a2, a3, a4, a5, a6⟩ := H
  have nf : ∀ a i : Nat, ¬ (a = 77 ∧ i = 15) → ¬ (80 ≤ a ∧ a ≤ 84 ∧ i = j) → M6.2.1 a i = M.2.1 a i := fun a i h h' => W_n W6 h (W_n W5 (by omega) (W_n W4 (by omega) (W_n W3 (by omega) (W_n W2 (by omega) (W_n W1 (by omega) (W_l W0 rfl))))))
  refine ⟨x_G_p a0 hF h1 h2 h3 h4, by rw [nf 77 14 (by omega) (by omega)]; exact a1, by rw [W_e W6]; exact hv, by rw [nf 77 16 (by omega) (by omega)]; exact a3, ?_, fun r k g1 g2 g3 => ?_, fun r k g1 g2 g3 => ?_⟩
  · rw [W_j W6 (W_j W5 (W_j W4 (W_j W3 (W_j W2 (W_j W1 (L_e W0))))))]
    exact hX
  · have g3 : (k : Int) < s.2.1 + 1 := g3
    show _ = if r ≤ 5 ∧ (k : Int) = s.2.1 then (if r = 1 then nm else if r = 2 then kd else if r = 3 then f else if r = 4 then l else c) else s.2.2.2.2 r k
    by_cases g : (k : Int) = s.2.1
    · have ek : 8 + k = j := by omega
      rw [if_pos ⟨g2, g⟩, ek]
      rcases (show r = 1 ∨ r = 2 ∨ r = 3 ∨ r = 4 ∨ r = 5 by omega) with rfl | rfl | rfl | rfl | rfl
      · rw [W_n W6 (by omega) (W_n W5 (by omega) (W_n W4 (by omega) (W_n W3 (by omega) (W_n W2 (by omega) (W_e W1)))))]; exact r1
      · rw [W_n W6 (by omega) (W_n W5 (by omega) (W_n W4 (by omega) (W_n W3 (by omega) (W_e W2))))]; exact r2
      · rw [W_n W6 (by omega) (W_n W5 (by omega) (W_n W4 (by omega) (W_e W3)))]; exact r3
      · rw [W_n W6 (by omega) (W_n W5 (by omega) (W_e W4))]; exact r4
      · rw [W_n W6 (by omega) (W_e W5)]; exact r5
    · rw [if_neg (fun z => g z.2), nf (79 + r) (8 + k) (by omega) (by omega)]
      exact a5 r k g1 g2 (by omega)
  · rw [nf (79 + r) (12 + k) (by omega) (by omega)]
    show _ = if r ≤ 5 ∧ (k : Int) = s.2.1 then _ else s.2.2.2.2 r k
    rw [if_neg (fun z => by omega)]
    exact a6 r k g1 g2 g3
theorem PLr_wp {M M1 M2 M3 M4 : mm_M} {s : x_S} {X : Int64} {v1 v2 v : Int32} {j j2 i3 : Nat} {nm f b : Int} (H : PLr M s) (W1 : M1 = mm_setI M 85 j v1) (W2 : M2 = mm_setI M1 86 j2 v2) (W3 : M3 = mm_setL M2 87 i3 X) (W4 : M4 = mm_setI M3 77 16 v) (hj : (j : Int) = 12 + s.2.2.1) (hj2 : (j2 : Int) = 12 + s.2.2.1) (hv : v.toInt = s.2.2.1 + 1) (hW : s.2.2.1 ≤ 11) (hf : 0 ≤ f ∧ f < s.2.1 ∧ x_row s 2 f = 3) (r1 : v1.toInt = nm) (r2 : v2.toInt = f) : PLr M4 (x_pushw s nm f b) := by
  have ej : j2 = j := by omega
  subst ej
  obtain ⟨a0, a1, a2, a3, a4, a5, a6⟩ := H
  have nf : ∀ a i : Nat, ¬ (a = 77 ∧ i = 16) → ¬ (85 ≤ a ∧ a ≤ 86 ∧ i = j2) → M4.2.1 a i = M.2.1 a i := fun a i h h' => W_n W4 h (W_l W3 (W_n W2 (by omega) (W_n W1 (by omega) rfl)))
  refine ⟨x_G_w a0 hW hf, by rw [nf 77 14 (by omega) (by omega)]; exact a1, by rw [nf 77 15 (by omega) (by omega)]; exact a2, by rw [W_e W4]; exact hv, ?_, fun r k g1 g2 g3 => ?_, fun r k g1 g2 g3 => ?_⟩
  · rw [W_j W4 (L_n W3 (by omega) (W_j W2 (W_j W1 rfl)))]
    exact a4
  · rw [nf (79 + r) (8 + k) (by omega) (by omega)]
    show _ = if 6 ≤ r ∧ (k : Int) = s.2.2.1 then _ else s.2.2.2.2 r k
    rw [if_neg (fun z => by omega)]
    exact a5 r k g1 g2 g3
  · have g3 : (k : Int) < s.2.2.1 + 1 := g3
    show _ = if 6 ≤ r ∧ (k : Int) = s.2.2.1 then (if r = 6 then nm else if r = 7 then f else b) else s.2.2.2.2 r k
    by_cases g : (k : Int) = s.2.2.1
    · have ek : 12 + k = j2 := by omega
      rw [if_pos ⟨g1, g⟩, ek]
      rcases (show r = 6 ∨ r = 7 by omega) with rfl | rfl
      · rw [W_n W4 (by omega) (W_l W3 (W_n W2 (by omega) (W_e W1)))]; exact r1
      · rw [W_n W4 (by omega) (W_l W3 (W_e W2))]; exact r2
    · rw [if_neg (fun z => g z.2), nf (79 + r) (12 + k) (by omega) (by omega)]
      exact a6 r k g1 g2 (by omega)
theorem x_bw_s {b h h2 : Int} {acc : Int64} {v : Int32} {E : Int64} (hv : v.toInt = h) (h0 : 0 ≤ h) (h1 : h ≤ b) (h2e : h2 = h + 1) (H : x_bwr (b + 1 - h).toNat acc h.toNat = E) : x_bwr (b + 1 - h2).toNat (acc ||| ((1 : Int64) <<< (v.toInt64 &&& 63))) h2.toNat = E := by
  rw [← H, show (b + 1 - h).toNat = (b + 1 - h2).toNat + 1 by omega, x_bwr, show h2.toNat = h.toNat + 1 by omega, x_bit_e hv, show ((h.toNat : Nat) : Int) = h by omega]
theorem x_bw_x {b h : Int} {acc E : Int64} (h1 : b < h) (H : x_bwr (b + 1 - h).toNat acc h.toNat = E) : acc = E := by
  rw [← H, show (b + 1 - h).toNat = 0 by omega]
  rfl
theorem x_free_r {M : mm_M} {s : x_S} {X : Int64} {f l : Int} (H : PLr M s) (hX : X = x_bw f l) : x_eq (M.2.2.1 77 25 &&& X) 0 = x_free s f l := by
  rw [H.2.2.2.2.1, hX]
  rfl
theorem x_or_r {M : mm_M} {s : x_S} {X : Int64} {f l : Int} (H : PLr M s) (hX : X = x_bw f l) : M.2.2.1 77 25 ||| X = s.2.2.2.1 ||| x_bw f l := by
  rw [H.2.2.2.2.1, hX]
theorem x_bt : ∀ h : Fin 60, ∀ j : Fin 64, ((1 : Int64) <<< ((Int32.ofInt (h.val : Int)).toInt64 &&& 63)).toBitVec.getLsbD j.val = decide (j.val = h.val) := by decide +kernel
noncomputable def PLr2 (M : mm_M) (s : x_S) : Prop := PLr M s ∧ CWr M s
/-- the reference keeps the codes that it has read -/
noncomputable def KL (N M : mm_M) (b : Nat) : Prop := (∀ j : Nat, j < b → N.2.2.1 87 j = M.2.2.1 87 (12 + j)) ∧ ∀ i : Nat, 12 ≤ i → N.2.2.1 87 i = M.2.2.1 87 i
theorem KL_0 {N M : mm_M} (h : ∀ i : Nat, N.2.2.1 87 i = M.2.2.1 87 i) : KL N M 0 := ⟨fun _ z => absurd z (Nat.not_lt_zero _), fun i _ => h i⟩
theorem KL_f {N N1 M : mm_M} {b : Nat} (h : ∀ i : Nat, N1.2.2.1 87 i = N.2.2.1 87 i) (K : KL N M b) : KL N1 M b := ⟨fun j hj => by rw [h j]; exact K.1 j hj, fun i hi => by rw [h i]; exact K.2 i hi⟩
theorem KL_2 {N N1 N2 N3 M : mm_M} {b b2 i12 j1 j2 : Nat} {v1 v2 : Int32} {v3 : Int64} (K : KL N M b) (hb : b < 12) (h12 : i12 = 12 + b) (h2 : b2 = b + 1) (W1 : N1 = mm_setI N 85 j1 v1) (W2 : N2 = mm_setI N1 86 j2 v2) (e3 : N2.2.2.1 87 i12 = v3) (W3 : N3 = mm_setL N2 87 b v3) : KL N3 M b2 := by
  subst h12
  subst h2
  have nl : ∀ i : Nat, i ≠ b → N3.2.2.1 87 i = N.2.2.1 87 i := fun i h => L_n W3 (by omega) (W_j W2 (W_j W1 rfl))
  refine ⟨fun j hj => ?_, fun i hi => by rw [nl i (by omega)]; exact K.2 i hi⟩
  by_cases g : j = b
  · subst g
    rw [L_e W3, ← e3]
    exact (show N2.2.2.1 87 (12 + j) = N.2.2.1 87 (12 + j) from W_j W2 (W_j W1 rfl)).trans (K.2 (12 + j) (by omega))
  · rw [nl j g]
    exact K.1 j (by omega)
theorem CWk_e {N M : mm_M} {s : x_S} (K : KL N M 12) (hG : x_G s) (H : CWr M s) : CWk N s := fun k hk => by
  have w12 := hG.2.2.2.2.2.1
  rw [K.1 k (by omega)]
  exact H k hk
section LALE
variable {X : mm_X} {d mi pc : Nat} {ls st : List Value} {M : mm_M} {Q : Option Value → mm_M → Prop} {len a b : Nat} {ps : List Nat} {x : Int32} {A : Int}
theorem s_lalE {o n : Nat} (hc : mm_code mi pc = some (.laload, len, a, b, ps)) (hG : g_G M) (ho : (Nat.blt o 126 && Nat.beq (g_ty o) 101) = true) (hn : g_ln o = n) (ex : x.toInt = A) (h0 : 0 ≤ A) (h1 : A < (n : Int)) (h : ∀ v : Int64, M.2.2.1 o A.toNat = v → mm_T X d mi (pc + len) ls (.long v :: st) M Q) : mm_T X d mi pc ls (.int x :: .ref o :: st) M Q := by
  rw [Bool.and_eq_true] at ho
  have e : x.toNatClampNeg = A.toNat := by rw [← ex]; rfl
  exact to_lal hc (g_o hG (by rw [Bool.and_eq_true]; exact ho)) (by rw [g_l hG ho.1 hn]; exact i_ix ex h0 h1) (by rw [e]) (h _ rfl)
end LALE
/-! the reference's lines -/
noncomputable def FOr (R : x_Res) (k : x_K) (M : mm_M) (sg : x_S) : Prop := ∃ s2 : x_S, R = k (M.2.1 77 10).toInt s2 ∧ PLr2 M s2 ∧ s2.2.1 + s2.2.2.1 = sg.2.1 + sg.2.2.1 + 1
noncomputable def WOr (t : Nat → Int) (nn : Int) (R : x_Res) (k : x_K) (M : mm_M) (sg : x_S) : Prop := FOr R k M sg ∨ R = none ∧ ¬ (x_kind t nn (M.2.1 77 10).toInt = 4 ∧ x_val t nn (M.2.1 77 10).toInt = 59)
noncomputable def LOr (t : Nat → Int) (nn : Int) (R : x_Res) (fu : Nat) (L : Int) (M : mm_M) (sg : x_S) : Prop := ∃ s2 : x_S, R = x_plan t nn fu (L + 1) s2 (M.2.1 77 10).toInt ∧ PLr2 M s2 ∧ (L = 0 → s2.2.1 + s2.2.2.1 = sg.2.1 + sg.2.2.1) ∧ (0 < L → s2.2.1 + s2.2.2.1 = sg.2.1 + sg.2.2.1 + 1)
noncomputable def IVr (t : Nat → Int) (nn : Int) (R : x_Res) (M : mm_M) (L : Int) (b : Int) : Prop := ∃ sg : x_S, PLr2 M sg ∧ x_plan t nn (23 - L).toNat L sg b = R ∧ (L = 0 → sg.2.1 + sg.2.2.1 = 0) ∧ (0 < L → L = 1 + sg.2.1 + sg.2.2.1)
noncomputable def PAN (R : x_Res) (r : Int) : Prop := R = none ∧ r = -1 ∨ ∃ s2 : x_S, R = some (r, s2)
theorem PAN_u {R : x_Res} {r r2 : Int} (h : PAN R r) (h2 : PAN R r2) : r = r2 := by
  rcases h with ⟨a, b⟩ | ⟨s, a⟩ <;> rcases h2 with ⟨a2, b2⟩ | ⟨s2, a2⟩
  · rw [b, b2]
  · rw [a] at a2; exact absurd a2 (fun z => nomatch z)
  · rw [a] at a2; exact absurd a2 (fun z => nomatch z)
  · rw [a] at a2
    have := Option.some.inj a2
    exact congrArg Prod.fst this
section LN
variable {t : Nat → Int} {nn a b2 L : Int} {fu : Nat} {sg : x_S} {M M1 : mm_M} {R1 : x_Res}
theorem LOr_f (H : FOr R1 (x_kk t nn fu L) M sg) (hR : x_line t nn L sg a (x_kk t nn fu L) = R1) (hb : (M.2.1 77 10).toInt = b2) (hs : x_kind t nn b2 = 4 ∧ x_val t nn b2 = 59) (h1 : (M1.2.1 77 10).toInt = x_ns t nn b2) (hL : 0 < L) (tr : ∀ s, PLr2 M s → PLr2 M1 s) : LOr t nn (x_line t nn L sg a (x_kk t nn fu L)) fu L M1 sg := by
  obtain ⟨s2, e, j, c⟩ := H
  refine ⟨s2, ?_, tr s2 j, fun z => by exfalso; omega, fun _ => c⟩
  rw [hR, e, hb, x_kk_y hs, h1]
theorem LOr_fn (H : FOr R1 (x_kk t nn fu L) M sg) (hR : x_line t nn L sg a (x_kk t nn fu L) = R1) (hb : (M.2.1 77 10).toInt = b2) (hs : ¬ (x_kind t nn b2 = 4 ∧ x_val t nn b2 = 59)) : x_line t nn L sg a (x_kk t nn fu L) = none := by
  obtain ⟨s2, e, j, c⟩ := H
  rw [hR, e, hb, x_kk_n hs]
theorem LOr_w (H : WOr t nn R1 (x_kk t nn fu L) M sg) (hR : x_line t nn L sg a (x_kk t nn fu L) = R1) (hb : (M.2.1 77 10).toInt = b2) (hs : x_kind t nn b2 = 4 ∧ x_val t nn b2 = 59) (h1 : (M1.2.1 77 10).toInt = x_ns t nn b2) (hL : 0 < L) (tr : ∀ s, PLr2 M s → PLr2 M1 s) : LOr t nn (x_line t nn L sg a (x_kk t nn fu L)) fu L M1 sg := by
  rcases H with H | ⟨e1, e2⟩
  · exact LOr_f H hR hb hs h1 hL tr
  · rw [hb] at e2; exact absurd hs e2
theorem LOr_wn (H : WOr t nn R1 (x_kk t nn fu L) M sg) (hR : x_line t nn L sg a (x_kk t nn fu L) = R1) (hb : (M.2.1 77 10).toInt = b2) (hs : ¬ (x_kind t nn b2 = 4 ∧ x_val t nn b2 = 59)) : x_line t nn L sg a (x_kk t nn fu L) = none := by
  rcases H with H | ⟨e1, e2⟩
  · exact LOr_fn H hR hb hs
  · rw [hR, e1]
theorem LOr_h {s2 : x_S} (hR : x_line t nn L sg a (x_kk t nn fu L) = x_kk t nn fu L b2 s2) (hs : x_kind t nn b2 = 4 ∧ x_val t nn b2 = 59) (h1 : (M1.2.1 77 10).toInt = x_ns t nn b2) (hL : L = 0) (H : PLr2 M1 s2) (hc : s2.2.1 + s2.2.2.1 = sg.2.1 + sg.2.2.1) : LOr t nn (x_line t nn L sg a (x_kk t nn fu L)) fu L M1 sg := ⟨s2, by rw [hR, x_kk_y hs, h1], H, fun _ => hc, fun z => by exfalso; omega⟩
theorem LOr_hn {s2 : x_S} (hR : x_line t nn L sg a (x_kk t nn fu L) = x_kk t nn fu L b2 s2) (hs : ¬ (x_kind t nn b2 = 4 ∧ x_val t nn b2 = 59)) : x_line t nn L sg a (x_kk t nn fu L) = none := by rw [hR, x_kk_n hs]
theorem IVr_0 {b : Int} (H : PLr2 M x_s0) (hb : b = a) (hL : L = 0) : IVr t nn (x_plan t nn 23 0 x_s0 a) M L b := by
  subst hb
  subst hL
  exact ⟨x_s0, H, rfl, fun _ => rfl, fun z => absurd z (by decide)⟩
theorem IVr_s {R : x_Res} {b b3 L2 : Int} (hL : 0 ≤ L) (hL2 : L ≤ 22) (h : x_plan t nn (23 - L).toNat L sg b = R) (hn : ¬ x_kind t nn b = 0) (c0 : L = 0 → sg.2.1 + sg.2.2.1 = 0) (c1 : 0 < L → L = 1 + sg.2.1 + sg.2.2.1) (H : LOr t nn (x_line t nn L sg b (x_kk t nn (22 - L).toNat L)) (22 - L).toNat L M sg) (hb3 : b3 = (M.2.1 77 10).toInt) (h2 : L2 = L + 1) : IVr t nn R M L2 b3 := by
  obtain ⟨s2, e1, j1, d0, d1⟩ := H
  refine ⟨s2, j1, ?_, fun z => by exfalso; omega, fun _ => ?_⟩
  · rw [← h, x_plan_l (fu2 := (22 - L).toNat) (by omega) hn, e1, hb3, h2]
    congr 1
    omega
  · by_cases g : L = 0
    · have := d0 g; have := c0 g; omega
    · have := d1 (by omega); have := c1 (by omega); omega
theorem IVr_l {R : x_Res} {b : Int} (hL : 0 ≤ L) (hL2 : L ≤ 22) (h : x_plan t nn (23 - L).toNat L sg b = R) (hn : ¬ x_kind t nn b = 0) (H : x_line t nn L sg b (x_kk t nn (22 - L).toNat L) = none) : R = none := by
  rw [← h, x_plan_l (fu2 := (22 - L).toNat) (by omega) hn]
  exact H
theorem IVr_e {R : x_Res} {b r : Int} (hL2 : L ≤ 22) (h : x_plan t nn (23 - L).toNat L sg b = R) (hn : x_kind t nn b = 0) (hr : r = L) : PAN R r := Or.inr ⟨sg, by rw [hr, ← h]; exact x_plan_e (by omega) hn⟩
end LN
theorem x_bw_v {f l f2 l2 : Int} (h1 : f = f2) (h2 : l = l2) : x_bw f l = x_bw f2 l2 := by rw [h1, h2]
theorem x_smod_60 : ∀ h : Fin 60, (((Int32.ofInt (h.val : Int)).toInt64 &&& 63).toBitVec.smod 64).toNat = h.val := by decide +kernel
theorem x_bit_l {h : Nat} (hh : h < 60) (j : Nat) (hj : j < 64) : (x_bit (h : Int)).toBitVec.getLsbD j = decide (j = h) := x_bt ⟨h, hh⟩ ⟨j, hj⟩
theorem x_and_b {bits : Int64} {h : Nat} (hh : h < 60) : bits &&& x_bit (h : Int) = 0 ↔ bits.toBitVec.getLsbD h = false := by
  constructor
  · intro z
    have q : (bits &&& x_bit (h : Int)).toBitVec.getLsbD h = (0 : Int64).toBitVec.getLsbD h := by rw [z]
    rw [Int64.toBitVec_and, BitVec.getLsbD_and, x_bit_l hh h (by omega)] at q
    simpa using q
  · intro z
    apply Int64.toBitVec_inj.mp
    apply BitVec.eq_of_getLsbD_eq
    intro j hj
    rw [Int64.toBitVec_and, BitVec.getLsbD_and, x_bit_l hh j hj]
    by_cases g : j = h
    · rw [g, z]; simp
    · simp [g]
theorem x_shr_b {bits : Int64} {h : Nat} (hh : h < 60) : (bits >>> ((Int32.ofInt (h : Int)).toInt64 &&& 63)) &&& 1 = 1 ↔ bits.toBitVec.getLsbD h = true := by
  have e : ∀ j, j < 64 → ((bits >>> ((Int32.ofInt (h : Int)).toInt64 &&& 63)) &&& 1).toBitVec.getLsbD j = (bits.toBitVec.getLsbD h && decide (j = 0)) := fun j hj => by
    rw [Int64.toBitVec_and, BitVec.getLsbD_and, Int64.toBitVec_shiftRight]
    have q : (((Int32.ofInt (h : Int)).toInt64 &&& 63).toBitVec.smod 64).toNat = h := x_smod_60 ⟨h, hh⟩
    have o : (1 : Int64).toBitVec.getLsbD j = decide (j = 0) := by
      show (1#64).getLsbD j = _
      rw [BitVec.getLsbD_one]; simp
    show ((bits.toBitVec.sshiftRight (((Int32.ofInt (h : Int)).toInt64 &&& 63).toBitVec.smod 64).toNat).getLsbD j && (1 : Int64).toBitVec.getLsbD j) = _
    rw [q, o]
    by_cases g : j = 0
    · subst g
      rw [BitVec.getLsbD_sshiftRight]
      simp
      intro z; omega
    · simp [g]
  constructor
  · intro z
    have q := e 0 (by decide)
    rw [z] at q
    simpa using q.symm
  · intro z
    apply Int64.toBitVec_inj.mp
    apply BitVec.eq_of_getLsbD_eq
    intro j hj
    rw [e j hj, z]
    show _ = (1#64).getLsbD j
    rw [BitVec.getLsbD_one]; simp
theorem x_hit_r {bits : Int64} {h : Int} {v : Int32} : v.toInt = h → 0 ≤ h → h ≤ 59 → (x_eq ((bits >>> (v.toInt64 &&& 63)) &&& 1) 1 = 1 ↔ x_hit bits h = 0) := by
  intro hv h0 h1
  have ev : v = Int32.ofInt ((h.toNat : Nat) : Int) := by rw [show ((h.toNat : Nat) : Int) = h by omega, ← hv, Int32.ofInt_toInt]
  rw [x_eq_1, ev, x_shr_b (by omega : h.toNat < 60)]
  have k : x_hit bits h = 1 ↔ bits.toBitVec.getLsbD h.toNat = false := by
    unfold x_hit
    rw [x_eq_1, show h = ((h.toNat : Nat) : Int) by omega, x_and_b (by omega : h.toNat < 60)]
    rw [show ((h.toNat : Nat) : Int).toNat = h.toNat by omega]
  have b : 0 ≤ x_hit bits h ∧ x_hit bits h ≤ 1 := x_eq_b
  cases g : bits.toBitVec.getLsbD h.toNat with
  | true =>
    have : ¬ x_hit bits h = 1 := fun z => by rw [k.mp z] at g; exact absurd g (by decide)
    exact ⟨fun _ => by omega, fun _ => rfl⟩
  | false =>
    have := k.mpr g
    exact ⟨fun z => absurd z (by decide), fun z => by omega⟩
theorem x_hit_b {bits : Int64} {h : Int} : 0 ≤ x_hit bits h ∧ x_hit bits h ≤ 1 := x_eq_b
/-! the tape -/
theorem b_255 (z : Int32) : z.toInt8.toInt32 &&& 255 = z &&& 255 := by
  apply Int32.toBitVec_inj.mp
  apply BitVec.eq_of_getLsbD_eq
  intro j hj
  rw [Int32.toBitVec_and, Int32.toBitVec_and, BitVec.getLsbD_and, BitVec.getLsbD_and, Int8.toBitVec_toInt32, Int32.toBitVec_toInt8, BitVec.getLsbD_signExtend, BitVec.getLsbD_signExtend]
  by_cases g : j < 8
  · simp [g, hj]
  · have e : (255 : Int32).toBitVec.getLsbD j = false := by
      show (255#32).getLsbD j = false
      rw [BitVec.getLsbD_ofNat]
      have : Nat.testBit 255 j = false := Nat.testBit_lt_two_pow (Nat.lt_of_lt_of_le (by decide : 255 < 2 ^ 8) (Nat.pow_le_pow_right (by decide) (by omega)))
      rw [this, Bool.and_false]
    rw [e, Bool.and_false, Bool.and_false]
noncomputable def x_by (x : Int32) (j : Int) : Int32 := (x >>> Int32.ofInt (24 - 8 * j)) &&& 255
noncomputable def x_fb (a b c d e : Int32) (k : Nat) : Int32 := x_by (if k < 4 then a else if k < 8 then b else if k < 12 then c else if k < 16 then d else e) ((k % 4 : Nat) : Int)
theorem x_by_e {x v y z : Int32} {j : Int} (hv : v.toInt = 24 - 8 * j) (e1 : x >>> v = y) (e2 : y &&& 255 = z) : z = x_by x j := by
  rw [← e2, ← e1, x_i32 hv]
  rfl
theorem x_by_b {x v y : Int32} {j : Int} (hv : v.toInt = 24 - 8 * j) (e1 : x >>> v = y) : y.toInt8.toInt32.toInt8.toInt32 &&& 255 = x_by x j := by
  rw [b_255, b_255, ← e1, x_i32 hv]
  rfl
noncomputable def AP (M M1 : mm_M) (x : Int32) : Prop := (M1.2.1 1 1).toInt = (M.2.1 1 1).toInt + 4 ∧ (∀ k : Nat, (k : Int) < (M.2.1 1 1).toInt → M1.2.1 2 k = M.2.1 2 k) ∧ ∀ j : Nat, j < 4 → M1.2.1 2 ((M.2.1 1 1).toInt.toNat + j) &&& 255 = x_by x j
noncomputable def FD (M M1 : mm_M) (a b c d e : Int32) : Prop := (∀ k : Nat, (k : Int) < (M.2.1 1 1).toInt → M1.2.1 2 k = M.2.1 2 k) ∧ ((M.2.1 1 1).toInt ≤ 480 → ∀ k : Nat, k < 20 → M1.2.1 2 ((M.2.1 1 1).toInt.toNat + k) &&& 255 = x_fb a b c d e k)
noncomputable def FDr (M M1 : mm_M) (a b c d e : Int32) : Prop := (∀ k : Nat, (k : Int) < (M.2.1 77 1).toInt → M1.2.1 78 k = M.2.1 78 k) ∧ ((M.2.1 77 1).toInt ≤ 480 → ∀ k : Nat, k < 20 → M1.2.1 78 ((M.2.1 77 1).toInt.toNat + k) = x_fb a b c d e k)
theorem FD_0 {M : mm_M} {a b c d e : Int32} (h : 480 < (M.2.1 1 1).toInt) : FD M M a b c d e := ⟨fun _ _ => rfl, fun z => by exfalso; omega⟩
theorem FDr_0 {M M1 : mm_M} {a b c d e : Int32} (h : 480 < (M.2.1 77 1).toInt) (hs : ∀ k, M1.2.1 78 k = M.2.1 78 k) : FDr M M1 a b c d e := ⟨fun k _ => hs k, fun z => by exfalso; omega⟩
theorem FD_5 {M M1 M2 M3 M4 M5 : mm_M} {a b c d e : Int32} (h0 : 0 ≤ (M.2.1 1 1).toInt) (A1 : AP M M1 a) (A2 : AP M1 M2 b) (A3 : AP M2 M3 c) (A4 : AP M3 M4 d) (A5 : AP M4 M5 e) : FD M M5 a b c d e := by
  obtain ⟨p1, q1, r1⟩ := A1
  obtain ⟨p2, q2, r2⟩ := A2
  obtain ⟨p3, q3, r3⟩ := A3
  obtain ⟨p4, q4, r4⟩ := A4
  obtain ⟨p5, q5, r5⟩ := A5
  refine ⟨fun k hk => ?_, fun _ k hk => ?_⟩
  · rw [q5 k (by omega), q4 k (by omega), q3 k (by omega), q2 k (by omega), q1 k hk]
  · unfold x_fb
    by_cases g1 : k < 4
    · rw [if_pos g1, q5 _ (by omega), q4 _ (by omega), q3 _ (by omega), q2 _ (by omega), r1 k g1, show k % 4 = k by omega]
    · rw [if_neg g1]
      by_cases g2 : k < 8
      · have e1 : (M.2.1 1 1).toInt.toNat + k = (M1.2.1 1 1).toInt.toNat + (k - 4) := by omega
        rw [if_pos g2, q5 _ (by omega), q4 _ (by omega), q3 _ (by omega), e1, r2 (k - 4) (by omega), show k % 4 = k - 4 by omega]
      · rw [if_neg g2]
        by_cases g3 : k < 12
        · have e1 : (M.2.1 1 1).toInt.toNat + k = (M2.2.1 1 1).toInt.toNat + (k - 8) := by omega
          rw [if_pos g3, q5 _ (by omega), q4 _ (by omega), e1, r3 (k - 8) (by omega), show k % 4 = k - 8 by omega]
        · rw [if_neg g3]
          by_cases g4 : k < 16
          · have e1 : (M.2.1 1 1).toInt.toNat + k = (M3.2.1 1 1).toInt.toNat + (k - 12) := by omega
            rw [if_pos g4, q5 _ (by omega), e1, r4 (k - 12) (by omega), show k % 4 = k - 12 by omega]
          · have e1 : (M.2.1 1 1).toInt.toNat + k = (M4.2.1 1 1).toInt.toNat + (k - 16) := by omega
            rw [if_neg g4, e1, r5 (k - 16) (by omega), show k % 4 = k - 16 by omega]
theorem x_fb_i {a b c d e w z y v : Int32} {k : Int} (h0 : 0 ≤ k) (hv : v.toInt = 24 - 8 * (k % 4)) (e1 : w >>> v = y) (e2 : y &&& 255 = z) (hw : w = if k.toNat < 4 then a else if k.toNat < 8 then b else if k.toNat < 12 then c else if k.toNat < 16 then d else e) : z = x_fb a b c d e k.toNat := by
  unfold x_fb
  rw [← hw]
  exact x_by_e (by omega) e1 e2
section FB
variable {a b c d e : Int32} {k : Int}
theorem x_w_a (h0 : 0 ≤ k) (h : k < 4) : a = if k.toNat < 4 then a else if k.toNat < 8 then b else if k.toNat < 12 then c else if k.toNat < 16 then d else e := by rw [if_pos (by omega)]
theorem x_w_b (h0 : 4 ≤ k) (h : k < 8) : b = if k.toNat < 4 then a else if k.toNat < 8 then b else if k.toNat < 12 then c else if k.toNat < 16 then d else e := by rw [if_neg (by omega), if_pos (by omega)]
theorem x_w_c (h0 : 8 ≤ k) (h : k < 12) : c = if k.toNat < 4 then a else if k.toNat < 8 then b else if k.toNat < 12 then c else if k.toNat < 16 then d else e := by rw [if_neg (by omega), if_neg (by omega), if_pos (by omega)]
theorem x_w_d (h0 : 12 ≤ k) (h : k < 16) : d = if k.toNat < 4 then a else if k.toNat < 8 then b else if k.toNat < 12 then c else if k.toNat < 16 then d else e := by rw [if_neg (by omega), if_neg (by omega), if_neg (by omega), if_pos (by omega)]
theorem x_w_e (h0 : 16 ≤ k) : e = if k.toNat < 4 then a else if k.toNat < 8 then b else if k.toNat < 12 then c else if k.toNat < 16 then d else e := by rw [if_neg (by omega), if_neg (by omega), if_neg (by omega), if_neg (by omega)]
end FB
/-- the two tapes hold the same -/
noncomputable def TP (M : mm_M) : Prop := ∀ k : Nat, (k : Int) < (M.2.1 1 1).toInt → M.2.1 2 k &&& 255 = M.2.1 78 k
theorem TP_f {M M1 : mm_M} (h : ∀ a i : Nat, (a = 1 ∧ i = 1 ∨ a = 2 ∨ a = 78) → M1.2.1 a i = M.2.1 a i) (H : TP M) : TP M1 := fun k hk => by
  rw [h 1 1 (by omega)] at hk
  rw [h 2 k (by omega), h 78 k (by omega)]
  exact H k hk
theorem TP_0 {M : mm_M} (h : (M.2.1 1 1).toInt ≤ 0) : TP M := fun k hk => by exfalso; omega
theorem TP_s {M M1 : mm_M} (H : TP M) (h1 : (M1.2.1 1 1).toInt ≤ (M.2.1 1 1).toInt) (h : ∀ a i : Nat, (a = 2 ∨ a = 78) → M1.2.1 a i = M.2.1 a i) : TP M1 := fun k hk => by
  rw [h 2 k (by omega), h 78 k (by omega)]
  exact H k (by omega)
theorem TP_d {M M1 M2 : mm_M} {a b c d e : Int32} (H : TP M) (h0 : 0 ≤ (M.2.1 1 1).toInt) (he : (M.2.1 1 1).toInt = (M.2.1 77 1).toInt) (D : FD M M1 a b c d e) (hl : 480 < (M.2.1 1 1).toInt ∧ (M2.2.1 1 1).toInt = (M.2.1 1 1).toInt ∨ (M.2.1 1 1).toInt ≤ 480 ∧ (M2.2.1 1 1).toInt = (M.2.1 1 1).toInt + 20) (h78 : ∀ k, M1.2.1 78 k = M.2.1 78 k) (h77 : M1.2.1 77 1 = M.2.1 77 1) (D2 : FDr M1 M2 a b c d e) (h2 : ∀ k, M2.2.1 2 k = M1.2.1 2 k) : TP M2 := fun k hk => by
  rw [h2 k]
  obtain ⟨d1, d2⟩ := D
  obtain ⟨f1, f2⟩ := D2
  rw [h77] at f1 f2
  by_cases g : (k : Int) < (M.2.1 1 1).toInt
  · rw [d1 k g, f1 k (by omega), h78 k]
    exact H k g
  · have ek : k = (M.2.1 1 1).toInt.toNat + (k - (M.2.1 1 1).toInt.toNat) := by omega
    have e1 := d2 (by omega) (k - (M.2.1 1 1).toInt.toNat) (by omega)
    have e2 := f2 (by omega) (k - (M.2.1 1 1).toInt.toNat) (by omega)
    rw [show (M.2.1 77 1).toInt.toNat = (M.2.1 1 1).toInt.toNat by omega, ← ek] at e2
    rw [← ek] at e1
    rw [e1, e2]
section SB
variable {X : mm_X} {d mi pc : Nat} {ls st : List Value} {M : mm_M} {Q : Option Value → mm_M → Prop} {len a b : Nat} {ps : List Nat} {x y : Int32} {A : Int}
theorem s_basE {o n : Nat} (hc : mm_code mi pc = some (.bastore, len, a, b, ps)) (hG : g_G M) (ho : (Nat.blt o 126 && Nat.beq (g_ty o) 103) = true) (hn : g_ln o = n) (ex : x.toInt = A) (h0 : 0 ≤ A) (h1 : A < (n : Int)) (h : ∀ M1, M1 = mm_setI M o A.toNat y.toInt8.toInt32 → mm_T X d mi (pc + len) ls st M1 Q) : mm_T X d mi pc ls (.int y :: .int x :: .ref o :: st) M Q := by
  rw [Bool.and_eq_true] at ho
  have e103 := Nat.eq_of_beq_eq_true ho.2
  exact to_bas hc (g_no hG (by rw [ho.1, e103]; rfl)) (g_o hG (by rw [Bool.and_eq_true]; exact ho)) (by rw [g_l hG ho.1 hn]; exact i_ix ex h0 h1) (show x.toNatClampNeg = A.toNat by rw [← ex]; rfl) rfl (h _ rfl)
end SB
/-! two contracts of one call -/
theorem T_im {X : mm_X} {d mi pc : Nat} {ls st : List Value} {M : mm_M} {Q Q2 : Option Value → mm_M → Prop} (h : mm_T X d mi pc ls st M Q) (k : ∀ v M1, Q v M1 → Q2 v M1) : mm_T X d mi pc ls st M Q2 := by
  obtain ⟨n, r, M', e, q⟩ := h
  exact ⟨n, r, M', e, k r M' q⟩
theorem T_and {X : mm_X} {d mi pc : Nat} {ls st : List Value} {M : mm_M} {Q1 Q2 : Option Value → mm_M → Prop} (h1 : mm_T X d mi pc ls st M Q1) (h2 : mm_T X d mi pc ls st M Q2) : mm_T X d mi pc ls st M (fun v M1 => Q1 v M1 ∧ Q2 v M1) := by
  obtain ⟨n, r, M', e, q⟩ := h1
  obtain ⟨n2, r2, M2, e2, q2⟩ := h2
  have a := mm_up (Nat.le_max_left n n2) e
  have b := mm_up (Nat.le_max_right n n2) e2
  rw [a] at b
  have z := Option.some.inj b
  have z1 : r = r2 := congrArg Prod.fst z
  have z2 : M' = M2 := congrArg Prod.snd z
  subst z1
  subst z2
  exact ⟨_, r, M', a, q, q2⟩
theorem TP_T {M : mm_M} {nn : Int} (H : TP M) (h : nn ≤ (M.2.1 1 1).toInt) : TT M (fun k => (M.2.1 78 k).toInt) nn := fun k hk => congrArg Int32.toInt (H k (by omega))
theorem TR_t {M : mm_M} {nn : Int} : TR M (fun k => (M.2.1 78 k).toInt) nn := fun _ _ => rfl
theorem x_nn {n held : Int} : ∃ nn : Int, (0 ≤ n ∧ n ≤ held → n = nn) ∧ nn ≤ held := by
  by_cases h : n ≤ held
  · exact ⟨n, fun _ => rfl, h⟩
  · exact ⟨held, fun z => absurd z.2 h, Int.le_refl _⟩
theorem PAN_q {R : x_Res} {n h1 h2 r r2 : Int} (e : h1 = h2) (a : n < 0 ∨ h1 < n → r = -2) (a2 : n < 0 ∨ h2 < n → r2 = -2) (b : 0 ≤ n ∧ n ≤ h1 → PAN R r) (b2 : 0 ≤ n ∧ n ≤ h2 → PAN R r2) : r = r2 := by
  by_cases g : 0 ≤ n ∧ n ≤ h1
  · exact PAN_u (b g) (b2 (by omega))
  · rw [a (by omega), a2 (by omega)]
theorem TP_X {M : mm_M} {n : Int} (H : TP M) : ∃ (t : Nat → Int) (nn : Int), (0 ≤ n ∧ n ≤ (M.2.1 1 1).toInt → n = nn) ∧ TT M t nn ∧ TR M t nn := by
  obtain ⟨nn, h1, h2⟩ := x_nn (n := n) (held := (M.2.1 1 1).toInt)
  exact ⟨_, nn, h1, TP_T H h2, TR_t⟩
/-! the plan that stands -/
theorem W_rl {M M1 : mm_M} {a i b j : Nat} {v : Option Nat} {w : Int64} (W : M1 = mm_setR M a i v) (h : M.2.2.1 b j = w) : M1.2.2.1 b j = w := by
  subst W
  exact h
theorem Fx_nl {M M1 : mm_M} {P : Nat → Nat → Prop} {a i : Nat} {w : Int64} (F : FRX P M M1) (hn : ¬ P a i) (h : M.2.2.1 a i = w) : M1.2.2.1 a i = w := (F.2 a i hn).2.trans h
noncomputable def PLs (M : mm_M) (p : Nat) (s : x_S) : Prop := x_G s ∧ (M.2.1 p 0).toInt = s.1 ∧ (M.2.1 p 2).toInt = s.2.1 ∧ (M.2.1 p 3).toInt = s.2.2.1 ∧ (∀ r k : Nat, 1 ≤ r → r ≤ 5 → (k : Int) < s.2.1 → (M.2.1 (p + r) k).toInt = s.2.2.2.2 r k) ∧ (∀ r k : Nat, 6 ≤ r → r ≤ 7 → (k : Int) < s.2.2.1 → (M.2.1 (p + r) k).toInt = s.2.2.2.2 r k)
theorem PLs_c {M : mm_M} {p : Nat} {s : x_S} (H : PLc M p s) : PLs M p s := ⟨H.1, H.2.1, H.2.2.1, H.2.2.2.1, H.2.2.2.2.2.1, H.2.2.2.2.2.2⟩
theorem PLs_f {M M1 : mm_M} {p : Nat} {s : x_S} (h : ∀ a i : Nat, (p ≤ a ∧ a ≤ p + 7) → M1.2.1 a i = M.2.1 a i) (H : PLs M p s) : PLs M1 p s := by
  obtain ⟨h0, h1, h2, h3, h5, h6⟩ := H
  exact ⟨h0, by rw [h p 0 (by omega)]; exact h1, by rw [h p 2 (by omega)]; exact h2, by rw [h p 3 (by omega)]; exact h3, fun r k a b c => by rw [h (p + r) k (by omega)]; exact h5 r k a b c, fun r k a b c => by rw [h (p + r) k (by omega)]; exact h6 r k a b c⟩
noncomputable def PLs2 (M : mm_M) (p : Nat) (s : x_S) : Prop := PLs M p s ∧ CW M p s
theorem PLs2_c {M : mm_M} {p : Nat} {s : x_S} (H : PLc2 M p s) : PLs2 M p s := ⟨PLs_c H.1, H.2⟩
theorem PLs2_f {M M1 : mm_M} {p : Nat} {s : x_S} (h : ∀ a i : Nat, (p ≤ a ∧ a ≤ p + 8) → M1.2.1 a i = M.2.1 a i ∧ M1.2.2.1 a i = M.2.2.1 a i) (H : PLs2 M p s) : PLs2 M1 p s := ⟨PLs_f (fun a i z => (h a i (by omega)).1) H.1, CW_f (fun k _ => (h (p + 8) k (by omega)).2) H.2⟩
noncomputable def TPl (M : mm_M) (s : x_S) : Prop := ∃ p : Nat, (p = 49 ∨ p = 58) ∧ M.2.2.2 0 8 = some p ∧ PLs2 M p s
noncomputable def NE (M : mm_M) : Prop := M.2.2.2 0 8 ≠ M.2.2.2 0 9
noncomputable def PLk (M : mm_M) (s : x_S) : Prop := x_G s ∧ (M.2.1 77 11).toInt = s.1 ∧ (M.2.1 77 12).toInt = s.2.1 ∧ (M.2.1 77 13).toInt = s.2.2.1 ∧ (∀ r k : Nat, 1 ≤ r → r ≤ 5 → (k : Int) < s.2.1 → (M.2.1 (79 + r) k).toInt = s.2.2.2.2 r k) ∧ (∀ r k : Nat, 6 ≤ r → r ≤ 7 → (k : Int) < s.2.2.1 → (M.2.1 (79 + r) k).toInt = s.2.2.2.2 r k)
theorem PLk_f {M M1 : mm_M} {s : x_S} (h : ∀ a i : Nat, (a = 77 ∧ 11 ≤ i ∧ i ≤ 13 ∨ 80 ≤ a ∧ a ≤ 84 ∧ i < 8 ∨ 85 ≤ a ∧ a ≤ 86 ∧ i < 12) → M1.2.1 a i = M.2.1 a i) (H : PLk M s) : PLk M1 s := by
  obtain ⟨h0, h1, h2, h3, h5, h6⟩ := H
  have f8 := h0.2.2.2.1
  have w12 := h0.2.2.2.2.2.1
  exact ⟨h0, by rw [h 77 11 (by omega)]; exact h1, by rw [h 77 12 (by omega)]; exact h2, by rw [h 77 13 (by omega)]; exact h3, fun r k a b c => by rw [h (79 + r) k (by omega)]; exact h5 r k a b c, fun r k a b c => by rw [h (79 + r) k (by omega)]; exact h6 r k a b c⟩
noncomputable def PLk2 (M : mm_M) (s : x_S) : Prop := PLk M s ∧ CWk M s
theorem PLk2_f {M M1 : mm_M} {s : x_S} (h : ∀ a i : Nat, (a = 77 ∧ 11 ≤ i ∧ i ≤ 13 ∨ 80 ≤ a ∧ a ≤ 84 ∧ i < 8 ∨ 85 ≤ a ∧ a ≤ 86 ∧ i < 12) → M1.2.1 a i = M.2.1 a i) (hl : ∀ i : Nat, i < 12 → M1.2.2.1 87 i = M.2.2.1 87 i) (H : PLk2 M s) : PLk2 M1 s := by
  have w12 := H.1.1.2.2.2.2.2.1
  exact ⟨PLk_f h H.1, CWk_f (fun k hk => hl k (by omega)) H.2⟩
noncomputable def AL (M : mm_M) : Prop := ∃ s : x_S, TPl M s ∧ PLk2 M s
/-- the reference keeps what it has read -/
noncomputable def KP (N M : mm_M) (a b : Nat) : Prop := (∀ r j : Nat, 1 ≤ r → r ≤ 5 → j < a → N.2.1 (79 + r) j = M.2.1 (79 + r) (8 + j)) ∧ (∀ r j : Nat, 6 ≤ r → r ≤ 7 → j < b → N.2.1 (79 + r) j = M.2.1 (79 + r) (12 + j)) ∧ (∀ x i : Nat, (80 ≤ x ∧ x ≤ 84 ∧ 8 ≤ i ∨ 85 ≤ x ∧ x ≤ 86 ∧ 12 ≤ i) → N.2.1 x i = M.2.1 x i)
theorem KP_e {N M : mm_M} {s : x_S} (K : KP N M 8 12) (h1 : N.2.1 77 11 = M.2.1 77 14) (h2 : N.2.1 77 12 = M.2.1 77 15) (h3 : N.2.1 77 13 = M.2.1 77 16) (H : PLr M s) : PLk N s := by
  obtain ⟨g0, g1, g2, g3, -, g5, g6⟩ := H
  have f8 := g0.2.2.2.1
  have w12 := g0.2.2.2.2.2.1
  exact ⟨g0, by rw [h1]; exact g1, by rw [h2]; exact g2, by rw [h3]; exact g3, fun r k a b c => by rw [K.1 r k a b (by omega)]; exact g5 r k a b c, fun r k a b c => by rw [K.2.1 r k a b (by omega)]; exact g6 r k a b c⟩
theorem KP_0 {N M : mm_M} (h : ∀ a i : Nat, 80 ≤ a ∧ a ≤ 86 → N.2.1 a i = M.2.1 a i) : KP N M 0 0 := ⟨fun _ _ _ _ z => absurd z (Nat.not_lt_zero _), fun _ _ _ _ z => absurd z (Nat.not_lt_zero _), fun x i z => h x i (by omega)⟩
theorem KP_f {N N1 M : mm_M} {a b : Nat} (h : ∀ a i : Nat, 80 ≤ a ∧ a ≤ 86 → N1.2.1 a i = N.2.1 a i) (K : KP N M a b) : KP N1 M a b := ⟨fun r j g1 g2 g3 => by rw [h (79 + r) j (by omega)]; exact K.1 r j g1 g2 g3, fun r j g1 g2 g3 => by rw [h (79 + r) j (by omega)]; exact K.2.1 r j g1 g2 g3, fun x i z => by rw [h x i (by omega)]; exact K.2.2 x i z⟩
/-- one round of the first loop -/
theorem KP_5 {N N1 N2 N3 N4 N5 M : mm_M} {a a2 i8 : Nat} {v1 v2 v3 v4 v5 : Int32} (K : KP N M a 0) (ha : a < 8) (h8 : i8 = 8 + a) (h2 : a2 = a + 1) (e1 : N.2.1 80 i8 = v1) (W1 : N1 = mm_setI N 80 a v1) (e2 : N1.2.1 81 i8 = v2) (W2 : N2 = mm_setI N1 81 a v2) (e3 : N2.2.1 82 i8 = v3) (W3 : N3 = mm_setI N2 82 a v3) (e4 : N3.2.1 83 i8 = v4) (W4 : N4 = mm_setI N3 83 a v4) (e5 : N4.2.1 84 i8 = v5) (W5 : N5 = mm_setI N4 84 a v5) : KP N5 M a2 0 := by
  subst h8
  subst h2
  have nf : ∀ x i : Nat, ¬ (80 ≤ x ∧ x ≤ 84 ∧ i = a) → N5.2.1 x i = N.2.1 x i := fun x i h => W_n W5 (by omega) (W_n W4 (by omega) (W_n W3 (by omega) (W_n W2 (by omega) (W_n W1 (by omega) rfl))))
  refine ⟨fun r j g1 g2 g3 => ?_, fun _ _ _ _ z => absurd z (Nat.not_lt_zero _), fun x i z => by rw [nf x i (by omega)]; exact K.2.2 x i z⟩
  by_cases g : j = a
  · subst g
    rcases (show r = 1 ∨ r = 2 ∨ r = 3 ∨ r = 4 ∨ r = 5 by omega) with rfl | rfl | rfl | rfl | rfl
    · rw [W_n W5 (by omega) (W_n W4 (by omega) (W_n W3 (by omega) (W_n W2 (by omega) (W_e W1)))), ← K.2.2 80 (8 + j) (by omega)]; exact e1.symm
    · rw [W_n W5 (by omega) (W_n W4 (by omega) (W_n W3 (by omega) (W_e W2))), ← K.2.2 81 (8 + j) (by omega), ← e2]; exact W_n W1 (by omega) rfl
    · rw [W_n W5 (by omega) (W_n W4 (by omega) (W_e W3)), ← K.2.2 82 (8 + j) (by omega), ← e3]; exact W_n W2 (by omega) (W_n W1 (by omega) rfl)
    · rw [W_n W5 (by omega) (W_e W4), ← K.2.2 83 (8 + j) (by omega), ← e4]; exact W_n W3 (by omega) (W_n W2 (by omega) (W_n W1 (by omega) rfl))
    · rw [W_e W5, ← K.2.2 84 (8 + j) (by omega), ← e5]; exact W_n W4 (by omega) (W_n W3 (by omega) (W_n W2 (by omega) (W_n W1 (by omega) rfl)))
  · rw [nf (79 + r) j (by omega)]
    exact K.1 r j g1 g2 (by omega)
/-- one round of the second -/
theorem KP_2 {N N1 N2 N3 M : mm_M} {b b2 i12 i87 : Nat} {v1 v2 : Int32} {v3 : Int64} (K : KP N M 8 b) (hb : b < 12) (h12 : i12 = 12 + b) (h2 : b2 = b + 1) (e1 : N.2.1 85 i12 = v1) (W1 : N1 = mm_setI N 85 b v1) (e2 : N1.2.1 86 i12 = v2) (W2 : N2 = mm_setI N1 86 b v2) (W3 : N3 = mm_setL N2 87 i87 v3) : KP N3 M 8 b2 := by
  subst h12
  subst h2
  have nf : ∀ x i : Nat, ¬ (85 ≤ x ∧ x ≤ 86 ∧ i = b) → N3.2.1 x i = N.2.1 x i := fun x i h => W_l W3 (W_n W2 (by omega) (W_n W1 (by omega) rfl))
  refine ⟨fun r j g1 g2 g3 => by rw [nf (79 + r) j (by omega)]; exact K.1 r j g1 g2 g3, fun r j g1 g2 g3 => ?_, fun x i z => by rw [nf x i (by omega)]; exact K.2.2 x i z⟩
  by_cases g : j = b
  · subst g
    rcases (show r = 6 ∨ r = 7 by omega) with rfl | rfl
    · rw [W_l W3 (W_n W2 (by omega) (W_e W1)), ← K.2.2 85 (12 + j) (by omega)]; exact e1.symm
    · rw [W_l W3 (W_e W2), ← K.2.2 86 (12 + j) (by omega), ← e2]; exact W_n W1 (by omega) rfl
  · rw [nf (79 + r) j (by omega)]
    exact K.2.1 r j g1 g2 (by omega)
theorem TPl_f {M M1 : mm_M} {s : x_S} (h : ∀ a i : Nat, (49 ≤ a ∧ a ≤ 66) → M1.2.1 a i = M.2.1 a i ∧ M1.2.2.1 a i = M.2.2.1 a i) (hr : M1.2.2.2 0 8 = M.2.2.2 0 8) (H : TPl M s) : TPl M1 s := by
  obtain ⟨p, hp, e, H⟩ := H
  exact ⟨p, hp, by rw [hr]; exact e, PLs2_f (fun a i z => h a i (by omega)) H⟩
theorem AL_F {M M1 : mm_M} {P : Nat → Nat → Prop} (F : FR P M M1) (h : ∀ a i : Nat, (49 ≤ a ∧ a ≤ 66 ∨ a = 77 ∧ 11 ≤ i ∧ i ≤ 13 ∨ 80 ≤ a ∧ a ≤ 87) → ¬ P a i) (H : AL M) : AL M1 := by
  obtain ⟨s, h1, h2⟩ := H
  exact ⟨s, TPl_f (fun a i z => F.2.2 a i (h a i (by omega))) (by rw [F.2.1]) h1, PLk2_f (fun a i z => (F.2.2 a i (h a i (by omega))).1) (fun i _ => (F.2.2 87 i (h 87 i (by omega))).2) h2⟩
theorem AL_K {M M1 : mm_M} (K : M1.2.1 = M.2.1) (kr : M1.2.2.2 = M.2.2.2) (kl : ∀ a i : Nat, a ≠ 125 → M1.2.2.1 a i = M.2.2.1 a i) (H : AL M) : AL M1 := by
  obtain ⟨s, h1, h2⟩ := H
  exact ⟨s, TPl_f (fun a i z => ⟨by rw [K], kl a i (by omega)⟩) (by rw [kr]) h1, PLk2_f (fun a i z => by rw [K]) (fun i _ => kl 87 i (by decide)) h2⟩
theorem AL_X {M M1 : mm_M} {P : Nat → Nat → Prop} (F : FRX P M M1) (h : ∀ a i : Nat, (49 ≤ a ∧ a ≤ 66 ∨ a = 77 ∧ 11 ≤ i ∧ i ≤ 13 ∨ 80 ≤ a ∧ a ≤ 87) → ¬ P a i) (hr : M1.2.2.2 0 8 = M.2.2.2 0 8) (H : AL M) : AL M1 := by
  obtain ⟨s, h1, h2⟩ := H
  exact ⟨s, TPl_f (fun a i z => F.2 a i (h a i (by omega))) hr h1, PLk2_f (fun a i z => (F.2 a i (h a i (by omega))).1) (fun i _ => (F.2 87 i (h 87 i (by omega))).2) h2⟩
theorem NE_r {M M1 : mm_M} (h : M1.2.2.2 = M.2.2.2) (H : NE M) : NE M1 := by
  unfold NE at H ⊢
  rw [h]
  exact H
theorem NE_p {M : mm_M} {p pz q qz : Nat} (h : g_PQ M p pz q qz) (H : NE M) : p ≠ pz := fun z => H (by rw [h.1, h.2.1, z])
theorem NE_q {M M1 : mm_M} {p pz q qz : Nat} (h : g_PQ M p pz q qz) (h1 : g_QQ M1 p pz q qz) (H : NE M) : NE M1 := by
  unfold NE
  rcases h1 with h1 | h1
  · rw [h1.1, h1.2.1, ← h.1, ← h.2.1]; exact H
  · rw [h1.1, h1.2.1, ← h.1, ← h.2.1]; exact H
theorem QQ_8 {M M1 : mm_M} {p pz q qz : Nat} (h : g_PQ M p pz q qz) (h1 : g_QQ M1 p pz q qz) : M1.2.2.2 0 8 = M.2.2.2 0 8 := by
  rcases h1 with h1 | h1
  · rw [h1.1, h.1]
  · rw [h1.1, h.1]
/-- plan, on both sides -/
theorem AL_p {M M1 M2 : mm_M} {p pz q qz : Nat} {R : x_Res} {r r2 : Int} {P2 : Nat → Nat → Prop} (H : AL M) (hq : g_PQ M p pz q qz) (e : r = r2) (pf : r < 0 → ∀ s9 : x_S, PLs2 M p s9 → TPl M1 s9) (ps : 0 ≤ r → ∃ s2 : x_S, R = some (r, s2) ∧ TPl M1 s2) (hk : ∀ a i : Nat, 77 ≤ a → M1.2.1 a i = M.2.1 a i ∧ M1.2.2.1 a i = M.2.2.1 a i) (F : FR P2 M1 M2) (h2 : ∀ a i : Nat, (49 ≤ a ∧ a ≤ 66) → ¬ P2 a i) (kf : r2 < 0 → ∀ s9 : x_S, PLk2 M1 s9 → PLk2 M2 s9) (ks : 0 ≤ r2 → ∃ s2 : x_S, R = some (r2, s2) ∧ PLk2 M2 s2) : AL M2 := by
  have tr : ∀ s, TPl M1 s → TPl M2 s := fun s h => TPl_f (fun a i z => F.2.2 a i (h2 a i z)) (by rw [F.2.1]) h
  by_cases g : r < 0
  · obtain ⟨s, ⟨p2, hp2, e2, h1⟩, hk1⟩ := H
    have ep : p2 = p := by
      have := hq.1
      rw [e2] at this
      exact Option.some.inj this
    subst ep
    exact ⟨s, tr s (pf g s h1), kf (by omega) s (PLk2_f (fun a i z => (hk a i (by omega)).1) (fun i _ => (hk 87 i (by decide)).2) hk1)⟩
  · obtain ⟨s2, e1, t1⟩ := ps (by omega)
    obtain ⟨s3, e3, k3⟩ := ks (by omega)
    have es : s2 = s3 := by
      rw [e1] at e3
      exact congrArg Prod.snd (Option.some.inj e3)
    subst es
    exact ⟨s2, tr s2 t1, k3⟩
end
section
theorem PLs_n {M : mm_M} {p : Nat} {s : x_S} {v : Int} {n : Int} (H : PLs M p s) (hn : n = s.2.1) : x_find (fun k => (M.2.1 (p + 1) k).toInt) v n.toNat 0 = x_fn s 1 v := by
  unfold x_fn
  rw [if_pos (by decide), hn]
  exact x_find_c _ 0 (fun i h1 h2 => H.2.2.2.2.1 1 i (by decide) (by decide) (by omega))
theorem PLs_w {M : mm_M} {p : Nat} {s : x_S} {v : Int} {n : Int} (H : PLs M p s) (hn : n = s.2.2.1) : x_find (fun k => (M.2.1 (p + 6) k).toInt) v n.toNat 0 = x_fn s 6 v := by
  unfold x_fn
  rw [if_neg (by decide), hn]
  exact x_find_c _ 0 (fun i h1 h2 => H.2.2.2.2.2 6 i (by decide) (by decide) (by omega))
theorem PLs_r {M : mm_M} {p : Nat} {s : x_S} {k : Int} {v : Int32} (H : PLs M p s) (r : Nat) (h1 : 1 ≤ r) (h2 : r ≤ 5) (h0 : 0 ≤ k) (hk : k < s.2.1) (hv : M.2.1 (p + r) k.toNat = v) : v.toInt = x_row s r k := by
  rw [← hv]
  exact H.2.2.2.2.1 r k.toNat h1 h2 (by omega)
theorem PLk_r {M : mm_M} {s : x_S} {k : Int} {v : Int32} (H : PLk M s) (r : Nat) (a : Nat) (ha : a = 79 + r) (h1 : 1 ≤ r) (h2 : r ≤ 5) (h0 : 0 ≤ k) (hk : k < s.2.1) (hv : M.2.1 a k.toNat = v) : v.toInt = x_row s r k := by
  rw [← hv, ha]
  exact H.2.2.2.2.1 r k.toNat h1 h2 (by omega)
theorem PLk_w {M : mm_M} {s : x_S} {k : Int} {v : Int32} (H : PLk M s) (r : Nat) (a : Nat) (ha : a = 79 + r) (h1 : 6 ≤ r) (h2 : r ≤ 7) (h0 : 0 ≤ k) (hk : k < s.2.2.1) (hv : M.2.1 a k.toNat = v) : v.toInt = x_row s r k := by
  rw [← hv, ha]
  exact H.2.2.2.2.2 r k.toNat h1 h2 (by omega)
theorem AL_u {M : mm_M} {p pz q qz : Nat} (H : AL M) (hq : g_PQ M p pz q qz) : ∃ s : x_S, PLs2 M p s ∧ PLk2 M s := by
  obtain ⟨s, ⟨p2, hp2, e2, h1⟩, hk1⟩ := H
  have ep : p2 = p := by
    have := hq.1
    rw [e2] at this
    exact Option.some.inj this
  subst ep
  exact ⟨s, h1, hk1⟩
theorem TV_e {M M1 M2 : mm_M} {z : Int32} (e : (M.2.1 17 4).toInt = (M.2.1 77 41).toInt) (h1 : M1.2.1 17 4 = M.2.1 17 4 ^^^ z) (k1 : M2.2.1 17 4 = M1.2.1 17 4) (k2 : M1.2.1 77 41 = M.2.1 77 41) (h2 : M2.2.1 77 41 = M1.2.1 77 41 ^^^ z) : (M2.2.1 17 4).toInt = (M2.2.1 77 41).toInt := by
  rw [k1, h1, h2, k2, Int32.toInt_inj.mp e]
/-! codes of values -/
noncomputable def x_cd (s : x_S) (f v : Int) : Int64 := if 0 ≤ f ∧ f < s.2.1 ∧ ¬ x_row s 2 f = 3 ∧ 0 ≤ v ∧ v < x_row s 5 f then (if x_row s 2 f = 1 ∧ v < 10 then (fr_S.getD v.toNat 0).toInt64 else if x_row s 2 f = 2 ∧ v < 10 then (fr_P.getD v.toNat 0).toInt64 else x_bit v) <<< x_sh (x_row s 3 f) else 0
noncomputable def g_W2 (X : mm_X) : Prop := ∀ j : Nat, j < 10 → (X 2).2 j = fr_S.getD j 0 ∧ (X 3).2 j = fr_P.getD j 0
noncomputable def W8 (M : mm_M) : Prop := ∀ j : Nat, j < 10 → M.2.1 88 j = fr_S.getD j 0 ∧ M.2.1 89 j = fr_P.getD j 0
theorem W8_f {M M1 : mm_M} (h : ∀ a i, 88 ≤ a ∧ a ≤ 89 → M1.2.1 a i = M.2.1 a i) (H : W8 M) : W8 M1 := fun j hj => by
  rw [h 88 j (by omega), h 89 j (by omega)]
  exact H j hj
section CD
variable {s : x_S} {f v : Int} {vf vv w : Int32}
theorem x_cd_0 (h : ¬ (0 ≤ f ∧ f < s.2.1 ∧ ¬ x_row s 2 f = 3 ∧ 0 ≤ v ∧ v < x_row s 5 f)) : (0 : Int64) = x_cd s f v := by
  unfold x_cd
  rw [if_neg h]
theorem x_cd_b (h : 0 ≤ f ∧ f < s.2.1 ∧ ¬ x_row s 2 f = 3 ∧ 0 ≤ v ∧ v < x_row s 5 f) (h1 : ¬ (x_row s 2 f = 1 ∧ v < 10)) (h2 : ¬ (x_row s 2 f = 2 ∧ v < 10)) (hf : vf.toInt = x_row s 3 f) (hv : vv.toInt = v) : ((1 : Int64) <<< (vv.toInt64 &&& 63)) <<< (vf.toInt64 &&& 63) = x_cd s f v := by
  unfold x_cd
  rw [if_pos h, if_neg h1, if_neg h2, x_sh_e hf, x_sh_e hv]
  rfl
theorem x_cd_s (h : 0 ≤ f ∧ f < s.2.1 ∧ ¬ x_row s 2 f = 3 ∧ 0 ≤ v ∧ v < x_row s 5 f) (h1 : x_row s 2 f = 1 ∧ v < 10) (hf : vf.toInt = x_row s 3 f) (hw : fr_S.getD v.toNat 0 = w) : w.toInt64 <<< (vf.toInt64 &&& 63) = x_cd s f v := by
  unfold x_cd
  rw [if_pos h, if_pos h1, x_sh_e hf, hw]
theorem x_cd_p (h : 0 ≤ f ∧ f < s.2.1 ∧ ¬ x_row s 2 f = 3 ∧ 0 ≤ v ∧ v < x_row s 5 f) (h1 : x_row s 2 f = 2 ∧ v < 10) (hf : vf.toInt = x_row s 3 f) (hw : fr_P.getD v.toNat 0 = w) : w.toInt64 <<< (vf.toInt64 &&& 63) = x_cd s f v := by
  unfold x_cd
  rw [if_pos h, if_neg (by omega), if_pos h1, x_sh_e hf, hw]
end CD
theorem PLs_v {M : mm_M} {p : Nat} {s : x_S} {k : Int} {v : Int32} (H : PLs M p s) (r : Nat) (h1 : 6 ≤ r) (h2 : r ≤ 7) (h0 : 0 ≤ k) (hk : k < s.2.2.1) (hv : M.2.1 (p + r) k.toNat = v) : v.toInt = x_row s r k := by
  rw [← hv]
  exact H.2.2.2.2.2 r k.toNat h1 h2 (by omega)
noncomputable def x_shz (b k : Int) : Int := ((Int32.ofInt b) >>> (Int32.ofInt k)).toInt
theorem x_shz_e {b w z : Int32} {k : Int} (hw : w.toInt = k) (e : b >>> w = z) : z.toInt = x_shz b.toInt k := by
  rw [← e]
  unfold x_shz
  rw [Int32.ofInt_toInt, ← hw, Int32.ofInt_toInt]
theorem x_sm32 : ∀ k : Fin 25, ((Int32.ofInt (k.val : Int)).toBitVec.smod 32).toNat = k.val := by decide +kernel
theorem x_shz_0 {b : Int32} {k : Int} (h0 : 0 ≤ b.toInt) (k0 : 0 ≤ k) (k1 : k ≤ 24) (h : x_shz b.toInt k = 0) : b.toInt ≤ 16777215 := by
  unfold x_shz at h
  rw [Int32.ofInt_toInt] at h
  have e : (b >>> Int32.ofInt k).toInt = b.toInt / (2 ^ k.toNat : Int) := by
    show (b >>> Int32.ofInt k).toBitVec.toInt = _
    rw [Int32.toBitVec_shiftRight]
    have q : ((Int32.ofInt k).toBitVec.smod 32).toNat = k.toNat := by
      have := x_sm32 ⟨k.toNat, by omega⟩
      simp only [show ((k.toNat : Nat) : Int) = k by omega] at this
      exact this
    show (b.toBitVec.sshiftRight ((Int32.ofInt k).toBitVec.smod 32).toNat).toInt = _
    rw [q, BitVec.toInt_sshiftRight, Int.shiftRight_eq_div_pow]
    push_cast
    rfl
  rw [e] at h
  have p24 : (2 ^ k.toNat : Int) ≤ 16777216 := by
    have : (2 ^ k.toNat : Nat) ≤ 2 ^ 24 := Nat.pow_le_pow_right (by decide) (by omega)
    have h2 : ((2 ^ k.toNat : Nat) : Int) ≤ ((2 ^ 24 : Nat) : Int) := Int.ofNat_le.mpr this
    have h3 : ((2 ^ k.toNat : Nat) : Int) = (2 : Int) ^ k.toNat := by push_cast; rfl
    rw [← h3]
    omega
  have pp : (0 : Int) < 2 ^ k.toNat := Int.pow_pos (by decide)
  have := Int.lt_ediv_add_one_mul_self b.toInt pp
  rw [h] at this
  omega
/-! counting bits -/
theorem n_land8 {a b m k : Nat} (hb : b < 256) (hk : k < 256) : (256 * a + b) &&& (256 * m + k) = 256 * (a &&& m) + (b &&& k) := by
  apply Nat.eq_of_testBit_eq
  intro i
  have h1 : (b &&& k) < 2 ^ 8 := Nat.lt_of_le_of_lt Nat.and_le_left hb
  rw [Nat.testBit_and, show 256 * a + b = 2 ^ 8 * a + b from rfl, show 256 * m + k = 2 ^ 8 * m + k from rfl, show 256 * (a &&& m) + (b &&& k) = 2 ^ 8 * (a &&& m) + (b &&& k) from rfl, Nat.testBit_two_pow_mul_add a hb, Nat.testBit_two_pow_mul_add m hk, Nat.testBit_two_pow_mul_add (a &&& m) h1]
  by_cases g : i < 8
  · rw [if_pos g, if_pos g, if_pos g, Nat.testBit_and]
  · rw [if_neg g, if_neg g, if_neg g, Nat.testBit_and]
noncomputable def n_f1 (b : Nat) : Nat := b - ((b / 2) &&& 0x55)
noncomputable def n_f2 (b : Nat) : Nat := (n_f1 b &&& 0x33) + ((n_f1 b / 4) &&& 0x33)
noncomputable def n_pc (b : Nat) : Nat := (n_f2 b + n_f2 b / 16) &&& 0x0f
theorem n_t1 : ∀ b : Fin 256, ∀ e : Fin 2, (e.val * 128 + b.val / 2) &&& 0x55 = (b.val / 2) &&& 0x55 ∧ ((b.val / 2) &&& 0x55) ≤ b.val ∧ (b.val / 2) &&& 0x5555 = (b.val / 2) &&& 0x55 ∧ n_f1 b.val < 256 := by decide +kernel
theorem n_t2 : ∀ b : Fin 256, ∀ e : Fin 4, (e.val * 64 + n_f1 b.val / 4) &&& 0x33 = (n_f1 b.val / 4) &&& 0x33 ∧ (n_f1 b.val / 4) &&& 0x3333 = (n_f1 b.val / 4) &&& 0x33 ∧ n_f1 b.val &&& 0x3333 = n_f1 b.val &&& 0x33 ∧ n_f2 b.val % 16 ≤ 4 ∧ n_f2 b.val / 16 ≤ 4 := by decide +kernel
theorem n_t3 : ∀ b : Fin 256, ∀ e : Fin 5, (n_f2 b.val + (e.val * 16 + n_f2 b.val / 16)) &&& 0x0f = n_pc b.val ∧ (n_f2 b.val + n_f2 b.val / 16) &&& 0x0f0f = n_pc b.val ∧ n_pc b.val ≤ 8 := by decide +kernel
theorem n_t4 : ∀ k : Fin 25, k.val &&& 63 = k.val := by decide +kernel
noncomputable def n_bc (n : Nat) : Nat :=
  ((fun c => ((fun d => (d + d / 65536) &&& 0x3f) (c + c / 256))) (((fun b => (b + b / 16) &&& 0x0f0f0f0f) ((fun a => (a &&& 0x33333333) + ((a / 4) &&& 0x33333333)) (n - ((n / 2) &&& 0x55555555))))))
theorem n_bc_e {b0 b1 b2 : Nat} (h0 : b0 < 256) (h1 : b1 < 256) (h2 : b2 < 256) : n_bc (256 * (256 * b2 + b1) + b0) = n_pc b0 + n_pc b1 + n_pc b2 := by
  have t10 := n_t1 ⟨b0, h0⟩ ⟨b1 % 2, by omega⟩
  have t11 := n_t1 ⟨b1, h1⟩ ⟨b2 % 2, by omega⟩
  have t12 := n_t1 ⟨b2, h2⟩ ⟨0, by omega⟩
  simp only at t10 t11 t12
  have e1 : (256 * (256 * b2 + b1) + b0) / 2 = 256 * (256 * (b2 / 2) + (b2 % 2 * 128 + b1 / 2)) + (b1 % 2 * 128 + b0 / 2) := by omega
  have e2 : ((256 * (256 * b2 + b1) + b0) / 2) &&& 0x55555555 = 256 * (256 * ((b2 / 2) &&& 0x55) + ((b1 / 2) &&& 0x55)) + ((b0 / 2) &&& 0x55) := by
    rw [e1, show (0x55555555 : Nat) = 256 * (256 * 0x5555 + 0x55) + 0x55 from rfl, n_land8 (by omega) (by omega), n_land8 (by omega) (by omega), t10.1, t11.1, t12.2.2.1]
  have e3 : 256 * (256 * b2 + b1) + b0 - (((256 * (256 * b2 + b1) + b0) / 2) &&& 0x55555555) = 256 * (256 * n_f1 b2 + n_f1 b1) + n_f1 b0 := by
    rw [e2]
    unfold n_f1
    omega
  have t20 := n_t2 ⟨b0, h0⟩ ⟨n_f1 b1 % 4, by omega⟩
  have t21 := n_t2 ⟨b1, h1⟩ ⟨n_f1 b2 % 4, by omega⟩
  have t22 := n_t2 ⟨b2, h2⟩ ⟨0, by omega⟩
  simp only at t20 t21 t22
  have e4 : (256 * (256 * n_f1 b2 + n_f1 b1) + n_f1 b0) &&& 0x33333333 = 256 * (256 * (n_f1 b2 &&& 0x33) + (n_f1 b1 &&& 0x33)) + (n_f1 b0 &&& 0x33) := by
    rw [show (0x33333333 : Nat) = 256 * (256 * 0x3333 + 0x33) + 0x33 from rfl, n_land8 (by omega) (by omega), n_land8 (by omega) (by omega), t22.2.2.1]
  have e5 : ((256 * (256 * n_f1 b2 + n_f1 b1) + n_f1 b0) / 4) &&& 0x33333333 = 256 * (256 * ((n_f1 b2 / 4) &&& 0x33) + ((n_f1 b1 / 4) &&& 0x33)) + ((n_f1 b0 / 4) &&& 0x33) := by
    rw [show (256 * (256 * n_f1 b2 + n_f1 b1) + n_f1 b0) / 4 = 256 * (256 * (n_f1 b2 / 4) + (n_f1 b2 % 4 * 64 + n_f1 b1 / 4)) + (n_f1 b1 % 4 * 64 + n_f1 b0 / 4) by omega, show (0x33333333 : Nat) = 256 * (256 * 0x3333 + 0x33) + 0x33 from rfl, n_land8 (by omega) (by omega), n_land8 (by omega) (by omega), t20.1, t21.1, t22.2.1]
  have e6 : ((256 * (256 * n_f1 b2 + n_f1 b1) + n_f1 b0) &&& 0x33333333) + (((256 * (256 * n_f1 b2 + n_f1 b1) + n_f1 b0) / 4) &&& 0x33333333) = 256 * (256 * n_f2 b2 + n_f2 b1) + n_f2 b0 := by
    rw [e4, e5]
    unfold n_f2
    omega
  have t30 := n_t3 ⟨b0, h0⟩ ⟨n_f2 b1 % 16, by omega⟩
  have t31 := n_t3 ⟨b1, h1⟩ ⟨n_f2 b2 % 16, by omega⟩
  have t32 := n_t3 ⟨b2, h2⟩ ⟨0, by omega⟩
  simp only at t30 t31 t32
  have e7 : (256 * (256 * n_f2 b2 + n_f2 b1) + n_f2 b0 + (256 * (256 * n_f2 b2 + n_f2 b1) + n_f2 b0) / 16) &&& 0x0f0f0f0f = 256 * (256 * n_pc b2 + n_pc b1) + n_pc b0 := by
    rw [show 256 * (256 * n_f2 b2 + n_f2 b1) + n_f2 b0 + (256 * (256 * n_f2 b2 + n_f2 b1) + n_f2 b0) / 16 = 256 * (256 * (n_f2 b2 + n_f2 b2 / 16) + (n_f2 b1 + (n_f2 b2 % 16 * 16 + n_f2 b1 / 16))) + (n_f2 b0 + (n_f2 b1 % 16 * 16 + n_f2 b0 / 16)) by omega, show (0x0f0f0f0f : Nat) = 256 * (256 * 0x0f0f + 0x0f) + 0x0f from rfl, n_land8 (by omega) (by omega), n_land8 (by omega) (by omega), t30.1, t31.1, t32.2.1]
  have t4 := n_t4 ⟨n_pc b0 + n_pc b1 + n_pc b2, by omega⟩
  simp only at t4
  unfold n_bc
  simp only [e3, e6, e7]
  rw [show 256 * (256 * n_pc b2 + n_pc b1) + n_pc b0 + (256 * (256 * n_pc b2 + n_pc b1) + n_pc b0) / 256 + (256 * (256 * n_pc b2 + n_pc b1) + n_pc b0 + (256 * (256 * n_pc b2 + n_pc b1) + n_pc b0) / 256) / 65536 = 256 * (256 * n_pc b2 + (n_pc b1 + n_pc b2)) + (n_pc b0 + n_pc b1 + n_pc b2) by omega, show (0x3f : Nat) = 256 * 0 + 0x3f from rfl, n_land8 (by omega) (by omega), Nat.and_zero, t4]
  omega
theorem i_and_n {x y : Int32} (hx : 0 ≤ x.toInt) (hy : 0 ≤ y.toInt) : (x &&& y).toInt = ((x.toInt.toNat &&& y.toInt.toNat : Nat) : Int) := by
  have mx : x.toBitVec.msb = false := by
    rw [BitVec.msb_eq_toInt]
    have : 0 ≤ x.toBitVec.toInt := hx
    simp only [decide_eq_false_iff_not]; omega
  have my : y.toBitVec.msb = false := by
    rw [BitVec.msb_eq_toInt]
    have : 0 ≤ y.toBitVec.toInt := hy
    simp only [decide_eq_false_iff_not]; omega
  have ex : x.toInt = (x.toBitVec.toNat : Int) := by
    show x.toBitVec.toInt = _
    rw [BitVec.toInt_eq_toNat_of_msb mx]
  have ey : y.toInt = (y.toBitVec.toNat : Int) := by
    show y.toBitVec.toInt = _
    rw [BitVec.toInt_eq_toNat_of_msb my]
  show (x &&& y).toBitVec.toInt = _
  rw [Int32.toBitVec_and, BitVec.toInt_eq_toNat_of_msb (by rw [BitVec.msb_and, mx]; rfl), BitVec.toNat_and, ex, ey]
  rfl
theorem i_ushr {x : Int32} {k : Nat} (hk : k < 32) (hx : 0 ≤ x.toInt) : ((x.toUInt32 >>> ((Int32.ofNat k).toUInt32 &&& Int32.toUInt32 31)).toInt32).toInt = x.toInt / (2 ^ k : Int) := by
  have mx : x.toBitVec.msb = false := by
    rw [BitVec.msb_eq_toInt]
    have : 0 ≤ x.toBitVec.toInt := hx
    simp only [decide_eq_false_iff_not]; omega
  have ex : x.toInt = (x.toBitVec.toNat : Int) := by
    show x.toBitVec.toInt = _
    rw [BitVec.toInt_eq_toNat_of_msb mx]
  have e1 : (x.toUInt32 >>> ((Int32.ofNat k).toUInt32 &&& Int32.toUInt32 31)).toNat = x.toBitVec.toNat / 2 ^ k := by
    rw [UInt32.toNat_shiftRight]
    have e2 : ((Int32.ofNat k).toUInt32 &&& Int32.toUInt32 31).toNat = k := by
      have := (show ∀ j : Fin 32, ((Int32.ofNat j.val).toUInt32 &&& Int32.toUInt32 31).toNat = j.val from by decide +kernel) ⟨k, hk⟩
      exact this
    rw [e2, Nat.mod_eq_of_lt hk, Nat.shiftRight_eq_div_pow]
    rfl
  have lt : x.toBitVec.toNat < 2147483648 := by
    have := Int32.toInt_lt x
    omega
  have e3 : ((x.toUInt32 >>> ((Int32.ofNat k).toUInt32 &&& Int32.toUInt32 31)).toInt32).toBitVec.toNat = x.toBitVec.toNat / 2 ^ k := e1
  have le : x.toBitVec.toNat / 2 ^ k ≤ x.toBitVec.toNat := Nat.div_le_self _ _
  show ((x.toUInt32 >>> ((Int32.ofNat k).toUInt32 &&& Int32.toUInt32 31)).toInt32).toBitVec.toInt = _
  rw [BitVec.toInt_eq_toNat_cond, e3, if_pos (by omega), ex]
  exact Int.natCast_ediv _ _ |>.trans (by push_cast; rfl)
theorem bc_all {x v1 v2 v3 v4 v5 v6 v7 v8 v9 v10 v11 v12 v13 v14 r : Int} (h0 : 0 ≤ x) (h1 : x < 16777216) (a1 : v1 = x / 2) (a2 : v2 = ((v1.toNat &&& 0x55555555 : Nat) : Int)) (a3 : v3 = x - v2) (a4 : v4 = ((v3.toNat &&& 0x33333333 : Nat) : Int)) (a5 : v5 = v3 / 4) (a6 : v6 = ((v5.toNat &&& 0x33333333 : Nat) : Int)) (a7 : v7 = v4 + v6) (a8 : v8 = v7 / 16) (a9 : v9 = v7 + v8) (a10 : v10 = ((v9.toNat &&& 0x0f0f0f0f : Nat) : Int)) (a11 : v11 = v10 / 256) (a12 : v12 = v10 + v11) (a13 : v13 = v12 / 65536) (a14 : v14 = v12 + v13) (a15 : r = ((v14.toNat &&& 63 : Nat) : Int)) : r = (n_bc x.toNat : Nat) := by
  have b1 : v1.toNat = x.toNat / 2 := by omega
  rw [b1] at a2
  have l2 : (x.toNat / 2 &&& 0x55555555) ≤ x.toNat / 2 := Nat.and_le_left
  have b3 : v3.toNat = x.toNat - (x.toNat / 2 &&& 0x55555555) := by omega
  rw [b3] at a4
  have b5 : v5.toNat = (x.toNat - (x.toNat / 2 &&& 0x55555555)) / 4 := by omega
  rw [b5] at a6
  have b9 : v9.toNat = ((x.toNat - (x.toNat / 2 &&& 0x55555555)) &&& 0x33333333) + ((x.toNat - (x.toNat / 2 &&& 0x55555555)) / 4 &&& 0x33333333) + (((x.toNat - (x.toNat / 2 &&& 0x55555555)) &&& 0x33333333) + ((x.toNat - (x.toNat / 2 &&& 0x55555555)) / 4 &&& 0x33333333)) / 16 := by omega
  rw [b9] at a10
  rw [a15]
  unfold n_bc
  simp only
  generalize hc : (((x.toNat - (x.toNat / 2 &&& 0x55555555)) &&& 0x33333333) + ((x.toNat - (x.toNat / 2 &&& 0x55555555)) / 4 &&& 0x33333333) + (((x.toNat - (x.toNat / 2 &&& 0x55555555)) &&& 0x33333333) + ((x.toNat - (x.toNat / 2 &&& 0x55555555)) / 4 &&& 0x33333333)) / 16 &&& 0x0f0f0f0f) = c at a10 ⊢
  have c11 : v11 = ((c / 256 : Nat) : Int) := by omega
  have c12 : v12 = ((c + c / 256 : Nat) : Int) := by omega
  have c13 : v13 = (((c + c / 256) / 65536 : Nat) : Int) := by omega
  have b14 : v14.toNat = c + c / 256 + (c + c / 256) / 65536 := by omega
  rw [b14]
/-- how many of the first k bits -/
noncomputable def x_ct (n : Nat) : Nat → Nat
  | 0 => 0
  | k + 1 => x_ct n k + n / 2 ^ k % 2
theorem n_pc_8 : ∀ b : Fin 256, n_pc b.val = x_ct b.val 8 := by decide +kernel
theorem x_ct_lo {n m : Nat} : ∀ k, (∀ i, i < k → n / 2 ^ i % 2 = m / 2 ^ i % 2) → x_ct n k = x_ct m k
  | 0, _ => rfl
  | k + 1, h => by rw [x_ct, x_ct, x_ct_lo k (fun i hi => h i (by omega)), h k (by omega)]
theorem x_ct_add {n : Nat} (j : Nat) : ∀ k, x_ct n (j + k) = x_ct n j + x_ct (n / 2 ^ j) k
  | 0 => by rw [Nat.add_zero, x_ct]; rfl
  | k + 1 => by rw [← Nat.add_assoc, x_ct, x_ct_add j k, x_ct, Nat.div_div_eq_div_mul, ← Nat.pow_add]; omega
theorem x_ct_z {n : Nat} : ∀ k, n = 0 → x_ct n k = 0
  | 0, _ => rfl
  | k + 1, h => by rw [x_ct, x_ct_z k h, h, Nat.zero_div]
theorem n_bc_ct {n : Nat} (h : n < 16777216) : n_bc n = x_ct n 62 := by
  have e : n = 256 * (256 * (n / 65536) + n / 256 % 256) + n % 256 := by omega
  have e1 : n_bc n = n_pc (n % 256) + n_pc (n / 256 % 256) + n_pc (n / 65536) := by
    conv => lhs; rw [e]
    exact n_bc_e (by omega) (by omega) (by omega)
  have p0 := n_pc_8 ⟨n % 256, by omega⟩
  have p1 := n_pc_8 ⟨n / 256 % 256, by omega⟩
  have p2 := n_pc_8 ⟨n / 65536, by omega⟩
  simp only at p0 p1 p2
  have lo : ∀ m : Nat, x_ct (m % 256) 8 = x_ct m 8 := fun m => x_ct_lo 8 (fun i hi => by
    rcases (show i = 0 ∨ i = 1 ∨ i = 2 ∨ i = 3 ∨ i = 4 ∨ i = 5 ∨ i = 6 ∨ i = 7 by omega) with rfl | rfl | rfl | rfl | rfl | rfl | rfl | rfl <;> simp only [Nat.reducePow] <;> omega)
  rw [e1, p0, p1, p2, lo, lo, show (62 : Nat) = 8 + (8 + (8 + 38)) from rfl, x_ct_add 8, x_ct_add 8, x_ct_add 8, x_ct_z 38 (by simp only [Nat.reducePow]; omega)]
  simp only [Nat.reducePow, Nat.div_div_eq_div_mul, Nat.reduceMul]
  omega
theorem x_smod_64 : ∀ h : Fin 64, (((Int32.ofInt (h.val : Int)).toInt64 &&& 63).toBitVec.smod 64).toNat = h.val := by decide +kernel
theorem x_shr_64 {bits : Int64} {h : Nat} (hh : h < 64) : (bits >>> ((Int32.ofInt (h : Int)).toInt64 &&& 63)) &&& 1 = 1 ↔ bits.toBitVec.getLsbD h = true := by
  have e : ∀ j, j < 64 → ((bits >>> ((Int32.ofInt (h : Int)).toInt64 &&& 63)) &&& 1).toBitVec.getLsbD j = (bits.toBitVec.getLsbD h && decide (j = 0)) := fun j hj => by
    rw [Int64.toBitVec_and, BitVec.getLsbD_and, Int64.toBitVec_shiftRight]
    have q : (((Int32.ofInt (h : Int)).toInt64 &&& 63).toBitVec.smod 64).toNat = h := x_smod_64 ⟨h, hh⟩
    have o : (1 : Int64).toBitVec.getLsbD j = decide (j = 0) := by
      show (1#64).getLsbD j = _
      rw [BitVec.getLsbD_one]; simp
    show ((bits.toBitVec.sshiftRight (((Int32.ofInt (h : Int)).toInt64 &&& 63).toBitVec.smod 64).toNat).getLsbD j && (1 : Int64).toBitVec.getLsbD j) = _
    rw [q, o]
    by_cases g : j = 0
    · subst g
      rw [BitVec.getLsbD_sshiftRight]
      simp
      intro z; omega
    · simp [g]
  constructor
  · intro z
    have q := e 0 (by decide)
    rw [z] at q
    simpa using q.symm
  · intro z
    apply Int64.toBitVec_inj.mp
    apply BitVec.eq_of_getLsbD_eq
    intro j hj
    rw [e j hj, z]
    show _ = (1#64).getLsbD j
    rw [BitVec.getLsbD_one]; simp
theorem x_many {b v : Int32} {h : Int} (hb : 0 ≤ b.toInt) (hv : v.toInt = h) (h0 : 0 ≤ h) (h1 : h < 62) : x_eq ((b.toInt64 >>> (v.toInt64 &&& 63)) &&& 1) 1 = 1 ↔ b.toInt.toNat / 2 ^ h.toNat % 2 = 1 := by
  have ev : v = Int32.ofInt ((h.toNat : Nat) : Int) := by rw [show ((h.toNat : Nat) : Int) = h by omega, ← hv, Int32.ofInt_toInt]
  have mb : b.toBitVec.msb = false := by
    rw [BitVec.msb_eq_toInt]
    have : 0 ≤ b.toBitVec.toInt := hb
    simp only [decide_eq_false_iff_not]; omega
  have eb : b.toInt.toNat = b.toBitVec.toNat := by
    have : b.toInt = (b.toBitVec.toNat : Int) := by
      show b.toBitVec.toInt = _
      rw [BitVec.toInt_eq_toNat_of_msb mb]
    omega
  rw [x_eq_1, ev, x_shr_64 (by omega : h.toNat < 64), Int32.toBitVec_toInt64, BitVec.getLsbD_signExtend, eb]
  by_cases g : h.toNat < 32
  · rw [if_pos g, show decide (h.toNat < 64) = true from decide_eq_true (by omega), Bool.true_and]
    show b.toBitVec.toNat.testBit h.toNat = true ↔ _
    rw [Nat.testBit_eq_decide_div_mod_eq, decide_eq_true_eq]
  · rw [if_neg g, mb, Bool.and_false]
    have lt : b.toBitVec.toNat < 2 ^ 32 := b.toBitVec.isLt
    have : b.toBitVec.toNat / 2 ^ h.toNat = 0 := Nat.div_eq_of_lt (Nat.lt_of_lt_of_le lt (Nat.pow_le_pow_right (by decide) (by omega)))
    rw [this]
    exact ⟨fun z => absurd z (by decide), fun z => absurd z (by decide)⟩
theorem x_ct_s {n : Nat} {k y c c2 : Int} (h0 : 0 ≤ k) (hc : c = ((x_ct n k.toNat : Nat) : Int)) (hy : y = k + 1) (h : n / 2 ^ k.toNat % 2 = 1 ∧ c2 = c + 1 ∨ ¬ n / 2 ^ k.toNat % 2 = 1 ∧ c2 = c) : c2 = ((x_ct n y.toNat : Nat) : Int) := by
  rw [show y.toNat = k.toNat + 1 by omega, x_ct]
  generalize n / 2 ^ k.toNat = q at h ⊢
  omega
/-! a note more: its rows -/
noncomputable def NWc (O M : mm_M) (r : Int) (k f s t : Int32) : Prop := (r < 0 → ∀ a i : Nat, 7 ≤ a ∧ a ≤ 10 → M.2.1 a i = O.2.1 a i) ∧ (0 ≤ r → (∀ a i : Nat, 7 ≤ a ∧ a ≤ 10 → ¬ i = (O.2.1 6 0).toInt.toNat → M.2.1 a i = O.2.1 a i) ∧ M.2.1 7 (O.2.1 6 0).toInt.toNat = k ∧ M.2.1 8 (O.2.1 6 0).toInt.toNat = f ∧ M.2.1 9 (O.2.1 6 0).toInt.toNat = s ∧ M.2.1 10 (O.2.1 6 0).toInt.toNat = t)
noncomputable def NWr (O M : mm_M) (r : Int) (k f s t : Int32) : Prop := (r < 0 → ∀ a i : Nat, 90 ≤ a ∧ a ≤ 93 → M.2.1 a i = O.2.1 a i) ∧ (0 ≤ r → (∀ a i : Nat, 90 ≤ a ∧ a ≤ 93 → ¬ i = (O.2.1 77 29).toInt.toNat → M.2.1 a i = O.2.1 a i) ∧ M.2.1 90 (O.2.1 77 29).toInt.toNat = k ∧ M.2.1 91 (O.2.1 77 29).toInt.toNat = f ∧ M.2.1 92 (O.2.1 77 29).toInt.toNat = s ∧ M.2.1 93 (O.2.1 77 29).toInt.toNat = t)
theorem NWc_n {M M1 : mm_M} {r : Int} {k f s t : Int32} (h : ∀ a i : Nat, 7 ≤ a ∧ a ≤ 10 → M1.2.1 a i = M.2.1 a i) (hr : r < 0) : NWc M M1 r k f s t := ⟨fun _ => h, fun z => by exfalso; omega⟩
theorem NWr_n {M M1 : mm_M} {r : Int} {k f s t : Int32} (h : ∀ a i : Nat, 90 ≤ a ∧ a ≤ 93 → M1.2.1 a i = M.2.1 a i) (hr : r < 0) : NWr M M1 r k f s t := ⟨fun _ => h, fun z => by exfalso; omega⟩
theorem NWc_y {M M1 M2 M3 M4 M5 : mm_M} {r : Int} {k f s t v : Int32} (W1 : M1 = mm_setI M 7 (M.2.1 6 0).toInt.toNat k) (W2 : M2 = mm_setI M1 8 (M.2.1 6 0).toInt.toNat f) (W3 : M3 = mm_setI M2 9 (M.2.1 6 0).toInt.toNat s) (W4 : M4 = mm_setI M3 10 (M.2.1 6 0).toInt.toNat t) (W5 : M5 = mm_setI M4 6 0 v) (hr : 0 ≤ r) : NWc M M5 r k f s t :=
  ⟨fun z => by exfalso; omega, fun _ => ⟨fun a i z z2 => W_n W5 (by omega) (W_n W4 (by omega) (W_n W3 (by omega) (W_n W2 (by omega) (W_n W1 (by omega) rfl)))), W_n W5 (by omega) (W_n W4 (by omega) (W_n W3 (by omega) (W_n W2 (by omega) (W_e W1)))), W_n W5 (by omega) (W_n W4 (by omega) (W_n W3 (by omega) (W_e W2))), W_n W5 (by omega) (W_n W4 (by omega) (W_e W3)), W_n W5 (by omega) (W_e W4)⟩⟩
theorem NWr_y {M M1 M2 M3 M4 M5 : mm_M} {r : Int} {k f s t v : Int32} (W1 : M1 = mm_setI M 90 (M.2.1 77 29).toInt.toNat k) (W2 : M2 = mm_setI M1 91 (M.2.1 77 29).toInt.toNat f) (W3 : M3 = mm_setI M2 92 (M.2.1 77 29).toInt.toNat s) (W4 : M4 = mm_setI M3 93 (M.2.1 77 29).toInt.toNat t) (W5 : M5 = mm_setI M4 77 29 v) (hr : 0 ≤ r) : NWr M M5 r k f s t :=
  ⟨fun z => by exfalso; omega, fun _ => ⟨fun a i z z2 => W_n W5 (by omega) (W_n W4 (by omega) (W_n W3 (by omega) (W_n W2 (by omega) (W_n W1 (by omega) rfl)))), W_n W5 (by omega) (W_n W4 (by omega) (W_n W3 (by omega) (W_n W2 (by omega) (W_e W1)))), W_n W5 (by omega) (W_n W4 (by omega) (W_n W3 (by omega) (W_e W2))), W_n W5 (by omega) (W_n W4 (by omega) (W_e W3)), W_n W5 (by omega) (W_e W4)⟩⟩
theorem NWr_o {O O2 M : mm_M} {r : Int} {k f s t : Int32} (h : ∀ a i : Nat, (a = 77 ∧ i = 29 ∨ 90 ≤ a ∧ a ≤ 93) → O.2.1 a i = O2.2.1 a i) (H : NWr O M r k f s t) : NWr O2 M r k f s t := by
  unfold NWr at H ⊢
  rw [h 77 29 (by omega)] at H
  exact ⟨fun z a i g => (H.1 z a i g).trans (h a i (by omega)), fun z => ⟨fun a i g g2 => ((H.2 z).1 a i g g2).trans (h a i (by omega)), (H.2 z).2⟩⟩
noncomputable def x_tk (m : Int32) : Int32 := if m.toInt = 0 then 2 else 3
theorem x_tk_0 {m : Int32} (h : m.toInt = 0) : x_tk m = 2 := if_pos h
theorem x_tk_1 {m : Int32} (h : ¬ m.toInt = 0) : x_tk m = 3 := if_neg h
theorem x_tk_b (m : Int32) : (x_tk m).toInt = 2 ∨ (x_tk m).toInt = 3 := by
  unfold x_tk
  split
  · exact Or.inl rfl
  · exact Or.inr rfl
end
section
/-! what is known by the first notes: one function of plan and notes, for both sides -/
abbrev x_N := (Nat → Int32) × (Nat → Int32) × (Nat → Int32) × (Nat → Int32)
abbrev x_Kn := (Nat → Int64) × (Nat → Int32) × (Nat → Int32) × (Nat → Int64)
noncomputable def x_upL (f : Nat → Int64) (i : Nat) (v : Int64) : Nat → Int64 := fun j => if j = i then v else f j
noncomputable def x_upI (f : Nat → Int32) (i : Nat) (v : Int32) : Nat → Int32 := fun j => if j = i then v else f j
noncomputable def x_upZ (f : Nat → Int) (i : Nat) (v : Int) : Nat → Int := fun j => if j = i then v else f j
abbrev x_v5 (s : x_S) (ca : Int) (k f g t : Int32) : Prop := ((k.toInt = 0 → 0 ≤ f.toInt ∧ f.toInt < ca ∧ 0 ≤ g.toInt ∧ g.toInt < s.2.1 ∧ ¬ x_row s 2 g.toInt = 3 ∧ 0 ≤ t.toInt ∧ t.toInt < x_row s 5 g.toInt) ∧ (k.toInt = 1 → 0 ≤ f.toInt ∧ f.toInt < ca ∧ 0 ≤ g.toInt ∧ g.toInt < s.2.2.1) ∧ (k.toInt = 2 → 0 ≤ f.toInt ∧ f.toInt < ca) ∧ (k.toInt = 3 → 0 ≤ f.toInt ∧ f.toInt < ca) ∧ (k.toInt = 4 → 0 ≤ f.toInt ∧ f.toInt < s.2.2.1))
noncomputable def x_vn (s : x_S) (ca : Int) (N : x_N) (n : Int) : Prop := ∀ k : Nat, (k : Int) < n → x_v5 s ca (N.1 k) (N.2.1 k) (N.2.2.1 k) (N.2.2.2 k)
noncomputable def x_ap (s : x_S) (N : x_N) (k : Nat) (K : x_Kn) : x_Kn :=
  if (N.1 k).toInt = 0 then (x_upL K.1 (N.2.1 k).toInt.toNat (K.1 (N.2.1 k).toInt.toNat ||| x_cd s (N.2.2.1 k).toInt (N.2.2.2 k).toInt), K.2.1, x_upI K.2.2.1 (8 * (N.2.1 k).toInt.toNat + (N.2.2.1 k).toInt.toNat) (N.2.2.2 k), K.2.2.2)
  else if (N.1 k).toInt = 1 then (x_upL K.1 (N.2.1 k).toInt.toNat (K.1 (N.2.1 k).toInt.toNat ||| K.2.2.2 (N.2.2.1 k).toInt.toNat), x_upI K.2.1 (N.2.1 k).toInt.toNat (K.2.1 (N.2.1 k).toInt.toNat ||| ((1 : Int32) <<< N.2.2.1 k)), K.2.2.1, K.2.2.2)
  else if (N.1 k).toInt = 2 then (x_upL K.1 (N.2.1 k).toInt.toNat (K.1 (N.2.1 k).toInt.toNat ||| ((1 : Int64) <<< ((N.2.2.1 k).toInt64 &&& 63))), K.2.1, K.2.2.1, K.2.2.2)
  else if (N.1 k).toInt = 3 then (x_upL K.1 (N.2.1 k).toInt.toNat (K.1 (N.2.1 k).toInt.toNat &&& (((1 : Int64) <<< ((N.2.2.1 k).toInt64 &&& 63)) ^^^ (-1 : Int64))), K.2.1, K.2.2.1, K.2.2.2)
  else if (N.1 k).toInt = 4 then (K.1, K.2.1, K.2.2.1, x_upL K.2.2.2 (N.2.1 k).toInt.toNat ((N.2.2.1 k).toInt64 <<< x_sh (x_row s 3 (x_row s 7 (N.2.1 k).toInt))))
  else K
noncomputable def x_mk (N : x_N) : Nat → (Nat → Int) → (Nat → Int)
  | 0, S => S
  | j + 1, S => x_mk N j (if (N.1 j).toInt = 5 ∧ S j = 0 then x_upZ S (N.2.1 j).toInt.toNat 1 else S)
noncomputable def x_st (N : x_N) (n : Nat) : Nat → Int := x_mk N n (fun _ => 0)
noncomputable def x_rp (s : x_S) (N : x_N) (S : Nat → Int) : Nat → Nat → x_Kn → x_Kn
  | 0, _, K => K
  | m + 1, k, K => x_rp s N S m (k + 1) (if S k = 0 then x_ap s N k K else K)
noncomputable def x_k0 (s : x_S) : x_Kn := (fun _ => 0, fun _ => 0, fun _ => -1, fun w => Int64.ofInt (s.2.2.2.2 8 w))
noncomputable def x_kn (s : x_S) (N : x_N) (n : Nat) : x_Kn := x_rp s N (x_st N n) n 0 (x_k0 s)
theorem x_vn_u {s : x_S} {ca : Int} {N : x_N} {n A : Int} (H : x_vn s ca N n) (h0 : 0 ≤ A) (h1 : A < n) : x_v5 s ca (N.1 A.toNat) (N.2.1 A.toNat) (N.2.2.1 A.toNat) (N.2.2.2 A.toNat) := H A.toNat (by omega)
/-! the notes' rows -/
noncomputable def NTc (M : mm_M) (N : x_N) (n : Int) : Prop := ∀ k : Nat, (k : Int) < n → M.2.1 7 k = N.1 k ∧ M.2.1 8 k = N.2.1 k ∧ M.2.1 9 k = N.2.2.1 k ∧ M.2.1 10 k = N.2.2.2 k
noncomputable def NTr (M : mm_M) (N : x_N) (n : Int) : Prop := ∀ k : Nat, (k : Int) < n → M.2.1 90 k = N.1 k ∧ M.2.1 91 k = N.2.1 k ∧ M.2.1 92 k = N.2.2.1 k ∧ M.2.1 93 k = N.2.2.2 k
theorem NTc_f {M M1 : mm_M} {N : x_N} {n : Int} (h : ∀ a i : Nat, (7 ≤ a ∧ a ≤ 10) → M1.2.1 a i = M.2.1 a i) (H : NTc M N n) : NTc M1 N n := fun k hk => by
  rw [h 7 k (by decide), h 8 k (by decide), h 9 k (by decide), h 10 k (by decide)]
  exact H k hk
theorem NTr_f {M M1 : mm_M} {N : x_N} {n : Int} (h : ∀ a i : Nat, (90 ≤ a ∧ a ≤ 93) → M1.2.1 a i = M.2.1 a i) (H : NTr M N n) : NTr M1 N n := fun k hk => by
  rw [h 90 k (by decide), h 91 k (by decide), h 92 k (by decide), h 93 k (by decide)]
  exact H k hk
section NTU
variable {M : mm_M} {N : x_N} {n A : Int} {v : Int32}
theorem NTc_0 (H : NTc M N n) (h0 : 0 ≤ A) (h1 : A < n) (w : M.2.1 7 A.toNat = v) : v = N.1 A.toNat := w.symm.trans (H A.toNat (by omega)).1
theorem NTc_1 (H : NTc M N n) (h0 : 0 ≤ A) (h1 : A < n) (w : M.2.1 8 A.toNat = v) : v = N.2.1 A.toNat := w.symm.trans (H A.toNat (by omega)).2.1
theorem NTc_2 (H : NTc M N n) (h0 : 0 ≤ A) (h1 : A < n) (w : M.2.1 9 A.toNat = v) : v = N.2.2.1 A.toNat := w.symm.trans (H A.toNat (by omega)).2.2.1
theorem NTc_3 (H : NTc M N n) (h0 : 0 ≤ A) (h1 : A < n) (w : M.2.1 10 A.toNat = v) : v = N.2.2.2 A.toNat := w.symm.trans (H A.toNat (by omega)).2.2.2
theorem NTr_0 (H : NTr M N n) (h0 : 0 ≤ A) (h1 : A < n) (w : M.2.1 90 A.toNat = v) : v = N.1 A.toNat := w.symm.trans (H A.toNat (by omega)).1
theorem NTr_1 (H : NTr M N n) (h0 : 0 ≤ A) (h1 : A < n) (w : M.2.1 91 A.toNat = v) : v = N.2.1 A.toNat := w.symm.trans (H A.toNat (by omega)).2.1
theorem NTr_2 (H : NTr M N n) (h0 : 0 ≤ A) (h1 : A < n) (w : M.2.1 92 A.toNat = v) : v = N.2.2.1 A.toNat := w.symm.trans (H A.toNat (by omega)).2.2.1
theorem NTr_3 (H : NTr M N n) (h0 : 0 ≤ A) (h1 : A < n) (w : M.2.1 93 A.toNat = v) : v = N.2.2.2 A.toNat := w.symm.trans (H A.toNat (by omega)).2.2.2
end NTU
/-! the state of what is known: rows a (notches), b (words), v (values), d (codes) -/
noncomputable def KST (M : mm_M) (a b v d : Nat) (ca : Int) (s : x_S) (K : x_Kn) : Prop := (∀ c : Nat, (c : Int) < ca → M.2.2.1 a c = K.1 c ∧ M.2.1 b c = K.2.1 c ∧ ∀ f : Nat, f < 8 → M.2.1 v (8 * c + f) = K.2.2.1 (8 * c + f)) ∧ ∀ w : Nat, (w : Int) < s.2.2.1 → M.2.2.1 d w = K.2.2.2 w
section KSTS
variable {M M1 : mm_M} {a b v d : Nat} {ca : Int} {s : x_S} {K : x_Kn}
theorem KST_f (ha : ∀ i : Nat, M1.2.2.1 a i = M.2.2.1 a i) (hb : ∀ i : Nat, M1.2.1 b i = M.2.1 b i) (hv : ∀ i : Nat, M1.2.1 v i = M.2.1 v i) (hd : ∀ i : Nat, M1.2.2.1 d i = M.2.2.1 d i) (H : KST M a b v d ca s K) : KST M1 a b v d ca s K :=
  ⟨fun c hc => ⟨(ha c).trans (H.1 c hc).1, (hb c).trans (H.1 c hc).2.1, fun f hf => (hv (8 * c + f)).trans ((H.1 c hc).2.2 f hf)⟩, fun w hw => (hd w).trans (H.2 w hw)⟩
theorem KST_c {c : Nat} {x : Int64} (H : KST M a b v d ca s K) (W : M1 = mm_setL M a c x) (hd : ¬ d = a) : KST M1 a b v d ca s (x_upL K.1 c x, K.2.1, K.2.2.1, K.2.2.2) := by
  refine ⟨fun c2 h2 => ⟨?_, W_l W (H.1 c2 h2).2.1, fun f hf => W_l W ((H.1 c2 h2).2.2 f hf)⟩, fun w hw => L_n W (fun z => hd z.1) (H.2 w hw)⟩
  show _ = if c2 = c then x else K.1 c2
  by_cases g : c2 = c
  · rw [if_pos g, g]; exact L_e W
  · rw [if_neg g]; exact L_n W (fun z => g z.2) (H.1 c2 h2).1
theorem KST_w {c : Nat} {x : Int32} (H : KST M a b v d ca s K) (W : M1 = mm_setI M b c x) (hv : ¬ v = b) : KST M1 a b v d ca s (K.1, x_upI K.2.1 c x, K.2.2.1, K.2.2.2) := by
  refine ⟨fun c2 h2 => ⟨W_j W (H.1 c2 h2).1, ?_, fun f hf => W_n W (fun z => hv z.1) ((H.1 c2 h2).2.2 f hf)⟩, fun w hw => W_j W (H.2 w hw)⟩
  show _ = if c2 = c then x else K.2.1 c2
  by_cases g : c2 = c
  · rw [if_pos g, g]; exact W_e W
  · rw [if_neg g]; exact W_n W (fun z => g z.2) (H.1 c2 h2).2.1
theorem KST_v {i : Nat} {x : Int32} (H : KST M a b v d ca s K) (W : M1 = mm_setI M v i x) (hb : ¬ b = v) : KST M1 a b v d ca s (K.1, K.2.1, x_upI K.2.2.1 i x, K.2.2.2) := by
  refine ⟨fun c2 h2 => ⟨W_j W (H.1 c2 h2).1, W_n W (fun z => hb z.1) (H.1 c2 h2).2.1, fun f hf => ?_⟩, fun w hw => W_j W (H.2 w hw)⟩
  show _ = if 8 * c2 + f = i then x else K.2.2.1 (8 * c2 + f)
  by_cases g : 8 * c2 + f = i
  · rw [if_pos g, g]; exact W_e W
  · rw [if_neg g]; exact W_n W (fun z => g z.2) ((H.1 c2 h2).2.2 f hf)
theorem KST_d {w : Nat} {x : Int64} (H : KST M a b v d ca s K) (W : M1 = mm_setL M d w x) (ha : ¬ a = d) : KST M1 a b v d ca s (K.1, K.2.1, K.2.2.1, x_upL K.2.2.2 w x) := by
  refine ⟨fun c2 h2 => ⟨L_n W (fun z => ha z.1) (H.1 c2 h2).1, W_l W (H.1 c2 h2).2.1, fun f hf => W_l W ((H.1 c2 h2).2.2 f hf)⟩, fun w2 h2 => ?_⟩
  show _ = if w2 = w then x else K.2.2.2 w2
  by_cases g : w2 = w
  · rw [if_pos g, g]; exact L_e W
  · rw [if_neg g]; exact L_n W (fun z => g z.2) (H.2 w2 h2)
theorem KST_lc {A : Int} {l : Int64} (H : KST M a b v d ca s K) (h0 : 0 ≤ A) (h1 : A < ca) (w : M.2.2.1 a A.toNat = l) : l = K.1 A.toNat := w.symm.trans (H.1 A.toNat (by omega)).1
theorem KST_lw {A : Int} {l : Int32} (H : KST M a b v d ca s K) (h0 : 0 ≤ A) (h1 : A < ca) (w : M.2.1 b A.toNat = l) : l = K.2.1 A.toNat := w.symm.trans (H.1 A.toNat (by omega)).2.1
theorem KST_ld {A : Int} {l : Int64} (H : KST M a b v d ca s K) (h0 : 0 ≤ A) (h1 : A < s.2.2.1) (w : M.2.2.1 d A.toNat = l) : l = K.2.2.2 A.toNat := w.symm.trans (H.2 A.toNat (by omega))
theorem KST_lv {A c f : Int} {l : Int32} (H : KST M a b v d ca s K) (h0 : 0 ≤ c) (h1 : c < ca) (h2 : 0 ≤ f) (h3 : f < 8) (hA : A = 8 * c + f) (w : M.2.1 v A.toNat = l) : l = K.2.2.1 (8 * c.toNat + f.toNat) := by
  rw [← w, show A.toNat = 8 * c.toNat + f.toNat by omega]
  exact (H.1 c.toNat (by omega)).2.2 f.toNat (by omega)
theorem KST_q {K2 : x_Kn} (e : K = K2) (H : KST M a b v d ca s K) : KST M a b v d ca s K2 := e ▸ H
end KSTS
section XAP
variable {s : x_S} {N : x_N} {k : Nat} {K : x_Kn}
theorem x_ap_0 {c i : Nat} {x : Int64} {v : Int32} (hk : (N.1 k).toInt = 0) (hc : c = (N.2.1 k).toInt.toNat) (hx : x = K.1 (N.2.1 k).toInt.toNat ||| x_cd s (N.2.2.1 k).toInt (N.2.2.2 k).toInt) (hi : i = 8 * (N.2.1 k).toInt.toNat + (N.2.2.1 k).toInt.toNat) (hv : v = N.2.2.2 k) : (x_upL K.1 c x, K.2.1, x_upI K.2.2.1 i v, K.2.2.2) = x_ap s N k K := by
  subst hc; subst hx; subst hi; subst hv
  unfold x_ap
  rw [if_pos hk]
theorem x_ap_1 {c c2 : Nat} {x : Int64} {y : Int32} (hk : (N.1 k).toInt = 1) (hc : c = (N.2.1 k).toInt.toNat) (hc2 : c2 = (N.2.1 k).toInt.toNat) (hx : x = K.1 (N.2.1 k).toInt.toNat ||| K.2.2.2 (N.2.2.1 k).toInt.toNat) (hy : y = K.2.1 (N.2.1 k).toInt.toNat ||| ((1 : Int32) <<< N.2.2.1 k)) : (x_upL K.1 c x, x_upI K.2.1 c2 y, K.2.2.1, K.2.2.2) = x_ap s N k K := by
  subst hc; subst hc2; subst hx; subst hy
  unfold x_ap
  rw [if_neg (by omega), if_pos hk]
theorem x_ap_2 {c : Nat} {x : Int64} (hk : (N.1 k).toInt = 2) (hc : c = (N.2.1 k).toInt.toNat) (hx : x = K.1 (N.2.1 k).toInt.toNat ||| ((1 : Int64) <<< ((N.2.2.1 k).toInt64 &&& 63))) : (x_upL K.1 c x, K.2.1, K.2.2.1, K.2.2.2) = x_ap s N k K := by
  subst hc; subst hx
  unfold x_ap
  rw [if_neg (by omega), if_neg (by omega), if_pos hk]
theorem x_ap_3 {c : Nat} {x : Int64} (hk : (N.1 k).toInt = 3) (hc : c = (N.2.1 k).toInt.toNat) (hx : x = K.1 (N.2.1 k).toInt.toNat &&& (((1 : Int64) <<< ((N.2.2.1 k).toInt64 &&& 63)) ^^^ (-1 : Int64))) : (x_upL K.1 c x, K.2.1, K.2.2.1, K.2.2.2) = x_ap s N k K := by
  subst hc; subst hx
  unfold x_ap
  rw [if_neg (by omega), if_neg (by omega), if_neg (by omega), if_pos hk]
theorem x_ap_4 {c : Nat} {x : Int64} (hk : (N.1 k).toInt = 4) (hc : c = (N.2.1 k).toInt.toNat) (hx : x = (N.2.2.1 k).toInt64 <<< x_sh (x_row s 3 (x_row s 7 (N.2.1 k).toInt))) : (K.1, K.2.1, K.2.2.1, x_upL K.2.2.2 c x) = x_ap s N k K := by
  subst hc; subst hx
  unfold x_ap
  rw [if_neg (by omega), if_neg (by omega), if_neg (by omega), if_neg (by omega), if_pos hk]
theorem x_ap_5 (hk : (N.1 k).toInt < 0 ∨ 4 < (N.1 k).toInt) : K = x_ap s N k K := by
  unfold x_ap
  rw [if_neg (by omega), if_neg (by omega), if_neg (by omega), if_neg (by omega), if_neg (by omega)]
end XAP
/-! which notes are struck -/
noncomputable def SQc (M : mm_M) (N : x_N) (n i : Int) : Prop := ∃ S : Nat → Int, (∀ k : Nat, (k : Int) < n → (M.2.1 16 k).toInt = S k) ∧ x_mk N i.toNat S = x_mk N n.toNat (fun _ => 0)
noncomputable def SQr (M : mm_M) (N : x_N) (n i : Int) : Prop := ∃ S : Nat → Int, (∀ k : Nat, (k : Int) < n → (M.2.1 94 k).toInt = 1 - S k) ∧ x_mk N i.toNat S = x_mk N n.toNat (fun _ => 0)
section SQS
variable {M M1 : mm_M} {N : x_N} {n i i2 j : Int}
theorem SQc_0 (h : ∀ k : Nat, (k : Int) < n → M.2.1 16 k = 0) (hi : i = n) : SQc M N n i := ⟨fun _ => 0, fun k hk => by rw [h k hk]; rfl, by rw [hi]⟩
theorem SQr_0 (h : ∀ k : Nat, (k : Int) < n → M.2.1 94 k = 1) (hi : i = n) : SQr M N n i := ⟨fun _ => 0, fun k hk => by rw [h k hk]; rfl, by rw [hi]⟩
theorem SQc_1 (H : SQc M N n j) (h0 : 0 ≤ i) (hj : j = i + 1) (h2 : i2 = i) (hk : ¬ (N.1 i.toNat).toInt = 5) : SQc M N n i2 := by
  subst h2
  obtain ⟨S, h1, h3⟩ := H
  refine ⟨S, h1, ?_⟩
  rw [← h3, show j.toNat = i2.toNat + 1 by omega, x_mk, if_neg (fun z => hk z.1)]
theorem SQr_1 (H : SQr M N n j) (h0 : 0 ≤ i) (hj : j = i + 1) (h2 : i2 = i) (hk : ¬ (N.1 i.toNat).toInt = 5) : SQr M N n i2 := by
  subst h2
  obtain ⟨S, h1, h3⟩ := H
  refine ⟨S, h1, ?_⟩
  rw [← h3, show j.toNat = i2.toNat + 1 by omega, x_mk, if_neg (fun z => hk z.1)]
theorem SQc_2 {x : Int32} (H : SQc M N n j) (h0 : 0 ≤ i) (hn : i < n) (hj : j = i + 1) (h2 : i2 = i) (w : M.2.1 16 i.toNat = x) (hx : ¬ x.toInt = 0) : SQc M N n i2 := by
  subst h2
  obtain ⟨S, h1, h3⟩ := H
  have e := h1 i2.toNat (by omega)
  rw [w] at e
  refine ⟨S, h1, ?_⟩
  rw [← h3, show j.toNat = i2.toNat + 1 by omega, x_mk, if_neg (fun z => hx (by rw [e]; exact z.2))]
theorem SQr_2 {x : Int32} (H : SQr M N n j) (h0 : 0 ≤ i) (hn : i < n) (hj : j = i + 1) (h2 : i2 = i) (w : M.2.1 94 i.toNat = x) (hx : x.toInt = 0) : SQr M N n i2 := by
  subst h2
  obtain ⟨S, h1, h3⟩ := H
  have e := h1 i2.toNat (by omega)
  rw [w] at e
  refine ⟨S, h1, ?_⟩
  rw [← h3, show j.toNat = i2.toNat + 1 by omega, x_mk, if_neg (fun z => by omega)]
theorem SQc_3 {x : Int32} {f : Nat} (H : SQc M N n j) (h0 : 0 ≤ i) (hn : i < n) (hj : j = i + 1) (h2 : i2 = i) (w : M.2.1 16 i.toNat = x) (hx : x.toInt = 0) (hk : (N.1 i.toNat).toInt = 5) (W : M1 = mm_setI M 16 f (1 : Int32)) (hf : f = (N.2.1 i.toNat).toInt.toNat) : SQc M1 N n i2 := by
  subst h2
  obtain ⟨S, h1, h3⟩ := H
  have e := h1 i2.toNat (by omega)
  rw [w] at e
  refine ⟨x_upZ S f 1, fun k hk9 => ?_, ?_⟩
  · show _ = if k = f then 1 else S k
    by_cases g : k = f
    · rw [if_pos g, g, W_e W]; rfl
    · rw [if_neg g, W_n W (fun z => g z.2) rfl]; exact h1 k hk9
  · rw [← h3, show j.toNat = i2.toNat + 1 by omega, x_mk, if_pos ⟨hk, by omega⟩, hf]
theorem SQr_3 {x : Int32} {f : Nat} (H : SQr M N n j) (h0 : 0 ≤ i) (hn : i < n) (hj : j = i + 1) (h2 : i2 = i) (w : M.2.1 94 i.toNat = x) (hx : x.toInt = 1) (hk : (N.1 i.toNat).toInt = 5) (W : M1 = mm_setI M 94 f (0 : Int32)) (hf : f = (N.2.1 i.toNat).toInt.toNat) : SQr M1 N n i2 := by
  subst h2
  obtain ⟨S, h1, h3⟩ := H
  have e := h1 i2.toNat (by omega)
  rw [w] at e
  refine ⟨x_upZ S f 1, fun k hk9 => ?_, ?_⟩
  · show _ = 1 - (if k = f then 1 else S k)
    by_cases g : k = f
    · rw [if_pos g, g, W_e W]; rfl
    · rw [if_neg g, W_n W (fun z => g z.2) rfl]; exact h1 k hk9
  · rw [← h3, show j.toNat = i2.toNat + 1 by omega, x_mk, if_pos ⟨hk, by omega⟩, hf]
theorem SQc_e (H : SQc M N n i) (hi : i = 0) : ∀ k : Nat, (k : Int) < n → (M.2.1 16 k).toInt = x_st N n.toNat k := by
  obtain ⟨S, h1, h3⟩ := H
  rw [hi] at h3
  have h3 : S = x_st N n.toNat := h3
  rw [← h3]
  exact h1
theorem SQr_e (H : SQr M N n i) (hi : i = 0) : ∀ k : Nat, (k : Int) < n → (M.2.1 94 k).toInt = 1 - x_st N n.toNat k := by
  obtain ⟨S, h1, h3⟩ := H
  rw [hi] at h3
  have h3 : S = x_st N n.toNat := h3
  rw [← h3]
  exact h1
end SQS
/-! a row filled from its front -/
theorem fill_s {M M1 : mm_M} {a : Nat} {c x y : Int} {v : Int32} (H : ∀ k : Nat, (k : Int) < x → M.2.1 a k = v) (W : M1 = mm_setI M a c.toNat v) (h0 : 0 ≤ c) (hc : c = x) (hy : y = x + 1) : ∀ k : Nat, (k : Int) < y → M1.2.1 a k = v := fun k hk => by
  by_cases g : (k : Int) < x
  · exact W_n W (by omega) (H k g)
  · rw [show k = c.toNat by omega]
    exact W_e W
/-! the class forgets -/
noncomputable def FG1 (M : mm_M) (x : Int) : Prop := ∀ c : Nat, (c : Int) < x → M.2.2.1 12 c = 0 ∧ M.2.1 13 c = 0
noncomputable def FG2 (M : mm_M) (x : Int) : Prop := FG1 M 30 ∧ ∀ i : Nat, (i : Int) < x → M.2.1 14 i = -1
noncomputable def FG3 (M : mm_M) (s : x_S) (x : Int) : Prop := FG2 M 240 ∧ ∀ w : Nat, (w : Int) < x → (w : Int) < s.2.2.1 → M.2.2.1 15 w = Int64.ofInt (s.2.2.2.2 8 w)
section FGS
variable {M M1 M2 : mm_M} {s : x_S} {x y c : Int} {p : Nat}
theorem FG1_0 (h : x = 0) : FG1 M x := fun c hc => by omega
theorem FG1_s (H : FG1 M x) (W1 : M1 = mm_setL M 12 c.toNat (0 : Int64)) (W2 : M2 = mm_setI M1 13 c.toNat (0 : Int32)) (h0 : 0 ≤ c) (hc : c = x) (hy : y = x + 1) : FG1 M2 y := fun k hk => by
  by_cases g : (k : Int) < x
  · exact ⟨W_j W2 (L_n W1 (by omega) (H k g).1), W_n W2 (by omega) (W_l W1 (H k g).2)⟩
  · rw [show k = c.toNat by omega]
    exact ⟨W_j W2 (L_e W1), W_e W2⟩
theorem FG2_0 (H : FG1 M c) (hc : c = 30) (h : x = 0) : FG2 M x := ⟨hc ▸ H, fun i hi => by omega⟩
theorem FG2_s (H : FG2 M x) (W : M1 = mm_setI M 14 c.toNat (-1 : Int32)) (h0 : 0 ≤ c) (hc : c = x) (hy : y = x + 1) : FG2 M1 y := ⟨fun k hk => ⟨W_j W (H.1 k hk).1, W_n W (by omega) (H.1 k hk).2⟩, fill_s H.2 W h0 hc hy⟩
theorem FG3_0 (H : FG2 M c) (hc : c = 240) (h : x = 0) : FG3 M s x := ⟨hc ▸ H, fun i hi => by omega⟩
theorem FG3_s {l : Int64} (H : FG3 M s x) (C : CW M p s) (hl : M.2.2.1 (p + 8) c.toNat = l) (W : M1 = mm_setL M 15 c.toNat l) (h0 : 0 ≤ c) (hc : c = x) (hy : y = x + 1) : FG3 M1 s y := by
  refine ⟨⟨fun k hk => ⟨L_n W (by omega) (H.1.1 k hk).1, W_l W (H.1.1 k hk).2⟩, fun i hi => W_l W (H.1.2 i hi)⟩, fun w hw hw2 => ?_⟩
  by_cases g : (w : Int) < x
  · exact L_n W (by omega) (H.2 w g hw2)
  · have e := C w hw2
    rw [show w = c.toNat by omega] at e ⊢
    rw [L_e W, ← e, hl, Int64.ofInt_toInt]
theorem FG3_e {ca : Int} (H : FG3 M s c) (hc : c = 12) (hca : ca ≤ 30) (hG : x_G s) : KST M 12 13 14 15 ca s (x_k0 s) := by
  have w12 := hG.2.2.2.2.2.1
  exact ⟨fun c hc => ⟨(H.1.1 c (by omega)).1, (H.1.1 c (by omega)).2, fun f hf => H.1.2 (8 * c + f) (by omega)⟩, fun w hw => H.2 w (by omega) hw⟩
end FGS
/-! the reference forgets -/
noncomputable def GR0 (M : mm_M) (s : x_S) (x : Int) : Prop := ∀ w : Nat, (w : Int) < x → M.2.2.1 95 w = Int64.ofInt (s.2.2.2.2 8 w)
noncomputable def GR1 (M : mm_M) (s : x_S) (x : Int) : Prop := GR0 M s s.2.2.1 ∧ ∀ c : Nat, (c : Int) < x → M.2.2.1 96 c = 0 ∧ M.2.1 98 c = 0 ∧ ∀ f : Nat, f < 8 → M.2.1 97 (8 * c + f) = -1
noncomputable def GR2 (M : mm_M) (s : x_S) (x y : Int) : Prop := GR1 M s x ∧ M.2.2.1 96 x.toNat = 0 ∧ M.2.1 98 x.toNat = 0 ∧ ∀ f : Nat, (f : Int) < y → M.2.1 97 (8 * x.toNat + f) = -1
section GRS
variable {M M1 M2 : mm_M} {s : x_S} {x y c : Int}
theorem GR0_0 (h : x = 0) : GR0 M s x := fun c hc => by omega
theorem GR0_s {l : Int64} (H : GR0 M s x) (C : CWk M s) (hl : M.2.2.1 87 c.toNat = l) (W : M1 = mm_setL M 95 c.toNat l) (h0 : 0 ≤ c) (hc : c = x) (hs : x < s.2.2.1) (hy : y = x + 1) : GR0 M1 s y := fun w hw => by
  by_cases g : (w : Int) < x
  · exact L_n W (by omega) (H w g)
  · have e := C w (by omega)
    rw [show w = c.toNat by omega] at e ⊢
    rw [L_e W, ← e, hl, Int64.ofInt_toInt]
theorem GR1_0 (H : GR0 M s c) (hc : c = s.2.2.1) (h : x = 0) : GR1 M s x := ⟨hc ▸ H, fun i hi => by omega⟩
theorem GR2_0 (H : GR1 M s x) (W1 : M1 = mm_setL M 96 c.toNat (0 : Int64)) (W2 : M2 = mm_setI M1 98 c.toNat (0 : Int32)) (h0 : 0 ≤ c) (hc : c = x) (hy : y = 0) : GR2 M2 s x y := by
  subst hc
  refine ⟨⟨fun w hw => W_j W2 (L_n W1 (by omega) (H.1 w hw)), fun k hk => ⟨W_j W2 (L_n W1 (by omega) (H.2 k hk).1), W_n W2 (by omega) (W_l W1 (H.2 k hk).2.1), fun f hf => W_n W2 (by omega) (W_l W1 ((H.2 k hk).2.2 f hf))⟩⟩, W_j W2 (L_e W1), W_e W2, fun f hf => by omega⟩
theorem GR2_s {i : Int} (H : GR2 M s x y) (W : M1 = mm_setI M 97 i.toNat (-1 : Int32)) (h0 : 0 ≤ x) (h1 : 0 ≤ y) (h8 : y < 8) (hi : i = 8 * x + y) {z : Int} (hz : z = y + 1) : GR2 M1 s x z := by
  refine ⟨⟨fun w hw => W_j W (H.1.1 w hw), fun k hk => ⟨W_j W (H.1.2 k hk).1, W_n W (by omega) (H.1.2 k hk).2.1, fun f hf => W_n W (by omega) ((H.1.2 k hk).2.2 f hf)⟩⟩, W_j W H.2.1, W_n W (by omega) H.2.2.1, fun f hf => ?_⟩
  by_cases g : (f : Int) < y
  · exact W_n W (by omega) (H.2.2.2 f g)
  · rw [show 8 * x.toNat + f = i.toNat by omega]
    exact W_e W
theorem GR1_s (H : GR2 M s x c) (hc : c = 8) (h0 : 0 ≤ x) (hy : y = x + 1) : GR1 M s y := by
  refine ⟨H.1.1, fun k hk => ?_⟩
  by_cases g : (k : Int) < x
  · exact H.1.2 k g
  · rw [show k = x.toNat by omega]
    exact ⟨H.2.1, H.2.2.1, fun f hf => H.2.2.2 f (by omega)⟩
theorem GR1_e {ca : Int} (H : GR1 M s c) (hc : c = ca) : KST M 96 98 97 95 ca s (x_k0 s) := ⟨fun k hk => H.2 k (by omega), fun w hw => H.1 w hw⟩
theorem GR0_f (h : ∀ i : Nat, M1.2.2.1 95 i = M.2.2.1 95 i) (H : GR0 M s x) : GR0 M1 s x := fun w hw => (h w).trans (H w hw)
end GRS
/-! note by note -/
noncomputable def RPK (M : mm_M) (a b v d : Nat) (ca : Int) (s : x_S) (N : x_N) (n i : Int) : Prop := ∃ K : x_Kn, KST M a b v d ca s K ∧ x_rp s N (x_st N n.toNat) (n - i).toNat i.toNat K = x_kn s N n.toNat
section RPS
variable {M : mm_M} {a b v d : Nat} {ca : Int} {s : x_S} {N : x_N} {n i j : Int} {K : x_Kn}
theorem RPK_0 (H : KST M a b v d ca s (x_k0 s)) (hi : i = 0) : RPK M a b v d ca s N n i := by
  subst hi
  refine ⟨x_k0 s, H, ?_⟩
  rw [show n - 0 = n by omega]
  rfl
theorem RPK_1 (H : KST M a b v d ca s K) (e : x_rp s N (x_st N n.toNat) (n - i).toNat i.toNat K = x_kn s N n.toNat) (h0 : 0 ≤ i) (hn : i < n) (hj : j = i + 1) (hs : ¬ x_st N n.toNat i.toNat = 0) : RPK M a b v d ca s N n j := by
  subst hj
  refine ⟨K, H, ?_⟩
  rw [← e, show (n - i).toNat = (n - (i + 1)).toNat + 1 by omega, x_rp, if_neg hs, show (i + 1).toNat = i.toNat + 1 by omega]
theorem RPK_2 (H : KST M a b v d ca s (x_ap s N i.toNat K)) (e : x_rp s N (x_st N n.toNat) (n - i).toNat i.toNat K = x_kn s N n.toNat) (h0 : 0 ≤ i) (hn : i < n) (hj : j = i + 1) (hs : x_st N n.toNat i.toNat = 0) : RPK M a b v d ca s N n j := by
  subst hj
  refine ⟨x_ap s N i.toNat K, H, ?_⟩
  rw [← e, show (n - i).toNat = (n - (i + 1)).toNat + 1 by omega, x_rp, if_pos hs, show (i + 1).toNat = i.toNat + 1 by omega]
theorem RPK_e (H : KST M a b v d ca s K) (e : x_rp s N (x_st N n.toNat) (n - i).toNat i.toNat K = x_kn s N n.toNat) (hn : n ≤ i) : KST M a b v d ca s (x_kn s N n.toNat) := by
  rw [show (n - i).toNat = 0 by omega] at e
  exact e ▸ H
end RPS
/-! what the calls answer -/
noncomputable def x_coded (s : x_S) (N : x_N) (sz n w : Int) : Int64 := if 0 ≤ n ∧ n ≤ sz ∧ 0 ≤ w ∧ w < s.2.2.1 then (x_kn s N n.toNat).2.2.2 w.toNat else 0
noncomputable def x_notched (s : x_S) (N : x_N) (sz ca n c : Int) : Int64 := if 0 ≤ n ∧ n ≤ sz ∧ 0 ≤ c ∧ c < ca then (x_kn s N n.toNat).1 c.toNat else -1
theorem x_coded_y {s : x_S} {N : x_N} {sz n w : Int} {l : Int64} (h : 0 ≤ n ∧ n ≤ sz ∧ 0 ≤ w ∧ w < s.2.2.1) (e : l = (x_kn s N n.toNat).2.2.2 w.toNat) : l = x_coded s N sz n w := by
  unfold x_coded
  rw [if_pos h]
  exact e
theorem x_coded_n {s : x_S} {N : x_N} {sz n w : Int} (h : ¬ (0 ≤ n ∧ n ≤ sz ∧ 0 ≤ w ∧ w < s.2.2.1)) : (0 : Int64) = x_coded s N sz n w := by
  unfold x_coded
  rw [if_neg h]
theorem x_notched_y {s : x_S} {N : x_N} {sz ca n c : Int} {l : Int64} (h : 0 ≤ n ∧ n ≤ sz ∧ 0 ≤ c ∧ c < ca) (e : l = (x_kn s N n.toNat).1 c.toNat) : l = x_notched s N sz ca n c := by
  unfold x_notched
  rw [if_pos h]
  exact e
theorem x_notched_n {s : x_S} {N : x_N} {sz ca n c : Int} (h : ¬ (0 ≤ n ∧ n ≤ sz ∧ 0 ≤ c ∧ c < ca)) : (-1 : Int64) = x_notched s N sz ca n c := by
  unfold x_notched
  rw [if_neg h]
/-! plan and notes alike on both sides -/
noncomputable def nnM (M : mm_M) : x_N := (M.2.1 7, M.2.1 8, M.2.1 9, M.2.1 10)
noncomputable def AN (M : mm_M) : Prop := ∃ s : x_S, (TPl M s ∧ PLk2 M s) ∧ NTr M (nnM M) (M.2.1 6 0).toInt ∧ x_vn s (M.2.1 0 12).toInt (nnM M) (M.2.1 6 0).toInt
theorem AN_a {M : mm_M} (H : AN M) : AL M := by
  obtain ⟨s, h, -⟩ := H
  exact ⟨s, h⟩
theorem nn_f {M M1 : mm_M} (h : ∀ a i : Nat, 7 ≤ a ∧ a ≤ 10 → M1.2.1 a i = M.2.1 a i) : nnM M1 = nnM M := by
  have e7 : M1.2.1 7 = M.2.1 7 := funext (fun i => h 7 i (by decide))
  have e8 : M1.2.1 8 = M.2.1 8 := funext (fun i => h 8 i (by decide))
  have e9 : M1.2.1 9 = M.2.1 9 := funext (fun i => h 9 i (by decide))
  have e10 : M1.2.1 10 = M.2.1 10 := funext (fun i => h 10 i (by decide))
  unfold nnM
  rw [e7, e8, e9, e10]
theorem x_vn_ca {s : x_S} {ca cb n : Int} {N : x_N} (h : ca ≤ cb) (H : x_vn s ca N n) : x_vn s cb N n := fun k hk => by
  obtain ⟨a0, a1, a2, a3, a4⟩ := H k hk
  exact ⟨fun z => ⟨(a0 z).1, Int.lt_of_lt_of_le (a0 z).2.1 h, (a0 z).2.2⟩, fun z => ⟨(a1 z).1, Int.lt_of_lt_of_le (a1 z).2.1 h, (a1 z).2.2⟩, fun z => ⟨(a2 z).1, Int.lt_of_lt_of_le (a2 z).2 h⟩, fun z => ⟨(a3 z).1, Int.lt_of_lt_of_le (a3 z).2 h⟩, a4⟩
theorem AN_g {M M1 : mm_M} (t : ∀ s : x_S, TPl M s → TPl M1 s) (k : ∀ s : x_S, PLk2 M s → PLk2 M1 s) (hn : ∀ a i : Nat, (7 ≤ a ∧ a ≤ 10 ∨ 90 ≤ a ∧ a ≤ 93) → M1.2.1 a i = M.2.1 a i) (h6 : M1.2.1 6 0 = M.2.1 6 0) (h12 : (M.2.1 0 12).toInt ≤ (M1.2.1 0 12).toInt) (H : AN M) : AN M1 := by
  obtain ⟨s, ⟨a1, a2⟩, a3, a4⟩ := H
  refine ⟨s, ⟨t s a1, k s a2⟩, ?_, ?_⟩
  · rw [nn_f (fun a i z => hn a i (Or.inl z)), h6]
    exact NTr_f (fun a i z => hn a i (Or.inr z)) a3
  · rw [nn_f (fun a i z => hn a i (Or.inl z)), h6]
    exact x_vn_ca h12 a4
theorem AN_C {M M1 : mm_M} {P : Nat → Nat → Prop} (F : FR P M M1) (h : ∀ a i : Nat, (49 ≤ a ∧ a ≤ 66 ∨ a = 77 ∧ 11 ≤ i ∧ i ≤ 13 ∨ 80 ≤ a ∧ a ≤ 87 ∨ 6 ≤ a ∧ a ≤ 10 ∨ 90 ≤ a ∧ a ≤ 93) → ¬ P a i) (h12 : (M.2.1 0 12).toInt ≤ (M1.2.1 0 12).toInt) (H : AN M) : AN M1 :=
  AN_g (fun s h1 => TPl_f (fun a i z => F.2.2 a i (h a i (by omega))) (by rw [F.2.1]) h1) (fun s h2 => PLk2_f (fun a i z => (F.2.2 a i (h a i (by omega))).1) (fun i _ => (F.2.2 87 i (h 87 i (by omega))).2) h2) (fun a i z => (F.2.2 a i (h a i (by omega))).1) (F.2.2 6 0 (h 6 0 (by omega))).1 h12 H
theorem AN_F {M M1 : mm_M} {P : Nat → Nat → Prop} (F : FR P M M1) (h : ∀ a i : Nat, (49 ≤ a ∧ a ≤ 66 ∨ a = 77 ∧ 11 ≤ i ∧ i ≤ 13 ∨ 80 ≤ a ∧ a ≤ 87 ∨ 6 ≤ a ∧ a ≤ 10 ∨ 90 ≤ a ∧ a ≤ 93 ∨ a = 0 ∧ i = 12) → ¬ P a i) (H : AN M) : AN M1 := AN_C F (fun a i z => h a i (by omega)) (by rw [(F.2.2 0 12 (h 0 12 (by omega))).1]; exact Int.le_refl _) H
theorem AN_X {M M1 : mm_M} {P : Nat → Nat → Prop} (F : FRX P M M1) (h : ∀ a i : Nat, (49 ≤ a ∧ a ≤ 66 ∨ a = 77 ∧ 11 ≤ i ∧ i ≤ 13 ∨ 80 ≤ a ∧ a ≤ 87 ∨ 6 ≤ a ∧ a ≤ 10 ∨ 90 ≤ a ∧ a ≤ 93 ∨ a = 0 ∧ i = 12) → ¬ P a i) (hr : M1.2.2.2 0 8 = M.2.2.2 0 8) (H : AN M) : AN M1 :=
  AN_g (fun s h1 => TPl_f (fun a i z => F.2 a i (h a i (by omega))) hr h1) (fun s h2 => PLk2_f (fun a i z => (F.2 a i (h a i (by omega))).1) (fun i _ => (F.2 87 i (h 87 i (by omega))).2) h2) (fun a i z => (F.2 a i (h a i (by omega))).1) (F.2 6 0 (h 6 0 (by omega))).1 (by rw [(F.2 0 12 (h 0 12 (by omega))).1]; exact Int.le_refl _) H
theorem AN_K {M M1 : mm_M} (K : M1.2.1 = M.2.1) (kr : M1.2.2.2 = M.2.2.2) (kl : ∀ a i : Nat, a ≠ 125 → M1.2.2.1 a i = M.2.2.1 a i) (H : AN M) : AN M1 :=
  AN_g (fun s h1 => TPl_f (fun a i z => ⟨by rw [K], kl a i (by omega)⟩) (by rw [kr]) h1) (fun s h2 => PLk2_f (fun a i z => by rw [K]) (fun i _ => kl 87 i (by decide)) h2) (fun a i z => by rw [K]) (by rw [K]) (by rw [K]; exact Int.le_refl _) H
theorem AN_u {M : mm_M} {p pz q qz : Nat} (H : AN M) (hq : g_PQ M p pz q qz) : ∃ (sg : x_S) (N : x_N) (nz ca : Int), PLs2 M p sg ∧ PLk2 M sg ∧ NTc M N nz ∧ NTr M N nz ∧ x_vn sg ca N nz ∧ (M.2.1 6 0).toInt = nz ∧ (M.2.1 0 12).toInt = ca := by
  obtain ⟨s, ⟨⟨p2, hp2, e2, h1⟩, hk1⟩, a3, a4⟩ := H
  have ep : p2 = p := by
    have := hq.1
    rw [e2] at this
    exact Option.some.inj this
  subst ep
  exact ⟨s, nnM M, _, _, h1, hk1, fun k _ => ⟨rfl, rfl, rfl, rfl⟩, a3, a4, rfl, rfl⟩
theorem AN_p {M M1 M2 : mm_M} {p pz q qz : Nat} {R : x_Res} {r r2 : Int} {P1 P2 : Nat → Nat → Prop} (H : AN M) (hq : g_PQ M p pz q qz) (e : r = r2) (pf : r < 0 → ∀ s9 : x_S, PLs2 M p s9 → TPl M1 s9) (ps : 0 ≤ r → ∃ s2 : x_S, R = some (r, s2) ∧ TPl M1 s2) (F1 : FRX P1 M M1) (h1 : ∀ a i : Nat, 77 ≤ a → ¬ P1 a i) (F : FR P2 M1 M2) (h2 : ∀ a i : Nat, (49 ≤ a ∧ a ≤ 66 ∨ a ≤ 10 ∨ 90 ≤ a ∧ a ≤ 93) → ¬ P2 a i) (kf : r2 < 0 → ∀ s9 : x_S, PLk2 M1 s9 → PLk2 M2 s9) (ks : 0 ≤ r2 → ∃ s2 : x_S, R = some (r2, s2) ∧ PLk2 M2 s2) (nf : r < 0 → ∀ a i : Nat, (6 ≤ a ∧ a ≤ 10 ∨ a = 0 ∧ i = 12) → M1.2.1 a i = M.2.1 a i) (z6 : 0 ≤ r → (M1.2.1 6 0).toInt = 0) : AN M2 := by
  have tr : ∀ s, TPl M1 s → TPl M2 s := fun s h => TPl_f (fun a i z => F.2.2 a i (h2 a i (Or.inl z))) (by rw [F.2.1]) h
  by_cases g : r < 0
  · obtain ⟨s, ⟨⟨p2, hp2, e2, h3⟩, hk1⟩, a3, a4⟩ := H
    have ep : p2 = p := by
      have := hq.1
      rw [e2] at this
      exact Option.some.inj this
    subst ep
    have hn : ∀ a i : Nat, (7 ≤ a ∧ a ≤ 10 ∨ 90 ≤ a ∧ a ≤ 93) → M2.2.1 a i = M.2.1 a i := fun a i z => by
      rw [(F.2.2 a i (h2 a i (by omega))).1]
      rcases z with z | z
      · exact nf g a i (by omega)
      · exact (F1.2 a i (h1 a i (by omega))).1
    have h6 : M2.2.1 6 0 = M.2.1 6 0 := (F.2.2 6 0 (h2 6 0 (by omega))).1.trans (nf g 6 0 (by omega))
    have h12 : M2.2.1 0 12 = M.2.1 0 12 := (F.2.2 0 12 (h2 0 12 (by omega))).1.trans (nf g 0 12 (by omega))
    refine ⟨s, ⟨tr s (pf g s h3), kf (by omega) s (PLk2_f (fun a i z => (F1.2 a i (h1 a i (by omega))).1) (fun i _ => (F1.2 87 i (h1 87 i (by omega))).2) hk1)⟩, ?_, ?_⟩
    · rw [nn_f (fun a i z => hn a i (Or.inl z)), h6]
      exact NTr_f (fun a i z => hn a i (Or.inr z)) a3
    · rw [nn_f (fun a i z => hn a i (Or.inl z)), h6, h12]
      exact a4
  · obtain ⟨s2, e1, t1⟩ := ps (by omega)
    obtain ⟨s3, e3, k3⟩ := ks (by omega)
    have es : s2 = s3 := by
      rw [e1] at e3
      exact congrArg Prod.snd (Option.some.inj e3)
    subst es
    have z0 : (M2.2.1 6 0).toInt = 0 := by
      rw [(F.2.2 6 0 (h2 6 0 (by omega))).1]
      exact z6 (by omega)
    refine ⟨s2, ⟨tr s2 t1, k3⟩, ?_, ?_⟩
    · rw [z0]; exact fun k hk => by omega
    · rw [z0]; exact fun k hk => by omega
theorem AN_n {M M1 M2 : mm_M} {p pz q qz : Nat} {sg : x_S} {N : x_N} {nz ca r r2 : Int} {k f s t : Int32} {P1 P2 : Nat → Nat → Prop} (hp : p = 49 ∨ p = 58) (hq : g_PQ M p pz q qz) (h1 : PLs2 M p sg) (h2 : PLk2 M sg) (h3 : NTc M N nz) (h4 : NTr M N nz) (h5 : x_vn sg ca N nz) (e6 : (M.2.1 6 0).toInt = nz) (e12 : (M.2.1 0 12).toInt = ca) (F1 : FR P1 M M1) (p1 : ∀ a i : Nat, ¬ (6 ≤ a ∧ a ≤ 10) → ¬ P1 a i) (F2 : FR P2 M1 M2) (p2 : ∀ a i : Nat, ¬ (a = 77 ∧ (i = 2 ∨ i = 29) ∨ 90 ≤ a ∧ a ≤ 93) → ¬ P2 a i) (w1 : NWc M M1 r k f s t) (w2 : NWr M1 M2 r2 k f s t) (er : r = r2) (e29 : (M1.2.1 77 29).toInt = nz) (z1 : r < 0 → (M1.2.1 6 0).toInt = nz) (z2 : 0 ≤ r → (M1.2.1 6 0).toInt = nz + 1) (hv : 0 ≤ r → x_v5 sg ca k f s t) : AN M2 := by
  rw [← er] at w2
  have m1 : ∀ a i : Nat, ¬ (6 ≤ a ∧ a ≤ 10) → M1.2.1 a i = M.2.1 a i ∧ M1.2.2.1 a i = M.2.2.1 a i := fun a i z => F1.2.2 a i (p1 a i z)
  have m2 : ∀ a i : Nat, ¬ (a = 77 ∧ (i = 2 ∨ i = 29) ∨ 90 ≤ a ∧ a ≤ 93) → M2.2.1 a i = M1.2.1 a i ∧ M2.2.2.1 a i = M1.2.2.1 a i := fun a i z => F2.2.2 a i (p2 a i z)
  have hT : TPl M2 sg := ⟨p, hp, by rw [F2.2.1, F1.2.1]; exact hq.1, PLs2_f (fun a i z => ⟨(m2 a i (by omega)).1.trans (m1 a i (by omega)).1, (m2 a i (by omega)).2.trans (m1 a i (by omega)).2⟩) h1⟩
  have hK : PLk2 M2 sg := PLk2_f (fun a i z => (m2 a i (by omega)).1.trans (m1 a i (by omega)).1) (fun i _ => (m2 87 i (by omega)).2.trans (m1 87 i (by omega)).2) h2
  have c6 : M2.2.1 6 0 = M1.2.1 6 0 := (m2 6 0 (by omega)).1
  have c12 : (M2.2.1 0 12).toInt = ca := by rw [(m2 0 12 (by omega)).1, (m1 0 12 (by omega)).1]; exact e12
  have key : ∀ j : Nat, (j : Int) < (M1.2.1 6 0).toInt → (M2.2.1 90 j = M2.2.1 7 j ∧ M2.2.1 91 j = M2.2.1 8 j ∧ M2.2.1 92 j = M2.2.1 9 j ∧ M2.2.1 93 j = M2.2.1 10 j) ∧ x_v5 sg ca (M2.2.1 7 j) (M2.2.1 8 j) (M2.2.1 9 j) (M2.2.1 10 j) := by
    intro j hj
    have old : (∀ a : Nat, 7 ≤ a ∧ a ≤ 10 → M2.2.1 a j = M.2.1 a j) → (∀ a : Nat, 90 ≤ a ∧ a ≤ 93 → M2.2.1 a j = M.2.1 a j) → (j : Int) < nz → (M2.2.1 90 j = M2.2.1 7 j ∧ M2.2.1 91 j = M2.2.1 8 j ∧ M2.2.1 92 j = M2.2.1 9 j ∧ M2.2.1 93 j = M2.2.1 10 j) ∧ x_v5 sg ca (M2.2.1 7 j) (M2.2.1 8 j) (M2.2.1 9 j) (M2.2.1 10 j) := by
      intro c d hj2
      have a := h3 j hj2
      have b := h4 j hj2
      have v := h5 j hj2
      rw [c 7 (by decide), c 8 (by decide), c 9 (by decide), c 10 (by decide), d 90 (by decide), d 91 (by decide), d 92 (by decide), d 93 (by decide), a.1, a.2.1, a.2.2.1, a.2.2.2]
      exact ⟨b, v⟩
    rcases (show r < 0 ∨ 0 ≤ r by omega) with g | g
    · have := z1 g
      exact old (fun a z => (m2 a j (by omega)).1.trans (w1.1 g a j z)) (fun a z => (w2.1 g a j z).trans (m1 a j (by omega)).1) (by omega)
    · obtain ⟨o1, a0, a1, a2, a3⟩ := w1.2 g
      obtain ⟨o2, b0, b1, b2, b3⟩ := w2.2 g
      have n1 := z2 g
      rw [e6] at o1 a0 a1 a2 a3
      rw [e29] at o2 b0 b1 b2 b3
      by_cases gj : (j : Int) < nz
      · exact old (fun a z => (m2 a j (by omega)).1.trans (o1 a j z (by omega))) (fun a z => (o2 a j z (by omega)).trans (m1 a j (by omega)).1) gj
      · have ej : nz.toNat = j := by omega
        rw [ej] at a0 a1 a2 a3 b0 b1 b2 b3
        rw [(m2 7 j (by omega)).1, (m2 8 j (by omega)).1, (m2 9 j (by omega)).1, (m2 10 j (by omega)).1, a0, a1, a2, a3, b0, b1, b2, b3]
        exact ⟨⟨rfl, rfl, rfl, rfl⟩, hv g⟩
  refine ⟨sg, ⟨hT, hK⟩, fun j hj => ?_, fun j hj => ?_⟩
  · rw [c6] at hj
    exact (key j hj).1
  · rw [c6] at hj
    rw [c12]
    exact (key j hj).2
/-! the words of a field; what a card has truly -/
noncomputable def x_wo (s : x_S) (f : Int) : Nat → Nat → Int32 → Int32
  | 0, _, acc => acc
  | m + 1, k, acc => x_wo s f m (k + 1) (if s.2.2.2.2 7 k = f then acc ||| ((1 : Int32) <<< Int32.ofInt (k : Int)) else acc)
noncomputable def x_wof (s : x_S) (f : Int) : Int32 := x_wo s f s.2.2.1.toNat 0 0
section XWO
variable {s : x_S} {f k k2 : Int} {acc acc2 E v w u : Int32}
theorem x_wo_s (h0 : 0 ≤ k) (hk : k < s.2.2.1) (h2 : k2 = k + 1) (H : x_wo s f (s.2.2.1 - k).toNat k.toNat acc = E) (e : acc2 = if s.2.2.2.2 7 k.toNat = f then acc ||| ((1 : Int32) <<< Int32.ofInt ((k.toNat : Nat) : Int)) else acc) : x_wo s f (s.2.2.1 - k2).toNat k2.toNat acc2 = E := by
  rw [← H, show (s.2.2.1 - k).toNat = (s.2.2.1 - k2).toNat + 1 by omega, x_wo, show k2.toNat = k.toNat + 1 by omega, e]
theorem x_wo_y (h0 : 0 ≤ k) (hv : v.toInt = x_row s 7 k) (hf : v.toInt = f) (hw : w.toInt = k) (e1 : (1 : Int32) <<< w = u) (e2 : acc ||| u = acc2) : acc2 = if s.2.2.2.2 7 k.toNat = f then acc ||| ((1 : Int32) <<< Int32.ofInt ((k.toNat : Nat) : Int)) else acc := by
  rw [if_pos (show s.2.2.2.2 7 k.toNat = f from hv.symm.trans hf), ← e2, ← e1, x_i32 hw, show ((k.toNat : Nat) : Int) = k by omega]
theorem x_wo_n (hv : v.toInt = x_row s 7 k) (hf : ¬ v.toInt = f) : acc = if s.2.2.2.2 7 k.toNat = f then acc ||| ((1 : Int32) <<< Int32.ofInt ((k.toNat : Nat) : Int)) else acc := by
  rw [if_neg (show ¬ s.2.2.2.2 7 k.toNat = f from fun z => hf (hv.trans z))]
theorem x_wo_z (hv : v.toInt = x_row s 7 k) (hf : ¬ v.toInt = f) (e2 : acc ||| (0 : Int32) = acc2) : acc2 = if s.2.2.2.2 7 k.toNat = f then acc ||| ((1 : Int32) <<< Int32.ofInt ((k.toNat : Nat) : Int)) else acc := by
  rw [if_neg (show ¬ s.2.2.2.2 7 k.toNat = f from fun z => hf (hv.trans z)), ← e2, Int32.or_zero]
theorem x_wo_x (h : s.2.2.1 ≤ k) (H : x_wo s f (s.2.2.1 - k).toNat k.toNat acc = x_wof s f) : acc = x_wof s f := by
  rw [← H, show (s.2.2.1 - k).toNat = 0 by omega]
  rfl
end XWO
noncomputable def x_truly (s : x_S) (N : x_N) (sz ca n c f : Int) : Int32 := if 0 ≤ n ∧ n ≤ sz ∧ 0 ≤ c ∧ c < ca ∧ 0 ≤ f ∧ f < s.2.1 then (if x_row s 2 f = 3 then (x_kn s N n.toNat).2.1 c.toNat &&& x_wof s f else (x_kn s N n.toNat).2.2.1 (8 * c.toNat + f.toNat)) else -2
section XTR
variable {s : x_S} {N : x_N} {sz ca n c f : Int} {l : Int32}
theorem x_truly_n (h : ¬ (0 ≤ n ∧ n ≤ sz ∧ 0 ≤ c ∧ c < ca ∧ 0 ≤ f ∧ f < s.2.1)) : (-2 : Int32) = x_truly s N sz ca n c f := by
  unfold x_truly
  rw [if_neg h]
theorem x_truly_w (h : 0 ≤ n ∧ n ≤ sz ∧ 0 ≤ c ∧ c < ca ∧ 0 ≤ f ∧ f < s.2.1) (h3 : x_row s 2 f = 3) (e : l = (x_kn s N n.toNat).2.1 c.toNat &&& x_wof s f) : l = x_truly s N sz ca n c f := by
  unfold x_truly
  rw [if_pos h, if_pos h3]
  exact e
theorem x_truly_v (h : 0 ≤ n ∧ n ≤ sz ∧ 0 ≤ c ∧ c < ca ∧ 0 ≤ f ∧ f < s.2.1) (h3 : ¬ x_row s 2 f = 3) (e : l = (x_kn s N n.toNat).2.2.1 (8 * c.toNat + f.toNat)) : l = x_truly s N sz ca n c f := by
  unfold x_truly
  rw [if_pos h, if_neg h3]
  exact e
end XTR
/-! who drops falsely -/
theorem x_dr_b (a h : Int64) : (h &&& (a ^^^ (-1 : Int64)) = 0) ↔ (a &&& h = h) := by
  have ho : ∀ i : Fin 64, (-1 : Int64).toBitVec.getLsbD i.val = true := by decide +kernel
  have hz : ∀ i : Fin 64, (0 : Int64).toBitVec.getLsbD i.val = false := by decide +kernel
  have key : ∀ i : Nat, i < 64 → (h &&& (a ^^^ (-1 : Int64))).toBitVec.getLsbD i = (h.toBitVec.getLsbD i && !a.toBitVec.getLsbD i) := fun i hi => by
    rw [Int64.toBitVec_and, BitVec.getLsbD_and, Int64.toBitVec_xor, BitVec.getLsbD_xor, ho ⟨i, hi⟩]
    cases a.toBitVec.getLsbD i <;> cases h.toBitVec.getLsbD i <;> rfl
  have key2 : ∀ i : Nat, i < 64 → (a &&& h).toBitVec.getLsbD i = (a.toBitVec.getLsbD i && h.toBitVec.getLsbD i) := fun i hi => by
    rw [Int64.toBitVec_and, BitVec.getLsbD_and]
  constructor
  · intro e
    refine Int64.toBitVec_inj.mp (BitVec.eq_of_getLsbD_eq (fun i hi => ?_))
    have b := key i hi
    rw [e, hz ⟨i, hi⟩] at b
    rw [key2 i hi]
    revert b
    cases a.toBitVec.getLsbD i <;> cases h.toBitVec.getLsbD i <;> intro b <;> first | rfl | exact absurd b (by decide)
  · intro e
    refine Int64.toBitVec_inj.mp (BitVec.eq_of_getLsbD_eq (fun i hi => ?_))
    have b := key2 i hi
    rw [e] at b
    rw [key i hi, hz ⟨i, hi⟩]
    revert b
    cases a.toBitVec.getLsbD i <;> cases h.toBitVec.getLsbD i <;> intro b <;> first | rfl | exact absurd b (by decide)
theorem x_dr_r {a h : Int64} : x_eq (h &&& (a ^^^ (-1 : Int64))) 0 = x_eq (a &&& h) h := by
  unfold x_eq
  by_cases g : a &&& h = h
  · rw [if_pos g, if_pos ((x_dr_b a h).mpr g)]
  · rw [if_neg g, if_neg (fun z => g ((x_dr_b a h).mp z))]
noncomputable def x_hw (K : x_Kn) (c : Nat) (w : Int) : Int := ((K.2.1 c >>> Int32.ofInt w) &&& 1).toInt
theorem x_hw_e {K : x_Kn} {c : Nat} {W : Int} {v w u n : Int32} (z : v = K.2.1 c) (hw : w.toInt = W) (e1 : v >>> w = u) (e2 : u &&& 1 = n) : x_hw K c W = n.toInt := by
  unfold x_hw
  rw [← z, ← x_i32 hw, e1, e2]
noncomputable def x_fl9 (K : x_Kn) (w : Int) (h : Int64) : Nat → Nat → Int → Int
  | 0, _, n => n
  | m + 1, c, n => x_fl9 K w h m (c + 1) (if x_hw K c w = 0 ∧ x_eq (K.1 c &&& h) h = 1 then n + 1 else n)
theorem x_fl_s {K : x_Kn} {w ca c c2 n n2 E : Int} {h : Int64} (h0 : 0 ≤ c) (hc : c < ca) (hc2 : c2 = c + 1) (H : x_fl9 K w h (ca - c).toNat c.toNat n = E) (e : n2 = if x_hw K c.toNat w = 0 ∧ x_eq (K.1 c.toNat &&& h) h = 1 then n + 1 else n) : x_fl9 K w h (ca - c2).toNat c2.toNat n2 = E := by
  rw [← H, show (ca - c).toNat = (ca - c2).toNat + 1 by omega, x_fl9, show c2.toNat = c.toNat + 1 by omega, e]
theorem x_fl_0 {K : x_Kn} {w ca c n : Int} {h : Int64} (hc : c = 0) (hn : n = 0) : x_fl9 K w h (ca - c).toNat c.toNat n = x_fl9 K w h ca.toNat 0 0 := by
  rw [hc, hn, show ca - 0 = ca by omega]
  rfl
theorem x_fl_x {K : x_Kn} {w ca c n : Int} {h : Int64} (hc : ca ≤ c) (H : x_fl9 K w h (ca - c).toNat c.toNat n = x_fl9 K w h ca.toNat 0 0) : n = x_fl9 K w h ca.toNat 0 0 := by
  rw [← H, show (ca - c).toNat = 0 by omega]
  rfl
noncomputable def x_falsely (s : x_S) (N : x_N) (sz ca n w : Int) : Int := if 0 ≤ n ∧ n ≤ sz ∧ 0 ≤ w ∧ w < s.2.2.1 then x_fl9 (x_kn s N n.toNat) w ((x_kn s N n.toNat).2.2.2 w.toNat) ca.toNat 0 0 else -1
theorem x_falsely_y {s : x_S} {N : x_N} {sz ca n w : Int} (h : 0 ≤ n ∧ n ≤ sz ∧ 0 ≤ w ∧ w < s.2.2.1) : x_falsely s N sz ca n w = x_fl9 (x_kn s N n.toNat) w ((x_kn s N n.toNat).2.2.2 w.toNat) ca.toNat 0 0 := by
  unfold x_falsely
  rw [if_pos h]
theorem x_falsely_n {s : x_S} {N : x_N} {sz ca n w : Int} (h : ¬ (0 ≤ n ∧ n ≤ sz ∧ 0 ≤ w ∧ w < s.2.2.1)) : x_falsely s N sz ca n w = -1 := by
  unfold x_falsely
  rw [if_neg h]
/-! look, exact -/
noncomputable def LKV (M1 : mm_M) (s : x_S) (f w : Int32) : Prop := (¬ (f.toInt < 0 ∨ s.2.1 ≤ f.toInt) ∧ 0 ≤ w.toInt ∧ w.toInt ≤ 3) → ∃ v : Int32, M1.2.2.1 125 0 = v.toInt64 ∧ v.toInt = x_row s (2 + w.toInt.toNat) f.toInt
section LKE
variable {X : mm_X} {d mi pc : Nat} {ls st : List Value} {M : mm_M} {Q : Option Value → mm_M → Prop} {len a b : Nat} {ps : List Nat}
theorem s_lkE {k : Nat} {f w : Int32} {rest : List Value} {s : x_S} (hc : mm_code mi pc = some (.invokestatic k, len, 998, 4, ps)) (hd : 1 ≤ d) (h8 : Nat.ble (mm_w8 rest) 8 = true) (hG : g_G M) (hT : TPl M s) (h : ∀ (r : Int32) (M1 : mm_M), g_G M1 → M1.2.1 = M.2.1 → M1.2.2.2 = M.2.2.2 → (∀ a i : Nat, a ≠ 125 → M1.2.2.1 a i = M.2.2.1 a i) → M1.1.2.1 = M.1.2.1 + 1 → M1.1.2.2.1 = M.1.2.2.1 + 6 → (f.toInt < 0 ∨ s.2.1 ≤ f.toInt → r.toInt = 1) → (¬ (f.toInt < 0 ∨ s.2.1 ≤ f.toInt) ∧ 0 ≤ w.toInt ∧ w.toInt ≤ 3 → r.toInt = 0) → LKV M1 s f w → (¬ (f.toInt < 0 ∨ s.2.1 ≤ f.toInt) ∧ ¬ (0 ≤ w.toInt ∧ w.toInt ≤ 3) → r.toInt = 2) → mm_T X d mi (pc + 3) ls (.int r :: rest) M1 Q) : mm_T X d mi pc ls (.ref 125 :: .int w :: .int f :: .ref 0 :: rest) M Q := by
  obtain ⟨e, rfl⟩ : ∃ e, d = e + 1 := ⟨d - 1, by omega⟩
  obtain ⟨p, hp, h5, hP⟩ := hT
  have hP := hP.1
  have h2F : (M.2.1 p 2).toInt = s.2.1 := hP.2.2.1
  have w4 : (w = 0 ∨ w = 1 ∨ w = 2 ∨ w = 3) ↔ (0 ≤ w.toInt ∧ w.toInt ≤ 3) := by
    constructor
    · rintro (rfl | rfl | rfl | rfl) <;> decide
    · intro z
      rcases (show w.toInt = 0 ∨ w.toInt = 1 ∨ w.toInt = 2 ∨ w.toInt = 3 by omega) with z | z | z | z
      · exact Or.inl (Int32.toInt_inj.mp z)
      · exact Or.inr (Or.inl (Int32.toInt_inj.mp z))
      · exact Or.inr (Or.inr (Or.inl (Int32.toInt_inj.mp z)))
      · exact Or.inr (Or.inr (Or.inr (Int32.toInt_inj.mp z)))
  have key : ∃ (r : Int32) (M1 : mm_M), mm_look M [.ref 0, .int f, .int w, .ref 125] = some (some (.int r), M1) ∧ g_G M1 ∧ M1.2.1 = M.2.1 ∧ M1.2.2.2 = M.2.2.2 ∧ (∀ a i : Nat, a ≠ 125 → M1.2.2.1 a i = M.2.2.1 a i) ∧ M1.1.2.1 = M.1.2.1 + 1 ∧ M1.1.2.2.1 = M.1.2.2.1 + 6 ∧ (f.toInt < 0 ∨ s.2.1 ≤ f.toInt → r.toInt = 1) ∧ (¬ (f.toInt < 0 ∨ s.2.1 ≤ f.toInt) ∧ 0 ≤ w.toInt ∧ w.toInt ≤ 3 → r.toInt = 0 ∧ ∃ v : Int32, M1.2.2.1 125 0 = v.toInt64 ∧ v.toInt = x_row s (2 + w.toInt.toNat) f.toInt) ∧ (¬ (f.toInt < 0 ∨ s.2.1 ≤ f.toInt) ∧ ¬ (0 ≤ w.toInt ∧ w.toInt ≤ 3) → r.toInt = 2) := by
    have e9 : (mm_isObj M 0 10 && mm_isObj M 125 101 && Nat.beq (M.1.1.2.2 125) 1) = true := by
      rw [g_o hG rfl, g_o hG rfl, g_l (n := 1) hG rfl rfl]; rfl
    have hp5 : mm_isObj M p 5 = true := g_o hG (by rcases hp with rfl | rfl <;> rfl)
    simp only [mm_look, e9, h5, hp5, cond_true]
    by_cases g1 : f < 0
    · have f0 : f.toInt < 0 := Int32.lt_iff_toInt_lt.mp g1
      rw [if_pos g1]; exact ⟨1, _, rfl, hG, rfl, rfl, fun _ _ _ => rfl, rfl, rfl, fun _ => rfl, fun z => absurd (Or.inl f0) z.1, fun z => absurd (Or.inl f0) z.1⟩
    · rw [if_neg g1]
      have f0 : ¬ f.toInt < 0 := fun z => g1 (Int32.lt_iff_toInt_lt.mpr z)
      by_cases g2 : M.2.1 p 2 ≤ f
      · have f1 : s.2.1 ≤ f.toInt := by rw [← h2F]; exact Int32.le_iff_toInt_le.mp g2
        rw [if_pos g2]; exact ⟨1, _, rfl, hG, rfl, rfl, fun _ _ _ => rfl, rfl, rfl, fun _ => rfl, fun z => absurd (Or.inr f1) z.1, fun z => absurd (Or.inr f1) z.1⟩
      · rw [if_neg g2]
        have f1 : ¬ (M.2.1 p 2).toInt ≤ f.toInt := fun z => g2 (Int32.le_iff_toInt_le.mpr z)
        by_cases g3 : w = 0 ∨ w = 1 ∨ w = 2 ∨ w = 3
        · rw [if_pos g3]
          have hb : (M.2.1 p 2).toInt ≤ 8 := (g_b (lo := 0) (hi := 8) hG (by rcases hp with rfl | rfl <;> rfl) (by rcases hp with rfl | rfl <;> rfl)).2
          obtain ⟨hr, ho, hn⟩ : M.2.2.2 p (6 + w.toNatClampNeg) = some (p + (2 + w.toInt.toNat)) ∧ mm_isObj M (p + (2 + w.toInt.toNat)) 100 = true ∧ M.1.1.2.2 (p + (2 + w.toInt.toNat)) = 8 := by
            rcases g3 with rfl | rfl | rfl | rfl
            all_goals exact ⟨g_r hG (by rcases hp with rfl | rfl <;> rfl), g_o hG (by rcases hp with rfl | rfl <;> rfl), g_l hG (by rcases hp with rfl | rfl <;> rfl) (by rcases hp with rfl | rfl <;> rfl)⟩
          have hlt : Nat.blt f.toNatClampNeg 8 = true := by
            have e2 : f.toNatClampNeg = f.toInt.toNat := rfl
            rw [e2]
            exact Nat.ble_eq_true_of_le (by omega)
          simp only [hr]
          rw [ho, hn, hlt]
          refine ⟨0, _, rfl, hG, rfl, rfl, ?_, rfl, rfl, fun z => by exfalso; omega, fun _ => ⟨rfl, M.2.1 (p + (2 + w.toInt.toNat)) f.toNatClampNeg, ?_, ?_⟩, fun z => absurd (w4.mp g3) z.2⟩
          · exact fun a i z9 => L_n (M := mm_mark M) rfl (by omega) rfl
          · exact L_e (M := mm_mark M) rfl
          · have w3 := w4.mp g3
            exact hP.2.2.2.2.1 (2 + w.toInt.toNat) f.toInt.toNat (by omega) (by omega) (by omega)
        · rw [if_neg g3]; exact ⟨2, _, rfl, hG, rfl, rfl, fun _ _ _ => rfl, rfl, rfl, fun z => by exfalso; omega, fun z => absurd (w4.mpr z.2) g3, fun _ => rfl⟩
  obtain ⟨r, M1, hl, k1, k2, k3, kl, k4, k5, k6, k7, k8⟩ := key
  exact tt_1 hc (tt_look (Nat.le_of_ble_eq_true h8) hl (h r M1 k1 k2 k3 kl k4 k5 k6 (fun z => (k7 z).1) (fun z => (k7 z).2) k8))
end LKE
theorem LK_e {M1 : mm_M} {s : x_S} {f w b : Int32} {l y : Int64} (lk : LKV M1 s f w) (hP : ¬ (f.toInt < 0 ∨ s.2.1 ≤ f.toInt) ∧ 0 ≤ w.toInt ∧ w.toInt ≤ 3) (hl : M1.2.2.1 125 0 = l) (hy : y = b.toInt64) (hb : b.toInt = x_row s (2 + w.toInt.toNat) f.toInt) : x_eq l y = 1 := by
  obtain ⟨v, e1, e2⟩ := lk hP
  have e : b = v := Int32.toInt_inj.mp (hb.trans e2.symm)
  exact x_eq_1.mpr (by rw [← hl, e1, hy, e])
end
section
theorem tg_1 : ∀ a i : Nat, (a < 0) → (a = 1 ∧ i = 5 ∨ 3 ≤ a ∧ a ≤ 5) := fun a i z => by omega
theorem tg_2 : ∀ a i : Nat, (a = 1 ∧ i = 5 ∨ 3 ≤ a ∧ a ≤ 5) → (a = 1 ∧ i = 5 ∨ 3 ≤ a ∧ a ≤ 5) := fun a i z => by omega
set_option maxRecDepth 4000 in
set_option maxHeartbeats 0 in
theorem E_96 {X : mm_X} {d : Nat} {M : mm_M} {Q : Option Value → mm_M → Prop} {x : Int32} (hX : g_X X) (hd : 0 ≤ d) (hG : g_G M) (q1 : g_W X) (h : ∀ (r : Int32) (M1 : mm_M), g_G M1 → FR md_0 M M1 → (0 ≤ r.toInt) → (r.toInt ≤ 1) → (r.toInt = 1 → 0 ≤ x_kx x.toInt) → (r.toInt = 0 → x_kx x.toInt < 0) → Q (some (.int r)) M1) : mm_T X d 96 0 [.int x, .null, .null, .null, .null] [] M Q := by
  have F0 : FR md_0 M M := FR.rf
  refine s_gs (pc := 0) rw_96_0 (to_asn (pc := 3) rw_96_3 (ls2 := [.int x, .ref (mm_ext + 1), .null, .null, .null]) rfl rfl (to_an (pc := 4) rw_96_4 rfl (s_xlen (pc := 5) rw_96_5 hX (e := 1) (n := 15) rfl (v := (15 : Int32)) rfl (to_isn (pc := 6) rw_96_6 (ls2 := [.int x, .ref (mm_ext + 1), .int (15 : Int32), .null, .null]) rfl rfl (to_c (pc := 7) rw_96_7 (x := (0 : Int32)) rfl rfl (to_isn (pc := 8) rw_96_8 (ls2 := [.int x, .ref (mm_ext + 1), .int (15 : Int32), .int (0 : Int32), .null]) rfl rfl (to_in (pc := 9) rw_96_9 rfl (to_in (pc := 10) rw_96_10 rfl (b_cge_f (pc := 11) rw_96_11 (A := 0) (B := 15) rfl rfl (by decide) (to_an (pc := 14) rw_96_14 rfl (to_in (pc := 15) rw_96_15 rfl ?_)))))))))))
  refine s_xalE (pc := 16) rw_96_16 hX (e := 1) (n := 15) rfl (A := 0) rfl (by omega) (by omega) (fun v1 w_2 => ?_)
  have z_3 : v1.toInt = 284563040 := (g_W_u q1 0 (by decide) (by omega) w_2).trans rfl
  refine to_is (pc := 17) rw_96_17 (ls2 := [.int x, .ref (mm_ext + 1), .int (15 : Int32), .int (0 : Int32), .int v1]) rfl rfl (to_i (pc := 19) rw_96_19 rfl (to_in (pc := 21) rw_96_21 rfl (b_cne (pc := 22) rw_96_22 (A := v1.toInt) (B := x.toInt) rfl rfl (fun h4 => ?_) (fun h4 => ?_))))
  · refine s_inc (pc := 27) rw_96_27 (ls2 := fun v => [.int x, .ref (mm_ext + 1), .int (15 : Int32), .int v, .int v1]) rfl rfl (fun _ => rfl) (A := 0) (B := 1) rfl rfl (by omega) (fun v5 e6 => to_go (pc := 30) rw_96_30 (to_in (pc := 9) rw_96_9 rfl (to_in (pc := 10) rw_96_10 rfl (b_cge_f (pc := 11) rw_96_11 (A := v5.toInt) (B := 15) rfl rfl (by omega) (to_an (pc := 14) rw_96_14 rfl (to_in (pc := 15) rw_96_15 rfl (s_xalE (pc := 16) rw_96_16 hX (e := 1) (n := 15) rfl (A := v5.toInt) rfl (by omega) (by omega) (fun v7 w_8 => ?_))))))))
    have z_9 : v7.toInt = 210940032 := (g_W_u q1 1 (by decide) (by omega) w_8).trans rfl
    refine to_is (pc := 17) rw_96_17 (ls2 := [.int x, .ref (mm_ext + 1), .int (15 : Int32), .int v5, .int v7]) rfl rfl (to_i (pc := 19) rw_96_19 rfl (to_in (pc := 21) rw_96_21 rfl (b_cne (pc := 22) rw_96_22 (A := v7.toInt) (B := x.toInt) rfl rfl (fun h10 => ?_) (fun h10 => ?_))))
    · refine s_inc (pc := 27) rw_96_27 (ls2 := fun v => [.int x, .ref (mm_ext + 1), .int (15 : Int32), .int v, .int v7]) rfl rfl (fun _ => rfl) (A := v5.toInt) (B := 1) rfl rfl (by omega) (fun v11 e12 => to_go (pc := 30) rw_96_30 (to_in (pc := 9) rw_96_9 rfl (to_in (pc := 10) rw_96_10 rfl (b_cge_f (pc := 11) rw_96_11 (A := v11.toInt) (B := 15) rfl rfl (by omega) (to_an (pc := 14) rw_96_14 rfl (to_in (pc := 15) rw_96_15 rfl (s_xalE (pc := 16) rw_96_16 hX (e := 1) (n := 15) rfl (A := v11.toInt) rfl (by omega) (by omega) (fun v13 w_14 => ?_))))))))
      have z_15 : v13.toInt = 788074496 := (g_W_u q1 2 (by decide) (by omega) w_14).trans rfl
      refine to_is (pc := 17) rw_96_17 (ls2 := [.int x, .ref (mm_ext + 1), .int (15 : Int32), .int v11, .int v13]) rfl rfl (to_i (pc := 19) rw_96_19 rfl (to_in (pc := 21) rw_96_21 rfl (b_cne (pc := 22) rw_96_22 (A := v13.toInt) (B := x.toInt) rfl rfl (fun h16 => ?_) (fun h16 => ?_))))
      · refine s_inc (pc := 27) rw_96_27 (ls2 := fun v => [.int x, .ref (mm_ext + 1), .int (15 : Int32), .int v, .int v13]) rfl rfl (fun _ => rfl) (A := v11.toInt) (B := 1) rfl rfl (by omega) (fun v17 e18 => to_go (pc := 30) rw_96_30 (to_in (pc := 9) rw_96_9 rfl (to_in (pc := 10) rw_96_10 rfl (b_cge_f (pc := 11) rw_96_11 (A := v17.toInt) (B := 15) rfl rfl (by omega) (to_an (pc := 14) rw_96_14 rfl (to_in (pc := 15) rw_96_15 rfl (s_xalE (pc := 16) rw_96_16 hX (e := 1) (n := 15) rfl (A := v17.toInt) rfl (by omega) (by omega) (fun v19 w_20 => ?_))))))))
        have z_21 : v19.toInt = 518160384 := (g_W_u q1 3 (by decide) (by omega) w_20).trans rfl
        refine to_is (pc := 17) rw_96_17 (ls2 := [.int x, .ref (mm_ext + 1), .int (15 : Int32), .int v17, .int v19]) rfl rfl (to_i (pc := 19) rw_96_19 rfl (to_in (pc := 21) rw_96_21 rfl (b_cne (pc := 22) rw_96_22 (A := v19.toInt) (B := x.toInt) rfl rfl (fun h22 => ?_) (fun h22 => ?_))))
        · refine s_inc (pc := 27) rw_96_27 (ls2 := fun v => [.int x, .ref (mm_ext + 1), .int (15 : Int32), .int v, .int v19]) rfl rfl (fun _ => rfl) (A := v17.toInt) (B := 1) rfl rfl (by omega) (fun v23 e24 => to_go (pc := 30) rw_96_30 (to_in (pc := 9) rw_96_9 rfl (to_in (pc := 10) rw_96_10 rfl (b_cge_f (pc := 11) rw_96_11 (A := v23.toInt) (B := 15) rfl rfl (by omega) (to_an (pc := 14) rw_96_14 rfl (to_in (pc := 15) rw_96_15 rfl (s_xalE (pc := 16) rw_96_16 hX (e := 1) (n := 15) rfl (A := v23.toInt) rfl (by omega) (by omega) (fun v25 w_26 => ?_))))))))
          have z_27 : v25.toInt = 659999744 := (g_W_u q1 4 (by decide) (by omega) w_26).trans rfl
          refine to_is (pc := 17) rw_96_17 (ls2 := [.int x, .ref (mm_ext + 1), .int (15 : Int32), .int v23, .int v25]) rfl rfl (to_i (pc := 19) rw_96_19 rfl (to_in (pc := 21) rw_96_21 rfl (b_cne (pc := 22) rw_96_22 (A := v25.toInt) (B := x.toInt) rfl rfl (fun h28 => ?_) (fun h28 => ?_))))
          · refine s_inc (pc := 27) rw_96_27 (ls2 := fun v => [.int x, .ref (mm_ext + 1), .int (15 : Int32), .int v, .int v25]) rfl rfl (fun _ => rfl) (A := v23.toInt) (B := 1) rfl rfl (by omega) (fun v29 e30 => to_go (pc := 30) rw_96_30 (to_in (pc := 9) rw_96_9 rfl (to_in (pc := 10) rw_96_10 rfl (b_cge_f (pc := 11) rw_96_11 (A := v29.toInt) (B := 15) rfl rfl (by omega) (to_an (pc := 14) rw_96_14 rfl (to_in (pc := 15) rw_96_15 rfl (s_xalE (pc := 16) rw_96_16 hX (e := 1) (n := 15) rfl (A := v29.toInt) rfl (by omega) (by omega) (fun v31 w_32 => ?_))))))))
            have z_33 : v31.toInt = 538233440 := (g_W_u q1 5 (by decide) (by omega) w_32).trans rfl
            refine to_is (pc := 17) rw_96_17 (ls2 := [.int x, .ref (mm_ext + 1), .int (15 : Int32), .int v29, .int v31]) rfl rfl (to_i (pc := 19) rw_96_19 rfl (to_in (pc := 21) rw_96_21 rfl (b_cne (pc := 22) rw_96_22 (A := v31.toInt) (B := x.toInt) rfl rfl (fun h34 => ?_) (fun h34 => ?_))))
            · refine s_inc (pc := 27) rw_96_27 (ls2 := fun v => [.int x, .ref (mm_ext + 1), .int (15 : Int32), .int v, .int v31]) rfl rfl (fun _ => rfl) (A := v29.toInt) (B := 1) rfl rfl (by omega) (fun v35 e36 => to_go (pc := 30) rw_96_30 (to_in (pc := 9) rw_96_9 rfl (to_in (pc := 10) rw_96_10 rfl (b_cge_f (pc := 11) rw_96_11 (A := v35.toInt) (B := 15) rfl rfl (by omega) (to_an (pc := 14) rw_96_14 rfl (to_in (pc := 15) rw_96_15 rfl (s_xalE (pc := 16) rw_96_16 hX (e := 1) (n := 15) rfl (A := v35.toInt) rfl (by omega) (by omega) (fun v37 w_38 => ?_))))))))
              have z_39 : v37.toInt = 404000768 := (g_W_u q1 6 (by decide) (by omega) w_38).trans rfl
              refine to_is (pc := 17) rw_96_17 (ls2 := [.int x, .ref (mm_ext + 1), .int (15 : Int32), .int v35, .int v37]) rfl rfl (to_i (pc := 19) rw_96_19 rfl (to_in (pc := 21) rw_96_21 rfl (b_cne (pc := 22) rw_96_22 (A := v37.toInt) (B := x.toInt) rfl rfl (fun h40 => ?_) (fun h40 => ?_))))
              · refine s_inc (pc := 27) rw_96_27 (ls2 := fun v => [.int x, .ref (mm_ext + 1), .int (15 : Int32), .int v, .int v37]) rfl rfl (fun _ => rfl) (A := v35.toInt) (B := 1) rfl rfl (by omega) (fun v41 e42 => to_go (pc := 30) rw_96_30 (to_in (pc := 9) rw_96_9 rfl (to_in (pc := 10) rw_96_10 rfl (b_cge_f (pc := 11) rw_96_11 (A := v41.toInt) (B := 15) rfl rfl (by omega) (to_an (pc := 14) rw_96_14 rfl (to_in (pc := 15) rw_96_15 rfl (s_xalE (pc := 16) rw_96_16 hX (e := 1) (n := 15) rfl (A := v41.toInt) rfl (by omega) (by omega) (fun v43 w_44 => ?_))))))))
                have z_45 : v43.toInt = 538561536 := (g_W_u q1 7 (by decide) (by omega) w_44).trans rfl
                refine to_is (pc := 17) rw_96_17 (ls2 := [.int x, .ref (mm_ext + 1), .int (15 : Int32), .int v41, .int v43]) rfl rfl (to_i (pc := 19) rw_96_19 rfl (to_in (pc := 21) rw_96_21 rfl (b_cne (pc := 22) rw_96_22 (A := v43.toInt) (B := x.toInt) rfl rfl (fun h46 => ?_) (fun h46 => ?_))))
                · refine s_inc (pc := 27) rw_96_27 (ls2 := fun v => [.int x, .ref (mm_ext + 1), .int (15 : Int32), .int v, .int v43]) rfl rfl (fun _ => rfl) (A := v41.toInt) (B := 1) rfl rfl (by omega) (fun v47 e48 => to_go (pc := 30) rw_96_30 (to_in (pc := 9) rw_96_9 rfl (to_in (pc := 10) rw_96_10 rfl (b_cge_f (pc := 11) rw_96_11 (A := v47.toInt) (B := 15) rfl rfl (by omega) (to_an (pc := 14) rw_96_14 rfl (to_in (pc := 15) rw_96_15 rfl (s_xalE (pc := 16) rw_96_16 hX (e := 1) (n := 15) rfl (A := v47.toInt) rfl (by omega) (by omega) (fun v49 w_50 => ?_))))))))
                  have z_51 : v49.toInt = 686817280 := (g_W_u q1 8 (by decide) (by omega) w_50).trans rfl
                  refine to_is (pc := 17) rw_96_17 (ls2 := [.int x, .ref (mm_ext + 1), .int (15 : Int32), .int v47, .int v49]) rfl rfl (to_i (pc := 19) rw_96_19 rfl (to_in (pc := 21) rw_96_21 rfl (b_cne (pc := 22) rw_96_22 (A := v49.toInt) (B := x.toInt) rfl rfl (fun h52 => ?_) (fun h52 => ?_))))
                  · refine s_inc (pc := 27) rw_96_27 (ls2 := fun v => [.int x, .ref (mm_ext + 1), .int (15 : Int32), .int v, .int v49]) rfl rfl (fun _ => rfl) (A := v47.toInt) (B := 1) rfl rfl (by omega) (fun v53 e54 => to_go (pc := 30) rw_96_30 (to_in (pc := 9) rw_96_9 rfl (to_in (pc := 10) rw_96_10 rfl (b_cge_f (pc := 11) rw_96_11 (A := v53.toInt) (B := 15) rfl rfl (by omega) (to_an (pc := 14) rw_96_14 rfl (to_in (pc := 15) rw_96_15 rfl (s_xalE (pc := 16) rw_96_16 hX (e := 1) (n := 15) rfl (A := v53.toInt) rfl (by omega) (by omega) (fun v55 w_56 => ?_))))))))
                    have z_57 : v55.toInt = 93323264 := (g_W_u q1 9 (by decide) (by omega) w_56).trans rfl
                    refine to_is (pc := 17) rw_96_17 (ls2 := [.int x, .ref (mm_ext + 1), .int (15 : Int32), .int v53, .int v55]) rfl rfl (to_i (pc := 19) rw_96_19 rfl (to_in (pc := 21) rw_96_21 rfl (b_cne (pc := 22) rw_96_22 (A := v55.toInt) (B := x.toInt) rfl rfl (fun h58 => ?_) (fun h58 => ?_))))
                    · refine s_inc (pc := 27) rw_96_27 (ls2 := fun v => [.int x, .ref (mm_ext + 1), .int (15 : Int32), .int v, .int v55]) rfl rfl (fun _ => rfl) (A := v53.toInt) (B := 1) rfl rfl (by omega) (fun v59 e60 => to_go (pc := 30) rw_96_30 (to_in (pc := 9) rw_96_9 rfl (to_in (pc := 10) rw_96_10 rfl (b_cge_f (pc := 11) rw_96_11 (A := v59.toInt) (B := 15) rfl rfl (by omega) (to_an (pc := 14) rw_96_14 rfl (to_in (pc := 15) rw_96_15 rfl (s_xalE (pc := 16) rw_96_16 hX (e := 1) (n := 15) rfl (A := v59.toInt) rfl (by omega) (by omega) (fun v61 w_62 => ?_))))))))
                      have z_63 : v61.toInt = 351582208 := (g_W_u q1 10 (by decide) (by omega) w_62).trans rfl
                      refine to_is (pc := 17) rw_96_17 (ls2 := [.int x, .ref (mm_ext + 1), .int (15 : Int32), .int v59, .int v61]) rfl rfl (to_i (pc := 19) rw_96_19 rfl (to_in (pc := 21) rw_96_21 rfl (b_cne (pc := 22) rw_96_22 (A := v61.toInt) (B := x.toInt) rfl rfl (fun h64 => ?_) (fun h64 => ?_))))
                      · refine s_inc (pc := 27) rw_96_27 (ls2 := fun v => [.int x, .ref (mm_ext + 1), .int (15 : Int32), .int v, .int v61]) rfl rfl (fun _ => rfl) (A := v59.toInt) (B := 1) rfl rfl (by omega) (fun v65 e66 => to_go (pc := 30) rw_96_30 (to_in (pc := 9) rw_96_9 rfl (to_in (pc := 10) rw_96_10 rfl (b_cge_f (pc := 11) rw_96_11 (A := v65.toInt) (B := 15) rfl rfl (by omega) (to_an (pc := 14) rw_96_14 rfl (to_in (pc := 15) rw_96_15 rfl (s_xalE (pc := 16) rw_96_16 hX (e := 1) (n := 15) rfl (A := v65.toInt) rfl (by omega) (by omega) (fun v67 w_68 => ?_))))))))
                        have z_69 : v67.toInt = 40936896 := (g_W_u q1 11 (by decide) (by omega) w_68).trans rfl
                        refine to_is (pc := 17) rw_96_17 (ls2 := [.int x, .ref (mm_ext + 1), .int (15 : Int32), .int v65, .int v67]) rfl rfl (to_i (pc := 19) rw_96_19 rfl (to_in (pc := 21) rw_96_21 rfl (b_cne (pc := 22) rw_96_22 (A := v67.toInt) (B := x.toInt) rfl rfl (fun h70 => ?_) (fun h70 => ?_))))
                        · refine s_inc (pc := 27) rw_96_27 (ls2 := fun v => [.int x, .ref (mm_ext + 1), .int (15 : Int32), .int v, .int v67]) rfl rfl (fun _ => rfl) (A := v65.toInt) (B := 1) rfl rfl (by omega) (fun v71 e72 => to_go (pc := 30) rw_96_30 (to_in (pc := 9) rw_96_9 rfl (to_in (pc := 10) rw_96_10 rfl (b_cge_f (pc := 11) rw_96_11 (A := v71.toInt) (B := 15) rfl rfl (by omega) (to_an (pc := 14) rw_96_14 rfl (to_in (pc := 15) rw_96_15 rfl (s_xalE (pc := 16) rw_96_16 hX (e := 1) (n := 15) rfl (A := v71.toInt) rfl (by omega) (by omega) (fun v73 w_74 => ?_))))))))
                          have z_75 : v73.toInt = 486146048 := (g_W_u q1 12 (by decide) (by omega) w_74).trans rfl
                          refine to_is (pc := 17) rw_96_17 (ls2 := [.int x, .ref (mm_ext + 1), .int (15 : Int32), .int v71, .int v73]) rfl rfl (to_i (pc := 19) rw_96_19 rfl (to_in (pc := 21) rw_96_21 rfl (b_cne (pc := 22) rw_96_22 (A := v73.toInt) (B := x.toInt) rfl rfl (fun h76 => ?_) (fun h76 => ?_))))
                          · refine s_inc (pc := 27) rw_96_27 (ls2 := fun v => [.int x, .ref (mm_ext + 1), .int (15 : Int32), .int v, .int v73]) rfl rfl (fun _ => rfl) (A := v71.toInt) (B := 1) rfl rfl (by omega) (fun v77 e78 => to_go (pc := 30) rw_96_30 (to_in (pc := 9) rw_96_9 rfl (to_in (pc := 10) rw_96_10 rfl (b_cge_f (pc := 11) rw_96_11 (A := v77.toInt) (B := 15) rfl rfl (by omega) (to_an (pc := 14) rw_96_14 rfl (to_in (pc := 15) rw_96_15 rfl (s_xalE (pc := 16) rw_96_16 hX (e := 1) (n := 15) rfl (A := v77.toInt) rfl (by omega) (by omega) (fun v79 w_80 => ?_))))))))
                            have z_81 : v79.toInt = 48365568 := (g_W_u q1 13 (by decide) (by omega) w_80).trans rfl
                            refine to_is (pc := 17) rw_96_17 (ls2 := [.int x, .ref (mm_ext + 1), .int (15 : Int32), .int v77, .int v79]) rfl rfl (to_i (pc := 19) rw_96_19 rfl (to_in (pc := 21) rw_96_21 rfl (b_cne (pc := 22) rw_96_22 (A := v79.toInt) (B := x.toInt) rfl rfl (fun h82 => ?_) (fun h82 => ?_))))
                            · refine s_inc (pc := 27) rw_96_27 (ls2 := fun v => [.int x, .ref (mm_ext + 1), .int (15 : Int32), .int v, .int v79]) rfl rfl (fun _ => rfl) (A := v77.toInt) (B := 1) rfl rfl (by omega) (fun v83 e84 => to_go (pc := 30) rw_96_30 (to_in (pc := 9) rw_96_9 rfl (to_in (pc := 10) rw_96_10 rfl (b_cge_f (pc := 11) rw_96_11 (A := v83.toInt) (B := 15) rfl rfl (by omega) (to_an (pc := 14) rw_96_14 rfl (to_in (pc := 15) rw_96_15 rfl (s_xalE (pc := 16) rw_96_16 hX (e := 1) (n := 15) rfl (A := v83.toInt) rfl (by omega) (by omega) (fun v85 w_86 => ?_))))))))
                              have z_87 : v85.toInt = 522190848 := (g_W_u q1 14 (by decide) (by omega) w_86).trans rfl
                              refine to_is (pc := 17) rw_96_17 (ls2 := [.int x, .ref (mm_ext + 1), .int (15 : Int32), .int v83, .int v85]) rfl rfl (to_i (pc := 19) rw_96_19 rfl (to_in (pc := 21) rw_96_21 rfl (b_cne (pc := 22) rw_96_22 (A := v85.toInt) (B := x.toInt) rfl rfl (fun h88 => ?_) (fun h88 => ?_))))
                              · refine s_inc (pc := 27) rw_96_27 (ls2 := fun v => [.int x, .ref (mm_ext + 1), .int (15 : Int32), .int v, .int v85]) rfl rfl (fun _ => rfl) (A := v83.toInt) (B := 1) rfl rfl (by omega) (fun v89 e90 => to_go (pc := 30) rw_96_30 (to_in (pc := 9) rw_96_9 rfl (to_in (pc := 10) rw_96_10 rfl (b_cge_t (pc := 11) rw_96_11 (A := v89.toInt) (B := 15) rfl rfl (by omega) (to_c (pc := 33) rw_96_33 (x := (0 : Int32)) rfl rfl (s_r1 (pc := 34) rw_96_34 (A := 0) rfl (by decide) ?_))))))
                                have k_91 : (0 : Int32).toInt = 0 := rfl
                                have z_92 : x_kx x.toInt = -1 := by unfold x_kx; rw [if_neg (by omega), if_neg (by omega), if_neg (by omega), if_neg (by omega), if_neg (by omega), if_neg (by omega), if_neg (by omega), if_neg (by omega), if_neg (by omega), if_neg (by omega), if_neg (by omega), if_neg (by omega), if_neg (by omega), if_neg (by omega), if_neg (by omega)]
                                exact h (0 : Int32) M hG F0 (by decide) (by decide) (by omega) (by omega)
                              · refine to_c (pc := 25) rw_96_25 (x := (1 : Int32)) rfl rfl (s_r1 (pc := 26) rw_96_26 (A := 1) rfl (by decide) ?_)
                                have k_93 : (1 : Int32).toInt = 1 := rfl
                                have z_94 : x_kx x.toInt = 13 := by rw [show x.toInt = 522190848 by omega]; rfl
                                exact h (1 : Int32) M hG F0 (by decide) (by decide) (by omega) (by omega)
                            · refine to_c (pc := 25) rw_96_25 (x := (1 : Int32)) rfl rfl (s_r1 (pc := 26) rw_96_26 (A := 1) rfl (by decide) ?_)
                              have k_95 : (1 : Int32).toInt = 1 := rfl
                              have z_96 : x_kx x.toInt = 12 := by rw [show x.toInt = 48365568 by omega]; rfl
                              exact h (1 : Int32) M hG F0 (by decide) (by decide) (by omega) (by omega)
                          · refine to_c (pc := 25) rw_96_25 (x := (1 : Int32)) rfl rfl (s_r1 (pc := 26) rw_96_26 (A := 1) rfl (by decide) ?_)
                            have k_97 : (1 : Int32).toInt = 1 := rfl
                            have z_98 : x_kx x.toInt = 14 := by rw [show x.toInt = 486146048 by omega]; rfl
                            exact h (1 : Int32) M hG F0 (by decide) (by decide) (by omega) (by omega)
                        · refine to_c (pc := 25) rw_96_25 (x := (1 : Int32)) rfl rfl (s_r1 (pc := 26) rw_96_26 (A := 1) rfl (by decide) ?_)
                          have k_99 : (1 : Int32).toInt = 1 := rfl
                          have z_100 : x_kx x.toInt = 11 := by rw [show x.toInt = 40936896 by omega]; rfl
                          exact h (1 : Int32) M hG F0 (by decide) (by decide) (by omega) (by omega)
                      · refine to_c (pc := 25) rw_96_25 (x := (1 : Int32)) rfl rfl (s_r1 (pc := 26) rw_96_26 (A := 1) rfl (by decide) ?_)
                        have k_101 : (1 : Int32).toInt = 1 := rfl
                        have z_102 : x_kx x.toInt = 10 := by rw [show x.toInt = 351582208 by omega]; rfl
                        exact h (1 : Int32) M hG F0 (by decide) (by decide) (by omega) (by omega)
                    · refine to_c (pc := 25) rw_96_25 (x := (1 : Int32)) rfl rfl (s_r1 (pc := 26) rw_96_26 (A := 1) rfl (by decide) ?_)
                      have k_103 : (1 : Int32).toInt = 1 := rfl
                      have z_104 : x_kx x.toInt = 9 := by rw [show x.toInt = 93323264 by omega]; rfl
                      exact h (1 : Int32) M hG F0 (by decide) (by decide) (by omega) (by omega)
                  · refine to_c (pc := 25) rw_96_25 (x := (1 : Int32)) rfl rfl (s_r1 (pc := 26) rw_96_26 (A := 1) rfl (by decide) ?_)
                    have k_105 : (1 : Int32).toInt = 1 := rfl
                    have z_106 : x_kx x.toInt = 8 := by rw [show x.toInt = 686817280 by omega]; rfl
                    exact h (1 : Int32) M hG F0 (by decide) (by decide) (by omega) (by omega)
                · refine to_c (pc := 25) rw_96_25 (x := (1 : Int32)) rfl rfl (s_r1 (pc := 26) rw_96_26 (A := 1) rfl (by decide) ?_)
                  have k_107 : (1 : Int32).toInt = 1 := rfl
                  have z_108 : x_kx x.toInt = 7 := by rw [show x.toInt = 538561536 by omega]; rfl
                  exact h (1 : Int32) M hG F0 (by decide) (by decide) (by omega) (by omega)
              · refine to_c (pc := 25) rw_96_25 (x := (1 : Int32)) rfl rfl (s_r1 (pc := 26) rw_96_26 (A := 1) rfl (by decide) ?_)
                have k_109 : (1 : Int32).toInt = 1 := rfl
                have z_110 : x_kx x.toInt = 6 := by rw [show x.toInt = 404000768 by omega]; rfl
                exact h (1 : Int32) M hG F0 (by decide) (by decide) (by omega) (by omega)
            · refine to_c (pc := 25) rw_96_25 (x := (1 : Int32)) rfl rfl (s_r1 (pc := 26) rw_96_26 (A := 1) rfl (by decide) ?_)
              have k_111 : (1 : Int32).toInt = 1 := rfl
              have z_112 : x_kx x.toInt = 5 := by rw [show x.toInt = 538233440 by omega]; rfl
              exact h (1 : Int32) M hG F0 (by decide) (by decide) (by omega) (by omega)
          · refine to_c (pc := 25) rw_96_25 (x := (1 : Int32)) rfl rfl (s_r1 (pc := 26) rw_96_26 (A := 1) rfl (by decide) ?_)
            have k_113 : (1 : Int32).toInt = 1 := rfl
            have z_114 : x_kx x.toInt = 4 := by rw [show x.toInt = 659999744 by omega]; rfl
            exact h (1 : Int32) M hG F0 (by decide) (by decide) (by omega) (by omega)
        · refine to_c (pc := 25) rw_96_25 (x := (1 : Int32)) rfl rfl (s_r1 (pc := 26) rw_96_26 (A := 1) rfl (by decide) ?_)
          have k_115 : (1 : Int32).toInt = 1 := rfl
          have z_116 : x_kx x.toInt = 3 := by rw [show x.toInt = 518160384 by omega]; rfl
          exact h (1 : Int32) M hG F0 (by decide) (by decide) (by omega) (by omega)
      · refine to_c (pc := 25) rw_96_25 (x := (1 : Int32)) rfl rfl (s_r1 (pc := 26) rw_96_26 (A := 1) rfl (by decide) ?_)
        have k_117 : (1 : Int32).toInt = 1 := rfl
        have z_118 : x_kx x.toInt = 2 := by rw [show x.toInt = 788074496 by omega]; rfl
        exact h (1 : Int32) M hG F0 (by decide) (by decide) (by omega) (by omega)
    · refine to_c (pc := 25) rw_96_25 (x := (1 : Int32)) rfl rfl (s_r1 (pc := 26) rw_96_26 (A := 1) rfl (by decide) ?_)
      have k_119 : (1 : Int32).toInt = 1 := rfl
      have z_120 : x_kx x.toInt = 1 := by rw [show x.toInt = 210940032 by omega]; rfl
      exact h (1 : Int32) M hG F0 (by decide) (by decide) (by omega) (by omega)
  · refine to_c (pc := 25) rw_96_25 (x := (1 : Int32)) rfl rfl (s_r1 (pc := 26) rw_96_26 (A := 1) rfl (by decide) ?_)
    have k_121 : (1 : Int32).toInt = 1 := rfl
    have z_122 : x_kx x.toInt = 0 := by rw [show x.toInt = 284563040 by omega]; rfl
    exact h (1 : Int32) M hG F0 (by decide) (by decide) (by omega) (by omega)
set_option maxRecDepth 4000 in
set_option maxHeartbeats 0 in
theorem E_82 {X : mm_X} {d : Nat} {M : mm_M} {Q : Option Value → mm_M → Prop} {k : Int32} {v : Int32} {w : Int32} (hX : g_X X) (hd : 0 ≤ d) (hG : g_G M) (q1 : (M.2.1 1 5).toInt ≤ 500) (h : ∀ (M1 : mm_M), g_G M1 → FR md_ad M M1 → (AD M M1 k.toInt v.toInt w.toInt) → Q (none) M1) : mm_T X d 82 0 [.ref 1, .int k, .int v, .int w] [] M Q := by
  have F0 : FR md_ad M M := FR.rf
  have b_1 := g_b hG (a := 1) (i := 5) (lo := 0) (hi := 501) rfl rfl
  refine to_an (pc := 0) rw_82_0 rfl (tt_gI (pc := 1) rw_82_1 (g_o hG rfl) (v := (M.2.1 1 5)) rfl (to_an (pc := 4) rw_82_4 rfl (s_gR (pc := 5) rw_82_5 hG rfl (v := 3) rfl (s_len (pc := 8) rw_82_8 hG rfl rfl (n := 501) rfl (v := (501 : Int32)) rfl (b_cge_f (pc := 9) rw_82_9 (A := (M.2.1 1 5).toInt) (B := 501) rfl rfl (by omega) (to_an (pc := 12) rw_82_12 rfl (s_gR (pc := 13) rw_82_13 hG rfl (v := 3) rfl (to_an (pc := 16) rw_82_16 rfl (tt_gI (pc := 17) rw_82_17 (g_o hG rfl) (v := (M.2.1 1 5)) rfl (to_in (pc := 20) rw_82_20 rfl (s_ias (pc := 21) rw_82_21 hG rfl (n := 501) rfl (A := (M.2.1 1 5).toInt) rfl (by omega) (by omega) (fun M3 W2 => ?_))))))))))))
  have hG4 := g_wf hG W2 rfl rfl (by decide)
  have F5 := FR.w F0 W2 (show 3 = 1 ∧ ((M.2.1 1 5).toInt).toNat = 5 ∨ 3 ≤ 3 ∧ 3 ≤ 5 by omega)
  refine to_an (pc := 22) rw_82_22 rfl (s_gR (pc := 23) rw_82_23 hG4 rfl (v := 4) rfl (to_an (pc := 26) rw_82_26 rfl ?_))
  have c_6 : M3.2.1 1 5 = (M.2.1 1 5) := (W_n W2 (fun z => absurd z.1 (by decide)) rfl)
  refine tt_gI (pc := 27) rw_82_27 (g_o hG4 rfl) (v := (M.2.1 1 5)) c_6 (to_in (pc := 30) rw_82_30 rfl (s_ias (pc := 31) rw_82_31 hG4 rfl (n := 501) rfl (A := (M.2.1 1 5).toInt) rfl (by omega) (by omega) (fun M8 W7 => ?_)))
  have hG9 := g_wf hG4 W7 rfl rfl (by decide)
  have F10 := FR.w F5 W7 (show 4 = 1 ∧ ((M.2.1 1 5).toInt).toNat = 5 ∨ 3 ≤ 4 ∧ 4 ≤ 5 by omega)
  refine to_an (pc := 32) rw_82_32 rfl (s_gR (pc := 33) rw_82_33 hG9 rfl (v := 5) rfl (to_an (pc := 36) rw_82_36 rfl ?_))
  have c_11 : M8.2.1 1 5 = (M.2.1 1 5) := (W_n W7 (fun z => absurd z.1 (by decide)) c_6)
  refine tt_gI (pc := 37) rw_82_37 (g_o hG9 rfl) (v := (M.2.1 1 5)) c_11 (to_in (pc := 40) rw_82_40 rfl (s_ias (pc := 41) rw_82_41 hG9 rfl (n := 501) rfl (A := (M.2.1 1 5).toInt) rfl (by omega) (by omega) (fun M13 W12 => ?_)))
  have hG14 := g_wf hG9 W12 rfl rfl (by decide)
  have F15 := FR.w F10 W12 (show 5 = 1 ∧ ((M.2.1 1 5).toInt).toNat = 5 ∨ 3 ≤ 5 ∧ 5 ≤ 5 by omega)
  refine to_an (pc := 42) rw_82_42 rfl (to_dupr (pc := 43) rw_82_43 ?_)
  have c_16 : M13.2.1 1 5 = (M.2.1 1 5) := (W_n W12 (fun z => absurd z.1 (by decide)) c_11)
  refine tt_gI (pc := 44) rw_82_44 (g_o hG14 rfl) (v := (M.2.1 1 5)) c_16 (to_c (pc := 47) rw_82_47 (x := (1 : Int32)) rfl rfl (s_add (pc := 48) rw_82_48 (A := (M.2.1 1 5).toInt) (B := 1) rfl rfl (by omega) (fun v17 e18 => s_pI (pc := 49) rw_82_49 hG14 rfl (fun M20 W19 => ?_))))
  have hG21 := g_w hG14 W19 (A := v17.toInt) rfl (lo := 0) (hi := 501) rfl rfl (by omega) (by decide)
  have F22 := FR.w F15 W19 (show 1 = 1 ∧ 5 = 5 ∨ 3 ≤ 1 ∧ 1 ≤ 5 by decide)
  have ad_23 := AD_k W2 W7 W12 W19 (by omega)
  refine to_rv (pc := 52) rw_82_52 ?_
  exact h M20 hG21 F22 ad_23
set_option maxRecDepth 4000 in
set_option maxHeartbeats 0 in
theorem U_80_0 {X : mm_X} {d : Nat} {M : mm_M} {Q : Option Value → mm_M → Prop} {f : Int32} {n : Int32} {t : Nat → Int} {nn : Int} (hX : g_X X) (hd : 1 ≤ d) (q1 : 0 ≤ f.toInt) (q2 : f.toInt ≤ 500) (q3 : f.toInt < nn) (q4 : nn ≤ 500) (q5 : n.toInt = nn) (q6 : n.toInt ≤ 500) (q7 : 0 ≤ n.toInt) (q8 : (M.2.1 1 5).toInt ≤ 500) (q9 : TT M t nn) (q10 : 97 ≤ t (f.toInt).toNat) (q11 : t (f.toInt).toNat ≤ 122) (q12 : g_W X) (h : ∀ (r : Int32) (M1 : mm_M), g_G M1 → FR md_ad M M1 → (r.toInt = x_e t nn f.toInt) → (∃ tok val : Int, AD M M1 tok val f.toInt ∧ x_C (x_kind t nn f.toInt) (x_val t nn f.toInt) tok val) → Q (some (.int r)) M1) : ∀ nn9 : Nat, (∀ (N : mm_M) (x3 : Int32) (x4 : Int32), g_G N → FR md_ad M N → (0 ≤ x4.toInt) → (x4.toInt ≤ 500) → (x4.toInt ≤ nn) → (f.toInt ≤ x4.toInt) → (N = M) → (∀ i : Nat, i < (x4.toInt - f.toInt).toNat → 97 ≤ t ((f.toInt).toNat + i) ∧ t ((f.toInt).toNat + i) ≤ 122) → ((x3.toInt) = x_pk t (f.toInt).toNat (x4.toInt - f.toInt).toNat) → (x_e t nn x4.toInt = x_e t nn f.toInt) → (TT N t nn) → ((N.2.1 1 5).toInt ≤ 500) → 500 - x4.toInt < (nn9 : Int) → mm_T X d 80 5 [.ref 1, .int f, .int n, .int x3, .int x4] [] N Q) := by
  intro nn9
  induction nn9 with
  | zero =>
    intro N x3 x4 hG F0 g1 g2 g3 g4 g5 g6 g7 g8 g9 g10 hm
    have b_1 := g_b hG (a := 1) (i := 5) (lo := 0) (hi := 501) rfl rfl
    exfalso; omega
  | succ nn9 ih =>
    intro N x3 x4 hG F0 g1 g2 g3 g4 g5 g6 g7 g8 g9 g10 hm
    have b_2 := g_b hG (a := 1) (i := 5) (lo := 0) (hi := 501) rfl rfl
    refine to_i (pc := 5) rw_80_5 rfl (to_in (pc := 7) rw_80_7 rfl (b_cge (pc := 8) rw_80_8 (A := x4.toInt) (B := n.toInt) rfl rfl (fun h3 => ?_) (fun h3 => ?_)))
    · have z_4 : x_e t nn x4.toInt = x4.toInt := x_no (by omega) (by first | exact Or.inl (by omega) | exact Or.inr (x_lt_f (by omega)))
      have z_5 := g8
      refine to_i (pc := 60) rw_80_60 rfl (to_in (pc := 62) rw_80_62 rfl (s_sub (pc := 63) rw_80_63 (A := x4.toInt) (B := f.toInt) rfl rfl (by omega) (fun v6 e7 => to_c (pc := 64) rw_80_64 (x := (6 : Int32)) rfl rfl (b_cle (pc := 66) rw_80_66 (A := v6.toInt) (B := 6) rfl rfl (fun h8 => ?_) (fun h8 => ?_)))))
      · refine to_an (pc := 79) rw_80_79 rfl (to_in (pc := 80) rw_80_80 rfl (s_s (pc := 81) rw_80_81 (dp0 hd (by decide)) (ls0 := [.int x3, .null, .null, .null, .null]) rfl (Nat.le_of_ble_eq_true rfl) (Nat.le_of_ble_eq_true rfl) rfl (to_rcs rfl rfl) rfl (E_96 hX (dp1 hd (by decide)) hG q12 (x := x3) (fun r9 M16 hG11 F10 p_12 p_13 p_14 p_15 => ?_))))
        have F17 := FR.c F0 F10 tg_1
        refine b_ieq (pc := 84) rw_80_84 (A := r9.toInt) rfl (fun h18 => ?_) (fun h18 => ?_)
        · refine to_c (pc := 91) rw_80_91 (x := (3 : Int32)) rfl rfl (to_in (pc := 92) rw_80_92 rfl (to_in (pc := 93) rw_80_93 rfl (s_v (pc := 94) rw_80_94 (dp0 hd (by decide)) (ls0 := [.ref 1, .int (3 : Int32), .int x3, .int f]) rfl (Nat.le_of_ble_eq_true rfl) (Nat.le_of_ble_eq_true rfl) rfl (to_rc rfl rfl rfl (g_o hG11 rfl)) rfl ?_)))
          have k_19 : (3 : Int32).toInt = 3 := rfl
          have c_20 : M16.2.1 1 5 = (N.2.1 1 5) := (F_n F10 (show ¬ (1 < 0) by decide) rfl)
          have t_21 : (M16.2.1 1 5).toInt = (N.2.1 1 5).toInt := congrArg Int32.toInt c_20
          refine E_82 hX (dp1 hd (by decide)) hG11 (by omega) (k := (3 : Int32)) (v := x3) (w := f) (fun M25 hG23 F22 p_24 => ?_)
          have F26 := FR.c F17 F22 tg_2
          refine to_i (pc := 97) rw_80_97 rfl (to_r0 (pc := 99) rw_80_99 ?_)
          exact h x4 M25 hG23 F26 (by omega) (E80_2 ((FR_id F10).trans g5) p_24 (by omega) (by omega) (by omega) (x_lv_e g7 (by omega)) (by omega))
        · refine to_c (pc := 87) rw_80_87 (x := (4 : Int32)) rfl rfl (to_go (pc := 88) rw_80_88 (to_in (pc := 92) rw_80_92 rfl (to_in (pc := 93) rw_80_93 rfl (s_v (pc := 94) rw_80_94 (dp0 hd (by decide)) (ls0 := [.ref 1, .int (4 : Int32), .int x3, .int f]) rfl (Nat.le_of_ble_eq_true rfl) (Nat.le_of_ble_eq_true rfl) rfl (to_rc rfl rfl rfl (g_o hG11 rfl)) rfl ?_))))
          have k_27 : (4 : Int32).toInt = 4 := rfl
          have c_28 : M16.2.1 1 5 = (N.2.1 1 5) := (F_n F10 (show ¬ (1 < 0) by decide) rfl)
          have t_29 : (M16.2.1 1 5).toInt = (N.2.1 1 5).toInt := congrArg Int32.toInt c_28
          refine E_82 hX (dp1 hd (by decide)) hG11 (by omega) (k := (4 : Int32)) (v := x3) (w := f) (fun M33 hG31 F30 p_32 => ?_)
          have F34 := FR.c F17 F30 tg_2
          refine to_i (pc := 97) rw_80_97 rfl (to_r0 (pc := 99) rw_80_99 ?_)
          exact h x4 M33 hG31 F34 (by omega) (E80_1 ((FR_id F10).trans g5) p_32 (by omega) (by omega) (by omega) (x_lv_e g7 (by omega)) (by omega))
      · refine to_an (pc := 69) rw_80_69 rfl (to_c (pc := 70) rw_80_70 (x := (1 : Int32)) rfl rfl (to_c (pc := 71) rw_80_71 (x := (0 : Int32)) rfl rfl (to_in (pc := 72) rw_80_72 rfl (s_v (pc := 73) rw_80_73 (dp0 hd (by decide)) (ls0 := [.ref 1, .int (1 : Int32), .int (0 : Int32), .int f]) rfl (Nat.le_of_ble_eq_true rfl) (Nat.le_of_ble_eq_true rfl) rfl (to_rc rfl rfl rfl (g_o hG rfl)) rfl ?_))))
        have k_35 : (1 : Int32).toInt = 1 := rfl
        have k_36 : (0 : Int32).toInt = 0 := rfl
        refine E_82 hX (dp1 hd (by decide)) hG (by omega) (k := (1 : Int32)) (v := (0 : Int32)) (w := f) (fun M40 hG38 F37 p_39 => ?_)
        have F41 := FR.c F0 F37 tg_2
        refine to_go (pc := 76) rw_80_76 (to_i (pc := 97) rw_80_97 rfl (to_r0 (pc := 99) rw_80_99 ?_))
        exact h x4 M40 hG38 F41 (by omega) (E80_5 g5 p_39 (by omega) (by omega) (by omega))
    · refine to_an (pc := 11) rw_80_11 rfl (to_i (pc := 12) rw_80_12 rfl (s_v (pc := 14) rw_80_14 (dp0 hd (by decide)) (ls0 := [.ref 1, .int x4]) rfl (Nat.le_of_ble_eq_true rfl) (Nat.le_of_ble_eq_true rfl) rfl (to_rc rfl rfl rfl (g_o hG rfl)) rfl (to_in (pc := 0) rw_91_0 rfl (b_ilt_f (pc := 1) rw_91_1 (A := x4.toInt) rfl (by omega) (to_in (pc := 4) rw_91_4 rfl (to_an (pc := 5) rw_91_5 rfl (s_gR (pc := 6) rw_91_6 hG rfl (v := 2) rfl (s_len (pc := 9) rw_91_9 hG rfl rfl (n := 500) rfl (v := (500 : Int32)) rfl (b_cge_f (pc := 10) rw_91_10 (A := x4.toInt) (B := 500) rfl rfl (by omega) (to_an (pc := 13) rw_91_13 rfl (s_gR (pc := 14) rw_91_14 hG rfl (v := 2) rfl ?_)))))))))))
      refine to_in (pc := 17) rw_91_17 rfl (s_bal (pc := 18) rw_91_18 hG rfl (n := 500) rfl (A := x4.toInt) rfl (by omega) (by omega) (lo := -2147483648) (hi := 2147483647) rfl rfl (fun v42 w_43 _ _ => to_c (pc := 19) rw_91_19 (x := (255 : Int32)) rfl rfl (s_and (pc := 22) rw_91_22 (B := 255) rfl (by omega) (fun v44 e45 _ _ => ?_))))
      have z_46 := TT_u g9 (A := x4.toInt) (by omega) (by omega) w_43 e45
      refine to_go (pc := 23) rw_91_23 (to_r0 (pc := 27) rw_91_27 (s_s (pc := 17) rw_80_17 (dp0 hd (by decide)) (ls0 := [.int v44]) rfl (Nat.le_of_ble_eq_true rfl) (Nat.le_of_ble_eq_true rfl) rfl (to_rcs rfl rfl) rfl (to_in (pc := 0) rw_93_0 rfl (to_c (pc := 1) rw_93_1 (x := (97 : Int32)) rfl rfl (b_clt (pc := 3) rw_93_3 (A := v44.toInt) (B := 97) rfl rfl (fun h47 => ?_) (fun h47 => ?_))))))
      · refine to_c (pc := 16) rw_93_16 (x := (0 : Int32)) rfl rfl (s_r1 (pc := 17) rw_93_17 (A := 0) rfl (by decide) (b_ieq_t (pc := 20) rw_80_20 (A := 0) rfl (by decide) ?_))
        have z_48 : x_e t nn x4.toInt = x4.toInt := x_no (by omega) (by first | exact Or.inl (by omega) | exact Or.inr (x_lt_f (by omega)))
        have z_49 := g8
        refine to_i (pc := 60) rw_80_60 rfl (to_in (pc := 62) rw_80_62 rfl (s_sub (pc := 63) rw_80_63 (A := x4.toInt) (B := f.toInt) rfl rfl (by omega) (fun v50 e51 => to_c (pc := 64) rw_80_64 (x := (6 : Int32)) rfl rfl (b_cle (pc := 66) rw_80_66 (A := v50.toInt) (B := 6) rfl rfl (fun h52 => ?_) (fun h52 => ?_)))))
        · refine to_an (pc := 79) rw_80_79 rfl (to_in (pc := 80) rw_80_80 rfl (s_s (pc := 81) rw_80_81 (dp0 hd (by decide)) (ls0 := [.int x3, .null, .null, .null, .null]) rfl (Nat.le_of_ble_eq_true rfl) (Nat.le_of_ble_eq_true rfl) rfl (to_rcs rfl rfl) rfl (E_96 hX (dp1 hd (by decide)) hG q12 (x := x3) (fun r53 M60 hG55 F54 p_56 p_57 p_58 p_59 => ?_))))
          have F61 := FR.c F0 F54 tg_1
          refine b_ieq (pc := 84) rw_80_84 (A := r53.toInt) rfl (fun h62 => ?_) (fun h62 => ?_)
          · refine to_c (pc := 91) rw_80_91 (x := (3 : Int32)) rfl rfl (to_in (pc := 92) rw_80_92 rfl (to_in (pc := 93) rw_80_93 rfl (s_v (pc := 94) rw_80_94 (dp0 hd (by decide)) (ls0 := [.ref 1, .int (3 : Int32), .int x3, .int f]) rfl (Nat.le_of_ble_eq_true rfl) (Nat.le_of_ble_eq_true rfl) rfl (to_rc rfl rfl rfl (g_o hG55 rfl)) rfl ?_)))
            have k_63 : (3 : Int32).toInt = 3 := rfl
            have c_64 : M60.2.1 1 5 = (N.2.1 1 5) := (F_n F54 (show ¬ (1 < 0) by decide) rfl)
            have t_65 : (M60.2.1 1 5).toInt = (N.2.1 1 5).toInt := congrArg Int32.toInt c_64
            refine E_82 hX (dp1 hd (by decide)) hG55 (by omega) (k := (3 : Int32)) (v := x3) (w := f) (fun M69 hG67 F66 p_68 => ?_)
            have F70 := FR.c F61 F66 tg_2
            refine to_i (pc := 97) rw_80_97 rfl (to_r0 (pc := 99) rw_80_99 ?_)
            exact h x4 M69 hG67 F70 (by omega) (E80_2 ((FR_id F54).trans g5) p_68 (by omega) (by omega) (by omega) (x_lv_e g7 (by omega)) (by omega))
          · refine to_c (pc := 87) rw_80_87 (x := (4 : Int32)) rfl rfl (to_go (pc := 88) rw_80_88 (to_in (pc := 92) rw_80_92 rfl (to_in (pc := 93) rw_80_93 rfl (s_v (pc := 94) rw_80_94 (dp0 hd (by decide)) (ls0 := [.ref 1, .int (4 : Int32), .int x3, .int f]) rfl (Nat.le_of_ble_eq_true rfl) (Nat.le_of_ble_eq_true rfl) rfl (to_rc rfl rfl rfl (g_o hG55 rfl)) rfl ?_))))
            have k_71 : (4 : Int32).toInt = 4 := rfl
            have c_72 : M60.2.1 1 5 = (N.2.1 1 5) := (F_n F54 (show ¬ (1 < 0) by decide) rfl)
            have t_73 : (M60.2.1 1 5).toInt = (N.2.1 1 5).toInt := congrArg Int32.toInt c_72
            refine E_82 hX (dp1 hd (by decide)) hG55 (by omega) (k := (4 : Int32)) (v := x3) (w := f) (fun M77 hG75 F74 p_76 => ?_)
            have F78 := FR.c F61 F74 tg_2
            refine to_i (pc := 97) rw_80_97 rfl (to_r0 (pc := 99) rw_80_99 ?_)
            exact h x4 M77 hG75 F78 (by omega) (E80_1 ((FR_id F54).trans g5) p_76 (by omega) (by omega) (by omega) (x_lv_e g7 (by omega)) (by omega))
        · refine to_an (pc := 69) rw_80_69 rfl (to_c (pc := 70) rw_80_70 (x := (1 : Int32)) rfl rfl (to_c (pc := 71) rw_80_71 (x := (0 : Int32)) rfl rfl (to_in (pc := 72) rw_80_72 rfl (s_v (pc := 73) rw_80_73 (dp0 hd (by decide)) (ls0 := [.ref 1, .int (1 : Int32), .int (0 : Int32), .int f]) rfl (Nat.le_of_ble_eq_true rfl) (Nat.le_of_ble_eq_true rfl) rfl (to_rc rfl rfl rfl (g_o hG rfl)) rfl ?_))))
          have k_79 : (1 : Int32).toInt = 1 := rfl
          have k_80 : (0 : Int32).toInt = 0 := rfl
          refine E_82 hX (dp1 hd (by decide)) hG (by omega) (k := (1 : Int32)) (v := (0 : Int32)) (w := f) (fun M84 hG82 F81 p_83 => ?_)
          have F85 := FR.c F0 F81 tg_2
          refine to_go (pc := 76) rw_80_76 (to_i (pc := 97) rw_80_97 rfl (to_r0 (pc := 99) rw_80_99 ?_))
          exact h x4 M84 hG82 F85 (by omega) (E80_5 g5 p_83 (by omega) (by omega) (by omega))
      · refine to_in (pc := 6) rw_93_6 rfl (to_c (pc := 7) rw_93_7 (x := (122 : Int32)) rfl rfl (b_cgt (pc := 9) rw_93_9 (A := v44.toInt) (B := 122) rfl rfl (fun h86 => ?_) (fun h86 => ?_)))
        · refine to_c (pc := 16) rw_93_16 (x := (0 : Int32)) rfl rfl (s_r1 (pc := 17) rw_93_17 (A := 0) rfl (by decide) (b_ieq_t (pc := 20) rw_80_20 (A := 0) rfl (by decide) ?_))
          have z_87 : x_e t nn x4.toInt = x4.toInt := x_no (by omega) (by first | exact Or.inl (by omega) | exact Or.inr (x_lt_f (by omega)))
          have z_88 := g8
          refine to_i (pc := 60) rw_80_60 rfl (to_in (pc := 62) rw_80_62 rfl (s_sub (pc := 63) rw_80_63 (A := x4.toInt) (B := f.toInt) rfl rfl (by omega) (fun v89 e90 => to_c (pc := 64) rw_80_64 (x := (6 : Int32)) rfl rfl (b_cle (pc := 66) rw_80_66 (A := v89.toInt) (B := 6) rfl rfl (fun h91 => ?_) (fun h91 => ?_)))))
          · refine to_an (pc := 79) rw_80_79 rfl (to_in (pc := 80) rw_80_80 rfl (s_s (pc := 81) rw_80_81 (dp0 hd (by decide)) (ls0 := [.int x3, .null, .null, .null, .null]) rfl (Nat.le_of_ble_eq_true rfl) (Nat.le_of_ble_eq_true rfl) rfl (to_rcs rfl rfl) rfl (E_96 hX (dp1 hd (by decide)) hG q12 (x := x3) (fun r92 M99 hG94 F93 p_95 p_96 p_97 p_98 => ?_))))
            have F100 := FR.c F0 F93 tg_1
            refine b_ieq (pc := 84) rw_80_84 (A := r92.toInt) rfl (fun h101 => ?_) (fun h101 => ?_)
            · refine to_c (pc := 91) rw_80_91 (x := (3 : Int32)) rfl rfl (to_in (pc := 92) rw_80_92 rfl (to_in (pc := 93) rw_80_93 rfl (s_v (pc := 94) rw_80_94 (dp0 hd (by decide)) (ls0 := [.ref 1, .int (3 : Int32), .int x3, .int f]) rfl (Nat.le_of_ble_eq_true rfl) (Nat.le_of_ble_eq_true rfl) rfl (to_rc rfl rfl rfl (g_o hG94 rfl)) rfl ?_)))
              have k_102 : (3 : Int32).toInt = 3 := rfl
              have c_103 : M99.2.1 1 5 = (N.2.1 1 5) := (F_n F93 (show ¬ (1 < 0) by decide) rfl)
              have t_104 : (M99.2.1 1 5).toInt = (N.2.1 1 5).toInt := congrArg Int32.toInt c_103
              refine E_82 hX (dp1 hd (by decide)) hG94 (by omega) (k := (3 : Int32)) (v := x3) (w := f) (fun M108 hG106 F105 p_107 => ?_)
              have F109 := FR.c F100 F105 tg_2
              refine to_i (pc := 97) rw_80_97 rfl (to_r0 (pc := 99) rw_80_99 ?_)
              exact h x4 M108 hG106 F109 (by omega) (E80_2 ((FR_id F93).trans g5) p_107 (by omega) (by omega) (by omega) (x_lv_e g7 (by omega)) (by omega))
            · refine to_c (pc := 87) rw_80_87 (x := (4 : Int32)) rfl rfl (to_go (pc := 88) rw_80_88 (to_in (pc := 92) rw_80_92 rfl (to_in (pc := 93) rw_80_93 rfl (s_v (pc := 94) rw_80_94 (dp0 hd (by decide)) (ls0 := [.ref 1, .int (4 : Int32), .int x3, .int f]) rfl (Nat.le_of_ble_eq_true rfl) (Nat.le_of_ble_eq_true rfl) rfl (to_rc rfl rfl rfl (g_o hG94 rfl)) rfl ?_))))
              have k_110 : (4 : Int32).toInt = 4 := rfl
              have c_111 : M99.2.1 1 5 = (N.2.1 1 5) := (F_n F93 (show ¬ (1 < 0) by decide) rfl)
              have t_112 : (M99.2.1 1 5).toInt = (N.2.1 1 5).toInt := congrArg Int32.toInt c_111
              refine E_82 hX (dp1 hd (by decide)) hG94 (by omega) (k := (4 : Int32)) (v := x3) (w := f) (fun M116 hG114 F113 p_115 => ?_)
              have F117 := FR.c F100 F113 tg_2
              refine to_i (pc := 97) rw_80_97 rfl (to_r0 (pc := 99) rw_80_99 ?_)
              exact h x4 M116 hG114 F117 (by omega) (E80_1 ((FR_id F93).trans g5) p_115 (by omega) (by omega) (by omega) (x_lv_e g7 (by omega)) (by omega))
          · refine to_an (pc := 69) rw_80_69 rfl (to_c (pc := 70) rw_80_70 (x := (1 : Int32)) rfl rfl (to_c (pc := 71) rw_80_71 (x := (0 : Int32)) rfl rfl (to_in (pc := 72) rw_80_72 rfl (s_v (pc := 73) rw_80_73 (dp0 hd (by decide)) (ls0 := [.ref 1, .int (1 : Int32), .int (0 : Int32), .int f]) rfl (Nat.le_of_ble_eq_true rfl) (Nat.le_of_ble_eq_true rfl) rfl (to_rc rfl rfl rfl (g_o hG rfl)) rfl ?_))))
            have k_118 : (1 : Int32).toInt = 1 := rfl
            have k_119 : (0 : Int32).toInt = 0 := rfl
            refine E_82 hX (dp1 hd (by decide)) hG (by omega) (k := (1 : Int32)) (v := (0 : Int32)) (w := f) (fun M123 hG121 F120 p_122 => ?_)
            have F124 := FR.c F0 F120 tg_2
            refine to_go (pc := 76) rw_80_76 (to_i (pc := 97) rw_80_97 rfl (to_r0 (pc := 99) rw_80_99 ?_))
            exact h x4 M123 hG121 F124 (by omega) (E80_5 g5 p_122 (by omega) (by omega) (by omega))
        · refine to_c (pc := 12) rw_93_12 (x := (1 : Int32)) rfl rfl (to_go (pc := 13) rw_93_13 (s_r1 (pc := 17) rw_93_17 (A := 1) rfl (by decide) (b_ieq_f (pc := 20) rw_80_20 (A := 1) rfl (by decide) (to_i (pc := 23) rw_80_23 rfl (to_in (pc := 25) rw_80_25 rfl (s_sub (pc := 26) rw_80_26 (A := x4.toInt) (B := f.toInt) rfl rfl (by omega) (fun v125 e126 => to_c (pc := 27) rw_80_27 (x := (6 : Int32)) rfl rfl (b_cge (pc := 29) rw_80_29 (A := v125.toInt) (B := 6) rfl rfl (fun h127 => ?_) (fun h127 => ?_)))))))))
          · refine s_inc (pc := 54) rw_80_54 (ls2 := fun v => [.ref 1, .int f, .int n, .int x3, .int v]) rfl rfl (fun _ => rfl) (A := x4.toInt) (B := 1) rfl rfl (by omega) (fun v128 e129 => to_go (pc := 57) rw_80_57 ?_)
            exact ih N x3 v128 hG F0 (by omega) (by omega) (by omega) (by omega) g5 (x_lt_e (by omega) (x4 := x4.toInt) (by omega) g6 (by omega) (by omega)) (x_pk_z (x4 := x4.toInt) (by omega) g7 (by omega)) (x_ee_e (x4 := x4.toInt) (by omega) (by omega) (by omega) (by omega) g8) g9 (by omega) (by omega)
          · refine to_in (pc := 32) rw_80_32 rfl (to_an (pc := 33) rw_80_33 rfl (to_i (pc := 34) rw_80_34 rfl (s_v (pc := 36) rw_80_36 (dp0 hd (by decide)) (ls0 := [.ref 1, .int x4]) rfl (Nat.le_of_ble_eq_true rfl) (Nat.le_of_ble_eq_true rfl) rfl (to_rc rfl rfl rfl (g_o hG rfl)) rfl (to_in (pc := 0) rw_91_0 rfl (b_ilt_f (pc := 1) rw_91_1 (A := x4.toInt) rfl (by omega) (to_in (pc := 4) rw_91_4 rfl (to_an (pc := 5) rw_91_5 rfl (s_gR (pc := 6) rw_91_6 hG rfl (v := 2) rfl (s_len (pc := 9) rw_91_9 hG rfl rfl (n := 500) rfl (v := (500 : Int32)) rfl (b_cge_f (pc := 10) rw_91_10 (A := x4.toInt) (B := 500) rfl rfl (by omega) (to_an (pc := 13) rw_91_13 rfl ?_)))))))))))
            refine s_gR (pc := 14) rw_91_14 hG rfl (v := 2) rfl (to_in (pc := 17) rw_91_17 rfl (s_balk (pc := 18) rw_91_18 hG rfl (n := 500) rfl (A := x4.toInt) rfl (by omega) (by omega) (v := v42) w_43 (to_c (pc := 19) rw_91_19 (x := (255 : Int32)) rfl rfl (to_2 (pc := 22) rw_91_22 (v := v44) (congrArg some e45) (to_go (pc := 23) rw_91_23 (to_r0 (pc := 27) rw_91_27 (to_c (pc := 39) rw_80_39 (x := (31 : Int32)) rfl rfl (s_and (pc := 41) rw_80_41 (B := 31) rfl (by omega) (fun v134 e135 _ _ => to_c (pc := 42) rw_80_42 (x := (25 : Int32)) rfl rfl (to_c (pc := 44) rw_80_44 (x := (5 : Int32)) rfl rfl (to_i (pc := 45) rw_80_45 rfl ?_)))))))))))
            refine to_in (pc := 47) rw_80_47 rfl (s_sub (pc := 48) rw_80_48 (A := x4.toInt) (B := f.toInt) rfl rfl (by omega) (fun v136 e137 => s_mul (pc := 49) rw_80_49 (A := 5) (B := v136.toInt) rfl rfl (by omega) (fun v138 e139 => s_sub (pc := 50) rw_80_50 (A := 25) (B := v138.toInt) rfl rfl (by omega) (fun v140 e141 => s_opE (pc := 51) rw_80_51 (w := v134 <<< v140) rfl (fun v142 e143 => s_opE (pc := 52) rw_80_52 (w := x3 ||| v142) rfl (fun v144 e145 => to_isn (pc := 53) rw_80_53 (ls2 := [.ref 1, .int f, .int n, .int v144, .int x4]) rfl rfl (s_inc (pc := 54) rw_80_54 (ls2 := fun v => [.ref 1, .int f, .int n, .int v144, .int v]) rfl rfl (fun _ => rfl) (A := x4.toInt) (B := 1) rfl rfl (by omega) (fun v146 e147 => to_go (pc := 57) rw_80_57 ?_))))))))
            exact ih N v144 v146 hG F0 (by omega) (by omega) (by omega) (by omega) g5 (x_lt_e (by omega) (x4 := x4.toInt) (by omega) g6 (by omega) (by omega)) (x_pk_e (by omega) (x4 := x4.toInt) (by omega) (by omega) g7 g6 (s := v44) (by omega) (by omega) (by omega) e135 (c := v140) (by omega) e143 e145 (by omega)) (x_ee_e (x4 := x4.toInt) (by omega) (by omega) (by omega) (by omega) g8) g9 (by omega) (by omega)
set_option maxRecDepth 4000 in
set_option maxHeartbeats 0 in
theorem E_80 {X : mm_X} {d : Nat} {M : mm_M} {Q : Option Value → mm_M → Prop} {f : Int32} {n : Int32} {t : Nat → Int} {nn : Int} (hX : g_X X) (hd : 1 ≤ d) (hG : g_G M) (q1 : 0 ≤ f.toInt) (q2 : f.toInt ≤ 500) (q3 : f.toInt < nn) (q4 : nn ≤ 500) (q5 : n.toInt = nn) (q6 : n.toInt ≤ 500) (q7 : 0 ≤ n.toInt) (q8 : (M.2.1 1 5).toInt ≤ 500) (q9 : TT M t nn) (q10 : 97 ≤ t (f.toInt).toNat) (q11 : t (f.toInt).toNat ≤ 122) (q12 : g_W X) (h : ∀ (r : Int32) (M1 : mm_M), g_G M1 → FR md_ad M M1 → (r.toInt = x_e t nn f.toInt) → (∃ tok val : Int, AD M M1 tok val f.toInt ∧ x_C (x_kind t nn f.toInt) (x_val t nn f.toInt) tok val) → Q (some (.int r)) M1) : mm_T X d 80 0 [.ref 1, .int f, .int n, .null, .null] [] M Q := by
  have F0 : FR md_ad M M := FR.rf
  have b_148 := g_b hG (a := 1) (i := 5) (lo := 0) (hi := 501) rfl rfl
  refine to_c (pc := 0) rw_80_0 (x := (0 : Int32)) rfl rfl (to_isn (pc := 1) rw_80_1 (ls2 := [.ref 1, .int f, .int n, .int (0 : Int32), .null]) rfl rfl (to_in (pc := 2) rw_80_2 rfl (to_is (pc := 3) rw_80_3 (ls2 := [.ref 1, .int f, .int n, .int (0 : Int32), .int f]) rfl rfl ?_)))
  have k_149 : (0 : Int32).toInt = 0 := rfl
  exact (U_80_0 (f := f) (n := n) (t := t) (nn := nn) hX hd q1 q2 q3 q4 q5 q6 q7 q8 q9 q10 q11 q12 h ((500 - f.toInt).toNat + 1)) M (0 : Int32) f hG F0 (by omega) (by omega) (by omega) (by omega) rfl (fun i hi => by exfalso; omega) (by rw [show (f.toInt - f.toInt).toNat = 0 by omega]; rfl) rfl q9 (by omega) (by omega)
set_option maxRecDepth 4000 in
set_option maxHeartbeats 0 in
theorem U_81_0 {X : mm_X} {d : Nat} {M : mm_M} {Q : Option Value → mm_M → Prop} {f : Int32} {n : Int32} {t : Nat → Int} {nn : Int} (hX : g_X X) (hd : 1 ≤ d) (q1 : 0 ≤ f.toInt) (q2 : f.toInt ≤ 500) (q3 : f.toInt < nn) (q4 : nn ≤ 500) (q5 : n.toInt = nn) (q6 : n.toInt ≤ 500) (q7 : 0 ≤ n.toInt) (q8 : (M.2.1 1 5).toInt ≤ 500) (q9 : TT M t nn) (q10 : 48 ≤ t (f.toInt).toNat) (q11 : t (f.toInt).toNat ≤ 57) (h : ∀ (r : Int32) (M1 : mm_M), g_G M1 → FR md_ad M M1 → (r.toInt = x_end x_dg t nn f.toInt) → (∃ tok val : Int, AD M M1 tok val f.toInt ∧ x_C (x_kind t nn f.toInt) (x_val t nn f.toInt) tok val) → Q (some (.int r)) M1) : ∀ nn9 : Nat, (∀ (N : mm_M) (x3 : Int32) (x4 : Int32), g_G N → FR md_ad M N → (0 ≤ x4.toInt) → (x4.toInt ≤ 500) → (x4.toInt ≤ nn) → (f.toInt ≤ x4.toInt) → (0 ≤ x3.toInt) → (x3.toInt ≤ 100) → (N = M) → (x_num t nn x4.toInt x3.toInt = x_num t nn f.toInt 0) → (x_end x_dg t nn x4.toInt = x_end x_dg t nn f.toInt) → (TT N t nn) → ((N.2.1 1 5).toInt ≤ 500) → 500 - x4.toInt < (nn9 : Int) → mm_T X d 81 5 [.ref 1, .int f, .int n, .int x3, .int x4] [] N Q) := by
  intro nn9
  induction nn9 with
  | zero =>
    intro N x3 x4 hG F0 g1 g2 g3 g4 g5 g6 g7 g8 g9 g10 g11 hm
    have b_1 := g_b hG (a := 1) (i := 5) (lo := 0) (hi := 501) rfl rfl
    exfalso; omega
  | succ nn9 ih =>
    intro N x3 x4 hG F0 g1 g2 g3 g4 g5 g6 g7 g8 g9 g10 g11 hm
    have b_2 := g_b hG (a := 1) (i := 5) (lo := 0) (hi := 501) rfl rfl
    refine to_i (pc := 5) rw_81_5 rfl (to_in (pc := 7) rw_81_7 rfl (b_cge (pc := 8) rw_81_8 (A := x4.toInt) (B := n.toInt) rfl rfl (fun h3 => ?_) (fun h3 => ?_)))
    · have z_4 : x_end x_dg t nn x4.toInt = x4.toInt := x_no (by omega) (by first | exact Or.inl (by omega) | exact Or.inr (x_dg_f (by omega)))
      have z_5 : x_num t nn x4.toInt x3.toInt = x3.toInt := x_num_no (by omega) (by omega)
      have z_6 := g8
      have z_7 := g9
      refine to_an (pc := 49) rw_81_49 rfl (to_c (pc := 50) rw_81_50 (x := (2 : Int32)) rfl rfl (to_in (pc := 51) rw_81_51 rfl (to_in (pc := 52) rw_81_52 rfl (s_v (pc := 53) rw_81_53 (dp0 hd (by decide)) (ls0 := [.ref 1, .int (2 : Int32), .int x3, .int f]) rfl (Nat.le_of_ble_eq_true rfl) (Nat.le_of_ble_eq_true rfl) rfl (to_rc rfl rfl rfl (g_o hG rfl)) rfl ?_))))
      have k_8 : (2 : Int32).toInt = 2 := rfl
      refine E_82 hX (dp1 hd (by decide)) hG (by omega) (k := (2 : Int32)) (v := x3) (w := f) (fun M12 hG10 F9 p_11 => ?_)
      have F13 := FR.c F0 F9 tg_2
      refine to_i (pc := 56) rw_81_56 rfl (to_r0 (pc := 58) rw_81_58 ?_)
      exact h x4 M12 hG10 F13 (by omega) (E81_2 g7 p_11 (by omega) (by omega) (by omega))
    · refine to_an (pc := 11) rw_81_11 rfl (to_i (pc := 12) rw_81_12 rfl (s_v (pc := 14) rw_81_14 (dp0 hd (by decide)) (ls0 := [.ref 1, .int x4]) rfl (Nat.le_of_ble_eq_true rfl) (Nat.le_of_ble_eq_true rfl) rfl (to_rc rfl rfl rfl (g_o hG rfl)) rfl (to_in (pc := 0) rw_91_0 rfl (b_ilt_f (pc := 1) rw_91_1 (A := x4.toInt) rfl (by omega) (to_in (pc := 4) rw_91_4 rfl (to_an (pc := 5) rw_91_5 rfl (s_gR (pc := 6) rw_91_6 hG rfl (v := 2) rfl (s_len (pc := 9) rw_91_9 hG rfl rfl (n := 500) rfl (v := (500 : Int32)) rfl (b_cge_f (pc := 10) rw_91_10 (A := x4.toInt) (B := 500) rfl rfl (by omega) (to_an (pc := 13) rw_91_13 rfl (s_gR (pc := 14) rw_91_14 hG rfl (v := 2) rfl ?_)))))))))))
      refine to_in (pc := 17) rw_91_17 rfl (s_bal (pc := 18) rw_91_18 hG rfl (n := 500) rfl (A := x4.toInt) rfl (by omega) (by omega) (lo := -2147483648) (hi := 2147483647) rfl rfl (fun v14 w_15 _ _ => to_c (pc := 19) rw_91_19 (x := (255 : Int32)) rfl rfl (s_and (pc := 22) rw_91_22 (B := 255) rfl (by omega) (fun v16 e17 _ _ => ?_))))
      have z_18 := TT_u g10 (A := x4.toInt) (by omega) (by omega) w_15 e17
      refine to_go (pc := 23) rw_91_23 (to_r0 (pc := 27) rw_91_27 (s_s (pc := 17) rw_81_17 (dp0 hd (by decide)) (ls0 := [.int v16]) rfl (Nat.le_of_ble_eq_true rfl) (Nat.le_of_ble_eq_true rfl) rfl (to_rcs rfl rfl) rfl (to_in (pc := 0) rw_94_0 rfl (to_c (pc := 1) rw_94_1 (x := (48 : Int32)) rfl rfl (b_clt (pc := 3) rw_94_3 (A := v16.toInt) (B := 48) rfl rfl (fun h19 => ?_) (fun h19 => ?_))))))
      · refine to_c (pc := 16) rw_94_16 (x := (0 : Int32)) rfl rfl (s_r1 (pc := 17) rw_94_17 (A := 0) rfl (by decide) (b_ieq_t (pc := 20) rw_81_20 (A := 0) rfl (by decide) ?_))
        have z_20 : x_end x_dg t nn x4.toInt = x4.toInt := x_no (by omega) (by first | exact Or.inl (by omega) | exact Or.inr (x_dg_f (by omega)))
        have z_21 : x_num t nn x4.toInt x3.toInt = x3.toInt := x_num_no (by omega) (by omega)
        have z_22 := g8
        have z_23 := g9
        refine to_an (pc := 49) rw_81_49 rfl (to_c (pc := 50) rw_81_50 (x := (2 : Int32)) rfl rfl (to_in (pc := 51) rw_81_51 rfl (to_in (pc := 52) rw_81_52 rfl (s_v (pc := 53) rw_81_53 (dp0 hd (by decide)) (ls0 := [.ref 1, .int (2 : Int32), .int x3, .int f]) rfl (Nat.le_of_ble_eq_true rfl) (Nat.le_of_ble_eq_true rfl) rfl (to_rc rfl rfl rfl (g_o hG rfl)) rfl ?_))))
        have k_24 : (2 : Int32).toInt = 2 := rfl
        refine E_82 hX (dp1 hd (by decide)) hG (by omega) (k := (2 : Int32)) (v := x3) (w := f) (fun M28 hG26 F25 p_27 => ?_)
        have F29 := FR.c F0 F25 tg_2
        refine to_i (pc := 56) rw_81_56 rfl (to_r0 (pc := 58) rw_81_58 ?_)
        exact h x4 M28 hG26 F29 (by omega) (E81_2 g7 p_27 (by omega) (by omega) (by omega))
      · refine to_in (pc := 6) rw_94_6 rfl (to_c (pc := 7) rw_94_7 (x := (57 : Int32)) rfl rfl (b_cgt (pc := 9) rw_94_9 (A := v16.toInt) (B := 57) rfl rfl (fun h30 => ?_) (fun h30 => ?_)))
        · refine to_c (pc := 16) rw_94_16 (x := (0 : Int32)) rfl rfl (s_r1 (pc := 17) rw_94_17 (A := 0) rfl (by decide) (b_ieq_t (pc := 20) rw_81_20 (A := 0) rfl (by decide) ?_))
          have z_31 : x_end x_dg t nn x4.toInt = x4.toInt := x_no (by omega) (by first | exact Or.inl (by omega) | exact Or.inr (x_dg_f (by omega)))
          have z_32 : x_num t nn x4.toInt x3.toInt = x3.toInt := x_num_no (by omega) (by omega)
          have z_33 := g8
          have z_34 := g9
          refine to_an (pc := 49) rw_81_49 rfl (to_c (pc := 50) rw_81_50 (x := (2 : Int32)) rfl rfl (to_in (pc := 51) rw_81_51 rfl (to_in (pc := 52) rw_81_52 rfl (s_v (pc := 53) rw_81_53 (dp0 hd (by decide)) (ls0 := [.ref 1, .int (2 : Int32), .int x3, .int f]) rfl (Nat.le_of_ble_eq_true rfl) (Nat.le_of_ble_eq_true rfl) rfl (to_rc rfl rfl rfl (g_o hG rfl)) rfl ?_))))
          have k_35 : (2 : Int32).toInt = 2 := rfl
          refine E_82 hX (dp1 hd (by decide)) hG (by omega) (k := (2 : Int32)) (v := x3) (w := f) (fun M39 hG37 F36 p_38 => ?_)
          have F40 := FR.c F0 F36 tg_2
          refine to_i (pc := 56) rw_81_56 rfl (to_r0 (pc := 58) rw_81_58 ?_)
          exact h x4 M39 hG37 F40 (by omega) (E81_2 g7 p_38 (by omega) (by omega) (by omega))
        · refine to_c (pc := 12) rw_94_12 (x := (1 : Int32)) rfl rfl (to_go (pc := 13) rw_94_13 (s_r1 (pc := 17) rw_94_17 (A := 1) rfl (by decide) (b_ieq_f (pc := 20) rw_81_20 (A := 1) rfl (by decide) (to_in (pc := 23) rw_81_23 rfl (to_c (pc := 24) rw_81_24 (x := (10 : Int32)) rfl rfl (s_mul (pc := 26) rw_81_26 (A := x3.toInt) (B := 10) rfl rfl (by omega) (fun v41 e42 => to_an (pc := 27) rw_81_27 rfl (to_i (pc := 28) rw_81_28 rfl (s_v (pc := 30) rw_81_30 (dp0 hd (by decide)) (ls0 := [.ref 1, .int x4]) rfl (Nat.le_of_ble_eq_true rfl) (Nat.le_of_ble_eq_true rfl) rfl (to_rc rfl rfl rfl (g_o hG rfl)) rfl (to_in (pc := 0) rw_91_0 rfl (b_ilt_f (pc := 1) rw_91_1 (A := x4.toInt) rfl (by omega) ?_)))))))))))
          refine to_in (pc := 4) rw_91_4 rfl (to_an (pc := 5) rw_91_5 rfl (s_gR (pc := 6) rw_91_6 hG rfl (v := 2) rfl (s_len (pc := 9) rw_91_9 hG rfl rfl (n := 500) rfl (v := (500 : Int32)) rfl (b_cge_f (pc := 10) rw_91_10 (A := x4.toInt) (B := 500) rfl rfl (by omega) (to_an (pc := 13) rw_91_13 rfl (s_gR (pc := 14) rw_91_14 hG rfl (v := 2) rfl (to_in (pc := 17) rw_91_17 rfl (s_balk (pc := 18) rw_91_18 hG rfl (n := 500) rfl (A := x4.toInt) rfl (by omega) (by omega) (v := v14) w_15 (to_c (pc := 19) rw_91_19 (x := (255 : Int32)) rfl rfl (to_2 (pc := 22) rw_91_22 (v := v16) (congrArg some e17) (to_go (pc := 23) rw_91_23 ?_)))))))))))
          refine to_r0 (pc := 27) rw_91_27 (s_add (pc := 33) rw_81_33 (A := v41.toInt) (B := v16.toInt) rfl rfl (by omega) (fun v47 e48 => to_c (pc := 34) rw_81_34 (x := (48 : Int32)) rfl rfl (s_sub (pc := 36) rw_81_36 (A := v47.toInt) (B := 48) rfl rfl (by omega) (fun v49 e50 => to_c (pc := 37) rw_81_37 (x := (100 : Int32)) rfl rfl (s_min (pc := 39) rw_81_39 rfl (A := v49.toInt) (B := 100) rfl rfl (fun v51 _ _ _ => to_isn (pc := 42) rw_81_42 (ls2 := [.ref 1, .int f, .int n, .int v51, .int x4]) rfl rfl (s_inc (pc := 43) rw_81_43 (ls2 := fun v => [.ref 1, .int f, .int n, .int v51, .int v]) rfl rfl (fun _ => rfl) (A := x4.toInt) (B := 1) rfl rfl (by omega) (fun v52 e53 => to_go (pc := 46) rw_81_46 ?_))))))))
          exact ih N v51 v52 hG F0 (by omega) (by omega) (by omega) (by omega) (by omega) (by omega) g7 (x_nu_e (x4 := x4.toInt) (by omega) (by omega) (by omega) (by omega) (by split <;> omega) g8) (x_ed_e (x4 := x4.toInt) (by omega) (by omega) (by omega) (by omega) g9) g10 (by omega) (by omega)
set_option maxRecDepth 4000 in
set_option maxHeartbeats 0 in
theorem E_81 {X : mm_X} {d : Nat} {M : mm_M} {Q : Option Value → mm_M → Prop} {f : Int32} {n : Int32} {t : Nat → Int} {nn : Int} (hX : g_X X) (hd : 1 ≤ d) (hG : g_G M) (q1 : 0 ≤ f.toInt) (q2 : f.toInt ≤ 500) (q3 : f.toInt < nn) (q4 : nn ≤ 500) (q5 : n.toInt = nn) (q6 : n.toInt ≤ 500) (q7 : 0 ≤ n.toInt) (q8 : (M.2.1 1 5).toInt ≤ 500) (q9 : TT M t nn) (q10 : 48 ≤ t (f.toInt).toNat) (q11 : t (f.toInt).toNat ≤ 57) (h : ∀ (r : Int32) (M1 : mm_M), g_G M1 → FR md_ad M M1 → (r.toInt = x_end x_dg t nn f.toInt) → (∃ tok val : Int, AD M M1 tok val f.toInt ∧ x_C (x_kind t nn f.toInt) (x_val t nn f.toInt) tok val) → Q (some (.int r)) M1) : mm_T X d 81 0 [.ref 1, .int f, .int n, .null, .null] [] M Q := by
  have F0 : FR md_ad M M := FR.rf
  have b_54 := g_b hG (a := 1) (i := 5) (lo := 0) (hi := 501) rfl rfl
  refine to_c (pc := 0) rw_81_0 (x := (0 : Int32)) rfl rfl (to_isn (pc := 1) rw_81_1 (ls2 := [.ref 1, .int f, .int n, .int (0 : Int32), .null]) rfl rfl (to_in (pc := 2) rw_81_2 rfl (to_is (pc := 3) rw_81_3 (ls2 := [.ref 1, .int f, .int n, .int (0 : Int32), .int f]) rfl rfl ?_)))
  have k_55 : (0 : Int32).toInt = 0 := rfl
  exact (U_81_0 (f := f) (n := n) (t := t) (nn := nn) hX hd q1 q2 q3 q4 q5 q6 q7 q8 q9 q10 q11 h ((500 - f.toInt).toNat + 1)) M (0 : Int32) f hG F0 (by omega) (by omega) (by omega) (by omega) (by omega) (by omega) rfl rfl rfl q9 (by omega) (by omega)
end
section
theorem tg_3 {M M1 : mm_M} (F : FR (fun a i : Nat => a = 1 ∧ i = 5 ∨ 3 ≤ a ∧ a ≤ 5) M M1) : ∀ a i : Nat, a = 2 → M1.2.1 a i = M.2.1 a i := fun a i z => F_n F (show ¬ (a = 1 ∧ i = 5 ∨ 3 ≤ a ∧ a ≤ 5) by omega) rfl
theorem tg_4 : ∀ a i : Nat, (a = 1 ∧ i = 5 ∨ 3 ≤ a ∧ a ≤ 5) → (a = 1 ∨ 3 ≤ a ∧ a ≤ 5) := fun a i z => by omega
theorem tg_5 : ∀ a i : Nat, a = 2 → ¬ (a = 1 ∧ i = 5) := fun a i z => by omega
theorem tg_6 : ∀ a i : Nat, a = 2 → ¬ (a = 1 ∧ i = 11) := fun a i z => by omega
theorem tg_7 : ∀ a i : Nat, a = 2 → ¬ (a = 1 ∧ i = 10) := fun a i z => by omega
theorem tg_8 : ∀ a i : Nat, a = 2 → ¬ (a = 1 ∧ i = 1) := fun a i z => by omega
set_option maxRecDepth 4000 in
set_option maxHeartbeats 0 in
theorem U_79_0 {X : mm_X} {d : Nat} {M : mm_M} {Q : Option Value → mm_M → Prop} {n : Int32} {t : Nat → Int} {nn : Int} (hX : g_X X) (hd : 2 ≤ d) (q1 : 0 ≤ n.toInt) (q2 : n.toInt ≤ 500) (q3 : n.toInt = nn) (q4 : TT M t nn) (q5 : g_W X) (h : ∀ (M1 : mm_M), g_G M1 → FR md_ad M M1 → (1 ≤ (M1.2.1 1 5).toInt) → (TA M1 t nn) → Q (none) M1) : ∀ nn9 : Nat, (∀ (N : mm_M) (x2 : Int32) (u3 : Value) (u4 : Value), g_G N → FR md_ad M N → (0 ≤ x2.toInt) → (x2.toInt ≤ 500) → (x2.toInt ≤ nn) → (TB N t nn x2.toInt) → (TT N t nn) → 500 - x2.toInt < (nn9 : Int) → mm_T X d 79 7 [.ref 1, .int n, .int x2, u3, u4] [] N Q) := by
  intro nn9
  induction nn9 with
  | zero =>
    intro N x2 u3 u4 hG F0 g1 g2 g3 g4 g5 hm
    exfalso; omega
  | succ nn9 ih =>
    intro N x2 u3 u4 hG F0 g1 g2 g3 g4 g5 hm
    refine to_in (pc := 7) rw_79_7 rfl (to_in (pc := 8) rw_79_8 rfl (b_cge (pc := 9) rw_79_9 (A := x2.toInt) (B := n.toInt) rfl rfl (fun h1 => ?_) (fun h1 => ?_)))
    · refine to_an (pc := 96) rw_79_96 rfl (to_c (pc := 97) rw_79_97 (x := (0 : Int32)) rfl rfl (to_c (pc := 98) rw_79_98 (x := (0 : Int32)) rfl rfl (to_in (pc := 99) rw_79_99 rfl (s_v (pc := 100) rw_79_100 (dp0 hd (by decide)) (ls0 := [.ref 1, .int (0 : Int32), .int (0 : Int32), .int n]) rfl (Nat.le_of_ble_eq_true rfl) (Nat.le_of_ble_eq_true rfl) rfl (to_rc rfl rfl rfl (g_o hG rfl)) rfl ?_))))
      have k_2 : (0 : Int32).toInt = 0 := rfl
      have z_3 := g4.2.1
      have b_4 := g_b hG (a := 1) (i := 5) (lo := 0) (hi := 501) rfl rfl
      refine E_82 hX (dp1 hd (by decide)) hG (by omega) (k := (0 : Int32)) (v := (0 : Int32)) (w := n) (fun M8 hG6 F5 p_7 => ?_)
      have F9 := FR.c F0 F5 tg_2
      refine to_rv (pc := 103) rw_79_103 ?_
      have z_10 := p_7.1
      have z_11 := g4.1
      have b_12 := g_b hG6 (a := 1) (i := 5) (lo := 0) (hi := 501) rfl rfl
      exact h M8 hG6 F9 (by omega) (TA_e g4 (by omega) (by omega) (by omega) (show AD _ _ 0 0 nn from (show n.toInt = nn by omega) ▸ p_7))
    · refine to_an (pc := 12) rw_79_12 rfl (to_in (pc := 13) rw_79_13 rfl (s_v (pc := 14) rw_79_14 (dp0 hd (by decide)) (ls0 := [.ref 1, .int x2]) rfl (Nat.le_of_ble_eq_true rfl) (Nat.le_of_ble_eq_true rfl) rfl (to_rc rfl rfl rfl (g_o hG rfl)) rfl (to_in (pc := 0) rw_91_0 rfl (b_ilt_f (pc := 1) rw_91_1 (A := x2.toInt) rfl (by omega) (to_in (pc := 4) rw_91_4 rfl (to_an (pc := 5) rw_91_5 rfl (s_gR (pc := 6) rw_91_6 hG rfl (v := 2) rfl (s_len (pc := 9) rw_91_9 hG rfl rfl (n := 500) rfl (v := (500 : Int32)) rfl (b_cge_f (pc := 10) rw_91_10 (A := x2.toInt) (B := 500) rfl rfl (by omega) (to_an (pc := 13) rw_91_13 rfl (s_gR (pc := 14) rw_91_14 hG rfl (v := 2) rfl ?_)))))))))))
      refine to_in (pc := 17) rw_91_17 rfl (s_bal (pc := 18) rw_91_18 hG rfl (n := 500) rfl (A := x2.toInt) rfl (by omega) (by omega) (lo := -2147483648) (hi := 2147483647) rfl rfl (fun v13 w_14 _ _ => to_c (pc := 19) rw_91_19 (x := (255 : Int32)) rfl rfl (s_and (pc := 22) rw_91_22 (B := 255) rfl (by omega) (fun v15 e16 _ _ => ?_))))
      have z_17 := TT_u g5 (A := x2.toInt) (by omega) (by omega) w_14 e16
      refine to_go (pc := 23) rw_91_23 (to_r0 (pc := 27) rw_91_27 (to_isn (pc := 17) rw_79_17 (ls2 := [.ref 1, .int n, .int x2, .int v15, u4]) rfl rfl (to_in (pc := 18) rw_79_18 rfl (to_c (pc := 19) rw_79_19 (x := (1 : Int32)) rfl rfl (s_add (pc := 20) rw_79_20 (A := x2.toInt) (B := 1) rfl rfl (by omega) (fun v18 e19 => to_is (pc := 21) rw_79_21 (ls2 := [.ref 1, .int n, .int x2, .int v15, .int v18]) rfl rfl (to_in (pc := 23) rw_79_23 rfl (s_s (pc := 24) rw_79_24 (dp0 hd (by decide)) (ls0 := [.int v15]) rfl (Nat.le_of_ble_eq_true rfl) (Nat.le_of_ble_eq_true rfl) rfl (to_rcs rfl rfl) rfl (to_in (pc := 0) rw_93_0 rfl (to_c (pc := 1) rw_93_1 (x := (97 : Int32)) rfl rfl (b_clt (pc := 3) rw_93_3 (A := v15.toInt) (B := 97) rfl rfl (fun h20 => ?_) (fun h20 => ?_))))))))))))
      · refine to_c (pc := 16) rw_93_16 (x := (0 : Int32)) rfl rfl (s_r1 (pc := 17) rw_93_17 (A := 0) rfl (by decide) (b_ieq_t (pc := 27) rw_79_27 (A := 0) rfl (by decide) (to_in (pc := 41) rw_79_41 rfl (s_s (pc := 42) rw_79_42 (dp0 hd (by decide)) (ls0 := [.int v15]) rfl (Nat.le_of_ble_eq_true rfl) (Nat.le_of_ble_eq_true rfl) rfl (to_rcs rfl rfl) rfl (to_in (pc := 0) rw_94_0 rfl (to_c (pc := 1) rw_94_1 (x := (48 : Int32)) rfl rfl (b_clt (pc := 3) rw_94_3 (A := v15.toInt) (B := 48) rfl rfl (fun h21 => ?_) (fun h21 => ?_))))))))
        · refine to_c (pc := 16) rw_94_16 (x := (0 : Int32)) rfl rfl (s_r1 (pc := 17) rw_94_17 (A := 0) rfl (by decide) (b_ieq_t (pc := 45) rw_79_45 (A := 0) rfl (by decide) (to_in (pc := 59) rw_79_59 rfl (s_s (pc := 60) rw_79_60 (dp0 hd (by decide)) (ls0 := [.int v15]) rfl (Nat.le_of_ble_eq_true rfl) (Nat.le_of_ble_eq_true rfl) rfl (to_rcs rfl rfl) rfl (to_in (pc := 0) rw_92_0 rfl (to_c (pc := 1) rw_92_1 (x := (10 : Int32)) rfl rfl (b_ceq (pc := 3) rw_92_3 (A := v15.toInt) (B := 10) rfl rfl (fun h22 => ?_) (fun h22 => ?_))))))))
          · refine to_c (pc := 12) rw_92_12 (x := (1 : Int32)) rfl rfl (to_go (pc := 13) rw_92_13 (s_r1 (pc := 17) rw_92_17 (A := 1) rfl (by decide) (b_ine_t (pc := 63) rw_79_63 (A := 1) rfl (by decide) (to_in (pc := 84) rw_79_84 rfl (to_c (pc := 85) rw_79_85 (x := (1 : Int32)) rfl rfl (s_add (pc := 86) rw_79_86 (A := x2.toInt) (B := 1) rfl rfl (by omega) (fun v23 e24 => to_i (pc := 87) rw_79_87 rfl (s_max (pc := 89) rw_79_89 rfl (A := v23.toInt) (B := v18.toInt) rfl rfl (fun v25 _ _ _ => to_isn (pc := 92) rw_79_92 (ls2 := [.ref 1, .int n, .int v25, .int v15, .int v18]) rfl rfl (to_go (pc := 93) rw_79_93 ?_))))))))))
            exact ih N v25 (.int v15) (.int v18) hG F0 (by omega) (by omega) (by omega) (TB_s g4 (by omega) (by omega) (by omega) (by omega)) g5 (by omega)
          · refine to_in (pc := 6) rw_92_6 rfl (to_c (pc := 7) rw_92_7 (x := (32 : Int32)) rfl rfl (b_cne (pc := 9) rw_92_9 (A := v15.toInt) (B := 32) rfl rfl (fun h26 => ?_) (fun h26 => ?_)))
            · refine to_c (pc := 16) rw_92_16 (x := (0 : Int32)) rfl rfl (s_r1 (pc := 17) rw_92_17 (A := 0) rfl (by decide) (b_ine_f (pc := 63) rw_79_63 (A := 0) rfl (by decide) (to_an (pc := 66) rw_79_66 rfl (to_in (pc := 67) rw_79_67 rfl (s_s (pc := 68) rw_79_68 (dp0 hd (by decide)) (ls0 := [.int v15]) rfl (Nat.le_of_ble_eq_true rfl) (Nat.le_of_ble_eq_true rfl) rfl (to_rcs rfl rfl) rfl (to_in (pc := 0) rw_95_0 rfl (to_c (pc := 1) rw_95_1 (x := (59 : Int32)) rfl rfl (b_ceq_f (pc := 3) rw_95_3 (A := v15.toInt) (B := 59) rfl rfl (by omega) (to_in (pc := 6) rw_95_6 rfl (to_c (pc := 7) rw_95_7 (x := (40 : Int32)) rfl rfl (b_ceq (pc := 9) rw_95_9 (A := v15.toInt) (B := 40) rfl rfl (fun h27 => ?_) (fun h27 => ?_))))))))))))
              · refine to_c (pc := 24) rw_95_24 (x := (1 : Int32)) rfl rfl (to_go (pc := 25) rw_95_25 (s_r1 (pc := 29) rw_95_29 (A := 1) rfl (by decide) (b_ieq_f (pc := 71) rw_79_71 (A := 1) rfl (by decide) (to_in (pc := 74) rw_79_74 rfl (to_go (pc := 75) rw_79_75 (to_c (pc := 79) rw_79_79 (x := (0 : Int32)) rfl rfl (to_in (pc := 80) rw_79_80 rfl (s_v (pc := 81) rw_79_81 (dp0 hd (by decide)) (ls0 := [.ref 1, .int v15, .int (0 : Int32), .int x2]) rfl (Nat.le_of_ble_eq_true rfl) (Nat.le_of_ble_eq_true rfl) rfl (to_rc rfl rfl rfl (g_o hG rfl)) rfl ?_))))))))
                have k_28 : (0 : Int32).toInt = 0 := rfl
                have z_29 := g4.2.1
                have b_30 := g_b hG (a := 1) (i := 5) (lo := 0) (hi := 501) rfl rfl
                refine E_82 hX (dp1 hd (by decide)) hG (by omega) (k := v15) (v := (0 : Int32)) (w := x2) (fun M34 hG32 F31 p_33 => ?_)
                have F35 := FR.c F0 F31 tg_2
                refine to_in (pc := 84) rw_79_84 rfl (to_c (pc := 85) rw_79_85 (x := (1 : Int32)) rfl rfl (s_add (pc := 86) rw_79_86 (A := x2.toInt) (B := 1) rfl rfl (by omega) (fun v36 e37 => to_i (pc := 87) rw_79_87 rfl (s_max (pc := 89) rw_79_89 rfl (A := v36.toInt) (B := v18.toInt) rfl rfl (fun v38 _ _ _ => to_isn (pc := 92) rw_79_92 (ls2 := [.ref 1, .int n, .int v38, .int v15, .int v18]) rfl rfl (to_go (pc := 93) rw_79_93 ?_))))))
                have z_39 := (x_ts (t := t) (n := nn) (a := x2.toInt) (by omega) (by omega) (by omega)).2.2
                have z_40 := x_nx_b (t := t) (n := nn) (a := x2.toInt) (by omega) (by omega)
                have j_41 := (TT_f (tg_3 F31) g5)
                exact ih M34 v38 (.int v15) (.int v18) hG32 F35 (by omega) (by omega) (by omega) (TB_a g4 (by omega) (by omega) (by omega) (E79_a p_33 rfl rfl (x_C_s (by omega) (by omega) (by omega))) (by omega)) j_41 (by omega)
              · refine to_in (pc := 12) rw_95_12 rfl (to_c (pc := 13) rw_95_13 (x := (41 : Int32)) rfl rfl (b_ceq (pc := 15) rw_95_15 (A := v15.toInt) (B := 41) rfl rfl (fun h42 => ?_) (fun h42 => ?_)))
                · refine to_c (pc := 24) rw_95_24 (x := (1 : Int32)) rfl rfl (to_go (pc := 25) rw_95_25 (s_r1 (pc := 29) rw_95_29 (A := 1) rfl (by decide) (b_ieq_f (pc := 71) rw_79_71 (A := 1) rfl (by decide) (to_in (pc := 74) rw_79_74 rfl (to_go (pc := 75) rw_79_75 (to_c (pc := 79) rw_79_79 (x := (0 : Int32)) rfl rfl (to_in (pc := 80) rw_79_80 rfl (s_v (pc := 81) rw_79_81 (dp0 hd (by decide)) (ls0 := [.ref 1, .int v15, .int (0 : Int32), .int x2]) rfl (Nat.le_of_ble_eq_true rfl) (Nat.le_of_ble_eq_true rfl) rfl (to_rc rfl rfl rfl (g_o hG rfl)) rfl ?_))))))))
                  have k_43 : (0 : Int32).toInt = 0 := rfl
                  have z_44 := g4.2.1
                  have b_45 := g_b hG (a := 1) (i := 5) (lo := 0) (hi := 501) rfl rfl
                  refine E_82 hX (dp1 hd (by decide)) hG (by omega) (k := v15) (v := (0 : Int32)) (w := x2) (fun M49 hG47 F46 p_48 => ?_)
                  have F50 := FR.c F0 F46 tg_2
                  refine to_in (pc := 84) rw_79_84 rfl (to_c (pc := 85) rw_79_85 (x := (1 : Int32)) rfl rfl (s_add (pc := 86) rw_79_86 (A := x2.toInt) (B := 1) rfl rfl (by omega) (fun v51 e52 => to_i (pc := 87) rw_79_87 rfl (s_max (pc := 89) rw_79_89 rfl (A := v51.toInt) (B := v18.toInt) rfl rfl (fun v53 _ _ _ => to_isn (pc := 92) rw_79_92 (ls2 := [.ref 1, .int n, .int v53, .int v15, .int v18]) rfl rfl (to_go (pc := 93) rw_79_93 ?_))))))
                  have z_54 := (x_ts (t := t) (n := nn) (a := x2.toInt) (by omega) (by omega) (by omega)).2.2
                  have z_55 := x_nx_b (t := t) (n := nn) (a := x2.toInt) (by omega) (by omega)
                  have j_56 := (TT_f (tg_3 F46) g5)
                  exact ih M49 v53 (.int v15) (.int v18) hG47 F50 (by omega) (by omega) (by omega) (TB_a g4 (by omega) (by omega) (by omega) (E79_a p_48 rfl rfl (x_C_s (by omega) (by omega) (by omega))) (by omega)) j_56 (by omega)
                · refine to_in (pc := 18) rw_95_18 rfl (to_c (pc := 19) rw_95_19 (x := (61 : Int32)) rfl rfl (b_cne_t (pc := 21) rw_95_21 (A := v15.toInt) (B := 61) rfl rfl (by omega) (to_c (pc := 28) rw_95_28 (x := (0 : Int32)) rfl rfl (s_r1 (pc := 29) rw_95_29 (A := 0) rfl (by decide) (b_ieq_t (pc := 71) rw_79_71 (A := 0) rfl (by decide) (to_c (pc := 78) rw_79_78 (x := (1 : Int32)) rfl rfl (to_c (pc := 79) rw_79_79 (x := (0 : Int32)) rfl rfl (to_in (pc := 80) rw_79_80 rfl (s_v (pc := 81) rw_79_81 (dp0 hd (by decide)) (ls0 := [.ref 1, .int (1 : Int32), .int (0 : Int32), .int x2]) rfl (Nat.le_of_ble_eq_true rfl) (Nat.le_of_ble_eq_true rfl) rfl (to_rc rfl rfl rfl (g_o hG rfl)) rfl ?_)))))))))
                  have k_57 : (1 : Int32).toInt = 1 := rfl
                  have k_58 : (0 : Int32).toInt = 0 := rfl
                  have z_59 := g4.2.1
                  have b_60 := g_b hG (a := 1) (i := 5) (lo := 0) (hi := 501) rfl rfl
                  refine E_82 hX (dp1 hd (by decide)) hG (by omega) (k := (1 : Int32)) (v := (0 : Int32)) (w := x2) (fun M64 hG62 F61 p_63 => ?_)
                  have F65 := FR.c F0 F61 tg_2
                  refine to_in (pc := 84) rw_79_84 rfl (to_c (pc := 85) rw_79_85 (x := (1 : Int32)) rfl rfl (s_add (pc := 86) rw_79_86 (A := x2.toInt) (B := 1) rfl rfl (by omega) (fun v66 e67 => to_i (pc := 87) rw_79_87 rfl (s_max (pc := 89) rw_79_89 rfl (A := v66.toInt) (B := v18.toInt) rfl rfl (fun v68 _ _ _ => to_isn (pc := 92) rw_79_92 (ls2 := [.ref 1, .int n, .int v68, .int v15, .int v18]) rfl rfl (to_go (pc := 93) rw_79_93 ?_))))))
                  have z_69 := (x_ts (t := t) (n := nn) (a := x2.toInt) (by omega) (by omega) (by omega)).2.2
                  have z_70 := x_nx_b (t := t) (n := nn) (a := x2.toInt) (by omega) (by omega)
                  have j_71 := (TT_f (tg_3 F61) g5)
                  exact ih M64 v68 (.int v15) (.int v18) hG62 F65 (by omega) (by omega) (by omega) (TB_a g4 (by omega) (by omega) (by omega) (E79_a p_63 rfl rfl (x_C_b (by omega) (by omega) (by omega) (by omega))) (by omega)) j_71 (by omega)
            · refine to_c (pc := 12) rw_92_12 (x := (1 : Int32)) rfl rfl (to_go (pc := 13) rw_92_13 (s_r1 (pc := 17) rw_92_17 (A := 1) rfl (by decide) (b_ine_t (pc := 63) rw_79_63 (A := 1) rfl (by decide) (to_in (pc := 84) rw_79_84 rfl (to_c (pc := 85) rw_79_85 (x := (1 : Int32)) rfl rfl (s_add (pc := 86) rw_79_86 (A := x2.toInt) (B := 1) rfl rfl (by omega) (fun v72 e73 => to_i (pc := 87) rw_79_87 rfl (s_max (pc := 89) rw_79_89 rfl (A := v72.toInt) (B := v18.toInt) rfl rfl (fun v74 _ _ _ => to_isn (pc := 92) rw_79_92 (ls2 := [.ref 1, .int n, .int v74, .int v15, .int v18]) rfl rfl (to_go (pc := 93) rw_79_93 ?_))))))))))
              exact ih N v74 (.int v15) (.int v18) hG F0 (by omega) (by omega) (by omega) (TB_s g4 (by omega) (by omega) (by omega) (by omega)) g5 (by omega)
        · refine to_in (pc := 6) rw_94_6 rfl (to_c (pc := 7) rw_94_7 (x := (57 : Int32)) rfl rfl (b_cgt (pc := 9) rw_94_9 (A := v15.toInt) (B := 57) rfl rfl (fun h75 => ?_) (fun h75 => ?_)))
          · refine to_c (pc := 16) rw_94_16 (x := (0 : Int32)) rfl rfl (s_r1 (pc := 17) rw_94_17 (A := 0) rfl (by decide) (b_ieq_t (pc := 45) rw_79_45 (A := 0) rfl (by decide) (to_in (pc := 59) rw_79_59 rfl (s_s (pc := 60) rw_79_60 (dp0 hd (by decide)) (ls0 := [.int v15]) rfl (Nat.le_of_ble_eq_true rfl) (Nat.le_of_ble_eq_true rfl) rfl (to_rcs rfl rfl) rfl (to_in (pc := 0) rw_92_0 rfl (to_c (pc := 1) rw_92_1 (x := (10 : Int32)) rfl rfl (b_ceq_f (pc := 3) rw_92_3 (A := v15.toInt) (B := 10) rfl rfl (by omega) (to_in (pc := 6) rw_92_6 rfl (to_c (pc := 7) rw_92_7 (x := (32 : Int32)) rfl rfl (b_cne_t (pc := 9) rw_92_9 (A := v15.toInt) (B := 32) rfl rfl (by omega) (to_c (pc := 16) rw_92_16 (x := (0 : Int32)) rfl rfl ?_)))))))))))
            refine s_r1 (pc := 17) rw_92_17 (A := 0) rfl (by decide) (b_ine_f (pc := 63) rw_79_63 (A := 0) rfl (by decide) (to_an (pc := 66) rw_79_66 rfl (to_in (pc := 67) rw_79_67 rfl (s_s (pc := 68) rw_79_68 (dp0 hd (by decide)) (ls0 := [.int v15]) rfl (Nat.le_of_ble_eq_true rfl) (Nat.le_of_ble_eq_true rfl) rfl (to_rcs rfl rfl) rfl (to_in (pc := 0) rw_95_0 rfl (to_c (pc := 1) rw_95_1 (x := (59 : Int32)) rfl rfl (b_ceq (pc := 3) rw_95_3 (A := v15.toInt) (B := 59) rfl rfl (fun h76 => ?_) (fun h76 => ?_))))))))
            · refine to_c (pc := 24) rw_95_24 (x := (1 : Int32)) rfl rfl (to_go (pc := 25) rw_95_25 (s_r1 (pc := 29) rw_95_29 (A := 1) rfl (by decide) (b_ieq_f (pc := 71) rw_79_71 (A := 1) rfl (by decide) (to_in (pc := 74) rw_79_74 rfl (to_go (pc := 75) rw_79_75 (to_c (pc := 79) rw_79_79 (x := (0 : Int32)) rfl rfl (to_in (pc := 80) rw_79_80 rfl (s_v (pc := 81) rw_79_81 (dp0 hd (by decide)) (ls0 := [.ref 1, .int v15, .int (0 : Int32), .int x2]) rfl (Nat.le_of_ble_eq_true rfl) (Nat.le_of_ble_eq_true rfl) rfl (to_rc rfl rfl rfl (g_o hG rfl)) rfl ?_))))))))
              have k_77 : (0 : Int32).toInt = 0 := rfl
              have z_78 := g4.2.1
              have b_79 := g_b hG (a := 1) (i := 5) (lo := 0) (hi := 501) rfl rfl
              refine E_82 hX (dp1 hd (by decide)) hG (by omega) (k := v15) (v := (0 : Int32)) (w := x2) (fun M83 hG81 F80 p_82 => ?_)
              have F84 := FR.c F0 F80 tg_2
              refine to_in (pc := 84) rw_79_84 rfl (to_c (pc := 85) rw_79_85 (x := (1 : Int32)) rfl rfl (s_add (pc := 86) rw_79_86 (A := x2.toInt) (B := 1) rfl rfl (by omega) (fun v85 e86 => to_i (pc := 87) rw_79_87 rfl (s_max (pc := 89) rw_79_89 rfl (A := v85.toInt) (B := v18.toInt) rfl rfl (fun v87 _ _ _ => to_isn (pc := 92) rw_79_92 (ls2 := [.ref 1, .int n, .int v87, .int v15, .int v18]) rfl rfl (to_go (pc := 93) rw_79_93 ?_))))))
              have z_88 := (x_ts (t := t) (n := nn) (a := x2.toInt) (by omega) (by omega) (by omega)).2.2
              have z_89 := x_nx_b (t := t) (n := nn) (a := x2.toInt) (by omega) (by omega)
              have j_90 := (TT_f (tg_3 F80) g5)
              exact ih M83 v87 (.int v15) (.int v18) hG81 F84 (by omega) (by omega) (by omega) (TB_a g4 (by omega) (by omega) (by omega) (E79_a p_82 rfl rfl (x_C_s (by omega) (by omega) (by omega))) (by omega)) j_90 (by omega)
            · refine to_in (pc := 6) rw_95_6 rfl (to_c (pc := 7) rw_95_7 (x := (40 : Int32)) rfl rfl (b_ceq_f (pc := 9) rw_95_9 (A := v15.toInt) (B := 40) rfl rfl (by omega) (to_in (pc := 12) rw_95_12 rfl (to_c (pc := 13) rw_95_13 (x := (41 : Int32)) rfl rfl (b_ceq_f (pc := 15) rw_95_15 (A := v15.toInt) (B := 41) rfl rfl (by omega) (to_in (pc := 18) rw_95_18 rfl (to_c (pc := 19) rw_95_19 (x := (61 : Int32)) rfl rfl (b_cne (pc := 21) rw_95_21 (A := v15.toInt) (B := 61) rfl rfl (fun h91 => ?_) (fun h91 => ?_)))))))))
              · refine to_c (pc := 28) rw_95_28 (x := (0 : Int32)) rfl rfl (s_r1 (pc := 29) rw_95_29 (A := 0) rfl (by decide) (b_ieq_t (pc := 71) rw_79_71 (A := 0) rfl (by decide) (to_c (pc := 78) rw_79_78 (x := (1 : Int32)) rfl rfl (to_c (pc := 79) rw_79_79 (x := (0 : Int32)) rfl rfl (to_in (pc := 80) rw_79_80 rfl (s_v (pc := 81) rw_79_81 (dp0 hd (by decide)) (ls0 := [.ref 1, .int (1 : Int32), .int (0 : Int32), .int x2]) rfl (Nat.le_of_ble_eq_true rfl) (Nat.le_of_ble_eq_true rfl) rfl (to_rc rfl rfl rfl (g_o hG rfl)) rfl ?_))))))
                have k_92 : (1 : Int32).toInt = 1 := rfl
                have k_93 : (0 : Int32).toInt = 0 := rfl
                have z_94 := g4.2.1
                have b_95 := g_b hG (a := 1) (i := 5) (lo := 0) (hi := 501) rfl rfl
                refine E_82 hX (dp1 hd (by decide)) hG (by omega) (k := (1 : Int32)) (v := (0 : Int32)) (w := x2) (fun M99 hG97 F96 p_98 => ?_)
                have F100 := FR.c F0 F96 tg_2
                refine to_in (pc := 84) rw_79_84 rfl (to_c (pc := 85) rw_79_85 (x := (1 : Int32)) rfl rfl (s_add (pc := 86) rw_79_86 (A := x2.toInt) (B := 1) rfl rfl (by omega) (fun v101 e102 => to_i (pc := 87) rw_79_87 rfl (s_max (pc := 89) rw_79_89 rfl (A := v101.toInt) (B := v18.toInt) rfl rfl (fun v103 _ _ _ => to_isn (pc := 92) rw_79_92 (ls2 := [.ref 1, .int n, .int v103, .int v15, .int v18]) rfl rfl (to_go (pc := 93) rw_79_93 ?_))))))
                have z_104 := (x_ts (t := t) (n := nn) (a := x2.toInt) (by omega) (by omega) (by omega)).2.2
                have z_105 := x_nx_b (t := t) (n := nn) (a := x2.toInt) (by omega) (by omega)
                have j_106 := (TT_f (tg_3 F96) g5)
                exact ih M99 v103 (.int v15) (.int v18) hG97 F100 (by omega) (by omega) (by omega) (TB_a g4 (by omega) (by omega) (by omega) (E79_a p_98 rfl rfl (x_C_b (by omega) (by omega) (by omega) (by omega))) (by omega)) j_106 (by omega)
              · refine to_c (pc := 24) rw_95_24 (x := (1 : Int32)) rfl rfl (to_go (pc := 25) rw_95_25 (s_r1 (pc := 29) rw_95_29 (A := 1) rfl (by decide) (b_ieq_f (pc := 71) rw_79_71 (A := 1) rfl (by decide) (to_in (pc := 74) rw_79_74 rfl (to_go (pc := 75) rw_79_75 (to_c (pc := 79) rw_79_79 (x := (0 : Int32)) rfl rfl (to_in (pc := 80) rw_79_80 rfl (s_v (pc := 81) rw_79_81 (dp0 hd (by decide)) (ls0 := [.ref 1, .int v15, .int (0 : Int32), .int x2]) rfl (Nat.le_of_ble_eq_true rfl) (Nat.le_of_ble_eq_true rfl) rfl (to_rc rfl rfl rfl (g_o hG rfl)) rfl ?_))))))))
                have k_107 : (0 : Int32).toInt = 0 := rfl
                have z_108 := g4.2.1
                have b_109 := g_b hG (a := 1) (i := 5) (lo := 0) (hi := 501) rfl rfl
                refine E_82 hX (dp1 hd (by decide)) hG (by omega) (k := v15) (v := (0 : Int32)) (w := x2) (fun M113 hG111 F110 p_112 => ?_)
                have F114 := FR.c F0 F110 tg_2
                refine to_in (pc := 84) rw_79_84 rfl (to_c (pc := 85) rw_79_85 (x := (1 : Int32)) rfl rfl (s_add (pc := 86) rw_79_86 (A := x2.toInt) (B := 1) rfl rfl (by omega) (fun v115 e116 => to_i (pc := 87) rw_79_87 rfl (s_max (pc := 89) rw_79_89 rfl (A := v115.toInt) (B := v18.toInt) rfl rfl (fun v117 _ _ _ => to_isn (pc := 92) rw_79_92 (ls2 := [.ref 1, .int n, .int v117, .int v15, .int v18]) rfl rfl (to_go (pc := 93) rw_79_93 ?_))))))
                have z_118 := (x_ts (t := t) (n := nn) (a := x2.toInt) (by omega) (by omega) (by omega)).2.2
                have z_119 := x_nx_b (t := t) (n := nn) (a := x2.toInt) (by omega) (by omega)
                have j_120 := (TT_f (tg_3 F110) g5)
                exact ih M113 v117 (.int v15) (.int v18) hG111 F114 (by omega) (by omega) (by omega) (TB_a g4 (by omega) (by omega) (by omega) (E79_a p_112 rfl rfl (x_C_s (by omega) (by omega) (by omega))) (by omega)) j_120 (by omega)
          · refine to_c (pc := 12) rw_94_12 (x := (1 : Int32)) rfl rfl (to_go (pc := 13) rw_94_13 (s_r1 (pc := 17) rw_94_17 (A := 1) rfl (by decide) (b_ieq_f (pc := 45) rw_79_45 (A := 1) rfl (by decide) (to_an (pc := 48) rw_79_48 rfl (to_in (pc := 49) rw_79_49 rfl (to_in (pc := 50) rw_79_50 rfl (s_v (pc := 51) rw_79_51 (dp0 hd (by decide)) (ls0 := [.ref 1, .int x2, .int n, .null, .null]) rfl (Nat.le_of_ble_eq_true rfl) (Nat.le_of_ble_eq_true rfl) rfl (to_rc rfl rfl rfl (g_o hG rfl)) rfl ?_)))))))
            have z_121 := g4.2.1
            have b_122 := g_b hG (a := 1) (i := 5) (lo := 0) (hi := 501) rfl rfl
            refine E_81 hX (dp1 hd (by decide)) hG (by omega) (by omega) (by omega) (by omega) (by omega) (by omega) (by omega) (by omega) g5 (by omega) (by omega) (f := x2) (n := n) (fun r123 M128 hG125 F124 p_126 p_127 => ?_)
            have F129 := FR.c F0 F124 tg_2
            refine to_is (pc := 54) rw_79_54 (ls2 := [.ref 1, .int n, .int x2, .int v15, .int r123]) rfl rfl (to_go (pc := 56) rw_79_56 (to_in (pc := 84) rw_79_84 rfl (to_c (pc := 85) rw_79_85 (x := (1 : Int32)) rfl rfl (s_add (pc := 86) rw_79_86 (A := x2.toInt) (B := 1) rfl rfl (by omega) (fun v130 e131 => to_i (pc := 87) rw_79_87 rfl (s_max (pc := 89) rw_79_89 rfl (A := v130.toInt) (B := r123.toInt) rfl rfl (fun v132 _ _ _ => to_isn (pc := 92) rw_79_92 (ls2 := [.ref 1, .int n, .int v132, .int v15, .int r123]) rfl rfl (to_go (pc := 93) rw_79_93 ?_))))))))
            have z_133 := (x_td (t := t) (n := nn) (a := x2.toInt) (by omega) (by omega)).2.2
            have z_134 := x_nx_b (t := t) (n := nn) (a := x2.toInt) (by omega) (by omega)
            have j_135 := (TT_f (tg_3 F124) g5)
            exact ih M128 v132 (.int v15) (.int r123) hG125 F129 (by omega) (by omega) (by omega) (TB_a g4 (by omega) (by omega) (by omega) p_127 (by omega)) j_135 (by omega)
      · refine to_in (pc := 6) rw_93_6 rfl (to_c (pc := 7) rw_93_7 (x := (122 : Int32)) rfl rfl (b_cgt (pc := 9) rw_93_9 (A := v15.toInt) (B := 122) rfl rfl (fun h136 => ?_) (fun h136 => ?_)))
        · refine to_c (pc := 16) rw_93_16 (x := (0 : Int32)) rfl rfl (s_r1 (pc := 17) rw_93_17 (A := 0) rfl (by decide) (b_ieq_t (pc := 27) rw_79_27 (A := 0) rfl (by decide) (to_in (pc := 41) rw_79_41 rfl (s_s (pc := 42) rw_79_42 (dp0 hd (by decide)) (ls0 := [.int v15]) rfl (Nat.le_of_ble_eq_true rfl) (Nat.le_of_ble_eq_true rfl) rfl (to_rcs rfl rfl) rfl (to_in (pc := 0) rw_94_0 rfl (to_c (pc := 1) rw_94_1 (x := (48 : Int32)) rfl rfl (b_clt_f (pc := 3) rw_94_3 (A := v15.toInt) (B := 48) rfl rfl (by omega) (to_in (pc := 6) rw_94_6 rfl (to_c (pc := 7) rw_94_7 (x := (57 : Int32)) rfl rfl (b_cgt_t (pc := 9) rw_94_9 (A := v15.toInt) (B := 57) rfl rfl (by omega) (to_c (pc := 16) rw_94_16 (x := (0 : Int32)) rfl rfl ?_)))))))))))
          refine s_r1 (pc := 17) rw_94_17 (A := 0) rfl (by decide) (b_ieq_t (pc := 45) rw_79_45 (A := 0) rfl (by decide) (to_in (pc := 59) rw_79_59 rfl (s_s (pc := 60) rw_79_60 (dp0 hd (by decide)) (ls0 := [.int v15]) rfl (Nat.le_of_ble_eq_true rfl) (Nat.le_of_ble_eq_true rfl) rfl (to_rcs rfl rfl) rfl (to_in (pc := 0) rw_92_0 rfl (to_c (pc := 1) rw_92_1 (x := (10 : Int32)) rfl rfl (b_ceq_f (pc := 3) rw_92_3 (A := v15.toInt) (B := 10) rfl rfl (by omega) (to_in (pc := 6) rw_92_6 rfl (to_c (pc := 7) rw_92_7 (x := (32 : Int32)) rfl rfl (b_cne_t (pc := 9) rw_92_9 (A := v15.toInt) (B := 32) rfl rfl (by omega) (to_c (pc := 16) rw_92_16 (x := (0 : Int32)) rfl rfl (s_r1 (pc := 17) rw_92_17 (A := 0) rfl (by decide) ?_)))))))))))
          refine b_ine_f (pc := 63) rw_79_63 (A := 0) rfl (by decide) (to_an (pc := 66) rw_79_66 rfl (to_in (pc := 67) rw_79_67 rfl (s_s (pc := 68) rw_79_68 (dp0 hd (by decide)) (ls0 := [.int v15]) rfl (Nat.le_of_ble_eq_true rfl) (Nat.le_of_ble_eq_true rfl) rfl (to_rcs rfl rfl) rfl (to_in (pc := 0) rw_95_0 rfl (to_c (pc := 1) rw_95_1 (x := (59 : Int32)) rfl rfl (b_ceq_f (pc := 3) rw_95_3 (A := v15.toInt) (B := 59) rfl rfl (by omega) (to_in (pc := 6) rw_95_6 rfl (to_c (pc := 7) rw_95_7 (x := (40 : Int32)) rfl rfl (b_ceq_f (pc := 9) rw_95_9 (A := v15.toInt) (B := 40) rfl rfl (by omega) (to_in (pc := 12) rw_95_12 rfl (to_c (pc := 13) rw_95_13 (x := (41 : Int32)) rfl rfl ?_)))))))))))
          refine b_ceq_f (pc := 15) rw_95_15 (A := v15.toInt) (B := 41) rfl rfl (by omega) (to_in (pc := 18) rw_95_18 rfl (to_c (pc := 19) rw_95_19 (x := (61 : Int32)) rfl rfl (b_cne_t (pc := 21) rw_95_21 (A := v15.toInt) (B := 61) rfl rfl (by omega) (to_c (pc := 28) rw_95_28 (x := (0 : Int32)) rfl rfl (s_r1 (pc := 29) rw_95_29 (A := 0) rfl (by decide) (b_ieq_t (pc := 71) rw_79_71 (A := 0) rfl (by decide) (to_c (pc := 78) rw_79_78 (x := (1 : Int32)) rfl rfl (to_c (pc := 79) rw_79_79 (x := (0 : Int32)) rfl rfl (to_in (pc := 80) rw_79_80 rfl (s_v (pc := 81) rw_79_81 (dp0 hd (by decide)) (ls0 := [.ref 1, .int (1 : Int32), .int (0 : Int32), .int x2]) rfl (Nat.le_of_ble_eq_true rfl) (Nat.le_of_ble_eq_true rfl) rfl (to_rc rfl rfl rfl (g_o hG rfl)) rfl ?_))))))))))
          have k_137 : (1 : Int32).toInt = 1 := rfl
          have k_138 : (0 : Int32).toInt = 0 := rfl
          have z_139 := g4.2.1
          have b_140 := g_b hG (a := 1) (i := 5) (lo := 0) (hi := 501) rfl rfl
          refine E_82 hX (dp1 hd (by decide)) hG (by omega) (k := (1 : Int32)) (v := (0 : Int32)) (w := x2) (fun M144 hG142 F141 p_143 => ?_)
          have F145 := FR.c F0 F141 tg_2
          refine to_in (pc := 84) rw_79_84 rfl (to_c (pc := 85) rw_79_85 (x := (1 : Int32)) rfl rfl (s_add (pc := 86) rw_79_86 (A := x2.toInt) (B := 1) rfl rfl (by omega) (fun v146 e147 => to_i (pc := 87) rw_79_87 rfl (s_max (pc := 89) rw_79_89 rfl (A := v146.toInt) (B := v18.toInt) rfl rfl (fun v148 _ _ _ => to_isn (pc := 92) rw_79_92 (ls2 := [.ref 1, .int n, .int v148, .int v15, .int v18]) rfl rfl (to_go (pc := 93) rw_79_93 ?_))))))
          have z_149 := (x_ts (t := t) (n := nn) (a := x2.toInt) (by omega) (by omega) (by omega)).2.2
          have z_150 := x_nx_b (t := t) (n := nn) (a := x2.toInt) (by omega) (by omega)
          have j_151 := (TT_f (tg_3 F141) g5)
          exact ih M144 v148 (.int v15) (.int v18) hG142 F145 (by omega) (by omega) (by omega) (TB_a g4 (by omega) (by omega) (by omega) (E79_a p_143 rfl rfl (x_C_b (by omega) (by omega) (by omega) (by omega))) (by omega)) j_151 (by omega)
        · refine to_c (pc := 12) rw_93_12 (x := (1 : Int32)) rfl rfl (to_go (pc := 13) rw_93_13 (s_r1 (pc := 17) rw_93_17 (A := 1) rfl (by decide) (b_ieq_f (pc := 27) rw_79_27 (A := 1) rfl (by decide) (to_an (pc := 30) rw_79_30 rfl (to_in (pc := 31) rw_79_31 rfl (to_in (pc := 32) rw_79_32 rfl (s_v (pc := 33) rw_79_33 (dp0 hd (by decide)) (ls0 := [.ref 1, .int x2, .int n, .null, .null]) rfl (Nat.le_of_ble_eq_true rfl) (Nat.le_of_ble_eq_true rfl) rfl (to_rc rfl rfl rfl (g_o hG rfl)) rfl ?_)))))))
          have z_152 := g4.2.1
          have b_153 := g_b hG (a := 1) (i := 5) (lo := 0) (hi := 501) rfl rfl
          refine E_80 hX (dp1 hd (by decide)) hG (by omega) (by omega) (by omega) (by omega) (by omega) (by omega) (by omega) (by omega) g5 (by omega) (by omega) q5 (f := x2) (n := n) (fun r154 M159 hG156 F155 p_157 p_158 => ?_)
          have F160 := FR.c F0 F155 tg_2
          refine to_is (pc := 36) rw_79_36 (ls2 := [.ref 1, .int n, .int x2, .int v15, .int r154]) rfl rfl (to_go (pc := 38) rw_79_38 (to_in (pc := 84) rw_79_84 rfl (to_c (pc := 85) rw_79_85 (x := (1 : Int32)) rfl rfl (s_add (pc := 86) rw_79_86 (A := x2.toInt) (B := 1) rfl rfl (by omega) (fun v161 e162 => to_i (pc := 87) rw_79_87 rfl (s_max (pc := 89) rw_79_89 rfl (A := v161.toInt) (B := r154.toInt) rfl rfl (fun v163 _ _ _ => to_isn (pc := 92) rw_79_92 (ls2 := [.ref 1, .int n, .int v163, .int v15, .int r154]) rfl rfl (to_go (pc := 93) rw_79_93 ?_))))))))
          have z_164 := (x_tl (t := t) (n := nn) (a := x2.toInt) (by omega) (by omega)).2.2
          have z_165 := x_nx_b (t := t) (n := nn) (a := x2.toInt) (by omega) (by omega)
          have j_166 := (TT_f (tg_3 F155) g5)
          exact ih M159 v163 (.int v15) (.int r154) hG156 F160 (by omega) (by omega) (by omega) (TB_a g4 (by omega) (by omega) (by omega) p_158 (by omega)) j_166 (by omega)
set_option maxRecDepth 4000 in
set_option maxHeartbeats 0 in
theorem E_79 {X : mm_X} {d : Nat} {M : mm_M} {Q : Option Value → mm_M → Prop} {n : Int32} {t : Nat → Int} {nn : Int} (hX : g_X X) (hd : 2 ≤ d) (hG : g_G M) (q1 : 0 ≤ n.toInt) (q2 : n.toInt ≤ 500) (q3 : n.toInt = nn) (q4 : TT M t nn) (q5 : g_W X) (h : ∀ (M1 : mm_M), g_G M1 → FR md_ad M M1 → (1 ≤ (M1.2.1 1 5).toInt) → (TA M1 t nn) → Q (none) M1) : mm_T X d 79 0 [.ref 1, .int n, .null, .null, .null] [] M Q := by
  have F0 : FR md_ad M M := FR.rf
  refine to_an (pc := 0) rw_79_0 rfl (to_c (pc := 1) rw_79_1 (x := (0 : Int32)) rfl rfl (s_pI (pc := 2) rw_79_2 hG rfl (fun M168 W167 => ?_)))
  have hG169 := g_w hG W167 (A := 0) rfl (lo := 0) (hi := 501) rfl rfl (by omega) (by decide)
  have F170 := FR.w F0 W167 (show 1 = 1 ∧ 5 = 5 ∨ 3 ≤ 1 ∧ 1 ≤ 5 by decide)
  refine to_c (pc := 5) rw_79_5 (x := (0 : Int32)) rfl rfl (to_isn (pc := 6) rw_79_6 (ls2 := [.ref 1, .int n, .int (0 : Int32), .null, .null]) rfl rfl ?_)
  have k_171 : (0 : Int32).toInt = 0 := rfl
  have j_172 := (TT_f (fun a i z => W_n W167 (tg_5 a i z) rfl) q4)
  exact (U_79_0 (n := n) (t := t) (nn := nn) hX hd q1 q2 q3 q4 q5 h ((500 - (0 : Int32).toInt).toNat + 1)) M168 (0 : Int32) (.null) (.null) hG169 F170 (by omega) (by omega) (by omega) (TB_0 (by rw [W_e W167]; rfl)) j_172 (by omega)
set_option maxRecDepth 4000 in
set_option maxHeartbeats 0 in
theorem E_83 {X : mm_X} {d : Nat} {M : mm_M} {Q : Option Value → mm_M → Prop} {t : Nat → Int} {nn : Int} {a : Int} (hX : g_X X) (hd : 0 ≤ d) (hG : g_G M) (q1 : CS M t nn) (q2 : (M.2.1 1 9).toInt = a) (h : ∀ (M1 : mm_M), g_G M1 → FR md_av M M1 → CS M1 t nn → ((M1.2.1 1 9).toInt = x_ns t nn a) → Q (none) M1) : mm_T X d 83 0 [.ref 1] [] M Q := by
  have F0 : FR md_av M M := FR.rf
  have z_0 := q1.2.1; have z_1 := q1.2.2.1
  refine to_an (pc := 0) rw_83_0 rfl ?_
  have b_1 := g_b hG (a := 1) (i := 6) (lo := 0) (hi := 500) rfl rfl
  refine tt_gI (pc := 1) rw_83_1 (g_o hG rfl) (v := (M.2.1 1 6)) rfl (to_c (pc := 4) rw_83_4 (x := (1 : Int32)) rfl rfl (s_add (pc := 5) rw_83_5 (A := (M.2.1 1 6).toInt) (B := 1) rfl rfl (by omega) (fun v2 e3 => to_an (pc := 6) rw_83_6 rfl ?_)))
  have b_4 := g_b hG (a := 1) (i := 5) (lo := 0) (hi := 501) rfl rfl
  refine tt_gI (pc := 7) rw_83_7 (g_o hG rfl) (v := (M.2.1 1 5)) rfl (b_cge (pc := 10) rw_83_10 (A := v2.toInt) (B := (M.2.1 1 5).toInt) rfl rfl (fun h5 => ?_) (fun h5 => ?_))
  · refine to_an (pc := 23) rw_83_23 rfl (to_an (pc := 24) rw_83_24 rfl (s_gR (pc := 25) rw_83_25 hG rfl (v := 3) rfl (to_an (pc := 28) rw_83_28 rfl (tt_gI (pc := 29) rw_83_29 (g_o hG rfl) (v := (M.2.1 1 6)) rfl (s_ial (pc := 32) rw_83_32 hG rfl (n := 501) rfl rfl (A := (M.2.1 1 6).toInt) rfl (by omega) (by omega) (lo := -2147483648) (hi := 2147483647) rfl rfl (fun v6 w_7 _ _ => ?_))))))
    have l_8 : M.2.1 3 ((M.2.1 1 6).toInt).toNat = v6 := (show M.2.1 3 ((M.2.1 1 6).toInt).toNat = M.2.1 3 ((M.2.1 1 6).toInt).toNat from rfl).symm.trans w_7
    refine s_pI (pc := 33) rw_83_33 hG rfl (fun M10 W9 => ?_)
    have hG11 := g_wf hG W9 rfl rfl (by decide)
    have F12 := FR.w F0 W9 (show 1 = 1 ∧ 6 ≤ 7 ∧ 7 ≤ 9 by decide)
    refine to_an (pc := 36) rw_83_36 rfl (to_an (pc := 37) rw_83_37 rfl (s_gR (pc := 38) rw_83_38 hG11 rfl (v := 4) rfl (to_an (pc := 41) rw_83_41 rfl ?_)))
    have c_13 : M10.2.1 1 6 = (M.2.1 1 6) := (W_n W9 (by decide) rfl)
    refine tt_gI (pc := 42) rw_83_42 (g_o hG11 rfl) (v := (M.2.1 1 6)) c_13 (s_ial (pc := 45) rw_83_45 hG11 rfl (n := 501) rfl rfl (A := (M.2.1 1 6).toInt) rfl (by omega) (by omega) (lo := -2147483648) (hi := 2147483647) rfl rfl (fun v14 w_15 _ _ => ?_))
    have l_16 : M.2.1 4 ((M.2.1 1 6).toInt).toNat = v14 := (show M10.2.1 4 ((M.2.1 1 6).toInt).toNat = M.2.1 4 ((M.2.1 1 6).toInt).toNat from (W_n W9 (by omega) rfl)).symm.trans w_15
    refine s_pI (pc := 46) rw_83_46 hG11 rfl (fun M18 W17 => ?_)
    have hG19 := g_wf hG11 W17 rfl rfl (by decide)
    have F20 := FR.w F12 W17 (show 1 = 1 ∧ 6 ≤ 8 ∧ 8 ≤ 9 by decide)
    refine to_an (pc := 49) rw_83_49 rfl (to_an (pc := 50) rw_83_50 rfl (s_gR (pc := 51) rw_83_51 hG19 rfl (v := 5) rfl (to_an (pc := 54) rw_83_54 rfl ?_)))
    have c_21 : M18.2.1 1 6 = (M.2.1 1 6) := (W_n W17 (by decide) c_13)
    refine tt_gI (pc := 55) rw_83_55 (g_o hG19 rfl) (v := (M.2.1 1 6)) c_21 (s_ial (pc := 58) rw_83_58 hG19 rfl (n := 501) rfl rfl (A := (M.2.1 1 6).toInt) rfl (by omega) (by omega) (lo := -2147483648) (hi := 2147483647) rfl rfl (fun v22 w_23 _ _ => ?_))
    have l_24 : M.2.1 5 ((M.2.1 1 6).toInt).toNat = v22 := (show M18.2.1 5 ((M.2.1 1 6).toInt).toNat = M.2.1 5 ((M.2.1 1 6).toInt).toNat from (W_n W17 (by omega) (W_n W9 (by omega) rfl))).symm.trans w_23
    refine s_pI (pc := 59) rw_83_59 hG19 rfl (fun M26 W25 => ?_)
    have hG27 := g_wf hG19 W25 rfl rfl (by decide)
    have F28 := FR.w F20 W25 (show 1 = 1 ∧ 6 ≤ 9 ∧ 9 ≤ 9 by decide)
    refine to_rv (pc := 62) rw_83_62 ?_
    have c_29 : M26.2.1 1 5 = (M.2.1 1 5) := (W_n W25 (by decide) (W_n W17 (by decide) (W_n W9 (by decide) rfl)))
    have t_30 : (M26.2.1 1 5).toInt = (M.2.1 1 5).toInt := congrArg Int32.toInt c_29
    have c_31 : M26.2.1 1 6 = (M.2.1 1 6) := (W_n W25 (by decide) c_21)
    have t_32 : (M26.2.1 1 6).toInt = (M.2.1 1 6).toInt := congrArg Int32.toInt c_31
    have c_33 : M26.2.1 1 7 = v6 := (W_n W25 (by decide) (W_n W17 (by decide) (W_e W9)))
    have t_34 : (M26.2.1 1 7).toInt = v6.toInt := congrArg Int32.toInt c_33
    have c_35 : M26.2.1 1 8 = v14 := (W_n W25 (by decide) (W_e W17))
    have t_36 : (M26.2.1 1 8).toInt = v14.toInt := congrArg Int32.toInt c_35
    have c_37 : M26.2.1 1 9 = v22 := (W_e W25)
    have t_38 : (M26.2.1 1 9).toInt = v22.toInt := congrArg Int32.toInt c_37
    have h_39 : (M26.2.1 1 7).toInt = (M.2.1 3 (M26.2.1 1 6).toInt.toNat).toInt := by rw [c_33, c_31, l_8]
    have h_40 : (M26.2.1 1 8).toInt = (M.2.1 4 (M26.2.1 1 6).toInt.toNat).toInt := by rw [c_35, c_31, l_16]
    have h_41 : (M26.2.1 1 9).toInt = (M.2.1 5 (M26.2.1 1 6).toInt.toNat).toInt := by rw [c_37, c_31, l_24]
    have z_42 := (CS_n q1 (W_n W25 (by omega) (W_n W17 (by omega) (W_n W9 (by omega) rfl))) (fun a i z => (W_n W25 (by /-r1,9-/ omega) (W_n W17 (by /-r1,8-/ omega) (W_n W9 (by /-r1,7-/ omega) rfl)))) (by omega) h_39 h_40 h_41)
    exact h M26 hG27 F28 z_42.1 (z_42.2.trans (congrArg (x_ns t nn) (by omega)))
  · refine to_an (pc := 13) rw_83_13 rfl (to_dupr (pc := 14) rw_83_14 (tt_gI (pc := 15) rw_83_15 (g_o hG rfl) (v := (M.2.1 1 6)) rfl (to_c (pc := 18) rw_83_18 (x := (1 : Int32)) rfl rfl (s_add (pc := 19) rw_83_19 (A := (M.2.1 1 6).toInt) (B := 1) rfl rfl (by omega) (fun v43 e44 => s_pI (pc := 20) rw_83_20 hG rfl (fun M46 W45 => ?_))))))
    have hG47 := g_w hG W45 (A := v43.toInt) rfl (lo := 0) (hi := 500) rfl rfl (by omega) (by decide)
    have F48 := FR.w F0 W45 (show 1 = 1 ∧ 6 ≤ 6 ∧ 6 ≤ 9 by decide)
    refine to_an (pc := 23) rw_83_23 rfl (to_an (pc := 24) rw_83_24 rfl (s_gR (pc := 25) rw_83_25 hG47 rfl (v := 3) rfl (to_an (pc := 28) rw_83_28 rfl ?_)))
    have c_49 : M46.2.1 1 6 = v43 := (W_e W45)
    refine tt_gI (pc := 29) rw_83_29 (g_o hG47 rfl) (v := v43) c_49 (s_ial (pc := 32) rw_83_32 hG47 rfl (n := 501) rfl rfl (A := v43.toInt) rfl (by omega) (by omega) (lo := -2147483648) (hi := 2147483647) rfl rfl (fun v50 w_51 _ _ => ?_))
    have l_52 : M.2.1 3 (v43.toInt).toNat = v50 := (show M46.2.1 3 (v43.toInt).toNat = M.2.1 3 (v43.toInt).toNat from (W_n W45 (by omega) rfl)).symm.trans w_51
    refine s_pI (pc := 33) rw_83_33 hG47 rfl (fun M54 W53 => ?_)
    have hG55 := g_wf hG47 W53 rfl rfl (by decide)
    have F56 := FR.w F48 W53 (show 1 = 1 ∧ 6 ≤ 7 ∧ 7 ≤ 9 by decide)
    refine to_an (pc := 36) rw_83_36 rfl (to_an (pc := 37) rw_83_37 rfl (s_gR (pc := 38) rw_83_38 hG55 rfl (v := 4) rfl (to_an (pc := 41) rw_83_41 rfl ?_)))
    have c_57 : M54.2.1 1 6 = v43 := (W_n W53 (by decide) c_49)
    refine tt_gI (pc := 42) rw_83_42 (g_o hG55 rfl) (v := v43) c_57 (s_ial (pc := 45) rw_83_45 hG55 rfl (n := 501) rfl rfl (A := v43.toInt) rfl (by omega) (by omega) (lo := -2147483648) (hi := 2147483647) rfl rfl (fun v58 w_59 _ _ => ?_))
    have l_60 : M.2.1 4 (v43.toInt).toNat = v58 := (show M54.2.1 4 (v43.toInt).toNat = M.2.1 4 (v43.toInt).toNat from (W_n W53 (by omega) (W_n W45 (by omega) rfl))).symm.trans w_59
    refine s_pI (pc := 46) rw_83_46 hG55 rfl (fun M62 W61 => ?_)
    have hG63 := g_wf hG55 W61 rfl rfl (by decide)
    have F64 := FR.w F56 W61 (show 1 = 1 ∧ 6 ≤ 8 ∧ 8 ≤ 9 by decide)
    refine to_an (pc := 49) rw_83_49 rfl (to_an (pc := 50) rw_83_50 rfl (s_gR (pc := 51) rw_83_51 hG63 rfl (v := 5) rfl (to_an (pc := 54) rw_83_54 rfl ?_)))
    have c_65 : M62.2.1 1 6 = v43 := (W_n W61 (by decide) c_57)
    refine tt_gI (pc := 55) rw_83_55 (g_o hG63 rfl) (v := v43) c_65 (s_ial (pc := 58) rw_83_58 hG63 rfl (n := 501) rfl rfl (A := v43.toInt) rfl (by omega) (by omega) (lo := -2147483648) (hi := 2147483647) rfl rfl (fun v66 w_67 _ _ => ?_))
    have l_68 : M.2.1 5 (v43.toInt).toNat = v66 := (show M62.2.1 5 (v43.toInt).toNat = M.2.1 5 (v43.toInt).toNat from (W_n W61 (by omega) (W_n W53 (by omega) (W_n W45 (by omega) rfl)))).symm.trans w_67
    refine s_pI (pc := 59) rw_83_59 hG63 rfl (fun M70 W69 => ?_)
    have hG71 := g_wf hG63 W69 rfl rfl (by decide)
    have F72 := FR.w F64 W69 (show 1 = 1 ∧ 6 ≤ 9 ∧ 9 ≤ 9 by decide)
    refine to_rv (pc := 62) rw_83_62 ?_
    have c_73 : M70.2.1 1 5 = (M.2.1 1 5) := (W_n W69 (by decide) (W_n W61 (by decide) (W_n W53 (by decide) (W_n W45 (by decide) rfl))))
    have t_74 : (M70.2.1 1 5).toInt = (M.2.1 1 5).toInt := congrArg Int32.toInt c_73
    have c_75 : M70.2.1 1 6 = v43 := (W_n W69 (by decide) c_65)
    have t_76 : (M70.2.1 1 6).toInt = v43.toInt := congrArg Int32.toInt c_75
    have c_77 : M70.2.1 1 7 = v50 := (W_n W69 (by decide) (W_n W61 (by decide) (W_e W53)))
    have t_78 : (M70.2.1 1 7).toInt = v50.toInt := congrArg Int32.toInt c_77
    have c_79 : M70.2.1 1 8 = v58 := (W_n W69 (by decide) (W_e W61))
    have t_80 : (M70.2.1 1 8).toInt = v58.toInt := congrArg Int32.toInt c_79
    have c_81 : M70.2.1 1 9 = v66 := (W_e W69)
    have t_82 : (M70.2.1 1 9).toInt = v66.toInt := congrArg Int32.toInt c_81
    have h_83 : (M70.2.1 1 7).toInt = (M.2.1 3 (M70.2.1 1 6).toInt.toNat).toInt := by rw [c_77, c_75, l_52]
    have h_84 : (M70.2.1 1 8).toInt = (M.2.1 4 (M70.2.1 1 6).toInt.toNat).toInt := by rw [c_79, c_75, l_60]
    have h_85 : (M70.2.1 1 9).toInt = (M.2.1 5 (M70.2.1 1 6).toInt.toNat).toInt := by rw [c_81, c_75, l_68]
    have z_86 := (CS_n q1 (W_n W69 (by omega) (W_n W61 (by omega) (W_n W53 (by omega) (W_n W45 (by omega) rfl)))) (fun a i z => (W_n W69 (by /-r1,9-/ omega) (W_n W61 (by /-r1,8-/ omega) (W_n W53 (by /-r1,7-/ omega) (W_n W45 (by /-r1,6-/ omega) rfl))))) (by omega) h_83 h_84 h_85)
    exact h M70 hG71 F72 z_86.1 (z_86.2.trans (congrArg (x_ns t nn) (by omega)))
set_option maxRecDepth 4000 in
set_option maxHeartbeats 0 in
theorem E_78 {X : mm_X} {d : Nat} {M : mm_M} {Q : Option Value → mm_M → Prop} {n : Int32} {t : Nat → Int} {nn : Int} (hX : g_X X) (hd : 3 ≤ d) (hG : g_G M) (q1 : 0 ≤ n.toInt ∧ n.toInt ≤ (M.2.1 1 1).toInt → n.toInt = nn) (q2 : TT M t nn) (q3 : g_W X) (h : ∀ (r : Int32) (M1 : mm_M), g_G M1 → FR md_bg M M1 → (0 ≤ r.toInt) → (r.toInt ≤ 1) → (n.toInt < 0 ∨ (M.2.1 1 1).toInt < n.toInt → (M1.2.1 1 1).toInt = (M.2.1 1 1).toInt ∧ r.toInt = 0) → (0 ≤ n.toInt ∧ n.toInt ≤ (M.2.1 1 1).toInt → (M1.2.1 1 1).toInt = 0 ∧ r.toInt = 1) → ((r.toInt = 1 → CS M1 t nn ∧ (M1.2.1 1 9).toInt = x_sk t nn 0)) → Q (some (.int r)) M1) : mm_T X d 78 0 [.ref 1, .int n] [] M Q := by
  have F0 : FR md_bg M M := FR.rf
  have b_1 := g_b hG (a := 1) (i := 1) (lo := 0) (hi := 500) rfl rfl
  refine to_in (pc := 0) rw_78_0 rfl (b_ilt (pc := 1) rw_78_1 (A := n.toInt) rfl (fun h2 => ?_) (fun h2 => ?_))
  · refine to_c (pc := 12) rw_78_12 (x := (0 : Int32)) rfl rfl (s_r1 (pc := 13) rw_78_13 (A := 0) rfl (by decide) ?_)
    have k_3 : (0 : Int32).toInt = 0 := rfl
    exact h (0 : Int32) M hG F0 (by decide) (by decide) (by omega) (by omega) (fun z => absurd z (by decide))
  · refine to_in (pc := 4) rw_78_4 rfl (to_an (pc := 5) rw_78_5 rfl (tt_gI (pc := 6) rw_78_6 (g_o hG rfl) (v := (M.2.1 1 1)) rfl (b_cle (pc := 9) rw_78_9 (A := n.toInt) (B := (M.2.1 1 1).toInt) rfl rfl (fun h4 => ?_) (fun h4 => ?_))))
    · refine to_an (pc := 14) rw_78_14 rfl (to_c (pc := 15) rw_78_15 (x := (0 : Int32)) rfl rfl (s_pI (pc := 16) rw_78_16 hG rfl (fun M6 W5 => ?_)))
      have hG7 := g_w hG W5 (A := 0) rfl (lo := 0) (hi := 500) rfl rfl (by omega) (by decide)
      have F8 := FR.w F0 W5 (show 1 = 1 ∨ 3 ≤ 1 ∧ 1 ≤ 5 by decide)
      refine to_an (pc := 19) rw_78_19 rfl (to_c (pc := 20) rw_78_20 (x := (0 : Int32)) rfl rfl (s_pI (pc := 21) rw_78_21 hG7 rfl (fun M10 W9 => ?_)))
      have hG11 := g_wf hG7 W9 rfl rfl (by decide)
      have F12 := FR.w F8 W9 (show 1 = 1 ∨ 3 ≤ 1 ∧ 1 ≤ 5 by decide)
      refine to_an (pc := 24) rw_78_24 rfl (to_c (pc := 25) rw_78_25 (x := (-1 : Int32)) rfl rfl (s_pI (pc := 26) rw_78_26 hG11 rfl (fun M14 W13 => ?_)))
      have hG15 := g_wf hG11 W13 rfl rfl (by decide)
      have F16 := FR.w F12 W13 (show 1 = 1 ∨ 3 ≤ 1 ∧ 1 ≤ 5 by decide)
      refine to_an (pc := 29) rw_78_29 rfl (to_in (pc := 30) rw_78_30 rfl (s_v (pc := 31) rw_78_31 (dp0 hd (by decide)) (ls0 := [.ref 1, .int n, .null, .null, .null]) rfl (Nat.le_of_ble_eq_true rfl) (Nat.le_of_ble_eq_true rfl) rfl (to_rc rfl rfl rfl (g_o hG15 rfl)) rfl ?_))
      have j_17 := (TT_f (fun a i z => W_n W13 (tg_6 a i z) rfl) (TT_f (fun a i z => W_n W9 (tg_7 a i z) rfl) (TT_f (fun a i z => W_n W5 (tg_8 a i z) rfl) q2)))
      refine E_79 hX (dp1 hd (by decide)) hG15 (by omega) (by omega) (by omega) j_17 q3 (n := n) (fun M22 hG19 F18 p_20 p_21 => ?_)
      have F23 := FR.c F16 F18 tg_4
      have b_24 := g_b hG19 (a := 1) (i := 5) (lo := 0) (hi := 501) rfl rfl
      have z_25 := p_21.1
      refine to_an (pc := 34) rw_78_34 rfl (to_c (pc := 35) rw_78_35 (x := (-1 : Int32)) rfl rfl (s_pI (pc := 36) rw_78_36 hG19 rfl (fun M27 W26 => ?_)))
      have F29 := FR.w F23 W26 (show 1 = 1 ∨ 3 ≤ 1 ∧ 1 ≤ 5 by decide)
      refine to_an (pc := 39) rw_78_39 rfl (s_v (pc := 40) rw_78_40 (dp0 hd (by decide)) (ls0 := [.ref 1]) rfl (Nat.le_of_ble_eq_true rfl) (Nat.le_of_ble_eq_true rfl) rfl (to_rc rfl rfl rfl (g_oW hG19 W26 rfl)) rfl (to_an (pc := 0) rw_83_0 rfl ?_))
      have c_30 : M27.2.1 1 6 = (-1 : Int32) := (W_e W26)
      refine tt_gI (pc := 1) rw_83_1 (g_oW hG19 W26 rfl) (v := (-1 : Int32)) c_30 (to_c (pc := 4) rw_83_4 (x := (1 : Int32)) rfl rfl (s_add (pc := 5) rw_83_5 (A := -1) (B := 1) rfl rfl (by omega) (fun v31 e32 => to_an (pc := 6) rw_83_6 rfl ?_)))
      have c_33 : M27.2.1 1 5 = (M22.2.1 1 5) := (W_n W26 (by decide) rfl)
      refine tt_gI (pc := 7) rw_83_7 (g_oW hG19 W26 rfl) (v := (M22.2.1 1 5)) c_33 (b_cge_f (pc := 10) rw_83_10 (A := v31.toInt) (B := (M22.2.1 1 5).toInt) rfl rfl (by omega) (to_an (pc := 13) rw_83_13 rfl (to_dupr (pc := 14) rw_83_14 (tt_gI (pc := 15) rw_83_15 (g_oW hG19 W26 rfl) (v := (-1 : Int32)) c_30 (to_c (pc := 18) rw_83_18 (x := (1 : Int32)) rfl rfl (s_add (pc := 19) rw_83_19 (A := -1) (B := 1) rfl rfl (by omega) (fun v34 e35 => s_pI0 (pc := 20) rw_83_20 (g_oW hG19 W26 rfl) (fun M37 W36 => ?_))))))))
      have hG38 := g_w hG19 (W_ww W36 W26) (A := v34.toInt) rfl (lo := 0) (hi := 500) rfl rfl (by omega) (by decide)
      have F39 := FR.w F29 W36 (show 1 = 1 ∨ 3 ≤ 1 ∧ 1 ≤ 5 by decide)
      refine to_an (pc := 23) rw_83_23 rfl (to_an (pc := 24) rw_83_24 rfl (s_gR (pc := 25) rw_83_25 hG38 rfl (v := 3) rfl (to_an (pc := 28) rw_83_28 rfl ?_)))
      have c_40 : M37.2.1 1 6 = v34 := (W_e W36)
      refine tt_gI (pc := 29) rw_83_29 (g_o hG38 rfl) (v := v34) c_40 (s_ial (pc := 32) rw_83_32 hG38 rfl (n := 501) rfl rfl (A := v34.toInt) rfl (by omega) (by omega) (lo := -2147483648) (hi := 2147483647) rfl rfl (fun v41 w_42 _ _ => ?_))
      have l_43 : M22.2.1 3 (v34.toInt).toNat = v41 := (show M37.2.1 3 (v34.toInt).toNat = M22.2.1 3 (v34.toInt).toNat from (W_n W36 (by omega) (W_n W26 (by omega) rfl))).symm.trans w_42
      refine s_pI (pc := 33) rw_83_33 hG38 rfl (fun M45 W44 => ?_)
      have hG46 := g_wf hG38 W44 rfl rfl (by decide)
      have F47 := FR.w F39 W44 (show 1 = 1 ∨ 3 ≤ 1 ∧ 1 ≤ 5 by decide)
      refine to_an (pc := 36) rw_83_36 rfl (to_an (pc := 37) rw_83_37 rfl (s_gR (pc := 38) rw_83_38 hG46 rfl (v := 4) rfl (to_an (pc := 41) rw_83_41 rfl ?_)))
      have c_48 : M45.2.1 1 6 = v34 := (W_n W44 (by decide) c_40)
      refine tt_gI (pc := 42) rw_83_42 (g_o hG46 rfl) (v := v34) c_48 (s_ial (pc := 45) rw_83_45 hG46 rfl (n := 501) rfl rfl (A := v34.toInt) rfl (by omega) (by omega) (lo := -2147483648) (hi := 2147483647) rfl rfl (fun v49 w_50 _ _ => ?_))
      have l_51 : M22.2.1 4 (v34.toInt).toNat = v49 := (show M45.2.1 4 (v34.toInt).toNat = M22.2.1 4 (v34.toInt).toNat from (W_n W44 (by omega) (W_n W36 (by omega) (W_n W26 (by omega) rfl)))).symm.trans w_50
      refine s_pI (pc := 46) rw_83_46 hG46 rfl (fun M53 W52 => ?_)
      have hG54 := g_wf hG46 W52 rfl rfl (by decide)
      have F55 := FR.w F47 W52 (show 1 = 1 ∨ 3 ≤ 1 ∧ 1 ≤ 5 by decide)
      refine to_an (pc := 49) rw_83_49 rfl (to_an (pc := 50) rw_83_50 rfl (s_gR (pc := 51) rw_83_51 hG54 rfl (v := 5) rfl (to_an (pc := 54) rw_83_54 rfl ?_)))
      have c_56 : M53.2.1 1 6 = v34 := (W_n W52 (by decide) c_48)
      refine tt_gI (pc := 55) rw_83_55 (g_o hG54 rfl) (v := v34) c_56 (s_ial (pc := 58) rw_83_58 hG54 rfl (n := 501) rfl rfl (A := v34.toInt) rfl (by omega) (by omega) (lo := -2147483648) (hi := 2147483647) rfl rfl (fun v57 w_58 _ _ => ?_))
      have l_59 : M22.2.1 5 (v34.toInt).toNat = v57 := (show M53.2.1 5 (v34.toInt).toNat = M22.2.1 5 (v34.toInt).toNat from (W_n W52 (by omega) (W_n W44 (by omega) (W_n W36 (by omega) (W_n W26 (by omega) rfl))))).symm.trans w_58
      refine s_pI (pc := 59) rw_83_59 hG54 rfl (fun M61 W60 => ?_)
      have hG62 := g_wf hG54 W60 rfl rfl (by decide)
      have F63 := FR.w F55 W60 (show 1 = 1 ∨ 3 ≤ 1 ∧ 1 ≤ 5 by decide)
      refine to_rv (pc := 62) rw_83_62 (to_c (pc := 43) rw_78_43 (x := (1 : Int32)) rfl rfl (s_r1 (pc := 44) rw_78_44 (A := 1) rfl (by decide) ?_))
      have k_64 : (1 : Int32).toInt = 1 := rfl
      have c_65 : M61.2.1 1 1 = (0 : Int32) := (W_n W60 (by decide) (W_n W52 (by decide) (W_n W44 (by decide) (W_n W36 (by decide) (W_n W26 (by decide) (F_n F18 (show ¬ (1 = 1 ∧ 1 = 5 ∨ 3 ≤ 1 ∧ 1 ≤ 5) by decide) (W_n W13 (by decide) (W_n W9 (by decide) (W_e W5)))))))))
      have k_66 : (0 : Int32).toInt = 0 := rfl
      have t_67 : (M61.2.1 1 1).toInt = (0 : Int32).toInt := congrArg Int32.toInt c_65
      have c_68 : M61.2.1 1 5 = (M22.2.1 1 5) := (W_n W60 (by decide) (W_n W52 (by decide) (W_n W44 (by decide) (W_n W36 (by decide) c_33))))
      have t_69 : (M61.2.1 1 5).toInt = (M22.2.1 1 5).toInt := congrArg Int32.toInt c_68
      have c_70 : M61.2.1 1 6 = v34 := (W_n W60 (by decide) c_56)
      have t_71 : (M61.2.1 1 6).toInt = v34.toInt := congrArg Int32.toInt c_70
      have c_72 : M61.2.1 1 7 = v41 := (W_n W60 (by decide) (W_n W52 (by decide) (W_e W44)))
      have t_73 : (M61.2.1 1 7).toInt = v41.toInt := congrArg Int32.toInt c_72
      have c_74 : M61.2.1 1 8 = v49 := (W_n W60 (by decide) (W_e W52))
      have t_75 : (M61.2.1 1 8).toInt = v49.toInt := congrArg Int32.toInt c_74
      have c_76 : M61.2.1 1 9 = v57 := (W_e W60)
      have t_77 : (M61.2.1 1 9).toInt = v57.toInt := congrArg Int32.toInt c_76
      have h_78 : (M61.2.1 1 7).toInt = (M22.2.1 3 (M61.2.1 1 6).toInt.toNat).toInt := by rw [c_72, c_70, l_43]
      have h_79 : (M61.2.1 1 8).toInt = (M22.2.1 4 (M61.2.1 1 6).toInt.toNat).toInt := by rw [c_74, c_70, l_51]
      have h_80 : (M61.2.1 1 9).toInt = (M22.2.1 5 (M61.2.1 1 6).toInt.toNat).toInt := by rw [c_76, c_70, l_59]
      exact h (1 : Int32) M61 hG62 F63 (by decide) (by decide) (by omega) (by omega) (fun _ => (CS_b p_21 (W_n W60 (by omega) (W_n W52 (by omega) (W_n W44 (by omega) (W_n W36 (by omega) (W_n W26 (by omega) rfl))))) (fun a i z => (W_n W60 (by /-r1,9-/ omega) (W_n W52 (by /-r1,8-/ omega) (W_n W44 (by /-r1,7-/ omega) (W_n W36 (by /-r1,6-/ omega) (W_n W26 (by /-r1,6-/ omega) rfl)))))) (by omega) h_78 h_79 h_80))
    · refine to_c (pc := 12) rw_78_12 (x := (0 : Int32)) rfl rfl (s_r1 (pc := 13) rw_78_13 (A := 0) rfl (by decide) ?_)
      have k_81 : (0 : Int32).toInt = 0 := rfl
      exact h (0 : Int32) M hG F0 (by decide) (by decide) (by omega) (by omega) (fun z => absurd z (by decide))
end
section
set_option maxRecDepth 4000 in
set_option maxHeartbeats 0 in
theorem U_153_0 {X : mm_X} {d : Nat} {M : mm_M} {Q : Option Value → mm_M → Prop} {a : Int32} {b : Int32} {t : Nat → Int} {nn : Int} (hX : g_X X) (hd : 0 ≤ d) (q1 : 0 ≤ a.toInt) (q2 : a.toInt ≤ 500) (q3 : 0 ≤ b.toInt) (q4 : b.toInt ≤ 500) (q5 : a.toInt ≤ b.toInt) (q6 : b.toInt ≤ nn) (q7 : nn ≤ 500) (q8 : TR M t nn) (q9 : W9 M) (h : ∀ (r : Int32) (M1 : mm_M), g_G M1 → FR md_0 M M1 → (-1 ≤ r.toInt) → (r.toInt ≤ 14) → ((r.toInt = -1 → ∀ k : Int, 0 ≤ k → k < 15 → ¬ x_m t a.toInt b.toInt k) ∧ (0 ≤ r.toInt → x_m t a.toInt b.toInt r.toInt)) → Q (some (.int r)) M1) : ∀ nn9 : Nat, (∀ (N : mm_M) (x3 : Int32) (x4 : Int32) (u5 : Value) (u6 : Value) (u7 : Value), g_G N → FR md_0 M N → (0 ≤ x3.toInt) → (x3.toInt ≤ 15) → (0 ≤ x4.toInt) → (x4.toInt ≤ 70) → (x4.toInt = x_off x3.toInt) → (x3.toInt < 15 ∨ x4.toInt = 70) → (∀ k : Int, 0 ≤ k → k < x3.toInt → ¬ x_m t a.toInt b.toInt k) → (TR N t nn) → (W9 N) → (15 - x3.toInt) * 1000 + 900 < (nn9 : Int) → mm_T X d 152 5 [.ref 77, .int a, .int b, .int x3, .int x4, u5, u6, u7] [] N Q) ∧ (∀ (N : mm_M) (x3 : Int32) (x4 : Int32) (x5 : Int32) (u6 : Value) (u7 : Value), g_G N → FR md_0 M N → (0 ≤ x3.toInt) → (x3.toInt ≤ 14) → (0 ≤ x4.toInt) → (x4.toInt ≤ 69) → (x4.toInt = x_off x3.toInt) → (0 ≤ x5.toInt) → (x5.toInt ≤ 5) → (x5.toInt ≤ x_len x3.toInt) → (∀ k : Int, 0 ≤ k → k < x3.toInt → ¬ x_m t a.toInt b.toInt k) → (TR N t nn) → (W9 N) → (15 - x3.toInt) * 1000 + 300 - x5.toInt < (nn9 : Int) → mm_T X d 152 18 [.ref 77, .int a, .int b, .int x3, .int x4, .int x5, u6, u7] [] N Q) ∧ (∀ (N : mm_M) (x3 : Int32) (x4 : Int32) (x5 : Int32) (x6 : Int32) (x7 : Int32), g_G N → FR md_0 M N → (0 ≤ x3.toInt) → (x3.toInt ≤ 14) → (0 ≤ x4.toInt) → (x4.toInt ≤ 69) → (x4.toInt = x_off x3.toInt) → (0 ≤ x5.toInt) → (x5.toInt ≤ 5) → (x5.toInt = x_len x3.toInt) → (0 ≤ x7.toInt) → (x7.toInt ≤ 5) → (x7.toInt ≤ x5.toInt) → (0 ≤ x6.toInt) → (x6.toInt ≤ 1) → ((x6.toInt) = 1 → x_len x3.toInt = b.toInt - a.toInt ∧ ∀ j : Nat, (j : Int) < x7.toInt → x_w (x_off x3.toInt + j).toNat = t (a.toInt + j).toNat) → ((x6.toInt) = 0 → ¬ x_m t a.toInt b.toInt x3.toInt) → (x6.toInt = 1 → x5.toInt = b.toInt - a.toInt) → (∀ k : Int, 0 ≤ k → k < x3.toInt → ¬ x_m t a.toInt b.toInt k) → (TR N t nn) → (W9 N) → (15 - x3.toInt) * 1000 + 100 - x7.toInt < (nn9 : Int) → mm_T X d 152 57 [.ref 77, .int a, .int b, .int x3, .int x4, .int x5, .int x6, .int x7] [] N Q) := by
  intro nn9
  induction nn9 with
  | zero =>
    refine ⟨?_, ?_, ?_⟩
    · intro N x3 x4 u5 u6 u7 hG F0 g1 g2 g3 g4 g5 g6 g7 g8 g9 hm
      exfalso; omega
    · intro N x3 x4 x5 u6 u7 hG F0 g1 g2 g3 g4 g5 g6 g7 g8 g9 g10 g11 hm
      exfalso; omega
    · intro N x3 x4 x5 x6 x7 hG F0 g1 g2 g3 g4 g5 g6 g7 g8 g9 g10 g11 g12 g13 g14 g15 g16 g17 g18 g19 hm
      exfalso; omega
  | succ nn9 ih =>
    refine ⟨?_, ?_, ?_⟩
    · intro N x3 x4 u5 u6 u7 hG F0 g1 g2 g3 g4 g5 g6 g7 g8 g9 hm
      have o_15 := x_off_15 (k := x3.toInt)
      have o_1 := fun (z : x3.toInt ≤ 14) => x_off_u (k := x3.toInt) (by omega) z
      refine to_i (pc := 5) rw_153_5 rfl (to_an (pc := 7) rw_153_7 rfl (s_gR (pc := 8) rw_153_8 hG rfl (v := 79) rfl (s_len (pc := 11) rw_153_11 hG rfl rfl (n := 70) rfl (v := (70 : Int32)) rfl (b_cge (pc := 12) rw_153_12 (A := x4.toInt) (B := 70) rfl rfl (fun h1 => ?_) (fun h1 => ?_)))))
      · refine to_c (pc := 126) rw_153_126 (x := (-1 : Int32)) rfl rfl (to_r0 (pc := 127) rw_153_127 ?_)
        have k_2 : (-1 : Int32).toInt = -1 := rfl
        exact h (-1 : Int32) N hG F0 (by omega) (by omega) ⟨fun _ k h0 h1 => g7 k h0 (by omega), fun z => absurd z (by decide)⟩
      · refine to_c (pc := 15) rw_153_15 (x := (0 : Int32)) rfl rfl (to_is (pc := 16) rw_153_16 (ls2 := [.ref 77, .int a, .int b, .int x3, .int x4, .int (0 : Int32), u6, u7]) rfl rfl ?_)
        have k_3 : (0 : Int32).toInt = 0 := rfl
        exact ih.2.1 N x3 x4 (0 : Int32) (u6) (u7) hG F0 (by omega) (by omega) (by omega) (by omega) (by omega) (by omega) (by omega) (by omega) g7 g8 g9 (by omega)
    · intro N x3 x4 x5 u6 u7 hG F0 g1 g2 g3 g4 g5 g6 g7 g8 g9 g10 g11 hm
      have o_1 := x_off_u (k := x3.toInt) (by omega) (by omega)
      refine to_an (pc := 18) rw_153_18 rfl (s_gR (pc := 19) rw_153_19 hG rfl (v := 79) rfl (to_i (pc := 22) rw_153_22 rfl (to_i (pc := 24) rw_153_24 rfl (s_add (pc := 26) rw_153_26 (A := x4.toInt) (B := x5.toInt) rfl rfl (by omega) (fun v4 e5 => s_ial (pc := 27) rw_153_27 hG rfl (n := 70) rfl rfl (A := v4.toInt) rfl (by omega) (by omega) (lo := -2147483648) (hi := 2147483647) rfl rfl (fun v6 w_7 _ _ => ?_))))))
      have z_8 := W9_u g11 (A := v4.toInt) (B := x_off x3.toInt + x5.toInt) (by omega) (by omega) w_7 (by omega)
      have z_9 := x_off_w (by omega) (by omega) (n := x5.toInt) (by omega) z_8
      refine to_c (pc := 28) rw_153_28 (x := (32 : Int32)) rfl rfl (b_ceq (pc := 30) rw_153_30 (A := v6.toInt) (B := 32) rfl rfl (fun h10 => ?_) (fun h10 => ?_))
      · refine to_i (pc := 39) rw_153_39 rfl (to_in (pc := 41) rw_153_41 rfl (to_in (pc := 42) rw_153_42 rfl (s_sub (pc := 43) rw_153_43 (A := b.toInt) (B := a.toInt) rfl rfl (by omega) (fun v11 e12 => b_cne (pc := 44) rw_153_44 (A := x5.toInt) (B := v11.toInt) rfl rfl (fun h13 => ?_) (fun h13 => ?_)))))
        · refine to_c (pc := 51) rw_153_51 (x := (0 : Int32)) rfl rfl (to_is (pc := 52) rw_153_52 (ls2 := [.ref 77, .int a, .int b, .int x3, .int x4, .int x5, .int (0 : Int32), u7]) rfl rfl (to_c (pc := 54) rw_153_54 (x := (0 : Int32)) rfl rfl (to_is (pc := 55) rw_153_55 (ls2 := [.ref 77, .int a, .int b, .int x3, .int x4, .int x5, .int (0 : Int32), .int (0 : Int32)]) rfl rfl ?_)))
          have k_14 : (0 : Int32).toInt = 0 := rfl
          exact ih.2.2 N x3 x4 x5 (0 : Int32) (0 : Int32) hG F0 (by omega) (by omega) (by omega) (by omega) (by omega) (by omega) (by omega) (by omega) (by omega) (by omega) (by omega) (by omega) (by omega) (x_sa_0 (by omega)) (x_sb_0 (by omega)) (by omega) g9 g10 g11 (by omega)
        · refine to_c (pc := 47) rw_153_47 (x := (1 : Int32)) rfl rfl (to_go (pc := 48) rw_153_48 (to_is (pc := 52) rw_153_52 (ls2 := [.ref 77, .int a, .int b, .int x3, .int x4, .int x5, .int (1 : Int32), u7]) rfl rfl (to_c (pc := 54) rw_153_54 (x := (0 : Int32)) rfl rfl (to_is (pc := 55) rw_153_55 (ls2 := [.ref 77, .int a, .int b, .int x3, .int x4, .int x5, .int (1 : Int32), .int (0 : Int32)]) rfl rfl ?_))))
          have k_15 : (1 : Int32).toInt = 1 := rfl
          have k_16 : (0 : Int32).toInt = 0 := rfl
          exact ih.2.2 N x3 x4 x5 (1 : Int32) (0 : Int32) hG F0 (by omega) (by omega) (by omega) (by omega) (by omega) (by omega) (by omega) (by omega) (by omega) (by omega) (by omega) (by omega) (by omega) (x_sa_0 (by omega)) (x_sb_0 (by omega)) (by omega) g9 g10 g11 (by omega)
      · refine s_inc (pc := 33) rw_153_33 (ls2 := fun v => [.ref 77, .int a, .int b, .int x3, .int x4, .int v, u6, u7]) rfl rfl (fun _ => rfl) (A := x5.toInt) (B := 1) rfl rfl (by omega) (fun v17 e18 => to_go (pc := 36) rw_153_36 ?_)
        exact ih.2.1 N x3 x4 v17 (u6) (u7) hG F0 (by omega) (by omega) (by omega) (by omega) (by omega) (by omega) (by omega) (by omega) g9 g10 g11 (by omega)
    · intro N x3 x4 x5 x6 x7 hG F0 g1 g2 g3 g4 g5 g6 g7 g8 g9 g10 g11 g12 g13 g14 g15 g16 g17 g18 g19 hm
      have o_1 := x_off_u (k := x3.toInt) (by omega) (by omega)
      refine to_i (pc := 57) rw_153_57 rfl (to_i (pc := 59) rw_153_59 rfl (b_cge (pc := 61) rw_153_61 (A := x7.toInt) (B := x5.toInt) rfl rfl (fun h19 => ?_) (fun h19 => ?_)))
      · refine to_i (pc := 104) rw_153_104 rfl (b_ieq (pc := 106) rw_153_106 (A := x6.toInt) rfl (fun h20 => ?_) (fun h20 => ?_))
        · refine to_i (pc := 111) rw_153_111 rfl (to_i (pc := 113) rw_153_113 rfl (to_c (pc := 115) rw_153_115 (x := (1 : Int32)) rfl rfl (s_add (pc := 116) rw_153_116 (A := x5.toInt) (B := 1) rfl rfl (by omega) (fun v21 e22 => s_add (pc := 117) rw_153_117 (A := x4.toInt) (B := v21.toInt) rfl rfl (by omega) (fun v23 e24 => to_is (pc := 118) rw_153_118 (ls2 := [.ref 77, .int a, .int b, .int x3, .int v23, .int x5, .int x6, .int x7]) rfl rfl (s_inc (pc := 120) rw_153_120 (ls2 := fun v => [.ref 77, .int a, .int b, .int v, .int v23, .int x5, .int x6, .int x7]) rfl rfl (fun _ => rfl) (A := x3.toInt) (B := 1) rfl rfl (by omega) (fun v25 e26 => to_go (pc := 123) rw_153_123 ?_)))))))
          have z_27 : x_off v25.toInt = x_off (x3.toInt + 1) := by rw [show v25.toInt = x3.toInt + 1 by omega]
          have z_28 := x_off_15 (k := v25.toInt)
          exact ih.1 N v25 v23 (.int x5) (.int x6) (.int x7) hG F0 (by omega) (by omega) (by omega) (by omega) (by omega) (by omega) (x_no_s g17 (g15 (by omega)) (by omega)) g18 g19 (by omega)
        · refine to_in (pc := 109) rw_153_109 rfl (to_r0 (pc := 110) rw_153_110 ?_)
          have z_29 := g14 (by omega)
          exact h x3 N hG F0 (by omega) (by omega) ⟨fun z => by exfalso; omega, fun _ => ⟨z_29.1, fun j hj => z_29.2 j (by omega)⟩⟩
      · refine to_i (pc := 64) rw_153_64 rfl (b_ieq (pc := 66) rw_153_66 (A := x6.toInt) rfl (fun h30 => ?_) (fun h30 => ?_))
        · refine to_i (pc := 104) rw_153_104 rfl (b_ieq_t (pc := 106) rw_153_106 (A := x6.toInt) rfl (by omega) (to_i (pc := 111) rw_153_111 rfl (to_i (pc := 113) rw_153_113 rfl (to_c (pc := 115) rw_153_115 (x := (1 : Int32)) rfl rfl (s_add (pc := 116) rw_153_116 (A := x5.toInt) (B := 1) rfl rfl (by omega) (fun v31 e32 => s_add (pc := 117) rw_153_117 (A := x4.toInt) (B := v31.toInt) rfl rfl (by omega) (fun v33 e34 => to_is (pc := 118) rw_153_118 (ls2 := [.ref 77, .int a, .int b, .int x3, .int v33, .int x5, .int x6, .int x7]) rfl rfl (s_inc (pc := 120) rw_153_120 (ls2 := fun v => [.ref 77, .int a, .int b, .int v, .int v33, .int x5, .int x6, .int x7]) rfl rfl (fun _ => rfl) (A := x3.toInt) (B := 1) rfl rfl (by omega) (fun v35 e36 => to_go (pc := 123) rw_153_123 ?_)))))))))
          have z_37 : x_off v35.toInt = x_off (x3.toInt + 1) := by rw [show v35.toInt = x3.toInt + 1 by omega]
          have z_38 := x_off_15 (k := v35.toInt)
          exact ih.1 N v35 v33 (.int x5) (.int x6) (.int x7) hG F0 (by omega) (by omega) (by omega) (by omega) (by omega) (by omega) (x_no_s g17 (g15 (by omega)) (by omega)) g18 g19 (by omega)
        · refine to_an (pc := 69) rw_153_69 rfl (s_gR (pc := 70) rw_153_70 hG rfl (v := 79) rfl (to_i (pc := 73) rw_153_73 rfl (to_i (pc := 75) rw_153_75 rfl (s_add (pc := 77) rw_153_77 (A := x4.toInt) (B := x7.toInt) rfl rfl (by omega) (fun v39 e40 => s_ial (pc := 78) rw_153_78 hG rfl (n := 70) rfl rfl (A := v39.toInt) rfl (by omega) (by omega) (lo := -2147483648) (hi := 2147483647) rfl rfl (fun v41 w_42 _ _ => ?_))))))
          have z_43 := W9_u g19 (A := v39.toInt) (B := x_off x3.toInt + x7.toInt) (by omega) (by omega) w_42 (by omega)
          refine to_an (pc := 79) rw_153_79 rfl (s_gR (pc := 80) rw_153_80 hG rfl (v := 78) rfl (to_in (pc := 83) rw_153_83 rfl (to_i (pc := 84) rw_153_84 rfl (s_add (pc := 86) rw_153_86 (A := a.toInt) (B := x7.toInt) rfl rfl (by omega) (fun v44 e45 => s_ial (pc := 87) rw_153_87 hG rfl (n := 500) rfl rfl (A := v44.toInt) rfl (by omega) (by omega) (lo := 0) (hi := 255) rfl rfl (fun v46 w_47 _ _ => ?_))))))
          have z_48 := TR_u g18 (A := v44.toInt) (B := a.toInt + x7.toInt) (by omega) (by omega) w_47 (by omega)
          refine b_cne (pc := 88) rw_153_88 (A := v41.toInt) (B := v46.toInt) rfl rfl (fun h49 => ?_) (fun h49 => ?_)
          · refine to_c (pc := 95) rw_153_95 (x := (0 : Int32)) rfl rfl (to_is (pc := 96) rw_153_96 (ls2 := [.ref 77, .int a, .int b, .int x3, .int x4, .int x5, .int (0 : Int32), .int x7]) rfl rfl (s_inc (pc := 98) rw_153_98 (ls2 := fun v => [.ref 77, .int a, .int b, .int x3, .int x4, .int x5, .int (0 : Int32), .int v]) rfl rfl (fun _ => rfl) (A := x7.toInt) (B := 1) rfl rfl (by omega) (fun v50 e51 => to_go (pc := 101) rw_153_101 ?_)))
            have k_52 : (0 : Int32).toInt = 0 := rfl
            exact ih.2.2 N x3 x4 x5 (0 : Int32) v50 hG F0 (by omega) (by omega) (by omega) (by omega) (by omega) (by omega) (by omega) (by omega) (by omega) (by omega) (by omega) (by omega) (by omega) (x_sa_s g14 (by omega) (by omega) (by omega) (by omega)) (x_sb_s (i := x7.toInt) (by omega) (by omega) (by omega)) (by omega) g17 g18 g19 (by omega)
          · refine to_c (pc := 91) rw_153_91 (x := (1 : Int32)) rfl rfl (to_go (pc := 92) rw_153_92 (to_is (pc := 96) rw_153_96 (ls2 := [.ref 77, .int a, .int b, .int x3, .int x4, .int x5, .int (1 : Int32), .int x7]) rfl rfl (s_inc (pc := 98) rw_153_98 (ls2 := fun v => [.ref 77, .int a, .int b, .int x3, .int x4, .int x5, .int (1 : Int32), .int v]) rfl rfl (fun _ => rfl) (A := x7.toInt) (B := 1) rfl rfl (by omega) (fun v53 e54 => to_go (pc := 101) rw_153_101 ?_))))
            have k_55 : (1 : Int32).toInt = 1 := rfl
            exact ih.2.2 N x3 x4 x5 (1 : Int32) v53 hG F0 (by omega) (by omega) (by omega) (by omega) (by omega) (by omega) (by omega) (by omega) (by omega) (by omega) (by omega) (by omega) (by omega) (x_sa_s g14 (by omega) (by omega) (by omega) (by omega)) (x_sb_s (i := x7.toInt) (by omega) (by omega) (by omega)) (by omega) g17 g18 g19 (by omega)
set_option maxRecDepth 4000 in
set_option maxHeartbeats 0 in
theorem E_153 {X : mm_X} {d : Nat} {M : mm_M} {Q : Option Value → mm_M → Prop} {a : Int32} {b : Int32} {t : Nat → Int} {nn : Int} (hX : g_X X) (hd : 0 ≤ d) (hG : g_G M) (q1 : 0 ≤ a.toInt) (q2 : a.toInt ≤ 500) (q3 : 0 ≤ b.toInt) (q4 : b.toInt ≤ 500) (q5 : a.toInt ≤ b.toInt) (q6 : b.toInt ≤ nn) (q7 : nn ≤ 500) (q8 : TR M t nn) (q9 : W9 M) (h : ∀ (r : Int32) (M1 : mm_M), g_G M1 → FR md_0 M M1 → (-1 ≤ r.toInt) → (r.toInt ≤ 14) → ((r.toInt = -1 → ∀ k : Int, 0 ≤ k → k < 15 → ¬ x_m t a.toInt b.toInt k) ∧ (0 ≤ r.toInt → x_m t a.toInt b.toInt r.toInt)) → Q (some (.int r)) M1) : mm_T X d 152 0 [.ref 77, .int a, .int b, .null, .null, .null, .null, .null] [] M Q := by
  have F0 : FR md_0 M M := FR.rf
  refine to_c (pc := 0) rw_153_0 (x := (0 : Int32)) rfl rfl (to_isn (pc := 1) rw_153_1 (ls2 := [.ref 77, .int a, .int b, .int (0 : Int32), .null, .null, .null, .null]) rfl rfl (to_c (pc := 2) rw_153_2 (x := (0 : Int32)) rfl rfl (to_is (pc := 3) rw_153_3 (ls2 := [.ref 77, .int a, .int b, .int (0 : Int32), .int (0 : Int32), .null, .null, .null]) rfl rfl ?_)))
  have k_56 : (0 : Int32).toInt = 0 := rfl
  have z_57 : x_off (0 : Int32).toInt = 0 := rfl
  exact (U_153_0 (a := a) (b := b) (t := t) (nn := nn) hX hd q1 q2 q3 q4 q5 q6 q7 q8 q9 h (((15 - (0 : Int32).toInt) * 1000 + 900).toNat + 1)).1 M (0 : Int32) (0 : Int32) (.null) (.null) (.null) hG F0 (by omega) (by omega) (by omega) (by omega) (by omega) (by omega) (fun k h0 h1 => by exfalso; rw [show (0 : Int32).toInt = 0 from rfl] at h1; omega) q8 q9 (by omega)
set_option maxRecDepth 4000 in
set_option maxHeartbeats 0 in
theorem U_157_0 {X : mm_X} {d : Nat} {M : mm_M} {Q : Option Value → mm_M → Prop} {a : Int32} {b : Int32} {t : Nat → Int} {nn : Int} (hX : g_X X) (hd : 0 ≤ d) (q1 : 0 ≤ a.toInt) (q2 : a.toInt ≤ 500) (q3 : 0 ≤ b.toInt) (q4 : b.toInt ≤ 500) (q5 : b.toInt ≤ nn) (q6 : nn ≤ 500) (q7 : b.toInt - a.toInt ≤ 6) (q8 : TR M t nn) (q9 : ∀ i : Nat, i < (b.toInt - a.toInt).toNat → 97 ≤ t ((a.toInt).toNat + i) ∧ t ((a.toInt).toNat + i) ≤ 122) (h : ∀ (r : Int32) (M1 : mm_M), g_G M1 → FR md_0 M M1 → (r.toInt = x_pk t (a.toInt).toNat (b.toInt - a.toInt).toNat) → Q (some (.int r)) M1) : ∀ nn9 : Nat, (∀ (N : mm_M) (x3 : Int32) (x4 : Int32), g_G N → FR md_0 M N → (0 ≤ x4.toInt) → (x4.toInt ≤ 506) → (a.toInt ≤ x4.toInt) → (x4.toInt ≤ a.toInt + 6) → ((x3.toInt) = x_pr t (a.toInt).toNat (b.toInt - a.toInt).toNat (x4.toInt - a.toInt).toNat) → (TR N t nn) → a.toInt + 6 - x4.toInt < (nn9 : Int) → mm_T X d 156 5 [.ref 77, .int a, .int b, .int x3, .int x4] [] N Q) := by
  intro nn9
  induction nn9 with
  | zero =>
    intro N x3 x4 hG F0 g1 g2 g3 g4 g5 g6 hm
    exfalso; omega
  | succ nn9 ih =>
    intro N x3 x4 hG F0 g1 g2 g3 g4 g5 g6 hm
    refine to_i (pc := 5) rw_157_5 rfl (to_in (pc := 7) rw_157_7 rfl (to_c (pc := 8) rw_157_8 (x := (6 : Int32)) rfl rfl (s_add (pc := 10) rw_157_10 (A := a.toInt) (B := 6) rfl rfl (by omega) (fun v1 e2 => b_cge (pc := 11) rw_157_11 (A := x4.toInt) (B := v1.toInt) rfl rfl (fun h3 => ?_) (fun h3 => ?_)))))
    · refine to_in (pc := 45) rw_157_45 rfl (to_r0 (pc := 46) rw_157_46 ?_)
      have z_4 := x_pr_x g5 (by omega) (by omega)
      exact h x3 N hG F0 (by omega)
    · refine to_in (pc := 14) rw_157_14 rfl (to_c (pc := 15) rw_157_15 (x := (5 : Int32)) rfl rfl (s_opE (pc := 16) rw_157_16 (w := x3 <<< (5 : Int32)) rfl (fun v5 e6 => to_i (pc := 17) rw_157_17 rfl (to_in (pc := 19) rw_157_19 rfl (b_cge (pc := 20) rw_157_20 (A := x4.toInt) (B := b.toInt) rfl rfl (fun h7 => ?_) (fun h7 => ?_))))))
      · refine to_c (pc := 36) rw_157_36 (x := (0 : Int32)) rfl rfl (s_opE (pc := 37) rw_157_37 (w := v5 ||| (0 : Int32)) rfl (fun v8 e9 => to_isn (pc := 38) rw_157_38 (ls2 := [.ref 77, .int a, .int b, .int v8, .int x4]) rfl rfl (s_inc (pc := 39) rw_157_39 (ls2 := fun v => [.ref 77, .int a, .int b, .int v8, .int v]) rfl rfl (fun _ => rfl) (A := x4.toInt) (B := 1) rfl rfl (by omega) (fun v10 e11 => to_go (pc := 42) rw_157_42 ?_))))
        have k_12 : (0 : Int32).toInt = 0 := rfl
        exact ih N v8 v10 hG F0 (by omega) (by omega) (by omega) (by omega) (x_pr_e (by omega) (x4 := x4.toInt) (by omega) (by omega) q9 g5 (w := (0 : Int32)) (by omega) e6 e9 (by omega)) g6 (by omega)
      · refine to_an (pc := 23) rw_157_23 rfl (s_gR (pc := 24) rw_157_24 hG rfl (v := 78) rfl (to_i (pc := 27) rw_157_27 rfl (s_ial (pc := 29) rw_157_29 hG rfl (n := 500) rfl rfl (A := x4.toInt) rfl (by omega) (by omega) (lo := 0) (hi := 255) rfl rfl (fun v13 w_14 _ _ => ?_))))
        have z_15 := TR_u g6 (A := x4.toInt) (B := x4.toInt) (by omega) (by omega) w_14 (by omega)
        refine to_c (pc := 30) rw_157_30 (x := (96 : Int32)) rfl rfl (s_sub (pc := 32) rw_157_32 (A := v13.toInt) (B := 96) rfl rfl (by omega) (fun v16 e17 => to_go (pc := 33) rw_157_33 (s_opE (pc := 37) rw_157_37 (w := v5 ||| v16) rfl (fun v18 e19 => to_isn (pc := 38) rw_157_38 (ls2 := [.ref 77, .int a, .int b, .int v18, .int x4]) rfl rfl (s_inc (pc := 39) rw_157_39 (ls2 := fun v => [.ref 77, .int a, .int b, .int v18, .int v]) rfl rfl (fun _ => rfl) (A := x4.toInt) (B := 1) rfl rfl (by omega) (fun v20 e21 => to_go (pc := 42) rw_157_42 ?_))))))
        exact ih N v18 v20 hG F0 (by omega) (by omega) (by omega) (by omega) (x_pr_e (by omega) (x4 := x4.toInt) (by omega) (by omega) q9 g5 (w := v16) (by omega) e6 e19 (by omega)) g6 (by omega)
set_option maxRecDepth 4000 in
set_option maxHeartbeats 0 in
theorem E_157 {X : mm_X} {d : Nat} {M : mm_M} {Q : Option Value → mm_M → Prop} {a : Int32} {b : Int32} {t : Nat → Int} {nn : Int} (hX : g_X X) (hd : 0 ≤ d) (hG : g_G M) (q1 : 0 ≤ a.toInt) (q2 : a.toInt ≤ 500) (q3 : 0 ≤ b.toInt) (q4 : b.toInt ≤ 500) (q5 : b.toInt ≤ nn) (q6 : nn ≤ 500) (q7 : b.toInt - a.toInt ≤ 6) (q8 : TR M t nn) (q9 : ∀ i : Nat, i < (b.toInt - a.toInt).toNat → 97 ≤ t ((a.toInt).toNat + i) ∧ t ((a.toInt).toNat + i) ≤ 122) (h : ∀ (r : Int32) (M1 : mm_M), g_G M1 → FR md_0 M M1 → (r.toInt = x_pk t (a.toInt).toNat (b.toInt - a.toInt).toNat) → Q (some (.int r)) M1) : mm_T X d 156 0 [.ref 77, .int a, .int b, .null, .null] [] M Q := by
  have F0 : FR md_0 M M := FR.rf
  refine to_c (pc := 0) rw_157_0 (x := (0 : Int32)) rfl rfl (to_isn (pc := 1) rw_157_1 (ls2 := [.ref 77, .int a, .int b, .int (0 : Int32), .null]) rfl rfl (to_in (pc := 2) rw_157_2 rfl (to_is (pc := 3) rw_157_3 (ls2 := [.ref 77, .int a, .int b, .int (0 : Int32), .int a]) rfl rfl ?_)))
  have k_22 : (0 : Int32).toInt = 0 := rfl
  exact (U_157_0 (a := a) (b := b) (t := t) (nn := nn) hX hd q1 q2 q3 q4 q5 q6 q7 q8 q9 h ((a.toInt + 6 - a.toInt).toNat + 1)) M (0 : Int32) a hG F0 (by omega) (by omega) (by omega) (by omega) (by rw [show (a.toInt - a.toInt).toNat = 0 by omega]; rfl) q8 (by omega)
end
