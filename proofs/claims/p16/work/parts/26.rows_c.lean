theorem rw_153_44 : mm_code 152 44 = some (.if_icmp .ne 7, 3, 51, 0, []) := rfl
theorem rw_153_47 : mm_code 152 47 = some (.iconst 1, 1, 1, 0, []) := rfl
theorem rw_153_48 : mm_code 152 48 = some (.goto 4, 3, 52, 0, []) := rfl
theorem rw_153_51 : mm_code 152 51 = some (.iconst 0, 1, 0, 0, []) := rfl
theorem rw_153_52 : mm_code 152 52 = some (.istore 6, 2, 0, 0, []) := rfl
theorem rw_153_54 : mm_code 152 54 = some (.iconst 0, 1, 0, 0, []) := rfl
theorem rw_153_55 : mm_code 152 55 = some (.istore 7, 2, 0, 0, []) := rfl
theorem rw_153_57 : mm_code 152 57 = some (.iload 7, 2, 0, 0, []) := rfl
theorem rw_153_59 : mm_code 152 59 = some (.iload 5, 2, 0, 0, []) := rfl
theorem rw_153_61 : mm_code 152 61 = some (.if_icmp .ge 43, 3, 104, 0, []) := rfl
theorem rw_153_64 : mm_code 152 64 = some (.iload 6, 2, 0, 0, []) := rfl
theorem rw_153_66 : mm_code 152 66 = some (.ifCond .eq 38, 3, 104, 0, []) := rfl
theorem rw_153_69 : mm_code 152 69 = some (.aload_n 0, 1, 0, 0, []) := rfl
theorem rw_153_70 : mm_code 152 70 = some (.getfield 13, 3, 11, 3, [3, 2]) := rfl
theorem rw_153_73 : mm_code 152 73 = some (.iload 4, 2, 0, 0, []) := rfl
theorem rw_153_75 : mm_code 152 75 = some (.iload 7, 2, 0, 0, []) := rfl
theorem rw_153_77 : mm_code 152 77 = some (.iadd, 1, 0, 0, []) := rfl
theorem rw_153_78 : mm_code 152 78 = some (.iaload, 1, 0, 0, []) := rfl
theorem rw_153_79 : mm_code 152 79 = some (.aload_n 0, 1, 0, 0, []) := rfl
theorem rw_153_80 : mm_code 152 80 = some (.getfield 7, 3, 11, 0, [3, 1]) := rfl
theorem rw_153_83 : mm_code 152 83 = some (.iload_n 1, 1, 0, 0, []) := rfl
theorem rw_153_84 : mm_code 152 84 = some (.iload 7, 2, 0, 0, []) := rfl
theorem rw_153_86 : mm_code 152 86 = some (.iadd, 1, 0, 0, []) := rfl
theorem rw_153_87 : mm_code 152 87 = some (.iaload, 1, 0, 0, []) := rfl
theorem rw_153_88 : mm_code 152 88 = some (.if_icmp .ne 7, 3, 95, 0, []) := rfl
theorem rw_153_91 : mm_code 152 91 = some (.iconst 1, 1, 1, 0, []) := rfl
theorem rw_153_92 : mm_code 152 92 = some (.goto 4, 3, 96, 0, []) := rfl
theorem rw_153_95 : mm_code 152 95 = some (.iconst 0, 1, 0, 0, []) := rfl
theorem rw_153_96 : mm_code 152 96 = some (.istore 6, 2, 0, 0, []) := rfl
theorem rw_153_98 : mm_code 152 98 = some (.iinc 7 1, 3, 1, 0, []) := rfl
theorem rw_153_101 : mm_code 152 101 = some (.goto (-44), 3, 57, 0, []) := rfl
theorem rw_153_104 : mm_code 152 104 = some (.iload 6, 2, 0, 0, []) := rfl
theorem rw_153_106 : mm_code 152 106 = some (.ifCond .eq 5, 3, 111, 0, []) := rfl
theorem rw_153_109 : mm_code 152 109 = some (.iload_n 3, 1, 0, 0, []) := rfl
theorem rw_153_110 : mm_code 152 110 = some (.ireturn, 1, 0, 0, []) := rfl
theorem rw_153_111 : mm_code 152 111 = some (.iload 4, 2, 0, 0, []) := rfl
theorem rw_153_113 : mm_code 152 113 = some (.iload 5, 2, 0, 0, []) := rfl
theorem rw_153_115 : mm_code 152 115 = some (.iconst 1, 1, 1, 0, []) := rfl
theorem rw_153_116 : mm_code 152 116 = some (.iadd, 1, 0, 0, []) := rfl
theorem rw_153_117 : mm_code 152 117 = some (.iadd, 1, 0, 0, []) := rfl
theorem rw_153_118 : mm_code 152 118 = some (.istore 4, 2, 0, 0, []) := rfl
theorem rw_153_120 : mm_code 152 120 = some (.iinc 3 1, 3, 1, 0, []) := rfl
theorem rw_153_123 : mm_code 152 123 = some (.goto (-118), 3, 5, 0, []) := rfl
theorem rw_153_126 : mm_code 152 126 = some (.iconst (-1), 1, 1, 1, []) := rfl
theorem rw_153_127 : mm_code 152 127 = some (.ireturn, 1, 0, 0, []) := rfl
theorem rw_154_0 : mm_code 153 0 = some (.iload_n 1, 1, 0, 0, []) := rfl
theorem rw_154_1 : mm_code 153 1 = some (.aload_n 0, 1, 0, 0, []) := rfl
theorem rw_154_2 : mm_code 153 2 = some (.getfield 179, 3, 11, 6, [0, 56]) := rfl
theorem rw_154_5 : mm_code 153 5 = some (.if_icmp .ge 29, 3, 34, 0, []) := rfl
theorem rw_154_8 : mm_code 153 8 = some (.aload_n 0, 1, 0, 0, []) := rfl
theorem rw_154_9 : mm_code 153 9 = some (.getfield 7, 3, 11, 0, [3, 1]) := rfl
theorem rw_154_12 : mm_code 153 12 = some (.iload_n 1, 1, 0, 0, []) := rfl
theorem rw_154_13 : mm_code 153 13 = some (.iaload, 1, 0, 0, []) := rfl
theorem rw_154_14 : mm_code 153 14 = some (.bipush 97, 2, 97, 0, []) := rfl
theorem rw_154_16 : mm_code 153 16 = some (.if_icmp .lt 18, 3, 34, 0, []) := rfl
theorem rw_154_19 : mm_code 153 19 = some (.aload_n 0, 1, 0, 0, []) := rfl
theorem rw_154_20 : mm_code 153 20 = some (.getfield 7, 3, 11, 0, [3, 1]) := rfl
theorem rw_154_23 : mm_code 153 23 = some (.iload_n 1, 1, 0, 0, []) := rfl
theorem rw_154_24 : mm_code 153 24 = some (.iaload, 1, 0, 0, []) := rfl
theorem rw_154_25 : mm_code 153 25 = some (.bipush 122, 2, 122, 0, []) := rfl
theorem rw_154_27 : mm_code 153 27 = some (.if_icmp .gt 7, 3, 34, 0, []) := rfl
theorem rw_154_30 : mm_code 153 30 = some (.iconst 1, 1, 1, 0, []) := rfl
theorem rw_154_31 : mm_code 153 31 = some (.goto 4, 3, 35, 0, []) := rfl
theorem rw_154_34 : mm_code 153 34 = some (.iconst 0, 1, 0, 0, []) := rfl
theorem rw_154_35 : mm_code 153 35 = some (.ireturn, 1, 1, 0, []) := rfl
theorem rw_155_0 : mm_code 154 0 = some (.iload_n 1, 1, 0, 0, []) := rfl
theorem rw_155_1 : mm_code 154 1 = some (.aload_n 0, 1, 0, 0, []) := rfl
theorem rw_155_2 : mm_code 154 2 = some (.getfield 179, 3, 11, 6, [0, 56]) := rfl
theorem rw_155_5 : mm_code 154 5 = some (.if_icmp .ge 29, 3, 34, 0, []) := rfl
theorem rw_155_8 : mm_code 154 8 = some (.aload_n 0, 1, 0, 0, []) := rfl
theorem rw_155_9 : mm_code 154 9 = some (.getfield 7, 3, 11, 0, [3, 1]) := rfl
theorem rw_155_12 : mm_code 154 12 = some (.iload_n 1, 1, 0, 0, []) := rfl
theorem rw_155_13 : mm_code 154 13 = some (.iaload, 1, 0, 0, []) := rfl
theorem rw_155_14 : mm_code 154 14 = some (.bipush 48, 2, 48, 0, []) := rfl
theorem rw_155_16 : mm_code 154 16 = some (.if_icmp .lt 18, 3, 34, 0, []) := rfl
theorem rw_155_19 : mm_code 154 19 = some (.aload_n 0, 1, 0, 0, []) := rfl
theorem rw_155_20 : mm_code 154 20 = some (.getfield 7, 3, 11, 0, [3, 1]) := rfl
theorem rw_155_23 : mm_code 154 23 = some (.iload_n 1, 1, 0, 0, []) := rfl
theorem rw_155_24 : mm_code 154 24 = some (.iaload, 1, 0, 0, []) := rfl
theorem rw_155_25 : mm_code 154 25 = some (.bipush 57, 2, 57, 0, []) := rfl
theorem rw_155_27 : mm_code 154 27 = some (.if_icmp .gt 7, 3, 34, 0, []) := rfl
theorem rw_155_30 : mm_code 154 30 = some (.iconst 1, 1, 1, 0, []) := rfl
theorem rw_155_31 : mm_code 154 31 = some (.goto 4, 3, 35, 0, []) := rfl
theorem rw_155_34 : mm_code 154 34 = some (.iconst 0, 1, 0, 0, []) := rfl
theorem rw_155_35 : mm_code 154 35 = some (.ireturn, 1, 1, 0, []) := rfl
theorem rw_156_0 : mm_code 155 0 = some (.aload_n 0, 1, 0, 0, []) := rfl
theorem rw_156_1 : mm_code 155 1 = some (.getfield 182, 3, 11, 7, [0, 57]) := rfl
theorem rw_156_4 : mm_code 155 4 = some (.aload_n 0, 1, 0, 0, []) := rfl
theorem rw_156_5 : mm_code 155 5 = some (.getfield 179, 3, 11, 6, [0, 56]) := rfl
theorem rw_156_8 : mm_code 155 8 = some (.if_icmp .ge 44, 3, 52, 0, []) := rfl
theorem rw_156_11 : mm_code 155 11 = some (.aload_n 0, 1, 0, 0, []) := rfl
theorem rw_156_12 : mm_code 155 12 = some (.getfield 7, 3, 11, 0, [3, 1]) := rfl
theorem rw_156_15 : mm_code 155 15 = some (.aload_n 0, 1, 0, 0, []) := rfl
theorem rw_156_16 : mm_code 155 16 = some (.getfield 182, 3, 11, 7, [0, 57]) := rfl
theorem rw_156_19 : mm_code 155 19 = some (.iaload, 1, 0, 0, []) := rfl
theorem rw_156_20 : mm_code 155 20 = some (.bipush 10, 2, 10, 0, []) := rfl
theorem rw_156_22 : mm_code 155 22 = some (.if_icmp .eq 17, 3, 39, 0, []) := rfl
theorem rw_156_25 : mm_code 155 25 = some (.aload_n 0, 1, 0, 0, []) := rfl
theorem rw_156_26 : mm_code 155 26 = some (.getfield 7, 3, 11, 0, [3, 1]) := rfl
theorem rw_156_29 : mm_code 155 29 = some (.aload_n 0, 1, 0, 0, []) := rfl
theorem rw_156_30 : mm_code 155 30 = some (.getfield 182, 3, 11, 7, [0, 57]) := rfl
theorem rw_156_33 : mm_code 155 33 = some (.iaload, 1, 0, 0, []) := rfl
theorem rw_156_34 : mm_code 155 34 = some (.bipush 32, 2, 32, 0, []) := rfl
theorem rw_156_36 : mm_code 155 36 = some (.if_icmp .ne 16, 3, 52, 0, []) := rfl
theorem rw_156_39 : mm_code 155 39 = some (.aload_n 0, 1, 0, 0, []) := rfl
theorem rw_156_40 : mm_code 155 40 = some (.dup, 1, 0, 0, []) := rfl
theorem rw_156_41 : mm_code 155 41 = some (.getfield 182, 3, 11, 7, [0, 57]) := rfl
theorem rw_156_44 : mm_code 155 44 = some (.iconst 1, 1, 1, 0, []) := rfl
theorem rw_156_45 : mm_code 155 45 = some (.iadd, 1, 0, 0, []) := rfl
theorem rw_156_46 : mm_code 155 46 = some (.putfield 182, 3, 11, 7, [0, 57]) := rfl
theorem rw_156_49 : mm_code 155 49 = some (.goto (-49), 3, 0, 0, []) := rfl
theorem rw_156_52 : mm_code 155 52 = some (.aload_n 0, 1, 0, 0, []) := rfl
theorem rw_156_53 : mm_code 155 53 = some (.aload_n 0, 1, 0, 0, []) := rfl
theorem rw_156_54 : mm_code 155 54 = some (.getfield 182, 3, 11, 7, [0, 57]) := rfl
theorem rw_156_57 : mm_code 155 57 = some (.putfield 176, 3, 11, 10, [0, 55]) := rfl
theorem rw_156_60 : mm_code 155 60 = some (.aload_n 0, 1, 0, 0, []) := rfl
theorem rw_156_61 : mm_code 155 61 = some (.getfield 182, 3, 11, 7, [0, 57]) := rfl
theorem rw_156_64 : mm_code 155 64 = some (.aload_n 0, 1, 0, 0, []) := rfl
theorem rw_156_65 : mm_code 155 65 = some (.getfield 179, 3, 11, 6, [0, 56]) := rfl
theorem rw_156_68 : mm_code 155 68 = some (.if_icmp .ne 11, 3, 79, 0, []) := rfl
theorem rw_156_71 : mm_code 155 71 = some (.aload_n 0, 1, 0, 0, []) := rfl
theorem rw_156_72 : mm_code 155 72 = some (.iconst 0, 1, 0, 0, []) := rfl
theorem rw_156_73 : mm_code 155 73 = some (.putfield 185, 3, 11, 8, [0, 58]) := rfl
theorem rw_156_76 : mm_code 155 76 = some (.goto 268, 3, 344, 0, []) := rfl
theorem rw_156_79 : mm_code 155 79 = some (.aload_n 0, 1, 0, 0, []) := rfl
theorem rw_156_80 : mm_code 155 80 = some (.aload_n 0, 1, 0, 0, []) := rfl
theorem rw_156_81 : mm_code 155 81 = some (.getfield 182, 3, 11, 7, [0, 57]) := rfl
theorem rw_156_84 : mm_code 155 84 = some (.invokevirtual 188, 3, 153, 2, [59, 0]) := rfl
theorem rw_156_87 : mm_code 155 87 = some (.ifCond .eq 104, 3, 191, 0, []) := rfl
theorem rw_156_90 : mm_code 155 90 = some (.aload_n 0, 1, 0, 0, []) := rfl
theorem rw_156_91 : mm_code 155 91 = some (.aload_n 0, 1, 0, 0, []) := rfl
theorem rw_156_92 : mm_code 155 92 = some (.getfield 182, 3, 11, 7, [0, 57]) := rfl
theorem rw_156_95 : mm_code 155 95 = some (.invokevirtual 188, 3, 153, 2, [59, 0]) := rfl
theorem rw_156_98 : mm_code 155 98 = some (.ifCond .eq 16, 3, 114, 0, []) := rfl
theorem rw_156_101 : mm_code 155 101 = some (.aload_n 0, 1, 0, 0, []) := rfl
theorem rw_156_102 : mm_code 155 102 = some (.dup, 1, 0, 0, []) := rfl
theorem rw_156_103 : mm_code 155 103 = some (.getfield 182, 3, 11, 7, [0, 57]) := rfl
theorem rw_156_106 : mm_code 155 106 = some (.iconst 1, 1, 1, 0, []) := rfl
theorem rw_156_107 : mm_code 155 107 = some (.iadd, 1, 0, 0, []) := rfl
theorem rw_156_108 : mm_code 155 108 = some (.putfield 182, 3, 11, 7, [0, 57]) := rfl
theorem rw_156_111 : mm_code 155 111 = some (.goto (-21), 3, 90, 0, []) := rfl
theorem rw_156_114 : mm_code 155 114 = some (.aload_n 0, 1, 0, 0, []) := rfl
theorem rw_156_115 : mm_code 155 115 = some (.aload_n 0, 1, 0, 0, []) := rfl
theorem rw_156_116 : mm_code 155 116 = some (.aload_n 0, 1, 0, 0, []) := rfl
theorem rw_156_117 : mm_code 155 117 = some (.getfield 176, 3, 11, 10, [0, 55]) := rfl
theorem rw_156_120 : mm_code 155 120 = some (.aload_n 0, 1, 0, 0, []) := rfl
theorem rw_156_121 : mm_code 155 121 = some (.getfield 182, 3, 11, 7, [0, 57]) := rfl
theorem rw_156_124 : mm_code 155 124 = some (.invokevirtual 192, 3, 152, 3, [60, 0]) := rfl
theorem rw_156_127 : mm_code 155 127 = some (.putfield 196, 3, 11, 9, [0, 61]) := rfl
theorem rw_156_130 : mm_code 155 130 = some (.aload_n 0, 1, 0, 0, []) := rfl
theorem rw_156_131 : mm_code 155 131 = some (.aload_n 0, 1, 0, 0, []) := rfl
theorem rw_156_132 : mm_code 155 132 = some (.getfield 196, 3, 11, 9, [0, 61]) := rfl
theorem rw_156_135 : mm_code 155 135 = some (.ifCond .lt 7, 3, 142, 0, []) := rfl
theorem rw_156_138 : mm_code 155 138 = some (.iconst 1, 1, 1, 0, []) := rfl
theorem rw_156_139 : mm_code 155 139 = some (.goto 22, 3, 161, 0, []) := rfl
theorem rw_156_142 : mm_code 155 142 = some (.aload_n 0, 1, 0, 0, []) := rfl
theorem rw_156_143 : mm_code 155 143 = some (.getfield 182, 3, 11, 7, [0, 57]) := rfl
theorem rw_156_146 : mm_code 155 146 = some (.aload_n 0, 1, 0, 0, []) := rfl
theorem rw_156_147 : mm_code 155 147 = some (.getfield 176, 3, 11, 10, [0, 55]) := rfl
theorem rw_156_150 : mm_code 155 150 = some (.isub, 1, 0, 0, []) := rfl
theorem rw_156_151 : mm_code 155 151 = some (.bipush 6, 2, 6, 0, []) := rfl
theorem rw_156_153 : mm_code 155 153 = some (.if_icmp .le 7, 3, 160, 0, []) := rfl
theorem rw_156_156 : mm_code 155 156 = some (.iconst 5, 1, 5, 0, []) := rfl
theorem rw_156_157 : mm_code 155 157 = some (.goto 4, 3, 161, 0, []) := rfl
theorem rw_156_160 : mm_code 155 160 = some (.iconst 2, 1, 2, 0, []) := rfl
theorem rw_156_161 : mm_code 155 161 = some (.putfield 185, 3, 11, 8, [0, 58]) := rfl
theorem rw_156_164 : mm_code 155 164 = some (.aload_n 0, 1, 0, 0, []) := rfl
theorem rw_156_165 : mm_code 155 165 = some (.getfield 185, 3, 11, 8, [0, 58]) := rfl
theorem rw_156_168 : mm_code 155 168 = some (.iconst 2, 1, 2, 0, []) := rfl
theorem rw_156_169 : mm_code 155 169 = some (.if_icmp .ne 175, 3, 344, 0, []) := rfl
theorem rw_156_172 : mm_code 155 172 = some (.aload_n 0, 1, 0, 0, []) := rfl
theorem rw_156_173 : mm_code 155 173 = some (.aload_n 0, 1, 0, 0, []) := rfl
theorem rw_156_174 : mm_code 155 174 = some (.aload_n 0, 1, 0, 0, []) := rfl
theorem rw_156_175 : mm_code 155 175 = some (.getfield 176, 3, 11, 10, [0, 55]) := rfl
theorem rw_156_178 : mm_code 155 178 = some (.aload_n 0, 1, 0, 0, []) := rfl
theorem rw_156_179 : mm_code 155 179 = some (.getfield 182, 3, 11, 7, [0, 57]) := rfl
theorem rw_156_182 : mm_code 155 182 = some (.invokevirtual 199, 3, 156, 3, [62, 0]) := rfl
theorem rw_156_185 : mm_code 155 185 = some (.putfield 196, 3, 11, 9, [0, 61]) := rfl
theorem rw_156_188 : mm_code 155 188 = some (.goto 156, 3, 344, 0, []) := rfl
theorem rw_156_191 : mm_code 155 191 = some (.aload_n 0, 1, 0, 0, []) := rfl
theorem rw_156_192 : mm_code 155 192 = some (.aload_n 0, 1, 0, 0, []) := rfl
theorem rw_156_193 : mm_code 155 193 = some (.getfield 182, 3, 11, 7, [0, 57]) := rfl
theorem rw_156_196 : mm_code 155 196 = some (.invokevirtual 202, 3, 154, 2, [63, 0]) := rfl
theorem rw_156_199 : mm_code 155 199 = some (.ifCond .eq 77, 3, 276, 0, []) := rfl
theorem rw_156_202 : mm_code 155 202 = some (.aload_n 0, 1, 0, 0, []) := rfl
theorem rw_156_203 : mm_code 155 203 = some (.iconst 3, 1, 3, 0, []) := rfl
theorem rw_156_204 : mm_code 155 204 = some (.putfield 185, 3, 11, 8, [0, 58]) := rfl
theorem rw_156_207 : mm_code 155 207 = some (.aload_n 0, 1, 0, 0, []) := rfl
theorem rw_156_208 : mm_code 155 208 = some (.iconst 0, 1, 0, 0, []) := rfl
theorem rw_156_209 : mm_code 155 209 = some (.putfield 196, 3, 11, 9, [0, 61]) := rfl
theorem rw_156_212 : mm_code 155 212 = some (.aload_n 0, 1, 0, 0, []) := rfl
theorem rw_156_213 : mm_code 155 213 = some (.aload_n 0, 1, 0, 0, []) := rfl
theorem rw_156_214 : mm_code 155 214 = some (.getfield 182, 3, 11, 7, [0, 57]) := rfl
theorem rw_156_217 : mm_code 155 217 = some (.invokevirtual 202, 3, 154, 2, [63, 0]) := rfl
theorem rw_156_220 : mm_code 155 220 = some (.ifCond .eq 124, 3, 344, 0, []) := rfl
theorem rw_156_223 : mm_code 155 223 = some (.aload_n 0, 1, 0, 0, []) := rfl
theorem rw_156_224 : mm_code 155 224 = some (.aload_n 0, 1, 0, 0, []) := rfl
theorem rw_156_225 : mm_code 155 225 = some (.getfield 196, 3, 11, 9, [0, 61]) := rfl
theorem rw_156_228 : mm_code 155 228 = some (.bipush 99, 2, 99, 0, []) := rfl
theorem rw_156_230 : mm_code 155 230 = some (.if_icmp .le 10, 3, 240, 0, []) := rfl
theorem rw_156_233 : mm_code 155 233 = some (.aload_n 0, 1, 0, 0, []) := rfl
theorem rw_156_234 : mm_code 155 234 = some (.getfield 196, 3, 11, 9, [0, 61]) := rfl
theorem rw_156_237 : mm_code 155 237 = some (.goto 23, 3, 260, 0, []) := rfl
theorem rw_156_240 : mm_code 155 240 = some (.bipush 10, 2, 10, 0, []) := rfl
theorem rw_156_242 : mm_code 155 242 = some (.aload_n 0, 1, 0, 0, []) := rfl
theorem rw_156_243 : mm_code 155 243 = some (.getfield 196, 3, 11, 9, [0, 61]) := rfl
theorem rw_156_246 : mm_code 155 246 = some (.imul, 1, 0, 0, []) := rfl
theorem rw_156_247 : mm_code 155 247 = some (.aload_n 0, 1, 0, 0, []) := rfl
theorem rw_156_248 : mm_code 155 248 = some (.getfield 7, 3, 11, 0, [3, 1]) := rfl
theorem rw_156_251 : mm_code 155 251 = some (.aload_n 0, 1, 0, 0, []) := rfl
theorem rw_156_252 : mm_code 155 252 = some (.getfield 182, 3, 11, 7, [0, 57]) := rfl
theorem rw_156_255 : mm_code 155 255 = some (.iaload, 1, 0, 0, []) := rfl
theorem rw_156_256 : mm_code 155 256 = some (.iadd, 1, 0, 0, []) := rfl
theorem rw_156_257 : mm_code 155 257 = some (.bipush 48, 2, 48, 0, []) := rfl
theorem rw_156_259 : mm_code 155 259 = some (.isub, 1, 0, 0, []) := rfl
theorem rw_156_260 : mm_code 155 260 = some (.putfield 196, 3, 11, 9, [0, 61]) := rfl
theorem rw_156_263 : mm_code 155 263 = some (.aload_n 0, 1, 0, 0, []) := rfl
theorem rw_156_264 : mm_code 155 264 = some (.dup, 1, 0, 0, []) := rfl
theorem rw_156_265 : mm_code 155 265 = some (.getfield 182, 3, 11, 7, [0, 57]) := rfl
theorem rw_156_268 : mm_code 155 268 = some (.iconst 1, 1, 1, 0, []) := rfl
theorem rw_156_269 : mm_code 155 269 = some (.iadd, 1, 0, 0, []) := rfl
theorem rw_156_270 : mm_code 155 270 = some (.putfield 182, 3, 11, 7, [0, 57]) := rfl
theorem rw_156_273 : mm_code 155 273 = some (.goto (-61), 3, 212, 0, []) := rfl
theorem rw_156_276 : mm_code 155 276 = some (.aload_n 0, 1, 0, 0, []) := rfl
theorem rw_156_277 : mm_code 155 277 = some (.aload_n 0, 1, 0, 0, []) := rfl
theorem rw_156_278 : mm_code 155 278 = some (.getfield 7, 3, 11, 0, [3, 1]) := rfl
theorem rw_156_281 : mm_code 155 281 = some (.aload_n 0, 1, 0, 0, []) := rfl
theorem rw_156_282 : mm_code 155 282 = some (.getfield 182, 3, 11, 7, [0, 57]) := rfl
theorem rw_156_285 : mm_code 155 285 = some (.iaload, 1, 0, 0, []) := rfl
theorem rw_156_286 : mm_code 155 286 = some (.putfield 196, 3, 11, 9, [0, 61]) := rfl
theorem rw_156_289 : mm_code 155 289 = some (.aload_n 0, 1, 0, 0, []) := rfl
theorem rw_156_290 : mm_code 155 290 = some (.aload_n 0, 1, 0, 0, []) := rfl
theorem rw_156_291 : mm_code 155 291 = some (.getfield 196, 3, 11, 9, [0, 61]) := rfl
theorem rw_156_294 : mm_code 155 294 = some (.bipush 59, 2, 59, 0, []) := rfl
theorem rw_156_296 : mm_code 155 296 = some (.if_icmp .eq 30, 3, 326, 0, []) := rfl
theorem rw_156_299 : mm_code 155 299 = some (.aload_n 0, 1, 0, 0, []) := rfl
theorem rw_156_300 : mm_code 155 300 = some (.getfield 196, 3, 11, 9, [0, 61]) := rfl
theorem rw_156_303 : mm_code 155 303 = some (.bipush 40, 2, 40, 0, []) := rfl
theorem rw_156_305 : mm_code 155 305 = some (.if_icmp .eq 21, 3, 326, 0, []) := rfl
theorem rw_156_308 : mm_code 155 308 = some (.aload_n 0, 1, 0, 0, []) := rfl
theorem rw_156_309 : mm_code 155 309 = some (.getfield 196, 3, 11, 9, [0, 61]) := rfl
theorem rw_156_312 : mm_code 155 312 = some (.bipush 41, 2, 41, 0, []) := rfl
theorem rw_156_314 : mm_code 155 314 = some (.if_icmp .eq 12, 3, 326, 0, []) := rfl
theorem rw_156_317 : mm_code 155 317 = some (.aload_n 0, 1, 0, 0, []) := rfl
theorem rw_156_318 : mm_code 155 318 = some (.getfield 196, 3, 11, 9, [0, 61]) := rfl
theorem rw_156_321 : mm_code 155 321 = some (.bipush 61, 2, 61, 0, []) := rfl
theorem rw_156_323 : mm_code 155 323 = some (.if_icmp .ne 7, 3, 330, 0, []) := rfl
theorem rw_156_326 : mm_code 155 326 = some (.iconst 4, 1, 4, 0, []) := rfl
theorem rw_156_327 : mm_code 155 327 = some (.goto 4, 3, 331, 0, []) := rfl
theorem rw_156_330 : mm_code 155 330 = some (.iconst 5, 1, 5, 0, []) := rfl
theorem rw_156_331 : mm_code 155 331 = some (.putfield 185, 3, 11, 8, [0, 58]) := rfl
theorem rw_156_334 : mm_code 155 334 = some (.aload_n 0, 1, 0, 0, []) := rfl
theorem rw_156_335 : mm_code 155 335 = some (.dup, 1, 0, 0, []) := rfl
theorem rw_156_336 : mm_code 155 336 = some (.getfield 182, 3, 11, 7, [0, 57]) := rfl
theorem rw_156_339 : mm_code 155 339 = some (.iconst 1, 1, 1, 0, []) := rfl
theorem rw_156_340 : mm_code 155 340 = some (.iadd, 1, 0, 0, []) := rfl
theorem rw_156_341 : mm_code 155 341 = some (.putfield 182, 3, 11, 7, [0, 57]) := rfl
theorem rw_156_344 : mm_code 155 344 = some (.return_, 1, 0, 0, []) := rfl
theorem rw_157_0 : mm_code 156 0 = some (.iconst 0, 1, 0, 0, []) := rfl
theorem rw_157_1 : mm_code 156 1 = some (.istore_n 3, 1, 0, 0, []) := rfl
theorem rw_157_2 : mm_code 156 2 = some (.iload_n 1, 1, 0, 0, []) := rfl
theorem rw_157_3 : mm_code 156 3 = some (.istore 4, 2, 0, 0, []) := rfl
theorem rw_157_5 : mm_code 156 5 = some (.iload 4, 2, 0, 0, []) := rfl
theorem rw_157_7 : mm_code 156 7 = some (.iload_n 1, 1, 0, 0, []) := rfl
theorem rw_157_8 : mm_code 156 8 = some (.bipush 6, 2, 6, 0, []) := rfl
theorem rw_157_10 : mm_code 156 10 = some (.iadd, 1, 0, 0, []) := rfl
theorem rw_157_11 : mm_code 156 11 = some (.if_icmp .ge 34, 3, 45, 0, []) := rfl
theorem rw_157_14 : mm_code 156 14 = some (.iload_n 3, 1, 0, 0, []) := rfl
theorem rw_157_15 : mm_code 156 15 = some (.iconst 5, 1, 5, 0, []) := rfl
theorem rw_157_16 : mm_code 156 16 = some (.ishl, 1, 0, 0, []) := rfl
theorem rw_157_17 : mm_code 156 17 = some (.iload 4, 2, 0, 0, []) := rfl
theorem rw_157_19 : mm_code 156 19 = some (.iload_n 2, 1, 0, 0, []) := rfl
theorem rw_157_20 : mm_code 156 20 = some (.if_icmp .ge 16, 3, 36, 0, []) := rfl
theorem rw_157_23 : mm_code 156 23 = some (.aload_n 0, 1, 0, 0, []) := rfl
theorem rw_157_24 : mm_code 156 24 = some (.getfield 7, 3, 11, 0, [3, 1]) := rfl
theorem rw_157_27 : mm_code 156 27 = some (.iload 4, 2, 0, 0, []) := rfl
theorem rw_157_29 : mm_code 156 29 = some (.iaload, 1, 0, 0, []) := rfl
theorem rw_157_30 : mm_code 156 30 = some (.bipush 96, 2, 96, 0, []) := rfl
theorem rw_157_32 : mm_code 156 32 = some (.isub, 1, 0, 0, []) := rfl
theorem rw_157_33 : mm_code 156 33 = some (.goto 4, 3, 37, 0, []) := rfl
theorem rw_157_36 : mm_code 156 36 = some (.iconst 0, 1, 0, 0, []) := rfl
theorem rw_157_37 : mm_code 156 37 = some (.ior, 1, 0, 0, []) := rfl
theorem rw_157_38 : mm_code 156 38 = some (.istore_n 3, 1, 0, 0, []) := rfl
theorem rw_157_39 : mm_code 156 39 = some (.iinc 4 1, 3, 1, 0, []) := rfl
theorem rw_157_42 : mm_code 156 42 = some (.goto (-37), 3, 5, 0, []) := rfl
theorem rw_157_45 : mm_code 156 45 = some (.iload_n 3, 1, 0, 0, []) := rfl
theorem rw_157_46 : mm_code 156 46 = some (.ireturn, 1, 0, 0, []) := rfl
theorem rw_158_0 : mm_code 157 0 = some (.aload_n 0, 1, 0, 0, []) := rfl
theorem rw_158_1 : mm_code 157 1 = some (.getfield 185, 3, 11, 8, [0, 58]) := rfl
theorem rw_158_4 : mm_code 157 4 = some (.iconst 1, 1, 1, 0, []) := rfl
theorem rw_158_5 : mm_code 157 5 = some (.if_icmp .ne 15, 3, 20, 0, []) := rfl
theorem rw_158_8 : mm_code 157 8 = some (.aload_n 0, 1, 0, 0, []) := rfl
theorem rw_158_9 : mm_code 157 9 = some (.getfield 196, 3, 11, 9, [0, 61]) := rfl
theorem rw_158_12 : mm_code 157 12 = some (.iload_n 1, 1, 0, 0, []) := rfl
theorem rw_158_13 : mm_code 157 13 = some (.if_icmp .ne 7, 3, 20, 0, []) := rfl
theorem rw_158_16 : mm_code 157 16 = some (.iconst 1, 1, 1, 0, []) := rfl
theorem rw_158_17 : mm_code 157 17 = some (.goto 4, 3, 21, 0, []) := rfl
theorem rw_158_20 : mm_code 157 20 = some (.iconst 0, 1, 0, 0, []) := rfl
theorem rw_158_21 : mm_code 157 21 = some (.ireturn, 1, 1, 0, []) := rfl
theorem rw_159_0 : mm_code 158 0 = some (.aload_n 0, 1, 0, 0, []) := rfl
theorem rw_159_1 : mm_code 158 1 = some (.getfield 185, 3, 11, 8, [0, 58]) := rfl
theorem rw_159_4 : mm_code 158 4 = some (.iconst 4, 1, 4, 0, []) := rfl
theorem rw_159_5 : mm_code 158 5 = some (.if_icmp .ne 15, 3, 20, 0, []) := rfl
theorem rw_159_8 : mm_code 158 8 = some (.aload_n 0, 1, 0, 0, []) := rfl
theorem rw_159_9 : mm_code 158 9 = some (.getfield 196, 3, 11, 9, [0, 61]) := rfl
theorem rw_159_12 : mm_code 158 12 = some (.iload_n 1, 1, 0, 0, []) := rfl
theorem rw_159_13 : mm_code 158 13 = some (.if_icmp .ne 7, 3, 20, 0, []) := rfl
theorem rw_159_16 : mm_code 158 16 = some (.iconst 1, 1, 1, 0, []) := rfl
theorem rw_159_17 : mm_code 158 17 = some (.goto 4, 3, 21, 0, []) := rfl
theorem rw_159_20 : mm_code 158 20 = some (.iconst 0, 1, 0, 0, []) := rfl
theorem rw_159_21 : mm_code 158 21 = some (.ireturn, 1, 1, 0, []) := rfl
theorem rw_160_0 : mm_code 159 0 = some (.aload_n 0, 1, 0, 0, []) := rfl
theorem rw_160_1 : mm_code 159 1 = some (.iload_n 1, 1, 0, 0, []) := rfl
theorem rw_160_2 : mm_code 159 2 = some (.invokevirtual 205, 3, 158, 2, [64, 0]) := rfl
theorem rw_160_5 : mm_code 159 5 = some (.ifCond .ne 9, 3, 14, 0, []) := rfl
theorem rw_160_8 : mm_code 159 8 = some (.aload_n 0, 1, 0, 0, []) := rfl
theorem rw_160_9 : mm_code 159 9 = some (.iconst 1, 1, 1, 0, []) := rfl
theorem rw_160_10 : mm_code 159 10 = some (.invokevirtual 208, 3, 151, 2, [65, 0]) := rfl
theorem rw_160_13 : mm_code 159 13 = some (.ireturn, 1, 1, 0, []) := rfl
theorem rw_160_14 : mm_code 159 14 = some (.aload_n 0, 1, 0, 0, []) := rfl
theorem rw_160_15 : mm_code 159 15 = some (.invokevirtual 211, 3, 155, 1, [66, 0]) := rfl
theorem rw_160_18 : mm_code 159 18 = some (.iconst 1, 1, 1, 0, []) := rfl
theorem rw_160_19 : mm_code 159 19 = some (.ireturn, 1, 1, 0, []) := rfl
theorem rw_161_0 : mm_code 160 0 = some (.aload_n 0, 1, 0, 0, []) := rfl
theorem rw_161_1 : mm_code 160 1 = some (.iload_n 1, 1, 0, 0, []) := rfl
theorem rw_161_2 : mm_code 160 2 = some (.invokevirtual 214, 3, 157, 2, [67, 0]) := rfl
theorem rw_161_5 : mm_code 160 5 = some (.ifCond .ne 9, 3, 14, 0, []) := rfl
theorem rw_161_8 : mm_code 160 8 = some (.aload_n 0, 1, 0, 0, []) := rfl
theorem rw_161_9 : mm_code 160 9 = some (.iconst 1, 1, 1, 0, []) := rfl
theorem rw_161_10 : mm_code 160 10 = some (.invokevirtual 208, 3, 151, 2, [65, 0]) := rfl
theorem rw_161_13 : mm_code 160 13 = some (.ireturn, 1, 1, 0, []) := rfl
theorem rw_161_14 : mm_code 160 14 = some (.aload_n 0, 1, 0, 0, []) := rfl
theorem rw_161_15 : mm_code 160 15 = some (.invokevirtual 211, 3, 155, 1, [66, 0]) := rfl
theorem rw_161_18 : mm_code 160 18 = some (.iconst 1, 1, 1, 0, []) := rfl
theorem rw_161_19 : mm_code 160 19 = some (.ireturn, 1, 1, 0, []) := rfl
theorem rw_162_0 : mm_code 161 0 = some (.aload_n 0, 1, 0, 0, []) := rfl
theorem rw_162_1 : mm_code 161 1 = some (.getfield 185, 3, 11, 8, [0, 58]) := rfl
theorem rw_162_4 : mm_code 161 4 = some (.iconst 3, 1, 3, 0, []) := rfl
theorem rw_162_5 : mm_code 161 5 = some (.if_icmp .eq 9, 3, 14, 0, []) := rfl
theorem rw_162_8 : mm_code 161 8 = some (.aload_n 0, 1, 0, 0, []) := rfl
theorem rw_162_9 : mm_code 161 9 = some (.iconst 1, 1, 1, 0, []) := rfl
theorem rw_162_10 : mm_code 161 10 = some (.invokevirtual 208, 3, 151, 2, [65, 0]) := rfl
theorem rw_162_13 : mm_code 161 13 = some (.ireturn, 1, 1, 0, []) := rfl
theorem rw_162_14 : mm_code 161 14 = some (.aload_n 0, 1, 0, 0, []) := rfl
theorem rw_162_15 : mm_code 161 15 = some (.getfield 196, 3, 11, 9, [0, 61]) := rfl
theorem rw_162_18 : mm_code 161 18 = some (.iload_n 1, 1, 0, 0, []) := rfl
theorem rw_162_19 : mm_code 161 19 = some (.if_icmp .lt 11, 3, 30, 0, []) := rfl
theorem rw_162_22 : mm_code 161 22 = some (.aload_n 0, 1, 0, 0, []) := rfl
theorem rw_162_23 : mm_code 161 23 = some (.getfield 196, 3, 11, 9, [0, 61]) := rfl
theorem rw_162_26 : mm_code 161 26 = some (.iload_n 2, 1, 0, 0, []) := rfl
theorem rw_162_27 : mm_code 161 27 = some (.if_icmp .le 11, 3, 38, 0, []) := rfl
theorem rw_162_30 : mm_code 161 30 = some (.aload_n 0, 1, 0, 0, []) := rfl
theorem rw_162_31 : mm_code 161 31 = some (.iconst 2, 1, 2, 0, []) := rfl
theorem rw_162_32 : mm_code 161 32 = some (.invokevirtual 208, 3, 151, 2, [65, 0]) := rfl
theorem rw_162_35 : mm_code 161 35 = some (.ifCond .eq 7, 3, 42, 0, []) := rfl
theorem rw_162_38 : mm_code 161 38 = some (.iconst 1, 1, 1, 0, []) := rfl
theorem rw_162_39 : mm_code 161 39 = some (.goto 4, 3, 43, 0, []) := rfl
theorem rw_162_42 : mm_code 161 42 = some (.iconst 0, 1, 0, 0, []) := rfl
theorem rw_162_43 : mm_code 161 43 = some (.ireturn, 1, 1, 0, []) := rfl
theorem rw_163_0 : mm_code 162 0 = some (.iload_n 1, 1, 0, 0, []) := rfl
theorem rw_163_1 : mm_code 162 1 = some (.ifCond .lt 11, 3, 12, 0, []) := rfl
theorem rw_163_4 : mm_code 162 4 = some (.iload_n 1, 1, 0, 0, []) := rfl
theorem rw_163_5 : mm_code 162 5 = some (.aload_n 0, 1, 0, 0, []) := rfl
theorem rw_163_6 : mm_code 162 6 = some (.getfield 166, 3, 11, 1, [0, 52]) := rfl
theorem rw_163_9 : mm_code 162 9 = some (.if_icmp .le 5, 3, 14, 0, []) := rfl
theorem rw_163_12 : mm_code 162 12 = some (.iconst 0, 1, 0, 0, []) := rfl
theorem rw_163_13 : mm_code 162 13 = some (.ireturn, 1, 1, 0, []) := rfl
theorem rw_163_14 : mm_code 162 14 = some (.aload_n 0, 1, 0, 0, []) := rfl
theorem rw_163_15 : mm_code 162 15 = some (.iload_n 1, 1, 0, 0, []) := rfl
theorem rw_163_16 : mm_code 162 16 = some (.putfield 179, 3, 11, 6, [0, 56]) := rfl
theorem rw_163_19 : mm_code 162 19 = some (.aload_n 0, 1, 0, 0, []) := rfl
theorem rw_163_20 : mm_code 162 20 = some (.iconst 0, 1, 0, 0, []) := rfl
theorem rw_163_21 : mm_code 162 21 = some (.putfield 166, 3, 11, 1, [0, 52]) := rfl
theorem rw_163_24 : mm_code 162 24 = some (.aload_n 0, 1, 0, 0, []) := rfl
theorem rw_163_25 : mm_code 162 25 = some (.iconst 0, 1, 0, 0, []) := rfl
theorem rw_163_26 : mm_code 162 26 = some (.putfield 173, 3, 11, 4, [0, 54]) := rfl
theorem rw_163_29 : mm_code 162 29 = some (.aload_n 0, 1, 0, 0, []) := rfl
theorem rw_163_30 : mm_code 162 30 = some (.iconst (-1), 1, 1, 1, []) := rfl
theorem rw_163_31 : mm_code 162 31 = some (.putfield 16, 3, 11, 5, [0, 3]) := rfl
theorem rw_163_34 : mm_code 162 34 = some (.aload_n 0, 1, 0, 0, []) := rfl
theorem rw_163_35 : mm_code 162 35 = some (.iconst 0, 1, 0, 0, []) := rfl
theorem rw_163_36 : mm_code 162 36 = some (.putfield 182, 3, 11, 7, [0, 57]) := rfl
theorem rw_163_39 : mm_code 162 39 = some (.aload_n 0, 1, 0, 0, []) := rfl
theorem rw_163_40 : mm_code 162 40 = some (.invokevirtual 211, 3, 155, 1, [66, 0]) := rfl
theorem rw_163_43 : mm_code 162 43 = some (.iconst 1, 1, 1, 0, []) := rfl
theorem rw_163_44 : mm_code 162 44 = some (.ireturn, 1, 1, 0, []) := rfl
theorem rw_164_0 : mm_code 163 0 = some (.aload_n 0, 1, 0, 0, []) := rfl
theorem rw_164_1 : mm_code 163 1 = some (.bipush 10, 2, 10, 0, []) := rfl
theorem rw_164_3 : mm_code 163 3 = some (.putfield 217, 3, 11, 14, [0, 68]) := rfl
theorem rw_164_6 : mm_code 163 6 = some (.aload_n 0, 1, 0, 0, []) := rfl
theorem rw_164_7 : mm_code 163 7 = some (.iconst 0, 1, 0, 0, []) := rfl
theorem rw_164_8 : mm_code 163 8 = some (.putfield 220, 3, 11, 15, [0, 69]) := rfl
theorem rw_164_11 : mm_code 163 11 = some (.aload_n 0, 1, 0, 0, []) := rfl
theorem rw_164_12 : mm_code 163 12 = some (.iconst 0, 1, 0, 0, []) := rfl
theorem rw_164_13 : mm_code 163 13 = some (.putfield 223, 3, 11, 16, [0, 70]) := rfl
theorem rw_164_16 : mm_code 163 16 = some (.aload_n 0, 1, 0, 0, []) := rfl
theorem rw_164_17 : mm_code 163 17 = some (.lconst 0, 1, 0, 0, []) := rfl
theorem rw_164_18 : mm_code 163 18 = some (.putfield 226, 3, 11, 25, [2, 71]) := rfl
theorem rw_164_21 : mm_code 163 21 = some (.return_, 1, 0, 0, []) := rfl
theorem rw_165_0 : mm_code 164 0 = some (.aload_n 0, 1, 0, 0, []) := rfl
theorem rw_165_1 : mm_code 164 1 = some (.aload_n 0, 1, 0, 0, []) := rfl
theorem rw_165_2 : mm_code 164 2 = some (.getfield 217, 3, 11, 14, [0, 68]) := rfl
theorem rw_165_5 : mm_code 164 5 = some (.putfield 230, 3, 11, 11, [0, 72]) := rfl
theorem rw_165_8 : mm_code 164 8 = some (.aload_n 0, 1, 0, 0, []) := rfl
theorem rw_165_9 : mm_code 164 9 = some (.aload_n 0, 1, 0, 0, []) := rfl
theorem rw_165_10 : mm_code 164 10 = some (.getfield 220, 3, 11, 15, [0, 69]) := rfl
theorem rw_165_13 : mm_code 164 13 = some (.putfield 233, 3, 11, 12, [0, 73]) := rfl
theorem rw_165_16 : mm_code 164 16 = some (.aload_n 0, 1, 0, 0, []) := rfl
theorem rw_165_17 : mm_code 164 17 = some (.aload_n 0, 1, 0, 0, []) := rfl
theorem rw_165_18 : mm_code 164 18 = some (.getfield 223, 3, 11, 16, [0, 70]) := rfl
theorem rw_165_21 : mm_code 164 21 = some (.putfield 236, 3, 11, 13, [0, 74]) := rfl
theorem rw_165_24 : mm_code 164 24 = some (.iconst 0, 1, 0, 0, []) := rfl
theorem rw_165_25 : mm_code 164 25 = some (.istore_n 1, 1, 0, 0, []) := rfl
theorem rw_165_26 : mm_code 164 26 = some (.iload_n 1, 1, 0, 0, []) := rfl
theorem rw_165_27 : mm_code 164 27 = some (.bipush 8, 2, 8, 0, []) := rfl
theorem rw_165_29 : mm_code 164 29 = some (.if_icmp .ge 84, 3, 113, 0, []) := rfl
theorem rw_165_32 : mm_code 164 32 = some (.aload_n 0, 1, 0, 0, []) := rfl
theorem rw_165_33 : mm_code 164 33 = some (.getfield 20, 3, 11, 17, [3, 4]) := rfl
theorem rw_165_36 : mm_code 164 36 = some (.iload_n 1, 1, 0, 0, []) := rfl
theorem rw_165_37 : mm_code 164 37 = some (.aload_n 0, 1, 0, 0, []) := rfl
theorem rw_165_38 : mm_code 164 38 = some (.getfield 20, 3, 11, 17, [3, 4]) := rfl
theorem rw_165_41 : mm_code 164 41 = some (.bipush 8, 2, 8, 0, []) := rfl
theorem rw_165_43 : mm_code 164 43 = some (.iload_n 1, 1, 0, 0, []) := rfl
theorem rw_165_44 : mm_code 164 44 = some (.iadd, 1, 0, 0, []) := rfl
theorem rw_165_45 : mm_code 164 45 = some (.iaload, 1, 0, 0, []) := rfl
theorem rw_165_46 : mm_code 164 46 = some (.iastore, 1, 0, 0, []) := rfl
theorem rw_165_47 : mm_code 164 47 = some (.aload_n 0, 1, 0, 0, []) := rfl
theorem rw_165_48 : mm_code 164 48 = some (.getfield 23, 3, 11, 18, [3, 5]) := rfl
theorem rw_165_51 : mm_code 164 51 = some (.iload_n 1, 1, 0, 0, []) := rfl
theorem rw_165_52 : mm_code 164 52 = some (.aload_n 0, 1, 0, 0, []) := rfl
theorem rw_165_53 : mm_code 164 53 = some (.getfield 23, 3, 11, 18, [3, 5]) := rfl
theorem rw_165_56 : mm_code 164 56 = some (.bipush 8, 2, 8, 0, []) := rfl
theorem rw_165_58 : mm_code 164 58 = some (.iload_n 1, 1, 0, 0, []) := rfl
theorem rw_165_59 : mm_code 164 59 = some (.iadd, 1, 0, 0, []) := rfl
theorem rw_165_60 : mm_code 164 60 = some (.iaload, 1, 0, 0, []) := rfl
theorem rw_165_61 : mm_code 164 61 = some (.iastore, 1, 0, 0, []) := rfl
theorem rw_165_62 : mm_code 164 62 = some (.aload_n 0, 1, 0, 0, []) := rfl
theorem rw_165_63 : mm_code 164 63 = some (.getfield 26, 3, 11, 19, [3, 6]) := rfl
theorem rw_165_66 : mm_code 164 66 = some (.iload_n 1, 1, 0, 0, []) := rfl
theorem rw_165_67 : mm_code 164 67 = some (.aload_n 0, 1, 0, 0, []) := rfl
theorem rw_165_68 : mm_code 164 68 = some (.getfield 26, 3, 11, 19, [3, 6]) := rfl
theorem rw_165_71 : mm_code 164 71 = some (.bipush 8, 2, 8, 0, []) := rfl
theorem rw_165_73 : mm_code 164 73 = some (.iload_n 1, 1, 0, 0, []) := rfl
theorem rw_165_74 : mm_code 164 74 = some (.iadd, 1, 0, 0, []) := rfl
theorem rw_165_75 : mm_code 164 75 = some (.iaload, 1, 0, 0, []) := rfl
theorem rw_165_76 : mm_code 164 76 = some (.iastore, 1, 0, 0, []) := rfl
theorem rw_165_77 : mm_code 164 77 = some (.aload_n 0, 1, 0, 0, []) := rfl
theorem rw_165_78 : mm_code 164 78 = some (.getfield 29, 3, 11, 20, [3, 7]) := rfl
theorem rw_165_81 : mm_code 164 81 = some (.iload_n 1, 1, 0, 0, []) := rfl
theorem rw_165_82 : mm_code 164 82 = some (.aload_n 0, 1, 0, 0, []) := rfl
theorem rw_165_83 : mm_code 164 83 = some (.getfield 29, 3, 11, 20, [3, 7]) := rfl
theorem rw_165_86 : mm_code 164 86 = some (.bipush 8, 2, 8, 0, []) := rfl
theorem rw_165_88 : mm_code 164 88 = some (.iload_n 1, 1, 0, 0, []) := rfl
theorem rw_165_89 : mm_code 164 89 = some (.iadd, 1, 0, 0, []) := rfl
theorem rw_165_90 : mm_code 164 90 = some (.iaload, 1, 0, 0, []) := rfl
theorem rw_165_91 : mm_code 164 91 = some (.iastore, 1, 0, 0, []) := rfl
theorem rw_165_92 : mm_code 164 92 = some (.aload_n 0, 1, 0, 0, []) := rfl
theorem rw_165_93 : mm_code 164 93 = some (.getfield 32, 3, 11, 21, [3, 8]) := rfl
theorem rw_165_96 : mm_code 164 96 = some (.iload_n 1, 1, 0, 0, []) := rfl
theorem rw_165_97 : mm_code 164 97 = some (.aload_n 0, 1, 0, 0, []) := rfl
theorem rw_165_98 : mm_code 164 98 = some (.getfield 32, 3, 11, 21, [3, 8]) := rfl
theorem rw_165_101 : mm_code 164 101 = some (.bipush 8, 2, 8, 0, []) := rfl
theorem rw_165_103 : mm_code 164 103 = some (.iload_n 1, 1, 0, 0, []) := rfl
theorem rw_165_104 : mm_code 164 104 = some (.iadd, 1, 0, 0, []) := rfl
theorem rw_165_105 : mm_code 164 105 = some (.iaload, 1, 0, 0, []) := rfl
theorem rw_165_106 : mm_code 164 106 = some (.iastore, 1, 0, 0, []) := rfl
theorem rw_165_107 : mm_code 164 107 = some (.iinc 1 1, 3, 1, 0, []) := rfl
theorem rw_165_110 : mm_code 164 110 = some (.goto (-84), 3, 26, 0, []) := rfl
theorem rw_165_113 : mm_code 164 113 = some (.iconst 0, 1, 0, 0, []) := rfl
theorem rw_165_114 : mm_code 164 114 = some (.istore_n 1, 1, 0, 0, []) := rfl
theorem rw_165_115 : mm_code 164 115 = some (.iload_n 1, 1, 0, 0, []) := rfl
theorem rw_165_116 : mm_code 164 116 = some (.bipush 12, 2, 12, 0, []) := rfl
theorem rw_165_118 : mm_code 164 118 = some (.if_icmp .ge 54, 3, 172, 0, []) := rfl
theorem rw_165_121 : mm_code 164 121 = some (.aload_n 0, 1, 0, 0, []) := rfl
theorem rw_165_122 : mm_code 164 122 = some (.getfield 35, 3, 11, 22, [3, 9]) := rfl
theorem rw_165_125 : mm_code 164 125 = some (.iload_n 1, 1, 0, 0, []) := rfl
theorem rw_165_126 : mm_code 164 126 = some (.aload_n 0, 1, 0, 0, []) := rfl
theorem rw_165_127 : mm_code 164 127 = some (.getfield 35, 3, 11, 22, [3, 9]) := rfl
theorem rw_165_130 : mm_code 164 130 = some (.bipush 12, 2, 12, 0, []) := rfl
theorem rw_165_132 : mm_code 164 132 = some (.iload_n 1, 1, 0, 0, []) := rfl
theorem rw_165_133 : mm_code 164 133 = some (.iadd, 1, 0, 0, []) := rfl
theorem rw_165_134 : mm_code 164 134 = some (.iaload, 1, 0, 0, []) := rfl
theorem rw_165_135 : mm_code 164 135 = some (.iastore, 1, 0, 0, []) := rfl
theorem rw_165_136 : mm_code 164 136 = some (.aload_n 0, 1, 0, 0, []) := rfl
theorem rw_165_137 : mm_code 164 137 = some (.getfield 38, 3, 11, 23, [3, 10]) := rfl
theorem rw_165_140 : mm_code 164 140 = some (.iload_n 1, 1, 0, 0, []) := rfl
theorem rw_165_141 : mm_code 164 141 = some (.aload_n 0, 1, 0, 0, []) := rfl
theorem rw_165_142 : mm_code 164 142 = some (.getfield 38, 3, 11, 23, [3, 10]) := rfl
theorem rw_165_145 : mm_code 164 145 = some (.bipush 12, 2, 12, 0, []) := rfl
theorem rw_165_147 : mm_code 164 147 = some (.iload_n 1, 1, 0, 0, []) := rfl
theorem rw_165_148 : mm_code 164 148 = some (.iadd, 1, 0, 0, []) := rfl
theorem rw_165_149 : mm_code 164 149 = some (.iaload, 1, 0, 0, []) := rfl
theorem rw_165_150 : mm_code 164 150 = some (.iastore, 1, 0, 0, []) := rfl
theorem rw_165_151 : mm_code 164 151 = some (.aload_n 0, 1, 0, 0, []) := rfl
theorem rw_165_152 : mm_code 164 152 = some (.getfield 41, 3, 11, 24, [3, 11]) := rfl
theorem rw_165_155 : mm_code 164 155 = some (.iload_n 1, 1, 0, 0, []) := rfl
theorem rw_165_156 : mm_code 164 156 = some (.aload_n 0, 1, 0, 0, []) := rfl
theorem rw_165_157 : mm_code 164 157 = some (.getfield 41, 3, 11, 24, [3, 11]) := rfl
theorem rw_165_160 : mm_code 164 160 = some (.bipush 12, 2, 12, 0, []) := rfl
theorem rw_165_162 : mm_code 164 162 = some (.iload_n 1, 1, 0, 0, []) := rfl
theorem rw_165_163 : mm_code 164 163 = some (.iadd, 1, 0, 0, []) := rfl
theorem rw_165_164 : mm_code 164 164 = some (.laload, 1, 0, 0, []) := rfl
theorem rw_165_165 : mm_code 164 165 = some (.lastore, 1, 0, 0, []) := rfl
theorem rw_165_166 : mm_code 164 166 = some (.iinc 1 1, 3, 1, 0, []) := rfl
theorem rw_165_169 : mm_code 164 169 = some (.goto (-54), 3, 115, 0, []) := rfl
theorem rw_165_172 : mm_code 164 172 = some (.aload_n 0, 1, 0, 0, []) := rfl
theorem rw_165_173 : mm_code 164 173 = some (.iconst 0, 1, 0, 0, []) := rfl
theorem rw_165_174 : mm_code 164 174 = some (.putfield 239, 3, 11, 28, [0, 75]) := rfl
theorem rw_165_177 : mm_code 164 177 = some (.aload_n 0, 1, 0, 0, []) := rfl
theorem rw_165_178 : mm_code 164 178 = some (.iconst 0, 1, 0, 0, []) := rfl
theorem rw_165_179 : mm_code 164 179 = some (.putfield 242, 3, 11, 29, [0, 76]) := rfl
theorem rw_165_182 : mm_code 164 182 = some (.aload_n 0, 1, 0, 0, []) := rfl
theorem rw_165_183 : mm_code 164 183 = some (.iconst 0, 1, 0, 0, []) := rfl
theorem rw_165_184 : mm_code 164 184 = some (.putfield 245, 3, 11, 58, [0, 77]) := rfl
theorem rw_165_187 : mm_code 164 187 = some (.aload_n 0, 1, 0, 0, []) := rfl
theorem rw_165_188 : mm_code 164 188 = some (.iconst 0, 1, 0, 0, []) := rfl
theorem rw_165_189 : mm_code 164 189 = some (.putfield 248, 3, 11, 57, [1, 78]) := rfl
theorem rw_165_192 : mm_code 164 192 = some (.aload_n 0, 1, 0, 0, []) := rfl
theorem rw_165_193 : mm_code 164 193 = some (.iconst 0, 1, 0, 0, []) := rfl
theorem rw_165_194 : mm_code 164 194 = some (.putfield 252, 3, 11, 41, [0, 79]) := rfl
theorem rw_165_197 : mm_code 164 197 = some (.iconst 0, 1, 0, 0, []) := rfl
theorem rw_165_198 : mm_code 164 198 = some (.istore_n 1, 1, 0, 0, []) := rfl
theorem rw_165_199 : mm_code 164 199 = some (.iload_n 1, 1, 0, 0, []) := rfl
theorem rw_165_200 : mm_code 164 200 = some (.bipush 6, 2, 6, 0, []) := rfl
theorem rw_165_202 : mm_code 164 202 = some (.if_icmp .ge 16, 3, 218, 0, []) := rfl
theorem rw_165_205 : mm_code 164 205 = some (.aload_n 0, 1, 0, 0, []) := rfl
theorem rw_165_206 : mm_code 164 206 = some (.getfield 82, 3, 11, 40, [3, 24]) := rfl
theorem rw_165_209 : mm_code 164 209 = some (.iload_n 1, 1, 0, 0, []) := rfl
theorem rw_165_210 : mm_code 164 210 = some (.iconst 0, 1, 0, 0, []) := rfl
theorem rw_165_211 : mm_code 164 211 = some (.iastore, 1, 0, 0, []) := rfl
theorem rw_165_212 : mm_code 164 212 = some (.iinc 1 1, 3, 1, 0, []) := rfl
theorem rw_165_215 : mm_code 164 215 = some (.goto (-16), 3, 199, 0, []) := rfl
theorem rw_165_218 : mm_code 164 218 = some (.return_, 1, 0, 0, []) := rfl
theorem rw_166_0 : mm_code 165 0 = some (.iconst 0, 1, 0, 0, []) := rfl
theorem rw_166_1 : mm_code 165 1 = some (.istore_n 2, 1, 0, 0, []) := rfl
theorem rw_166_2 : mm_code 165 2 = some (.iload_n 2, 1, 0, 0, []) := rfl
theorem rw_166_3 : mm_code 165 3 = some (.aload_n 0, 1, 0, 0, []) := rfl
theorem rw_166_4 : mm_code 165 4 = some (.getfield 220, 3, 11, 15, [0, 69]) := rfl
theorem rw_166_7 : mm_code 165 7 = some (.if_icmp .ge 24, 3, 31, 0, []) := rfl
theorem rw_166_10 : mm_code 165 10 = some (.aload_n 0, 1, 0, 0, []) := rfl
theorem rw_166_11 : mm_code 165 11 = some (.getfield 20, 3, 11, 17, [3, 4]) := rfl
theorem rw_166_14 : mm_code 165 14 = some (.bipush 8, 2, 8, 0, []) := rfl
theorem rw_166_16 : mm_code 165 16 = some (.iload_n 2, 1, 0, 0, []) := rfl
theorem rw_166_17 : mm_code 165 17 = some (.iadd, 1, 0, 0, []) := rfl
theorem rw_166_18 : mm_code 165 18 = some (.iaload, 1, 0, 0, []) := rfl
theorem rw_166_19 : mm_code 165 19 = some (.iload_n 1, 1, 0, 0, []) := rfl
theorem rw_166_20 : mm_code 165 20 = some (.if_icmp .ne 5, 3, 25, 0, []) := rfl
theorem rw_166_23 : mm_code 165 23 = some (.iload_n 2, 1, 0, 0, []) := rfl
theorem rw_166_24 : mm_code 165 24 = some (.ireturn, 1, 0, 0, []) := rfl
theorem rw_166_25 : mm_code 165 25 = some (.iinc 2 1, 3, 1, 0, []) := rfl
theorem rw_166_28 : mm_code 165 28 = some (.goto (-26), 3, 2, 0, []) := rfl
theorem rw_166_31 : mm_code 165 31 = some (.iconst (-1), 1, 1, 1, []) := rfl
theorem rw_166_32 : mm_code 165 32 = some (.ireturn, 1, 0, 0, []) := rfl
theorem rw_167_0 : mm_code 166 0 = some (.iconst 0, 1, 0, 0, []) := rfl
theorem rw_167_1 : mm_code 166 1 = some (.istore_n 2, 1, 0, 0, []) := rfl
theorem rw_167_2 : mm_code 166 2 = some (.iload_n 2, 1, 0, 0, []) := rfl
theorem rw_167_3 : mm_code 166 3 = some (.aload_n 0, 1, 0, 0, []) := rfl
theorem rw_167_4 : mm_code 166 4 = some (.getfield 223, 3, 11, 16, [0, 70]) := rfl
theorem rw_167_7 : mm_code 166 7 = some (.if_icmp .ge 24, 3, 31, 0, []) := rfl
theorem rw_167_10 : mm_code 166 10 = some (.aload_n 0, 1, 0, 0, []) := rfl
theorem rw_167_11 : mm_code 166 11 = some (.getfield 35, 3, 11, 22, [3, 9]) := rfl
theorem rw_167_14 : mm_code 166 14 = some (.bipush 12, 2, 12, 0, []) := rfl
theorem rw_167_16 : mm_code 166 16 = some (.iload_n 2, 1, 0, 0, []) := rfl
theorem rw_167_17 : mm_code 166 17 = some (.iadd, 1, 0, 0, []) := rfl
theorem rw_167_18 : mm_code 166 18 = some (.iaload, 1, 0, 0, []) := rfl
theorem rw_167_19 : mm_code 166 19 = some (.iload_n 1, 1, 0, 0, []) := rfl
theorem rw_167_20 : mm_code 166 20 = some (.if_icmp .ne 5, 3, 25, 0, []) := rfl
theorem rw_167_23 : mm_code 166 23 = some (.iconst 1, 1, 1, 0, []) := rfl
theorem rw_167_24 : mm_code 166 24 = some (.ireturn, 1, 1, 0, []) := rfl
theorem rw_167_25 : mm_code 166 25 = some (.iinc 2 1, 3, 1, 0, []) := rfl
theorem rw_167_28 : mm_code 166 28 = some (.goto (-26), 3, 2, 0, []) := rfl
theorem rw_167_31 : mm_code 166 31 = some (.aload_n 0, 1, 0, 0, []) := rfl
theorem rw_167_32 : mm_code 166 32 = some (.iload_n 1, 1, 0, 0, []) := rfl
theorem rw_167_33 : mm_code 166 33 = some (.invokevirtual 255, 3, 165, 2, [80, 0]) := rfl
theorem rw_167_36 : mm_code 166 36 = some (.ifCond .lt 7, 3, 43, 0, []) := rfl
theorem rw_167_39 : mm_code 166 39 = some (.iconst 1, 1, 1, 0, []) := rfl
theorem rw_167_40 : mm_code 166 40 = some (.goto 4, 3, 44, 0, []) := rfl
theorem rw_167_43 : mm_code 166 43 = some (.iconst 0, 1, 0, 0, []) := rfl
theorem rw_167_44 : mm_code 166 44 = some (.ireturn, 1, 1, 0, []) := rfl
theorem rw_168_0 : mm_code 167 0 = some (.lconst 0, 1, 0, 0, []) := rfl
theorem rw_168_1 : mm_code 167 1 = some (.lstore_n 2, 1, 0, 0, []) := rfl
theorem rw_168_2 : mm_code 167 2 = some (.iload_n 0, 1, 0, 0, []) := rfl
theorem rw_168_3 : mm_code 167 3 = some (.istore 4, 2, 0, 0, []) := rfl
theorem rw_168_5 : mm_code 167 5 = some (.iload 4, 2, 0, 0, []) := rfl
theorem rw_168_7 : mm_code 167 7 = some (.iload_n 1, 1, 0, 0, []) := rfl
theorem rw_168_8 : mm_code 167 8 = some (.if_icmp .gt 16, 3, 24, 0, []) := rfl
theorem rw_168_11 : mm_code 167 11 = some (.lload_n 2, 1, 0, 0, []) := rfl
theorem rw_168_12 : mm_code 167 12 = some (.lconst 1, 1, 1, 0, []) := rfl
theorem rw_168_13 : mm_code 167 13 = some (.iload 4, 2, 0, 0, []) := rfl
theorem rw_168_15 : mm_code 167 15 = some (.lshl, 1, 0, 0, []) := rfl
theorem rw_168_16 : mm_code 167 16 = some (.lor, 1, 0, 0, []) := rfl
theorem rw_168_17 : mm_code 167 17 = some (.lstore_n 2, 1, 0, 0, []) := rfl
theorem rw_168_18 : mm_code 167 18 = some (.iinc 4 1, 3, 1, 0, []) := rfl
theorem rw_168_21 : mm_code 167 21 = some (.goto (-16), 3, 5, 0, []) := rfl
theorem rw_168_24 : mm_code 167 24 = some (.lload_n 2, 1, 0, 0, []) := rfl
theorem rw_168_25 : mm_code 167 25 = some (.lreturn, 1, 0, 0, []) := rfl
theorem rw_169_0 : mm_code 168 0 = some (.aload_n 0, 1, 0, 0, []) := rfl
theorem rw_169_1 : mm_code 168 1 = some (.getfield 185, 3, 11, 8, [0, 58]) := rfl
theorem rw_169_4 : mm_code 168 4 = some (.iconst 2, 1, 2, 0, []) := rfl
theorem rw_169_5 : mm_code 168 5 = some (.if_icmp .eq 9, 3, 14, 0, []) := rfl
theorem rw_169_8 : mm_code 168 8 = some (.aload_n 0, 1, 0, 0, []) := rfl
theorem rw_169_9 : mm_code 168 9 = some (.iconst 1, 1, 1, 0, []) := rfl
theorem rw_169_10 : mm_code 168 10 = some (.invokevirtual 208, 3, 151, 2, [65, 0]) := rfl
theorem rw_169_13 : mm_code 168 13 = some (.ireturn, 1, 1, 0, []) := rfl
theorem rw_169_14 : mm_code 168 14 = some (.aload_n 0, 1, 0, 0, []) := rfl
theorem rw_169_15 : mm_code 168 15 = some (.aload_n 0, 1, 0, 0, []) := rfl
theorem rw_169_16 : mm_code 168 16 = some (.getfield 196, 3, 11, 9, [0, 61]) := rfl
theorem rw_169_19 : mm_code 168 19 = some (.invokevirtual 259, 3, 166, 2, [81, 0]) := rfl
theorem rw_169_22 : mm_code 168 22 = some (.ifCond .eq 11, 3, 33, 0, []) := rfl
theorem rw_169_25 : mm_code 168 25 = some (.aload_n 0, 1, 0, 0, []) := rfl
theorem rw_169_26 : mm_code 168 26 = some (.iconst 3, 1, 3, 0, []) := rfl
theorem rw_169_27 : mm_code 168 27 = some (.invokevirtual 208, 3, 151, 2, [65, 0]) := rfl
theorem rw_169_30 : mm_code 168 30 = some (.ifCond .eq 7, 3, 37, 0, []) := rfl
theorem rw_169_33 : mm_code 168 33 = some (.iconst 1, 1, 1, 0, []) := rfl
theorem rw_169_34 : mm_code 168 34 = some (.goto 4, 3, 38, 0, []) := rfl
theorem rw_169_37 : mm_code 168 37 = some (.iconst 0, 1, 0, 0, []) := rfl
theorem rw_169_38 : mm_code 168 38 = some (.ireturn, 1, 1, 0, []) := rfl
theorem rw_170_0 : mm_code 169 0 = some (.aload_n 0, 1, 0, 0, []) := rfl
theorem rw_170_1 : mm_code 169 1 = some (.getfield 220, 3, 11, 15, [0, 69]) := rfl
theorem rw_170_4 : mm_code 169 4 = some (.bipush 8, 2, 8, 0, []) := rfl
theorem rw_170_6 : mm_code 169 6 = some (.if_icmp .ne 9, 3, 15, 0, []) := rfl
theorem rw_170_9 : mm_code 169 9 = some (.aload_n 0, 1, 0, 0, []) := rfl
theorem rw_170_10 : mm_code 169 10 = some (.iconst 2, 1, 2, 0, []) := rfl
theorem rw_170_11 : mm_code 169 11 = some (.invokevirtual 208, 3, 151, 2, [65, 0]) := rfl
theorem rw_170_14 : mm_code 169 14 = some (.ireturn, 1, 1, 0, []) := rfl
theorem rw_170_15 : mm_code 169 15 = some (.aload_n 0, 1, 0, 0, []) := rfl
theorem rw_170_16 : mm_code 169 16 = some (.invokevirtual 211, 3, 155, 1, [66, 0]) := rfl
theorem rw_170_19 : mm_code 169 19 = some (.aload_n 0, 1, 0, 0, []) := rfl
theorem rw_170_20 : mm_code 169 20 = some (.invokevirtual 262, 3, 168, 1, [82, 0]) := rfl
theorem rw_170_23 : mm_code 169 23 = some (.ifCond .ne 5, 3, 28, 0, []) := rfl
theorem rw_170_26 : mm_code 169 26 = some (.iconst 0, 1, 0, 0, []) := rfl
theorem rw_170_27 : mm_code 169 27 = some (.ireturn, 1, 1, 0, []) := rfl
theorem rw_170_28 : mm_code 169 28 = some (.bipush 8, 2, 8, 0, []) := rfl
theorem rw_170_30 : mm_code 169 30 = some (.aload_n 0, 1, 0, 0, []) := rfl
theorem rw_170_31 : mm_code 169 31 = some (.getfield 220, 3, 11, 15, [0, 69]) := rfl
theorem rw_170_34 : mm_code 169 34 = some (.iadd, 1, 0, 0, []) := rfl
theorem rw_170_35 : mm_code 169 35 = some (.istore_n 1, 1, 0, 0, []) := rfl
theorem rw_170_36 : mm_code 169 36 = some (.aload_n 0, 1, 0, 0, []) := rfl
theorem rw_170_37 : mm_code 169 37 = some (.getfield 196, 3, 11, 9, [0, 61]) := rfl
theorem rw_170_40 : mm_code 169 40 = some (.istore_n 2, 1, 0, 0, []) := rfl
theorem rw_170_41 : mm_code 169 41 = some (.aload_n 0, 1, 0, 0, []) := rfl
theorem rw_170_42 : mm_code 169 42 = some (.invokevirtual 211, 3, 155, 1, [66, 0]) := rfl
theorem rw_170_45 : mm_code 169 45 = some (.aload_n 0, 1, 0, 0, []) := rfl
theorem rw_170_46 : mm_code 169 46 = some (.getfield 185, 3, 11, 8, [0, 58]) := rfl
theorem rw_170_49 : mm_code 169 49 = some (.iconst 1, 1, 1, 0, []) := rfl
theorem rw_170_50 : mm_code 169 50 = some (.if_icmp .ne 20, 3, 70, 0, []) := rfl
theorem rw_170_53 : mm_code 169 53 = some (.aload_n 0, 1, 0, 0, []) := rfl
theorem rw_170_54 : mm_code 169 54 = some (.getfield 196, 3, 11, 9, [0, 61]) := rfl
theorem rw_170_57 : mm_code 169 57 = some (.iconst 3, 1, 3, 0, []) := rfl
theorem rw_170_58 : mm_code 169 58 = some (.if_icmp .lt 12, 3, 70, 0, []) := rfl
theorem rw_170_61 : mm_code 169 61 = some (.aload_n 0, 1, 0, 0, []) := rfl
theorem rw_170_62 : mm_code 169 62 = some (.getfield 196, 3, 11, 9, [0, 61]) := rfl
theorem rw_170_65 : mm_code 169 65 = some (.bipush 6, 2, 6, 0, []) := rfl
theorem rw_170_67 : mm_code 169 67 = some (.if_icmp .le 9, 3, 76, 0, []) := rfl
theorem rw_170_70 : mm_code 169 70 = some (.aload_n 0, 1, 0, 0, []) := rfl
theorem rw_170_71 : mm_code 169 71 = some (.iconst 1, 1, 1, 0, []) := rfl
theorem rw_170_72 : mm_code 169 72 = some (.invokevirtual 208, 3, 151, 2, [65, 0]) := rfl
theorem rw_170_75 : mm_code 169 75 = some (.ireturn, 1, 1, 0, []) := rfl
theorem rw_170_76 : mm_code 169 76 = some (.aload_n 0, 1, 0, 0, []) := rfl
theorem rw_170_77 : mm_code 169 77 = some (.getfield 196, 3, 11, 9, [0, 61]) := rfl
theorem rw_170_80 : mm_code 169 80 = some (.iconst 3, 1, 3, 0, []) := rfl
theorem rw_170_81 : mm_code 169 81 = some (.isub, 1, 0, 0, []) := rfl
theorem rw_170_82 : mm_code 169 82 = some (.istore_n 3, 1, 0, 0, []) := rfl
theorem rw_170_83 : mm_code 169 83 = some (.aload_n 0, 1, 0, 0, []) := rfl
theorem rw_170_84 : mm_code 169 84 = some (.invokevirtual 211, 3, 155, 1, [66, 0]) := rfl
theorem rw_170_87 : mm_code 169 87 = some (.iload_n 3, 1, 0, 0, []) := rfl
theorem rw_170_88 : mm_code 169 88 = some (.ifCond .eq 8, 3, 96, 0, []) := rfl
theorem rw_170_91 : mm_code 169 91 = some (.iload_n 3, 1, 0, 0, []) := rfl
theorem rw_170_92 : mm_code 169 92 = some (.iconst 3, 1, 3, 0, []) := rfl
theorem rw_170_93 : mm_code 169 93 = some (.if_icmp .ne 7, 3, 100, 0, []) := rfl
theorem rw_170_96 : mm_code 169 96 = some (.iconst 1, 1, 1, 0, []) := rfl
theorem rw_170_97 : mm_code 169 97 = some (.goto 4, 3, 101, 0, []) := rfl
theorem rw_170_100 : mm_code 169 100 = some (.iconst 0, 1, 0, 0, []) := rfl
theorem rw_170_101 : mm_code 169 101 = some (.istore 4, 2, 0, 0, []) := rfl
theorem rw_170_103 : mm_code 169 103 = some (.iload_n 3, 1, 0, 0, []) := rfl
theorem rw_170_104 : mm_code 169 104 = some (.iconst 1, 1, 1, 0, []) := rfl
theorem rw_170_105 : mm_code 169 105 = some (.if_icmp .ne 7, 3, 112, 0, []) := rfl
theorem rw_170_108 : mm_code 169 108 = some (.iconst 3, 1, 3, 0, []) := rfl
theorem rw_170_109 : mm_code 169 109 = some (.goto 13, 3, 122, 0, []) := rfl
theorem rw_170_112 : mm_code 169 112 = some (.iload_n 3, 1, 0, 0, []) := rfl
theorem rw_170_113 : mm_code 169 113 = some (.iconst 2, 1, 2, 0, []) := rfl
theorem rw_170_114 : mm_code 169 114 = some (.if_icmp .ne 7, 3, 121, 0, []) := rfl
theorem rw_170_117 : mm_code 169 117 = some (.iconst 4, 1, 4, 0, []) := rfl
theorem rw_170_118 : mm_code 169 118 = some (.goto 4, 3, 122, 0, []) := rfl
theorem rw_170_121 : mm_code 169 121 = some (.iconst 0, 1, 0, 0, []) := rfl
theorem rw_170_122 : mm_code 169 122 = some (.istore 5, 2, 0, 0, []) := rfl
theorem rw_170_124 : mm_code 169 124 = some (.aload_n 0, 1, 0, 0, []) := rfl
theorem rw_170_125 : mm_code 169 125 = some (.iconst 0, 1, 0, 0, []) := rfl
theorem rw_170_126 : mm_code 169 126 = some (.aload_n 0, 1, 0, 0, []) := rfl
theorem rw_170_127 : mm_code 169 127 = some (.getfield 217, 3, 11, 14, [0, 68]) := rfl
theorem rw_170_130 : mm_code 169 130 = some (.iconst 1, 1, 1, 0, []) := rfl
theorem rw_170_131 : mm_code 169 131 = some (.isub, 1, 0, 0, []) := rfl
theorem rw_170_132 : mm_code 169 132 = some (.iload 5, 2, 0, 0, []) := rfl
theorem rw_170_134 : mm_code 169 134 = some (.isub, 1, 0, 0, []) := rfl
theorem rw_170_135 : mm_code 169 135 = some (.invokevirtual 266, 3, 161, 3, [83, 0]) := rfl
theorem rw_170_138 : mm_code 169 138 = some (.ifCond .ne 5, 3, 143, 0, []) := rfl
theorem rw_170_141 : mm_code 169 141 = some (.iconst 0, 1, 0, 0, []) := rfl
theorem rw_170_142 : mm_code 169 142 = some (.ireturn, 1, 1, 0, []) := rfl
theorem rw_170_143 : mm_code 169 143 = some (.aload_n 0, 1, 0, 0, []) := rfl
theorem rw_170_144 : mm_code 169 144 = some (.getfield 196, 3, 11, 9, [0, 61]) := rfl
theorem rw_170_147 : mm_code 169 147 = some (.istore 6, 2, 0, 0, []) := rfl
theorem rw_170_149 : mm_code 169 149 = some (.aload_n 0, 1, 0, 0, []) := rfl
theorem rw_170_150 : mm_code 169 150 = some (.getfield 226, 3, 11, 25, [2, 71]) := rfl
theorem rw_170_153 : mm_code 169 153 = some (.iload 6, 2, 0, 0, []) := rfl
theorem rw_170_155 : mm_code 169 155 = some (.iload 6, 2, 0, 0, []) := rfl
theorem rw_170_157 : mm_code 169 157 = some (.iload 5, 2, 0, 0, []) := rfl
theorem rw_170_159 : mm_code 169 159 = some (.iadd, 1, 0, 0, []) := rfl
theorem rw_170_160 : mm_code 169 160 = some (.invokestatic 270, 3, 167, 2, [84, 0]) := rfl
theorem rw_170_163 : mm_code 169 163 = some (.land, 1, 0, 0, []) := rfl
theorem rw_170_164 : mm_code 169 164 = some (.lconst 0, 1, 0, 0, []) := rfl
theorem rw_170_165 : mm_code 169 165 = some (.lcmp, 1, 0, 0, []) := rfl
theorem rw_170_166 : mm_code 169 166 = some (.ifCond .eq 9, 3, 175, 0, []) := rfl
theorem rw_170_169 : mm_code 169 169 = some (.aload_n 0, 1, 0, 0, []) := rfl
theorem rw_170_170 : mm_code 169 170 = some (.iconst 3, 1, 3, 0, []) := rfl
theorem rw_170_171 : mm_code 169 171 = some (.invokevirtual 208, 3, 151, 2, [65, 0]) := rfl
theorem rw_170_174 : mm_code 169 174 = some (.ireturn, 1, 1, 0, []) := rfl
theorem rw_170_175 : mm_code 169 175 = some (.aload_n 0, 1, 0, 0, []) := rfl
theorem rw_170_176 : mm_code 169 176 = some (.invokevirtual 211, 3, 155, 1, [66, 0]) := rfl
theorem rw_170_179 : mm_code 169 179 = some (.iload 6, 2, 0, 0, []) := rfl
theorem rw_170_181 : mm_code 169 181 = some (.iload 5, 2, 0, 0, []) := rfl
theorem rw_170_183 : mm_code 169 183 = some (.iadd, 1, 0, 0, []) := rfl
theorem rw_170_184 : mm_code 169 184 = some (.istore 7, 2, 0, 0, []) := rfl
theorem rw_170_186 : mm_code 169 186 = some (.bipush 10, 2, 10, 0, []) := rfl
theorem rw_170_188 : mm_code 169 188 = some (.istore 8, 2, 0, 0, []) := rfl
theorem rw_170_190 : mm_code 169 190 = some (.iload 4, 2, 0, 0, []) := rfl
theorem rw_170_192 : mm_code 169 192 = some (.ifCond .eq 126, 3, 318, 0, []) := rfl
theorem rw_170_195 : mm_code 169 195 = some (.aload_n 0, 1, 0, 0, []) := rfl
theorem rw_170_196 : mm_code 169 196 = some (.iload_n 3, 1, 0, 0, []) := rfl
theorem rw_170_197 : mm_code 169 197 = some (.ifCond .ne 10, 3, 207, 0, []) := rfl
theorem rw_170_200 : mm_code 169 200 = some (.iload 6, 2, 0, 0, []) := rfl
theorem rw_170_202 : mm_code 169 202 = some (.iconst 1, 1, 1, 0, []) := rfl
theorem rw_170_203 : mm_code 169 203 = some (.iadd, 1, 0, 0, []) := rfl
theorem rw_170_204 : mm_code 169 204 = some (.goto 5, 3, 209, 0, []) := rfl
theorem rw_170_207 : mm_code 169 207 = some (.iload 6, 2, 0, 0, []) := rfl
theorem rw_170_209 : mm_code 169 209 = some (.aload_n 0, 1, 0, 0, []) := rfl
theorem rw_170_210 : mm_code 169 210 = some (.getfield 217, 3, 11, 14, [0, 68]) := rfl
theorem rw_170_213 : mm_code 169 213 = some (.iconst 1, 1, 1, 0, []) := rfl
theorem rw_170_214 : mm_code 169 214 = some (.isub, 1, 0, 0, []) := rfl
theorem rw_170_215 : mm_code 169 215 = some (.invokevirtual 266, 3, 161, 3, [83, 0]) := rfl
theorem rw_170_218 : mm_code 169 218 = some (.ifCond .ne 5, 3, 223, 0, []) := rfl
theorem rw_170_221 : mm_code 169 221 = some (.iconst 0, 1, 0, 0, []) := rfl
theorem rw_170_222 : mm_code 169 222 = some (.ireturn, 1, 1, 0, []) := rfl
theorem rw_170_223 : mm_code 169 223 = some (.aload_n 0, 1, 0, 0, []) := rfl
theorem rw_170_224 : mm_code 169 224 = some (.getfield 196, 3, 11, 9, [0, 61]) := rfl
theorem rw_170_227 : mm_code 169 227 = some (.istore 7, 2, 0, 0, []) := rfl
theorem rw_170_229 : mm_code 169 229 = some (.iload 7, 2, 0, 0, []) := rfl
theorem rw_170_231 : mm_code 169 231 = some (.iload 6, 2, 0, 0, []) := rfl
theorem rw_170_233 : mm_code 169 233 = some (.isub, 1, 0, 0, []) := rfl
theorem rw_170_234 : mm_code 169 234 = some (.bipush 23, 2, 23, 0, []) := rfl
theorem rw_170_236 : mm_code 169 236 = some (.if_icmp .le 9, 3, 245, 0, []) := rfl
theorem rw_170_239 : mm_code 169 239 = some (.aload_n 0, 1, 0, 0, []) := rfl
theorem rw_170_240 : mm_code 169 240 = some (.iconst 2, 1, 2, 0, []) := rfl
theorem rw_170_241 : mm_code 169 241 = some (.invokevirtual 208, 3, 151, 2, [65, 0]) := rfl
theorem rw_170_244 : mm_code 169 244 = some (.ireturn, 1, 1, 0, []) := rfl
theorem rw_170_245 : mm_code 169 245 = some (.aload_n 0, 1, 0, 0, []) := rfl
theorem rw_170_246 : mm_code 169 246 = some (.getfield 226, 3, 11, 25, [2, 71]) := rfl
theorem rw_170_249 : mm_code 169 249 = some (.iload 6, 2, 0, 0, []) := rfl
theorem rw_170_251 : mm_code 169 251 = some (.iload 7, 2, 0, 0, []) := rfl
theorem rw_170_253 : mm_code 169 253 = some (.invokestatic 270, 3, 167, 2, [84, 0]) := rfl
theorem rw_170_256 : mm_code 169 256 = some (.land, 1, 0, 0, []) := rfl
theorem rw_170_257 : mm_code 169 257 = some (.lconst 0, 1, 0, 0, []) := rfl
theorem rw_170_258 : mm_code 169 258 = some (.lcmp, 1, 0, 0, []) := rfl
theorem rw_170_259 : mm_code 169 259 = some (.ifCond .eq 9, 3, 268, 0, []) := rfl
theorem rw_170_262 : mm_code 169 262 = some (.aload_n 0, 1, 0, 0, []) := rfl
theorem rw_170_263 : mm_code 169 263 = some (.iconst 3, 1, 3, 0, []) := rfl
theorem rw_170_264 : mm_code 169 264 = some (.invokevirtual 208, 3, 151, 2, [65, 0]) := rfl
theorem rw_170_267 : mm_code 169 267 = some (.ireturn, 1, 1, 0, []) := rfl
theorem rw_170_268 : mm_code 169 268 = some (.aload_n 0, 1, 0, 0, []) := rfl
theorem rw_170_269 : mm_code 169 269 = some (.invokevirtual 211, 3, 155, 1, [66, 0]) := rfl
theorem rw_170_272 : mm_code 169 272 = some (.iload 7, 2, 0, 0, []) := rfl
theorem rw_170_274 : mm_code 169 274 = some (.iload 6, 2, 0, 0, []) := rfl
theorem rw_170_276 : mm_code 169 276 = some (.isub, 1, 0, 0, []) := rfl
theorem rw_170_277 : mm_code 169 277 = some (.iconst 1, 1, 1, 0, []) := rfl
theorem rw_170_278 : mm_code 169 278 = some (.iadd, 1, 0, 0, []) := rfl
theorem rw_170_279 : mm_code 169 279 = some (.istore 8, 2, 0, 0, []) := rfl
theorem rw_170_281 : mm_code 169 281 = some (.iload_n 3, 1, 0, 0, []) := rfl
theorem rw_170_282 : mm_code 169 282 = some (.iconst 3, 1, 3, 0, []) := rfl
theorem rw_170_283 : mm_code 169 283 = some (.if_icmp .ne 35, 3, 318, 0, []) := rfl
theorem rw_170_286 : mm_code 169 286 = some (.aload_n 0, 1, 0, 0, []) := rfl
theorem rw_170_287 : mm_code 169 287 = some (.iconst 1, 1, 1, 0, []) := rfl
theorem rw_170_288 : mm_code 169 288 = some (.iload 8, 2, 0, 0, []) := rfl
theorem rw_170_290 : mm_code 169 290 = some (.iconst 4, 1, 4, 0, []) := rfl
theorem rw_170_291 : mm_code 169 291 = some (.if_icmp .ge 8, 3, 299, 0, []) := rfl
theorem rw_170_294 : mm_code 169 294 = some (.iload 8, 2, 0, 0, []) := rfl
theorem rw_170_296 : mm_code 169 296 = some (.goto 4, 3, 300, 0, []) := rfl
theorem rw_170_299 : mm_code 169 299 = some (.iconst 4, 1, 4, 0, []) := rfl
theorem rw_170_300 : mm_code 169 300 = some (.invokevirtual 266, 3, 161, 3, [83, 0]) := rfl
theorem rw_170_303 : mm_code 169 303 = some (.ifCond .ne 5, 3, 308, 0, []) := rfl
theorem rw_170_306 : mm_code 169 306 = some (.iconst 0, 1, 0, 0, []) := rfl
theorem rw_170_307 : mm_code 169 307 = some (.ireturn, 1, 1, 0, []) := rfl
theorem rw_170_308 : mm_code 169 308 = some (.aload_n 0, 1, 0, 0, []) := rfl
theorem rw_170_309 : mm_code 169 309 = some (.getfield 196, 3, 11, 9, [0, 61]) := rfl
theorem rw_170_312 : mm_code 169 312 = some (.istore 8, 2, 0, 0, []) := rfl
theorem rw_170_314 : mm_code 169 314 = some (.aload_n 0, 1, 0, 0, []) := rfl
theorem rw_170_315 : mm_code 169 315 = some (.invokevirtual 211, 3, 155, 1, [66, 0]) := rfl
theorem rw_170_318 : mm_code 169 318 = some (.aload_n 0, 1, 0, 0, []) := rfl
theorem rw_170_319 : mm_code 169 319 = some (.dup, 1, 0, 0, []) := rfl
theorem rw_170_320 : mm_code 169 320 = some (.getfield 226, 3, 11, 25, [2, 71]) := rfl
theorem rw_170_323 : mm_code 169 323 = some (.iload 6, 2, 0, 0, []) := rfl
theorem rw_170_325 : mm_code 169 325 = some (.iload 7, 2, 0, 0, []) := rfl
theorem rw_170_327 : mm_code 169 327 = some (.invokestatic 270, 3, 167, 2, [84, 0]) := rfl
theorem rw_170_330 : mm_code 169 330 = some (.lor, 1, 0, 0, []) := rfl
theorem rw_170_331 : mm_code 169 331 = some (.putfield 226, 3, 11, 25, [2, 71]) := rfl
theorem rw_170_334 : mm_code 169 334 = some (.aload_n 0, 1, 0, 0, []) := rfl
theorem rw_170_335 : mm_code 169 335 = some (.getfield 20, 3, 11, 17, [3, 4]) := rfl
theorem rw_170_338 : mm_code 169 338 = some (.iload_n 1, 1, 0, 0, []) := rfl
theorem rw_170_339 : mm_code 169 339 = some (.iload_n 2, 1, 0, 0, []) := rfl
theorem rw_170_340 : mm_code 169 340 = some (.iastore, 1, 0, 0, []) := rfl
theorem rw_170_341 : mm_code 169 341 = some (.aload_n 0, 1, 0, 0, []) := rfl
theorem rw_170_342 : mm_code 169 342 = some (.getfield 23, 3, 11, 18, [3, 5]) := rfl
theorem rw_170_345 : mm_code 169 345 = some (.iload_n 1, 1, 0, 0, []) := rfl
theorem rw_170_346 : mm_code 169 346 = some (.iload_n 3, 1, 0, 0, []) := rfl
theorem rw_170_347 : mm_code 169 347 = some (.iastore, 1, 0, 0, []) := rfl
theorem rw_170_348 : mm_code 169 348 = some (.aload_n 0, 1, 0, 0, []) := rfl
theorem rw_170_349 : mm_code 169 349 = some (.getfield 26, 3, 11, 19, [3, 6]) := rfl
theorem rw_170_352 : mm_code 169 352 = some (.iload_n 1, 1, 0, 0, []) := rfl
theorem rw_170_353 : mm_code 169 353 = some (.iload 6, 2, 0, 0, []) := rfl
theorem rw_170_355 : mm_code 169 355 = some (.iastore, 1, 0, 0, []) := rfl
theorem rw_170_356 : mm_code 169 356 = some (.aload_n 0, 1, 0, 0, []) := rfl
theorem rw_170_357 : mm_code 169 357 = some (.getfield 29, 3, 11, 20, [3, 7]) := rfl
theorem rw_170_360 : mm_code 169 360 = some (.iload_n 1, 1, 0, 0, []) := rfl
theorem rw_170_361 : mm_code 169 361 = some (.iload 7, 2, 0, 0, []) := rfl
theorem rw_170_363 : mm_code 169 363 = some (.iastore, 1, 0, 0, []) := rfl
theorem rw_170_364 : mm_code 169 364 = some (.aload_n 0, 1, 0, 0, []) := rfl
theorem rw_170_365 : mm_code 169 365 = some (.getfield 32, 3, 11, 21, [3, 8]) := rfl
theorem rw_170_368 : mm_code 169 368 = some (.iload_n 1, 1, 0, 0, []) := rfl
theorem rw_170_369 : mm_code 169 369 = some (.iload 8, 2, 0, 0, []) := rfl
theorem rw_170_371 : mm_code 169 371 = some (.iastore, 1, 0, 0, []) := rfl
theorem rw_170_372 : mm_code 169 372 = some (.aload_n 0, 1, 0, 0, []) := rfl
theorem rw_170_373 : mm_code 169 373 = some (.dup, 1, 0, 0, []) := rfl
theorem rw_170_374 : mm_code 169 374 = some (.getfield 220, 3, 11, 15, [0, 69]) := rfl
theorem rw_170_377 : mm_code 169 377 = some (.iconst 1, 1, 1, 0, []) := rfl
theorem rw_170_378 : mm_code 169 378 = some (.iadd, 1, 0, 0, []) := rfl
theorem rw_170_379 : mm_code 169 379 = some (.putfield 220, 3, 11, 15, [0, 69]) := rfl
theorem rw_170_382 : mm_code 169 382 = some (.iconst 1, 1, 1, 0, []) := rfl
theorem rw_170_383 : mm_code 169 383 = some (.ireturn, 1, 1, 0, []) := rfl
theorem rw_171_0 : mm_code 170 0 = some (.aload_n 0, 1, 0, 0, []) := rfl
theorem rw_171_1 : mm_code 170 1 = some (.getfield 223, 3, 11, 16, [0, 70]) := rfl
theorem rw_171_4 : mm_code 170 4 = some (.bipush 12, 2, 12, 0, []) := rfl
theorem rw_171_6 : mm_code 170 6 = some (.if_icmp .ne 9, 3, 15, 0, []) := rfl
theorem rw_171_9 : mm_code 170 9 = some (.aload_n 0, 1, 0, 0, []) := rfl
theorem rw_171_10 : mm_code 170 10 = some (.iconst 2, 1, 2, 0, []) := rfl
theorem rw_171_11 : mm_code 170 11 = some (.invokevirtual 208, 3, 151, 2, [65, 0]) := rfl
theorem rw_171_14 : mm_code 170 14 = some (.ireturn, 1, 1, 0, []) := rfl
theorem rw_171_15 : mm_code 170 15 = some (.aload_n 0, 1, 0, 0, []) := rfl
theorem rw_171_16 : mm_code 170 16 = some (.invokevirtual 211, 3, 155, 1, [66, 0]) := rfl
theorem rw_171_19 : mm_code 170 19 = some (.aload_n 0, 1, 0, 0, []) := rfl
theorem rw_171_20 : mm_code 170 20 = some (.getfield 185, 3, 11, 8, [0, 58]) := rfl
theorem rw_171_23 : mm_code 170 23 = some (.iconst 2, 1, 2, 0, []) := rfl
theorem rw_171_24 : mm_code 170 24 = some (.if_icmp .eq 9, 3, 33, 0, []) := rfl
theorem rw_171_27 : mm_code 170 27 = some (.aload_n 0, 1, 0, 0, []) := rfl
theorem rw_171_28 : mm_code 170 28 = some (.iconst 1, 1, 1, 0, []) := rfl
theorem rw_171_29 : mm_code 170 29 = some (.invokevirtual 208, 3, 151, 2, [65, 0]) := rfl
theorem rw_171_32 : mm_code 170 32 = some (.ireturn, 1, 1, 0, []) := rfl
theorem rw_171_33 : mm_code 170 33 = some (.aload_n 0, 1, 0, 0, []) := rfl
theorem rw_171_34 : mm_code 170 34 = some (.aload_n 0, 1, 0, 0, []) := rfl
theorem rw_171_35 : mm_code 170 35 = some (.getfield 196, 3, 11, 9, [0, 61]) := rfl
theorem rw_171_38 : mm_code 170 38 = some (.invokevirtual 255, 3, 165, 2, [80, 0]) := rfl
theorem rw_171_41 : mm_code 170 41 = some (.istore_n 1, 1, 0, 0, []) := rfl
theorem rw_171_42 : mm_code 170 42 = some (.iload_n 1, 1, 0, 0, []) := rfl
theorem rw_171_43 : mm_code 170 43 = some (.ifCond .lt 16, 3, 59, 0, []) := rfl
theorem rw_171_46 : mm_code 170 46 = some (.aload_n 0, 1, 0, 0, []) := rfl
theorem rw_171_47 : mm_code 170 47 = some (.getfield 23, 3, 11, 18, [3, 5]) := rfl
theorem rw_171_50 : mm_code 170 50 = some (.bipush 8, 2, 8, 0, []) := rfl
theorem rw_171_52 : mm_code 170 52 = some (.iload_n 1, 1, 0, 0, []) := rfl
theorem rw_171_53 : mm_code 170 53 = some (.iadd, 1, 0, 0, []) := rfl
theorem rw_171_54 : mm_code 170 54 = some (.iaload, 1, 0, 0, []) := rfl
theorem rw_171_55 : mm_code 170 55 = some (.iconst 3, 1, 3, 0, []) := rfl
theorem rw_171_56 : mm_code 170 56 = some (.if_icmp .eq 9, 3, 65, 0, []) := rfl
theorem rw_171_59 : mm_code 170 59 = some (.aload_n 0, 1, 0, 0, []) := rfl
theorem rw_171_60 : mm_code 170 60 = some (.iconst 4, 1, 4, 0, []) := rfl
theorem rw_171_61 : mm_code 170 61 = some (.invokevirtual 208, 3, 151, 2, [65, 0]) := rfl
theorem rw_171_64 : mm_code 170 64 = some (.ireturn, 1, 1, 0, []) := rfl
theorem rw_171_65 : mm_code 170 65 = some (.aload_n 0, 1, 0, 0, []) := rfl
theorem rw_171_66 : mm_code 170 66 = some (.invokevirtual 211, 3, 155, 1, [66, 0]) := rfl
theorem rw_171_69 : mm_code 170 69 = some (.aload_n 0, 1, 0, 0, []) := rfl
theorem rw_171_70 : mm_code 170 70 = some (.invokevirtual 262, 3, 168, 1, [82, 0]) := rfl
theorem rw_171_73 : mm_code 170 73 = some (.ifCond .ne 5, 3, 78, 0, []) := rfl
theorem rw_171_76 : mm_code 170 76 = some (.iconst 0, 1, 0, 0, []) := rfl
theorem rw_171_77 : mm_code 170 77 = some (.ireturn, 1, 1, 0, []) := rfl
theorem rw_171_78 : mm_code 170 78 = some (.aload_n 0, 1, 0, 0, []) := rfl
theorem rw_171_79 : mm_code 170 79 = some (.getfield 196, 3, 11, 9, [0, 61]) := rfl
theorem rw_171_82 : mm_code 170 82 = some (.istore_n 2, 1, 0, 0, []) := rfl
theorem rw_171_83 : mm_code 170 83 = some (.aload_n 0, 1, 0, 0, []) := rfl
theorem rw_171_84 : mm_code 170 84 = some (.invokevirtual 211, 3, 155, 1, [66, 0]) := rfl
theorem rw_171_87 : mm_code 170 87 = some (.aload_n 0, 1, 0, 0, []) := rfl
theorem rw_171_88 : mm_code 170 88 = some (.getfield 185, 3, 11, 8, [0, 58]) := rfl
theorem rw_171_91 : mm_code 170 91 = some (.iconst 3, 1, 3, 0, []) := rfl
theorem rw_171_92 : mm_code 170 92 = some (.if_icmp .eq 9, 3, 101, 0, []) := rfl
theorem rw_171_95 : mm_code 170 95 = some (.aload_n 0, 1, 0, 0, []) := rfl
theorem rw_171_96 : mm_code 170 96 = some (.iconst 1, 1, 1, 0, []) := rfl
theorem rw_171_97 : mm_code 170 97 = some (.invokevirtual 208, 3, 151, 2, [65, 0]) := rfl
theorem rw_171_100 : mm_code 170 100 = some (.ireturn, 1, 1, 0, []) := rfl
theorem rw_171_101 : mm_code 170 101 = some (.iconst 0, 1, 0, 0, []) := rfl
theorem rw_171_102 : mm_code 170 102 = some (.istore_n 3, 1, 0, 0, []) := rfl
theorem rw_171_103 : mm_code 170 103 = some (.lconst 0, 1, 0, 0, []) := rfl
theorem rw_171_104 : mm_code 170 104 = some (.lstore 4, 2, 0, 0, []) := rfl
theorem rw_171_106 : mm_code 170 106 = some (.aload_n 0, 1, 0, 0, []) := rfl
theorem rw_171_107 : mm_code 170 107 = some (.getfield 185, 3, 11, 8, [0, 58]) := rfl
theorem rw_171_110 : mm_code 170 110 = some (.iconst 3, 1, 3, 0, []) := rfl
theorem rw_171_111 : mm_code 170 111 = some (.if_icmp .ne 107, 3, 218, 0, []) := rfl
theorem rw_171_114 : mm_code 170 114 = some (.iload_n 3, 1, 0, 0, []) := rfl
theorem rw_171_115 : mm_code 170 115 = some (.aload_n 0, 1, 0, 0, []) := rfl
theorem rw_171_116 : mm_code 170 116 = some (.getfield 32, 3, 11, 21, [3, 8]) := rfl
theorem rw_171_119 : mm_code 170 119 = some (.bipush 8, 2, 8, 0, []) := rfl
theorem rw_171_121 : mm_code 170 121 = some (.iload_n 1, 1, 0, 0, []) := rfl
theorem rw_171_122 : mm_code 170 122 = some (.iadd, 1, 0, 0, []) := rfl
theorem rw_171_123 : mm_code 170 123 = some (.iaload, 1, 0, 0, []) := rfl
theorem rw_171_124 : mm_code 170 124 = some (.if_icmp .eq 29, 3, 153, 0, []) := rfl
theorem rw_171_127 : mm_code 170 127 = some (.aload_n 0, 1, 0, 0, []) := rfl
theorem rw_171_128 : mm_code 170 128 = some (.getfield 196, 3, 11, 9, [0, 61]) := rfl
theorem rw_171_131 : mm_code 170 131 = some (.aload_n 0, 1, 0, 0, []) := rfl
theorem rw_171_132 : mm_code 170 132 = some (.getfield 29, 3, 11, 20, [3, 7]) := rfl
theorem rw_171_135 : mm_code 170 135 = some (.bipush 8, 2, 8, 0, []) := rfl
theorem rw_171_137 : mm_code 170 137 = some (.iload_n 1, 1, 0, 0, []) := rfl
theorem rw_171_138 : mm_code 170 138 = some (.iadd, 1, 0, 0, []) := rfl
theorem rw_171_139 : mm_code 170 139 = some (.iaload, 1, 0, 0, []) := rfl
theorem rw_171_140 : mm_code 170 140 = some (.aload_n 0, 1, 0, 0, []) := rfl
theorem rw_171_141 : mm_code 170 141 = some (.getfield 26, 3, 11, 19, [3, 6]) := rfl
theorem rw_171_144 : mm_code 170 144 = some (.bipush 8, 2, 8, 0, []) := rfl
theorem rw_171_146 : mm_code 170 146 = some (.iload_n 1, 1, 0, 0, []) := rfl
theorem rw_171_147 : mm_code 170 147 = some (.iadd, 1, 0, 0, []) := rfl
theorem rw_171_148 : mm_code 170 148 = some (.iaload, 1, 0, 0, []) := rfl
theorem rw_171_149 : mm_code 170 149 = some (.isub, 1, 0, 0, []) := rfl
theorem rw_171_150 : mm_code 170 150 = some (.if_icmp .le 9, 3, 159, 0, []) := rfl
theorem rw_171_153 : mm_code 170 153 = some (.aload_n 0, 1, 0, 0, []) := rfl
theorem rw_171_154 : mm_code 170 154 = some (.iconst 2, 1, 2, 0, []) := rfl
theorem rw_171_155 : mm_code 170 155 = some (.invokevirtual 208, 3, 151, 2, [65, 0]) := rfl
theorem rw_171_158 : mm_code 170 158 = some (.ireturn, 1, 1, 0, []) := rfl
theorem rw_171_159 : mm_code 170 159 = some (.lload 4, 2, 0, 0, []) := rfl
theorem rw_171_161 : mm_code 170 161 = some (.aload_n 0, 1, 0, 0, []) := rfl
theorem rw_171_162 : mm_code 170 162 = some (.getfield 26, 3, 11, 19, [3, 6]) := rfl
theorem rw_171_165 : mm_code 170 165 = some (.bipush 8, 2, 8, 0, []) := rfl
theorem rw_171_167 : mm_code 170 167 = some (.iload_n 1, 1, 0, 0, []) := rfl
theorem rw_171_168 : mm_code 170 168 = some (.iadd, 1, 0, 0, []) := rfl
theorem rw_171_169 : mm_code 170 169 = some (.iaload, 1, 0, 0, []) := rfl
theorem rw_171_170 : mm_code 170 170 = some (.aload_n 0, 1, 0, 0, []) := rfl
theorem rw_171_171 : mm_code 170 171 = some (.getfield 196, 3, 11, 9, [0, 61]) := rfl
theorem rw_171_174 : mm_code 170 174 = some (.iadd, 1, 0, 0, []) := rfl
theorem rw_171_175 : mm_code 170 175 = some (.invokestatic 169, 3, 149, 2, [53, 0]) := rfl
theorem rw_171_178 : mm_code 170 178 = some (.ifCond .eq 9, 3, 187, 0, []) := rfl
theorem rw_171_181 : mm_code 170 181 = some (.aload_n 0, 1, 0, 0, []) := rfl
theorem rw_171_182 : mm_code 170 182 = some (.iconst 3, 1, 3, 0, []) := rfl
theorem rw_171_183 : mm_code 170 183 = some (.invokevirtual 208, 3, 151, 2, [65, 0]) := rfl
theorem rw_171_186 : mm_code 170 186 = some (.ireturn, 1, 1, 0, []) := rfl
theorem rw_171_187 : mm_code 170 187 = some (.lload 4, 2, 0, 0, []) := rfl
theorem rw_171_189 : mm_code 170 189 = some (.lconst 1, 1, 1, 0, []) := rfl
theorem rw_171_190 : mm_code 170 190 = some (.aload_n 0, 1, 0, 0, []) := rfl
theorem rw_171_191 : mm_code 170 191 = some (.getfield 26, 3, 11, 19, [3, 6]) := rfl
theorem rw_171_194 : mm_code 170 194 = some (.bipush 8, 2, 8, 0, []) := rfl
theorem rw_171_196 : mm_code 170 196 = some (.iload_n 1, 1, 0, 0, []) := rfl
theorem rw_171_197 : mm_code 170 197 = some (.iadd, 1, 0, 0, []) := rfl
theorem rw_171_198 : mm_code 170 198 = some (.iaload, 1, 0, 0, []) := rfl
theorem rw_171_199 : mm_code 170 199 = some (.aload_n 0, 1, 0, 0, []) := rfl
theorem rw_171_200 : mm_code 170 200 = some (.getfield 196, 3, 11, 9, [0, 61]) := rfl
theorem rw_171_203 : mm_code 170 203 = some (.iadd, 1, 0, 0, []) := rfl
theorem rw_171_204 : mm_code 170 204 = some (.lshl, 1, 0, 0, []) := rfl
theorem rw_171_205 : mm_code 170 205 = some (.lor, 1, 0, 0, []) := rfl
theorem rw_171_206 : mm_code 170 206 = some (.lstore 4, 2, 0, 0, []) := rfl
theorem rw_171_208 : mm_code 170 208 = some (.iinc 3 1, 3, 1, 0, []) := rfl
theorem rw_171_211 : mm_code 170 211 = some (.aload_n 0, 1, 0, 0, []) := rfl
theorem rw_171_212 : mm_code 170 212 = some (.invokevirtual 211, 3, 155, 1, [66, 0]) := rfl
theorem rw_171_215 : mm_code 170 215 = some (.goto (-109), 3, 106, 0, []) := rfl
theorem rw_171_218 : mm_code 170 218 = some (.aload_n 0, 1, 0, 0, []) := rfl
theorem rw_171_219 : mm_code 170 219 = some (.bipush 59, 2, 59, 0, []) := rfl
theorem rw_171_221 : mm_code 170 221 = some (.invokevirtual 205, 3, 158, 2, [64, 0]) := rfl
theorem rw_171_224 : mm_code 170 224 = some (.ifCond .eq 22, 3, 246, 0, []) := rfl
theorem rw_171_227 : mm_code 170 227 = some (.iload_n 3, 1, 0, 0, []) := rfl
theorem rw_171_228 : mm_code 170 228 = some (.aload_n 0, 1, 0, 0, []) := rfl
theorem rw_171_229 : mm_code 170 229 = some (.getfield 32, 3, 11, 21, [3, 8]) := rfl
theorem rw_171_232 : mm_code 170 232 = some (.bipush 8, 2, 8, 0, []) := rfl
theorem rw_171_234 : mm_code 170 234 = some (.iload_n 1, 1, 0, 0, []) := rfl
theorem rw_171_235 : mm_code 170 235 = some (.iadd, 1, 0, 0, []) := rfl
theorem rw_171_236 : mm_code 170 236 = some (.iaload, 1, 0, 0, []) := rfl
theorem rw_171_237 : mm_code 170 237 = some (.if_icmp .ge 9, 3, 246, 0, []) := rfl
theorem rw_171_240 : mm_code 170 240 = some (.aload_n 0, 1, 0, 0, []) := rfl
theorem rw_171_241 : mm_code 170 241 = some (.iconst 5, 1, 5, 0, []) := rfl
theorem rw_171_242 : mm_code 170 242 = some (.invokevirtual 208, 3, 151, 2, [65, 0]) := rfl
theorem rw_171_245 : mm_code 170 245 = some (.ireturn, 1, 1, 0, []) := rfl
theorem rw_171_246 : mm_code 170 246 = some (.aload_n 0, 1, 0, 0, []) := rfl
theorem rw_171_247 : mm_code 170 247 = some (.getfield 35, 3, 11, 22, [3, 9]) := rfl
theorem rw_171_250 : mm_code 170 250 = some (.bipush 12, 2, 12, 0, []) := rfl
theorem rw_171_252 : mm_code 170 252 = some (.aload_n 0, 1, 0, 0, []) := rfl
theorem rw_171_253 : mm_code 170 253 = some (.getfield 223, 3, 11, 16, [0, 70]) := rfl
theorem rw_171_256 : mm_code 170 256 = some (.iadd, 1, 0, 0, []) := rfl
theorem rw_171_257 : mm_code 170 257 = some (.iload_n 2, 1, 0, 0, []) := rfl
theorem rw_171_258 : mm_code 170 258 = some (.iastore, 1, 0, 0, []) := rfl
theorem rw_171_259 : mm_code 170 259 = some (.aload_n 0, 1, 0, 0, []) := rfl
theorem rw_171_260 : mm_code 170 260 = some (.getfield 38, 3, 11, 23, [3, 10]) := rfl
theorem rw_171_263 : mm_code 170 263 = some (.bipush 12, 2, 12, 0, []) := rfl
theorem rw_171_265 : mm_code 170 265 = some (.aload_n 0, 1, 0, 0, []) := rfl
theorem rw_171_266 : mm_code 170 266 = some (.getfield 223, 3, 11, 16, [0, 70]) := rfl
theorem rw_171_269 : mm_code 170 269 = some (.iadd, 1, 0, 0, []) := rfl
theorem rw_171_270 : mm_code 170 270 = some (.iload_n 1, 1, 0, 0, []) := rfl
theorem rw_171_271 : mm_code 170 271 = some (.iastore, 1, 0, 0, []) := rfl
theorem rw_171_272 : mm_code 170 272 = some (.aload_n 0, 1, 0, 0, []) := rfl
theorem rw_171_273 : mm_code 170 273 = some (.getfield 41, 3, 11, 24, [3, 11]) := rfl
theorem rw_171_276 : mm_code 170 276 = some (.bipush 12, 2, 12, 0, []) := rfl
theorem rw_171_278 : mm_code 170 278 = some (.aload_n 0, 1, 0, 0, []) := rfl
theorem rw_171_279 : mm_code 170 279 = some (.getfield 223, 3, 11, 16, [0, 70]) := rfl
theorem rw_171_282 : mm_code 170 282 = some (.iadd, 1, 0, 0, []) := rfl
theorem rw_171_283 : mm_code 170 283 = some (.lload 4, 2, 0, 0, []) := rfl
theorem rw_171_285 : mm_code 170 285 = some (.lastore, 1, 0, 0, []) := rfl
theorem rw_171_286 : mm_code 170 286 = some (.aload_n 0, 1, 0, 0, []) := rfl
theorem rw_171_287 : mm_code 170 287 = some (.dup, 1, 0, 0, []) := rfl
theorem rw_171_288 : mm_code 170 288 = some (.getfield 223, 3, 11, 16, [0, 70]) := rfl
theorem rw_171_291 : mm_code 170 291 = some (.iconst 1, 1, 1, 0, []) := rfl
theorem rw_171_292 : mm_code 170 292 = some (.iadd, 1, 0, 0, []) := rfl
theorem rw_171_293 : mm_code 170 293 = some (.putfield 223, 3, 11, 16, [0, 70]) := rfl
theorem rw_171_296 : mm_code 170 296 = some (.iconst 1, 1, 1, 0, []) := rfl
theorem rw_171_297 : mm_code 170 297 = some (.ireturn, 1, 1, 0, []) := rfl
theorem rw_172_0 : mm_code 171 0 = some (.aload_n 0, 1, 0, 0, []) := rfl
theorem rw_172_1 : mm_code 171 1 = some (.getfield 185, 3, 11, 8, [0, 58]) := rfl
theorem rw_172_4 : mm_code 171 4 = some (.iconst 1, 1, 1, 0, []) := rfl
theorem rw_172_5 : mm_code 171 5 = some (.if_icmp .ne 22, 3, 27, 0, []) := rfl
theorem rw_172_8 : mm_code 171 8 = some (.aload_n 0, 1, 0, 0, []) := rfl
theorem rw_172_9 : mm_code 171 9 = some (.getfield 196, 3, 11, 9, [0, 61]) := rfl
theorem rw_172_12 : mm_code 171 12 = some (.iconst 2, 1, 2, 0, []) := rfl
theorem rw_172_13 : mm_code 171 13 = some (.if_icmp .gt 14, 3, 27, 0, []) := rfl
theorem rw_172_16 : mm_code 171 16 = some (.iload_n 1, 1, 0, 0, []) := rfl
theorem rw_172_17 : mm_code 171 17 = some (.ifCond .eq 16, 3, 33, 0, []) := rfl
theorem rw_172_20 : mm_code 171 20 = some (.aload_n 0, 1, 0, 0, []) := rfl
theorem rw_172_21 : mm_code 171 21 = some (.getfield 196, 3, 11, 9, [0, 61]) := rfl
theorem rw_172_24 : mm_code 171 24 = some (.ifCond .eq 9, 3, 33, 0, []) := rfl
theorem rw_172_27 : mm_code 171 27 = some (.aload_n 0, 1, 0, 0, []) := rfl
theorem rw_172_28 : mm_code 171 28 = some (.iconst 1, 1, 1, 0, []) := rfl
theorem rw_172_29 : mm_code 171 29 = some (.invokevirtual 208, 3, 151, 2, [65, 0]) := rfl
theorem rw_172_32 : mm_code 171 32 = some (.ireturn, 1, 1, 0, []) := rfl
theorem rw_172_33 : mm_code 171 33 = some (.aload_n 0, 1, 0, 0, []) := rfl
theorem rw_172_34 : mm_code 171 34 = some (.getfield 196, 3, 11, 9, [0, 61]) := rfl
theorem rw_172_37 : mm_code 171 37 = some (.ifCond .ne 45, 3, 82, 0, []) := rfl
theorem rw_172_40 : mm_code 171 40 = some (.iload_n 1, 1, 0, 0, []) := rfl
theorem rw_172_41 : mm_code 171 41 = some (.ifCond .ne 9, 3, 50, 0, []) := rfl
theorem rw_172_44 : mm_code 171 44 = some (.aload_n 0, 1, 0, 0, []) := rfl
theorem rw_172_45 : mm_code 171 45 = some (.iconst 3, 1, 3, 0, []) := rfl
theorem rw_172_46 : mm_code 171 46 = some (.invokevirtual 208, 3, 151, 2, [65, 0]) := rfl
theorem rw_172_49 : mm_code 171 49 = some (.ireturn, 1, 1, 0, []) := rfl
theorem rw_172_50 : mm_code 171 50 = some (.aload_n 0, 1, 0, 0, []) := rfl
theorem rw_172_51 : mm_code 171 51 = some (.invokevirtual 211, 3, 155, 1, [66, 0]) := rfl
theorem rw_172_54 : mm_code 171 54 = some (.aload_n 0, 1, 0, 0, []) := rfl
theorem rw_172_55 : mm_code 171 55 = some (.bipush 10, 2, 10, 0, []) := rfl
theorem rw_172_57 : mm_code 171 57 = some (.bipush 60, 2, 60, 0, []) := rfl
theorem rw_172_59 : mm_code 171 59 = some (.invokevirtual 266, 3, 161, 3, [83, 0]) := rfl
theorem rw_172_62 : mm_code 171 62 = some (.ifCond .ne 5, 3, 67, 0, []) := rfl
theorem rw_172_65 : mm_code 171 65 = some (.iconst 0, 1, 0, 0, []) := rfl
theorem rw_172_66 : mm_code 171 66 = some (.ireturn, 1, 1, 0, []) := rfl
theorem rw_172_67 : mm_code 171 67 = some (.aload_n 0, 1, 0, 0, []) := rfl
theorem rw_172_68 : mm_code 171 68 = some (.aload_n 0, 1, 0, 0, []) := rfl
theorem rw_172_69 : mm_code 171 69 = some (.getfield 196, 3, 11, 9, [0, 61]) := rfl
theorem rw_172_72 : mm_code 171 72 = some (.putfield 217, 3, 11, 14, [0, 68]) := rfl
theorem rw_172_75 : mm_code 171 75 = some (.aload_n 0, 1, 0, 0, []) := rfl
theorem rw_172_76 : mm_code 171 76 = some (.invokevirtual 211, 3, 155, 1, [66, 0]) := rfl
theorem rw_172_79 : mm_code 171 79 = some (.goto 30, 3, 109, 0, []) := rfl
theorem rw_172_82 : mm_code 171 82 = some (.aload_n 0, 1, 0, 0, []) := rfl
theorem rw_172_83 : mm_code 171 83 = some (.getfield 196, 3, 11, 9, [0, 61]) := rfl
theorem rw_172_86 : mm_code 171 86 = some (.iconst 1, 1, 1, 0, []) := rfl
theorem rw_172_87 : mm_code 171 87 = some (.if_icmp .ne 13, 3, 100, 0, []) := rfl
theorem rw_172_90 : mm_code 171 90 = some (.aload_n 0, 1, 0, 0, []) := rfl
theorem rw_172_91 : mm_code 171 91 = some (.invokevirtual 274, 3, 169, 1, [85, 0]) := rfl
theorem rw_172_94 : mm_code 171 94 = some (.ifCond .ne 15, 3, 109, 0, []) := rfl
theorem rw_172_97 : mm_code 171 97 = some (.goto 10, 3, 107, 0, []) := rfl
theorem rw_172_100 : mm_code 171 100 = some (.aload_n 0, 1, 0, 0, []) := rfl
theorem rw_172_101 : mm_code 171 101 = some (.invokevirtual 277, 3, 170, 1, [86, 0]) := rfl
theorem rw_172_104 : mm_code 171 104 = some (.ifCond .ne 5, 3, 109, 0, []) := rfl
theorem rw_172_107 : mm_code 171 107 = some (.iconst 0, 1, 0, 0, []) := rfl
theorem rw_172_108 : mm_code 171 108 = some (.ireturn, 1, 1, 0, []) := rfl
theorem rw_172_109 : mm_code 171 109 = some (.aload_n 0, 1, 0, 0, []) := rfl
theorem rw_172_110 : mm_code 171 110 = some (.bipush 59, 2, 59, 0, []) := rfl
theorem rw_172_112 : mm_code 171 112 = some (.invokevirtual 280, 3, 159, 2, [87, 0]) := rfl
theorem rw_172_115 : mm_code 171 115 = some (.ireturn, 1, 1, 0, []) := rfl
theorem rw_173_0 : mm_code 172 0 = some (.aload_n 0, 1, 0, 0, []) := rfl
theorem rw_173_1 : mm_code 172 1 = some (.iconst 0, 1, 0, 0, []) := rfl
theorem rw_173_2 : mm_code 172 2 = some (.putfield 163, 3, 11, 2, [0, 51]) := rfl
theorem rw_173_5 : mm_code 172 5 = some (.aload_n 0, 1, 0, 0, []) := rfl
theorem rw_173_6 : mm_code 172 6 = some (.iload_n 1, 1, 0, 0, []) := rfl
theorem rw_173_7 : mm_code 172 7 = some (.invokevirtual 283, 3, 162, 2, [88, 0]) := rfl
theorem rw_173_10 : mm_code 172 10 = some (.ifCond .ne 6, 3, 16, 0, []) := rfl
theorem rw_173_13 : mm_code 172 13 = some (.bipush (-2), 2, 2, 1, []) := rfl
theorem rw_173_15 : mm_code 172 15 = some (.ireturn, 1, 0, 0, []) := rfl
theorem rw_173_16 : mm_code 172 16 = some (.aload_n 0, 1, 0, 0, []) := rfl
theorem rw_173_17 : mm_code 172 17 = some (.invokevirtual 157, 3, 163, 1, [49, 0]) := rfl
theorem rw_173_20 : mm_code 172 20 = some (.iconst 0, 1, 0, 0, []) := rfl
theorem rw_173_21 : mm_code 172 21 = some (.istore_n 2, 1, 0, 0, []) := rfl
theorem rw_173_22 : mm_code 172 22 = some (.aload_n 0, 1, 0, 0, []) := rfl
theorem rw_173_23 : mm_code 172 23 = some (.getfield 185, 3, 11, 8, [0, 58]) := rfl
theorem rw_173_26 : mm_code 172 26 = some (.ifCond .eq 27, 3, 53, 0, []) := rfl
theorem rw_173_29 : mm_code 172 29 = some (.aload_n 0, 1, 0, 0, []) := rfl
theorem rw_173_30 : mm_code 172 30 = some (.iload_n 2, 1, 0, 0, []) := rfl
theorem rw_173_31 : mm_code 172 31 = some (.ifCond .ne 7, 3, 38, 0, []) := rfl
theorem rw_173_34 : mm_code 172 34 = some (.iconst 1, 1, 1, 0, []) := rfl
theorem rw_173_35 : mm_code 172 35 = some (.goto 4, 3, 39, 0, []) := rfl
theorem rw_173_38 : mm_code 172 38 = some (.iconst 0, 1, 0, 0, []) := rfl
theorem rw_173_39 : mm_code 172 39 = some (.invokevirtual 286, 3, 171, 2, [89, 0]) := rfl
theorem rw_173_42 : mm_code 172 42 = some (.ifCond .ne 5, 3, 47, 0, []) := rfl
theorem rw_173_45 : mm_code 172 45 = some (.iconst (-1), 1, 1, 1, []) := rfl
theorem rw_173_46 : mm_code 172 46 = some (.ireturn, 1, 0, 0, []) := rfl
theorem rw_173_47 : mm_code 172 47 = some (.iinc 2 1, 3, 1, 0, []) := rfl
theorem rw_173_50 : mm_code 172 50 = some (.goto (-28), 3, 22, 0, []) := rfl
theorem rw_173_53 : mm_code 172 53 = some (.aload_n 0, 1, 0, 0, []) := rfl
theorem rw_173_54 : mm_code 172 54 = some (.invokevirtual 160, 3, 164, 1, [50, 0]) := rfl
theorem rw_173_57 : mm_code 172 57 = some (.iload_n 2, 1, 0, 0, []) := rfl
theorem rw_173_58 : mm_code 172 58 = some (.ireturn, 1, 0, 0, []) := rfl
theorem rw_174_0 : mm_code 173 0 = some (.aload_n 0, 1, 0, 0, []) := rfl
theorem rw_174_1 : mm_code 173 1 = some (.iconst 0, 1, 0, 0, []) := rfl
theorem rw_174_2 : mm_code 173 2 = some (.putfield 163, 3, 11, 2, [0, 51]) := rfl
theorem rw_174_5 : mm_code 173 5 = some (.iload_n 1, 1, 0, 0, []) := rfl
theorem rw_174_6 : mm_code 173 6 = some (.ifCond .ne 10, 3, 16, 0, []) := rfl
theorem rw_174_9 : mm_code 173 9 = some (.aload_n 0, 1, 0, 0, []) := rfl
theorem rw_174_10 : mm_code 173 10 = some (.getfield 173, 3, 11, 4, [0, 54]) := rfl
theorem rw_174_13 : mm_code 173 13 = some (.goto 16, 3, 29, 0, []) := rfl
theorem rw_174_16 : mm_code 173 16 = some (.iload_n 1, 1, 0, 0, []) := rfl
theorem rw_174_17 : mm_code 173 17 = some (.iconst 1, 1, 1, 0, []) := rfl
theorem rw_174_18 : mm_code 173 18 = some (.if_icmp .ne 10, 3, 28, 0, []) := rfl
theorem rw_174_21 : mm_code 173 21 = some (.aload_n 0, 1, 0, 0, []) := rfl
theorem rw_174_22 : mm_code 173 22 = some (.getfield 16, 3, 11, 5, [0, 3]) := rfl
theorem rw_174_25 : mm_code 173 25 = some (.goto 4, 3, 29, 0, []) := rfl
theorem rw_174_28 : mm_code 173 28 = some (.iconst (-1), 1, 1, 1, []) := rfl
theorem rw_174_29 : mm_code 173 29 = some (.ireturn, 1, 0, 0, []) := rfl
theorem rw_175_0 : mm_code 174 0 = some (.iconst 0, 1, 0, 0, []) := rfl
theorem rw_175_1 : mm_code 174 1 = some (.istore_n 2, 1, 0, 0, []) := rfl
theorem rw_175_2 : mm_code 174 2 = some (.iload_n 2, 1, 0, 0, []) := rfl
theorem rw_175_3 : mm_code 174 3 = some (.aload_n 0, 1, 0, 0, []) := rfl
theorem rw_175_4 : mm_code 174 4 = some (.getfield 233, 3, 11, 12, [0, 73]) := rfl
theorem rw_175_7 : mm_code 174 7 = some (.if_icmp .ge 21, 3, 28, 0, []) := rfl
theorem rw_175_10 : mm_code 174 10 = some (.aload_n 0, 1, 0, 0, []) := rfl
theorem rw_175_11 : mm_code 174 11 = some (.getfield 20, 3, 11, 17, [3, 4]) := rfl
theorem rw_175_14 : mm_code 174 14 = some (.iload_n 2, 1, 0, 0, []) := rfl
theorem rw_175_15 : mm_code 174 15 = some (.iaload, 1, 0, 0, []) := rfl
theorem rw_175_16 : mm_code 174 16 = some (.iload_n 1, 1, 0, 0, []) := rfl
theorem rw_175_17 : mm_code 174 17 = some (.if_icmp .ne 5, 3, 22, 0, []) := rfl
theorem rw_175_20 : mm_code 174 20 = some (.iload_n 2, 1, 0, 0, []) := rfl
theorem rw_175_21 : mm_code 174 21 = some (.ireturn, 1, 0, 0, []) := rfl
theorem rw_175_22 : mm_code 174 22 = some (.iinc 2 1, 3, 1, 0, []) := rfl
theorem rw_175_25 : mm_code 174 25 = some (.goto (-23), 3, 2, 0, []) := rfl
theorem rw_175_28 : mm_code 174 28 = some (.iconst (-1), 1, 1, 1, []) := rfl
theorem rw_175_29 : mm_code 174 29 = some (.ireturn, 1, 0, 0, []) := rfl
theorem rw_176_0 : mm_code 175 0 = some (.iconst 0, 1, 0, 0, []) := rfl
theorem rw_176_1 : mm_code 175 1 = some (.istore_n 2, 1, 0, 0, []) := rfl
theorem rw_176_2 : mm_code 175 2 = some (.iload_n 2, 1, 0, 0, []) := rfl
theorem rw_176_3 : mm_code 175 3 = some (.aload_n 0, 1, 0, 0, []) := rfl
theorem rw_176_4 : mm_code 175 4 = some (.getfield 236, 3, 11, 13, [0, 74]) := rfl
theorem rw_176_7 : mm_code 175 7 = some (.if_icmp .ge 21, 3, 28, 0, []) := rfl
theorem rw_176_10 : mm_code 175 10 = some (.aload_n 0, 1, 0, 0, []) := rfl
theorem rw_176_11 : mm_code 175 11 = some (.getfield 35, 3, 11, 22, [3, 9]) := rfl
theorem rw_176_14 : mm_code 175 14 = some (.iload_n 2, 1, 0, 0, []) := rfl
theorem rw_176_15 : mm_code 175 15 = some (.iaload, 1, 0, 0, []) := rfl
theorem rw_176_16 : mm_code 175 16 = some (.iload_n 1, 1, 0, 0, []) := rfl
theorem rw_176_17 : mm_code 175 17 = some (.if_icmp .ne 5, 3, 22, 0, []) := rfl
theorem rw_176_20 : mm_code 175 20 = some (.iload_n 2, 1, 0, 0, []) := rfl
theorem rw_176_21 : mm_code 175 21 = some (.ireturn, 1, 0, 0, []) := rfl
theorem rw_176_22 : mm_code 175 22 = some (.iinc 2 1, 3, 1, 0, []) := rfl
theorem rw_176_25 : mm_code 175 25 = some (.goto (-23), 3, 2, 0, []) := rfl
theorem rw_176_28 : mm_code 175 28 = some (.iconst (-1), 1, 1, 1, []) := rfl
theorem rw_176_29 : mm_code 175 29 = some (.ireturn, 1, 0, 0, []) := rfl
theorem rw_177_0 : mm_code 176 0 = some (.aload_n 0, 1, 0, 0, []) := rfl
theorem rw_177_1 : mm_code 176 1 = some (.iconst 0, 1, 0, 0, []) := rfl
theorem rw_177_2 : mm_code 176 2 = some (.putfield 163, 3, 11, 2, [0, 51]) := rfl
theorem rw_177_5 : mm_code 176 5 = some (.iload_n 1, 1, 0, 0, []) := rfl
theorem rw_177_6 : mm_code 176 6 = some (.ifCond .ne 11, 3, 17, 0, []) := rfl
theorem rw_177_9 : mm_code 176 9 = some (.aload_n 0, 1, 0, 0, []) := rfl
theorem rw_177_10 : mm_code 176 10 = some (.iload_n 2, 1, 0, 0, []) := rfl
theorem rw_177_11 : mm_code 176 11 = some (.invokevirtual 290, 3, 174, 2, [90, 0]) := rfl
theorem rw_177_14 : mm_code 176 14 = some (.goto 17, 3, 31, 0, []) := rfl
theorem rw_177_17 : mm_code 176 17 = some (.iload_n 1, 1, 0, 0, []) := rfl
theorem rw_177_18 : mm_code 176 18 = some (.iconst 1, 1, 1, 0, []) := rfl
theorem rw_177_19 : mm_code 176 19 = some (.if_icmp .ne 11, 3, 30, 0, []) := rfl
theorem rw_177_22 : mm_code 176 22 = some (.aload_n 0, 1, 0, 0, []) := rfl
theorem rw_177_23 : mm_code 176 23 = some (.iload_n 2, 1, 0, 0, []) := rfl
theorem rw_177_24 : mm_code 176 24 = some (.invokevirtual 293, 3, 175, 2, [91, 0]) := rfl
theorem rw_177_27 : mm_code 176 27 = some (.goto 4, 3, 31, 0, []) := rfl
theorem rw_177_30 : mm_code 176 30 = some (.iconst (-1), 1, 1, 1, []) := rfl
theorem rw_177_31 : mm_code 176 31 = some (.ireturn, 1, 0, 0, []) := rfl
theorem rw_178_0 : mm_code 177 0 = some (.iload_n 1, 1, 0, 0, []) := rfl
theorem rw_178_1 : mm_code 177 1 = some (.ifCond .lt 15, 3, 16, 0, []) := rfl
theorem rw_178_4 : mm_code 177 4 = some (.iload_n 1, 1, 0, 0, []) := rfl
theorem rw_178_5 : mm_code 177 5 = some (.aload_n 0, 1, 0, 0, []) := rfl
theorem rw_178_6 : mm_code 177 6 = some (.getfield 233, 3, 11, 12, [0, 73]) := rfl
theorem rw_178_9 : mm_code 177 9 = some (.if_icmp .ge 7, 3, 16, 0, []) := rfl
theorem rw_178_12 : mm_code 177 12 = some (.iconst 1, 1, 1, 0, []) := rfl
theorem rw_178_13 : mm_code 177 13 = some (.goto 4, 3, 17, 0, []) := rfl
theorem rw_178_16 : mm_code 177 16 = some (.iconst 0, 1, 0, 0, []) := rfl
theorem rw_178_17 : mm_code 177 17 = some (.ireturn, 1, 1, 0, []) := rfl
theorem rw_179_0 : mm_code 178 0 = some (.aload_n 0, 1, 0, 0, []) := rfl
theorem rw_179_1 : mm_code 178 1 = some (.iload_n 1, 1, 0, 0, []) := rfl
theorem rw_179_2 : mm_code 178 2 = some (.invokevirtual 296, 3, 177, 2, [92, 0]) := rfl
theorem rw_179_5 : mm_code 178 5 = some (.ifCond .eq 17, 3, 22, 0, []) := rfl
theorem rw_179_8 : mm_code 178 8 = some (.aload_n 0, 1, 0, 0, []) := rfl
theorem rw_179_9 : mm_code 178 9 = some (.getfield 23, 3, 11, 18, [3, 5]) := rfl
theorem rw_179_12 : mm_code 178 12 = some (.iload_n 1, 1, 0, 0, []) := rfl
theorem rw_179_13 : mm_code 178 13 = some (.iaload, 1, 0, 0, []) := rfl
theorem rw_179_14 : mm_code 178 14 = some (.iconst 3, 1, 3, 0, []) := rfl
theorem rw_179_15 : mm_code 178 15 = some (.if_icmp .eq 7, 3, 22, 0, []) := rfl
theorem rw_179_18 : mm_code 178 18 = some (.iconst 1, 1, 1, 0, []) := rfl
theorem rw_179_19 : mm_code 178 19 = some (.goto 4, 3, 23, 0, []) := rfl
theorem rw_179_22 : mm_code 178 22 = some (.iconst 0, 1, 0, 0, []) := rfl
theorem rw_179_23 : mm_code 178 23 = some (.ireturn, 1, 1, 0, []) := rfl
theorem rw_180_0 : mm_code 179 0 = some (.iload_n 1, 1, 0, 0, []) := rfl
theorem rw_180_1 : mm_code 179 1 = some (.ifCond .lt 15, 3, 16, 0, []) := rfl
theorem rw_180_4 : mm_code 179 4 = some (.iload_n 1, 1, 0, 0, []) := rfl
theorem rw_180_5 : mm_code 179 5 = some (.aload_n 0, 1, 0, 0, []) := rfl
theorem rw_180_6 : mm_code 179 6 = some (.getfield 236, 3, 11, 13, [0, 74]) := rfl
theorem rw_180_9 : mm_code 179 9 = some (.if_icmp .ge 7, 3, 16, 0, []) := rfl
theorem rw_180_12 : mm_code 179 12 = some (.iconst 1, 1, 1, 0, []) := rfl
theorem rw_180_13 : mm_code 179 13 = some (.goto 4, 3, 17, 0, []) := rfl
theorem rw_180_16 : mm_code 179 16 = some (.iconst 0, 1, 0, 0, []) := rfl
theorem rw_180_17 : mm_code 179 17 = some (.ireturn, 1, 1, 0, []) := rfl
theorem rw_181_0 : mm_code 180 0 = some (.aload_n 0, 1, 0, 0, []) := rfl
theorem rw_181_1 : mm_code 180 1 = some (.iload_n 1, 1, 0, 0, []) := rfl
theorem rw_181_2 : mm_code 180 2 = some (.putfield 163, 3, 11, 2, [0, 51]) := rfl
theorem rw_181_5 : mm_code 180 5 = some (.iconst 0, 1, 0, 0, []) := rfl
theorem rw_181_6 : mm_code 180 6 = some (.ireturn, 1, 0, 0, []) := rfl
theorem rw_182_0 : mm_code 181 0 = some (.aload_n 0, 1, 0, 0, []) := rfl
theorem rw_182_1 : mm_code 181 1 = some (.iconst 0, 1, 0, 0, []) := rfl
theorem rw_182_2 : mm_code 181 2 = some (.putfield 163, 3, 11, 2, [0, 51]) := rfl
theorem rw_182_5 : mm_code 181 5 = some (.aload_n 0, 1, 0, 0, []) := rfl
theorem rw_182_6 : mm_code 181 6 = some (.iload_n 1, 1, 0, 0, []) := rfl
theorem rw_182_7 : mm_code 181 7 = some (.invokevirtual 296, 3, 177, 2, [92, 0]) := rfl
theorem rw_182_10 : mm_code 181 10 = some (.ifCond .ne 9, 3, 19, 0, []) := rfl
theorem rw_182_13 : mm_code 181 13 = some (.aload_n 0, 1, 0, 0, []) := rfl
theorem rw_182_14 : mm_code 181 14 = some (.iconst 1, 1, 1, 0, []) := rfl
theorem rw_182_15 : mm_code 181 15 = some (.invokevirtual 299, 3, 180, 2, [93, 0]) := rfl
theorem rw_182_18 : mm_code 181 18 = some (.ireturn, 1, 0, 0, []) := rfl
theorem rw_182_19 : mm_code 181 19 = some (.iload_n 2, 1, 0, 0, []) := rfl
theorem rw_182_20 : mm_code 181 20 = some (.tableswitch 60 0 3 #[32, 39, 46, 53], 32, 80, 0, [52, 59, 66, 73]) := rfl
theorem rw_182_52 : mm_code 181 52 = some (.aload_n 0, 1, 0, 0, []) := rfl
theorem rw_182_53 : mm_code 181 53 = some (.getfield 23, 3, 11, 18, [3, 5]) := rfl
theorem rw_182_56 : mm_code 181 56 = some (.iload_n 1, 1, 0, 0, []) := rfl
theorem rw_182_57 : mm_code 181 57 = some (.iaload, 1, 0, 0, []) := rfl
theorem rw_182_58 : mm_code 181 58 = some (.ireturn, 1, 0, 0, []) := rfl
theorem rw_182_59 : mm_code 181 59 = some (.aload_n 0, 1, 0, 0, []) := rfl
theorem rw_182_60 : mm_code 181 60 = some (.getfield 26, 3, 11, 19, [3, 6]) := rfl
theorem rw_182_63 : mm_code 181 63 = some (.iload_n 1, 1, 0, 0, []) := rfl
theorem rw_182_64 : mm_code 181 64 = some (.iaload, 1, 0, 0, []) := rfl
theorem rw_182_65 : mm_code 181 65 = some (.ireturn, 1, 0, 0, []) := rfl
theorem rw_182_66 : mm_code 181 66 = some (.aload_n 0, 1, 0, 0, []) := rfl
theorem rw_182_67 : mm_code 181 67 = some (.getfield 29, 3, 11, 20, [3, 7]) := rfl
theorem rw_182_70 : mm_code 181 70 = some (.iload_n 1, 1, 0, 0, []) := rfl
theorem rw_182_71 : mm_code 181 71 = some (.iaload, 1, 0, 0, []) := rfl
theorem rw_182_72 : mm_code 181 72 = some (.ireturn, 1, 0, 0, []) := rfl
theorem rw_182_73 : mm_code 181 73 = some (.aload_n 0, 1, 0, 0, []) := rfl
theorem rw_182_74 : mm_code 181 74 = some (.getfield 32, 3, 11, 21, [3, 8]) := rfl
theorem rw_182_77 : mm_code 181 77 = some (.iload_n 1, 1, 0, 0, []) := rfl
theorem rw_182_78 : mm_code 181 78 = some (.iaload, 1, 0, 0, []) := rfl
theorem rw_182_79 : mm_code 181 79 = some (.ireturn, 1, 0, 0, []) := rfl
theorem rw_182_80 : mm_code 181 80 = some (.aload_n 0, 1, 0, 0, []) := rfl
theorem rw_182_81 : mm_code 181 81 = some (.iconst 2, 1, 2, 0, []) := rfl
theorem rw_182_82 : mm_code 181 82 = some (.invokevirtual 299, 3, 180, 2, [93, 0]) := rfl
theorem rw_182_85 : mm_code 181 85 = some (.ireturn, 1, 0, 0, []) := rfl
theorem rw_183_0 : mm_code 182 0 = some (.aload_n 0, 1, 0, 0, []) := rfl
theorem rw_183_1 : mm_code 182 1 = some (.getfield 23, 3, 11, 18, [3, 5]) := rfl
theorem rw_183_4 : mm_code 182 4 = some (.iload_n 1, 1, 0, 0, []) := rfl
theorem rw_183_5 : mm_code 182 5 = some (.iaload, 1, 0, 0, []) := rfl
theorem rw_183_6 : mm_code 182 6 = some (.ifCond .ne 9, 3, 15, 0, []) := rfl
theorem rw_183_9 : mm_code 182 9 = some (.lconst 1, 1, 1, 0, []) := rfl
theorem rw_183_10 : mm_code 182 10 = some (.iload_n 2, 1, 0, 0, []) := rfl
theorem rw_183_11 : mm_code 182 11 = some (.lshl, 1, 0, 0, []) := rfl
theorem rw_183_12 : mm_code 182 12 = some (.goto 30, 3, 42, 0, []) := rfl
theorem rw_183_15 : mm_code 182 15 = some (.aload_n 0, 1, 0, 0, []) := rfl
theorem rw_183_16 : mm_code 182 16 = some (.getfield 23, 3, 11, 18, [3, 5]) := rfl
theorem rw_183_19 : mm_code 182 19 = some (.iload_n 1, 1, 0, 0, []) := rfl
theorem rw_183_20 : mm_code 182 20 = some (.iaload, 1, 0, 0, []) := rfl
theorem rw_183_21 : mm_code 182 21 = some (.iconst 1, 1, 1, 0, []) := rfl
theorem rw_183_22 : mm_code 182 22 = some (.if_icmp .ne 13, 3, 35, 0, []) := rfl
theorem rw_183_25 : mm_code 182 25 = some (.aload_n 0, 1, 0, 0, []) := rfl
theorem rw_183_26 : mm_code 182 26 = some (.getfield 45, 3, 11, 26, [3, 12]) := rfl
theorem rw_183_29 : mm_code 182 29 = some (.iload_n 2, 1, 0, 0, []) := rfl
theorem rw_183_30 : mm_code 182 30 = some (.iaload, 1, 0, 0, []) := rfl
theorem rw_183_31 : mm_code 182 31 = some (.i2l, 1, 0, 0, []) := rfl
theorem rw_183_32 : mm_code 182 32 = some (.goto 10, 3, 42, 0, []) := rfl
theorem rw_183_35 : mm_code 182 35 = some (.aload_n 0, 1, 0, 0, []) := rfl
theorem rw_183_36 : mm_code 182 36 = some (.getfield 48, 3, 11, 27, [3, 13]) := rfl
theorem rw_183_39 : mm_code 182 39 = some (.iload_n 2, 1, 0, 0, []) := rfl
theorem rw_183_40 : mm_code 182 40 = some (.iaload, 1, 0, 0, []) := rfl
theorem rw_183_41 : mm_code 182 41 = some (.i2l, 1, 0, 0, []) := rfl
theorem rw_183_42 : mm_code 182 42 = some (.aload_n 0, 1, 0, 0, []) := rfl
theorem rw_183_43 : mm_code 182 43 = some (.getfield 26, 3, 11, 19, [3, 6]) := rfl
theorem rw_183_46 : mm_code 182 46 = some (.iload_n 1, 1, 0, 0, []) := rfl
theorem rw_183_47 : mm_code 182 47 = some (.iaload, 1, 0, 0, []) := rfl
theorem rw_183_48 : mm_code 182 48 = some (.lshl, 1, 0, 0, []) := rfl
theorem rw_183_49 : mm_code 182 49 = some (.lreturn, 1, 0, 0, []) := rfl
theorem rw_184_0 : mm_code 183 0 = some (.aload_n 0, 1, 0, 0, []) := rfl
theorem rw_184_1 : mm_code 183 1 = some (.iload_n 1, 1, 0, 0, []) := rfl
theorem rw_184_2 : mm_code 183 2 = some (.invokevirtual 302, 3, 178, 2, [94, 0]) := rfl
theorem rw_184_5 : mm_code 183 5 = some (.ifCond .eq 21, 3, 26, 0, []) := rfl
theorem rw_184_8 : mm_code 183 8 = some (.iload_n 2, 1, 0, 0, []) := rfl
theorem rw_184_9 : mm_code 183 9 = some (.ifCond .lt 17, 3, 26, 0, []) := rfl
theorem rw_184_12 : mm_code 183 12 = some (.iload_n 2, 1, 0, 0, []) := rfl
theorem rw_184_13 : mm_code 183 13 = some (.aload_n 0, 1, 0, 0, []) := rfl
theorem rw_184_14 : mm_code 183 14 = some (.getfield 32, 3, 11, 21, [3, 8]) := rfl
theorem rw_184_17 : mm_code 183 17 = some (.iload_n 1, 1, 0, 0, []) := rfl
theorem rw_184_18 : mm_code 183 18 = some (.iaload, 1, 0, 0, []) := rfl
theorem rw_184_19 : mm_code 183 19 = some (.if_icmp .ge 7, 3, 26, 0, []) := rfl
theorem rw_184_22 : mm_code 183 22 = some (.iconst 1, 1, 1, 0, []) := rfl
theorem rw_184_23 : mm_code 183 23 = some (.goto 4, 3, 27, 0, []) := rfl
theorem rw_184_26 : mm_code 183 26 = some (.iconst 0, 1, 0, 0, []) := rfl
theorem rw_184_27 : mm_code 183 27 = some (.ireturn, 1, 1, 0, []) := rfl
theorem rw_185_0 : mm_code 184 0 = some (.aload_n 0, 1, 0, 0, []) := rfl
theorem rw_185_1 : mm_code 184 1 = some (.iconst 0, 1, 0, 0, []) := rfl
theorem rw_185_2 : mm_code 184 2 = some (.putfield 163, 3, 11, 2, [0, 51]) := rfl
theorem rw_185_5 : mm_code 184 5 = some (.aload_n 0, 1, 0, 0, []) := rfl
theorem rw_185_6 : mm_code 184 6 = some (.iload_n 1, 1, 0, 0, []) := rfl
theorem rw_185_7 : mm_code 184 7 = some (.iload_n 2, 1, 0, 0, []) := rfl
theorem rw_185_8 : mm_code 184 8 = some (.invokevirtual 305, 3, 183, 3, [95, 0]) := rfl
theorem rw_185_11 : mm_code 184 11 = some (.ifCond .eq 12, 3, 23, 0, []) := rfl
theorem rw_185_14 : mm_code 184 14 = some (.aload_n 0, 1, 0, 0, []) := rfl
theorem rw_185_15 : mm_code 184 15 = some (.iload_n 1, 1, 0, 0, []) := rfl
theorem rw_185_16 : mm_code 184 16 = some (.iload_n 2, 1, 0, 0, []) := rfl
theorem rw_185_17 : mm_code 184 17 = some (.invokevirtual 308, 3, 182, 3, [96, 0]) := rfl
theorem rw_185_20 : mm_code 184 20 = some (.goto 4, 3, 24, 0, []) := rfl
theorem rw_185_23 : mm_code 184 23 = some (.lconst 0, 1, 0, 0, []) := rfl
theorem rw_185_24 : mm_code 184 24 = some (.lreturn, 1, 0, 0, []) := rfl
theorem rw_186_0 : mm_code 185 0 = some (.iload_n 1, 1, 0, 0, []) := rfl
theorem rw_186_1 : mm_code 185 1 = some (.ifCond .lt 15, 3, 16, 0, []) := rfl
theorem rw_186_4 : mm_code 185 4 = some (.iload_n 1, 1, 0, 0, []) := rfl
theorem rw_186_5 : mm_code 185 5 = some (.aload_n 0, 1, 0, 0, []) := rfl
theorem rw_186_6 : mm_code 185 6 = some (.getfield 242, 3, 11, 29, [0, 76]) := rfl
theorem rw_186_9 : mm_code 185 9 = some (.if_icmp .gt 7, 3, 16, 0, []) := rfl
theorem rw_186_12 : mm_code 185 12 = some (.iconst 1, 1, 1, 0, []) := rfl
theorem rw_186_13 : mm_code 185 13 = some (.goto 4, 3, 17, 0, []) := rfl
theorem rw_186_16 : mm_code 185 16 = some (.iconst 0, 1, 0, 0, []) := rfl
theorem rw_186_17 : mm_code 185 17 = some (.ireturn, 1, 1, 0, []) := rfl
theorem rw_187_0 : mm_code 186 0 = some (.iload_n 1, 1, 0, 0, []) := rfl
theorem rw_187_1 : mm_code 186 1 = some (.ifCond .lt 15, 3, 16, 0, []) := rfl
theorem rw_187_4 : mm_code 186 4 = some (.iload_n 1, 1, 0, 0, []) := rfl
theorem rw_187_5 : mm_code 186 5 = some (.aload_n 0, 1, 0, 0, []) := rfl
theorem rw_187_6 : mm_code 186 6 = some (.getfield 239, 3, 11, 28, [0, 75]) := rfl
theorem rw_187_9 : mm_code 186 9 = some (.if_icmp .ge 7, 3, 16, 0, []) := rfl
theorem rw_187_12 : mm_code 186 12 = some (.iconst 1, 1, 1, 0, []) := rfl
theorem rw_187_13 : mm_code 186 13 = some (.goto 4, 3, 17, 0, []) := rfl
theorem rw_187_16 : mm_code 186 16 = some (.iconst 0, 1, 0, 0, []) := rfl
theorem rw_187_17 : mm_code 186 17 = some (.ireturn, 1, 1, 0, []) := rfl
theorem rw_188_0 : mm_code 187 0 = some (.iload_n 2, 1, 0, 0, []) := rfl
theorem rw_188_1 : mm_code 187 1 = some (.i2l, 1, 0, 0, []) := rfl
theorem rw_188_2 : mm_code 187 2 = some (.aload_n 0, 1, 0, 0, []) := rfl
theorem rw_188_3 : mm_code 187 3 = some (.getfield 26, 3, 11, 19, [3, 6]) := rfl
theorem rw_188_6 : mm_code 187 6 = some (.aload_n 0, 1, 0, 0, []) := rfl
theorem rw_188_7 : mm_code 187 7 = some (.getfield 38, 3, 11, 23, [3, 10]) := rfl
theorem rw_188_10 : mm_code 187 10 = some (.iload_n 1, 1, 0, 0, []) := rfl
theorem rw_188_11 : mm_code 187 11 = some (.iaload, 1, 0, 0, []) := rfl
theorem rw_188_12 : mm_code 187 12 = some (.iaload, 1, 0, 0, []) := rfl
theorem rw_188_13 : mm_code 187 13 = some (.lshl, 1, 0, 0, []) := rfl
theorem rw_188_14 : mm_code 187 14 = some (.lreturn, 1, 0, 0, []) := rfl
theorem rw_189_0 : mm_code 188 0 = some (.iconst 0, 1, 0, 0, []) := rfl
theorem rw_189_1 : mm_code 188 1 = some (.istore_n 2, 1, 0, 0, []) := rfl
theorem rw_189_2 : mm_code 188 2 = some (.iload_n 2, 1, 0, 0, []) := rfl
theorem rw_189_3 : mm_code 188 3 = some (.iload_n 1, 1, 0, 0, []) := rfl
theorem rw_189_4 : mm_code 188 4 = some (.if_icmp .ge 16, 3, 20, 0, []) := rfl
theorem rw_189_7 : mm_code 188 7 = some (.aload_n 0, 1, 0, 0, []) := rfl
theorem rw_189_8 : mm_code 188 8 = some (.getfield 63, 3, 11, 34, [3, 18]) := rfl
theorem rw_189_11 : mm_code 188 11 = some (.iload_n 2, 1, 0, 0, []) := rfl
theorem rw_189_12 : mm_code 188 12 = some (.iconst 1, 1, 1, 0, []) := rfl
theorem rw_189_13 : mm_code 188 13 = some (.bastore, 1, 0, 0, []) := rfl
theorem rw_189_14 : mm_code 188 14 = some (.iinc 2 1, 3, 1, 0, []) := rfl
theorem rw_189_17 : mm_code 188 17 = some (.goto (-15), 3, 2, 0, []) := rfl
theorem rw_189_20 : mm_code 188 20 = some (.iload_n 1, 1, 0, 0, []) := rfl
theorem rw_189_21 : mm_code 188 21 = some (.iconst 1, 1, 1, 0, []) := rfl
theorem rw_189_22 : mm_code 188 22 = some (.isub, 1, 0, 0, []) := rfl
theorem rw_189_23 : mm_code 188 23 = some (.istore_n 2, 1, 0, 0, []) := rfl
theorem rw_189_24 : mm_code 188 24 = some (.iload_n 2, 1, 0, 0, []) := rfl
theorem rw_189_25 : mm_code 188 25 = some (.ifCond .lt 40, 3, 65, 0, []) := rfl
theorem rw_189_28 : mm_code 188 28 = some (.aload_n 0, 1, 0, 0, []) := rfl
theorem rw_189_29 : mm_code 188 29 = some (.getfield 51, 3, 11, 30, [3, 14]) := rfl
theorem rw_189_32 : mm_code 188 32 = some (.iload_n 2, 1, 0, 0, []) := rfl
theorem rw_189_33 : mm_code 188 33 = some (.iaload, 1, 0, 0, []) := rfl
theorem rw_189_34 : mm_code 188 34 = some (.iconst 5, 1, 5, 0, []) := rfl
theorem rw_189_35 : mm_code 188 35 = some (.if_icmp .ne 24, 3, 59, 0, []) := rfl
theorem rw_189_38 : mm_code 188 38 = some (.aload_n 0, 1, 0, 0, []) := rfl
theorem rw_189_39 : mm_code 188 39 = some (.getfield 63, 3, 11, 34, [3, 18]) := rfl
theorem rw_189_42 : mm_code 188 42 = some (.iload_n 2, 1, 0, 0, []) := rfl
theorem rw_189_43 : mm_code 188 43 = some (.baload, 1, 0, 0, []) := rfl
theorem rw_189_44 : mm_code 188 44 = some (.ifCond .eq 15, 3, 59, 0, []) := rfl
theorem rw_189_47 : mm_code 188 47 = some (.aload_n 0, 1, 0, 0, []) := rfl
theorem rw_189_48 : mm_code 188 48 = some (.getfield 63, 3, 11, 34, [3, 18]) := rfl
theorem rw_189_51 : mm_code 188 51 = some (.aload_n 0, 1, 0, 0, []) := rfl
theorem rw_189_52 : mm_code 188 52 = some (.getfield 54, 3, 11, 31, [3, 15]) := rfl
theorem rw_189_55 : mm_code 188 55 = some (.iload_n 2, 1, 0, 0, []) := rfl
theorem rw_189_56 : mm_code 188 56 = some (.iaload, 1, 0, 0, []) := rfl
theorem rw_189_57 : mm_code 188 57 = some (.iconst 0, 1, 0, 0, []) := rfl
theorem rw_189_58 : mm_code 188 58 = some (.bastore, 1, 0, 0, []) := rfl
theorem rw_189_59 : mm_code 188 59 = some (.iinc 2 (-1), 3, 1, 1, []) := rfl
theorem rw_189_62 : mm_code 188 62 = some (.goto (-38), 3, 24, 0, []) := rfl
theorem rw_189_65 : mm_code 188 65 = some (.iconst 0, 1, 0, 0, []) := rfl
theorem rw_189_66 : mm_code 188 66 = some (.istore_n 2, 1, 0, 0, []) := rfl
theorem rw_189_67 : mm_code 188 67 = some (.iload_n 2, 1, 0, 0, []) := rfl
theorem rw_189_68 : mm_code 188 68 = some (.aload_n 0, 1, 0, 0, []) := rfl
theorem rw_189_69 : mm_code 188 69 = some (.getfield 236, 3, 11, 13, [0, 74]) := rfl
theorem rw_189_72 : mm_code 188 72 = some (.if_icmp .ge 21, 3, 93, 0, []) := rfl
theorem rw_189_75 : mm_code 188 75 = some (.aload_n 0, 1, 0, 0, []) := rfl
theorem rw_189_76 : mm_code 188 76 = some (.getfield 67, 3, 11, 35, [3, 19]) := rfl
theorem rw_189_79 : mm_code 188 79 = some (.iload_n 2, 1, 0, 0, []) := rfl
theorem rw_189_80 : mm_code 188 80 = some (.aload_n 0, 1, 0, 0, []) := rfl
theorem rw_189_81 : mm_code 188 81 = some (.getfield 41, 3, 11, 24, [3, 11]) := rfl
theorem rw_189_84 : mm_code 188 84 = some (.iload_n 2, 1, 0, 0, []) := rfl
theorem rw_189_85 : mm_code 188 85 = some (.laload, 1, 0, 0, []) := rfl
theorem rw_189_86 : mm_code 188 86 = some (.lastore, 1, 0, 0, []) := rfl
theorem rw_189_87 : mm_code 188 87 = some (.iinc 2 1, 3, 1, 0, []) := rfl
theorem rw_189_90 : mm_code 188 90 = some (.goto (-23), 3, 67, 0, []) := rfl
theorem rw_189_93 : mm_code 188 93 = some (.iconst 0, 1, 0, 0, []) := rfl
theorem rw_189_94 : mm_code 188 94 = some (.istore_n 2, 1, 0, 0, []) := rfl
theorem rw_189_95 : mm_code 188 95 = some (.iload_n 2, 1, 0, 0, []) := rfl
theorem rw_189_96 : mm_code 188 96 = some (.aload_n 0, 1, 0, 0, []) := rfl
theorem rw_189_97 : mm_code 188 97 = some (.getfield 239, 3, 11, 28, [0, 75]) := rfl
theorem rw_189_100 : mm_code 188 100 = some (.if_icmp .ge 49, 3, 149, 0, []) := rfl
theorem rw_189_103 : mm_code 188 103 = some (.aload_n 0, 1, 0, 0, []) := rfl
theorem rw_189_104 : mm_code 188 104 = some (.getfield 70, 3, 11, 36, [3, 20]) := rfl
theorem rw_189_107 : mm_code 188 107 = some (.iload_n 2, 1, 0, 0, []) := rfl
theorem rw_189_108 : mm_code 188 108 = some (.lconst 0, 1, 0, 0, []) := rfl
theorem rw_189_109 : mm_code 188 109 = some (.lastore, 1, 0, 0, []) := rfl
theorem rw_189_110 : mm_code 188 110 = some (.aload_n 0, 1, 0, 0, []) := rfl
theorem rw_189_111 : mm_code 188 111 = some (.getfield 76, 3, 11, 38, [3, 22]) := rfl
theorem rw_189_114 : mm_code 188 114 = some (.iload_n 2, 1, 0, 0, []) := rfl
theorem rw_189_115 : mm_code 188 115 = some (.iconst 0, 1, 0, 0, []) := rfl
theorem rw_189_116 : mm_code 188 116 = some (.iastore, 1, 0, 0, []) := rfl
theorem rw_189_117 : mm_code 188 117 = some (.iconst 0, 1, 0, 0, []) := rfl
theorem rw_189_118 : mm_code 188 118 = some (.istore_n 3, 1, 0, 0, []) := rfl
theorem rw_189_119 : mm_code 188 119 = some (.iload_n 3, 1, 0, 0, []) := rfl
theorem rw_189_120 : mm_code 188 120 = some (.bipush 8, 2, 8, 0, []) := rfl
theorem rw_189_122 : mm_code 188 122 = some (.if_icmp .ge 21, 3, 143, 0, []) := rfl
theorem rw_189_125 : mm_code 188 125 = some (.aload_n 0, 1, 0, 0, []) := rfl
theorem rw_189_126 : mm_code 188 126 = some (.getfield 73, 3, 11, 37, [3, 21]) := rfl
theorem rw_189_129 : mm_code 188 129 = some (.bipush 8, 2, 8, 0, []) := rfl
theorem rw_189_131 : mm_code 188 131 = some (.iload_n 2, 1, 0, 0, []) := rfl
theorem rw_189_132 : mm_code 188 132 = some (.imul, 1, 0, 0, []) := rfl
theorem rw_189_133 : mm_code 188 133 = some (.iload_n 3, 1, 0, 0, []) := rfl
theorem rw_189_134 : mm_code 188 134 = some (.iadd, 1, 0, 0, []) := rfl
theorem rw_189_135 : mm_code 188 135 = some (.iconst (-1), 1, 1, 1, []) := rfl
theorem rw_189_136 : mm_code 188 136 = some (.iastore, 1, 0, 0, []) := rfl
theorem rw_189_137 : mm_code 188 137 = some (.iinc 3 1, 3, 1, 0, []) := rfl
theorem rw_189_140 : mm_code 188 140 = some (.goto (-21), 3, 119, 0, []) := rfl
theorem rw_189_143 : mm_code 188 143 = some (.iinc 2 1, 3, 1, 0, []) := rfl
theorem rw_189_146 : mm_code 188 146 = some (.goto (-51), 3, 95, 0, []) := rfl
theorem rw_189_149 : mm_code 188 149 = some (.iconst 0, 1, 0, 0, []) := rfl
theorem rw_189_150 : mm_code 188 150 = some (.istore_n 2, 1, 0, 0, []) := rfl
theorem rw_189_151 : mm_code 188 151 = some (.iload_n 2, 1, 0, 0, []) := rfl
theorem rw_189_152 : mm_code 188 152 = some (.iload_n 1, 1, 0, 0, []) := rfl
theorem rw_189_153 : mm_code 188 153 = some (.if_icmp .ge 23, 3, 176, 0, []) := rfl
theorem rw_189_156 : mm_code 188 156 = some (.aload_n 0, 1, 0, 0, []) := rfl
theorem rw_189_157 : mm_code 188 157 = some (.getfield 63, 3, 11, 34, [3, 18]) := rfl
theorem rw_189_160 : mm_code 188 160 = some (.iload_n 2, 1, 0, 0, []) := rfl
theorem rw_189_161 : mm_code 188 161 = some (.baload, 1, 0, 0, []) := rfl
theorem rw_189_162 : mm_code 188 162 = some (.ifCond .eq 8, 3, 170, 0, []) := rfl
theorem rw_189_165 : mm_code 188 165 = some (.aload_n 0, 1, 0, 0, []) := rfl
theorem rw_189_166 : mm_code 188 166 = some (.iload_n 2, 1, 0, 0, []) := rfl
theorem rw_189_167 : mm_code 188 167 = some (.invokevirtual 311, 3, 189, 2, [97, 0]) := rfl
theorem rw_189_170 : mm_code 188 170 = some (.iinc 2 1, 3, 1, 0, []) := rfl
theorem rw_189_173 : mm_code 188 173 = some (.goto (-22), 3, 151, 0, []) := rfl
theorem rw_189_176 : mm_code 188 176 = some (.return_, 1, 0, 0, []) := rfl
theorem rw_190_0 : mm_code 189 0 = some (.aload_n 0, 1, 0, 0, []) := rfl
theorem rw_190_1 : mm_code 189 1 = some (.getfield 54, 3, 11, 31, [3, 15]) := rfl
theorem rw_190_4 : mm_code 189 4 = some (.iload_n 1, 1, 0, 0, []) := rfl
theorem rw_190_5 : mm_code 189 5 = some (.iaload, 1, 0, 0, []) := rfl
theorem rw_190_6 : mm_code 189 6 = some (.istore_n 2, 1, 0, 0, []) := rfl
theorem rw_190_7 : mm_code 189 7 = some (.aload_n 0, 1, 0, 0, []) := rfl
theorem rw_190_8 : mm_code 189 8 = some (.getfield 51, 3, 11, 30, [3, 14]) := rfl
theorem rw_190_11 : mm_code 189 11 = some (.iload_n 1, 1, 0, 0, []) := rfl
theorem rw_190_12 : mm_code 189 12 = some (.iaload, 1, 0, 0, []) := rfl
theorem rw_190_13 : mm_code 189 13 = some (.tableswitch 189 0 4 #[35, 85, 125, 145, 169], 35, 202, 0, [48, 98, 138, 158, 182]) := rfl
theorem rw_190_48 : mm_code 189 48 = some (.aload_n 0, 1, 0, 0, []) := rfl
theorem rw_190_49 : mm_code 189 49 = some (.getfield 70, 3, 11, 36, [3, 20]) := rfl
theorem rw_190_52 : mm_code 189 52 = some (.iload_n 2, 1, 0, 0, []) := rfl
theorem rw_190_53 : mm_code 189 53 = some (.dup2, 1, 0, 0, []) := rfl
theorem rw_190_54 : mm_code 189 54 = some (.laload, 1, 0, 0, []) := rfl
theorem rw_190_55 : mm_code 189 55 = some (.aload_n 0, 1, 0, 0, []) := rfl
theorem rw_190_56 : mm_code 189 56 = some (.aload_n 0, 1, 0, 0, []) := rfl
theorem rw_190_57 : mm_code 189 57 = some (.getfield 57, 3, 11, 32, [3, 16]) := rfl
theorem rw_190_60 : mm_code 189 60 = some (.iload_n 1, 1, 0, 0, []) := rfl
theorem rw_190_61 : mm_code 189 61 = some (.iaload, 1, 0, 0, []) := rfl
theorem rw_190_62 : mm_code 189 62 = some (.aload_n 0, 1, 0, 0, []) := rfl
theorem rw_190_63 : mm_code 189 63 = some (.getfield 60, 3, 11, 33, [3, 17]) := rfl
theorem rw_190_66 : mm_code 189 66 = some (.iload_n 1, 1, 0, 0, []) := rfl
theorem rw_190_67 : mm_code 189 67 = some (.iaload, 1, 0, 0, []) := rfl
theorem rw_190_68 : mm_code 189 68 = some (.invokevirtual 308, 3, 182, 3, [96, 0]) := rfl
theorem rw_190_71 : mm_code 189 71 = some (.lor, 1, 0, 0, []) := rfl
theorem rw_190_72 : mm_code 189 72 = some (.lastore, 1, 0, 0, []) := rfl
theorem rw_190_73 : mm_code 189 73 = some (.aload_n 0, 1, 0, 0, []) := rfl
theorem rw_190_74 : mm_code 189 74 = some (.getfield 73, 3, 11, 37, [3, 21]) := rfl
theorem rw_190_77 : mm_code 189 77 = some (.bipush 8, 2, 8, 0, []) := rfl
theorem rw_190_79 : mm_code 189 79 = some (.iload_n 2, 1, 0, 0, []) := rfl
theorem rw_190_80 : mm_code 189 80 = some (.imul, 1, 0, 0, []) := rfl
theorem rw_190_81 : mm_code 189 81 = some (.aload_n 0, 1, 0, 0, []) := rfl
theorem rw_190_82 : mm_code 189 82 = some (.getfield 57, 3, 11, 32, [3, 16]) := rfl
theorem rw_190_85 : mm_code 189 85 = some (.iload_n 1, 1, 0, 0, []) := rfl
theorem rw_190_86 : mm_code 189 86 = some (.iaload, 1, 0, 0, []) := rfl
theorem rw_190_87 : mm_code 189 87 = some (.iadd, 1, 0, 0, []) := rfl
theorem rw_190_88 : mm_code 189 88 = some (.aload_n 0, 1, 0, 0, []) := rfl
theorem rw_190_89 : mm_code 189 89 = some (.getfield 60, 3, 11, 33, [3, 17]) := rfl
theorem rw_190_92 : mm_code 189 92 = some (.iload_n 1, 1, 0, 0, []) := rfl
theorem rw_190_93 : mm_code 189 93 = some (.iaload, 1, 0, 0, []) := rfl
theorem rw_190_94 : mm_code 189 94 = some (.iastore, 1, 0, 0, []) := rfl
theorem rw_190_95 : mm_code 189 95 = some (.goto 107, 3, 202, 0, []) := rfl
theorem rw_190_98 : mm_code 189 98 = some (.aload_n 0, 1, 0, 0, []) := rfl
theorem rw_190_99 : mm_code 189 99 = some (.getfield 70, 3, 11, 36, [3, 20]) := rfl
theorem rw_190_102 : mm_code 189 102 = some (.iload_n 2, 1, 0, 0, []) := rfl
theorem rw_190_103 : mm_code 189 103 = some (.dup2, 1, 0, 0, []) := rfl
theorem rw_190_104 : mm_code 189 104 = some (.laload, 1, 0, 0, []) := rfl
theorem rw_190_105 : mm_code 189 105 = some (.aload_n 0, 1, 0, 0, []) := rfl
theorem rw_190_106 : mm_code 189 106 = some (.getfield 67, 3, 11, 35, [3, 19]) := rfl
theorem rw_190_109 : mm_code 189 109 = some (.aload_n 0, 1, 0, 0, []) := rfl
theorem rw_190_110 : mm_code 189 110 = some (.getfield 57, 3, 11, 32, [3, 16]) := rfl
theorem rw_190_113 : mm_code 189 113 = some (.iload_n 1, 1, 0, 0, []) := rfl
theorem rw_190_114 : mm_code 189 114 = some (.iaload, 1, 0, 0, []) := rfl
theorem rw_190_115 : mm_code 189 115 = some (.laload, 1, 0, 0, []) := rfl
theorem rw_190_116 : mm_code 189 116 = some (.lor, 1, 0, 0, []) := rfl
theorem rw_190_117 : mm_code 189 117 = some (.lastore, 1, 0, 0, []) := rfl
theorem rw_190_118 : mm_code 189 118 = some (.aload_n 0, 1, 0, 0, []) := rfl
theorem rw_190_119 : mm_code 189 119 = some (.getfield 76, 3, 11, 38, [3, 22]) := rfl
theorem rw_190_122 : mm_code 189 122 = some (.iload_n 2, 1, 0, 0, []) := rfl
theorem rw_190_123 : mm_code 189 123 = some (.dup2, 1, 0, 0, []) := rfl
theorem rw_190_124 : mm_code 189 124 = some (.iaload, 1, 0, 0, []) := rfl
theorem rw_190_125 : mm_code 189 125 = some (.iconst 1, 1, 1, 0, []) := rfl
theorem rw_190_126 : mm_code 189 126 = some (.aload_n 0, 1, 0, 0, []) := rfl
theorem rw_190_127 : mm_code 189 127 = some (.getfield 57, 3, 11, 32, [3, 16]) := rfl
theorem rw_190_130 : mm_code 189 130 = some (.iload_n 1, 1, 0, 0, []) := rfl
theorem rw_190_131 : mm_code 189 131 = some (.iaload, 1, 0, 0, []) := rfl
theorem rw_190_132 : mm_code 189 132 = some (.ishl, 1, 0, 0, []) := rfl
theorem rw_190_133 : mm_code 189 133 = some (.ior, 1, 0, 0, []) := rfl
theorem rw_190_134 : mm_code 189 134 = some (.iastore, 1, 0, 0, []) := rfl
theorem rw_190_135 : mm_code 189 135 = some (.goto 67, 3, 202, 0, []) := rfl
theorem rw_190_138 : mm_code 189 138 = some (.aload_n 0, 1, 0, 0, []) := rfl
theorem rw_190_139 : mm_code 189 139 = some (.getfield 70, 3, 11, 36, [3, 20]) := rfl
theorem rw_190_142 : mm_code 189 142 = some (.iload_n 2, 1, 0, 0, []) := rfl
theorem rw_190_143 : mm_code 189 143 = some (.dup2, 1, 0, 0, []) := rfl
theorem rw_190_144 : mm_code 189 144 = some (.laload, 1, 0, 0, []) := rfl
theorem rw_190_145 : mm_code 189 145 = some (.lconst 1, 1, 1, 0, []) := rfl
theorem rw_190_146 : mm_code 189 146 = some (.aload_n 0, 1, 0, 0, []) := rfl
theorem rw_190_147 : mm_code 189 147 = some (.getfield 57, 3, 11, 32, [3, 16]) := rfl
theorem rw_190_150 : mm_code 189 150 = some (.iload_n 1, 1, 0, 0, []) := rfl
theorem rw_190_151 : mm_code 189 151 = some (.iaload, 1, 0, 0, []) := rfl
theorem rw_190_152 : mm_code 189 152 = some (.lshl, 1, 0, 0, []) := rfl
theorem rw_190_153 : mm_code 189 153 = some (.lor, 1, 0, 0, []) := rfl
theorem rw_190_154 : mm_code 189 154 = some (.lastore, 1, 0, 0, []) := rfl
theorem rw_190_155 : mm_code 189 155 = some (.goto 47, 3, 202, 0, []) := rfl
theorem rw_190_158 : mm_code 189 158 = some (.aload_n 0, 1, 0, 0, []) := rfl
theorem rw_190_159 : mm_code 189 159 = some (.getfield 70, 3, 11, 36, [3, 20]) := rfl
theorem rw_190_162 : mm_code 189 162 = some (.iload_n 2, 1, 0, 0, []) := rfl
theorem rw_190_163 : mm_code 189 163 = some (.dup2, 1, 0, 0, []) := rfl
theorem rw_190_164 : mm_code 189 164 = some (.laload, 1, 0, 0, []) := rfl
theorem rw_190_165 : mm_code 189 165 = some (.lconst 1, 1, 1, 0, []) := rfl
theorem rw_190_166 : mm_code 189 166 = some (.aload_n 0, 1, 0, 0, []) := rfl
theorem rw_190_167 : mm_code 189 167 = some (.getfield 57, 3, 11, 32, [3, 16]) := rfl
theorem rw_190_170 : mm_code 189 170 = some (.iload_n 1, 1, 0, 0, []) := rfl
theorem rw_190_171 : mm_code 189 171 = some (.iaload, 1, 0, 0, []) := rfl
theorem rw_190_172 : mm_code 189 172 = some (.lshl, 1, 0, 0, []) := rfl
theorem rw_190_173 : mm_code 189 173 = some (.ldc2_w 315, 3, 1, 1, [98]) := rfl
theorem rw_190_176 : mm_code 189 176 = some (.lxor, 1, 0, 0, []) := rfl
theorem rw_190_177 : mm_code 189 177 = some (.land, 1, 0, 0, []) := rfl
theorem rw_190_178 : mm_code 189 178 = some (.lastore, 1, 0, 0, []) := rfl
theorem rw_190_179 : mm_code 189 179 = some (.goto 23, 3, 202, 0, []) := rfl
theorem rw_190_182 : mm_code 189 182 = some (.aload_n 0, 1, 0, 0, []) := rfl
theorem rw_190_183 : mm_code 189 183 = some (.getfield 67, 3, 11, 35, [3, 19]) := rfl
theorem rw_190_186 : mm_code 189 186 = some (.iload_n 2, 1, 0, 0, []) := rfl
theorem rw_190_187 : mm_code 189 187 = some (.aload_n 0, 1, 0, 0, []) := rfl
theorem rw_190_188 : mm_code 189 188 = some (.iload_n 2, 1, 0, 0, []) := rfl
theorem rw_190_189 : mm_code 189 189 = some (.aload_n 0, 1, 0, 0, []) := rfl
theorem rw_190_190 : mm_code 189 190 = some (.getfield 57, 3, 11, 32, [3, 16]) := rfl
theorem rw_190_193 : mm_code 189 193 = some (.iload_n 1, 1, 0, 0, []) := rfl
theorem rw_190_194 : mm_code 189 194 = some (.iaload, 1, 0, 0, []) := rfl
theorem rw_190_195 : mm_code 189 195 = some (.invokevirtual 317, 3, 187, 3, [99, 0]) := rfl
theorem rw_190_198 : mm_code 189 198 = some (.lastore, 1, 0, 0, []) := rfl
theorem rw_190_199 : mm_code 189 199 = some (.goto 3, 3, 202, 0, []) := rfl
theorem rw_190_202 : mm_code 189 202 = some (.return_, 1, 0, 0, []) := rfl
theorem rw_191_0 : mm_code 190 0 = some (.aload_n 0, 1, 0, 0, []) := rfl
theorem rw_191_1 : mm_code 190 1 = some (.getfield 51, 3, 11, 30, [3, 14]) := rfl
theorem rw_191_4 : mm_code 190 4 = some (.aload_n 0, 1, 0, 0, []) := rfl
theorem rw_191_5 : mm_code 190 5 = some (.getfield 242, 3, 11, 29, [0, 76]) := rfl
theorem rw_191_8 : mm_code 190 8 = some (.iload_n 1, 1, 0, 0, []) := rfl
theorem rw_191_9 : mm_code 190 9 = some (.iastore, 1, 0, 0, []) := rfl
theorem rw_191_10 : mm_code 190 10 = some (.aload_n 0, 1, 0, 0, []) := rfl
theorem rw_191_11 : mm_code 190 11 = some (.getfield 54, 3, 11, 31, [3, 15]) := rfl
theorem rw_191_14 : mm_code 190 14 = some (.aload_n 0, 1, 0, 0, []) := rfl
theorem rw_191_15 : mm_code 190 15 = some (.getfield 242, 3, 11, 29, [0, 76]) := rfl
theorem rw_191_18 : mm_code 190 18 = some (.iload_n 2, 1, 0, 0, []) := rfl
theorem rw_191_19 : mm_code 190 19 = some (.iastore, 1, 0, 0, []) := rfl
theorem rw_191_20 : mm_code 190 20 = some (.aload_n 0, 1, 0, 0, []) := rfl
theorem rw_191_21 : mm_code 190 21 = some (.getfield 57, 3, 11, 32, [3, 16]) := rfl
theorem rw_191_24 : mm_code 190 24 = some (.aload_n 0, 1, 0, 0, []) := rfl
theorem rw_191_25 : mm_code 190 25 = some (.getfield 242, 3, 11, 29, [0, 76]) := rfl
theorem rw_191_28 : mm_code 190 28 = some (.iload_n 3, 1, 0, 0, []) := rfl
theorem rw_191_29 : mm_code 190 29 = some (.iastore, 1, 0, 0, []) := rfl
theorem rw_191_30 : mm_code 190 30 = some (.aload_n 0, 1, 0, 0, []) := rfl
theorem rw_191_31 : mm_code 190 31 = some (.getfield 60, 3, 11, 33, [3, 17]) := rfl
theorem rw_191_34 : mm_code 190 34 = some (.aload_n 0, 1, 0, 0, []) := rfl
theorem rw_191_35 : mm_code 190 35 = some (.getfield 242, 3, 11, 29, [0, 76]) := rfl
theorem rw_191_38 : mm_code 190 38 = some (.iload 4, 2, 0, 0, []) := rfl
theorem rw_191_40 : mm_code 190 40 = some (.iastore, 1, 0, 0, []) := rfl
theorem rw_191_41 : mm_code 190 41 = some (.aload_n 0, 1, 0, 0, []) := rfl
theorem rw_191_42 : mm_code 190 42 = some (.dup, 1, 0, 0, []) := rfl
theorem rw_191_43 : mm_code 190 43 = some (.getfield 242, 3, 11, 29, [0, 76]) := rfl
theorem rw_191_46 : mm_code 190 46 = some (.iconst 1, 1, 1, 0, []) := rfl
theorem rw_191_47 : mm_code 190 47 = some (.iadd, 1, 0, 0, []) := rfl
theorem rw_191_48 : mm_code 190 48 = some (.putfield 242, 3, 11, 29, [0, 76]) := rfl
theorem rw_191_51 : mm_code 190 51 = some (.aload_n 0, 1, 0, 0, []) := rfl
theorem rw_191_52 : mm_code 190 52 = some (.getfield 242, 3, 11, 29, [0, 76]) := rfl
theorem rw_191_55 : mm_code 190 55 = some (.iconst 1, 1, 1, 0, []) := rfl
theorem rw_191_56 : mm_code 190 56 = some (.isub, 1, 0, 0, []) := rfl
theorem rw_191_57 : mm_code 190 57 = some (.ireturn, 1, 0, 0, []) := rfl
theorem rw_192_0 : mm_code 191 0 = some (.aload_n 0, 1, 0, 0, []) := rfl
theorem rw_192_1 : mm_code 191 1 = some (.iconst 0, 1, 0, 0, []) := rfl
theorem rw_192_2 : mm_code 191 2 = some (.putfield 163, 3, 11, 2, [0, 51]) := rfl
theorem rw_192_5 : mm_code 191 5 = some (.aload_n 0, 1, 0, 0, []) := rfl
theorem rw_192_6 : mm_code 191 6 = some (.iload_n 1, 1, 0, 0, []) := rfl
theorem rw_192_7 : mm_code 191 7 = some (.invokevirtual 320, 3, 185, 2, [100, 0]) := rfl
theorem rw_192_10 : mm_code 191 10 = some (.ifCond .eq 11, 3, 21, 0, []) := rfl
theorem rw_192_13 : mm_code 191 13 = some (.aload_n 0, 1, 0, 0, []) := rfl
theorem rw_192_14 : mm_code 191 14 = some (.iload_n 2, 1, 0, 0, []) := rfl
theorem rw_192_15 : mm_code 191 15 = some (.invokevirtual 323, 3, 179, 2, [101, 0]) := rfl
theorem rw_192_18 : mm_code 191 18 = some (.ifCond .ne 5, 3, 23, 0, []) := rfl
theorem rw_192_21 : mm_code 191 21 = some (.lconst 0, 1, 0, 0, []) := rfl
theorem rw_192_22 : mm_code 191 22 = some (.lreturn, 1, 0, 0, []) := rfl
theorem rw_192_23 : mm_code 191 23 = some (.aload_n 0, 1, 0, 0, []) := rfl
theorem rw_192_24 : mm_code 191 24 = some (.iload_n 1, 1, 0, 0, []) := rfl
theorem rw_192_25 : mm_code 191 25 = some (.invokevirtual 326, 3, 188, 2, [102, 0]) := rfl
theorem rw_192_28 : mm_code 191 28 = some (.aload_n 0, 1, 0, 0, []) := rfl
theorem rw_192_29 : mm_code 191 29 = some (.getfield 67, 3, 11, 35, [3, 19]) := rfl
theorem rw_192_32 : mm_code 191 32 = some (.iload_n 2, 1, 0, 0, []) := rfl
theorem rw_192_33 : mm_code 191 33 = some (.laload, 1, 0, 0, []) := rfl
theorem rw_192_34 : mm_code 191 34 = some (.lreturn, 1, 0, 0, []) := rfl
theorem rw_193_0 : mm_code 192 0 = some (.aload_n 0, 1, 0, 0, []) := rfl
theorem rw_193_1 : mm_code 192 1 = some (.iconst 0, 1, 0, 0, []) := rfl
theorem rw_193_2 : mm_code 192 2 = some (.putfield 163, 3, 11, 2, [0, 51]) := rfl
theorem rw_193_5 : mm_code 192 5 = some (.aload_n 0, 1, 0, 0, []) := rfl
theorem rw_193_6 : mm_code 192 6 = some (.getfield 239, 3, 11, 28, [0, 75]) := rfl
theorem rw_193_9 : mm_code 192 9 = some (.bipush 30, 2, 30, 0, []) := rfl
theorem rw_193_11 : mm_code 192 11 = some (.if_icmp .ne 5, 3, 16, 0, []) := rfl
theorem rw_193_14 : mm_code 192 14 = some (.iconst (-1), 1, 1, 1, []) := rfl
theorem rw_193_15 : mm_code 192 15 = some (.ireturn, 1, 0, 0, []) := rfl
theorem rw_193_16 : mm_code 192 16 = some (.aload_n 0, 1, 0, 0, []) := rfl
theorem rw_193_17 : mm_code 192 17 = some (.getfield 79, 3, 11, 39, [3, 23]) := rfl
theorem rw_193_20 : mm_code 192 20 = some (.aload_n 0, 1, 0, 0, []) := rfl
theorem rw_193_21 : mm_code 192 21 = some (.getfield 82, 3, 11, 40, [3, 24]) := rfl
theorem rw_193_24 : mm_code 192 24 = some (.iconst 0, 1, 0, 0, []) := rfl
theorem rw_193_25 : mm_code 192 25 = some (.iaload, 1, 0, 0, []) := rfl
theorem rw_193_26 : mm_code 192 26 = some (.aload_n 0, 1, 0, 0, []) := rfl
theorem rw_193_27 : mm_code 192 27 = some (.getfield 239, 3, 11, 28, [0, 75]) := rfl
theorem rw_193_30 : mm_code 192 30 = some (.iastore, 1, 0, 0, []) := rfl
theorem rw_193_31 : mm_code 192 31 = some (.aload_n 0, 1, 0, 0, []) := rfl
theorem rw_193_32 : mm_code 192 32 = some (.getfield 82, 3, 11, 40, [3, 24]) := rfl
theorem rw_193_35 : mm_code 192 35 = some (.iconst 0, 1, 0, 0, []) := rfl
theorem rw_193_36 : mm_code 192 36 = some (.dup2, 1, 0, 0, []) := rfl
theorem rw_193_37 : mm_code 192 37 = some (.iaload, 1, 0, 0, []) := rfl
theorem rw_193_38 : mm_code 192 38 = some (.iconst 1, 1, 1, 0, []) := rfl
theorem rw_193_39 : mm_code 192 39 = some (.iadd, 1, 0, 0, []) := rfl
theorem rw_193_40 : mm_code 192 40 = some (.iastore, 1, 0, 0, []) := rfl
theorem rw_193_41 : mm_code 192 41 = some (.aload_n 0, 1, 0, 0, []) := rfl
theorem rw_193_42 : mm_code 192 42 = some (.dup, 1, 0, 0, []) := rfl
theorem rw_193_43 : mm_code 192 43 = some (.getfield 239, 3, 11, 28, [0, 75]) := rfl
theorem rw_193_46 : mm_code 192 46 = some (.iconst 1, 1, 1, 0, []) := rfl
theorem rw_193_47 : mm_code 192 47 = some (.iadd, 1, 0, 0, []) := rfl
theorem rw_193_48 : mm_code 192 48 = some (.putfield 239, 3, 11, 28, [0, 75]) := rfl
theorem rw_193_51 : mm_code 192 51 = some (.aload_n 0, 1, 0, 0, []) := rfl
theorem rw_193_52 : mm_code 192 52 = some (.getfield 239, 3, 11, 28, [0, 75]) := rfl
theorem rw_193_55 : mm_code 192 55 = some (.iconst 1, 1, 1, 0, []) := rfl
theorem rw_193_56 : mm_code 192 56 = some (.isub, 1, 0, 0, []) := rfl
theorem rw_193_57 : mm_code 192 57 = some (.ireturn, 1, 0, 0, []) := rfl
theorem rw_194_0 : mm_code 193 0 = some (.aload_n 0, 1, 0, 0, []) := rfl
theorem rw_194_1 : mm_code 193 1 = some (.iconst 0, 1, 0, 0, []) := rfl
theorem rw_194_2 : mm_code 193 2 = some (.putfield 163, 3, 11, 2, [0, 51]) := rfl
theorem rw_194_5 : mm_code 193 5 = some (.aload_n 0, 1, 0, 0, []) := rfl
theorem rw_194_6 : mm_code 193 6 = some (.getfield 242, 3, 11, 29, [0, 76]) := rfl
theorem rw_194_9 : mm_code 193 9 = some (.sipush 150, 3, 150, 0, []) := rfl
theorem rw_194_12 : mm_code 193 12 = some (.if_icmp .eq 20, 3, 32, 0, []) := rfl
theorem rw_194_15 : mm_code 193 15 = some (.aload_n 0, 1, 0, 0, []) := rfl
theorem rw_194_16 : mm_code 193 16 = some (.iload_n 1, 1, 0, 0, []) := rfl
theorem rw_194_17 : mm_code 193 17 = some (.invokevirtual 329, 3, 186, 2, [103, 0]) := rfl
theorem rw_194_20 : mm_code 193 20 = some (.ifCond .eq 12, 3, 32, 0, []) := rfl
theorem rw_194_23 : mm_code 193 23 = some (.aload_n 0, 1, 0, 0, []) := rfl
theorem rw_194_24 : mm_code 193 24 = some (.iload_n 2, 1, 0, 0, []) := rfl
theorem rw_194_25 : mm_code 193 25 = some (.iload_n 3, 1, 0, 0, []) := rfl
theorem rw_194_26 : mm_code 193 26 = some (.invokevirtual 305, 3, 183, 3, [95, 0]) := rfl
theorem rw_194_29 : mm_code 193 29 = some (.ifCond .ne 7, 3, 36, 0, []) := rfl
theorem rw_194_32 : mm_code 193 32 = some (.iconst (-1), 1, 1, 1, []) := rfl
theorem rw_194_33 : mm_code 193 33 = some (.goto 11, 3, 44, 0, []) := rfl
theorem rw_194_36 : mm_code 193 36 = some (.aload_n 0, 1, 0, 0, []) := rfl
theorem rw_194_37 : mm_code 193 37 = some (.iconst 0, 1, 0, 0, []) := rfl
theorem rw_194_38 : mm_code 193 38 = some (.iload_n 1, 1, 0, 0, []) := rfl
theorem rw_194_39 : mm_code 193 39 = some (.iload_n 2, 1, 0, 0, []) := rfl
theorem rw_194_40 : mm_code 193 40 = some (.iload_n 3, 1, 0, 0, []) := rfl
theorem rw_194_41 : mm_code 193 41 = some (.invokevirtual 332, 3, 190, 5, [104, 0]) := rfl
theorem rw_194_44 : mm_code 193 44 = some (.ireturn, 1, 0, 0, []) := rfl
theorem rw_195_0 : mm_code 194 0 = some (.aload_n 0, 1, 0, 0, []) := rfl
theorem rw_195_1 : mm_code 194 1 = some (.iconst 0, 1, 0, 0, []) := rfl
theorem rw_195_2 : mm_code 194 2 = some (.putfield 163, 3, 11, 2, [0, 51]) := rfl
theorem rw_195_5 : mm_code 194 5 = some (.aload_n 0, 1, 0, 0, []) := rfl
theorem rw_195_6 : mm_code 194 6 = some (.getfield 242, 3, 11, 29, [0, 76]) := rfl
theorem rw_195_9 : mm_code 194 9 = some (.sipush 150, 3, 150, 0, []) := rfl
theorem rw_195_12 : mm_code 194 12 = some (.if_icmp .eq 19, 3, 31, 0, []) := rfl
theorem rw_195_15 : mm_code 194 15 = some (.aload_n 0, 1, 0, 0, []) := rfl
theorem rw_195_16 : mm_code 194 16 = some (.iload_n 1, 1, 0, 0, []) := rfl
theorem rw_195_17 : mm_code 194 17 = some (.invokevirtual 329, 3, 186, 2, [103, 0]) := rfl
theorem rw_195_20 : mm_code 194 20 = some (.ifCond .eq 11, 3, 31, 0, []) := rfl
theorem rw_195_23 : mm_code 194 23 = some (.aload_n 0, 1, 0, 0, []) := rfl
theorem rw_195_24 : mm_code 194 24 = some (.iload_n 2, 1, 0, 0, []) := rfl
theorem rw_195_25 : mm_code 194 25 = some (.invokevirtual 323, 3, 179, 2, [101, 0]) := rfl
theorem rw_195_28 : mm_code 194 28 = some (.ifCond .ne 7, 3, 35, 0, []) := rfl
theorem rw_195_31 : mm_code 194 31 = some (.iconst (-1), 1, 1, 1, []) := rfl
theorem rw_195_32 : mm_code 194 32 = some (.goto 11, 3, 43, 0, []) := rfl
theorem rw_195_35 : mm_code 194 35 = some (.aload_n 0, 1, 0, 0, []) := rfl
theorem rw_195_36 : mm_code 194 36 = some (.iconst 1, 1, 1, 0, []) := rfl
theorem rw_195_37 : mm_code 194 37 = some (.iload_n 1, 1, 0, 0, []) := rfl
theorem rw_195_38 : mm_code 194 38 = some (.iload_n 2, 1, 0, 0, []) := rfl
theorem rw_195_39 : mm_code 194 39 = some (.iconst 0, 1, 0, 0, []) := rfl
theorem rw_195_40 : mm_code 194 40 = some (.invokevirtual 332, 3, 190, 5, [104, 0]) := rfl
theorem rw_195_43 : mm_code 194 43 = some (.ireturn, 1, 0, 0, []) := rfl
theorem rw_196_0 : mm_code 195 0 = some (.aload_n 0, 1, 0, 0, []) := rfl
theorem rw_196_1 : mm_code 195 1 = some (.iconst 0, 1, 0, 0, []) := rfl
theorem rw_196_2 : mm_code 195 2 = some (.putfield 163, 3, 11, 2, [0, 51]) := rfl
theorem rw_196_5 : mm_code 195 5 = some (.aload_n 0, 1, 0, 0, []) := rfl
theorem rw_196_6 : mm_code 195 6 = some (.getfield 242, 3, 11, 29, [0, 76]) := rfl
theorem rw_196_9 : mm_code 195 9 = some (.sipush 150, 3, 150, 0, []) := rfl
theorem rw_196_12 : mm_code 195 12 = some (.if_icmp .eq 23, 3, 35, 0, []) := rfl
theorem rw_196_15 : mm_code 195 15 = some (.aload_n 0, 1, 0, 0, []) := rfl
theorem rw_196_16 : mm_code 195 16 = some (.iload_n 1, 1, 0, 0, []) := rfl
theorem rw_196_17 : mm_code 195 17 = some (.invokevirtual 329, 3, 186, 2, [103, 0]) := rfl
theorem rw_196_20 : mm_code 195 20 = some (.ifCond .eq 15, 3, 35, 0, []) := rfl
theorem rw_196_23 : mm_code 195 23 = some (.iload_n 2, 1, 0, 0, []) := rfl
theorem rw_196_24 : mm_code 195 24 = some (.ifCond .lt 11, 3, 35, 0, []) := rfl
theorem rw_196_27 : mm_code 195 27 = some (.iload_n 2, 1, 0, 0, []) := rfl
theorem rw_196_28 : mm_code 195 28 = some (.aload_n 0, 1, 0, 0, []) := rfl
theorem rw_196_29 : mm_code 195 29 = some (.getfield 230, 3, 11, 11, [0, 72]) := rfl
theorem rw_196_32 : mm_code 195 32 = some (.if_icmp .lt 7, 3, 39, 0, []) := rfl
theorem rw_196_35 : mm_code 195 35 = some (.iconst (-1), 1, 1, 1, []) := rfl
theorem rw_196_36 : mm_code 195 36 = some (.goto 19, 3, 55, 0, []) := rfl
theorem rw_196_39 : mm_code 195 39 = some (.aload_n 0, 1, 0, 0, []) := rfl
theorem rw_196_40 : mm_code 195 40 = some (.iload_n 3, 1, 0, 0, []) := rfl
theorem rw_196_41 : mm_code 195 41 = some (.ifCond .eq 7, 3, 48, 0, []) := rfl
theorem rw_196_44 : mm_code 195 44 = some (.iconst 3, 1, 3, 0, []) := rfl
theorem rw_196_45 : mm_code 195 45 = some (.goto 4, 3, 49, 0, []) := rfl
theorem rw_196_48 : mm_code 195 48 = some (.iconst 2, 1, 2, 0, []) := rfl
theorem rw_196_49 : mm_code 195 49 = some (.iload_n 1, 1, 0, 0, []) := rfl
theorem rw_196_50 : mm_code 195 50 = some (.iload_n 2, 1, 0, 0, []) := rfl
theorem rw_196_51 : mm_code 195 51 = some (.iconst 0, 1, 0, 0, []) := rfl
theorem rw_196_52 : mm_code 195 52 = some (.invokevirtual 332, 3, 190, 5, [104, 0]) := rfl
theorem rw_196_55 : mm_code 195 55 = some (.ireturn, 1, 0, 0, []) := rfl
theorem rw_197_0 : mm_code 196 0 = some (.aload_n 0, 1, 0, 0, []) := rfl
theorem rw_197_1 : mm_code 196 1 = some (.getfield 29, 3, 11, 20, [3, 7]) := rfl
theorem rw_197_4 : mm_code 196 4 = some (.iload_n 1, 1, 0, 0, []) := rfl
theorem rw_197_5 : mm_code 196 5 = some (.iaload, 1, 0, 0, []) := rfl
theorem rw_197_6 : mm_code 196 6 = some (.aload_n 0, 1, 0, 0, []) := rfl
theorem rw_197_7 : mm_code 196 7 = some (.getfield 26, 3, 11, 19, [3, 6]) := rfl
theorem rw_197_10 : mm_code 196 10 = some (.iload_n 1, 1, 0, 0, []) := rfl
theorem rw_197_11 : mm_code 196 11 = some (.iaload, 1, 0, 0, []) := rfl
theorem rw_197_12 : mm_code 196 12 = some (.isub, 1, 0, 0, []) := rfl
theorem rw_197_13 : mm_code 196 13 = some (.iconst 1, 1, 1, 0, []) := rfl
theorem rw_197_14 : mm_code 196 14 = some (.iadd, 1, 0, 0, []) := rfl
theorem rw_197_15 : mm_code 196 15 = some (.ireturn, 1, 0, 0, []) := rfl
theorem rw_198_0 : mm_code 197 0 = some (.aload_n 0, 1, 0, 0, []) := rfl
theorem rw_198_1 : mm_code 197 1 = some (.iconst 0, 1, 0, 0, []) := rfl
theorem rw_198_2 : mm_code 197 2 = some (.putfield 163, 3, 11, 2, [0, 51]) := rfl
theorem rw_198_5 : mm_code 197 5 = some (.aload_n 0, 1, 0, 0, []) := rfl
theorem rw_198_6 : mm_code 197 6 = some (.getfield 242, 3, 11, 29, [0, 76]) := rfl
theorem rw_198_9 : mm_code 197 9 = some (.sipush 150, 3, 150, 0, []) := rfl
theorem rw_198_12 : mm_code 197 12 = some (.if_icmp .eq 49, 3, 61, 0, []) := rfl
theorem rw_198_15 : mm_code 197 15 = some (.aload_n 0, 1, 0, 0, []) := rfl
theorem rw_198_16 : mm_code 197 16 = some (.iload_n 1, 1, 0, 0, []) := rfl
theorem rw_198_17 : mm_code 197 17 = some (.invokevirtual 323, 3, 179, 2, [101, 0]) := rfl
theorem rw_198_20 : mm_code 197 20 = some (.ifCond .eq 41, 3, 61, 0, []) := rfl
theorem rw_198_23 : mm_code 197 23 = some (.iload_n 2, 1, 0, 0, []) := rfl
theorem rw_198_24 : mm_code 197 24 = some (.ifCond .lt 37, 3, 61, 0, []) := rfl
theorem rw_198_27 : mm_code 197 27 = some (.iload_n 2, 1, 0, 0, []) := rfl
theorem rw_198_28 : mm_code 197 28 = some (.aload_n 0, 1, 0, 0, []) := rfl
theorem rw_198_29 : mm_code 197 29 = some (.aload_n 0, 1, 0, 0, []) := rfl
theorem rw_198_30 : mm_code 197 30 = some (.getfield 38, 3, 11, 23, [3, 10]) := rfl
theorem rw_198_33 : mm_code 197 33 = some (.iload_n 1, 1, 0, 0, []) := rfl
theorem rw_198_34 : mm_code 197 34 = some (.iaload, 1, 0, 0, []) := rfl
theorem rw_198_35 : mm_code 197 35 = some (.invokevirtual 336, 3, 196, 2, [105, 0]) := rfl
theorem rw_198_38 : mm_code 197 38 = some (.ishr, 1, 0, 0, []) := rfl
theorem rw_198_39 : mm_code 197 39 = some (.ifCond .ne 22, 3, 61, 0, []) := rfl
theorem rw_198_42 : mm_code 197 42 = some (.iload_n 2, 1, 0, 0, []) := rfl
theorem rw_198_43 : mm_code 197 43 = some (.i2l, 1, 0, 0, []) := rfl
theorem rw_198_44 : mm_code 197 44 = some (.invokestatic 339, 3, 150, 1, [106, 0]) := rfl
theorem rw_198_47 : mm_code 197 47 = some (.aload_n 0, 1, 0, 0, []) := rfl
theorem rw_198_48 : mm_code 197 48 = some (.getfield 32, 3, 11, 21, [3, 8]) := rfl
theorem rw_198_51 : mm_code 197 51 = some (.aload_n 0, 1, 0, 0, []) := rfl
theorem rw_198_52 : mm_code 197 52 = some (.getfield 38, 3, 11, 23, [3, 10]) := rfl
theorem rw_198_55 : mm_code 197 55 = some (.iload_n 1, 1, 0, 0, []) := rfl
theorem rw_198_56 : mm_code 197 56 = some (.iaload, 1, 0, 0, []) := rfl
theorem rw_198_57 : mm_code 197 57 = some (.iaload, 1, 0, 0, []) := rfl
theorem rw_198_58 : mm_code 197 58 = some (.if_icmp .eq 5, 3, 63, 0, []) := rfl
theorem rw_198_61 : mm_code 197 61 = some (.iconst (-1), 1, 1, 1, []) := rfl
theorem rw_198_62 : mm_code 197 62 = some (.ireturn, 1, 0, 0, []) := rfl
theorem rw_198_63 : mm_code 197 63 = some (.aload_n 0, 1, 0, 0, []) := rfl
theorem rw_198_64 : mm_code 197 64 = some (.iconst 4, 1, 4, 0, []) := rfl
theorem rw_198_65 : mm_code 197 65 = some (.iload_n 1, 1, 0, 0, []) := rfl
theorem rw_198_66 : mm_code 197 66 = some (.iload_n 2, 1, 0, 0, []) := rfl
theorem rw_198_67 : mm_code 197 67 = some (.iconst 0, 1, 0, 0, []) := rfl
theorem rw_198_68 : mm_code 197 68 = some (.invokevirtual 332, 3, 190, 5, [104, 0]) := rfl
theorem rw_198_71 : mm_code 197 71 = some (.ireturn, 1, 0, 0, []) := rfl
theorem rw_199_0 : mm_code 198 0 = some (.aload_n 0, 1, 0, 0, []) := rfl
theorem rw_199_1 : mm_code 198 1 = some (.iconst 0, 1, 0, 0, []) := rfl
theorem rw_199_2 : mm_code 198 2 = some (.putfield 163, 3, 11, 2, [0, 51]) := rfl
theorem rw_199_5 : mm_code 198 5 = some (.aload_n 0, 1, 0, 0, []) := rfl
theorem rw_199_6 : mm_code 198 6 = some (.getfield 242, 3, 11, 29, [0, 76]) := rfl
theorem rw_199_9 : mm_code 198 9 = some (.sipush 150, 3, 150, 0, []) := rfl
theorem rw_199_12 : mm_code 198 12 = some (.if_icmp .eq 15, 3, 27, 0, []) := rfl
theorem rw_199_15 : mm_code 198 15 = some (.iload_n 1, 1, 0, 0, []) := rfl
theorem rw_199_16 : mm_code 198 16 = some (.ifCond .lt 11, 3, 27, 0, []) := rfl
theorem rw_199_19 : mm_code 198 19 = some (.iload_n 1, 1, 0, 0, []) := rfl
theorem rw_199_20 : mm_code 198 20 = some (.aload_n 0, 1, 0, 0, []) := rfl
theorem rw_199_21 : mm_code 198 21 = some (.getfield 242, 3, 11, 29, [0, 76]) := rfl
theorem rw_199_24 : mm_code 198 24 = some (.if_icmp .lt 7, 3, 31, 0, []) := rfl
theorem rw_199_27 : mm_code 198 27 = some (.iconst (-1), 1, 1, 1, []) := rfl
theorem rw_199_28 : mm_code 198 28 = some (.goto 11, 3, 39, 0, []) := rfl
theorem rw_199_31 : mm_code 198 31 = some (.aload_n 0, 1, 0, 0, []) := rfl
theorem rw_199_32 : mm_code 198 32 = some (.iconst 5, 1, 5, 0, []) := rfl
theorem rw_199_33 : mm_code 198 33 = some (.iload_n 1, 1, 0, 0, []) := rfl
theorem rw_199_34 : mm_code 198 34 = some (.iconst 0, 1, 0, 0, []) := rfl
theorem rw_199_35 : mm_code 198 35 = some (.iconst 0, 1, 0, 0, []) := rfl
theorem rw_199_36 : mm_code 198 36 = some (.invokevirtual 332, 3, 190, 5, [104, 0]) := rfl
theorem rw_199_39 : mm_code 198 39 = some (.ireturn, 1, 0, 0, []) := rfl
theorem rw_200_0 : mm_code 199 0 = some (.aload_n 0, 1, 0, 0, []) := rfl
theorem rw_200_1 : mm_code 199 1 = some (.iconst 0, 1, 0, 0, []) := rfl
theorem rw_200_2 : mm_code 199 2 = some (.putfield 163, 3, 11, 2, [0, 51]) := rfl
theorem rw_200_5 : mm_code 199 5 = some (.aload_n 0, 1, 0, 0, []) := rfl
theorem rw_200_6 : mm_code 199 6 = some (.iload_n 1, 1, 0, 0, []) := rfl
theorem rw_200_7 : mm_code 199 7 = some (.invokevirtual 320, 3, 185, 2, [100, 0]) := rfl
theorem rw_200_10 : mm_code 199 10 = some (.ifCond .eq 11, 3, 21, 0, []) := rfl
theorem rw_200_13 : mm_code 199 13 = some (.aload_n 0, 1, 0, 0, []) := rfl
theorem rw_200_14 : mm_code 199 14 = some (.iload_n 2, 1, 0, 0, []) := rfl
theorem rw_200_15 : mm_code 199 15 = some (.invokevirtual 329, 3, 186, 2, [103, 0]) := rfl
theorem rw_200_18 : mm_code 199 18 = some (.ifCond .ne 7, 3, 25, 0, []) := rfl
theorem rw_200_21 : mm_code 199 21 = some (.ldc2_w 315, 3, 1, 1, [98]) := rfl
theorem rw_200_24 : mm_code 199 24 = some (.lreturn, 1, 0, 0, []) := rfl
theorem rw_200_25 : mm_code 199 25 = some (.aload_n 0, 1, 0, 0, []) := rfl
theorem rw_200_26 : mm_code 199 26 = some (.iload_n 1, 1, 0, 0, []) := rfl
theorem rw_200_27 : mm_code 199 27 = some (.invokevirtual 326, 3, 188, 2, [102, 0]) := rfl
theorem rw_200_30 : mm_code 199 30 = some (.aload_n 0, 1, 0, 0, []) := rfl
theorem rw_200_31 : mm_code 199 31 = some (.getfield 70, 3, 11, 36, [3, 20]) := rfl
theorem rw_200_34 : mm_code 199 34 = some (.iload_n 2, 1, 0, 0, []) := rfl
theorem rw_200_35 : mm_code 199 35 = some (.laload, 1, 0, 0, []) := rfl
theorem rw_200_36 : mm_code 199 36 = some (.lreturn, 1, 0, 0, []) := rfl
theorem rw_201_0 : mm_code 200 0 = some (.iconst 0, 1, 0, 0, []) := rfl
theorem rw_201_1 : mm_code 200 1 = some (.istore_n 2, 1, 0, 0, []) := rfl
theorem rw_201_2 : mm_code 200 2 = some (.iconst 0, 1, 0, 0, []) := rfl
theorem rw_201_3 : mm_code 200 3 = some (.istore_n 3, 1, 0, 0, []) := rfl
theorem rw_201_4 : mm_code 200 4 = some (.iload_n 3, 1, 0, 0, []) := rfl
theorem rw_201_5 : mm_code 200 5 = some (.aload_n 0, 1, 0, 0, []) := rfl
theorem rw_201_6 : mm_code 200 6 = some (.getfield 236, 3, 11, 13, [0, 74]) := rfl
theorem rw_201_9 : mm_code 200 9 = some (.if_icmp .ge 29, 3, 38, 0, []) := rfl
theorem rw_201_12 : mm_code 200 12 = some (.iload_n 2, 1, 0, 0, []) := rfl
theorem rw_201_13 : mm_code 200 13 = some (.aload_n 0, 1, 0, 0, []) := rfl
theorem rw_201_14 : mm_code 200 14 = some (.getfield 38, 3, 11, 23, [3, 10]) := rfl
theorem rw_201_17 : mm_code 200 17 = some (.iload_n 3, 1, 0, 0, []) := rfl
theorem rw_201_18 : mm_code 200 18 = some (.iaload, 1, 0, 0, []) := rfl
theorem rw_201_19 : mm_code 200 19 = some (.iload_n 1, 1, 0, 0, []) := rfl
theorem rw_201_20 : mm_code 200 20 = some (.if_icmp .ne 9, 3, 29, 0, []) := rfl
theorem rw_201_23 : mm_code 200 23 = some (.iconst 1, 1, 1, 0, []) := rfl
theorem rw_201_24 : mm_code 200 24 = some (.iload_n 3, 1, 0, 0, []) := rfl
theorem rw_201_25 : mm_code 200 25 = some (.ishl, 1, 0, 0, []) := rfl
theorem rw_201_26 : mm_code 200 26 = some (.goto 4, 3, 30, 0, []) := rfl
theorem rw_201_29 : mm_code 200 29 = some (.iconst 0, 1, 0, 0, []) := rfl
theorem rw_201_30 : mm_code 200 30 = some (.ior, 1, 0, 0, []) := rfl
theorem rw_201_31 : mm_code 200 31 = some (.istore_n 2, 1, 0, 0, []) := rfl
theorem rw_201_32 : mm_code 200 32 = some (.iinc 3 1, 3, 1, 0, []) := rfl
theorem rw_201_35 : mm_code 200 35 = some (.goto (-31), 3, 4, 0, []) := rfl
theorem rw_201_38 : mm_code 200 38 = some (.iload_n 2, 1, 0, 0, []) := rfl
theorem rw_201_39 : mm_code 200 39 = some (.ireturn, 1, 0, 0, []) := rfl
theorem rw_202_0 : mm_code 201 0 = some (.aload_n 0, 1, 0, 0, []) := rfl
theorem rw_202_1 : mm_code 201 1 = some (.iconst 0, 1, 0, 0, []) := rfl
theorem rw_202_2 : mm_code 201 2 = some (.putfield 163, 3, 11, 2, [0, 51]) := rfl
theorem rw_202_5 : mm_code 201 5 = some (.aload_n 0, 1, 0, 0, []) := rfl
theorem rw_202_6 : mm_code 201 6 = some (.iload_n 1, 1, 0, 0, []) := rfl
theorem rw_202_7 : mm_code 201 7 = some (.invokevirtual 320, 3, 185, 2, [100, 0]) := rfl
theorem rw_202_10 : mm_code 201 10 = some (.ifCond .eq 19, 3, 29, 0, []) := rfl
theorem rw_202_13 : mm_code 201 13 = some (.aload_n 0, 1, 0, 0, []) := rfl
theorem rw_202_14 : mm_code 201 14 = some (.iload_n 2, 1, 0, 0, []) := rfl
theorem rw_202_15 : mm_code 201 15 = some (.invokevirtual 329, 3, 186, 2, [103, 0]) := rfl
theorem rw_202_18 : mm_code 201 18 = some (.ifCond .eq 11, 3, 29, 0, []) := rfl
theorem rw_202_21 : mm_code 201 21 = some (.aload_n 0, 1, 0, 0, []) := rfl
theorem rw_202_22 : mm_code 201 22 = some (.iload_n 3, 1, 0, 0, []) := rfl
theorem rw_202_23 : mm_code 201 23 = some (.invokevirtual 296, 3, 177, 2, [92, 0]) := rfl
theorem rw_202_26 : mm_code 201 26 = some (.ifCond .ne 6, 3, 32, 0, []) := rfl
theorem rw_202_29 : mm_code 201 29 = some (.bipush (-2), 2, 2, 1, []) := rfl
theorem rw_202_31 : mm_code 201 31 = some (.ireturn, 1, 0, 0, []) := rfl
theorem rw_202_32 : mm_code 201 32 = some (.aload_n 0, 1, 0, 0, []) := rfl
theorem rw_202_33 : mm_code 201 33 = some (.iload_n 1, 1, 0, 0, []) := rfl
theorem rw_202_34 : mm_code 201 34 = some (.invokevirtual 326, 3, 188, 2, [102, 0]) := rfl
theorem rw_202_37 : mm_code 201 37 = some (.aload_n 0, 1, 0, 0, []) := rfl
theorem rw_202_38 : mm_code 201 38 = some (.getfield 23, 3, 11, 18, [3, 5]) := rfl
theorem rw_202_41 : mm_code 201 41 = some (.iload_n 3, 1, 0, 0, []) := rfl
theorem rw_202_42 : mm_code 201 42 = some (.iaload, 1, 0, 0, []) := rfl
theorem rw_202_43 : mm_code 201 43 = some (.iconst 3, 1, 3, 0, []) := rfl
theorem rw_202_44 : mm_code 201 44 = some (.if_icmp .ne 18, 3, 62, 0, []) := rfl
theorem rw_202_47 : mm_code 201 47 = some (.aload_n 0, 1, 0, 0, []) := rfl
theorem rw_202_48 : mm_code 201 48 = some (.getfield 76, 3, 11, 38, [3, 22]) := rfl
theorem rw_202_51 : mm_code 201 51 = some (.iload_n 2, 1, 0, 0, []) := rfl
theorem rw_202_52 : mm_code 201 52 = some (.iaload, 1, 0, 0, []) := rfl
theorem rw_202_53 : mm_code 201 53 = some (.aload_n 0, 1, 0, 0, []) := rfl
theorem rw_202_54 : mm_code 201 54 = some (.iload_n 3, 1, 0, 0, []) := rfl
theorem rw_202_55 : mm_code 201 55 = some (.invokevirtual 343, 3, 200, 2, [107, 0]) := rfl
theorem rw_202_58 : mm_code 201 58 = some (.iand, 1, 0, 0, []) := rfl
theorem rw_202_59 : mm_code 201 59 = some (.goto 14, 3, 73, 0, []) := rfl
theorem rw_202_62 : mm_code 201 62 = some (.aload_n 0, 1, 0, 0, []) := rfl
theorem rw_202_63 : mm_code 201 63 = some (.getfield 73, 3, 11, 37, [3, 21]) := rfl
theorem rw_202_66 : mm_code 201 66 = some (.bipush 8, 2, 8, 0, []) := rfl
theorem rw_202_68 : mm_code 201 68 = some (.iload_n 2, 1, 0, 0, []) := rfl
theorem rw_202_69 : mm_code 201 69 = some (.imul, 1, 0, 0, []) := rfl
theorem rw_202_70 : mm_code 201 70 = some (.iload_n 3, 1, 0, 0, []) := rfl
theorem rw_202_71 : mm_code 201 71 = some (.iadd, 1, 0, 0, []) := rfl
theorem rw_202_72 : mm_code 201 72 = some (.iaload, 1, 0, 0, []) := rfl
theorem rw_202_73 : mm_code 201 73 = some (.ireturn, 1, 0, 0, []) := rfl
theorem rw_203_0 : mm_code 202 0 = some (.aload_n 0, 1, 0, 0, []) := rfl
theorem rw_203_1 : mm_code 202 1 = some (.iconst 0, 1, 0, 0, []) := rfl
theorem rw_203_2 : mm_code 202 2 = some (.putfield 163, 3, 11, 2, [0, 51]) := rfl
theorem rw_203_5 : mm_code 202 5 = some (.aload_n 0, 1, 0, 0, []) := rfl
theorem rw_203_6 : mm_code 202 6 = some (.iload_n 1, 1, 0, 0, []) := rfl
theorem rw_203_7 : mm_code 202 7 = some (.invokevirtual 329, 3, 186, 2, [103, 0]) := rfl
theorem rw_203_10 : mm_code 202 10 = some (.ifCond .ne 5, 3, 15, 0, []) := rfl
theorem rw_203_13 : mm_code 202 13 = some (.iconst 0, 1, 0, 0, []) := rfl
theorem rw_203_14 : mm_code 202 14 = some (.ireturn, 1, 1, 0, []) := rfl
theorem rw_203_15 : mm_code 202 15 = some (.aload_n 0, 1, 0, 0, []) := rfl
theorem rw_203_16 : mm_code 202 16 = some (.dup, 1, 0, 0, []) := rfl
theorem rw_203_17 : mm_code 202 17 = some (.getfield 252, 3, 11, 41, [0, 79]) := rfl
theorem rw_203_20 : mm_code 202 20 = some (.iconst 1, 1, 1, 0, []) := rfl
theorem rw_203_21 : mm_code 202 21 = some (.iload_n 1, 1, 0, 0, []) := rfl
theorem rw_203_22 : mm_code 202 22 = some (.ishl, 1, 0, 0, []) := rfl
theorem rw_203_23 : mm_code 202 23 = some (.ixor, 1, 0, 0, []) := rfl
theorem rw_203_24 : mm_code 202 24 = some (.putfield 252, 3, 11, 41, [0, 79]) := rfl
theorem rw_203_27 : mm_code 202 27 = some (.iconst 1, 1, 1, 0, []) := rfl
theorem rw_203_28 : mm_code 202 28 = some (.ireturn, 1, 1, 0, []) := rfl
theorem rw_204_0 : mm_code 203 0 = some (.aload_n 0, 1, 0, 0, []) := rfl
theorem rw_204_1 : mm_code 203 1 = some (.iconst 0, 1, 0, 0, []) := rfl
theorem rw_204_2 : mm_code 203 2 = some (.putfield 163, 3, 11, 2, [0, 51]) := rfl
theorem rw_204_5 : mm_code 203 5 = some (.aload_n 0, 1, 0, 0, []) := rfl
theorem rw_204_6 : mm_code 203 6 = some (.getfield 252, 3, 11, 41, [0, 79]) := rfl
theorem rw_204_9 : mm_code 203 9 = some (.ireturn, 1, 0, 0, []) := rfl
theorem rw_205_0 : mm_code 204 0 = some (.iload_n 0, 1, 0, 0, []) := rfl
theorem rw_205_1 : mm_code 204 1 = some (.ifCond .lt 13, 3, 14, 0, []) := rfl
theorem rw_205_4 : mm_code 204 4 = some (.iload_n 0, 1, 0, 0, []) := rfl
theorem rw_205_5 : mm_code 204 5 = some (.bipush 6, 2, 6, 0, []) := rfl
theorem rw_205_7 : mm_code 204 7 = some (.if_icmp .ge 7, 3, 14, 0, []) := rfl
theorem rw_205_10 : mm_code 204 10 = some (.iconst 1, 1, 1, 0, []) := rfl
theorem rw_205_11 : mm_code 204 11 = some (.goto 4, 3, 15, 0, []) := rfl
theorem rw_205_14 : mm_code 204 14 = some (.iconst 0, 1, 0, 0, []) := rfl
theorem rw_205_15 : mm_code 204 15 = some (.ireturn, 1, 1, 0, []) := rfl
theorem rw_206_0 : mm_code 205 0 = some (.aload_n 0, 1, 0, 0, []) := rfl
theorem rw_206_1 : mm_code 205 1 = some (.iconst 0, 1, 0, 0, []) := rfl
theorem rw_206_2 : mm_code 205 2 = some (.putfield 163, 3, 11, 2, [0, 51]) := rfl
theorem rw_206_5 : mm_code 205 5 = some (.iload_n 1, 1, 0, 0, []) := rfl
theorem rw_206_6 : mm_code 205 6 = some (.invokestatic 346, 3, 204, 1, [108, 0]) := rfl
theorem rw_206_9 : mm_code 205 9 = some (.ifCond .eq 31, 3, 40, 0, []) := rfl
theorem rw_206_12 : mm_code 205 12 = some (.iload_n 2, 1, 0, 0, []) := rfl
theorem rw_206_13 : mm_code 205 13 = some (.ifCond .lt 27, 3, 40, 0, []) := rfl
theorem rw_206_16 : mm_code 205 16 = some (.iload_n 2, 1, 0, 0, []) := rfl
theorem rw_206_17 : mm_code 205 17 = some (.aload_n 0, 1, 0, 0, []) := rfl
theorem rw_206_18 : mm_code 205 18 = some (.getfield 82, 3, 11, 40, [3, 24]) := rfl
theorem rw_206_21 : mm_code 205 21 = some (.iload_n 1, 1, 0, 0, []) := rfl
theorem rw_206_22 : mm_code 205 22 = some (.iaload, 1, 0, 0, []) := rfl
theorem rw_206_23 : mm_code 205 23 = some (.if_icmp .ge 17, 3, 40, 0, []) := rfl
theorem rw_206_26 : mm_code 205 26 = some (.aload_n 0, 1, 0, 0, []) := rfl
theorem rw_206_27 : mm_code 205 27 = some (.getfield 79, 3, 11, 39, [3, 23]) := rfl
theorem rw_206_30 : mm_code 205 30 = some (.bipush 30, 2, 30, 0, []) := rfl
theorem rw_206_32 : mm_code 205 32 = some (.iload_n 1, 1, 0, 0, []) := rfl
theorem rw_206_33 : mm_code 205 33 = some (.imul, 1, 0, 0, []) := rfl
theorem rw_206_34 : mm_code 205 34 = some (.iload_n 2, 1, 0, 0, []) := rfl
theorem rw_206_35 : mm_code 205 35 = some (.iadd, 1, 0, 0, []) := rfl
theorem rw_206_36 : mm_code 205 36 = some (.iaload, 1, 0, 0, []) := rfl
theorem rw_206_37 : mm_code 205 37 = some (.goto 4, 3, 41, 0, []) := rfl
theorem rw_206_40 : mm_code 205 40 = some (.iconst (-1), 1, 1, 1, []) := rfl
theorem rw_206_41 : mm_code 205 41 = some (.ireturn, 1, 0, 0, []) := rfl
theorem rw_207_0 : mm_code 206 0 = some (.iconst 0, 1, 0, 0, []) := rfl
theorem rw_207_1 : mm_code 206 1 = some (.istore 4, 2, 0, 0, []) := rfl
theorem rw_207_3 : mm_code 206 3 = some (.iload 4, 2, 0, 0, []) := rfl
theorem rw_207_5 : mm_code 206 5 = some (.aload_n 0, 1, 0, 0, []) := rfl
theorem rw_207_6 : mm_code 206 6 = some (.getfield 230, 3, 11, 11, [0, 72]) := rfl
theorem rw_207_9 : mm_code 206 9 = some (.if_icmp .ge 58, 3, 67, 0, []) := rfl
theorem rw_207_12 : mm_code 206 12 = some (.lload_n 2, 1, 0, 0, []) := rfl
theorem rw_207_13 : mm_code 206 13 = some (.iload 4, 2, 0, 0, []) := rfl
theorem rw_207_15 : mm_code 206 15 = some (.invokestatic 169, 3, 149, 2, [53, 0]) := rfl
theorem rw_207_18 : mm_code 206 18 = some (.ifCond .eq 43, 3, 61, 0, []) := rfl
theorem rw_207_21 : mm_code 206 21 = some (.aload_n 0, 1, 0, 0, []) := rfl
theorem rw_207_22 : mm_code 206 22 = some (.getfield 70, 3, 11, 36, [3, 20]) := rfl
theorem rw_207_25 : mm_code 206 25 = some (.iload_n 1, 1, 0, 0, []) := rfl
theorem rw_207_26 : mm_code 206 26 = some (.laload, 1, 0, 0, []) := rfl
theorem rw_207_27 : mm_code 206 27 = some (.aload_n 0, 1, 0, 0, []) := rfl
theorem rw_207_28 : mm_code 206 28 = some (.getfield 252, 3, 11, 41, [0, 79]) := rfl
theorem rw_207_31 : mm_code 206 31 = some (.iload_n 1, 1, 0, 0, []) := rfl
theorem rw_207_32 : mm_code 206 32 = some (.ishr, 1, 0, 0, []) := rfl
theorem rw_207_33 : mm_code 206 33 = some (.iconst 1, 1, 1, 0, []) := rfl
theorem rw_207_34 : mm_code 206 34 = some (.iand, 1, 0, 0, []) := rfl
theorem rw_207_35 : mm_code 206 35 = some (.iconst 1, 1, 1, 0, []) := rfl
theorem rw_207_36 : mm_code 206 36 = some (.if_icmp .ne 15, 3, 51, 0, []) := rfl
theorem rw_207_39 : mm_code 206 39 = some (.aload_n 0, 1, 0, 0, []) := rfl
theorem rw_207_40 : mm_code 206 40 = some (.getfield 230, 3, 11, 11, [0, 72]) := rfl
theorem rw_207_43 : mm_code 206 43 = some (.iconst 1, 1, 1, 0, []) := rfl
theorem rw_207_44 : mm_code 206 44 = some (.isub, 1, 0, 0, []) := rfl
theorem rw_207_45 : mm_code 206 45 = some (.iload 4, 2, 0, 0, []) := rfl
theorem rw_207_47 : mm_code 206 47 = some (.isub, 1, 0, 0, []) := rfl
theorem rw_207_48 : mm_code 206 48 = some (.goto 5, 3, 53, 0, []) := rfl
theorem rw_207_51 : mm_code 206 51 = some (.iload 4, 2, 0, 0, []) := rfl
theorem rw_207_53 : mm_code 206 53 = some (.invokestatic 169, 3, 149, 2, [53, 0]) := rfl
theorem rw_207_56 : mm_code 206 56 = some (.ifCond .ne 5, 3, 61, 0, []) := rfl
theorem rw_207_59 : mm_code 206 59 = some (.iconst 0, 1, 0, 0, []) := rfl
theorem rw_207_60 : mm_code 206 60 = some (.ireturn, 1, 1, 0, []) := rfl
theorem rw_207_61 : mm_code 206 61 = some (.iinc 4 1, 3, 1, 0, []) := rfl
theorem rw_207_64 : mm_code 206 64 = some (.goto (-61), 3, 3, 0, []) := rfl
theorem rw_207_67 : mm_code 206 67 = some (.iconst 1, 1, 1, 0, []) := rfl
theorem rw_207_68 : mm_code 206 68 = some (.ireturn, 1, 1, 0, []) := rfl
theorem rw_208_0 : mm_code 207 0 = some (.aload_n 0, 1, 0, 0, []) := rfl
theorem rw_208_1 : mm_code 207 1 = some (.iconst 0, 1, 0, 0, []) := rfl
theorem rw_208_2 : mm_code 207 2 = some (.putfield 163, 3, 11, 2, [0, 51]) := rfl
theorem rw_208_5 : mm_code 207 5 = some (.iload_n 1, 1, 0, 0, []) := rfl
theorem rw_208_6 : mm_code 207 6 = some (.invokestatic 346, 3, 204, 1, [108, 0]) := rfl
theorem rw_208_9 : mm_code 207 9 = some (.ifCond .ne 5, 3, 14, 0, []) := rfl
theorem rw_208_12 : mm_code 207 12 = some (.iconst (-1), 1, 1, 1, []) := rfl
theorem rw_208_13 : mm_code 207 13 = some (.ireturn, 1, 0, 0, []) := rfl
theorem rw_208_14 : mm_code 207 14 = some (.aload_n 0, 1, 0, 0, []) := rfl
theorem rw_208_15 : mm_code 207 15 = some (.aload_n 0, 1, 0, 0, []) := rfl
theorem rw_208_16 : mm_code 207 16 = some (.getfield 242, 3, 11, 29, [0, 76]) := rfl
theorem rw_208_19 : mm_code 207 19 = some (.invokevirtual 326, 3, 188, 2, [102, 0]) := rfl
theorem rw_208_22 : mm_code 207 22 = some (.iconst 0, 1, 0, 0, []) := rfl
theorem rw_208_23 : mm_code 207 23 = some (.istore 4, 2, 0, 0, []) := rfl
theorem rw_208_25 : mm_code 207 25 = some (.iconst 0, 1, 0, 0, []) := rfl
theorem rw_208_26 : mm_code 207 26 = some (.istore 5, 2, 0, 0, []) := rfl
theorem rw_208_28 : mm_code 207 28 = some (.iload 5, 2, 0, 0, []) := rfl
theorem rw_208_30 : mm_code 207 30 = some (.aload_n 0, 1, 0, 0, []) := rfl
theorem rw_208_31 : mm_code 207 31 = some (.getfield 82, 3, 11, 40, [3, 24]) := rfl
theorem rw_208_34 : mm_code 207 34 = some (.iload_n 1, 1, 0, 0, []) := rfl
theorem rw_208_35 : mm_code 207 35 = some (.iaload, 1, 0, 0, []) := rfl
theorem rw_208_36 : mm_code 207 36 = some (.if_icmp .ge 52, 3, 88, 0, []) := rfl
theorem rw_208_39 : mm_code 207 39 = some (.iload 4, 2, 0, 0, []) := rfl
theorem rw_208_41 : mm_code 207 41 = some (.aload_n 0, 1, 0, 0, []) := rfl
theorem rw_208_42 : mm_code 207 42 = some (.aload_n 0, 1, 0, 0, []) := rfl
theorem rw_208_43 : mm_code 207 43 = some (.getfield 79, 3, 11, 39, [3, 23]) := rfl
theorem rw_208_46 : mm_code 207 46 = some (.bipush 30, 2, 30, 0, []) := rfl
theorem rw_208_48 : mm_code 207 48 = some (.iload_n 1, 1, 0, 0, []) := rfl
theorem rw_208_49 : mm_code 207 49 = some (.imul, 1, 0, 0, []) := rfl
theorem rw_208_50 : mm_code 207 50 = some (.iload 5, 2, 0, 0, []) := rfl
theorem rw_208_52 : mm_code 207 52 = some (.iadd, 1, 0, 0, []) := rfl
theorem rw_208_53 : mm_code 207 53 = some (.iaload, 1, 0, 0, []) := rfl
theorem rw_208_54 : mm_code 207 54 = some (.lload_n 2, 1, 0, 0, []) := rfl
theorem rw_208_55 : mm_code 207 55 = some (.invokevirtual 349, 3, 206, 3, [109, 0]) := rfl
theorem rw_208_58 : mm_code 207 58 = some (.ifCond .eq 20, 3, 78, 0, []) := rfl
theorem rw_208_61 : mm_code 207 61 = some (.iconst 1, 1, 1, 0, []) := rfl
theorem rw_208_62 : mm_code 207 62 = some (.aload_n 0, 1, 0, 0, []) := rfl
theorem rw_208_63 : mm_code 207 63 = some (.getfield 79, 3, 11, 39, [3, 23]) := rfl
theorem rw_208_66 : mm_code 207 66 = some (.bipush 30, 2, 30, 0, []) := rfl
theorem rw_208_68 : mm_code 207 68 = some (.iload_n 1, 1, 0, 0, []) := rfl
theorem rw_208_69 : mm_code 207 69 = some (.imul, 1, 0, 0, []) := rfl
theorem rw_208_70 : mm_code 207 70 = some (.iload 5, 2, 0, 0, []) := rfl
theorem rw_208_72 : mm_code 207 72 = some (.iadd, 1, 0, 0, []) := rfl
theorem rw_208_73 : mm_code 207 73 = some (.iaload, 1, 0, 0, []) := rfl
theorem rw_208_74 : mm_code 207 74 = some (.ishl, 1, 0, 0, []) := rfl
theorem rw_208_75 : mm_code 207 75 = some (.goto 4, 3, 79, 0, []) := rfl
theorem rw_208_78 : mm_code 207 78 = some (.iconst 0, 1, 0, 0, []) := rfl
theorem rw_208_79 : mm_code 207 79 = some (.ior, 1, 0, 0, []) := rfl
theorem rw_208_80 : mm_code 207 80 = some (.istore 4, 2, 0, 0, []) := rfl
theorem rw_208_82 : mm_code 207 82 = some (.iinc 5 1, 3, 1, 0, []) := rfl
theorem rw_208_85 : mm_code 207 85 = some (.goto (-57), 3, 28, 0, []) := rfl
theorem rw_208_88 : mm_code 207 88 = some (.iload 4, 2, 0, 0, []) := rfl
theorem rw_208_90 : mm_code 207 90 = some (.ireturn, 1, 0, 0, []) := rfl
theorem rw_209_0 : mm_code 208 0 = some (.aload_n 0, 1, 0, 0, []) := rfl
theorem rw_209_1 : mm_code 208 1 = some (.iconst 0, 1, 0, 0, []) := rfl
theorem rw_209_2 : mm_code 208 2 = some (.putfield 163, 3, 11, 2, [0, 51]) := rfl
theorem rw_209_5 : mm_code 208 5 = some (.iconst 0, 1, 0, 0, []) := rfl
theorem rw_209_6 : mm_code 208 6 = some (.istore_n 1, 1, 0, 0, []) := rfl
theorem rw_209_7 : mm_code 208 7 = some (.iload_n 1, 1, 0, 0, []) := rfl
theorem rw_209_8 : mm_code 208 8 = some (.bipush 6, 2, 6, 0, []) := rfl
theorem rw_209_10 : mm_code 208 10 = some (.if_icmp .ge 16, 3, 26, 0, []) := rfl
theorem rw_209_13 : mm_code 208 13 = some (.aload_n 0, 1, 0, 0, []) := rfl
theorem rw_209_14 : mm_code 208 14 = some (.getfield 82, 3, 11, 40, [3, 24]) := rfl
theorem rw_209_17 : mm_code 208 17 = some (.iload_n 1, 1, 0, 0, []) := rfl
theorem rw_209_18 : mm_code 208 18 = some (.iconst 0, 1, 0, 0, []) := rfl
theorem rw_209_19 : mm_code 208 19 = some (.iastore, 1, 0, 0, []) := rfl
theorem rw_209_20 : mm_code 208 20 = some (.iinc 1 1, 3, 1, 0, []) := rfl
theorem rw_209_23 : mm_code 208 23 = some (.goto (-16), 3, 7, 0, []) := rfl
theorem rw_209_26 : mm_code 208 26 = some (.iconst 0, 1, 0, 0, []) := rfl
theorem rw_209_27 : mm_code 208 27 = some (.istore_n 1, 1, 0, 0, []) := rfl
theorem rw_209_28 : mm_code 208 28 = some (.iload_n 1, 1, 0, 0, []) := rfl
theorem rw_209_29 : mm_code 208 29 = some (.aload_n 0, 1, 0, 0, []) := rfl
theorem rw_209_30 : mm_code 208 30 = some (.getfield 239, 3, 11, 28, [0, 75]) := rfl
theorem rw_209_33 : mm_code 208 33 = some (.if_icmp .ge 16, 3, 49, 0, []) := rfl
theorem rw_209_36 : mm_code 208 36 = some (.aload_n 0, 1, 0, 0, []) := rfl
theorem rw_209_37 : mm_code 208 37 = some (.getfield 79, 3, 11, 39, [3, 23]) := rfl
theorem rw_209_40 : mm_code 208 40 = some (.iload_n 1, 1, 0, 0, []) := rfl
theorem rw_209_41 : mm_code 208 41 = some (.iload_n 1, 1, 0, 0, []) := rfl
theorem rw_209_42 : mm_code 208 42 = some (.iastore, 1, 0, 0, []) := rfl
theorem rw_209_43 : mm_code 208 43 = some (.iinc 1 1, 3, 1, 0, []) := rfl
theorem rw_209_46 : mm_code 208 46 = some (.goto (-18), 3, 28, 0, []) := rfl
theorem rw_209_49 : mm_code 208 49 = some (.aload_n 0, 1, 0, 0, []) := rfl
theorem rw_209_50 : mm_code 208 50 = some (.getfield 82, 3, 11, 40, [3, 24]) := rfl
theorem rw_209_53 : mm_code 208 53 = some (.iconst 0, 1, 0, 0, []) := rfl
theorem rw_209_54 : mm_code 208 54 = some (.aload_n 0, 1, 0, 0, []) := rfl
theorem rw_209_55 : mm_code 208 55 = some (.getfield 239, 3, 11, 28, [0, 75]) := rfl
theorem rw_209_58 : mm_code 208 58 = some (.iastore, 1, 0, 0, []) := rfl
theorem rw_209_59 : mm_code 208 59 = some (.aload_n 0, 1, 0, 0, []) := rfl
theorem rw_209_60 : mm_code 208 60 = some (.iconst 0, 1, 0, 0, []) := rfl
theorem rw_209_61 : mm_code 208 61 = some (.putfield 252, 3, 11, 41, [0, 79]) := rfl
theorem rw_209_64 : mm_code 208 64 = some (.aload_n 0, 1, 0, 0, []) := rfl
theorem rw_209_65 : mm_code 208 65 = some (.getfield 239, 3, 11, 28, [0, 75]) := rfl
theorem rw_209_68 : mm_code 208 68 = some (.ireturn, 1, 0, 0, []) := rfl
theorem rw_210_0 : mm_code 209 0 = some (.aload_n 0, 1, 0, 0, []) := rfl
theorem rw_210_1 : mm_code 209 1 = some (.getfield 79, 3, 11, 39, [3, 23]) := rfl
theorem rw_210_4 : mm_code 209 4 = some (.bipush 30, 2, 30, 0, []) := rfl
theorem rw_210_6 : mm_code 209 6 = some (.iload_n 1, 1, 0, 0, []) := rfl
theorem rw_210_7 : mm_code 209 7 = some (.imul, 1, 0, 0, []) := rfl
theorem rw_210_8 : mm_code 209 8 = some (.aload_n 0, 1, 0, 0, []) := rfl
theorem rw_210_9 : mm_code 209 9 = some (.getfield 82, 3, 11, 40, [3, 24]) := rfl
theorem rw_210_12 : mm_code 209 12 = some (.iload_n 1, 1, 0, 0, []) := rfl
theorem rw_210_13 : mm_code 209 13 = some (.iaload, 1, 0, 0, []) := rfl
theorem rw_210_14 : mm_code 209 14 = some (.iadd, 1, 0, 0, []) := rfl
theorem rw_210_15 : mm_code 209 15 = some (.iload_n 2, 1, 0, 0, []) := rfl
theorem rw_210_16 : mm_code 209 16 = some (.iastore, 1, 0, 0, []) := rfl
theorem rw_210_17 : mm_code 209 17 = some (.aload_n 0, 1, 0, 0, []) := rfl
theorem rw_210_18 : mm_code 209 18 = some (.getfield 82, 3, 11, 40, [3, 24]) := rfl
theorem rw_210_21 : mm_code 209 21 = some (.iload_n 1, 1, 0, 0, []) := rfl
theorem rw_210_22 : mm_code 209 22 = some (.dup2, 1, 0, 0, []) := rfl
theorem rw_210_23 : mm_code 209 23 = some (.iaload, 1, 0, 0, []) := rfl
theorem rw_210_24 : mm_code 209 24 = some (.iconst 1, 1, 1, 0, []) := rfl
theorem rw_210_25 : mm_code 209 25 = some (.iadd, 1, 0, 0, []) := rfl
theorem rw_210_26 : mm_code 209 26 = some (.iastore, 1, 0, 0, []) := rfl
theorem rw_210_27 : mm_code 209 27 = some (.return_, 1, 0, 0, []) := rfl
theorem rw_211_0 : mm_code 210 0 = some (.aload_n 0, 1, 0, 0, []) := rfl
theorem rw_211_1 : mm_code 210 1 = some (.getfield 185, 3, 11, 8, [0, 58]) := rfl
theorem rw_211_4 : mm_code 210 4 = some (.iconst 2, 1, 2, 0, []) := rfl
theorem rw_211_5 : mm_code 210 5 = some (.if_icmp .ne 26, 3, 31, 0, []) := rfl
theorem rw_211_8 : mm_code 210 8 = some (.aload_n 0, 1, 0, 0, []) := rfl
theorem rw_211_9 : mm_code 210 9 = some (.getfield 196, 3, 11, 9, [0, 61]) := rfl
theorem rw_211_12 : mm_code 210 12 = some (.ldc_w 353, 3, 33554431, 0, [110]) := rfl
theorem rw_211_15 : mm_code 210 15 = some (.iand, 1, 0, 0, []) := rfl
theorem rw_211_16 : mm_code 210 16 = some (.ifCond .ne 15, 3, 31, 0, []) := rfl
theorem rw_211_19 : mm_code 210 19 = some (.aload_n 0, 1, 0, 0, []) := rfl
theorem rw_211_20 : mm_code 210 20 = some (.getfield 196, 3, 11, 9, [0, 61]) := rfl
theorem rw_211_23 : mm_code 210 23 = some (.bipush 25, 2, 25, 0, []) := rfl
theorem rw_211_25 : mm_code 210 25 = some (.ishr, 1, 0, 0, []) := rfl
theorem rw_211_26 : mm_code 210 26 = some (.iconst 1, 1, 1, 0, []) := rfl
theorem rw_211_27 : mm_code 210 27 = some (.isub, 1, 0, 0, []) := rfl
theorem rw_211_28 : mm_code 210 28 = some (.goto 4, 3, 32, 0, []) := rfl
theorem rw_211_31 : mm_code 210 31 = some (.iconst (-1), 1, 1, 1, []) := rfl
theorem rw_211_32 : mm_code 210 32 = some (.istore_n 1, 1, 0, 0, []) := rfl
theorem rw_211_33 : mm_code 210 33 = some (.iload_n 1, 1, 0, 0, []) := rfl
theorem rw_211_34 : mm_code 210 34 = some (.ifCond .lt 8, 3, 42, 0, []) := rfl
theorem rw_211_37 : mm_code 210 37 = some (.iload_n 1, 1, 0, 0, []) := rfl
theorem rw_211_38 : mm_code 210 38 = some (.iconst 5, 1, 5, 0, []) := rfl
theorem rw_211_39 : mm_code 210 39 = some (.if_icmp .le 11, 3, 50, 0, []) := rfl
theorem rw_211_42 : mm_code 210 42 = some (.aload_n 0, 1, 0, 0, []) := rfl
theorem rw_211_43 : mm_code 210 43 = some (.iconst 1, 1, 1, 0, []) := rfl
theorem rw_211_44 : mm_code 210 44 = some (.invokevirtual 208, 3, 151, 2, [65, 0]) := rfl
theorem rw_211_47 : mm_code 210 47 = some (.istore_n 2, 1, 0, 0, []) := rfl
theorem rw_211_48 : mm_code 210 48 = some (.iconst (-1), 1, 1, 1, []) := rfl
theorem rw_211_49 : mm_code 210 49 = some (.ireturn, 1, 0, 0, []) := rfl
theorem rw_211_50 : mm_code 210 50 = some (.iload_n 1, 1, 0, 0, []) := rfl
theorem rw_211_51 : mm_code 210 51 = some (.ireturn, 1, 0, 0, []) := rfl
theorem rw_212_0 : mm_code 211 0 = some (.aload_n 0, 1, 0, 0, []) := rfl
theorem rw_212_1 : mm_code 211 1 = some (.getfield 185, 3, 11, 8, [0, 58]) := rfl
theorem rw_212_4 : mm_code 211 4 = some (.iconst 3, 1, 3, 0, []) := rfl
theorem rw_212_5 : mm_code 211 5 = some (.if_icmp .ne 40, 3, 45, 0, []) := rfl
theorem rw_212_8 : mm_code 211 8 = some (.aload_n 0, 1, 0, 0, []) := rfl
theorem rw_212_9 : mm_code 211 9 = some (.iconst 0, 1, 0, 0, []) := rfl
theorem rw_212_10 : mm_code 211 10 = some (.aload_n 0, 1, 0, 0, []) := rfl
theorem rw_212_11 : mm_code 211 11 = some (.getfield 230, 3, 11, 11, [0, 72]) := rfl
theorem rw_212_14 : mm_code 211 14 = some (.iconst 1, 1, 1, 0, []) := rfl
theorem rw_212_15 : mm_code 211 15 = some (.isub, 1, 0, 0, []) := rfl
theorem rw_212_16 : mm_code 211 16 = some (.invokevirtual 266, 3, 161, 3, [83, 0]) := rfl
theorem rw_212_19 : mm_code 211 19 = some (.ifCond .ne 5, 3, 24, 0, []) := rfl
theorem rw_212_22 : mm_code 211 22 = some (.iconst 0, 1, 0, 0, []) := rfl
theorem rw_212_23 : mm_code 211 23 = some (.ireturn, 1, 1, 0, []) := rfl
theorem rw_212_24 : mm_code 211 24 = some (.aload_n 0, 1, 0, 0, []) := rfl
theorem rw_212_25 : mm_code 211 25 = some (.getfield 100, 3, 11, 50, [3, 30]) := rfl
theorem rw_212_28 : mm_code 211 28 = some (.iload_n 1, 1, 0, 0, []) := rfl
theorem rw_212_29 : mm_code 211 29 = some (.dup2, 1, 0, 0, []) := rfl
theorem rw_212_30 : mm_code 211 30 = some (.laload, 1, 0, 0, []) := rfl
theorem rw_212_31 : mm_code 211 31 = some (.lconst 1, 1, 1, 0, []) := rfl
theorem rw_212_32 : mm_code 211 32 = some (.aload_n 0, 1, 0, 0, []) := rfl
theorem rw_212_33 : mm_code 211 33 = some (.getfield 196, 3, 11, 9, [0, 61]) := rfl
theorem rw_212_36 : mm_code 211 36 = some (.lshl, 1, 0, 0, []) := rfl
theorem rw_212_37 : mm_code 211 37 = some (.lor, 1, 0, 0, []) := rfl
theorem rw_212_38 : mm_code 211 38 = some (.lastore, 1, 0, 0, []) := rfl
theorem rw_212_39 : mm_code 211 39 = some (.aload_n 0, 1, 0, 0, []) := rfl
theorem rw_212_40 : mm_code 211 40 = some (.invokevirtual 211, 3, 155, 1, [66, 0]) := rfl
theorem rw_212_43 : mm_code 211 43 = some (.iconst 1, 1, 1, 0, []) := rfl
theorem rw_212_44 : mm_code 211 44 = some (.ireturn, 1, 1, 0, []) := rfl
theorem rw_212_45 : mm_code 211 45 = some (.aload_n 0, 1, 0, 0, []) := rfl
theorem rw_212_46 : mm_code 211 46 = some (.aload_n 0, 1, 0, 0, []) := rfl
theorem rw_212_47 : mm_code 211 47 = some (.getfield 196, 3, 11, 9, [0, 61]) := rfl
theorem rw_212_50 : mm_code 211 50 = some (.invokevirtual 290, 3, 174, 2, [90, 0]) := rfl
theorem rw_212_53 : mm_code 211 53 = some (.istore_n 2, 1, 0, 0, []) := rfl
theorem rw_212_54 : mm_code 211 54 = some (.aload_n 0, 1, 0, 0, []) := rfl
theorem rw_212_55 : mm_code 211 55 = some (.aload_n 0, 1, 0, 0, []) := rfl
theorem rw_212_56 : mm_code 211 56 = some (.getfield 196, 3, 11, 9, [0, 61]) := rfl
theorem rw_212_59 : mm_code 211 59 = some (.invokevirtual 293, 3, 175, 2, [91, 0]) := rfl
theorem rw_212_62 : mm_code 211 62 = some (.istore_n 3, 1, 0, 0, []) := rfl
theorem rw_212_63 : mm_code 211 63 = some (.iload_n 2, 1, 0, 0, []) := rfl
theorem rw_212_64 : mm_code 211 64 = some (.ifCond .ge 13, 3, 77, 0, []) := rfl
theorem rw_212_67 : mm_code 211 67 = some (.iload_n 3, 1, 0, 0, []) := rfl
theorem rw_212_68 : mm_code 211 68 = some (.ifCond .ge 9, 3, 77, 0, []) := rfl
theorem rw_212_71 : mm_code 211 71 = some (.aload_n 0, 1, 0, 0, []) := rfl
theorem rw_212_72 : mm_code 211 72 = some (.iconst 4, 1, 4, 0, []) := rfl
theorem rw_212_73 : mm_code 211 73 = some (.invokevirtual 208, 3, 151, 2, [65, 0]) := rfl
theorem rw_212_76 : mm_code 211 76 = some (.ireturn, 1, 1, 0, []) := rfl
theorem rw_212_77 : mm_code 211 77 = some (.aload_n 0, 1, 0, 0, []) := rfl
theorem rw_212_78 : mm_code 211 78 = some (.invokevirtual 211, 3, 155, 1, [66, 0]) := rfl
theorem rw_212_81 : mm_code 211 81 = some (.iload_n 3, 1, 0, 0, []) := rfl
theorem rw_212_82 : mm_code 211 82 = some (.ifCond .lt 17, 3, 99, 0, []) := rfl
theorem rw_212_85 : mm_code 211 85 = some (.aload_n 0, 1, 0, 0, []) := rfl
theorem rw_212_86 : mm_code 211 86 = some (.getfield 103, 3, 11, 51, [3, 31]) := rfl
theorem rw_212_89 : mm_code 211 89 = some (.iload_n 1, 1, 0, 0, []) := rfl
theorem rw_212_90 : mm_code 211 90 = some (.dup2, 1, 0, 0, []) := rfl
theorem rw_212_91 : mm_code 211 91 = some (.iaload, 1, 0, 0, []) := rfl
theorem rw_212_92 : mm_code 211 92 = some (.iconst 1, 1, 1, 0, []) := rfl
theorem rw_212_93 : mm_code 211 93 = some (.iload_n 3, 1, 0, 0, []) := rfl
theorem rw_212_94 : mm_code 211 94 = some (.ishl, 1, 0, 0, []) := rfl
theorem rw_212_95 : mm_code 211 95 = some (.ior, 1, 0, 0, []) := rfl
theorem rw_212_96 : mm_code 211 96 = some (.iastore, 1, 0, 0, []) := rfl
theorem rw_212_97 : mm_code 211 97 = some (.iconst 1, 1, 1, 0, []) := rfl
theorem rw_212_98 : mm_code 211 98 = some (.ireturn, 1, 1, 0, []) := rfl
theorem rw_212_99 : mm_code 211 99 = some (.aload_n 0, 1, 0, 0, []) := rfl
theorem rw_212_100 : mm_code 211 100 = some (.iconst 0, 1, 0, 0, []) := rfl
theorem rw_212_101 : mm_code 211 101 = some (.aload_n 0, 1, 0, 0, []) := rfl
theorem rw_212_102 : mm_code 211 102 = some (.getfield 29, 3, 11, 20, [3, 7]) := rfl
theorem rw_212_105 : mm_code 211 105 = some (.iload_n 2, 1, 0, 0, []) := rfl
theorem rw_212_106 : mm_code 211 106 = some (.iaload, 1, 0, 0, []) := rfl
theorem rw_212_107 : mm_code 211 107 = some (.aload_n 0, 1, 0, 0, []) := rfl
theorem rw_212_108 : mm_code 211 108 = some (.getfield 26, 3, 11, 19, [3, 6]) := rfl
theorem rw_212_111 : mm_code 211 111 = some (.iload_n 2, 1, 0, 0, []) := rfl
theorem rw_212_112 : mm_code 211 112 = some (.iaload, 1, 0, 0, []) := rfl
theorem rw_212_113 : mm_code 211 113 = some (.isub, 1, 0, 0, []) := rfl
theorem rw_212_114 : mm_code 211 114 = some (.invokevirtual 266, 3, 161, 3, [83, 0]) := rfl
theorem rw_212_117 : mm_code 211 117 = some (.ifCond .ne 5, 3, 122, 0, []) := rfl
theorem rw_212_120 : mm_code 211 120 = some (.iconst 0, 1, 0, 0, []) := rfl
theorem rw_212_121 : mm_code 211 121 = some (.ireturn, 1, 1, 0, []) := rfl
theorem rw_212_122 : mm_code 211 122 = some (.aload_n 0, 1, 0, 0, []) := rfl
theorem rw_212_123 : mm_code 211 123 = some (.getfield 100, 3, 11, 50, [3, 30]) := rfl
theorem rw_212_126 : mm_code 211 126 = some (.iload_n 1, 1, 0, 0, []) := rfl
theorem rw_212_127 : mm_code 211 127 = some (.dup2, 1, 0, 0, []) := rfl
theorem rw_212_128 : mm_code 211 128 = some (.laload, 1, 0, 0, []) := rfl
theorem rw_212_129 : mm_code 211 129 = some (.lconst 1, 1, 1, 0, []) := rfl
theorem rw_212_130 : mm_code 211 130 = some (.aload_n 0, 1, 0, 0, []) := rfl
theorem rw_212_131 : mm_code 211 131 = some (.getfield 26, 3, 11, 19, [3, 6]) := rfl
theorem rw_212_134 : mm_code 211 134 = some (.iload_n 2, 1, 0, 0, []) := rfl
theorem rw_212_135 : mm_code 211 135 = some (.iaload, 1, 0, 0, []) := rfl
theorem rw_212_136 : mm_code 211 136 = some (.aload_n 0, 1, 0, 0, []) := rfl
theorem rw_212_137 : mm_code 211 137 = some (.getfield 196, 3, 11, 9, [0, 61]) := rfl
theorem rw_212_140 : mm_code 211 140 = some (.iadd, 1, 0, 0, []) := rfl
theorem rw_212_141 : mm_code 211 141 = some (.lshl, 1, 0, 0, []) := rfl
theorem rw_212_142 : mm_code 211 142 = some (.lor, 1, 0, 0, []) := rfl
theorem rw_212_143 : mm_code 211 143 = some (.lastore, 1, 0, 0, []) := rfl
theorem rw_212_144 : mm_code 211 144 = some (.aload_n 0, 1, 0, 0, []) := rfl
theorem rw_212_145 : mm_code 211 145 = some (.invokevirtual 211, 3, 155, 1, [66, 0]) := rfl
theorem rw_212_148 : mm_code 211 148 = some (.iconst 1, 1, 1, 0, []) := rfl
theorem rw_212_149 : mm_code 211 149 = some (.ireturn, 1, 1, 0, []) := rfl
theorem rw_213_0 : mm_code 212 0 = some (.aload_n 0, 1, 0, 0, []) := rfl
theorem rw_213_1 : mm_code 212 1 = some (.getfield 88, 3, 11, 46, [3, 26]) := rfl
theorem rw_213_4 : mm_code 212 4 = some (.iload_n 1, 1, 0, 0, []) := rfl
theorem rw_213_5 : mm_code 212 5 = some (.aload_n 0, 1, 0, 0, []) := rfl
theorem rw_213_6 : mm_code 212 6 = some (.invokevirtual 354, 3, 210, 1, [111, 0]) := rfl
theorem rw_213_9 : mm_code 212 9 = some (.iastore, 1, 0, 0, []) := rfl
theorem rw_213_10 : mm_code 212 10 = some (.aload_n 0, 1, 0, 0, []) := rfl
theorem rw_213_11 : mm_code 212 11 = some (.getfield 88, 3, 11, 46, [3, 26]) := rfl
theorem rw_213_14 : mm_code 212 14 = some (.iload_n 1, 1, 0, 0, []) := rfl
theorem rw_213_15 : mm_code 212 15 = some (.iaload, 1, 0, 0, []) := rfl
theorem rw_213_16 : mm_code 212 16 = some (.ifCond .ge 5, 3, 21, 0, []) := rfl
theorem rw_213_19 : mm_code 212 19 = some (.iconst 0, 1, 0, 0, []) := rfl
theorem rw_213_20 : mm_code 212 20 = some (.ireturn, 1, 1, 0, []) := rfl
theorem rw_213_21 : mm_code 212 21 = some (.aload_n 0, 1, 0, 0, []) := rfl
theorem rw_213_22 : mm_code 212 22 = some (.invokevirtual 211, 3, 155, 1, [66, 0]) := rfl
theorem rw_213_25 : mm_code 212 25 = some (.aload_n 0, 1, 0, 0, []) := rfl
theorem rw_213_26 : mm_code 212 26 = some (.bipush 8, 2, 8, 0, []) := rfl
theorem rw_213_28 : mm_code 212 28 = some (.invokevirtual 358, 3, 160, 2, [112, 0]) := rfl
theorem rw_213_31 : mm_code 212 31 = some (.ifCond .ne 5, 3, 36, 0, []) := rfl
theorem rw_213_34 : mm_code 212 34 = some (.iconst 0, 1, 0, 0, []) := rfl
theorem rw_213_35 : mm_code 212 35 = some (.ireturn, 1, 1, 0, []) := rfl
theorem rw_213_36 : mm_code 212 36 = some (.aload_n 0, 1, 0, 0, []) := rfl
theorem rw_213_37 : mm_code 212 37 = some (.getfield 91, 3, 11, 47, [3, 27]) := rfl
theorem rw_213_40 : mm_code 212 40 = some (.iload_n 1, 1, 0, 0, []) := rfl
theorem rw_213_41 : mm_code 212 41 = some (.aload_n 0, 1, 0, 0, []) := rfl
theorem rw_213_42 : mm_code 212 42 = some (.invokevirtual 354, 3, 210, 1, [111, 0]) := rfl
theorem rw_213_45 : mm_code 212 45 = some (.iastore, 1, 0, 0, []) := rfl
theorem rw_213_46 : mm_code 212 46 = some (.aload_n 0, 1, 0, 0, []) := rfl
theorem rw_213_47 : mm_code 212 47 = some (.getfield 91, 3, 11, 47, [3, 27]) := rfl
theorem rw_213_50 : mm_code 212 50 = some (.iload_n 1, 1, 0, 0, []) := rfl
theorem rw_213_51 : mm_code 212 51 = some (.iaload, 1, 0, 0, []) := rfl
theorem rw_213_52 : mm_code 212 52 = some (.ifCond .ge 5, 3, 57, 0, []) := rfl
theorem rw_213_55 : mm_code 212 55 = some (.iconst 0, 1, 0, 0, []) := rfl
theorem rw_213_56 : mm_code 212 56 = some (.ireturn, 1, 1, 0, []) := rfl
theorem rw_213_57 : mm_code 212 57 = some (.aload_n 0, 1, 0, 0, []) := rfl
theorem rw_213_58 : mm_code 212 58 = some (.invokevirtual 211, 3, 155, 1, [66, 0]) := rfl
theorem rw_213_61 : mm_code 212 61 = some (.aload_n 0, 1, 0, 0, []) := rfl
theorem rw_213_62 : mm_code 212 62 = some (.getfield 94, 3, 11, 48, [3, 28]) := rfl
theorem rw_213_65 : mm_code 212 65 = some (.iload_n 1, 1, 0, 0, []) := rfl
theorem rw_213_66 : mm_code 212 66 = some (.aload_n 0, 1, 0, 0, []) := rfl
theorem rw_213_67 : mm_code 212 67 = some (.invokevirtual 354, 3, 210, 1, [111, 0]) := rfl
theorem rw_213_70 : mm_code 212 70 = some (.iastore, 1, 0, 0, []) := rfl
theorem rw_213_71 : mm_code 212 71 = some (.aload_n 0, 1, 0, 0, []) := rfl
theorem rw_213_72 : mm_code 212 72 = some (.getfield 94, 3, 11, 48, [3, 28]) := rfl
theorem rw_213_75 : mm_code 212 75 = some (.iload_n 1, 1, 0, 0, []) := rfl
theorem rw_213_76 : mm_code 212 76 = some (.iaload, 1, 0, 0, []) := rfl
theorem rw_213_77 : mm_code 212 77 = some (.ifCond .ge 5, 3, 82, 0, []) := rfl
theorem rw_213_80 : mm_code 212 80 = some (.iconst 0, 1, 0, 0, []) := rfl
theorem rw_213_81 : mm_code 212 81 = some (.ireturn, 1, 1, 0, []) := rfl
theorem rw_213_82 : mm_code 212 82 = some (.aload_n 0, 1, 0, 0, []) := rfl
theorem rw_213_83 : mm_code 212 83 = some (.invokevirtual 211, 3, 155, 1, [66, 0]) := rfl
theorem rw_213_86 : mm_code 212 86 = some (.aload_n 0, 1, 0, 0, []) := rfl
theorem rw_213_87 : mm_code 212 87 = some (.bipush 9, 2, 9, 0, []) := rfl
theorem rw_213_89 : mm_code 212 89 = some (.invokevirtual 358, 3, 160, 2, [112, 0]) := rfl
theorem rw_213_92 : mm_code 212 92 = some (.ifCond .ne 5, 3, 97, 0, []) := rfl
theorem rw_213_95 : mm_code 212 95 = some (.iconst 0, 1, 0, 0, []) := rfl
theorem rw_213_96 : mm_code 212 96 = some (.ireturn, 1, 1, 0, []) := rfl
theorem rw_213_97 : mm_code 212 97 = some (.aload_n 0, 1, 0, 0, []) := rfl
theorem rw_213_98 : mm_code 212 98 = some (.getfield 185, 3, 11, 8, [0, 58]) := rfl
theorem rw_213_101 : mm_code 212 101 = some (.iconst 3, 1, 3, 0, []) := rfl
theorem rw_213_102 : mm_code 212 102 = some (.if_icmp .eq 17, 3, 119, 0, []) := rfl
theorem rw_213_105 : mm_code 212 105 = some (.aload_n 0, 1, 0, 0, []) := rfl
theorem rw_213_106 : mm_code 212 106 = some (.getfield 185, 3, 11, 8, [0, 58]) := rfl
theorem rw_213_109 : mm_code 212 109 = some (.iconst 2, 1, 2, 0, []) := rfl
theorem rw_213_110 : mm_code 212 110 = some (.if_icmp .eq 9, 3, 119, 0, []) := rfl
theorem rw_213_113 : mm_code 212 113 = some (.aload_n 0, 1, 0, 0, []) := rfl
theorem rw_213_114 : mm_code 212 114 = some (.iconst 1, 1, 1, 0, []) := rfl
theorem rw_213_115 : mm_code 212 115 = some (.invokevirtual 208, 3, 151, 2, [65, 0]) := rfl
theorem rw_213_118 : mm_code 212 118 = some (.ireturn, 1, 1, 0, []) := rfl
theorem rw_213_119 : mm_code 212 119 = some (.aload_n 0, 1, 0, 0, []) := rfl
theorem rw_213_120 : mm_code 212 120 = some (.getfield 100, 3, 11, 50, [3, 30]) := rfl
theorem rw_213_123 : mm_code 212 123 = some (.iload_n 1, 1, 0, 0, []) := rfl
theorem rw_213_124 : mm_code 212 124 = some (.lconst 0, 1, 0, 0, []) := rfl
theorem rw_213_125 : mm_code 212 125 = some (.lastore, 1, 0, 0, []) := rfl
theorem rw_213_126 : mm_code 212 126 = some (.aload_n 0, 1, 0, 0, []) := rfl
theorem rw_213_127 : mm_code 212 127 = some (.getfield 103, 3, 11, 51, [3, 31]) := rfl
theorem rw_213_130 : mm_code 212 130 = some (.iload_n 1, 1, 0, 0, []) := rfl
theorem rw_213_131 : mm_code 212 131 = some (.iconst 0, 1, 0, 0, []) := rfl
theorem rw_213_132 : mm_code 212 132 = some (.iastore, 1, 0, 0, []) := rfl
theorem rw_213_133 : mm_code 212 133 = some (.aload_n 0, 1, 0, 0, []) := rfl
theorem rw_213_134 : mm_code 212 134 = some (.getfield 185, 3, 11, 8, [0, 58]) := rfl
theorem rw_213_137 : mm_code 212 137 = some (.iconst 3, 1, 3, 0, []) := rfl
theorem rw_213_138 : mm_code 212 138 = some (.if_icmp .eq 11, 3, 149, 0, []) := rfl
theorem rw_213_141 : mm_code 212 141 = some (.aload_n 0, 1, 0, 0, []) := rfl
theorem rw_213_142 : mm_code 212 142 = some (.getfield 185, 3, 11, 8, [0, 58]) := rfl
theorem rw_213_145 : mm_code 212 145 = some (.iconst 2, 1, 2, 0, []) := rfl
theorem rw_213_146 : mm_code 212 146 = some (.if_icmp .ne 13, 3, 159, 0, []) := rfl
theorem rw_213_149 : mm_code 212 149 = some (.aload_n 0, 1, 0, 0, []) := rfl
theorem rw_213_150 : mm_code 212 150 = some (.iload_n 1, 1, 0, 0, []) := rfl
theorem rw_213_151 : mm_code 212 151 = some (.invokevirtual 361, 3, 211, 2, [113, 0]) := rfl
theorem rw_213_154 : mm_code 212 154 = some (.ifCond .ne (-21), 3, 133, 0, []) := rfl
theorem rw_213_157 : mm_code 212 157 = some (.iconst 0, 1, 0, 0, []) := rfl
theorem rw_213_158 : mm_code 212 158 = some (.ireturn, 1, 1, 0, []) := rfl
theorem rw_213_159 : mm_code 212 159 = some (.aload_n 0, 1, 0, 0, []) := rfl
theorem rw_213_160 : mm_code 212 160 = some (.bipush 59, 2, 59, 0, []) := rfl
theorem rw_213_162 : mm_code 212 162 = some (.invokevirtual 280, 3, 159, 2, [87, 0]) := rfl
theorem rw_213_165 : mm_code 212 165 = some (.ireturn, 1, 1, 0, []) := rfl
theorem rw_214_0 : mm_code 213 0 = some (.aload_n 0, 1, 0, 0, []) := rfl
theorem rw_214_1 : mm_code 213 1 = some (.getfield 88, 3, 11, 46, [3, 26]) := rfl
theorem rw_214_4 : mm_code 213 4 = some (.iload_n 1, 1, 0, 0, []) := rfl
theorem rw_214_5 : mm_code 213 5 = some (.aload_n 0, 1, 0, 0, []) := rfl
theorem rw_214_6 : mm_code 213 6 = some (.invokevirtual 354, 3, 210, 1, [111, 0]) := rfl
theorem rw_214_9 : mm_code 213 9 = some (.iastore, 1, 0, 0, []) := rfl
theorem rw_214_10 : mm_code 213 10 = some (.aload_n 0, 1, 0, 0, []) := rfl
theorem rw_214_11 : mm_code 213 11 = some (.getfield 88, 3, 11, 46, [3, 26]) := rfl
theorem rw_214_14 : mm_code 213 14 = some (.iload_n 1, 1, 0, 0, []) := rfl
theorem rw_214_15 : mm_code 213 15 = some (.iaload, 1, 0, 0, []) := rfl
theorem rw_214_16 : mm_code 213 16 = some (.ifCond .ge 5, 3, 21, 0, []) := rfl
theorem rw_214_19 : mm_code 213 19 = some (.iconst 0, 1, 0, 0, []) := rfl
theorem rw_214_20 : mm_code 213 20 = some (.ireturn, 1, 1, 0, []) := rfl
theorem rw_214_21 : mm_code 213 21 = some (.aload_n 0, 1, 0, 0, []) := rfl
theorem rw_214_22 : mm_code 213 22 = some (.invokevirtual 211, 3, 155, 1, [66, 0]) := rfl
theorem rw_214_25 : mm_code 213 25 = some (.aload_n 0, 1, 0, 0, []) := rfl
theorem rw_214_26 : mm_code 213 26 = some (.getfield 91, 3, 11, 47, [3, 27]) := rfl
theorem rw_214_29 : mm_code 213 29 = some (.iload_n 1, 1, 0, 0, []) := rfl
theorem rw_214_30 : mm_code 213 30 = some (.aload_n 0, 1, 0, 0, []) := rfl
theorem rw_214_31 : mm_code 213 31 = some (.invokevirtual 354, 3, 210, 1, [111, 0]) := rfl
theorem rw_214_34 : mm_code 213 34 = some (.iastore, 1, 0, 0, []) := rfl
theorem rw_214_35 : mm_code 213 35 = some (.aload_n 0, 1, 0, 0, []) := rfl
theorem rw_214_36 : mm_code 213 36 = some (.getfield 91, 3, 11, 47, [3, 27]) := rfl
theorem rw_214_39 : mm_code 213 39 = some (.iload_n 1, 1, 0, 0, []) := rfl
theorem rw_214_40 : mm_code 213 40 = some (.iaload, 1, 0, 0, []) := rfl
theorem rw_214_41 : mm_code 213 41 = some (.ifCond .ge 5, 3, 46, 0, []) := rfl
theorem rw_214_44 : mm_code 213 44 = some (.iconst 0, 1, 0, 0, []) := rfl
theorem rw_214_45 : mm_code 213 45 = some (.ireturn, 1, 1, 0, []) := rfl
theorem rw_214_46 : mm_code 213 46 = some (.aload_n 0, 1, 0, 0, []) := rfl
theorem rw_214_47 : mm_code 213 47 = some (.getfield 91, 3, 11, 47, [3, 27]) := rfl
theorem rw_214_50 : mm_code 213 50 = some (.iload_n 1, 1, 0, 0, []) := rfl
theorem rw_214_51 : mm_code 213 51 = some (.iaload, 1, 0, 0, []) := rfl
theorem rw_214_52 : mm_code 213 52 = some (.aload_n 0, 1, 0, 0, []) := rfl
theorem rw_214_53 : mm_code 213 53 = some (.getfield 88, 3, 11, 46, [3, 26]) := rfl
theorem rw_214_56 : mm_code 213 56 = some (.iload_n 1, 1, 0, 0, []) := rfl
theorem rw_214_57 : mm_code 213 57 = some (.iaload, 1, 0, 0, []) := rfl
theorem rw_214_58 : mm_code 213 58 = some (.if_icmp .ne 9, 3, 67, 0, []) := rfl
