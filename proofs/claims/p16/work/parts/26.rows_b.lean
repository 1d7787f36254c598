theorem rw_71_57 : mm_code 71 57 = some (.if_icmp .lt 24, 3, 81, 0, []) := rfl
theorem rw_71_60 : mm_code 71 60 = some (.iload_n 2, 1, 0, 0, []) := rfl
theorem rw_71_61 : mm_code 71 61 = some (.aload_n 0, 1, 0, 0, []) := rfl
theorem rw_71_62 : mm_code 71 62 = some (.getfield 72, 3, 7, 8, [0, 17]) := rfl
theorem rw_71_65 : mm_code 71 65 = some (.if_icmp .ne 20, 3, 85, 0, []) := rfl
theorem rw_71_68 : mm_code 71 68 = some (.aload_n 0, 1, 0, 0, []) := rfl
theorem rw_71_69 : mm_code 71 69 = some (.getfield 21, 3, 7, 5, [3, 4]) := rfl
theorem rw_71_72 : mm_code 71 72 = some (.iload_n 1, 1, 0, 0, []) := rfl
theorem rw_71_73 : mm_code 71 73 = some (.iaload, 1, 0, 0, []) := rfl
theorem rw_71_74 : mm_code 71 74 = some (.aload_n 0, 1, 0, 0, []) := rfl
theorem rw_71_75 : mm_code 71 75 = some (.getfield 83, 3, 7, 9, [0, 20]) := rfl
theorem rw_71_78 : mm_code 71 78 = some (.if_icmp .ge 7, 3, 85, 0, []) := rfl
theorem rw_71_81 : mm_code 71 81 = some (.iconst 1, 1, 1, 0, []) := rfl
theorem rw_71_82 : mm_code 71 82 = some (.goto 4, 3, 86, 0, []) := rfl
theorem rw_71_85 : mm_code 71 85 = some (.iconst 0, 1, 0, 0, []) := rfl
theorem rw_71_86 : mm_code 71 86 = some (.istore_n 3, 1, 0, 0, []) := rfl
theorem rw_71_87 : mm_code 71 87 = some (.aload_n 0, 1, 0, 0, []) := rfl
theorem rw_71_88 : mm_code 71 88 = some (.getfield 21, 3, 7, 5, [3, 4]) := rfl
theorem rw_71_91 : mm_code 71 91 = some (.iload_n 1, 1, 0, 0, []) := rfl
theorem rw_71_92 : mm_code 71 92 = some (.iaload, 1, 0, 0, []) := rfl
theorem rw_71_93 : mm_code 71 93 = some (.iconst (-1), 1, 1, 1, []) := rfl
theorem rw_71_94 : mm_code 71 94 = some (.if_icmp .eq 30, 3, 124, 0, []) := rfl
theorem rw_71_97 : mm_code 71 97 = some (.iload_n 3, 1, 0, 0, []) := rfl
theorem rw_71_98 : mm_code 71 98 = some (.ifCond .eq 26, 3, 124, 0, []) := rfl
theorem rw_71_101 : mm_code 71 101 = some (.aload_n 0, 1, 0, 0, []) := rfl
theorem rw_71_102 : mm_code 71 102 = some (.iload_n 1, 1, 0, 0, []) := rfl
theorem rw_71_103 : mm_code 71 103 = some (.invokevirtual 86, 3, 74, 2, [21, 0]) := rfl
theorem rw_71_106 : mm_code 71 106 = some (.ifCond .eq 18, 3, 124, 0, []) := rfl
theorem rw_71_109 : mm_code 71 109 = some (.aload_n 0, 1, 0, 0, []) := rfl
theorem rw_71_110 : mm_code 71 110 = some (.iload_n 2, 1, 0, 0, []) := rfl
theorem rw_71_111 : mm_code 71 111 = some (.putfield 72, 3, 7, 8, [0, 17]) := rfl
theorem rw_71_114 : mm_code 71 114 = some (.aload_n 0, 1, 0, 0, []) := rfl
theorem rw_71_115 : mm_code 71 115 = some (.aload_n 0, 1, 0, 0, []) := rfl
theorem rw_71_116 : mm_code 71 116 = some (.getfield 21, 3, 7, 5, [3, 4]) := rfl
theorem rw_71_119 : mm_code 71 119 = some (.iload_n 1, 1, 0, 0, []) := rfl
theorem rw_71_120 : mm_code 71 120 = some (.iaload, 1, 0, 0, []) := rfl
theorem rw_71_121 : mm_code 71 121 = some (.putfield 83, 3, 7, 9, [0, 20]) := rfl
theorem rw_71_124 : mm_code 71 124 = some (.iinc 1 1, 3, 1, 0, []) := rfl
theorem rw_71_127 : mm_code 71 127 = some (.goto (-113), 3, 14, 0, []) := rfl
theorem rw_71_130 : mm_code 71 130 = some (.aload_n 0, 1, 0, 0, []) := rfl
theorem rw_71_131 : mm_code 71 131 = some (.getfield 72, 3, 7, 8, [0, 17]) := rfl
theorem rw_71_134 : mm_code 71 134 = some (.iconst (-1), 1, 1, 1, []) := rfl
theorem rw_71_135 : mm_code 71 135 = some (.if_icmp .eq 7, 3, 142, 0, []) := rfl
theorem rw_71_138 : mm_code 71 138 = some (.iconst 1, 1, 1, 0, []) := rfl
theorem rw_71_139 : mm_code 71 139 = some (.goto 4, 3, 143, 0, []) := rfl
theorem rw_71_142 : mm_code 71 142 = some (.iconst 0, 1, 0, 0, []) := rfl
theorem rw_71_143 : mm_code 71 143 = some (.ireturn, 1, 1, 0, []) := rfl
theorem rw_72_0 : mm_code 72 0 = some (.iload_n 1, 1, 0, 0, []) := rfl
theorem rw_72_1 : mm_code 72 1 = some (.invokestatic 78, 3, 246, 1, [19, 0]) := rfl
theorem rw_72_4 : mm_code 72 4 = some (.iconst 1, 1, 1, 0, []) := rfl
theorem rw_72_5 : mm_code 72 5 = some (.isub, 1, 0, 0, []) := rfl
theorem rw_72_6 : mm_code 72 6 = some (.istore_n 2, 1, 0, 0, []) := rfl
theorem rw_72_7 : mm_code 72 7 = some (.iconst 0, 1, 0, 0, []) := rfl
theorem rw_72_8 : mm_code 72 8 = some (.istore_n 3, 1, 0, 0, []) := rfl
theorem rw_72_9 : mm_code 72 9 = some (.iload_n 3, 1, 0, 0, []) := rfl
theorem rw_72_10 : mm_code 72 10 = some (.aload_n 0, 1, 0, 0, []) := rfl
theorem rw_72_11 : mm_code 72 11 = some (.getfield 51, 3, 7, 1, [0, 11]) := rfl
theorem rw_72_14 : mm_code 72 14 = some (.if_icmp .ge 59, 3, 73, 0, []) := rfl
theorem rw_72_17 : mm_code 72 17 = some (.iload_n 1, 1, 0, 0, []) := rfl
theorem rw_72_18 : mm_code 72 18 = some (.iconst 1, 1, 1, 0, []) := rfl
theorem rw_72_19 : mm_code 72 19 = some (.iload_n 3, 1, 0, 0, []) := rfl
theorem rw_72_20 : mm_code 72 20 = some (.ishl, 1, 0, 0, []) := rfl
theorem rw_72_21 : mm_code 72 21 = some (.iconst (-1), 1, 1, 1, []) := rfl
theorem rw_72_22 : mm_code 72 22 = some (.ixor, 1, 0, 0, []) := rfl
theorem rw_72_23 : mm_code 72 23 = some (.iand, 1, 0, 0, []) := rfl
theorem rw_72_24 : mm_code 72 24 = some (.istore 4, 2, 0, 0, []) := rfl
theorem rw_72_26 : mm_code 72 26 = some (.iload 4, 2, 0, 0, []) := rfl
theorem rw_72_28 : mm_code 72 28 = some (.iload_n 1, 1, 0, 0, []) := rfl
theorem rw_72_29 : mm_code 72 29 = some (.if_icmp .eq 38, 3, 67, 0, []) := rfl
theorem rw_72_32 : mm_code 72 32 = some (.aload_n 0, 1, 0, 0, []) := rfl
theorem rw_72_33 : mm_code 72 33 = some (.getfield 21, 3, 7, 5, [3, 4]) := rfl
theorem rw_72_36 : mm_code 72 36 = some (.iload 4, 2, 0, 0, []) := rfl
theorem rw_72_38 : mm_code 72 38 = some (.iaload, 1, 0, 0, []) := rfl
theorem rw_72_39 : mm_code 72 39 = some (.iconst (-1), 1, 1, 1, []) := rfl
theorem rw_72_40 : mm_code 72 40 = some (.if_icmp .eq 27, 3, 67, 0, []) := rfl
theorem rw_72_43 : mm_code 72 43 = some (.aload_n 0, 1, 0, 0, []) := rfl
theorem rw_72_44 : mm_code 72 44 = some (.iload 4, 2, 0, 0, []) := rfl
theorem rw_72_46 : mm_code 72 46 = some (.iload_n 3, 1, 0, 0, []) := rfl
theorem rw_72_47 : mm_code 72 47 = some (.invokevirtual 90, 3, 73, 3, [22, 0]) := rfl
theorem rw_72_50 : mm_code 72 50 = some (.ifCond .eq 17, 3, 67, 0, []) := rfl
theorem rw_72_53 : mm_code 72 53 = some (.iload_n 3, 1, 0, 0, []) := rfl
theorem rw_72_54 : mm_code 72 54 = some (.iconst 3, 1, 3, 0, []) := rfl
theorem rw_72_55 : mm_code 72 55 = some (.iload_n 2, 1, 0, 0, []) := rfl
theorem rw_72_56 : mm_code 72 56 = some (.imul, 1, 0, 0, []) := rfl
theorem rw_72_57 : mm_code 72 57 = some (.ishl, 1, 0, 0, []) := rfl
theorem rw_72_58 : mm_code 72 58 = some (.aload_n 0, 1, 0, 0, []) := rfl
theorem rw_72_59 : mm_code 72 59 = some (.getfield 21, 3, 7, 5, [3, 4]) := rfl
theorem rw_72_62 : mm_code 72 62 = some (.iload 4, 2, 0, 0, []) := rfl
theorem rw_72_64 : mm_code 72 64 = some (.iaload, 1, 0, 0, []) := rfl
theorem rw_72_65 : mm_code 72 65 = some (.ior, 1, 0, 0, []) := rfl
theorem rw_72_66 : mm_code 72 66 = some (.ireturn, 1, 0, 0, []) := rfl
theorem rw_72_67 : mm_code 72 67 = some (.iinc 3 1, 3, 1, 0, []) := rfl
theorem rw_72_70 : mm_code 72 70 = some (.goto (-61), 3, 9, 0, []) := rfl
theorem rw_72_73 : mm_code 72 73 = some (.iconst (-1), 1, 1, 1, []) := rfl
theorem rw_72_74 : mm_code 72 74 = some (.ireturn, 1, 0, 0, []) := rfl
theorem rw_73_0 : mm_code 73 0 = some (.iconst 0, 1, 0, 0, []) := rfl
theorem rw_73_1 : mm_code 73 1 = some (.istore_n 3, 1, 0, 0, []) := rfl
theorem rw_73_2 : mm_code 73 2 = some (.iload_n 3, 1, 0, 0, []) := rfl
theorem rw_73_3 : mm_code 73 3 = some (.aload_n 0, 1, 0, 0, []) := rfl
theorem rw_73_4 : mm_code 73 4 = some (.getfield 35, 3, 7, 0, [0, 8]) := rfl
theorem rw_73_7 : mm_code 73 7 = some (.if_icmp .ge 39, 3, 46, 0, []) := rfl
theorem rw_73_10 : mm_code 73 10 = some (.aload_n 0, 1, 0, 0, []) := rfl
theorem rw_73_11 : mm_code 73 11 = some (.getfield 24, 3, 7, 6, [3, 5]) := rfl
theorem rw_73_14 : mm_code 73 14 = some (.aload_n 0, 1, 0, 0, []) := rfl
theorem rw_73_15 : mm_code 73 15 = some (.getfield 15, 3, 7, 3, [3, 2]) := rfl
theorem rw_73_18 : mm_code 73 18 = some (.iload_n 3, 1, 0, 0, []) := rfl
theorem rw_73_19 : mm_code 73 19 = some (.iaload, 1, 0, 0, []) := rfl
theorem rw_73_20 : mm_code 73 20 = some (.iload_n 1, 1, 0, 0, []) := rfl
theorem rw_73_21 : mm_code 73 21 = some (.iand, 1, 0, 0, []) := rfl
theorem rw_73_22 : mm_code 73 22 = some (.bipush (-2), 2, 2, 1, []) := rfl
theorem rw_73_24 : mm_code 73 24 = some (.iastore, 1, 0, 0, []) := rfl
theorem rw_73_25 : mm_code 73 25 = some (.aload_n 0, 1, 0, 0, []) := rfl
theorem rw_73_26 : mm_code 73 26 = some (.getfield 27, 3, 7, 7, [3, 6]) := rfl
theorem rw_73_29 : mm_code 73 29 = some (.aload_n 0, 1, 0, 0, []) := rfl
theorem rw_73_30 : mm_code 73 30 = some (.getfield 15, 3, 7, 3, [3, 2]) := rfl
theorem rw_73_33 : mm_code 73 33 = some (.iload_n 3, 1, 0, 0, []) := rfl
theorem rw_73_34 : mm_code 73 34 = some (.iaload, 1, 0, 0, []) := rfl
theorem rw_73_35 : mm_code 73 35 = some (.iload_n 1, 1, 0, 0, []) := rfl
theorem rw_73_36 : mm_code 73 36 = some (.iand, 1, 0, 0, []) := rfl
theorem rw_73_37 : mm_code 73 37 = some (.bipush 100, 2, 100, 0, []) := rfl
theorem rw_73_39 : mm_code 73 39 = some (.iastore, 1, 0, 0, []) := rfl
theorem rw_73_40 : mm_code 73 40 = some (.iinc 3 1, 3, 1, 0, []) := rfl
theorem rw_73_43 : mm_code 73 43 = some (.goto (-41), 3, 2, 0, []) := rfl
theorem rw_73_46 : mm_code 73 46 = some (.iconst 0, 1, 0, 0, []) := rfl
theorem rw_73_47 : mm_code 73 47 = some (.istore_n 3, 1, 0, 0, []) := rfl
theorem rw_73_48 : mm_code 73 48 = some (.iload_n 3, 1, 0, 0, []) := rfl
theorem rw_73_49 : mm_code 73 49 = some (.aload_n 0, 1, 0, 0, []) := rfl
theorem rw_73_50 : mm_code 73 50 = some (.getfield 35, 3, 7, 0, [0, 8]) := rfl
theorem rw_73_53 : mm_code 73 53 = some (.if_icmp .ge 100, 3, 153, 0, []) := rfl
theorem rw_73_56 : mm_code 73 56 = some (.aload_n 0, 1, 0, 0, []) := rfl
theorem rw_73_57 : mm_code 73 57 = some (.getfield 15, 3, 7, 3, [3, 2]) := rfl
theorem rw_73_60 : mm_code 73 60 = some (.iload_n 3, 1, 0, 0, []) := rfl
theorem rw_73_61 : mm_code 73 61 = some (.iaload, 1, 0, 0, []) := rfl
theorem rw_73_62 : mm_code 73 62 = some (.iload_n 1, 1, 0, 0, []) := rfl
theorem rw_73_63 : mm_code 73 63 = some (.iand, 1, 0, 0, []) := rfl
theorem rw_73_64 : mm_code 73 64 = some (.istore 4, 2, 0, 0, []) := rfl
theorem rw_73_66 : mm_code 73 66 = some (.aload_n 0, 1, 0, 0, []) := rfl
theorem rw_73_67 : mm_code 73 67 = some (.getfield 15, 3, 7, 3, [3, 2]) := rfl
theorem rw_73_70 : mm_code 73 70 = some (.iload_n 3, 1, 0, 0, []) := rfl
theorem rw_73_71 : mm_code 73 71 = some (.iaload, 1, 0, 0, []) := rfl
theorem rw_73_72 : mm_code 73 72 = some (.iload_n 2, 1, 0, 0, []) := rfl
theorem rw_73_73 : mm_code 73 73 = some (.ishr, 1, 0, 0, []) := rfl
theorem rw_73_74 : mm_code 73 74 = some (.iconst 1, 1, 1, 0, []) := rfl
theorem rw_73_75 : mm_code 73 75 = some (.iand, 1, 0, 0, []) := rfl
theorem rw_73_76 : mm_code 73 76 = some (.ifCond .eq 29, 3, 105, 0, []) := rfl
theorem rw_73_79 : mm_code 73 79 = some (.aload_n 0, 1, 0, 0, []) := rfl
theorem rw_73_80 : mm_code 73 80 = some (.getfield 27, 3, 7, 7, [3, 6]) := rfl
theorem rw_73_83 : mm_code 73 83 = some (.iload 4, 2, 0, 0, []) := rfl
theorem rw_73_85 : mm_code 73 85 = some (.aload_n 0, 1, 0, 0, []) := rfl
theorem rw_73_86 : mm_code 73 86 = some (.getfield 27, 3, 7, 7, [3, 6]) := rfl
theorem rw_73_89 : mm_code 73 89 = some (.iload 4, 2, 0, 0, []) := rfl
theorem rw_73_91 : mm_code 73 91 = some (.iaload, 1, 0, 0, []) := rfl
theorem rw_73_92 : mm_code 73 92 = some (.aload_n 0, 1, 0, 0, []) := rfl
theorem rw_73_93 : mm_code 73 93 = some (.getfield 9, 3, 7, 2, [3, 1]) := rfl
theorem rw_73_96 : mm_code 73 96 = some (.iload_n 3, 1, 0, 0, []) := rfl
theorem rw_73_97 : mm_code 73 97 = some (.iaload, 1, 0, 0, []) := rfl
theorem rw_73_98 : mm_code 73 98 = some (.invokestatic 45, 3, 996, 2, [10, 0]) := rfl
theorem rw_73_101 : mm_code 73 101 = some (.iastore, 1, 0, 0, []) := rfl
theorem rw_73_102 : mm_code 73 102 = some (.goto 26, 3, 128, 0, []) := rfl
theorem rw_73_105 : mm_code 73 105 = some (.aload_n 0, 1, 0, 0, []) := rfl
theorem rw_73_106 : mm_code 73 106 = some (.getfield 24, 3, 7, 6, [3, 5]) := rfl
theorem rw_73_109 : mm_code 73 109 = some (.iload 4, 2, 0, 0, []) := rfl
theorem rw_73_111 : mm_code 73 111 = some (.aload_n 0, 1, 0, 0, []) := rfl
theorem rw_73_112 : mm_code 73 112 = some (.getfield 24, 3, 7, 6, [3, 5]) := rfl
theorem rw_73_115 : mm_code 73 115 = some (.iload 4, 2, 0, 0, []) := rfl
theorem rw_73_117 : mm_code 73 117 = some (.iaload, 1, 0, 0, []) := rfl
theorem rw_73_118 : mm_code 73 118 = some (.aload_n 0, 1, 0, 0, []) := rfl
theorem rw_73_119 : mm_code 73 119 = some (.getfield 9, 3, 7, 2, [3, 1]) := rfl
theorem rw_73_122 : mm_code 73 122 = some (.iload_n 3, 1, 0, 0, []) := rfl
theorem rw_73_123 : mm_code 73 123 = some (.iaload, 1, 0, 0, []) := rfl
theorem rw_73_124 : mm_code 73 124 = some (.invokestatic 69, 3, 997, 2, [16, 0]) := rfl
theorem rw_73_127 : mm_code 73 127 = some (.iastore, 1, 0, 0, []) := rfl
theorem rw_73_128 : mm_code 73 128 = some (.aload_n 0, 1, 0, 0, []) := rfl
theorem rw_73_129 : mm_code 73 129 = some (.getfield 24, 3, 7, 6, [3, 5]) := rfl
theorem rw_73_132 : mm_code 73 132 = some (.iload 4, 2, 0, 0, []) := rfl
theorem rw_73_134 : mm_code 73 134 = some (.iaload, 1, 0, 0, []) := rfl
theorem rw_73_135 : mm_code 73 135 = some (.aload_n 0, 1, 0, 0, []) := rfl
theorem rw_73_136 : mm_code 73 136 = some (.getfield 27, 3, 7, 7, [3, 6]) := rfl
theorem rw_73_139 : mm_code 73 139 = some (.iload 4, 2, 0, 0, []) := rfl
theorem rw_73_141 : mm_code 73 141 = some (.iaload, 1, 0, 0, []) := rfl
theorem rw_73_142 : mm_code 73 142 = some (.if_icmp .le 5, 3, 147, 0, []) := rfl
theorem rw_73_145 : mm_code 73 145 = some (.iconst 0, 1, 0, 0, []) := rfl
theorem rw_73_146 : mm_code 73 146 = some (.ireturn, 1, 1, 0, []) := rfl
theorem rw_73_147 : mm_code 73 147 = some (.iinc 3 1, 3, 1, 0, []) := rfl
theorem rw_73_150 : mm_code 73 150 = some (.goto (-102), 3, 48, 0, []) := rfl
theorem rw_73_153 : mm_code 73 153 = some (.iconst 1, 1, 1, 0, []) := rfl
theorem rw_73_154 : mm_code 73 154 = some (.ireturn, 1, 1, 0, []) := rfl
theorem rw_74_0 : mm_code 74 0 = some (.iconst 0, 1, 0, 0, []) := rfl
theorem rw_74_1 : mm_code 74 1 = some (.istore_n 2, 1, 0, 0, []) := rfl
theorem rw_74_2 : mm_code 74 2 = some (.iload_n 2, 1, 0, 0, []) := rfl
theorem rw_74_3 : mm_code 74 3 = some (.aload_n 0, 1, 0, 0, []) := rfl
theorem rw_74_4 : mm_code 74 4 = some (.getfield 35, 3, 7, 0, [0, 8]) := rfl
theorem rw_74_7 : mm_code 74 7 = some (.if_icmp .ge 24, 3, 31, 0, []) := rfl
theorem rw_74_10 : mm_code 74 10 = some (.aload_n 0, 1, 0, 0, []) := rfl
theorem rw_74_11 : mm_code 74 11 = some (.getfield 24, 3, 7, 6, [3, 5]) := rfl
theorem rw_74_14 : mm_code 74 14 = some (.aload_n 0, 1, 0, 0, []) := rfl
theorem rw_74_15 : mm_code 74 15 = some (.getfield 15, 3, 7, 3, [3, 2]) := rfl
theorem rw_74_18 : mm_code 74 18 = some (.iload_n 2, 1, 0, 0, []) := rfl
theorem rw_74_19 : mm_code 74 19 = some (.iaload, 1, 0, 0, []) := rfl
theorem rw_74_20 : mm_code 74 20 = some (.iload_n 1, 1, 0, 0, []) := rfl
theorem rw_74_21 : mm_code 74 21 = some (.iand, 1, 0, 0, []) := rfl
theorem rw_74_22 : mm_code 74 22 = some (.bipush (-2), 2, 2, 1, []) := rfl
theorem rw_74_24 : mm_code 74 24 = some (.iastore, 1, 0, 0, []) := rfl
theorem rw_74_25 : mm_code 74 25 = some (.iinc 2 1, 3, 1, 0, []) := rfl
theorem rw_74_28 : mm_code 74 28 = some (.goto (-26), 3, 2, 0, []) := rfl
theorem rw_74_31 : mm_code 74 31 = some (.iconst 0, 1, 0, 0, []) := rfl
theorem rw_74_32 : mm_code 74 32 = some (.istore_n 2, 1, 0, 0, []) := rfl
theorem rw_74_33 : mm_code 74 33 = some (.iload_n 2, 1, 0, 0, []) := rfl
theorem rw_74_34 : mm_code 74 34 = some (.aload_n 0, 1, 0, 0, []) := rfl
theorem rw_74_35 : mm_code 74 35 = some (.getfield 35, 3, 7, 0, [0, 8]) := rfl
theorem rw_74_38 : mm_code 74 38 = some (.if_icmp .ge 52, 3, 90, 0, []) := rfl
theorem rw_74_41 : mm_code 74 41 = some (.aload_n 0, 1, 0, 0, []) := rfl
theorem rw_74_42 : mm_code 74 42 = some (.getfield 9, 3, 7, 2, [3, 1]) := rfl
theorem rw_74_45 : mm_code 74 45 = some (.iload_n 2, 1, 0, 0, []) := rfl
theorem rw_74_46 : mm_code 74 46 = some (.iaload, 1, 0, 0, []) := rfl
theorem rw_74_47 : mm_code 74 47 = some (.aload_n 0, 1, 0, 0, []) := rfl
theorem rw_74_48 : mm_code 74 48 = some (.getfield 24, 3, 7, 6, [3, 5]) := rfl
theorem rw_74_51 : mm_code 74 51 = some (.aload_n 0, 1, 0, 0, []) := rfl
theorem rw_74_52 : mm_code 74 52 = some (.getfield 15, 3, 7, 3, [3, 2]) := rfl
theorem rw_74_55 : mm_code 74 55 = some (.iload_n 2, 1, 0, 0, []) := rfl
theorem rw_74_56 : mm_code 74 56 = some (.iaload, 1, 0, 0, []) := rfl
theorem rw_74_57 : mm_code 74 57 = some (.iload_n 1, 1, 0, 0, []) := rfl
theorem rw_74_58 : mm_code 74 58 = some (.iand, 1, 0, 0, []) := rfl
theorem rw_74_59 : mm_code 74 59 = some (.iaload, 1, 0, 0, []) := rfl
theorem rw_74_60 : mm_code 74 60 = some (.if_icmp .ge 5, 3, 65, 0, []) := rfl
theorem rw_74_63 : mm_code 74 63 = some (.iconst 0, 1, 0, 0, []) := rfl
theorem rw_74_64 : mm_code 74 64 = some (.ireturn, 1, 1, 0, []) := rfl
theorem rw_74_65 : mm_code 74 65 = some (.aload_n 0, 1, 0, 0, []) := rfl
theorem rw_74_66 : mm_code 74 66 = some (.getfield 24, 3, 7, 6, [3, 5]) := rfl
theorem rw_74_69 : mm_code 74 69 = some (.aload_n 0, 1, 0, 0, []) := rfl
theorem rw_74_70 : mm_code 74 70 = some (.getfield 15, 3, 7, 3, [3, 2]) := rfl
theorem rw_74_73 : mm_code 74 73 = some (.iload_n 2, 1, 0, 0, []) := rfl
theorem rw_74_74 : mm_code 74 74 = some (.iaload, 1, 0, 0, []) := rfl
theorem rw_74_75 : mm_code 74 75 = some (.iload_n 1, 1, 0, 0, []) := rfl
theorem rw_74_76 : mm_code 74 76 = some (.iand, 1, 0, 0, []) := rfl
theorem rw_74_77 : mm_code 74 77 = some (.aload_n 0, 1, 0, 0, []) := rfl
theorem rw_74_78 : mm_code 74 78 = some (.getfield 9, 3, 7, 2, [3, 1]) := rfl
theorem rw_74_81 : mm_code 74 81 = some (.iload_n 2, 1, 0, 0, []) := rfl
theorem rw_74_82 : mm_code 74 82 = some (.iaload, 1, 0, 0, []) := rfl
theorem rw_74_83 : mm_code 74 83 = some (.iastore, 1, 0, 0, []) := rfl
theorem rw_74_84 : mm_code 74 84 = some (.iinc 2 1, 3, 1, 0, []) := rfl
theorem rw_74_87 : mm_code 74 87 = some (.goto (-54), 3, 33, 0, []) := rfl
theorem rw_74_90 : mm_code 74 90 = some (.iconst 1, 1, 1, 0, []) := rfl
theorem rw_74_91 : mm_code 74 91 = some (.ireturn, 1, 1, 0, []) := rfl
theorem rw_75_0 : mm_code 75 0 = some (.aload_n 0, 1, 0, 0, []) := rfl
theorem rw_75_1 : mm_code 75 1 = some (.getfield 83, 3, 7, 9, [0, 20]) := rfl
theorem rw_75_4 : mm_code 75 4 = some (.iconst 3, 1, 3, 0, []) := rfl
theorem rw_75_5 : mm_code 75 5 = some (.aload_n 0, 1, 0, 0, []) := rfl
theorem rw_75_6 : mm_code 75 6 = some (.getfield 72, 3, 7, 8, [0, 17]) := rfl
theorem rw_75_9 : mm_code 75 9 = some (.iconst 1, 1, 1, 0, []) := rfl
theorem rw_75_10 : mm_code 75 10 = some (.isub, 1, 0, 0, []) := rfl
theorem rw_75_11 : mm_code 75 11 = some (.iload_n 1, 1, 0, 0, []) := rfl
theorem rw_75_12 : mm_code 75 12 = some (.isub, 1, 0, 0, []) := rfl
theorem rw_75_13 : mm_code 75 13 = some (.imul, 1, 0, 0, []) := rfl
theorem rw_75_14 : mm_code 75 14 = some (.ishr, 1, 0, 0, []) := rfl
theorem rw_75_15 : mm_code 75 15 = some (.bipush 7, 2, 7, 0, []) := rfl
theorem rw_75_17 : mm_code 75 17 = some (.iand, 1, 0, 0, []) := rfl
theorem rw_75_18 : mm_code 75 18 = some (.ireturn, 1, 0, 0, []) := rfl
theorem rw_77_0 : mm_code 77 0 = some (.bipush 24, 2, 24, 0, []) := rfl
theorem rw_77_2 : mm_code 77 2 = some (.istore_n 2, 1, 0, 0, []) := rfl
theorem rw_77_3 : mm_code 77 3 = some (.iload_n 2, 1, 0, 0, []) := rfl
theorem rw_77_4 : mm_code 77 4 = some (.ifCond .lt 44, 3, 48, 0, []) := rfl
theorem rw_77_7 : mm_code 77 7 = some (.aload_n 0, 1, 0, 0, []) := rfl
theorem rw_77_8 : mm_code 77 8 = some (.getfield 29, 3, 8, 1, [0, 6]) := rfl
theorem rw_77_11 : mm_code 77 11 = some (.aload_n 0, 1, 0, 0, []) := rfl
theorem rw_77_12 : mm_code 77 12 = some (.getfield 9, 3, 8, 0, [3, 1]) := rfl
theorem rw_77_15 : mm_code 77 15 = some (.arraylength, 1, 0, 0, []) := rfl
theorem rw_77_16 : mm_code 77 16 = some (.if_icmp .ge 32, 3, 48, 0, []) := rfl
theorem rw_77_19 : mm_code 77 19 = some (.aload_n 0, 1, 0, 0, []) := rfl
theorem rw_77_20 : mm_code 77 20 = some (.getfield 9, 3, 8, 0, [3, 1]) := rfl
theorem rw_77_23 : mm_code 77 23 = some (.aload_n 0, 1, 0, 0, []) := rfl
theorem rw_77_24 : mm_code 77 24 = some (.getfield 29, 3, 8, 1, [0, 6]) := rfl
theorem rw_77_27 : mm_code 77 27 = some (.iload_n 1, 1, 0, 0, []) := rfl
theorem rw_77_28 : mm_code 77 28 = some (.iload_n 2, 1, 0, 0, []) := rfl
theorem rw_77_29 : mm_code 77 29 = some (.ishr, 1, 0, 0, []) := rfl
theorem rw_77_30 : mm_code 77 30 = some (.i2b, 1, 0, 0, []) := rfl
theorem rw_77_31 : mm_code 77 31 = some (.bastore, 1, 0, 0, []) := rfl
theorem rw_77_32 : mm_code 77 32 = some (.aload_n 0, 1, 0, 0, []) := rfl
theorem rw_77_33 : mm_code 77 33 = some (.dup, 1, 0, 0, []) := rfl
theorem rw_77_34 : mm_code 77 34 = some (.getfield 29, 3, 8, 1, [0, 6]) := rfl
theorem rw_77_37 : mm_code 77 37 = some (.iconst 1, 1, 1, 0, []) := rfl
theorem rw_77_38 : mm_code 77 38 = some (.iadd, 1, 0, 0, []) := rfl
theorem rw_77_39 : mm_code 77 39 = some (.putfield 29, 3, 8, 1, [0, 6]) := rfl
theorem rw_77_42 : mm_code 77 42 = some (.iinc 2 (-8), 3, 8, 1, []) := rfl
theorem rw_77_45 : mm_code 77 45 = some (.goto (-42), 3, 3, 0, []) := rfl
theorem rw_77_48 : mm_code 77 48 = some (.return_, 1, 0, 0, []) := rfl
theorem rw_78_0 : mm_code 78 0 = some (.iload_n 1, 1, 0, 0, []) := rfl
theorem rw_78_1 : mm_code 78 1 = some (.ifCond .lt 11, 3, 12, 0, []) := rfl
theorem rw_78_4 : mm_code 78 4 = some (.iload_n 1, 1, 0, 0, []) := rfl
theorem rw_78_5 : mm_code 78 5 = some (.aload_n 0, 1, 0, 0, []) := rfl
theorem rw_78_6 : mm_code 78 6 = some (.getfield 29, 3, 8, 1, [0, 6]) := rfl
theorem rw_78_9 : mm_code 78 9 = some (.if_icmp .le 5, 3, 14, 0, []) := rfl
theorem rw_78_12 : mm_code 78 12 = some (.iconst 0, 1, 0, 0, []) := rfl
theorem rw_78_13 : mm_code 78 13 = some (.ireturn, 1, 1, 0, []) := rfl
theorem rw_78_14 : mm_code 78 14 = some (.aload_n 0, 1, 0, 0, []) := rfl
theorem rw_78_15 : mm_code 78 15 = some (.iconst 0, 1, 0, 0, []) := rfl
theorem rw_78_16 : mm_code 78 16 = some (.putfield 29, 3, 8, 1, [0, 6]) := rfl
theorem rw_78_19 : mm_code 78 19 = some (.aload_n 0, 1, 0, 0, []) := rfl
theorem rw_78_20 : mm_code 78 20 = some (.iconst 0, 1, 0, 0, []) := rfl
theorem rw_78_21 : mm_code 78 21 = some (.putfield 32, 3, 8, 10, [0, 7]) := rfl
theorem rw_78_24 : mm_code 78 24 = some (.aload_n 0, 1, 0, 0, []) := rfl
theorem rw_78_25 : mm_code 78 25 = some (.iconst (-1), 1, 1, 1, []) := rfl
theorem rw_78_26 : mm_code 78 26 = some (.putfield 25, 3, 8, 11, [0, 5]) := rfl
theorem rw_78_29 : mm_code 78 29 = some (.aload_n 0, 1, 0, 0, []) := rfl
theorem rw_78_30 : mm_code 78 30 = some (.iload_n 1, 1, 0, 0, []) := rfl
theorem rw_78_31 : mm_code 78 31 = some (.invokevirtual 35, 3, 79, 2, [8, 0]) := rfl
theorem rw_78_34 : mm_code 78 34 = some (.aload_n 0, 1, 0, 0, []) := rfl
theorem rw_78_35 : mm_code 78 35 = some (.iconst (-1), 1, 1, 1, []) := rfl
theorem rw_78_36 : mm_code 78 36 = some (.putfield 39, 3, 8, 6, [0, 9]) := rfl
theorem rw_78_39 : mm_code 78 39 = some (.aload_n 0, 1, 0, 0, []) := rfl
theorem rw_78_40 : mm_code 78 40 = some (.invokevirtual 42, 3, 83, 1, [10, 0]) := rfl
theorem rw_78_43 : mm_code 78 43 = some (.iconst 1, 1, 1, 0, []) := rfl
theorem rw_78_44 : mm_code 78 44 = some (.ireturn, 1, 1, 0, []) := rfl
theorem rw_79_0 : mm_code 79 0 = some (.aload_n 0, 1, 0, 0, []) := rfl
theorem rw_79_1 : mm_code 79 1 = some (.iconst 0, 1, 0, 0, []) := rfl
theorem rw_79_2 : mm_code 79 2 = some (.putfield 45, 3, 8, 5, [0, 11]) := rfl
theorem rw_79_5 : mm_code 79 5 = some (.iconst 0, 1, 0, 0, []) := rfl
theorem rw_79_6 : mm_code 79 6 = some (.istore_n 2, 1, 0, 0, []) := rfl
theorem rw_79_7 : mm_code 79 7 = some (.iload_n 2, 1, 0, 0, []) := rfl
theorem rw_79_8 : mm_code 79 8 = some (.iload_n 1, 1, 0, 0, []) := rfl
theorem rw_79_9 : mm_code 79 9 = some (.if_icmp .ge 87, 3, 96, 0, []) := rfl
theorem rw_79_12 : mm_code 79 12 = some (.aload_n 0, 1, 0, 0, []) := rfl
theorem rw_79_13 : mm_code 79 13 = some (.iload_n 2, 1, 0, 0, []) := rfl
theorem rw_79_14 : mm_code 79 14 = some (.invokevirtual 48, 3, 91, 2, [12, 0]) := rfl
theorem rw_79_17 : mm_code 79 17 = some (.istore_n 3, 1, 0, 0, []) := rfl
theorem rw_79_18 : mm_code 79 18 = some (.iload_n 2, 1, 0, 0, []) := rfl
theorem rw_79_19 : mm_code 79 19 = some (.iconst 1, 1, 1, 0, []) := rfl
theorem rw_79_20 : mm_code 79 20 = some (.iadd, 1, 0, 0, []) := rfl
theorem rw_79_21 : mm_code 79 21 = some (.istore 4, 2, 0, 0, []) := rfl
theorem rw_79_23 : mm_code 79 23 = some (.iload_n 3, 1, 0, 0, []) := rfl
theorem rw_79_24 : mm_code 79 24 = some (.invokestatic 52, 3, 93, 1, [13, 0]) := rfl
theorem rw_79_27 : mm_code 79 27 = some (.ifCond .eq 14, 3, 41, 0, []) := rfl
theorem rw_79_30 : mm_code 79 30 = some (.aload_n 0, 1, 0, 0, []) := rfl
theorem rw_79_31 : mm_code 79 31 = some (.iload_n 2, 1, 0, 0, []) := rfl
theorem rw_79_32 : mm_code 79 32 = some (.iload_n 1, 1, 0, 0, []) := rfl
theorem rw_79_33 : mm_code 79 33 = some (.invokevirtual 56, 3, 80, 3, [14, 0]) := rfl
theorem rw_79_36 : mm_code 79 36 = some (.istore 4, 2, 0, 0, []) := rfl
theorem rw_79_38 : mm_code 79 38 = some (.goto 46, 3, 84, 0, []) := rfl
theorem rw_79_41 : mm_code 79 41 = some (.iload_n 3, 1, 0, 0, []) := rfl
theorem rw_79_42 : mm_code 79 42 = some (.invokestatic 60, 3, 94, 1, [15, 0]) := rfl
theorem rw_79_45 : mm_code 79 45 = some (.ifCond .eq 14, 3, 59, 0, []) := rfl
theorem rw_79_48 : mm_code 79 48 = some (.aload_n 0, 1, 0, 0, []) := rfl
theorem rw_79_49 : mm_code 79 49 = some (.iload_n 2, 1, 0, 0, []) := rfl
theorem rw_79_50 : mm_code 79 50 = some (.iload_n 1, 1, 0, 0, []) := rfl
theorem rw_79_51 : mm_code 79 51 = some (.invokevirtual 63, 3, 81, 3, [16, 0]) := rfl
theorem rw_79_54 : mm_code 79 54 = some (.istore 4, 2, 0, 0, []) := rfl
theorem rw_79_56 : mm_code 79 56 = some (.goto 28, 3, 84, 0, []) := rfl
theorem rw_79_59 : mm_code 79 59 = some (.iload_n 3, 1, 0, 0, []) := rfl
theorem rw_79_60 : mm_code 79 60 = some (.invokestatic 66, 3, 92, 1, [17, 0]) := rfl
theorem rw_79_63 : mm_code 79 63 = some (.ifCond .ne 21, 3, 84, 0, []) := rfl
theorem rw_79_66 : mm_code 79 66 = some (.aload_n 0, 1, 0, 0, []) := rfl
theorem rw_79_67 : mm_code 79 67 = some (.iload_n 3, 1, 0, 0, []) := rfl
theorem rw_79_68 : mm_code 79 68 = some (.invokestatic 69, 3, 95, 1, [18, 0]) := rfl
theorem rw_79_71 : mm_code 79 71 = some (.ifCond .eq 7, 3, 78, 0, []) := rfl
theorem rw_79_74 : mm_code 79 74 = some (.iload_n 3, 1, 0, 0, []) := rfl
theorem rw_79_75 : mm_code 79 75 = some (.goto 4, 3, 79, 0, []) := rfl
theorem rw_79_78 : mm_code 79 78 = some (.iconst 1, 1, 1, 0, []) := rfl
theorem rw_79_79 : mm_code 79 79 = some (.iconst 0, 1, 0, 0, []) := rfl
theorem rw_79_80 : mm_code 79 80 = some (.iload_n 2, 1, 0, 0, []) := rfl
theorem rw_79_81 : mm_code 79 81 = some (.invokevirtual 72, 3, 82, 4, [19, 0]) := rfl
theorem rw_79_84 : mm_code 79 84 = some (.iload_n 2, 1, 0, 0, []) := rfl
theorem rw_79_85 : mm_code 79 85 = some (.iconst 1, 1, 1, 0, []) := rfl
theorem rw_79_86 : mm_code 79 86 = some (.iadd, 1, 0, 0, []) := rfl
theorem rw_79_87 : mm_code 79 87 = some (.iload 4, 2, 0, 0, []) := rfl
theorem rw_79_89 : mm_code 79 89 = some (.invokestatic 76, 3, 997, 2, [20, 0]) := rfl
theorem rw_79_92 : mm_code 79 92 = some (.istore_n 2, 1, 0, 0, []) := rfl
theorem rw_79_93 : mm_code 79 93 = some (.goto (-86), 3, 7, 0, []) := rfl
theorem rw_79_96 : mm_code 79 96 = some (.aload_n 0, 1, 0, 0, []) := rfl
theorem rw_79_97 : mm_code 79 97 = some (.iconst 0, 1, 0, 0, []) := rfl
theorem rw_79_98 : mm_code 79 98 = some (.iconst 0, 1, 0, 0, []) := rfl
theorem rw_79_99 : mm_code 79 99 = some (.iload_n 1, 1, 0, 0, []) := rfl
theorem rw_79_100 : mm_code 79 100 = some (.invokevirtual 72, 3, 82, 4, [19, 0]) := rfl
theorem rw_79_103 : mm_code 79 103 = some (.return_, 1, 0, 0, []) := rfl
theorem rw_80_0 : mm_code 80 0 = some (.iconst 0, 1, 0, 0, []) := rfl
theorem rw_80_1 : mm_code 80 1 = some (.istore_n 3, 1, 0, 0, []) := rfl
theorem rw_80_2 : mm_code 80 2 = some (.iload_n 1, 1, 0, 0, []) := rfl
theorem rw_80_3 : mm_code 80 3 = some (.istore 4, 2, 0, 0, []) := rfl
theorem rw_80_5 : mm_code 80 5 = some (.iload 4, 2, 0, 0, []) := rfl
theorem rw_80_7 : mm_code 80 7 = some (.iload_n 2, 1, 0, 0, []) := rfl
theorem rw_80_8 : mm_code 80 8 = some (.if_icmp .ge 52, 3, 60, 0, []) := rfl
theorem rw_80_11 : mm_code 80 11 = some (.aload_n 0, 1, 0, 0, []) := rfl
theorem rw_80_12 : mm_code 80 12 = some (.iload 4, 2, 0, 0, []) := rfl
theorem rw_80_14 : mm_code 80 14 = some (.invokevirtual 48, 3, 91, 2, [12, 0]) := rfl
theorem rw_80_17 : mm_code 80 17 = some (.invokestatic 52, 3, 93, 1, [13, 0]) := rfl
theorem rw_80_20 : mm_code 80 20 = some (.ifCond .eq 40, 3, 60, 0, []) := rfl
theorem rw_80_23 : mm_code 80 23 = some (.iload 4, 2, 0, 0, []) := rfl
theorem rw_80_25 : mm_code 80 25 = some (.iload_n 1, 1, 0, 0, []) := rfl
theorem rw_80_26 : mm_code 80 26 = some (.isub, 1, 0, 0, []) := rfl
theorem rw_80_27 : mm_code 80 27 = some (.bipush 6, 2, 6, 0, []) := rfl
theorem rw_80_29 : mm_code 80 29 = some (.if_icmp .ge 25, 3, 54, 0, []) := rfl
theorem rw_80_32 : mm_code 80 32 = some (.iload_n 3, 1, 0, 0, []) := rfl
theorem rw_80_33 : mm_code 80 33 = some (.aload_n 0, 1, 0, 0, []) := rfl
theorem rw_80_34 : mm_code 80 34 = some (.iload 4, 2, 0, 0, []) := rfl
theorem rw_80_36 : mm_code 80 36 = some (.invokevirtual 48, 3, 91, 2, [12, 0]) := rfl
theorem rw_80_39 : mm_code 80 39 = some (.bipush 31, 2, 31, 0, []) := rfl
theorem rw_80_41 : mm_code 80 41 = some (.iand, 1, 0, 0, []) := rfl
theorem rw_80_42 : mm_code 80 42 = some (.bipush 25, 2, 25, 0, []) := rfl
theorem rw_80_44 : mm_code 80 44 = some (.iconst 5, 1, 5, 0, []) := rfl
theorem rw_80_45 : mm_code 80 45 = some (.iload 4, 2, 0, 0, []) := rfl
theorem rw_80_47 : mm_code 80 47 = some (.iload_n 1, 1, 0, 0, []) := rfl
theorem rw_80_48 : mm_code 80 48 = some (.isub, 1, 0, 0, []) := rfl
theorem rw_80_49 : mm_code 80 49 = some (.imul, 1, 0, 0, []) := rfl
theorem rw_80_50 : mm_code 80 50 = some (.isub, 1, 0, 0, []) := rfl
theorem rw_80_51 : mm_code 80 51 = some (.ishl, 1, 0, 0, []) := rfl
theorem rw_80_52 : mm_code 80 52 = some (.ior, 1, 0, 0, []) := rfl
theorem rw_80_53 : mm_code 80 53 = some (.istore_n 3, 1, 0, 0, []) := rfl
theorem rw_80_54 : mm_code 80 54 = some (.iinc 4 1, 3, 1, 0, []) := rfl
theorem rw_80_57 : mm_code 80 57 = some (.goto (-52), 3, 5, 0, []) := rfl
theorem rw_80_60 : mm_code 80 60 = some (.iload 4, 2, 0, 0, []) := rfl
theorem rw_80_62 : mm_code 80 62 = some (.iload_n 1, 1, 0, 0, []) := rfl
theorem rw_80_63 : mm_code 80 63 = some (.isub, 1, 0, 0, []) := rfl
theorem rw_80_64 : mm_code 80 64 = some (.bipush 6, 2, 6, 0, []) := rfl
theorem rw_80_66 : mm_code 80 66 = some (.if_icmp .le 13, 3, 79, 0, []) := rfl
theorem rw_80_69 : mm_code 80 69 = some (.aload_n 0, 1, 0, 0, []) := rfl
theorem rw_80_70 : mm_code 80 70 = some (.iconst 1, 1, 1, 0, []) := rfl
theorem rw_80_71 : mm_code 80 71 = some (.iconst 0, 1, 0, 0, []) := rfl
theorem rw_80_72 : mm_code 80 72 = some (.iload_n 1, 1, 0, 0, []) := rfl
theorem rw_80_73 : mm_code 80 73 = some (.invokevirtual 72, 3, 82, 4, [19, 0]) := rfl
theorem rw_80_76 : mm_code 80 76 = some (.goto 21, 3, 97, 0, []) := rfl
theorem rw_80_79 : mm_code 80 79 = some (.aload_n 0, 1, 0, 0, []) := rfl
theorem rw_80_80 : mm_code 80 80 = some (.iload_n 3, 1, 0, 0, []) := rfl
theorem rw_80_81 : mm_code 80 81 = some (.invokestatic 81, 3, 96, 1, [21, 0]) := rfl
theorem rw_80_84 : mm_code 80 84 = some (.ifCond .eq 7, 3, 91, 0, []) := rfl
theorem rw_80_87 : mm_code 80 87 = some (.iconst 4, 1, 4, 0, []) := rfl
theorem rw_80_88 : mm_code 80 88 = some (.goto 4, 3, 92, 0, []) := rfl
theorem rw_80_91 : mm_code 80 91 = some (.iconst 3, 1, 3, 0, []) := rfl
theorem rw_80_92 : mm_code 80 92 = some (.iload_n 3, 1, 0, 0, []) := rfl
theorem rw_80_93 : mm_code 80 93 = some (.iload_n 1, 1, 0, 0, []) := rfl
theorem rw_80_94 : mm_code 80 94 = some (.invokevirtual 72, 3, 82, 4, [19, 0]) := rfl
theorem rw_80_97 : mm_code 80 97 = some (.iload 4, 2, 0, 0, []) := rfl
theorem rw_80_99 : mm_code 80 99 = some (.ireturn, 1, 0, 0, []) := rfl
theorem rw_81_0 : mm_code 81 0 = some (.iconst 0, 1, 0, 0, []) := rfl
theorem rw_81_1 : mm_code 81 1 = some (.istore_n 3, 1, 0, 0, []) := rfl
theorem rw_81_2 : mm_code 81 2 = some (.iload_n 1, 1, 0, 0, []) := rfl
theorem rw_81_3 : mm_code 81 3 = some (.istore 4, 2, 0, 0, []) := rfl
theorem rw_81_5 : mm_code 81 5 = some (.iload 4, 2, 0, 0, []) := rfl
theorem rw_81_7 : mm_code 81 7 = some (.iload_n 2, 1, 0, 0, []) := rfl
theorem rw_81_8 : mm_code 81 8 = some (.if_icmp .ge 41, 3, 49, 0, []) := rfl
theorem rw_81_11 : mm_code 81 11 = some (.aload_n 0, 1, 0, 0, []) := rfl
theorem rw_81_12 : mm_code 81 12 = some (.iload 4, 2, 0, 0, []) := rfl
theorem rw_81_14 : mm_code 81 14 = some (.invokevirtual 48, 3, 91, 2, [12, 0]) := rfl
theorem rw_81_17 : mm_code 81 17 = some (.invokestatic 60, 3, 94, 1, [15, 0]) := rfl
theorem rw_81_20 : mm_code 81 20 = some (.ifCond .eq 29, 3, 49, 0, []) := rfl
theorem rw_81_23 : mm_code 81 23 = some (.iload_n 3, 1, 0, 0, []) := rfl
theorem rw_81_24 : mm_code 81 24 = some (.bipush 10, 2, 10, 0, []) := rfl
theorem rw_81_26 : mm_code 81 26 = some (.imul, 1, 0, 0, []) := rfl
theorem rw_81_27 : mm_code 81 27 = some (.aload_n 0, 1, 0, 0, []) := rfl
theorem rw_81_28 : mm_code 81 28 = some (.iload 4, 2, 0, 0, []) := rfl
theorem rw_81_30 : mm_code 81 30 = some (.invokevirtual 48, 3, 91, 2, [12, 0]) := rfl
theorem rw_81_33 : mm_code 81 33 = some (.iadd, 1, 0, 0, []) := rfl
theorem rw_81_34 : mm_code 81 34 = some (.bipush 48, 2, 48, 0, []) := rfl
theorem rw_81_36 : mm_code 81 36 = some (.isub, 1, 0, 0, []) := rfl
theorem rw_81_37 : mm_code 81 37 = some (.bipush 100, 2, 100, 0, []) := rfl
theorem rw_81_39 : mm_code 81 39 = some (.invokestatic 84, 3, 996, 2, [22, 0]) := rfl
theorem rw_81_42 : mm_code 81 42 = some (.istore_n 3, 1, 0, 0, []) := rfl
theorem rw_81_43 : mm_code 81 43 = some (.iinc 4 1, 3, 1, 0, []) := rfl
theorem rw_81_46 : mm_code 81 46 = some (.goto (-41), 3, 5, 0, []) := rfl
theorem rw_81_49 : mm_code 81 49 = some (.aload_n 0, 1, 0, 0, []) := rfl
theorem rw_81_50 : mm_code 81 50 = some (.iconst 2, 1, 2, 0, []) := rfl
theorem rw_81_51 : mm_code 81 51 = some (.iload_n 3, 1, 0, 0, []) := rfl
theorem rw_81_52 : mm_code 81 52 = some (.iload_n 1, 1, 0, 0, []) := rfl
theorem rw_81_53 : mm_code 81 53 = some (.invokevirtual 72, 3, 82, 4, [19, 0]) := rfl
theorem rw_81_56 : mm_code 81 56 = some (.iload 4, 2, 0, 0, []) := rfl
theorem rw_81_58 : mm_code 81 58 = some (.ireturn, 1, 0, 0, []) := rfl
theorem rw_82_0 : mm_code 82 0 = some (.aload_n 0, 1, 0, 0, []) := rfl
theorem rw_82_1 : mm_code 82 1 = some (.getfield 45, 3, 8, 5, [0, 11]) := rfl
theorem rw_82_4 : mm_code 82 4 = some (.aload_n 0, 1, 0, 0, []) := rfl
theorem rw_82_5 : mm_code 82 5 = some (.getfield 15, 3, 8, 2, [3, 2]) := rfl
theorem rw_82_8 : mm_code 82 8 = some (.arraylength, 1, 0, 0, []) := rfl
theorem rw_82_9 : mm_code 82 9 = some (.if_icmp .ge 43, 3, 52, 0, []) := rfl
theorem rw_82_12 : mm_code 82 12 = some (.aload_n 0, 1, 0, 0, []) := rfl
theorem rw_82_13 : mm_code 82 13 = some (.getfield 15, 3, 8, 2, [3, 2]) := rfl
theorem rw_82_16 : mm_code 82 16 = some (.aload_n 0, 1, 0, 0, []) := rfl
theorem rw_82_17 : mm_code 82 17 = some (.getfield 45, 3, 8, 5, [0, 11]) := rfl
theorem rw_82_20 : mm_code 82 20 = some (.iload_n 1, 1, 0, 0, []) := rfl
theorem rw_82_21 : mm_code 82 21 = some (.iastore, 1, 0, 0, []) := rfl
theorem rw_82_22 : mm_code 82 22 = some (.aload_n 0, 1, 0, 0, []) := rfl
theorem rw_82_23 : mm_code 82 23 = some (.getfield 19, 3, 8, 3, [3, 3]) := rfl
theorem rw_82_26 : mm_code 82 26 = some (.aload_n 0, 1, 0, 0, []) := rfl
theorem rw_82_27 : mm_code 82 27 = some (.getfield 45, 3, 8, 5, [0, 11]) := rfl
theorem rw_82_30 : mm_code 82 30 = some (.iload_n 2, 1, 0, 0, []) := rfl
theorem rw_82_31 : mm_code 82 31 = some (.iastore, 1, 0, 0, []) := rfl
theorem rw_82_32 : mm_code 82 32 = some (.aload_n 0, 1, 0, 0, []) := rfl
theorem rw_82_33 : mm_code 82 33 = some (.getfield 22, 3, 8, 4, [3, 4]) := rfl
theorem rw_82_36 : mm_code 82 36 = some (.aload_n 0, 1, 0, 0, []) := rfl
theorem rw_82_37 : mm_code 82 37 = some (.getfield 45, 3, 8, 5, [0, 11]) := rfl
theorem rw_82_40 : mm_code 82 40 = some (.iload_n 3, 1, 0, 0, []) := rfl
theorem rw_82_41 : mm_code 82 41 = some (.iastore, 1, 0, 0, []) := rfl
theorem rw_82_42 : mm_code 82 42 = some (.aload_n 0, 1, 0, 0, []) := rfl
theorem rw_82_43 : mm_code 82 43 = some (.dup, 1, 0, 0, []) := rfl
theorem rw_82_44 : mm_code 82 44 = some (.getfield 45, 3, 8, 5, [0, 11]) := rfl
theorem rw_82_47 : mm_code 82 47 = some (.iconst 1, 1, 1, 0, []) := rfl
theorem rw_82_48 : mm_code 82 48 = some (.iadd, 1, 0, 0, []) := rfl
theorem rw_82_49 : mm_code 82 49 = some (.putfield 45, 3, 8, 5, [0, 11]) := rfl
theorem rw_82_52 : mm_code 82 52 = some (.return_, 1, 0, 0, []) := rfl
theorem rw_83_0 : mm_code 83 0 = some (.aload_n 0, 1, 0, 0, []) := rfl
theorem rw_83_1 : mm_code 83 1 = some (.getfield 39, 3, 8, 6, [0, 9]) := rfl
theorem rw_83_4 : mm_code 83 4 = some (.iconst 1, 1, 1, 0, []) := rfl
theorem rw_83_5 : mm_code 83 5 = some (.iadd, 1, 0, 0, []) := rfl
theorem rw_83_6 : mm_code 83 6 = some (.aload_n 0, 1, 0, 0, []) := rfl
theorem rw_83_7 : mm_code 83 7 = some (.getfield 45, 3, 8, 5, [0, 11]) := rfl
theorem rw_83_10 : mm_code 83 10 = some (.if_icmp .ge 13, 3, 23, 0, []) := rfl
theorem rw_83_13 : mm_code 83 13 = some (.aload_n 0, 1, 0, 0, []) := rfl
theorem rw_83_14 : mm_code 83 14 = some (.dup, 1, 0, 0, []) := rfl
theorem rw_83_15 : mm_code 83 15 = some (.getfield 39, 3, 8, 6, [0, 9]) := rfl
theorem rw_83_18 : mm_code 83 18 = some (.iconst 1, 1, 1, 0, []) := rfl
theorem rw_83_19 : mm_code 83 19 = some (.iadd, 1, 0, 0, []) := rfl
theorem rw_83_20 : mm_code 83 20 = some (.putfield 39, 3, 8, 6, [0, 9]) := rfl
theorem rw_83_23 : mm_code 83 23 = some (.aload_n 0, 1, 0, 0, []) := rfl
theorem rw_83_24 : mm_code 83 24 = some (.aload_n 0, 1, 0, 0, []) := rfl
theorem rw_83_25 : mm_code 83 25 = some (.getfield 15, 3, 8, 2, [3, 2]) := rfl
theorem rw_83_28 : mm_code 83 28 = some (.aload_n 0, 1, 0, 0, []) := rfl
theorem rw_83_29 : mm_code 83 29 = some (.getfield 39, 3, 8, 6, [0, 9]) := rfl
theorem rw_83_32 : mm_code 83 32 = some (.iaload, 1, 0, 0, []) := rfl
theorem rw_83_33 : mm_code 83 33 = some (.putfield 87, 3, 8, 7, [0, 23]) := rfl
theorem rw_83_36 : mm_code 83 36 = some (.aload_n 0, 1, 0, 0, []) := rfl
theorem rw_83_37 : mm_code 83 37 = some (.aload_n 0, 1, 0, 0, []) := rfl
theorem rw_83_38 : mm_code 83 38 = some (.getfield 19, 3, 8, 3, [3, 3]) := rfl
theorem rw_83_41 : mm_code 83 41 = some (.aload_n 0, 1, 0, 0, []) := rfl
theorem rw_83_42 : mm_code 83 42 = some (.getfield 39, 3, 8, 6, [0, 9]) := rfl
theorem rw_83_45 : mm_code 83 45 = some (.iaload, 1, 0, 0, []) := rfl
theorem rw_83_46 : mm_code 83 46 = some (.putfield 90, 3, 8, 8, [0, 24]) := rfl
theorem rw_83_49 : mm_code 83 49 = some (.aload_n 0, 1, 0, 0, []) := rfl
theorem rw_83_50 : mm_code 83 50 = some (.aload_n 0, 1, 0, 0, []) := rfl
theorem rw_83_51 : mm_code 83 51 = some (.getfield 22, 3, 8, 4, [3, 4]) := rfl
theorem rw_83_54 : mm_code 83 54 = some (.aload_n 0, 1, 0, 0, []) := rfl
theorem rw_83_55 : mm_code 83 55 = some (.getfield 39, 3, 8, 6, [0, 9]) := rfl
theorem rw_83_58 : mm_code 83 58 = some (.iaload, 1, 0, 0, []) := rfl
theorem rw_83_59 : mm_code 83 59 = some (.putfield 93, 3, 8, 9, [0, 25]) := rfl
theorem rw_83_62 : mm_code 83 62 = some (.return_, 1, 0, 0, []) := rfl
theorem rw_84_0 : mm_code 84 0 = some (.aload_n 0, 1, 0, 0, []) := rfl
theorem rw_84_1 : mm_code 84 1 = some (.iload_n 1, 1, 0, 0, []) := rfl
theorem rw_84_2 : mm_code 84 2 = some (.putfield 32, 3, 8, 10, [0, 7]) := rfl
theorem rw_84_5 : mm_code 84 5 = some (.aload_n 0, 1, 0, 0, []) := rfl
theorem rw_84_6 : mm_code 84 6 = some (.aload_n 0, 1, 0, 0, []) := rfl
theorem rw_84_7 : mm_code 84 7 = some (.getfield 93, 3, 8, 9, [0, 25]) := rfl
theorem rw_84_10 : mm_code 84 10 = some (.putfield 25, 3, 8, 11, [0, 5]) := rfl
theorem rw_84_13 : mm_code 84 13 = some (.iconst 0, 1, 0, 0, []) := rfl
theorem rw_84_14 : mm_code 84 14 = some (.ireturn, 1, 1, 0, []) := rfl
theorem rw_85_0 : mm_code 85 0 = some (.aload_n 0, 1, 0, 0, []) := rfl
theorem rw_85_1 : mm_code 85 1 = some (.iload_n 1, 1, 0, 0, []) := rfl
theorem rw_85_2 : mm_code 85 2 = some (.putfield 32, 3, 8, 10, [0, 7]) := rfl
theorem rw_85_5 : mm_code 85 5 = some (.aload_n 0, 1, 0, 0, []) := rfl
theorem rw_85_6 : mm_code 85 6 = some (.iload_n 2, 1, 0, 0, []) := rfl
theorem rw_85_7 : mm_code 85 7 = some (.putfield 25, 3, 8, 11, [0, 5]) := rfl
theorem rw_85_10 : mm_code 85 10 = some (.iconst 0, 1, 0, 0, []) := rfl
theorem rw_85_11 : mm_code 85 11 = some (.ireturn, 1, 1, 0, []) := rfl
theorem rw_86_0 : mm_code 86 0 = some (.aload_n 0, 1, 0, 0, []) := rfl
theorem rw_86_1 : mm_code 86 1 = some (.getfield 87, 3, 8, 7, [0, 23]) := rfl
theorem rw_86_4 : mm_code 86 4 = some (.iconst 4, 1, 4, 0, []) := rfl
theorem rw_86_5 : mm_code 86 5 = some (.if_icmp .ne 15, 3, 20, 0, []) := rfl
theorem rw_86_8 : mm_code 86 8 = some (.aload_n 0, 1, 0, 0, []) := rfl
theorem rw_86_9 : mm_code 86 9 = some (.getfield 90, 3, 8, 8, [0, 24]) := rfl
theorem rw_86_12 : mm_code 86 12 = some (.iload_n 1, 1, 0, 0, []) := rfl
theorem rw_86_13 : mm_code 86 13 = some (.if_icmp .ne 7, 3, 20, 0, []) := rfl
theorem rw_86_16 : mm_code 86 16 = some (.iconst 1, 1, 1, 0, []) := rfl
theorem rw_86_17 : mm_code 86 17 = some (.goto 4, 3, 21, 0, []) := rfl
theorem rw_86_20 : mm_code 86 20 = some (.iconst 0, 1, 0, 0, []) := rfl
theorem rw_86_21 : mm_code 86 21 = some (.ireturn, 1, 1, 0, []) := rfl
theorem rw_87_0 : mm_code 87 0 = some (.aload_n 0, 1, 0, 0, []) := rfl
theorem rw_87_1 : mm_code 87 1 = some (.getfield 87, 3, 8, 7, [0, 23]) := rfl
theorem rw_87_4 : mm_code 87 4 = some (.ifCond .eq 11, 3, 15, 0, []) := rfl
theorem rw_87_7 : mm_code 87 7 = some (.aload_n 0, 1, 0, 0, []) := rfl
theorem rw_87_8 : mm_code 87 8 = some (.iconst 1, 1, 1, 0, []) := rfl
theorem rw_87_9 : mm_code 87 9 = some (.invokevirtual 96, 3, 84, 2, [26, 0]) := rfl
theorem rw_87_12 : mm_code 87 12 = some (.ifCond .eq 7, 3, 19, 0, []) := rfl
theorem rw_87_15 : mm_code 87 15 = some (.iconst 1, 1, 1, 0, []) := rfl
theorem rw_87_16 : mm_code 87 16 = some (.goto 4, 3, 20, 0, []) := rfl
theorem rw_87_19 : mm_code 87 19 = some (.iconst 0, 1, 0, 0, []) := rfl
theorem rw_87_20 : mm_code 87 20 = some (.ireturn, 1, 1, 0, []) := rfl
theorem rw_88_0 : mm_code 88 0 = some (.aload_n 0, 1, 0, 0, []) := rfl
theorem rw_88_1 : mm_code 88 1 = some (.getfield 87, 3, 8, 7, [0, 23]) := rfl
theorem rw_88_4 : mm_code 88 4 = some (.iconst 2, 1, 2, 0, []) := rfl
theorem rw_88_5 : mm_code 88 5 = some (.if_icmp .eq 9, 3, 14, 0, []) := rfl
theorem rw_88_8 : mm_code 88 8 = some (.aload_n 0, 1, 0, 0, []) := rfl
theorem rw_88_9 : mm_code 88 9 = some (.iconst 1, 1, 1, 0, []) := rfl
theorem rw_88_10 : mm_code 88 10 = some (.invokevirtual 96, 3, 84, 2, [26, 0]) := rfl
theorem rw_88_13 : mm_code 88 13 = some (.ireturn, 1, 1, 0, []) := rfl
theorem rw_88_14 : mm_code 88 14 = some (.aload_n 0, 1, 0, 0, []) := rfl
theorem rw_88_15 : mm_code 88 15 = some (.getfield 90, 3, 8, 8, [0, 24]) := rfl
theorem rw_88_18 : mm_code 88 18 = some (.iload_n 1, 1, 0, 0, []) := rfl
theorem rw_88_19 : mm_code 88 19 = some (.if_icmp .lt 11, 3, 30, 0, []) := rfl
theorem rw_88_22 : mm_code 88 22 = some (.aload_n 0, 1, 0, 0, []) := rfl
theorem rw_88_23 : mm_code 88 23 = some (.getfield 90, 3, 8, 8, [0, 24]) := rfl
theorem rw_88_26 : mm_code 88 26 = some (.iload_n 2, 1, 0, 0, []) := rfl
theorem rw_88_27 : mm_code 88 27 = some (.if_icmp .le 11, 3, 38, 0, []) := rfl
theorem rw_88_30 : mm_code 88 30 = some (.aload_n 0, 1, 0, 0, []) := rfl
theorem rw_88_31 : mm_code 88 31 = some (.iconst 2, 1, 2, 0, []) := rfl
theorem rw_88_32 : mm_code 88 32 = some (.invokevirtual 96, 3, 84, 2, [26, 0]) := rfl
theorem rw_88_35 : mm_code 88 35 = some (.ifCond .eq 7, 3, 42, 0, []) := rfl
theorem rw_88_38 : mm_code 88 38 = some (.iconst 1, 1, 1, 0, []) := rfl
theorem rw_88_39 : mm_code 88 39 = some (.goto 4, 3, 43, 0, []) := rfl
theorem rw_88_42 : mm_code 88 42 = some (.iconst 0, 1, 0, 0, []) := rfl
theorem rw_88_43 : mm_code 88 43 = some (.ireturn, 1, 1, 0, []) := rfl
theorem rw_89_0 : mm_code 89 0 = some (.aload_n 0, 1, 0, 0, []) := rfl
theorem rw_89_1 : mm_code 89 1 = some (.iload_n 1, 1, 0, 0, []) := rfl
theorem rw_89_2 : mm_code 89 2 = some (.invokevirtual 99, 3, 86, 2, [27, 0]) := rfl
theorem rw_89_5 : mm_code 89 5 = some (.ifCond .ne 9, 3, 14, 0, []) := rfl
theorem rw_89_8 : mm_code 89 8 = some (.aload_n 0, 1, 0, 0, []) := rfl
theorem rw_89_9 : mm_code 89 9 = some (.iconst 1, 1, 1, 0, []) := rfl
theorem rw_89_10 : mm_code 89 10 = some (.invokevirtual 96, 3, 84, 2, [26, 0]) := rfl
theorem rw_89_13 : mm_code 89 13 = some (.ireturn, 1, 1, 0, []) := rfl
theorem rw_89_14 : mm_code 89 14 = some (.aload_n 0, 1, 0, 0, []) := rfl
theorem rw_89_15 : mm_code 89 15 = some (.invokevirtual 42, 3, 83, 1, [10, 0]) := rfl
theorem rw_89_18 : mm_code 89 18 = some (.iconst 1, 1, 1, 0, []) := rfl
theorem rw_89_19 : mm_code 89 19 = some (.ireturn, 1, 1, 0, []) := rfl
theorem rw_90_0 : mm_code 90 0 = some (.aload_n 0, 1, 0, 0, []) := rfl
theorem rw_90_1 : mm_code 90 1 = some (.getfield 87, 3, 8, 7, [0, 23]) := rfl
theorem rw_90_4 : mm_code 90 4 = some (.iload_n 1, 1, 0, 0, []) := rfl
theorem rw_90_5 : mm_code 90 5 = some (.if_icmp .eq 9, 3, 14, 0, []) := rfl
theorem rw_90_8 : mm_code 90 8 = some (.aload_n 0, 1, 0, 0, []) := rfl
theorem rw_90_9 : mm_code 90 9 = some (.iconst 1, 1, 1, 0, []) := rfl
theorem rw_90_10 : mm_code 90 10 = some (.invokevirtual 96, 3, 84, 2, [26, 0]) := rfl
theorem rw_90_13 : mm_code 90 13 = some (.ireturn, 1, 1, 0, []) := rfl
theorem rw_90_14 : mm_code 90 14 = some (.aload_n 0, 1, 0, 0, []) := rfl
theorem rw_90_15 : mm_code 90 15 = some (.invokevirtual 42, 3, 83, 1, [10, 0]) := rfl
theorem rw_90_18 : mm_code 90 18 = some (.iconst 1, 1, 1, 0, []) := rfl
theorem rw_90_19 : mm_code 90 19 = some (.ireturn, 1, 1, 0, []) := rfl
theorem rw_91_0 : mm_code 91 0 = some (.iload_n 1, 1, 0, 0, []) := rfl
theorem rw_91_1 : mm_code 91 1 = some (.ifCond .lt 25, 3, 26, 0, []) := rfl
theorem rw_91_4 : mm_code 91 4 = some (.iload_n 1, 1, 0, 0, []) := rfl
theorem rw_91_5 : mm_code 91 5 = some (.aload_n 0, 1, 0, 0, []) := rfl
theorem rw_91_6 : mm_code 91 6 = some (.getfield 9, 3, 8, 0, [3, 1]) := rfl
theorem rw_91_9 : mm_code 91 9 = some (.arraylength, 1, 0, 0, []) := rfl
theorem rw_91_10 : mm_code 91 10 = some (.if_icmp .ge 16, 3, 26, 0, []) := rfl
theorem rw_91_13 : mm_code 91 13 = some (.aload_n 0, 1, 0, 0, []) := rfl
theorem rw_91_14 : mm_code 91 14 = some (.getfield 9, 3, 8, 0, [3, 1]) := rfl
theorem rw_91_17 : mm_code 91 17 = some (.iload_n 1, 1, 0, 0, []) := rfl
theorem rw_91_18 : mm_code 91 18 = some (.baload, 1, 0, 0, []) := rfl
theorem rw_91_19 : mm_code 91 19 = some (.sipush 255, 3, 255, 0, []) := rfl
theorem rw_91_22 : mm_code 91 22 = some (.iand, 1, 0, 0, []) := rfl
theorem rw_91_23 : mm_code 91 23 = some (.goto 4, 3, 27, 0, []) := rfl
theorem rw_91_26 : mm_code 91 26 = some (.iconst 0, 1, 0, 0, []) := rfl
theorem rw_91_27 : mm_code 91 27 = some (.ireturn, 1, 0, 0, []) := rfl
theorem rw_92_0 : mm_code 92 0 = some (.iload_n 0, 1, 0, 0, []) := rfl
theorem rw_92_1 : mm_code 92 1 = some (.bipush 10, 2, 10, 0, []) := rfl
theorem rw_92_3 : mm_code 92 3 = some (.if_icmp .eq 9, 3, 12, 0, []) := rfl
theorem rw_92_6 : mm_code 92 6 = some (.iload_n 0, 1, 0, 0, []) := rfl
theorem rw_92_7 : mm_code 92 7 = some (.bipush 32, 2, 32, 0, []) := rfl
theorem rw_92_9 : mm_code 92 9 = some (.if_icmp .ne 7, 3, 16, 0, []) := rfl
theorem rw_92_12 : mm_code 92 12 = some (.iconst 1, 1, 1, 0, []) := rfl
theorem rw_92_13 : mm_code 92 13 = some (.goto 4, 3, 17, 0, []) := rfl
theorem rw_92_16 : mm_code 92 16 = some (.iconst 0, 1, 0, 0, []) := rfl
theorem rw_92_17 : mm_code 92 17 = some (.ireturn, 1, 1, 0, []) := rfl
theorem rw_93_0 : mm_code 93 0 = some (.iload_n 0, 1, 0, 0, []) := rfl
theorem rw_93_1 : mm_code 93 1 = some (.bipush 97, 2, 97, 0, []) := rfl
theorem rw_93_3 : mm_code 93 3 = some (.if_icmp .lt 13, 3, 16, 0, []) := rfl
theorem rw_93_6 : mm_code 93 6 = some (.iload_n 0, 1, 0, 0, []) := rfl
theorem rw_93_7 : mm_code 93 7 = some (.bipush 122, 2, 122, 0, []) := rfl
theorem rw_93_9 : mm_code 93 9 = some (.if_icmp .gt 7, 3, 16, 0, []) := rfl
theorem rw_93_12 : mm_code 93 12 = some (.iconst 1, 1, 1, 0, []) := rfl
theorem rw_93_13 : mm_code 93 13 = some (.goto 4, 3, 17, 0, []) := rfl
theorem rw_93_16 : mm_code 93 16 = some (.iconst 0, 1, 0, 0, []) := rfl
theorem rw_93_17 : mm_code 93 17 = some (.ireturn, 1, 1, 0, []) := rfl
theorem rw_94_0 : mm_code 94 0 = some (.iload_n 0, 1, 0, 0, []) := rfl
theorem rw_94_1 : mm_code 94 1 = some (.bipush 48, 2, 48, 0, []) := rfl
theorem rw_94_3 : mm_code 94 3 = some (.if_icmp .lt 13, 3, 16, 0, []) := rfl
theorem rw_94_6 : mm_code 94 6 = some (.iload_n 0, 1, 0, 0, []) := rfl
theorem rw_94_7 : mm_code 94 7 = some (.bipush 57, 2, 57, 0, []) := rfl
theorem rw_94_9 : mm_code 94 9 = some (.if_icmp .gt 7, 3, 16, 0, []) := rfl
theorem rw_94_12 : mm_code 94 12 = some (.iconst 1, 1, 1, 0, []) := rfl
theorem rw_94_13 : mm_code 94 13 = some (.goto 4, 3, 17, 0, []) := rfl
theorem rw_94_16 : mm_code 94 16 = some (.iconst 0, 1, 0, 0, []) := rfl
theorem rw_94_17 : mm_code 94 17 = some (.ireturn, 1, 1, 0, []) := rfl
theorem rw_95_0 : mm_code 95 0 = some (.iload_n 0, 1, 0, 0, []) := rfl
theorem rw_95_1 : mm_code 95 1 = some (.bipush 59, 2, 59, 0, []) := rfl
theorem rw_95_3 : mm_code 95 3 = some (.if_icmp .eq 21, 3, 24, 0, []) := rfl
theorem rw_95_6 : mm_code 95 6 = some (.iload_n 0, 1, 0, 0, []) := rfl
theorem rw_95_7 : mm_code 95 7 = some (.bipush 40, 2, 40, 0, []) := rfl
theorem rw_95_9 : mm_code 95 9 = some (.if_icmp .eq 15, 3, 24, 0, []) := rfl
theorem rw_95_12 : mm_code 95 12 = some (.iload_n 0, 1, 0, 0, []) := rfl
theorem rw_95_13 : mm_code 95 13 = some (.bipush 41, 2, 41, 0, []) := rfl
theorem rw_95_15 : mm_code 95 15 = some (.if_icmp .eq 9, 3, 24, 0, []) := rfl
theorem rw_95_18 : mm_code 95 18 = some (.iload_n 0, 1, 0, 0, []) := rfl
theorem rw_95_19 : mm_code 95 19 = some (.bipush 61, 2, 61, 0, []) := rfl
theorem rw_95_21 : mm_code 95 21 = some (.if_icmp .ne 7, 3, 28, 0, []) := rfl
theorem rw_95_24 : mm_code 95 24 = some (.iconst 1, 1, 1, 0, []) := rfl
theorem rw_95_25 : mm_code 95 25 = some (.goto 4, 3, 29, 0, []) := rfl
theorem rw_95_28 : mm_code 95 28 = some (.iconst 0, 1, 0, 0, []) := rfl
theorem rw_95_29 : mm_code 95 29 = some (.ireturn, 1, 1, 0, []) := rfl
theorem rw_96_0 : mm_code 96 0 = some (.getstatic 102, 3, 1, 0, [4]) := rfl
theorem rw_96_3 : mm_code 96 3 = some (.astore_n 1, 1, 0, 0, []) := rfl
theorem rw_96_4 : mm_code 96 4 = some (.aload_n 1, 1, 0, 0, []) := rfl
theorem rw_96_5 : mm_code 96 5 = some (.arraylength, 1, 0, 0, []) := rfl
theorem rw_96_6 : mm_code 96 6 = some (.istore_n 2, 1, 0, 0, []) := rfl
theorem rw_96_7 : mm_code 96 7 = some (.iconst 0, 1, 0, 0, []) := rfl
theorem rw_96_8 : mm_code 96 8 = some (.istore_n 3, 1, 0, 0, []) := rfl
theorem rw_96_9 : mm_code 96 9 = some (.iload_n 3, 1, 0, 0, []) := rfl
theorem rw_96_10 : mm_code 96 10 = some (.iload_n 2, 1, 0, 0, []) := rfl
theorem rw_96_11 : mm_code 96 11 = some (.if_icmp .ge 22, 3, 33, 0, []) := rfl
theorem rw_96_14 : mm_code 96 14 = some (.aload_n 1, 1, 0, 0, []) := rfl
theorem rw_96_15 : mm_code 96 15 = some (.iload_n 3, 1, 0, 0, []) := rfl
theorem rw_96_16 : mm_code 96 16 = some (.iaload, 1, 0, 0, []) := rfl
theorem rw_96_17 : mm_code 96 17 = some (.istore 4, 2, 0, 0, []) := rfl
theorem rw_96_19 : mm_code 96 19 = some (.iload 4, 2, 0, 0, []) := rfl
theorem rw_96_21 : mm_code 96 21 = some (.iload_n 0, 1, 0, 0, []) := rfl
theorem rw_96_22 : mm_code 96 22 = some (.if_icmp .ne 5, 3, 27, 0, []) := rfl
theorem rw_96_25 : mm_code 96 25 = some (.iconst 1, 1, 1, 0, []) := rfl
theorem rw_96_26 : mm_code 96 26 = some (.ireturn, 1, 1, 0, []) := rfl
theorem rw_96_27 : mm_code 96 27 = some (.iinc 3 1, 3, 1, 0, []) := rfl
theorem rw_96_30 : mm_code 96 30 = some (.goto (-21), 3, 9, 0, []) := rfl
theorem rw_96_33 : mm_code 96 33 = some (.iconst 0, 1, 0, 0, []) := rfl
theorem rw_96_34 : mm_code 96 34 = some (.ireturn, 1, 1, 0, []) := rfl
theorem rw_98_0 : mm_code 98 0 = some (.aload_n 0, 1, 0, 0, []) := rfl
theorem rw_98_1 : mm_code 98 1 = some (.iconst 0, 1, 0, 0, []) := rfl
theorem rw_98_2 : mm_code 98 2 = some (.putfield 34, 3, 9, 7, [0, 8]) := rfl
theorem rw_98_5 : mm_code 98 5 = some (.aload_n 0, 1, 0, 0, []) := rfl
theorem rw_98_6 : mm_code 98 6 = some (.aload_n 1, 1, 0, 0, []) := rfl
theorem rw_98_7 : mm_code 98 7 = some (.aload_n 2, 1, 0, 0, []) := rfl
theorem rw_98_8 : mm_code 98 8 = some (.aload_n 3, 1, 0, 0, []) := rfl
theorem rw_98_9 : mm_code 98 9 = some (.iconst 0, 1, 0, 0, []) := rfl
theorem rw_98_10 : mm_code 98 10 = some (.invokevirtual 38, 3, 99, 5, [9, 0]) := rfl
theorem rw_98_13 : mm_code 98 13 = some (.ifCond .eq 14, 3, 27, 0, []) := rfl
theorem rw_98_16 : mm_code 98 16 = some (.aload_n 1, 1, 0, 0, []) := rfl
theorem rw_98_17 : mm_code 98 17 = some (.invokevirtual 42, 3, 87, 1, [10, 0]) := rfl
theorem rw_98_20 : mm_code 98 20 = some (.ifCond .eq 7, 3, 27, 0, []) := rfl
theorem rw_98_23 : mm_code 98 23 = some (.iconst 1, 1, 1, 0, []) := rfl
theorem rw_98_24 : mm_code 98 24 = some (.goto 4, 3, 28, 0, []) := rfl
theorem rw_98_27 : mm_code 98 27 = some (.iconst 0, 1, 0, 0, []) := rfl
theorem rw_98_28 : mm_code 98 28 = some (.ireturn, 1, 1, 0, []) := rfl
theorem rw_99_0 : mm_code 99 0 = some (.iconst 0, 1, 0, 0, []) := rfl
theorem rw_99_1 : mm_code 99 1 = some (.istore 5, 2, 0, 0, []) := rfl
theorem rw_99_3 : mm_code 99 3 = some (.iload 5, 2, 0, 0, []) := rfl
theorem rw_99_5 : mm_code 99 5 = some (.bipush 40, 2, 40, 0, []) := rfl
theorem rw_99_7 : mm_code 99 7 = some (.if_icmp .gt 31, 3, 38, 0, []) := rfl
theorem rw_99_10 : mm_code 99 10 = some (.aload_n 1, 1, 0, 0, []) := rfl
theorem rw_99_11 : mm_code 99 11 = some (.getfield 48, 3, 8, 7, [0, 11]) := rfl
theorem rw_99_14 : mm_code 99 14 = some (.iconst 4, 1, 4, 0, []) := rfl
theorem rw_99_15 : mm_code 99 15 = some (.if_icmp .ne 23, 3, 38, 0, []) := rfl
theorem rw_99_18 : mm_code 99 18 = some (.aload_n 0, 1, 0, 0, []) := rfl
theorem rw_99_19 : mm_code 99 19 = some (.aload_n 1, 1, 0, 0, []) := rfl
theorem rw_99_20 : mm_code 99 20 = some (.aload_n 2, 1, 0, 0, []) := rfl
theorem rw_99_21 : mm_code 99 21 = some (.aload_n 3, 1, 0, 0, []) := rfl
theorem rw_99_22 : mm_code 99 22 = some (.iload 4, 2, 0, 0, []) := rfl
theorem rw_99_24 : mm_code 99 24 = some (.invokevirtual 51, 3, 100, 5, [12, 0]) := rfl
theorem rw_99_27 : mm_code 99 27 = some (.ifCond .ne 5, 3, 32, 0, []) := rfl
theorem rw_99_30 : mm_code 99 30 = some (.iconst 0, 1, 0, 0, []) := rfl
theorem rw_99_31 : mm_code 99 31 = some (.ireturn, 1, 1, 0, []) := rfl
theorem rw_99_32 : mm_code 99 32 = some (.iinc 5 1, 3, 1, 0, []) := rfl
theorem rw_99_35 : mm_code 99 35 = some (.goto (-32), 3, 3, 0, []) := rfl
theorem rw_99_38 : mm_code 99 38 = some (.iconst 1, 1, 1, 0, []) := rfl
theorem rw_99_39 : mm_code 99 39 = some (.ireturn, 1, 1, 0, []) := rfl
theorem rw_100_0 : mm_code 100 0 = some (.aload_n 1, 1, 0, 0, []) := rfl
theorem rw_100_1 : mm_code 100 1 = some (.getfield 54, 3, 8, 8, [0, 13]) := rfl
theorem rw_100_4 : mm_code 100 4 = some (.istore 5, 2, 0, 0, []) := rfl
theorem rw_100_6 : mm_code 100 6 = some (.iload 5, 2, 0, 0, []) := rfl
theorem rw_100_8 : mm_code 100 8 = some (.ldc 57, 2, 538561536, 0, [14]) := rfl
theorem rw_100_10 : mm_code 100 10 = some (.if_icmp .eq 23, 3, 33, 0, []) := rfl
theorem rw_100_13 : mm_code 100 13 = some (.iload 5, 2, 0, 0, []) := rfl
theorem rw_100_15 : mm_code 100 15 = some (.ldc 58, 2, 351582208, 0, [15]) := rfl
theorem rw_100_17 : mm_code 100 17 = some (.if_icmp .eq 16, 3, 33, 0, []) := rfl
theorem rw_100_20 : mm_code 100 20 = some (.iload 5, 2, 0, 0, []) := rfl
theorem rw_100_22 : mm_code 100 22 = some (.ldc 59, 2, 40936896, 0, [16]) := rfl
theorem rw_100_24 : mm_code 100 24 = some (.if_icmp .eq 9, 3, 33, 0, []) := rfl
theorem rw_100_27 : mm_code 100 27 = some (.aload_n 1, 1, 0, 0, []) := rfl
theorem rw_100_28 : mm_code 100 28 = some (.iconst 1, 1, 1, 0, []) := rfl
theorem rw_100_29 : mm_code 100 29 = some (.invokevirtual 60, 3, 84, 2, [17, 0]) := rfl
theorem rw_100_32 : mm_code 100 32 = some (.ireturn, 1, 1, 0, []) := rfl
theorem rw_100_33 : mm_code 100 33 = some (.aload_n 0, 1, 0, 0, []) := rfl
theorem rw_100_34 : mm_code 100 34 = some (.getfield 34, 3, 9, 7, [0, 8]) := rfl
theorem rw_100_37 : mm_code 100 37 = some (.bipush 40, 2, 40, 0, []) := rfl
theorem rw_100_39 : mm_code 100 39 = some (.if_icmp .lt 9, 3, 48, 0, []) := rfl
theorem rw_100_42 : mm_code 100 42 = some (.aload_n 1, 1, 0, 0, []) := rfl
theorem rw_100_43 : mm_code 100 43 = some (.iconst 2, 1, 2, 0, []) := rfl
theorem rw_100_44 : mm_code 100 44 = some (.invokevirtual 60, 3, 84, 2, [17, 0]) := rfl
theorem rw_100_47 : mm_code 100 47 = some (.ireturn, 1, 1, 0, []) := rfl
theorem rw_100_48 : mm_code 100 48 = some (.aload_n 0, 1, 0, 0, []) := rfl
theorem rw_100_49 : mm_code 100 49 = some (.getfield 34, 3, 9, 7, [0, 8]) := rfl
theorem rw_100_52 : mm_code 100 52 = some (.istore 6, 2, 0, 0, []) := rfl
theorem rw_100_54 : mm_code 100 54 = some (.aload_n 0, 1, 0, 0, []) := rfl
theorem rw_100_55 : mm_code 100 55 = some (.dup, 1, 0, 0, []) := rfl
theorem rw_100_56 : mm_code 100 56 = some (.getfield 34, 3, 9, 7, [0, 8]) := rfl
theorem rw_100_59 : mm_code 100 59 = some (.iconst 1, 1, 1, 0, []) := rfl
theorem rw_100_60 : mm_code 100 60 = some (.iadd, 1, 0, 0, []) := rfl
theorem rw_100_61 : mm_code 100 61 = some (.putfield 34, 3, 9, 7, [0, 8]) := rfl
theorem rw_100_64 : mm_code 100 64 = some (.aload_n 0, 1, 0, 0, []) := rfl
theorem rw_100_65 : mm_code 100 65 = some (.getfield 9, 3, 9, 0, [3, 1]) := rfl
theorem rw_100_68 : mm_code 100 68 = some (.iload 6, 2, 0, 0, []) := rfl
theorem rw_100_70 : mm_code 100 70 = some (.iload 5, 2, 0, 0, []) := rfl
theorem rw_100_72 : mm_code 100 72 = some (.iastore, 1, 0, 0, []) := rfl
theorem rw_100_73 : mm_code 100 73 = some (.aload_n 1, 1, 0, 0, []) := rfl
theorem rw_100_74 : mm_code 100 74 = some (.invokevirtual 64, 3, 83, 1, [18, 0]) := rfl
theorem rw_100_77 : mm_code 100 77 = some (.iload 5, 2, 0, 0, []) := rfl
theorem rw_100_79 : mm_code 100 79 = some (.ldc 57, 2, 538561536, 0, [14]) := rfl
theorem rw_100_81 : mm_code 100 81 = some (.if_icmp .ne 17, 3, 98, 0, []) := rfl
theorem rw_100_84 : mm_code 100 84 = some (.aload_n 0, 1, 0, 0, []) := rfl
theorem rw_100_85 : mm_code 100 85 = some (.aload_n 1, 1, 0, 0, []) := rfl
theorem rw_100_86 : mm_code 100 86 = some (.aload_n 2, 1, 0, 0, []) := rfl
theorem rw_100_87 : mm_code 100 87 = some (.aload_n 3, 1, 0, 0, []) := rfl
theorem rw_100_88 : mm_code 100 88 = some (.iload 6, 2, 0, 0, []) := rfl
theorem rw_100_90 : mm_code 100 90 = some (.invokevirtual 67, 3, 101, 5, [19, 0]) := rfl
theorem rw_100_93 : mm_code 100 93 = some (.istore 7, 2, 0, 0, []) := rfl
theorem rw_100_95 : mm_code 100 95 = some (.goto 35, 3, 130, 0, []) := rfl
theorem rw_100_98 : mm_code 100 98 = some (.iload 5, 2, 0, 0, []) := rfl
theorem rw_100_100 : mm_code 100 100 = some (.ldc 58, 2, 351582208, 0, [15]) := rfl
theorem rw_100_102 : mm_code 100 102 = some (.if_icmp .ne 15, 3, 117, 0, []) := rfl
theorem rw_100_105 : mm_code 100 105 = some (.aload_n 0, 1, 0, 0, []) := rfl
theorem rw_100_106 : mm_code 100 106 = some (.aload_n 1, 1, 0, 0, []) := rfl
theorem rw_100_107 : mm_code 100 107 = some (.iload 6, 2, 0, 0, []) := rfl
theorem rw_100_109 : mm_code 100 109 = some (.invokevirtual 70, 3, 104, 3, [20, 0]) := rfl
theorem rw_100_112 : mm_code 100 112 = some (.istore 7, 2, 0, 0, []) := rfl
theorem rw_100_114 : mm_code 100 114 = some (.goto 16, 3, 130, 0, []) := rfl
theorem rw_100_117 : mm_code 100 117 = some (.aload_n 0, 1, 0, 0, []) := rfl
theorem rw_100_118 : mm_code 100 118 = some (.aload_n 1, 1, 0, 0, []) := rfl
theorem rw_100_119 : mm_code 100 119 = some (.aload_n 2, 1, 0, 0, []) := rfl
theorem rw_100_120 : mm_code 100 120 = some (.aload_n 3, 1, 0, 0, []) := rfl
theorem rw_100_121 : mm_code 100 121 = some (.iload 4, 2, 0, 0, []) := rfl
theorem rw_100_123 : mm_code 100 123 = some (.iload 6, 2, 0, 0, []) := rfl
theorem rw_100_125 : mm_code 100 125 = some (.invokevirtual 74, 3, 105, 6, [21, 0]) := rfl
theorem rw_100_128 : mm_code 100 128 = some (.istore 7, 2, 0, 0, []) := rfl
theorem rw_100_130 : mm_code 100 130 = some (.aload_n 0, 1, 0, 0, []) := rfl
theorem rw_100_131 : mm_code 100 131 = some (.getfield 31, 3, 9, 6, [3, 7]) := rfl
theorem rw_100_134 : mm_code 100 134 = some (.iload 6, 2, 0, 0, []) := rfl
theorem rw_100_136 : mm_code 100 136 = some (.aload_n 0, 1, 0, 0, []) := rfl
theorem rw_100_137 : mm_code 100 137 = some (.getfield 34, 3, 9, 7, [0, 8]) := rfl
theorem rw_100_140 : mm_code 100 140 = some (.iastore, 1, 0, 0, []) := rfl
theorem rw_100_141 : mm_code 100 141 = some (.iload 7, 2, 0, 0, []) := rfl
theorem rw_100_143 : mm_code 100 143 = some (.ireturn, 1, 1, 0, []) := rfl
theorem rw_101_0 : mm_code 101 0 = some (.aload_n 0, 1, 0, 0, []) := rfl
theorem rw_101_1 : mm_code 101 1 = some (.aload_n 1, 1, 0, 0, []) := rfl
theorem rw_101_2 : mm_code 101 2 = some (.aload_n 0, 1, 0, 0, []) := rfl
theorem rw_101_3 : mm_code 101 3 = some (.getfield 15, 3, 9, 1, [3, 2]) := rfl
theorem rw_101_6 : mm_code 101 6 = some (.iload 4, 2, 0, 0, []) := rfl
theorem rw_101_8 : mm_code 101 8 = some (.invokevirtual 78, 3, 102, 4, [22, 0]) := rfl
theorem rw_101_11 : mm_code 101 11 = some (.ifCond .eq 12, 3, 23, 0, []) := rfl
theorem rw_101_14 : mm_code 101 14 = some (.aload_n 1, 1, 0, 0, []) := rfl
theorem rw_101_15 : mm_code 101 15 = some (.ldc 82, 2, 686817280, 0, [23]) := rfl
theorem rw_101_17 : mm_code 101 17 = some (.invokevirtual 83, 3, 89, 2, [24, 0]) := rfl
theorem rw_101_20 : mm_code 101 20 = some (.ifCond .ne 5, 3, 25, 0, []) := rfl
theorem rw_101_23 : mm_code 101 23 = some (.iconst 0, 1, 0, 0, []) := rfl
theorem rw_101_24 : mm_code 101 24 = some (.ireturn, 1, 1, 0, []) := rfl
theorem rw_101_25 : mm_code 101 25 = some (.aload_n 0, 1, 0, 0, []) := rfl
theorem rw_101_26 : mm_code 101 26 = some (.aload_n 1, 1, 0, 0, []) := rfl
theorem rw_101_27 : mm_code 101 27 = some (.aload_n 0, 1, 0, 0, []) := rfl
theorem rw_101_28 : mm_code 101 28 = some (.getfield 18, 3, 9, 2, [3, 3]) := rfl
theorem rw_101_31 : mm_code 101 31 = some (.iload 4, 2, 0, 0, []) := rfl
theorem rw_101_33 : mm_code 101 33 = some (.invokevirtual 78, 3, 102, 4, [22, 0]) := rfl
theorem rw_101_36 : mm_code 101 36 = some (.ifCond .eq 26, 3, 62, 0, []) := rfl
theorem rw_101_39 : mm_code 101 39 = some (.aload_n 0, 1, 0, 0, []) := rfl
theorem rw_101_40 : mm_code 101 40 = some (.aload_n 1, 1, 0, 0, []) := rfl
theorem rw_101_41 : mm_code 101 41 = some (.aload_n 0, 1, 0, 0, []) := rfl
theorem rw_101_42 : mm_code 101 42 = some (.getfield 21, 3, 9, 3, [3, 4]) := rfl
theorem rw_101_45 : mm_code 101 45 = some (.iload 4, 2, 0, 0, []) := rfl
theorem rw_101_47 : mm_code 101 47 = some (.invokevirtual 78, 3, 102, 4, [22, 0]) := rfl
theorem rw_101_50 : mm_code 101 50 = some (.ifCond .eq 12, 3, 62, 0, []) := rfl
theorem rw_101_53 : mm_code 101 53 = some (.aload_n 1, 1, 0, 0, []) := rfl
theorem rw_101_54 : mm_code 101 54 = some (.ldc 86, 2, 93323264, 0, [25]) := rfl
theorem rw_101_56 : mm_code 101 56 = some (.invokevirtual 83, 3, 89, 2, [24, 0]) := rfl
theorem rw_101_59 : mm_code 101 59 = some (.ifCond .ne 5, 3, 64, 0, []) := rfl
theorem rw_101_62 : mm_code 101 62 = some (.iconst 0, 1, 0, 0, []) := rfl
theorem rw_101_63 : mm_code 101 63 = some (.ireturn, 1, 1, 0, []) := rfl
theorem rw_101_64 : mm_code 101 64 = some (.aload_n 0, 1, 0, 0, []) := rfl
theorem rw_101_65 : mm_code 101 65 = some (.getfield 24, 3, 9, 4, [3, 5]) := rfl
theorem rw_101_68 : mm_code 101 68 = some (.iload 4, 2, 0, 0, []) := rfl
theorem rw_101_70 : mm_code 101 70 = some (.lconst 0, 1, 0, 0, []) := rfl
theorem rw_101_71 : mm_code 101 71 = some (.lastore, 1, 0, 0, []) := rfl
theorem rw_101_72 : mm_code 101 72 = some (.aload_n 0, 1, 0, 0, []) := rfl
theorem rw_101_73 : mm_code 101 73 = some (.aload_n 1, 1, 0, 0, []) := rfl
theorem rw_101_74 : mm_code 101 74 = some (.aload_n 2, 1, 0, 0, []) := rfl
theorem rw_101_75 : mm_code 101 75 = some (.aload_n 3, 1, 0, 0, []) := rfl
theorem rw_101_76 : mm_code 101 76 = some (.iload 4, 2, 0, 0, []) := rfl
theorem rw_101_78 : mm_code 101 78 = some (.invokevirtual 87, 3, 103, 5, [26, 0]) := rfl
theorem rw_101_81 : mm_code 101 81 = some (.ifCond .ne 5, 3, 86, 0, []) := rfl
theorem rw_101_84 : mm_code 101 84 = some (.iconst 0, 1, 0, 0, []) := rfl
theorem rw_101_85 : mm_code 101 85 = some (.ireturn, 1, 1, 0, []) := rfl
theorem rw_101_86 : mm_code 101 86 = some (.iconst 0, 1, 0, 0, []) := rfl
theorem rw_101_87 : mm_code 101 87 = some (.istore 5, 2, 0, 0, []) := rfl
theorem rw_101_89 : mm_code 101 89 = some (.iload 5, 2, 0, 0, []) := rfl
theorem rw_101_91 : mm_code 101 91 = some (.sipush 500, 3, 500, 0, []) := rfl
theorem rw_101_94 : mm_code 101 94 = some (.if_icmp .ge 32, 3, 126, 0, []) := rfl
theorem rw_101_97 : mm_code 101 97 = some (.aload_n 1, 1, 0, 0, []) := rfl
theorem rw_101_98 : mm_code 101 98 = some (.getfield 48, 3, 8, 7, [0, 11]) := rfl
theorem rw_101_101 : mm_code 101 101 = some (.bipush 59, 2, 59, 0, []) := rfl
theorem rw_101_103 : mm_code 101 103 = some (.if_icmp .eq 23, 3, 126, 0, []) := rfl
theorem rw_101_106 : mm_code 101 106 = some (.aload_n 0, 1, 0, 0, []) := rfl
theorem rw_101_107 : mm_code 101 107 = some (.aload_n 1, 1, 0, 0, []) := rfl
theorem rw_101_108 : mm_code 101 108 = some (.aload_n 2, 1, 0, 0, []) := rfl
theorem rw_101_109 : mm_code 101 109 = some (.aload_n 3, 1, 0, 0, []) := rfl
theorem rw_101_110 : mm_code 101 110 = some (.iload 4, 2, 0, 0, []) := rfl
theorem rw_101_112 : mm_code 101 112 = some (.invokevirtual 87, 3, 103, 5, [26, 0]) := rfl
theorem rw_101_115 : mm_code 101 115 = some (.ifCond .ne 5, 3, 120, 0, []) := rfl
theorem rw_101_118 : mm_code 101 118 = some (.iconst 0, 1, 0, 0, []) := rfl
theorem rw_101_119 : mm_code 101 119 = some (.ireturn, 1, 1, 0, []) := rfl
theorem rw_101_120 : mm_code 101 120 = some (.iinc 5 1, 3, 1, 0, []) := rfl
theorem rw_101_123 : mm_code 101 123 = some (.goto (-34), 3, 89, 0, []) := rfl
theorem rw_101_126 : mm_code 101 126 = some (.aload_n 1, 1, 0, 0, []) := rfl
theorem rw_101_127 : mm_code 101 127 = some (.bipush 59, 2, 59, 0, []) := rfl
theorem rw_101_129 : mm_code 101 129 = some (.invokevirtual 90, 3, 90, 2, [27, 0]) := rfl
theorem rw_101_132 : mm_code 101 132 = some (.ireturn, 1, 1, 0, []) := rfl
theorem rw_102_0 : mm_code 102 0 = some (.aload_n 1, 1, 0, 0, []) := rfl
theorem rw_102_1 : mm_code 102 1 = some (.getfield 48, 3, 8, 7, [0, 11]) := rfl
theorem rw_102_4 : mm_code 102 4 = some (.iconst 3, 1, 3, 0, []) := rfl
theorem rw_102_5 : mm_code 102 5 = some (.if_icmp .ne 13, 3, 18, 0, []) := rfl
theorem rw_102_8 : mm_code 102 8 = some (.aload_n 1, 1, 0, 0, []) := rfl
theorem rw_102_9 : mm_code 102 9 = some (.getfield 54, 3, 8, 8, [0, 13]) := rfl
theorem rw_102_12 : mm_code 102 12 = some (.bipush 25, 2, 25, 0, []) := rfl
theorem rw_102_14 : mm_code 102 14 = some (.ishr, 1, 0, 0, []) := rfl
theorem rw_102_15 : mm_code 102 15 = some (.goto 4, 3, 19, 0, []) := rfl
theorem rw_102_18 : mm_code 102 18 = some (.iconst 0, 1, 0, 0, []) := rfl
theorem rw_102_19 : mm_code 102 19 = some (.istore 4, 2, 0, 0, []) := rfl
theorem rw_102_21 : mm_code 102 21 = some (.iload 4, 2, 0, 0, []) := rfl
theorem rw_102_23 : mm_code 102 23 = some (.iconst 1, 1, 1, 0, []) := rfl
theorem rw_102_24 : mm_code 102 24 = some (.if_icmp .lt 22, 3, 46, 0, []) := rfl
theorem rw_102_27 : mm_code 102 27 = some (.iload 4, 2, 0, 0, []) := rfl
theorem rw_102_29 : mm_code 102 29 = some (.bipush 6, 2, 6, 0, []) := rfl
theorem rw_102_31 : mm_code 102 31 = some (.if_icmp .gt 15, 3, 46, 0, []) := rfl
theorem rw_102_34 : mm_code 102 34 = some (.aload_n 1, 1, 0, 0, []) := rfl
theorem rw_102_35 : mm_code 102 35 = some (.getfield 54, 3, 8, 8, [0, 13]) := rfl
theorem rw_102_38 : mm_code 102 38 = some (.iload 4, 2, 0, 0, []) := rfl
theorem rw_102_40 : mm_code 102 40 = some (.bipush 25, 2, 25, 0, []) := rfl
theorem rw_102_42 : mm_code 102 42 = some (.ishl, 1, 0, 0, []) := rfl
theorem rw_102_43 : mm_code 102 43 = some (.if_icmp .eq 9, 3, 52, 0, []) := rfl
theorem rw_102_46 : mm_code 102 46 = some (.aload_n 1, 1, 0, 0, []) := rfl
theorem rw_102_47 : mm_code 102 47 = some (.iconst 1, 1, 1, 0, []) := rfl
theorem rw_102_48 : mm_code 102 48 = some (.invokevirtual 60, 3, 84, 2, [17, 0]) := rfl
theorem rw_102_51 : mm_code 102 51 = some (.ireturn, 1, 1, 0, []) := rfl
theorem rw_102_52 : mm_code 102 52 = some (.aload_n 2, 1, 0, 0, []) := rfl
theorem rw_102_53 : mm_code 102 53 = some (.iload_n 3, 1, 0, 0, []) := rfl
theorem rw_102_54 : mm_code 102 54 = some (.iload 4, 2, 0, 0, []) := rfl
theorem rw_102_56 : mm_code 102 56 = some (.iconst 1, 1, 1, 0, []) := rfl
theorem rw_102_57 : mm_code 102 57 = some (.isub, 1, 0, 0, []) := rfl
theorem rw_102_58 : mm_code 102 58 = some (.iastore, 1, 0, 0, []) := rfl
theorem rw_102_59 : mm_code 102 59 = some (.aload_n 1, 1, 0, 0, []) := rfl
theorem rw_102_60 : mm_code 102 60 = some (.invokevirtual 64, 3, 83, 1, [18, 0]) := rfl
theorem rw_102_63 : mm_code 102 63 = some (.iconst 1, 1, 1, 0, []) := rfl
theorem rw_102_64 : mm_code 102 64 = some (.ireturn, 1, 1, 0, []) := rfl
theorem rw_103_0 : mm_code 103 0 = some (.iconst 0, 1, 0, 0, []) := rfl
theorem rw_103_1 : mm_code 103 1 = some (.istore 5, 2, 0, 0, []) := rfl
theorem rw_103_3 : mm_code 103 3 = some (.aload_n 2, 1, 0, 0, []) := rfl
theorem rw_103_4 : mm_code 103 4 = some (.getfield 94, 3, 5, 0, [0, 28]) := rfl
theorem rw_103_7 : mm_code 103 7 = some (.iconst 1, 1, 1, 0, []) := rfl
theorem rw_103_8 : mm_code 103 8 = some (.isub, 1, 0, 0, []) := rfl
theorem rw_103_9 : mm_code 103 9 = some (.istore 6, 2, 0, 0, []) := rfl
theorem rw_103_11 : mm_code 103 11 = some (.aload_n 1, 1, 0, 0, []) := rfl
theorem rw_103_12 : mm_code 103 12 = some (.getfield 48, 3, 8, 7, [0, 11]) := rfl
theorem rw_103_15 : mm_code 103 15 = some (.iconst 3, 1, 3, 0, []) := rfl
theorem rw_103_16 : mm_code 103 16 = some (.if_icmp .ne 93, 3, 109, 0, []) := rfl
theorem rw_103_19 : mm_code 103 19 = some (.aload_n 2, 1, 0, 0, []) := rfl
theorem rw_103_20 : mm_code 103 20 = some (.aload_n 1, 1, 0, 0, []) := rfl
theorem rw_103_21 : mm_code 103 21 = some (.getfield 54, 3, 8, 8, [0, 13]) := rfl
theorem rw_103_24 : mm_code 103 24 = some (.invokevirtual 99, 3, 53, 2, [29, 0]) := rfl
theorem rw_103_27 : mm_code 103 27 = some (.istore 7, 2, 0, 0, []) := rfl
theorem rw_103_29 : mm_code 103 29 = some (.aload_n 2, 1, 0, 0, []) := rfl
theorem rw_103_30 : mm_code 103 30 = some (.iload 7, 2, 0, 0, []) := rfl
theorem rw_103_32 : mm_code 103 32 = some (.invokevirtual 103, 3, 44, 2, [30, 0]) := rfl
theorem rw_103_35 : mm_code 103 35 = some (.ifCond .eq 26, 3, 61, 0, []) := rfl
theorem rw_103_38 : mm_code 103 38 = some (.aload_n 0, 1, 0, 0, []) := rfl
theorem rw_103_39 : mm_code 103 39 = some (.getfield 24, 3, 9, 4, [3, 5]) := rfl
theorem rw_103_42 : mm_code 103 42 = some (.iload 4, 2, 0, 0, []) := rfl
theorem rw_103_44 : mm_code 103 44 = some (.dup2, 1, 0, 0, []) := rfl
theorem rw_103_45 : mm_code 103 45 = some (.laload, 1, 0, 0, []) := rfl
theorem rw_103_46 : mm_code 103 46 = some (.aload_n 3, 1, 0, 0, []) := rfl
theorem rw_103_47 : mm_code 103 47 = some (.getfield 106, 3, 1, 3, [3, 31]) := rfl
theorem rw_103_50 : mm_code 103 50 = some (.iload 7, 2, 0, 0, []) := rfl
theorem rw_103_52 : mm_code 103 52 = some (.laload, 1, 0, 0, []) := rfl
theorem rw_103_53 : mm_code 103 53 = some (.lor, 1, 0, 0, []) := rfl
theorem rw_103_54 : mm_code 103 54 = some (.lastore, 1, 0, 0, []) := rfl
theorem rw_103_55 : mm_code 103 55 = some (.aload_n 1, 1, 0, 0, []) := rfl
theorem rw_103_56 : mm_code 103 56 = some (.invokevirtual 64, 3, 83, 1, [18, 0]) := rfl
theorem rw_103_59 : mm_code 103 59 = some (.iconst 1, 1, 1, 0, []) := rfl
theorem rw_103_60 : mm_code 103 60 = some (.ireturn, 1, 1, 0, []) := rfl
theorem rw_103_61 : mm_code 103 61 = some (.aload_n 2, 1, 0, 0, []) := rfl
theorem rw_103_62 : mm_code 103 62 = some (.aload_n 1, 1, 0, 0, []) := rfl
theorem rw_103_63 : mm_code 103 63 = some (.getfield 54, 3, 8, 8, [0, 13]) := rfl
theorem rw_103_66 : mm_code 103 66 = some (.invokevirtual 111, 3, 52, 2, [32, 0]) := rfl
theorem rw_103_69 : mm_code 103 69 = some (.istore 8, 2, 0, 0, []) := rfl
theorem rw_103_71 : mm_code 103 71 = some (.aload_n 2, 1, 0, 0, []) := rfl
theorem rw_103_72 : mm_code 103 72 = some (.iload 8, 2, 0, 0, []) := rfl
theorem rw_103_74 : mm_code 103 74 = some (.invokevirtual 114, 3, 43, 2, [33, 0]) := rfl
theorem rw_103_77 : mm_code 103 77 = some (.ifCond .ne 9, 3, 86, 0, []) := rfl
theorem rw_103_80 : mm_code 103 80 = some (.aload_n 1, 1, 0, 0, []) := rfl
theorem rw_103_81 : mm_code 103 81 = some (.iconst 4, 1, 4, 0, []) := rfl
theorem rw_103_82 : mm_code 103 82 = some (.invokevirtual 60, 3, 84, 2, [17, 0]) := rfl
theorem rw_103_85 : mm_code 103 85 = some (.ireturn, 1, 1, 0, []) := rfl
theorem rw_103_86 : mm_code 103 86 = some (.aload_n 2, 1, 0, 0, []) := rfl
theorem rw_103_87 : mm_code 103 87 = some (.getfield 117, 3, 5, 7, [3, 34]) := rfl
theorem rw_103_90 : mm_code 103 90 = some (.iload 8, 2, 0, 0, []) := rfl
theorem rw_103_92 : mm_code 103 92 = some (.iaload, 1, 0, 0, []) := rfl
theorem rw_103_93 : mm_code 103 93 = some (.istore 5, 2, 0, 0, []) := rfl
theorem rw_103_95 : mm_code 103 95 = some (.aload_n 2, 1, 0, 0, []) := rfl
theorem rw_103_96 : mm_code 103 96 = some (.iload 8, 2, 0, 0, []) := rfl
theorem rw_103_98 : mm_code 103 98 = some (.invokevirtual 120, 3, 47, 2, [35, 0]) := rfl
theorem rw_103_101 : mm_code 103 101 = some (.iconst 1, 1, 1, 0, []) := rfl
theorem rw_103_102 : mm_code 103 102 = some (.isub, 1, 0, 0, []) := rfl
theorem rw_103_103 : mm_code 103 103 = some (.istore 6, 2, 0, 0, []) := rfl
theorem rw_103_105 : mm_code 103 105 = some (.aload_n 1, 1, 0, 0, []) := rfl
theorem rw_103_106 : mm_code 103 106 = some (.invokevirtual 64, 3, 83, 1, [18, 0]) := rfl
theorem rw_103_109 : mm_code 103 109 = some (.aload_n 1, 1, 0, 0, []) := rfl
theorem rw_103_110 : mm_code 103 110 = some (.iconst 0, 1, 0, 0, []) := rfl
theorem rw_103_111 : mm_code 103 111 = some (.iload 6, 2, 0, 0, []) := rfl
theorem rw_103_113 : mm_code 103 113 = some (.invokevirtual 123, 3, 88, 3, [36, 0]) := rfl
theorem rw_103_116 : mm_code 103 116 = some (.ifCond .ne 5, 3, 121, 0, []) := rfl
theorem rw_103_119 : mm_code 103 119 = some (.iconst 0, 1, 0, 0, []) := rfl
theorem rw_103_120 : mm_code 103 120 = some (.ireturn, 1, 1, 0, []) := rfl
theorem rw_103_121 : mm_code 103 121 = some (.aload_n 0, 1, 0, 0, []) := rfl
theorem rw_103_122 : mm_code 103 122 = some (.getfield 24, 3, 9, 4, [3, 5]) := rfl
theorem rw_103_125 : mm_code 103 125 = some (.iload 4, 2, 0, 0, []) := rfl
theorem rw_103_127 : mm_code 103 127 = some (.dup2, 1, 0, 0, []) := rfl
theorem rw_103_128 : mm_code 103 128 = some (.laload, 1, 0, 0, []) := rfl
theorem rw_103_129 : mm_code 103 129 = some (.lconst 1, 1, 1, 0, []) := rfl
theorem rw_103_130 : mm_code 103 130 = some (.iload 5, 2, 0, 0, []) := rfl
theorem rw_103_132 : mm_code 103 132 = some (.aload_n 1, 1, 0, 0, []) := rfl
theorem rw_103_133 : mm_code 103 133 = some (.getfield 54, 3, 8, 8, [0, 13]) := rfl
theorem rw_103_136 : mm_code 103 136 = some (.iadd, 1, 0, 0, []) := rfl
theorem rw_103_137 : mm_code 103 137 = some (.lshl, 1, 0, 0, []) := rfl
theorem rw_103_138 : mm_code 103 138 = some (.lor, 1, 0, 0, []) := rfl
theorem rw_103_139 : mm_code 103 139 = some (.lastore, 1, 0, 0, []) := rfl
theorem rw_103_140 : mm_code 103 140 = some (.aload_n 1, 1, 0, 0, []) := rfl
theorem rw_103_141 : mm_code 103 141 = some (.invokevirtual 64, 3, 83, 1, [18, 0]) := rfl
theorem rw_103_144 : mm_code 103 144 = some (.iconst 1, 1, 1, 0, []) := rfl
theorem rw_103_145 : mm_code 103 145 = some (.ireturn, 1, 1, 0, []) := rfl
theorem rw_104_0 : mm_code 104 0 = some (.aload_n 0, 1, 0, 0, []) := rfl
theorem rw_104_1 : mm_code 104 1 = some (.aload_n 1, 1, 0, 0, []) := rfl
theorem rw_104_2 : mm_code 104 2 = some (.aload_n 0, 1, 0, 0, []) := rfl
theorem rw_104_3 : mm_code 104 3 = some (.getfield 15, 3, 9, 1, [3, 2]) := rfl
theorem rw_104_6 : mm_code 104 6 = some (.iload_n 2, 1, 0, 0, []) := rfl
theorem rw_104_7 : mm_code 104 7 = some (.invokevirtual 78, 3, 102, 4, [22, 0]) := rfl
theorem rw_104_10 : mm_code 104 10 = some (.ifCond .ne 5, 3, 15, 0, []) := rfl
theorem rw_104_13 : mm_code 104 13 = some (.iconst 0, 1, 0, 0, []) := rfl
theorem rw_104_14 : mm_code 104 14 = some (.ireturn, 1, 1, 0, []) := rfl
theorem rw_104_15 : mm_code 104 15 = some (.aload_n 1, 1, 0, 0, []) := rfl
theorem rw_104_16 : mm_code 104 16 = some (.getfield 127, 3, 8, 9, [0, 37]) := rfl
theorem rw_104_19 : mm_code 104 19 = some (.istore_n 3, 1, 0, 0, []) := rfl
theorem rw_104_20 : mm_code 104 20 = some (.aload_n 0, 1, 0, 0, []) := rfl
theorem rw_104_21 : mm_code 104 21 = some (.aload_n 1, 1, 0, 0, []) := rfl
theorem rw_104_22 : mm_code 104 22 = some (.aload_n 0, 1, 0, 0, []) := rfl
theorem rw_104_23 : mm_code 104 23 = some (.getfield 18, 3, 9, 2, [3, 3]) := rfl
theorem rw_104_26 : mm_code 104 26 = some (.iload_n 2, 1, 0, 0, []) := rfl
theorem rw_104_27 : mm_code 104 27 = some (.invokevirtual 78, 3, 102, 4, [22, 0]) := rfl
theorem rw_104_30 : mm_code 104 30 = some (.ifCond .ne 5, 3, 35, 0, []) := rfl
theorem rw_104_33 : mm_code 104 33 = some (.iconst 0, 1, 0, 0, []) := rfl
theorem rw_104_34 : mm_code 104 34 = some (.ireturn, 1, 1, 0, []) := rfl
theorem rw_104_35 : mm_code 104 35 = some (.aload_n 0, 1, 0, 0, []) := rfl
theorem rw_104_36 : mm_code 104 36 = some (.getfield 15, 3, 9, 1, [3, 2]) := rfl
theorem rw_104_39 : mm_code 104 39 = some (.iload_n 2, 1, 0, 0, []) := rfl
theorem rw_104_40 : mm_code 104 40 = some (.iaload, 1, 0, 0, []) := rfl
theorem rw_104_41 : mm_code 104 41 = some (.aload_n 0, 1, 0, 0, []) := rfl
theorem rw_104_42 : mm_code 104 42 = some (.getfield 18, 3, 9, 2, [3, 3]) := rfl
theorem rw_104_45 : mm_code 104 45 = some (.iload_n 2, 1, 0, 0, []) := rfl
theorem rw_104_46 : mm_code 104 46 = some (.iaload, 1, 0, 0, []) := rfl
theorem rw_104_47 : mm_code 104 47 = some (.if_icmp .ne 10, 3, 57, 0, []) := rfl
theorem rw_104_50 : mm_code 104 50 = some (.aload_n 1, 1, 0, 0, []) := rfl
theorem rw_104_51 : mm_code 104 51 = some (.iconst 3, 1, 3, 0, []) := rfl
theorem rw_104_52 : mm_code 104 52 = some (.iload_n 3, 1, 0, 0, []) := rfl
theorem rw_104_53 : mm_code 104 53 = some (.invokevirtual 130, 3, 85, 3, [38, 0]) := rfl
theorem rw_104_56 : mm_code 104 56 = some (.ireturn, 1, 1, 0, []) := rfl
theorem rw_104_57 : mm_code 104 57 = some (.aload_n 1, 1, 0, 0, []) := rfl
theorem rw_104_58 : mm_code 104 58 = some (.bipush 59, 2, 59, 0, []) := rfl
theorem rw_104_60 : mm_code 104 60 = some (.invokevirtual 90, 3, 90, 2, [27, 0]) := rfl
theorem rw_104_63 : mm_code 104 63 = some (.ireturn, 1, 1, 0, []) := rfl
theorem rw_105_0 : mm_code 105 0 = some (.aload_n 1, 1, 0, 0, []) := rfl
theorem rw_105_1 : mm_code 105 1 = some (.iconst 0, 1, 0, 0, []) := rfl
theorem rw_105_2 : mm_code 105 2 = some (.bipush 99, 2, 99, 0, []) := rfl
theorem rw_105_4 : mm_code 105 4 = some (.invokevirtual 123, 3, 88, 3, [36, 0]) := rfl
theorem rw_105_7 : mm_code 105 7 = some (.ifCond .ne 5, 3, 12, 0, []) := rfl
theorem rw_105_10 : mm_code 105 10 = some (.iconst 0, 1, 0, 0, []) := rfl
theorem rw_105_11 : mm_code 105 11 = some (.ireturn, 1, 1, 0, []) := rfl
theorem rw_105_12 : mm_code 105 12 = some (.aload_n 0, 1, 0, 0, []) := rfl
theorem rw_105_13 : mm_code 105 13 = some (.getfield 28, 3, 9, 5, [3, 6]) := rfl
theorem rw_105_16 : mm_code 105 16 = some (.iload 5, 2, 0, 0, []) := rfl
theorem rw_105_18 : mm_code 105 18 = some (.aload_n 1, 1, 0, 0, []) := rfl
theorem rw_105_19 : mm_code 105 19 = some (.getfield 54, 3, 8, 8, [0, 13]) := rfl
theorem rw_105_22 : mm_code 105 22 = some (.iastore, 1, 0, 0, []) := rfl
theorem rw_105_23 : mm_code 105 23 = some (.aload_n 1, 1, 0, 0, []) := rfl
theorem rw_105_24 : mm_code 105 24 = some (.invokevirtual 64, 3, 83, 1, [18, 0]) := rfl
theorem rw_105_27 : mm_code 105 27 = some (.aload_n 1, 1, 0, 0, []) := rfl
theorem rw_105_28 : mm_code 105 28 = some (.getfield 48, 3, 8, 7, [0, 11]) := rfl
theorem rw_105_31 : mm_code 105 31 = some (.bipush 40, 2, 40, 0, []) := rfl
theorem rw_105_33 : mm_code 105 33 = some (.if_icmp .ne 15, 3, 48, 0, []) := rfl
theorem rw_105_36 : mm_code 105 36 = some (.iload 4, 2, 0, 0, []) := rfl
theorem rw_105_38 : mm_code 105 38 = some (.iconst 5, 1, 5, 0, []) := rfl
theorem rw_105_39 : mm_code 105 39 = some (.if_icmp .lt 9, 3, 48, 0, []) := rfl
theorem rw_105_42 : mm_code 105 42 = some (.aload_n 1, 1, 0, 0, []) := rfl
theorem rw_105_43 : mm_code 105 43 = some (.iconst 2, 1, 2, 0, []) := rfl
theorem rw_105_44 : mm_code 105 44 = some (.invokevirtual 60, 3, 84, 2, [17, 0]) := rfl
theorem rw_105_47 : mm_code 105 47 = some (.ireturn, 1, 1, 0, []) := rfl
theorem rw_105_48 : mm_code 105 48 = some (.aload_n 1, 1, 0, 0, []) := rfl
theorem rw_105_49 : mm_code 105 49 = some (.bipush 40, 2, 40, 0, []) := rfl
theorem rw_105_51 : mm_code 105 51 = some (.invokevirtual 90, 3, 90, 2, [27, 0]) := rfl
theorem rw_105_54 : mm_code 105 54 = some (.ifCond .eq 30, 3, 84, 0, []) := rfl
theorem rw_105_57 : mm_code 105 57 = some (.aload_n 0, 1, 0, 0, []) := rfl
theorem rw_105_58 : mm_code 105 58 = some (.aload_n 1, 1, 0, 0, []) := rfl
theorem rw_105_59 : mm_code 105 59 = some (.aload_n 2, 1, 0, 0, []) := rfl
theorem rw_105_60 : mm_code 105 60 = some (.aload_n 3, 1, 0, 0, []) := rfl
theorem rw_105_61 : mm_code 105 61 = some (.iload 4, 2, 0, 0, []) := rfl
theorem rw_105_63 : mm_code 105 63 = some (.iconst 1, 1, 1, 0, []) := rfl
theorem rw_105_64 : mm_code 105 64 = some (.iadd, 1, 0, 0, []) := rfl
theorem rw_105_65 : mm_code 105 65 = some (.invokevirtual 38, 3, 99, 5, [9, 0]) := rfl
theorem rw_105_68 : mm_code 105 68 = some (.ifCond .eq 16, 3, 84, 0, []) := rfl
theorem rw_105_71 : mm_code 105 71 = some (.aload_n 1, 1, 0, 0, []) := rfl
theorem rw_105_72 : mm_code 105 72 = some (.bipush 41, 2, 41, 0, []) := rfl
theorem rw_105_74 : mm_code 105 74 = some (.invokevirtual 90, 3, 90, 2, [27, 0]) := rfl
theorem rw_105_77 : mm_code 105 77 = some (.ifCond .eq 7, 3, 84, 0, []) := rfl
theorem rw_105_80 : mm_code 105 80 = some (.iconst 1, 1, 1, 0, []) := rfl
theorem rw_105_81 : mm_code 105 81 = some (.goto 4, 3, 85, 0, []) := rfl
theorem rw_105_84 : mm_code 105 84 = some (.iconst 0, 1, 0, 0, []) := rfl
theorem rw_105_85 : mm_code 105 85 = some (.ireturn, 1, 1, 0, []) := rfl
theorem rw_106_0 : mm_code 106 0 = some (.aload_n 0, 1, 0, 0, []) := rfl
theorem rw_106_1 : mm_code 106 1 = some (.iconst 0, 1, 0, 0, []) := rfl
theorem rw_106_2 : mm_code 106 2 = some (.putfield 133, 3, 9, 8, [0, 39]) := rfl
theorem rw_106_5 : mm_code 106 5 = some (.aload_n 0, 1, 0, 0, []) := rfl
theorem rw_106_6 : mm_code 106 6 = some (.iconst 0, 1, 0, 0, []) := rfl
theorem rw_106_7 : mm_code 106 7 = some (.putfield 136, 3, 9, 9, [0, 40]) := rfl
theorem rw_106_10 : mm_code 106 10 = some (.aload_n 0, 1, 0, 0, []) := rfl
theorem rw_106_11 : mm_code 106 11 = some (.iconst 0, 1, 0, 0, []) := rfl
theorem rw_106_12 : mm_code 106 12 = some (.putfield 139, 3, 9, 10, [1, 41]) := rfl
theorem rw_106_15 : mm_code 106 15 = some (.aload_n 0, 1, 0, 0, []) := rfl
theorem rw_106_16 : mm_code 106 16 = some (.aload_n 1, 1, 0, 0, []) := rfl
theorem rw_106_17 : mm_code 106 17 = some (.iconst 0, 1, 0, 0, []) := rfl
theorem rw_106_18 : mm_code 106 18 = some (.aload_n 0, 1, 0, 0, []) := rfl
theorem rw_106_19 : mm_code 106 19 = some (.getfield 34, 3, 9, 7, [0, 8]) := rfl
theorem rw_106_22 : mm_code 106 22 = some (.iconst 0, 1, 0, 0, []) := rfl
theorem rw_106_23 : mm_code 106 23 = some (.invokevirtual 143, 3, 107, 5, [42, 0]) := rfl
theorem rw_106_26 : mm_code 106 26 = some (.aload_n 0, 1, 0, 0, []) := rfl
theorem rw_106_27 : mm_code 106 27 = some (.getfield 139, 3, 9, 10, [1, 41]) := rfl
theorem rw_106_30 : mm_code 106 30 = some (.ifCond .ne 7, 3, 37, 0, []) := rfl
theorem rw_106_33 : mm_code 106 33 = some (.iconst 1, 1, 1, 0, []) := rfl
theorem rw_106_34 : mm_code 106 34 = some (.goto 4, 3, 38, 0, []) := rfl
theorem rw_106_37 : mm_code 106 37 = some (.iconst 0, 1, 0, 0, []) := rfl
theorem rw_106_38 : mm_code 106 38 = some (.ireturn, 1, 1, 0, []) := rfl
theorem rw_107_0 : mm_code 107 0 = some (.iload 4, 2, 0, 0, []) := rfl
theorem rw_107_2 : mm_code 107 2 = some (.iconst 5, 1, 5, 0, []) := rfl
theorem rw_107_3 : mm_code 107 3 = some (.if_icmp .le 4, 3, 7, 0, []) := rfl
theorem rw_107_6 : mm_code 107 6 = some (.return_, 1, 0, 0, []) := rfl
theorem rw_107_7 : mm_code 107 7 = some (.iload_n 2, 1, 0, 0, []) := rfl
theorem rw_107_8 : mm_code 107 8 = some (.istore 5, 2, 0, 0, []) := rfl
theorem rw_107_10 : mm_code 107 10 = some (.iload 5, 2, 0, 0, []) := rfl
theorem rw_107_12 : mm_code 107 12 = some (.iload_n 3, 1, 0, 0, []) := rfl
theorem rw_107_13 : mm_code 107 13 = some (.if_icmp .ge 73, 3, 86, 0, []) := rfl
theorem rw_107_16 : mm_code 107 16 = some (.iload 5, 2, 0, 0, []) := rfl
theorem rw_107_18 : mm_code 107 18 = some (.bipush 40, 2, 40, 0, []) := rfl
theorem rw_107_20 : mm_code 107 20 = some (.if_icmp .ge 66, 3, 86, 0, []) := rfl
theorem rw_107_23 : mm_code 107 23 = some (.aload_n 0, 1, 0, 0, []) := rfl
theorem rw_107_24 : mm_code 107 24 = some (.getfield 139, 3, 9, 10, [1, 41]) := rfl
theorem rw_107_27 : mm_code 107 27 = some (.ifCond .ne 59, 3, 86, 0, []) := rfl
theorem rw_107_30 : mm_code 107 30 = some (.aload_n 0, 1, 0, 0, []) := rfl
theorem rw_107_31 : mm_code 107 31 = some (.getfield 133, 3, 9, 8, [0, 39]) := rfl
theorem rw_107_34 : mm_code 107 34 = some (.sipush 3000, 3, 3000, 0, []) := rfl
theorem rw_107_37 : mm_code 107 37 = some (.if_icmp .lt 11, 3, 48, 0, []) := rfl
theorem rw_107_40 : mm_code 107 40 = some (.aload_n 0, 1, 0, 0, []) := rfl
theorem rw_107_41 : mm_code 107 41 = some (.iconst 1, 1, 1, 0, []) := rfl
theorem rw_107_42 : mm_code 107 42 = some (.putfield 139, 3, 9, 10, [1, 41]) := rfl
theorem rw_107_45 : mm_code 107 45 = some (.goto 22, 3, 67, 0, []) := rfl
theorem rw_107_48 : mm_code 107 48 = some (.aload_n 0, 1, 0, 0, []) := rfl
theorem rw_107_49 : mm_code 107 49 = some (.dup, 1, 0, 0, []) := rfl
theorem rw_107_50 : mm_code 107 50 = some (.getfield 133, 3, 9, 8, [0, 39]) := rfl
theorem rw_107_53 : mm_code 107 53 = some (.iconst 1, 1, 1, 0, []) := rfl
theorem rw_107_54 : mm_code 107 54 = some (.iadd, 1, 0, 0, []) := rfl
theorem rw_107_55 : mm_code 107 55 = some (.putfield 133, 3, 9, 8, [0, 39]) := rfl
theorem rw_107_58 : mm_code 107 58 = some (.aload_n 0, 1, 0, 0, []) := rfl
theorem rw_107_59 : mm_code 107 59 = some (.aload_n 1, 1, 0, 0, []) := rfl
theorem rw_107_60 : mm_code 107 60 = some (.iload 5, 2, 0, 0, []) := rfl
theorem rw_107_62 : mm_code 107 62 = some (.iload 4, 2, 0, 0, []) := rfl
theorem rw_107_64 : mm_code 107 64 = some (.invokevirtual 147, 3, 108, 4, [43, 0]) := rfl
theorem rw_107_67 : mm_code 107 67 = some (.iload 5, 2, 0, 0, []) := rfl
theorem rw_107_69 : mm_code 107 69 = some (.iconst 1, 1, 1, 0, []) := rfl
theorem rw_107_70 : mm_code 107 70 = some (.iadd, 1, 0, 0, []) := rfl
theorem rw_107_71 : mm_code 107 71 = some (.aload_n 0, 1, 0, 0, []) := rfl
theorem rw_107_72 : mm_code 107 72 = some (.getfield 31, 3, 9, 6, [3, 7]) := rfl
theorem rw_107_75 : mm_code 107 75 = some (.iload 5, 2, 0, 0, []) := rfl
theorem rw_107_77 : mm_code 107 77 = some (.iaload, 1, 0, 0, []) := rfl
theorem rw_107_78 : mm_code 107 78 = some (.invokestatic 151, 3, 997, 2, [44, 0]) := rfl
theorem rw_107_81 : mm_code 107 81 = some (.istore 5, 2, 0, 0, []) := rfl
theorem rw_107_83 : mm_code 107 83 = some (.goto (-73), 3, 10, 0, []) := rfl
theorem rw_107_86 : mm_code 107 86 = some (.return_, 1, 0, 0, []) := rfl
theorem rw_108_0 : mm_code 108 0 = some (.aload_n 0, 1, 0, 0, []) := rfl
theorem rw_108_1 : mm_code 108 1 = some (.getfield 9, 3, 9, 0, [3, 1]) := rfl
theorem rw_108_4 : mm_code 108 4 = some (.iload_n 2, 1, 0, 0, []) := rfl
theorem rw_108_5 : mm_code 108 5 = some (.iaload, 1, 0, 0, []) := rfl
theorem rw_108_6 : mm_code 108 6 = some (.ldc 57, 2, 538561536, 0, [14]) := rfl
theorem rw_108_8 : mm_code 108 8 = some (.if_icmp .ne 44, 3, 52, 0, []) := rfl
theorem rw_108_11 : mm_code 108 11 = some (.aload_n 0, 1, 0, 0, []) := rfl
theorem rw_108_12 : mm_code 108 12 = some (.dup, 1, 0, 0, []) := rfl
theorem rw_108_13 : mm_code 108 13 = some (.getfield 136, 3, 9, 9, [0, 40]) := rfl
theorem rw_108_16 : mm_code 108 16 = some (.iconst 1, 1, 1, 0, []) := rfl
theorem rw_108_17 : mm_code 108 17 = some (.iadd, 1, 0, 0, []) := rfl
theorem rw_108_18 : mm_code 108 18 = some (.putfield 136, 3, 9, 9, [0, 40]) := rfl
theorem rw_108_21 : mm_code 108 21 = some (.aload_n 1, 1, 0, 0, []) := rfl
theorem rw_108_22 : mm_code 108 22 = some (.aload_n 0, 1, 0, 0, []) := rfl
theorem rw_108_23 : mm_code 108 23 = some (.getfield 15, 3, 9, 1, [3, 2]) := rfl
theorem rw_108_26 : mm_code 108 26 = some (.iload_n 2, 1, 0, 0, []) := rfl
theorem rw_108_27 : mm_code 108 27 = some (.iaload, 1, 0, 0, []) := rfl
theorem rw_108_28 : mm_code 108 28 = some (.aload_n 0, 1, 0, 0, []) := rfl
theorem rw_108_29 : mm_code 108 29 = some (.getfield 18, 3, 9, 2, [3, 3]) := rfl
theorem rw_108_32 : mm_code 108 32 = some (.iload_n 2, 1, 0, 0, []) := rfl
theorem rw_108_33 : mm_code 108 33 = some (.iaload, 1, 0, 0, []) := rfl
theorem rw_108_34 : mm_code 108 34 = some (.aload_n 0, 1, 0, 0, []) := rfl
theorem rw_108_35 : mm_code 108 35 = some (.getfield 21, 3, 9, 3, [3, 4]) := rfl
theorem rw_108_38 : mm_code 108 38 = some (.iload_n 2, 1, 0, 0, []) := rfl
theorem rw_108_39 : mm_code 108 39 = some (.iaload, 1, 0, 0, []) := rfl
theorem rw_108_40 : mm_code 108 40 = some (.aload_n 0, 1, 0, 0, []) := rfl
theorem rw_108_41 : mm_code 108 41 = some (.getfield 24, 3, 9, 4, [3, 5]) := rfl
theorem rw_108_44 : mm_code 108 44 = some (.iload_n 2, 1, 0, 0, []) := rfl
theorem rw_108_45 : mm_code 108 45 = some (.laload, 1, 0, 0, []) := rfl
theorem rw_108_46 : mm_code 108 46 = some (.invokevirtual 157, 3, 28, 5, [45, 0]) := rfl
theorem rw_108_49 : mm_code 108 49 = some (.goto 84, 3, 133, 0, []) := rfl
theorem rw_108_52 : mm_code 108 52 = some (.aload_n 0, 1, 0, 0, []) := rfl
theorem rw_108_53 : mm_code 108 53 = some (.getfield 9, 3, 9, 0, [3, 1]) := rfl
theorem rw_108_56 : mm_code 108 56 = some (.iload_n 2, 1, 0, 0, []) := rfl
theorem rw_108_57 : mm_code 108 57 = some (.iaload, 1, 0, 0, []) := rfl
theorem rw_108_58 : mm_code 108 58 = some (.ldc 58, 2, 351582208, 0, [15]) := rfl
theorem rw_108_60 : mm_code 108 60 = some (.if_icmp .ne 29, 3, 89, 0, []) := rfl
theorem rw_108_63 : mm_code 108 63 = some (.aload_n 1, 1, 0, 0, []) := rfl
theorem rw_108_64 : mm_code 108 64 = some (.aload_n 0, 1, 0, 0, []) := rfl
theorem rw_108_65 : mm_code 108 65 = some (.getfield 15, 3, 9, 1, [3, 2]) := rfl
theorem rw_108_68 : mm_code 108 68 = some (.iload_n 2, 1, 0, 0, []) := rfl
theorem rw_108_69 : mm_code 108 69 = some (.iaload, 1, 0, 0, []) := rfl
theorem rw_108_70 : mm_code 108 70 = some (.aload_n 0, 1, 0, 0, []) := rfl
theorem rw_108_71 : mm_code 108 71 = some (.getfield 18, 3, 9, 2, [3, 3]) := rfl
theorem rw_108_74 : mm_code 108 74 = some (.iload_n 2, 1, 0, 0, []) := rfl
theorem rw_108_75 : mm_code 108 75 = some (.iaload, 1, 0, 0, []) := rfl
theorem rw_108_76 : mm_code 108 76 = some (.aload_n 0, 1, 0, 0, []) := rfl
theorem rw_108_77 : mm_code 108 77 = some (.getfield 18, 3, 9, 2, [3, 3]) := rfl
theorem rw_108_80 : mm_code 108 80 = some (.iload_n 2, 1, 0, 0, []) := rfl
theorem rw_108_81 : mm_code 108 81 = some (.iaload, 1, 0, 0, []) := rfl
theorem rw_108_82 : mm_code 108 82 = some (.lconst 0, 1, 0, 0, []) := rfl
theorem rw_108_83 : mm_code 108 83 = some (.invokevirtual 157, 3, 28, 5, [45, 0]) := rfl
theorem rw_108_86 : mm_code 108 86 = some (.goto 47, 3, 133, 0, []) := rfl
theorem rw_108_89 : mm_code 108 89 = some (.iconst 0, 1, 0, 0, []) := rfl
theorem rw_108_90 : mm_code 108 90 = some (.istore 4, 2, 0, 0, []) := rfl
theorem rw_108_92 : mm_code 108 92 = some (.iload 4, 2, 0, 0, []) := rfl
theorem rw_108_94 : mm_code 108 94 = some (.aload_n 0, 1, 0, 0, []) := rfl
theorem rw_108_95 : mm_code 108 95 = some (.getfield 28, 3, 9, 5, [3, 6]) := rfl
theorem rw_108_98 : mm_code 108 98 = some (.iload_n 2, 1, 0, 0, []) := rfl
theorem rw_108_99 : mm_code 108 99 = some (.iaload, 1, 0, 0, []) := rfl
theorem rw_108_100 : mm_code 108 100 = some (.if_icmp .ge 33, 3, 133, 0, []) := rfl
theorem rw_108_103 : mm_code 108 103 = some (.aload_n 0, 1, 0, 0, []) := rfl
theorem rw_108_104 : mm_code 108 104 = some (.getfield 139, 3, 9, 10, [1, 41]) := rfl
theorem rw_108_107 : mm_code 108 107 = some (.ifCond .ne 26, 3, 133, 0, []) := rfl
theorem rw_108_110 : mm_code 108 110 = some (.aload_n 0, 1, 0, 0, []) := rfl
theorem rw_108_111 : mm_code 108 111 = some (.aload_n 1, 1, 0, 0, []) := rfl
theorem rw_108_112 : mm_code 108 112 = some (.iload_n 2, 1, 0, 0, []) := rfl
theorem rw_108_113 : mm_code 108 113 = some (.iconst 1, 1, 1, 0, []) := rfl
theorem rw_108_114 : mm_code 108 114 = some (.iadd, 1, 0, 0, []) := rfl
theorem rw_108_115 : mm_code 108 115 = some (.aload_n 0, 1, 0, 0, []) := rfl
theorem rw_108_116 : mm_code 108 116 = some (.getfield 31, 3, 9, 6, [3, 7]) := rfl
theorem rw_108_119 : mm_code 108 119 = some (.iload_n 2, 1, 0, 0, []) := rfl
theorem rw_108_120 : mm_code 108 120 = some (.iaload, 1, 0, 0, []) := rfl
theorem rw_108_121 : mm_code 108 121 = some (.iload_n 3, 1, 0, 0, []) := rfl
theorem rw_108_122 : mm_code 108 122 = some (.iconst 1, 1, 1, 0, []) := rfl
theorem rw_108_123 : mm_code 108 123 = some (.iadd, 1, 0, 0, []) := rfl
theorem rw_108_124 : mm_code 108 124 = some (.invokevirtual 143, 3, 107, 5, [42, 0]) := rfl
theorem rw_108_127 : mm_code 108 127 = some (.iinc 4 1, 3, 1, 0, []) := rfl
theorem rw_108_130 : mm_code 108 130 = some (.goto (-38), 3, 92, 0, []) := rfl
theorem rw_108_133 : mm_code 108 133 = some (.return_, 1, 0, 0, []) := rfl
theorem rw_110_0 : mm_code 110 0 = some (.aload_n 0, 1, 0, 0, []) := rfl
theorem rw_110_1 : mm_code 110 1 = some (.getfield 10, 3, 10, 0, [3, 2]) := rfl
theorem rw_110_4 : mm_code 110 4 = some (.getfield 89, 3, 8, 1, [0, 24]) := rfl
theorem rw_110_7 : mm_code 110 7 = some (.sipush 480, 3, 480, 0, []) := rfl
theorem rw_110_10 : mm_code 110 10 = some (.if_icmp .le 5, 3, 15, 0, []) := rfl
theorem rw_110_13 : mm_code 110 13 = some (.iconst (-1), 1, 1, 1, []) := rfl
theorem rw_110_14 : mm_code 110 14 = some (.ireturn, 1, 0, 0, []) := rfl
theorem rw_110_15 : mm_code 110 15 = some (.aload_n 0, 1, 0, 0, []) := rfl
theorem rw_110_16 : mm_code 110 16 = some (.getfield 10, 3, 10, 0, [3, 2]) := rfl
theorem rw_110_19 : mm_code 110 19 = some (.iload_n 1, 1, 0, 0, []) := rfl
theorem rw_110_20 : mm_code 110 20 = some (.invokevirtual 92, 3, 77, 2, [25, 0]) := rfl
theorem rw_110_23 : mm_code 110 23 = some (.aload_n 0, 1, 0, 0, []) := rfl
theorem rw_110_24 : mm_code 110 24 = some (.getfield 10, 3, 10, 0, [3, 2]) := rfl
theorem rw_110_27 : mm_code 110 27 = some (.iload_n 2, 1, 0, 0, []) := rfl
theorem rw_110_28 : mm_code 110 28 = some (.invokevirtual 92, 3, 77, 2, [25, 0]) := rfl
theorem rw_110_31 : mm_code 110 31 = some (.aload_n 0, 1, 0, 0, []) := rfl
theorem rw_110_32 : mm_code 110 32 = some (.getfield 10, 3, 10, 0, [3, 2]) := rfl
theorem rw_110_35 : mm_code 110 35 = some (.iload_n 3, 1, 0, 0, []) := rfl
theorem rw_110_36 : mm_code 110 36 = some (.invokevirtual 92, 3, 77, 2, [25, 0]) := rfl
theorem rw_110_39 : mm_code 110 39 = some (.aload_n 0, 1, 0, 0, []) := rfl
theorem rw_110_40 : mm_code 110 40 = some (.getfield 10, 3, 10, 0, [3, 2]) := rfl
theorem rw_110_43 : mm_code 110 43 = some (.iload 4, 2, 0, 0, []) := rfl
theorem rw_110_45 : mm_code 110 45 = some (.invokevirtual 92, 3, 77, 2, [25, 0]) := rfl
theorem rw_110_48 : mm_code 110 48 = some (.aload_n 0, 1, 0, 0, []) := rfl
theorem rw_110_49 : mm_code 110 49 = some (.getfield 10, 3, 10, 0, [3, 2]) := rfl
theorem rw_110_52 : mm_code 110 52 = some (.iload 5, 2, 0, 0, []) := rfl
theorem rw_110_54 : mm_code 110 54 = some (.invokevirtual 92, 3, 77, 2, [25, 0]) := rfl
theorem rw_110_57 : mm_code 110 57 = some (.aload_n 0, 1, 0, 0, []) := rfl
theorem rw_110_58 : mm_code 110 58 = some (.getfield 10, 3, 10, 0, [3, 2]) := rfl
theorem rw_110_61 : mm_code 110 61 = some (.getfield 89, 3, 8, 1, [0, 24]) := rfl
theorem rw_110_64 : mm_code 110 64 = some (.ireturn, 1, 0, 0, []) := rfl
theorem rw_111_0 : mm_code 111 0 = some (.aload_n 0, 1, 0, 0, []) := rfl
theorem rw_111_1 : mm_code 111 1 = some (.getfield 10, 3, 10, 0, [3, 2]) := rfl
theorem rw_111_4 : mm_code 111 4 = some (.iload_n 1, 1, 0, 0, []) := rfl
theorem rw_111_5 : mm_code 111 5 = some (.invokevirtual 96, 3, 78, 2, [26, 0]) := rfl
theorem rw_111_8 : mm_code 111 8 = some (.ifCond .ne 6, 3, 14, 0, []) := rfl
theorem rw_111_11 : mm_code 111 11 = some (.bipush (-2), 2, 2, 1, []) := rfl
theorem rw_111_13 : mm_code 111 13 = some (.ireturn, 1, 0, 0, []) := rfl
theorem rw_111_14 : mm_code 111 14 = some (.aload_n 0, 1, 0, 0, []) := rfl
theorem rw_111_15 : mm_code 111 15 = some (.getfield 72, 3, 10, 9, [3, 19]) := rfl
theorem rw_111_18 : mm_code 111 18 = some (.aload_n 0, 1, 0, 0, []) := rfl
theorem rw_111_19 : mm_code 111 19 = some (.getfield 10, 3, 10, 0, [3, 2]) := rfl
theorem rw_111_22 : mm_code 111 22 = some (.invokevirtual 100, 3, 30, 2, [27, 0]) := rfl
theorem rw_111_25 : mm_code 111 25 = some (.ifCond .ne 5, 3, 30, 0, []) := rfl
theorem rw_111_28 : mm_code 111 28 = some (.iconst (-1), 1, 1, 1, []) := rfl
theorem rw_111_29 : mm_code 111 29 = some (.ireturn, 1, 0, 0, []) := rfl
theorem rw_111_30 : mm_code 111 30 = some (.aload_n 0, 1, 0, 0, []) := rfl
theorem rw_111_31 : mm_code 111 31 = some (.getfield 68, 3, 10, 8, [3, 18]) := rfl
theorem rw_111_34 : mm_code 111 34 = some (.astore_n 2, 1, 0, 0, []) := rfl
theorem rw_111_35 : mm_code 111 35 = some (.aload_n 0, 1, 0, 0, []) := rfl
theorem rw_111_36 : mm_code 111 36 = some (.aload_n 0, 1, 0, 0, []) := rfl
theorem rw_111_37 : mm_code 111 37 = some (.getfield 72, 3, 10, 9, [3, 19]) := rfl
theorem rw_111_40 : mm_code 111 40 = some (.putfield 68, 3, 10, 8, [3, 18]) := rfl
theorem rw_111_43 : mm_code 111 43 = some (.aload_n 0, 1, 0, 0, []) := rfl
theorem rw_111_44 : mm_code 111 44 = some (.aload_n 2, 1, 0, 0, []) := rfl
theorem rw_111_45 : mm_code 111 45 = some (.putfield 72, 3, 10, 9, [3, 19]) := rfl
theorem rw_111_48 : mm_code 111 48 = some (.aload_n 0, 1, 0, 0, []) := rfl
theorem rw_111_49 : mm_code 111 49 = some (.iconst 0, 1, 0, 0, []) := rfl
theorem rw_111_50 : mm_code 111 50 = some (.putfield 85, 3, 10, 12, [0, 23]) := rfl
theorem rw_111_53 : mm_code 111 53 = some (.aload_n 0, 1, 0, 0, []) := rfl
theorem rw_111_54 : mm_code 111 54 = some (.getfield 19, 3, 10, 1, [3, 4]) := rfl
theorem rw_111_57 : mm_code 111 57 = some (.iconst 0, 1, 0, 0, []) := rfl
theorem rw_111_58 : mm_code 111 58 = some (.putfield 104, 3, 3, 0, [0, 28]) := rfl
theorem rw_111_61 : mm_code 111 61 = some (.aload_n 0, 1, 0, 0, []) := rfl
theorem rw_111_62 : mm_code 111 62 = some (.getfield 78, 3, 10, 10, [3, 21]) := rfl
theorem rw_111_65 : mm_code 111 65 = some (.invokevirtual 107, 3, 56, 1, [29, 0]) := rfl
theorem rw_111_68 : mm_code 111 68 = some (.aload_n 0, 1, 0, 0, []) := rfl
theorem rw_111_69 : mm_code 111 69 = some (.getfield 33, 3, 10, 3, [3, 8]) := rfl
theorem rw_111_72 : mm_code 111 72 = some (.invokevirtual 110, 3, 22, 1, [30, 0]) := rfl
theorem rw_111_75 : mm_code 111 75 = some (.aload_n 0, 1, 0, 0, []) := rfl
theorem rw_111_76 : mm_code 111 76 = some (.getfield 68, 3, 10, 8, [3, 18]) := rfl
theorem rw_111_79 : mm_code 111 79 = some (.getfield 111, 3, 5, 1, [0, 31]) := rfl
theorem rw_111_82 : mm_code 111 82 = some (.ireturn, 1, 0, 0, []) := rfl
theorem rw_112_0 : mm_code 112 0 = some (.aload_n 0, 1, 0, 0, []) := rfl
theorem rw_112_1 : mm_code 112 1 = some (.getfield 10, 3, 10, 0, [3, 2]) := rfl
theorem rw_112_4 : mm_code 112 4 = some (.iload_n 1, 1, 0, 0, []) := rfl
theorem rw_112_5 : mm_code 112 5 = some (.invokevirtual 96, 3, 78, 2, [26, 0]) := rfl
theorem rw_112_8 : mm_code 112 8 = some (.ifCond .ne 6, 3, 14, 0, []) := rfl
theorem rw_112_11 : mm_code 112 11 = some (.bipush (-2), 2, 2, 1, []) := rfl
theorem rw_112_13 : mm_code 112 13 = some (.ireturn, 1, 0, 0, []) := rfl
theorem rw_112_14 : mm_code 112 14 = some (.aload_n 0, 1, 0, 0, []) := rfl
theorem rw_112_15 : mm_code 112 15 = some (.invokevirtual 114, 3, 142, 1, [32, 0]) := rfl
theorem rw_112_18 : mm_code 112 18 = some (.aload_n 0, 1, 0, 0, []) := rfl
theorem rw_112_19 : mm_code 112 19 = some (.getfield 40, 3, 10, 4, [3, 10]) := rfl
theorem rw_112_22 : mm_code 112 22 = some (.aload_n 0, 1, 0, 0, []) := rfl
theorem rw_112_23 : mm_code 112 23 = some (.getfield 10, 3, 10, 0, [3, 2]) := rfl
theorem rw_112_26 : mm_code 112 26 = some (.aload_n 0, 1, 0, 0, []) := rfl
theorem rw_112_27 : mm_code 112 27 = some (.getfield 68, 3, 10, 8, [3, 18]) := rfl
theorem rw_112_30 : mm_code 112 30 = some (.aload_n 0, 1, 0, 0, []) := rfl
theorem rw_112_31 : mm_code 112 31 = some (.getfield 26, 3, 10, 2, [3, 6]) := rfl
theorem rw_112_34 : mm_code 112 34 = some (.invokevirtual 117, 3, 98, 4, [33, 0]) := rfl
theorem rw_112_37 : mm_code 112 37 = some (.ifCond .ne 5, 3, 42, 0, []) := rfl
theorem rw_112_40 : mm_code 112 40 = some (.iconst (-1), 1, 1, 1, []) := rfl
theorem rw_112_41 : mm_code 112 41 = some (.ireturn, 1, 0, 0, []) := rfl
theorem rw_112_42 : mm_code 112 42 = some (.aload_n 0, 1, 0, 0, []) := rfl
theorem rw_112_43 : mm_code 112 43 = some (.getfield 33, 3, 10, 3, [3, 8]) := rfl
theorem rw_112_46 : mm_code 112 46 = some (.aload_n 0, 1, 0, 0, []) := rfl
theorem rw_112_47 : mm_code 112 47 = some (.getfield 26, 3, 10, 2, [3, 6]) := rfl
theorem rw_112_50 : mm_code 112 50 = some (.aload_n 0, 1, 0, 0, []) := rfl
theorem rw_112_51 : mm_code 112 51 = some (.getfield 68, 3, 10, 8, [3, 18]) := rfl
theorem rw_112_54 : mm_code 112 54 = some (.getfield 120, 3, 5, 0, [0, 34]) := rfl
theorem rw_112_57 : mm_code 112 57 = some (.invokevirtual 123, 3, 24, 3, [35, 0]) := rfl
theorem rw_112_60 : mm_code 112 60 = some (.aload_n 0, 1, 0, 0, []) := rfl
theorem rw_112_61 : mm_code 112 61 = some (.getfield 40, 3, 10, 4, [3, 10]) := rfl
theorem rw_112_64 : mm_code 112 64 = some (.aload_n 0, 1, 0, 0, []) := rfl
theorem rw_112_65 : mm_code 112 65 = some (.getfield 33, 3, 10, 3, [3, 8]) := rfl
theorem rw_112_68 : mm_code 112 68 = some (.invokevirtual 127, 3, 106, 2, [36, 0]) := rfl
theorem rw_112_71 : mm_code 112 71 = some (.ifCond .eq 7, 3, 78, 0, []) := rfl
theorem rw_112_74 : mm_code 112 74 = some (.iconst 0, 1, 0, 0, []) := rfl
theorem rw_112_75 : mm_code 112 75 = some (.goto 4, 3, 79, 0, []) := rfl
theorem rw_112_78 : mm_code 112 78 = some (.iconst 1, 1, 1, 0, []) := rfl
theorem rw_112_79 : mm_code 112 79 = some (.ireturn, 1, 0, 0, []) := rfl
theorem rw_113_0 : mm_code 113 0 = some (.aload_n 0, 1, 0, 0, []) := rfl
theorem rw_113_1 : mm_code 113 1 = some (.getfield 10, 3, 10, 0, [3, 2]) := rfl
theorem rw_113_4 : mm_code 113 4 = some (.iload_n 1, 1, 0, 0, []) := rfl
theorem rw_113_5 : mm_code 113 5 = some (.invokevirtual 96, 3, 78, 2, [26, 0]) := rfl
theorem rw_113_8 : mm_code 113 8 = some (.ifCond .ne 6, 3, 14, 0, []) := rfl
theorem rw_113_11 : mm_code 113 11 = some (.bipush (-2), 2, 2, 1, []) := rfl
theorem rw_113_13 : mm_code 113 13 = some (.ireturn, 1, 0, 0, []) := rfl
theorem rw_113_14 : mm_code 113 14 = some (.aload_n 0, 1, 0, 0, []) := rfl
theorem rw_113_15 : mm_code 113 15 = some (.getfield 82, 3, 10, 11, [3, 22]) := rfl
theorem rw_113_18 : mm_code 113 18 = some (.aload_n 0, 1, 0, 0, []) := rfl
theorem rw_113_19 : mm_code 113 19 = some (.getfield 10, 3, 10, 0, [3, 2]) := rfl
theorem rw_113_22 : mm_code 113 22 = some (.aload_n 0, 1, 0, 0, []) := rfl
theorem rw_113_23 : mm_code 113 23 = some (.getfield 68, 3, 10, 8, [3, 18]) := rfl
theorem rw_113_26 : mm_code 113 26 = some (.invokevirtual 131, 3, 57, 3, [37, 0]) := rfl
theorem rw_113_29 : mm_code 113 29 = some (.ifCond .ne 5, 3, 34, 0, []) := rfl
theorem rw_113_32 : mm_code 113 32 = some (.iconst (-1), 1, 1, 1, []) := rfl
theorem rw_113_33 : mm_code 113 33 = some (.ireturn, 1, 0, 0, []) := rfl
theorem rw_113_34 : mm_code 113 34 = some (.aload_n 0, 1, 0, 0, []) := rfl
theorem rw_113_35 : mm_code 113 35 = some (.getfield 78, 3, 10, 10, [3, 21]) := rfl
theorem rw_113_38 : mm_code 113 38 = some (.astore_n 2, 1, 0, 0, []) := rfl
theorem rw_113_39 : mm_code 113 39 = some (.aload_n 0, 1, 0, 0, []) := rfl
theorem rw_113_40 : mm_code 113 40 = some (.aload_n 0, 1, 0, 0, []) := rfl
theorem rw_113_41 : mm_code 113 41 = some (.getfield 82, 3, 10, 11, [3, 22]) := rfl
theorem rw_113_44 : mm_code 113 44 = some (.putfield 78, 3, 10, 10, [3, 21]) := rfl
theorem rw_113_47 : mm_code 113 47 = some (.aload_n 0, 1, 0, 0, []) := rfl
theorem rw_113_48 : mm_code 113 48 = some (.aload_n 2, 1, 0, 0, []) := rfl
theorem rw_113_49 : mm_code 113 49 = some (.putfield 82, 3, 10, 11, [3, 22]) := rfl
theorem rw_113_52 : mm_code 113 52 = some (.aload_n 0, 1, 0, 0, []) := rfl
theorem rw_113_53 : mm_code 113 53 = some (.getfield 78, 3, 10, 10, [3, 21]) := rfl
theorem rw_113_56 : mm_code 113 56 = some (.getfield 134, 3, 6, 4, [0, 38]) := rfl
theorem rw_113_59 : mm_code 113 59 = some (.ireturn, 1, 0, 0, []) := rfl
theorem rw_114_0 : mm_code 114 0 = some (.iload_n 1, 1, 0, 0, []) := rfl
theorem rw_114_1 : mm_code 114 1 = some (.ifCond .ne 11, 3, 12, 0, []) := rfl
theorem rw_114_4 : mm_code 114 4 = some (.aload_n 0, 1, 0, 0, []) := rfl
theorem rw_114_5 : mm_code 114 5 = some (.getfield 10, 3, 10, 0, [3, 2]) := rfl
theorem rw_114_8 : mm_code 114 8 = some (.getfield 137, 3, 8, 10, [0, 39]) := rfl
theorem rw_114_11 : mm_code 114 11 = some (.ireturn, 1, 0, 0, []) := rfl
theorem rw_114_12 : mm_code 114 12 = some (.iload_n 1, 1, 0, 0, []) := rfl
theorem rw_114_13 : mm_code 114 13 = some (.iconst 1, 1, 1, 0, []) := rfl
theorem rw_114_14 : mm_code 114 14 = some (.if_icmp .ne 13, 3, 27, 0, []) := rfl
theorem rw_114_17 : mm_code 114 17 = some (.aload_n 0, 1, 0, 0, []) := rfl
theorem rw_114_18 : mm_code 114 18 = some (.getfield 10, 3, 10, 0, [3, 2]) := rfl
theorem rw_114_21 : mm_code 114 21 = some (.getfield 140, 3, 8, 11, [0, 40]) := rfl
theorem rw_114_24 : mm_code 114 24 = some (.goto 4, 3, 28, 0, []) := rfl
theorem rw_114_27 : mm_code 114 27 = some (.iconst (-1), 1, 1, 1, []) := rfl
theorem rw_114_28 : mm_code 114 28 = some (.ireturn, 1, 0, 0, []) := rfl
theorem rw_115_0 : mm_code 115 0 = some (.iload_n 1, 1, 0, 0, []) := rfl
theorem rw_115_1 : mm_code 115 1 = some (.ifCond .ne 12, 3, 13, 0, []) := rfl
theorem rw_115_4 : mm_code 115 4 = some (.aload_n 0, 1, 0, 0, []) := rfl
theorem rw_115_5 : mm_code 115 5 = some (.getfield 68, 3, 10, 8, [3, 18]) := rfl
theorem rw_115_8 : mm_code 115 8 = some (.iload_n 2, 1, 0, 0, []) := rfl
theorem rw_115_9 : mm_code 115 9 = some (.invokevirtual 143, 3, 52, 2, [41, 0]) := rfl
theorem rw_115_12 : mm_code 115 12 = some (.ireturn, 1, 0, 0, []) := rfl
theorem rw_115_13 : mm_code 115 13 = some (.iload_n 1, 1, 0, 0, []) := rfl
theorem rw_115_14 : mm_code 115 14 = some (.iconst 1, 1, 1, 0, []) := rfl
theorem rw_115_15 : mm_code 115 15 = some (.if_icmp .ne 14, 3, 29, 0, []) := rfl
theorem rw_115_18 : mm_code 115 18 = some (.aload_n 0, 1, 0, 0, []) := rfl
theorem rw_115_19 : mm_code 115 19 = some (.getfield 68, 3, 10, 8, [3, 18]) := rfl
theorem rw_115_22 : mm_code 115 22 = some (.iload_n 2, 1, 0, 0, []) := rfl
theorem rw_115_23 : mm_code 115 23 = some (.invokevirtual 147, 3, 53, 2, [42, 0]) := rfl
theorem rw_115_26 : mm_code 115 26 = some (.goto 4, 3, 30, 0, []) := rfl
theorem rw_115_29 : mm_code 115 29 = some (.iconst (-1), 1, 1, 1, []) := rfl
theorem rw_115_30 : mm_code 115 30 = some (.ireturn, 1, 0, 0, []) := rfl
theorem rw_116_0 : mm_code 116 0 = some (.aload_n 0, 1, 0, 0, []) := rfl
theorem rw_116_1 : mm_code 116 1 = some (.getfield 68, 3, 10, 8, [3, 18]) := rfl
theorem rw_116_4 : mm_code 116 4 = some (.iload_n 1, 1, 0, 0, []) := rfl
theorem rw_116_5 : mm_code 116 5 = some (.iload_n 2, 1, 0, 0, []) := rfl
theorem rw_116_6 : mm_code 116 6 = some (.invokevirtual 178, 3, 49, 3, [43, 0]) := rfl
theorem rw_116_9 : mm_code 116 9 = some (.lreturn, 1, 0, 0, []) := rfl
theorem rw_117_0 : mm_code 117 0 = some (.aload_n 0, 1, 0, 0, []) := rfl
theorem rw_117_1 : mm_code 117 1 = some (.iload_n 1, 1, 0, 0, []) := rfl
theorem rw_117_2 : mm_code 117 2 = some (.invokevirtual 182, 3, 139, 2, [44, 0]) := rfl
theorem rw_117_5 : mm_code 117 5 = some (.ifCond .eq 14, 3, 19, 0, []) := rfl
theorem rw_117_8 : mm_code 117 8 = some (.aload_n 0, 1, 0, 0, []) := rfl
theorem rw_117_9 : mm_code 117 9 = some (.getfield 68, 3, 10, 8, [3, 18]) := rfl
theorem rw_117_12 : mm_code 117 12 = some (.iload_n 2, 1, 0, 0, []) := rfl
theorem rw_117_13 : mm_code 117 13 = some (.invokevirtual 185, 3, 44, 2, [45, 0]) := rfl
theorem rw_117_16 : mm_code 117 16 = some (.ifCond .ne 5, 3, 21, 0, []) := rfl
theorem rw_117_19 : mm_code 117 19 = some (.lconst 0, 1, 0, 0, []) := rfl
theorem rw_117_20 : mm_code 117 20 = some (.lreturn, 1, 0, 0, []) := rfl
theorem rw_117_21 : mm_code 117 21 = some (.aload_n 0, 1, 0, 0, []) := rfl
theorem rw_117_22 : mm_code 117 22 = some (.iload_n 1, 1, 0, 0, []) := rfl
theorem rw_117_23 : mm_code 117 23 = some (.invokevirtual 188, 3, 141, 2, [46, 0]) := rfl
theorem rw_117_26 : mm_code 117 26 = some (.aload_n 0, 1, 0, 0, []) := rfl
theorem rw_117_27 : mm_code 117 27 = some (.getfield 26, 3, 10, 2, [3, 6]) := rfl
theorem rw_117_30 : mm_code 117 30 = some (.getfield 191, 3, 1, 3, [3, 47]) := rfl
theorem rw_117_33 : mm_code 117 33 = some (.iload_n 2, 1, 0, 0, []) := rfl
theorem rw_117_34 : mm_code 117 34 = some (.laload, 1, 0, 0, []) := rfl
theorem rw_117_35 : mm_code 117 35 = some (.lreturn, 1, 0, 0, []) := rfl
theorem rw_118_0 : mm_code 118 0 = some (.aload_n 0, 1, 0, 0, []) := rfl
theorem rw_118_1 : mm_code 118 1 = some (.getfield 85, 3, 10, 12, [0, 23]) := rfl
theorem rw_118_4 : mm_code 118 4 = some (.bipush 30, 2, 30, 0, []) := rfl
theorem rw_118_6 : mm_code 118 6 = some (.if_icmp .lt 5, 3, 11, 0, []) := rfl
theorem rw_118_9 : mm_code 118 9 = some (.iconst (-1), 1, 1, 1, []) := rfl
theorem rw_118_10 : mm_code 118 10 = some (.ireturn, 1, 0, 0, []) := rfl
theorem rw_118_11 : mm_code 118 11 = some (.aload_n 0, 1, 0, 0, []) := rfl
theorem rw_118_12 : mm_code 118 12 = some (.getfield 33, 3, 10, 3, [3, 8]) := rfl
theorem rw_118_15 : mm_code 118 15 = some (.iconst 0, 1, 0, 0, []) := rfl
theorem rw_118_16 : mm_code 118 16 = some (.aload_n 0, 1, 0, 0, []) := rfl
theorem rw_118_17 : mm_code 118 17 = some (.getfield 85, 3, 10, 12, [0, 23]) := rfl
theorem rw_118_20 : mm_code 118 20 = some (.invokevirtual 195, 3, 23, 3, [48, 0]) := rfl
theorem rw_118_23 : mm_code 118 23 = some (.aload_n 0, 1, 0, 0, []) := rfl
theorem rw_118_24 : mm_code 118 24 = some (.dup, 1, 0, 0, []) := rfl
theorem rw_118_25 : mm_code 118 25 = some (.getfield 85, 3, 10, 12, [0, 23]) := rfl
theorem rw_118_28 : mm_code 118 28 = some (.iconst 1, 1, 1, 0, []) := rfl
theorem rw_118_29 : mm_code 118 29 = some (.iadd, 1, 0, 0, []) := rfl
theorem rw_118_30 : mm_code 118 30 = some (.putfield 85, 3, 10, 12, [0, 23]) := rfl
theorem rw_118_33 : mm_code 118 33 = some (.aload_n 0, 1, 0, 0, []) := rfl
theorem rw_118_34 : mm_code 118 34 = some (.getfield 85, 3, 10, 12, [0, 23]) := rfl
theorem rw_118_37 : mm_code 118 37 = some (.iconst 1, 1, 1, 0, []) := rfl
theorem rw_118_38 : mm_code 118 38 = some (.isub, 1, 0, 0, []) := rfl
theorem rw_118_39 : mm_code 118 39 = some (.ireturn, 1, 0, 0, []) := rfl
theorem rw_119_0 : mm_code 119 0 = some (.aload_n 0, 1, 0, 0, []) := rfl
theorem rw_119_1 : mm_code 119 1 = some (.iload_n 1, 1, 0, 0, []) := rfl
theorem rw_119_2 : mm_code 119 2 = some (.invokevirtual 198, 3, 140, 2, [49, 0]) := rfl
theorem rw_119_5 : mm_code 119 5 = some (.ifCond .eq 15, 3, 20, 0, []) := rfl
theorem rw_119_8 : mm_code 119 8 = some (.aload_n 0, 1, 0, 0, []) := rfl
theorem rw_119_9 : mm_code 119 9 = some (.getfield 68, 3, 10, 8, [3, 18]) := rfl
theorem rw_119_12 : mm_code 119 12 = some (.iload_n 2, 1, 0, 0, []) := rfl
theorem rw_119_13 : mm_code 119 13 = some (.iload_n 3, 1, 0, 0, []) := rfl
theorem rw_119_14 : mm_code 119 14 = some (.invokevirtual 201, 3, 46, 3, [50, 0]) := rfl
theorem rw_119_17 : mm_code 119 17 = some (.ifCond .ne 5, 3, 22, 0, []) := rfl
theorem rw_119_20 : mm_code 119 20 = some (.iconst (-1), 1, 1, 1, []) := rfl
theorem rw_119_21 : mm_code 119 21 = some (.ireturn, 1, 0, 0, []) := rfl
theorem rw_119_22 : mm_code 119 22 = some (.aload_n 0, 1, 0, 0, []) := rfl
theorem rw_119_23 : mm_code 119 23 = some (.getfield 19, 3, 10, 1, [3, 4]) := rfl
theorem rw_119_26 : mm_code 119 26 = some (.iconst 0, 1, 0, 0, []) := rfl
theorem rw_119_27 : mm_code 119 27 = some (.iload_n 1, 1, 0, 0, []) := rfl
theorem rw_119_28 : mm_code 119 28 = some (.iload_n 2, 1, 0, 0, []) := rfl
theorem rw_119_29 : mm_code 119 29 = some (.iload_n 3, 1, 0, 0, []) := rfl
theorem rw_119_30 : mm_code 119 30 = some (.invokevirtual 205, 3, 20, 5, [51, 0]) := rfl
theorem rw_119_33 : mm_code 119 33 = some (.ireturn, 1, 0, 0, []) := rfl
theorem rw_120_0 : mm_code 120 0 = some (.aload_n 0, 1, 0, 0, []) := rfl
theorem rw_120_1 : mm_code 120 1 = some (.iload_n 1, 1, 0, 0, []) := rfl
theorem rw_120_2 : mm_code 120 2 = some (.invokevirtual 198, 3, 140, 2, [49, 0]) := rfl
theorem rw_120_5 : mm_code 120 5 = some (.ifCond .eq 14, 3, 19, 0, []) := rfl
theorem rw_120_8 : mm_code 120 8 = some (.aload_n 0, 1, 0, 0, []) := rfl
theorem rw_120_9 : mm_code 120 9 = some (.getfield 68, 3, 10, 8, [3, 18]) := rfl
theorem rw_120_12 : mm_code 120 12 = some (.iload_n 2, 1, 0, 0, []) := rfl
theorem rw_120_13 : mm_code 120 13 = some (.invokevirtual 185, 3, 44, 2, [45, 0]) := rfl
theorem rw_120_16 : mm_code 120 16 = some (.ifCond .ne 5, 3, 21, 0, []) := rfl
theorem rw_120_19 : mm_code 120 19 = some (.iconst (-1), 1, 1, 1, []) := rfl
theorem rw_120_20 : mm_code 120 20 = some (.ireturn, 1, 0, 0, []) := rfl
theorem rw_120_21 : mm_code 120 21 = some (.aload_n 0, 1, 0, 0, []) := rfl
theorem rw_120_22 : mm_code 120 22 = some (.getfield 19, 3, 10, 1, [3, 4]) := rfl
theorem rw_120_25 : mm_code 120 25 = some (.iconst 1, 1, 1, 0, []) := rfl
theorem rw_120_26 : mm_code 120 26 = some (.iload_n 1, 1, 0, 0, []) := rfl
theorem rw_120_27 : mm_code 120 27 = some (.iload_n 2, 1, 0, 0, []) := rfl
theorem rw_120_28 : mm_code 120 28 = some (.iconst 0, 1, 0, 0, []) := rfl
theorem rw_120_29 : mm_code 120 29 = some (.invokevirtual 205, 3, 20, 5, [51, 0]) := rfl
theorem rw_120_32 : mm_code 120 32 = some (.ireturn, 1, 0, 0, []) := rfl
theorem rw_121_0 : mm_code 121 0 = some (.aload_n 0, 1, 0, 0, []) := rfl
theorem rw_121_1 : mm_code 121 1 = some (.iload_n 1, 1, 0, 0, []) := rfl
theorem rw_121_2 : mm_code 121 2 = some (.invokevirtual 198, 3, 140, 2, [49, 0]) := rfl
theorem rw_121_5 : mm_code 121 5 = some (.ifCond .eq 18, 3, 23, 0, []) := rfl
theorem rw_121_8 : mm_code 121 8 = some (.iload_n 2, 1, 0, 0, []) := rfl
theorem rw_121_9 : mm_code 121 9 = some (.ifCond .lt 14, 3, 23, 0, []) := rfl
theorem rw_121_12 : mm_code 121 12 = some (.iload_n 2, 1, 0, 0, []) := rfl
theorem rw_121_13 : mm_code 121 13 = some (.aload_n 0, 1, 0, 0, []) := rfl
theorem rw_121_14 : mm_code 121 14 = some (.getfield 68, 3, 10, 8, [3, 18]) := rfl
theorem rw_121_17 : mm_code 121 17 = some (.getfield 120, 3, 5, 0, [0, 34]) := rfl
theorem rw_121_20 : mm_code 121 20 = some (.if_icmp .lt 5, 3, 25, 0, []) := rfl
theorem rw_121_23 : mm_code 121 23 = some (.iconst (-1), 1, 1, 1, []) := rfl
theorem rw_121_24 : mm_code 121 24 = some (.ireturn, 1, 0, 0, []) := rfl
theorem rw_121_25 : mm_code 121 25 = some (.aload_n 0, 1, 0, 0, []) := rfl
theorem rw_121_26 : mm_code 121 26 = some (.getfield 19, 3, 10, 1, [3, 4]) := rfl
theorem rw_121_29 : mm_code 121 29 = some (.iload_n 3, 1, 0, 0, []) := rfl
theorem rw_121_30 : mm_code 121 30 = some (.ifCond .eq 7, 3, 37, 0, []) := rfl
theorem rw_121_33 : mm_code 121 33 = some (.iconst 3, 1, 3, 0, []) := rfl
theorem rw_121_34 : mm_code 121 34 = some (.goto 4, 3, 38, 0, []) := rfl
theorem rw_121_37 : mm_code 121 37 = some (.iconst 2, 1, 2, 0, []) := rfl
theorem rw_121_38 : mm_code 121 38 = some (.iload_n 1, 1, 0, 0, []) := rfl
theorem rw_121_39 : mm_code 121 39 = some (.iload_n 2, 1, 0, 0, []) := rfl
theorem rw_121_40 : mm_code 121 40 = some (.iconst 0, 1, 0, 0, []) := rfl
theorem rw_121_41 : mm_code 121 41 = some (.invokevirtual 205, 3, 20, 5, [51, 0]) := rfl
theorem rw_121_44 : mm_code 121 44 = some (.ireturn, 1, 0, 0, []) := rfl
theorem rw_122_0 : mm_code 122 0 = some (.aload_n 0, 1, 0, 0, []) := rfl
theorem rw_122_1 : mm_code 122 1 = some (.getfield 68, 3, 10, 8, [3, 18]) := rfl
theorem rw_122_4 : mm_code 122 4 = some (.iload_n 1, 1, 0, 0, []) := rfl
theorem rw_122_5 : mm_code 122 5 = some (.invokevirtual 185, 3, 44, 2, [45, 0]) := rfl
theorem rw_122_8 : mm_code 122 8 = some (.ifCond .eq 15, 3, 23, 0, []) := rfl
theorem rw_122_11 : mm_code 122 11 = some (.aload_n 0, 1, 0, 0, []) := rfl
theorem rw_122_12 : mm_code 122 12 = some (.getfield 68, 3, 10, 8, [3, 18]) := rfl
theorem rw_122_15 : mm_code 122 15 = some (.iload_n 1, 1, 0, 0, []) := rfl
theorem rw_122_16 : mm_code 122 16 = some (.iload_n 2, 1, 0, 0, []) := rfl
theorem rw_122_17 : mm_code 122 17 = some (.invokevirtual 209, 3, 50, 3, [52, 0]) := rfl
theorem rw_122_20 : mm_code 122 20 = some (.ifCond .ne 5, 3, 25, 0, []) := rfl
theorem rw_122_23 : mm_code 122 23 = some (.iconst (-1), 1, 1, 1, []) := rfl
theorem rw_122_24 : mm_code 122 24 = some (.ireturn, 1, 0, 0, []) := rfl
theorem rw_122_25 : mm_code 122 25 = some (.aload_n 0, 1, 0, 0, []) := rfl
theorem rw_122_26 : mm_code 122 26 = some (.getfield 19, 3, 10, 1, [3, 4]) := rfl
theorem rw_122_29 : mm_code 122 29 = some (.iconst 4, 1, 4, 0, []) := rfl
theorem rw_122_30 : mm_code 122 30 = some (.iload_n 1, 1, 0, 0, []) := rfl
theorem rw_122_31 : mm_code 122 31 = some (.iload_n 2, 1, 0, 0, []) := rfl
theorem rw_122_32 : mm_code 122 32 = some (.iconst 0, 1, 0, 0, []) := rfl
theorem rw_122_33 : mm_code 122 33 = some (.invokevirtual 205, 3, 20, 5, [51, 0]) := rfl
theorem rw_122_36 : mm_code 122 36 = some (.ireturn, 1, 0, 0, []) := rfl
theorem rw_123_0 : mm_code 123 0 = some (.iload_n 1, 1, 0, 0, []) := rfl
theorem rw_123_1 : mm_code 123 1 = some (.ifCond .lt 14, 3, 15, 0, []) := rfl
theorem rw_123_4 : mm_code 123 4 = some (.iload_n 1, 1, 0, 0, []) := rfl
theorem rw_123_5 : mm_code 123 5 = some (.aload_n 0, 1, 0, 0, []) := rfl
theorem rw_123_6 : mm_code 123 6 = some (.getfield 19, 3, 10, 1, [3, 4]) := rfl
theorem rw_123_9 : mm_code 123 9 = some (.getfield 104, 3, 3, 0, [0, 28]) := rfl
theorem rw_123_12 : mm_code 123 12 = some (.if_icmp .lt 5, 3, 17, 0, []) := rfl
theorem rw_123_15 : mm_code 123 15 = some (.iconst (-1), 1, 1, 1, []) := rfl
theorem rw_123_16 : mm_code 123 16 = some (.ireturn, 1, 0, 0, []) := rfl
theorem rw_123_17 : mm_code 123 17 = some (.aload_n 0, 1, 0, 0, []) := rfl
theorem rw_123_18 : mm_code 123 18 = some (.getfield 19, 3, 10, 1, [3, 4]) := rfl
theorem rw_123_21 : mm_code 123 21 = some (.iconst 5, 1, 5, 0, []) := rfl
theorem rw_123_22 : mm_code 123 22 = some (.iload_n 1, 1, 0, 0, []) := rfl
theorem rw_123_23 : mm_code 123 23 = some (.iconst 0, 1, 0, 0, []) := rfl
theorem rw_123_24 : mm_code 123 24 = some (.iconst 0, 1, 0, 0, []) := rfl
theorem rw_123_25 : mm_code 123 25 = some (.invokevirtual 205, 3, 20, 5, [51, 0]) := rfl
theorem rw_123_28 : mm_code 123 28 = some (.ireturn, 1, 0, 0, []) := rfl
theorem rw_124_0 : mm_code 124 0 = some (.aload_n 0, 1, 0, 0, []) := rfl
theorem rw_124_1 : mm_code 124 1 = some (.iload_n 1, 1, 0, 0, []) := rfl
theorem rw_124_2 : mm_code 124 2 = some (.invokevirtual 182, 3, 139, 2, [44, 0]) := rfl
theorem rw_124_5 : mm_code 124 5 = some (.ifCond .eq 11, 3, 16, 0, []) := rfl
theorem rw_124_8 : mm_code 124 8 = some (.aload_n 0, 1, 0, 0, []) := rfl
theorem rw_124_9 : mm_code 124 9 = some (.iload_n 2, 1, 0, 0, []) := rfl
theorem rw_124_10 : mm_code 124 10 = some (.invokevirtual 198, 3, 140, 2, [49, 0]) := rfl
theorem rw_124_13 : mm_code 124 13 = some (.ifCond .ne 7, 3, 20, 0, []) := rfl
theorem rw_124_16 : mm_code 124 16 = some (.ldc2_w 212, 3, 1, 1, [53]) := rfl
theorem rw_124_19 : mm_code 124 19 = some (.lreturn, 1, 0, 0, []) := rfl
theorem rw_124_20 : mm_code 124 20 = some (.aload_n 0, 1, 0, 0, []) := rfl
theorem rw_124_21 : mm_code 124 21 = some (.iload_n 1, 1, 0, 0, []) := rfl
theorem rw_124_22 : mm_code 124 22 = some (.invokevirtual 188, 3, 141, 2, [46, 0]) := rfl
theorem rw_124_25 : mm_code 124 25 = some (.aload_n 0, 1, 0, 0, []) := rfl
theorem rw_124_26 : mm_code 124 26 = some (.getfield 26, 3, 10, 2, [3, 6]) := rfl
theorem rw_124_29 : mm_code 124 29 = some (.getfield 214, 3, 1, 0, [3, 54]) := rfl
theorem rw_124_32 : mm_code 124 32 = some (.iload_n 2, 1, 0, 0, []) := rfl
theorem rw_124_33 : mm_code 124 33 = some (.laload, 1, 0, 0, []) := rfl
theorem rw_124_34 : mm_code 124 34 = some (.lreturn, 1, 0, 0, []) := rfl
theorem rw_125_0 : mm_code 125 0 = some (.aload_n 0, 1, 0, 0, []) := rfl
theorem rw_125_1 : mm_code 125 1 = some (.iload_n 1, 1, 0, 0, []) := rfl
theorem rw_125_2 : mm_code 125 2 = some (.invokevirtual 182, 3, 139, 2, [44, 0]) := rfl
theorem rw_125_5 : mm_code 125 5 = some (.ifCond .eq 22, 3, 27, 0, []) := rfl
theorem rw_125_8 : mm_code 125 8 = some (.aload_n 0, 1, 0, 0, []) := rfl
theorem rw_125_9 : mm_code 125 9 = some (.iload_n 2, 1, 0, 0, []) := rfl
theorem rw_125_10 : mm_code 125 10 = some (.invokevirtual 198, 3, 140, 2, [49, 0]) := rfl
theorem rw_125_13 : mm_code 125 13 = some (.ifCond .eq 14, 3, 27, 0, []) := rfl
theorem rw_125_16 : mm_code 125 16 = some (.aload_n 0, 1, 0, 0, []) := rfl
theorem rw_125_17 : mm_code 125 17 = some (.getfield 68, 3, 10, 8, [3, 18]) := rfl
theorem rw_125_20 : mm_code 125 20 = some (.iload_n 3, 1, 0, 0, []) := rfl
theorem rw_125_21 : mm_code 125 21 = some (.invokevirtual 150, 3, 43, 2, [55, 0]) := rfl
theorem rw_125_24 : mm_code 125 24 = some (.ifCond .ne 6, 3, 30, 0, []) := rfl
theorem rw_125_27 : mm_code 125 27 = some (.bipush (-2), 2, 2, 1, []) := rfl
theorem rw_125_29 : mm_code 125 29 = some (.ireturn, 1, 0, 0, []) := rfl
theorem rw_125_30 : mm_code 125 30 = some (.aload_n 0, 1, 0, 0, []) := rfl
theorem rw_125_31 : mm_code 125 31 = some (.iload_n 1, 1, 0, 0, []) := rfl
theorem rw_125_32 : mm_code 125 32 = some (.invokevirtual 188, 3, 141, 2, [46, 0]) := rfl
theorem rw_125_35 : mm_code 125 35 = some (.aload_n 0, 1, 0, 0, []) := rfl
theorem rw_125_36 : mm_code 125 36 = some (.getfield 68, 3, 10, 8, [3, 18]) := rfl
theorem rw_125_39 : mm_code 125 39 = some (.iload_n 3, 1, 0, 0, []) := rfl
theorem rw_125_40 : mm_code 125 40 = some (.invokevirtual 217, 3, 45, 2, [56, 0]) := rfl
theorem rw_125_43 : mm_code 125 43 = some (.ifCond .eq 22, 3, 65, 0, []) := rfl
theorem rw_125_46 : mm_code 125 46 = some (.aload_n 0, 1, 0, 0, []) := rfl
theorem rw_125_47 : mm_code 125 47 = some (.getfield 26, 3, 10, 2, [3, 6]) := rfl
theorem rw_125_50 : mm_code 125 50 = some (.getfield 220, 3, 1, 1, [3, 57]) := rfl
theorem rw_125_53 : mm_code 125 53 = some (.iload_n 2, 1, 0, 0, []) := rfl
theorem rw_125_54 : mm_code 125 54 = some (.iaload, 1, 0, 0, []) := rfl
theorem rw_125_55 : mm_code 125 55 = some (.aload_n 0, 1, 0, 0, []) := rfl
theorem rw_125_56 : mm_code 125 56 = some (.getfield 68, 3, 10, 8, [3, 18]) := rfl
theorem rw_125_59 : mm_code 125 59 = some (.iload_n 3, 1, 0, 0, []) := rfl
theorem rw_125_60 : mm_code 125 60 = some (.invokevirtual 223, 3, 51, 2, [58, 0]) := rfl
theorem rw_125_63 : mm_code 125 63 = some (.iand, 1, 0, 0, []) := rfl
theorem rw_125_64 : mm_code 125 64 = some (.ireturn, 1, 0, 0, []) := rfl
theorem rw_125_65 : mm_code 125 65 = some (.aload_n 0, 1, 0, 0, []) := rfl
theorem rw_125_66 : mm_code 125 66 = some (.getfield 26, 3, 10, 2, [3, 6]) := rfl
theorem rw_125_69 : mm_code 125 69 = some (.iload_n 2, 1, 0, 0, []) := rfl
theorem rw_125_70 : mm_code 125 70 = some (.iload_n 3, 1, 0, 0, []) := rfl
theorem rw_125_71 : mm_code 125 71 = some (.invokevirtual 226, 3, 12, 3, [59, 0]) := rfl
theorem rw_125_74 : mm_code 125 74 = some (.ireturn, 1, 0, 0, []) := rfl
theorem rw_126_0 : mm_code 126 0 = some (.aload_n 0, 1, 0, 0, []) := rfl
theorem rw_126_1 : mm_code 126 1 = some (.iload_n 1, 1, 0, 0, []) := rfl
theorem rw_126_2 : mm_code 126 2 = some (.invokevirtual 198, 3, 140, 2, [49, 0]) := rfl
theorem rw_126_5 : mm_code 126 5 = some (.ifCond .ne 5, 3, 10, 0, []) := rfl
theorem rw_126_8 : mm_code 126 8 = some (.iconst 0, 1, 0, 0, []) := rfl
theorem rw_126_9 : mm_code 126 9 = some (.ireturn, 1, 1, 0, []) := rfl
theorem rw_126_10 : mm_code 126 10 = some (.aload_n 0, 1, 0, 0, []) := rfl
theorem rw_126_11 : mm_code 126 11 = some (.getfield 33, 3, 10, 3, [3, 8]) := rfl
theorem rw_126_14 : mm_code 126 14 = some (.dup, 1, 0, 0, []) := rfl
theorem rw_126_15 : mm_code 126 15 = some (.getfield 230, 3, 4, 4, [0, 60]) := rfl
theorem rw_126_18 : mm_code 126 18 = some (.iconst 1, 1, 1, 0, []) := rfl
theorem rw_126_19 : mm_code 126 19 = some (.iload_n 1, 1, 0, 0, []) := rfl
theorem rw_126_20 : mm_code 126 20 = some (.ishl, 1, 0, 0, []) := rfl
theorem rw_126_21 : mm_code 126 21 = some (.ixor, 1, 0, 0, []) := rfl
theorem rw_126_22 : mm_code 126 22 = some (.putfield 230, 3, 4, 4, [0, 60]) := rfl
theorem rw_126_25 : mm_code 126 25 = some (.iconst 1, 1, 1, 0, []) := rfl
theorem rw_126_26 : mm_code 126 26 = some (.ireturn, 1, 1, 0, []) := rfl
theorem rw_127_0 : mm_code 127 0 = some (.aload_n 0, 1, 0, 0, []) := rfl
theorem rw_127_1 : mm_code 127 1 = some (.getfield 33, 3, 10, 3, [3, 8]) := rfl
theorem rw_127_4 : mm_code 127 4 = some (.getfield 230, 3, 4, 4, [0, 60]) := rfl
theorem rw_127_7 : mm_code 127 7 = some (.ireturn, 1, 0, 0, []) := rfl
theorem rw_128_0 : mm_code 128 0 = some (.iload_n 1, 1, 0, 0, []) := rfl
theorem rw_128_1 : mm_code 128 1 = some (.invokestatic 233, 3, 143, 1, [61, 0]) := rfl
theorem rw_128_4 : mm_code 128 4 = some (.ifCond .eq 20, 3, 24, 0, []) := rfl
theorem rw_128_7 : mm_code 128 7 = some (.iload_n 2, 1, 0, 0, []) := rfl
theorem rw_128_8 : mm_code 128 8 = some (.ifCond .lt 16, 3, 24, 0, []) := rfl
theorem rw_128_11 : mm_code 128 11 = some (.iload_n 2, 1, 0, 0, []) := rfl
theorem rw_128_12 : mm_code 128 12 = some (.aload_n 0, 1, 0, 0, []) := rfl
theorem rw_128_13 : mm_code 128 13 = some (.getfield 33, 3, 10, 3, [3, 8]) := rfl
theorem rw_128_16 : mm_code 128 16 = some (.getfield 236, 3, 4, 1, [3, 62]) := rfl
theorem rw_128_19 : mm_code 128 19 = some (.iload_n 1, 1, 0, 0, []) := rfl
theorem rw_128_20 : mm_code 128 20 = some (.iaload, 1, 0, 0, []) := rfl
theorem rw_128_21 : mm_code 128 21 = some (.if_icmp .lt 5, 3, 26, 0, []) := rfl
theorem rw_128_24 : mm_code 128 24 = some (.iconst (-1), 1, 1, 1, []) := rfl
theorem rw_128_25 : mm_code 128 25 = some (.ireturn, 1, 0, 0, []) := rfl
theorem rw_128_26 : mm_code 128 26 = some (.aload_n 0, 1, 0, 0, []) := rfl
theorem rw_128_27 : mm_code 128 27 = some (.getfield 33, 3, 10, 3, [3, 8]) := rfl
theorem rw_128_30 : mm_code 128 30 = some (.getfield 239, 3, 4, 0, [3, 63]) := rfl
theorem rw_128_33 : mm_code 128 33 = some (.iload_n 1, 1, 0, 0, []) := rfl
theorem rw_128_34 : mm_code 128 34 = some (.aaload, 1, 0, 0, []) := rfl
theorem rw_128_35 : mm_code 128 35 = some (.iload_n 2, 1, 0, 0, []) := rfl
theorem rw_128_36 : mm_code 128 36 = some (.iaload, 1, 0, 0, []) := rfl
theorem rw_128_37 : mm_code 128 37 = some (.ireturn, 1, 0, 0, []) := rfl
theorem rw_129_0 : mm_code 129 0 = some (.iload_n 1, 1, 0, 0, []) := rfl
theorem rw_129_1 : mm_code 129 1 = some (.invokestatic 233, 3, 143, 1, [61, 0]) := rfl
theorem rw_129_4 : mm_code 129 4 = some (.ifCond .ne 5, 3, 9, 0, []) := rfl
theorem rw_129_7 : mm_code 129 7 = some (.iconst (-1), 1, 1, 1, []) := rfl
theorem rw_129_8 : mm_code 129 8 = some (.ireturn, 1, 0, 0, []) := rfl
theorem rw_129_9 : mm_code 129 9 = some (.aload_n 0, 1, 0, 0, []) := rfl
theorem rw_129_10 : mm_code 129 10 = some (.invokevirtual 114, 3, 142, 1, [32, 0]) := rfl
theorem rw_129_13 : mm_code 129 13 = some (.aload_n 0, 1, 0, 0, []) := rfl
theorem rw_129_14 : mm_code 129 14 = some (.getfield 33, 3, 10, 3, [3, 8]) := rfl
theorem rw_129_17 : mm_code 129 17 = some (.aload_n 0, 1, 0, 0, []) := rfl
theorem rw_129_18 : mm_code 129 18 = some (.getfield 26, 3, 10, 2, [3, 6]) := rfl
theorem rw_129_21 : mm_code 129 21 = some (.aload_n 0, 1, 0, 0, []) := rfl
theorem rw_129_22 : mm_code 129 22 = some (.getfield 68, 3, 10, 8, [3, 18]) := rfl
theorem rw_129_25 : mm_code 129 25 = some (.getfield 120, 3, 5, 0, [0, 34]) := rfl
theorem rw_129_28 : mm_code 129 28 = some (.invokevirtual 123, 3, 24, 3, [35, 0]) := rfl
theorem rw_129_31 : mm_code 129 31 = some (.aload_n 0, 1, 0, 0, []) := rfl
theorem rw_129_32 : mm_code 129 32 = some (.getfield 33, 3, 10, 3, [3, 8]) := rfl
theorem rw_129_35 : mm_code 129 35 = some (.iload_n 1, 1, 0, 0, []) := rfl
theorem rw_129_36 : mm_code 129 36 = some (.lload_n 2, 1, 0, 0, []) := rfl
theorem rw_129_37 : mm_code 129 37 = some (.iconst 0, 1, 0, 0, []) := rfl
theorem rw_129_38 : mm_code 129 38 = some (.aload_n 0, 1, 0, 0, []) := rfl
theorem rw_129_39 : mm_code 129 39 = some (.getfield 68, 3, 10, 8, [3, 18]) := rfl
theorem rw_129_42 : mm_code 129 42 = some (.getfield 120, 3, 5, 0, [0, 34]) := rfl
theorem rw_129_45 : mm_code 129 45 = some (.iconst 1, 1, 1, 0, []) := rfl
theorem rw_129_46 : mm_code 129 46 = some (.isub, 1, 0, 0, []) := rfl
theorem rw_129_47 : mm_code 129 47 = some (.invokestatic 243, 3, 144, 2, [64, 0]) := rfl
theorem rw_129_50 : mm_code 129 50 = some (.land, 1, 0, 0, []) := rfl
theorem rw_129_51 : mm_code 129 51 = some (.invokevirtual 246, 3, 27, 3, [65, 0]) := rfl
theorem rw_129_54 : mm_code 129 54 = some (.ireturn, 1, 0, 0, []) := rfl
theorem rw_130_0 : mm_code 130 0 = some (.aload_n 0, 1, 0, 0, []) := rfl
theorem rw_130_1 : mm_code 130 1 = some (.getfield 33, 3, 10, 3, [3, 8]) := rfl
theorem rw_130_4 : mm_code 130 4 = some (.invokevirtual 110, 3, 22, 1, [30, 0]) := rfl
theorem rw_130_7 : mm_code 130 7 = some (.iconst 0, 1, 0, 0, []) := rfl
theorem rw_130_8 : mm_code 130 8 = some (.istore_n 1, 1, 0, 0, []) := rfl
theorem rw_130_9 : mm_code 130 9 = some (.iload_n 1, 1, 0, 0, []) := rfl
theorem rw_130_10 : mm_code 130 10 = some (.aload_n 0, 1, 0, 0, []) := rfl
theorem rw_130_11 : mm_code 130 11 = some (.getfield 85, 3, 10, 12, [0, 23]) := rfl
theorem rw_130_14 : mm_code 130 14 = some (.if_icmp .ge 18, 3, 32, 0, []) := rfl
theorem rw_130_17 : mm_code 130 17 = some (.aload_n 0, 1, 0, 0, []) := rfl
theorem rw_130_18 : mm_code 130 18 = some (.getfield 33, 3, 10, 3, [3, 8]) := rfl
theorem rw_130_21 : mm_code 130 21 = some (.iconst 0, 1, 0, 0, []) := rfl
theorem rw_130_22 : mm_code 130 22 = some (.iload_n 1, 1, 0, 0, []) := rfl
theorem rw_130_23 : mm_code 130 23 = some (.invokevirtual 195, 3, 23, 3, [48, 0]) := rfl
theorem rw_130_26 : mm_code 130 26 = some (.iinc 1 1, 3, 1, 0, []) := rfl
theorem rw_130_29 : mm_code 130 29 = some (.goto (-20), 3, 9, 0, []) := rfl
theorem rw_130_32 : mm_code 130 32 = some (.aload_n 0, 1, 0, 0, []) := rfl
theorem rw_130_33 : mm_code 130 33 = some (.getfield 85, 3, 10, 12, [0, 23]) := rfl
theorem rw_130_36 : mm_code 130 36 = some (.ireturn, 1, 0, 0, []) := rfl
theorem rw_131_0 : mm_code 131 0 = some (.aload_n 0, 1, 0, 0, []) := rfl
theorem rw_131_1 : mm_code 131 1 = some (.iload_n 1, 1, 0, 0, []) := rfl
theorem rw_131_2 : mm_code 131 2 = some (.invokevirtual 182, 3, 139, 2, [44, 0]) := rfl
theorem rw_131_5 : mm_code 131 5 = some (.ifCond .eq 22, 3, 27, 0, []) := rfl
theorem rw_131_8 : mm_code 131 8 = some (.iload_n 2, 1, 0, 0, []) := rfl
theorem rw_131_9 : mm_code 131 9 = some (.ifCond .lt 18, 3, 27, 0, []) := rfl
theorem rw_131_12 : mm_code 131 12 = some (.iload_n 2, 1, 0, 0, []) := rfl
theorem rw_131_13 : mm_code 131 13 = some (.iconst 3, 1, 3, 0, []) := rfl
theorem rw_131_14 : mm_code 131 14 = some (.if_icmp .gt 13, 3, 27, 0, []) := rfl
theorem rw_131_17 : mm_code 131 17 = some (.aload_n 0, 1, 0, 0, []) := rfl
theorem rw_131_18 : mm_code 131 18 = some (.getfield 78, 3, 10, 10, [3, 21]) := rfl
theorem rw_131_21 : mm_code 131 21 = some (.getfield 134, 3, 6, 4, [0, 38]) := rfl
theorem rw_131_24 : mm_code 131 24 = some (.ifCond .ne 5, 3, 29, 0, []) := rfl
theorem rw_131_27 : mm_code 131 27 = some (.iconst (-1), 1, 1, 1, []) := rfl
theorem rw_131_28 : mm_code 131 28 = some (.ireturn, 1, 0, 0, []) := rfl
theorem rw_131_29 : mm_code 131 29 = some (.aload_n 0, 1, 0, 0, []) := rfl
theorem rw_131_30 : mm_code 131 30 = some (.iload_n 1, 1, 0, 0, []) := rfl
theorem rw_131_31 : mm_code 131 31 = some (.invokevirtual 188, 3, 141, 2, [46, 0]) := rfl
theorem rw_131_34 : mm_code 131 34 = some (.aload_n 0, 1, 0, 0, []) := rfl
theorem rw_131_35 : mm_code 131 35 = some (.getfield 78, 3, 10, 10, [3, 21]) := rfl
theorem rw_131_38 : mm_code 131 38 = some (.aload_n 0, 1, 0, 0, []) := rfl
theorem rw_131_39 : mm_code 131 39 = some (.getfield 68, 3, 10, 8, [3, 18]) := rfl
theorem rw_131_42 : mm_code 131 42 = some (.aload_n 0, 1, 0, 0, []) := rfl
theorem rw_131_43 : mm_code 131 43 = some (.getfield 26, 3, 10, 2, [3, 6]) := rfl
theorem rw_131_46 : mm_code 131 46 = some (.aload_n 0, 1, 0, 0, []) := rfl
theorem rw_131_47 : mm_code 131 47 = some (.getfield 85, 3, 10, 12, [0, 23]) := rfl
theorem rw_131_50 : mm_code 131 50 = some (.iconst 0, 1, 0, 0, []) := rfl
theorem rw_131_51 : mm_code 131 51 = some (.invokevirtual 250, 3, 65, 5, [66, 0]) := rfl
theorem rw_131_54 : mm_code 131 54 = some (.istore_n 3, 1, 0, 0, []) := rfl
theorem rw_131_55 : mm_code 131 55 = some (.aload_n 0, 1, 0, 0, []) := rfl
theorem rw_131_56 : mm_code 131 56 = some (.getfield 78, 3, 10, 10, [3, 21]) := rfl
theorem rw_131_59 : mm_code 131 59 = some (.aload_n 0, 1, 0, 0, []) := rfl
theorem rw_131_60 : mm_code 131 60 = some (.getfield 68, 3, 10, 8, [3, 18]) := rfl
theorem rw_131_63 : mm_code 131 63 = some (.aload_n 0, 1, 0, 0, []) := rfl
theorem rw_131_64 : mm_code 131 64 = some (.getfield 26, 3, 10, 2, [3, 6]) := rfl
theorem rw_131_67 : mm_code 131 67 = some (.aload_n 0, 1, 0, 0, []) := rfl
theorem rw_131_68 : mm_code 131 68 = some (.getfield 85, 3, 10, 12, [0, 23]) := rfl
theorem rw_131_71 : mm_code 131 71 = some (.iconst 1, 1, 1, 0, []) := rfl
theorem rw_131_72 : mm_code 131 72 = some (.invokevirtual 250, 3, 65, 5, [66, 0]) := rfl
theorem rw_131_75 : mm_code 131 75 = some (.istore 4, 2, 0, 0, []) := rfl
theorem rw_131_77 : mm_code 131 77 = some (.iload_n 2, 1, 0, 0, []) := rfl
theorem rw_131_78 : mm_code 131 78 = some (.tableswitch 38 0 2 #[26, 28, 31], 26, 116, 0, [104, 106, 109]) := rfl
theorem rw_131_104 : mm_code 131 104 = some (.iload_n 3, 1, 0, 0, []) := rfl
theorem rw_131_105 : mm_code 131 105 = some (.ireturn, 1, 0, 0, []) := rfl
theorem rw_131_106 : mm_code 131 106 = some (.iload 4, 2, 0, 0, []) := rfl
theorem rw_131_108 : mm_code 131 108 = some (.ireturn, 1, 0, 0, []) := rfl
theorem rw_131_109 : mm_code 131 109 = some (.iload_n 3, 1, 0, 0, []) := rfl
theorem rw_131_110 : mm_code 131 110 = some (.iload 4, 2, 0, 0, []) := rfl
theorem rw_131_112 : mm_code 131 112 = some (.iconst (-1), 1, 1, 1, []) := rfl
theorem rw_131_113 : mm_code 131 113 = some (.ixor, 1, 0, 0, []) := rfl
theorem rw_131_114 : mm_code 131 114 = some (.iand, 1, 0, 0, []) := rfl
theorem rw_131_115 : mm_code 131 115 = some (.ireturn, 1, 0, 0, []) := rfl
theorem rw_131_116 : mm_code 131 116 = some (.iload 4, 2, 0, 0, []) := rfl
theorem rw_131_118 : mm_code 131 118 = some (.iload_n 3, 1, 0, 0, []) := rfl
theorem rw_131_119 : mm_code 131 119 = some (.iconst (-1), 1, 1, 1, []) := rfl
theorem rw_131_120 : mm_code 131 120 = some (.ixor, 1, 0, 0, []) := rfl
theorem rw_131_121 : mm_code 131 121 = some (.iand, 1, 0, 0, []) := rfl
theorem rw_131_122 : mm_code 131 122 = some (.ireturn, 1, 0, 0, []) := rfl
theorem rw_132_0 : mm_code 132 0 = some (.aload_n 0, 1, 0, 0, []) := rfl
theorem rw_132_1 : mm_code 132 1 = some (.iload_n 1, 1, 0, 0, []) := rfl
theorem rw_132_2 : mm_code 132 2 = some (.invokevirtual 182, 3, 139, 2, [44, 0]) := rfl
theorem rw_132_5 : mm_code 132 5 = some (.ifCond .eq 23, 3, 28, 0, []) := rfl
theorem rw_132_8 : mm_code 132 8 = some (.aload_n 0, 1, 0, 0, []) := rfl
theorem rw_132_9 : mm_code 132 9 = some (.getfield 68, 3, 10, 8, [3, 18]) := rfl
theorem rw_132_12 : mm_code 132 12 = some (.iload_n 2, 1, 0, 0, []) := rfl
theorem rw_132_13 : mm_code 132 13 = some (.invokevirtual 185, 3, 44, 2, [45, 0]) := rfl
theorem rw_132_16 : mm_code 132 16 = some (.ifCond .eq 12, 3, 28, 0, []) := rfl
theorem rw_132_19 : mm_code 132 19 = some (.iload_n 3, 1, 0, 0, []) := rfl
theorem rw_132_20 : mm_code 132 20 = some (.ifCond .lt 8, 3, 28, 0, []) := rfl
theorem rw_132_23 : mm_code 132 23 = some (.iload_n 3, 1, 0, 0, []) := rfl
theorem rw_132_24 : mm_code 132 24 = some (.iconst 1, 1, 1, 0, []) := rfl
theorem rw_132_25 : mm_code 132 25 = some (.if_icmp .le 7, 3, 32, 0, []) := rfl
theorem rw_132_28 : mm_code 132 28 = some (.ldc2_w 212, 3, 1, 1, [53]) := rfl
theorem rw_132_31 : mm_code 132 31 = some (.lreturn, 1, 0, 0, []) := rfl
theorem rw_132_32 : mm_code 132 32 = some (.aload_n 0, 1, 0, 0, []) := rfl
theorem rw_132_33 : mm_code 132 33 = some (.getfield 68, 3, 10, 8, [3, 18]) := rfl
theorem rw_132_36 : mm_code 132 36 = some (.getfield 254, 3, 5, 11, [3, 67]) := rfl
theorem rw_132_39 : mm_code 132 39 = some (.iload_n 2, 1, 0, 0, []) := rfl
theorem rw_132_40 : mm_code 132 40 = some (.iaload, 1, 0, 0, []) := rfl
theorem rw_132_41 : mm_code 132 41 = some (.istore 4, 2, 0, 0, []) := rfl
theorem rw_132_43 : mm_code 132 43 = some (.aload_n 0, 1, 0, 0, []) := rfl
theorem rw_132_44 : mm_code 132 44 = some (.getfield 68, 3, 10, 8, [3, 18]) := rfl
theorem rw_132_47 : mm_code 132 47 = some (.getfield 170, 3, 5, 9, [3, 68]) := rfl
theorem rw_132_50 : mm_code 132 50 = some (.iload 4, 2, 0, 0, []) := rfl
theorem rw_132_52 : mm_code 132 52 = some (.iaload, 1, 0, 0, []) := rfl
theorem rw_132_53 : mm_code 132 53 = some (.istore 5, 2, 0, 0, []) := rfl
theorem rw_132_55 : mm_code 132 55 = some (.iload_n 3, 1, 0, 0, []) := rfl
theorem rw_132_56 : mm_code 132 56 = some (.iconst 1, 1, 1, 0, []) := rfl
theorem rw_132_57 : mm_code 132 57 = some (.if_icmp .ne 18, 3, 75, 0, []) := rfl
theorem rw_132_60 : mm_code 132 60 = some (.aload_n 0, 1, 0, 0, []) := rfl
theorem rw_132_61 : mm_code 132 61 = some (.getfield 68, 3, 10, 8, [3, 18]) := rfl
theorem rw_132_64 : mm_code 132 64 = some (.iload 4, 2, 0, 0, []) := rfl
theorem rw_132_66 : mm_code 132 66 = some (.invokevirtual 257, 3, 47, 2, [69, 0]) := rfl
theorem rw_132_69 : mm_code 132 69 = some (.iload 5, 2, 0, 0, []) := rfl
theorem rw_132_71 : mm_code 132 71 = some (.invokestatic 260, 3, 145, 2, [70, 0]) := rfl
theorem rw_132_74 : mm_code 132 74 = some (.lreturn, 1, 0, 0, []) := rfl
theorem rw_132_75 : mm_code 132 75 = some (.aload_n 0, 1, 0, 0, []) := rfl
theorem rw_132_76 : mm_code 132 76 = some (.iload_n 1, 1, 0, 0, []) := rfl
theorem rw_132_77 : mm_code 132 77 = some (.invokevirtual 188, 3, 141, 2, [46, 0]) := rfl
theorem rw_132_80 : mm_code 132 80 = some (.lconst 0, 1, 0, 0, []) := rfl
theorem rw_132_81 : mm_code 132 81 = some (.lstore 6, 2, 0, 0, []) := rfl
theorem rw_132_83 : mm_code 132 83 = some (.iconst 0, 1, 0, 0, []) := rfl
theorem rw_132_84 : mm_code 132 84 = some (.istore 8, 2, 0, 0, []) := rfl
theorem rw_132_86 : mm_code 132 86 = some (.iload 8, 2, 0, 0, []) := rfl
theorem rw_132_88 : mm_code 132 88 = some (.aload_n 0, 1, 0, 0, []) := rfl
theorem rw_132_89 : mm_code 132 89 = some (.getfield 85, 3, 10, 12, [0, 23]) := rfl
theorem rw_132_92 : mm_code 132 92 = some (.if_icmp .ge 55, 3, 147, 0, []) := rfl
theorem rw_132_95 : mm_code 132 95 = some (.aload_n 0, 1, 0, 0, []) := rfl
theorem rw_132_96 : mm_code 132 96 = some (.getfield 26, 3, 10, 2, [3, 6]) := rfl
theorem rw_132_99 : mm_code 132 99 = some (.iload 8, 2, 0, 0, []) := rfl
theorem rw_132_101 : mm_code 132 101 = some (.iload_n 2, 1, 0, 0, []) := rfl
theorem rw_132_102 : mm_code 132 102 = some (.invokevirtual 263, 3, 13, 3, [71, 0]) := rfl
theorem rw_132_105 : mm_code 132 105 = some (.ifCond .ne 36, 3, 141, 0, []) := rfl
theorem rw_132_108 : mm_code 132 108 = some (.lload 6, 2, 0, 0, []) := rfl
theorem rw_132_110 : mm_code 132 110 = some (.aload_n 0, 1, 0, 0, []) := rfl
theorem rw_132_111 : mm_code 132 111 = some (.getfield 26, 3, 10, 2, [3, 6]) := rfl
theorem rw_132_114 : mm_code 132 114 = some (.getfield 214, 3, 1, 0, [3, 54]) := rfl
theorem rw_132_117 : mm_code 132 117 = some (.iload 8, 2, 0, 0, []) := rfl
theorem rw_132_119 : mm_code 132 119 = some (.laload, 1, 0, 0, []) := rfl
theorem rw_132_120 : mm_code 132 120 = some (.aload_n 0, 1, 0, 0, []) := rfl
theorem rw_132_121 : mm_code 132 121 = some (.getfield 68, 3, 10, 8, [3, 18]) := rfl
theorem rw_132_124 : mm_code 132 124 = some (.iload 4, 2, 0, 0, []) := rfl
theorem rw_132_126 : mm_code 132 126 = some (.invokevirtual 266, 3, 48, 2, [72, 0]) := rfl
theorem rw_132_129 : mm_code 132 129 = some (.land, 1, 0, 0, []) := rfl
theorem rw_132_130 : mm_code 132 130 = some (.invokestatic 270, 3, 247, 1, [73, 0]) := rfl
theorem rw_132_133 : mm_code 132 133 = some (.iload 5, 2, 0, 0, []) := rfl
theorem rw_132_135 : mm_code 132 135 = some (.invokestatic 260, 3, 145, 2, [70, 0]) := rfl
theorem rw_132_138 : mm_code 132 138 = some (.ladd, 1, 0, 0, []) := rfl
theorem rw_132_139 : mm_code 132 139 = some (.lstore 6, 2, 0, 0, []) := rfl
theorem rw_132_141 : mm_code 132 141 = some (.iinc 8 1, 3, 1, 0, []) := rfl
theorem rw_132_144 : mm_code 132 144 = some (.goto (-58), 3, 86, 0, []) := rfl
theorem rw_132_147 : mm_code 132 147 = some (.lload 6, 2, 0, 0, []) := rfl
theorem rw_132_149 : mm_code 132 149 = some (.lreturn, 1, 0, 0, []) := rfl
theorem rw_133_0 : mm_code 133 0 = some (.aload_n 0, 1, 0, 0, []) := rfl
theorem rw_133_1 : mm_code 133 1 = some (.iload_n 1, 1, 0, 0, []) := rfl
theorem rw_133_2 : mm_code 133 2 = some (.invokevirtual 182, 3, 139, 2, [44, 0]) := rfl
theorem rw_133_5 : mm_code 133 5 = some (.ifCond .eq 14, 3, 19, 0, []) := rfl
theorem rw_133_8 : mm_code 133 8 = some (.aload_n 0, 1, 0, 0, []) := rfl
theorem rw_133_9 : mm_code 133 9 = some (.getfield 68, 3, 10, 8, [3, 18]) := rfl
theorem rw_133_12 : mm_code 133 12 = some (.iload_n 2, 1, 0, 0, []) := rfl
theorem rw_133_13 : mm_code 133 13 = some (.invokevirtual 185, 3, 44, 2, [45, 0]) := rfl
theorem rw_133_16 : mm_code 133 16 = some (.ifCond .ne 5, 3, 21, 0, []) := rfl
theorem rw_133_19 : mm_code 133 19 = some (.iconst (-1), 1, 1, 1, []) := rfl
theorem rw_133_20 : mm_code 133 20 = some (.ireturn, 1, 0, 0, []) := rfl
theorem rw_133_21 : mm_code 133 21 = some (.aload_n 0, 1, 0, 0, []) := rfl
theorem rw_133_22 : mm_code 133 22 = some (.iload_n 1, 1, 0, 0, []) := rfl
theorem rw_133_23 : mm_code 133 23 = some (.invokevirtual 188, 3, 141, 2, [46, 0]) := rfl
theorem rw_133_26 : mm_code 133 26 = some (.iconst 0, 1, 0, 0, []) := rfl
theorem rw_133_27 : mm_code 133 27 = some (.istore_n 3, 1, 0, 0, []) := rfl
theorem rw_133_28 : mm_code 133 28 = some (.iconst 0, 1, 0, 0, []) := rfl
theorem rw_133_29 : mm_code 133 29 = some (.istore 4, 2, 0, 0, []) := rfl
theorem rw_133_31 : mm_code 133 31 = some (.iload 4, 2, 0, 0, []) := rfl
theorem rw_133_33 : mm_code 133 33 = some (.aload_n 0, 1, 0, 0, []) := rfl
theorem rw_133_34 : mm_code 133 34 = some (.getfield 85, 3, 10, 12, [0, 23]) := rfl
theorem rw_133_37 : mm_code 133 37 = some (.if_icmp .ge 46, 3, 83, 0, []) := rfl
theorem rw_133_40 : mm_code 133 40 = some (.aload_n 0, 1, 0, 0, []) := rfl
theorem rw_133_41 : mm_code 133 41 = some (.getfield 26, 3, 10, 2, [3, 6]) := rfl
theorem rw_133_44 : mm_code 133 44 = some (.iload 4, 2, 0, 0, []) := rfl
theorem rw_133_46 : mm_code 133 46 = some (.iload_n 2, 1, 0, 0, []) := rfl
theorem rw_133_47 : mm_code 133 47 = some (.invokevirtual 263, 3, 13, 3, [71, 0]) := rfl
theorem rw_133_50 : mm_code 133 50 = some (.ifCond .ne 27, 3, 77, 0, []) := rfl
theorem rw_133_53 : mm_code 133 53 = some (.aload_n 0, 1, 0, 0, []) := rfl
theorem rw_133_54 : mm_code 133 54 = some (.getfield 26, 3, 10, 2, [3, 6]) := rfl
theorem rw_133_57 : mm_code 133 57 = some (.iload 4, 2, 0, 0, []) := rfl
theorem rw_133_59 : mm_code 133 59 = some (.aload_n 0, 1, 0, 0, []) := rfl
theorem rw_133_60 : mm_code 133 60 = some (.getfield 26, 3, 10, 2, [3, 6]) := rfl
theorem rw_133_63 : mm_code 133 63 = some (.getfield 191, 3, 1, 3, [3, 47]) := rfl
theorem rw_133_66 : mm_code 133 66 = some (.iload_n 2, 1, 0, 0, []) := rfl
theorem rw_133_67 : mm_code 133 67 = some (.laload, 1, 0, 0, []) := rfl
theorem rw_133_68 : mm_code 133 68 = some (.invokevirtual 276, 3, 14, 3, [74, 0]) := rfl
theorem rw_133_71 : mm_code 133 71 = some (.ifCond .eq 6, 3, 77, 0, []) := rfl
theorem rw_133_74 : mm_code 133 74 = some (.iinc 3 1, 3, 1, 0, []) := rfl
theorem rw_133_77 : mm_code 133 77 = some (.iinc 4 1, 3, 1, 0, []) := rfl
theorem rw_133_80 : mm_code 133 80 = some (.goto (-49), 3, 31, 0, []) := rfl
theorem rw_133_83 : mm_code 133 83 = some (.iload_n 3, 1, 0, 0, []) := rfl
theorem rw_133_84 : mm_code 133 84 = some (.ireturn, 1, 0, 0, []) := rfl
theorem rw_134_0 : mm_code 134 0 = some (.aload_n 0, 1, 0, 0, []) := rfl
theorem rw_134_1 : mm_code 134 1 = some (.iload_n 1, 1, 0, 0, []) := rfl
theorem rw_134_2 : mm_code 134 2 = some (.invokevirtual 182, 3, 139, 2, [44, 0]) := rfl
theorem rw_134_5 : mm_code 134 5 = some (.ifCond .eq 14, 3, 19, 0, []) := rfl
theorem rw_134_8 : mm_code 134 8 = some (.aload_n 0, 1, 0, 0, []) := rfl
theorem rw_134_9 : mm_code 134 9 = some (.getfield 68, 3, 10, 8, [3, 18]) := rfl
theorem rw_134_12 : mm_code 134 12 = some (.iload_n 2, 1, 0, 0, []) := rfl
theorem rw_134_13 : mm_code 134 13 = some (.invokevirtual 185, 3, 44, 2, [45, 0]) := rfl
theorem rw_134_16 : mm_code 134 16 = some (.ifCond .ne 5, 3, 21, 0, []) := rfl
theorem rw_134_19 : mm_code 134 19 = some (.iconst (-1), 1, 1, 1, []) := rfl
theorem rw_134_20 : mm_code 134 20 = some (.ireturn, 1, 0, 0, []) := rfl
theorem rw_134_21 : mm_code 134 21 = some (.aload_n 0, 1, 0, 0, []) := rfl
theorem rw_134_22 : mm_code 134 22 = some (.iload_n 1, 1, 0, 0, []) := rfl
theorem rw_134_23 : mm_code 134 23 = some (.invokevirtual 188, 3, 141, 2, [46, 0]) := rfl
theorem rw_134_26 : mm_code 134 26 = some (.aload_n 0, 1, 0, 0, []) := rfl
theorem rw_134_27 : mm_code 134 27 = some (.getfield 47, 3, 10, 5, [3, 12]) := rfl
theorem rw_134_30 : mm_code 134 30 = some (.aload_n 0, 1, 0, 0, []) := rfl
theorem rw_134_31 : mm_code 134 31 = some (.getfield 68, 3, 10, 8, [3, 18]) := rfl
theorem rw_134_34 : mm_code 134 34 = some (.aload_n 0, 1, 0, 0, []) := rfl
theorem rw_134_35 : mm_code 134 35 = some (.getfield 26, 3, 10, 2, [3, 6]) := rfl
theorem rw_134_38 : mm_code 134 38 = some (.aload_n 0, 1, 0, 0, []) := rfl
theorem rw_134_39 : mm_code 134 39 = some (.getfield 85, 3, 10, 12, [0, 23]) := rfl
theorem rw_134_42 : mm_code 134 42 = some (.iload_n 2, 1, 0, 0, []) := rfl
theorem rw_134_43 : mm_code 134 43 = some (.invokevirtual 280, 3, 2, 5, [75, 0]) := rfl
theorem rw_134_46 : mm_code 134 46 = some (.ireturn, 1, 0, 0, []) := rfl
theorem rw_135_0 : mm_code 135 0 = some (.aload_n 0, 1, 0, 0, []) := rfl
theorem rw_135_1 : mm_code 135 1 = some (.iload_n 1, 1, 0, 0, []) := rfl
theorem rw_135_2 : mm_code 135 2 = some (.invokevirtual 182, 3, 139, 2, [44, 0]) := rfl
theorem rw_135_5 : mm_code 135 5 = some (.ifCond .eq 22, 3, 27, 0, []) := rfl
theorem rw_135_8 : mm_code 135 8 = some (.aload_n 0, 1, 0, 0, []) := rfl
theorem rw_135_9 : mm_code 135 9 = some (.iload_n 2, 1, 0, 0, []) := rfl
theorem rw_135_10 : mm_code 135 10 = some (.invokevirtual 198, 3, 140, 2, [49, 0]) := rfl
theorem rw_135_13 : mm_code 135 13 = some (.ifCond .eq 14, 3, 27, 0, []) := rfl
theorem rw_135_16 : mm_code 135 16 = some (.aload_n 0, 1, 0, 0, []) := rfl
theorem rw_135_17 : mm_code 135 17 = some (.getfield 68, 3, 10, 8, [3, 18]) := rfl
theorem rw_135_20 : mm_code 135 20 = some (.iload_n 3, 1, 0, 0, []) := rfl
theorem rw_135_21 : mm_code 135 21 = some (.invokevirtual 150, 3, 43, 2, [55, 0]) := rfl
theorem rw_135_24 : mm_code 135 24 = some (.ifCond .ne 6, 3, 30, 0, []) := rfl
theorem rw_135_27 : mm_code 135 27 = some (.bipush (-2), 2, 2, 1, []) := rfl
theorem rw_135_29 : mm_code 135 29 = some (.ireturn, 1, 0, 0, []) := rfl
theorem rw_135_30 : mm_code 135 30 = some (.iload 4, 2, 0, 0, []) := rfl
theorem rw_135_32 : mm_code 135 32 = some (.ifCond .lt 21, 3, 53, 0, []) := rfl
theorem rw_135_35 : mm_code 135 35 = some (.iload 4, 2, 0, 0, []) := rfl
theorem rw_135_37 : mm_code 135 37 = some (.bipush 9, 2, 9, 0, []) := rfl
theorem rw_135_39 : mm_code 135 39 = some (.if_icmp .gt 14, 3, 53, 0, []) := rfl
theorem rw_135_42 : mm_code 135 42 = some (.iload 5, 2, 0, 0, []) := rfl
theorem rw_135_44 : mm_code 135 44 = some (.ifCond .lt 9, 3, 53, 0, []) := rfl
theorem rw_135_47 : mm_code 135 47 = some (.iload 5, 2, 0, 0, []) := rfl
theorem rw_135_49 : mm_code 135 49 = some (.iconst 2, 1, 2, 0, []) := rfl
theorem rw_135_50 : mm_code 135 50 = some (.if_icmp .le 6, 3, 56, 0, []) := rfl
theorem rw_135_53 : mm_code 135 53 = some (.bipush (-2), 2, 2, 1, []) := rfl
theorem rw_135_55 : mm_code 135 55 = some (.ireturn, 1, 0, 0, []) := rfl
theorem rw_135_56 : mm_code 135 56 = some (.aload_n 0, 1, 0, 0, []) := rfl
theorem rw_135_57 : mm_code 135 57 = some (.iload_n 1, 1, 0, 0, []) := rfl
theorem rw_135_58 : mm_code 135 58 = some (.invokevirtual 188, 3, 141, 2, [46, 0]) := rfl
theorem rw_135_61 : mm_code 135 61 = some (.aload_n 0, 1, 0, 0, []) := rfl
theorem rw_135_62 : mm_code 135 62 = some (.getfield 68, 3, 10, 8, [3, 18]) := rfl
theorem rw_135_65 : mm_code 135 65 = some (.iload_n 3, 1, 0, 0, []) := rfl
theorem rw_135_66 : mm_code 135 66 = some (.invokevirtual 217, 3, 45, 2, [56, 0]) := rfl
theorem rw_135_69 : mm_code 135 69 = some (.ifCond .eq 25, 3, 94, 0, []) := rfl
theorem rw_135_72 : mm_code 135 72 = some (.aload_n 0, 1, 0, 0, []) := rfl
theorem rw_135_73 : mm_code 135 73 = some (.getfield 54, 3, 10, 6, [3, 14]) := rfl
theorem rw_135_76 : mm_code 135 76 = some (.aload_n 0, 1, 0, 0, []) := rfl
theorem rw_135_77 : mm_code 135 77 = some (.getfield 68, 3, 10, 8, [3, 18]) := rfl
theorem rw_135_80 : mm_code 135 80 = some (.aload_n 0, 1, 0, 0, []) := rfl
theorem rw_135_81 : mm_code 135 81 = some (.getfield 26, 3, 10, 2, [3, 6]) := rfl
theorem rw_135_84 : mm_code 135 84 = some (.iload_n 2, 1, 0, 0, []) := rfl
theorem rw_135_85 : mm_code 135 85 = some (.iload_n 3, 1, 0, 0, []) := rfl
theorem rw_135_86 : mm_code 135 86 = some (.iload 4, 2, 0, 0, []) := rfl
theorem rw_135_88 : mm_code 135 88 = some (.invokevirtual 284, 3, 16, 6, [76, 0]) := rfl
theorem rw_135_91 : mm_code 135 91 = some (.goto 22, 3, 113, 0, []) := rfl
theorem rw_135_94 : mm_code 135 94 = some (.aload_n 0, 1, 0, 0, []) := rfl
theorem rw_135_95 : mm_code 135 95 = some (.getfield 54, 3, 10, 6, [3, 14]) := rfl
theorem rw_135_98 : mm_code 135 98 = some (.aload_n 0, 1, 0, 0, []) := rfl
theorem rw_135_99 : mm_code 135 99 = some (.getfield 68, 3, 10, 8, [3, 18]) := rfl
theorem rw_135_102 : mm_code 135 102 = some (.aload_n 0, 1, 0, 0, []) := rfl
theorem rw_135_103 : mm_code 135 103 = some (.getfield 26, 3, 10, 2, [3, 6]) := rfl
theorem rw_135_106 : mm_code 135 106 = some (.iload_n 2, 1, 0, 0, []) := rfl
theorem rw_135_107 : mm_code 135 107 = some (.iload_n 3, 1, 0, 0, []) := rfl
theorem rw_135_108 : mm_code 135 108 = some (.iload 4, 2, 0, 0, []) := rfl
theorem rw_135_110 : mm_code 135 110 = some (.invokevirtual 288, 3, 18, 6, [77, 0]) := rfl
theorem rw_135_113 : mm_code 135 113 = some (.iload 5, 2, 0, 0, []) := rfl
theorem rw_135_115 : mm_code 135 115 = some (.ifCond .ne 11, 3, 126, 0, []) := rfl
theorem rw_135_118 : mm_code 135 118 = some (.aload_n 0, 1, 0, 0, []) := rfl
theorem rw_135_119 : mm_code 135 119 = some (.getfield 54, 3, 10, 6, [3, 14]) := rfl
theorem rw_135_122 : mm_code 135 122 = some (.getfield 291, 3, 2, 4, [0, 78]) := rfl
theorem rw_135_125 : mm_code 135 125 = some (.ireturn, 1, 0, 0, []) := rfl
theorem rw_135_126 : mm_code 135 126 = some (.iload 5, 2, 0, 0, []) := rfl
theorem rw_135_128 : mm_code 135 128 = some (.iconst 1, 1, 1, 0, []) := rfl
theorem rw_135_129 : mm_code 135 129 = some (.if_icmp .ne 13, 3, 142, 0, []) := rfl
theorem rw_135_132 : mm_code 135 132 = some (.aload_n 0, 1, 0, 0, []) := rfl
theorem rw_135_133 : mm_code 135 133 = some (.getfield 54, 3, 10, 6, [3, 14]) := rfl
theorem rw_135_136 : mm_code 135 136 = some (.getfield 294, 3, 2, 5, [0, 79]) := rfl
theorem rw_135_139 : mm_code 135 139 = some (.goto 10, 3, 149, 0, []) := rfl
theorem rw_135_142 : mm_code 135 142 = some (.aload_n 0, 1, 0, 0, []) := rfl
theorem rw_135_143 : mm_code 135 143 = some (.getfield 54, 3, 10, 6, [3, 14]) := rfl
theorem rw_135_146 : mm_code 135 146 = some (.getfield 297, 3, 2, 6, [0, 80]) := rfl
theorem rw_135_149 : mm_code 135 149 = some (.ireturn, 1, 0, 0, []) := rfl
theorem rw_136_0 : mm_code 136 0 = some (.iload_n 1, 1, 0, 0, []) := rfl
theorem rw_136_1 : mm_code 136 1 = some (.invokestatic 233, 3, 143, 1, [61, 0]) := rfl
theorem rw_136_4 : mm_code 136 4 = some (.ifCond .eq 25, 3, 29, 0, []) := rfl
theorem rw_136_7 : mm_code 136 7 = some (.aload_n 0, 1, 0, 0, []) := rfl
theorem rw_136_8 : mm_code 136 8 = some (.getfield 68, 3, 10, 8, [3, 18]) := rfl
theorem rw_136_11 : mm_code 136 11 = some (.iload_n 2, 1, 0, 0, []) := rfl
theorem rw_136_12 : mm_code 136 12 = some (.invokevirtual 150, 3, 43, 2, [55, 0]) := rfl
theorem rw_136_15 : mm_code 136 15 = some (.ifCond .eq 14, 3, 29, 0, []) := rfl
theorem rw_136_18 : mm_code 136 18 = some (.aload_n 0, 1, 0, 0, []) := rfl
theorem rw_136_19 : mm_code 136 19 = some (.getfield 68, 3, 10, 8, [3, 18]) := rfl
theorem rw_136_22 : mm_code 136 22 = some (.iload_n 2, 1, 0, 0, []) := rfl
theorem rw_136_23 : mm_code 136 23 = some (.invokevirtual 217, 3, 45, 2, [56, 0]) := rfl
theorem rw_136_26 : mm_code 136 26 = some (.ifCond .eq 5, 3, 31, 0, []) := rfl
theorem rw_136_29 : mm_code 136 29 = some (.iconst (-1), 1, 1, 1, []) := rfl
theorem rw_136_30 : mm_code 136 30 = some (.ireturn, 1, 0, 0, []) := rfl
theorem rw_136_31 : mm_code 136 31 = some (.aload_n 0, 1, 0, 0, []) := rfl
theorem rw_136_32 : mm_code 136 32 = some (.invokevirtual 114, 3, 142, 1, [32, 0]) := rfl
theorem rw_136_35 : mm_code 136 35 = some (.aload_n 0, 1, 0, 0, []) := rfl
theorem rw_136_36 : mm_code 136 36 = some (.getfield 61, 3, 10, 7, [3, 16]) := rfl
theorem rw_136_39 : mm_code 136 39 = some (.aload_n 0, 1, 0, 0, []) := rfl
theorem rw_136_40 : mm_code 136 40 = some (.getfield 33, 3, 10, 3, [3, 8]) := rfl
theorem rw_136_43 : mm_code 136 43 = some (.iload_n 1, 1, 0, 0, []) := rfl
theorem rw_136_44 : mm_code 136 44 = some (.aload_n 0, 1, 0, 0, []) := rfl
theorem rw_136_45 : mm_code 136 45 = some (.getfield 68, 3, 10, 8, [3, 18]) := rfl
theorem rw_136_48 : mm_code 136 48 = some (.aload_n 0, 1, 0, 0, []) := rfl
theorem rw_136_49 : mm_code 136 49 = some (.getfield 26, 3, 10, 2, [3, 6]) := rfl
theorem rw_136_52 : mm_code 136 52 = some (.iload_n 2, 1, 0, 0, []) := rfl
theorem rw_136_53 : mm_code 136 53 = some (.invokevirtual 300, 3, 69, 6, [81, 0]) := rfl
theorem rw_136_56 : mm_code 136 56 = some (.aload_n 0, 1, 0, 0, []) := rfl
theorem rw_136_57 : mm_code 136 57 = some (.getfield 61, 3, 10, 7, [3, 16]) := rfl
theorem rw_136_60 : mm_code 136 60 = some (.invokevirtual 304, 3, 70, 1, [82, 0]) := rfl
theorem rw_136_63 : mm_code 136 63 = some (.ireturn, 1, 0, 0, []) := rfl
theorem rw_137_0 : mm_code 137 0 = some (.iload_n 1, 1, 0, 0, []) := rfl
theorem rw_137_1 : mm_code 137 1 = some (.invokestatic 233, 3, 143, 1, [61, 0]) := rfl
theorem rw_137_4 : mm_code 137 4 = some (.ifCond .eq 29, 3, 33, 0, []) := rfl
theorem rw_137_7 : mm_code 137 7 = some (.aload_n 0, 1, 0, 0, []) := rfl
theorem rw_137_8 : mm_code 137 8 = some (.getfield 68, 3, 10, 8, [3, 18]) := rfl
theorem rw_137_11 : mm_code 137 11 = some (.iload_n 2, 1, 0, 0, []) := rfl
theorem rw_137_12 : mm_code 137 12 = some (.invokevirtual 150, 3, 43, 2, [55, 0]) := rfl
theorem rw_137_15 : mm_code 137 15 = some (.ifCond .eq 18, 3, 33, 0, []) := rfl
theorem rw_137_18 : mm_code 137 18 = some (.aload_n 0, 1, 0, 0, []) := rfl
theorem rw_137_19 : mm_code 137 19 = some (.getfield 68, 3, 10, 8, [3, 18]) := rfl
theorem rw_137_22 : mm_code 137 22 = some (.iload_n 2, 1, 0, 0, []) := rfl
theorem rw_137_23 : mm_code 137 23 = some (.invokevirtual 217, 3, 45, 2, [56, 0]) := rfl
theorem rw_137_26 : mm_code 137 26 = some (.ifCond .ne 7, 3, 33, 0, []) := rfl
theorem rw_137_29 : mm_code 137 29 = some (.iload_n 3, 1, 0, 0, []) := rfl
theorem rw_137_30 : mm_code 137 30 = some (.ifCond .ge 5, 3, 35, 0, []) := rfl
theorem rw_137_33 : mm_code 137 33 = some (.iconst (-1), 1, 1, 1, []) := rfl
theorem rw_137_34 : mm_code 137 34 = some (.ireturn, 1, 0, 0, []) := rfl
theorem rw_137_35 : mm_code 137 35 = some (.aload_n 0, 1, 0, 0, []) := rfl
theorem rw_137_36 : mm_code 137 36 = some (.getfield 68, 3, 10, 8, [3, 18]) := rfl
theorem rw_137_39 : mm_code 137 39 = some (.iload_n 2, 1, 0, 0, []) := rfl
theorem rw_137_40 : mm_code 137 40 = some (.invokevirtual 257, 3, 47, 2, [69, 0]) := rfl
theorem rw_137_43 : mm_code 137 43 = some (.bipush 6, 2, 6, 0, []) := rfl
theorem rw_137_45 : mm_code 137 45 = some (.if_icmp .le 5, 3, 50, 0, []) := rfl
theorem rw_137_48 : mm_code 137 48 = some (.iconst (-1), 1, 1, 1, []) := rfl
theorem rw_137_49 : mm_code 137 49 = some (.ireturn, 1, 0, 0, []) := rfl
theorem rw_137_50 : mm_code 137 50 = some (.aload_n 0, 1, 0, 0, []) := rfl
theorem rw_137_51 : mm_code 137 51 = some (.invokevirtual 114, 3, 142, 1, [32, 0]) := rfl
theorem rw_137_54 : mm_code 137 54 = some (.aload_n 0, 1, 0, 0, []) := rfl
theorem rw_137_55 : mm_code 137 55 = some (.getfield 33, 3, 10, 3, [3, 8]) := rfl
theorem rw_137_58 : mm_code 137 58 = some (.aload_n 0, 1, 0, 0, []) := rfl
theorem rw_137_59 : mm_code 137 59 = some (.getfield 26, 3, 10, 2, [3, 6]) := rfl
theorem rw_137_62 : mm_code 137 62 = some (.aload_n 0, 1, 0, 0, []) := rfl
theorem rw_137_63 : mm_code 137 63 = some (.getfield 68, 3, 10, 8, [3, 18]) := rfl
theorem rw_137_66 : mm_code 137 66 = some (.getfield 120, 3, 5, 0, [0, 34]) := rfl
theorem rw_137_69 : mm_code 137 69 = some (.invokevirtual 123, 3, 24, 3, [35, 0]) := rfl
theorem rw_137_72 : mm_code 137 72 = some (.aload_n 0, 1, 0, 0, []) := rfl
theorem rw_137_73 : mm_code 137 73 = some (.getfield 61, 3, 10, 7, [3, 16]) := rfl
theorem rw_137_76 : mm_code 137 76 = some (.aload_n 0, 1, 0, 0, []) := rfl
theorem rw_137_77 : mm_code 137 77 = some (.getfield 33, 3, 10, 3, [3, 8]) := rfl
theorem rw_137_80 : mm_code 137 80 = some (.iload_n 1, 1, 0, 0, []) := rfl
theorem rw_137_81 : mm_code 137 81 = some (.aload_n 0, 1, 0, 0, []) := rfl
theorem rw_137_82 : mm_code 137 82 = some (.getfield 68, 3, 10, 8, [3, 18]) := rfl
theorem rw_137_85 : mm_code 137 85 = some (.aload_n 0, 1, 0, 0, []) := rfl
theorem rw_137_86 : mm_code 137 86 = some (.getfield 26, 3, 10, 2, [3, 6]) := rfl
theorem rw_137_89 : mm_code 137 89 = some (.iload_n 2, 1, 0, 0, []) := rfl
theorem rw_137_90 : mm_code 137 90 = some (.invokevirtual 300, 3, 69, 6, [81, 0]) := rfl
theorem rw_137_93 : mm_code 137 93 = some (.aload_n 0, 1, 0, 0, []) := rfl
theorem rw_137_94 : mm_code 137 94 = some (.getfield 61, 3, 10, 7, [3, 16]) := rfl
theorem rw_137_97 : mm_code 137 97 = some (.invokevirtual 308, 3, 71, 1, [83, 0]) := rfl
theorem rw_137_100 : mm_code 137 100 = some (.ifCond .ne 6, 3, 106, 0, []) := rfl
theorem rw_137_103 : mm_code 137 103 = some (.bipush (-2), 2, 2, 1, []) := rfl
theorem rw_137_105 : mm_code 137 105 = some (.ireturn, 1, 0, 0, []) := rfl
theorem rw_137_106 : mm_code 137 106 = some (.iload_n 3, 1, 0, 0, []) := rfl
theorem rw_137_107 : mm_code 137 107 = some (.ifCond .ne 11, 3, 118, 0, []) := rfl
theorem rw_137_110 : mm_code 137 110 = some (.aload_n 0, 1, 0, 0, []) := rfl
theorem rw_137_111 : mm_code 137 111 = some (.getfield 61, 3, 10, 7, [3, 16]) := rfl
theorem rw_137_114 : mm_code 137 114 = some (.getfield 312, 3, 7, 8, [0, 84]) := rfl
theorem rw_137_117 : mm_code 137 117 = some (.ireturn, 1, 0, 0, []) := rfl
theorem rw_137_118 : mm_code 137 118 = some (.iload_n 3, 1, 0, 0, []) := rfl
theorem rw_137_119 : mm_code 137 119 = some (.aload_n 0, 1, 0, 0, []) := rfl
theorem rw_137_120 : mm_code 137 120 = some (.getfield 61, 3, 10, 7, [3, 16]) := rfl
theorem rw_137_123 : mm_code 137 123 = some (.getfield 312, 3, 7, 8, [0, 84]) := rfl
theorem rw_137_126 : mm_code 137 126 = some (.if_icmp .le 7, 3, 133, 0, []) := rfl
theorem rw_137_129 : mm_code 137 129 = some (.iconst (-1), 1, 1, 1, []) := rfl
theorem rw_137_130 : mm_code 137 130 = some (.goto 23, 3, 153, 0, []) := rfl
theorem rw_137_133 : mm_code 137 133 = some (.aload_n 0, 1, 0, 0, []) := rfl
theorem rw_137_134 : mm_code 137 134 = some (.getfield 68, 3, 10, 8, [3, 18]) := rfl
theorem rw_137_137 : mm_code 137 137 = some (.getfield 164, 3, 5, 7, [3, 85]) := rfl
theorem rw_137_140 : mm_code 137 140 = some (.iload_n 2, 1, 0, 0, []) := rfl
theorem rw_137_141 : mm_code 137 141 = some (.iaload, 1, 0, 0, []) := rfl
theorem rw_137_142 : mm_code 137 142 = some (.aload_n 0, 1, 0, 0, []) := rfl
theorem rw_137_143 : mm_code 137 143 = some (.getfield 61, 3, 10, 7, [3, 16]) := rfl
theorem rw_137_146 : mm_code 137 146 = some (.iload_n 3, 1, 0, 0, []) := rfl
theorem rw_137_147 : mm_code 137 147 = some (.iconst 1, 1, 1, 0, []) := rfl
theorem rw_137_148 : mm_code 137 148 = some (.isub, 1, 0, 0, []) := rfl
theorem rw_137_149 : mm_code 137 149 = some (.invokevirtual 315, 3, 75, 2, [86, 0]) := rfl
theorem rw_137_152 : mm_code 137 152 = some (.iadd, 1, 0, 0, []) := rfl
theorem rw_137_153 : mm_code 137 153 = some (.ireturn, 1, 0, 0, []) := rfl
theorem rw_138_0 : mm_code 138 0 = some (.iload_n 1, 1, 0, 0, []) := rfl
theorem rw_138_1 : mm_code 138 1 = some (.tableswitch 108 0 7 #[47, 55, 63, 71, 76, 84, 92, 100], 47, 109, 0, [48, 56, 64, 72, 77, 85, 93, 101]) := rfl
theorem rw_138_48 : mm_code 138 48 = some (.aload_n 0, 1, 0, 0, []) := rfl
theorem rw_138_49 : mm_code 138 49 = some (.getfield 68, 3, 10, 8, [3, 18]) := rfl
theorem rw_138_52 : mm_code 138 52 = some (.getfield 120, 3, 5, 0, [0, 34]) := rfl
theorem rw_138_55 : mm_code 138 55 = some (.ireturn, 1, 0, 0, []) := rfl
theorem rw_138_56 : mm_code 138 56 = some (.aload_n 0, 1, 0, 0, []) := rfl
theorem rw_138_57 : mm_code 138 57 = some (.getfield 68, 3, 10, 8, [3, 18]) := rfl
theorem rw_138_60 : mm_code 138 60 = some (.getfield 318, 3, 5, 2, [0, 87]) := rfl
theorem rw_138_63 : mm_code 138 63 = some (.ireturn, 1, 0, 0, []) := rfl
theorem rw_138_64 : mm_code 138 64 = some (.aload_n 0, 1, 0, 0, []) := rfl
theorem rw_138_65 : mm_code 138 65 = some (.getfield 68, 3, 10, 8, [3, 18]) := rfl
theorem rw_138_68 : mm_code 138 68 = some (.getfield 321, 3, 5, 3, [0, 88]) := rfl
theorem rw_138_71 : mm_code 138 71 = some (.ireturn, 1, 0, 0, []) := rfl
theorem rw_138_72 : mm_code 138 72 = some (.aload_n 0, 1, 0, 0, []) := rfl
theorem rw_138_73 : mm_code 138 73 = some (.getfield 85, 3, 10, 12, [0, 23]) := rfl
theorem rw_138_76 : mm_code 138 76 = some (.ireturn, 1, 0, 0, []) := rfl
theorem rw_138_77 : mm_code 138 77 = some (.aload_n 0, 1, 0, 0, []) := rfl
theorem rw_138_78 : mm_code 138 78 = some (.getfield 19, 3, 10, 1, [3, 4]) := rfl
theorem rw_138_81 : mm_code 138 81 = some (.getfield 104, 3, 3, 0, [0, 28]) := rfl
theorem rw_138_84 : mm_code 138 84 = some (.ireturn, 1, 0, 0, []) := rfl
theorem rw_138_85 : mm_code 138 85 = some (.aload_n 0, 1, 0, 0, []) := rfl
theorem rw_138_86 : mm_code 138 86 = some (.getfield 78, 3, 10, 10, [3, 21]) := rfl
theorem rw_138_89 : mm_code 138 89 = some (.getfield 134, 3, 6, 4, [0, 38]) := rfl
theorem rw_138_92 : mm_code 138 92 = some (.ireturn, 1, 0, 0, []) := rfl
theorem rw_138_93 : mm_code 138 93 = some (.aload_n 0, 1, 0, 0, []) := rfl
theorem rw_138_94 : mm_code 138 94 = some (.getfield 40, 3, 10, 4, [3, 10]) := rfl
theorem rw_138_97 : mm_code 138 97 = some (.getfield 323, 3, 9, 9, [0, 89]) := rfl
theorem rw_138_100 : mm_code 138 100 = some (.ireturn, 1, 0, 0, []) := rfl
theorem rw_138_101 : mm_code 138 101 = some (.aload_n 0, 1, 0, 0, []) := rfl
theorem rw_138_102 : mm_code 138 102 = some (.getfield 40, 3, 10, 4, [3, 10]) := rfl
theorem rw_138_105 : mm_code 138 105 = some (.getfield 324, 3, 9, 8, [0, 90]) := rfl
theorem rw_138_108 : mm_code 138 108 = some (.ireturn, 1, 0, 0, []) := rfl
theorem rw_138_109 : mm_code 138 109 = some (.iconst (-1), 1, 1, 1, []) := rfl
theorem rw_138_110 : mm_code 138 110 = some (.ireturn, 1, 0, 0, []) := rfl
theorem rw_139_0 : mm_code 139 0 = some (.iload_n 1, 1, 0, 0, []) := rfl
theorem rw_139_1 : mm_code 139 1 = some (.ifCond .lt 18, 3, 19, 0, []) := rfl
theorem rw_139_4 : mm_code 139 4 = some (.iload_n 1, 1, 0, 0, []) := rfl
theorem rw_139_5 : mm_code 139 5 = some (.aload_n 0, 1, 0, 0, []) := rfl
theorem rw_139_6 : mm_code 139 6 = some (.getfield 19, 3, 10, 1, [3, 4]) := rfl
theorem rw_139_9 : mm_code 139 9 = some (.getfield 104, 3, 3, 0, [0, 28]) := rfl
theorem rw_139_12 : mm_code 139 12 = some (.if_icmp .gt 7, 3, 19, 0, []) := rfl
theorem rw_139_15 : mm_code 139 15 = some (.iconst 1, 1, 1, 0, []) := rfl
theorem rw_139_16 : mm_code 139 16 = some (.goto 4, 3, 20, 0, []) := rfl
theorem rw_139_19 : mm_code 139 19 = some (.iconst 0, 1, 0, 0, []) := rfl
theorem rw_139_20 : mm_code 139 20 = some (.ireturn, 1, 1, 0, []) := rfl
theorem rw_140_0 : mm_code 140 0 = some (.iload_n 1, 1, 0, 0, []) := rfl
theorem rw_140_1 : mm_code 140 1 = some (.ifCond .lt 15, 3, 16, 0, []) := rfl
theorem rw_140_4 : mm_code 140 4 = some (.iload_n 1, 1, 0, 0, []) := rfl
theorem rw_140_5 : mm_code 140 5 = some (.aload_n 0, 1, 0, 0, []) := rfl
theorem rw_140_6 : mm_code 140 6 = some (.getfield 85, 3, 10, 12, [0, 23]) := rfl
theorem rw_140_9 : mm_code 140 9 = some (.if_icmp .ge 7, 3, 16, 0, []) := rfl
theorem rw_140_12 : mm_code 140 12 = some (.iconst 1, 1, 1, 0, []) := rfl
theorem rw_140_13 : mm_code 140 13 = some (.goto 4, 3, 17, 0, []) := rfl
theorem rw_140_16 : mm_code 140 16 = some (.iconst 0, 1, 0, 0, []) := rfl
theorem rw_140_17 : mm_code 140 17 = some (.ireturn, 1, 1, 0, []) := rfl
theorem rw_141_0 : mm_code 141 0 = some (.aload_n 0, 1, 0, 0, []) := rfl
theorem rw_141_1 : mm_code 141 1 = some (.getfield 26, 3, 10, 2, [3, 6]) := rfl
theorem rw_141_4 : mm_code 141 4 = some (.aload_n 0, 1, 0, 0, []) := rfl
theorem rw_141_5 : mm_code 141 5 = some (.getfield 68, 3, 10, 8, [3, 18]) := rfl
theorem rw_141_8 : mm_code 141 8 = some (.aload_n 0, 1, 0, 0, []) := rfl
theorem rw_141_9 : mm_code 141 9 = some (.getfield 19, 3, 10, 1, [3, 4]) := rfl
theorem rw_141_12 : mm_code 141 12 = some (.iload_n 1, 1, 0, 0, []) := rfl
theorem rw_141_13 : mm_code 141 13 = some (.invokevirtual 327, 3, 8, 4, [91, 0]) := rfl
theorem rw_141_16 : mm_code 141 16 = some (.return_, 1, 0, 0, []) := rfl
theorem rw_142_0 : mm_code 142 0 = some (.aload_n 0, 1, 0, 0, []) := rfl
theorem rw_142_1 : mm_code 142 1 = some (.getfield 26, 3, 10, 2, [3, 6]) := rfl
theorem rw_142_4 : mm_code 142 4 = some (.aload_n 0, 1, 0, 0, []) := rfl
theorem rw_142_5 : mm_code 142 5 = some (.getfield 68, 3, 10, 8, [3, 18]) := rfl
theorem rw_142_8 : mm_code 142 8 = some (.aload_n 0, 1, 0, 0, []) := rfl
theorem rw_142_9 : mm_code 142 9 = some (.getfield 19, 3, 10, 1, [3, 4]) := rfl
theorem rw_142_12 : mm_code 142 12 = some (.aload_n 0, 1, 0, 0, []) := rfl
theorem rw_142_13 : mm_code 142 13 = some (.getfield 19, 3, 10, 1, [3, 4]) := rfl
theorem rw_142_16 : mm_code 142 16 = some (.getfield 104, 3, 3, 0, [0, 28]) := rfl
theorem rw_142_19 : mm_code 142 19 = some (.invokevirtual 327, 3, 8, 4, [91, 0]) := rfl
theorem rw_142_22 : mm_code 142 22 = some (.return_, 1, 0, 0, []) := rfl
theorem rw_143_0 : mm_code 143 0 = some (.iload_n 0, 1, 0, 0, []) := rfl
theorem rw_143_1 : mm_code 143 1 = some (.ifCond .lt 13, 3, 14, 0, []) := rfl
theorem rw_143_4 : mm_code 143 4 = some (.iload_n 0, 1, 0, 0, []) := rfl
theorem rw_143_5 : mm_code 143 5 = some (.bipush 6, 2, 6, 0, []) := rfl
theorem rw_143_7 : mm_code 143 7 = some (.if_icmp .ge 7, 3, 14, 0, []) := rfl
theorem rw_143_10 : mm_code 143 10 = some (.iconst 1, 1, 1, 0, []) := rfl
theorem rw_143_11 : mm_code 143 11 = some (.goto 4, 3, 15, 0, []) := rfl
theorem rw_143_14 : mm_code 143 14 = some (.iconst 0, 1, 0, 0, []) := rfl
theorem rw_143_15 : mm_code 143 15 = some (.ireturn, 1, 1, 0, []) := rfl
theorem rw_144_0 : mm_code 144 0 = some (.lconst 1, 1, 1, 0, []) := rfl
theorem rw_144_1 : mm_code 144 1 = some (.iload_n 1, 1, 0, 0, []) := rfl
theorem rw_144_2 : mm_code 144 2 = some (.iload_n 0, 1, 0, 0, []) := rfl
theorem rw_144_3 : mm_code 144 3 = some (.isub, 1, 0, 0, []) := rfl
theorem rw_144_4 : mm_code 144 4 = some (.iconst 1, 1, 1, 0, []) := rfl
theorem rw_144_5 : mm_code 144 5 = some (.iadd, 1, 0, 0, []) := rfl
theorem rw_144_6 : mm_code 144 6 = some (.lshl, 1, 0, 0, []) := rfl
theorem rw_144_7 : mm_code 144 7 = some (.lconst 1, 1, 1, 0, []) := rfl
theorem rw_144_8 : mm_code 144 8 = some (.lsub, 1, 0, 0, []) := rfl
theorem rw_144_9 : mm_code 144 9 = some (.iload_n 0, 1, 0, 0, []) := rfl
theorem rw_144_10 : mm_code 144 10 = some (.lshl, 1, 0, 0, []) := rfl
theorem rw_144_11 : mm_code 144 11 = some (.lreturn, 1, 0, 0, []) := rfl
theorem rw_145_0 : mm_code 145 0 = some (.lconst 1, 1, 1, 0, []) := rfl
theorem rw_145_1 : mm_code 145 1 = some (.lstore_n 2, 1, 0, 0, []) := rfl
theorem rw_145_2 : mm_code 145 2 = some (.iconst 1, 1, 1, 0, []) := rfl
theorem rw_145_3 : mm_code 145 3 = some (.istore 4, 2, 0, 0, []) := rfl
theorem rw_145_5 : mm_code 145 5 = some (.iload 4, 2, 0, 0, []) := rfl
theorem rw_145_7 : mm_code 145 7 = some (.iload_n 1, 1, 0, 0, []) := rfl
theorem rw_145_8 : mm_code 145 8 = some (.if_icmp .gt 23, 3, 31, 0, []) := rfl
theorem rw_145_11 : mm_code 145 11 = some (.lload_n 2, 1, 0, 0, []) := rfl
theorem rw_145_12 : mm_code 145 12 = some (.iload_n 0, 1, 0, 0, []) := rfl
theorem rw_145_13 : mm_code 145 13 = some (.iload_n 1, 1, 0, 0, []) := rfl
theorem rw_145_14 : mm_code 145 14 = some (.isub, 1, 0, 0, []) := rfl
theorem rw_145_15 : mm_code 145 15 = some (.iload 4, 2, 0, 0, []) := rfl
theorem rw_145_17 : mm_code 145 17 = some (.iadd, 1, 0, 0, []) := rfl
theorem rw_145_18 : mm_code 145 18 = some (.i2l, 1, 0, 0, []) := rfl
theorem rw_145_19 : mm_code 145 19 = some (.lmul, 1, 0, 0, []) := rfl
theorem rw_145_20 : mm_code 145 20 = some (.iload 4, 2, 0, 0, []) := rfl
theorem rw_145_22 : mm_code 145 22 = some (.i2l, 1, 0, 0, []) := rfl
theorem rw_145_23 : mm_code 145 23 = some (.ldiv, 1, 0, 0, []) := rfl
theorem rw_145_24 : mm_code 145 24 = some (.lstore_n 2, 1, 0, 0, []) := rfl
theorem rw_145_25 : mm_code 145 25 = some (.iinc 4 1, 3, 1, 0, []) := rfl
theorem rw_145_28 : mm_code 145 28 = some (.goto (-23), 3, 5, 0, []) := rfl
theorem rw_145_31 : mm_code 145 31 = some (.iload_n 0, 1, 0, 0, []) := rfl
theorem rw_145_32 : mm_code 145 32 = some (.iload_n 1, 1, 0, 0, []) := rfl
theorem rw_145_33 : mm_code 145 33 = some (.if_icmp .ge 7, 3, 40, 0, []) := rfl
theorem rw_145_36 : mm_code 145 36 = some (.lconst 0, 1, 0, 0, []) := rfl
theorem rw_145_37 : mm_code 145 37 = some (.goto 4, 3, 41, 0, []) := rfl
theorem rw_145_40 : mm_code 145 40 = some (.lload_n 2, 1, 0, 0, []) := rfl
theorem rw_145_41 : mm_code 145 41 = some (.lreturn, 1, 0, 0, []) := rfl
theorem rw_148_0 : mm_code 147 0 = some (.aload_n 0, 1, 0, 0, []) := rfl
theorem rw_148_1 : mm_code 147 1 = some (.iconst 0, 1, 0, 0, []) := rfl
theorem rw_148_2 : mm_code 147 2 = some (.putfield 163, 3, 11, 2, [0, 51]) := rfl
theorem rw_148_5 : mm_code 147 5 = some (.aload_n 0, 1, 0, 0, []) := rfl
theorem rw_148_6 : mm_code 147 6 = some (.getfield 166, 3, 11, 1, [0, 52]) := rfl
theorem rw_148_9 : mm_code 147 9 = some (.bipush 20, 2, 20, 0, []) := rfl
theorem rw_148_11 : mm_code 147 11 = some (.iadd, 1, 0, 0, []) := rfl
theorem rw_148_12 : mm_code 147 12 = some (.sipush 500, 3, 500, 0, []) := rfl
theorem rw_148_15 : mm_code 147 15 = some (.if_icmp .le 5, 3, 20, 0, []) := rfl
theorem rw_148_18 : mm_code 147 18 = some (.iconst (-1), 1, 1, 1, []) := rfl
theorem rw_148_19 : mm_code 147 19 = some (.ireturn, 1, 0, 0, []) := rfl
theorem rw_148_20 : mm_code 147 20 = some (.iconst 0, 1, 0, 0, []) := rfl
theorem rw_148_21 : mm_code 147 21 = some (.istore 6, 2, 0, 0, []) := rfl
theorem rw_148_23 : mm_code 147 23 = some (.iload 6, 2, 0, 0, []) := rfl
theorem rw_148_25 : mm_code 147 25 = some (.bipush 20, 2, 20, 0, []) := rfl
theorem rw_148_27 : mm_code 147 27 = some (.if_icmp .ge 86, 3, 113, 0, []) := rfl
theorem rw_148_30 : mm_code 147 30 = some (.iload 6, 2, 0, 0, []) := rfl
theorem rw_148_32 : mm_code 147 32 = some (.iconst 4, 1, 4, 0, []) := rfl
theorem rw_148_33 : mm_code 147 33 = some (.if_icmp .ge 7, 3, 40, 0, []) := rfl
theorem rw_148_36 : mm_code 147 36 = some (.iload_n 1, 1, 0, 0, []) := rfl
theorem rw_148_37 : mm_code 147 37 = some (.goto 39, 3, 76, 0, []) := rfl
theorem rw_148_40 : mm_code 147 40 = some (.iload 6, 2, 0, 0, []) := rfl
theorem rw_148_42 : mm_code 147 42 = some (.bipush 8, 2, 8, 0, []) := rfl
theorem rw_148_44 : mm_code 147 44 = some (.if_icmp .ge 7, 3, 51, 0, []) := rfl
theorem rw_148_47 : mm_code 147 47 = some (.iload_n 2, 1, 0, 0, []) := rfl
theorem rw_148_48 : mm_code 147 48 = some (.goto 28, 3, 76, 0, []) := rfl
theorem rw_148_51 : mm_code 147 51 = some (.iload 6, 2, 0, 0, []) := rfl
theorem rw_148_53 : mm_code 147 53 = some (.bipush 12, 2, 12, 0, []) := rfl
theorem rw_148_55 : mm_code 147 55 = some (.if_icmp .ge 7, 3, 62, 0, []) := rfl
theorem rw_148_58 : mm_code 147 58 = some (.iload_n 3, 1, 0, 0, []) := rfl
theorem rw_148_59 : mm_code 147 59 = some (.goto 17, 3, 76, 0, []) := rfl
theorem rw_148_62 : mm_code 147 62 = some (.iload 6, 2, 0, 0, []) := rfl
theorem rw_148_64 : mm_code 147 64 = some (.bipush 16, 2, 16, 0, []) := rfl
theorem rw_148_66 : mm_code 147 66 = some (.if_icmp .ge 8, 3, 74, 0, []) := rfl
theorem rw_148_69 : mm_code 147 69 = some (.iload 4, 2, 0, 0, []) := rfl
theorem rw_148_71 : mm_code 147 71 = some (.goto 5, 3, 76, 0, []) := rfl
theorem rw_148_74 : mm_code 147 74 = some (.iload 5, 2, 0, 0, []) := rfl
theorem rw_148_76 : mm_code 147 76 = some (.istore 7, 2, 0, 0, []) := rfl
theorem rw_148_78 : mm_code 147 78 = some (.aload_n 0, 1, 0, 0, []) := rfl
theorem rw_148_79 : mm_code 147 79 = some (.getfield 7, 3, 11, 0, [3, 1]) := rfl
theorem rw_148_82 : mm_code 147 82 = some (.aload_n 0, 1, 0, 0, []) := rfl
theorem rw_148_83 : mm_code 147 83 = some (.getfield 166, 3, 11, 1, [0, 52]) := rfl
theorem rw_148_86 : mm_code 147 86 = some (.iload 6, 2, 0, 0, []) := rfl
theorem rw_148_88 : mm_code 147 88 = some (.iadd, 1, 0, 0, []) := rfl
theorem rw_148_89 : mm_code 147 89 = some (.iload 7, 2, 0, 0, []) := rfl
theorem rw_148_91 : mm_code 147 91 = some (.bipush 24, 2, 24, 0, []) := rfl
theorem rw_148_93 : mm_code 147 93 = some (.bipush 8, 2, 8, 0, []) := rfl
theorem rw_148_95 : mm_code 147 95 = some (.iload 6, 2, 0, 0, []) := rfl
theorem rw_148_97 : mm_code 147 97 = some (.iconst 4, 1, 4, 0, []) := rfl
theorem rw_148_98 : mm_code 147 98 = some (.irem, 1, 0, 0, []) := rfl
theorem rw_148_99 : mm_code 147 99 = some (.imul, 1, 0, 0, []) := rfl
theorem rw_148_100 : mm_code 147 100 = some (.isub, 1, 0, 0, []) := rfl
theorem rw_148_101 : mm_code 147 101 = some (.ishr, 1, 0, 0, []) := rfl
theorem rw_148_102 : mm_code 147 102 = some (.sipush 255, 3, 255, 0, []) := rfl
theorem rw_148_105 : mm_code 147 105 = some (.iand, 1, 0, 0, []) := rfl
theorem rw_148_106 : mm_code 147 106 = some (.iastore, 1, 0, 0, []) := rfl
theorem rw_148_107 : mm_code 147 107 = some (.iinc 6 1, 3, 1, 0, []) := rfl
theorem rw_148_110 : mm_code 147 110 = some (.goto (-87), 3, 23, 0, []) := rfl
theorem rw_148_113 : mm_code 147 113 = some (.aload_n 0, 1, 0, 0, []) := rfl
theorem rw_148_114 : mm_code 147 114 = some (.dup, 1, 0, 0, []) := rfl
theorem rw_148_115 : mm_code 147 115 = some (.getfield 166, 3, 11, 1, [0, 52]) := rfl
theorem rw_148_118 : mm_code 147 118 = some (.bipush 20, 2, 20, 0, []) := rfl
theorem rw_148_120 : mm_code 147 120 = some (.iadd, 1, 0, 0, []) := rfl
theorem rw_148_121 : mm_code 147 121 = some (.putfield 166, 3, 11, 1, [0, 52]) := rfl
theorem rw_148_124 : mm_code 147 124 = some (.aload_n 0, 1, 0, 0, []) := rfl
theorem rw_148_125 : mm_code 147 125 = some (.getfield 166, 3, 11, 1, [0, 52]) := rfl
theorem rw_148_128 : mm_code 147 128 = some (.ireturn, 1, 0, 0, []) := rfl
theorem rw_149_0 : mm_code 148 0 = some (.iload_n 0, 1, 0, 0, []) := rfl
theorem rw_149_1 : mm_code 148 1 = some (.iload_n 1, 1, 0, 0, []) := rfl
theorem rw_149_2 : mm_code 148 2 = some (.if_icmp .lt 12, 3, 14, 0, []) := rfl
theorem rw_149_5 : mm_code 148 5 = some (.iload_n 0, 1, 0, 0, []) := rfl
theorem rw_149_6 : mm_code 148 6 = some (.iload_n 2, 1, 0, 0, []) := rfl
theorem rw_149_7 : mm_code 148 7 = some (.if_icmp .gt 7, 3, 14, 0, []) := rfl
theorem rw_149_10 : mm_code 148 10 = some (.iconst 1, 1, 1, 0, []) := rfl
theorem rw_149_11 : mm_code 148 11 = some (.goto 4, 3, 15, 0, []) := rfl
theorem rw_149_14 : mm_code 148 14 = some (.iconst 0, 1, 0, 0, []) := rfl
theorem rw_149_15 : mm_code 148 15 = some (.ireturn, 1, 1, 0, []) := rfl
theorem rw_150_0 : mm_code 149 0 = some (.lload_n 0, 1, 0, 0, []) := rfl
theorem rw_150_1 : mm_code 149 1 = some (.iload_n 2, 1, 0, 0, []) := rfl
theorem rw_150_2 : mm_code 149 2 = some (.lshr, 1, 0, 0, []) := rfl
theorem rw_150_3 : mm_code 149 3 = some (.lconst 1, 1, 1, 0, []) := rfl
theorem rw_150_4 : mm_code 149 4 = some (.land, 1, 0, 0, []) := rfl
theorem rw_150_5 : mm_code 149 5 = some (.lconst 1, 1, 1, 0, []) := rfl
theorem rw_150_6 : mm_code 149 6 = some (.lcmp, 1, 0, 0, []) := rfl
theorem rw_150_7 : mm_code 149 7 = some (.ifCond .ne 7, 3, 14, 0, []) := rfl
theorem rw_150_10 : mm_code 149 10 = some (.iconst 1, 1, 1, 0, []) := rfl
theorem rw_150_11 : mm_code 149 11 = some (.goto 4, 3, 15, 0, []) := rfl
theorem rw_150_14 : mm_code 149 14 = some (.iconst 0, 1, 0, 0, []) := rfl
theorem rw_150_15 : mm_code 149 15 = some (.ireturn, 1, 1, 0, []) := rfl
theorem rw_151_0 : mm_code 150 0 = some (.iconst 0, 1, 0, 0, []) := rfl
theorem rw_151_1 : mm_code 150 1 = some (.istore_n 2, 1, 0, 0, []) := rfl
theorem rw_151_2 : mm_code 150 2 = some (.iconst 0, 1, 0, 0, []) := rfl
theorem rw_151_3 : mm_code 150 3 = some (.istore_n 3, 1, 0, 0, []) := rfl
theorem rw_151_4 : mm_code 150 4 = some (.iload_n 3, 1, 0, 0, []) := rfl
theorem rw_151_5 : mm_code 150 5 = some (.bipush 62, 2, 62, 0, []) := rfl
theorem rw_151_7 : mm_code 150 7 = some (.if_icmp .ge 25, 3, 32, 0, []) := rfl
theorem rw_151_10 : mm_code 150 10 = some (.iload_n 2, 1, 0, 0, []) := rfl
theorem rw_151_11 : mm_code 150 11 = some (.lload_n 0, 1, 0, 0, []) := rfl
theorem rw_151_12 : mm_code 150 12 = some (.iload_n 3, 1, 0, 0, []) := rfl
theorem rw_151_13 : mm_code 150 13 = some (.invokestatic 169, 3, 149, 2, [53, 0]) := rfl
theorem rw_151_16 : mm_code 150 16 = some (.ifCond .eq 7, 3, 23, 0, []) := rfl
theorem rw_151_19 : mm_code 150 19 = some (.iconst 1, 1, 1, 0, []) := rfl
theorem rw_151_20 : mm_code 150 20 = some (.goto 4, 3, 24, 0, []) := rfl
theorem rw_151_23 : mm_code 150 23 = some (.iconst 0, 1, 0, 0, []) := rfl
theorem rw_151_24 : mm_code 150 24 = some (.iadd, 1, 0, 0, []) := rfl
theorem rw_151_25 : mm_code 150 25 = some (.istore_n 2, 1, 0, 0, []) := rfl
theorem rw_151_26 : mm_code 150 26 = some (.iinc 3 1, 3, 1, 0, []) := rfl
theorem rw_151_29 : mm_code 150 29 = some (.goto (-25), 3, 4, 0, []) := rfl
theorem rw_151_32 : mm_code 150 32 = some (.iload_n 2, 1, 0, 0, []) := rfl
theorem rw_151_33 : mm_code 150 33 = some (.ireturn, 1, 0, 0, []) := rfl
theorem rw_152_0 : mm_code 151 0 = some (.aload_n 0, 1, 0, 0, []) := rfl
theorem rw_152_1 : mm_code 151 1 = some (.iload_n 1, 1, 0, 0, []) := rfl
theorem rw_152_2 : mm_code 151 2 = some (.putfield 173, 3, 11, 4, [0, 54]) := rfl
theorem rw_152_5 : mm_code 151 5 = some (.aload_n 0, 1, 0, 0, []) := rfl
theorem rw_152_6 : mm_code 151 6 = some (.aload_n 0, 1, 0, 0, []) := rfl
theorem rw_152_7 : mm_code 151 7 = some (.getfield 176, 3, 11, 10, [0, 55]) := rfl
theorem rw_152_10 : mm_code 151 10 = some (.putfield 16, 3, 11, 5, [0, 3]) := rfl
theorem rw_152_13 : mm_code 151 13 = some (.iconst 0, 1, 0, 0, []) := rfl
theorem rw_152_14 : mm_code 151 14 = some (.ireturn, 1, 1, 0, []) := rfl
theorem rw_153_0 : mm_code 152 0 = some (.iconst 0, 1, 0, 0, []) := rfl
theorem rw_153_1 : mm_code 152 1 = some (.istore_n 3, 1, 0, 0, []) := rfl
theorem rw_153_2 : mm_code 152 2 = some (.iconst 0, 1, 0, 0, []) := rfl
theorem rw_153_3 : mm_code 152 3 = some (.istore 4, 2, 0, 0, []) := rfl
theorem rw_153_5 : mm_code 152 5 = some (.iload 4, 2, 0, 0, []) := rfl
theorem rw_153_7 : mm_code 152 7 = some (.aload_n 0, 1, 0, 0, []) := rfl
theorem rw_153_8 : mm_code 152 8 = some (.getfield 13, 3, 11, 3, [3, 2]) := rfl
theorem rw_153_11 : mm_code 152 11 = some (.arraylength, 1, 0, 0, []) := rfl
theorem rw_153_12 : mm_code 152 12 = some (.if_icmp .ge 114, 3, 126, 0, []) := rfl
theorem rw_153_15 : mm_code 152 15 = some (.iconst 0, 1, 0, 0, []) := rfl
theorem rw_153_16 : mm_code 152 16 = some (.istore 5, 2, 0, 0, []) := rfl
theorem rw_153_18 : mm_code 152 18 = some (.aload_n 0, 1, 0, 0, []) := rfl
theorem rw_153_19 : mm_code 152 19 = some (.getfield 13, 3, 11, 3, [3, 2]) := rfl
theorem rw_153_22 : mm_code 152 22 = some (.iload 4, 2, 0, 0, []) := rfl
theorem rw_153_24 : mm_code 152 24 = some (.iload 5, 2, 0, 0, []) := rfl
theorem rw_153_26 : mm_code 152 26 = some (.iadd, 1, 0, 0, []) := rfl
theorem rw_153_27 : mm_code 152 27 = some (.iaload, 1, 0, 0, []) := rfl
theorem rw_153_28 : mm_code 152 28 = some (.bipush 32, 2, 32, 0, []) := rfl
theorem rw_153_30 : mm_code 152 30 = some (.if_icmp .eq 9, 3, 39, 0, []) := rfl
theorem rw_153_33 : mm_code 152 33 = some (.iinc 5 1, 3, 1, 0, []) := rfl
theorem rw_153_36 : mm_code 152 36 = some (.goto (-18), 3, 18, 0, []) := rfl
theorem rw_153_39 : mm_code 152 39 = some (.iload 5, 2, 0, 0, []) := rfl
theorem rw_153_41 : mm_code 152 41 = some (.iload_n 2, 1, 0, 0, []) := rfl
theorem rw_153_42 : mm_code 152 42 = some (.iload_n 1, 1, 0, 0, []) := rfl
theorem rw_153_43 : mm_code 152 43 = some (.isub, 1, 0, 0, []) := rfl
