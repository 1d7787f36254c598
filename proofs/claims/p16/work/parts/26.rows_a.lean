theorem rw_2_0 : mm_code 2 0 = some (.aload_n 1, 1, 0, 0, []) := rfl
theorem rw_2_1 : mm_code 2 1 = some (.getfield 18, 3, 5, 11, [3, 3]) := rfl
theorem rw_2_4 : mm_code 2 4 = some (.iload 4, 2, 0, 0, []) := rfl
theorem rw_2_6 : mm_code 2 6 = some (.iaload, 1, 0, 0, []) := rfl
theorem rw_2_7 : mm_code 2 7 = some (.istore 5, 2, 0, 0, []) := rfl
theorem rw_2_9 : mm_code 2 9 = some (.iconst 0, 1, 0, 0, []) := rfl
theorem rw_2_10 : mm_code 2 10 = some (.istore 6, 2, 0, 0, []) := rfl
theorem rw_2_12 : mm_code 2 12 = some (.iconst 0, 1, 0, 0, []) := rfl
theorem rw_2_13 : mm_code 2 13 = some (.istore 7, 2, 0, 0, []) := rfl
theorem rw_2_15 : mm_code 2 15 = some (.iload 7, 2, 0, 0, []) := rfl
theorem rw_2_17 : mm_code 2 17 = some (.iload_n 3, 1, 0, 0, []) := rfl
theorem rw_2_18 : mm_code 2 18 = some (.if_icmp .ge 29, 3, 47, 0, []) := rfl
theorem rw_2_21 : mm_code 2 21 = some (.aload_n 2, 1, 0, 0, []) := rfl
theorem rw_2_22 : mm_code 2 22 = some (.iload 7, 2, 0, 0, []) := rfl
theorem rw_2_24 : mm_code 2 24 = some (.iload 4, 2, 0, 0, []) := rfl
theorem rw_2_26 : mm_code 2 26 = some (.invokevirtual 23, 3, 13, 3, [4, 0]) := rfl
theorem rw_2_29 : mm_code 2 29 = some (.ifCond .ne 12, 3, 41, 0, []) := rfl
theorem rw_2_32 : mm_code 2 32 = some (.iload 6, 2, 0, 0, []) := rfl
theorem rw_2_34 : mm_code 2 34 = some (.iconst 1, 1, 1, 0, []) := rfl
theorem rw_2_35 : mm_code 2 35 = some (.iload 7, 2, 0, 0, []) := rfl
theorem rw_2_37 : mm_code 2 37 = some (.ishl, 1, 0, 0, []) := rfl
theorem rw_2_38 : mm_code 2 38 = some (.ior, 1, 0, 0, []) := rfl
theorem rw_2_39 : mm_code 2 39 = some (.istore 6, 2, 0, 0, []) := rfl
theorem rw_2_41 : mm_code 2 41 = some (.iinc 7 1, 3, 1, 0, []) := rfl
theorem rw_2_44 : mm_code 2 44 = some (.goto (-29), 3, 15, 0, []) := rfl
theorem rw_2_47 : mm_code 2 47 = some (.aload_n 1, 1, 0, 0, []) := rfl
theorem rw_2_48 : mm_code 2 48 = some (.iload 5, 2, 0, 0, []) := rfl
theorem rw_2_50 : mm_code 2 50 = some (.invokevirtual 29, 3, 47, 2, [5, 0]) := rfl
theorem rw_2_53 : mm_code 2 53 = some (.bipush 24, 2, 24, 0, []) := rfl
theorem rw_2_55 : mm_code 2 55 = some (.invokestatic 33, 3, 996, 2, [6, 0]) := rfl
theorem rw_2_58 : mm_code 2 58 = some (.istore 7, 2, 0, 0, []) := rfl
theorem rw_2_60 : mm_code 2 60 = some (.iconst 0, 1, 0, 0, []) := rfl
theorem rw_2_61 : mm_code 2 61 = some (.istore 8, 2, 0, 0, []) := rfl
theorem rw_2_63 : mm_code 2 63 = some (.iload 8, 2, 0, 0, []) := rfl
theorem rw_2_65 : mm_code 2 65 = some (.iload 7, 2, 0, 0, []) := rfl
theorem rw_2_67 : mm_code 2 67 = some (.if_icmp .ge 54, 3, 121, 0, []) := rfl
theorem rw_2_70 : mm_code 2 70 = some (.aload_n 1, 1, 0, 0, []) := rfl
theorem rw_2_71 : mm_code 2 71 = some (.getfield 39, 3, 5, 7, [3, 7]) := rfl
theorem rw_2_74 : mm_code 2 74 = some (.iload 5, 2, 0, 0, []) := rfl
theorem rw_2_76 : mm_code 2 76 = some (.iaload, 1, 0, 0, []) := rfl
theorem rw_2_77 : mm_code 2 77 = some (.iload 8, 2, 0, 0, []) := rfl
theorem rw_2_79 : mm_code 2 79 = some (.iadd, 1, 0, 0, []) := rfl
theorem rw_2_80 : mm_code 2 80 = some (.istore 9, 2, 0, 0, []) := rfl
theorem rw_2_82 : mm_code 2 82 = some (.aload_n 0, 1, 0, 0, []) := rfl
theorem rw_2_83 : mm_code 2 83 = some (.getfield 9, 3, 0, 0, [3, 1]) := rfl
theorem rw_2_86 : mm_code 2 86 = some (.iload 8, 2, 0, 0, []) := rfl
theorem rw_2_88 : mm_code 2 88 = some (.iload 6, 2, 0, 0, []) := rfl
theorem rw_2_90 : mm_code 2 90 = some (.aload_n 2, 1, 0, 0, []) := rfl
theorem rw_2_91 : mm_code 2 91 = some (.iload_n 3, 1, 0, 0, []) := rfl
theorem rw_2_92 : mm_code 2 92 = some (.iload 9, 2, 0, 0, []) := rfl
theorem rw_2_94 : mm_code 2 94 = some (.invokestatic 42, 3, 3, 3, [8, 0]) := rfl
theorem rw_2_97 : mm_code 2 97 = some (.iand, 1, 0, 0, []) := rfl
theorem rw_2_98 : mm_code 2 98 = some (.iastore, 1, 0, 0, []) := rfl
theorem rw_2_99 : mm_code 2 99 = some (.aload_n 0, 1, 0, 0, []) := rfl
theorem rw_2_100 : mm_code 2 100 = some (.getfield 15, 3, 0, 1, [3, 2]) := rfl
theorem rw_2_103 : mm_code 2 103 = some (.iload 8, 2, 0, 0, []) := rfl
theorem rw_2_105 : mm_code 2 105 = some (.aload_n 1, 1, 0, 0, []) := rfl
theorem rw_2_106 : mm_code 2 106 = some (.aload_n 2, 1, 0, 0, []) := rfl
theorem rw_2_107 : mm_code 2 107 = some (.iload 4, 2, 0, 0, []) := rfl
theorem rw_2_109 : mm_code 2 109 = some (.iload 9, 2, 0, 0, []) := rfl
theorem rw_2_111 : mm_code 2 111 = some (.invokestatic 46, 3, 4, 4, [9, 0]) := rfl
theorem rw_2_114 : mm_code 2 114 = some (.iastore, 1, 0, 0, []) := rfl
theorem rw_2_115 : mm_code 2 115 = some (.iinc 8 1, 3, 1, 0, []) := rfl
theorem rw_2_118 : mm_code 2 118 = some (.goto (-55), 3, 63, 0, []) := rfl
theorem rw_2_121 : mm_code 2 121 = some (.aload_n 0, 1, 0, 0, []) := rfl
theorem rw_2_122 : mm_code 2 122 = some (.iconst (-1), 1, 1, 1, []) := rfl
theorem rw_2_123 : mm_code 2 123 = some (.putfield 50, 3, 0, 2, [0, 10]) := rfl
theorem rw_2_126 : mm_code 2 126 = some (.aload_n 0, 1, 0, 0, []) := rfl
theorem rw_2_127 : mm_code 2 127 = some (.aload_n 1, 1, 0, 0, []) := rfl
theorem rw_2_128 : mm_code 2 128 = some (.getfield 54, 3, 5, 9, [3, 11]) := rfl
theorem rw_2_131 : mm_code 2 131 = some (.iload 5, 2, 0, 0, []) := rfl
theorem rw_2_133 : mm_code 2 133 = some (.iaload, 1, 0, 0, []) := rfl
theorem rw_2_134 : mm_code 2 134 = some (.iload 7, 2, 0, 0, []) := rfl
theorem rw_2_136 : mm_code 2 136 = some (.iconst 0, 1, 0, 0, []) := rfl
theorem rw_2_137 : mm_code 2 137 = some (.iload 6, 2, 0, 0, []) := rfl
theorem rw_2_139 : mm_code 2 139 = some (.iconst 0, 1, 0, 0, []) := rfl
theorem rw_2_140 : mm_code 2 140 = some (.invokevirtual 57, 3, 5, 6, [12, 0]) := rfl
theorem rw_2_143 : mm_code 2 143 = some (.aload_n 0, 1, 0, 0, []) := rfl
theorem rw_2_144 : mm_code 2 144 = some (.getfield 50, 3, 0, 2, [0, 10]) := rfl
theorem rw_2_147 : mm_code 2 147 = some (.ireturn, 1, 0, 0, []) := rfl
theorem rw_3_0 : mm_code 3 0 = some (.iconst 0, 1, 0, 0, []) := rfl
theorem rw_3_1 : mm_code 3 1 = some (.istore_n 3, 1, 0, 0, []) := rfl
theorem rw_3_2 : mm_code 3 2 = some (.iconst 0, 1, 0, 0, []) := rfl
theorem rw_3_3 : mm_code 3 3 = some (.istore 4, 2, 0, 0, []) := rfl
theorem rw_3_5 : mm_code 3 5 = some (.iload 4, 2, 0, 0, []) := rfl
theorem rw_3_7 : mm_code 3 7 = some (.iload_n 1, 1, 0, 0, []) := rfl
theorem rw_3_8 : mm_code 3 8 = some (.if_icmp .ge 27, 3, 35, 0, []) := rfl
theorem rw_3_11 : mm_code 3 11 = some (.iload_n 3, 1, 0, 0, []) := rfl
theorem rw_3_12 : mm_code 3 12 = some (.aload_n 0, 1, 0, 0, []) := rfl
theorem rw_3_13 : mm_code 3 13 = some (.getfield 61, 3, 1, 0, [3, 13]) := rfl
theorem rw_3_16 : mm_code 3 16 = some (.iload 4, 2, 0, 0, []) := rfl
theorem rw_3_18 : mm_code 3 18 = some (.laload, 1, 0, 0, []) := rfl
theorem rw_3_19 : mm_code 3 19 = some (.iload_n 2, 1, 0, 0, []) := rfl
theorem rw_3_20 : mm_code 3 20 = some (.lshr, 1, 0, 0, []) := rfl
theorem rw_3_21 : mm_code 3 21 = some (.lconst 1, 1, 1, 0, []) := rfl
theorem rw_3_22 : mm_code 3 22 = some (.land, 1, 0, 0, []) := rfl
theorem rw_3_23 : mm_code 3 23 = some (.l2i, 1, 0, 0, []) := rfl
theorem rw_3_24 : mm_code 3 24 = some (.iload 4, 2, 0, 0, []) := rfl
theorem rw_3_26 : mm_code 3 26 = some (.ishl, 1, 0, 0, []) := rfl
theorem rw_3_27 : mm_code 3 27 = some (.ior, 1, 0, 0, []) := rfl
theorem rw_3_28 : mm_code 3 28 = some (.istore_n 3, 1, 0, 0, []) := rfl
theorem rw_3_29 : mm_code 3 29 = some (.iinc 4 1, 3, 1, 0, []) := rfl
theorem rw_3_32 : mm_code 3 32 = some (.goto (-27), 3, 5, 0, []) := rfl
theorem rw_3_35 : mm_code 3 35 = some (.iload_n 3, 1, 0, 0, []) := rfl
theorem rw_3_36 : mm_code 3 36 = some (.ireturn, 1, 0, 0, []) := rfl
theorem rw_4_0 : mm_code 4 0 = some (.iconst 0, 1, 0, 0, []) := rfl
theorem rw_4_1 : mm_code 4 1 = some (.istore 4, 2, 0, 0, []) := rfl
theorem rw_4_3 : mm_code 4 3 = some (.iconst 0, 1, 0, 0, []) := rfl
theorem rw_4_4 : mm_code 4 4 = some (.istore 5, 2, 0, 0, []) := rfl
theorem rw_4_6 : mm_code 4 6 = some (.iload 5, 2, 0, 0, []) := rfl
theorem rw_4_8 : mm_code 4 8 = some (.aload_n 0, 1, 0, 0, []) := rfl
theorem rw_4_9 : mm_code 4 9 = some (.getfield 65, 3, 5, 3, [0, 14]) := rfl
theorem rw_4_12 : mm_code 4 12 = some (.if_icmp .ge 34, 3, 46, 0, []) := rfl
theorem rw_4_15 : mm_code 4 15 = some (.iload 5, 2, 0, 0, []) := rfl
theorem rw_4_17 : mm_code 4 17 = some (.iload_n 2, 1, 0, 0, []) := rfl
theorem rw_4_18 : mm_code 4 18 = some (.if_icmp .eq 22, 3, 40, 0, []) := rfl
theorem rw_4_21 : mm_code 4 21 = some (.aload_n 1, 1, 0, 0, []) := rfl
theorem rw_4_22 : mm_code 4 22 = some (.getfield 68, 3, 1, 3, [3, 15]) := rfl
theorem rw_4_25 : mm_code 4 25 = some (.iload 5, 2, 0, 0, []) := rfl
theorem rw_4_27 : mm_code 4 27 = some (.laload, 1, 0, 0, []) := rfl
theorem rw_4_28 : mm_code 4 28 = some (.iload_n 3, 1, 0, 0, []) := rfl
theorem rw_4_29 : mm_code 4 29 = some (.lshr, 1, 0, 0, []) := rfl
theorem rw_4_30 : mm_code 4 30 = some (.lconst 1, 1, 1, 0, []) := rfl
theorem rw_4_31 : mm_code 4 31 = some (.land, 1, 0, 0, []) := rfl
theorem rw_4_32 : mm_code 4 32 = some (.lconst 0, 1, 0, 0, []) := rfl
theorem rw_4_33 : mm_code 4 33 = some (.lcmp, 1, 0, 0, []) := rfl
theorem rw_4_34 : mm_code 4 34 = some (.ifCond .eq 6, 3, 40, 0, []) := rfl
theorem rw_4_37 : mm_code 4 37 = some (.iinc 4 1, 3, 1, 0, []) := rfl
theorem rw_4_40 : mm_code 4 40 = some (.iinc 5 1, 3, 1, 0, []) := rfl
theorem rw_4_43 : mm_code 4 43 = some (.goto (-37), 3, 6, 0, []) := rfl
theorem rw_4_46 : mm_code 4 46 = some (.iload 4, 2, 0, 0, []) := rfl
theorem rw_4_48 : mm_code 4 48 = some (.ireturn, 1, 0, 0, []) := rfl
theorem rw_5_0 : mm_code 5 0 = some (.iload_n 1, 1, 0, 0, []) := rfl
theorem rw_5_1 : mm_code 5 1 = some (.ifCond .gt 16, 3, 17, 0, []) := rfl
theorem rw_5_4 : mm_code 5 4 = some (.aload_n 0, 1, 0, 0, []) := rfl
theorem rw_5_5 : mm_code 5 5 = some (.iload_n 3, 1, 0, 0, []) := rfl
theorem rw_5_6 : mm_code 5 6 = some (.iload 4, 2, 0, 0, []) := rfl
theorem rw_5_8 : mm_code 5 8 = some (.invokestatic 71, 3, 246, 1, [16, 0]) := rfl
theorem rw_5_11 : mm_code 5 11 = some (.iload 5, 2, 0, 0, []) := rfl
theorem rw_5_13 : mm_code 5 13 = some (.invokevirtual 76, 3, 6, 4, [17, 0]) := rfl
theorem rw_5_16 : mm_code 5 16 = some (.return_, 1, 0, 0, []) := rfl
theorem rw_5_17 : mm_code 5 17 = some (.iload_n 1, 1, 0, 0, []) := rfl
theorem rw_5_18 : mm_code 5 18 = some (.iconst 1, 1, 1, 0, []) := rfl
theorem rw_5_19 : mm_code 5 19 = some (.isub, 1, 0, 0, []) := rfl
theorem rw_5_20 : mm_code 5 20 = some (.istore 6, 2, 0, 0, []) := rfl
theorem rw_5_22 : mm_code 5 22 = some (.iload 6, 2, 0, 0, []) := rfl
theorem rw_5_24 : mm_code 5 24 = some (.iload_n 2, 1, 0, 0, []) := rfl
theorem rw_5_25 : mm_code 5 25 = some (.if_icmp .ge 44, 3, 69, 0, []) := rfl
theorem rw_5_28 : mm_code 5 28 = some (.aload_n 0, 1, 0, 0, []) := rfl
theorem rw_5_29 : mm_code 5 29 = some (.iload_n 1, 1, 0, 0, []) := rfl
theorem rw_5_30 : mm_code 5 30 = some (.iconst 1, 1, 1, 0, []) := rfl
theorem rw_5_31 : mm_code 5 31 = some (.isub, 1, 0, 0, []) := rfl
theorem rw_5_32 : mm_code 5 32 = some (.iload 6, 2, 0, 0, []) := rfl
theorem rw_5_34 : mm_code 5 34 = some (.iload_n 3, 1, 0, 0, []) := rfl
theorem rw_5_35 : mm_code 5 35 = some (.iconst 1, 1, 1, 0, []) := rfl
theorem rw_5_36 : mm_code 5 36 = some (.iload 6, 2, 0, 0, []) := rfl
theorem rw_5_38 : mm_code 5 38 = some (.ishl, 1, 0, 0, []) := rfl
theorem rw_5_39 : mm_code 5 39 = some (.ior, 1, 0, 0, []) := rfl
theorem rw_5_40 : mm_code 5 40 = some (.iload 4, 2, 0, 0, []) := rfl
theorem rw_5_42 : mm_code 5 42 = some (.aload_n 0, 1, 0, 0, []) := rfl
theorem rw_5_43 : mm_code 5 43 = some (.getfield 9, 3, 0, 0, [3, 1]) := rfl
theorem rw_5_46 : mm_code 5 46 = some (.iload 6, 2, 0, 0, []) := rfl
theorem rw_5_48 : mm_code 5 48 = some (.iaload, 1, 0, 0, []) := rfl
theorem rw_5_49 : mm_code 5 49 = some (.iand, 1, 0, 0, []) := rfl
theorem rw_5_50 : mm_code 5 50 = some (.iload 5, 2, 0, 0, []) := rfl
theorem rw_5_52 : mm_code 5 52 = some (.aload_n 0, 1, 0, 0, []) := rfl
theorem rw_5_53 : mm_code 5 53 = some (.getfield 15, 3, 0, 1, [3, 2]) := rfl
theorem rw_5_56 : mm_code 5 56 = some (.iload 6, 2, 0, 0, []) := rfl
theorem rw_5_58 : mm_code 5 58 = some (.iaload, 1, 0, 0, []) := rfl
theorem rw_5_59 : mm_code 5 59 = some (.iadd, 1, 0, 0, []) := rfl
theorem rw_5_60 : mm_code 5 60 = some (.invokevirtual 57, 3, 5, 6, [12, 0]) := rfl
theorem rw_5_63 : mm_code 5 63 = some (.iinc 6 1, 3, 1, 0, []) := rfl
theorem rw_5_66 : mm_code 5 66 = some (.goto (-44), 3, 22, 0, []) := rfl
theorem rw_5_69 : mm_code 5 69 = some (.return_, 1, 0, 0, []) := rfl
theorem rw_6_0 : mm_code 6 0 = some (.iload_n 2, 1, 0, 0, []) := rfl
theorem rw_6_1 : mm_code 6 1 = some (.aload_n 0, 1, 0, 0, []) := rfl
theorem rw_6_2 : mm_code 6 2 = some (.getfield 80, 3, 0, 3, [0, 18]) := rfl
theorem rw_6_5 : mm_code 6 5 = some (.if_icmp .lt 19, 3, 24, 0, []) := rfl
theorem rw_6_8 : mm_code 6 8 = some (.iload_n 2, 1, 0, 0, []) := rfl
theorem rw_6_9 : mm_code 6 9 = some (.aload_n 0, 1, 0, 0, []) := rfl
theorem rw_6_10 : mm_code 6 10 = some (.getfield 80, 3, 0, 3, [0, 18]) := rfl
theorem rw_6_13 : mm_code 6 13 = some (.if_icmp .ne 15, 3, 28, 0, []) := rfl
theorem rw_6_16 : mm_code 6 16 = some (.iload_n 3, 1, 0, 0, []) := rfl
theorem rw_6_17 : mm_code 6 17 = some (.aload_n 0, 1, 0, 0, []) := rfl
theorem rw_6_18 : mm_code 6 18 = some (.getfield 83, 3, 0, 4, [0, 19]) := rfl
theorem rw_6_21 : mm_code 6 21 = some (.if_icmp .ge 7, 3, 28, 0, []) := rfl
theorem rw_6_24 : mm_code 6 24 = some (.iconst 1, 1, 1, 0, []) := rfl
theorem rw_6_25 : mm_code 6 25 = some (.goto 4, 3, 29, 0, []) := rfl
theorem rw_6_28 : mm_code 6 28 = some (.iconst 0, 1, 0, 0, []) := rfl
theorem rw_6_29 : mm_code 6 29 = some (.istore 4, 2, 0, 0, []) := rfl
theorem rw_6_31 : mm_code 6 31 = some (.aload_n 0, 1, 0, 0, []) := rfl
theorem rw_6_32 : mm_code 6 32 = some (.getfield 50, 3, 0, 2, [0, 10]) := rfl
theorem rw_6_35 : mm_code 6 35 = some (.iconst (-1), 1, 1, 1, []) := rfl
theorem rw_6_36 : mm_code 6 36 = some (.if_icmp .eq 8, 3, 44, 0, []) := rfl
theorem rw_6_39 : mm_code 6 39 = some (.iload 4, 2, 0, 0, []) := rfl
theorem rw_6_41 : mm_code 6 41 = some (.ifCond .eq 18, 3, 59, 0, []) := rfl
theorem rw_6_44 : mm_code 6 44 = some (.aload_n 0, 1, 0, 0, []) := rfl
theorem rw_6_45 : mm_code 6 45 = some (.iload_n 1, 1, 0, 0, []) := rfl
theorem rw_6_46 : mm_code 6 46 = some (.putfield 50, 3, 0, 2, [0, 10]) := rfl
theorem rw_6_49 : mm_code 6 49 = some (.aload_n 0, 1, 0, 0, []) := rfl
theorem rw_6_50 : mm_code 6 50 = some (.iload_n 2, 1, 0, 0, []) := rfl
theorem rw_6_51 : mm_code 6 51 = some (.putfield 80, 3, 0, 3, [0, 18]) := rfl
theorem rw_6_54 : mm_code 6 54 = some (.aload_n 0, 1, 0, 0, []) := rfl
theorem rw_6_55 : mm_code 6 55 = some (.iload_n 3, 1, 0, 0, []) := rfl
theorem rw_6_56 : mm_code 6 56 = some (.putfield 83, 3, 0, 4, [0, 19]) := rfl
theorem rw_6_59 : mm_code 6 59 = some (.return_, 1, 0, 0, []) := rfl
theorem rw_8_0 : mm_code 8 0 = some (.aload_n 0, 1, 0, 0, []) := rfl
theorem rw_8_1 : mm_code 8 1 = some (.aload_n 1, 1, 0, 0, []) := rfl
theorem rw_8_2 : mm_code 8 2 = some (.invokevirtual 29, 3, 9, 2, [6, 0]) := rfl
theorem rw_8_5 : mm_code 8 5 = some (.aload_n 0, 1, 0, 0, []) := rfl
theorem rw_8_6 : mm_code 8 6 = some (.aload_n 2, 1, 0, 0, []) := rfl
theorem rw_8_7 : mm_code 8 7 = some (.iload_n 3, 1, 0, 0, []) := rfl
theorem rw_8_8 : mm_code 8 8 = some (.invokevirtual 33, 3, 10, 3, [7, 0]) := rfl
theorem rw_8_11 : mm_code 8 11 = some (.iconst 0, 1, 0, 0, []) := rfl
theorem rw_8_12 : mm_code 8 12 = some (.istore 4, 2, 0, 0, []) := rfl
theorem rw_8_14 : mm_code 8 14 = some (.iload 4, 2, 0, 0, []) := rfl
theorem rw_8_16 : mm_code 8 16 = some (.iload_n 3, 1, 0, 0, []) := rfl
theorem rw_8_17 : mm_code 8 17 = some (.if_icmp .ge 35, 3, 52, 0, []) := rfl
theorem rw_8_20 : mm_code 8 20 = some (.iload 4, 2, 0, 0, []) := rfl
theorem rw_8_22 : mm_code 8 22 = some (.sipush 150, 3, 150, 0, []) := rfl
theorem rw_8_25 : mm_code 8 25 = some (.if_icmp .ge 27, 3, 52, 0, []) := rfl
theorem rw_8_28 : mm_code 8 28 = some (.aload_n 0, 1, 0, 0, []) := rfl
theorem rw_8_29 : mm_code 8 29 = some (.getfield 25, 3, 1, 4, [3, 5]) := rfl
theorem rw_8_32 : mm_code 8 32 = some (.iload 4, 2, 0, 0, []) := rfl
theorem rw_8_34 : mm_code 8 34 = some (.baload, 1, 0, 0, []) := rfl
theorem rw_8_35 : mm_code 8 35 = some (.ifCond .ne 11, 3, 46, 0, []) := rfl
theorem rw_8_38 : mm_code 8 38 = some (.aload_n 0, 1, 0, 0, []) := rfl
theorem rw_8_39 : mm_code 8 39 = some (.aload_n 1, 1, 0, 0, []) := rfl
theorem rw_8_40 : mm_code 8 40 = some (.aload_n 2, 1, 0, 0, []) := rfl
theorem rw_8_41 : mm_code 8 41 = some (.iload 4, 2, 0, 0, []) := rfl
theorem rw_8_43 : mm_code 8 43 = some (.invokevirtual 37, 3, 11, 4, [8, 0]) := rfl
theorem rw_8_46 : mm_code 8 46 = some (.iinc 4 1, 3, 1, 0, []) := rfl
theorem rw_8_49 : mm_code 8 49 = some (.goto (-35), 3, 14, 0, []) := rfl
theorem rw_8_52 : mm_code 8 52 = some (.return_, 1, 0, 0, []) := rfl
theorem rw_9_0 : mm_code 9 0 = some (.iconst 0, 1, 0, 0, []) := rfl
theorem rw_9_1 : mm_code 9 1 = some (.istore_n 2, 1, 0, 0, []) := rfl
theorem rw_9_2 : mm_code 9 2 = some (.iload_n 2, 1, 0, 0, []) := rfl
theorem rw_9_3 : mm_code 9 3 = some (.bipush 30, 2, 30, 0, []) := rfl
theorem rw_9_5 : mm_code 9 5 = some (.if_icmp .ge 23, 3, 28, 0, []) := rfl
theorem rw_9_8 : mm_code 9 8 = some (.aload_n 0, 1, 0, 0, []) := rfl
theorem rw_9_9 : mm_code 9 9 = some (.getfield 9, 3, 1, 0, [3, 1]) := rfl
theorem rw_9_12 : mm_code 9 12 = some (.iload_n 2, 1, 0, 0, []) := rfl
theorem rw_9_13 : mm_code 9 13 = some (.lconst 0, 1, 0, 0, []) := rfl
theorem rw_9_14 : mm_code 9 14 = some (.lastore, 1, 0, 0, []) := rfl
theorem rw_9_15 : mm_code 9 15 = some (.aload_n 0, 1, 0, 0, []) := rfl
theorem rw_9_16 : mm_code 9 16 = some (.getfield 15, 3, 1, 1, [3, 2]) := rfl
theorem rw_9_19 : mm_code 9 19 = some (.iload_n 2, 1, 0, 0, []) := rfl
theorem rw_9_20 : mm_code 9 20 = some (.iconst 0, 1, 0, 0, []) := rfl
theorem rw_9_21 : mm_code 9 21 = some (.iastore, 1, 0, 0, []) := rfl
theorem rw_9_22 : mm_code 9 22 = some (.iinc 2 1, 3, 1, 0, []) := rfl
theorem rw_9_25 : mm_code 9 25 = some (.goto (-23), 3, 2, 0, []) := rfl
theorem rw_9_28 : mm_code 9 28 = some (.iconst 0, 1, 0, 0, []) := rfl
theorem rw_9_29 : mm_code 9 29 = some (.istore_n 2, 1, 0, 0, []) := rfl
theorem rw_9_30 : mm_code 9 30 = some (.iload_n 2, 1, 0, 0, []) := rfl
theorem rw_9_31 : mm_code 9 31 = some (.aload_n 0, 1, 0, 0, []) := rfl
theorem rw_9_32 : mm_code 9 32 = some (.getfield 19, 3, 1, 2, [3, 3]) := rfl
theorem rw_9_35 : mm_code 9 35 = some (.arraylength, 1, 0, 0, []) := rfl
theorem rw_9_36 : mm_code 9 36 = some (.if_icmp .ge 16, 3, 52, 0, []) := rfl
theorem rw_9_39 : mm_code 9 39 = some (.aload_n 0, 1, 0, 0, []) := rfl
theorem rw_9_40 : mm_code 9 40 = some (.getfield 19, 3, 1, 2, [3, 3]) := rfl
theorem rw_9_43 : mm_code 9 43 = some (.iload_n 2, 1, 0, 0, []) := rfl
theorem rw_9_44 : mm_code 9 44 = some (.iconst (-1), 1, 1, 1, []) := rfl
theorem rw_9_45 : mm_code 9 45 = some (.iastore, 1, 0, 0, []) := rfl
theorem rw_9_46 : mm_code 9 46 = some (.iinc 2 1, 3, 1, 0, []) := rfl
theorem rw_9_49 : mm_code 9 49 = some (.goto (-19), 3, 30, 0, []) := rfl
theorem rw_9_52 : mm_code 9 52 = some (.iconst 0, 1, 0, 0, []) := rfl
theorem rw_9_53 : mm_code 9 53 = some (.istore_n 2, 1, 0, 0, []) := rfl
theorem rw_9_54 : mm_code 9 54 = some (.iload_n 2, 1, 0, 0, []) := rfl
theorem rw_9_55 : mm_code 9 55 = some (.bipush 12, 2, 12, 0, []) := rfl
theorem rw_9_57 : mm_code 9 57 = some (.if_icmp .ge 21, 3, 78, 0, []) := rfl
theorem rw_9_60 : mm_code 9 60 = some (.aload_n 0, 1, 0, 0, []) := rfl
theorem rw_9_61 : mm_code 9 61 = some (.getfield 22, 3, 1, 3, [3, 4]) := rfl
theorem rw_9_64 : mm_code 9 64 = some (.iload_n 2, 1, 0, 0, []) := rfl
theorem rw_9_65 : mm_code 9 65 = some (.aload_n 1, 1, 0, 0, []) := rfl
theorem rw_9_66 : mm_code 9 66 = some (.getfield 41, 3, 5, 12, [3, 9]) := rfl
theorem rw_9_69 : mm_code 9 69 = some (.iload_n 2, 1, 0, 0, []) := rfl
theorem rw_9_70 : mm_code 9 70 = some (.laload, 1, 0, 0, []) := rfl
theorem rw_9_71 : mm_code 9 71 = some (.lastore, 1, 0, 0, []) := rfl
theorem rw_9_72 : mm_code 9 72 = some (.iinc 2 1, 3, 1, 0, []) := rfl
theorem rw_9_75 : mm_code 9 75 = some (.goto (-21), 3, 54, 0, []) := rfl
theorem rw_9_78 : mm_code 9 78 = some (.return_, 1, 0, 0, []) := rfl
theorem rw_10_0 : mm_code 10 0 = some (.iload_n 2, 1, 0, 0, []) := rfl
theorem rw_10_1 : mm_code 10 1 = some (.sipush 150, 3, 150, 0, []) := rfl
theorem rw_10_4 : mm_code 10 4 = some (.invokestatic 46, 3, 996, 2, [10, 0]) := rfl
theorem rw_10_7 : mm_code 10 7 = some (.istore_n 3, 1, 0, 0, []) := rfl
theorem rw_10_8 : mm_code 10 8 = some (.iconst 0, 1, 0, 0, []) := rfl
theorem rw_10_9 : mm_code 10 9 = some (.istore 4, 2, 0, 0, []) := rfl
theorem rw_10_11 : mm_code 10 11 = some (.iload 4, 2, 0, 0, []) := rfl
theorem rw_10_13 : mm_code 10 13 = some (.iload_n 3, 1, 0, 0, []) := rfl
theorem rw_10_14 : mm_code 10 14 = some (.if_icmp .ge 17, 3, 31, 0, []) := rfl
theorem rw_10_17 : mm_code 10 17 = some (.aload_n 0, 1, 0, 0, []) := rfl
theorem rw_10_18 : mm_code 10 18 = some (.getfield 25, 3, 1, 4, [3, 5]) := rfl
theorem rw_10_21 : mm_code 10 21 = some (.iload 4, 2, 0, 0, []) := rfl
theorem rw_10_23 : mm_code 10 23 = some (.iconst 0, 1, 0, 0, []) := rfl
theorem rw_10_24 : mm_code 10 24 = some (.bastore, 1, 0, 0, []) := rfl
theorem rw_10_25 : mm_code 10 25 = some (.iinc 4 1, 3, 1, 0, []) := rfl
theorem rw_10_28 : mm_code 10 28 = some (.goto (-17), 3, 11, 0, []) := rfl
theorem rw_10_31 : mm_code 10 31 = some (.iload_n 3, 1, 0, 0, []) := rfl
theorem rw_10_32 : mm_code 10 32 = some (.iconst 1, 1, 1, 0, []) := rfl
theorem rw_10_33 : mm_code 10 33 = some (.isub, 1, 0, 0, []) := rfl
theorem rw_10_34 : mm_code 10 34 = some (.istore 4, 2, 0, 0, []) := rfl
theorem rw_10_36 : mm_code 10 36 = some (.iload 4, 2, 0, 0, []) := rfl
theorem rw_10_38 : mm_code 10 38 = some (.ifCond .lt 43, 3, 81, 0, []) := rfl
theorem rw_10_41 : mm_code 10 41 = some (.aload_n 1, 1, 0, 0, []) := rfl
theorem rw_10_42 : mm_code 10 42 = some (.getfield 52, 3, 3, 1, [3, 11]) := rfl
theorem rw_10_45 : mm_code 10 45 = some (.iload 4, 2, 0, 0, []) := rfl
theorem rw_10_47 : mm_code 10 47 = some (.iaload, 1, 0, 0, []) := rfl
theorem rw_10_48 : mm_code 10 48 = some (.iconst 5, 1, 5, 0, []) := rfl
theorem rw_10_49 : mm_code 10 49 = some (.if_icmp .ne 26, 3, 75, 0, []) := rfl
theorem rw_10_52 : mm_code 10 52 = some (.aload_n 0, 1, 0, 0, []) := rfl
theorem rw_10_53 : mm_code 10 53 = some (.getfield 25, 3, 1, 4, [3, 5]) := rfl
theorem rw_10_56 : mm_code 10 56 = some (.iload 4, 2, 0, 0, []) := rfl
theorem rw_10_58 : mm_code 10 58 = some (.baload, 1, 0, 0, []) := rfl
theorem rw_10_59 : mm_code 10 59 = some (.ifCond .ne 16, 3, 75, 0, []) := rfl
theorem rw_10_62 : mm_code 10 62 = some (.aload_n 0, 1, 0, 0, []) := rfl
theorem rw_10_63 : mm_code 10 63 = some (.getfield 25, 3, 1, 4, [3, 5]) := rfl
theorem rw_10_66 : mm_code 10 66 = some (.aload_n 1, 1, 0, 0, []) := rfl
theorem rw_10_67 : mm_code 10 67 = some (.getfield 57, 3, 3, 2, [3, 12]) := rfl
theorem rw_10_70 : mm_code 10 70 = some (.iload 4, 2, 0, 0, []) := rfl
theorem rw_10_72 : mm_code 10 72 = some (.iaload, 1, 0, 0, []) := rfl
theorem rw_10_73 : mm_code 10 73 = some (.iconst 1, 1, 1, 0, []) := rfl
theorem rw_10_74 : mm_code 10 74 = some (.bastore, 1, 0, 0, []) := rfl
theorem rw_10_75 : mm_code 10 75 = some (.iinc 4 (-1), 3, 1, 1, []) := rfl
theorem rw_10_78 : mm_code 10 78 = some (.goto (-42), 3, 36, 0, []) := rfl
theorem rw_10_81 : mm_code 10 81 = some (.return_, 1, 0, 0, []) := rfl
theorem rw_11_0 : mm_code 11 0 = some (.aload_n 2, 1, 0, 0, []) := rfl
theorem rw_11_1 : mm_code 11 1 = some (.getfield 57, 3, 3, 2, [3, 12]) := rfl
theorem rw_11_4 : mm_code 11 4 = some (.iload_n 3, 1, 0, 0, []) := rfl
theorem rw_11_5 : mm_code 11 5 = some (.iaload, 1, 0, 0, []) := rfl
theorem rw_11_6 : mm_code 11 6 = some (.istore 4, 2, 0, 0, []) := rfl
theorem rw_11_8 : mm_code 11 8 = some (.aload_n 2, 1, 0, 0, []) := rfl
theorem rw_11_9 : mm_code 11 9 = some (.getfield 60, 3, 3, 3, [3, 13]) := rfl
theorem rw_11_12 : mm_code 11 12 = some (.iload_n 3, 1, 0, 0, []) := rfl
theorem rw_11_13 : mm_code 11 13 = some (.iaload, 1, 0, 0, []) := rfl
theorem rw_11_14 : mm_code 11 14 = some (.istore 5, 2, 0, 0, []) := rfl
theorem rw_11_16 : mm_code 11 16 = some (.aload_n 2, 1, 0, 0, []) := rfl
theorem rw_11_17 : mm_code 11 17 = some (.getfield 52, 3, 3, 1, [3, 11]) := rfl
theorem rw_11_20 : mm_code 11 20 = some (.iload_n 3, 1, 0, 0, []) := rfl
theorem rw_11_21 : mm_code 11 21 = some (.iaload, 1, 0, 0, []) := rfl
theorem rw_11_22 : mm_code 11 22 = some (.tableswitch 176 0 4 #[34, 78, 112, 129, 150], 34, 198, 0, [56, 100, 134, 151, 172]) := rfl
theorem rw_11_56 : mm_code 11 56 = some (.aload_n 0, 1, 0, 0, []) := rfl
theorem rw_11_57 : mm_code 11 57 = some (.getfield 19, 3, 1, 2, [3, 3]) := rfl
theorem rw_11_60 : mm_code 11 60 = some (.iload 4, 2, 0, 0, []) := rfl
theorem rw_11_62 : mm_code 11 62 = some (.bipush 8, 2, 8, 0, []) := rfl
theorem rw_11_64 : mm_code 11 64 = some (.imul, 1, 0, 0, []) := rfl
theorem rw_11_65 : mm_code 11 65 = some (.iload 5, 2, 0, 0, []) := rfl
theorem rw_11_67 : mm_code 11 67 = some (.iadd, 1, 0, 0, []) := rfl
theorem rw_11_68 : mm_code 11 68 = some (.aload_n 2, 1, 0, 0, []) := rfl
theorem rw_11_69 : mm_code 11 69 = some (.getfield 63, 3, 3, 4, [3, 14]) := rfl
theorem rw_11_72 : mm_code 11 72 = some (.iload_n 3, 1, 0, 0, []) := rfl
theorem rw_11_73 : mm_code 11 73 = some (.iaload, 1, 0, 0, []) := rfl
theorem rw_11_74 : mm_code 11 74 = some (.iastore, 1, 0, 0, []) := rfl
theorem rw_11_75 : mm_code 11 75 = some (.aload_n 0, 1, 0, 0, []) := rfl
theorem rw_11_76 : mm_code 11 76 = some (.getfield 9, 3, 1, 0, [3, 1]) := rfl
theorem rw_11_79 : mm_code 11 79 = some (.iload 4, 2, 0, 0, []) := rfl
theorem rw_11_81 : mm_code 11 81 = some (.dup2, 1, 0, 0, []) := rfl
theorem rw_11_82 : mm_code 11 82 = some (.laload, 1, 0, 0, []) := rfl
theorem rw_11_83 : mm_code 11 83 = some (.aload_n 1, 1, 0, 0, []) := rfl
theorem rw_11_84 : mm_code 11 84 = some (.iload 5, 2, 0, 0, []) := rfl
theorem rw_11_86 : mm_code 11 86 = some (.aload_n 2, 1, 0, 0, []) := rfl
theorem rw_11_87 : mm_code 11 87 = some (.getfield 63, 3, 3, 4, [3, 14]) := rfl
theorem rw_11_90 : mm_code 11 90 = some (.iload_n 3, 1, 0, 0, []) := rfl
theorem rw_11_91 : mm_code 11 91 = some (.iaload, 1, 0, 0, []) := rfl
theorem rw_11_92 : mm_code 11 92 = some (.invokevirtual 66, 3, 49, 3, [15, 0]) := rfl
theorem rw_11_95 : mm_code 11 95 = some (.lor, 1, 0, 0, []) := rfl
theorem rw_11_96 : mm_code 11 96 = some (.lastore, 1, 0, 0, []) := rfl
theorem rw_11_97 : mm_code 11 97 = some (.goto 101, 3, 198, 0, []) := rfl
theorem rw_11_100 : mm_code 11 100 = some (.aload_n 0, 1, 0, 0, []) := rfl
theorem rw_11_101 : mm_code 11 101 = some (.getfield 15, 3, 1, 1, [3, 2]) := rfl
theorem rw_11_104 : mm_code 11 104 = some (.iload 4, 2, 0, 0, []) := rfl
theorem rw_11_106 : mm_code 11 106 = some (.dup2, 1, 0, 0, []) := rfl
theorem rw_11_107 : mm_code 11 107 = some (.iaload, 1, 0, 0, []) := rfl
theorem rw_11_108 : mm_code 11 108 = some (.iconst 1, 1, 1, 0, []) := rfl
theorem rw_11_109 : mm_code 11 109 = some (.iload 5, 2, 0, 0, []) := rfl
theorem rw_11_111 : mm_code 11 111 = some (.ishl, 1, 0, 0, []) := rfl
theorem rw_11_112 : mm_code 11 112 = some (.ior, 1, 0, 0, []) := rfl
theorem rw_11_113 : mm_code 11 113 = some (.iastore, 1, 0, 0, []) := rfl
theorem rw_11_114 : mm_code 11 114 = some (.aload_n 0, 1, 0, 0, []) := rfl
theorem rw_11_115 : mm_code 11 115 = some (.getfield 9, 3, 1, 0, [3, 1]) := rfl
theorem rw_11_118 : mm_code 11 118 = some (.iload 4, 2, 0, 0, []) := rfl
theorem rw_11_120 : mm_code 11 120 = some (.dup2, 1, 0, 0, []) := rfl
theorem rw_11_121 : mm_code 11 121 = some (.laload, 1, 0, 0, []) := rfl
theorem rw_11_122 : mm_code 11 122 = some (.aload_n 0, 1, 0, 0, []) := rfl
theorem rw_11_123 : mm_code 11 123 = some (.getfield 22, 3, 1, 3, [3, 4]) := rfl
theorem rw_11_126 : mm_code 11 126 = some (.iload 5, 2, 0, 0, []) := rfl
theorem rw_11_128 : mm_code 11 128 = some (.laload, 1, 0, 0, []) := rfl
theorem rw_11_129 : mm_code 11 129 = some (.lor, 1, 0, 0, []) := rfl
theorem rw_11_130 : mm_code 11 130 = some (.lastore, 1, 0, 0, []) := rfl
theorem rw_11_131 : mm_code 11 131 = some (.goto 67, 3, 198, 0, []) := rfl
theorem rw_11_134 : mm_code 11 134 = some (.aload_n 0, 1, 0, 0, []) := rfl
theorem rw_11_135 : mm_code 11 135 = some (.getfield 9, 3, 1, 0, [3, 1]) := rfl
theorem rw_11_138 : mm_code 11 138 = some (.iload 4, 2, 0, 0, []) := rfl
theorem rw_11_140 : mm_code 11 140 = some (.dup2, 1, 0, 0, []) := rfl
theorem rw_11_141 : mm_code 11 141 = some (.laload, 1, 0, 0, []) := rfl
theorem rw_11_142 : mm_code 11 142 = some (.lconst 1, 1, 1, 0, []) := rfl
theorem rw_11_143 : mm_code 11 143 = some (.iload 5, 2, 0, 0, []) := rfl
theorem rw_11_145 : mm_code 11 145 = some (.lshl, 1, 0, 0, []) := rfl
theorem rw_11_146 : mm_code 11 146 = some (.lor, 1, 0, 0, []) := rfl
theorem rw_11_147 : mm_code 11 147 = some (.lastore, 1, 0, 0, []) := rfl
theorem rw_11_148 : mm_code 11 148 = some (.goto 50, 3, 198, 0, []) := rfl
theorem rw_11_151 : mm_code 11 151 = some (.aload_n 0, 1, 0, 0, []) := rfl
theorem rw_11_152 : mm_code 11 152 = some (.getfield 9, 3, 1, 0, [3, 1]) := rfl
theorem rw_11_155 : mm_code 11 155 = some (.iload 4, 2, 0, 0, []) := rfl
theorem rw_11_157 : mm_code 11 157 = some (.dup2, 1, 0, 0, []) := rfl
theorem rw_11_158 : mm_code 11 158 = some (.laload, 1, 0, 0, []) := rfl
theorem rw_11_159 : mm_code 11 159 = some (.lconst 1, 1, 1, 0, []) := rfl
theorem rw_11_160 : mm_code 11 160 = some (.iload 5, 2, 0, 0, []) := rfl
theorem rw_11_162 : mm_code 11 162 = some (.lshl, 1, 0, 0, []) := rfl
theorem rw_11_163 : mm_code 11 163 = some (.ldc2_w 70, 3, 1, 1, [16]) := rfl
theorem rw_11_166 : mm_code 11 166 = some (.lxor, 1, 0, 0, []) := rfl
theorem rw_11_167 : mm_code 11 167 = some (.land, 1, 0, 0, []) := rfl
theorem rw_11_168 : mm_code 11 168 = some (.lastore, 1, 0, 0, []) := rfl
theorem rw_11_169 : mm_code 11 169 = some (.goto 29, 3, 198, 0, []) := rfl
theorem rw_11_172 : mm_code 11 172 = some (.aload_n 0, 1, 0, 0, []) := rfl
theorem rw_11_173 : mm_code 11 173 = some (.getfield 22, 3, 1, 3, [3, 4]) := rfl
theorem rw_11_176 : mm_code 11 176 = some (.iload 4, 2, 0, 0, []) := rfl
theorem rw_11_178 : mm_code 11 178 = some (.iload 5, 2, 0, 0, []) := rfl
theorem rw_11_180 : mm_code 11 180 = some (.i2l, 1, 0, 0, []) := rfl
theorem rw_11_181 : mm_code 11 181 = some (.aload_n 1, 1, 0, 0, []) := rfl
theorem rw_11_182 : mm_code 11 182 = some (.getfield 72, 3, 5, 7, [3, 17]) := rfl
theorem rw_11_185 : mm_code 11 185 = some (.aload_n 1, 1, 0, 0, []) := rfl
theorem rw_11_186 : mm_code 11 186 = some (.getfield 73, 3, 5, 11, [3, 18]) := rfl
theorem rw_11_189 : mm_code 11 189 = some (.iload 4, 2, 0, 0, []) := rfl
theorem rw_11_191 : mm_code 11 191 = some (.iaload, 1, 0, 0, []) := rfl
theorem rw_11_192 : mm_code 11 192 = some (.iaload, 1, 0, 0, []) := rfl
theorem rw_11_193 : mm_code 11 193 = some (.lshl, 1, 0, 0, []) := rfl
theorem rw_11_194 : mm_code 11 194 = some (.lastore, 1, 0, 0, []) := rfl
theorem rw_11_195 : mm_code 11 195 = some (.goto 3, 3, 198, 0, []) := rfl
theorem rw_11_198 : mm_code 11 198 = some (.return_, 1, 0, 0, []) := rfl
theorem rw_12_0 : mm_code 12 0 = some (.aload_n 0, 1, 0, 0, []) := rfl
theorem rw_12_1 : mm_code 12 1 = some (.getfield 19, 3, 1, 2, [3, 3]) := rfl
theorem rw_12_4 : mm_code 12 4 = some (.iload_n 1, 1, 0, 0, []) := rfl
theorem rw_12_5 : mm_code 12 5 = some (.bipush 8, 2, 8, 0, []) := rfl
theorem rw_12_7 : mm_code 12 7 = some (.imul, 1, 0, 0, []) := rfl
theorem rw_12_8 : mm_code 12 8 = some (.iload_n 2, 1, 0, 0, []) := rfl
theorem rw_12_9 : mm_code 12 9 = some (.iadd, 1, 0, 0, []) := rfl
theorem rw_12_10 : mm_code 12 10 = some (.iaload, 1, 0, 0, []) := rfl
theorem rw_12_11 : mm_code 12 11 = some (.ireturn, 1, 0, 0, []) := rfl
theorem rw_13_0 : mm_code 13 0 = some (.aload_n 0, 1, 0, 0, []) := rfl
theorem rw_13_1 : mm_code 13 1 = some (.getfield 15, 3, 1, 1, [3, 2]) := rfl
theorem rw_13_4 : mm_code 13 4 = some (.iload_n 1, 1, 0, 0, []) := rfl
theorem rw_13_5 : mm_code 13 5 = some (.iaload, 1, 0, 0, []) := rfl
theorem rw_13_6 : mm_code 13 6 = some (.iload_n 2, 1, 0, 0, []) := rfl
theorem rw_13_7 : mm_code 13 7 = some (.ishr, 1, 0, 0, []) := rfl
theorem rw_13_8 : mm_code 13 8 = some (.iconst 1, 1, 1, 0, []) := rfl
theorem rw_13_9 : mm_code 13 9 = some (.iand, 1, 0, 0, []) := rfl
theorem rw_13_10 : mm_code 13 10 = some (.ifCond .eq 7, 3, 17, 0, []) := rfl
theorem rw_13_13 : mm_code 13 13 = some (.iconst 1, 1, 1, 0, []) := rfl
theorem rw_13_14 : mm_code 13 14 = some (.goto 4, 3, 18, 0, []) := rfl
theorem rw_13_17 : mm_code 13 17 = some (.iconst 0, 1, 0, 0, []) := rfl
theorem rw_13_18 : mm_code 13 18 = some (.ireturn, 1, 1, 0, []) := rfl
theorem rw_14_0 : mm_code 14 0 = some (.aload_n 0, 1, 0, 0, []) := rfl
theorem rw_14_1 : mm_code 14 1 = some (.getfield 9, 3, 1, 0, [3, 1]) := rfl
theorem rw_14_4 : mm_code 14 4 = some (.iload_n 1, 1, 0, 0, []) := rfl
theorem rw_14_5 : mm_code 14 5 = some (.laload, 1, 0, 0, []) := rfl
theorem rw_14_6 : mm_code 14 6 = some (.lload_n 2, 1, 0, 0, []) := rfl
theorem rw_14_7 : mm_code 14 7 = some (.land, 1, 0, 0, []) := rfl
theorem rw_14_8 : mm_code 14 8 = some (.lload_n 2, 1, 0, 0, []) := rfl
theorem rw_14_9 : mm_code 14 9 = some (.lcmp, 1, 0, 0, []) := rfl
theorem rw_14_10 : mm_code 14 10 = some (.ifCond .ne 7, 3, 17, 0, []) := rfl
theorem rw_14_13 : mm_code 14 13 = some (.iconst 1, 1, 1, 0, []) := rfl
theorem rw_14_14 : mm_code 14 14 = some (.goto 4, 3, 18, 0, []) := rfl
theorem rw_14_17 : mm_code 14 17 = some (.iconst 0, 1, 0, 0, []) := rfl
theorem rw_14_18 : mm_code 14 18 = some (.ireturn, 1, 1, 0, []) := rfl
theorem rw_16_0 : mm_code 16 0 = some (.aload_n 2, 1, 0, 0, []) := rfl
theorem rw_16_1 : mm_code 16 1 = some (.getfield 19, 3, 1, 0, [3, 3]) := rfl
theorem rw_16_4 : mm_code 16 4 = some (.iload_n 3, 1, 0, 0, []) := rfl
theorem rw_16_5 : mm_code 16 5 = some (.laload, 1, 0, 0, []) := rfl
theorem rw_16_6 : mm_code 16 6 = some (.aload_n 1, 1, 0, 0, []) := rfl
theorem rw_16_7 : mm_code 16 7 = some (.iload 4, 2, 0, 0, []) := rfl
theorem rw_16_9 : mm_code 16 9 = some (.invokevirtual 24, 3, 48, 2, [4, 0]) := rfl
theorem rw_16_12 : mm_code 16 12 = some (.land, 1, 0, 0, []) := rfl
theorem rw_16_13 : mm_code 16 13 = some (.lstore 6, 2, 0, 0, []) := rfl
theorem rw_16_15 : mm_code 16 15 = some (.aload_n 0, 1, 0, 0, []) := rfl
theorem rw_16_16 : mm_code 16 16 = some (.iconst 0, 1, 0, 0, []) := rfl
theorem rw_16_17 : mm_code 16 17 = some (.putfield 30, 3, 2, 2, [0, 5]) := rfl
theorem rw_16_20 : mm_code 16 20 = some (.iconst 0, 1, 0, 0, []) := rfl
theorem rw_16_21 : mm_code 16 21 = some (.istore 8, 2, 0, 0, []) := rfl
theorem rw_16_23 : mm_code 16 23 = some (.iload 8, 2, 0, 0, []) := rfl
theorem rw_16_25 : mm_code 16 25 = some (.aload_n 1, 1, 0, 0, []) := rfl
theorem rw_16_26 : mm_code 16 26 = some (.getfield 34, 3, 5, 3, [0, 6]) := rfl
theorem rw_16_29 : mm_code 16 29 = some (.if_icmp .ge 80, 3, 109, 0, []) := rfl
theorem rw_16_32 : mm_code 16 32 = some (.iload 8, 2, 0, 0, []) := rfl
theorem rw_16_34 : mm_code 16 34 = some (.bipush 12, 2, 12, 0, []) := rfl
theorem rw_16_36 : mm_code 16 36 = some (.if_icmp .ge 73, 3, 109, 0, []) := rfl
theorem rw_16_39 : mm_code 16 39 = some (.aload_n 1, 1, 0, 0, []) := rfl
theorem rw_16_40 : mm_code 16 40 = some (.getfield 36, 3, 5, 11, [3, 7]) := rfl
theorem rw_16_43 : mm_code 16 43 = some (.iload 8, 2, 0, 0, []) := rfl
theorem rw_16_45 : mm_code 16 45 = some (.iaload, 1, 0, 0, []) := rfl
theorem rw_16_46 : mm_code 16 46 = some (.iload 4, 2, 0, 0, []) := rfl
theorem rw_16_48 : mm_code 16 48 = some (.if_icmp .ne 55, 3, 103, 0, []) := rfl
theorem rw_16_51 : mm_code 16 51 = some (.aload_n 2, 1, 0, 0, []) := rfl
theorem rw_16_52 : mm_code 16 52 = some (.iload_n 3, 1, 0, 0, []) := rfl
theorem rw_16_53 : mm_code 16 53 = some (.aload_n 2, 1, 0, 0, []) := rfl
theorem rw_16_54 : mm_code 16 54 = some (.getfield 39, 3, 1, 3, [3, 8]) := rfl
theorem rw_16_57 : mm_code 16 57 = some (.iload 8, 2, 0, 0, []) := rfl
theorem rw_16_59 : mm_code 16 59 = some (.laload, 1, 0, 0, []) := rfl
theorem rw_16_60 : mm_code 16 60 = some (.invokevirtual 40, 3, 14, 3, [9, 0]) := rfl
theorem rw_16_63 : mm_code 16 63 = some (.ifCond .eq 40, 3, 103, 0, []) := rfl
theorem rw_16_66 : mm_code 16 66 = some (.aload_n 0, 1, 0, 0, []) := rfl
theorem rw_16_67 : mm_code 16 67 = some (.getfield 9, 3, 2, 0, [3, 1]) := rfl
theorem rw_16_70 : mm_code 16 70 = some (.aload_n 0, 1, 0, 0, []) := rfl
theorem rw_16_71 : mm_code 16 71 = some (.getfield 30, 3, 2, 2, [0, 5]) := rfl
theorem rw_16_74 : mm_code 16 74 = some (.iload 8, 2, 0, 0, []) := rfl
theorem rw_16_76 : mm_code 16 76 = some (.iastore, 1, 0, 0, []) := rfl
theorem rw_16_77 : mm_code 16 77 = some (.aload_n 0, 1, 0, 0, []) := rfl
theorem rw_16_78 : mm_code 16 78 = some (.getfield 15, 3, 2, 1, [3, 2]) := rfl
theorem rw_16_81 : mm_code 16 81 = some (.aload_n 0, 1, 0, 0, []) := rfl
theorem rw_16_82 : mm_code 16 82 = some (.getfield 30, 3, 2, 2, [0, 5]) := rfl
theorem rw_16_85 : mm_code 16 85 = some (.aload_n 2, 1, 0, 0, []) := rfl
theorem rw_16_86 : mm_code 16 86 = some (.getfield 39, 3, 1, 3, [3, 8]) := rfl
theorem rw_16_89 : mm_code 16 89 = some (.iload 8, 2, 0, 0, []) := rfl
theorem rw_16_91 : mm_code 16 91 = some (.laload, 1, 0, 0, []) := rfl
theorem rw_16_92 : mm_code 16 92 = some (.lastore, 1, 0, 0, []) := rfl
theorem rw_16_93 : mm_code 16 93 = some (.aload_n 0, 1, 0, 0, []) := rfl
theorem rw_16_94 : mm_code 16 94 = some (.dup, 1, 0, 0, []) := rfl
theorem rw_16_95 : mm_code 16 95 = some (.getfield 30, 3, 2, 2, [0, 5]) := rfl
theorem rw_16_98 : mm_code 16 98 = some (.iconst 1, 1, 1, 0, []) := rfl
theorem rw_16_99 : mm_code 16 99 = some (.iadd, 1, 0, 0, []) := rfl
theorem rw_16_100 : mm_code 16 100 = some (.putfield 30, 3, 2, 2, [0, 5]) := rfl
theorem rw_16_103 : mm_code 16 103 = some (.iinc 8 1, 3, 1, 0, []) := rfl
theorem rw_16_106 : mm_code 16 106 = some (.goto (-83), 3, 23, 0, []) := rfl
theorem rw_16_109 : mm_code 16 109 = some (.aload_n 0, 1, 0, 0, []) := rfl
theorem rw_16_110 : mm_code 16 110 = some (.iload 5, 2, 0, 0, []) := rfl
theorem rw_16_112 : mm_code 16 112 = some (.putfield 44, 3, 2, 3, [0, 10]) := rfl
theorem rw_16_115 : mm_code 16 115 = some (.aload_n 0, 1, 0, 0, []) := rfl
theorem rw_16_116 : mm_code 16 116 = some (.aload_n 1, 1, 0, 0, []) := rfl
theorem rw_16_117 : mm_code 16 117 = some (.iload 4, 2, 0, 0, []) := rfl
theorem rw_16_119 : mm_code 16 119 = some (.invokevirtual 47, 3, 51, 2, [11, 0]) := rfl
theorem rw_16_122 : mm_code 16 122 = some (.putfield 51, 3, 2, 4, [0, 12]) := rfl
theorem rw_16_125 : mm_code 16 125 = some (.aload_n 0, 1, 0, 0, []) := rfl
theorem rw_16_126 : mm_code 16 126 = some (.iconst 0, 1, 0, 0, []) := rfl
theorem rw_16_127 : mm_code 16 127 = some (.putfield 54, 3, 2, 5, [0, 13]) := rfl
theorem rw_16_130 : mm_code 16 130 = some (.aload_n 0, 1, 0, 0, []) := rfl
theorem rw_16_131 : mm_code 16 131 = some (.iconst 0, 1, 0, 0, []) := rfl
theorem rw_16_132 : mm_code 16 132 = some (.putfield 57, 3, 2, 6, [0, 14]) := rfl
theorem rw_16_135 : mm_code 16 135 = some (.aload_n 0, 1, 0, 0, []) := rfl
theorem rw_16_136 : mm_code 16 136 = some (.iconst 0, 1, 0, 0, []) := rfl
theorem rw_16_137 : mm_code 16 137 = some (.iconst 0, 1, 0, 0, []) := rfl
theorem rw_16_138 : mm_code 16 138 = some (.lload 6, 2, 0, 0, []) := rfl
theorem rw_16_140 : mm_code 16 140 = some (.invokevirtual 60, 3, 17, 4, [15, 0]) := rfl
theorem rw_16_143 : mm_code 16 143 = some (.aload_n 0, 1, 0, 0, []) := rfl
theorem rw_16_144 : mm_code 16 144 = some (.getfield 57, 3, 2, 6, [0, 14]) := rfl
theorem rw_16_147 : mm_code 16 147 = some (.ifCond .ne 8, 3, 155, 0, []) := rfl
theorem rw_16_150 : mm_code 16 150 = some (.aload_n 0, 1, 0, 0, []) := rfl
theorem rw_16_151 : mm_code 16 151 = some (.iconst 0, 1, 0, 0, []) := rfl
theorem rw_16_152 : mm_code 16 152 = some (.putfield 51, 3, 2, 4, [0, 12]) := rfl
theorem rw_16_155 : mm_code 16 155 = some (.return_, 1, 0, 0, []) := rfl
theorem rw_17_0 : mm_code 17 0 = some (.iload_n 1, 1, 0, 0, []) := rfl
theorem rw_17_1 : mm_code 17 1 = some (.aload_n 0, 1, 0, 0, []) := rfl
theorem rw_17_2 : mm_code 17 2 = some (.getfield 30, 3, 2, 2, [0, 5]) := rfl
theorem rw_17_5 : mm_code 17 5 = some (.if_icmp .ge 44, 3, 49, 0, []) := rfl
theorem rw_17_8 : mm_code 17 8 = some (.aload_n 0, 1, 0, 0, []) := rfl
theorem rw_17_9 : mm_code 17 9 = some (.iload_n 1, 1, 0, 0, []) := rfl
theorem rw_17_10 : mm_code 17 10 = some (.iconst 1, 1, 1, 0, []) := rfl
theorem rw_17_11 : mm_code 17 11 = some (.iadd, 1, 0, 0, []) := rfl
theorem rw_17_12 : mm_code 17 12 = some (.iload_n 2, 1, 0, 0, []) := rfl
theorem rw_17_13 : mm_code 17 13 = some (.lload_n 3, 1, 0, 0, []) := rfl
theorem rw_17_14 : mm_code 17 14 = some (.invokevirtual 60, 3, 17, 4, [15, 0]) := rfl
theorem rw_17_17 : mm_code 17 17 = some (.aload_n 0, 1, 0, 0, []) := rfl
theorem rw_17_18 : mm_code 17 18 = some (.iload_n 1, 1, 0, 0, []) := rfl
theorem rw_17_19 : mm_code 17 19 = some (.iconst 1, 1, 1, 0, []) := rfl
theorem rw_17_20 : mm_code 17 20 = some (.iadd, 1, 0, 0, []) := rfl
theorem rw_17_21 : mm_code 17 21 = some (.iload_n 2, 1, 0, 0, []) := rfl
theorem rw_17_22 : mm_code 17 22 = some (.iconst 1, 1, 1, 0, []) := rfl
theorem rw_17_23 : mm_code 17 23 = some (.aload_n 0, 1, 0, 0, []) := rfl
theorem rw_17_24 : mm_code 17 24 = some (.getfield 9, 3, 2, 0, [3, 1]) := rfl
theorem rw_17_27 : mm_code 17 27 = some (.iload_n 1, 1, 0, 0, []) := rfl
theorem rw_17_28 : mm_code 17 28 = some (.iaload, 1, 0, 0, []) := rfl
theorem rw_17_29 : mm_code 17 29 = some (.ishl, 1, 0, 0, []) := rfl
theorem rw_17_30 : mm_code 17 30 = some (.ior, 1, 0, 0, []) := rfl
theorem rw_17_31 : mm_code 17 31 = some (.lload_n 3, 1, 0, 0, []) := rfl
theorem rw_17_32 : mm_code 17 32 = some (.aload_n 0, 1, 0, 0, []) := rfl
theorem rw_17_33 : mm_code 17 33 = some (.getfield 15, 3, 2, 1, [3, 2]) := rfl
theorem rw_17_36 : mm_code 17 36 = some (.iload_n 1, 1, 0, 0, []) := rfl
theorem rw_17_37 : mm_code 17 37 = some (.laload, 1, 0, 0, []) := rfl
theorem rw_17_38 : mm_code 17 38 = some (.ldc2_w 64, 3, 1, 1, [16]) := rfl
theorem rw_17_41 : mm_code 17 41 = some (.lxor, 1, 0, 0, []) := rfl
theorem rw_17_42 : mm_code 17 42 = some (.land, 1, 0, 0, []) := rfl
theorem rw_17_43 : mm_code 17 43 = some (.invokevirtual 60, 3, 17, 4, [15, 0]) := rfl
theorem rw_17_46 : mm_code 17 46 = some (.goto 44, 3, 90, 0, []) := rfl
theorem rw_17_49 : mm_code 17 49 = some (.lload_n 3, 1, 0, 0, []) := rfl
theorem rw_17_50 : mm_code 17 50 = some (.invokestatic 66, 3, 247, 1, [17, 0]) := rfl
theorem rw_17_53 : mm_code 17 53 = some (.aload_n 0, 1, 0, 0, []) := rfl
theorem rw_17_54 : mm_code 17 54 = some (.getfield 44, 3, 2, 3, [0, 10]) := rfl
theorem rw_17_57 : mm_code 17 57 = some (.if_icmp .gt 33, 3, 90, 0, []) := rfl
theorem rw_17_60 : mm_code 17 60 = some (.aload_n 0, 1, 0, 0, []) := rfl
theorem rw_17_61 : mm_code 17 61 = some (.dup, 1, 0, 0, []) := rfl
theorem rw_17_62 : mm_code 17 62 = some (.getfield 57, 3, 2, 6, [0, 14]) := rfl
theorem rw_17_65 : mm_code 17 65 = some (.iconst 1, 1, 1, 0, []) := rfl
theorem rw_17_66 : mm_code 17 66 = some (.iadd, 1, 0, 0, []) := rfl
theorem rw_17_67 : mm_code 17 67 = some (.putfield 57, 3, 2, 6, [0, 14]) := rfl
theorem rw_17_70 : mm_code 17 70 = some (.aload_n 0, 1, 0, 0, []) := rfl
theorem rw_17_71 : mm_code 17 71 = some (.dup, 1, 0, 0, []) := rfl
theorem rw_17_72 : mm_code 17 72 = some (.getfield 51, 3, 2, 4, [0, 12]) := rfl
theorem rw_17_75 : mm_code 17 75 = some (.iload_n 2, 1, 0, 0, []) := rfl
theorem rw_17_76 : mm_code 17 76 = some (.iand, 1, 0, 0, []) := rfl
theorem rw_17_77 : mm_code 17 77 = some (.putfield 51, 3, 2, 4, [0, 12]) := rfl
theorem rw_17_80 : mm_code 17 80 = some (.aload_n 0, 1, 0, 0, []) := rfl
theorem rw_17_81 : mm_code 17 81 = some (.dup, 1, 0, 0, []) := rfl
theorem rw_17_82 : mm_code 17 82 = some (.getfield 54, 3, 2, 5, [0, 13]) := rfl
theorem rw_17_85 : mm_code 17 85 = some (.iload_n 2, 1, 0, 0, []) := rfl
theorem rw_17_86 : mm_code 17 86 = some (.ior, 1, 0, 0, []) := rfl
theorem rw_17_87 : mm_code 17 87 = some (.putfield 54, 3, 2, 5, [0, 13]) := rfl
theorem rw_17_90 : mm_code 17 90 = some (.return_, 1, 0, 0, []) := rfl
theorem rw_18_0 : mm_code 18 0 = some (.aload_n 2, 1, 0, 0, []) := rfl
theorem rw_18_1 : mm_code 18 1 = some (.getfield 19, 3, 1, 0, [3, 3]) := rfl
theorem rw_18_4 : mm_code 18 4 = some (.iload_n 3, 1, 0, 0, []) := rfl
theorem rw_18_5 : mm_code 18 5 = some (.laload, 1, 0, 0, []) := rfl
theorem rw_18_6 : mm_code 18 6 = some (.aload_n 1, 1, 0, 0, []) := rfl
theorem rw_18_7 : mm_code 18 7 = some (.iload 4, 2, 0, 0, []) := rfl
theorem rw_18_9 : mm_code 18 9 = some (.invokevirtual 24, 3, 48, 2, [4, 0]) := rfl
theorem rw_18_12 : mm_code 18 12 = some (.land, 1, 0, 0, []) := rfl
theorem rw_18_13 : mm_code 18 13 = some (.lstore 6, 2, 0, 0, []) := rfl
theorem rw_18_15 : mm_code 18 15 = some (.aload_n 0, 1, 0, 0, []) := rfl
theorem rw_18_16 : mm_code 18 16 = some (.iconst (-1), 1, 1, 1, []) := rfl
theorem rw_18_17 : mm_code 18 17 = some (.putfield 51, 3, 2, 4, [0, 12]) := rfl
theorem rw_18_20 : mm_code 18 20 = some (.aload_n 0, 1, 0, 0, []) := rfl
theorem rw_18_21 : mm_code 18 21 = some (.iconst 0, 1, 0, 0, []) := rfl
theorem rw_18_22 : mm_code 18 22 = some (.putfield 54, 3, 2, 5, [0, 13]) := rfl
theorem rw_18_25 : mm_code 18 25 = some (.aload_n 0, 1, 0, 0, []) := rfl
theorem rw_18_26 : mm_code 18 26 = some (.iconst 0, 1, 0, 0, []) := rfl
theorem rw_18_27 : mm_code 18 27 = some (.putfield 57, 3, 2, 6, [0, 14]) := rfl
theorem rw_18_30 : mm_code 18 30 = some (.iconst 0, 1, 0, 0, []) := rfl
theorem rw_18_31 : mm_code 18 31 = some (.istore 8, 2, 0, 0, []) := rfl
theorem rw_18_33 : mm_code 18 33 = some (.iload 8, 2, 0, 0, []) := rfl
theorem rw_18_35 : mm_code 18 35 = some (.aload_n 1, 1, 0, 0, []) := rfl
theorem rw_18_36 : mm_code 18 36 = some (.getfield 72, 3, 5, 9, [3, 18]) := rfl
theorem rw_18_39 : mm_code 18 39 = some (.iload 4, 2, 0, 0, []) := rfl
theorem rw_18_41 : mm_code 18 41 = some (.iaload, 1, 0, 0, []) := rfl
theorem rw_18_42 : mm_code 18 42 = some (.if_icmp .ge 88, 3, 130, 0, []) := rfl
theorem rw_18_45 : mm_code 18 45 = some (.aload_n 1, 1, 0, 0, []) := rfl
theorem rw_18_46 : mm_code 18 46 = some (.iload 4, 2, 0, 0, []) := rfl
theorem rw_18_48 : mm_code 18 48 = some (.iload 8, 2, 0, 0, []) := rfl
theorem rw_18_50 : mm_code 18 50 = some (.invokevirtual 75, 3, 49, 3, [19, 0]) := rfl
theorem rw_18_53 : mm_code 18 53 = some (.lstore 9, 2, 0, 0, []) := rfl
theorem rw_18_55 : mm_code 18 55 = some (.lload 6, 2, 0, 0, []) := rfl
theorem rw_18_57 : mm_code 18 57 = some (.lload 9, 2, 0, 0, []) := rfl
theorem rw_18_59 : mm_code 18 59 = some (.land, 1, 0, 0, []) := rfl
theorem rw_18_60 : mm_code 18 60 = some (.lload 9, 2, 0, 0, []) := rfl
theorem rw_18_62 : mm_code 18 62 = some (.lcmp, 1, 0, 0, []) := rfl
theorem rw_18_63 : mm_code 18 63 = some (.ifCond .ne 61, 3, 124, 0, []) := rfl
theorem rw_18_66 : mm_code 18 66 = some (.lload 6, 2, 0, 0, []) := rfl
theorem rw_18_68 : mm_code 18 68 = some (.lload 9, 2, 0, 0, []) := rfl
theorem rw_18_70 : mm_code 18 70 = some (.ldc2_w 64, 3, 1, 1, [16]) := rfl
theorem rw_18_73 : mm_code 18 73 = some (.lxor, 1, 0, 0, []) := rfl
theorem rw_18_74 : mm_code 18 74 = some (.land, 1, 0, 0, []) := rfl
theorem rw_18_75 : mm_code 18 75 = some (.invokestatic 66, 3, 247, 1, [17, 0]) := rfl
theorem rw_18_78 : mm_code 18 78 = some (.iload 5, 2, 0, 0, []) := rfl
theorem rw_18_80 : mm_code 18 80 = some (.if_icmp .gt 44, 3, 124, 0, []) := rfl
theorem rw_18_83 : mm_code 18 83 = some (.aload_n 0, 1, 0, 0, []) := rfl
theorem rw_18_84 : mm_code 18 84 = some (.dup, 1, 0, 0, []) := rfl
theorem rw_18_85 : mm_code 18 85 = some (.getfield 57, 3, 2, 6, [0, 14]) := rfl
theorem rw_18_88 : mm_code 18 88 = some (.iconst 1, 1, 1, 0, []) := rfl
theorem rw_18_89 : mm_code 18 89 = some (.iadd, 1, 0, 0, []) := rfl
theorem rw_18_90 : mm_code 18 90 = some (.putfield 57, 3, 2, 6, [0, 14]) := rfl
theorem rw_18_93 : mm_code 18 93 = some (.aload_n 0, 1, 0, 0, []) := rfl
theorem rw_18_94 : mm_code 18 94 = some (.aload_n 0, 1, 0, 0, []) := rfl
theorem rw_18_95 : mm_code 18 95 = some (.getfield 57, 3, 2, 6, [0, 14]) := rfl
theorem rw_18_98 : mm_code 18 98 = some (.iconst 1, 1, 1, 0, []) := rfl
theorem rw_18_99 : mm_code 18 99 = some (.if_icmp .ne 8, 3, 107, 0, []) := rfl
theorem rw_18_102 : mm_code 18 102 = some (.iload 8, 2, 0, 0, []) := rfl
theorem rw_18_104 : mm_code 18 104 = some (.goto 4, 3, 108, 0, []) := rfl
theorem rw_18_107 : mm_code 18 107 = some (.iconst (-1), 1, 1, 1, []) := rfl
theorem rw_18_108 : mm_code 18 108 = some (.putfield 51, 3, 2, 4, [0, 12]) := rfl
theorem rw_18_111 : mm_code 18 111 = some (.aload_n 0, 1, 0, 0, []) := rfl
theorem rw_18_112 : mm_code 18 112 = some (.dup, 1, 0, 0, []) := rfl
theorem rw_18_113 : mm_code 18 113 = some (.getfield 54, 3, 2, 5, [0, 13]) := rfl
theorem rw_18_116 : mm_code 18 116 = some (.iconst 1, 1, 1, 0, []) := rfl
theorem rw_18_117 : mm_code 18 117 = some (.iload 8, 2, 0, 0, []) := rfl
theorem rw_18_119 : mm_code 18 119 = some (.ishl, 1, 0, 0, []) := rfl
theorem rw_18_120 : mm_code 18 120 = some (.ior, 1, 0, 0, []) := rfl
theorem rw_18_121 : mm_code 18 121 = some (.putfield 54, 3, 2, 5, [0, 13]) := rfl
theorem rw_18_124 : mm_code 18 124 = some (.iinc 8 1, 3, 1, 0, []) := rfl
theorem rw_18_127 : mm_code 18 127 = some (.goto (-94), 3, 33, 0, []) := rfl
theorem rw_18_130 : mm_code 18 130 = some (.return_, 1, 0, 0, []) := rfl
theorem rw_20_0 : mm_code 20 0 = some (.aload_n 0, 1, 0, 0, []) := rfl
theorem rw_20_1 : mm_code 20 1 = some (.getfield 24, 3, 3, 0, [0, 5]) := rfl
theorem rw_20_4 : mm_code 20 4 = some (.sipush 150, 3, 150, 0, []) := rfl
theorem rw_20_7 : mm_code 20 7 = some (.if_icmp .lt 5, 3, 12, 0, []) := rfl
theorem rw_20_10 : mm_code 20 10 = some (.iconst (-1), 1, 1, 1, []) := rfl
theorem rw_20_11 : mm_code 20 11 = some (.ireturn, 1, 0, 0, []) := rfl
theorem rw_20_12 : mm_code 20 12 = some (.aload_n 0, 1, 0, 0, []) := rfl
theorem rw_20_13 : mm_code 20 13 = some (.getfield 9, 3, 3, 1, [3, 1]) := rfl
theorem rw_20_16 : mm_code 20 16 = some (.aload_n 0, 1, 0, 0, []) := rfl
theorem rw_20_17 : mm_code 20 17 = some (.getfield 24, 3, 3, 0, [0, 5]) := rfl
theorem rw_20_20 : mm_code 20 20 = some (.iload_n 1, 1, 0, 0, []) := rfl
theorem rw_20_21 : mm_code 20 21 = some (.iastore, 1, 0, 0, []) := rfl
theorem rw_20_22 : mm_code 20 22 = some (.aload_n 0, 1, 0, 0, []) := rfl
theorem rw_20_23 : mm_code 20 23 = some (.getfield 15, 3, 3, 2, [3, 2]) := rfl
theorem rw_20_26 : mm_code 20 26 = some (.aload_n 0, 1, 0, 0, []) := rfl
theorem rw_20_27 : mm_code 20 27 = some (.getfield 24, 3, 3, 0, [0, 5]) := rfl
theorem rw_20_30 : mm_code 20 30 = some (.iload_n 2, 1, 0, 0, []) := rfl
theorem rw_20_31 : mm_code 20 31 = some (.iastore, 1, 0, 0, []) := rfl
theorem rw_20_32 : mm_code 20 32 = some (.aload_n 0, 1, 0, 0, []) := rfl
theorem rw_20_33 : mm_code 20 33 = some (.getfield 18, 3, 3, 3, [3, 3]) := rfl
theorem rw_20_36 : mm_code 20 36 = some (.aload_n 0, 1, 0, 0, []) := rfl
theorem rw_20_37 : mm_code 20 37 = some (.getfield 24, 3, 3, 0, [0, 5]) := rfl
theorem rw_20_40 : mm_code 20 40 = some (.iload_n 3, 1, 0, 0, []) := rfl
theorem rw_20_41 : mm_code 20 41 = some (.iastore, 1, 0, 0, []) := rfl
theorem rw_20_42 : mm_code 20 42 = some (.aload_n 0, 1, 0, 0, []) := rfl
theorem rw_20_43 : mm_code 20 43 = some (.getfield 21, 3, 3, 4, [3, 4]) := rfl
theorem rw_20_46 : mm_code 20 46 = some (.aload_n 0, 1, 0, 0, []) := rfl
theorem rw_20_47 : mm_code 20 47 = some (.getfield 24, 3, 3, 0, [0, 5]) := rfl
theorem rw_20_50 : mm_code 20 50 = some (.iload 4, 2, 0, 0, []) := rfl
theorem rw_20_52 : mm_code 20 52 = some (.iastore, 1, 0, 0, []) := rfl
theorem rw_20_53 : mm_code 20 53 = some (.aload_n 0, 1, 0, 0, []) := rfl
theorem rw_20_54 : mm_code 20 54 = some (.dup, 1, 0, 0, []) := rfl
theorem rw_20_55 : mm_code 20 55 = some (.getfield 24, 3, 3, 0, [0, 5]) := rfl
theorem rw_20_58 : mm_code 20 58 = some (.iconst 1, 1, 1, 0, []) := rfl
theorem rw_20_59 : mm_code 20 59 = some (.iadd, 1, 0, 0, []) := rfl
theorem rw_20_60 : mm_code 20 60 = some (.putfield 24, 3, 3, 0, [0, 5]) := rfl
theorem rw_20_63 : mm_code 20 63 = some (.aload_n 0, 1, 0, 0, []) := rfl
theorem rw_20_64 : mm_code 20 64 = some (.getfield 24, 3, 3, 0, [0, 5]) := rfl
theorem rw_20_67 : mm_code 20 67 = some (.iconst 1, 1, 1, 0, []) := rfl
theorem rw_20_68 : mm_code 20 68 = some (.isub, 1, 0, 0, []) := rfl
theorem rw_20_69 : mm_code 20 69 = some (.ireturn, 1, 0, 0, []) := rfl
theorem rw_22_0 : mm_code 22 0 = some (.aload_n 0, 1, 0, 0, []) := rfl
theorem rw_22_1 : mm_code 22 1 = some (.iconst 0, 1, 0, 0, []) := rfl
theorem rw_22_2 : mm_code 22 2 = some (.putfield 27, 3, 4, 4, [0, 6]) := rfl
theorem rw_22_5 : mm_code 22 5 = some (.iconst 0, 1, 0, 0, []) := rfl
theorem rw_22_6 : mm_code 22 6 = some (.istore_n 1, 1, 0, 0, []) := rfl
theorem rw_22_7 : mm_code 22 7 = some (.iload_n 1, 1, 0, 0, []) := rfl
theorem rw_22_8 : mm_code 22 8 = some (.bipush 6, 2, 6, 0, []) := rfl
theorem rw_22_10 : mm_code 22 10 = some (.if_icmp .ge 16, 3, 26, 0, []) := rfl
theorem rw_22_13 : mm_code 22 13 = some (.aload_n 0, 1, 0, 0, []) := rfl
theorem rw_22_14 : mm_code 22 14 = some (.getfield 16, 3, 4, 1, [3, 3]) := rfl
theorem rw_22_17 : mm_code 22 17 = some (.iload_n 1, 1, 0, 0, []) := rfl
theorem rw_22_18 : mm_code 22 18 = some (.iconst 0, 1, 0, 0, []) := rfl
theorem rw_22_19 : mm_code 22 19 = some (.iastore, 1, 0, 0, []) := rfl
theorem rw_22_20 : mm_code 22 20 = some (.iinc 1 1, 3, 1, 0, []) := rfl
theorem rw_22_23 : mm_code 22 23 = some (.goto (-16), 3, 7, 0, []) := rfl
theorem rw_22_26 : mm_code 22 26 = some (.return_, 1, 0, 0, []) := rfl
theorem rw_23_0 : mm_code 23 0 = some (.aload_n 0, 1, 0, 0, []) := rfl
theorem rw_23_1 : mm_code 23 1 = some (.getfield 16, 3, 4, 1, [3, 3]) := rfl
theorem rw_23_4 : mm_code 23 4 = some (.iload_n 1, 1, 0, 0, []) := rfl
theorem rw_23_5 : mm_code 23 5 = some (.iaload, 1, 0, 0, []) := rfl
theorem rw_23_6 : mm_code 23 6 = some (.bipush 30, 2, 30, 0, []) := rfl
theorem rw_23_8 : mm_code 23 8 = some (.if_icmp .ge 27, 3, 35, 0, []) := rfl
theorem rw_23_11 : mm_code 23 11 = some (.aload_n 0, 1, 0, 0, []) := rfl
theorem rw_23_12 : mm_code 23 12 = some (.getfield 11, 3, 4, 0, [3, 2]) := rfl
theorem rw_23_15 : mm_code 23 15 = some (.iload_n 1, 1, 0, 0, []) := rfl
theorem rw_23_16 : mm_code 23 16 = some (.aaload, 1, 0, 0, []) := rfl
theorem rw_23_17 : mm_code 23 17 = some (.aload_n 0, 1, 0, 0, []) := rfl
theorem rw_23_18 : mm_code 23 18 = some (.getfield 16, 3, 4, 1, [3, 3]) := rfl
theorem rw_23_21 : mm_code 23 21 = some (.iload_n 1, 1, 0, 0, []) := rfl
theorem rw_23_22 : mm_code 23 22 = some (.iaload, 1, 0, 0, []) := rfl
theorem rw_23_23 : mm_code 23 23 = some (.iload_n 2, 1, 0, 0, []) := rfl
theorem rw_23_24 : mm_code 23 24 = some (.iastore, 1, 0, 0, []) := rfl
theorem rw_23_25 : mm_code 23 25 = some (.aload_n 0, 1, 0, 0, []) := rfl
theorem rw_23_26 : mm_code 23 26 = some (.getfield 16, 3, 4, 1, [3, 3]) := rfl
theorem rw_23_29 : mm_code 23 29 = some (.iload_n 1, 1, 0, 0, []) := rfl
theorem rw_23_30 : mm_code 23 30 = some (.dup2, 1, 0, 0, []) := rfl
theorem rw_23_31 : mm_code 23 31 = some (.iaload, 1, 0, 0, []) := rfl
theorem rw_23_32 : mm_code 23 32 = some (.iconst 1, 1, 1, 0, []) := rfl
theorem rw_23_33 : mm_code 23 33 = some (.iadd, 1, 0, 0, []) := rfl
theorem rw_23_34 : mm_code 23 34 = some (.iastore, 1, 0, 0, []) := rfl
theorem rw_23_35 : mm_code 23 35 = some (.return_, 1, 0, 0, []) := rfl
theorem rw_24_0 : mm_code 24 0 = some (.iconst 0, 1, 0, 0, []) := rfl
theorem rw_24_1 : mm_code 24 1 = some (.istore_n 3, 1, 0, 0, []) := rfl
theorem rw_24_2 : mm_code 24 2 = some (.iload_n 3, 1, 0, 0, []) := rfl
theorem rw_24_3 : mm_code 24 3 = some (.bipush 30, 2, 30, 0, []) := rfl
theorem rw_24_5 : mm_code 24 5 = some (.if_icmp .ge 57, 3, 62, 0, []) := rfl
theorem rw_24_8 : mm_code 24 8 = some (.aload_n 0, 1, 0, 0, []) := rfl
theorem rw_24_9 : mm_code 24 9 = some (.getfield 27, 3, 4, 4, [0, 6]) := rfl
theorem rw_24_12 : mm_code 24 12 = some (.iload_n 3, 1, 0, 0, []) := rfl
theorem rw_24_13 : mm_code 24 13 = some (.ishr, 1, 0, 0, []) := rfl
theorem rw_24_14 : mm_code 24 14 = some (.iconst 1, 1, 1, 0, []) := rfl
theorem rw_24_15 : mm_code 24 15 = some (.iand, 1, 0, 0, []) := rfl
theorem rw_24_16 : mm_code 24 16 = some (.ifCond .eq 7, 3, 23, 0, []) := rfl
theorem rw_24_19 : mm_code 24 19 = some (.iconst 1, 1, 1, 0, []) := rfl
theorem rw_24_20 : mm_code 24 20 = some (.goto 4, 3, 24, 0, []) := rfl
theorem rw_24_23 : mm_code 24 23 = some (.iconst 0, 1, 0, 0, []) := rfl
theorem rw_24_24 : mm_code 24 24 = some (.istore 4, 2, 0, 0, []) := rfl
theorem rw_24_26 : mm_code 24 26 = some (.aload_n 0, 1, 0, 0, []) := rfl
theorem rw_24_27 : mm_code 24 27 = some (.getfield 23, 3, 4, 3, [3, 5]) := rfl
theorem rw_24_30 : mm_code 24 30 = some (.iload_n 3, 1, 0, 0, []) := rfl
theorem rw_24_31 : mm_code 24 31 = some (.iload 4, 2, 0, 0, []) := rfl
theorem rw_24_33 : mm_code 24 33 = some (.ifCond .eq 16, 3, 49, 0, []) := rfl
theorem rw_24_36 : mm_code 24 36 = some (.aload_n 1, 1, 0, 0, []) := rfl
theorem rw_24_37 : mm_code 24 37 = some (.getfield 31, 3, 1, 0, [3, 7]) := rfl
theorem rw_24_40 : mm_code 24 40 = some (.iload_n 3, 1, 0, 0, []) := rfl
theorem rw_24_41 : mm_code 24 41 = some (.laload, 1, 0, 0, []) := rfl
theorem rw_24_42 : mm_code 24 42 = some (.iload_n 2, 1, 0, 0, []) := rfl
theorem rw_24_43 : mm_code 24 43 = some (.invokestatic 36, 3, 25, 2, [8, 0]) := rfl
theorem rw_24_46 : mm_code 24 46 = some (.goto 9, 3, 55, 0, []) := rfl
theorem rw_24_49 : mm_code 24 49 = some (.aload_n 1, 1, 0, 0, []) := rfl
theorem rw_24_50 : mm_code 24 50 = some (.getfield 31, 3, 1, 0, [3, 7]) := rfl
theorem rw_24_53 : mm_code 24 53 = some (.iload_n 3, 1, 0, 0, []) := rfl
theorem rw_24_54 : mm_code 24 54 = some (.laload, 1, 0, 0, []) := rfl
theorem rw_24_55 : mm_code 24 55 = some (.lastore, 1, 0, 0, []) := rfl
theorem rw_24_56 : mm_code 24 56 = some (.iinc 3 1, 3, 1, 0, []) := rfl
theorem rw_24_59 : mm_code 24 59 = some (.goto (-57), 3, 2, 0, []) := rfl
theorem rw_24_62 : mm_code 24 62 = some (.return_, 1, 0, 0, []) := rfl
theorem rw_25_0 : mm_code 25 0 = some (.lconst 0, 1, 0, 0, []) := rfl
theorem rw_25_1 : mm_code 25 1 = some (.lstore_n 3, 1, 0, 0, []) := rfl
theorem rw_25_2 : mm_code 25 2 = some (.iconst 0, 1, 0, 0, []) := rfl
theorem rw_25_3 : mm_code 25 3 = some (.istore 5, 2, 0, 0, []) := rfl
theorem rw_25_5 : mm_code 25 5 = some (.iload 5, 2, 0, 0, []) := rfl
theorem rw_25_7 : mm_code 25 7 = some (.iload_n 2, 1, 0, 0, []) := rfl
theorem rw_25_8 : mm_code 25 8 = some (.if_icmp .ge 20, 3, 28, 0, []) := rfl
theorem rw_25_11 : mm_code 25 11 = some (.lload_n 3, 1, 0, 0, []) := rfl
theorem rw_25_12 : mm_code 25 12 = some (.iconst 1, 1, 1, 0, []) := rfl
theorem rw_25_13 : mm_code 25 13 = some (.lshl, 1, 0, 0, []) := rfl
theorem rw_25_14 : mm_code 25 14 = some (.lload_n 0, 1, 0, 0, []) := rfl
theorem rw_25_15 : mm_code 25 15 = some (.iload 5, 2, 0, 0, []) := rfl
theorem rw_25_17 : mm_code 25 17 = some (.lshr, 1, 0, 0, []) := rfl
theorem rw_25_18 : mm_code 25 18 = some (.lconst 1, 1, 1, 0, []) := rfl
theorem rw_25_19 : mm_code 25 19 = some (.land, 1, 0, 0, []) := rfl
theorem rw_25_20 : mm_code 25 20 = some (.lor, 1, 0, 0, []) := rfl
theorem rw_25_21 : mm_code 25 21 = some (.lstore_n 3, 1, 0, 0, []) := rfl
theorem rw_25_22 : mm_code 25 22 = some (.iinc 5 1, 3, 1, 0, []) := rfl
theorem rw_25_25 : mm_code 25 25 = some (.goto (-20), 3, 5, 0, []) := rfl
theorem rw_25_28 : mm_code 25 28 = some (.lload_n 3, 1, 0, 0, []) := rfl
theorem rw_25_29 : mm_code 25 29 = some (.lreturn, 1, 0, 0, []) := rfl
theorem rw_26_0 : mm_code 26 0 = some (.aload_n 0, 1, 0, 0, []) := rfl
theorem rw_26_1 : mm_code 26 1 = some (.getfield 23, 3, 4, 3, [3, 5]) := rfl
theorem rw_26_4 : mm_code 26 4 = some (.iload_n 1, 1, 0, 0, []) := rfl
theorem rw_26_5 : mm_code 26 5 = some (.laload, 1, 0, 0, []) := rfl
theorem rw_26_6 : mm_code 26 6 = some (.lload_n 2, 1, 0, 0, []) := rfl
theorem rw_26_7 : mm_code 26 7 = some (.land, 1, 0, 0, []) := rfl
theorem rw_26_8 : mm_code 26 8 = some (.lload_n 2, 1, 0, 0, []) := rfl
theorem rw_26_9 : mm_code 26 9 = some (.lcmp, 1, 0, 0, []) := rfl
theorem rw_26_10 : mm_code 26 10 = some (.ifCond .ne 7, 3, 17, 0, []) := rfl
theorem rw_26_13 : mm_code 26 13 = some (.iconst 1, 1, 1, 0, []) := rfl
theorem rw_26_14 : mm_code 26 14 = some (.goto 4, 3, 18, 0, []) := rfl
theorem rw_26_17 : mm_code 26 17 = some (.iconst 0, 1, 0, 0, []) := rfl
theorem rw_26_18 : mm_code 26 18 = some (.ireturn, 1, 1, 0, []) := rfl
theorem rw_27_0 : mm_code 27 0 = some (.iconst 0, 1, 0, 0, []) := rfl
theorem rw_27_1 : mm_code 27 1 = some (.istore 4, 2, 0, 0, []) := rfl
theorem rw_27_3 : mm_code 27 3 = some (.iconst 0, 1, 0, 0, []) := rfl
theorem rw_27_4 : mm_code 27 4 = some (.istore 5, 2, 0, 0, []) := rfl
theorem rw_27_6 : mm_code 27 6 = some (.iload 5, 2, 0, 0, []) := rfl
theorem rw_27_8 : mm_code 27 8 = some (.aload_n 0, 1, 0, 0, []) := rfl
theorem rw_27_9 : mm_code 27 9 = some (.getfield 16, 3, 4, 1, [3, 3]) := rfl
theorem rw_27_12 : mm_code 27 12 = some (.iload_n 1, 1, 0, 0, []) := rfl
theorem rw_27_13 : mm_code 27 13 = some (.iaload, 1, 0, 0, []) := rfl
theorem rw_27_14 : mm_code 27 14 = some (.if_icmp .ge 39, 3, 53, 0, []) := rfl
theorem rw_27_17 : mm_code 27 17 = some (.aload_n 0, 1, 0, 0, []) := rfl
theorem rw_27_18 : mm_code 27 18 = some (.getfield 11, 3, 4, 0, [3, 2]) := rfl
theorem rw_27_21 : mm_code 27 21 = some (.iload_n 1, 1, 0, 0, []) := rfl
theorem rw_27_22 : mm_code 27 22 = some (.aaload, 1, 0, 0, []) := rfl
theorem rw_27_23 : mm_code 27 23 = some (.iload 5, 2, 0, 0, []) := rfl
theorem rw_27_25 : mm_code 27 25 = some (.iaload, 1, 0, 0, []) := rfl
theorem rw_27_26 : mm_code 27 26 = some (.istore 6, 2, 0, 0, []) := rfl
theorem rw_27_28 : mm_code 27 28 = some (.aload_n 0, 1, 0, 0, []) := rfl
theorem rw_27_29 : mm_code 27 29 = some (.iload 6, 2, 0, 0, []) := rfl
theorem rw_27_31 : mm_code 27 31 = some (.lload_n 2, 1, 0, 0, []) := rfl
theorem rw_27_32 : mm_code 27 32 = some (.invokevirtual 40, 3, 26, 3, [9, 0]) := rfl
theorem rw_27_35 : mm_code 27 35 = some (.ifCond .eq 12, 3, 47, 0, []) := rfl
theorem rw_27_38 : mm_code 27 38 = some (.iload 4, 2, 0, 0, []) := rfl
theorem rw_27_40 : mm_code 27 40 = some (.iconst 1, 1, 1, 0, []) := rfl
theorem rw_27_41 : mm_code 27 41 = some (.iload 6, 2, 0, 0, []) := rfl
theorem rw_27_43 : mm_code 27 43 = some (.ishl, 1, 0, 0, []) := rfl
theorem rw_27_44 : mm_code 27 44 = some (.ior, 1, 0, 0, []) := rfl
theorem rw_27_45 : mm_code 27 45 = some (.istore 4, 2, 0, 0, []) := rfl
theorem rw_27_47 : mm_code 27 47 = some (.iinc 5 1, 3, 1, 0, []) := rfl
theorem rw_27_50 : mm_code 27 50 = some (.goto (-44), 3, 6, 0, []) := rfl
theorem rw_27_53 : mm_code 27 53 = some (.iload 4, 2, 0, 0, []) := rfl
theorem rw_27_55 : mm_code 27 55 = some (.ireturn, 1, 0, 0, []) := rfl
theorem rw_28_0 : mm_code 28 0 = some (.aload_n 0, 1, 0, 0, []) := rfl
theorem rw_28_1 : mm_code 28 1 = some (.getfield 16, 3, 4, 1, [3, 3]) := rfl
theorem rw_28_4 : mm_code 28 4 = some (.iload_n 1, 1, 0, 0, []) := rfl
theorem rw_28_5 : mm_code 28 5 = some (.iaload, 1, 0, 0, []) := rfl
theorem rw_28_6 : mm_code 28 6 = some (.istore 6, 2, 0, 0, []) := rfl
theorem rw_28_8 : mm_code 28 8 = some (.iconst 0, 1, 0, 0, []) := rfl
theorem rw_28_9 : mm_code 28 9 = some (.istore 7, 2, 0, 0, []) := rfl
theorem rw_28_11 : mm_code 28 11 = some (.iload 7, 2, 0, 0, []) := rfl
theorem rw_28_13 : mm_code 28 13 = some (.iload 6, 2, 0, 0, []) := rfl
theorem rw_28_15 : mm_code 28 15 = some (.if_icmp .ge 25, 3, 40, 0, []) := rfl
theorem rw_28_18 : mm_code 28 18 = some (.aload_n 0, 1, 0, 0, []) := rfl
theorem rw_28_19 : mm_code 28 19 = some (.getfield 20, 3, 4, 2, [3, 4]) := rfl
theorem rw_28_22 : mm_code 28 22 = some (.iload 7, 2, 0, 0, []) := rfl
theorem rw_28_24 : mm_code 28 24 = some (.aload_n 0, 1, 0, 0, []) := rfl
theorem rw_28_25 : mm_code 28 25 = some (.getfield 11, 3, 4, 0, [3, 2]) := rfl
theorem rw_28_28 : mm_code 28 28 = some (.iload_n 1, 1, 0, 0, []) := rfl
theorem rw_28_29 : mm_code 28 29 = some (.aaload, 1, 0, 0, []) := rfl
theorem rw_28_30 : mm_code 28 30 = some (.iload 7, 2, 0, 0, []) := rfl
theorem rw_28_32 : mm_code 28 32 = some (.iaload, 1, 0, 0, []) := rfl
theorem rw_28_33 : mm_code 28 33 = some (.iastore, 1, 0, 0, []) := rfl
theorem rw_28_34 : mm_code 28 34 = some (.iinc 7 1, 3, 1, 0, []) := rfl
theorem rw_28_37 : mm_code 28 37 = some (.goto (-26), 3, 11, 0, []) := rfl
theorem rw_28_40 : mm_code 28 40 = some (.aload_n 0, 1, 0, 0, []) := rfl
theorem rw_28_41 : mm_code 28 41 = some (.getfield 16, 3, 4, 1, [3, 3]) := rfl
theorem rw_28_44 : mm_code 28 44 = some (.iload_n 1, 1, 0, 0, []) := rfl
theorem rw_28_45 : mm_code 28 45 = some (.iconst 0, 1, 0, 0, []) := rfl
theorem rw_28_46 : mm_code 28 46 = some (.iastore, 1, 0, 0, []) := rfl
theorem rw_28_47 : mm_code 28 47 = some (.iconst 0, 1, 0, 0, []) := rfl
theorem rw_28_48 : mm_code 28 48 = some (.istore 7, 2, 0, 0, []) := rfl
theorem rw_28_50 : mm_code 28 50 = some (.iload 7, 2, 0, 0, []) := rfl
theorem rw_28_52 : mm_code 28 52 = some (.iload 6, 2, 0, 0, []) := rfl
theorem rw_28_54 : mm_code 28 54 = some (.if_icmp .ge 41, 3, 95, 0, []) := rfl
theorem rw_28_57 : mm_code 28 57 = some (.aload_n 0, 1, 0, 0, []) := rfl
theorem rw_28_58 : mm_code 28 58 = some (.aload_n 0, 1, 0, 0, []) := rfl
theorem rw_28_59 : mm_code 28 59 = some (.aload_n 0, 1, 0, 0, []) := rfl
theorem rw_28_60 : mm_code 28 60 = some (.getfield 20, 3, 4, 2, [3, 4]) := rfl
theorem rw_28_63 : mm_code 28 63 = some (.iload 7, 2, 0, 0, []) := rfl
theorem rw_28_65 : mm_code 28 65 = some (.iaload, 1, 0, 0, []) := rfl
theorem rw_28_66 : mm_code 28 66 = some (.lload 4, 2, 0, 0, []) := rfl
theorem rw_28_68 : mm_code 28 68 = some (.invokevirtual 40, 3, 26, 3, [9, 0]) := rfl
theorem rw_28_71 : mm_code 28 71 = some (.ifCond .eq 7, 3, 78, 0, []) := rfl
theorem rw_28_74 : mm_code 28 74 = some (.iload_n 2, 1, 0, 0, []) := rfl
theorem rw_28_75 : mm_code 28 75 = some (.goto 4, 3, 79, 0, []) := rfl
theorem rw_28_78 : mm_code 28 78 = some (.iload_n 3, 1, 0, 0, []) := rfl
theorem rw_28_79 : mm_code 28 79 = some (.aload_n 0, 1, 0, 0, []) := rfl
theorem rw_28_80 : mm_code 28 80 = some (.getfield 20, 3, 4, 2, [3, 4]) := rfl
theorem rw_28_83 : mm_code 28 83 = some (.iload 7, 2, 0, 0, []) := rfl
theorem rw_28_85 : mm_code 28 85 = some (.iaload, 1, 0, 0, []) := rfl
theorem rw_28_86 : mm_code 28 86 = some (.invokevirtual 44, 3, 23, 3, [10, 0]) := rfl
theorem rw_28_89 : mm_code 28 89 = some (.iinc 7 1, 3, 1, 0, []) := rfl
theorem rw_28_92 : mm_code 28 92 = some (.goto (-42), 3, 50, 0, []) := rfl
theorem rw_28_95 : mm_code 28 95 = some (.return_, 1, 0, 0, []) := rfl
theorem rw_30_0 : mm_code 30 0 = some (.aload_n 0, 1, 0, 0, []) := rfl
theorem rw_30_1 : mm_code 30 1 = some (.bipush 10, 2, 10, 0, []) := rfl
theorem rw_30_3 : mm_code 30 3 = some (.putfield 9, 3, 5, 0, [0, 1]) := rfl
theorem rw_30_6 : mm_code 30 6 = some (.aload_n 0, 1, 0, 0, []) := rfl
theorem rw_30_7 : mm_code 30 7 = some (.iconst 0, 1, 0, 0, []) := rfl
theorem rw_30_8 : mm_code 30 8 = some (.putfield 41, 3, 5, 1, [0, 10]) := rfl
theorem rw_30_11 : mm_code 30 11 = some (.aload_n 0, 1, 0, 0, []) := rfl
theorem rw_30_12 : mm_code 30 12 = some (.iconst 0, 1, 0, 0, []) := rfl
theorem rw_30_13 : mm_code 30 13 = some (.putfield 44, 3, 5, 2, [0, 11]) := rfl
theorem rw_30_16 : mm_code 30 16 = some (.aload_n 0, 1, 0, 0, []) := rfl
theorem rw_30_17 : mm_code 30 17 = some (.iconst 0, 1, 0, 0, []) := rfl
theorem rw_30_18 : mm_code 30 18 = some (.putfield 47, 3, 5, 3, [0, 12]) := rfl
theorem rw_30_21 : mm_code 30 21 = some (.aload_n 0, 1, 0, 0, []) := rfl
theorem rw_30_22 : mm_code 30 22 = some (.lconst 0, 1, 0, 0, []) := rfl
theorem rw_30_23 : mm_code 30 23 = some (.putfield 50, 3, 5, 4, [2, 13]) := rfl
theorem rw_30_26 : mm_code 30 26 = some (.iconst 0, 1, 0, 0, []) := rfl
theorem rw_30_27 : mm_code 30 27 = some (.istore_n 2, 1, 0, 0, []) := rfl
theorem rw_30_28 : mm_code 30 28 = some (.iload_n 2, 1, 0, 0, []) := rfl
theorem rw_30_29 : mm_code 30 29 = some (.bipush 21, 2, 21, 0, []) := rfl
theorem rw_30_31 : mm_code 30 31 = some (.if_icmp .gt 45, 3, 76, 0, []) := rfl
theorem rw_30_34 : mm_code 30 34 = some (.aload_n 1, 1, 0, 0, []) := rfl
theorem rw_30_35 : mm_code 30 35 = some (.getfield 54, 3, 8, 7, [0, 14]) := rfl
theorem rw_30_38 : mm_code 30 38 = some (.ifCond .eq 38, 3, 76, 0, []) := rfl
theorem rw_30_41 : mm_code 30 41 = some (.aload_n 0, 1, 0, 0, []) := rfl
theorem rw_30_42 : mm_code 30 42 = some (.aload_n 1, 1, 0, 0, []) := rfl
theorem rw_30_43 : mm_code 30 43 = some (.invokevirtual 59, 3, 31, 2, [15, 0]) := rfl
theorem rw_30_46 : mm_code 30 46 = some (.ifCond .eq 12, 3, 58, 0, []) := rfl
theorem rw_30_49 : mm_code 30 49 = some (.aload_n 1, 1, 0, 0, []) := rfl
theorem rw_30_50 : mm_code 30 50 = some (.bipush 59, 2, 59, 0, []) := rfl
theorem rw_30_52 : mm_code 30 52 = some (.invokevirtual 63, 3, 90, 2, [16, 0]) := rfl
theorem rw_30_55 : mm_code 30 55 = some (.ifCond .ne 5, 3, 60, 0, []) := rfl
theorem rw_30_58 : mm_code 30 58 = some (.iconst 0, 1, 0, 0, []) := rfl
theorem rw_30_59 : mm_code 30 59 = some (.ireturn, 1, 1, 0, []) := rfl
theorem rw_30_60 : mm_code 30 60 = some (.aload_n 0, 1, 0, 0, []) := rfl
theorem rw_30_61 : mm_code 30 61 = some (.dup, 1, 0, 0, []) := rfl
theorem rw_30_62 : mm_code 30 62 = some (.getfield 41, 3, 5, 1, [0, 10]) := rfl
theorem rw_30_65 : mm_code 30 65 = some (.iconst 1, 1, 1, 0, []) := rfl
theorem rw_30_66 : mm_code 30 66 = some (.iadd, 1, 0, 0, []) := rfl
theorem rw_30_67 : mm_code 30 67 = some (.putfield 41, 3, 5, 1, [0, 10]) := rfl
theorem rw_30_70 : mm_code 30 70 = some (.iinc 2 1, 3, 1, 0, []) := rfl
theorem rw_30_73 : mm_code 30 73 = some (.goto (-45), 3, 28, 0, []) := rfl
theorem rw_30_76 : mm_code 30 76 = some (.iconst 1, 1, 1, 0, []) := rfl
theorem rw_30_77 : mm_code 30 77 = some (.ireturn, 1, 1, 0, []) := rfl
theorem rw_31_0 : mm_code 31 0 = some (.aload_n 1, 1, 0, 0, []) := rfl
theorem rw_31_1 : mm_code 31 1 = some (.ldc 67, 2, 284563040, 0, [17]) := rfl
theorem rw_31_3 : mm_code 31 3 = some (.invokevirtual 68, 3, 86, 2, [18, 0]) := rfl
theorem rw_31_6 : mm_code 31 6 = some (.ifCond .eq 9, 3, 15, 0, []) := rfl
theorem rw_31_9 : mm_code 31 9 = some (.aload_n 0, 1, 0, 0, []) := rfl
theorem rw_31_10 : mm_code 31 10 = some (.aload_n 1, 1, 0, 0, []) := rfl
theorem rw_31_11 : mm_code 31 11 = some (.invokevirtual 72, 3, 32, 2, [19, 0]) := rfl
theorem rw_31_14 : mm_code 31 14 = some (.ireturn, 1, 1, 0, []) := rfl
theorem rw_31_15 : mm_code 31 15 = some (.aload_n 0, 1, 0, 0, []) := rfl
theorem rw_31_16 : mm_code 31 16 = some (.getfield 41, 3, 5, 1, [0, 10]) := rfl
theorem rw_31_19 : mm_code 31 19 = some (.ifCond .le 18, 3, 37, 0, []) := rfl
theorem rw_31_22 : mm_code 31 22 = some (.aload_n 1, 1, 0, 0, []) := rfl
theorem rw_31_23 : mm_code 31 23 = some (.ldc 75, 2, 210940032, 0, [20]) := rfl
theorem rw_31_25 : mm_code 31 25 = some (.invokevirtual 68, 3, 86, 2, [18, 0]) := rfl
theorem rw_31_28 : mm_code 31 28 = some (.ifCond .eq 9, 3, 37, 0, []) := rfl
theorem rw_31_31 : mm_code 31 31 = some (.aload_n 0, 1, 0, 0, []) := rfl
theorem rw_31_32 : mm_code 31 32 = some (.aload_n 1, 1, 0, 0, []) := rfl
theorem rw_31_33 : mm_code 31 33 = some (.invokevirtual 76, 3, 33, 2, [21, 0]) := rfl
theorem rw_31_36 : mm_code 31 36 = some (.ireturn, 1, 1, 0, []) := rfl
theorem rw_31_37 : mm_code 31 37 = some (.aload_n 0, 1, 0, 0, []) := rfl
theorem rw_31_38 : mm_code 31 38 = some (.getfield 41, 3, 5, 1, [0, 10]) := rfl
theorem rw_31_41 : mm_code 31 41 = some (.ifCond .le 18, 3, 59, 0, []) := rfl
theorem rw_31_44 : mm_code 31 44 = some (.aload_n 1, 1, 0, 0, []) := rfl
theorem rw_31_45 : mm_code 31 45 = some (.ldc 79, 2, 788074496, 0, [22]) := rfl
theorem rw_31_47 : mm_code 31 47 = some (.invokevirtual 68, 3, 86, 2, [18, 0]) := rfl
theorem rw_31_50 : mm_code 31 50 = some (.ifCond .eq 9, 3, 59, 0, []) := rfl
theorem rw_31_53 : mm_code 31 53 = some (.aload_n 0, 1, 0, 0, []) := rfl
theorem rw_31_54 : mm_code 31 54 = some (.aload_n 1, 1, 0, 0, []) := rfl
theorem rw_31_55 : mm_code 31 55 = some (.invokevirtual 80, 3, 41, 2, [23, 0]) := rfl
theorem rw_31_58 : mm_code 31 58 = some (.ireturn, 1, 1, 0, []) := rfl
theorem rw_31_59 : mm_code 31 59 = some (.aload_n 1, 1, 0, 0, []) := rfl
theorem rw_31_60 : mm_code 31 60 = some (.iconst 1, 1, 1, 0, []) := rfl
theorem rw_31_61 : mm_code 31 61 = some (.invokevirtual 83, 3, 84, 2, [24, 0]) := rfl
theorem rw_31_64 : mm_code 31 64 = some (.ireturn, 1, 1, 0, []) := rfl
theorem rw_32_0 : mm_code 32 0 = some (.aload_n 0, 1, 0, 0, []) := rfl
theorem rw_32_1 : mm_code 32 1 = some (.getfield 41, 3, 5, 1, [0, 10]) := rfl
theorem rw_32_4 : mm_code 32 4 = some (.ifCond .le 9, 3, 13, 0, []) := rfl
theorem rw_32_7 : mm_code 32 7 = some (.aload_n 1, 1, 0, 0, []) := rfl
theorem rw_32_8 : mm_code 32 8 = some (.iconst 3, 1, 3, 0, []) := rfl
theorem rw_32_9 : mm_code 32 9 = some (.invokevirtual 83, 3, 84, 2, [24, 0]) := rfl
theorem rw_32_12 : mm_code 32 12 = some (.ireturn, 1, 1, 0, []) := rfl
theorem rw_32_13 : mm_code 32 13 = some (.aload_n 1, 1, 0, 0, []) := rfl
theorem rw_32_14 : mm_code 32 14 = some (.invokevirtual 86, 3, 83, 1, [25, 0]) := rfl
theorem rw_32_17 : mm_code 32 17 = some (.aload_n 1, 1, 0, 0, []) := rfl
theorem rw_32_18 : mm_code 32 18 = some (.bipush 10, 2, 10, 0, []) := rfl
theorem rw_32_20 : mm_code 32 20 = some (.bipush 60, 2, 60, 0, []) := rfl
theorem rw_32_22 : mm_code 32 22 = some (.invokevirtual 89, 3, 88, 3, [26, 0]) := rfl
theorem rw_32_25 : mm_code 32 25 = some (.ifCond .ne 5, 3, 30, 0, []) := rfl
theorem rw_32_28 : mm_code 32 28 = some (.iconst 0, 1, 0, 0, []) := rfl
theorem rw_32_29 : mm_code 32 29 = some (.ireturn, 1, 1, 0, []) := rfl
theorem rw_32_30 : mm_code 32 30 = some (.aload_n 0, 1, 0, 0, []) := rfl
theorem rw_32_31 : mm_code 32 31 = some (.aload_n 1, 1, 0, 0, []) := rfl
theorem rw_32_32 : mm_code 32 32 = some (.getfield 93, 3, 8, 8, [0, 27]) := rfl
theorem rw_32_35 : mm_code 32 35 = some (.putfield 9, 3, 5, 0, [0, 1]) := rfl
theorem rw_32_38 : mm_code 32 38 = some (.aload_n 1, 1, 0, 0, []) := rfl
theorem rw_32_39 : mm_code 32 39 = some (.invokevirtual 86, 3, 83, 1, [25, 0]) := rfl
theorem rw_32_42 : mm_code 32 42 = some (.iconst 1, 1, 1, 0, []) := rfl
theorem rw_32_43 : mm_code 32 43 = some (.ireturn, 1, 1, 0, []) := rfl
theorem rw_33_0 : mm_code 33 0 = some (.aload_n 0, 1, 0, 0, []) := rfl
theorem rw_33_1 : mm_code 33 1 = some (.getfield 44, 3, 5, 2, [0, 11]) := rfl
theorem rw_33_4 : mm_code 33 4 = some (.bipush 8, 2, 8, 0, []) := rfl
theorem rw_33_6 : mm_code 33 6 = some (.if_icmp .lt 9, 3, 15, 0, []) := rfl
theorem rw_33_9 : mm_code 33 9 = some (.aload_n 1, 1, 0, 0, []) := rfl
theorem rw_33_10 : mm_code 33 10 = some (.iconst 2, 1, 2, 0, []) := rfl
theorem rw_33_11 : mm_code 33 11 = some (.invokevirtual 83, 3, 84, 2, [24, 0]) := rfl
theorem rw_33_14 : mm_code 33 14 = some (.ireturn, 1, 1, 0, []) := rfl
theorem rw_33_15 : mm_code 33 15 = some (.aload_n 1, 1, 0, 0, []) := rfl
theorem rw_33_16 : mm_code 33 16 = some (.invokevirtual 86, 3, 83, 1, [25, 0]) := rfl
theorem rw_33_19 : mm_code 33 19 = some (.aload_n 0, 1, 0, 0, []) := rfl
theorem rw_33_20 : mm_code 33 20 = some (.aload_n 1, 1, 0, 0, []) := rfl
theorem rw_33_21 : mm_code 33 21 = some (.invokevirtual 96, 3, 34, 2, [28, 0]) := rfl
theorem rw_33_24 : mm_code 33 24 = some (.ifCond .ne 5, 3, 29, 0, []) := rfl
theorem rw_33_27 : mm_code 33 27 = some (.iconst 0, 1, 0, 0, []) := rfl
theorem rw_33_28 : mm_code 33 28 = some (.ireturn, 1, 1, 0, []) := rfl
theorem rw_33_29 : mm_code 33 29 = some (.aload_n 0, 1, 0, 0, []) := rfl
theorem rw_33_30 : mm_code 33 30 = some (.getfield 15, 3, 5, 5, [3, 2]) := rfl
theorem rw_33_33 : mm_code 33 33 = some (.aload_n 0, 1, 0, 0, []) := rfl
theorem rw_33_34 : mm_code 33 34 = some (.getfield 44, 3, 5, 2, [0, 11]) := rfl
theorem rw_33_37 : mm_code 33 37 = some (.aload_n 1, 1, 0, 0, []) := rfl
theorem rw_33_38 : mm_code 33 38 = some (.getfield 93, 3, 8, 8, [0, 27]) := rfl
theorem rw_33_41 : mm_code 33 41 = some (.iastore, 1, 0, 0, []) := rfl
theorem rw_33_42 : mm_code 33 42 = some (.aload_n 1, 1, 0, 0, []) := rfl
theorem rw_33_43 : mm_code 33 43 = some (.invokevirtual 86, 3, 83, 1, [25, 0]) := rfl
theorem rw_33_46 : mm_code 33 46 = some (.aload_n 1, 1, 0, 0, []) := rfl
theorem rw_33_47 : mm_code 33 47 = some (.invokestatic 99, 3, 35, 1, [29, 0]) := rfl
theorem rw_33_50 : mm_code 33 50 = some (.istore_n 2, 1, 0, 0, []) := rfl
theorem rw_33_51 : mm_code 33 51 = some (.iload_n 2, 1, 0, 0, []) := rfl
theorem rw_33_52 : mm_code 33 52 = some (.iconst (-1), 1, 1, 1, []) := rfl
theorem rw_33_53 : mm_code 33 53 = some (.if_icmp .ne 9, 3, 62, 0, []) := rfl
theorem rw_33_56 : mm_code 33 56 = some (.aload_n 1, 1, 0, 0, []) := rfl
theorem rw_33_57 : mm_code 33 57 = some (.iconst 1, 1, 1, 0, []) := rfl
theorem rw_33_58 : mm_code 33 58 = some (.invokevirtual 83, 3, 84, 2, [24, 0]) := rfl
theorem rw_33_61 : mm_code 33 61 = some (.ireturn, 1, 1, 0, []) := rfl
theorem rw_33_62 : mm_code 33 62 = some (.aload_n 0, 1, 0, 0, []) := rfl
theorem rw_33_63 : mm_code 33 63 = some (.getfield 19, 3, 5, 6, [3, 3]) := rfl
theorem rw_33_66 : mm_code 33 66 = some (.aload_n 0, 1, 0, 0, []) := rfl
theorem rw_33_67 : mm_code 33 67 = some (.getfield 44, 3, 5, 2, [0, 11]) := rfl
theorem rw_33_70 : mm_code 33 70 = some (.iload_n 2, 1, 0, 0, []) := rfl
theorem rw_33_71 : mm_code 33 71 = some (.iastore, 1, 0, 0, []) := rfl
theorem rw_33_72 : mm_code 33 72 = some (.aload_n 1, 1, 0, 0, []) := rfl
theorem rw_33_73 : mm_code 33 73 = some (.invokevirtual 86, 3, 83, 1, [25, 0]) := rfl
theorem rw_33_76 : mm_code 33 76 = some (.iload_n 2, 1, 0, 0, []) := rfl
theorem rw_33_77 : mm_code 33 77 = some (.iconst 1, 1, 1, 0, []) := rfl
theorem rw_33_78 : mm_code 33 78 = some (.if_icmp .eq 8, 3, 86, 0, []) := rfl
theorem rw_33_81 : mm_code 33 81 = some (.iload_n 2, 1, 0, 0, []) := rfl
theorem rw_33_82 : mm_code 33 82 = some (.iconst 2, 1, 2, 0, []) := rfl
theorem rw_33_83 : mm_code 33 83 = some (.if_icmp .ne 22, 3, 105, 0, []) := rfl
theorem rw_33_86 : mm_code 33 86 = some (.aload_n 0, 1, 0, 0, []) := rfl
theorem rw_33_87 : mm_code 33 87 = some (.aload_n 1, 1, 0, 0, []) := rfl
theorem rw_33_88 : mm_code 33 88 = some (.iload_n 2, 1, 0, 0, []) := rfl
theorem rw_33_89 : mm_code 33 89 = some (.iconst 1, 1, 1, 0, []) := rfl
theorem rw_33_90 : mm_code 33 90 = some (.if_icmp .ne 7, 3, 97, 0, []) := rfl
theorem rw_33_93 : mm_code 33 93 = some (.iconst 4, 1, 4, 0, []) := rfl
theorem rw_33_94 : mm_code 33 94 = some (.goto 4, 3, 98, 0, []) := rfl
theorem rw_33_97 : mm_code 33 97 = some (.iconst 5, 1, 5, 0, []) := rfl
theorem rw_33_98 : mm_code 33 98 = some (.invokevirtual 103, 3, 37, 3, [30, 0]) := rfl
theorem rw_33_101 : mm_code 33 101 = some (.istore_n 3, 1, 0, 0, []) := rfl
theorem rw_33_102 : mm_code 33 102 = some (.goto 38, 3, 140, 0, []) := rfl
theorem rw_33_105 : mm_code 33 105 = some (.aload_n 0, 1, 0, 0, []) := rfl
theorem rw_33_106 : mm_code 33 106 = some (.aload_n 1, 1, 0, 0, []) := rfl
theorem rw_33_107 : mm_code 33 107 = some (.iload_n 2, 1, 0, 0, []) := rfl
theorem rw_33_108 : mm_code 33 108 = some (.ifCond .ne 7, 3, 115, 0, []) := rfl
theorem rw_33_111 : mm_code 33 111 = some (.iconst 2, 1, 2, 0, []) := rfl
theorem rw_33_112 : mm_code 33 112 = some (.goto 4, 3, 116, 0, []) := rfl
theorem rw_33_115 : mm_code 33 115 = some (.iconst 1, 1, 1, 0, []) := rfl
theorem rw_33_116 : mm_code 33 116 = some (.invokevirtual 107, 3, 36, 3, [31, 0]) := rfl
theorem rw_33_119 : mm_code 33 119 = some (.ifCond .eq 19, 3, 138, 0, []) := rfl
theorem rw_33_122 : mm_code 33 122 = some (.iload_n 2, 1, 0, 0, []) := rfl
theorem rw_33_123 : mm_code 33 123 = some (.ifCond .eq 11, 3, 134, 0, []) := rfl
theorem rw_33_126 : mm_code 33 126 = some (.aload_n 0, 1, 0, 0, []) := rfl
theorem rw_33_127 : mm_code 33 127 = some (.aload_n 1, 1, 0, 0, []) := rfl
theorem rw_33_128 : mm_code 33 128 = some (.invokevirtual 110, 3, 38, 2, [32, 0]) := rfl
theorem rw_33_131 : mm_code 33 131 = some (.ifCond .eq 7, 3, 138, 0, []) := rfl
theorem rw_33_134 : mm_code 33 134 = some (.iconst 1, 1, 1, 0, []) := rfl
theorem rw_33_135 : mm_code 33 135 = some (.goto 4, 3, 139, 0, []) := rfl
theorem rw_33_138 : mm_code 33 138 = some (.iconst 0, 1, 0, 0, []) := rfl
theorem rw_33_139 : mm_code 33 139 = some (.istore_n 3, 1, 0, 0, []) := rfl
theorem rw_33_140 : mm_code 33 140 = some (.iload_n 3, 1, 0, 0, []) := rfl
theorem rw_33_141 : mm_code 33 141 = some (.ifCond .ne 5, 3, 146, 0, []) := rfl
theorem rw_33_144 : mm_code 33 144 = some (.iconst 0, 1, 0, 0, []) := rfl
theorem rw_33_145 : mm_code 33 145 = some (.ireturn, 1, 1, 0, []) := rfl
theorem rw_33_146 : mm_code 33 146 = some (.aload_n 0, 1, 0, 0, []) := rfl
theorem rw_33_147 : mm_code 33 147 = some (.dup, 1, 0, 0, []) := rfl
theorem rw_33_148 : mm_code 33 148 = some (.getfield 50, 3, 5, 4, [2, 13]) := rfl
theorem rw_33_151 : mm_code 33 151 = some (.aload_n 0, 1, 0, 0, []) := rfl
theorem rw_33_152 : mm_code 33 152 = some (.getfield 22, 3, 5, 7, [3, 4]) := rfl
theorem rw_33_155 : mm_code 33 155 = some (.aload_n 0, 1, 0, 0, []) := rfl
theorem rw_33_156 : mm_code 33 156 = some (.getfield 44, 3, 5, 2, [0, 11]) := rfl
theorem rw_33_159 : mm_code 33 159 = some (.iaload, 1, 0, 0, []) := rfl
theorem rw_33_160 : mm_code 33 160 = some (.aload_n 0, 1, 0, 0, []) := rfl
theorem rw_33_161 : mm_code 33 161 = some (.getfield 25, 3, 5, 8, [3, 5]) := rfl
theorem rw_33_164 : mm_code 33 164 = some (.aload_n 0, 1, 0, 0, []) := rfl
theorem rw_33_165 : mm_code 33 165 = some (.getfield 44, 3, 5, 2, [0, 11]) := rfl
theorem rw_33_168 : mm_code 33 168 = some (.iaload, 1, 0, 0, []) := rfl
theorem rw_33_169 : mm_code 33 169 = some (.invokestatic 113, 3, 144, 2, [0, 1]) := rfl
theorem rw_33_172 : mm_code 33 172 = some (.lor, 1, 0, 0, []) := rfl
theorem rw_33_173 : mm_code 33 173 = some (.putfield 50, 3, 5, 4, [2, 13]) := rfl
theorem rw_33_176 : mm_code 33 176 = some (.aload_n 0, 1, 0, 0, []) := rfl
theorem rw_33_177 : mm_code 33 177 = some (.dup, 1, 0, 0, []) := rfl
theorem rw_33_178 : mm_code 33 178 = some (.getfield 44, 3, 5, 2, [0, 11]) := rfl
theorem rw_33_181 : mm_code 33 181 = some (.iconst 1, 1, 1, 0, []) := rfl
theorem rw_33_182 : mm_code 33 182 = some (.iadd, 1, 0, 0, []) := rfl
theorem rw_33_183 : mm_code 33 183 = some (.putfield 44, 3, 5, 2, [0, 11]) := rfl
theorem rw_33_186 : mm_code 33 186 = some (.iconst 1, 1, 1, 0, []) := rfl
theorem rw_33_187 : mm_code 33 187 = some (.ireturn, 1, 1, 0, []) := rfl
theorem rw_34_0 : mm_code 34 0 = some (.aload_n 1, 1, 0, 0, []) := rfl
theorem rw_34_1 : mm_code 34 1 = some (.getfield 54, 3, 8, 7, [0, 14]) := rfl
theorem rw_34_4 : mm_code 34 4 = some (.iconst 3, 1, 3, 0, []) := rfl
theorem rw_34_5 : mm_code 34 5 = some (.if_icmp .eq 9, 3, 14, 0, []) := rfl
theorem rw_34_8 : mm_code 34 8 = some (.aload_n 1, 1, 0, 0, []) := rfl
theorem rw_34_9 : mm_code 34 9 = some (.iconst 1, 1, 1, 0, []) := rfl
theorem rw_34_10 : mm_code 34 10 = some (.invokevirtual 83, 3, 84, 2, [24, 0]) := rfl
theorem rw_34_13 : mm_code 34 13 = some (.ireturn, 1, 1, 0, []) := rfl
theorem rw_34_14 : mm_code 34 14 = some (.aload_n 0, 1, 0, 0, []) := rfl
theorem rw_34_15 : mm_code 34 15 = some (.aload_n 1, 1, 0, 0, []) := rfl
theorem rw_34_16 : mm_code 34 16 = some (.getfield 93, 3, 8, 8, [0, 27]) := rfl
theorem rw_34_19 : mm_code 34 19 = some (.invokevirtual 117, 3, 52, 2, [33, 0]) := rfl
theorem rw_34_22 : mm_code 34 22 = some (.iconst (-1), 1, 1, 1, []) := rfl
theorem rw_34_23 : mm_code 34 23 = some (.if_icmp .ne 15, 3, 38, 0, []) := rfl
theorem rw_34_26 : mm_code 34 26 = some (.aload_n 0, 1, 0, 0, []) := rfl
theorem rw_34_27 : mm_code 34 27 = some (.aload_n 1, 1, 0, 0, []) := rfl
theorem rw_34_28 : mm_code 34 28 = some (.getfield 93, 3, 8, 8, [0, 27]) := rfl
theorem rw_34_31 : mm_code 34 31 = some (.invokevirtual 121, 3, 53, 2, [34, 0]) := rfl
theorem rw_34_34 : mm_code 34 34 = some (.iconst (-1), 1, 1, 1, []) := rfl
theorem rw_34_35 : mm_code 34 35 = some (.if_icmp .eq 9, 3, 44, 0, []) := rfl
theorem rw_34_38 : mm_code 34 38 = some (.aload_n 1, 1, 0, 0, []) := rfl
theorem rw_34_39 : mm_code 34 39 = some (.iconst 3, 1, 3, 0, []) := rfl
theorem rw_34_40 : mm_code 34 40 = some (.invokevirtual 83, 3, 84, 2, [24, 0]) := rfl
theorem rw_34_43 : mm_code 34 43 = some (.ireturn, 1, 1, 0, []) := rfl
theorem rw_34_44 : mm_code 34 44 = some (.iconst 1, 1, 1, 0, []) := rfl
theorem rw_34_45 : mm_code 34 45 = some (.ireturn, 1, 1, 0, []) := rfl
theorem rw_35_0 : mm_code 35 0 = some (.aload_n 0, 1, 0, 0, []) := rfl
theorem rw_35_1 : mm_code 35 1 = some (.ldc 124, 2, 518160384, 0, [35]) := rfl
theorem rw_35_3 : mm_code 35 3 = some (.invokevirtual 68, 3, 86, 2, [18, 0]) := rfl
theorem rw_35_6 : mm_code 35 6 = some (.ifCond .eq 5, 3, 11, 0, []) := rfl
theorem rw_35_9 : mm_code 35 9 = some (.iconst 0, 1, 0, 0, []) := rfl
theorem rw_35_10 : mm_code 35 10 = some (.ireturn, 1, 0, 0, []) := rfl
theorem rw_35_11 : mm_code 35 11 = some (.aload_n 0, 1, 0, 0, []) := rfl
theorem rw_35_12 : mm_code 35 12 = some (.ldc 125, 2, 659999744, 0, [36]) := rfl
theorem rw_35_14 : mm_code 35 14 = some (.invokevirtual 68, 3, 86, 2, [18, 0]) := rfl
theorem rw_35_17 : mm_code 35 17 = some (.ifCond .eq 5, 3, 22, 0, []) := rfl
theorem rw_35_20 : mm_code 35 20 = some (.iconst 1, 1, 1, 0, []) := rfl
theorem rw_35_21 : mm_code 35 21 = some (.ireturn, 1, 0, 0, []) := rfl
theorem rw_35_22 : mm_code 35 22 = some (.aload_n 0, 1, 0, 0, []) := rfl
theorem rw_35_23 : mm_code 35 23 = some (.ldc 126, 2, 538233440, 0, [37]) := rfl
theorem rw_35_25 : mm_code 35 25 = some (.invokevirtual 68, 3, 86, 2, [18, 0]) := rfl
theorem rw_35_28 : mm_code 35 28 = some (.ifCond .eq 5, 3, 33, 0, []) := rfl
theorem rw_35_31 : mm_code 35 31 = some (.iconst 2, 1, 2, 0, []) := rfl
theorem rw_35_32 : mm_code 35 32 = some (.ireturn, 1, 0, 0, []) := rfl
theorem rw_35_33 : mm_code 35 33 = some (.aload_n 0, 1, 0, 0, []) := rfl
theorem rw_35_34 : mm_code 35 34 = some (.ldc 127, 2, 404000768, 0, [38]) := rfl
theorem rw_35_36 : mm_code 35 36 = some (.invokevirtual 68, 3, 86, 2, [18, 0]) := rfl
theorem rw_35_39 : mm_code 35 39 = some (.ifCond .eq 7, 3, 46, 0, []) := rfl
theorem rw_35_42 : mm_code 35 42 = some (.iconst 3, 1, 3, 0, []) := rfl
theorem rw_35_43 : mm_code 35 43 = some (.goto 4, 3, 47, 0, []) := rfl
theorem rw_35_46 : mm_code 35 46 = some (.iconst (-1), 1, 1, 1, []) := rfl
theorem rw_35_47 : mm_code 35 47 = some (.ireturn, 1, 0, 0, []) := rfl
theorem rw_36_0 : mm_code 36 0 = some (.aload_n 1, 1, 0, 0, []) := rfl
theorem rw_36_1 : mm_code 36 1 = some (.getfield 93, 3, 8, 8, [0, 27]) := rfl
theorem rw_36_4 : mm_code 36 4 = some (.istore_n 3, 1, 0, 0, []) := rfl
theorem rw_36_5 : mm_code 36 5 = some (.aload_n 1, 1, 0, 0, []) := rfl
theorem rw_36_6 : mm_code 36 6 = some (.iconst 0, 1, 0, 0, []) := rfl
theorem rw_36_7 : mm_code 36 7 = some (.aload_n 0, 1, 0, 0, []) := rfl
theorem rw_36_8 : mm_code 36 8 = some (.getfield 9, 3, 5, 0, [0, 1]) := rfl
theorem rw_36_11 : mm_code 36 11 = some (.iconst 1, 1, 1, 0, []) := rfl
theorem rw_36_12 : mm_code 36 12 = some (.isub, 1, 0, 0, []) := rfl
theorem rw_36_13 : mm_code 36 13 = some (.invokevirtual 89, 3, 88, 3, [26, 0]) := rfl
theorem rw_36_16 : mm_code 36 16 = some (.ifCond .eq 13, 3, 29, 0, []) := rfl
theorem rw_36_19 : mm_code 36 19 = some (.aload_n 0, 1, 0, 0, []) := rfl
theorem rw_36_20 : mm_code 36 20 = some (.aload_n 1, 1, 0, 0, []) := rfl
theorem rw_36_21 : mm_code 36 21 = some (.iload_n 3, 1, 0, 0, []) := rfl
theorem rw_36_22 : mm_code 36 22 = some (.iload_n 3, 1, 0, 0, []) := rfl
theorem rw_36_23 : mm_code 36 23 = some (.invokevirtual 128, 3, 39, 4, [39, 0]) := rfl
theorem rw_36_26 : mm_code 36 26 = some (.ifCond .ne 5, 3, 31, 0, []) := rfl
theorem rw_36_29 : mm_code 36 29 = some (.iconst 0, 1, 0, 0, []) := rfl
theorem rw_36_30 : mm_code 36 30 = some (.ireturn, 1, 1, 0, []) := rfl
theorem rw_36_31 : mm_code 36 31 = some (.aload_n 1, 1, 0, 0, []) := rfl
theorem rw_36_32 : mm_code 36 32 = some (.invokevirtual 86, 3, 83, 1, [25, 0]) := rfl
theorem rw_36_35 : mm_code 36 35 = some (.aload_n 1, 1, 0, 0, []) := rfl
theorem rw_36_36 : mm_code 36 36 = some (.getfield 93, 3, 8, 8, [0, 27]) := rfl
theorem rw_36_39 : mm_code 36 39 = some (.istore 4, 2, 0, 0, []) := rfl
theorem rw_36_41 : mm_code 36 41 = some (.aload_n 0, 1, 0, 0, []) := rfl
theorem rw_36_42 : mm_code 36 42 = some (.getfield 9, 3, 5, 0, [0, 1]) := rfl
theorem rw_36_45 : mm_code 36 45 = some (.iconst 1, 1, 1, 0, []) := rfl
theorem rw_36_46 : mm_code 36 46 = some (.isub, 1, 0, 0, []) := rfl
theorem rw_36_47 : mm_code 36 47 = some (.iload_n 3, 1, 0, 0, []) := rfl
theorem rw_36_48 : mm_code 36 48 = some (.bipush 24, 2, 24, 0, []) := rfl
theorem rw_36_50 : mm_code 36 50 = some (.iadd, 1, 0, 0, []) := rfl
theorem rw_36_51 : mm_code 36 51 = some (.iconst 1, 1, 1, 0, []) := rfl
theorem rw_36_52 : mm_code 36 52 = some (.isub, 1, 0, 0, []) := rfl
theorem rw_36_53 : mm_code 36 53 = some (.invokestatic 132, 3, 996, 2, [40, 0]) := rfl
theorem rw_36_56 : mm_code 36 56 = some (.istore 5, 2, 0, 0, []) := rfl
theorem rw_36_58 : mm_code 36 58 = some (.aload_n 1, 1, 0, 0, []) := rfl
theorem rw_36_59 : mm_code 36 59 = some (.iload_n 3, 1, 0, 0, []) := rfl
theorem rw_36_60 : mm_code 36 60 = some (.iload_n 2, 1, 0, 0, []) := rfl
theorem rw_36_61 : mm_code 36 61 = some (.iadd, 1, 0, 0, []) := rfl
theorem rw_36_62 : mm_code 36 62 = some (.iconst 1, 1, 1, 0, []) := rfl
theorem rw_36_63 : mm_code 36 63 = some (.isub, 1, 0, 0, []) := rfl
theorem rw_36_64 : mm_code 36 64 = some (.iload 5, 2, 0, 0, []) := rfl
theorem rw_36_66 : mm_code 36 66 = some (.invokevirtual 89, 3, 88, 3, [26, 0]) := rfl
theorem rw_36_69 : mm_code 36 69 = some (.ifCond .eq 14, 3, 83, 0, []) := rfl
theorem rw_36_72 : mm_code 36 72 = some (.aload_n 0, 1, 0, 0, []) := rfl
theorem rw_36_73 : mm_code 36 73 = some (.aload_n 1, 1, 0, 0, []) := rfl
theorem rw_36_74 : mm_code 36 74 = some (.iload_n 3, 1, 0, 0, []) := rfl
theorem rw_36_75 : mm_code 36 75 = some (.iload 4, 2, 0, 0, []) := rfl
theorem rw_36_77 : mm_code 36 77 = some (.invokevirtual 128, 3, 39, 4, [39, 0]) := rfl
theorem rw_36_80 : mm_code 36 80 = some (.ifCond .ne 5, 3, 85, 0, []) := rfl
theorem rw_36_83 : mm_code 36 83 = some (.iconst 0, 1, 0, 0, []) := rfl
theorem rw_36_84 : mm_code 36 84 = some (.ireturn, 1, 1, 0, []) := rfl
theorem rw_36_85 : mm_code 36 85 = some (.aload_n 1, 1, 0, 0, []) := rfl
theorem rw_36_86 : mm_code 36 86 = some (.invokevirtual 86, 3, 83, 1, [25, 0]) := rfl
theorem rw_36_89 : mm_code 36 89 = some (.aload_n 0, 1, 0, 0, []) := rfl
theorem rw_36_90 : mm_code 36 90 = some (.iload_n 3, 1, 0, 0, []) := rfl
theorem rw_36_91 : mm_code 36 91 = some (.iload 4, 2, 0, 0, []) := rfl
theorem rw_36_93 : mm_code 36 93 = some (.iload 4, 2, 0, 0, []) := rfl
theorem rw_36_95 : mm_code 36 95 = some (.iload_n 3, 1, 0, 0, []) := rfl
theorem rw_36_96 : mm_code 36 96 = some (.isub, 1, 0, 0, []) := rfl
theorem rw_36_97 : mm_code 36 97 = some (.iconst 1, 1, 1, 0, []) := rfl
theorem rw_36_98 : mm_code 36 98 = some (.iadd, 1, 0, 0, []) := rfl
theorem rw_36_99 : mm_code 36 99 = some (.invokevirtual 138, 3, 40, 4, [41, 0]) := rfl
theorem rw_36_102 : mm_code 36 102 = some (.iconst 1, 1, 1, 0, []) := rfl
theorem rw_36_103 : mm_code 36 103 = some (.ireturn, 1, 1, 0, []) := rfl
theorem rw_37_0 : mm_code 37 0 = some (.aload_n 1, 1, 0, 0, []) := rfl
theorem rw_37_1 : mm_code 37 1 = some (.getfield 93, 3, 8, 8, [0, 27]) := rfl
theorem rw_37_4 : mm_code 37 4 = some (.istore_n 3, 1, 0, 0, []) := rfl
theorem rw_37_5 : mm_code 37 5 = some (.iload_n 3, 1, 0, 0, []) := rfl
theorem rw_37_6 : mm_code 37 6 = some (.iload_n 2, 1, 0, 0, []) := rfl
theorem rw_37_7 : mm_code 37 7 = some (.iadd, 1, 0, 0, []) := rfl
theorem rw_37_8 : mm_code 37 8 = some (.iconst 1, 1, 1, 0, []) := rfl
theorem rw_37_9 : mm_code 37 9 = some (.isub, 1, 0, 0, []) := rfl
theorem rw_37_10 : mm_code 37 10 = some (.istore 4, 2, 0, 0, []) := rfl
theorem rw_37_12 : mm_code 37 12 = some (.aload_n 1, 1, 0, 0, []) := rfl
theorem rw_37_13 : mm_code 37 13 = some (.iconst 0, 1, 0, 0, []) := rfl
theorem rw_37_14 : mm_code 37 14 = some (.aload_n 0, 1, 0, 0, []) := rfl
theorem rw_37_15 : mm_code 37 15 = some (.getfield 9, 3, 5, 0, [0, 1]) := rfl
theorem rw_37_18 : mm_code 37 18 = some (.iload_n 2, 1, 0, 0, []) := rfl
theorem rw_37_19 : mm_code 37 19 = some (.isub, 1, 0, 0, []) := rfl
theorem rw_37_20 : mm_code 37 20 = some (.invokevirtual 89, 3, 88, 3, [26, 0]) := rfl
theorem rw_37_23 : mm_code 37 23 = some (.ifCond .eq 14, 3, 37, 0, []) := rfl
theorem rw_37_26 : mm_code 37 26 = some (.aload_n 0, 1, 0, 0, []) := rfl
theorem rw_37_27 : mm_code 37 27 = some (.aload_n 1, 1, 0, 0, []) := rfl
theorem rw_37_28 : mm_code 37 28 = some (.iload_n 3, 1, 0, 0, []) := rfl
theorem rw_37_29 : mm_code 37 29 = some (.iload 4, 2, 0, 0, []) := rfl
theorem rw_37_31 : mm_code 37 31 = some (.invokevirtual 128, 3, 39, 4, [39, 0]) := rfl
theorem rw_37_34 : mm_code 37 34 = some (.ifCond .ne 5, 3, 39, 0, []) := rfl
theorem rw_37_37 : mm_code 37 37 = some (.iconst 0, 1, 0, 0, []) := rfl
theorem rw_37_38 : mm_code 37 38 = some (.ireturn, 1, 1, 0, []) := rfl
theorem rw_37_39 : mm_code 37 39 = some (.aload_n 1, 1, 0, 0, []) := rfl
theorem rw_37_40 : mm_code 37 40 = some (.invokevirtual 86, 3, 83, 1, [25, 0]) := rfl
theorem rw_37_43 : mm_code 37 43 = some (.aload_n 0, 1, 0, 0, []) := rfl
theorem rw_37_44 : mm_code 37 44 = some (.iload_n 3, 1, 0, 0, []) := rfl
theorem rw_37_45 : mm_code 37 45 = some (.iload 4, 2, 0, 0, []) := rfl
theorem rw_37_47 : mm_code 37 47 = some (.bipush 10, 2, 10, 0, []) := rfl
theorem rw_37_49 : mm_code 37 49 = some (.invokevirtual 138, 3, 40, 4, [41, 0]) := rfl
theorem rw_37_52 : mm_code 37 52 = some (.iconst 1, 1, 1, 0, []) := rfl
theorem rw_37_53 : mm_code 37 53 = some (.ireturn, 1, 1, 0, []) := rfl
theorem rw_38_0 : mm_code 38 0 = some (.aload_n 1, 1, 0, 0, []) := rfl
theorem rw_38_1 : mm_code 38 1 = some (.iconst 1, 1, 1, 0, []) := rfl
theorem rw_38_2 : mm_code 38 2 = some (.iconst 4, 1, 4, 0, []) := rfl
theorem rw_38_3 : mm_code 38 3 = some (.aload_n 0, 1, 0, 0, []) := rfl
theorem rw_38_4 : mm_code 38 4 = some (.aload_n 0, 1, 0, 0, []) := rfl
theorem rw_38_5 : mm_code 38 5 = some (.getfield 44, 3, 5, 2, [0, 11]) := rfl
theorem rw_38_8 : mm_code 38 8 = some (.invokevirtual 142, 3, 47, 2, [42, 0]) := rfl
theorem rw_38_11 : mm_code 38 11 = some (.invokestatic 132, 3, 996, 2, [40, 0]) := rfl
theorem rw_38_14 : mm_code 38 14 = some (.invokevirtual 89, 3, 88, 3, [26, 0]) := rfl
theorem rw_38_17 : mm_code 38 17 = some (.ifCond .ne 5, 3, 22, 0, []) := rfl
theorem rw_38_20 : mm_code 38 20 = some (.iconst 0, 1, 0, 0, []) := rfl
theorem rw_38_21 : mm_code 38 21 = some (.ireturn, 1, 1, 0, []) := rfl
theorem rw_38_22 : mm_code 38 22 = some (.aload_n 0, 1, 0, 0, []) := rfl
theorem rw_38_23 : mm_code 38 23 = some (.getfield 28, 3, 5, 9, [3, 6]) := rfl
theorem rw_38_26 : mm_code 38 26 = some (.aload_n 0, 1, 0, 0, []) := rfl
theorem rw_38_27 : mm_code 38 27 = some (.getfield 44, 3, 5, 2, [0, 11]) := rfl
theorem rw_38_30 : mm_code 38 30 = some (.aload_n 1, 1, 0, 0, []) := rfl
theorem rw_38_31 : mm_code 38 31 = some (.getfield 93, 3, 8, 8, [0, 27]) := rfl
theorem rw_38_34 : mm_code 38 34 = some (.iastore, 1, 0, 0, []) := rfl
theorem rw_38_35 : mm_code 38 35 = some (.aload_n 1, 1, 0, 0, []) := rfl
theorem rw_38_36 : mm_code 38 36 = some (.invokevirtual 86, 3, 83, 1, [25, 0]) := rfl
theorem rw_38_39 : mm_code 38 39 = some (.iconst 1, 1, 1, 0, []) := rfl
theorem rw_38_40 : mm_code 38 40 = some (.ireturn, 1, 1, 0, []) := rfl
theorem rw_39_0 : mm_code 39 0 = some (.aload_n 0, 1, 0, 0, []) := rfl
theorem rw_39_1 : mm_code 39 1 = some (.getfield 50, 3, 5, 4, [2, 13]) := rfl
theorem rw_39_4 : mm_code 39 4 = some (.iload_n 2, 1, 0, 0, []) := rfl
theorem rw_39_5 : mm_code 39 5 = some (.iload_n 3, 1, 0, 0, []) := rfl
theorem rw_39_6 : mm_code 39 6 = some (.invokestatic 113, 3, 144, 2, [0, 1]) := rfl
theorem rw_39_9 : mm_code 39 9 = some (.land, 1, 0, 0, []) := rfl
theorem rw_39_10 : mm_code 39 10 = some (.lconst 0, 1, 0, 0, []) := rfl
theorem rw_39_11 : mm_code 39 11 = some (.lcmp, 1, 0, 0, []) := rfl
theorem rw_39_12 : mm_code 39 12 = some (.ifCond .eq 11, 3, 23, 0, []) := rfl
theorem rw_39_15 : mm_code 39 15 = some (.aload_n 1, 1, 0, 0, []) := rfl
theorem rw_39_16 : mm_code 39 16 = some (.iconst 3, 1, 3, 0, []) := rfl
theorem rw_39_17 : mm_code 39 17 = some (.invokevirtual 83, 3, 84, 2, [24, 0]) := rfl
theorem rw_39_20 : mm_code 39 20 = some (.ifCond .eq 7, 3, 27, 0, []) := rfl
theorem rw_39_23 : mm_code 39 23 = some (.iconst 1, 1, 1, 0, []) := rfl
theorem rw_39_24 : mm_code 39 24 = some (.goto 4, 3, 28, 0, []) := rfl
theorem rw_39_27 : mm_code 39 27 = some (.iconst 0, 1, 0, 0, []) := rfl
theorem rw_39_28 : mm_code 39 28 = some (.ireturn, 1, 1, 0, []) := rfl
theorem rw_40_0 : mm_code 40 0 = some (.aload_n 0, 1, 0, 0, []) := rfl
theorem rw_40_1 : mm_code 40 1 = some (.getfield 22, 3, 5, 7, [3, 4]) := rfl
theorem rw_40_4 : mm_code 40 4 = some (.aload_n 0, 1, 0, 0, []) := rfl
theorem rw_40_5 : mm_code 40 5 = some (.getfield 44, 3, 5, 2, [0, 11]) := rfl
theorem rw_40_8 : mm_code 40 8 = some (.iload_n 1, 1, 0, 0, []) := rfl
theorem rw_40_9 : mm_code 40 9 = some (.iastore, 1, 0, 0, []) := rfl
theorem rw_40_10 : mm_code 40 10 = some (.aload_n 0, 1, 0, 0, []) := rfl
theorem rw_40_11 : mm_code 40 11 = some (.getfield 25, 3, 5, 8, [3, 5]) := rfl
theorem rw_40_14 : mm_code 40 14 = some (.aload_n 0, 1, 0, 0, []) := rfl
theorem rw_40_15 : mm_code 40 15 = some (.getfield 44, 3, 5, 2, [0, 11]) := rfl
theorem rw_40_18 : mm_code 40 18 = some (.iload_n 2, 1, 0, 0, []) := rfl
theorem rw_40_19 : mm_code 40 19 = some (.iastore, 1, 0, 0, []) := rfl
theorem rw_40_20 : mm_code 40 20 = some (.aload_n 0, 1, 0, 0, []) := rfl
theorem rw_40_21 : mm_code 40 21 = some (.getfield 28, 3, 5, 9, [3, 6]) := rfl
theorem rw_40_24 : mm_code 40 24 = some (.aload_n 0, 1, 0, 0, []) := rfl
theorem rw_40_25 : mm_code 40 25 = some (.getfield 44, 3, 5, 2, [0, 11]) := rfl
theorem rw_40_28 : mm_code 40 28 = some (.iload_n 3, 1, 0, 0, []) := rfl
theorem rw_40_29 : mm_code 40 29 = some (.iastore, 1, 0, 0, []) := rfl
theorem rw_40_30 : mm_code 40 30 = some (.return_, 1, 0, 0, []) := rfl
theorem rw_41_0 : mm_code 41 0 = some (.aload_n 0, 1, 0, 0, []) := rfl
theorem rw_41_1 : mm_code 41 1 = some (.getfield 47, 3, 5, 3, [0, 12]) := rfl
theorem rw_41_4 : mm_code 41 4 = some (.bipush 12, 2, 12, 0, []) := rfl
theorem rw_41_6 : mm_code 41 6 = some (.if_icmp .lt 9, 3, 15, 0, []) := rfl
theorem rw_41_9 : mm_code 41 9 = some (.aload_n 1, 1, 0, 0, []) := rfl
theorem rw_41_10 : mm_code 41 10 = some (.iconst 2, 1, 2, 0, []) := rfl
theorem rw_41_11 : mm_code 41 11 = some (.invokevirtual 83, 3, 84, 2, [24, 0]) := rfl
theorem rw_41_14 : mm_code 41 14 = some (.ireturn, 1, 1, 0, []) := rfl
theorem rw_41_15 : mm_code 41 15 = some (.aload_n 1, 1, 0, 0, []) := rfl
theorem rw_41_16 : mm_code 41 16 = some (.invokevirtual 86, 3, 83, 1, [25, 0]) := rfl
theorem rw_41_19 : mm_code 41 19 = some (.aload_n 1, 1, 0, 0, []) := rfl
theorem rw_41_20 : mm_code 41 20 = some (.getfield 54, 3, 8, 7, [0, 14]) := rfl
theorem rw_41_23 : mm_code 41 23 = some (.iconst 3, 1, 3, 0, []) := rfl
theorem rw_41_24 : mm_code 41 24 = some (.if_icmp .eq 9, 3, 33, 0, []) := rfl
theorem rw_41_27 : mm_code 41 27 = some (.aload_n 1, 1, 0, 0, []) := rfl
theorem rw_41_28 : mm_code 41 28 = some (.iconst 1, 1, 1, 0, []) := rfl
theorem rw_41_29 : mm_code 41 29 = some (.invokevirtual 83, 3, 84, 2, [24, 0]) := rfl
theorem rw_41_32 : mm_code 41 32 = some (.ireturn, 1, 1, 0, []) := rfl
theorem rw_41_33 : mm_code 41 33 = some (.aload_n 0, 1, 0, 0, []) := rfl
theorem rw_41_34 : mm_code 41 34 = some (.aload_n 1, 1, 0, 0, []) := rfl
theorem rw_41_35 : mm_code 41 35 = some (.getfield 93, 3, 8, 8, [0, 27]) := rfl
theorem rw_41_38 : mm_code 41 38 = some (.invokevirtual 117, 3, 52, 2, [33, 0]) := rfl
theorem rw_41_41 : mm_code 41 41 = some (.istore_n 2, 1, 0, 0, []) := rfl
theorem rw_41_42 : mm_code 41 42 = some (.aload_n 0, 1, 0, 0, []) := rfl
theorem rw_41_43 : mm_code 41 43 = some (.iload_n 2, 1, 0, 0, []) := rfl
theorem rw_41_44 : mm_code 41 44 = some (.invokevirtual 145, 3, 43, 2, [43, 0]) := rfl
theorem rw_41_47 : mm_code 41 47 = some (.ifCond .eq 11, 3, 58, 0, []) := rfl
theorem rw_41_50 : mm_code 41 50 = some (.aload_n 0, 1, 0, 0, []) := rfl
theorem rw_41_51 : mm_code 41 51 = some (.iload_n 2, 1, 0, 0, []) := rfl
theorem rw_41_52 : mm_code 41 52 = some (.invokevirtual 148, 3, 45, 2, [44, 0]) := rfl
theorem rw_41_55 : mm_code 41 55 = some (.ifCond .ne 9, 3, 64, 0, []) := rfl
theorem rw_41_58 : mm_code 41 58 = some (.aload_n 1, 1, 0, 0, []) := rfl
theorem rw_41_59 : mm_code 41 59 = some (.iconst 4, 1, 4, 0, []) := rfl
theorem rw_41_60 : mm_code 41 60 = some (.invokevirtual 83, 3, 84, 2, [24, 0]) := rfl
theorem rw_41_63 : mm_code 41 63 = some (.ireturn, 1, 1, 0, []) := rfl
theorem rw_41_64 : mm_code 41 64 = some (.aload_n 1, 1, 0, 0, []) := rfl
theorem rw_41_65 : mm_code 41 65 = some (.invokevirtual 86, 3, 83, 1, [25, 0]) := rfl
theorem rw_41_68 : mm_code 41 68 = some (.aload_n 0, 1, 0, 0, []) := rfl
theorem rw_41_69 : mm_code 41 69 = some (.aload_n 1, 1, 0, 0, []) := rfl
theorem rw_41_70 : mm_code 41 70 = some (.invokevirtual 96, 3, 34, 2, [28, 0]) := rfl
theorem rw_41_73 : mm_code 41 73 = some (.ifCond .ne 5, 3, 78, 0, []) := rfl
theorem rw_41_76 : mm_code 41 76 = some (.iconst 0, 1, 0, 0, []) := rfl
theorem rw_41_77 : mm_code 41 77 = some (.ireturn, 1, 1, 0, []) := rfl
theorem rw_41_78 : mm_code 41 78 = some (.aload_n 0, 1, 0, 0, []) := rfl
theorem rw_41_79 : mm_code 41 79 = some (.getfield 31, 3, 5, 10, [3, 7]) := rfl
theorem rw_41_82 : mm_code 41 82 = some (.aload_n 0, 1, 0, 0, []) := rfl
theorem rw_41_83 : mm_code 41 83 = some (.getfield 47, 3, 5, 3, [0, 12]) := rfl
theorem rw_41_86 : mm_code 41 86 = some (.aload_n 1, 1, 0, 0, []) := rfl
theorem rw_41_87 : mm_code 41 87 = some (.getfield 93, 3, 8, 8, [0, 27]) := rfl
theorem rw_41_90 : mm_code 41 90 = some (.iastore, 1, 0, 0, []) := rfl
theorem rw_41_91 : mm_code 41 91 = some (.aload_n 0, 1, 0, 0, []) := rfl
theorem rw_41_92 : mm_code 41 92 = some (.getfield 34, 3, 5, 11, [3, 8]) := rfl
theorem rw_41_95 : mm_code 41 95 = some (.aload_n 0, 1, 0, 0, []) := rfl
theorem rw_41_96 : mm_code 41 96 = some (.getfield 47, 3, 5, 3, [0, 12]) := rfl
theorem rw_41_99 : mm_code 41 99 = some (.iload_n 2, 1, 0, 0, []) := rfl
theorem rw_41_100 : mm_code 41 100 = some (.iastore, 1, 0, 0, []) := rfl
theorem rw_41_101 : mm_code 41 101 = some (.aload_n 1, 1, 0, 0, []) := rfl
theorem rw_41_102 : mm_code 41 102 = some (.invokevirtual 86, 3, 83, 1, [25, 0]) := rfl
theorem rw_41_105 : mm_code 41 105 = some (.aload_n 0, 1, 0, 0, []) := rfl
theorem rw_41_106 : mm_code 41 106 = some (.aload_n 1, 1, 0, 0, []) := rfl
theorem rw_41_107 : mm_code 41 107 = some (.iload_n 2, 1, 0, 0, []) := rfl
theorem rw_41_108 : mm_code 41 108 = some (.invokevirtual 151, 3, 42, 3, [45, 0]) := rfl
theorem rw_41_111 : mm_code 41 111 = some (.ifCond .ne 5, 3, 116, 0, []) := rfl
theorem rw_41_114 : mm_code 41 114 = some (.iconst 0, 1, 0, 0, []) := rfl
theorem rw_41_115 : mm_code 41 115 = some (.ireturn, 1, 1, 0, []) := rfl
theorem rw_41_116 : mm_code 41 116 = some (.aload_n 0, 1, 0, 0, []) := rfl
theorem rw_41_117 : mm_code 41 117 = some (.dup, 1, 0, 0, []) := rfl
theorem rw_41_118 : mm_code 41 118 = some (.getfield 47, 3, 5, 3, [0, 12]) := rfl
theorem rw_41_121 : mm_code 41 121 = some (.iconst 1, 1, 1, 0, []) := rfl
theorem rw_41_122 : mm_code 41 122 = some (.iadd, 1, 0, 0, []) := rfl
theorem rw_41_123 : mm_code 41 123 = some (.putfield 47, 3, 5, 3, [0, 12]) := rfl
theorem rw_41_126 : mm_code 41 126 = some (.iconst 1, 1, 1, 0, []) := rfl
theorem rw_41_127 : mm_code 41 127 = some (.ireturn, 1, 1, 0, []) := rfl
theorem rw_42_0 : mm_code 42 0 = some (.lconst 0, 1, 0, 0, []) := rfl
theorem rw_42_1 : mm_code 42 1 = some (.lstore_n 3, 1, 0, 0, []) := rfl
theorem rw_42_2 : mm_code 42 2 = some (.iconst 0, 1, 0, 0, []) := rfl
theorem rw_42_3 : mm_code 42 3 = some (.istore 5, 2, 0, 0, []) := rfl
theorem rw_42_5 : mm_code 42 5 = some (.iload 5, 2, 0, 0, []) := rfl
theorem rw_42_7 : mm_code 42 7 = some (.ifCond .eq 22, 3, 29, 0, []) := rfl
theorem rw_42_10 : mm_code 42 10 = some (.iload 5, 2, 0, 0, []) := rfl
theorem rw_42_12 : mm_code 42 12 = some (.aload_n 0, 1, 0, 0, []) := rfl
theorem rw_42_13 : mm_code 42 13 = some (.getfield 28, 3, 5, 9, [3, 6]) := rfl
theorem rw_42_16 : mm_code 42 16 = some (.iload_n 2, 1, 0, 0, []) := rfl
theorem rw_42_17 : mm_code 42 17 = some (.iaload, 1, 0, 0, []) := rfl
theorem rw_42_18 : mm_code 42 18 = some (.if_icmp .gt 92, 3, 110, 0, []) := rfl
theorem rw_42_21 : mm_code 42 21 = some (.aload_n 1, 1, 0, 0, []) := rfl
theorem rw_42_22 : mm_code 42 22 = some (.getfield 54, 3, 8, 7, [0, 14]) := rfl
theorem rw_42_25 : mm_code 42 25 = some (.iconst 2, 1, 2, 0, []) := rfl
theorem rw_42_26 : mm_code 42 26 = some (.if_icmp .ne 84, 3, 110, 0, []) := rfl
theorem rw_42_29 : mm_code 42 29 = some (.iload 5, 2, 0, 0, []) := rfl
theorem rw_42_31 : mm_code 42 31 = some (.aload_n 0, 1, 0, 0, []) := rfl
theorem rw_42_32 : mm_code 42 32 = some (.getfield 28, 3, 5, 9, [3, 6]) := rfl
theorem rw_42_35 : mm_code 42 35 = some (.iload_n 2, 1, 0, 0, []) := rfl
theorem rw_42_36 : mm_code 42 36 = some (.iaload, 1, 0, 0, []) := rfl
theorem rw_42_37 : mm_code 42 37 = some (.if_icmp .ge 13, 3, 50, 0, []) := rfl
theorem rw_42_40 : mm_code 42 40 = some (.aload_n 0, 1, 0, 0, []) := rfl
theorem rw_42_41 : mm_code 42 41 = some (.iload_n 2, 1, 0, 0, []) := rfl
theorem rw_42_42 : mm_code 42 42 = some (.invokevirtual 142, 3, 47, 2, [42, 0]) := rfl
theorem rw_42_45 : mm_code 42 45 = some (.iconst 1, 1, 1, 0, []) := rfl
theorem rw_42_46 : mm_code 42 46 = some (.isub, 1, 0, 0, []) := rfl
theorem rw_42_47 : mm_code 42 47 = some (.goto 4, 3, 51, 0, []) := rfl
theorem rw_42_50 : mm_code 42 50 = some (.iconst (-1), 1, 1, 1, []) := rfl
theorem rw_42_51 : mm_code 42 51 = some (.istore 6, 2, 0, 0, []) := rfl
theorem rw_42_53 : mm_code 42 53 = some (.aload_n 1, 1, 0, 0, []) := rfl
theorem rw_42_54 : mm_code 42 54 = some (.iconst 0, 1, 0, 0, []) := rfl
theorem rw_42_55 : mm_code 42 55 = some (.iload 6, 2, 0, 0, []) := rfl
theorem rw_42_57 : mm_code 42 57 = some (.invokevirtual 89, 3, 88, 3, [26, 0]) := rfl
theorem rw_42_60 : mm_code 42 60 = some (.ifCond .ne 5, 3, 65, 0, []) := rfl
theorem rw_42_63 : mm_code 42 63 = some (.iconst 0, 1, 0, 0, []) := rfl
theorem rw_42_64 : mm_code 42 64 = some (.ireturn, 1, 1, 0, []) := rfl
theorem rw_42_65 : mm_code 42 65 = some (.lconst 1, 1, 1, 0, []) := rfl
theorem rw_42_66 : mm_code 42 66 = some (.aload_n 0, 1, 0, 0, []) := rfl
theorem rw_42_67 : mm_code 42 67 = some (.getfield 22, 3, 5, 7, [3, 4]) := rfl
theorem rw_42_70 : mm_code 42 70 = some (.iload_n 2, 1, 0, 0, []) := rfl
theorem rw_42_71 : mm_code 42 71 = some (.iaload, 1, 0, 0, []) := rfl
theorem rw_42_72 : mm_code 42 72 = some (.aload_n 1, 1, 0, 0, []) := rfl
theorem rw_42_73 : mm_code 42 73 = some (.getfield 93, 3, 8, 8, [0, 27]) := rfl
theorem rw_42_76 : mm_code 42 76 = some (.iadd, 1, 0, 0, []) := rfl
theorem rw_42_77 : mm_code 42 77 = some (.lshl, 1, 0, 0, []) := rfl
theorem rw_42_78 : mm_code 42 78 = some (.lstore 7, 2, 0, 0, []) := rfl
theorem rw_42_80 : mm_code 42 80 = some (.lload_n 3, 1, 0, 0, []) := rfl
theorem rw_42_81 : mm_code 42 81 = some (.lload 7, 2, 0, 0, []) := rfl
theorem rw_42_83 : mm_code 42 83 = some (.land, 1, 0, 0, []) := rfl
theorem rw_42_84 : mm_code 42 84 = some (.lconst 0, 1, 0, 0, []) := rfl
theorem rw_42_85 : mm_code 42 85 = some (.lcmp, 1, 0, 0, []) := rfl
theorem rw_42_86 : mm_code 42 86 = some (.ifCond .eq 9, 3, 95, 0, []) := rfl
theorem rw_42_89 : mm_code 42 89 = some (.aload_n 1, 1, 0, 0, []) := rfl
theorem rw_42_90 : mm_code 42 90 = some (.iconst 3, 1, 3, 0, []) := rfl
theorem rw_42_91 : mm_code 42 91 = some (.invokevirtual 83, 3, 84, 2, [24, 0]) := rfl
theorem rw_42_94 : mm_code 42 94 = some (.ireturn, 1, 1, 0, []) := rfl
theorem rw_42_95 : mm_code 42 95 = some (.lload_n 3, 1, 0, 0, []) := rfl
theorem rw_42_96 : mm_code 42 96 = some (.lload 7, 2, 0, 0, []) := rfl
theorem rw_42_98 : mm_code 42 98 = some (.lor, 1, 0, 0, []) := rfl
theorem rw_42_99 : mm_code 42 99 = some (.lstore_n 3, 1, 0, 0, []) := rfl
theorem rw_42_100 : mm_code 42 100 = some (.iinc 5 1, 3, 1, 0, []) := rfl
theorem rw_42_103 : mm_code 42 103 = some (.aload_n 1, 1, 0, 0, []) := rfl
theorem rw_42_104 : mm_code 42 104 = some (.invokevirtual 86, 3, 83, 1, [25, 0]) := rfl
theorem rw_42_107 : mm_code 42 107 = some (.goto (-102), 3, 5, 0, []) := rfl
theorem rw_42_110 : mm_code 42 110 = some (.aload_n 0, 1, 0, 0, []) := rfl
theorem rw_42_111 : mm_code 42 111 = some (.getfield 37, 3, 5, 12, [3, 9]) := rfl
theorem rw_42_114 : mm_code 42 114 = some (.aload_n 0, 1, 0, 0, []) := rfl
theorem rw_42_115 : mm_code 42 115 = some (.getfield 47, 3, 5, 3, [0, 12]) := rfl
theorem rw_42_118 : mm_code 42 118 = some (.lload_n 3, 1, 0, 0, []) := rfl
theorem rw_42_119 : mm_code 42 119 = some (.lastore, 1, 0, 0, []) := rfl
theorem rw_42_120 : mm_code 42 120 = some (.iload 5, 2, 0, 0, []) := rfl
theorem rw_42_122 : mm_code 42 122 = some (.aload_n 0, 1, 0, 0, []) := rfl
theorem rw_42_123 : mm_code 42 123 = some (.getfield 28, 3, 5, 9, [3, 6]) := rfl
theorem rw_42_126 : mm_code 42 126 = some (.iload_n 2, 1, 0, 0, []) := rfl
theorem rw_42_127 : mm_code 42 127 = some (.iaload, 1, 0, 0, []) := rfl
theorem rw_42_128 : mm_code 42 128 = some (.if_icmp .eq 20, 3, 148, 0, []) := rfl
theorem rw_42_131 : mm_code 42 131 = some (.aload_n 1, 1, 0, 0, []) := rfl
theorem rw_42_132 : mm_code 42 132 = some (.getfield 54, 3, 8, 7, [0, 14]) := rfl
theorem rw_42_135 : mm_code 42 135 = some (.bipush 59, 2, 59, 0, []) := rfl
theorem rw_42_137 : mm_code 42 137 = some (.if_icmp .ne 11, 3, 148, 0, []) := rfl
theorem rw_42_140 : mm_code 42 140 = some (.aload_n 1, 1, 0, 0, []) := rfl
theorem rw_42_141 : mm_code 42 141 = some (.iconst 5, 1, 5, 0, []) := rfl
theorem rw_42_142 : mm_code 42 142 = some (.invokevirtual 83, 3, 84, 2, [24, 0]) := rfl
theorem rw_42_145 : mm_code 42 145 = some (.ifCond .eq 7, 3, 152, 0, []) := rfl
theorem rw_42_148 : mm_code 42 148 = some (.iconst 1, 1, 1, 0, []) := rfl
theorem rw_42_149 : mm_code 42 149 = some (.goto 4, 3, 153, 0, []) := rfl
theorem rw_42_152 : mm_code 42 152 = some (.iconst 0, 1, 0, 0, []) := rfl
theorem rw_42_153 : mm_code 42 153 = some (.ireturn, 1, 1, 0, []) := rfl
theorem rw_43_0 : mm_code 43 0 = some (.iload_n 1, 1, 0, 0, []) := rfl
theorem rw_43_1 : mm_code 43 1 = some (.ifCond .lt 15, 3, 16, 0, []) := rfl
theorem rw_43_4 : mm_code 43 4 = some (.iload_n 1, 1, 0, 0, []) := rfl
theorem rw_43_5 : mm_code 43 5 = some (.aload_n 0, 1, 0, 0, []) := rfl
theorem rw_43_6 : mm_code 43 6 = some (.getfield 44, 3, 5, 2, [0, 11]) := rfl
theorem rw_43_9 : mm_code 43 9 = some (.if_icmp .ge 7, 3, 16, 0, []) := rfl
theorem rw_43_12 : mm_code 43 12 = some (.iconst 1, 1, 1, 0, []) := rfl
theorem rw_43_13 : mm_code 43 13 = some (.goto 4, 3, 17, 0, []) := rfl
theorem rw_43_16 : mm_code 43 16 = some (.iconst 0, 1, 0, 0, []) := rfl
theorem rw_43_17 : mm_code 43 17 = some (.ireturn, 1, 1, 0, []) := rfl
theorem rw_44_0 : mm_code 44 0 = some (.iload_n 1, 1, 0, 0, []) := rfl
theorem rw_44_1 : mm_code 44 1 = some (.ifCond .lt 15, 3, 16, 0, []) := rfl
theorem rw_44_4 : mm_code 44 4 = some (.iload_n 1, 1, 0, 0, []) := rfl
theorem rw_44_5 : mm_code 44 5 = some (.aload_n 0, 1, 0, 0, []) := rfl
theorem rw_44_6 : mm_code 44 6 = some (.getfield 47, 3, 5, 3, [0, 12]) := rfl
theorem rw_44_9 : mm_code 44 9 = some (.if_icmp .ge 7, 3, 16, 0, []) := rfl
theorem rw_44_12 : mm_code 44 12 = some (.iconst 1, 1, 1, 0, []) := rfl
theorem rw_44_13 : mm_code 44 13 = some (.goto 4, 3, 17, 0, []) := rfl
theorem rw_44_16 : mm_code 44 16 = some (.iconst 0, 1, 0, 0, []) := rfl
theorem rw_44_17 : mm_code 44 17 = some (.ireturn, 1, 1, 0, []) := rfl
theorem rw_45_0 : mm_code 45 0 = some (.aload_n 0, 1, 0, 0, []) := rfl
theorem rw_45_1 : mm_code 45 1 = some (.getfield 19, 3, 5, 6, [3, 3]) := rfl
theorem rw_45_4 : mm_code 45 4 = some (.iload_n 1, 1, 0, 0, []) := rfl
theorem rw_45_5 : mm_code 45 5 = some (.iaload, 1, 0, 0, []) := rfl
theorem rw_45_6 : mm_code 45 6 = some (.iconst 3, 1, 3, 0, []) := rfl
theorem rw_45_7 : mm_code 45 7 = some (.if_icmp .ne 7, 3, 14, 0, []) := rfl
theorem rw_45_10 : mm_code 45 10 = some (.iconst 1, 1, 1, 0, []) := rfl
theorem rw_45_11 : mm_code 45 11 = some (.goto 4, 3, 15, 0, []) := rfl
theorem rw_45_14 : mm_code 45 14 = some (.iconst 0, 1, 0, 0, []) := rfl
theorem rw_45_15 : mm_code 45 15 = some (.ireturn, 1, 1, 0, []) := rfl
theorem rw_46_0 : mm_code 46 0 = some (.aload_n 0, 1, 0, 0, []) := rfl
theorem rw_46_1 : mm_code 46 1 = some (.iload_n 1, 1, 0, 0, []) := rfl
theorem rw_46_2 : mm_code 46 2 = some (.invokevirtual 145, 3, 43, 2, [43, 0]) := rfl
theorem rw_46_5 : mm_code 46 5 = some (.ifCond .eq 29, 3, 34, 0, []) := rfl
theorem rw_46_8 : mm_code 46 8 = some (.aload_n 0, 1, 0, 0, []) := rfl
theorem rw_46_9 : mm_code 46 9 = some (.iload_n 1, 1, 0, 0, []) := rfl
theorem rw_46_10 : mm_code 46 10 = some (.invokevirtual 148, 3, 45, 2, [44, 0]) := rfl
theorem rw_46_13 : mm_code 46 13 = some (.ifCond .ne 21, 3, 34, 0, []) := rfl
theorem rw_46_16 : mm_code 46 16 = some (.iload_n 2, 1, 0, 0, []) := rfl
theorem rw_46_17 : mm_code 46 17 = some (.ifCond .lt 17, 3, 34, 0, []) := rfl
theorem rw_46_20 : mm_code 46 20 = some (.iload_n 2, 1, 0, 0, []) := rfl
theorem rw_46_21 : mm_code 46 21 = some (.aload_n 0, 1, 0, 0, []) := rfl
theorem rw_46_22 : mm_code 46 22 = some (.getfield 28, 3, 5, 9, [3, 6]) := rfl
theorem rw_46_25 : mm_code 46 25 = some (.iload_n 1, 1, 0, 0, []) := rfl
theorem rw_46_26 : mm_code 46 26 = some (.iaload, 1, 0, 0, []) := rfl
theorem rw_46_27 : mm_code 46 27 = some (.if_icmp .ge 7, 3, 34, 0, []) := rfl
theorem rw_46_30 : mm_code 46 30 = some (.iconst 1, 1, 1, 0, []) := rfl
theorem rw_46_31 : mm_code 46 31 = some (.goto 4, 3, 35, 0, []) := rfl
theorem rw_46_34 : mm_code 46 34 = some (.iconst 0, 1, 0, 0, []) := rfl
theorem rw_46_35 : mm_code 46 35 = some (.ireturn, 1, 1, 0, []) := rfl
theorem rw_47_0 : mm_code 47 0 = some (.aload_n 0, 1, 0, 0, []) := rfl
theorem rw_47_1 : mm_code 47 1 = some (.getfield 25, 3, 5, 8, [3, 5]) := rfl
theorem rw_47_4 : mm_code 47 4 = some (.iload_n 1, 1, 0, 0, []) := rfl
theorem rw_47_5 : mm_code 47 5 = some (.iaload, 1, 0, 0, []) := rfl
theorem rw_47_6 : mm_code 47 6 = some (.aload_n 0, 1, 0, 0, []) := rfl
theorem rw_47_7 : mm_code 47 7 = some (.getfield 22, 3, 5, 7, [3, 4]) := rfl
theorem rw_47_10 : mm_code 47 10 = some (.iload_n 1, 1, 0, 0, []) := rfl
theorem rw_47_11 : mm_code 47 11 = some (.iaload, 1, 0, 0, []) := rfl
theorem rw_47_12 : mm_code 47 12 = some (.isub, 1, 0, 0, []) := rfl
theorem rw_47_13 : mm_code 47 13 = some (.iconst 1, 1, 1, 0, []) := rfl
theorem rw_47_14 : mm_code 47 14 = some (.iadd, 1, 0, 0, []) := rfl
theorem rw_47_15 : mm_code 47 15 = some (.ireturn, 1, 0, 0, []) := rfl
theorem rw_48_0 : mm_code 48 0 = some (.aload_n 0, 1, 0, 0, []) := rfl
theorem rw_48_1 : mm_code 48 1 = some (.getfield 22, 3, 5, 7, [3, 4]) := rfl
theorem rw_48_4 : mm_code 48 4 = some (.iload_n 1, 1, 0, 0, []) := rfl
theorem rw_48_5 : mm_code 48 5 = some (.iaload, 1, 0, 0, []) := rfl
theorem rw_48_6 : mm_code 48 6 = some (.aload_n 0, 1, 0, 0, []) := rfl
theorem rw_48_7 : mm_code 48 7 = some (.getfield 25, 3, 5, 8, [3, 5]) := rfl
theorem rw_48_10 : mm_code 48 10 = some (.iload_n 1, 1, 0, 0, []) := rfl
theorem rw_48_11 : mm_code 48 11 = some (.iaload, 1, 0, 0, []) := rfl
theorem rw_48_12 : mm_code 48 12 = some (.invokestatic 113, 3, 144, 2, [0, 1]) := rfl
theorem rw_48_15 : mm_code 48 15 = some (.lreturn, 1, 0, 0, []) := rfl
theorem rw_49_0 : mm_code 49 0 = some (.aload_n 0, 1, 0, 0, []) := rfl
theorem rw_49_1 : mm_code 49 1 = some (.iload_n 1, 1, 0, 0, []) := rfl
theorem rw_49_2 : mm_code 49 2 = some (.iload_n 2, 1, 0, 0, []) := rfl
theorem rw_49_3 : mm_code 49 3 = some (.invokevirtual 154, 3, 46, 3, [46, 0]) := rfl
theorem rw_49_6 : mm_code 49 6 = some (.ifCond .ne 5, 3, 11, 0, []) := rfl
theorem rw_49_9 : mm_code 49 9 = some (.lconst 0, 1, 0, 0, []) := rfl
theorem rw_49_10 : mm_code 49 10 = some (.lreturn, 1, 0, 0, []) := rfl
theorem rw_49_11 : mm_code 49 11 = some (.lconst 1, 1, 1, 0, []) := rfl
theorem rw_49_12 : mm_code 49 12 = some (.iload_n 2, 1, 0, 0, []) := rfl
theorem rw_49_13 : mm_code 49 13 = some (.lshl, 1, 0, 0, []) := rfl
theorem rw_49_14 : mm_code 49 14 = some (.lstore_n 3, 1, 0, 0, []) := rfl
theorem rw_49_15 : mm_code 49 15 = some (.aload_n 0, 1, 0, 0, []) := rfl
theorem rw_49_16 : mm_code 49 16 = some (.getfield 19, 3, 5, 6, [3, 3]) := rfl
theorem rw_49_19 : mm_code 49 19 = some (.iload_n 1, 1, 0, 0, []) := rfl
theorem rw_49_20 : mm_code 49 20 = some (.iaload, 1, 0, 0, []) := rfl
theorem rw_49_21 : mm_code 49 21 = some (.iconst 1, 1, 1, 0, []) := rfl
theorem rw_49_22 : mm_code 49 22 = some (.if_icmp .ne 21, 3, 43, 0, []) := rfl
theorem rw_49_25 : mm_code 49 25 = some (.iload_n 2, 1, 0, 0, []) := rfl
theorem rw_49_26 : mm_code 49 26 = some (.getstatic 157, 3, 2, 0, [1]) := rfl
theorem rw_49_29 : mm_code 49 29 = some (.arraylength, 1, 0, 0, []) := rfl
theorem rw_49_30 : mm_code 49 30 = some (.if_icmp .ge 13, 3, 43, 0, []) := rfl
theorem rw_49_33 : mm_code 49 33 = some (.getstatic 157, 3, 2, 0, [1]) := rfl
theorem rw_49_36 : mm_code 49 36 = some (.iload_n 2, 1, 0, 0, []) := rfl
theorem rw_49_37 : mm_code 49 37 = some (.iaload, 1, 0, 0, []) := rfl
theorem rw_49_38 : mm_code 49 38 = some (.i2l, 1, 0, 0, []) := rfl
theorem rw_49_39 : mm_code 49 39 = some (.lstore_n 3, 1, 0, 0, []) := rfl
theorem rw_49_40 : mm_code 49 40 = some (.goto 28, 3, 68, 0, []) := rfl
theorem rw_49_43 : mm_code 49 43 = some (.aload_n 0, 1, 0, 0, []) := rfl
theorem rw_49_44 : mm_code 49 44 = some (.getfield 19, 3, 5, 6, [3, 3]) := rfl
theorem rw_49_47 : mm_code 49 47 = some (.iload_n 1, 1, 0, 0, []) := rfl
theorem rw_49_48 : mm_code 49 48 = some (.iaload, 1, 0, 0, []) := rfl
theorem rw_49_49 : mm_code 49 49 = some (.iconst 2, 1, 2, 0, []) := rfl
theorem rw_49_50 : mm_code 49 50 = some (.if_icmp .ne 18, 3, 68, 0, []) := rfl
theorem rw_49_53 : mm_code 49 53 = some (.iload_n 2, 1, 0, 0, []) := rfl
theorem rw_49_54 : mm_code 49 54 = some (.getstatic 160, 3, 3, 0, [2]) := rfl
theorem rw_49_57 : mm_code 49 57 = some (.arraylength, 1, 0, 0, []) := rfl
theorem rw_49_58 : mm_code 49 58 = some (.if_icmp .ge 10, 3, 68, 0, []) := rfl
theorem rw_49_61 : mm_code 49 61 = some (.getstatic 160, 3, 3, 0, [2]) := rfl
theorem rw_49_64 : mm_code 49 64 = some (.iload_n 2, 1, 0, 0, []) := rfl
theorem rw_49_65 : mm_code 49 65 = some (.iaload, 1, 0, 0, []) := rfl
theorem rw_49_66 : mm_code 49 66 = some (.i2l, 1, 0, 0, []) := rfl
theorem rw_49_67 : mm_code 49 67 = some (.lstore_n 3, 1, 0, 0, []) := rfl
theorem rw_49_68 : mm_code 49 68 = some (.lload_n 3, 1, 0, 0, []) := rfl
theorem rw_49_69 : mm_code 49 69 = some (.aload_n 0, 1, 0, 0, []) := rfl
theorem rw_49_70 : mm_code 49 70 = some (.getfield 22, 3, 5, 7, [3, 4]) := rfl
theorem rw_49_73 : mm_code 49 73 = some (.iload_n 1, 1, 0, 0, []) := rfl
theorem rw_49_74 : mm_code 49 74 = some (.iaload, 1, 0, 0, []) := rfl
theorem rw_49_75 : mm_code 49 75 = some (.lshl, 1, 0, 0, []) := rfl
theorem rw_49_76 : mm_code 49 76 = some (.lreturn, 1, 0, 0, []) := rfl
theorem rw_50_0 : mm_code 50 0 = some (.aload_n 0, 1, 0, 0, []) := rfl
theorem rw_50_1 : mm_code 50 1 = some (.getfield 34, 3, 5, 11, [3, 8]) := rfl
theorem rw_50_4 : mm_code 50 4 = some (.iload_n 1, 1, 0, 0, []) := rfl
theorem rw_50_5 : mm_code 50 5 = some (.iaload, 1, 0, 0, []) := rfl
theorem rw_50_6 : mm_code 50 6 = some (.istore_n 3, 1, 0, 0, []) := rfl
theorem rw_50_7 : mm_code 50 7 = some (.iload_n 2, 1, 0, 0, []) := rfl
theorem rw_50_8 : mm_code 50 8 = some (.ifCond .lt 30, 3, 38, 0, []) := rfl
theorem rw_50_11 : mm_code 50 11 = some (.iload_n 2, 1, 0, 0, []) := rfl
theorem rw_50_12 : mm_code 50 12 = some (.aload_n 0, 1, 0, 0, []) := rfl
theorem rw_50_13 : mm_code 50 13 = some (.iload_n 3, 1, 0, 0, []) := rfl
theorem rw_50_14 : mm_code 50 14 = some (.invokevirtual 142, 3, 47, 2, [42, 0]) := rfl
theorem rw_50_17 : mm_code 50 17 = some (.ishr, 1, 0, 0, []) := rfl
theorem rw_50_18 : mm_code 50 18 = some (.ifCond .ne 20, 3, 38, 0, []) := rfl
theorem rw_50_21 : mm_code 50 21 = some (.iload_n 2, 1, 0, 0, []) := rfl
theorem rw_50_22 : mm_code 50 22 = some (.invokestatic 163, 3, 246, 1, [47, 0]) := rfl
theorem rw_50_25 : mm_code 50 25 = some (.aload_n 0, 1, 0, 0, []) := rfl
theorem rw_50_26 : mm_code 50 26 = some (.getfield 28, 3, 5, 9, [3, 6]) := rfl
theorem rw_50_29 : mm_code 50 29 = some (.iload_n 3, 1, 0, 0, []) := rfl
theorem rw_50_30 : mm_code 50 30 = some (.iaload, 1, 0, 0, []) := rfl
theorem rw_50_31 : mm_code 50 31 = some (.if_icmp .ne 7, 3, 38, 0, []) := rfl
theorem rw_50_34 : mm_code 50 34 = some (.iconst 1, 1, 1, 0, []) := rfl
theorem rw_50_35 : mm_code 50 35 = some (.goto 4, 3, 39, 0, []) := rfl
theorem rw_50_38 : mm_code 50 38 = some (.iconst 0, 1, 0, 0, []) := rfl
theorem rw_50_39 : mm_code 50 39 = some (.ireturn, 1, 1, 0, []) := rfl
theorem rw_51_0 : mm_code 51 0 = some (.iconst 0, 1, 0, 0, []) := rfl
theorem rw_51_1 : mm_code 51 1 = some (.istore_n 2, 1, 0, 0, []) := rfl
theorem rw_51_2 : mm_code 51 2 = some (.iconst 0, 1, 0, 0, []) := rfl
theorem rw_51_3 : mm_code 51 3 = some (.istore_n 3, 1, 0, 0, []) := rfl
theorem rw_51_4 : mm_code 51 4 = some (.iload_n 3, 1, 0, 0, []) := rfl
theorem rw_51_5 : mm_code 51 5 = some (.aload_n 0, 1, 0, 0, []) := rfl
theorem rw_51_6 : mm_code 51 6 = some (.getfield 47, 3, 5, 3, [0, 12]) := rfl
theorem rw_51_9 : mm_code 51 9 = some (.if_icmp .ge 25, 3, 34, 0, []) := rfl
theorem rw_51_12 : mm_code 51 12 = some (.aload_n 0, 1, 0, 0, []) := rfl
theorem rw_51_13 : mm_code 51 13 = some (.getfield 34, 3, 5, 11, [3, 8]) := rfl
theorem rw_51_16 : mm_code 51 16 = some (.iload_n 3, 1, 0, 0, []) := rfl
theorem rw_51_17 : mm_code 51 17 = some (.iaload, 1, 0, 0, []) := rfl
theorem rw_51_18 : mm_code 51 18 = some (.iload_n 1, 1, 0, 0, []) := rfl
theorem rw_51_19 : mm_code 51 19 = some (.if_icmp .ne 9, 3, 28, 0, []) := rfl
theorem rw_51_22 : mm_code 51 22 = some (.iload_n 2, 1, 0, 0, []) := rfl
theorem rw_51_23 : mm_code 51 23 = some (.iconst 1, 1, 1, 0, []) := rfl
theorem rw_51_24 : mm_code 51 24 = some (.iload_n 3, 1, 0, 0, []) := rfl
theorem rw_51_25 : mm_code 51 25 = some (.ishl, 1, 0, 0, []) := rfl
theorem rw_51_26 : mm_code 51 26 = some (.ior, 1, 0, 0, []) := rfl
theorem rw_51_27 : mm_code 51 27 = some (.istore_n 2, 1, 0, 0, []) := rfl
theorem rw_51_28 : mm_code 51 28 = some (.iinc 3 1, 3, 1, 0, []) := rfl
theorem rw_51_31 : mm_code 51 31 = some (.goto (-27), 3, 4, 0, []) := rfl
theorem rw_51_34 : mm_code 51 34 = some (.iload_n 2, 1, 0, 0, []) := rfl
theorem rw_51_35 : mm_code 51 35 = some (.ireturn, 1, 0, 0, []) := rfl
theorem rw_52_0 : mm_code 52 0 = some (.aload_n 0, 1, 0, 0, []) := rfl
theorem rw_52_1 : mm_code 52 1 = some (.getfield 15, 3, 5, 5, [3, 2]) := rfl
theorem rw_52_4 : mm_code 52 4 = some (.aload_n 0, 1, 0, 0, []) := rfl
theorem rw_52_5 : mm_code 52 5 = some (.getfield 44, 3, 5, 2, [0, 11]) := rfl
theorem rw_52_8 : mm_code 52 8 = some (.iload_n 1, 1, 0, 0, []) := rfl
theorem rw_52_9 : mm_code 52 9 = some (.invokestatic 168, 3, 54, 3, [48, 0]) := rfl
theorem rw_52_12 : mm_code 52 12 = some (.ireturn, 1, 0, 0, []) := rfl
theorem rw_53_0 : mm_code 53 0 = some (.aload_n 0, 1, 0, 0, []) := rfl
theorem rw_53_1 : mm_code 53 1 = some (.getfield 31, 3, 5, 10, [3, 7]) := rfl
theorem rw_53_4 : mm_code 53 4 = some (.aload_n 0, 1, 0, 0, []) := rfl
theorem rw_53_5 : mm_code 53 5 = some (.getfield 47, 3, 5, 3, [0, 12]) := rfl
theorem rw_53_8 : mm_code 53 8 = some (.iload_n 1, 1, 0, 0, []) := rfl
theorem rw_53_9 : mm_code 53 9 = some (.invokestatic 168, 3, 54, 3, [48, 0]) := rfl
theorem rw_53_12 : mm_code 53 12 = some (.ireturn, 1, 0, 0, []) := rfl
theorem rw_54_0 : mm_code 54 0 = some (.iconst 0, 1, 0, 0, []) := rfl
theorem rw_54_1 : mm_code 54 1 = some (.istore_n 3, 1, 0, 0, []) := rfl
theorem rw_54_2 : mm_code 54 2 = some (.iload_n 3, 1, 0, 0, []) := rfl
theorem rw_54_3 : mm_code 54 3 = some (.iload_n 1, 1, 0, 0, []) := rfl
theorem rw_54_4 : mm_code 54 4 = some (.if_icmp .ge 24, 3, 28, 0, []) := rfl
theorem rw_54_7 : mm_code 54 7 = some (.iload_n 3, 1, 0, 0, []) := rfl
theorem rw_54_8 : mm_code 54 8 = some (.aload_n 0, 1, 0, 0, []) := rfl
theorem rw_54_9 : mm_code 54 9 = some (.arraylength, 1, 0, 0, []) := rfl
theorem rw_54_10 : mm_code 54 10 = some (.if_icmp .ge 18, 3, 28, 0, []) := rfl
theorem rw_54_13 : mm_code 54 13 = some (.aload_n 0, 1, 0, 0, []) := rfl
theorem rw_54_14 : mm_code 54 14 = some (.iload_n 3, 1, 0, 0, []) := rfl
theorem rw_54_15 : mm_code 54 15 = some (.iaload, 1, 0, 0, []) := rfl
theorem rw_54_16 : mm_code 54 16 = some (.iload_n 2, 1, 0, 0, []) := rfl
theorem rw_54_17 : mm_code 54 17 = some (.if_icmp .ne 5, 3, 22, 0, []) := rfl
theorem rw_54_20 : mm_code 54 20 = some (.iload_n 3, 1, 0, 0, []) := rfl
theorem rw_54_21 : mm_code 54 21 = some (.ireturn, 1, 0, 0, []) := rfl
theorem rw_54_22 : mm_code 54 22 = some (.iinc 3 1, 3, 1, 0, []) := rfl
theorem rw_54_25 : mm_code 54 25 = some (.goto (-23), 3, 2, 0, []) := rfl
theorem rw_54_28 : mm_code 54 28 = some (.iconst (-1), 1, 1, 1, []) := rfl
theorem rw_54_29 : mm_code 54 29 = some (.ireturn, 1, 0, 0, []) := rfl
theorem rw_56_0 : mm_code 56 0 = some (.aload_n 0, 1, 0, 0, []) := rfl
theorem rw_56_1 : mm_code 56 1 = some (.iconst 0, 1, 0, 0, []) := rfl
theorem rw_56_2 : mm_code 56 2 = some (.putfield 24, 3, 6, 4, [0, 5]) := rfl
theorem rw_56_5 : mm_code 56 5 = some (.aload_n 0, 1, 0, 0, []) := rfl
theorem rw_56_6 : mm_code 56 6 = some (.iconst 0, 1, 0, 0, []) := rfl
theorem rw_56_7 : mm_code 56 7 = some (.putfield 28, 3, 6, 5, [0, 6]) := rfl
theorem rw_56_10 : mm_code 56 10 = some (.return_, 1, 0, 0, []) := rfl
theorem rw_57_0 : mm_code 57 0 = some (.aload_n 0, 1, 0, 0, []) := rfl
theorem rw_57_1 : mm_code 57 1 = some (.invokevirtual 31, 3, 56, 1, [7, 0]) := rfl
theorem rw_57_4 : mm_code 57 4 = some (.aload_n 0, 1, 0, 0, []) := rfl
theorem rw_57_5 : mm_code 57 5 = some (.aload_n 1, 1, 0, 0, []) := rfl
theorem rw_57_6 : mm_code 57 6 = some (.aload_n 2, 1, 0, 0, []) := rfl
theorem rw_57_7 : mm_code 57 7 = some (.iconst 0, 1, 0, 0, []) := rfl
theorem rw_57_8 : mm_code 57 8 = some (.invokevirtual 34, 3, 58, 4, [8, 0]) := rfl
theorem rw_57_11 : mm_code 57 11 = some (.ifCond .eq 14, 3, 25, 0, []) := rfl
theorem rw_57_14 : mm_code 57 14 = some (.aload_n 1, 1, 0, 0, []) := rfl
theorem rw_57_15 : mm_code 57 15 = some (.invokevirtual 38, 3, 87, 1, [9, 0]) := rfl
theorem rw_57_18 : mm_code 57 18 = some (.ifCond .eq 7, 3, 25, 0, []) := rfl
theorem rw_57_21 : mm_code 57 21 = some (.iconst 1, 1, 1, 0, []) := rfl
theorem rw_57_22 : mm_code 57 22 = some (.goto 4, 3, 26, 0, []) := rfl
theorem rw_57_25 : mm_code 57 25 = some (.iconst 0, 1, 0, 0, []) := rfl
theorem rw_57_26 : mm_code 57 26 = some (.ireturn, 1, 1, 0, []) := rfl
theorem rw_58_0 : mm_code 58 0 = some (.aload_n 0, 1, 0, 0, []) := rfl
theorem rw_58_1 : mm_code 58 1 = some (.aload_n 1, 1, 0, 0, []) := rfl
theorem rw_58_2 : mm_code 58 2 = some (.aload_n 2, 1, 0, 0, []) := rfl
theorem rw_58_3 : mm_code 58 3 = some (.iload_n 3, 1, 0, 0, []) := rfl
theorem rw_58_4 : mm_code 58 4 = some (.invokevirtual 44, 3, 59, 4, [10, 0]) := rfl
theorem rw_58_7 : mm_code 58 7 = some (.ifCond .ne 5, 3, 12, 0, []) := rfl
theorem rw_58_10 : mm_code 58 10 = some (.iconst 0, 1, 0, 0, []) := rfl
theorem rw_58_11 : mm_code 58 11 = some (.ireturn, 1, 1, 0, []) := rfl
theorem rw_58_12 : mm_code 58 12 = some (.iconst 0, 1, 0, 0, []) := rfl
theorem rw_58_13 : mm_code 58 13 = some (.istore 4, 2, 0, 0, []) := rfl
theorem rw_58_15 : mm_code 58 15 = some (.iload 4, 2, 0, 0, []) := rfl
theorem rw_58_17 : mm_code 58 17 = some (.bipush 40, 2, 40, 0, []) := rfl
theorem rw_58_19 : mm_code 58 19 = some (.if_icmp .gt 45, 3, 64, 0, []) := rfl
theorem rw_58_22 : mm_code 58 22 = some (.aload_n 1, 1, 0, 0, []) := rfl
theorem rw_58_23 : mm_code 58 23 = some (.ldc 47, 2, 522190848, 0, [11]) := rfl
theorem rw_58_25 : mm_code 58 25 = some (.invokevirtual 48, 3, 86, 2, [12, 0]) := rfl
theorem rw_58_28 : mm_code 58 28 = some (.ifCond .eq 36, 3, 64, 0, []) := rfl
theorem rw_58_31 : mm_code 58 31 = some (.aload_n 0, 1, 0, 0, []) := rfl
theorem rw_58_32 : mm_code 58 32 = some (.aload_n 1, 1, 0, 0, []) := rfl
theorem rw_58_33 : mm_code 58 33 = some (.invokevirtual 52, 3, 63, 2, [13, 0]) := rfl
theorem rw_58_36 : mm_code 58 36 = some (.ifCond .eq 13, 3, 49, 0, []) := rfl
theorem rw_58_39 : mm_code 58 39 = some (.aload_n 0, 1, 0, 0, []) := rfl
theorem rw_58_40 : mm_code 58 40 = some (.aload_n 1, 1, 0, 0, []) := rfl
theorem rw_58_41 : mm_code 58 41 = some (.aload_n 2, 1, 0, 0, []) := rfl
theorem rw_58_42 : mm_code 58 42 = some (.iload_n 3, 1, 0, 0, []) := rfl
theorem rw_58_43 : mm_code 58 43 = some (.invokevirtual 44, 3, 59, 4, [10, 0]) := rfl
theorem rw_58_46 : mm_code 58 46 = some (.ifCond .ne 5, 3, 51, 0, []) := rfl
theorem rw_58_49 : mm_code 58 49 = some (.iconst 0, 1, 0, 0, []) := rfl
theorem rw_58_50 : mm_code 58 50 = some (.ireturn, 1, 1, 0, []) := rfl
theorem rw_58_51 : mm_code 58 51 = some (.aload_n 0, 1, 0, 0, []) := rfl
theorem rw_58_52 : mm_code 58 52 = some (.iconst 4, 1, 4, 0, []) := rfl
theorem rw_58_53 : mm_code 58 53 = some (.iconst 0, 1, 0, 0, []) := rfl
theorem rw_58_54 : mm_code 58 54 = some (.iconst 0, 1, 0, 0, []) := rfl
theorem rw_58_55 : mm_code 58 55 = some (.invokevirtual 56, 3, 64, 4, [14, 0]) := rfl
theorem rw_58_58 : mm_code 58 58 = some (.iinc 4 1, 3, 1, 0, []) := rfl
theorem rw_58_61 : mm_code 58 61 = some (.goto (-46), 3, 15, 0, []) := rfl
theorem rw_58_64 : mm_code 58 64 = some (.iconst 1, 1, 1, 0, []) := rfl
theorem rw_58_65 : mm_code 58 65 = some (.ireturn, 1, 1, 0, []) := rfl
theorem rw_59_0 : mm_code 59 0 = some (.aload_n 0, 1, 0, 0, []) := rfl
theorem rw_59_1 : mm_code 59 1 = some (.aload_n 1, 1, 0, 0, []) := rfl
theorem rw_59_2 : mm_code 59 2 = some (.aload_n 2, 1, 0, 0, []) := rfl
theorem rw_59_3 : mm_code 59 3 = some (.iload_n 3, 1, 0, 0, []) := rfl
theorem rw_59_4 : mm_code 59 4 = some (.invokevirtual 60, 3, 60, 4, [15, 0]) := rfl
theorem rw_59_7 : mm_code 59 7 = some (.ifCond .ne 5, 3, 12, 0, []) := rfl
theorem rw_59_10 : mm_code 59 10 = some (.iconst 0, 1, 0, 0, []) := rfl
theorem rw_59_11 : mm_code 59 11 = some (.ireturn, 1, 1, 0, []) := rfl
theorem rw_59_12 : mm_code 59 12 = some (.iconst 0, 1, 0, 0, []) := rfl
theorem rw_59_13 : mm_code 59 13 = some (.istore 4, 2, 0, 0, []) := rfl
theorem rw_59_15 : mm_code 59 15 = some (.iload 4, 2, 0, 0, []) := rfl
theorem rw_59_17 : mm_code 59 17 = some (.bipush 40, 2, 40, 0, []) := rfl
theorem rw_59_19 : mm_code 59 19 = some (.if_icmp .gt 45, 3, 64, 0, []) := rfl
theorem rw_59_22 : mm_code 59 22 = some (.aload_n 1, 1, 0, 0, []) := rfl
theorem rw_59_23 : mm_code 59 23 = some (.ldc 63, 2, 48365568, 0, [16]) := rfl
theorem rw_59_25 : mm_code 59 25 = some (.invokevirtual 48, 3, 86, 2, [12, 0]) := rfl
theorem rw_59_28 : mm_code 59 28 = some (.ifCond .eq 36, 3, 64, 0, []) := rfl
theorem rw_59_31 : mm_code 59 31 = some (.aload_n 0, 1, 0, 0, []) := rfl
theorem rw_59_32 : mm_code 59 32 = some (.aload_n 1, 1, 0, 0, []) := rfl
theorem rw_59_33 : mm_code 59 33 = some (.invokevirtual 52, 3, 63, 2, [13, 0]) := rfl
theorem rw_59_36 : mm_code 59 36 = some (.ifCond .eq 13, 3, 49, 0, []) := rfl
theorem rw_59_39 : mm_code 59 39 = some (.aload_n 0, 1, 0, 0, []) := rfl
theorem rw_59_40 : mm_code 59 40 = some (.aload_n 1, 1, 0, 0, []) := rfl
theorem rw_59_41 : mm_code 59 41 = some (.aload_n 2, 1, 0, 0, []) := rfl
theorem rw_59_42 : mm_code 59 42 = some (.iload_n 3, 1, 0, 0, []) := rfl
theorem rw_59_43 : mm_code 59 43 = some (.invokevirtual 60, 3, 60, 4, [15, 0]) := rfl
theorem rw_59_46 : mm_code 59 46 = some (.ifCond .ne 5, 3, 51, 0, []) := rfl
theorem rw_59_49 : mm_code 59 49 = some (.iconst 0, 1, 0, 0, []) := rfl
theorem rw_59_50 : mm_code 59 50 = some (.ireturn, 1, 1, 0, []) := rfl
theorem rw_59_51 : mm_code 59 51 = some (.aload_n 0, 1, 0, 0, []) := rfl
theorem rw_59_52 : mm_code 59 52 = some (.iconst 3, 1, 3, 0, []) := rfl
theorem rw_59_53 : mm_code 59 53 = some (.iconst 0, 1, 0, 0, []) := rfl
theorem rw_59_54 : mm_code 59 54 = some (.iconst 0, 1, 0, 0, []) := rfl
theorem rw_59_55 : mm_code 59 55 = some (.invokevirtual 56, 3, 64, 4, [14, 0]) := rfl
theorem rw_59_58 : mm_code 59 58 = some (.iinc 4 1, 3, 1, 0, []) := rfl
theorem rw_59_61 : mm_code 59 61 = some (.goto (-46), 3, 15, 0, []) := rfl
theorem rw_59_64 : mm_code 59 64 = some (.iconst 1, 1, 1, 0, []) := rfl
theorem rw_59_65 : mm_code 59 65 = some (.ireturn, 1, 1, 0, []) := rfl
theorem rw_60_0 : mm_code 60 0 = some (.iconst 0, 1, 0, 0, []) := rfl
theorem rw_60_1 : mm_code 60 1 = some (.istore 4, 2, 0, 0, []) := rfl
theorem rw_60_3 : mm_code 60 3 = some (.iload 4, 2, 0, 0, []) := rfl
theorem rw_60_5 : mm_code 60 5 = some (.bipush 40, 2, 40, 0, []) := rfl
theorem rw_60_7 : mm_code 60 7 = some (.if_icmp .gt 28, 3, 35, 0, []) := rfl
theorem rw_60_10 : mm_code 60 10 = some (.aload_n 1, 1, 0, 0, []) := rfl
theorem rw_60_11 : mm_code 60 11 = some (.ldc 64, 2, 486146048, 0, [17]) := rfl
theorem rw_60_13 : mm_code 60 13 = some (.invokevirtual 48, 3, 86, 2, [12, 0]) := rfl
theorem rw_60_16 : mm_code 60 16 = some (.ifCond .eq 19, 3, 35, 0, []) := rfl
theorem rw_60_19 : mm_code 60 19 = some (.aload_n 0, 1, 0, 0, []) := rfl
theorem rw_60_20 : mm_code 60 20 = some (.aload_n 1, 1, 0, 0, []) := rfl
theorem rw_60_21 : mm_code 60 21 = some (.invokevirtual 52, 3, 63, 2, [13, 0]) := rfl
theorem rw_60_24 : mm_code 60 24 = some (.ifCond .ne 5, 3, 29, 0, []) := rfl
theorem rw_60_27 : mm_code 60 27 = some (.iconst 0, 1, 0, 0, []) := rfl
theorem rw_60_28 : mm_code 60 28 = some (.ireturn, 1, 1, 0, []) := rfl
theorem rw_60_29 : mm_code 60 29 = some (.iinc 4 1, 3, 1, 0, []) := rfl
theorem rw_60_32 : mm_code 60 32 = some (.goto (-29), 3, 3, 0, []) := rfl
theorem rw_60_35 : mm_code 60 35 = some (.aload_n 1, 1, 0, 0, []) := rfl
theorem rw_60_36 : mm_code 60 36 = some (.getfield 65, 3, 8, 7, [0, 18]) := rfl
theorem rw_60_39 : mm_code 60 39 = some (.bipush 40, 2, 40, 0, []) := rfl
theorem rw_60_41 : mm_code 60 41 = some (.if_icmp .ne 13, 3, 54, 0, []) := rfl
theorem rw_60_44 : mm_code 60 44 = some (.aload_n 0, 1, 0, 0, []) := rfl
theorem rw_60_45 : mm_code 60 45 = some (.aload_n 1, 1, 0, 0, []) := rfl
theorem rw_60_46 : mm_code 60 46 = some (.aload_n 2, 1, 0, 0, []) := rfl
theorem rw_60_47 : mm_code 60 47 = some (.iload_n 3, 1, 0, 0, []) := rfl
theorem rw_60_48 : mm_code 60 48 = some (.invokevirtual 68, 3, 61, 4, [19, 0]) := rfl
theorem rw_60_51 : mm_code 60 51 = some (.goto 9, 3, 60, 0, []) := rfl
theorem rw_60_54 : mm_code 60 54 = some (.aload_n 0, 1, 0, 0, []) := rfl
theorem rw_60_55 : mm_code 60 55 = some (.aload_n 1, 1, 0, 0, []) := rfl
theorem rw_60_56 : mm_code 60 56 = some (.aload_n 2, 1, 0, 0, []) := rfl
theorem rw_60_57 : mm_code 60 57 = some (.invokevirtual 71, 3, 62, 3, [20, 0]) := rfl
theorem rw_60_60 : mm_code 60 60 = some (.istore 5, 2, 0, 0, []) := rfl
theorem rw_60_62 : mm_code 60 62 = some (.iconst 0, 1, 0, 0, []) := rfl
theorem rw_60_63 : mm_code 60 63 = some (.istore 6, 2, 0, 0, []) := rfl
theorem rw_60_65 : mm_code 60 65 = some (.iload 6, 2, 0, 0, []) := rfl
theorem rw_60_67 : mm_code 60 67 = some (.iload 4, 2, 0, 0, []) := rfl
theorem rw_60_69 : mm_code 60 69 = some (.if_icmp .ge 21, 3, 90, 0, []) := rfl
theorem rw_60_72 : mm_code 60 72 = some (.iload 5, 2, 0, 0, []) := rfl
theorem rw_60_74 : mm_code 60 74 = some (.ifCond .eq 16, 3, 90, 0, []) := rfl
theorem rw_60_77 : mm_code 60 77 = some (.aload_n 0, 1, 0, 0, []) := rfl
theorem rw_60_78 : mm_code 60 78 = some (.iconst 2, 1, 2, 0, []) := rfl
theorem rw_60_79 : mm_code 60 79 = some (.iconst 0, 1, 0, 0, []) := rfl
theorem rw_60_80 : mm_code 60 80 = some (.iconst 0, 1, 0, 0, []) := rfl
theorem rw_60_81 : mm_code 60 81 = some (.invokevirtual 56, 3, 64, 4, [14, 0]) := rfl
theorem rw_60_84 : mm_code 60 84 = some (.iinc 6 1, 3, 1, 0, []) := rfl
theorem rw_60_87 : mm_code 60 87 = some (.goto (-22), 3, 65, 0, []) := rfl
theorem rw_60_90 : mm_code 60 90 = some (.iload 5, 2, 0, 0, []) := rfl
theorem rw_60_92 : mm_code 60 92 = some (.ireturn, 1, 1, 0, []) := rfl
theorem rw_61_0 : mm_code 61 0 = some (.iload_n 3, 1, 0, 0, []) := rfl
theorem rw_61_1 : mm_code 61 1 = some (.bipush 8, 2, 8, 0, []) := rfl
theorem rw_61_3 : mm_code 61 3 = some (.if_icmp .lt 9, 3, 12, 0, []) := rfl
theorem rw_61_6 : mm_code 61 6 = some (.aload_n 1, 1, 0, 0, []) := rfl
theorem rw_61_7 : mm_code 61 7 = some (.iconst 2, 1, 2, 0, []) := rfl
theorem rw_61_8 : mm_code 61 8 = some (.invokevirtual 75, 3, 84, 2, [21, 0]) := rfl
theorem rw_61_11 : mm_code 61 11 = some (.ireturn, 1, 1, 0, []) := rfl
theorem rw_61_12 : mm_code 61 12 = some (.aload_n 1, 1, 0, 0, []) := rfl
theorem rw_61_13 : mm_code 61 13 = some (.invokevirtual 78, 3, 83, 1, [22, 0]) := rfl
theorem rw_61_16 : mm_code 61 16 = some (.aload_n 0, 1, 0, 0, []) := rfl
theorem rw_61_17 : mm_code 61 17 = some (.aload_n 1, 1, 0, 0, []) := rfl
theorem rw_61_18 : mm_code 61 18 = some (.aload_n 2, 1, 0, 0, []) := rfl
theorem rw_61_19 : mm_code 61 19 = some (.iload_n 3, 1, 0, 0, []) := rfl
theorem rw_61_20 : mm_code 61 20 = some (.iconst 1, 1, 1, 0, []) := rfl
theorem rw_61_21 : mm_code 61 21 = some (.iadd, 1, 0, 0, []) := rfl
theorem rw_61_22 : mm_code 61 22 = some (.invokevirtual 34, 3, 58, 4, [8, 0]) := rfl
theorem rw_61_25 : mm_code 61 25 = some (.ifCond .eq 16, 3, 41, 0, []) := rfl
theorem rw_61_28 : mm_code 61 28 = some (.aload_n 1, 1, 0, 0, []) := rfl
theorem rw_61_29 : mm_code 61 29 = some (.bipush 41, 2, 41, 0, []) := rfl
theorem rw_61_31 : mm_code 61 31 = some (.invokevirtual 81, 3, 90, 2, [23, 0]) := rfl
theorem rw_61_34 : mm_code 61 34 = some (.ifCond .eq 7, 3, 41, 0, []) := rfl
theorem rw_61_37 : mm_code 61 37 = some (.iconst 1, 1, 1, 0, []) := rfl
theorem rw_61_38 : mm_code 61 38 = some (.goto 4, 3, 42, 0, []) := rfl
theorem rw_61_41 : mm_code 61 41 = some (.iconst 0, 1, 0, 0, []) := rfl
theorem rw_61_42 : mm_code 61 42 = some (.ireturn, 1, 1, 0, []) := rfl
theorem rw_62_0 : mm_code 62 0 = some (.aload_n 1, 1, 0, 0, []) := rfl
theorem rw_62_1 : mm_code 62 1 = some (.getfield 65, 3, 8, 7, [0, 18]) := rfl
theorem rw_62_4 : mm_code 62 4 = some (.iconst 3, 1, 3, 0, []) := rfl
theorem rw_62_5 : mm_code 62 5 = some (.if_icmp .eq 9, 3, 14, 0, []) := rfl
theorem rw_62_8 : mm_code 62 8 = some (.aload_n 1, 1, 0, 0, []) := rfl
theorem rw_62_9 : mm_code 62 9 = some (.iconst 1, 1, 1, 0, []) := rfl
theorem rw_62_10 : mm_code 62 10 = some (.invokevirtual 75, 3, 84, 2, [21, 0]) := rfl
theorem rw_62_13 : mm_code 62 13 = some (.ireturn, 1, 1, 0, []) := rfl
theorem rw_62_14 : mm_code 62 14 = some (.aload_n 1, 1, 0, 0, []) := rfl
theorem rw_62_15 : mm_code 62 15 = some (.getfield 85, 3, 8, 8, [0, 24]) := rfl
theorem rw_62_18 : mm_code 62 18 = some (.istore_n 3, 1, 0, 0, []) := rfl
theorem rw_62_19 : mm_code 62 19 = some (.aload_n 1, 1, 0, 0, []) := rfl
theorem rw_62_20 : mm_code 62 20 = some (.getfield 88, 3, 8, 9, [0, 25]) := rfl
theorem rw_62_23 : mm_code 62 23 = some (.istore 4, 2, 0, 0, []) := rfl
theorem rw_62_25 : mm_code 62 25 = some (.aload_n 0, 1, 0, 0, []) := rfl
theorem rw_62_26 : mm_code 62 26 = some (.aload_n 1, 1, 0, 0, []) := rfl
theorem rw_62_27 : mm_code 62 27 = some (.invokevirtual 52, 3, 63, 2, [13, 0]) := rfl
theorem rw_62_30 : mm_code 62 30 = some (.ifCond .ne 5, 3, 35, 0, []) := rfl
theorem rw_62_33 : mm_code 62 33 = some (.iconst 0, 1, 0, 0, []) := rfl
theorem rw_62_34 : mm_code 62 34 = some (.ireturn, 1, 1, 0, []) := rfl
theorem rw_62_35 : mm_code 62 35 = some (.aload_n 1, 1, 0, 0, []) := rfl
theorem rw_62_36 : mm_code 62 36 = some (.getfield 65, 3, 8, 7, [0, 18]) := rfl
theorem rw_62_39 : mm_code 62 39 = some (.bipush 61, 2, 61, 0, []) := rfl
theorem rw_62_41 : mm_code 62 41 = some (.if_icmp .ne 7, 3, 48, 0, []) := rfl
theorem rw_62_44 : mm_code 62 44 = some (.iconst 1, 1, 1, 0, []) := rfl
theorem rw_62_45 : mm_code 62 45 = some (.goto 4, 3, 49, 0, []) := rfl
theorem rw_62_48 : mm_code 62 48 = some (.iconst 0, 1, 0, 0, []) := rfl
theorem rw_62_49 : mm_code 62 49 = some (.istore 5, 2, 0, 0, []) := rfl
theorem rw_62_51 : mm_code 62 51 = some (.iload 5, 2, 0, 0, []) := rfl
theorem rw_62_53 : mm_code 62 53 = some (.ifCond .eq 11, 3, 64, 0, []) := rfl
theorem rw_62_56 : mm_code 62 56 = some (.aload_n 2, 1, 0, 0, []) := rfl
theorem rw_62_57 : mm_code 62 57 = some (.iload_n 3, 1, 0, 0, []) := rfl
theorem rw_62_58 : mm_code 62 58 = some (.invokevirtual 91, 3, 52, 2, [26, 0]) := rfl
theorem rw_62_61 : mm_code 62 61 = some (.goto 8, 3, 69, 0, []) := rfl
theorem rw_62_64 : mm_code 62 64 = some (.aload_n 2, 1, 0, 0, []) := rfl
theorem rw_62_65 : mm_code 62 65 = some (.iload_n 3, 1, 0, 0, []) := rfl
theorem rw_62_66 : mm_code 62 66 = some (.invokevirtual 97, 3, 53, 2, [27, 0]) := rfl
theorem rw_62_69 : mm_code 62 69 = some (.istore 6, 2, 0, 0, []) := rfl
theorem rw_62_71 : mm_code 62 71 = some (.iload 6, 2, 0, 0, []) := rfl
theorem rw_62_73 : mm_code 62 73 = some (.iconst (-1), 1, 1, 1, []) := rfl
theorem rw_62_74 : mm_code 62 74 = some (.if_icmp .eq 17, 3, 91, 0, []) := rfl
theorem rw_62_77 : mm_code 62 77 = some (.iload 5, 2, 0, 0, []) := rfl
theorem rw_62_79 : mm_code 62 79 = some (.ifCond .eq 20, 3, 99, 0, []) := rfl
theorem rw_62_82 : mm_code 62 82 = some (.aload_n 2, 1, 0, 0, []) := rfl
theorem rw_62_83 : mm_code 62 83 = some (.iload 6, 2, 0, 0, []) := rfl
theorem rw_62_85 : mm_code 62 85 = some (.invokevirtual 100, 3, 45, 2, [28, 0]) := rfl
theorem rw_62_88 : mm_code 62 88 = some (.ifCond .eq 11, 3, 99, 0, []) := rfl
theorem rw_62_91 : mm_code 62 91 = some (.aload_n 1, 1, 0, 0, []) := rfl
theorem rw_62_92 : mm_code 62 92 = some (.iconst 4, 1, 4, 0, []) := rfl
theorem rw_62_93 : mm_code 62 93 = some (.iload 4, 2, 0, 0, []) := rfl
theorem rw_62_95 : mm_code 62 95 = some (.invokevirtual 103, 3, 85, 3, [29, 0]) := rfl
theorem rw_62_98 : mm_code 62 98 = some (.ireturn, 1, 1, 0, []) := rfl
theorem rw_62_99 : mm_code 62 99 = some (.iload 5, 2, 0, 0, []) := rfl
theorem rw_62_101 : mm_code 62 101 = some (.ifCond .ne 13, 3, 114, 0, []) := rfl
theorem rw_62_104 : mm_code 62 104 = some (.aload_n 0, 1, 0, 0, []) := rfl
theorem rw_62_105 : mm_code 62 105 = some (.iconst 1, 1, 1, 0, []) := rfl
theorem rw_62_106 : mm_code 62 106 = some (.iload 6, 2, 0, 0, []) := rfl
theorem rw_62_108 : mm_code 62 108 = some (.iconst 0, 1, 0, 0, []) := rfl
theorem rw_62_109 : mm_code 62 109 = some (.invokevirtual 56, 3, 64, 4, [14, 0]) := rfl
theorem rw_62_112 : mm_code 62 112 = some (.iconst 1, 1, 1, 0, []) := rfl
theorem rw_62_113 : mm_code 62 113 = some (.ireturn, 1, 1, 0, []) := rfl
theorem rw_62_114 : mm_code 62 114 = some (.aload_n 1, 1, 0, 0, []) := rfl
theorem rw_62_115 : mm_code 62 115 = some (.invokevirtual 78, 3, 83, 1, [22, 0]) := rfl
theorem rw_62_118 : mm_code 62 118 = some (.aload_n 1, 1, 0, 0, []) := rfl
theorem rw_62_119 : mm_code 62 119 = some (.iconst 0, 1, 0, 0, []) := rfl
theorem rw_62_120 : mm_code 62 120 = some (.aload_n 2, 1, 0, 0, []) := rfl
theorem rw_62_121 : mm_code 62 121 = some (.getfield 107, 3, 5, 9, [3, 30]) := rfl
theorem rw_62_124 : mm_code 62 124 = some (.iload 6, 2, 0, 0, []) := rfl
theorem rw_62_126 : mm_code 62 126 = some (.iaload, 1, 0, 0, []) := rfl
theorem rw_62_127 : mm_code 62 127 = some (.iconst 1, 1, 1, 0, []) := rfl
theorem rw_62_128 : mm_code 62 128 = some (.isub, 1, 0, 0, []) := rfl
theorem rw_62_129 : mm_code 62 129 = some (.invokevirtual 110, 3, 88, 3, [31, 0]) := rfl
theorem rw_62_132 : mm_code 62 132 = some (.ifCond .ne 5, 3, 137, 0, []) := rfl
theorem rw_62_135 : mm_code 62 135 = some (.iconst 0, 1, 0, 0, []) := rfl
theorem rw_62_136 : mm_code 62 136 = some (.ireturn, 1, 1, 0, []) := rfl
theorem rw_62_137 : mm_code 62 137 = some (.aload_n 0, 1, 0, 0, []) := rfl
theorem rw_62_138 : mm_code 62 138 = some (.iconst 0, 1, 0, 0, []) := rfl
theorem rw_62_139 : mm_code 62 139 = some (.iload 6, 2, 0, 0, []) := rfl
theorem rw_62_141 : mm_code 62 141 = some (.aload_n 1, 1, 0, 0, []) := rfl
theorem rw_62_142 : mm_code 62 142 = some (.getfield 85, 3, 8, 8, [0, 24]) := rfl
theorem rw_62_145 : mm_code 62 145 = some (.invokevirtual 56, 3, 64, 4, [14, 0]) := rfl
theorem rw_62_148 : mm_code 62 148 = some (.aload_n 1, 1, 0, 0, []) := rfl
theorem rw_62_149 : mm_code 62 149 = some (.invokevirtual 78, 3, 83, 1, [22, 0]) := rfl
theorem rw_62_152 : mm_code 62 152 = some (.iconst 1, 1, 1, 0, []) := rfl
theorem rw_62_153 : mm_code 62 153 = some (.ireturn, 1, 1, 0, []) := rfl
theorem rw_63_0 : mm_code 63 0 = some (.aload_n 0, 1, 0, 0, []) := rfl
theorem rw_63_1 : mm_code 63 1 = some (.getfield 24, 3, 6, 4, [0, 5]) := rfl
theorem rw_63_4 : mm_code 63 4 = some (.bipush 40, 2, 40, 0, []) := rfl
theorem rw_63_6 : mm_code 63 6 = some (.if_icmp .lt 9, 3, 15, 0, []) := rfl
theorem rw_63_9 : mm_code 63 9 = some (.aload_n 1, 1, 0, 0, []) := rfl
theorem rw_63_10 : mm_code 63 10 = some (.iconst 2, 1, 2, 0, []) := rfl
theorem rw_63_11 : mm_code 63 11 = some (.invokevirtual 75, 3, 84, 2, [21, 0]) := rfl
theorem rw_63_14 : mm_code 63 14 = some (.ireturn, 1, 1, 0, []) := rfl
theorem rw_63_15 : mm_code 63 15 = some (.aload_n 0, 1, 0, 0, []) := rfl
theorem rw_63_16 : mm_code 63 16 = some (.dup, 1, 0, 0, []) := rfl
theorem rw_63_17 : mm_code 63 17 = some (.getfield 24, 3, 6, 4, [0, 5]) := rfl
theorem rw_63_20 : mm_code 63 20 = some (.iconst 1, 1, 1, 0, []) := rfl
theorem rw_63_21 : mm_code 63 21 = some (.iadd, 1, 0, 0, []) := rfl
theorem rw_63_22 : mm_code 63 22 = some (.putfield 24, 3, 6, 4, [0, 5]) := rfl
theorem rw_63_25 : mm_code 63 25 = some (.aload_n 1, 1, 0, 0, []) := rfl
theorem rw_63_26 : mm_code 63 26 = some (.invokevirtual 78, 3, 83, 1, [22, 0]) := rfl
theorem rw_63_29 : mm_code 63 29 = some (.iconst 1, 1, 1, 0, []) := rfl
theorem rw_63_30 : mm_code 63 30 = some (.ireturn, 1, 1, 0, []) := rfl
theorem rw_64_0 : mm_code 64 0 = some (.aload_n 0, 1, 0, 0, []) := rfl
theorem rw_64_1 : mm_code 64 1 = some (.getfield 28, 3, 6, 5, [0, 6]) := rfl
theorem rw_64_4 : mm_code 64 4 = some (.bipush 40, 2, 40, 0, []) := rfl
theorem rw_64_6 : mm_code 64 6 = some (.if_icmp .ge 43, 3, 49, 0, []) := rfl
theorem rw_64_9 : mm_code 64 9 = some (.aload_n 0, 1, 0, 0, []) := rfl
theorem rw_64_10 : mm_code 64 10 = some (.getfield 9, 3, 6, 0, [3, 1]) := rfl
theorem rw_64_13 : mm_code 64 13 = some (.aload_n 0, 1, 0, 0, []) := rfl
theorem rw_64_14 : mm_code 64 14 = some (.getfield 28, 3, 6, 5, [0, 6]) := rfl
theorem rw_64_17 : mm_code 64 17 = some (.iload_n 1, 1, 0, 0, []) := rfl
theorem rw_64_18 : mm_code 64 18 = some (.iastore, 1, 0, 0, []) := rfl
theorem rw_64_19 : mm_code 64 19 = some (.aload_n 0, 1, 0, 0, []) := rfl
theorem rw_64_20 : mm_code 64 20 = some (.getfield 15, 3, 6, 1, [3, 2]) := rfl
theorem rw_64_23 : mm_code 64 23 = some (.aload_n 0, 1, 0, 0, []) := rfl
theorem rw_64_24 : mm_code 64 24 = some (.getfield 28, 3, 6, 5, [0, 6]) := rfl
theorem rw_64_27 : mm_code 64 27 = some (.iload_n 2, 1, 0, 0, []) := rfl
theorem rw_64_28 : mm_code 64 28 = some (.iastore, 1, 0, 0, []) := rfl
theorem rw_64_29 : mm_code 64 29 = some (.aload_n 0, 1, 0, 0, []) := rfl
theorem rw_64_30 : mm_code 64 30 = some (.getfield 18, 3, 6, 2, [3, 3]) := rfl
theorem rw_64_33 : mm_code 64 33 = some (.aload_n 0, 1, 0, 0, []) := rfl
theorem rw_64_34 : mm_code 64 34 = some (.getfield 28, 3, 6, 5, [0, 6]) := rfl
theorem rw_64_37 : mm_code 64 37 = some (.iload_n 3, 1, 0, 0, []) := rfl
theorem rw_64_38 : mm_code 64 38 = some (.iastore, 1, 0, 0, []) := rfl
theorem rw_64_39 : mm_code 64 39 = some (.aload_n 0, 1, 0, 0, []) := rfl
theorem rw_64_40 : mm_code 64 40 = some (.dup, 1, 0, 0, []) := rfl
theorem rw_64_41 : mm_code 64 41 = some (.getfield 28, 3, 6, 5, [0, 6]) := rfl
theorem rw_64_44 : mm_code 64 44 = some (.iconst 1, 1, 1, 0, []) := rfl
theorem rw_64_45 : mm_code 64 45 = some (.iadd, 1, 0, 0, []) := rfl
theorem rw_64_46 : mm_code 64 46 = some (.putfield 28, 3, 6, 5, [0, 6]) := rfl
theorem rw_64_49 : mm_code 64 49 = some (.return_, 1, 0, 0, []) := rfl
theorem rw_65_0 : mm_code 65 0 = some (.iconst 0, 1, 0, 0, []) := rfl
theorem rw_65_1 : mm_code 65 1 = some (.iload_n 3, 1, 0, 0, []) := rfl
theorem rw_65_2 : mm_code 65 2 = some (.iconst 1, 1, 1, 0, []) := rfl
theorem rw_65_3 : mm_code 65 3 = some (.isub, 1, 0, 0, []) := rfl
theorem rw_65_4 : mm_code 65 4 = some (.invokestatic 113, 3, 144, 2, [3, 1]) := rfl
theorem rw_65_7 : mm_code 65 7 = some (.l2i, 1, 0, 0, []) := rfl
theorem rw_65_8 : mm_code 65 8 = some (.istore 5, 2, 0, 0, []) := rfl
theorem rw_65_10 : mm_code 65 10 = some (.iconst (-1), 1, 1, 1, []) := rfl
theorem rw_65_11 : mm_code 65 11 = some (.istore 6, 2, 0, 0, []) := rfl
theorem rw_65_13 : mm_code 65 13 = some (.iconst 0, 1, 0, 0, []) := rfl
theorem rw_65_14 : mm_code 65 14 = some (.istore 7, 2, 0, 0, []) := rfl
theorem rw_65_16 : mm_code 65 16 = some (.iload 7, 2, 0, 0, []) := rfl
theorem rw_65_18 : mm_code 65 18 = some (.aload_n 0, 1, 0, 0, []) := rfl
theorem rw_65_19 : mm_code 65 19 = some (.getfield 28, 3, 6, 5, [0, 6]) := rfl
theorem rw_65_22 : mm_code 65 22 = some (.if_icmp .ge 174, 3, 196, 0, []) := rfl
theorem rw_65_25 : mm_code 65 25 = some (.aload_n 0, 1, 0, 0, []) := rfl
theorem rw_65_26 : mm_code 65 26 = some (.getfield 9, 3, 6, 0, [3, 1]) := rfl
theorem rw_65_29 : mm_code 65 29 = some (.iload 7, 2, 0, 0, []) := rfl
theorem rw_65_31 : mm_code 65 31 = some (.iaload, 1, 0, 0, []) := rfl
theorem rw_65_32 : mm_code 65 32 = some (.ifCond .eq 14, 3, 46, 0, []) := rfl
theorem rw_65_35 : mm_code 65 35 = some (.aload_n 0, 1, 0, 0, []) := rfl
theorem rw_65_36 : mm_code 65 36 = some (.getfield 9, 3, 6, 0, [3, 1]) := rfl
theorem rw_65_39 : mm_code 65 39 = some (.iload 7, 2, 0, 0, []) := rfl
theorem rw_65_41 : mm_code 65 41 = some (.iaload, 1, 0, 0, []) := rfl
theorem rw_65_42 : mm_code 65 42 = some (.iconst 1, 1, 1, 0, []) := rfl
theorem rw_65_43 : mm_code 65 43 = some (.if_icmp .ne 41, 3, 84, 0, []) := rfl
theorem rw_65_46 : mm_code 65 46 = some (.iinc 6 1, 3, 1, 0, []) := rfl
theorem rw_65_49 : mm_code 65 49 = some (.aload_n 0, 1, 0, 0, []) := rfl
theorem rw_65_50 : mm_code 65 50 = some (.getfield 21, 3, 6, 3, [3, 4]) := rfl
theorem rw_65_53 : mm_code 65 53 = some (.iload 6, 2, 0, 0, []) := rfl
theorem rw_65_55 : mm_code 65 55 = some (.iload 4, 2, 0, 0, []) := rfl
theorem rw_65_57 : mm_code 65 57 = some (.ifCond .eq 14, 3, 71, 0, []) := rfl
theorem rw_65_60 : mm_code 65 60 = some (.aload_n 0, 1, 0, 0, []) := rfl
theorem rw_65_61 : mm_code 65 61 = some (.aload_n 2, 1, 0, 0, []) := rfl
theorem rw_65_62 : mm_code 65 62 = some (.iload_n 3, 1, 0, 0, []) := rfl
theorem rw_65_63 : mm_code 65 63 = some (.iload 7, 2, 0, 0, []) := rfl
theorem rw_65_65 : mm_code 65 65 = some (.invokevirtual 117, 3, 67, 4, [32, 0]) := rfl
theorem rw_65_68 : mm_code 65 68 = some (.goto 12, 3, 80, 0, []) := rfl
theorem rw_65_71 : mm_code 65 71 = some (.aload_n 0, 1, 0, 0, []) := rfl
theorem rw_65_72 : mm_code 65 72 = some (.aload_n 1, 1, 0, 0, []) := rfl
theorem rw_65_73 : mm_code 65 73 = some (.aload_n 2, 1, 0, 0, []) := rfl
theorem rw_65_74 : mm_code 65 74 = some (.iload_n 3, 1, 0, 0, []) := rfl
theorem rw_65_75 : mm_code 65 75 = some (.iload 7, 2, 0, 0, []) := rfl
theorem rw_65_77 : mm_code 65 77 = some (.invokevirtual 121, 3, 66, 5, [33, 0]) := rfl
theorem rw_65_80 : mm_code 65 80 = some (.iastore, 1, 0, 0, []) := rfl
theorem rw_65_81 : mm_code 65 81 = some (.goto 109, 3, 190, 0, []) := rfl
theorem rw_65_84 : mm_code 65 84 = some (.aload_n 0, 1, 0, 0, []) := rfl
theorem rw_65_85 : mm_code 65 85 = some (.getfield 9, 3, 6, 0, [3, 1]) := rfl
theorem rw_65_88 : mm_code 65 88 = some (.iload 7, 2, 0, 0, []) := rfl
theorem rw_65_90 : mm_code 65 90 = some (.iaload, 1, 0, 0, []) := rfl
theorem rw_65_91 : mm_code 65 91 = some (.iconst 2, 1, 2, 0, []) := rfl
theorem rw_65_92 : mm_code 65 92 = some (.if_icmp .ne 30, 3, 122, 0, []) := rfl
theorem rw_65_95 : mm_code 65 95 = some (.iload 6, 2, 0, 0, []) := rfl
theorem rw_65_97 : mm_code 65 97 = some (.ifCond .lt 25, 3, 122, 0, []) := rfl
theorem rw_65_100 : mm_code 65 100 = some (.aload_n 0, 1, 0, 0, []) := rfl
theorem rw_65_101 : mm_code 65 101 = some (.getfield 21, 3, 6, 3, [3, 4]) := rfl
theorem rw_65_104 : mm_code 65 104 = some (.iload 6, 2, 0, 0, []) := rfl
theorem rw_65_106 : mm_code 65 106 = some (.iload 5, 2, 0, 0, []) := rfl
theorem rw_65_108 : mm_code 65 108 = some (.aload_n 0, 1, 0, 0, []) := rfl
theorem rw_65_109 : mm_code 65 109 = some (.getfield 21, 3, 6, 3, [3, 4]) := rfl
theorem rw_65_112 : mm_code 65 112 = some (.iload 6, 2, 0, 0, []) := rfl
theorem rw_65_114 : mm_code 65 114 = some (.iaload, 1, 0, 0, []) := rfl
theorem rw_65_115 : mm_code 65 115 = some (.iconst (-1), 1, 1, 1, []) := rfl
theorem rw_65_116 : mm_code 65 116 = some (.ixor, 1, 0, 0, []) := rfl
theorem rw_65_117 : mm_code 65 117 = some (.iand, 1, 0, 0, []) := rfl
theorem rw_65_118 : mm_code 65 118 = some (.iastore, 1, 0, 0, []) := rfl
theorem rw_65_119 : mm_code 65 119 = some (.goto 71, 3, 190, 0, []) := rfl
theorem rw_65_122 : mm_code 65 122 = some (.iload 6, 2, 0, 0, []) := rfl
theorem rw_65_124 : mm_code 65 124 = some (.iconst 1, 1, 1, 0, []) := rfl
theorem rw_65_125 : mm_code 65 125 = some (.if_icmp .lt 65, 3, 190, 0, []) := rfl
theorem rw_65_128 : mm_code 65 128 = some (.aload_n 0, 1, 0, 0, []) := rfl
theorem rw_65_129 : mm_code 65 129 = some (.getfield 9, 3, 6, 0, [3, 1]) := rfl
theorem rw_65_132 : mm_code 65 132 = some (.iload 7, 2, 0, 0, []) := rfl
theorem rw_65_134 : mm_code 65 134 = some (.iaload, 1, 0, 0, []) := rfl
theorem rw_65_135 : mm_code 65 135 = some (.iconst 3, 1, 3, 0, []) := rfl
theorem rw_65_136 : mm_code 65 136 = some (.if_icmp .ne 23, 3, 159, 0, []) := rfl
theorem rw_65_139 : mm_code 65 139 = some (.aload_n 0, 1, 0, 0, []) := rfl
theorem rw_65_140 : mm_code 65 140 = some (.getfield 21, 3, 6, 3, [3, 4]) := rfl
theorem rw_65_143 : mm_code 65 143 = some (.iload 6, 2, 0, 0, []) := rfl
theorem rw_65_145 : mm_code 65 145 = some (.iconst 1, 1, 1, 0, []) := rfl
theorem rw_65_146 : mm_code 65 146 = some (.isub, 1, 0, 0, []) := rfl
theorem rw_65_147 : mm_code 65 147 = some (.iaload, 1, 0, 0, []) := rfl
theorem rw_65_148 : mm_code 65 148 = some (.aload_n 0, 1, 0, 0, []) := rfl
theorem rw_65_149 : mm_code 65 149 = some (.getfield 21, 3, 6, 3, [3, 4]) := rfl
theorem rw_65_152 : mm_code 65 152 = some (.iload 6, 2, 0, 0, []) := rfl
theorem rw_65_154 : mm_code 65 154 = some (.iaload, 1, 0, 0, []) := rfl
theorem rw_65_155 : mm_code 65 155 = some (.iand, 1, 0, 0, []) := rfl
theorem rw_65_156 : mm_code 65 156 = some (.goto 20, 3, 176, 0, []) := rfl
theorem rw_65_159 : mm_code 65 159 = some (.aload_n 0, 1, 0, 0, []) := rfl
theorem rw_65_160 : mm_code 65 160 = some (.getfield 21, 3, 6, 3, [3, 4]) := rfl
theorem rw_65_163 : mm_code 65 163 = some (.iload 6, 2, 0, 0, []) := rfl
theorem rw_65_165 : mm_code 65 165 = some (.iconst 1, 1, 1, 0, []) := rfl
theorem rw_65_166 : mm_code 65 166 = some (.isub, 1, 0, 0, []) := rfl
theorem rw_65_167 : mm_code 65 167 = some (.iaload, 1, 0, 0, []) := rfl
theorem rw_65_168 : mm_code 65 168 = some (.aload_n 0, 1, 0, 0, []) := rfl
theorem rw_65_169 : mm_code 65 169 = some (.getfield 21, 3, 6, 3, [3, 4]) := rfl
theorem rw_65_172 : mm_code 65 172 = some (.iload 6, 2, 0, 0, []) := rfl
theorem rw_65_174 : mm_code 65 174 = some (.iaload, 1, 0, 0, []) := rfl
theorem rw_65_175 : mm_code 65 175 = some (.ior, 1, 0, 0, []) := rfl
theorem rw_65_176 : mm_code 65 176 = some (.istore 8, 2, 0, 0, []) := rfl
theorem rw_65_178 : mm_code 65 178 = some (.iinc 6 (-1), 3, 1, 1, []) := rfl
theorem rw_65_181 : mm_code 65 181 = some (.aload_n 0, 1, 0, 0, []) := rfl
theorem rw_65_182 : mm_code 65 182 = some (.getfield 21, 3, 6, 3, [3, 4]) := rfl
theorem rw_65_185 : mm_code 65 185 = some (.iload 6, 2, 0, 0, []) := rfl
theorem rw_65_187 : mm_code 65 187 = some (.iload 8, 2, 0, 0, []) := rfl
theorem rw_65_189 : mm_code 65 189 = some (.iastore, 1, 0, 0, []) := rfl
theorem rw_65_190 : mm_code 65 190 = some (.iinc 7 1, 3, 1, 0, []) := rfl
theorem rw_65_193 : mm_code 65 193 = some (.goto (-177), 3, 16, 0, []) := rfl
theorem rw_65_196 : mm_code 65 196 = some (.iload 6, 2, 0, 0, []) := rfl
theorem rw_65_198 : mm_code 65 198 = some (.ifCond .lt 12, 3, 210, 0, []) := rfl
theorem rw_65_201 : mm_code 65 201 = some (.aload_n 0, 1, 0, 0, []) := rfl
theorem rw_65_202 : mm_code 65 202 = some (.getfield 21, 3, 6, 3, [3, 4]) := rfl
theorem rw_65_205 : mm_code 65 205 = some (.iconst 0, 1, 0, 0, []) := rfl
theorem rw_65_206 : mm_code 65 206 = some (.iaload, 1, 0, 0, []) := rfl
theorem rw_65_207 : mm_code 65 207 = some (.goto 4, 3, 211, 0, []) := rfl
theorem rw_65_210 : mm_code 65 210 = some (.iconst 0, 1, 0, 0, []) := rfl
theorem rw_65_211 : mm_code 65 211 = some (.ireturn, 1, 0, 0, []) := rfl
theorem rw_66_0 : mm_code 66 0 = some (.aload_n 0, 1, 0, 0, []) := rfl
theorem rw_66_1 : mm_code 66 1 = some (.getfield 9, 3, 6, 0, [3, 1]) := rfl
theorem rw_66_4 : mm_code 66 4 = some (.iload 4, 2, 0, 0, []) := rfl
theorem rw_66_6 : mm_code 66 6 = some (.iaload, 1, 0, 0, []) := rfl
theorem rw_66_7 : mm_code 66 7 = some (.iconst 1, 1, 1, 0, []) := rfl
theorem rw_66_8 : mm_code 66 8 = some (.if_icmp .ne 7, 3, 15, 0, []) := rfl
theorem rw_66_11 : mm_code 66 11 = some (.iconst 1, 1, 1, 0, []) := rfl
theorem rw_66_12 : mm_code 66 12 = some (.goto 4, 3, 16, 0, []) := rfl
theorem rw_66_15 : mm_code 66 15 = some (.iconst 0, 1, 0, 0, []) := rfl
theorem rw_66_16 : mm_code 66 16 = some (.istore 5, 2, 0, 0, []) := rfl
theorem rw_66_18 : mm_code 66 18 = some (.iload 5, 2, 0, 0, []) := rfl
theorem rw_66_20 : mm_code 66 20 = some (.ifCond .eq 18, 3, 38, 0, []) := rfl
theorem rw_66_23 : mm_code 66 23 = some (.aload_n 2, 1, 0, 0, []) := rfl
theorem rw_66_24 : mm_code 66 24 = some (.getfield 125, 3, 1, 3, [3, 34]) := rfl
theorem rw_66_27 : mm_code 66 27 = some (.aload_n 0, 1, 0, 0, []) := rfl
theorem rw_66_28 : mm_code 66 28 = some (.getfield 15, 3, 6, 1, [3, 2]) := rfl
theorem rw_66_31 : mm_code 66 31 = some (.iload 4, 2, 0, 0, []) := rfl
theorem rw_66_33 : mm_code 66 33 = some (.iaload, 1, 0, 0, []) := rfl
theorem rw_66_34 : mm_code 66 34 = some (.laload, 1, 0, 0, []) := rfl
theorem rw_66_35 : mm_code 66 35 = some (.goto 21, 3, 56, 0, []) := rfl
theorem rw_66_38 : mm_code 66 38 = some (.aload_n 1, 1, 0, 0, []) := rfl
theorem rw_66_39 : mm_code 66 39 = some (.aload_n 0, 1, 0, 0, []) := rfl
theorem rw_66_40 : mm_code 66 40 = some (.getfield 15, 3, 6, 1, [3, 2]) := rfl
theorem rw_66_43 : mm_code 66 43 = some (.iload 4, 2, 0, 0, []) := rfl
theorem rw_66_45 : mm_code 66 45 = some (.iaload, 1, 0, 0, []) := rfl
theorem rw_66_46 : mm_code 66 46 = some (.aload_n 0, 1, 0, 0, []) := rfl
theorem rw_66_47 : mm_code 66 47 = some (.getfield 18, 3, 6, 2, [3, 3]) := rfl
theorem rw_66_50 : mm_code 66 50 = some (.iload 4, 2, 0, 0, []) := rfl
theorem rw_66_52 : mm_code 66 52 = some (.iaload, 1, 0, 0, []) := rfl
theorem rw_66_53 : mm_code 66 53 = some (.invokevirtual 131, 3, 49, 3, [35, 0]) := rfl
theorem rw_66_56 : mm_code 66 56 = some (.lstore 6, 2, 0, 0, []) := rfl
theorem rw_66_58 : mm_code 66 58 = some (.iconst 0, 1, 0, 0, []) := rfl
theorem rw_66_59 : mm_code 66 59 = some (.istore 8, 2, 0, 0, []) := rfl
theorem rw_66_61 : mm_code 66 61 = some (.iconst 0, 1, 0, 0, []) := rfl
theorem rw_66_62 : mm_code 66 62 = some (.istore 9, 2, 0, 0, []) := rfl
theorem rw_66_64 : mm_code 66 64 = some (.iload 9, 2, 0, 0, []) := rfl
theorem rw_66_66 : mm_code 66 66 = some (.iload_n 3, 1, 0, 0, []) := rfl
theorem rw_66_67 : mm_code 66 67 = some (.if_icmp .ge 29, 3, 96, 0, []) := rfl
theorem rw_66_70 : mm_code 66 70 = some (.aload_n 2, 1, 0, 0, []) := rfl
theorem rw_66_71 : mm_code 66 71 = some (.iload 9, 2, 0, 0, []) := rfl
theorem rw_66_73 : mm_code 66 73 = some (.lload 6, 2, 0, 0, []) := rfl
theorem rw_66_75 : mm_code 66 75 = some (.invokevirtual 134, 3, 14, 3, [36, 0]) := rfl
theorem rw_66_78 : mm_code 66 78 = some (.ifCond .eq 12, 3, 90, 0, []) := rfl
theorem rw_66_81 : mm_code 66 81 = some (.iload 8, 2, 0, 0, []) := rfl
theorem rw_66_83 : mm_code 66 83 = some (.iconst 1, 1, 1, 0, []) := rfl
theorem rw_66_84 : mm_code 66 84 = some (.iload 9, 2, 0, 0, []) := rfl
theorem rw_66_86 : mm_code 66 86 = some (.ishl, 1, 0, 0, []) := rfl
theorem rw_66_87 : mm_code 66 87 = some (.ior, 1, 0, 0, []) := rfl
theorem rw_66_88 : mm_code 66 88 = some (.istore 8, 2, 0, 0, []) := rfl
theorem rw_66_90 : mm_code 66 90 = some (.iinc 9 1, 3, 1, 0, []) := rfl
theorem rw_66_93 : mm_code 66 93 = some (.goto (-29), 3, 64, 0, []) := rfl
theorem rw_66_96 : mm_code 66 96 = some (.iload 8, 2, 0, 0, []) := rfl
theorem rw_66_98 : mm_code 66 98 = some (.ireturn, 1, 0, 0, []) := rfl
theorem rw_67_0 : mm_code 67 0 = some (.aload_n 0, 1, 0, 0, []) := rfl
theorem rw_67_1 : mm_code 67 1 = some (.getfield 9, 3, 6, 0, [3, 1]) := rfl
theorem rw_67_4 : mm_code 67 4 = some (.iload_n 3, 1, 0, 0, []) := rfl
theorem rw_67_5 : mm_code 67 5 = some (.iaload, 1, 0, 0, []) := rfl
theorem rw_67_6 : mm_code 67 6 = some (.iconst 1, 1, 1, 0, []) := rfl
theorem rw_67_7 : mm_code 67 7 = some (.if_icmp .ne 7, 3, 14, 0, []) := rfl
theorem rw_67_10 : mm_code 67 10 = some (.iconst 1, 1, 1, 0, []) := rfl
theorem rw_67_11 : mm_code 67 11 = some (.goto 4, 3, 15, 0, []) := rfl
theorem rw_67_14 : mm_code 67 14 = some (.iconst 0, 1, 0, 0, []) := rfl
theorem rw_67_15 : mm_code 67 15 = some (.istore 4, 2, 0, 0, []) := rfl
theorem rw_67_17 : mm_code 67 17 = some (.iconst 0, 1, 0, 0, []) := rfl
theorem rw_67_18 : mm_code 67 18 = some (.istore 5, 2, 0, 0, []) := rfl
theorem rw_67_20 : mm_code 67 20 = some (.iconst 0, 1, 0, 0, []) := rfl
theorem rw_67_21 : mm_code 67 21 = some (.istore 6, 2, 0, 0, []) := rfl
theorem rw_67_23 : mm_code 67 23 = some (.iload 6, 2, 0, 0, []) := rfl
theorem rw_67_25 : mm_code 67 25 = some (.iload_n 2, 1, 0, 0, []) := rfl
theorem rw_67_26 : mm_code 67 26 = some (.if_icmp .ge 71, 3, 97, 0, []) := rfl
theorem rw_67_29 : mm_code 67 29 = some (.iload 4, 2, 0, 0, []) := rfl
theorem rw_67_31 : mm_code 67 31 = some (.ifCond .eq 18, 3, 49, 0, []) := rfl
theorem rw_67_34 : mm_code 67 34 = some (.aload_n 1, 1, 0, 0, []) := rfl
theorem rw_67_35 : mm_code 67 35 = some (.iload 6, 2, 0, 0, []) := rfl
theorem rw_67_37 : mm_code 67 37 = some (.aload_n 0, 1, 0, 0, []) := rfl
theorem rw_67_38 : mm_code 67 38 = some (.getfield 15, 3, 6, 1, [3, 2]) := rfl
theorem rw_67_41 : mm_code 67 41 = some (.iload_n 3, 1, 0, 0, []) := rfl
theorem rw_67_42 : mm_code 67 42 = some (.iaload, 1, 0, 0, []) := rfl
theorem rw_67_43 : mm_code 67 43 = some (.invokevirtual 138, 3, 13, 3, [37, 0]) := rfl
theorem rw_67_46 : mm_code 67 46 = some (.goto 29, 3, 75, 0, []) := rfl
theorem rw_67_49 : mm_code 67 49 = some (.aload_n 1, 1, 0, 0, []) := rfl
theorem rw_67_50 : mm_code 67 50 = some (.iload 6, 2, 0, 0, []) := rfl
theorem rw_67_52 : mm_code 67 52 = some (.aload_n 0, 1, 0, 0, []) := rfl
theorem rw_67_53 : mm_code 67 53 = some (.getfield 15, 3, 6, 1, [3, 2]) := rfl
theorem rw_67_56 : mm_code 67 56 = some (.iload_n 3, 1, 0, 0, []) := rfl
theorem rw_67_57 : mm_code 67 57 = some (.iaload, 1, 0, 0, []) := rfl
theorem rw_67_58 : mm_code 67 58 = some (.invokevirtual 141, 3, 12, 3, [38, 0]) := rfl
theorem rw_67_61 : mm_code 67 61 = some (.aload_n 0, 1, 0, 0, []) := rfl
theorem rw_67_62 : mm_code 67 62 = some (.getfield 18, 3, 6, 2, [3, 3]) := rfl
theorem rw_67_65 : mm_code 67 65 = some (.iload_n 3, 1, 0, 0, []) := rfl
theorem rw_67_66 : mm_code 67 66 = some (.iaload, 1, 0, 0, []) := rfl
theorem rw_67_67 : mm_code 67 67 = some (.if_icmp .ne 7, 3, 74, 0, []) := rfl
theorem rw_67_70 : mm_code 67 70 = some (.iconst 1, 1, 1, 0, []) := rfl
theorem rw_67_71 : mm_code 67 71 = some (.goto 4, 3, 75, 0, []) := rfl
theorem rw_67_74 : mm_code 67 74 = some (.iconst 0, 1, 0, 0, []) := rfl
theorem rw_67_75 : mm_code 67 75 = some (.istore 7, 2, 0, 0, []) := rfl
theorem rw_67_77 : mm_code 67 77 = some (.iload 7, 2, 0, 0, []) := rfl
theorem rw_67_79 : mm_code 67 79 = some (.ifCond .eq 12, 3, 91, 0, []) := rfl
theorem rw_67_82 : mm_code 67 82 = some (.iload 5, 2, 0, 0, []) := rfl
theorem rw_67_84 : mm_code 67 84 = some (.iconst 1, 1, 1, 0, []) := rfl
theorem rw_67_85 : mm_code 67 85 = some (.iload 6, 2, 0, 0, []) := rfl
theorem rw_67_87 : mm_code 67 87 = some (.ishl, 1, 0, 0, []) := rfl
theorem rw_67_88 : mm_code 67 88 = some (.ior, 1, 0, 0, []) := rfl
theorem rw_67_89 : mm_code 67 89 = some (.istore 5, 2, 0, 0, []) := rfl
theorem rw_67_91 : mm_code 67 91 = some (.iinc 6 1, 3, 1, 0, []) := rfl
theorem rw_67_94 : mm_code 67 94 = some (.goto (-71), 3, 23, 0, []) := rfl
theorem rw_67_97 : mm_code 67 97 = some (.iload 5, 2, 0, 0, []) := rfl
theorem rw_67_99 : mm_code 67 99 = some (.ireturn, 1, 0, 0, []) := rfl
theorem rw_69_0 : mm_code 69 0 = some (.aload_n 0, 1, 0, 0, []) := rfl
theorem rw_69_1 : mm_code 69 1 = some (.aload_n 1, 1, 0, 0, []) := rfl
theorem rw_69_2 : mm_code 69 2 = some (.getfield 30, 3, 4, 1, [3, 7]) := rfl
theorem rw_69_5 : mm_code 69 5 = some (.iload_n 2, 1, 0, 0, []) := rfl
theorem rw_69_6 : mm_code 69 6 = some (.iaload, 1, 0, 0, []) := rfl
theorem rw_69_7 : mm_code 69 7 = some (.putfield 35, 3, 7, 0, [0, 8]) := rfl
theorem rw_69_10 : mm_code 69 10 = some (.aload_n 0, 1, 0, 0, []) := rfl
theorem rw_69_11 : mm_code 69 11 = some (.aload_n 3, 1, 0, 0, []) := rfl
theorem rw_69_12 : mm_code 69 12 = some (.iload 5, 2, 0, 0, []) := rfl
theorem rw_69_14 : mm_code 69 14 = some (.invokevirtual 39, 3, 47, 2, [9, 0]) := rfl
theorem rw_69_17 : mm_code 69 17 = some (.bipush 6, 2, 6, 0, []) := rfl
theorem rw_69_19 : mm_code 69 19 = some (.invokestatic 45, 3, 996, 2, [10, 0]) := rfl
theorem rw_69_22 : mm_code 69 22 = some (.putfield 51, 3, 7, 1, [0, 11]) := rfl
theorem rw_69_25 : mm_code 69 25 = some (.iconst 0, 1, 0, 0, []) := rfl
theorem rw_69_26 : mm_code 69 26 = some (.istore 6, 2, 0, 0, []) := rfl
theorem rw_69_28 : mm_code 69 28 = some (.iload 6, 2, 0, 0, []) := rfl
theorem rw_69_30 : mm_code 69 30 = some (.aload_n 0, 1, 0, 0, []) := rfl
theorem rw_69_31 : mm_code 69 31 = some (.getfield 35, 3, 7, 0, [0, 8]) := rfl
theorem rw_69_34 : mm_code 69 34 = some (.if_icmp .ge 68, 3, 102, 0, []) := rfl
theorem rw_69_37 : mm_code 69 37 = some (.aload_n 1, 1, 0, 0, []) := rfl
theorem rw_69_38 : mm_code 69 38 = some (.getfield 53, 3, 4, 0, [3, 12]) := rfl
theorem rw_69_41 : mm_code 69 41 = some (.iload_n 2, 1, 0, 0, []) := rfl
theorem rw_69_42 : mm_code 69 42 = some (.aaload, 1, 0, 0, []) := rfl
theorem rw_69_43 : mm_code 69 43 = some (.iload 6, 2, 0, 0, []) := rfl
theorem rw_69_45 : mm_code 69 45 = some (.iaload, 1, 0, 0, []) := rfl
theorem rw_69_46 : mm_code 69 46 = some (.istore 7, 2, 0, 0, []) := rfl
theorem rw_69_48 : mm_code 69 48 = some (.aload_n 0, 1, 0, 0, []) := rfl
theorem rw_69_49 : mm_code 69 49 = some (.getfield 9, 3, 7, 2, [3, 1]) := rfl
theorem rw_69_52 : mm_code 69 52 = some (.iload 6, 2, 0, 0, []) := rfl
theorem rw_69_54 : mm_code 69 54 = some (.aload 4, 2, 0, 0, []) := rfl
theorem rw_69_56 : mm_code 69 56 = some (.iload 7, 2, 0, 0, []) := rfl
theorem rw_69_58 : mm_code 69 58 = some (.iload 5, 2, 0, 0, []) := rfl
theorem rw_69_60 : mm_code 69 60 = some (.invokevirtual 57, 3, 12, 3, [13, 0]) := rfl
theorem rw_69_63 : mm_code 69 63 = some (.iastore, 1, 0, 0, []) := rfl
theorem rw_69_64 : mm_code 69 64 = some (.aload_n 0, 1, 0, 0, []) := rfl
theorem rw_69_65 : mm_code 69 65 = some (.getfield 15, 3, 7, 3, [3, 2]) := rfl
theorem rw_69_68 : mm_code 69 68 = some (.iload 6, 2, 0, 0, []) := rfl
theorem rw_69_70 : mm_code 69 70 = some (.aload_n 1, 1, 0, 0, []) := rfl
theorem rw_69_71 : mm_code 69 71 = some (.getfield 62, 3, 4, 3, [3, 14]) := rfl
theorem rw_69_74 : mm_code 69 74 = some (.iload 7, 2, 0, 0, []) := rfl
theorem rw_69_76 : mm_code 69 76 = some (.laload, 1, 0, 0, []) := rfl
theorem rw_69_77 : mm_code 69 77 = some (.aload_n 3, 1, 0, 0, []) := rfl
theorem rw_69_78 : mm_code 69 78 = some (.getfield 66, 3, 5, 7, [3, 15]) := rfl
theorem rw_69_81 : mm_code 69 81 = some (.iload 5, 2, 0, 0, []) := rfl
theorem rw_69_83 : mm_code 69 83 = some (.iaload, 1, 0, 0, []) := rfl
theorem rw_69_84 : mm_code 69 84 = some (.lshr, 1, 0, 0, []) := rfl
theorem rw_69_85 : mm_code 69 85 = some (.l2i, 1, 0, 0, []) := rfl
theorem rw_69_86 : mm_code 69 86 = some (.iconst 1, 1, 1, 0, []) := rfl
theorem rw_69_87 : mm_code 69 87 = some (.aload_n 0, 1, 0, 0, []) := rfl
theorem rw_69_88 : mm_code 69 88 = some (.getfield 51, 3, 7, 1, [0, 11]) := rfl
theorem rw_69_91 : mm_code 69 91 = some (.ishl, 1, 0, 0, []) := rfl
theorem rw_69_92 : mm_code 69 92 = some (.iconst 1, 1, 1, 0, []) := rfl
theorem rw_69_93 : mm_code 69 93 = some (.isub, 1, 0, 0, []) := rfl
theorem rw_69_94 : mm_code 69 94 = some (.iand, 1, 0, 0, []) := rfl
theorem rw_69_95 : mm_code 69 95 = some (.iastore, 1, 0, 0, []) := rfl
theorem rw_69_96 : mm_code 69 96 = some (.iinc 6 1, 3, 1, 0, []) := rfl
theorem rw_69_99 : mm_code 69 99 = some (.goto (-71), 3, 28, 0, []) := rfl
theorem rw_69_102 : mm_code 69 102 = some (.return_, 1, 0, 0, []) := rfl
theorem rw_70_0 : mm_code 70 0 = some (.iconst 0, 1, 0, 0, []) := rfl
theorem rw_70_1 : mm_code 70 1 = some (.istore_n 1, 1, 0, 0, []) := rfl
theorem rw_70_2 : mm_code 70 2 = some (.iconst 0, 1, 0, 0, []) := rfl
theorem rw_70_3 : mm_code 70 3 = some (.istore_n 2, 1, 0, 0, []) := rfl
theorem rw_70_4 : mm_code 70 4 = some (.iload_n 2, 1, 0, 0, []) := rfl
theorem rw_70_5 : mm_code 70 5 = some (.aload_n 0, 1, 0, 0, []) := rfl
theorem rw_70_6 : mm_code 70 6 = some (.getfield 35, 3, 7, 0, [0, 8]) := rfl
theorem rw_70_9 : mm_code 70 9 = some (.if_icmp .ge 78, 3, 87, 0, []) := rfl
theorem rw_70_12 : mm_code 70 12 = some (.aload_n 0, 1, 0, 0, []) := rfl
theorem rw_70_13 : mm_code 70 13 = some (.getfield 18, 3, 7, 4, [3, 3]) := rfl
theorem rw_70_16 : mm_code 70 16 = some (.iload_n 2, 1, 0, 0, []) := rfl
theorem rw_70_17 : mm_code 70 17 = some (.iconst 1, 1, 1, 0, []) := rfl
theorem rw_70_18 : mm_code 70 18 = some (.iastore, 1, 0, 0, []) := rfl
theorem rw_70_19 : mm_code 70 19 = some (.iconst 0, 1, 0, 0, []) := rfl
theorem rw_70_20 : mm_code 70 20 = some (.istore_n 3, 1, 0, 0, []) := rfl
theorem rw_70_21 : mm_code 70 21 = some (.iload_n 3, 1, 0, 0, []) := rfl
theorem rw_70_22 : mm_code 70 22 = some (.iload_n 2, 1, 0, 0, []) := rfl
theorem rw_70_23 : mm_code 70 23 = some (.if_icmp .ge 47, 3, 70, 0, []) := rfl
theorem rw_70_26 : mm_code 70 26 = some (.aload_n 0, 1, 0, 0, []) := rfl
theorem rw_70_27 : mm_code 70 27 = some (.getfield 9, 3, 7, 2, [3, 1]) := rfl
theorem rw_70_30 : mm_code 70 30 = some (.iload_n 3, 1, 0, 0, []) := rfl
theorem rw_70_31 : mm_code 70 31 = some (.iaload, 1, 0, 0, []) := rfl
theorem rw_70_32 : mm_code 70 32 = some (.aload_n 0, 1, 0, 0, []) := rfl
theorem rw_70_33 : mm_code 70 33 = some (.getfield 9, 3, 7, 2, [3, 1]) := rfl
theorem rw_70_36 : mm_code 70 36 = some (.iload_n 2, 1, 0, 0, []) := rfl
theorem rw_70_37 : mm_code 70 37 = some (.iaload, 1, 0, 0, []) := rfl
theorem rw_70_38 : mm_code 70 38 = some (.if_icmp .gt 26, 3, 64, 0, []) := rfl
theorem rw_70_41 : mm_code 70 41 = some (.aload_n 0, 1, 0, 0, []) := rfl
theorem rw_70_42 : mm_code 70 42 = some (.getfield 18, 3, 7, 4, [3, 3]) := rfl
theorem rw_70_45 : mm_code 70 45 = some (.iload_n 2, 1, 0, 0, []) := rfl
theorem rw_70_46 : mm_code 70 46 = some (.aload_n 0, 1, 0, 0, []) := rfl
theorem rw_70_47 : mm_code 70 47 = some (.getfield 18, 3, 7, 4, [3, 3]) := rfl
theorem rw_70_50 : mm_code 70 50 = some (.iload_n 2, 1, 0, 0, []) := rfl
theorem rw_70_51 : mm_code 70 51 = some (.iaload, 1, 0, 0, []) := rfl
theorem rw_70_52 : mm_code 70 52 = some (.aload_n 0, 1, 0, 0, []) := rfl
theorem rw_70_53 : mm_code 70 53 = some (.getfield 18, 3, 7, 4, [3, 3]) := rfl
theorem rw_70_56 : mm_code 70 56 = some (.iload_n 3, 1, 0, 0, []) := rfl
theorem rw_70_57 : mm_code 70 57 = some (.iaload, 1, 0, 0, []) := rfl
theorem rw_70_58 : mm_code 70 58 = some (.iconst 1, 1, 1, 0, []) := rfl
theorem rw_70_59 : mm_code 70 59 = some (.iadd, 1, 0, 0, []) := rfl
theorem rw_70_60 : mm_code 70 60 = some (.invokestatic 69, 3, 997, 2, [16, 0]) := rfl
theorem rw_70_63 : mm_code 70 63 = some (.iastore, 1, 0, 0, []) := rfl
theorem rw_70_64 : mm_code 70 64 = some (.iinc 3 1, 3, 1, 0, []) := rfl
theorem rw_70_67 : mm_code 70 67 = some (.goto (-46), 3, 21, 0, []) := rfl
theorem rw_70_70 : mm_code 70 70 = some (.iload_n 1, 1, 0, 0, []) := rfl
theorem rw_70_71 : mm_code 70 71 = some (.aload_n 0, 1, 0, 0, []) := rfl
theorem rw_70_72 : mm_code 70 72 = some (.getfield 18, 3, 7, 4, [3, 3]) := rfl
theorem rw_70_75 : mm_code 70 75 = some (.iload_n 2, 1, 0, 0, []) := rfl
theorem rw_70_76 : mm_code 70 76 = some (.iaload, 1, 0, 0, []) := rfl
theorem rw_70_77 : mm_code 70 77 = some (.invokestatic 69, 3, 997, 2, [16, 0]) := rfl
theorem rw_70_80 : mm_code 70 80 = some (.istore_n 1, 1, 0, 0, []) := rfl
theorem rw_70_81 : mm_code 70 81 = some (.iinc 2 1, 3, 1, 0, []) := rfl
theorem rw_70_84 : mm_code 70 84 = some (.goto (-80), 3, 4, 0, []) := rfl
theorem rw_70_87 : mm_code 70 87 = some (.aload_n 0, 1, 0, 0, []) := rfl
theorem rw_70_88 : mm_code 70 88 = some (.getfield 35, 3, 7, 0, [0, 8]) := rfl
theorem rw_70_91 : mm_code 70 91 = some (.iload_n 1, 1, 0, 0, []) := rfl
theorem rw_70_92 : mm_code 70 92 = some (.isub, 1, 0, 0, []) := rfl
theorem rw_70_93 : mm_code 70 93 = some (.ireturn, 1, 0, 0, []) := rfl
theorem rw_71_0 : mm_code 71 0 = some (.aload_n 0, 1, 0, 0, []) := rfl
theorem rw_71_1 : mm_code 71 1 = some (.iconst (-1), 1, 1, 1, []) := rfl
theorem rw_71_2 : mm_code 71 2 = some (.putfield 72, 3, 7, 8, [0, 17]) := rfl
theorem rw_71_5 : mm_code 71 5 = some (.aload_n 0, 1, 0, 0, []) := rfl
theorem rw_71_6 : mm_code 71 6 = some (.getfield 21, 3, 7, 5, [3, 4]) := rfl
theorem rw_71_9 : mm_code 71 9 = some (.iconst 0, 1, 0, 0, []) := rfl
theorem rw_71_10 : mm_code 71 10 = some (.iconst 0, 1, 0, 0, []) := rfl
theorem rw_71_11 : mm_code 71 11 = some (.iastore, 1, 0, 0, []) := rfl
theorem rw_71_12 : mm_code 71 12 = some (.iconst 0, 1, 0, 0, []) := rfl
theorem rw_71_13 : mm_code 71 13 = some (.istore_n 1, 1, 0, 0, []) := rfl
theorem rw_71_14 : mm_code 71 14 = some (.iload_n 1, 1, 0, 0, []) := rfl
theorem rw_71_15 : mm_code 71 15 = some (.iconst 1, 1, 1, 0, []) := rfl
theorem rw_71_16 : mm_code 71 16 = some (.aload_n 0, 1, 0, 0, []) := rfl
theorem rw_71_17 : mm_code 71 17 = some (.getfield 51, 3, 7, 1, [0, 11]) := rfl
theorem rw_71_20 : mm_code 71 20 = some (.ishl, 1, 0, 0, []) := rfl
theorem rw_71_21 : mm_code 71 21 = some (.if_icmp .ge 109, 3, 130, 0, []) := rfl
theorem rw_71_24 : mm_code 71 24 = some (.iload_n 1, 1, 0, 0, []) := rfl
theorem rw_71_25 : mm_code 71 25 = some (.ifCond .le 14, 3, 39, 0, []) := rfl
theorem rw_71_28 : mm_code 71 28 = some (.aload_n 0, 1, 0, 0, []) := rfl
theorem rw_71_29 : mm_code 71 29 = some (.getfield 21, 3, 7, 5, [3, 4]) := rfl
theorem rw_71_32 : mm_code 71 32 = some (.iload_n 1, 1, 0, 0, []) := rfl
theorem rw_71_33 : mm_code 71 33 = some (.aload_n 0, 1, 0, 0, []) := rfl
theorem rw_71_34 : mm_code 71 34 = some (.iload_n 1, 1, 0, 0, []) := rfl
theorem rw_71_35 : mm_code 71 35 = some (.invokevirtual 75, 3, 72, 2, [18, 0]) := rfl
theorem rw_71_38 : mm_code 71 38 = some (.iastore, 1, 0, 0, []) := rfl
theorem rw_71_39 : mm_code 71 39 = some (.iload_n 1, 1, 0, 0, []) := rfl
theorem rw_71_40 : mm_code 71 40 = some (.invokestatic 78, 3, 246, 1, [19, 0]) := rfl
theorem rw_71_43 : mm_code 71 43 = some (.istore_n 2, 1, 0, 0, []) := rfl
theorem rw_71_44 : mm_code 71 44 = some (.aload_n 0, 1, 0, 0, []) := rfl
theorem rw_71_45 : mm_code 71 45 = some (.getfield 72, 3, 7, 8, [0, 17]) := rfl
theorem rw_71_48 : mm_code 71 48 = some (.iconst (-1), 1, 1, 1, []) := rfl
theorem rw_71_49 : mm_code 71 49 = some (.if_icmp .eq 32, 3, 81, 0, []) := rfl
theorem rw_71_52 : mm_code 71 52 = some (.iload_n 2, 1, 0, 0, []) := rfl
theorem rw_71_53 : mm_code 71 53 = some (.aload_n 0, 1, 0, 0, []) := rfl
theorem rw_71_54 : mm_code 71 54 = some (.getfield 72, 3, 7, 8, [0, 17]) := rfl
