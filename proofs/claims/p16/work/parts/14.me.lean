/-! what holds of each method but the law -/
noncomputable def me_ok (y : Nat) : Prop := (∀ w ∈ mm_mw y, w ∈ lw_tbl) ∧ (mm_y y).cls = mm_on (mm_ow y) ∧ (mm_ii y = true → (mm_y y).name = "<init>") ∧ (parseMethodDescriptor (mm_y y).desc).map (fun d => d.parameters.length) = some (mm_pn y)
theorem pd_0 : (parseMethodDescriptor "()V").map (fun d => d.parameters.length) = some 0 := by decide +kernel
theorem me_1 : me_ok 1 := ⟨mw_1, rfl, (fun _ => rfl), pd_0⟩
theorem pd_1 : (parseMethodDescriptor "(LNotchedCards$Plan;LNotchedCards$Known;II)I").map (fun d => d.parameters.length) = some 4 := by decide +kernel
theorem me_2 : me_ok 2 := ⟨mw_2, rfl, (fun h => nomatch h), pd_1⟩
theorem pd_2 : (parseMethodDescriptor "(LNotchedCards$Known;II)I").map (fun d => d.parameters.length) = some 3 := by decide +kernel
theorem me_3 : me_ok 3 := ⟨mw_3, rfl, (fun h => nomatch h), pd_2⟩
theorem me_4 : me_ok 4 := ⟨mw_4, rfl, (fun h => nomatch h), pd_1⟩
theorem pd_3 : (parseMethodDescriptor "(IIIII)V").map (fun d => d.parameters.length) = some 5 := by decide +kernel
theorem me_5 : me_ok 5 := ⟨mw_5, rfl, (fun h => nomatch h), pd_3⟩
theorem pd_4 : (parseMethodDescriptor "(III)V").map (fun d => d.parameters.length) = some 3 := by decide +kernel
theorem me_6 : me_ok 6 := ⟨mw_6, rfl, (fun h => nomatch h), pd_4⟩
theorem me_7 : me_ok 7 := ⟨mw_7, rfl, (fun _ => rfl), pd_0⟩
theorem pd_5 : (parseMethodDescriptor "(LNotchedCards$Plan;LNotchedCards$Notes;I)V").map (fun d => d.parameters.length) = some 3 := by decide +kernel
theorem me_8 : me_ok 8 := ⟨mw_8, rfl, (fun h => nomatch h), pd_5⟩
theorem pd_6 : (parseMethodDescriptor "(LNotchedCards$Plan;)V").map (fun d => d.parameters.length) = some 1 := by decide +kernel
theorem me_9 : me_ok 9 := ⟨mw_9, rfl, (fun h => nomatch h), pd_6⟩
theorem pd_7 : (parseMethodDescriptor "(LNotchedCards$Notes;I)V").map (fun d => d.parameters.length) = some 2 := by decide +kernel
theorem me_10 : me_ok 10 := ⟨mw_10, rfl, (fun h => nomatch h), pd_7⟩
theorem me_11 : me_ok 11 := ⟨mw_11, rfl, (fun h => nomatch h), pd_5⟩
theorem pd_8 : (parseMethodDescriptor "(II)I").map (fun d => d.parameters.length) = some 2 := by decide +kernel
theorem me_12 : me_ok 12 := ⟨mw_12, rfl, (fun h => nomatch h), pd_8⟩
theorem pd_9 : (parseMethodDescriptor "(II)Z").map (fun d => d.parameters.length) = some 2 := by decide +kernel
theorem me_13 : me_ok 13 := ⟨mw_13, rfl, (fun h => nomatch h), pd_9⟩
theorem pd_10 : (parseMethodDescriptor "(IJ)Z").map (fun d => d.parameters.length) = some 2 := by decide +kernel
theorem me_14 : me_ok 14 := ⟨mw_14, rfl, (fun h => nomatch h), pd_10⟩
theorem me_15 : me_ok 15 := ⟨mw_15, rfl, (fun _ => rfl), pd_0⟩
theorem pd_11 : (parseMethodDescriptor "(LNotchedCards$Plan;LNotchedCards$Known;III)V").map (fun d => d.parameters.length) = some 5 := by decide +kernel
theorem me_16 : me_ok 16 := ⟨mw_16, rfl, (fun h => nomatch h), pd_11⟩
theorem pd_12 : (parseMethodDescriptor "(IIJ)V").map (fun d => d.parameters.length) = some 3 := by decide +kernel
theorem me_17 : me_ok 17 := ⟨mw_17, rfl, (fun h => nomatch h), pd_12⟩
theorem me_18 : me_ok 18 := ⟨mw_18, rfl, (fun h => nomatch h), pd_11⟩
theorem me_19 : me_ok 19 := ⟨mw_19, rfl, (fun _ => rfl), pd_0⟩
theorem pd_13 : (parseMethodDescriptor "(IIII)I").map (fun d => d.parameters.length) = some 4 := by decide +kernel
theorem me_20 : me_ok 20 := ⟨mw_20, rfl, (fun h => nomatch h), pd_13⟩
theorem me_21 : me_ok 21 := ⟨mw_21, rfl, (fun _ => rfl), pd_0⟩
theorem me_22 : me_ok 22 := ⟨mw_22, rfl, (fun h => nomatch h), pd_0⟩
theorem pd_14 : (parseMethodDescriptor "(II)V").map (fun d => d.parameters.length) = some 2 := by decide +kernel
theorem me_23 : me_ok 23 := ⟨mw_23, rfl, (fun h => nomatch h), pd_14⟩
theorem pd_15 : (parseMethodDescriptor "(LNotchedCards$Known;I)V").map (fun d => d.parameters.length) = some 2 := by decide +kernel
theorem me_24 : me_ok 24 := ⟨mw_24, rfl, (fun h => nomatch h), pd_15⟩
theorem pd_16 : (parseMethodDescriptor "(JI)J").map (fun d => d.parameters.length) = some 2 := by decide +kernel
theorem me_25 : me_ok 25 := ⟨mw_25, rfl, (fun h => nomatch h), pd_16⟩
theorem me_26 : me_ok 26 := ⟨mw_26, rfl, (fun h => nomatch h), pd_10⟩
theorem pd_17 : (parseMethodDescriptor "(IJ)I").map (fun d => d.parameters.length) = some 2 := by decide +kernel
theorem me_27 : me_ok 27 := ⟨mw_27, rfl, (fun h => nomatch h), pd_17⟩
theorem pd_18 : (parseMethodDescriptor "(IIIJ)V").map (fun d => d.parameters.length) = some 4 := by decide +kernel
theorem me_28 : me_ok 28 := ⟨mw_28, rfl, (fun h => nomatch h), pd_18⟩
theorem me_29 : me_ok 29 := ⟨mw_29, rfl, (fun _ => rfl), pd_0⟩
theorem pd_19 : (parseMethodDescriptor "(LNotchedCards$Text;)Z").map (fun d => d.parameters.length) = some 1 := by decide +kernel
theorem me_30 : me_ok 30 := ⟨mw_30, rfl, (fun h => nomatch h), pd_19⟩
theorem me_31 : me_ok 31 := ⟨mw_31, rfl, (fun h => nomatch h), pd_19⟩
theorem me_32 : me_ok 32 := ⟨mw_32, rfl, (fun h => nomatch h), pd_19⟩
theorem me_33 : me_ok 33 := ⟨mw_33, rfl, (fun h => nomatch h), pd_19⟩
theorem me_34 : me_ok 34 := ⟨mw_34, rfl, (fun h => nomatch h), pd_19⟩
theorem pd_20 : (parseMethodDescriptor "(LNotchedCards$Text;)I").map (fun d => d.parameters.length) = some 1 := by decide +kernel
theorem me_35 : me_ok 35 := ⟨mw_35, rfl, (fun h => nomatch h), pd_20⟩
theorem pd_21 : (parseMethodDescriptor "(LNotchedCards$Text;I)Z").map (fun d => d.parameters.length) = some 2 := by decide +kernel
theorem me_36 : me_ok 36 := ⟨mw_36, rfl, (fun h => nomatch h), pd_21⟩
theorem me_37 : me_ok 37 := ⟨mw_37, rfl, (fun h => nomatch h), pd_21⟩
theorem me_38 : me_ok 38 := ⟨mw_38, rfl, (fun h => nomatch h), pd_19⟩
theorem pd_22 : (parseMethodDescriptor "(LNotchedCards$Text;II)Z").map (fun d => d.parameters.length) = some 3 := by decide +kernel
theorem me_39 : me_ok 39 := ⟨mw_39, rfl, (fun h => nomatch h), pd_22⟩
theorem me_40 : me_ok 40 := ⟨mw_40, rfl, (fun h => nomatch h), pd_4⟩
theorem me_41 : me_ok 41 := ⟨mw_41, rfl, (fun h => nomatch h), pd_19⟩
theorem me_42 : me_ok 42 := ⟨mw_42, rfl, (fun h => nomatch h), pd_21⟩
theorem pd_23 : (parseMethodDescriptor "(I)Z").map (fun d => d.parameters.length) = some 1 := by decide +kernel
theorem me_43 : me_ok 43 := ⟨mw_43, rfl, (fun h => nomatch h), pd_23⟩
theorem me_44 : me_ok 44 := ⟨mw_44, rfl, (fun h => nomatch h), pd_23⟩
theorem me_45 : me_ok 45 := ⟨mw_45, rfl, (fun h => nomatch h), pd_23⟩
theorem me_46 : me_ok 46 := ⟨mw_46, rfl, (fun h => nomatch h), pd_9⟩
theorem pd_24 : (parseMethodDescriptor "(I)I").map (fun d => d.parameters.length) = some 1 := by decide +kernel
theorem me_47 : me_ok 47 := ⟨mw_47, rfl, (fun h => nomatch h), pd_24⟩
theorem pd_25 : (parseMethodDescriptor "(I)J").map (fun d => d.parameters.length) = some 1 := by decide +kernel
theorem me_48 : me_ok 48 := ⟨mw_48, rfl, (fun h => nomatch h), pd_25⟩
theorem pd_26 : (parseMethodDescriptor "(II)J").map (fun d => d.parameters.length) = some 2 := by decide +kernel
theorem me_49 : me_ok 49 := ⟨mw_49, rfl, (fun h => nomatch h), pd_26⟩
theorem me_50 : me_ok 50 := ⟨mw_50, rfl, (fun h => nomatch h), pd_9⟩
theorem me_51 : me_ok 51 := ⟨mw_51, rfl, (fun h => nomatch h), pd_24⟩
theorem me_52 : me_ok 52 := ⟨mw_52, rfl, (fun h => nomatch h), pd_24⟩
theorem me_53 : me_ok 53 := ⟨mw_53, rfl, (fun h => nomatch h), pd_24⟩
theorem pd_27 : (parseMethodDescriptor "([III)I").map (fun d => d.parameters.length) = some 3 := by decide +kernel
theorem me_54 : me_ok 54 := ⟨mw_54, rfl, (fun h => nomatch h), pd_27⟩
theorem me_55 : me_ok 55 := ⟨mw_55, rfl, (fun _ => rfl), pd_0⟩
theorem me_56 : me_ok 56 := ⟨mw_56, rfl, (fun h => nomatch h), pd_0⟩
theorem pd_28 : (parseMethodDescriptor "(LNotchedCards$Text;LNotchedCards$Plan;)Z").map (fun d => d.parameters.length) = some 2 := by decide +kernel
theorem me_57 : me_ok 57 := ⟨mw_57, rfl, (fun h => nomatch h), pd_28⟩
theorem pd_29 : (parseMethodDescriptor "(LNotchedCards$Text;LNotchedCards$Plan;I)Z").map (fun d => d.parameters.length) = some 3 := by decide +kernel
theorem me_58 : me_ok 58 := ⟨mw_58, rfl, (fun h => nomatch h), pd_29⟩
theorem me_59 : me_ok 59 := ⟨mw_59, rfl, (fun h => nomatch h), pd_29⟩
theorem me_60 : me_ok 60 := ⟨mw_60, rfl, (fun h => nomatch h), pd_29⟩
theorem me_61 : me_ok 61 := ⟨mw_61, rfl, (fun h => nomatch h), pd_29⟩
theorem me_62 : me_ok 62 := ⟨mw_62, rfl, (fun h => nomatch h), pd_28⟩
theorem me_63 : me_ok 63 := ⟨mw_63, rfl, (fun h => nomatch h), pd_19⟩
theorem me_64 : me_ok 64 := ⟨mw_64, rfl, (fun h => nomatch h), pd_4⟩
theorem pd_30 : (parseMethodDescriptor "(LNotchedCards$Plan;LNotchedCards$Known;IZ)I").map (fun d => d.parameters.length) = some 4 := by decide +kernel
theorem me_65 : me_ok 65 := ⟨mw_65, rfl, (fun h => nomatch h), pd_30⟩
theorem me_66 : me_ok 66 := ⟨mw_66, rfl, (fun h => nomatch h), pd_1⟩
theorem me_67 : me_ok 67 := ⟨mw_67, rfl, (fun h => nomatch h), pd_2⟩
theorem me_68 : me_ok 68 := ⟨mw_68, rfl, (fun _ => rfl), pd_0⟩
theorem pd_31 : (parseMethodDescriptor "(LNotchedCards$Packs;ILNotchedCards$Plan;LNotchedCards$Known;I)V").map (fun d => d.parameters.length) = some 5 := by decide +kernel
theorem me_69 : me_ok 69 := ⟨mw_69, rfl, (fun h => nomatch h), pd_31⟩
theorem pd_32 : (parseMethodDescriptor "()I").map (fun d => d.parameters.length) = some 0 := by decide +kernel
theorem me_70 : me_ok 70 := ⟨mw_70, rfl, (fun h => nomatch h), pd_32⟩
theorem pd_33 : (parseMethodDescriptor "()Z").map (fun d => d.parameters.length) = some 0 := by decide +kernel
theorem me_71 : me_ok 71 := ⟨mw_71, rfl, (fun h => nomatch h), pd_33⟩
theorem me_72 : me_ok 72 := ⟨mw_72, rfl, (fun h => nomatch h), pd_24⟩
theorem me_73 : me_ok 73 := ⟨mw_73, rfl, (fun h => nomatch h), pd_9⟩
theorem me_74 : me_ok 74 := ⟨mw_74, rfl, (fun h => nomatch h), pd_23⟩
theorem me_75 : me_ok 75 := ⟨mw_75, rfl, (fun h => nomatch h), pd_24⟩
theorem me_76 : me_ok 76 := ⟨mw_76, rfl, (fun _ => rfl), pd_0⟩
theorem pd_34 : (parseMethodDescriptor "(I)V").map (fun d => d.parameters.length) = some 1 := by decide +kernel
theorem me_77 : me_ok 77 := ⟨mw_77, rfl, (fun h => nomatch h), pd_34⟩
theorem me_78 : me_ok 78 := ⟨mw_78, rfl, (fun h => nomatch h), pd_23⟩
theorem me_79 : me_ok 79 := ⟨mw_79, rfl, (fun h => nomatch h), pd_34⟩
theorem me_80 : me_ok 80 := ⟨mw_80, rfl, (fun h => nomatch h), pd_8⟩
theorem me_81 : me_ok 81 := ⟨mw_81, rfl, (fun h => nomatch h), pd_8⟩
theorem me_82 : me_ok 82 := ⟨mw_82, rfl, (fun h => nomatch h), pd_4⟩
theorem me_83 : me_ok 83 := ⟨mw_83, rfl, (fun h => nomatch h), pd_0⟩
theorem me_84 : me_ok 84 := ⟨mw_84, rfl, (fun h => nomatch h), pd_23⟩
theorem me_85 : me_ok 85 := ⟨mw_85, rfl, (fun h => nomatch h), pd_9⟩
theorem me_86 : me_ok 86 := ⟨mw_86, rfl, (fun h => nomatch h), pd_23⟩
theorem me_87 : me_ok 87 := ⟨mw_87, rfl, (fun h => nomatch h), pd_33⟩
theorem me_88 : me_ok 88 := ⟨mw_88, rfl, (fun h => nomatch h), pd_9⟩
theorem me_89 : me_ok 89 := ⟨mw_89, rfl, (fun h => nomatch h), pd_23⟩
theorem pd_35 : (parseMethodDescriptor "(C)Z").map (fun d => d.parameters.length) = some 1 := by decide +kernel
theorem me_90 : me_ok 90 := ⟨mw_90, rfl, (fun h => nomatch h), pd_35⟩
theorem me_91 : me_ok 91 := ⟨mw_91, rfl, (fun h => nomatch h), pd_24⟩
theorem me_92 : me_ok 92 := ⟨mw_92, rfl, (fun h => nomatch h), pd_23⟩
theorem me_93 : me_ok 93 := ⟨mw_93, rfl, (fun h => nomatch h), pd_23⟩
theorem me_94 : me_ok 94 := ⟨mw_94, rfl, (fun h => nomatch h), pd_23⟩
theorem me_95 : me_ok 95 := ⟨mw_95, rfl, (fun h => nomatch h), pd_23⟩
theorem me_96 : me_ok 96 := ⟨mw_96, rfl, (fun h => nomatch h), pd_23⟩
theorem me_97 : me_ok 97 := ⟨mw_97, rfl, (fun _ => rfl), pd_0⟩
theorem pd_36 : (parseMethodDescriptor "(LNotchedCards$Text;LNotchedCards$Plan;LNotchedCards$Known;)Z").map (fun d => d.parameters.length) = some 3 := by decide +kernel
theorem me_98 : me_ok 98 := ⟨mw_98, rfl, (fun h => nomatch h), pd_36⟩
theorem pd_37 : (parseMethodDescriptor "(LNotchedCards$Text;LNotchedCards$Plan;LNotchedCards$Known;I)Z").map (fun d => d.parameters.length) = some 4 := by decide +kernel
theorem me_99 : me_ok 99 := ⟨mw_99, rfl, (fun h => nomatch h), pd_37⟩
theorem me_100 : me_ok 100 := ⟨mw_100, rfl, (fun h => nomatch h), pd_37⟩
theorem me_101 : me_ok 101 := ⟨mw_101, rfl, (fun h => nomatch h), pd_37⟩
theorem pd_38 : (parseMethodDescriptor "(LNotchedCards$Text;[II)Z").map (fun d => d.parameters.length) = some 3 := by decide +kernel
theorem me_102 : me_ok 102 := ⟨mw_102, rfl, (fun h => nomatch h), pd_38⟩
theorem me_103 : me_ok 103 := ⟨mw_103, rfl, (fun h => nomatch h), pd_37⟩
theorem me_104 : me_ok 104 := ⟨mw_104, rfl, (fun h => nomatch h), pd_21⟩
theorem pd_39 : (parseMethodDescriptor "(LNotchedCards$Text;LNotchedCards$Plan;LNotchedCards$Known;II)Z").map (fun d => d.parameters.length) = some 5 := by decide +kernel
theorem me_105 : me_ok 105 := ⟨mw_105, rfl, (fun h => nomatch h), pd_39⟩
theorem pd_40 : (parseMethodDescriptor "(LNotchedCards$Packs;)Z").map (fun d => d.parameters.length) = some 1 := by decide +kernel
theorem me_106 : me_ok 106 := ⟨mw_106, rfl, (fun h => nomatch h), pd_40⟩
theorem pd_41 : (parseMethodDescriptor "(LNotchedCards$Packs;III)V").map (fun d => d.parameters.length) = some 4 := by decide +kernel
theorem me_107 : me_ok 107 := ⟨mw_107, rfl, (fun h => nomatch h), pd_41⟩
theorem pd_42 : (parseMethodDescriptor "(LNotchedCards$Packs;II)V").map (fun d => d.parameters.length) = some 3 := by decide +kernel
theorem me_108 : me_ok 108 := ⟨mw_108, rfl, (fun h => nomatch h), pd_42⟩
theorem me_109 : me_ok 109 := ⟨mw_109, rfl, (fun _ => rfl), pd_0⟩
theorem pd_43 : (parseMethodDescriptor "(IIIII)I").map (fun d => d.parameters.length) = some 5 := by decide +kernel
theorem me_110 : me_ok 110 := ⟨mw_110, rfl, (fun h => nomatch h), pd_43⟩
theorem me_111 : me_ok 111 := ⟨mw_111, rfl, (fun h => nomatch h), pd_24⟩
theorem me_112 : me_ok 112 := ⟨mw_112, rfl, (fun h => nomatch h), pd_24⟩
theorem me_113 : me_ok 113 := ⟨mw_113, rfl, (fun h => nomatch h), pd_24⟩
theorem me_114 : me_ok 114 := ⟨mw_114, rfl, (fun h => nomatch h), pd_24⟩
theorem me_115 : me_ok 115 := ⟨mw_115, rfl, (fun h => nomatch h), pd_8⟩
theorem me_116 : me_ok 116 := ⟨mw_116, rfl, (fun h => nomatch h), pd_26⟩
theorem me_117 : me_ok 117 := ⟨mw_117, rfl, (fun h => nomatch h), pd_26⟩
theorem me_118 : me_ok 118 := ⟨mw_118, rfl, (fun h => nomatch h), pd_32⟩
theorem pd_44 : (parseMethodDescriptor "(III)I").map (fun d => d.parameters.length) = some 3 := by decide +kernel
theorem me_119 : me_ok 119 := ⟨mw_119, rfl, (fun h => nomatch h), pd_44⟩
theorem me_120 : me_ok 120 := ⟨mw_120, rfl, (fun h => nomatch h), pd_8⟩
theorem pd_45 : (parseMethodDescriptor "(IIZ)I").map (fun d => d.parameters.length) = some 3 := by decide +kernel
theorem me_121 : me_ok 121 := ⟨mw_121, rfl, (fun h => nomatch h), pd_45⟩
theorem me_122 : me_ok 122 := ⟨mw_122, rfl, (fun h => nomatch h), pd_8⟩
theorem me_123 : me_ok 123 := ⟨mw_123, rfl, (fun h => nomatch h), pd_24⟩
theorem me_124 : me_ok 124 := ⟨mw_124, rfl, (fun h => nomatch h), pd_26⟩
theorem me_125 : me_ok 125 := ⟨mw_125, rfl, (fun h => nomatch h), pd_44⟩
theorem me_126 : me_ok 126 := ⟨mw_126, rfl, (fun h => nomatch h), pd_23⟩
theorem me_127 : me_ok 127 := ⟨mw_127, rfl, (fun h => nomatch h), pd_32⟩
theorem me_128 : me_ok 128 := ⟨mw_128, rfl, (fun h => nomatch h), pd_8⟩
theorem me_129 : me_ok 129 := ⟨mw_129, rfl, (fun h => nomatch h), pd_17⟩
theorem me_130 : me_ok 130 := ⟨mw_130, rfl, (fun h => nomatch h), pd_32⟩
theorem me_131 : me_ok 131 := ⟨mw_131, rfl, (fun h => nomatch h), pd_8⟩
theorem pd_46 : (parseMethodDescriptor "(III)J").map (fun d => d.parameters.length) = some 3 := by decide +kernel
theorem me_132 : me_ok 132 := ⟨mw_132, rfl, (fun h => nomatch h), pd_46⟩
theorem me_133 : me_ok 133 := ⟨mw_133, rfl, (fun h => nomatch h), pd_8⟩
theorem me_134 : me_ok 134 := ⟨mw_134, rfl, (fun h => nomatch h), pd_8⟩
theorem me_135 : me_ok 135 := ⟨mw_135, rfl, (fun h => nomatch h), pd_43⟩
theorem me_136 : me_ok 136 := ⟨mw_136, rfl, (fun h => nomatch h), pd_8⟩
theorem me_137 : me_ok 137 := ⟨mw_137, rfl, (fun h => nomatch h), pd_44⟩
theorem me_138 : me_ok 138 := ⟨mw_138, rfl, (fun h => nomatch h), pd_24⟩
theorem me_139 : me_ok 139 := ⟨mw_139, rfl, (fun h => nomatch h), pd_23⟩
theorem me_140 : me_ok 140 := ⟨mw_140, rfl, (fun h => nomatch h), pd_23⟩
theorem me_141 : me_ok 141 := ⟨mw_141, rfl, (fun h => nomatch h), pd_34⟩
theorem me_142 : me_ok 142 := ⟨mw_142, rfl, (fun h => nomatch h), pd_0⟩
theorem me_143 : me_ok 143 := ⟨mw_143, rfl, (fun h => nomatch h), pd_23⟩
theorem me_144 : me_ok 144 := ⟨mw_144, rfl, (fun h => nomatch h), pd_26⟩
theorem me_145 : me_ok 145 := ⟨mw_145, rfl, (fun h => nomatch h), pd_26⟩
theorem me_146 : me_ok 146 := ⟨mw_146, rfl, (fun _ => rfl), pd_0⟩
theorem me_147 : me_ok 147 := ⟨mw_147, rfl, (fun h => nomatch h), pd_43⟩
theorem pd_47 : (parseMethodDescriptor "(III)Z").map (fun d => d.parameters.length) = some 3 := by decide +kernel
theorem me_148 : me_ok 148 := ⟨mw_148, rfl, (fun h => nomatch h), pd_47⟩
theorem pd_48 : (parseMethodDescriptor "(JI)Z").map (fun d => d.parameters.length) = some 2 := by decide +kernel
theorem me_149 : me_ok 149 := ⟨mw_149, rfl, (fun h => nomatch h), pd_48⟩
theorem pd_49 : (parseMethodDescriptor "(J)I").map (fun d => d.parameters.length) = some 1 := by decide +kernel
theorem me_150 : me_ok 150 := ⟨mw_150, rfl, (fun h => nomatch h), pd_49⟩
theorem me_151 : me_ok 151 := ⟨mw_151, rfl, (fun h => nomatch h), pd_23⟩
theorem me_152 : me_ok 152 := ⟨mw_152, rfl, (fun h => nomatch h), pd_8⟩
theorem me_153 : me_ok 153 := ⟨mw_153, rfl, (fun h => nomatch h), pd_23⟩
theorem me_154 : me_ok 154 := ⟨mw_154, rfl, (fun h => nomatch h), pd_23⟩
theorem me_155 : me_ok 155 := ⟨mw_155, rfl, (fun h => nomatch h), pd_0⟩
theorem me_156 : me_ok 156 := ⟨mw_156, rfl, (fun h => nomatch h), pd_8⟩
theorem me_157 : me_ok 157 := ⟨mw_157, rfl, (fun h => nomatch h), pd_23⟩
theorem me_158 : me_ok 158 := ⟨mw_158, rfl, (fun h => nomatch h), pd_23⟩
theorem me_159 : me_ok 159 := ⟨mw_159, rfl, (fun h => nomatch h), pd_23⟩
theorem me_160 : me_ok 160 := ⟨mw_160, rfl, (fun h => nomatch h), pd_23⟩
theorem me_161 : me_ok 161 := ⟨mw_161, rfl, (fun h => nomatch h), pd_9⟩
theorem me_162 : me_ok 162 := ⟨mw_162, rfl, (fun h => nomatch h), pd_23⟩
theorem me_163 : me_ok 163 := ⟨mw_163, rfl, (fun h => nomatch h), pd_0⟩
theorem me_164 : me_ok 164 := ⟨mw_164, rfl, (fun h => nomatch h), pd_0⟩
theorem me_165 : me_ok 165 := ⟨mw_165, rfl, (fun h => nomatch h), pd_24⟩
theorem me_166 : me_ok 166 := ⟨mw_166, rfl, (fun h => nomatch h), pd_23⟩
theorem me_167 : me_ok 167 := ⟨mw_167, rfl, (fun h => nomatch h), pd_26⟩
theorem me_168 : me_ok 168 := ⟨mw_168, rfl, (fun h => nomatch h), pd_33⟩
theorem me_169 : me_ok 169 := ⟨mw_169, rfl, (fun h => nomatch h), pd_33⟩
theorem me_170 : me_ok 170 := ⟨mw_170, rfl, (fun h => nomatch h), pd_33⟩
theorem pd_50 : (parseMethodDescriptor "(Z)Z").map (fun d => d.parameters.length) = some 1 := by decide +kernel
theorem me_171 : me_ok 171 := ⟨mw_171, rfl, (fun h => nomatch h), pd_50⟩
theorem me_172 : me_ok 172 := ⟨mw_172, rfl, (fun h => nomatch h), pd_24⟩
theorem me_173 : me_ok 173 := ⟨mw_173, rfl, (fun h => nomatch h), pd_24⟩
theorem me_174 : me_ok 174 := ⟨mw_174, rfl, (fun h => nomatch h), pd_24⟩
theorem me_175 : me_ok 175 := ⟨mw_175, rfl, (fun h => nomatch h), pd_24⟩
theorem me_176 : me_ok 176 := ⟨mw_176, rfl, (fun h => nomatch h), pd_8⟩
theorem me_177 : me_ok 177 := ⟨mw_177, rfl, (fun h => nomatch h), pd_23⟩
theorem me_178 : me_ok 178 := ⟨mw_178, rfl, (fun h => nomatch h), pd_23⟩
theorem me_179 : me_ok 179 := ⟨mw_179, rfl, (fun h => nomatch h), pd_23⟩
theorem me_180 : me_ok 180 := ⟨mw_180, rfl, (fun h => nomatch h), pd_24⟩
theorem me_181 : me_ok 181 := ⟨mw_181, rfl, (fun h => nomatch h), pd_8⟩
theorem me_182 : me_ok 182 := ⟨mw_182, rfl, (fun h => nomatch h), pd_26⟩
theorem me_183 : me_ok 183 := ⟨mw_183, rfl, (fun h => nomatch h), pd_9⟩
theorem me_184 : me_ok 184 := ⟨mw_184, rfl, (fun h => nomatch h), pd_26⟩
theorem me_185 : me_ok 185 := ⟨mw_185, rfl, (fun h => nomatch h), pd_23⟩
theorem me_186 : me_ok 186 := ⟨mw_186, rfl, (fun h => nomatch h), pd_23⟩
theorem me_187 : me_ok 187 := ⟨mw_187, rfl, (fun h => nomatch h), pd_26⟩
theorem me_188 : me_ok 188 := ⟨mw_188, rfl, (fun h => nomatch h), pd_34⟩
theorem me_189 : me_ok 189 := ⟨mw_189, rfl, (fun h => nomatch h), pd_34⟩
theorem me_190 : me_ok 190 := ⟨mw_190, rfl, (fun h => nomatch h), pd_13⟩
theorem me_191 : me_ok 191 := ⟨mw_191, rfl, (fun h => nomatch h), pd_26⟩
theorem me_192 : me_ok 192 := ⟨mw_192, rfl, (fun h => nomatch h), pd_32⟩
theorem me_193 : me_ok 193 := ⟨mw_193, rfl, (fun h => nomatch h), pd_44⟩
theorem me_194 : me_ok 194 := ⟨mw_194, rfl, (fun h => nomatch h), pd_8⟩
theorem me_195 : me_ok 195 := ⟨mw_195, rfl, (fun h => nomatch h), pd_45⟩
theorem me_196 : me_ok 196 := ⟨mw_196, rfl, (fun h => nomatch h), pd_24⟩
theorem me_197 : me_ok 197 := ⟨mw_197, rfl, (fun h => nomatch h), pd_8⟩
theorem me_198 : me_ok 198 := ⟨mw_198, rfl, (fun h => nomatch h), pd_24⟩
theorem me_199 : me_ok 199 := ⟨mw_199, rfl, (fun h => nomatch h), pd_26⟩
theorem me_200 : me_ok 200 := ⟨mw_200, rfl, (fun h => nomatch h), pd_24⟩
theorem me_201 : me_ok 201 := ⟨mw_201, rfl, (fun h => nomatch h), pd_44⟩
theorem me_202 : me_ok 202 := ⟨mw_202, rfl, (fun h => nomatch h), pd_23⟩
theorem me_203 : me_ok 203 := ⟨mw_203, rfl, (fun h => nomatch h), pd_32⟩
theorem me_204 : me_ok 204 := ⟨mw_204, rfl, (fun h => nomatch h), pd_23⟩
theorem me_205 : me_ok 205 := ⟨mw_205, rfl, (fun h => nomatch h), pd_8⟩
theorem me_206 : me_ok 206 := ⟨mw_206, rfl, (fun h => nomatch h), pd_10⟩
theorem me_207 : me_ok 207 := ⟨mw_207, rfl, (fun h => nomatch h), pd_17⟩
theorem me_208 : me_ok 208 := ⟨mw_208, rfl, (fun h => nomatch h), pd_32⟩
theorem me_209 : me_ok 209 := ⟨mw_209, rfl, (fun h => nomatch h), pd_14⟩
theorem me_210 : me_ok 210 := ⟨mw_210, rfl, (fun h => nomatch h), pd_32⟩
theorem me_211 : me_ok 211 := ⟨mw_211, rfl, (fun h => nomatch h), pd_23⟩
theorem me_212 : me_ok 212 := ⟨mw_212, rfl, (fun h => nomatch h), pd_23⟩
theorem me_213 : me_ok 213 := ⟨mw_213, rfl, (fun h => nomatch h), pd_23⟩
theorem me_214 : me_ok 214 := ⟨mw_214, rfl, (fun h => nomatch h), pd_33⟩
theorem me_215 : me_ok 215 := ⟨mw_215, rfl, (fun h => nomatch h), pd_34⟩
theorem me_216 : me_ok 216 := ⟨mw_216, rfl, (fun h => nomatch h), pd_34⟩
theorem me_217 : me_ok 217 := ⟨mw_217, rfl, (fun h => nomatch h), pd_32⟩
theorem me_218 : me_ok 218 := ⟨mw_218, rfl, (fun h => nomatch h), pd_24⟩
theorem me_219 : me_ok 219 := ⟨mw_219, rfl, (fun h => nomatch h), pd_24⟩
theorem me_220 : me_ok 220 := ⟨mw_220, rfl, (fun h => nomatch h), pd_4⟩
theorem me_221 : me_ok 221 := ⟨mw_221, rfl, (fun h => nomatch h), pd_32⟩
theorem me_222 : me_ok 222 := ⟨mw_222, rfl, (fun h => nomatch h), pd_34⟩
theorem me_223 : me_ok 223 := ⟨mw_223, rfl, (fun h => nomatch h), pd_33⟩
theorem me_224 : me_ok 224 := ⟨mw_224, rfl, (fun h => nomatch h), pd_33⟩
theorem me_225 : me_ok 225 := ⟨mw_225, rfl, (fun h => nomatch h), pd_33⟩
theorem me_226 : me_ok 226 := ⟨mw_226, rfl, (fun h => nomatch h), pd_24⟩
theorem pd_51 : (parseMethodDescriptor "(IZ)Z").map (fun d => d.parameters.length) = some 2 := by decide +kernel
theorem me_227 : me_ok 227 := ⟨mw_227, rfl, (fun h => nomatch h), pd_51⟩
theorem me_228 : me_ok 228 := ⟨mw_228, rfl, (fun h => nomatch h), pd_8⟩
theorem me_229 : me_ok 229 := ⟨mw_229, rfl, (fun h => nomatch h), pd_26⟩
theorem me_230 : me_ok 230 := ⟨mw_230, rfl, (fun h => nomatch h), pd_9⟩
theorem me_231 : me_ok 231 := ⟨mw_231, rfl, (fun h => nomatch h), pd_26⟩
theorem me_232 : me_ok 232 := ⟨mw_232, rfl, (fun h => nomatch h), pd_46⟩
theorem me_233 : me_ok 233 := ⟨mw_233, rfl, (fun h => nomatch h), pd_17⟩
theorem me_234 : me_ok 234 := ⟨mw_234, rfl, (fun h => nomatch h), pd_8⟩
theorem me_235 : me_ok 235 := ⟨mw_235, rfl, (fun h => nomatch h), pd_17⟩
theorem me_236 : me_ok 236 := ⟨mw_236, rfl, (fun h => nomatch h), pd_8⟩
theorem me_237 : me_ok 237 := ⟨mw_237, rfl, (fun h => nomatch h), pd_43⟩
theorem me_238 : me_ok 238 := ⟨mw_238, rfl, (fun h => nomatch h), pd_13⟩
theorem me_239 : me_ok 239 := ⟨mw_239, rfl, (fun h => nomatch h), pd_13⟩
theorem me_240 : me_ok 240 := ⟨mw_240, rfl, (fun h => nomatch h), pd_8⟩
theorem me_241 : me_ok 241 := ⟨mw_241, rfl, (fun h => nomatch h), pd_8⟩
theorem me_242 : me_ok 242 := ⟨mw_242, rfl, (fun h => nomatch h), pd_47⟩
theorem me_243 : me_ok 243 := ⟨mw_243, rfl, (fun h => nomatch h), pd_9⟩
theorem me_244 : me_ok 244 := ⟨mw_244, rfl, (fun h => nomatch h), pd_44⟩
theorem me_245 : me_ok 245 := ⟨mw_245, rfl, (fun h => nomatch h), pd_24⟩
theorem me_246 : me_ok 246 := ⟨mw_246, rfl, (fun h => nomatch h), pd_24⟩
theorem me_247 : me_ok 247 := ⟨mw_247, rfl, (fun h => nomatch h), pd_49⟩
theorem me_248 : me_ok 248 := ⟨mw_248, rfl, (fun h => nomatch h), pd_8⟩
theorem mec_0 : mm_all me_ok 1 50 := ⟨me_1, me_2, me_3, me_4, me_5, me_6, me_7, me_8, me_9, me_10, me_11, me_12, me_13, me_14, me_15, me_16, me_17, me_18, me_19, me_20, me_21, me_22, me_23, me_24, me_25, me_26, me_27, me_28, me_29, me_30, me_31, me_32, me_33, me_34, me_35, me_36, me_37, me_38, me_39, me_40, me_41, me_42, me_43, me_44, me_45, me_46, me_47, me_48, me_49, me_50, trivial⟩
theorem mec_1 : mm_all me_ok 51 50 := ⟨me_51, me_52, me_53, me_54, me_55, me_56, me_57, me_58, me_59, me_60, me_61, me_62, me_63, me_64, me_65, me_66, me_67, me_68, me_69, me_70, me_71, me_72, me_73, me_74, me_75, me_76, me_77, me_78, me_79, me_80, me_81, me_82, me_83, me_84, me_85, me_86, me_87, me_88, me_89, me_90, me_91, me_92, me_93, me_94, me_95, me_96, me_97, me_98, me_99, me_100, trivial⟩
theorem mec_2 : mm_all me_ok 101 50 := ⟨me_101, me_102, me_103, me_104, me_105, me_106, me_107, me_108, me_109, me_110, me_111, me_112, me_113, me_114, me_115, me_116, me_117, me_118, me_119, me_120, me_121, me_122, me_123, me_124, me_125, me_126, me_127, me_128, me_129, me_130, me_131, me_132, me_133, me_134, me_135, me_136, me_137, me_138, me_139, me_140, me_141, me_142, me_143, me_144, me_145, me_146, me_147, me_148, me_149, me_150, trivial⟩
theorem mec_3 : mm_all me_ok 151 50 := ⟨me_151, me_152, me_153, me_154, me_155, me_156, me_157, me_158, me_159, me_160, me_161, me_162, me_163, me_164, me_165, me_166, me_167, me_168, me_169, me_170, me_171, me_172, me_173, me_174, me_175, me_176, me_177, me_178, me_179, me_180, me_181, me_182, me_183, me_184, me_185, me_186, me_187, me_188, me_189, me_190, me_191, me_192, me_193, me_194, me_195, me_196, me_197, me_198, me_199, me_200, trivial⟩
theorem mec_4 : mm_all me_ok 201 48 := ⟨me_201, me_202, me_203, me_204, me_205, me_206, me_207, me_208, me_209, me_210, me_211, me_212, me_213, me_214, me_215, me_216, me_217, me_218, me_219, me_220, me_221, me_222, me_223, me_224, me_225, me_226, me_227, me_228, me_229, me_230, me_231, me_232, me_233, me_234, me_235, me_236, me_237, me_238, me_239, me_240, me_241, me_242, me_243, me_244, me_245, me_246, me_247, me_248, trivial⟩
theorem me_at {y : Nat} (h0 : y ≠ 0) (h : y < mm_nm) : me_ok y := by
  have hn : mm_nm = 249 := rfl
  rcases Nat.lt_or_ge y 51 with h0 | h0
  · exact mm_all_at mec_0 y (by omega) (by omega)
  rcases Nat.lt_or_ge y 101 with h1 | h1
  · exact mm_all_at mec_1 y (by omega) (by omega)
  rcases Nat.lt_or_ge y 151 with h2 | h2
  · exact mm_all_at mec_2 y (by omega) (by omega)
  rcases Nat.lt_or_ge y 201 with h3 | h3
  · exact mm_all_at mec_3 y (by omega) (by omega)
  exact mm_all_at mec_4 y (by omega) (by omega)

theorem m1_all : mm_fo mm_nm mm_m1 = true := by decide +kernel
noncomputable def on_ok (o : Nat) : Prop := plainName (mm_on o) = true ∧ mm_on o ≠ "java/lang/invoke/MethodHandle" ∧ mm_on o ≠ "java/lang/invoke/VarHandle"
theorem on_all : mm_all on_ok 0 15 := ⟨⟨by decide +kernel, by decide +kernel, by decide +kernel⟩, ⟨by decide +kernel, by decide +kernel, by decide +kernel⟩, ⟨by decide +kernel, by decide +kernel, by decide +kernel⟩, ⟨by decide +kernel, by decide +kernel, by decide +kernel⟩, ⟨by decide +kernel, by decide +kernel, by decide +kernel⟩, ⟨by decide +kernel, by decide +kernel, by decide +kernel⟩, ⟨by decide +kernel, by decide +kernel, by decide +kernel⟩, ⟨by decide +kernel, by decide +kernel, by decide +kernel⟩, ⟨by decide +kernel, by decide +kernel, by decide +kernel⟩, ⟨by decide +kernel, by decide +kernel, by decide +kernel⟩, ⟨by decide +kernel, by decide +kernel, by decide +kernel⟩, ⟨by decide +kernel, by decide +kernel, by decide +kernel⟩, ⟨by decide +kernel, by decide +kernel, by decide +kernel⟩, ⟨by decide +kernel, by decide +kernel, by decide +kernel⟩, ⟨by decide +kernel, by decide +kernel, by decide +kernel⟩, trivial⟩
theorem on_at {o : Nat} (h : o < 15) : on_ok o := mm_all_at on_all o (Nat.zero_le _) (by omega)
