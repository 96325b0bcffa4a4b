theorem q9_dX9_init_0 : (decode cX9_init 0 = .ok (.aload_n 0, 1)) ∧ (decode cX9_init 1 = .ok (.invokespecial 1, 3)) ∧ (decode cX9_init 4 = .ok (.aload_n 0, 1)) ∧ (decode cX9_init 5 = .ok (.bipush 80, 2)) ∧ (decode cX9_init 7 = .ok (.newarray .byte, 2)) ∧ (decode cX9_init 9 = .ok (.putfield 7, 3)) ∧ (decode cX9_init 12 = .ok (.aload_n 0, 1)) ∧ (decode cX9_init 13 = .ok (.bipush 6, 2)) ∧ (decode cX9_init 15 = .ok (.newarray .int, 2)) ∧ (decode cX9_init 17 = .ok (.putfield 13, 3)) := by decide +kernel
theorem dX9_init_0 : decode cX9_init 0 = .ok (.aload_n 0, 1) := q9_dX9_init_0.1
theorem dX9_init_1 : decode cX9_init 1 = .ok (.invokespecial 1, 3) := q9_dX9_init_0.2.1
theorem dX9_init_4 : decode cX9_init 4 = .ok (.aload_n 0, 1) := q9_dX9_init_0.2.2.1
theorem dX9_init_5 : decode cX9_init 5 = .ok (.bipush 80, 2) := q9_dX9_init_0.2.2.2.1
theorem dX9_init_7 : decode cX9_init 7 = .ok (.newarray .byte, 2) := q9_dX9_init_0.2.2.2.2.1
theorem dX9_init_9 : decode cX9_init 9 = .ok (.putfield 7, 3) := q9_dX9_init_0.2.2.2.2.2.1
theorem dX9_init_12 : decode cX9_init 12 = .ok (.aload_n 0, 1) := q9_dX9_init_0.2.2.2.2.2.2.1
theorem dX9_init_13 : decode cX9_init 13 = .ok (.bipush 6, 2) := q9_dX9_init_0.2.2.2.2.2.2.2.1
theorem dX9_init_15 : decode cX9_init 15 = .ok (.newarray .int, 2) := q9_dX9_init_0.2.2.2.2.2.2.2.2.1
theorem dX9_init_17 : decode cX9_init 17 = .ok (.putfield 13, 3) := q9_dX9_init_0.2.2.2.2.2.2.2.2.2
theorem q9_dX9_init_20 : (decode cX9_init 20 = .ok (.aload_n 0, 1)) ∧ (decode cX9_init 21 = .ok (.bipush 6, 2)) ∧ (decode cX9_init 23 = .ok (.newarray .int, 2)) ∧ (decode cX9_init 25 = .ok (.putfield 17, 3)) ∧ (decode cX9_init 28 = .ok (.aload_n 0, 1)) ∧ (decode cX9_init 29 = .ok (.bipush 6, 2)) ∧ (decode cX9_init 31 = .ok (.newarray .int, 2)) ∧ (decode cX9_init 33 = .ok (.putfield 20, 3)) ∧ (decode cX9_init 36 = .ok (.aload_n 0, 1)) ∧ (decode cX9_init 37 = .ok (.bipush 6, 2)) := by decide +kernel
theorem dX9_init_20 : decode cX9_init 20 = .ok (.aload_n 0, 1) := q9_dX9_init_20.1
theorem dX9_init_21 : decode cX9_init 21 = .ok (.bipush 6, 2) := q9_dX9_init_20.2.1
theorem dX9_init_23 : decode cX9_init 23 = .ok (.newarray .int, 2) := q9_dX9_init_20.2.2.1
theorem dX9_init_25 : decode cX9_init 25 = .ok (.putfield 17, 3) := q9_dX9_init_20.2.2.2.1
theorem dX9_init_28 : decode cX9_init 28 = .ok (.aload_n 0, 1) := q9_dX9_init_20.2.2.2.2.1
theorem dX9_init_29 : decode cX9_init 29 = .ok (.bipush 6, 2) := q9_dX9_init_20.2.2.2.2.2.1
theorem dX9_init_31 : decode cX9_init 31 = .ok (.newarray .int, 2) := q9_dX9_init_20.2.2.2.2.2.2.1
theorem dX9_init_33 : decode cX9_init 33 = .ok (.putfield 20, 3) := q9_dX9_init_20.2.2.2.2.2.2.2.1
theorem dX9_init_36 : decode cX9_init 36 = .ok (.aload_n 0, 1) := q9_dX9_init_20.2.2.2.2.2.2.2.2.1
theorem dX9_init_37 : decode cX9_init 37 = .ok (.bipush 6, 2) := q9_dX9_init_20.2.2.2.2.2.2.2.2.2
theorem q9_dX9_init_39 : (decode cX9_init 39 = .ok (.newarray .int, 2)) ∧ (decode cX9_init 41 = .ok (.putfield 23, 3)) ∧ (decode cX9_init 44 = .ok (.aload_n 0, 1)) ∧ (decode cX9_init 45 = .ok (.bipush 6, 2)) ∧ (decode cX9_init 47 = .ok (.newarray .int, 2)) ∧ (decode cX9_init 49 = .ok (.putfield 26, 3)) ∧ (decode cX9_init 52 = .ok (.aload_n 0, 1)) ∧ (decode cX9_init 53 = .ok (.bipush 6, 2)) ∧ (decode cX9_init 55 = .ok (.newarray .int, 2)) ∧ (decode cX9_init 57 = .ok (.putfield 29, 3)) := by decide +kernel
theorem dX9_init_39 : decode cX9_init 39 = .ok (.newarray .int, 2) := q9_dX9_init_39.1
theorem dX9_init_41 : decode cX9_init 41 = .ok (.putfield 23, 3) := q9_dX9_init_39.2.1
theorem dX9_init_44 : decode cX9_init 44 = .ok (.aload_n 0, 1) := q9_dX9_init_39.2.2.1
theorem dX9_init_45 : decode cX9_init 45 = .ok (.bipush 6, 2) := q9_dX9_init_39.2.2.2.1
theorem dX9_init_47 : decode cX9_init 47 = .ok (.newarray .int, 2) := q9_dX9_init_39.2.2.2.2.1
theorem dX9_init_49 : decode cX9_init 49 = .ok (.putfield 26, 3) := q9_dX9_init_39.2.2.2.2.2.1
theorem dX9_init_52 : decode cX9_init 52 = .ok (.aload_n 0, 1) := q9_dX9_init_39.2.2.2.2.2.2.1
theorem dX9_init_53 : decode cX9_init 53 = .ok (.bipush 6, 2) := q9_dX9_init_39.2.2.2.2.2.2.2.1
theorem dX9_init_55 : decode cX9_init 55 = .ok (.newarray .int, 2) := q9_dX9_init_39.2.2.2.2.2.2.2.2.1
theorem dX9_init_57 : decode cX9_init 57 = .ok (.putfield 29, 3) := q9_dX9_init_39.2.2.2.2.2.2.2.2.2
theorem q9_dX9_init_60 : (decode cX9_init 60 = .ok (.aload_n 0, 1)) ∧ (decode cX9_init 61 = .ok (.sipush 200, 3)) ∧ (decode cX9_init 64 = .ok (.putfield 32, 3)) ∧ (decode cX9_init 67 = .ok (.aload_n 0, 1)) ∧ (decode cX9_init 68 = .ok (.sipush 400, 3)) ∧ (decode cX9_init 71 = .ok (.putfield 36, 3)) ∧ (decode cX9_init 74 = .ok (.aload_n 0, 1)) ∧ (decode cX9_init 75 = .ok (.iconst 3, 1)) ∧ (decode cX9_init 76 = .ok (.putfield 39, 3)) ∧ (decode cX9_init 79 = .ok (.aload_n 0, 1)) := by decide +kernel
theorem dX9_init_60 : decode cX9_init 60 = .ok (.aload_n 0, 1) := q9_dX9_init_60.1
theorem dX9_init_61 : decode cX9_init 61 = .ok (.sipush 200, 3) := q9_dX9_init_60.2.1
theorem dX9_init_64 : decode cX9_init 64 = .ok (.putfield 32, 3) := q9_dX9_init_60.2.2.1
theorem dX9_init_67 : decode cX9_init 67 = .ok (.aload_n 0, 1) := q9_dX9_init_60.2.2.2.1
theorem dX9_init_68 : decode cX9_init 68 = .ok (.sipush 400, 3) := q9_dX9_init_60.2.2.2.2.1
theorem dX9_init_71 : decode cX9_init 71 = .ok (.putfield 36, 3) := q9_dX9_init_60.2.2.2.2.2.1
theorem dX9_init_74 : decode cX9_init 74 = .ok (.aload_n 0, 1) := q9_dX9_init_60.2.2.2.2.2.2.1
theorem dX9_init_75 : decode cX9_init 75 = .ok (.iconst 3, 1) := q9_dX9_init_60.2.2.2.2.2.2.2.1
theorem dX9_init_76 : decode cX9_init 76 = .ok (.putfield 39, 3) := q9_dX9_init_60.2.2.2.2.2.2.2.2.1
theorem dX9_init_79 : decode cX9_init 79 = .ok (.aload_n 0, 1) := q9_dX9_init_60.2.2.2.2.2.2.2.2.2
theorem q9_dX9_init_80 : (decode cX9_init 80 = .ok (.iconst 2, 1)) ∧ (decode cX9_init 81 = .ok (.putfield 42, 3)) ∧ (decode cX9_init 84 = .ok (.aload_n 0, 1)) ∧ (decode cX9_init 85 = .ok (.bipush 24, 2)) ∧ (decode cX9_init 87 = .ok (.newarray .int, 2)) ∧ (decode cX9_init 89 = .ok (.putfield 45, 3)) ∧ (decode cX9_init 92 = .ok (.aload_n 0, 1)) ∧ (decode cX9_init 93 = .ok (.iconst 2, 1)) ∧ (decode cX9_init 94 = .ok (.newarray .int, 2)) ∧ (decode cX9_init 96 = .ok (.putfield 48, 3)) := by decide +kernel
theorem dX9_init_80 : decode cX9_init 80 = .ok (.iconst 2, 1) := q9_dX9_init_80.1
theorem dX9_init_81 : decode cX9_init 81 = .ok (.putfield 42, 3) := q9_dX9_init_80.2.1
theorem dX9_init_84 : decode cX9_init 84 = .ok (.aload_n 0, 1) := q9_dX9_init_80.2.2.1
theorem dX9_init_85 : decode cX9_init 85 = .ok (.bipush 24, 2) := q9_dX9_init_80.2.2.2.1
theorem dX9_init_87 : decode cX9_init 87 = .ok (.newarray .int, 2) := q9_dX9_init_80.2.2.2.2.1
theorem dX9_init_89 : decode cX9_init 89 = .ok (.putfield 45, 3) := q9_dX9_init_80.2.2.2.2.2.1
theorem dX9_init_92 : decode cX9_init 92 = .ok (.aload_n 0, 1) := q9_dX9_init_80.2.2.2.2.2.2.1
theorem dX9_init_93 : decode cX9_init 93 = .ok (.iconst 2, 1) := q9_dX9_init_80.2.2.2.2.2.2.2.1
theorem dX9_init_94 : decode cX9_init 94 = .ok (.newarray .int, 2) := q9_dX9_init_80.2.2.2.2.2.2.2.2.1
theorem dX9_init_96 : decode cX9_init 96 = .ok (.putfield 48, 3) := q9_dX9_init_80.2.2.2.2.2.2.2.2.2
theorem q9_dX9_init_99 : (decode cX9_init 99 = .ok (.aload_n 0, 1)) ∧ (decode cX9_init 100 = .ok (.iconst 2, 1)) ∧ (decode cX9_init 101 = .ok (.newarray .int, 2)) ∧ (decode cX9_init 103 = .ok (.putfield 51, 3)) ∧ (decode cX9_init 106 = .ok (.aload_n 0, 1)) ∧ (decode cX9_init 107 = .ok (.iconst 2, 1)) ∧ (decode cX9_init 108 = .ok (.newarray .int, 2)) ∧ (decode cX9_init 110 = .ok (.putfield 54, 3)) ∧ (decode cX9_init 113 = .ok (.aload_n 0, 1)) ∧ (decode cX9_init 114 = .ok (.iconst 2, 1)) := by decide +kernel
theorem dX9_init_99 : decode cX9_init 99 = .ok (.aload_n 0, 1) := q9_dX9_init_99.1
theorem dX9_init_100 : decode cX9_init 100 = .ok (.iconst 2, 1) := q9_dX9_init_99.2.1
theorem dX9_init_101 : decode cX9_init 101 = .ok (.newarray .int, 2) := q9_dX9_init_99.2.2.1
theorem dX9_init_103 : decode cX9_init 103 = .ok (.putfield 51, 3) := q9_dX9_init_99.2.2.2.1
theorem dX9_init_106 : decode cX9_init 106 = .ok (.aload_n 0, 1) := q9_dX9_init_99.2.2.2.2.1
theorem dX9_init_107 : decode cX9_init 107 = .ok (.iconst 2, 1) := q9_dX9_init_99.2.2.2.2.2.1
theorem dX9_init_108 : decode cX9_init 108 = .ok (.newarray .int, 2) := q9_dX9_init_99.2.2.2.2.2.2.1
theorem dX9_init_110 : decode cX9_init 110 = .ok (.putfield 54, 3) := q9_dX9_init_99.2.2.2.2.2.2.2.1
theorem dX9_init_113 : decode cX9_init 113 = .ok (.aload_n 0, 1) := q9_dX9_init_99.2.2.2.2.2.2.2.2.1
theorem dX9_init_114 : decode cX9_init 114 = .ok (.iconst 2, 1) := q9_dX9_init_99.2.2.2.2.2.2.2.2.2
theorem q9_dX9_init_115 : (decode cX9_init 115 = .ok (.newarray .int, 2)) ∧ (decode cX9_init 117 = .ok (.putfield 57, 3)) ∧ (decode cX9_init 120 = .ok (.aload_n 0, 1)) ∧ (decode cX9_init 121 = .ok (.iconst 2, 1)) ∧ (decode cX9_init 122 = .ok (.newarray .int, 2)) ∧ (decode cX9_init 124 = .ok (.putfield 60, 3)) ∧ (decode cX9_init 127 = .ok (.aload_n 0, 1)) ∧ (decode cX9_init 128 = .ok (.iconst 2, 1)) ∧ (decode cX9_init 129 = .ok (.newarray .int, 2)) ∧ (decode cX9_init 131 = .ok (.putfield 63, 3)) := by decide +kernel
theorem dX9_init_115 : decode cX9_init 115 = .ok (.newarray .int, 2) := q9_dX9_init_115.1
theorem dX9_init_117 : decode cX9_init 117 = .ok (.putfield 57, 3) := q9_dX9_init_115.2.1
theorem dX9_init_120 : decode cX9_init 120 = .ok (.aload_n 0, 1) := q9_dX9_init_115.2.2.1
theorem dX9_init_121 : decode cX9_init 121 = .ok (.iconst 2, 1) := q9_dX9_init_115.2.2.2.1
theorem dX9_init_122 : decode cX9_init 122 = .ok (.newarray .int, 2) := q9_dX9_init_115.2.2.2.2.1
theorem dX9_init_124 : decode cX9_init 124 = .ok (.putfield 60, 3) := q9_dX9_init_115.2.2.2.2.2.1
theorem dX9_init_127 : decode cX9_init 127 = .ok (.aload_n 0, 1) := q9_dX9_init_115.2.2.2.2.2.2.1
theorem dX9_init_128 : decode cX9_init 128 = .ok (.iconst 2, 1) := q9_dX9_init_115.2.2.2.2.2.2.2.1
theorem dX9_init_129 : decode cX9_init 129 = .ok (.newarray .int, 2) := q9_dX9_init_115.2.2.2.2.2.2.2.2.1
theorem dX9_init_131 : decode cX9_init 131 = .ok (.putfield 63, 3) := q9_dX9_init_115.2.2.2.2.2.2.2.2.2
theorem q9_dX9_init_134 : (decode cX9_init 134 = .ok (.aload_n 0, 1)) ∧ (decode cX9_init 135 = .ok (.iconst 2, 1)) ∧ (decode cX9_init 136 = .ok (.newarray .int, 2)) ∧ (decode cX9_init 138 = .ok (.putfield 66, 3)) ∧ (decode cX9_init 141 = .ok (.aload_n 0, 1)) ∧ (decode cX9_init 142 = .ok (.iconst 2, 1)) ∧ (decode cX9_init 143 = .ok (.newarray .boolean, 2)) ∧ (decode cX9_init 145 = .ok (.putfield 69, 3)) ∧ (decode cX9_init 148 = .ok (.aload_n 0, 1)) ∧ (decode cX9_init 149 = .ok (.sipush 200, 3)) := by decide +kernel
theorem dX9_init_134 : decode cX9_init 134 = .ok (.aload_n 0, 1) := q9_dX9_init_134.1
theorem dX9_init_135 : decode cX9_init 135 = .ok (.iconst 2, 1) := q9_dX9_init_134.2.1
theorem dX9_init_136 : decode cX9_init 136 = .ok (.newarray .int, 2) := q9_dX9_init_134.2.2.1
theorem dX9_init_138 : decode cX9_init 138 = .ok (.putfield 66, 3) := q9_dX9_init_134.2.2.2.1
theorem dX9_init_141 : decode cX9_init 141 = .ok (.aload_n 0, 1) := q9_dX9_init_134.2.2.2.2.1
theorem dX9_init_142 : decode cX9_init 142 = .ok (.iconst 2, 1) := q9_dX9_init_134.2.2.2.2.2.1
theorem dX9_init_143 : decode cX9_init 143 = .ok (.newarray .boolean, 2) := q9_dX9_init_134.2.2.2.2.2.2.1
theorem dX9_init_145 : decode cX9_init 145 = .ok (.putfield 69, 3) := q9_dX9_init_134.2.2.2.2.2.2.2.1
theorem dX9_init_148 : decode cX9_init 148 = .ok (.aload_n 0, 1) := q9_dX9_init_134.2.2.2.2.2.2.2.2.1
theorem dX9_init_149 : decode cX9_init 149 = .ok (.sipush 200, 3) := q9_dX9_init_134.2.2.2.2.2.2.2.2.2
theorem q9_dX9_init_152 : (decode cX9_init 152 = .ok (.newarray .int, 2)) ∧ (decode cX9_init 154 = .ok (.putfield 73, 3)) ∧ (decode cX9_init 157 = .ok (.aload_n 0, 1)) ∧ (decode cX9_init 158 = .ok (.sipush 200, 3)) ∧ (decode cX9_init 161 = .ok (.newarray .int, 2)) ∧ (decode cX9_init 163 = .ok (.putfield 76, 3)) ∧ (decode cX9_init 166 = .ok (.aload_n 0, 1)) ∧ (decode cX9_init 167 = .ok (.sipush 200, 3)) ∧ (decode cX9_init 170 = .ok (.newarray .int, 2)) ∧ (decode cX9_init 172 = .ok (.putfield 79, 3)) := by decide +kernel
theorem dX9_init_152 : decode cX9_init 152 = .ok (.newarray .int, 2) := q9_dX9_init_152.1
theorem dX9_init_154 : decode cX9_init 154 = .ok (.putfield 73, 3) := q9_dX9_init_152.2.1
theorem dX9_init_157 : decode cX9_init 157 = .ok (.aload_n 0, 1) := q9_dX9_init_152.2.2.1
theorem dX9_init_158 : decode cX9_init 158 = .ok (.sipush 200, 3) := q9_dX9_init_152.2.2.2.1
theorem dX9_init_161 : decode cX9_init 161 = .ok (.newarray .int, 2) := q9_dX9_init_152.2.2.2.2.1
theorem dX9_init_163 : decode cX9_init 163 = .ok (.putfield 76, 3) := q9_dX9_init_152.2.2.2.2.2.1
theorem dX9_init_166 : decode cX9_init 166 = .ok (.aload_n 0, 1) := q9_dX9_init_152.2.2.2.2.2.2.1
theorem dX9_init_167 : decode cX9_init 167 = .ok (.sipush 200, 3) := q9_dX9_init_152.2.2.2.2.2.2.2.1
theorem dX9_init_170 : decode cX9_init 170 = .ok (.newarray .int, 2) := q9_dX9_init_152.2.2.2.2.2.2.2.2.1
theorem dX9_init_172 : decode cX9_init 172 = .ok (.putfield 79, 3) := q9_dX9_init_152.2.2.2.2.2.2.2.2.2
theorem q9_dX9_init_175 : (decode cX9_init 175 = .ok (.aload_n 0, 1)) ∧ (decode cX9_init 176 = .ok (.sipush 200, 3)) ∧ (decode cX9_init 179 = .ok (.newarray .int, 2)) ∧ (decode cX9_init 181 = .ok (.putfield 82, 3)) ∧ (decode cX9_init 184 = .ok (.aload_n 0, 1)) ∧ (decode cX9_init 185 = .ok (.sipush 200, 3)) ∧ (decode cX9_init 188 = .ok (.newarray .int, 2)) ∧ (decode cX9_init 190 = .ok (.putfield 85, 3)) ∧ (decode cX9_init 193 = .ok (.aload_n 0, 1)) ∧ (decode cX9_init 194 = .ok (.sipush 200, 3)) := by decide +kernel
theorem dX9_init_175 : decode cX9_init 175 = .ok (.aload_n 0, 1) := q9_dX9_init_175.1
theorem dX9_init_176 : decode cX9_init 176 = .ok (.sipush 200, 3) := q9_dX9_init_175.2.1
theorem dX9_init_179 : decode cX9_init 179 = .ok (.newarray .int, 2) := q9_dX9_init_175.2.2.1
theorem dX9_init_181 : decode cX9_init 181 = .ok (.putfield 82, 3) := q9_dX9_init_175.2.2.2.1
theorem dX9_init_184 : decode cX9_init 184 = .ok (.aload_n 0, 1) := q9_dX9_init_175.2.2.2.2.1
theorem dX9_init_185 : decode cX9_init 185 = .ok (.sipush 200, 3) := q9_dX9_init_175.2.2.2.2.2.1
theorem dX9_init_188 : decode cX9_init 188 = .ok (.newarray .int, 2) := q9_dX9_init_175.2.2.2.2.2.2.1
theorem dX9_init_190 : decode cX9_init 190 = .ok (.putfield 85, 3) := q9_dX9_init_175.2.2.2.2.2.2.2.1
theorem dX9_init_193 : decode cX9_init 193 = .ok (.aload_n 0, 1) := q9_dX9_init_175.2.2.2.2.2.2.2.2.1
theorem dX9_init_194 : decode cX9_init 194 = .ok (.sipush 200, 3) := q9_dX9_init_175.2.2.2.2.2.2.2.2.2
theorem q9_dX9_init_197 : (decode cX9_init 197 = .ok (.newarray .int, 2)) ∧ (decode cX9_init 199 = .ok (.putfield 88, 3)) ∧ (decode cX9_init 202 = .ok (.aload_n 0, 1)) ∧ (decode cX9_init 203 = .ok (.sipush 200, 3)) ∧ (decode cX9_init 206 = .ok (.newarray .int, 2)) ∧ (decode cX9_init 208 = .ok (.putfield 91, 3)) ∧ (decode cX9_init 211 = .ok (.aload_n 0, 1)) ∧ (decode cX9_init 212 = .ok (.sipush 200, 3)) ∧ (decode cX9_init 215 = .ok (.newarray .int, 2)) ∧ (decode cX9_init 217 = .ok (.putfield 94, 3)) := by decide +kernel
theorem dX9_init_197 : decode cX9_init 197 = .ok (.newarray .int, 2) := q9_dX9_init_197.1
theorem dX9_init_199 : decode cX9_init 199 = .ok (.putfield 88, 3) := q9_dX9_init_197.2.1
theorem dX9_init_202 : decode cX9_init 202 = .ok (.aload_n 0, 1) := q9_dX9_init_197.2.2.1
theorem dX9_init_203 : decode cX9_init 203 = .ok (.sipush 200, 3) := q9_dX9_init_197.2.2.2.1
theorem dX9_init_206 : decode cX9_init 206 = .ok (.newarray .int, 2) := q9_dX9_init_197.2.2.2.2.1
theorem dX9_init_208 : decode cX9_init 208 = .ok (.putfield 91, 3) := q9_dX9_init_197.2.2.2.2.2.1
theorem dX9_init_211 : decode cX9_init 211 = .ok (.aload_n 0, 1) := q9_dX9_init_197.2.2.2.2.2.2.1
theorem dX9_init_212 : decode cX9_init 212 = .ok (.sipush 200, 3) := q9_dX9_init_197.2.2.2.2.2.2.2.1
theorem dX9_init_215 : decode cX9_init 215 = .ok (.newarray .int, 2) := q9_dX9_init_197.2.2.2.2.2.2.2.2.1
theorem dX9_init_217 : decode cX9_init 217 = .ok (.putfield 94, 3) := q9_dX9_init_197.2.2.2.2.2.2.2.2.2
theorem q9_dX9_init_220 : (decode cX9_init 220 = .ok (.aload_n 0, 1)) ∧ (decode cX9_init 221 = .ok (.sipush 200, 3)) ∧ (decode cX9_init 224 = .ok (.newarray .int, 2)) ∧ (decode cX9_init 226 = .ok (.putfield 97, 3)) ∧ (decode cX9_init 229 = .ok (.aload_n 0, 1)) ∧ (decode cX9_init 230 = .ok (.bipush 10, 2)) ∧ (decode cX9_init 232 = .ok (.newarray .int, 2)) ∧ (decode cX9_init 234 = .ok (.putfield 100, 3)) ∧ (decode cX9_init 237 = .ok (.aload_n 0, 1)) ∧ (decode cX9_init 238 = .ok (.bipush 10, 2)) := by decide +kernel
theorem dX9_init_220 : decode cX9_init 220 = .ok (.aload_n 0, 1) := q9_dX9_init_220.1
theorem dX9_init_221 : decode cX9_init 221 = .ok (.sipush 200, 3) := q9_dX9_init_220.2.1
theorem dX9_init_224 : decode cX9_init 224 = .ok (.newarray .int, 2) := q9_dX9_init_220.2.2.1
theorem dX9_init_226 : decode cX9_init 226 = .ok (.putfield 97, 3) := q9_dX9_init_220.2.2.2.1
theorem dX9_init_229 : decode cX9_init 229 = .ok (.aload_n 0, 1) := q9_dX9_init_220.2.2.2.2.1
theorem dX9_init_230 : decode cX9_init 230 = .ok (.bipush 10, 2) := q9_dX9_init_220.2.2.2.2.2.1
theorem dX9_init_232 : decode cX9_init 232 = .ok (.newarray .int, 2) := q9_dX9_init_220.2.2.2.2.2.2.1
theorem dX9_init_234 : decode cX9_init 234 = .ok (.putfield 100, 3) := q9_dX9_init_220.2.2.2.2.2.2.2.1
theorem dX9_init_237 : decode cX9_init 237 = .ok (.aload_n 0, 1) := q9_dX9_init_220.2.2.2.2.2.2.2.2.1
theorem dX9_init_238 : decode cX9_init 238 = .ok (.bipush 10, 2) := q9_dX9_init_220.2.2.2.2.2.2.2.2.2
theorem q9_dX9_init_240 : (decode cX9_init 240 = .ok (.newarray .int, 2)) ∧ (decode cX9_init 242 = .ok (.putfield 103, 3)) ∧ (decode cX9_init 245 = .ok (.aload_n 0, 1)) ∧ (decode cX9_init 246 = .ok (.bipush 10, 2)) ∧ (decode cX9_init 248 = .ok (.newarray .int, 2)) ∧ (decode cX9_init 250 = .ok (.putfield 106, 3)) ∧ (decode cX9_init 253 = .ok (.aload_n 0, 1)) ∧ (decode cX9_init 254 = .ok (.iconst 5, 1)) ∧ (decode cX9_init 255 = .ok (.newarray .int, 2)) ∧ (decode cX9_init 257 = .ok (.putfield 109, 3)) := by decide +kernel
theorem dX9_init_240 : decode cX9_init 240 = .ok (.newarray .int, 2) := q9_dX9_init_240.1
theorem dX9_init_242 : decode cX9_init 242 = .ok (.putfield 103, 3) := q9_dX9_init_240.2.1
theorem dX9_init_245 : decode cX9_init 245 = .ok (.aload_n 0, 1) := q9_dX9_init_240.2.2.1
theorem dX9_init_246 : decode cX9_init 246 = .ok (.bipush 10, 2) := q9_dX9_init_240.2.2.2.1
theorem dX9_init_248 : decode cX9_init 248 = .ok (.newarray .int, 2) := q9_dX9_init_240.2.2.2.2.1
theorem dX9_init_250 : decode cX9_init 250 = .ok (.putfield 106, 3) := q9_dX9_init_240.2.2.2.2.2.1
theorem dX9_init_253 : decode cX9_init 253 = .ok (.aload_n 0, 1) := q9_dX9_init_240.2.2.2.2.2.2.1
theorem dX9_init_254 : decode cX9_init 254 = .ok (.iconst 5, 1) := q9_dX9_init_240.2.2.2.2.2.2.2.1
theorem dX9_init_255 : decode cX9_init 255 = .ok (.newarray .int, 2) := q9_dX9_init_240.2.2.2.2.2.2.2.2.1
theorem dX9_init_257 : decode cX9_init 257 = .ok (.putfield 109, 3) := q9_dX9_init_240.2.2.2.2.2.2.2.2.2
theorem q9_dX9_init_260 : (decode cX9_init 260 = .ok (.aload_n 0, 1)) ∧ (decode cX9_init 261 = .ok (.iconst 5, 1)) ∧ (decode cX9_init 262 = .ok (.newarray .int, 2)) ∧ (decode cX9_init 264 = .ok (.putfield 112, 3)) ∧ (decode cX9_init 267 = .ok (.aload_n 0, 1)) ∧ (decode cX9_init 268 = .ok (.iconst 5, 1)) ∧ (decode cX9_init 269 = .ok (.newarray .int, 2)) ∧ (decode cX9_init 271 = .ok (.putfield 115, 3)) ∧ (decode cX9_init 274 = .ok (.aload_n 0, 1)) ∧ (decode cX9_init 275 = .ok (.iconst 5, 1)) := by decide +kernel
theorem dX9_init_260 : decode cX9_init 260 = .ok (.aload_n 0, 1) := q9_dX9_init_260.1
theorem dX9_init_261 : decode cX9_init 261 = .ok (.iconst 5, 1) := q9_dX9_init_260.2.1
theorem dX9_init_262 : decode cX9_init 262 = .ok (.newarray .int, 2) := q9_dX9_init_260.2.2.1
theorem dX9_init_264 : decode cX9_init 264 = .ok (.putfield 112, 3) := q9_dX9_init_260.2.2.2.1
theorem dX9_init_267 : decode cX9_init 267 = .ok (.aload_n 0, 1) := q9_dX9_init_260.2.2.2.2.1
theorem dX9_init_268 : decode cX9_init 268 = .ok (.iconst 5, 1) := q9_dX9_init_260.2.2.2.2.2.1
theorem dX9_init_269 : decode cX9_init 269 = .ok (.newarray .int, 2) := q9_dX9_init_260.2.2.2.2.2.2.1
theorem dX9_init_271 : decode cX9_init 271 = .ok (.putfield 115, 3) := q9_dX9_init_260.2.2.2.2.2.2.2.1
theorem dX9_init_274 : decode cX9_init 274 = .ok (.aload_n 0, 1) := q9_dX9_init_260.2.2.2.2.2.2.2.2.1
theorem dX9_init_275 : decode cX9_init 275 = .ok (.iconst 5, 1) := q9_dX9_init_260.2.2.2.2.2.2.2.2.2
theorem q9_dX9_init_276 : (decode cX9_init 276 = .ok (.newarray .int, 2)) ∧ (decode cX9_init 278 = .ok (.putfield 118, 3)) ∧ (decode cX9_init 281 = .ok (.aload_n 0, 1)) ∧ (decode cX9_init 282 = .ok (.bipush 8, 2)) ∧ (decode cX9_init 284 = .ok (.newarray .int, 2)) ∧ (decode cX9_init 286 = .ok (.putfield 121, 3)) ∧ (decode cX9_init 289 = .ok (.aload_n 0, 1)) ∧ (decode cX9_init 290 = .ok (.bipush 8, 2)) ∧ (decode cX9_init 292 = .ok (.newarray .int, 2)) ∧ (decode cX9_init 294 = .ok (.putfield 124, 3)) := by decide +kernel
theorem dX9_init_276 : decode cX9_init 276 = .ok (.newarray .int, 2) := q9_dX9_init_276.1
theorem dX9_init_278 : decode cX9_init 278 = .ok (.putfield 118, 3) := q9_dX9_init_276.2.1
theorem dX9_init_281 : decode cX9_init 281 = .ok (.aload_n 0, 1) := q9_dX9_init_276.2.2.1
theorem dX9_init_282 : decode cX9_init 282 = .ok (.bipush 8, 2) := q9_dX9_init_276.2.2.2.1
theorem dX9_init_284 : decode cX9_init 284 = .ok (.newarray .int, 2) := q9_dX9_init_276.2.2.2.2.1
theorem dX9_init_286 : decode cX9_init 286 = .ok (.putfield 121, 3) := q9_dX9_init_276.2.2.2.2.2.1
theorem dX9_init_289 : decode cX9_init 289 = .ok (.aload_n 0, 1) := q9_dX9_init_276.2.2.2.2.2.2.1
theorem dX9_init_290 : decode cX9_init 290 = .ok (.bipush 8, 2) := q9_dX9_init_276.2.2.2.2.2.2.2.1
theorem dX9_init_292 : decode cX9_init 292 = .ok (.newarray .int, 2) := q9_dX9_init_276.2.2.2.2.2.2.2.2.1
theorem dX9_init_294 : decode cX9_init 294 = .ok (.putfield 124, 3) := q9_dX9_init_276.2.2.2.2.2.2.2.2.2
theorem q9_dX9_init_297 : (decode cX9_init 297 = .ok (.aload_n 0, 1)) ∧ (decode cX9_init 298 = .ok (.bipush 8, 2)) ∧ (decode cX9_init 300 = .ok (.newarray .int, 2)) ∧ (decode cX9_init 302 = .ok (.putfield 127, 3)) ∧ (decode cX9_init 305 = .ok (.aload_n 0, 1)) ∧ (decode cX9_init 306 = .ok (.bipush 8, 2)) ∧ (decode cX9_init 308 = .ok (.newarray .int, 2)) ∧ (decode cX9_init 310 = .ok (.putfield 130, 3)) ∧ (decode cX9_init 313 = .ok (.aload_n 0, 1)) ∧ (decode cX9_init 314 = .ok (.bipush 6, 2)) := by decide +kernel
theorem dX9_init_297 : decode cX9_init 297 = .ok (.aload_n 0, 1) := q9_dX9_init_297.1
theorem dX9_init_298 : decode cX9_init 298 = .ok (.bipush 8, 2) := q9_dX9_init_297.2.1
theorem dX9_init_300 : decode cX9_init 300 = .ok (.newarray .int, 2) := q9_dX9_init_297.2.2.1
theorem dX9_init_302 : decode cX9_init 302 = .ok (.putfield 127, 3) := q9_dX9_init_297.2.2.2.1
theorem dX9_init_305 : decode cX9_init 305 = .ok (.aload_n 0, 1) := q9_dX9_init_297.2.2.2.2.1
theorem dX9_init_306 : decode cX9_init 306 = .ok (.bipush 8, 2) := q9_dX9_init_297.2.2.2.2.2.1
theorem dX9_init_308 : decode cX9_init 308 = .ok (.newarray .int, 2) := q9_dX9_init_297.2.2.2.2.2.2.1
theorem dX9_init_310 : decode cX9_init 310 = .ok (.putfield 130, 3) := q9_dX9_init_297.2.2.2.2.2.2.2.1
theorem dX9_init_313 : decode cX9_init 313 = .ok (.aload_n 0, 1) := q9_dX9_init_297.2.2.2.2.2.2.2.2.1
theorem dX9_init_314 : decode cX9_init 314 = .ok (.bipush 6, 2) := q9_dX9_init_297.2.2.2.2.2.2.2.2.2
theorem q9_dX9_init_316 : (decode cX9_init 316 = .ok (.newarray .int, 2)) ∧ (decode cX9_init 318 = .ok (.putfield 133, 3)) ∧ (decode cX9_init 321 = .ok (.aload_n 0, 1)) ∧ (decode cX9_init 322 = .ok (.bipush 6, 2)) ∧ (decode cX9_init 324 = .ok (.newarray .long, 2)) ∧ (decode cX9_init 326 = .ok (.putfield 136, 3)) ∧ (decode cX9_init 329 = .ok (.aload_n 0, 1)) ∧ (decode cX9_init 330 = .ok (.getfield 48, 3)) ∧ (decode cX9_init 333 = .ok (.iconst 0, 1)) ∧ (decode cX9_init 334 = .ok (.sipush 300, 3)) := by decide +kernel
theorem dX9_init_316 : decode cX9_init 316 = .ok (.newarray .int, 2) := q9_dX9_init_316.1
theorem dX9_init_318 : decode cX9_init 318 = .ok (.putfield 133, 3) := q9_dX9_init_316.2.1
theorem dX9_init_321 : decode cX9_init 321 = .ok (.aload_n 0, 1) := q9_dX9_init_316.2.2.1
theorem dX9_init_322 : decode cX9_init 322 = .ok (.bipush 6, 2) := q9_dX9_init_316.2.2.2.1
theorem dX9_init_324 : decode cX9_init 324 = .ok (.newarray .long, 2) := q9_dX9_init_316.2.2.2.2.1
theorem dX9_init_326 : decode cX9_init 326 = .ok (.putfield 136, 3) := q9_dX9_init_316.2.2.2.2.2.1
theorem dX9_init_329 : decode cX9_init 329 = .ok (.aload_n 0, 1) := q9_dX9_init_316.2.2.2.2.2.2.1
theorem dX9_init_330 : decode cX9_init 330 = .ok (.getfield 48, 3) := q9_dX9_init_316.2.2.2.2.2.2.2.1
theorem dX9_init_333 : decode cX9_init 333 = .ok (.iconst 0, 1) := q9_dX9_init_316.2.2.2.2.2.2.2.2.1
theorem dX9_init_334 : decode cX9_init 334 = .ok (.sipush 300, 3) := q9_dX9_init_316.2.2.2.2.2.2.2.2.2
theorem q9_dX9_init_337 : (decode cX9_init 337 = .ok (.iastore, 1)) ∧ (decode cX9_init 338 = .ok (.aload_n 0, 1)) ∧ (decode cX9_init 339 = .ok (.getfield 48, 3)) ∧ (decode cX9_init 342 = .ok (.iconst 1, 1)) ∧ (decode cX9_init 343 = .ok (.sipush 300, 3)) ∧ (decode cX9_init 346 = .ok (.iastore, 1)) ∧ (decode cX9_init 347 = .ok (.iconst 0, 1)) ∧ (decode cX9_init 348 = .ok (.istore_n 1, 1)) ∧ (decode cX9_init 349 = .ok (.iload_n 1, 1)) ∧ (decode cX9_init 350 = .ok (.bipush 24, 2)) := by decide +kernel
theorem dX9_init_337 : decode cX9_init 337 = .ok (.iastore, 1) := q9_dX9_init_337.1
theorem dX9_init_338 : decode cX9_init 338 = .ok (.aload_n 0, 1) := q9_dX9_init_337.2.1
theorem dX9_init_339 : decode cX9_init 339 = .ok (.getfield 48, 3) := q9_dX9_init_337.2.2.1
theorem dX9_init_342 : decode cX9_init 342 = .ok (.iconst 1, 1) := q9_dX9_init_337.2.2.2.1
theorem dX9_init_343 : decode cX9_init 343 = .ok (.sipush 300, 3) := q9_dX9_init_337.2.2.2.2.1
theorem dX9_init_346 : decode cX9_init 346 = .ok (.iastore, 1) := q9_dX9_init_337.2.2.2.2.2.1
theorem dX9_init_347 : decode cX9_init 347 = .ok (.iconst 0, 1) := q9_dX9_init_337.2.2.2.2.2.2.1
theorem dX9_init_348 : decode cX9_init 348 = .ok (.istore_n 1, 1) := q9_dX9_init_337.2.2.2.2.2.2.2.1
theorem dX9_init_349 : decode cX9_init 349 = .ok (.iload_n 1, 1) := q9_dX9_init_337.2.2.2.2.2.2.2.2.1
theorem dX9_init_350 : decode cX9_init 350 = .ok (.bipush 24, 2) := q9_dX9_init_337.2.2.2.2.2.2.2.2.2
theorem q9_dX9_init_352 : (decode cX9_init 352 = .ok (.if_icmp .ge 17, 3)) ∧ (decode cX9_init 355 = .ok (.aload_n 0, 1)) ∧ (decode cX9_init 356 = .ok (.getfield 45, 3)) ∧ (decode cX9_init 359 = .ok (.iload_n 1, 1)) ∧ (decode cX9_init 360 = .ok (.bipush 10, 2)) ∧ (decode cX9_init 362 = .ok (.iastore, 1)) ∧ (decode cX9_init 363 = .ok (.iinc 1 1, 3)) ∧ (decode cX9_init 366 = .ok (.goto (-17), 3)) ∧ (decode cX9_init 369 = .ok (.iconst 0, 1)) ∧ (decode cX9_init 370 = .ok (.istore_n 1, 1)) := by decide +kernel
theorem dX9_init_352 : decode cX9_init 352 = .ok (.if_icmp .ge 17, 3) := q9_dX9_init_352.1
theorem dX9_init_355 : decode cX9_init 355 = .ok (.aload_n 0, 1) := q9_dX9_init_352.2.1
theorem dX9_init_356 : decode cX9_init 356 = .ok (.getfield 45, 3) := q9_dX9_init_352.2.2.1
theorem dX9_init_359 : decode cX9_init 359 = .ok (.iload_n 1, 1) := q9_dX9_init_352.2.2.2.1
theorem dX9_init_360 : decode cX9_init 360 = .ok (.bipush 10, 2) := q9_dX9_init_352.2.2.2.2.1
theorem dX9_init_362 : decode cX9_init 362 = .ok (.iastore, 1) := q9_dX9_init_352.2.2.2.2.2.1
theorem dX9_init_363 : decode cX9_init 363 = .ok (.iinc 1 1, 3) := q9_dX9_init_352.2.2.2.2.2.2.1
theorem dX9_init_366 : decode cX9_init 366 = .ok (.goto (-17), 3) := q9_dX9_init_352.2.2.2.2.2.2.2.1
theorem dX9_init_369 : decode cX9_init 369 = .ok (.iconst 0, 1) := q9_dX9_init_352.2.2.2.2.2.2.2.2.1
theorem dX9_init_370 : decode cX9_init 370 = .ok (.istore_n 1, 1) := q9_dX9_init_352.2.2.2.2.2.2.2.2.2
theorem q9_dX9_init_371 : (decode cX9_init 371 = .ok (.iload_n 1, 1)) ∧ (decode cX9_init 372 = .ok (.bipush 6, 2)) ∧ (decode cX9_init 374 = .ok (.if_icmp .ge 58, 3)) ∧ (decode cX9_init 377 = .ok (.aload_n 0, 1)) ∧ (decode cX9_init 378 = .ok (.getfield 13, 3)) ∧ (decode cX9_init 381 = .ok (.iload_n 1, 1)) ∧ (decode cX9_init 382 = .ok (.ldc 140, 2)) ∧ (decode cX9_init 384 = .ok (.iastore, 1)) ∧ (decode cX9_init 385 = .ok (.aload_n 0, 1)) ∧ (decode cX9_init 386 = .ok (.getfield 17, 3)) := by decide +kernel
theorem dX9_init_371 : decode cX9_init 371 = .ok (.iload_n 1, 1) := q9_dX9_init_371.1
theorem dX9_init_372 : decode cX9_init 372 = .ok (.bipush 6, 2) := q9_dX9_init_371.2.1
theorem dX9_init_374 : decode cX9_init 374 = .ok (.if_icmp .ge 58, 3) := q9_dX9_init_371.2.2.1
theorem dX9_init_377 : decode cX9_init 377 = .ok (.aload_n 0, 1) := q9_dX9_init_371.2.2.2.1
theorem dX9_init_378 : decode cX9_init 378 = .ok (.getfield 13, 3) := q9_dX9_init_371.2.2.2.2.1
theorem dX9_init_381 : decode cX9_init 381 = .ok (.iload_n 1, 1) := q9_dX9_init_371.2.2.2.2.2.1
theorem dX9_init_382 : decode cX9_init 382 = .ok (.ldc 140, 2) := q9_dX9_init_371.2.2.2.2.2.2.1
theorem dX9_init_384 : decode cX9_init 384 = .ok (.iastore, 1) := q9_dX9_init_371.2.2.2.2.2.2.2.1
theorem dX9_init_385 : decode cX9_init 385 = .ok (.aload_n 0, 1) := q9_dX9_init_371.2.2.2.2.2.2.2.2.1
theorem dX9_init_386 : decode cX9_init 386 = .ok (.getfield 17, 3) := q9_dX9_init_371.2.2.2.2.2.2.2.2.2
theorem q9_dX9_init_389 : (decode cX9_init 389 = .ok (.iload_n 1, 1)) ∧ (decode cX9_init 390 = .ok (.bipush 127, 2)) ∧ (decode cX9_init 392 = .ok (.iastore, 1)) ∧ (decode cX9_init 393 = .ok (.aload_n 0, 1)) ∧ (decode cX9_init 394 = .ok (.getfield 20, 3)) ∧ (decode cX9_init 397 = .ok (.iload_n 1, 1)) ∧ (decode cX9_init 398 = .ok (.bipush 15, 2)) ∧ (decode cX9_init 400 = .ok (.iastore, 1)) ∧ (decode cX9_init 401 = .ok (.aload_n 0, 1)) ∧ (decode cX9_init 402 = .ok (.getfield 23, 3)) := by decide +kernel
theorem dX9_init_389 : decode cX9_init 389 = .ok (.iload_n 1, 1) := q9_dX9_init_389.1
theorem dX9_init_390 : decode cX9_init 390 = .ok (.bipush 127, 2) := q9_dX9_init_389.2.1
theorem dX9_init_392 : decode cX9_init 392 = .ok (.iastore, 1) := q9_dX9_init_389.2.2.1
theorem dX9_init_393 : decode cX9_init 393 = .ok (.aload_n 0, 1) := q9_dX9_init_389.2.2.2.1
theorem dX9_init_394 : decode cX9_init 394 = .ok (.getfield 20, 3) := q9_dX9_init_389.2.2.2.2.1
theorem dX9_init_397 : decode cX9_init 397 = .ok (.iload_n 1, 1) := q9_dX9_init_389.2.2.2.2.2.1
theorem dX9_init_398 : decode cX9_init 398 = .ok (.bipush 15, 2) := q9_dX9_init_389.2.2.2.2.2.2.1
theorem dX9_init_400 : decode cX9_init 400 = .ok (.iastore, 1) := q9_dX9_init_389.2.2.2.2.2.2.2.1
theorem dX9_init_401 : decode cX9_init 401 = .ok (.aload_n 0, 1) := q9_dX9_init_389.2.2.2.2.2.2.2.2.1
theorem dX9_init_402 : decode cX9_init 402 = .ok (.getfield 23, 3) := q9_dX9_init_389.2.2.2.2.2.2.2.2.2
theorem q9_dX9_init_405 : (decode cX9_init 405 = .ok (.iload_n 1, 1)) ∧ (decode cX9_init 406 = .ok (.sipush 168, 3)) ∧ (decode cX9_init 409 = .ok (.iastore, 1)) ∧ (decode cX9_init 410 = .ok (.aload_n 0, 1)) ∧ (decode cX9_init 411 = .ok (.getfield 26, 3)) ∧ (decode cX9_init 414 = .ok (.iload_n 1, 1)) ∧ (decode cX9_init 415 = .ok (.bipush 100, 2)) ∧ (decode cX9_init 417 = .ok (.iastore, 1)) ∧ (decode cX9_init 418 = .ok (.aload_n 0, 1)) ∧ (decode cX9_init 419 = .ok (.getfield 29, 3)) := by decide +kernel
theorem dX9_init_405 : decode cX9_init 405 = .ok (.iload_n 1, 1) := q9_dX9_init_405.1
theorem dX9_init_406 : decode cX9_init 406 = .ok (.sipush 168, 3) := q9_dX9_init_405.2.1
theorem dX9_init_409 : decode cX9_init 409 = .ok (.iastore, 1) := q9_dX9_init_405.2.2.1
theorem dX9_init_410 : decode cX9_init 410 = .ok (.aload_n 0, 1) := q9_dX9_init_405.2.2.2.1
theorem dX9_init_411 : decode cX9_init 411 = .ok (.getfield 26, 3) := q9_dX9_init_405.2.2.2.2.1
theorem dX9_init_414 : decode cX9_init 414 = .ok (.iload_n 1, 1) := q9_dX9_init_405.2.2.2.2.2.1
theorem dX9_init_415 : decode cX9_init 415 = .ok (.bipush 100, 2) := q9_dX9_init_405.2.2.2.2.2.2.1
theorem dX9_init_417 : decode cX9_init 417 = .ok (.iastore, 1) := q9_dX9_init_405.2.2.2.2.2.2.2.1
theorem dX9_init_418 : decode cX9_init 418 = .ok (.aload_n 0, 1) := q9_dX9_init_405.2.2.2.2.2.2.2.2.1
theorem dX9_init_419 : decode cX9_init 419 = .ok (.getfield 29, 3) := q9_dX9_init_405.2.2.2.2.2.2.2.2.2
theorem q9_dX9_init_422 : (decode cX9_init 422 = .ok (.iload_n 1, 1)) ∧ (decode cX9_init 423 = .ok (.bipush 50, 2)) ∧ (decode cX9_init 425 = .ok (.iastore, 1)) ∧ (decode cX9_init 426 = .ok (.iinc 1 1, 3)) ∧ (decode cX9_init 429 = .ok (.goto (-58), 3)) ∧ (decode cX9_init 432 = .ok (.return_, 1)) ∧ (decode cX9_types 0 = .ok (.iconst 3, 1)) ∧ (decode cX9_types 1 = .ok (.istore_n 2, 1)) ∧ (decode cX9_types 2 = .ok (.iload_n 2, 1)) ∧ (decode cX9_types 3 = .ok (.ifCond .lt 35, 3)) := by decide +kernel
theorem dX9_init_422 : decode cX9_init 422 = .ok (.iload_n 1, 1) := q9_dX9_init_422.1
theorem dX9_init_423 : decode cX9_init 423 = .ok (.bipush 50, 2) := q9_dX9_init_422.2.1
theorem dX9_init_425 : decode cX9_init 425 = .ok (.iastore, 1) := q9_dX9_init_422.2.2.1
theorem dX9_init_426 : decode cX9_init 426 = .ok (.iinc 1 1, 3) := q9_dX9_init_422.2.2.2.1
theorem dX9_init_429 : decode cX9_init 429 = .ok (.goto (-58), 3) := q9_dX9_init_422.2.2.2.2.1
theorem dX9_init_432 : decode cX9_init 432 = .ok (.return_, 1) := q9_dX9_init_422.2.2.2.2.2.1
theorem dX9_types_0 : decode cX9_types 0 = .ok (.iconst 3, 1) := q9_dX9_init_422.2.2.2.2.2.2.1
theorem dX9_types_1 : decode cX9_types 1 = .ok (.istore_n 2, 1) := q9_dX9_init_422.2.2.2.2.2.2.2.1
theorem dX9_types_2 : decode cX9_types 2 = .ok (.iload_n 2, 1) := q9_dX9_init_422.2.2.2.2.2.2.2.2.1
theorem dX9_types_3 : decode cX9_types 3 = .ok (.ifCond .lt 35, 3) := q9_dX9_init_422.2.2.2.2.2.2.2.2.2
theorem q9_dX9_types_6 : (decode cX9_types 6 = .ok (.aload_n 0, 1)) ∧ (decode cX9_types 7 = .ok (.getfield 7, 3)) ∧ (decode cX9_types 10 = .ok (.aload_n 0, 1)) ∧ (decode cX9_types 11 = .ok (.getfield 141, 3)) ∧ (decode cX9_types 14 = .ok (.iload_n 1, 1)) ∧ (decode cX9_types 15 = .ok (.bipush 8, 2)) ∧ (decode cX9_types 17 = .ok (.iload_n 2, 1)) ∧ (decode cX9_types 18 = .ok (.imul, 1)) ∧ (decode cX9_types 19 = .ok (.ishr, 1)) ∧ (decode cX9_types 20 = .ok (.i2b, 1)) := by decide +kernel
theorem dX9_types_6 : decode cX9_types 6 = .ok (.aload_n 0, 1) := q9_dX9_types_6.1
theorem dX9_types_7 : decode cX9_types 7 = .ok (.getfield 7, 3) := q9_dX9_types_6.2.1
theorem dX9_types_10 : decode cX9_types 10 = .ok (.aload_n 0, 1) := q9_dX9_types_6.2.2.1
theorem dX9_types_11 : decode cX9_types 11 = .ok (.getfield 141, 3) := q9_dX9_types_6.2.2.2.1
theorem dX9_types_14 : decode cX9_types 14 = .ok (.iload_n 1, 1) := q9_dX9_types_6.2.2.2.2.1
theorem dX9_types_15 : decode cX9_types 15 = .ok (.bipush 8, 2) := q9_dX9_types_6.2.2.2.2.2.1
theorem dX9_types_17 : decode cX9_types 17 = .ok (.iload_n 2, 1) := q9_dX9_types_6.2.2.2.2.2.2.1
theorem dX9_types_18 : decode cX9_types 18 = .ok (.imul, 1) := q9_dX9_types_6.2.2.2.2.2.2.2.1
theorem dX9_types_19 : decode cX9_types 19 = .ok (.ishr, 1) := q9_dX9_types_6.2.2.2.2.2.2.2.2.1
theorem dX9_types_20 : decode cX9_types 20 = .ok (.i2b, 1) := q9_dX9_types_6.2.2.2.2.2.2.2.2.2
theorem q9_dX9_types_21 : (decode cX9_types 21 = .ok (.bastore, 1)) ∧ (decode cX9_types 22 = .ok (.aload_n 0, 1)) ∧ (decode cX9_types 23 = .ok (.aload_n 0, 1)) ∧ (decode cX9_types 24 = .ok (.getfield 141, 3)) ∧ (decode cX9_types 27 = .ok (.iconst 1, 1)) ∧ (decode cX9_types 28 = .ok (.iadd, 1)) ∧ (decode cX9_types 29 = .ok (.putfield 141, 3)) ∧ (decode cX9_types 32 = .ok (.iinc 2 (-1), 3)) ∧ (decode cX9_types 35 = .ok (.goto (-33), 3)) ∧ (decode cX9_types 38 = .ok (.return_, 1)) := by decide +kernel
theorem dX9_types_21 : decode cX9_types 21 = .ok (.bastore, 1) := q9_dX9_types_21.1
theorem dX9_types_22 : decode cX9_types 22 = .ok (.aload_n 0, 1) := q9_dX9_types_21.2.1
theorem dX9_types_23 : decode cX9_types 23 = .ok (.aload_n 0, 1) := q9_dX9_types_21.2.2.1
theorem dX9_types_24 : decode cX9_types 24 = .ok (.getfield 141, 3) := q9_dX9_types_21.2.2.2.1
theorem dX9_types_27 : decode cX9_types 27 = .ok (.iconst 1, 1) := q9_dX9_types_21.2.2.2.2.1
theorem dX9_types_28 : decode cX9_types 28 = .ok (.iadd, 1) := q9_dX9_types_21.2.2.2.2.2.1
theorem dX9_types_29 : decode cX9_types 29 = .ok (.putfield 141, 3) := q9_dX9_types_21.2.2.2.2.2.2.1
theorem dX9_types_32 : decode cX9_types 32 = .ok (.iinc 2 (-1), 3) := q9_dX9_types_21.2.2.2.2.2.2.2.1
theorem dX9_types_35 : decode cX9_types 35 = .ok (.goto (-33), 3) := q9_dX9_types_21.2.2.2.2.2.2.2.2.1
theorem dX9_types_38 : decode cX9_types 38 = .ok (.return_, 1) := q9_dX9_types_21.2.2.2.2.2.2.2.2.2
set_option maxRecDepth 20000 in
theorem ggX9_feed_X9_types : GoodIn wsX9_feed wsX9_types := goodIn_r _ [6, 7, 1, 8, 9, 10, 11, 12, 13, 14, 15, 16, 17, 18, 19, 20, 21, 22, 23, 24, 25, 26, 27, 28, 29, 30, 31, 32, 33, 34, 35, 36, 37, 38, 39, 40, 41, 42, 43, 44, 45, 46, 47, 48, 49, 50, 51, 52, 53, 54, 55, 56, 57, 58, 59, 60, 61, 62, 63, 64, 65, 66, 67, 68, 69, 70] rfl (by decide +kernel)
set_option maxRecDepth 20000 in
theorem gX9_feed_X9_types : GoodIn wsX9_feed (wsV RX9 144 RX9 yX9_types wsX9_types) := goodIn_app (goodIn_of _ (by decide +kernel)) ggX9_feed_X9_types
theorem q9_dX9_feed_0 : (decode cX9_feed 0 = .ok (.aload_n 0, 1)) ∧ (decode cX9_feed 1 = .ok (.getfield 141, 3)) ∧ (decode cX9_feed 4 = .ok (.bipush 20, 2)) ∧ (decode cX9_feed 6 = .ok (.iadd, 1)) ∧ (decode cX9_feed 7 = .ok (.bipush 80, 2)) ∧ (decode cX9_feed 9 = .ok (.if_icmp .le 5, 3)) ∧ (decode cX9_feed 12 = .ok (.iconst (-1), 1)) ∧ (decode cX9_feed 13 = .ok (.ireturn, 1)) ∧ (decode cX9_feed 14 = .ok (.aload_n 0, 1)) ∧ (decode cX9_feed 15 = .ok (.iload_n 1, 1)) := by decide +kernel
theorem dX9_feed_0 : decode cX9_feed 0 = .ok (.aload_n 0, 1) := q9_dX9_feed_0.1
theorem dX9_feed_1 : decode cX9_feed 1 = .ok (.getfield 141, 3) := q9_dX9_feed_0.2.1
theorem dX9_feed_4 : decode cX9_feed 4 = .ok (.bipush 20, 2) := q9_dX9_feed_0.2.2.1
theorem dX9_feed_6 : decode cX9_feed 6 = .ok (.iadd, 1) := q9_dX9_feed_0.2.2.2.1
theorem dX9_feed_7 : decode cX9_feed 7 = .ok (.bipush 80, 2) := q9_dX9_feed_0.2.2.2.2.1
theorem dX9_feed_9 : decode cX9_feed 9 = .ok (.if_icmp .le 5, 3) := q9_dX9_feed_0.2.2.2.2.2.1
theorem dX9_feed_12 : decode cX9_feed 12 = .ok (.iconst (-1), 1) := q9_dX9_feed_0.2.2.2.2.2.2.1
theorem dX9_feed_13 : decode cX9_feed 13 = .ok (.ireturn, 1) := q9_dX9_feed_0.2.2.2.2.2.2.2.1
theorem dX9_feed_14 : decode cX9_feed 14 = .ok (.aload_n 0, 1) := q9_dX9_feed_0.2.2.2.2.2.2.2.2.1
theorem dX9_feed_15 : decode cX9_feed 15 = .ok (.iload_n 1, 1) := q9_dX9_feed_0.2.2.2.2.2.2.2.2.2
theorem q9_dX9_feed_16 : (decode cX9_feed 16 = .ok (.invokevirtual 144, 3)) ∧ (decode cX9_feed 19 = .ok (.aload_n 0, 1)) ∧ (decode cX9_feed 20 = .ok (.iload_n 2, 1)) ∧ (decode cX9_feed 21 = .ok (.invokevirtual 144, 3)) ∧ (decode cX9_feed 24 = .ok (.aload_n 0, 1)) ∧ (decode cX9_feed 25 = .ok (.iload_n 3, 1)) ∧ (decode cX9_feed 26 = .ok (.invokevirtual 144, 3)) ∧ (decode cX9_feed 29 = .ok (.aload_n 0, 1)) ∧ (decode cX9_feed 30 = .ok (.iload 4, 2)) ∧ (decode cX9_feed 32 = .ok (.invokevirtual 144, 3)) := by decide +kernel
theorem dX9_feed_16 : decode cX9_feed 16 = .ok (.invokevirtual 144, 3) := q9_dX9_feed_16.1
theorem dX9_feed_19 : decode cX9_feed 19 = .ok (.aload_n 0, 1) := q9_dX9_feed_16.2.1
theorem dX9_feed_20 : decode cX9_feed 20 = .ok (.iload_n 2, 1) := q9_dX9_feed_16.2.2.1
theorem dX9_feed_21 : decode cX9_feed 21 = .ok (.invokevirtual 144, 3) := q9_dX9_feed_16.2.2.2.1
theorem dX9_feed_24 : decode cX9_feed 24 = .ok (.aload_n 0, 1) := q9_dX9_feed_16.2.2.2.2.1
theorem dX9_feed_25 : decode cX9_feed 25 = .ok (.iload_n 3, 1) := q9_dX9_feed_16.2.2.2.2.2.1
theorem dX9_feed_26 : decode cX9_feed 26 = .ok (.invokevirtual 144, 3) := q9_dX9_feed_16.2.2.2.2.2.2.1
theorem dX9_feed_29 : decode cX9_feed 29 = .ok (.aload_n 0, 1) := q9_dX9_feed_16.2.2.2.2.2.2.2.1
theorem dX9_feed_30 : decode cX9_feed 30 = .ok (.iload 4, 2) := q9_dX9_feed_16.2.2.2.2.2.2.2.2.1
theorem dX9_feed_32 : decode cX9_feed 32 = .ok (.invokevirtual 144, 3) := q9_dX9_feed_16.2.2.2.2.2.2.2.2.2
theorem q9_dX9_feed_35 : (decode cX9_feed 35 = .ok (.aload_n 0, 1)) ∧ (decode cX9_feed 36 = .ok (.iload 5, 2)) ∧ (decode cX9_feed 38 = .ok (.invokevirtual 144, 3)) ∧ (decode cX9_feed 41 = .ok (.aload_n 0, 1)) ∧ (decode cX9_feed 42 = .ok (.getfield 141, 3)) ∧ (decode cX9_feed 45 = .ok (.ireturn, 1)) ∧ (decode cX9_here 0 = .ok (.aload_n 0, 1)) ∧ (decode cX9_here 1 = .ok (.getfield 148, 3)) ∧ (decode cX9_here 4 = .ok (.aload_n 0, 1)) ∧ (decode cX9_here 5 = .ok (.getfield 151, 3)) := by decide +kernel
theorem dX9_feed_35 : decode cX9_feed 35 = .ok (.aload_n 0, 1) := q9_dX9_feed_35.1
theorem dX9_feed_36 : decode cX9_feed 36 = .ok (.iload 5, 2) := q9_dX9_feed_35.2.1
theorem dX9_feed_38 : decode cX9_feed 38 = .ok (.invokevirtual 144, 3) := q9_dX9_feed_35.2.2.1
theorem dX9_feed_41 : decode cX9_feed 41 = .ok (.aload_n 0, 1) := q9_dX9_feed_35.2.2.2.1
theorem dX9_feed_42 : decode cX9_feed 42 = .ok (.getfield 141, 3) := q9_dX9_feed_35.2.2.2.2.1
theorem dX9_feed_45 : decode cX9_feed 45 = .ok (.ireturn, 1) := q9_dX9_feed_35.2.2.2.2.2.1
theorem dX9_here_0 : decode cX9_here 0 = .ok (.aload_n 0, 1) := q9_dX9_feed_35.2.2.2.2.2.2.1
theorem dX9_here_1 : decode cX9_here 1 = .ok (.getfield 148, 3) := q9_dX9_feed_35.2.2.2.2.2.2.2.1
theorem dX9_here_4 : decode cX9_here 4 = .ok (.aload_n 0, 1) := q9_dX9_feed_35.2.2.2.2.2.2.2.2.1
theorem dX9_here_5 : decode cX9_here 5 = .ok (.getfield 151, 3) := q9_dX9_feed_35.2.2.2.2.2.2.2.2.2
theorem q9_dX9_here_8 : (decode cX9_here 8 = .ok (.if_icmp .ge 19, 3)) ∧ (decode cX9_here 11 = .ok (.aload_n 0, 1)) ∧ (decode cX9_here 12 = .ok (.getfield 7, 3)) ∧ (decode cX9_here 15 = .ok (.aload_n 0, 1)) ∧ (decode cX9_here 16 = .ok (.getfield 148, 3)) ∧ (decode cX9_here 19 = .ok (.baload, 1)) ∧ (decode cX9_here 20 = .ok (.sipush 255, 3)) ∧ (decode cX9_here 23 = .ok (.iand, 1)) ∧ (decode cX9_here 24 = .ok (.goto 4, 3)) ∧ (decode cX9_here 27 = .ok (.iconst 0, 1)) := by decide +kernel
theorem dX9_here_8 : decode cX9_here 8 = .ok (.if_icmp .ge 19, 3) := q9_dX9_here_8.1
theorem dX9_here_11 : decode cX9_here 11 = .ok (.aload_n 0, 1) := q9_dX9_here_8.2.1
theorem dX9_here_12 : decode cX9_here 12 = .ok (.getfield 7, 3) := q9_dX9_here_8.2.2.1
theorem dX9_here_15 : decode cX9_here 15 = .ok (.aload_n 0, 1) := q9_dX9_here_8.2.2.2.1
theorem dX9_here_16 : decode cX9_here 16 = .ok (.getfield 148, 3) := q9_dX9_here_8.2.2.2.2.1
theorem dX9_here_19 : decode cX9_here 19 = .ok (.baload, 1) := q9_dX9_here_8.2.2.2.2.2.1
theorem dX9_here_20 : decode cX9_here 20 = .ok (.sipush 255, 3) := q9_dX9_here_8.2.2.2.2.2.2.1
theorem dX9_here_23 : decode cX9_here 23 = .ok (.iand, 1) := q9_dX9_here_8.2.2.2.2.2.2.2.1
theorem dX9_here_24 : decode cX9_here 24 = .ok (.goto 4, 3) := q9_dX9_here_8.2.2.2.2.2.2.2.2.1
theorem dX9_here_27 : decode cX9_here 27 = .ok (.iconst 0, 1) := q9_dX9_here_8.2.2.2.2.2.2.2.2.2
theorem dX9_here_28 : decode cX9_here 28 = .ok (.ireturn, 1) := by decide +kernel
set_option maxRecDepth 20000 in
theorem ggX9_isDigit_X9_here : GoodIn wsX9_isDigit wsX9_here := goodIn_r _ [5, 6, 7, 8, 9, 10, 11, 12, 13, 14, 15, 16, 17, 18, 19, 20, 21, 22, 23, 24, 25, 26, 27, 28, 29, 30, 31, 32, 33, 34, 35, 36, 37, 38, 39, 40, 41, 42, 43, 44, 45, 46, 47, 48, 49, 50, 51, 52, 53, 54, 55, 56, 57, 58, 59, 60, 61, 62, 63, 64, 65, 66, 67, 68, 69, 70, 71] rfl (by decide +kernel)
set_option maxRecDepth 20000 in
theorem gX9_isDigit_X9_here : GoodIn wsX9_isDigit (wsV RX9 154 RX9 yX9_here wsX9_here) := goodIn_app (goodIn_of _ (by decide +kernel)) ggX9_isDigit_X9_here
theorem q9_dX9_isDigit_0 : (decode cX9_isDigit 0 = .ok (.aload_n 0, 1)) ∧ (decode cX9_isDigit 1 = .ok (.invokevirtual 154, 3)) ∧ (decode cX9_isDigit 4 = .ok (.bipush 48, 2)) ∧ (decode cX9_isDigit 6 = .ok (.if_icmp .lt 16, 3)) ∧ (decode cX9_isDigit 9 = .ok (.aload_n 0, 1)) ∧ (decode cX9_isDigit 10 = .ok (.invokevirtual 154, 3)) ∧ (decode cX9_isDigit 13 = .ok (.bipush 57, 2)) ∧ (decode cX9_isDigit 15 = .ok (.if_icmp .gt 7, 3)) ∧ (decode cX9_isDigit 18 = .ok (.iconst 1, 1)) ∧ (decode cX9_isDigit 19 = .ok (.goto 4, 3)) := by decide +kernel
theorem dX9_isDigit_0 : decode cX9_isDigit 0 = .ok (.aload_n 0, 1) := q9_dX9_isDigit_0.1
theorem dX9_isDigit_1 : decode cX9_isDigit 1 = .ok (.invokevirtual 154, 3) := q9_dX9_isDigit_0.2.1
theorem dX9_isDigit_4 : decode cX9_isDigit 4 = .ok (.bipush 48, 2) := q9_dX9_isDigit_0.2.2.1
theorem dX9_isDigit_6 : decode cX9_isDigit 6 = .ok (.if_icmp .lt 16, 3) := q9_dX9_isDigit_0.2.2.2.1
theorem dX9_isDigit_9 : decode cX9_isDigit 9 = .ok (.aload_n 0, 1) := q9_dX9_isDigit_0.2.2.2.2.1
theorem dX9_isDigit_10 : decode cX9_isDigit 10 = .ok (.invokevirtual 154, 3) := q9_dX9_isDigit_0.2.2.2.2.2.1
theorem dX9_isDigit_13 : decode cX9_isDigit 13 = .ok (.bipush 57, 2) := q9_dX9_isDigit_0.2.2.2.2.2.2.1
theorem dX9_isDigit_15 : decode cX9_isDigit 15 = .ok (.if_icmp .gt 7, 3) := q9_dX9_isDigit_0.2.2.2.2.2.2.2.1
theorem dX9_isDigit_18 : decode cX9_isDigit 18 = .ok (.iconst 1, 1) := q9_dX9_isDigit_0.2.2.2.2.2.2.2.2.1
theorem dX9_isDigit_19 : decode cX9_isDigit 19 = .ok (.goto 4, 3) := q9_dX9_isDigit_0.2.2.2.2.2.2.2.2.2
theorem q9_dX9_isDigit_22 : (decode cX9_isDigit 22 = .ok (.iconst 0, 1)) ∧ (decode cX9_isDigit 23 = .ok (.ireturn, 1)) ∧ (decode cX9_wrong 0 = .ok (.aload_n 0, 1)) ∧ (decode cX9_wrong 1 = .ok (.bipush 100, 2)) ∧ (decode cX9_wrong 3 = .ok (.iload_n 1, 1)) ∧ (decode cX9_wrong 4 = .ok (.imul, 1)) ∧ (decode cX9_wrong 5 = .ok (.iload_n 2, 1)) ∧ (decode cX9_wrong 6 = .ok (.iadd, 1)) ∧ (decode cX9_wrong 7 = .ok (.putfield 158, 3)) ∧ (decode cX9_wrong 10 = .ok (.iconst 0, 1)) := by decide +kernel
theorem dX9_isDigit_22 : decode cX9_isDigit 22 = .ok (.iconst 0, 1) := q9_dX9_isDigit_22.1
theorem dX9_isDigit_23 : decode cX9_isDigit 23 = .ok (.ireturn, 1) := q9_dX9_isDigit_22.2.1
theorem dX9_wrong_0 : decode cX9_wrong 0 = .ok (.aload_n 0, 1) := q9_dX9_isDigit_22.2.2.1
theorem dX9_wrong_1 : decode cX9_wrong 1 = .ok (.bipush 100, 2) := q9_dX9_isDigit_22.2.2.2.1
theorem dX9_wrong_3 : decode cX9_wrong 3 = .ok (.iload_n 1, 1) := q9_dX9_isDigit_22.2.2.2.2.1
theorem dX9_wrong_4 : decode cX9_wrong 4 = .ok (.imul, 1) := q9_dX9_isDigit_22.2.2.2.2.2.1
theorem dX9_wrong_5 : decode cX9_wrong 5 = .ok (.iload_n 2, 1) := q9_dX9_isDigit_22.2.2.2.2.2.2.1
theorem dX9_wrong_6 : decode cX9_wrong 6 = .ok (.iadd, 1) := q9_dX9_isDigit_22.2.2.2.2.2.2.2.1
theorem dX9_wrong_7 : decode cX9_wrong 7 = .ok (.putfield 158, 3) := q9_dX9_isDigit_22.2.2.2.2.2.2.2.2.1
theorem dX9_wrong_10 : decode cX9_wrong 10 = .ok (.iconst 0, 1) := q9_dX9_isDigit_22.2.2.2.2.2.2.2.2.2
theorem dX9_wrong_11 : decode cX9_wrong 11 = .ok (.ireturn, 1) := by decide +kernel
set_option maxRecDepth 20000 in
theorem ggX9_reads_X9_isDigit : GoodIn wsX9_reads wsX9_isDigit := goodIn_r _ [7, 8, 9, 10, 6, 11, 1, 12, 13, 19, 20, 21, 22, 23, 24, 25, 26, 27, 28, 29, 30, 31, 32, 33, 34, 35, 36, 37, 38, 39, 40, 41, 42, 43, 44, 45, 46, 47, 48, 49, 50, 51, 52, 53, 54, 55, 56, 57, 58, 59, 60, 61, 62, 63, 64, 65, 66, 67, 68, 69, 70, 71, 72, 73, 74, 75, 76, 77, 78, 79, 80, 81] rfl (by decide +kernel)
set_option maxRecDepth 20000 in
theorem gX9_reads_X9_isDigit : GoodIn wsX9_reads (wsV RX9 164 RX9 yX9_isDigit wsX9_isDigit) := goodIn_app (goodIn_of _ (by decide +kernel)) ggX9_reads_X9_isDigit
set_option maxRecDepth 20000 in
theorem ggX9_reads_X9_wrong : GoodIn wsX9_reads wsX9_wrong := goodIn_r _ [17, 18, 19, 20, 21, 22, 23, 24, 25, 26, 27, 28, 29, 30, 31, 32, 33, 34, 35, 36, 37, 38, 39, 40, 41, 42, 43, 44, 45, 46, 47, 48, 49, 50, 51, 52, 53, 54, 55, 56, 57, 58, 59, 60, 61, 62, 63, 64, 65, 66, 67, 68, 69, 70, 71, 72, 73, 74, 75, 76, 77, 78, 79, 80, 81] rfl (by decide +kernel)
set_option maxRecDepth 20000 in
theorem gX9_reads_X9_wrong : GoodIn wsX9_reads (wsV RX9 168 RX9 yX9_wrong wsX9_wrong) := goodIn_app (goodIn_of _ (by decide +kernel)) ggX9_reads_X9_wrong
set_option maxRecDepth 20000 in
theorem ggX9_reads_X9_here : GoodIn wsX9_reads wsX9_here := goodIn_r _ [11, 1, 12, 13, 19, 20, 21, 22, 23, 24, 25, 26, 27, 28, 29, 30, 31, 32, 33, 34, 35, 36, 37, 38, 39, 40, 41, 42, 43, 44, 45, 46, 47, 48, 49, 50, 51, 52, 53, 54, 55, 56, 57, 58, 59, 60, 61, 62, 63, 64, 65, 66, 67, 68, 69, 70, 71, 72, 73, 74, 75, 76, 77, 78, 79, 80, 81] rfl (by decide +kernel)
set_option maxRecDepth 20000 in
theorem gX9_reads_X9_here : GoodIn wsX9_reads (wsV RX9 154 RX9 yX9_here wsX9_here) := goodIn_app (goodIn_of _ (by decide +kernel)) ggX9_reads_X9_here
theorem q9_dX9_reads_0 : (decode cX9_reads 0 = .ok (.aload_n 0, 1)) ∧ (decode cX9_reads 1 = .ok (.getfield 148, 3)) ∧ (decode cX9_reads 4 = .ok (.istore_n 3, 1)) ∧ (decode cX9_reads 5 = .ok (.aload_n 0, 1)) ∧ (decode cX9_reads 6 = .ok (.iconst 0, 1)) ∧ (decode cX9_reads 7 = .ok (.putfield 161, 3)) ∧ (decode cX9_reads 10 = .ok (.aload_n 0, 1)) ∧ (decode cX9_reads 11 = .ok (.invokevirtual 164, 3)) ∧ (decode cX9_reads 14 = .ok (.ifCond .eq 55, 3)) ∧ (decode cX9_reads 17 = .ok (.aload_n 0, 1)) := by decide +kernel
theorem dX9_reads_0 : decode cX9_reads 0 = .ok (.aload_n 0, 1) := q9_dX9_reads_0.1
theorem dX9_reads_1 : decode cX9_reads 1 = .ok (.getfield 148, 3) := q9_dX9_reads_0.2.1
theorem dX9_reads_4 : decode cX9_reads 4 = .ok (.istore_n 3, 1) := q9_dX9_reads_0.2.2.1
theorem dX9_reads_5 : decode cX9_reads 5 = .ok (.aload_n 0, 1) := q9_dX9_reads_0.2.2.2.1
theorem dX9_reads_6 : decode cX9_reads 6 = .ok (.iconst 0, 1) := q9_dX9_reads_0.2.2.2.2.1
theorem dX9_reads_7 : decode cX9_reads 7 = .ok (.putfield 161, 3) := q9_dX9_reads_0.2.2.2.2.2.1
theorem dX9_reads_10 : decode cX9_reads 10 = .ok (.aload_n 0, 1) := q9_dX9_reads_0.2.2.2.2.2.2.1
theorem dX9_reads_11 : decode cX9_reads 11 = .ok (.invokevirtual 164, 3) := q9_dX9_reads_0.2.2.2.2.2.2.2.1
theorem dX9_reads_14 : decode cX9_reads 14 = .ok (.ifCond .eq 55, 3) := q9_dX9_reads_0.2.2.2.2.2.2.2.2.1
theorem dX9_reads_17 : decode cX9_reads 17 = .ok (.aload_n 0, 1) := q9_dX9_reads_0.2.2.2.2.2.2.2.2.2
theorem q9_dX9_reads_18 : (decode cX9_reads 18 = .ok (.getfield 148, 3)) ∧ (decode cX9_reads 21 = .ok (.iload_n 3, 1)) ∧ (decode cX9_reads 22 = .ok (.iconst 4, 1)) ∧ (decode cX9_reads 23 = .ok (.iadd, 1)) ∧ (decode cX9_reads 24 = .ok (.if_icmp .ne 13, 3)) ∧ (decode cX9_reads 27 = .ok (.aload_n 0, 1)) ∧ (decode cX9_reads 28 = .ok (.iconst 1, 1)) ∧ (decode cX9_reads 29 = .ok (.aload_n 0, 1)) ∧ (decode cX9_reads 30 = .ok (.getfield 148, 3)) ∧ (decode cX9_reads 33 = .ok (.invokevirtual 168, 3)) := by decide +kernel
theorem dX9_reads_18 : decode cX9_reads 18 = .ok (.getfield 148, 3) := q9_dX9_reads_18.1
theorem dX9_reads_21 : decode cX9_reads 21 = .ok (.iload_n 3, 1) := q9_dX9_reads_18.2.1
theorem dX9_reads_22 : decode cX9_reads 22 = .ok (.iconst 4, 1) := q9_dX9_reads_18.2.2.1
theorem dX9_reads_23 : decode cX9_reads 23 = .ok (.iadd, 1) := q9_dX9_reads_18.2.2.2.1
theorem dX9_reads_24 : decode cX9_reads 24 = .ok (.if_icmp .ne 13, 3) := q9_dX9_reads_18.2.2.2.2.1
theorem dX9_reads_27 : decode cX9_reads 27 = .ok (.aload_n 0, 1) := q9_dX9_reads_18.2.2.2.2.2.1
theorem dX9_reads_28 : decode cX9_reads 28 = .ok (.iconst 1, 1) := q9_dX9_reads_18.2.2.2.2.2.2.1
theorem dX9_reads_29 : decode cX9_reads 29 = .ok (.aload_n 0, 1) := q9_dX9_reads_18.2.2.2.2.2.2.2.1
theorem dX9_reads_30 : decode cX9_reads 30 = .ok (.getfield 148, 3) := q9_dX9_reads_18.2.2.2.2.2.2.2.2.1
theorem dX9_reads_33 : decode cX9_reads 33 = .ok (.invokevirtual 168, 3) := q9_dX9_reads_18.2.2.2.2.2.2.2.2.2
theorem q9_dX9_reads_36 : (decode cX9_reads 36 = .ok (.ireturn, 1)) ∧ (decode cX9_reads 37 = .ok (.aload_n 0, 1)) ∧ (decode cX9_reads 38 = .ok (.bipush 10, 2)) ∧ (decode cX9_reads 40 = .ok (.aload_n 0, 1)) ∧ (decode cX9_reads 41 = .ok (.getfield 161, 3)) ∧ (decode cX9_reads 44 = .ok (.imul, 1)) ∧ (decode cX9_reads 45 = .ok (.aload_n 0, 1)) ∧ (decode cX9_reads 46 = .ok (.invokevirtual 154, 3)) ∧ (decode cX9_reads 49 = .ok (.iadd, 1)) ∧ (decode cX9_reads 50 = .ok (.bipush 48, 2)) := by decide +kernel
theorem dX9_reads_36 : decode cX9_reads 36 = .ok (.ireturn, 1) := q9_dX9_reads_36.1
theorem dX9_reads_37 : decode cX9_reads 37 = .ok (.aload_n 0, 1) := q9_dX9_reads_36.2.1
theorem dX9_reads_38 : decode cX9_reads 38 = .ok (.bipush 10, 2) := q9_dX9_reads_36.2.2.1
theorem dX9_reads_40 : decode cX9_reads 40 = .ok (.aload_n 0, 1) := q9_dX9_reads_36.2.2.2.1
theorem dX9_reads_41 : decode cX9_reads 41 = .ok (.getfield 161, 3) := q9_dX9_reads_36.2.2.2.2.1
theorem dX9_reads_44 : decode cX9_reads 44 = .ok (.imul, 1) := q9_dX9_reads_36.2.2.2.2.2.1
theorem dX9_reads_45 : decode cX9_reads 45 = .ok (.aload_n 0, 1) := q9_dX9_reads_36.2.2.2.2.2.2.1
theorem dX9_reads_46 : decode cX9_reads 46 = .ok (.invokevirtual 154, 3) := q9_dX9_reads_36.2.2.2.2.2.2.2.1
theorem dX9_reads_49 : decode cX9_reads 49 = .ok (.iadd, 1) := q9_dX9_reads_36.2.2.2.2.2.2.2.2.1
theorem dX9_reads_50 : decode cX9_reads 50 = .ok (.bipush 48, 2) := q9_dX9_reads_36.2.2.2.2.2.2.2.2.2
theorem q9_dX9_reads_52 : (decode cX9_reads 52 = .ok (.isub, 1)) ∧ (decode cX9_reads 53 = .ok (.putfield 161, 3)) ∧ (decode cX9_reads 56 = .ok (.aload_n 0, 1)) ∧ (decode cX9_reads 57 = .ok (.aload_n 0, 1)) ∧ (decode cX9_reads 58 = .ok (.getfield 148, 3)) ∧ (decode cX9_reads 61 = .ok (.iconst 1, 1)) ∧ (decode cX9_reads 62 = .ok (.iadd, 1)) ∧ (decode cX9_reads 63 = .ok (.putfield 148, 3)) ∧ (decode cX9_reads 66 = .ok (.goto (-56), 3)) ∧ (decode cX9_reads 69 = .ok (.aload_n 0, 1)) := by decide +kernel
theorem dX9_reads_52 : decode cX9_reads 52 = .ok (.isub, 1) := q9_dX9_reads_52.1
theorem dX9_reads_53 : decode cX9_reads 53 = .ok (.putfield 161, 3) := q9_dX9_reads_52.2.1
theorem dX9_reads_56 : decode cX9_reads 56 = .ok (.aload_n 0, 1) := q9_dX9_reads_52.2.2.1
theorem dX9_reads_57 : decode cX9_reads 57 = .ok (.aload_n 0, 1) := q9_dX9_reads_52.2.2.2.1
theorem dX9_reads_58 : decode cX9_reads 58 = .ok (.getfield 148, 3) := q9_dX9_reads_52.2.2.2.2.1
theorem dX9_reads_61 : decode cX9_reads 61 = .ok (.iconst 1, 1) := q9_dX9_reads_52.2.2.2.2.2.1
theorem dX9_reads_62 : decode cX9_reads 62 = .ok (.iadd, 1) := q9_dX9_reads_52.2.2.2.2.2.2.1
theorem dX9_reads_63 : decode cX9_reads 63 = .ok (.putfield 148, 3) := q9_dX9_reads_52.2.2.2.2.2.2.2.1
theorem dX9_reads_66 : decode cX9_reads 66 = .ok (.goto (-56), 3) := q9_dX9_reads_52.2.2.2.2.2.2.2.2.1
theorem dX9_reads_69 : decode cX9_reads 69 = .ok (.aload_n 0, 1) := q9_dX9_reads_52.2.2.2.2.2.2.2.2.2
theorem q9_dX9_reads_70 : (decode cX9_reads 70 = .ok (.getfield 148, 3)) ∧ (decode cX9_reads 73 = .ok (.iload_n 3, 1)) ∧ (decode cX9_reads 74 = .ok (.if_icmp .ne 13, 3)) ∧ (decode cX9_reads 77 = .ok (.aload_n 0, 1)) ∧ (decode cX9_reads 78 = .ok (.iconst 1, 1)) ∧ (decode cX9_reads 79 = .ok (.aload_n 0, 1)) ∧ (decode cX9_reads 80 = .ok (.getfield 148, 3)) ∧ (decode cX9_reads 83 = .ok (.invokevirtual 168, 3)) ∧ (decode cX9_reads 86 = .ok (.ireturn, 1)) ∧ (decode cX9_reads 87 = .ok (.aload_n 0, 1)) := by decide +kernel
theorem dX9_reads_70 : decode cX9_reads 70 = .ok (.getfield 148, 3) := q9_dX9_reads_70.1
theorem dX9_reads_73 : decode cX9_reads 73 = .ok (.iload_n 3, 1) := q9_dX9_reads_70.2.1
theorem dX9_reads_74 : decode cX9_reads 74 = .ok (.if_icmp .ne 13, 3) := q9_dX9_reads_70.2.2.1
theorem dX9_reads_77 : decode cX9_reads 77 = .ok (.aload_n 0, 1) := q9_dX9_reads_70.2.2.2.1
theorem dX9_reads_78 : decode cX9_reads 78 = .ok (.iconst 1, 1) := q9_dX9_reads_70.2.2.2.2.1
theorem dX9_reads_79 : decode cX9_reads 79 = .ok (.aload_n 0, 1) := q9_dX9_reads_70.2.2.2.2.2.1
theorem dX9_reads_80 : decode cX9_reads 80 = .ok (.getfield 148, 3) := q9_dX9_reads_70.2.2.2.2.2.2.1
theorem dX9_reads_83 : decode cX9_reads 83 = .ok (.invokevirtual 168, 3) := q9_dX9_reads_70.2.2.2.2.2.2.2.1
theorem dX9_reads_86 : decode cX9_reads 86 = .ok (.ireturn, 1) := q9_dX9_reads_70.2.2.2.2.2.2.2.2.1
theorem dX9_reads_87 : decode cX9_reads 87 = .ok (.aload_n 0, 1) := q9_dX9_reads_70.2.2.2.2.2.2.2.2.2
theorem q9_dX9_reads_88 : (decode cX9_reads 88 = .ok (.getfield 161, 3)) ∧ (decode cX9_reads 91 = .ok (.iload_n 1, 1)) ∧ (decode cX9_reads 92 = .ok (.if_icmp .lt 11, 3)) ∧ (decode cX9_reads 95 = .ok (.aload_n 0, 1)) ∧ (decode cX9_reads 96 = .ok (.getfield 161, 3)) ∧ (decode cX9_reads 99 = .ok (.iload_n 2, 1)) ∧ (decode cX9_reads 100 = .ok (.if_icmp .le 12, 3)) ∧ (decode cX9_reads 103 = .ok (.aload_n 0, 1)) ∧ (decode cX9_reads 104 = .ok (.iconst 2, 1)) ∧ (decode cX9_reads 105 = .ok (.iload_n 3, 1)) := by decide +kernel
theorem dX9_reads_88 : decode cX9_reads 88 = .ok (.getfield 161, 3) := q9_dX9_reads_88.1
theorem dX9_reads_91 : decode cX9_reads 91 = .ok (.iload_n 1, 1) := q9_dX9_reads_88.2.1
theorem dX9_reads_92 : decode cX9_reads 92 = .ok (.if_icmp .lt 11, 3) := q9_dX9_reads_88.2.2.1
theorem dX9_reads_95 : decode cX9_reads 95 = .ok (.aload_n 0, 1) := q9_dX9_reads_88.2.2.2.1
theorem dX9_reads_96 : decode cX9_reads 96 = .ok (.getfield 161, 3) := q9_dX9_reads_88.2.2.2.2.1
theorem dX9_reads_99 : decode cX9_reads 99 = .ok (.iload_n 2, 1) := q9_dX9_reads_88.2.2.2.2.2.1
theorem dX9_reads_100 : decode cX9_reads 100 = .ok (.if_icmp .le 12, 3) := q9_dX9_reads_88.2.2.2.2.2.2.1
theorem dX9_reads_103 : decode cX9_reads 103 = .ok (.aload_n 0, 1) := q9_dX9_reads_88.2.2.2.2.2.2.2.1
theorem dX9_reads_104 : decode cX9_reads 104 = .ok (.iconst 2, 1) := q9_dX9_reads_88.2.2.2.2.2.2.2.2.1
theorem dX9_reads_105 : decode cX9_reads 105 = .ok (.iload_n 3, 1) := q9_dX9_reads_88.2.2.2.2.2.2.2.2.2
theorem q9_dX9_reads_106 : (decode cX9_reads 106 = .ok (.invokevirtual 168, 3)) ∧ (decode cX9_reads 109 = .ok (.ifCond .eq 7, 3)) ∧ (decode cX9_reads 112 = .ok (.iconst 1, 1)) ∧ (decode cX9_reads 113 = .ok (.goto 4, 3)) ∧ (decode cX9_reads 116 = .ok (.iconst 0, 1)) ∧ (decode cX9_reads 117 = .ok (.ireturn, 1)) := by decide +kernel
theorem dX9_reads_106 : decode cX9_reads 106 = .ok (.invokevirtual 168, 3) := q9_dX9_reads_106.1
theorem dX9_reads_109 : decode cX9_reads 109 = .ok (.ifCond .eq 7, 3) := q9_dX9_reads_106.2.1
theorem dX9_reads_112 : decode cX9_reads 112 = .ok (.iconst 1, 1) := q9_dX9_reads_106.2.2.1
theorem dX9_reads_113 : decode cX9_reads 113 = .ok (.goto 4, 3) := q9_dX9_reads_106.2.2.2.1
theorem dX9_reads_116 : decode cX9_reads 116 = .ok (.iconst 0, 1) := q9_dX9_reads_106.2.2.2.2.1
theorem dX9_reads_117 : decode cX9_reads 117 = .ok (.ireturn, 1) := q9_dX9_reads_106.2.2.2.2.2
set_option maxRecDepth 20000 in
theorem ggX9_readsSet_X9_isDigit : GoodIn wsX9_readsSet wsX9_isDigit := goodIn_r _ [7, 8, 9, 10, 6, 11, 2, 12, 13, 19, 20, 21, 22, 23, 24, 25, 26, 27, 28, 29, 30, 31, 32, 33, 34, 35, 36, 37, 38, 39, 40, 41, 42, 43, 44, 45, 46, 47, 48, 49, 50, 51, 52, 53, 54, 55, 56, 57, 58, 59, 60, 61, 62, 63, 64, 65, 66, 67, 68, 69, 70, 71, 72, 73, 74, 75, 76, 77, 78, 79, 80, 81] rfl (by decide +kernel)
set_option maxRecDepth 20000 in
theorem gX9_readsSet_X9_isDigit : GoodIn wsX9_readsSet (wsV RX9 164 RX9 yX9_isDigit wsX9_isDigit) := goodIn_app (goodIn_of _ (by decide +kernel)) ggX9_readsSet_X9_isDigit
set_option maxRecDepth 20000 in
theorem ggX9_readsSet_X9_wrong : GoodIn wsX9_readsSet wsX9_wrong := goodIn_r _ [17, 18, 19, 20, 21, 22, 23, 24, 25, 26, 27, 28, 29, 30, 31, 32, 33, 34, 35, 36, 37, 38, 39, 40, 41, 42, 43, 44, 45, 46, 47, 48, 49, 50, 51, 52, 53, 54, 55, 56, 57, 58, 59, 60, 61, 62, 63, 64, 65, 66, 67, 68, 69, 70, 71, 72, 73, 74, 75, 76, 77, 78, 79, 80, 81] rfl (by decide +kernel)
set_option maxRecDepth 20000 in
theorem gX9_readsSet_X9_wrong : GoodIn wsX9_readsSet (wsV RX9 168 RX9 yX9_wrong wsX9_wrong) := goodIn_app (goodIn_of _ (by decide +kernel)) ggX9_readsSet_X9_wrong
set_option maxRecDepth 20000 in
theorem ggX9_readsSet_X9_here : GoodIn wsX9_readsSet wsX9_here := goodIn_r _ [11, 2, 12, 13, 19, 20, 21, 22, 23, 24, 25, 26, 27, 28, 29, 30, 31, 32, 33, 34, 35, 36, 37, 38, 39, 40, 41, 42, 43, 44, 45, 46, 47, 48, 49, 50, 51, 52, 53, 54, 55, 56, 57, 58, 59, 60, 61, 62, 63, 64, 65, 66, 67, 68, 69, 70, 71, 72, 73, 74, 75, 76, 77, 78, 79, 80, 81] rfl (by decide +kernel)
set_option maxRecDepth 20000 in
theorem gX9_readsSet_X9_here : GoodIn wsX9_readsSet (wsV RX9 154 RX9 yX9_here wsX9_here) := goodIn_app (goodIn_of _ (by decide +kernel)) ggX9_readsSet_X9_here
theorem q9_dX9_readsSet_0 : (decode cX9_readsSet 0 = .ok (.aload_n 0, 1)) ∧ (decode cX9_readsSet 1 = .ok (.iconst 0, 1)) ∧ (decode cX9_readsSet 2 = .ok (.putfield 161, 3)) ∧ (decode cX9_readsSet 5 = .ok (.aload_n 0, 1)) ∧ (decode cX9_readsSet 6 = .ok (.getfield 148, 3)) ∧ (decode cX9_readsSet 9 = .ok (.istore_n 3, 1)) ∧ (decode cX9_readsSet 10 = .ok (.aload_n 0, 1)) ∧ (decode cX9_readsSet 11 = .ok (.invokevirtual 164, 3)) ∧ (decode cX9_readsSet 14 = .ok (.ifCond .eq 75, 3)) ∧ (decode cX9_readsSet 17 = .ok (.aload_n 0, 1)) := by decide +kernel
theorem dX9_readsSet_0 : decode cX9_readsSet 0 = .ok (.aload_n 0, 1) := q9_dX9_readsSet_0.1
theorem dX9_readsSet_1 : decode cX9_readsSet 1 = .ok (.iconst 0, 1) := q9_dX9_readsSet_0.2.1
theorem dX9_readsSet_2 : decode cX9_readsSet 2 = .ok (.putfield 161, 3) := q9_dX9_readsSet_0.2.2.1
theorem dX9_readsSet_5 : decode cX9_readsSet 5 = .ok (.aload_n 0, 1) := q9_dX9_readsSet_0.2.2.2.1
theorem dX9_readsSet_6 : decode cX9_readsSet 6 = .ok (.getfield 148, 3) := q9_dX9_readsSet_0.2.2.2.2.1
theorem dX9_readsSet_9 : decode cX9_readsSet 9 = .ok (.istore_n 3, 1) := q9_dX9_readsSet_0.2.2.2.2.2.1
theorem dX9_readsSet_10 : decode cX9_readsSet 10 = .ok (.aload_n 0, 1) := q9_dX9_readsSet_0.2.2.2.2.2.2.1
theorem dX9_readsSet_11 : decode cX9_readsSet 11 = .ok (.invokevirtual 164, 3) := q9_dX9_readsSet_0.2.2.2.2.2.2.2.1
theorem dX9_readsSet_14 : decode cX9_readsSet 14 = .ok (.ifCond .eq 75, 3) := q9_dX9_readsSet_0.2.2.2.2.2.2.2.2.1
theorem dX9_readsSet_17 : decode cX9_readsSet 17 = .ok (.aload_n 0, 1) := q9_dX9_readsSet_0.2.2.2.2.2.2.2.2.2
theorem q9_dX9_readsSet_18 : (decode cX9_readsSet 18 = .ok (.getfield 148, 3)) ∧ (decode cX9_readsSet 21 = .ok (.iload_n 3, 1)) ∧ (decode cX9_readsSet 22 = .ok (.iload_n 1, 1)) ∧ (decode cX9_readsSet 23 = .ok (.iadd, 1)) ∧ (decode cX9_readsSet 24 = .ok (.if_icmp .ne 13, 3)) ∧ (decode cX9_readsSet 27 = .ok (.aload_n 0, 1)) ∧ (decode cX9_readsSet 28 = .ok (.iconst 1, 1)) ∧ (decode cX9_readsSet 29 = .ok (.aload_n 0, 1)) ∧ (decode cX9_readsSet 30 = .ok (.getfield 148, 3)) ∧ (decode cX9_readsSet 33 = .ok (.invokevirtual 168, 3)) := by decide +kernel
theorem dX9_readsSet_18 : decode cX9_readsSet 18 = .ok (.getfield 148, 3) := q9_dX9_readsSet_18.1
theorem dX9_readsSet_21 : decode cX9_readsSet 21 = .ok (.iload_n 3, 1) := q9_dX9_readsSet_18.2.1
theorem dX9_readsSet_22 : decode cX9_readsSet 22 = .ok (.iload_n 1, 1) := q9_dX9_readsSet_18.2.2.1
theorem dX9_readsSet_23 : decode cX9_readsSet 23 = .ok (.iadd, 1) := q9_dX9_readsSet_18.2.2.2.1
theorem dX9_readsSet_24 : decode cX9_readsSet 24 = .ok (.if_icmp .ne 13, 3) := q9_dX9_readsSet_18.2.2.2.2.1
theorem dX9_readsSet_27 : decode cX9_readsSet 27 = .ok (.aload_n 0, 1) := q9_dX9_readsSet_18.2.2.2.2.2.1
theorem dX9_readsSet_28 : decode cX9_readsSet 28 = .ok (.iconst 1, 1) := q9_dX9_readsSet_18.2.2.2.2.2.2.1
theorem dX9_readsSet_29 : decode cX9_readsSet 29 = .ok (.aload_n 0, 1) := q9_dX9_readsSet_18.2.2.2.2.2.2.2.1
theorem dX9_readsSet_30 : decode cX9_readsSet 30 = .ok (.getfield 148, 3) := q9_dX9_readsSet_18.2.2.2.2.2.2.2.2.1
theorem dX9_readsSet_33 : decode cX9_readsSet 33 = .ok (.invokevirtual 168, 3) := q9_dX9_readsSet_18.2.2.2.2.2.2.2.2.2
theorem q9_dX9_readsSet_36 : (decode cX9_readsSet 36 = .ok (.ireturn, 1)) ∧ (decode cX9_readsSet 37 = .ok (.aload_n 0, 1)) ∧ (decode cX9_readsSet 38 = .ok (.invokevirtual 154, 3)) ∧ (decode cX9_readsSet 41 = .ok (.bipush 48, 2)) ∧ (decode cX9_readsSet 43 = .ok (.isub, 1)) ∧ (decode cX9_readsSet 44 = .ok (.iload_n 2, 1)) ∧ (decode cX9_readsSet 45 = .ok (.if_icmp .lt 13, 3)) ∧ (decode cX9_readsSet 48 = .ok (.aload_n 0, 1)) ∧ (decode cX9_readsSet 49 = .ok (.iconst 2, 1)) ∧ (decode cX9_readsSet 50 = .ok (.aload_n 0, 1)) := by decide +kernel
theorem dX9_readsSet_36 : decode cX9_readsSet 36 = .ok (.ireturn, 1) := q9_dX9_readsSet_36.1
theorem dX9_readsSet_37 : decode cX9_readsSet 37 = .ok (.aload_n 0, 1) := q9_dX9_readsSet_36.2.1
theorem dX9_readsSet_38 : decode cX9_readsSet 38 = .ok (.invokevirtual 154, 3) := q9_dX9_readsSet_36.2.2.1
theorem dX9_readsSet_41 : decode cX9_readsSet 41 = .ok (.bipush 48, 2) := q9_dX9_readsSet_36.2.2.2.1
theorem dX9_readsSet_43 : decode cX9_readsSet 43 = .ok (.isub, 1) := q9_dX9_readsSet_36.2.2.2.2.1
theorem dX9_readsSet_44 : decode cX9_readsSet 44 = .ok (.iload_n 2, 1) := q9_dX9_readsSet_36.2.2.2.2.2.1
theorem dX9_readsSet_45 : decode cX9_readsSet 45 = .ok (.if_icmp .lt 13, 3) := q9_dX9_readsSet_36.2.2.2.2.2.2.1
theorem dX9_readsSet_48 : decode cX9_readsSet 48 = .ok (.aload_n 0, 1) := q9_dX9_readsSet_36.2.2.2.2.2.2.2.1
theorem dX9_readsSet_49 : decode cX9_readsSet 49 = .ok (.iconst 2, 1) := q9_dX9_readsSet_36.2.2.2.2.2.2.2.2.1
theorem dX9_readsSet_50 : decode cX9_readsSet 50 = .ok (.aload_n 0, 1) := q9_dX9_readsSet_36.2.2.2.2.2.2.2.2.2
theorem q9_dX9_readsSet_51 : (decode cX9_readsSet 51 = .ok (.getfield 148, 3)) ∧ (decode cX9_readsSet 54 = .ok (.invokevirtual 168, 3)) ∧ (decode cX9_readsSet 57 = .ok (.ireturn, 1)) ∧ (decode cX9_readsSet 58 = .ok (.aload_n 0, 1)) ∧ (decode cX9_readsSet 59 = .ok (.aload_n 0, 1)) ∧ (decode cX9_readsSet 60 = .ok (.getfield 161, 3)) ∧ (decode cX9_readsSet 63 = .ok (.iconst 1, 1)) ∧ (decode cX9_readsSet 64 = .ok (.aload_n 0, 1)) ∧ (decode cX9_readsSet 65 = .ok (.invokevirtual 154, 3)) ∧ (decode cX9_readsSet 68 = .ok (.bipush 48, 2)) := by decide +kernel
theorem dX9_readsSet_51 : decode cX9_readsSet 51 = .ok (.getfield 148, 3) := q9_dX9_readsSet_51.1
theorem dX9_readsSet_54 : decode cX9_readsSet 54 = .ok (.invokevirtual 168, 3) := q9_dX9_readsSet_51.2.1
theorem dX9_readsSet_57 : decode cX9_readsSet 57 = .ok (.ireturn, 1) := q9_dX9_readsSet_51.2.2.1
theorem dX9_readsSet_58 : decode cX9_readsSet 58 = .ok (.aload_n 0, 1) := q9_dX9_readsSet_51.2.2.2.1
theorem dX9_readsSet_59 : decode cX9_readsSet 59 = .ok (.aload_n 0, 1) := q9_dX9_readsSet_51.2.2.2.2.1
theorem dX9_readsSet_60 : decode cX9_readsSet 60 = .ok (.getfield 161, 3) := q9_dX9_readsSet_51.2.2.2.2.2.1
theorem dX9_readsSet_63 : decode cX9_readsSet 63 = .ok (.iconst 1, 1) := q9_dX9_readsSet_51.2.2.2.2.2.2.1
theorem dX9_readsSet_64 : decode cX9_readsSet 64 = .ok (.aload_n 0, 1) := q9_dX9_readsSet_51.2.2.2.2.2.2.2.1
theorem dX9_readsSet_65 : decode cX9_readsSet 65 = .ok (.invokevirtual 154, 3) := q9_dX9_readsSet_51.2.2.2.2.2.2.2.2.1
theorem dX9_readsSet_68 : decode cX9_readsSet 68 = .ok (.bipush 48, 2) := q9_dX9_readsSet_51.2.2.2.2.2.2.2.2.2
theorem q9_dX9_readsSet_70 : (decode cX9_readsSet 70 = .ok (.isub, 1)) ∧ (decode cX9_readsSet 71 = .ok (.ishl, 1)) ∧ (decode cX9_readsSet 72 = .ok (.ior, 1)) ∧ (decode cX9_readsSet 73 = .ok (.putfield 161, 3)) ∧ (decode cX9_readsSet 76 = .ok (.aload_n 0, 1)) ∧ (decode cX9_readsSet 77 = .ok (.aload_n 0, 1)) ∧ (decode cX9_readsSet 78 = .ok (.getfield 148, 3)) ∧ (decode cX9_readsSet 81 = .ok (.iconst 1, 1)) ∧ (decode cX9_readsSet 82 = .ok (.iadd, 1)) ∧ (decode cX9_readsSet 83 = .ok (.putfield 148, 3)) := by decide +kernel
theorem dX9_readsSet_70 : decode cX9_readsSet 70 = .ok (.isub, 1) := q9_dX9_readsSet_70.1
theorem dX9_readsSet_71 : decode cX9_readsSet 71 = .ok (.ishl, 1) := q9_dX9_readsSet_70.2.1
theorem dX9_readsSet_72 : decode cX9_readsSet 72 = .ok (.ior, 1) := q9_dX9_readsSet_70.2.2.1
theorem dX9_readsSet_73 : decode cX9_readsSet 73 = .ok (.putfield 161, 3) := q9_dX9_readsSet_70.2.2.2.1
theorem dX9_readsSet_76 : decode cX9_readsSet 76 = .ok (.aload_n 0, 1) := q9_dX9_readsSet_70.2.2.2.2.1
theorem dX9_readsSet_77 : decode cX9_readsSet 77 = .ok (.aload_n 0, 1) := q9_dX9_readsSet_70.2.2.2.2.2.1
theorem dX9_readsSet_78 : decode cX9_readsSet 78 = .ok (.getfield 148, 3) := q9_dX9_readsSet_70.2.2.2.2.2.2.1
theorem dX9_readsSet_81 : decode cX9_readsSet 81 = .ok (.iconst 1, 1) := q9_dX9_readsSet_70.2.2.2.2.2.2.2.1
theorem dX9_readsSet_82 : decode cX9_readsSet 82 = .ok (.iadd, 1) := q9_dX9_readsSet_70.2.2.2.2.2.2.2.2.1
theorem dX9_readsSet_83 : decode cX9_readsSet 83 = .ok (.putfield 148, 3) := q9_dX9_readsSet_70.2.2.2.2.2.2.2.2.2
theorem q9_dX9_readsSet_86 : (decode cX9_readsSet 86 = .ok (.goto (-76), 3)) ∧ (decode cX9_readsSet 89 = .ok (.aload_n 0, 1)) ∧ (decode cX9_readsSet 90 = .ok (.getfield 148, 3)) ∧ (decode cX9_readsSet 93 = .ok (.iload_n 3, 1)) ∧ (decode cX9_readsSet 94 = .ok (.if_icmp .gt 15, 3)) ∧ (decode cX9_readsSet 97 = .ok (.aload_n 0, 1)) ∧ (decode cX9_readsSet 98 = .ok (.iconst 1, 1)) ∧ (decode cX9_readsSet 99 = .ok (.aload_n 0, 1)) ∧ (decode cX9_readsSet 100 = .ok (.getfield 148, 3)) ∧ (decode cX9_readsSet 103 = .ok (.invokevirtual 168, 3)) := by decide +kernel
theorem dX9_readsSet_86 : decode cX9_readsSet 86 = .ok (.goto (-76), 3) := q9_dX9_readsSet_86.1
theorem dX9_readsSet_89 : decode cX9_readsSet 89 = .ok (.aload_n 0, 1) := q9_dX9_readsSet_86.2.1
theorem dX9_readsSet_90 : decode cX9_readsSet 90 = .ok (.getfield 148, 3) := q9_dX9_readsSet_86.2.2.1
theorem dX9_readsSet_93 : decode cX9_readsSet 93 = .ok (.iload_n 3, 1) := q9_dX9_readsSet_86.2.2.2.1
theorem dX9_readsSet_94 : decode cX9_readsSet 94 = .ok (.if_icmp .gt 15, 3) := q9_dX9_readsSet_86.2.2.2.2.1
theorem dX9_readsSet_97 : decode cX9_readsSet 97 = .ok (.aload_n 0, 1) := q9_dX9_readsSet_86.2.2.2.2.2.1
theorem dX9_readsSet_98 : decode cX9_readsSet 98 = .ok (.iconst 1, 1) := q9_dX9_readsSet_86.2.2.2.2.2.2.1
theorem dX9_readsSet_99 : decode cX9_readsSet 99 = .ok (.aload_n 0, 1) := q9_dX9_readsSet_86.2.2.2.2.2.2.2.1
theorem dX9_readsSet_100 : decode cX9_readsSet 100 = .ok (.getfield 148, 3) := q9_dX9_readsSet_86.2.2.2.2.2.2.2.2.1
theorem dX9_readsSet_103 : decode cX9_readsSet 103 = .ok (.invokevirtual 168, 3) := q9_dX9_readsSet_86.2.2.2.2.2.2.2.2.2
theorem q9_dX9_readsSet_106 : (decode cX9_readsSet 106 = .ok (.ifCond .eq 7, 3)) ∧ (decode cX9_readsSet 109 = .ok (.iconst 1, 1)) ∧ (decode cX9_readsSet 110 = .ok (.goto 4, 3)) ∧ (decode cX9_readsSet 113 = .ok (.iconst 0, 1)) ∧ (decode cX9_readsSet 114 = .ok (.ireturn, 1)) := by decide +kernel
theorem dX9_readsSet_106 : decode cX9_readsSet 106 = .ok (.ifCond .eq 7, 3) := q9_dX9_readsSet_106.1
theorem dX9_readsSet_109 : decode cX9_readsSet 109 = .ok (.iconst 1, 1) := q9_dX9_readsSet_106.2.1
theorem dX9_readsSet_110 : decode cX9_readsSet 110 = .ok (.goto 4, 3) := q9_dX9_readsSet_106.2.2.1
theorem dX9_readsSet_113 : decode cX9_readsSet 113 = .ok (.iconst 0, 1) := q9_dX9_readsSet_106.2.2.2.1
theorem dX9_readsSet_114 : decode cX9_readsSet 114 = .ok (.ireturn, 1) := q9_dX9_readsSet_106.2.2.2.2
set_option maxRecDepth 20000 in
theorem ggX9_readsClause_X9_here : GoodIn wsX9_readsClause wsX9_here := goodIn_r _ [13, 1, 14, 15, 33, 34, 35, 36, 37, 38, 39, 40, 41, 42, 43, 44, 45, 46, 47, 48, 49, 50, 51, 52, 53, 54, 55, 56, 57, 58, 59, 60, 61, 62, 63, 64, 65, 66, 67, 68, 69, 70, 71, 72, 73, 74, 75, 76, 77, 78, 79, 80, 81, 82, 83, 84, 85, 86, 87, 88, 89, 90, 91, 92, 93, 94, 95] rfl (by decide +kernel)
set_option maxRecDepth 20000 in
theorem gX9_readsClause_X9_here : GoodIn wsX9_readsClause (wsV RX9 154 RX9 yX9_here wsX9_here) := goodIn_app (goodIn_of _ (by decide +kernel)) ggX9_readsClause_X9_here
set_option maxRecDepth 20000 in
theorem ggX9_readsClause_X9_wrong : GoodIn wsX9_readsClause wsX9_wrong := goodIn_r _ [19, 20, 33, 34, 35, 36, 37, 38, 39, 40, 41, 42, 43, 44, 45, 46, 47, 48, 49, 50, 51, 52, 53, 54, 55, 56, 57, 58, 59, 60, 61, 62, 63, 64, 65, 66, 67, 68, 69, 70, 71, 72, 73, 74, 75, 76, 77, 78, 79, 80, 81, 82, 83, 84, 85, 86, 87, 88, 89, 90, 91, 92, 93, 94, 95] rfl (by decide +kernel)
set_option maxRecDepth 20000 in
theorem gX9_readsClause_X9_wrong : GoodIn wsX9_readsClause (wsV RX9 168 RX9 yX9_wrong wsX9_wrong) := goodIn_app (goodIn_of _ (by decide +kernel)) ggX9_readsClause_X9_wrong
set_option maxRecDepth 20000 in
theorem ggX9_readsClause_X9_reads : GoodIn wsX9_readsClause wsX9_reads := goodIn_r _ [24, 1, 2, 25, 26, 27, 12, 28, 9, 10, 11, 13, 14, 15, 16, 17, 18, 19, 20, 33, 34, 35, 36, 37, 38, 39, 40, 41, 42, 43, 44, 45, 46, 47, 48, 49, 50, 51, 52, 53, 54, 55, 56, 57, 58, 59, 60, 61, 62, 63, 64, 65, 66, 67, 68, 69, 70, 71, 72, 73, 74, 75, 76, 77, 78, 79, 80, 81, 82, 83, 84, 85, 86, 87, 88, 89, 90, 91, 92, 93, 94, 95] rfl (by decide +kernel)
set_option maxRecDepth 20000 in
theorem gX9_readsClause_X9_reads : GoodIn wsX9_readsClause (wsV RX9 172 RX9 yX9_reads wsX9_reads) := goodIn_app (goodIn_of _ (by decide +kernel)) ggX9_readsClause_X9_reads
set_option maxRecDepth 20000 in
theorem ggX9_readsClause_X9_readsSet : GoodIn wsX9_readsClause wsX9_readsSet := goodIn_r _ [32, 2, 1, 25, 26, 27, 12, 28, 9, 10, 11, 13, 14, 15, 16, 17, 18, 19, 20, 33, 34, 35, 36, 37, 38, 39, 40, 41, 42, 43, 44, 45, 46, 47, 48, 49, 50, 51, 52, 53, 54, 55, 56, 57, 58, 59, 60, 61, 62, 63, 64, 65, 66, 67, 68, 69, 70, 71, 72, 73, 74, 75, 76, 77, 78, 79, 80, 81, 82, 83, 84, 85, 86, 87, 88, 89, 90, 91, 92, 93, 94, 95] rfl (by decide +kernel)
set_option maxRecDepth 20000 in
theorem gX9_readsClause_X9_readsSet : GoodIn wsX9_readsClause (wsV RX9 178 RX9 yX9_readsSet wsX9_readsSet) := goodIn_app (goodIn_of _ (by decide +kernel)) ggX9_readsClause_X9_readsSet
theorem q9_dX9_readsClause_0 : (decode cX9_readsClause 0 = .ok (.aload_n 0, 1)) ∧ (decode cX9_readsClause 1 = .ok (.invokevirtual 154, 3)) ∧ (decode cX9_readsClause 4 = .ok (.istore_n 1, 1)) ∧ (decode cX9_readsClause 5 = .ok (.iload_n 1, 1)) ∧ (decode cX9_readsClause 6 = .ok (.bipush 119, 2)) ∧ (decode cX9_readsClause 8 = .ok (.if_icmp .eq 43, 3)) ∧ (decode cX9_readsClause 11 = .ok (.iload_n 1, 1)) ∧ (decode cX9_readsClause 12 = .ok (.bipush 100, 2)) ∧ (decode cX9_readsClause 14 = .ok (.if_icmp .eq 37, 3)) ∧ (decode cX9_readsClause 17 = .ok (.iload_n 1, 1)) := by decide +kernel
theorem dX9_readsClause_0 : decode cX9_readsClause 0 = .ok (.aload_n 0, 1) := q9_dX9_readsClause_0.1
theorem dX9_readsClause_1 : decode cX9_readsClause 1 = .ok (.invokevirtual 154, 3) := q9_dX9_readsClause_0.2.1
theorem dX9_readsClause_4 : decode cX9_readsClause 4 = .ok (.istore_n 1, 1) := q9_dX9_readsClause_0.2.2.1
theorem dX9_readsClause_5 : decode cX9_readsClause 5 = .ok (.iload_n 1, 1) := q9_dX9_readsClause_0.2.2.2.1
theorem dX9_readsClause_6 : decode cX9_readsClause 6 = .ok (.bipush 119, 2) := q9_dX9_readsClause_0.2.2.2.2.1
theorem dX9_readsClause_8 : decode cX9_readsClause 8 = .ok (.if_icmp .eq 43, 3) := q9_dX9_readsClause_0.2.2.2.2.2.1
theorem dX9_readsClause_11 : decode cX9_readsClause 11 = .ok (.iload_n 1, 1) := q9_dX9_readsClause_0.2.2.2.2.2.2.1
theorem dX9_readsClause_12 : decode cX9_readsClause 12 = .ok (.bipush 100, 2) := q9_dX9_readsClause_0.2.2.2.2.2.2.2.1
theorem dX9_readsClause_14 : decode cX9_readsClause 14 = .ok (.if_icmp .eq 37, 3) := q9_dX9_readsClause_0.2.2.2.2.2.2.2.2.1
theorem dX9_readsClause_17 : decode cX9_readsClause 17 = .ok (.iload_n 1, 1) := q9_dX9_readsClause_0.2.2.2.2.2.2.2.2.2
theorem q9_dX9_readsClause_18 : (decode cX9_readsClause 18 = .ok (.bipush 107, 2)) ∧ (decode cX9_readsClause 20 = .ok (.if_icmp .eq 31, 3)) ∧ (decode cX9_readsClause 23 = .ok (.iload_n 1, 1)) ∧ (decode cX9_readsClause 24 = .ok (.bipush 110, 2)) ∧ (decode cX9_readsClause 26 = .ok (.if_icmp .eq 25, 3)) ∧ (decode cX9_readsClause 29 = .ok (.iload_n 1, 1)) ∧ (decode cX9_readsClause 30 = .ok (.bipush 102, 2)) ∧ (decode cX9_readsClause 32 = .ok (.if_icmp .eq 19, 3)) ∧ (decode cX9_readsClause 35 = .ok (.iload_n 1, 1)) ∧ (decode cX9_readsClause 36 = .ok (.bipush 99, 2)) := by decide +kernel
theorem dX9_readsClause_18 : decode cX9_readsClause 18 = .ok (.bipush 107, 2) := q9_dX9_readsClause_18.1
theorem dX9_readsClause_20 : decode cX9_readsClause 20 = .ok (.if_icmp .eq 31, 3) := q9_dX9_readsClause_18.2.1
theorem dX9_readsClause_23 : decode cX9_readsClause 23 = .ok (.iload_n 1, 1) := q9_dX9_readsClause_18.2.2.1
theorem dX9_readsClause_24 : decode cX9_readsClause 24 = .ok (.bipush 110, 2) := q9_dX9_readsClause_18.2.2.2.1
theorem dX9_readsClause_26 : decode cX9_readsClause 26 = .ok (.if_icmp .eq 25, 3) := q9_dX9_readsClause_18.2.2.2.2.1
theorem dX9_readsClause_29 : decode cX9_readsClause 29 = .ok (.iload_n 1, 1) := q9_dX9_readsClause_18.2.2.2.2.2.1
theorem dX9_readsClause_30 : decode cX9_readsClause 30 = .ok (.bipush 102, 2) := q9_dX9_readsClause_18.2.2.2.2.2.2.1
theorem dX9_readsClause_32 : decode cX9_readsClause 32 = .ok (.if_icmp .eq 19, 3) := q9_dX9_readsClause_18.2.2.2.2.2.2.2.1
theorem dX9_readsClause_35 : decode cX9_readsClause 35 = .ok (.iload_n 1, 1) := q9_dX9_readsClause_18.2.2.2.2.2.2.2.2.1
theorem dX9_readsClause_36 : decode cX9_readsClause 36 = .ok (.bipush 99, 2) := q9_dX9_readsClause_18.2.2.2.2.2.2.2.2.2
theorem q9_dX9_readsClause_38 : (decode cX9_readsClause 38 = .ok (.if_icmp .eq 13, 3)) ∧ (decode cX9_readsClause 41 = .ok (.aload_n 0, 1)) ∧ (decode cX9_readsClause 42 = .ok (.iconst 1, 1)) ∧ (decode cX9_readsClause 43 = .ok (.aload_n 0, 1)) ∧ (decode cX9_readsClause 44 = .ok (.getfield 148, 3)) ∧ (decode cX9_readsClause 47 = .ok (.invokevirtual 168, 3)) ∧ (decode cX9_readsClause 50 = .ok (.ireturn, 1)) ∧ (decode cX9_readsClause 51 = .ok (.aload_n 0, 1)) ∧ (decode cX9_readsClause 52 = .ok (.aload_n 0, 1)) ∧ (decode cX9_readsClause 53 = .ok (.getfield 148, 3)) := by decide +kernel
theorem dX9_readsClause_38 : decode cX9_readsClause 38 = .ok (.if_icmp .eq 13, 3) := q9_dX9_readsClause_38.1
theorem dX9_readsClause_41 : decode cX9_readsClause 41 = .ok (.aload_n 0, 1) := q9_dX9_readsClause_38.2.1
theorem dX9_readsClause_42 : decode cX9_readsClause 42 = .ok (.iconst 1, 1) := q9_dX9_readsClause_38.2.2.1
theorem dX9_readsClause_43 : decode cX9_readsClause 43 = .ok (.aload_n 0, 1) := q9_dX9_readsClause_38.2.2.2.1
theorem dX9_readsClause_44 : decode cX9_readsClause 44 = .ok (.getfield 148, 3) := q9_dX9_readsClause_38.2.2.2.2.1
theorem dX9_readsClause_47 : decode cX9_readsClause 47 = .ok (.invokevirtual 168, 3) := q9_dX9_readsClause_38.2.2.2.2.2.1
theorem dX9_readsClause_50 : decode cX9_readsClause 50 = .ok (.ireturn, 1) := q9_dX9_readsClause_38.2.2.2.2.2.2.1
theorem dX9_readsClause_51 : decode cX9_readsClause 51 = .ok (.aload_n 0, 1) := q9_dX9_readsClause_38.2.2.2.2.2.2.2.1
theorem dX9_readsClause_52 : decode cX9_readsClause 52 = .ok (.aload_n 0, 1) := q9_dX9_readsClause_38.2.2.2.2.2.2.2.2.1
theorem dX9_readsClause_53 : decode cX9_readsClause 53 = .ok (.getfield 148, 3) := q9_dX9_readsClause_38.2.2.2.2.2.2.2.2.2
theorem q9_dX9_readsClause_56 : (decode cX9_readsClause 56 = .ok (.iconst 1, 1)) ∧ (decode cX9_readsClause 57 = .ok (.iadd, 1)) ∧ (decode cX9_readsClause 58 = .ok (.putfield 148, 3)) ∧ (decode cX9_readsClause 61 = .ok (.iload_n 1, 1)) ∧ (decode cX9_readsClause 62 = .ok (.lookupswitch 230 #[(100, 140), (102, 207), (107, 163), (110, 184), (119, 50)], 50)) ∧ (decode cX9_readsClause 112 = .ok (.aload_n 0, 1)) ∧ (decode cX9_readsClause 113 = .ok (.iconst 0, 1)) ∧ (decode cX9_readsClause 114 = .ok (.bipush 23, 2)) ∧ (decode cX9_readsClause 116 = .ok (.invokevirtual 172, 3)) ∧ (decode cX9_readsClause 119 = .ok (.ifCond .ne 5, 3)) := by decide +kernel
theorem dX9_readsClause_56 : decode cX9_readsClause 56 = .ok (.iconst 1, 1) := q9_dX9_readsClause_56.1
theorem dX9_readsClause_57 : decode cX9_readsClause 57 = .ok (.iadd, 1) := q9_dX9_readsClause_56.2.1
theorem dX9_readsClause_58 : decode cX9_readsClause 58 = .ok (.putfield 148, 3) := q9_dX9_readsClause_56.2.2.1
theorem dX9_readsClause_61 : decode cX9_readsClause 61 = .ok (.iload_n 1, 1) := q9_dX9_readsClause_56.2.2.2.1
theorem dX9_readsClause_62 : decode cX9_readsClause 62 = .ok (.lookupswitch 230 #[(100, 140), (102, 207), (107, 163), (110, 184), (119, 50)], 50) := q9_dX9_readsClause_56.2.2.2.2.1
theorem dX9_readsClause_112 : decode cX9_readsClause 112 = .ok (.aload_n 0, 1) := q9_dX9_readsClause_56.2.2.2.2.2.1
theorem dX9_readsClause_113 : decode cX9_readsClause 113 = .ok (.iconst 0, 1) := q9_dX9_readsClause_56.2.2.2.2.2.2.1
theorem dX9_readsClause_114 : decode cX9_readsClause 114 = .ok (.bipush 23, 2) := q9_dX9_readsClause_56.2.2.2.2.2.2.2.1
theorem dX9_readsClause_116 : decode cX9_readsClause 116 = .ok (.invokevirtual 172, 3) := q9_dX9_readsClause_56.2.2.2.2.2.2.2.2.1
theorem dX9_readsClause_119 : decode cX9_readsClause 119 = .ok (.ifCond .ne 5, 3) := q9_dX9_readsClause_56.2.2.2.2.2.2.2.2.2
theorem q9_dX9_readsClause_122 : (decode cX9_readsClause 122 = .ok (.iconst 0, 1)) ∧ (decode cX9_readsClause 123 = .ok (.ireturn, 1)) ∧ (decode cX9_readsClause 124 = .ok (.aload_n 0, 1)) ∧ (decode cX9_readsClause 125 = .ok (.getfield 161, 3)) ∧ (decode cX9_readsClause 128 = .ok (.istore_n 2, 1)) ∧ (decode cX9_readsClause 129 = .ok (.aload_n 0, 1)) ∧ (decode cX9_readsClause 130 = .ok (.invokevirtual 154, 3)) ∧ (decode cX9_readsClause 133 = .ok (.bipush 45, 2)) ∧ (decode cX9_readsClause 135 = .ok (.if_icmp .eq 13, 3)) ∧ (decode cX9_readsClause 138 = .ok (.aload_n 0, 1)) := by decide +kernel
theorem dX9_readsClause_122 : decode cX9_readsClause 122 = .ok (.iconst 0, 1) := q9_dX9_readsClause_122.1
theorem dX9_readsClause_123 : decode cX9_readsClause 123 = .ok (.ireturn, 1) := q9_dX9_readsClause_122.2.1
theorem dX9_readsClause_124 : decode cX9_readsClause 124 = .ok (.aload_n 0, 1) := q9_dX9_readsClause_122.2.2.1
theorem dX9_readsClause_125 : decode cX9_readsClause 125 = .ok (.getfield 161, 3) := q9_dX9_readsClause_122.2.2.2.1
theorem dX9_readsClause_128 : decode cX9_readsClause 128 = .ok (.istore_n 2, 1) := q9_dX9_readsClause_122.2.2.2.2.1
theorem dX9_readsClause_129 : decode cX9_readsClause 129 = .ok (.aload_n 0, 1) := q9_dX9_readsClause_122.2.2.2.2.2.1
theorem dX9_readsClause_130 : decode cX9_readsClause 130 = .ok (.invokevirtual 154, 3) := q9_dX9_readsClause_122.2.2.2.2.2.2.1
theorem dX9_readsClause_133 : decode cX9_readsClause 133 = .ok (.bipush 45, 2) := q9_dX9_readsClause_122.2.2.2.2.2.2.2.1
theorem dX9_readsClause_135 : decode cX9_readsClause 135 = .ok (.if_icmp .eq 13, 3) := q9_dX9_readsClause_122.2.2.2.2.2.2.2.2.1
theorem dX9_readsClause_138 : decode cX9_readsClause 138 = .ok (.aload_n 0, 1) := q9_dX9_readsClause_122.2.2.2.2.2.2.2.2.2
theorem q9_dX9_readsClause_139 : (decode cX9_readsClause 139 = .ok (.iconst 1, 1)) ∧ (decode cX9_readsClause 140 = .ok (.aload_n 0, 1)) ∧ (decode cX9_readsClause 141 = .ok (.getfield 148, 3)) ∧ (decode cX9_readsClause 144 = .ok (.invokevirtual 168, 3)) ∧ (decode cX9_readsClause 147 = .ok (.ireturn, 1)) ∧ (decode cX9_readsClause 148 = .ok (.aload_n 0, 1)) ∧ (decode cX9_readsClause 149 = .ok (.aload_n 0, 1)) ∧ (decode cX9_readsClause 150 = .ok (.getfield 148, 3)) ∧ (decode cX9_readsClause 153 = .ok (.iconst 1, 1)) ∧ (decode cX9_readsClause 154 = .ok (.iadd, 1)) := by decide +kernel
theorem dX9_readsClause_139 : decode cX9_readsClause 139 = .ok (.iconst 1, 1) := q9_dX9_readsClause_139.1
theorem dX9_readsClause_140 : decode cX9_readsClause 140 = .ok (.aload_n 0, 1) := q9_dX9_readsClause_139.2.1
theorem dX9_readsClause_141 : decode cX9_readsClause 141 = .ok (.getfield 148, 3) := q9_dX9_readsClause_139.2.2.1
theorem dX9_readsClause_144 : decode cX9_readsClause 144 = .ok (.invokevirtual 168, 3) := q9_dX9_readsClause_139.2.2.2.1
theorem dX9_readsClause_147 : decode cX9_readsClause 147 = .ok (.ireturn, 1) := q9_dX9_readsClause_139.2.2.2.2.1
theorem dX9_readsClause_148 : decode cX9_readsClause 148 = .ok (.aload_n 0, 1) := q9_dX9_readsClause_139.2.2.2.2.2.1
theorem dX9_readsClause_149 : decode cX9_readsClause 149 = .ok (.aload_n 0, 1) := q9_dX9_readsClause_139.2.2.2.2.2.2.1
theorem dX9_readsClause_150 : decode cX9_readsClause 150 = .ok (.getfield 148, 3) := q9_dX9_readsClause_139.2.2.2.2.2.2.2.1
theorem dX9_readsClause_153 : decode cX9_readsClause 153 = .ok (.iconst 1, 1) := q9_dX9_readsClause_139.2.2.2.2.2.2.2.2.1
theorem dX9_readsClause_154 : decode cX9_readsClause 154 = .ok (.iadd, 1) := q9_dX9_readsClause_139.2.2.2.2.2.2.2.2.2
theorem q9_dX9_readsClause_155 : (decode cX9_readsClause 155 = .ok (.putfield 148, 3)) ∧ (decode cX9_readsClause 158 = .ok (.aload_n 0, 1)) ∧ (decode cX9_readsClause 159 = .ok (.iload_n 2, 1)) ∧ (decode cX9_readsClause 160 = .ok (.iconst 1, 1)) ∧ (decode cX9_readsClause 161 = .ok (.iadd, 1)) ∧ (decode cX9_readsClause 162 = .ok (.bipush 24, 2)) ∧ (decode cX9_readsClause 164 = .ok (.invokevirtual 172, 3)) ∧ (decode cX9_readsClause 167 = .ok (.ifCond .ne 5, 3)) ∧ (decode cX9_readsClause 170 = .ok (.iconst 0, 1)) ∧ (decode cX9_readsClause 171 = .ok (.ireturn, 1)) := by decide +kernel
theorem dX9_readsClause_155 : decode cX9_readsClause 155 = .ok (.putfield 148, 3) := q9_dX9_readsClause_155.1
theorem dX9_readsClause_158 : decode cX9_readsClause 158 = .ok (.aload_n 0, 1) := q9_dX9_readsClause_155.2.1
theorem dX9_readsClause_159 : decode cX9_readsClause 159 = .ok (.iload_n 2, 1) := q9_dX9_readsClause_155.2.2.1
theorem dX9_readsClause_160 : decode cX9_readsClause 160 = .ok (.iconst 1, 1) := q9_dX9_readsClause_155.2.2.2.1
theorem dX9_readsClause_161 : decode cX9_readsClause 161 = .ok (.iadd, 1) := q9_dX9_readsClause_155.2.2.2.2.1
theorem dX9_readsClause_162 : decode cX9_readsClause 162 = .ok (.bipush 24, 2) := q9_dX9_readsClause_155.2.2.2.2.2.1
theorem dX9_readsClause_164 : decode cX9_readsClause 164 = .ok (.invokevirtual 172, 3) := q9_dX9_readsClause_155.2.2.2.2.2.2.1
theorem dX9_readsClause_167 : decode cX9_readsClause 167 = .ok (.ifCond .ne 5, 3) := q9_dX9_readsClause_155.2.2.2.2.2.2.2.1
theorem dX9_readsClause_170 : decode cX9_readsClause 170 = .ok (.iconst 0, 1) := q9_dX9_readsClause_155.2.2.2.2.2.2.2.2.1
theorem dX9_readsClause_171 : decode cX9_readsClause 171 = .ok (.ireturn, 1) := q9_dX9_readsClause_155.2.2.2.2.2.2.2.2.2
theorem q9_dX9_readsClause_172 : (decode cX9_readsClause 172 = .ok (.iload_n 2, 1)) ∧ (decode cX9_readsClause 173 = .ok (.istore_n 3, 1)) ∧ (decode cX9_readsClause 174 = .ok (.iload_n 3, 1)) ∧ (decode cX9_readsClause 175 = .ok (.aload_n 0, 1)) ∧ (decode cX9_readsClause 176 = .ok (.getfield 161, 3)) ∧ (decode cX9_readsClause 179 = .ok (.if_icmp .ge 21, 3)) ∧ (decode cX9_readsClause 182 = .ok (.aload_n 0, 1)) ∧ (decode cX9_readsClause 183 = .ok (.aload_n 0, 1)) ∧ (decode cX9_readsClause 184 = .ok (.getfield 175, 3)) ∧ (decode cX9_readsClause 187 = .ok (.iconst 1, 1)) := by decide +kernel
theorem dX9_readsClause_172 : decode cX9_readsClause 172 = .ok (.iload_n 2, 1) := q9_dX9_readsClause_172.1
theorem dX9_readsClause_173 : decode cX9_readsClause 173 = .ok (.istore_n 3, 1) := q9_dX9_readsClause_172.2.1
theorem dX9_readsClause_174 : decode cX9_readsClause 174 = .ok (.iload_n 3, 1) := q9_dX9_readsClause_172.2.2.1
theorem dX9_readsClause_175 : decode cX9_readsClause 175 = .ok (.aload_n 0, 1) := q9_dX9_readsClause_172.2.2.2.1
theorem dX9_readsClause_176 : decode cX9_readsClause 176 = .ok (.getfield 161, 3) := q9_dX9_readsClause_172.2.2.2.2.1
theorem dX9_readsClause_179 : decode cX9_readsClause 179 = .ok (.if_icmp .ge 21, 3) := q9_dX9_readsClause_172.2.2.2.2.2.1
theorem dX9_readsClause_182 : decode cX9_readsClause 182 = .ok (.aload_n 0, 1) := q9_dX9_readsClause_172.2.2.2.2.2.2.1
theorem dX9_readsClause_183 : decode cX9_readsClause 183 = .ok (.aload_n 0, 1) := q9_dX9_readsClause_172.2.2.2.2.2.2.2.1
theorem dX9_readsClause_184 : decode cX9_readsClause 184 = .ok (.getfield 175, 3) := q9_dX9_readsClause_172.2.2.2.2.2.2.2.2.1
theorem dX9_readsClause_187 : decode cX9_readsClause 187 = .ok (.iconst 1, 1) := q9_dX9_readsClause_172.2.2.2.2.2.2.2.2.2
theorem q9_dX9_readsClause_188 : (decode cX9_readsClause 188 = .ok (.iload_n 3, 1)) ∧ (decode cX9_readsClause 189 = .ok (.ishl, 1)) ∧ (decode cX9_readsClause 190 = .ok (.ior, 1)) ∧ (decode cX9_readsClause 191 = .ok (.putfield 175, 3)) ∧ (decode cX9_readsClause 194 = .ok (.iinc 3 1, 3)) ∧ (decode cX9_readsClause 197 = .ok (.goto (-23), 3)) ∧ (decode cX9_readsClause 200 = .ok (.iconst 1, 1)) ∧ (decode cX9_readsClause 201 = .ok (.ireturn, 1)) ∧ (decode cX9_readsClause 202 = .ok (.aload_n 0, 1)) ∧ (decode cX9_readsClause 203 = .ok (.bipush 7, 2)) := by decide +kernel
theorem dX9_readsClause_188 : decode cX9_readsClause 188 = .ok (.iload_n 3, 1) := q9_dX9_readsClause_188.1
theorem dX9_readsClause_189 : decode cX9_readsClause 189 = .ok (.ishl, 1) := q9_dX9_readsClause_188.2.1
theorem dX9_readsClause_190 : decode cX9_readsClause 190 = .ok (.ior, 1) := q9_dX9_readsClause_188.2.2.1
theorem dX9_readsClause_191 : decode cX9_readsClause 191 = .ok (.putfield 175, 3) := q9_dX9_readsClause_188.2.2.2.1
theorem dX9_readsClause_194 : decode cX9_readsClause 194 = .ok (.iinc 3 1, 3) := q9_dX9_readsClause_188.2.2.2.2.1
theorem dX9_readsClause_197 : decode cX9_readsClause 197 = .ok (.goto (-23), 3) := q9_dX9_readsClause_188.2.2.2.2.2.1
theorem dX9_readsClause_200 : decode cX9_readsClause 200 = .ok (.iconst 1, 1) := q9_dX9_readsClause_188.2.2.2.2.2.2.1
theorem dX9_readsClause_201 : decode cX9_readsClause 201 = .ok (.ireturn, 1) := q9_dX9_readsClause_188.2.2.2.2.2.2.2.1
theorem dX9_readsClause_202 : decode cX9_readsClause 202 = .ok (.aload_n 0, 1) := q9_dX9_readsClause_188.2.2.2.2.2.2.2.2.1
theorem dX9_readsClause_203 : decode cX9_readsClause 203 = .ok (.bipush 7, 2) := q9_dX9_readsClause_188.2.2.2.2.2.2.2.2.2
theorem q9_dX9_readsClause_205 : (decode cX9_readsClause 205 = .ok (.bipush 7, 2)) ∧ (decode cX9_readsClause 207 = .ok (.invokevirtual 178, 3)) ∧ (decode cX9_readsClause 210 = .ok (.ifCond .ne 5, 3)) ∧ (decode cX9_readsClause 213 = .ok (.iconst 0, 1)) ∧ (decode cX9_readsClause 214 = .ok (.ireturn, 1)) ∧ (decode cX9_readsClause 215 = .ok (.aload_n 0, 1)) ∧ (decode cX9_readsClause 216 = .ok (.aload_n 0, 1)) ∧ (decode cX9_readsClause 217 = .ok (.getfield 161, 3)) ∧ (decode cX9_readsClause 220 = .ok (.putfield 181, 3)) ∧ (decode cX9_readsClause 223 = .ok (.iconst 1, 1)) := by decide +kernel
theorem dX9_readsClause_205 : decode cX9_readsClause 205 = .ok (.bipush 7, 2) := q9_dX9_readsClause_205.1
theorem dX9_readsClause_207 : decode cX9_readsClause 207 = .ok (.invokevirtual 178, 3) := q9_dX9_readsClause_205.2.1
theorem dX9_readsClause_210 : decode cX9_readsClause 210 = .ok (.ifCond .ne 5, 3) := q9_dX9_readsClause_205.2.2.1
theorem dX9_readsClause_213 : decode cX9_readsClause 213 = .ok (.iconst 0, 1) := q9_dX9_readsClause_205.2.2.2.1
theorem dX9_readsClause_214 : decode cX9_readsClause 214 = .ok (.ireturn, 1) := q9_dX9_readsClause_205.2.2.2.2.1
theorem dX9_readsClause_215 : decode cX9_readsClause 215 = .ok (.aload_n 0, 1) := q9_dX9_readsClause_205.2.2.2.2.2.1
theorem dX9_readsClause_216 : decode cX9_readsClause 216 = .ok (.aload_n 0, 1) := q9_dX9_readsClause_205.2.2.2.2.2.2.1
theorem dX9_readsClause_217 : decode cX9_readsClause 217 = .ok (.getfield 161, 3) := q9_dX9_readsClause_205.2.2.2.2.2.2.2.1
theorem dX9_readsClause_220 : decode cX9_readsClause 220 = .ok (.putfield 181, 3) := q9_dX9_readsClause_205.2.2.2.2.2.2.2.2.1
theorem dX9_readsClause_223 : decode cX9_readsClause 223 = .ok (.iconst 1, 1) := q9_dX9_readsClause_205.2.2.2.2.2.2.2.2.2
theorem q9_dX9_readsClause_224 : (decode cX9_readsClause 224 = .ok (.ireturn, 1)) ∧ (decode cX9_readsClause 225 = .ok (.aload_n 0, 1)) ∧ (decode cX9_readsClause 226 = .ok (.iconst 4, 1)) ∧ (decode cX9_readsClause 227 = .ok (.iconst 4, 1)) ∧ (decode cX9_readsClause 228 = .ok (.invokevirtual 178, 3)) ∧ (decode cX9_readsClause 231 = .ok (.ifCond .ne 5, 3)) ∧ (decode cX9_readsClause 234 = .ok (.iconst 0, 1)) ∧ (decode cX9_readsClause 235 = .ok (.ireturn, 1)) ∧ (decode cX9_readsClause 236 = .ok (.aload_n 0, 1)) ∧ (decode cX9_readsClause 237 = .ok (.aload_n 0, 1)) := by decide +kernel
theorem dX9_readsClause_224 : decode cX9_readsClause 224 = .ok (.ireturn, 1) := q9_dX9_readsClause_224.1
theorem dX9_readsClause_225 : decode cX9_readsClause 225 = .ok (.aload_n 0, 1) := q9_dX9_readsClause_224.2.1
theorem dX9_readsClause_226 : decode cX9_readsClause 226 = .ok (.iconst 4, 1) := q9_dX9_readsClause_224.2.2.1
theorem dX9_readsClause_227 : decode cX9_readsClause 227 = .ok (.iconst 4, 1) := q9_dX9_readsClause_224.2.2.2.1
theorem dX9_readsClause_228 : decode cX9_readsClause 228 = .ok (.invokevirtual 178, 3) := q9_dX9_readsClause_224.2.2.2.2.1
theorem dX9_readsClause_231 : decode cX9_readsClause 231 = .ok (.ifCond .ne 5, 3) := q9_dX9_readsClause_224.2.2.2.2.2.1
theorem dX9_readsClause_234 : decode cX9_readsClause 234 = .ok (.iconst 0, 1) := q9_dX9_readsClause_224.2.2.2.2.2.2.1
theorem dX9_readsClause_235 : decode cX9_readsClause 235 = .ok (.ireturn, 1) := q9_dX9_readsClause_224.2.2.2.2.2.2.2.1
theorem dX9_readsClause_236 : decode cX9_readsClause 236 = .ok (.aload_n 0, 1) := q9_dX9_readsClause_224.2.2.2.2.2.2.2.2.1
theorem dX9_readsClause_237 : decode cX9_readsClause 237 = .ok (.aload_n 0, 1) := q9_dX9_readsClause_224.2.2.2.2.2.2.2.2.2
theorem q9_dX9_readsClause_238 : (decode cX9_readsClause 238 = .ok (.getfield 161, 3)) ∧ (decode cX9_readsClause 241 = .ok (.putfield 184, 3)) ∧ (decode cX9_readsClause 244 = .ok (.iconst 1, 1)) ∧ (decode cX9_readsClause 245 = .ok (.ireturn, 1)) ∧ (decode cX9_readsClause 246 = .ok (.aload_n 0, 1)) ∧ (decode cX9_readsClause 247 = .ok (.iconst 0, 1)) ∧ (decode cX9_readsClause 248 = .ok (.sipush 999, 3)) ∧ (decode cX9_readsClause 251 = .ok (.invokevirtual 172, 3)) ∧ (decode cX9_readsClause 254 = .ok (.ifCond .ne 5, 3)) ∧ (decode cX9_readsClause 257 = .ok (.iconst 0, 1)) := by decide +kernel
theorem dX9_readsClause_238 : decode cX9_readsClause 238 = .ok (.getfield 161, 3) := q9_dX9_readsClause_238.1
theorem dX9_readsClause_241 : decode cX9_readsClause 241 = .ok (.putfield 184, 3) := q9_dX9_readsClause_238.2.1
theorem dX9_readsClause_244 : decode cX9_readsClause 244 = .ok (.iconst 1, 1) := q9_dX9_readsClause_238.2.2.1
theorem dX9_readsClause_245 : decode cX9_readsClause 245 = .ok (.ireturn, 1) := q9_dX9_readsClause_238.2.2.2.1
theorem dX9_readsClause_246 : decode cX9_readsClause 246 = .ok (.aload_n 0, 1) := q9_dX9_readsClause_238.2.2.2.2.1
theorem dX9_readsClause_247 : decode cX9_readsClause 247 = .ok (.iconst 0, 1) := q9_dX9_readsClause_238.2.2.2.2.2.1
theorem dX9_readsClause_248 : decode cX9_readsClause 248 = .ok (.sipush 999, 3) := q9_dX9_readsClause_238.2.2.2.2.2.2.1
theorem dX9_readsClause_251 : decode cX9_readsClause 251 = .ok (.invokevirtual 172, 3) := q9_dX9_readsClause_238.2.2.2.2.2.2.2.1
theorem dX9_readsClause_254 : decode cX9_readsClause 254 = .ok (.ifCond .ne 5, 3) := q9_dX9_readsClause_238.2.2.2.2.2.2.2.2.1
theorem dX9_readsClause_257 : decode cX9_readsClause 257 = .ok (.iconst 0, 1) := q9_dX9_readsClause_238.2.2.2.2.2.2.2.2.2
theorem q9_dX9_readsClause_258 : (decode cX9_readsClause 258 = .ok (.ireturn, 1)) ∧ (decode cX9_readsClause 259 = .ok (.aload_n 0, 1)) ∧ (decode cX9_readsClause 260 = .ok (.aload_n 0, 1)) ∧ (decode cX9_readsClause 261 = .ok (.getfield 161, 3)) ∧ (decode cX9_readsClause 264 = .ok (.putfield 187, 3)) ∧ (decode cX9_readsClause 267 = .ok (.iconst 1, 1)) ∧ (decode cX9_readsClause 268 = .ok (.ireturn, 1)) ∧ (decode cX9_readsClause 269 = .ok (.aload_n 0, 1)) ∧ (decode cX9_readsClause 270 = .ok (.iconst 0, 1)) ∧ (decode cX9_readsClause 271 = .ok (.sipush 9999, 3)) := by decide +kernel
theorem dX9_readsClause_258 : decode cX9_readsClause 258 = .ok (.ireturn, 1) := q9_dX9_readsClause_258.1
theorem dX9_readsClause_259 : decode cX9_readsClause 259 = .ok (.aload_n 0, 1) := q9_dX9_readsClause_258.2.1
theorem dX9_readsClause_260 : decode cX9_readsClause 260 = .ok (.aload_n 0, 1) := q9_dX9_readsClause_258.2.2.1
theorem dX9_readsClause_261 : decode cX9_readsClause 261 = .ok (.getfield 161, 3) := q9_dX9_readsClause_258.2.2.2.1
theorem dX9_readsClause_264 : decode cX9_readsClause 264 = .ok (.putfield 187, 3) := q9_dX9_readsClause_258.2.2.2.2.1
theorem dX9_readsClause_267 : decode cX9_readsClause 267 = .ok (.iconst 1, 1) := q9_dX9_readsClause_258.2.2.2.2.2.1
theorem dX9_readsClause_268 : decode cX9_readsClause 268 = .ok (.ireturn, 1) := q9_dX9_readsClause_258.2.2.2.2.2.2.1
theorem dX9_readsClause_269 : decode cX9_readsClause 269 = .ok (.aload_n 0, 1) := q9_dX9_readsClause_258.2.2.2.2.2.2.2.1
theorem dX9_readsClause_270 : decode cX9_readsClause 270 = .ok (.iconst 0, 1) := q9_dX9_readsClause_258.2.2.2.2.2.2.2.2.1
theorem dX9_readsClause_271 : decode cX9_readsClause 271 = .ok (.sipush 9999, 3) := q9_dX9_readsClause_258.2.2.2.2.2.2.2.2.2
theorem q9_dX9_readsClause_274 : (decode cX9_readsClause 274 = .ok (.invokevirtual 172, 3)) ∧ (decode cX9_readsClause 277 = .ok (.ifCond .ne 5, 3)) ∧ (decode cX9_readsClause 280 = .ok (.iconst 0, 1)) ∧ (decode cX9_readsClause 281 = .ok (.ireturn, 1)) ∧ (decode cX9_readsClause 282 = .ok (.aload_n 0, 1)) ∧ (decode cX9_readsClause 283 = .ok (.aload_n 0, 1)) ∧ (decode cX9_readsClause 284 = .ok (.getfield 161, 3)) ∧ (decode cX9_readsClause 287 = .ok (.putfield 190, 3)) ∧ (decode cX9_readsClause 290 = .ok (.iconst 1, 1)) ∧ (decode cX9_readsClause 291 = .ok (.ireturn, 1)) := by decide +kernel
theorem dX9_readsClause_274 : decode cX9_readsClause 274 = .ok (.invokevirtual 172, 3) := q9_dX9_readsClause_274.1
theorem dX9_readsClause_277 : decode cX9_readsClause 277 = .ok (.ifCond .ne 5, 3) := q9_dX9_readsClause_274.2.1
theorem dX9_readsClause_280 : decode cX9_readsClause 280 = .ok (.iconst 0, 1) := q9_dX9_readsClause_274.2.2.1
theorem dX9_readsClause_281 : decode cX9_readsClause 281 = .ok (.ireturn, 1) := q9_dX9_readsClause_274.2.2.2.1
theorem dX9_readsClause_282 : decode cX9_readsClause 282 = .ok (.aload_n 0, 1) := q9_dX9_readsClause_274.2.2.2.2.1
theorem dX9_readsClause_283 : decode cX9_readsClause 283 = .ok (.aload_n 0, 1) := q9_dX9_readsClause_274.2.2.2.2.2.1
theorem dX9_readsClause_284 : decode cX9_readsClause 284 = .ok (.getfield 161, 3) := q9_dX9_readsClause_274.2.2.2.2.2.2.1
theorem dX9_readsClause_287 : decode cX9_readsClause 287 = .ok (.putfield 190, 3) := q9_dX9_readsClause_274.2.2.2.2.2.2.2.1
theorem dX9_readsClause_290 : decode cX9_readsClause 290 = .ok (.iconst 1, 1) := q9_dX9_readsClause_274.2.2.2.2.2.2.2.2.1
theorem dX9_readsClause_291 : decode cX9_readsClause 291 = .ok (.ireturn, 1) := q9_dX9_readsClause_274.2.2.2.2.2.2.2.2.2
theorem q9_dX9_readsClause_292 : (decode cX9_readsClause 292 = .ok (.aload_n 0, 1)) ∧ (decode cX9_readsClause 293 = .ok (.iconst 0, 1)) ∧ (decode cX9_readsClause 294 = .ok (.bipush 100, 2)) ∧ (decode cX9_readsClause 296 = .ok (.invokevirtual 172, 3)) ∧ (decode cX9_readsClause 299 = .ok (.ifCond .ne 5, 3)) ∧ (decode cX9_readsClause 302 = .ok (.iconst 0, 1)) ∧ (decode cX9_readsClause 303 = .ok (.ireturn, 1)) ∧ (decode cX9_readsClause 304 = .ok (.aload_n 0, 1)) ∧ (decode cX9_readsClause 305 = .ok (.aload_n 0, 1)) ∧ (decode cX9_readsClause 306 = .ok (.getfield 161, 3)) := by decide +kernel
theorem dX9_readsClause_292 : decode cX9_readsClause 292 = .ok (.aload_n 0, 1) := q9_dX9_readsClause_292.1
theorem dX9_readsClause_293 : decode cX9_readsClause 293 = .ok (.iconst 0, 1) := q9_dX9_readsClause_292.2.1
theorem dX9_readsClause_294 : decode cX9_readsClause 294 = .ok (.bipush 100, 2) := q9_dX9_readsClause_292.2.2.1
theorem dX9_readsClause_296 : decode cX9_readsClause 296 = .ok (.invokevirtual 172, 3) := q9_dX9_readsClause_292.2.2.2.1
theorem dX9_readsClause_299 : decode cX9_readsClause 299 = .ok (.ifCond .ne 5, 3) := q9_dX9_readsClause_292.2.2.2.2.1
theorem dX9_readsClause_302 : decode cX9_readsClause 302 = .ok (.iconst 0, 1) := q9_dX9_readsClause_292.2.2.2.2.2.1
theorem dX9_readsClause_303 : decode cX9_readsClause 303 = .ok (.ireturn, 1) := q9_dX9_readsClause_292.2.2.2.2.2.2.1
theorem dX9_readsClause_304 : decode cX9_readsClause 304 = .ok (.aload_n 0, 1) := q9_dX9_readsClause_292.2.2.2.2.2.2.2.1
theorem dX9_readsClause_305 : decode cX9_readsClause 305 = .ok (.aload_n 0, 1) := q9_dX9_readsClause_292.2.2.2.2.2.2.2.2.1
theorem dX9_readsClause_306 : decode cX9_readsClause 306 = .ok (.getfield 161, 3) := q9_dX9_readsClause_292.2.2.2.2.2.2.2.2.2
theorem q9_dX9_readsClause_309 : (decode cX9_readsClause 309 = .ok (.putfield 193, 3)) ∧ (decode cX9_readsClause 312 = .ok (.iconst 1, 1)) ∧ (decode cX9_readsClause 313 = .ok (.ireturn, 1)) := by decide +kernel
theorem dX9_readsClause_309 : decode cX9_readsClause 309 = .ok (.putfield 193, 3) := q9_dX9_readsClause_309.1
theorem dX9_readsClause_312 : decode cX9_readsClause 312 = .ok (.iconst 1, 1) := q9_dX9_readsClause_309.2.1
theorem dX9_readsClause_313 : decode cX9_readsClause 313 = .ok (.ireturn, 1) := q9_dX9_readsClause_309.2.2
set_option maxRecDepth 20000 in
theorem ggX9_readsText_X9_readsClause : GoodIn wsX9_readsText wsX9_readsClause := goodIn_r _ [7, 1, 8, 9, 10, 11, 12, 13, 14, 15, 16, 17, 6, 18, 2, 19, 20, 21, 22, 23, 24, 25, 26, 27, 28, 29, 30, 31, 32, 33, 34, 35, 36, 37, 38, 39, 40, 41, 42, 43, 44, 45, 46, 47, 48, 49, 50, 51, 52, 53, 54, 55, 56, 57, 58, 59, 60, 61, 62, 63, 64, 65, 66, 67, 68, 69, 70, 71, 72, 73, 74, 75, 76, 77, 78, 79, 80, 81, 82, 83, 84, 85, 86, 87, 88, 89, 90, 91, 92, 93, 94, 95, 96, 97, 98, 99] rfl (by decide +kernel)
set_option maxRecDepth 20000 in
theorem gX9_readsText_X9_readsClause : GoodIn wsX9_readsText (wsV RX9 196 RX9 yX9_readsClause wsX9_readsClause) := goodIn_app (goodIn_of _ (by decide +kernel)) ggX9_readsText_X9_readsClause
set_option maxRecDepth 20000 in
theorem ggX9_readsText_X9_here : GoodIn wsX9_readsText wsX9_here := goodIn_r _ [18, 1, 2, 19, 37, 38, 39, 40, 41, 42, 43, 44, 45, 46, 47, 48, 49, 50, 51, 52, 53, 54, 55, 56, 57, 58, 59, 60, 61, 62, 63, 64, 65, 66, 67, 68, 69, 70, 71, 72, 73, 74, 75, 76, 77, 78, 79, 80, 81, 82, 83, 84, 85, 86, 87, 88, 89, 90, 91, 92, 93, 94, 95, 96, 97, 98, 99] rfl (by decide +kernel)
set_option maxRecDepth 20000 in
theorem gX9_readsText_X9_here : GoodIn wsX9_readsText (wsV RX9 154 RX9 yX9_here wsX9_here) := goodIn_app (goodIn_of _ (by decide +kernel)) ggX9_readsText_X9_here
set_option maxRecDepth 20000 in
theorem ggX9_readsText_X9_wrong : GoodIn wsX9_readsText wsX9_wrong := goodIn_r _ [23, 24, 37, 38, 39, 40, 41, 42, 43, 44, 45, 46, 47, 48, 49, 50, 51, 52, 53, 54, 55, 56, 57, 58, 59, 60, 61, 62, 63, 64, 65, 66, 67, 68, 69, 70, 71, 72, 73, 74, 75, 76, 77, 78, 79, 80, 81, 82, 83, 84, 85, 86, 87, 88, 89, 90, 91, 92, 93, 94, 95, 96, 97, 98, 99] rfl (by decide +kernel)
set_option maxRecDepth 20000 in
theorem gX9_readsText_X9_wrong : GoodIn wsX9_readsText (wsV RX9 168 RX9 yX9_wrong wsX9_wrong) := goodIn_app (goodIn_of _ (by decide +kernel)) ggX9_readsText_X9_wrong
theorem q9_dX9_readsText_0 : (decode cX9_readsText 0 = .ok (.iconst 1, 1)) ∧ (decode cX9_readsText 1 = .ok (.istore_n 1, 1)) ∧ (decode cX9_readsText 2 = .ok (.iload_n 1, 1)) ∧ (decode cX9_readsText 3 = .ok (.ifCond .eq 65, 3)) ∧ (decode cX9_readsText 6 = .ok (.aload_n 0, 1)) ∧ (decode cX9_readsText 7 = .ok (.invokevirtual 196, 3)) ∧ (decode cX9_readsText 10 = .ok (.ifCond .ne 5, 3)) ∧ (decode cX9_readsText 13 = .ok (.iconst 0, 1)) ∧ (decode cX9_readsText 14 = .ok (.ireturn, 1)) ∧ (decode cX9_readsText 15 = .ok (.aload_n 0, 1)) := by decide +kernel
theorem dX9_readsText_0 : decode cX9_readsText 0 = .ok (.iconst 1, 1) := q9_dX9_readsText_0.1
theorem dX9_readsText_1 : decode cX9_readsText 1 = .ok (.istore_n 1, 1) := q9_dX9_readsText_0.2.1
theorem dX9_readsText_2 : decode cX9_readsText 2 = .ok (.iload_n 1, 1) := q9_dX9_readsText_0.2.2.1
theorem dX9_readsText_3 : decode cX9_readsText 3 = .ok (.ifCond .eq 65, 3) := q9_dX9_readsText_0.2.2.2.1
theorem dX9_readsText_6 : decode cX9_readsText 6 = .ok (.aload_n 0, 1) := q9_dX9_readsText_0.2.2.2.2.1
theorem dX9_readsText_7 : decode cX9_readsText 7 = .ok (.invokevirtual 196, 3) := q9_dX9_readsText_0.2.2.2.2.2.1
theorem dX9_readsText_10 : decode cX9_readsText 10 = .ok (.ifCond .ne 5, 3) := q9_dX9_readsText_0.2.2.2.2.2.2.1
theorem dX9_readsText_13 : decode cX9_readsText 13 = .ok (.iconst 0, 1) := q9_dX9_readsText_0.2.2.2.2.2.2.2.1
theorem dX9_readsText_14 : decode cX9_readsText 14 = .ok (.ireturn, 1) := q9_dX9_readsText_0.2.2.2.2.2.2.2.2.1
theorem dX9_readsText_15 : decode cX9_readsText 15 = .ok (.aload_n 0, 1) := q9_dX9_readsText_0.2.2.2.2.2.2.2.2.2
theorem q9_dX9_readsText_16 : (decode cX9_readsText 16 = .ok (.getfield 148, 3)) ∧ (decode cX9_readsText 19 = .ok (.aload_n 0, 1)) ∧ (decode cX9_readsText 20 = .ok (.getfield 151, 3)) ∧ (decode cX9_readsText 23 = .ok (.if_icmp .ge 7, 3)) ∧ (decode cX9_readsText 26 = .ok (.iconst 1, 1)) ∧ (decode cX9_readsText 27 = .ok (.goto 4, 3)) ∧ (decode cX9_readsText 30 = .ok (.iconst 0, 1)) ∧ (decode cX9_readsText 31 = .ok (.istore_n 1, 1)) ∧ (decode cX9_readsText 32 = .ok (.iload_n 1, 1)) ∧ (decode cX9_readsText 33 = .ok (.ifCond .eq 22, 3)) := by decide +kernel
theorem dX9_readsText_16 : decode cX9_readsText 16 = .ok (.getfield 148, 3) := q9_dX9_readsText_16.1
theorem dX9_readsText_19 : decode cX9_readsText 19 = .ok (.aload_n 0, 1) := q9_dX9_readsText_16.2.1
theorem dX9_readsText_20 : decode cX9_readsText 20 = .ok (.getfield 151, 3) := q9_dX9_readsText_16.2.2.1
theorem dX9_readsText_23 : decode cX9_readsText 23 = .ok (.if_icmp .ge 7, 3) := q9_dX9_readsText_16.2.2.2.1
theorem dX9_readsText_26 : decode cX9_readsText 26 = .ok (.iconst 1, 1) := q9_dX9_readsText_16.2.2.2.2.1
theorem dX9_readsText_27 : decode cX9_readsText 27 = .ok (.goto 4, 3) := q9_dX9_readsText_16.2.2.2.2.2.1
theorem dX9_readsText_30 : decode cX9_readsText 30 = .ok (.iconst 0, 1) := q9_dX9_readsText_16.2.2.2.2.2.2.1
theorem dX9_readsText_31 : decode cX9_readsText 31 = .ok (.istore_n 1, 1) := q9_dX9_readsText_16.2.2.2.2.2.2.2.1
theorem dX9_readsText_32 : decode cX9_readsText 32 = .ok (.iload_n 1, 1) := q9_dX9_readsText_16.2.2.2.2.2.2.2.2.1
theorem dX9_readsText_33 : decode cX9_readsText 33 = .ok (.ifCond .eq 22, 3) := q9_dX9_readsText_16.2.2.2.2.2.2.2.2.2
theorem q9_dX9_readsText_36 : (decode cX9_readsText 36 = .ok (.aload_n 0, 1)) ∧ (decode cX9_readsText 37 = .ok (.invokevirtual 154, 3)) ∧ (decode cX9_readsText 40 = .ok (.bipush 59, 2)) ∧ (decode cX9_readsText 42 = .ok (.if_icmp .eq 13, 3)) ∧ (decode cX9_readsText 45 = .ok (.aload_n 0, 1)) ∧ (decode cX9_readsText 46 = .ok (.iconst 1, 1)) ∧ (decode cX9_readsText 47 = .ok (.aload_n 0, 1)) ∧ (decode cX9_readsText 48 = .ok (.getfield 148, 3)) ∧ (decode cX9_readsText 51 = .ok (.invokevirtual 168, 3)) ∧ (decode cX9_readsText 54 = .ok (.ireturn, 1)) := by decide +kernel
theorem dX9_readsText_36 : decode cX9_readsText 36 = .ok (.aload_n 0, 1) := q9_dX9_readsText_36.1
theorem dX9_readsText_37 : decode cX9_readsText 37 = .ok (.invokevirtual 154, 3) := q9_dX9_readsText_36.2.1
theorem dX9_readsText_40 : decode cX9_readsText 40 = .ok (.bipush 59, 2) := q9_dX9_readsText_36.2.2.1
theorem dX9_readsText_42 : decode cX9_readsText 42 = .ok (.if_icmp .eq 13, 3) := q9_dX9_readsText_36.2.2.2.1
theorem dX9_readsText_45 : decode cX9_readsText 45 = .ok (.aload_n 0, 1) := q9_dX9_readsText_36.2.2.2.2.1
theorem dX9_readsText_46 : decode cX9_readsText 46 = .ok (.iconst 1, 1) := q9_dX9_readsText_36.2.2.2.2.2.1
theorem dX9_readsText_47 : decode cX9_readsText 47 = .ok (.aload_n 0, 1) := q9_dX9_readsText_36.2.2.2.2.2.2.1
theorem dX9_readsText_48 : decode cX9_readsText 48 = .ok (.getfield 148, 3) := q9_dX9_readsText_36.2.2.2.2.2.2.2.1
theorem dX9_readsText_51 : decode cX9_readsText 51 = .ok (.invokevirtual 168, 3) := q9_dX9_readsText_36.2.2.2.2.2.2.2.2.1
theorem dX9_readsText_54 : decode cX9_readsText 54 = .ok (.ireturn, 1) := q9_dX9_readsText_36.2.2.2.2.2.2.2.2.2
theorem q9_dX9_readsText_55 : (decode cX9_readsText 55 = .ok (.aload_n 0, 1)) ∧ (decode cX9_readsText 56 = .ok (.aload_n 0, 1)) ∧ (decode cX9_readsText 57 = .ok (.getfield 148, 3)) ∧ (decode cX9_readsText 60 = .ok (.iconst 1, 1)) ∧ (decode cX9_readsText 61 = .ok (.iadd, 1)) ∧ (decode cX9_readsText 62 = .ok (.putfield 148, 3)) ∧ (decode cX9_readsText 65 = .ok (.goto (-63), 3)) ∧ (decode cX9_readsText 68 = .ok (.iconst 1, 1)) ∧ (decode cX9_readsText 69 = .ok (.ireturn, 1)) := by decide +kernel
theorem dX9_readsText_55 : decode cX9_readsText 55 = .ok (.aload_n 0, 1) := q9_dX9_readsText_55.1
theorem dX9_readsText_56 : decode cX9_readsText 56 = .ok (.aload_n 0, 1) := q9_dX9_readsText_55.2.1
theorem dX9_readsText_57 : decode cX9_readsText 57 = .ok (.getfield 148, 3) := q9_dX9_readsText_55.2.2.1
theorem dX9_readsText_60 : decode cX9_readsText 60 = .ok (.iconst 1, 1) := q9_dX9_readsText_55.2.2.2.1
theorem dX9_readsText_61 : decode cX9_readsText 61 = .ok (.iadd, 1) := q9_dX9_readsText_55.2.2.2.2.1
theorem dX9_readsText_62 : decode cX9_readsText 62 = .ok (.putfield 148, 3) := q9_dX9_readsText_55.2.2.2.2.2.1
theorem dX9_readsText_65 : decode cX9_readsText 65 = .ok (.goto (-63), 3) := q9_dX9_readsText_55.2.2.2.2.2.2.1
theorem dX9_readsText_68 : decode cX9_readsText 68 = .ok (.iconst 1, 1) := q9_dX9_readsText_55.2.2.2.2.2.2.2.1
theorem dX9_readsText_69 : decode cX9_readsText 69 = .ok (.ireturn, 1) := q9_dX9_readsText_55.2.2.2.2.2.2.2.2
set_option maxRecDepth 20000 in
theorem ggX9_rights_X9_readsText : GoodIn wsX9_rights wsX9_readsText := goodIn_r _ [22, 2, 3, 23, 24, 25, 21, 26, 27, 5, 6, 7, 8, 9, 10, 28, 29, 30, 31, 32, 33, 34, 35, 36, 4, 37, 38, 39, 40, 41, 42, 43, 44, 45, 46, 47, 48, 49, 50, 51, 52, 53, 54, 55, 56, 57, 58, 59, 60, 61, 62, 63, 64, 65, 66, 67, 68, 69, 70, 71, 72, 73, 74, 75, 76, 77, 78, 79, 80, 81, 82, 83, 84, 85, 86, 87, 88, 89, 90, 91, 92, 93, 94, 95, 96, 97, 98, 99, 100, 101, 102, 103, 104, 105, 106, 107, 108, 109, 110, 111] rfl (by decide +kernel)
set_option maxRecDepth 20000 in
theorem gX9_rights_X9_readsText : GoodIn wsX9_rights (wsV RX9 199 RX9 yX9_readsText wsX9_readsText) := goodIn_app (goodIn_of _ (by decide +kernel)) ggX9_rights_X9_readsText
theorem q9_dX9_rights_0 : (decode cX9_rights 0 = .ok (.iload_n 1, 1)) ∧ (decode cX9_rights 1 = .ok (.ifCond .lt 21, 3)) ∧ (decode cX9_rights 4 = .ok (.iload_n 1, 1)) ∧ (decode cX9_rights 5 = .ok (.bipush 6, 2)) ∧ (decode cX9_rights 7 = .ok (.if_icmp .ge 15, 3)) ∧ (decode cX9_rights 10 = .ok (.iload_n 2, 1)) ∧ (decode cX9_rights 11 = .ok (.ifCond .lt 11, 3)) ∧ (decode cX9_rights 14 = .ok (.iload_n 2, 1)) ∧ (decode cX9_rights 15 = .ok (.aload_n 0, 1)) ∧ (decode cX9_rights 16 = .ok (.getfield 141, 3)) := by decide +kernel
theorem dX9_rights_0 : decode cX9_rights 0 = .ok (.iload_n 1, 1) := q9_dX9_rights_0.1
theorem dX9_rights_1 : decode cX9_rights 1 = .ok (.ifCond .lt 21, 3) := q9_dX9_rights_0.2.1
theorem dX9_rights_4 : decode cX9_rights 4 = .ok (.iload_n 1, 1) := q9_dX9_rights_0.2.2.1
theorem dX9_rights_5 : decode cX9_rights 5 = .ok (.bipush 6, 2) := q9_dX9_rights_0.2.2.2.1
theorem dX9_rights_7 : decode cX9_rights 7 = .ok (.if_icmp .ge 15, 3) := q9_dX9_rights_0.2.2.2.2.1
theorem dX9_rights_10 : decode cX9_rights 10 = .ok (.iload_n 2, 1) := q9_dX9_rights_0.2.2.2.2.2.1
theorem dX9_rights_11 : decode cX9_rights 11 = .ok (.ifCond .lt 11, 3) := q9_dX9_rights_0.2.2.2.2.2.2.1
theorem dX9_rights_14 : decode cX9_rights 14 = .ok (.iload_n 2, 1) := q9_dX9_rights_0.2.2.2.2.2.2.2.1
theorem dX9_rights_15 : decode cX9_rights 15 = .ok (.aload_n 0, 1) := q9_dX9_rights_0.2.2.2.2.2.2.2.2.1
theorem dX9_rights_16 : decode cX9_rights 16 = .ok (.getfield 141, 3) := q9_dX9_rights_0.2.2.2.2.2.2.2.2.2
theorem q9_dX9_rights_19 : (decode cX9_rights 19 = .ok (.if_icmp .le 5, 3)) ∧ (decode cX9_rights 22 = .ok (.iconst (-1), 1)) ∧ (decode cX9_rights 23 = .ok (.ireturn, 1)) ∧ (decode cX9_rights 24 = .ok (.aload_n 0, 1)) ∧ (decode cX9_rights 25 = .ok (.iconst 0, 1)) ∧ (decode cX9_rights 26 = .ok (.putfield 148, 3)) ∧ (decode cX9_rights 29 = .ok (.aload_n 0, 1)) ∧ (decode cX9_rights 30 = .ok (.iload_n 2, 1)) ∧ (decode cX9_rights 31 = .ok (.putfield 151, 3)) ∧ (decode cX9_rights 34 = .ok (.aload_n 0, 1)) := by decide +kernel
theorem dX9_rights_19 : decode cX9_rights 19 = .ok (.if_icmp .le 5, 3) := q9_dX9_rights_19.1
theorem dX9_rights_22 : decode cX9_rights 22 = .ok (.iconst (-1), 1) := q9_dX9_rights_19.2.1
theorem dX9_rights_23 : decode cX9_rights 23 = .ok (.ireturn, 1) := q9_dX9_rights_19.2.2.1
theorem dX9_rights_24 : decode cX9_rights 24 = .ok (.aload_n 0, 1) := q9_dX9_rights_19.2.2.2.1
theorem dX9_rights_25 : decode cX9_rights 25 = .ok (.iconst 0, 1) := q9_dX9_rights_19.2.2.2.2.1
theorem dX9_rights_26 : decode cX9_rights 26 = .ok (.putfield 148, 3) := q9_dX9_rights_19.2.2.2.2.2.1
theorem dX9_rights_29 : decode cX9_rights 29 = .ok (.aload_n 0, 1) := q9_dX9_rights_19.2.2.2.2.2.2.1
theorem dX9_rights_30 : decode cX9_rights 30 = .ok (.iload_n 2, 1) := q9_dX9_rights_19.2.2.2.2.2.2.2.1
theorem dX9_rights_31 : decode cX9_rights 31 = .ok (.putfield 151, 3) := q9_dX9_rights_19.2.2.2.2.2.2.2.2.1
theorem dX9_rights_34 : decode cX9_rights 34 = .ok (.aload_n 0, 1) := q9_dX9_rights_19.2.2.2.2.2.2.2.2.2
theorem q9_dX9_rights_35 : (decode cX9_rights 35 = .ok (.iconst 0, 1)) ∧ (decode cX9_rights 36 = .ok (.putfield 158, 3)) ∧ (decode cX9_rights 39 = .ok (.aload_n 0, 1)) ∧ (decode cX9_rights 40 = .ok (.iconst 0, 1)) ∧ (decode cX9_rights 41 = .ok (.putfield 175, 3)) ∧ (decode cX9_rights 44 = .ok (.aload_n 0, 1)) ∧ (decode cX9_rights 45 = .ok (.bipush 127, 2)) ∧ (decode cX9_rights 47 = .ok (.putfield 181, 3)) ∧ (decode cX9_rights 50 = .ok (.aload_n 0, 1)) ∧ (decode cX9_rights 51 = .ok (.bipush 15, 2)) := by decide +kernel
theorem dX9_rights_35 : decode cX9_rights 35 = .ok (.iconst 0, 1) := q9_dX9_rights_35.1
theorem dX9_rights_36 : decode cX9_rights 36 = .ok (.putfield 158, 3) := q9_dX9_rights_35.2.1
theorem dX9_rights_39 : decode cX9_rights 39 = .ok (.aload_n 0, 1) := q9_dX9_rights_35.2.2.1
theorem dX9_rights_40 : decode cX9_rights 40 = .ok (.iconst 0, 1) := q9_dX9_rights_35.2.2.2.1
theorem dX9_rights_41 : decode cX9_rights 41 = .ok (.putfield 175, 3) := q9_dX9_rights_35.2.2.2.2.1
theorem dX9_rights_44 : decode cX9_rights 44 = .ok (.aload_n 0, 1) := q9_dX9_rights_35.2.2.2.2.2.1
theorem dX9_rights_45 : decode cX9_rights 45 = .ok (.bipush 127, 2) := q9_dX9_rights_35.2.2.2.2.2.2.1
theorem dX9_rights_47 : decode cX9_rights 47 = .ok (.putfield 181, 3) := q9_dX9_rights_35.2.2.2.2.2.2.2.1
theorem dX9_rights_50 : decode cX9_rights 50 = .ok (.aload_n 0, 1) := q9_dX9_rights_35.2.2.2.2.2.2.2.2.1
theorem dX9_rights_51 : decode cX9_rights 51 = .ok (.bipush 15, 2) := q9_dX9_rights_35.2.2.2.2.2.2.2.2.2
theorem q9_dX9_rights_53 : (decode cX9_rights 53 = .ok (.putfield 184, 3)) ∧ (decode cX9_rights 56 = .ok (.aload_n 0, 1)) ∧ (decode cX9_rights 57 = .ok (.sipush 168, 3)) ∧ (decode cX9_rights 60 = .ok (.putfield 187, 3)) ∧ (decode cX9_rights 63 = .ok (.aload_n 0, 1)) ∧ (decode cX9_rights 64 = .ok (.bipush 100, 2)) ∧ (decode cX9_rights 66 = .ok (.putfield 190, 3)) ∧ (decode cX9_rights 69 = .ok (.aload_n 0, 1)) ∧ (decode cX9_rights 70 = .ok (.bipush 50, 2)) ∧ (decode cX9_rights 72 = .ok (.putfield 193, 3)) := by decide +kernel
theorem dX9_rights_53 : decode cX9_rights 53 = .ok (.putfield 184, 3) := q9_dX9_rights_53.1
theorem dX9_rights_56 : decode cX9_rights 56 = .ok (.aload_n 0, 1) := q9_dX9_rights_53.2.1
theorem dX9_rights_57 : decode cX9_rights 57 = .ok (.sipush 168, 3) := q9_dX9_rights_53.2.2.1
theorem dX9_rights_60 : decode cX9_rights 60 = .ok (.putfield 187, 3) := q9_dX9_rights_53.2.2.2.1
theorem dX9_rights_63 : decode cX9_rights 63 = .ok (.aload_n 0, 1) := q9_dX9_rights_53.2.2.2.2.1
theorem dX9_rights_64 : decode cX9_rights 64 = .ok (.bipush 100, 2) := q9_dX9_rights_53.2.2.2.2.2.1
theorem dX9_rights_66 : decode cX9_rights 66 = .ok (.putfield 190, 3) := q9_dX9_rights_53.2.2.2.2.2.2.1
theorem dX9_rights_69 : decode cX9_rights 69 = .ok (.aload_n 0, 1) := q9_dX9_rights_53.2.2.2.2.2.2.2.1
theorem dX9_rights_70 : decode cX9_rights 70 = .ok (.bipush 50, 2) := q9_dX9_rights_53.2.2.2.2.2.2.2.2.1
theorem dX9_rights_72 : decode cX9_rights 72 = .ok (.putfield 193, 3) := q9_dX9_rights_53.2.2.2.2.2.2.2.2.2
theorem q9_dX9_rights_75 : (decode cX9_rights 75 = .ok (.aload_n 0, 1)) ∧ (decode cX9_rights 76 = .ok (.invokevirtual 199, 3)) ∧ (decode cX9_rights 79 = .ok (.istore_n 3, 1)) ∧ (decode cX9_rights 80 = .ok (.aload_n 0, 1)) ∧ (decode cX9_rights 81 = .ok (.iconst 0, 1)) ∧ (decode cX9_rights 82 = .ok (.putfield 141, 3)) ∧ (decode cX9_rights 85 = .ok (.iload_n 3, 1)) ∧ (decode cX9_rights 86 = .ok (.ifCond .ne 8, 3)) ∧ (decode cX9_rights 89 = .ok (.aload_n 0, 1)) ∧ (decode cX9_rights 90 = .ok (.getfield 158, 3)) := by decide +kernel
theorem dX9_rights_75 : decode cX9_rights 75 = .ok (.aload_n 0, 1) := q9_dX9_rights_75.1
theorem dX9_rights_76 : decode cX9_rights 76 = .ok (.invokevirtual 199, 3) := q9_dX9_rights_75.2.1
theorem dX9_rights_79 : decode cX9_rights 79 = .ok (.istore_n 3, 1) := q9_dX9_rights_75.2.2.1
theorem dX9_rights_80 : decode cX9_rights 80 = .ok (.aload_n 0, 1) := q9_dX9_rights_75.2.2.2.1
theorem dX9_rights_81 : decode cX9_rights 81 = .ok (.iconst 0, 1) := q9_dX9_rights_75.2.2.2.2.1
theorem dX9_rights_82 : decode cX9_rights 82 = .ok (.putfield 141, 3) := q9_dX9_rights_75.2.2.2.2.2.1
theorem dX9_rights_85 : decode cX9_rights 85 = .ok (.iload_n 3, 1) := q9_dX9_rights_75.2.2.2.2.2.2.1
theorem dX9_rights_86 : decode cX9_rights 86 = .ok (.ifCond .ne 8, 3) := q9_dX9_rights_75.2.2.2.2.2.2.2.1
theorem dX9_rights_89 : decode cX9_rights 89 = .ok (.aload_n 0, 1) := q9_dX9_rights_75.2.2.2.2.2.2.2.2.1
theorem dX9_rights_90 : decode cX9_rights 90 = .ok (.getfield 158, 3) := q9_dX9_rights_75.2.2.2.2.2.2.2.2.2
theorem q9_dX9_rights_93 : (decode cX9_rights 93 = .ok (.ireturn, 1)) ∧ (decode cX9_rights 94 = .ok (.aload_n 0, 1)) ∧ (decode cX9_rights 95 = .ok (.getfield 13, 3)) ∧ (decode cX9_rights 98 = .ok (.iload_n 1, 1)) ∧ (decode cX9_rights 99 = .ok (.aload_n 0, 1)) ∧ (decode cX9_rights 100 = .ok (.getfield 175, 3)) ∧ (decode cX9_rights 103 = .ok (.ifCond .ne 8, 3)) ∧ (decode cX9_rights 106 = .ok (.ldc 140, 2)) ∧ (decode cX9_rights 108 = .ok (.goto 7, 3)) ∧ (decode cX9_rights 111 = .ok (.aload_n 0, 1)) := by decide +kernel
theorem dX9_rights_93 : decode cX9_rights 93 = .ok (.ireturn, 1) := q9_dX9_rights_93.1
theorem dX9_rights_94 : decode cX9_rights 94 = .ok (.aload_n 0, 1) := q9_dX9_rights_93.2.1
theorem dX9_rights_95 : decode cX9_rights 95 = .ok (.getfield 13, 3) := q9_dX9_rights_93.2.2.1
theorem dX9_rights_98 : decode cX9_rights 98 = .ok (.iload_n 1, 1) := q9_dX9_rights_93.2.2.2.1
theorem dX9_rights_99 : decode cX9_rights 99 = .ok (.aload_n 0, 1) := q9_dX9_rights_93.2.2.2.2.1
theorem dX9_rights_100 : decode cX9_rights 100 = .ok (.getfield 175, 3) := q9_dX9_rights_93.2.2.2.2.2.1
theorem dX9_rights_103 : decode cX9_rights 103 = .ok (.ifCond .ne 8, 3) := q9_dX9_rights_93.2.2.2.2.2.2.1
theorem dX9_rights_106 : decode cX9_rights 106 = .ok (.ldc 140, 2) := q9_dX9_rights_93.2.2.2.2.2.2.2.1
theorem dX9_rights_108 : decode cX9_rights 108 = .ok (.goto 7, 3) := q9_dX9_rights_93.2.2.2.2.2.2.2.2.1
theorem dX9_rights_111 : decode cX9_rights 111 = .ok (.aload_n 0, 1) := q9_dX9_rights_93.2.2.2.2.2.2.2.2.2
theorem q9_dX9_rights_112 : (decode cX9_rights 112 = .ok (.getfield 175, 3)) ∧ (decode cX9_rights 115 = .ok (.iastore, 1)) ∧ (decode cX9_rights 116 = .ok (.aload_n 0, 1)) ∧ (decode cX9_rights 117 = .ok (.getfield 17, 3)) ∧ (decode cX9_rights 120 = .ok (.iload_n 1, 1)) ∧ (decode cX9_rights 121 = .ok (.aload_n 0, 1)) ∧ (decode cX9_rights 122 = .ok (.getfield 181, 3)) ∧ (decode cX9_rights 125 = .ok (.iastore, 1)) ∧ (decode cX9_rights 126 = .ok (.aload_n 0, 1)) ∧ (decode cX9_rights 127 = .ok (.getfield 20, 3)) := by decide +kernel
theorem dX9_rights_112 : decode cX9_rights 112 = .ok (.getfield 175, 3) := q9_dX9_rights_112.1
theorem dX9_rights_115 : decode cX9_rights 115 = .ok (.iastore, 1) := q9_dX9_rights_112.2.1
theorem dX9_rights_116 : decode cX9_rights 116 = .ok (.aload_n 0, 1) := q9_dX9_rights_112.2.2.1
theorem dX9_rights_117 : decode cX9_rights 117 = .ok (.getfield 17, 3) := q9_dX9_rights_112.2.2.2.1
theorem dX9_rights_120 : decode cX9_rights 120 = .ok (.iload_n 1, 1) := q9_dX9_rights_112.2.2.2.2.1
theorem dX9_rights_121 : decode cX9_rights 121 = .ok (.aload_n 0, 1) := q9_dX9_rights_112.2.2.2.2.2.1
theorem dX9_rights_122 : decode cX9_rights 122 = .ok (.getfield 181, 3) := q9_dX9_rights_112.2.2.2.2.2.2.1
theorem dX9_rights_125 : decode cX9_rights 125 = .ok (.iastore, 1) := q9_dX9_rights_112.2.2.2.2.2.2.2.1
theorem dX9_rights_126 : decode cX9_rights 126 = .ok (.aload_n 0, 1) := q9_dX9_rights_112.2.2.2.2.2.2.2.2.1
theorem dX9_rights_127 : decode cX9_rights 127 = .ok (.getfield 20, 3) := q9_dX9_rights_112.2.2.2.2.2.2.2.2.2
theorem q9_dX9_rights_130 : (decode cX9_rights 130 = .ok (.iload_n 1, 1)) ∧ (decode cX9_rights 131 = .ok (.aload_n 0, 1)) ∧ (decode cX9_rights 132 = .ok (.getfield 184, 3)) ∧ (decode cX9_rights 135 = .ok (.iastore, 1)) ∧ (decode cX9_rights 136 = .ok (.aload_n 0, 1)) ∧ (decode cX9_rights 137 = .ok (.getfield 23, 3)) ∧ (decode cX9_rights 140 = .ok (.iload_n 1, 1)) ∧ (decode cX9_rights 141 = .ok (.aload_n 0, 1)) ∧ (decode cX9_rights 142 = .ok (.getfield 187, 3)) ∧ (decode cX9_rights 145 = .ok (.iastore, 1)) := by decide +kernel
theorem dX9_rights_130 : decode cX9_rights 130 = .ok (.iload_n 1, 1) := q9_dX9_rights_130.1
theorem dX9_rights_131 : decode cX9_rights 131 = .ok (.aload_n 0, 1) := q9_dX9_rights_130.2.1
theorem dX9_rights_132 : decode cX9_rights 132 = .ok (.getfield 184, 3) := q9_dX9_rights_130.2.2.1
theorem dX9_rights_135 : decode cX9_rights 135 = .ok (.iastore, 1) := q9_dX9_rights_130.2.2.2.1
theorem dX9_rights_136 : decode cX9_rights 136 = .ok (.aload_n 0, 1) := q9_dX9_rights_130.2.2.2.2.1
theorem dX9_rights_137 : decode cX9_rights 137 = .ok (.getfield 23, 3) := q9_dX9_rights_130.2.2.2.2.2.1
theorem dX9_rights_140 : decode cX9_rights 140 = .ok (.iload_n 1, 1) := q9_dX9_rights_130.2.2.2.2.2.2.1
theorem dX9_rights_141 : decode cX9_rights 141 = .ok (.aload_n 0, 1) := q9_dX9_rights_130.2.2.2.2.2.2.2.1
theorem dX9_rights_142 : decode cX9_rights 142 = .ok (.getfield 187, 3) := q9_dX9_rights_130.2.2.2.2.2.2.2.2.1
theorem dX9_rights_145 : decode cX9_rights 145 = .ok (.iastore, 1) := q9_dX9_rights_130.2.2.2.2.2.2.2.2.2
theorem q9_dX9_rights_146 : (decode cX9_rights 146 = .ok (.aload_n 0, 1)) ∧ (decode cX9_rights 147 = .ok (.getfield 26, 3)) ∧ (decode cX9_rights 150 = .ok (.iload_n 1, 1)) ∧ (decode cX9_rights 151 = .ok (.aload_n 0, 1)) ∧ (decode cX9_rights 152 = .ok (.getfield 190, 3)) ∧ (decode cX9_rights 155 = .ok (.iastore, 1)) ∧ (decode cX9_rights 156 = .ok (.aload_n 0, 1)) ∧ (decode cX9_rights 157 = .ok (.getfield 29, 3)) ∧ (decode cX9_rights 160 = .ok (.iload_n 1, 1)) ∧ (decode cX9_rights 161 = .ok (.aload_n 0, 1)) := by decide +kernel
theorem dX9_rights_146 : decode cX9_rights 146 = .ok (.aload_n 0, 1) := q9_dX9_rights_146.1
theorem dX9_rights_147 : decode cX9_rights 147 = .ok (.getfield 26, 3) := q9_dX9_rights_146.2.1
theorem dX9_rights_150 : decode cX9_rights 150 = .ok (.iload_n 1, 1) := q9_dX9_rights_146.2.2.1
theorem dX9_rights_151 : decode cX9_rights 151 = .ok (.aload_n 0, 1) := q9_dX9_rights_146.2.2.2.1
theorem dX9_rights_152 : decode cX9_rights 152 = .ok (.getfield 190, 3) := q9_dX9_rights_146.2.2.2.2.1
theorem dX9_rights_155 : decode cX9_rights 155 = .ok (.iastore, 1) := q9_dX9_rights_146.2.2.2.2.2.1
theorem dX9_rights_156 : decode cX9_rights 156 = .ok (.aload_n 0, 1) := q9_dX9_rights_146.2.2.2.2.2.2.1
theorem dX9_rights_157 : decode cX9_rights 157 = .ok (.getfield 29, 3) := q9_dX9_rights_146.2.2.2.2.2.2.2.1
theorem dX9_rights_160 : decode cX9_rights 160 = .ok (.iload_n 1, 1) := q9_dX9_rights_146.2.2.2.2.2.2.2.2.1
theorem dX9_rights_161 : decode cX9_rights 161 = .ok (.aload_n 0, 1) := q9_dX9_rights_146.2.2.2.2.2.2.2.2.2
theorem q9_dX9_rights_162 : (decode cX9_rights 162 = .ok (.getfield 193, 3)) ∧ (decode cX9_rights 165 = .ok (.iastore, 1)) ∧ (decode cX9_rights 166 = .ok (.iconst 0, 1)) ∧ (decode cX9_rights 167 = .ok (.ireturn, 1)) ∧ (decode cX9_most 0 = .ok (.iload_n 1, 1)) ∧ (decode cX9_most 1 = .ok (.iconst 1, 1)) ∧ (decode cX9_most 2 = .ok (.if_icmp .lt 10, 3)) ∧ (decode cX9_most 5 = .ok (.iload_n 1, 1)) ∧ (decode cX9_most 6 = .ok (.sipush 2000, 3)) ∧ (decode cX9_most 9 = .ok (.if_icmp .le 5, 3)) := by decide +kernel
theorem dX9_rights_162 : decode cX9_rights 162 = .ok (.getfield 193, 3) := q9_dX9_rights_162.1
theorem dX9_rights_165 : decode cX9_rights 165 = .ok (.iastore, 1) := q9_dX9_rights_162.2.1
theorem dX9_rights_166 : decode cX9_rights 166 = .ok (.iconst 0, 1) := q9_dX9_rights_162.2.2.1
theorem dX9_rights_167 : decode cX9_rights 167 = .ok (.ireturn, 1) := q9_dX9_rights_162.2.2.2.1
theorem dX9_most_0 : decode cX9_most 0 = .ok (.iload_n 1, 1) := q9_dX9_rights_162.2.2.2.2.1
theorem dX9_most_1 : decode cX9_most 1 = .ok (.iconst 1, 1) := q9_dX9_rights_162.2.2.2.2.2.1
theorem dX9_most_2 : decode cX9_most 2 = .ok (.if_icmp .lt 10, 3) := q9_dX9_rights_162.2.2.2.2.2.2.1
theorem dX9_most_5 : decode cX9_most 5 = .ok (.iload_n 1, 1) := q9_dX9_rights_162.2.2.2.2.2.2.2.1
theorem dX9_most_6 : decode cX9_most 6 = .ok (.sipush 2000, 3) := q9_dX9_rights_162.2.2.2.2.2.2.2.2.1
theorem dX9_most_9 : decode cX9_most 9 = .ok (.if_icmp .le 5, 3) := q9_dX9_rights_162.2.2.2.2.2.2.2.2.2
theorem q9_dX9_most_12 : (decode cX9_most 12 = .ok (.iconst 0, 1)) ∧ (decode cX9_most 13 = .ok (.ireturn, 1)) ∧ (decode cX9_most 14 = .ok (.aload_n 0, 1)) ∧ (decode cX9_most 15 = .ok (.iload_n 1, 1)) ∧ (decode cX9_most 16 = .ok (.putfield 36, 3)) ∧ (decode cX9_most 19 = .ok (.iconst 1, 1)) ∧ (decode cX9_most 20 = .ok (.ireturn, 1)) ∧ (decode cX9_compressors 0 = .ok (.iload_n 1, 1)) ∧ (decode cX9_compressors 1 = .ok (.ifCond .lt 8, 3)) ∧ (decode cX9_compressors 4 = .ok (.iload_n 1, 1)) := by decide +kernel
theorem dX9_most_12 : decode cX9_most 12 = .ok (.iconst 0, 1) := q9_dX9_most_12.1
theorem dX9_most_13 : decode cX9_most 13 = .ok (.ireturn, 1) := q9_dX9_most_12.2.1
theorem dX9_most_14 : decode cX9_most 14 = .ok (.aload_n 0, 1) := q9_dX9_most_12.2.2.1
theorem dX9_most_15 : decode cX9_most 15 = .ok (.iload_n 1, 1) := q9_dX9_most_12.2.2.2.1
theorem dX9_most_16 : decode cX9_most 16 = .ok (.putfield 36, 3) := q9_dX9_most_12.2.2.2.2.1
theorem dX9_most_19 : decode cX9_most 19 = .ok (.iconst 1, 1) := q9_dX9_most_12.2.2.2.2.2.1
theorem dX9_most_20 : decode cX9_most 20 = .ok (.ireturn, 1) := q9_dX9_most_12.2.2.2.2.2.2.1
theorem dX9_compressors_0 : decode cX9_compressors 0 = .ok (.iload_n 1, 1) := q9_dX9_most_12.2.2.2.2.2.2.2.1
theorem dX9_compressors_1 : decode cX9_compressors 1 = .ok (.ifCond .lt 8, 3) := q9_dX9_most_12.2.2.2.2.2.2.2.2.1
theorem dX9_compressors_4 : decode cX9_compressors 4 = .ok (.iload_n 1, 1) := q9_dX9_most_12.2.2.2.2.2.2.2.2.2
theorem q9_dX9_compressors_5 : (decode cX9_compressors 5 = .ok (.iconst 3, 1)) ∧ (decode cX9_compressors 6 = .ok (.if_icmp .le 5, 3)) ∧ (decode cX9_compressors 9 = .ok (.iconst 0, 1)) ∧ (decode cX9_compressors 10 = .ok (.ireturn, 1)) ∧ (decode cX9_compressors 11 = .ok (.aload_n 0, 1)) ∧ (decode cX9_compressors 12 = .ok (.iload_n 1, 1)) ∧ (decode cX9_compressors 13 = .ok (.putfield 39, 3)) ∧ (decode cX9_compressors 16 = .ok (.iconst 1, 1)) ∧ (decode cX9_compressors 17 = .ok (.ireturn, 1)) ∧ (decode cX9_price 0 = .ok (.iload_n 1, 1)) := by decide +kernel
theorem dX9_compressors_5 : decode cX9_compressors 5 = .ok (.iconst 3, 1) := q9_dX9_compressors_5.1
theorem dX9_compressors_6 : decode cX9_compressors 6 = .ok (.if_icmp .le 5, 3) := q9_dX9_compressors_5.2.1
theorem dX9_compressors_9 : decode cX9_compressors 9 = .ok (.iconst 0, 1) := q9_dX9_compressors_5.2.2.1
theorem dX9_compressors_10 : decode cX9_compressors 10 = .ok (.ireturn, 1) := q9_dX9_compressors_5.2.2.2.1
theorem dX9_compressors_11 : decode cX9_compressors 11 = .ok (.aload_n 0, 1) := q9_dX9_compressors_5.2.2.2.2.1
theorem dX9_compressors_12 : decode cX9_compressors 12 = .ok (.iload_n 1, 1) := q9_dX9_compressors_5.2.2.2.2.2.1
theorem dX9_compressors_13 : decode cX9_compressors 13 = .ok (.putfield 39, 3) := q9_dX9_compressors_5.2.2.2.2.2.2.1
theorem dX9_compressors_16 : decode cX9_compressors 16 = .ok (.iconst 1, 1) := q9_dX9_compressors_5.2.2.2.2.2.2.2.1
theorem dX9_compressors_17 : decode cX9_compressors 17 = .ok (.ireturn, 1) := q9_dX9_compressors_5.2.2.2.2.2.2.2.2.1
theorem dX9_price_0 : decode cX9_price 0 = .ok (.iload_n 1, 1) := q9_dX9_compressors_5.2.2.2.2.2.2.2.2.2
theorem q9_dX9_price_1 : (decode cX9_price 1 = .ok (.ifCond .lt 19, 3)) ∧ (decode cX9_price 4 = .ok (.iload_n 1, 1)) ∧ (decode cX9_price 5 = .ok (.bipush 23, 2)) ∧ (decode cX9_price 7 = .ok (.if_icmp .gt 13, 3)) ∧ (decode cX9_price 10 = .ok (.iload_n 2, 1)) ∧ (decode cX9_price 11 = .ok (.ifCond .lt 9, 3)) ∧ (decode cX9_price 14 = .ok (.iload_n 2, 1)) ∧ (decode cX9_price 15 = .ok (.bipush 99, 2)) ∧ (decode cX9_price 17 = .ok (.if_icmp .le 5, 3)) ∧ (decode cX9_price 20 = .ok (.iconst 0, 1)) := by decide +kernel
theorem dX9_price_1 : decode cX9_price 1 = .ok (.ifCond .lt 19, 3) := q9_dX9_price_1.1
theorem dX9_price_4 : decode cX9_price 4 = .ok (.iload_n 1, 1) := q9_dX9_price_1.2.1
theorem dX9_price_5 : decode cX9_price 5 = .ok (.bipush 23, 2) := q9_dX9_price_1.2.2.1
theorem dX9_price_7 : decode cX9_price 7 = .ok (.if_icmp .gt 13, 3) := q9_dX9_price_1.2.2.2.1
theorem dX9_price_10 : decode cX9_price 10 = .ok (.iload_n 2, 1) := q9_dX9_price_1.2.2.2.2.1
theorem dX9_price_11 : decode cX9_price 11 = .ok (.ifCond .lt 9, 3) := q9_dX9_price_1.2.2.2.2.2.1
theorem dX9_price_14 : decode cX9_price 14 = .ok (.iload_n 2, 1) := q9_dX9_price_1.2.2.2.2.2.2.1
theorem dX9_price_15 : decode cX9_price 15 = .ok (.bipush 99, 2) := q9_dX9_price_1.2.2.2.2.2.2.2.1
theorem dX9_price_17 : decode cX9_price 17 = .ok (.if_icmp .le 5, 3) := q9_dX9_price_1.2.2.2.2.2.2.2.2.1
theorem dX9_price_20 : decode cX9_price 20 = .ok (.iconst 0, 1) := q9_dX9_price_1.2.2.2.2.2.2.2.2.2
theorem q9_dX9_price_21 : (decode cX9_price 21 = .ok (.ireturn, 1)) ∧ (decode cX9_price 22 = .ok (.aload_n 0, 1)) ∧ (decode cX9_price 23 = .ok (.getfield 45, 3)) ∧ (decode cX9_price 26 = .ok (.iload_n 1, 1)) ∧ (decode cX9_price 27 = .ok (.iload_n 2, 1)) ∧ (decode cX9_price 28 = .ok (.iastore, 1)) ∧ (decode cX9_price 29 = .ok (.iconst 1, 1)) ∧ (decode cX9_price 30 = .ok (.ireturn, 1)) ∧ (decode cX9_rest 0 = .ok (.iload_n 1, 1)) ∧ (decode cX9_rest 1 = .ok (.iconst 1, 1)) := by decide +kernel
theorem dX9_price_21 : decode cX9_price 21 = .ok (.ireturn, 1) := q9_dX9_price_21.1
theorem dX9_price_22 : decode cX9_price 22 = .ok (.aload_n 0, 1) := q9_dX9_price_21.2.1
theorem dX9_price_23 : decode cX9_price 23 = .ok (.getfield 45, 3) := q9_dX9_price_21.2.2.1
theorem dX9_price_26 : decode cX9_price 26 = .ok (.iload_n 1, 1) := q9_dX9_price_21.2.2.2.1
theorem dX9_price_27 : decode cX9_price 27 = .ok (.iload_n 2, 1) := q9_dX9_price_21.2.2.2.2.1
theorem dX9_price_28 : decode cX9_price 28 = .ok (.iastore, 1) := q9_dX9_price_21.2.2.2.2.2.1
theorem dX9_price_29 : decode cX9_price 29 = .ok (.iconst 1, 1) := q9_dX9_price_21.2.2.2.2.2.2.1
theorem dX9_price_30 : decode cX9_price 30 = .ok (.ireturn, 1) := q9_dX9_price_21.2.2.2.2.2.2.2.1
theorem dX9_rest_0 : decode cX9_rest 0 = .ok (.iload_n 1, 1) := q9_dX9_price_21.2.2.2.2.2.2.2.2.1
theorem dX9_rest_1 : decode cX9_rest 1 = .ok (.iconst 1, 1) := q9_dX9_price_21.2.2.2.2.2.2.2.2.2
theorem q9_dX9_rest_2 : (decode cX9_rest 2 = .ok (.if_icmp .lt 9, 3)) ∧ (decode cX9_rest 5 = .ok (.iload_n 1, 1)) ∧ (decode cX9_rest 6 = .ok (.bipush 12, 2)) ∧ (decode cX9_rest 8 = .ok (.if_icmp .le 5, 3)) ∧ (decode cX9_rest 11 = .ok (.iconst 0, 1)) ∧ (decode cX9_rest 12 = .ok (.ireturn, 1)) ∧ (decode cX9_rest 13 = .ok (.aload_n 0, 1)) ∧ (decode cX9_rest 14 = .ok (.iload_n 1, 1)) ∧ (decode cX9_rest 15 = .ok (.putfield 42, 3)) ∧ (decode cX9_rest 18 = .ok (.iconst 1, 1)) := by decide +kernel
theorem dX9_rest_2 : decode cX9_rest 2 = .ok (.if_icmp .lt 9, 3) := q9_dX9_rest_2.1
theorem dX9_rest_5 : decode cX9_rest 5 = .ok (.iload_n 1, 1) := q9_dX9_rest_2.2.1
theorem dX9_rest_6 : decode cX9_rest 6 = .ok (.bipush 12, 2) := q9_dX9_rest_2.2.2.1
theorem dX9_rest_8 : decode cX9_rest 8 = .ok (.if_icmp .le 5, 3) := q9_dX9_rest_2.2.2.2.1
theorem dX9_rest_11 : decode cX9_rest 11 = .ok (.iconst 0, 1) := q9_dX9_rest_2.2.2.2.2.1
theorem dX9_rest_12 : decode cX9_rest 12 = .ok (.ireturn, 1) := q9_dX9_rest_2.2.2.2.2.2.1
theorem dX9_rest_13 : decode cX9_rest 13 = .ok (.aload_n 0, 1) := q9_dX9_rest_2.2.2.2.2.2.2.1
theorem dX9_rest_14 : decode cX9_rest 14 = .ok (.iload_n 1, 1) := q9_dX9_rest_2.2.2.2.2.2.2.2.1
theorem dX9_rest_15 : decode cX9_rest 15 = .ok (.putfield 42, 3) := q9_dX9_rest_2.2.2.2.2.2.2.2.2.1
theorem dX9_rest_18 : decode cX9_rest 18 = .ok (.iconst 1, 1) := q9_dX9_rest_2.2.2.2.2.2.2.2.2.2
theorem q9_dX9_rest_19 : (decode cX9_rest 19 = .ok (.ireturn, 1)) ∧ (decode cX9_rutsOf 0 = .ok (.iload_n 0, 1)) ∧ (decode cX9_rutsOf 1 = .ok (.ifCond .ne 8, 3)) ∧ (decode cX9_rutsOf 4 = .ok (.bipush 10, 2)) ∧ (decode cX9_rutsOf 6 = .ok (.goto 24, 3)) ∧ (decode cX9_rutsOf 9 = .ok (.iload_n 0, 1)) ∧ (decode cX9_rutsOf 10 = .ok (.iconst 1, 1)) ∧ (decode cX9_rutsOf 11 = .ok (.if_icmp .ne 8, 3)) ∧ (decode cX9_rutsOf 14 = .ok (.bipush 30, 2)) ∧ (decode cX9_rutsOf 16 = .ok (.goto 14, 3)) := by decide +kernel
theorem dX9_rest_19 : decode cX9_rest 19 = .ok (.ireturn, 1) := q9_dX9_rest_19.1
theorem dX9_rutsOf_0 : decode cX9_rutsOf 0 = .ok (.iload_n 0, 1) := q9_dX9_rest_19.2.1
theorem dX9_rutsOf_1 : decode cX9_rutsOf 1 = .ok (.ifCond .ne 8, 3) := q9_dX9_rest_19.2.2.1
theorem dX9_rutsOf_4 : decode cX9_rutsOf 4 = .ok (.bipush 10, 2) := q9_dX9_rest_19.2.2.2.1
theorem dX9_rutsOf_6 : decode cX9_rutsOf 6 = .ok (.goto 24, 3) := q9_dX9_rest_19.2.2.2.2.1
theorem dX9_rutsOf_9 : decode cX9_rutsOf 9 = .ok (.iload_n 0, 1) := q9_dX9_rest_19.2.2.2.2.2.1
theorem dX9_rutsOf_10 : decode cX9_rutsOf 10 = .ok (.iconst 1, 1) := q9_dX9_rest_19.2.2.2.2.2.2.1
theorem dX9_rutsOf_11 : decode cX9_rutsOf 11 = .ok (.if_icmp .ne 8, 3) := q9_dX9_rest_19.2.2.2.2.2.2.2.1
theorem dX9_rutsOf_14 : decode cX9_rutsOf 14 = .ok (.bipush 30, 2) := q9_dX9_rest_19.2.2.2.2.2.2.2.2.1
theorem dX9_rutsOf_16 : decode cX9_rutsOf 16 = .ok (.goto 14, 3) := q9_dX9_rest_19.2.2.2.2.2.2.2.2.2
theorem q9_dX9_rutsOf_19 : (decode cX9_rutsOf 19 = .ok (.iload_n 0, 1)) ∧ (decode cX9_rutsOf 20 = .ok (.iconst 2, 1)) ∧ (decode cX9_rutsOf 21 = .ok (.if_icmp .ne 8, 3)) ∧ (decode cX9_rutsOf 24 = .ok (.bipush 20, 2)) ∧ (decode cX9_rutsOf 26 = .ok (.goto 4, 3)) ∧ (decode cX9_rutsOf 29 = .ok (.iconst 5, 1)) ∧ (decode cX9_rutsOf 30 = .ok (.ireturn, 1)) ∧ (decode cX9_heatOf 0 = .ok (.iload_n 0, 1)) ∧ (decode cX9_heatOf 1 = .ok (.ifCond .ne 7, 3)) ∧ (decode cX9_heatOf 4 = .ok (.iconst 4, 1)) := by decide +kernel
theorem dX9_rutsOf_19 : decode cX9_rutsOf 19 = .ok (.iload_n 0, 1) := q9_dX9_rutsOf_19.1
theorem dX9_rutsOf_20 : decode cX9_rutsOf 20 = .ok (.iconst 2, 1) := q9_dX9_rutsOf_19.2.1
theorem dX9_rutsOf_21 : decode cX9_rutsOf 21 = .ok (.if_icmp .ne 8, 3) := q9_dX9_rutsOf_19.2.2.1
theorem dX9_rutsOf_24 : decode cX9_rutsOf 24 = .ok (.bipush 20, 2) := q9_dX9_rutsOf_19.2.2.2.1
theorem dX9_rutsOf_26 : decode cX9_rutsOf 26 = .ok (.goto 4, 3) := q9_dX9_rutsOf_19.2.2.2.2.1
theorem dX9_rutsOf_29 : decode cX9_rutsOf 29 = .ok (.iconst 5, 1) := q9_dX9_rutsOf_19.2.2.2.2.2.1
theorem dX9_rutsOf_30 : decode cX9_rutsOf 30 = .ok (.ireturn, 1) := q9_dX9_rutsOf_19.2.2.2.2.2.2.1
theorem dX9_heatOf_0 : decode cX9_heatOf 0 = .ok (.iload_n 0, 1) := q9_dX9_rutsOf_19.2.2.2.2.2.2.2.1
theorem dX9_heatOf_1 : decode cX9_heatOf 1 = .ok (.ifCond .ne 7, 3) := q9_dX9_rutsOf_19.2.2.2.2.2.2.2.2.1
theorem dX9_heatOf_4 : decode cX9_heatOf 4 = .ok (.iconst 4, 1) := q9_dX9_rutsOf_19.2.2.2.2.2.2.2.2.2
theorem q9_dX9_heatOf_5 : (decode cX9_heatOf 5 = .ok (.goto 24, 3)) ∧ (decode cX9_heatOf 8 = .ok (.iload_n 0, 1)) ∧ (decode cX9_heatOf 9 = .ok (.iconst 1, 1)) ∧ (decode cX9_heatOf 10 = .ok (.if_icmp .ne 8, 3)) ∧ (decode cX9_heatOf 13 = .ok (.bipush 9, 2)) ∧ (decode cX9_heatOf 15 = .ok (.goto 14, 3)) ∧ (decode cX9_heatOf 18 = .ok (.iload_n 0, 1)) ∧ (decode cX9_heatOf 19 = .ok (.iconst 2, 1)) ∧ (decode cX9_heatOf 20 = .ok (.if_icmp .ne 8, 3)) ∧ (decode cX9_heatOf 23 = .ok (.bipush 6, 2)) := by decide +kernel
theorem dX9_heatOf_5 : decode cX9_heatOf 5 = .ok (.goto 24, 3) := q9_dX9_heatOf_5.1
theorem dX9_heatOf_8 : decode cX9_heatOf 8 = .ok (.iload_n 0, 1) := q9_dX9_heatOf_5.2.1
theorem dX9_heatOf_9 : decode cX9_heatOf 9 = .ok (.iconst 1, 1) := q9_dX9_heatOf_5.2.2.1
theorem dX9_heatOf_10 : decode cX9_heatOf 10 = .ok (.if_icmp .ne 8, 3) := q9_dX9_heatOf_5.2.2.2.1
theorem dX9_heatOf_13 : decode cX9_heatOf 13 = .ok (.bipush 9, 2) := q9_dX9_heatOf_5.2.2.2.2.1
theorem dX9_heatOf_15 : decode cX9_heatOf 15 = .ok (.goto 14, 3) := q9_dX9_heatOf_5.2.2.2.2.2.1
theorem dX9_heatOf_18 : decode cX9_heatOf 18 = .ok (.iload_n 0, 1) := q9_dX9_heatOf_5.2.2.2.2.2.2.1
theorem dX9_heatOf_19 : decode cX9_heatOf 19 = .ok (.iconst 2, 1) := q9_dX9_heatOf_5.2.2.2.2.2.2.2.1
theorem dX9_heatOf_20 : decode cX9_heatOf 20 = .ok (.if_icmp .ne 8, 3) := q9_dX9_heatOf_5.2.2.2.2.2.2.2.2.1
theorem dX9_heatOf_23 : decode cX9_heatOf 23 = .ok (.bipush 6, 2) := q9_dX9_heatOf_5.2.2.2.2.2.2.2.2.2
theorem q9_dX9_heatOf_25 : (decode cX9_heatOf 25 = .ok (.goto 4, 3)) ∧ (decode cX9_heatOf 28 = .ok (.iconst 2, 1)) ∧ (decode cX9_heatOf 29 = .ok (.ireturn, 1)) ∧ (decode cX9_isClub 0 = .ok (.iload_n 0, 1)) ∧ (decode cX9_isClub 1 = .ok (.ifCond .lt 13, 3)) ∧ (decode cX9_isClub 4 = .ok (.iload_n 0, 1)) ∧ (decode cX9_isClub 5 = .ok (.bipush 6, 2)) ∧ (decode cX9_isClub 7 = .ok (.if_icmp .ge 7, 3)) ∧ (decode cX9_isClub 10 = .ok (.iconst 1, 1)) ∧ (decode cX9_isClub 11 = .ok (.goto 4, 3)) := by decide +kernel
theorem dX9_heatOf_25 : decode cX9_heatOf 25 = .ok (.goto 4, 3) := q9_dX9_heatOf_25.1
theorem dX9_heatOf_28 : decode cX9_heatOf 28 = .ok (.iconst 2, 1) := q9_dX9_heatOf_25.2.1
theorem dX9_heatOf_29 : decode cX9_heatOf 29 = .ok (.ireturn, 1) := q9_dX9_heatOf_25.2.2.1
theorem dX9_isClub_0 : decode cX9_isClub 0 = .ok (.iload_n 0, 1) := q9_dX9_heatOf_25.2.2.2.1
theorem dX9_isClub_1 : decode cX9_isClub 1 = .ok (.ifCond .lt 13, 3) := q9_dX9_heatOf_25.2.2.2.2.1
theorem dX9_isClub_4 : decode cX9_isClub 4 = .ok (.iload_n 0, 1) := q9_dX9_heatOf_25.2.2.2.2.2.1
theorem dX9_isClub_5 : decode cX9_isClub 5 = .ok (.bipush 6, 2) := q9_dX9_heatOf_25.2.2.2.2.2.2.1
theorem dX9_isClub_7 : decode cX9_isClub 7 = .ok (.if_icmp .ge 7, 3) := q9_dX9_heatOf_25.2.2.2.2.2.2.2.1
theorem dX9_isClub_10 : decode cX9_isClub 10 = .ok (.iconst 1, 1) := q9_dX9_heatOf_25.2.2.2.2.2.2.2.2.1
theorem dX9_isClub_11 : decode cX9_isClub 11 = .ok (.goto 4, 3) := q9_dX9_heatOf_25.2.2.2.2.2.2.2.2.2
theorem q9_dX9_isClub_14 : (decode cX9_isClub 14 = .ok (.iconst 0, 1)) ∧ (decode cX9_isClub 15 = .ok (.ireturn, 1)) ∧ (decode cX9_isSheet 0 = .ok (.iload_n 0, 1)) ∧ (decode cX9_isSheet 1 = .ok (.ifCond .lt 12, 3)) ∧ (decode cX9_isSheet 4 = .ok (.iload_n 0, 1)) ∧ (decode cX9_isSheet 5 = .ok (.iconst 2, 1)) ∧ (decode cX9_isSheet 6 = .ok (.if_icmp .ge 7, 3)) ∧ (decode cX9_isSheet 9 = .ok (.iconst 1, 1)) ∧ (decode cX9_isSheet 10 = .ok (.goto 4, 3)) ∧ (decode cX9_isSheet 13 = .ok (.iconst 0, 1)) := by decide +kernel
theorem dX9_isClub_14 : decode cX9_isClub 14 = .ok (.iconst 0, 1) := q9_dX9_isClub_14.1
theorem dX9_isClub_15 : decode cX9_isClub 15 = .ok (.ireturn, 1) := q9_dX9_isClub_14.2.1
theorem dX9_isSheet_0 : decode cX9_isSheet 0 = .ok (.iload_n 0, 1) := q9_dX9_isClub_14.2.2.1
theorem dX9_isSheet_1 : decode cX9_isSheet 1 = .ok (.ifCond .lt 12, 3) := q9_dX9_isClub_14.2.2.2.1
theorem dX9_isSheet_4 : decode cX9_isSheet 4 = .ok (.iload_n 0, 1) := q9_dX9_isClub_14.2.2.2.2.1
theorem dX9_isSheet_5 : decode cX9_isSheet 5 = .ok (.iconst 2, 1) := q9_dX9_isClub_14.2.2.2.2.2.1
theorem dX9_isSheet_6 : decode cX9_isSheet 6 = .ok (.if_icmp .ge 7, 3) := q9_dX9_isClub_14.2.2.2.2.2.2.1
theorem dX9_isSheet_9 : decode cX9_isSheet 9 = .ok (.iconst 1, 1) := q9_dX9_isClub_14.2.2.2.2.2.2.2.1
theorem dX9_isSheet_10 : decode cX9_isSheet 10 = .ok (.goto 4, 3) := q9_dX9_isClub_14.2.2.2.2.2.2.2.2.1
theorem dX9_isSheet_13 : decode cX9_isSheet 13 = .ok (.iconst 0, 1) := q9_dX9_isClub_14.2.2.2.2.2.2.2.2.2
theorem dX9_isSheet_14 : decode cX9_isSheet 14 = .ok (.ireturn, 1) := by decide +kernel
