set_option maxRecDepth 20000 in
theorem ggX8_init_X1_init : GoodIn wsX8_init wsX1_init := goodIn_r _ [38, 39, 2, 3, 40, 41, 42, 43, 44, 45, 46, 47, 48, 49, 50, 51, 52, 53, 54, 55, 56, 57, 157, 98, 99, 100, 101, 102, 103, 104, 105, 106, 107] rfl (by decide +kernel)
set_option maxRecDepth 20000 in
theorem gX8_init_X1_init_n9 : GoodIn wsX8_init (wsX1_init) := ggX8_init_X1_init
set_option maxRecDepth 20000 in
theorem ggX8_init_X4_init : GoodIn wsX8_init wsX4_init := goodIn_r _ [59, 60, 2, 3, 61, 62, 63, 64, 65, 66, 67, 126, 127, 128, 129, 130, 131] rfl (by decide +kernel)
set_option maxRecDepth 20000 in
theorem gX8_init_X4_init_n25 : GoodIn wsX8_init (wsX4_init) := ggX8_init_X4_init
set_option maxRecDepth 20000 in
theorem ggX8_init_X7_init : GoodIn wsX8_init wsX7_init := goodIn_r _ [69, 70, 2, 3, 71, 72, 73, 132, 133] rfl (by decide +kernel)
set_option maxRecDepth 20000 in
theorem gX8_init_X7_init_n38 : GoodIn wsX8_init (wsX7_init) := ggX8_init_X7_init
set_option maxRecDepth 20000 in
theorem ggX8_init_X5_init : GoodIn wsX8_init wsX5_init := goodIn_r _ [76, 77, 2, 3, 78, 134, 135, 136, 137] rfl (by decide +kernel)
set_option maxRecDepth 20000 in
theorem gX8_init_X5_init : GoodIn wsX8_init (wsX5_init) := ggX8_init_X5_init
set_option maxRecDepth 20000 in
theorem ggX8_init_X2_init : GoodIn wsX8_init wsX2_init := goodIn_r _ [81, 82, 2, 3, 83, 84, 15, 85, 86, 87, 88, 89, 138, 139, 140, 141, 142, 143, 144, 145, 146, 147] rfl (by decide +kernel)
set_option maxRecDepth 20000 in
theorem gX8_init_X2_init : GoodIn wsX8_init (wsX2_init) := ggX8_init_X2_init
set_option maxRecDepth 20000 in
theorem ggX8_init_X3_init : GoodIn wsX8_init wsX3_init := goodIn_r _ [91, 92, 2, 3, 15, 93, 94, 95, 96, 97, 148, 149, 150, 151, 152, 153, 154, 155, 156] rfl (by decide +kernel)
set_option maxRecDepth 20000 in
theorem gX8_init_X3_init_n63 : GoodIn wsX8_init (wsX3_init) := ggX8_init_X3_init
theorem q9_dX8_init_0 : (decode cX8_init 0 = .ok (.aload_n 0, 1)) ∧ (decode cX8_init 1 = .ok (.invokespecial 1, 3)) ∧ (decode cX8_init 4 = .ok (.aload_n 0, 1)) ∧ (decode cX8_init 5 = .ok (.new 7, 3)) ∧ (decode cX8_init 8 = .ok (.dup, 1)) ∧ (decode cX8_init 9 = .ok (.invokespecial 9, 3)) ∧ (decode cX8_init 12 = .ok (.putfield 10, 3)) ∧ (decode cX8_init 15 = .ok (.aload_n 0, 1)) ∧ (decode cX8_init 16 = .ok (.new 7, 3)) ∧ (decode cX8_init 19 = .ok (.dup, 1)) := by decide +kernel
theorem dX8_init_0 : decode cX8_init 0 = .ok (.aload_n 0, 1) := q9_dX8_init_0.1
theorem dX8_init_1 : decode cX8_init 1 = .ok (.invokespecial 1, 3) := q9_dX8_init_0.2.1
theorem dX8_init_4 : decode cX8_init 4 = .ok (.aload_n 0, 1) := q9_dX8_init_0.2.2.1
theorem dX8_init_5 : decode cX8_init 5 = .ok (.new 7, 3) := q9_dX8_init_0.2.2.2.1
theorem dX8_init_8 : decode cX8_init 8 = .ok (.dup, 1) := q9_dX8_init_0.2.2.2.2.1
theorem dX8_init_9 : decode cX8_init 9 = .ok (.invokespecial 9, 3) := q9_dX8_init_0.2.2.2.2.2.1
theorem dX8_init_12 : decode cX8_init 12 = .ok (.putfield 10, 3) := q9_dX8_init_0.2.2.2.2.2.2.1
theorem dX8_init_15 : decode cX8_init 15 = .ok (.aload_n 0, 1) := q9_dX8_init_0.2.2.2.2.2.2.2.1
theorem dX8_init_16 : decode cX8_init 16 = .ok (.new 7, 3) := q9_dX8_init_0.2.2.2.2.2.2.2.2.1
theorem dX8_init_19 : decode cX8_init 19 = .ok (.dup, 1) := q9_dX8_init_0.2.2.2.2.2.2.2.2.2
theorem q9_dX8_init_20 : (decode cX8_init 20 = .ok (.invokespecial 9, 3)) ∧ (decode cX8_init 23 = .ok (.putfield 16, 3)) ∧ (decode cX8_init 26 = .ok (.aload_n 0, 1)) ∧ (decode cX8_init 27 = .ok (.bipush 6, 2)) ∧ (decode cX8_init 29 = .ok (.anewarray 19, 3)) ∧ (decode cX8_init 32 = .ok (.putfield 21, 3)) ∧ (decode cX8_init 35 = .ok (.new 19, 3)) ∧ (decode cX8_init 38 = .ok (.dup, 1)) ∧ (decode cX8_init 39 = .ok (.invokespecial 25, 3)) ∧ (decode cX8_init 42 = .ok (.astore_n 1, 1)) := by decide +kernel
theorem dX8_init_20 : decode cX8_init 20 = .ok (.invokespecial 9, 3) := q9_dX8_init_20.1
theorem dX8_init_23 : decode cX8_init 23 = .ok (.putfield 16, 3) := q9_dX8_init_20.2.1
theorem dX8_init_26 : decode cX8_init 26 = .ok (.aload_n 0, 1) := q9_dX8_init_20.2.2.1
theorem dX8_init_27 : decode cX8_init 27 = .ok (.bipush 6, 2) := q9_dX8_init_20.2.2.2.1
theorem dX8_init_29 : decode cX8_init 29 = .ok (.anewarray 19, 3) := q9_dX8_init_20.2.2.2.2.1
theorem dX8_init_32 : decode cX8_init 32 = .ok (.putfield 21, 3) := q9_dX8_init_20.2.2.2.2.2.1
theorem dX8_init_35 : decode cX8_init 35 = .ok (.new 19, 3) := q9_dX8_init_20.2.2.2.2.2.2.1
theorem dX8_init_38 : decode cX8_init 38 = .ok (.dup, 1) := q9_dX8_init_20.2.2.2.2.2.2.2.1
theorem dX8_init_39 : decode cX8_init 39 = .ok (.invokespecial 25, 3) := q9_dX8_init_20.2.2.2.2.2.2.2.2.1
theorem dX8_init_42 : decode cX8_init 42 = .ok (.astore_n 1, 1) := q9_dX8_init_20.2.2.2.2.2.2.2.2.2
theorem q9_dX8_init_43 : (decode cX8_init 43 = .ok (.iconst 0, 1)) ∧ (decode cX8_init 44 = .ok (.istore_n 2, 1)) ∧ (decode cX8_init 45 = .ok (.iload_n 2, 1)) ∧ (decode cX8_init 46 = .ok (.bipush 6, 2)) ∧ (decode cX8_init 48 = .ok (.if_icmp .ge 16, 3)) ∧ (decode cX8_init 51 = .ok (.aload_n 0, 1)) ∧ (decode cX8_init 52 = .ok (.getfield 21, 3)) ∧ (decode cX8_init 55 = .ok (.iload_n 2, 1)) ∧ (decode cX8_init 56 = .ok (.aload_n 1, 1)) ∧ (decode cX8_init 57 = .ok (.aastore, 1)) := by decide +kernel
theorem dX8_init_43 : decode cX8_init 43 = .ok (.iconst 0, 1) := q9_dX8_init_43.1
theorem dX8_init_44 : decode cX8_init 44 = .ok (.istore_n 2, 1) := q9_dX8_init_43.2.1
theorem dX8_init_45 : decode cX8_init 45 = .ok (.iload_n 2, 1) := q9_dX8_init_43.2.2.1
theorem dX8_init_46 : decode cX8_init 46 = .ok (.bipush 6, 2) := q9_dX8_init_43.2.2.2.1
theorem dX8_init_48 : decode cX8_init 48 = .ok (.if_icmp .ge 16, 3) := q9_dX8_init_43.2.2.2.2.1
theorem dX8_init_51 : decode cX8_init 51 = .ok (.aload_n 0, 1) := q9_dX8_init_43.2.2.2.2.2.1
theorem dX8_init_52 : decode cX8_init 52 = .ok (.getfield 21, 3) := q9_dX8_init_43.2.2.2.2.2.2.1
theorem dX8_init_55 : decode cX8_init 55 = .ok (.iload_n 2, 1) := q9_dX8_init_43.2.2.2.2.2.2.2.1
theorem dX8_init_56 : decode cX8_init 56 = .ok (.aload_n 1, 1) := q9_dX8_init_43.2.2.2.2.2.2.2.2.1
theorem dX8_init_57 : decode cX8_init 57 = .ok (.aastore, 1) := q9_dX8_init_43.2.2.2.2.2.2.2.2.2
theorem q9_dX8_init_58 : (decode cX8_init 58 = .ok (.iinc 2 1, 3)) ∧ (decode cX8_init 61 = .ok (.goto (-16), 3)) ∧ (decode cX8_init 64 = .ok (.aload_n 0, 1)) ∧ (decode cX8_init 65 = .ok (.sipush 200, 3)) ∧ (decode cX8_init 68 = .ok (.anewarray 26, 3)) ∧ (decode cX8_init 71 = .ok (.putfield 28, 3)) ∧ (decode cX8_init 74 = .ok (.aload_n 0, 1)) ∧ (decode cX8_init 75 = .ok (.bipush 24, 2)) ∧ (decode cX8_init 77 = .ok (.newarray .int, 2)) ∧ (decode cX8_init 79 = .ok (.putfield 32, 3)) := by decide +kernel
theorem dX8_init_58 : decode cX8_init 58 = .ok (.iinc 2 1, 3) := q9_dX8_init_58.1
theorem dX8_init_61 : decode cX8_init 61 = .ok (.goto (-16), 3) := q9_dX8_init_58.2.1
theorem dX8_init_64 : decode cX8_init 64 = .ok (.aload_n 0, 1) := q9_dX8_init_58.2.2.1
theorem dX8_init_65 : decode cX8_init 65 = .ok (.sipush 200, 3) := q9_dX8_init_58.2.2.2.1
theorem dX8_init_68 : decode cX8_init 68 = .ok (.anewarray 26, 3) := q9_dX8_init_58.2.2.2.2.1
theorem dX8_init_71 : decode cX8_init 71 = .ok (.putfield 28, 3) := q9_dX8_init_58.2.2.2.2.2.1
theorem dX8_init_74 : decode cX8_init 74 = .ok (.aload_n 0, 1) := q9_dX8_init_58.2.2.2.2.2.2.1
theorem dX8_init_75 : decode cX8_init 75 = .ok (.bipush 24, 2) := q9_dX8_init_58.2.2.2.2.2.2.2.1
theorem dX8_init_77 : decode cX8_init 77 = .ok (.newarray .int, 2) := q9_dX8_init_58.2.2.2.2.2.2.2.2.1
theorem dX8_init_79 : decode cX8_init 79 = .ok (.putfield 32, 3) := q9_dX8_init_58.2.2.2.2.2.2.2.2.2
theorem q9_dX8_init_82 : (decode cX8_init 82 = .ok (.iconst 0, 1)) ∧ (decode cX8_init 83 = .ok (.istore_n 2, 1)) ∧ (decode cX8_init 84 = .ok (.iload_n 2, 1)) ∧ (decode cX8_init 85 = .ok (.bipush 24, 2)) ∧ (decode cX8_init 87 = .ok (.if_icmp .ge 17, 3)) ∧ (decode cX8_init 90 = .ok (.aload_n 0, 1)) ∧ (decode cX8_init 91 = .ok (.getfield 32, 3)) ∧ (decode cX8_init 94 = .ok (.iload_n 2, 1)) ∧ (decode cX8_init 95 = .ok (.bipush 10, 2)) ∧ (decode cX8_init 97 = .ok (.iastore, 1)) := by decide +kernel
theorem dX8_init_82 : decode cX8_init 82 = .ok (.iconst 0, 1) := q9_dX8_init_82.1
theorem dX8_init_83 : decode cX8_init 83 = .ok (.istore_n 2, 1) := q9_dX8_init_82.2.1
theorem dX8_init_84 : decode cX8_init 84 = .ok (.iload_n 2, 1) := q9_dX8_init_82.2.2.1
theorem dX8_init_85 : decode cX8_init 85 = .ok (.bipush 24, 2) := q9_dX8_init_82.2.2.2.1
theorem dX8_init_87 : decode cX8_init 87 = .ok (.if_icmp .ge 17, 3) := q9_dX8_init_82.2.2.2.2.1
theorem dX8_init_90 : decode cX8_init 90 = .ok (.aload_n 0, 1) := q9_dX8_init_82.2.2.2.2.2.1
theorem dX8_init_91 : decode cX8_init 91 = .ok (.getfield 32, 3) := q9_dX8_init_82.2.2.2.2.2.2.1
theorem dX8_init_94 : decode cX8_init 94 = .ok (.iload_n 2, 1) := q9_dX8_init_82.2.2.2.2.2.2.2.1
theorem dX8_init_95 : decode cX8_init 95 = .ok (.bipush 10, 2) := q9_dX8_init_82.2.2.2.2.2.2.2.2.1
theorem dX8_init_97 : decode cX8_init 97 = .ok (.iastore, 1) := q9_dX8_init_82.2.2.2.2.2.2.2.2.2
theorem q9_dX8_init_98 : (decode cX8_init 98 = .ok (.iinc 2 1, 3)) ∧ (decode cX8_init 101 = .ok (.goto (-17), 3)) ∧ (decode cX8_init 104 = .ok (.aload_n 0, 1)) ∧ (decode cX8_init 105 = .ok (.new 36, 3)) ∧ (decode cX8_init 108 = .ok (.dup, 1)) ∧ (decode cX8_init 109 = .ok (.invokespecial 38, 3)) ∧ (decode cX8_init 112 = .ok (.putfield 39, 3)) ∧ (decode cX8_init 115 = .ok (.aload_n 0, 1)) ∧ (decode cX8_init 116 = .ok (.new 43, 3)) ∧ (decode cX8_init 119 = .ok (.dup, 1)) := by decide +kernel
theorem dX8_init_98 : decode cX8_init 98 = .ok (.iinc 2 1, 3) := q9_dX8_init_98.1
theorem dX8_init_101 : decode cX8_init 101 = .ok (.goto (-17), 3) := q9_dX8_init_98.2.1
theorem dX8_init_104 : decode cX8_init 104 = .ok (.aload_n 0, 1) := q9_dX8_init_98.2.2.1
theorem dX8_init_105 : decode cX8_init 105 = .ok (.new 36, 3) := q9_dX8_init_98.2.2.2.1
theorem dX8_init_108 : decode cX8_init 108 = .ok (.dup, 1) := q9_dX8_init_98.2.2.2.2.1
theorem dX8_init_109 : decode cX8_init 109 = .ok (.invokespecial 38, 3) := q9_dX8_init_98.2.2.2.2.2.1
theorem dX8_init_112 : decode cX8_init 112 = .ok (.putfield 39, 3) := q9_dX8_init_98.2.2.2.2.2.2.1
theorem dX8_init_115 : decode cX8_init 115 = .ok (.aload_n 0, 1) := q9_dX8_init_98.2.2.2.2.2.2.2.1
theorem dX8_init_116 : decode cX8_init 116 = .ok (.new 43, 3) := q9_dX8_init_98.2.2.2.2.2.2.2.2.1
theorem dX8_init_119 : decode cX8_init 119 = .ok (.dup, 1) := q9_dX8_init_98.2.2.2.2.2.2.2.2.2
theorem q9_dX8_init_120 : (decode cX8_init 120 = .ok (.aload_n 0, 1)) ∧ (decode cX8_init 121 = .ok (.getfield 39, 3)) ∧ (decode cX8_init 124 = .ok (.invokespecial 45, 3)) ∧ (decode cX8_init 127 = .ok (.putfield 48, 3)) ∧ (decode cX8_init 130 = .ok (.aload_n 0, 1)) ∧ (decode cX8_init 131 = .ok (.new 52, 3)) ∧ (decode cX8_init 134 = .ok (.dup, 1)) ∧ (decode cX8_init 135 = .ok (.aload_n 0, 1)) ∧ (decode cX8_init 136 = .ok (.getfield 10, 3)) ∧ (decode cX8_init 139 = .ok (.aload_n 0, 1)) := by decide +kernel
theorem dX8_init_120 : decode cX8_init 120 = .ok (.aload_n 0, 1) := q9_dX8_init_120.1
theorem dX8_init_121 : decode cX8_init 121 = .ok (.getfield 39, 3) := q9_dX8_init_120.2.1
theorem dX8_init_124 : decode cX8_init 124 = .ok (.invokespecial 45, 3) := q9_dX8_init_120.2.2.1
theorem dX8_init_127 : decode cX8_init 127 = .ok (.putfield 48, 3) := q9_dX8_init_120.2.2.2.1
theorem dX8_init_130 : decode cX8_init 130 = .ok (.aload_n 0, 1) := q9_dX8_init_120.2.2.2.2.1
theorem dX8_init_131 : decode cX8_init 131 = .ok (.new 52, 3) := q9_dX8_init_120.2.2.2.2.2.1
theorem dX8_init_134 : decode cX8_init 134 = .ok (.dup, 1) := q9_dX8_init_120.2.2.2.2.2.2.1
theorem dX8_init_135 : decode cX8_init 135 = .ok (.aload_n 0, 1) := q9_dX8_init_120.2.2.2.2.2.2.2.1
theorem dX8_init_136 : decode cX8_init 136 = .ok (.getfield 10, 3) := q9_dX8_init_120.2.2.2.2.2.2.2.2.1
theorem dX8_init_139 : decode cX8_init 139 = .ok (.aload_n 0, 1) := q9_dX8_init_120.2.2.2.2.2.2.2.2.2
theorem q9_dX8_init_140 : (decode cX8_init 140 = .ok (.getfield 16, 3)) ∧ (decode cX8_init 143 = .ok (.invokespecial 54, 3)) ∧ (decode cX8_init 146 = .ok (.putfield 57, 3)) ∧ (decode cX8_init 149 = .ok (.aload_n 0, 1)) ∧ (decode cX8_init 150 = .ok (.new 61, 3)) ∧ (decode cX8_init 153 = .ok (.dup, 1)) ∧ (decode cX8_init 154 = .ok (.invokespecial 63, 3)) ∧ (decode cX8_init 157 = .ok (.putfield 64, 3)) ∧ (decode cX8_init 160 = .ok (.aload_n 0, 1)) ∧ (decode cX8_init 161 = .ok (.sipush 200, 3)) := by decide +kernel
theorem dX8_init_140 : decode cX8_init 140 = .ok (.getfield 16, 3) := q9_dX8_init_140.1
theorem dX8_init_143 : decode cX8_init 143 = .ok (.invokespecial 54, 3) := q9_dX8_init_140.2.1
theorem dX8_init_146 : decode cX8_init 146 = .ok (.putfield 57, 3) := q9_dX8_init_140.2.2.1
theorem dX8_init_149 : decode cX8_init 149 = .ok (.aload_n 0, 1) := q9_dX8_init_140.2.2.2.1
theorem dX8_init_150 : decode cX8_init 150 = .ok (.new 61, 3) := q9_dX8_init_140.2.2.2.2.1
theorem dX8_init_153 : decode cX8_init 153 = .ok (.dup, 1) := q9_dX8_init_140.2.2.2.2.2.1
theorem dX8_init_154 : decode cX8_init 154 = .ok (.invokespecial 63, 3) := q9_dX8_init_140.2.2.2.2.2.2.1
theorem dX8_init_157 : decode cX8_init 157 = .ok (.putfield 64, 3) := q9_dX8_init_140.2.2.2.2.2.2.2.1
theorem dX8_init_160 : decode cX8_init 160 = .ok (.aload_n 0, 1) := q9_dX8_init_140.2.2.2.2.2.2.2.2.1
theorem dX8_init_161 : decode cX8_init 161 = .ok (.sipush 200, 3) := q9_dX8_init_140.2.2.2.2.2.2.2.2.2
theorem q9_dX8_init_164 : (decode cX8_init 164 = .ok (.putfield 68, 3)) ∧ (decode cX8_init 167 = .ok (.aload_n 0, 1)) ∧ (decode cX8_init 168 = .ok (.sipush 400, 3)) ∧ (decode cX8_init 171 = .ok (.putfield 72, 3)) ∧ (decode cX8_init 174 = .ok (.aload_n 0, 1)) ∧ (decode cX8_init 175 = .ok (.iconst 3, 1)) ∧ (decode cX8_init 176 = .ok (.putfield 75, 3)) ∧ (decode cX8_init 179 = .ok (.aload_n 0, 1)) ∧ (decode cX8_init 180 = .ok (.iconst 2, 1)) ∧ (decode cX8_init 181 = .ok (.putfield 78, 3)) := by decide +kernel
theorem dX8_init_164 : decode cX8_init 164 = .ok (.putfield 68, 3) := q9_dX8_init_164.1
theorem dX8_init_167 : decode cX8_init 167 = .ok (.aload_n 0, 1) := q9_dX8_init_164.2.1
theorem dX8_init_168 : decode cX8_init 168 = .ok (.sipush 400, 3) := q9_dX8_init_164.2.2.1
theorem dX8_init_171 : decode cX8_init 171 = .ok (.putfield 72, 3) := q9_dX8_init_164.2.2.2.1
theorem dX8_init_174 : decode cX8_init 174 = .ok (.aload_n 0, 1) := q9_dX8_init_164.2.2.2.2.1
theorem dX8_init_175 : decode cX8_init 175 = .ok (.iconst 3, 1) := q9_dX8_init_164.2.2.2.2.2.1
theorem dX8_init_176 : decode cX8_init 176 = .ok (.putfield 75, 3) := q9_dX8_init_164.2.2.2.2.2.2.1
theorem dX8_init_179 : decode cX8_init 179 = .ok (.aload_n 0, 1) := q9_dX8_init_164.2.2.2.2.2.2.2.1
theorem dX8_init_180 : decode cX8_init 180 = .ok (.iconst 2, 1) := q9_dX8_init_164.2.2.2.2.2.2.2.2.1
theorem dX8_init_181 : decode cX8_init 181 = .ok (.putfield 78, 3) := q9_dX8_init_164.2.2.2.2.2.2.2.2.2
theorem dX8_init_184 : decode cX8_init 184 = .ok (.return_, 1) := by decide +kernel
set_option maxRecDepth 20000 in
theorem ggX8_feed_X7_addWord : GoodIn wsX8_feed wsX7_addWord := goodIn_r _ [7, 8, 9, 10, 11, 12, 31, 32] rfl (by decide +kernel)
set_option maxRecDepth 20000 in
theorem gX8_feed_X7_addWord : GoodIn wsX8_feed (wsV RX8 84 RX7 yX7_addWord wsX7_addWord) := goodIn_app (goodIn_of _ (by decide +kernel)) ggX8_feed_X7_addWord
theorem q9_dX8_feed_0 : (decode cX8_feed 0 = .ok (.aload_n 0, 1)) ∧ (decode cX8_feed 1 = .ok (.getfield 39, 3)) ∧ (decode cX8_feed 4 = .ok (.getfield 81, 3)) ∧ (decode cX8_feed 7 = .ok (.bipush 20, 2)) ∧ (decode cX8_feed 9 = .ok (.iadd, 1)) ∧ (decode cX8_feed 10 = .ok (.bipush 80, 2)) ∧ (decode cX8_feed 12 = .ok (.if_icmp .le 5, 3)) ∧ (decode cX8_feed 15 = .ok (.iconst (-1), 1)) ∧ (decode cX8_feed 16 = .ok (.ireturn, 1)) ∧ (decode cX8_feed 17 = .ok (.aload_n 0, 1)) := by decide +kernel
theorem dX8_feed_0 : decode cX8_feed 0 = .ok (.aload_n 0, 1) := q9_dX8_feed_0.1
theorem dX8_feed_1 : decode cX8_feed 1 = .ok (.getfield 39, 3) := q9_dX8_feed_0.2.1
theorem dX8_feed_4 : decode cX8_feed 4 = .ok (.getfield 81, 3) := q9_dX8_feed_0.2.2.1
theorem dX8_feed_7 : decode cX8_feed 7 = .ok (.bipush 20, 2) := q9_dX8_feed_0.2.2.2.1
theorem dX8_feed_9 : decode cX8_feed 9 = .ok (.iadd, 1) := q9_dX8_feed_0.2.2.2.2.1
theorem dX8_feed_10 : decode cX8_feed 10 = .ok (.bipush 80, 2) := q9_dX8_feed_0.2.2.2.2.2.1
theorem dX8_feed_12 : decode cX8_feed 12 = .ok (.if_icmp .le 5, 3) := q9_dX8_feed_0.2.2.2.2.2.2.1
theorem dX8_feed_15 : decode cX8_feed 15 = .ok (.iconst (-1), 1) := q9_dX8_feed_0.2.2.2.2.2.2.2.1
theorem dX8_feed_16 : decode cX8_feed 16 = .ok (.ireturn, 1) := q9_dX8_feed_0.2.2.2.2.2.2.2.2.1
theorem dX8_feed_17 : decode cX8_feed 17 = .ok (.aload_n 0, 1) := q9_dX8_feed_0.2.2.2.2.2.2.2.2.2
theorem q9_dX8_feed_18 : (decode cX8_feed 18 = .ok (.getfield 39, 3)) ∧ (decode cX8_feed 21 = .ok (.iload_n 1, 1)) ∧ (decode cX8_feed 22 = .ok (.invokevirtual 84, 3)) ∧ (decode cX8_feed 25 = .ok (.aload_n 0, 1)) ∧ (decode cX8_feed 26 = .ok (.getfield 39, 3)) ∧ (decode cX8_feed 29 = .ok (.iload_n 2, 1)) ∧ (decode cX8_feed 30 = .ok (.invokevirtual 84, 3)) ∧ (decode cX8_feed 33 = .ok (.aload_n 0, 1)) ∧ (decode cX8_feed 34 = .ok (.getfield 39, 3)) ∧ (decode cX8_feed 37 = .ok (.iload_n 3, 1)) := by decide +kernel
theorem dX8_feed_18 : decode cX8_feed 18 = .ok (.getfield 39, 3) := q9_dX8_feed_18.1
theorem dX8_feed_21 : decode cX8_feed 21 = .ok (.iload_n 1, 1) := q9_dX8_feed_18.2.1
theorem dX8_feed_22 : decode cX8_feed 22 = .ok (.invokevirtual 84, 3) := q9_dX8_feed_18.2.2.1
theorem dX8_feed_25 : decode cX8_feed 25 = .ok (.aload_n 0, 1) := q9_dX8_feed_18.2.2.2.1
theorem dX8_feed_26 : decode cX8_feed 26 = .ok (.getfield 39, 3) := q9_dX8_feed_18.2.2.2.2.1
theorem dX8_feed_29 : decode cX8_feed 29 = .ok (.iload_n 2, 1) := q9_dX8_feed_18.2.2.2.2.2.1
theorem dX8_feed_30 : decode cX8_feed 30 = .ok (.invokevirtual 84, 3) := q9_dX8_feed_18.2.2.2.2.2.2.1
theorem dX8_feed_33 : decode cX8_feed 33 = .ok (.aload_n 0, 1) := q9_dX8_feed_18.2.2.2.2.2.2.2.1
theorem dX8_feed_34 : decode cX8_feed 34 = .ok (.getfield 39, 3) := q9_dX8_feed_18.2.2.2.2.2.2.2.2.1
theorem dX8_feed_37 : decode cX8_feed 37 = .ok (.iload_n 3, 1) := q9_dX8_feed_18.2.2.2.2.2.2.2.2.2
theorem q9_dX8_feed_38 : (decode cX8_feed 38 = .ok (.invokevirtual 84, 3)) ∧ (decode cX8_feed 41 = .ok (.aload_n 0, 1)) ∧ (decode cX8_feed 42 = .ok (.getfield 39, 3)) ∧ (decode cX8_feed 45 = .ok (.iload 4, 2)) ∧ (decode cX8_feed 47 = .ok (.invokevirtual 84, 3)) ∧ (decode cX8_feed 50 = .ok (.aload_n 0, 1)) ∧ (decode cX8_feed 51 = .ok (.getfield 39, 3)) ∧ (decode cX8_feed 54 = .ok (.iload 5, 2)) ∧ (decode cX8_feed 56 = .ok (.invokevirtual 84, 3)) ∧ (decode cX8_feed 59 = .ok (.aload_n 0, 1)) := by decide +kernel
theorem dX8_feed_38 : decode cX8_feed 38 = .ok (.invokevirtual 84, 3) := q9_dX8_feed_38.1
theorem dX8_feed_41 : decode cX8_feed 41 = .ok (.aload_n 0, 1) := q9_dX8_feed_38.2.1
theorem dX8_feed_42 : decode cX8_feed 42 = .ok (.getfield 39, 3) := q9_dX8_feed_38.2.2.1
theorem dX8_feed_45 : decode cX8_feed 45 = .ok (.iload 4, 2) := q9_dX8_feed_38.2.2.2.1
theorem dX8_feed_47 : decode cX8_feed 47 = .ok (.invokevirtual 84, 3) := q9_dX8_feed_38.2.2.2.2.1
theorem dX8_feed_50 : decode cX8_feed 50 = .ok (.aload_n 0, 1) := q9_dX8_feed_38.2.2.2.2.2.1
theorem dX8_feed_51 : decode cX8_feed 51 = .ok (.getfield 39, 3) := q9_dX8_feed_38.2.2.2.2.2.2.1
theorem dX8_feed_54 : decode cX8_feed 54 = .ok (.iload 5, 2) := q9_dX8_feed_38.2.2.2.2.2.2.2.1
theorem dX8_feed_56 : decode cX8_feed 56 = .ok (.invokevirtual 84, 3) := q9_dX8_feed_38.2.2.2.2.2.2.2.2.1
theorem dX8_feed_59 : decode cX8_feed 59 = .ok (.aload_n 0, 1) := q9_dX8_feed_38.2.2.2.2.2.2.2.2.2
theorem q9_dX8_feed_60 : (decode cX8_feed 60 = .ok (.getfield 39, 3)) ∧ (decode cX8_feed 63 = .ok (.getfield 81, 3)) ∧ (decode cX8_feed 66 = .ok (.ireturn, 1)) := by decide +kernel
theorem dX8_feed_60 : decode cX8_feed 60 = .ok (.getfield 39, 3) := q9_dX8_feed_60.1
theorem dX8_feed_63 : decode cX8_feed 63 = .ok (.getfield 81, 3) := q9_dX8_feed_60.2.1
theorem dX8_feed_66 : decode cX8_feed 66 = .ok (.ireturn, 1) := q9_dX8_feed_60.2.2
set_option maxRecDepth 20000 in
theorem ggX8_rights_X8_isBelow : GoodIn wsX8_rights wsX8_isBelow := goodIn_r _ [11] rfl (by decide +kernel)
set_option maxRecDepth 20000 in
theorem gX8_rights_X8_isBelow : GoodIn wsX8_rights (va_wsS RX8 88 yX8_isBelow wsX8_isBelow) := goodIn_app (goodIn_of _ (by decide +kernel)) ggX8_rights_X8_isBelow
set_option maxRecDepth 20000 in
theorem ggX8_rights_X4_init : GoodIn wsX8_rights wsX4_init := goodIn_r _ [13, 14, 15, 16, 17, 18, 19, 20, 21, 22, 23, 92, 93, 94, 95, 96, 97] rfl (by decide +kernel)
set_option maxRecDepth 20000 in
theorem gX8_rights_X4_init_n25 : GoodIn wsX8_rights (wsX4_init) := ggX8_rights_X4_init
set_option maxRecDepth 20000 in
theorem ggX8_rights_X5_readInto : GoodIn wsX8_rights wsX5_readInto := goodIn_r _ [28, 29, 30, 31, 32, 33, 34, 35, 27, 36, 37, 38, 39, 40, 41, 42, 43, 44, 45, 46, 47, 48, 49, 50, 51, 52, 53, 54, 55, 56, 57, 58, 59, 60, 61, 62, 63, 64, 65, 66, 67, 68, 69, 70, 71, 98, 99, 100, 101, 92, 93, 94, 95, 96, 97, 90, 91] rfl (by decide +kernel)
set_option maxRecDepth 20000 in
theorem gX8_rights_X5_readInto : GoodIn wsX8_rights (wsV RX8 92 RX5 yX5_readInto wsX5_readInto) := goodIn_app (goodIn_of _ (by decide +kernel)) ggX8_rights_X5_readInto
theorem q9_dX8_rights_0 : (decode cX8_rights 0 = .ok (.iload_n 1, 1)) ∧ (decode cX8_rights 1 = .ok (.bipush 6, 2)) ∧ (decode cX8_rights 3 = .ok (.invokestatic 88, 3)) ∧ (decode cX8_rights 6 = .ok (.ifCond .eq 18, 3)) ∧ (decode cX8_rights 9 = .ok (.iload_n 2, 1)) ∧ (decode cX8_rights 10 = .ok (.ifCond .lt 14, 3)) ∧ (decode cX8_rights 13 = .ok (.iload_n 2, 1)) ∧ (decode cX8_rights 14 = .ok (.aload_n 0, 1)) ∧ (decode cX8_rights 15 = .ok (.getfield 39, 3)) ∧ (decode cX8_rights 18 = .ok (.getfield 81, 3)) := by decide +kernel
theorem dX8_rights_0 : decode cX8_rights 0 = .ok (.iload_n 1, 1) := q9_dX8_rights_0.1
theorem dX8_rights_1 : decode cX8_rights 1 = .ok (.bipush 6, 2) := q9_dX8_rights_0.2.1
theorem dX8_rights_3 : decode cX8_rights 3 = .ok (.invokestatic 88, 3) := q9_dX8_rights_0.2.2.1
theorem dX8_rights_6 : decode cX8_rights 6 = .ok (.ifCond .eq 18, 3) := q9_dX8_rights_0.2.2.2.1
theorem dX8_rights_9 : decode cX8_rights 9 = .ok (.iload_n 2, 1) := q9_dX8_rights_0.2.2.2.2.1
theorem dX8_rights_10 : decode cX8_rights 10 = .ok (.ifCond .lt 14, 3) := q9_dX8_rights_0.2.2.2.2.2.1
theorem dX8_rights_13 : decode cX8_rights 13 = .ok (.iload_n 2, 1) := q9_dX8_rights_0.2.2.2.2.2.2.1
theorem dX8_rights_14 : decode cX8_rights 14 = .ok (.aload_n 0, 1) := q9_dX8_rights_0.2.2.2.2.2.2.2.1
theorem dX8_rights_15 : decode cX8_rights 15 = .ok (.getfield 39, 3) := q9_dX8_rights_0.2.2.2.2.2.2.2.2.1
theorem dX8_rights_18 : decode cX8_rights 18 = .ok (.getfield 81, 3) := q9_dX8_rights_0.2.2.2.2.2.2.2.2.2
theorem q9_dX8_rights_21 : (decode cX8_rights 21 = .ok (.if_icmp .le 5, 3)) ∧ (decode cX8_rights 24 = .ok (.iconst (-1), 1)) ∧ (decode cX8_rights 25 = .ok (.ireturn, 1)) ∧ (decode cX8_rights 26 = .ok (.new 19, 3)) ∧ (decode cX8_rights 29 = .ok (.dup, 1)) ∧ (decode cX8_rights 30 = .ok (.invokespecial 25, 3)) ∧ (decode cX8_rights 33 = .ok (.astore_n 3, 1)) ∧ (decode cX8_rights 34 = .ok (.aload_n 0, 1)) ∧ (decode cX8_rights 35 = .ok (.getfield 48, 3)) ∧ (decode cX8_rights 38 = .ok (.aload_n 3, 1)) := by decide +kernel
theorem dX8_rights_21 : decode cX8_rights 21 = .ok (.if_icmp .le 5, 3) := q9_dX8_rights_21.1
theorem dX8_rights_24 : decode cX8_rights 24 = .ok (.iconst (-1), 1) := q9_dX8_rights_21.2.1
theorem dX8_rights_25 : decode cX8_rights 25 = .ok (.ireturn, 1) := q9_dX8_rights_21.2.2.1
theorem dX8_rights_26 : decode cX8_rights 26 = .ok (.new 19, 3) := q9_dX8_rights_21.2.2.2.1
theorem dX8_rights_29 : decode cX8_rights 29 = .ok (.dup, 1) := q9_dX8_rights_21.2.2.2.2.1
theorem dX8_rights_30 : decode cX8_rights 30 = .ok (.invokespecial 25, 3) := q9_dX8_rights_21.2.2.2.2.2.1
theorem dX8_rights_33 : decode cX8_rights 33 = .ok (.astore_n 3, 1) := q9_dX8_rights_21.2.2.2.2.2.2.1
theorem dX8_rights_34 : decode cX8_rights 34 = .ok (.aload_n 0, 1) := q9_dX8_rights_21.2.2.2.2.2.2.2.1
theorem dX8_rights_35 : decode cX8_rights 35 = .ok (.getfield 48, 3) := q9_dX8_rights_21.2.2.2.2.2.2.2.2.1
theorem dX8_rights_38 : decode cX8_rights 38 = .ok (.aload_n 3, 1) := q9_dX8_rights_21.2.2.2.2.2.2.2.2.2
theorem q9_dX8_rights_39 : (decode cX8_rights 39 = .ok (.iload_n 2, 1)) ∧ (decode cX8_rights 40 = .ok (.invokevirtual 92, 3)) ∧ (decode cX8_rights 43 = .ok (.istore 4, 2)) ∧ (decode cX8_rights 45 = .ok (.aload_n 0, 1)) ∧ (decode cX8_rights 46 = .ok (.getfield 39, 3)) ∧ (decode cX8_rights 49 = .ok (.iconst 0, 1)) ∧ (decode cX8_rights 50 = .ok (.putfield 81, 3)) ∧ (decode cX8_rights 53 = .ok (.iload 4, 2)) ∧ (decode cX8_rights 55 = .ok (.ifCond .ne 10, 3)) ∧ (decode cX8_rights 58 = .ok (.aload_n 0, 1)) := by decide +kernel
theorem dX8_rights_39 : decode cX8_rights 39 = .ok (.iload_n 2, 1) := q9_dX8_rights_39.1
theorem dX8_rights_40 : decode cX8_rights 40 = .ok (.invokevirtual 92, 3) := q9_dX8_rights_39.2.1
theorem dX8_rights_43 : decode cX8_rights 43 = .ok (.istore 4, 2) := q9_dX8_rights_39.2.2.1
theorem dX8_rights_45 : decode cX8_rights 45 = .ok (.aload_n 0, 1) := q9_dX8_rights_39.2.2.2.1
theorem dX8_rights_46 : decode cX8_rights 46 = .ok (.getfield 39, 3) := q9_dX8_rights_39.2.2.2.2.1
theorem dX8_rights_49 : decode cX8_rights 49 = .ok (.iconst 0, 1) := q9_dX8_rights_39.2.2.2.2.2.1
theorem dX8_rights_50 : decode cX8_rights 50 = .ok (.putfield 81, 3) := q9_dX8_rights_39.2.2.2.2.2.2.1
theorem dX8_rights_53 : decode cX8_rights 53 = .ok (.iload 4, 2) := q9_dX8_rights_39.2.2.2.2.2.2.2.1
theorem dX8_rights_55 : decode cX8_rights 55 = .ok (.ifCond .ne 10, 3) := q9_dX8_rights_39.2.2.2.2.2.2.2.2.1
theorem dX8_rights_58 : decode cX8_rights 58 = .ok (.aload_n 0, 1) := q9_dX8_rights_39.2.2.2.2.2.2.2.2.2
theorem q9_dX8_rights_59 : (decode cX8_rights 59 = .ok (.getfield 21, 3)) ∧ (decode cX8_rights 62 = .ok (.iload_n 1, 1)) ∧ (decode cX8_rights 63 = .ok (.aload_n 3, 1)) ∧ (decode cX8_rights 64 = .ok (.aastore, 1)) ∧ (decode cX8_rights 65 = .ok (.iload 4, 2)) ∧ (decode cX8_rights 67 = .ok (.ireturn, 1)) ∧ (decode cX8_most 0 = .ok (.iload_n 1, 1)) ∧ (decode cX8_most 1 = .ok (.iconst 1, 1)) ∧ (decode cX8_most 2 = .ok (.if_icmp .lt 10, 3)) ∧ (decode cX8_most 5 = .ok (.iload_n 1, 1)) := by decide +kernel
theorem dX8_rights_59 : decode cX8_rights 59 = .ok (.getfield 21, 3) := q9_dX8_rights_59.1
theorem dX8_rights_62 : decode cX8_rights 62 = .ok (.iload_n 1, 1) := q9_dX8_rights_59.2.1
theorem dX8_rights_63 : decode cX8_rights 63 = .ok (.aload_n 3, 1) := q9_dX8_rights_59.2.2.1
theorem dX8_rights_64 : decode cX8_rights 64 = .ok (.aastore, 1) := q9_dX8_rights_59.2.2.2.1
theorem dX8_rights_65 : decode cX8_rights 65 = .ok (.iload 4, 2) := q9_dX8_rights_59.2.2.2.2.1
theorem dX8_rights_67 : decode cX8_rights 67 = .ok (.ireturn, 1) := q9_dX8_rights_59.2.2.2.2.2.1
theorem dX8_most_0 : decode cX8_most 0 = .ok (.iload_n 1, 1) := q9_dX8_rights_59.2.2.2.2.2.2.1
theorem dX8_most_1 : decode cX8_most 1 = .ok (.iconst 1, 1) := q9_dX8_rights_59.2.2.2.2.2.2.2.1
theorem dX8_most_2 : decode cX8_most 2 = .ok (.if_icmp .lt 10, 3) := q9_dX8_rights_59.2.2.2.2.2.2.2.2.1
theorem dX8_most_5 : decode cX8_most 5 = .ok (.iload_n 1, 1) := q9_dX8_rights_59.2.2.2.2.2.2.2.2.2
theorem q9_dX8_most_6 : (decode cX8_most 6 = .ok (.sipush 2000, 3)) ∧ (decode cX8_most 9 = .ok (.if_icmp .le 5, 3)) ∧ (decode cX8_most 12 = .ok (.iconst 0, 1)) ∧ (decode cX8_most 13 = .ok (.ireturn, 1)) ∧ (decode cX8_most 14 = .ok (.aload_n 0, 1)) ∧ (decode cX8_most 15 = .ok (.iload_n 1, 1)) ∧ (decode cX8_most 16 = .ok (.putfield 72, 3)) ∧ (decode cX8_most 19 = .ok (.iconst 1, 1)) ∧ (decode cX8_most 20 = .ok (.ireturn, 1)) ∧ (decode cX8_compressors 0 = .ok (.iload_n 1, 1)) := by decide +kernel
theorem dX8_most_6 : decode cX8_most 6 = .ok (.sipush 2000, 3) := q9_dX8_most_6.1
theorem dX8_most_9 : decode cX8_most 9 = .ok (.if_icmp .le 5, 3) := q9_dX8_most_6.2.1
theorem dX8_most_12 : decode cX8_most 12 = .ok (.iconst 0, 1) := q9_dX8_most_6.2.2.1
theorem dX8_most_13 : decode cX8_most 13 = .ok (.ireturn, 1) := q9_dX8_most_6.2.2.2.1
theorem dX8_most_14 : decode cX8_most 14 = .ok (.aload_n 0, 1) := q9_dX8_most_6.2.2.2.2.1
theorem dX8_most_15 : decode cX8_most 15 = .ok (.iload_n 1, 1) := q9_dX8_most_6.2.2.2.2.2.1
theorem dX8_most_16 : decode cX8_most 16 = .ok (.putfield 72, 3) := q9_dX8_most_6.2.2.2.2.2.2.1
theorem dX8_most_19 : decode cX8_most 19 = .ok (.iconst 1, 1) := q9_dX8_most_6.2.2.2.2.2.2.2.1
theorem dX8_most_20 : decode cX8_most 20 = .ok (.ireturn, 1) := q9_dX8_most_6.2.2.2.2.2.2.2.2.1
theorem dX8_compressors_0 : decode cX8_compressors 0 = .ok (.iload_n 1, 1) := q9_dX8_most_6.2.2.2.2.2.2.2.2.2
theorem q9_dX8_compressors_1 : (decode cX8_compressors 1 = .ok (.ifCond .lt 8, 3)) ∧ (decode cX8_compressors 4 = .ok (.iload_n 1, 1)) ∧ (decode cX8_compressors 5 = .ok (.iconst 3, 1)) ∧ (decode cX8_compressors 6 = .ok (.if_icmp .le 5, 3)) ∧ (decode cX8_compressors 9 = .ok (.iconst 0, 1)) ∧ (decode cX8_compressors 10 = .ok (.ireturn, 1)) ∧ (decode cX8_compressors 11 = .ok (.aload_n 0, 1)) ∧ (decode cX8_compressors 12 = .ok (.iload_n 1, 1)) ∧ (decode cX8_compressors 13 = .ok (.putfield 75, 3)) ∧ (decode cX8_compressors 16 = .ok (.iconst 1, 1)) := by decide +kernel
theorem dX8_compressors_1 : decode cX8_compressors 1 = .ok (.ifCond .lt 8, 3) := q9_dX8_compressors_1.1
theorem dX8_compressors_4 : decode cX8_compressors 4 = .ok (.iload_n 1, 1) := q9_dX8_compressors_1.2.1
theorem dX8_compressors_5 : decode cX8_compressors 5 = .ok (.iconst 3, 1) := q9_dX8_compressors_1.2.2.1
theorem dX8_compressors_6 : decode cX8_compressors 6 = .ok (.if_icmp .le 5, 3) := q9_dX8_compressors_1.2.2.2.1
theorem dX8_compressors_9 : decode cX8_compressors 9 = .ok (.iconst 0, 1) := q9_dX8_compressors_1.2.2.2.2.1
theorem dX8_compressors_10 : decode cX8_compressors 10 = .ok (.ireturn, 1) := q9_dX8_compressors_1.2.2.2.2.2.1
theorem dX8_compressors_11 : decode cX8_compressors 11 = .ok (.aload_n 0, 1) := q9_dX8_compressors_1.2.2.2.2.2.2.1
theorem dX8_compressors_12 : decode cX8_compressors 12 = .ok (.iload_n 1, 1) := q9_dX8_compressors_1.2.2.2.2.2.2.2.1
theorem dX8_compressors_13 : decode cX8_compressors 13 = .ok (.putfield 75, 3) := q9_dX8_compressors_1.2.2.2.2.2.2.2.2.1
theorem dX8_compressors_16 : decode cX8_compressors 16 = .ok (.iconst 1, 1) := q9_dX8_compressors_1.2.2.2.2.2.2.2.2.2
theorem dX8_compressors_17 : decode cX8_compressors 17 = .ok (.ireturn, 1) := by decide +kernel
set_option maxRecDepth 20000 in
theorem ggX8_price_X8_isBelow : GoodIn wsX8_price wsX8_isBelow := goodIn_r _ [5] rfl (by decide +kernel)
set_option maxRecDepth 20000 in
theorem gX8_price_X8_isBelow : GoodIn wsX8_price (va_wsS RX8 88 yX8_isBelow wsX8_isBelow) := goodIn_app (goodIn_of _ (by decide +kernel)) ggX8_price_X8_isBelow
theorem q9_dX8_price_0 : (decode cX8_price 0 = .ok (.iload_n 1, 1)) ∧ (decode cX8_price 1 = .ok (.bipush 24, 2)) ∧ (decode cX8_price 3 = .ok (.invokestatic 88, 3)) ∧ (decode cX8_price 6 = .ok (.ifCond .eq 13, 3)) ∧ (decode cX8_price 9 = .ok (.iload_n 2, 1)) ∧ (decode cX8_price 10 = .ok (.ifCond .lt 9, 3)) ∧ (decode cX8_price 13 = .ok (.iload_n 2, 1)) ∧ (decode cX8_price 14 = .ok (.bipush 99, 2)) ∧ (decode cX8_price 16 = .ok (.if_icmp .le 5, 3)) ∧ (decode cX8_price 19 = .ok (.iconst 0, 1)) := by decide +kernel
theorem dX8_price_0 : decode cX8_price 0 = .ok (.iload_n 1, 1) := q9_dX8_price_0.1
theorem dX8_price_1 : decode cX8_price 1 = .ok (.bipush 24, 2) := q9_dX8_price_0.2.1
theorem dX8_price_3 : decode cX8_price 3 = .ok (.invokestatic 88, 3) := q9_dX8_price_0.2.2.1
theorem dX8_price_6 : decode cX8_price 6 = .ok (.ifCond .eq 13, 3) := q9_dX8_price_0.2.2.2.1
theorem dX8_price_9 : decode cX8_price 9 = .ok (.iload_n 2, 1) := q9_dX8_price_0.2.2.2.2.1
theorem dX8_price_10 : decode cX8_price 10 = .ok (.ifCond .lt 9, 3) := q9_dX8_price_0.2.2.2.2.2.1
theorem dX8_price_13 : decode cX8_price 13 = .ok (.iload_n 2, 1) := q9_dX8_price_0.2.2.2.2.2.2.1
theorem dX8_price_14 : decode cX8_price 14 = .ok (.bipush 99, 2) := q9_dX8_price_0.2.2.2.2.2.2.2.1
theorem dX8_price_16 : decode cX8_price 16 = .ok (.if_icmp .le 5, 3) := q9_dX8_price_0.2.2.2.2.2.2.2.2.1
theorem dX8_price_19 : decode cX8_price 19 = .ok (.iconst 0, 1) := q9_dX8_price_0.2.2.2.2.2.2.2.2.2
theorem q9_dX8_price_20 : (decode cX8_price 20 = .ok (.ireturn, 1)) ∧ (decode cX8_price 21 = .ok (.aload_n 0, 1)) ∧ (decode cX8_price 22 = .ok (.getfield 32, 3)) ∧ (decode cX8_price 25 = .ok (.iload_n 1, 1)) ∧ (decode cX8_price 26 = .ok (.iload_n 2, 1)) ∧ (decode cX8_price 27 = .ok (.iastore, 1)) ∧ (decode cX8_price 28 = .ok (.iconst 1, 1)) ∧ (decode cX8_price 29 = .ok (.ireturn, 1)) ∧ (decode cX8_rest 0 = .ok (.iload_n 1, 1)) ∧ (decode cX8_rest 1 = .ok (.iconst 1, 1)) := by decide +kernel
theorem dX8_price_20 : decode cX8_price 20 = .ok (.ireturn, 1) := q9_dX8_price_20.1
theorem dX8_price_21 : decode cX8_price 21 = .ok (.aload_n 0, 1) := q9_dX8_price_20.2.1
theorem dX8_price_22 : decode cX8_price 22 = .ok (.getfield 32, 3) := q9_dX8_price_20.2.2.1
theorem dX8_price_25 : decode cX8_price 25 = .ok (.iload_n 1, 1) := q9_dX8_price_20.2.2.2.1
theorem dX8_price_26 : decode cX8_price 26 = .ok (.iload_n 2, 1) := q9_dX8_price_20.2.2.2.2.1
theorem dX8_price_27 : decode cX8_price 27 = .ok (.iastore, 1) := q9_dX8_price_20.2.2.2.2.2.1
theorem dX8_price_28 : decode cX8_price 28 = .ok (.iconst 1, 1) := q9_dX8_price_20.2.2.2.2.2.2.1
theorem dX8_price_29 : decode cX8_price 29 = .ok (.ireturn, 1) := q9_dX8_price_20.2.2.2.2.2.2.2.1
theorem dX8_rest_0 : decode cX8_rest 0 = .ok (.iload_n 1, 1) := q9_dX8_price_20.2.2.2.2.2.2.2.2.1
theorem dX8_rest_1 : decode cX8_rest 1 = .ok (.iconst 1, 1) := q9_dX8_price_20.2.2.2.2.2.2.2.2.2
theorem q9_dX8_rest_2 : (decode cX8_rest 2 = .ok (.if_icmp .lt 9, 3)) ∧ (decode cX8_rest 5 = .ok (.iload_n 1, 1)) ∧ (decode cX8_rest 6 = .ok (.bipush 12, 2)) ∧ (decode cX8_rest 8 = .ok (.if_icmp .le 5, 3)) ∧ (decode cX8_rest 11 = .ok (.iconst 0, 1)) ∧ (decode cX8_rest 12 = .ok (.ireturn, 1)) ∧ (decode cX8_rest 13 = .ok (.aload_n 0, 1)) ∧ (decode cX8_rest 14 = .ok (.iload_n 1, 1)) ∧ (decode cX8_rest 15 = .ok (.putfield 78, 3)) ∧ (decode cX8_rest 18 = .ok (.iconst 1, 1)) := by decide +kernel
theorem dX8_rest_2 : decode cX8_rest 2 = .ok (.if_icmp .lt 9, 3) := q9_dX8_rest_2.1
theorem dX8_rest_5 : decode cX8_rest 5 = .ok (.iload_n 1, 1) := q9_dX8_rest_2.2.1
theorem dX8_rest_6 : decode cX8_rest 6 = .ok (.bipush 12, 2) := q9_dX8_rest_2.2.2.1
theorem dX8_rest_8 : decode cX8_rest 8 = .ok (.if_icmp .le 5, 3) := q9_dX8_rest_2.2.2.2.1
theorem dX8_rest_11 : decode cX8_rest 11 = .ok (.iconst 0, 1) := q9_dX8_rest_2.2.2.2.2.1
theorem dX8_rest_12 : decode cX8_rest 12 = .ok (.ireturn, 1) := q9_dX8_rest_2.2.2.2.2.2.1
theorem dX8_rest_13 : decode cX8_rest 13 = .ok (.aload_n 0, 1) := q9_dX8_rest_2.2.2.2.2.2.2.1
theorem dX8_rest_14 : decode cX8_rest 14 = .ok (.iload_n 1, 1) := q9_dX8_rest_2.2.2.2.2.2.2.2.1
theorem dX8_rest_15 : decode cX8_rest 15 = .ok (.putfield 78, 3) := q9_dX8_rest_2.2.2.2.2.2.2.2.2.1
theorem dX8_rest_18 : decode cX8_rest 18 = .ok (.iconst 1, 1) := q9_dX8_rest_2.2.2.2.2.2.2.2.2.2
theorem dX8_rest_19 : decode cX8_rest 19 = .ok (.ireturn, 1) := by decide +kernel
set_option maxRecDepth 20000 in
theorem ggX8_book_X8_isBelow : GoodIn wsX8_book wsX8_isBelow := goodIn_r _ [14] rfl (by decide +kernel)
set_option maxRecDepth 20000 in
theorem gX8_book_X8_isBelow : GoodIn wsX8_book (va_wsS RX8 88 yX8_isBelow wsX8_isBelow) := goodIn_app (goodIn_of _ (by decide +kernel)) ggX8_book_X8_isBelow
set_option maxRecDepth 20000 in
theorem ggX8_book_X4_let : GoodIn wsX8_book wsX4_let := goodIn_r _ [19, 20, 21, 22, 23, 24, 18, 25, 103, 104, 105, 106, 107, 108] rfl (by decide +kernel)
set_option maxRecDepth 20000 in
theorem gX8_book_X4_let : GoodIn wsX8_book (wsV RX8 102 RX4 yX4_let wsX4_let) := goodIn_app (goodIn_of _ (by decide +kernel)) ggX8_book_X4_let
set_option maxRecDepth 20000 in
theorem ggX8_book_X8_countInWeek : GoodIn wsX8_book wsX8_countInWeek := goodIn_r _ [29, 2, 30, 31, 32, 33, 34, 13, 35, 7, 36, 37, 38, 10, 39, 40, 85, 86, 87, 88, 89, 90, 91, 92, 93, 94, 95, 96, 97, 98, 99, 100, 101, 102, 119, 120, 121, 122, 123, 124, 125, 126, 127, 128] rfl (by decide +kernel)
set_option maxRecDepth 20000 in
theorem gX8_book_X8_countInWeek : GoodIn wsX8_book (wsV RX8 105 RX8 yX8_countInWeek wsX8_countInWeek) := goodIn_app (goodIn_of _ (by decide +kernel)) ggX8_book_X8_countInWeek
set_option maxRecDepth 20000 in
theorem ggX8_book_X8_iceOf : GoodIn wsX8_book wsX8_iceOf := goodIn_r _ [44, 45, 46, 85, 86, 87, 88, 89, 90, 91, 92, 93, 94, 95, 96, 97, 98, 99, 100, 101, 102] rfl (by decide +kernel)
set_option maxRecDepth 20000 in
theorem gX8_book_X8_iceOf : GoodIn wsX8_book (wsV RX8 112 RX8 yX8_iceOf wsX8_iceOf) := goodIn_app (goodIn_of _ (by decide +kernel)) ggX8_book_X8_iceOf
set_option maxRecDepth 20000 in
theorem ggX8_book_X1_hasRoom : GoodIn wsX8_book wsX1_hasRoom := goodIn_r _ [51, 52, 53, 54, 55, 56, 57, 58, 59, 60, 61, 62, 50, 63, 109, 110, 111, 112, 113, 114, 115, 116, 117, 118, 129] rfl (by decide +kernel)
set_option maxRecDepth 20000 in
theorem gX8_book_X1_hasRoom : GoodIn wsX8_book (wsV RX8 116 RX1 yX1_hasRoom wsX1_hasRoom) := goodIn_app (goodIn_of _ (by decide +kernel)) ggX8_book_X1_hasRoom
set_option maxRecDepth 20000 in
theorem ggX8_book_X0_put : GoodIn wsX8_book wsX0_put := goodIn_r _ [67, 59, 129] rfl (by decide +kernel)
set_option maxRecDepth 20000 in
theorem gX8_book_X0_put : GoodIn wsX8_book (wsV RX8 123 RX0 yX0_put wsX0_put) := goodIn_app (goodIn_of _ (by decide +kernel)) ggX8_book_X0_put
set_option maxRecDepth 20000 in
theorem ggX8_book_X6_init : GoodIn wsX8_book wsX6_init := goodIn_r _ [70, 71, 72, 73, 40, 74, 75, 76, 77, 78, 79, 80, 81, 82, 83, 84, 119, 120, 121, 122, 123, 124, 125, 126, 127, 128, 103, 104, 105, 106, 107, 108] rfl (by decide +kernel)
set_option maxRecDepth 20000 in
theorem gX8_book_X6_init : GoodIn wsX8_book (wsX6_init) := ggX8_book_X6_init
theorem q9_dX8_book_0 : (decode cX8_book 0 = .ok (.iload_n 1, 1)) ∧ (decode cX8_book 1 = .ok (.bipush 6, 2)) ∧ (decode cX8_book 3 = .ok (.invokestatic 88, 3)) ∧ (decode cX8_book 6 = .ok (.ifCond .eq 19, 3)) ∧ (decode cX8_book 9 = .ok (.iload_n 2, 1)) ∧ (decode cX8_book 10 = .ok (.iconst 4, 1)) ∧ (decode cX8_book 11 = .ok (.invokestatic 88, 3)) ∧ (decode cX8_book 14 = .ok (.ifCond .eq 11, 3)) ∧ (decode cX8_book 17 = .ok (.iload_n 3, 1)) ∧ (decode cX8_book 18 = .ok (.iconst 2, 1)) := by decide +kernel
theorem dX8_book_0 : decode cX8_book 0 = .ok (.iload_n 1, 1) := q9_dX8_book_0.1
theorem dX8_book_1 : decode cX8_book 1 = .ok (.bipush 6, 2) := q9_dX8_book_0.2.1
theorem dX8_book_3 : decode cX8_book 3 = .ok (.invokestatic 88, 3) := q9_dX8_book_0.2.2.1
theorem dX8_book_6 : decode cX8_book 6 = .ok (.ifCond .eq 19, 3) := q9_dX8_book_0.2.2.2.1
theorem dX8_book_9 : decode cX8_book 9 = .ok (.iload_n 2, 1) := q9_dX8_book_0.2.2.2.2.1
theorem dX8_book_10 : decode cX8_book 10 = .ok (.iconst 4, 1) := q9_dX8_book_0.2.2.2.2.2.1
theorem dX8_book_11 : decode cX8_book 11 = .ok (.invokestatic 88, 3) := q9_dX8_book_0.2.2.2.2.2.2.1
theorem dX8_book_14 : decode cX8_book 14 = .ok (.ifCond .eq 11, 3) := q9_dX8_book_0.2.2.2.2.2.2.2.1
theorem dX8_book_17 : decode cX8_book 17 = .ok (.iload_n 3, 1) := q9_dX8_book_0.2.2.2.2.2.2.2.2.1
theorem dX8_book_18 : decode cX8_book 18 = .ok (.iconst 2, 1) := q9_dX8_book_0.2.2.2.2.2.2.2.2.2
theorem q9_dX8_book_19 : (decode cX8_book 19 = .ok (.invokestatic 88, 3)) ∧ (decode cX8_book 22 = .ok (.ifCond .ne 5, 3)) ∧ (decode cX8_book 25 = .ok (.iconst (-1), 1)) ∧ (decode cX8_book 26 = .ok (.ireturn, 1)) ∧ (decode cX8_book 27 = .ok (.iload 4, 2)) ∧ (decode cX8_book 29 = .ok (.aload_n 0, 1)) ∧ (decode cX8_book 30 = .ok (.getfield 96, 3)) ∧ (decode cX8_book 33 = .ok (.if_icmp .lt 26, 3)) ∧ (decode cX8_book 36 = .ok (.iload 4, 2)) ∧ (decode cX8_book 38 = .ok (.aload_n 0, 1)) := by decide +kernel
theorem dX8_book_19 : decode cX8_book 19 = .ok (.invokestatic 88, 3) := q9_dX8_book_19.1
theorem dX8_book_22 : decode cX8_book 22 = .ok (.ifCond .ne 5, 3) := q9_dX8_book_19.2.1
theorem dX8_book_25 : decode cX8_book 25 = .ok (.iconst (-1), 1) := q9_dX8_book_19.2.2.1
theorem dX8_book_26 : decode cX8_book 26 = .ok (.ireturn, 1) := q9_dX8_book_19.2.2.2.1
theorem dX8_book_27 : decode cX8_book 27 = .ok (.iload 4, 2) := q9_dX8_book_19.2.2.2.2.1
theorem dX8_book_29 : decode cX8_book 29 = .ok (.aload_n 0, 1) := q9_dX8_book_19.2.2.2.2.2.1
theorem dX8_book_30 : decode cX8_book 30 = .ok (.getfield 96, 3) := q9_dX8_book_19.2.2.2.2.2.2.1
theorem dX8_book_33 : decode cX8_book 33 = .ok (.if_icmp .lt 26, 3) := q9_dX8_book_19.2.2.2.2.2.2.2.1
theorem dX8_book_36 : decode cX8_book 36 = .ok (.iload 4, 2) := q9_dX8_book_19.2.2.2.2.2.2.2.2.1
theorem dX8_book_38 : decode cX8_book 38 = .ok (.aload_n 0, 1) := q9_dX8_book_19.2.2.2.2.2.2.2.2.2
theorem q9_dX8_book_39 : (decode cX8_book 39 = .ok (.getfield 96, 3)) ∧ (decode cX8_book 42 = .ok (.sipush 999, 3)) ∧ (decode cX8_book 45 = .ok (.iadd, 1)) ∧ (decode cX8_book 46 = .ok (.if_icmp .gt 13, 3)) ∧ (decode cX8_book 49 = .ok (.aload_n 0, 1)) ∧ (decode cX8_book 50 = .ok (.getfield 99, 3)) ∧ (decode cX8_book 53 = .ok (.sipush 200, 3)) ∧ (decode cX8_book 56 = .ok (.if_icmp .lt 5, 3)) ∧ (decode cX8_book 59 = .ok (.iconst (-1), 1)) ∧ (decode cX8_book 60 = .ok (.ireturn, 1)) := by decide +kernel
theorem dX8_book_39 : decode cX8_book 39 = .ok (.getfield 96, 3) := q9_dX8_book_39.1
theorem dX8_book_42 : decode cX8_book 42 = .ok (.sipush 999, 3) := q9_dX8_book_39.2.1
theorem dX8_book_45 : decode cX8_book 45 = .ok (.iadd, 1) := q9_dX8_book_39.2.2.1
theorem dX8_book_46 : decode cX8_book 46 = .ok (.if_icmp .gt 13, 3) := q9_dX8_book_39.2.2.2.1
theorem dX8_book_49 : decode cX8_book 49 = .ok (.aload_n 0, 1) := q9_dX8_book_39.2.2.2.2.1
theorem dX8_book_50 : decode cX8_book 50 = .ok (.getfield 99, 3) := q9_dX8_book_39.2.2.2.2.2.1
theorem dX8_book_53 : decode cX8_book 53 = .ok (.sipush 200, 3) := q9_dX8_book_39.2.2.2.2.2.2.1
theorem dX8_book_56 : decode cX8_book 56 = .ok (.if_icmp .lt 5, 3) := q9_dX8_book_39.2.2.2.2.2.2.2.1
theorem dX8_book_59 : decode cX8_book 59 = .ok (.iconst (-1), 1) := q9_dX8_book_39.2.2.2.2.2.2.2.2.1
theorem dX8_book_60 : decode cX8_book 60 = .ok (.ireturn, 1) := q9_dX8_book_39.2.2.2.2.2.2.2.2.2
theorem q9_dX8_book_61 : (decode cX8_book 61 = .ok (.aload_n 0, 1)) ∧ (decode cX8_book 62 = .ok (.getfield 21, 3)) ∧ (decode cX8_book 65 = .ok (.iload_n 1, 1)) ∧ (decode cX8_book 66 = .ok (.aaload, 1)) ∧ (decode cX8_book 67 = .ok (.astore 5, 2)) ∧ (decode cX8_book 69 = .ok (.aload 5, 2)) ∧ (decode cX8_book 71 = .ok (.ifnull 14, 3)) ∧ (decode cX8_book 74 = .ok (.aload 5, 2)) ∧ (decode cX8_book 76 = .ok (.iload_n 2, 1)) ∧ (decode cX8_book 77 = .ok (.iload 4, 2)) := by decide +kernel
theorem dX8_book_61 : decode cX8_book 61 = .ok (.aload_n 0, 1) := q9_dX8_book_61.1
theorem dX8_book_62 : decode cX8_book 62 = .ok (.getfield 21, 3) := q9_dX8_book_61.2.1
theorem dX8_book_65 : decode cX8_book 65 = .ok (.iload_n 1, 1) := q9_dX8_book_61.2.2.1
theorem dX8_book_66 : decode cX8_book 66 = .ok (.aaload, 1) := q9_dX8_book_61.2.2.2.1
theorem dX8_book_67 : decode cX8_book 67 = .ok (.astore 5, 2) := q9_dX8_book_61.2.2.2.2.1
theorem dX8_book_69 : decode cX8_book 69 = .ok (.aload 5, 2) := q9_dX8_book_61.2.2.2.2.2.1
theorem dX8_book_71 : decode cX8_book 71 = .ok (.ifnull 14, 3) := q9_dX8_book_61.2.2.2.2.2.2.1
theorem dX8_book_74 : decode cX8_book 74 = .ok (.aload 5, 2) := q9_dX8_book_61.2.2.2.2.2.2.2.1
theorem dX8_book_76 : decode cX8_book 76 = .ok (.iload_n 2, 1) := q9_dX8_book_61.2.2.2.2.2.2.2.2.1
theorem dX8_book_77 : decode cX8_book 77 = .ok (.iload 4, 2) := q9_dX8_book_61.2.2.2.2.2.2.2.2.2
theorem q9_dX8_book_79 : (decode cX8_book 79 = .ok (.invokevirtual 102, 3)) ∧ (decode cX8_book 82 = .ok (.ifCond .ne 5, 3)) ∧ (decode cX8_book 85 = .ok (.iconst (-1), 1)) ∧ (decode cX8_book 86 = .ok (.ireturn, 1)) ∧ (decode cX8_book 87 = .ok (.aload_n 0, 1)) ∧ (decode cX8_book 88 = .ok (.iload_n 1, 1)) ∧ (decode cX8_book 89 = .ok (.iload 4, 2)) ∧ (decode cX8_book 91 = .ok (.sipush 168, 3)) ∧ (decode cX8_book 94 = .ok (.idiv, 1)) ∧ (decode cX8_book 95 = .ok (.invokevirtual 105, 3)) := by decide +kernel
theorem dX8_book_79 : decode cX8_book 79 = .ok (.invokevirtual 102, 3) := q9_dX8_book_79.1
theorem dX8_book_82 : decode cX8_book 82 = .ok (.ifCond .ne 5, 3) := q9_dX8_book_79.2.1
theorem dX8_book_85 : decode cX8_book 85 = .ok (.iconst (-1), 1) := q9_dX8_book_79.2.2.1
theorem dX8_book_86 : decode cX8_book 86 = .ok (.ireturn, 1) := q9_dX8_book_79.2.2.2.1
theorem dX8_book_87 : decode cX8_book 87 = .ok (.aload_n 0, 1) := q9_dX8_book_79.2.2.2.2.1
theorem dX8_book_88 : decode cX8_book 88 = .ok (.iload_n 1, 1) := q9_dX8_book_79.2.2.2.2.2.1
theorem dX8_book_89 : decode cX8_book 89 = .ok (.iload 4, 2) := q9_dX8_book_79.2.2.2.2.2.2.1
theorem dX8_book_91 : decode cX8_book 91 = .ok (.sipush 168, 3) := q9_dX8_book_79.2.2.2.2.2.2.2.1
theorem dX8_book_94 : decode cX8_book 94 = .ok (.idiv, 1) := q9_dX8_book_79.2.2.2.2.2.2.2.2.1
theorem dX8_book_95 : decode cX8_book 95 = .ok (.invokevirtual 105, 3) := q9_dX8_book_79.2.2.2.2.2.2.2.2.2
theorem q9_dX8_book_98 : (decode cX8_book 98 = .ok (.aload 5, 2)) ∧ (decode cX8_book 100 = .ok (.getfield 109, 3)) ∧ (decode cX8_book 103 = .ok (.if_icmp .lt 5, 3)) ∧ (decode cX8_book 106 = .ok (.iconst (-1), 1)) ∧ (decode cX8_book 107 = .ok (.ireturn, 1)) ∧ (decode cX8_book 108 = .ok (.aload_n 0, 1)) ∧ (decode cX8_book 109 = .ok (.iload_n 3, 1)) ∧ (decode cX8_book 110 = .ok (.invokevirtual 112, 3)) ∧ (decode cX8_book 113 = .ok (.astore 6, 2)) ∧ (decode cX8_book 115 = .ok (.aload 6, 2)) := by decide +kernel
theorem dX8_book_98 : decode cX8_book 98 = .ok (.aload 5, 2) := q9_dX8_book_98.1
theorem dX8_book_100 : decode cX8_book 100 = .ok (.getfield 109, 3) := q9_dX8_book_98.2.1
theorem dX8_book_103 : decode cX8_book 103 = .ok (.if_icmp .lt 5, 3) := q9_dX8_book_98.2.2.1
theorem dX8_book_106 : decode cX8_book 106 = .ok (.iconst (-1), 1) := q9_dX8_book_98.2.2.2.1
theorem dX8_book_107 : decode cX8_book 107 = .ok (.ireturn, 1) := q9_dX8_book_98.2.2.2.2.1
theorem dX8_book_108 : decode cX8_book 108 = .ok (.aload_n 0, 1) := q9_dX8_book_98.2.2.2.2.2.1
theorem dX8_book_109 : decode cX8_book 109 = .ok (.iload_n 3, 1) := q9_dX8_book_98.2.2.2.2.2.2.1
theorem dX8_book_110 : decode cX8_book 110 = .ok (.invokevirtual 112, 3) := q9_dX8_book_98.2.2.2.2.2.2.2.1
theorem dX8_book_113 : decode cX8_book 113 = .ok (.astore 6, 2) := q9_dX8_book_98.2.2.2.2.2.2.2.2.1
theorem dX8_book_115 : decode cX8_book 115 = .ok (.aload 6, 2) := q9_dX8_book_98.2.2.2.2.2.2.2.2.2
theorem q9_dX8_book_117 : (decode cX8_book 117 = .ok (.iload 4, 2)) ∧ (decode cX8_book 119 = .ok (.aload_n 0, 1)) ∧ (decode cX8_book 120 = .ok (.getfield 78, 3)) ∧ (decode cX8_book 123 = .ok (.invokevirtual 116, 3)) ∧ (decode cX8_book 126 = .ok (.ifCond .ne 5, 3)) ∧ (decode cX8_book 129 = .ok (.iconst (-1), 1)) ∧ (decode cX8_book 130 = .ok (.ireturn, 1)) ∧ (decode cX8_book 131 = .ok (.aload 6, 2)) ∧ (decode cX8_book 133 = .ok (.getfield 119, 3)) ∧ (decode cX8_book 136 = .ok (.iload 4, 2)) := by decide +kernel
theorem dX8_book_117 : decode cX8_book 117 = .ok (.iload 4, 2) := q9_dX8_book_117.1
theorem dX8_book_119 : decode cX8_book 119 = .ok (.aload_n 0, 1) := q9_dX8_book_117.2.1
theorem dX8_book_120 : decode cX8_book 120 = .ok (.getfield 78, 3) := q9_dX8_book_117.2.2.1
theorem dX8_book_123 : decode cX8_book 123 = .ok (.invokevirtual 116, 3) := q9_dX8_book_117.2.2.2.1
theorem dX8_book_126 : decode cX8_book 126 = .ok (.ifCond .ne 5, 3) := q9_dX8_book_117.2.2.2.2.1
theorem dX8_book_129 : decode cX8_book 129 = .ok (.iconst (-1), 1) := q9_dX8_book_117.2.2.2.2.2.1
theorem dX8_book_130 : decode cX8_book 130 = .ok (.ireturn, 1) := q9_dX8_book_117.2.2.2.2.2.2.1
theorem dX8_book_131 : decode cX8_book 131 = .ok (.aload 6, 2) := q9_dX8_book_117.2.2.2.2.2.2.2.1
theorem dX8_book_133 : decode cX8_book 133 = .ok (.getfield 119, 3) := q9_dX8_book_117.2.2.2.2.2.2.2.2.1
theorem dX8_book_136 : decode cX8_book 136 = .ok (.iload 4, 2) := q9_dX8_book_117.2.2.2.2.2.2.2.2.2
theorem q9_dX8_book_138 : (decode cX8_book 138 = .ok (.invokevirtual 123, 3)) ∧ (decode cX8_book 141 = .ok (.aload_n 0, 1)) ∧ (decode cX8_book 142 = .ok (.getfield 28, 3)) ∧ (decode cX8_book 145 = .ok (.aload_n 0, 1)) ∧ (decode cX8_book 146 = .ok (.getfield 99, 3)) ∧ (decode cX8_book 149 = .ok (.new 26, 3)) ∧ (decode cX8_book 152 = .ok (.dup, 1)) ∧ (decode cX8_book 153 = .ok (.iload_n 1, 1)) ∧ (decode cX8_book 154 = .ok (.iload_n 2, 1)) ∧ (decode cX8_book 155 = .ok (.iload_n 3, 1)) := by decide +kernel
theorem dX8_book_138 : decode cX8_book 138 = .ok (.invokevirtual 123, 3) := q9_dX8_book_138.1
theorem dX8_book_141 : decode cX8_book 141 = .ok (.aload_n 0, 1) := q9_dX8_book_138.2.1
theorem dX8_book_142 : decode cX8_book 142 = .ok (.getfield 28, 3) := q9_dX8_book_138.2.2.1
theorem dX8_book_145 : decode cX8_book 145 = .ok (.aload_n 0, 1) := q9_dX8_book_138.2.2.2.1
theorem dX8_book_146 : decode cX8_book 146 = .ok (.getfield 99, 3) := q9_dX8_book_138.2.2.2.2.1
theorem dX8_book_149 : decode cX8_book 149 = .ok (.new 26, 3) := q9_dX8_book_138.2.2.2.2.2.1
theorem dX8_book_152 : decode cX8_book 152 = .ok (.dup, 1) := q9_dX8_book_138.2.2.2.2.2.2.1
theorem dX8_book_153 : decode cX8_book 153 = .ok (.iload_n 1, 1) := q9_dX8_book_138.2.2.2.2.2.2.2.1
theorem dX8_book_154 : decode cX8_book 154 = .ok (.iload_n 2, 1) := q9_dX8_book_138.2.2.2.2.2.2.2.2.1
theorem dX8_book_155 : decode cX8_book 155 = .ok (.iload_n 3, 1) := q9_dX8_book_138.2.2.2.2.2.2.2.2.2
theorem q9_dX8_book_156 : (decode cX8_book 156 = .ok (.iload 4, 2)) ∧ (decode cX8_book 158 = .ok (.aload 5, 2)) ∧ (decode cX8_book 160 = .ok (.invokespecial 128, 3)) ∧ (decode cX8_book 163 = .ok (.aastore, 1)) ∧ (decode cX8_book 164 = .ok (.aload_n 0, 1)) ∧ (decode cX8_book 165 = .ok (.dup, 1)) ∧ (decode cX8_book 166 = .ok (.getfield 99, 3)) ∧ (decode cX8_book 169 = .ok (.iconst 1, 1)) ∧ (decode cX8_book 170 = .ok (.iadd, 1)) ∧ (decode cX8_book 171 = .ok (.putfield 99, 3)) := by decide +kernel
theorem dX8_book_156 : decode cX8_book 156 = .ok (.iload 4, 2) := q9_dX8_book_156.1
theorem dX8_book_158 : decode cX8_book 158 = .ok (.aload 5, 2) := q9_dX8_book_156.2.1
theorem dX8_book_160 : decode cX8_book 160 = .ok (.invokespecial 128, 3) := q9_dX8_book_156.2.2.1
theorem dX8_book_163 : decode cX8_book 163 = .ok (.aastore, 1) := q9_dX8_book_156.2.2.2.1
theorem dX8_book_164 : decode cX8_book 164 = .ok (.aload_n 0, 1) := q9_dX8_book_156.2.2.2.2.1
theorem dX8_book_165 : decode cX8_book 165 = .ok (.dup, 1) := q9_dX8_book_156.2.2.2.2.2.1
theorem dX8_book_166 : decode cX8_book 166 = .ok (.getfield 99, 3) := q9_dX8_book_156.2.2.2.2.2.2.1
theorem dX8_book_169 : decode cX8_book 169 = .ok (.iconst 1, 1) := q9_dX8_book_156.2.2.2.2.2.2.2.1
theorem dX8_book_170 : decode cX8_book 170 = .ok (.iadd, 1) := q9_dX8_book_156.2.2.2.2.2.2.2.2.1
theorem dX8_book_171 : decode cX8_book 171 = .ok (.putfield 99, 3) := q9_dX8_book_156.2.2.2.2.2.2.2.2.2
theorem q9_dX8_book_174 : (decode cX8_book 174 = .ok (.aload_n 0, 1)) ∧ (decode cX8_book 175 = .ok (.getfield 99, 3)) ∧ (decode cX8_book 178 = .ok (.iconst 1, 1)) ∧ (decode cX8_book 179 = .ok (.isub, 1)) ∧ (decode cX8_book 180 = .ok (.ireturn, 1)) := by decide +kernel
theorem dX8_book_174 : decode cX8_book 174 = .ok (.aload_n 0, 1) := q9_dX8_book_174.1
theorem dX8_book_175 : decode cX8_book 175 = .ok (.getfield 99, 3) := q9_dX8_book_174.2.1
theorem dX8_book_178 : decode cX8_book 178 = .ok (.iconst 1, 1) := q9_dX8_book_174.2.2.1
theorem dX8_book_179 : decode cX8_book 179 = .ok (.isub, 1) := q9_dX8_book_174.2.2.2.1
theorem dX8_book_180 : decode cX8_book 180 = .ok (.ireturn, 1) := q9_dX8_book_174.2.2.2.2
set_option maxRecDepth 20000 in
theorem ggX8_cancel_X8_sessionOf : GoodIn wsX8_cancel wsX8_sessionOf := goodIn_r _ [12, 13, 14, 48, 49, 50, 51, 52, 53, 54, 55, 56, 57, 58, 59, 60, 61, 62, 63, 64, 65] rfl (by decide +kernel)
set_option maxRecDepth 20000 in
theorem gX8_cancel_X8_sessionOf : GoodIn wsX8_cancel (wsV RX8 131 RX8 yX8_sessionOf wsX8_sessionOf) := goodIn_app (goodIn_of _ (by decide +kernel)) ggX8_cancel_X8_sessionOf
set_option maxRecDepth 20000 in
theorem ggX8_cancel_X8_iceOf : GoodIn wsX8_cancel wsX8_iceOf := goodIn_r _ [18, 19, 20, 48, 49, 50, 51, 52, 53, 54, 55, 56, 57, 58, 59, 60, 61, 62, 63, 64, 65] rfl (by decide +kernel)
set_option maxRecDepth 20000 in
theorem gX8_cancel_X8_iceOf : GoodIn wsX8_cancel (wsV RX8 112 RX8 yX8_iceOf wsX8_iceOf) := goodIn_app (goodIn_of _ (by decide +kernel)) ggX8_cancel_X8_iceOf
set_option maxRecDepth 20000 in
theorem ggX8_cancel_X0_drop : GoodIn wsX8_cancel wsX0_drop := goodIn_r _ [25, 26, 27, 66] rfl (by decide +kernel)
set_option maxRecDepth 20000 in
theorem gX8_cancel_X0_drop : GoodIn wsX8_cancel (wsV RX8 144 RX0 yX0_drop wsX0_drop) := goodIn_app (goodIn_of _ (by decide +kernel)) ggX8_cancel_X0_drop
theorem q9_dX8_cancel_0 : (decode cX8_cancel 0 = .ok (.aload_n 0, 1)) ∧ (decode cX8_cancel 1 = .ok (.iload_n 1, 1)) ∧ (decode cX8_cancel 2 = .ok (.invokevirtual 131, 3)) ∧ (decode cX8_cancel 5 = .ok (.astore_n 2, 1)) ∧ (decode cX8_cancel 6 = .ok (.aload_n 2, 1)) ∧ (decode cX8_cancel 7 = .ok (.ifnull 10, 3)) ∧ (decode cX8_cancel 10 = .ok (.aload_n 2, 1)) ∧ (decode cX8_cancel 11 = .ok (.getfield 135, 3)) ∧ (decode cX8_cancel 14 = .ok (.ifCond .eq 5, 3)) ∧ (decode cX8_cancel 17 = .ok (.iconst 0, 1)) := by decide +kernel
theorem dX8_cancel_0 : decode cX8_cancel 0 = .ok (.aload_n 0, 1) := q9_dX8_cancel_0.1
theorem dX8_cancel_1 : decode cX8_cancel 1 = .ok (.iload_n 1, 1) := q9_dX8_cancel_0.2.1
theorem dX8_cancel_2 : decode cX8_cancel 2 = .ok (.invokevirtual 131, 3) := q9_dX8_cancel_0.2.2.1
theorem dX8_cancel_5 : decode cX8_cancel 5 = .ok (.astore_n 2, 1) := q9_dX8_cancel_0.2.2.2.1
theorem dX8_cancel_6 : decode cX8_cancel 6 = .ok (.aload_n 2, 1) := q9_dX8_cancel_0.2.2.2.2.1
theorem dX8_cancel_7 : decode cX8_cancel 7 = .ok (.ifnull 10, 3) := q9_dX8_cancel_0.2.2.2.2.2.1
theorem dX8_cancel_10 : decode cX8_cancel 10 = .ok (.aload_n 2, 1) := q9_dX8_cancel_0.2.2.2.2.2.2.1
theorem dX8_cancel_11 : decode cX8_cancel 11 = .ok (.getfield 135, 3) := q9_dX8_cancel_0.2.2.2.2.2.2.2.1
theorem dX8_cancel_14 : decode cX8_cancel 14 = .ok (.ifCond .eq 5, 3) := q9_dX8_cancel_0.2.2.2.2.2.2.2.2.1
theorem dX8_cancel_17 : decode cX8_cancel 17 = .ok (.iconst 0, 1) := q9_dX8_cancel_0.2.2.2.2.2.2.2.2.2
theorem q9_dX8_cancel_18 : (decode cX8_cancel 18 = .ok (.ireturn, 1)) ∧ (decode cX8_cancel 19 = .ok (.aload_n 0, 1)) ∧ (decode cX8_cancel 20 = .ok (.aload_n 2, 1)) ∧ (decode cX8_cancel 21 = .ok (.getfield 138, 3)) ∧ (decode cX8_cancel 24 = .ok (.invokevirtual 112, 3)) ∧ (decode cX8_cancel 27 = .ok (.getfield 119, 3)) ∧ (decode cX8_cancel 30 = .ok (.aload_n 2, 1)) ∧ (decode cX8_cancel 31 = .ok (.getfield 141, 3)) ∧ (decode cX8_cancel 34 = .ok (.invokevirtual 144, 3)) ∧ (decode cX8_cancel 37 = .ok (.aload_n 2, 1)) := by decide +kernel
theorem dX8_cancel_18 : decode cX8_cancel 18 = .ok (.ireturn, 1) := q9_dX8_cancel_18.1
theorem dX8_cancel_19 : decode cX8_cancel 19 = .ok (.aload_n 0, 1) := q9_dX8_cancel_18.2.1
theorem dX8_cancel_20 : decode cX8_cancel 20 = .ok (.aload_n 2, 1) := q9_dX8_cancel_18.2.2.1
theorem dX8_cancel_21 : decode cX8_cancel 21 = .ok (.getfield 138, 3) := q9_dX8_cancel_18.2.2.2.1
theorem dX8_cancel_24 : decode cX8_cancel 24 = .ok (.invokevirtual 112, 3) := q9_dX8_cancel_18.2.2.2.2.1
theorem dX8_cancel_27 : decode cX8_cancel 27 = .ok (.getfield 119, 3) := q9_dX8_cancel_18.2.2.2.2.2.1
theorem dX8_cancel_30 : decode cX8_cancel 30 = .ok (.aload_n 2, 1) := q9_dX8_cancel_18.2.2.2.2.2.2.1
theorem dX8_cancel_31 : decode cX8_cancel 31 = .ok (.getfield 141, 3) := q9_dX8_cancel_18.2.2.2.2.2.2.2.1
theorem dX8_cancel_34 : decode cX8_cancel 34 = .ok (.invokevirtual 144, 3) := q9_dX8_cancel_18.2.2.2.2.2.2.2.2.1
theorem dX8_cancel_37 : decode cX8_cancel 37 = .ok (.aload_n 2, 1) := q9_dX8_cancel_18.2.2.2.2.2.2.2.2.2
theorem q9_dX8_cancel_38 : (decode cX8_cancel 38 = .ok (.iconst 3, 1)) ∧ (decode cX8_cancel 39 = .ok (.putfield 135, 3)) ∧ (decode cX8_cancel 42 = .ok (.aload_n 2, 1)) ∧ (decode cX8_cancel 43 = .ok (.aload_n 2, 1)) ∧ (decode cX8_cancel 44 = .ok (.getfield 147, 3)) ∧ (decode cX8_cancel 47 = .ok (.aload_n 2, 1)) ∧ (decode cX8_cancel 48 = .ok (.getfield 150, 3)) ∧ (decode cX8_cancel 51 = .ok (.imul, 1)) ∧ (decode cX8_cancel 52 = .ok (.bipush 100, 2)) ∧ (decode cX8_cancel 54 = .ok (.idiv, 1)) := by decide +kernel
theorem dX8_cancel_38 : decode cX8_cancel 38 = .ok (.iconst 3, 1) := q9_dX8_cancel_38.1
theorem dX8_cancel_39 : decode cX8_cancel 39 = .ok (.putfield 135, 3) := q9_dX8_cancel_38.2.1
theorem dX8_cancel_42 : decode cX8_cancel 42 = .ok (.aload_n 2, 1) := q9_dX8_cancel_38.2.2.1
theorem dX8_cancel_43 : decode cX8_cancel 43 = .ok (.aload_n 2, 1) := q9_dX8_cancel_38.2.2.2.1
theorem dX8_cancel_44 : decode cX8_cancel 44 = .ok (.getfield 147, 3) := q9_dX8_cancel_38.2.2.2.2.1
theorem dX8_cancel_47 : decode cX8_cancel 47 = .ok (.aload_n 2, 1) := q9_dX8_cancel_38.2.2.2.2.2.1
theorem dX8_cancel_48 : decode cX8_cancel 48 = .ok (.getfield 150, 3) := q9_dX8_cancel_38.2.2.2.2.2.2.1
theorem dX8_cancel_51 : decode cX8_cancel 51 = .ok (.imul, 1) := q9_dX8_cancel_38.2.2.2.2.2.2.2.1
theorem dX8_cancel_52 : decode cX8_cancel 52 = .ok (.bipush 100, 2) := q9_dX8_cancel_38.2.2.2.2.2.2.2.2.1
theorem dX8_cancel_54 : decode cX8_cancel 54 = .ok (.idiv, 1) := q9_dX8_cancel_38.2.2.2.2.2.2.2.2.2
theorem q9_dX8_cancel_55 : (decode cX8_cancel 55 = .ok (.putfield 153, 3)) ∧ (decode cX8_cancel 58 = .ok (.iconst 1, 1)) ∧ (decode cX8_cancel 59 = .ok (.ireturn, 1)) := by decide +kernel
theorem dX8_cancel_55 : decode cX8_cancel 55 = .ok (.putfield 153, 3) := q9_dX8_cancel_55.1
theorem dX8_cancel_58 : decode cX8_cancel 58 = .ok (.iconst 1, 1) := q9_dX8_cancel_55.2.1
theorem dX8_cancel_59 : decode cX8_cancel 59 = .ok (.ireturn, 1) := q9_dX8_cancel_55.2.2
set_option maxRecDepth 20000 in
theorem ggX8_cut_X8_isBelow : GoodIn wsX8_cut wsX8_isBelow := goodIn_r _ [4] rfl (by decide +kernel)
set_option maxRecDepth 20000 in
theorem gX8_cut_X8_isBelow : GoodIn wsX8_cut (va_wsS RX8 88 yX8_isBelow wsX8_isBelow) := goodIn_app (goodIn_of _ (by decide +kernel)) ggX8_cut_X8_isBelow
set_option maxRecDepth 20000 in
theorem ggX8_cut_X8_isTenths : GoodIn wsX8_cut wsX8_isTenths := goodIn_r _ [7] rfl (by decide +kernel)
set_option maxRecDepth 20000 in
theorem gX8_cut_X8_isTenths : GoodIn wsX8_cut (va_wsS RX8 156 yX8_isTenths wsX8_isTenths) := goodIn_app (goodIn_of _ (by decide +kernel)) ggX8_cut_X8_isTenths
set_option maxRecDepth 20000 in
theorem ggX8_cut_X8_iceOf : GoodIn wsX8_cut wsX8_iceOf := goodIn_r _ [11, 12, 13, 21, 22, 23, 24, 25, 26, 27, 28, 29, 30, 31, 32, 33, 34, 35, 36, 37, 38] rfl (by decide +kernel)
set_option maxRecDepth 20000 in
theorem gX8_cut_X8_iceOf : GoodIn wsX8_cut (wsV RX8 112 RX8 yX8_iceOf wsX8_iceOf) := goodIn_app (goodIn_of _ (by decide +kernel)) ggX8_cut_X8_iceOf
set_option maxRecDepth 20000 in
theorem ggX8_cut_X1_tellCut : GoodIn wsX8_cut wsX1_tellCut := goodIn_r _ [18, 19, 20, 39, 40, 41, 42, 43, 44, 45, 46, 47, 48] rfl (by decide +kernel)
set_option maxRecDepth 20000 in
theorem gX8_cut_X1_tellCut : GoodIn wsX8_cut (wsV RX8 160 RX1 yX1_tellCut wsX1_tellCut) := goodIn_app (goodIn_of _ (by decide +kernel)) ggX8_cut_X1_tellCut
theorem q9_dX8_cut_0 : (decode cX8_cut 0 = .ok (.iload_n 1, 1)) ∧ (decode cX8_cut 1 = .ok (.iconst 2, 1)) ∧ (decode cX8_cut 2 = .ok (.invokestatic 88, 3)) ∧ (decode cX8_cut 5 = .ok (.ifCond .eq 17, 3)) ∧ (decode cX8_cut 8 = .ok (.iload_n 2, 1)) ∧ (decode cX8_cut 9 = .ok (.invokestatic 156, 3)) ∧ (decode cX8_cut 12 = .ok (.ifCond .eq 10, 3)) ∧ (decode cX8_cut 15 = .ok (.iload_n 3, 1)) ∧ (decode cX8_cut 16 = .ok (.invokestatic 156, 3)) ∧ (decode cX8_cut 19 = .ok (.ifCond .ne 5, 3)) := by decide +kernel
theorem dX8_cut_0 : decode cX8_cut 0 = .ok (.iload_n 1, 1) := q9_dX8_cut_0.1
theorem dX8_cut_1 : decode cX8_cut 1 = .ok (.iconst 2, 1) := q9_dX8_cut_0.2.1
theorem dX8_cut_2 : decode cX8_cut 2 = .ok (.invokestatic 88, 3) := q9_dX8_cut_0.2.2.1
theorem dX8_cut_5 : decode cX8_cut 5 = .ok (.ifCond .eq 17, 3) := q9_dX8_cut_0.2.2.2.1
theorem dX8_cut_8 : decode cX8_cut 8 = .ok (.iload_n 2, 1) := q9_dX8_cut_0.2.2.2.2.1
theorem dX8_cut_9 : decode cX8_cut 9 = .ok (.invokestatic 156, 3) := q9_dX8_cut_0.2.2.2.2.2.1
theorem dX8_cut_12 : decode cX8_cut 12 = .ok (.ifCond .eq 10, 3) := q9_dX8_cut_0.2.2.2.2.2.2.1
theorem dX8_cut_15 : decode cX8_cut 15 = .ok (.iload_n 3, 1) := q9_dX8_cut_0.2.2.2.2.2.2.2.1
theorem dX8_cut_16 : decode cX8_cut 16 = .ok (.invokestatic 156, 3) := q9_dX8_cut_0.2.2.2.2.2.2.2.2.1
theorem dX8_cut_19 : decode cX8_cut 19 = .ok (.ifCond .ne 5, 3) := q9_dX8_cut_0.2.2.2.2.2.2.2.2.2
theorem q9_dX8_cut_22 : (decode cX8_cut 22 = .ok (.iconst 0, 1)) ∧ (decode cX8_cut 23 = .ok (.ireturn, 1)) ∧ (decode cX8_cut 24 = .ok (.aload_n 0, 1)) ∧ (decode cX8_cut 25 = .ok (.iload_n 1, 1)) ∧ (decode cX8_cut 26 = .ok (.invokevirtual 112, 3)) ∧ (decode cX8_cut 29 = .ok (.iload_n 2, 1)) ∧ (decode cX8_cut 30 = .ok (.iload_n 3, 1)) ∧ (decode cX8_cut 31 = .ok (.invokevirtual 160, 3)) ∧ (decode cX8_cut 34 = .ok (.iconst 1, 1)) ∧ (decode cX8_cut 35 = .ok (.ireturn, 1)) := by decide +kernel
theorem dX8_cut_22 : decode cX8_cut 22 = .ok (.iconst 0, 1) := q9_dX8_cut_22.1
theorem dX8_cut_23 : decode cX8_cut 23 = .ok (.ireturn, 1) := q9_dX8_cut_22.2.1
theorem dX8_cut_24 : decode cX8_cut 24 = .ok (.aload_n 0, 1) := q9_dX8_cut_22.2.2.1
theorem dX8_cut_25 : decode cX8_cut 25 = .ok (.iload_n 1, 1) := q9_dX8_cut_22.2.2.2.1
theorem dX8_cut_26 : decode cX8_cut 26 = .ok (.invokevirtual 112, 3) := q9_dX8_cut_22.2.2.2.2.1
theorem dX8_cut_29 : decode cX8_cut 29 = .ok (.iload_n 2, 1) := q9_dX8_cut_22.2.2.2.2.2.1
theorem dX8_cut_30 : decode cX8_cut 30 = .ok (.iload_n 3, 1) := q9_dX8_cut_22.2.2.2.2.2.2.1
theorem dX8_cut_31 : decode cX8_cut 31 = .ok (.invokevirtual 160, 3) := q9_dX8_cut_22.2.2.2.2.2.2.2.1
theorem dX8_cut_34 : decode cX8_cut 34 = .ok (.iconst 1, 1) := q9_dX8_cut_22.2.2.2.2.2.2.2.2.1
theorem dX8_cut_35 : decode cX8_cut 35 = .ok (.ireturn, 1) := q9_dX8_cut_22.2.2.2.2.2.2.2.2.2
set_option maxRecDepth 20000 in
theorem ggX8_close_X8_isBelow : GoodIn wsX8_close wsX8_isBelow := goodIn_r _ [10] rfl (by decide +kernel)
set_option maxRecDepth 20000 in
theorem gX8_close_X8_isBelow : GoodIn wsX8_close (va_wsS RX8 88 yX8_isBelow wsX8_isBelow) := goodIn_app (goodIn_of _ (by decide +kernel)) ggX8_close_X8_isBelow
set_option maxRecDepth 20000 in
theorem ggX8_close_X8_iceOf : GoodIn wsX8_close wsX8_iceOf := goodIn_r _ [14, 15, 16, 137, 138, 139, 140, 141, 142, 143, 144, 145, 146, 147, 148, 149, 150, 151, 152, 153, 154] rfl (by decide +kernel)
set_option maxRecDepth 20000 in
theorem gX8_close_X8_iceOf : GoodIn wsX8_close (wsV RX8 112 RX8 yX8_iceOf wsX8_iceOf) := goodIn_app (goodIn_of _ (by decide +kernel)) ggX8_close_X8_iceOf
set_option maxRecDepth 20000 in
theorem ggX8_close_X8_gatherSessions : GoodIn wsX8_close wsX8_gatherSessions := goodIn_r _ [20, 5, 21, 22, 23, 24, 25, 26, 27, 28, 29, 30, 31, 32, 9, 33, 34, 35, 36, 37, 38, 39, 40, 41, 42, 43, 44, 45, 8, 10, 137, 138, 139, 140, 141, 142, 143, 144, 145, 146, 147, 148, 149, 150, 151, 152, 153, 154, 165, 166, 167, 168, 169, 170, 171, 172, 173, 174, 175, 176, 177, 178, 179, 180, 181, 182, 183, 184] rfl (by decide +kernel)
set_option maxRecDepth 20000 in
theorem gX8_close_X8_gatherSessions : GoodIn wsX8_close (wsV RX8 167 RX8 yX8_gatherSessions wsX8_gatherSessions) := goodIn_app (goodIn_of _ (by decide +kernel)) ggX8_close_X8_gatherSessions
set_option maxRecDepth 20000 in
theorem ggX8_close_X0_drop : GoodIn wsX8_close wsX0_drop := goodIn_r _ [50, 51, 52, 185] rfl (by decide +kernel)
set_option maxRecDepth 20000 in
theorem gX8_close_X0_drop : GoodIn wsX8_close (wsV RX8 144 RX0 yX0_drop wsX0_drop) := goodIn_app (goodIn_of _ (by decide +kernel)) ggX8_close_X0_drop
set_option maxRecDepth 20000 in
theorem ggX8_close_X0_put : GoodIn wsX8_close wsX0_put := goodIn_r _ [56, 51, 185] rfl (by decide +kernel)
set_option maxRecDepth 20000 in
theorem gX8_close_X0_put : GoodIn wsX8_close (wsV RX8 123 RX0 yX0_put wsX0_put) := goodIn_app (goodIn_of _ (by decide +kernel)) ggX8_close_X0_put
set_option maxRecDepth 20000 in
theorem ggX8_close_X2_search : GoodIn wsX8_close wsX2_search := goodIn_r _ [60, 61, 62, 63, 29, 64, 65, 66, 67, 27, 68, 69, 70, 71, 72, 73, 74, 75, 76, 45, 77, 8, 9, 10, 78, 79, 80, 81, 82, 83, 84, 85, 86, 87, 88, 89, 90, 91, 92, 93, 94, 95, 96, 49, 97, 51, 98, 99, 100, 101, 102, 103, 104, 105, 106, 107, 108, 109, 110, 111, 112, 113, 114, 115, 116, 117, 118, 119, 120, 121, 122, 123, 54, 55, 56, 124, 47, 48, 50, 52, 175, 176, 177, 178, 179, 180, 181, 182, 183, 184, 165, 166, 167, 168, 169, 170, 171, 172, 173, 174, 155, 156, 157, 158, 159, 160, 161, 162, 163, 164, 185] rfl (by decide +kernel)
set_option maxRecDepth 20000 in
theorem gX8_close_X2_search : GoodIn wsX8_close (wsV RX8 174 RX2 yX2_search wsX2_search) := goodIn_app (goodIn_of _ (by decide +kernel)) ggX8_close_X2_search
set_option maxRecDepth 20000 in
theorem ggX8_close_X2_carryOut : GoodIn wsX8_close wsX2_carryOut := goodIn_r _ [128, 29, 45, 118, 129, 113, 73, 74, 75, 27, 76, 77, 8, 9, 10, 78, 79, 80, 81, 82, 83, 84, 85, 86, 123, 54, 55, 49, 56, 51, 130, 131, 132, 38, 133, 134, 135, 136, 175, 176, 177, 178, 179, 180, 181, 182, 183, 184, 165, 166, 167, 168, 169, 170, 171, 172, 173, 174, 155, 156, 157, 158, 159, 160, 161, 162, 163, 164, 185] rfl (by decide +kernel)
set_option maxRecDepth 20000 in
theorem gX8_close_X2_carryOut : GoodIn wsX8_close (wsV RX8 177 RX2 yX2_carryOut wsX2_carryOut) := goodIn_app (goodIn_of _ (by decide +kernel)) ggX8_close_X2_carryOut
theorem q9_dX8_close_0 : (decode cX8_close 0 = .ok (.iload_n 1, 1)) ∧ (decode cX8_close 1 = .ok (.iconst 2, 1)) ∧ (decode cX8_close 2 = .ok (.invokestatic 88, 3)) ∧ (decode cX8_close 5 = .ok (.ifCond .eq 28, 3)) ∧ (decode cX8_close 8 = .ok (.iload_n 2, 1)) ∧ (decode cX8_close 9 = .ok (.aload_n 0, 1)) ∧ (decode cX8_close 10 = .ok (.getfield 96, 3)) ∧ (decode cX8_close 13 = .ok (.if_icmp .lt 20, 3)) ∧ (decode cX8_close 16 = .ok (.iload_n 3, 1)) ∧ (decode cX8_close 17 = .ok (.iload_n 2, 1)) := by decide +kernel
theorem dX8_close_0 : decode cX8_close 0 = .ok (.iload_n 1, 1) := q9_dX8_close_0.1
theorem dX8_close_1 : decode cX8_close 1 = .ok (.iconst 2, 1) := q9_dX8_close_0.2.1
theorem dX8_close_2 : decode cX8_close 2 = .ok (.invokestatic 88, 3) := q9_dX8_close_0.2.2.1
theorem dX8_close_5 : decode cX8_close 5 = .ok (.ifCond .eq 28, 3) := q9_dX8_close_0.2.2.2.1
theorem dX8_close_8 : decode cX8_close 8 = .ok (.iload_n 2, 1) := q9_dX8_close_0.2.2.2.2.1
theorem dX8_close_9 : decode cX8_close 9 = .ok (.aload_n 0, 1) := q9_dX8_close_0.2.2.2.2.2.1
theorem dX8_close_10 : decode cX8_close 10 = .ok (.getfield 96, 3) := q9_dX8_close_0.2.2.2.2.2.2.1
theorem dX8_close_13 : decode cX8_close 13 = .ok (.if_icmp .lt 20, 3) := q9_dX8_close_0.2.2.2.2.2.2.2.1
theorem dX8_close_16 : decode cX8_close 16 = .ok (.iload_n 3, 1) := q9_dX8_close_0.2.2.2.2.2.2.2.2.1
theorem dX8_close_17 : decode cX8_close 17 = .ok (.iload_n 2, 1) := q9_dX8_close_0.2.2.2.2.2.2.2.2.2
theorem q9_dX8_close_18 : (decode cX8_close 18 = .ok (.if_icmp .le 15, 3)) ∧ (decode cX8_close 21 = .ok (.iload_n 3, 1)) ∧ (decode cX8_close 22 = .ok (.aload_n 0, 1)) ∧ (decode cX8_close 23 = .ok (.getfield 96, 3)) ∧ (decode cX8_close 26 = .ok (.sipush 1000, 3)) ∧ (decode cX8_close 29 = .ok (.iadd, 1)) ∧ (decode cX8_close 30 = .ok (.if_icmp .le 5, 3)) ∧ (decode cX8_close 33 = .ok (.iconst (-1), 1)) ∧ (decode cX8_close 34 = .ok (.ireturn, 1)) ∧ (decode cX8_close 35 = .ok (.aload_n 0, 1)) := by decide +kernel
theorem dX8_close_18 : decode cX8_close 18 = .ok (.if_icmp .le 15, 3) := q9_dX8_close_18.1
theorem dX8_close_21 : decode cX8_close 21 = .ok (.iload_n 3, 1) := q9_dX8_close_18.2.1
theorem dX8_close_22 : decode cX8_close 22 = .ok (.aload_n 0, 1) := q9_dX8_close_18.2.2.1
theorem dX8_close_23 : decode cX8_close 23 = .ok (.getfield 96, 3) := q9_dX8_close_18.2.2.2.1
theorem dX8_close_26 : decode cX8_close 26 = .ok (.sipush 1000, 3) := q9_dX8_close_18.2.2.2.2.1
theorem dX8_close_29 : decode cX8_close 29 = .ok (.iadd, 1) := q9_dX8_close_18.2.2.2.2.2.1
theorem dX8_close_30 : decode cX8_close 30 = .ok (.if_icmp .le 5, 3) := q9_dX8_close_18.2.2.2.2.2.2.1
theorem dX8_close_33 : decode cX8_close 33 = .ok (.iconst (-1), 1) := q9_dX8_close_18.2.2.2.2.2.2.2.1
theorem dX8_close_34 : decode cX8_close 34 = .ok (.ireturn, 1) := q9_dX8_close_18.2.2.2.2.2.2.2.2.1
theorem dX8_close_35 : decode cX8_close 35 = .ok (.aload_n 0, 1) := q9_dX8_close_18.2.2.2.2.2.2.2.2.2
theorem q9_dX8_close_36 : (decode cX8_close 36 = .ok (.iload_n 1, 1)) ∧ (decode cX8_close 37 = .ok (.invokevirtual 112, 3)) ∧ (decode cX8_close 40 = .ok (.astore 4, 2)) ∧ (decode cX8_close 42 = .ok (.iload_n 3, 1)) ∧ (decode cX8_close 43 = .ok (.iload_n 2, 1)) ∧ (decode cX8_close 44 = .ok (.isub, 1)) ∧ (decode cX8_close 45 = .ok (.bipush 100, 2)) ∧ (decode cX8_close 47 = .ok (.if_icmp .gt 13, 3)) ∧ (decode cX8_close 50 = .ok (.aload 4, 2)) ∧ (decode cX8_close 52 = .ok (.getfield 164, 3)) := by decide +kernel
theorem dX8_close_36 : decode cX8_close 36 = .ok (.iload_n 1, 1) := q9_dX8_close_36.1
theorem dX8_close_37 : decode cX8_close 37 = .ok (.invokevirtual 112, 3) := q9_dX8_close_36.2.1
theorem dX8_close_40 : decode cX8_close 40 = .ok (.astore 4, 2) := q9_dX8_close_36.2.2.1
theorem dX8_close_42 : decode cX8_close 42 = .ok (.iload_n 3, 1) := q9_dX8_close_36.2.2.2.1
theorem dX8_close_43 : decode cX8_close 43 = .ok (.iload_n 2, 1) := q9_dX8_close_36.2.2.2.2.1
theorem dX8_close_44 : decode cX8_close 44 = .ok (.isub, 1) := q9_dX8_close_36.2.2.2.2.2.1
theorem dX8_close_45 : decode cX8_close 45 = .ok (.bipush 100, 2) := q9_dX8_close_36.2.2.2.2.2.2.1
theorem dX8_close_47 : decode cX8_close 47 = .ok (.if_icmp .gt 13, 3) := q9_dX8_close_36.2.2.2.2.2.2.2.1
theorem dX8_close_50 : decode cX8_close 50 = .ok (.aload 4, 2) := q9_dX8_close_36.2.2.2.2.2.2.2.2.1
theorem dX8_close_52 : decode cX8_close 52 = .ok (.getfield 164, 3) := q9_dX8_close_36.2.2.2.2.2.2.2.2.2
theorem q9_dX8_close_55 : (decode cX8_close 55 = .ok (.bipush 10, 2)) ∧ (decode cX8_close 57 = .ok (.if_icmp .lt 5, 3)) ∧ (decode cX8_close 60 = .ok (.iconst (-1), 1)) ∧ (decode cX8_close 61 = .ok (.ireturn, 1)) ∧ (decode cX8_close 62 = .ok (.aload_n 0, 1)) ∧ (decode cX8_close 63 = .ok (.iload_n 1, 1)) ∧ (decode cX8_close 64 = .ok (.iload_n 2, 1)) ∧ (decode cX8_close 65 = .ok (.iload_n 3, 1)) ∧ (decode cX8_close 66 = .ok (.invokevirtual 167, 3)) ∧ (decode cX8_close 69 = .ok (.ifCond .ne 5, 3)) := by decide +kernel
theorem dX8_close_55 : decode cX8_close 55 = .ok (.bipush 10, 2) := q9_dX8_close_55.1
theorem dX8_close_57 : decode cX8_close 57 = .ok (.if_icmp .lt 5, 3) := q9_dX8_close_55.2.1
theorem dX8_close_60 : decode cX8_close 60 = .ok (.iconst (-1), 1) := q9_dX8_close_55.2.2.1
theorem dX8_close_61 : decode cX8_close 61 = .ok (.ireturn, 1) := q9_dX8_close_55.2.2.2.1
theorem dX8_close_62 : decode cX8_close 62 = .ok (.aload_n 0, 1) := q9_dX8_close_55.2.2.2.2.1
theorem dX8_close_63 : decode cX8_close 63 = .ok (.iload_n 1, 1) := q9_dX8_close_55.2.2.2.2.2.1
theorem dX8_close_64 : decode cX8_close 64 = .ok (.iload_n 2, 1) := q9_dX8_close_55.2.2.2.2.2.2.1
theorem dX8_close_65 : decode cX8_close 65 = .ok (.iload_n 3, 1) := q9_dX8_close_55.2.2.2.2.2.2.2.1
theorem dX8_close_66 : decode cX8_close 66 = .ok (.invokevirtual 167, 3) := q9_dX8_close_55.2.2.2.2.2.2.2.2.1
theorem dX8_close_69 : decode cX8_close 69 = .ok (.ifCond .ne 5, 3) := q9_dX8_close_55.2.2.2.2.2.2.2.2.2
theorem q9_dX8_close_72 : (decode cX8_close 72 = .ok (.iconst (-1), 1)) ∧ (decode cX8_close 73 = .ok (.ireturn, 1)) ∧ (decode cX8_close 74 = .ok (.aload 4, 2)) ∧ (decode cX8_close 76 = .ok (.dup, 1)) ∧ (decode cX8_close 77 = .ok (.getfield 164, 3)) ∧ (decode cX8_close 80 = .ok (.iconst 1, 1)) ∧ (decode cX8_close 81 = .ok (.iadd, 1)) ∧ (decode cX8_close 82 = .ok (.putfield 164, 3)) ∧ (decode cX8_close 85 = .ok (.iload_n 2, 1)) ∧ (decode cX8_close 86 = .ok (.istore 5, 2)) := by decide +kernel
theorem dX8_close_72 : decode cX8_close 72 = .ok (.iconst (-1), 1) := q9_dX8_close_72.1
theorem dX8_close_73 : decode cX8_close 73 = .ok (.ireturn, 1) := q9_dX8_close_72.2.1
theorem dX8_close_74 : decode cX8_close 74 = .ok (.aload 4, 2) := q9_dX8_close_72.2.2.1
theorem dX8_close_76 : decode cX8_close 76 = .ok (.dup, 1) := q9_dX8_close_72.2.2.2.1
theorem dX8_close_77 : decode cX8_close 77 = .ok (.getfield 164, 3) := q9_dX8_close_72.2.2.2.2.1
theorem dX8_close_80 : decode cX8_close 80 = .ok (.iconst 1, 1) := q9_dX8_close_72.2.2.2.2.2.1
theorem dX8_close_81 : decode cX8_close 81 = .ok (.iadd, 1) := q9_dX8_close_72.2.2.2.2.2.2.1
theorem dX8_close_82 : decode cX8_close 82 = .ok (.putfield 164, 3) := q9_dX8_close_72.2.2.2.2.2.2.2.1
theorem dX8_close_85 : decode cX8_close 85 = .ok (.iload_n 2, 1) := q9_dX8_close_72.2.2.2.2.2.2.2.2.1
theorem dX8_close_86 : decode cX8_close 86 = .ok (.istore 5, 2) := q9_dX8_close_72.2.2.2.2.2.2.2.2.2
theorem q9_dX8_close_88 : (decode cX8_close 88 = .ok (.iload 5, 2)) ∧ (decode cX8_close 90 = .ok (.iload_n 3, 1)) ∧ (decode cX8_close 91 = .ok (.if_icmp .ge 29, 3)) ∧ (decode cX8_close 94 = .ok (.aload 4, 2)) ∧ (decode cX8_close 96 = .ok (.getfield 119, 3)) ∧ (decode cX8_close 99 = .ok (.iload 5, 2)) ∧ (decode cX8_close 101 = .ok (.invokevirtual 144, 3)) ∧ (decode cX8_close 104 = .ok (.aload 4, 2)) ∧ (decode cX8_close 106 = .ok (.getfield 171, 3)) ∧ (decode cX8_close 109 = .ok (.iload 5, 2)) := by decide +kernel
theorem dX8_close_88 : decode cX8_close 88 = .ok (.iload 5, 2) := q9_dX8_close_88.1
theorem dX8_close_90 : decode cX8_close 90 = .ok (.iload_n 3, 1) := q9_dX8_close_88.2.1
theorem dX8_close_91 : decode cX8_close 91 = .ok (.if_icmp .ge 29, 3) := q9_dX8_close_88.2.2.1
theorem dX8_close_94 : decode cX8_close 94 = .ok (.aload 4, 2) := q9_dX8_close_88.2.2.2.1
theorem dX8_close_96 : decode cX8_close 96 = .ok (.getfield 119, 3) := q9_dX8_close_88.2.2.2.2.1
theorem dX8_close_99 : decode cX8_close 99 = .ok (.iload 5, 2) := q9_dX8_close_88.2.2.2.2.2.1
theorem dX8_close_101 : decode cX8_close 101 = .ok (.invokevirtual 144, 3) := q9_dX8_close_88.2.2.2.2.2.2.1
theorem dX8_close_104 : decode cX8_close 104 = .ok (.aload 4, 2) := q9_dX8_close_88.2.2.2.2.2.2.2.1
theorem dX8_close_106 : decode cX8_close 106 = .ok (.getfield 171, 3) := q9_dX8_close_88.2.2.2.2.2.2.2.2.1
theorem dX8_close_109 : decode cX8_close 109 = .ok (.iload 5, 2) := q9_dX8_close_88.2.2.2.2.2.2.2.2.2
theorem q9_dX8_close_111 : (decode cX8_close 111 = .ok (.invokevirtual 123, 3)) ∧ (decode cX8_close 114 = .ok (.iinc 5 1, 3)) ∧ (decode cX8_close 117 = .ok (.goto (-29), 3)) ∧ (decode cX8_close 120 = .ok (.aload_n 0, 1)) ∧ (decode cX8_close 121 = .ok (.getfield 57, 3)) ∧ (decode cX8_close 124 = .ok (.aload_n 0, 1)) ∧ (decode cX8_close 125 = .ok (.getfield 96, 3)) ∧ (decode cX8_close 128 = .ok (.aload_n 0, 1)) ∧ (decode cX8_close 129 = .ok (.getfield 78, 3)) ∧ (decode cX8_close 132 = .ok (.invokevirtual 174, 3)) := by decide +kernel
theorem dX8_close_111 : decode cX8_close 111 = .ok (.invokevirtual 123, 3) := q9_dX8_close_111.1
theorem dX8_close_114 : decode cX8_close 114 = .ok (.iinc 5 1, 3) := q9_dX8_close_111.2.1
theorem dX8_close_117 : decode cX8_close 117 = .ok (.goto (-29), 3) := q9_dX8_close_111.2.2.1
theorem dX8_close_120 : decode cX8_close 120 = .ok (.aload_n 0, 1) := q9_dX8_close_111.2.2.2.1
theorem dX8_close_121 : decode cX8_close 121 = .ok (.getfield 57, 3) := q9_dX8_close_111.2.2.2.2.1
theorem dX8_close_124 : decode cX8_close 124 = .ok (.aload_n 0, 1) := q9_dX8_close_111.2.2.2.2.2.1
theorem dX8_close_125 : decode cX8_close 125 = .ok (.getfield 96, 3) := q9_dX8_close_111.2.2.2.2.2.2.1
theorem dX8_close_128 : decode cX8_close 128 = .ok (.aload_n 0, 1) := q9_dX8_close_111.2.2.2.2.2.2.2.1
theorem dX8_close_129 : decode cX8_close 129 = .ok (.getfield 78, 3) := q9_dX8_close_111.2.2.2.2.2.2.2.2.1
theorem dX8_close_132 : decode cX8_close 132 = .ok (.invokevirtual 174, 3) := q9_dX8_close_111.2.2.2.2.2.2.2.2.2
theorem q9_dX8_close_135 : (decode cX8_close 135 = .ok (.aload_n 0, 1)) ∧ (decode cX8_close 136 = .ok (.getfield 57, 3)) ∧ (decode cX8_close 139 = .ok (.invokevirtual 177, 3)) ∧ (decode cX8_close 142 = .ok (.ireturn, 1)) := by decide +kernel
theorem dX8_close_135 : decode cX8_close 135 = .ok (.aload_n 0, 1) := q9_dX8_close_135.1
theorem dX8_close_136 : decode cX8_close 136 = .ok (.getfield 57, 3) := q9_dX8_close_135.2.1
theorem dX8_close_139 : decode cX8_close 139 = .ok (.invokevirtual 177, 3) := q9_dX8_close_135.2.2.1
theorem dX8_close_142 : decode cX8_close 142 = .ok (.ireturn, 1) := q9_dX8_close_135.2.2.2
set_option maxRecDepth 20000 in
theorem ggX8_step_X8_isWarmth : GoodIn wsX8_step wsX8_isWarmth := goodIn_r _ [6] rfl (by decide +kernel)
set_option maxRecDepth 20000 in
theorem gX8_step_X8_isWarmth : GoodIn wsX8_step (va_wsS RX8 181 yX8_isWarmth wsX8_isWarmth) := goodIn_app (goodIn_of _ (by decide +kernel)) ggX8_step_X8_isWarmth
set_option maxRecDepth 20000 in
theorem ggX8_step_X8_runCompressors : GoodIn wsX8_step wsX8_runCompressors := goodIn_r _ [10, 11, 12, 2, 13, 14, 15, 124, 125, 126, 127, 128, 129, 130, 131, 132, 133, 134, 135, 136, 137, 138, 139, 140, 141] rfl (by decide +kernel)
set_option maxRecDepth 20000 in
theorem gX8_step_X8_runCompressors : GoodIn wsX8_step (wsV RX8 184 RX8 yX8_runCompressors wsX8_runCompressors) := goodIn_app (goodIn_of _ (by decide +kernel)) ggX8_step_X8_runCompressors
set_option maxRecDepth 20000 in
theorem ggX8_step_X8_wantOfWarmth : GoodIn wsX8_step wsX8_wantOfWarmth := goodIn_r _ [18] rfl (by decide +kernel)
set_option maxRecDepth 20000 in
theorem gX8_step_X8_wantOfWarmth : GoodIn wsX8_step (va_wsS RX8 187 yX8_wantOfWarmth wsX8_wantOfWarmth) := goodIn_app (goodIn_of _ (by decide +kernel)) ggX8_step_X8_wantOfWarmth
set_option maxRecDepth 20000 in
theorem ggX8_step_X8_passHour : GoodIn wsX8_step wsX8_passHour := goodIn_r _ [22, 2, 13, 23, 24, 25, 26, 27, 28, 29, 30, 5, 31, 32, 33, 34, 35, 36, 37, 38, 39, 40, 41, 42, 43, 44, 45, 46, 47, 48, 49, 50, 51, 52, 53, 54, 55, 56, 57, 58, 59, 60, 61, 62, 63, 64, 65, 66, 67, 68, 69, 70, 71, 72, 73, 74, 75, 76, 77, 78, 79, 80, 81, 82, 83, 84, 85, 86, 87, 88, 89, 90, 91, 92, 93, 94, 95, 96, 97, 98, 99, 100, 101, 102, 103, 104, 105, 106, 107, 108, 109, 110, 111, 112, 113, 114, 115, 116, 117, 118, 119, 120, 121, 122, 123, 124, 125, 126, 127, 128, 129, 130, 131, 132, 133, 134, 135, 136, 137, 138, 139, 140, 141, 142, 143, 144, 145, 146, 147, 148, 149, 150, 151, 152, 153, 154, 155, 156, 157, 158, 159, 160, 161, 162] rfl (by decide +kernel)
set_option maxRecDepth 20000 in
theorem gX8_step_X8_passHour : GoodIn wsX8_step (wsV RX8 191 RX8 yX8_passHour wsX8_passHour) := goodIn_app (goodIn_of _ (by decide +kernel)) ggX8_step_X8_passHour
theorem q9_dX8_step_0 : (decode cX8_step 0 = .ok (.iload_n 1, 1)) ∧ (decode cX8_step 1 = .ok (.invokestatic 181, 3)) ∧ (decode cX8_step 4 = .ok (.ifCond .eq 25, 3)) ∧ (decode cX8_step 7 = .ok (.iload_n 2, 1)) ∧ (decode cX8_step 8 = .ok (.ifCond .lt 21, 3)) ∧ (decode cX8_step 11 = .ok (.iload_n 2, 1)) ∧ (decode cX8_step 12 = .ok (.aload_n 0, 1)) ∧ (decode cX8_step 13 = .ok (.getfield 75, 3)) ∧ (decode cX8_step 16 = .ok (.if_icmp .gt 13, 3)) ∧ (decode cX8_step 19 = .ok (.aload_n 0, 1)) := by decide +kernel
theorem dX8_step_0 : decode cX8_step 0 = .ok (.iload_n 1, 1) := q9_dX8_step_0.1
theorem dX8_step_1 : decode cX8_step 1 = .ok (.invokestatic 181, 3) := q9_dX8_step_0.2.1
theorem dX8_step_4 : decode cX8_step 4 = .ok (.ifCond .eq 25, 3) := q9_dX8_step_0.2.2.1
theorem dX8_step_7 : decode cX8_step 7 = .ok (.iload_n 2, 1) := q9_dX8_step_0.2.2.2.1
theorem dX8_step_8 : decode cX8_step 8 = .ok (.ifCond .lt 21, 3) := q9_dX8_step_0.2.2.2.2.1
theorem dX8_step_11 : decode cX8_step 11 = .ok (.iload_n 2, 1) := q9_dX8_step_0.2.2.2.2.2.1
theorem dX8_step_12 : decode cX8_step 12 = .ok (.aload_n 0, 1) := q9_dX8_step_0.2.2.2.2.2.2.1
theorem dX8_step_13 : decode cX8_step 13 = .ok (.getfield 75, 3) := q9_dX8_step_0.2.2.2.2.2.2.2.1
theorem dX8_step_16 : decode cX8_step 16 = .ok (.if_icmp .gt 13, 3) := q9_dX8_step_0.2.2.2.2.2.2.2.2.1
theorem dX8_step_19 : decode cX8_step 19 = .ok (.aload_n 0, 1) := q9_dX8_step_0.2.2.2.2.2.2.2.2.2
theorem q9_dX8_step_20 : (decode cX8_step 20 = .ok (.getfield 96, 3)) ∧ (decode cX8_step 23 = .ok (.sipush 990, 3)) ∧ (decode cX8_step 26 = .ok (.if_icmp .lt 5, 3)) ∧ (decode cX8_step 29 = .ok (.iconst (-1), 1)) ∧ (decode cX8_step 30 = .ok (.ireturn, 1)) ∧ (decode cX8_step 31 = .ok (.aload_n 0, 1)) ∧ (decode cX8_step 32 = .ok (.iload_n 2, 1)) ∧ (decode cX8_step 33 = .ok (.invokevirtual 184, 3)) ∧ (decode cX8_step 36 = .ok (.iload_n 1, 1)) ∧ (decode cX8_step 37 = .ok (.invokestatic 187, 3)) := by decide +kernel
theorem dX8_step_20 : decode cX8_step 20 = .ok (.getfield 96, 3) := q9_dX8_step_20.1
theorem dX8_step_23 : decode cX8_step 23 = .ok (.sipush 990, 3) := q9_dX8_step_20.2.1
theorem dX8_step_26 : decode cX8_step 26 = .ok (.if_icmp .lt 5, 3) := q9_dX8_step_20.2.2.1
theorem dX8_step_29 : decode cX8_step 29 = .ok (.iconst (-1), 1) := q9_dX8_step_20.2.2.2.1
theorem dX8_step_30 : decode cX8_step 30 = .ok (.ireturn, 1) := q9_dX8_step_20.2.2.2.2.1
theorem dX8_step_31 : decode cX8_step 31 = .ok (.aload_n 0, 1) := q9_dX8_step_20.2.2.2.2.2.1
theorem dX8_step_32 : decode cX8_step 32 = .ok (.iload_n 2, 1) := q9_dX8_step_20.2.2.2.2.2.2.1
theorem dX8_step_33 : decode cX8_step 33 = .ok (.invokevirtual 184, 3) := q9_dX8_step_20.2.2.2.2.2.2.2.1
theorem dX8_step_36 : decode cX8_step 36 = .ok (.iload_n 1, 1) := q9_dX8_step_20.2.2.2.2.2.2.2.2.1
theorem dX8_step_37 : decode cX8_step 37 = .ok (.invokestatic 187, 3) := q9_dX8_step_20.2.2.2.2.2.2.2.2.2
theorem q9_dX8_step_40 : (decode cX8_step 40 = .ok (.istore_n 3, 1)) ∧ (decode cX8_step 41 = .ok (.aload_n 0, 1)) ∧ (decode cX8_step 42 = .ok (.iconst 0, 1)) ∧ (decode cX8_step 43 = .ok (.iload_n 3, 1)) ∧ (decode cX8_step 44 = .ok (.invokevirtual 191, 3)) ∧ (decode cX8_step 47 = .ok (.aload_n 0, 1)) ∧ (decode cX8_step 48 = .ok (.iconst 1, 1)) ∧ (decode cX8_step 49 = .ok (.iload_n 3, 1)) ∧ (decode cX8_step 50 = .ok (.invokevirtual 191, 3)) ∧ (decode cX8_step 53 = .ok (.aload_n 0, 1)) := by decide +kernel
theorem dX8_step_40 : decode cX8_step 40 = .ok (.istore_n 3, 1) := q9_dX8_step_40.1
theorem dX8_step_41 : decode cX8_step 41 = .ok (.aload_n 0, 1) := q9_dX8_step_40.2.1
theorem dX8_step_42 : decode cX8_step 42 = .ok (.iconst 0, 1) := q9_dX8_step_40.2.2.1
theorem dX8_step_43 : decode cX8_step 43 = .ok (.iload_n 3, 1) := q9_dX8_step_40.2.2.2.1
theorem dX8_step_44 : decode cX8_step 44 = .ok (.invokevirtual 191, 3) := q9_dX8_step_40.2.2.2.2.1
theorem dX8_step_47 : decode cX8_step 47 = .ok (.aload_n 0, 1) := q9_dX8_step_40.2.2.2.2.2.1
theorem dX8_step_48 : decode cX8_step 48 = .ok (.iconst 1, 1) := q9_dX8_step_40.2.2.2.2.2.2.1
theorem dX8_step_49 : decode cX8_step 49 = .ok (.iload_n 3, 1) := q9_dX8_step_40.2.2.2.2.2.2.2.1
theorem dX8_step_50 : decode cX8_step 50 = .ok (.invokevirtual 191, 3) := q9_dX8_step_40.2.2.2.2.2.2.2.2.1
theorem dX8_step_53 : decode cX8_step 53 = .ok (.aload_n 0, 1) := q9_dX8_step_40.2.2.2.2.2.2.2.2.2
theorem q9_dX8_step_54 : (decode cX8_step 54 = .ok (.dup, 1)) ∧ (decode cX8_step 55 = .ok (.getfield 96, 3)) ∧ (decode cX8_step 58 = .ok (.iconst 1, 1)) ∧ (decode cX8_step 59 = .ok (.iadd, 1)) ∧ (decode cX8_step 60 = .ok (.putfield 96, 3)) ∧ (decode cX8_step 63 = .ok (.aload_n 0, 1)) ∧ (decode cX8_step 64 = .ok (.getfield 96, 3)) ∧ (decode cX8_step 67 = .ok (.ireturn, 1)) := by decide +kernel
theorem dX8_step_54 : decode cX8_step 54 = .ok (.dup, 1) := q9_dX8_step_54.1
theorem dX8_step_55 : decode cX8_step 55 = .ok (.getfield 96, 3) := q9_dX8_step_54.2.1
theorem dX8_step_58 : decode cX8_step 58 = .ok (.iconst 1, 1) := q9_dX8_step_54.2.2.1
theorem dX8_step_59 : decode cX8_step 59 = .ok (.iadd, 1) := q9_dX8_step_54.2.2.2.1
theorem dX8_step_60 : decode cX8_step 60 = .ok (.putfield 96, 3) := q9_dX8_step_54.2.2.2.2.1
theorem dX8_step_63 : decode cX8_step 63 = .ok (.aload_n 0, 1) := q9_dX8_step_54.2.2.2.2.2.1
theorem dX8_step_64 : decode cX8_step 64 = .ok (.getfield 96, 3) := q9_dX8_step_54.2.2.2.2.2.2.1
theorem dX8_step_67 : decode cX8_step 67 = .ok (.ireturn, 1) := q9_dX8_step_54.2.2.2.2.2.2.2
set_option maxRecDepth 20000 in
theorem ggX8_plan_X8_isWarmth : GoodIn wsX8_plan wsX8_isWarmth := goodIn_r _ [10] rfl (by decide +kernel)
set_option maxRecDepth 20000 in
theorem gX8_plan_X8_isWarmth : GoodIn wsX8_plan (va_wsS RX8 181 yX8_isWarmth wsX8_isWarmth) := goodIn_app (goodIn_of _ (by decide +kernel)) ggX8_plan_X8_isWarmth
set_option maxRecDepth 20000 in
theorem ggX8_plan_X3_begin : GoodIn wsX8_plan wsX3_begin := goodIn_r _ [15, 16, 121, 122, 123, 124, 125, 126, 127, 128, 129] rfl (by decide +kernel)
set_option maxRecDepth 20000 in
theorem gX8_plan_X3_begin : GoodIn wsX8_plan (wsV RX8 194 RX3 yX3_begin wsX3_begin) := goodIn_app (goodIn_of _ (by decide +kernel)) ggX8_plan_X3_begin
set_option maxRecDepth 20000 in
theorem ggX8_plan_X8_standingAt : GoodIn wsX8_plan wsX8_standingAt := goodIn_r _ [20, 21, 22, 23, 9, 24, 25, 26, 27, 28, 29, 30, 31, 32, 33, 34, 35, 36, 37, 38, 39, 40, 41, 42, 43, 44, 45, 46, 47, 48, 49, 50, 51, 130, 131, 132, 133, 134, 135, 136, 137, 138, 139, 103, 104, 105, 106, 107, 108, 109, 110, 111, 112, 113, 114, 115, 116, 117, 118, 119, 120, 140, 141, 142, 143, 144, 145, 146, 147, 148, 149, 150] rfl (by decide +kernel)
set_option maxRecDepth 20000 in
theorem gX8_plan_X8_standingAt : GoodIn wsX8_plan (wsV RX8 197 RX8 yX8_standingAt wsX8_standingAt) := goodIn_app (goodIn_of _ (by decide +kernel)) ggX8_plan_X8_standingAt
set_option maxRecDepth 20000 in
theorem ggX8_plan_X8_heatOf : GoodIn wsX8_plan wsX8_heatOf := goodIn_r _ [54, 55, 56, 57, 58, 9, 59, 60, 61, 62, 140, 141, 142, 143, 144, 145, 146, 147, 148, 149] rfl (by decide +kernel)
set_option maxRecDepth 20000 in
theorem gX8_plan_X8_heatOf : GoodIn wsX8_plan (va_wsS RX8 201 yX8_heatOf wsX8_heatOf) := goodIn_app (goodIn_of _ (by decide +kernel)) ggX8_plan_X8_heatOf
set_option maxRecDepth 20000 in
theorem ggX8_plan_X8_wantOfWarmth : GoodIn wsX8_plan wsX8_wantOfWarmth := goodIn_r _ [65] rfl (by decide +kernel)
set_option maxRecDepth 20000 in
theorem gX8_plan_X8_wantOfWarmth : GoodIn wsX8_plan (va_wsS RX8 187 yX8_wantOfWarmth wsX8_wantOfWarmth) := goodIn_app (goodIn_of _ (by decide +kernel)) ggX8_plan_X8_wantOfWarmth
set_option maxRecDepth 20000 in
theorem ggX8_plan_X3_addHour : GoodIn wsX8_plan wsX3_addHour := goodIn_r _ [69, 16, 70, 71, 61, 9, 62, 121, 122, 123, 124, 125, 126, 127, 128, 129] rfl (by decide +kernel)
set_option maxRecDepth 20000 in
theorem gX8_plan_X3_addHour : GoodIn wsX8_plan (wsV RX8 205 RX3 yX3_addHour wsX3_addHour) := goodIn_app (goodIn_of _ (by decide +kernel)) ggX8_plan_X3_addHour
set_option maxRecDepth 20000 in
theorem ggX8_plan_X3_solve : GoodIn wsX8_plan wsX3_solve := goodIn_r _ [75, 76, 77, 78, 79, 16, 80, 81, 82, 83, 14, 84, 85, 86, 87, 88, 89, 90, 91, 92, 71, 70, 61, 9, 62, 93, 94, 95, 96, 97, 98, 99, 100, 101, 102, 121, 122, 123, 124, 125, 126, 127, 128, 129] rfl (by decide +kernel)
set_option maxRecDepth 20000 in
theorem gX8_plan_X3_solve : GoodIn wsX8_plan (wsV RX8 208 RX3 yX3_solve wsX3_solve) := goodIn_app (goodIn_of _ (by decide +kernel)) ggX8_plan_X3_solve
theorem q9_dX8_plan_0 : (decode cX8_plan 0 = .ok (.iload_n 1, 1)) ∧ (decode cX8_plan 1 = .ok (.iconst 1, 1)) ∧ (decode cX8_plan 2 = .ok (.if_icmp .lt 16, 3)) ∧ (decode cX8_plan 5 = .ok (.iload_n 1, 1)) ∧ (decode cX8_plan 6 = .ok (.bipush 8, 2)) ∧ (decode cX8_plan 8 = .ok (.if_icmp .gt 10, 3)) ∧ (decode cX8_plan 11 = .ok (.iload_n 2, 1)) ∧ (decode cX8_plan 12 = .ok (.invokestatic 181, 3)) ∧ (decode cX8_plan 15 = .ok (.ifCond .ne 5, 3)) ∧ (decode cX8_plan 18 = .ok (.iconst (-1), 1)) := by decide +kernel
theorem dX8_plan_0 : decode cX8_plan 0 = .ok (.iload_n 1, 1) := q9_dX8_plan_0.1
theorem dX8_plan_1 : decode cX8_plan 1 = .ok (.iconst 1, 1) := q9_dX8_plan_0.2.1
theorem dX8_plan_2 : decode cX8_plan 2 = .ok (.if_icmp .lt 16, 3) := q9_dX8_plan_0.2.2.1
theorem dX8_plan_5 : decode cX8_plan 5 = .ok (.iload_n 1, 1) := q9_dX8_plan_0.2.2.2.1
theorem dX8_plan_6 : decode cX8_plan 6 = .ok (.bipush 8, 2) := q9_dX8_plan_0.2.2.2.2.1
theorem dX8_plan_8 : decode cX8_plan 8 = .ok (.if_icmp .gt 10, 3) := q9_dX8_plan_0.2.2.2.2.2.1
theorem dX8_plan_11 : decode cX8_plan 11 = .ok (.iload_n 2, 1) := q9_dX8_plan_0.2.2.2.2.2.2.1
theorem dX8_plan_12 : decode cX8_plan 12 = .ok (.invokestatic 181, 3) := q9_dX8_plan_0.2.2.2.2.2.2.2.1
theorem dX8_plan_15 : decode cX8_plan 15 = .ok (.ifCond .ne 5, 3) := q9_dX8_plan_0.2.2.2.2.2.2.2.2.1
theorem dX8_plan_18 : decode cX8_plan 18 = .ok (.iconst (-1), 1) := q9_dX8_plan_0.2.2.2.2.2.2.2.2.2
theorem q9_dX8_plan_19 : (decode cX8_plan 19 = .ok (.ireturn, 1)) ∧ (decode cX8_plan 20 = .ok (.aload_n 0, 1)) ∧ (decode cX8_plan 21 = .ok (.getfield 64, 3)) ∧ (decode cX8_plan 24 = .ok (.invokevirtual 194, 3)) ∧ (decode cX8_plan 27 = .ok (.iconst 0, 1)) ∧ (decode cX8_plan 28 = .ok (.istore_n 3, 1)) ∧ (decode cX8_plan 29 = .ok (.iload_n 3, 1)) ∧ (decode cX8_plan 30 = .ok (.iload_n 1, 1)) ∧ (decode cX8_plan 31 = .ok (.if_icmp .ge 66, 3)) ∧ (decode cX8_plan 34 = .ok (.aload_n 0, 1)) := by decide +kernel
theorem dX8_plan_19 : decode cX8_plan 19 = .ok (.ireturn, 1) := q9_dX8_plan_19.1
theorem dX8_plan_20 : decode cX8_plan 20 = .ok (.aload_n 0, 1) := q9_dX8_plan_19.2.1
theorem dX8_plan_21 : decode cX8_plan 21 = .ok (.getfield 64, 3) := q9_dX8_plan_19.2.2.1
theorem dX8_plan_24 : decode cX8_plan 24 = .ok (.invokevirtual 194, 3) := q9_dX8_plan_19.2.2.2.1
theorem dX8_plan_27 : decode cX8_plan 27 = .ok (.iconst 0, 1) := q9_dX8_plan_19.2.2.2.2.1
theorem dX8_plan_28 : decode cX8_plan 28 = .ok (.istore_n 3, 1) := q9_dX8_plan_19.2.2.2.2.2.1
theorem dX8_plan_29 : decode cX8_plan 29 = .ok (.iload_n 3, 1) := q9_dX8_plan_19.2.2.2.2.2.2.1
theorem dX8_plan_30 : decode cX8_plan 30 = .ok (.iload_n 1, 1) := q9_dX8_plan_19.2.2.2.2.2.2.2.1
theorem dX8_plan_31 : decode cX8_plan 31 = .ok (.if_icmp .ge 66, 3) := q9_dX8_plan_19.2.2.2.2.2.2.2.2.1
theorem dX8_plan_34 : decode cX8_plan 34 = .ok (.aload_n 0, 1) := q9_dX8_plan_19.2.2.2.2.2.2.2.2.2
theorem q9_dX8_plan_35 : (decode cX8_plan 35 = .ok (.getfield 96, 3)) ∧ (decode cX8_plan 38 = .ok (.iload_n 3, 1)) ∧ (decode cX8_plan 39 = .ok (.iadd, 1)) ∧ (decode cX8_plan 40 = .ok (.istore 4, 2)) ∧ (decode cX8_plan 42 = .ok (.aload_n 0, 1)) ∧ (decode cX8_plan 43 = .ok (.iconst 0, 1)) ∧ (decode cX8_plan 44 = .ok (.iload 4, 2)) ∧ (decode cX8_plan 46 = .ok (.invokevirtual 197, 3)) ∧ (decode cX8_plan 49 = .ok (.invokestatic 201, 3)) ∧ (decode cX8_plan 52 = .ok (.aload_n 0, 1)) := by decide +kernel
theorem dX8_plan_35 : decode cX8_plan 35 = .ok (.getfield 96, 3) := q9_dX8_plan_35.1
theorem dX8_plan_38 : decode cX8_plan 38 = .ok (.iload_n 3, 1) := q9_dX8_plan_35.2.1
theorem dX8_plan_39 : decode cX8_plan 39 = .ok (.iadd, 1) := q9_dX8_plan_35.2.2.1
theorem dX8_plan_40 : decode cX8_plan 40 = .ok (.istore 4, 2) := q9_dX8_plan_35.2.2.2.1
theorem dX8_plan_42 : decode cX8_plan 42 = .ok (.aload_n 0, 1) := q9_dX8_plan_35.2.2.2.2.1
theorem dX8_plan_43 : decode cX8_plan 43 = .ok (.iconst 0, 1) := q9_dX8_plan_35.2.2.2.2.2.1
theorem dX8_plan_44 : decode cX8_plan 44 = .ok (.iload 4, 2) := q9_dX8_plan_35.2.2.2.2.2.2.1
theorem dX8_plan_46 : decode cX8_plan 46 = .ok (.invokevirtual 197, 3) := q9_dX8_plan_35.2.2.2.2.2.2.2.1
theorem dX8_plan_49 : decode cX8_plan 49 = .ok (.invokestatic 201, 3) := q9_dX8_plan_35.2.2.2.2.2.2.2.2.1
theorem dX8_plan_52 : decode cX8_plan 52 = .ok (.aload_n 0, 1) := q9_dX8_plan_35.2.2.2.2.2.2.2.2.2
theorem q9_dX8_plan_53 : (decode cX8_plan 53 = .ok (.iconst 1, 1)) ∧ (decode cX8_plan 54 = .ok (.iload 4, 2)) ∧ (decode cX8_plan 56 = .ok (.invokevirtual 197, 3)) ∧ (decode cX8_plan 59 = .ok (.invokestatic 201, 3)) ∧ (decode cX8_plan 62 = .ok (.iadd, 1)) ∧ (decode cX8_plan 63 = .ok (.istore 5, 2)) ∧ (decode cX8_plan 65 = .ok (.aload_n 0, 1)) ∧ (decode cX8_plan 66 = .ok (.getfield 64, 3)) ∧ (decode cX8_plan 69 = .ok (.iload 5, 2)) ∧ (decode cX8_plan 71 = .ok (.iconst 2, 1)) := by decide +kernel
theorem dX8_plan_53 : decode cX8_plan 53 = .ok (.iconst 1, 1) := q9_dX8_plan_53.1
theorem dX8_plan_54 : decode cX8_plan 54 = .ok (.iload 4, 2) := q9_dX8_plan_53.2.1
theorem dX8_plan_56 : decode cX8_plan 56 = .ok (.invokevirtual 197, 3) := q9_dX8_plan_53.2.2.1
theorem dX8_plan_59 : decode cX8_plan 59 = .ok (.invokestatic 201, 3) := q9_dX8_plan_53.2.2.2.1
theorem dX8_plan_62 : decode cX8_plan 62 = .ok (.iadd, 1) := q9_dX8_plan_53.2.2.2.2.1
theorem dX8_plan_63 : decode cX8_plan 63 = .ok (.istore 5, 2) := q9_dX8_plan_53.2.2.2.2.2.1
theorem dX8_plan_65 : decode cX8_plan 65 = .ok (.aload_n 0, 1) := q9_dX8_plan_53.2.2.2.2.2.2.1
theorem dX8_plan_66 : decode cX8_plan 66 = .ok (.getfield 64, 3) := q9_dX8_plan_53.2.2.2.2.2.2.2.1
theorem dX8_plan_69 : decode cX8_plan 69 = .ok (.iload 5, 2) := q9_dX8_plan_53.2.2.2.2.2.2.2.2.1
theorem dX8_plan_71 : decode cX8_plan 71 = .ok (.iconst 2, 1) := q9_dX8_plan_53.2.2.2.2.2.2.2.2.2
theorem q9_dX8_plan_72 : (decode cX8_plan 72 = .ok (.iload_n 2, 1)) ∧ (decode cX8_plan 73 = .ok (.invokestatic 187, 3)) ∧ (decode cX8_plan 76 = .ok (.imul, 1)) ∧ (decode cX8_plan 77 = .ok (.iadd, 1)) ∧ (decode cX8_plan 78 = .ok (.aload_n 0, 1)) ∧ (decode cX8_plan 79 = .ok (.getfield 32, 3)) ∧ (decode cX8_plan 82 = .ok (.iload 4, 2)) ∧ (decode cX8_plan 84 = .ok (.bipush 24, 2)) ∧ (decode cX8_plan 86 = .ok (.irem, 1)) ∧ (decode cX8_plan 87 = .ok (.iaload, 1)) := by decide +kernel
theorem dX8_plan_72 : decode cX8_plan 72 = .ok (.iload_n 2, 1) := q9_dX8_plan_72.1
theorem dX8_plan_73 : decode cX8_plan 73 = .ok (.invokestatic 187, 3) := q9_dX8_plan_72.2.1
theorem dX8_plan_76 : decode cX8_plan 76 = .ok (.imul, 1) := q9_dX8_plan_72.2.2.1
theorem dX8_plan_77 : decode cX8_plan 77 = .ok (.iadd, 1) := q9_dX8_plan_72.2.2.2.1
theorem dX8_plan_78 : decode cX8_plan 78 = .ok (.aload_n 0, 1) := q9_dX8_plan_72.2.2.2.2.1
theorem dX8_plan_79 : decode cX8_plan 79 = .ok (.getfield 32, 3) := q9_dX8_plan_72.2.2.2.2.2.1
theorem dX8_plan_82 : decode cX8_plan 82 = .ok (.iload 4, 2) := q9_dX8_plan_72.2.2.2.2.2.2.1
theorem dX8_plan_84 : decode cX8_plan 84 = .ok (.bipush 24, 2) := q9_dX8_plan_72.2.2.2.2.2.2.2.1
theorem dX8_plan_86 : decode cX8_plan 86 = .ok (.irem, 1) := q9_dX8_plan_72.2.2.2.2.2.2.2.2.1
theorem dX8_plan_87 : decode cX8_plan 87 = .ok (.iaload, 1) := q9_dX8_plan_72.2.2.2.2.2.2.2.2.2
theorem q9_dX8_plan_88 : (decode cX8_plan 88 = .ok (.invokevirtual 205, 3)) ∧ (decode cX8_plan 91 = .ok (.iinc 3 1, 3)) ∧ (decode cX8_plan 94 = .ok (.goto (-65), 3)) ∧ (decode cX8_plan 97 = .ok (.aload_n 0, 1)) ∧ (decode cX8_plan 98 = .ok (.getfield 64, 3)) ∧ (decode cX8_plan 101 = .ok (.aload_n 0, 1)) ∧ (decode cX8_plan 102 = .ok (.getfield 68, 3)) ∧ (decode cX8_plan 105 = .ok (.aload_n 0, 1)) ∧ (decode cX8_plan 106 = .ok (.getfield 72, 3)) ∧ (decode cX8_plan 109 = .ok (.aload_n 0, 1)) := by decide +kernel
theorem dX8_plan_88 : decode cX8_plan 88 = .ok (.invokevirtual 205, 3) := q9_dX8_plan_88.1
theorem dX8_plan_91 : decode cX8_plan 91 = .ok (.iinc 3 1, 3) := q9_dX8_plan_88.2.1
theorem dX8_plan_94 : decode cX8_plan 94 = .ok (.goto (-65), 3) := q9_dX8_plan_88.2.2.1
theorem dX8_plan_97 : decode cX8_plan 97 = .ok (.aload_n 0, 1) := q9_dX8_plan_88.2.2.2.1
theorem dX8_plan_98 : decode cX8_plan 98 = .ok (.getfield 64, 3) := q9_dX8_plan_88.2.2.2.2.1
theorem dX8_plan_101 : decode cX8_plan 101 = .ok (.aload_n 0, 1) := q9_dX8_plan_88.2.2.2.2.2.1
theorem dX8_plan_102 : decode cX8_plan 102 = .ok (.getfield 68, 3) := q9_dX8_plan_88.2.2.2.2.2.2.1
theorem dX8_plan_105 : decode cX8_plan 105 = .ok (.aload_n 0, 1) := q9_dX8_plan_88.2.2.2.2.2.2.2.1
theorem dX8_plan_106 : decode cX8_plan 106 = .ok (.getfield 72, 3) := q9_dX8_plan_88.2.2.2.2.2.2.2.2.1
theorem dX8_plan_109 : decode cX8_plan 109 = .ok (.aload_n 0, 1) := q9_dX8_plan_88.2.2.2.2.2.2.2.2.2
theorem q9_dX8_plan_110 : (decode cX8_plan 110 = .ok (.getfield 75, 3)) ∧ (decode cX8_plan 113 = .ok (.invokevirtual 208, 3)) ∧ (decode cX8_plan 116 = .ok (.ireturn, 1)) := by decide +kernel
theorem dX8_plan_110 : decode cX8_plan 110 = .ok (.getfield 75, 3) := q9_dX8_plan_110.1
theorem dX8_plan_113 : decode cX8_plan 113 = .ok (.invokevirtual 208, 3) := q9_dX8_plan_110.2.1
theorem dX8_plan_116 : decode cX8_plan 116 = .ok (.ireturn, 1) := q9_dX8_plan_110.2.2
set_option maxRecDepth 20000 in
theorem ggX8_planned_X8_isBelow : GoodIn wsX8_planned wsX8_isBelow := goodIn_r _ [7] rfl (by decide +kernel)
set_option maxRecDepth 20000 in
theorem gX8_planned_X8_isBelow : GoodIn wsX8_planned (va_wsS RX8 88 yX8_isBelow wsX8_isBelow) := goodIn_app (goodIn_of _ (by decide +kernel)) ggX8_planned_X8_isBelow
theorem q9_dX8_planned_0 : (decode cX8_planned 0 = .ok (.iload_n 1, 1)) ∧ (decode cX8_planned 1 = .ok (.aload_n 0, 1)) ∧ (decode cX8_planned 2 = .ok (.getfield 64, 3)) ∧ (decode cX8_planned 5 = .ok (.getfield 212, 3)) ∧ (decode cX8_planned 8 = .ok (.invokestatic 88, 3)) ∧ (decode cX8_planned 11 = .ok (.ifCond .eq 15, 3)) ∧ (decode cX8_planned 14 = .ok (.aload_n 0, 1)) ∧ (decode cX8_planned 15 = .ok (.getfield 64, 3)) ∧ (decode cX8_planned 18 = .ok (.getfield 215, 3)) ∧ (decode cX8_planned 21 = .ok (.iload_n 1, 1)) := by decide +kernel
theorem dX8_planned_0 : decode cX8_planned 0 = .ok (.iload_n 1, 1) := q9_dX8_planned_0.1
theorem dX8_planned_1 : decode cX8_planned 1 = .ok (.aload_n 0, 1) := q9_dX8_planned_0.2.1
theorem dX8_planned_2 : decode cX8_planned 2 = .ok (.getfield 64, 3) := q9_dX8_planned_0.2.2.1
theorem dX8_planned_5 : decode cX8_planned 5 = .ok (.getfield 212, 3) := q9_dX8_planned_0.2.2.2.1
theorem dX8_planned_8 : decode cX8_planned 8 = .ok (.invokestatic 88, 3) := q9_dX8_planned_0.2.2.2.2.1
theorem dX8_planned_11 : decode cX8_planned 11 = .ok (.ifCond .eq 15, 3) := q9_dX8_planned_0.2.2.2.2.2.1
theorem dX8_planned_14 : decode cX8_planned 14 = .ok (.aload_n 0, 1) := q9_dX8_planned_0.2.2.2.2.2.2.1
theorem dX8_planned_15 : decode cX8_planned 15 = .ok (.getfield 64, 3) := q9_dX8_planned_0.2.2.2.2.2.2.2.1
theorem dX8_planned_18 : decode cX8_planned 18 = .ok (.getfield 215, 3) := q9_dX8_planned_0.2.2.2.2.2.2.2.2.1
theorem dX8_planned_21 : decode cX8_planned 21 = .ok (.iload_n 1, 1) := q9_dX8_planned_0.2.2.2.2.2.2.2.2.2
theorem q9_dX8_planned_22 : (decode cX8_planned 22 = .ok (.iaload, 1)) ∧ (decode cX8_planned 23 = .ok (.goto 4, 3)) ∧ (decode cX8_planned 26 = .ok (.iconst (-1), 1)) ∧ (decode cX8_planned 27 = .ok (.ireturn, 1)) := by decide +kernel
theorem dX8_planned_22 : decode cX8_planned 22 = .ok (.iaload, 1) := q9_dX8_planned_22.1
theorem dX8_planned_23 : decode cX8_planned 23 = .ok (.goto 4, 3) := q9_dX8_planned_22.2.1
theorem dX8_planned_26 : decode cX8_planned 26 = .ok (.iconst (-1), 1) := q9_dX8_planned_22.2.2.1
theorem dX8_planned_27 : decode cX8_planned 27 = .ok (.ireturn, 1) := q9_dX8_planned_22.2.2.2
set_option maxRecDepth 20000 in
theorem ggX8_part_X8_isBelow : GoodIn wsX8_part wsX8_isBelow := goodIn_r _ [5] rfl (by decide +kernel)
set_option maxRecDepth 20000 in
theorem gX8_part_X8_isBelow : GoodIn wsX8_part (va_wsS RX8 88 yX8_isBelow wsX8_isBelow) := goodIn_app (goodIn_of _ (by decide +kernel)) ggX8_part_X8_isBelow
set_option maxRecDepth 20000 in
theorem ggX8_part_X8_countInState : GoodIn wsX8_part wsX8_countInState := goodIn_r _ [9, 10, 11, 12, 13, 14, 15, 4, 16, 17, 22, 23, 24, 25, 26, 27, 28, 29, 30, 31, 32, 33, 34, 35, 36, 37, 38, 39, 40, 41, 42, 43, 44, 45, 46, 47, 48, 49] rfl (by decide +kernel)
set_option maxRecDepth 20000 in
theorem gX8_part_X8_countInState : GoodIn wsX8_part (wsV RX8 219 RX8 yX8_countInState wsX8_countInState) := goodIn_app (goodIn_of _ (by decide +kernel)) ggX8_part_X8_countInState
set_option maxRecDepth 20000 in
theorem ggX8_part_X8_partOf : GoodIn wsX8_part wsX8_partOf := goodIn_r _ [21, 6, 7, 8, 4, 9, 10, 11, 12, 13, 14, 15, 16, 17, 22, 23, 24, 25, 26, 27, 28, 29, 30, 31, 32, 33, 34, 35, 36, 37, 38, 39, 40, 41, 42, 43, 44, 45, 46, 47, 48, 49] rfl (by decide +kernel)
set_option maxRecDepth 20000 in
theorem gX8_part_X8_partOf : GoodIn wsX8_part (wsV RX8 222 RX8 yX8_partOf wsX8_partOf) := goodIn_app (goodIn_of _ (by decide +kernel)) ggX8_part_X8_partOf
theorem q9_dX8_part_0 : (decode cX8_part 0 = .ok (.iload_n 1, 1)) ∧ (decode cX8_part 1 = .ok (.bipush 6, 2)) ∧ (decode cX8_part 3 = .ok (.invokestatic 88, 3)) ∧ (decode cX8_part 6 = .ok (.ifCond .eq 13, 3)) ∧ (decode cX8_part 9 = .ok (.iload_n 2, 1)) ∧ (decode cX8_part 10 = .ok (.ifCond .lt 9, 3)) ∧ (decode cX8_part 13 = .ok (.iload_n 2, 1)) ∧ (decode cX8_part 14 = .ok (.ldc 218, 2)) ∧ (decode cX8_part 16 = .ok (.if_icmp .le 5, 3)) ∧ (decode cX8_part 19 = .ok (.iconst (-1), 1)) := by decide +kernel
theorem dX8_part_0 : decode cX8_part 0 = .ok (.iload_n 1, 1) := q9_dX8_part_0.1
theorem dX8_part_1 : decode cX8_part 1 = .ok (.bipush 6, 2) := q9_dX8_part_0.2.1
theorem dX8_part_3 : decode cX8_part 3 = .ok (.invokestatic 88, 3) := q9_dX8_part_0.2.2.1
theorem dX8_part_6 : decode cX8_part 6 = .ok (.ifCond .eq 13, 3) := q9_dX8_part_0.2.2.2.1
theorem dX8_part_9 : decode cX8_part 9 = .ok (.iload_n 2, 1) := q9_dX8_part_0.2.2.2.2.1
theorem dX8_part_10 : decode cX8_part 10 = .ok (.ifCond .lt 9, 3) := q9_dX8_part_0.2.2.2.2.2.1
theorem dX8_part_13 : decode cX8_part 13 = .ok (.iload_n 2, 1) := q9_dX8_part_0.2.2.2.2.2.2.1
theorem dX8_part_14 : decode cX8_part 14 = .ok (.ldc 218, 2) := q9_dX8_part_0.2.2.2.2.2.2.2.1
theorem dX8_part_16 : decode cX8_part 16 = .ok (.if_icmp .le 5, 3) := q9_dX8_part_0.2.2.2.2.2.2.2.2.1
theorem dX8_part_19 : decode cX8_part 19 = .ok (.iconst (-1), 1) := q9_dX8_part_0.2.2.2.2.2.2.2.2.2
theorem q9_dX8_part_20 : (decode cX8_part 20 = .ok (.ireturn, 1)) ∧ (decode cX8_part 21 = .ok (.iconst 0, 1)) ∧ (decode cX8_part 22 = .ok (.istore_n 3, 1)) ∧ (decode cX8_part 23 = .ok (.iconst 0, 1)) ∧ (decode cX8_part 24 = .ok (.istore 4, 2)) ∧ (decode cX8_part 26 = .ok (.iload 4, 2)) ∧ (decode cX8_part 28 = .ok (.bipush 6, 2)) ∧ (decode cX8_part 30 = .ok (.if_icmp .ge 19, 3)) ∧ (decode cX8_part 33 = .ok (.iload_n 3, 1)) ∧ (decode cX8_part 34 = .ok (.aload_n 0, 1)) := by decide +kernel
theorem dX8_part_20 : decode cX8_part 20 = .ok (.ireturn, 1) := q9_dX8_part_20.1
theorem dX8_part_21 : decode cX8_part 21 = .ok (.iconst 0, 1) := q9_dX8_part_20.2.1
theorem dX8_part_22 : decode cX8_part 22 = .ok (.istore_n 3, 1) := q9_dX8_part_20.2.2.1
theorem dX8_part_23 : decode cX8_part 23 = .ok (.iconst 0, 1) := q9_dX8_part_20.2.2.2.1
theorem dX8_part_24 : decode cX8_part 24 = .ok (.istore 4, 2) := q9_dX8_part_20.2.2.2.2.1
theorem dX8_part_26 : decode cX8_part 26 = .ok (.iload 4, 2) := q9_dX8_part_20.2.2.2.2.2.1
theorem dX8_part_28 : decode cX8_part 28 = .ok (.bipush 6, 2) := q9_dX8_part_20.2.2.2.2.2.2.1
theorem dX8_part_30 : decode cX8_part 30 = .ok (.if_icmp .ge 19, 3) := q9_dX8_part_20.2.2.2.2.2.2.2.1
theorem dX8_part_33 : decode cX8_part 33 = .ok (.iload_n 3, 1) := q9_dX8_part_20.2.2.2.2.2.2.2.2.1
theorem dX8_part_34 : decode cX8_part 34 = .ok (.aload_n 0, 1) := q9_dX8_part_20.2.2.2.2.2.2.2.2.2
theorem q9_dX8_part_35 : (decode cX8_part 35 = .ok (.iload 4, 2)) ∧ (decode cX8_part 37 = .ok (.iconst 1, 1)) ∧ (decode cX8_part 38 = .ok (.invokevirtual 219, 3)) ∧ (decode cX8_part 41 = .ok (.iadd, 1)) ∧ (decode cX8_part 42 = .ok (.istore_n 3, 1)) ∧ (decode cX8_part 43 = .ok (.iinc 4 1, 3)) ∧ (decode cX8_part 46 = .ok (.goto (-20), 3)) ∧ (decode cX8_part 49 = .ok (.aload_n 0, 1)) ∧ (decode cX8_part 50 = .ok (.iload_n 1, 1)) ∧ (decode cX8_part 51 = .ok (.iload_n 2, 1)) := by decide +kernel
theorem dX8_part_35 : decode cX8_part 35 = .ok (.iload 4, 2) := q9_dX8_part_35.1
theorem dX8_part_37 : decode cX8_part 37 = .ok (.iconst 1, 1) := q9_dX8_part_35.2.1
theorem dX8_part_38 : decode cX8_part 38 = .ok (.invokevirtual 219, 3) := q9_dX8_part_35.2.2.1
theorem dX8_part_41 : decode cX8_part 41 = .ok (.iadd, 1) := q9_dX8_part_35.2.2.2.1
theorem dX8_part_42 : decode cX8_part 42 = .ok (.istore_n 3, 1) := q9_dX8_part_35.2.2.2.2.1
theorem dX8_part_43 : decode cX8_part 43 = .ok (.iinc 4 1, 3) := q9_dX8_part_35.2.2.2.2.2.1
theorem dX8_part_46 : decode cX8_part 46 = .ok (.goto (-20), 3) := q9_dX8_part_35.2.2.2.2.2.2.1
theorem dX8_part_49 : decode cX8_part 49 = .ok (.aload_n 0, 1) := q9_dX8_part_35.2.2.2.2.2.2.2.1
theorem dX8_part_50 : decode cX8_part 50 = .ok (.iload_n 1, 1) := q9_dX8_part_35.2.2.2.2.2.2.2.2.1
theorem dX8_part_51 : decode cX8_part 51 = .ok (.iload_n 2, 1) := q9_dX8_part_35.2.2.2.2.2.2.2.2.2
theorem q9_dX8_part_52 : (decode cX8_part 52 = .ok (.iload_n 3, 1)) ∧ (decode cX8_part 53 = .ok (.invokevirtual 222, 3)) ∧ (decode cX8_part 56 = .ok (.ireturn, 1)) := by decide +kernel
theorem dX8_part_52 : decode cX8_part 52 = .ok (.iload_n 3, 1) := q9_dX8_part_52.1
theorem dX8_part_53 : decode cX8_part 53 = .ok (.invokevirtual 222, 3) := q9_dX8_part_52.2.1
theorem dX8_part_56 : decode cX8_part 56 = .ok (.ireturn, 1) := q9_dX8_part_52.2.2
