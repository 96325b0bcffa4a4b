set_option maxRecDepth 20000 in
theorem ggX8_look_X8_sessionOf : GoodIn wsX8_look wsX8_sessionOf := goodIn_r _ [14, 15, 16, 27, 28, 29, 30, 31, 32, 33, 34, 35, 36, 37, 38, 39, 40, 41, 42, 43, 44] rfl (by decide +kernel)
set_option maxRecDepth 20000 in
theorem gX8_look_X8_sessionOf : GoodIn wsX8_look (wsV RX8 131 RX8 yX8_sessionOf wsX8_sessionOf) := goodIn_app (goodIn_of _ (by decide +kernel)) ggX8_look_X8_sessionOf
theorem q9_dX8_look_0 : (decode cX8_look 0 = .ok (.aload_n 0, 1)) ∧ (decode cX8_look 1 = .ok (.iload_n 1, 1)) ∧ (decode cX8_look 2 = .ok (.invokevirtual 131, 3)) ∧ (decode cX8_look 5 = .ok (.astore_n 3, 1)) ∧ (decode cX8_look 6 = .ok (.aload_n 3, 1)) ∧ (decode cX8_look 7 = .ok (.ifnonnull 5, 3)) ∧ (decode cX8_look 10 = .ok (.iconst (-1), 1)) ∧ (decode cX8_look 11 = .ok (.ireturn, 1)) ∧ (decode cX8_look 12 = .ok (.iload_n 2, 1)) ∧ (decode cX8_look 13 = .ok (.tableswitch 96 0 8 #[51, 56, 61, 66, 71, 76, 81, 86, 91], 51)) := by decide +kernel
theorem dX8_look_0 : decode cX8_look 0 = .ok (.aload_n 0, 1) := q9_dX8_look_0.1
theorem dX8_look_1 : decode cX8_look 1 = .ok (.iload_n 1, 1) := q9_dX8_look_0.2.1
theorem dX8_look_2 : decode cX8_look 2 = .ok (.invokevirtual 131, 3) := q9_dX8_look_0.2.2.1
theorem dX8_look_5 : decode cX8_look 5 = .ok (.astore_n 3, 1) := q9_dX8_look_0.2.2.2.1
theorem dX8_look_6 : decode cX8_look 6 = .ok (.aload_n 3, 1) := q9_dX8_look_0.2.2.2.2.1
theorem dX8_look_7 : decode cX8_look 7 = .ok (.ifnonnull 5, 3) := q9_dX8_look_0.2.2.2.2.2.1
theorem dX8_look_10 : decode cX8_look 10 = .ok (.iconst (-1), 1) := q9_dX8_look_0.2.2.2.2.2.2.1
theorem dX8_look_11 : decode cX8_look 11 = .ok (.ireturn, 1) := q9_dX8_look_0.2.2.2.2.2.2.2.1
theorem dX8_look_12 : decode cX8_look 12 = .ok (.iload_n 2, 1) := q9_dX8_look_0.2.2.2.2.2.2.2.2.1
theorem dX8_look_13 : decode cX8_look 13 = .ok (.tableswitch 96 0 8 #[51, 56, 61, 66, 71, 76, 81, 86, 91], 51) := q9_dX8_look_0.2.2.2.2.2.2.2.2.2
theorem q9_dX8_look_64 : (decode cX8_look 64 = .ok (.aload_n 3, 1)) ∧ (decode cX8_look 65 = .ok (.getfield 225, 3)) ∧ (decode cX8_look 68 = .ok (.ireturn, 1)) ∧ (decode cX8_look 69 = .ok (.aload_n 3, 1)) ∧ (decode cX8_look 70 = .ok (.getfield 228, 3)) ∧ (decode cX8_look 73 = .ok (.ireturn, 1)) ∧ (decode cX8_look 74 = .ok (.aload_n 3, 1)) ∧ (decode cX8_look 75 = .ok (.getfield 138, 3)) ∧ (decode cX8_look 78 = .ok (.ireturn, 1)) ∧ (decode cX8_look 79 = .ok (.aload_n 3, 1)) := by decide +kernel
theorem dX8_look_64 : decode cX8_look 64 = .ok (.aload_n 3, 1) := q9_dX8_look_64.1
theorem dX8_look_65 : decode cX8_look 65 = .ok (.getfield 225, 3) := q9_dX8_look_64.2.1
theorem dX8_look_68 : decode cX8_look 68 = .ok (.ireturn, 1) := q9_dX8_look_64.2.2.1
theorem dX8_look_69 : decode cX8_look 69 = .ok (.aload_n 3, 1) := q9_dX8_look_64.2.2.2.1
theorem dX8_look_70 : decode cX8_look 70 = .ok (.getfield 228, 3) := q9_dX8_look_64.2.2.2.2.1
theorem dX8_look_73 : decode cX8_look 73 = .ok (.ireturn, 1) := q9_dX8_look_64.2.2.2.2.2.1
theorem dX8_look_74 : decode cX8_look 74 = .ok (.aload_n 3, 1) := q9_dX8_look_64.2.2.2.2.2.2.1
theorem dX8_look_75 : decode cX8_look 75 = .ok (.getfield 138, 3) := q9_dX8_look_64.2.2.2.2.2.2.2.1
theorem dX8_look_78 : decode cX8_look 78 = .ok (.ireturn, 1) := q9_dX8_look_64.2.2.2.2.2.2.2.2.1
theorem dX8_look_79 : decode cX8_look 79 = .ok (.aload_n 3, 1) := q9_dX8_look_64.2.2.2.2.2.2.2.2.2
theorem q9_dX8_look_80 : (decode cX8_look 80 = .ok (.getfield 141, 3)) ∧ (decode cX8_look 83 = .ok (.ireturn, 1)) ∧ (decode cX8_look 84 = .ok (.aload_n 3, 1)) ∧ (decode cX8_look 85 = .ok (.getfield 135, 3)) ∧ (decode cX8_look 88 = .ok (.ireturn, 1)) ∧ (decode cX8_look 89 = .ok (.aload_n 3, 1)) ∧ (decode cX8_look 90 = .ok (.getfield 231, 3)) ∧ (decode cX8_look 93 = .ok (.ireturn, 1)) ∧ (decode cX8_look 94 = .ok (.aload_n 3, 1)) ∧ (decode cX8_look 95 = .ok (.getfield 147, 3)) := by decide +kernel
theorem dX8_look_80 : decode cX8_look 80 = .ok (.getfield 141, 3) := q9_dX8_look_80.1
theorem dX8_look_83 : decode cX8_look 83 = .ok (.ireturn, 1) := q9_dX8_look_80.2.1
theorem dX8_look_84 : decode cX8_look 84 = .ok (.aload_n 3, 1) := q9_dX8_look_80.2.2.1
theorem dX8_look_85 : decode cX8_look 85 = .ok (.getfield 135, 3) := q9_dX8_look_80.2.2.2.1
theorem dX8_look_88 : decode cX8_look 88 = .ok (.ireturn, 1) := q9_dX8_look_80.2.2.2.2.1
theorem dX8_look_89 : decode cX8_look 89 = .ok (.aload_n 3, 1) := q9_dX8_look_80.2.2.2.2.2.1
theorem dX8_look_90 : decode cX8_look 90 = .ok (.getfield 231, 3) := q9_dX8_look_80.2.2.2.2.2.2.1
theorem dX8_look_93 : decode cX8_look 93 = .ok (.ireturn, 1) := q9_dX8_look_80.2.2.2.2.2.2.2.1
theorem dX8_look_94 : decode cX8_look 94 = .ok (.aload_n 3, 1) := q9_dX8_look_80.2.2.2.2.2.2.2.2.1
theorem dX8_look_95 : decode cX8_look 95 = .ok (.getfield 147, 3) := q9_dX8_look_80.2.2.2.2.2.2.2.2.2
theorem q9_dX8_look_98 : (decode cX8_look 98 = .ok (.ireturn, 1)) ∧ (decode cX8_look 99 = .ok (.aload_n 3, 1)) ∧ (decode cX8_look 100 = .ok (.getfield 153, 3)) ∧ (decode cX8_look 103 = .ok (.ireturn, 1)) ∧ (decode cX8_look 104 = .ok (.aload_n 3, 1)) ∧ (decode cX8_look 105 = .ok (.getfield 234, 3)) ∧ (decode cX8_look 108 = .ok (.ireturn, 1)) ∧ (decode cX8_look 109 = .ok (.iconst (-1), 1)) ∧ (decode cX8_look 110 = .ok (.ireturn, 1)) := by decide +kernel
theorem dX8_look_98 : decode cX8_look 98 = .ok (.ireturn, 1) := q9_dX8_look_98.1
theorem dX8_look_99 : decode cX8_look 99 = .ok (.aload_n 3, 1) := q9_dX8_look_98.2.1
theorem dX8_look_100 : decode cX8_look 100 = .ok (.getfield 153, 3) := q9_dX8_look_98.2.2.1
theorem dX8_look_103 : decode cX8_look 103 = .ok (.ireturn, 1) := q9_dX8_look_98.2.2.2.1
theorem dX8_look_104 : decode cX8_look 104 = .ok (.aload_n 3, 1) := q9_dX8_look_98.2.2.2.2.1
theorem dX8_look_105 : decode cX8_look 105 = .ok (.getfield 234, 3) := q9_dX8_look_98.2.2.2.2.2.1
theorem dX8_look_108 : decode cX8_look 108 = .ok (.ireturn, 1) := q9_dX8_look_98.2.2.2.2.2.2.1
theorem dX8_look_109 : decode cX8_look 109 = .ok (.iconst (-1), 1) := q9_dX8_look_98.2.2.2.2.2.2.2.1
theorem dX8_look_110 : decode cX8_look 110 = .ok (.ireturn, 1) := q9_dX8_look_98.2.2.2.2.2.2.2.2
set_option maxRecDepth 20000 in
theorem ggX8_at_X8_isBelow : GoodIn wsX8_at wsX8_isBelow := goodIn_r _ [4] rfl (by decide +kernel)
set_option maxRecDepth 20000 in
theorem gX8_at_X8_isBelow : GoodIn wsX8_at (va_wsS RX8 88 yX8_isBelow wsX8_isBelow) := goodIn_app (goodIn_of _ (by decide +kernel)) ggX8_at_X8_isBelow
set_option maxRecDepth 20000 in
theorem ggX8_at_X8_numberAt : GoodIn wsX8_at wsX8_numberAt := goodIn_r _ [8, 9, 10, 11, 12, 13, 14, 15, 3, 16, 17, 18, 19, 20, 21, 22, 23, 24, 25, 26, 27, 28, 29, 30, 31, 32, 33, 34, 35, 36, 37, 38, 39, 40, 41, 42, 43, 44, 45, 46, 47, 48, 49, 50, 51, 52, 53, 54, 55, 56, 57, 58, 59, 60, 61, 62, 63, 64, 65, 66, 67, 68, 69, 70, 71, 72, 73, 74] rfl (by decide +kernel)
set_option maxRecDepth 20000 in
theorem gX8_at_X8_numberAt : GoodIn wsX8_at (wsV RX8 237 RX8 yX8_numberAt wsX8_numberAt) := goodIn_app (goodIn_of _ (by decide +kernel)) ggX8_at_X8_numberAt
theorem q9_dX8_at_0 : (decode cX8_at 0 = .ok (.iload_n 1, 1)) ∧ (decode cX8_at 1 = .ok (.iconst 2, 1)) ∧ (decode cX8_at 2 = .ok (.invokestatic 88, 3)) ∧ (decode cX8_at 5 = .ok (.ifCond .eq 12, 3)) ∧ (decode cX8_at 8 = .ok (.aload_n 0, 1)) ∧ (decode cX8_at 9 = .ok (.iload_n 1, 1)) ∧ (decode cX8_at 10 = .ok (.iload_n 2, 1)) ∧ (decode cX8_at 11 = .ok (.invokevirtual 237, 3)) ∧ (decode cX8_at 14 = .ok (.goto 4, 3)) ∧ (decode cX8_at 17 = .ok (.iconst (-1), 1)) := by decide +kernel
theorem dX8_at_0 : decode cX8_at 0 = .ok (.iload_n 1, 1) := q9_dX8_at_0.1
theorem dX8_at_1 : decode cX8_at 1 = .ok (.iconst 2, 1) := q9_dX8_at_0.2.1
theorem dX8_at_2 : decode cX8_at 2 = .ok (.invokestatic 88, 3) := q9_dX8_at_0.2.2.1
theorem dX8_at_5 : decode cX8_at 5 = .ok (.ifCond .eq 12, 3) := q9_dX8_at_0.2.2.2.1
theorem dX8_at_8 : decode cX8_at 8 = .ok (.aload_n 0, 1) := q9_dX8_at_0.2.2.2.2.1
theorem dX8_at_9 : decode cX8_at 9 = .ok (.iload_n 1, 1) := q9_dX8_at_0.2.2.2.2.2.1
theorem dX8_at_10 : decode cX8_at 10 = .ok (.iload_n 2, 1) := q9_dX8_at_0.2.2.2.2.2.2.1
theorem dX8_at_11 : decode cX8_at 11 = .ok (.invokevirtual 237, 3) := q9_dX8_at_0.2.2.2.2.2.2.2.1
theorem dX8_at_14 : decode cX8_at 14 = .ok (.goto 4, 3) := q9_dX8_at_0.2.2.2.2.2.2.2.2.1
theorem dX8_at_17 : decode cX8_at 17 = .ok (.iconst (-1), 1) := q9_dX8_at_0.2.2.2.2.2.2.2.2.2
theorem dX8_at_18 : decode cX8_at 18 = .ok (.ireturn, 1) := by decide +kernel
set_option maxRecDepth 20000 in
theorem ggX8_sheet_X8_isBelow : GoodIn wsX8_sheet wsX8_isBelow := goodIn_r _ [11] rfl (by decide +kernel)
set_option maxRecDepth 20000 in
theorem gX8_sheet_X8_isBelow : GoodIn wsX8_sheet (va_wsS RX8 88 yX8_isBelow wsX8_isBelow) := goodIn_app (goodIn_of _ (by decide +kernel)) ggX8_sheet_X8_isBelow
set_option maxRecDepth 20000 in
theorem ggX8_sheet_X8_iceOf : GoodIn wsX8_sheet wsX8_iceOf := goodIn_r _ [15, 16, 17, 34, 35, 36, 37, 38, 39, 40, 41, 42, 43, 44, 45, 46, 47, 48, 49, 50, 51] rfl (by decide +kernel)
set_option maxRecDepth 20000 in
theorem gX8_sheet_X8_iceOf : GoodIn wsX8_sheet (wsV RX8 112 RX8 yX8_iceOf wsX8_iceOf) := goodIn_app (goodIn_of _ (by decide +kernel)) ggX8_sheet_X8_iceOf
set_option maxRecDepth 20000 in
theorem ggX8_sheet_X0_has : GoodIn wsX8_sheet wsX0_has := goodIn_r _ [22, 23, 52] rfl (by decide +kernel)
set_option maxRecDepth 20000 in
theorem gX8_sheet_X0_has : GoodIn wsX8_sheet (wsV RX8 255 RX0 yX0_has wsX0_has) := goodIn_app (goodIn_of _ (by decide +kernel)) ggX8_sheet_X0_has
theorem q9_dX8_sheet_0 : (decode cX8_sheet 0 = .ok (.iload_n 1, 1)) ∧ (decode cX8_sheet 1 = .ok (.iconst 2, 1)) ∧ (decode cX8_sheet 2 = .ok (.invokestatic 88, 3)) ∧ (decode cX8_sheet 5 = .ok (.ifCond .ne 5, 3)) ∧ (decode cX8_sheet 8 = .ok (.iconst (-1), 1)) ∧ (decode cX8_sheet 9 = .ok (.ireturn, 1)) ∧ (decode cX8_sheet 10 = .ok (.aload_n 0, 1)) ∧ (decode cX8_sheet 11 = .ok (.iload_n 1, 1)) ∧ (decode cX8_sheet 12 = .ok (.invokevirtual 112, 3)) ∧ (decode cX8_sheet 15 = .ok (.astore_n 3, 1)) := by decide +kernel
theorem dX8_sheet_0 : decode cX8_sheet 0 = .ok (.iload_n 1, 1) := q9_dX8_sheet_0.1
theorem dX8_sheet_1 : decode cX8_sheet 1 = .ok (.iconst 2, 1) := q9_dX8_sheet_0.2.1
theorem dX8_sheet_2 : decode cX8_sheet 2 = .ok (.invokestatic 88, 3) := q9_dX8_sheet_0.2.2.1
theorem dX8_sheet_5 : decode cX8_sheet 5 = .ok (.ifCond .ne 5, 3) := q9_dX8_sheet_0.2.2.2.1
theorem dX8_sheet_8 : decode cX8_sheet 8 = .ok (.iconst (-1), 1) := q9_dX8_sheet_0.2.2.2.2.1
theorem dX8_sheet_9 : decode cX8_sheet 9 = .ok (.ireturn, 1) := q9_dX8_sheet_0.2.2.2.2.2.1
theorem dX8_sheet_10 : decode cX8_sheet 10 = .ok (.aload_n 0, 1) := q9_dX8_sheet_0.2.2.2.2.2.2.1
theorem dX8_sheet_11 : decode cX8_sheet 11 = .ok (.iload_n 1, 1) := q9_dX8_sheet_0.2.2.2.2.2.2.2.1
theorem dX8_sheet_12 : decode cX8_sheet 12 = .ok (.invokevirtual 112, 3) := q9_dX8_sheet_0.2.2.2.2.2.2.2.2.1
theorem dX8_sheet_15 : decode cX8_sheet 15 = .ok (.astore_n 3, 1) := q9_dX8_sheet_0.2.2.2.2.2.2.2.2.2
theorem q9_dX8_sheet_16 : (decode cX8_sheet 16 = .ok (.iload_n 2, 1)) ∧ (decode cX8_sheet 17 = .ok (.tableswitch 84 0 5 #[39, 44, 49, 54, 59, 64], 39)) ∧ (decode cX8_sheet 56 = .ok (.aload_n 3, 1)) ∧ (decode cX8_sheet 57 = .ok (.getfield 240, 3)) ∧ (decode cX8_sheet 60 = .ok (.ireturn, 1)) ∧ (decode cX8_sheet 61 = .ok (.aload_n 3, 1)) ∧ (decode cX8_sheet 62 = .ok (.getfield 243, 3)) ∧ (decode cX8_sheet 65 = .ok (.ireturn, 1)) ∧ (decode cX8_sheet 66 = .ok (.aload_n 3, 1)) ∧ (decode cX8_sheet 67 = .ok (.getfield 246, 3)) := by decide +kernel
theorem dX8_sheet_16 : decode cX8_sheet 16 = .ok (.iload_n 2, 1) := q9_dX8_sheet_16.1
theorem dX8_sheet_17 : decode cX8_sheet 17 = .ok (.tableswitch 84 0 5 #[39, 44, 49, 54, 59, 64], 39) := q9_dX8_sheet_16.2.1
theorem dX8_sheet_56 : decode cX8_sheet 56 = .ok (.aload_n 3, 1) := q9_dX8_sheet_16.2.2.1
theorem dX8_sheet_57 : decode cX8_sheet 57 = .ok (.getfield 240, 3) := q9_dX8_sheet_16.2.2.2.1
theorem dX8_sheet_60 : decode cX8_sheet 60 = .ok (.ireturn, 1) := q9_dX8_sheet_16.2.2.2.2.1
theorem dX8_sheet_61 : decode cX8_sheet 61 = .ok (.aload_n 3, 1) := q9_dX8_sheet_16.2.2.2.2.2.1
theorem dX8_sheet_62 : decode cX8_sheet 62 = .ok (.getfield 243, 3) := q9_dX8_sheet_16.2.2.2.2.2.2.1
theorem dX8_sheet_65 : decode cX8_sheet 65 = .ok (.ireturn, 1) := q9_dX8_sheet_16.2.2.2.2.2.2.2.1
theorem dX8_sheet_66 : decode cX8_sheet 66 = .ok (.aload_n 3, 1) := q9_dX8_sheet_16.2.2.2.2.2.2.2.2.1
theorem dX8_sheet_67 : decode cX8_sheet 67 = .ok (.getfield 246, 3) := q9_dX8_sheet_16.2.2.2.2.2.2.2.2.2
theorem q9_dX8_sheet_70 : (decode cX8_sheet 70 = .ok (.ireturn, 1)) ∧ (decode cX8_sheet 71 = .ok (.aload_n 3, 1)) ∧ (decode cX8_sheet 72 = .ok (.getfield 249, 3)) ∧ (decode cX8_sheet 75 = .ok (.ireturn, 1)) ∧ (decode cX8_sheet 76 = .ok (.aload_n 3, 1)) ∧ (decode cX8_sheet 77 = .ok (.getfield 252, 3)) ∧ (decode cX8_sheet 80 = .ok (.ireturn, 1)) ∧ (decode cX8_sheet 81 = .ok (.aload_n 3, 1)) ∧ (decode cX8_sheet 82 = .ok (.getfield 171, 3)) ∧ (decode cX8_sheet 85 = .ok (.aload_n 0, 1)) := by decide +kernel
theorem dX8_sheet_70 : decode cX8_sheet 70 = .ok (.ireturn, 1) := q9_dX8_sheet_70.1
theorem dX8_sheet_71 : decode cX8_sheet 71 = .ok (.aload_n 3, 1) := q9_dX8_sheet_70.2.1
theorem dX8_sheet_72 : decode cX8_sheet 72 = .ok (.getfield 249, 3) := q9_dX8_sheet_70.2.2.1
theorem dX8_sheet_75 : decode cX8_sheet 75 = .ok (.ireturn, 1) := q9_dX8_sheet_70.2.2.2.1
theorem dX8_sheet_76 : decode cX8_sheet 76 = .ok (.aload_n 3, 1) := q9_dX8_sheet_70.2.2.2.2.1
theorem dX8_sheet_77 : decode cX8_sheet 77 = .ok (.getfield 252, 3) := q9_dX8_sheet_70.2.2.2.2.2.1
theorem dX8_sheet_80 : decode cX8_sheet 80 = .ok (.ireturn, 1) := q9_dX8_sheet_70.2.2.2.2.2.2.1
theorem dX8_sheet_81 : decode cX8_sheet 81 = .ok (.aload_n 3, 1) := q9_dX8_sheet_70.2.2.2.2.2.2.2.1
theorem dX8_sheet_82 : decode cX8_sheet 82 = .ok (.getfield 171, 3) := q9_dX8_sheet_70.2.2.2.2.2.2.2.2.1
theorem dX8_sheet_85 : decode cX8_sheet 85 = .ok (.aload_n 0, 1) := q9_dX8_sheet_70.2.2.2.2.2.2.2.2.2
theorem q9_dX8_sheet_86 : (decode cX8_sheet 86 = .ok (.getfield 96, 3)) ∧ (decode cX8_sheet 89 = .ok (.invokevirtual 255, 3)) ∧ (decode cX8_sheet 92 = .ok (.ifCond .eq 7, 3)) ∧ (decode cX8_sheet 95 = .ok (.iconst 1, 1)) ∧ (decode cX8_sheet 96 = .ok (.goto 4, 3)) ∧ (decode cX8_sheet 99 = .ok (.iconst 0, 1)) ∧ (decode cX8_sheet 100 = .ok (.ireturn, 1)) ∧ (decode cX8_sheet 101 = .ok (.iconst (-1), 1)) ∧ (decode cX8_sheet 102 = .ok (.ireturn, 1)) := by decide +kernel
theorem dX8_sheet_86 : decode cX8_sheet 86 = .ok (.getfield 96, 3) := q9_dX8_sheet_86.1
theorem dX8_sheet_89 : decode cX8_sheet 89 = .ok (.invokevirtual 255, 3) := q9_dX8_sheet_86.2.1
theorem dX8_sheet_92 : decode cX8_sheet 92 = .ok (.ifCond .eq 7, 3) := q9_dX8_sheet_86.2.2.1
theorem dX8_sheet_95 : decode cX8_sheet 95 = .ok (.iconst 1, 1) := q9_dX8_sheet_86.2.2.2.1
theorem dX8_sheet_96 : decode cX8_sheet 96 = .ok (.goto 4, 3) := q9_dX8_sheet_86.2.2.2.2.1
theorem dX8_sheet_99 : decode cX8_sheet 99 = .ok (.iconst 0, 1) := q9_dX8_sheet_86.2.2.2.2.2.1
theorem dX8_sheet_100 : decode cX8_sheet 100 = .ok (.ireturn, 1) := q9_dX8_sheet_86.2.2.2.2.2.2.1
theorem dX8_sheet_101 : decode cX8_sheet 101 = .ok (.iconst (-1), 1) := q9_dX8_sheet_86.2.2.2.2.2.2.2.1
theorem dX8_sheet_102 : decode cX8_sheet 102 = .ok (.ireturn, 1) := q9_dX8_sheet_86.2.2.2.2.2.2.2.2
set_option maxRecDepth 20000 in
theorem ggX8_club_X8_isBelow : GoodIn wsX8_club wsX8_isBelow := goodIn_r _ [4] rfl (by decide +kernel)
set_option maxRecDepth 20000 in
theorem gX8_club_X8_isBelow : GoodIn wsX8_club (va_wsS RX8 88 yX8_isBelow wsX8_isBelow) := goodIn_app (goodIn_of _ (by decide +kernel)) ggX8_club_X8_isBelow
set_option maxRecDepth 20000 in
theorem ggX8_club_X8_countInState : GoodIn wsX8_club wsX8_countInState := goodIn_r _ [8, 9, 10, 11, 12, 13, 14, 3, 15, 16, 22, 23, 24, 25, 26, 27, 28, 29, 30, 31, 32, 33, 34, 35, 36, 37, 38, 39, 40, 41, 42, 43, 44, 45, 46, 47, 48, 49] rfl (by decide +kernel)
set_option maxRecDepth 20000 in
theorem gX8_club_X8_countInState : GoodIn wsX8_club (wsV RX8 219 RX8 yX8_countInState wsX8_countInState) := goodIn_app (goodIn_of _ (by decide +kernel)) ggX8_club_X8_countInState
set_option maxRecDepth 20000 in
theorem ggX8_club_X8_owedBy : GoodIn wsX8_club wsX8_owedBy := goodIn_r _ [20, 9, 10, 21, 12, 13, 14, 3, 15, 16, 22, 23, 24, 25, 26, 27, 28, 29, 30, 31, 32, 33, 34, 35, 36, 37, 38, 39, 40, 41, 42, 43, 44, 45, 46, 47, 48, 49] rfl (by decide +kernel)
set_option maxRecDepth 20000 in
theorem gX8_club_X8_owedBy : GoodIn wsX8_club (wsV RX8 258 RX8 yX8_owedBy wsX8_owedBy) := goodIn_app (goodIn_of _ (by decide +kernel)) ggX8_club_X8_owedBy
theorem q9_dX8_club_0 : (decode cX8_club 0 = .ok (.iload_n 1, 1)) ∧ (decode cX8_club 1 = .ok (.bipush 6, 2)) ∧ (decode cX8_club 3 = .ok (.invokestatic 88, 3)) ∧ (decode cX8_club 6 = .ok (.ifCond .ne 5, 3)) ∧ (decode cX8_club 9 = .ok (.iconst (-1), 1)) ∧ (decode cX8_club 10 = .ok (.ireturn, 1)) ∧ (decode cX8_club 11 = .ok (.iload_n 2, 1)) ∧ (decode cX8_club 12 = .ok (.tableswitch 59 0 3 #[32, 39, 46, 53], 32)) ∧ (decode cX8_club 44 = .ok (.aload_n 0, 1)) ∧ (decode cX8_club 45 = .ok (.iload_n 1, 1)) := by decide +kernel
theorem dX8_club_0 : decode cX8_club 0 = .ok (.iload_n 1, 1) := q9_dX8_club_0.1
theorem dX8_club_1 : decode cX8_club 1 = .ok (.bipush 6, 2) := q9_dX8_club_0.2.1
theorem dX8_club_3 : decode cX8_club 3 = .ok (.invokestatic 88, 3) := q9_dX8_club_0.2.2.1
theorem dX8_club_6 : decode cX8_club 6 = .ok (.ifCond .ne 5, 3) := q9_dX8_club_0.2.2.2.1
theorem dX8_club_9 : decode cX8_club 9 = .ok (.iconst (-1), 1) := q9_dX8_club_0.2.2.2.2.1
theorem dX8_club_10 : decode cX8_club 10 = .ok (.ireturn, 1) := q9_dX8_club_0.2.2.2.2.2.1
theorem dX8_club_11 : decode cX8_club 11 = .ok (.iload_n 2, 1) := q9_dX8_club_0.2.2.2.2.2.2.1
theorem dX8_club_12 : decode cX8_club 12 = .ok (.tableswitch 59 0 3 #[32, 39, 46, 53], 32) := q9_dX8_club_0.2.2.2.2.2.2.2.1
theorem dX8_club_44 : decode cX8_club 44 = .ok (.aload_n 0, 1) := q9_dX8_club_0.2.2.2.2.2.2.2.2.1
theorem dX8_club_45 : decode cX8_club 45 = .ok (.iload_n 1, 1) := q9_dX8_club_0.2.2.2.2.2.2.2.2.2
theorem q9_dX8_club_46 : (decode cX8_club 46 = .ok (.iconst 1, 1)) ∧ (decode cX8_club 47 = .ok (.invokevirtual 219, 3)) ∧ (decode cX8_club 50 = .ok (.ireturn, 1)) ∧ (decode cX8_club 51 = .ok (.aload_n 0, 1)) ∧ (decode cX8_club 52 = .ok (.iload_n 1, 1)) ∧ (decode cX8_club 53 = .ok (.iconst 2, 1)) ∧ (decode cX8_club 54 = .ok (.invokevirtual 219, 3)) ∧ (decode cX8_club 57 = .ok (.ireturn, 1)) ∧ (decode cX8_club 58 = .ok (.aload_n 0, 1)) ∧ (decode cX8_club 59 = .ok (.iload_n 1, 1)) := by decide +kernel
theorem dX8_club_46 : decode cX8_club 46 = .ok (.iconst 1, 1) := q9_dX8_club_46.1
theorem dX8_club_47 : decode cX8_club 47 = .ok (.invokevirtual 219, 3) := q9_dX8_club_46.2.1
theorem dX8_club_50 : decode cX8_club 50 = .ok (.ireturn, 1) := q9_dX8_club_46.2.2.1
theorem dX8_club_51 : decode cX8_club 51 = .ok (.aload_n 0, 1) := q9_dX8_club_46.2.2.2.1
theorem dX8_club_52 : decode cX8_club 52 = .ok (.iload_n 1, 1) := q9_dX8_club_46.2.2.2.2.1
theorem dX8_club_53 : decode cX8_club 53 = .ok (.iconst 2, 1) := q9_dX8_club_46.2.2.2.2.2.1
theorem dX8_club_54 : decode cX8_club 54 = .ok (.invokevirtual 219, 3) := q9_dX8_club_46.2.2.2.2.2.2.1
theorem dX8_club_57 : decode cX8_club 57 = .ok (.ireturn, 1) := q9_dX8_club_46.2.2.2.2.2.2.2.1
theorem dX8_club_58 : decode cX8_club 58 = .ok (.aload_n 0, 1) := q9_dX8_club_46.2.2.2.2.2.2.2.2.1
theorem dX8_club_59 : decode cX8_club 59 = .ok (.iload_n 1, 1) := q9_dX8_club_46.2.2.2.2.2.2.2.2.2
theorem q9_dX8_club_60 : (decode cX8_club 60 = .ok (.iconst 0, 1)) ∧ (decode cX8_club 61 = .ok (.invokevirtual 219, 3)) ∧ (decode cX8_club 64 = .ok (.ireturn, 1)) ∧ (decode cX8_club 65 = .ok (.aload_n 0, 1)) ∧ (decode cX8_club 66 = .ok (.iload_n 1, 1)) ∧ (decode cX8_club 67 = .ok (.invokevirtual 258, 3)) ∧ (decode cX8_club 70 = .ok (.ireturn, 1)) ∧ (decode cX8_club 71 = .ok (.iconst (-1), 1)) ∧ (decode cX8_club 72 = .ok (.ireturn, 1)) ∧ (decode cX8_count 0 = .ok (.iload_n 1, 1)) := by decide +kernel
theorem dX8_club_60 : decode cX8_club 60 = .ok (.iconst 0, 1) := q9_dX8_club_60.1
theorem dX8_club_61 : decode cX8_club 61 = .ok (.invokevirtual 219, 3) := q9_dX8_club_60.2.1
theorem dX8_club_64 : decode cX8_club 64 = .ok (.ireturn, 1) := q9_dX8_club_60.2.2.1
theorem dX8_club_65 : decode cX8_club 65 = .ok (.aload_n 0, 1) := q9_dX8_club_60.2.2.2.1
theorem dX8_club_66 : decode cX8_club 66 = .ok (.iload_n 1, 1) := q9_dX8_club_60.2.2.2.2.1
theorem dX8_club_67 : decode cX8_club 67 = .ok (.invokevirtual 258, 3) := q9_dX8_club_60.2.2.2.2.2.1
theorem dX8_club_70 : decode cX8_club 70 = .ok (.ireturn, 1) := q9_dX8_club_60.2.2.2.2.2.2.1
theorem dX8_club_71 : decode cX8_club 71 = .ok (.iconst (-1), 1) := q9_dX8_club_60.2.2.2.2.2.2.2.1
theorem dX8_club_72 : decode cX8_club 72 = .ok (.ireturn, 1) := q9_dX8_club_60.2.2.2.2.2.2.2.2.1
theorem dX8_count_0 : decode cX8_count 0 = .ok (.iload_n 1, 1) := q9_dX8_club_60.2.2.2.2.2.2.2.2.2
theorem q9_dX8_count_1 : (decode cX8_count 1 = .ok (.tableswitch 108 0 9 #[55, 60, 65, 70, 75, 80, 85, 90, 95, 100], 55)) ∧ (decode cX8_count 56 = .ok (.aload_n 0, 1)) ∧ (decode cX8_count 57 = .ok (.getfield 96, 3)) ∧ (decode cX8_count 60 = .ok (.ireturn, 1)) ∧ (decode cX8_count 61 = .ok (.aload_n 0, 1)) ∧ (decode cX8_count 62 = .ok (.getfield 68, 3)) ∧ (decode cX8_count 65 = .ok (.ireturn, 1)) ∧ (decode cX8_count 66 = .ok (.aload_n 0, 1)) ∧ (decode cX8_count 67 = .ok (.getfield 261, 3)) ∧ (decode cX8_count 70 = .ok (.ireturn, 1)) := by decide +kernel
theorem dX8_count_1 : decode cX8_count 1 = .ok (.tableswitch 108 0 9 #[55, 60, 65, 70, 75, 80, 85, 90, 95, 100], 55) := q9_dX8_count_1.1
theorem dX8_count_56 : decode cX8_count 56 = .ok (.aload_n 0, 1) := q9_dX8_count_1.2.1
theorem dX8_count_57 : decode cX8_count 57 = .ok (.getfield 96, 3) := q9_dX8_count_1.2.2.1
theorem dX8_count_60 : decode cX8_count 60 = .ok (.ireturn, 1) := q9_dX8_count_1.2.2.2.1
theorem dX8_count_61 : decode cX8_count 61 = .ok (.aload_n 0, 1) := q9_dX8_count_1.2.2.2.2.1
theorem dX8_count_62 : decode cX8_count 62 = .ok (.getfield 68, 3) := q9_dX8_count_1.2.2.2.2.2.1
theorem dX8_count_65 : decode cX8_count 65 = .ok (.ireturn, 1) := q9_dX8_count_1.2.2.2.2.2.2.1
theorem dX8_count_66 : decode cX8_count 66 = .ok (.aload_n 0, 1) := q9_dX8_count_1.2.2.2.2.2.2.2.1
theorem dX8_count_67 : decode cX8_count 67 = .ok (.getfield 261, 3) := q9_dX8_count_1.2.2.2.2.2.2.2.2.1
theorem dX8_count_70 : decode cX8_count 70 = .ok (.ireturn, 1) := q9_dX8_count_1.2.2.2.2.2.2.2.2.2
theorem q9_dX8_count_71 : (decode cX8_count 71 = .ok (.aload_n 0, 1)) ∧ (decode cX8_count 72 = .ok (.getfield 264, 3)) ∧ (decode cX8_count 75 = .ok (.ireturn, 1)) ∧ (decode cX8_count 76 = .ok (.aload_n 0, 1)) ∧ (decode cX8_count 77 = .ok (.getfield 267, 3)) ∧ (decode cX8_count 80 = .ok (.ireturn, 1)) ∧ (decode cX8_count 81 = .ok (.aload_n 0, 1)) ∧ (decode cX8_count 82 = .ok (.getfield 99, 3)) ∧ (decode cX8_count 85 = .ok (.ireturn, 1)) ∧ (decode cX8_count 86 = .ok (.aload_n 0, 1)) := by decide +kernel
theorem dX8_count_71 : decode cX8_count 71 = .ok (.aload_n 0, 1) := q9_dX8_count_71.1
theorem dX8_count_72 : decode cX8_count 72 = .ok (.getfield 264, 3) := q9_dX8_count_71.2.1
theorem dX8_count_75 : decode cX8_count 75 = .ok (.ireturn, 1) := q9_dX8_count_71.2.2.1
theorem dX8_count_76 : decode cX8_count 76 = .ok (.aload_n 0, 1) := q9_dX8_count_71.2.2.2.1
theorem dX8_count_77 : decode cX8_count 77 = .ok (.getfield 267, 3) := q9_dX8_count_71.2.2.2.2.1
theorem dX8_count_80 : decode cX8_count 80 = .ok (.ireturn, 1) := q9_dX8_count_71.2.2.2.2.2.1
theorem dX8_count_81 : decode cX8_count 81 = .ok (.aload_n 0, 1) := q9_dX8_count_71.2.2.2.2.2.2.1
theorem dX8_count_82 : decode cX8_count 82 = .ok (.getfield 99, 3) := q9_dX8_count_71.2.2.2.2.2.2.2.1
theorem dX8_count_85 : decode cX8_count 85 = .ok (.ireturn, 1) := q9_dX8_count_71.2.2.2.2.2.2.2.2.1
theorem dX8_count_86 : decode cX8_count 86 = .ok (.aload_n 0, 1) := q9_dX8_count_71.2.2.2.2.2.2.2.2.2
theorem q9_dX8_count_87 : (decode cX8_count 87 = .ok (.getfield 72, 3)) ∧ (decode cX8_count 90 = .ok (.ireturn, 1)) ∧ (decode cX8_count 91 = .ok (.aload_n 0, 1)) ∧ (decode cX8_count 92 = .ok (.getfield 75, 3)) ∧ (decode cX8_count 95 = .ok (.ireturn, 1)) ∧ (decode cX8_count 96 = .ok (.aload_n 0, 1)) ∧ (decode cX8_count 97 = .ok (.getfield 78, 3)) ∧ (decode cX8_count 100 = .ok (.ireturn, 1)) ∧ (decode cX8_count 101 = .ok (.aload_n 0, 1)) ∧ (decode cX8_count 102 = .ok (.getfield 39, 3)) := by decide +kernel
theorem dX8_count_87 : decode cX8_count 87 = .ok (.getfield 72, 3) := q9_dX8_count_87.1
theorem dX8_count_90 : decode cX8_count 90 = .ok (.ireturn, 1) := q9_dX8_count_87.2.1
theorem dX8_count_91 : decode cX8_count 91 = .ok (.aload_n 0, 1) := q9_dX8_count_87.2.2.1
theorem dX8_count_92 : decode cX8_count 92 = .ok (.getfield 75, 3) := q9_dX8_count_87.2.2.2.1
theorem dX8_count_95 : decode cX8_count 95 = .ok (.ireturn, 1) := q9_dX8_count_87.2.2.2.2.1
theorem dX8_count_96 : decode cX8_count 96 = .ok (.aload_n 0, 1) := q9_dX8_count_87.2.2.2.2.2.1
theorem dX8_count_97 : decode cX8_count 97 = .ok (.getfield 78, 3) := q9_dX8_count_87.2.2.2.2.2.2.1
theorem dX8_count_100 : decode cX8_count 100 = .ok (.ireturn, 1) := q9_dX8_count_87.2.2.2.2.2.2.2.1
theorem dX8_count_101 : decode cX8_count 101 = .ok (.aload_n 0, 1) := q9_dX8_count_87.2.2.2.2.2.2.2.2.1
theorem dX8_count_102 : decode cX8_count 102 = .ok (.getfield 39, 3) := q9_dX8_count_87.2.2.2.2.2.2.2.2.2
theorem q9_dX8_count_105 : (decode cX8_count 105 = .ok (.getfield 81, 3)) ∧ (decode cX8_count 108 = .ok (.ireturn, 1)) ∧ (decode cX8_count 109 = .ok (.iload_n 1, 1)) ∧ (decode cX8_count 110 = .ok (.bipush 10, 2)) ∧ (decode cX8_count 112 = .ok (.if_icmp .lt 21, 3)) ∧ (decode cX8_count 115 = .ok (.iload_n 1, 1)) ∧ (decode cX8_count 116 = .ok (.bipush 34, 2)) ∧ (decode cX8_count 118 = .ok (.if_icmp .ge 15, 3)) ∧ (decode cX8_count 121 = .ok (.aload_n 0, 1)) ∧ (decode cX8_count 122 = .ok (.getfield 32, 3)) := by decide +kernel
theorem dX8_count_105 : decode cX8_count 105 = .ok (.getfield 81, 3) := q9_dX8_count_105.1
theorem dX8_count_108 : decode cX8_count 108 = .ok (.ireturn, 1) := q9_dX8_count_105.2.1
theorem dX8_count_109 : decode cX8_count 109 = .ok (.iload_n 1, 1) := q9_dX8_count_105.2.2.1
theorem dX8_count_110 : decode cX8_count 110 = .ok (.bipush 10, 2) := q9_dX8_count_105.2.2.2.1
theorem dX8_count_112 : decode cX8_count 112 = .ok (.if_icmp .lt 21, 3) := q9_dX8_count_105.2.2.2.2.1
theorem dX8_count_115 : decode cX8_count 115 = .ok (.iload_n 1, 1) := q9_dX8_count_105.2.2.2.2.2.1
theorem dX8_count_116 : decode cX8_count 116 = .ok (.bipush 34, 2) := q9_dX8_count_105.2.2.2.2.2.2.1
theorem dX8_count_118 : decode cX8_count 118 = .ok (.if_icmp .ge 15, 3) := q9_dX8_count_105.2.2.2.2.2.2.2.1
theorem dX8_count_121 : decode cX8_count 121 = .ok (.aload_n 0, 1) := q9_dX8_count_105.2.2.2.2.2.2.2.2.1
theorem dX8_count_122 : decode cX8_count 122 = .ok (.getfield 32, 3) := q9_dX8_count_105.2.2.2.2.2.2.2.2.2
theorem q9_dX8_count_125 : (decode cX8_count 125 = .ok (.iload_n 1, 1)) ∧ (decode cX8_count 126 = .ok (.bipush 10, 2)) ∧ (decode cX8_count 128 = .ok (.isub, 1)) ∧ (decode cX8_count 129 = .ok (.iaload, 1)) ∧ (decode cX8_count 130 = .ok (.goto 4, 3)) ∧ (decode cX8_count 133 = .ok (.iconst (-1), 1)) ∧ (decode cX8_count 134 = .ok (.ireturn, 1)) ∧ (decode cX8_isBelow 0 = .ok (.iload_n 0, 1)) ∧ (decode cX8_isBelow 1 = .ok (.ifCond .lt 12, 3)) ∧ (decode cX8_isBelow 4 = .ok (.iload_n 0, 1)) := by decide +kernel
theorem dX8_count_125 : decode cX8_count 125 = .ok (.iload_n 1, 1) := q9_dX8_count_125.1
theorem dX8_count_126 : decode cX8_count 126 = .ok (.bipush 10, 2) := q9_dX8_count_125.2.1
theorem dX8_count_128 : decode cX8_count 128 = .ok (.isub, 1) := q9_dX8_count_125.2.2.1
theorem dX8_count_129 : decode cX8_count 129 = .ok (.iaload, 1) := q9_dX8_count_125.2.2.2.1
theorem dX8_count_130 : decode cX8_count 130 = .ok (.goto 4, 3) := q9_dX8_count_125.2.2.2.2.1
theorem dX8_count_133 : decode cX8_count 133 = .ok (.iconst (-1), 1) := q9_dX8_count_125.2.2.2.2.2.1
theorem dX8_count_134 : decode cX8_count 134 = .ok (.ireturn, 1) := q9_dX8_count_125.2.2.2.2.2.2.1
theorem dX8_isBelow_0 : decode cX8_isBelow 0 = .ok (.iload_n 0, 1) := q9_dX8_count_125.2.2.2.2.2.2.2.1
theorem dX8_isBelow_1 : decode cX8_isBelow 1 = .ok (.ifCond .lt 12, 3) := q9_dX8_count_125.2.2.2.2.2.2.2.2.1
theorem dX8_isBelow_4 : decode cX8_isBelow 4 = .ok (.iload_n 0, 1) := q9_dX8_count_125.2.2.2.2.2.2.2.2.2
theorem q9_dX8_isBelow_5 : (decode cX8_isBelow 5 = .ok (.iload_n 1, 1)) ∧ (decode cX8_isBelow 6 = .ok (.if_icmp .ge 7, 3)) ∧ (decode cX8_isBelow 9 = .ok (.iconst 1, 1)) ∧ (decode cX8_isBelow 10 = .ok (.goto 4, 3)) ∧ (decode cX8_isBelow 13 = .ok (.iconst 0, 1)) ∧ (decode cX8_isBelow 14 = .ok (.ireturn, 1)) ∧ (decode cX8_isTenths 0 = .ok (.iload_n 0, 1)) ∧ (decode cX8_isTenths 1 = .ok (.ifCond .lt 13, 3)) ∧ (decode cX8_isTenths 4 = .ok (.iload_n 0, 1)) ∧ (decode cX8_isTenths 5 = .ok (.bipush 20, 2)) := by decide +kernel
theorem dX8_isBelow_5 : decode cX8_isBelow 5 = .ok (.iload_n 1, 1) := q9_dX8_isBelow_5.1
theorem dX8_isBelow_6 : decode cX8_isBelow 6 = .ok (.if_icmp .ge 7, 3) := q9_dX8_isBelow_5.2.1
theorem dX8_isBelow_9 : decode cX8_isBelow 9 = .ok (.iconst 1, 1) := q9_dX8_isBelow_5.2.2.1
theorem dX8_isBelow_10 : decode cX8_isBelow 10 = .ok (.goto 4, 3) := q9_dX8_isBelow_5.2.2.2.1
theorem dX8_isBelow_13 : decode cX8_isBelow 13 = .ok (.iconst 0, 1) := q9_dX8_isBelow_5.2.2.2.2.1
theorem dX8_isBelow_14 : decode cX8_isBelow 14 = .ok (.ireturn, 1) := q9_dX8_isBelow_5.2.2.2.2.2.1
theorem dX8_isTenths_0 : decode cX8_isTenths 0 = .ok (.iload_n 0, 1) := q9_dX8_isBelow_5.2.2.2.2.2.2.1
theorem dX8_isTenths_1 : decode cX8_isTenths 1 = .ok (.ifCond .lt 13, 3) := q9_dX8_isBelow_5.2.2.2.2.2.2.2.1
theorem dX8_isTenths_4 : decode cX8_isTenths 4 = .ok (.iload_n 0, 1) := q9_dX8_isBelow_5.2.2.2.2.2.2.2.2.1
theorem dX8_isTenths_5 : decode cX8_isTenths 5 = .ok (.bipush 20, 2) := q9_dX8_isBelow_5.2.2.2.2.2.2.2.2.2
theorem q9_dX8_isTenths_7 : (decode cX8_isTenths 7 = .ok (.if_icmp .gt 7, 3)) ∧ (decode cX8_isTenths 10 = .ok (.iconst 1, 1)) ∧ (decode cX8_isTenths 11 = .ok (.goto 4, 3)) ∧ (decode cX8_isTenths 14 = .ok (.iconst 0, 1)) ∧ (decode cX8_isTenths 15 = .ok (.ireturn, 1)) ∧ (decode cX8_isWarmth 0 = .ok (.iload_n 0, 1)) ∧ (decode cX8_isWarmth 1 = .ok (.bipush (-20), 2)) ∧ (decode cX8_isWarmth 3 = .ok (.if_icmp .lt 13, 3)) ∧ (decode cX8_isWarmth 6 = .ok (.iload_n 0, 1)) ∧ (decode cX8_isWarmth 7 = .ok (.bipush 40, 2)) := by decide +kernel
theorem dX8_isTenths_7 : decode cX8_isTenths 7 = .ok (.if_icmp .gt 7, 3) := q9_dX8_isTenths_7.1
theorem dX8_isTenths_10 : decode cX8_isTenths 10 = .ok (.iconst 1, 1) := q9_dX8_isTenths_7.2.1
theorem dX8_isTenths_11 : decode cX8_isTenths 11 = .ok (.goto 4, 3) := q9_dX8_isTenths_7.2.2.1
theorem dX8_isTenths_14 : decode cX8_isTenths 14 = .ok (.iconst 0, 1) := q9_dX8_isTenths_7.2.2.2.1
theorem dX8_isTenths_15 : decode cX8_isTenths 15 = .ok (.ireturn, 1) := q9_dX8_isTenths_7.2.2.2.2.1
theorem dX8_isWarmth_0 : decode cX8_isWarmth 0 = .ok (.iload_n 0, 1) := q9_dX8_isTenths_7.2.2.2.2.2.1
theorem dX8_isWarmth_1 : decode cX8_isWarmth 1 = .ok (.bipush (-20), 2) := q9_dX8_isTenths_7.2.2.2.2.2.2.1
theorem dX8_isWarmth_3 : decode cX8_isWarmth 3 = .ok (.if_icmp .lt 13, 3) := q9_dX8_isTenths_7.2.2.2.2.2.2.2.1
theorem dX8_isWarmth_6 : decode cX8_isWarmth 6 = .ok (.iload_n 0, 1) := q9_dX8_isTenths_7.2.2.2.2.2.2.2.2.1
theorem dX8_isWarmth_7 : decode cX8_isWarmth 7 = .ok (.bipush 40, 2) := q9_dX8_isTenths_7.2.2.2.2.2.2.2.2.2
theorem q9_dX8_isWarmth_9 : (decode cX8_isWarmth 9 = .ok (.if_icmp .gt 7, 3)) ∧ (decode cX8_isWarmth 12 = .ok (.iconst 1, 1)) ∧ (decode cX8_isWarmth 13 = .ok (.goto 4, 3)) ∧ (decode cX8_isWarmth 16 = .ok (.iconst 0, 1)) ∧ (decode cX8_isWarmth 17 = .ok (.ireturn, 1)) ∧ (decode cX8_wantOfWarmth 0 = .ok (.iload_n 0, 1)) ∧ (decode cX8_wantOfWarmth 1 = .ok (.ifCond .le 9, 3)) ∧ (decode cX8_wantOfWarmth 4 = .ok (.iload_n 0, 1)) ∧ (decode cX8_wantOfWarmth 5 = .ok (.iconst 2, 1)) ∧ (decode cX8_wantOfWarmth 6 = .ok (.idiv, 1)) := by decide +kernel
theorem dX8_isWarmth_9 : decode cX8_isWarmth 9 = .ok (.if_icmp .gt 7, 3) := q9_dX8_isWarmth_9.1
theorem dX8_isWarmth_12 : decode cX8_isWarmth 12 = .ok (.iconst 1, 1) := q9_dX8_isWarmth_9.2.1
theorem dX8_isWarmth_13 : decode cX8_isWarmth 13 = .ok (.goto 4, 3) := q9_dX8_isWarmth_9.2.2.1
theorem dX8_isWarmth_16 : decode cX8_isWarmth 16 = .ok (.iconst 0, 1) := q9_dX8_isWarmth_9.2.2.2.1
theorem dX8_isWarmth_17 : decode cX8_isWarmth 17 = .ok (.ireturn, 1) := q9_dX8_isWarmth_9.2.2.2.2.1
theorem dX8_wantOfWarmth_0 : decode cX8_wantOfWarmth 0 = .ok (.iload_n 0, 1) := q9_dX8_isWarmth_9.2.2.2.2.2.1
theorem dX8_wantOfWarmth_1 : decode cX8_wantOfWarmth 1 = .ok (.ifCond .le 9, 3) := q9_dX8_isWarmth_9.2.2.2.2.2.2.1
theorem dX8_wantOfWarmth_4 : decode cX8_wantOfWarmth 4 = .ok (.iload_n 0, 1) := q9_dX8_isWarmth_9.2.2.2.2.2.2.2.1
theorem dX8_wantOfWarmth_5 : decode cX8_wantOfWarmth 5 = .ok (.iconst 2, 1) := q9_dX8_isWarmth_9.2.2.2.2.2.2.2.2.1
theorem dX8_wantOfWarmth_6 : decode cX8_wantOfWarmth 6 = .ok (.idiv, 1) := q9_dX8_isWarmth_9.2.2.2.2.2.2.2.2.2
theorem q9_dX8_wantOfWarmth_7 : (decode cX8_wantOfWarmth 7 = .ok (.goto 4, 3)) ∧ (decode cX8_wantOfWarmth 10 = .ok (.iconst 0, 1)) ∧ (decode cX8_wantOfWarmth 11 = .ok (.ireturn, 1)) := by decide +kernel
theorem dX8_wantOfWarmth_7 : decode cX8_wantOfWarmth 7 = .ok (.goto 4, 3) := q9_dX8_wantOfWarmth_7.1
theorem dX8_wantOfWarmth_10 : decode cX8_wantOfWarmth 10 = .ok (.iconst 0, 1) := q9_dX8_wantOfWarmth_7.2.1
theorem dX8_wantOfWarmth_11 : decode cX8_wantOfWarmth 11 = .ok (.ireturn, 1) := q9_dX8_wantOfWarmth_7.2.2
set_option maxRecDepth 20000 in
theorem ggX8_ofKind_X8_isBelow : GoodIn wsX8_ofKind wsX8_isBelow := goodIn_r _ [4] rfl (by decide +kernel)
set_option maxRecDepth 20000 in
theorem gX8_ofKind_X8_isBelow : GoodIn wsX8_ofKind (va_wsS RX8 88 yX8_isBelow wsX8_isBelow) := goodIn_app (goodIn_of _ (by decide +kernel)) ggX8_ofKind_X8_isBelow
theorem q9_dX8_ofKind_0 : (decode cX8_ofKind 0 = .ok (.iload_n 1, 1)) ∧ (decode cX8_ofKind 1 = .ok (.aload_n 0, 1)) ∧ (decode cX8_ofKind 2 = .ok (.arraylength, 1)) ∧ (decode cX8_ofKind 3 = .ok (.invokestatic 88, 3)) ∧ (decode cX8_ofKind 6 = .ok (.ifCond .eq 9, 3)) ∧ (decode cX8_ofKind 9 = .ok (.aload_n 0, 1)) ∧ (decode cX8_ofKind 10 = .ok (.iload_n 1, 1)) ∧ (decode cX8_ofKind 11 = .ok (.iaload, 1)) ∧ (decode cX8_ofKind 12 = .ok (.goto 4, 3)) ∧ (decode cX8_ofKind 15 = .ok (.iconst 0, 1)) := by decide +kernel
theorem dX8_ofKind_0 : decode cX8_ofKind 0 = .ok (.iload_n 1, 1) := q9_dX8_ofKind_0.1
theorem dX8_ofKind_1 : decode cX8_ofKind 1 = .ok (.aload_n 0, 1) := q9_dX8_ofKind_0.2.1
theorem dX8_ofKind_2 : decode cX8_ofKind 2 = .ok (.arraylength, 1) := q9_dX8_ofKind_0.2.2.1
theorem dX8_ofKind_3 : decode cX8_ofKind 3 = .ok (.invokestatic 88, 3) := q9_dX8_ofKind_0.2.2.2.1
theorem dX8_ofKind_6 : decode cX8_ofKind 6 = .ok (.ifCond .eq 9, 3) := q9_dX8_ofKind_0.2.2.2.2.1
theorem dX8_ofKind_9 : decode cX8_ofKind 9 = .ok (.aload_n 0, 1) := q9_dX8_ofKind_0.2.2.2.2.2.1
theorem dX8_ofKind_10 : decode cX8_ofKind 10 = .ok (.iload_n 1, 1) := q9_dX8_ofKind_0.2.2.2.2.2.2.1
theorem dX8_ofKind_11 : decode cX8_ofKind 11 = .ok (.iaload, 1) := q9_dX8_ofKind_0.2.2.2.2.2.2.2.1
theorem dX8_ofKind_12 : decode cX8_ofKind 12 = .ok (.goto 4, 3) := q9_dX8_ofKind_0.2.2.2.2.2.2.2.2.1
theorem dX8_ofKind_15 : decode cX8_ofKind 15 = .ok (.iconst 0, 1) := q9_dX8_ofKind_0.2.2.2.2.2.2.2.2.2
theorem q9_dX8_ofKind_16 : (decode cX8_ofKind 16 = .ok (.ireturn, 1)) ∧ (decode cX8_iceOf 0 = .ok (.iload_n 1, 1)) ∧ (decode cX8_iceOf 1 = .ok (.ifCond .ne 10, 3)) ∧ (decode cX8_iceOf 4 = .ok (.aload_n 0, 1)) ∧ (decode cX8_iceOf 5 = .ok (.getfield 10, 3)) ∧ (decode cX8_iceOf 8 = .ok (.goto 7, 3)) ∧ (decode cX8_iceOf 11 = .ok (.aload_n 0, 1)) ∧ (decode cX8_iceOf 12 = .ok (.getfield 16, 3)) ∧ (decode cX8_iceOf 15 = .ok (.areturn, 1)) ∧ (decode cX8_sessionOf 0 = .ok (.iload_n 1, 1)) := by decide +kernel
theorem dX8_ofKind_16 : decode cX8_ofKind 16 = .ok (.ireturn, 1) := q9_dX8_ofKind_16.1
theorem dX8_iceOf_0 : decode cX8_iceOf 0 = .ok (.iload_n 1, 1) := q9_dX8_ofKind_16.2.1
theorem dX8_iceOf_1 : decode cX8_iceOf 1 = .ok (.ifCond .ne 10, 3) := q9_dX8_ofKind_16.2.2.1
theorem dX8_iceOf_4 : decode cX8_iceOf 4 = .ok (.aload_n 0, 1) := q9_dX8_ofKind_16.2.2.2.1
theorem dX8_iceOf_5 : decode cX8_iceOf 5 = .ok (.getfield 10, 3) := q9_dX8_ofKind_16.2.2.2.2.1
theorem dX8_iceOf_8 : decode cX8_iceOf 8 = .ok (.goto 7, 3) := q9_dX8_ofKind_16.2.2.2.2.2.1
theorem dX8_iceOf_11 : decode cX8_iceOf 11 = .ok (.aload_n 0, 1) := q9_dX8_ofKind_16.2.2.2.2.2.2.1
theorem dX8_iceOf_12 : decode cX8_iceOf 12 = .ok (.getfield 16, 3) := q9_dX8_ofKind_16.2.2.2.2.2.2.2.1
theorem dX8_iceOf_15 : decode cX8_iceOf 15 = .ok (.areturn, 1) := q9_dX8_ofKind_16.2.2.2.2.2.2.2.2.1
theorem dX8_sessionOf_0 : decode cX8_sessionOf 0 = .ok (.iload_n 1, 1) := q9_dX8_ofKind_16.2.2.2.2.2.2.2.2.2
theorem q9_dX8_sessionOf_1 : (decode cX8_sessionOf 1 = .ok (.ifCond .lt 27, 3)) ∧ (decode cX8_sessionOf 4 = .ok (.iload_n 1, 1)) ∧ (decode cX8_sessionOf 5 = .ok (.aload_n 0, 1)) ∧ (decode cX8_sessionOf 6 = .ok (.getfield 99, 3)) ∧ (decode cX8_sessionOf 9 = .ok (.if_icmp .ge 19, 3)) ∧ (decode cX8_sessionOf 12 = .ok (.iload_n 1, 1)) ∧ (decode cX8_sessionOf 13 = .ok (.sipush 200, 3)) ∧ (decode cX8_sessionOf 16 = .ok (.if_icmp .ge 12, 3)) ∧ (decode cX8_sessionOf 19 = .ok (.aload_n 0, 1)) ∧ (decode cX8_sessionOf 20 = .ok (.getfield 28, 3)) := by decide +kernel
theorem dX8_sessionOf_1 : decode cX8_sessionOf 1 = .ok (.ifCond .lt 27, 3) := q9_dX8_sessionOf_1.1
theorem dX8_sessionOf_4 : decode cX8_sessionOf 4 = .ok (.iload_n 1, 1) := q9_dX8_sessionOf_1.2.1
theorem dX8_sessionOf_5 : decode cX8_sessionOf 5 = .ok (.aload_n 0, 1) := q9_dX8_sessionOf_1.2.2.1
theorem dX8_sessionOf_6 : decode cX8_sessionOf 6 = .ok (.getfield 99, 3) := q9_dX8_sessionOf_1.2.2.2.1
theorem dX8_sessionOf_9 : decode cX8_sessionOf 9 = .ok (.if_icmp .ge 19, 3) := q9_dX8_sessionOf_1.2.2.2.2.1
theorem dX8_sessionOf_12 : decode cX8_sessionOf 12 = .ok (.iload_n 1, 1) := q9_dX8_sessionOf_1.2.2.2.2.2.1
theorem dX8_sessionOf_13 : decode cX8_sessionOf 13 = .ok (.sipush 200, 3) := q9_dX8_sessionOf_1.2.2.2.2.2.2.1
theorem dX8_sessionOf_16 : decode cX8_sessionOf 16 = .ok (.if_icmp .ge 12, 3) := q9_dX8_sessionOf_1.2.2.2.2.2.2.2.1
theorem dX8_sessionOf_19 : decode cX8_sessionOf 19 = .ok (.aload_n 0, 1) := q9_dX8_sessionOf_1.2.2.2.2.2.2.2.2.1
theorem dX8_sessionOf_20 : decode cX8_sessionOf 20 = .ok (.getfield 28, 3) := q9_dX8_sessionOf_1.2.2.2.2.2.2.2.2.2
theorem q9_dX8_sessionOf_23 : (decode cX8_sessionOf 23 = .ok (.iload_n 1, 1)) ∧ (decode cX8_sessionOf 24 = .ok (.aaload, 1)) ∧ (decode cX8_sessionOf 25 = .ok (.goto 4, 3)) ∧ (decode cX8_sessionOf 28 = .ok (.aconst_null, 1)) ∧ (decode cX8_sessionOf 29 = .ok (.areturn, 1)) := by decide +kernel
theorem dX8_sessionOf_23 : decode cX8_sessionOf 23 = .ok (.iload_n 1, 1) := q9_dX8_sessionOf_23.1
theorem dX8_sessionOf_24 : decode cX8_sessionOf 24 = .ok (.aaload, 1) := q9_dX8_sessionOf_23.2.1
theorem dX8_sessionOf_25 : decode cX8_sessionOf 25 = .ok (.goto 4, 3) := q9_dX8_sessionOf_23.2.2.1
theorem dX8_sessionOf_28 : decode cX8_sessionOf 28 = .ok (.aconst_null, 1) := q9_dX8_sessionOf_23.2.2.2.1
theorem dX8_sessionOf_29 : decode cX8_sessionOf 29 = .ok (.areturn, 1) := q9_dX8_sessionOf_23.2.2.2.2
set_option maxRecDepth 20000 in
theorem ggX8_numberAt_X8_iceOf : GoodIn wsX8_numberAt wsX8_iceOf := goodIn_r _ [9, 10, 11, 39, 40, 41, 42, 43, 44, 45, 46, 47, 48, 49, 50, 51, 52, 53, 54, 55, 56] rfl (by decide +kernel)
set_option maxRecDepth 20000 in
theorem gX8_numberAt_X8_iceOf : GoodIn wsX8_numberAt (wsV RX8 112 RX8 yX8_iceOf wsX8_iceOf) := goodIn_app (goodIn_of _ (by decide +kernel)) ggX8_numberAt_X8_iceOf
set_option maxRecDepth 20000 in
theorem ggX8_numberAt_X0_has : GoodIn wsX8_numberAt wsX0_has := goodIn_r _ [16, 17, 67] rfl (by decide +kernel)
set_option maxRecDepth 20000 in
theorem gX8_numberAt_X0_has : GoodIn wsX8_numberAt (wsV RX8 255 RX0 yX0_has wsX0_has) := goodIn_app (goodIn_of _ (by decide +kernel)) ggX8_numberAt_X0_has
set_option maxRecDepth 20000 in
theorem ggX8_numberAt_X8_sessionOf : GoodIn wsX8_numberAt wsX8_sessionOf := goodIn_r _ [21, 2, 22, 39, 40, 41, 42, 43, 44, 45, 46, 47, 48, 49, 50, 51, 52, 53, 54, 55, 56] rfl (by decide +kernel)
set_option maxRecDepth 20000 in
theorem gX8_numberAt_X8_sessionOf : GoodIn wsX8_numberAt (wsV RX8 131 RX8 yX8_sessionOf wsX8_sessionOf) := goodIn_app (goodIn_of _ (by decide +kernel)) ggX8_numberAt_X8_sessionOf
set_option maxRecDepth 20000 in
theorem ggX8_numberAt_X6_stands : GoodIn wsX8_numberAt wsX6_stands := goodIn_r _ [27, 28, 57, 58, 59, 60, 61, 62, 63, 64, 65, 66] rfl (by decide +kernel)
set_option maxRecDepth 20000 in
theorem gX8_numberAt_X6_stands : GoodIn wsX8_numberAt (wsV RX8 270 RX6 yX6_stands wsX6_stands) := goodIn_app (goodIn_of _ (by decide +kernel)) ggX8_numberAt_X6_stands
theorem q9_dX8_numberAt_0 : (decode cX8_numberAt 0 = .ok (.aload_n 0, 1)) ∧ (decode cX8_numberAt 1 = .ok (.iload_n 1, 1)) ∧ (decode cX8_numberAt 2 = .ok (.invokevirtual 112, 3)) ∧ (decode cX8_numberAt 5 = .ok (.getfield 119, 3)) ∧ (decode cX8_numberAt 8 = .ok (.iload_n 2, 1)) ∧ (decode cX8_numberAt 9 = .ok (.invokevirtual 255, 3)) ∧ (decode cX8_numberAt 12 = .ok (.ifCond .ne 5, 3)) ∧ (decode cX8_numberAt 15 = .ok (.iconst (-1), 1)) ∧ (decode cX8_numberAt 16 = .ok (.ireturn, 1)) ∧ (decode cX8_numberAt 17 = .ok (.iconst 0, 1)) := by decide +kernel
theorem dX8_numberAt_0 : decode cX8_numberAt 0 = .ok (.aload_n 0, 1) := q9_dX8_numberAt_0.1
theorem dX8_numberAt_1 : decode cX8_numberAt 1 = .ok (.iload_n 1, 1) := q9_dX8_numberAt_0.2.1
theorem dX8_numberAt_2 : decode cX8_numberAt 2 = .ok (.invokevirtual 112, 3) := q9_dX8_numberAt_0.2.2.1
theorem dX8_numberAt_5 : decode cX8_numberAt 5 = .ok (.getfield 119, 3) := q9_dX8_numberAt_0.2.2.2.1
theorem dX8_numberAt_8 : decode cX8_numberAt 8 = .ok (.iload_n 2, 1) := q9_dX8_numberAt_0.2.2.2.2.1
theorem dX8_numberAt_9 : decode cX8_numberAt 9 = .ok (.invokevirtual 255, 3) := q9_dX8_numberAt_0.2.2.2.2.2.1
theorem dX8_numberAt_12 : decode cX8_numberAt 12 = .ok (.ifCond .ne 5, 3) := q9_dX8_numberAt_0.2.2.2.2.2.2.1
theorem dX8_numberAt_15 : decode cX8_numberAt 15 = .ok (.iconst (-1), 1) := q9_dX8_numberAt_0.2.2.2.2.2.2.2.1
theorem dX8_numberAt_16 : decode cX8_numberAt 16 = .ok (.ireturn, 1) := q9_dX8_numberAt_0.2.2.2.2.2.2.2.2.1
theorem dX8_numberAt_17 : decode cX8_numberAt 17 = .ok (.iconst 0, 1) := q9_dX8_numberAt_0.2.2.2.2.2.2.2.2.2
theorem q9_dX8_numberAt_18 : (decode cX8_numberAt 18 = .ok (.istore_n 3, 1)) ∧ (decode cX8_numberAt 19 = .ok (.iload_n 3, 1)) ∧ (decode cX8_numberAt 20 = .ok (.aload_n 0, 1)) ∧ (decode cX8_numberAt 21 = .ok (.getfield 99, 3)) ∧ (decode cX8_numberAt 24 = .ok (.if_icmp .ge 49, 3)) ∧ (decode cX8_numberAt 27 = .ok (.aload_n 0, 1)) ∧ (decode cX8_numberAt 28 = .ok (.iload_n 3, 1)) ∧ (decode cX8_numberAt 29 = .ok (.invokevirtual 131, 3)) ∧ (decode cX8_numberAt 32 = .ok (.astore 4, 2)) ∧ (decode cX8_numberAt 34 = .ok (.aload 4, 2)) := by decide +kernel
theorem dX8_numberAt_18 : decode cX8_numberAt 18 = .ok (.istore_n 3, 1) := q9_dX8_numberAt_18.1
theorem dX8_numberAt_19 : decode cX8_numberAt 19 = .ok (.iload_n 3, 1) := q9_dX8_numberAt_18.2.1
theorem dX8_numberAt_20 : decode cX8_numberAt 20 = .ok (.aload_n 0, 1) := q9_dX8_numberAt_18.2.2.1
theorem dX8_numberAt_21 : decode cX8_numberAt 21 = .ok (.getfield 99, 3) := q9_dX8_numberAt_18.2.2.2.1
theorem dX8_numberAt_24 : decode cX8_numberAt 24 = .ok (.if_icmp .ge 49, 3) := q9_dX8_numberAt_18.2.2.2.2.1
theorem dX8_numberAt_27 : decode cX8_numberAt 27 = .ok (.aload_n 0, 1) := q9_dX8_numberAt_18.2.2.2.2.2.1
theorem dX8_numberAt_28 : decode cX8_numberAt 28 = .ok (.iload_n 3, 1) := q9_dX8_numberAt_18.2.2.2.2.2.2.1
theorem dX8_numberAt_29 : decode cX8_numberAt 29 = .ok (.invokevirtual 131, 3) := q9_dX8_numberAt_18.2.2.2.2.2.2.2.1
theorem dX8_numberAt_32 : decode cX8_numberAt 32 = .ok (.astore 4, 2) := q9_dX8_numberAt_18.2.2.2.2.2.2.2.2.1
theorem dX8_numberAt_34 : decode cX8_numberAt 34 = .ok (.aload 4, 2) := q9_dX8_numberAt_18.2.2.2.2.2.2.2.2.2
theorem q9_dX8_numberAt_36 : (decode cX8_numberAt 36 = .ok (.ifnull 31, 3)) ∧ (decode cX8_numberAt 39 = .ok (.aload 4, 2)) ∧ (decode cX8_numberAt 41 = .ok (.invokevirtual 270, 3)) ∧ (decode cX8_numberAt 44 = .ok (.ifCond .eq 23, 3)) ∧ (decode cX8_numberAt 47 = .ok (.aload 4, 2)) ∧ (decode cX8_numberAt 49 = .ok (.getfield 138, 3)) ∧ (decode cX8_numberAt 52 = .ok (.iload_n 1, 1)) ∧ (decode cX8_numberAt 53 = .ok (.if_icmp .ne 14, 3)) ∧ (decode cX8_numberAt 56 = .ok (.aload 4, 2)) ∧ (decode cX8_numberAt 58 = .ok (.getfield 141, 3)) := by decide +kernel
theorem dX8_numberAt_36 : decode cX8_numberAt 36 = .ok (.ifnull 31, 3) := q9_dX8_numberAt_36.1
theorem dX8_numberAt_39 : decode cX8_numberAt 39 = .ok (.aload 4, 2) := q9_dX8_numberAt_36.2.1
theorem dX8_numberAt_41 : decode cX8_numberAt 41 = .ok (.invokevirtual 270, 3) := q9_dX8_numberAt_36.2.2.1
theorem dX8_numberAt_44 : decode cX8_numberAt 44 = .ok (.ifCond .eq 23, 3) := q9_dX8_numberAt_36.2.2.2.1
theorem dX8_numberAt_47 : decode cX8_numberAt 47 = .ok (.aload 4, 2) := q9_dX8_numberAt_36.2.2.2.2.1
theorem dX8_numberAt_49 : decode cX8_numberAt 49 = .ok (.getfield 138, 3) := q9_dX8_numberAt_36.2.2.2.2.2.1
theorem dX8_numberAt_52 : decode cX8_numberAt 52 = .ok (.iload_n 1, 1) := q9_dX8_numberAt_36.2.2.2.2.2.2.1
theorem dX8_numberAt_53 : decode cX8_numberAt 53 = .ok (.if_icmp .ne 14, 3) := q9_dX8_numberAt_36.2.2.2.2.2.2.2.1
theorem dX8_numberAt_56 : decode cX8_numberAt 56 = .ok (.aload 4, 2) := q9_dX8_numberAt_36.2.2.2.2.2.2.2.2.1
theorem dX8_numberAt_58 : decode cX8_numberAt 58 = .ok (.getfield 141, 3) := q9_dX8_numberAt_36.2.2.2.2.2.2.2.2.2
theorem q9_dX8_numberAt_61 : (decode cX8_numberAt 61 = .ok (.iload_n 2, 1)) ∧ (decode cX8_numberAt 62 = .ok (.if_icmp .ne 5, 3)) ∧ (decode cX8_numberAt 65 = .ok (.iload_n 3, 1)) ∧ (decode cX8_numberAt 66 = .ok (.ireturn, 1)) ∧ (decode cX8_numberAt 67 = .ok (.iinc 3 1, 3)) ∧ (decode cX8_numberAt 70 = .ok (.goto (-51), 3)) ∧ (decode cX8_numberAt 73 = .ok (.iconst (-1), 1)) ∧ (decode cX8_numberAt 74 = .ok (.ireturn, 1)) := by decide +kernel
theorem dX8_numberAt_61 : decode cX8_numberAt 61 = .ok (.iload_n 2, 1) := q9_dX8_numberAt_61.1
theorem dX8_numberAt_62 : decode cX8_numberAt 62 = .ok (.if_icmp .ne 5, 3) := q9_dX8_numberAt_61.2.1
theorem dX8_numberAt_65 : decode cX8_numberAt 65 = .ok (.iload_n 3, 1) := q9_dX8_numberAt_61.2.2.1
theorem dX8_numberAt_66 : decode cX8_numberAt 66 = .ok (.ireturn, 1) := q9_dX8_numberAt_61.2.2.2.1
theorem dX8_numberAt_67 : decode cX8_numberAt 67 = .ok (.iinc 3 1, 3) := q9_dX8_numberAt_61.2.2.2.2.1
theorem dX8_numberAt_70 : decode cX8_numberAt 70 = .ok (.goto (-51), 3) := q9_dX8_numberAt_61.2.2.2.2.2.1
theorem dX8_numberAt_73 : decode cX8_numberAt 73 = .ok (.iconst (-1), 1) := q9_dX8_numberAt_61.2.2.2.2.2.2.1
theorem dX8_numberAt_74 : decode cX8_numberAt 74 = .ok (.ireturn, 1) := q9_dX8_numberAt_61.2.2.2.2.2.2.2
set_option maxRecDepth 20000 in
theorem ggX8_standingAt_X8_numberAt : GoodIn wsX8_standingAt wsX8_numberAt := goodIn_r _ [5, 6, 7, 8, 9, 10, 11, 12, 4, 13, 14, 15, 16, 17, 18, 19, 20, 21, 22, 23, 24, 25, 26, 27, 28, 29, 30, 31, 32, 33, 34, 35, 36, 37, 38, 39, 40, 41, 42, 43, 44, 45, 46, 47, 48, 49, 50, 51, 52, 53, 54, 55, 56, 57, 58, 59, 60, 61, 62, 63, 64, 65, 66, 67, 68, 69, 70, 71] rfl (by decide +kernel)
set_option maxRecDepth 20000 in
theorem gX8_standingAt_X8_numberAt : GoodIn wsX8_standingAt (wsV RX8 237 RX8 yX8_numberAt wsX8_numberAt) := goodIn_app (goodIn_of _ (by decide +kernel)) ggX8_standingAt_X8_numberAt
set_option maxRecDepth 20000 in
theorem ggX8_standingAt_X8_sessionOf : GoodIn wsX8_standingAt wsX8_sessionOf := goodIn_r _ [25, 7, 26, 43, 44, 45, 46, 47, 48, 49, 50, 51, 52, 53, 54, 55, 56, 57, 58, 59, 60] rfl (by decide +kernel)
set_option maxRecDepth 20000 in
theorem gX8_standingAt_X8_sessionOf : GoodIn wsX8_standingAt (wsV RX8 131 RX8 yX8_sessionOf wsX8_sessionOf) := goodIn_app (goodIn_of _ (by decide +kernel)) ggX8_standingAt_X8_sessionOf
theorem q9_dX8_standingAt_0 : (decode cX8_standingAt 0 = .ok (.aload_n 0, 1)) ∧ (decode cX8_standingAt 1 = .ok (.aload_n 0, 1)) ∧ (decode cX8_standingAt 2 = .ok (.iload_n 1, 1)) ∧ (decode cX8_standingAt 3 = .ok (.iload_n 2, 1)) ∧ (decode cX8_standingAt 4 = .ok (.invokevirtual 237, 3)) ∧ (decode cX8_standingAt 7 = .ok (.invokevirtual 131, 3)) ∧ (decode cX8_standingAt 10 = .ok (.areturn, 1)) := by decide +kernel
theorem dX8_standingAt_0 : decode cX8_standingAt 0 = .ok (.aload_n 0, 1) := q9_dX8_standingAt_0.1
theorem dX8_standingAt_1 : decode cX8_standingAt 1 = .ok (.aload_n 0, 1) := q9_dX8_standingAt_0.2.1
theorem dX8_standingAt_2 : decode cX8_standingAt 2 = .ok (.iload_n 1, 1) := q9_dX8_standingAt_0.2.2.1
theorem dX8_standingAt_3 : decode cX8_standingAt 3 = .ok (.iload_n 2, 1) := q9_dX8_standingAt_0.2.2.2.1
theorem dX8_standingAt_4 : decode cX8_standingAt 4 = .ok (.invokevirtual 237, 3) := q9_dX8_standingAt_0.2.2.2.2.1
theorem dX8_standingAt_7 : decode cX8_standingAt 7 = .ok (.invokevirtual 131, 3) := q9_dX8_standingAt_0.2.2.2.2.2.1
theorem dX8_standingAt_10 : decode cX8_standingAt 10 = .ok (.areturn, 1) := q9_dX8_standingAt_0.2.2.2.2.2.2
set_option maxRecDepth 20000 in
theorem ggX8_heatOf_X8_ofKind : GoodIn wsX8_heatOf wsX8_ofKind := goodIn_r _ [6, 7, 8, 5, 9] rfl (by decide +kernel)
set_option maxRecDepth 20000 in
theorem gX8_heatOf_X8_ofKind : GoodIn wsX8_heatOf (va_wsS RX8 277 yX8_ofKind wsX8_ofKind) := goodIn_app (goodIn_of _ (by decide +kernel)) ggX8_heatOf_X8_ofKind
theorem q9_dX8_heatOf_0 : (decode cX8_heatOf 0 = .ok (.aload_n 0, 1)) ∧ (decode cX8_heatOf 1 = .ok (.ifnonnull 7, 3)) ∧ (decode cX8_heatOf 4 = .ok (.iconst 0, 1)) ∧ (decode cX8_heatOf 5 = .ok (.goto 13, 3)) ∧ (decode cX8_heatOf 8 = .ok (.getstatic 274, 3)) ∧ (decode cX8_heatOf 11 = .ok (.aload_n 0, 1)) ∧ (decode cX8_heatOf 12 = .ok (.getfield 228, 3)) ∧ (decode cX8_heatOf 15 = .ok (.invokestatic 277, 3)) ∧ (decode cX8_heatOf 18 = .ok (.ireturn, 1)) := by decide +kernel
theorem dX8_heatOf_0 : decode cX8_heatOf 0 = .ok (.aload_n 0, 1) := q9_dX8_heatOf_0.1
theorem dX8_heatOf_1 : decode cX8_heatOf 1 = .ok (.ifnonnull 7, 3) := q9_dX8_heatOf_0.2.1
theorem dX8_heatOf_4 : decode cX8_heatOf 4 = .ok (.iconst 0, 1) := q9_dX8_heatOf_0.2.2.1
theorem dX8_heatOf_5 : decode cX8_heatOf 5 = .ok (.goto 13, 3) := q9_dX8_heatOf_0.2.2.2.1
theorem dX8_heatOf_8 : decode cX8_heatOf 8 = .ok (.getstatic 274, 3) := q9_dX8_heatOf_0.2.2.2.2.1
theorem dX8_heatOf_11 : decode cX8_heatOf 11 = .ok (.aload_n 0, 1) := q9_dX8_heatOf_0.2.2.2.2.2.1
theorem dX8_heatOf_12 : decode cX8_heatOf 12 = .ok (.getfield 228, 3) := q9_dX8_heatOf_0.2.2.2.2.2.2.1
theorem dX8_heatOf_15 : decode cX8_heatOf 15 = .ok (.invokestatic 277, 3) := q9_dX8_heatOf_0.2.2.2.2.2.2.2.1
theorem dX8_heatOf_18 : decode cX8_heatOf 18 = .ok (.ireturn, 1) := q9_dX8_heatOf_0.2.2.2.2.2.2.2.2
set_option maxRecDepth 20000 in
theorem ggX8_countInWeek_X8_sessionOf : GoodIn wsX8_countInWeek wsX8_sessionOf := goodIn_r _ [8, 1, 9, 16, 17, 18, 19, 20, 21, 22, 23, 24, 25, 26, 27, 28, 29, 30, 31, 32, 33] rfl (by decide +kernel)
set_option maxRecDepth 20000 in
theorem gX8_countInWeek_X8_sessionOf : GoodIn wsX8_countInWeek (wsV RX8 131 RX8 yX8_sessionOf wsX8_sessionOf) := goodIn_app (goodIn_of _ (by decide +kernel)) ggX8_countInWeek_X8_sessionOf
set_option maxRecDepth 20000 in
theorem ggX8_countInWeek_X6_stands : GoodIn wsX8_countInWeek wsX6_stands := goodIn_r _ [14, 15, 34, 35, 36, 37, 38, 39, 40, 41, 42, 43] rfl (by decide +kernel)
set_option maxRecDepth 20000 in
theorem gX8_countInWeek_X6_stands : GoodIn wsX8_countInWeek (wsV RX8 270 RX6 yX6_stands wsX6_stands) := goodIn_app (goodIn_of _ (by decide +kernel)) ggX8_countInWeek_X6_stands
theorem q9_dX8_countInWeek_0 : (decode cX8_countInWeek 0 = .ok (.iconst 0, 1)) ∧ (decode cX8_countInWeek 1 = .ok (.istore_n 3, 1)) ∧ (decode cX8_countInWeek 2 = .ok (.iconst 0, 1)) ∧ (decode cX8_countInWeek 3 = .ok (.istore 4, 2)) ∧ (decode cX8_countInWeek 5 = .ok (.iload 4, 2)) ∧ (decode cX8_countInWeek 7 = .ok (.aload_n 0, 1)) ∧ (decode cX8_countInWeek 8 = .ok (.getfield 99, 3)) ∧ (decode cX8_countInWeek 11 = .ok (.if_icmp .ge 55, 3)) ∧ (decode cX8_countInWeek 14 = .ok (.aload_n 0, 1)) ∧ (decode cX8_countInWeek 15 = .ok (.iload 4, 2)) := by decide +kernel
theorem dX8_countInWeek_0 : decode cX8_countInWeek 0 = .ok (.iconst 0, 1) := q9_dX8_countInWeek_0.1
theorem dX8_countInWeek_1 : decode cX8_countInWeek 1 = .ok (.istore_n 3, 1) := q9_dX8_countInWeek_0.2.1
theorem dX8_countInWeek_2 : decode cX8_countInWeek 2 = .ok (.iconst 0, 1) := q9_dX8_countInWeek_0.2.2.1
theorem dX8_countInWeek_3 : decode cX8_countInWeek 3 = .ok (.istore 4, 2) := q9_dX8_countInWeek_0.2.2.2.1
theorem dX8_countInWeek_5 : decode cX8_countInWeek 5 = .ok (.iload 4, 2) := q9_dX8_countInWeek_0.2.2.2.2.1
theorem dX8_countInWeek_7 : decode cX8_countInWeek 7 = .ok (.aload_n 0, 1) := q9_dX8_countInWeek_0.2.2.2.2.2.1
theorem dX8_countInWeek_8 : decode cX8_countInWeek 8 = .ok (.getfield 99, 3) := q9_dX8_countInWeek_0.2.2.2.2.2.2.1
theorem dX8_countInWeek_11 : decode cX8_countInWeek 11 = .ok (.if_icmp .ge 55, 3) := q9_dX8_countInWeek_0.2.2.2.2.2.2.2.1
theorem dX8_countInWeek_14 : decode cX8_countInWeek 14 = .ok (.aload_n 0, 1) := q9_dX8_countInWeek_0.2.2.2.2.2.2.2.2.1
theorem dX8_countInWeek_15 : decode cX8_countInWeek 15 = .ok (.iload 4, 2) := q9_dX8_countInWeek_0.2.2.2.2.2.2.2.2.2
theorem q9_dX8_countInWeek_17 : (decode cX8_countInWeek 17 = .ok (.invokevirtual 131, 3)) ∧ (decode cX8_countInWeek 20 = .ok (.astore 5, 2)) ∧ (decode cX8_countInWeek 22 = .ok (.aload 5, 2)) ∧ (decode cX8_countInWeek 24 = .ok (.ifnull 36, 3)) ∧ (decode cX8_countInWeek 27 = .ok (.aload 5, 2)) ∧ (decode cX8_countInWeek 29 = .ok (.getfield 225, 3)) ∧ (decode cX8_countInWeek 32 = .ok (.iload_n 1, 1)) ∧ (decode cX8_countInWeek 33 = .ok (.if_icmp .ne 27, 3)) ∧ (decode cX8_countInWeek 36 = .ok (.aload 5, 2)) ∧ (decode cX8_countInWeek 38 = .ok (.invokevirtual 270, 3)) := by decide +kernel
theorem dX8_countInWeek_17 : decode cX8_countInWeek 17 = .ok (.invokevirtual 131, 3) := q9_dX8_countInWeek_17.1
theorem dX8_countInWeek_20 : decode cX8_countInWeek 20 = .ok (.astore 5, 2) := q9_dX8_countInWeek_17.2.1
theorem dX8_countInWeek_22 : decode cX8_countInWeek 22 = .ok (.aload 5, 2) := q9_dX8_countInWeek_17.2.2.1
theorem dX8_countInWeek_24 : decode cX8_countInWeek 24 = .ok (.ifnull 36, 3) := q9_dX8_countInWeek_17.2.2.2.1
theorem dX8_countInWeek_27 : decode cX8_countInWeek 27 = .ok (.aload 5, 2) := q9_dX8_countInWeek_17.2.2.2.2.1
theorem dX8_countInWeek_29 : decode cX8_countInWeek 29 = .ok (.getfield 225, 3) := q9_dX8_countInWeek_17.2.2.2.2.2.1
theorem dX8_countInWeek_32 : decode cX8_countInWeek 32 = .ok (.iload_n 1, 1) := q9_dX8_countInWeek_17.2.2.2.2.2.2.1
theorem dX8_countInWeek_33 : decode cX8_countInWeek 33 = .ok (.if_icmp .ne 27, 3) := q9_dX8_countInWeek_17.2.2.2.2.2.2.2.1
theorem dX8_countInWeek_36 : decode cX8_countInWeek 36 = .ok (.aload 5, 2) := q9_dX8_countInWeek_17.2.2.2.2.2.2.2.2.1
theorem dX8_countInWeek_38 : decode cX8_countInWeek 38 = .ok (.invokevirtual 270, 3) := q9_dX8_countInWeek_17.2.2.2.2.2.2.2.2.2
theorem q9_dX8_countInWeek_41 : (decode cX8_countInWeek 41 = .ok (.ifCond .eq 19, 3)) ∧ (decode cX8_countInWeek 44 = .ok (.aload 5, 2)) ∧ (decode cX8_countInWeek 46 = .ok (.getfield 141, 3)) ∧ (decode cX8_countInWeek 49 = .ok (.sipush 168, 3)) ∧ (decode cX8_countInWeek 52 = .ok (.idiv, 1)) ∧ (decode cX8_countInWeek 53 = .ok (.iload_n 2, 1)) ∧ (decode cX8_countInWeek 54 = .ok (.if_icmp .ne 6, 3)) ∧ (decode cX8_countInWeek 57 = .ok (.iinc 3 1, 3)) ∧ (decode cX8_countInWeek 60 = .ok (.iinc 4 1, 3)) ∧ (decode cX8_countInWeek 63 = .ok (.goto (-58), 3)) := by decide +kernel
theorem dX8_countInWeek_41 : decode cX8_countInWeek 41 = .ok (.ifCond .eq 19, 3) := q9_dX8_countInWeek_41.1
theorem dX8_countInWeek_44 : decode cX8_countInWeek 44 = .ok (.aload 5, 2) := q9_dX8_countInWeek_41.2.1
theorem dX8_countInWeek_46 : decode cX8_countInWeek 46 = .ok (.getfield 141, 3) := q9_dX8_countInWeek_41.2.2.1
theorem dX8_countInWeek_49 : decode cX8_countInWeek 49 = .ok (.sipush 168, 3) := q9_dX8_countInWeek_41.2.2.2.1
theorem dX8_countInWeek_52 : decode cX8_countInWeek 52 = .ok (.idiv, 1) := q9_dX8_countInWeek_41.2.2.2.2.1
theorem dX8_countInWeek_53 : decode cX8_countInWeek 53 = .ok (.iload_n 2, 1) := q9_dX8_countInWeek_41.2.2.2.2.2.1
theorem dX8_countInWeek_54 : decode cX8_countInWeek 54 = .ok (.if_icmp .ne 6, 3) := q9_dX8_countInWeek_41.2.2.2.2.2.2.1
theorem dX8_countInWeek_57 : decode cX8_countInWeek 57 = .ok (.iinc 3 1, 3) := q9_dX8_countInWeek_41.2.2.2.2.2.2.2.1
theorem dX8_countInWeek_60 : decode cX8_countInWeek 60 = .ok (.iinc 4 1, 3) := q9_dX8_countInWeek_41.2.2.2.2.2.2.2.2.1
theorem dX8_countInWeek_63 : decode cX8_countInWeek 63 = .ok (.goto (-58), 3) := q9_dX8_countInWeek_41.2.2.2.2.2.2.2.2.2
theorem q9_dX8_countInWeek_66 : (decode cX8_countInWeek 66 = .ok (.iload_n 3, 1)) ∧ (decode cX8_countInWeek 67 = .ok (.ireturn, 1)) := by decide +kernel
theorem dX8_countInWeek_66 : decode cX8_countInWeek 66 = .ok (.iload_n 3, 1) := q9_dX8_countInWeek_66.1
theorem dX8_countInWeek_67 : decode cX8_countInWeek 67 = .ok (.ireturn, 1) := q9_dX8_countInWeek_66.2
set_option maxRecDepth 20000 in
theorem ggX8_countInState_X8_sessionOf : GoodIn wsX8_countInState wsX8_sessionOf := goodIn_r _ [8, 1, 9, 10, 11, 12, 13, 14, 15, 16, 17, 18, 19, 20, 21, 22, 23, 24, 25, 26, 27] rfl (by decide +kernel)
set_option maxRecDepth 20000 in
theorem gX8_countInState_X8_sessionOf : GoodIn wsX8_countInState (wsV RX8 131 RX8 yX8_sessionOf wsX8_sessionOf) := goodIn_app (goodIn_of _ (by decide +kernel)) ggX8_countInState_X8_sessionOf
theorem q9_dX8_countInState_0 : (decode cX8_countInState 0 = .ok (.iconst 0, 1)) ∧ (decode cX8_countInState 1 = .ok (.istore_n 3, 1)) ∧ (decode cX8_countInState 2 = .ok (.iconst 0, 1)) ∧ (decode cX8_countInState 3 = .ok (.istore 4, 2)) ∧ (decode cX8_countInState 5 = .ok (.iload 4, 2)) ∧ (decode cX8_countInState 7 = .ok (.aload_n 0, 1)) ∧ (decode cX8_countInState 8 = .ok (.getfield 99, 3)) ∧ (decode cX8_countInState 11 = .ok (.if_icmp .ge 43, 3)) ∧ (decode cX8_countInState 14 = .ok (.aload_n 0, 1)) ∧ (decode cX8_countInState 15 = .ok (.iload 4, 2)) := by decide +kernel
theorem dX8_countInState_0 : decode cX8_countInState 0 = .ok (.iconst 0, 1) := q9_dX8_countInState_0.1
theorem dX8_countInState_1 : decode cX8_countInState 1 = .ok (.istore_n 3, 1) := q9_dX8_countInState_0.2.1
theorem dX8_countInState_2 : decode cX8_countInState 2 = .ok (.iconst 0, 1) := q9_dX8_countInState_0.2.2.1
theorem dX8_countInState_3 : decode cX8_countInState 3 = .ok (.istore 4, 2) := q9_dX8_countInState_0.2.2.2.1
theorem dX8_countInState_5 : decode cX8_countInState 5 = .ok (.iload 4, 2) := q9_dX8_countInState_0.2.2.2.2.1
theorem dX8_countInState_7 : decode cX8_countInState 7 = .ok (.aload_n 0, 1) := q9_dX8_countInState_0.2.2.2.2.2.1
theorem dX8_countInState_8 : decode cX8_countInState 8 = .ok (.getfield 99, 3) := q9_dX8_countInState_0.2.2.2.2.2.2.1
theorem dX8_countInState_11 : decode cX8_countInState 11 = .ok (.if_icmp .ge 43, 3) := q9_dX8_countInState_0.2.2.2.2.2.2.2.1
theorem dX8_countInState_14 : decode cX8_countInState 14 = .ok (.aload_n 0, 1) := q9_dX8_countInState_0.2.2.2.2.2.2.2.2.1
theorem dX8_countInState_15 : decode cX8_countInState 15 = .ok (.iload 4, 2) := q9_dX8_countInState_0.2.2.2.2.2.2.2.2.2
theorem q9_dX8_countInState_17 : (decode cX8_countInState 17 = .ok (.invokevirtual 131, 3)) ∧ (decode cX8_countInState 20 = .ok (.astore 5, 2)) ∧ (decode cX8_countInState 22 = .ok (.aload 5, 2)) ∧ (decode cX8_countInState 24 = .ok (.ifnull 24, 3)) ∧ (decode cX8_countInState 27 = .ok (.aload 5, 2)) ∧ (decode cX8_countInState 29 = .ok (.getfield 225, 3)) ∧ (decode cX8_countInState 32 = .ok (.iload_n 1, 1)) ∧ (decode cX8_countInState 33 = .ok (.if_icmp .ne 15, 3)) ∧ (decode cX8_countInState 36 = .ok (.aload 5, 2)) ∧ (decode cX8_countInState 38 = .ok (.getfield 135, 3)) := by decide +kernel
theorem dX8_countInState_17 : decode cX8_countInState 17 = .ok (.invokevirtual 131, 3) := q9_dX8_countInState_17.1
theorem dX8_countInState_20 : decode cX8_countInState 20 = .ok (.astore 5, 2) := q9_dX8_countInState_17.2.1
theorem dX8_countInState_22 : decode cX8_countInState 22 = .ok (.aload 5, 2) := q9_dX8_countInState_17.2.2.1
theorem dX8_countInState_24 : decode cX8_countInState 24 = .ok (.ifnull 24, 3) := q9_dX8_countInState_17.2.2.2.1
theorem dX8_countInState_27 : decode cX8_countInState 27 = .ok (.aload 5, 2) := q9_dX8_countInState_17.2.2.2.2.1
theorem dX8_countInState_29 : decode cX8_countInState 29 = .ok (.getfield 225, 3) := q9_dX8_countInState_17.2.2.2.2.2.1
theorem dX8_countInState_32 : decode cX8_countInState 32 = .ok (.iload_n 1, 1) := q9_dX8_countInState_17.2.2.2.2.2.2.1
theorem dX8_countInState_33 : decode cX8_countInState 33 = .ok (.if_icmp .ne 15, 3) := q9_dX8_countInState_17.2.2.2.2.2.2.2.1
theorem dX8_countInState_36 : decode cX8_countInState 36 = .ok (.aload 5, 2) := q9_dX8_countInState_17.2.2.2.2.2.2.2.2.1
theorem dX8_countInState_38 : decode cX8_countInState 38 = .ok (.getfield 135, 3) := q9_dX8_countInState_17.2.2.2.2.2.2.2.2.2
theorem q9_dX8_countInState_41 : (decode cX8_countInState 41 = .ok (.iload_n 2, 1)) ∧ (decode cX8_countInState 42 = .ok (.if_icmp .ne 6, 3)) ∧ (decode cX8_countInState 45 = .ok (.iinc 3 1, 3)) ∧ (decode cX8_countInState 48 = .ok (.iinc 4 1, 3)) ∧ (decode cX8_countInState 51 = .ok (.goto (-46), 3)) ∧ (decode cX8_countInState 54 = .ok (.iload_n 3, 1)) ∧ (decode cX8_countInState 55 = .ok (.ireturn, 1)) := by decide +kernel
theorem dX8_countInState_41 : decode cX8_countInState 41 = .ok (.iload_n 2, 1) := q9_dX8_countInState_41.1
theorem dX8_countInState_42 : decode cX8_countInState 42 = .ok (.if_icmp .ne 6, 3) := q9_dX8_countInState_41.2.1
theorem dX8_countInState_45 : decode cX8_countInState 45 = .ok (.iinc 3 1, 3) := q9_dX8_countInState_41.2.2.1
theorem dX8_countInState_48 : decode cX8_countInState 48 = .ok (.iinc 4 1, 3) := q9_dX8_countInState_41.2.2.2.1
theorem dX8_countInState_51 : decode cX8_countInState 51 = .ok (.goto (-46), 3) := q9_dX8_countInState_41.2.2.2.2.1
theorem dX8_countInState_54 : decode cX8_countInState 54 = .ok (.iload_n 3, 1) := q9_dX8_countInState_41.2.2.2.2.2.1
theorem dX8_countInState_55 : decode cX8_countInState 55 = .ok (.ireturn, 1) := q9_dX8_countInState_41.2.2.2.2.2.2
set_option maxRecDepth 20000 in
theorem ggX8_owedBy_X8_sessionOf : GoodIn wsX8_owedBy wsX8_sessionOf := goodIn_r _ [8, 1, 9, 10, 11, 12, 13, 14, 15, 16, 17, 18, 19, 20, 21, 22, 23, 24, 25, 26, 27] rfl (by decide +kernel)
set_option maxRecDepth 20000 in
theorem gX8_owedBy_X8_sessionOf : GoodIn wsX8_owedBy (wsV RX8 131 RX8 yX8_sessionOf wsX8_sessionOf) := goodIn_app (goodIn_of _ (by decide +kernel)) ggX8_owedBy_X8_sessionOf
theorem q9_dX8_owedBy_0 : (decode cX8_owedBy 0 = .ok (.iconst 0, 1)) ∧ (decode cX8_owedBy 1 = .ok (.istore_n 2, 1)) ∧ (decode cX8_owedBy 2 = .ok (.iconst 0, 1)) ∧ (decode cX8_owedBy 3 = .ok (.istore_n 3, 1)) ∧ (decode cX8_owedBy 4 = .ok (.iload_n 3, 1)) ∧ (decode cX8_owedBy 5 = .ok (.aload_n 0, 1)) ∧ (decode cX8_owedBy 6 = .ok (.getfield 99, 3)) ∧ (decode cX8_owedBy 9 = .ok (.if_icmp .ge 38, 3)) ∧ (decode cX8_owedBy 12 = .ok (.aload_n 0, 1)) ∧ (decode cX8_owedBy 13 = .ok (.iload_n 3, 1)) := by decide +kernel
theorem dX8_owedBy_0 : decode cX8_owedBy 0 = .ok (.iconst 0, 1) := q9_dX8_owedBy_0.1
theorem dX8_owedBy_1 : decode cX8_owedBy 1 = .ok (.istore_n 2, 1) := q9_dX8_owedBy_0.2.1
theorem dX8_owedBy_2 : decode cX8_owedBy 2 = .ok (.iconst 0, 1) := q9_dX8_owedBy_0.2.2.1
theorem dX8_owedBy_3 : decode cX8_owedBy 3 = .ok (.istore_n 3, 1) := q9_dX8_owedBy_0.2.2.2.1
theorem dX8_owedBy_4 : decode cX8_owedBy 4 = .ok (.iload_n 3, 1) := q9_dX8_owedBy_0.2.2.2.2.1
theorem dX8_owedBy_5 : decode cX8_owedBy 5 = .ok (.aload_n 0, 1) := q9_dX8_owedBy_0.2.2.2.2.2.1
theorem dX8_owedBy_6 : decode cX8_owedBy 6 = .ok (.getfield 99, 3) := q9_dX8_owedBy_0.2.2.2.2.2.2.1
theorem dX8_owedBy_9 : decode cX8_owedBy 9 = .ok (.if_icmp .ge 38, 3) := q9_dX8_owedBy_0.2.2.2.2.2.2.2.1
theorem dX8_owedBy_12 : decode cX8_owedBy 12 = .ok (.aload_n 0, 1) := q9_dX8_owedBy_0.2.2.2.2.2.2.2.2.1
theorem dX8_owedBy_13 : decode cX8_owedBy 13 = .ok (.iload_n 3, 1) := q9_dX8_owedBy_0.2.2.2.2.2.2.2.2.2
theorem q9_dX8_owedBy_14 : (decode cX8_owedBy 14 = .ok (.invokevirtual 131, 3)) ∧ (decode cX8_owedBy 17 = .ok (.astore 4, 2)) ∧ (decode cX8_owedBy 19 = .ok (.aload 4, 2)) ∧ (decode cX8_owedBy 21 = .ok (.ifnull 20, 3)) ∧ (decode cX8_owedBy 24 = .ok (.aload 4, 2)) ∧ (decode cX8_owedBy 26 = .ok (.getfield 225, 3)) ∧ (decode cX8_owedBy 29 = .ok (.iload_n 1, 1)) ∧ (decode cX8_owedBy 30 = .ok (.if_icmp .ne 11, 3)) ∧ (decode cX8_owedBy 33 = .ok (.iload_n 2, 1)) ∧ (decode cX8_owedBy 34 = .ok (.aload 4, 2)) := by decide +kernel
theorem dX8_owedBy_14 : decode cX8_owedBy 14 = .ok (.invokevirtual 131, 3) := q9_dX8_owedBy_14.1
theorem dX8_owedBy_17 : decode cX8_owedBy 17 = .ok (.astore 4, 2) := q9_dX8_owedBy_14.2.1
theorem dX8_owedBy_19 : decode cX8_owedBy 19 = .ok (.aload 4, 2) := q9_dX8_owedBy_14.2.2.1
theorem dX8_owedBy_21 : decode cX8_owedBy 21 = .ok (.ifnull 20, 3) := q9_dX8_owedBy_14.2.2.2.1
theorem dX8_owedBy_24 : decode cX8_owedBy 24 = .ok (.aload 4, 2) := q9_dX8_owedBy_14.2.2.2.2.1
theorem dX8_owedBy_26 : decode cX8_owedBy 26 = .ok (.getfield 225, 3) := q9_dX8_owedBy_14.2.2.2.2.2.1
theorem dX8_owedBy_29 : decode cX8_owedBy 29 = .ok (.iload_n 1, 1) := q9_dX8_owedBy_14.2.2.2.2.2.2.1
theorem dX8_owedBy_30 : decode cX8_owedBy 30 = .ok (.if_icmp .ne 11, 3) := q9_dX8_owedBy_14.2.2.2.2.2.2.2.1
theorem dX8_owedBy_33 : decode cX8_owedBy 33 = .ok (.iload_n 2, 1) := q9_dX8_owedBy_14.2.2.2.2.2.2.2.2.1
theorem dX8_owedBy_34 : decode cX8_owedBy 34 = .ok (.aload 4, 2) := q9_dX8_owedBy_14.2.2.2.2.2.2.2.2.2
theorem q9_dX8_owedBy_36 : (decode cX8_owedBy 36 = .ok (.getfield 153, 3)) ∧ (decode cX8_owedBy 39 = .ok (.iadd, 1)) ∧ (decode cX8_owedBy 40 = .ok (.istore_n 2, 1)) ∧ (decode cX8_owedBy 41 = .ok (.iinc 3 1, 3)) ∧ (decode cX8_owedBy 44 = .ok (.goto (-40), 3)) ∧ (decode cX8_owedBy 47 = .ok (.iload_n 2, 1)) ∧ (decode cX8_owedBy 48 = .ok (.ireturn, 1)) := by decide +kernel
theorem dX8_owedBy_36 : decode cX8_owedBy 36 = .ok (.getfield 153, 3) := q9_dX8_owedBy_36.1
theorem dX8_owedBy_39 : decode cX8_owedBy 39 = .ok (.iadd, 1) := q9_dX8_owedBy_36.2.1
theorem dX8_owedBy_40 : decode cX8_owedBy 40 = .ok (.istore_n 2, 1) := q9_dX8_owedBy_36.2.2.1
theorem dX8_owedBy_41 : decode cX8_owedBy 41 = .ok (.iinc 3 1, 3) := q9_dX8_owedBy_36.2.2.2.1
theorem dX8_owedBy_44 : decode cX8_owedBy 44 = .ok (.goto (-40), 3) := q9_dX8_owedBy_36.2.2.2.2.1
theorem dX8_owedBy_47 : decode cX8_owedBy 47 = .ok (.iload_n 2, 1) := q9_dX8_owedBy_36.2.2.2.2.2.1
theorem dX8_owedBy_48 : decode cX8_owedBy 48 = .ok (.ireturn, 1) := q9_dX8_owedBy_36.2.2.2.2.2.2
set_option maxRecDepth 20000 in
theorem ggX8_gatherSessions_X2_begin : GoodIn wsX8_gatherSessions wsX2_begin := goodIn_r _ [9, 10, 58, 59, 60, 61, 62, 63, 64, 65, 66, 67] rfl (by decide +kernel)
set_option maxRecDepth 20000 in
theorem gX8_gatherSessions_X2_begin : GoodIn wsX8_gatherSessions (wsV RX8 281 RX2 yX2_begin wsX2_begin) := goodIn_app (goodIn_of _ (by decide +kernel)) ggX8_gatherSessions_X2_begin
set_option maxRecDepth 20000 in
theorem ggX8_gatherSessions_X8_sessionOf : GoodIn wsX8_gatherSessions wsX8_sessionOf := goodIn_r _ [15, 2, 16, 30, 31, 32, 33, 34, 35, 36, 37, 38, 39, 40, 41, 42, 43, 44, 45, 46, 47] rfl (by decide +kernel)
set_option maxRecDepth 20000 in
theorem gX8_gatherSessions_X8_sessionOf : GoodIn wsX8_gatherSessions (wsV RX8 131 RX8 yX8_sessionOf wsX8_sessionOf) := goodIn_app (goodIn_of _ (by decide +kernel)) ggX8_gatherSessions_X8_sessionOf
set_option maxRecDepth 20000 in
theorem ggX8_gatherSessions_X6_stands : GoodIn wsX8_gatherSessions wsX6_stands := goodIn_r _ [21, 22, 48, 49, 50, 51, 52, 53, 54, 55, 56, 57] rfl (by decide +kernel)
set_option maxRecDepth 20000 in
theorem gX8_gatherSessions_X6_stands : GoodIn wsX8_gatherSessions (wsV RX8 270 RX6 yX6_stands wsX6_stands) := goodIn_app (goodIn_of _ (by decide +kernel)) ggX8_gatherSessions_X6_stands
set_option maxRecDepth 20000 in
theorem ggX8_gatherSessions_X2_add : GoodIn wsX8_gatherSessions wsX2_add := goodIn_r _ [26, 10, 27, 28, 14, 29, 58, 59, 60, 61, 62, 63, 64, 65, 66, 67] rfl (by decide +kernel)
set_option maxRecDepth 20000 in
theorem gX8_gatherSessions_X2_add : GoodIn wsX8_gatherSessions (wsV RX8 282 RX2 yX2_add wsX2_add) := goodIn_app (goodIn_of _ (by decide +kernel)) ggX8_gatherSessions_X2_add
theorem q9_dX8_gatherSessions_0 : (decode cX8_gatherSessions 0 = .ok (.aload_n 0, 1)) ∧ (decode cX8_gatherSessions 1 = .ok (.getfield 57, 3)) ∧ (decode cX8_gatherSessions 4 = .ok (.invokevirtual 281, 3)) ∧ (decode cX8_gatherSessions 7 = .ok (.iconst 0, 1)) ∧ (decode cX8_gatherSessions 8 = .ok (.istore 4, 2)) ∧ (decode cX8_gatherSessions 10 = .ok (.iload 4, 2)) ∧ (decode cX8_gatherSessions 12 = .ok (.aload_n 0, 1)) ∧ (decode cX8_gatherSessions 13 = .ok (.getfield 99, 3)) ∧ (decode cX8_gatherSessions 16 = .ok (.if_icmp .ge 71, 3)) ∧ (decode cX8_gatherSessions 19 = .ok (.aload_n 0, 1)) := by decide +kernel
theorem dX8_gatherSessions_0 : decode cX8_gatherSessions 0 = .ok (.aload_n 0, 1) := q9_dX8_gatherSessions_0.1
theorem dX8_gatherSessions_1 : decode cX8_gatherSessions 1 = .ok (.getfield 57, 3) := q9_dX8_gatherSessions_0.2.1
theorem dX8_gatherSessions_4 : decode cX8_gatherSessions 4 = .ok (.invokevirtual 281, 3) := q9_dX8_gatherSessions_0.2.2.1
theorem dX8_gatherSessions_7 : decode cX8_gatherSessions 7 = .ok (.iconst 0, 1) := q9_dX8_gatherSessions_0.2.2.2.1
theorem dX8_gatherSessions_8 : decode cX8_gatherSessions 8 = .ok (.istore 4, 2) := q9_dX8_gatherSessions_0.2.2.2.2.1
theorem dX8_gatherSessions_10 : decode cX8_gatherSessions 10 = .ok (.iload 4, 2) := q9_dX8_gatherSessions_0.2.2.2.2.2.1
theorem dX8_gatherSessions_12 : decode cX8_gatherSessions 12 = .ok (.aload_n 0, 1) := q9_dX8_gatherSessions_0.2.2.2.2.2.2.1
theorem dX8_gatherSessions_13 : decode cX8_gatherSessions 13 = .ok (.getfield 99, 3) := q9_dX8_gatherSessions_0.2.2.2.2.2.2.2.1
theorem dX8_gatherSessions_16 : decode cX8_gatherSessions 16 = .ok (.if_icmp .ge 71, 3) := q9_dX8_gatherSessions_0.2.2.2.2.2.2.2.2.1
theorem dX8_gatherSessions_19 : decode cX8_gatherSessions 19 = .ok (.aload_n 0, 1) := q9_dX8_gatherSessions_0.2.2.2.2.2.2.2.2.2
theorem q9_dX8_gatherSessions_20 : (decode cX8_gatherSessions 20 = .ok (.iload 4, 2)) ∧ (decode cX8_gatherSessions 22 = .ok (.invokevirtual 131, 3)) ∧ (decode cX8_gatherSessions 25 = .ok (.astore 5, 2)) ∧ (decode cX8_gatherSessions 27 = .ok (.aload 5, 2)) ∧ (decode cX8_gatherSessions 29 = .ok (.ifnull 52, 3)) ∧ (decode cX8_gatherSessions 32 = .ok (.aload 5, 2)) ∧ (decode cX8_gatherSessions 34 = .ok (.invokevirtual 270, 3)) ∧ (decode cX8_gatherSessions 37 = .ok (.ifCond .eq 44, 3)) ∧ (decode cX8_gatherSessions 40 = .ok (.aload 5, 2)) ∧ (decode cX8_gatherSessions 42 = .ok (.getfield 138, 3)) := by decide +kernel
theorem dX8_gatherSessions_20 : decode cX8_gatherSessions 20 = .ok (.iload 4, 2) := q9_dX8_gatherSessions_20.1
theorem dX8_gatherSessions_22 : decode cX8_gatherSessions 22 = .ok (.invokevirtual 131, 3) := q9_dX8_gatherSessions_20.2.1
theorem dX8_gatherSessions_25 : decode cX8_gatherSessions 25 = .ok (.astore 5, 2) := q9_dX8_gatherSessions_20.2.2.1
theorem dX8_gatherSessions_27 : decode cX8_gatherSessions 27 = .ok (.aload 5, 2) := q9_dX8_gatherSessions_20.2.2.2.1
theorem dX8_gatherSessions_29 : decode cX8_gatherSessions 29 = .ok (.ifnull 52, 3) := q9_dX8_gatherSessions_20.2.2.2.2.1
theorem dX8_gatherSessions_32 : decode cX8_gatherSessions 32 = .ok (.aload 5, 2) := q9_dX8_gatherSessions_20.2.2.2.2.2.1
theorem dX8_gatherSessions_34 : decode cX8_gatherSessions 34 = .ok (.invokevirtual 270, 3) := q9_dX8_gatherSessions_20.2.2.2.2.2.2.1
theorem dX8_gatherSessions_37 : decode cX8_gatherSessions 37 = .ok (.ifCond .eq 44, 3) := q9_dX8_gatherSessions_20.2.2.2.2.2.2.2.1
theorem dX8_gatherSessions_40 : decode cX8_gatherSessions 40 = .ok (.aload 5, 2) := q9_dX8_gatherSessions_20.2.2.2.2.2.2.2.2.1
theorem dX8_gatherSessions_42 : decode cX8_gatherSessions 42 = .ok (.getfield 138, 3) := q9_dX8_gatherSessions_20.2.2.2.2.2.2.2.2.2
theorem q9_dX8_gatherSessions_45 : (decode cX8_gatherSessions 45 = .ok (.iload_n 1, 1)) ∧ (decode cX8_gatherSessions 46 = .ok (.if_icmp .ne 35, 3)) ∧ (decode cX8_gatherSessions 49 = .ok (.aload 5, 2)) ∧ (decode cX8_gatherSessions 51 = .ok (.getfield 141, 3)) ∧ (decode cX8_gatherSessions 54 = .ok (.iload_n 2, 1)) ∧ (decode cX8_gatherSessions 55 = .ok (.if_icmp .lt 26, 3)) ∧ (decode cX8_gatherSessions 58 = .ok (.aload 5, 2)) ∧ (decode cX8_gatherSessions 60 = .ok (.getfield 141, 3)) ∧ (decode cX8_gatherSessions 63 = .ok (.iload_n 3, 1)) ∧ (decode cX8_gatherSessions 64 = .ok (.if_icmp .ge 17, 3)) := by decide +kernel
theorem dX8_gatherSessions_45 : decode cX8_gatherSessions 45 = .ok (.iload_n 1, 1) := q9_dX8_gatherSessions_45.1
theorem dX8_gatherSessions_46 : decode cX8_gatherSessions 46 = .ok (.if_icmp .ne 35, 3) := q9_dX8_gatherSessions_45.2.1
theorem dX8_gatherSessions_49 : decode cX8_gatherSessions 49 = .ok (.aload 5, 2) := q9_dX8_gatherSessions_45.2.2.1
theorem dX8_gatherSessions_51 : decode cX8_gatherSessions 51 = .ok (.getfield 141, 3) := q9_dX8_gatherSessions_45.2.2.2.1
theorem dX8_gatherSessions_54 : decode cX8_gatherSessions 54 = .ok (.iload_n 2, 1) := q9_dX8_gatherSessions_45.2.2.2.2.1
theorem dX8_gatherSessions_55 : decode cX8_gatherSessions 55 = .ok (.if_icmp .lt 26, 3) := q9_dX8_gatherSessions_45.2.2.2.2.2.1
theorem dX8_gatherSessions_58 : decode cX8_gatherSessions 58 = .ok (.aload 5, 2) := q9_dX8_gatherSessions_45.2.2.2.2.2.2.1
theorem dX8_gatherSessions_60 : decode cX8_gatherSessions 60 = .ok (.getfield 141, 3) := q9_dX8_gatherSessions_45.2.2.2.2.2.2.2.1
theorem dX8_gatherSessions_63 : decode cX8_gatherSessions 63 = .ok (.iload_n 3, 1) := q9_dX8_gatherSessions_45.2.2.2.2.2.2.2.2.1
theorem dX8_gatherSessions_64 : decode cX8_gatherSessions 64 = .ok (.if_icmp .ge 17, 3) := q9_dX8_gatherSessions_45.2.2.2.2.2.2.2.2.2
theorem q9_dX8_gatherSessions_67 : (decode cX8_gatherSessions 67 = .ok (.aload_n 0, 1)) ∧ (decode cX8_gatherSessions 68 = .ok (.getfield 57, 3)) ∧ (decode cX8_gatherSessions 71 = .ok (.aload 5, 2)) ∧ (decode cX8_gatherSessions 73 = .ok (.invokevirtual 282, 3)) ∧ (decode cX8_gatherSessions 76 = .ok (.ifCond .ne 5, 3)) ∧ (decode cX8_gatherSessions 79 = .ok (.iconst 0, 1)) ∧ (decode cX8_gatherSessions 80 = .ok (.ireturn, 1)) ∧ (decode cX8_gatherSessions 81 = .ok (.iinc 4 1, 3)) ∧ (decode cX8_gatherSessions 84 = .ok (.goto (-74), 3)) ∧ (decode cX8_gatherSessions 87 = .ok (.iconst 1, 1)) := by decide +kernel
theorem dX8_gatherSessions_67 : decode cX8_gatherSessions 67 = .ok (.aload_n 0, 1) := q9_dX8_gatherSessions_67.1
theorem dX8_gatherSessions_68 : decode cX8_gatherSessions 68 = .ok (.getfield 57, 3) := q9_dX8_gatherSessions_67.2.1
theorem dX8_gatherSessions_71 : decode cX8_gatherSessions 71 = .ok (.aload 5, 2) := q9_dX8_gatherSessions_67.2.2.1
theorem dX8_gatherSessions_73 : decode cX8_gatherSessions 73 = .ok (.invokevirtual 282, 3) := q9_dX8_gatherSessions_67.2.2.2.1
theorem dX8_gatherSessions_76 : decode cX8_gatherSessions 76 = .ok (.ifCond .ne 5, 3) := q9_dX8_gatherSessions_67.2.2.2.2.1
theorem dX8_gatherSessions_79 : decode cX8_gatherSessions 79 = .ok (.iconst 0, 1) := q9_dX8_gatherSessions_67.2.2.2.2.2.1
theorem dX8_gatherSessions_80 : decode cX8_gatherSessions 80 = .ok (.ireturn, 1) := q9_dX8_gatherSessions_67.2.2.2.2.2.2.1
theorem dX8_gatherSessions_81 : decode cX8_gatherSessions 81 = .ok (.iinc 4 1, 3) := q9_dX8_gatherSessions_67.2.2.2.2.2.2.2.1
theorem dX8_gatherSessions_84 : decode cX8_gatherSessions 84 = .ok (.goto (-74), 3) := q9_dX8_gatherSessions_67.2.2.2.2.2.2.2.2.1
theorem dX8_gatherSessions_87 : decode cX8_gatherSessions 87 = .ok (.iconst 1, 1) := q9_dX8_gatherSessions_67.2.2.2.2.2.2.2.2.2
theorem q9_dX8_gatherSessions_88 : (decode cX8_gatherSessions 88 = .ok (.ireturn, 1)) ∧ (decode cX8_runCompressors 0 = .ok (.aload_n 0, 1)) ∧ (decode cX8_runCompressors 1 = .ok (.dup, 1)) ∧ (decode cX8_runCompressors 2 = .ok (.getfield 264, 3)) ∧ (decode cX8_runCompressors 5 = .ok (.iload_n 1, 1)) ∧ (decode cX8_runCompressors 6 = .ok (.aload_n 0, 1)) ∧ (decode cX8_runCompressors 7 = .ok (.getfield 32, 3)) ∧ (decode cX8_runCompressors 10 = .ok (.aload_n 0, 1)) ∧ (decode cX8_runCompressors 11 = .ok (.getfield 96, 3)) ∧ (decode cX8_runCompressors 14 = .ok (.bipush 24, 2)) := by decide +kernel
theorem dX8_gatherSessions_88 : decode cX8_gatherSessions 88 = .ok (.ireturn, 1) := q9_dX8_gatherSessions_88.1
theorem dX8_runCompressors_0 : decode cX8_runCompressors 0 = .ok (.aload_n 0, 1) := q9_dX8_gatherSessions_88.2.1
theorem dX8_runCompressors_1 : decode cX8_runCompressors 1 = .ok (.dup, 1) := q9_dX8_gatherSessions_88.2.2.1
theorem dX8_runCompressors_2 : decode cX8_runCompressors 2 = .ok (.getfield 264, 3) := q9_dX8_gatherSessions_88.2.2.2.1
theorem dX8_runCompressors_5 : decode cX8_runCompressors 5 = .ok (.iload_n 1, 1) := q9_dX8_gatherSessions_88.2.2.2.2.1
theorem dX8_runCompressors_6 : decode cX8_runCompressors 6 = .ok (.aload_n 0, 1) := q9_dX8_gatherSessions_88.2.2.2.2.2.1
theorem dX8_runCompressors_7 : decode cX8_runCompressors 7 = .ok (.getfield 32, 3) := q9_dX8_gatherSessions_88.2.2.2.2.2.2.1
theorem dX8_runCompressors_10 : decode cX8_runCompressors 10 = .ok (.aload_n 0, 1) := q9_dX8_gatherSessions_88.2.2.2.2.2.2.2.1
theorem dX8_runCompressors_11 : decode cX8_runCompressors 11 = .ok (.getfield 96, 3) := q9_dX8_gatherSessions_88.2.2.2.2.2.2.2.2.1
theorem dX8_runCompressors_14 : decode cX8_runCompressors 14 = .ok (.bipush 24, 2) := q9_dX8_gatherSessions_88.2.2.2.2.2.2.2.2.2
theorem q9_dX8_runCompressors_16 : (decode cX8_runCompressors 16 = .ok (.irem, 1)) ∧ (decode cX8_runCompressors 17 = .ok (.iaload, 1)) ∧ (decode cX8_runCompressors 18 = .ok (.imul, 1)) ∧ (decode cX8_runCompressors 19 = .ok (.iadd, 1)) ∧ (decode cX8_runCompressors 20 = .ok (.putfield 264, 3)) ∧ (decode cX8_runCompressors 23 = .ok (.aload_n 0, 1)) ∧ (decode cX8_runCompressors 24 = .ok (.dup, 1)) ∧ (decode cX8_runCompressors 25 = .ok (.getfield 68, 3)) ∧ (decode cX8_runCompressors 28 = .ok (.iload_n 1, 1)) ∧ (decode cX8_runCompressors 29 = .ok (.bipush 20, 2)) := by decide +kernel
theorem dX8_runCompressors_16 : decode cX8_runCompressors 16 = .ok (.irem, 1) := q9_dX8_runCompressors_16.1
theorem dX8_runCompressors_17 : decode cX8_runCompressors 17 = .ok (.iaload, 1) := q9_dX8_runCompressors_16.2.1
theorem dX8_runCompressors_18 : decode cX8_runCompressors 18 = .ok (.imul, 1) := q9_dX8_runCompressors_16.2.2.1
theorem dX8_runCompressors_19 : decode cX8_runCompressors 19 = .ok (.iadd, 1) := q9_dX8_runCompressors_16.2.2.2.1
theorem dX8_runCompressors_20 : decode cX8_runCompressors 20 = .ok (.putfield 264, 3) := q9_dX8_runCompressors_16.2.2.2.2.1
theorem dX8_runCompressors_23 : decode cX8_runCompressors 23 = .ok (.aload_n 0, 1) := q9_dX8_runCompressors_16.2.2.2.2.2.1
theorem dX8_runCompressors_24 : decode cX8_runCompressors 24 = .ok (.dup, 1) := q9_dX8_runCompressors_16.2.2.2.2.2.2.1
theorem dX8_runCompressors_25 : decode cX8_runCompressors 25 = .ok (.getfield 68, 3) := q9_dX8_runCompressors_16.2.2.2.2.2.2.2.1
theorem dX8_runCompressors_28 : decode cX8_runCompressors 28 = .ok (.iload_n 1, 1) := q9_dX8_runCompressors_16.2.2.2.2.2.2.2.2.1
theorem dX8_runCompressors_29 : decode cX8_runCompressors 29 = .ok (.bipush 20, 2) := q9_dX8_runCompressors_16.2.2.2.2.2.2.2.2.2
theorem q9_dX8_runCompressors_31 : (decode cX8_runCompressors 31 = .ok (.imul, 1)) ∧ (decode cX8_runCompressors 32 = .ok (.iadd, 1)) ∧ (decode cX8_runCompressors 33 = .ok (.putfield 68, 3)) ∧ (decode cX8_runCompressors 36 = .ok (.aload_n 0, 1)) ∧ (decode cX8_runCompressors 37 = .ok (.getfield 68, 3)) ∧ (decode cX8_runCompressors 40 = .ok (.aload_n 0, 1)) ∧ (decode cX8_runCompressors 41 = .ok (.getfield 72, 3)) ∧ (decode cX8_runCompressors 44 = .ok (.if_icmp .le 29, 3)) ∧ (decode cX8_runCompressors 47 = .ok (.aload_n 0, 1)) ∧ (decode cX8_runCompressors 48 = .ok (.dup, 1)) := by decide +kernel
theorem dX8_runCompressors_31 : decode cX8_runCompressors 31 = .ok (.imul, 1) := q9_dX8_runCompressors_31.1
theorem dX8_runCompressors_32 : decode cX8_runCompressors 32 = .ok (.iadd, 1) := q9_dX8_runCompressors_31.2.1
theorem dX8_runCompressors_33 : decode cX8_runCompressors 33 = .ok (.putfield 68, 3) := q9_dX8_runCompressors_31.2.2.1
theorem dX8_runCompressors_36 : decode cX8_runCompressors 36 = .ok (.aload_n 0, 1) := q9_dX8_runCompressors_31.2.2.2.1
theorem dX8_runCompressors_37 : decode cX8_runCompressors 37 = .ok (.getfield 68, 3) := q9_dX8_runCompressors_31.2.2.2.2.1
theorem dX8_runCompressors_40 : decode cX8_runCompressors 40 = .ok (.aload_n 0, 1) := q9_dX8_runCompressors_31.2.2.2.2.2.1
theorem dX8_runCompressors_41 : decode cX8_runCompressors 41 = .ok (.getfield 72, 3) := q9_dX8_runCompressors_31.2.2.2.2.2.2.1
theorem dX8_runCompressors_44 : decode cX8_runCompressors 44 = .ok (.if_icmp .le 29, 3) := q9_dX8_runCompressors_31.2.2.2.2.2.2.2.1
theorem dX8_runCompressors_47 : decode cX8_runCompressors 47 = .ok (.aload_n 0, 1) := q9_dX8_runCompressors_31.2.2.2.2.2.2.2.2.1
theorem dX8_runCompressors_48 : decode cX8_runCompressors 48 = .ok (.dup, 1) := q9_dX8_runCompressors_31.2.2.2.2.2.2.2.2.2
theorem q9_dX8_runCompressors_49 : (decode cX8_runCompressors 49 = .ok (.getfield 261, 3)) ∧ (decode cX8_runCompressors 52 = .ok (.aload_n 0, 1)) ∧ (decode cX8_runCompressors 53 = .ok (.getfield 68, 3)) ∧ (decode cX8_runCompressors 56 = .ok (.aload_n 0, 1)) ∧ (decode cX8_runCompressors 57 = .ok (.getfield 72, 3)) ∧ (decode cX8_runCompressors 60 = .ok (.isub, 1)) ∧ (decode cX8_runCompressors 61 = .ok (.iadd, 1)) ∧ (decode cX8_runCompressors 62 = .ok (.putfield 261, 3)) ∧ (decode cX8_runCompressors 65 = .ok (.aload_n 0, 1)) ∧ (decode cX8_runCompressors 66 = .ok (.aload_n 0, 1)) := by decide +kernel
theorem dX8_runCompressors_49 : decode cX8_runCompressors 49 = .ok (.getfield 261, 3) := q9_dX8_runCompressors_49.1
theorem dX8_runCompressors_52 : decode cX8_runCompressors 52 = .ok (.aload_n 0, 1) := q9_dX8_runCompressors_49.2.1
theorem dX8_runCompressors_53 : decode cX8_runCompressors 53 = .ok (.getfield 68, 3) := q9_dX8_runCompressors_49.2.2.1
theorem dX8_runCompressors_56 : decode cX8_runCompressors 56 = .ok (.aload_n 0, 1) := q9_dX8_runCompressors_49.2.2.2.1
theorem dX8_runCompressors_57 : decode cX8_runCompressors 57 = .ok (.getfield 72, 3) := q9_dX8_runCompressors_49.2.2.2.2.1
theorem dX8_runCompressors_60 : decode cX8_runCompressors 60 = .ok (.isub, 1) := q9_dX8_runCompressors_49.2.2.2.2.2.1
theorem dX8_runCompressors_61 : decode cX8_runCompressors 61 = .ok (.iadd, 1) := q9_dX8_runCompressors_49.2.2.2.2.2.2.1
theorem dX8_runCompressors_62 : decode cX8_runCompressors 62 = .ok (.putfield 261, 3) := q9_dX8_runCompressors_49.2.2.2.2.2.2.2.1
theorem dX8_runCompressors_65 : decode cX8_runCompressors 65 = .ok (.aload_n 0, 1) := q9_dX8_runCompressors_49.2.2.2.2.2.2.2.2.1
theorem dX8_runCompressors_66 : decode cX8_runCompressors 66 = .ok (.aload_n 0, 1) := q9_dX8_runCompressors_49.2.2.2.2.2.2.2.2.2
theorem q9_dX8_runCompressors_67 : (decode cX8_runCompressors 67 = .ok (.getfield 72, 3)) ∧ (decode cX8_runCompressors 70 = .ok (.putfield 68, 3)) ∧ (decode cX8_runCompressors 73 = .ok (.return_, 1)) := by decide +kernel
theorem dX8_runCompressors_67 : decode cX8_runCompressors 67 = .ok (.getfield 72, 3) := q9_dX8_runCompressors_67.1
theorem dX8_runCompressors_70 : decode cX8_runCompressors 70 = .ok (.putfield 68, 3) := q9_dX8_runCompressors_67.2.1
theorem dX8_runCompressors_73 : decode cX8_runCompressors 73 = .ok (.return_, 1) := q9_dX8_runCompressors_67.2.2
set_option maxRecDepth 20000 in
theorem ggX8_passHour_X8_iceOf : GoodIn wsX8_passHour wsX8_iceOf := goodIn_r _ [12, 13, 14, 105, 106, 107, 108, 109, 110, 111, 112, 113, 114, 115, 116, 117, 118, 119, 120, 121, 122] rfl (by decide +kernel)
set_option maxRecDepth 20000 in
theorem gX8_passHour_X8_iceOf : GoodIn wsX8_passHour (wsV RX8 112 RX8 yX8_iceOf wsX8_iceOf) := goodIn_app (goodIn_of _ (by decide +kernel)) ggX8_passHour_X8_iceOf
set_option maxRecDepth 20000 in
theorem ggX8_passHour_X8_standingAt : GoodIn wsX8_passHour wsX8_standingAt := goodIn_r _ [18, 19, 20, 21, 11, 22, 23, 24, 25, 26, 8, 9, 10, 12, 13, 14, 27, 28, 29, 30, 31, 32, 33, 34, 35, 36, 37, 38, 39, 40, 41, 42, 43, 123, 124, 125, 126, 127, 128, 129, 130, 131, 132, 105, 106, 107, 108, 109, 110, 111, 112, 113, 114, 115, 116, 117, 118, 119, 120, 121, 122, 133, 134, 135, 136, 137, 138, 139, 140, 141, 142, 143] rfl (by decide +kernel)
set_option maxRecDepth 20000 in
theorem gX8_passHour_X8_standingAt : GoodIn wsX8_passHour (wsV RX8 197 RX8 yX8_standingAt wsX8_standingAt) := goodIn_app (goodIn_of _ (by decide +kernel)) ggX8_passHour_X8_standingAt
set_option maxRecDepth 20000 in
theorem ggX8_passHour_X8_heatOf : GoodIn wsX8_passHour wsX8_heatOf := goodIn_r _ [46, 47, 48, 49, 50, 11, 51, 52, 53, 54, 133, 134, 135, 136, 137, 138, 139, 140, 141, 142] rfl (by decide +kernel)
set_option maxRecDepth 20000 in
theorem gX8_passHour_X8_heatOf : GoodIn wsX8_passHour (va_wsS RX8 201 yX8_heatOf wsX8_heatOf) := goodIn_app (goodIn_of _ (by decide +kernel)) ggX8_passHour_X8_heatOf
set_option maxRecDepth 20000 in
theorem ggX8_passHour_X1_melt : GoodIn wsX8_passHour wsX1_melt := goodIn_r _ [59, 60, 61, 4, 5, 6, 62, 123, 124, 125, 126, 127, 128, 129, 130, 131, 132] rfl (by decide +kernel)
set_option maxRecDepth 20000 in
theorem gX8_passHour_X1_melt : GoodIn wsX8_passHour (wsV RX8 291 RX1 yX1_melt wsX1_melt) := goodIn_app (goodIn_of _ (by decide +kernel)) ggX8_passHour_X1_melt
set_option maxRecDepth 20000 in
theorem ggX8_passHour_X1_decide : GoodIn wsX8_passHour wsX1_decide := goodIn_r _ [66, 60, 67, 68, 69, 70, 71, 41, 72, 43, 73, 74, 75, 76, 77, 78, 79, 50, 11, 51, 52, 53, 54, 123, 124, 125, 126, 127, 128, 129, 130, 131, 132, 133, 134, 135, 136, 137, 138, 139, 140, 141, 142] rfl (by decide +kernel)
set_option maxRecDepth 20000 in
theorem gX8_passHour_X1_decide : GoodIn wsX8_passHour (wsV RX8 294 RX1 yX1_decide wsX1_decide) := goodIn_app (goodIn_of _ (by decide +kernel)) ggX8_passHour_X1_decide
set_option maxRecDepth 20000 in
theorem ggX8_passHour_X0_has : GoodIn wsX8_passHour wsX0_has := goodIn_r _ [31, 32, 143] rfl (by decide +kernel)
set_option maxRecDepth 20000 in
theorem gX8_passHour_X0_has : GoodIn wsX8_passHour (wsV RX8 255 RX0 yX0_has wsX0_has) := goodIn_app (goodIn_of _ (by decide +kernel)) ggX8_passHour_X0_has
set_option maxRecDepth 20000 in
theorem ggX8_passHour_X8_makeCut : GoodIn wsX8_passHour wsX8_makeCut := goodIn_r _ [83, 84, 2, 3, 4, 5, 6, 85, 86, 87, 88, 58, 89, 90, 60, 61, 91, 67, 92, 93, 94, 95, 96, 97, 98, 99, 100, 101, 102, 103, 104, 123, 124, 125, 126, 127, 128, 129, 130, 131, 132, 105, 106, 107, 108, 109, 110, 111, 112, 113, 114, 115, 116, 117, 118, 119, 120, 121, 122] rfl (by decide +kernel)
set_option maxRecDepth 20000 in
theorem gX8_passHour_X8_makeCut : GoodIn wsX8_passHour (wsV RX8 298 RX8 yX8_makeCut wsX8_makeCut) := goodIn_app (goodIn_of _ (by decide +kernel)) ggX8_passHour_X8_makeCut
theorem q9_dX8_passHour_0 : (decode cX8_passHour 0 = .ok (.aload_n 0, 1)) ∧ (decode cX8_passHour 1 = .ok (.iload_n 1, 1)) ∧ (decode cX8_passHour 2 = .ok (.invokevirtual 112, 3)) ∧ (decode cX8_passHour 5 = .ok (.astore_n 3, 1)) ∧ (decode cX8_passHour 6 = .ok (.aload_n 0, 1)) ∧ (decode cX8_passHour 7 = .ok (.iload_n 1, 1)) ∧ (decode cX8_passHour 8 = .ok (.aload_n 0, 1)) ∧ (decode cX8_passHour 9 = .ok (.getfield 96, 3)) ∧ (decode cX8_passHour 12 = .ok (.invokevirtual 197, 3)) ∧ (decode cX8_passHour 15 = .ok (.astore 4, 2)) := by decide +kernel
theorem dX8_passHour_0 : decode cX8_passHour 0 = .ok (.aload_n 0, 1) := q9_dX8_passHour_0.1
theorem dX8_passHour_1 : decode cX8_passHour 1 = .ok (.iload_n 1, 1) := q9_dX8_passHour_0.2.1
theorem dX8_passHour_2 : decode cX8_passHour 2 = .ok (.invokevirtual 112, 3) := q9_dX8_passHour_0.2.2.1
theorem dX8_passHour_5 : decode cX8_passHour 5 = .ok (.astore_n 3, 1) := q9_dX8_passHour_0.2.2.2.1
theorem dX8_passHour_6 : decode cX8_passHour 6 = .ok (.aload_n 0, 1) := q9_dX8_passHour_0.2.2.2.2.1
theorem dX8_passHour_7 : decode cX8_passHour 7 = .ok (.iload_n 1, 1) := q9_dX8_passHour_0.2.2.2.2.2.1
theorem dX8_passHour_8 : decode cX8_passHour 8 = .ok (.aload_n 0, 1) := q9_dX8_passHour_0.2.2.2.2.2.2.1
theorem dX8_passHour_9 : decode cX8_passHour 9 = .ok (.getfield 96, 3) := q9_dX8_passHour_0.2.2.2.2.2.2.2.1
theorem dX8_passHour_12 : decode cX8_passHour 12 = .ok (.invokevirtual 197, 3) := q9_dX8_passHour_0.2.2.2.2.2.2.2.2.1
theorem dX8_passHour_15 : decode cX8_passHour 15 = .ok (.astore 4, 2) := q9_dX8_passHour_0.2.2.2.2.2.2.2.2.2
theorem q9_dX8_passHour_17 : (decode cX8_passHour 17 = .ok (.iload_n 2, 1)) ∧ (decode cX8_passHour 18 = .ok (.aload 4, 2)) ∧ (decode cX8_passHour 20 = .ok (.invokestatic 201, 3)) ∧ (decode cX8_passHour 23 = .ok (.iadd, 1)) ∧ (decode cX8_passHour 24 = .ok (.istore 5, 2)) ∧ (decode cX8_passHour 26 = .ok (.iload 5, 2)) ∧ (decode cX8_passHour 28 = .ok (.aload_n 0, 1)) ∧ (decode cX8_passHour 29 = .ok (.getfield 68, 3)) ∧ (decode cX8_passHour 32 = .ok (.invokestatic 286, 3)) ∧ (decode cX8_passHour 35 = .ok (.istore 6, 2)) := by decide +kernel
theorem dX8_passHour_17 : decode cX8_passHour 17 = .ok (.iload_n 2, 1) := q9_dX8_passHour_17.1
theorem dX8_passHour_18 : decode cX8_passHour 18 = .ok (.aload 4, 2) := q9_dX8_passHour_17.2.1
theorem dX8_passHour_20 : decode cX8_passHour 20 = .ok (.invokestatic 201, 3) := q9_dX8_passHour_17.2.2.1
theorem dX8_passHour_23 : decode cX8_passHour 23 = .ok (.iadd, 1) := q9_dX8_passHour_17.2.2.2.1
theorem dX8_passHour_24 : decode cX8_passHour 24 = .ok (.istore 5, 2) := q9_dX8_passHour_17.2.2.2.2.1
theorem dX8_passHour_26 : decode cX8_passHour 26 = .ok (.iload 5, 2) := q9_dX8_passHour_17.2.2.2.2.2.1
theorem dX8_passHour_28 : decode cX8_passHour 28 = .ok (.aload_n 0, 1) := q9_dX8_passHour_17.2.2.2.2.2.2.1
theorem dX8_passHour_29 : decode cX8_passHour 29 = .ok (.getfield 68, 3) := q9_dX8_passHour_17.2.2.2.2.2.2.2.1
theorem dX8_passHour_32 : decode cX8_passHour 32 = .ok (.invokestatic 286, 3) := q9_dX8_passHour_17.2.2.2.2.2.2.2.2.1
theorem dX8_passHour_35 : decode cX8_passHour 35 = .ok (.istore 6, 2) := q9_dX8_passHour_17.2.2.2.2.2.2.2.2.2
theorem q9_dX8_passHour_37 : (decode cX8_passHour 37 = .ok (.aload_n 0, 1)) ∧ (decode cX8_passHour 38 = .ok (.dup, 1)) ∧ (decode cX8_passHour 39 = .ok (.getfield 68, 3)) ∧ (decode cX8_passHour 42 = .ok (.iload 6, 2)) ∧ (decode cX8_passHour 44 = .ok (.isub, 1)) ∧ (decode cX8_passHour 45 = .ok (.putfield 68, 3)) ∧ (decode cX8_passHour 48 = .ok (.aload_n 3, 1)) ∧ (decode cX8_passHour 49 = .ok (.iload 5, 2)) ∧ (decode cX8_passHour 51 = .ok (.iload 6, 2)) ∧ (decode cX8_passHour 53 = .ok (.isub, 1)) := by decide +kernel
theorem dX8_passHour_37 : decode cX8_passHour 37 = .ok (.aload_n 0, 1) := q9_dX8_passHour_37.1
theorem dX8_passHour_38 : decode cX8_passHour 38 = .ok (.dup, 1) := q9_dX8_passHour_37.2.1
theorem dX8_passHour_39 : decode cX8_passHour 39 = .ok (.getfield 68, 3) := q9_dX8_passHour_37.2.2.1
theorem dX8_passHour_42 : decode cX8_passHour 42 = .ok (.iload 6, 2) := q9_dX8_passHour_37.2.2.2.1
theorem dX8_passHour_44 : decode cX8_passHour 44 = .ok (.isub, 1) := q9_dX8_passHour_37.2.2.2.2.1
theorem dX8_passHour_45 : decode cX8_passHour 45 = .ok (.putfield 68, 3) := q9_dX8_passHour_37.2.2.2.2.2.1
theorem dX8_passHour_48 : decode cX8_passHour 48 = .ok (.aload_n 3, 1) := q9_dX8_passHour_37.2.2.2.2.2.2.1
theorem dX8_passHour_49 : decode cX8_passHour 49 = .ok (.iload 5, 2) := q9_dX8_passHour_37.2.2.2.2.2.2.2.1
theorem dX8_passHour_51 : decode cX8_passHour 51 = .ok (.iload 6, 2) := q9_dX8_passHour_37.2.2.2.2.2.2.2.2.1
theorem dX8_passHour_53 : decode cX8_passHour 53 = .ok (.isub, 1) := q9_dX8_passHour_37.2.2.2.2.2.2.2.2.2
theorem q9_dX8_passHour_54 : (decode cX8_passHour 54 = .ok (.invokevirtual 291, 3)) ∧ (decode cX8_passHour 57 = .ok (.aload 4, 2)) ∧ (decode cX8_passHour 59 = .ok (.ifnull 12, 3)) ∧ (decode cX8_passHour 62 = .ok (.aload_n 3, 1)) ∧ (decode cX8_passHour 63 = .ok (.aload 4, 2)) ∧ (decode cX8_passHour 65 = .ok (.invokevirtual 294, 3)) ∧ (decode cX8_passHour 68 = .ok (.goto 22, 3)) ∧ (decode cX8_passHour 71 = .ok (.aload_n 3, 1)) ∧ (decode cX8_passHour 72 = .ok (.getfield 171, 3)) ∧ (decode cX8_passHour 75 = .ok (.aload_n 0, 1)) := by decide +kernel
theorem dX8_passHour_54 : decode cX8_passHour 54 = .ok (.invokevirtual 291, 3) := q9_dX8_passHour_54.1
theorem dX8_passHour_57 : decode cX8_passHour 57 = .ok (.aload 4, 2) := q9_dX8_passHour_54.2.1
theorem dX8_passHour_59 : decode cX8_passHour 59 = .ok (.ifnull 12, 3) := q9_dX8_passHour_54.2.2.1
theorem dX8_passHour_62 : decode cX8_passHour 62 = .ok (.aload_n 3, 1) := q9_dX8_passHour_54.2.2.2.1
theorem dX8_passHour_63 : decode cX8_passHour 63 = .ok (.aload 4, 2) := q9_dX8_passHour_54.2.2.2.2.1
theorem dX8_passHour_65 : decode cX8_passHour 65 = .ok (.invokevirtual 294, 3) := q9_dX8_passHour_54.2.2.2.2.2.1
theorem dX8_passHour_68 : decode cX8_passHour 68 = .ok (.goto 22, 3) := q9_dX8_passHour_54.2.2.2.2.2.2.1
theorem dX8_passHour_71 : decode cX8_passHour 71 = .ok (.aload_n 3, 1) := q9_dX8_passHour_54.2.2.2.2.2.2.2.1
theorem dX8_passHour_72 : decode cX8_passHour 72 = .ok (.getfield 171, 3) := q9_dX8_passHour_54.2.2.2.2.2.2.2.2.1
theorem dX8_passHour_75 : decode cX8_passHour 75 = .ok (.aload_n 0, 1) := q9_dX8_passHour_54.2.2.2.2.2.2.2.2.2
theorem q9_dX8_passHour_76 : (decode cX8_passHour 76 = .ok (.getfield 96, 3)) ∧ (decode cX8_passHour 79 = .ok (.invokevirtual 255, 3)) ∧ (decode cX8_passHour 82 = .ok (.ifCond .ne 8, 3)) ∧ (decode cX8_passHour 85 = .ok (.aload_n 0, 1)) ∧ (decode cX8_passHour 86 = .ok (.aload_n 3, 1)) ∧ (decode cX8_passHour 87 = .ok (.invokevirtual 298, 3)) ∧ (decode cX8_passHour 90 = .ok (.return_, 1)) := by decide +kernel
theorem dX8_passHour_76 : decode cX8_passHour 76 = .ok (.getfield 96, 3) := q9_dX8_passHour_76.1
theorem dX8_passHour_79 : decode cX8_passHour 79 = .ok (.invokevirtual 255, 3) := q9_dX8_passHour_76.2.1
theorem dX8_passHour_82 : decode cX8_passHour 82 = .ok (.ifCond .ne 8, 3) := q9_dX8_passHour_76.2.2.1
theorem dX8_passHour_85 : decode cX8_passHour 85 = .ok (.aload_n 0, 1) := q9_dX8_passHour_76.2.2.2.1
theorem dX8_passHour_86 : decode cX8_passHour 86 = .ok (.aload_n 3, 1) := q9_dX8_passHour_76.2.2.2.2.1
theorem dX8_passHour_87 : decode cX8_passHour 87 = .ok (.invokevirtual 298, 3) := q9_dX8_passHour_76.2.2.2.2.2.1
theorem dX8_passHour_90 : decode cX8_passHour 90 = .ok (.return_, 1) := q9_dX8_passHour_76.2.2.2.2.2.2
set_option maxRecDepth 20000 in
theorem ggX8_makeCut_X1_shave : GoodIn wsX8_makeCut wsX1_shave := goodIn_r _ [12, 13, 14, 15, 4, 5, 6, 16, 17, 18, 19, 20, 31, 32, 33, 34, 35, 36, 37, 38, 39, 40] rfl (by decide +kernel)
set_option maxRecDepth 20000 in
theorem gX8_makeCut_X1_shave : GoodIn wsX8_makeCut (wsV RX8 302 RX1 yX1_shave wsX1_shave) := goodIn_app (goodIn_of _ (by decide +kernel)) ggX8_makeCut_X1_shave
set_option maxRecDepth 20000 in
theorem ggX8_makeCut_X1_freeze : GoodIn wsX8_makeCut wsX1_freeze := goodIn_r _ [24, 14, 25, 31, 32, 33, 34, 35, 36, 37, 38, 39, 40] rfl (by decide +kernel)
set_option maxRecDepth 20000 in
theorem gX8_makeCut_X1_freeze : GoodIn wsX8_makeCut (wsV RX8 308 RX1 yX1_freeze wsX1_freeze) := goodIn_app (goodIn_of _ (by decide +kernel)) ggX8_makeCut_X1_freeze
set_option maxRecDepth 20000 in
theorem ggX8_makeCut_X1_tellCut : GoodIn wsX8_makeCut wsX1_tellCut := goodIn_r _ [29, 13, 30, 31, 32, 33, 34, 35, 36, 37, 38, 39, 40] rfl (by decide +kernel)
set_option maxRecDepth 20000 in
theorem gX8_makeCut_X1_tellCut : GoodIn wsX8_makeCut (wsV RX8 160 RX1 yX1_tellCut wsX1_tellCut) := goodIn_app (goodIn_of _ (by decide +kernel)) ggX8_makeCut_X1_tellCut
theorem q9_dX8_makeCut_0 : (decode cX8_makeCut 0 = .ok (.aload_n 1, 1)) ∧ (decode cX8_makeCut 1 = .ok (.invokevirtual 302, 3)) ∧ (decode cX8_makeCut 4 = .ok (.aload_n 1, 1)) ∧ (decode cX8_makeCut 5 = .ok (.getfield 305, 3)) ∧ (decode cX8_makeCut 8 = .ok (.aload_n 0, 1)) ∧ (decode cX8_makeCut 9 = .ok (.getfield 68, 3)) ∧ (decode cX8_makeCut 12 = .ok (.iconst 3, 1)) ∧ (decode cX8_makeCut 13 = .ok (.idiv, 1)) ∧ (decode cX8_makeCut 14 = .ok (.invokestatic 286, 3)) ∧ (decode cX8_makeCut 17 = .ok (.istore_n 2, 1)) := by decide +kernel
theorem dX8_makeCut_0 : decode cX8_makeCut 0 = .ok (.aload_n 1, 1) := q9_dX8_makeCut_0.1
theorem dX8_makeCut_1 : decode cX8_makeCut 1 = .ok (.invokevirtual 302, 3) := q9_dX8_makeCut_0.2.1
theorem dX8_makeCut_4 : decode cX8_makeCut 4 = .ok (.aload_n 1, 1) := q9_dX8_makeCut_0.2.2.1
theorem dX8_makeCut_5 : decode cX8_makeCut 5 = .ok (.getfield 305, 3) := q9_dX8_makeCut_0.2.2.2.1
theorem dX8_makeCut_8 : decode cX8_makeCut 8 = .ok (.aload_n 0, 1) := q9_dX8_makeCut_0.2.2.2.2.1
theorem dX8_makeCut_9 : decode cX8_makeCut 9 = .ok (.getfield 68, 3) := q9_dX8_makeCut_0.2.2.2.2.2.1
theorem dX8_makeCut_12 : decode cX8_makeCut 12 = .ok (.iconst 3, 1) := q9_dX8_makeCut_0.2.2.2.2.2.2.1
theorem dX8_makeCut_13 : decode cX8_makeCut 13 = .ok (.idiv, 1) := q9_dX8_makeCut_0.2.2.2.2.2.2.2.1
theorem dX8_makeCut_14 : decode cX8_makeCut 14 = .ok (.invokestatic 286, 3) := q9_dX8_makeCut_0.2.2.2.2.2.2.2.2.1
theorem dX8_makeCut_17 : decode cX8_makeCut 17 = .ok (.istore_n 2, 1) := q9_dX8_makeCut_0.2.2.2.2.2.2.2.2.2
theorem q9_dX8_makeCut_18 : (decode cX8_makeCut 18 = .ok (.aload_n 0, 1)) ∧ (decode cX8_makeCut 19 = .ok (.dup, 1)) ∧ (decode cX8_makeCut 20 = .ok (.getfield 68, 3)) ∧ (decode cX8_makeCut 23 = .ok (.iload_n 2, 1)) ∧ (decode cX8_makeCut 24 = .ok (.iconst 3, 1)) ∧ (decode cX8_makeCut 25 = .ok (.imul, 1)) ∧ (decode cX8_makeCut 26 = .ok (.isub, 1)) ∧ (decode cX8_makeCut 27 = .ok (.putfield 68, 3)) ∧ (decode cX8_makeCut 30 = .ok (.aload_n 0, 1)) ∧ (decode cX8_makeCut 31 = .ok (.dup, 1)) := by decide +kernel
theorem dX8_makeCut_18 : decode cX8_makeCut 18 = .ok (.aload_n 0, 1) := q9_dX8_makeCut_18.1
theorem dX8_makeCut_19 : decode cX8_makeCut 19 = .ok (.dup, 1) := q9_dX8_makeCut_18.2.1
theorem dX8_makeCut_20 : decode cX8_makeCut 20 = .ok (.getfield 68, 3) := q9_dX8_makeCut_18.2.2.1
theorem dX8_makeCut_23 : decode cX8_makeCut 23 = .ok (.iload_n 2, 1) := q9_dX8_makeCut_18.2.2.2.1
theorem dX8_makeCut_24 : decode cX8_makeCut 24 = .ok (.iconst 3, 1) := q9_dX8_makeCut_18.2.2.2.2.1
theorem dX8_makeCut_25 : decode cX8_makeCut 25 = .ok (.imul, 1) := q9_dX8_makeCut_18.2.2.2.2.2.1
theorem dX8_makeCut_26 : decode cX8_makeCut 26 = .ok (.isub, 1) := q9_dX8_makeCut_18.2.2.2.2.2.2.1
theorem dX8_makeCut_27 : decode cX8_makeCut 27 = .ok (.putfield 68, 3) := q9_dX8_makeCut_18.2.2.2.2.2.2.2.1
theorem dX8_makeCut_30 : decode cX8_makeCut 30 = .ok (.aload_n 0, 1) := q9_dX8_makeCut_18.2.2.2.2.2.2.2.2.1
theorem dX8_makeCut_31 : decode cX8_makeCut 31 = .ok (.dup, 1) := q9_dX8_makeCut_18.2.2.2.2.2.2.2.2.2
theorem q9_dX8_makeCut_32 : (decode cX8_makeCut 32 = .ok (.getfield 267, 3)) ∧ (decode cX8_makeCut 35 = .ok (.aload_n 1, 1)) ∧ (decode cX8_makeCut 36 = .ok (.getfield 305, 3)) ∧ (decode cX8_makeCut 39 = .ok (.iload_n 2, 1)) ∧ (decode cX8_makeCut 40 = .ok (.isub, 1)) ∧ (decode cX8_makeCut 41 = .ok (.iadd, 1)) ∧ (decode cX8_makeCut 42 = .ok (.putfield 267, 3)) ∧ (decode cX8_makeCut 45 = .ok (.aload_n 1, 1)) ∧ (decode cX8_makeCut 46 = .ok (.iload_n 2, 1)) ∧ (decode cX8_makeCut 47 = .ok (.invokevirtual 308, 3)) := by decide +kernel
theorem dX8_makeCut_32 : decode cX8_makeCut 32 = .ok (.getfield 267, 3) := q9_dX8_makeCut_32.1
theorem dX8_makeCut_35 : decode cX8_makeCut 35 = .ok (.aload_n 1, 1) := q9_dX8_makeCut_32.2.1
theorem dX8_makeCut_36 : decode cX8_makeCut 36 = .ok (.getfield 305, 3) := q9_dX8_makeCut_32.2.2.1
theorem dX8_makeCut_39 : decode cX8_makeCut 39 = .ok (.iload_n 2, 1) := q9_dX8_makeCut_32.2.2.2.1
theorem dX8_makeCut_40 : decode cX8_makeCut 40 = .ok (.isub, 1) := q9_dX8_makeCut_32.2.2.2.2.1
theorem dX8_makeCut_41 : decode cX8_makeCut 41 = .ok (.iadd, 1) := q9_dX8_makeCut_32.2.2.2.2.2.1
theorem dX8_makeCut_42 : decode cX8_makeCut 42 = .ok (.putfield 267, 3) := q9_dX8_makeCut_32.2.2.2.2.2.2.1
theorem dX8_makeCut_45 : decode cX8_makeCut 45 = .ok (.aload_n 1, 1) := q9_dX8_makeCut_32.2.2.2.2.2.2.2.1
theorem dX8_makeCut_46 : decode cX8_makeCut 46 = .ok (.iload_n 2, 1) := q9_dX8_makeCut_32.2.2.2.2.2.2.2.2.1
theorem dX8_makeCut_47 : decode cX8_makeCut 47 = .ok (.invokevirtual 308, 3) := q9_dX8_makeCut_32.2.2.2.2.2.2.2.2.2
theorem q9_dX8_makeCut_50 : (decode cX8_makeCut 50 = .ok (.aload_n 1, 1)) ∧ (decode cX8_makeCut 51 = .ok (.iconst 0, 1)) ∧ (decode cX8_makeCut 52 = .ok (.iconst 0, 1)) ∧ (decode cX8_makeCut 53 = .ok (.invokevirtual 160, 3)) ∧ (decode cX8_makeCut 56 = .ok (.return_, 1)) := by decide +kernel
theorem dX8_makeCut_50 : decode cX8_makeCut 50 = .ok (.aload_n 1, 1) := q9_dX8_makeCut_50.1
theorem dX8_makeCut_51 : decode cX8_makeCut 51 = .ok (.iconst 0, 1) := q9_dX8_makeCut_50.2.1
theorem dX8_makeCut_52 : decode cX8_makeCut 52 = .ok (.iconst 0, 1) := q9_dX8_makeCut_50.2.2.1
theorem dX8_makeCut_53 : decode cX8_makeCut 53 = .ok (.invokevirtual 160, 3) := q9_dX8_makeCut_50.2.2.2.1
theorem dX8_makeCut_56 : decode cX8_makeCut 56 = .ok (.return_, 1) := q9_dX8_makeCut_50.2.2.2.2
set_option maxRecDepth 20000 in
theorem ggX8_partOf_X8_countInState : GoodIn wsX8_partOf wsX8_countInState := goodIn_r _ [5, 6, 7, 8, 9, 10, 11, 4, 12, 13, 14, 15, 16, 17, 18, 19, 20, 21, 22, 23, 24, 25, 26, 27, 28, 29, 30, 31, 32, 33, 34, 35, 36, 37, 38, 39, 40, 41] rfl (by decide +kernel)
set_option maxRecDepth 20000 in
theorem gX8_partOf_X8_countInState : GoodIn wsX8_partOf (wsV RX8 219 RX8 yX8_countInState wsX8_countInState) := goodIn_app (goodIn_of _ (by decide +kernel)) ggX8_partOf_X8_countInState
theorem q9_dX8_partOf_0 : (decode cX8_partOf 0 = .ok (.iload_n 3, 1)) ∧ (decode cX8_partOf 1 = .ok (.ifCond .gt 5, 3)) ∧ (decode cX8_partOf 4 = .ok (.iconst (-1), 1)) ∧ (decode cX8_partOf 5 = .ok (.ireturn, 1)) ∧ (decode cX8_partOf 6 = .ok (.iload_n 2, 1)) ∧ (decode cX8_partOf 7 = .ok (.istore 4, 2)) ∧ (decode cX8_partOf 9 = .ok (.iconst 0, 1)) ∧ (decode cX8_partOf 10 = .ok (.istore 5, 2)) ∧ (decode cX8_partOf 12 = .ok (.iload_n 2, 1)) ∧ (decode cX8_partOf 13 = .ok (.aload_n 0, 1)) := by decide +kernel
theorem dX8_partOf_0 : decode cX8_partOf 0 = .ok (.iload_n 3, 1) := q9_dX8_partOf_0.1
theorem dX8_partOf_1 : decode cX8_partOf 1 = .ok (.ifCond .gt 5, 3) := q9_dX8_partOf_0.2.1
theorem dX8_partOf_4 : decode cX8_partOf 4 = .ok (.iconst (-1), 1) := q9_dX8_partOf_0.2.2.1
theorem dX8_partOf_5 : decode cX8_partOf 5 = .ok (.ireturn, 1) := q9_dX8_partOf_0.2.2.2.1
theorem dX8_partOf_6 : decode cX8_partOf 6 = .ok (.iload_n 2, 1) := q9_dX8_partOf_0.2.2.2.2.1
theorem dX8_partOf_7 : decode cX8_partOf 7 = .ok (.istore 4, 2) := q9_dX8_partOf_0.2.2.2.2.2.1
theorem dX8_partOf_9 : decode cX8_partOf 9 = .ok (.iconst 0, 1) := q9_dX8_partOf_0.2.2.2.2.2.2.1
theorem dX8_partOf_10 : decode cX8_partOf 10 = .ok (.istore 5, 2) := q9_dX8_partOf_0.2.2.2.2.2.2.2.1
theorem dX8_partOf_12 : decode cX8_partOf 12 = .ok (.iload_n 2, 1) := q9_dX8_partOf_0.2.2.2.2.2.2.2.2.1
theorem dX8_partOf_13 : decode cX8_partOf 13 = .ok (.aload_n 0, 1) := q9_dX8_partOf_0.2.2.2.2.2.2.2.2.2
theorem q9_dX8_partOf_14 : (decode cX8_partOf 14 = .ok (.iload_n 1, 1)) ∧ (decode cX8_partOf 15 = .ok (.iconst 1, 1)) ∧ (decode cX8_partOf 16 = .ok (.invokevirtual 219, 3)) ∧ (decode cX8_partOf 19 = .ok (.imul, 1)) ∧ (decode cX8_partOf 20 = .ok (.istore 6, 2)) ∧ (decode cX8_partOf 22 = .ok (.iconst 0, 1)) ∧ (decode cX8_partOf 23 = .ok (.istore 7, 2)) ∧ (decode cX8_partOf 25 = .ok (.iload 7, 2)) ∧ (decode cX8_partOf 27 = .ok (.bipush 6, 2)) ∧ (decode cX8_partOf 29 = .ok (.if_icmp .ge 72, 3)) := by decide +kernel
theorem dX8_partOf_14 : decode cX8_partOf 14 = .ok (.iload_n 1, 1) := q9_dX8_partOf_14.1
theorem dX8_partOf_15 : decode cX8_partOf 15 = .ok (.iconst 1, 1) := q9_dX8_partOf_14.2.1
theorem dX8_partOf_16 : decode cX8_partOf 16 = .ok (.invokevirtual 219, 3) := q9_dX8_partOf_14.2.2.1
theorem dX8_partOf_19 : decode cX8_partOf 19 = .ok (.imul, 1) := q9_dX8_partOf_14.2.2.2.1
theorem dX8_partOf_20 : decode cX8_partOf 20 = .ok (.istore 6, 2) := q9_dX8_partOf_14.2.2.2.2.1
theorem dX8_partOf_22 : decode cX8_partOf 22 = .ok (.iconst 0, 1) := q9_dX8_partOf_14.2.2.2.2.2.1
theorem dX8_partOf_23 : decode cX8_partOf 23 = .ok (.istore 7, 2) := q9_dX8_partOf_14.2.2.2.2.2.2.1
theorem dX8_partOf_25 : decode cX8_partOf 25 = .ok (.iload 7, 2) := q9_dX8_partOf_14.2.2.2.2.2.2.2.1
theorem dX8_partOf_27 : decode cX8_partOf 27 = .ok (.bipush 6, 2) := q9_dX8_partOf_14.2.2.2.2.2.2.2.2.1
theorem dX8_partOf_29 : decode cX8_partOf 29 = .ok (.if_icmp .ge 72, 3) := q9_dX8_partOf_14.2.2.2.2.2.2.2.2.2
theorem q9_dX8_partOf_32 : (decode cX8_partOf 32 = .ok (.iload_n 2, 1)) ∧ (decode cX8_partOf 33 = .ok (.aload_n 0, 1)) ∧ (decode cX8_partOf 34 = .ok (.iload 7, 2)) ∧ (decode cX8_partOf 36 = .ok (.iconst 1, 1)) ∧ (decode cX8_partOf 37 = .ok (.invokevirtual 219, 3)) ∧ (decode cX8_partOf 40 = .ok (.imul, 1)) ∧ (decode cX8_partOf 41 = .ok (.istore 8, 2)) ∧ (decode cX8_partOf 43 = .ok (.iload 4, 2)) ∧ (decode cX8_partOf 45 = .ok (.iload 8, 2)) ∧ (decode cX8_partOf 47 = .ok (.iload_n 3, 1)) := by decide +kernel
theorem dX8_partOf_32 : decode cX8_partOf 32 = .ok (.iload_n 2, 1) := q9_dX8_partOf_32.1
theorem dX8_partOf_33 : decode cX8_partOf 33 = .ok (.aload_n 0, 1) := q9_dX8_partOf_32.2.1
theorem dX8_partOf_34 : decode cX8_partOf 34 = .ok (.iload 7, 2) := q9_dX8_partOf_32.2.2.1
theorem dX8_partOf_36 : decode cX8_partOf 36 = .ok (.iconst 1, 1) := q9_dX8_partOf_32.2.2.2.1
theorem dX8_partOf_37 : decode cX8_partOf 37 = .ok (.invokevirtual 219, 3) := q9_dX8_partOf_32.2.2.2.2.1
theorem dX8_partOf_40 : decode cX8_partOf 40 = .ok (.imul, 1) := q9_dX8_partOf_32.2.2.2.2.2.1
theorem dX8_partOf_41 : decode cX8_partOf 41 = .ok (.istore 8, 2) := q9_dX8_partOf_32.2.2.2.2.2.2.1
theorem dX8_partOf_43 : decode cX8_partOf 43 = .ok (.iload 4, 2) := q9_dX8_partOf_32.2.2.2.2.2.2.2.1
theorem dX8_partOf_45 : decode cX8_partOf 45 = .ok (.iload 8, 2) := q9_dX8_partOf_32.2.2.2.2.2.2.2.2.1
theorem dX8_partOf_47 : decode cX8_partOf 47 = .ok (.iload_n 3, 1) := q9_dX8_partOf_32.2.2.2.2.2.2.2.2.2
theorem q9_dX8_partOf_48 : (decode cX8_partOf 48 = .ok (.idiv, 1)) ∧ (decode cX8_partOf 49 = .ok (.isub, 1)) ∧ (decode cX8_partOf 50 = .ok (.istore 4, 2)) ∧ (decode cX8_partOf 52 = .ok (.iload 7, 2)) ∧ (decode cX8_partOf 54 = .ok (.iload_n 1, 1)) ∧ (decode cX8_partOf 55 = .ok (.if_icmp .ge 18, 3)) ∧ (decode cX8_partOf 58 = .ok (.iload 8, 2)) ∧ (decode cX8_partOf 60 = .ok (.iload_n 3, 1)) ∧ (decode cX8_partOf 61 = .ok (.irem, 1)) ∧ (decode cX8_partOf 62 = .ok (.iload 6, 2)) := by decide +kernel
theorem dX8_partOf_48 : decode cX8_partOf 48 = .ok (.idiv, 1) := q9_dX8_partOf_48.1
theorem dX8_partOf_49 : decode cX8_partOf 49 = .ok (.isub, 1) := q9_dX8_partOf_48.2.1
theorem dX8_partOf_50 : decode cX8_partOf 50 = .ok (.istore 4, 2) := q9_dX8_partOf_48.2.2.1
theorem dX8_partOf_52 : decode cX8_partOf 52 = .ok (.iload 7, 2) := q9_dX8_partOf_48.2.2.2.1
theorem dX8_partOf_54 : decode cX8_partOf 54 = .ok (.iload_n 1, 1) := q9_dX8_partOf_48.2.2.2.2.1
theorem dX8_partOf_55 : decode cX8_partOf 55 = .ok (.if_icmp .ge 18, 3) := q9_dX8_partOf_48.2.2.2.2.2.1
theorem dX8_partOf_58 : decode cX8_partOf 58 = .ok (.iload 8, 2) := q9_dX8_partOf_48.2.2.2.2.2.2.1
theorem dX8_partOf_60 : decode cX8_partOf 60 = .ok (.iload_n 3, 1) := q9_dX8_partOf_48.2.2.2.2.2.2.2.1
theorem dX8_partOf_61 : decode cX8_partOf 61 = .ok (.irem, 1) := q9_dX8_partOf_48.2.2.2.2.2.2.2.2.1
theorem dX8_partOf_62 : decode cX8_partOf 62 = .ok (.iload 6, 2) := q9_dX8_partOf_48.2.2.2.2.2.2.2.2.2
theorem q9_dX8_partOf_64 : (decode cX8_partOf 64 = .ok (.iload_n 3, 1)) ∧ (decode cX8_partOf 65 = .ok (.irem, 1)) ∧ (decode cX8_partOf 66 = .ok (.if_icmp .ne 7, 3)) ∧ (decode cX8_partOf 69 = .ok (.iconst 1, 1)) ∧ (decode cX8_partOf 70 = .ok (.goto 4, 3)) ∧ (decode cX8_partOf 73 = .ok (.iconst 0, 1)) ∧ (decode cX8_partOf 74 = .ok (.istore 9, 2)) ∧ (decode cX8_partOf 76 = .ok (.iload 9, 2)) ∧ (decode cX8_partOf 78 = .ok (.ifCond .ne 14, 3)) ∧ (decode cX8_partOf 81 = .ok (.iload 8, 2)) := by decide +kernel
theorem dX8_partOf_64 : decode cX8_partOf 64 = .ok (.iload_n 3, 1) := q9_dX8_partOf_64.1
theorem dX8_partOf_65 : decode cX8_partOf 65 = .ok (.irem, 1) := q9_dX8_partOf_64.2.1
theorem dX8_partOf_66 : decode cX8_partOf 66 = .ok (.if_icmp .ne 7, 3) := q9_dX8_partOf_64.2.2.1
theorem dX8_partOf_69 : decode cX8_partOf 69 = .ok (.iconst 1, 1) := q9_dX8_partOf_64.2.2.2.1
theorem dX8_partOf_70 : decode cX8_partOf 70 = .ok (.goto 4, 3) := q9_dX8_partOf_64.2.2.2.2.1
theorem dX8_partOf_73 : decode cX8_partOf 73 = .ok (.iconst 0, 1) := q9_dX8_partOf_64.2.2.2.2.2.1
theorem dX8_partOf_74 : decode cX8_partOf 74 = .ok (.istore 9, 2) := q9_dX8_partOf_64.2.2.2.2.2.2.1
theorem dX8_partOf_76 : decode cX8_partOf 76 = .ok (.iload 9, 2) := q9_dX8_partOf_64.2.2.2.2.2.2.2.1
theorem dX8_partOf_78 : decode cX8_partOf 78 = .ok (.ifCond .ne 14, 3) := q9_dX8_partOf_64.2.2.2.2.2.2.2.2.1
theorem dX8_partOf_81 : decode cX8_partOf 81 = .ok (.iload 8, 2) := q9_dX8_partOf_64.2.2.2.2.2.2.2.2.2
theorem q9_dX8_partOf_83 : (decode cX8_partOf 83 = .ok (.iload_n 3, 1)) ∧ (decode cX8_partOf 84 = .ok (.irem, 1)) ∧ (decode cX8_partOf 85 = .ok (.iload 6, 2)) ∧ (decode cX8_partOf 87 = .ok (.iload_n 3, 1)) ∧ (decode cX8_partOf 88 = .ok (.irem, 1)) ∧ (decode cX8_partOf 89 = .ok (.if_icmp .le 6, 3)) ∧ (decode cX8_partOf 92 = .ok (.iinc 5 1, 3)) ∧ (decode cX8_partOf 95 = .ok (.iinc 7 1, 3)) ∧ (decode cX8_partOf 98 = .ok (.goto (-73), 3)) ∧ (decode cX8_partOf 101 = .ok (.iload 6, 2)) := by decide +kernel
theorem dX8_partOf_83 : decode cX8_partOf 83 = .ok (.iload_n 3, 1) := q9_dX8_partOf_83.1
theorem dX8_partOf_84 : decode cX8_partOf 84 = .ok (.irem, 1) := q9_dX8_partOf_83.2.1
theorem dX8_partOf_85 : decode cX8_partOf 85 = .ok (.iload 6, 2) := q9_dX8_partOf_83.2.2.1
theorem dX8_partOf_87 : decode cX8_partOf 87 = .ok (.iload_n 3, 1) := q9_dX8_partOf_83.2.2.2.1
theorem dX8_partOf_88 : decode cX8_partOf 88 = .ok (.irem, 1) := q9_dX8_partOf_83.2.2.2.2.1
theorem dX8_partOf_89 : decode cX8_partOf 89 = .ok (.if_icmp .le 6, 3) := q9_dX8_partOf_83.2.2.2.2.2.1
theorem dX8_partOf_92 : decode cX8_partOf 92 = .ok (.iinc 5 1, 3) := q9_dX8_partOf_83.2.2.2.2.2.2.1
theorem dX8_partOf_95 : decode cX8_partOf 95 = .ok (.iinc 7 1, 3) := q9_dX8_partOf_83.2.2.2.2.2.2.2.1
theorem dX8_partOf_98 : decode cX8_partOf 98 = .ok (.goto (-73), 3) := q9_dX8_partOf_83.2.2.2.2.2.2.2.2.1
theorem dX8_partOf_101 : decode cX8_partOf 101 = .ok (.iload 6, 2) := q9_dX8_partOf_83.2.2.2.2.2.2.2.2.2
theorem q9_dX8_partOf_103 : (decode cX8_partOf 103 = .ok (.iload_n 3, 1)) ∧ (decode cX8_partOf 104 = .ok (.idiv, 1)) ∧ (decode cX8_partOf 105 = .ok (.iload 5, 2)) ∧ (decode cX8_partOf 107 = .ok (.iload 4, 2)) ∧ (decode cX8_partOf 109 = .ok (.if_icmp .ge 7, 3)) ∧ (decode cX8_partOf 112 = .ok (.iconst 1, 1)) ∧ (decode cX8_partOf 113 = .ok (.goto 4, 3)) ∧ (decode cX8_partOf 116 = .ok (.iconst 0, 1)) ∧ (decode cX8_partOf 117 = .ok (.iadd, 1)) ∧ (decode cX8_partOf 118 = .ok (.ireturn, 1)) := by decide +kernel
theorem dX8_partOf_103 : decode cX8_partOf 103 = .ok (.iload_n 3, 1) := q9_dX8_partOf_103.1
theorem dX8_partOf_104 : decode cX8_partOf 104 = .ok (.idiv, 1) := q9_dX8_partOf_103.2.1
theorem dX8_partOf_105 : decode cX8_partOf 105 = .ok (.iload 5, 2) := q9_dX8_partOf_103.2.2.1
theorem dX8_partOf_107 : decode cX8_partOf 107 = .ok (.iload 4, 2) := q9_dX8_partOf_103.2.2.2.1
theorem dX8_partOf_109 : decode cX8_partOf 109 = .ok (.if_icmp .ge 7, 3) := q9_dX8_partOf_103.2.2.2.2.1
theorem dX8_partOf_112 : decode cX8_partOf 112 = .ok (.iconst 1, 1) := q9_dX8_partOf_103.2.2.2.2.2.1
theorem dX8_partOf_113 : decode cX8_partOf 113 = .ok (.goto 4, 3) := q9_dX8_partOf_103.2.2.2.2.2.2.1
theorem dX8_partOf_116 : decode cX8_partOf 116 = .ok (.iconst 0, 1) := q9_dX8_partOf_103.2.2.2.2.2.2.2.1
theorem dX8_partOf_117 : decode cX8_partOf 117 = .ok (.iadd, 1) := q9_dX8_partOf_103.2.2.2.2.2.2.2.2.1
theorem dX8_partOf_118 : decode cX8_partOf 118 = .ok (.ireturn, 1) := q9_dX8_partOf_103.2.2.2.2.2.2.2.2.2
