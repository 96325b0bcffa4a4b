theorem q9_dX5_init_0 : (decode cX5_init 0 = .ok (.aload_n 0, 1)) ∧ (decode cX5_init 1 = .ok (.invokespecial 3, 3)) ∧ (decode cX5_init 4 = .ok (.aload_n 0, 1)) ∧ (decode cX5_init 5 = .ok (.aload_n 1, 1)) ∧ (decode cX5_init 6 = .ok (.putfield 9, 3)) ∧ (decode cX5_init 9 = .ok (.return_, 1)) := by decide +kernel
theorem dX5_init_0 : decode cX5_init 0 = .ok (.aload_n 0, 1) := q9_dX5_init_0.1
theorem dX5_init_1 : decode cX5_init 1 = .ok (.invokespecial 3, 3) := q9_dX5_init_0.2.1
theorem dX5_init_4 : decode cX5_init 4 = .ok (.aload_n 0, 1) := q9_dX5_init_0.2.2.1
theorem dX5_init_5 : decode cX5_init 5 = .ok (.aload_n 1, 1) := q9_dX5_init_0.2.2.2.1
theorem dX5_init_6 : decode cX5_init 6 = .ok (.putfield 9, 3) := q9_dX5_init_0.2.2.2.2.1
theorem dX5_init_9 : decode cX5_init 9 = .ok (.return_, 1) := q9_dX5_init_0.2.2.2.2.2
set_option maxRecDepth 20000 in
theorem ggX5_readInto_X5_readClause : GoodIn wsX5_readInto wsX5_readClause := goodIn_r _ [9, 2, 10, 11, 12, 13, 14, 15, 16, 17, 8, 18, 1, 19, 20, 21, 22, 23, 24, 3, 25, 26, 27, 28, 29, 30, 31, 32, 33, 34, 35, 36, 37, 38, 39, 40, 45, 46, 47, 48, 49, 50, 51, 52, 53, 54, 55, 56] rfl (by decide +kernel)
set_option maxRecDepth 20000 in
theorem gX5_readInto_X5_readClause : GoodIn wsX5_readInto (wsV RX5 25 RX5 yX5_readClause wsX5_readClause) := goodIn_app (goodIn_of _ (by decide +kernel)) ggX5_readInto_X5_readClause
set_option maxRecDepth 20000 in
theorem ggX5_readInto_X5_readOn : GoodIn wsX5_readInto wsX5_readOn := goodIn_r _ [44, 2, 15, 16, 17, 8, 18, 1, 19, 20, 33, 34, 35, 36, 3, 45, 46, 47, 48, 55, 56] rfl (by decide +kernel)
set_option maxRecDepth 20000 in
theorem gX5_readInto_X5_readOn : GoodIn wsX5_readInto (wsV RX5 29 RX5 yX5_readOn wsX5_readOn) := goodIn_app (goodIn_of _ (by decide +kernel)) ggX5_readInto_X5_readOn
theorem q9_dX5_readInto_0 : (decode cX5_readInto 0 = .ok (.aload_n 0, 1)) ∧ (decode cX5_readInto 1 = .ok (.iload_n 2, 1)) ∧ (decode cX5_readInto 2 = .ok (.putfield 15, 3)) ∧ (decode cX5_readInto 5 = .ok (.aload_n 0, 1)) ∧ (decode cX5_readInto 6 = .ok (.iconst 0, 1)) ∧ (decode cX5_readInto 7 = .ok (.putfield 19, 3)) ∧ (decode cX5_readInto 10 = .ok (.aload_n 0, 1)) ∧ (decode cX5_readInto 11 = .ok (.iconst 0, 1)) ∧ (decode cX5_readInto 12 = .ok (.putfield 22, 3)) ∧ (decode cX5_readInto 15 = .ok (.iconst 0, 1)) := by decide +kernel
theorem dX5_readInto_0 : decode cX5_readInto 0 = .ok (.aload_n 0, 1) := q9_dX5_readInto_0.1
theorem dX5_readInto_1 : decode cX5_readInto 1 = .ok (.iload_n 2, 1) := q9_dX5_readInto_0.2.1
theorem dX5_readInto_2 : decode cX5_readInto 2 = .ok (.putfield 15, 3) := q9_dX5_readInto_0.2.2.1
theorem dX5_readInto_5 : decode cX5_readInto 5 = .ok (.aload_n 0, 1) := q9_dX5_readInto_0.2.2.2.1
theorem dX5_readInto_6 : decode cX5_readInto 6 = .ok (.iconst 0, 1) := q9_dX5_readInto_0.2.2.2.2.1
theorem dX5_readInto_7 : decode cX5_readInto 7 = .ok (.putfield 19, 3) := q9_dX5_readInto_0.2.2.2.2.2.1
theorem dX5_readInto_10 : decode cX5_readInto 10 = .ok (.aload_n 0, 1) := q9_dX5_readInto_0.2.2.2.2.2.2.1
theorem dX5_readInto_11 : decode cX5_readInto 11 = .ok (.iconst 0, 1) := q9_dX5_readInto_0.2.2.2.2.2.2.2.1
theorem dX5_readInto_12 : decode cX5_readInto 12 = .ok (.putfield 22, 3) := q9_dX5_readInto_0.2.2.2.2.2.2.2.2.1
theorem dX5_readInto_15 : decode cX5_readInto 15 = .ok (.iconst 0, 1) := q9_dX5_readInto_0.2.2.2.2.2.2.2.2.2
theorem q9_dX5_readInto_16 : (decode cX5_readInto 16 = .ok (.istore_n 3, 1)) ∧ (decode cX5_readInto 17 = .ok (.iconst 1, 1)) ∧ (decode cX5_readInto 18 = .ok (.istore 4, 2)) ∧ (decode cX5_readInto 20 = .ok (.iconst 0, 1)) ∧ (decode cX5_readInto 21 = .ok (.istore 5, 2)) ∧ (decode cX5_readInto 23 = .ok (.iload 5, 2)) ∧ (decode cX5_readInto 25 = .ok (.bipush 80, 2)) ∧ (decode cX5_readInto 27 = .ok (.if_icmp .gt 43, 3)) ∧ (decode cX5_readInto 30 = .ok (.iload 4, 2)) ∧ (decode cX5_readInto 32 = .ok (.ifCond .eq 38, 3)) := by decide +kernel
theorem dX5_readInto_16 : decode cX5_readInto 16 = .ok (.istore_n 3, 1) := q9_dX5_readInto_16.1
theorem dX5_readInto_17 : decode cX5_readInto 17 = .ok (.iconst 1, 1) := q9_dX5_readInto_16.2.1
theorem dX5_readInto_18 : decode cX5_readInto 18 = .ok (.istore 4, 2) := q9_dX5_readInto_16.2.2.1
theorem dX5_readInto_20 : decode cX5_readInto 20 = .ok (.iconst 0, 1) := q9_dX5_readInto_16.2.2.2.1
theorem dX5_readInto_21 : decode cX5_readInto 21 = .ok (.istore 5, 2) := q9_dX5_readInto_16.2.2.2.2.1
theorem dX5_readInto_23 : decode cX5_readInto 23 = .ok (.iload 5, 2) := q9_dX5_readInto_16.2.2.2.2.2.1
theorem dX5_readInto_25 : decode cX5_readInto 25 = .ok (.bipush 80, 2) := q9_dX5_readInto_16.2.2.2.2.2.2.1
theorem dX5_readInto_27 : decode cX5_readInto 27 = .ok (.if_icmp .gt 43, 3) := q9_dX5_readInto_16.2.2.2.2.2.2.2.1
theorem dX5_readInto_30 : decode cX5_readInto 30 = .ok (.iload 4, 2) := q9_dX5_readInto_16.2.2.2.2.2.2.2.2.1
theorem dX5_readInto_32 : decode cX5_readInto 32 = .ok (.ifCond .eq 38, 3) := q9_dX5_readInto_16.2.2.2.2.2.2.2.2.2
theorem q9_dX5_readInto_35 : (decode cX5_readInto 35 = .ok (.iload_n 3, 1)) ∧ (decode cX5_readInto 36 = .ok (.aload_n 0, 1)) ∧ (decode cX5_readInto 37 = .ok (.aload_n 1, 1)) ∧ (decode cX5_readInto 38 = .ok (.invokevirtual 25, 3)) ∧ (decode cX5_readInto 41 = .ok (.ior, 1)) ∧ (decode cX5_readInto 42 = .ok (.istore_n 3, 1)) ∧ (decode cX5_readInto 43 = .ok (.aload_n 0, 1)) ∧ (decode cX5_readInto 44 = .ok (.getfield 22, 3)) ∧ (decode cX5_readInto 47 = .ok (.ifCond .ne 14, 3)) ∧ (decode cX5_readInto 50 = .ok (.aload_n 0, 1)) := by decide +kernel
theorem dX5_readInto_35 : decode cX5_readInto 35 = .ok (.iload_n 3, 1) := q9_dX5_readInto_35.1
theorem dX5_readInto_36 : decode cX5_readInto 36 = .ok (.aload_n 0, 1) := q9_dX5_readInto_35.2.1
theorem dX5_readInto_37 : decode cX5_readInto 37 = .ok (.aload_n 1, 1) := q9_dX5_readInto_35.2.2.1
theorem dX5_readInto_38 : decode cX5_readInto 38 = .ok (.invokevirtual 25, 3) := q9_dX5_readInto_35.2.2.2.1
theorem dX5_readInto_41 : decode cX5_readInto 41 = .ok (.ior, 1) := q9_dX5_readInto_35.2.2.2.2.1
theorem dX5_readInto_42 : decode cX5_readInto 42 = .ok (.istore_n 3, 1) := q9_dX5_readInto_35.2.2.2.2.2.1
theorem dX5_readInto_43 : decode cX5_readInto 43 = .ok (.aload_n 0, 1) := q9_dX5_readInto_35.2.2.2.2.2.2.1
theorem dX5_readInto_44 : decode cX5_readInto 44 = .ok (.getfield 22, 3) := q9_dX5_readInto_35.2.2.2.2.2.2.2.1
theorem dX5_readInto_47 : decode cX5_readInto 47 = .ok (.ifCond .ne 14, 3) := q9_dX5_readInto_35.2.2.2.2.2.2.2.2.1
theorem dX5_readInto_50 : decode cX5_readInto 50 = .ok (.aload_n 0, 1) := q9_dX5_readInto_35.2.2.2.2.2.2.2.2.2
theorem q9_dX5_readInto_51 : (decode cX5_readInto 51 = .ok (.invokevirtual 29, 3)) ∧ (decode cX5_readInto 54 = .ok (.ifCond .eq 7, 3)) ∧ (decode cX5_readInto 57 = .ok (.iconst 1, 1)) ∧ (decode cX5_readInto 58 = .ok (.goto 4, 3)) ∧ (decode cX5_readInto 61 = .ok (.iconst 0, 1)) ∧ (decode cX5_readInto 62 = .ok (.istore 4, 2)) ∧ (decode cX5_readInto 64 = .ok (.iinc 5 1, 3)) ∧ (decode cX5_readInto 67 = .ok (.goto (-44), 3)) ∧ (decode cX5_readInto 70 = .ok (.iload_n 3, 1)) ∧ (decode cX5_readInto 71 = .ok (.ifCond .eq 8, 3)) := by decide +kernel
theorem dX5_readInto_51 : decode cX5_readInto 51 = .ok (.invokevirtual 29, 3) := q9_dX5_readInto_51.1
theorem dX5_readInto_54 : decode cX5_readInto 54 = .ok (.ifCond .eq 7, 3) := q9_dX5_readInto_51.2.1
theorem dX5_readInto_57 : decode cX5_readInto 57 = .ok (.iconst 1, 1) := q9_dX5_readInto_51.2.2.1
theorem dX5_readInto_58 : decode cX5_readInto 58 = .ok (.goto 4, 3) := q9_dX5_readInto_51.2.2.2.1
theorem dX5_readInto_61 : decode cX5_readInto 61 = .ok (.iconst 0, 1) := q9_dX5_readInto_51.2.2.2.2.1
theorem dX5_readInto_62 : decode cX5_readInto 62 = .ok (.istore 4, 2) := q9_dX5_readInto_51.2.2.2.2.2.1
theorem dX5_readInto_64 : decode cX5_readInto 64 = .ok (.iinc 5 1, 3) := q9_dX5_readInto_51.2.2.2.2.2.2.1
theorem dX5_readInto_67 : decode cX5_readInto 67 = .ok (.goto (-44), 3) := q9_dX5_readInto_51.2.2.2.2.2.2.2.1
theorem dX5_readInto_70 : decode cX5_readInto 70 = .ok (.iload_n 3, 1) := q9_dX5_readInto_51.2.2.2.2.2.2.2.2.1
theorem dX5_readInto_71 : decode cX5_readInto 71 = .ok (.ifCond .eq 8, 3) := q9_dX5_readInto_51.2.2.2.2.2.2.2.2.2
theorem q9_dX5_readInto_74 : (decode cX5_readInto 74 = .ok (.aload_n 1, 1)) ∧ (decode cX5_readInto 75 = .ok (.iload_n 3, 1)) ∧ (decode cX5_readInto 76 = .ok (.putfield 33, 3)) ∧ (decode cX5_readInto 79 = .ok (.aload_n 0, 1)) ∧ (decode cX5_readInto 80 = .ok (.getfield 22, 3)) ∧ (decode cX5_readInto 83 = .ok (.ireturn, 1)) := by decide +kernel
theorem dX5_readInto_74 : decode cX5_readInto 74 = .ok (.aload_n 1, 1) := q9_dX5_readInto_74.1
theorem dX5_readInto_75 : decode cX5_readInto 75 = .ok (.iload_n 3, 1) := q9_dX5_readInto_74.2.1
theorem dX5_readInto_76 : decode cX5_readInto 76 = .ok (.putfield 33, 3) := q9_dX5_readInto_74.2.2.1
theorem dX5_readInto_79 : decode cX5_readInto 79 = .ok (.aload_n 0, 1) := q9_dX5_readInto_74.2.2.2.1
theorem dX5_readInto_80 : decode cX5_readInto 80 = .ok (.getfield 22, 3) := q9_dX5_readInto_74.2.2.2.2.1
theorem dX5_readInto_83 : decode cX5_readInto 83 = .ok (.ireturn, 1) := q9_dX5_readInto_74.2.2.2.2.2
set_option maxRecDepth 20000 in
theorem ggX5_readClause_X5_peek : GoodIn wsX5_readClause wsX5_peek := goodIn_r _ [11, 1, 12, 13, 14, 36, 37, 38, 39, 46, 47] rfl (by decide +kernel)
set_option maxRecDepth 20000 in
theorem gX5_readClause_X5_peek : GoodIn wsX5_readClause (wsV RX5 38 RX5 yX5_peek wsX5_peek) := goodIn_app (goodIn_of _ (by decide +kernel)) ggX5_readClause_X5_peek
set_option maxRecDepth 20000 in
theorem ggX5_readClause_X5_readWindow : GoodIn wsX5_readClause wsX5_readWindow := goodIn_r _ [18, 19, 1, 20, 21, 22, 10, 23, 24, 25, 26, 27, 7, 8, 9, 11, 12, 13, 14, 28, 29, 30, 31, 36, 37, 38, 39, 46, 47] rfl (by decide +kernel)
set_option maxRecDepth 20000 in
theorem gX5_readClause_X5_readWindow : GoodIn wsX5_readClause (wsV RX5 42 RX5 yX5_readWindow wsX5_readWindow) := goodIn_app (goodIn_of _ (by decide +kernel)) ggX5_readClause_X5_readWindow
set_option maxRecDepth 20000 in
theorem ggX5_readClause_X5_readDigits : GoodIn wsX5_readClause wsX5_readDigits := goodIn_r _ [35, 1, 24, 25, 26, 10, 27, 7, 8, 9, 11, 12, 13, 14, 28, 29, 30, 31, 19, 36, 37, 38, 39, 46, 47] rfl (by decide +kernel)
set_option maxRecDepth 20000 in
theorem gX5_readClause_X5_readDigits : GoodIn wsX5_readClause (wsV RX5 45 RX5 yX5_readDigits wsX5_readDigits) := goodIn_app (goodIn_of _ (by decide +kernel)) ggX5_readClause_X5_readDigits
set_option maxRecDepth 20000 in
theorem ggX5_readClause_X5_readNumber : GoodIn wsX5_readClause wsX5_readNumber := goodIn_r _ [23, 1, 24, 25, 26, 10, 27, 7, 8, 9, 11, 12, 13, 14, 28, 29, 30, 31, 19, 36, 37, 38, 39, 46, 47] rfl (by decide +kernel)
set_option maxRecDepth 20000 in
theorem gX5_readClause_X5_readNumber : GoodIn wsX5_readClause (wsV RX5 55 RX5 yX5_readNumber wsX5_readNumber) := goodIn_app (goodIn_of _ (by decide +kernel)) ggX5_readClause_X5_readNumber
set_option maxRecDepth 20000 in
theorem ggX5_readClause_X5_fail : GoodIn wsX5_readClause wsX5_fail := goodIn_r _ [31, 19, 36, 37, 38, 39] rfl (by decide +kernel)
set_option maxRecDepth 20000 in
theorem gX5_readClause_X5_fail : GoodIn wsX5_readClause (wsV RX5 67 RX5 yX5_fail wsX5_fail) := goodIn_app (goodIn_of _ (by decide +kernel)) ggX5_readClause_X5_fail
theorem q9_dX5_readClause_0 : (decode cX5_readClause 0 = .ok (.aload_n 0, 1)) ∧ (decode cX5_readClause 1 = .ok (.invokevirtual 38, 3)) ∧ (decode cX5_readClause 4 = .ok (.istore_n 2, 1)) ∧ (decode cX5_readClause 5 = .ok (.aload_n 0, 1)) ∧ (decode cX5_readClause 6 = .ok (.dup, 1)) ∧ (decode cX5_readClause 7 = .ok (.getfield 19, 3)) ∧ (decode cX5_readClause 10 = .ok (.iconst 1, 1)) ∧ (decode cX5_readClause 11 = .ok (.iadd, 1)) ∧ (decode cX5_readClause 12 = .ok (.putfield 19, 3)) ∧ (decode cX5_readClause 15 = .ok (.iload_n 2, 1)) := by decide +kernel
theorem dX5_readClause_0 : decode cX5_readClause 0 = .ok (.aload_n 0, 1) := q9_dX5_readClause_0.1
theorem dX5_readClause_1 : decode cX5_readClause 1 = .ok (.invokevirtual 38, 3) := q9_dX5_readClause_0.2.1
theorem dX5_readClause_4 : decode cX5_readClause 4 = .ok (.istore_n 2, 1) := q9_dX5_readClause_0.2.2.1
theorem dX5_readClause_5 : decode cX5_readClause 5 = .ok (.aload_n 0, 1) := q9_dX5_readClause_0.2.2.2.1
theorem dX5_readClause_6 : decode cX5_readClause 6 = .ok (.dup, 1) := q9_dX5_readClause_0.2.2.2.2.1
theorem dX5_readClause_7 : decode cX5_readClause 7 = .ok (.getfield 19, 3) := q9_dX5_readClause_0.2.2.2.2.2.1
theorem dX5_readClause_10 : decode cX5_readClause 10 = .ok (.iconst 1, 1) := q9_dX5_readClause_0.2.2.2.2.2.2.1
theorem dX5_readClause_11 : decode cX5_readClause 11 = .ok (.iadd, 1) := q9_dX5_readClause_0.2.2.2.2.2.2.2.1
theorem dX5_readClause_12 : decode cX5_readClause 12 = .ok (.putfield 19, 3) := q9_dX5_readClause_0.2.2.2.2.2.2.2.2.1
theorem dX5_readClause_15 : decode cX5_readClause 15 = .ok (.iload_n 2, 1) := q9_dX5_readClause_0.2.2.2.2.2.2.2.2.2
theorem q9_dX5_readClause_16 : (decode cX5_readClause 16 = .ok (.lookupswitch 132 #[(99, 119), (100, 65), (102, 105), (107, 79), (110, 91), (119, 60)], 60)) ∧ (decode cX5_readClause 76 = .ok (.aload_n 0, 1)) ∧ (decode cX5_readClause 77 = .ok (.invokevirtual 42, 3)) ∧ (decode cX5_readClause 80 = .ok (.ireturn, 1)) ∧ (decode cX5_readClause 81 = .ok (.aload_n 1, 1)) ∧ (decode cX5_readClause 82 = .ok (.aload_n 0, 1)) ∧ (decode cX5_readClause 83 = .ok (.bipush 6, 2)) ∧ (decode cX5_readClause 85 = .ok (.bipush 7, 2)) ∧ (decode cX5_readClause 87 = .ok (.invokevirtual 45, 3)) ∧ (decode cX5_readClause 90 = .ok (.putfield 49, 3)) := by decide +kernel
theorem dX5_readClause_16 : decode cX5_readClause 16 = .ok (.lookupswitch 132 #[(99, 119), (100, 65), (102, 105), (107, 79), (110, 91), (119, 60)], 60) := q9_dX5_readClause_16.1
theorem dX5_readClause_76 : decode cX5_readClause 76 = .ok (.aload_n 0, 1) := q9_dX5_readClause_16.2.1
theorem dX5_readClause_77 : decode cX5_readClause 77 = .ok (.invokevirtual 42, 3) := q9_dX5_readClause_16.2.2.1
theorem dX5_readClause_80 : decode cX5_readClause 80 = .ok (.ireturn, 1) := q9_dX5_readClause_16.2.2.2.1
theorem dX5_readClause_81 : decode cX5_readClause 81 = .ok (.aload_n 1, 1) := q9_dX5_readClause_16.2.2.2.2.1
theorem dX5_readClause_82 : decode cX5_readClause 82 = .ok (.aload_n 0, 1) := q9_dX5_readClause_16.2.2.2.2.2.1
theorem dX5_readClause_83 : decode cX5_readClause 83 = .ok (.bipush 6, 2) := q9_dX5_readClause_16.2.2.2.2.2.2.1
theorem dX5_readClause_85 : decode cX5_readClause 85 = .ok (.bipush 7, 2) := q9_dX5_readClause_16.2.2.2.2.2.2.2.1
theorem dX5_readClause_87 : decode cX5_readClause 87 = .ok (.invokevirtual 45, 3) := q9_dX5_readClause_16.2.2.2.2.2.2.2.2.1
theorem dX5_readClause_90 : decode cX5_readClause 90 = .ok (.putfield 49, 3) := q9_dX5_readClause_16.2.2.2.2.2.2.2.2.2
theorem q9_dX5_readClause_93 : (decode cX5_readClause 93 = .ok (.iconst 0, 1)) ∧ (decode cX5_readClause 94 = .ok (.ireturn, 1)) ∧ (decode cX5_readClause 95 = .ok (.aload_n 1, 1)) ∧ (decode cX5_readClause 96 = .ok (.aload_n 0, 1)) ∧ (decode cX5_readClause 97 = .ok (.iconst 3, 1)) ∧ (decode cX5_readClause 98 = .ok (.iconst 4, 1)) ∧ (decode cX5_readClause 99 = .ok (.invokevirtual 45, 3)) ∧ (decode cX5_readClause 102 = .ok (.putfield 52, 3)) ∧ (decode cX5_readClause 105 = .ok (.iconst 0, 1)) ∧ (decode cX5_readClause 106 = .ok (.ireturn, 1)) := by decide +kernel
theorem dX5_readClause_93 : decode cX5_readClause 93 = .ok (.iconst 0, 1) := q9_dX5_readClause_93.1
theorem dX5_readClause_94 : decode cX5_readClause 94 = .ok (.ireturn, 1) := q9_dX5_readClause_93.2.1
theorem dX5_readClause_95 : decode cX5_readClause 95 = .ok (.aload_n 1, 1) := q9_dX5_readClause_93.2.2.1
theorem dX5_readClause_96 : decode cX5_readClause 96 = .ok (.aload_n 0, 1) := q9_dX5_readClause_93.2.2.2.1
theorem dX5_readClause_97 : decode cX5_readClause 97 = .ok (.iconst 3, 1) := q9_dX5_readClause_93.2.2.2.2.1
theorem dX5_readClause_98 : decode cX5_readClause 98 = .ok (.iconst 4, 1) := q9_dX5_readClause_93.2.2.2.2.2.1
theorem dX5_readClause_99 : decode cX5_readClause 99 = .ok (.invokevirtual 45, 3) := q9_dX5_readClause_93.2.2.2.2.2.2.1
theorem dX5_readClause_102 : decode cX5_readClause 102 = .ok (.putfield 52, 3) := q9_dX5_readClause_93.2.2.2.2.2.2.2.1
theorem dX5_readClause_105 : decode cX5_readClause 105 = .ok (.iconst 0, 1) := q9_dX5_readClause_93.2.2.2.2.2.2.2.2.1
theorem dX5_readClause_106 : decode cX5_readClause 106 = .ok (.ireturn, 1) := q9_dX5_readClause_93.2.2.2.2.2.2.2.2.2
theorem q9_dX5_readClause_107 : (decode cX5_readClause 107 = .ok (.aload_n 1, 1)) ∧ (decode cX5_readClause 108 = .ok (.aload_n 0, 1)) ∧ (decode cX5_readClause 109 = .ok (.iconst 0, 1)) ∧ (decode cX5_readClause 110 = .ok (.sipush 999, 3)) ∧ (decode cX5_readClause 113 = .ok (.invokevirtual 55, 3)) ∧ (decode cX5_readClause 116 = .ok (.putfield 58, 3)) ∧ (decode cX5_readClause 119 = .ok (.iconst 0, 1)) ∧ (decode cX5_readClause 120 = .ok (.ireturn, 1)) ∧ (decode cX5_readClause 121 = .ok (.aload_n 1, 1)) ∧ (decode cX5_readClause 122 = .ok (.aload_n 0, 1)) := by decide +kernel
theorem dX5_readClause_107 : decode cX5_readClause 107 = .ok (.aload_n 1, 1) := q9_dX5_readClause_107.1
theorem dX5_readClause_108 : decode cX5_readClause 108 = .ok (.aload_n 0, 1) := q9_dX5_readClause_107.2.1
theorem dX5_readClause_109 : decode cX5_readClause 109 = .ok (.iconst 0, 1) := q9_dX5_readClause_107.2.2.1
theorem dX5_readClause_110 : decode cX5_readClause 110 = .ok (.sipush 999, 3) := q9_dX5_readClause_107.2.2.2.1
theorem dX5_readClause_113 : decode cX5_readClause 113 = .ok (.invokevirtual 55, 3) := q9_dX5_readClause_107.2.2.2.2.1
theorem dX5_readClause_116 : decode cX5_readClause 116 = .ok (.putfield 58, 3) := q9_dX5_readClause_107.2.2.2.2.2.1
theorem dX5_readClause_119 : decode cX5_readClause 119 = .ok (.iconst 0, 1) := q9_dX5_readClause_107.2.2.2.2.2.2.1
theorem dX5_readClause_120 : decode cX5_readClause 120 = .ok (.ireturn, 1) := q9_dX5_readClause_107.2.2.2.2.2.2.2.1
theorem dX5_readClause_121 : decode cX5_readClause 121 = .ok (.aload_n 1, 1) := q9_dX5_readClause_107.2.2.2.2.2.2.2.2.1
theorem dX5_readClause_122 : decode cX5_readClause 122 = .ok (.aload_n 0, 1) := q9_dX5_readClause_107.2.2.2.2.2.2.2.2.2
theorem q9_dX5_readClause_123 : (decode cX5_readClause 123 = .ok (.iconst 0, 1)) ∧ (decode cX5_readClause 124 = .ok (.sipush 9999, 3)) ∧ (decode cX5_readClause 127 = .ok (.invokevirtual 55, 3)) ∧ (decode cX5_readClause 130 = .ok (.putfield 61, 3)) ∧ (decode cX5_readClause 133 = .ok (.iconst 0, 1)) ∧ (decode cX5_readClause 134 = .ok (.ireturn, 1)) ∧ (decode cX5_readClause 135 = .ok (.aload_n 1, 1)) ∧ (decode cX5_readClause 136 = .ok (.aload_n 0, 1)) ∧ (decode cX5_readClause 137 = .ok (.iconst 0, 1)) ∧ (decode cX5_readClause 138 = .ok (.bipush 100, 2)) := by decide +kernel
theorem dX5_readClause_123 : decode cX5_readClause 123 = .ok (.iconst 0, 1) := q9_dX5_readClause_123.1
theorem dX5_readClause_124 : decode cX5_readClause 124 = .ok (.sipush 9999, 3) := q9_dX5_readClause_123.2.1
theorem dX5_readClause_127 : decode cX5_readClause 127 = .ok (.invokevirtual 55, 3) := q9_dX5_readClause_123.2.2.1
theorem dX5_readClause_130 : decode cX5_readClause 130 = .ok (.putfield 61, 3) := q9_dX5_readClause_123.2.2.2.1
theorem dX5_readClause_133 : decode cX5_readClause 133 = .ok (.iconst 0, 1) := q9_dX5_readClause_123.2.2.2.2.1
theorem dX5_readClause_134 : decode cX5_readClause 134 = .ok (.ireturn, 1) := q9_dX5_readClause_123.2.2.2.2.2.1
theorem dX5_readClause_135 : decode cX5_readClause 135 = .ok (.aload_n 1, 1) := q9_dX5_readClause_123.2.2.2.2.2.2.1
theorem dX5_readClause_136 : decode cX5_readClause 136 = .ok (.aload_n 0, 1) := q9_dX5_readClause_123.2.2.2.2.2.2.2.1
theorem dX5_readClause_137 : decode cX5_readClause 137 = .ok (.iconst 0, 1) := q9_dX5_readClause_123.2.2.2.2.2.2.2.2.1
theorem dX5_readClause_138 : decode cX5_readClause 138 = .ok (.bipush 100, 2) := q9_dX5_readClause_123.2.2.2.2.2.2.2.2.2
theorem q9_dX5_readClause_140 : (decode cX5_readClause 140 = .ok (.invokevirtual 55, 3)) ∧ (decode cX5_readClause 143 = .ok (.putfield 64, 3)) ∧ (decode cX5_readClause 146 = .ok (.iconst 0, 1)) ∧ (decode cX5_readClause 147 = .ok (.ireturn, 1)) ∧ (decode cX5_readClause 148 = .ok (.aload_n 0, 1)) ∧ (decode cX5_readClause 149 = .ok (.iconst 1, 1)) ∧ (decode cX5_readClause 150 = .ok (.aload_n 0, 1)) ∧ (decode cX5_readClause 151 = .ok (.getfield 19, 3)) ∧ (decode cX5_readClause 154 = .ok (.iconst 1, 1)) ∧ (decode cX5_readClause 155 = .ok (.isub, 1)) := by decide +kernel
theorem dX5_readClause_140 : decode cX5_readClause 140 = .ok (.invokevirtual 55, 3) := q9_dX5_readClause_140.1
theorem dX5_readClause_143 : decode cX5_readClause 143 = .ok (.putfield 64, 3) := q9_dX5_readClause_140.2.1
theorem dX5_readClause_146 : decode cX5_readClause 146 = .ok (.iconst 0, 1) := q9_dX5_readClause_140.2.2.1
theorem dX5_readClause_147 : decode cX5_readClause 147 = .ok (.ireturn, 1) := q9_dX5_readClause_140.2.2.2.1
theorem dX5_readClause_148 : decode cX5_readClause 148 = .ok (.aload_n 0, 1) := q9_dX5_readClause_140.2.2.2.2.1
theorem dX5_readClause_149 : decode cX5_readClause 149 = .ok (.iconst 1, 1) := q9_dX5_readClause_140.2.2.2.2.2.1
theorem dX5_readClause_150 : decode cX5_readClause 150 = .ok (.aload_n 0, 1) := q9_dX5_readClause_140.2.2.2.2.2.2.1
theorem dX5_readClause_151 : decode cX5_readClause 151 = .ok (.getfield 19, 3) := q9_dX5_readClause_140.2.2.2.2.2.2.2.1
theorem dX5_readClause_154 : decode cX5_readClause 154 = .ok (.iconst 1, 1) := q9_dX5_readClause_140.2.2.2.2.2.2.2.2.1
theorem dX5_readClause_155 : decode cX5_readClause 155 = .ok (.isub, 1) := q9_dX5_readClause_140.2.2.2.2.2.2.2.2.2
theorem q9_dX5_readClause_156 : (decode cX5_readClause 156 = .ok (.invokevirtual 67, 3)) ∧ (decode cX5_readClause 159 = .ok (.iconst 0, 1)) ∧ (decode cX5_readClause 160 = .ok (.ireturn, 1)) := by decide +kernel
theorem dX5_readClause_156 : decode cX5_readClause 156 = .ok (.invokevirtual 67, 3) := q9_dX5_readClause_156.1
theorem dX5_readClause_159 : decode cX5_readClause 159 = .ok (.iconst 0, 1) := q9_dX5_readClause_156.2.1
theorem dX5_readClause_160 : decode cX5_readClause 160 = .ok (.ireturn, 1) := q9_dX5_readClause_156.2.2
set_option maxRecDepth 20000 in
theorem ggX5_readOn_X5_peek : GoodIn wsX5_readOn wsX5_peek := goodIn_r _ [6, 1, 7, 8, 9, 15, 16, 17, 18, 19, 20] rfl (by decide +kernel)
set_option maxRecDepth 20000 in
theorem gX5_readOn_X5_peek : GoodIn wsX5_readOn (wsV RX5 38 RX5 yX5_peek wsX5_peek) := goodIn_app (goodIn_of _ (by decide +kernel)) ggX5_readOn_X5_peek
set_option maxRecDepth 20000 in
theorem ggX5_readOn_X5_fail : GoodIn wsX5_readOn wsX5_fail := goodIn_r _ [13, 14, 15, 16, 17, 18] rfl (by decide +kernel)
set_option maxRecDepth 20000 in
theorem gX5_readOn_X5_fail : GoodIn wsX5_readOn (wsV RX5 67 RX5 yX5_fail wsX5_fail) := goodIn_app (goodIn_of _ (by decide +kernel)) ggX5_readOn_X5_fail
theorem q9_dX5_readOn_0 : (decode cX5_readOn 0 = .ok (.aload_n 0, 1)) ∧ (decode cX5_readOn 1 = .ok (.invokevirtual 38, 3)) ∧ (decode cX5_readOn 4 = .ok (.istore_n 1, 1)) ∧ (decode cX5_readOn 5 = .ok (.iload_n 1, 1)) ∧ (decode cX5_readOn 6 = .ok (.iconst (-1), 1)) ∧ (decode cX5_readOn 7 = .ok (.if_icmp .ne 5, 3)) ∧ (decode cX5_readOn 10 = .ok (.iconst 0, 1)) ∧ (decode cX5_readOn 11 = .ok (.ireturn, 1)) ∧ (decode cX5_readOn 12 = .ok (.iload_n 1, 1)) ∧ (decode cX5_readOn 13 = .ok (.bipush 59, 2)) := by decide +kernel
theorem dX5_readOn_0 : decode cX5_readOn 0 = .ok (.aload_n 0, 1) := q9_dX5_readOn_0.1
theorem dX5_readOn_1 : decode cX5_readOn 1 = .ok (.invokevirtual 38, 3) := q9_dX5_readOn_0.2.1
theorem dX5_readOn_4 : decode cX5_readOn 4 = .ok (.istore_n 1, 1) := q9_dX5_readOn_0.2.2.1
theorem dX5_readOn_5 : decode cX5_readOn 5 = .ok (.iload_n 1, 1) := q9_dX5_readOn_0.2.2.2.1
theorem dX5_readOn_6 : decode cX5_readOn 6 = .ok (.iconst (-1), 1) := q9_dX5_readOn_0.2.2.2.2.1
theorem dX5_readOn_7 : decode cX5_readOn 7 = .ok (.if_icmp .ne 5, 3) := q9_dX5_readOn_0.2.2.2.2.2.1
theorem dX5_readOn_10 : decode cX5_readOn 10 = .ok (.iconst 0, 1) := q9_dX5_readOn_0.2.2.2.2.2.2.1
theorem dX5_readOn_11 : decode cX5_readOn 11 = .ok (.ireturn, 1) := q9_dX5_readOn_0.2.2.2.2.2.2.2.1
theorem dX5_readOn_12 : decode cX5_readOn 12 = .ok (.iload_n 1, 1) := q9_dX5_readOn_0.2.2.2.2.2.2.2.2.1
theorem dX5_readOn_13 : decode cX5_readOn 13 = .ok (.bipush 59, 2) := q9_dX5_readOn_0.2.2.2.2.2.2.2.2.2
theorem q9_dX5_readOn_15 : (decode cX5_readOn 15 = .ok (.if_icmp .eq 14, 3)) ∧ (decode cX5_readOn 18 = .ok (.aload_n 0, 1)) ∧ (decode cX5_readOn 19 = .ok (.iconst 1, 1)) ∧ (decode cX5_readOn 20 = .ok (.aload_n 0, 1)) ∧ (decode cX5_readOn 21 = .ok (.getfield 19, 3)) ∧ (decode cX5_readOn 24 = .ok (.invokevirtual 67, 3)) ∧ (decode cX5_readOn 27 = .ok (.iconst 0, 1)) ∧ (decode cX5_readOn 28 = .ok (.ireturn, 1)) ∧ (decode cX5_readOn 29 = .ok (.aload_n 0, 1)) ∧ (decode cX5_readOn 30 = .ok (.dup, 1)) := by decide +kernel
theorem dX5_readOn_15 : decode cX5_readOn 15 = .ok (.if_icmp .eq 14, 3) := q9_dX5_readOn_15.1
theorem dX5_readOn_18 : decode cX5_readOn 18 = .ok (.aload_n 0, 1) := q9_dX5_readOn_15.2.1
theorem dX5_readOn_19 : decode cX5_readOn 19 = .ok (.iconst 1, 1) := q9_dX5_readOn_15.2.2.1
theorem dX5_readOn_20 : decode cX5_readOn 20 = .ok (.aload_n 0, 1) := q9_dX5_readOn_15.2.2.2.1
theorem dX5_readOn_21 : decode cX5_readOn 21 = .ok (.getfield 19, 3) := q9_dX5_readOn_15.2.2.2.2.1
theorem dX5_readOn_24 : decode cX5_readOn 24 = .ok (.invokevirtual 67, 3) := q9_dX5_readOn_15.2.2.2.2.2.1
theorem dX5_readOn_27 : decode cX5_readOn 27 = .ok (.iconst 0, 1) := q9_dX5_readOn_15.2.2.2.2.2.2.1
theorem dX5_readOn_28 : decode cX5_readOn 28 = .ok (.ireturn, 1) := q9_dX5_readOn_15.2.2.2.2.2.2.2.1
theorem dX5_readOn_29 : decode cX5_readOn 29 = .ok (.aload_n 0, 1) := q9_dX5_readOn_15.2.2.2.2.2.2.2.2.1
theorem dX5_readOn_30 : decode cX5_readOn 30 = .ok (.dup, 1) := q9_dX5_readOn_15.2.2.2.2.2.2.2.2.2
theorem q9_dX5_readOn_31 : (decode cX5_readOn 31 = .ok (.getfield 19, 3)) ∧ (decode cX5_readOn 34 = .ok (.iconst 1, 1)) ∧ (decode cX5_readOn 35 = .ok (.iadd, 1)) ∧ (decode cX5_readOn 36 = .ok (.putfield 19, 3)) ∧ (decode cX5_readOn 39 = .ok (.iconst 1, 1)) ∧ (decode cX5_readOn 40 = .ok (.ireturn, 1)) := by decide +kernel
theorem dX5_readOn_31 : decode cX5_readOn 31 = .ok (.getfield 19, 3) := q9_dX5_readOn_31.1
theorem dX5_readOn_34 : decode cX5_readOn 34 = .ok (.iconst 1, 1) := q9_dX5_readOn_31.2.1
theorem dX5_readOn_35 : decode cX5_readOn 35 = .ok (.iadd, 1) := q9_dX5_readOn_31.2.2.1
theorem dX5_readOn_36 : decode cX5_readOn 36 = .ok (.putfield 19, 3) := q9_dX5_readOn_31.2.2.2.1
theorem dX5_readOn_39 : decode cX5_readOn 39 = .ok (.iconst 1, 1) := q9_dX5_readOn_31.2.2.2.2.1
theorem dX5_readOn_40 : decode cX5_readOn 40 = .ok (.ireturn, 1) := q9_dX5_readOn_31.2.2.2.2.2
set_option maxRecDepth 20000 in
theorem ggX5_readWindow_X5_readNumber : GoodIn wsX5_readWindow wsX5_readNumber := goodIn_r _ [7, 2, 8, 9, 10, 6, 11, 12, 13, 14, 15, 16, 17, 18, 19, 20, 21, 22, 1, 23, 24, 25, 26, 27, 28] rfl (by decide +kernel)
set_option maxRecDepth 20000 in
theorem gX5_readWindow_X5_readNumber : GoodIn wsX5_readWindow (wsV RX5 55 RX5 yX5_readNumber wsX5_readNumber) := goodIn_app (goodIn_of _ (by decide +kernel)) ggX5_readWindow_X5_readNumber
set_option maxRecDepth 20000 in
theorem ggX5_readWindow_X5_peek : GoodIn wsX5_readWindow wsX5_peek := goodIn_r _ [15, 2, 16, 17, 18, 23, 24, 25, 26, 27, 28] rfl (by decide +kernel)
set_option maxRecDepth 20000 in
theorem gX5_readWindow_X5_peek : GoodIn wsX5_readWindow (wsV RX5 38 RX5 yX5_peek wsX5_peek) := goodIn_app (goodIn_of _ (by decide +kernel)) ggX5_readWindow_X5_peek
set_option maxRecDepth 20000 in
theorem ggX5_readWindow_X5_fail : GoodIn wsX5_readWindow wsX5_fail := goodIn_r _ [22, 1, 23, 24, 25, 26] rfl (by decide +kernel)
set_option maxRecDepth 20000 in
theorem gX5_readWindow_X5_fail : GoodIn wsX5_readWindow (wsV RX5 67 RX5 yX5_fail wsX5_fail) := goodIn_app (goodIn_of _ (by decide +kernel)) ggX5_readWindow_X5_fail
theorem q9_dX5_readWindow_0 : (decode cX5_readWindow 0 = .ok (.aload_n 0, 1)) ∧ (decode cX5_readWindow 1 = .ok (.iconst 0, 1)) ∧ (decode cX5_readWindow 2 = .ok (.bipush 23, 2)) ∧ (decode cX5_readWindow 4 = .ok (.invokevirtual 55, 3)) ∧ (decode cX5_readWindow 7 = .ok (.istore_n 1, 1)) ∧ (decode cX5_readWindow 8 = .ok (.aload_n 0, 1)) ∧ (decode cX5_readWindow 9 = .ok (.getfield 22, 3)) ∧ (decode cX5_readWindow 12 = .ok (.ifCond .eq 5, 3)) ∧ (decode cX5_readWindow 15 = .ok (.iconst 0, 1)) ∧ (decode cX5_readWindow 16 = .ok (.ireturn, 1)) := by decide +kernel
theorem dX5_readWindow_0 : decode cX5_readWindow 0 = .ok (.aload_n 0, 1) := q9_dX5_readWindow_0.1
theorem dX5_readWindow_1 : decode cX5_readWindow 1 = .ok (.iconst 0, 1) := q9_dX5_readWindow_0.2.1
theorem dX5_readWindow_2 : decode cX5_readWindow 2 = .ok (.bipush 23, 2) := q9_dX5_readWindow_0.2.2.1
theorem dX5_readWindow_4 : decode cX5_readWindow 4 = .ok (.invokevirtual 55, 3) := q9_dX5_readWindow_0.2.2.2.1
theorem dX5_readWindow_7 : decode cX5_readWindow 7 = .ok (.istore_n 1, 1) := q9_dX5_readWindow_0.2.2.2.2.1
theorem dX5_readWindow_8 : decode cX5_readWindow 8 = .ok (.aload_n 0, 1) := q9_dX5_readWindow_0.2.2.2.2.2.1
theorem dX5_readWindow_9 : decode cX5_readWindow 9 = .ok (.getfield 22, 3) := q9_dX5_readWindow_0.2.2.2.2.2.2.1
theorem dX5_readWindow_12 : decode cX5_readWindow 12 = .ok (.ifCond .eq 5, 3) := q9_dX5_readWindow_0.2.2.2.2.2.2.2.1
theorem dX5_readWindow_15 : decode cX5_readWindow 15 = .ok (.iconst 0, 1) := q9_dX5_readWindow_0.2.2.2.2.2.2.2.2.1
theorem dX5_readWindow_16 : decode cX5_readWindow 16 = .ok (.ireturn, 1) := q9_dX5_readWindow_0.2.2.2.2.2.2.2.2.2
theorem q9_dX5_readWindow_17 : (decode cX5_readWindow 17 = .ok (.aload_n 0, 1)) ∧ (decode cX5_readWindow 18 = .ok (.invokevirtual 38, 3)) ∧ (decode cX5_readWindow 21 = .ok (.bipush 45, 2)) ∧ (decode cX5_readWindow 23 = .ok (.if_icmp .eq 14, 3)) ∧ (decode cX5_readWindow 26 = .ok (.aload_n 0, 1)) ∧ (decode cX5_readWindow 27 = .ok (.iconst 1, 1)) ∧ (decode cX5_readWindow 28 = .ok (.aload_n 0, 1)) ∧ (decode cX5_readWindow 29 = .ok (.getfield 19, 3)) ∧ (decode cX5_readWindow 32 = .ok (.invokevirtual 67, 3)) ∧ (decode cX5_readWindow 35 = .ok (.iconst 0, 1)) := by decide +kernel
theorem dX5_readWindow_17 : decode cX5_readWindow 17 = .ok (.aload_n 0, 1) := q9_dX5_readWindow_17.1
theorem dX5_readWindow_18 : decode cX5_readWindow 18 = .ok (.invokevirtual 38, 3) := q9_dX5_readWindow_17.2.1
theorem dX5_readWindow_21 : decode cX5_readWindow 21 = .ok (.bipush 45, 2) := q9_dX5_readWindow_17.2.2.1
theorem dX5_readWindow_23 : decode cX5_readWindow 23 = .ok (.if_icmp .eq 14, 3) := q9_dX5_readWindow_17.2.2.2.1
theorem dX5_readWindow_26 : decode cX5_readWindow 26 = .ok (.aload_n 0, 1) := q9_dX5_readWindow_17.2.2.2.2.1
theorem dX5_readWindow_27 : decode cX5_readWindow 27 = .ok (.iconst 1, 1) := q9_dX5_readWindow_17.2.2.2.2.2.1
theorem dX5_readWindow_28 : decode cX5_readWindow 28 = .ok (.aload_n 0, 1) := q9_dX5_readWindow_17.2.2.2.2.2.2.1
theorem dX5_readWindow_29 : decode cX5_readWindow 29 = .ok (.getfield 19, 3) := q9_dX5_readWindow_17.2.2.2.2.2.2.2.1
theorem dX5_readWindow_32 : decode cX5_readWindow 32 = .ok (.invokevirtual 67, 3) := q9_dX5_readWindow_17.2.2.2.2.2.2.2.2.1
theorem dX5_readWindow_35 : decode cX5_readWindow 35 = .ok (.iconst 0, 1) := q9_dX5_readWindow_17.2.2.2.2.2.2.2.2.2
theorem q9_dX5_readWindow_36 : (decode cX5_readWindow 36 = .ok (.ireturn, 1)) ∧ (decode cX5_readWindow 37 = .ok (.aload_n 0, 1)) ∧ (decode cX5_readWindow 38 = .ok (.dup, 1)) ∧ (decode cX5_readWindow 39 = .ok (.getfield 19, 3)) ∧ (decode cX5_readWindow 42 = .ok (.iconst 1, 1)) ∧ (decode cX5_readWindow 43 = .ok (.iadd, 1)) ∧ (decode cX5_readWindow 44 = .ok (.putfield 19, 3)) ∧ (decode cX5_readWindow 47 = .ok (.aload_n 0, 1)) ∧ (decode cX5_readWindow 48 = .ok (.iload_n 1, 1)) ∧ (decode cX5_readWindow 49 = .ok (.iconst 1, 1)) := by decide +kernel
theorem dX5_readWindow_36 : decode cX5_readWindow 36 = .ok (.ireturn, 1) := q9_dX5_readWindow_36.1
theorem dX5_readWindow_37 : decode cX5_readWindow 37 = .ok (.aload_n 0, 1) := q9_dX5_readWindow_36.2.1
theorem dX5_readWindow_38 : decode cX5_readWindow 38 = .ok (.dup, 1) := q9_dX5_readWindow_36.2.2.1
theorem dX5_readWindow_39 : decode cX5_readWindow 39 = .ok (.getfield 19, 3) := q9_dX5_readWindow_36.2.2.2.1
theorem dX5_readWindow_42 : decode cX5_readWindow 42 = .ok (.iconst 1, 1) := q9_dX5_readWindow_36.2.2.2.2.1
theorem dX5_readWindow_43 : decode cX5_readWindow 43 = .ok (.iadd, 1) := q9_dX5_readWindow_36.2.2.2.2.2.1
theorem dX5_readWindow_44 : decode cX5_readWindow 44 = .ok (.putfield 19, 3) := q9_dX5_readWindow_36.2.2.2.2.2.2.1
theorem dX5_readWindow_47 : decode cX5_readWindow 47 = .ok (.aload_n 0, 1) := q9_dX5_readWindow_36.2.2.2.2.2.2.2.1
theorem dX5_readWindow_48 : decode cX5_readWindow 48 = .ok (.iload_n 1, 1) := q9_dX5_readWindow_36.2.2.2.2.2.2.2.2.1
theorem dX5_readWindow_49 : decode cX5_readWindow 49 = .ok (.iconst 1, 1) := q9_dX5_readWindow_36.2.2.2.2.2.2.2.2.2
theorem q9_dX5_readWindow_50 : (decode cX5_readWindow 50 = .ok (.iadd, 1)) ∧ (decode cX5_readWindow 51 = .ok (.bipush 24, 2)) ∧ (decode cX5_readWindow 53 = .ok (.invokevirtual 55, 3)) ∧ (decode cX5_readWindow 56 = .ok (.istore_n 2, 1)) ∧ (decode cX5_readWindow 57 = .ok (.aload_n 0, 1)) ∧ (decode cX5_readWindow 58 = .ok (.getfield 22, 3)) ∧ (decode cX5_readWindow 61 = .ok (.ifCond .ne 13, 3)) ∧ (decode cX5_readWindow 64 = .ok (.iconst 1, 1)) ∧ (decode cX5_readWindow 65 = .ok (.iload_n 2, 1)) ∧ (decode cX5_readWindow 66 = .ok (.ishl, 1)) := by decide +kernel
theorem dX5_readWindow_50 : decode cX5_readWindow 50 = .ok (.iadd, 1) := q9_dX5_readWindow_50.1
theorem dX5_readWindow_51 : decode cX5_readWindow 51 = .ok (.bipush 24, 2) := q9_dX5_readWindow_50.2.1
theorem dX5_readWindow_53 : decode cX5_readWindow 53 = .ok (.invokevirtual 55, 3) := q9_dX5_readWindow_50.2.2.1
theorem dX5_readWindow_56 : decode cX5_readWindow 56 = .ok (.istore_n 2, 1) := q9_dX5_readWindow_50.2.2.2.1
theorem dX5_readWindow_57 : decode cX5_readWindow 57 = .ok (.aload_n 0, 1) := q9_dX5_readWindow_50.2.2.2.2.1
theorem dX5_readWindow_58 : decode cX5_readWindow 58 = .ok (.getfield 22, 3) := q9_dX5_readWindow_50.2.2.2.2.2.1
theorem dX5_readWindow_61 : decode cX5_readWindow 61 = .ok (.ifCond .ne 13, 3) := q9_dX5_readWindow_50.2.2.2.2.2.2.1
theorem dX5_readWindow_64 : decode cX5_readWindow 64 = .ok (.iconst 1, 1) := q9_dX5_readWindow_50.2.2.2.2.2.2.2.1
theorem dX5_readWindow_65 : decode cX5_readWindow 65 = .ok (.iload_n 2, 1) := q9_dX5_readWindow_50.2.2.2.2.2.2.2.2.1
theorem dX5_readWindow_66 : decode cX5_readWindow 66 = .ok (.ishl, 1) := q9_dX5_readWindow_50.2.2.2.2.2.2.2.2.2
theorem q9_dX5_readWindow_67 : (decode cX5_readWindow 67 = .ok (.iconst 1, 1)) ∧ (decode cX5_readWindow 68 = .ok (.iload_n 1, 1)) ∧ (decode cX5_readWindow 69 = .ok (.ishl, 1)) ∧ (decode cX5_readWindow 70 = .ok (.isub, 1)) ∧ (decode cX5_readWindow 71 = .ok (.goto 4, 3)) ∧ (decode cX5_readWindow 74 = .ok (.iconst 0, 1)) ∧ (decode cX5_readWindow 75 = .ok (.ireturn, 1)) := by decide +kernel
theorem dX5_readWindow_67 : decode cX5_readWindow 67 = .ok (.iconst 1, 1) := q9_dX5_readWindow_67.1
theorem dX5_readWindow_68 : decode cX5_readWindow 68 = .ok (.iload_n 1, 1) := q9_dX5_readWindow_67.2.1
theorem dX5_readWindow_69 : decode cX5_readWindow 69 = .ok (.ishl, 1) := q9_dX5_readWindow_67.2.2.1
theorem dX5_readWindow_70 : decode cX5_readWindow 70 = .ok (.isub, 1) := q9_dX5_readWindow_67.2.2.2.1
theorem dX5_readWindow_71 : decode cX5_readWindow 71 = .ok (.goto 4, 3) := q9_dX5_readWindow_67.2.2.2.2.1
theorem dX5_readWindow_74 : decode cX5_readWindow 74 = .ok (.iconst 0, 1) := q9_dX5_readWindow_67.2.2.2.2.2.1
theorem dX5_readWindow_75 : decode cX5_readWindow 75 = .ok (.ireturn, 1) := q9_dX5_readWindow_67.2.2.2.2.2.2
set_option maxRecDepth 20000 in
theorem ggX5_readDigits_X5_isDigit : GoodIn wsX5_readDigits wsX5_isDigit := goodIn_r _ [6, 7, 8, 9, 5, 10, 1, 11, 12, 13, 19, 20, 21, 22, 23, 24] rfl (by decide +kernel)
set_option maxRecDepth 20000 in
theorem gX5_readDigits_X5_isDigit : GoodIn wsX5_readDigits (wsV RX5 71 RX5 yX5_isDigit wsX5_isDigit) := goodIn_app (goodIn_of _ (by decide +kernel)) ggX5_readDigits_X5_isDigit
set_option maxRecDepth 20000 in
theorem ggX5_readDigits_X5_peek : GoodIn wsX5_readDigits wsX5_peek := goodIn_r _ [10, 1, 11, 12, 13, 19, 20, 21, 22, 23, 24] rfl (by decide +kernel)
set_option maxRecDepth 20000 in
theorem gX5_readDigits_X5_peek : GoodIn wsX5_readDigits (wsV RX5 38 RX5 yX5_peek wsX5_peek) := goodIn_app (goodIn_of _ (by decide +kernel)) ggX5_readDigits_X5_peek
set_option maxRecDepth 20000 in
theorem ggX5_readDigits_X5_fail : GoodIn wsX5_readDigits wsX5_fail := goodIn_r _ [17, 18, 19, 20, 21, 22] rfl (by decide +kernel)
set_option maxRecDepth 20000 in
theorem gX5_readDigits_X5_fail : GoodIn wsX5_readDigits (wsV RX5 67 RX5 yX5_fail wsX5_fail) := goodIn_app (goodIn_of _ (by decide +kernel)) ggX5_readDigits_X5_fail
theorem q9_dX5_readDigits_0 : (decode cX5_readDigits 0 = .ok (.iconst 0, 1)) ∧ (decode cX5_readDigits 1 = .ok (.istore_n 3, 1)) ∧ (decode cX5_readDigits 2 = .ok (.aload_n 0, 1)) ∧ (decode cX5_readDigits 3 = .ok (.getfield 19, 3)) ∧ (decode cX5_readDigits 6 = .ok (.istore 4, 2)) ∧ (decode cX5_readDigits 8 = .ok (.iconst 0, 1)) ∧ (decode cX5_readDigits 9 = .ok (.istore 5, 2)) ∧ (decode cX5_readDigits 11 = .ok (.iload 5, 2)) ∧ (decode cX5_readDigits 13 = .ok (.iload_n 2, 1)) ∧ (decode cX5_readDigits 14 = .ok (.if_icmp .ge 59, 3)) := by decide +kernel
theorem dX5_readDigits_0 : decode cX5_readDigits 0 = .ok (.iconst 0, 1) := q9_dX5_readDigits_0.1
theorem dX5_readDigits_1 : decode cX5_readDigits 1 = .ok (.istore_n 3, 1) := q9_dX5_readDigits_0.2.1
theorem dX5_readDigits_2 : decode cX5_readDigits 2 = .ok (.aload_n 0, 1) := q9_dX5_readDigits_0.2.2.1
theorem dX5_readDigits_3 : decode cX5_readDigits 3 = .ok (.getfield 19, 3) := q9_dX5_readDigits_0.2.2.2.1
theorem dX5_readDigits_6 : decode cX5_readDigits 6 = .ok (.istore 4, 2) := q9_dX5_readDigits_0.2.2.2.2.1
theorem dX5_readDigits_8 : decode cX5_readDigits 8 = .ok (.iconst 0, 1) := q9_dX5_readDigits_0.2.2.2.2.2.1
theorem dX5_readDigits_9 : decode cX5_readDigits 9 = .ok (.istore 5, 2) := q9_dX5_readDigits_0.2.2.2.2.2.2.1
theorem dX5_readDigits_11 : decode cX5_readDigits 11 = .ok (.iload 5, 2) := q9_dX5_readDigits_0.2.2.2.2.2.2.2.1
theorem dX5_readDigits_13 : decode cX5_readDigits 13 = .ok (.iload_n 2, 1) := q9_dX5_readDigits_0.2.2.2.2.2.2.2.2.1
theorem dX5_readDigits_14 : decode cX5_readDigits 14 = .ok (.if_icmp .ge 59, 3) := q9_dX5_readDigits_0.2.2.2.2.2.2.2.2.2
theorem q9_dX5_readDigits_17 : (decode cX5_readDigits 17 = .ok (.aload_n 0, 1)) ∧ (decode cX5_readDigits 18 = .ok (.invokevirtual 71, 3)) ∧ (decode cX5_readDigits 21 = .ok (.ifCond .eq 52, 3)) ∧ (decode cX5_readDigits 24 = .ok (.aload_n 0, 1)) ∧ (decode cX5_readDigits 25 = .ok (.invokevirtual 38, 3)) ∧ (decode cX5_readDigits 28 = .ok (.bipush 48, 2)) ∧ (decode cX5_readDigits 30 = .ok (.isub, 1)) ∧ (decode cX5_readDigits 31 = .ok (.istore 6, 2)) ∧ (decode cX5_readDigits 33 = .ok (.iload 6, 2)) ∧ (decode cX5_readDigits 35 = .ok (.iload_n 1, 1)) := by decide +kernel
theorem dX5_readDigits_17 : decode cX5_readDigits 17 = .ok (.aload_n 0, 1) := q9_dX5_readDigits_17.1
theorem dX5_readDigits_18 : decode cX5_readDigits 18 = .ok (.invokevirtual 71, 3) := q9_dX5_readDigits_17.2.1
theorem dX5_readDigits_21 : decode cX5_readDigits 21 = .ok (.ifCond .eq 52, 3) := q9_dX5_readDigits_17.2.2.1
theorem dX5_readDigits_24 : decode cX5_readDigits 24 = .ok (.aload_n 0, 1) := q9_dX5_readDigits_17.2.2.2.1
theorem dX5_readDigits_25 : decode cX5_readDigits 25 = .ok (.invokevirtual 38, 3) := q9_dX5_readDigits_17.2.2.2.2.1
theorem dX5_readDigits_28 : decode cX5_readDigits 28 = .ok (.bipush 48, 2) := q9_dX5_readDigits_17.2.2.2.2.2.1
theorem dX5_readDigits_30 : decode cX5_readDigits 30 = .ok (.isub, 1) := q9_dX5_readDigits_17.2.2.2.2.2.2.1
theorem dX5_readDigits_31 : decode cX5_readDigits 31 = .ok (.istore 6, 2) := q9_dX5_readDigits_17.2.2.2.2.2.2.2.1
theorem dX5_readDigits_33 : decode cX5_readDigits 33 = .ok (.iload 6, 2) := q9_dX5_readDigits_17.2.2.2.2.2.2.2.2.1
theorem dX5_readDigits_35 : decode cX5_readDigits 35 = .ok (.iload_n 1, 1) := q9_dX5_readDigits_17.2.2.2.2.2.2.2.2.2
theorem q9_dX5_readDigits_36 : (decode cX5_readDigits 36 = .ok (.if_icmp .le 14, 3)) ∧ (decode cX5_readDigits 39 = .ok (.aload_n 0, 1)) ∧ (decode cX5_readDigits 40 = .ok (.iconst 2, 1)) ∧ (decode cX5_readDigits 41 = .ok (.aload_n 0, 1)) ∧ (decode cX5_readDigits 42 = .ok (.getfield 19, 3)) ∧ (decode cX5_readDigits 45 = .ok (.invokevirtual 67, 3)) ∧ (decode cX5_readDigits 48 = .ok (.iload_n 3, 1)) ∧ (decode cX5_readDigits 49 = .ok (.ireturn, 1)) ∧ (decode cX5_readDigits 50 = .ok (.iload_n 3, 1)) ∧ (decode cX5_readDigits 51 = .ok (.iconst 1, 1)) := by decide +kernel
theorem dX5_readDigits_36 : decode cX5_readDigits 36 = .ok (.if_icmp .le 14, 3) := q9_dX5_readDigits_36.1
theorem dX5_readDigits_39 : decode cX5_readDigits 39 = .ok (.aload_n 0, 1) := q9_dX5_readDigits_36.2.1
theorem dX5_readDigits_40 : decode cX5_readDigits 40 = .ok (.iconst 2, 1) := q9_dX5_readDigits_36.2.2.1
theorem dX5_readDigits_41 : decode cX5_readDigits 41 = .ok (.aload_n 0, 1) := q9_dX5_readDigits_36.2.2.2.1
theorem dX5_readDigits_42 : decode cX5_readDigits 42 = .ok (.getfield 19, 3) := q9_dX5_readDigits_36.2.2.2.2.1
theorem dX5_readDigits_45 : decode cX5_readDigits 45 = .ok (.invokevirtual 67, 3) := q9_dX5_readDigits_36.2.2.2.2.2.1
theorem dX5_readDigits_48 : decode cX5_readDigits 48 = .ok (.iload_n 3, 1) := q9_dX5_readDigits_36.2.2.2.2.2.2.1
theorem dX5_readDigits_49 : decode cX5_readDigits 49 = .ok (.ireturn, 1) := q9_dX5_readDigits_36.2.2.2.2.2.2.2.1
theorem dX5_readDigits_50 : decode cX5_readDigits 50 = .ok (.iload_n 3, 1) := q9_dX5_readDigits_36.2.2.2.2.2.2.2.2.1
theorem dX5_readDigits_51 : decode cX5_readDigits 51 = .ok (.iconst 1, 1) := q9_dX5_readDigits_36.2.2.2.2.2.2.2.2.2
theorem q9_dX5_readDigits_52 : (decode cX5_readDigits 52 = .ok (.iload 6, 2)) ∧ (decode cX5_readDigits 54 = .ok (.ishl, 1)) ∧ (decode cX5_readDigits 55 = .ok (.ior, 1)) ∧ (decode cX5_readDigits 56 = .ok (.istore_n 3, 1)) ∧ (decode cX5_readDigits 57 = .ok (.aload_n 0, 1)) ∧ (decode cX5_readDigits 58 = .ok (.dup, 1)) ∧ (decode cX5_readDigits 59 = .ok (.getfield 19, 3)) ∧ (decode cX5_readDigits 62 = .ok (.iconst 1, 1)) ∧ (decode cX5_readDigits 63 = .ok (.iadd, 1)) ∧ (decode cX5_readDigits 64 = .ok (.putfield 19, 3)) := by decide +kernel
theorem dX5_readDigits_52 : decode cX5_readDigits 52 = .ok (.iload 6, 2) := q9_dX5_readDigits_52.1
theorem dX5_readDigits_54 : decode cX5_readDigits 54 = .ok (.ishl, 1) := q9_dX5_readDigits_52.2.1
theorem dX5_readDigits_55 : decode cX5_readDigits 55 = .ok (.ior, 1) := q9_dX5_readDigits_52.2.2.1
theorem dX5_readDigits_56 : decode cX5_readDigits 56 = .ok (.istore_n 3, 1) := q9_dX5_readDigits_52.2.2.2.1
theorem dX5_readDigits_57 : decode cX5_readDigits 57 = .ok (.aload_n 0, 1) := q9_dX5_readDigits_52.2.2.2.2.1
theorem dX5_readDigits_58 : decode cX5_readDigits 58 = .ok (.dup, 1) := q9_dX5_readDigits_52.2.2.2.2.2.1
theorem dX5_readDigits_59 : decode cX5_readDigits 59 = .ok (.getfield 19, 3) := q9_dX5_readDigits_52.2.2.2.2.2.2.1
theorem dX5_readDigits_62 : decode cX5_readDigits 62 = .ok (.iconst 1, 1) := q9_dX5_readDigits_52.2.2.2.2.2.2.2.1
theorem dX5_readDigits_63 : decode cX5_readDigits 63 = .ok (.iadd, 1) := q9_dX5_readDigits_52.2.2.2.2.2.2.2.2.1
theorem dX5_readDigits_64 : decode cX5_readDigits 64 = .ok (.putfield 19, 3) := q9_dX5_readDigits_52.2.2.2.2.2.2.2.2.2
theorem q9_dX5_readDigits_67 : (decode cX5_readDigits 67 = .ok (.iinc 5 1, 3)) ∧ (decode cX5_readDigits 70 = .ok (.goto (-59), 3)) ∧ (decode cX5_readDigits 73 = .ok (.aload_n 0, 1)) ∧ (decode cX5_readDigits 74 = .ok (.getfield 19, 3)) ∧ (decode cX5_readDigits 77 = .ok (.iload 4, 2)) ∧ (decode cX5_readDigits 79 = .ok (.if_icmp .eq 10, 3)) ∧ (decode cX5_readDigits 82 = .ok (.aload_n 0, 1)) ∧ (decode cX5_readDigits 83 = .ok (.invokevirtual 71, 3)) ∧ (decode cX5_readDigits 86 = .ok (.ifCond .eq 12, 3)) ∧ (decode cX5_readDigits 89 = .ok (.aload_n 0, 1)) := by decide +kernel
theorem dX5_readDigits_67 : decode cX5_readDigits 67 = .ok (.iinc 5 1, 3) := q9_dX5_readDigits_67.1
theorem dX5_readDigits_70 : decode cX5_readDigits 70 = .ok (.goto (-59), 3) := q9_dX5_readDigits_67.2.1
theorem dX5_readDigits_73 : decode cX5_readDigits 73 = .ok (.aload_n 0, 1) := q9_dX5_readDigits_67.2.2.1
theorem dX5_readDigits_74 : decode cX5_readDigits 74 = .ok (.getfield 19, 3) := q9_dX5_readDigits_67.2.2.2.1
theorem dX5_readDigits_77 : decode cX5_readDigits 77 = .ok (.iload 4, 2) := q9_dX5_readDigits_67.2.2.2.2.1
theorem dX5_readDigits_79 : decode cX5_readDigits 79 = .ok (.if_icmp .eq 10, 3) := q9_dX5_readDigits_67.2.2.2.2.2.1
theorem dX5_readDigits_82 : decode cX5_readDigits 82 = .ok (.aload_n 0, 1) := q9_dX5_readDigits_67.2.2.2.2.2.2.1
theorem dX5_readDigits_83 : decode cX5_readDigits 83 = .ok (.invokevirtual 71, 3) := q9_dX5_readDigits_67.2.2.2.2.2.2.2.1
theorem dX5_readDigits_86 : decode cX5_readDigits 86 = .ok (.ifCond .eq 12, 3) := q9_dX5_readDigits_67.2.2.2.2.2.2.2.2.1
theorem dX5_readDigits_89 : decode cX5_readDigits 89 = .ok (.aload_n 0, 1) := q9_dX5_readDigits_67.2.2.2.2.2.2.2.2.2
theorem q9_dX5_readDigits_90 : (decode cX5_readDigits 90 = .ok (.iconst 1, 1)) ∧ (decode cX5_readDigits 91 = .ok (.aload_n 0, 1)) ∧ (decode cX5_readDigits 92 = .ok (.getfield 19, 3)) ∧ (decode cX5_readDigits 95 = .ok (.invokevirtual 67, 3)) ∧ (decode cX5_readDigits 98 = .ok (.iload_n 3, 1)) ∧ (decode cX5_readDigits 99 = .ok (.ireturn, 1)) := by decide +kernel
theorem dX5_readDigits_90 : decode cX5_readDigits 90 = .ok (.iconst 1, 1) := q9_dX5_readDigits_90.1
theorem dX5_readDigits_91 : decode cX5_readDigits 91 = .ok (.aload_n 0, 1) := q9_dX5_readDigits_90.2.1
theorem dX5_readDigits_92 : decode cX5_readDigits 92 = .ok (.getfield 19, 3) := q9_dX5_readDigits_90.2.2.1
theorem dX5_readDigits_95 : decode cX5_readDigits 95 = .ok (.invokevirtual 67, 3) := q9_dX5_readDigits_90.2.2.2.1
theorem dX5_readDigits_98 : decode cX5_readDigits 98 = .ok (.iload_n 3, 1) := q9_dX5_readDigits_90.2.2.2.2.1
theorem dX5_readDigits_99 : decode cX5_readDigits 99 = .ok (.ireturn, 1) := q9_dX5_readDigits_90.2.2.2.2.2
set_option maxRecDepth 20000 in
theorem ggX5_readNumber_X5_isDigit : GoodIn wsX5_readNumber wsX5_isDigit := goodIn_r _ [6, 7, 8, 9, 5, 10, 1, 11, 12, 13, 19, 20, 21, 22, 23, 24] rfl (by decide +kernel)
set_option maxRecDepth 20000 in
theorem gX5_readNumber_X5_isDigit : GoodIn wsX5_readNumber (wsV RX5 71 RX5 yX5_isDigit wsX5_isDigit) := goodIn_app (goodIn_of _ (by decide +kernel)) ggX5_readNumber_X5_isDigit
set_option maxRecDepth 20000 in
theorem ggX5_readNumber_X5_peek : GoodIn wsX5_readNumber wsX5_peek := goodIn_r _ [10, 1, 11, 12, 13, 19, 20, 21, 22, 23, 24] rfl (by decide +kernel)
set_option maxRecDepth 20000 in
theorem gX5_readNumber_X5_peek : GoodIn wsX5_readNumber (wsV RX5 38 RX5 yX5_peek wsX5_peek) := goodIn_app (goodIn_of _ (by decide +kernel)) ggX5_readNumber_X5_peek
set_option maxRecDepth 20000 in
theorem ggX5_readNumber_X5_fail : GoodIn wsX5_readNumber wsX5_fail := goodIn_r _ [17, 18, 19, 20, 21, 22] rfl (by decide +kernel)
set_option maxRecDepth 20000 in
theorem gX5_readNumber_X5_fail : GoodIn wsX5_readNumber (wsV RX5 67 RX5 yX5_fail wsX5_fail) := goodIn_app (goodIn_of _ (by decide +kernel)) ggX5_readNumber_X5_fail
theorem q9_dX5_readNumber_0 : (decode cX5_readNumber 0 = .ok (.iconst 0, 1)) ∧ (decode cX5_readNumber 1 = .ok (.istore_n 3, 1)) ∧ (decode cX5_readNumber 2 = .ok (.aload_n 0, 1)) ∧ (decode cX5_readNumber 3 = .ok (.getfield 19, 3)) ∧ (decode cX5_readNumber 6 = .ok (.istore 4, 2)) ∧ (decode cX5_readNumber 8 = .ok (.iconst 0, 1)) ∧ (decode cX5_readNumber 9 = .ok (.istore 5, 2)) ∧ (decode cX5_readNumber 11 = .ok (.iload 5, 2)) ∧ (decode cX5_readNumber 13 = .ok (.iconst 4, 1)) ∧ (decode cX5_readNumber 14 = .ok (.if_icmp .ge 39, 3)) := by decide +kernel
theorem dX5_readNumber_0 : decode cX5_readNumber 0 = .ok (.iconst 0, 1) := q9_dX5_readNumber_0.1
theorem dX5_readNumber_1 : decode cX5_readNumber 1 = .ok (.istore_n 3, 1) := q9_dX5_readNumber_0.2.1
theorem dX5_readNumber_2 : decode cX5_readNumber 2 = .ok (.aload_n 0, 1) := q9_dX5_readNumber_0.2.2.1
theorem dX5_readNumber_3 : decode cX5_readNumber 3 = .ok (.getfield 19, 3) := q9_dX5_readNumber_0.2.2.2.1
theorem dX5_readNumber_6 : decode cX5_readNumber 6 = .ok (.istore 4, 2) := q9_dX5_readNumber_0.2.2.2.2.1
theorem dX5_readNumber_8 : decode cX5_readNumber 8 = .ok (.iconst 0, 1) := q9_dX5_readNumber_0.2.2.2.2.2.1
theorem dX5_readNumber_9 : decode cX5_readNumber 9 = .ok (.istore 5, 2) := q9_dX5_readNumber_0.2.2.2.2.2.2.1
theorem dX5_readNumber_11 : decode cX5_readNumber 11 = .ok (.iload 5, 2) := q9_dX5_readNumber_0.2.2.2.2.2.2.2.1
theorem dX5_readNumber_13 : decode cX5_readNumber 13 = .ok (.iconst 4, 1) := q9_dX5_readNumber_0.2.2.2.2.2.2.2.2.1
theorem dX5_readNumber_14 : decode cX5_readNumber 14 = .ok (.if_icmp .ge 39, 3) := q9_dX5_readNumber_0.2.2.2.2.2.2.2.2.2
theorem q9_dX5_readNumber_17 : (decode cX5_readNumber 17 = .ok (.aload_n 0, 1)) ∧ (decode cX5_readNumber 18 = .ok (.invokevirtual 71, 3)) ∧ (decode cX5_readNumber 21 = .ok (.ifCond .eq 32, 3)) ∧ (decode cX5_readNumber 24 = .ok (.iload_n 3, 1)) ∧ (decode cX5_readNumber 25 = .ok (.bipush 10, 2)) ∧ (decode cX5_readNumber 27 = .ok (.imul, 1)) ∧ (decode cX5_readNumber 28 = .ok (.aload_n 0, 1)) ∧ (decode cX5_readNumber 29 = .ok (.invokevirtual 38, 3)) ∧ (decode cX5_readNumber 32 = .ok (.iadd, 1)) ∧ (decode cX5_readNumber 33 = .ok (.bipush 48, 2)) := by decide +kernel
theorem dX5_readNumber_17 : decode cX5_readNumber 17 = .ok (.aload_n 0, 1) := q9_dX5_readNumber_17.1
theorem dX5_readNumber_18 : decode cX5_readNumber 18 = .ok (.invokevirtual 71, 3) := q9_dX5_readNumber_17.2.1
theorem dX5_readNumber_21 : decode cX5_readNumber 21 = .ok (.ifCond .eq 32, 3) := q9_dX5_readNumber_17.2.2.1
theorem dX5_readNumber_24 : decode cX5_readNumber 24 = .ok (.iload_n 3, 1) := q9_dX5_readNumber_17.2.2.2.1
theorem dX5_readNumber_25 : decode cX5_readNumber 25 = .ok (.bipush 10, 2) := q9_dX5_readNumber_17.2.2.2.2.1
theorem dX5_readNumber_27 : decode cX5_readNumber 27 = .ok (.imul, 1) := q9_dX5_readNumber_17.2.2.2.2.2.1
theorem dX5_readNumber_28 : decode cX5_readNumber 28 = .ok (.aload_n 0, 1) := q9_dX5_readNumber_17.2.2.2.2.2.2.1
theorem dX5_readNumber_29 : decode cX5_readNumber 29 = .ok (.invokevirtual 38, 3) := q9_dX5_readNumber_17.2.2.2.2.2.2.2.1
theorem dX5_readNumber_32 : decode cX5_readNumber 32 = .ok (.iadd, 1) := q9_dX5_readNumber_17.2.2.2.2.2.2.2.2.1
theorem dX5_readNumber_33 : decode cX5_readNumber 33 = .ok (.bipush 48, 2) := q9_dX5_readNumber_17.2.2.2.2.2.2.2.2.2
theorem q9_dX5_readNumber_35 : (decode cX5_readNumber 35 = .ok (.isub, 1)) ∧ (decode cX5_readNumber 36 = .ok (.istore_n 3, 1)) ∧ (decode cX5_readNumber 37 = .ok (.aload_n 0, 1)) ∧ (decode cX5_readNumber 38 = .ok (.dup, 1)) ∧ (decode cX5_readNumber 39 = .ok (.getfield 19, 3)) ∧ (decode cX5_readNumber 42 = .ok (.iconst 1, 1)) ∧ (decode cX5_readNumber 43 = .ok (.iadd, 1)) ∧ (decode cX5_readNumber 44 = .ok (.putfield 19, 3)) ∧ (decode cX5_readNumber 47 = .ok (.iinc 5 1, 3)) ∧ (decode cX5_readNumber 50 = .ok (.goto (-39), 3)) := by decide +kernel
theorem dX5_readNumber_35 : decode cX5_readNumber 35 = .ok (.isub, 1) := q9_dX5_readNumber_35.1
theorem dX5_readNumber_36 : decode cX5_readNumber 36 = .ok (.istore_n 3, 1) := q9_dX5_readNumber_35.2.1
theorem dX5_readNumber_37 : decode cX5_readNumber 37 = .ok (.aload_n 0, 1) := q9_dX5_readNumber_35.2.2.1
theorem dX5_readNumber_38 : decode cX5_readNumber 38 = .ok (.dup, 1) := q9_dX5_readNumber_35.2.2.2.1
theorem dX5_readNumber_39 : decode cX5_readNumber 39 = .ok (.getfield 19, 3) := q9_dX5_readNumber_35.2.2.2.2.1
theorem dX5_readNumber_42 : decode cX5_readNumber 42 = .ok (.iconst 1, 1) := q9_dX5_readNumber_35.2.2.2.2.2.1
theorem dX5_readNumber_43 : decode cX5_readNumber 43 = .ok (.iadd, 1) := q9_dX5_readNumber_35.2.2.2.2.2.2.1
theorem dX5_readNumber_44 : decode cX5_readNumber 44 = .ok (.putfield 19, 3) := q9_dX5_readNumber_35.2.2.2.2.2.2.2.1
theorem dX5_readNumber_47 : decode cX5_readNumber 47 = .ok (.iinc 5 1, 3) := q9_dX5_readNumber_35.2.2.2.2.2.2.2.2.1
theorem dX5_readNumber_50 : decode cX5_readNumber 50 = .ok (.goto (-39), 3) := q9_dX5_readNumber_35.2.2.2.2.2.2.2.2.2
theorem q9_dX5_readNumber_53 : (decode cX5_readNumber 53 = .ok (.aload_n 0, 1)) ∧ (decode cX5_readNumber 54 = .ok (.getfield 19, 3)) ∧ (decode cX5_readNumber 57 = .ok (.iload 4, 2)) ∧ (decode cX5_readNumber 59 = .ok (.if_icmp .eq 10, 3)) ∧ (decode cX5_readNumber 62 = .ok (.aload_n 0, 1)) ∧ (decode cX5_readNumber 63 = .ok (.invokevirtual 71, 3)) ∧ (decode cX5_readNumber 66 = .ok (.ifCond .eq 15, 3)) ∧ (decode cX5_readNumber 69 = .ok (.aload_n 0, 1)) ∧ (decode cX5_readNumber 70 = .ok (.iconst 1, 1)) ∧ (decode cX5_readNumber 71 = .ok (.aload_n 0, 1)) := by decide +kernel
theorem dX5_readNumber_53 : decode cX5_readNumber 53 = .ok (.aload_n 0, 1) := q9_dX5_readNumber_53.1
theorem dX5_readNumber_54 : decode cX5_readNumber 54 = .ok (.getfield 19, 3) := q9_dX5_readNumber_53.2.1
theorem dX5_readNumber_57 : decode cX5_readNumber 57 = .ok (.iload 4, 2) := q9_dX5_readNumber_53.2.2.1
theorem dX5_readNumber_59 : decode cX5_readNumber 59 = .ok (.if_icmp .eq 10, 3) := q9_dX5_readNumber_53.2.2.2.1
theorem dX5_readNumber_62 : decode cX5_readNumber 62 = .ok (.aload_n 0, 1) := q9_dX5_readNumber_53.2.2.2.2.1
theorem dX5_readNumber_63 : decode cX5_readNumber 63 = .ok (.invokevirtual 71, 3) := q9_dX5_readNumber_53.2.2.2.2.2.1
theorem dX5_readNumber_66 : decode cX5_readNumber 66 = .ok (.ifCond .eq 15, 3) := q9_dX5_readNumber_53.2.2.2.2.2.2.1
theorem dX5_readNumber_69 : decode cX5_readNumber 69 = .ok (.aload_n 0, 1) := q9_dX5_readNumber_53.2.2.2.2.2.2.2.1
theorem dX5_readNumber_70 : decode cX5_readNumber 70 = .ok (.iconst 1, 1) := q9_dX5_readNumber_53.2.2.2.2.2.2.2.2.1
theorem dX5_readNumber_71 : decode cX5_readNumber 71 = .ok (.aload_n 0, 1) := q9_dX5_readNumber_53.2.2.2.2.2.2.2.2.2
theorem q9_dX5_readNumber_72 : (decode cX5_readNumber 72 = .ok (.getfield 19, 3)) ∧ (decode cX5_readNumber 75 = .ok (.invokevirtual 67, 3)) ∧ (decode cX5_readNumber 78 = .ok (.goto 20, 3)) ∧ (decode cX5_readNumber 81 = .ok (.iload_n 3, 1)) ∧ (decode cX5_readNumber 82 = .ok (.iload_n 1, 1)) ∧ (decode cX5_readNumber 83 = .ok (.if_icmp .lt 8, 3)) ∧ (decode cX5_readNumber 86 = .ok (.iload_n 3, 1)) ∧ (decode cX5_readNumber 87 = .ok (.iload_n 2, 1)) ∧ (decode cX5_readNumber 88 = .ok (.if_icmp .le 10, 3)) ∧ (decode cX5_readNumber 91 = .ok (.aload_n 0, 1)) := by decide +kernel
theorem dX5_readNumber_72 : decode cX5_readNumber 72 = .ok (.getfield 19, 3) := q9_dX5_readNumber_72.1
theorem dX5_readNumber_75 : decode cX5_readNumber 75 = .ok (.invokevirtual 67, 3) := q9_dX5_readNumber_72.2.1
theorem dX5_readNumber_78 : decode cX5_readNumber 78 = .ok (.goto 20, 3) := q9_dX5_readNumber_72.2.2.1
theorem dX5_readNumber_81 : decode cX5_readNumber 81 = .ok (.iload_n 3, 1) := q9_dX5_readNumber_72.2.2.2.1
theorem dX5_readNumber_82 : decode cX5_readNumber 82 = .ok (.iload_n 1, 1) := q9_dX5_readNumber_72.2.2.2.2.1
theorem dX5_readNumber_83 : decode cX5_readNumber 83 = .ok (.if_icmp .lt 8, 3) := q9_dX5_readNumber_72.2.2.2.2.2.1
theorem dX5_readNumber_86 : decode cX5_readNumber 86 = .ok (.iload_n 3, 1) := q9_dX5_readNumber_72.2.2.2.2.2.2.1
theorem dX5_readNumber_87 : decode cX5_readNumber 87 = .ok (.iload_n 2, 1) := q9_dX5_readNumber_72.2.2.2.2.2.2.2.1
theorem dX5_readNumber_88 : decode cX5_readNumber 88 = .ok (.if_icmp .le 10, 3) := q9_dX5_readNumber_72.2.2.2.2.2.2.2.2.1
theorem dX5_readNumber_91 : decode cX5_readNumber 91 = .ok (.aload_n 0, 1) := q9_dX5_readNumber_72.2.2.2.2.2.2.2.2.2
theorem q9_dX5_readNumber_92 : (decode cX5_readNumber 92 = .ok (.iconst 2, 1)) ∧ (decode cX5_readNumber 93 = .ok (.iload 4, 2)) ∧ (decode cX5_readNumber 95 = .ok (.invokevirtual 67, 3)) ∧ (decode cX5_readNumber 98 = .ok (.iload_n 3, 1)) ∧ (decode cX5_readNumber 99 = .ok (.ireturn, 1)) := by decide +kernel
theorem dX5_readNumber_92 : decode cX5_readNumber 92 = .ok (.iconst 2, 1) := q9_dX5_readNumber_92.1
theorem dX5_readNumber_93 : decode cX5_readNumber 93 = .ok (.iload 4, 2) := q9_dX5_readNumber_92.2.1
theorem dX5_readNumber_95 : decode cX5_readNumber 95 = .ok (.invokevirtual 67, 3) := q9_dX5_readNumber_92.2.2.1
theorem dX5_readNumber_98 : decode cX5_readNumber 98 = .ok (.iload_n 3, 1) := q9_dX5_readNumber_92.2.2.2.1
theorem dX5_readNumber_99 : decode cX5_readNumber 99 = .ok (.ireturn, 1) := q9_dX5_readNumber_92.2.2.2.2
set_option maxRecDepth 20000 in
theorem ggX5_isDigit_X5_peek : GoodIn wsX5_isDigit wsX5_peek := goodIn_r _ [5, 6, 7, 8, 9, 10, 11, 12, 13, 14, 15] rfl (by decide +kernel)
set_option maxRecDepth 20000 in
theorem gX5_isDigit_X5_peek : GoodIn wsX5_isDigit (wsV RX5 38 RX5 yX5_peek wsX5_peek) := goodIn_app (goodIn_of _ (by decide +kernel)) ggX5_isDigit_X5_peek
theorem q9_dX5_isDigit_0 : (decode cX5_isDigit 0 = .ok (.aload_n 0, 1)) ∧ (decode cX5_isDigit 1 = .ok (.invokevirtual 38, 3)) ∧ (decode cX5_isDigit 4 = .ok (.istore_n 1, 1)) ∧ (decode cX5_isDigit 5 = .ok (.iload_n 1, 1)) ∧ (decode cX5_isDigit 6 = .ok (.bipush 48, 2)) ∧ (decode cX5_isDigit 8 = .ok (.if_icmp .lt 13, 3)) ∧ (decode cX5_isDigit 11 = .ok (.iload_n 1, 1)) ∧ (decode cX5_isDigit 12 = .ok (.bipush 57, 2)) ∧ (decode cX5_isDigit 14 = .ok (.if_icmp .gt 7, 3)) ∧ (decode cX5_isDigit 17 = .ok (.iconst 1, 1)) := by decide +kernel
theorem dX5_isDigit_0 : decode cX5_isDigit 0 = .ok (.aload_n 0, 1) := q9_dX5_isDigit_0.1
theorem dX5_isDigit_1 : decode cX5_isDigit 1 = .ok (.invokevirtual 38, 3) := q9_dX5_isDigit_0.2.1
theorem dX5_isDigit_4 : decode cX5_isDigit 4 = .ok (.istore_n 1, 1) := q9_dX5_isDigit_0.2.2.1
theorem dX5_isDigit_5 : decode cX5_isDigit 5 = .ok (.iload_n 1, 1) := q9_dX5_isDigit_0.2.2.2.1
theorem dX5_isDigit_6 : decode cX5_isDigit 6 = .ok (.bipush 48, 2) := q9_dX5_isDigit_0.2.2.2.2.1
theorem dX5_isDigit_8 : decode cX5_isDigit 8 = .ok (.if_icmp .lt 13, 3) := q9_dX5_isDigit_0.2.2.2.2.2.1
theorem dX5_isDigit_11 : decode cX5_isDigit 11 = .ok (.iload_n 1, 1) := q9_dX5_isDigit_0.2.2.2.2.2.2.1
theorem dX5_isDigit_12 : decode cX5_isDigit 12 = .ok (.bipush 57, 2) := q9_dX5_isDigit_0.2.2.2.2.2.2.2.1
theorem dX5_isDigit_14 : decode cX5_isDigit 14 = .ok (.if_icmp .gt 7, 3) := q9_dX5_isDigit_0.2.2.2.2.2.2.2.2.1
theorem dX5_isDigit_17 : decode cX5_isDigit 17 = .ok (.iconst 1, 1) := q9_dX5_isDigit_0.2.2.2.2.2.2.2.2.2
theorem q9_dX5_isDigit_18 : (decode cX5_isDigit 18 = .ok (.goto 4, 3)) ∧ (decode cX5_isDigit 21 = .ok (.iconst 0, 1)) ∧ (decode cX5_isDigit 22 = .ok (.ireturn, 1)) ∧ (decode cX5_peek 0 = .ok (.aload_n 0, 1)) ∧ (decode cX5_peek 1 = .ok (.getfield 19, 3)) ∧ (decode cX5_peek 4 = .ok (.ifCond .lt 42, 3)) ∧ (decode cX5_peek 7 = .ok (.aload_n 0, 1)) ∧ (decode cX5_peek 8 = .ok (.getfield 19, 3)) ∧ (decode cX5_peek 11 = .ok (.aload_n 0, 1)) ∧ (decode cX5_peek 12 = .ok (.getfield 15, 3)) := by decide +kernel
theorem dX5_isDigit_18 : decode cX5_isDigit 18 = .ok (.goto 4, 3) := q9_dX5_isDigit_18.1
theorem dX5_isDigit_21 : decode cX5_isDigit 21 = .ok (.iconst 0, 1) := q9_dX5_isDigit_18.2.1
theorem dX5_isDigit_22 : decode cX5_isDigit 22 = .ok (.ireturn, 1) := q9_dX5_isDigit_18.2.2.1
theorem dX5_peek_0 : decode cX5_peek 0 = .ok (.aload_n 0, 1) := q9_dX5_isDigit_18.2.2.2.1
theorem dX5_peek_1 : decode cX5_peek 1 = .ok (.getfield 19, 3) := q9_dX5_isDigit_18.2.2.2.2.1
theorem dX5_peek_4 : decode cX5_peek 4 = .ok (.ifCond .lt 42, 3) := q9_dX5_isDigit_18.2.2.2.2.2.1
theorem dX5_peek_7 : decode cX5_peek 7 = .ok (.aload_n 0, 1) := q9_dX5_isDigit_18.2.2.2.2.2.2.1
theorem dX5_peek_8 : decode cX5_peek 8 = .ok (.getfield 19, 3) := q9_dX5_isDigit_18.2.2.2.2.2.2.2.1
theorem dX5_peek_11 : decode cX5_peek 11 = .ok (.aload_n 0, 1) := q9_dX5_isDigit_18.2.2.2.2.2.2.2.2.1
theorem dX5_peek_12 : decode cX5_peek 12 = .ok (.getfield 15, 3) := q9_dX5_isDigit_18.2.2.2.2.2.2.2.2.2
theorem q9_dX5_peek_15 : (decode cX5_peek 15 = .ok (.if_icmp .ge 31, 3)) ∧ (decode cX5_peek 18 = .ok (.aload_n 0, 1)) ∧ (decode cX5_peek 19 = .ok (.getfield 19, 3)) ∧ (decode cX5_peek 22 = .ok (.bipush 80, 2)) ∧ (decode cX5_peek 24 = .ok (.if_icmp .ge 22, 3)) ∧ (decode cX5_peek 27 = .ok (.aload_n 0, 1)) ∧ (decode cX5_peek 28 = .ok (.getfield 9, 3)) ∧ (decode cX5_peek 31 = .ok (.getfield 74, 3)) ∧ (decode cX5_peek 34 = .ok (.aload_n 0, 1)) ∧ (decode cX5_peek 35 = .ok (.getfield 19, 3)) := by decide +kernel
theorem dX5_peek_15 : decode cX5_peek 15 = .ok (.if_icmp .ge 31, 3) := q9_dX5_peek_15.1
theorem dX5_peek_18 : decode cX5_peek 18 = .ok (.aload_n 0, 1) := q9_dX5_peek_15.2.1
theorem dX5_peek_19 : decode cX5_peek 19 = .ok (.getfield 19, 3) := q9_dX5_peek_15.2.2.1
theorem dX5_peek_22 : decode cX5_peek 22 = .ok (.bipush 80, 2) := q9_dX5_peek_15.2.2.2.1
theorem dX5_peek_24 : decode cX5_peek 24 = .ok (.if_icmp .ge 22, 3) := q9_dX5_peek_15.2.2.2.2.1
theorem dX5_peek_27 : decode cX5_peek 27 = .ok (.aload_n 0, 1) := q9_dX5_peek_15.2.2.2.2.2.1
theorem dX5_peek_28 : decode cX5_peek 28 = .ok (.getfield 9, 3) := q9_dX5_peek_15.2.2.2.2.2.2.1
theorem dX5_peek_31 : decode cX5_peek 31 = .ok (.getfield 74, 3) := q9_dX5_peek_15.2.2.2.2.2.2.2.1
theorem dX5_peek_34 : decode cX5_peek 34 = .ok (.aload_n 0, 1) := q9_dX5_peek_15.2.2.2.2.2.2.2.2.1
theorem dX5_peek_35 : decode cX5_peek 35 = .ok (.getfield 19, 3) := q9_dX5_peek_15.2.2.2.2.2.2.2.2.2
theorem q9_dX5_peek_38 : (decode cX5_peek 38 = .ok (.baload, 1)) ∧ (decode cX5_peek 39 = .ok (.sipush 255, 3)) ∧ (decode cX5_peek 42 = .ok (.iand, 1)) ∧ (decode cX5_peek 43 = .ok (.goto 4, 3)) ∧ (decode cX5_peek 46 = .ok (.iconst (-1), 1)) ∧ (decode cX5_peek 47 = .ok (.ireturn, 1)) ∧ (decode cX5_fail 0 = .ok (.aload_n 0, 1)) ∧ (decode cX5_fail 1 = .ok (.bipush 100, 2)) ∧ (decode cX5_fail 3 = .ok (.iload_n 1, 1)) ∧ (decode cX5_fail 4 = .ok (.imul, 1)) := by decide +kernel
theorem dX5_peek_38 : decode cX5_peek 38 = .ok (.baload, 1) := q9_dX5_peek_38.1
theorem dX5_peek_39 : decode cX5_peek 39 = .ok (.sipush 255, 3) := q9_dX5_peek_38.2.1
theorem dX5_peek_42 : decode cX5_peek 42 = .ok (.iand, 1) := q9_dX5_peek_38.2.2.1
theorem dX5_peek_43 : decode cX5_peek 43 = .ok (.goto 4, 3) := q9_dX5_peek_38.2.2.2.1
theorem dX5_peek_46 : decode cX5_peek 46 = .ok (.iconst (-1), 1) := q9_dX5_peek_38.2.2.2.2.1
theorem dX5_peek_47 : decode cX5_peek 47 = .ok (.ireturn, 1) := q9_dX5_peek_38.2.2.2.2.2.1
theorem dX5_fail_0 : decode cX5_fail 0 = .ok (.aload_n 0, 1) := q9_dX5_peek_38.2.2.2.2.2.2.1
theorem dX5_fail_1 : decode cX5_fail 1 = .ok (.bipush 100, 2) := q9_dX5_peek_38.2.2.2.2.2.2.2.1
theorem dX5_fail_3 : decode cX5_fail 3 = .ok (.iload_n 1, 1) := q9_dX5_peek_38.2.2.2.2.2.2.2.2.1
theorem dX5_fail_4 : decode cX5_fail 4 = .ok (.imul, 1) := q9_dX5_peek_38.2.2.2.2.2.2.2.2.2
theorem q9_dX5_fail_5 : (decode cX5_fail 5 = .ok (.iload_n 2, 1)) ∧ (decode cX5_fail 6 = .ok (.iadd, 1)) ∧ (decode cX5_fail 7 = .ok (.putfield 22, 3)) ∧ (decode cX5_fail 10 = .ok (.return_, 1)) ∧ (decode cX6_init 0 = .ok (.aload_n 0, 1)) ∧ (decode cX6_init 1 = .ok (.invokespecial 3, 3)) ∧ (decode cX6_init 4 = .ok (.aload_n 0, 1)) ∧ (decode cX6_init 5 = .ok (.iconst 0, 1)) ∧ (decode cX6_init 6 = .ok (.putfield 9, 3)) ∧ (decode cX6_init 9 = .ok (.aload_n 0, 1)) := by decide +kernel
theorem dX5_fail_5 : decode cX5_fail 5 = .ok (.iload_n 2, 1) := q9_dX5_fail_5.1
theorem dX5_fail_6 : decode cX5_fail 6 = .ok (.iadd, 1) := q9_dX5_fail_5.2.1
theorem dX5_fail_7 : decode cX5_fail 7 = .ok (.putfield 22, 3) := q9_dX5_fail_5.2.2.1
theorem dX5_fail_10 : decode cX5_fail 10 = .ok (.return_, 1) := q9_dX5_fail_5.2.2.2.1
theorem dX6_init_0 : decode cX6_init 0 = .ok (.aload_n 0, 1) := q9_dX5_fail_5.2.2.2.2.1
theorem dX6_init_1 : decode cX6_init 1 = .ok (.invokespecial 3, 3) := q9_dX5_fail_5.2.2.2.2.2.1
theorem dX6_init_4 : decode cX6_init 4 = .ok (.aload_n 0, 1) := q9_dX5_fail_5.2.2.2.2.2.2.1
theorem dX6_init_5 : decode cX6_init 5 = .ok (.iconst 0, 1) := q9_dX5_fail_5.2.2.2.2.2.2.2.1
theorem dX6_init_6 : decode cX6_init 6 = .ok (.putfield 9, 3) := q9_dX5_fail_5.2.2.2.2.2.2.2.2.1
theorem dX6_init_9 : decode cX6_init 9 = .ok (.aload_n 0, 1) := q9_dX5_fail_5.2.2.2.2.2.2.2.2.2
theorem q9_dX6_init_10 : (decode cX6_init 10 = .ok (.iconst 0, 1)) ∧ (decode cX6_init 11 = .ok (.putfield 15, 3)) ∧ (decode cX6_init 14 = .ok (.aload_n 0, 1)) ∧ (decode cX6_init 15 = .ok (.iconst 0, 1)) ∧ (decode cX6_init 16 = .ok (.putfield 18, 3)) ∧ (decode cX6_init 19 = .ok (.aload_n 0, 1)) ∧ (decode cX6_init 20 = .ok (.iconst 0, 1)) ∧ (decode cX6_init 21 = .ok (.putfield 21, 3)) ∧ (decode cX6_init 24 = .ok (.aload_n 0, 1)) ∧ (decode cX6_init 25 = .ok (.iload_n 1, 1)) := by decide +kernel
theorem dX6_init_10 : decode cX6_init 10 = .ok (.iconst 0, 1) := q9_dX6_init_10.1
theorem dX6_init_11 : decode cX6_init 11 = .ok (.putfield 15, 3) := q9_dX6_init_10.2.1
theorem dX6_init_14 : decode cX6_init 14 = .ok (.aload_n 0, 1) := q9_dX6_init_10.2.2.1
theorem dX6_init_15 : decode cX6_init 15 = .ok (.iconst 0, 1) := q9_dX6_init_10.2.2.2.1
theorem dX6_init_16 : decode cX6_init 16 = .ok (.putfield 18, 3) := q9_dX6_init_10.2.2.2.2.1
theorem dX6_init_19 : decode cX6_init 19 = .ok (.aload_n 0, 1) := q9_dX6_init_10.2.2.2.2.2.1
theorem dX6_init_20 : decode cX6_init 20 = .ok (.iconst 0, 1) := q9_dX6_init_10.2.2.2.2.2.2.1
theorem dX6_init_21 : decode cX6_init 21 = .ok (.putfield 21, 3) := q9_dX6_init_10.2.2.2.2.2.2.2.1
theorem dX6_init_24 : decode cX6_init 24 = .ok (.aload_n 0, 1) := q9_dX6_init_10.2.2.2.2.2.2.2.2.1
theorem dX6_init_25 : decode cX6_init 25 = .ok (.iload_n 1, 1) := q9_dX6_init_10.2.2.2.2.2.2.2.2.2
theorem q9_dX6_init_26 : (decode cX6_init 26 = .ok (.putfield 24, 3)) ∧ (decode cX6_init 29 = .ok (.aload_n 0, 1)) ∧ (decode cX6_init 30 = .ok (.iload_n 2, 1)) ∧ (decode cX6_init 31 = .ok (.putfield 27, 3)) ∧ (decode cX6_init 34 = .ok (.aload_n 0, 1)) ∧ (decode cX6_init 35 = .ok (.iload_n 3, 1)) ∧ (decode cX6_init 36 = .ok (.putfield 30, 3)) ∧ (decode cX6_init 39 = .ok (.aload_n 0, 1)) ∧ (decode cX6_init 40 = .ok (.iload 4, 2)) ∧ (decode cX6_init 42 = .ok (.putfield 33, 3)) := by decide +kernel
theorem dX6_init_26 : decode cX6_init 26 = .ok (.putfield 24, 3) := q9_dX6_init_26.1
theorem dX6_init_29 : decode cX6_init 29 = .ok (.aload_n 0, 1) := q9_dX6_init_26.2.1
theorem dX6_init_30 : decode cX6_init 30 = .ok (.iload_n 2, 1) := q9_dX6_init_26.2.2.1
theorem dX6_init_31 : decode cX6_init 31 = .ok (.putfield 27, 3) := q9_dX6_init_26.2.2.2.1
theorem dX6_init_34 : decode cX6_init 34 = .ok (.aload_n 0, 1) := q9_dX6_init_26.2.2.2.2.1
theorem dX6_init_35 : decode cX6_init 35 = .ok (.iload_n 3, 1) := q9_dX6_init_26.2.2.2.2.2.1
theorem dX6_init_36 : decode cX6_init 36 = .ok (.putfield 30, 3) := q9_dX6_init_26.2.2.2.2.2.2.1
theorem dX6_init_39 : decode cX6_init 39 = .ok (.aload_n 0, 1) := q9_dX6_init_26.2.2.2.2.2.2.2.1
theorem dX6_init_40 : decode cX6_init 40 = .ok (.iload 4, 2) := q9_dX6_init_26.2.2.2.2.2.2.2.2.1
theorem dX6_init_42 : decode cX6_init 42 = .ok (.putfield 33, 3) := q9_dX6_init_26.2.2.2.2.2.2.2.2.2
theorem q9_dX6_init_45 : (decode cX6_init 45 = .ok (.aload_n 0, 1)) ∧ (decode cX6_init 46 = .ok (.aload 5, 2)) ∧ (decode cX6_init 48 = .ok (.ifnonnull 7, 3)) ∧ (decode cX6_init 51 = .ok (.iconst 0, 1)) ∧ (decode cX6_init 52 = .ok (.goto 8, 3)) ∧ (decode cX6_init 55 = .ok (.aload 5, 2)) ∧ (decode cX6_init 57 = .ok (.getfield 36, 3)) ∧ (decode cX6_init 60 = .ok (.putfield 41, 3)) ∧ (decode cX6_init 63 = .ok (.aload_n 0, 1)) ∧ (decode cX6_init 64 = .ok (.aload 5, 2)) := by decide +kernel
theorem dX6_init_45 : decode cX6_init 45 = .ok (.aload_n 0, 1) := q9_dX6_init_45.1
theorem dX6_init_46 : decode cX6_init 46 = .ok (.aload 5, 2) := q9_dX6_init_45.2.1
theorem dX6_init_48 : decode cX6_init 48 = .ok (.ifnonnull 7, 3) := q9_dX6_init_45.2.2.1
theorem dX6_init_51 : decode cX6_init 51 = .ok (.iconst 0, 1) := q9_dX6_init_45.2.2.2.1
theorem dX6_init_52 : decode cX6_init 52 = .ok (.goto 8, 3) := q9_dX6_init_45.2.2.2.2.1
theorem dX6_init_55 : decode cX6_init 55 = .ok (.aload 5, 2) := q9_dX6_init_45.2.2.2.2.2.1
theorem dX6_init_57 : decode cX6_init 57 = .ok (.getfield 36, 3) := q9_dX6_init_45.2.2.2.2.2.2.1
theorem dX6_init_60 : decode cX6_init 60 = .ok (.putfield 41, 3) := q9_dX6_init_45.2.2.2.2.2.2.2.1
theorem dX6_init_63 : decode cX6_init 63 = .ok (.aload_n 0, 1) := q9_dX6_init_45.2.2.2.2.2.2.2.2.1
theorem dX6_init_64 : decode cX6_init 64 = .ok (.aload 5, 2) := q9_dX6_init_45.2.2.2.2.2.2.2.2.2
theorem q9_dX6_init_66 : (decode cX6_init 66 = .ok (.ifnonnull 7, 3)) ∧ (decode cX6_init 69 = .ok (.iconst 0, 1)) ∧ (decode cX6_init 70 = .ok (.goto 8, 3)) ∧ (decode cX6_init 73 = .ok (.aload 5, 2)) ∧ (decode cX6_init 75 = .ok (.getfield 42, 3)) ∧ (decode cX6_init 78 = .ok (.putfield 45, 3)) ∧ (decode cX6_init 81 = .ok (.return_, 1)) ∧ (decode cX6_stands 0 = .ok (.aload_n 0, 1)) ∧ (decode cX6_stands 1 = .ok (.getfield 9, 3)) ∧ (decode cX6_stands 4 = .ok (.ifCond .eq 19, 3)) := by decide +kernel
theorem dX6_init_66 : decode cX6_init 66 = .ok (.ifnonnull 7, 3) := q9_dX6_init_66.1
theorem dX6_init_69 : decode cX6_init 69 = .ok (.iconst 0, 1) := q9_dX6_init_66.2.1
theorem dX6_init_70 : decode cX6_init 70 = .ok (.goto 8, 3) := q9_dX6_init_66.2.2.1
theorem dX6_init_73 : decode cX6_init 73 = .ok (.aload 5, 2) := q9_dX6_init_66.2.2.2.1
theorem dX6_init_75 : decode cX6_init 75 = .ok (.getfield 42, 3) := q9_dX6_init_66.2.2.2.2.1
theorem dX6_init_78 : decode cX6_init 78 = .ok (.putfield 45, 3) := q9_dX6_init_66.2.2.2.2.2.1
theorem dX6_init_81 : decode cX6_init 81 = .ok (.return_, 1) := q9_dX6_init_66.2.2.2.2.2.2.1
theorem dX6_stands_0 : decode cX6_stands 0 = .ok (.aload_n 0, 1) := q9_dX6_init_66.2.2.2.2.2.2.2.1
theorem dX6_stands_1 : decode cX6_stands 1 = .ok (.getfield 9, 3) := q9_dX6_init_66.2.2.2.2.2.2.2.2.1
theorem dX6_stands_4 : decode cX6_stands 4 = .ok (.ifCond .eq 19, 3) := q9_dX6_init_66.2.2.2.2.2.2.2.2.2
theorem q9_dX6_stands_7 : (decode cX6_stands 7 = .ok (.aload_n 0, 1)) ∧ (decode cX6_stands 8 = .ok (.getfield 9, 3)) ∧ (decode cX6_stands 11 = .ok (.iconst 1, 1)) ∧ (decode cX6_stands 12 = .ok (.if_icmp .eq 11, 3)) ∧ (decode cX6_stands 15 = .ok (.aload_n 0, 1)) ∧ (decode cX6_stands 16 = .ok (.getfield 9, 3)) ∧ (decode cX6_stands 19 = .ok (.iconst 2, 1)) ∧ (decode cX6_stands 20 = .ok (.if_icmp .ne 7, 3)) ∧ (decode cX6_stands 23 = .ok (.iconst 1, 1)) ∧ (decode cX6_stands 24 = .ok (.goto 4, 3)) := by decide +kernel
theorem dX6_stands_7 : decode cX6_stands 7 = .ok (.aload_n 0, 1) := q9_dX6_stands_7.1
theorem dX6_stands_8 : decode cX6_stands 8 = .ok (.getfield 9, 3) := q9_dX6_stands_7.2.1
theorem dX6_stands_11 : decode cX6_stands 11 = .ok (.iconst 1, 1) := q9_dX6_stands_7.2.2.1
theorem dX6_stands_12 : decode cX6_stands 12 = .ok (.if_icmp .eq 11, 3) := q9_dX6_stands_7.2.2.2.1
theorem dX6_stands_15 : decode cX6_stands 15 = .ok (.aload_n 0, 1) := q9_dX6_stands_7.2.2.2.2.1
theorem dX6_stands_16 : decode cX6_stands 16 = .ok (.getfield 9, 3) := q9_dX6_stands_7.2.2.2.2.2.1
theorem dX6_stands_19 : decode cX6_stands 19 = .ok (.iconst 2, 1) := q9_dX6_stands_7.2.2.2.2.2.2.1
theorem dX6_stands_20 : decode cX6_stands 20 = .ok (.if_icmp .ne 7, 3) := q9_dX6_stands_7.2.2.2.2.2.2.2.1
theorem dX6_stands_23 : decode cX6_stands 23 = .ok (.iconst 1, 1) := q9_dX6_stands_7.2.2.2.2.2.2.2.2.1
theorem dX6_stands_24 : decode cX6_stands 24 = .ok (.goto 4, 3) := q9_dX6_stands_7.2.2.2.2.2.2.2.2.2
theorem q9_dX6_stands_27 : (decode cX6_stands 27 = .ok (.iconst 0, 1)) ∧ (decode cX6_stands 28 = .ok (.ireturn, 1)) ∧ (decode cX6_hold 0 = .ok (.aload_n 0, 1)) ∧ (decode cX6_hold 1 = .ok (.iconst 1, 1)) ∧ (decode cX6_hold 2 = .ok (.putfield 9, 3)) ∧ (decode cX6_hold 5 = .ok (.aload_n 0, 1)) ∧ (decode cX6_hold 6 = .ok (.aload_n 0, 1)) ∧ (decode cX6_hold 7 = .ok (.getfield 41, 3)) ∧ (decode cX6_hold 10 = .ok (.putfield 18, 3)) ∧ (decode cX6_hold 13 = .ok (.return_, 1)) := by decide +kernel
theorem dX6_stands_27 : decode cX6_stands 27 = .ok (.iconst 0, 1) := q9_dX6_stands_27.1
theorem dX6_stands_28 : decode cX6_stands 28 = .ok (.ireturn, 1) := q9_dX6_stands_27.2.1
theorem dX6_hold_0 : decode cX6_hold 0 = .ok (.aload_n 0, 1) := q9_dX6_stands_27.2.2.1
theorem dX6_hold_1 : decode cX6_hold 1 = .ok (.iconst 1, 1) := q9_dX6_stands_27.2.2.2.1
theorem dX6_hold_2 : decode cX6_hold 2 = .ok (.putfield 9, 3) := q9_dX6_stands_27.2.2.2.2.1
theorem dX6_hold_5 : decode cX6_hold 5 = .ok (.aload_n 0, 1) := q9_dX6_stands_27.2.2.2.2.2.1
theorem dX6_hold_6 : decode cX6_hold 6 = .ok (.aload_n 0, 1) := q9_dX6_stands_27.2.2.2.2.2.2.1
theorem dX6_hold_7 : decode cX6_hold 7 = .ok (.getfield 41, 3) := q9_dX6_stands_27.2.2.2.2.2.2.2.1
theorem dX6_hold_10 : decode cX6_hold 10 = .ok (.putfield 18, 3) := q9_dX6_stands_27.2.2.2.2.2.2.2.2.1
theorem dX6_hold_13 : decode cX6_hold 13 = .ok (.return_, 1) := q9_dX6_stands_27.2.2.2.2.2.2.2.2.2
theorem q9_dX6_lose_0 : (decode cX6_lose 0 = .ok (.aload_n 0, 1)) ∧ (decode cX6_lose 1 = .ok (.iconst 2, 1)) ∧ (decode cX6_lose 2 = .ok (.putfield 9, 3)) ∧ (decode cX6_lose 5 = .ok (.aload_n 0, 1)) ∧ (decode cX6_lose 6 = .ok (.iload_n 1, 1)) ∧ (decode cX6_lose 7 = .ok (.putfield 15, 3)) ∧ (decode cX6_lose 10 = .ok (.return_, 1)) ∧ (decode cX6_moveTo 0 = .ok (.aload_n 0, 1)) ∧ (decode cX6_moveTo 1 = .ok (.iload_n 1, 1)) ∧ (decode cX6_moveTo 2 = .ok (.putfield 30, 3)) := by decide +kernel
theorem dX6_lose_0 : decode cX6_lose 0 = .ok (.aload_n 0, 1) := q9_dX6_lose_0.1
theorem dX6_lose_1 : decode cX6_lose 1 = .ok (.iconst 2, 1) := q9_dX6_lose_0.2.1
theorem dX6_lose_2 : decode cX6_lose 2 = .ok (.putfield 9, 3) := q9_dX6_lose_0.2.2.1
theorem dX6_lose_5 : decode cX6_lose 5 = .ok (.aload_n 0, 1) := q9_dX6_lose_0.2.2.2.1
theorem dX6_lose_6 : decode cX6_lose 6 = .ok (.iload_n 1, 1) := q9_dX6_lose_0.2.2.2.2.1
theorem dX6_lose_7 : decode cX6_lose 7 = .ok (.putfield 15, 3) := q9_dX6_lose_0.2.2.2.2.2.1
theorem dX6_lose_10 : decode cX6_lose 10 = .ok (.return_, 1) := q9_dX6_lose_0.2.2.2.2.2.2.1
theorem dX6_moveTo_0 : decode cX6_moveTo 0 = .ok (.aload_n 0, 1) := q9_dX6_lose_0.2.2.2.2.2.2.2.1
theorem dX6_moveTo_1 : decode cX6_moveTo 1 = .ok (.iload_n 1, 1) := q9_dX6_lose_0.2.2.2.2.2.2.2.2.1
theorem dX6_moveTo_2 : decode cX6_moveTo 2 = .ok (.putfield 30, 3) := q9_dX6_lose_0.2.2.2.2.2.2.2.2.2
theorem q9_dX6_moveTo_5 : (decode cX6_moveTo 5 = .ok (.aload_n 0, 1)) ∧ (decode cX6_moveTo 6 = .ok (.iload_n 2, 1)) ∧ (decode cX6_moveTo 7 = .ok (.putfield 33, 3)) ∧ (decode cX6_moveTo 10 = .ok (.aload_n 0, 1)) ∧ (decode cX6_moveTo 11 = .ok (.dup, 1)) ∧ (decode cX6_moveTo 12 = .ok (.getfield 21, 3)) ∧ (decode cX6_moveTo 15 = .ok (.iconst 1, 1)) ∧ (decode cX6_moveTo 16 = .ok (.iadd, 1)) ∧ (decode cX6_moveTo 17 = .ok (.putfield 21, 3)) ∧ (decode cX6_moveTo 20 = .ok (.return_, 1)) := by decide +kernel
theorem dX6_moveTo_5 : decode cX6_moveTo 5 = .ok (.aload_n 0, 1) := q9_dX6_moveTo_5.1
theorem dX6_moveTo_6 : decode cX6_moveTo 6 = .ok (.iload_n 2, 1) := q9_dX6_moveTo_5.2.1
theorem dX6_moveTo_7 : decode cX6_moveTo 7 = .ok (.putfield 33, 3) := q9_dX6_moveTo_5.2.2.1
theorem dX6_moveTo_10 : decode cX6_moveTo 10 = .ok (.aload_n 0, 1) := q9_dX6_moveTo_5.2.2.2.1
theorem dX6_moveTo_11 : decode cX6_moveTo 11 = .ok (.dup, 1) := q9_dX6_moveTo_5.2.2.2.2.1
theorem dX6_moveTo_12 : decode cX6_moveTo 12 = .ok (.getfield 21, 3) := q9_dX6_moveTo_5.2.2.2.2.2.1
theorem dX6_moveTo_15 : decode cX6_moveTo 15 = .ok (.iconst 1, 1) := q9_dX6_moveTo_5.2.2.2.2.2.2.1
theorem dX6_moveTo_16 : decode cX6_moveTo 16 = .ok (.iadd, 1) := q9_dX6_moveTo_5.2.2.2.2.2.2.2.1
theorem dX6_moveTo_17 : decode cX6_moveTo 17 = .ok (.putfield 21, 3) := q9_dX6_moveTo_5.2.2.2.2.2.2.2.2.1
theorem dX6_moveTo_20 : decode cX6_moveTo 20 = .ok (.return_, 1) := q9_dX6_moveTo_5.2.2.2.2.2.2.2.2.2
theorem q9_dX7_init_0 : (decode cX7_init 0 = .ok (.aload_n 0, 1)) ∧ (decode cX7_init 1 = .ok (.invokespecial 3, 3)) ∧ (decode cX7_init 4 = .ok (.aload_n 0, 1)) ∧ (decode cX7_init 5 = .ok (.bipush 80, 2)) ∧ (decode cX7_init 7 = .ok (.newarray .byte, 2)) ∧ (decode cX7_init 9 = .ok (.putfield 9, 3)) ∧ (decode cX7_init 12 = .ok (.aload_n 0, 1)) ∧ (decode cX7_init 13 = .ok (.iconst 0, 1)) ∧ (decode cX7_init 14 = .ok (.putfield 15, 3)) ∧ (decode cX7_init 17 = .ok (.return_, 1)) := by decide +kernel
theorem dX7_init_0 : decode cX7_init 0 = .ok (.aload_n 0, 1) := q9_dX7_init_0.1
theorem dX7_init_1 : decode cX7_init 1 = .ok (.invokespecial 3, 3) := q9_dX7_init_0.2.1
theorem dX7_init_4 : decode cX7_init 4 = .ok (.aload_n 0, 1) := q9_dX7_init_0.2.2.1
theorem dX7_init_5 : decode cX7_init 5 = .ok (.bipush 80, 2) := q9_dX7_init_0.2.2.2.1
theorem dX7_init_7 : decode cX7_init 7 = .ok (.newarray .byte, 2) := q9_dX7_init_0.2.2.2.2.1
theorem dX7_init_9 : decode cX7_init 9 = .ok (.putfield 9, 3) := q9_dX7_init_0.2.2.2.2.2.1
theorem dX7_init_12 : decode cX7_init 12 = .ok (.aload_n 0, 1) := q9_dX7_init_0.2.2.2.2.2.2.1
theorem dX7_init_13 : decode cX7_init 13 = .ok (.iconst 0, 1) := q9_dX7_init_0.2.2.2.2.2.2.2.1
theorem dX7_init_14 : decode cX7_init 14 = .ok (.putfield 15, 3) := q9_dX7_init_0.2.2.2.2.2.2.2.2.1
theorem dX7_init_17 : decode cX7_init 17 = .ok (.return_, 1) := q9_dX7_init_0.2.2.2.2.2.2.2.2.2
set_option maxRecDepth 20000 in
theorem ggX7_addWord_X8_isBelow : GoodIn wsX7_addWord wsX8_isBelow := goodIn_r _ [5] rfl (by decide +kernel)
set_option maxRecDepth 20000 in
theorem gX7_addWord_X8_isBelow_n19 : GoodIn wsX7_addWord (wsX8_isBelow) := ggX7_addWord_X8_isBelow
theorem q9_dX7_addWord_0 : (decode cX7_addWord 0 = .ok (.bipush 24, 2)) ∧ (decode cX7_addWord 2 = .ok (.istore_n 2, 1)) ∧ (decode cX7_addWord 3 = .ok (.iload_n 2, 1)) ∧ (decode cX7_addWord 4 = .ok (.ifCond .lt 44, 3)) ∧ (decode cX7_addWord 7 = .ok (.aload_n 0, 1)) ∧ (decode cX7_addWord 8 = .ok (.getfield 15, 3)) ∧ (decode cX7_addWord 11 = .ok (.bipush 80, 2)) ∧ (decode cX7_addWord 13 = .ok (.invokestatic 19, 3)) ∧ (decode cX7_addWord 16 = .ok (.ifCond .eq 26, 3)) ∧ (decode cX7_addWord 19 = .ok (.aload_n 0, 1)) := by decide +kernel
theorem dX7_addWord_0 : decode cX7_addWord 0 = .ok (.bipush 24, 2) := q9_dX7_addWord_0.1
theorem dX7_addWord_2 : decode cX7_addWord 2 = .ok (.istore_n 2, 1) := q9_dX7_addWord_0.2.1
theorem dX7_addWord_3 : decode cX7_addWord 3 = .ok (.iload_n 2, 1) := q9_dX7_addWord_0.2.2.1
theorem dX7_addWord_4 : decode cX7_addWord 4 = .ok (.ifCond .lt 44, 3) := q9_dX7_addWord_0.2.2.2.1
theorem dX7_addWord_7 : decode cX7_addWord 7 = .ok (.aload_n 0, 1) := q9_dX7_addWord_0.2.2.2.2.1
theorem dX7_addWord_8 : decode cX7_addWord 8 = .ok (.getfield 15, 3) := q9_dX7_addWord_0.2.2.2.2.2.1
theorem dX7_addWord_11 : decode cX7_addWord 11 = .ok (.bipush 80, 2) := q9_dX7_addWord_0.2.2.2.2.2.2.1
theorem dX7_addWord_13 : decode cX7_addWord 13 = .ok (.invokestatic 19, 3) := q9_dX7_addWord_0.2.2.2.2.2.2.2.1
theorem dX7_addWord_16 : decode cX7_addWord 16 = .ok (.ifCond .eq 26, 3) := q9_dX7_addWord_0.2.2.2.2.2.2.2.2.1
theorem dX7_addWord_19 : decode cX7_addWord 19 = .ok (.aload_n 0, 1) := q9_dX7_addWord_0.2.2.2.2.2.2.2.2.2
theorem q9_dX7_addWord_20 : (decode cX7_addWord 20 = .ok (.getfield 9, 3)) ∧ (decode cX7_addWord 23 = .ok (.aload_n 0, 1)) ∧ (decode cX7_addWord 24 = .ok (.getfield 15, 3)) ∧ (decode cX7_addWord 27 = .ok (.iload_n 1, 1)) ∧ (decode cX7_addWord 28 = .ok (.iload_n 2, 1)) ∧ (decode cX7_addWord 29 = .ok (.ishr, 1)) ∧ (decode cX7_addWord 30 = .ok (.i2b, 1)) ∧ (decode cX7_addWord 31 = .ok (.bastore, 1)) ∧ (decode cX7_addWord 32 = .ok (.aload_n 0, 1)) ∧ (decode cX7_addWord 33 = .ok (.dup, 1)) := by decide +kernel
theorem dX7_addWord_20 : decode cX7_addWord 20 = .ok (.getfield 9, 3) := q9_dX7_addWord_20.1
theorem dX7_addWord_23 : decode cX7_addWord 23 = .ok (.aload_n 0, 1) := q9_dX7_addWord_20.2.1
theorem dX7_addWord_24 : decode cX7_addWord 24 = .ok (.getfield 15, 3) := q9_dX7_addWord_20.2.2.1
theorem dX7_addWord_27 : decode cX7_addWord 27 = .ok (.iload_n 1, 1) := q9_dX7_addWord_20.2.2.2.1
theorem dX7_addWord_28 : decode cX7_addWord 28 = .ok (.iload_n 2, 1) := q9_dX7_addWord_20.2.2.2.2.1
theorem dX7_addWord_29 : decode cX7_addWord 29 = .ok (.ishr, 1) := q9_dX7_addWord_20.2.2.2.2.2.1
theorem dX7_addWord_30 : decode cX7_addWord 30 = .ok (.i2b, 1) := q9_dX7_addWord_20.2.2.2.2.2.2.1
theorem dX7_addWord_31 : decode cX7_addWord 31 = .ok (.bastore, 1) := q9_dX7_addWord_20.2.2.2.2.2.2.2.1
theorem dX7_addWord_32 : decode cX7_addWord 32 = .ok (.aload_n 0, 1) := q9_dX7_addWord_20.2.2.2.2.2.2.2.2.1
theorem dX7_addWord_33 : decode cX7_addWord 33 = .ok (.dup, 1) := q9_dX7_addWord_20.2.2.2.2.2.2.2.2.2
theorem q9_dX7_addWord_34 : (decode cX7_addWord 34 = .ok (.getfield 15, 3)) ∧ (decode cX7_addWord 37 = .ok (.iconst 1, 1)) ∧ (decode cX7_addWord 38 = .ok (.iadd, 1)) ∧ (decode cX7_addWord 39 = .ok (.putfield 15, 3)) ∧ (decode cX7_addWord 42 = .ok (.iinc 2 (-8), 3)) ∧ (decode cX7_addWord 45 = .ok (.goto (-42), 3)) ∧ (decode cX7_addWord 48 = .ok (.return_, 1)) := by decide +kernel
theorem dX7_addWord_34 : decode cX7_addWord 34 = .ok (.getfield 15, 3) := q9_dX7_addWord_34.1
theorem dX7_addWord_37 : decode cX7_addWord 37 = .ok (.iconst 1, 1) := q9_dX7_addWord_34.2.1
theorem dX7_addWord_38 : decode cX7_addWord 38 = .ok (.iadd, 1) := q9_dX7_addWord_34.2.2.1
theorem dX7_addWord_39 : decode cX7_addWord 39 = .ok (.putfield 15, 3) := q9_dX7_addWord_34.2.2.2.1
theorem dX7_addWord_42 : decode cX7_addWord 42 = .ok (.iinc 2 (-8), 3) := q9_dX7_addWord_34.2.2.2.2.1
theorem dX7_addWord_45 : decode cX7_addWord 45 = .ok (.goto (-42), 3) := q9_dX7_addWord_34.2.2.2.2.2.1
theorem dX7_addWord_48 : decode cX7_addWord 48 = .ok (.return_, 1) := q9_dX7_addWord_34.2.2.2.2.2.2
