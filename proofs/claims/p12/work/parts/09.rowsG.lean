theorem q9_dX9_halfOf_0 : (decode cX9_halfOf 0 = .ok (.iload_n 0, 1)) ∧ (decode cX9_halfOf 1 = .ok (.ifCond .ge 7, 3)) ∧ (decode cX9_halfOf 4 = .ok (.iconst 0, 1)) ∧ (decode cX9_halfOf 5 = .ok (.goto 6, 3)) ∧ (decode cX9_halfOf 8 = .ok (.iload_n 0, 1)) ∧ (decode cX9_halfOf 9 = .ok (.iconst 2, 1)) ∧ (decode cX9_halfOf 10 = .ok (.idiv, 1)) ∧ (decode cX9_halfOf 11 = .ok (.ireturn, 1)) ∧ (decode cX9_melts 0 = .ok (.iload_n 2, 1)) ∧ (decode cX9_melts 1 = .ok (.aload_n 0, 1)) := by decide +kernel
theorem dX9_halfOf_0 : decode cX9_halfOf 0 = .ok (.iload_n 0, 1) := q9_dX9_halfOf_0.1
theorem dX9_halfOf_1 : decode cX9_halfOf 1 = .ok (.ifCond .ge 7, 3) := q9_dX9_halfOf_0.2.1
theorem dX9_halfOf_4 : decode cX9_halfOf 4 = .ok (.iconst 0, 1) := q9_dX9_halfOf_0.2.2.1
theorem dX9_halfOf_5 : decode cX9_halfOf 5 = .ok (.goto 6, 3) := q9_dX9_halfOf_0.2.2.2.1
theorem dX9_halfOf_8 : decode cX9_halfOf 8 = .ok (.iload_n 0, 1) := q9_dX9_halfOf_0.2.2.2.2.1
theorem dX9_halfOf_9 : decode cX9_halfOf 9 = .ok (.iconst 2, 1) := q9_dX9_halfOf_0.2.2.2.2.2.1
theorem dX9_halfOf_10 : decode cX9_halfOf 10 = .ok (.idiv, 1) := q9_dX9_halfOf_0.2.2.2.2.2.2.1
theorem dX9_halfOf_11 : decode cX9_halfOf 11 = .ok (.ireturn, 1) := q9_dX9_halfOf_0.2.2.2.2.2.2.2.1
theorem dX9_melts_0 : decode cX9_melts 0 = .ok (.iload_n 2, 1) := q9_dX9_halfOf_0.2.2.2.2.2.2.2.2.1
theorem dX9_melts_1 : decode cX9_melts 1 = .ok (.aload_n 0, 1) := q9_dX9_halfOf_0.2.2.2.2.2.2.2.2.2
theorem q9_dX9_melts_2 : (decode cX9_melts 2 = .ok (.getfield 32, 3)) ∧ (decode cX9_melts 5 = .ok (.if_icmp .ge 7, 3)) ∧ (decode cX9_melts 8 = .ok (.iload_n 2, 1)) ∧ (decode cX9_melts 9 = .ok (.goto 7, 3)) ∧ (decode cX9_melts 12 = .ok (.aload_n 0, 1)) ∧ (decode cX9_melts 13 = .ok (.getfield 32, 3)) ∧ (decode cX9_melts 16 = .ok (.istore_n 3, 1)) ∧ (decode cX9_melts 17 = .ok (.aload_n 0, 1)) ∧ (decode cX9_melts 18 = .ok (.aload_n 0, 1)) ∧ (decode cX9_melts 19 = .ok (.getfield 32, 3)) := by decide +kernel
theorem dX9_melts_2 : decode cX9_melts 2 = .ok (.getfield 32, 3) := q9_dX9_melts_2.1
theorem dX9_melts_5 : decode cX9_melts 5 = .ok (.if_icmp .ge 7, 3) := q9_dX9_melts_2.2.1
theorem dX9_melts_8 : decode cX9_melts 8 = .ok (.iload_n 2, 1) := q9_dX9_melts_2.2.2.1
theorem dX9_melts_9 : decode cX9_melts 9 = .ok (.goto 7, 3) := q9_dX9_melts_2.2.2.2.1
theorem dX9_melts_12 : decode cX9_melts 12 = .ok (.aload_n 0, 1) := q9_dX9_melts_2.2.2.2.2.1
theorem dX9_melts_13 : decode cX9_melts 13 = .ok (.getfield 32, 3) := q9_dX9_melts_2.2.2.2.2.2.1
theorem dX9_melts_16 : decode cX9_melts 16 = .ok (.istore_n 3, 1) := q9_dX9_melts_2.2.2.2.2.2.2.1
theorem dX9_melts_17 : decode cX9_melts 17 = .ok (.aload_n 0, 1) := q9_dX9_melts_2.2.2.2.2.2.2.2.1
theorem dX9_melts_18 : decode cX9_melts 18 = .ok (.aload_n 0, 1) := q9_dX9_melts_2.2.2.2.2.2.2.2.2.1
theorem dX9_melts_19 : decode cX9_melts 19 = .ok (.getfield 32, 3) := q9_dX9_melts_2.2.2.2.2.2.2.2.2.2
theorem q9_dX9_melts_22 : (decode cX9_melts 22 = .ok (.iload_n 3, 1)) ∧ (decode cX9_melts 23 = .ok (.isub, 1)) ∧ (decode cX9_melts 24 = .ok (.putfield 32, 3)) ∧ (decode cX9_melts 27 = .ok (.iload_n 2, 1)) ∧ (decode cX9_melts 28 = .ok (.iload_n 3, 1)) ∧ (decode cX9_melts 29 = .ok (.isub, 1)) ∧ (decode cX9_melts 30 = .ok (.istore 4, 2)) ∧ (decode cX9_melts 32 = .ok (.iload 4, 2)) ∧ (decode cX9_melts 34 = .ok (.aload_n 0, 1)) ∧ (decode cX9_melts 35 = .ok (.getfield 48, 3)) := by decide +kernel
theorem dX9_melts_22 : decode cX9_melts 22 = .ok (.iload_n 3, 1) := q9_dX9_melts_22.1
theorem dX9_melts_23 : decode cX9_melts 23 = .ok (.isub, 1) := q9_dX9_melts_22.2.1
theorem dX9_melts_24 : decode cX9_melts 24 = .ok (.putfield 32, 3) := q9_dX9_melts_22.2.2.1
theorem dX9_melts_27 : decode cX9_melts 27 = .ok (.iload_n 2, 1) := q9_dX9_melts_22.2.2.2.1
theorem dX9_melts_28 : decode cX9_melts 28 = .ok (.iload_n 3, 1) := q9_dX9_melts_22.2.2.2.2.1
theorem dX9_melts_29 : decode cX9_melts 29 = .ok (.isub, 1) := q9_dX9_melts_22.2.2.2.2.2.1
theorem dX9_melts_30 : decode cX9_melts 30 = .ok (.istore 4, 2) := q9_dX9_melts_22.2.2.2.2.2.2.1
theorem dX9_melts_32 : decode cX9_melts 32 = .ok (.iload 4, 2) := q9_dX9_melts_22.2.2.2.2.2.2.2.1
theorem dX9_melts_34 : decode cX9_melts 34 = .ok (.aload_n 0, 1) := q9_dX9_melts_22.2.2.2.2.2.2.2.2.1
theorem dX9_melts_35 : decode cX9_melts 35 = .ok (.getfield 48, 3) := q9_dX9_melts_22.2.2.2.2.2.2.2.2.2
theorem q9_dX9_melts_38 : (decode cX9_melts 38 = .ok (.iload_n 1, 1)) ∧ (decode cX9_melts 39 = .ok (.iaload, 1)) ∧ (decode cX9_melts 40 = .ok (.if_icmp .ge 8, 3)) ∧ (decode cX9_melts 43 = .ok (.iload 4, 2)) ∧ (decode cX9_melts 45 = .ok (.goto 9, 3)) ∧ (decode cX9_melts 48 = .ok (.aload_n 0, 1)) ∧ (decode cX9_melts 49 = .ok (.getfield 48, 3)) ∧ (decode cX9_melts 52 = .ok (.iload_n 1, 1)) ∧ (decode cX9_melts 53 = .ok (.iaload, 1)) ∧ (decode cX9_melts 54 = .ok (.istore 5, 2)) := by decide +kernel
theorem dX9_melts_38 : decode cX9_melts 38 = .ok (.iload_n 1, 1) := q9_dX9_melts_38.1
theorem dX9_melts_39 : decode cX9_melts 39 = .ok (.iaload, 1) := q9_dX9_melts_38.2.1
theorem dX9_melts_40 : decode cX9_melts 40 = .ok (.if_icmp .ge 8, 3) := q9_dX9_melts_38.2.2.1
theorem dX9_melts_43 : decode cX9_melts 43 = .ok (.iload 4, 2) := q9_dX9_melts_38.2.2.2.1
theorem dX9_melts_45 : decode cX9_melts 45 = .ok (.goto 9, 3) := q9_dX9_melts_38.2.2.2.2.1
theorem dX9_melts_48 : decode cX9_melts 48 = .ok (.aload_n 0, 1) := q9_dX9_melts_38.2.2.2.2.2.1
theorem dX9_melts_49 : decode cX9_melts 49 = .ok (.getfield 48, 3) := q9_dX9_melts_38.2.2.2.2.2.2.1
theorem dX9_melts_52 : decode cX9_melts 52 = .ok (.iload_n 1, 1) := q9_dX9_melts_38.2.2.2.2.2.2.2.1
theorem dX9_melts_53 : decode cX9_melts 53 = .ok (.iaload, 1) := q9_dX9_melts_38.2.2.2.2.2.2.2.2.1
theorem dX9_melts_54 : decode cX9_melts 54 = .ok (.istore 5, 2) := q9_dX9_melts_38.2.2.2.2.2.2.2.2.2
theorem q9_dX9_melts_56 : (decode cX9_melts 56 = .ok (.aload_n 0, 1)) ∧ (decode cX9_melts 57 = .ok (.getfield 48, 3)) ∧ (decode cX9_melts 60 = .ok (.iload_n 1, 1)) ∧ (decode cX9_melts 61 = .ok (.aload_n 0, 1)) ∧ (decode cX9_melts 62 = .ok (.getfield 48, 3)) ∧ (decode cX9_melts 65 = .ok (.iload_n 1, 1)) ∧ (decode cX9_melts 66 = .ok (.iaload, 1)) ∧ (decode cX9_melts 67 = .ok (.iload 5, 2)) ∧ (decode cX9_melts 69 = .ok (.isub, 1)) ∧ (decode cX9_melts 70 = .ok (.iastore, 1)) := by decide +kernel
theorem dX9_melts_56 : decode cX9_melts 56 = .ok (.aload_n 0, 1) := q9_dX9_melts_56.1
theorem dX9_melts_57 : decode cX9_melts 57 = .ok (.getfield 48, 3) := q9_dX9_melts_56.2.1
theorem dX9_melts_60 : decode cX9_melts 60 = .ok (.iload_n 1, 1) := q9_dX9_melts_56.2.2.1
theorem dX9_melts_61 : decode cX9_melts 61 = .ok (.aload_n 0, 1) := q9_dX9_melts_56.2.2.2.1
theorem dX9_melts_62 : decode cX9_melts 62 = .ok (.getfield 48, 3) := q9_dX9_melts_56.2.2.2.2.1
theorem dX9_melts_65 : decode cX9_melts 65 = .ok (.iload_n 1, 1) := q9_dX9_melts_56.2.2.2.2.2.1
theorem dX9_melts_66 : decode cX9_melts 66 = .ok (.iaload, 1) := q9_dX9_melts_56.2.2.2.2.2.2.1
theorem dX9_melts_67 : decode cX9_melts 67 = .ok (.iload 5, 2) := q9_dX9_melts_56.2.2.2.2.2.2.2.1
theorem dX9_melts_69 : decode cX9_melts 69 = .ok (.isub, 1) := q9_dX9_melts_56.2.2.2.2.2.2.2.2.1
theorem dX9_melts_70 : decode cX9_melts 70 = .ok (.iastore, 1) := q9_dX9_melts_56.2.2.2.2.2.2.2.2.2
theorem q9_dX9_melts_71 : (decode cX9_melts 71 = .ok (.aload_n 0, 1)) ∧ (decode cX9_melts 72 = .ok (.getfield 60, 3)) ∧ (decode cX9_melts 75 = .ok (.iload_n 1, 1)) ∧ (decode cX9_melts 76 = .ok (.aload_n 0, 1)) ∧ (decode cX9_melts 77 = .ok (.getfield 60, 3)) ∧ (decode cX9_melts 80 = .ok (.iload_n 1, 1)) ∧ (decode cX9_melts 81 = .ok (.iaload, 1)) ∧ (decode cX9_melts 82 = .ok (.iload 5, 2)) ∧ (decode cX9_melts 84 = .ok (.iadd, 1)) ∧ (decode cX9_melts 85 = .ok (.iastore, 1)) := by decide +kernel
theorem dX9_melts_71 : decode cX9_melts 71 = .ok (.aload_n 0, 1) := q9_dX9_melts_71.1
theorem dX9_melts_72 : decode cX9_melts 72 = .ok (.getfield 60, 3) := q9_dX9_melts_71.2.1
theorem dX9_melts_75 : decode cX9_melts 75 = .ok (.iload_n 1, 1) := q9_dX9_melts_71.2.2.1
theorem dX9_melts_76 : decode cX9_melts 76 = .ok (.aload_n 0, 1) := q9_dX9_melts_71.2.2.2.1
theorem dX9_melts_77 : decode cX9_melts 77 = .ok (.getfield 60, 3) := q9_dX9_melts_71.2.2.2.2.1
theorem dX9_melts_80 : decode cX9_melts 80 = .ok (.iload_n 1, 1) := q9_dX9_melts_71.2.2.2.2.2.1
theorem dX9_melts_81 : decode cX9_melts 81 = .ok (.iaload, 1) := q9_dX9_melts_71.2.2.2.2.2.2.1
theorem dX9_melts_82 : decode cX9_melts 82 = .ok (.iload 5, 2) := q9_dX9_melts_71.2.2.2.2.2.2.2.1
theorem dX9_melts_84 : decode cX9_melts 84 = .ok (.iadd, 1) := q9_dX9_melts_71.2.2.2.2.2.2.2.2.1
theorem dX9_melts_85 : decode cX9_melts 85 = .ok (.iastore, 1) := q9_dX9_melts_71.2.2.2.2.2.2.2.2.2
theorem dX9_melts_86 : decode cX9_melts 86 = .ok (.return_, 1) := by decide +kernel
set_option maxRecDepth 20000 in
theorem ggX9_holds_X9_rutsOf : GoodIn wsX9_holds wsX9_rutsOf := goodIn_r _ [9] rfl (by decide +kernel)
set_option maxRecDepth 20000 in
theorem gX9_holds_X9_rutsOf : GoodIn wsX9_holds (va_wsS RX9 256 yX9_rutsOf wsX9_rutsOf) := goodIn_app (goodIn_of _ (by decide +kernel)) ggX9_holds_X9_rutsOf
theorem q9_dX9_holds_0 : (decode cX9_holds 0 = .ok (.aload_n 0, 1)) ∧ (decode cX9_holds 1 = .ok (.getfield 88, 3)) ∧ (decode cX9_holds 4 = .ok (.iload_n 2, 1)) ∧ (decode cX9_holds 5 = .ok (.aload_n 0, 1)) ∧ (decode cX9_holds 6 = .ok (.getfield 48, 3)) ∧ (decode cX9_holds 9 = .ok (.iload_n 1, 1)) ∧ (decode cX9_holds 10 = .ok (.iaload, 1)) ∧ (decode cX9_holds 11 = .ok (.sipush 200, 3)) ∧ (decode cX9_holds 14 = .ok (.if_icmp .ge 7, 3)) ∧ (decode cX9_holds 17 = .ok (.iconst 1, 1)) := by decide +kernel
theorem dX9_holds_0 : decode cX9_holds 0 = .ok (.aload_n 0, 1) := q9_dX9_holds_0.1
theorem dX9_holds_1 : decode cX9_holds 1 = .ok (.getfield 88, 3) := q9_dX9_holds_0.2.1
theorem dX9_holds_4 : decode cX9_holds 4 = .ok (.iload_n 2, 1) := q9_dX9_holds_0.2.2.1
theorem dX9_holds_5 : decode cX9_holds 5 = .ok (.aload_n 0, 1) := q9_dX9_holds_0.2.2.2.1
theorem dX9_holds_6 : decode cX9_holds 6 = .ok (.getfield 48, 3) := q9_dX9_holds_0.2.2.2.2.1
theorem dX9_holds_9 : decode cX9_holds 9 = .ok (.iload_n 1, 1) := q9_dX9_holds_0.2.2.2.2.2.1
theorem dX9_holds_10 : decode cX9_holds 10 = .ok (.iaload, 1) := q9_dX9_holds_0.2.2.2.2.2.2.1
theorem dX9_holds_11 : decode cX9_holds 11 = .ok (.sipush 200, 3) := q9_dX9_holds_0.2.2.2.2.2.2.2.1
theorem dX9_holds_14 : decode cX9_holds 14 = .ok (.if_icmp .ge 7, 3) := q9_dX9_holds_0.2.2.2.2.2.2.2.2.1
theorem dX9_holds_17 : decode cX9_holds 17 = .ok (.iconst 1, 1) := q9_dX9_holds_0.2.2.2.2.2.2.2.2.2
theorem q9_dX9_holds_18 : (decode cX9_holds 18 = .ok (.goto 35, 3)) ∧ (decode cX9_holds 21 = .ok (.aload_n 0, 1)) ∧ (decode cX9_holds 22 = .ok (.getfield 48, 3)) ∧ (decode cX9_holds 25 = .ok (.iload_n 1, 1)) ∧ (decode cX9_holds 26 = .ok (.iaload, 1)) ∧ (decode cX9_holds 27 = .ok (.sipush 450, 3)) ∧ (decode cX9_holds 30 = .ok (.if_icmp .le 7, 3)) ∧ (decode cX9_holds 33 = .ok (.iconst 2, 1)) ∧ (decode cX9_holds 34 = .ok (.goto 19, 3)) ∧ (decode cX9_holds 37 = .ok (.aload_n 0, 1)) := by decide +kernel
theorem dX9_holds_18 : decode cX9_holds 18 = .ok (.goto 35, 3) := q9_dX9_holds_18.1
theorem dX9_holds_21 : decode cX9_holds 21 = .ok (.aload_n 0, 1) := q9_dX9_holds_18.2.1
theorem dX9_holds_22 : decode cX9_holds 22 = .ok (.getfield 48, 3) := q9_dX9_holds_18.2.2.1
theorem dX9_holds_25 : decode cX9_holds 25 = .ok (.iload_n 1, 1) := q9_dX9_holds_18.2.2.2.1
theorem dX9_holds_26 : decode cX9_holds 26 = .ok (.iaload, 1) := q9_dX9_holds_18.2.2.2.2.1
theorem dX9_holds_27 : decode cX9_holds 27 = .ok (.sipush 450, 3) := q9_dX9_holds_18.2.2.2.2.2.1
theorem dX9_holds_30 : decode cX9_holds 30 = .ok (.if_icmp .le 7, 3) := q9_dX9_holds_18.2.2.2.2.2.2.1
theorem dX9_holds_33 : decode cX9_holds 33 = .ok (.iconst 2, 1) := q9_dX9_holds_18.2.2.2.2.2.2.2.1
theorem dX9_holds_34 : decode cX9_holds 34 = .ok (.goto 19, 3) := q9_dX9_holds_18.2.2.2.2.2.2.2.2.1
theorem dX9_holds_37 : decode cX9_holds 37 = .ok (.aload_n 0, 1) := q9_dX9_holds_18.2.2.2.2.2.2.2.2.2
theorem q9_dX9_holds_38 : (decode cX9_holds 38 = .ok (.getfield 51, 3)) ∧ (decode cX9_holds 41 = .ok (.iload_n 1, 1)) ∧ (decode cX9_holds 42 = .ok (.iaload, 1)) ∧ (decode cX9_holds 43 = .ok (.bipush 60, 2)) ∧ (decode cX9_holds 45 = .ok (.if_icmp .le 7, 3)) ∧ (decode cX9_holds 48 = .ok (.iconst 3, 1)) ∧ (decode cX9_holds 49 = .ok (.goto 4, 3)) ∧ (decode cX9_holds 52 = .ok (.iconst 0, 1)) ∧ (decode cX9_holds 53 = .ok (.iastore, 1)) ∧ (decode cX9_holds 54 = .ok (.aload_n 0, 1)) := by decide +kernel
theorem dX9_holds_38 : decode cX9_holds 38 = .ok (.getfield 51, 3) := q9_dX9_holds_38.1
theorem dX9_holds_41 : decode cX9_holds 41 = .ok (.iload_n 1, 1) := q9_dX9_holds_38.2.1
theorem dX9_holds_42 : decode cX9_holds 42 = .ok (.iaload, 1) := q9_dX9_holds_38.2.2.1
theorem dX9_holds_43 : decode cX9_holds 43 = .ok (.bipush 60, 2) := q9_dX9_holds_38.2.2.2.1
theorem dX9_holds_45 : decode cX9_holds 45 = .ok (.if_icmp .le 7, 3) := q9_dX9_holds_38.2.2.2.2.1
theorem dX9_holds_48 : decode cX9_holds 48 = .ok (.iconst 3, 1) := q9_dX9_holds_38.2.2.2.2.2.1
theorem dX9_holds_49 : decode cX9_holds 49 = .ok (.goto 4, 3) := q9_dX9_holds_38.2.2.2.2.2.2.1
theorem dX9_holds_52 : decode cX9_holds 52 = .ok (.iconst 0, 1) := q9_dX9_holds_38.2.2.2.2.2.2.2.1
theorem dX9_holds_53 : decode cX9_holds 53 = .ok (.iastore, 1) := q9_dX9_holds_38.2.2.2.2.2.2.2.2.1
theorem dX9_holds_54 : decode cX9_holds 54 = .ok (.aload_n 0, 1) := q9_dX9_holds_38.2.2.2.2.2.2.2.2.2
theorem q9_dX9_holds_55 : (decode cX9_holds 55 = .ok (.getfield 85, 3)) ∧ (decode cX9_holds 58 = .ok (.iload_n 2, 1)) ∧ (decode cX9_holds 59 = .ok (.aload_n 0, 1)) ∧ (decode cX9_holds 60 = .ok (.getfield 88, 3)) ∧ (decode cX9_holds 63 = .ok (.iload_n 2, 1)) ∧ (decode cX9_holds 64 = .ok (.iaload, 1)) ∧ (decode cX9_holds 65 = .ok (.ifCond .ne 7, 3)) ∧ (decode cX9_holds 68 = .ok (.iconst 1, 1)) ∧ (decode cX9_holds 69 = .ok (.goto 4, 3)) ∧ (decode cX9_holds 72 = .ok (.iconst 2, 1)) := by decide +kernel
theorem dX9_holds_55 : decode cX9_holds 55 = .ok (.getfield 85, 3) := q9_dX9_holds_55.1
theorem dX9_holds_58 : decode cX9_holds 58 = .ok (.iload_n 2, 1) := q9_dX9_holds_55.2.1
theorem dX9_holds_59 : decode cX9_holds 59 = .ok (.aload_n 0, 1) := q9_dX9_holds_55.2.2.1
theorem dX9_holds_60 : decode cX9_holds 60 = .ok (.getfield 88, 3) := q9_dX9_holds_55.2.2.2.1
theorem dX9_holds_63 : decode cX9_holds 63 = .ok (.iload_n 2, 1) := q9_dX9_holds_55.2.2.2.2.1
theorem dX9_holds_64 : decode cX9_holds 64 = .ok (.iaload, 1) := q9_dX9_holds_55.2.2.2.2.2.1
theorem dX9_holds_65 : decode cX9_holds 65 = .ok (.ifCond .ne 7, 3) := q9_dX9_holds_55.2.2.2.2.2.2.1
theorem dX9_holds_68 : decode cX9_holds 68 = .ok (.iconst 1, 1) := q9_dX9_holds_55.2.2.2.2.2.2.2.1
theorem dX9_holds_69 : decode cX9_holds 69 = .ok (.goto 4, 3) := q9_dX9_holds_55.2.2.2.2.2.2.2.2.1
theorem dX9_holds_72 : decode cX9_holds 72 = .ok (.iconst 2, 1) := q9_dX9_holds_55.2.2.2.2.2.2.2.2.2
theorem q9_dX9_holds_73 : (decode cX9_holds 73 = .ok (.iastore, 1)) ∧ (decode cX9_holds 74 = .ok (.aload_n 0, 1)) ∧ (decode cX9_holds 75 = .ok (.getfield 88, 3)) ∧ (decode cX9_holds 78 = .ok (.iload_n 2, 1)) ∧ (decode cX9_holds 79 = .ok (.iaload, 1)) ∧ (decode cX9_holds 80 = .ok (.ifCond .ne 25, 3)) ∧ (decode cX9_holds 83 = .ok (.aload_n 0, 1)) ∧ (decode cX9_holds 84 = .ok (.getfield 51, 3)) ∧ (decode cX9_holds 87 = .ok (.iload_n 1, 1)) ∧ (decode cX9_holds 88 = .ok (.aload_n 0, 1)) := by decide +kernel
theorem dX9_holds_73 : decode cX9_holds 73 = .ok (.iastore, 1) := q9_dX9_holds_73.1
theorem dX9_holds_74 : decode cX9_holds 74 = .ok (.aload_n 0, 1) := q9_dX9_holds_73.2.1
theorem dX9_holds_75 : decode cX9_holds 75 = .ok (.getfield 88, 3) := q9_dX9_holds_73.2.2.1
theorem dX9_holds_78 : decode cX9_holds 78 = .ok (.iload_n 2, 1) := q9_dX9_holds_73.2.2.2.1
theorem dX9_holds_79 : decode cX9_holds 79 = .ok (.iaload, 1) := q9_dX9_holds_73.2.2.2.2.1
theorem dX9_holds_80 : decode cX9_holds 80 = .ok (.ifCond .ne 25, 3) := q9_dX9_holds_73.2.2.2.2.2.1
theorem dX9_holds_83 : decode cX9_holds 83 = .ok (.aload_n 0, 1) := q9_dX9_holds_73.2.2.2.2.2.2.1
theorem dX9_holds_84 : decode cX9_holds 84 = .ok (.getfield 51, 3) := q9_dX9_holds_73.2.2.2.2.2.2.2.1
theorem dX9_holds_87 : decode cX9_holds 87 = .ok (.iload_n 1, 1) := q9_dX9_holds_73.2.2.2.2.2.2.2.2.1
theorem dX9_holds_88 : decode cX9_holds 88 = .ok (.aload_n 0, 1) := q9_dX9_holds_73.2.2.2.2.2.2.2.2.2
theorem q9_dX9_holds_89 : (decode cX9_holds 89 = .ok (.getfield 51, 3)) ∧ (decode cX9_holds 92 = .ok (.iload_n 1, 1)) ∧ (decode cX9_holds 93 = .ok (.iaload, 1)) ∧ (decode cX9_holds 94 = .ok (.aload_n 0, 1)) ∧ (decode cX9_holds 95 = .ok (.getfield 76, 3)) ∧ (decode cX9_holds 98 = .ok (.iload_n 2, 1)) ∧ (decode cX9_holds 99 = .ok (.iaload, 1)) ∧ (decode cX9_holds 100 = .ok (.invokestatic 256, 3)) ∧ (decode cX9_holds 103 = .ok (.iadd, 1)) ∧ (decode cX9_holds 104 = .ok (.iastore, 1)) := by decide +kernel
theorem dX9_holds_89 : decode cX9_holds 89 = .ok (.getfield 51, 3) := q9_dX9_holds_89.1
theorem dX9_holds_92 : decode cX9_holds 92 = .ok (.iload_n 1, 1) := q9_dX9_holds_89.2.1
theorem dX9_holds_93 : decode cX9_holds 93 = .ok (.iaload, 1) := q9_dX9_holds_89.2.2.1
theorem dX9_holds_94 : decode cX9_holds 94 = .ok (.aload_n 0, 1) := q9_dX9_holds_89.2.2.2.1
theorem dX9_holds_95 : decode cX9_holds 95 = .ok (.getfield 76, 3) := q9_dX9_holds_89.2.2.2.2.1
theorem dX9_holds_98 : decode cX9_holds 98 = .ok (.iload_n 2, 1) := q9_dX9_holds_89.2.2.2.2.2.1
theorem dX9_holds_99 : decode cX9_holds 99 = .ok (.iaload, 1) := q9_dX9_holds_89.2.2.2.2.2.2.1
theorem dX9_holds_100 : decode cX9_holds 100 = .ok (.invokestatic 256, 3) := q9_dX9_holds_89.2.2.2.2.2.2.2.1
theorem dX9_holds_103 : decode cX9_holds 103 = .ok (.iadd, 1) := q9_dX9_holds_89.2.2.2.2.2.2.2.2.1
theorem dX9_holds_104 : decode cX9_holds 104 = .ok (.iastore, 1) := q9_dX9_holds_89.2.2.2.2.2.2.2.2.2
theorem q9_dX9_holds_105 : (decode cX9_holds 105 = .ok (.return_, 1)) ∧ (decode cX9_cuts 0 = .ok (.aload_n 0, 1)) ∧ (decode cX9_cuts 1 = .ok (.getfield 69, 3)) ∧ (decode cX9_cuts 4 = .ok (.iload_n 1, 1)) ∧ (decode cX9_cuts 5 = .ok (.iconst 0, 1)) ∧ (decode cX9_cuts 6 = .ok (.bastore, 1)) ∧ (decode cX9_cuts 7 = .ok (.aload_n 0, 1)) ∧ (decode cX9_cuts 8 = .ok (.getfield 63, 3)) ∧ (decode cX9_cuts 11 = .ok (.iload_n 1, 1)) ∧ (decode cX9_cuts 12 = .ok (.iaload, 1)) := by decide +kernel
theorem dX9_holds_105 : decode cX9_holds 105 = .ok (.return_, 1) := q9_dX9_holds_105.1
theorem dX9_cuts_0 : decode cX9_cuts 0 = .ok (.aload_n 0, 1) := q9_dX9_holds_105.2.1
theorem dX9_cuts_1 : decode cX9_cuts 1 = .ok (.getfield 69, 3) := q9_dX9_holds_105.2.2.1
theorem dX9_cuts_4 : decode cX9_cuts 4 = .ok (.iload_n 1, 1) := q9_dX9_holds_105.2.2.2.1
theorem dX9_cuts_5 : decode cX9_cuts 5 = .ok (.iconst 0, 1) := q9_dX9_holds_105.2.2.2.2.1
theorem dX9_cuts_6 : decode cX9_cuts 6 = .ok (.bastore, 1) := q9_dX9_holds_105.2.2.2.2.2.1
theorem dX9_cuts_7 : decode cX9_cuts 7 = .ok (.aload_n 0, 1) := q9_dX9_holds_105.2.2.2.2.2.2.1
theorem dX9_cuts_8 : decode cX9_cuts 8 = .ok (.getfield 63, 3) := q9_dX9_holds_105.2.2.2.2.2.2.2.1
theorem dX9_cuts_11 : decode cX9_cuts 11 = .ok (.iload_n 1, 1) := q9_dX9_holds_105.2.2.2.2.2.2.2.2.1
theorem dX9_cuts_12 : decode cX9_cuts 12 = .ok (.iaload, 1) := q9_dX9_holds_105.2.2.2.2.2.2.2.2.2
theorem q9_dX9_cuts_13 : (decode cX9_cuts 13 = .ok (.aload_n 0, 1)) ∧ (decode cX9_cuts 14 = .ok (.getfield 48, 3)) ∧ (decode cX9_cuts 17 = .ok (.iload_n 1, 1)) ∧ (decode cX9_cuts 18 = .ok (.iaload, 1)) ∧ (decode cX9_cuts 19 = .ok (.if_icmp .ge 12, 3)) ∧ (decode cX9_cuts 22 = .ok (.aload_n 0, 1)) ∧ (decode cX9_cuts 23 = .ok (.getfield 63, 3)) ∧ (decode cX9_cuts 26 = .ok (.iload_n 1, 1)) ∧ (decode cX9_cuts 27 = .ok (.iaload, 1)) ∧ (decode cX9_cuts 28 = .ok (.goto 9, 3)) := by decide +kernel
theorem dX9_cuts_13 : decode cX9_cuts 13 = .ok (.aload_n 0, 1) := q9_dX9_cuts_13.1
theorem dX9_cuts_14 : decode cX9_cuts 14 = .ok (.getfield 48, 3) := q9_dX9_cuts_13.2.1
theorem dX9_cuts_17 : decode cX9_cuts 17 = .ok (.iload_n 1, 1) := q9_dX9_cuts_13.2.2.1
theorem dX9_cuts_18 : decode cX9_cuts 18 = .ok (.iaload, 1) := q9_dX9_cuts_13.2.2.2.1
theorem dX9_cuts_19 : decode cX9_cuts 19 = .ok (.if_icmp .ge 12, 3) := q9_dX9_cuts_13.2.2.2.2.1
theorem dX9_cuts_22 : decode cX9_cuts 22 = .ok (.aload_n 0, 1) := q9_dX9_cuts_13.2.2.2.2.2.1
theorem dX9_cuts_23 : decode cX9_cuts 23 = .ok (.getfield 63, 3) := q9_dX9_cuts_13.2.2.2.2.2.2.1
theorem dX9_cuts_26 : decode cX9_cuts 26 = .ok (.iload_n 1, 1) := q9_dX9_cuts_13.2.2.2.2.2.2.2.1
theorem dX9_cuts_27 : decode cX9_cuts 27 = .ok (.iaload, 1) := q9_dX9_cuts_13.2.2.2.2.2.2.2.2.1
theorem dX9_cuts_28 : decode cX9_cuts 28 = .ok (.goto 9, 3) := q9_dX9_cuts_13.2.2.2.2.2.2.2.2.2
theorem q9_dX9_cuts_31 : (decode cX9_cuts 31 = .ok (.aload_n 0, 1)) ∧ (decode cX9_cuts 32 = .ok (.getfield 48, 3)) ∧ (decode cX9_cuts 35 = .ok (.iload_n 1, 1)) ∧ (decode cX9_cuts 36 = .ok (.iaload, 1)) ∧ (decode cX9_cuts 37 = .ok (.istore_n 2, 1)) ∧ (decode cX9_cuts 38 = .ok (.aload_n 0, 1)) ∧ (decode cX9_cuts 39 = .ok (.getfield 48, 3)) ∧ (decode cX9_cuts 42 = .ok (.iload_n 1, 1)) ∧ (decode cX9_cuts 43 = .ok (.aload_n 0, 1)) ∧ (decode cX9_cuts 44 = .ok (.getfield 48, 3)) := by decide +kernel
theorem dX9_cuts_31 : decode cX9_cuts 31 = .ok (.aload_n 0, 1) := q9_dX9_cuts_31.1
theorem dX9_cuts_32 : decode cX9_cuts 32 = .ok (.getfield 48, 3) := q9_dX9_cuts_31.2.1
theorem dX9_cuts_35 : decode cX9_cuts 35 = .ok (.iload_n 1, 1) := q9_dX9_cuts_31.2.2.1
theorem dX9_cuts_36 : decode cX9_cuts 36 = .ok (.iaload, 1) := q9_dX9_cuts_31.2.2.2.1
theorem dX9_cuts_37 : decode cX9_cuts 37 = .ok (.istore_n 2, 1) := q9_dX9_cuts_31.2.2.2.2.1
theorem dX9_cuts_38 : decode cX9_cuts 38 = .ok (.aload_n 0, 1) := q9_dX9_cuts_31.2.2.2.2.2.1
theorem dX9_cuts_39 : decode cX9_cuts 39 = .ok (.getfield 48, 3) := q9_dX9_cuts_31.2.2.2.2.2.2.1
theorem dX9_cuts_42 : decode cX9_cuts 42 = .ok (.iload_n 1, 1) := q9_dX9_cuts_31.2.2.2.2.2.2.2.1
theorem dX9_cuts_43 : decode cX9_cuts 43 = .ok (.aload_n 0, 1) := q9_dX9_cuts_31.2.2.2.2.2.2.2.2.1
theorem dX9_cuts_44 : decode cX9_cuts 44 = .ok (.getfield 48, 3) := q9_dX9_cuts_31.2.2.2.2.2.2.2.2.2
theorem q9_dX9_cuts_47 : (decode cX9_cuts 47 = .ok (.iload_n 1, 1)) ∧ (decode cX9_cuts 48 = .ok (.iaload, 1)) ∧ (decode cX9_cuts 49 = .ok (.iload_n 2, 1)) ∧ (decode cX9_cuts 50 = .ok (.isub, 1)) ∧ (decode cX9_cuts 51 = .ok (.iastore, 1)) ∧ (decode cX9_cuts 52 = .ok (.aload_n 0, 1)) ∧ (decode cX9_cuts 53 = .ok (.getfield 54, 3)) ∧ (decode cX9_cuts 56 = .ok (.iload_n 1, 1)) ∧ (decode cX9_cuts 57 = .ok (.aload_n 0, 1)) ∧ (decode cX9_cuts 58 = .ok (.getfield 54, 3)) := by decide +kernel
theorem dX9_cuts_47 : decode cX9_cuts 47 = .ok (.iload_n 1, 1) := q9_dX9_cuts_47.1
theorem dX9_cuts_48 : decode cX9_cuts 48 = .ok (.iaload, 1) := q9_dX9_cuts_47.2.1
theorem dX9_cuts_49 : decode cX9_cuts 49 = .ok (.iload_n 2, 1) := q9_dX9_cuts_47.2.2.1
theorem dX9_cuts_50 : decode cX9_cuts 50 = .ok (.isub, 1) := q9_dX9_cuts_47.2.2.2.1
theorem dX9_cuts_51 : decode cX9_cuts 51 = .ok (.iastore, 1) := q9_dX9_cuts_47.2.2.2.2.1
theorem dX9_cuts_52 : decode cX9_cuts 52 = .ok (.aload_n 0, 1) := q9_dX9_cuts_47.2.2.2.2.2.1
theorem dX9_cuts_53 : decode cX9_cuts 53 = .ok (.getfield 54, 3) := q9_dX9_cuts_47.2.2.2.2.2.2.1
theorem dX9_cuts_56 : decode cX9_cuts 56 = .ok (.iload_n 1, 1) := q9_dX9_cuts_47.2.2.2.2.2.2.2.1
theorem dX9_cuts_57 : decode cX9_cuts 57 = .ok (.aload_n 0, 1) := q9_dX9_cuts_47.2.2.2.2.2.2.2.2.1
theorem dX9_cuts_58 : decode cX9_cuts 58 = .ok (.getfield 54, 3) := q9_dX9_cuts_47.2.2.2.2.2.2.2.2.2
theorem q9_dX9_cuts_61 : (decode cX9_cuts 61 = .ok (.iload_n 1, 1)) ∧ (decode cX9_cuts 62 = .ok (.iaload, 1)) ∧ (decode cX9_cuts 63 = .ok (.iload_n 2, 1)) ∧ (decode cX9_cuts 64 = .ok (.iadd, 1)) ∧ (decode cX9_cuts 65 = .ok (.iastore, 1)) ∧ (decode cX9_cuts 66 = .ok (.aload_n 0, 1)) ∧ (decode cX9_cuts 67 = .ok (.getfield 51, 3)) ∧ (decode cX9_cuts 70 = .ok (.iload_n 1, 1)) ∧ (decode cX9_cuts 71 = .ok (.aload_n 0, 1)) ∧ (decode cX9_cuts 72 = .ok (.getfield 51, 3)) := by decide +kernel
theorem dX9_cuts_61 : decode cX9_cuts 61 = .ok (.iload_n 1, 1) := q9_dX9_cuts_61.1
theorem dX9_cuts_62 : decode cX9_cuts 62 = .ok (.iaload, 1) := q9_dX9_cuts_61.2.1
theorem dX9_cuts_63 : decode cX9_cuts 63 = .ok (.iload_n 2, 1) := q9_dX9_cuts_61.2.2.1
theorem dX9_cuts_64 : decode cX9_cuts 64 = .ok (.iadd, 1) := q9_dX9_cuts_61.2.2.2.1
theorem dX9_cuts_65 : decode cX9_cuts 65 = .ok (.iastore, 1) := q9_dX9_cuts_61.2.2.2.2.1
theorem dX9_cuts_66 : decode cX9_cuts 66 = .ok (.aload_n 0, 1) := q9_dX9_cuts_61.2.2.2.2.2.1
theorem dX9_cuts_67 : decode cX9_cuts 67 = .ok (.getfield 51, 3) := q9_dX9_cuts_61.2.2.2.2.2.2.1
theorem dX9_cuts_70 : decode cX9_cuts 70 = .ok (.iload_n 1, 1) := q9_dX9_cuts_61.2.2.2.2.2.2.2.1
theorem dX9_cuts_71 : decode cX9_cuts 71 = .ok (.aload_n 0, 1) := q9_dX9_cuts_61.2.2.2.2.2.2.2.2.1
theorem dX9_cuts_72 : decode cX9_cuts 72 = .ok (.getfield 51, 3) := q9_dX9_cuts_61.2.2.2.2.2.2.2.2.2
theorem q9_dX9_cuts_75 : (decode cX9_cuts 75 = .ok (.iload_n 1, 1)) ∧ (decode cX9_cuts 76 = .ok (.iaload, 1)) ∧ (decode cX9_cuts 77 = .ok (.bipush 10, 2)) ∧ (decode cX9_cuts 79 = .ok (.iload_n 2, 1)) ∧ (decode cX9_cuts 80 = .ok (.imul, 1)) ∧ (decode cX9_cuts 81 = .ok (.if_icmp .le 17, 3)) ∧ (decode cX9_cuts 84 = .ok (.aload_n 0, 1)) ∧ (decode cX9_cuts 85 = .ok (.getfield 51, 3)) ∧ (decode cX9_cuts 88 = .ok (.iload_n 1, 1)) ∧ (decode cX9_cuts 89 = .ok (.iaload, 1)) := by decide +kernel
theorem dX9_cuts_75 : decode cX9_cuts 75 = .ok (.iload_n 1, 1) := q9_dX9_cuts_75.1
theorem dX9_cuts_76 : decode cX9_cuts 76 = .ok (.iaload, 1) := q9_dX9_cuts_75.2.1
theorem dX9_cuts_77 : decode cX9_cuts 77 = .ok (.bipush 10, 2) := q9_dX9_cuts_75.2.2.1
theorem dX9_cuts_79 : decode cX9_cuts 79 = .ok (.iload_n 2, 1) := q9_dX9_cuts_75.2.2.2.1
theorem dX9_cuts_80 : decode cX9_cuts 80 = .ok (.imul, 1) := q9_dX9_cuts_75.2.2.2.2.1
theorem dX9_cuts_81 : decode cX9_cuts 81 = .ok (.if_icmp .le 17, 3) := q9_dX9_cuts_75.2.2.2.2.2.1
theorem dX9_cuts_84 : decode cX9_cuts 84 = .ok (.aload_n 0, 1) := q9_dX9_cuts_75.2.2.2.2.2.2.1
theorem dX9_cuts_85 : decode cX9_cuts 85 = .ok (.getfield 51, 3) := q9_dX9_cuts_75.2.2.2.2.2.2.2.1
theorem dX9_cuts_88 : decode cX9_cuts 88 = .ok (.iload_n 1, 1) := q9_dX9_cuts_75.2.2.2.2.2.2.2.2.1
theorem dX9_cuts_89 : decode cX9_cuts 89 = .ok (.iaload, 1) := q9_dX9_cuts_75.2.2.2.2.2.2.2.2.2
theorem q9_dX9_cuts_90 : (decode cX9_cuts 90 = .ok (.bipush 10, 2)) ∧ (decode cX9_cuts 92 = .ok (.iload_n 2, 1)) ∧ (decode cX9_cuts 93 = .ok (.imul, 1)) ∧ (decode cX9_cuts 94 = .ok (.isub, 1)) ∧ (decode cX9_cuts 95 = .ok (.goto 4, 3)) ∧ (decode cX9_cuts 98 = .ok (.iconst 0, 1)) ∧ (decode cX9_cuts 99 = .ok (.iastore, 1)) ∧ (decode cX9_cuts 100 = .ok (.aload_n 0, 1)) ∧ (decode cX9_cuts 101 = .ok (.getfield 66, 3)) ∧ (decode cX9_cuts 104 = .ok (.iload_n 1, 1)) := by decide +kernel
theorem dX9_cuts_90 : decode cX9_cuts 90 = .ok (.bipush 10, 2) := q9_dX9_cuts_90.1
theorem dX9_cuts_92 : decode cX9_cuts 92 = .ok (.iload_n 2, 1) := q9_dX9_cuts_90.2.1
theorem dX9_cuts_93 : decode cX9_cuts 93 = .ok (.imul, 1) := q9_dX9_cuts_90.2.2.1
theorem dX9_cuts_94 : decode cX9_cuts 94 = .ok (.isub, 1) := q9_dX9_cuts_90.2.2.2.1
theorem dX9_cuts_95 : decode cX9_cuts 95 = .ok (.goto 4, 3) := q9_dX9_cuts_90.2.2.2.2.1
theorem dX9_cuts_98 : decode cX9_cuts 98 = .ok (.iconst 0, 1) := q9_dX9_cuts_90.2.2.2.2.2.1
theorem dX9_cuts_99 : decode cX9_cuts 99 = .ok (.iastore, 1) := q9_dX9_cuts_90.2.2.2.2.2.2.1
theorem dX9_cuts_100 : decode cX9_cuts 100 = .ok (.aload_n 0, 1) := q9_dX9_cuts_90.2.2.2.2.2.2.2.1
theorem dX9_cuts_101 : decode cX9_cuts 101 = .ok (.getfield 66, 3) := q9_dX9_cuts_90.2.2.2.2.2.2.2.2.1
theorem dX9_cuts_104 : decode cX9_cuts 104 = .ok (.iload_n 1, 1) := q9_dX9_cuts_90.2.2.2.2.2.2.2.2.2
theorem q9_dX9_cuts_105 : (decode cX9_cuts 105 = .ok (.iaload, 1)) ∧ (decode cX9_cuts 106 = .ok (.aload_n 0, 1)) ∧ (decode cX9_cuts 107 = .ok (.getfield 32, 3)) ∧ (decode cX9_cuts 110 = .ok (.iconst 3, 1)) ∧ (decode cX9_cuts 111 = .ok (.idiv, 1)) ∧ (decode cX9_cuts 112 = .ok (.if_icmp .ge 12, 3)) ∧ (decode cX9_cuts 115 = .ok (.aload_n 0, 1)) ∧ (decode cX9_cuts 116 = .ok (.getfield 66, 3)) ∧ (decode cX9_cuts 119 = .ok (.iload_n 1, 1)) ∧ (decode cX9_cuts 120 = .ok (.iaload, 1)) := by decide +kernel
theorem dX9_cuts_105 : decode cX9_cuts 105 = .ok (.iaload, 1) := q9_dX9_cuts_105.1
theorem dX9_cuts_106 : decode cX9_cuts 106 = .ok (.aload_n 0, 1) := q9_dX9_cuts_105.2.1
theorem dX9_cuts_107 : decode cX9_cuts 107 = .ok (.getfield 32, 3) := q9_dX9_cuts_105.2.2.1
theorem dX9_cuts_110 : decode cX9_cuts 110 = .ok (.iconst 3, 1) := q9_dX9_cuts_105.2.2.2.1
theorem dX9_cuts_111 : decode cX9_cuts 111 = .ok (.idiv, 1) := q9_dX9_cuts_105.2.2.2.2.1
theorem dX9_cuts_112 : decode cX9_cuts 112 = .ok (.if_icmp .ge 12, 3) := q9_dX9_cuts_105.2.2.2.2.2.1
theorem dX9_cuts_115 : decode cX9_cuts 115 = .ok (.aload_n 0, 1) := q9_dX9_cuts_105.2.2.2.2.2.2.1
theorem dX9_cuts_116 : decode cX9_cuts 116 = .ok (.getfield 66, 3) := q9_dX9_cuts_105.2.2.2.2.2.2.2.1
theorem dX9_cuts_119 : decode cX9_cuts 119 = .ok (.iload_n 1, 1) := q9_dX9_cuts_105.2.2.2.2.2.2.2.2.1
theorem dX9_cuts_120 : decode cX9_cuts 120 = .ok (.iaload, 1) := q9_dX9_cuts_105.2.2.2.2.2.2.2.2.2
theorem q9_dX9_cuts_121 : (decode cX9_cuts 121 = .ok (.goto 9, 3)) ∧ (decode cX9_cuts 124 = .ok (.aload_n 0, 1)) ∧ (decode cX9_cuts 125 = .ok (.getfield 32, 3)) ∧ (decode cX9_cuts 128 = .ok (.iconst 3, 1)) ∧ (decode cX9_cuts 129 = .ok (.idiv, 1)) ∧ (decode cX9_cuts 130 = .ok (.istore_n 3, 1)) ∧ (decode cX9_cuts 131 = .ok (.aload_n 0, 1)) ∧ (decode cX9_cuts 132 = .ok (.aload_n 0, 1)) ∧ (decode cX9_cuts 133 = .ok (.getfield 32, 3)) ∧ (decode cX9_cuts 136 = .ok (.iconst 3, 1)) := by decide +kernel
theorem dX9_cuts_121 : decode cX9_cuts 121 = .ok (.goto 9, 3) := q9_dX9_cuts_121.1
theorem dX9_cuts_124 : decode cX9_cuts 124 = .ok (.aload_n 0, 1) := q9_dX9_cuts_121.2.1
theorem dX9_cuts_125 : decode cX9_cuts 125 = .ok (.getfield 32, 3) := q9_dX9_cuts_121.2.2.1
theorem dX9_cuts_128 : decode cX9_cuts 128 = .ok (.iconst 3, 1) := q9_dX9_cuts_121.2.2.2.1
theorem dX9_cuts_129 : decode cX9_cuts 129 = .ok (.idiv, 1) := q9_dX9_cuts_121.2.2.2.2.1
theorem dX9_cuts_130 : decode cX9_cuts 130 = .ok (.istore_n 3, 1) := q9_dX9_cuts_121.2.2.2.2.2.1
theorem dX9_cuts_131 : decode cX9_cuts 131 = .ok (.aload_n 0, 1) := q9_dX9_cuts_121.2.2.2.2.2.2.1
theorem dX9_cuts_132 : decode cX9_cuts 132 = .ok (.aload_n 0, 1) := q9_dX9_cuts_121.2.2.2.2.2.2.2.1
theorem dX9_cuts_133 : decode cX9_cuts 133 = .ok (.getfield 32, 3) := q9_dX9_cuts_121.2.2.2.2.2.2.2.2.1
theorem dX9_cuts_136 : decode cX9_cuts 136 = .ok (.iconst 3, 1) := q9_dX9_cuts_121.2.2.2.2.2.2.2.2.2
theorem q9_dX9_cuts_137 : (decode cX9_cuts 137 = .ok (.iload_n 3, 1)) ∧ (decode cX9_cuts 138 = .ok (.imul, 1)) ∧ (decode cX9_cuts 139 = .ok (.isub, 1)) ∧ (decode cX9_cuts 140 = .ok (.putfield 32, 3)) ∧ (decode cX9_cuts 143 = .ok (.aload_n 0, 1)) ∧ (decode cX9_cuts 144 = .ok (.getfield 48, 3)) ∧ (decode cX9_cuts 147 = .ok (.iload_n 1, 1)) ∧ (decode cX9_cuts 148 = .ok (.aload_n 0, 1)) ∧ (decode cX9_cuts 149 = .ok (.getfield 48, 3)) ∧ (decode cX9_cuts 152 = .ok (.iload_n 1, 1)) := by decide +kernel
theorem dX9_cuts_137 : decode cX9_cuts 137 = .ok (.iload_n 3, 1) := q9_dX9_cuts_137.1
theorem dX9_cuts_138 : decode cX9_cuts 138 = .ok (.imul, 1) := q9_dX9_cuts_137.2.1
theorem dX9_cuts_139 : decode cX9_cuts 139 = .ok (.isub, 1) := q9_dX9_cuts_137.2.2.1
theorem dX9_cuts_140 : decode cX9_cuts 140 = .ok (.putfield 32, 3) := q9_dX9_cuts_137.2.2.2.1
theorem dX9_cuts_143 : decode cX9_cuts 143 = .ok (.aload_n 0, 1) := q9_dX9_cuts_137.2.2.2.2.1
theorem dX9_cuts_144 : decode cX9_cuts 144 = .ok (.getfield 48, 3) := q9_dX9_cuts_137.2.2.2.2.2.1
theorem dX9_cuts_147 : decode cX9_cuts 147 = .ok (.iload_n 1, 1) := q9_dX9_cuts_137.2.2.2.2.2.2.1
theorem dX9_cuts_148 : decode cX9_cuts 148 = .ok (.aload_n 0, 1) := q9_dX9_cuts_137.2.2.2.2.2.2.2.1
theorem dX9_cuts_149 : decode cX9_cuts 149 = .ok (.getfield 48, 3) := q9_dX9_cuts_137.2.2.2.2.2.2.2.2.1
theorem dX9_cuts_152 : decode cX9_cuts 152 = .ok (.iload_n 1, 1) := q9_dX9_cuts_137.2.2.2.2.2.2.2.2.2
theorem q9_dX9_cuts_153 : (decode cX9_cuts 153 = .ok (.iaload, 1)) ∧ (decode cX9_cuts 154 = .ok (.iload_n 3, 1)) ∧ (decode cX9_cuts 155 = .ok (.iadd, 1)) ∧ (decode cX9_cuts 156 = .ok (.iastore, 1)) ∧ (decode cX9_cuts 157 = .ok (.aload_n 0, 1)) ∧ (decode cX9_cuts 158 = .ok (.getfield 57, 3)) ∧ (decode cX9_cuts 161 = .ok (.iload_n 1, 1)) ∧ (decode cX9_cuts 162 = .ok (.aload_n 0, 1)) ∧ (decode cX9_cuts 163 = .ok (.getfield 57, 3)) ∧ (decode cX9_cuts 166 = .ok (.iload_n 1, 1)) := by decide +kernel
theorem dX9_cuts_153 : decode cX9_cuts 153 = .ok (.iaload, 1) := q9_dX9_cuts_153.1
theorem dX9_cuts_154 : decode cX9_cuts 154 = .ok (.iload_n 3, 1) := q9_dX9_cuts_153.2.1
theorem dX9_cuts_155 : decode cX9_cuts 155 = .ok (.iadd, 1) := q9_dX9_cuts_153.2.2.1
theorem dX9_cuts_156 : decode cX9_cuts 156 = .ok (.iastore, 1) := q9_dX9_cuts_153.2.2.2.1
theorem dX9_cuts_157 : decode cX9_cuts 157 = .ok (.aload_n 0, 1) := q9_dX9_cuts_153.2.2.2.2.1
theorem dX9_cuts_158 : decode cX9_cuts 158 = .ok (.getfield 57, 3) := q9_dX9_cuts_153.2.2.2.2.2.1
theorem dX9_cuts_161 : decode cX9_cuts 161 = .ok (.iload_n 1, 1) := q9_dX9_cuts_153.2.2.2.2.2.2.1
theorem dX9_cuts_162 : decode cX9_cuts 162 = .ok (.aload_n 0, 1) := q9_dX9_cuts_153.2.2.2.2.2.2.2.1
theorem dX9_cuts_163 : decode cX9_cuts 163 = .ok (.getfield 57, 3) := q9_dX9_cuts_153.2.2.2.2.2.2.2.2.1
theorem dX9_cuts_166 : decode cX9_cuts 166 = .ok (.iload_n 1, 1) := q9_dX9_cuts_153.2.2.2.2.2.2.2.2.2
theorem q9_dX9_cuts_167 : (decode cX9_cuts 167 = .ok (.iaload, 1)) ∧ (decode cX9_cuts 168 = .ok (.iload_n 3, 1)) ∧ (decode cX9_cuts 169 = .ok (.iadd, 1)) ∧ (decode cX9_cuts 170 = .ok (.iastore, 1)) ∧ (decode cX9_cuts 171 = .ok (.aload_n 0, 1)) ∧ (decode cX9_cuts 172 = .ok (.aload_n 0, 1)) ∧ (decode cX9_cuts 173 = .ok (.getfield 259, 3)) ∧ (decode cX9_cuts 176 = .ok (.aload_n 0, 1)) ∧ (decode cX9_cuts 177 = .ok (.getfield 66, 3)) ∧ (decode cX9_cuts 180 = .ok (.iload_n 1, 1)) := by decide +kernel
theorem dX9_cuts_167 : decode cX9_cuts 167 = .ok (.iaload, 1) := q9_dX9_cuts_167.1
theorem dX9_cuts_168 : decode cX9_cuts 168 = .ok (.iload_n 3, 1) := q9_dX9_cuts_167.2.1
theorem dX9_cuts_169 : decode cX9_cuts 169 = .ok (.iadd, 1) := q9_dX9_cuts_167.2.2.1
theorem dX9_cuts_170 : decode cX9_cuts 170 = .ok (.iastore, 1) := q9_dX9_cuts_167.2.2.2.1
theorem dX9_cuts_171 : decode cX9_cuts 171 = .ok (.aload_n 0, 1) := q9_dX9_cuts_167.2.2.2.2.1
theorem dX9_cuts_172 : decode cX9_cuts 172 = .ok (.aload_n 0, 1) := q9_dX9_cuts_167.2.2.2.2.2.1
theorem dX9_cuts_173 : decode cX9_cuts 173 = .ok (.getfield 259, 3) := q9_dX9_cuts_167.2.2.2.2.2.2.1
theorem dX9_cuts_176 : decode cX9_cuts 176 = .ok (.aload_n 0, 1) := q9_dX9_cuts_167.2.2.2.2.2.2.2.1
theorem dX9_cuts_177 : decode cX9_cuts 177 = .ok (.getfield 66, 3) := q9_dX9_cuts_167.2.2.2.2.2.2.2.2.1
theorem dX9_cuts_180 : decode cX9_cuts 180 = .ok (.iload_n 1, 1) := q9_dX9_cuts_167.2.2.2.2.2.2.2.2.2
theorem q9_dX9_cuts_181 : (decode cX9_cuts 181 = .ok (.iaload, 1)) ∧ (decode cX9_cuts 182 = .ok (.iadd, 1)) ∧ (decode cX9_cuts 183 = .ok (.iload_n 3, 1)) ∧ (decode cX9_cuts 184 = .ok (.isub, 1)) ∧ (decode cX9_cuts 185 = .ok (.putfield 259, 3)) ∧ (decode cX9_cuts 188 = .ok (.return_, 1)) := by decide +kernel
theorem dX9_cuts_181 : decode cX9_cuts 181 = .ok (.iaload, 1) := q9_dX9_cuts_181.1
theorem dX9_cuts_182 : decode cX9_cuts 182 = .ok (.iadd, 1) := q9_dX9_cuts_181.2.1
theorem dX9_cuts_183 : decode cX9_cuts 183 = .ok (.iload_n 3, 1) := q9_dX9_cuts_181.2.2.1
theorem dX9_cuts_184 : decode cX9_cuts 184 = .ok (.isub, 1) := q9_dX9_cuts_181.2.2.2.1
theorem dX9_cuts_185 : decode cX9_cuts 185 = .ok (.putfield 259, 3) := q9_dX9_cuts_181.2.2.2.2.1
theorem dX9_cuts_188 : decode cX9_cuts 188 = .ok (.return_, 1) := q9_dX9_cuts_181.2.2.2.2.2
set_option maxRecDepth 20000 in
theorem ggX9_step_X9_standing : GoodIn wsX9_step wsX9_standing := goodIn_r _ [14, 15, 16, 17, 18, 57, 58, 59, 60, 61, 62, 63, 64, 65, 66, 67, 68, 69, 70, 71, 72, 73, 74, 75, 76, 77, 78, 79, 80, 81, 82, 83, 84, 85, 86, 87, 88, 89, 90, 91, 92, 93, 94, 95, 96, 97, 98, 99, 100, 101, 102, 103, 104, 105, 106, 107, 108, 109, 110, 111, 112, 113, 114, 115, 116, 117, 118, 119] rfl (by decide +kernel)
set_option maxRecDepth 20000 in
theorem gX9_step_X9_standing : GoodIn wsX9_step (wsV RX9 208 RX9 yX9_standing wsX9_standing) := goodIn_app (goodIn_of _ (by decide +kernel)) ggX9_step_X9_standing
set_option maxRecDepth 20000 in
theorem ggX9_step_X9_halfOf : GoodIn wsX9_step wsX9_halfOf := goodIn_r _ [21] rfl (by decide +kernel)
set_option maxRecDepth 20000 in
theorem gX9_step_X9_halfOf : GoodIn wsX9_step (va_wsS RX9 268 yX9_halfOf wsX9_halfOf) := goodIn_app (goodIn_of _ (by decide +kernel)) ggX9_step_X9_halfOf
set_option maxRecDepth 20000 in
theorem ggX9_step_X9_heatOf : GoodIn wsX9_step wsX9_heatOf := goodIn_r _ [24] rfl (by decide +kernel)
set_option maxRecDepth 20000 in
theorem gX9_step_X9_heatOf : GoodIn wsX9_step (va_wsS RX9 271 yX9_heatOf wsX9_heatOf) := goodIn_app (goodIn_of _ (by decide +kernel)) ggX9_step_X9_heatOf
set_option maxRecDepth 20000 in
theorem ggX9_step_X9_melts : GoodIn wsX9_step wsX9_melts := goodIn_r _ [28, 3, 29, 30, 57, 58, 59, 60, 61, 62, 63, 64, 65, 66, 67, 68, 69, 70, 71, 72, 73, 74, 75, 76, 77, 78, 79, 80, 81, 82, 83, 84, 85, 86, 87, 88, 89, 90, 91, 92, 93, 94, 95, 96, 97, 98, 99, 100, 101, 102, 103, 104, 105, 106, 107, 108, 109, 110, 111, 112, 113, 114, 115, 116, 117, 118, 119] rfl (by decide +kernel)
set_option maxRecDepth 20000 in
theorem gX9_step_X9_melts : GoodIn wsX9_step (wsV RX9 274 RX9 yX9_melts wsX9_melts) := goodIn_app (goodIn_of _ (by decide +kernel)) ggX9_step_X9_melts
set_option maxRecDepth 20000 in
theorem ggX9_step_X9_holds : GoodIn wsX9_step wsX9_holds := goodIn_r _ [34, 35, 29, 36, 16, 8, 37, 38, 13, 39, 57, 58, 59, 60, 61, 62, 63, 64, 65, 66, 67, 68, 69, 70, 71, 72, 73, 74, 75, 76, 77, 78, 79, 80, 81, 82, 83, 84, 85, 86, 87, 88, 89, 90, 91, 92, 93, 94, 95, 96, 97, 98, 99, 100, 101, 102, 103, 104, 105, 106, 107, 108, 109, 110, 111, 112, 113, 114, 115, 116, 117, 118, 119] rfl (by decide +kernel)
set_option maxRecDepth 20000 in
theorem gX9_step_X9_holds : GoodIn wsX9_step (wsV RX9 278 RX9 yX9_holds wsX9_holds) := goodIn_app (goodIn_of _ (by decide +kernel)) ggX9_step_X9_holds
set_option maxRecDepth 20000 in
theorem ggX9_step_X9_isClosed : GoodIn wsX9_step wsX9_isClosed := goodIn_r _ [43, 44, 45, 46, 47, 57, 58, 59, 60, 61, 62, 63, 64, 65, 66, 67, 68, 69, 70, 71, 72, 73, 74, 75, 76, 77, 78, 79, 80, 81, 82, 83, 84, 85, 86, 87, 88, 89, 90, 91, 92, 93, 94, 95, 96, 97, 98, 99, 100, 101, 102, 103, 104, 105, 106, 107, 108, 109, 110, 111, 112, 113, 114, 115, 116, 117, 118, 119] rfl (by decide +kernel)
set_option maxRecDepth 20000 in
theorem gX9_step_X9_isClosed : GoodIn wsX9_step (wsV RX9 222 RX9 yX9_isClosed wsX9_isClosed) := goodIn_app (goodIn_of _ (by decide +kernel)) ggX9_step_X9_isClosed
set_option maxRecDepth 20000 in
theorem ggX9_step_X9_cuts : GoodIn wsX9_step wsX9_cuts := goodIn_r _ [51, 9, 52, 29, 53, 36, 54, 3, 55, 56, 57, 58, 59, 60, 61, 62, 63, 64, 65, 66, 67, 68, 69, 70, 71, 72, 73, 74, 75, 76, 77, 78, 79, 80, 81, 82, 83, 84, 85, 86, 87, 88, 89, 90, 91, 92, 93, 94, 95, 96, 97, 98, 99, 100, 101, 102, 103, 104, 105, 106, 107, 108, 109, 110, 111, 112, 113, 114, 115, 116, 117, 118, 119] rfl (by decide +kernel)
set_option maxRecDepth 20000 in
theorem gX9_step_X9_cuts : GoodIn wsX9_step (wsV RX9 281 RX9 yX9_cuts wsX9_cuts) := goodIn_app (goodIn_of _ (by decide +kernel)) ggX9_step_X9_cuts
theorem q9_dX9_step_0 : (decode cX9_step 0 = .ok (.iload_n 1, 1)) ∧ (decode cX9_step 1 = .ok (.bipush (-20), 2)) ∧ (decode cX9_step 3 = .ok (.if_icmp .lt 31, 3)) ∧ (decode cX9_step 6 = .ok (.iload_n 1, 1)) ∧ (decode cX9_step 7 = .ok (.bipush 40, 2)) ∧ (decode cX9_step 9 = .ok (.if_icmp .gt 25, 3)) ∧ (decode cX9_step 12 = .ok (.iload_n 2, 1)) ∧ (decode cX9_step 13 = .ok (.ifCond .lt 21, 3)) ∧ (decode cX9_step 16 = .ok (.iload_n 2, 1)) ∧ (decode cX9_step 17 = .ok (.aload_n 0, 1)) := by decide +kernel
theorem dX9_step_0 : decode cX9_step 0 = .ok (.iload_n 1, 1) := q9_dX9_step_0.1
theorem dX9_step_1 : decode cX9_step 1 = .ok (.bipush (-20), 2) := q9_dX9_step_0.2.1
theorem dX9_step_3 : decode cX9_step 3 = .ok (.if_icmp .lt 31, 3) := q9_dX9_step_0.2.2.1
theorem dX9_step_6 : decode cX9_step 6 = .ok (.iload_n 1, 1) := q9_dX9_step_0.2.2.2.1
theorem dX9_step_7 : decode cX9_step 7 = .ok (.bipush 40, 2) := q9_dX9_step_0.2.2.2.2.1
theorem dX9_step_9 : decode cX9_step 9 = .ok (.if_icmp .gt 25, 3) := q9_dX9_step_0.2.2.2.2.2.1
theorem dX9_step_12 : decode cX9_step 12 = .ok (.iload_n 2, 1) := q9_dX9_step_0.2.2.2.2.2.2.1
theorem dX9_step_13 : decode cX9_step 13 = .ok (.ifCond .lt 21, 3) := q9_dX9_step_0.2.2.2.2.2.2.2.1
theorem dX9_step_16 : decode cX9_step 16 = .ok (.iload_n 2, 1) := q9_dX9_step_0.2.2.2.2.2.2.2.2.1
theorem dX9_step_17 : decode cX9_step 17 = .ok (.aload_n 0, 1) := q9_dX9_step_0.2.2.2.2.2.2.2.2.2
theorem q9_dX9_step_18 : (decode cX9_step 18 = .ok (.getfield 39, 3)) ∧ (decode cX9_step 21 = .ok (.if_icmp .gt 13, 3)) ∧ (decode cX9_step 24 = .ok (.aload_n 0, 1)) ∧ (decode cX9_step 25 = .ok (.getfield 219, 3)) ∧ (decode cX9_step 28 = .ok (.sipush 990, 3)) ∧ (decode cX9_step 31 = .ok (.if_icmp .ne 5, 3)) ∧ (decode cX9_step 34 = .ok (.iconst (-1), 1)) ∧ (decode cX9_step 35 = .ok (.ireturn, 1)) ∧ (decode cX9_step 36 = .ok (.aload_n 0, 1)) ∧ (decode cX9_step 37 = .ok (.aload_n 0, 1)) := by decide +kernel
theorem dX9_step_18 : decode cX9_step 18 = .ok (.getfield 39, 3) := q9_dX9_step_18.1
theorem dX9_step_21 : decode cX9_step 21 = .ok (.if_icmp .gt 13, 3) := q9_dX9_step_18.2.1
theorem dX9_step_24 : decode cX9_step 24 = .ok (.aload_n 0, 1) := q9_dX9_step_18.2.2.1
theorem dX9_step_25 : decode cX9_step 25 = .ok (.getfield 219, 3) := q9_dX9_step_18.2.2.2.1
theorem dX9_step_28 : decode cX9_step 28 = .ok (.sipush 990, 3) := q9_dX9_step_18.2.2.2.2.1
theorem dX9_step_31 : decode cX9_step 31 = .ok (.if_icmp .ne 5, 3) := q9_dX9_step_18.2.2.2.2.2.1
theorem dX9_step_34 : decode cX9_step 34 = .ok (.iconst (-1), 1) := q9_dX9_step_18.2.2.2.2.2.2.1
theorem dX9_step_35 : decode cX9_step 35 = .ok (.ireturn, 1) := q9_dX9_step_18.2.2.2.2.2.2.2.1
theorem dX9_step_36 : decode cX9_step 36 = .ok (.aload_n 0, 1) := q9_dX9_step_18.2.2.2.2.2.2.2.2.1
theorem dX9_step_37 : decode cX9_step 37 = .ok (.aload_n 0, 1) := q9_dX9_step_18.2.2.2.2.2.2.2.2.2
theorem q9_dX9_step_38 : (decode cX9_step 38 = .ok (.getfield 32, 3)) ∧ (decode cX9_step 41 = .ok (.bipush 20, 2)) ∧ (decode cX9_step 43 = .ok (.iload_n 2, 1)) ∧ (decode cX9_step 44 = .ok (.imul, 1)) ∧ (decode cX9_step 45 = .ok (.iadd, 1)) ∧ (decode cX9_step 46 = .ok (.putfield 32, 3)) ∧ (decode cX9_step 49 = .ok (.aload_n 0, 1)) ∧ (decode cX9_step 50 = .ok (.aload_n 0, 1)) ∧ (decode cX9_step 51 = .ok (.getfield 262, 3)) ∧ (decode cX9_step 54 = .ok (.iload_n 2, 1)) := by decide +kernel
theorem dX9_step_38 : decode cX9_step 38 = .ok (.getfield 32, 3) := q9_dX9_step_38.1
theorem dX9_step_41 : decode cX9_step 41 = .ok (.bipush 20, 2) := q9_dX9_step_38.2.1
theorem dX9_step_43 : decode cX9_step 43 = .ok (.iload_n 2, 1) := q9_dX9_step_38.2.2.1
theorem dX9_step_44 : decode cX9_step 44 = .ok (.imul, 1) := q9_dX9_step_38.2.2.2.1
theorem dX9_step_45 : decode cX9_step 45 = .ok (.iadd, 1) := q9_dX9_step_38.2.2.2.2.1
theorem dX9_step_46 : decode cX9_step 46 = .ok (.putfield 32, 3) := q9_dX9_step_38.2.2.2.2.2.1
theorem dX9_step_49 : decode cX9_step 49 = .ok (.aload_n 0, 1) := q9_dX9_step_38.2.2.2.2.2.2.1
theorem dX9_step_50 : decode cX9_step 50 = .ok (.aload_n 0, 1) := q9_dX9_step_38.2.2.2.2.2.2.2.1
theorem dX9_step_51 : decode cX9_step 51 = .ok (.getfield 262, 3) := q9_dX9_step_38.2.2.2.2.2.2.2.2.1
theorem dX9_step_54 : decode cX9_step 54 = .ok (.iload_n 2, 1) := q9_dX9_step_38.2.2.2.2.2.2.2.2.2
theorem q9_dX9_step_55 : (decode cX9_step 55 = .ok (.aload_n 0, 1)) ∧ (decode cX9_step 56 = .ok (.getfield 45, 3)) ∧ (decode cX9_step 59 = .ok (.aload_n 0, 1)) ∧ (decode cX9_step 60 = .ok (.getfield 219, 3)) ∧ (decode cX9_step 63 = .ok (.bipush 24, 2)) ∧ (decode cX9_step 65 = .ok (.irem, 1)) ∧ (decode cX9_step 66 = .ok (.iaload, 1)) ∧ (decode cX9_step 67 = .ok (.imul, 1)) ∧ (decode cX9_step 68 = .ok (.iadd, 1)) ∧ (decode cX9_step 69 = .ok (.putfield 262, 3)) := by decide +kernel
theorem dX9_step_55 : decode cX9_step 55 = .ok (.aload_n 0, 1) := q9_dX9_step_55.1
theorem dX9_step_56 : decode cX9_step 56 = .ok (.getfield 45, 3) := q9_dX9_step_55.2.1
theorem dX9_step_59 : decode cX9_step 59 = .ok (.aload_n 0, 1) := q9_dX9_step_55.2.2.1
theorem dX9_step_60 : decode cX9_step 60 = .ok (.getfield 219, 3) := q9_dX9_step_55.2.2.2.1
theorem dX9_step_63 : decode cX9_step 63 = .ok (.bipush 24, 2) := q9_dX9_step_55.2.2.2.2.1
theorem dX9_step_65 : decode cX9_step 65 = .ok (.irem, 1) := q9_dX9_step_55.2.2.2.2.2.1
theorem dX9_step_66 : decode cX9_step 66 = .ok (.iaload, 1) := q9_dX9_step_55.2.2.2.2.2.2.1
theorem dX9_step_67 : decode cX9_step 67 = .ok (.imul, 1) := q9_dX9_step_55.2.2.2.2.2.2.2.1
theorem dX9_step_68 : decode cX9_step 68 = .ok (.iadd, 1) := q9_dX9_step_55.2.2.2.2.2.2.2.2.1
theorem dX9_step_69 : decode cX9_step 69 = .ok (.putfield 262, 3) := q9_dX9_step_55.2.2.2.2.2.2.2.2.2
theorem q9_dX9_step_72 : (decode cX9_step 72 = .ok (.aload_n 0, 1)) ∧ (decode cX9_step 73 = .ok (.getfield 32, 3)) ∧ (decode cX9_step 76 = .ok (.aload_n 0, 1)) ∧ (decode cX9_step 77 = .ok (.getfield 36, 3)) ∧ (decode cX9_step 80 = .ok (.if_icmp .le 29, 3)) ∧ (decode cX9_step 83 = .ok (.aload_n 0, 1)) ∧ (decode cX9_step 84 = .ok (.aload_n 0, 1)) ∧ (decode cX9_step 85 = .ok (.getfield 265, 3)) ∧ (decode cX9_step 88 = .ok (.aload_n 0, 1)) ∧ (decode cX9_step 89 = .ok (.getfield 32, 3)) := by decide +kernel
theorem dX9_step_72 : decode cX9_step 72 = .ok (.aload_n 0, 1) := q9_dX9_step_72.1
theorem dX9_step_73 : decode cX9_step 73 = .ok (.getfield 32, 3) := q9_dX9_step_72.2.1
theorem dX9_step_76 : decode cX9_step 76 = .ok (.aload_n 0, 1) := q9_dX9_step_72.2.2.1
theorem dX9_step_77 : decode cX9_step 77 = .ok (.getfield 36, 3) := q9_dX9_step_72.2.2.2.1
theorem dX9_step_80 : decode cX9_step 80 = .ok (.if_icmp .le 29, 3) := q9_dX9_step_72.2.2.2.2.1
theorem dX9_step_83 : decode cX9_step 83 = .ok (.aload_n 0, 1) := q9_dX9_step_72.2.2.2.2.2.1
theorem dX9_step_84 : decode cX9_step 84 = .ok (.aload_n 0, 1) := q9_dX9_step_72.2.2.2.2.2.2.1
theorem dX9_step_85 : decode cX9_step 85 = .ok (.getfield 265, 3) := q9_dX9_step_72.2.2.2.2.2.2.2.1
theorem dX9_step_88 : decode cX9_step 88 = .ok (.aload_n 0, 1) := q9_dX9_step_72.2.2.2.2.2.2.2.2.1
theorem dX9_step_89 : decode cX9_step 89 = .ok (.getfield 32, 3) := q9_dX9_step_72.2.2.2.2.2.2.2.2.2
theorem q9_dX9_step_92 : (decode cX9_step 92 = .ok (.iadd, 1)) ∧ (decode cX9_step 93 = .ok (.aload_n 0, 1)) ∧ (decode cX9_step 94 = .ok (.getfield 36, 3)) ∧ (decode cX9_step 97 = .ok (.isub, 1)) ∧ (decode cX9_step 98 = .ok (.putfield 265, 3)) ∧ (decode cX9_step 101 = .ok (.aload_n 0, 1)) ∧ (decode cX9_step 102 = .ok (.aload_n 0, 1)) ∧ (decode cX9_step 103 = .ok (.getfield 36, 3)) ∧ (decode cX9_step 106 = .ok (.putfield 32, 3)) ∧ (decode cX9_step 109 = .ok (.iconst 0, 1)) := by decide +kernel
theorem dX9_step_92 : decode cX9_step 92 = .ok (.iadd, 1) := q9_dX9_step_92.1
theorem dX9_step_93 : decode cX9_step 93 = .ok (.aload_n 0, 1) := q9_dX9_step_92.2.1
theorem dX9_step_94 : decode cX9_step 94 = .ok (.getfield 36, 3) := q9_dX9_step_92.2.2.1
theorem dX9_step_97 : decode cX9_step 97 = .ok (.isub, 1) := q9_dX9_step_92.2.2.2.1
theorem dX9_step_98 : decode cX9_step 98 = .ok (.putfield 265, 3) := q9_dX9_step_92.2.2.2.2.1
theorem dX9_step_101 : decode cX9_step 101 = .ok (.aload_n 0, 1) := q9_dX9_step_92.2.2.2.2.2.1
theorem dX9_step_102 : decode cX9_step 102 = .ok (.aload_n 0, 1) := q9_dX9_step_92.2.2.2.2.2.2.1
theorem dX9_step_103 : decode cX9_step 103 = .ok (.getfield 36, 3) := q9_dX9_step_92.2.2.2.2.2.2.2.1
theorem dX9_step_106 : decode cX9_step 106 = .ok (.putfield 32, 3) := q9_dX9_step_92.2.2.2.2.2.2.2.2.1
theorem dX9_step_109 : decode cX9_step 109 = .ok (.iconst 0, 1) := q9_dX9_step_92.2.2.2.2.2.2.2.2.2
theorem q9_dX9_step_110 : (decode cX9_step 110 = .ok (.istore_n 3, 1)) ∧ (decode cX9_step 111 = .ok (.iload_n 3, 1)) ∧ (decode cX9_step 112 = .ok (.iconst 2, 1)) ∧ (decode cX9_step 113 = .ok (.if_icmp .ge 92, 3)) ∧ (decode cX9_step 116 = .ok (.aload_n 0, 1)) ∧ (decode cX9_step 117 = .ok (.iload_n 3, 1)) ∧ (decode cX9_step 118 = .ok (.aload_n 0, 1)) ∧ (decode cX9_step 119 = .ok (.getfield 219, 3)) ∧ (decode cX9_step 122 = .ok (.invokevirtual 208, 3)) ∧ (decode cX9_step 125 = .ok (.istore 4, 2)) := by decide +kernel
theorem dX9_step_110 : decode cX9_step 110 = .ok (.istore_n 3, 1) := q9_dX9_step_110.1
theorem dX9_step_111 : decode cX9_step 111 = .ok (.iload_n 3, 1) := q9_dX9_step_110.2.1
theorem dX9_step_112 : decode cX9_step 112 = .ok (.iconst 2, 1) := q9_dX9_step_110.2.2.1
theorem dX9_step_113 : decode cX9_step 113 = .ok (.if_icmp .ge 92, 3) := q9_dX9_step_110.2.2.2.1
theorem dX9_step_116 : decode cX9_step 116 = .ok (.aload_n 0, 1) := q9_dX9_step_110.2.2.2.2.1
theorem dX9_step_117 : decode cX9_step 117 = .ok (.iload_n 3, 1) := q9_dX9_step_110.2.2.2.2.2.1
theorem dX9_step_118 : decode cX9_step 118 = .ok (.aload_n 0, 1) := q9_dX9_step_110.2.2.2.2.2.2.1
theorem dX9_step_119 : decode cX9_step 119 = .ok (.getfield 219, 3) := q9_dX9_step_110.2.2.2.2.2.2.2.1
theorem dX9_step_122 : decode cX9_step 122 = .ok (.invokevirtual 208, 3) := q9_dX9_step_110.2.2.2.2.2.2.2.2.1
theorem dX9_step_125 : decode cX9_step 125 = .ok (.istore 4, 2) := q9_dX9_step_110.2.2.2.2.2.2.2.2.2
theorem q9_dX9_step_127 : (decode cX9_step 127 = .ok (.aload_n 0, 1)) ∧ (decode cX9_step 128 = .ok (.iload_n 3, 1)) ∧ (decode cX9_step 129 = .ok (.iload_n 1, 1)) ∧ (decode cX9_step 130 = .ok (.invokestatic 268, 3)) ∧ (decode cX9_step 133 = .ok (.iload 4, 2)) ∧ (decode cX9_step 135 = .ok (.iconst (-1), 1)) ∧ (decode cX9_step 136 = .ok (.if_icmp .ne 7, 3)) ∧ (decode cX9_step 139 = .ok (.iconst 0, 1)) ∧ (decode cX9_step 140 = .ok (.goto 13, 3)) ∧ (decode cX9_step 143 = .ok (.aload_n 0, 1)) := by decide +kernel
theorem dX9_step_127 : decode cX9_step 127 = .ok (.aload_n 0, 1) := q9_dX9_step_127.1
theorem dX9_step_128 : decode cX9_step 128 = .ok (.iload_n 3, 1) := q9_dX9_step_127.2.1
theorem dX9_step_129 : decode cX9_step 129 = .ok (.iload_n 1, 1) := q9_dX9_step_127.2.2.1
theorem dX9_step_130 : decode cX9_step 130 = .ok (.invokestatic 268, 3) := q9_dX9_step_127.2.2.2.1
theorem dX9_step_133 : decode cX9_step 133 = .ok (.iload 4, 2) := q9_dX9_step_127.2.2.2.2.1
theorem dX9_step_135 : decode cX9_step 135 = .ok (.iconst (-1), 1) := q9_dX9_step_127.2.2.2.2.2.1
theorem dX9_step_136 : decode cX9_step 136 = .ok (.if_icmp .ne 7, 3) := q9_dX9_step_127.2.2.2.2.2.2.1
theorem dX9_step_139 : decode cX9_step 139 = .ok (.iconst 0, 1) := q9_dX9_step_127.2.2.2.2.2.2.2.1
theorem dX9_step_140 : decode cX9_step 140 = .ok (.goto 13, 3) := q9_dX9_step_127.2.2.2.2.2.2.2.2.1
theorem dX9_step_143 : decode cX9_step 143 = .ok (.aload_n 0, 1) := q9_dX9_step_127.2.2.2.2.2.2.2.2.2
theorem q9_dX9_step_144 : (decode cX9_step 144 = .ok (.getfield 76, 3)) ∧ (decode cX9_step 147 = .ok (.iload 4, 2)) ∧ (decode cX9_step 149 = .ok (.iaload, 1)) ∧ (decode cX9_step 150 = .ok (.invokestatic 271, 3)) ∧ (decode cX9_step 153 = .ok (.iadd, 1)) ∧ (decode cX9_step 154 = .ok (.invokevirtual 274, 3)) ∧ (decode cX9_step 157 = .ok (.iload 4, 2)) ∧ (decode cX9_step 159 = .ok (.iconst (-1), 1)) ∧ (decode cX9_step 160 = .ok (.if_icmp .eq 13, 3)) ∧ (decode cX9_step 163 = .ok (.aload_n 0, 1)) := by decide +kernel
theorem dX9_step_144 : decode cX9_step 144 = .ok (.getfield 76, 3) := q9_dX9_step_144.1
theorem dX9_step_147 : decode cX9_step 147 = .ok (.iload 4, 2) := q9_dX9_step_144.2.1
theorem dX9_step_149 : decode cX9_step 149 = .ok (.iaload, 1) := q9_dX9_step_144.2.2.1
theorem dX9_step_150 : decode cX9_step 150 = .ok (.invokestatic 271, 3) := q9_dX9_step_144.2.2.2.1
theorem dX9_step_153 : decode cX9_step 153 = .ok (.iadd, 1) := q9_dX9_step_144.2.2.2.2.1
theorem dX9_step_154 : decode cX9_step 154 = .ok (.invokevirtual 274, 3) := q9_dX9_step_144.2.2.2.2.2.1
theorem dX9_step_157 : decode cX9_step 157 = .ok (.iload 4, 2) := q9_dX9_step_144.2.2.2.2.2.2.1
theorem dX9_step_159 : decode cX9_step 159 = .ok (.iconst (-1), 1) := q9_dX9_step_144.2.2.2.2.2.2.2.1
theorem dX9_step_160 : decode cX9_step 160 = .ok (.if_icmp .eq 13, 3) := q9_dX9_step_144.2.2.2.2.2.2.2.2.1
theorem dX9_step_163 : decode cX9_step 163 = .ok (.aload_n 0, 1) := q9_dX9_step_144.2.2.2.2.2.2.2.2.2
theorem q9_dX9_step_164 : (decode cX9_step 164 = .ok (.iload_n 3, 1)) ∧ (decode cX9_step 165 = .ok (.iload 4, 2)) ∧ (decode cX9_step 167 = .ok (.invokevirtual 278, 3)) ∧ (decode cX9_step 170 = .ok (.goto 29, 3)) ∧ (decode cX9_step 173 = .ok (.aload_n 0, 1)) ∧ (decode cX9_step 174 = .ok (.getfield 69, 3)) ∧ (decode cX9_step 177 = .ok (.iload_n 3, 1)) ∧ (decode cX9_step 178 = .ok (.baload, 1)) ∧ (decode cX9_step 179 = .ok (.ifCond .eq 20, 3)) ∧ (decode cX9_step 182 = .ok (.aload_n 0, 1)) := by decide +kernel
theorem dX9_step_164 : decode cX9_step 164 = .ok (.iload_n 3, 1) := q9_dX9_step_164.1
theorem dX9_step_165 : decode cX9_step 165 = .ok (.iload 4, 2) := q9_dX9_step_164.2.1
theorem dX9_step_167 : decode cX9_step 167 = .ok (.invokevirtual 278, 3) := q9_dX9_step_164.2.2.1
theorem dX9_step_170 : decode cX9_step 170 = .ok (.goto 29, 3) := q9_dX9_step_164.2.2.2.1
theorem dX9_step_173 : decode cX9_step 173 = .ok (.aload_n 0, 1) := q9_dX9_step_164.2.2.2.2.1
theorem dX9_step_174 : decode cX9_step 174 = .ok (.getfield 69, 3) := q9_dX9_step_164.2.2.2.2.2.1
theorem dX9_step_177 : decode cX9_step 177 = .ok (.iload_n 3, 1) := q9_dX9_step_164.2.2.2.2.2.2.1
theorem dX9_step_178 : decode cX9_step 178 = .ok (.baload, 1) := q9_dX9_step_164.2.2.2.2.2.2.2.1
theorem dX9_step_179 : decode cX9_step 179 = .ok (.ifCond .eq 20, 3) := q9_dX9_step_164.2.2.2.2.2.2.2.2.1
theorem dX9_step_182 : decode cX9_step 182 = .ok (.aload_n 0, 1) := q9_dX9_step_164.2.2.2.2.2.2.2.2.2
theorem q9_dX9_step_183 : (decode cX9_step 183 = .ok (.iload_n 3, 1)) ∧ (decode cX9_step 184 = .ok (.aload_n 0, 1)) ∧ (decode cX9_step 185 = .ok (.getfield 219, 3)) ∧ (decode cX9_step 188 = .ok (.invokevirtual 222, 3)) ∧ (decode cX9_step 191 = .ok (.ifCond .ne 8, 3)) ∧ (decode cX9_step 194 = .ok (.aload_n 0, 1)) ∧ (decode cX9_step 195 = .ok (.iload_n 3, 1)) ∧ (decode cX9_step 196 = .ok (.invokevirtual 281, 3)) ∧ (decode cX9_step 199 = .ok (.iinc 3 1, 3)) ∧ (decode cX9_step 202 = .ok (.goto (-91), 3)) := by decide +kernel
theorem dX9_step_183 : decode cX9_step 183 = .ok (.iload_n 3, 1) := q9_dX9_step_183.1
theorem dX9_step_184 : decode cX9_step 184 = .ok (.aload_n 0, 1) := q9_dX9_step_183.2.1
theorem dX9_step_185 : decode cX9_step 185 = .ok (.getfield 219, 3) := q9_dX9_step_183.2.2.1
theorem dX9_step_188 : decode cX9_step 188 = .ok (.invokevirtual 222, 3) := q9_dX9_step_183.2.2.2.1
theorem dX9_step_191 : decode cX9_step 191 = .ok (.ifCond .ne 8, 3) := q9_dX9_step_183.2.2.2.2.1
theorem dX9_step_194 : decode cX9_step 194 = .ok (.aload_n 0, 1) := q9_dX9_step_183.2.2.2.2.2.1
theorem dX9_step_195 : decode cX9_step 195 = .ok (.iload_n 3, 1) := q9_dX9_step_183.2.2.2.2.2.2.1
theorem dX9_step_196 : decode cX9_step 196 = .ok (.invokevirtual 281, 3) := q9_dX9_step_183.2.2.2.2.2.2.2.1
theorem dX9_step_199 : decode cX9_step 199 = .ok (.iinc 3 1, 3) := q9_dX9_step_183.2.2.2.2.2.2.2.2.1
theorem dX9_step_202 : decode cX9_step 202 = .ok (.goto (-91), 3) := q9_dX9_step_183.2.2.2.2.2.2.2.2.2
theorem q9_dX9_step_205 : (decode cX9_step 205 = .ok (.aload_n 0, 1)) ∧ (decode cX9_step 206 = .ok (.aload_n 0, 1)) ∧ (decode cX9_step 207 = .ok (.getfield 219, 3)) ∧ (decode cX9_step 210 = .ok (.iconst 1, 1)) ∧ (decode cX9_step 211 = .ok (.iadd, 1)) ∧ (decode cX9_step 212 = .ok (.putfield 219, 3)) ∧ (decode cX9_step 215 = .ok (.aload_n 0, 1)) ∧ (decode cX9_step 216 = .ok (.getfield 219, 3)) ∧ (decode cX9_step 219 = .ok (.ireturn, 1)) := by decide +kernel
theorem dX9_step_205 : decode cX9_step 205 = .ok (.aload_n 0, 1) := q9_dX9_step_205.1
theorem dX9_step_206 : decode cX9_step 206 = .ok (.aload_n 0, 1) := q9_dX9_step_205.2.1
theorem dX9_step_207 : decode cX9_step 207 = .ok (.getfield 219, 3) := q9_dX9_step_205.2.2.1
theorem dX9_step_210 : decode cX9_step 210 = .ok (.iconst 1, 1) := q9_dX9_step_205.2.2.2.1
theorem dX9_step_211 : decode cX9_step 211 = .ok (.iadd, 1) := q9_dX9_step_205.2.2.2.2.1
theorem dX9_step_212 : decode cX9_step 212 = .ok (.putfield 219, 3) := q9_dX9_step_205.2.2.2.2.2.1
theorem dX9_step_215 : decode cX9_step 215 = .ok (.aload_n 0, 1) := q9_dX9_step_205.2.2.2.2.2.2.1
theorem dX9_step_216 : decode cX9_step 216 = .ok (.getfield 219, 3) := q9_dX9_step_205.2.2.2.2.2.2.2.1
theorem dX9_step_219 : decode cX9_step 219 = .ok (.ireturn, 1) := q9_dX9_step_205.2.2.2.2.2.2.2.2
set_option maxRecDepth 20000 in
theorem ggX9_plan_X9_halfOf : GoodIn wsX9_plan wsX9_halfOf := goodIn_r _ [15] rfl (by decide +kernel)
set_option maxRecDepth 20000 in
theorem gX9_plan_X9_halfOf : GoodIn wsX9_plan (va_wsS RX9 268 yX9_halfOf wsX9_halfOf) := goodIn_app (goodIn_of _ (by decide +kernel)) ggX9_plan_X9_halfOf
set_option maxRecDepth 20000 in
theorem ggX9_plan_X9_standing : GoodIn wsX9_plan wsX9_standing := goodIn_r _ [19, 20, 21, 22, 23, 27, 28, 29, 30, 31, 32, 33, 34, 35, 36, 37, 38, 39, 40, 41, 42, 43, 44, 45, 46, 47, 48, 49, 50, 51, 52, 53, 54, 55, 56, 57, 58, 59, 60, 61, 62, 63, 64, 65, 66, 67, 68, 69, 70, 71, 72, 73, 74, 75, 76, 77, 78, 79, 80, 81, 82, 83, 84, 85, 86, 87, 88, 89] rfl (by decide +kernel)
set_option maxRecDepth 20000 in
theorem gX9_plan_X9_standing : GoodIn wsX9_plan (wsV RX9 208 RX9 yX9_standing wsX9_standing) := goodIn_app (goodIn_of _ (by decide +kernel)) ggX9_plan_X9_standing
set_option maxRecDepth 20000 in
theorem ggX9_plan_X9_heatOf : GoodIn wsX9_plan wsX9_heatOf := goodIn_r _ [26] rfl (by decide +kernel)
set_option maxRecDepth 20000 in
theorem gX9_plan_X9_heatOf : GoodIn wsX9_plan (va_wsS RX9 271 yX9_heatOf wsX9_heatOf) := goodIn_app (goodIn_of _ (by decide +kernel)) ggX9_plan_X9_heatOf
theorem q9_dX9_plan_0 : (decode cX9_plan 0 = .ok (.iload_n 1, 1)) ∧ (decode cX9_plan 1 = .ok (.iconst 1, 1)) ∧ (decode cX9_plan 2 = .ok (.if_icmp .lt 21, 3)) ∧ (decode cX9_plan 5 = .ok (.iload_n 1, 1)) ∧ (decode cX9_plan 6 = .ok (.bipush 8, 2)) ∧ (decode cX9_plan 8 = .ok (.if_icmp .gt 15, 3)) ∧ (decode cX9_plan 11 = .ok (.iload_n 2, 1)) ∧ (decode cX9_plan 12 = .ok (.bipush (-20), 2)) ∧ (decode cX9_plan 14 = .ok (.if_icmp .lt 9, 3)) ∧ (decode cX9_plan 17 = .ok (.iload_n 2, 1)) := by decide +kernel
theorem dX9_plan_0 : decode cX9_plan 0 = .ok (.iload_n 1, 1) := q9_dX9_plan_0.1
theorem dX9_plan_1 : decode cX9_plan 1 = .ok (.iconst 1, 1) := q9_dX9_plan_0.2.1
theorem dX9_plan_2 : decode cX9_plan 2 = .ok (.if_icmp .lt 21, 3) := q9_dX9_plan_0.2.2.1
theorem dX9_plan_5 : decode cX9_plan 5 = .ok (.iload_n 1, 1) := q9_dX9_plan_0.2.2.2.1
theorem dX9_plan_6 : decode cX9_plan 6 = .ok (.bipush 8, 2) := q9_dX9_plan_0.2.2.2.2.1
theorem dX9_plan_8 : decode cX9_plan 8 = .ok (.if_icmp .gt 15, 3) := q9_dX9_plan_0.2.2.2.2.2.1
theorem dX9_plan_11 : decode cX9_plan 11 = .ok (.iload_n 2, 1) := q9_dX9_plan_0.2.2.2.2.2.2.1
theorem dX9_plan_12 : decode cX9_plan 12 = .ok (.bipush (-20), 2) := q9_dX9_plan_0.2.2.2.2.2.2.2.1
theorem dX9_plan_14 : decode cX9_plan 14 = .ok (.if_icmp .lt 9, 3) := q9_dX9_plan_0.2.2.2.2.2.2.2.2.1
theorem dX9_plan_17 : decode cX9_plan 17 = .ok (.iload_n 2, 1) := q9_dX9_plan_0.2.2.2.2.2.2.2.2.2
theorem q9_dX9_plan_18 : (decode cX9_plan 18 = .ok (.bipush 40, 2)) ∧ (decode cX9_plan 20 = .ok (.if_icmp .le 5, 3)) ∧ (decode cX9_plan 23 = .ok (.iconst (-1), 1)) ∧ (decode cX9_plan 24 = .ok (.ireturn, 1)) ∧ (decode cX9_plan 25 = .ok (.iconst 1, 1)) ∧ (decode cX9_plan 26 = .ok (.istore_n 3, 1)) ∧ (decode cX9_plan 27 = .ok (.iconst 0, 1)) ∧ (decode cX9_plan 28 = .ok (.istore 4, 2)) ∧ (decode cX9_plan 30 = .ok (.iload 4, 2)) ∧ (decode cX9_plan 32 = .ok (.iload_n 1, 1)) := by decide +kernel
theorem dX9_plan_18 : decode cX9_plan 18 = .ok (.bipush 40, 2) := q9_dX9_plan_18.1
theorem dX9_plan_20 : decode cX9_plan 20 = .ok (.if_icmp .le 5, 3) := q9_dX9_plan_18.2.1
theorem dX9_plan_23 : decode cX9_plan 23 = .ok (.iconst (-1), 1) := q9_dX9_plan_18.2.2.1
theorem dX9_plan_24 : decode cX9_plan 24 = .ok (.ireturn, 1) := q9_dX9_plan_18.2.2.2.1
theorem dX9_plan_25 : decode cX9_plan 25 = .ok (.iconst 1, 1) := q9_dX9_plan_18.2.2.2.2.1
theorem dX9_plan_26 : decode cX9_plan 26 = .ok (.istore_n 3, 1) := q9_dX9_plan_18.2.2.2.2.2.1
theorem dX9_plan_27 : decode cX9_plan 27 = .ok (.iconst 0, 1) := q9_dX9_plan_18.2.2.2.2.2.2.1
theorem dX9_plan_28 : decode cX9_plan 28 = .ok (.istore 4, 2) := q9_dX9_plan_18.2.2.2.2.2.2.2.1
theorem dX9_plan_30 : decode cX9_plan 30 = .ok (.iload 4, 2) := q9_dX9_plan_18.2.2.2.2.2.2.2.2.1
theorem dX9_plan_32 : decode cX9_plan 32 = .ok (.iload_n 1, 1) := q9_dX9_plan_18.2.2.2.2.2.2.2.2.2
theorem q9_dX9_plan_33 : (decode cX9_plan 33 = .ok (.if_icmp .ge 91, 3)) ∧ (decode cX9_plan 36 = .ok (.iconst 4, 1)) ∧ (decode cX9_plan 37 = .ok (.iload_n 3, 1)) ∧ (decode cX9_plan 38 = .ok (.imul, 1)) ∧ (decode cX9_plan 39 = .ok (.istore_n 3, 1)) ∧ (decode cX9_plan 40 = .ok (.aload_n 0, 1)) ∧ (decode cX9_plan 41 = .ok (.getfield 121, 3)) ∧ (decode cX9_plan 44 = .ok (.iload 4, 2)) ∧ (decode cX9_plan 46 = .ok (.iconst 2, 1)) ∧ (decode cX9_plan 47 = .ok (.iload_n 2, 1)) := by decide +kernel
theorem dX9_plan_33 : decode cX9_plan 33 = .ok (.if_icmp .ge 91, 3) := q9_dX9_plan_33.1
theorem dX9_plan_36 : decode cX9_plan 36 = .ok (.iconst 4, 1) := q9_dX9_plan_33.2.1
theorem dX9_plan_37 : decode cX9_plan 37 = .ok (.iload_n 3, 1) := q9_dX9_plan_33.2.2.1
theorem dX9_plan_38 : decode cX9_plan 38 = .ok (.imul, 1) := q9_dX9_plan_33.2.2.2.1
theorem dX9_plan_39 : decode cX9_plan 39 = .ok (.istore_n 3, 1) := q9_dX9_plan_33.2.2.2.2.1
theorem dX9_plan_40 : decode cX9_plan 40 = .ok (.aload_n 0, 1) := q9_dX9_plan_33.2.2.2.2.2.1
theorem dX9_plan_41 : decode cX9_plan 41 = .ok (.getfield 121, 3) := q9_dX9_plan_33.2.2.2.2.2.2.1
theorem dX9_plan_44 : decode cX9_plan 44 = .ok (.iload 4, 2) := q9_dX9_plan_33.2.2.2.2.2.2.2.1
theorem dX9_plan_46 : decode cX9_plan 46 = .ok (.iconst 2, 1) := q9_dX9_plan_33.2.2.2.2.2.2.2.2.1
theorem dX9_plan_47 : decode cX9_plan 47 = .ok (.iload_n 2, 1) := q9_dX9_plan_33.2.2.2.2.2.2.2.2.2
theorem q9_dX9_plan_48 : (decode cX9_plan 48 = .ok (.invokestatic 268, 3)) ∧ (decode cX9_plan 51 = .ok (.imul, 1)) ∧ (decode cX9_plan 52 = .ok (.iastore, 1)) ∧ (decode cX9_plan 53 = .ok (.iconst 0, 1)) ∧ (decode cX9_plan 54 = .ok (.istore 5, 2)) ∧ (decode cX9_plan 56 = .ok (.iload 5, 2)) ∧ (decode cX9_plan 58 = .ok (.iconst 2, 1)) ∧ (decode cX9_plan 59 = .ok (.if_icmp .ge 59, 3)) ∧ (decode cX9_plan 62 = .ok (.aload_n 0, 1)) ∧ (decode cX9_plan 63 = .ok (.iload 5, 2)) := by decide +kernel
theorem dX9_plan_48 : decode cX9_plan 48 = .ok (.invokestatic 268, 3) := q9_dX9_plan_48.1
theorem dX9_plan_51 : decode cX9_plan 51 = .ok (.imul, 1) := q9_dX9_plan_48.2.1
theorem dX9_plan_52 : decode cX9_plan 52 = .ok (.iastore, 1) := q9_dX9_plan_48.2.2.1
theorem dX9_plan_53 : decode cX9_plan 53 = .ok (.iconst 0, 1) := q9_dX9_plan_48.2.2.2.1
theorem dX9_plan_54 : decode cX9_plan 54 = .ok (.istore 5, 2) := q9_dX9_plan_48.2.2.2.2.1
theorem dX9_plan_56 : decode cX9_plan 56 = .ok (.iload 5, 2) := q9_dX9_plan_48.2.2.2.2.2.1
theorem dX9_plan_58 : decode cX9_plan 58 = .ok (.iconst 2, 1) := q9_dX9_plan_48.2.2.2.2.2.2.1
theorem dX9_plan_59 : decode cX9_plan 59 = .ok (.if_icmp .ge 59, 3) := q9_dX9_plan_48.2.2.2.2.2.2.2.1
theorem dX9_plan_62 : decode cX9_plan 62 = .ok (.aload_n 0, 1) := q9_dX9_plan_48.2.2.2.2.2.2.2.2.1
theorem dX9_plan_63 : decode cX9_plan 63 = .ok (.iload 5, 2) := q9_dX9_plan_48.2.2.2.2.2.2.2.2.2
theorem q9_dX9_plan_65 : (decode cX9_plan 65 = .ok (.aload_n 0, 1)) ∧ (decode cX9_plan 66 = .ok (.getfield 219, 3)) ∧ (decode cX9_plan 69 = .ok (.iload 4, 2)) ∧ (decode cX9_plan 71 = .ok (.iadd, 1)) ∧ (decode cX9_plan 72 = .ok (.invokevirtual 208, 3)) ∧ (decode cX9_plan 75 = .ok (.istore 6, 2)) ∧ (decode cX9_plan 77 = .ok (.aload_n 0, 1)) ∧ (decode cX9_plan 78 = .ok (.getfield 121, 3)) ∧ (decode cX9_plan 81 = .ok (.iload 4, 2)) ∧ (decode cX9_plan 83 = .ok (.aload_n 0, 1)) := by decide +kernel
theorem dX9_plan_65 : decode cX9_plan 65 = .ok (.aload_n 0, 1) := q9_dX9_plan_65.1
theorem dX9_plan_66 : decode cX9_plan 66 = .ok (.getfield 219, 3) := q9_dX9_plan_65.2.1
theorem dX9_plan_69 : decode cX9_plan 69 = .ok (.iload 4, 2) := q9_dX9_plan_65.2.2.1
theorem dX9_plan_71 : decode cX9_plan 71 = .ok (.iadd, 1) := q9_dX9_plan_65.2.2.2.1
theorem dX9_plan_72 : decode cX9_plan 72 = .ok (.invokevirtual 208, 3) := q9_dX9_plan_65.2.2.2.2.1
theorem dX9_plan_75 : decode cX9_plan 75 = .ok (.istore 6, 2) := q9_dX9_plan_65.2.2.2.2.2.1
theorem dX9_plan_77 : decode cX9_plan 77 = .ok (.aload_n 0, 1) := q9_dX9_plan_65.2.2.2.2.2.2.1
theorem dX9_plan_78 : decode cX9_plan 78 = .ok (.getfield 121, 3) := q9_dX9_plan_65.2.2.2.2.2.2.2.1
theorem dX9_plan_81 : decode cX9_plan 81 = .ok (.iload 4, 2) := q9_dX9_plan_65.2.2.2.2.2.2.2.2.1
theorem dX9_plan_83 : decode cX9_plan 83 = .ok (.aload_n 0, 1) := q9_dX9_plan_65.2.2.2.2.2.2.2.2.2
theorem q9_dX9_plan_84 : (decode cX9_plan 84 = .ok (.getfield 121, 3)) ∧ (decode cX9_plan 87 = .ok (.iload 4, 2)) ∧ (decode cX9_plan 89 = .ok (.iaload, 1)) ∧ (decode cX9_plan 90 = .ok (.iload 6, 2)) ∧ (decode cX9_plan 92 = .ok (.iconst (-1), 1)) ∧ (decode cX9_plan 93 = .ok (.if_icmp .ne 7, 3)) ∧ (decode cX9_plan 96 = .ok (.iconst 0, 1)) ∧ (decode cX9_plan 97 = .ok (.goto 13, 3)) ∧ (decode cX9_plan 100 = .ok (.aload_n 0, 1)) ∧ (decode cX9_plan 101 = .ok (.getfield 76, 3)) := by decide +kernel
theorem dX9_plan_84 : decode cX9_plan 84 = .ok (.getfield 121, 3) := q9_dX9_plan_84.1
theorem dX9_plan_87 : decode cX9_plan 87 = .ok (.iload 4, 2) := q9_dX9_plan_84.2.1
theorem dX9_plan_89 : decode cX9_plan 89 = .ok (.iaload, 1) := q9_dX9_plan_84.2.2.1
theorem dX9_plan_90 : decode cX9_plan 90 = .ok (.iload 6, 2) := q9_dX9_plan_84.2.2.2.1
theorem dX9_plan_92 : decode cX9_plan 92 = .ok (.iconst (-1), 1) := q9_dX9_plan_84.2.2.2.2.1
theorem dX9_plan_93 : decode cX9_plan 93 = .ok (.if_icmp .ne 7, 3) := q9_dX9_plan_84.2.2.2.2.2.1
theorem dX9_plan_96 : decode cX9_plan 96 = .ok (.iconst 0, 1) := q9_dX9_plan_84.2.2.2.2.2.2.1
theorem dX9_plan_97 : decode cX9_plan 97 = .ok (.goto 13, 3) := q9_dX9_plan_84.2.2.2.2.2.2.2.1
theorem dX9_plan_100 : decode cX9_plan 100 = .ok (.aload_n 0, 1) := q9_dX9_plan_84.2.2.2.2.2.2.2.2.1
theorem dX9_plan_101 : decode cX9_plan 101 = .ok (.getfield 76, 3) := q9_dX9_plan_84.2.2.2.2.2.2.2.2.2
theorem q9_dX9_plan_104 : (decode cX9_plan 104 = .ok (.iload 6, 2)) ∧ (decode cX9_plan 106 = .ok (.iaload, 1)) ∧ (decode cX9_plan 107 = .ok (.invokestatic 271, 3)) ∧ (decode cX9_plan 110 = .ok (.iadd, 1)) ∧ (decode cX9_plan 111 = .ok (.iastore, 1)) ∧ (decode cX9_plan 112 = .ok (.iinc 5 1, 3)) ∧ (decode cX9_plan 115 = .ok (.goto (-59), 3)) ∧ (decode cX9_plan 118 = .ok (.iinc 4 1, 3)) ∧ (decode cX9_plan 121 = .ok (.goto (-91), 3)) ∧ (decode cX9_plan 124 = .ok (.iconst (-1), 1)) := by decide +kernel
theorem dX9_plan_104 : decode cX9_plan 104 = .ok (.iload 6, 2) := q9_dX9_plan_104.1
theorem dX9_plan_106 : decode cX9_plan 106 = .ok (.iaload, 1) := q9_dX9_plan_104.2.1
theorem dX9_plan_107 : decode cX9_plan 107 = .ok (.invokestatic 271, 3) := q9_dX9_plan_104.2.2.1
theorem dX9_plan_110 : decode cX9_plan 110 = .ok (.iadd, 1) := q9_dX9_plan_104.2.2.2.1
theorem dX9_plan_111 : decode cX9_plan 111 = .ok (.iastore, 1) := q9_dX9_plan_104.2.2.2.2.1
theorem dX9_plan_112 : decode cX9_plan 112 = .ok (.iinc 5 1, 3) := q9_dX9_plan_104.2.2.2.2.2.1
theorem dX9_plan_115 : decode cX9_plan 115 = .ok (.goto (-59), 3) := q9_dX9_plan_104.2.2.2.2.2.2.1
theorem dX9_plan_118 : decode cX9_plan 118 = .ok (.iinc 4 1, 3) := q9_dX9_plan_104.2.2.2.2.2.2.2.1
theorem dX9_plan_121 : decode cX9_plan 121 = .ok (.goto (-91), 3) := q9_dX9_plan_104.2.2.2.2.2.2.2.2.1
theorem dX9_plan_124 : decode cX9_plan 124 = .ok (.iconst (-1), 1) := q9_dX9_plan_104.2.2.2.2.2.2.2.2.2
theorem q9_dX9_plan_125 : (decode cX9_plan 125 = .ok (.istore 4, 2)) ∧ (decode cX9_plan 127 = .ok (.iconst 0, 1)) ∧ (decode cX9_plan 128 = .ok (.istore 5, 2)) ∧ (decode cX9_plan 130 = .ok (.iconst 0, 1)) ∧ (decode cX9_plan 131 = .ok (.istore 6, 2)) ∧ (decode cX9_plan 133 = .ok (.iload 6, 2)) ∧ (decode cX9_plan 135 = .ok (.iload_n 3, 1)) ∧ (decode cX9_plan 136 = .ok (.if_icmp .ge 262, 3)) ∧ (decode cX9_plan 139 = .ok (.iload 6, 2)) ∧ (decode cX9_plan 141 = .ok (.istore 7, 2)) := by decide +kernel
theorem dX9_plan_125 : decode cX9_plan 125 = .ok (.istore 4, 2) := q9_dX9_plan_125.1
theorem dX9_plan_127 : decode cX9_plan 127 = .ok (.iconst 0, 1) := q9_dX9_plan_125.2.1
theorem dX9_plan_128 : decode cX9_plan 128 = .ok (.istore 5, 2) := q9_dX9_plan_125.2.2.1
theorem dX9_plan_130 : decode cX9_plan 130 = .ok (.iconst 0, 1) := q9_dX9_plan_125.2.2.2.1
theorem dX9_plan_131 : decode cX9_plan 131 = .ok (.istore 6, 2) := q9_dX9_plan_125.2.2.2.2.1
theorem dX9_plan_133 : decode cX9_plan 133 = .ok (.iload 6, 2) := q9_dX9_plan_125.2.2.2.2.2.1
theorem dX9_plan_135 : decode cX9_plan 135 = .ok (.iload_n 3, 1) := q9_dX9_plan_125.2.2.2.2.2.2.1
theorem dX9_plan_136 : decode cX9_plan 136 = .ok (.if_icmp .ge 262, 3) := q9_dX9_plan_125.2.2.2.2.2.2.2.1
theorem dX9_plan_139 : decode cX9_plan 139 = .ok (.iload 6, 2) := q9_dX9_plan_125.2.2.2.2.2.2.2.2.1
theorem dX9_plan_141 : decode cX9_plan 141 = .ok (.istore 7, 2) := q9_dX9_plan_125.2.2.2.2.2.2.2.2.2
theorem q9_dX9_plan_143 : (decode cX9_plan 143 = .ok (.iload_n 1, 1)) ∧ (decode cX9_plan 144 = .ok (.iconst 1, 1)) ∧ (decode cX9_plan 145 = .ok (.isub, 1)) ∧ (decode cX9_plan 146 = .ok (.istore 8, 2)) ∧ (decode cX9_plan 148 = .ok (.iload 8, 2)) ∧ (decode cX9_plan 150 = .ok (.ifCond .lt 26, 3)) ∧ (decode cX9_plan 153 = .ok (.aload_n 0, 1)) ∧ (decode cX9_plan 154 = .ok (.getfield 124, 3)) ∧ (decode cX9_plan 157 = .ok (.iload 8, 2)) ∧ (decode cX9_plan 159 = .ok (.iload 7, 2)) := by decide +kernel
theorem dX9_plan_143 : decode cX9_plan 143 = .ok (.iload_n 1, 1) := q9_dX9_plan_143.1
theorem dX9_plan_144 : decode cX9_plan 144 = .ok (.iconst 1, 1) := q9_dX9_plan_143.2.1
theorem dX9_plan_145 : decode cX9_plan 145 = .ok (.isub, 1) := q9_dX9_plan_143.2.2.1
theorem dX9_plan_146 : decode cX9_plan 146 = .ok (.istore 8, 2) := q9_dX9_plan_143.2.2.2.1
theorem dX9_plan_148 : decode cX9_plan 148 = .ok (.iload 8, 2) := q9_dX9_plan_143.2.2.2.2.1
theorem dX9_plan_150 : decode cX9_plan 150 = .ok (.ifCond .lt 26, 3) := q9_dX9_plan_143.2.2.2.2.2.1
theorem dX9_plan_153 : decode cX9_plan 153 = .ok (.aload_n 0, 1) := q9_dX9_plan_143.2.2.2.2.2.2.1
theorem dX9_plan_154 : decode cX9_plan 154 = .ok (.getfield 124, 3) := q9_dX9_plan_143.2.2.2.2.2.2.2.1
theorem dX9_plan_157 : decode cX9_plan 157 = .ok (.iload 8, 2) := q9_dX9_plan_143.2.2.2.2.2.2.2.2.1
theorem dX9_plan_159 : decode cX9_plan 159 = .ok (.iload 7, 2) := q9_dX9_plan_143.2.2.2.2.2.2.2.2.2
theorem q9_dX9_plan_161 : (decode cX9_plan 161 = .ok (.iconst 4, 1)) ∧ (decode cX9_plan 162 = .ok (.irem, 1)) ∧ (decode cX9_plan 163 = .ok (.iastore, 1)) ∧ (decode cX9_plan 164 = .ok (.iload 7, 2)) ∧ (decode cX9_plan 166 = .ok (.iconst 4, 1)) ∧ (decode cX9_plan 167 = .ok (.idiv, 1)) ∧ (decode cX9_plan 168 = .ok (.istore 7, 2)) ∧ (decode cX9_plan 170 = .ok (.iinc 8 (-1), 3)) ∧ (decode cX9_plan 173 = .ok (.goto (-25), 3)) ∧ (decode cX9_plan 176 = .ok (.aload_n 0, 1)) := by decide +kernel
theorem dX9_plan_161 : decode cX9_plan 161 = .ok (.iconst 4, 1) := q9_dX9_plan_161.1
theorem dX9_plan_162 : decode cX9_plan 162 = .ok (.irem, 1) := q9_dX9_plan_161.2.1
theorem dX9_plan_163 : decode cX9_plan 163 = .ok (.iastore, 1) := q9_dX9_plan_161.2.2.1
theorem dX9_plan_164 : decode cX9_plan 164 = .ok (.iload 7, 2) := q9_dX9_plan_161.2.2.2.1
theorem dX9_plan_166 : decode cX9_plan 166 = .ok (.iconst 4, 1) := q9_dX9_plan_161.2.2.2.2.1
theorem dX9_plan_167 : decode cX9_plan 167 = .ok (.idiv, 1) := q9_dX9_plan_161.2.2.2.2.2.1
theorem dX9_plan_168 : decode cX9_plan 168 = .ok (.istore 7, 2) := q9_dX9_plan_161.2.2.2.2.2.2.1
theorem dX9_plan_170 : decode cX9_plan 170 = .ok (.iinc 8 (-1), 3) := q9_dX9_plan_161.2.2.2.2.2.2.2.1
theorem dX9_plan_173 : decode cX9_plan 173 = .ok (.goto (-25), 3) := q9_dX9_plan_161.2.2.2.2.2.2.2.2.1
theorem dX9_plan_176 : decode cX9_plan 176 = .ok (.aload_n 0, 1) := q9_dX9_plan_161.2.2.2.2.2.2.2.2.2
theorem q9_dX9_plan_177 : (decode cX9_plan 177 = .ok (.getfield 32, 3)) ∧ (decode cX9_plan 180 = .ok (.istore 8, 2)) ∧ (decode cX9_plan 182 = .ok (.iconst 0, 1)) ∧ (decode cX9_plan 183 = .ok (.istore 9, 2)) ∧ (decode cX9_plan 185 = .ok (.iconst 0, 1)) ∧ (decode cX9_plan 186 = .ok (.istore 10, 2)) ∧ (decode cX9_plan 188 = .ok (.iconst 1, 1)) ∧ (decode cX9_plan 189 = .ok (.istore 11, 2)) ∧ (decode cX9_plan 191 = .ok (.iconst 0, 1)) ∧ (decode cX9_plan 192 = .ok (.istore 12, 2)) := by decide +kernel
theorem dX9_plan_177 : decode cX9_plan 177 = .ok (.getfield 32, 3) := q9_dX9_plan_177.1
theorem dX9_plan_180 : decode cX9_plan 180 = .ok (.istore 8, 2) := q9_dX9_plan_177.2.1
theorem dX9_plan_182 : decode cX9_plan 182 = .ok (.iconst 0, 1) := q9_dX9_plan_177.2.2.1
theorem dX9_plan_183 : decode cX9_plan 183 = .ok (.istore 9, 2) := q9_dX9_plan_177.2.2.2.1
theorem dX9_plan_185 : decode cX9_plan 185 = .ok (.iconst 0, 1) := q9_dX9_plan_177.2.2.2.2.1
theorem dX9_plan_186 : decode cX9_plan 186 = .ok (.istore 10, 2) := q9_dX9_plan_177.2.2.2.2.2.1
theorem dX9_plan_188 : decode cX9_plan 188 = .ok (.iconst 1, 1) := q9_dX9_plan_177.2.2.2.2.2.2.1
theorem dX9_plan_189 : decode cX9_plan 189 = .ok (.istore 11, 2) := q9_dX9_plan_177.2.2.2.2.2.2.2.1
theorem dX9_plan_191 : decode cX9_plan 191 = .ok (.iconst 0, 1) := q9_dX9_plan_177.2.2.2.2.2.2.2.2.1
theorem dX9_plan_192 : decode cX9_plan 192 = .ok (.istore 12, 2) := q9_dX9_plan_177.2.2.2.2.2.2.2.2.2
theorem q9_dX9_plan_194 : (decode cX9_plan 194 = .ok (.iload 12, 2)) ∧ (decode cX9_plan 196 = .ok (.iload_n 1, 1)) ∧ (decode cX9_plan 197 = .ok (.if_icmp .ge 123, 3)) ∧ (decode cX9_plan 200 = .ok (.iload 11, 2)) ∧ (decode cX9_plan 202 = .ok (.ifCond .eq 118, 3)) ∧ (decode cX9_plan 205 = .ok (.iload 8, 2)) ∧ (decode cX9_plan 207 = .ok (.bipush 20, 2)) ∧ (decode cX9_plan 209 = .ok (.aload_n 0, 1)) ∧ (decode cX9_plan 210 = .ok (.getfield 124, 3)) ∧ (decode cX9_plan 213 = .ok (.iload 12, 2)) := by decide +kernel
theorem dX9_plan_194 : decode cX9_plan 194 = .ok (.iload 12, 2) := q9_dX9_plan_194.1
theorem dX9_plan_196 : decode cX9_plan 196 = .ok (.iload_n 1, 1) := q9_dX9_plan_194.2.1
theorem dX9_plan_197 : decode cX9_plan 197 = .ok (.if_icmp .ge 123, 3) := q9_dX9_plan_194.2.2.1
theorem dX9_plan_200 : decode cX9_plan 200 = .ok (.iload 11, 2) := q9_dX9_plan_194.2.2.2.1
theorem dX9_plan_202 : decode cX9_plan 202 = .ok (.ifCond .eq 118, 3) := q9_dX9_plan_194.2.2.2.2.1
theorem dX9_plan_205 : decode cX9_plan 205 = .ok (.iload 8, 2) := q9_dX9_plan_194.2.2.2.2.2.1
theorem dX9_plan_207 : decode cX9_plan 207 = .ok (.bipush 20, 2) := q9_dX9_plan_194.2.2.2.2.2.2.1
theorem dX9_plan_209 : decode cX9_plan 209 = .ok (.aload_n 0, 1) := q9_dX9_plan_194.2.2.2.2.2.2.2.1
theorem dX9_plan_210 : decode cX9_plan 210 = .ok (.getfield 124, 3) := q9_dX9_plan_194.2.2.2.2.2.2.2.2.1
theorem dX9_plan_213 : decode cX9_plan 213 = .ok (.iload 12, 2) := q9_dX9_plan_194.2.2.2.2.2.2.2.2.2
theorem q9_dX9_plan_215 : (decode cX9_plan 215 = .ok (.iaload, 1)) ∧ (decode cX9_plan 216 = .ok (.imul, 1)) ∧ (decode cX9_plan 217 = .ok (.iadd, 1)) ∧ (decode cX9_plan 218 = .ok (.istore 8, 2)) ∧ (decode cX9_plan 220 = .ok (.iload 9, 2)) ∧ (decode cX9_plan 222 = .ok (.aload_n 0, 1)) ∧ (decode cX9_plan 223 = .ok (.getfield 124, 3)) ∧ (decode cX9_plan 226 = .ok (.iload 12, 2)) ∧ (decode cX9_plan 228 = .ok (.iaload, 1)) ∧ (decode cX9_plan 229 = .ok (.aload_n 0, 1)) := by decide +kernel
theorem dX9_plan_215 : decode cX9_plan 215 = .ok (.iaload, 1) := q9_dX9_plan_215.1
theorem dX9_plan_216 : decode cX9_plan 216 = .ok (.imul, 1) := q9_dX9_plan_215.2.1
theorem dX9_plan_217 : decode cX9_plan 217 = .ok (.iadd, 1) := q9_dX9_plan_215.2.2.1
theorem dX9_plan_218 : decode cX9_plan 218 = .ok (.istore 8, 2) := q9_dX9_plan_215.2.2.2.1
theorem dX9_plan_220 : decode cX9_plan 220 = .ok (.iload 9, 2) := q9_dX9_plan_215.2.2.2.2.1
theorem dX9_plan_222 : decode cX9_plan 222 = .ok (.aload_n 0, 1) := q9_dX9_plan_215.2.2.2.2.2.1
theorem dX9_plan_223 : decode cX9_plan 223 = .ok (.getfield 124, 3) := q9_dX9_plan_215.2.2.2.2.2.2.1
theorem dX9_plan_226 : decode cX9_plan 226 = .ok (.iload 12, 2) := q9_dX9_plan_215.2.2.2.2.2.2.2.1
theorem dX9_plan_228 : decode cX9_plan 228 = .ok (.iaload, 1) := q9_dX9_plan_215.2.2.2.2.2.2.2.2.1
theorem dX9_plan_229 : decode cX9_plan 229 = .ok (.aload_n 0, 1) := q9_dX9_plan_215.2.2.2.2.2.2.2.2.2
theorem q9_dX9_plan_230 : (decode cX9_plan 230 = .ok (.getfield 45, 3)) ∧ (decode cX9_plan 233 = .ok (.aload_n 0, 1)) ∧ (decode cX9_plan 234 = .ok (.getfield 219, 3)) ∧ (decode cX9_plan 237 = .ok (.iload 12, 2)) ∧ (decode cX9_plan 239 = .ok (.iadd, 1)) ∧ (decode cX9_plan 240 = .ok (.bipush 24, 2)) ∧ (decode cX9_plan 242 = .ok (.irem, 1)) ∧ (decode cX9_plan 243 = .ok (.iaload, 1)) ∧ (decode cX9_plan 244 = .ok (.imul, 1)) ∧ (decode cX9_plan 245 = .ok (.iadd, 1)) := by decide +kernel
theorem dX9_plan_230 : decode cX9_plan 230 = .ok (.getfield 45, 3) := q9_dX9_plan_230.1
theorem dX9_plan_233 : decode cX9_plan 233 = .ok (.aload_n 0, 1) := q9_dX9_plan_230.2.1
theorem dX9_plan_234 : decode cX9_plan 234 = .ok (.getfield 219, 3) := q9_dX9_plan_230.2.2.1
theorem dX9_plan_237 : decode cX9_plan 237 = .ok (.iload 12, 2) := q9_dX9_plan_230.2.2.2.1
theorem dX9_plan_239 : decode cX9_plan 239 = .ok (.iadd, 1) := q9_dX9_plan_230.2.2.2.2.1
theorem dX9_plan_240 : decode cX9_plan 240 = .ok (.bipush 24, 2) := q9_dX9_plan_230.2.2.2.2.2.1
theorem dX9_plan_242 : decode cX9_plan 242 = .ok (.irem, 1) := q9_dX9_plan_230.2.2.2.2.2.2.1
theorem dX9_plan_243 : decode cX9_plan 243 = .ok (.iaload, 1) := q9_dX9_plan_230.2.2.2.2.2.2.2.1
theorem dX9_plan_244 : decode cX9_plan 244 = .ok (.imul, 1) := q9_dX9_plan_230.2.2.2.2.2.2.2.2.1
theorem dX9_plan_245 : decode cX9_plan 245 = .ok (.iadd, 1) := q9_dX9_plan_230.2.2.2.2.2.2.2.2.2
theorem q9_dX9_plan_246 : (decode cX9_plan 246 = .ok (.istore 9, 2)) ∧ (decode cX9_plan 248 = .ok (.iload 10, 2)) ∧ (decode cX9_plan 250 = .ok (.aload_n 0, 1)) ∧ (decode cX9_plan 251 = .ok (.getfield 124, 3)) ∧ (decode cX9_plan 254 = .ok (.iload 12, 2)) ∧ (decode cX9_plan 256 = .ok (.iaload, 1)) ∧ (decode cX9_plan 257 = .ok (.iadd, 1)) ∧ (decode cX9_plan 258 = .ok (.istore 10, 2)) ∧ (decode cX9_plan 260 = .ok (.aload_n 0, 1)) ∧ (decode cX9_plan 261 = .ok (.getfield 124, 3)) := by decide +kernel
theorem dX9_plan_246 : decode cX9_plan 246 = .ok (.istore 9, 2) := q9_dX9_plan_246.1
theorem dX9_plan_248 : decode cX9_plan 248 = .ok (.iload 10, 2) := q9_dX9_plan_246.2.1
theorem dX9_plan_250 : decode cX9_plan 250 = .ok (.aload_n 0, 1) := q9_dX9_plan_246.2.2.1
theorem dX9_plan_251 : decode cX9_plan 251 = .ok (.getfield 124, 3) := q9_dX9_plan_246.2.2.2.1
theorem dX9_plan_254 : decode cX9_plan 254 = .ok (.iload 12, 2) := q9_dX9_plan_246.2.2.2.2.1
theorem dX9_plan_256 : decode cX9_plan 256 = .ok (.iaload, 1) := q9_dX9_plan_246.2.2.2.2.2.1
theorem dX9_plan_257 : decode cX9_plan 257 = .ok (.iadd, 1) := q9_dX9_plan_246.2.2.2.2.2.2.1
theorem dX9_plan_258 : decode cX9_plan 258 = .ok (.istore 10, 2) := q9_dX9_plan_246.2.2.2.2.2.2.2.1
theorem dX9_plan_260 : decode cX9_plan 260 = .ok (.aload_n 0, 1) := q9_dX9_plan_246.2.2.2.2.2.2.2.2.1
theorem dX9_plan_261 : decode cX9_plan 261 = .ok (.getfield 124, 3) := q9_dX9_plan_246.2.2.2.2.2.2.2.2.2
theorem q9_dX9_plan_264 : (decode cX9_plan 264 = .ok (.iload 12, 2)) ∧ (decode cX9_plan 266 = .ok (.iaload, 1)) ∧ (decode cX9_plan 267 = .ok (.aload_n 0, 1)) ∧ (decode cX9_plan 268 = .ok (.getfield 39, 3)) ∧ (decode cX9_plan 271 = .ok (.if_icmp .gt 28, 3)) ∧ (decode cX9_plan 274 = .ok (.iload 8, 2)) ∧ (decode cX9_plan 276 = .ok (.aload_n 0, 1)) ∧ (decode cX9_plan 277 = .ok (.getfield 36, 3)) ∧ (decode cX9_plan 280 = .ok (.if_icmp .gt 19, 3)) ∧ (decode cX9_plan 283 = .ok (.iload 8, 2)) := by decide +kernel
theorem dX9_plan_264 : decode cX9_plan 264 = .ok (.iload 12, 2) := q9_dX9_plan_264.1
theorem dX9_plan_266 : decode cX9_plan 266 = .ok (.iaload, 1) := q9_dX9_plan_264.2.1
theorem dX9_plan_267 : decode cX9_plan 267 = .ok (.aload_n 0, 1) := q9_dX9_plan_264.2.2.1
theorem dX9_plan_268 : decode cX9_plan 268 = .ok (.getfield 39, 3) := q9_dX9_plan_264.2.2.2.1
theorem dX9_plan_271 : decode cX9_plan 271 = .ok (.if_icmp .gt 28, 3) := q9_dX9_plan_264.2.2.2.2.1
theorem dX9_plan_274 : decode cX9_plan 274 = .ok (.iload 8, 2) := q9_dX9_plan_264.2.2.2.2.2.1
theorem dX9_plan_276 : decode cX9_plan 276 = .ok (.aload_n 0, 1) := q9_dX9_plan_264.2.2.2.2.2.2.1
theorem dX9_plan_277 : decode cX9_plan 277 = .ok (.getfield 36, 3) := q9_dX9_plan_264.2.2.2.2.2.2.2.1
theorem dX9_plan_280 : decode cX9_plan 280 = .ok (.if_icmp .gt 19, 3) := q9_dX9_plan_264.2.2.2.2.2.2.2.2.1
theorem dX9_plan_283 : decode cX9_plan 283 = .ok (.iload 8, 2) := q9_dX9_plan_264.2.2.2.2.2.2.2.2.2
theorem q9_dX9_plan_285 : (decode cX9_plan 285 = .ok (.aload_n 0, 1)) ∧ (decode cX9_plan 286 = .ok (.getfield 121, 3)) ∧ (decode cX9_plan 289 = .ok (.iload 12, 2)) ∧ (decode cX9_plan 291 = .ok (.iaload, 1)) ∧ (decode cX9_plan 292 = .ok (.if_icmp .lt 7, 3)) ∧ (decode cX9_plan 295 = .ok (.iconst 1, 1)) ∧ (decode cX9_plan 296 = .ok (.goto 4, 3)) ∧ (decode cX9_plan 299 = .ok (.iconst 0, 1)) ∧ (decode cX9_plan 300 = .ok (.istore 11, 2)) ∧ (decode cX9_plan 302 = .ok (.iload 8, 2)) := by decide +kernel
theorem dX9_plan_285 : decode cX9_plan 285 = .ok (.aload_n 0, 1) := q9_dX9_plan_285.1
theorem dX9_plan_286 : decode cX9_plan 286 = .ok (.getfield 121, 3) := q9_dX9_plan_285.2.1
theorem dX9_plan_289 : decode cX9_plan 289 = .ok (.iload 12, 2) := q9_dX9_plan_285.2.2.1
theorem dX9_plan_291 : decode cX9_plan 291 = .ok (.iaload, 1) := q9_dX9_plan_285.2.2.2.1
theorem dX9_plan_292 : decode cX9_plan 292 = .ok (.if_icmp .lt 7, 3) := q9_dX9_plan_285.2.2.2.2.1
theorem dX9_plan_295 : decode cX9_plan 295 = .ok (.iconst 1, 1) := q9_dX9_plan_285.2.2.2.2.2.1
theorem dX9_plan_296 : decode cX9_plan 296 = .ok (.goto 4, 3) := q9_dX9_plan_285.2.2.2.2.2.2.1
theorem dX9_plan_299 : decode cX9_plan 299 = .ok (.iconst 0, 1) := q9_dX9_plan_285.2.2.2.2.2.2.2.1
theorem dX9_plan_300 : decode cX9_plan 300 = .ok (.istore 11, 2) := q9_dX9_plan_285.2.2.2.2.2.2.2.2.1
theorem dX9_plan_302 : decode cX9_plan 302 = .ok (.iload 8, 2) := q9_dX9_plan_285.2.2.2.2.2.2.2.2.2
theorem q9_dX9_plan_304 : (decode cX9_plan 304 = .ok (.aload_n 0, 1)) ∧ (decode cX9_plan 305 = .ok (.getfield 121, 3)) ∧ (decode cX9_plan 308 = .ok (.iload 12, 2)) ∧ (decode cX9_plan 310 = .ok (.iaload, 1)) ∧ (decode cX9_plan 311 = .ok (.isub, 1)) ∧ (decode cX9_plan 312 = .ok (.istore 8, 2)) ∧ (decode cX9_plan 314 = .ok (.iinc 12 1, 3)) ∧ (decode cX9_plan 317 = .ok (.goto (-123), 3)) ∧ (decode cX9_plan 320 = .ok (.iload 11, 2)) ∧ (decode cX9_plan 322 = .ok (.ifCond .eq 70, 3)) := by decide +kernel
theorem dX9_plan_304 : decode cX9_plan 304 = .ok (.aload_n 0, 1) := q9_dX9_plan_304.1
theorem dX9_plan_305 : decode cX9_plan 305 = .ok (.getfield 121, 3) := q9_dX9_plan_304.2.1
theorem dX9_plan_308 : decode cX9_plan 308 = .ok (.iload 12, 2) := q9_dX9_plan_304.2.2.1
theorem dX9_plan_310 : decode cX9_plan 310 = .ok (.iaload, 1) := q9_dX9_plan_304.2.2.2.1
theorem dX9_plan_311 : decode cX9_plan 311 = .ok (.isub, 1) := q9_dX9_plan_304.2.2.2.2.1
theorem dX9_plan_312 : decode cX9_plan 312 = .ok (.istore 8, 2) := q9_dX9_plan_304.2.2.2.2.2.1
theorem dX9_plan_314 : decode cX9_plan 314 = .ok (.iinc 12 1, 3) := q9_dX9_plan_304.2.2.2.2.2.2.1
theorem dX9_plan_317 : decode cX9_plan 317 = .ok (.goto (-123), 3) := q9_dX9_plan_304.2.2.2.2.2.2.2.1
theorem dX9_plan_320 : decode cX9_plan 320 = .ok (.iload 11, 2) := q9_dX9_plan_304.2.2.2.2.2.2.2.2.1
theorem dX9_plan_322 : decode cX9_plan 322 = .ok (.ifCond .eq 70, 3) := q9_dX9_plan_304.2.2.2.2.2.2.2.2.2
theorem q9_dX9_plan_325 : (decode cX9_plan 325 = .ok (.iload 4, 2)) ∧ (decode cX9_plan 327 = .ok (.iconst (-1), 1)) ∧ (decode cX9_plan 328 = .ok (.if_icmp .eq 27, 3)) ∧ (decode cX9_plan 331 = .ok (.iload 9, 2)) ∧ (decode cX9_plan 333 = .ok (.iload 4, 2)) ∧ (decode cX9_plan 335 = .ok (.if_icmp .gt 57, 3)) ∧ (decode cX9_plan 338 = .ok (.iload 9, 2)) ∧ (decode cX9_plan 340 = .ok (.iload 4, 2)) ∧ (decode cX9_plan 342 = .ok (.if_icmp .ne 13, 3)) ∧ (decode cX9_plan 345 = .ok (.iload 10, 2)) := by decide +kernel
theorem dX9_plan_325 : decode cX9_plan 325 = .ok (.iload 4, 2) := q9_dX9_plan_325.1
theorem dX9_plan_327 : decode cX9_plan 327 = .ok (.iconst (-1), 1) := q9_dX9_plan_325.2.1
theorem dX9_plan_328 : decode cX9_plan 328 = .ok (.if_icmp .eq 27, 3) := q9_dX9_plan_325.2.2.1
theorem dX9_plan_331 : decode cX9_plan 331 = .ok (.iload 9, 2) := q9_dX9_plan_325.2.2.2.1
theorem dX9_plan_333 : decode cX9_plan 333 = .ok (.iload 4, 2) := q9_dX9_plan_325.2.2.2.2.1
theorem dX9_plan_335 : decode cX9_plan 335 = .ok (.if_icmp .gt 57, 3) := q9_dX9_plan_325.2.2.2.2.2.1
theorem dX9_plan_338 : decode cX9_plan 338 = .ok (.iload 9, 2) := q9_dX9_plan_325.2.2.2.2.2.2.1
theorem dX9_plan_340 : decode cX9_plan 340 = .ok (.iload 4, 2) := q9_dX9_plan_325.2.2.2.2.2.2.2.1
theorem dX9_plan_342 : decode cX9_plan 342 = .ok (.if_icmp .ne 13, 3) := q9_dX9_plan_325.2.2.2.2.2.2.2.2.1
theorem dX9_plan_345 : decode cX9_plan 345 = .ok (.iload 10, 2) := q9_dX9_plan_325.2.2.2.2.2.2.2.2.2
theorem q9_dX9_plan_347 : (decode cX9_plan 347 = .ok (.iload 5, 2)) ∧ (decode cX9_plan 349 = .ok (.if_icmp .lt 6, 3)) ∧ (decode cX9_plan 352 = .ok (.goto 40, 3)) ∧ (decode cX9_plan 355 = .ok (.iload 9, 2)) ∧ (decode cX9_plan 357 = .ok (.istore 4, 2)) ∧ (decode cX9_plan 359 = .ok (.iload 10, 2)) ∧ (decode cX9_plan 361 = .ok (.istore 5, 2)) ∧ (decode cX9_plan 363 = .ok (.iconst 0, 1)) ∧ (decode cX9_plan 364 = .ok (.istore 12, 2)) ∧ (decode cX9_plan 366 = .ok (.iload 12, 2)) := by decide +kernel
theorem dX9_plan_347 : decode cX9_plan 347 = .ok (.iload 5, 2) := q9_dX9_plan_347.1
theorem dX9_plan_349 : decode cX9_plan 349 = .ok (.if_icmp .lt 6, 3) := q9_dX9_plan_347.2.1
theorem dX9_plan_352 : decode cX9_plan 352 = .ok (.goto 40, 3) := q9_dX9_plan_347.2.2.1
theorem dX9_plan_355 : decode cX9_plan 355 = .ok (.iload 9, 2) := q9_dX9_plan_347.2.2.2.1
theorem dX9_plan_357 : decode cX9_plan 357 = .ok (.istore 4, 2) := q9_dX9_plan_347.2.2.2.2.1
theorem dX9_plan_359 : decode cX9_plan 359 = .ok (.iload 10, 2) := q9_dX9_plan_347.2.2.2.2.2.1
theorem dX9_plan_361 : decode cX9_plan 361 = .ok (.istore 5, 2) := q9_dX9_plan_347.2.2.2.2.2.2.1
theorem dX9_plan_363 : decode cX9_plan 363 = .ok (.iconst 0, 1) := q9_dX9_plan_347.2.2.2.2.2.2.2.1
theorem dX9_plan_364 : decode cX9_plan 364 = .ok (.istore 12, 2) := q9_dX9_plan_347.2.2.2.2.2.2.2.2.1
theorem dX9_plan_366 : decode cX9_plan 366 = .ok (.iload 12, 2) := q9_dX9_plan_347.2.2.2.2.2.2.2.2.2
theorem q9_dX9_plan_368 : (decode cX9_plan 368 = .ok (.iload_n 1, 1)) ∧ (decode cX9_plan 369 = .ok (.if_icmp .ge 23, 3)) ∧ (decode cX9_plan 372 = .ok (.aload_n 0, 1)) ∧ (decode cX9_plan 373 = .ok (.getfield 127, 3)) ∧ (decode cX9_plan 376 = .ok (.iload 12, 2)) ∧ (decode cX9_plan 378 = .ok (.aload_n 0, 1)) ∧ (decode cX9_plan 379 = .ok (.getfield 124, 3)) ∧ (decode cX9_plan 382 = .ok (.iload 12, 2)) ∧ (decode cX9_plan 384 = .ok (.iaload, 1)) ∧ (decode cX9_plan 385 = .ok (.iastore, 1)) := by decide +kernel
theorem dX9_plan_368 : decode cX9_plan 368 = .ok (.iload_n 1, 1) := q9_dX9_plan_368.1
theorem dX9_plan_369 : decode cX9_plan 369 = .ok (.if_icmp .ge 23, 3) := q9_dX9_plan_368.2.1
theorem dX9_plan_372 : decode cX9_plan 372 = .ok (.aload_n 0, 1) := q9_dX9_plan_368.2.2.1
theorem dX9_plan_373 : decode cX9_plan 373 = .ok (.getfield 127, 3) := q9_dX9_plan_368.2.2.2.1
theorem dX9_plan_376 : decode cX9_plan 376 = .ok (.iload 12, 2) := q9_dX9_plan_368.2.2.2.2.1
theorem dX9_plan_378 : decode cX9_plan 378 = .ok (.aload_n 0, 1) := q9_dX9_plan_368.2.2.2.2.2.1
theorem dX9_plan_379 : decode cX9_plan 379 = .ok (.getfield 124, 3) := q9_dX9_plan_368.2.2.2.2.2.2.1
theorem dX9_plan_382 : decode cX9_plan 382 = .ok (.iload 12, 2) := q9_dX9_plan_368.2.2.2.2.2.2.2.1
theorem dX9_plan_384 : decode cX9_plan 384 = .ok (.iaload, 1) := q9_dX9_plan_368.2.2.2.2.2.2.2.2.1
theorem dX9_plan_385 : decode cX9_plan 385 = .ok (.iastore, 1) := q9_dX9_plan_368.2.2.2.2.2.2.2.2.2
theorem q9_dX9_plan_386 : (decode cX9_plan 386 = .ok (.iinc 12 1, 3)) ∧ (decode cX9_plan 389 = .ok (.goto (-23), 3)) ∧ (decode cX9_plan 392 = .ok (.iinc 6 1, 3)) ∧ (decode cX9_plan 395 = .ok (.goto (-262), 3)) ∧ (decode cX9_plan 398 = .ok (.iload 4, 2)) ∧ (decode cX9_plan 400 = .ok (.iconst (-1), 1)) ∧ (decode cX9_plan 401 = .ok (.if_icmp .ne 5, 3)) ∧ (decode cX9_plan 404 = .ok (.iconst (-1), 1)) ∧ (decode cX9_plan 405 = .ok (.ireturn, 1)) ∧ (decode cX9_plan 406 = .ok (.aload_n 0, 1)) := by decide +kernel
theorem dX9_plan_386 : decode cX9_plan 386 = .ok (.iinc 12 1, 3) := q9_dX9_plan_386.1
theorem dX9_plan_389 : decode cX9_plan 389 = .ok (.goto (-23), 3) := q9_dX9_plan_386.2.1
theorem dX9_plan_392 : decode cX9_plan 392 = .ok (.iinc 6 1, 3) := q9_dX9_plan_386.2.2.1
theorem dX9_plan_395 : decode cX9_plan 395 = .ok (.goto (-262), 3) := q9_dX9_plan_386.2.2.2.1
theorem dX9_plan_398 : decode cX9_plan 398 = .ok (.iload 4, 2) := q9_dX9_plan_386.2.2.2.2.1
theorem dX9_plan_400 : decode cX9_plan 400 = .ok (.iconst (-1), 1) := q9_dX9_plan_386.2.2.2.2.2.1
theorem dX9_plan_401 : decode cX9_plan 401 = .ok (.if_icmp .ne 5, 3) := q9_dX9_plan_386.2.2.2.2.2.2.1
theorem dX9_plan_404 : decode cX9_plan 404 = .ok (.iconst (-1), 1) := q9_dX9_plan_386.2.2.2.2.2.2.2.1
theorem dX9_plan_405 : decode cX9_plan 405 = .ok (.ireturn, 1) := q9_dX9_plan_386.2.2.2.2.2.2.2.2.1
theorem dX9_plan_406 : decode cX9_plan 406 = .ok (.aload_n 0, 1) := q9_dX9_plan_386.2.2.2.2.2.2.2.2.2
theorem q9_dX9_plan_407 : (decode cX9_plan 407 = .ok (.iload_n 1, 1)) ∧ (decode cX9_plan 408 = .ok (.putfield 284, 3)) ∧ (decode cX9_plan 411 = .ok (.iconst 0, 1)) ∧ (decode cX9_plan 412 = .ok (.istore 6, 2)) ∧ (decode cX9_plan 414 = .ok (.iload 6, 2)) ∧ (decode cX9_plan 416 = .ok (.iload_n 1, 1)) ∧ (decode cX9_plan 417 = .ok (.if_icmp .ge 23, 3)) ∧ (decode cX9_plan 420 = .ok (.aload_n 0, 1)) ∧ (decode cX9_plan 421 = .ok (.getfield 130, 3)) ∧ (decode cX9_plan 424 = .ok (.iload 6, 2)) := by decide +kernel
theorem dX9_plan_407 : decode cX9_plan 407 = .ok (.iload_n 1, 1) := q9_dX9_plan_407.1
theorem dX9_plan_408 : decode cX9_plan 408 = .ok (.putfield 284, 3) := q9_dX9_plan_407.2.1
theorem dX9_plan_411 : decode cX9_plan 411 = .ok (.iconst 0, 1) := q9_dX9_plan_407.2.2.1
theorem dX9_plan_412 : decode cX9_plan 412 = .ok (.istore 6, 2) := q9_dX9_plan_407.2.2.2.1
theorem dX9_plan_414 : decode cX9_plan 414 = .ok (.iload 6, 2) := q9_dX9_plan_407.2.2.2.2.1
theorem dX9_plan_416 : decode cX9_plan 416 = .ok (.iload_n 1, 1) := q9_dX9_plan_407.2.2.2.2.2.1
theorem dX9_plan_417 : decode cX9_plan 417 = .ok (.if_icmp .ge 23, 3) := q9_dX9_plan_407.2.2.2.2.2.2.1
theorem dX9_plan_420 : decode cX9_plan 420 = .ok (.aload_n 0, 1) := q9_dX9_plan_407.2.2.2.2.2.2.2.1
theorem dX9_plan_421 : decode cX9_plan 421 = .ok (.getfield 130, 3) := q9_dX9_plan_407.2.2.2.2.2.2.2.2.1
theorem dX9_plan_424 : decode cX9_plan 424 = .ok (.iload 6, 2) := q9_dX9_plan_407.2.2.2.2.2.2.2.2.2
theorem q9_dX9_plan_426 : (decode cX9_plan 426 = .ok (.aload_n 0, 1)) ∧ (decode cX9_plan 427 = .ok (.getfield 127, 3)) ∧ (decode cX9_plan 430 = .ok (.iload 6, 2)) ∧ (decode cX9_plan 432 = .ok (.iaload, 1)) ∧ (decode cX9_plan 433 = .ok (.iastore, 1)) ∧ (decode cX9_plan 434 = .ok (.iinc 6 1, 3)) ∧ (decode cX9_plan 437 = .ok (.goto (-23), 3)) ∧ (decode cX9_plan 440 = .ok (.iload 4, 2)) ∧ (decode cX9_plan 442 = .ok (.ireturn, 1)) ∧ (decode cX9_planned 0 = .ok (.iload_n 1, 1)) := by decide +kernel
theorem dX9_plan_426 : decode cX9_plan 426 = .ok (.aload_n 0, 1) := q9_dX9_plan_426.1
theorem dX9_plan_427 : decode cX9_plan 427 = .ok (.getfield 127, 3) := q9_dX9_plan_426.2.1
theorem dX9_plan_430 : decode cX9_plan 430 = .ok (.iload 6, 2) := q9_dX9_plan_426.2.2.1
theorem dX9_plan_432 : decode cX9_plan 432 = .ok (.iaload, 1) := q9_dX9_plan_426.2.2.2.1
theorem dX9_plan_433 : decode cX9_plan 433 = .ok (.iastore, 1) := q9_dX9_plan_426.2.2.2.2.1
theorem dX9_plan_434 : decode cX9_plan 434 = .ok (.iinc 6 1, 3) := q9_dX9_plan_426.2.2.2.2.2.1
theorem dX9_plan_437 : decode cX9_plan 437 = .ok (.goto (-23), 3) := q9_dX9_plan_426.2.2.2.2.2.2.1
theorem dX9_plan_440 : decode cX9_plan 440 = .ok (.iload 4, 2) := q9_dX9_plan_426.2.2.2.2.2.2.2.1
theorem dX9_plan_442 : decode cX9_plan 442 = .ok (.ireturn, 1) := q9_dX9_plan_426.2.2.2.2.2.2.2.2.1
theorem dX9_planned_0 : decode cX9_planned 0 = .ok (.iload_n 1, 1) := q9_dX9_plan_426.2.2.2.2.2.2.2.2.2
theorem q9_dX9_planned_1 : (decode cX9_planned 1 = .ok (.ifCond .lt 20, 3)) ∧ (decode cX9_planned 4 = .ok (.iload_n 1, 1)) ∧ (decode cX9_planned 5 = .ok (.aload_n 0, 1)) ∧ (decode cX9_planned 6 = .ok (.getfield 284, 3)) ∧ (decode cX9_planned 9 = .ok (.if_icmp .ge 12, 3)) ∧ (decode cX9_planned 12 = .ok (.aload_n 0, 1)) ∧ (decode cX9_planned 13 = .ok (.getfield 130, 3)) ∧ (decode cX9_planned 16 = .ok (.iload_n 1, 1)) ∧ (decode cX9_planned 17 = .ok (.iaload, 1)) ∧ (decode cX9_planned 18 = .ok (.goto 4, 3)) := by decide +kernel
theorem dX9_planned_1 : decode cX9_planned 1 = .ok (.ifCond .lt 20, 3) := q9_dX9_planned_1.1
theorem dX9_planned_4 : decode cX9_planned 4 = .ok (.iload_n 1, 1) := q9_dX9_planned_1.2.1
theorem dX9_planned_5 : decode cX9_planned 5 = .ok (.aload_n 0, 1) := q9_dX9_planned_1.2.2.1
theorem dX9_planned_6 : decode cX9_planned 6 = .ok (.getfield 284, 3) := q9_dX9_planned_1.2.2.2.1
theorem dX9_planned_9 : decode cX9_planned 9 = .ok (.if_icmp .ge 12, 3) := q9_dX9_planned_1.2.2.2.2.1
theorem dX9_planned_12 : decode cX9_planned 12 = .ok (.aload_n 0, 1) := q9_dX9_planned_1.2.2.2.2.2.1
theorem dX9_planned_13 : decode cX9_planned 13 = .ok (.getfield 130, 3) := q9_dX9_planned_1.2.2.2.2.2.2.1
theorem dX9_planned_16 : decode cX9_planned 16 = .ok (.iload_n 1, 1) := q9_dX9_planned_1.2.2.2.2.2.2.2.1
theorem dX9_planned_17 : decode cX9_planned 17 = .ok (.iaload, 1) := q9_dX9_planned_1.2.2.2.2.2.2.2.2.1
theorem dX9_planned_18 : decode cX9_planned 18 = .ok (.goto 4, 3) := q9_dX9_planned_1.2.2.2.2.2.2.2.2.2
theorem q9_dX9_planned_21 : (decode cX9_planned 21 = .ok (.iconst (-1), 1)) ∧ (decode cX9_planned 22 = .ok (.ireturn, 1)) ∧ (decode cX9_inState 0 = .ok (.iconst 0, 1)) ∧ (decode cX9_inState 1 = .ok (.istore_n 3, 1)) ∧ (decode cX9_inState 2 = .ok (.iconst 0, 1)) ∧ (decode cX9_inState 3 = .ok (.istore 4, 2)) ∧ (decode cX9_inState 5 = .ok (.iload 4, 2)) ∧ (decode cX9_inState 7 = .ok (.aload_n 0, 1)) ∧ (decode cX9_inState 8 = .ok (.getfield 205, 3)) ∧ (decode cX9_inState 11 = .ok (.if_icmp .ge 39, 3)) := by decide +kernel
theorem dX9_planned_21 : decode cX9_planned 21 = .ok (.iconst (-1), 1) := q9_dX9_planned_21.1
theorem dX9_planned_22 : decode cX9_planned 22 = .ok (.ireturn, 1) := q9_dX9_planned_21.2.1
theorem dX9_inState_0 : decode cX9_inState 0 = .ok (.iconst 0, 1) := q9_dX9_planned_21.2.2.1
theorem dX9_inState_1 : decode cX9_inState 1 = .ok (.istore_n 3, 1) := q9_dX9_planned_21.2.2.2.1
theorem dX9_inState_2 : decode cX9_inState 2 = .ok (.iconst 0, 1) := q9_dX9_planned_21.2.2.2.2.1
theorem dX9_inState_3 : decode cX9_inState 3 = .ok (.istore 4, 2) := q9_dX9_planned_21.2.2.2.2.2.1
theorem dX9_inState_5 : decode cX9_inState 5 = .ok (.iload 4, 2) := q9_dX9_planned_21.2.2.2.2.2.2.1
theorem dX9_inState_7 : decode cX9_inState 7 = .ok (.aload_n 0, 1) := q9_dX9_planned_21.2.2.2.2.2.2.2.1
theorem dX9_inState_8 : decode cX9_inState 8 = .ok (.getfield 205, 3) := q9_dX9_planned_21.2.2.2.2.2.2.2.2.1
theorem dX9_inState_11 : decode cX9_inState 11 = .ok (.if_icmp .ge 39, 3) := q9_dX9_planned_21.2.2.2.2.2.2.2.2.2
theorem q9_dX9_inState_14 : (decode cX9_inState 14 = .ok (.iload_n 3, 1)) ∧ (decode cX9_inState 15 = .ok (.aload_n 0, 1)) ∧ (decode cX9_inState 16 = .ok (.getfield 73, 3)) ∧ (decode cX9_inState 19 = .ok (.iload 4, 2)) ∧ (decode cX9_inState 21 = .ok (.iaload, 1)) ∧ (decode cX9_inState 22 = .ok (.iload_n 1, 1)) ∧ (decode cX9_inState 23 = .ok (.if_icmp .ne 18, 3)) ∧ (decode cX9_inState 26 = .ok (.aload_n 0, 1)) ∧ (decode cX9_inState 27 = .ok (.getfield 85, 3)) ∧ (decode cX9_inState 30 = .ok (.iload 4, 2)) := by decide +kernel
theorem dX9_inState_14 : decode cX9_inState 14 = .ok (.iload_n 3, 1) := q9_dX9_inState_14.1
theorem dX9_inState_15 : decode cX9_inState 15 = .ok (.aload_n 0, 1) := q9_dX9_inState_14.2.1
theorem dX9_inState_16 : decode cX9_inState 16 = .ok (.getfield 73, 3) := q9_dX9_inState_14.2.2.1
theorem dX9_inState_19 : decode cX9_inState 19 = .ok (.iload 4, 2) := q9_dX9_inState_14.2.2.2.1
theorem dX9_inState_21 : decode cX9_inState 21 = .ok (.iaload, 1) := q9_dX9_inState_14.2.2.2.2.1
theorem dX9_inState_22 : decode cX9_inState 22 = .ok (.iload_n 1, 1) := q9_dX9_inState_14.2.2.2.2.2.1
theorem dX9_inState_23 : decode cX9_inState 23 = .ok (.if_icmp .ne 18, 3) := q9_dX9_inState_14.2.2.2.2.2.2.1
theorem dX9_inState_26 : decode cX9_inState 26 = .ok (.aload_n 0, 1) := q9_dX9_inState_14.2.2.2.2.2.2.2.1
theorem dX9_inState_27 : decode cX9_inState 27 = .ok (.getfield 85, 3) := q9_dX9_inState_14.2.2.2.2.2.2.2.2.1
theorem dX9_inState_30 : decode cX9_inState 30 = .ok (.iload 4, 2) := q9_dX9_inState_14.2.2.2.2.2.2.2.2.2
theorem q9_dX9_inState_32 : (decode cX9_inState 32 = .ok (.iaload, 1)) ∧ (decode cX9_inState 33 = .ok (.iload_n 2, 1)) ∧ (decode cX9_inState 34 = .ok (.if_icmp .ne 7, 3)) ∧ (decode cX9_inState 37 = .ok (.iconst 1, 1)) ∧ (decode cX9_inState 38 = .ok (.goto 4, 3)) ∧ (decode cX9_inState 41 = .ok (.iconst 0, 1)) ∧ (decode cX9_inState 42 = .ok (.iadd, 1)) ∧ (decode cX9_inState 43 = .ok (.istore_n 3, 1)) ∧ (decode cX9_inState 44 = .ok (.iinc 4 1, 3)) ∧ (decode cX9_inState 47 = .ok (.goto (-42), 3)) := by decide +kernel
theorem dX9_inState_32 : decode cX9_inState 32 = .ok (.iaload, 1) := q9_dX9_inState_32.1
theorem dX9_inState_33 : decode cX9_inState 33 = .ok (.iload_n 2, 1) := q9_dX9_inState_32.2.1
theorem dX9_inState_34 : decode cX9_inState 34 = .ok (.if_icmp .ne 7, 3) := q9_dX9_inState_32.2.2.1
theorem dX9_inState_37 : decode cX9_inState 37 = .ok (.iconst 1, 1) := q9_dX9_inState_32.2.2.2.1
theorem dX9_inState_38 : decode cX9_inState 38 = .ok (.goto 4, 3) := q9_dX9_inState_32.2.2.2.2.1
theorem dX9_inState_41 : decode cX9_inState 41 = .ok (.iconst 0, 1) := q9_dX9_inState_32.2.2.2.2.2.1
theorem dX9_inState_42 : decode cX9_inState 42 = .ok (.iadd, 1) := q9_dX9_inState_32.2.2.2.2.2.2.1
theorem dX9_inState_43 : decode cX9_inState 43 = .ok (.istore_n 3, 1) := q9_dX9_inState_32.2.2.2.2.2.2.2.1
theorem dX9_inState_44 : decode cX9_inState 44 = .ok (.iinc 4 1, 3) := q9_dX9_inState_32.2.2.2.2.2.2.2.2.1
theorem dX9_inState_47 : decode cX9_inState 47 = .ok (.goto (-42), 3) := q9_dX9_inState_32.2.2.2.2.2.2.2.2.2
theorem q9_dX9_inState_50 : (decode cX9_inState 50 = .ok (.iload_n 3, 1)) ∧ (decode cX9_inState 51 = .ok (.ireturn, 1)) ∧ (decode cX9_owes 0 = .ok (.aload_n 0, 1)) ∧ (decode cX9_owes 1 = .ok (.getfield 85, 3)) ∧ (decode cX9_owes 4 = .ok (.iload_n 1, 1)) ∧ (decode cX9_owes 5 = .ok (.iaload, 1)) ∧ (decode cX9_owes 6 = .ok (.iconst 1, 1)) ∧ (decode cX9_owes 7 = .ok (.if_icmp .ne 12, 3)) ∧ (decode cX9_owes 10 = .ok (.aload_n 0, 1)) ∧ (decode cX9_owes 11 = .ok (.getfield 91, 3)) := by decide +kernel
theorem dX9_inState_50 : decode cX9_inState 50 = .ok (.iload_n 3, 1) := q9_dX9_inState_50.1
theorem dX9_inState_51 : decode cX9_inState 51 = .ok (.ireturn, 1) := q9_dX9_inState_50.2.1
theorem dX9_owes_0 : decode cX9_owes 0 = .ok (.aload_n 0, 1) := q9_dX9_inState_50.2.2.1
theorem dX9_owes_1 : decode cX9_owes 1 = .ok (.getfield 85, 3) := q9_dX9_inState_50.2.2.2.1
theorem dX9_owes_4 : decode cX9_owes 4 = .ok (.iload_n 1, 1) := q9_dX9_inState_50.2.2.2.2.1
theorem dX9_owes_5 : decode cX9_owes 5 = .ok (.iaload, 1) := q9_dX9_inState_50.2.2.2.2.2.1
theorem dX9_owes_6 : decode cX9_owes 6 = .ok (.iconst 1, 1) := q9_dX9_inState_50.2.2.2.2.2.2.1
theorem dX9_owes_7 : decode cX9_owes 7 = .ok (.if_icmp .ne 12, 3) := q9_dX9_inState_50.2.2.2.2.2.2.2.1
theorem dX9_owes_10 : decode cX9_owes 10 = .ok (.aload_n 0, 1) := q9_dX9_inState_50.2.2.2.2.2.2.2.2.1
theorem dX9_owes_11 : decode cX9_owes 11 = .ok (.getfield 91, 3) := q9_dX9_inState_50.2.2.2.2.2.2.2.2.2
theorem q9_dX9_owes_14 : (decode cX9_owes 14 = .ok (.iload_n 1, 1)) ∧ (decode cX9_owes 15 = .ok (.iaload, 1)) ∧ (decode cX9_owes 16 = .ok (.goto 33, 3)) ∧ (decode cX9_owes 19 = .ok (.aload_n 0, 1)) ∧ (decode cX9_owes 20 = .ok (.getfield 85, 3)) ∧ (decode cX9_owes 23 = .ok (.iload_n 1, 1)) ∧ (decode cX9_owes 24 = .ok (.iaload, 1)) ∧ (decode cX9_owes 25 = .ok (.iconst 3, 1)) ∧ (decode cX9_owes 26 = .ok (.if_icmp .ne 22, 3)) ∧ (decode cX9_owes 29 = .ok (.aload_n 0, 1)) := by decide +kernel
theorem dX9_owes_14 : decode cX9_owes 14 = .ok (.iload_n 1, 1) := q9_dX9_owes_14.1
theorem dX9_owes_15 : decode cX9_owes 15 = .ok (.iaload, 1) := q9_dX9_owes_14.2.1
theorem dX9_owes_16 : decode cX9_owes 16 = .ok (.goto 33, 3) := q9_dX9_owes_14.2.2.1
theorem dX9_owes_19 : decode cX9_owes 19 = .ok (.aload_n 0, 1) := q9_dX9_owes_14.2.2.2.1
theorem dX9_owes_20 : decode cX9_owes 20 = .ok (.getfield 85, 3) := q9_dX9_owes_14.2.2.2.2.1
theorem dX9_owes_23 : decode cX9_owes 23 = .ok (.iload_n 1, 1) := q9_dX9_owes_14.2.2.2.2.2.1
theorem dX9_owes_24 : decode cX9_owes 24 = .ok (.iaload, 1) := q9_dX9_owes_14.2.2.2.2.2.2.1
theorem dX9_owes_25 : decode cX9_owes 25 = .ok (.iconst 3, 1) := q9_dX9_owes_14.2.2.2.2.2.2.2.1
theorem dX9_owes_26 : decode cX9_owes 26 = .ok (.if_icmp .ne 22, 3) := q9_dX9_owes_14.2.2.2.2.2.2.2.2.1
theorem dX9_owes_29 : decode cX9_owes 29 = .ok (.aload_n 0, 1) := q9_dX9_owes_14.2.2.2.2.2.2.2.2.2
theorem q9_dX9_owes_30 : (decode cX9_owes 30 = .ok (.getfield 91, 3)) ∧ (decode cX9_owes 33 = .ok (.iload_n 1, 1)) ∧ (decode cX9_owes 34 = .ok (.iaload, 1)) ∧ (decode cX9_owes 35 = .ok (.aload_n 0, 1)) ∧ (decode cX9_owes 36 = .ok (.getfield 94, 3)) ∧ (decode cX9_owes 39 = .ok (.iload_n 1, 1)) ∧ (decode cX9_owes 40 = .ok (.iaload, 1)) ∧ (decode cX9_owes 41 = .ok (.imul, 1)) ∧ (decode cX9_owes 42 = .ok (.bipush 100, 2)) ∧ (decode cX9_owes 44 = .ok (.idiv, 1)) := by decide +kernel
theorem dX9_owes_30 : decode cX9_owes 30 = .ok (.getfield 91, 3) := q9_dX9_owes_30.1
theorem dX9_owes_33 : decode cX9_owes 33 = .ok (.iload_n 1, 1) := q9_dX9_owes_30.2.1
theorem dX9_owes_34 : decode cX9_owes 34 = .ok (.iaload, 1) := q9_dX9_owes_30.2.2.1
theorem dX9_owes_35 : decode cX9_owes 35 = .ok (.aload_n 0, 1) := q9_dX9_owes_30.2.2.2.1
theorem dX9_owes_36 : decode cX9_owes 36 = .ok (.getfield 94, 3) := q9_dX9_owes_30.2.2.2.2.1
theorem dX9_owes_39 : decode cX9_owes 39 = .ok (.iload_n 1, 1) := q9_dX9_owes_30.2.2.2.2.2.1
theorem dX9_owes_40 : decode cX9_owes 40 = .ok (.iaload, 1) := q9_dX9_owes_30.2.2.2.2.2.2.1
theorem dX9_owes_41 : decode cX9_owes 41 = .ok (.imul, 1) := q9_dX9_owes_30.2.2.2.2.2.2.2.1
theorem dX9_owes_42 : decode cX9_owes 42 = .ok (.bipush 100, 2) := q9_dX9_owes_30.2.2.2.2.2.2.2.2.1
theorem dX9_owes_44 : decode cX9_owes 44 = .ok (.idiv, 1) := q9_dX9_owes_30.2.2.2.2.2.2.2.2.2
theorem q9_dX9_owes_45 : (decode cX9_owes 45 = .ok (.goto 4, 3)) ∧ (decode cX9_owes 48 = .ok (.iconst 0, 1)) ∧ (decode cX9_owes 49 = .ok (.ireturn, 1)) := by decide +kernel
theorem dX9_owes_45 : decode cX9_owes 45 = .ok (.goto 4, 3) := q9_dX9_owes_45.1
theorem dX9_owes_48 : decode cX9_owes 48 = .ok (.iconst 0, 1) := q9_dX9_owes_45.2.1
theorem dX9_owes_49 : decode cX9_owes 49 = .ok (.ireturn, 1) := q9_dX9_owes_45.2.2
set_option maxRecDepth 20000 in
theorem ggX9_part_X9_isClub : GoodIn wsX9_part wsX9_isClub := goodIn_r _ [8] rfl (by decide +kernel)
set_option maxRecDepth 20000 in
theorem gX9_part_X9_isClub : GoodIn wsX9_part (va_wsS RX9 212 yX9_isClub wsX9_isClub) := goodIn_app (goodIn_of _ (by decide +kernel)) ggX9_part_X9_isClub
set_option maxRecDepth 20000 in
theorem ggX9_part_X9_inState : GoodIn wsX9_part wsX9_inState := goodIn_r _ [12, 13, 14, 15, 16, 17, 18, 19, 20, 21, 22, 23, 24, 25, 26, 27, 28, 29, 30, 31, 32, 33, 34, 35, 36, 37, 38, 39, 40, 41, 42, 43, 44, 45, 46, 47, 48, 49, 50, 51, 52, 53, 54, 55, 56, 57, 58, 59, 60, 61, 62, 63, 64, 65, 66, 67, 68, 69, 70, 71, 72, 73, 74, 75, 76, 77, 78] rfl (by decide +kernel)
set_option maxRecDepth 20000 in
theorem gX9_part_X9_inState : GoodIn wsX9_part (wsV RX9 288 RX9 yX9_inState wsX9_inState) := goodIn_app (goodIn_of _ (by decide +kernel)) ggX9_part_X9_inState
theorem q9_dX9_part_0 : (decode cX9_part 0 = .ok (.iload_n 1, 1)) ∧ (decode cX9_part 1 = .ok (.invokestatic 212, 3)) ∧ (decode cX9_part 4 = .ok (.ifCond .eq 14, 3)) ∧ (decode cX9_part 7 = .ok (.iload_n 2, 1)) ∧ (decode cX9_part 8 = .ok (.ifCond .lt 10, 3)) ∧ (decode cX9_part 11 = .ok (.iload_n 2, 1)) ∧ (decode cX9_part 12 = .ok (.ldc_w 287, 3)) ∧ (decode cX9_part 15 = .ok (.if_icmp .le 5, 3)) ∧ (decode cX9_part 18 = .ok (.iconst (-1), 1)) ∧ (decode cX9_part 19 = .ok (.ireturn, 1)) := by decide +kernel
theorem dX9_part_0 : decode cX9_part 0 = .ok (.iload_n 1, 1) := q9_dX9_part_0.1
theorem dX9_part_1 : decode cX9_part 1 = .ok (.invokestatic 212, 3) := q9_dX9_part_0.2.1
theorem dX9_part_4 : decode cX9_part 4 = .ok (.ifCond .eq 14, 3) := q9_dX9_part_0.2.2.1
theorem dX9_part_7 : decode cX9_part 7 = .ok (.iload_n 2, 1) := q9_dX9_part_0.2.2.2.1
theorem dX9_part_8 : decode cX9_part 8 = .ok (.ifCond .lt 10, 3) := q9_dX9_part_0.2.2.2.2.1
theorem dX9_part_11 : decode cX9_part 11 = .ok (.iload_n 2, 1) := q9_dX9_part_0.2.2.2.2.2.1
theorem dX9_part_12 : decode cX9_part 12 = .ok (.ldc_w 287, 3) := q9_dX9_part_0.2.2.2.2.2.2.1
theorem dX9_part_15 : decode cX9_part 15 = .ok (.if_icmp .le 5, 3) := q9_dX9_part_0.2.2.2.2.2.2.2.1
theorem dX9_part_18 : decode cX9_part 18 = .ok (.iconst (-1), 1) := q9_dX9_part_0.2.2.2.2.2.2.2.2.1
theorem dX9_part_19 : decode cX9_part 19 = .ok (.ireturn, 1) := q9_dX9_part_0.2.2.2.2.2.2.2.2.2
theorem q9_dX9_part_20 : (decode cX9_part 20 = .ok (.iconst 0, 1)) ∧ (decode cX9_part 21 = .ok (.istore_n 3, 1)) ∧ (decode cX9_part 22 = .ok (.iconst 0, 1)) ∧ (decode cX9_part 23 = .ok (.istore 4, 2)) ∧ (decode cX9_part 25 = .ok (.iload 4, 2)) ∧ (decode cX9_part 27 = .ok (.bipush 6, 2)) ∧ (decode cX9_part 29 = .ok (.if_icmp .ge 19, 3)) ∧ (decode cX9_part 32 = .ok (.iload_n 3, 1)) ∧ (decode cX9_part 33 = .ok (.aload_n 0, 1)) ∧ (decode cX9_part 34 = .ok (.iload 4, 2)) := by decide +kernel
theorem dX9_part_20 : decode cX9_part 20 = .ok (.iconst 0, 1) := q9_dX9_part_20.1
theorem dX9_part_21 : decode cX9_part 21 = .ok (.istore_n 3, 1) := q9_dX9_part_20.2.1
theorem dX9_part_22 : decode cX9_part 22 = .ok (.iconst 0, 1) := q9_dX9_part_20.2.2.1
theorem dX9_part_23 : decode cX9_part 23 = .ok (.istore 4, 2) := q9_dX9_part_20.2.2.2.1
theorem dX9_part_25 : decode cX9_part 25 = .ok (.iload 4, 2) := q9_dX9_part_20.2.2.2.2.1
theorem dX9_part_27 : decode cX9_part 27 = .ok (.bipush 6, 2) := q9_dX9_part_20.2.2.2.2.2.1
theorem dX9_part_29 : decode cX9_part 29 = .ok (.if_icmp .ge 19, 3) := q9_dX9_part_20.2.2.2.2.2.2.1
theorem dX9_part_32 : decode cX9_part 32 = .ok (.iload_n 3, 1) := q9_dX9_part_20.2.2.2.2.2.2.2.1
theorem dX9_part_33 : decode cX9_part 33 = .ok (.aload_n 0, 1) := q9_dX9_part_20.2.2.2.2.2.2.2.2.1
theorem dX9_part_34 : decode cX9_part 34 = .ok (.iload 4, 2) := q9_dX9_part_20.2.2.2.2.2.2.2.2.2
theorem q9_dX9_part_36 : (decode cX9_part 36 = .ok (.iconst 1, 1)) ∧ (decode cX9_part 37 = .ok (.invokevirtual 288, 3)) ∧ (decode cX9_part 40 = .ok (.iadd, 1)) ∧ (decode cX9_part 41 = .ok (.istore_n 3, 1)) ∧ (decode cX9_part 42 = .ok (.iinc 4 1, 3)) ∧ (decode cX9_part 45 = .ok (.goto (-20), 3)) ∧ (decode cX9_part 48 = .ok (.iload_n 3, 1)) ∧ (decode cX9_part 49 = .ok (.ifCond .ne 5, 3)) ∧ (decode cX9_part 52 = .ok (.iconst (-1), 1)) ∧ (decode cX9_part 53 = .ok (.ireturn, 1)) := by decide +kernel
theorem dX9_part_36 : decode cX9_part 36 = .ok (.iconst 1, 1) := q9_dX9_part_36.1
theorem dX9_part_37 : decode cX9_part 37 = .ok (.invokevirtual 288, 3) := q9_dX9_part_36.2.1
theorem dX9_part_40 : decode cX9_part 40 = .ok (.iadd, 1) := q9_dX9_part_36.2.2.1
theorem dX9_part_41 : decode cX9_part 41 = .ok (.istore_n 3, 1) := q9_dX9_part_36.2.2.2.1
theorem dX9_part_42 : decode cX9_part 42 = .ok (.iinc 4 1, 3) := q9_dX9_part_36.2.2.2.2.1
theorem dX9_part_45 : decode cX9_part 45 = .ok (.goto (-20), 3) := q9_dX9_part_36.2.2.2.2.2.1
theorem dX9_part_48 : decode cX9_part 48 = .ok (.iload_n 3, 1) := q9_dX9_part_36.2.2.2.2.2.2.1
theorem dX9_part_49 : decode cX9_part 49 = .ok (.ifCond .ne 5, 3) := q9_dX9_part_36.2.2.2.2.2.2.2.1
theorem dX9_part_52 : decode cX9_part 52 = .ok (.iconst (-1), 1) := q9_dX9_part_36.2.2.2.2.2.2.2.2.1
theorem dX9_part_53 : decode cX9_part 53 = .ok (.ireturn, 1) := q9_dX9_part_36.2.2.2.2.2.2.2.2.2
theorem q9_dX9_part_54 : (decode cX9_part 54 = .ok (.iload_n 2, 1)) ∧ (decode cX9_part 55 = .ok (.istore 4, 2)) ∧ (decode cX9_part 57 = .ok (.iconst 0, 1)) ∧ (decode cX9_part 58 = .ok (.istore 5, 2)) ∧ (decode cX9_part 60 = .ok (.iload 5, 2)) ∧ (decode cX9_part 62 = .ok (.bipush 6, 2)) ∧ (decode cX9_part 64 = .ok (.if_icmp .ge 59, 3)) ∧ (decode cX9_part 67 = .ok (.iload_n 2, 1)) ∧ (decode cX9_part 68 = .ok (.i2l, 1)) ∧ (decode cX9_part 69 = .ok (.aload_n 0, 1)) := by decide +kernel
theorem dX9_part_54 : decode cX9_part 54 = .ok (.iload_n 2, 1) := q9_dX9_part_54.1
theorem dX9_part_55 : decode cX9_part 55 = .ok (.istore 4, 2) := q9_dX9_part_54.2.1
theorem dX9_part_57 : decode cX9_part 57 = .ok (.iconst 0, 1) := q9_dX9_part_54.2.2.1
theorem dX9_part_58 : decode cX9_part 58 = .ok (.istore 5, 2) := q9_dX9_part_54.2.2.2.1
theorem dX9_part_60 : decode cX9_part 60 = .ok (.iload 5, 2) := q9_dX9_part_54.2.2.2.2.1
theorem dX9_part_62 : decode cX9_part 62 = .ok (.bipush 6, 2) := q9_dX9_part_54.2.2.2.2.2.1
theorem dX9_part_64 : decode cX9_part 64 = .ok (.if_icmp .ge 59, 3) := q9_dX9_part_54.2.2.2.2.2.2.1
theorem dX9_part_67 : decode cX9_part 67 = .ok (.iload_n 2, 1) := q9_dX9_part_54.2.2.2.2.2.2.2.1
theorem dX9_part_68 : decode cX9_part 68 = .ok (.i2l, 1) := q9_dX9_part_54.2.2.2.2.2.2.2.2.1
theorem dX9_part_69 : decode cX9_part 69 = .ok (.aload_n 0, 1) := q9_dX9_part_54.2.2.2.2.2.2.2.2.2
theorem q9_dX9_part_70 : (decode cX9_part 70 = .ok (.iload 5, 2)) ∧ (decode cX9_part 72 = .ok (.iconst 1, 1)) ∧ (decode cX9_part 73 = .ok (.invokevirtual 288, 3)) ∧ (decode cX9_part 76 = .ok (.i2l, 1)) ∧ (decode cX9_part 77 = .ok (.lmul, 1)) ∧ (decode cX9_part 78 = .ok (.lstore 6, 2)) ∧ (decode cX9_part 80 = .ok (.aload_n 0, 1)) ∧ (decode cX9_part 81 = .ok (.getfield 133, 3)) ∧ (decode cX9_part 84 = .ok (.iload 5, 2)) ∧ (decode cX9_part 86 = .ok (.lload 6, 2)) := by decide +kernel
theorem dX9_part_70 : decode cX9_part 70 = .ok (.iload 5, 2) := q9_dX9_part_70.1
theorem dX9_part_72 : decode cX9_part 72 = .ok (.iconst 1, 1) := q9_dX9_part_70.2.1
theorem dX9_part_73 : decode cX9_part 73 = .ok (.invokevirtual 288, 3) := q9_dX9_part_70.2.2.1
theorem dX9_part_76 : decode cX9_part 76 = .ok (.i2l, 1) := q9_dX9_part_70.2.2.2.1
theorem dX9_part_77 : decode cX9_part 77 = .ok (.lmul, 1) := q9_dX9_part_70.2.2.2.2.1
theorem dX9_part_78 : decode cX9_part 78 = .ok (.lstore 6, 2) := q9_dX9_part_70.2.2.2.2.2.1
theorem dX9_part_80 : decode cX9_part 80 = .ok (.aload_n 0, 1) := q9_dX9_part_70.2.2.2.2.2.2.1
theorem dX9_part_81 : decode cX9_part 81 = .ok (.getfield 133, 3) := q9_dX9_part_70.2.2.2.2.2.2.2.1
theorem dX9_part_84 : decode cX9_part 84 = .ok (.iload 5, 2) := q9_dX9_part_70.2.2.2.2.2.2.2.2.1
theorem dX9_part_86 : decode cX9_part 86 = .ok (.lload 6, 2) := q9_dX9_part_70.2.2.2.2.2.2.2.2.2
theorem q9_dX9_part_88 : (decode cX9_part 88 = .ok (.iload_n 3, 1)) ∧ (decode cX9_part 89 = .ok (.i2l, 1)) ∧ (decode cX9_part 90 = .ok (.ldiv, 1)) ∧ (decode cX9_part 91 = .ok (.l2i, 1)) ∧ (decode cX9_part 92 = .ok (.iastore, 1)) ∧ (decode cX9_part 93 = .ok (.aload_n 0, 1)) ∧ (decode cX9_part 94 = .ok (.getfield 136, 3)) ∧ (decode cX9_part 97 = .ok (.iload 5, 2)) ∧ (decode cX9_part 99 = .ok (.lload 6, 2)) ∧ (decode cX9_part 101 = .ok (.iload_n 3, 1)) := by decide +kernel
theorem dX9_part_88 : decode cX9_part 88 = .ok (.iload_n 3, 1) := q9_dX9_part_88.1
theorem dX9_part_89 : decode cX9_part 89 = .ok (.i2l, 1) := q9_dX9_part_88.2.1
theorem dX9_part_90 : decode cX9_part 90 = .ok (.ldiv, 1) := q9_dX9_part_88.2.2.1
theorem dX9_part_91 : decode cX9_part 91 = .ok (.l2i, 1) := q9_dX9_part_88.2.2.2.1
theorem dX9_part_92 : decode cX9_part 92 = .ok (.iastore, 1) := q9_dX9_part_88.2.2.2.2.1
theorem dX9_part_93 : decode cX9_part 93 = .ok (.aload_n 0, 1) := q9_dX9_part_88.2.2.2.2.2.1
theorem dX9_part_94 : decode cX9_part 94 = .ok (.getfield 136, 3) := q9_dX9_part_88.2.2.2.2.2.2.1
theorem dX9_part_97 : decode cX9_part 97 = .ok (.iload 5, 2) := q9_dX9_part_88.2.2.2.2.2.2.2.1
theorem dX9_part_99 : decode cX9_part 99 = .ok (.lload 6, 2) := q9_dX9_part_88.2.2.2.2.2.2.2.2.1
theorem dX9_part_101 : decode cX9_part 101 = .ok (.iload_n 3, 1) := q9_dX9_part_88.2.2.2.2.2.2.2.2.2
theorem q9_dX9_part_102 : (decode cX9_part 102 = .ok (.i2l, 1)) ∧ (decode cX9_part 103 = .ok (.lrem, 1)) ∧ (decode cX9_part 104 = .ok (.lastore, 1)) ∧ (decode cX9_part 105 = .ok (.iload 4, 2)) ∧ (decode cX9_part 107 = .ok (.aload_n 0, 1)) ∧ (decode cX9_part 108 = .ok (.getfield 133, 3)) ∧ (decode cX9_part 111 = .ok (.iload 5, 2)) ∧ (decode cX9_part 113 = .ok (.iaload, 1)) ∧ (decode cX9_part 114 = .ok (.isub, 1)) ∧ (decode cX9_part 115 = .ok (.istore 4, 2)) := by decide +kernel
theorem dX9_part_102 : decode cX9_part 102 = .ok (.i2l, 1) := q9_dX9_part_102.1
theorem dX9_part_103 : decode cX9_part 103 = .ok (.lrem, 1) := q9_dX9_part_102.2.1
theorem dX9_part_104 : decode cX9_part 104 = .ok (.lastore, 1) := q9_dX9_part_102.2.2.1
theorem dX9_part_105 : decode cX9_part 105 = .ok (.iload 4, 2) := q9_dX9_part_102.2.2.2.1
theorem dX9_part_107 : decode cX9_part 107 = .ok (.aload_n 0, 1) := q9_dX9_part_102.2.2.2.2.1
theorem dX9_part_108 : decode cX9_part 108 = .ok (.getfield 133, 3) := q9_dX9_part_102.2.2.2.2.2.1
theorem dX9_part_111 : decode cX9_part 111 = .ok (.iload 5, 2) := q9_dX9_part_102.2.2.2.2.2.2.1
theorem dX9_part_113 : decode cX9_part 113 = .ok (.iaload, 1) := q9_dX9_part_102.2.2.2.2.2.2.2.1
theorem dX9_part_114 : decode cX9_part 114 = .ok (.isub, 1) := q9_dX9_part_102.2.2.2.2.2.2.2.2.1
theorem dX9_part_115 : decode cX9_part 115 = .ok (.istore 4, 2) := q9_dX9_part_102.2.2.2.2.2.2.2.2.2
theorem q9_dX9_part_117 : (decode cX9_part 117 = .ok (.iinc 5 1, 3)) ∧ (decode cX9_part 120 = .ok (.goto (-60), 3)) ∧ (decode cX9_part 123 = .ok (.iload 4, 2)) ∧ (decode cX9_part 125 = .ok (.ifCond .le 79, 3)) ∧ (decode cX9_part 128 = .ok (.iconst 0, 1)) ∧ (decode cX9_part 129 = .ok (.istore 5, 2)) ∧ (decode cX9_part 131 = .ok (.iconst 1, 1)) ∧ (decode cX9_part 132 = .ok (.istore 6, 2)) ∧ (decode cX9_part 134 = .ok (.iload 6, 2)) ∧ (decode cX9_part 136 = .ok (.bipush 6, 2)) := by decide +kernel
theorem dX9_part_117 : decode cX9_part 117 = .ok (.iinc 5 1, 3) := q9_dX9_part_117.1
theorem dX9_part_120 : decode cX9_part 120 = .ok (.goto (-60), 3) := q9_dX9_part_117.2.1
theorem dX9_part_123 : decode cX9_part 123 = .ok (.iload 4, 2) := q9_dX9_part_117.2.2.1
theorem dX9_part_125 : decode cX9_part 125 = .ok (.ifCond .le 79, 3) := q9_dX9_part_117.2.2.2.1
theorem dX9_part_128 : decode cX9_part 128 = .ok (.iconst 0, 1) := q9_dX9_part_117.2.2.2.2.1
theorem dX9_part_129 : decode cX9_part 129 = .ok (.istore 5, 2) := q9_dX9_part_117.2.2.2.2.2.1
theorem dX9_part_131 : decode cX9_part 131 = .ok (.iconst 1, 1) := q9_dX9_part_117.2.2.2.2.2.2.1
theorem dX9_part_132 : decode cX9_part 132 = .ok (.istore 6, 2) := q9_dX9_part_117.2.2.2.2.2.2.2.1
theorem dX9_part_134 : decode cX9_part 134 = .ok (.iload 6, 2) := q9_dX9_part_117.2.2.2.2.2.2.2.2.1
theorem dX9_part_136 : decode cX9_part 136 = .ok (.bipush 6, 2) := q9_dX9_part_117.2.2.2.2.2.2.2.2.2
theorem q9_dX9_part_138 : (decode cX9_part 138 = .ok (.if_icmp .ge 31, 3)) ∧ (decode cX9_part 141 = .ok (.aload_n 0, 1)) ∧ (decode cX9_part 142 = .ok (.getfield 136, 3)) ∧ (decode cX9_part 145 = .ok (.iload 6, 2)) ∧ (decode cX9_part 147 = .ok (.laload, 1)) ∧ (decode cX9_part 148 = .ok (.aload_n 0, 1)) ∧ (decode cX9_part 149 = .ok (.getfield 136, 3)) ∧ (decode cX9_part 152 = .ok (.iload 5, 2)) ∧ (decode cX9_part 154 = .ok (.laload, 1)) ∧ (decode cX9_part 155 = .ok (.lcmp, 1)) := by decide +kernel
theorem dX9_part_138 : decode cX9_part 138 = .ok (.if_icmp .ge 31, 3) := q9_dX9_part_138.1
theorem dX9_part_141 : decode cX9_part 141 = .ok (.aload_n 0, 1) := q9_dX9_part_138.2.1
theorem dX9_part_142 : decode cX9_part 142 = .ok (.getfield 136, 3) := q9_dX9_part_138.2.2.1
theorem dX9_part_145 : decode cX9_part 145 = .ok (.iload 6, 2) := q9_dX9_part_138.2.2.2.1
theorem dX9_part_147 : decode cX9_part 147 = .ok (.laload, 1) := q9_dX9_part_138.2.2.2.2.1
theorem dX9_part_148 : decode cX9_part 148 = .ok (.aload_n 0, 1) := q9_dX9_part_138.2.2.2.2.2.1
theorem dX9_part_149 : decode cX9_part 149 = .ok (.getfield 136, 3) := q9_dX9_part_138.2.2.2.2.2.2.1
theorem dX9_part_152 : decode cX9_part 152 = .ok (.iload 5, 2) := q9_dX9_part_138.2.2.2.2.2.2.2.1
theorem dX9_part_154 : decode cX9_part 154 = .ok (.laload, 1) := q9_dX9_part_138.2.2.2.2.2.2.2.2.1
theorem dX9_part_155 : decode cX9_part 155 = .ok (.lcmp, 1) := q9_dX9_part_138.2.2.2.2.2.2.2.2.2
theorem q9_dX9_part_156 : (decode cX9_part 156 = .ok (.ifCond .le 7, 3)) ∧ (decode cX9_part 159 = .ok (.iload 6, 2)) ∧ (decode cX9_part 161 = .ok (.istore 5, 2)) ∧ (decode cX9_part 163 = .ok (.iinc 6 1, 3)) ∧ (decode cX9_part 166 = .ok (.goto (-32), 3)) ∧ (decode cX9_part 169 = .ok (.aload_n 0, 1)) ∧ (decode cX9_part 170 = .ok (.getfield 133, 3)) ∧ (decode cX9_part 173 = .ok (.iload 5, 2)) ∧ (decode cX9_part 175 = .ok (.aload_n 0, 1)) ∧ (decode cX9_part 176 = .ok (.getfield 133, 3)) := by decide +kernel
theorem dX9_part_156 : decode cX9_part 156 = .ok (.ifCond .le 7, 3) := q9_dX9_part_156.1
theorem dX9_part_159 : decode cX9_part 159 = .ok (.iload 6, 2) := q9_dX9_part_156.2.1
theorem dX9_part_161 : decode cX9_part 161 = .ok (.istore 5, 2) := q9_dX9_part_156.2.2.1
theorem dX9_part_163 : decode cX9_part 163 = .ok (.iinc 6 1, 3) := q9_dX9_part_156.2.2.2.1
theorem dX9_part_166 : decode cX9_part 166 = .ok (.goto (-32), 3) := q9_dX9_part_156.2.2.2.2.1
theorem dX9_part_169 : decode cX9_part 169 = .ok (.aload_n 0, 1) := q9_dX9_part_156.2.2.2.2.2.1
theorem dX9_part_170 : decode cX9_part 170 = .ok (.getfield 133, 3) := q9_dX9_part_156.2.2.2.2.2.2.1
theorem dX9_part_173 : decode cX9_part 173 = .ok (.iload 5, 2) := q9_dX9_part_156.2.2.2.2.2.2.2.1
theorem dX9_part_175 : decode cX9_part 175 = .ok (.aload_n 0, 1) := q9_dX9_part_156.2.2.2.2.2.2.2.2.1
theorem dX9_part_176 : decode cX9_part 176 = .ok (.getfield 133, 3) := q9_dX9_part_156.2.2.2.2.2.2.2.2.2
theorem q9_dX9_part_179 : (decode cX9_part 179 = .ok (.iload 5, 2)) ∧ (decode cX9_part 181 = .ok (.iaload, 1)) ∧ (decode cX9_part 182 = .ok (.iconst 1, 1)) ∧ (decode cX9_part 183 = .ok (.iadd, 1)) ∧ (decode cX9_part 184 = .ok (.iastore, 1)) ∧ (decode cX9_part 185 = .ok (.aload_n 0, 1)) ∧ (decode cX9_part 186 = .ok (.getfield 136, 3)) ∧ (decode cX9_part 189 = .ok (.iload 5, 2)) ∧ (decode cX9_part 191 = .ok (.ldc2_w 291, 3)) ∧ (decode cX9_part 194 = .ok (.lastore, 1)) := by decide +kernel
theorem dX9_part_179 : decode cX9_part 179 = .ok (.iload 5, 2) := q9_dX9_part_179.1
theorem dX9_part_181 : decode cX9_part 181 = .ok (.iaload, 1) := q9_dX9_part_179.2.1
theorem dX9_part_182 : decode cX9_part 182 = .ok (.iconst 1, 1) := q9_dX9_part_179.2.2.1
theorem dX9_part_183 : decode cX9_part 183 = .ok (.iadd, 1) := q9_dX9_part_179.2.2.2.1
theorem dX9_part_184 : decode cX9_part 184 = .ok (.iastore, 1) := q9_dX9_part_179.2.2.2.2.1
theorem dX9_part_185 : decode cX9_part 185 = .ok (.aload_n 0, 1) := q9_dX9_part_179.2.2.2.2.2.1
theorem dX9_part_186 : decode cX9_part 186 = .ok (.getfield 136, 3) := q9_dX9_part_179.2.2.2.2.2.2.1
theorem dX9_part_189 : decode cX9_part 189 = .ok (.iload 5, 2) := q9_dX9_part_179.2.2.2.2.2.2.2.1
theorem dX9_part_191 : decode cX9_part 191 = .ok (.ldc2_w 291, 3) := q9_dX9_part_179.2.2.2.2.2.2.2.2.1
theorem dX9_part_194 : decode cX9_part 194 = .ok (.lastore, 1) := q9_dX9_part_179.2.2.2.2.2.2.2.2.2
theorem q9_dX9_part_195 : (decode cX9_part 195 = .ok (.iload 4, 2)) ∧ (decode cX9_part 197 = .ok (.iconst 1, 1)) ∧ (decode cX9_part 198 = .ok (.isub, 1)) ∧ (decode cX9_part 199 = .ok (.istore 4, 2)) ∧ (decode cX9_part 201 = .ok (.goto (-78), 3)) ∧ (decode cX9_part 204 = .ok (.aload_n 0, 1)) ∧ (decode cX9_part 205 = .ok (.getfield 133, 3)) ∧ (decode cX9_part 208 = .ok (.iload_n 1, 1)) ∧ (decode cX9_part 209 = .ok (.iaload, 1)) ∧ (decode cX9_part 210 = .ok (.ireturn, 1)) := by decide +kernel
theorem dX9_part_195 : decode cX9_part 195 = .ok (.iload 4, 2) := q9_dX9_part_195.1
theorem dX9_part_197 : decode cX9_part 197 = .ok (.iconst 1, 1) := q9_dX9_part_195.2.1
theorem dX9_part_198 : decode cX9_part 198 = .ok (.isub, 1) := q9_dX9_part_195.2.2.1
theorem dX9_part_199 : decode cX9_part 199 = .ok (.istore 4, 2) := q9_dX9_part_195.2.2.2.1
theorem dX9_part_201 : decode cX9_part 201 = .ok (.goto (-78), 3) := q9_dX9_part_195.2.2.2.2.1
theorem dX9_part_204 : decode cX9_part 204 = .ok (.aload_n 0, 1) := q9_dX9_part_195.2.2.2.2.2.1
theorem dX9_part_205 : decode cX9_part 205 = .ok (.getfield 133, 3) := q9_dX9_part_195.2.2.2.2.2.2.1
theorem dX9_part_208 : decode cX9_part 208 = .ok (.iload_n 1, 1) := q9_dX9_part_195.2.2.2.2.2.2.2.1
theorem dX9_part_209 : decode cX9_part 209 = .ok (.iaload, 1) := q9_dX9_part_195.2.2.2.2.2.2.2.2.1
theorem dX9_part_210 : decode cX9_part 210 = .ok (.ireturn, 1) := q9_dX9_part_195.2.2.2.2.2.2.2.2.2
set_option maxRecDepth 20000 in
theorem ggX9_look_X9_isSession : GoodIn wsX9_look wsX9_isSession := goodIn_r _ [13, 14, 20, 21, 22, 23, 24, 25, 26, 27, 28, 29, 30, 31, 32, 33, 34, 35, 36, 37, 38, 39, 40, 41, 42, 43, 44, 45, 46, 47, 48, 49, 50, 51, 52, 53, 54, 55, 56, 57, 58, 59, 60, 61, 62, 63, 64, 65, 66, 67, 68, 69, 70, 71, 72, 73, 74, 75, 76, 77, 78, 79, 80, 81, 82] rfl (by decide +kernel)
set_option maxRecDepth 20000 in
theorem gX9_look_X9_isSession : GoodIn wsX9_look (wsV RX9 231 RX9 yX9_isSession wsX9_isSession) := goodIn_app (goodIn_of _ (by decide +kernel)) ggX9_look_X9_isSession
set_option maxRecDepth 20000 in
theorem ggX9_look_X9_owes : GoodIn wsX9_look wsX9_owes := goodIn_r _ [18, 5, 7, 19, 20, 21, 22, 23, 24, 25, 26, 27, 28, 29, 30, 31, 32, 33, 34, 35, 36, 37, 38, 39, 40, 41, 42, 43, 44, 45, 46, 47, 48, 49, 50, 51, 52, 53, 54, 55, 56, 57, 58, 59, 60, 61, 62, 63, 64, 65, 66, 67, 68, 69, 70, 71, 72, 73, 74, 75, 76, 77, 78, 79, 80, 81, 82] rfl (by decide +kernel)
set_option maxRecDepth 20000 in
theorem gX9_look_X9_owes : GoodIn wsX9_look (wsV RX9 293 RX9 yX9_owes wsX9_owes) := goodIn_app (goodIn_of _ (by decide +kernel)) ggX9_look_X9_owes
theorem q9_dX9_look_0 : (decode cX9_look 0 = .ok (.aload_n 0, 1)) ∧ (decode cX9_look 1 = .ok (.iload_n 1, 1)) ∧ (decode cX9_look 2 = .ok (.invokevirtual 231, 3)) ∧ (decode cX9_look 5 = .ok (.ifCond .ne 5, 3)) ∧ (decode cX9_look 8 = .ok (.iconst (-1), 1)) ∧ (decode cX9_look 9 = .ok (.ireturn, 1)) ∧ (decode cX9_look 10 = .ok (.iload_n 2, 1)) ∧ (decode cX9_look 11 = .ok (.tableswitch 111 0 8 #[49, 56, 63, 70, 77, 84, 91, 98, 104], 49)) ∧ (decode cX9_look 60 = .ok (.aload_n 0, 1)) ∧ (decode cX9_look 61 = .ok (.getfield 73, 3)) := by decide +kernel
theorem dX9_look_0 : decode cX9_look 0 = .ok (.aload_n 0, 1) := q9_dX9_look_0.1
theorem dX9_look_1 : decode cX9_look 1 = .ok (.iload_n 1, 1) := q9_dX9_look_0.2.1
theorem dX9_look_2 : decode cX9_look 2 = .ok (.invokevirtual 231, 3) := q9_dX9_look_0.2.2.1
theorem dX9_look_5 : decode cX9_look 5 = .ok (.ifCond .ne 5, 3) := q9_dX9_look_0.2.2.2.1
theorem dX9_look_8 : decode cX9_look 8 = .ok (.iconst (-1), 1) := q9_dX9_look_0.2.2.2.2.1
theorem dX9_look_9 : decode cX9_look 9 = .ok (.ireturn, 1) := q9_dX9_look_0.2.2.2.2.2.1
theorem dX9_look_10 : decode cX9_look 10 = .ok (.iload_n 2, 1) := q9_dX9_look_0.2.2.2.2.2.2.1
theorem dX9_look_11 : decode cX9_look 11 = .ok (.tableswitch 111 0 8 #[49, 56, 63, 70, 77, 84, 91, 98, 104], 49) := q9_dX9_look_0.2.2.2.2.2.2.2.1
theorem dX9_look_60 : decode cX9_look 60 = .ok (.aload_n 0, 1) := q9_dX9_look_0.2.2.2.2.2.2.2.2.1
theorem dX9_look_61 : decode cX9_look 61 = .ok (.getfield 73, 3) := q9_dX9_look_0.2.2.2.2.2.2.2.2.2
theorem q9_dX9_look_64 : (decode cX9_look 64 = .ok (.iload_n 1, 1)) ∧ (decode cX9_look 65 = .ok (.iaload, 1)) ∧ (decode cX9_look 66 = .ok (.ireturn, 1)) ∧ (decode cX9_look 67 = .ok (.aload_n 0, 1)) ∧ (decode cX9_look 68 = .ok (.getfield 76, 3)) ∧ (decode cX9_look 71 = .ok (.iload_n 1, 1)) ∧ (decode cX9_look 72 = .ok (.iaload, 1)) ∧ (decode cX9_look 73 = .ok (.ireturn, 1)) ∧ (decode cX9_look 74 = .ok (.aload_n 0, 1)) ∧ (decode cX9_look 75 = .ok (.getfield 79, 3)) := by decide +kernel
theorem dX9_look_64 : decode cX9_look 64 = .ok (.iload_n 1, 1) := q9_dX9_look_64.1
theorem dX9_look_65 : decode cX9_look 65 = .ok (.iaload, 1) := q9_dX9_look_64.2.1
theorem dX9_look_66 : decode cX9_look 66 = .ok (.ireturn, 1) := q9_dX9_look_64.2.2.1
theorem dX9_look_67 : decode cX9_look 67 = .ok (.aload_n 0, 1) := q9_dX9_look_64.2.2.2.1
theorem dX9_look_68 : decode cX9_look 68 = .ok (.getfield 76, 3) := q9_dX9_look_64.2.2.2.2.1
theorem dX9_look_71 : decode cX9_look 71 = .ok (.iload_n 1, 1) := q9_dX9_look_64.2.2.2.2.2.1
theorem dX9_look_72 : decode cX9_look 72 = .ok (.iaload, 1) := q9_dX9_look_64.2.2.2.2.2.2.1
theorem dX9_look_73 : decode cX9_look 73 = .ok (.ireturn, 1) := q9_dX9_look_64.2.2.2.2.2.2.2.1
theorem dX9_look_74 : decode cX9_look 74 = .ok (.aload_n 0, 1) := q9_dX9_look_64.2.2.2.2.2.2.2.2.1
theorem dX9_look_75 : decode cX9_look 75 = .ok (.getfield 79, 3) := q9_dX9_look_64.2.2.2.2.2.2.2.2.2
theorem q9_dX9_look_78 : (decode cX9_look 78 = .ok (.iload_n 1, 1)) ∧ (decode cX9_look 79 = .ok (.iaload, 1)) ∧ (decode cX9_look 80 = .ok (.ireturn, 1)) ∧ (decode cX9_look 81 = .ok (.aload_n 0, 1)) ∧ (decode cX9_look 82 = .ok (.getfield 82, 3)) ∧ (decode cX9_look 85 = .ok (.iload_n 1, 1)) ∧ (decode cX9_look 86 = .ok (.iaload, 1)) ∧ (decode cX9_look 87 = .ok (.ireturn, 1)) ∧ (decode cX9_look 88 = .ok (.aload_n 0, 1)) ∧ (decode cX9_look 89 = .ok (.getfield 85, 3)) := by decide +kernel
theorem dX9_look_78 : decode cX9_look 78 = .ok (.iload_n 1, 1) := q9_dX9_look_78.1
theorem dX9_look_79 : decode cX9_look 79 = .ok (.iaload, 1) := q9_dX9_look_78.2.1
theorem dX9_look_80 : decode cX9_look 80 = .ok (.ireturn, 1) := q9_dX9_look_78.2.2.1
theorem dX9_look_81 : decode cX9_look 81 = .ok (.aload_n 0, 1) := q9_dX9_look_78.2.2.2.1
theorem dX9_look_82 : decode cX9_look 82 = .ok (.getfield 82, 3) := q9_dX9_look_78.2.2.2.2.1
theorem dX9_look_85 : decode cX9_look 85 = .ok (.iload_n 1, 1) := q9_dX9_look_78.2.2.2.2.2.1
theorem dX9_look_86 : decode cX9_look 86 = .ok (.iaload, 1) := q9_dX9_look_78.2.2.2.2.2.2.1
theorem dX9_look_87 : decode cX9_look 87 = .ok (.ireturn, 1) := q9_dX9_look_78.2.2.2.2.2.2.2.1
theorem dX9_look_88 : decode cX9_look 88 = .ok (.aload_n 0, 1) := q9_dX9_look_78.2.2.2.2.2.2.2.2.1
theorem dX9_look_89 : decode cX9_look 89 = .ok (.getfield 85, 3) := q9_dX9_look_78.2.2.2.2.2.2.2.2.2
theorem q9_dX9_look_92 : (decode cX9_look 92 = .ok (.iload_n 1, 1)) ∧ (decode cX9_look 93 = .ok (.iaload, 1)) ∧ (decode cX9_look 94 = .ok (.ireturn, 1)) ∧ (decode cX9_look 95 = .ok (.aload_n 0, 1)) ∧ (decode cX9_look 96 = .ok (.getfield 88, 3)) ∧ (decode cX9_look 99 = .ok (.iload_n 1, 1)) ∧ (decode cX9_look 100 = .ok (.iaload, 1)) ∧ (decode cX9_look 101 = .ok (.ireturn, 1)) ∧ (decode cX9_look 102 = .ok (.aload_n 0, 1)) ∧ (decode cX9_look 103 = .ok (.getfield 91, 3)) := by decide +kernel
theorem dX9_look_92 : decode cX9_look 92 = .ok (.iload_n 1, 1) := q9_dX9_look_92.1
theorem dX9_look_93 : decode cX9_look 93 = .ok (.iaload, 1) := q9_dX9_look_92.2.1
theorem dX9_look_94 : decode cX9_look 94 = .ok (.ireturn, 1) := q9_dX9_look_92.2.2.1
theorem dX9_look_95 : decode cX9_look 95 = .ok (.aload_n 0, 1) := q9_dX9_look_92.2.2.2.1
theorem dX9_look_96 : decode cX9_look 96 = .ok (.getfield 88, 3) := q9_dX9_look_92.2.2.2.2.1
theorem dX9_look_99 : decode cX9_look 99 = .ok (.iload_n 1, 1) := q9_dX9_look_92.2.2.2.2.2.1
theorem dX9_look_100 : decode cX9_look 100 = .ok (.iaload, 1) := q9_dX9_look_92.2.2.2.2.2.2.1
theorem dX9_look_101 : decode cX9_look 101 = .ok (.ireturn, 1) := q9_dX9_look_92.2.2.2.2.2.2.2.1
theorem dX9_look_102 : decode cX9_look 102 = .ok (.aload_n 0, 1) := q9_dX9_look_92.2.2.2.2.2.2.2.2.1
theorem dX9_look_103 : decode cX9_look 103 = .ok (.getfield 91, 3) := q9_dX9_look_92.2.2.2.2.2.2.2.2.2
theorem q9_dX9_look_106 : (decode cX9_look 106 = .ok (.iload_n 1, 1)) ∧ (decode cX9_look 107 = .ok (.iaload, 1)) ∧ (decode cX9_look 108 = .ok (.ireturn, 1)) ∧ (decode cX9_look 109 = .ok (.aload_n 0, 1)) ∧ (decode cX9_look 110 = .ok (.iload_n 1, 1)) ∧ (decode cX9_look 111 = .ok (.invokevirtual 293, 3)) ∧ (decode cX9_look 114 = .ok (.ireturn, 1)) ∧ (decode cX9_look 115 = .ok (.aload_n 0, 1)) ∧ (decode cX9_look 116 = .ok (.getfield 97, 3)) ∧ (decode cX9_look 119 = .ok (.iload_n 1, 1)) := by decide +kernel
theorem dX9_look_106 : decode cX9_look 106 = .ok (.iload_n 1, 1) := q9_dX9_look_106.1
theorem dX9_look_107 : decode cX9_look 107 = .ok (.iaload, 1) := q9_dX9_look_106.2.1
theorem dX9_look_108 : decode cX9_look 108 = .ok (.ireturn, 1) := q9_dX9_look_106.2.2.1
theorem dX9_look_109 : decode cX9_look 109 = .ok (.aload_n 0, 1) := q9_dX9_look_106.2.2.2.1
theorem dX9_look_110 : decode cX9_look 110 = .ok (.iload_n 1, 1) := q9_dX9_look_106.2.2.2.2.1
theorem dX9_look_111 : decode cX9_look 111 = .ok (.invokevirtual 293, 3) := q9_dX9_look_106.2.2.2.2.2.1
theorem dX9_look_114 : decode cX9_look 114 = .ok (.ireturn, 1) := q9_dX9_look_106.2.2.2.2.2.2.1
theorem dX9_look_115 : decode cX9_look 115 = .ok (.aload_n 0, 1) := q9_dX9_look_106.2.2.2.2.2.2.2.1
theorem dX9_look_116 : decode cX9_look 116 = .ok (.getfield 97, 3) := q9_dX9_look_106.2.2.2.2.2.2.2.2.1
theorem dX9_look_119 : decode cX9_look 119 = .ok (.iload_n 1, 1) := q9_dX9_look_106.2.2.2.2.2.2.2.2.2
theorem q9_dX9_look_120 : (decode cX9_look 120 = .ok (.iaload, 1)) ∧ (decode cX9_look 121 = .ok (.ireturn, 1)) ∧ (decode cX9_look 122 = .ok (.iconst (-1), 1)) ∧ (decode cX9_look 123 = .ok (.ireturn, 1)) := by decide +kernel
theorem dX9_look_120 : decode cX9_look 120 = .ok (.iaload, 1) := q9_dX9_look_120.1
theorem dX9_look_121 : decode cX9_look 121 = .ok (.ireturn, 1) := q9_dX9_look_120.2.1
theorem dX9_look_122 : decode cX9_look 122 = .ok (.iconst (-1), 1) := q9_dX9_look_120.2.2.1
theorem dX9_look_123 : decode cX9_look 123 = .ok (.ireturn, 1) := q9_dX9_look_120.2.2.2
set_option maxRecDepth 20000 in
theorem ggX9_at_X9_isSheet : GoodIn wsX9_at wsX9_isSheet := goodIn_r _ [4] rfl (by decide +kernel)
set_option maxRecDepth 20000 in
theorem gX9_at_X9_isSheet : GoodIn wsX9_at (va_wsS RX9 216 yX9_isSheet wsX9_isSheet) := goodIn_app (goodIn_of _ (by decide +kernel)) ggX9_at_X9_isSheet
set_option maxRecDepth 20000 in
theorem ggX9_at_X9_standing : GoodIn wsX9_at wsX9_standing := goodIn_r _ [8, 9, 10, 11, 12, 13, 14, 15, 16, 17, 18, 19, 20, 21, 22, 23, 24, 25, 26, 27, 28, 29, 30, 31, 32, 33, 34, 35, 36, 37, 38, 39, 40, 41, 42, 43, 44, 45, 46, 47, 48, 49, 50, 51, 52, 53, 54, 55, 56, 57, 58, 59, 60, 61, 62, 63, 64, 65, 66, 67, 68, 69, 70, 71, 72, 73, 74, 75] rfl (by decide +kernel)
set_option maxRecDepth 20000 in
theorem gX9_at_X9_standing : GoodIn wsX9_at (wsV RX9 208 RX9 yX9_standing wsX9_standing) := goodIn_app (goodIn_of _ (by decide +kernel)) ggX9_at_X9_standing
theorem q9_dX9_at_0 : (decode cX9_at 0 = .ok (.iload_n 1, 1)) ∧ (decode cX9_at 1 = .ok (.invokestatic 216, 3)) ∧ (decode cX9_at 4 = .ok (.ifCond .eq 16, 3)) ∧ (decode cX9_at 7 = .ok (.iload_n 2, 1)) ∧ (decode cX9_at 8 = .ok (.ifCond .lt 12, 3)) ∧ (decode cX9_at 11 = .ok (.aload_n 0, 1)) ∧ (decode cX9_at 12 = .ok (.iload_n 1, 1)) ∧ (decode cX9_at 13 = .ok (.iload_n 2, 1)) ∧ (decode cX9_at 14 = .ok (.invokevirtual 208, 3)) ∧ (decode cX9_at 17 = .ok (.goto 4, 3)) := by decide +kernel
theorem dX9_at_0 : decode cX9_at 0 = .ok (.iload_n 1, 1) := q9_dX9_at_0.1
theorem dX9_at_1 : decode cX9_at 1 = .ok (.invokestatic 216, 3) := q9_dX9_at_0.2.1
theorem dX9_at_4 : decode cX9_at 4 = .ok (.ifCond .eq 16, 3) := q9_dX9_at_0.2.2.1
theorem dX9_at_7 : decode cX9_at 7 = .ok (.iload_n 2, 1) := q9_dX9_at_0.2.2.2.1
theorem dX9_at_8 : decode cX9_at 8 = .ok (.ifCond .lt 12, 3) := q9_dX9_at_0.2.2.2.2.1
theorem dX9_at_11 : decode cX9_at 11 = .ok (.aload_n 0, 1) := q9_dX9_at_0.2.2.2.2.2.1
theorem dX9_at_12 : decode cX9_at 12 = .ok (.iload_n 1, 1) := q9_dX9_at_0.2.2.2.2.2.2.1
theorem dX9_at_13 : decode cX9_at 13 = .ok (.iload_n 2, 1) := q9_dX9_at_0.2.2.2.2.2.2.2.1
theorem dX9_at_14 : decode cX9_at 14 = .ok (.invokevirtual 208, 3) := q9_dX9_at_0.2.2.2.2.2.2.2.2.1
theorem dX9_at_17 : decode cX9_at 17 = .ok (.goto 4, 3) := q9_dX9_at_0.2.2.2.2.2.2.2.2.2
theorem q9_dX9_at_20 : (decode cX9_at 20 = .ok (.iconst (-1), 1)) ∧ (decode cX9_at 21 = .ok (.ireturn, 1)) := by decide +kernel
theorem dX9_at_20 : decode cX9_at 20 = .ok (.iconst (-1), 1) := q9_dX9_at_20.1
theorem dX9_at_21 : decode cX9_at 21 = .ok (.ireturn, 1) := q9_dX9_at_20.2
set_option maxRecDepth 20000 in
theorem ggX9_sheet_X9_isSheet : GoodIn wsX9_sheet wsX9_isSheet := goodIn_r _ [10] rfl (by decide +kernel)
set_option maxRecDepth 20000 in
theorem gX9_sheet_X9_isSheet : GoodIn wsX9_sheet (va_wsS RX9 216 yX9_isSheet wsX9_isSheet) := goodIn_app (goodIn_of _ (by decide +kernel)) ggX9_sheet_X9_isSheet
set_option maxRecDepth 20000 in
theorem ggX9_sheet_X9_isClosed : GoodIn wsX9_sheet wsX9_isClosed := goodIn_r _ [14, 15, 16, 17, 18, 19, 20, 21, 22, 23, 24, 25, 26, 27, 28, 29, 30, 31, 32, 33, 34, 35, 36, 37, 38, 39, 40, 41, 42, 43, 44, 45, 46, 47, 48, 49, 50, 51, 52, 53, 54, 55, 56, 57, 58, 59, 60, 61, 62, 63, 64, 65, 66, 67, 68, 69, 70, 71, 72, 73, 74, 75, 76, 77, 78, 79, 80, 81] rfl (by decide +kernel)
set_option maxRecDepth 20000 in
theorem gX9_sheet_X9_isClosed : GoodIn wsX9_sheet (wsV RX9 222 RX9 yX9_isClosed wsX9_isClosed) := goodIn_app (goodIn_of _ (by decide +kernel)) ggX9_sheet_X9_isClosed
theorem q9_dX9_sheet_0 : (decode cX9_sheet 0 = .ok (.iload_n 1, 1)) ∧ (decode cX9_sheet 1 = .ok (.invokestatic 216, 3)) ∧ (decode cX9_sheet 4 = .ok (.ifCond .ne 5, 3)) ∧ (decode cX9_sheet 7 = .ok (.iconst (-1), 1)) ∧ (decode cX9_sheet 8 = .ok (.ireturn, 1)) ∧ (decode cX9_sheet 9 = .ok (.iload_n 2, 1)) ∧ (decode cX9_sheet 10 = .ok (.tableswitch 91 0 5 #[38, 45, 52, 59, 66, 73], 38)) ∧ (decode cX9_sheet 48 = .ok (.aload_n 0, 1)) ∧ (decode cX9_sheet 49 = .ok (.getfield 48, 3)) ∧ (decode cX9_sheet 52 = .ok (.iload_n 1, 1)) := by decide +kernel
theorem dX9_sheet_0 : decode cX9_sheet 0 = .ok (.iload_n 1, 1) := q9_dX9_sheet_0.1
theorem dX9_sheet_1 : decode cX9_sheet 1 = .ok (.invokestatic 216, 3) := q9_dX9_sheet_0.2.1
theorem dX9_sheet_4 : decode cX9_sheet 4 = .ok (.ifCond .ne 5, 3) := q9_dX9_sheet_0.2.2.1
theorem dX9_sheet_7 : decode cX9_sheet 7 = .ok (.iconst (-1), 1) := q9_dX9_sheet_0.2.2.2.1
theorem dX9_sheet_8 : decode cX9_sheet 8 = .ok (.ireturn, 1) := q9_dX9_sheet_0.2.2.2.2.1
theorem dX9_sheet_9 : decode cX9_sheet 9 = .ok (.iload_n 2, 1) := q9_dX9_sheet_0.2.2.2.2.2.1
theorem dX9_sheet_10 : decode cX9_sheet 10 = .ok (.tableswitch 91 0 5 #[38, 45, 52, 59, 66, 73], 38) := q9_dX9_sheet_0.2.2.2.2.2.2.1
theorem dX9_sheet_48 : decode cX9_sheet 48 = .ok (.aload_n 0, 1) := q9_dX9_sheet_0.2.2.2.2.2.2.2.1
theorem dX9_sheet_49 : decode cX9_sheet 49 = .ok (.getfield 48, 3) := q9_dX9_sheet_0.2.2.2.2.2.2.2.2.1
theorem dX9_sheet_52 : decode cX9_sheet 52 = .ok (.iload_n 1, 1) := q9_dX9_sheet_0.2.2.2.2.2.2.2.2.2
theorem q9_dX9_sheet_53 : (decode cX9_sheet 53 = .ok (.iaload, 1)) ∧ (decode cX9_sheet 54 = .ok (.ireturn, 1)) ∧ (decode cX9_sheet 55 = .ok (.aload_n 0, 1)) ∧ (decode cX9_sheet 56 = .ok (.getfield 51, 3)) ∧ (decode cX9_sheet 59 = .ok (.iload_n 1, 1)) ∧ (decode cX9_sheet 60 = .ok (.iaload, 1)) ∧ (decode cX9_sheet 61 = .ok (.ireturn, 1)) ∧ (decode cX9_sheet 62 = .ok (.aload_n 0, 1)) ∧ (decode cX9_sheet 63 = .ok (.getfield 54, 3)) ∧ (decode cX9_sheet 66 = .ok (.iload_n 1, 1)) := by decide +kernel
theorem dX9_sheet_53 : decode cX9_sheet 53 = .ok (.iaload, 1) := q9_dX9_sheet_53.1
theorem dX9_sheet_54 : decode cX9_sheet 54 = .ok (.ireturn, 1) := q9_dX9_sheet_53.2.1
theorem dX9_sheet_55 : decode cX9_sheet 55 = .ok (.aload_n 0, 1) := q9_dX9_sheet_53.2.2.1
theorem dX9_sheet_56 : decode cX9_sheet 56 = .ok (.getfield 51, 3) := q9_dX9_sheet_53.2.2.2.1
theorem dX9_sheet_59 : decode cX9_sheet 59 = .ok (.iload_n 1, 1) := q9_dX9_sheet_53.2.2.2.2.1
theorem dX9_sheet_60 : decode cX9_sheet 60 = .ok (.iaload, 1) := q9_dX9_sheet_53.2.2.2.2.2.1
theorem dX9_sheet_61 : decode cX9_sheet 61 = .ok (.ireturn, 1) := q9_dX9_sheet_53.2.2.2.2.2.2.1
theorem dX9_sheet_62 : decode cX9_sheet 62 = .ok (.aload_n 0, 1) := q9_dX9_sheet_53.2.2.2.2.2.2.2.1
theorem dX9_sheet_63 : decode cX9_sheet 63 = .ok (.getfield 54, 3) := q9_dX9_sheet_53.2.2.2.2.2.2.2.2.1
theorem dX9_sheet_66 : decode cX9_sheet 66 = .ok (.iload_n 1, 1) := q9_dX9_sheet_53.2.2.2.2.2.2.2.2.2
theorem q9_dX9_sheet_67 : (decode cX9_sheet 67 = .ok (.iaload, 1)) ∧ (decode cX9_sheet 68 = .ok (.ireturn, 1)) ∧ (decode cX9_sheet 69 = .ok (.aload_n 0, 1)) ∧ (decode cX9_sheet 70 = .ok (.getfield 57, 3)) ∧ (decode cX9_sheet 73 = .ok (.iload_n 1, 1)) ∧ (decode cX9_sheet 74 = .ok (.iaload, 1)) ∧ (decode cX9_sheet 75 = .ok (.ireturn, 1)) ∧ (decode cX9_sheet 76 = .ok (.aload_n 0, 1)) ∧ (decode cX9_sheet 77 = .ok (.getfield 60, 3)) ∧ (decode cX9_sheet 80 = .ok (.iload_n 1, 1)) := by decide +kernel
theorem dX9_sheet_67 : decode cX9_sheet 67 = .ok (.iaload, 1) := q9_dX9_sheet_67.1
theorem dX9_sheet_68 : decode cX9_sheet 68 = .ok (.ireturn, 1) := q9_dX9_sheet_67.2.1
theorem dX9_sheet_69 : decode cX9_sheet 69 = .ok (.aload_n 0, 1) := q9_dX9_sheet_67.2.2.1
theorem dX9_sheet_70 : decode cX9_sheet 70 = .ok (.getfield 57, 3) := q9_dX9_sheet_67.2.2.2.1
theorem dX9_sheet_73 : decode cX9_sheet 73 = .ok (.iload_n 1, 1) := q9_dX9_sheet_67.2.2.2.2.1
theorem dX9_sheet_74 : decode cX9_sheet 74 = .ok (.iaload, 1) := q9_dX9_sheet_67.2.2.2.2.2.1
theorem dX9_sheet_75 : decode cX9_sheet 75 = .ok (.ireturn, 1) := q9_dX9_sheet_67.2.2.2.2.2.2.1
theorem dX9_sheet_76 : decode cX9_sheet 76 = .ok (.aload_n 0, 1) := q9_dX9_sheet_67.2.2.2.2.2.2.2.1
theorem dX9_sheet_77 : decode cX9_sheet 77 = .ok (.getfield 60, 3) := q9_dX9_sheet_67.2.2.2.2.2.2.2.2.1
theorem dX9_sheet_80 : decode cX9_sheet 80 = .ok (.iload_n 1, 1) := q9_dX9_sheet_67.2.2.2.2.2.2.2.2.2
theorem q9_dX9_sheet_81 : (decode cX9_sheet 81 = .ok (.iaload, 1)) ∧ (decode cX9_sheet 82 = .ok (.ireturn, 1)) ∧ (decode cX9_sheet 83 = .ok (.aload_n 0, 1)) ∧ (decode cX9_sheet 84 = .ok (.iload_n 1, 1)) ∧ (decode cX9_sheet 85 = .ok (.aload_n 0, 1)) ∧ (decode cX9_sheet 86 = .ok (.getfield 219, 3)) ∧ (decode cX9_sheet 89 = .ok (.invokevirtual 222, 3)) ∧ (decode cX9_sheet 92 = .ok (.ifCond .eq 7, 3)) ∧ (decode cX9_sheet 95 = .ok (.iconst 1, 1)) ∧ (decode cX9_sheet 96 = .ok (.goto 4, 3)) := by decide +kernel
theorem dX9_sheet_81 : decode cX9_sheet 81 = .ok (.iaload, 1) := q9_dX9_sheet_81.1
theorem dX9_sheet_82 : decode cX9_sheet 82 = .ok (.ireturn, 1) := q9_dX9_sheet_81.2.1
theorem dX9_sheet_83 : decode cX9_sheet 83 = .ok (.aload_n 0, 1) := q9_dX9_sheet_81.2.2.1
theorem dX9_sheet_84 : decode cX9_sheet 84 = .ok (.iload_n 1, 1) := q9_dX9_sheet_81.2.2.2.1
theorem dX9_sheet_85 : decode cX9_sheet 85 = .ok (.aload_n 0, 1) := q9_dX9_sheet_81.2.2.2.2.1
theorem dX9_sheet_86 : decode cX9_sheet 86 = .ok (.getfield 219, 3) := q9_dX9_sheet_81.2.2.2.2.2.1
theorem dX9_sheet_89 : decode cX9_sheet 89 = .ok (.invokevirtual 222, 3) := q9_dX9_sheet_81.2.2.2.2.2.2.1
theorem dX9_sheet_92 : decode cX9_sheet 92 = .ok (.ifCond .eq 7, 3) := q9_dX9_sheet_81.2.2.2.2.2.2.2.1
theorem dX9_sheet_95 : decode cX9_sheet 95 = .ok (.iconst 1, 1) := q9_dX9_sheet_81.2.2.2.2.2.2.2.2.1
theorem dX9_sheet_96 : decode cX9_sheet 96 = .ok (.goto 4, 3) := q9_dX9_sheet_81.2.2.2.2.2.2.2.2.2
theorem q9_dX9_sheet_99 : (decode cX9_sheet 99 = .ok (.iconst 0, 1)) ∧ (decode cX9_sheet 100 = .ok (.ireturn, 1)) ∧ (decode cX9_sheet 101 = .ok (.iconst (-1), 1)) ∧ (decode cX9_sheet 102 = .ok (.ireturn, 1)) := by decide +kernel
theorem dX9_sheet_99 : decode cX9_sheet 99 = .ok (.iconst 0, 1) := q9_dX9_sheet_99.1
theorem dX9_sheet_100 : decode cX9_sheet 100 = .ok (.ireturn, 1) := q9_dX9_sheet_99.2.1
theorem dX9_sheet_101 : decode cX9_sheet 101 = .ok (.iconst (-1), 1) := q9_dX9_sheet_99.2.2.1
theorem dX9_sheet_102 : decode cX9_sheet 102 = .ok (.ireturn, 1) := q9_dX9_sheet_99.2.2.2
set_option maxRecDepth 20000 in
theorem ggX9_club_X9_isClub : GoodIn wsX9_club wsX9_isClub := goodIn_r _ [6] rfl (by decide +kernel)
set_option maxRecDepth 20000 in
theorem gX9_club_X9_isClub : GoodIn wsX9_club (va_wsS RX9 212 yX9_isClub wsX9_isClub) := goodIn_app (goodIn_of _ (by decide +kernel)) ggX9_club_X9_isClub
set_option maxRecDepth 20000 in
theorem ggX9_club_X9_inState : GoodIn wsX9_club wsX9_inState := goodIn_r _ [10, 1, 2, 11, 18, 19, 20, 21, 22, 23, 24, 25, 26, 27, 28, 29, 30, 31, 32, 33, 34, 35, 36, 37, 38, 39, 40, 41, 42, 43, 44, 45, 46, 47, 48, 49, 50, 51, 52, 53, 54, 55, 56, 57, 58, 59, 60, 61, 62, 63, 64, 65, 66, 67, 68, 69, 70, 71, 72, 73, 74, 75, 76, 77, 78, 79, 80] rfl (by decide +kernel)
set_option maxRecDepth 20000 in
theorem gX9_club_X9_inState : GoodIn wsX9_club (wsV RX9 288 RX9 yX9_inState wsX9_inState) := goodIn_app (goodIn_of _ (by decide +kernel)) ggX9_club_X9_inState
set_option maxRecDepth 20000 in
theorem ggX9_club_X9_owes : GoodIn wsX9_club wsX9_owes := goodIn_r _ [15, 11, 16, 17, 18, 19, 20, 21, 22, 23, 24, 25, 26, 27, 28, 29, 30, 31, 32, 33, 34, 35, 36, 37, 38, 39, 40, 41, 42, 43, 44, 45, 46, 47, 48, 49, 50, 51, 52, 53, 54, 55, 56, 57, 58, 59, 60, 61, 62, 63, 64, 65, 66, 67, 68, 69, 70, 71, 72, 73, 74, 75, 76, 77, 78, 79, 80] rfl (by decide +kernel)
set_option maxRecDepth 20000 in
theorem gX9_club_X9_owes : GoodIn wsX9_club (wsV RX9 293 RX9 yX9_owes wsX9_owes) := goodIn_app (goodIn_of _ (by decide +kernel)) ggX9_club_X9_owes
theorem q9_dX9_club_0 : (decode cX9_club 0 = .ok (.iload_n 1, 1)) ∧ (decode cX9_club 1 = .ok (.invokestatic 212, 3)) ∧ (decode cX9_club 4 = .ok (.ifCond .ne 5, 3)) ∧ (decode cX9_club 7 = .ok (.iconst (-1), 1)) ∧ (decode cX9_club 8 = .ok (.ireturn, 1)) ∧ (decode cX9_club 9 = .ok (.iconst 0, 1)) ∧ (decode cX9_club 10 = .ok (.istore_n 3, 1)) ∧ (decode cX9_club 11 = .ok (.iload_n 2, 1)) ∧ (decode cX9_club 12 = .ok (.tableswitch 97 0 3 #[32, 39, 46, 53], 32)) ∧ (decode cX9_club 44 = .ok (.aload_n 0, 1)) := by decide +kernel
theorem dX9_club_0 : decode cX9_club 0 = .ok (.iload_n 1, 1) := q9_dX9_club_0.1
theorem dX9_club_1 : decode cX9_club 1 = .ok (.invokestatic 212, 3) := q9_dX9_club_0.2.1
theorem dX9_club_4 : decode cX9_club 4 = .ok (.ifCond .ne 5, 3) := q9_dX9_club_0.2.2.1
theorem dX9_club_7 : decode cX9_club 7 = .ok (.iconst (-1), 1) := q9_dX9_club_0.2.2.2.1
theorem dX9_club_8 : decode cX9_club 8 = .ok (.ireturn, 1) := q9_dX9_club_0.2.2.2.2.1
theorem dX9_club_9 : decode cX9_club 9 = .ok (.iconst 0, 1) := q9_dX9_club_0.2.2.2.2.2.1
theorem dX9_club_10 : decode cX9_club 10 = .ok (.istore_n 3, 1) := q9_dX9_club_0.2.2.2.2.2.2.1
theorem dX9_club_11 : decode cX9_club 11 = .ok (.iload_n 2, 1) := q9_dX9_club_0.2.2.2.2.2.2.2.1
theorem dX9_club_12 : decode cX9_club 12 = .ok (.tableswitch 97 0 3 #[32, 39, 46, 53], 32) := q9_dX9_club_0.2.2.2.2.2.2.2.2.1
theorem dX9_club_44 : decode cX9_club 44 = .ok (.aload_n 0, 1) := q9_dX9_club_0.2.2.2.2.2.2.2.2.2
theorem q9_dX9_club_45 : (decode cX9_club 45 = .ok (.iload_n 1, 1)) ∧ (decode cX9_club 46 = .ok (.iconst 1, 1)) ∧ (decode cX9_club 47 = .ok (.invokevirtual 288, 3)) ∧ (decode cX9_club 50 = .ok (.ireturn, 1)) ∧ (decode cX9_club 51 = .ok (.aload_n 0, 1)) ∧ (decode cX9_club 52 = .ok (.iload_n 1, 1)) ∧ (decode cX9_club 53 = .ok (.iconst 2, 1)) ∧ (decode cX9_club 54 = .ok (.invokevirtual 288, 3)) ∧ (decode cX9_club 57 = .ok (.ireturn, 1)) ∧ (decode cX9_club 58 = .ok (.aload_n 0, 1)) := by decide +kernel
theorem dX9_club_45 : decode cX9_club 45 = .ok (.iload_n 1, 1) := q9_dX9_club_45.1
theorem dX9_club_46 : decode cX9_club 46 = .ok (.iconst 1, 1) := q9_dX9_club_45.2.1
theorem dX9_club_47 : decode cX9_club 47 = .ok (.invokevirtual 288, 3) := q9_dX9_club_45.2.2.1
theorem dX9_club_50 : decode cX9_club 50 = .ok (.ireturn, 1) := q9_dX9_club_45.2.2.2.1
theorem dX9_club_51 : decode cX9_club 51 = .ok (.aload_n 0, 1) := q9_dX9_club_45.2.2.2.2.1
theorem dX9_club_52 : decode cX9_club 52 = .ok (.iload_n 1, 1) := q9_dX9_club_45.2.2.2.2.2.1
theorem dX9_club_53 : decode cX9_club 53 = .ok (.iconst 2, 1) := q9_dX9_club_45.2.2.2.2.2.2.1
theorem dX9_club_54 : decode cX9_club 54 = .ok (.invokevirtual 288, 3) := q9_dX9_club_45.2.2.2.2.2.2.2.1
theorem dX9_club_57 : decode cX9_club 57 = .ok (.ireturn, 1) := q9_dX9_club_45.2.2.2.2.2.2.2.2.1
theorem dX9_club_58 : decode cX9_club 58 = .ok (.aload_n 0, 1) := q9_dX9_club_45.2.2.2.2.2.2.2.2.2
theorem q9_dX9_club_59 : (decode cX9_club 59 = .ok (.iload_n 1, 1)) ∧ (decode cX9_club 60 = .ok (.iconst 0, 1)) ∧ (decode cX9_club 61 = .ok (.invokevirtual 288, 3)) ∧ (decode cX9_club 64 = .ok (.ireturn, 1)) ∧ (decode cX9_club 65 = .ok (.iconst 0, 1)) ∧ (decode cX9_club 66 = .ok (.istore 4, 2)) ∧ (decode cX9_club 68 = .ok (.iload 4, 2)) ∧ (decode cX9_club 70 = .ok (.aload_n 0, 1)) ∧ (decode cX9_club 71 = .ok (.getfield 205, 3)) ∧ (decode cX9_club 74 = .ok (.if_icmp .ge 33, 3)) := by decide +kernel
theorem dX9_club_59 : decode cX9_club 59 = .ok (.iload_n 1, 1) := q9_dX9_club_59.1
theorem dX9_club_60 : decode cX9_club 60 = .ok (.iconst 0, 1) := q9_dX9_club_59.2.1
theorem dX9_club_61 : decode cX9_club 61 = .ok (.invokevirtual 288, 3) := q9_dX9_club_59.2.2.1
theorem dX9_club_64 : decode cX9_club 64 = .ok (.ireturn, 1) := q9_dX9_club_59.2.2.2.1
theorem dX9_club_65 : decode cX9_club 65 = .ok (.iconst 0, 1) := q9_dX9_club_59.2.2.2.2.1
theorem dX9_club_66 : decode cX9_club 66 = .ok (.istore 4, 2) := q9_dX9_club_59.2.2.2.2.2.1
theorem dX9_club_68 : decode cX9_club 68 = .ok (.iload 4, 2) := q9_dX9_club_59.2.2.2.2.2.2.1
theorem dX9_club_70 : decode cX9_club 70 = .ok (.aload_n 0, 1) := q9_dX9_club_59.2.2.2.2.2.2.2.1
theorem dX9_club_71 : decode cX9_club 71 = .ok (.getfield 205, 3) := q9_dX9_club_59.2.2.2.2.2.2.2.2.1
theorem dX9_club_74 : decode cX9_club 74 = .ok (.if_icmp .ge 33, 3) := q9_dX9_club_59.2.2.2.2.2.2.2.2.2
theorem q9_dX9_club_77 : (decode cX9_club 77 = .ok (.iload_n 3, 1)) ∧ (decode cX9_club 78 = .ok (.aload_n 0, 1)) ∧ (decode cX9_club 79 = .ok (.getfield 73, 3)) ∧ (decode cX9_club 82 = .ok (.iload 4, 2)) ∧ (decode cX9_club 84 = .ok (.iaload, 1)) ∧ (decode cX9_club 85 = .ok (.iload_n 1, 1)) ∧ (decode cX9_club 86 = .ok (.if_icmp .ne 12, 3)) ∧ (decode cX9_club 89 = .ok (.aload_n 0, 1)) ∧ (decode cX9_club 90 = .ok (.iload 4, 2)) ∧ (decode cX9_club 92 = .ok (.invokevirtual 293, 3)) := by decide +kernel
theorem dX9_club_77 : decode cX9_club 77 = .ok (.iload_n 3, 1) := q9_dX9_club_77.1
theorem dX9_club_78 : decode cX9_club 78 = .ok (.aload_n 0, 1) := q9_dX9_club_77.2.1
theorem dX9_club_79 : decode cX9_club 79 = .ok (.getfield 73, 3) := q9_dX9_club_77.2.2.1
theorem dX9_club_82 : decode cX9_club 82 = .ok (.iload 4, 2) := q9_dX9_club_77.2.2.2.1
theorem dX9_club_84 : decode cX9_club 84 = .ok (.iaload, 1) := q9_dX9_club_77.2.2.2.2.1
theorem dX9_club_85 : decode cX9_club 85 = .ok (.iload_n 1, 1) := q9_dX9_club_77.2.2.2.2.2.1
theorem dX9_club_86 : decode cX9_club 86 = .ok (.if_icmp .ne 12, 3) := q9_dX9_club_77.2.2.2.2.2.2.1
theorem dX9_club_89 : decode cX9_club 89 = .ok (.aload_n 0, 1) := q9_dX9_club_77.2.2.2.2.2.2.2.1
theorem dX9_club_90 : decode cX9_club 90 = .ok (.iload 4, 2) := q9_dX9_club_77.2.2.2.2.2.2.2.2.1
theorem dX9_club_92 : decode cX9_club 92 = .ok (.invokevirtual 293, 3) := q9_dX9_club_77.2.2.2.2.2.2.2.2.2
theorem q9_dX9_club_95 : (decode cX9_club 95 = .ok (.goto 4, 3)) ∧ (decode cX9_club 98 = .ok (.iconst 0, 1)) ∧ (decode cX9_club 99 = .ok (.iadd, 1)) ∧ (decode cX9_club 100 = .ok (.istore_n 3, 1)) ∧ (decode cX9_club 101 = .ok (.iinc 4 1, 3)) ∧ (decode cX9_club 104 = .ok (.goto (-36), 3)) ∧ (decode cX9_club 107 = .ok (.iload_n 3, 1)) ∧ (decode cX9_club 108 = .ok (.ireturn, 1)) ∧ (decode cX9_club 109 = .ok (.iconst (-1), 1)) ∧ (decode cX9_club 110 = .ok (.ireturn, 1)) := by decide +kernel
theorem dX9_club_95 : decode cX9_club 95 = .ok (.goto 4, 3) := q9_dX9_club_95.1
theorem dX9_club_98 : decode cX9_club 98 = .ok (.iconst 0, 1) := q9_dX9_club_95.2.1
theorem dX9_club_99 : decode cX9_club 99 = .ok (.iadd, 1) := q9_dX9_club_95.2.2.1
theorem dX9_club_100 : decode cX9_club 100 = .ok (.istore_n 3, 1) := q9_dX9_club_95.2.2.2.1
theorem dX9_club_101 : decode cX9_club 101 = .ok (.iinc 4 1, 3) := q9_dX9_club_95.2.2.2.2.1
theorem dX9_club_104 : decode cX9_club 104 = .ok (.goto (-36), 3) := q9_dX9_club_95.2.2.2.2.2.1
theorem dX9_club_107 : decode cX9_club 107 = .ok (.iload_n 3, 1) := q9_dX9_club_95.2.2.2.2.2.2.1
theorem dX9_club_108 : decode cX9_club 108 = .ok (.ireturn, 1) := q9_dX9_club_95.2.2.2.2.2.2.2.1
theorem dX9_club_109 : decode cX9_club 109 = .ok (.iconst (-1), 1) := q9_dX9_club_95.2.2.2.2.2.2.2.2.1
theorem dX9_club_110 : decode cX9_club 110 = .ok (.ireturn, 1) := q9_dX9_club_95.2.2.2.2.2.2.2.2.2
theorem q9_dX9_count_0 : (decode cX9_count 0 = .ok (.iload_n 1, 1)) ∧ (decode cX9_count 1 = .ok (.tableswitch 105 0 9 #[55, 60, 65, 70, 75, 80, 85, 90, 95, 100], 55)) ∧ (decode cX9_count 56 = .ok (.aload_n 0, 1)) ∧ (decode cX9_count 57 = .ok (.getfield 219, 3)) ∧ (decode cX9_count 60 = .ok (.ireturn, 1)) ∧ (decode cX9_count 61 = .ok (.aload_n 0, 1)) ∧ (decode cX9_count 62 = .ok (.getfield 32, 3)) ∧ (decode cX9_count 65 = .ok (.ireturn, 1)) ∧ (decode cX9_count 66 = .ok (.aload_n 0, 1)) ∧ (decode cX9_count 67 = .ok (.getfield 265, 3)) := by decide +kernel
theorem dX9_count_0 : decode cX9_count 0 = .ok (.iload_n 1, 1) := q9_dX9_count_0.1
theorem dX9_count_1 : decode cX9_count 1 = .ok (.tableswitch 105 0 9 #[55, 60, 65, 70, 75, 80, 85, 90, 95, 100], 55) := q9_dX9_count_0.2.1
theorem dX9_count_56 : decode cX9_count 56 = .ok (.aload_n 0, 1) := q9_dX9_count_0.2.2.1
theorem dX9_count_57 : decode cX9_count 57 = .ok (.getfield 219, 3) := q9_dX9_count_0.2.2.2.1
theorem dX9_count_60 : decode cX9_count 60 = .ok (.ireturn, 1) := q9_dX9_count_0.2.2.2.2.1
theorem dX9_count_61 : decode cX9_count 61 = .ok (.aload_n 0, 1) := q9_dX9_count_0.2.2.2.2.2.1
theorem dX9_count_62 : decode cX9_count 62 = .ok (.getfield 32, 3) := q9_dX9_count_0.2.2.2.2.2.2.1
theorem dX9_count_65 : decode cX9_count 65 = .ok (.ireturn, 1) := q9_dX9_count_0.2.2.2.2.2.2.2.1
theorem dX9_count_66 : decode cX9_count 66 = .ok (.aload_n 0, 1) := q9_dX9_count_0.2.2.2.2.2.2.2.2.1
theorem dX9_count_67 : decode cX9_count 67 = .ok (.getfield 265, 3) := q9_dX9_count_0.2.2.2.2.2.2.2.2.2
theorem q9_dX9_count_70 : (decode cX9_count 70 = .ok (.ireturn, 1)) ∧ (decode cX9_count 71 = .ok (.aload_n 0, 1)) ∧ (decode cX9_count 72 = .ok (.getfield 262, 3)) ∧ (decode cX9_count 75 = .ok (.ireturn, 1)) ∧ (decode cX9_count 76 = .ok (.aload_n 0, 1)) ∧ (decode cX9_count 77 = .ok (.getfield 259, 3)) ∧ (decode cX9_count 80 = .ok (.ireturn, 1)) ∧ (decode cX9_count 81 = .ok (.aload_n 0, 1)) ∧ (decode cX9_count 82 = .ok (.getfield 205, 3)) ∧ (decode cX9_count 85 = .ok (.ireturn, 1)) := by decide +kernel
theorem dX9_count_70 : decode cX9_count 70 = .ok (.ireturn, 1) := q9_dX9_count_70.1
theorem dX9_count_71 : decode cX9_count 71 = .ok (.aload_n 0, 1) := q9_dX9_count_70.2.1
theorem dX9_count_72 : decode cX9_count 72 = .ok (.getfield 262, 3) := q9_dX9_count_70.2.2.1
theorem dX9_count_75 : decode cX9_count 75 = .ok (.ireturn, 1) := q9_dX9_count_70.2.2.2.1
theorem dX9_count_76 : decode cX9_count 76 = .ok (.aload_n 0, 1) := q9_dX9_count_70.2.2.2.2.1
theorem dX9_count_77 : decode cX9_count 77 = .ok (.getfield 259, 3) := q9_dX9_count_70.2.2.2.2.2.1
theorem dX9_count_80 : decode cX9_count 80 = .ok (.ireturn, 1) := q9_dX9_count_70.2.2.2.2.2.2.1
theorem dX9_count_81 : decode cX9_count 81 = .ok (.aload_n 0, 1) := q9_dX9_count_70.2.2.2.2.2.2.2.1
theorem dX9_count_82 : decode cX9_count 82 = .ok (.getfield 205, 3) := q9_dX9_count_70.2.2.2.2.2.2.2.2.1
theorem dX9_count_85 : decode cX9_count 85 = .ok (.ireturn, 1) := q9_dX9_count_70.2.2.2.2.2.2.2.2.2
theorem q9_dX9_count_86 : (decode cX9_count 86 = .ok (.aload_n 0, 1)) ∧ (decode cX9_count 87 = .ok (.getfield 36, 3)) ∧ (decode cX9_count 90 = .ok (.ireturn, 1)) ∧ (decode cX9_count 91 = .ok (.aload_n 0, 1)) ∧ (decode cX9_count 92 = .ok (.getfield 39, 3)) ∧ (decode cX9_count 95 = .ok (.ireturn, 1)) ∧ (decode cX9_count 96 = .ok (.aload_n 0, 1)) ∧ (decode cX9_count 97 = .ok (.getfield 42, 3)) ∧ (decode cX9_count 100 = .ok (.ireturn, 1)) ∧ (decode cX9_count 101 = .ok (.aload_n 0, 1)) := by decide +kernel
theorem dX9_count_86 : decode cX9_count 86 = .ok (.aload_n 0, 1) := q9_dX9_count_86.1
theorem dX9_count_87 : decode cX9_count 87 = .ok (.getfield 36, 3) := q9_dX9_count_86.2.1
theorem dX9_count_90 : decode cX9_count 90 = .ok (.ireturn, 1) := q9_dX9_count_86.2.2.1
theorem dX9_count_91 : decode cX9_count 91 = .ok (.aload_n 0, 1) := q9_dX9_count_86.2.2.2.1
theorem dX9_count_92 : decode cX9_count 92 = .ok (.getfield 39, 3) := q9_dX9_count_86.2.2.2.2.1
theorem dX9_count_95 : decode cX9_count 95 = .ok (.ireturn, 1) := q9_dX9_count_86.2.2.2.2.2.1
theorem dX9_count_96 : decode cX9_count 96 = .ok (.aload_n 0, 1) := q9_dX9_count_86.2.2.2.2.2.2.1
theorem dX9_count_97 : decode cX9_count 97 = .ok (.getfield 42, 3) := q9_dX9_count_86.2.2.2.2.2.2.2.1
theorem dX9_count_100 : decode cX9_count 100 = .ok (.ireturn, 1) := q9_dX9_count_86.2.2.2.2.2.2.2.2.1
theorem dX9_count_101 : decode cX9_count 101 = .ok (.aload_n 0, 1) := q9_dX9_count_86.2.2.2.2.2.2.2.2.2
theorem q9_dX9_count_102 : (decode cX9_count 102 = .ok (.getfield 141, 3)) ∧ (decode cX9_count 105 = .ok (.ireturn, 1)) ∧ (decode cX9_count 106 = .ok (.iload_n 1, 1)) ∧ (decode cX9_count 107 = .ok (.bipush 10, 2)) ∧ (decode cX9_count 109 = .ok (.if_icmp .lt 21, 3)) ∧ (decode cX9_count 112 = .ok (.iload_n 1, 1)) ∧ (decode cX9_count 113 = .ok (.bipush 34, 2)) ∧ (decode cX9_count 115 = .ok (.if_icmp .ge 15, 3)) ∧ (decode cX9_count 118 = .ok (.aload_n 0, 1)) ∧ (decode cX9_count 119 = .ok (.getfield 45, 3)) := by decide +kernel
theorem dX9_count_102 : decode cX9_count 102 = .ok (.getfield 141, 3) := q9_dX9_count_102.1
theorem dX9_count_105 : decode cX9_count 105 = .ok (.ireturn, 1) := q9_dX9_count_102.2.1
theorem dX9_count_106 : decode cX9_count 106 = .ok (.iload_n 1, 1) := q9_dX9_count_102.2.2.1
theorem dX9_count_107 : decode cX9_count 107 = .ok (.bipush 10, 2) := q9_dX9_count_102.2.2.2.1
theorem dX9_count_109 : decode cX9_count 109 = .ok (.if_icmp .lt 21, 3) := q9_dX9_count_102.2.2.2.2.1
theorem dX9_count_112 : decode cX9_count 112 = .ok (.iload_n 1, 1) := q9_dX9_count_102.2.2.2.2.2.1
theorem dX9_count_113 : decode cX9_count 113 = .ok (.bipush 34, 2) := q9_dX9_count_102.2.2.2.2.2.2.1
theorem dX9_count_115 : decode cX9_count 115 = .ok (.if_icmp .ge 15, 3) := q9_dX9_count_102.2.2.2.2.2.2.2.1
theorem dX9_count_118 : decode cX9_count 118 = .ok (.aload_n 0, 1) := q9_dX9_count_102.2.2.2.2.2.2.2.2.1
theorem dX9_count_119 : decode cX9_count 119 = .ok (.getfield 45, 3) := q9_dX9_count_102.2.2.2.2.2.2.2.2.2
theorem q9_dX9_count_122 : (decode cX9_count 122 = .ok (.iload_n 1, 1)) ∧ (decode cX9_count 123 = .ok (.bipush 10, 2)) ∧ (decode cX9_count 125 = .ok (.isub, 1)) ∧ (decode cX9_count 126 = .ok (.iaload, 1)) ∧ (decode cX9_count 127 = .ok (.goto 4, 3)) ∧ (decode cX9_count 130 = .ok (.iconst (-1), 1)) ∧ (decode cX9_count 131 = .ok (.ireturn, 1)) ∧ (decode cJ9_abs_0f7a4 0 = .ok (.iload_n 0, 1)) ∧ (decode cJ9_abs_0f7a4 1 = .ok (.ifCond .ge 8, 3)) ∧ (decode cJ9_abs_0f7a4 4 = .ok (.iload_n 0, 1)) := by decide +kernel
theorem dX9_count_122 : decode cX9_count 122 = .ok (.iload_n 1, 1) := q9_dX9_count_122.1
theorem dX9_count_123 : decode cX9_count 123 = .ok (.bipush 10, 2) := q9_dX9_count_122.2.1
theorem dX9_count_125 : decode cX9_count 125 = .ok (.isub, 1) := q9_dX9_count_122.2.2.1
theorem dX9_count_126 : decode cX9_count 126 = .ok (.iaload, 1) := q9_dX9_count_122.2.2.2.1
theorem dX9_count_127 : decode cX9_count 127 = .ok (.goto 4, 3) := q9_dX9_count_122.2.2.2.2.1
theorem dX9_count_130 : decode cX9_count 130 = .ok (.iconst (-1), 1) := q9_dX9_count_122.2.2.2.2.2.1
theorem dX9_count_131 : decode cX9_count 131 = .ok (.ireturn, 1) := q9_dX9_count_122.2.2.2.2.2.2.1
theorem dJ9_abs_0f7a4_0 : decode cJ9_abs_0f7a4 0 = .ok (.iload_n 0, 1) := q9_dX9_count_122.2.2.2.2.2.2.2.1
theorem dJ9_abs_0f7a4_1 : decode cJ9_abs_0f7a4 1 = .ok (.ifCond .ge 8, 3) := q9_dX9_count_122.2.2.2.2.2.2.2.2.1
theorem dJ9_abs_0f7a4_4 : decode cJ9_abs_0f7a4 4 = .ok (.iload_n 0, 1) := q9_dX9_count_122.2.2.2.2.2.2.2.2.2
theorem q9_dJ9_abs_0f7a4_5 : (decode cJ9_abs_0f7a4 5 = .ok (.ineg, 1)) ∧ (decode cJ9_abs_0f7a4 6 = .ok (.goto 4, 3)) ∧ (decode cJ9_abs_0f7a4 9 = .ok (.iload_n 0, 1)) ∧ (decode cJ9_abs_0f7a4 10 = .ok (.ireturn, 1)) ∧ (decode cJ9_max_7cf53 0 = .ok (.iload_n 0, 1)) ∧ (decode cJ9_max_7cf53 1 = .ok (.iload_n 1, 1)) ∧ (decode cJ9_max_7cf53 2 = .ok (.if_icmp .lt 7, 3)) ∧ (decode cJ9_max_7cf53 5 = .ok (.iload_n 0, 1)) ∧ (decode cJ9_max_7cf53 6 = .ok (.goto 4, 3)) ∧ (decode cJ9_max_7cf53 9 = .ok (.iload_n 1, 1)) := by decide +kernel
theorem dJ9_abs_0f7a4_5 : decode cJ9_abs_0f7a4 5 = .ok (.ineg, 1) := q9_dJ9_abs_0f7a4_5.1
theorem dJ9_abs_0f7a4_6 : decode cJ9_abs_0f7a4 6 = .ok (.goto 4, 3) := q9_dJ9_abs_0f7a4_5.2.1
theorem dJ9_abs_0f7a4_9 : decode cJ9_abs_0f7a4 9 = .ok (.iload_n 0, 1) := q9_dJ9_abs_0f7a4_5.2.2.1
theorem dJ9_abs_0f7a4_10 : decode cJ9_abs_0f7a4 10 = .ok (.ireturn, 1) := q9_dJ9_abs_0f7a4_5.2.2.2.1
theorem dJ9_max_7cf53_0 : decode cJ9_max_7cf53 0 = .ok (.iload_n 0, 1) := q9_dJ9_abs_0f7a4_5.2.2.2.2.1
theorem dJ9_max_7cf53_1 : decode cJ9_max_7cf53 1 = .ok (.iload_n 1, 1) := q9_dJ9_abs_0f7a4_5.2.2.2.2.2.1
theorem dJ9_max_7cf53_2 : decode cJ9_max_7cf53 2 = .ok (.if_icmp .lt 7, 3) := q9_dJ9_abs_0f7a4_5.2.2.2.2.2.2.1
theorem dJ9_max_7cf53_5 : decode cJ9_max_7cf53 5 = .ok (.iload_n 0, 1) := q9_dJ9_abs_0f7a4_5.2.2.2.2.2.2.2.1
theorem dJ9_max_7cf53_6 : decode cJ9_max_7cf53 6 = .ok (.goto 4, 3) := q9_dJ9_abs_0f7a4_5.2.2.2.2.2.2.2.2.1
theorem dJ9_max_7cf53_9 : decode cJ9_max_7cf53 9 = .ok (.iload_n 1, 1) := q9_dJ9_abs_0f7a4_5.2.2.2.2.2.2.2.2.2
theorem q9_dJ9_max_7cf53_10 : (decode cJ9_max_7cf53 10 = .ok (.ireturn, 1)) ∧ (decode cJ9_min_7cf53 0 = .ok (.iload_n 0, 1)) ∧ (decode cJ9_min_7cf53 1 = .ok (.iload_n 1, 1)) ∧ (decode cJ9_min_7cf53 2 = .ok (.if_icmp .gt 7, 3)) ∧ (decode cJ9_min_7cf53 5 = .ok (.iload_n 0, 1)) ∧ (decode cJ9_min_7cf53 6 = .ok (.goto 4, 3)) ∧ (decode cJ9_min_7cf53 9 = .ok (.iload_n 1, 1)) ∧ (decode cJ9_min_7cf53 10 = .ok (.ireturn, 1)) := by decide +kernel
theorem dJ9_max_7cf53_10 : decode cJ9_max_7cf53 10 = .ok (.ireturn, 1) := q9_dJ9_max_7cf53_10.1
theorem dJ9_min_7cf53_0 : decode cJ9_min_7cf53 0 = .ok (.iload_n 0, 1) := q9_dJ9_max_7cf53_10.2.1
theorem dJ9_min_7cf53_1 : decode cJ9_min_7cf53 1 = .ok (.iload_n 1, 1) := q9_dJ9_max_7cf53_10.2.2.1
theorem dJ9_min_7cf53_2 : decode cJ9_min_7cf53 2 = .ok (.if_icmp .gt 7, 3) := q9_dJ9_max_7cf53_10.2.2.2.1
theorem dJ9_min_7cf53_5 : decode cJ9_min_7cf53 5 = .ok (.iload_n 0, 1) := q9_dJ9_max_7cf53_10.2.2.2.2.1
theorem dJ9_min_7cf53_6 : decode cJ9_min_7cf53 6 = .ok (.goto 4, 3) := q9_dJ9_max_7cf53_10.2.2.2.2.2.1
theorem dJ9_min_7cf53_9 : decode cJ9_min_7cf53 9 = .ok (.iload_n 1, 1) := q9_dJ9_max_7cf53_10.2.2.2.2.2.2.1
theorem dJ9_min_7cf53_10 : decode cJ9_min_7cf53 10 = .ok (.ireturn, 1) := q9_dJ9_max_7cf53_10.2.2.2.2.2.2.2
