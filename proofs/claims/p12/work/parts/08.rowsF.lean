theorem q9_dX9_isClosed_0 : (decode cX9_isClosed 0 = .ok (.iconst 0, 1)) ∧ (decode cX9_isClosed 1 = .ok (.istore_n 3, 1)) ∧ (decode cX9_isClosed 2 = .ok (.iload_n 3, 1)) ∧ (decode cX9_isClosed 3 = .ok (.aload_n 0, 1)) ∧ (decode cX9_isClosed 4 = .ok (.getfield 202, 3)) ∧ (decode cX9_isClosed 7 = .ok (.if_icmp .ge 41, 3)) ∧ (decode cX9_isClosed 10 = .ok (.aload_n 0, 1)) ∧ (decode cX9_isClosed 11 = .ok (.getfield 100, 3)) ∧ (decode cX9_isClosed 14 = .ok (.iload_n 3, 1)) ∧ (decode cX9_isClosed 15 = .ok (.iaload, 1)) := by decide +kernel
theorem dX9_isClosed_0 : decode cX9_isClosed 0 = .ok (.iconst 0, 1) := q9_dX9_isClosed_0.1
theorem dX9_isClosed_1 : decode cX9_isClosed 1 = .ok (.istore_n 3, 1) := q9_dX9_isClosed_0.2.1
theorem dX9_isClosed_2 : decode cX9_isClosed 2 = .ok (.iload_n 3, 1) := q9_dX9_isClosed_0.2.2.1
theorem dX9_isClosed_3 : decode cX9_isClosed 3 = .ok (.aload_n 0, 1) := q9_dX9_isClosed_0.2.2.2.1
theorem dX9_isClosed_4 : decode cX9_isClosed 4 = .ok (.getfield 202, 3) := q9_dX9_isClosed_0.2.2.2.2.1
theorem dX9_isClosed_7 : decode cX9_isClosed 7 = .ok (.if_icmp .ge 41, 3) := q9_dX9_isClosed_0.2.2.2.2.2.1
theorem dX9_isClosed_10 : decode cX9_isClosed 10 = .ok (.aload_n 0, 1) := q9_dX9_isClosed_0.2.2.2.2.2.2.1
theorem dX9_isClosed_11 : decode cX9_isClosed 11 = .ok (.getfield 100, 3) := q9_dX9_isClosed_0.2.2.2.2.2.2.2.1
theorem dX9_isClosed_14 : decode cX9_isClosed 14 = .ok (.iload_n 3, 1) := q9_dX9_isClosed_0.2.2.2.2.2.2.2.2.1
theorem dX9_isClosed_15 : decode cX9_isClosed 15 = .ok (.iaload, 1) := q9_dX9_isClosed_0.2.2.2.2.2.2.2.2.2
theorem q9_dX9_isClosed_16 : (decode cX9_isClosed 16 = .ok (.iload_n 1, 1)) ∧ (decode cX9_isClosed 17 = .ok (.if_icmp .ne 25, 3)) ∧ (decode cX9_isClosed 20 = .ok (.iload_n 2, 1)) ∧ (decode cX9_isClosed 21 = .ok (.aload_n 0, 1)) ∧ (decode cX9_isClosed 22 = .ok (.getfield 103, 3)) ∧ (decode cX9_isClosed 25 = .ok (.iload_n 3, 1)) ∧ (decode cX9_isClosed 26 = .ok (.iaload, 1)) ∧ (decode cX9_isClosed 27 = .ok (.if_icmp .lt 15, 3)) ∧ (decode cX9_isClosed 30 = .ok (.iload_n 2, 1)) ∧ (decode cX9_isClosed 31 = .ok (.aload_n 0, 1)) := by decide +kernel
theorem dX9_isClosed_16 : decode cX9_isClosed 16 = .ok (.iload_n 1, 1) := q9_dX9_isClosed_16.1
theorem dX9_isClosed_17 : decode cX9_isClosed 17 = .ok (.if_icmp .ne 25, 3) := q9_dX9_isClosed_16.2.1
theorem dX9_isClosed_20 : decode cX9_isClosed 20 = .ok (.iload_n 2, 1) := q9_dX9_isClosed_16.2.2.1
theorem dX9_isClosed_21 : decode cX9_isClosed 21 = .ok (.aload_n 0, 1) := q9_dX9_isClosed_16.2.2.2.1
theorem dX9_isClosed_22 : decode cX9_isClosed 22 = .ok (.getfield 103, 3) := q9_dX9_isClosed_16.2.2.2.2.1
theorem dX9_isClosed_25 : decode cX9_isClosed 25 = .ok (.iload_n 3, 1) := q9_dX9_isClosed_16.2.2.2.2.2.1
theorem dX9_isClosed_26 : decode cX9_isClosed 26 = .ok (.iaload, 1) := q9_dX9_isClosed_16.2.2.2.2.2.2.1
theorem dX9_isClosed_27 : decode cX9_isClosed 27 = .ok (.if_icmp .lt 15, 3) := q9_dX9_isClosed_16.2.2.2.2.2.2.2.1
theorem dX9_isClosed_30 : decode cX9_isClosed 30 = .ok (.iload_n 2, 1) := q9_dX9_isClosed_16.2.2.2.2.2.2.2.2.1
theorem dX9_isClosed_31 : decode cX9_isClosed 31 = .ok (.aload_n 0, 1) := q9_dX9_isClosed_16.2.2.2.2.2.2.2.2.2
theorem q9_dX9_isClosed_32 : (decode cX9_isClosed 32 = .ok (.getfield 106, 3)) ∧ (decode cX9_isClosed 35 = .ok (.iload_n 3, 1)) ∧ (decode cX9_isClosed 36 = .ok (.iaload, 1)) ∧ (decode cX9_isClosed 37 = .ok (.if_icmp .ge 5, 3)) ∧ (decode cX9_isClosed 40 = .ok (.iconst 1, 1)) ∧ (decode cX9_isClosed 41 = .ok (.ireturn, 1)) ∧ (decode cX9_isClosed 42 = .ok (.iinc 3 1, 3)) ∧ (decode cX9_isClosed 45 = .ok (.goto (-43), 3)) ∧ (decode cX9_isClosed 48 = .ok (.iconst 0, 1)) ∧ (decode cX9_isClosed 49 = .ok (.ireturn, 1)) := by decide +kernel
theorem dX9_isClosed_32 : decode cX9_isClosed 32 = .ok (.getfield 106, 3) := q9_dX9_isClosed_32.1
theorem dX9_isClosed_35 : decode cX9_isClosed 35 = .ok (.iload_n 3, 1) := q9_dX9_isClosed_32.2.1
theorem dX9_isClosed_36 : decode cX9_isClosed 36 = .ok (.iaload, 1) := q9_dX9_isClosed_32.2.2.1
theorem dX9_isClosed_37 : decode cX9_isClosed 37 = .ok (.if_icmp .ge 5, 3) := q9_dX9_isClosed_32.2.2.2.1
theorem dX9_isClosed_40 : decode cX9_isClosed 40 = .ok (.iconst 1, 1) := q9_dX9_isClosed_32.2.2.2.2.1
theorem dX9_isClosed_41 : decode cX9_isClosed 41 = .ok (.ireturn, 1) := q9_dX9_isClosed_32.2.2.2.2.2.1
theorem dX9_isClosed_42 : decode cX9_isClosed 42 = .ok (.iinc 3 1, 3) := q9_dX9_isClosed_32.2.2.2.2.2.2.1
theorem dX9_isClosed_45 : decode cX9_isClosed 45 = .ok (.goto (-43), 3) := q9_dX9_isClosed_32.2.2.2.2.2.2.2.1
theorem dX9_isClosed_48 : decode cX9_isClosed 48 = .ok (.iconst 0, 1) := q9_dX9_isClosed_32.2.2.2.2.2.2.2.2.1
theorem dX9_isClosed_49 : decode cX9_isClosed 49 = .ok (.ireturn, 1) := q9_dX9_isClosed_32.2.2.2.2.2.2.2.2.2
theorem q9_dX9_standing_0 : (decode cX9_standing 0 = .ok (.iconst 0, 1)) ∧ (decode cX9_standing 1 = .ok (.istore_n 3, 1)) ∧ (decode cX9_standing 2 = .ok (.iload_n 3, 1)) ∧ (decode cX9_standing 3 = .ok (.aload_n 0, 1)) ∧ (decode cX9_standing 4 = .ok (.getfield 205, 3)) ∧ (decode cX9_standing 7 = .ok (.if_icmp .ge 41, 3)) ∧ (decode cX9_standing 10 = .ok (.aload_n 0, 1)) ∧ (decode cX9_standing 11 = .ok (.getfield 85, 3)) ∧ (decode cX9_standing 14 = .ok (.iload_n 3, 1)) ∧ (decode cX9_standing 15 = .ok (.iaload, 1)) := by decide +kernel
theorem dX9_standing_0 : decode cX9_standing 0 = .ok (.iconst 0, 1) := q9_dX9_standing_0.1
theorem dX9_standing_1 : decode cX9_standing 1 = .ok (.istore_n 3, 1) := q9_dX9_standing_0.2.1
theorem dX9_standing_2 : decode cX9_standing 2 = .ok (.iload_n 3, 1) := q9_dX9_standing_0.2.2.1
theorem dX9_standing_3 : decode cX9_standing 3 = .ok (.aload_n 0, 1) := q9_dX9_standing_0.2.2.2.1
theorem dX9_standing_4 : decode cX9_standing 4 = .ok (.getfield 205, 3) := q9_dX9_standing_0.2.2.2.2.1
theorem dX9_standing_7 : decode cX9_standing 7 = .ok (.if_icmp .ge 41, 3) := q9_dX9_standing_0.2.2.2.2.2.1
theorem dX9_standing_10 : decode cX9_standing 10 = .ok (.aload_n 0, 1) := q9_dX9_standing_0.2.2.2.2.2.2.1
theorem dX9_standing_11 : decode cX9_standing 11 = .ok (.getfield 85, 3) := q9_dX9_standing_0.2.2.2.2.2.2.2.1
theorem dX9_standing_14 : decode cX9_standing 14 = .ok (.iload_n 3, 1) := q9_dX9_standing_0.2.2.2.2.2.2.2.2.1
theorem dX9_standing_15 : decode cX9_standing 15 = .ok (.iaload, 1) := q9_dX9_standing_0.2.2.2.2.2.2.2.2.2
theorem q9_dX9_standing_16 : (decode cX9_standing 16 = .ok (.iconst 2, 1)) ∧ (decode cX9_standing 17 = .ok (.if_icmp .gt 25, 3)) ∧ (decode cX9_standing 20 = .ok (.aload_n 0, 1)) ∧ (decode cX9_standing 21 = .ok (.getfield 79, 3)) ∧ (decode cX9_standing 24 = .ok (.iload_n 3, 1)) ∧ (decode cX9_standing 25 = .ok (.iaload, 1)) ∧ (decode cX9_standing 26 = .ok (.iload_n 1, 1)) ∧ (decode cX9_standing 27 = .ok (.if_icmp .ne 15, 3)) ∧ (decode cX9_standing 30 = .ok (.aload_n 0, 1)) ∧ (decode cX9_standing 31 = .ok (.getfield 82, 3)) := by decide +kernel
theorem dX9_standing_16 : decode cX9_standing 16 = .ok (.iconst 2, 1) := q9_dX9_standing_16.1
theorem dX9_standing_17 : decode cX9_standing 17 = .ok (.if_icmp .gt 25, 3) := q9_dX9_standing_16.2.1
theorem dX9_standing_20 : decode cX9_standing 20 = .ok (.aload_n 0, 1) := q9_dX9_standing_16.2.2.1
theorem dX9_standing_21 : decode cX9_standing 21 = .ok (.getfield 79, 3) := q9_dX9_standing_16.2.2.2.1
theorem dX9_standing_24 : decode cX9_standing 24 = .ok (.iload_n 3, 1) := q9_dX9_standing_16.2.2.2.2.1
theorem dX9_standing_25 : decode cX9_standing 25 = .ok (.iaload, 1) := q9_dX9_standing_16.2.2.2.2.2.1
theorem dX9_standing_26 : decode cX9_standing 26 = .ok (.iload_n 1, 1) := q9_dX9_standing_16.2.2.2.2.2.2.1
theorem dX9_standing_27 : decode cX9_standing 27 = .ok (.if_icmp .ne 15, 3) := q9_dX9_standing_16.2.2.2.2.2.2.2.1
theorem dX9_standing_30 : decode cX9_standing 30 = .ok (.aload_n 0, 1) := q9_dX9_standing_16.2.2.2.2.2.2.2.2.1
theorem dX9_standing_31 : decode cX9_standing 31 = .ok (.getfield 82, 3) := q9_dX9_standing_16.2.2.2.2.2.2.2.2.2
theorem q9_dX9_standing_34 : (decode cX9_standing 34 = .ok (.iload_n 3, 1)) ∧ (decode cX9_standing 35 = .ok (.iaload, 1)) ∧ (decode cX9_standing 36 = .ok (.iload_n 2, 1)) ∧ (decode cX9_standing 37 = .ok (.if_icmp .ne 5, 3)) ∧ (decode cX9_standing 40 = .ok (.iload_n 3, 1)) ∧ (decode cX9_standing 41 = .ok (.ireturn, 1)) ∧ (decode cX9_standing 42 = .ok (.iinc 3 1, 3)) ∧ (decode cX9_standing 45 = .ok (.goto (-43), 3)) ∧ (decode cX9_standing 48 = .ok (.iconst (-1), 1)) ∧ (decode cX9_standing 49 = .ok (.ireturn, 1)) := by decide +kernel
theorem dX9_standing_34 : decode cX9_standing 34 = .ok (.iload_n 3, 1) := q9_dX9_standing_34.1
theorem dX9_standing_35 : decode cX9_standing 35 = .ok (.iaload, 1) := q9_dX9_standing_34.2.1
theorem dX9_standing_36 : decode cX9_standing 36 = .ok (.iload_n 2, 1) := q9_dX9_standing_34.2.2.1
theorem dX9_standing_37 : decode cX9_standing 37 = .ok (.if_icmp .ne 5, 3) := q9_dX9_standing_34.2.2.2.1
theorem dX9_standing_40 : decode cX9_standing 40 = .ok (.iload_n 3, 1) := q9_dX9_standing_34.2.2.2.2.1
theorem dX9_standing_41 : decode cX9_standing 41 = .ok (.ireturn, 1) := q9_dX9_standing_34.2.2.2.2.2.1
theorem dX9_standing_42 : decode cX9_standing 42 = .ok (.iinc 3 1, 3) := q9_dX9_standing_34.2.2.2.2.2.2.1
theorem dX9_standing_45 : decode cX9_standing 45 = .ok (.goto (-43), 3) := q9_dX9_standing_34.2.2.2.2.2.2.2.1
theorem dX9_standing_48 : decode cX9_standing 48 = .ok (.iconst (-1), 1) := q9_dX9_standing_34.2.2.2.2.2.2.2.2.1
theorem dX9_standing_49 : decode cX9_standing 49 = .ok (.ireturn, 1) := q9_dX9_standing_34.2.2.2.2.2.2.2.2.2
set_option maxRecDepth 20000 in
theorem ggX9_inRow_X9_standing : GoodIn wsX9_inRow wsX9_standing := goodIn_r _ [5, 6, 7, 8, 9, 10, 11, 12, 13, 14, 15, 16, 17, 18, 19, 20, 21, 22, 23, 24, 25, 26, 27, 28, 29, 30, 31, 32, 33, 34, 35, 36, 37, 38, 39, 40, 41, 42, 43, 44, 45, 46, 47, 48, 49, 50, 51, 52, 53, 54, 55, 56, 57, 58, 59, 60, 61, 62, 63, 64, 65, 66, 67, 68, 69, 70, 71, 72] rfl (by decide +kernel)
set_option maxRecDepth 20000 in
theorem gX9_inRow_X9_standing : GoodIn wsX9_inRow (wsV RX9 208 RX9 yX9_standing wsX9_standing) := goodIn_app (goodIn_of _ (by decide +kernel)) ggX9_inRow_X9_standing
theorem q9_dX9_inRow_0 : (decode cX9_inRow 0 = .ok (.iconst 1, 1)) ∧ (decode cX9_inRow 1 = .ok (.istore_n 3, 1)) ∧ (decode cX9_inRow 2 = .ok (.iload_n 2, 1)) ∧ (decode cX9_inRow 3 = .ok (.iconst 1, 1)) ∧ (decode cX9_inRow 4 = .ok (.isub, 1)) ∧ (decode cX9_inRow 5 = .ok (.istore 4, 2)) ∧ (decode cX9_inRow 7 = .ok (.aload_n 0, 1)) ∧ (decode cX9_inRow 8 = .ok (.iload_n 1, 1)) ∧ (decode cX9_inRow 9 = .ok (.iload 4, 2)) ∧ (decode cX9_inRow 11 = .ok (.invokevirtual 208, 3)) := by decide +kernel
theorem dX9_inRow_0 : decode cX9_inRow 0 = .ok (.iconst 1, 1) := q9_dX9_inRow_0.1
theorem dX9_inRow_1 : decode cX9_inRow 1 = .ok (.istore_n 3, 1) := q9_dX9_inRow_0.2.1
theorem dX9_inRow_2 : decode cX9_inRow 2 = .ok (.iload_n 2, 1) := q9_dX9_inRow_0.2.2.1
theorem dX9_inRow_3 : decode cX9_inRow 3 = .ok (.iconst 1, 1) := q9_dX9_inRow_0.2.2.2.1
theorem dX9_inRow_4 : decode cX9_inRow 4 = .ok (.isub, 1) := q9_dX9_inRow_0.2.2.2.2.1
theorem dX9_inRow_5 : decode cX9_inRow 5 = .ok (.istore 4, 2) := q9_dX9_inRow_0.2.2.2.2.2.1
theorem dX9_inRow_7 : decode cX9_inRow 7 = .ok (.aload_n 0, 1) := q9_dX9_inRow_0.2.2.2.2.2.2.1
theorem dX9_inRow_8 : decode cX9_inRow 8 = .ok (.iload_n 1, 1) := q9_dX9_inRow_0.2.2.2.2.2.2.2.1
theorem dX9_inRow_9 : decode cX9_inRow 9 = .ok (.iload 4, 2) := q9_dX9_inRow_0.2.2.2.2.2.2.2.2.1
theorem dX9_inRow_11 : decode cX9_inRow 11 = .ok (.invokevirtual 208, 3) := q9_dX9_inRow_0.2.2.2.2.2.2.2.2.2
theorem q9_dX9_inRow_14 : (decode cX9_inRow 14 = .ok (.iconst (-1), 1)) ∧ (decode cX9_inRow 15 = .ok (.if_icmp .eq 16, 3)) ∧ (decode cX9_inRow 18 = .ok (.iload_n 3, 1)) ∧ (decode cX9_inRow 19 = .ok (.iconst 1, 1)) ∧ (decode cX9_inRow 20 = .ok (.iadd, 1)) ∧ (decode cX9_inRow 21 = .ok (.istore_n 3, 1)) ∧ (decode cX9_inRow 22 = .ok (.iload 4, 2)) ∧ (decode cX9_inRow 24 = .ok (.iconst 1, 1)) ∧ (decode cX9_inRow 25 = .ok (.isub, 1)) ∧ (decode cX9_inRow 26 = .ok (.istore 4, 2)) := by decide +kernel
theorem dX9_inRow_14 : decode cX9_inRow 14 = .ok (.iconst (-1), 1) := q9_dX9_inRow_14.1
theorem dX9_inRow_15 : decode cX9_inRow 15 = .ok (.if_icmp .eq 16, 3) := q9_dX9_inRow_14.2.1
theorem dX9_inRow_18 : decode cX9_inRow 18 = .ok (.iload_n 3, 1) := q9_dX9_inRow_14.2.2.1
theorem dX9_inRow_19 : decode cX9_inRow 19 = .ok (.iconst 1, 1) := q9_dX9_inRow_14.2.2.2.1
theorem dX9_inRow_20 : decode cX9_inRow 20 = .ok (.iadd, 1) := q9_dX9_inRow_14.2.2.2.2.1
theorem dX9_inRow_21 : decode cX9_inRow 21 = .ok (.istore_n 3, 1) := q9_dX9_inRow_14.2.2.2.2.2.1
theorem dX9_inRow_22 : decode cX9_inRow 22 = .ok (.iload 4, 2) := q9_dX9_inRow_14.2.2.2.2.2.2.1
theorem dX9_inRow_24 : decode cX9_inRow 24 = .ok (.iconst 1, 1) := q9_dX9_inRow_14.2.2.2.2.2.2.2.1
theorem dX9_inRow_25 : decode cX9_inRow 25 = .ok (.isub, 1) := q9_dX9_inRow_14.2.2.2.2.2.2.2.2.1
theorem dX9_inRow_26 : decode cX9_inRow 26 = .ok (.istore 4, 2) := q9_dX9_inRow_14.2.2.2.2.2.2.2.2.2
theorem q9_dX9_inRow_28 : (decode cX9_inRow 28 = .ok (.goto (-21), 3)) ∧ (decode cX9_inRow 31 = .ok (.iload_n 2, 1)) ∧ (decode cX9_inRow 32 = .ok (.iconst 1, 1)) ∧ (decode cX9_inRow 33 = .ok (.iadd, 1)) ∧ (decode cX9_inRow 34 = .ok (.istore 4, 2)) ∧ (decode cX9_inRow 36 = .ok (.aload_n 0, 1)) ∧ (decode cX9_inRow 37 = .ok (.iload_n 1, 1)) ∧ (decode cX9_inRow 38 = .ok (.iload 4, 2)) ∧ (decode cX9_inRow 40 = .ok (.invokevirtual 208, 3)) ∧ (decode cX9_inRow 43 = .ok (.iconst (-1), 1)) := by decide +kernel
theorem dX9_inRow_28 : decode cX9_inRow 28 = .ok (.goto (-21), 3) := q9_dX9_inRow_28.1
theorem dX9_inRow_31 : decode cX9_inRow 31 = .ok (.iload_n 2, 1) := q9_dX9_inRow_28.2.1
theorem dX9_inRow_32 : decode cX9_inRow 32 = .ok (.iconst 1, 1) := q9_dX9_inRow_28.2.2.1
theorem dX9_inRow_33 : decode cX9_inRow 33 = .ok (.iadd, 1) := q9_dX9_inRow_28.2.2.2.1
theorem dX9_inRow_34 : decode cX9_inRow 34 = .ok (.istore 4, 2) := q9_dX9_inRow_28.2.2.2.2.1
theorem dX9_inRow_36 : decode cX9_inRow 36 = .ok (.aload_n 0, 1) := q9_dX9_inRow_28.2.2.2.2.2.1
theorem dX9_inRow_37 : decode cX9_inRow 37 = .ok (.iload_n 1, 1) := q9_dX9_inRow_28.2.2.2.2.2.2.1
theorem dX9_inRow_38 : decode cX9_inRow 38 = .ok (.iload 4, 2) := q9_dX9_inRow_28.2.2.2.2.2.2.2.1
theorem dX9_inRow_40 : decode cX9_inRow 40 = .ok (.invokevirtual 208, 3) := q9_dX9_inRow_28.2.2.2.2.2.2.2.2.1
theorem dX9_inRow_43 : decode cX9_inRow 43 = .ok (.iconst (-1), 1) := q9_dX9_inRow_28.2.2.2.2.2.2.2.2.2
theorem q9_dX9_inRow_44 : (decode cX9_inRow 44 = .ok (.if_icmp .eq 16, 3)) ∧ (decode cX9_inRow 47 = .ok (.iload_n 3, 1)) ∧ (decode cX9_inRow 48 = .ok (.iconst 1, 1)) ∧ (decode cX9_inRow 49 = .ok (.iadd, 1)) ∧ (decode cX9_inRow 50 = .ok (.istore_n 3, 1)) ∧ (decode cX9_inRow 51 = .ok (.iload 4, 2)) ∧ (decode cX9_inRow 53 = .ok (.iconst 1, 1)) ∧ (decode cX9_inRow 54 = .ok (.iadd, 1)) ∧ (decode cX9_inRow 55 = .ok (.istore 4, 2)) ∧ (decode cX9_inRow 57 = .ok (.goto (-21), 3)) := by decide +kernel
theorem dX9_inRow_44 : decode cX9_inRow 44 = .ok (.if_icmp .eq 16, 3) := q9_dX9_inRow_44.1
theorem dX9_inRow_47 : decode cX9_inRow 47 = .ok (.iload_n 3, 1) := q9_dX9_inRow_44.2.1
theorem dX9_inRow_48 : decode cX9_inRow 48 = .ok (.iconst 1, 1) := q9_dX9_inRow_44.2.2.1
theorem dX9_inRow_49 : decode cX9_inRow 49 = .ok (.iadd, 1) := q9_dX9_inRow_44.2.2.2.1
theorem dX9_inRow_50 : decode cX9_inRow 50 = .ok (.istore_n 3, 1) := q9_dX9_inRow_44.2.2.2.2.1
theorem dX9_inRow_51 : decode cX9_inRow 51 = .ok (.iload 4, 2) := q9_dX9_inRow_44.2.2.2.2.2.1
theorem dX9_inRow_53 : decode cX9_inRow 53 = .ok (.iconst 1, 1) := q9_dX9_inRow_44.2.2.2.2.2.2.1
theorem dX9_inRow_54 : decode cX9_inRow 54 = .ok (.iadd, 1) := q9_dX9_inRow_44.2.2.2.2.2.2.2.1
theorem dX9_inRow_55 : decode cX9_inRow 55 = .ok (.istore 4, 2) := q9_dX9_inRow_44.2.2.2.2.2.2.2.2.1
theorem dX9_inRow_57 : decode cX9_inRow 57 = .ok (.goto (-21), 3) := q9_dX9_inRow_44.2.2.2.2.2.2.2.2.2
theorem q9_dX9_inRow_60 : (decode cX9_inRow 60 = .ok (.iload_n 3, 1)) ∧ (decode cX9_inRow 61 = .ok (.ireturn, 1)) ∧ (decode cX9_inWeek 0 = .ok (.iconst 0, 1)) ∧ (decode cX9_inWeek 1 = .ok (.istore_n 3, 1)) ∧ (decode cX9_inWeek 2 = .ok (.iconst 0, 1)) ∧ (decode cX9_inWeek 3 = .ok (.istore 4, 2)) ∧ (decode cX9_inWeek 5 = .ok (.iload 4, 2)) ∧ (decode cX9_inWeek 7 = .ok (.aload_n 0, 1)) ∧ (decode cX9_inWeek 8 = .ok (.getfield 205, 3)) ∧ (decode cX9_inWeek 11 = .ok (.if_icmp .ge 54, 3)) := by decide +kernel
theorem dX9_inRow_60 : decode cX9_inRow 60 = .ok (.iload_n 3, 1) := q9_dX9_inRow_60.1
theorem dX9_inRow_61 : decode cX9_inRow 61 = .ok (.ireturn, 1) := q9_dX9_inRow_60.2.1
theorem dX9_inWeek_0 : decode cX9_inWeek 0 = .ok (.iconst 0, 1) := q9_dX9_inRow_60.2.2.1
theorem dX9_inWeek_1 : decode cX9_inWeek 1 = .ok (.istore_n 3, 1) := q9_dX9_inRow_60.2.2.2.1
theorem dX9_inWeek_2 : decode cX9_inWeek 2 = .ok (.iconst 0, 1) := q9_dX9_inRow_60.2.2.2.2.1
theorem dX9_inWeek_3 : decode cX9_inWeek 3 = .ok (.istore 4, 2) := q9_dX9_inRow_60.2.2.2.2.2.1
theorem dX9_inWeek_5 : decode cX9_inWeek 5 = .ok (.iload 4, 2) := q9_dX9_inRow_60.2.2.2.2.2.2.1
theorem dX9_inWeek_7 : decode cX9_inWeek 7 = .ok (.aload_n 0, 1) := q9_dX9_inRow_60.2.2.2.2.2.2.2.1
theorem dX9_inWeek_8 : decode cX9_inWeek 8 = .ok (.getfield 205, 3) := q9_dX9_inRow_60.2.2.2.2.2.2.2.2.1
theorem dX9_inWeek_11 : decode cX9_inWeek 11 = .ok (.if_icmp .ge 54, 3) := q9_dX9_inRow_60.2.2.2.2.2.2.2.2.2
theorem q9_dX9_inWeek_14 : (decode cX9_inWeek 14 = .ok (.iload_n 3, 1)) ∧ (decode cX9_inWeek 15 = .ok (.aload_n 0, 1)) ∧ (decode cX9_inWeek 16 = .ok (.getfield 73, 3)) ∧ (decode cX9_inWeek 19 = .ok (.iload 4, 2)) ∧ (decode cX9_inWeek 21 = .ok (.iaload, 1)) ∧ (decode cX9_inWeek 22 = .ok (.iload_n 1, 1)) ∧ (decode cX9_inWeek 23 = .ok (.if_icmp .ne 33, 3)) ∧ (decode cX9_inWeek 26 = .ok (.aload_n 0, 1)) ∧ (decode cX9_inWeek 27 = .ok (.getfield 85, 3)) ∧ (decode cX9_inWeek 30 = .ok (.iload 4, 2)) := by decide +kernel
theorem dX9_inWeek_14 : decode cX9_inWeek 14 = .ok (.iload_n 3, 1) := q9_dX9_inWeek_14.1
theorem dX9_inWeek_15 : decode cX9_inWeek 15 = .ok (.aload_n 0, 1) := q9_dX9_inWeek_14.2.1
theorem dX9_inWeek_16 : decode cX9_inWeek 16 = .ok (.getfield 73, 3) := q9_dX9_inWeek_14.2.2.1
theorem dX9_inWeek_19 : decode cX9_inWeek 19 = .ok (.iload 4, 2) := q9_dX9_inWeek_14.2.2.2.1
theorem dX9_inWeek_21 : decode cX9_inWeek 21 = .ok (.iaload, 1) := q9_dX9_inWeek_14.2.2.2.2.1
theorem dX9_inWeek_22 : decode cX9_inWeek 22 = .ok (.iload_n 1, 1) := q9_dX9_inWeek_14.2.2.2.2.2.1
theorem dX9_inWeek_23 : decode cX9_inWeek 23 = .ok (.if_icmp .ne 33, 3) := q9_dX9_inWeek_14.2.2.2.2.2.2.1
theorem dX9_inWeek_26 : decode cX9_inWeek 26 = .ok (.aload_n 0, 1) := q9_dX9_inWeek_14.2.2.2.2.2.2.2.1
theorem dX9_inWeek_27 : decode cX9_inWeek 27 = .ok (.getfield 85, 3) := q9_dX9_inWeek_14.2.2.2.2.2.2.2.2.1
theorem dX9_inWeek_30 : decode cX9_inWeek 30 = .ok (.iload 4, 2) := q9_dX9_inWeek_14.2.2.2.2.2.2.2.2.2
theorem q9_dX9_inWeek_32 : (decode cX9_inWeek 32 = .ok (.iaload, 1)) ∧ (decode cX9_inWeek 33 = .ok (.iconst 2, 1)) ∧ (decode cX9_inWeek 34 = .ok (.if_icmp .gt 22, 3)) ∧ (decode cX9_inWeek 37 = .ok (.aload_n 0, 1)) ∧ (decode cX9_inWeek 38 = .ok (.getfield 82, 3)) ∧ (decode cX9_inWeek 41 = .ok (.iload 4, 2)) ∧ (decode cX9_inWeek 43 = .ok (.iaload, 1)) ∧ (decode cX9_inWeek 44 = .ok (.sipush 168, 3)) ∧ (decode cX9_inWeek 47 = .ok (.idiv, 1)) ∧ (decode cX9_inWeek 48 = .ok (.iload_n 2, 1)) := by decide +kernel
theorem dX9_inWeek_32 : decode cX9_inWeek 32 = .ok (.iaload, 1) := q9_dX9_inWeek_32.1
theorem dX9_inWeek_33 : decode cX9_inWeek 33 = .ok (.iconst 2, 1) := q9_dX9_inWeek_32.2.1
theorem dX9_inWeek_34 : decode cX9_inWeek 34 = .ok (.if_icmp .gt 22, 3) := q9_dX9_inWeek_32.2.2.1
theorem dX9_inWeek_37 : decode cX9_inWeek 37 = .ok (.aload_n 0, 1) := q9_dX9_inWeek_32.2.2.2.1
theorem dX9_inWeek_38 : decode cX9_inWeek 38 = .ok (.getfield 82, 3) := q9_dX9_inWeek_32.2.2.2.2.1
theorem dX9_inWeek_41 : decode cX9_inWeek 41 = .ok (.iload 4, 2) := q9_dX9_inWeek_32.2.2.2.2.2.1
theorem dX9_inWeek_43 : decode cX9_inWeek 43 = .ok (.iaload, 1) := q9_dX9_inWeek_32.2.2.2.2.2.2.1
theorem dX9_inWeek_44 : decode cX9_inWeek 44 = .ok (.sipush 168, 3) := q9_dX9_inWeek_32.2.2.2.2.2.2.2.1
theorem dX9_inWeek_47 : decode cX9_inWeek 47 = .ok (.idiv, 1) := q9_dX9_inWeek_32.2.2.2.2.2.2.2.2.1
theorem dX9_inWeek_48 : decode cX9_inWeek 48 = .ok (.iload_n 2, 1) := q9_dX9_inWeek_32.2.2.2.2.2.2.2.2.2
theorem q9_dX9_inWeek_49 : (decode cX9_inWeek 49 = .ok (.if_icmp .ne 7, 3)) ∧ (decode cX9_inWeek 52 = .ok (.iconst 1, 1)) ∧ (decode cX9_inWeek 53 = .ok (.goto 4, 3)) ∧ (decode cX9_inWeek 56 = .ok (.iconst 0, 1)) ∧ (decode cX9_inWeek 57 = .ok (.iadd, 1)) ∧ (decode cX9_inWeek 58 = .ok (.istore_n 3, 1)) ∧ (decode cX9_inWeek 59 = .ok (.iinc 4 1, 3)) ∧ (decode cX9_inWeek 62 = .ok (.goto (-57), 3)) ∧ (decode cX9_inWeek 65 = .ok (.iload_n 3, 1)) ∧ (decode cX9_inWeek 66 = .ok (.ireturn, 1)) := by decide +kernel
theorem dX9_inWeek_49 : decode cX9_inWeek 49 = .ok (.if_icmp .ne 7, 3) := q9_dX9_inWeek_49.1
theorem dX9_inWeek_52 : decode cX9_inWeek 52 = .ok (.iconst 1, 1) := q9_dX9_inWeek_49.2.1
theorem dX9_inWeek_53 : decode cX9_inWeek 53 = .ok (.goto 4, 3) := q9_dX9_inWeek_49.2.2.1
theorem dX9_inWeek_56 : decode cX9_inWeek 56 = .ok (.iconst 0, 1) := q9_dX9_inWeek_49.2.2.2.1
theorem dX9_inWeek_57 : decode cX9_inWeek 57 = .ok (.iadd, 1) := q9_dX9_inWeek_49.2.2.2.2.1
theorem dX9_inWeek_58 : decode cX9_inWeek 58 = .ok (.istore_n 3, 1) := q9_dX9_inWeek_49.2.2.2.2.2.1
theorem dX9_inWeek_59 : decode cX9_inWeek 59 = .ok (.iinc 4 1, 3) := q9_dX9_inWeek_49.2.2.2.2.2.2.1
theorem dX9_inWeek_62 : decode cX9_inWeek 62 = .ok (.goto (-57), 3) := q9_dX9_inWeek_49.2.2.2.2.2.2.2.1
theorem dX9_inWeek_65 : decode cX9_inWeek 65 = .ok (.iload_n 3, 1) := q9_dX9_inWeek_49.2.2.2.2.2.2.2.2.1
theorem dX9_inWeek_66 : decode cX9_inWeek 66 = .ok (.ireturn, 1) := q9_dX9_inWeek_49.2.2.2.2.2.2.2.2.2
set_option maxRecDepth 20000 in
theorem ggX9_book_X9_isClub : GoodIn wsX9_book wsX9_isClub := goodIn_r _ [22] rfl (by decide +kernel)
set_option maxRecDepth 20000 in
theorem gX9_book_X9_isClub : GoodIn wsX9_book (va_wsS RX9 212 yX9_isClub wsX9_isClub) := goodIn_app (goodIn_of _ (by decide +kernel)) ggX9_book_X9_isClub
set_option maxRecDepth 20000 in
theorem ggX9_book_X9_isSheet : GoodIn wsX9_book wsX9_isSheet := goodIn_r _ [25] rfl (by decide +kernel)
set_option maxRecDepth 20000 in
theorem gX9_book_X9_isSheet : GoodIn wsX9_book (va_wsS RX9 216 yX9_isSheet wsX9_isSheet) := goodIn_app (goodIn_of _ (by decide +kernel)) ggX9_book_X9_isSheet
set_option maxRecDepth 20000 in
theorem ggX9_book_X9_standing : GoodIn wsX9_book wsX9_standing := goodIn_r _ [29, 2, 12, 10, 11, 46, 47, 48, 49, 50, 51, 52, 53, 54, 55, 56, 57, 58, 59, 60, 61, 62, 63, 64, 65, 66, 67, 68, 69, 70, 71, 72, 73, 74, 75, 76, 77, 78, 79, 80, 81, 82, 83, 84, 85, 86, 87, 88, 89, 90, 91, 92, 93, 94, 95, 96, 97, 98, 99, 100, 101, 102, 103, 104, 105, 106, 107, 108] rfl (by decide +kernel)
set_option maxRecDepth 20000 in
theorem gX9_book_X9_standing : GoodIn wsX9_book (wsV RX9 208 RX9 yX9_standing wsX9_standing) := goodIn_app (goodIn_of _ (by decide +kernel)) ggX9_book_X9_standing
set_option maxRecDepth 20000 in
theorem ggX9_book_X9_isClosed : GoodIn wsX9_book wsX9_isClosed := goodIn_r _ [33, 34, 35, 36, 37, 46, 47, 48, 49, 50, 51, 52, 53, 54, 55, 56, 57, 58, 59, 60, 61, 62, 63, 64, 65, 66, 67, 68, 69, 70, 71, 72, 73, 74, 75, 76, 77, 78, 79, 80, 81, 82, 83, 84, 85, 86, 87, 88, 89, 90, 91, 92, 93, 94, 95, 96, 97, 98, 99, 100, 101, 102, 103, 104, 105, 106, 107, 108] rfl (by decide +kernel)
set_option maxRecDepth 20000 in
theorem gX9_book_X9_isClosed : GoodIn wsX9_book (wsV RX9 222 RX9 yX9_isClosed wsX9_isClosed) := goodIn_app (goodIn_of _ (by decide +kernel)) ggX9_book_X9_isClosed
set_option maxRecDepth 20000 in
theorem ggX9_book_X9_inWeek : GoodIn wsX9_book wsX9_inWeek := goodIn_r _ [41, 2, 8, 12, 11, 46, 47, 48, 49, 50, 51, 52, 53, 54, 55, 56, 57, 58, 59, 60, 61, 62, 63, 64, 65, 66, 67, 68, 69, 70, 71, 72, 73, 74, 75, 76, 77, 78, 79, 80, 81, 82, 83, 84, 85, 86, 87, 88, 89, 90, 91, 92, 93, 94, 95, 96, 97, 98, 99, 100, 101, 102, 103, 104, 105, 106, 107, 108] rfl (by decide +kernel)
set_option maxRecDepth 20000 in
theorem gX9_book_X9_inWeek : GoodIn wsX9_book (wsV RX9 225 RX9 yX9_inWeek wsX9_inWeek) := goodIn_app (goodIn_of _ (by decide +kernel)) ggX9_book_X9_inWeek
set_option maxRecDepth 20000 in
theorem ggX9_book_X9_inRow : GoodIn wsX9_book wsX9_inRow := goodIn_r _ [45, 26, 27, 28, 21, 29, 2, 12, 10, 11, 46, 47, 48, 49, 50, 51, 52, 53, 54, 55, 56, 57, 58, 59, 60, 61, 62, 63, 64, 65, 66, 67, 68, 69, 70, 71, 72, 73, 74, 75, 76, 77, 78, 79, 80, 81, 82, 83, 84, 85, 86, 87, 88, 89, 90, 91, 92, 93, 94, 95, 96, 97, 98, 99, 100, 101, 102, 103, 104, 105, 106, 107, 108] rfl (by decide +kernel)
set_option maxRecDepth 20000 in
theorem gX9_book_X9_inRow : GoodIn wsX9_book (wsV RX9 228 RX9 yX9_inRow wsX9_inRow) := goodIn_app (goodIn_of _ (by decide +kernel)) ggX9_book_X9_inRow
theorem q9_dX9_book_0 : (decode cX9_book 0 = .ok (.iload_n 1, 1)) ∧ (decode cX9_book 1 = .ok (.invokestatic 212, 3)) ∧ (decode cX9_book 4 = .ok (.ifCond .eq 51, 3)) ∧ (decode cX9_book 7 = .ok (.iload_n 2, 1)) ∧ (decode cX9_book 8 = .ok (.ifCond .lt 47, 3)) ∧ (decode cX9_book 11 = .ok (.iload_n 2, 1)) ∧ (decode cX9_book 12 = .ok (.iconst 3, 1)) ∧ (decode cX9_book 13 = .ok (.if_icmp .gt 42, 3)) ∧ (decode cX9_book 16 = .ok (.iload_n 3, 1)) ∧ (decode cX9_book 17 = .ok (.invokestatic 216, 3)) := by decide +kernel
theorem dX9_book_0 : decode cX9_book 0 = .ok (.iload_n 1, 1) := q9_dX9_book_0.1
theorem dX9_book_1 : decode cX9_book 1 = .ok (.invokestatic 212, 3) := q9_dX9_book_0.2.1
theorem dX9_book_4 : decode cX9_book 4 = .ok (.ifCond .eq 51, 3) := q9_dX9_book_0.2.2.1
theorem dX9_book_7 : decode cX9_book 7 = .ok (.iload_n 2, 1) := q9_dX9_book_0.2.2.2.1
theorem dX9_book_8 : decode cX9_book 8 = .ok (.ifCond .lt 47, 3) := q9_dX9_book_0.2.2.2.2.1
theorem dX9_book_11 : decode cX9_book 11 = .ok (.iload_n 2, 1) := q9_dX9_book_0.2.2.2.2.2.1
theorem dX9_book_12 : decode cX9_book 12 = .ok (.iconst 3, 1) := q9_dX9_book_0.2.2.2.2.2.2.1
theorem dX9_book_13 : decode cX9_book 13 = .ok (.if_icmp .gt 42, 3) := q9_dX9_book_0.2.2.2.2.2.2.2.1
theorem dX9_book_16 : decode cX9_book 16 = .ok (.iload_n 3, 1) := q9_dX9_book_0.2.2.2.2.2.2.2.2.1
theorem dX9_book_17 : decode cX9_book 17 = .ok (.invokestatic 216, 3) := q9_dX9_book_0.2.2.2.2.2.2.2.2.2
theorem q9_dX9_book_20 : (decode cX9_book 20 = .ok (.ifCond .eq 35, 3)) ∧ (decode cX9_book 23 = .ok (.iload 4, 2)) ∧ (decode cX9_book 25 = .ok (.aload_n 0, 1)) ∧ (decode cX9_book 26 = .ok (.getfield 219, 3)) ∧ (decode cX9_book 29 = .ok (.if_icmp .lt 26, 3)) ∧ (decode cX9_book 32 = .ok (.iload 4, 2)) ∧ (decode cX9_book 34 = .ok (.aload_n 0, 1)) ∧ (decode cX9_book 35 = .ok (.getfield 219, 3)) ∧ (decode cX9_book 38 = .ok (.sipush 999, 3)) ∧ (decode cX9_book 41 = .ok (.iadd, 1)) := by decide +kernel
theorem dX9_book_20 : decode cX9_book 20 = .ok (.ifCond .eq 35, 3) := q9_dX9_book_20.1
theorem dX9_book_23 : decode cX9_book 23 = .ok (.iload 4, 2) := q9_dX9_book_20.2.1
theorem dX9_book_25 : decode cX9_book 25 = .ok (.aload_n 0, 1) := q9_dX9_book_20.2.2.1
theorem dX9_book_26 : decode cX9_book 26 = .ok (.getfield 219, 3) := q9_dX9_book_20.2.2.2.1
theorem dX9_book_29 : decode cX9_book 29 = .ok (.if_icmp .lt 26, 3) := q9_dX9_book_20.2.2.2.2.1
theorem dX9_book_32 : decode cX9_book 32 = .ok (.iload 4, 2) := q9_dX9_book_20.2.2.2.2.2.1
theorem dX9_book_34 : decode cX9_book 34 = .ok (.aload_n 0, 1) := q9_dX9_book_20.2.2.2.2.2.2.1
theorem dX9_book_35 : decode cX9_book 35 = .ok (.getfield 219, 3) := q9_dX9_book_20.2.2.2.2.2.2.2.1
theorem dX9_book_38 : decode cX9_book 38 = .ok (.sipush 999, 3) := q9_dX9_book_20.2.2.2.2.2.2.2.2.1
theorem dX9_book_41 : decode cX9_book 41 = .ok (.iadd, 1) := q9_dX9_book_20.2.2.2.2.2.2.2.2.2
theorem q9_dX9_book_42 : (decode cX9_book 42 = .ok (.if_icmp .gt 13, 3)) ∧ (decode cX9_book 45 = .ok (.aload_n 0, 1)) ∧ (decode cX9_book 46 = .ok (.getfield 205, 3)) ∧ (decode cX9_book 49 = .ok (.sipush 200, 3)) ∧ (decode cX9_book 52 = .ok (.if_icmp .ne 5, 3)) ∧ (decode cX9_book 55 = .ok (.iconst (-1), 1)) ∧ (decode cX9_book 56 = .ok (.ireturn, 1)) ∧ (decode cX9_book 57 = .ok (.aload_n 0, 1)) ∧ (decode cX9_book 58 = .ok (.iload_n 3, 1)) ∧ (decode cX9_book 59 = .ok (.iload 4, 2)) := by decide +kernel
theorem dX9_book_42 : decode cX9_book 42 = .ok (.if_icmp .gt 13, 3) := q9_dX9_book_42.1
theorem dX9_book_45 : decode cX9_book 45 = .ok (.aload_n 0, 1) := q9_dX9_book_42.2.1
theorem dX9_book_46 : decode cX9_book 46 = .ok (.getfield 205, 3) := q9_dX9_book_42.2.2.1
theorem dX9_book_49 : decode cX9_book 49 = .ok (.sipush 200, 3) := q9_dX9_book_42.2.2.2.1
theorem dX9_book_52 : decode cX9_book 52 = .ok (.if_icmp .ne 5, 3) := q9_dX9_book_42.2.2.2.2.1
theorem dX9_book_55 : decode cX9_book 55 = .ok (.iconst (-1), 1) := q9_dX9_book_42.2.2.2.2.2.1
theorem dX9_book_56 : decode cX9_book 56 = .ok (.ireturn, 1) := q9_dX9_book_42.2.2.2.2.2.2.1
theorem dX9_book_57 : decode cX9_book 57 = .ok (.aload_n 0, 1) := q9_dX9_book_42.2.2.2.2.2.2.2.1
theorem dX9_book_58 : decode cX9_book 58 = .ok (.iload_n 3, 1) := q9_dX9_book_42.2.2.2.2.2.2.2.2.1
theorem dX9_book_59 : decode cX9_book 59 = .ok (.iload 4, 2) := q9_dX9_book_42.2.2.2.2.2.2.2.2.2
theorem q9_dX9_book_61 : (decode cX9_book 61 = .ok (.invokevirtual 208, 3)) ∧ (decode cX9_book 64 = .ok (.iconst (-1), 1)) ∧ (decode cX9_book 65 = .ok (.if_icmp .ne 13, 3)) ∧ (decode cX9_book 68 = .ok (.aload_n 0, 1)) ∧ (decode cX9_book 69 = .ok (.iload_n 3, 1)) ∧ (decode cX9_book 70 = .ok (.iload 4, 2)) ∧ (decode cX9_book 72 = .ok (.invokevirtual 222, 3)) ∧ (decode cX9_book 75 = .ok (.ifCond .eq 5, 3)) ∧ (decode cX9_book 78 = .ok (.iconst (-1), 1)) ∧ (decode cX9_book 79 = .ok (.ireturn, 1)) := by decide +kernel
theorem dX9_book_61 : decode cX9_book 61 = .ok (.invokevirtual 208, 3) := q9_dX9_book_61.1
theorem dX9_book_64 : decode cX9_book 64 = .ok (.iconst (-1), 1) := q9_dX9_book_61.2.1
theorem dX9_book_65 : decode cX9_book 65 = .ok (.if_icmp .ne 13, 3) := q9_dX9_book_61.2.2.1
theorem dX9_book_68 : decode cX9_book 68 = .ok (.aload_n 0, 1) := q9_dX9_book_61.2.2.2.1
theorem dX9_book_69 : decode cX9_book 69 = .ok (.iload_n 3, 1) := q9_dX9_book_61.2.2.2.2.1
theorem dX9_book_70 : decode cX9_book 70 = .ok (.iload 4, 2) := q9_dX9_book_61.2.2.2.2.2.1
theorem dX9_book_72 : decode cX9_book 72 = .ok (.invokevirtual 222, 3) := q9_dX9_book_61.2.2.2.2.2.2.1
theorem dX9_book_75 : decode cX9_book 75 = .ok (.ifCond .eq 5, 3) := q9_dX9_book_61.2.2.2.2.2.2.2.1
theorem dX9_book_78 : decode cX9_book 78 = .ok (.iconst (-1), 1) := q9_dX9_book_61.2.2.2.2.2.2.2.2.1
theorem dX9_book_79 : decode cX9_book 79 = .ok (.ireturn, 1) := q9_dX9_book_61.2.2.2.2.2.2.2.2.2
theorem q9_dX9_book_80 : (decode cX9_book 80 = .ok (.aload_n 0, 1)) ∧ (decode cX9_book 81 = .ok (.getfield 13, 3)) ∧ (decode cX9_book 84 = .ok (.iload_n 1, 1)) ∧ (decode cX9_book 85 = .ok (.iaload, 1)) ∧ (decode cX9_book 86 = .ok (.iload 4, 2)) ∧ (decode cX9_book 88 = .ok (.bipush 24, 2)) ∧ (decode cX9_book 90 = .ok (.irem, 1)) ∧ (decode cX9_book 91 = .ok (.ishr, 1)) ∧ (decode cX9_book 92 = .ok (.iconst 1, 1)) ∧ (decode cX9_book 93 = .ok (.iand, 1)) := by decide +kernel
theorem dX9_book_80 : decode cX9_book 80 = .ok (.aload_n 0, 1) := q9_dX9_book_80.1
theorem dX9_book_81 : decode cX9_book 81 = .ok (.getfield 13, 3) := q9_dX9_book_80.2.1
theorem dX9_book_84 : decode cX9_book 84 = .ok (.iload_n 1, 1) := q9_dX9_book_80.2.2.1
theorem dX9_book_85 : decode cX9_book 85 = .ok (.iaload, 1) := q9_dX9_book_80.2.2.2.1
theorem dX9_book_86 : decode cX9_book 86 = .ok (.iload 4, 2) := q9_dX9_book_80.2.2.2.2.1
theorem dX9_book_88 : decode cX9_book 88 = .ok (.bipush 24, 2) := q9_dX9_book_80.2.2.2.2.2.1
theorem dX9_book_90 : decode cX9_book 90 = .ok (.irem, 1) := q9_dX9_book_80.2.2.2.2.2.2.1
theorem dX9_book_91 : decode cX9_book 91 = .ok (.ishr, 1) := q9_dX9_book_80.2.2.2.2.2.2.2.1
theorem dX9_book_92 : decode cX9_book 92 = .ok (.iconst 1, 1) := q9_dX9_book_80.2.2.2.2.2.2.2.2.1
theorem dX9_book_93 : decode cX9_book 93 = .ok (.iand, 1) := q9_dX9_book_80.2.2.2.2.2.2.2.2.2
theorem q9_dX9_book_94 : (decode cX9_book 94 = .ok (.iconst 1, 1)) ∧ (decode cX9_book 95 = .ok (.if_icmp .ne 62, 3)) ∧ (decode cX9_book 98 = .ok (.aload_n 0, 1)) ∧ (decode cX9_book 99 = .ok (.getfield 17, 3)) ∧ (decode cX9_book 102 = .ok (.iload_n 1, 1)) ∧ (decode cX9_book 103 = .ok (.iaload, 1)) ∧ (decode cX9_book 104 = .ok (.iload 4, 2)) ∧ (decode cX9_book 106 = .ok (.bipush 24, 2)) ∧ (decode cX9_book 108 = .ok (.idiv, 1)) ∧ (decode cX9_book 109 = .ok (.bipush 7, 2)) := by decide +kernel
theorem dX9_book_94 : decode cX9_book 94 = .ok (.iconst 1, 1) := q9_dX9_book_94.1
theorem dX9_book_95 : decode cX9_book 95 = .ok (.if_icmp .ne 62, 3) := q9_dX9_book_94.2.1
theorem dX9_book_98 : decode cX9_book 98 = .ok (.aload_n 0, 1) := q9_dX9_book_94.2.2.1
theorem dX9_book_99 : decode cX9_book 99 = .ok (.getfield 17, 3) := q9_dX9_book_94.2.2.2.1
theorem dX9_book_102 : decode cX9_book 102 = .ok (.iload_n 1, 1) := q9_dX9_book_94.2.2.2.2.1
theorem dX9_book_103 : decode cX9_book 103 = .ok (.iaload, 1) := q9_dX9_book_94.2.2.2.2.2.1
theorem dX9_book_104 : decode cX9_book 104 = .ok (.iload 4, 2) := q9_dX9_book_94.2.2.2.2.2.2.1
theorem dX9_book_106 : decode cX9_book 106 = .ok (.bipush 24, 2) := q9_dX9_book_94.2.2.2.2.2.2.2.1
theorem dX9_book_108 : decode cX9_book 108 = .ok (.idiv, 1) := q9_dX9_book_94.2.2.2.2.2.2.2.2.1
theorem dX9_book_109 : decode cX9_book 109 = .ok (.bipush 7, 2) := q9_dX9_book_94.2.2.2.2.2.2.2.2.2
theorem q9_dX9_book_111 : (decode cX9_book 111 = .ok (.irem, 1)) ∧ (decode cX9_book 112 = .ok (.ishr, 1)) ∧ (decode cX9_book 113 = .ok (.iconst 1, 1)) ∧ (decode cX9_book 114 = .ok (.iand, 1)) ∧ (decode cX9_book 115 = .ok (.iconst 1, 1)) ∧ (decode cX9_book 116 = .ok (.if_icmp .ne 41, 3)) ∧ (decode cX9_book 119 = .ok (.aload_n 0, 1)) ∧ (decode cX9_book 120 = .ok (.getfield 20, 3)) ∧ (decode cX9_book 123 = .ok (.iload_n 1, 1)) ∧ (decode cX9_book 124 = .ok (.iaload, 1)) := by decide +kernel
theorem dX9_book_111 : decode cX9_book 111 = .ok (.irem, 1) := q9_dX9_book_111.1
theorem dX9_book_112 : decode cX9_book 112 = .ok (.ishr, 1) := q9_dX9_book_111.2.1
theorem dX9_book_113 : decode cX9_book 113 = .ok (.iconst 1, 1) := q9_dX9_book_111.2.2.1
theorem dX9_book_114 : decode cX9_book 114 = .ok (.iand, 1) := q9_dX9_book_111.2.2.2.1
theorem dX9_book_115 : decode cX9_book 115 = .ok (.iconst 1, 1) := q9_dX9_book_111.2.2.2.2.1
theorem dX9_book_116 : decode cX9_book 116 = .ok (.if_icmp .ne 41, 3) := q9_dX9_book_111.2.2.2.2.2.1
theorem dX9_book_119 : decode cX9_book 119 = .ok (.aload_n 0, 1) := q9_dX9_book_111.2.2.2.2.2.2.1
theorem dX9_book_120 : decode cX9_book 120 = .ok (.getfield 20, 3) := q9_dX9_book_111.2.2.2.2.2.2.2.1
theorem dX9_book_123 : decode cX9_book 123 = .ok (.iload_n 1, 1) := q9_dX9_book_111.2.2.2.2.2.2.2.2.1
theorem dX9_book_124 : decode cX9_book 124 = .ok (.iaload, 1) := q9_dX9_book_111.2.2.2.2.2.2.2.2.2
theorem q9_dX9_book_125 : (decode cX9_book 125 = .ok (.iload_n 2, 1)) ∧ (decode cX9_book 126 = .ok (.ishr, 1)) ∧ (decode cX9_book 127 = .ok (.iconst 1, 1)) ∧ (decode cX9_book 128 = .ok (.iand, 1)) ∧ (decode cX9_book 129 = .ok (.iconst 1, 1)) ∧ (decode cX9_book 130 = .ok (.if_icmp .ne 27, 3)) ∧ (decode cX9_book 133 = .ok (.aload_n 0, 1)) ∧ (decode cX9_book 134 = .ok (.iload_n 1, 1)) ∧ (decode cX9_book 135 = .ok (.iload 4, 2)) ∧ (decode cX9_book 137 = .ok (.sipush 168, 3)) := by decide +kernel
theorem dX9_book_125 : decode cX9_book 125 = .ok (.iload_n 2, 1) := q9_dX9_book_125.1
theorem dX9_book_126 : decode cX9_book 126 = .ok (.ishr, 1) := q9_dX9_book_125.2.1
theorem dX9_book_127 : decode cX9_book 127 = .ok (.iconst 1, 1) := q9_dX9_book_125.2.2.1
theorem dX9_book_128 : decode cX9_book 128 = .ok (.iand, 1) := q9_dX9_book_125.2.2.2.1
theorem dX9_book_129 : decode cX9_book 129 = .ok (.iconst 1, 1) := q9_dX9_book_125.2.2.2.2.1
theorem dX9_book_130 : decode cX9_book 130 = .ok (.if_icmp .ne 27, 3) := q9_dX9_book_125.2.2.2.2.2.1
theorem dX9_book_133 : decode cX9_book 133 = .ok (.aload_n 0, 1) := q9_dX9_book_125.2.2.2.2.2.2.1
theorem dX9_book_134 : decode cX9_book 134 = .ok (.iload_n 1, 1) := q9_dX9_book_125.2.2.2.2.2.2.2.1
theorem dX9_book_135 : decode cX9_book 135 = .ok (.iload 4, 2) := q9_dX9_book_125.2.2.2.2.2.2.2.2.1
theorem dX9_book_137 : decode cX9_book 137 = .ok (.sipush 168, 3) := q9_dX9_book_125.2.2.2.2.2.2.2.2.2
theorem q9_dX9_book_140 : (decode cX9_book 140 = .ok (.idiv, 1)) ∧ (decode cX9_book 141 = .ok (.invokevirtual 225, 3)) ∧ (decode cX9_book 144 = .ok (.aload_n 0, 1)) ∧ (decode cX9_book 145 = .ok (.getfield 23, 3)) ∧ (decode cX9_book 148 = .ok (.iload_n 1, 1)) ∧ (decode cX9_book 149 = .ok (.iaload, 1)) ∧ (decode cX9_book 150 = .ok (.if_icmp .ge 7, 3)) ∧ (decode cX9_book 153 = .ok (.iconst 1, 1)) ∧ (decode cX9_book 154 = .ok (.goto 4, 3)) ∧ (decode cX9_book 157 = .ok (.iconst 0, 1)) := by decide +kernel
theorem dX9_book_140 : decode cX9_book 140 = .ok (.idiv, 1) := q9_dX9_book_140.1
theorem dX9_book_141 : decode cX9_book 141 = .ok (.invokevirtual 225, 3) := q9_dX9_book_140.2.1
theorem dX9_book_144 : decode cX9_book 144 = .ok (.aload_n 0, 1) := q9_dX9_book_140.2.2.1
theorem dX9_book_145 : decode cX9_book 145 = .ok (.getfield 23, 3) := q9_dX9_book_140.2.2.2.1
theorem dX9_book_148 : decode cX9_book 148 = .ok (.iload_n 1, 1) := q9_dX9_book_140.2.2.2.2.1
theorem dX9_book_149 : decode cX9_book 149 = .ok (.iaload, 1) := q9_dX9_book_140.2.2.2.2.2.1
theorem dX9_book_150 : decode cX9_book 150 = .ok (.if_icmp .ge 7, 3) := q9_dX9_book_140.2.2.2.2.2.2.1
theorem dX9_book_153 : decode cX9_book 153 = .ok (.iconst 1, 1) := q9_dX9_book_140.2.2.2.2.2.2.2.1
theorem dX9_book_154 : decode cX9_book 154 = .ok (.goto 4, 3) := q9_dX9_book_140.2.2.2.2.2.2.2.2.1
theorem dX9_book_157 : decode cX9_book 157 = .ok (.iconst 0, 1) := q9_dX9_book_140.2.2.2.2.2.2.2.2.2
theorem q9_dX9_book_158 : (decode cX9_book 158 = .ok (.istore 5, 2)) ∧ (decode cX9_book 160 = .ok (.iload 5, 2)) ∧ (decode cX9_book 162 = .ok (.ifCond .eq 17, 3)) ∧ (decode cX9_book 165 = .ok (.aload_n 0, 1)) ∧ (decode cX9_book 166 = .ok (.iload_n 3, 1)) ∧ (decode cX9_book 167 = .ok (.iload 4, 2)) ∧ (decode cX9_book 169 = .ok (.invokevirtual 228, 3)) ∧ (decode cX9_book 172 = .ok (.aload_n 0, 1)) ∧ (decode cX9_book 173 = .ok (.getfield 42, 3)) ∧ (decode cX9_book 176 = .ok (.if_icmp .le 5, 3)) := by decide +kernel
theorem dX9_book_158 : decode cX9_book 158 = .ok (.istore 5, 2) := q9_dX9_book_158.1
theorem dX9_book_160 : decode cX9_book 160 = .ok (.iload 5, 2) := q9_dX9_book_158.2.1
theorem dX9_book_162 : decode cX9_book 162 = .ok (.ifCond .eq 17, 3) := q9_dX9_book_158.2.2.1
theorem dX9_book_165 : decode cX9_book 165 = .ok (.aload_n 0, 1) := q9_dX9_book_158.2.2.2.1
theorem dX9_book_166 : decode cX9_book 166 = .ok (.iload_n 3, 1) := q9_dX9_book_158.2.2.2.2.1
theorem dX9_book_167 : decode cX9_book 167 = .ok (.iload 4, 2) := q9_dX9_book_158.2.2.2.2.2.1
theorem dX9_book_169 : decode cX9_book 169 = .ok (.invokevirtual 228, 3) := q9_dX9_book_158.2.2.2.2.2.2.1
theorem dX9_book_172 : decode cX9_book 172 = .ok (.aload_n 0, 1) := q9_dX9_book_158.2.2.2.2.2.2.2.1
theorem dX9_book_173 : decode cX9_book 173 = .ok (.getfield 42, 3) := q9_dX9_book_158.2.2.2.2.2.2.2.2.1
theorem dX9_book_176 : decode cX9_book 176 = .ok (.if_icmp .le 5, 3) := q9_dX9_book_158.2.2.2.2.2.2.2.2.2
theorem q9_dX9_book_179 : (decode cX9_book 179 = .ok (.iconst (-1), 1)) ∧ (decode cX9_book 180 = .ok (.ireturn, 1)) ∧ (decode cX9_book 181 = .ok (.aload_n 0, 1)) ∧ (decode cX9_book 182 = .ok (.getfield 73, 3)) ∧ (decode cX9_book 185 = .ok (.aload_n 0, 1)) ∧ (decode cX9_book 186 = .ok (.getfield 205, 3)) ∧ (decode cX9_book 189 = .ok (.iload_n 1, 1)) ∧ (decode cX9_book 190 = .ok (.iastore, 1)) ∧ (decode cX9_book 191 = .ok (.aload_n 0, 1)) ∧ (decode cX9_book 192 = .ok (.getfield 76, 3)) := by decide +kernel
theorem dX9_book_179 : decode cX9_book 179 = .ok (.iconst (-1), 1) := q9_dX9_book_179.1
theorem dX9_book_180 : decode cX9_book 180 = .ok (.ireturn, 1) := q9_dX9_book_179.2.1
theorem dX9_book_181 : decode cX9_book 181 = .ok (.aload_n 0, 1) := q9_dX9_book_179.2.2.1
theorem dX9_book_182 : decode cX9_book 182 = .ok (.getfield 73, 3) := q9_dX9_book_179.2.2.2.1
theorem dX9_book_185 : decode cX9_book 185 = .ok (.aload_n 0, 1) := q9_dX9_book_179.2.2.2.2.1
theorem dX9_book_186 : decode cX9_book 186 = .ok (.getfield 205, 3) := q9_dX9_book_179.2.2.2.2.2.1
theorem dX9_book_189 : decode cX9_book 189 = .ok (.iload_n 1, 1) := q9_dX9_book_179.2.2.2.2.2.2.1
theorem dX9_book_190 : decode cX9_book 190 = .ok (.iastore, 1) := q9_dX9_book_179.2.2.2.2.2.2.2.1
theorem dX9_book_191 : decode cX9_book 191 = .ok (.aload_n 0, 1) := q9_dX9_book_179.2.2.2.2.2.2.2.2.1
theorem dX9_book_192 : decode cX9_book 192 = .ok (.getfield 76, 3) := q9_dX9_book_179.2.2.2.2.2.2.2.2.2
theorem q9_dX9_book_195 : (decode cX9_book 195 = .ok (.aload_n 0, 1)) ∧ (decode cX9_book 196 = .ok (.getfield 205, 3)) ∧ (decode cX9_book 199 = .ok (.iload_n 2, 1)) ∧ (decode cX9_book 200 = .ok (.iastore, 1)) ∧ (decode cX9_book 201 = .ok (.aload_n 0, 1)) ∧ (decode cX9_book 202 = .ok (.getfield 79, 3)) ∧ (decode cX9_book 205 = .ok (.aload_n 0, 1)) ∧ (decode cX9_book 206 = .ok (.getfield 205, 3)) ∧ (decode cX9_book 209 = .ok (.iload_n 3, 1)) ∧ (decode cX9_book 210 = .ok (.iastore, 1)) := by decide +kernel
theorem dX9_book_195 : decode cX9_book 195 = .ok (.aload_n 0, 1) := q9_dX9_book_195.1
theorem dX9_book_196 : decode cX9_book 196 = .ok (.getfield 205, 3) := q9_dX9_book_195.2.1
theorem dX9_book_199 : decode cX9_book 199 = .ok (.iload_n 2, 1) := q9_dX9_book_195.2.2.1
theorem dX9_book_200 : decode cX9_book 200 = .ok (.iastore, 1) := q9_dX9_book_195.2.2.2.1
theorem dX9_book_201 : decode cX9_book 201 = .ok (.aload_n 0, 1) := q9_dX9_book_195.2.2.2.2.1
theorem dX9_book_202 : decode cX9_book 202 = .ok (.getfield 79, 3) := q9_dX9_book_195.2.2.2.2.2.1
theorem dX9_book_205 : decode cX9_book 205 = .ok (.aload_n 0, 1) := q9_dX9_book_195.2.2.2.2.2.2.1
theorem dX9_book_206 : decode cX9_book 206 = .ok (.getfield 205, 3) := q9_dX9_book_195.2.2.2.2.2.2.2.1
theorem dX9_book_209 : decode cX9_book 209 = .ok (.iload_n 3, 1) := q9_dX9_book_195.2.2.2.2.2.2.2.2.1
theorem dX9_book_210 : decode cX9_book 210 = .ok (.iastore, 1) := q9_dX9_book_195.2.2.2.2.2.2.2.2.2
theorem q9_dX9_book_211 : (decode cX9_book 211 = .ok (.aload_n 0, 1)) ∧ (decode cX9_book 212 = .ok (.getfield 82, 3)) ∧ (decode cX9_book 215 = .ok (.aload_n 0, 1)) ∧ (decode cX9_book 216 = .ok (.getfield 205, 3)) ∧ (decode cX9_book 219 = .ok (.iload 4, 2)) ∧ (decode cX9_book 221 = .ok (.iastore, 1)) ∧ (decode cX9_book 222 = .ok (.aload_n 0, 1)) ∧ (decode cX9_book 223 = .ok (.getfield 85, 3)) ∧ (decode cX9_book 226 = .ok (.aload_n 0, 1)) ∧ (decode cX9_book 227 = .ok (.getfield 205, 3)) := by decide +kernel
theorem dX9_book_211 : decode cX9_book 211 = .ok (.aload_n 0, 1) := q9_dX9_book_211.1
theorem dX9_book_212 : decode cX9_book 212 = .ok (.getfield 82, 3) := q9_dX9_book_211.2.1
theorem dX9_book_215 : decode cX9_book 215 = .ok (.aload_n 0, 1) := q9_dX9_book_211.2.2.1
theorem dX9_book_216 : decode cX9_book 216 = .ok (.getfield 205, 3) := q9_dX9_book_211.2.2.2.1
theorem dX9_book_219 : decode cX9_book 219 = .ok (.iload 4, 2) := q9_dX9_book_211.2.2.2.2.1
theorem dX9_book_221 : decode cX9_book 221 = .ok (.iastore, 1) := q9_dX9_book_211.2.2.2.2.2.1
theorem dX9_book_222 : decode cX9_book 222 = .ok (.aload_n 0, 1) := q9_dX9_book_211.2.2.2.2.2.2.1
theorem dX9_book_223 : decode cX9_book 223 = .ok (.getfield 85, 3) := q9_dX9_book_211.2.2.2.2.2.2.2.1
theorem dX9_book_226 : decode cX9_book 226 = .ok (.aload_n 0, 1) := q9_dX9_book_211.2.2.2.2.2.2.2.2.1
theorem dX9_book_227 : decode cX9_book 227 = .ok (.getfield 205, 3) := q9_dX9_book_211.2.2.2.2.2.2.2.2.2
theorem q9_dX9_book_230 : (decode cX9_book 230 = .ok (.iconst 0, 1)) ∧ (decode cX9_book 231 = .ok (.iastore, 1)) ∧ (decode cX9_book 232 = .ok (.aload_n 0, 1)) ∧ (decode cX9_book 233 = .ok (.getfield 88, 3)) ∧ (decode cX9_book 236 = .ok (.aload_n 0, 1)) ∧ (decode cX9_book 237 = .ok (.getfield 205, 3)) ∧ (decode cX9_book 240 = .ok (.iconst 0, 1)) ∧ (decode cX9_book 241 = .ok (.iastore, 1)) ∧ (decode cX9_book 242 = .ok (.aload_n 0, 1)) ∧ (decode cX9_book 243 = .ok (.getfield 91, 3)) := by decide +kernel
theorem dX9_book_230 : decode cX9_book 230 = .ok (.iconst 0, 1) := q9_dX9_book_230.1
theorem dX9_book_231 : decode cX9_book 231 = .ok (.iastore, 1) := q9_dX9_book_230.2.1
theorem dX9_book_232 : decode cX9_book 232 = .ok (.aload_n 0, 1) := q9_dX9_book_230.2.2.1
theorem dX9_book_233 : decode cX9_book 233 = .ok (.getfield 88, 3) := q9_dX9_book_230.2.2.2.1
theorem dX9_book_236 : decode cX9_book 236 = .ok (.aload_n 0, 1) := q9_dX9_book_230.2.2.2.2.1
theorem dX9_book_237 : decode cX9_book 237 = .ok (.getfield 205, 3) := q9_dX9_book_230.2.2.2.2.2.1
theorem dX9_book_240 : decode cX9_book 240 = .ok (.iconst 0, 1) := q9_dX9_book_230.2.2.2.2.2.2.1
theorem dX9_book_241 : decode cX9_book 241 = .ok (.iastore, 1) := q9_dX9_book_230.2.2.2.2.2.2.2.1
theorem dX9_book_242 : decode cX9_book 242 = .ok (.aload_n 0, 1) := q9_dX9_book_230.2.2.2.2.2.2.2.2.1
theorem dX9_book_243 : decode cX9_book 243 = .ok (.getfield 91, 3) := q9_dX9_book_230.2.2.2.2.2.2.2.2.2
theorem q9_dX9_book_246 : (decode cX9_book 246 = .ok (.aload_n 0, 1)) ∧ (decode cX9_book 247 = .ok (.getfield 205, 3)) ∧ (decode cX9_book 250 = .ok (.aload_n 0, 1)) ∧ (decode cX9_book 251 = .ok (.getfield 26, 3)) ∧ (decode cX9_book 254 = .ok (.iload_n 1, 1)) ∧ (decode cX9_book 255 = .ok (.iaload, 1)) ∧ (decode cX9_book 256 = .ok (.iastore, 1)) ∧ (decode cX9_book 257 = .ok (.aload_n 0, 1)) ∧ (decode cX9_book 258 = .ok (.getfield 94, 3)) ∧ (decode cX9_book 261 = .ok (.aload_n 0, 1)) := by decide +kernel
theorem dX9_book_246 : decode cX9_book 246 = .ok (.aload_n 0, 1) := q9_dX9_book_246.1
theorem dX9_book_247 : decode cX9_book 247 = .ok (.getfield 205, 3) := q9_dX9_book_246.2.1
theorem dX9_book_250 : decode cX9_book 250 = .ok (.aload_n 0, 1) := q9_dX9_book_246.2.2.1
theorem dX9_book_251 : decode cX9_book 251 = .ok (.getfield 26, 3) := q9_dX9_book_246.2.2.2.1
theorem dX9_book_254 : decode cX9_book 254 = .ok (.iload_n 1, 1) := q9_dX9_book_246.2.2.2.2.1
theorem dX9_book_255 : decode cX9_book 255 = .ok (.iaload, 1) := q9_dX9_book_246.2.2.2.2.2.1
theorem dX9_book_256 : decode cX9_book 256 = .ok (.iastore, 1) := q9_dX9_book_246.2.2.2.2.2.2.1
theorem dX9_book_257 : decode cX9_book 257 = .ok (.aload_n 0, 1) := q9_dX9_book_246.2.2.2.2.2.2.2.1
theorem dX9_book_258 : decode cX9_book 258 = .ok (.getfield 94, 3) := q9_dX9_book_246.2.2.2.2.2.2.2.2.1
theorem dX9_book_261 : decode cX9_book 261 = .ok (.aload_n 0, 1) := q9_dX9_book_246.2.2.2.2.2.2.2.2.2
theorem q9_dX9_book_262 : (decode cX9_book 262 = .ok (.getfield 205, 3)) ∧ (decode cX9_book 265 = .ok (.aload_n 0, 1)) ∧ (decode cX9_book 266 = .ok (.getfield 29, 3)) ∧ (decode cX9_book 269 = .ok (.iload_n 1, 1)) ∧ (decode cX9_book 270 = .ok (.iaload, 1)) ∧ (decode cX9_book 271 = .ok (.iastore, 1)) ∧ (decode cX9_book 272 = .ok (.aload_n 0, 1)) ∧ (decode cX9_book 273 = .ok (.getfield 97, 3)) ∧ (decode cX9_book 276 = .ok (.aload_n 0, 1)) ∧ (decode cX9_book 277 = .ok (.getfield 205, 3)) := by decide +kernel
theorem dX9_book_262 : decode cX9_book 262 = .ok (.getfield 205, 3) := q9_dX9_book_262.1
theorem dX9_book_265 : decode cX9_book 265 = .ok (.aload_n 0, 1) := q9_dX9_book_262.2.1
theorem dX9_book_266 : decode cX9_book 266 = .ok (.getfield 29, 3) := q9_dX9_book_262.2.2.1
theorem dX9_book_269 : decode cX9_book 269 = .ok (.iload_n 1, 1) := q9_dX9_book_262.2.2.2.1
theorem dX9_book_270 : decode cX9_book 270 = .ok (.iaload, 1) := q9_dX9_book_262.2.2.2.2.1
theorem dX9_book_271 : decode cX9_book 271 = .ok (.iastore, 1) := q9_dX9_book_262.2.2.2.2.2.1
theorem dX9_book_272 : decode cX9_book 272 = .ok (.aload_n 0, 1) := q9_dX9_book_262.2.2.2.2.2.2.1
theorem dX9_book_273 : decode cX9_book 273 = .ok (.getfield 97, 3) := q9_dX9_book_262.2.2.2.2.2.2.2.1
theorem dX9_book_276 : decode cX9_book 276 = .ok (.aload_n 0, 1) := q9_dX9_book_262.2.2.2.2.2.2.2.2.1
theorem dX9_book_277 : decode cX9_book 277 = .ok (.getfield 205, 3) := q9_dX9_book_262.2.2.2.2.2.2.2.2.2
theorem q9_dX9_book_280 : (decode cX9_book 280 = .ok (.iconst 0, 1)) ∧ (decode cX9_book 281 = .ok (.iastore, 1)) ∧ (decode cX9_book 282 = .ok (.aload_n 0, 1)) ∧ (decode cX9_book 283 = .ok (.aload_n 0, 1)) ∧ (decode cX9_book 284 = .ok (.getfield 205, 3)) ∧ (decode cX9_book 287 = .ok (.iconst 1, 1)) ∧ (decode cX9_book 288 = .ok (.iadd, 1)) ∧ (decode cX9_book 289 = .ok (.putfield 205, 3)) ∧ (decode cX9_book 292 = .ok (.aload_n 0, 1)) ∧ (decode cX9_book 293 = .ok (.getfield 205, 3)) := by decide +kernel
theorem dX9_book_280 : decode cX9_book 280 = .ok (.iconst 0, 1) := q9_dX9_book_280.1
theorem dX9_book_281 : decode cX9_book 281 = .ok (.iastore, 1) := q9_dX9_book_280.2.1
theorem dX9_book_282 : decode cX9_book 282 = .ok (.aload_n 0, 1) := q9_dX9_book_280.2.2.1
theorem dX9_book_283 : decode cX9_book 283 = .ok (.aload_n 0, 1) := q9_dX9_book_280.2.2.2.1
theorem dX9_book_284 : decode cX9_book 284 = .ok (.getfield 205, 3) := q9_dX9_book_280.2.2.2.2.1
theorem dX9_book_287 : decode cX9_book 287 = .ok (.iconst 1, 1) := q9_dX9_book_280.2.2.2.2.2.1
theorem dX9_book_288 : decode cX9_book 288 = .ok (.iadd, 1) := q9_dX9_book_280.2.2.2.2.2.2.1
theorem dX9_book_289 : decode cX9_book 289 = .ok (.putfield 205, 3) := q9_dX9_book_280.2.2.2.2.2.2.2.1
theorem dX9_book_292 : decode cX9_book 292 = .ok (.aload_n 0, 1) := q9_dX9_book_280.2.2.2.2.2.2.2.2.1
theorem dX9_book_293 : decode cX9_book 293 = .ok (.getfield 205, 3) := q9_dX9_book_280.2.2.2.2.2.2.2.2.2
theorem q9_dX9_book_296 : (decode cX9_book 296 = .ok (.iconst 1, 1)) ∧ (decode cX9_book 297 = .ok (.isub, 1)) ∧ (decode cX9_book 298 = .ok (.ireturn, 1)) ∧ (decode cX9_isSession 0 = .ok (.iload_n 1, 1)) ∧ (decode cX9_isSession 1 = .ok (.ifCond .lt 15, 3)) ∧ (decode cX9_isSession 4 = .ok (.iload_n 1, 1)) ∧ (decode cX9_isSession 5 = .ok (.aload_n 0, 1)) ∧ (decode cX9_isSession 6 = .ok (.getfield 205, 3)) ∧ (decode cX9_isSession 9 = .ok (.if_icmp .ge 7, 3)) ∧ (decode cX9_isSession 12 = .ok (.iconst 1, 1)) := by decide +kernel
theorem dX9_book_296 : decode cX9_book 296 = .ok (.iconst 1, 1) := q9_dX9_book_296.1
theorem dX9_book_297 : decode cX9_book 297 = .ok (.isub, 1) := q9_dX9_book_296.2.1
theorem dX9_book_298 : decode cX9_book 298 = .ok (.ireturn, 1) := q9_dX9_book_296.2.2.1
theorem dX9_isSession_0 : decode cX9_isSession 0 = .ok (.iload_n 1, 1) := q9_dX9_book_296.2.2.2.1
theorem dX9_isSession_1 : decode cX9_isSession 1 = .ok (.ifCond .lt 15, 3) := q9_dX9_book_296.2.2.2.2.1
theorem dX9_isSession_4 : decode cX9_isSession 4 = .ok (.iload_n 1, 1) := q9_dX9_book_296.2.2.2.2.2.1
theorem dX9_isSession_5 : decode cX9_isSession 5 = .ok (.aload_n 0, 1) := q9_dX9_book_296.2.2.2.2.2.2.1
theorem dX9_isSession_6 : decode cX9_isSession 6 = .ok (.getfield 205, 3) := q9_dX9_book_296.2.2.2.2.2.2.2.1
theorem dX9_isSession_9 : decode cX9_isSession 9 = .ok (.if_icmp .ge 7, 3) := q9_dX9_book_296.2.2.2.2.2.2.2.2.1
theorem dX9_isSession_12 : decode cX9_isSession 12 = .ok (.iconst 1, 1) := q9_dX9_book_296.2.2.2.2.2.2.2.2.2
theorem q9_dX9_isSession_13 : (decode cX9_isSession 13 = .ok (.goto 4, 3)) ∧ (decode cX9_isSession 16 = .ok (.iconst 0, 1)) ∧ (decode cX9_isSession 17 = .ok (.ireturn, 1)) := by decide +kernel
theorem dX9_isSession_13 : decode cX9_isSession 13 = .ok (.goto 4, 3) := q9_dX9_isSession_13.1
theorem dX9_isSession_16 : decode cX9_isSession 16 = .ok (.iconst 0, 1) := q9_dX9_isSession_13.2.1
theorem dX9_isSession_17 : decode cX9_isSession 17 = .ok (.ireturn, 1) := q9_dX9_isSession_13.2.2
set_option maxRecDepth 20000 in
theorem ggX9_cancel_X9_isSession : GoodIn wsX9_cancel wsX9_isSession := goodIn_r _ [6, 7, 8, 9, 10, 11, 12, 13, 14, 15, 16, 17, 18, 19, 20, 21, 22, 23, 24, 25, 26, 27, 28, 29, 30, 31, 32, 33, 34, 35, 36, 37, 38, 39, 40, 41, 42, 43, 44, 45, 46, 47, 48, 49, 50, 51, 52, 53, 54, 55, 56, 57, 58, 59, 60, 61, 62, 63, 64, 65, 66, 67, 68, 69, 70] rfl (by decide +kernel)
set_option maxRecDepth 20000 in
theorem gX9_cancel_X9_isSession : GoodIn wsX9_cancel (wsV RX9 231 RX9 yX9_isSession wsX9_isSession) := goodIn_app (goodIn_of _ (by decide +kernel)) ggX9_cancel_X9_isSession
theorem q9_dX9_cancel_0 : (decode cX9_cancel 0 = .ok (.aload_n 0, 1)) ∧ (decode cX9_cancel 1 = .ok (.iload_n 1, 1)) ∧ (decode cX9_cancel 2 = .ok (.invokevirtual 231, 3)) ∧ (decode cX9_cancel 5 = .ok (.ifCond .eq 12, 3)) ∧ (decode cX9_cancel 8 = .ok (.aload_n 0, 1)) ∧ (decode cX9_cancel 9 = .ok (.getfield 85, 3)) ∧ (decode cX9_cancel 12 = .ok (.iload_n 1, 1)) ∧ (decode cX9_cancel 13 = .ok (.iaload, 1)) ∧ (decode cX9_cancel 14 = .ok (.ifCond .eq 5, 3)) ∧ (decode cX9_cancel 17 = .ok (.iconst 0, 1)) := by decide +kernel
theorem dX9_cancel_0 : decode cX9_cancel 0 = .ok (.aload_n 0, 1) := q9_dX9_cancel_0.1
theorem dX9_cancel_1 : decode cX9_cancel 1 = .ok (.iload_n 1, 1) := q9_dX9_cancel_0.2.1
theorem dX9_cancel_2 : decode cX9_cancel 2 = .ok (.invokevirtual 231, 3) := q9_dX9_cancel_0.2.2.1
theorem dX9_cancel_5 : decode cX9_cancel 5 = .ok (.ifCond .eq 12, 3) := q9_dX9_cancel_0.2.2.2.1
theorem dX9_cancel_8 : decode cX9_cancel 8 = .ok (.aload_n 0, 1) := q9_dX9_cancel_0.2.2.2.2.1
theorem dX9_cancel_9 : decode cX9_cancel 9 = .ok (.getfield 85, 3) := q9_dX9_cancel_0.2.2.2.2.2.1
theorem dX9_cancel_12 : decode cX9_cancel 12 = .ok (.iload_n 1, 1) := q9_dX9_cancel_0.2.2.2.2.2.2.1
theorem dX9_cancel_13 : decode cX9_cancel 13 = .ok (.iaload, 1) := q9_dX9_cancel_0.2.2.2.2.2.2.2.1
theorem dX9_cancel_14 : decode cX9_cancel 14 = .ok (.ifCond .eq 5, 3) := q9_dX9_cancel_0.2.2.2.2.2.2.2.2.1
theorem dX9_cancel_17 : decode cX9_cancel 17 = .ok (.iconst 0, 1) := q9_dX9_cancel_0.2.2.2.2.2.2.2.2.2
theorem q9_dX9_cancel_18 : (decode cX9_cancel 18 = .ok (.ireturn, 1)) ∧ (decode cX9_cancel 19 = .ok (.aload_n 0, 1)) ∧ (decode cX9_cancel 20 = .ok (.getfield 85, 3)) ∧ (decode cX9_cancel 23 = .ok (.iload_n 1, 1)) ∧ (decode cX9_cancel 24 = .ok (.iconst 3, 1)) ∧ (decode cX9_cancel 25 = .ok (.iastore, 1)) ∧ (decode cX9_cancel 26 = .ok (.iconst 1, 1)) ∧ (decode cX9_cancel 27 = .ok (.ireturn, 1)) := by decide +kernel
theorem dX9_cancel_18 : decode cX9_cancel 18 = .ok (.ireturn, 1) := q9_dX9_cancel_18.1
theorem dX9_cancel_19 : decode cX9_cancel 19 = .ok (.aload_n 0, 1) := q9_dX9_cancel_18.2.1
theorem dX9_cancel_20 : decode cX9_cancel 20 = .ok (.getfield 85, 3) := q9_dX9_cancel_18.2.2.1
theorem dX9_cancel_23 : decode cX9_cancel 23 = .ok (.iload_n 1, 1) := q9_dX9_cancel_18.2.2.2.1
theorem dX9_cancel_24 : decode cX9_cancel 24 = .ok (.iconst 3, 1) := q9_dX9_cancel_18.2.2.2.2.1
theorem dX9_cancel_25 : decode cX9_cancel 25 = .ok (.iastore, 1) := q9_dX9_cancel_18.2.2.2.2.2.1
theorem dX9_cancel_26 : decode cX9_cancel 26 = .ok (.iconst 1, 1) := q9_dX9_cancel_18.2.2.2.2.2.2.1
theorem dX9_cancel_27 : decode cX9_cancel 27 = .ok (.ireturn, 1) := q9_dX9_cancel_18.2.2.2.2.2.2.2
set_option maxRecDepth 20000 in
theorem ggX9_cut_X9_isSheet : GoodIn wsX9_cut wsX9_isSheet := goodIn_r _ [7] rfl (by decide +kernel)
set_option maxRecDepth 20000 in
theorem gX9_cut_X9_isSheet : GoodIn wsX9_cut (va_wsS RX9 216 yX9_isSheet wsX9_isSheet) := goodIn_app (goodIn_of _ (by decide +kernel)) ggX9_cut_X9_isSheet
theorem q9_dX9_cut_0 : (decode cX9_cut 0 = .ok (.iload_n 1, 1)) ∧ (decode cX9_cut 1 = .ok (.invokestatic 216, 3)) ∧ (decode cX9_cut 4 = .ok (.ifCond .eq 23, 3)) ∧ (decode cX9_cut 7 = .ok (.iload_n 2, 1)) ∧ (decode cX9_cut 8 = .ok (.ifCond .lt 19, 3)) ∧ (decode cX9_cut 11 = .ok (.iload_n 2, 1)) ∧ (decode cX9_cut 12 = .ok (.bipush 20, 2)) ∧ (decode cX9_cut 14 = .ok (.if_icmp .gt 13, 3)) ∧ (decode cX9_cut 17 = .ok (.iload_n 3, 1)) ∧ (decode cX9_cut 18 = .ok (.ifCond .lt 9, 3)) := by decide +kernel
theorem dX9_cut_0 : decode cX9_cut 0 = .ok (.iload_n 1, 1) := q9_dX9_cut_0.1
theorem dX9_cut_1 : decode cX9_cut 1 = .ok (.invokestatic 216, 3) := q9_dX9_cut_0.2.1
theorem dX9_cut_4 : decode cX9_cut 4 = .ok (.ifCond .eq 23, 3) := q9_dX9_cut_0.2.2.1
theorem dX9_cut_7 : decode cX9_cut 7 = .ok (.iload_n 2, 1) := q9_dX9_cut_0.2.2.2.1
theorem dX9_cut_8 : decode cX9_cut 8 = .ok (.ifCond .lt 19, 3) := q9_dX9_cut_0.2.2.2.2.1
theorem dX9_cut_11 : decode cX9_cut 11 = .ok (.iload_n 2, 1) := q9_dX9_cut_0.2.2.2.2.2.1
theorem dX9_cut_12 : decode cX9_cut 12 = .ok (.bipush 20, 2) := q9_dX9_cut_0.2.2.2.2.2.2.1
theorem dX9_cut_14 : decode cX9_cut 14 = .ok (.if_icmp .gt 13, 3) := q9_dX9_cut_0.2.2.2.2.2.2.2.1
theorem dX9_cut_17 : decode cX9_cut 17 = .ok (.iload_n 3, 1) := q9_dX9_cut_0.2.2.2.2.2.2.2.2.1
theorem dX9_cut_18 : decode cX9_cut 18 = .ok (.ifCond .lt 9, 3) := q9_dX9_cut_0.2.2.2.2.2.2.2.2.2
theorem q9_dX9_cut_21 : (decode cX9_cut 21 = .ok (.iload_n 3, 1)) ∧ (decode cX9_cut 22 = .ok (.bipush 20, 2)) ∧ (decode cX9_cut 24 = .ok (.if_icmp .le 5, 3)) ∧ (decode cX9_cut 27 = .ok (.iconst 0, 1)) ∧ (decode cX9_cut 28 = .ok (.ireturn, 1)) ∧ (decode cX9_cut 29 = .ok (.aload_n 0, 1)) ∧ (decode cX9_cut 30 = .ok (.getfield 69, 3)) ∧ (decode cX9_cut 33 = .ok (.iload_n 1, 1)) ∧ (decode cX9_cut 34 = .ok (.iconst 1, 1)) ∧ (decode cX9_cut 35 = .ok (.bastore, 1)) := by decide +kernel
theorem dX9_cut_21 : decode cX9_cut 21 = .ok (.iload_n 3, 1) := q9_dX9_cut_21.1
theorem dX9_cut_22 : decode cX9_cut 22 = .ok (.bipush 20, 2) := q9_dX9_cut_21.2.1
theorem dX9_cut_24 : decode cX9_cut 24 = .ok (.if_icmp .le 5, 3) := q9_dX9_cut_21.2.2.1
theorem dX9_cut_27 : decode cX9_cut 27 = .ok (.iconst 0, 1) := q9_dX9_cut_21.2.2.2.1
theorem dX9_cut_28 : decode cX9_cut 28 = .ok (.ireturn, 1) := q9_dX9_cut_21.2.2.2.2.1
theorem dX9_cut_29 : decode cX9_cut 29 = .ok (.aload_n 0, 1) := q9_dX9_cut_21.2.2.2.2.2.1
theorem dX9_cut_30 : decode cX9_cut 30 = .ok (.getfield 69, 3) := q9_dX9_cut_21.2.2.2.2.2.2.1
theorem dX9_cut_33 : decode cX9_cut 33 = .ok (.iload_n 1, 1) := q9_dX9_cut_21.2.2.2.2.2.2.2.1
theorem dX9_cut_34 : decode cX9_cut 34 = .ok (.iconst 1, 1) := q9_dX9_cut_21.2.2.2.2.2.2.2.2.1
theorem dX9_cut_35 : decode cX9_cut 35 = .ok (.bastore, 1) := q9_dX9_cut_21.2.2.2.2.2.2.2.2.2
theorem q9_dX9_cut_36 : (decode cX9_cut 36 = .ok (.aload_n 0, 1)) ∧ (decode cX9_cut 37 = .ok (.getfield 63, 3)) ∧ (decode cX9_cut 40 = .ok (.iload_n 1, 1)) ∧ (decode cX9_cut 41 = .ok (.iload_n 2, 1)) ∧ (decode cX9_cut 42 = .ok (.iastore, 1)) ∧ (decode cX9_cut 43 = .ok (.aload_n 0, 1)) ∧ (decode cX9_cut 44 = .ok (.getfield 66, 3)) ∧ (decode cX9_cut 47 = .ok (.iload_n 1, 1)) ∧ (decode cX9_cut 48 = .ok (.iload_n 3, 1)) ∧ (decode cX9_cut 49 = .ok (.iastore, 1)) := by decide +kernel
theorem dX9_cut_36 : decode cX9_cut 36 = .ok (.aload_n 0, 1) := q9_dX9_cut_36.1
theorem dX9_cut_37 : decode cX9_cut 37 = .ok (.getfield 63, 3) := q9_dX9_cut_36.2.1
theorem dX9_cut_40 : decode cX9_cut 40 = .ok (.iload_n 1, 1) := q9_dX9_cut_36.2.2.1
theorem dX9_cut_41 : decode cX9_cut 41 = .ok (.iload_n 2, 1) := q9_dX9_cut_36.2.2.2.1
theorem dX9_cut_42 : decode cX9_cut 42 = .ok (.iastore, 1) := q9_dX9_cut_36.2.2.2.2.1
theorem dX9_cut_43 : decode cX9_cut 43 = .ok (.aload_n 0, 1) := q9_dX9_cut_36.2.2.2.2.2.1
theorem dX9_cut_44 : decode cX9_cut 44 = .ok (.getfield 66, 3) := q9_dX9_cut_36.2.2.2.2.2.2.1
theorem dX9_cut_47 : decode cX9_cut 47 = .ok (.iload_n 1, 1) := q9_dX9_cut_36.2.2.2.2.2.2.2.1
theorem dX9_cut_48 : decode cX9_cut 48 = .ok (.iload_n 3, 1) := q9_dX9_cut_36.2.2.2.2.2.2.2.2.1
theorem dX9_cut_49 : decode cX9_cut 49 = .ok (.iastore, 1) := q9_dX9_cut_36.2.2.2.2.2.2.2.2.2
theorem q9_dX9_cut_50 : (decode cX9_cut 50 = .ok (.iconst 1, 1)) ∧ (decode cX9_cut 51 = .ok (.ireturn, 1)) ∧ (decode cX9_behind 0 = .ok (.iload_n 0, 1)) ∧ (decode cX9_behind 1 = .ok (.ifCond .ne 7, 3)) ∧ (decode cX9_behind 4 = .ok (.iconst 0, 1)) ∧ (decode cX9_behind 5 = .ok (.goto 22, 3)) ∧ (decode cX9_behind 8 = .ok (.iload_n 0, 1)) ∧ (decode cX9_behind 9 = .ok (.iconst 2, 1)) ∧ (decode cX9_behind 10 = .ok (.irem, 1)) ∧ (decode cX9_behind 11 = .ok (.iconst 1, 1)) := by decide +kernel
theorem dX9_cut_50 : decode cX9_cut 50 = .ok (.iconst 1, 1) := q9_dX9_cut_50.1
theorem dX9_cut_51 : decode cX9_cut 51 = .ok (.ireturn, 1) := q9_dX9_cut_50.2.1
theorem dX9_behind_0 : decode cX9_behind 0 = .ok (.iload_n 0, 1) := q9_dX9_cut_50.2.2.1
theorem dX9_behind_1 : decode cX9_behind 1 = .ok (.ifCond .ne 7, 3) := q9_dX9_cut_50.2.2.2.1
theorem dX9_behind_4 : decode cX9_behind 4 = .ok (.iconst 0, 1) := q9_dX9_cut_50.2.2.2.2.1
theorem dX9_behind_5 : decode cX9_behind 5 = .ok (.goto 22, 3) := q9_dX9_cut_50.2.2.2.2.2.1
theorem dX9_behind_8 : decode cX9_behind 8 = .ok (.iload_n 0, 1) := q9_dX9_cut_50.2.2.2.2.2.2.1
theorem dX9_behind_9 : decode cX9_behind 9 = .ok (.iconst 2, 1) := q9_dX9_cut_50.2.2.2.2.2.2.2.1
theorem dX9_behind_10 : decode cX9_behind 10 = .ok (.irem, 1) := q9_dX9_cut_50.2.2.2.2.2.2.2.2.1
theorem dX9_behind_11 : decode cX9_behind 11 = .ok (.iconst 1, 1) := q9_dX9_cut_50.2.2.2.2.2.2.2.2.2
theorem q9_dX9_behind_12 : (decode cX9_behind 12 = .ok (.if_icmp .ne 12, 3)) ∧ (decode cX9_behind 15 = .ok (.iload_n 0, 1)) ∧ (decode cX9_behind 16 = .ok (.iconst 1, 1)) ∧ (decode cX9_behind 17 = .ok (.iadd, 1)) ∧ (decode cX9_behind 18 = .ok (.ineg, 1)) ∧ (decode cX9_behind 19 = .ok (.iconst 2, 1)) ∧ (decode cX9_behind 20 = .ok (.idiv, 1)) ∧ (decode cX9_behind 21 = .ok (.goto 6, 3)) ∧ (decode cX9_behind 24 = .ok (.iload_n 0, 1)) ∧ (decode cX9_behind 25 = .ok (.iconst 2, 1)) := by decide +kernel
theorem dX9_behind_12 : decode cX9_behind 12 = .ok (.if_icmp .ne 12, 3) := q9_dX9_behind_12.1
theorem dX9_behind_15 : decode cX9_behind 15 = .ok (.iload_n 0, 1) := q9_dX9_behind_12.2.1
theorem dX9_behind_16 : decode cX9_behind 16 = .ok (.iconst 1, 1) := q9_dX9_behind_12.2.2.1
theorem dX9_behind_17 : decode cX9_behind 17 = .ok (.iadd, 1) := q9_dX9_behind_12.2.2.2.1
theorem dX9_behind_18 : decode cX9_behind 18 = .ok (.ineg, 1) := q9_dX9_behind_12.2.2.2.2.1
theorem dX9_behind_19 : decode cX9_behind 19 = .ok (.iconst 2, 1) := q9_dX9_behind_12.2.2.2.2.2.1
theorem dX9_behind_20 : decode cX9_behind 20 = .ok (.idiv, 1) := q9_dX9_behind_12.2.2.2.2.2.2.1
theorem dX9_behind_21 : decode cX9_behind 21 = .ok (.goto 6, 3) := q9_dX9_behind_12.2.2.2.2.2.2.2.1
theorem dX9_behind_24 : decode cX9_behind 24 = .ok (.iload_n 0, 1) := q9_dX9_behind_12.2.2.2.2.2.2.2.2.1
theorem dX9_behind_25 : decode cX9_behind 25 = .ok (.iconst 2, 1) := q9_dX9_behind_12.2.2.2.2.2.2.2.2.2
theorem q9_dX9_behind_26 : (decode cX9_behind 26 = .ok (.idiv, 1)) ∧ (decode cX9_behind 27 = .ok (.ireturn, 1)) := by decide +kernel
theorem dX9_behind_26 : decode cX9_behind 26 = .ok (.idiv, 1) := q9_dX9_behind_26.1
theorem dX9_behind_27 : decode cX9_behind 27 = .ok (.ireturn, 1) := q9_dX9_behind_26.2
set_option maxRecDepth 20000 in
theorem ggX9_stands_X9_behind : GoodIn wsX9_stands wsX9_behind := goodIn_r _ [13] rfl (by decide +kernel)
set_option maxRecDepth 20000 in
theorem gX9_stands_X9_behind : GoodIn wsX9_stands (va_wsS RX9 237 yX9_behind wsX9_behind) := goodIn_app (goodIn_of _ (by decide +kernel)) ggX9_stands_X9_behind
set_option maxRecDepth 20000 in
theorem ggX9_stands_X9_isClosed : GoodIn wsX9_stands wsX9_isClosed := goodIn_r _ [17, 18, 19, 20, 21, 31, 32, 33, 34, 35, 36, 37, 38, 39, 40, 41, 42, 43, 44, 45, 46, 47, 48, 49, 50, 51, 52, 53, 54, 55, 56, 57, 58, 59, 60, 61, 62, 63, 64, 65, 66, 67, 68, 69, 70, 71, 72, 73, 74, 75, 76, 77, 78, 79, 80, 81, 82, 83, 84, 85, 86, 87, 88, 89, 90, 91, 92, 93] rfl (by decide +kernel)
set_option maxRecDepth 20000 in
theorem gX9_stands_X9_isClosed : GoodIn wsX9_stands (wsV RX9 222 RX9 yX9_isClosed wsX9_isClosed) := goodIn_app (goodIn_of _ (by decide +kernel)) ggX9_stands_X9_isClosed
set_option maxRecDepth 20000 in
theorem ggX9_stands_X9_standing : GoodIn wsX9_stands wsX9_standing := goodIn_r _ [25, 26, 5, 7, 8, 31, 32, 33, 34, 35, 36, 37, 38, 39, 40, 41, 42, 43, 44, 45, 46, 47, 48, 49, 50, 51, 52, 53, 54, 55, 56, 57, 58, 59, 60, 61, 62, 63, 64, 65, 66, 67, 68, 69, 70, 71, 72, 73, 74, 75, 76, 77, 78, 79, 80, 81, 82, 83, 84, 85, 86, 87, 88, 89, 90, 91, 92, 93] rfl (by decide +kernel)
set_option maxRecDepth 20000 in
theorem gX9_stands_X9_standing : GoodIn wsX9_stands (wsV RX9 208 RX9 yX9_standing wsX9_standing) := goodIn_app (goodIn_of _ (by decide +kernel)) ggX9_stands_X9_standing
set_option maxRecDepth 20000 in
theorem ggX9_stands_X9_inRow : GoodIn wsX9_stands wsX9_inRow := goodIn_r _ [30, 22, 23, 24, 12, 25, 26, 5, 7, 8, 31, 32, 33, 34, 35, 36, 37, 38, 39, 40, 41, 42, 43, 44, 45, 46, 47, 48, 49, 50, 51, 52, 53, 54, 55, 56, 57, 58, 59, 60, 61, 62, 63, 64, 65, 66, 67, 68, 69, 70, 71, 72, 73, 74, 75, 76, 77, 78, 79, 80, 81, 82, 83, 84, 85, 86, 87, 88, 89, 90, 91, 92, 93] rfl (by decide +kernel)
set_option maxRecDepth 20000 in
theorem gX9_stands_X9_inRow : GoodIn wsX9_stands (wsV RX9 228 RX9 yX9_inRow wsX9_inRow) := goodIn_app (goodIn_of _ (by decide +kernel)) ggX9_stands_X9_inRow
theorem q9_dX9_stands_0 : (decode cX9_stands 0 = .ok (.iconst 1, 1)) ∧ (decode cX9_stands 1 = .ok (.istore_n 1, 1)) ∧ (decode cX9_stands 2 = .ok (.iconst 0, 1)) ∧ (decode cX9_stands 3 = .ok (.istore_n 2, 1)) ∧ (decode cX9_stands 4 = .ok (.iload_n 1, 1)) ∧ (decode cX9_stands 5 = .ok (.ifCond .eq 139, 3)) ∧ (decode cX9_stands 8 = .ok (.iload_n 2, 1)) ∧ (decode cX9_stands 9 = .ok (.aload_n 0, 1)) ∧ (decode cX9_stands 10 = .ok (.getfield 234, 3)) ∧ (decode cX9_stands 13 = .ok (.if_icmp .ge 131, 3)) := by decide +kernel
theorem dX9_stands_0 : decode cX9_stands 0 = .ok (.iconst 1, 1) := q9_dX9_stands_0.1
theorem dX9_stands_1 : decode cX9_stands 1 = .ok (.istore_n 1, 1) := q9_dX9_stands_0.2.1
theorem dX9_stands_2 : decode cX9_stands 2 = .ok (.iconst 0, 1) := q9_dX9_stands_0.2.2.1
theorem dX9_stands_3 : decode cX9_stands 3 = .ok (.istore_n 2, 1) := q9_dX9_stands_0.2.2.2.1
theorem dX9_stands_4 : decode cX9_stands 4 = .ok (.iload_n 1, 1) := q9_dX9_stands_0.2.2.2.2.1
theorem dX9_stands_5 : decode cX9_stands 5 = .ok (.ifCond .eq 139, 3) := q9_dX9_stands_0.2.2.2.2.2.1
theorem dX9_stands_8 : decode cX9_stands 8 = .ok (.iload_n 2, 1) := q9_dX9_stands_0.2.2.2.2.2.2.1
theorem dX9_stands_9 : decode cX9_stands 9 = .ok (.aload_n 0, 1) := q9_dX9_stands_0.2.2.2.2.2.2.2.1
theorem dX9_stands_10 : decode cX9_stands 10 = .ok (.getfield 234, 3) := q9_dX9_stands_0.2.2.2.2.2.2.2.2.1
theorem dX9_stands_13 : decode cX9_stands 13 = .ok (.if_icmp .ge 131, 3) := q9_dX9_stands_0.2.2.2.2.2.2.2.2.2
theorem q9_dX9_stands_16 : (decode cX9_stands 16 = .ok (.aload_n 0, 1)) ∧ (decode cX9_stands 17 = .ok (.getfield 112, 3)) ∧ (decode cX9_stands 20 = .ok (.iload_n 2, 1)) ∧ (decode cX9_stands 21 = .ok (.iaload, 1)) ∧ (decode cX9_stands 22 = .ok (.bipush 14, 2)) ∧ (decode cX9_stands 24 = .ok (.if_icmp .eq 109, 3)) ∧ (decode cX9_stands 27 = .ok (.aload_n 0, 1)) ∧ (decode cX9_stands 28 = .ok (.getfield 112, 3)) ∧ (decode cX9_stands 31 = .ok (.iload_n 2, 1)) ∧ (decode cX9_stands 32 = .ok (.iaload, 1)) := by decide +kernel
theorem dX9_stands_16 : decode cX9_stands 16 = .ok (.aload_n 0, 1) := q9_dX9_stands_16.1
theorem dX9_stands_17 : decode cX9_stands 17 = .ok (.getfield 112, 3) := q9_dX9_stands_16.2.1
theorem dX9_stands_20 : decode cX9_stands 20 = .ok (.iload_n 2, 1) := q9_dX9_stands_16.2.2.1
theorem dX9_stands_21 : decode cX9_stands 21 = .ok (.iaload, 1) := q9_dX9_stands_16.2.2.2.1
theorem dX9_stands_22 : decode cX9_stands 22 = .ok (.bipush 14, 2) := q9_dX9_stands_16.2.2.2.2.1
theorem dX9_stands_24 : decode cX9_stands 24 = .ok (.if_icmp .eq 109, 3) := q9_dX9_stands_16.2.2.2.2.2.1
theorem dX9_stands_27 : decode cX9_stands 27 = .ok (.aload_n 0, 1) := q9_dX9_stands_16.2.2.2.2.2.2.1
theorem dX9_stands_28 : decode cX9_stands 28 = .ok (.getfield 112, 3) := q9_dX9_stands_16.2.2.2.2.2.2.2.1
theorem dX9_stands_31 : decode cX9_stands 31 = .ok (.iload_n 2, 1) := q9_dX9_stands_16.2.2.2.2.2.2.2.2.1
theorem dX9_stands_32 : decode cX9_stands 32 = .ok (.iaload, 1) := q9_dX9_stands_16.2.2.2.2.2.2.2.2.2
theorem q9_dX9_stands_33 : (decode cX9_stands 33 = .ok (.iconst 2, 1)) ∧ (decode cX9_stands 34 = .ok (.irem, 1)) ∧ (decode cX9_stands 35 = .ok (.istore_n 3, 1)) ∧ (decode cX9_stands 36 = .ok (.aload_n 0, 1)) ∧ (decode cX9_stands 37 = .ok (.getfield 118, 3)) ∧ (decode cX9_stands 40 = .ok (.iload_n 2, 1)) ∧ (decode cX9_stands 41 = .ok (.iaload, 1)) ∧ (decode cX9_stands 42 = .ok (.aload_n 0, 1)) ∧ (decode cX9_stands 43 = .ok (.getfield 112, 3)) ∧ (decode cX9_stands 46 = .ok (.iload_n 2, 1)) := by decide +kernel
theorem dX9_stands_33 : decode cX9_stands 33 = .ok (.iconst 2, 1) := q9_dX9_stands_33.1
theorem dX9_stands_34 : decode cX9_stands 34 = .ok (.irem, 1) := q9_dX9_stands_33.2.1
theorem dX9_stands_35 : decode cX9_stands 35 = .ok (.istore_n 3, 1) := q9_dX9_stands_33.2.2.1
theorem dX9_stands_36 : decode cX9_stands 36 = .ok (.aload_n 0, 1) := q9_dX9_stands_33.2.2.2.1
theorem dX9_stands_37 : decode cX9_stands 37 = .ok (.getfield 118, 3) := q9_dX9_stands_33.2.2.2.2.1
theorem dX9_stands_40 : decode cX9_stands 40 = .ok (.iload_n 2, 1) := q9_dX9_stands_33.2.2.2.2.2.1
theorem dX9_stands_41 : decode cX9_stands 41 = .ok (.iaload, 1) := q9_dX9_stands_33.2.2.2.2.2.2.1
theorem dX9_stands_42 : decode cX9_stands 42 = .ok (.aload_n 0, 1) := q9_dX9_stands_33.2.2.2.2.2.2.2.1
theorem dX9_stands_43 : decode cX9_stands 43 = .ok (.getfield 112, 3) := q9_dX9_stands_33.2.2.2.2.2.2.2.2.1
theorem dX9_stands_46 : decode cX9_stands 46 = .ok (.iload_n 2, 1) := q9_dX9_stands_33.2.2.2.2.2.2.2.2.2
theorem q9_dX9_stands_47 : (decode cX9_stands 47 = .ok (.iaload, 1)) ∧ (decode cX9_stands 48 = .ok (.iconst 2, 1)) ∧ (decode cX9_stands 49 = .ok (.idiv, 1)) ∧ (decode cX9_stands 50 = .ok (.invokestatic 237, 3)) ∧ (decode cX9_stands 53 = .ok (.iadd, 1)) ∧ (decode cX9_stands 54 = .ok (.istore 4, 2)) ∧ (decode cX9_stands 56 = .ok (.iload 4, 2)) ∧ (decode cX9_stands 58 = .ok (.aload_n 0, 1)) ∧ (decode cX9_stands 59 = .ok (.getfield 219, 3)) ∧ (decode cX9_stands 62 = .ok (.if_icmp .lt 28, 3)) := by decide +kernel
theorem dX9_stands_47 : decode cX9_stands 47 = .ok (.iaload, 1) := q9_dX9_stands_47.1
theorem dX9_stands_48 : decode cX9_stands 48 = .ok (.iconst 2, 1) := q9_dX9_stands_47.2.1
theorem dX9_stands_49 : decode cX9_stands 49 = .ok (.idiv, 1) := q9_dX9_stands_47.2.2.1
theorem dX9_stands_50 : decode cX9_stands 50 = .ok (.invokestatic 237, 3) := q9_dX9_stands_47.2.2.2.1
theorem dX9_stands_53 : decode cX9_stands 53 = .ok (.iadd, 1) := q9_dX9_stands_47.2.2.2.2.1
theorem dX9_stands_54 : decode cX9_stands 54 = .ok (.istore 4, 2) := q9_dX9_stands_47.2.2.2.2.2.1
theorem dX9_stands_56 : decode cX9_stands 56 = .ok (.iload 4, 2) := q9_dX9_stands_47.2.2.2.2.2.2.1
theorem dX9_stands_58 : decode cX9_stands 58 = .ok (.aload_n 0, 1) := q9_dX9_stands_47.2.2.2.2.2.2.2.1
theorem dX9_stands_59 : decode cX9_stands 59 = .ok (.getfield 219, 3) := q9_dX9_stands_47.2.2.2.2.2.2.2.2.1
theorem dX9_stands_62 : decode cX9_stands 62 = .ok (.if_icmp .lt 28, 3) := q9_dX9_stands_47.2.2.2.2.2.2.2.2.2
theorem q9_dX9_stands_65 : (decode cX9_stands 65 = .ok (.aload_n 0, 1)) ∧ (decode cX9_stands 66 = .ok (.iload_n 3, 1)) ∧ (decode cX9_stands 67 = .ok (.iload 4, 2)) ∧ (decode cX9_stands 69 = .ok (.invokevirtual 222, 3)) ∧ (decode cX9_stands 72 = .ok (.ifCond .ne 18, 3)) ∧ (decode cX9_stands 75 = .ok (.aload_n 0, 1)) ∧ (decode cX9_stands 76 = .ok (.iload_n 3, 1)) ∧ (decode cX9_stands 77 = .ok (.iload 4, 2)) ∧ (decode cX9_stands 79 = .ok (.invokevirtual 208, 3)) ∧ (decode cX9_stands 82 = .ok (.iconst (-1), 1)) := by decide +kernel
theorem dX9_stands_65 : decode cX9_stands 65 = .ok (.aload_n 0, 1) := q9_dX9_stands_65.1
theorem dX9_stands_66 : decode cX9_stands 66 = .ok (.iload_n 3, 1) := q9_dX9_stands_65.2.1
theorem dX9_stands_67 : decode cX9_stands 67 = .ok (.iload 4, 2) := q9_dX9_stands_65.2.2.1
theorem dX9_stands_69 : decode cX9_stands 69 = .ok (.invokevirtual 222, 3) := q9_dX9_stands_65.2.2.2.1
theorem dX9_stands_72 : decode cX9_stands 72 = .ok (.ifCond .ne 18, 3) := q9_dX9_stands_65.2.2.2.2.1
theorem dX9_stands_75 : decode cX9_stands 75 = .ok (.aload_n 0, 1) := q9_dX9_stands_65.2.2.2.2.2.1
theorem dX9_stands_76 : decode cX9_stands 76 = .ok (.iload_n 3, 1) := q9_dX9_stands_65.2.2.2.2.2.2.1
theorem dX9_stands_77 : decode cX9_stands 77 = .ok (.iload 4, 2) := q9_dX9_stands_65.2.2.2.2.2.2.2.1
theorem dX9_stands_79 : decode cX9_stands 79 = .ok (.invokevirtual 208, 3) := q9_dX9_stands_65.2.2.2.2.2.2.2.2.1
theorem dX9_stands_82 : decode cX9_stands 82 = .ok (.iconst (-1), 1) := q9_dX9_stands_65.2.2.2.2.2.2.2.2.2
theorem q9_dX9_stands_83 : (decode cX9_stands 83 = .ok (.if_icmp .ne 7, 3)) ∧ (decode cX9_stands 86 = .ok (.iconst 1, 1)) ∧ (decode cX9_stands 87 = .ok (.goto 4, 3)) ∧ (decode cX9_stands 90 = .ok (.iconst 0, 1)) ∧ (decode cX9_stands 91 = .ok (.istore_n 1, 1)) ∧ (decode cX9_stands 92 = .ok (.iload_n 1, 1)) ∧ (decode cX9_stands 93 = .ok (.ifCond .eq 40, 3)) ∧ (decode cX9_stands 96 = .ok (.aload_n 0, 1)) ∧ (decode cX9_stands 97 = .ok (.getfield 85, 3)) ∧ (decode cX9_stands 100 = .ok (.aload_n 0, 1)) := by decide +kernel
theorem dX9_stands_83 : decode cX9_stands 83 = .ok (.if_icmp .ne 7, 3) := q9_dX9_stands_83.1
theorem dX9_stands_86 : decode cX9_stands 86 = .ok (.iconst 1, 1) := q9_dX9_stands_83.2.1
theorem dX9_stands_87 : decode cX9_stands 87 = .ok (.goto 4, 3) := q9_dX9_stands_83.2.2.1
theorem dX9_stands_90 : decode cX9_stands 90 = .ok (.iconst 0, 1) := q9_dX9_stands_83.2.2.2.1
theorem dX9_stands_91 : decode cX9_stands 91 = .ok (.istore_n 1, 1) := q9_dX9_stands_83.2.2.2.2.1
theorem dX9_stands_92 : decode cX9_stands 92 = .ok (.iload_n 1, 1) := q9_dX9_stands_83.2.2.2.2.2.1
theorem dX9_stands_93 : decode cX9_stands 93 = .ok (.ifCond .eq 40, 3) := q9_dX9_stands_83.2.2.2.2.2.2.1
theorem dX9_stands_96 : decode cX9_stands 96 = .ok (.aload_n 0, 1) := q9_dX9_stands_83.2.2.2.2.2.2.2.1
theorem dX9_stands_97 : decode cX9_stands 97 = .ok (.getfield 85, 3) := q9_dX9_stands_83.2.2.2.2.2.2.2.2.1
theorem dX9_stands_100 : decode cX9_stands 100 = .ok (.aload_n 0, 1) := q9_dX9_stands_83.2.2.2.2.2.2.2.2.2
theorem q9_dX9_stands_101 : (decode cX9_stands 101 = .ok (.getfield 109, 3)) ∧ (decode cX9_stands 104 = .ok (.iload_n 2, 1)) ∧ (decode cX9_stands 105 = .ok (.iaload, 1)) ∧ (decode cX9_stands 106 = .ok (.iconst 0, 1)) ∧ (decode cX9_stands 107 = .ok (.iastore, 1)) ∧ (decode cX9_stands 108 = .ok (.aload_n 0, 1)) ∧ (decode cX9_stands 109 = .ok (.getfield 79, 3)) ∧ (decode cX9_stands 112 = .ok (.aload_n 0, 1)) ∧ (decode cX9_stands 113 = .ok (.getfield 109, 3)) ∧ (decode cX9_stands 116 = .ok (.iload_n 2, 1)) := by decide +kernel
theorem dX9_stands_101 : decode cX9_stands 101 = .ok (.getfield 109, 3) := q9_dX9_stands_101.1
theorem dX9_stands_104 : decode cX9_stands 104 = .ok (.iload_n 2, 1) := q9_dX9_stands_101.2.1
theorem dX9_stands_105 : decode cX9_stands 105 = .ok (.iaload, 1) := q9_dX9_stands_101.2.2.1
theorem dX9_stands_106 : decode cX9_stands 106 = .ok (.iconst 0, 1) := q9_dX9_stands_101.2.2.2.1
theorem dX9_stands_107 : decode cX9_stands 107 = .ok (.iastore, 1) := q9_dX9_stands_101.2.2.2.2.1
theorem dX9_stands_108 : decode cX9_stands 108 = .ok (.aload_n 0, 1) := q9_dX9_stands_101.2.2.2.2.2.1
theorem dX9_stands_109 : decode cX9_stands 109 = .ok (.getfield 79, 3) := q9_dX9_stands_101.2.2.2.2.2.2.1
theorem dX9_stands_112 : decode cX9_stands 112 = .ok (.aload_n 0, 1) := q9_dX9_stands_101.2.2.2.2.2.2.2.1
theorem dX9_stands_113 : decode cX9_stands 113 = .ok (.getfield 109, 3) := q9_dX9_stands_101.2.2.2.2.2.2.2.2.1
theorem dX9_stands_116 : decode cX9_stands 116 = .ok (.iload_n 2, 1) := q9_dX9_stands_101.2.2.2.2.2.2.2.2.2
theorem q9_dX9_stands_117 : (decode cX9_stands 117 = .ok (.iaload, 1)) ∧ (decode cX9_stands 118 = .ok (.iload_n 3, 1)) ∧ (decode cX9_stands 119 = .ok (.iastore, 1)) ∧ (decode cX9_stands 120 = .ok (.aload_n 0, 1)) ∧ (decode cX9_stands 121 = .ok (.getfield 82, 3)) ∧ (decode cX9_stands 124 = .ok (.aload_n 0, 1)) ∧ (decode cX9_stands 125 = .ok (.getfield 109, 3)) ∧ (decode cX9_stands 128 = .ok (.iload_n 2, 1)) ∧ (decode cX9_stands 129 = .ok (.iaload, 1)) ∧ (decode cX9_stands 130 = .ok (.iload 4, 2)) := by decide +kernel
theorem dX9_stands_117 : decode cX9_stands 117 = .ok (.iaload, 1) := q9_dX9_stands_117.1
theorem dX9_stands_118 : decode cX9_stands 118 = .ok (.iload_n 3, 1) := q9_dX9_stands_117.2.1
theorem dX9_stands_119 : decode cX9_stands 119 = .ok (.iastore, 1) := q9_dX9_stands_117.2.2.1
theorem dX9_stands_120 : decode cX9_stands 120 = .ok (.aload_n 0, 1) := q9_dX9_stands_117.2.2.2.1
theorem dX9_stands_121 : decode cX9_stands 121 = .ok (.getfield 82, 3) := q9_dX9_stands_117.2.2.2.2.1
theorem dX9_stands_124 : decode cX9_stands 124 = .ok (.aload_n 0, 1) := q9_dX9_stands_117.2.2.2.2.2.1
theorem dX9_stands_125 : decode cX9_stands 125 = .ok (.getfield 109, 3) := q9_dX9_stands_117.2.2.2.2.2.2.1
theorem dX9_stands_128 : decode cX9_stands 128 = .ok (.iload_n 2, 1) := q9_dX9_stands_117.2.2.2.2.2.2.2.1
theorem dX9_stands_129 : decode cX9_stands 129 = .ok (.iaload, 1) := q9_dX9_stands_117.2.2.2.2.2.2.2.2.1
theorem dX9_stands_130 : decode cX9_stands 130 = .ok (.iload 4, 2) := q9_dX9_stands_117.2.2.2.2.2.2.2.2.2
theorem q9_dX9_stands_132 : (decode cX9_stands 132 = .ok (.iastore, 1)) ∧ (decode cX9_stands 133 = .ok (.iload_n 1, 1)) ∧ (decode cX9_stands 134 = .ok (.ifCond .eq (-130), 3)) ∧ (decode cX9_stands 137 = .ok (.iload_n 2, 1)) ∧ (decode cX9_stands 138 = .ok (.iconst 1, 1)) ∧ (decode cX9_stands 139 = .ok (.iadd, 1)) ∧ (decode cX9_stands 140 = .ok (.istore_n 2, 1)) ∧ (decode cX9_stands 141 = .ok (.goto (-137), 3)) ∧ (decode cX9_stands 144 = .ok (.iconst 0, 1)) ∧ (decode cX9_stands 145 = .ok (.istore_n 3, 1)) := by decide +kernel
theorem dX9_stands_132 : decode cX9_stands 132 = .ok (.iastore, 1) := q9_dX9_stands_132.1
theorem dX9_stands_133 : decode cX9_stands 133 = .ok (.iload_n 1, 1) := q9_dX9_stands_132.2.1
theorem dX9_stands_134 : decode cX9_stands 134 = .ok (.ifCond .eq (-130), 3) := q9_dX9_stands_132.2.2.1
theorem dX9_stands_137 : decode cX9_stands 137 = .ok (.iload_n 2, 1) := q9_dX9_stands_132.2.2.2.1
theorem dX9_stands_138 : decode cX9_stands 138 = .ok (.iconst 1, 1) := q9_dX9_stands_132.2.2.2.2.1
theorem dX9_stands_139 : decode cX9_stands 139 = .ok (.iadd, 1) := q9_dX9_stands_132.2.2.2.2.2.1
theorem dX9_stands_140 : decode cX9_stands 140 = .ok (.istore_n 2, 1) := q9_dX9_stands_132.2.2.2.2.2.2.1
theorem dX9_stands_141 : decode cX9_stands 141 = .ok (.goto (-137), 3) := q9_dX9_stands_132.2.2.2.2.2.2.2.1
theorem dX9_stands_144 : decode cX9_stands 144 = .ok (.iconst 0, 1) := q9_dX9_stands_132.2.2.2.2.2.2.2.2.1
theorem dX9_stands_145 : decode cX9_stands 145 = .ok (.istore_n 3, 1) := q9_dX9_stands_132.2.2.2.2.2.2.2.2.2
theorem q9_dX9_stands_146 : (decode cX9_stands 146 = .ok (.iload_n 3, 1)) ∧ (decode cX9_stands 147 = .ok (.iload_n 2, 1)) ∧ (decode cX9_stands 148 = .ok (.if_icmp .ge 63, 3)) ∧ (decode cX9_stands 151 = .ok (.iload_n 1, 1)) ∧ (decode cX9_stands 152 = .ok (.ifCond .eq 59, 3)) ∧ (decode cX9_stands 155 = .ok (.aload_n 0, 1)) ∧ (decode cX9_stands 156 = .ok (.getfield 112, 3)) ∧ (decode cX9_stands 159 = .ok (.iload_n 3, 1)) ∧ (decode cX9_stands 160 = .ok (.iaload, 1)) ∧ (decode cX9_stands 161 = .ok (.bipush 14, 2)) := by decide +kernel
theorem dX9_stands_146 : decode cX9_stands 146 = .ok (.iload_n 3, 1) := q9_dX9_stands_146.1
theorem dX9_stands_147 : decode cX9_stands 147 = .ok (.iload_n 2, 1) := q9_dX9_stands_146.2.1
theorem dX9_stands_148 : decode cX9_stands 148 = .ok (.if_icmp .ge 63, 3) := q9_dX9_stands_146.2.2.1
theorem dX9_stands_151 : decode cX9_stands 151 = .ok (.iload_n 1, 1) := q9_dX9_stands_146.2.2.2.1
theorem dX9_stands_152 : decode cX9_stands 152 = .ok (.ifCond .eq 59, 3) := q9_dX9_stands_146.2.2.2.2.1
theorem dX9_stands_155 : decode cX9_stands 155 = .ok (.aload_n 0, 1) := q9_dX9_stands_146.2.2.2.2.2.1
theorem dX9_stands_156 : decode cX9_stands 156 = .ok (.getfield 112, 3) := q9_dX9_stands_146.2.2.2.2.2.2.1
theorem dX9_stands_159 : decode cX9_stands 159 = .ok (.iload_n 3, 1) := q9_dX9_stands_146.2.2.2.2.2.2.2.1
theorem dX9_stands_160 : decode cX9_stands 160 = .ok (.iaload, 1) := q9_dX9_stands_146.2.2.2.2.2.2.2.2.1
theorem dX9_stands_161 : decode cX9_stands 161 = .ok (.bipush 14, 2) := q9_dX9_stands_146.2.2.2.2.2.2.2.2.2
theorem q9_dX9_stands_163 : (decode cX9_stands 163 = .ok (.if_icmp .eq 36, 3)) ∧ (decode cX9_stands 166 = .ok (.aload_n 0, 1)) ∧ (decode cX9_stands 167 = .ok (.aload_n 0, 1)) ∧ (decode cX9_stands 168 = .ok (.getfield 79, 3)) ∧ (decode cX9_stands 171 = .ok (.aload_n 0, 1)) ∧ (decode cX9_stands 172 = .ok (.getfield 109, 3)) ∧ (decode cX9_stands 175 = .ok (.iload_n 3, 1)) ∧ (decode cX9_stands 176 = .ok (.iaload, 1)) ∧ (decode cX9_stands 177 = .ok (.iaload, 1)) ∧ (decode cX9_stands 178 = .ok (.aload_n 0, 1)) := by decide +kernel
theorem dX9_stands_163 : decode cX9_stands 163 = .ok (.if_icmp .eq 36, 3) := q9_dX9_stands_163.1
theorem dX9_stands_166 : decode cX9_stands 166 = .ok (.aload_n 0, 1) := q9_dX9_stands_163.2.1
theorem dX9_stands_167 : decode cX9_stands 167 = .ok (.aload_n 0, 1) := q9_dX9_stands_163.2.2.1
theorem dX9_stands_168 : decode cX9_stands 168 = .ok (.getfield 79, 3) := q9_dX9_stands_163.2.2.2.1
theorem dX9_stands_171 : decode cX9_stands 171 = .ok (.aload_n 0, 1) := q9_dX9_stands_163.2.2.2.2.1
theorem dX9_stands_172 : decode cX9_stands 172 = .ok (.getfield 109, 3) := q9_dX9_stands_163.2.2.2.2.2.1
theorem dX9_stands_175 : decode cX9_stands 175 = .ok (.iload_n 3, 1) := q9_dX9_stands_163.2.2.2.2.2.2.1
theorem dX9_stands_176 : decode cX9_stands 176 = .ok (.iaload, 1) := q9_dX9_stands_163.2.2.2.2.2.2.2.1
theorem dX9_stands_177 : decode cX9_stands 177 = .ok (.iaload, 1) := q9_dX9_stands_163.2.2.2.2.2.2.2.2.1
theorem dX9_stands_178 : decode cX9_stands 178 = .ok (.aload_n 0, 1) := q9_dX9_stands_163.2.2.2.2.2.2.2.2.2
theorem q9_dX9_stands_179 : (decode cX9_stands 179 = .ok (.getfield 82, 3)) ∧ (decode cX9_stands 182 = .ok (.aload_n 0, 1)) ∧ (decode cX9_stands 183 = .ok (.getfield 109, 3)) ∧ (decode cX9_stands 186 = .ok (.iload_n 3, 1)) ∧ (decode cX9_stands 187 = .ok (.iaload, 1)) ∧ (decode cX9_stands 188 = .ok (.iaload, 1)) ∧ (decode cX9_stands 189 = .ok (.invokevirtual 228, 3)) ∧ (decode cX9_stands 192 = .ok (.aload_n 0, 1)) ∧ (decode cX9_stands 193 = .ok (.getfield 42, 3)) ∧ (decode cX9_stands 196 = .ok (.if_icmp .gt 7, 3)) := by decide +kernel
theorem dX9_stands_179 : decode cX9_stands 179 = .ok (.getfield 82, 3) := q9_dX9_stands_179.1
theorem dX9_stands_182 : decode cX9_stands 182 = .ok (.aload_n 0, 1) := q9_dX9_stands_179.2.1
theorem dX9_stands_183 : decode cX9_stands 183 = .ok (.getfield 109, 3) := q9_dX9_stands_179.2.2.1
theorem dX9_stands_186 : decode cX9_stands 186 = .ok (.iload_n 3, 1) := q9_dX9_stands_179.2.2.2.1
theorem dX9_stands_187 : decode cX9_stands 187 = .ok (.iaload, 1) := q9_dX9_stands_179.2.2.2.2.1
theorem dX9_stands_188 : decode cX9_stands 188 = .ok (.iaload, 1) := q9_dX9_stands_179.2.2.2.2.2.1
theorem dX9_stands_189 : decode cX9_stands 189 = .ok (.invokevirtual 228, 3) := q9_dX9_stands_179.2.2.2.2.2.2.1
theorem dX9_stands_192 : decode cX9_stands 192 = .ok (.aload_n 0, 1) := q9_dX9_stands_179.2.2.2.2.2.2.2.1
theorem dX9_stands_193 : decode cX9_stands 193 = .ok (.getfield 42, 3) := q9_dX9_stands_179.2.2.2.2.2.2.2.2.1
theorem dX9_stands_196 : decode cX9_stands 196 = .ok (.if_icmp .gt 7, 3) := q9_dX9_stands_179.2.2.2.2.2.2.2.2.2
theorem q9_dX9_stands_199 : (decode cX9_stands 199 = .ok (.iconst 1, 1)) ∧ (decode cX9_stands 200 = .ok (.goto 4, 3)) ∧ (decode cX9_stands 203 = .ok (.iconst 0, 1)) ∧ (decode cX9_stands 204 = .ok (.istore_n 1, 1)) ∧ (decode cX9_stands 205 = .ok (.iinc 3 1, 3)) ∧ (decode cX9_stands 208 = .ok (.goto (-62), 3)) ∧ (decode cX9_stands 211 = .ok (.iconst 0, 1)) ∧ (decode cX9_stands 212 = .ok (.istore_n 3, 1)) ∧ (decode cX9_stands 213 = .ok (.iload_n 3, 1)) ∧ (decode cX9_stands 214 = .ok (.aload_n 0, 1)) := by decide +kernel
theorem dX9_stands_199 : decode cX9_stands 199 = .ok (.iconst 1, 1) := q9_dX9_stands_199.1
theorem dX9_stands_200 : decode cX9_stands 200 = .ok (.goto 4, 3) := q9_dX9_stands_199.2.1
theorem dX9_stands_203 : decode cX9_stands 203 = .ok (.iconst 0, 1) := q9_dX9_stands_199.2.2.1
theorem dX9_stands_204 : decode cX9_stands 204 = .ok (.istore_n 1, 1) := q9_dX9_stands_199.2.2.2.1
theorem dX9_stands_205 : decode cX9_stands 205 = .ok (.iinc 3 1, 3) := q9_dX9_stands_199.2.2.2.2.1
theorem dX9_stands_208 : decode cX9_stands 208 = .ok (.goto (-62), 3) := q9_dX9_stands_199.2.2.2.2.2.1
theorem dX9_stands_211 : decode cX9_stands 211 = .ok (.iconst 0, 1) := q9_dX9_stands_199.2.2.2.2.2.2.1
theorem dX9_stands_212 : decode cX9_stands 212 = .ok (.istore_n 3, 1) := q9_dX9_stands_199.2.2.2.2.2.2.2.1
theorem dX9_stands_213 : decode cX9_stands 213 = .ok (.iload_n 3, 1) := q9_dX9_stands_199.2.2.2.2.2.2.2.2.1
theorem dX9_stands_214 : decode cX9_stands 214 = .ok (.aload_n 0, 1) := q9_dX9_stands_199.2.2.2.2.2.2.2.2.2
theorem q9_dX9_stands_215 : (decode cX9_stands 215 = .ok (.getfield 234, 3)) ∧ (decode cX9_stands 218 = .ok (.if_icmp .ge 21, 3)) ∧ (decode cX9_stands 221 = .ok (.aload_n 0, 1)) ∧ (decode cX9_stands 222 = .ok (.getfield 85, 3)) ∧ (decode cX9_stands 225 = .ok (.aload_n 0, 1)) ∧ (decode cX9_stands 226 = .ok (.getfield 109, 3)) ∧ (decode cX9_stands 229 = .ok (.iload_n 3, 1)) ∧ (decode cX9_stands 230 = .ok (.iaload, 1)) ∧ (decode cX9_stands 231 = .ok (.iconst 4, 1)) ∧ (decode cX9_stands 232 = .ok (.iastore, 1)) := by decide +kernel
theorem dX9_stands_215 : decode cX9_stands 215 = .ok (.getfield 234, 3) := q9_dX9_stands_215.1
theorem dX9_stands_218 : decode cX9_stands 218 = .ok (.if_icmp .ge 21, 3) := q9_dX9_stands_215.2.1
theorem dX9_stands_221 : decode cX9_stands 221 = .ok (.aload_n 0, 1) := q9_dX9_stands_215.2.2.1
theorem dX9_stands_222 : decode cX9_stands 222 = .ok (.getfield 85, 3) := q9_dX9_stands_215.2.2.2.1
theorem dX9_stands_225 : decode cX9_stands 225 = .ok (.aload_n 0, 1) := q9_dX9_stands_215.2.2.2.2.1
theorem dX9_stands_226 : decode cX9_stands 226 = .ok (.getfield 109, 3) := q9_dX9_stands_215.2.2.2.2.2.1
theorem dX9_stands_229 : decode cX9_stands 229 = .ok (.iload_n 3, 1) := q9_dX9_stands_215.2.2.2.2.2.2.1
theorem dX9_stands_230 : decode cX9_stands 230 = .ok (.iaload, 1) := q9_dX9_stands_215.2.2.2.2.2.2.2.1
theorem dX9_stands_231 : decode cX9_stands 231 = .ok (.iconst 4, 1) := q9_dX9_stands_215.2.2.2.2.2.2.2.2.1
theorem dX9_stands_232 : decode cX9_stands 232 = .ok (.iastore, 1) := q9_dX9_stands_215.2.2.2.2.2.2.2.2.2
theorem q9_dX9_stands_233 : (decode cX9_stands 233 = .ok (.iinc 3 1, 3)) ∧ (decode cX9_stands 236 = .ok (.goto (-23), 3)) ∧ (decode cX9_stands 239 = .ok (.iload_n 1, 1)) ∧ (decode cX9_stands 240 = .ok (.ireturn, 1)) ∧ (decode cX9_isLess 0 = .ok (.iconst 0, 1)) ∧ (decode cX9_isLess 1 = .ok (.istore_n 1, 1)) ∧ (decode cX9_isLess 2 = .ok (.iload_n 1, 1)) ∧ (decode cX9_isLess 3 = .ok (.aload_n 0, 1)) ∧ (decode cX9_isLess 4 = .ok (.getfield 234, 3)) ∧ (decode cX9_isLess 7 = .ok (.if_icmp .ge 45, 3)) := by decide +kernel
theorem dX9_stands_233 : decode cX9_stands 233 = .ok (.iinc 3 1, 3) := q9_dX9_stands_233.1
theorem dX9_stands_236 : decode cX9_stands 236 = .ok (.goto (-23), 3) := q9_dX9_stands_233.2.1
theorem dX9_stands_239 : decode cX9_stands 239 = .ok (.iload_n 1, 1) := q9_dX9_stands_233.2.2.1
theorem dX9_stands_240 : decode cX9_stands 240 = .ok (.ireturn, 1) := q9_dX9_stands_233.2.2.2.1
theorem dX9_isLess_0 : decode cX9_isLess 0 = .ok (.iconst 0, 1) := q9_dX9_stands_233.2.2.2.2.1
theorem dX9_isLess_1 : decode cX9_isLess 1 = .ok (.istore_n 1, 1) := q9_dX9_stands_233.2.2.2.2.2.1
theorem dX9_isLess_2 : decode cX9_isLess 2 = .ok (.iload_n 1, 1) := q9_dX9_stands_233.2.2.2.2.2.2.1
theorem dX9_isLess_3 : decode cX9_isLess 3 = .ok (.aload_n 0, 1) := q9_dX9_stands_233.2.2.2.2.2.2.2.1
theorem dX9_isLess_4 : decode cX9_isLess 4 = .ok (.getfield 234, 3) := q9_dX9_stands_233.2.2.2.2.2.2.2.2.1
theorem dX9_isLess_7 : decode cX9_isLess 7 = .ok (.if_icmp .ge 45, 3) := q9_dX9_stands_233.2.2.2.2.2.2.2.2.2
theorem q9_dX9_isLess_10 : (decode cX9_isLess 10 = .ok (.aload_n 0, 1)) ∧ (decode cX9_isLess 11 = .ok (.getfield 112, 3)) ∧ (decode cX9_isLess 14 = .ok (.iload_n 1, 1)) ∧ (decode cX9_isLess 15 = .ok (.iaload, 1)) ∧ (decode cX9_isLess 16 = .ok (.aload_n 0, 1)) ∧ (decode cX9_isLess 17 = .ok (.getfield 115, 3)) ∧ (decode cX9_isLess 20 = .ok (.iload_n 1, 1)) ∧ (decode cX9_isLess 21 = .ok (.iaload, 1)) ∧ (decode cX9_isLess 22 = .ok (.if_icmp .eq 24, 3)) ∧ (decode cX9_isLess 25 = .ok (.aload_n 0, 1)) := by decide +kernel
theorem dX9_isLess_10 : decode cX9_isLess 10 = .ok (.aload_n 0, 1) := q9_dX9_isLess_10.1
theorem dX9_isLess_11 : decode cX9_isLess 11 = .ok (.getfield 112, 3) := q9_dX9_isLess_10.2.1
theorem dX9_isLess_14 : decode cX9_isLess 14 = .ok (.iload_n 1, 1) := q9_dX9_isLess_10.2.2.1
theorem dX9_isLess_15 : decode cX9_isLess 15 = .ok (.iaload, 1) := q9_dX9_isLess_10.2.2.2.1
theorem dX9_isLess_16 : decode cX9_isLess 16 = .ok (.aload_n 0, 1) := q9_dX9_isLess_10.2.2.2.2.1
theorem dX9_isLess_17 : decode cX9_isLess 17 = .ok (.getfield 115, 3) := q9_dX9_isLess_10.2.2.2.2.2.1
theorem dX9_isLess_20 : decode cX9_isLess 20 = .ok (.iload_n 1, 1) := q9_dX9_isLess_10.2.2.2.2.2.2.1
theorem dX9_isLess_21 : decode cX9_isLess 21 = .ok (.iaload, 1) := q9_dX9_isLess_10.2.2.2.2.2.2.2.1
theorem dX9_isLess_22 : decode cX9_isLess 22 = .ok (.if_icmp .eq 24, 3) := q9_dX9_isLess_10.2.2.2.2.2.2.2.2.1
theorem dX9_isLess_25 : decode cX9_isLess 25 = .ok (.aload_n 0, 1) := q9_dX9_isLess_10.2.2.2.2.2.2.2.2.2
theorem q9_dX9_isLess_26 : (decode cX9_isLess 26 = .ok (.getfield 112, 3)) ∧ (decode cX9_isLess 29 = .ok (.iload_n 1, 1)) ∧ (decode cX9_isLess 30 = .ok (.iaload, 1)) ∧ (decode cX9_isLess 31 = .ok (.aload_n 0, 1)) ∧ (decode cX9_isLess 32 = .ok (.getfield 115, 3)) ∧ (decode cX9_isLess 35 = .ok (.iload_n 1, 1)) ∧ (decode cX9_isLess 36 = .ok (.iaload, 1)) ∧ (decode cX9_isLess 37 = .ok (.if_icmp .ge 7, 3)) ∧ (decode cX9_isLess 40 = .ok (.iconst 1, 1)) ∧ (decode cX9_isLess 41 = .ok (.goto 4, 3)) := by decide +kernel
theorem dX9_isLess_26 : decode cX9_isLess 26 = .ok (.getfield 112, 3) := q9_dX9_isLess_26.1
theorem dX9_isLess_29 : decode cX9_isLess 29 = .ok (.iload_n 1, 1) := q9_dX9_isLess_26.2.1
theorem dX9_isLess_30 : decode cX9_isLess 30 = .ok (.iaload, 1) := q9_dX9_isLess_26.2.2.1
theorem dX9_isLess_31 : decode cX9_isLess 31 = .ok (.aload_n 0, 1) := q9_dX9_isLess_26.2.2.2.1
theorem dX9_isLess_32 : decode cX9_isLess 32 = .ok (.getfield 115, 3) := q9_dX9_isLess_26.2.2.2.2.1
theorem dX9_isLess_35 : decode cX9_isLess 35 = .ok (.iload_n 1, 1) := q9_dX9_isLess_26.2.2.2.2.2.1
theorem dX9_isLess_36 : decode cX9_isLess 36 = .ok (.iaload, 1) := q9_dX9_isLess_26.2.2.2.2.2.2.1
theorem dX9_isLess_37 : decode cX9_isLess 37 = .ok (.if_icmp .ge 7, 3) := q9_dX9_isLess_26.2.2.2.2.2.2.2.1
theorem dX9_isLess_40 : decode cX9_isLess 40 = .ok (.iconst 1, 1) := q9_dX9_isLess_26.2.2.2.2.2.2.2.2.1
theorem dX9_isLess_41 : decode cX9_isLess 41 = .ok (.goto 4, 3) := q9_dX9_isLess_26.2.2.2.2.2.2.2.2.2
theorem q9_dX9_isLess_44 : (decode cX9_isLess 44 = .ok (.iconst 0, 1)) ∧ (decode cX9_isLess 45 = .ok (.ireturn, 1)) ∧ (decode cX9_isLess 46 = .ok (.iinc 1 1, 3)) ∧ (decode cX9_isLess 49 = .ok (.goto (-47), 3)) ∧ (decode cX9_isLess 52 = .ok (.iconst 0, 1)) ∧ (decode cX9_isLess 53 = .ok (.ireturn, 1)) := by decide +kernel
theorem dX9_isLess_44 : decode cX9_isLess 44 = .ok (.iconst 0, 1) := q9_dX9_isLess_44.1
theorem dX9_isLess_45 : decode cX9_isLess 45 = .ok (.ireturn, 1) := q9_dX9_isLess_44.2.1
theorem dX9_isLess_46 : decode cX9_isLess 46 = .ok (.iinc 1 1, 3) := q9_dX9_isLess_44.2.2.1
theorem dX9_isLess_49 : decode cX9_isLess 49 = .ok (.goto (-47), 3) := q9_dX9_isLess_44.2.2.2.1
theorem dX9_isLess_52 : decode cX9_isLess 52 = .ok (.iconst 0, 1) := q9_dX9_isLess_44.2.2.2.2.1
theorem dX9_isLess_53 : decode cX9_isLess 53 = .ok (.ireturn, 1) := q9_dX9_isLess_44.2.2.2.2.2
set_option maxRecDepth 20000 in
theorem ggX9_tries_X9_behind : GoodIn wsX9_tries wsX9_behind := goodIn_r _ [9] rfl (by decide +kernel)
set_option maxRecDepth 20000 in
theorem gX9_tries_X9_behind : GoodIn wsX9_tries (va_wsS RX9 237 yX9_behind wsX9_behind) := goodIn_app (goodIn_of _ (by decide +kernel)) ggX9_tries_X9_behind
set_option maxRecDepth 20000 in
theorem ggX9_tries_X9_isLess : GoodIn wsX9_tries wsX9_isLess := goodIn_r _ [13, 1, 2, 5, 42, 43, 44, 45, 46, 47, 48, 49, 50, 51, 52, 53, 54, 55, 56, 57, 58, 59, 60, 61, 62, 63, 64, 65, 66, 67, 68, 69, 70, 71, 72, 73, 74, 75, 76, 77, 78, 79, 80, 81, 82, 83, 84, 85, 86, 87, 88, 89, 90, 91, 92, 93, 94, 95, 96, 97, 98, 99, 100, 101, 102, 103, 104] rfl (by decide +kernel)
set_option maxRecDepth 20000 in
theorem gX9_tries_X9_isLess : GoodIn wsX9_tries (wsV RX9 247 RX9 yX9_isLess wsX9_isLess) := goodIn_app (goodIn_of _ (by decide +kernel)) ggX9_tries_X9_isLess
set_option maxRecDepth 20000 in
theorem ggX9_tries_X9_stands : GoodIn wsX9_tries wsX9_stands := goodIn_r _ [17, 1, 2, 18, 19, 20, 21, 22, 23, 24, 6, 7, 8, 9, 25, 26, 27, 28, 29, 30, 31, 32, 33, 34, 35, 36, 37, 38, 39, 40, 41, 42, 43, 44, 45, 46, 47, 48, 49, 50, 51, 52, 53, 54, 55, 56, 57, 58, 59, 60, 61, 62, 63, 64, 65, 66, 67, 68, 69, 70, 71, 72, 73, 74, 75, 76, 77, 78, 79, 80, 81, 82, 83, 84, 85, 86, 87, 88, 89, 90, 91, 92, 93, 94, 95, 96, 97, 98, 99, 100, 101, 102, 103, 104] rfl (by decide +kernel)
set_option maxRecDepth 20000 in
theorem gX9_tries_X9_stands : GoodIn wsX9_tries (wsV RX9 250 RX9 yX9_stands wsX9_stands) := goodIn_app (goodIn_of _ (by decide +kernel)) ggX9_tries_X9_stands
theorem q9_dX9_tries_0 : (decode cX9_tries 0 = .ok (.iconst 0, 1)) ∧ (decode cX9_tries 1 = .ok (.istore_n 1, 1)) ∧ (decode cX9_tries 2 = .ok (.iconst 0, 1)) ∧ (decode cX9_tries 3 = .ok (.istore_n 2, 1)) ∧ (decode cX9_tries 4 = .ok (.iconst 0, 1)) ∧ (decode cX9_tries 5 = .ok (.istore_n 3, 1)) ∧ (decode cX9_tries 6 = .ok (.iload_n 3, 1)) ∧ (decode cX9_tries 7 = .ok (.aload_n 0, 1)) ∧ (decode cX9_tries 8 = .ok (.getfield 234, 3)) ∧ (decode cX9_tries 11 = .ok (.if_icmp .ge 72, 3)) := by decide +kernel
theorem dX9_tries_0 : decode cX9_tries 0 = .ok (.iconst 0, 1) := q9_dX9_tries_0.1
theorem dX9_tries_1 : decode cX9_tries 1 = .ok (.istore_n 1, 1) := q9_dX9_tries_0.2.1
theorem dX9_tries_2 : decode cX9_tries 2 = .ok (.iconst 0, 1) := q9_dX9_tries_0.2.2.1
theorem dX9_tries_3 : decode cX9_tries 3 = .ok (.istore_n 2, 1) := q9_dX9_tries_0.2.2.2.1
theorem dX9_tries_4 : decode cX9_tries 4 = .ok (.iconst 0, 1) := q9_dX9_tries_0.2.2.2.2.1
theorem dX9_tries_5 : decode cX9_tries 5 = .ok (.istore_n 3, 1) := q9_dX9_tries_0.2.2.2.2.2.1
theorem dX9_tries_6 : decode cX9_tries 6 = .ok (.iload_n 3, 1) := q9_dX9_tries_0.2.2.2.2.2.2.1
theorem dX9_tries_7 : decode cX9_tries 7 = .ok (.aload_n 0, 1) := q9_dX9_tries_0.2.2.2.2.2.2.2.1
theorem dX9_tries_8 : decode cX9_tries 8 = .ok (.getfield 234, 3) := q9_dX9_tries_0.2.2.2.2.2.2.2.2.1
theorem dX9_tries_11 : decode cX9_tries 11 = .ok (.if_icmp .ge 72, 3) := q9_dX9_tries_0.2.2.2.2.2.2.2.2.2
theorem q9_dX9_tries_14 : (decode cX9_tries 14 = .ok (.aload_n 0, 1)) ∧ (decode cX9_tries 15 = .ok (.getfield 112, 3)) ∧ (decode cX9_tries 18 = .ok (.iload_n 3, 1)) ∧ (decode cX9_tries 19 = .ok (.iaload, 1)) ∧ (decode cX9_tries 20 = .ok (.iconst 2, 1)) ∧ (decode cX9_tries 21 = .ok (.idiv, 1)) ∧ (decode cX9_tries 22 = .ok (.invokestatic 237, 3)) ∧ (decode cX9_tries 25 = .ok (.istore 4, 2)) ∧ (decode cX9_tries 27 = .ok (.iload_n 1, 1)) ∧ (decode cX9_tries 28 = .ok (.aload_n 0, 1)) := by decide +kernel
theorem dX9_tries_14 : decode cX9_tries 14 = .ok (.aload_n 0, 1) := q9_dX9_tries_14.1
theorem dX9_tries_15 : decode cX9_tries 15 = .ok (.getfield 112, 3) := q9_dX9_tries_14.2.1
theorem dX9_tries_18 : decode cX9_tries 18 = .ok (.iload_n 3, 1) := q9_dX9_tries_14.2.2.1
theorem dX9_tries_19 : decode cX9_tries 19 = .ok (.iaload, 1) := q9_dX9_tries_14.2.2.2.1
theorem dX9_tries_20 : decode cX9_tries 20 = .ok (.iconst 2, 1) := q9_dX9_tries_14.2.2.2.2.1
theorem dX9_tries_21 : decode cX9_tries 21 = .ok (.idiv, 1) := q9_dX9_tries_14.2.2.2.2.2.1
theorem dX9_tries_22 : decode cX9_tries 22 = .ok (.invokestatic 237, 3) := q9_dX9_tries_14.2.2.2.2.2.2.1
theorem dX9_tries_25 : decode cX9_tries 25 = .ok (.istore 4, 2) := q9_dX9_tries_14.2.2.2.2.2.2.2.1
theorem dX9_tries_27 : decode cX9_tries 27 = .ok (.iload_n 1, 1) := q9_dX9_tries_14.2.2.2.2.2.2.2.2.1
theorem dX9_tries_28 : decode cX9_tries 28 = .ok (.aload_n 0, 1) := q9_dX9_tries_14.2.2.2.2.2.2.2.2.2
theorem q9_dX9_tries_29 : (decode cX9_tries 29 = .ok (.getfield 112, 3)) ∧ (decode cX9_tries 32 = .ok (.iload_n 3, 1)) ∧ (decode cX9_tries 33 = .ok (.iaload, 1)) ∧ (decode cX9_tries 34 = .ok (.bipush 14, 2)) ∧ (decode cX9_tries 36 = .ok (.if_icmp .ne 7, 3)) ∧ (decode cX9_tries 39 = .ok (.iconst 1, 1)) ∧ (decode cX9_tries 40 = .ok (.goto 4, 3)) ∧ (decode cX9_tries 43 = .ok (.iconst 0, 1)) ∧ (decode cX9_tries 44 = .ok (.iadd, 1)) ∧ (decode cX9_tries 45 = .ok (.istore_n 1, 1)) := by decide +kernel
theorem dX9_tries_29 : decode cX9_tries 29 = .ok (.getfield 112, 3) := q9_dX9_tries_29.1
theorem dX9_tries_32 : decode cX9_tries 32 = .ok (.iload_n 3, 1) := q9_dX9_tries_29.2.1
theorem dX9_tries_33 : decode cX9_tries 33 = .ok (.iaload, 1) := q9_dX9_tries_29.2.2.1
theorem dX9_tries_34 : decode cX9_tries 34 = .ok (.bipush 14, 2) := q9_dX9_tries_29.2.2.2.1
theorem dX9_tries_36 : decode cX9_tries 36 = .ok (.if_icmp .ne 7, 3) := q9_dX9_tries_29.2.2.2.2.1
theorem dX9_tries_39 : decode cX9_tries 39 = .ok (.iconst 1, 1) := q9_dX9_tries_29.2.2.2.2.2.1
theorem dX9_tries_40 : decode cX9_tries 40 = .ok (.goto 4, 3) := q9_dX9_tries_29.2.2.2.2.2.2.1
theorem dX9_tries_43 : decode cX9_tries 43 = .ok (.iconst 0, 1) := q9_dX9_tries_29.2.2.2.2.2.2.2.1
theorem dX9_tries_44 : decode cX9_tries 44 = .ok (.iadd, 1) := q9_dX9_tries_29.2.2.2.2.2.2.2.2.1
theorem dX9_tries_45 : decode cX9_tries 45 = .ok (.istore_n 1, 1) := q9_dX9_tries_29.2.2.2.2.2.2.2.2.2
theorem q9_dX9_tries_46 : (decode cX9_tries 46 = .ok (.iload_n 2, 1)) ∧ (decode cX9_tries 47 = .ok (.aload_n 0, 1)) ∧ (decode cX9_tries 48 = .ok (.getfield 112, 3)) ∧ (decode cX9_tries 51 = .ok (.iload_n 3, 1)) ∧ (decode cX9_tries 52 = .ok (.iaload, 1)) ∧ (decode cX9_tries 53 = .ok (.bipush 14, 2)) ∧ (decode cX9_tries 55 = .ok (.if_icmp .ne 7, 3)) ∧ (decode cX9_tries 58 = .ok (.iconst 0, 1)) ∧ (decode cX9_tries 59 = .ok (.goto 16, 3)) ∧ (decode cX9_tries 62 = .ok (.iload 4, 2)) := by decide +kernel
theorem dX9_tries_46 : decode cX9_tries 46 = .ok (.iload_n 2, 1) := q9_dX9_tries_46.1
theorem dX9_tries_47 : decode cX9_tries 47 = .ok (.aload_n 0, 1) := q9_dX9_tries_46.2.1
theorem dX9_tries_48 : decode cX9_tries 48 = .ok (.getfield 112, 3) := q9_dX9_tries_46.2.2.1
theorem dX9_tries_51 : decode cX9_tries 51 = .ok (.iload_n 3, 1) := q9_dX9_tries_46.2.2.2.1
theorem dX9_tries_52 : decode cX9_tries 52 = .ok (.iaload, 1) := q9_dX9_tries_46.2.2.2.2.1
theorem dX9_tries_53 : decode cX9_tries 53 = .ok (.bipush 14, 2) := q9_dX9_tries_46.2.2.2.2.2.1
theorem dX9_tries_55 : decode cX9_tries 55 = .ok (.if_icmp .ne 7, 3) := q9_dX9_tries_46.2.2.2.2.2.2.1
theorem dX9_tries_58 : decode cX9_tries 58 = .ok (.iconst 0, 1) := q9_dX9_tries_46.2.2.2.2.2.2.2.1
theorem dX9_tries_59 : decode cX9_tries 59 = .ok (.goto 16, 3) := q9_dX9_tries_46.2.2.2.2.2.2.2.2.1
theorem dX9_tries_62 : decode cX9_tries 62 = .ok (.iload 4, 2) := q9_dX9_tries_46.2.2.2.2.2.2.2.2.2
theorem q9_dX9_tries_64 : (decode cX9_tries 64 = .ok (.ifCond .ge 9, 3)) ∧ (decode cX9_tries 67 = .ok (.iload 4, 2)) ∧ (decode cX9_tries 69 = .ok (.ineg, 1)) ∧ (decode cX9_tries 70 = .ok (.goto 5, 3)) ∧ (decode cX9_tries 73 = .ok (.iload 4, 2)) ∧ (decode cX9_tries 75 = .ok (.iadd, 1)) ∧ (decode cX9_tries 76 = .ok (.istore_n 2, 1)) ∧ (decode cX9_tries 77 = .ok (.iinc 3 1, 3)) ∧ (decode cX9_tries 80 = .ok (.goto (-74), 3)) ∧ (decode cX9_tries 83 = .ok (.aload_n 0, 1)) := by decide +kernel
theorem dX9_tries_64 : decode cX9_tries 64 = .ok (.ifCond .ge 9, 3) := q9_dX9_tries_64.1
theorem dX9_tries_67 : decode cX9_tries 67 = .ok (.iload 4, 2) := q9_dX9_tries_64.2.1
theorem dX9_tries_69 : decode cX9_tries 69 = .ok (.ineg, 1) := q9_dX9_tries_64.2.2.1
theorem dX9_tries_70 : decode cX9_tries 70 = .ok (.goto 5, 3) := q9_dX9_tries_64.2.2.2.1
theorem dX9_tries_73 : decode cX9_tries 73 = .ok (.iload 4, 2) := q9_dX9_tries_64.2.2.2.2.1
theorem dX9_tries_75 : decode cX9_tries 75 = .ok (.iadd, 1) := q9_dX9_tries_64.2.2.2.2.2.1
theorem dX9_tries_76 : decode cX9_tries 76 = .ok (.istore_n 2, 1) := q9_dX9_tries_64.2.2.2.2.2.2.1
theorem dX9_tries_77 : decode cX9_tries 77 = .ok (.iinc 3 1, 3) := q9_dX9_tries_64.2.2.2.2.2.2.2.1
theorem dX9_tries_80 : decode cX9_tries 80 = .ok (.goto (-74), 3) := q9_dX9_tries_64.2.2.2.2.2.2.2.2.1
theorem dX9_tries_83 : decode cX9_tries 83 = .ok (.aload_n 0, 1) := q9_dX9_tries_64.2.2.2.2.2.2.2.2.2
theorem q9_dX9_tries_84 : (decode cX9_tries 84 = .ok (.getfield 241, 3)) ∧ (decode cX9_tries 87 = .ok (.iconst (-1), 1)) ∧ (decode cX9_tries 88 = .ok (.if_icmp .eq 42, 3)) ∧ (decode cX9_tries 91 = .ok (.iload_n 1, 1)) ∧ (decode cX9_tries 92 = .ok (.aload_n 0, 1)) ∧ (decode cX9_tries 93 = .ok (.getfield 241, 3)) ∧ (decode cX9_tries 96 = .ok (.if_icmp .lt 34, 3)) ∧ (decode cX9_tries 99 = .ok (.iload_n 1, 1)) ∧ (decode cX9_tries 100 = .ok (.aload_n 0, 1)) ∧ (decode cX9_tries 101 = .ok (.getfield 241, 3)) := by decide +kernel
theorem dX9_tries_84 : decode cX9_tries 84 = .ok (.getfield 241, 3) := q9_dX9_tries_84.1
theorem dX9_tries_87 : decode cX9_tries 87 = .ok (.iconst (-1), 1) := q9_dX9_tries_84.2.1
theorem dX9_tries_88 : decode cX9_tries 88 = .ok (.if_icmp .eq 42, 3) := q9_dX9_tries_84.2.2.1
theorem dX9_tries_91 : decode cX9_tries 91 = .ok (.iload_n 1, 1) := q9_dX9_tries_84.2.2.2.1
theorem dX9_tries_92 : decode cX9_tries 92 = .ok (.aload_n 0, 1) := q9_dX9_tries_84.2.2.2.2.1
theorem dX9_tries_93 : decode cX9_tries 93 = .ok (.getfield 241, 3) := q9_dX9_tries_84.2.2.2.2.2.1
theorem dX9_tries_96 : decode cX9_tries 96 = .ok (.if_icmp .lt 34, 3) := q9_dX9_tries_84.2.2.2.2.2.2.1
theorem dX9_tries_99 : decode cX9_tries 99 = .ok (.iload_n 1, 1) := q9_dX9_tries_84.2.2.2.2.2.2.2.1
theorem dX9_tries_100 : decode cX9_tries 100 = .ok (.aload_n 0, 1) := q9_dX9_tries_84.2.2.2.2.2.2.2.2.1
theorem dX9_tries_101 : decode cX9_tries 101 = .ok (.getfield 241, 3) := q9_dX9_tries_84.2.2.2.2.2.2.2.2.2
theorem q9_dX9_tries_104 : (decode cX9_tries 104 = .ok (.if_icmp .ne 30, 3)) ∧ (decode cX9_tries 107 = .ok (.iload_n 2, 1)) ∧ (decode cX9_tries 108 = .ok (.aload_n 0, 1)) ∧ (decode cX9_tries 109 = .ok (.getfield 244, 3)) ∧ (decode cX9_tries 112 = .ok (.if_icmp .lt 18, 3)) ∧ (decode cX9_tries 115 = .ok (.iload_n 2, 1)) ∧ (decode cX9_tries 116 = .ok (.aload_n 0, 1)) ∧ (decode cX9_tries 117 = .ok (.getfield 244, 3)) ∧ (decode cX9_tries 120 = .ok (.if_icmp .ne 14, 3)) ∧ (decode cX9_tries 123 = .ok (.aload_n 0, 1)) := by decide +kernel
theorem dX9_tries_104 : decode cX9_tries 104 = .ok (.if_icmp .ne 30, 3) := q9_dX9_tries_104.1
theorem dX9_tries_107 : decode cX9_tries 107 = .ok (.iload_n 2, 1) := q9_dX9_tries_104.2.1
theorem dX9_tries_108 : decode cX9_tries 108 = .ok (.aload_n 0, 1) := q9_dX9_tries_104.2.2.1
theorem dX9_tries_109 : decode cX9_tries 109 = .ok (.getfield 244, 3) := q9_dX9_tries_104.2.2.2.1
theorem dX9_tries_112 : decode cX9_tries 112 = .ok (.if_icmp .lt 18, 3) := q9_dX9_tries_104.2.2.2.2.1
theorem dX9_tries_115 : decode cX9_tries 115 = .ok (.iload_n 2, 1) := q9_dX9_tries_104.2.2.2.2.2.1
theorem dX9_tries_116 : decode cX9_tries 116 = .ok (.aload_n 0, 1) := q9_dX9_tries_104.2.2.2.2.2.2.1
theorem dX9_tries_117 : decode cX9_tries 117 = .ok (.getfield 244, 3) := q9_dX9_tries_104.2.2.2.2.2.2.2.1
theorem dX9_tries_120 : decode cX9_tries 120 = .ok (.if_icmp .ne 14, 3) := q9_dX9_tries_104.2.2.2.2.2.2.2.2.1
theorem dX9_tries_123 : decode cX9_tries 123 = .ok (.aload_n 0, 1) := q9_dX9_tries_104.2.2.2.2.2.2.2.2.2
theorem q9_dX9_tries_124 : (decode cX9_tries 124 = .ok (.invokevirtual 247, 3)) ∧ (decode cX9_tries 127 = .ok (.ifCond .eq 7, 3)) ∧ (decode cX9_tries 130 = .ok (.iconst 1, 1)) ∧ (decode cX9_tries 131 = .ok (.goto 4, 3)) ∧ (decode cX9_tries 134 = .ok (.iconst 0, 1)) ∧ (decode cX9_tries 135 = .ok (.istore_n 3, 1)) ∧ (decode cX9_tries 136 = .ok (.iload_n 3, 1)) ∧ (decode cX9_tries 137 = .ok (.ifCond .eq 10, 3)) ∧ (decode cX9_tries 140 = .ok (.aload_n 0, 1)) ∧ (decode cX9_tries 141 = .ok (.invokevirtual 250, 3)) := by decide +kernel
theorem dX9_tries_124 : decode cX9_tries 124 = .ok (.invokevirtual 247, 3) := q9_dX9_tries_124.1
theorem dX9_tries_127 : decode cX9_tries 127 = .ok (.ifCond .eq 7, 3) := q9_dX9_tries_124.2.1
theorem dX9_tries_130 : decode cX9_tries 130 = .ok (.iconst 1, 1) := q9_dX9_tries_124.2.2.1
theorem dX9_tries_131 : decode cX9_tries 131 = .ok (.goto 4, 3) := q9_dX9_tries_124.2.2.2.1
theorem dX9_tries_134 : decode cX9_tries 134 = .ok (.iconst 0, 1) := q9_dX9_tries_124.2.2.2.2.1
theorem dX9_tries_135 : decode cX9_tries 135 = .ok (.istore_n 3, 1) := q9_dX9_tries_124.2.2.2.2.2.1
theorem dX9_tries_136 : decode cX9_tries 136 = .ok (.iload_n 3, 1) := q9_dX9_tries_124.2.2.2.2.2.2.1
theorem dX9_tries_137 : decode cX9_tries 137 = .ok (.ifCond .eq 10, 3) := q9_dX9_tries_124.2.2.2.2.2.2.2.1
theorem dX9_tries_140 : decode cX9_tries 140 = .ok (.aload_n 0, 1) := q9_dX9_tries_124.2.2.2.2.2.2.2.2.1
theorem dX9_tries_141 : decode cX9_tries 141 = .ok (.invokevirtual 250, 3) := q9_dX9_tries_124.2.2.2.2.2.2.2.2.2
theorem q9_dX9_tries_144 : (decode cX9_tries 144 = .ok (.ifCond .ne 4, 3)) ∧ (decode cX9_tries 147 = .ok (.return_, 1)) ∧ (decode cX9_tries 148 = .ok (.aload_n 0, 1)) ∧ (decode cX9_tries 149 = .ok (.iload_n 1, 1)) ∧ (decode cX9_tries 150 = .ok (.putfield 241, 3)) ∧ (decode cX9_tries 153 = .ok (.aload_n 0, 1)) ∧ (decode cX9_tries 154 = .ok (.iload_n 2, 1)) ∧ (decode cX9_tries 155 = .ok (.putfield 244, 3)) ∧ (decode cX9_tries 158 = .ok (.iconst 0, 1)) ∧ (decode cX9_tries 159 = .ok (.istore 4, 2)) := by decide +kernel
theorem dX9_tries_144 : decode cX9_tries 144 = .ok (.ifCond .ne 4, 3) := q9_dX9_tries_144.1
theorem dX9_tries_147 : decode cX9_tries 147 = .ok (.return_, 1) := q9_dX9_tries_144.2.1
theorem dX9_tries_148 : decode cX9_tries 148 = .ok (.aload_n 0, 1) := q9_dX9_tries_144.2.2.1
theorem dX9_tries_149 : decode cX9_tries 149 = .ok (.iload_n 1, 1) := q9_dX9_tries_144.2.2.2.1
theorem dX9_tries_150 : decode cX9_tries 150 = .ok (.putfield 241, 3) := q9_dX9_tries_144.2.2.2.2.1
theorem dX9_tries_153 : decode cX9_tries 153 = .ok (.aload_n 0, 1) := q9_dX9_tries_144.2.2.2.2.2.1
theorem dX9_tries_154 : decode cX9_tries 154 = .ok (.iload_n 2, 1) := q9_dX9_tries_144.2.2.2.2.2.2.1
theorem dX9_tries_155 : decode cX9_tries 155 = .ok (.putfield 244, 3) := q9_dX9_tries_144.2.2.2.2.2.2.2.1
theorem dX9_tries_158 : decode cX9_tries 158 = .ok (.iconst 0, 1) := q9_dX9_tries_144.2.2.2.2.2.2.2.2.1
theorem dX9_tries_159 : decode cX9_tries 159 = .ok (.istore 4, 2) := q9_dX9_tries_144.2.2.2.2.2.2.2.2.2
theorem q9_dX9_tries_161 : (decode cX9_tries 161 = .ok (.iload 4, 2)) ∧ (decode cX9_tries 163 = .ok (.aload_n 0, 1)) ∧ (decode cX9_tries 164 = .ok (.getfield 234, 3)) ∧ (decode cX9_tries 167 = .ok (.if_icmp .ge 23, 3)) ∧ (decode cX9_tries 170 = .ok (.aload_n 0, 1)) ∧ (decode cX9_tries 171 = .ok (.getfield 115, 3)) ∧ (decode cX9_tries 174 = .ok (.iload 4, 2)) ∧ (decode cX9_tries 176 = .ok (.aload_n 0, 1)) ∧ (decode cX9_tries 177 = .ok (.getfield 112, 3)) ∧ (decode cX9_tries 180 = .ok (.iload 4, 2)) := by decide +kernel
theorem dX9_tries_161 : decode cX9_tries 161 = .ok (.iload 4, 2) := q9_dX9_tries_161.1
theorem dX9_tries_163 : decode cX9_tries 163 = .ok (.aload_n 0, 1) := q9_dX9_tries_161.2.1
theorem dX9_tries_164 : decode cX9_tries 164 = .ok (.getfield 234, 3) := q9_dX9_tries_161.2.2.1
theorem dX9_tries_167 : decode cX9_tries 167 = .ok (.if_icmp .ge 23, 3) := q9_dX9_tries_161.2.2.2.1
theorem dX9_tries_170 : decode cX9_tries 170 = .ok (.aload_n 0, 1) := q9_dX9_tries_161.2.2.2.2.1
theorem dX9_tries_171 : decode cX9_tries 171 = .ok (.getfield 115, 3) := q9_dX9_tries_161.2.2.2.2.2.1
theorem dX9_tries_174 : decode cX9_tries 174 = .ok (.iload 4, 2) := q9_dX9_tries_161.2.2.2.2.2.2.1
theorem dX9_tries_176 : decode cX9_tries 176 = .ok (.aload_n 0, 1) := q9_dX9_tries_161.2.2.2.2.2.2.2.1
theorem dX9_tries_177 : decode cX9_tries 177 = .ok (.getfield 112, 3) := q9_dX9_tries_161.2.2.2.2.2.2.2.2.1
theorem dX9_tries_180 : decode cX9_tries 180 = .ok (.iload 4, 2) := q9_dX9_tries_161.2.2.2.2.2.2.2.2.2
theorem q9_dX9_tries_182 : (decode cX9_tries 182 = .ok (.iaload, 1)) ∧ (decode cX9_tries 183 = .ok (.iastore, 1)) ∧ (decode cX9_tries 184 = .ok (.iinc 4 1, 3)) ∧ (decode cX9_tries 187 = .ok (.goto (-26), 3)) ∧ (decode cX9_tries 190 = .ok (.return_, 1)) := by decide +kernel
theorem dX9_tries_182 : decode cX9_tries 182 = .ok (.iaload, 1) := q9_dX9_tries_182.1
theorem dX9_tries_183 : decode cX9_tries 183 = .ok (.iastore, 1) := q9_dX9_tries_182.2.1
theorem dX9_tries_184 : decode cX9_tries 184 = .ok (.iinc 4 1, 3) := q9_dX9_tries_182.2.2.1
theorem dX9_tries_187 : decode cX9_tries 187 = .ok (.goto (-26), 3) := q9_dX9_tries_182.2.2.2.1
theorem dX9_tries_190 : decode cX9_tries 190 = .ok (.return_, 1) := q9_dX9_tries_182.2.2.2.2
set_option maxRecDepth 20000 in
theorem ggX9_close_X9_isSheet : GoodIn wsX9_close wsX9_isSheet := goodIn_r _ [20] rfl (by decide +kernel)
set_option maxRecDepth 20000 in
theorem gX9_close_X9_isSheet : GoodIn wsX9_close (va_wsS RX9 216 yX9_isSheet wsX9_isSheet) := goodIn_app (goodIn_of _ (by decide +kernel)) ggX9_close_X9_isSheet
set_option maxRecDepth 20000 in
theorem ggX9_close_X9_tries : GoodIn wsX9_close wsX9_tries := goodIn_r _ [24, 3, 14, 13, 25, 15, 26, 27, 19, 28, 29, 30, 31, 32, 33, 34, 35, 36, 9, 1, 5, 8, 6, 7, 37, 38, 39, 40, 41, 2, 10, 11, 12, 42, 43, 44, 45, 4, 46, 47, 48, 49, 50, 51, 52, 53, 54, 55, 56, 57, 58, 59, 60, 61, 62, 63, 64, 65, 66, 67, 68, 69, 70, 71, 72, 73, 74, 75, 76, 77, 78, 79, 80, 81, 82, 83, 84, 85, 86, 87, 88, 89, 90, 91, 92, 93, 94, 95, 96, 97, 98, 99, 100, 101, 102, 103, 104, 105, 106, 107, 108, 109, 110, 111, 112] rfl (by decide +kernel)
set_option maxRecDepth 20000 in
theorem gX9_close_X9_tries : GoodIn wsX9_close (wsV RX9 253 RX9 yX9_tries wsX9_tries) := goodIn_app (goodIn_of _ (by decide +kernel)) ggX9_close_X9_tries
set_option maxRecDepth 20000 in
theorem ggX9_close_X9_behind : GoodIn wsX9_close wsX9_behind := goodIn_r _ [28] rfl (by decide +kernel)
set_option maxRecDepth 20000 in
theorem gX9_close_X9_behind : GoodIn wsX9_close (va_wsS RX9 237 yX9_behind wsX9_behind) := goodIn_app (goodIn_of _ (by decide +kernel)) ggX9_close_X9_behind
theorem q9_dX9_close_0 : (decode cX9_close 0 = .ok (.iload_n 1, 1)) ∧ (decode cX9_close 1 = .ok (.invokestatic 216, 3)) ∧ (decode cX9_close 4 = .ok (.ifCond .eq 45, 3)) ∧ (decode cX9_close 7 = .ok (.iload_n 2, 1)) ∧ (decode cX9_close 8 = .ok (.aload_n 0, 1)) ∧ (decode cX9_close 9 = .ok (.getfield 219, 3)) ∧ (decode cX9_close 12 = .ok (.if_icmp .lt 37, 3)) ∧ (decode cX9_close 15 = .ok (.iload_n 3, 1)) ∧ (decode cX9_close 16 = .ok (.iload_n 2, 1)) ∧ (decode cX9_close 17 = .ok (.if_icmp .le 32, 3)) := by decide +kernel
theorem dX9_close_0 : decode cX9_close 0 = .ok (.iload_n 1, 1) := q9_dX9_close_0.1
theorem dX9_close_1 : decode cX9_close 1 = .ok (.invokestatic 216, 3) := q9_dX9_close_0.2.1
theorem dX9_close_4 : decode cX9_close 4 = .ok (.ifCond .eq 45, 3) := q9_dX9_close_0.2.2.1
theorem dX9_close_7 : decode cX9_close 7 = .ok (.iload_n 2, 1) := q9_dX9_close_0.2.2.2.1
theorem dX9_close_8 : decode cX9_close 8 = .ok (.aload_n 0, 1) := q9_dX9_close_0.2.2.2.2.1
theorem dX9_close_9 : decode cX9_close 9 = .ok (.getfield 219, 3) := q9_dX9_close_0.2.2.2.2.2.1
theorem dX9_close_12 : decode cX9_close 12 = .ok (.if_icmp .lt 37, 3) := q9_dX9_close_0.2.2.2.2.2.2.1
theorem dX9_close_15 : decode cX9_close 15 = .ok (.iload_n 3, 1) := q9_dX9_close_0.2.2.2.2.2.2.2.1
theorem dX9_close_16 : decode cX9_close 16 = .ok (.iload_n 2, 1) := q9_dX9_close_0.2.2.2.2.2.2.2.2.1
theorem dX9_close_17 : decode cX9_close 17 = .ok (.if_icmp .le 32, 3) := q9_dX9_close_0.2.2.2.2.2.2.2.2.2
theorem q9_dX9_close_20 : (decode cX9_close 20 = .ok (.iload_n 3, 1)) ∧ (decode cX9_close 21 = .ok (.aload_n 0, 1)) ∧ (decode cX9_close 22 = .ok (.getfield 219, 3)) ∧ (decode cX9_close 25 = .ok (.sipush 1000, 3)) ∧ (decode cX9_close 28 = .ok (.iadd, 1)) ∧ (decode cX9_close 29 = .ok (.if_icmp .gt 20, 3)) ∧ (decode cX9_close 32 = .ok (.iload_n 3, 1)) ∧ (decode cX9_close 33 = .ok (.iload_n 2, 1)) ∧ (decode cX9_close 34 = .ok (.isub, 1)) ∧ (decode cX9_close 35 = .ok (.bipush 100, 2)) := by decide +kernel
theorem dX9_close_20 : decode cX9_close 20 = .ok (.iload_n 3, 1) := q9_dX9_close_20.1
theorem dX9_close_21 : decode cX9_close 21 = .ok (.aload_n 0, 1) := q9_dX9_close_20.2.1
theorem dX9_close_22 : decode cX9_close 22 = .ok (.getfield 219, 3) := q9_dX9_close_20.2.2.1
theorem dX9_close_25 : decode cX9_close 25 = .ok (.sipush 1000, 3) := q9_dX9_close_20.2.2.2.1
theorem dX9_close_28 : decode cX9_close 28 = .ok (.iadd, 1) := q9_dX9_close_20.2.2.2.2.1
theorem dX9_close_29 : decode cX9_close 29 = .ok (.if_icmp .gt 20, 3) := q9_dX9_close_20.2.2.2.2.2.1
theorem dX9_close_32 : decode cX9_close 32 = .ok (.iload_n 3, 1) := q9_dX9_close_20.2.2.2.2.2.2.1
theorem dX9_close_33 : decode cX9_close 33 = .ok (.iload_n 2, 1) := q9_dX9_close_20.2.2.2.2.2.2.2.1
theorem dX9_close_34 : decode cX9_close 34 = .ok (.isub, 1) := q9_dX9_close_20.2.2.2.2.2.2.2.2.1
theorem dX9_close_35 : decode cX9_close 35 = .ok (.bipush 100, 2) := q9_dX9_close_20.2.2.2.2.2.2.2.2.2
theorem q9_dX9_close_37 : (decode cX9_close 37 = .ok (.if_icmp .gt 12, 3)) ∧ (decode cX9_close 40 = .ok (.aload_n 0, 1)) ∧ (decode cX9_close 41 = .ok (.getfield 202, 3)) ∧ (decode cX9_close 44 = .ok (.bipush 10, 2)) ∧ (decode cX9_close 46 = .ok (.if_icmp .ne 5, 3)) ∧ (decode cX9_close 49 = .ok (.iconst (-1), 1)) ∧ (decode cX9_close 50 = .ok (.ireturn, 1)) ∧ (decode cX9_close 51 = .ok (.aload_n 0, 1)) ∧ (decode cX9_close 52 = .ok (.iconst 0, 1)) ∧ (decode cX9_close 53 = .ok (.putfield 234, 3)) := by decide +kernel
theorem dX9_close_37 : decode cX9_close 37 = .ok (.if_icmp .gt 12, 3) := q9_dX9_close_37.1
theorem dX9_close_40 : decode cX9_close 40 = .ok (.aload_n 0, 1) := q9_dX9_close_37.2.1
theorem dX9_close_41 : decode cX9_close 41 = .ok (.getfield 202, 3) := q9_dX9_close_37.2.2.1
theorem dX9_close_44 : decode cX9_close 44 = .ok (.bipush 10, 2) := q9_dX9_close_37.2.2.2.1
theorem dX9_close_46 : decode cX9_close 46 = .ok (.if_icmp .ne 5, 3) := q9_dX9_close_37.2.2.2.2.1
theorem dX9_close_49 : decode cX9_close 49 = .ok (.iconst (-1), 1) := q9_dX9_close_37.2.2.2.2.2.1
theorem dX9_close_50 : decode cX9_close 50 = .ok (.ireturn, 1) := q9_dX9_close_37.2.2.2.2.2.2.1
theorem dX9_close_51 : decode cX9_close 51 = .ok (.aload_n 0, 1) := q9_dX9_close_37.2.2.2.2.2.2.2.1
theorem dX9_close_52 : decode cX9_close 52 = .ok (.iconst 0, 1) := q9_dX9_close_37.2.2.2.2.2.2.2.2.1
theorem dX9_close_53 : decode cX9_close 53 = .ok (.putfield 234, 3) := q9_dX9_close_37.2.2.2.2.2.2.2.2.2
theorem q9_dX9_close_56 : (decode cX9_close 56 = .ok (.iconst 0, 1)) ∧ (decode cX9_close 57 = .ok (.istore 4, 2)) ∧ (decode cX9_close 59 = .ok (.iload 4, 2)) ∧ (decode cX9_close 61 = .ok (.aload_n 0, 1)) ∧ (decode cX9_close 62 = .ok (.getfield 205, 3)) ∧ (decode cX9_close 65 = .ok (.if_icmp .ge 102, 3)) ∧ (decode cX9_close 68 = .ok (.aload_n 0, 1)) ∧ (decode cX9_close 69 = .ok (.getfield 85, 3)) ∧ (decode cX9_close 72 = .ok (.iload 4, 2)) ∧ (decode cX9_close 74 = .ok (.iaload, 1)) := by decide +kernel
theorem dX9_close_56 : decode cX9_close 56 = .ok (.iconst 0, 1) := q9_dX9_close_56.1
theorem dX9_close_57 : decode cX9_close 57 = .ok (.istore 4, 2) := q9_dX9_close_56.2.1
theorem dX9_close_59 : decode cX9_close 59 = .ok (.iload 4, 2) := q9_dX9_close_56.2.2.1
theorem dX9_close_61 : decode cX9_close 61 = .ok (.aload_n 0, 1) := q9_dX9_close_56.2.2.2.1
theorem dX9_close_62 : decode cX9_close 62 = .ok (.getfield 205, 3) := q9_dX9_close_56.2.2.2.2.1
theorem dX9_close_65 : decode cX9_close 65 = .ok (.if_icmp .ge 102, 3) := q9_dX9_close_56.2.2.2.2.2.1
theorem dX9_close_68 : decode cX9_close 68 = .ok (.aload_n 0, 1) := q9_dX9_close_56.2.2.2.2.2.2.1
theorem dX9_close_69 : decode cX9_close 69 = .ok (.getfield 85, 3) := q9_dX9_close_56.2.2.2.2.2.2.2.1
theorem dX9_close_72 : decode cX9_close 72 = .ok (.iload 4, 2) := q9_dX9_close_56.2.2.2.2.2.2.2.2.1
theorem dX9_close_74 : decode cX9_close 74 = .ok (.iaload, 1) := q9_dX9_close_56.2.2.2.2.2.2.2.2.2
theorem q9_dX9_close_75 : (decode cX9_close 75 = .ok (.ifCond .ne 86, 3)) ∧ (decode cX9_close 78 = .ok (.aload_n 0, 1)) ∧ (decode cX9_close 79 = .ok (.getfield 79, 3)) ∧ (decode cX9_close 82 = .ok (.iload 4, 2)) ∧ (decode cX9_close 84 = .ok (.iaload, 1)) ∧ (decode cX9_close 85 = .ok (.iload_n 1, 1)) ∧ (decode cX9_close 86 = .ok (.if_icmp .ne 75, 3)) ∧ (decode cX9_close 89 = .ok (.aload_n 0, 1)) ∧ (decode cX9_close 90 = .ok (.getfield 82, 3)) ∧ (decode cX9_close 93 = .ok (.iload 4, 2)) := by decide +kernel
theorem dX9_close_75 : decode cX9_close 75 = .ok (.ifCond .ne 86, 3) := q9_dX9_close_75.1
theorem dX9_close_78 : decode cX9_close 78 = .ok (.aload_n 0, 1) := q9_dX9_close_75.2.1
theorem dX9_close_79 : decode cX9_close 79 = .ok (.getfield 79, 3) := q9_dX9_close_75.2.2.1
theorem dX9_close_82 : decode cX9_close 82 = .ok (.iload 4, 2) := q9_dX9_close_75.2.2.2.1
theorem dX9_close_84 : decode cX9_close 84 = .ok (.iaload, 1) := q9_dX9_close_75.2.2.2.2.1
theorem dX9_close_85 : decode cX9_close 85 = .ok (.iload_n 1, 1) := q9_dX9_close_75.2.2.2.2.2.1
theorem dX9_close_86 : decode cX9_close 86 = .ok (.if_icmp .ne 75, 3) := q9_dX9_close_75.2.2.2.2.2.2.1
theorem dX9_close_89 : decode cX9_close 89 = .ok (.aload_n 0, 1) := q9_dX9_close_75.2.2.2.2.2.2.2.1
theorem dX9_close_90 : decode cX9_close 90 = .ok (.getfield 82, 3) := q9_dX9_close_75.2.2.2.2.2.2.2.2.1
theorem dX9_close_93 : decode cX9_close 93 = .ok (.iload 4, 2) := q9_dX9_close_75.2.2.2.2.2.2.2.2.2
theorem q9_dX9_close_95 : (decode cX9_close 95 = .ok (.iaload, 1)) ∧ (decode cX9_close 96 = .ok (.iload_n 2, 1)) ∧ (decode cX9_close 97 = .ok (.if_icmp .lt 64, 3)) ∧ (decode cX9_close 100 = .ok (.aload_n 0, 1)) ∧ (decode cX9_close 101 = .ok (.getfield 82, 3)) ∧ (decode cX9_close 104 = .ok (.iload 4, 2)) ∧ (decode cX9_close 106 = .ok (.iaload, 1)) ∧ (decode cX9_close 107 = .ok (.iload_n 3, 1)) ∧ (decode cX9_close 108 = .ok (.if_icmp .lt 6, 3)) ∧ (decode cX9_close 111 = .ok (.goto 50, 3)) := by decide +kernel
theorem dX9_close_95 : decode cX9_close 95 = .ok (.iaload, 1) := q9_dX9_close_95.1
theorem dX9_close_96 : decode cX9_close 96 = .ok (.iload_n 2, 1) := q9_dX9_close_95.2.1
theorem dX9_close_97 : decode cX9_close 97 = .ok (.if_icmp .lt 64, 3) := q9_dX9_close_95.2.2.1
theorem dX9_close_100 : decode cX9_close 100 = .ok (.aload_n 0, 1) := q9_dX9_close_95.2.2.2.1
theorem dX9_close_101 : decode cX9_close 101 = .ok (.getfield 82, 3) := q9_dX9_close_95.2.2.2.2.1
theorem dX9_close_104 : decode cX9_close 104 = .ok (.iload 4, 2) := q9_dX9_close_95.2.2.2.2.2.1
theorem dX9_close_106 : decode cX9_close 106 = .ok (.iaload, 1) := q9_dX9_close_95.2.2.2.2.2.2.1
theorem dX9_close_107 : decode cX9_close 107 = .ok (.iload_n 3, 1) := q9_dX9_close_95.2.2.2.2.2.2.2.1
theorem dX9_close_108 : decode cX9_close 108 = .ok (.if_icmp .lt 6, 3) := q9_dX9_close_95.2.2.2.2.2.2.2.2.1
theorem dX9_close_111 : decode cX9_close 111 = .ok (.goto 50, 3) := q9_dX9_close_95.2.2.2.2.2.2.2.2.2
theorem q9_dX9_close_114 : (decode cX9_close 114 = .ok (.aload_n 0, 1)) ∧ (decode cX9_close 115 = .ok (.getfield 234, 3)) ∧ (decode cX9_close 118 = .ok (.iconst 5, 1)) ∧ (decode cX9_close 119 = .ok (.if_icmp .ne 5, 3)) ∧ (decode cX9_close 122 = .ok (.iconst (-1), 1)) ∧ (decode cX9_close 123 = .ok (.ireturn, 1)) ∧ (decode cX9_close 124 = .ok (.aload_n 0, 1)) ∧ (decode cX9_close 125 = .ok (.getfield 109, 3)) ∧ (decode cX9_close 128 = .ok (.aload_n 0, 1)) ∧ (decode cX9_close 129 = .ok (.getfield 234, 3)) := by decide +kernel
theorem dX9_close_114 : decode cX9_close 114 = .ok (.aload_n 0, 1) := q9_dX9_close_114.1
theorem dX9_close_115 : decode cX9_close 115 = .ok (.getfield 234, 3) := q9_dX9_close_114.2.1
theorem dX9_close_118 : decode cX9_close 118 = .ok (.iconst 5, 1) := q9_dX9_close_114.2.2.1
theorem dX9_close_119 : decode cX9_close 119 = .ok (.if_icmp .ne 5, 3) := q9_dX9_close_114.2.2.2.1
theorem dX9_close_122 : decode cX9_close 122 = .ok (.iconst (-1), 1) := q9_dX9_close_114.2.2.2.2.1
theorem dX9_close_123 : decode cX9_close 123 = .ok (.ireturn, 1) := q9_dX9_close_114.2.2.2.2.2.1
theorem dX9_close_124 : decode cX9_close 124 = .ok (.aload_n 0, 1) := q9_dX9_close_114.2.2.2.2.2.2.1
theorem dX9_close_125 : decode cX9_close 125 = .ok (.getfield 109, 3) := q9_dX9_close_114.2.2.2.2.2.2.2.1
theorem dX9_close_128 : decode cX9_close 128 = .ok (.aload_n 0, 1) := q9_dX9_close_114.2.2.2.2.2.2.2.2.1
theorem dX9_close_129 : decode cX9_close 129 = .ok (.getfield 234, 3) := q9_dX9_close_114.2.2.2.2.2.2.2.2.2
theorem q9_dX9_close_132 : (decode cX9_close 132 = .ok (.iload 4, 2)) ∧ (decode cX9_close 134 = .ok (.iastore, 1)) ∧ (decode cX9_close 135 = .ok (.aload_n 0, 1)) ∧ (decode cX9_close 136 = .ok (.getfield 118, 3)) ∧ (decode cX9_close 139 = .ok (.aload_n 0, 1)) ∧ (decode cX9_close 140 = .ok (.getfield 234, 3)) ∧ (decode cX9_close 143 = .ok (.aload_n 0, 1)) ∧ (decode cX9_close 144 = .ok (.getfield 82, 3)) ∧ (decode cX9_close 147 = .ok (.iload 4, 2)) ∧ (decode cX9_close 149 = .ok (.iaload, 1)) := by decide +kernel
theorem dX9_close_132 : decode cX9_close 132 = .ok (.iload 4, 2) := q9_dX9_close_132.1
theorem dX9_close_134 : decode cX9_close 134 = .ok (.iastore, 1) := q9_dX9_close_132.2.1
theorem dX9_close_135 : decode cX9_close 135 = .ok (.aload_n 0, 1) := q9_dX9_close_132.2.2.1
theorem dX9_close_136 : decode cX9_close 136 = .ok (.getfield 118, 3) := q9_dX9_close_132.2.2.2.1
theorem dX9_close_139 : decode cX9_close 139 = .ok (.aload_n 0, 1) := q9_dX9_close_132.2.2.2.2.1
theorem dX9_close_140 : decode cX9_close 140 = .ok (.getfield 234, 3) := q9_dX9_close_132.2.2.2.2.2.1
theorem dX9_close_143 : decode cX9_close 143 = .ok (.aload_n 0, 1) := q9_dX9_close_132.2.2.2.2.2.2.1
theorem dX9_close_144 : decode cX9_close 144 = .ok (.getfield 82, 3) := q9_dX9_close_132.2.2.2.2.2.2.2.1
theorem dX9_close_147 : decode cX9_close 147 = .ok (.iload 4, 2) := q9_dX9_close_132.2.2.2.2.2.2.2.2.1
theorem dX9_close_149 : decode cX9_close 149 = .ok (.iaload, 1) := q9_dX9_close_132.2.2.2.2.2.2.2.2.2
theorem q9_dX9_close_150 : (decode cX9_close 150 = .ok (.iastore, 1)) ∧ (decode cX9_close 151 = .ok (.aload_n 0, 1)) ∧ (decode cX9_close 152 = .ok (.aload_n 0, 1)) ∧ (decode cX9_close 153 = .ok (.getfield 234, 3)) ∧ (decode cX9_close 156 = .ok (.iconst 1, 1)) ∧ (decode cX9_close 157 = .ok (.iadd, 1)) ∧ (decode cX9_close 158 = .ok (.putfield 234, 3)) ∧ (decode cX9_close 161 = .ok (.iinc 4 1, 3)) ∧ (decode cX9_close 164 = .ok (.goto (-105), 3)) ∧ (decode cX9_close 167 = .ok (.aload_n 0, 1)) := by decide +kernel
theorem dX9_close_150 : decode cX9_close 150 = .ok (.iastore, 1) := q9_dX9_close_150.1
theorem dX9_close_151 : decode cX9_close 151 = .ok (.aload_n 0, 1) := q9_dX9_close_150.2.1
theorem dX9_close_152 : decode cX9_close 152 = .ok (.aload_n 0, 1) := q9_dX9_close_150.2.2.1
theorem dX9_close_153 : decode cX9_close 153 = .ok (.getfield 234, 3) := q9_dX9_close_150.2.2.2.1
theorem dX9_close_156 : decode cX9_close 156 = .ok (.iconst 1, 1) := q9_dX9_close_150.2.2.2.2.1
theorem dX9_close_157 : decode cX9_close 157 = .ok (.iadd, 1) := q9_dX9_close_150.2.2.2.2.2.1
theorem dX9_close_158 : decode cX9_close 158 = .ok (.putfield 234, 3) := q9_dX9_close_150.2.2.2.2.2.2.1
theorem dX9_close_161 : decode cX9_close 161 = .ok (.iinc 4 1, 3) := q9_dX9_close_150.2.2.2.2.2.2.2.1
theorem dX9_close_164 : decode cX9_close 164 = .ok (.goto (-105), 3) := q9_dX9_close_150.2.2.2.2.2.2.2.2.1
theorem dX9_close_167 : decode cX9_close 167 = .ok (.aload_n 0, 1) := q9_dX9_close_150.2.2.2.2.2.2.2.2.2
theorem q9_dX9_close_168 : (decode cX9_close 168 = .ok (.getfield 100, 3)) ∧ (decode cX9_close 171 = .ok (.aload_n 0, 1)) ∧ (decode cX9_close 172 = .ok (.getfield 202, 3)) ∧ (decode cX9_close 175 = .ok (.iload_n 1, 1)) ∧ (decode cX9_close 176 = .ok (.iastore, 1)) ∧ (decode cX9_close 177 = .ok (.aload_n 0, 1)) ∧ (decode cX9_close 178 = .ok (.getfield 103, 3)) ∧ (decode cX9_close 181 = .ok (.aload_n 0, 1)) ∧ (decode cX9_close 182 = .ok (.getfield 202, 3)) ∧ (decode cX9_close 185 = .ok (.iload_n 2, 1)) := by decide +kernel
theorem dX9_close_168 : decode cX9_close 168 = .ok (.getfield 100, 3) := q9_dX9_close_168.1
theorem dX9_close_171 : decode cX9_close 171 = .ok (.aload_n 0, 1) := q9_dX9_close_168.2.1
theorem dX9_close_172 : decode cX9_close 172 = .ok (.getfield 202, 3) := q9_dX9_close_168.2.2.1
theorem dX9_close_175 : decode cX9_close 175 = .ok (.iload_n 1, 1) := q9_dX9_close_168.2.2.2.1
theorem dX9_close_176 : decode cX9_close 176 = .ok (.iastore, 1) := q9_dX9_close_168.2.2.2.2.1
theorem dX9_close_177 : decode cX9_close 177 = .ok (.aload_n 0, 1) := q9_dX9_close_168.2.2.2.2.2.1
theorem dX9_close_178 : decode cX9_close 178 = .ok (.getfield 103, 3) := q9_dX9_close_168.2.2.2.2.2.2.1
theorem dX9_close_181 : decode cX9_close 181 = .ok (.aload_n 0, 1) := q9_dX9_close_168.2.2.2.2.2.2.2.1
theorem dX9_close_182 : decode cX9_close 182 = .ok (.getfield 202, 3) := q9_dX9_close_168.2.2.2.2.2.2.2.2.1
theorem dX9_close_185 : decode cX9_close 185 = .ok (.iload_n 2, 1) := q9_dX9_close_168.2.2.2.2.2.2.2.2.2
theorem q9_dX9_close_186 : (decode cX9_close 186 = .ok (.iastore, 1)) ∧ (decode cX9_close 187 = .ok (.aload_n 0, 1)) ∧ (decode cX9_close 188 = .ok (.getfield 106, 3)) ∧ (decode cX9_close 191 = .ok (.aload_n 0, 1)) ∧ (decode cX9_close 192 = .ok (.getfield 202, 3)) ∧ (decode cX9_close 195 = .ok (.iload_n 3, 1)) ∧ (decode cX9_close 196 = .ok (.iastore, 1)) ∧ (decode cX9_close 197 = .ok (.aload_n 0, 1)) ∧ (decode cX9_close 198 = .ok (.aload_n 0, 1)) ∧ (decode cX9_close 199 = .ok (.getfield 202, 3)) := by decide +kernel
theorem dX9_close_186 : decode cX9_close 186 = .ok (.iastore, 1) := q9_dX9_close_186.1
theorem dX9_close_187 : decode cX9_close 187 = .ok (.aload_n 0, 1) := q9_dX9_close_186.2.1
theorem dX9_close_188 : decode cX9_close 188 = .ok (.getfield 106, 3) := q9_dX9_close_186.2.2.1
theorem dX9_close_191 : decode cX9_close 191 = .ok (.aload_n 0, 1) := q9_dX9_close_186.2.2.2.1
theorem dX9_close_192 : decode cX9_close 192 = .ok (.getfield 202, 3) := q9_dX9_close_186.2.2.2.2.1
theorem dX9_close_195 : decode cX9_close 195 = .ok (.iload_n 3, 1) := q9_dX9_close_186.2.2.2.2.2.1
theorem dX9_close_196 : decode cX9_close 196 = .ok (.iastore, 1) := q9_dX9_close_186.2.2.2.2.2.2.1
theorem dX9_close_197 : decode cX9_close 197 = .ok (.aload_n 0, 1) := q9_dX9_close_186.2.2.2.2.2.2.2.1
theorem dX9_close_198 : decode cX9_close 198 = .ok (.aload_n 0, 1) := q9_dX9_close_186.2.2.2.2.2.2.2.2.1
theorem dX9_close_199 : decode cX9_close 199 = .ok (.getfield 202, 3) := q9_dX9_close_186.2.2.2.2.2.2.2.2.2
theorem q9_dX9_close_202 : (decode cX9_close 202 = .ok (.iconst 1, 1)) ∧ (decode cX9_close 203 = .ok (.iadd, 1)) ∧ (decode cX9_close 204 = .ok (.putfield 202, 3)) ∧ (decode cX9_close 207 = .ok (.iconst 1, 1)) ∧ (decode cX9_close 208 = .ok (.istore 4, 2)) ∧ (decode cX9_close 210 = .ok (.iconst 0, 1)) ∧ (decode cX9_close 211 = .ok (.istore 5, 2)) ∧ (decode cX9_close 213 = .ok (.iload 5, 2)) ∧ (decode cX9_close 215 = .ok (.aload_n 0, 1)) ∧ (decode cX9_close 216 = .ok (.getfield 234, 3)) := by decide +kernel
theorem dX9_close_202 : decode cX9_close 202 = .ok (.iconst 1, 1) := q9_dX9_close_202.1
theorem dX9_close_203 : decode cX9_close 203 = .ok (.iadd, 1) := q9_dX9_close_202.2.1
theorem dX9_close_204 : decode cX9_close 204 = .ok (.putfield 202, 3) := q9_dX9_close_202.2.2.1
theorem dX9_close_207 : decode cX9_close 207 = .ok (.iconst 1, 1) := q9_dX9_close_202.2.2.2.1
theorem dX9_close_208 : decode cX9_close 208 = .ok (.istore 4, 2) := q9_dX9_close_202.2.2.2.2.1
theorem dX9_close_210 : decode cX9_close 210 = .ok (.iconst 0, 1) := q9_dX9_close_202.2.2.2.2.2.1
theorem dX9_close_211 : decode cX9_close 211 = .ok (.istore 5, 2) := q9_dX9_close_202.2.2.2.2.2.2.1
theorem dX9_close_213 : decode cX9_close 213 = .ok (.iload 5, 2) := q9_dX9_close_202.2.2.2.2.2.2.2.1
theorem dX9_close_215 : decode cX9_close 215 = .ok (.aload_n 0, 1) := q9_dX9_close_202.2.2.2.2.2.2.2.2.1
theorem dX9_close_216 : decode cX9_close 216 = .ok (.getfield 234, 3) := q9_dX9_close_202.2.2.2.2.2.2.2.2.2
theorem q9_dX9_close_219 : (decode cX9_close 219 = .ok (.if_icmp .ge 29, 3)) ∧ (decode cX9_close 222 = .ok (.aload_n 0, 1)) ∧ (decode cX9_close 223 = .ok (.getfield 85, 3)) ∧ (decode cX9_close 226 = .ok (.aload_n 0, 1)) ∧ (decode cX9_close 227 = .ok (.getfield 109, 3)) ∧ (decode cX9_close 230 = .ok (.iload 5, 2)) ∧ (decode cX9_close 232 = .ok (.iaload, 1)) ∧ (decode cX9_close 233 = .ok (.iconst 4, 1)) ∧ (decode cX9_close 234 = .ok (.iastore, 1)) ∧ (decode cX9_close 235 = .ok (.bipush 15, 2)) := by decide +kernel
theorem dX9_close_219 : decode cX9_close 219 = .ok (.if_icmp .ge 29, 3) := q9_dX9_close_219.1
theorem dX9_close_222 : decode cX9_close 222 = .ok (.aload_n 0, 1) := q9_dX9_close_219.2.1
theorem dX9_close_223 : decode cX9_close 223 = .ok (.getfield 85, 3) := q9_dX9_close_219.2.2.1
theorem dX9_close_226 : decode cX9_close 226 = .ok (.aload_n 0, 1) := q9_dX9_close_219.2.2.2.1
theorem dX9_close_227 : decode cX9_close 227 = .ok (.getfield 109, 3) := q9_dX9_close_219.2.2.2.2.1
theorem dX9_close_230 : decode cX9_close 230 = .ok (.iload 5, 2) := q9_dX9_close_219.2.2.2.2.2.1
theorem dX9_close_232 : decode cX9_close 232 = .ok (.iaload, 1) := q9_dX9_close_219.2.2.2.2.2.2.1
theorem dX9_close_233 : decode cX9_close 233 = .ok (.iconst 4, 1) := q9_dX9_close_219.2.2.2.2.2.2.2.1
theorem dX9_close_234 : decode cX9_close 234 = .ok (.iastore, 1) := q9_dX9_close_219.2.2.2.2.2.2.2.2.1
theorem dX9_close_235 : decode cX9_close 235 = .ok (.bipush 15, 2) := q9_dX9_close_219.2.2.2.2.2.2.2.2.2
theorem q9_dX9_close_237 : (decode cX9_close 237 = .ok (.iload 4, 2)) ∧ (decode cX9_close 239 = .ok (.imul, 1)) ∧ (decode cX9_close 240 = .ok (.istore 4, 2)) ∧ (decode cX9_close 242 = .ok (.iinc 5 1, 3)) ∧ (decode cX9_close 245 = .ok (.goto (-32), 3)) ∧ (decode cX9_close 248 = .ok (.aload_n 0, 1)) ∧ (decode cX9_close 249 = .ok (.iconst (-1), 1)) ∧ (decode cX9_close 250 = .ok (.putfield 241, 3)) ∧ (decode cX9_close 253 = .ok (.iconst 0, 1)) ∧ (decode cX9_close 254 = .ok (.istore 5, 2)) := by decide +kernel
theorem dX9_close_237 : decode cX9_close 237 = .ok (.iload 4, 2) := q9_dX9_close_237.1
theorem dX9_close_239 : decode cX9_close 239 = .ok (.imul, 1) := q9_dX9_close_237.2.1
theorem dX9_close_240 : decode cX9_close 240 = .ok (.istore 4, 2) := q9_dX9_close_237.2.2.1
theorem dX9_close_242 : decode cX9_close 242 = .ok (.iinc 5 1, 3) := q9_dX9_close_237.2.2.2.1
theorem dX9_close_245 : decode cX9_close 245 = .ok (.goto (-32), 3) := q9_dX9_close_237.2.2.2.2.1
theorem dX9_close_248 : decode cX9_close 248 = .ok (.aload_n 0, 1) := q9_dX9_close_237.2.2.2.2.2.1
theorem dX9_close_249 : decode cX9_close 249 = .ok (.iconst (-1), 1) := q9_dX9_close_237.2.2.2.2.2.2.1
theorem dX9_close_250 : decode cX9_close 250 = .ok (.putfield 241, 3) := q9_dX9_close_237.2.2.2.2.2.2.2.1
theorem dX9_close_253 : decode cX9_close 253 = .ok (.iconst 0, 1) := q9_dX9_close_237.2.2.2.2.2.2.2.2.1
theorem dX9_close_254 : decode cX9_close 254 = .ok (.istore 5, 2) := q9_dX9_close_237.2.2.2.2.2.2.2.2.2
theorem q9_dX9_close_256 : (decode cX9_close 256 = .ok (.iload 5, 2)) ∧ (decode cX9_close 258 = .ok (.iload 4, 2)) ∧ (decode cX9_close 260 = .ok (.if_icmp .ge 55, 3)) ∧ (decode cX9_close 263 = .ok (.iload 5, 2)) ∧ (decode cX9_close 265 = .ok (.istore 6, 2)) ∧ (decode cX9_close 267 = .ok (.aload_n 0, 1)) ∧ (decode cX9_close 268 = .ok (.getfield 234, 3)) ∧ (decode cX9_close 271 = .ok (.iconst 1, 1)) ∧ (decode cX9_close 272 = .ok (.isub, 1)) ∧ (decode cX9_close 273 = .ok (.istore 7, 2)) := by decide +kernel
theorem dX9_close_256 : decode cX9_close 256 = .ok (.iload 5, 2) := q9_dX9_close_256.1
theorem dX9_close_258 : decode cX9_close 258 = .ok (.iload 4, 2) := q9_dX9_close_256.2.1
theorem dX9_close_260 : decode cX9_close 260 = .ok (.if_icmp .ge 55, 3) := q9_dX9_close_256.2.2.1
theorem dX9_close_263 : decode cX9_close 263 = .ok (.iload 5, 2) := q9_dX9_close_256.2.2.2.1
theorem dX9_close_265 : decode cX9_close 265 = .ok (.istore 6, 2) := q9_dX9_close_256.2.2.2.2.1
theorem dX9_close_267 : decode cX9_close 267 = .ok (.aload_n 0, 1) := q9_dX9_close_256.2.2.2.2.2.1
theorem dX9_close_268 : decode cX9_close 268 = .ok (.getfield 234, 3) := q9_dX9_close_256.2.2.2.2.2.2.1
theorem dX9_close_271 : decode cX9_close 271 = .ok (.iconst 1, 1) := q9_dX9_close_256.2.2.2.2.2.2.2.1
theorem dX9_close_272 : decode cX9_close 272 = .ok (.isub, 1) := q9_dX9_close_256.2.2.2.2.2.2.2.2.1
theorem dX9_close_273 : decode cX9_close 273 = .ok (.istore 7, 2) := q9_dX9_close_256.2.2.2.2.2.2.2.2.2
theorem q9_dX9_close_275 : (decode cX9_close 275 = .ok (.iload 7, 2)) ∧ (decode cX9_close 277 = .ok (.ifCond .lt 28, 3)) ∧ (decode cX9_close 280 = .ok (.aload_n 0, 1)) ∧ (decode cX9_close 281 = .ok (.getfield 112, 3)) ∧ (decode cX9_close 284 = .ok (.iload 7, 2)) ∧ (decode cX9_close 286 = .ok (.iload 6, 2)) ∧ (decode cX9_close 288 = .ok (.bipush 15, 2)) ∧ (decode cX9_close 290 = .ok (.irem, 1)) ∧ (decode cX9_close 291 = .ok (.iastore, 1)) ∧ (decode cX9_close 292 = .ok (.iload 6, 2)) := by decide +kernel
theorem dX9_close_275 : decode cX9_close 275 = .ok (.iload 7, 2) := q9_dX9_close_275.1
theorem dX9_close_277 : decode cX9_close 277 = .ok (.ifCond .lt 28, 3) := q9_dX9_close_275.2.1
theorem dX9_close_280 : decode cX9_close 280 = .ok (.aload_n 0, 1) := q9_dX9_close_275.2.2.1
theorem dX9_close_281 : decode cX9_close 281 = .ok (.getfield 112, 3) := q9_dX9_close_275.2.2.2.1
theorem dX9_close_284 : decode cX9_close 284 = .ok (.iload 7, 2) := q9_dX9_close_275.2.2.2.2.1
theorem dX9_close_286 : decode cX9_close 286 = .ok (.iload 6, 2) := q9_dX9_close_275.2.2.2.2.2.1
theorem dX9_close_288 : decode cX9_close 288 = .ok (.bipush 15, 2) := q9_dX9_close_275.2.2.2.2.2.2.1
theorem dX9_close_290 : decode cX9_close 290 = .ok (.irem, 1) := q9_dX9_close_275.2.2.2.2.2.2.2.1
theorem dX9_close_291 : decode cX9_close 291 = .ok (.iastore, 1) := q9_dX9_close_275.2.2.2.2.2.2.2.2.1
theorem dX9_close_292 : decode cX9_close 292 = .ok (.iload 6, 2) := q9_dX9_close_275.2.2.2.2.2.2.2.2.2
theorem q9_dX9_close_294 : (decode cX9_close 294 = .ok (.bipush 15, 2)) ∧ (decode cX9_close 296 = .ok (.idiv, 1)) ∧ (decode cX9_close 297 = .ok (.istore 6, 2)) ∧ (decode cX9_close 299 = .ok (.iinc 7 (-1), 3)) ∧ (decode cX9_close 302 = .ok (.goto (-27), 3)) ∧ (decode cX9_close 305 = .ok (.aload_n 0, 1)) ∧ (decode cX9_close 306 = .ok (.invokevirtual 253, 3)) ∧ (decode cX9_close 309 = .ok (.iinc 5 1, 3)) ∧ (decode cX9_close 312 = .ok (.goto (-56), 3)) ∧ (decode cX9_close 315 = .ok (.iconst 0, 1)) := by decide +kernel
theorem dX9_close_294 : decode cX9_close 294 = .ok (.bipush 15, 2) := q9_dX9_close_294.1
theorem dX9_close_296 : decode cX9_close 296 = .ok (.idiv, 1) := q9_dX9_close_294.2.1
theorem dX9_close_297 : decode cX9_close 297 = .ok (.istore 6, 2) := q9_dX9_close_294.2.2.1
theorem dX9_close_299 : decode cX9_close 299 = .ok (.iinc 7 (-1), 3) := q9_dX9_close_294.2.2.2.1
theorem dX9_close_302 : decode cX9_close 302 = .ok (.goto (-27), 3) := q9_dX9_close_294.2.2.2.2.1
theorem dX9_close_305 : decode cX9_close 305 = .ok (.aload_n 0, 1) := q9_dX9_close_294.2.2.2.2.2.1
theorem dX9_close_306 : decode cX9_close 306 = .ok (.invokevirtual 253, 3) := q9_dX9_close_294.2.2.2.2.2.2.1
theorem dX9_close_309 : decode cX9_close 309 = .ok (.iinc 5 1, 3) := q9_dX9_close_294.2.2.2.2.2.2.2.1
theorem dX9_close_312 : decode cX9_close 312 = .ok (.goto (-56), 3) := q9_dX9_close_294.2.2.2.2.2.2.2.2.1
theorem dX9_close_315 : decode cX9_close 315 = .ok (.iconst 0, 1) := q9_dX9_close_294.2.2.2.2.2.2.2.2.2
theorem q9_dX9_close_316 : (decode cX9_close 316 = .ok (.istore 5, 2)) ∧ (decode cX9_close 318 = .ok (.iload 5, 2)) ∧ (decode cX9_close 320 = .ok (.aload_n 0, 1)) ∧ (decode cX9_close 321 = .ok (.getfield 234, 3)) ∧ (decode cX9_close 324 = .ok (.if_icmp .ge 171, 3)) ∧ (decode cX9_close 327 = .ok (.aload_n 0, 1)) ∧ (decode cX9_close 328 = .ok (.getfield 79, 3)) ∧ (decode cX9_close 331 = .ok (.aload_n 0, 1)) ∧ (decode cX9_close 332 = .ok (.getfield 109, 3)) ∧ (decode cX9_close 335 = .ok (.iload 5, 2)) := by decide +kernel
theorem dX9_close_316 : decode cX9_close 316 = .ok (.istore 5, 2) := q9_dX9_close_316.1
theorem dX9_close_318 : decode cX9_close 318 = .ok (.iload 5, 2) := q9_dX9_close_316.2.1
theorem dX9_close_320 : decode cX9_close 320 = .ok (.aload_n 0, 1) := q9_dX9_close_316.2.2.1
theorem dX9_close_321 : decode cX9_close 321 = .ok (.getfield 234, 3) := q9_dX9_close_316.2.2.2.1
theorem dX9_close_324 : decode cX9_close 324 = .ok (.if_icmp .ge 171, 3) := q9_dX9_close_316.2.2.2.2.1
theorem dX9_close_327 : decode cX9_close 327 = .ok (.aload_n 0, 1) := q9_dX9_close_316.2.2.2.2.2.1
theorem dX9_close_328 : decode cX9_close 328 = .ok (.getfield 79, 3) := q9_dX9_close_316.2.2.2.2.2.2.1
theorem dX9_close_331 : decode cX9_close 331 = .ok (.aload_n 0, 1) := q9_dX9_close_316.2.2.2.2.2.2.2.1
theorem dX9_close_332 : decode cX9_close 332 = .ok (.getfield 109, 3) := q9_dX9_close_316.2.2.2.2.2.2.2.2.1
theorem dX9_close_335 : decode cX9_close 335 = .ok (.iload 5, 2) := q9_dX9_close_316.2.2.2.2.2.2.2.2.2
theorem q9_dX9_close_337 : (decode cX9_close 337 = .ok (.iaload, 1)) ∧ (decode cX9_close 338 = .ok (.aload_n 0, 1)) ∧ (decode cX9_close 339 = .ok (.getfield 115, 3)) ∧ (decode cX9_close 342 = .ok (.iload 5, 2)) ∧ (decode cX9_close 344 = .ok (.iaload, 1)) ∧ (decode cX9_close 345 = .ok (.bipush 14, 2)) ∧ (decode cX9_close 347 = .ok (.if_icmp .ne 7, 3)) ∧ (decode cX9_close 350 = .ok (.iload_n 1, 1)) ∧ (decode cX9_close 351 = .ok (.goto 12, 3)) ∧ (decode cX9_close 354 = .ok (.aload_n 0, 1)) := by decide +kernel
theorem dX9_close_337 : decode cX9_close 337 = .ok (.iaload, 1) := q9_dX9_close_337.1
theorem dX9_close_338 : decode cX9_close 338 = .ok (.aload_n 0, 1) := q9_dX9_close_337.2.1
theorem dX9_close_339 : decode cX9_close 339 = .ok (.getfield 115, 3) := q9_dX9_close_337.2.2.1
theorem dX9_close_342 : decode cX9_close 342 = .ok (.iload 5, 2) := q9_dX9_close_337.2.2.2.1
theorem dX9_close_344 : decode cX9_close 344 = .ok (.iaload, 1) := q9_dX9_close_337.2.2.2.2.1
theorem dX9_close_345 : decode cX9_close 345 = .ok (.bipush 14, 2) := q9_dX9_close_337.2.2.2.2.2.1
theorem dX9_close_347 : decode cX9_close 347 = .ok (.if_icmp .ne 7, 3) := q9_dX9_close_337.2.2.2.2.2.2.1
theorem dX9_close_350 : decode cX9_close 350 = .ok (.iload_n 1, 1) := q9_dX9_close_337.2.2.2.2.2.2.2.1
theorem dX9_close_351 : decode cX9_close 351 = .ok (.goto 12, 3) := q9_dX9_close_337.2.2.2.2.2.2.2.2.1
theorem dX9_close_354 : decode cX9_close 354 = .ok (.aload_n 0, 1) := q9_dX9_close_337.2.2.2.2.2.2.2.2.2
theorem q9_dX9_close_355 : (decode cX9_close 355 = .ok (.getfield 115, 3)) ∧ (decode cX9_close 358 = .ok (.iload 5, 2)) ∧ (decode cX9_close 360 = .ok (.iaload, 1)) ∧ (decode cX9_close 361 = .ok (.iconst 2, 1)) ∧ (decode cX9_close 362 = .ok (.irem, 1)) ∧ (decode cX9_close 363 = .ok (.iastore, 1)) ∧ (decode cX9_close 364 = .ok (.aload_n 0, 1)) ∧ (decode cX9_close 365 = .ok (.getfield 82, 3)) ∧ (decode cX9_close 368 = .ok (.aload_n 0, 1)) ∧ (decode cX9_close 369 = .ok (.getfield 109, 3)) := by decide +kernel
theorem dX9_close_355 : decode cX9_close 355 = .ok (.getfield 115, 3) := q9_dX9_close_355.1
theorem dX9_close_358 : decode cX9_close 358 = .ok (.iload 5, 2) := q9_dX9_close_355.2.1
theorem dX9_close_360 : decode cX9_close 360 = .ok (.iaload, 1) := q9_dX9_close_355.2.2.1
theorem dX9_close_361 : decode cX9_close 361 = .ok (.iconst 2, 1) := q9_dX9_close_355.2.2.2.1
theorem dX9_close_362 : decode cX9_close 362 = .ok (.irem, 1) := q9_dX9_close_355.2.2.2.2.1
theorem dX9_close_363 : decode cX9_close 363 = .ok (.iastore, 1) := q9_dX9_close_355.2.2.2.2.2.1
theorem dX9_close_364 : decode cX9_close 364 = .ok (.aload_n 0, 1) := q9_dX9_close_355.2.2.2.2.2.2.1
theorem dX9_close_365 : decode cX9_close 365 = .ok (.getfield 82, 3) := q9_dX9_close_355.2.2.2.2.2.2.2.1
theorem dX9_close_368 : decode cX9_close 368 = .ok (.aload_n 0, 1) := q9_dX9_close_355.2.2.2.2.2.2.2.2.1
theorem dX9_close_369 : decode cX9_close 369 = .ok (.getfield 109, 3) := q9_dX9_close_355.2.2.2.2.2.2.2.2.2
theorem q9_dX9_close_372 : (decode cX9_close 372 = .ok (.iload 5, 2)) ∧ (decode cX9_close 374 = .ok (.iaload, 1)) ∧ (decode cX9_close 375 = .ok (.aload_n 0, 1)) ∧ (decode cX9_close 376 = .ok (.getfield 115, 3)) ∧ (decode cX9_close 379 = .ok (.iload 5, 2)) ∧ (decode cX9_close 381 = .ok (.iaload, 1)) ∧ (decode cX9_close 382 = .ok (.bipush 14, 2)) ∧ (decode cX9_close 384 = .ok (.if_icmp .ne 13, 3)) ∧ (decode cX9_close 387 = .ok (.aload_n 0, 1)) ∧ (decode cX9_close 388 = .ok (.getfield 118, 3)) := by decide +kernel
theorem dX9_close_372 : decode cX9_close 372 = .ok (.iload 5, 2) := q9_dX9_close_372.1
theorem dX9_close_374 : decode cX9_close 374 = .ok (.iaload, 1) := q9_dX9_close_372.2.1
theorem dX9_close_375 : decode cX9_close 375 = .ok (.aload_n 0, 1) := q9_dX9_close_372.2.2.1
theorem dX9_close_376 : decode cX9_close 376 = .ok (.getfield 115, 3) := q9_dX9_close_372.2.2.2.1
theorem dX9_close_379 : decode cX9_close 379 = .ok (.iload 5, 2) := q9_dX9_close_372.2.2.2.2.1
theorem dX9_close_381 : decode cX9_close 381 = .ok (.iaload, 1) := q9_dX9_close_372.2.2.2.2.2.1
theorem dX9_close_382 : decode cX9_close 382 = .ok (.bipush 14, 2) := q9_dX9_close_372.2.2.2.2.2.2.1
theorem dX9_close_384 : decode cX9_close 384 = .ok (.if_icmp .ne 13, 3) := q9_dX9_close_372.2.2.2.2.2.2.2.1
theorem dX9_close_387 : decode cX9_close 387 = .ok (.aload_n 0, 1) := q9_dX9_close_372.2.2.2.2.2.2.2.2.1
theorem dX9_close_388 : decode cX9_close 388 = .ok (.getfield 118, 3) := q9_dX9_close_372.2.2.2.2.2.2.2.2.2
theorem q9_dX9_close_391 : (decode cX9_close 391 = .ok (.iload 5, 2)) ∧ (decode cX9_close 393 = .ok (.iaload, 1)) ∧ (decode cX9_close 394 = .ok (.goto 23, 3)) ∧ (decode cX9_close 397 = .ok (.aload_n 0, 1)) ∧ (decode cX9_close 398 = .ok (.getfield 118, 3)) ∧ (decode cX9_close 401 = .ok (.iload 5, 2)) ∧ (decode cX9_close 403 = .ok (.iaload, 1)) ∧ (decode cX9_close 404 = .ok (.aload_n 0, 1)) ∧ (decode cX9_close 405 = .ok (.getfield 115, 3)) ∧ (decode cX9_close 408 = .ok (.iload 5, 2)) := by decide +kernel
theorem dX9_close_391 : decode cX9_close 391 = .ok (.iload 5, 2) := q9_dX9_close_391.1
theorem dX9_close_393 : decode cX9_close 393 = .ok (.iaload, 1) := q9_dX9_close_391.2.1
theorem dX9_close_394 : decode cX9_close 394 = .ok (.goto 23, 3) := q9_dX9_close_391.2.2.1
theorem dX9_close_397 : decode cX9_close 397 = .ok (.aload_n 0, 1) := q9_dX9_close_391.2.2.2.1
theorem dX9_close_398 : decode cX9_close 398 = .ok (.getfield 118, 3) := q9_dX9_close_391.2.2.2.2.1
theorem dX9_close_401 : decode cX9_close 401 = .ok (.iload 5, 2) := q9_dX9_close_391.2.2.2.2.2.1
theorem dX9_close_403 : decode cX9_close 403 = .ok (.iaload, 1) := q9_dX9_close_391.2.2.2.2.2.2.1
theorem dX9_close_404 : decode cX9_close 404 = .ok (.aload_n 0, 1) := q9_dX9_close_391.2.2.2.2.2.2.2.1
theorem dX9_close_405 : decode cX9_close 405 = .ok (.getfield 115, 3) := q9_dX9_close_391.2.2.2.2.2.2.2.2.1
theorem dX9_close_408 : decode cX9_close 408 = .ok (.iload 5, 2) := q9_dX9_close_391.2.2.2.2.2.2.2.2.2
theorem q9_dX9_close_410 : (decode cX9_close 410 = .ok (.iaload, 1)) ∧ (decode cX9_close 411 = .ok (.iconst 2, 1)) ∧ (decode cX9_close 412 = .ok (.idiv, 1)) ∧ (decode cX9_close 413 = .ok (.invokestatic 237, 3)) ∧ (decode cX9_close 416 = .ok (.iadd, 1)) ∧ (decode cX9_close 417 = .ok (.iastore, 1)) ∧ (decode cX9_close 418 = .ok (.aload_n 0, 1)) ∧ (decode cX9_close 419 = .ok (.getfield 85, 3)) ∧ (decode cX9_close 422 = .ok (.aload_n 0, 1)) ∧ (decode cX9_close 423 = .ok (.getfield 109, 3)) := by decide +kernel
theorem dX9_close_410 : decode cX9_close 410 = .ok (.iaload, 1) := q9_dX9_close_410.1
theorem dX9_close_411 : decode cX9_close 411 = .ok (.iconst 2, 1) := q9_dX9_close_410.2.1
theorem dX9_close_412 : decode cX9_close 412 = .ok (.idiv, 1) := q9_dX9_close_410.2.2.1
theorem dX9_close_413 : decode cX9_close 413 = .ok (.invokestatic 237, 3) := q9_dX9_close_410.2.2.2.1
theorem dX9_close_416 : decode cX9_close 416 = .ok (.iadd, 1) := q9_dX9_close_410.2.2.2.2.1
theorem dX9_close_417 : decode cX9_close 417 = .ok (.iastore, 1) := q9_dX9_close_410.2.2.2.2.2.1
theorem dX9_close_418 : decode cX9_close 418 = .ok (.aload_n 0, 1) := q9_dX9_close_410.2.2.2.2.2.2.1
theorem dX9_close_419 : decode cX9_close 419 = .ok (.getfield 85, 3) := q9_dX9_close_410.2.2.2.2.2.2.2.1
theorem dX9_close_422 : decode cX9_close 422 = .ok (.aload_n 0, 1) := q9_dX9_close_410.2.2.2.2.2.2.2.2.1
theorem dX9_close_423 : decode cX9_close 423 = .ok (.getfield 109, 3) := q9_dX9_close_410.2.2.2.2.2.2.2.2.2
theorem q9_dX9_close_426 : (decode cX9_close 426 = .ok (.iload 5, 2)) ∧ (decode cX9_close 428 = .ok (.iaload, 1)) ∧ (decode cX9_close 429 = .ok (.aload_n 0, 1)) ∧ (decode cX9_close 430 = .ok (.getfield 115, 3)) ∧ (decode cX9_close 433 = .ok (.iload 5, 2)) ∧ (decode cX9_close 435 = .ok (.iaload, 1)) ∧ (decode cX9_close 436 = .ok (.bipush 14, 2)) ∧ (decode cX9_close 438 = .ok (.if_icmp .ne 7, 3)) ∧ (decode cX9_close 441 = .ok (.iconst 4, 1)) ∧ (decode cX9_close 442 = .ok (.goto 4, 3)) := by decide +kernel
theorem dX9_close_426 : decode cX9_close 426 = .ok (.iload 5, 2) := q9_dX9_close_426.1
theorem dX9_close_428 : decode cX9_close 428 = .ok (.iaload, 1) := q9_dX9_close_426.2.1
theorem dX9_close_429 : decode cX9_close 429 = .ok (.aload_n 0, 1) := q9_dX9_close_426.2.2.1
theorem dX9_close_430 : decode cX9_close 430 = .ok (.getfield 115, 3) := q9_dX9_close_426.2.2.2.1
theorem dX9_close_433 : decode cX9_close 433 = .ok (.iload 5, 2) := q9_dX9_close_426.2.2.2.2.1
theorem dX9_close_435 : decode cX9_close 435 = .ok (.iaload, 1) := q9_dX9_close_426.2.2.2.2.2.1
theorem dX9_close_436 : decode cX9_close 436 = .ok (.bipush 14, 2) := q9_dX9_close_426.2.2.2.2.2.2.1
theorem dX9_close_438 : decode cX9_close 438 = .ok (.if_icmp .ne 7, 3) := q9_dX9_close_426.2.2.2.2.2.2.2.1
theorem dX9_close_441 : decode cX9_close 441 = .ok (.iconst 4, 1) := q9_dX9_close_426.2.2.2.2.2.2.2.2.1
theorem dX9_close_442 : decode cX9_close 442 = .ok (.goto 4, 3) := q9_dX9_close_426.2.2.2.2.2.2.2.2.2
theorem q9_dX9_close_445 : (decode cX9_close 445 = .ok (.iconst 0, 1)) ∧ (decode cX9_close 446 = .ok (.iastore, 1)) ∧ (decode cX9_close 447 = .ok (.aload_n 0, 1)) ∧ (decode cX9_close 448 = .ok (.getfield 97, 3)) ∧ (decode cX9_close 451 = .ok (.aload_n 0, 1)) ∧ (decode cX9_close 452 = .ok (.getfield 109, 3)) ∧ (decode cX9_close 455 = .ok (.iload 5, 2)) ∧ (decode cX9_close 457 = .ok (.iaload, 1)) ∧ (decode cX9_close 458 = .ok (.aload_n 0, 1)) ∧ (decode cX9_close 459 = .ok (.getfield 97, 3)) := by decide +kernel
theorem dX9_close_445 : decode cX9_close 445 = .ok (.iconst 0, 1) := q9_dX9_close_445.1
theorem dX9_close_446 : decode cX9_close 446 = .ok (.iastore, 1) := q9_dX9_close_445.2.1
theorem dX9_close_447 : decode cX9_close 447 = .ok (.aload_n 0, 1) := q9_dX9_close_445.2.2.1
theorem dX9_close_448 : decode cX9_close 448 = .ok (.getfield 97, 3) := q9_dX9_close_445.2.2.2.1
theorem dX9_close_451 : decode cX9_close 451 = .ok (.aload_n 0, 1) := q9_dX9_close_445.2.2.2.2.1
theorem dX9_close_452 : decode cX9_close 452 = .ok (.getfield 109, 3) := q9_dX9_close_445.2.2.2.2.2.1
theorem dX9_close_455 : decode cX9_close 455 = .ok (.iload 5, 2) := q9_dX9_close_445.2.2.2.2.2.2.1
theorem dX9_close_457 : decode cX9_close 457 = .ok (.iaload, 1) := q9_dX9_close_445.2.2.2.2.2.2.2.1
theorem dX9_close_458 : decode cX9_close 458 = .ok (.aload_n 0, 1) := q9_dX9_close_445.2.2.2.2.2.2.2.2.1
theorem dX9_close_459 : decode cX9_close 459 = .ok (.getfield 97, 3) := q9_dX9_close_445.2.2.2.2.2.2.2.2.2
theorem q9_dX9_close_462 : (decode cX9_close 462 = .ok (.aload_n 0, 1)) ∧ (decode cX9_close 463 = .ok (.getfield 109, 3)) ∧ (decode cX9_close 466 = .ok (.iload 5, 2)) ∧ (decode cX9_close 468 = .ok (.iaload, 1)) ∧ (decode cX9_close 469 = .ok (.iaload, 1)) ∧ (decode cX9_close 470 = .ok (.aload_n 0, 1)) ∧ (decode cX9_close 471 = .ok (.getfield 115, 3)) ∧ (decode cX9_close 474 = .ok (.iload 5, 2)) ∧ (decode cX9_close 476 = .ok (.iaload, 1)) ∧ (decode cX9_close 477 = .ok (.bipush 14, 2)) := by decide +kernel
theorem dX9_close_462 : decode cX9_close 462 = .ok (.aload_n 0, 1) := q9_dX9_close_462.1
theorem dX9_close_463 : decode cX9_close 463 = .ok (.getfield 109, 3) := q9_dX9_close_462.2.1
theorem dX9_close_466 : decode cX9_close 466 = .ok (.iload 5, 2) := q9_dX9_close_462.2.2.1
theorem dX9_close_468 : decode cX9_close 468 = .ok (.iaload, 1) := q9_dX9_close_462.2.2.2.1
theorem dX9_close_469 : decode cX9_close 469 = .ok (.iaload, 1) := q9_dX9_close_462.2.2.2.2.1
theorem dX9_close_470 : decode cX9_close 470 = .ok (.aload_n 0, 1) := q9_dX9_close_462.2.2.2.2.2.1
theorem dX9_close_471 : decode cX9_close 471 = .ok (.getfield 115, 3) := q9_dX9_close_462.2.2.2.2.2.2.1
theorem dX9_close_474 : decode cX9_close 474 = .ok (.iload 5, 2) := q9_dX9_close_462.2.2.2.2.2.2.2.1
theorem dX9_close_476 : decode cX9_close 476 = .ok (.iaload, 1) := q9_dX9_close_462.2.2.2.2.2.2.2.2.1
theorem dX9_close_477 : decode cX9_close 477 = .ok (.bipush 14, 2) := q9_dX9_close_462.2.2.2.2.2.2.2.2.2
theorem q9_dX9_close_479 : (decode cX9_close 479 = .ok (.if_icmp .ne 7, 3)) ∧ (decode cX9_close 482 = .ok (.iconst 0, 1)) ∧ (decode cX9_close 483 = .ok (.goto 4, 3)) ∧ (decode cX9_close 486 = .ok (.iconst 1, 1)) ∧ (decode cX9_close 487 = .ok (.iadd, 1)) ∧ (decode cX9_close 488 = .ok (.iastore, 1)) ∧ (decode cX9_close 489 = .ok (.iinc 5 1, 3)) ∧ (decode cX9_close 492 = .ok (.goto (-174), 3)) ∧ (decode cX9_close 495 = .ok (.aload_n 0, 1)) ∧ (decode cX9_close 496 = .ok (.getfield 234, 3)) := by decide +kernel
theorem dX9_close_479 : decode cX9_close 479 = .ok (.if_icmp .ne 7, 3) := q9_dX9_close_479.1
theorem dX9_close_482 : decode cX9_close 482 = .ok (.iconst 0, 1) := q9_dX9_close_479.2.1
theorem dX9_close_483 : decode cX9_close 483 = .ok (.goto 4, 3) := q9_dX9_close_479.2.2.1
theorem dX9_close_486 : decode cX9_close 486 = .ok (.iconst 1, 1) := q9_dX9_close_479.2.2.2.1
theorem dX9_close_487 : decode cX9_close 487 = .ok (.iadd, 1) := q9_dX9_close_479.2.2.2.2.1
theorem dX9_close_488 : decode cX9_close 488 = .ok (.iastore, 1) := q9_dX9_close_479.2.2.2.2.2.1
theorem dX9_close_489 : decode cX9_close 489 = .ok (.iinc 5 1, 3) := q9_dX9_close_479.2.2.2.2.2.2.1
theorem dX9_close_492 : decode cX9_close 492 = .ok (.goto (-174), 3) := q9_dX9_close_479.2.2.2.2.2.2.2.1
theorem dX9_close_495 : decode cX9_close 495 = .ok (.aload_n 0, 1) := q9_dX9_close_479.2.2.2.2.2.2.2.2.1
theorem dX9_close_496 : decode cX9_close 496 = .ok (.getfield 234, 3) := q9_dX9_close_479.2.2.2.2.2.2.2.2.2
theorem q9_dX9_close_499 : (decode cX9_close 499 = .ok (.ifCond .ne 7, 3)) ∧ (decode cX9_close 502 = .ok (.iconst 0, 1)) ∧ (decode cX9_close 503 = .ok (.goto 7, 3)) ∧ (decode cX9_close 506 = .ok (.aload_n 0, 1)) ∧ (decode cX9_close 507 = .ok (.getfield 241, 3)) ∧ (decode cX9_close 510 = .ok (.ireturn, 1)) := by decide +kernel
theorem dX9_close_499 : decode cX9_close 499 = .ok (.ifCond .ne 7, 3) := q9_dX9_close_499.1
theorem dX9_close_502 : decode cX9_close 502 = .ok (.iconst 0, 1) := q9_dX9_close_499.2.1
theorem dX9_close_503 : decode cX9_close 503 = .ok (.goto 7, 3) := q9_dX9_close_499.2.2.1
theorem dX9_close_506 : decode cX9_close 506 = .ok (.aload_n 0, 1) := q9_dX9_close_499.2.2.2.1
theorem dX9_close_507 : decode cX9_close 507 = .ok (.getfield 241, 3) := q9_dX9_close_499.2.2.2.2.1
theorem dX9_close_510 : decode cX9_close 510 = .ok (.ireturn, 1) := q9_dX9_close_499.2.2.2.2.2
