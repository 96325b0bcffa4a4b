theorem q9_dX0_init_0 : (decode cX0_init 0 = .ok (.aload_n 0, 1)) ∧ (decode cX0_init 1 = .ok (.invokespecial 3, 3)) ∧ (decode cX0_init 4 = .ok (.aload_n 0, 1)) ∧ (decode cX0_init 5 = .ok (.bipush 32, 2)) ∧ (decode cX0_init 7 = .ok (.newarray .long, 2)) ∧ (decode cX0_init 9 = .ok (.putfield 9, 3)) ∧ (decode cX0_init 12 = .ok (.return_, 1)) ∧ (decode cX0_has 0 = .ok (.iload_n 1, 1)) ∧ (decode cX0_has 1 = .ok (.ifCond .lt 35, 3)) ∧ (decode cX0_has 4 = .ok (.iload_n 1, 1)) := by decide +kernel
theorem dX0_init_0 : decode cX0_init 0 = .ok (.aload_n 0, 1) := q9_dX0_init_0.1
theorem dX0_init_1 : decode cX0_init 1 = .ok (.invokespecial 3, 3) := q9_dX0_init_0.2.1
theorem dX0_init_4 : decode cX0_init 4 = .ok (.aload_n 0, 1) := q9_dX0_init_0.2.2.1
theorem dX0_init_5 : decode cX0_init 5 = .ok (.bipush 32, 2) := q9_dX0_init_0.2.2.2.1
theorem dX0_init_7 : decode cX0_init 7 = .ok (.newarray .long, 2) := q9_dX0_init_0.2.2.2.2.1
theorem dX0_init_9 : decode cX0_init 9 = .ok (.putfield 9, 3) := q9_dX0_init_0.2.2.2.2.2.1
theorem dX0_init_12 : decode cX0_init 12 = .ok (.return_, 1) := q9_dX0_init_0.2.2.2.2.2.2.1
theorem dX0_has_0 : decode cX0_has 0 = .ok (.iload_n 1, 1) := q9_dX0_init_0.2.2.2.2.2.2.2.1
theorem dX0_has_1 : decode cX0_has 1 = .ok (.ifCond .lt 35, 3) := q9_dX0_init_0.2.2.2.2.2.2.2.2.1
theorem dX0_has_4 : decode cX0_has 4 = .ok (.iload_n 1, 1) := q9_dX0_init_0.2.2.2.2.2.2.2.2.2
theorem q9_dX0_has_5 : (decode cX0_has 5 = .ok (.sipush 2048, 3)) ∧ (decode cX0_has 8 = .ok (.if_icmp .ge 28, 3)) ∧ (decode cX0_has 11 = .ok (.aload_n 0, 1)) ∧ (decode cX0_has 12 = .ok (.getfield 9, 3)) ∧ (decode cX0_has 15 = .ok (.iload_n 1, 1)) ∧ (decode cX0_has 16 = .ok (.bipush 64, 2)) ∧ (decode cX0_has 18 = .ok (.idiv, 1)) ∧ (decode cX0_has 19 = .ok (.laload, 1)) ∧ (decode cX0_has 20 = .ok (.iload_n 1, 1)) ∧ (decode cX0_has 21 = .ok (.bipush 64, 2)) := by decide +kernel
theorem dX0_has_5 : decode cX0_has 5 = .ok (.sipush 2048, 3) := q9_dX0_has_5.1
theorem dX0_has_8 : decode cX0_has 8 = .ok (.if_icmp .ge 28, 3) := q9_dX0_has_5.2.1
theorem dX0_has_11 : decode cX0_has 11 = .ok (.aload_n 0, 1) := q9_dX0_has_5.2.2.1
theorem dX0_has_12 : decode cX0_has 12 = .ok (.getfield 9, 3) := q9_dX0_has_5.2.2.2.1
theorem dX0_has_15 : decode cX0_has 15 = .ok (.iload_n 1, 1) := q9_dX0_has_5.2.2.2.2.1
theorem dX0_has_16 : decode cX0_has 16 = .ok (.bipush 64, 2) := q9_dX0_has_5.2.2.2.2.2.1
theorem dX0_has_18 : decode cX0_has 18 = .ok (.idiv, 1) := q9_dX0_has_5.2.2.2.2.2.2.1
theorem dX0_has_19 : decode cX0_has 19 = .ok (.laload, 1) := q9_dX0_has_5.2.2.2.2.2.2.2.1
theorem dX0_has_20 : decode cX0_has 20 = .ok (.iload_n 1, 1) := q9_dX0_has_5.2.2.2.2.2.2.2.2.1
theorem dX0_has_21 : decode cX0_has 21 = .ok (.bipush 64, 2) := q9_dX0_has_5.2.2.2.2.2.2.2.2.2
theorem q9_dX0_has_23 : (decode cX0_has 23 = .ok (.irem, 1)) ∧ (decode cX0_has 24 = .ok (.lushr, 1)) ∧ (decode cX0_has 25 = .ok (.lconst 1, 1)) ∧ (decode cX0_has 26 = .ok (.land, 1)) ∧ (decode cX0_has 27 = .ok (.lconst 0, 1)) ∧ (decode cX0_has 28 = .ok (.lcmp, 1)) ∧ (decode cX0_has 29 = .ok (.ifCond .eq 7, 3)) ∧ (decode cX0_has 32 = .ok (.iconst 1, 1)) ∧ (decode cX0_has 33 = .ok (.goto 4, 3)) ∧ (decode cX0_has 36 = .ok (.iconst 0, 1)) := by decide +kernel
theorem dX0_has_23 : decode cX0_has 23 = .ok (.irem, 1) := q9_dX0_has_23.1
theorem dX0_has_24 : decode cX0_has 24 = .ok (.lushr, 1) := q9_dX0_has_23.2.1
theorem dX0_has_25 : decode cX0_has 25 = .ok (.lconst 1, 1) := q9_dX0_has_23.2.2.1
theorem dX0_has_26 : decode cX0_has 26 = .ok (.land, 1) := q9_dX0_has_23.2.2.2.1
theorem dX0_has_27 : decode cX0_has 27 = .ok (.lconst 0, 1) := q9_dX0_has_23.2.2.2.2.1
theorem dX0_has_28 : decode cX0_has 28 = .ok (.lcmp, 1) := q9_dX0_has_23.2.2.2.2.2.1
theorem dX0_has_29 : decode cX0_has 29 = .ok (.ifCond .eq 7, 3) := q9_dX0_has_23.2.2.2.2.2.2.1
theorem dX0_has_32 : decode cX0_has 32 = .ok (.iconst 1, 1) := q9_dX0_has_23.2.2.2.2.2.2.2.1
theorem dX0_has_33 : decode cX0_has 33 = .ok (.goto 4, 3) := q9_dX0_has_23.2.2.2.2.2.2.2.2.1
theorem dX0_has_36 : decode cX0_has 36 = .ok (.iconst 0, 1) := q9_dX0_has_23.2.2.2.2.2.2.2.2.2
theorem q9_dX0_has_37 : (decode cX0_has 37 = .ok (.ireturn, 1)) ∧ (decode cX0_put 0 = .ok (.iload_n 1, 1)) ∧ (decode cX0_put 1 = .ok (.ifCond .lt 28, 3)) ∧ (decode cX0_put 4 = .ok (.iload_n 1, 1)) ∧ (decode cX0_put 5 = .ok (.sipush 2048, 3)) ∧ (decode cX0_put 8 = .ok (.if_icmp .ge 21, 3)) ∧ (decode cX0_put 11 = .ok (.aload_n 0, 1)) ∧ (decode cX0_put 12 = .ok (.getfield 9, 3)) ∧ (decode cX0_put 15 = .ok (.iload_n 1, 1)) ∧ (decode cX0_put 16 = .ok (.bipush 64, 2)) := by decide +kernel
theorem dX0_has_37 : decode cX0_has 37 = .ok (.ireturn, 1) := q9_dX0_has_37.1
theorem dX0_put_0 : decode cX0_put 0 = .ok (.iload_n 1, 1) := q9_dX0_has_37.2.1
theorem dX0_put_1 : decode cX0_put 1 = .ok (.ifCond .lt 28, 3) := q9_dX0_has_37.2.2.1
theorem dX0_put_4 : decode cX0_put 4 = .ok (.iload_n 1, 1) := q9_dX0_has_37.2.2.2.1
theorem dX0_put_5 : decode cX0_put 5 = .ok (.sipush 2048, 3) := q9_dX0_has_37.2.2.2.2.1
theorem dX0_put_8 : decode cX0_put 8 = .ok (.if_icmp .ge 21, 3) := q9_dX0_has_37.2.2.2.2.2.1
theorem dX0_put_11 : decode cX0_put 11 = .ok (.aload_n 0, 1) := q9_dX0_has_37.2.2.2.2.2.2.1
theorem dX0_put_12 : decode cX0_put 12 = .ok (.getfield 9, 3) := q9_dX0_has_37.2.2.2.2.2.2.2.1
theorem dX0_put_15 : decode cX0_put 15 = .ok (.iload_n 1, 1) := q9_dX0_has_37.2.2.2.2.2.2.2.2.1
theorem dX0_put_16 : decode cX0_put 16 = .ok (.bipush 64, 2) := q9_dX0_has_37.2.2.2.2.2.2.2.2.2
theorem q9_dX0_put_18 : (decode cX0_put 18 = .ok (.idiv, 1)) ∧ (decode cX0_put 19 = .ok (.dup2, 1)) ∧ (decode cX0_put 20 = .ok (.laload, 1)) ∧ (decode cX0_put 21 = .ok (.lconst 1, 1)) ∧ (decode cX0_put 22 = .ok (.iload_n 1, 1)) ∧ (decode cX0_put 23 = .ok (.bipush 64, 2)) ∧ (decode cX0_put 25 = .ok (.irem, 1)) ∧ (decode cX0_put 26 = .ok (.lshl, 1)) ∧ (decode cX0_put 27 = .ok (.lor, 1)) ∧ (decode cX0_put 28 = .ok (.lastore, 1)) := by decide +kernel
theorem dX0_put_18 : decode cX0_put 18 = .ok (.idiv, 1) := q9_dX0_put_18.1
theorem dX0_put_19 : decode cX0_put 19 = .ok (.dup2, 1) := q9_dX0_put_18.2.1
theorem dX0_put_20 : decode cX0_put 20 = .ok (.laload, 1) := q9_dX0_put_18.2.2.1
theorem dX0_put_21 : decode cX0_put 21 = .ok (.lconst 1, 1) := q9_dX0_put_18.2.2.2.1
theorem dX0_put_22 : decode cX0_put 22 = .ok (.iload_n 1, 1) := q9_dX0_put_18.2.2.2.2.1
theorem dX0_put_23 : decode cX0_put 23 = .ok (.bipush 64, 2) := q9_dX0_put_18.2.2.2.2.2.1
theorem dX0_put_25 : decode cX0_put 25 = .ok (.irem, 1) := q9_dX0_put_18.2.2.2.2.2.2.1
theorem dX0_put_26 : decode cX0_put 26 = .ok (.lshl, 1) := q9_dX0_put_18.2.2.2.2.2.2.2.1
theorem dX0_put_27 : decode cX0_put 27 = .ok (.lor, 1) := q9_dX0_put_18.2.2.2.2.2.2.2.2.1
theorem dX0_put_28 : decode cX0_put 28 = .ok (.lastore, 1) := q9_dX0_put_18.2.2.2.2.2.2.2.2.2
theorem q9_dX0_put_29 : (decode cX0_put 29 = .ok (.return_, 1)) ∧ (decode cX0_drop 0 = .ok (.iload_n 1, 1)) ∧ (decode cX0_drop 1 = .ok (.ifCond .lt 32, 3)) ∧ (decode cX0_drop 4 = .ok (.iload_n 1, 1)) ∧ (decode cX0_drop 5 = .ok (.sipush 2048, 3)) ∧ (decode cX0_drop 8 = .ok (.if_icmp .ge 25, 3)) ∧ (decode cX0_drop 11 = .ok (.aload_n 0, 1)) ∧ (decode cX0_drop 12 = .ok (.getfield 9, 3)) ∧ (decode cX0_drop 15 = .ok (.iload_n 1, 1)) ∧ (decode cX0_drop 16 = .ok (.bipush 64, 2)) := by decide +kernel
theorem dX0_put_29 : decode cX0_put 29 = .ok (.return_, 1) := q9_dX0_put_29.1
theorem dX0_drop_0 : decode cX0_drop 0 = .ok (.iload_n 1, 1) := q9_dX0_put_29.2.1
theorem dX0_drop_1 : decode cX0_drop 1 = .ok (.ifCond .lt 32, 3) := q9_dX0_put_29.2.2.1
theorem dX0_drop_4 : decode cX0_drop 4 = .ok (.iload_n 1, 1) := q9_dX0_put_29.2.2.2.1
theorem dX0_drop_5 : decode cX0_drop 5 = .ok (.sipush 2048, 3) := q9_dX0_put_29.2.2.2.2.1
theorem dX0_drop_8 : decode cX0_drop 8 = .ok (.if_icmp .ge 25, 3) := q9_dX0_put_29.2.2.2.2.2.1
theorem dX0_drop_11 : decode cX0_drop 11 = .ok (.aload_n 0, 1) := q9_dX0_put_29.2.2.2.2.2.2.1
theorem dX0_drop_12 : decode cX0_drop 12 = .ok (.getfield 9, 3) := q9_dX0_put_29.2.2.2.2.2.2.2.1
theorem dX0_drop_15 : decode cX0_drop 15 = .ok (.iload_n 1, 1) := q9_dX0_put_29.2.2.2.2.2.2.2.2.1
theorem dX0_drop_16 : decode cX0_drop 16 = .ok (.bipush 64, 2) := q9_dX0_put_29.2.2.2.2.2.2.2.2.2
theorem q9_dX0_drop_18 : (decode cX0_drop 18 = .ok (.idiv, 1)) ∧ (decode cX0_drop 19 = .ok (.dup2, 1)) ∧ (decode cX0_drop 20 = .ok (.laload, 1)) ∧ (decode cX0_drop 21 = .ok (.lconst 1, 1)) ∧ (decode cX0_drop 22 = .ok (.iload_n 1, 1)) ∧ (decode cX0_drop 23 = .ok (.bipush 64, 2)) ∧ (decode cX0_drop 25 = .ok (.irem, 1)) ∧ (decode cX0_drop 26 = .ok (.lshl, 1)) ∧ (decode cX0_drop 27 = .ok (.ldc2_w 13, 3)) ∧ (decode cX0_drop 30 = .ok (.lxor, 1)) := by decide +kernel
theorem dX0_drop_18 : decode cX0_drop 18 = .ok (.idiv, 1) := q9_dX0_drop_18.1
theorem dX0_drop_19 : decode cX0_drop 19 = .ok (.dup2, 1) := q9_dX0_drop_18.2.1
theorem dX0_drop_20 : decode cX0_drop 20 = .ok (.laload, 1) := q9_dX0_drop_18.2.2.1
theorem dX0_drop_21 : decode cX0_drop 21 = .ok (.lconst 1, 1) := q9_dX0_drop_18.2.2.2.1
theorem dX0_drop_22 : decode cX0_drop 22 = .ok (.iload_n 1, 1) := q9_dX0_drop_18.2.2.2.2.1
theorem dX0_drop_23 : decode cX0_drop 23 = .ok (.bipush 64, 2) := q9_dX0_drop_18.2.2.2.2.2.1
theorem dX0_drop_25 : decode cX0_drop 25 = .ok (.irem, 1) := q9_dX0_drop_18.2.2.2.2.2.2.1
theorem dX0_drop_26 : decode cX0_drop 26 = .ok (.lshl, 1) := q9_dX0_drop_18.2.2.2.2.2.2.2.1
theorem dX0_drop_27 : decode cX0_drop 27 = .ok (.ldc2_w 13, 3) := q9_dX0_drop_18.2.2.2.2.2.2.2.2.1
theorem dX0_drop_30 : decode cX0_drop 30 = .ok (.lxor, 1) := q9_dX0_drop_18.2.2.2.2.2.2.2.2.2
theorem q9_dX0_drop_31 : (decode cX0_drop 31 = .ok (.land, 1)) ∧ (decode cX0_drop 32 = .ok (.lastore, 1)) ∧ (decode cX0_drop 33 = .ok (.return_, 1)) := by decide +kernel
theorem dX0_drop_31 : decode cX0_drop 31 = .ok (.land, 1) := q9_dX0_drop_31.1
theorem dX0_drop_32 : decode cX0_drop 32 = .ok (.lastore, 1) := q9_dX0_drop_31.2.1
theorem dX0_drop_33 : decode cX0_drop 33 = .ok (.return_, 1) := q9_dX0_drop_31.2.2
set_option maxRecDepth 20000 in
theorem ggX1_init_X0_init : GoodIn wsX1_init wsX0_init := goodIn_r _ [18, 19, 2, 3, 20, 21, 22] rfl (by decide +kernel)
set_option maxRecDepth 20000 in
theorem gX1_init_X0_init_n11 : GoodIn wsX1_init (wsX0_init) := ggX1_init_X0_init
theorem q9_dX1_init_0 : (decode cX1_init 0 = .ok (.aload_n 0, 1)) ∧ (decode cX1_init 1 = .ok (.invokespecial 3, 3)) ∧ (decode cX1_init 4 = .ok (.aload_n 0, 1)) ∧ (decode cX1_init 5 = .ok (.new 9, 3)) ∧ (decode cX1_init 8 = .ok (.dup, 1)) ∧ (decode cX1_init 9 = .ok (.invokespecial 11, 3)) ∧ (decode cX1_init 12 = .ok (.putfield 12, 3)) ∧ (decode cX1_init 15 = .ok (.aload_n 0, 1)) ∧ (decode cX1_init 16 = .ok (.new 9, 3)) ∧ (decode cX1_init 19 = .ok (.dup, 1)) := by decide +kernel
theorem dX1_init_0 : decode cX1_init 0 = .ok (.aload_n 0, 1) := q9_dX1_init_0.1
theorem dX1_init_1 : decode cX1_init 1 = .ok (.invokespecial 3, 3) := q9_dX1_init_0.2.1
theorem dX1_init_4 : decode cX1_init 4 = .ok (.aload_n 0, 1) := q9_dX1_init_0.2.2.1
theorem dX1_init_5 : decode cX1_init 5 = .ok (.new 9, 3) := q9_dX1_init_0.2.2.2.1
theorem dX1_init_8 : decode cX1_init 8 = .ok (.dup, 1) := q9_dX1_init_0.2.2.2.2.1
theorem dX1_init_9 : decode cX1_init 9 = .ok (.invokespecial 11, 3) := q9_dX1_init_0.2.2.2.2.2.1
theorem dX1_init_12 : decode cX1_init 12 = .ok (.putfield 12, 3) := q9_dX1_init_0.2.2.2.2.2.2.1
theorem dX1_init_15 : decode cX1_init 15 = .ok (.aload_n 0, 1) := q9_dX1_init_0.2.2.2.2.2.2.2.1
theorem dX1_init_16 : decode cX1_init 16 = .ok (.new 9, 3) := q9_dX1_init_0.2.2.2.2.2.2.2.2.1
theorem dX1_init_19 : decode cX1_init 19 = .ok (.dup, 1) := q9_dX1_init_0.2.2.2.2.2.2.2.2.2
theorem q9_dX1_init_20 : (decode cX1_init 20 = .ok (.invokespecial 11, 3)) ∧ (decode cX1_init 23 = .ok (.putfield 18, 3)) ∧ (decode cX1_init 26 = .ok (.aload_n 0, 1)) ∧ (decode cX1_init 27 = .ok (.iconst 0, 1)) ∧ (decode cX1_init 28 = .ok (.putfield 21, 3)) ∧ (decode cX1_init 31 = .ok (.aload_n 0, 1)) ∧ (decode cX1_init 32 = .ok (.sipush 300, 3)) ∧ (decode cX1_init 35 = .ok (.putfield 25, 3)) ∧ (decode cX1_init 38 = .ok (.aload_n 0, 1)) ∧ (decode cX1_init 39 = .ok (.iconst 0, 1)) := by decide +kernel
theorem dX1_init_20 : decode cX1_init 20 = .ok (.invokespecial 11, 3) := q9_dX1_init_20.1
theorem dX1_init_23 : decode cX1_init 23 = .ok (.putfield 18, 3) := q9_dX1_init_20.2.1
theorem dX1_init_26 : decode cX1_init 26 = .ok (.aload_n 0, 1) := q9_dX1_init_20.2.2.1
theorem dX1_init_27 : decode cX1_init 27 = .ok (.iconst 0, 1) := q9_dX1_init_20.2.2.2.1
theorem dX1_init_28 : decode cX1_init 28 = .ok (.putfield 21, 3) := q9_dX1_init_20.2.2.2.2.1
theorem dX1_init_31 : decode cX1_init 31 = .ok (.aload_n 0, 1) := q9_dX1_init_20.2.2.2.2.2.1
theorem dX1_init_32 : decode cX1_init 32 = .ok (.sipush 300, 3) := q9_dX1_init_20.2.2.2.2.2.2.1
theorem dX1_init_35 : decode cX1_init 35 = .ok (.putfield 25, 3) := q9_dX1_init_20.2.2.2.2.2.2.2.1
theorem dX1_init_38 : decode cX1_init 38 = .ok (.aload_n 0, 1) := q9_dX1_init_20.2.2.2.2.2.2.2.2.1
theorem dX1_init_39 : decode cX1_init 39 = .ok (.iconst 0, 1) := q9_dX1_init_20.2.2.2.2.2.2.2.2.2
theorem q9_dX1_init_40 : (decode cX1_init 40 = .ok (.putfield 28, 3)) ∧ (decode cX1_init 43 = .ok (.aload_n 0, 1)) ∧ (decode cX1_init 44 = .ok (.iconst 0, 1)) ∧ (decode cX1_init 45 = .ok (.putfield 31, 3)) ∧ (decode cX1_init 48 = .ok (.aload_n 0, 1)) ∧ (decode cX1_init 49 = .ok (.iconst 0, 1)) ∧ (decode cX1_init 50 = .ok (.putfield 34, 3)) ∧ (decode cX1_init 53 = .ok (.aload_n 0, 1)) ∧ (decode cX1_init 54 = .ok (.iconst 0, 1)) ∧ (decode cX1_init 55 = .ok (.putfield 37, 3)) := by decide +kernel
theorem dX1_init_40 : decode cX1_init 40 = .ok (.putfield 28, 3) := q9_dX1_init_40.1
theorem dX1_init_43 : decode cX1_init 43 = .ok (.aload_n 0, 1) := q9_dX1_init_40.2.1
theorem dX1_init_44 : decode cX1_init 44 = .ok (.iconst 0, 1) := q9_dX1_init_40.2.2.1
theorem dX1_init_45 : decode cX1_init 45 = .ok (.putfield 31, 3) := q9_dX1_init_40.2.2.2.1
theorem dX1_init_48 : decode cX1_init 48 = .ok (.aload_n 0, 1) := q9_dX1_init_40.2.2.2.2.1
theorem dX1_init_49 : decode cX1_init 49 = .ok (.iconst 0, 1) := q9_dX1_init_40.2.2.2.2.2.1
theorem dX1_init_50 : decode cX1_init 50 = .ok (.putfield 34, 3) := q9_dX1_init_40.2.2.2.2.2.2.1
theorem dX1_init_53 : decode cX1_init 53 = .ok (.aload_n 0, 1) := q9_dX1_init_40.2.2.2.2.2.2.2.1
theorem dX1_init_54 : decode cX1_init 54 = .ok (.iconst 0, 1) := q9_dX1_init_40.2.2.2.2.2.2.2.2.1
theorem dX1_init_55 : decode cX1_init 55 = .ok (.putfield 37, 3) := q9_dX1_init_40.2.2.2.2.2.2.2.2.2
theorem q9_dX1_init_58 : (decode cX1_init 58 = .ok (.aload_n 0, 1)) ∧ (decode cX1_init 59 = .ok (.iconst 0, 1)) ∧ (decode cX1_init 60 = .ok (.putfield 40, 3)) ∧ (decode cX1_init 63 = .ok (.aload_n 0, 1)) ∧ (decode cX1_init 64 = .ok (.iconst 0, 1)) ∧ (decode cX1_init 65 = .ok (.putfield 43, 3)) ∧ (decode cX1_init 68 = .ok (.return_, 1)) := by decide +kernel
theorem dX1_init_58 : decode cX1_init 58 = .ok (.aload_n 0, 1) := q9_dX1_init_58.1
theorem dX1_init_59 : decode cX1_init 59 = .ok (.iconst 0, 1) := q9_dX1_init_58.2.1
theorem dX1_init_60 : decode cX1_init 60 = .ok (.putfield 40, 3) := q9_dX1_init_58.2.2.1
theorem dX1_init_63 : decode cX1_init 63 = .ok (.aload_n 0, 1) := q9_dX1_init_58.2.2.2.1
theorem dX1_init_64 : decode cX1_init 64 = .ok (.iconst 0, 1) := q9_dX1_init_58.2.2.2.2.1
theorem dX1_init_65 : decode cX1_init 65 = .ok (.putfield 43, 3) := q9_dX1_init_58.2.2.2.2.2.1
theorem dX1_init_68 : decode cX1_init 68 = .ok (.return_, 1) := q9_dX1_init_58.2.2.2.2.2.2
set_option maxRecDepth 20000 in
theorem ggX1_hasRoom_X0_has : GoodIn wsX1_hasRoom wsX0_has := goodIn_r _ [7, 8, 24] rfl (by decide +kernel)
set_option maxRecDepth 20000 in
theorem gX1_hasRoom_X0_has : GoodIn wsX1_hasRoom (wsV RX1 46 RX0 yX0_has wsX0_has) := goodIn_app (goodIn_of _ (by decide +kernel)) ggX1_hasRoom_X0_has
set_option maxRecDepth 20000 in
theorem ggX1_hasRoom_X1_runThrough : GoodIn wsX1_hasRoom wsX1_runThrough := goodIn_r _ [13, 1, 3, 4, 5, 6, 7, 8, 14, 15, 16, 17, 18, 19, 20, 21, 22, 23, 24] rfl (by decide +kernel)
set_option maxRecDepth 20000 in
theorem gX1_hasRoom_X1_runThrough : GoodIn wsX1_hasRoom (wsV RX1 50 RX1 yX1_runThrough wsX1_runThrough) := goodIn_app (goodIn_of _ (by decide +kernel)) ggX1_hasRoom_X1_runThrough
theorem q9_dX1_hasRoom_0 : (decode cX1_hasRoom 0 = .ok (.aload_n 0, 1)) ∧ (decode cX1_hasRoom 1 = .ok (.getfield 12, 3)) ∧ (decode cX1_hasRoom 4 = .ok (.iload_n 1, 1)) ∧ (decode cX1_hasRoom 5 = .ok (.invokevirtual 46, 3)) ∧ (decode cX1_hasRoom 8 = .ok (.ifCond .ne 27, 3)) ∧ (decode cX1_hasRoom 11 = .ok (.aload_n 0, 1)) ∧ (decode cX1_hasRoom 12 = .ok (.getfield 18, 3)) ∧ (decode cX1_hasRoom 15 = .ok (.iload_n 1, 1)) ∧ (decode cX1_hasRoom 16 = .ok (.invokevirtual 46, 3)) ∧ (decode cX1_hasRoom 19 = .ok (.ifCond .ne 16, 3)) := by decide +kernel
theorem dX1_hasRoom_0 : decode cX1_hasRoom 0 = .ok (.aload_n 0, 1) := q9_dX1_hasRoom_0.1
theorem dX1_hasRoom_1 : decode cX1_hasRoom 1 = .ok (.getfield 12, 3) := q9_dX1_hasRoom_0.2.1
theorem dX1_hasRoom_4 : decode cX1_hasRoom 4 = .ok (.iload_n 1, 1) := q9_dX1_hasRoom_0.2.2.1
theorem dX1_hasRoom_5 : decode cX1_hasRoom 5 = .ok (.invokevirtual 46, 3) := q9_dX1_hasRoom_0.2.2.2.1
theorem dX1_hasRoom_8 : decode cX1_hasRoom 8 = .ok (.ifCond .ne 27, 3) := q9_dX1_hasRoom_0.2.2.2.2.1
theorem dX1_hasRoom_11 : decode cX1_hasRoom 11 = .ok (.aload_n 0, 1) := q9_dX1_hasRoom_0.2.2.2.2.2.1
theorem dX1_hasRoom_12 : decode cX1_hasRoom 12 = .ok (.getfield 18, 3) := q9_dX1_hasRoom_0.2.2.2.2.2.2.1
theorem dX1_hasRoom_15 : decode cX1_hasRoom 15 = .ok (.iload_n 1, 1) := q9_dX1_hasRoom_0.2.2.2.2.2.2.2.1
theorem dX1_hasRoom_16 : decode cX1_hasRoom 16 = .ok (.invokevirtual 46, 3) := q9_dX1_hasRoom_0.2.2.2.2.2.2.2.2.1
theorem dX1_hasRoom_19 : decode cX1_hasRoom 19 = .ok (.ifCond .ne 16, 3) := q9_dX1_hasRoom_0.2.2.2.2.2.2.2.2.2
theorem q9_dX1_hasRoom_22 : (decode cX1_hasRoom 22 = .ok (.aload_n 0, 1)) ∧ (decode cX1_hasRoom 23 = .ok (.iload_n 1, 1)) ∧ (decode cX1_hasRoom 24 = .ok (.invokevirtual 50, 3)) ∧ (decode cX1_hasRoom 27 = .ok (.iload_n 2, 1)) ∧ (decode cX1_hasRoom 28 = .ok (.if_icmp .gt 7, 3)) ∧ (decode cX1_hasRoom 31 = .ok (.iconst 1, 1)) ∧ (decode cX1_hasRoom 32 = .ok (.goto 4, 3)) ∧ (decode cX1_hasRoom 35 = .ok (.iconst 0, 1)) ∧ (decode cX1_hasRoom 36 = .ok (.ireturn, 1)) := by decide +kernel
theorem dX1_hasRoom_22 : decode cX1_hasRoom 22 = .ok (.aload_n 0, 1) := q9_dX1_hasRoom_22.1
theorem dX1_hasRoom_23 : decode cX1_hasRoom 23 = .ok (.iload_n 1, 1) := q9_dX1_hasRoom_22.2.1
theorem dX1_hasRoom_24 : decode cX1_hasRoom 24 = .ok (.invokevirtual 50, 3) := q9_dX1_hasRoom_22.2.2.1
theorem dX1_hasRoom_27 : decode cX1_hasRoom 27 = .ok (.iload_n 2, 1) := q9_dX1_hasRoom_22.2.2.2.1
theorem dX1_hasRoom_28 : decode cX1_hasRoom 28 = .ok (.if_icmp .gt 7, 3) := q9_dX1_hasRoom_22.2.2.2.2.1
theorem dX1_hasRoom_31 : decode cX1_hasRoom 31 = .ok (.iconst 1, 1) := q9_dX1_hasRoom_22.2.2.2.2.2.1
theorem dX1_hasRoom_32 : decode cX1_hasRoom 32 = .ok (.goto 4, 3) := q9_dX1_hasRoom_22.2.2.2.2.2.2.1
theorem dX1_hasRoom_35 : decode cX1_hasRoom 35 = .ok (.iconst 0, 1) := q9_dX1_hasRoom_22.2.2.2.2.2.2.2.1
theorem dX1_hasRoom_36 : decode cX1_hasRoom 36 = .ok (.ireturn, 1) := q9_dX1_hasRoom_22.2.2.2.2.2.2.2.2
set_option maxRecDepth 20000 in
theorem ggX1_runThrough_X0_has : GoodIn wsX1_runThrough wsX0_has := goodIn_r _ [6, 7, 18] rfl (by decide +kernel)
set_option maxRecDepth 20000 in
theorem gX1_runThrough_X0_has : GoodIn wsX1_runThrough (wsV RX1 46 RX0 yX0_has wsX0_has) := goodIn_app (goodIn_of _ (by decide +kernel)) ggX1_runThrough_X0_has
theorem q9_dX1_runThrough_0 : (decode cX1_runThrough 0 = .ok (.iconst 1, 1)) ∧ (decode cX1_runThrough 1 = .ok (.istore_n 2, 1)) ∧ (decode cX1_runThrough 2 = .ok (.iload_n 1, 1)) ∧ (decode cX1_runThrough 3 = .ok (.iconst 1, 1)) ∧ (decode cX1_runThrough 4 = .ok (.isub, 1)) ∧ (decode cX1_runThrough 5 = .ok (.istore_n 3, 1)) ∧ (decode cX1_runThrough 6 = .ok (.iload_n 3, 1)) ∧ (decode cX1_runThrough 7 = .ok (.ifCond .lt 23, 3)) ∧ (decode cX1_runThrough 10 = .ok (.aload_n 0, 1)) ∧ (decode cX1_runThrough 11 = .ok (.getfield 12, 3)) := by decide +kernel
theorem dX1_runThrough_0 : decode cX1_runThrough 0 = .ok (.iconst 1, 1) := q9_dX1_runThrough_0.1
theorem dX1_runThrough_1 : decode cX1_runThrough 1 = .ok (.istore_n 2, 1) := q9_dX1_runThrough_0.2.1
theorem dX1_runThrough_2 : decode cX1_runThrough 2 = .ok (.iload_n 1, 1) := q9_dX1_runThrough_0.2.2.1
theorem dX1_runThrough_3 : decode cX1_runThrough 3 = .ok (.iconst 1, 1) := q9_dX1_runThrough_0.2.2.2.1
theorem dX1_runThrough_4 : decode cX1_runThrough 4 = .ok (.isub, 1) := q9_dX1_runThrough_0.2.2.2.2.1
theorem dX1_runThrough_5 : decode cX1_runThrough 5 = .ok (.istore_n 3, 1) := q9_dX1_runThrough_0.2.2.2.2.2.1
theorem dX1_runThrough_6 : decode cX1_runThrough 6 = .ok (.iload_n 3, 1) := q9_dX1_runThrough_0.2.2.2.2.2.2.1
theorem dX1_runThrough_7 : decode cX1_runThrough 7 = .ok (.ifCond .lt 23, 3) := q9_dX1_runThrough_0.2.2.2.2.2.2.2.1
theorem dX1_runThrough_10 : decode cX1_runThrough 10 = .ok (.aload_n 0, 1) := q9_dX1_runThrough_0.2.2.2.2.2.2.2.2.1
theorem dX1_runThrough_11 : decode cX1_runThrough 11 = .ok (.getfield 12, 3) := q9_dX1_runThrough_0.2.2.2.2.2.2.2.2.2
theorem q9_dX1_runThrough_14 : (decode cX1_runThrough 14 = .ok (.iload_n 3, 1)) ∧ (decode cX1_runThrough 15 = .ok (.invokevirtual 46, 3)) ∧ (decode cX1_runThrough 18 = .ok (.ifCond .eq 12, 3)) ∧ (decode cX1_runThrough 21 = .ok (.iinc 2 1, 3)) ∧ (decode cX1_runThrough 24 = .ok (.iinc 3 (-1), 3)) ∧ (decode cX1_runThrough 27 = .ok (.goto (-21), 3)) ∧ (decode cX1_runThrough 30 = .ok (.iload_n 1, 1)) ∧ (decode cX1_runThrough 31 = .ok (.iconst 1, 1)) ∧ (decode cX1_runThrough 32 = .ok (.iadd, 1)) ∧ (decode cX1_runThrough 33 = .ok (.istore_n 3, 1)) := by decide +kernel
theorem dX1_runThrough_14 : decode cX1_runThrough 14 = .ok (.iload_n 3, 1) := q9_dX1_runThrough_14.1
theorem dX1_runThrough_15 : decode cX1_runThrough 15 = .ok (.invokevirtual 46, 3) := q9_dX1_runThrough_14.2.1
theorem dX1_runThrough_18 : decode cX1_runThrough 18 = .ok (.ifCond .eq 12, 3) := q9_dX1_runThrough_14.2.2.1
theorem dX1_runThrough_21 : decode cX1_runThrough 21 = .ok (.iinc 2 1, 3) := q9_dX1_runThrough_14.2.2.2.1
theorem dX1_runThrough_24 : decode cX1_runThrough 24 = .ok (.iinc 3 (-1), 3) := q9_dX1_runThrough_14.2.2.2.2.1
theorem dX1_runThrough_27 : decode cX1_runThrough 27 = .ok (.goto (-21), 3) := q9_dX1_runThrough_14.2.2.2.2.2.1
theorem dX1_runThrough_30 : decode cX1_runThrough 30 = .ok (.iload_n 1, 1) := q9_dX1_runThrough_14.2.2.2.2.2.2.1
theorem dX1_runThrough_31 : decode cX1_runThrough 31 = .ok (.iconst 1, 1) := q9_dX1_runThrough_14.2.2.2.2.2.2.2.1
theorem dX1_runThrough_32 : decode cX1_runThrough 32 = .ok (.iadd, 1) := q9_dX1_runThrough_14.2.2.2.2.2.2.2.2.1
theorem dX1_runThrough_33 : decode cX1_runThrough 33 = .ok (.istore_n 3, 1) := q9_dX1_runThrough_14.2.2.2.2.2.2.2.2.2
theorem q9_dX1_runThrough_34 : (decode cX1_runThrough 34 = .ok (.iload_n 3, 1)) ∧ (decode cX1_runThrough 35 = .ok (.sipush 2048, 3)) ∧ (decode cX1_runThrough 38 = .ok (.if_icmp .ge 23, 3)) ∧ (decode cX1_runThrough 41 = .ok (.aload_n 0, 1)) ∧ (decode cX1_runThrough 42 = .ok (.getfield 12, 3)) ∧ (decode cX1_runThrough 45 = .ok (.iload_n 3, 1)) ∧ (decode cX1_runThrough 46 = .ok (.invokevirtual 46, 3)) ∧ (decode cX1_runThrough 49 = .ok (.ifCond .eq 12, 3)) ∧ (decode cX1_runThrough 52 = .ok (.iinc 2 1, 3)) ∧ (decode cX1_runThrough 55 = .ok (.iinc 3 1, 3)) := by decide +kernel
theorem dX1_runThrough_34 : decode cX1_runThrough 34 = .ok (.iload_n 3, 1) := q9_dX1_runThrough_34.1
theorem dX1_runThrough_35 : decode cX1_runThrough 35 = .ok (.sipush 2048, 3) := q9_dX1_runThrough_34.2.1
theorem dX1_runThrough_38 : decode cX1_runThrough 38 = .ok (.if_icmp .ge 23, 3) := q9_dX1_runThrough_34.2.2.1
theorem dX1_runThrough_41 : decode cX1_runThrough 41 = .ok (.aload_n 0, 1) := q9_dX1_runThrough_34.2.2.2.1
theorem dX1_runThrough_42 : decode cX1_runThrough 42 = .ok (.getfield 12, 3) := q9_dX1_runThrough_34.2.2.2.2.1
theorem dX1_runThrough_45 : decode cX1_runThrough 45 = .ok (.iload_n 3, 1) := q9_dX1_runThrough_34.2.2.2.2.2.1
theorem dX1_runThrough_46 : decode cX1_runThrough 46 = .ok (.invokevirtual 46, 3) := q9_dX1_runThrough_34.2.2.2.2.2.2.1
theorem dX1_runThrough_49 : decode cX1_runThrough 49 = .ok (.ifCond .eq 12, 3) := q9_dX1_runThrough_34.2.2.2.2.2.2.2.1
theorem dX1_runThrough_52 : decode cX1_runThrough 52 = .ok (.iinc 2 1, 3) := q9_dX1_runThrough_34.2.2.2.2.2.2.2.2.1
theorem dX1_runThrough_55 : decode cX1_runThrough 55 = .ok (.iinc 3 1, 3) := q9_dX1_runThrough_34.2.2.2.2.2.2.2.2.2
theorem q9_dX1_runThrough_58 : (decode cX1_runThrough 58 = .ok (.goto (-24), 3)) ∧ (decode cX1_runThrough 61 = .ok (.iload_n 2, 1)) ∧ (decode cX1_runThrough 62 = .ok (.ireturn, 1)) ∧ (decode cX1_tellCut 0 = .ok (.aload_n 0, 1)) ∧ (decode cX1_tellCut 1 = .ok (.iload_n 1, 1)) ∧ (decode cX1_tellCut 2 = .ok (.putfield 40, 3)) ∧ (decode cX1_tellCut 5 = .ok (.aload_n 0, 1)) ∧ (decode cX1_tellCut 6 = .ok (.iload_n 2, 1)) ∧ (decode cX1_tellCut 7 = .ok (.putfield 43, 3)) ∧ (decode cX1_tellCut 10 = .ok (.return_, 1)) := by decide +kernel
theorem dX1_runThrough_58 : decode cX1_runThrough 58 = .ok (.goto (-24), 3) := q9_dX1_runThrough_58.1
theorem dX1_runThrough_61 : decode cX1_runThrough 61 = .ok (.iload_n 2, 1) := q9_dX1_runThrough_58.2.1
theorem dX1_runThrough_62 : decode cX1_runThrough 62 = .ok (.ireturn, 1) := q9_dX1_runThrough_58.2.2.1
theorem dX1_tellCut_0 : decode cX1_tellCut 0 = .ok (.aload_n 0, 1) := q9_dX1_runThrough_58.2.2.2.1
theorem dX1_tellCut_1 : decode cX1_tellCut 1 = .ok (.iload_n 1, 1) := q9_dX1_runThrough_58.2.2.2.2.1
theorem dX1_tellCut_2 : decode cX1_tellCut 2 = .ok (.putfield 40, 3) := q9_dX1_runThrough_58.2.2.2.2.2.1
theorem dX1_tellCut_5 : decode cX1_tellCut 5 = .ok (.aload_n 0, 1) := q9_dX1_runThrough_58.2.2.2.2.2.2.1
theorem dX1_tellCut_6 : decode cX1_tellCut 6 = .ok (.iload_n 2, 1) := q9_dX1_runThrough_58.2.2.2.2.2.2.2.1
theorem dX1_tellCut_7 : decode cX1_tellCut 7 = .ok (.putfield 43, 3) := q9_dX1_runThrough_58.2.2.2.2.2.2.2.2.1
theorem dX1_tellCut_10 : decode cX1_tellCut 10 = .ok (.return_, 1) := q9_dX1_runThrough_58.2.2.2.2.2.2.2.2.2
theorem q9_dX1_melt_0 : (decode cX1_melt 0 = .ok (.iload_n 1, 1)) ∧ (decode cX1_melt 1 = .ok (.aload_n 0, 1)) ∧ (decode cX1_melt 2 = .ok (.getfield 25, 3)) ∧ (decode cX1_melt 5 = .ok (.invokestatic 54, 3)) ∧ (decode cX1_melt 8 = .ok (.istore_n 2, 1)) ∧ (decode cX1_melt 9 = .ok (.aload_n 0, 1)) ∧ (decode cX1_melt 10 = .ok (.dup, 1)) ∧ (decode cX1_melt 11 = .ok (.getfield 25, 3)) ∧ (decode cX1_melt 14 = .ok (.iload_n 2, 1)) ∧ (decode cX1_melt 15 = .ok (.isub, 1)) := by decide +kernel
theorem dX1_melt_0 : decode cX1_melt 0 = .ok (.iload_n 1, 1) := q9_dX1_melt_0.1
theorem dX1_melt_1 : decode cX1_melt 1 = .ok (.aload_n 0, 1) := q9_dX1_melt_0.2.1
theorem dX1_melt_2 : decode cX1_melt 2 = .ok (.getfield 25, 3) := q9_dX1_melt_0.2.2.1
theorem dX1_melt_5 : decode cX1_melt 5 = .ok (.invokestatic 54, 3) := q9_dX1_melt_0.2.2.2.1
theorem dX1_melt_8 : decode cX1_melt 8 = .ok (.istore_n 2, 1) := q9_dX1_melt_0.2.2.2.2.1
theorem dX1_melt_9 : decode cX1_melt 9 = .ok (.aload_n 0, 1) := q9_dX1_melt_0.2.2.2.2.2.1
theorem dX1_melt_10 : decode cX1_melt 10 = .ok (.dup, 1) := q9_dX1_melt_0.2.2.2.2.2.2.1
theorem dX1_melt_11 : decode cX1_melt 11 = .ok (.getfield 25, 3) := q9_dX1_melt_0.2.2.2.2.2.2.2.1
theorem dX1_melt_14 : decode cX1_melt 14 = .ok (.iload_n 2, 1) := q9_dX1_melt_0.2.2.2.2.2.2.2.2.1
theorem dX1_melt_15 : decode cX1_melt 15 = .ok (.isub, 1) := q9_dX1_melt_0.2.2.2.2.2.2.2.2.2
theorem q9_dX1_melt_16 : (decode cX1_melt 16 = .ok (.putfield 25, 3)) ∧ (decode cX1_melt 19 = .ok (.aload_n 0, 1)) ∧ (decode cX1_melt 20 = .ok (.dup, 1)) ∧ (decode cX1_melt 21 = .ok (.getfield 37, 3)) ∧ (decode cX1_melt 24 = .ok (.iload_n 2, 1)) ∧ (decode cX1_melt 25 = .ok (.iadd, 1)) ∧ (decode cX1_melt 26 = .ok (.putfield 37, 3)) ∧ (decode cX1_melt 29 = .ok (.return_, 1)) := by decide +kernel
theorem dX1_melt_16 : decode cX1_melt 16 = .ok (.putfield 25, 3) := q9_dX1_melt_16.1
theorem dX1_melt_19 : decode cX1_melt 19 = .ok (.aload_n 0, 1) := q9_dX1_melt_16.2.1
theorem dX1_melt_20 : decode cX1_melt 20 = .ok (.dup, 1) := q9_dX1_melt_16.2.2.1
theorem dX1_melt_21 : decode cX1_melt 21 = .ok (.getfield 37, 3) := q9_dX1_melt_16.2.2.2.1
theorem dX1_melt_24 : decode cX1_melt 24 = .ok (.iload_n 2, 1) := q9_dX1_melt_16.2.2.2.2.1
theorem dX1_melt_25 : decode cX1_melt 25 = .ok (.iadd, 1) := q9_dX1_melt_16.2.2.2.2.2.1
theorem dX1_melt_26 : decode cX1_melt 26 = .ok (.putfield 37, 3) := q9_dX1_melt_16.2.2.2.2.2.2.1
theorem dX1_melt_29 : decode cX1_melt 29 = .ok (.return_, 1) := q9_dX1_melt_16.2.2.2.2.2.2.2
set_option maxRecDepth 20000 in
theorem ggX1_decide_X6_lose : GoodIn wsX1_decide wsX6_lose := goodIn_r _ [8, 9, 10, 33, 34, 35, 36, 37, 38, 39, 40, 41, 42] rfl (by decide +kernel)
set_option maxRecDepth 20000 in
theorem gX1_decide_X6_lose : GoodIn wsX1_decide (wsV RX1 60 RX6 yX6_lose wsX6_lose) := goodIn_app (goodIn_of _ (by decide +kernel)) ggX1_decide_X6_lose
set_option maxRecDepth 20000 in
theorem ggX1_decide_X6_hold : GoodIn wsX1_decide wsX6_hold := goodIn_r _ [14, 9, 15, 16, 33, 34, 35, 36, 37, 38, 39, 40, 41, 42] rfl (by decide +kernel)
set_option maxRecDepth 20000 in
theorem gX1_decide_X6_hold : GoodIn wsX1_decide (wsV RX1 66 RX6 yX6_hold wsX6_hold) := goodIn_app (goodIn_of _ (by decide +kernel)) ggX1_decide_X6_hold
set_option maxRecDepth 20000 in
theorem ggX1_decide_X8_ofKind : GoodIn wsX1_decide wsX8_ofKind := goodIn_r _ [19, 20, 21, 18, 22] rfl (by decide +kernel)
set_option maxRecDepth 20000 in
theorem gX1_decide_X8_ofKind_n76 : GoodIn wsX1_decide (wsX8_ofKind) := ggX1_decide_X8_ofKind
theorem q9_dX1_decide_0 : (decode cX1_decide 0 = .ok (.aload_n 0, 1)) ∧ (decode cX1_decide 1 = .ok (.getfield 25, 3)) ∧ (decode cX1_decide 4 = .ok (.sipush 200, 3)) ∧ (decode cX1_decide 7 = .ok (.if_icmp .ge 11, 3)) ∧ (decode cX1_decide 10 = .ok (.aload_n 1, 1)) ∧ (decode cX1_decide 11 = .ok (.iconst 1, 1)) ∧ (decode cX1_decide 12 = .ok (.invokevirtual 60, 3)) ∧ (decode cX1_decide 15 = .ok (.goto 61, 3)) ∧ (decode cX1_decide 18 = .ok (.aload_n 0, 1)) ∧ (decode cX1_decide 19 = .ok (.getfield 25, 3)) := by decide +kernel
theorem dX1_decide_0 : decode cX1_decide 0 = .ok (.aload_n 0, 1) := q9_dX1_decide_0.1
theorem dX1_decide_1 : decode cX1_decide 1 = .ok (.getfield 25, 3) := q9_dX1_decide_0.2.1
theorem dX1_decide_4 : decode cX1_decide 4 = .ok (.sipush 200, 3) := q9_dX1_decide_0.2.2.1
theorem dX1_decide_7 : decode cX1_decide 7 = .ok (.if_icmp .ge 11, 3) := q9_dX1_decide_0.2.2.2.1
theorem dX1_decide_10 : decode cX1_decide 10 = .ok (.aload_n 1, 1) := q9_dX1_decide_0.2.2.2.2.1
theorem dX1_decide_11 : decode cX1_decide 11 = .ok (.iconst 1, 1) := q9_dX1_decide_0.2.2.2.2.2.1
theorem dX1_decide_12 : decode cX1_decide 12 = .ok (.invokevirtual 60, 3) := q9_dX1_decide_0.2.2.2.2.2.2.1
theorem dX1_decide_15 : decode cX1_decide 15 = .ok (.goto 61, 3) := q9_dX1_decide_0.2.2.2.2.2.2.2.1
theorem dX1_decide_18 : decode cX1_decide 18 = .ok (.aload_n 0, 1) := q9_dX1_decide_0.2.2.2.2.2.2.2.2.1
theorem dX1_decide_19 : decode cX1_decide 19 = .ok (.getfield 25, 3) := q9_dX1_decide_0.2.2.2.2.2.2.2.2.2
theorem q9_dX1_decide_22 : (decode cX1_decide 22 = .ok (.sipush 450, 3)) ∧ (decode cX1_decide 25 = .ok (.if_icmp .le 11, 3)) ∧ (decode cX1_decide 28 = .ok (.aload_n 1, 1)) ∧ (decode cX1_decide 29 = .ok (.iconst 2, 1)) ∧ (decode cX1_decide 30 = .ok (.invokevirtual 60, 3)) ∧ (decode cX1_decide 33 = .ok (.goto 43, 3)) ∧ (decode cX1_decide 36 = .ok (.aload_n 0, 1)) ∧ (decode cX1_decide 37 = .ok (.getfield 28, 3)) ∧ (decode cX1_decide 40 = .ok (.bipush 60, 2)) ∧ (decode cX1_decide 42 = .ok (.if_icmp .le 11, 3)) := by decide +kernel
theorem dX1_decide_22 : decode cX1_decide 22 = .ok (.sipush 450, 3) := q9_dX1_decide_22.1
theorem dX1_decide_25 : decode cX1_decide 25 = .ok (.if_icmp .le 11, 3) := q9_dX1_decide_22.2.1
theorem dX1_decide_28 : decode cX1_decide 28 = .ok (.aload_n 1, 1) := q9_dX1_decide_22.2.2.1
theorem dX1_decide_29 : decode cX1_decide 29 = .ok (.iconst 2, 1) := q9_dX1_decide_22.2.2.2.1
theorem dX1_decide_30 : decode cX1_decide 30 = .ok (.invokevirtual 60, 3) := q9_dX1_decide_22.2.2.2.2.1
theorem dX1_decide_33 : decode cX1_decide 33 = .ok (.goto 43, 3) := q9_dX1_decide_22.2.2.2.2.2.1
theorem dX1_decide_36 : decode cX1_decide 36 = .ok (.aload_n 0, 1) := q9_dX1_decide_22.2.2.2.2.2.2.1
theorem dX1_decide_37 : decode cX1_decide 37 = .ok (.getfield 28, 3) := q9_dX1_decide_22.2.2.2.2.2.2.2.1
theorem dX1_decide_40 : decode cX1_decide 40 = .ok (.bipush 60, 2) := q9_dX1_decide_22.2.2.2.2.2.2.2.2.1
theorem dX1_decide_42 : decode cX1_decide 42 = .ok (.if_icmp .le 11, 3) := q9_dX1_decide_22.2.2.2.2.2.2.2.2.2
theorem q9_dX1_decide_45 : (decode cX1_decide 45 = .ok (.aload_n 1, 1)) ∧ (decode cX1_decide 46 = .ok (.iconst 3, 1)) ∧ (decode cX1_decide 47 = .ok (.invokevirtual 60, 3)) ∧ (decode cX1_decide 50 = .ok (.goto 26, 3)) ∧ (decode cX1_decide 53 = .ok (.aload_n 1, 1)) ∧ (decode cX1_decide 54 = .ok (.invokevirtual 66, 3)) ∧ (decode cX1_decide 57 = .ok (.aload_n 0, 1)) ∧ (decode cX1_decide 58 = .ok (.dup, 1)) ∧ (decode cX1_decide 59 = .ok (.getfield 28, 3)) ∧ (decode cX1_decide 62 = .ok (.getstatic 69, 3)) := by decide +kernel
theorem dX1_decide_45 : decode cX1_decide 45 = .ok (.aload_n 1, 1) := q9_dX1_decide_45.1
theorem dX1_decide_46 : decode cX1_decide 46 = .ok (.iconst 3, 1) := q9_dX1_decide_45.2.1
theorem dX1_decide_47 : decode cX1_decide 47 = .ok (.invokevirtual 60, 3) := q9_dX1_decide_45.2.2.1
theorem dX1_decide_50 : decode cX1_decide 50 = .ok (.goto 26, 3) := q9_dX1_decide_45.2.2.2.1
theorem dX1_decide_53 : decode cX1_decide 53 = .ok (.aload_n 1, 1) := q9_dX1_decide_45.2.2.2.2.1
theorem dX1_decide_54 : decode cX1_decide 54 = .ok (.invokevirtual 66, 3) := q9_dX1_decide_45.2.2.2.2.2.1
theorem dX1_decide_57 : decode cX1_decide 57 = .ok (.aload_n 0, 1) := q9_dX1_decide_45.2.2.2.2.2.2.1
theorem dX1_decide_58 : decode cX1_decide 58 = .ok (.dup, 1) := q9_dX1_decide_45.2.2.2.2.2.2.2.1
theorem dX1_decide_59 : decode cX1_decide 59 = .ok (.getfield 28, 3) := q9_dX1_decide_45.2.2.2.2.2.2.2.2.1
theorem dX1_decide_62 : decode cX1_decide 62 = .ok (.getstatic 69, 3) := q9_dX1_decide_45.2.2.2.2.2.2.2.2.2
theorem q9_dX1_decide_65 : (decode cX1_decide 65 = .ok (.aload_n 1, 1)) ∧ (decode cX1_decide 66 = .ok (.getfield 73, 3)) ∧ (decode cX1_decide 69 = .ok (.invokestatic 76, 3)) ∧ (decode cX1_decide 72 = .ok (.iadd, 1)) ∧ (decode cX1_decide 73 = .ok (.putfield 28, 3)) ∧ (decode cX1_decide 76 = .ok (.return_, 1)) ∧ (decode cX1_shave 0 = .ok (.aload_n 0, 1)) ∧ (decode cX1_shave 1 = .ok (.getfield 40, 3)) ∧ (decode cX1_shave 4 = .ok (.aload_n 0, 1)) ∧ (decode cX1_shave 5 = .ok (.getfield 25, 3)) := by decide +kernel
theorem dX1_decide_65 : decode cX1_decide 65 = .ok (.aload_n 1, 1) := q9_dX1_decide_65.1
theorem dX1_decide_66 : decode cX1_decide 66 = .ok (.getfield 73, 3) := q9_dX1_decide_65.2.1
theorem dX1_decide_69 : decode cX1_decide 69 = .ok (.invokestatic 76, 3) := q9_dX1_decide_65.2.2.1
theorem dX1_decide_72 : decode cX1_decide 72 = .ok (.iadd, 1) := q9_dX1_decide_65.2.2.2.1
theorem dX1_decide_73 : decode cX1_decide 73 = .ok (.putfield 28, 3) := q9_dX1_decide_65.2.2.2.2.1
theorem dX1_decide_76 : decode cX1_decide 76 = .ok (.return_, 1) := q9_dX1_decide_65.2.2.2.2.2.1
theorem dX1_shave_0 : decode cX1_shave 0 = .ok (.aload_n 0, 1) := q9_dX1_decide_65.2.2.2.2.2.2.1
theorem dX1_shave_1 : decode cX1_shave 1 = .ok (.getfield 40, 3) := q9_dX1_decide_65.2.2.2.2.2.2.2.1
theorem dX1_shave_4 : decode cX1_shave 4 = .ok (.aload_n 0, 1) := q9_dX1_decide_65.2.2.2.2.2.2.2.2.1
theorem dX1_shave_5 : decode cX1_shave 5 = .ok (.getfield 25, 3) := q9_dX1_decide_65.2.2.2.2.2.2.2.2.2
theorem q9_dX1_shave_8 : (decode cX1_shave 8 = .ok (.invokestatic 54, 3)) ∧ (decode cX1_shave 11 = .ok (.istore_n 1, 1)) ∧ (decode cX1_shave 12 = .ok (.aload_n 0, 1)) ∧ (decode cX1_shave 13 = .ok (.dup, 1)) ∧ (decode cX1_shave 14 = .ok (.getfield 25, 3)) ∧ (decode cX1_shave 17 = .ok (.iload_n 1, 1)) ∧ (decode cX1_shave 18 = .ok (.isub, 1)) ∧ (decode cX1_shave 19 = .ok (.putfield 25, 3)) ∧ (decode cX1_shave 22 = .ok (.aload_n 0, 1)) ∧ (decode cX1_shave 23 = .ok (.dup, 1)) := by decide +kernel
theorem dX1_shave_8 : decode cX1_shave 8 = .ok (.invokestatic 54, 3) := q9_dX1_shave_8.1
theorem dX1_shave_11 : decode cX1_shave 11 = .ok (.istore_n 1, 1) := q9_dX1_shave_8.2.1
theorem dX1_shave_12 : decode cX1_shave 12 = .ok (.aload_n 0, 1) := q9_dX1_shave_8.2.2.1
theorem dX1_shave_13 : decode cX1_shave 13 = .ok (.dup, 1) := q9_dX1_shave_8.2.2.2.1
theorem dX1_shave_14 : decode cX1_shave 14 = .ok (.getfield 25, 3) := q9_dX1_shave_8.2.2.2.2.1
theorem dX1_shave_17 : decode cX1_shave 17 = .ok (.iload_n 1, 1) := q9_dX1_shave_8.2.2.2.2.2.1
theorem dX1_shave_18 : decode cX1_shave 18 = .ok (.isub, 1) := q9_dX1_shave_8.2.2.2.2.2.2.1
theorem dX1_shave_19 : decode cX1_shave 19 = .ok (.putfield 25, 3) := q9_dX1_shave_8.2.2.2.2.2.2.2.1
theorem dX1_shave_22 : decode cX1_shave 22 = .ok (.aload_n 0, 1) := q9_dX1_shave_8.2.2.2.2.2.2.2.2.1
theorem dX1_shave_23 : decode cX1_shave 23 = .ok (.dup, 1) := q9_dX1_shave_8.2.2.2.2.2.2.2.2.2
theorem q9_dX1_shave_24 : (decode cX1_shave 24 = .ok (.getfield 31, 3)) ∧ (decode cX1_shave 27 = .ok (.iload_n 1, 1)) ∧ (decode cX1_shave 28 = .ok (.iadd, 1)) ∧ (decode cX1_shave 29 = .ok (.putfield 31, 3)) ∧ (decode cX1_shave 32 = .ok (.aload_n 0, 1)) ∧ (decode cX1_shave 33 = .ok (.iconst 0, 1)) ∧ (decode cX1_shave 34 = .ok (.aload_n 0, 1)) ∧ (decode cX1_shave 35 = .ok (.getfield 28, 3)) ∧ (decode cX1_shave 38 = .ok (.iload_n 1, 1)) ∧ (decode cX1_shave 39 = .ok (.bipush 10, 2)) := by decide +kernel
theorem dX1_shave_24 : decode cX1_shave 24 = .ok (.getfield 31, 3) := q9_dX1_shave_24.1
theorem dX1_shave_27 : decode cX1_shave 27 = .ok (.iload_n 1, 1) := q9_dX1_shave_24.2.1
theorem dX1_shave_28 : decode cX1_shave 28 = .ok (.iadd, 1) := q9_dX1_shave_24.2.2.1
theorem dX1_shave_29 : decode cX1_shave 29 = .ok (.putfield 31, 3) := q9_dX1_shave_24.2.2.2.1
theorem dX1_shave_32 : decode cX1_shave 32 = .ok (.aload_n 0, 1) := q9_dX1_shave_24.2.2.2.2.1
theorem dX1_shave_33 : decode cX1_shave 33 = .ok (.iconst 0, 1) := q9_dX1_shave_24.2.2.2.2.2.1
theorem dX1_shave_34 : decode cX1_shave 34 = .ok (.aload_n 0, 1) := q9_dX1_shave_24.2.2.2.2.2.2.1
theorem dX1_shave_35 : decode cX1_shave 35 = .ok (.getfield 28, 3) := q9_dX1_shave_24.2.2.2.2.2.2.2.1
theorem dX1_shave_38 : decode cX1_shave 38 = .ok (.iload_n 1, 1) := q9_dX1_shave_24.2.2.2.2.2.2.2.2.1
theorem dX1_shave_39 : decode cX1_shave 39 = .ok (.bipush 10, 2) := q9_dX1_shave_24.2.2.2.2.2.2.2.2.2
theorem q9_dX1_shave_41 : (decode cX1_shave 41 = .ok (.imul, 1)) ∧ (decode cX1_shave 42 = .ok (.isub, 1)) ∧ (decode cX1_shave 43 = .ok (.invokestatic 80, 3)) ∧ (decode cX1_shave 46 = .ok (.putfield 28, 3)) ∧ (decode cX1_shave 49 = .ok (.return_, 1)) ∧ (decode cX1_freeze 0 = .ok (.aload_n 0, 1)) ∧ (decode cX1_freeze 1 = .ok (.dup, 1)) ∧ (decode cX1_freeze 2 = .ok (.getfield 25, 3)) ∧ (decode cX1_freeze 5 = .ok (.iload_n 1, 1)) ∧ (decode cX1_freeze 6 = .ok (.iadd, 1)) := by decide +kernel
theorem dX1_shave_41 : decode cX1_shave 41 = .ok (.imul, 1) := q9_dX1_shave_41.1
theorem dX1_shave_42 : decode cX1_shave 42 = .ok (.isub, 1) := q9_dX1_shave_41.2.1
theorem dX1_shave_43 : decode cX1_shave 43 = .ok (.invokestatic 80, 3) := q9_dX1_shave_41.2.2.1
theorem dX1_shave_46 : decode cX1_shave 46 = .ok (.putfield 28, 3) := q9_dX1_shave_41.2.2.2.1
theorem dX1_shave_49 : decode cX1_shave 49 = .ok (.return_, 1) := q9_dX1_shave_41.2.2.2.2.1
theorem dX1_freeze_0 : decode cX1_freeze 0 = .ok (.aload_n 0, 1) := q9_dX1_shave_41.2.2.2.2.2.1
theorem dX1_freeze_1 : decode cX1_freeze 1 = .ok (.dup, 1) := q9_dX1_shave_41.2.2.2.2.2.2.1
theorem dX1_freeze_2 : decode cX1_freeze 2 = .ok (.getfield 25, 3) := q9_dX1_shave_41.2.2.2.2.2.2.2.1
theorem dX1_freeze_5 : decode cX1_freeze 5 = .ok (.iload_n 1, 1) := q9_dX1_shave_41.2.2.2.2.2.2.2.2.1
theorem dX1_freeze_6 : decode cX1_freeze 6 = .ok (.iadd, 1) := q9_dX1_shave_41.2.2.2.2.2.2.2.2.2
theorem q9_dX1_freeze_7 : (decode cX1_freeze 7 = .ok (.putfield 25, 3)) ∧ (decode cX1_freeze 10 = .ok (.aload_n 0, 1)) ∧ (decode cX1_freeze 11 = .ok (.dup, 1)) ∧ (decode cX1_freeze 12 = .ok (.getfield 34, 3)) ∧ (decode cX1_freeze 15 = .ok (.iload_n 1, 1)) ∧ (decode cX1_freeze 16 = .ok (.iadd, 1)) ∧ (decode cX1_freeze 17 = .ok (.putfield 34, 3)) ∧ (decode cX1_freeze 20 = .ok (.return_, 1)) ∧ (decode cX2_init 0 = .ok (.aload_n 0, 1)) ∧ (decode cX2_init 1 = .ok (.invokespecial 3, 3)) := by decide +kernel
theorem dX1_freeze_7 : decode cX1_freeze 7 = .ok (.putfield 25, 3) := q9_dX1_freeze_7.1
theorem dX1_freeze_10 : decode cX1_freeze 10 = .ok (.aload_n 0, 1) := q9_dX1_freeze_7.2.1
theorem dX1_freeze_11 : decode cX1_freeze 11 = .ok (.dup, 1) := q9_dX1_freeze_7.2.2.1
theorem dX1_freeze_12 : decode cX1_freeze 12 = .ok (.getfield 34, 3) := q9_dX1_freeze_7.2.2.2.1
theorem dX1_freeze_15 : decode cX1_freeze 15 = .ok (.iload_n 1, 1) := q9_dX1_freeze_7.2.2.2.2.1
theorem dX1_freeze_16 : decode cX1_freeze 16 = .ok (.iadd, 1) := q9_dX1_freeze_7.2.2.2.2.2.1
theorem dX1_freeze_17 : decode cX1_freeze 17 = .ok (.putfield 34, 3) := q9_dX1_freeze_7.2.2.2.2.2.2.1
theorem dX1_freeze_20 : decode cX1_freeze 20 = .ok (.return_, 1) := q9_dX1_freeze_7.2.2.2.2.2.2.2.1
theorem dX2_init_0 : decode cX2_init 0 = .ok (.aload_n 0, 1) := q9_dX1_freeze_7.2.2.2.2.2.2.2.2.1
theorem dX2_init_1 : decode cX2_init 1 = .ok (.invokespecial 3, 3) := q9_dX1_freeze_7.2.2.2.2.2.2.2.2.2
theorem q9_dX2_init_4 : (decode cX2_init 4 = .ok (.aload_n 0, 1)) ∧ (decode cX2_init 5 = .ok (.iconst 5, 1)) ∧ (decode cX2_init 6 = .ok (.anewarray 9, 3)) ∧ (decode cX2_init 9 = .ok (.putfield 11, 3)) ∧ (decode cX2_init 12 = .ok (.aload_n 0, 1)) ∧ (decode cX2_init 13 = .ok (.iconst 5, 1)) ∧ (decode cX2_init 14 = .ok (.newarray .int, 2)) ∧ (decode cX2_init 16 = .ok (.putfield 17, 3)) ∧ (decode cX2_init 19 = .ok (.aload_n 0, 1)) ∧ (decode cX2_init 20 = .ok (.iconst 5, 1)) := by decide +kernel
theorem dX2_init_4 : decode cX2_init 4 = .ok (.aload_n 0, 1) := q9_dX2_init_4.1
theorem dX2_init_5 : decode cX2_init 5 = .ok (.iconst 5, 1) := q9_dX2_init_4.2.1
theorem dX2_init_6 : decode cX2_init 6 = .ok (.anewarray 9, 3) := q9_dX2_init_4.2.2.1
theorem dX2_init_9 : decode cX2_init 9 = .ok (.putfield 11, 3) := q9_dX2_init_4.2.2.2.1
theorem dX2_init_12 : decode cX2_init 12 = .ok (.aload_n 0, 1) := q9_dX2_init_4.2.2.2.2.1
theorem dX2_init_13 : decode cX2_init 13 = .ok (.iconst 5, 1) := q9_dX2_init_4.2.2.2.2.2.1
theorem dX2_init_14 : decode cX2_init 14 = .ok (.newarray .int, 2) := q9_dX2_init_4.2.2.2.2.2.2.1
theorem dX2_init_16 : decode cX2_init 16 = .ok (.putfield 17, 3) := q9_dX2_init_4.2.2.2.2.2.2.2.1
theorem dX2_init_19 : decode cX2_init 19 = .ok (.aload_n 0, 1) := q9_dX2_init_4.2.2.2.2.2.2.2.2.1
theorem dX2_init_20 : decode cX2_init 20 = .ok (.iconst 5, 1) := q9_dX2_init_4.2.2.2.2.2.2.2.2.2
theorem q9_dX2_init_21 : (decode cX2_init 21 = .ok (.newarray .int, 2)) ∧ (decode cX2_init 23 = .ok (.putfield 21, 3)) ∧ (decode cX2_init 26 = .ok (.aload_n 0, 1)) ∧ (decode cX2_init 27 = .ok (.bipush 6, 2)) ∧ (decode cX2_init 29 = .ok (.newarray .int, 2)) ∧ (decode cX2_init 31 = .ok (.putfield 24, 3)) ∧ (decode cX2_init 34 = .ok (.aload_n 0, 1)) ∧ (decode cX2_init 35 = .ok (.aload_n 1, 1)) ∧ (decode cX2_init 36 = .ok (.putfield 27, 3)) ∧ (decode cX2_init 39 = .ok (.aload_n 0, 1)) := by decide +kernel
theorem dX2_init_21 : decode cX2_init 21 = .ok (.newarray .int, 2) := q9_dX2_init_21.1
theorem dX2_init_23 : decode cX2_init 23 = .ok (.putfield 21, 3) := q9_dX2_init_21.2.1
theorem dX2_init_26 : decode cX2_init 26 = .ok (.aload_n 0, 1) := q9_dX2_init_21.2.2.1
theorem dX2_init_27 : decode cX2_init 27 = .ok (.bipush 6, 2) := q9_dX2_init_21.2.2.2.1
theorem dX2_init_29 : decode cX2_init 29 = .ok (.newarray .int, 2) := q9_dX2_init_21.2.2.2.2.1
theorem dX2_init_31 : decode cX2_init 31 = .ok (.putfield 24, 3) := q9_dX2_init_21.2.2.2.2.2.1
theorem dX2_init_34 : decode cX2_init 34 = .ok (.aload_n 0, 1) := q9_dX2_init_21.2.2.2.2.2.2.1
theorem dX2_init_35 : decode cX2_init 35 = .ok (.aload_n 1, 1) := q9_dX2_init_21.2.2.2.2.2.2.2.1
theorem dX2_init_36 : decode cX2_init 36 = .ok (.putfield 27, 3) := q9_dX2_init_21.2.2.2.2.2.2.2.2.1
theorem dX2_init_39 : decode cX2_init 39 = .ok (.aload_n 0, 1) := q9_dX2_init_21.2.2.2.2.2.2.2.2.2
theorem q9_dX2_init_40 : (decode cX2_init 40 = .ok (.aload_n 2, 1)) ∧ (decode cX2_init 41 = .ok (.putfield 31, 3)) ∧ (decode cX2_init 44 = .ok (.return_, 1)) ∧ (decode cX2_begin 0 = .ok (.aload_n 0, 1)) ∧ (decode cX2_begin 1 = .ok (.iconst 0, 1)) ∧ (decode cX2_begin 2 = .ok (.putfield 34, 3)) ∧ (decode cX2_begin 5 = .ok (.return_, 1)) := by decide +kernel
theorem dX2_init_40 : decode cX2_init 40 = .ok (.aload_n 2, 1) := q9_dX2_init_40.1
theorem dX2_init_41 : decode cX2_init 41 = .ok (.putfield 31, 3) := q9_dX2_init_40.2.1
theorem dX2_init_44 : decode cX2_init 44 = .ok (.return_, 1) := q9_dX2_init_40.2.2.1
theorem dX2_begin_0 : decode cX2_begin 0 = .ok (.aload_n 0, 1) := q9_dX2_init_40.2.2.2.1
theorem dX2_begin_1 : decode cX2_begin 1 = .ok (.iconst 0, 1) := q9_dX2_init_40.2.2.2.2.1
theorem dX2_begin_2 : decode cX2_begin 2 = .ok (.putfield 34, 3) := q9_dX2_init_40.2.2.2.2.2.1
theorem dX2_begin_5 : decode cX2_begin 5 = .ok (.return_, 1) := q9_dX2_init_40.2.2.2.2.2.2
set_option maxRecDepth 20000 in
theorem ggX2_add_X8_isBelow : GoodIn wsX2_add wsX8_isBelow := goodIn_r _ [5] rfl (by decide +kernel)
set_option maxRecDepth 20000 in
theorem gX2_add_X8_isBelow_n38 : GoodIn wsX2_add (wsX8_isBelow) := ggX2_add_X8_isBelow
theorem q9_dX2_add_0 : (decode cX2_add 0 = .ok (.aload_n 0, 1)) ∧ (decode cX2_add 1 = .ok (.getfield 34, 3)) ∧ (decode cX2_add 4 = .ok (.iconst 5, 1)) ∧ (decode cX2_add 5 = .ok (.invokestatic 38, 3)) ∧ (decode cX2_add 8 = .ok (.ifCond .ne 5, 3)) ∧ (decode cX2_add 11 = .ok (.iconst 0, 1)) ∧ (decode cX2_add 12 = .ok (.ireturn, 1)) ∧ (decode cX2_add 13 = .ok (.aload_n 0, 1)) ∧ (decode cX2_add 14 = .ok (.getfield 11, 3)) ∧ (decode cX2_add 17 = .ok (.aload_n 0, 1)) := by decide +kernel
theorem dX2_add_0 : decode cX2_add 0 = .ok (.aload_n 0, 1) := q9_dX2_add_0.1
theorem dX2_add_1 : decode cX2_add 1 = .ok (.getfield 34, 3) := q9_dX2_add_0.2.1
theorem dX2_add_4 : decode cX2_add 4 = .ok (.iconst 5, 1) := q9_dX2_add_0.2.2.1
theorem dX2_add_5 : decode cX2_add 5 = .ok (.invokestatic 38, 3) := q9_dX2_add_0.2.2.2.1
theorem dX2_add_8 : decode cX2_add 8 = .ok (.ifCond .ne 5, 3) := q9_dX2_add_0.2.2.2.2.1
theorem dX2_add_11 : decode cX2_add 11 = .ok (.iconst 0, 1) := q9_dX2_add_0.2.2.2.2.2.1
theorem dX2_add_12 : decode cX2_add 12 = .ok (.ireturn, 1) := q9_dX2_add_0.2.2.2.2.2.2.1
theorem dX2_add_13 : decode cX2_add 13 = .ok (.aload_n 0, 1) := q9_dX2_add_0.2.2.2.2.2.2.2.1
theorem dX2_add_14 : decode cX2_add 14 = .ok (.getfield 11, 3) := q9_dX2_add_0.2.2.2.2.2.2.2.2.1
theorem dX2_add_17 : decode cX2_add 17 = .ok (.aload_n 0, 1) := q9_dX2_add_0.2.2.2.2.2.2.2.2.2
theorem q9_dX2_add_18 : (decode cX2_add 18 = .ok (.getfield 34, 3)) ∧ (decode cX2_add 21 = .ok (.aload_n 1, 1)) ∧ (decode cX2_add 22 = .ok (.aastore, 1)) ∧ (decode cX2_add 23 = .ok (.aload_n 0, 1)) ∧ (decode cX2_add 24 = .ok (.dup, 1)) ∧ (decode cX2_add 25 = .ok (.getfield 34, 3)) ∧ (decode cX2_add 28 = .ok (.iconst 1, 1)) ∧ (decode cX2_add 29 = .ok (.iadd, 1)) ∧ (decode cX2_add 30 = .ok (.putfield 34, 3)) ∧ (decode cX2_add 33 = .ok (.iconst 1, 1)) := by decide +kernel
theorem dX2_add_18 : decode cX2_add 18 = .ok (.getfield 34, 3) := q9_dX2_add_18.1
theorem dX2_add_21 : decode cX2_add 21 = .ok (.aload_n 1, 1) := q9_dX2_add_18.2.1
theorem dX2_add_22 : decode cX2_add 22 = .ok (.aastore, 1) := q9_dX2_add_18.2.2.1
theorem dX2_add_23 : decode cX2_add 23 = .ok (.aload_n 0, 1) := q9_dX2_add_18.2.2.2.1
theorem dX2_add_24 : decode cX2_add 24 = .ok (.dup, 1) := q9_dX2_add_18.2.2.2.2.1
theorem dX2_add_25 : decode cX2_add 25 = .ok (.getfield 34, 3) := q9_dX2_add_18.2.2.2.2.2.1
theorem dX2_add_28 : decode cX2_add 28 = .ok (.iconst 1, 1) := q9_dX2_add_18.2.2.2.2.2.2.1
theorem dX2_add_29 : decode cX2_add 29 = .ok (.iadd, 1) := q9_dX2_add_18.2.2.2.2.2.2.2.1
theorem dX2_add_30 : decode cX2_add 30 = .ok (.putfield 34, 3) := q9_dX2_add_18.2.2.2.2.2.2.2.2.1
theorem dX2_add_33 : decode cX2_add 33 = .ok (.iconst 1, 1) := q9_dX2_add_18.2.2.2.2.2.2.2.2.2
theorem dX2_add_34 : decode cX2_add 34 = .ok (.ireturn, 1) := by decide +kernel
set_option maxRecDepth 20000 in
theorem ggX2_search_X2_leastAlone : GoodIn wsX2_search wsX2_leastAlone := goodIn_r _ [10, 11, 12, 13, 9, 14, 1, 2, 15, 16, 17, 18, 19, 20, 21, 22, 23, 24, 25, 26, 27, 28, 29, 30, 31, 32, 33, 34, 35, 36, 37, 38, 39, 40, 41, 42, 43, 44, 45, 46, 47, 48, 49, 50, 51, 52, 53, 54, 55, 56, 80, 81, 82, 83, 84, 85, 86, 87, 88, 89, 90, 91, 92, 93, 94, 95, 96, 97, 98, 99, 100, 101, 102, 103, 104, 105, 106, 107, 108, 109, 110] rfl (by decide +kernel)
set_option maxRecDepth 20000 in
theorem gX2_search_X2_leastAlone : GoodIn wsX2_search (wsV RX2 51 RX2 yX2_leastAlone wsX2_leastAlone) := goodIn_app (goodIn_of _ (by decide +kernel)) ggX2_search_X2_leastAlone
set_option maxRecDepth 20000 in
theorem ggX2_search_X2_searchFrom : GoodIn wsX2_search wsX2_searchFrom := goodIn_r _ [59, 4, 5, 3, 60, 61, 62, 63, 64, 9, 65, 66, 67, 68, 69, 70, 50, 51, 52, 53, 54, 55, 56, 24, 25, 26, 21, 22, 23, 57, 58, 11, 12, 13, 14, 1, 2, 15, 16, 17, 18, 19, 20, 27, 28, 29, 30, 31, 32, 33, 34, 35, 36, 37, 38, 39, 40, 41, 42, 43, 44, 45, 46, 47, 48, 49, 71, 72, 73, 74, 75, 76, 77, 78, 79, 80, 81, 82, 83, 84, 85, 86, 87, 88, 89, 100, 101, 102, 103, 104, 105, 106, 107, 108, 109, 90, 91, 92, 93, 94, 95, 96, 97, 98, 99, 110] rfl (by decide +kernel)
set_option maxRecDepth 20000 in
theorem gX2_search_X2_searchFrom : GoodIn wsX2_search (va_wsS RX2 55 yX2_searchFrom wsX2_searchFrom) := goodIn_app (goodIn_of _ (by decide +kernel)) ggX2_search_X2_searchFrom
theorem q9_dX2_search_0 : (decode cX2_search 0 = .ok (.aload_n 0, 1)) ∧ (decode cX2_search 1 = .ok (.iload_n 1, 1)) ∧ (decode cX2_search 2 = .ok (.putfield 42, 3)) ∧ (decode cX2_search 5 = .ok (.aload_n 0, 1)) ∧ (decode cX2_search 6 = .ok (.iload_n 2, 1)) ∧ (decode cX2_search 7 = .ok (.putfield 45, 3)) ∧ (decode cX2_search 10 = .ok (.aload_n 0, 1)) ∧ (decode cX2_search 11 = .ok (.sipush 600, 3)) ∧ (decode cX2_search 14 = .ok (.putfield 48, 3)) ∧ (decode cX2_search 17 = .ok (.iconst 0, 1)) := by decide +kernel
theorem dX2_search_0 : decode cX2_search 0 = .ok (.aload_n 0, 1) := q9_dX2_search_0.1
theorem dX2_search_1 : decode cX2_search 1 = .ok (.iload_n 1, 1) := q9_dX2_search_0.2.1
theorem dX2_search_2 : decode cX2_search 2 = .ok (.putfield 42, 3) := q9_dX2_search_0.2.2.1
theorem dX2_search_5 : decode cX2_search 5 = .ok (.aload_n 0, 1) := q9_dX2_search_0.2.2.2.1
theorem dX2_search_6 : decode cX2_search 6 = .ok (.iload_n 2, 1) := q9_dX2_search_0.2.2.2.2.1
theorem dX2_search_7 : decode cX2_search 7 = .ok (.putfield 45, 3) := q9_dX2_search_0.2.2.2.2.2.1
theorem dX2_search_10 : decode cX2_search 10 = .ok (.aload_n 0, 1) := q9_dX2_search_0.2.2.2.2.2.2.1
theorem dX2_search_11 : decode cX2_search 11 = .ok (.sipush 600, 3) := q9_dX2_search_0.2.2.2.2.2.2.2.1
theorem dX2_search_14 : decode cX2_search 14 = .ok (.putfield 48, 3) := q9_dX2_search_0.2.2.2.2.2.2.2.2.1
theorem dX2_search_17 : decode cX2_search 17 = .ok (.iconst 0, 1) := q9_dX2_search_0.2.2.2.2.2.2.2.2.2
theorem q9_dX2_search_18 : (decode cX2_search 18 = .ok (.istore_n 3, 1)) ∧ (decode cX2_search 19 = .ok (.iconst 5, 1)) ∧ (decode cX2_search 20 = .ok (.istore 4, 2)) ∧ (decode cX2_search 22 = .ok (.iload 4, 2)) ∧ (decode cX2_search 24 = .ok (.ifCond .lt 39, 3)) ∧ (decode cX2_search 27 = .ok (.iload_n 3, 1)) ∧ (decode cX2_search 28 = .ok (.iload 4, 2)) ∧ (decode cX2_search 30 = .ok (.aload_n 0, 1)) ∧ (decode cX2_search 31 = .ok (.getfield 34, 3)) ∧ (decode cX2_search 34 = .ok (.if_icmp .ge 12, 3)) := by decide +kernel
theorem dX2_search_18 : decode cX2_search 18 = .ok (.istore_n 3, 1) := q9_dX2_search_18.1
theorem dX2_search_19 : decode cX2_search 19 = .ok (.iconst 5, 1) := q9_dX2_search_18.2.1
theorem dX2_search_20 : decode cX2_search 20 = .ok (.istore 4, 2) := q9_dX2_search_18.2.2.1
theorem dX2_search_22 : decode cX2_search 22 = .ok (.iload 4, 2) := q9_dX2_search_18.2.2.2.1
theorem dX2_search_24 : decode cX2_search 24 = .ok (.ifCond .lt 39, 3) := q9_dX2_search_18.2.2.2.2.1
theorem dX2_search_27 : decode cX2_search 27 = .ok (.iload_n 3, 1) := q9_dX2_search_18.2.2.2.2.2.1
theorem dX2_search_28 : decode cX2_search 28 = .ok (.iload 4, 2) := q9_dX2_search_18.2.2.2.2.2.2.1
theorem dX2_search_30 : decode cX2_search 30 = .ok (.aload_n 0, 1) := q9_dX2_search_18.2.2.2.2.2.2.2.1
theorem dX2_search_31 : decode cX2_search 31 = .ok (.getfield 34, 3) := q9_dX2_search_18.2.2.2.2.2.2.2.2.1
theorem dX2_search_34 : decode cX2_search 34 = .ok (.if_icmp .ge 12, 3) := q9_dX2_search_18.2.2.2.2.2.2.2.2.2
theorem q9_dX2_search_37 : (decode cX2_search 37 = .ok (.aload_n 0, 1)) ∧ (decode cX2_search 38 = .ok (.iload 4, 2)) ∧ (decode cX2_search 40 = .ok (.invokevirtual 51, 3)) ∧ (decode cX2_search 43 = .ok (.goto 4, 3)) ∧ (decode cX2_search 46 = .ok (.iconst 0, 1)) ∧ (decode cX2_search 47 = .ok (.iadd, 1)) ∧ (decode cX2_search 48 = .ok (.istore_n 3, 1)) ∧ (decode cX2_search 49 = .ok (.aload_n 0, 1)) ∧ (decode cX2_search 50 = .ok (.getfield 24, 3)) ∧ (decode cX2_search 53 = .ok (.iload 4, 2)) := by decide +kernel
theorem dX2_search_37 : decode cX2_search 37 = .ok (.aload_n 0, 1) := q9_dX2_search_37.1
theorem dX2_search_38 : decode cX2_search 38 = .ok (.iload 4, 2) := q9_dX2_search_37.2.1
theorem dX2_search_40 : decode cX2_search 40 = .ok (.invokevirtual 51, 3) := q9_dX2_search_37.2.2.1
theorem dX2_search_43 : decode cX2_search 43 = .ok (.goto 4, 3) := q9_dX2_search_37.2.2.2.1
theorem dX2_search_46 : decode cX2_search 46 = .ok (.iconst 0, 1) := q9_dX2_search_37.2.2.2.2.1
theorem dX2_search_47 : decode cX2_search 47 = .ok (.iadd, 1) := q9_dX2_search_37.2.2.2.2.2.1
theorem dX2_search_48 : decode cX2_search 48 = .ok (.istore_n 3, 1) := q9_dX2_search_37.2.2.2.2.2.2.1
theorem dX2_search_49 : decode cX2_search 49 = .ok (.aload_n 0, 1) := q9_dX2_search_37.2.2.2.2.2.2.2.1
theorem dX2_search_50 : decode cX2_search 50 = .ok (.getfield 24, 3) := q9_dX2_search_37.2.2.2.2.2.2.2.2.1
theorem dX2_search_53 : decode cX2_search 53 = .ok (.iload 4, 2) := q9_dX2_search_37.2.2.2.2.2.2.2.2.2
theorem q9_dX2_search_55 : (decode cX2_search 55 = .ok (.iload_n 3, 1)) ∧ (decode cX2_search 56 = .ok (.iastore, 1)) ∧ (decode cX2_search 57 = .ok (.iinc 4 (-1), 3)) ∧ (decode cX2_search 60 = .ok (.goto (-38), 3)) ∧ (decode cX2_search 63 = .ok (.aload_n 0, 1)) ∧ (decode cX2_search 64 = .ok (.iconst 0, 1)) ∧ (decode cX2_search 65 = .ok (.iconst 0, 1)) ∧ (decode cX2_search 66 = .ok (.invokestatic 55, 3)) ∧ (decode cX2_search 69 = .ok (.return_, 1)) := by decide +kernel
theorem dX2_search_55 : decode cX2_search 55 = .ok (.iload_n 3, 1) := q9_dX2_search_55.1
theorem dX2_search_56 : decode cX2_search 56 = .ok (.iastore, 1) := q9_dX2_search_55.2.1
theorem dX2_search_57 : decode cX2_search 57 = .ok (.iinc 4 (-1), 3) := q9_dX2_search_55.2.2.1
theorem dX2_search_60 : decode cX2_search 60 = .ok (.goto (-38), 3) := q9_dX2_search_55.2.2.2.1
theorem dX2_search_63 : decode cX2_search 63 = .ok (.aload_n 0, 1) := q9_dX2_search_55.2.2.2.2.1
theorem dX2_search_64 : decode cX2_search 64 = .ok (.iconst 0, 1) := q9_dX2_search_55.2.2.2.2.2.1
theorem dX2_search_65 : decode cX2_search 65 = .ok (.iconst 0, 1) := q9_dX2_search_55.2.2.2.2.2.2.1
theorem dX2_search_66 : decode cX2_search 66 = .ok (.invokestatic 55, 3) := q9_dX2_search_55.2.2.2.2.2.2.2.1
theorem dX2_search_69 : decode cX2_search 69 = .ok (.return_, 1) := q9_dX2_search_55.2.2.2.2.2.2.2.2
set_option maxRecDepth 20000 in
theorem ggX2_carryOut_X2_hourOf : GoodIn wsX2_carryOut wsX2_hourOf := goodIn_r _ [10, 2, 11, 12, 13, 14, 15, 16, 9, 17, 38, 39, 40, 41, 42, 43, 44, 45, 46, 47, 48, 49, 50, 51, 52, 53, 54, 55, 56, 57] rfl (by decide +kernel)
set_option maxRecDepth 20000 in
theorem gX2_carryOut_X2_hourOf : GoodIn wsX2_carryOut (wsV RX2 62 RX2 yX2_hourOf wsX2_hourOf) := goodIn_app (goodIn_of _ (by decide +kernel)) ggX2_carryOut_X2_hourOf
set_option maxRecDepth 20000 in
theorem ggX2_carryOut_X2_iceOfWay : GoodIn wsX2_carryOut wsX2_iceOfWay := goodIn_r _ [21, 22, 23, 38, 39, 40, 41, 42, 43, 44, 45, 46, 47] rfl (by decide +kernel)
set_option maxRecDepth 20000 in
theorem gX2_carryOut_X2_iceOfWay : GoodIn wsX2_carryOut (wsV RX2 66 RX2 yX2_iceOfWay wsX2_iceOfWay) := goodIn_app (goodIn_of _ (by decide +kernel)) ggX2_carryOut_X2_iceOfWay
set_option maxRecDepth 20000 in
theorem ggX2_carryOut_X0_put : GoodIn wsX2_carryOut wsX0_put := goodIn_r _ [28, 29, 68] rfl (by decide +kernel)
set_option maxRecDepth 20000 in
theorem gX2_carryOut_X0_put : GoodIn wsX2_carryOut (wsV RX2 76 RX0 yX0_put wsX0_put) := goodIn_app (goodIn_of _ (by decide +kernel)) ggX2_carryOut_X0_put
set_option maxRecDepth 20000 in
theorem ggX2_carryOut_X6_moveTo : GoodIn wsX2_carryOut wsX6_moveTo := goodIn_r _ [34, 35, 36, 37, 48, 49, 50, 51, 52, 53, 54, 55, 56, 57] rfl (by decide +kernel)
set_option maxRecDepth 20000 in
theorem gX2_carryOut_X6_moveTo : GoodIn wsX2_carryOut (wsV RX2 82 RX6 yX6_moveTo wsX6_moveTo) := goodIn_app (goodIn_of _ (by decide +kernel)) ggX2_carryOut_X6_moveTo
theorem q9_dX2_carryOut_0 : (decode cX2_carryOut 0 = .ok (.iconst 0, 1)) ∧ (decode cX2_carryOut 1 = .ok (.istore_n 1, 1)) ∧ (decode cX2_carryOut 2 = .ok (.iconst 0, 1)) ∧ (decode cX2_carryOut 3 = .ok (.istore_n 2, 1)) ∧ (decode cX2_carryOut 4 = .ok (.iload_n 2, 1)) ∧ (decode cX2_carryOut 5 = .ok (.aload_n 0, 1)) ∧ (decode cX2_carryOut 6 = .ok (.getfield 34, 3)) ∧ (decode cX2_carryOut 9 = .ok (.if_icmp .ge 96, 3)) ∧ (decode cX2_carryOut 12 = .ok (.iload_n 2, 1)) ∧ (decode cX2_carryOut 13 = .ok (.iconst 5, 1)) := by decide +kernel
theorem dX2_carryOut_0 : decode cX2_carryOut 0 = .ok (.iconst 0, 1) := q9_dX2_carryOut_0.1
theorem dX2_carryOut_1 : decode cX2_carryOut 1 = .ok (.istore_n 1, 1) := q9_dX2_carryOut_0.2.1
theorem dX2_carryOut_2 : decode cX2_carryOut 2 = .ok (.iconst 0, 1) := q9_dX2_carryOut_0.2.2.1
theorem dX2_carryOut_3 : decode cX2_carryOut 3 = .ok (.istore_n 2, 1) := q9_dX2_carryOut_0.2.2.2.1
theorem dX2_carryOut_4 : decode cX2_carryOut 4 = .ok (.iload_n 2, 1) := q9_dX2_carryOut_0.2.2.2.2.1
theorem dX2_carryOut_5 : decode cX2_carryOut 5 = .ok (.aload_n 0, 1) := q9_dX2_carryOut_0.2.2.2.2.2.1
theorem dX2_carryOut_6 : decode cX2_carryOut 6 = .ok (.getfield 34, 3) := q9_dX2_carryOut_0.2.2.2.2.2.2.1
theorem dX2_carryOut_9 : decode cX2_carryOut 9 = .ok (.if_icmp .ge 96, 3) := q9_dX2_carryOut_0.2.2.2.2.2.2.2.1
theorem dX2_carryOut_12 : decode cX2_carryOut 12 = .ok (.iload_n 2, 1) := q9_dX2_carryOut_0.2.2.2.2.2.2.2.2.1
theorem dX2_carryOut_13 : decode cX2_carryOut 13 = .ok (.iconst 5, 1) := q9_dX2_carryOut_0.2.2.2.2.2.2.2.2.2
theorem q9_dX2_carryOut_14 : (decode cX2_carryOut 14 = .ok (.if_icmp .ge 91, 3)) ∧ (decode cX2_carryOut 17 = .ok (.aload_n 0, 1)) ∧ (decode cX2_carryOut 18 = .ok (.getfield 11, 3)) ∧ (decode cX2_carryOut 21 = .ok (.iload_n 2, 1)) ∧ (decode cX2_carryOut 22 = .ok (.aaload, 1)) ∧ (decode cX2_carryOut 23 = .ok (.astore_n 3, 1)) ∧ (decode cX2_carryOut 24 = .ok (.aload_n 3, 1)) ∧ (decode cX2_carryOut 25 = .ok (.ifnull 25, 3)) ∧ (decode cX2_carryOut 28 = .ok (.aload_n 0, 1)) ∧ (decode cX2_carryOut 29 = .ok (.getfield 21, 3)) := by decide +kernel
theorem dX2_carryOut_14 : decode cX2_carryOut 14 = .ok (.if_icmp .ge 91, 3) := q9_dX2_carryOut_14.1
theorem dX2_carryOut_17 : decode cX2_carryOut 17 = .ok (.aload_n 0, 1) := q9_dX2_carryOut_14.2.1
theorem dX2_carryOut_18 : decode cX2_carryOut 18 = .ok (.getfield 11, 3) := q9_dX2_carryOut_14.2.2.1
theorem dX2_carryOut_21 : decode cX2_carryOut 21 = .ok (.iload_n 2, 1) := q9_dX2_carryOut_14.2.2.2.1
theorem dX2_carryOut_22 : decode cX2_carryOut 22 = .ok (.aaload, 1) := q9_dX2_carryOut_14.2.2.2.2.1
theorem dX2_carryOut_23 : decode cX2_carryOut 23 = .ok (.astore_n 3, 1) := q9_dX2_carryOut_14.2.2.2.2.2.1
theorem dX2_carryOut_24 : decode cX2_carryOut 24 = .ok (.aload_n 3, 1) := q9_dX2_carryOut_14.2.2.2.2.2.2.1
theorem dX2_carryOut_25 : decode cX2_carryOut 25 = .ok (.ifnull 25, 3) := q9_dX2_carryOut_14.2.2.2.2.2.2.2.1
theorem dX2_carryOut_28 : decode cX2_carryOut 28 = .ok (.aload_n 0, 1) := q9_dX2_carryOut_14.2.2.2.2.2.2.2.2.1
theorem dX2_carryOut_29 : decode cX2_carryOut 29 = .ok (.getfield 21, 3) := q9_dX2_carryOut_14.2.2.2.2.2.2.2.2.2
theorem q9_dX2_carryOut_32 : (decode cX2_carryOut 32 = .ok (.iload_n 2, 1)) ∧ (decode cX2_carryOut 33 = .ok (.iaload, 1)) ∧ (decode cX2_carryOut 34 = .ok (.bipush 14, 2)) ∧ (decode cX2_carryOut 36 = .ok (.if_icmp .ne 14, 3)) ∧ (decode cX2_carryOut 39 = .ok (.aload_n 3, 1)) ∧ (decode cX2_carryOut 40 = .ok (.iconst 4, 1)) ∧ (decode cX2_carryOut 41 = .ok (.putfield 59, 3)) ∧ (decode cX2_carryOut 44 = .ok (.iinc 1 1, 3)) ∧ (decode cX2_carryOut 47 = .ok (.goto 52, 3)) ∧ (decode cX2_carryOut 50 = .ok (.aload_n 3, 1)) := by decide +kernel
theorem dX2_carryOut_32 : decode cX2_carryOut 32 = .ok (.iload_n 2, 1) := q9_dX2_carryOut_32.1
theorem dX2_carryOut_33 : decode cX2_carryOut 33 = .ok (.iaload, 1) := q9_dX2_carryOut_32.2.1
theorem dX2_carryOut_34 : decode cX2_carryOut 34 = .ok (.bipush 14, 2) := q9_dX2_carryOut_32.2.2.1
theorem dX2_carryOut_36 : decode cX2_carryOut 36 = .ok (.if_icmp .ne 14, 3) := q9_dX2_carryOut_32.2.2.2.1
theorem dX2_carryOut_39 : decode cX2_carryOut 39 = .ok (.aload_n 3, 1) := q9_dX2_carryOut_32.2.2.2.2.1
theorem dX2_carryOut_40 : decode cX2_carryOut 40 = .ok (.iconst 4, 1) := q9_dX2_carryOut_32.2.2.2.2.2.1
theorem dX2_carryOut_41 : decode cX2_carryOut 41 = .ok (.putfield 59, 3) := q9_dX2_carryOut_32.2.2.2.2.2.2.1
theorem dX2_carryOut_44 : decode cX2_carryOut 44 = .ok (.iinc 1 1, 3) := q9_dX2_carryOut_32.2.2.2.2.2.2.2.1
theorem dX2_carryOut_47 : decode cX2_carryOut 47 = .ok (.goto 52, 3) := q9_dX2_carryOut_32.2.2.2.2.2.2.2.2.1
theorem dX2_carryOut_50 : decode cX2_carryOut 50 = .ok (.aload_n 3, 1) := q9_dX2_carryOut_32.2.2.2.2.2.2.2.2.2
theorem q9_dX2_carryOut_51 : (decode cX2_carryOut 51 = .ok (.ifnull 48, 3)) ∧ (decode cX2_carryOut 54 = .ok (.aload_n 0, 1)) ∧ (decode cX2_carryOut 55 = .ok (.iload_n 2, 1)) ∧ (decode cX2_carryOut 56 = .ok (.aload_n 0, 1)) ∧ (decode cX2_carryOut 57 = .ok (.getfield 21, 3)) ∧ (decode cX2_carryOut 60 = .ok (.iload_n 2, 1)) ∧ (decode cX2_carryOut 61 = .ok (.iaload, 1)) ∧ (decode cX2_carryOut 62 = .ok (.invokevirtual 62, 3)) ∧ (decode cX2_carryOut 65 = .ok (.istore 4, 2)) ∧ (decode cX2_carryOut 67 = .ok (.aload_n 0, 1)) := by decide +kernel
theorem dX2_carryOut_51 : decode cX2_carryOut 51 = .ok (.ifnull 48, 3) := q9_dX2_carryOut_51.1
theorem dX2_carryOut_54 : decode cX2_carryOut 54 = .ok (.aload_n 0, 1) := q9_dX2_carryOut_51.2.1
theorem dX2_carryOut_55 : decode cX2_carryOut 55 = .ok (.iload_n 2, 1) := q9_dX2_carryOut_51.2.2.1
theorem dX2_carryOut_56 : decode cX2_carryOut 56 = .ok (.aload_n 0, 1) := q9_dX2_carryOut_51.2.2.2.1
theorem dX2_carryOut_57 : decode cX2_carryOut 57 = .ok (.getfield 21, 3) := q9_dX2_carryOut_51.2.2.2.2.1
theorem dX2_carryOut_60 : decode cX2_carryOut 60 = .ok (.iload_n 2, 1) := q9_dX2_carryOut_51.2.2.2.2.2.1
theorem dX2_carryOut_61 : decode cX2_carryOut 61 = .ok (.iaload, 1) := q9_dX2_carryOut_51.2.2.2.2.2.2.1
theorem dX2_carryOut_62 : decode cX2_carryOut 62 = .ok (.invokevirtual 62, 3) := q9_dX2_carryOut_51.2.2.2.2.2.2.2.1
theorem dX2_carryOut_65 : decode cX2_carryOut 65 = .ok (.istore 4, 2) := q9_dX2_carryOut_51.2.2.2.2.2.2.2.2.1
theorem dX2_carryOut_67 : decode cX2_carryOut 67 = .ok (.aload_n 0, 1) := q9_dX2_carryOut_51.2.2.2.2.2.2.2.2.2
theorem q9_dX2_carryOut_68 : (decode cX2_carryOut 68 = .ok (.aload_n 0, 1)) ∧ (decode cX2_carryOut 69 = .ok (.getfield 21, 3)) ∧ (decode cX2_carryOut 72 = .ok (.iload_n 2, 1)) ∧ (decode cX2_carryOut 73 = .ok (.iaload, 1)) ∧ (decode cX2_carryOut 74 = .ok (.invokevirtual 66, 3)) ∧ (decode cX2_carryOut 77 = .ok (.getfield 70, 3)) ∧ (decode cX2_carryOut 80 = .ok (.iload 4, 2)) ∧ (decode cX2_carryOut 82 = .ok (.invokevirtual 76, 3)) ∧ (decode cX2_carryOut 85 = .ok (.aload_n 3, 1)) ∧ (decode cX2_carryOut 86 = .ok (.aload_n 0, 1)) := by decide +kernel
theorem dX2_carryOut_68 : decode cX2_carryOut 68 = .ok (.aload_n 0, 1) := q9_dX2_carryOut_68.1
theorem dX2_carryOut_69 : decode cX2_carryOut 69 = .ok (.getfield 21, 3) := q9_dX2_carryOut_68.2.1
theorem dX2_carryOut_72 : decode cX2_carryOut 72 = .ok (.iload_n 2, 1) := q9_dX2_carryOut_68.2.2.1
theorem dX2_carryOut_73 : decode cX2_carryOut 73 = .ok (.iaload, 1) := q9_dX2_carryOut_68.2.2.2.1
theorem dX2_carryOut_74 : decode cX2_carryOut 74 = .ok (.invokevirtual 66, 3) := q9_dX2_carryOut_68.2.2.2.2.1
theorem dX2_carryOut_77 : decode cX2_carryOut 77 = .ok (.getfield 70, 3) := q9_dX2_carryOut_68.2.2.2.2.2.1
theorem dX2_carryOut_80 : decode cX2_carryOut 80 = .ok (.iload 4, 2) := q9_dX2_carryOut_68.2.2.2.2.2.2.1
theorem dX2_carryOut_82 : decode cX2_carryOut 82 = .ok (.invokevirtual 76, 3) := q9_dX2_carryOut_68.2.2.2.2.2.2.2.1
theorem dX2_carryOut_85 : decode cX2_carryOut 85 = .ok (.aload_n 3, 1) := q9_dX2_carryOut_68.2.2.2.2.2.2.2.2.1
theorem dX2_carryOut_86 : decode cX2_carryOut 86 = .ok (.aload_n 0, 1) := q9_dX2_carryOut_68.2.2.2.2.2.2.2.2.2
theorem q9_dX2_carryOut_87 : (decode cX2_carryOut 87 = .ok (.getfield 21, 3)) ∧ (decode cX2_carryOut 90 = .ok (.iload_n 2, 1)) ∧ (decode cX2_carryOut 91 = .ok (.iaload, 1)) ∧ (decode cX2_carryOut 92 = .ok (.iconst 2, 1)) ∧ (decode cX2_carryOut 93 = .ok (.irem, 1)) ∧ (decode cX2_carryOut 94 = .ok (.iload 4, 2)) ∧ (decode cX2_carryOut 96 = .ok (.invokevirtual 82, 3)) ∧ (decode cX2_carryOut 99 = .ok (.iinc 2 1, 3)) ∧ (decode cX2_carryOut 102 = .ok (.goto (-98), 3)) ∧ (decode cX2_carryOut 105 = .ok (.iload_n 1, 1)) := by decide +kernel
theorem dX2_carryOut_87 : decode cX2_carryOut 87 = .ok (.getfield 21, 3) := q9_dX2_carryOut_87.1
theorem dX2_carryOut_90 : decode cX2_carryOut 90 = .ok (.iload_n 2, 1) := q9_dX2_carryOut_87.2.1
theorem dX2_carryOut_91 : decode cX2_carryOut 91 = .ok (.iaload, 1) := q9_dX2_carryOut_87.2.2.1
theorem dX2_carryOut_92 : decode cX2_carryOut 92 = .ok (.iconst 2, 1) := q9_dX2_carryOut_87.2.2.2.1
theorem dX2_carryOut_93 : decode cX2_carryOut 93 = .ok (.irem, 1) := q9_dX2_carryOut_87.2.2.2.2.1
theorem dX2_carryOut_94 : decode cX2_carryOut 94 = .ok (.iload 4, 2) := q9_dX2_carryOut_87.2.2.2.2.2.1
theorem dX2_carryOut_96 : decode cX2_carryOut 96 = .ok (.invokevirtual 82, 3) := q9_dX2_carryOut_87.2.2.2.2.2.2.1
theorem dX2_carryOut_99 : decode cX2_carryOut 99 = .ok (.iinc 2 1, 3) := q9_dX2_carryOut_87.2.2.2.2.2.2.2.1
theorem dX2_carryOut_102 : decode cX2_carryOut 102 = .ok (.goto (-98), 3) := q9_dX2_carryOut_87.2.2.2.2.2.2.2.2.1
theorem dX2_carryOut_105 : decode cX2_carryOut 105 = .ok (.iload_n 1, 1) := q9_dX2_carryOut_87.2.2.2.2.2.2.2.2.2
theorem dX2_carryOut_106 : decode cX2_carryOut 106 = .ok (.ireturn, 1) := by decide +kernel
set_option maxRecDepth 20000 in
theorem ggX2_searchFrom_X2_keepBest : GoodIn wsX2_searchFrom wsX2_keepBest := goodIn_r _ [10, 3, 4, 11, 12, 13, 14, 15, 75, 76, 77, 78, 79, 80, 81, 82, 83, 84] rfl (by decide +kernel)
set_option maxRecDepth 20000 in
theorem gX2_searchFrom_X2_keepBest : GoodIn wsX2_searchFrom (wsV RX2 86 RX2 yX2_keepBest wsX2_keepBest) := goodIn_app (goodIn_of _ (by decide +kernel)) ggX2_searchFrom_X2_keepBest
set_option maxRecDepth 20000 in
theorem ggX2_searchFrom_X2_costOf : GoodIn wsX2_searchFrom wsX2_costOf := goodIn_r _ [18, 19, 20, 21, 22, 23, 24, 9, 25, 26, 27, 28] rfl (by decide +kernel)
set_option maxRecDepth 20000 in
theorem gX2_searchFrom_X2_costOf : GoodIn wsX2_searchFrom (va_wsS RX2 89 yX2_costOf wsX2_costOf) := goodIn_app (goodIn_of _ (by decide +kernel)) ggX2_searchFrom_X2_costOf
set_option maxRecDepth 20000 in
theorem ggX2_searchFrom_X2_searchFrom : GoodIn wsX2_searchFrom wsX2_searchFrom := goodIn_r _ [0, 1, 2, 3, 4, 5, 6, 7, 8, 9, 10, 11, 12, 13, 14, 15, 16, 17, 18, 19, 20, 21, 22, 23, 24, 25, 26, 27, 28, 29, 30, 31, 32, 33, 34, 35, 36, 37, 38, 39, 40, 41, 42, 43, 44, 45, 46, 47, 48, 49, 50, 51, 52, 53, 54, 55, 56, 57, 58, 59, 60, 61, 62, 63, 64, 65, 66, 67, 68, 69, 70, 71, 72, 73, 74, 75, 76, 77, 78, 79, 80, 81, 82, 83, 84, 85, 86, 87, 88, 89, 90, 91, 92, 93, 94, 95, 96, 97, 98, 99, 100, 101, 102, 103, 104, 105] rfl (by decide +kernel)
set_option maxRecDepth 20000 in
theorem gX2_searchFrom_X2_searchFrom : GoodIn wsX2_searchFrom (va_wsS RX2 55 yX2_searchFrom wsX2_searchFrom) := goodIn_app (goodIn_of _ (by decide +kernel)) ggX2_searchFrom_X2_searchFrom
set_option maxRecDepth 20000 in
theorem ggX2_searchFrom_X2_canGo : GoodIn wsX2_searchFrom wsX2_canGo := goodIn_r _ [34, 35, 36, 37, 38, 39, 9, 40, 41, 42, 26, 27, 28, 23, 24, 25, 43, 44, 45, 46, 47, 48, 49, 50, 51, 52, 53, 54, 55, 56, 57, 58, 59, 60, 61, 62, 63, 64, 65, 75, 76, 77, 78, 79, 80, 81, 82, 83, 84, 95, 96, 97, 98, 99, 100, 101, 102, 103, 104, 85, 86, 87, 88, 89, 90, 91, 92, 93, 94, 105] rfl (by decide +kernel)
set_option maxRecDepth 20000 in
theorem gX2_searchFrom_X2_canGo : GoodIn wsX2_searchFrom (wsV RX2 92 RX2 yX2_canGo wsX2_canGo) := goodIn_app (goodIn_of _ (by decide +kernel)) ggX2_searchFrom_X2_canGo
set_option maxRecDepth 20000 in
theorem ggX2_searchFrom_X2_iceOfWay : GoodIn wsX2_searchFrom wsX2_iceOfWay := goodIn_r _ [46, 47, 48, 75, 76, 77, 78, 79, 80, 81, 82, 83, 84] rfl (by decide +kernel)
set_option maxRecDepth 20000 in
theorem gX2_searchFrom_X2_iceOfWay : GoodIn wsX2_searchFrom (wsV RX2 66 RX2 yX2_iceOfWay wsX2_iceOfWay) := goodIn_app (goodIn_of _ (by decide +kernel)) ggX2_searchFrom_X2_iceOfWay
set_option maxRecDepth 20000 in
theorem ggX2_searchFrom_X2_hourOf : GoodIn wsX2_searchFrom wsX2_hourOf := goodIn_r _ [40, 41, 42, 26, 27, 28, 23, 24, 9, 25, 75, 76, 77, 78, 79, 80, 81, 82, 83, 84, 95, 96, 97, 98, 99, 100, 101, 102, 103, 104] rfl (by decide +kernel)
set_option maxRecDepth 20000 in
theorem gX2_searchFrom_X2_hourOf : GoodIn wsX2_searchFrom (wsV RX2 62 RX2 yX2_hourOf wsX2_hourOf) := goodIn_app (goodIn_of _ (by decide +kernel)) ggX2_searchFrom_X2_hourOf
set_option maxRecDepth 20000 in
theorem ggX2_searchFrom_X0_put : GoodIn wsX2_searchFrom wsX0_put := goodIn_r _ [69, 61, 105] rfl (by decide +kernel)
set_option maxRecDepth 20000 in
theorem gX2_searchFrom_X0_put : GoodIn wsX2_searchFrom (wsV RX2 76 RX0 yX0_put wsX0_put) := goodIn_app (goodIn_of _ (by decide +kernel)) ggX2_searchFrom_X0_put
set_option maxRecDepth 20000 in
theorem ggX2_searchFrom_X0_drop : GoodIn wsX2_searchFrom wsX0_drop := goodIn_r _ [73, 61, 74, 105] rfl (by decide +kernel)
set_option maxRecDepth 20000 in
theorem gX2_searchFrom_X0_drop : GoodIn wsX2_searchFrom (wsV RX2 95 RX0 yX0_drop wsX0_drop) := goodIn_app (goodIn_of _ (by decide +kernel)) ggX2_searchFrom_X0_drop
theorem q9_dX2_searchFrom_0 : (decode cX2_searchFrom 0 = .ok (.iload_n 1, 1)) ∧ (decode cX2_searchFrom 1 = .ok (.aload_n 0, 1)) ∧ (decode cX2_searchFrom 2 = .ok (.getfield 34, 3)) ∧ (decode cX2_searchFrom 5 = .ok (.if_icmp .ge 8, 3)) ∧ (decode cX2_searchFrom 8 = .ok (.iload_n 1, 1)) ∧ (decode cX2_searchFrom 9 = .ok (.iconst 5, 1)) ∧ (decode cX2_searchFrom 10 = .ok (.if_icmp .lt 9, 3)) ∧ (decode cX2_searchFrom 13 = .ok (.aload_n 0, 1)) ∧ (decode cX2_searchFrom 14 = .ok (.iload_n 2, 1)) ∧ (decode cX2_searchFrom 15 = .ok (.invokevirtual 86, 3)) := by decide +kernel
theorem dX2_searchFrom_0 : decode cX2_searchFrom 0 = .ok (.iload_n 1, 1) := q9_dX2_searchFrom_0.1
theorem dX2_searchFrom_1 : decode cX2_searchFrom 1 = .ok (.aload_n 0, 1) := q9_dX2_searchFrom_0.2.1
theorem dX2_searchFrom_2 : decode cX2_searchFrom 2 = .ok (.getfield 34, 3) := q9_dX2_searchFrom_0.2.2.1
theorem dX2_searchFrom_5 : decode cX2_searchFrom 5 = .ok (.if_icmp .ge 8, 3) := q9_dX2_searchFrom_0.2.2.2.1
theorem dX2_searchFrom_8 : decode cX2_searchFrom 8 = .ok (.iload_n 1, 1) := q9_dX2_searchFrom_0.2.2.2.2.1
theorem dX2_searchFrom_9 : decode cX2_searchFrom 9 = .ok (.iconst 5, 1) := q9_dX2_searchFrom_0.2.2.2.2.2.1
theorem dX2_searchFrom_10 : decode cX2_searchFrom 10 = .ok (.if_icmp .lt 9, 3) := q9_dX2_searchFrom_0.2.2.2.2.2.2.1
theorem dX2_searchFrom_13 : decode cX2_searchFrom 13 = .ok (.aload_n 0, 1) := q9_dX2_searchFrom_0.2.2.2.2.2.2.2.1
theorem dX2_searchFrom_14 : decode cX2_searchFrom 14 = .ok (.iload_n 2, 1) := q9_dX2_searchFrom_0.2.2.2.2.2.2.2.2.1
theorem dX2_searchFrom_15 : decode cX2_searchFrom 15 = .ok (.invokevirtual 86, 3) := q9_dX2_searchFrom_0.2.2.2.2.2.2.2.2.2
theorem q9_dX2_searchFrom_18 : (decode cX2_searchFrom 18 = .ok (.return_, 1)) ∧ (decode cX2_searchFrom 19 = .ok (.iconst 0, 1)) ∧ (decode cX2_searchFrom 20 = .ok (.istore_n 3, 1)) ∧ (decode cX2_searchFrom 21 = .ok (.iload_n 3, 1)) ∧ (decode cX2_searchFrom 22 = .ok (.bipush 14, 2)) ∧ (decode cX2_searchFrom 24 = .ok (.if_icmp .gt 111, 3)) ∧ (decode cX2_searchFrom 27 = .ok (.iload_n 2, 1)) ∧ (decode cX2_searchFrom 28 = .ok (.iload_n 3, 1)) ∧ (decode cX2_searchFrom 29 = .ok (.invokestatic 89, 3)) ∧ (decode cX2_searchFrom 32 = .ok (.iadd, 1)) := by decide +kernel
theorem dX2_searchFrom_18 : decode cX2_searchFrom 18 = .ok (.return_, 1) := q9_dX2_searchFrom_18.1
theorem dX2_searchFrom_19 : decode cX2_searchFrom 19 = .ok (.iconst 0, 1) := q9_dX2_searchFrom_18.2.1
theorem dX2_searchFrom_20 : decode cX2_searchFrom 20 = .ok (.istore_n 3, 1) := q9_dX2_searchFrom_18.2.2.1
theorem dX2_searchFrom_21 : decode cX2_searchFrom 21 = .ok (.iload_n 3, 1) := q9_dX2_searchFrom_18.2.2.2.1
theorem dX2_searchFrom_22 : decode cX2_searchFrom 22 = .ok (.bipush 14, 2) := q9_dX2_searchFrom_18.2.2.2.2.1
theorem dX2_searchFrom_24 : decode cX2_searchFrom 24 = .ok (.if_icmp .gt 111, 3) := q9_dX2_searchFrom_18.2.2.2.2.2.1
theorem dX2_searchFrom_27 : decode cX2_searchFrom 27 = .ok (.iload_n 2, 1) := q9_dX2_searchFrom_18.2.2.2.2.2.2.1
theorem dX2_searchFrom_28 : decode cX2_searchFrom 28 = .ok (.iload_n 3, 1) := q9_dX2_searchFrom_18.2.2.2.2.2.2.2.1
theorem dX2_searchFrom_29 : decode cX2_searchFrom 29 = .ok (.invokestatic 89, 3) := q9_dX2_searchFrom_18.2.2.2.2.2.2.2.2.1
theorem dX2_searchFrom_32 : decode cX2_searchFrom 32 = .ok (.iadd, 1) := q9_dX2_searchFrom_18.2.2.2.2.2.2.2.2.2
theorem q9_dX2_searchFrom_33 : (decode cX2_searchFrom 33 = .ok (.istore 4, 2)) ∧ (decode cX2_searchFrom 35 = .ok (.iload 4, 2)) ∧ (decode cX2_searchFrom 37 = .ok (.aload_n 0, 1)) ∧ (decode cX2_searchFrom 38 = .ok (.getfield 24, 3)) ∧ (decode cX2_searchFrom 41 = .ok (.iload_n 1, 1)) ∧ (decode cX2_searchFrom 42 = .ok (.iconst 1, 1)) ∧ (decode cX2_searchFrom 43 = .ok (.iadd, 1)) ∧ (decode cX2_searchFrom 44 = .ok (.iaload, 1)) ∧ (decode cX2_searchFrom 45 = .ok (.iadd, 1)) ∧ (decode cX2_searchFrom 46 = .ok (.aload_n 0, 1)) := by decide +kernel
theorem dX2_searchFrom_33 : decode cX2_searchFrom 33 = .ok (.istore 4, 2) := q9_dX2_searchFrom_33.1
theorem dX2_searchFrom_35 : decode cX2_searchFrom 35 = .ok (.iload 4, 2) := q9_dX2_searchFrom_33.2.1
theorem dX2_searchFrom_37 : decode cX2_searchFrom 37 = .ok (.aload_n 0, 1) := q9_dX2_searchFrom_33.2.2.1
theorem dX2_searchFrom_38 : decode cX2_searchFrom 38 = .ok (.getfield 24, 3) := q9_dX2_searchFrom_33.2.2.2.1
theorem dX2_searchFrom_41 : decode cX2_searchFrom 41 = .ok (.iload_n 1, 1) := q9_dX2_searchFrom_33.2.2.2.2.1
theorem dX2_searchFrom_42 : decode cX2_searchFrom 42 = .ok (.iconst 1, 1) := q9_dX2_searchFrom_33.2.2.2.2.2.1
theorem dX2_searchFrom_43 : decode cX2_searchFrom 43 = .ok (.iadd, 1) := q9_dX2_searchFrom_33.2.2.2.2.2.2.1
theorem dX2_searchFrom_44 : decode cX2_searchFrom 44 = .ok (.iaload, 1) := q9_dX2_searchFrom_33.2.2.2.2.2.2.2.1
theorem dX2_searchFrom_45 : decode cX2_searchFrom 45 = .ok (.iadd, 1) := q9_dX2_searchFrom_33.2.2.2.2.2.2.2.2.1
theorem dX2_searchFrom_46 : decode cX2_searchFrom 46 = .ok (.aload_n 0, 1) := q9_dX2_searchFrom_33.2.2.2.2.2.2.2.2.2
theorem q9_dX2_searchFrom_47 : (decode cX2_searchFrom 47 = .ok (.getfield 48, 3)) ∧ (decode cX2_searchFrom 50 = .ok (.if_icmp .lt 4, 3)) ∧ (decode cX2_searchFrom 53 = .ok (.return_, 1)) ∧ (decode cX2_searchFrom 54 = .ok (.aload_n 0, 1)) ∧ (decode cX2_searchFrom 55 = .ok (.getfield 17, 3)) ∧ (decode cX2_searchFrom 58 = .ok (.iload_n 1, 1)) ∧ (decode cX2_searchFrom 59 = .ok (.iload_n 3, 1)) ∧ (decode cX2_searchFrom 60 = .ok (.iastore, 1)) ∧ (decode cX2_searchFrom 61 = .ok (.iload_n 3, 1)) ∧ (decode cX2_searchFrom 62 = .ok (.bipush 14, 2)) := by decide +kernel
theorem dX2_searchFrom_47 : decode cX2_searchFrom 47 = .ok (.getfield 48, 3) := q9_dX2_searchFrom_47.1
theorem dX2_searchFrom_50 : decode cX2_searchFrom 50 = .ok (.if_icmp .lt 4, 3) := q9_dX2_searchFrom_47.2.1
theorem dX2_searchFrom_53 : decode cX2_searchFrom 53 = .ok (.return_, 1) := q9_dX2_searchFrom_47.2.2.1
theorem dX2_searchFrom_54 : decode cX2_searchFrom 54 = .ok (.aload_n 0, 1) := q9_dX2_searchFrom_47.2.2.2.1
theorem dX2_searchFrom_55 : decode cX2_searchFrom 55 = .ok (.getfield 17, 3) := q9_dX2_searchFrom_47.2.2.2.2.1
theorem dX2_searchFrom_58 : decode cX2_searchFrom 58 = .ok (.iload_n 1, 1) := q9_dX2_searchFrom_47.2.2.2.2.2.1
theorem dX2_searchFrom_59 : decode cX2_searchFrom 59 = .ok (.iload_n 3, 1) := q9_dX2_searchFrom_47.2.2.2.2.2.2.1
theorem dX2_searchFrom_60 : decode cX2_searchFrom 60 = .ok (.iastore, 1) := q9_dX2_searchFrom_47.2.2.2.2.2.2.2.1
theorem dX2_searchFrom_61 : decode cX2_searchFrom 61 = .ok (.iload_n 3, 1) := q9_dX2_searchFrom_47.2.2.2.2.2.2.2.2.1
theorem dX2_searchFrom_62 : decode cX2_searchFrom 62 = .ok (.bipush 14, 2) := q9_dX2_searchFrom_47.2.2.2.2.2.2.2.2.2
theorem q9_dX2_searchFrom_64 : (decode cX2_searchFrom 64 = .ok (.if_icmp .ne 15, 3)) ∧ (decode cX2_searchFrom 67 = .ok (.aload_n 0, 1)) ∧ (decode cX2_searchFrom 68 = .ok (.iload_n 1, 1)) ∧ (decode cX2_searchFrom 69 = .ok (.iconst 1, 1)) ∧ (decode cX2_searchFrom 70 = .ok (.iadd, 1)) ∧ (decode cX2_searchFrom 71 = .ok (.iload 4, 2)) ∧ (decode cX2_searchFrom 73 = .ok (.invokestatic 55, 3)) ∧ (decode cX2_searchFrom 76 = .ok (.goto 53, 3)) ∧ (decode cX2_searchFrom 79 = .ok (.aload_n 0, 1)) ∧ (decode cX2_searchFrom 80 = .ok (.iload_n 1, 1)) := by decide +kernel
theorem dX2_searchFrom_64 : decode cX2_searchFrom 64 = .ok (.if_icmp .ne 15, 3) := q9_dX2_searchFrom_64.1
theorem dX2_searchFrom_67 : decode cX2_searchFrom 67 = .ok (.aload_n 0, 1) := q9_dX2_searchFrom_64.2.1
theorem dX2_searchFrom_68 : decode cX2_searchFrom 68 = .ok (.iload_n 1, 1) := q9_dX2_searchFrom_64.2.2.1
theorem dX2_searchFrom_69 : decode cX2_searchFrom 69 = .ok (.iconst 1, 1) := q9_dX2_searchFrom_64.2.2.2.1
theorem dX2_searchFrom_70 : decode cX2_searchFrom 70 = .ok (.iadd, 1) := q9_dX2_searchFrom_64.2.2.2.2.1
theorem dX2_searchFrom_71 : decode cX2_searchFrom 71 = .ok (.iload 4, 2) := q9_dX2_searchFrom_64.2.2.2.2.2.1
theorem dX2_searchFrom_73 : decode cX2_searchFrom 73 = .ok (.invokestatic 55, 3) := q9_dX2_searchFrom_64.2.2.2.2.2.2.1
theorem dX2_searchFrom_76 : decode cX2_searchFrom 76 = .ok (.goto 53, 3) := q9_dX2_searchFrom_64.2.2.2.2.2.2.2.1
theorem dX2_searchFrom_79 : decode cX2_searchFrom 79 = .ok (.aload_n 0, 1) := q9_dX2_searchFrom_64.2.2.2.2.2.2.2.2.1
theorem dX2_searchFrom_80 : decode cX2_searchFrom 80 = .ok (.iload_n 1, 1) := q9_dX2_searchFrom_64.2.2.2.2.2.2.2.2.2
theorem q9_dX2_searchFrom_81 : (decode cX2_searchFrom 81 = .ok (.iload_n 3, 1)) ∧ (decode cX2_searchFrom 82 = .ok (.invokevirtual 92, 3)) ∧ (decode cX2_searchFrom 85 = .ok (.ifCond .eq 44, 3)) ∧ (decode cX2_searchFrom 88 = .ok (.aload_n 0, 1)) ∧ (decode cX2_searchFrom 89 = .ok (.iload_n 3, 1)) ∧ (decode cX2_searchFrom 90 = .ok (.invokevirtual 66, 3)) ∧ (decode cX2_searchFrom 93 = .ok (.getfield 70, 3)) ∧ (decode cX2_searchFrom 96 = .ok (.astore 5, 2)) ∧ (decode cX2_searchFrom 98 = .ok (.aload_n 0, 1)) ∧ (decode cX2_searchFrom 99 = .ok (.iload_n 1, 1)) := by decide +kernel
theorem dX2_searchFrom_81 : decode cX2_searchFrom 81 = .ok (.iload_n 3, 1) := q9_dX2_searchFrom_81.1
theorem dX2_searchFrom_82 : decode cX2_searchFrom 82 = .ok (.invokevirtual 92, 3) := q9_dX2_searchFrom_81.2.1
theorem dX2_searchFrom_85 : decode cX2_searchFrom 85 = .ok (.ifCond .eq 44, 3) := q9_dX2_searchFrom_81.2.2.1
theorem dX2_searchFrom_88 : decode cX2_searchFrom 88 = .ok (.aload_n 0, 1) := q9_dX2_searchFrom_81.2.2.2.1
theorem dX2_searchFrom_89 : decode cX2_searchFrom 89 = .ok (.iload_n 3, 1) := q9_dX2_searchFrom_81.2.2.2.2.1
theorem dX2_searchFrom_90 : decode cX2_searchFrom 90 = .ok (.invokevirtual 66, 3) := q9_dX2_searchFrom_81.2.2.2.2.2.1
theorem dX2_searchFrom_93 : decode cX2_searchFrom 93 = .ok (.getfield 70, 3) := q9_dX2_searchFrom_81.2.2.2.2.2.2.1
theorem dX2_searchFrom_96 : decode cX2_searchFrom 96 = .ok (.astore 5, 2) := q9_dX2_searchFrom_81.2.2.2.2.2.2.2.1
theorem dX2_searchFrom_98 : decode cX2_searchFrom 98 = .ok (.aload_n 0, 1) := q9_dX2_searchFrom_81.2.2.2.2.2.2.2.2.1
theorem dX2_searchFrom_99 : decode cX2_searchFrom 99 = .ok (.iload_n 1, 1) := q9_dX2_searchFrom_81.2.2.2.2.2.2.2.2.2
theorem q9_dX2_searchFrom_100 : (decode cX2_searchFrom 100 = .ok (.iload_n 3, 1)) ∧ (decode cX2_searchFrom 101 = .ok (.invokevirtual 62, 3)) ∧ (decode cX2_searchFrom 104 = .ok (.istore 6, 2)) ∧ (decode cX2_searchFrom 106 = .ok (.aload 5, 2)) ∧ (decode cX2_searchFrom 108 = .ok (.iload 6, 2)) ∧ (decode cX2_searchFrom 110 = .ok (.invokevirtual 76, 3)) ∧ (decode cX2_searchFrom 113 = .ok (.aload_n 0, 1)) ∧ (decode cX2_searchFrom 114 = .ok (.iload_n 1, 1)) ∧ (decode cX2_searchFrom 115 = .ok (.iconst 1, 1)) ∧ (decode cX2_searchFrom 116 = .ok (.iadd, 1)) := by decide +kernel
theorem dX2_searchFrom_100 : decode cX2_searchFrom 100 = .ok (.iload_n 3, 1) := q9_dX2_searchFrom_100.1
theorem dX2_searchFrom_101 : decode cX2_searchFrom 101 = .ok (.invokevirtual 62, 3) := q9_dX2_searchFrom_100.2.1
theorem dX2_searchFrom_104 : decode cX2_searchFrom 104 = .ok (.istore 6, 2) := q9_dX2_searchFrom_100.2.2.1
theorem dX2_searchFrom_106 : decode cX2_searchFrom 106 = .ok (.aload 5, 2) := q9_dX2_searchFrom_100.2.2.2.1
theorem dX2_searchFrom_108 : decode cX2_searchFrom 108 = .ok (.iload 6, 2) := q9_dX2_searchFrom_100.2.2.2.2.1
theorem dX2_searchFrom_110 : decode cX2_searchFrom 110 = .ok (.invokevirtual 76, 3) := q9_dX2_searchFrom_100.2.2.2.2.2.1
theorem dX2_searchFrom_113 : decode cX2_searchFrom 113 = .ok (.aload_n 0, 1) := q9_dX2_searchFrom_100.2.2.2.2.2.2.1
theorem dX2_searchFrom_114 : decode cX2_searchFrom 114 = .ok (.iload_n 1, 1) := q9_dX2_searchFrom_100.2.2.2.2.2.2.2.1
theorem dX2_searchFrom_115 : decode cX2_searchFrom 115 = .ok (.iconst 1, 1) := q9_dX2_searchFrom_100.2.2.2.2.2.2.2.2.1
theorem dX2_searchFrom_116 : decode cX2_searchFrom 116 = .ok (.iadd, 1) := q9_dX2_searchFrom_100.2.2.2.2.2.2.2.2.2
theorem q9_dX2_searchFrom_117 : (decode cX2_searchFrom 117 = .ok (.iload 4, 2)) ∧ (decode cX2_searchFrom 119 = .ok (.invokestatic 55, 3)) ∧ (decode cX2_searchFrom 122 = .ok (.aload 5, 2)) ∧ (decode cX2_searchFrom 124 = .ok (.iload 6, 2)) ∧ (decode cX2_searchFrom 126 = .ok (.invokevirtual 95, 3)) ∧ (decode cX2_searchFrom 129 = .ok (.iinc 3 1, 3)) ∧ (decode cX2_searchFrom 132 = .ok (.goto (-111), 3)) ∧ (decode cX2_searchFrom 135 = .ok (.return_, 1)) ∧ (decode cX2_keepBest 0 = .ok (.iload_n 1, 1)) ∧ (decode cX2_keepBest 1 = .ok (.aload_n 0, 1)) := by decide +kernel
theorem dX2_searchFrom_117 : decode cX2_searchFrom 117 = .ok (.iload 4, 2) := q9_dX2_searchFrom_117.1
theorem dX2_searchFrom_119 : decode cX2_searchFrom 119 = .ok (.invokestatic 55, 3) := q9_dX2_searchFrom_117.2.1
theorem dX2_searchFrom_122 : decode cX2_searchFrom 122 = .ok (.aload 5, 2) := q9_dX2_searchFrom_117.2.2.1
theorem dX2_searchFrom_124 : decode cX2_searchFrom 124 = .ok (.iload 6, 2) := q9_dX2_searchFrom_117.2.2.2.1
theorem dX2_searchFrom_126 : decode cX2_searchFrom 126 = .ok (.invokevirtual 95, 3) := q9_dX2_searchFrom_117.2.2.2.2.1
theorem dX2_searchFrom_129 : decode cX2_searchFrom 129 = .ok (.iinc 3 1, 3) := q9_dX2_searchFrom_117.2.2.2.2.2.1
theorem dX2_searchFrom_132 : decode cX2_searchFrom 132 = .ok (.goto (-111), 3) := q9_dX2_searchFrom_117.2.2.2.2.2.2.1
theorem dX2_searchFrom_135 : decode cX2_searchFrom 135 = .ok (.return_, 1) := q9_dX2_searchFrom_117.2.2.2.2.2.2.2.1
theorem dX2_keepBest_0 : decode cX2_keepBest 0 = .ok (.iload_n 1, 1) := q9_dX2_searchFrom_117.2.2.2.2.2.2.2.2.1
theorem dX2_keepBest_1 : decode cX2_keepBest 1 = .ok (.aload_n 0, 1) := q9_dX2_searchFrom_117.2.2.2.2.2.2.2.2.2
theorem q9_dX2_keepBest_2 : (decode cX2_keepBest 2 = .ok (.getfield 48, 3)) ∧ (decode cX2_keepBest 5 = .ok (.if_icmp .ge 22, 3)) ∧ (decode cX2_keepBest 8 = .ok (.aload_n 0, 1)) ∧ (decode cX2_keepBest 9 = .ok (.iload_n 1, 1)) ∧ (decode cX2_keepBest 10 = .ok (.putfield 48, 3)) ∧ (decode cX2_keepBest 13 = .ok (.aload_n 0, 1)) ∧ (decode cX2_keepBest 14 = .ok (.getfield 17, 3)) ∧ (decode cX2_keepBest 17 = .ok (.iconst 0, 1)) ∧ (decode cX2_keepBest 18 = .ok (.aload_n 0, 1)) ∧ (decode cX2_keepBest 19 = .ok (.getfield 21, 3)) := by decide +kernel
theorem dX2_keepBest_2 : decode cX2_keepBest 2 = .ok (.getfield 48, 3) := q9_dX2_keepBest_2.1
theorem dX2_keepBest_5 : decode cX2_keepBest 5 = .ok (.if_icmp .ge 22, 3) := q9_dX2_keepBest_2.2.1
theorem dX2_keepBest_8 : decode cX2_keepBest 8 = .ok (.aload_n 0, 1) := q9_dX2_keepBest_2.2.2.1
theorem dX2_keepBest_9 : decode cX2_keepBest 9 = .ok (.iload_n 1, 1) := q9_dX2_keepBest_2.2.2.2.1
theorem dX2_keepBest_10 : decode cX2_keepBest 10 = .ok (.putfield 48, 3) := q9_dX2_keepBest_2.2.2.2.2.1
theorem dX2_keepBest_13 : decode cX2_keepBest 13 = .ok (.aload_n 0, 1) := q9_dX2_keepBest_2.2.2.2.2.2.1
theorem dX2_keepBest_14 : decode cX2_keepBest 14 = .ok (.getfield 17, 3) := q9_dX2_keepBest_2.2.2.2.2.2.2.1
theorem dX2_keepBest_17 : decode cX2_keepBest 17 = .ok (.iconst 0, 1) := q9_dX2_keepBest_2.2.2.2.2.2.2.2.1
theorem dX2_keepBest_18 : decode cX2_keepBest 18 = .ok (.aload_n 0, 1) := q9_dX2_keepBest_2.2.2.2.2.2.2.2.2.1
theorem dX2_keepBest_19 : decode cX2_keepBest 19 = .ok (.getfield 21, 3) := q9_dX2_keepBest_2.2.2.2.2.2.2.2.2.2
theorem q9_dX2_keepBest_22 : (decode cX2_keepBest 22 = .ok (.iconst 0, 1)) ∧ (decode cX2_keepBest 23 = .ok (.iconst 5, 1)) ∧ (decode cX2_keepBest 24 = .ok (.invokestatic 98, 3)) ∧ (decode cX2_keepBest 27 = .ok (.return_, 1)) := by decide +kernel
theorem dX2_keepBest_22 : decode cX2_keepBest 22 = .ok (.iconst 0, 1) := q9_dX2_keepBest_22.1
theorem dX2_keepBest_23 : decode cX2_keepBest 23 = .ok (.iconst 5, 1) := q9_dX2_keepBest_22.2.1
theorem dX2_keepBest_24 : decode cX2_keepBest 24 = .ok (.invokestatic 98, 3) := q9_dX2_keepBest_22.2.2.1
theorem dX2_keepBest_27 : decode cX2_keepBest 27 = .ok (.return_, 1) := q9_dX2_keepBest_22.2.2.2
set_option maxRecDepth 20000 in
theorem ggX2_leastAlone_X2_canGo : GoodIn wsX2_leastAlone wsX2_canGo := goodIn_r _ [5, 6, 7, 8, 9, 10, 4, 11, 12, 13, 14, 15, 16, 17, 18, 19, 20, 21, 22, 23, 24, 25, 26, 27, 28, 29, 30, 31, 32, 33, 34, 35, 36, 37, 38, 39, 40, 41, 42, 50, 51, 52, 53, 54, 55, 56, 57, 58, 59, 60, 61, 62, 63, 64, 65, 66, 67, 68, 69, 70, 71, 72, 73, 74, 75, 76, 77, 78, 79, 80] rfl (by decide +kernel)
set_option maxRecDepth 20000 in
theorem gX2_leastAlone_X2_canGo : GoodIn wsX2_leastAlone (wsV RX2 92 RX2 yX2_canGo wsX2_canGo) := goodIn_app (goodIn_of _ (by decide +kernel)) ggX2_leastAlone_X2_canGo
set_option maxRecDepth 20000 in
theorem ggX2_leastAlone_X2_costOf : GoodIn wsX2_leastAlone wsX2_costOf := goodIn_r _ [45, 46, 47, 48, 49, 17, 18, 4, 19, 14, 15, 16] rfl (by decide +kernel)
set_option maxRecDepth 20000 in
theorem gX2_leastAlone_X2_costOf : GoodIn wsX2_leastAlone (va_wsS RX2 89 yX2_costOf wsX2_costOf) := goodIn_app (goodIn_of _ (by decide +kernel)) ggX2_leastAlone_X2_costOf
theorem q9_dX2_leastAlone_0 : (decode cX2_leastAlone 0 = .ok (.iconst 0, 1)) ∧ (decode cX2_leastAlone 1 = .ok (.istore_n 2, 1)) ∧ (decode cX2_leastAlone 2 = .ok (.iload_n 2, 1)) ∧ (decode cX2_leastAlone 3 = .ok (.bipush 14, 2)) ∧ (decode cX2_leastAlone 5 = .ok (.if_icmp .ge 23, 3)) ∧ (decode cX2_leastAlone 8 = .ok (.aload_n 0, 1)) ∧ (decode cX2_leastAlone 9 = .ok (.iload_n 1, 1)) ∧ (decode cX2_leastAlone 10 = .ok (.iload_n 2, 1)) ∧ (decode cX2_leastAlone 11 = .ok (.invokevirtual 92, 3)) ∧ (decode cX2_leastAlone 14 = .ok (.ifCond .eq 8, 3)) := by decide +kernel
theorem dX2_leastAlone_0 : decode cX2_leastAlone 0 = .ok (.iconst 0, 1) := q9_dX2_leastAlone_0.1
theorem dX2_leastAlone_1 : decode cX2_leastAlone 1 = .ok (.istore_n 2, 1) := q9_dX2_leastAlone_0.2.1
theorem dX2_leastAlone_2 : decode cX2_leastAlone 2 = .ok (.iload_n 2, 1) := q9_dX2_leastAlone_0.2.2.1
theorem dX2_leastAlone_3 : decode cX2_leastAlone 3 = .ok (.bipush 14, 2) := q9_dX2_leastAlone_0.2.2.2.1
theorem dX2_leastAlone_5 : decode cX2_leastAlone 5 = .ok (.if_icmp .ge 23, 3) := q9_dX2_leastAlone_0.2.2.2.2.1
theorem dX2_leastAlone_8 : decode cX2_leastAlone 8 = .ok (.aload_n 0, 1) := q9_dX2_leastAlone_0.2.2.2.2.2.1
theorem dX2_leastAlone_9 : decode cX2_leastAlone 9 = .ok (.iload_n 1, 1) := q9_dX2_leastAlone_0.2.2.2.2.2.2.1
theorem dX2_leastAlone_10 : decode cX2_leastAlone 10 = .ok (.iload_n 2, 1) := q9_dX2_leastAlone_0.2.2.2.2.2.2.2.1
theorem dX2_leastAlone_11 : decode cX2_leastAlone 11 = .ok (.invokevirtual 92, 3) := q9_dX2_leastAlone_0.2.2.2.2.2.2.2.2.1
theorem dX2_leastAlone_14 : decode cX2_leastAlone 14 = .ok (.ifCond .eq 8, 3) := q9_dX2_leastAlone_0.2.2.2.2.2.2.2.2.2
theorem q9_dX2_leastAlone_17 : (decode cX2_leastAlone 17 = .ok (.iload_n 2, 1)) ∧ (decode cX2_leastAlone 18 = .ok (.invokestatic 89, 3)) ∧ (decode cX2_leastAlone 21 = .ok (.ireturn, 1)) ∧ (decode cX2_leastAlone 22 = .ok (.iinc 2 1, 3)) ∧ (decode cX2_leastAlone 25 = .ok (.goto (-23), 3)) ∧ (decode cX2_leastAlone 28 = .ok (.bipush 100, 2)) ∧ (decode cX2_leastAlone 30 = .ok (.ireturn, 1)) := by decide +kernel
theorem dX2_leastAlone_17 : decode cX2_leastAlone 17 = .ok (.iload_n 2, 1) := q9_dX2_leastAlone_17.1
theorem dX2_leastAlone_18 : decode cX2_leastAlone 18 = .ok (.invokestatic 89, 3) := q9_dX2_leastAlone_17.2.1
theorem dX2_leastAlone_21 : decode cX2_leastAlone 21 = .ok (.ireturn, 1) := q9_dX2_leastAlone_17.2.2.1
theorem dX2_leastAlone_22 : decode cX2_leastAlone 22 = .ok (.iinc 2 1, 3) := q9_dX2_leastAlone_17.2.2.2.1
theorem dX2_leastAlone_25 : decode cX2_leastAlone 25 = .ok (.goto (-23), 3) := q9_dX2_leastAlone_17.2.2.2.2.1
theorem dX2_leastAlone_28 : decode cX2_leastAlone 28 = .ok (.bipush 100, 2) := q9_dX2_leastAlone_17.2.2.2.2.2.1
theorem dX2_leastAlone_30 : decode cX2_leastAlone 30 = .ok (.ireturn, 1) := q9_dX2_leastAlone_17.2.2.2.2.2.2
set_option maxRecDepth 20000 in
theorem ggX2_canGo_X2_hourOf : GoodIn wsX2_canGo wsX2_hourOf := goodIn_r _ [7, 8, 9, 10, 11, 12, 13, 14, 6, 15, 39, 40, 41, 42, 43, 44, 45, 46, 47, 48, 49, 50, 51, 52, 53, 54, 55, 56, 57, 58] rfl (by decide +kernel)
set_option maxRecDepth 20000 in
theorem gX2_canGo_X2_hourOf : GoodIn wsX2_canGo (wsV RX2 62 RX2 yX2_hourOf wsX2_hourOf) := goodIn_app (goodIn_of _ (by decide +kernel)) ggX2_canGo_X2_hourOf
set_option maxRecDepth 20000 in
theorem ggX2_canGo_X2_iceOfWay : GoodIn wsX2_canGo wsX2_iceOfWay := goodIn_r _ [19, 20, 21, 39, 40, 41, 42, 43, 44, 45, 46, 47, 48] rfl (by decide +kernel)
set_option maxRecDepth 20000 in
theorem gX2_canGo_X2_iceOfWay : GoodIn wsX2_canGo (wsV RX2 66 RX2 yX2_iceOfWay wsX2_iceOfWay) := goodIn_app (goodIn_of _ (by decide +kernel)) ggX2_canGo_X2_iceOfWay
set_option maxRecDepth 20000 in
theorem ggX2_canGo_X1_hasRoom : GoodIn wsX2_canGo wsX1_hasRoom := goodIn_r _ [26, 27, 28, 29, 30, 31, 32, 33, 34, 35, 36, 37, 25, 38, 59, 60, 61, 62, 63, 64, 65, 66, 67, 68, 69] rfl (by decide +kernel)
set_option maxRecDepth 20000 in
theorem gX2_canGo_X1_hasRoom : GoodIn wsX2_canGo (wsV RX2 104 RX1 yX1_hasRoom wsX1_hasRoom) := goodIn_app (goodIn_of _ (by decide +kernel)) ggX2_canGo_X1_hasRoom
theorem q9_dX2_canGo_0 : (decode cX2_canGo 0 = .ok (.aload_n 0, 1)) ∧ (decode cX2_canGo 1 = .ok (.iload_n 1, 1)) ∧ (decode cX2_canGo 2 = .ok (.iload_n 2, 1)) ∧ (decode cX2_canGo 3 = .ok (.invokevirtual 62, 3)) ∧ (decode cX2_canGo 6 = .ok (.istore_n 3, 1)) ∧ (decode cX2_canGo 7 = .ok (.iload_n 3, 1)) ∧ (decode cX2_canGo 8 = .ok (.aload_n 0, 1)) ∧ (decode cX2_canGo 9 = .ok (.getfield 42, 3)) ∧ (decode cX2_canGo 12 = .ok (.if_icmp .lt 23, 3)) ∧ (decode cX2_canGo 15 = .ok (.aload_n 0, 1)) := by decide +kernel
theorem dX2_canGo_0 : decode cX2_canGo 0 = .ok (.aload_n 0, 1) := q9_dX2_canGo_0.1
theorem dX2_canGo_1 : decode cX2_canGo 1 = .ok (.iload_n 1, 1) := q9_dX2_canGo_0.2.1
theorem dX2_canGo_2 : decode cX2_canGo 2 = .ok (.iload_n 2, 1) := q9_dX2_canGo_0.2.2.1
theorem dX2_canGo_3 : decode cX2_canGo 3 = .ok (.invokevirtual 62, 3) := q9_dX2_canGo_0.2.2.2.1
theorem dX2_canGo_6 : decode cX2_canGo 6 = .ok (.istore_n 3, 1) := q9_dX2_canGo_0.2.2.2.2.1
theorem dX2_canGo_7 : decode cX2_canGo 7 = .ok (.iload_n 3, 1) := q9_dX2_canGo_0.2.2.2.2.2.1
theorem dX2_canGo_8 : decode cX2_canGo 8 = .ok (.aload_n 0, 1) := q9_dX2_canGo_0.2.2.2.2.2.2.1
theorem dX2_canGo_9 : decode cX2_canGo 9 = .ok (.getfield 42, 3) := q9_dX2_canGo_0.2.2.2.2.2.2.2.1
theorem dX2_canGo_12 : decode cX2_canGo 12 = .ok (.if_icmp .lt 23, 3) := q9_dX2_canGo_0.2.2.2.2.2.2.2.2.1
theorem dX2_canGo_15 : decode cX2_canGo 15 = .ok (.aload_n 0, 1) := q9_dX2_canGo_0.2.2.2.2.2.2.2.2.2
theorem q9_dX2_canGo_16 : (decode cX2_canGo 16 = .ok (.iload_n 2, 1)) ∧ (decode cX2_canGo 17 = .ok (.invokevirtual 66, 3)) ∧ (decode cX2_canGo 20 = .ok (.iload_n 3, 1)) ∧ (decode cX2_canGo 21 = .ok (.aload_n 0, 1)) ∧ (decode cX2_canGo 22 = .ok (.getfield 45, 3)) ∧ (decode cX2_canGo 25 = .ok (.invokevirtual 104, 3)) ∧ (decode cX2_canGo 28 = .ok (.ifCond .eq 7, 3)) ∧ (decode cX2_canGo 31 = .ok (.iconst 1, 1)) ∧ (decode cX2_canGo 32 = .ok (.goto 4, 3)) ∧ (decode cX2_canGo 35 = .ok (.iconst 0, 1)) := by decide +kernel
theorem dX2_canGo_16 : decode cX2_canGo 16 = .ok (.iload_n 2, 1) := q9_dX2_canGo_16.1
theorem dX2_canGo_17 : decode cX2_canGo 17 = .ok (.invokevirtual 66, 3) := q9_dX2_canGo_16.2.1
theorem dX2_canGo_20 : decode cX2_canGo 20 = .ok (.iload_n 3, 1) := q9_dX2_canGo_16.2.2.1
theorem dX2_canGo_21 : decode cX2_canGo 21 = .ok (.aload_n 0, 1) := q9_dX2_canGo_16.2.2.2.1
theorem dX2_canGo_22 : decode cX2_canGo 22 = .ok (.getfield 45, 3) := q9_dX2_canGo_16.2.2.2.2.1
theorem dX2_canGo_25 : decode cX2_canGo 25 = .ok (.invokevirtual 104, 3) := q9_dX2_canGo_16.2.2.2.2.2.1
theorem dX2_canGo_28 : decode cX2_canGo 28 = .ok (.ifCond .eq 7, 3) := q9_dX2_canGo_16.2.2.2.2.2.2.1
theorem dX2_canGo_31 : decode cX2_canGo 31 = .ok (.iconst 1, 1) := q9_dX2_canGo_16.2.2.2.2.2.2.2.1
theorem dX2_canGo_32 : decode cX2_canGo 32 = .ok (.goto 4, 3) := q9_dX2_canGo_16.2.2.2.2.2.2.2.2.1
theorem dX2_canGo_35 : decode cX2_canGo 35 = .ok (.iconst 0, 1) := q9_dX2_canGo_16.2.2.2.2.2.2.2.2.2
theorem dX2_canGo_36 : decode cX2_canGo 36 = .ok (.ireturn, 1) := by decide +kernel
set_option maxRecDepth 20000 in
theorem ggX2_hourOf_X8_isBelow : GoodIn wsX2_hourOf wsX8_isBelow := goodIn_r _ [5] rfl (by decide +kernel)
set_option maxRecDepth 20000 in
theorem gX2_hourOf_X8_isBelow_n38 : GoodIn wsX2_hourOf (wsX8_isBelow) := ggX2_hourOf_X8_isBelow
set_option maxRecDepth 20000 in
theorem ggX2_hourOf_X2_shiftOf : GoodIn wsX2_hourOf wsX2_shiftOf := goodIn_r _ [9, 3, 4, 5] rfl (by decide +kernel)
set_option maxRecDepth 20000 in
theorem gX2_hourOf_X2_shiftOf : GoodIn wsX2_hourOf (va_wsS RX2 110 yX2_shiftOf wsX2_shiftOf) := goodIn_app (goodIn_of _ (by decide +kernel)) ggX2_hourOf_X2_shiftOf
theorem q9_dX2_hourOf_0 : (decode cX2_hourOf 0 = .ok (.iload_n 1, 1)) ∧ (decode cX2_hourOf 1 = .ok (.iconst 5, 1)) ∧ (decode cX2_hourOf 2 = .ok (.invokestatic 38, 3)) ∧ (decode cX2_hourOf 5 = .ok (.ifCond .eq 12, 3)) ∧ (decode cX2_hourOf 8 = .ok (.aload_n 0, 1)) ∧ (decode cX2_hourOf 9 = .ok (.getfield 11, 3)) ∧ (decode cX2_hourOf 12 = .ok (.iload_n 1, 1)) ∧ (decode cX2_hourOf 13 = .ok (.aaload, 1)) ∧ (decode cX2_hourOf 14 = .ok (.goto 4, 3)) ∧ (decode cX2_hourOf 17 = .ok (.aconst_null, 1)) := by decide +kernel
theorem dX2_hourOf_0 : decode cX2_hourOf 0 = .ok (.iload_n 1, 1) := q9_dX2_hourOf_0.1
theorem dX2_hourOf_1 : decode cX2_hourOf 1 = .ok (.iconst 5, 1) := q9_dX2_hourOf_0.2.1
theorem dX2_hourOf_2 : decode cX2_hourOf 2 = .ok (.invokestatic 38, 3) := q9_dX2_hourOf_0.2.2.1
theorem dX2_hourOf_5 : decode cX2_hourOf 5 = .ok (.ifCond .eq 12, 3) := q9_dX2_hourOf_0.2.2.2.1
theorem dX2_hourOf_8 : decode cX2_hourOf 8 = .ok (.aload_n 0, 1) := q9_dX2_hourOf_0.2.2.2.2.1
theorem dX2_hourOf_9 : decode cX2_hourOf 9 = .ok (.getfield 11, 3) := q9_dX2_hourOf_0.2.2.2.2.2.1
theorem dX2_hourOf_12 : decode cX2_hourOf 12 = .ok (.iload_n 1, 1) := q9_dX2_hourOf_0.2.2.2.2.2.2.1
theorem dX2_hourOf_13 : decode cX2_hourOf 13 = .ok (.aaload, 1) := q9_dX2_hourOf_0.2.2.2.2.2.2.2.1
theorem dX2_hourOf_14 : decode cX2_hourOf 14 = .ok (.goto 4, 3) := q9_dX2_hourOf_0.2.2.2.2.2.2.2.2.1
theorem dX2_hourOf_17 : decode cX2_hourOf 17 = .ok (.aconst_null, 1) := q9_dX2_hourOf_0.2.2.2.2.2.2.2.2.2
theorem q9_dX2_hourOf_18 : (decode cX2_hourOf 18 = .ok (.astore_n 3, 1)) ∧ (decode cX2_hourOf 19 = .ok (.aload_n 3, 1)) ∧ (decode cX2_hourOf 20 = .ok (.ifnonnull 7, 3)) ∧ (decode cX2_hourOf 23 = .ok (.iconst (-1), 1)) ∧ (decode cX2_hourOf 24 = .ok (.goto 12, 3)) ∧ (decode cX2_hourOf 27 = .ok (.aload_n 3, 1)) ∧ (decode cX2_hourOf 28 = .ok (.getfield 107, 3)) ∧ (decode cX2_hourOf 31 = .ok (.iload_n 2, 1)) ∧ (decode cX2_hourOf 32 = .ok (.invokestatic 110, 3)) ∧ (decode cX2_hourOf 35 = .ok (.iadd, 1)) := by decide +kernel
theorem dX2_hourOf_18 : decode cX2_hourOf 18 = .ok (.astore_n 3, 1) := q9_dX2_hourOf_18.1
theorem dX2_hourOf_19 : decode cX2_hourOf 19 = .ok (.aload_n 3, 1) := q9_dX2_hourOf_18.2.1
theorem dX2_hourOf_20 : decode cX2_hourOf 20 = .ok (.ifnonnull 7, 3) := q9_dX2_hourOf_18.2.2.1
theorem dX2_hourOf_23 : decode cX2_hourOf 23 = .ok (.iconst (-1), 1) := q9_dX2_hourOf_18.2.2.2.1
theorem dX2_hourOf_24 : decode cX2_hourOf 24 = .ok (.goto 12, 3) := q9_dX2_hourOf_18.2.2.2.2.1
theorem dX2_hourOf_27 : decode cX2_hourOf 27 = .ok (.aload_n 3, 1) := q9_dX2_hourOf_18.2.2.2.2.2.1
theorem dX2_hourOf_28 : decode cX2_hourOf 28 = .ok (.getfield 107, 3) := q9_dX2_hourOf_18.2.2.2.2.2.2.1
theorem dX2_hourOf_31 : decode cX2_hourOf 31 = .ok (.iload_n 2, 1) := q9_dX2_hourOf_18.2.2.2.2.2.2.2.1
theorem dX2_hourOf_32 : decode cX2_hourOf 32 = .ok (.invokestatic 110, 3) := q9_dX2_hourOf_18.2.2.2.2.2.2.2.2.1
theorem dX2_hourOf_35 : decode cX2_hourOf 35 = .ok (.iadd, 1) := q9_dX2_hourOf_18.2.2.2.2.2.2.2.2.2
theorem q9_dX2_hourOf_36 : (decode cX2_hourOf 36 = .ok (.ireturn, 1)) ∧ (decode cX2_iceOfWay 0 = .ok (.iload_n 1, 1)) ∧ (decode cX2_iceOfWay 1 = .ok (.iconst 2, 1)) ∧ (decode cX2_iceOfWay 2 = .ok (.irem, 1)) ∧ (decode cX2_iceOfWay 3 = .ok (.ifCond .ne 10, 3)) ∧ (decode cX2_iceOfWay 6 = .ok (.aload_n 0, 1)) ∧ (decode cX2_iceOfWay 7 = .ok (.getfield 27, 3)) ∧ (decode cX2_iceOfWay 10 = .ok (.goto 7, 3)) ∧ (decode cX2_iceOfWay 13 = .ok (.aload_n 0, 1)) ∧ (decode cX2_iceOfWay 14 = .ok (.getfield 31, 3)) := by decide +kernel
theorem dX2_hourOf_36 : decode cX2_hourOf 36 = .ok (.ireturn, 1) := q9_dX2_hourOf_36.1
theorem dX2_iceOfWay_0 : decode cX2_iceOfWay 0 = .ok (.iload_n 1, 1) := q9_dX2_hourOf_36.2.1
theorem dX2_iceOfWay_1 : decode cX2_iceOfWay 1 = .ok (.iconst 2, 1) := q9_dX2_hourOf_36.2.2.1
theorem dX2_iceOfWay_2 : decode cX2_iceOfWay 2 = .ok (.irem, 1) := q9_dX2_hourOf_36.2.2.2.1
theorem dX2_iceOfWay_3 : decode cX2_iceOfWay 3 = .ok (.ifCond .ne 10, 3) := q9_dX2_hourOf_36.2.2.2.2.1
theorem dX2_iceOfWay_6 : decode cX2_iceOfWay 6 = .ok (.aload_n 0, 1) := q9_dX2_hourOf_36.2.2.2.2.2.1
theorem dX2_iceOfWay_7 : decode cX2_iceOfWay 7 = .ok (.getfield 27, 3) := q9_dX2_hourOf_36.2.2.2.2.2.2.1
theorem dX2_iceOfWay_10 : decode cX2_iceOfWay 10 = .ok (.goto 7, 3) := q9_dX2_hourOf_36.2.2.2.2.2.2.2.1
theorem dX2_iceOfWay_13 : decode cX2_iceOfWay 13 = .ok (.aload_n 0, 1) := q9_dX2_hourOf_36.2.2.2.2.2.2.2.2.1
theorem dX2_iceOfWay_14 : decode cX2_iceOfWay 14 = .ok (.getfield 31, 3) := q9_dX2_hourOf_36.2.2.2.2.2.2.2.2.2
theorem dX2_iceOfWay_17 : decode cX2_iceOfWay 17 = .ok (.areturn, 1) := by decide +kernel
set_option maxRecDepth 20000 in
theorem ggX2_shiftOf_X8_isBelow : GoodIn wsX2_shiftOf wsX8_isBelow := goodIn_r _ [3] rfl (by decide +kernel)
set_option maxRecDepth 20000 in
theorem gX2_shiftOf_X8_isBelow_n38 : GoodIn wsX2_shiftOf (wsX8_isBelow) := ggX2_shiftOf_X8_isBelow
theorem q9_dX2_shiftOf_0 : (decode cX2_shiftOf 0 = .ok (.iload_n 0, 1)) ∧ (decode cX2_shiftOf 1 = .ok (.iconst 2, 1)) ∧ (decode cX2_shiftOf 2 = .ok (.idiv, 1)) ∧ (decode cX2_shiftOf 3 = .ok (.istore_n 1, 1)) ∧ (decode cX2_shiftOf 4 = .ok (.iload_n 1, 1)) ∧ (decode cX2_shiftOf 5 = .ok (.getstatic 113, 3)) ∧ (decode cX2_shiftOf 8 = .ok (.arraylength, 1)) ∧ (decode cX2_shiftOf 9 = .ok (.invokestatic 38, 3)) ∧ (decode cX2_shiftOf 12 = .ok (.ifCond .eq 11, 3)) ∧ (decode cX2_shiftOf 15 = .ok (.getstatic 113, 3)) := by decide +kernel
theorem dX2_shiftOf_0 : decode cX2_shiftOf 0 = .ok (.iload_n 0, 1) := q9_dX2_shiftOf_0.1
theorem dX2_shiftOf_1 : decode cX2_shiftOf 1 = .ok (.iconst 2, 1) := q9_dX2_shiftOf_0.2.1
theorem dX2_shiftOf_2 : decode cX2_shiftOf 2 = .ok (.idiv, 1) := q9_dX2_shiftOf_0.2.2.1
theorem dX2_shiftOf_3 : decode cX2_shiftOf 3 = .ok (.istore_n 1, 1) := q9_dX2_shiftOf_0.2.2.2.1
theorem dX2_shiftOf_4 : decode cX2_shiftOf 4 = .ok (.iload_n 1, 1) := q9_dX2_shiftOf_0.2.2.2.2.1
theorem dX2_shiftOf_5 : decode cX2_shiftOf 5 = .ok (.getstatic 113, 3) := q9_dX2_shiftOf_0.2.2.2.2.2.1
theorem dX2_shiftOf_8 : decode cX2_shiftOf 8 = .ok (.arraylength, 1) := q9_dX2_shiftOf_0.2.2.2.2.2.2.1
theorem dX2_shiftOf_9 : decode cX2_shiftOf 9 = .ok (.invokestatic 38, 3) := q9_dX2_shiftOf_0.2.2.2.2.2.2.2.1
theorem dX2_shiftOf_12 : decode cX2_shiftOf 12 = .ok (.ifCond .eq 11, 3) := q9_dX2_shiftOf_0.2.2.2.2.2.2.2.2.1
theorem dX2_shiftOf_15 : decode cX2_shiftOf 15 = .ok (.getstatic 113, 3) := q9_dX2_shiftOf_0.2.2.2.2.2.2.2.2.2
theorem q9_dX2_shiftOf_18 : (decode cX2_shiftOf 18 = .ok (.iload_n 1, 1)) ∧ (decode cX2_shiftOf 19 = .ok (.iaload, 1)) ∧ (decode cX2_shiftOf 20 = .ok (.goto 4, 3)) ∧ (decode cX2_shiftOf 23 = .ok (.iconst 0, 1)) ∧ (decode cX2_shiftOf 24 = .ok (.ireturn, 1)) := by decide +kernel
theorem dX2_shiftOf_18 : decode cX2_shiftOf 18 = .ok (.iload_n 1, 1) := q9_dX2_shiftOf_18.1
theorem dX2_shiftOf_19 : decode cX2_shiftOf 19 = .ok (.iaload, 1) := q9_dX2_shiftOf_18.2.1
theorem dX2_shiftOf_20 : decode cX2_shiftOf 20 = .ok (.goto 4, 3) := q9_dX2_shiftOf_18.2.2.1
theorem dX2_shiftOf_23 : decode cX2_shiftOf 23 = .ok (.iconst 0, 1) := q9_dX2_shiftOf_18.2.2.2.1
theorem dX2_shiftOf_24 : decode cX2_shiftOf 24 = .ok (.ireturn, 1) := q9_dX2_shiftOf_18.2.2.2.2
set_option maxRecDepth 20000 in
theorem ggX2_costOf_X2_shiftOf : GoodIn wsX2_costOf wsX2_shiftOf := goodIn_r _ [8, 9, 10, 11] rfl (by decide +kernel)
set_option maxRecDepth 20000 in
theorem gX2_costOf_X2_shiftOf : GoodIn wsX2_costOf (va_wsS RX2 110 yX2_shiftOf wsX2_shiftOf) := goodIn_app (goodIn_of _ (by decide +kernel)) ggX2_costOf_X2_shiftOf
theorem q9_dX2_costOf_0 : (decode cX2_costOf 0 = .ok (.iload_n 0, 1)) ∧ (decode cX2_costOf 1 = .ok (.bipush 14, 2)) ∧ (decode cX2_costOf 3 = .ok (.if_icmp .ne 8, 3)) ∧ (decode cX2_costOf 6 = .ok (.bipush 100, 2)) ∧ (decode cX2_costOf 8 = .ok (.goto 10, 3)) ∧ (decode cX2_costOf 11 = .ok (.iload_n 0, 1)) ∧ (decode cX2_costOf 12 = .ok (.invokestatic 110, 3)) ∧ (decode cX2_costOf 15 = .ok (.invokestatic 116, 3)) ∧ (decode cX2_costOf 18 = .ok (.ireturn, 1)) ∧ (decode cX3_init 0 = .ok (.aload_n 0, 1)) := by decide +kernel
theorem dX2_costOf_0 : decode cX2_costOf 0 = .ok (.iload_n 0, 1) := q9_dX2_costOf_0.1
theorem dX2_costOf_1 : decode cX2_costOf 1 = .ok (.bipush 14, 2) := q9_dX2_costOf_0.2.1
theorem dX2_costOf_3 : decode cX2_costOf 3 = .ok (.if_icmp .ne 8, 3) := q9_dX2_costOf_0.2.2.1
theorem dX2_costOf_6 : decode cX2_costOf 6 = .ok (.bipush 100, 2) := q9_dX2_costOf_0.2.2.2.1
theorem dX2_costOf_8 : decode cX2_costOf 8 = .ok (.goto 10, 3) := q9_dX2_costOf_0.2.2.2.2.1
theorem dX2_costOf_11 : decode cX2_costOf 11 = .ok (.iload_n 0, 1) := q9_dX2_costOf_0.2.2.2.2.2.1
theorem dX2_costOf_12 : decode cX2_costOf 12 = .ok (.invokestatic 110, 3) := q9_dX2_costOf_0.2.2.2.2.2.2.1
theorem dX2_costOf_15 : decode cX2_costOf 15 = .ok (.invokestatic 116, 3) := q9_dX2_costOf_0.2.2.2.2.2.2.2.1
theorem dX2_costOf_18 : decode cX2_costOf 18 = .ok (.ireturn, 1) := q9_dX2_costOf_0.2.2.2.2.2.2.2.2.1
theorem dX3_init_0 : decode cX3_init 0 = .ok (.aload_n 0, 1) := q9_dX2_costOf_0.2.2.2.2.2.2.2.2.2
theorem q9_dX3_init_1 : (decode cX3_init 1 = .ok (.invokespecial 3, 3)) ∧ (decode cX3_init 4 = .ok (.aload_n 0, 1)) ∧ (decode cX3_init 5 = .ok (.bipush 9, 2)) ∧ (decode cX3_init 7 = .ok (.newarray .int, 2)) ∧ (decode cX3_init 9 = .ok (.putfield 9, 3)) ∧ (decode cX3_init 12 = .ok (.aload_n 0, 1)) ∧ (decode cX3_init 13 = .ok (.bipush 8, 2)) ∧ (decode cX3_init 15 = .ok (.newarray .int, 2)) ∧ (decode cX3_init 17 = .ok (.putfield 15, 3)) ∧ (decode cX3_init 20 = .ok (.aload_n 0, 1)) := by decide +kernel
theorem dX3_init_1 : decode cX3_init 1 = .ok (.invokespecial 3, 3) := q9_dX3_init_1.1
theorem dX3_init_4 : decode cX3_init 4 = .ok (.aload_n 0, 1) := q9_dX3_init_1.2.1
theorem dX3_init_5 : decode cX3_init 5 = .ok (.bipush 9, 2) := q9_dX3_init_1.2.2.1
theorem dX3_init_7 : decode cX3_init 7 = .ok (.newarray .int, 2) := q9_dX3_init_1.2.2.2.1
theorem dX3_init_9 : decode cX3_init 9 = .ok (.putfield 9, 3) := q9_dX3_init_1.2.2.2.2.1
theorem dX3_init_12 : decode cX3_init 12 = .ok (.aload_n 0, 1) := q9_dX3_init_1.2.2.2.2.2.1
theorem dX3_init_13 : decode cX3_init 13 = .ok (.bipush 8, 2) := q9_dX3_init_1.2.2.2.2.2.2.1
theorem dX3_init_15 : decode cX3_init 15 = .ok (.newarray .int, 2) := q9_dX3_init_1.2.2.2.2.2.2.2.1
theorem dX3_init_17 : decode cX3_init 17 = .ok (.putfield 15, 3) := q9_dX3_init_1.2.2.2.2.2.2.2.2.1
theorem dX3_init_20 : decode cX3_init 20 = .ok (.aload_n 0, 1) := q9_dX3_init_1.2.2.2.2.2.2.2.2.2
theorem q9_dX3_init_21 : (decode cX3_init 21 = .ok (.sipush 225, 3)) ∧ (decode cX3_init 24 = .ok (.newarray .int, 2)) ∧ (decode cX3_init 26 = .ok (.putfield 18, 3)) ∧ (decode cX3_init 29 = .ok (.aload_n 0, 1)) ∧ (decode cX3_init 30 = .ok (.bipush 8, 2)) ∧ (decode cX3_init 32 = .ok (.newarray .int, 2)) ∧ (decode cX3_init 34 = .ok (.putfield 21, 3)) ∧ (decode cX3_init 37 = .ok (.aload_n 0, 1)) ∧ (decode cX3_init 38 = .ok (.iconst 0, 1)) ∧ (decode cX3_init 39 = .ok (.putfield 24, 3)) := by decide +kernel
theorem dX3_init_21 : decode cX3_init 21 = .ok (.sipush 225, 3) := q9_dX3_init_21.1
theorem dX3_init_24 : decode cX3_init 24 = .ok (.newarray .int, 2) := q9_dX3_init_21.2.1
theorem dX3_init_26 : decode cX3_init 26 = .ok (.putfield 18, 3) := q9_dX3_init_21.2.2.1
theorem dX3_init_29 : decode cX3_init 29 = .ok (.aload_n 0, 1) := q9_dX3_init_21.2.2.2.1
theorem dX3_init_30 : decode cX3_init 30 = .ok (.bipush 8, 2) := q9_dX3_init_21.2.2.2.2.1
theorem dX3_init_32 : decode cX3_init 32 = .ok (.newarray .int, 2) := q9_dX3_init_21.2.2.2.2.2.1
theorem dX3_init_34 : decode cX3_init 34 = .ok (.putfield 21, 3) := q9_dX3_init_21.2.2.2.2.2.2.1
theorem dX3_init_37 : decode cX3_init 37 = .ok (.aload_n 0, 1) := q9_dX3_init_21.2.2.2.2.2.2.2.1
theorem dX3_init_38 : decode cX3_init 38 = .ok (.iconst 0, 1) := q9_dX3_init_21.2.2.2.2.2.2.2.2.1
theorem dX3_init_39 : decode cX3_init 39 = .ok (.putfield 24, 3) := q9_dX3_init_21.2.2.2.2.2.2.2.2.2
theorem q9_dX3_init_42 : (decode cX3_init 42 = .ok (.return_, 1)) ∧ (decode cX3_begin 0 = .ok (.aload_n 0, 1)) ∧ (decode cX3_begin 1 = .ok (.iconst 0, 1)) ∧ (decode cX3_begin 2 = .ok (.putfield 28, 3)) ∧ (decode cX3_begin 5 = .ok (.return_, 1)) := by decide +kernel
theorem dX3_init_42 : decode cX3_init 42 = .ok (.return_, 1) := q9_dX3_init_42.1
theorem dX3_begin_0 : decode cX3_begin 0 = .ok (.aload_n 0, 1) := q9_dX3_init_42.2.1
theorem dX3_begin_1 : decode cX3_begin 1 = .ok (.iconst 0, 1) := q9_dX3_init_42.2.2.1
theorem dX3_begin_2 : decode cX3_begin 2 = .ok (.putfield 28, 3) := q9_dX3_init_42.2.2.2.1
theorem dX3_begin_5 : decode cX3_begin 5 = .ok (.return_, 1) := q9_dX3_init_42.2.2.2.2
set_option maxRecDepth 20000 in
theorem ggX3_addHour_X8_isBelow : GoodIn wsX3_addHour wsX8_isBelow := goodIn_r _ [6] rfl (by decide +kernel)
set_option maxRecDepth 20000 in
theorem gX3_addHour_X8_isBelow_n31 : GoodIn wsX3_addHour (wsX8_isBelow) := ggX3_addHour_X8_isBelow
theorem q9_dX3_addHour_0 : (decode cX3_addHour 0 = .ok (.aload_n 0, 1)) ∧ (decode cX3_addHour 1 = .ok (.getfield 28, 3)) ∧ (decode cX3_addHour 4 = .ok (.bipush 8, 2)) ∧ (decode cX3_addHour 6 = .ok (.invokestatic 31, 3)) ∧ (decode cX3_addHour 9 = .ok (.ifCond .eq 45, 3)) ∧ (decode cX3_addHour 12 = .ok (.aload_n 0, 1)) ∧ (decode cX3_addHour 13 = .ok (.getfield 15, 3)) ∧ (decode cX3_addHour 16 = .ok (.aload_n 0, 1)) ∧ (decode cX3_addHour 17 = .ok (.getfield 28, 3)) ∧ (decode cX3_addHour 20 = .ok (.iload_n 2, 1)) := by decide +kernel
theorem dX3_addHour_0 : decode cX3_addHour 0 = .ok (.aload_n 0, 1) := q9_dX3_addHour_0.1
theorem dX3_addHour_1 : decode cX3_addHour 1 = .ok (.getfield 28, 3) := q9_dX3_addHour_0.2.1
theorem dX3_addHour_4 : decode cX3_addHour 4 = .ok (.bipush 8, 2) := q9_dX3_addHour_0.2.2.1
theorem dX3_addHour_6 : decode cX3_addHour 6 = .ok (.invokestatic 31, 3) := q9_dX3_addHour_0.2.2.2.1
theorem dX3_addHour_9 : decode cX3_addHour 9 = .ok (.ifCond .eq 45, 3) := q9_dX3_addHour_0.2.2.2.2.1
theorem dX3_addHour_12 : decode cX3_addHour 12 = .ok (.aload_n 0, 1) := q9_dX3_addHour_0.2.2.2.2.2.1
theorem dX3_addHour_13 : decode cX3_addHour 13 = .ok (.getfield 15, 3) := q9_dX3_addHour_0.2.2.2.2.2.2.1
theorem dX3_addHour_16 : decode cX3_addHour 16 = .ok (.aload_n 0, 1) := q9_dX3_addHour_0.2.2.2.2.2.2.2.1
theorem dX3_addHour_17 : decode cX3_addHour 17 = .ok (.getfield 28, 3) := q9_dX3_addHour_0.2.2.2.2.2.2.2.2.1
theorem dX3_addHour_20 : decode cX3_addHour 20 = .ok (.iload_n 2, 1) := q9_dX3_addHour_0.2.2.2.2.2.2.2.2.2
theorem q9_dX3_addHour_21 : (decode cX3_addHour 21 = .ok (.iastore, 1)) ∧ (decode cX3_addHour 22 = .ok (.aload_n 0, 1)) ∧ (decode cX3_addHour 23 = .ok (.getfield 9, 3)) ∧ (decode cX3_addHour 26 = .ok (.aload_n 0, 1)) ∧ (decode cX3_addHour 27 = .ok (.getfield 28, 3)) ∧ (decode cX3_addHour 30 = .ok (.iconst 1, 1)) ∧ (decode cX3_addHour 31 = .ok (.iadd, 1)) ∧ (decode cX3_addHour 32 = .ok (.aload_n 0, 1)) ∧ (decode cX3_addHour 33 = .ok (.getfield 9, 3)) ∧ (decode cX3_addHour 36 = .ok (.aload_n 0, 1)) := by decide +kernel
theorem dX3_addHour_21 : decode cX3_addHour 21 = .ok (.iastore, 1) := q9_dX3_addHour_21.1
theorem dX3_addHour_22 : decode cX3_addHour 22 = .ok (.aload_n 0, 1) := q9_dX3_addHour_21.2.1
theorem dX3_addHour_23 : decode cX3_addHour 23 = .ok (.getfield 9, 3) := q9_dX3_addHour_21.2.2.1
theorem dX3_addHour_26 : decode cX3_addHour 26 = .ok (.aload_n 0, 1) := q9_dX3_addHour_21.2.2.2.1
theorem dX3_addHour_27 : decode cX3_addHour 27 = .ok (.getfield 28, 3) := q9_dX3_addHour_21.2.2.2.2.1
theorem dX3_addHour_30 : decode cX3_addHour 30 = .ok (.iconst 1, 1) := q9_dX3_addHour_21.2.2.2.2.2.1
theorem dX3_addHour_31 : decode cX3_addHour 31 = .ok (.iadd, 1) := q9_dX3_addHour_21.2.2.2.2.2.2.1
theorem dX3_addHour_32 : decode cX3_addHour 32 = .ok (.aload_n 0, 1) := q9_dX3_addHour_21.2.2.2.2.2.2.2.1
theorem dX3_addHour_33 : decode cX3_addHour 33 = .ok (.getfield 9, 3) := q9_dX3_addHour_21.2.2.2.2.2.2.2.2.1
theorem dX3_addHour_36 : decode cX3_addHour 36 = .ok (.aload_n 0, 1) := q9_dX3_addHour_21.2.2.2.2.2.2.2.2.2
theorem q9_dX3_addHour_37 : (decode cX3_addHour 37 = .ok (.getfield 28, 3)) ∧ (decode cX3_addHour 40 = .ok (.iaload, 1)) ∧ (decode cX3_addHour 41 = .ok (.iload_n 1, 1)) ∧ (decode cX3_addHour 42 = .ok (.iadd, 1)) ∧ (decode cX3_addHour 43 = .ok (.iastore, 1)) ∧ (decode cX3_addHour 44 = .ok (.aload_n 0, 1)) ∧ (decode cX3_addHour 45 = .ok (.dup, 1)) ∧ (decode cX3_addHour 46 = .ok (.getfield 28, 3)) ∧ (decode cX3_addHour 49 = .ok (.iconst 1, 1)) ∧ (decode cX3_addHour 50 = .ok (.iadd, 1)) := by decide +kernel
theorem dX3_addHour_37 : decode cX3_addHour 37 = .ok (.getfield 28, 3) := q9_dX3_addHour_37.1
theorem dX3_addHour_40 : decode cX3_addHour 40 = .ok (.iaload, 1) := q9_dX3_addHour_37.2.1
theorem dX3_addHour_41 : decode cX3_addHour 41 = .ok (.iload_n 1, 1) := q9_dX3_addHour_37.2.2.1
theorem dX3_addHour_42 : decode cX3_addHour 42 = .ok (.iadd, 1) := q9_dX3_addHour_37.2.2.2.1
theorem dX3_addHour_43 : decode cX3_addHour 43 = .ok (.iastore, 1) := q9_dX3_addHour_37.2.2.2.2.1
theorem dX3_addHour_44 : decode cX3_addHour 44 = .ok (.aload_n 0, 1) := q9_dX3_addHour_37.2.2.2.2.2.1
theorem dX3_addHour_45 : decode cX3_addHour 45 = .ok (.dup, 1) := q9_dX3_addHour_37.2.2.2.2.2.2.1
theorem dX3_addHour_46 : decode cX3_addHour 46 = .ok (.getfield 28, 3) := q9_dX3_addHour_37.2.2.2.2.2.2.2.1
theorem dX3_addHour_49 : decode cX3_addHour 49 = .ok (.iconst 1, 1) := q9_dX3_addHour_37.2.2.2.2.2.2.2.2.1
theorem dX3_addHour_50 : decode cX3_addHour 50 = .ok (.iadd, 1) := q9_dX3_addHour_37.2.2.2.2.2.2.2.2.2
theorem q9_dX3_addHour_51 : (decode cX3_addHour 51 = .ok (.putfield 28, 3)) ∧ (decode cX3_addHour 54 = .ok (.return_, 1)) := by decide +kernel
theorem dX3_addHour_51 : decode cX3_addHour 51 = .ok (.putfield 28, 3) := q9_dX3_addHour_51.1
theorem dX3_addHour_54 : decode cX3_addHour 54 = .ok (.return_, 1) := q9_dX3_addHour_51.2
set_option maxRecDepth 20000 in
theorem ggX3_solve_X3_leastOver : GoodIn wsX3_solve wsX3_leastOver := goodIn_r _ [11, 6, 3, 12, 13, 14, 15, 16, 17, 18, 10, 19, 1, 20, 2, 4, 21, 22, 23, 24, 35, 36, 37, 38, 39, 40, 41, 42, 43] rfl (by decide +kernel)
set_option maxRecDepth 20000 in
theorem gX3_solve_X3_leastOver : GoodIn wsX3_solve (wsV RX3 44 RX3 yX3_leastOver wsX3_leastOver) := goodIn_app (goodIn_of _ (by decide +kernel)) ggX3_solve_X3_leastOver
set_option maxRecDepth 20000 in
theorem ggX3_solve_X3_keepRow : GoodIn wsX3_solve wsX3_keepRow := goodIn_r _ [28, 5, 29, 30, 31, 32, 33, 10, 34, 3, 7, 8, 9, 11, 6, 12, 13, 14, 15, 16, 17, 18, 19, 1, 20, 2, 4, 21, 22, 23, 24, 35, 36, 37, 38, 39, 40, 41, 42, 43] rfl (by decide +kernel)
set_option maxRecDepth 20000 in
theorem gX3_solve_X3_keepRow : GoodIn wsX3_solve (wsV RX3 49 RX3 yX3_keepRow wsX3_keepRow) := goodIn_app (goodIn_of _ (by decide +kernel)) ggX3_solve_X3_keepRow
theorem q9_dX3_solve_0 : (decode cX3_solve 0 = .ok (.aload_n 0, 1)) ∧ (decode cX3_solve 1 = .ok (.iload_n 1, 1)) ∧ (decode cX3_solve 2 = .ok (.putfield 35, 3)) ∧ (decode cX3_solve 5 = .ok (.aload_n 0, 1)) ∧ (decode cX3_solve 6 = .ok (.iload_n 2, 1)) ∧ (decode cX3_solve 7 = .ok (.putfield 38, 3)) ∧ (decode cX3_solve 10 = .ok (.aload_n 0, 1)) ∧ (decode cX3_solve 11 = .ok (.iload_n 3, 1)) ∧ (decode cX3_solve 12 = .ok (.putfield 41, 3)) ∧ (decode cX3_solve 15 = .ok (.iconst 0, 1)) := by decide +kernel
theorem dX3_solve_0 : decode cX3_solve 0 = .ok (.aload_n 0, 1) := q9_dX3_solve_0.1
theorem dX3_solve_1 : decode cX3_solve 1 = .ok (.iload_n 1, 1) := q9_dX3_solve_0.2.1
theorem dX3_solve_2 : decode cX3_solve 2 = .ok (.putfield 35, 3) := q9_dX3_solve_0.2.2.1
theorem dX3_solve_5 : decode cX3_solve 5 = .ok (.aload_n 0, 1) := q9_dX3_solve_0.2.2.2.1
theorem dX3_solve_6 : decode cX3_solve 6 = .ok (.iload_n 2, 1) := q9_dX3_solve_0.2.2.2.2.1
theorem dX3_solve_7 : decode cX3_solve 7 = .ok (.putfield 38, 3) := q9_dX3_solve_0.2.2.2.2.2.1
theorem dX3_solve_10 : decode cX3_solve 10 = .ok (.aload_n 0, 1) := q9_dX3_solve_0.2.2.2.2.2.2.1
theorem dX3_solve_11 : decode cX3_solve 11 = .ok (.iload_n 3, 1) := q9_dX3_solve_0.2.2.2.2.2.2.2.1
theorem dX3_solve_12 : decode cX3_solve 12 = .ok (.putfield 41, 3) := q9_dX3_solve_0.2.2.2.2.2.2.2.2.1
theorem dX3_solve_15 : decode cX3_solve 15 = .ok (.iconst 0, 1) := q9_dX3_solve_0.2.2.2.2.2.2.2.2.2
theorem q9_dX3_solve_16 : (decode cX3_solve 16 = .ok (.istore 4, 2)) ∧ (decode cX3_solve 18 = .ok (.iload 4, 2)) ∧ (decode cX3_solve 20 = .ok (.bipush 25, 2)) ∧ (decode cX3_solve 22 = .ok (.if_icmp .ge 25, 3)) ∧ (decode cX3_solve 25 = .ok (.aload_n 0, 1)) ∧ (decode cX3_solve 26 = .ok (.getfield 18, 3)) ∧ (decode cX3_solve 29 = .ok (.aload_n 0, 1)) ∧ (decode cX3_solve 30 = .ok (.getfield 28, 3)) ∧ (decode cX3_solve 33 = .ok (.bipush 25, 2)) ∧ (decode cX3_solve 35 = .ok (.imul, 1)) := by decide +kernel
theorem dX3_solve_16 : decode cX3_solve 16 = .ok (.istore 4, 2) := q9_dX3_solve_16.1
theorem dX3_solve_18 : decode cX3_solve 18 = .ok (.iload 4, 2) := q9_dX3_solve_16.2.1
theorem dX3_solve_20 : decode cX3_solve 20 = .ok (.bipush 25, 2) := q9_dX3_solve_16.2.2.1
theorem dX3_solve_22 : decode cX3_solve 22 = .ok (.if_icmp .ge 25, 3) := q9_dX3_solve_16.2.2.2.1
theorem dX3_solve_25 : decode cX3_solve 25 = .ok (.aload_n 0, 1) := q9_dX3_solve_16.2.2.2.2.1
theorem dX3_solve_26 : decode cX3_solve 26 = .ok (.getfield 18, 3) := q9_dX3_solve_16.2.2.2.2.2.1
theorem dX3_solve_29 : decode cX3_solve 29 = .ok (.aload_n 0, 1) := q9_dX3_solve_16.2.2.2.2.2.2.1
theorem dX3_solve_30 : decode cX3_solve 30 = .ok (.getfield 28, 3) := q9_dX3_solve_16.2.2.2.2.2.2.2.1
theorem dX3_solve_33 : decode cX3_solve 33 = .ok (.bipush 25, 2) := q9_dX3_solve_16.2.2.2.2.2.2.2.2.1
theorem dX3_solve_35 : decode cX3_solve 35 = .ok (.imul, 1) := q9_dX3_solve_16.2.2.2.2.2.2.2.2.2
theorem q9_dX3_solve_36 : (decode cX3_solve 36 = .ok (.iload 4, 2)) ∧ (decode cX3_solve 38 = .ok (.iadd, 1)) ∧ (decode cX3_solve 39 = .ok (.iconst 0, 1)) ∧ (decode cX3_solve 40 = .ok (.iastore, 1)) ∧ (decode cX3_solve 41 = .ok (.iinc 4 1, 3)) ∧ (decode cX3_solve 44 = .ok (.goto (-26), 3)) ∧ (decode cX3_solve 47 = .ok (.aload_n 0, 1)) ∧ (decode cX3_solve 48 = .ok (.getfield 28, 3)) ∧ (decode cX3_solve 51 = .ok (.iconst 1, 1)) ∧ (decode cX3_solve 52 = .ok (.isub, 1)) := by decide +kernel
theorem dX3_solve_36 : decode cX3_solve 36 = .ok (.iload 4, 2) := q9_dX3_solve_36.1
theorem dX3_solve_38 : decode cX3_solve 38 = .ok (.iadd, 1) := q9_dX3_solve_36.2.1
theorem dX3_solve_39 : decode cX3_solve 39 = .ok (.iconst 0, 1) := q9_dX3_solve_36.2.2.1
theorem dX3_solve_40 : decode cX3_solve 40 = .ok (.iastore, 1) := q9_dX3_solve_36.2.2.2.1
theorem dX3_solve_41 : decode cX3_solve 41 = .ok (.iinc 4 1, 3) := q9_dX3_solve_36.2.2.2.2.1
theorem dX3_solve_44 : decode cX3_solve 44 = .ok (.goto (-26), 3) := q9_dX3_solve_36.2.2.2.2.2.1
theorem dX3_solve_47 : decode cX3_solve 47 = .ok (.aload_n 0, 1) := q9_dX3_solve_36.2.2.2.2.2.2.1
theorem dX3_solve_48 : decode cX3_solve 48 = .ok (.getfield 28, 3) := q9_dX3_solve_36.2.2.2.2.2.2.2.1
theorem dX3_solve_51 : decode cX3_solve 51 = .ok (.iconst 1, 1) := q9_dX3_solve_36.2.2.2.2.2.2.2.2.1
theorem dX3_solve_52 : decode cX3_solve 52 = .ok (.isub, 1) := q9_dX3_solve_36.2.2.2.2.2.2.2.2.2
theorem q9_dX3_solve_53 : (decode cX3_solve 53 = .ok (.istore 4, 2)) ∧ (decode cX3_solve 55 = .ok (.iload 4, 2)) ∧ (decode cX3_solve 57 = .ok (.ifCond .lt 48, 3)) ∧ (decode cX3_solve 60 = .ok (.iconst 0, 1)) ∧ (decode cX3_solve 61 = .ok (.istore 5, 2)) ∧ (decode cX3_solve 63 = .ok (.iload 5, 2)) ∧ (decode cX3_solve 65 = .ok (.iload 4, 2)) ∧ (decode cX3_solve 67 = .ok (.iconst 3, 1)) ∧ (decode cX3_solve 68 = .ok (.imul, 1)) ∧ (decode cX3_solve 69 = .ok (.if_icmp .gt 30, 3)) := by decide +kernel
theorem dX3_solve_53 : decode cX3_solve 53 = .ok (.istore 4, 2) := q9_dX3_solve_53.1
theorem dX3_solve_55 : decode cX3_solve 55 = .ok (.iload 4, 2) := q9_dX3_solve_53.2.1
theorem dX3_solve_57 : decode cX3_solve 57 = .ok (.ifCond .lt 48, 3) := q9_dX3_solve_53.2.2.1
theorem dX3_solve_60 : decode cX3_solve 60 = .ok (.iconst 0, 1) := q9_dX3_solve_53.2.2.2.1
theorem dX3_solve_61 : decode cX3_solve 61 = .ok (.istore 5, 2) := q9_dX3_solve_53.2.2.2.2.1
theorem dX3_solve_63 : decode cX3_solve 63 = .ok (.iload 5, 2) := q9_dX3_solve_53.2.2.2.2.2.1
theorem dX3_solve_65 : decode cX3_solve 65 = .ok (.iload 4, 2) := q9_dX3_solve_53.2.2.2.2.2.2.1
theorem dX3_solve_67 : decode cX3_solve 67 = .ok (.iconst 3, 1) := q9_dX3_solve_53.2.2.2.2.2.2.2.1
theorem dX3_solve_68 : decode cX3_solve 68 = .ok (.imul, 1) := q9_dX3_solve_53.2.2.2.2.2.2.2.2.1
theorem dX3_solve_69 : decode cX3_solve 69 = .ok (.if_icmp .gt 30, 3) := q9_dX3_solve_53.2.2.2.2.2.2.2.2.2
theorem q9_dX3_solve_72 : (decode cX3_solve 72 = .ok (.aload_n 0, 1)) ∧ (decode cX3_solve 73 = .ok (.getfield 18, 3)) ∧ (decode cX3_solve 76 = .ok (.iload 4, 2)) ∧ (decode cX3_solve 78 = .ok (.bipush 25, 2)) ∧ (decode cX3_solve 80 = .ok (.imul, 1)) ∧ (decode cX3_solve 81 = .ok (.iload 5, 2)) ∧ (decode cX3_solve 83 = .ok (.iadd, 1)) ∧ (decode cX3_solve 84 = .ok (.aload_n 0, 1)) ∧ (decode cX3_solve 85 = .ok (.iload 4, 2)) ∧ (decode cX3_solve 87 = .ok (.iload 5, 2)) := by decide +kernel
theorem dX3_solve_72 : decode cX3_solve 72 = .ok (.aload_n 0, 1) := q9_dX3_solve_72.1
theorem dX3_solve_73 : decode cX3_solve 73 = .ok (.getfield 18, 3) := q9_dX3_solve_72.2.1
theorem dX3_solve_76 : decode cX3_solve 76 = .ok (.iload 4, 2) := q9_dX3_solve_72.2.2.1
theorem dX3_solve_78 : decode cX3_solve 78 = .ok (.bipush 25, 2) := q9_dX3_solve_72.2.2.2.1
theorem dX3_solve_80 : decode cX3_solve 80 = .ok (.imul, 1) := q9_dX3_solve_72.2.2.2.2.1
theorem dX3_solve_81 : decode cX3_solve 81 = .ok (.iload 5, 2) := q9_dX3_solve_72.2.2.2.2.2.1
theorem dX3_solve_83 : decode cX3_solve 83 = .ok (.iadd, 1) := q9_dX3_solve_72.2.2.2.2.2.2.1
theorem dX3_solve_84 : decode cX3_solve 84 = .ok (.aload_n 0, 1) := q9_dX3_solve_72.2.2.2.2.2.2.2.1
theorem dX3_solve_85 : decode cX3_solve 85 = .ok (.iload 4, 2) := q9_dX3_solve_72.2.2.2.2.2.2.2.2.1
theorem dX3_solve_87 : decode cX3_solve 87 = .ok (.iload 5, 2) := q9_dX3_solve_72.2.2.2.2.2.2.2.2.2
theorem q9_dX3_solve_89 : (decode cX3_solve 89 = .ok (.invokevirtual 44, 3)) ∧ (decode cX3_solve 92 = .ok (.iastore, 1)) ∧ (decode cX3_solve 93 = .ok (.iinc 5 1, 3)) ∧ (decode cX3_solve 96 = .ok (.goto (-33), 3)) ∧ (decode cX3_solve 99 = .ok (.iinc 4 (-1), 3)) ∧ (decode cX3_solve 102 = .ok (.goto (-47), 3)) ∧ (decode cX3_solve 105 = .ok (.aload_n 0, 1)) ∧ (decode cX3_solve 106 = .ok (.getfield 18, 3)) ∧ (decode cX3_solve 109 = .ok (.iconst 0, 1)) ∧ (decode cX3_solve 110 = .ok (.iaload, 1)) := by decide +kernel
theorem dX3_solve_89 : decode cX3_solve 89 = .ok (.invokevirtual 44, 3) := q9_dX3_solve_89.1
theorem dX3_solve_92 : decode cX3_solve 92 = .ok (.iastore, 1) := q9_dX3_solve_89.2.1
theorem dX3_solve_93 : decode cX3_solve 93 = .ok (.iinc 5 1, 3) := q9_dX3_solve_89.2.2.1
theorem dX3_solve_96 : decode cX3_solve 96 = .ok (.goto (-33), 3) := q9_dX3_solve_89.2.2.2.1
theorem dX3_solve_99 : decode cX3_solve 99 = .ok (.iinc 4 (-1), 3) := q9_dX3_solve_89.2.2.2.2.1
theorem dX3_solve_102 : decode cX3_solve 102 = .ok (.goto (-47), 3) := q9_dX3_solve_89.2.2.2.2.2.1
theorem dX3_solve_105 : decode cX3_solve 105 = .ok (.aload_n 0, 1) := q9_dX3_solve_89.2.2.2.2.2.2.1
theorem dX3_solve_106 : decode cX3_solve 106 = .ok (.getfield 18, 3) := q9_dX3_solve_89.2.2.2.2.2.2.2.1
theorem dX3_solve_109 : decode cX3_solve 109 = .ok (.iconst 0, 1) := q9_dX3_solve_89.2.2.2.2.2.2.2.2.1
theorem dX3_solve_110 : decode cX3_solve 110 = .ok (.iaload, 1) := q9_dX3_solve_89.2.2.2.2.2.2.2.2.2
theorem q9_dX3_solve_111 : (decode cX3_solve 111 = .ok (.ldc 48, 2)) ∧ (decode cX3_solve 113 = .ok (.if_icmp .lt 5, 3)) ∧ (decode cX3_solve 116 = .ok (.iconst (-1), 1)) ∧ (decode cX3_solve 117 = .ok (.ireturn, 1)) ∧ (decode cX3_solve 118 = .ok (.aload_n 0, 1)) ∧ (decode cX3_solve 119 = .ok (.invokevirtual 49, 3)) ∧ (decode cX3_solve 122 = .ok (.aload_n 0, 1)) ∧ (decode cX3_solve 123 = .ok (.getfield 18, 3)) ∧ (decode cX3_solve 126 = .ok (.iconst 0, 1)) ∧ (decode cX3_solve 127 = .ok (.iaload, 1)) := by decide +kernel
theorem dX3_solve_111 : decode cX3_solve 111 = .ok (.ldc 48, 2) := q9_dX3_solve_111.1
theorem dX3_solve_113 : decode cX3_solve 113 = .ok (.if_icmp .lt 5, 3) := q9_dX3_solve_111.2.1
theorem dX3_solve_116 : decode cX3_solve 116 = .ok (.iconst (-1), 1) := q9_dX3_solve_111.2.2.1
theorem dX3_solve_117 : decode cX3_solve 117 = .ok (.ireturn, 1) := q9_dX3_solve_111.2.2.2.1
theorem dX3_solve_118 : decode cX3_solve 118 = .ok (.aload_n 0, 1) := q9_dX3_solve_111.2.2.2.2.1
theorem dX3_solve_119 : decode cX3_solve 119 = .ok (.invokevirtual 49, 3) := q9_dX3_solve_111.2.2.2.2.2.1
theorem dX3_solve_122 : decode cX3_solve 122 = .ok (.aload_n 0, 1) := q9_dX3_solve_111.2.2.2.2.2.2.1
theorem dX3_solve_123 : decode cX3_solve 123 = .ok (.getfield 18, 3) := q9_dX3_solve_111.2.2.2.2.2.2.2.1
theorem dX3_solve_126 : decode cX3_solve 126 = .ok (.iconst 0, 1) := q9_dX3_solve_111.2.2.2.2.2.2.2.2.1
theorem dX3_solve_127 : decode cX3_solve 127 = .ok (.iaload, 1) := q9_dX3_solve_111.2.2.2.2.2.2.2.2.2
theorem q9_dX3_solve_128 : (decode cX3_solve 128 = .ok (.bipush 100, 2)) ∧ (decode cX3_solve 130 = .ok (.idiv, 1)) ∧ (decode cX3_solve 131 = .ok (.ireturn, 1)) := by decide +kernel
theorem dX3_solve_128 : decode cX3_solve 128 = .ok (.bipush 100, 2) := q9_dX3_solve_128.1
theorem dX3_solve_130 : decode cX3_solve 130 = .ok (.idiv, 1) := q9_dX3_solve_128.2.1
theorem dX3_solve_131 : decode cX3_solve 131 = .ok (.ireturn, 1) := q9_dX3_solve_128.2.2
set_option maxRecDepth 20000 in
theorem ggX3_leastOver_X3_weightWith : GoodIn wsX3_leastOver wsX3_weightWith := goodIn_r _ [11, 12, 13, 14, 1, 15, 16, 17, 18, 19, 20, 21, 22, 23, 24, 25, 26, 27, 28] rfl (by decide +kernel)
set_option maxRecDepth 20000 in
theorem gX3_leastOver_X3_weightWith : GoodIn wsX3_leastOver (wsV RX3 52 RX3 yX3_weightWith wsX3_weightWith) := goodIn_app (goodIn_of _ (by decide +kernel)) ggX3_leastOver_X3_weightWith
theorem q9_dX3_leastOver_0 : (decode cX3_leastOver 0 = .ok (.ldc 48, 2)) ∧ (decode cX3_leastOver 2 = .ok (.istore_n 3, 1)) ∧ (decode cX3_leastOver 3 = .ok (.iconst 0, 1)) ∧ (decode cX3_leastOver 4 = .ok (.istore 4, 2)) ∧ (decode cX3_leastOver 6 = .ok (.iload 4, 2)) ∧ (decode cX3_leastOver 8 = .ok (.aload_n 0, 1)) ∧ (decode cX3_leastOver 9 = .ok (.getfield 41, 3)) ∧ (decode cX3_leastOver 12 = .ok (.if_icmp .gt 22, 3)) ∧ (decode cX3_leastOver 15 = .ok (.iload_n 3, 1)) ∧ (decode cX3_leastOver 16 = .ok (.aload_n 0, 1)) := by decide +kernel
theorem dX3_leastOver_0 : decode cX3_leastOver 0 = .ok (.ldc 48, 2) := q9_dX3_leastOver_0.1
theorem dX3_leastOver_2 : decode cX3_leastOver 2 = .ok (.istore_n 3, 1) := q9_dX3_leastOver_0.2.1
theorem dX3_leastOver_3 : decode cX3_leastOver 3 = .ok (.iconst 0, 1) := q9_dX3_leastOver_0.2.2.1
theorem dX3_leastOver_4 : decode cX3_leastOver 4 = .ok (.istore 4, 2) := q9_dX3_leastOver_0.2.2.2.1
theorem dX3_leastOver_6 : decode cX3_leastOver 6 = .ok (.iload 4, 2) := q9_dX3_leastOver_0.2.2.2.2.1
theorem dX3_leastOver_8 : decode cX3_leastOver 8 = .ok (.aload_n 0, 1) := q9_dX3_leastOver_0.2.2.2.2.2.1
theorem dX3_leastOver_9 : decode cX3_leastOver 9 = .ok (.getfield 41, 3) := q9_dX3_leastOver_0.2.2.2.2.2.2.1
theorem dX3_leastOver_12 : decode cX3_leastOver 12 = .ok (.if_icmp .gt 22, 3) := q9_dX3_leastOver_0.2.2.2.2.2.2.2.1
theorem dX3_leastOver_15 : decode cX3_leastOver 15 = .ok (.iload_n 3, 1) := q9_dX3_leastOver_0.2.2.2.2.2.2.2.2.1
theorem dX3_leastOver_16 : decode cX3_leastOver 16 = .ok (.aload_n 0, 1) := q9_dX3_leastOver_0.2.2.2.2.2.2.2.2.2
theorem q9_dX3_leastOver_17 : (decode cX3_leastOver 17 = .ok (.iload_n 1, 1)) ∧ (decode cX3_leastOver 18 = .ok (.iload_n 2, 1)) ∧ (decode cX3_leastOver 19 = .ok (.iload 4, 2)) ∧ (decode cX3_leastOver 21 = .ok (.invokevirtual 52, 3)) ∧ (decode cX3_leastOver 24 = .ok (.invokestatic 56, 3)) ∧ (decode cX3_leastOver 27 = .ok (.istore_n 3, 1)) ∧ (decode cX3_leastOver 28 = .ok (.iinc 4 1, 3)) ∧ (decode cX3_leastOver 31 = .ok (.goto (-25), 3)) ∧ (decode cX3_leastOver 34 = .ok (.iload_n 3, 1)) ∧ (decode cX3_leastOver 35 = .ok (.ireturn, 1)) := by decide +kernel
theorem dX3_leastOver_17 : decode cX3_leastOver 17 = .ok (.iload_n 1, 1) := q9_dX3_leastOver_17.1
theorem dX3_leastOver_18 : decode cX3_leastOver 18 = .ok (.iload_n 2, 1) := q9_dX3_leastOver_17.2.1
theorem dX3_leastOver_19 : decode cX3_leastOver 19 = .ok (.iload 4, 2) := q9_dX3_leastOver_17.2.2.1
theorem dX3_leastOver_21 : decode cX3_leastOver 21 = .ok (.invokevirtual 52, 3) := q9_dX3_leastOver_17.2.2.2.1
theorem dX3_leastOver_24 : decode cX3_leastOver 24 = .ok (.invokestatic 56, 3) := q9_dX3_leastOver_17.2.2.2.2.1
theorem dX3_leastOver_27 : decode cX3_leastOver 27 = .ok (.istore_n 3, 1) := q9_dX3_leastOver_17.2.2.2.2.2.1
theorem dX3_leastOver_28 : decode cX3_leastOver 28 = .ok (.iinc 4 1, 3) := q9_dX3_leastOver_17.2.2.2.2.2.2.1
theorem dX3_leastOver_31 : decode cX3_leastOver 31 = .ok (.goto (-25), 3) := q9_dX3_leastOver_17.2.2.2.2.2.2.2.1
theorem dX3_leastOver_34 : decode cX3_leastOver 34 = .ok (.iload_n 3, 1) := q9_dX3_leastOver_17.2.2.2.2.2.2.2.2.1
theorem dX3_leastOver_35 : decode cX3_leastOver 35 = .ok (.ireturn, 1) := q9_dX3_leastOver_17.2.2.2.2.2.2.2.2.2
set_option maxRecDepth 20000 in
theorem ggX3_keepRow_X3_leastOn : GoodIn wsX3_keepRow wsX3_leastOn := goodIn_r _ [8, 9, 10, 11, 12, 7, 13, 14, 15, 16, 17, 18, 19, 20, 21, 22, 23, 24, 25, 26, 27, 28, 29, 30, 31, 32, 33, 34, 35, 36, 37, 38, 39] rfl (by decide +kernel)
set_option maxRecDepth 20000 in
theorem gX3_keepRow_X3_leastOn : GoodIn wsX3_keepRow (wsV RX3 61 RX3 yX3_leastOn wsX3_leastOn) := goodIn_app (goodIn_of _ (by decide +kernel)) ggX3_keepRow_X3_leastOn
theorem q9_dX3_keepRow_0 : (decode cX3_keepRow 0 = .ok (.aload_n 0, 1)) ∧ (decode cX3_keepRow 1 = .ok (.aload_n 0, 1)) ∧ (decode cX3_keepRow 2 = .ok (.getfield 28, 3)) ∧ (decode cX3_keepRow 5 = .ok (.putfield 24, 3)) ∧ (decode cX3_keepRow 8 = .ok (.iconst 0, 1)) ∧ (decode cX3_keepRow 9 = .ok (.istore_n 1, 1)) ∧ (decode cX3_keepRow 10 = .ok (.iconst 0, 1)) ∧ (decode cX3_keepRow 11 = .ok (.istore_n 2, 1)) ∧ (decode cX3_keepRow 12 = .ok (.iload_n 2, 1)) ∧ (decode cX3_keepRow 13 = .ok (.aload_n 0, 1)) := by decide +kernel
theorem dX3_keepRow_0 : decode cX3_keepRow 0 = .ok (.aload_n 0, 1) := q9_dX3_keepRow_0.1
theorem dX3_keepRow_1 : decode cX3_keepRow 1 = .ok (.aload_n 0, 1) := q9_dX3_keepRow_0.2.1
theorem dX3_keepRow_2 : decode cX3_keepRow 2 = .ok (.getfield 28, 3) := q9_dX3_keepRow_0.2.2.1
theorem dX3_keepRow_5 : decode cX3_keepRow 5 = .ok (.putfield 24, 3) := q9_dX3_keepRow_0.2.2.2.1
theorem dX3_keepRow_8 : decode cX3_keepRow 8 = .ok (.iconst 0, 1) := q9_dX3_keepRow_0.2.2.2.2.1
theorem dX3_keepRow_9 : decode cX3_keepRow 9 = .ok (.istore_n 1, 1) := q9_dX3_keepRow_0.2.2.2.2.2.1
theorem dX3_keepRow_10 : decode cX3_keepRow 10 = .ok (.iconst 0, 1) := q9_dX3_keepRow_0.2.2.2.2.2.2.1
theorem dX3_keepRow_11 : decode cX3_keepRow 11 = .ok (.istore_n 2, 1) := q9_dX3_keepRow_0.2.2.2.2.2.2.2.1
theorem dX3_keepRow_12 : decode cX3_keepRow 12 = .ok (.iload_n 2, 1) := q9_dX3_keepRow_0.2.2.2.2.2.2.2.2.1
theorem dX3_keepRow_13 : decode cX3_keepRow 13 = .ok (.aload_n 0, 1) := q9_dX3_keepRow_0.2.2.2.2.2.2.2.2.2
theorem q9_dX3_keepRow_14 : (decode cX3_keepRow 14 = .ok (.getfield 28, 3)) ∧ (decode cX3_keepRow 17 = .ok (.if_icmp .ge 27, 3)) ∧ (decode cX3_keepRow 20 = .ok (.aload_n 0, 1)) ∧ (decode cX3_keepRow 21 = .ok (.iload_n 2, 1)) ∧ (decode cX3_keepRow 22 = .ok (.iload_n 1, 1)) ∧ (decode cX3_keepRow 23 = .ok (.invokevirtual 61, 3)) ∧ (decode cX3_keepRow 26 = .ok (.istore_n 3, 1)) ∧ (decode cX3_keepRow 27 = .ok (.aload_n 0, 1)) ∧ (decode cX3_keepRow 28 = .ok (.getfield 21, 3)) ∧ (decode cX3_keepRow 31 = .ok (.iload_n 2, 1)) := by decide +kernel
theorem dX3_keepRow_14 : decode cX3_keepRow 14 = .ok (.getfield 28, 3) := q9_dX3_keepRow_14.1
theorem dX3_keepRow_17 : decode cX3_keepRow 17 = .ok (.if_icmp .ge 27, 3) := q9_dX3_keepRow_14.2.1
theorem dX3_keepRow_20 : decode cX3_keepRow 20 = .ok (.aload_n 0, 1) := q9_dX3_keepRow_14.2.2.1
theorem dX3_keepRow_21 : decode cX3_keepRow 21 = .ok (.iload_n 2, 1) := q9_dX3_keepRow_14.2.2.2.1
theorem dX3_keepRow_22 : decode cX3_keepRow 22 = .ok (.iload_n 1, 1) := q9_dX3_keepRow_14.2.2.2.2.1
theorem dX3_keepRow_23 : decode cX3_keepRow 23 = .ok (.invokevirtual 61, 3) := q9_dX3_keepRow_14.2.2.2.2.2.1
theorem dX3_keepRow_26 : decode cX3_keepRow 26 = .ok (.istore_n 3, 1) := q9_dX3_keepRow_14.2.2.2.2.2.2.1
theorem dX3_keepRow_27 : decode cX3_keepRow 27 = .ok (.aload_n 0, 1) := q9_dX3_keepRow_14.2.2.2.2.2.2.2.1
theorem dX3_keepRow_28 : decode cX3_keepRow 28 = .ok (.getfield 21, 3) := q9_dX3_keepRow_14.2.2.2.2.2.2.2.2.1
theorem dX3_keepRow_31 : decode cX3_keepRow 31 = .ok (.iload_n 2, 1) := q9_dX3_keepRow_14.2.2.2.2.2.2.2.2.2
theorem q9_dX3_keepRow_32 : (decode cX3_keepRow 32 = .ok (.iload_n 3, 1)) ∧ (decode cX3_keepRow 33 = .ok (.iastore, 1)) ∧ (decode cX3_keepRow 34 = .ok (.iload_n 1, 1)) ∧ (decode cX3_keepRow 35 = .ok (.iload_n 3, 1)) ∧ (decode cX3_keepRow 36 = .ok (.iadd, 1)) ∧ (decode cX3_keepRow 37 = .ok (.istore_n 1, 1)) ∧ (decode cX3_keepRow 38 = .ok (.iinc 2 1, 3)) ∧ (decode cX3_keepRow 41 = .ok (.goto (-29), 3)) ∧ (decode cX3_keepRow 44 = .ok (.return_, 1)) := by decide +kernel
theorem dX3_keepRow_32 : decode cX3_keepRow 32 = .ok (.iload_n 3, 1) := q9_dX3_keepRow_32.1
theorem dX3_keepRow_33 : decode cX3_keepRow 33 = .ok (.iastore, 1) := q9_dX3_keepRow_32.2.1
theorem dX3_keepRow_34 : decode cX3_keepRow 34 = .ok (.iload_n 1, 1) := q9_dX3_keepRow_32.2.2.1
theorem dX3_keepRow_35 : decode cX3_keepRow 35 = .ok (.iload_n 3, 1) := q9_dX3_keepRow_32.2.2.2.1
theorem dX3_keepRow_36 : decode cX3_keepRow 36 = .ok (.iadd, 1) := q9_dX3_keepRow_32.2.2.2.2.1
theorem dX3_keepRow_37 : decode cX3_keepRow 37 = .ok (.istore_n 1, 1) := q9_dX3_keepRow_32.2.2.2.2.2.1
theorem dX3_keepRow_38 : decode cX3_keepRow 38 = .ok (.iinc 2 1, 3) := q9_dX3_keepRow_32.2.2.2.2.2.2.1
theorem dX3_keepRow_41 : decode cX3_keepRow 41 = .ok (.goto (-29), 3) := q9_dX3_keepRow_32.2.2.2.2.2.2.2.1
theorem dX3_keepRow_44 : decode cX3_keepRow 44 = .ok (.return_, 1) := q9_dX3_keepRow_32.2.2.2.2.2.2.2.2
set_option maxRecDepth 20000 in
theorem ggX3_leastOn_X3_leastOver : GoodIn wsX3_leastOn wsX3_leastOver := goodIn_r _ [6, 7, 1, 8, 9, 10, 11, 12, 13, 14, 5, 15, 16, 17, 18, 19, 20, 21, 22, 23, 24, 25, 26, 27, 28, 29, 30, 31, 32] rfl (by decide +kernel)
set_option maxRecDepth 20000 in
theorem gX3_leastOn_X3_leastOver : GoodIn wsX3_leastOn (wsV RX3 44 RX3 yX3_leastOver wsX3_leastOver) := goodIn_app (goodIn_of _ (by decide +kernel)) ggX3_leastOn_X3_leastOver
set_option maxRecDepth 20000 in
theorem ggX3_leastOn_X3_weightWith : GoodIn wsX3_leastOn wsX3_weightWith := goodIn_r _ [15, 16, 17, 18, 7, 19, 20, 21, 22, 23, 24, 25, 26, 27, 28, 29, 30, 31, 32] rfl (by decide +kernel)
set_option maxRecDepth 20000 in
theorem gX3_leastOn_X3_weightWith : GoodIn wsX3_leastOn (wsV RX3 52 RX3 yX3_weightWith wsX3_weightWith) := goodIn_app (goodIn_of _ (by decide +kernel)) ggX3_leastOn_X3_weightWith
theorem q9_dX3_leastOn_0 : (decode cX3_leastOn 0 = .ok (.aload_n 0, 1)) ∧ (decode cX3_leastOn 1 = .ok (.iload_n 1, 1)) ∧ (decode cX3_leastOn 2 = .ok (.iload_n 2, 1)) ∧ (decode cX3_leastOn 3 = .ok (.invokevirtual 44, 3)) ∧ (decode cX3_leastOn 6 = .ok (.istore_n 3, 1)) ∧ (decode cX3_leastOn 7 = .ok (.iconst 0, 1)) ∧ (decode cX3_leastOn 8 = .ok (.istore 4, 2)) ∧ (decode cX3_leastOn 10 = .ok (.iload 4, 2)) ∧ (decode cX3_leastOn 12 = .ok (.aload_n 0, 1)) ∧ (decode cX3_leastOn 13 = .ok (.getfield 41, 3)) := by decide +kernel
theorem dX3_leastOn_0 : decode cX3_leastOn 0 = .ok (.aload_n 0, 1) := q9_dX3_leastOn_0.1
theorem dX3_leastOn_1 : decode cX3_leastOn 1 = .ok (.iload_n 1, 1) := q9_dX3_leastOn_0.2.1
theorem dX3_leastOn_2 : decode cX3_leastOn 2 = .ok (.iload_n 2, 1) := q9_dX3_leastOn_0.2.2.1
theorem dX3_leastOn_3 : decode cX3_leastOn 3 = .ok (.invokevirtual 44, 3) := q9_dX3_leastOn_0.2.2.2.1
theorem dX3_leastOn_6 : decode cX3_leastOn 6 = .ok (.istore_n 3, 1) := q9_dX3_leastOn_0.2.2.2.2.1
theorem dX3_leastOn_7 : decode cX3_leastOn 7 = .ok (.iconst 0, 1) := q9_dX3_leastOn_0.2.2.2.2.2.1
theorem dX3_leastOn_8 : decode cX3_leastOn 8 = .ok (.istore 4, 2) := q9_dX3_leastOn_0.2.2.2.2.2.2.1
theorem dX3_leastOn_10 : decode cX3_leastOn 10 = .ok (.iload 4, 2) := q9_dX3_leastOn_0.2.2.2.2.2.2.2.1
theorem dX3_leastOn_12 : decode cX3_leastOn 12 = .ok (.aload_n 0, 1) := q9_dX3_leastOn_0.2.2.2.2.2.2.2.2.1
theorem dX3_leastOn_13 : decode cX3_leastOn 13 = .ok (.getfield 41, 3) := q9_dX3_leastOn_0.2.2.2.2.2.2.2.2.2
theorem q9_dX3_leastOn_16 : (decode cX3_leastOn 16 = .ok (.if_icmp .ge 24, 3)) ∧ (decode cX3_leastOn 19 = .ok (.aload_n 0, 1)) ∧ (decode cX3_leastOn 20 = .ok (.iload_n 1, 1)) ∧ (decode cX3_leastOn 21 = .ok (.iload_n 2, 1)) ∧ (decode cX3_leastOn 22 = .ok (.iload 4, 2)) ∧ (decode cX3_leastOn 24 = .ok (.invokevirtual 52, 3)) ∧ (decode cX3_leastOn 27 = .ok (.iload_n 3, 1)) ∧ (decode cX3_leastOn 28 = .ok (.if_icmp .ne 6, 3)) ∧ (decode cX3_leastOn 31 = .ok (.iload 4, 2)) ∧ (decode cX3_leastOn 33 = .ok (.ireturn, 1)) := by decide +kernel
theorem dX3_leastOn_16 : decode cX3_leastOn 16 = .ok (.if_icmp .ge 24, 3) := q9_dX3_leastOn_16.1
theorem dX3_leastOn_19 : decode cX3_leastOn 19 = .ok (.aload_n 0, 1) := q9_dX3_leastOn_16.2.1
theorem dX3_leastOn_20 : decode cX3_leastOn 20 = .ok (.iload_n 1, 1) := q9_dX3_leastOn_16.2.2.1
theorem dX3_leastOn_21 : decode cX3_leastOn 21 = .ok (.iload_n 2, 1) := q9_dX3_leastOn_16.2.2.2.1
theorem dX3_leastOn_22 : decode cX3_leastOn 22 = .ok (.iload 4, 2) := q9_dX3_leastOn_16.2.2.2.2.1
theorem dX3_leastOn_24 : decode cX3_leastOn 24 = .ok (.invokevirtual 52, 3) := q9_dX3_leastOn_16.2.2.2.2.2.1
theorem dX3_leastOn_27 : decode cX3_leastOn 27 = .ok (.iload_n 3, 1) := q9_dX3_leastOn_16.2.2.2.2.2.2.1
theorem dX3_leastOn_28 : decode cX3_leastOn 28 = .ok (.if_icmp .ne 6, 3) := q9_dX3_leastOn_16.2.2.2.2.2.2.2.1
theorem dX3_leastOn_31 : decode cX3_leastOn 31 = .ok (.iload 4, 2) := q9_dX3_leastOn_16.2.2.2.2.2.2.2.2.1
theorem dX3_leastOn_33 : decode cX3_leastOn 33 = .ok (.ireturn, 1) := q9_dX3_leastOn_16.2.2.2.2.2.2.2.2.2
theorem q9_dX3_leastOn_34 : (decode cX3_leastOn 34 = .ok (.iinc 4 1, 3)) ∧ (decode cX3_leastOn 37 = .ok (.goto (-27), 3)) ∧ (decode cX3_leastOn 40 = .ok (.aload_n 0, 1)) ∧ (decode cX3_leastOn 41 = .ok (.getfield 41, 3)) ∧ (decode cX3_leastOn 44 = .ok (.ireturn, 1)) := by decide +kernel
theorem dX3_leastOn_34 : decode cX3_leastOn 34 = .ok (.iinc 4 1, 3) := q9_dX3_leastOn_34.1
theorem dX3_leastOn_37 : decode cX3_leastOn 37 = .ok (.goto (-27), 3) := q9_dX3_leastOn_34.2.1
theorem dX3_leastOn_40 : decode cX3_leastOn 40 = .ok (.aload_n 0, 1) := q9_dX3_leastOn_34.2.2.1
theorem dX3_leastOn_41 : decode cX3_leastOn 41 = .ok (.getfield 41, 3) := q9_dX3_leastOn_34.2.2.2.1
theorem dX3_leastOn_44 : decode cX3_leastOn 44 = .ok (.ireturn, 1) := q9_dX3_leastOn_34.2.2.2.2
set_option maxRecDepth 20000 in
theorem ggX3_weightWith_X8_isBelow : GoodIn wsX3_weightWith wsX8_isBelow := goodIn_r _ [9] rfl (by decide +kernel)
set_option maxRecDepth 20000 in
theorem gX3_weightWith_X8_isBelow_n31 : GoodIn wsX3_weightWith (wsX8_isBelow) := ggX3_weightWith_X8_isBelow
theorem q9_dX3_weightWith_0 : (decode cX3_weightWith 0 = .ok (.aload_n 0, 1)) ∧ (decode cX3_weightWith 1 = .ok (.getfield 35, 3)) ∧ (decode cX3_weightWith 4 = .ok (.bipush 20, 2)) ∧ (decode cX3_weightWith 6 = .ok (.iload_n 2, 1)) ∧ (decode cX3_weightWith 7 = .ok (.iload_n 3, 1)) ∧ (decode cX3_weightWith 8 = .ok (.iadd, 1)) ∧ (decode cX3_weightWith 9 = .ok (.imul, 1)) ∧ (decode cX3_weightWith 10 = .ok (.iadd, 1)) ∧ (decode cX3_weightWith 11 = .ok (.istore 4, 2)) ∧ (decode cX3_weightWith 13 = .ok (.iload_n 1, 1)) := by decide +kernel
theorem dX3_weightWith_0 : decode cX3_weightWith 0 = .ok (.aload_n 0, 1) := q9_dX3_weightWith_0.1
theorem dX3_weightWith_1 : decode cX3_weightWith 1 = .ok (.getfield 35, 3) := q9_dX3_weightWith_0.2.1
theorem dX3_weightWith_4 : decode cX3_weightWith 4 = .ok (.bipush 20, 2) := q9_dX3_weightWith_0.2.2.1
theorem dX3_weightWith_6 : decode cX3_weightWith 6 = .ok (.iload_n 2, 1) := q9_dX3_weightWith_0.2.2.2.1
theorem dX3_weightWith_7 : decode cX3_weightWith 7 = .ok (.iload_n 3, 1) := q9_dX3_weightWith_0.2.2.2.2.1
theorem dX3_weightWith_8 : decode cX3_weightWith 8 = .ok (.iadd, 1) := q9_dX3_weightWith_0.2.2.2.2.2.1
theorem dX3_weightWith_9 : decode cX3_weightWith 9 = .ok (.imul, 1) := q9_dX3_weightWith_0.2.2.2.2.2.2.1
theorem dX3_weightWith_10 : decode cX3_weightWith 10 = .ok (.iadd, 1) := q9_dX3_weightWith_0.2.2.2.2.2.2.2.1
theorem dX3_weightWith_11 : decode cX3_weightWith 11 = .ok (.istore 4, 2) := q9_dX3_weightWith_0.2.2.2.2.2.2.2.2.1
theorem dX3_weightWith_13 : decode cX3_weightWith 13 = .ok (.iload_n 1, 1) := q9_dX3_weightWith_0.2.2.2.2.2.2.2.2.2
theorem q9_dX3_weightWith_14 : (decode cX3_weightWith 14 = .ok (.iconst 1, 1)) ∧ (decode cX3_weightWith 15 = .ok (.iadd, 1)) ∧ (decode cX3_weightWith 16 = .ok (.bipush 25, 2)) ∧ (decode cX3_weightWith 18 = .ok (.imul, 1)) ∧ (decode cX3_weightWith 19 = .ok (.iload_n 2, 1)) ∧ (decode cX3_weightWith 20 = .ok (.iadd, 1)) ∧ (decode cX3_weightWith 21 = .ok (.iload_n 3, 1)) ∧ (decode cX3_weightWith 22 = .ok (.iadd, 1)) ∧ (decode cX3_weightWith 23 = .ok (.istore 5, 2)) ∧ (decode cX3_weightWith 25 = .ok (.iload 4, 2)) := by decide +kernel
theorem dX3_weightWith_14 : decode cX3_weightWith 14 = .ok (.iconst 1, 1) := q9_dX3_weightWith_14.1
theorem dX3_weightWith_15 : decode cX3_weightWith 15 = .ok (.iadd, 1) := q9_dX3_weightWith_14.2.1
theorem dX3_weightWith_16 : decode cX3_weightWith 16 = .ok (.bipush 25, 2) := q9_dX3_weightWith_14.2.2.1
theorem dX3_weightWith_18 : decode cX3_weightWith 18 = .ok (.imul, 1) := q9_dX3_weightWith_14.2.2.2.1
theorem dX3_weightWith_19 : decode cX3_weightWith 19 = .ok (.iload_n 2, 1) := q9_dX3_weightWith_14.2.2.2.2.1
theorem dX3_weightWith_20 : decode cX3_weightWith 20 = .ok (.iadd, 1) := q9_dX3_weightWith_14.2.2.2.2.2.1
theorem dX3_weightWith_21 : decode cX3_weightWith 21 = .ok (.iload_n 3, 1) := q9_dX3_weightWith_14.2.2.2.2.2.2.1
theorem dX3_weightWith_22 : decode cX3_weightWith 22 = .ok (.iadd, 1) := q9_dX3_weightWith_14.2.2.2.2.2.2.2.1
theorem dX3_weightWith_23 : decode cX3_weightWith 23 = .ok (.istore 5, 2) := q9_dX3_weightWith_14.2.2.2.2.2.2.2.2.1
theorem dX3_weightWith_25 : decode cX3_weightWith 25 = .ok (.iload 4, 2) := q9_dX3_weightWith_14.2.2.2.2.2.2.2.2.2
theorem q9_dX3_weightWith_27 : (decode cX3_weightWith 27 = .ok (.aload_n 0, 1)) ∧ (decode cX3_weightWith 28 = .ok (.getfield 9, 3)) ∧ (decode cX3_weightWith 31 = .ok (.iload_n 1, 1)) ∧ (decode cX3_weightWith 32 = .ok (.iaload, 1)) ∧ (decode cX3_weightWith 33 = .ok (.isub, 1)) ∧ (decode cX3_weightWith 34 = .ok (.aload_n 0, 1)) ∧ (decode cX3_weightWith 35 = .ok (.getfield 38, 3)) ∧ (decode cX3_weightWith 38 = .ok (.if_icmp .gt 17, 3)) ∧ (decode cX3_weightWith 41 = .ok (.iload 4, 2)) ∧ (decode cX3_weightWith 43 = .ok (.aload_n 0, 1)) := by decide +kernel
theorem dX3_weightWith_27 : decode cX3_weightWith 27 = .ok (.aload_n 0, 1) := q9_dX3_weightWith_27.1
theorem dX3_weightWith_28 : decode cX3_weightWith 28 = .ok (.getfield 9, 3) := q9_dX3_weightWith_27.2.1
theorem dX3_weightWith_31 : decode cX3_weightWith 31 = .ok (.iload_n 1, 1) := q9_dX3_weightWith_27.2.2.1
theorem dX3_weightWith_32 : decode cX3_weightWith 32 = .ok (.iaload, 1) := q9_dX3_weightWith_27.2.2.2.1
theorem dX3_weightWith_33 : decode cX3_weightWith 33 = .ok (.isub, 1) := q9_dX3_weightWith_27.2.2.2.2.1
theorem dX3_weightWith_34 : decode cX3_weightWith 34 = .ok (.aload_n 0, 1) := q9_dX3_weightWith_27.2.2.2.2.2.1
theorem dX3_weightWith_35 : decode cX3_weightWith 35 = .ok (.getfield 38, 3) := q9_dX3_weightWith_27.2.2.2.2.2.2.1
theorem dX3_weightWith_38 : decode cX3_weightWith 38 = .ok (.if_icmp .gt 17, 3) := q9_dX3_weightWith_27.2.2.2.2.2.2.2.1
theorem dX3_weightWith_41 : decode cX3_weightWith 41 = .ok (.iload 4, 2) := q9_dX3_weightWith_27.2.2.2.2.2.2.2.2.1
theorem dX3_weightWith_43 : decode cX3_weightWith 43 = .ok (.aload_n 0, 1) := q9_dX3_weightWith_27.2.2.2.2.2.2.2.2.2
theorem q9_dX3_weightWith_44 : (decode cX3_weightWith 44 = .ok (.getfield 9, 3)) ∧ (decode cX3_weightWith 47 = .ok (.iload_n 1, 1)) ∧ (decode cX3_weightWith 48 = .ok (.iconst 1, 1)) ∧ (decode cX3_weightWith 49 = .ok (.iadd, 1)) ∧ (decode cX3_weightWith 50 = .ok (.iaload, 1)) ∧ (decode cX3_weightWith 51 = .ok (.isub, 1)) ∧ (decode cX3_weightWith 52 = .ok (.ifCond .ge 6, 3)) ∧ (decode cX3_weightWith 55 = .ok (.ldc 48, 2)) ∧ (decode cX3_weightWith 57 = .ok (.ireturn, 1)) ∧ (decode cX3_weightWith 58 = .ok (.iload 5, 2)) := by decide +kernel
theorem dX3_weightWith_44 : decode cX3_weightWith 44 = .ok (.getfield 9, 3) := q9_dX3_weightWith_44.1
theorem dX3_weightWith_47 : decode cX3_weightWith 47 = .ok (.iload_n 1, 1) := q9_dX3_weightWith_44.2.1
theorem dX3_weightWith_48 : decode cX3_weightWith 48 = .ok (.iconst 1, 1) := q9_dX3_weightWith_44.2.2.1
theorem dX3_weightWith_49 : decode cX3_weightWith 49 = .ok (.iadd, 1) := q9_dX3_weightWith_44.2.2.2.1
theorem dX3_weightWith_50 : decode cX3_weightWith 50 = .ok (.iaload, 1) := q9_dX3_weightWith_44.2.2.2.2.1
theorem dX3_weightWith_51 : decode cX3_weightWith 51 = .ok (.isub, 1) := q9_dX3_weightWith_44.2.2.2.2.2.1
theorem dX3_weightWith_52 : decode cX3_weightWith 52 = .ok (.ifCond .ge 6, 3) := q9_dX3_weightWith_44.2.2.2.2.2.2.1
theorem dX3_weightWith_55 : decode cX3_weightWith 55 = .ok (.ldc 48, 2) := q9_dX3_weightWith_44.2.2.2.2.2.2.2.1
theorem dX3_weightWith_57 : decode cX3_weightWith 57 = .ok (.ireturn, 1) := q9_dX3_weightWith_44.2.2.2.2.2.2.2.2.1
theorem dX3_weightWith_58 : decode cX3_weightWith 58 = .ok (.iload 5, 2) := q9_dX3_weightWith_44.2.2.2.2.2.2.2.2.2
theorem q9_dX3_weightWith_60 : (decode cX3_weightWith 60 = .ok (.aload_n 0, 1)) ∧ (decode cX3_weightWith 61 = .ok (.getfield 18, 3)) ∧ (decode cX3_weightWith 64 = .ok (.arraylength, 1)) ∧ (decode cX3_weightWith 65 = .ok (.invokestatic 31, 3)) ∧ (decode cX3_weightWith 68 = .ok (.ifCond .eq 15, 3)) ∧ (decode cX3_weightWith 71 = .ok (.aload_n 0, 1)) ∧ (decode cX3_weightWith 72 = .ok (.getfield 18, 3)) ∧ (decode cX3_weightWith 75 = .ok (.iload 5, 2)) ∧ (decode cX3_weightWith 77 = .ok (.iaload, 1)) ∧ (decode cX3_weightWith 78 = .ok (.ldc 48, 2)) := by decide +kernel
theorem dX3_weightWith_60 : decode cX3_weightWith 60 = .ok (.aload_n 0, 1) := q9_dX3_weightWith_60.1
theorem dX3_weightWith_61 : decode cX3_weightWith 61 = .ok (.getfield 18, 3) := q9_dX3_weightWith_60.2.1
theorem dX3_weightWith_64 : decode cX3_weightWith 64 = .ok (.arraylength, 1) := q9_dX3_weightWith_60.2.2.1
theorem dX3_weightWith_65 : decode cX3_weightWith 65 = .ok (.invokestatic 31, 3) := q9_dX3_weightWith_60.2.2.2.1
theorem dX3_weightWith_68 : decode cX3_weightWith 68 = .ok (.ifCond .eq 15, 3) := q9_dX3_weightWith_60.2.2.2.2.1
theorem dX3_weightWith_71 : decode cX3_weightWith 71 = .ok (.aload_n 0, 1) := q9_dX3_weightWith_60.2.2.2.2.2.1
theorem dX3_weightWith_72 : decode cX3_weightWith 72 = .ok (.getfield 18, 3) := q9_dX3_weightWith_60.2.2.2.2.2.2.1
theorem dX3_weightWith_75 : decode cX3_weightWith 75 = .ok (.iload 5, 2) := q9_dX3_weightWith_60.2.2.2.2.2.2.2.1
theorem dX3_weightWith_77 : decode cX3_weightWith 77 = .ok (.iaload, 1) := q9_dX3_weightWith_60.2.2.2.2.2.2.2.2.1
theorem dX3_weightWith_78 : decode cX3_weightWith 78 = .ok (.ldc 48, 2) := q9_dX3_weightWith_60.2.2.2.2.2.2.2.2.2
theorem q9_dX3_weightWith_80 : (decode cX3_weightWith 80 = .ok (.if_icmp .lt 6, 3)) ∧ (decode cX3_weightWith 83 = .ok (.ldc 48, 2)) ∧ (decode cX3_weightWith 85 = .ok (.ireturn, 1)) ∧ (decode cX3_weightWith 86 = .ok (.aload_n 0, 1)) ∧ (decode cX3_weightWith 87 = .ok (.getfield 18, 3)) ∧ (decode cX3_weightWith 90 = .ok (.iload 5, 2)) ∧ (decode cX3_weightWith 92 = .ok (.iaload, 1)) ∧ (decode cX3_weightWith 93 = .ok (.iload_n 3, 1)) ∧ (decode cX3_weightWith 94 = .ok (.aload_n 0, 1)) ∧ (decode cX3_weightWith 95 = .ok (.getfield 15, 3)) := by decide +kernel
theorem dX3_weightWith_80 : decode cX3_weightWith 80 = .ok (.if_icmp .lt 6, 3) := q9_dX3_weightWith_80.1
theorem dX3_weightWith_83 : decode cX3_weightWith 83 = .ok (.ldc 48, 2) := q9_dX3_weightWith_80.2.1
theorem dX3_weightWith_85 : decode cX3_weightWith 85 = .ok (.ireturn, 1) := q9_dX3_weightWith_80.2.2.1
theorem dX3_weightWith_86 : decode cX3_weightWith 86 = .ok (.aload_n 0, 1) := q9_dX3_weightWith_80.2.2.2.1
theorem dX3_weightWith_87 : decode cX3_weightWith 87 = .ok (.getfield 18, 3) := q9_dX3_weightWith_80.2.2.2.2.1
theorem dX3_weightWith_90 : decode cX3_weightWith 90 = .ok (.iload 5, 2) := q9_dX3_weightWith_80.2.2.2.2.2.1
theorem dX3_weightWith_92 : decode cX3_weightWith 92 = .ok (.iaload, 1) := q9_dX3_weightWith_80.2.2.2.2.2.2.1
theorem dX3_weightWith_93 : decode cX3_weightWith 93 = .ok (.iload_n 3, 1) := q9_dX3_weightWith_80.2.2.2.2.2.2.2.1
theorem dX3_weightWith_94 : decode cX3_weightWith 94 = .ok (.aload_n 0, 1) := q9_dX3_weightWith_80.2.2.2.2.2.2.2.2.1
theorem dX3_weightWith_95 : decode cX3_weightWith 95 = .ok (.getfield 15, 3) := q9_dX3_weightWith_80.2.2.2.2.2.2.2.2.2
theorem q9_dX3_weightWith_98 : (decode cX3_weightWith 98 = .ok (.iload_n 1, 1)) ∧ (decode cX3_weightWith 99 = .ok (.iaload, 1)) ∧ (decode cX3_weightWith 100 = .ok (.bipush 100, 2)) ∧ (decode cX3_weightWith 102 = .ok (.imul, 1)) ∧ (decode cX3_weightWith 103 = .ok (.iconst 1, 1)) ∧ (decode cX3_weightWith 104 = .ok (.iadd, 1)) ∧ (decode cX3_weightWith 105 = .ok (.imul, 1)) ∧ (decode cX3_weightWith 106 = .ok (.iadd, 1)) ∧ (decode cX3_weightWith 107 = .ok (.ireturn, 1)) ∧ (decode cX4_init 0 = .ok (.aload_n 0, 1)) := by decide +kernel
theorem dX3_weightWith_98 : decode cX3_weightWith 98 = .ok (.iload_n 1, 1) := q9_dX3_weightWith_98.1
theorem dX3_weightWith_99 : decode cX3_weightWith 99 = .ok (.iaload, 1) := q9_dX3_weightWith_98.2.1
theorem dX3_weightWith_100 : decode cX3_weightWith 100 = .ok (.bipush 100, 2) := q9_dX3_weightWith_98.2.2.1
theorem dX3_weightWith_102 : decode cX3_weightWith 102 = .ok (.imul, 1) := q9_dX3_weightWith_98.2.2.2.1
theorem dX3_weightWith_103 : decode cX3_weightWith 103 = .ok (.iconst 1, 1) := q9_dX3_weightWith_98.2.2.2.2.1
theorem dX3_weightWith_104 : decode cX3_weightWith 104 = .ok (.iadd, 1) := q9_dX3_weightWith_98.2.2.2.2.2.1
theorem dX3_weightWith_105 : decode cX3_weightWith 105 = .ok (.imul, 1) := q9_dX3_weightWith_98.2.2.2.2.2.2.1
theorem dX3_weightWith_106 : decode cX3_weightWith 106 = .ok (.iadd, 1) := q9_dX3_weightWith_98.2.2.2.2.2.2.2.1
theorem dX3_weightWith_107 : decode cX3_weightWith 107 = .ok (.ireturn, 1) := q9_dX3_weightWith_98.2.2.2.2.2.2.2.2.1
theorem dX4_init_0 : decode cX4_init 0 = .ok (.aload_n 0, 1) := q9_dX3_weightWith_98.2.2.2.2.2.2.2.2.2
theorem q9_dX4_init_1 : (decode cX4_init 1 = .ok (.invokespecial 3, 3)) ∧ (decode cX4_init 4 = .ok (.aload_n 0, 1)) ∧ (decode cX4_init 5 = .ok (.ldc 11, 2)) ∧ (decode cX4_init 7 = .ok (.putfield 12, 3)) ∧ (decode cX4_init 10 = .ok (.aload_n 0, 1)) ∧ (decode cX4_init 11 = .ok (.bipush 127, 2)) ∧ (decode cX4_init 13 = .ok (.putfield 16, 3)) ∧ (decode cX4_init 16 = .ok (.aload_n 0, 1)) ∧ (decode cX4_init 17 = .ok (.bipush 15, 2)) ∧ (decode cX4_init 19 = .ok (.putfield 19, 3)) := by decide +kernel
theorem dX4_init_1 : decode cX4_init 1 = .ok (.invokespecial 3, 3) := q9_dX4_init_1.1
theorem dX4_init_4 : decode cX4_init 4 = .ok (.aload_n 0, 1) := q9_dX4_init_1.2.1
theorem dX4_init_5 : decode cX4_init 5 = .ok (.ldc 11, 2) := q9_dX4_init_1.2.2.1
theorem dX4_init_7 : decode cX4_init 7 = .ok (.putfield 12, 3) := q9_dX4_init_1.2.2.2.1
theorem dX4_init_10 : decode cX4_init 10 = .ok (.aload_n 0, 1) := q9_dX4_init_1.2.2.2.2.1
theorem dX4_init_11 : decode cX4_init 11 = .ok (.bipush 127, 2) := q9_dX4_init_1.2.2.2.2.2.1
theorem dX4_init_13 : decode cX4_init 13 = .ok (.putfield 16, 3) := q9_dX4_init_1.2.2.2.2.2.2.1
theorem dX4_init_16 : decode cX4_init 16 = .ok (.aload_n 0, 1) := q9_dX4_init_1.2.2.2.2.2.2.2.1
theorem dX4_init_17 : decode cX4_init 17 = .ok (.bipush 15, 2) := q9_dX4_init_1.2.2.2.2.2.2.2.2.1
theorem dX4_init_19 : decode cX4_init 19 = .ok (.putfield 19, 3) := q9_dX4_init_1.2.2.2.2.2.2.2.2.2
theorem q9_dX4_init_22 : (decode cX4_init 22 = .ok (.aload_n 0, 1)) ∧ (decode cX4_init 23 = .ok (.sipush 168, 3)) ∧ (decode cX4_init 26 = .ok (.putfield 22, 3)) ∧ (decode cX4_init 29 = .ok (.aload_n 0, 1)) ∧ (decode cX4_init 30 = .ok (.bipush 100, 2)) ∧ (decode cX4_init 32 = .ok (.putfield 25, 3)) ∧ (decode cX4_init 35 = .ok (.aload_n 0, 1)) ∧ (decode cX4_init 36 = .ok (.bipush 50, 2)) ∧ (decode cX4_init 38 = .ok (.putfield 28, 3)) ∧ (decode cX4_init 41 = .ok (.return_, 1)) := by decide +kernel
theorem dX4_init_22 : decode cX4_init 22 = .ok (.aload_n 0, 1) := q9_dX4_init_22.1
theorem dX4_init_23 : decode cX4_init 23 = .ok (.sipush 168, 3) := q9_dX4_init_22.2.1
theorem dX4_init_26 : decode cX4_init 26 = .ok (.putfield 22, 3) := q9_dX4_init_22.2.2.1
theorem dX4_init_29 : decode cX4_init 29 = .ok (.aload_n 0, 1) := q9_dX4_init_22.2.2.2.1
theorem dX4_init_30 : decode cX4_init 30 = .ok (.bipush 100, 2) := q9_dX4_init_22.2.2.2.2.1
theorem dX4_init_32 : decode cX4_init 32 = .ok (.putfield 25, 3) := q9_dX4_init_22.2.2.2.2.2.1
theorem dX4_init_35 : decode cX4_init 35 = .ok (.aload_n 0, 1) := q9_dX4_init_22.2.2.2.2.2.2.1
theorem dX4_init_36 : decode cX4_init 36 = .ok (.bipush 50, 2) := q9_dX4_init_22.2.2.2.2.2.2.2.1
theorem dX4_init_38 : decode cX4_init 38 = .ok (.putfield 28, 3) := q9_dX4_init_22.2.2.2.2.2.2.2.2.1
theorem dX4_init_41 : decode cX4_init 41 = .ok (.return_, 1) := q9_dX4_init_22.2.2.2.2.2.2.2.2.2
set_option maxRecDepth 20000 in
theorem ggX4_let_X4_isIn : GoodIn wsX4_let wsX4_isIn := goodIn_r _ [7] rfl (by decide +kernel)
set_option maxRecDepth 20000 in
theorem gX4_let_X4_isIn : GoodIn wsX4_let (va_wsS RX4 31 yX4_isIn wsX4_isIn) := goodIn_app (goodIn_of _ (by decide +kernel)) ggX4_let_X4_isIn
theorem q9_dX4_let_0 : (decode cX4_let 0 = .ok (.aload_n 0, 1)) ∧ (decode cX4_let 1 = .ok (.getfield 12, 3)) ∧ (decode cX4_let 4 = .ok (.iload_n 2, 1)) ∧ (decode cX4_let 5 = .ok (.bipush 24, 2)) ∧ (decode cX4_let 7 = .ok (.irem, 1)) ∧ (decode cX4_let 8 = .ok (.invokestatic 31, 3)) ∧ (decode cX4_let 11 = .ok (.ifCond .eq 35, 3)) ∧ (decode cX4_let 14 = .ok (.aload_n 0, 1)) ∧ (decode cX4_let 15 = .ok (.getfield 16, 3)) ∧ (decode cX4_let 18 = .ok (.iload_n 2, 1)) := by decide +kernel
theorem dX4_let_0 : decode cX4_let 0 = .ok (.aload_n 0, 1) := q9_dX4_let_0.1
theorem dX4_let_1 : decode cX4_let 1 = .ok (.getfield 12, 3) := q9_dX4_let_0.2.1
theorem dX4_let_4 : decode cX4_let 4 = .ok (.iload_n 2, 1) := q9_dX4_let_0.2.2.1
theorem dX4_let_5 : decode cX4_let 5 = .ok (.bipush 24, 2) := q9_dX4_let_0.2.2.2.1
theorem dX4_let_7 : decode cX4_let 7 = .ok (.irem, 1) := q9_dX4_let_0.2.2.2.2.1
theorem dX4_let_8 : decode cX4_let 8 = .ok (.invokestatic 31, 3) := q9_dX4_let_0.2.2.2.2.2.1
theorem dX4_let_11 : decode cX4_let 11 = .ok (.ifCond .eq 35, 3) := q9_dX4_let_0.2.2.2.2.2.2.1
theorem dX4_let_14 : decode cX4_let 14 = .ok (.aload_n 0, 1) := q9_dX4_let_0.2.2.2.2.2.2.2.1
theorem dX4_let_15 : decode cX4_let 15 = .ok (.getfield 16, 3) := q9_dX4_let_0.2.2.2.2.2.2.2.2.1
theorem dX4_let_18 : decode cX4_let 18 = .ok (.iload_n 2, 1) := q9_dX4_let_0.2.2.2.2.2.2.2.2.2
theorem q9_dX4_let_19 : (decode cX4_let 19 = .ok (.bipush 24, 2)) ∧ (decode cX4_let 21 = .ok (.idiv, 1)) ∧ (decode cX4_let 22 = .ok (.bipush 7, 2)) ∧ (decode cX4_let 24 = .ok (.irem, 1)) ∧ (decode cX4_let 25 = .ok (.invokestatic 31, 3)) ∧ (decode cX4_let 28 = .ok (.ifCond .eq 18, 3)) ∧ (decode cX4_let 31 = .ok (.aload_n 0, 1)) ∧ (decode cX4_let 32 = .ok (.getfield 19, 3)) ∧ (decode cX4_let 35 = .ok (.iload_n 1, 1)) ∧ (decode cX4_let 36 = .ok (.invokestatic 31, 3)) := by decide +kernel
theorem dX4_let_19 : decode cX4_let 19 = .ok (.bipush 24, 2) := q9_dX4_let_19.1
theorem dX4_let_21 : decode cX4_let 21 = .ok (.idiv, 1) := q9_dX4_let_19.2.1
theorem dX4_let_22 : decode cX4_let 22 = .ok (.bipush 7, 2) := q9_dX4_let_19.2.2.1
theorem dX4_let_24 : decode cX4_let 24 = .ok (.irem, 1) := q9_dX4_let_19.2.2.2.1
theorem dX4_let_25 : decode cX4_let 25 = .ok (.invokestatic 31, 3) := q9_dX4_let_19.2.2.2.2.1
theorem dX4_let_28 : decode cX4_let 28 = .ok (.ifCond .eq 18, 3) := q9_dX4_let_19.2.2.2.2.2.1
theorem dX4_let_31 : decode cX4_let 31 = .ok (.aload_n 0, 1) := q9_dX4_let_19.2.2.2.2.2.2.1
theorem dX4_let_32 : decode cX4_let 32 = .ok (.getfield 19, 3) := q9_dX4_let_19.2.2.2.2.2.2.2.1
theorem dX4_let_35 : decode cX4_let 35 = .ok (.iload_n 1, 1) := q9_dX4_let_19.2.2.2.2.2.2.2.2.1
theorem dX4_let_36 : decode cX4_let 36 = .ok (.invokestatic 31, 3) := q9_dX4_let_19.2.2.2.2.2.2.2.2.2
theorem q9_dX4_let_39 : (decode cX4_let 39 = .ok (.ifCond .eq 7, 3)) ∧ (decode cX4_let 42 = .ok (.iconst 1, 1)) ∧ (decode cX4_let 43 = .ok (.goto 4, 3)) ∧ (decode cX4_let 46 = .ok (.iconst 0, 1)) ∧ (decode cX4_let 47 = .ok (.ireturn, 1)) ∧ (decode cX4_isIn 0 = .ok (.iload_n 0, 1)) ∧ (decode cX4_isIn 1 = .ok (.iload_n 1, 1)) ∧ (decode cX4_isIn 2 = .ok (.ishr, 1)) ∧ (decode cX4_isIn 3 = .ok (.iconst 1, 1)) ∧ (decode cX4_isIn 4 = .ok (.iand, 1)) := by decide +kernel
theorem dX4_let_39 : decode cX4_let 39 = .ok (.ifCond .eq 7, 3) := q9_dX4_let_39.1
theorem dX4_let_42 : decode cX4_let 42 = .ok (.iconst 1, 1) := q9_dX4_let_39.2.1
theorem dX4_let_43 : decode cX4_let 43 = .ok (.goto 4, 3) := q9_dX4_let_39.2.2.1
theorem dX4_let_46 : decode cX4_let 46 = .ok (.iconst 0, 1) := q9_dX4_let_39.2.2.2.1
theorem dX4_let_47 : decode cX4_let 47 = .ok (.ireturn, 1) := q9_dX4_let_39.2.2.2.2.1
theorem dX4_isIn_0 : decode cX4_isIn 0 = .ok (.iload_n 0, 1) := q9_dX4_let_39.2.2.2.2.2.1
theorem dX4_isIn_1 : decode cX4_isIn 1 = .ok (.iload_n 1, 1) := q9_dX4_let_39.2.2.2.2.2.2.1
theorem dX4_isIn_2 : decode cX4_isIn 2 = .ok (.ishr, 1) := q9_dX4_let_39.2.2.2.2.2.2.2.1
theorem dX4_isIn_3 : decode cX4_isIn 3 = .ok (.iconst 1, 1) := q9_dX4_let_39.2.2.2.2.2.2.2.2.1
theorem dX4_isIn_4 : decode cX4_isIn 4 = .ok (.iand, 1) := q9_dX4_let_39.2.2.2.2.2.2.2.2.2
theorem q9_dX4_isIn_5 : (decode cX4_isIn 5 = .ok (.ifCond .eq 7, 3)) ∧ (decode cX4_isIn 8 = .ok (.iconst 1, 1)) ∧ (decode cX4_isIn 9 = .ok (.goto 4, 3)) ∧ (decode cX4_isIn 12 = .ok (.iconst 0, 1)) ∧ (decode cX4_isIn 13 = .ok (.ireturn, 1)) := by decide +kernel
theorem dX4_isIn_5 : decode cX4_isIn 5 = .ok (.ifCond .eq 7, 3) := q9_dX4_isIn_5.1
theorem dX4_isIn_8 : decode cX4_isIn 8 = .ok (.iconst 1, 1) := q9_dX4_isIn_5.2.1
theorem dX4_isIn_9 : decode cX4_isIn 9 = .ok (.goto 4, 3) := q9_dX4_isIn_5.2.2.1
theorem dX4_isIn_12 : decode cX4_isIn 12 = .ok (.iconst 0, 1) := q9_dX4_isIn_5.2.2.2.1
theorem dX4_isIn_13 : decode cX4_isIn 13 = .ok (.ireturn, 1) := q9_dX4_isIn_5.2.2.2.2
