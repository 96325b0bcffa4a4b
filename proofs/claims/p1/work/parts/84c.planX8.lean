set_option maxHeartbeats 4000000 in
set_option maxRecDepth 100000 in
theorem c_X8_plan (l : Launch) (D : va_G) (cy : Nat → ClassId) (A : Nat → Prop) (S : St) (h i1 i2 q1 w1 q2 w2 q3 w3 q4 w4 pr pl wa pi be ro : Nat) (a b : Int32) (a_0 : sK S h = 8) (a_1 : sR S h 0 = some i1) (a_2 : sR S h 1 = some i2) (a_5 : sR S h 4 = some pr) (a_9 : sR S h 8 = some pl) (a_10 : sK S i1 = 1) (a_11 : sR S i1 0 = some q1) (a_12 : sK S q1 = 0) (a_13 : sR S q1 0 = some w1) (a_14 : sK S w1 = 12) (a_15 : sL S w1 = 32) (a_16 : ∀ j, sJ S w1 j = 0) (a_17 : sR S i1 1 = some q2) (a_18 : sK S q2 = 0) (a_19 : sR S q2 0 = some w2) (a_20 : sK S w2 = 12) (a_21 : sL S w2 = 32) (a_22 : ∀ j, sJ S w2 j = 0) (a_23 : sI S i1 2 = 0) (a_24 : sI S i1 3 = 300) (a_25 : sI S i1 4 = 0) (a_26 : sI S i1 5 = 0) (a_27 : sI S i1 6 = 0) (a_28 : sI S i1 7 = 0) (a_29 : sI S i1 8 = 0) (a_30 : sI S i1 9 = 0) (a_31 : sK S i2 = 1) (a_32 : sR S i2 0 = some q3) (a_33 : sK S q3 = 0) (a_34 : sR S q3 0 = some w3) (a_35 : sK S w3 = 12) (a_36 : sL S w3 = 32) (a_37 : ∀ j, sJ S w3 j = 0) (a_38 : sR S i2 1 = some q4) (a_39 : sK S q4 = 0) (a_40 : sR S q4 0 = some w4) (a_41 : sK S w4 = 12) (a_42 : sL S w4 = 32) (a_43 : ∀ j, sJ S w4 j = 0) (a_44 : sI S i2 2 = 0) (a_45 : sI S i2 3 = 300) (a_46 : sI S i2 4 = 0) (a_47 : sI S i2 5 = 0) (a_48 : sI S i2 6 = 0) (a_49 : sI S i2 7 = 0) (a_50 : sI S i2 8 = 0) (a_51 : sI S i2 9 = 0) (a_57 : sK S pr = 11) (a_58 : sL S pr = 24) (a_59 : ∀ j, j < 24 → sI S pr j = 10) (a_86 : sK S pl = 3) (a_87 : sR S pl 0 = some wa) (a_88 : sK S wa = 11) (a_89 : sL S wa = 9) (a_90 : ∀ j, j < 9 → sI S wa j = 0) (a_91 : sR S pl 1 = some pi) (a_92 : sK S pi = 11) (a_93 : sL S pi = 8) (a_94 : sR S pl 2 = some be) (a_95 : sK S be = 11) (a_96 : sL S be = 225) (a_97 : sR S pl 3 = some ro) (a_98 : sK S ro = 11) (a_99 : sL S ro = 8) (a_100 : sI S pl 4 = 0) (a_101 : sI S pl 5 = 0) (a_102 : sI S pl 6 = 0) (a_103 : sI S pl 7 = 0) (a_104 : sI S pl 8 = 0) (a_113 : sI S h 9 = 0) (a_114 : sI S h 10 = 0) (a_115 : sI S h 11 = 200) (a_116 : sI S h 12 = 400) (a_117 : sI S h 13 = 3) (a_118 : sI S h 14 = 2) (a_119 : sI S h 15 = 0) (a_120 : sI S h 16 = 0) (a_121 : sI S h 17 = 0) (a_122 : Ap wa pi) (a_123 : Ap wa be) (a_124 : Ap pi be) (a_125 : Ap be ro) (a_126 : Ap pr wa) (a_127 : Ap pr pi) : MI l yX8_plan wsX8_plan ({ frames := 6, cells := 0, slots := 0, locals := 156 } : Room) 0 0 D cy A [.ref h, .int a, .int b] S (fun r S1 => r = PL a b) := by
  refine mt_start (cc := cX8_plan) (maxL := 6) (ret := (some .int)) (by decide) rfl (Nat.le_of_ble_eq_true rfl) ?_
  intro p e s m args below meth c hx hb hr hlk hml hown hnm hts hK hZ hA hW hS ls hl
  have hl : lv_has ls 6 [(0, .ref h), (1, .int a), (2, .int b)] := hl
  have hown : s.vm.findClass RX8 = some m.cls := hown
  have F : CallFix p m c cX8_plan 6 s args wsX8_plan RX8 := ⟨hx, hb, hml, hown, hts⟩
  have wi8 : ∀ w ∈ u_ws RX8 TX8 18, w ∈ wsX8_plan := by decide +kernel
  refine lv_iload_n hx hb dX8_plan_0 rfl (lv_at hl 1 rfl) ?_
  refine lv_iconst (v := 1) hx hb dX8_plan_1 (by decide) ?_
  refine lv_icmp_lt (tgt := 18) hx hb dX8_plan_2 (by decide) (fun c1 => ?_) (fun c1 => ?_)
  · have c1i : Int32.toInt a < (1 : Int) := (i3_lt _ _).mp c1
    refine lv_iconst (v := (-1)) hx hb dX8_plan_18 (by decide) ?_
    exact pc_iret (v := (-1)) (S := S) hx hb hr hlk hK hZ hA hW hS (PL_no (by omega)) dX8_plan_19
  · have c1i : ¬ (Int32.toInt a < (1 : Int)) := fun h9 => c1 ((i3_lt _ _).mpr h9)
    refine lv_iload_n hx hb dX8_plan_5 rfl (lv_at hl 1 rfl) ?_
    refine lv_bipush (v := 8) hx hb dX8_plan_6 (by decide) ?_
    refine lv_icmp_gt (tgt := 18) hx hb dX8_plan_8 (by decide) (fun c2 => ?_) (fun c2 => ?_)
    · have c2i : (8 : Int) < Int32.toInt a := (i3_lt _ _).mp c2
      refine lv_iconst (v := (-1)) hx hb dX8_plan_18 (by decide) ?_
      exact pc_iret (v := (-1)) (S := S) hx hb hr hlk hK hZ hA hW hS (PL_no (by omega)) dX8_plan_19
    · have c2i : ¬ ((8 : Int) < Int32.toInt a) := fun h9 => c2 ((i3_lt _ _).mpr h9)
      refine lv_iload_n hx hb dX8_plan_11 rfl (lv_at hl 2 rfl) ?_
      refine pc_Si (As := [.int b]) (rest := []) F (c_X8_isWarmth l D cy A S b ) (va_cwS 1 hts gX8_plan_X8_isWarmth rfl rfl rfl (by decide +kernel) ⟨Nat.le_of_ble_eq_true rfl, Nat.le_of_ble_eq_true rfl⟩) hK hZ hA hW hS rfl hl.1 rfl (Nat.le_of_ble_eq_true rfl) dX8_plan_12 ⟨Nat.le_of_ble_eq_true rfl, Nat.le_of_ble_eq_true rfl⟩ (fun v3 T4 H locs p5 hW hS => ?_)
      obtain ⟨eT4, p5⟩ := p5
      rw [eT4] at hW
      refine lv_if_ne (tgt := 20) hx hb dX8_plan_15 (by decide) (fun c6 => ?_) (fun c6 => ?_)
      · have c6i : ¬ (Int32.toInt v3 = (0 : Int)) := fun h9 => c6 ((i3_eq _ _).mpr h9)
        have hva : 1 ≤ a.toInt ∧ a.toInt ≤ 8 ∧ -20 ≤ b.toInt ∧ b.toInt ≤ 40 := by omega
        obtain ⟨n, hnlt, ea⟩ := nn_of (x := a) (by omega)
        have hna : a.toInt = (n : Int) := by rw [ea]; exact nI_toInt hnlt
        have hn1 : 1 ≤ n := by omega
        have hn8 : n ≤ 8 := by omega
        obtain ⟨w, ew⟩ : ∃ w, w = 2 * (b.toInt.toNat / 2) := ⟨_, rfl⟩
        have hw40 : w ≤ 40 := by omega
        have hw0 : ∀ j, sI S wa j = sI S wa j := fun _ => rfl
        refine lv_aload_n hx hb dX8_plan_20 rfl (lv_at hl 0 rfl) ?_
        refine pg_gr (b := pl) (ci := 8) (C := RX8) (T := TX8) (N := 18) hx hb hts wi8 hown hK hW a_0 (by decide) rfl 8 (by decide) (hts (.fieldLink RX8 64 "IceHall" "planner" "LIceHall$Planner;") (by decide +kernel)) (fun _ h9 => h9) rfl a_9 dX8_plan_21 ?_
        refine pc_Vv (As := []) (rest := []) F (c_X3_begin l D cy A S pl a_86) (cwV 0 hts gX8_plan_X3_begin rfl rfl rfl (by decide +kernel) ⟨Nat.le_of_ble_eq_true rfl, Nat.le_of_ble_eq_true rfl⟩) hK hZ hA hW hS a_86 (by decide) rfl rfl hl.1 rfl (Nat.le_of_ble_eq_true rfl) dX8_plan_24 ⟨Nat.le_of_ble_eq_true rfl, Nat.le_of_ble_eq_true rfl⟩ (fun T8 H locs p9 hW hS => ?_)
        rw [p9] at hW
        have w10 : sI (stI S pl 5 0) i1 2 = 0 := (iI_k (by decide)).trans a_23
        have w11 : sI (stI S pl 5 0) i1 3 = 300 := (iI_k (by decide)).trans a_24
        have w12 : sI (stI S pl 5 0) i1 4 = 0 := (iI_k (by decide)).trans a_25
        have w13 : sI (stI S pl 5 0) i1 5 = 0 := (iI_a (fk_ne a_10 a_86 (by decide))).trans a_26
        have w14 : sI (stI S pl 5 0) i1 6 = 0 := (iI_k (by decide)).trans a_27
        have w15 : sI (stI S pl 5 0) i1 7 = 0 := (iI_k (by decide)).trans a_28
        have w16 : sI (stI S pl 5 0) i1 8 = 0 := (iI_k (by decide)).trans a_29
        have w17 : sI (stI S pl 5 0) i1 9 = 0 := (iI_k (by decide)).trans a_30
        have w18 : sI (stI S pl 5 0) i2 2 = 0 := (iI_k (by decide)).trans a_44
        have w19 : sI (stI S pl 5 0) i2 3 = 300 := (iI_k (by decide)).trans a_45
        have w20 : sI (stI S pl 5 0) i2 4 = 0 := (iI_k (by decide)).trans a_46
        have w21 : sI (stI S pl 5 0) i2 5 = 0 := (iI_a (fk_ne a_31 a_86 (by decide))).trans a_47
        have w22 : sI (stI S pl 5 0) i2 6 = 0 := (iI_k (by decide)).trans a_48
        have w23 : sI (stI S pl 5 0) i2 7 = 0 := (iI_k (by decide)).trans a_49
        have w24 : sI (stI S pl 5 0) i2 8 = 0 := (iI_k (by decide)).trans a_50
        have w25 : sI (stI S pl 5 0) i2 9 = 0 := (iI_k (by decide)).trans a_51
        have w26 : sI (stI S pl 5 0) pl 4 = 0 := (iI_k (by decide)).trans a_100
        have w27 : sI (stI S pl 5 0) pl 6 = 0 := (iI_k (by decide)).trans a_102
        have w28 : sI (stI S pl 5 0) pl 7 = 0 := (iI_k (by decide)).trans a_103
        have w29 : sI (stI S pl 5 0) pl 8 = 0 := (iI_k (by decide)).trans a_104
        have w30 : sI (stI S pl 5 0) h 9 = 0 := (iI_k (by decide)).trans a_113
        have w31 : sI (stI S pl 5 0) h 10 = 0 := (iI_k (by decide)).trans a_114
        have w32 : sI (stI S pl 5 0) h 11 = 200 := (iI_k (by decide)).trans a_115
        have w33 : sI (stI S pl 5 0) h 12 = 400 := (iI_k (by decide)).trans a_116
        have w34 : sI (stI S pl 5 0) h 13 = 3 := (iI_k (by decide)).trans a_117
        have w35 : sI (stI S pl 5 0) h 14 = 2 := (iI_k (by decide)).trans a_118
        have w36 : sI (stI S pl 5 0) h 15 = 0 := (iI_k (by decide)).trans a_119
        have w37 : sI (stI S pl 5 0) h 16 = 0 := (iI_k (by decide)).trans a_120
        have w38 : sI (stI S pl 5 0) h 17 = 0 := (iI_k (by decide)).trans a_121
        have w39 : sI (stI S pl 5 0) pl 5 = 0 := iI_s
        have w40 : ∀ j, j < 24 → sI (stI S pl 5 0) pr j = 10 := fun j hj => (iI_a (fk_ne a_57 a_86 (by decide))).trans (a_59 j hj)
        have w41 : ∀ j, j < 9 → sI (stI S pl 5 0) wa j = 0 := fun j hj => (iI_a (fk_ne a_88 a_86 (by decide))).trans (a_90 j hj)
        refine lv_iconst (v := 0) hx hb dX8_plan_27 (by decide) ?_
        refine lv_istore_n (lv' := [(3, .int 0), (0, .ref h), (1, .int a), (2, .int b)]) hx hb dX8_plan_28 rfl hl (by decide) rfl (fun ls hl => ?_)
        have loop42 : ∀ (zn : Nat) (i : Nat) (T29 : St) (H : Heap) (locs : List Loc) (ls : Array Slot), (Md [pl, wa, pi] (stI S pl 5 0) T29) → (i ≤ n) → (sI T29 pl 5 = nI i) → (∀ j, j ≤ i → sI T29 wa j = nI (w * j)) → (∀ j, j < i → sI T29 pi j = 10) → n - i < zn → PW D cy A T29 H → va_S A s.heap H locs → lv_has ls 6 [(0, .ref h), (1, .int a), (2, .int b), (3, .int (nI i))] → W p l e ({ frames := 6, cells := 0, slots := 0, locals := 156 } : Room) s m args below meth c H locs 0 0 (MQ below (va_Qi (fun r S1 => r = PL a b) (PU D cy A) A) args s 0 0 A) (F0 m 29 ls []) := by
          intro zn
          induction zn with
          | zero => intros; exact absurd (by assumption) (Nat.not_lt_zero _)
          | succ zn ih =>
            intro i T29 H locs ls hmd29 hi hsz hwa hpi hme hW hS hl
            have f43 : sK T29 h = 8 := by rw [hmd29.1]; exact a_0
            have f44 : sK T29 i1 = 1 := by rw [hmd29.1]; exact a_10
            have f45 : sK T29 q1 = 0 := by rw [hmd29.1]; exact a_12
            have f46 : sK T29 w1 = 12 := by rw [hmd29.1]; exact a_14
            have f47 : sK T29 q2 = 0 := by rw [hmd29.1]; exact a_18
            have f48 : sK T29 w2 = 12 := by rw [hmd29.1]; exact a_20
            have f49 : sK T29 i2 = 1 := by rw [hmd29.1]; exact a_31
            have f50 : sK T29 q3 = 0 := by rw [hmd29.1]; exact a_33
            have f51 : sK T29 w3 = 12 := by rw [hmd29.1]; exact a_35
            have f52 : sK T29 q4 = 0 := by rw [hmd29.1]; exact a_39
            have f53 : sK T29 w4 = 12 := by rw [hmd29.1]; exact a_41
            have f54 : sK T29 pr = 11 := by rw [hmd29.1]; exact a_57
            have f55 : sK T29 pl = 3 := by rw [hmd29.1]; exact a_86
            have f56 : sK T29 wa = 11 := by rw [hmd29.1]; exact a_88
            have f57 : sK T29 pi = 11 := by rw [hmd29.1]; exact a_92
            have f58 : sK T29 be = 11 := by rw [hmd29.1]; exact a_95
            have f59 : sK T29 ro = 11 := by rw [hmd29.1]; exact a_98
            have f60 : sL T29 w1 = 32 := by rw [hmd29.2.2.1]; exact a_15
            have f61 : sL T29 w2 = 32 := by rw [hmd29.2.2.1]; exact a_21
            have f62 : sL T29 w3 = 32 := by rw [hmd29.2.2.1]; exact a_36
            have f63 : sL T29 w4 = 32 := by rw [hmd29.2.2.1]; exact a_42
            have f64 : sL T29 pr = 24 := by rw [hmd29.2.2.1]; exact a_58
            have f65 : sL T29 wa = 9 := by rw [hmd29.2.2.1]; exact a_89
            have f66 : sL T29 pi = 8 := by rw [hmd29.2.2.1]; exact a_93
            have f67 : sL T29 be = 225 := by rw [hmd29.2.2.1]; exact a_96
            have f68 : sL T29 ro = 8 := by rw [hmd29.2.2.1]; exact a_99
            have f69 : sR T29 h 0 = some i1 := by rw [hmd29.2.1]; exact a_1
            have f70 : sR T29 h 1 = some i2 := by rw [hmd29.2.1]; exact a_2
            have f71 : sR T29 h 4 = some pr := by rw [hmd29.2.1]; exact a_5
            have f72 : sR T29 h 8 = some pl := by rw [hmd29.2.1]; exact a_9
            have f73 : sR T29 i1 0 = some q1 := by rw [hmd29.2.1]; exact a_11
            have f74 : sR T29 q1 0 = some w1 := by rw [hmd29.2.1]; exact a_13
            have f75 : sR T29 i1 1 = some q2 := by rw [hmd29.2.1]; exact a_17
            have f76 : sR T29 q2 0 = some w2 := by rw [hmd29.2.1]; exact a_19
            have f77 : sR T29 i2 0 = some q3 := by rw [hmd29.2.1]; exact a_32
            have f78 : sR T29 q3 0 = some w3 := by rw [hmd29.2.1]; exact a_34
            have f79 : sR T29 i2 1 = some q4 := by rw [hmd29.2.1]; exact a_38
            have f80 : sR T29 q4 0 = some w4 := by rw [hmd29.2.1]; exact a_40
            have f81 : sR T29 pl 0 = some wa := by rw [hmd29.2.1]; exact a_87
            have f82 : sR T29 pl 1 = some pi := by rw [hmd29.2.1]; exact a_91
            have f83 : sR T29 pl 2 = some be := by rw [hmd29.2.1]; exact a_94
            have f84 : sR T29 pl 3 = some ro := by rw [hmd29.2.1]; exact a_97
            have f85 : sI T29 i1 2 = 0 := by rw [(hmd29.2.2.2 i1 (ni_c (fk_ne a_10 a_86 (by decide)) (ni_c (fk_ne a_10 a_88 (by decide)) (ni_c (fk_ne a_10 a_92 (by decide)) ni_0)))).1]; exact w10
            have f86 : sI T29 i1 3 = 300 := by rw [(hmd29.2.2.2 i1 (ni_c (fk_ne a_10 a_86 (by decide)) (ni_c (fk_ne a_10 a_88 (by decide)) (ni_c (fk_ne a_10 a_92 (by decide)) ni_0)))).1]; exact w11
            have f87 : sI T29 i1 4 = 0 := by rw [(hmd29.2.2.2 i1 (ni_c (fk_ne a_10 a_86 (by decide)) (ni_c (fk_ne a_10 a_88 (by decide)) (ni_c (fk_ne a_10 a_92 (by decide)) ni_0)))).1]; exact w12
            have f88 : sI T29 i1 5 = 0 := by rw [(hmd29.2.2.2 i1 (ni_c (fk_ne a_10 a_86 (by decide)) (ni_c (fk_ne a_10 a_88 (by decide)) (ni_c (fk_ne a_10 a_92 (by decide)) ni_0)))).1]; exact w13
            have f89 : sI T29 i1 6 = 0 := by rw [(hmd29.2.2.2 i1 (ni_c (fk_ne a_10 a_86 (by decide)) (ni_c (fk_ne a_10 a_88 (by decide)) (ni_c (fk_ne a_10 a_92 (by decide)) ni_0)))).1]; exact w14
            have f90 : sI T29 i1 7 = 0 := by rw [(hmd29.2.2.2 i1 (ni_c (fk_ne a_10 a_86 (by decide)) (ni_c (fk_ne a_10 a_88 (by decide)) (ni_c (fk_ne a_10 a_92 (by decide)) ni_0)))).1]; exact w15
            have f91 : sI T29 i1 8 = 0 := by rw [(hmd29.2.2.2 i1 (ni_c (fk_ne a_10 a_86 (by decide)) (ni_c (fk_ne a_10 a_88 (by decide)) (ni_c (fk_ne a_10 a_92 (by decide)) ni_0)))).1]; exact w16
            have f92 : sI T29 i1 9 = 0 := by rw [(hmd29.2.2.2 i1 (ni_c (fk_ne a_10 a_86 (by decide)) (ni_c (fk_ne a_10 a_88 (by decide)) (ni_c (fk_ne a_10 a_92 (by decide)) ni_0)))).1]; exact w17
            have f93 : sI T29 i2 2 = 0 := by rw [(hmd29.2.2.2 i2 (ni_c (fk_ne a_31 a_86 (by decide)) (ni_c (fk_ne a_31 a_88 (by decide)) (ni_c (fk_ne a_31 a_92 (by decide)) ni_0)))).1]; exact w18
            have f94 : sI T29 i2 3 = 300 := by rw [(hmd29.2.2.2 i2 (ni_c (fk_ne a_31 a_86 (by decide)) (ni_c (fk_ne a_31 a_88 (by decide)) (ni_c (fk_ne a_31 a_92 (by decide)) ni_0)))).1]; exact w19
            have f95 : sI T29 i2 4 = 0 := by rw [(hmd29.2.2.2 i2 (ni_c (fk_ne a_31 a_86 (by decide)) (ni_c (fk_ne a_31 a_88 (by decide)) (ni_c (fk_ne a_31 a_92 (by decide)) ni_0)))).1]; exact w20
            have f96 : sI T29 i2 5 = 0 := by rw [(hmd29.2.2.2 i2 (ni_c (fk_ne a_31 a_86 (by decide)) (ni_c (fk_ne a_31 a_88 (by decide)) (ni_c (fk_ne a_31 a_92 (by decide)) ni_0)))).1]; exact w21
            have f97 : sI T29 i2 6 = 0 := by rw [(hmd29.2.2.2 i2 (ni_c (fk_ne a_31 a_86 (by decide)) (ni_c (fk_ne a_31 a_88 (by decide)) (ni_c (fk_ne a_31 a_92 (by decide)) ni_0)))).1]; exact w22
            have f98 : sI T29 i2 7 = 0 := by rw [(hmd29.2.2.2 i2 (ni_c (fk_ne a_31 a_86 (by decide)) (ni_c (fk_ne a_31 a_88 (by decide)) (ni_c (fk_ne a_31 a_92 (by decide)) ni_0)))).1]; exact w23
            have f99 : sI T29 i2 8 = 0 := by rw [(hmd29.2.2.2 i2 (ni_c (fk_ne a_31 a_86 (by decide)) (ni_c (fk_ne a_31 a_88 (by decide)) (ni_c (fk_ne a_31 a_92 (by decide)) ni_0)))).1]; exact w24
            have f100 : sI T29 i2 9 = 0 := by rw [(hmd29.2.2.2 i2 (ni_c (fk_ne a_31 a_86 (by decide)) (ni_c (fk_ne a_31 a_88 (by decide)) (ni_c (fk_ne a_31 a_92 (by decide)) ni_0)))).1]; exact w25
            have f101 : sI T29 h 9 = 0 := by rw [(hmd29.2.2.2 h (ni_c (fk_ne a_0 a_86 (by decide)) (ni_c (fk_ne a_0 a_88 (by decide)) (ni_c (fk_ne a_0 a_92 (by decide)) ni_0)))).1]; exact w30
            have f102 : sI T29 h 10 = 0 := by rw [(hmd29.2.2.2 h (ni_c (fk_ne a_0 a_86 (by decide)) (ni_c (fk_ne a_0 a_88 (by decide)) (ni_c (fk_ne a_0 a_92 (by decide)) ni_0)))).1]; exact w31
            have f103 : sI T29 h 11 = 200 := by rw [(hmd29.2.2.2 h (ni_c (fk_ne a_0 a_86 (by decide)) (ni_c (fk_ne a_0 a_88 (by decide)) (ni_c (fk_ne a_0 a_92 (by decide)) ni_0)))).1]; exact w32
            have f104 : sI T29 h 12 = 400 := by rw [(hmd29.2.2.2 h (ni_c (fk_ne a_0 a_86 (by decide)) (ni_c (fk_ne a_0 a_88 (by decide)) (ni_c (fk_ne a_0 a_92 (by decide)) ni_0)))).1]; exact w33
            have f105 : sI T29 h 13 = 3 := by rw [(hmd29.2.2.2 h (ni_c (fk_ne a_0 a_86 (by decide)) (ni_c (fk_ne a_0 a_88 (by decide)) (ni_c (fk_ne a_0 a_92 (by decide)) ni_0)))).1]; exact w34
            have f106 : sI T29 h 14 = 2 := by rw [(hmd29.2.2.2 h (ni_c (fk_ne a_0 a_86 (by decide)) (ni_c (fk_ne a_0 a_88 (by decide)) (ni_c (fk_ne a_0 a_92 (by decide)) ni_0)))).1]; exact w35
            have f107 : sI T29 h 15 = 0 := by rw [(hmd29.2.2.2 h (ni_c (fk_ne a_0 a_86 (by decide)) (ni_c (fk_ne a_0 a_88 (by decide)) (ni_c (fk_ne a_0 a_92 (by decide)) ni_0)))).1]; exact w36
            have f108 : sI T29 h 16 = 0 := by rw [(hmd29.2.2.2 h (ni_c (fk_ne a_0 a_86 (by decide)) (ni_c (fk_ne a_0 a_88 (by decide)) (ni_c (fk_ne a_0 a_92 (by decide)) ni_0)))).1]; exact w37
            have f109 : sI T29 h 17 = 0 := by rw [(hmd29.2.2.2 h (ni_c (fk_ne a_0 a_86 (by decide)) (ni_c (fk_ne a_0 a_88 (by decide)) (ni_c (fk_ne a_0 a_92 (by decide)) ni_0)))).1]; exact w38
            have f110 : ∀ j, sJ T29 w1 j = 0 := fun j => by rw [(hmd29.2.2.2 w1 (ni_c (fk_ne a_14 a_86 (by decide)) (ni_c (fk_ne a_14 a_88 (by decide)) (ni_c (fk_ne a_14 a_92 (by decide)) ni_0)))).2]; exact a_16 j 
            have f111 : ∀ j, sJ T29 w2 j = 0 := fun j => by rw [(hmd29.2.2.2 w2 (ni_c (fk_ne a_20 a_86 (by decide)) (ni_c (fk_ne a_20 a_88 (by decide)) (ni_c (fk_ne a_20 a_92 (by decide)) ni_0)))).2]; exact a_22 j 
            have f112 : ∀ j, sJ T29 w3 j = 0 := fun j => by rw [(hmd29.2.2.2 w3 (ni_c (fk_ne a_35 a_86 (by decide)) (ni_c (fk_ne a_35 a_88 (by decide)) (ni_c (fk_ne a_35 a_92 (by decide)) ni_0)))).2]; exact a_37 j 
            have f113 : ∀ j, sJ T29 w4 j = 0 := fun j => by rw [(hmd29.2.2.2 w4 (ni_c (fk_ne a_41 a_86 (by decide)) (ni_c (fk_ne a_41 a_88 (by decide)) (ni_c (fk_ne a_41 a_92 (by decide)) ni_0)))).2]; exact a_43 j 
            have f114 : ∀ j, j < 24 → sI T29 pr j = 10 := fun j hj => by rw [(hmd29.2.2.2 pr (ni_c (fk_ne a_57 a_86 (by decide)) (ni_c a_126 (ni_c a_127 ni_0)))).1]; exact w40 j hj 
            have hni : (nI i).toInt = (i : Int) := nI_toInt (by omega)
            have hwi : w * i ≤ 40 * 8 := Nat.mul_le_mul (by omega) (by omega)
            refine lv_iload_n hx hb dX8_plan_29 rfl (lv_at hl 3 rfl) ?_
            refine lv_iload_n hx hb dX8_plan_30 rfl (lv_at hl 1 rfl) ?_
            refine lv_icmp_ge (tgt := 97) hx hb dX8_plan_31 (by decide) (fun c115 => ?_) (fun c115 => ?_)
            · have c115i : Int32.toInt a ≤ Int32.toInt (nI i) := (i3_le _ _).mp c115
              refine lv_aload_n hx hb dX8_plan_97 rfl (lv_at hl 0 rfl) ?_
              refine pg_gr (b := pl) (ci := 8) (C := RX8) (T := TX8) (N := 18) hx hb hts wi8 hown hK hW f43 (by decide) rfl 8 (by decide) (hts (.fieldLink RX8 64 "IceHall" "planner" "LIceHall$Planner;") (by decide +kernel)) (fun _ h9 => h9) rfl f72 dX8_plan_98 ?_
              refine lv_aload_n hx hb dX8_plan_101 rfl (lv_at hl 0 rfl) ?_
              refine pg_gi (ci := 8) (C := RX8) (T := TX8) (N := 18) hx hb hts wi8 hown hK hW f43 (by decide) rfl 11 (by decide) (hts (.fieldLink RX8 68 "IceHall" "store" "I") (by decide +kernel)) (fun _ h9 => h9) rfl dX8_plan_102 ?_
              rw [show sI T29 h 11 = 200 from f103]
              refine lv_aload_n hx hb dX8_plan_105 rfl (lv_at hl 0 rfl) ?_
              refine pg_gi (ci := 8) (C := RX8) (T := TX8) (N := 18) hx hb hts wi8 hown hK hW f43 (by decide) rfl 12 (by decide) (hts (.fieldLink RX8 72 "IceHall" "storeMost" "I") (by decide +kernel)) (fun _ h9 => h9) rfl dX8_plan_106 ?_
              rw [show sI T29 h 12 = 400 from f104]
              refine lv_aload_n hx hb dX8_plan_109 rfl (lv_at hl 0 rfl) ?_
              refine pg_gi (ci := 8) (C := RX8) (T := TX8) (N := 18) hx hb hts wi8 hown hK hW f43 (by decide) rfl 13 (by decide) (hts (.fieldLink RX8 75 "IceHall" "working" "I") (by decide +kernel)) (fun _ h9 => h9) rfl dX8_plan_110 ?_
              rw [show sI T29 h 13 = 3 from f105]
              refine pc_Vi (As := [.int 200, .int 400, .int 3]) (rest := []) F (c_X3_solve l D cy A T29 pl wa pi be ro n w f55 f81 f56 f65 f82 f57 f66 f83 f58 f67 f84 f59 f68 a_123 a_124 a_125 (by rw [hsz, show i = n from by omega]) (by omega) (by omega) (by omega) (fun j hj => hwa j (by omega)) (fun j hj => hpi j (by omega))) (cwV 3 hts gX8_plan_X3_solve rfl rfl rfl (by decide +kernel) ⟨Nat.le_of_ble_eq_true rfl, Nat.le_of_ble_eq_true rfl⟩) hK hZ hA hW hS f55 (by decide) rfl rfl hl.1 rfl (Nat.le_of_ble_eq_true rfl) dX8_plan_113 ⟨Nat.le_of_ble_eq_true rfl, Nat.le_of_ble_eq_true rfl⟩ (fun v116 T117 H locs p118 hW hS => ?_)
              exact pc_iret (v := v116) (S := T117) hx hb hr hlk hK hZ hA hW hS (p118.trans (PL_yes hva (by omega) ew)) dX8_plan_116
            · have c115i : ¬ (Int32.toInt a ≤ Int32.toInt (nI i)) := fun h9 => c115 ((i3_le _ _).mpr h9)
              refine lv_aload_n hx hb dX8_plan_34 rfl (lv_at hl 0 rfl) ?_
              refine pg_gi (ci := 8) (C := RX8) (T := TX8) (N := 18) hx hb hts wi8 hown hK hW f43 (by decide) rfl 10 (by decide) (hts (.fieldLink RX8 96 "IceHall" "now" "I") (by decide +kernel)) (fun _ h9 => h9) rfl dX8_plan_35 ?_
              rw [show sI T29 h 10 = 0 from f102]
              refine lv_iload_n hx hb dX8_plan_38 rfl (lv_at hl 3 rfl) ?_
              refine lv_iadd hx hb dX8_plan_39 ?_
              rw [show (0 + (nI i) : Int32) = nI (0 + i) from nI_add 0 i]
              refine lv_istore (lv' := [(4, .int (nI (0 + i))), (0, .ref h), (1, .int a), (2, .int b), (3, .int (nI i))]) hx hb dX8_plan_40 hl (by decide) rfl (fun ls hl => ?_)
              refine lv_aload_n hx hb dX8_plan_42 rfl (lv_at hl 1 rfl) ?_
              refine lv_iconst (v := 0) hx hb dX8_plan_43 (by decide) ?_
              refine lv_iload hx hb dX8_plan_44 (lv_at hl 0 rfl) ?_
              refine pc_Vq (As := [.int 0, .int (nI (0 + i))]) (rest := []) F (c_X8_standingAt l D cy A T29 h i1 i2 q1 w1 q3 w3 0 (nI (0 + i)) f43 f69 f70 f44 f73 f45 f74 f46 f60 f110 f49 f77 f50 f78 f51 f62 f112 f101) (cwV 2 hts gX8_plan_X8_standingAt rfl rfl rfl (by decide +kernel) ⟨Nat.le_of_ble_eq_true rfl, Nat.le_of_ble_eq_true rfl⟩) hK hZ hA hW hS f43 (by decide) rfl rfl hl.1 rfl (Nat.le_of_ble_eq_true rfl) dX8_plan_46 ⟨Nat.le_of_ble_eq_true rfl, Nat.le_of_ble_eq_true rfl⟩ (fun v119 T120 H locs p121 hW hS => ?_)
              obtain ⟨eT120, p121⟩ := p121
              rw [eT120] at hW
              rw [show v119 = none from p121]
              refine pc_Si (As := [.null]) (rest := []) F (c_X8_heatOf l D cy A T29  ) (va_cwS 1 hts gX8_plan_X8_heatOf rfl rfl rfl (by decide +kernel) ⟨Nat.le_of_ble_eq_true rfl, Nat.le_of_ble_eq_true rfl⟩) hK hZ hA hW hS rfl hl.1 rfl (Nat.le_of_ble_eq_true rfl) dX8_plan_49 ⟨Nat.le_of_ble_eq_true rfl, Nat.le_of_ble_eq_true rfl⟩ (fun v122 T123 H locs p124 hW hS => ?_)
              obtain ⟨eT123, p124⟩ := p124
              rw [eT123] at hW
              rw [show v122 = 0 from p124]
              refine lv_aload_n hx hb dX8_plan_52 rfl (lv_at hl 1 rfl) ?_
              refine lv_iconst (v := 1) hx hb dX8_plan_53 (by decide) ?_
              refine lv_iload hx hb dX8_plan_54 (lv_at hl 0 rfl) ?_
              refine pc_Vq (As := [.int 1, .int (nI (0 + i))]) (rest := [.int 0]) F (c_X8_standingAt l D cy A T29 h i1 i2 q1 w1 q3 w3 1 (nI (0 + i)) f43 f69 f70 f44 f73 f45 f74 f46 f60 f110 f49 f77 f50 f78 f51 f62 f112 f101) (cwV 2 hts gX8_plan_X8_standingAt rfl rfl rfl (by decide +kernel) ⟨Nat.le_of_ble_eq_true rfl, Nat.le_of_ble_eq_true rfl⟩) hK hZ hA hW hS f43 (by decide) rfl rfl hl.1 rfl (Nat.le_of_ble_eq_true rfl) dX8_plan_56 ⟨Nat.le_of_ble_eq_true rfl, Nat.le_of_ble_eq_true rfl⟩ (fun v125 T126 H locs p127 hW hS => ?_)
              obtain ⟨eT126, p127⟩ := p127
              rw [eT126] at hW
              rw [show v125 = none from p127]
              refine pc_Si (As := [.null]) (rest := [.int 0]) F (c_X8_heatOf l D cy A T29  ) (va_cwS 1 hts gX8_plan_X8_heatOf rfl rfl rfl (by decide +kernel) ⟨Nat.le_of_ble_eq_true rfl, Nat.le_of_ble_eq_true rfl⟩) hK hZ hA hW hS rfl hl.1 rfl (Nat.le_of_ble_eq_true rfl) dX8_plan_59 ⟨Nat.le_of_ble_eq_true rfl, Nat.le_of_ble_eq_true rfl⟩ (fun v128 T129 H locs p130 hW hS => ?_)
              obtain ⟨eT129, p130⟩ := p130
              rw [eT129] at hW
              rw [show v128 = 0 from p130]
              refine lv_iadd hx hb dX8_plan_62 ?_
              rw [show (0 + 0 : Int32) = 0 from by decide]
              refine lv_istore (lv' := [(5, .int 0), (4, .int (nI (0 + i))), (0, .ref h), (1, .int a), (2, .int b), (3, .int (nI i))]) hx hb dX8_plan_63 hl (by decide) rfl (fun ls hl => ?_)
              refine lv_aload_n hx hb dX8_plan_65 rfl (lv_at hl 2 rfl) ?_
              refine pg_gr (b := pl) (ci := 8) (C := RX8) (T := TX8) (N := 18) hx hb hts wi8 hown hK hW f43 (by decide) rfl 8 (by decide) (hts (.fieldLink RX8 64 "IceHall" "planner" "LIceHall$Planner;") (by decide +kernel)) (fun _ h9 => h9) rfl f72 dX8_plan_66 ?_
              refine lv_iload hx hb dX8_plan_69 (lv_at hl 0 rfl) ?_
              refine lv_iconst (v := 2) hx hb dX8_plan_71 (by decide) ?_
              refine lv_iload_n hx hb dX8_plan_72 rfl (lv_at hl 4 rfl) ?_
              refine pc_Si (As := [.int b]) (rest := [.int 2, .int 0, .ref pl]) F (c_X8_wantOfWarmth l D cy A T29 b ) (va_cwS 1 hts gX8_plan_X8_wantOfWarmth rfl rfl rfl (by decide +kernel) ⟨Nat.le_of_ble_eq_true rfl, Nat.le_of_ble_eq_true rfl⟩) hK hZ hA hW hS rfl hl.1 rfl (Nat.le_of_ble_eq_true rfl) dX8_plan_73 ⟨Nat.le_of_ble_eq_true rfl, Nat.le_of_ble_eq_true rfl⟩ (fun v131 T132 H locs p133 hW hS => ?_)
              obtain ⟨eT132, p133⟩ := p133
              rw [eT132] at hW
              rw [show v131 = nI (b.toInt.toNat / 2) from want_b p133 (by omega)]
              refine lv_imul hx hb dX8_plan_76 ?_
              rw [show (2 * (nI (b.toInt.toNat / 2)) : Int32) = nI (2 * (b.toInt.toNat / 2)) from pk_mul 2 (b.toInt.toNat / 2)]
              refine lv_iadd hx hb dX8_plan_77 ?_
              rw [show (0 + (nI (2 * (b.toInt.toNat / 2))) : Int32) = nI (0 + 2 * (b.toInt.toNat / 2)) from nI_add 0 (2 * (b.toInt.toNat / 2))]
              refine lv_aload_n hx hb dX8_plan_78 rfl (lv_at hl 2 rfl) ?_
              refine pg_gr (b := pr) (ci := 8) (C := RX8) (T := TX8) (N := 18) hx hb hts wi8 hown hK hW f43 (by decide) rfl 4 (by decide) (hts (.fieldLink RX8 32 "IceHall" "prices" "[I") (by decide +kernel)) (fun _ h9 => h9) rfl f71 dX8_plan_79 ?_
              refine lv_iload hx hb dX8_plan_82 (lv_at hl 1 rfl) ?_
              refine lv_bipush (v := 24) hx hb dX8_plan_84 (by decide) ?_
              refine lv_irem hx hb dX8_plan_86 (by decide) ?_
              rw [show ((nI (0 + i)) - (nI (0 + i)) / 24 * 24 : Int32) = nI ((0 + i) % 24) from pk_rem (a := 0 + i) (d := 24) (by omega) (by decide) (by decide)]
              refine pg_iald hx hb hK hW f54 (by rw [show sL T29 pr = 24 from f64]; exact vp_in_nI (by omega) (by decide)) dX8_plan_87 ?_
              rw [show sI T29 pr (Int32.toNatClampNeg (nI ((0 + i) % 24))) = 10 from f114 _ (by rw [nI_clamp (by omega)]; omega)]
              refine pc_Vv (As := [.int (nI (0 + 2 * (b.toInt.toNat / 2))), .int 10]) (rest := []) F (c_X3_addHour l D cy A T29 pl wa pi i (nI (0 + 2 * (b.toInt.toNat / 2))) 10 f55 f81 f56 f65 f82 f57 f66 a_122 hsz (by omega)) (cwV 2 hts gX8_plan_X3_addHour rfl rfl rfl (by decide +kernel) ⟨Nat.le_of_ble_eq_true rfl, Nat.le_of_ble_eq_true rfl⟩) hK hZ hA hW hS f55 (by decide) rfl rfl hl.1 rfl (Nat.le_of_ble_eq_true rfl) dX8_plan_88 ⟨Nat.le_of_ble_eq_true rfl, Nat.le_of_ble_eq_true rfl⟩ (fun T135 H locs p136 hW hS => ?_)
              obtain ⟨mdT135, p136⟩ := p136
              have f137 : sK T135 h = 8 := by rw [mdT135.1]; exact f43
              have f138 : sK T135 i1 = 1 := by rw [mdT135.1]; exact f44
              have f139 : sK T135 q1 = 0 := by rw [mdT135.1]; exact f45
              have f140 : sK T135 w1 = 12 := by rw [mdT135.1]; exact f46
              have f141 : sK T135 q2 = 0 := by rw [mdT135.1]; exact f47
              have f142 : sK T135 w2 = 12 := by rw [mdT135.1]; exact f48
              have f143 : sK T135 i2 = 1 := by rw [mdT135.1]; exact f49
              have f144 : sK T135 q3 = 0 := by rw [mdT135.1]; exact f50
              have f145 : sK T135 w3 = 12 := by rw [mdT135.1]; exact f51
              have f146 : sK T135 q4 = 0 := by rw [mdT135.1]; exact f52
              have f147 : sK T135 w4 = 12 := by rw [mdT135.1]; exact f53
              have f148 : sK T135 pr = 11 := by rw [mdT135.1]; exact f54
              have f149 : sK T135 pl = 3 := by rw [mdT135.1]; exact f55
              have f150 : sK T135 wa = 11 := by rw [mdT135.1]; exact f56
              have f151 : sK T135 pi = 11 := by rw [mdT135.1]; exact f57
              have f152 : sK T135 be = 11 := by rw [mdT135.1]; exact f58
              have f153 : sK T135 ro = 11 := by rw [mdT135.1]; exact f59
              have f154 : sL T135 w1 = 32 := by rw [mdT135.2.2.1]; exact f60
              have f155 : sL T135 w2 = 32 := by rw [mdT135.2.2.1]; exact f61
              have f156 : sL T135 w3 = 32 := by rw [mdT135.2.2.1]; exact f62
              have f157 : sL T135 w4 = 32 := by rw [mdT135.2.2.1]; exact f63
              have f158 : sL T135 pr = 24 := by rw [mdT135.2.2.1]; exact f64
              have f159 : sL T135 wa = 9 := by rw [mdT135.2.2.1]; exact f65
              have f160 : sL T135 pi = 8 := by rw [mdT135.2.2.1]; exact f66
              have f161 : sL T135 be = 225 := by rw [mdT135.2.2.1]; exact f67
              have f162 : sL T135 ro = 8 := by rw [mdT135.2.2.1]; exact f68
              have f163 : sR T135 h 0 = some i1 := by rw [mdT135.2.1]; exact f69
              have f164 : sR T135 h 1 = some i2 := by rw [mdT135.2.1]; exact f70
              have f165 : sR T135 h 4 = some pr := by rw [mdT135.2.1]; exact f71
              have f166 : sR T135 h 8 = some pl := by rw [mdT135.2.1]; exact f72
              have f167 : sR T135 i1 0 = some q1 := by rw [mdT135.2.1]; exact f73
              have f168 : sR T135 q1 0 = some w1 := by rw [mdT135.2.1]; exact f74
              have f169 : sR T135 i1 1 = some q2 := by rw [mdT135.2.1]; exact f75
              have f170 : sR T135 q2 0 = some w2 := by rw [mdT135.2.1]; exact f76
              have f171 : sR T135 i2 0 = some q3 := by rw [mdT135.2.1]; exact f77
              have f172 : sR T135 q3 0 = some w3 := by rw [mdT135.2.1]; exact f78
              have f173 : sR T135 i2 1 = some q4 := by rw [mdT135.2.1]; exact f79
              have f174 : sR T135 q4 0 = some w4 := by rw [mdT135.2.1]; exact f80
              have f175 : sR T135 pl 0 = some wa := by rw [mdT135.2.1]; exact f81
              have f176 : sR T135 pl 1 = some pi := by rw [mdT135.2.1]; exact f82
              have f177 : sR T135 pl 2 = some be := by rw [mdT135.2.1]; exact f83
              have f178 : sR T135 pl 3 = some ro := by rw [mdT135.2.1]; exact f84
              have f179 : sI T135 i1 2 = 0 := by rw [(mdT135.2.2.2 i1 (ni_c (fk_ne f44 f55 (by decide)) (ni_c (fk_ne f44 f56 (by decide)) (ni_c (fk_ne f44 f57 (by decide)) ni_0)))).1]; exact f85
              have f180 : sI T135 i1 3 = 300 := by rw [(mdT135.2.2.2 i1 (ni_c (fk_ne f44 f55 (by decide)) (ni_c (fk_ne f44 f56 (by decide)) (ni_c (fk_ne f44 f57 (by decide)) ni_0)))).1]; exact f86
              have f181 : sI T135 i1 4 = 0 := by rw [(mdT135.2.2.2 i1 (ni_c (fk_ne f44 f55 (by decide)) (ni_c (fk_ne f44 f56 (by decide)) (ni_c (fk_ne f44 f57 (by decide)) ni_0)))).1]; exact f87
              have f182 : sI T135 i1 5 = 0 := by rw [(mdT135.2.2.2 i1 (ni_c (fk_ne f44 f55 (by decide)) (ni_c (fk_ne f44 f56 (by decide)) (ni_c (fk_ne f44 f57 (by decide)) ni_0)))).1]; exact f88
              have f183 : sI T135 i1 6 = 0 := by rw [(mdT135.2.2.2 i1 (ni_c (fk_ne f44 f55 (by decide)) (ni_c (fk_ne f44 f56 (by decide)) (ni_c (fk_ne f44 f57 (by decide)) ni_0)))).1]; exact f89
              have f184 : sI T135 i1 7 = 0 := by rw [(mdT135.2.2.2 i1 (ni_c (fk_ne f44 f55 (by decide)) (ni_c (fk_ne f44 f56 (by decide)) (ni_c (fk_ne f44 f57 (by decide)) ni_0)))).1]; exact f90
              have f185 : sI T135 i1 8 = 0 := by rw [(mdT135.2.2.2 i1 (ni_c (fk_ne f44 f55 (by decide)) (ni_c (fk_ne f44 f56 (by decide)) (ni_c (fk_ne f44 f57 (by decide)) ni_0)))).1]; exact f91
              have f186 : sI T135 i1 9 = 0 := by rw [(mdT135.2.2.2 i1 (ni_c (fk_ne f44 f55 (by decide)) (ni_c (fk_ne f44 f56 (by decide)) (ni_c (fk_ne f44 f57 (by decide)) ni_0)))).1]; exact f92
              have f187 : sI T135 i2 2 = 0 := by rw [(mdT135.2.2.2 i2 (ni_c (fk_ne f49 f55 (by decide)) (ni_c (fk_ne f49 f56 (by decide)) (ni_c (fk_ne f49 f57 (by decide)) ni_0)))).1]; exact f93
              have f188 : sI T135 i2 3 = 300 := by rw [(mdT135.2.2.2 i2 (ni_c (fk_ne f49 f55 (by decide)) (ni_c (fk_ne f49 f56 (by decide)) (ni_c (fk_ne f49 f57 (by decide)) ni_0)))).1]; exact f94
              have f189 : sI T135 i2 4 = 0 := by rw [(mdT135.2.2.2 i2 (ni_c (fk_ne f49 f55 (by decide)) (ni_c (fk_ne f49 f56 (by decide)) (ni_c (fk_ne f49 f57 (by decide)) ni_0)))).1]; exact f95
              have f190 : sI T135 i2 5 = 0 := by rw [(mdT135.2.2.2 i2 (ni_c (fk_ne f49 f55 (by decide)) (ni_c (fk_ne f49 f56 (by decide)) (ni_c (fk_ne f49 f57 (by decide)) ni_0)))).1]; exact f96
              have f191 : sI T135 i2 6 = 0 := by rw [(mdT135.2.2.2 i2 (ni_c (fk_ne f49 f55 (by decide)) (ni_c (fk_ne f49 f56 (by decide)) (ni_c (fk_ne f49 f57 (by decide)) ni_0)))).1]; exact f97
              have f192 : sI T135 i2 7 = 0 := by rw [(mdT135.2.2.2 i2 (ni_c (fk_ne f49 f55 (by decide)) (ni_c (fk_ne f49 f56 (by decide)) (ni_c (fk_ne f49 f57 (by decide)) ni_0)))).1]; exact f98
              have f193 : sI T135 i2 8 = 0 := by rw [(mdT135.2.2.2 i2 (ni_c (fk_ne f49 f55 (by decide)) (ni_c (fk_ne f49 f56 (by decide)) (ni_c (fk_ne f49 f57 (by decide)) ni_0)))).1]; exact f99
              have f194 : sI T135 i2 9 = 0 := by rw [(mdT135.2.2.2 i2 (ni_c (fk_ne f49 f55 (by decide)) (ni_c (fk_ne f49 f56 (by decide)) (ni_c (fk_ne f49 f57 (by decide)) ni_0)))).1]; exact f100
              have f195 : sI T135 h 9 = 0 := by rw [(mdT135.2.2.2 h (ni_c (fk_ne f43 f55 (by decide)) (ni_c (fk_ne f43 f56 (by decide)) (ni_c (fk_ne f43 f57 (by decide)) ni_0)))).1]; exact f101
              have f196 : sI T135 h 10 = 0 := by rw [(mdT135.2.2.2 h (ni_c (fk_ne f43 f55 (by decide)) (ni_c (fk_ne f43 f56 (by decide)) (ni_c (fk_ne f43 f57 (by decide)) ni_0)))).1]; exact f102
              have f197 : sI T135 h 11 = 200 := by rw [(mdT135.2.2.2 h (ni_c (fk_ne f43 f55 (by decide)) (ni_c (fk_ne f43 f56 (by decide)) (ni_c (fk_ne f43 f57 (by decide)) ni_0)))).1]; exact f103
              have f198 : sI T135 h 12 = 400 := by rw [(mdT135.2.2.2 h (ni_c (fk_ne f43 f55 (by decide)) (ni_c (fk_ne f43 f56 (by decide)) (ni_c (fk_ne f43 f57 (by decide)) ni_0)))).1]; exact f104
              have f199 : sI T135 h 13 = 3 := by rw [(mdT135.2.2.2 h (ni_c (fk_ne f43 f55 (by decide)) (ni_c (fk_ne f43 f56 (by decide)) (ni_c (fk_ne f43 f57 (by decide)) ni_0)))).1]; exact f105
              have f200 : sI T135 h 14 = 2 := by rw [(mdT135.2.2.2 h (ni_c (fk_ne f43 f55 (by decide)) (ni_c (fk_ne f43 f56 (by decide)) (ni_c (fk_ne f43 f57 (by decide)) ni_0)))).1]; exact f106
              have f201 : sI T135 h 15 = 0 := by rw [(mdT135.2.2.2 h (ni_c (fk_ne f43 f55 (by decide)) (ni_c (fk_ne f43 f56 (by decide)) (ni_c (fk_ne f43 f57 (by decide)) ni_0)))).1]; exact f107
              have f202 : sI T135 h 16 = 0 := by rw [(mdT135.2.2.2 h (ni_c (fk_ne f43 f55 (by decide)) (ni_c (fk_ne f43 f56 (by decide)) (ni_c (fk_ne f43 f57 (by decide)) ni_0)))).1]; exact f108
              have f203 : sI T135 h 17 = 0 := by rw [(mdT135.2.2.2 h (ni_c (fk_ne f43 f55 (by decide)) (ni_c (fk_ne f43 f56 (by decide)) (ni_c (fk_ne f43 f57 (by decide)) ni_0)))).1]; exact f109
              have f204 : ∀ j, sJ T135 w1 j = 0 := fun j => by rw [(mdT135.2.2.2 w1 (ni_c (fk_ne f46 f55 (by decide)) (ni_c (fk_ne f46 f56 (by decide)) (ni_c (fk_ne f46 f57 (by decide)) ni_0)))).2]; exact f110 j 
              have f205 : ∀ j, sJ T135 w2 j = 0 := fun j => by rw [(mdT135.2.2.2 w2 (ni_c (fk_ne f48 f55 (by decide)) (ni_c (fk_ne f48 f56 (by decide)) (ni_c (fk_ne f48 f57 (by decide)) ni_0)))).2]; exact f111 j 
              have f206 : ∀ j, sJ T135 w3 j = 0 := fun j => by rw [(mdT135.2.2.2 w3 (ni_c (fk_ne f51 f55 (by decide)) (ni_c (fk_ne f51 f56 (by decide)) (ni_c (fk_ne f51 f57 (by decide)) ni_0)))).2]; exact f112 j 
              have f207 : ∀ j, sJ T135 w4 j = 0 := fun j => by rw [(mdT135.2.2.2 w4 (ni_c (fk_ne f53 f55 (by decide)) (ni_c (fk_ne f53 f56 (by decide)) (ni_c (fk_ne f53 f57 (by decide)) ni_0)))).2]; exact f113 j 
              have f208 : ∀ j, j < 24 → sI T135 pr j = 10 := fun j hj => by rw [(mdT135.2.2.2 pr (ni_c (fk_ne f54 f55 (by decide)) (ni_c a_126 (ni_c a_127 ni_0)))).1]; exact f114 j hj 
              obtain ⟨y209, p136⟩ := p136
              refine lv_iinc (v := nI i + 1) (lv' := [(3, .int (nI i + 1)), (5, .int 0), (4, .int (nI (0 + i))), (0, .ref h), (1, .int a), (2, .int b)]) hx hb dX8_plan_91 hl (k := 5) rfl rfl (by decide) rfl (fun ls hl => ?_)
              refine lv_goto (tgt := 29) hx hb dX8_plan_94 (by decide) ?_
              exact ih (i + 1) T135 H locs ls (hmd29.tr mdT135) (by omega) (y209) (fun j hj => by rcases Nat.lt_or_ge i j with h3 | h3; rw [show j = i + 1 from by omega, p136.2.1, hwa i (Nat.le_refl _), nI_add]; exact congrArg nI (by rw [Nat.mul_succ]; omega); rw [p136.2.2.2 j (by omega)]; exact hwa j h3) (fun j hj => by rcases Nat.lt_or_ge j i with h3 | h3; rw [p136.2.2.1 j (by omega)]; exact hpi j h3; rw [show j = i from by omega]; exact p136.1) (by omega) hW hS (lv_cast (lv_sub hl [3, 4, 5, 0] rfl) (by rw [nI_1]; rfl))
        exact loop42 _ 0 (stI S pl 5 0) _ _ ls (Md.rf _ _) (Nat.zero_le _) (w39) (fun j hj => by rw [show j = 0 from by omega]; exact w41 0 (by decide)) (fun j hj => absurd hj (Nat.not_lt_zero _)) (Nat.lt_succ_self _) hW hS (lv_cast (lv_sub hl [1, 2, 3, 0] rfl) (rfl))
      · have c6i : Int32.toInt v3 = (0 : Int) := (i3_eq _ _).mp c6
        refine lv_iconst (v := (-1)) hx hb dX8_plan_18 (by decide) ?_
        exact pc_iret (v := (-1)) (S := S) hx hb hr hlk hK hZ hA hW hS (PL_no (by omega)) dX8_plan_19
