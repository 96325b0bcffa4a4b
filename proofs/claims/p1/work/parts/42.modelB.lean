set_option maxHeartbeats 4000000 in
set_option maxRecDepth 100000 in
theorem c_X9_book (l : Launch) (D : va_G) (cy : Nat → ClassId) (A : Nat → Prop) (S : St) (h m_clocks m_daysOf m_kinds m_limit m_fee m_hundredths m_clubOf m_kindOf m_sheetOf m_hourOf m_state m_why m_feeOf m_partOf m_moved : Nat) (a k t x : Int32) (hk : sK S h = 9) (r_5 : sR S h 5 = some m_clocks) (k_5 : sK S m_clocks = 11) (n_5 : sL S m_clocks = 6) (r_6 : sR S h 6 = some m_daysOf) (k_6 : sK S m_daysOf = 11) (n_6 : sL S m_daysOf = 6) (r_7 : sR S h 7 = some m_kinds) (k_7 : sK S m_kinds = 11) (n_7 : sL S m_kinds = 6) (r_8 : sR S h 8 = some m_limit) (k_8 : sK S m_limit = 11) (n_8 : sL S m_limit = 6) (r_9 : sR S h 9 = some m_fee) (k_9 : sK S m_fee = 11) (n_9 : sL S m_fee = 6) (r_10 : sR S h 10 = some m_hundredths) (k_10 : sK S m_hundredths = 11) (n_10 : sL S m_hundredths = 6) (r_37 : sR S h 37 = some m_clubOf) (k_37 : sK S m_clubOf = 11) (n_37 : sL S m_clubOf = 200) (r_38 : sR S h 38 = some m_kindOf) (k_38 : sK S m_kindOf = 11) (n_38 : sL S m_kindOf = 200) (r_39 : sR S h 39 = some m_sheetOf) (k_39 : sK S m_sheetOf = 11) (n_39 : sL S m_sheetOf = 200) (r_40 : sR S h 40 = some m_hourOf) (k_40 : sK S m_hourOf = 11) (n_40 : sL S m_hourOf = 200) (r_41 : sR S h 41 = some m_state) (k_41 : sK S m_state = 11) (n_41 : sL S m_state = 200) (r_42 : sR S h 42 = some m_why) (k_42 : sK S m_why = 11) (n_42 : sL S m_why = 200) (r_43 : sR S h 43 = some m_feeOf) (k_43 : sK S m_feeOf = 11) (n_43 : sL S m_feeOf = 200) (r_44 : sR S h 44 = some m_partOf) (k_44 : sK S m_partOf = 11) (n_44 : sL S m_partOf = 200) (r_45 : sR S h 45 = some m_moved) (k_45 : sK S m_moved = 11) (n_45 : sL S m_moved = 200) (a_m_clocks : ∀ j, j < 6 → sI S m_clocks j = 16777215) (a_m_daysOf : ∀ j, j < 6 → sI S m_daysOf j = 127) (a_m_kinds : ∀ j, j < 6 → sI S m_kinds j = 15) (a_m_limit : ∀ j, j < 6 → sI S m_limit j = 168) (i_18 : sI S h 18 = 0) (i_25 : sI S h 25 = 2) (i_35 : sI S h 35 = 0) (i_36 : sI S h 36 = 0) : MI l yX9_book wsX9_book ({ frames := 2, cells := 0, slots := 0, locals := 47 } : Room) 0 0 D cy A [.ref h, .int a, .int k, .int t, .int x] S (fun r S1 => (r = 0 ∧ 0 ≤ a.toInt ∧ a.toInt < 6 ∧ 0 ≤ k.toInt ∧ k.toInt < 4 ∧ 0 ≤ t.toInt ∧ t.toInt < 2 ∧ 0 ≤ x.toInt ∧ x.toInt ≤ 999) ∨ (r = (-1) ∧ ¬ (0 ≤ a.toInt ∧ a.toInt < 6 ∧ 0 ≤ k.toInt ∧ k.toInt < 4 ∧ 0 ≤ t.toInt ∧ t.toInt < 2 ∧ 0 ≤ x.toInt ∧ x.toInt ≤ 999))) := by
  refine mt_start (cc := cX9_book) (maxL := 6) (ret := (some .int)) (by decide) rfl (Nat.le_of_ble_eq_true rfl) ?_
  intro p e s m args below meth c hx hb hr hlk hml hown hnm hts hK hZ hA hW hS ls hl
  have hl : lv_has ls 6 [(0, .ref h), (1, .int a), (2, .int k), (3, .int t), (4, .int x)] := hl
  have hown : s.vm.findClass RX9 = some m.cls := hown
  have F : CallFix p m c cX9_book 6 s args wsX9_book RX9 := ⟨hx, hb, hml, hown, hts⟩
  have wi9 : ∀ w ∈ u_ws RX9 TX9 63, w ∈ wsX9_book := by decide +kernel
  refine lv_iload_n hx hb dX9_book_0 rfl (lv_at hl 1 rfl) ?_
  refine pc_Si (As := [.int a]) (rest := []) F (c_X9_isClub l D cy A S a ) (va_cwS 1 hts gX9_book_X9_isClub rfl rfl rfl (by decide +kernel) ⟨Nat.le_of_ble_eq_true rfl, Nat.le_of_ble_eq_true rfl⟩) hK hZ hA hW hS rfl hl.1 rfl (Nat.le_of_ble_eq_true rfl) dX9_book_1 ⟨Nat.le_of_ble_eq_true rfl, Nat.le_of_ble_eq_true rfl⟩ (fun v1 T2 H locs p3 hW hS => ?_)
  obtain ⟨eT2, p3⟩ := p3
  rw [eT2] at hW
  refine lv_if_eq (tgt := 55) hx hb dX9_book_4 (by decide) (fun c4 => ?_) (fun c4 => ?_)
  · have c4i : Int32.toInt v1 = (0 : Int) := (i3_eq _ _).mp c4
    refine lv_iconst (v := (-1)) hx hb dX9_book_55 (by decide) ?_
    exact pc_iret (v := (-1)) (S := S) hx hb hr hlk hK hZ hA hW hS (Or.inr ⟨rfl, by omega⟩) dX9_book_56
  · have c4i : ¬ (Int32.toInt v1 = (0 : Int)) := fun h9 => c4 ((i3_eq _ _).mpr h9)
    refine lv_iload_n hx hb dX9_book_7 rfl (lv_at hl 2 rfl) ?_
    refine lv_if_lt (tgt := 55) hx hb dX9_book_8 (by decide) (fun c5 => ?_) (fun c5 => ?_)
    · have c5i : Int32.toInt k < (0 : Int) := (i3_lt _ _).mp c5
      refine lv_iconst (v := (-1)) hx hb dX9_book_55 (by decide) ?_
      exact pc_iret (v := (-1)) (S := S) hx hb hr hlk hK hZ hA hW hS (Or.inr ⟨rfl, by omega⟩) dX9_book_56
    · have c5i : ¬ (Int32.toInt k < (0 : Int)) := fun h9 => c5 ((i3_lt _ _).mpr h9)
      refine lv_iload_n hx hb dX9_book_11 rfl (lv_at hl 2 rfl) ?_
      refine lv_iconst (v := 3) hx hb dX9_book_12 (by decide) ?_
      refine lv_icmp_gt (tgt := 55) hx hb dX9_book_13 (by decide) (fun c6 => ?_) (fun c6 => ?_)
      · have c6i : (3 : Int) < Int32.toInt k := (i3_lt _ _).mp c6
        refine lv_iconst (v := (-1)) hx hb dX9_book_55 (by decide) ?_
        exact pc_iret (v := (-1)) (S := S) hx hb hr hlk hK hZ hA hW hS (Or.inr ⟨rfl, by omega⟩) dX9_book_56
      · have c6i : ¬ ((3 : Int) < Int32.toInt k) := fun h9 => c6 ((i3_lt _ _).mpr h9)
        refine lv_iload_n hx hb dX9_book_16 rfl (lv_at hl 3 rfl) ?_
        refine pc_Si (As := [.int t]) (rest := []) F (c_X9_isSheet l D cy A S t ) (va_cwS 1 hts gX9_book_X9_isSheet rfl rfl rfl (by decide +kernel) ⟨Nat.le_of_ble_eq_true rfl, Nat.le_of_ble_eq_true rfl⟩) hK hZ hA hW hS rfl hl.1 rfl (Nat.le_of_ble_eq_true rfl) dX9_book_17 ⟨Nat.le_of_ble_eq_true rfl, Nat.le_of_ble_eq_true rfl⟩ (fun v7 T8 H locs p9 hW hS => ?_)
        obtain ⟨eT8, p9⟩ := p9
        rw [eT8] at hW
        refine lv_if_eq (tgt := 55) hx hb dX9_book_20 (by decide) (fun c10 => ?_) (fun c10 => ?_)
        · have c10i : Int32.toInt v7 = (0 : Int) := (i3_eq _ _).mp c10
          refine lv_iconst (v := (-1)) hx hb dX9_book_55 (by decide) ?_
          exact pc_iret (v := (-1)) (S := S) hx hb hr hlk hK hZ hA hW hS (Or.inr ⟨rfl, by omega⟩) dX9_book_56
        · have c10i : ¬ (Int32.toInt v7 = (0 : Int)) := fun h9 => c10 ((i3_eq _ _).mpr h9)
          refine lv_iload hx hb dX9_book_23 (lv_at hl 4 rfl) ?_
          refine lv_aload_n hx hb dX9_book_25 rfl (lv_at hl 0 rfl) ?_
          refine pg_gi (ci := 9) (C := RX9) (T := TX9) (N := 63) hx hb hts wi9 hown hK hW hk (by decide) rfl 18 (by decide) (hts (.fieldLink RX9 219 "IceHallModel" "now" "I") (by decide +kernel)) (fun _ h9 => h9) rfl dX9_book_26 ?_
          rw [show sI S h 18 = 0 from i_18]
          refine lv_icmp_lt (tgt := 55) hx hb dX9_book_29 (by decide) (fun c11 => ?_) (fun c11 => ?_)
          · have c11i : Int32.toInt x < (0 : Int) := (i3_lt _ _).mp c11
            refine lv_iconst (v := (-1)) hx hb dX9_book_55 (by decide) ?_
            exact pc_iret (v := (-1)) (S := S) hx hb hr hlk hK hZ hA hW hS (Or.inr ⟨rfl, by omega⟩) dX9_book_56
          · have c11i : ¬ (Int32.toInt x < (0 : Int)) := fun h9 => c11 ((i3_lt _ _).mpr h9)
            refine lv_iload hx hb dX9_book_32 (lv_at hl 4 rfl) ?_
            refine lv_aload_n hx hb dX9_book_34 rfl (lv_at hl 0 rfl) ?_
            refine pg_gi (ci := 9) (C := RX9) (T := TX9) (N := 63) hx hb hts wi9 hown hK hW hk (by decide) rfl 18 (by decide) (hts (.fieldLink RX9 219 "IceHallModel" "now" "I") (by decide +kernel)) (fun _ h9 => h9) rfl dX9_book_35 ?_
            rw [show sI S h 18 = 0 from i_18]
            refine lv_sipush (v := 999) hx hb dX9_book_38 (by decide) ?_
            refine lv_iadd hx hb dX9_book_41 ?_
            rw [show (0 + 999 : Int32) = 999 from by decide]
            refine lv_icmp_gt (tgt := 55) hx hb dX9_book_42 (by decide) (fun c12 => ?_) (fun c12 => ?_)
            · have c12i : (999 : Int) < Int32.toInt x := (i3_lt _ _).mp c12
              refine lv_iconst (v := (-1)) hx hb dX9_book_55 (by decide) ?_
              exact pc_iret (v := (-1)) (S := S) hx hb hr hlk hK hZ hA hW hS (Or.inr ⟨rfl, by omega⟩) dX9_book_56
            · have c12i : ¬ ((999 : Int) < Int32.toInt x) := fun h9 => c12 ((i3_lt _ _).mpr h9)
              refine lv_aload_n hx hb dX9_book_45 rfl (lv_at hl 0 rfl) ?_
              refine pg_gi (ci := 9) (C := RX9) (T := TX9) (N := 63) hx hb hts wi9 hown hK hW hk (by decide) rfl 35 (by decide) (hts (.fieldLink RX9 205 "IceHallModel" "sessions" "I") (by decide +kernel)) (fun _ h9 => h9) rfl dX9_book_46 ?_
              rw [show sI S h 35 = 0 from i_35]
              refine lv_sipush (v := 200) hx hb dX9_book_49 (by decide) ?_
              refine lv_icmp_ne (tgt := 57) hx hb dX9_book_52 (by decide) (fun c13 => ?_) (fun c13 => absurd c13 (by decide))
              refine lv_aload_n hx hb dX9_book_57 rfl (lv_at hl 0 rfl) ?_
              refine lv_iload_n hx hb dX9_book_58 rfl (lv_at hl 3 rfl) ?_
              refine lv_iload hx hb dX9_book_59 (lv_at hl 4 rfl) ?_
              refine pc_Vi (As := [.int t, .int x]) (rest := []) F (c_X9_standing l D cy A S h t x hk i_35) (cwV 2 hts gX9_book_X9_standing rfl rfl rfl (by decide +kernel) ⟨Nat.le_of_ble_eq_true rfl, Nat.le_of_ble_eq_true rfl⟩) hK hZ hA hW hS hk (by decide) rfl rfl hl.1 rfl (Nat.le_of_ble_eq_true rfl) dX9_book_61 ⟨Nat.le_of_ble_eq_true rfl, Nat.le_of_ble_eq_true rfl⟩ (fun v14 T15 H locs p16 hW hS => ?_)
              obtain ⟨eT15, p16⟩ := p16
              rw [eT15] at hW
              rw [show v14 = (-1) from p16]
              refine lv_iconst (v := (-1)) hx hb dX9_book_64 (by decide) ?_
              refine lv_icmp_ne (tgt := 78) hx hb dX9_book_65 (by decide) (fun c17 => absurd (by decide) c17) (fun c17 => ?_)
              refine lv_aload_n hx hb dX9_book_68 rfl (lv_at hl 0 rfl) ?_
              refine lv_iload_n hx hb dX9_book_69 rfl (lv_at hl 3 rfl) ?_
              refine lv_iload hx hb dX9_book_70 (lv_at hl 4 rfl) ?_
              refine pc_Vi (As := [.int t, .int x]) (rest := []) F (c_X9_isClosed l D cy A S h t x hk i_36) (cwV 2 hts gX9_book_X9_isClosed rfl rfl rfl (by decide +kernel) ⟨Nat.le_of_ble_eq_true rfl, Nat.le_of_ble_eq_true rfl⟩) hK hZ hA hW hS hk (by decide) rfl rfl hl.1 rfl (Nat.le_of_ble_eq_true rfl) dX9_book_72 ⟨Nat.le_of_ble_eq_true rfl, Nat.le_of_ble_eq_true rfl⟩ (fun v18 T19 H locs p20 hW hS => ?_)
              obtain ⟨eT19, p20⟩ := p20
              rw [eT19] at hW
              rw [show v18 = 0 from p20]
              refine lv_if_eq (tgt := 80) hx hb dX9_book_75 (by decide) (fun c21 => ?_) (fun c21 => absurd (by decide) c21)
              refine lv_aload_n hx hb dX9_book_80 rfl (lv_at hl 0 rfl) ?_
              refine pg_gr (b := m_clocks) (ci := 9) (C := RX9) (T := TX9) (N := 63) hx hb hts wi9 hown hK hW hk (by decide) rfl 5 (by decide) (hts (.fieldLink RX9 13 "IceHallModel" "clocks" "[I") (by decide +kernel)) (fun _ h9 => h9) rfl r_5 dX9_book_81 ?_
              refine lv_iload_n hx hb dX9_book_84 rfl (lv_at hl 1 rfl) ?_
              refine pg_iald hx hb hK hW k_5 (by rw [show sL S m_clocks = 6 from n_5]; exact r_in (by omega)) dX9_book_85 ?_
              rw [show sI S m_clocks (Int32.toNatClampNeg a) = 16777215 from a_m_clocks _ (cl_lt (by omega) (by omega))]
              refine lv_iload hx hb dX9_book_86 (lv_at hl 4 rfl) ?_
              refine lv_bipush (v := 24) hx hb dX9_book_88 (by decide) ?_
              refine lv_irem hx hb dX9_book_90 (by decide) ?_
              refine lv_ishr hx hb dX9_book_91 ?_
              refine lv_iconst (v := 1) hx hb dX9_book_92 (by decide) ?_
              refine lv_iand hx hb dX9_book_93 ?_
              refine lv_iconst (v := 1) hx hb dX9_book_94 (by decide) ?_
              refine lv_icmp_ne (tgt := 157) hx hb dX9_book_95 (by decide) (fun c22 => absurd (e24 (rem24 (by omega)).1 (rem24 (by omega)).2) c22) (fun c22 => ?_)
              refine lv_aload_n hx hb dX9_book_98 rfl (lv_at hl 0 rfl) ?_
              refine pg_gr (b := m_daysOf) (ci := 9) (C := RX9) (T := TX9) (N := 63) hx hb hts wi9 hown hK hW hk (by decide) rfl 6 (by decide) (hts (.fieldLink RX9 17 "IceHallModel" "daysOf" "[I") (by decide +kernel)) (fun _ h9 => h9) rfl r_6 dX9_book_99 ?_
              refine lv_iload_n hx hb dX9_book_102 rfl (lv_at hl 1 rfl) ?_
              refine pg_iald hx hb hK hW k_6 (by rw [show sL S m_daysOf = 6 from n_6]; exact r_in (by omega)) dX9_book_103 ?_
              rw [show sI S m_daysOf (Int32.toNatClampNeg a) = 127 from a_m_daysOf _ (cl_lt (by omega) (by omega))]
              refine lv_iload hx hb dX9_book_104 (lv_at hl 4 rfl) ?_
              refine lv_bipush (v := 24) hx hb dX9_book_106 (by decide) ?_
              refine lv_idiv hx hb dX9_book_108 (by decide) ?_
              refine lv_bipush (v := 7) hx hb dX9_book_109 (by decide) ?_
              refine lv_irem hx hb dX9_book_111 (by decide) ?_
              refine lv_ishr hx hb dX9_book_112 ?_
              refine lv_iconst (v := 1) hx hb dX9_book_113 (by decide) ?_
              refine lv_iand hx hb dX9_book_114 ?_
              refine lv_iconst (v := 1) hx hb dX9_book_115 (by decide) ?_
              refine lv_icmp_ne (tgt := 157) hx hb dX9_book_116 (by decide) (fun c23 => absurd (e7 (rem7 (div24 (by omega))).1 (rem7 (div24 (by omega))).2) c23) (fun c23 => ?_)
              refine lv_aload_n hx hb dX9_book_119 rfl (lv_at hl 0 rfl) ?_
              refine pg_gr (b := m_kinds) (ci := 9) (C := RX9) (T := TX9) (N := 63) hx hb hts wi9 hown hK hW hk (by decide) rfl 7 (by decide) (hts (.fieldLink RX9 20 "IceHallModel" "kinds" "[I") (by decide +kernel)) (fun _ h9 => h9) rfl r_7 dX9_book_120 ?_
              refine lv_iload_n hx hb dX9_book_123 rfl (lv_at hl 1 rfl) ?_
              refine pg_iald hx hb hK hW k_7 (by rw [show sL S m_kinds = 6 from n_7]; exact r_in (by omega)) dX9_book_124 ?_
              rw [show sI S m_kinds (Int32.toNatClampNeg a) = 15 from a_m_kinds _ (cl_lt (by omega) (by omega))]
              refine lv_iload_n hx hb dX9_book_125 rfl (lv_at hl 2 rfl) ?_
              refine lv_ishr hx hb dX9_book_126 ?_
              refine lv_iconst (v := 1) hx hb dX9_book_127 (by decide) ?_
              refine lv_iand hx hb dX9_book_128 ?_
              refine lv_iconst (v := 1) hx hb dX9_book_129 (by decide) ?_
              refine lv_icmp_ne (tgt := 157) hx hb dX9_book_130 (by decide) (fun c24 => absurd (e4 (by omega) (by omega)) c24) (fun c24 => ?_)
              refine lv_aload_n hx hb dX9_book_133 rfl (lv_at hl 0 rfl) ?_
              refine lv_iload_n hx hb dX9_book_134 rfl (lv_at hl 1 rfl) ?_
              refine lv_iload hx hb dX9_book_135 (lv_at hl 4 rfl) ?_
              refine lv_sipush (v := 168) hx hb dX9_book_137 (by decide) ?_
              refine lv_idiv hx hb dX9_book_140 (by decide) ?_
              refine pc_Vi (As := [.int a, .int (x / 168)]) (rest := []) F (c_X9_inWeek l D cy A S h a (x / 168) hk i_35) (cwV 2 hts gX9_book_X9_inWeek rfl rfl rfl (by decide +kernel) ⟨Nat.le_of_ble_eq_true rfl, Nat.le_of_ble_eq_true rfl⟩) hK hZ hA hW hS hk (by decide) rfl rfl hl.1 rfl (Nat.le_of_ble_eq_true rfl) dX9_book_141 ⟨Nat.le_of_ble_eq_true rfl, Nat.le_of_ble_eq_true rfl⟩ (fun v25 T26 H locs p27 hW hS => ?_)
              obtain ⟨eT26, p27⟩ := p27
              rw [eT26] at hW
              rw [show v25 = 0 from p27]
              refine lv_aload_n hx hb dX9_book_144 rfl (lv_at hl 0 rfl) ?_
              refine pg_gr (b := m_limit) (ci := 9) (C := RX9) (T := TX9) (N := 63) hx hb hts wi9 hown hK hW hk (by decide) rfl 8 (by decide) (hts (.fieldLink RX9 23 "IceHallModel" "limit" "[I") (by decide +kernel)) (fun _ h9 => h9) rfl r_8 dX9_book_145 ?_
              refine lv_iload_n hx hb dX9_book_148 rfl (lv_at hl 1 rfl) ?_
              refine pg_iald hx hb hK hW k_8 (by rw [show sL S m_limit = 6 from n_8]; exact r_in (by omega)) dX9_book_149 ?_
              rw [show sI S m_limit (Int32.toNatClampNeg a) = 168 from a_m_limit _ (cl_lt (by omega) (by omega))]
              refine lv_icmp_ge (tgt := 157) hx hb dX9_book_150 (by decide) (fun c28 => absurd c28 (by decide)) (fun c28 => ?_)
              refine lv_iconst (v := 1) hx hb dX9_book_153 (by decide) ?_
              refine lv_goto (tgt := 158) hx hb dX9_book_154 (by decide) ?_
              refine lv_istore (lv' := [(5, .int 1), (0, .ref h), (1, .int a), (2, .int k), (3, .int t), (4, .int x)]) hx hb dX9_book_158 hl (by decide) rfl (fun ls hl => ?_)
              refine lv_iload hx hb dX9_book_160 (lv_at hl 0 rfl) ?_
              refine lv_if_eq (tgt := 179) hx hb dX9_book_162 (by decide) (fun c29 => absurd c29 (by decide)) (fun c29 => ?_)
              refine lv_aload_n hx hb dX9_book_165 rfl (lv_at hl 1 rfl) ?_
              refine lv_iload_n hx hb dX9_book_166 rfl (lv_at hl 4 rfl) ?_
              refine lv_iload hx hb dX9_book_167 (lv_at hl 5 rfl) ?_
              refine pc_Vi (As := [.int t, .int x]) (rest := []) F (c_X9_inRow l D cy A S h t x hk i_35) (cwV 2 hts gX9_book_X9_inRow rfl rfl rfl (by decide +kernel) ⟨Nat.le_of_ble_eq_true rfl, Nat.le_of_ble_eq_true rfl⟩) hK hZ hA hW hS hk (by decide) rfl rfl hl.1 rfl (Nat.le_of_ble_eq_true rfl) dX9_book_169 ⟨Nat.le_of_ble_eq_true rfl, Nat.le_of_ble_eq_true rfl⟩ (fun v30 T31 H locs p32 hW hS => ?_)
              obtain ⟨eT31, p32⟩ := p32
              rw [eT31] at hW
              rw [show v30 = 1 from p32]
              refine lv_aload_n hx hb dX9_book_172 rfl (lv_at hl 1 rfl) ?_
              refine pg_gi (ci := 9) (C := RX9) (T := TX9) (N := 63) hx hb hts wi9 hown hK hW hk (by decide) rfl 25 (by decide) (hts (.fieldLink RX9 42 "IceHallModel" "restOf" "I") (by decide +kernel)) (fun _ h9 => h9) rfl dX9_book_173 ?_
              rw [show sI S h 25 = 2 from i_25]
              refine lv_icmp_le (tgt := 181) hx hb dX9_book_176 (by decide) (fun c33 => ?_) (fun c33 => absurd (by decide) c33)
              refine lv_aload_n hx hb dX9_book_181 rfl (lv_at hl 1 rfl) ?_
              refine pg_gr (b := m_clubOf) (ci := 9) (C := RX9) (T := TX9) (N := 63) hx hb hts wi9 hown hK hW hk (by decide) rfl 37 (by decide) (hts (.fieldLink RX9 73 "IceHallModel" "clubOf" "[I") (by decide +kernel)) (fun _ h9 => h9) rfl r_37 dX9_book_182 ?_
              refine lv_aload_n hx hb dX9_book_185 rfl (lv_at hl 1 rfl) ?_
              refine pg_gi (ci := 9) (C := RX9) (T := TX9) (N := 63) hx hb hts wi9 hown hK hW hk (by decide) rfl 35 (by decide) (hts (.fieldLink RX9 205 "IceHallModel" "sessions" "I") (by decide +kernel)) (fun _ h9 => h9) rfl dX9_book_186 ?_
              rw [show sI S h 35 = 0 from i_35]
              refine lv_iload_n hx hb dX9_book_189 rfl (lv_at hl 2 rfl) ?_
              refine pg_iast hx hb hK hW hS k_37 (by rw [show sL S m_clubOf = 200 from n_37]; exact vp_in_nI (n := 0) (by decide) (by decide)) dX9_book_190 (fun H locs hW hS => ?_)
              have w34 : sI (stI S m_clubOf (Int32.toNatClampNeg 0) a) h 18 = 0 := (iI_a (fk_ne hk k_37 (by decide))).trans i_18
              have w35 : sI (stI S m_clubOf (Int32.toNatClampNeg 0) a) h 25 = 2 := (iI_a (fk_ne hk k_37 (by decide))).trans i_25
              have w36 : sI (stI S m_clubOf (Int32.toNatClampNeg 0) a) h 35 = 0 := (iI_a (fk_ne hk k_37 (by decide))).trans i_35
              have w37 : sI (stI S m_clubOf (Int32.toNatClampNeg 0) a) h 36 = 0 := (iI_a (fk_ne hk k_37 (by decide))).trans i_36
              refine lv_aload_n hx hb dX9_book_191 rfl (lv_at hl 1 rfl) ?_
              refine pg_gr (b := m_kindOf) (ci := 9) (C := RX9) (T := TX9) (N := 63) hx hb hts wi9 hown hK hW hk (by decide) rfl 38 (by decide) (hts (.fieldLink RX9 76 "IceHallModel" "kindOf" "[I") (by decide +kernel)) (fun _ h9 => h9) rfl r_38 dX9_book_192 ?_
              refine lv_aload_n hx hb dX9_book_195 rfl (lv_at hl 1 rfl) ?_
              refine pg_gi (ci := 9) (C := RX9) (T := TX9) (N := 63) hx hb hts wi9 hown hK hW hk (by decide) rfl 35 (by decide) (hts (.fieldLink RX9 205 "IceHallModel" "sessions" "I") (by decide +kernel)) (fun _ h9 => h9) rfl dX9_book_196 ?_
              rw [show sI (stI S m_clubOf (Int32.toNatClampNeg 0) a) h 35 = 0 from w36]
              refine lv_iload_n hx hb dX9_book_199 rfl (lv_at hl 3 rfl) ?_
              refine pg_iast hx hb hK hW hS k_38 (by rw [show sL (stI S m_clubOf (Int32.toNatClampNeg 0) a) m_kindOf = 200 from n_38]; exact vp_in_nI (n := 0) (by decide) (by decide)) dX9_book_200 (fun H locs hW hS => ?_)
              have w38 : sI (stI (stI S m_clubOf (Int32.toNatClampNeg 0) a) m_kindOf (Int32.toNatClampNeg 0) k) h 18 = 0 := (iI_a (fk_ne hk k_38 (by decide))).trans w34
              have w39 : sI (stI (stI S m_clubOf (Int32.toNatClampNeg 0) a) m_kindOf (Int32.toNatClampNeg 0) k) h 25 = 2 := (iI_a (fk_ne hk k_38 (by decide))).trans w35
              have w40 : sI (stI (stI S m_clubOf (Int32.toNatClampNeg 0) a) m_kindOf (Int32.toNatClampNeg 0) k) h 35 = 0 := (iI_a (fk_ne hk k_38 (by decide))).trans w36
              have w41 : sI (stI (stI S m_clubOf (Int32.toNatClampNeg 0) a) m_kindOf (Int32.toNatClampNeg 0) k) h 36 = 0 := (iI_a (fk_ne hk k_38 (by decide))).trans w37
              clear w34 w35 w36 w37
              refine lv_aload_n hx hb dX9_book_201 rfl (lv_at hl 1 rfl) ?_
              refine pg_gr (b := m_sheetOf) (ci := 9) (C := RX9) (T := TX9) (N := 63) hx hb hts wi9 hown hK hW hk (by decide) rfl 39 (by decide) (hts (.fieldLink RX9 79 "IceHallModel" "sheetOf" "[I") (by decide +kernel)) (fun _ h9 => h9) rfl r_39 dX9_book_202 ?_
              refine lv_aload_n hx hb dX9_book_205 rfl (lv_at hl 1 rfl) ?_
              refine pg_gi (ci := 9) (C := RX9) (T := TX9) (N := 63) hx hb hts wi9 hown hK hW hk (by decide) rfl 35 (by decide) (hts (.fieldLink RX9 205 "IceHallModel" "sessions" "I") (by decide +kernel)) (fun _ h9 => h9) rfl dX9_book_206 ?_
              rw [show sI (stI (stI S m_clubOf (Int32.toNatClampNeg 0) a) m_kindOf (Int32.toNatClampNeg 0) k) h 35 = 0 from w40]
              refine lv_iload_n hx hb dX9_book_209 rfl (lv_at hl 4 rfl) ?_
              refine pg_iast hx hb hK hW hS k_39 (by rw [show sL (stI (stI S m_clubOf (Int32.toNatClampNeg 0) a) m_kindOf (Int32.toNatClampNeg 0) k) m_sheetOf = 200 from n_39]; exact vp_in_nI (n := 0) (by decide) (by decide)) dX9_book_210 (fun H locs hW hS => ?_)
              have w42 : sI (stI (stI (stI S m_clubOf (Int32.toNatClampNeg 0) a) m_kindOf (Int32.toNatClampNeg 0) k) m_sheetOf (Int32.toNatClampNeg 0) t) h 18 = 0 := (iI_a (fk_ne hk k_39 (by decide))).trans w38
              have w43 : sI (stI (stI (stI S m_clubOf (Int32.toNatClampNeg 0) a) m_kindOf (Int32.toNatClampNeg 0) k) m_sheetOf (Int32.toNatClampNeg 0) t) h 25 = 2 := (iI_a (fk_ne hk k_39 (by decide))).trans w39
              have w44 : sI (stI (stI (stI S m_clubOf (Int32.toNatClampNeg 0) a) m_kindOf (Int32.toNatClampNeg 0) k) m_sheetOf (Int32.toNatClampNeg 0) t) h 35 = 0 := (iI_a (fk_ne hk k_39 (by decide))).trans w40
              have w45 : sI (stI (stI (stI S m_clubOf (Int32.toNatClampNeg 0) a) m_kindOf (Int32.toNatClampNeg 0) k) m_sheetOf (Int32.toNatClampNeg 0) t) h 36 = 0 := (iI_a (fk_ne hk k_39 (by decide))).trans w41
              clear w38 w39 w40 w41
              refine lv_aload_n hx hb dX9_book_211 rfl (lv_at hl 1 rfl) ?_
              refine pg_gr (b := m_hourOf) (ci := 9) (C := RX9) (T := TX9) (N := 63) hx hb hts wi9 hown hK hW hk (by decide) rfl 40 (by decide) (hts (.fieldLink RX9 82 "IceHallModel" "hourOf" "[I") (by decide +kernel)) (fun _ h9 => h9) rfl r_40 dX9_book_212 ?_
              refine lv_aload_n hx hb dX9_book_215 rfl (lv_at hl 1 rfl) ?_
              refine pg_gi (ci := 9) (C := RX9) (T := TX9) (N := 63) hx hb hts wi9 hown hK hW hk (by decide) rfl 35 (by decide) (hts (.fieldLink RX9 205 "IceHallModel" "sessions" "I") (by decide +kernel)) (fun _ h9 => h9) rfl dX9_book_216 ?_
              rw [show sI (stI (stI (stI S m_clubOf (Int32.toNatClampNeg 0) a) m_kindOf (Int32.toNatClampNeg 0) k) m_sheetOf (Int32.toNatClampNeg 0) t) h 35 = 0 from w44]
              refine lv_iload hx hb dX9_book_219 (lv_at hl 5 rfl) ?_
              refine pg_iast hx hb hK hW hS k_40 (by rw [show sL (stI (stI (stI S m_clubOf (Int32.toNatClampNeg 0) a) m_kindOf (Int32.toNatClampNeg 0) k) m_sheetOf (Int32.toNatClampNeg 0) t) m_hourOf = 200 from n_40]; exact vp_in_nI (n := 0) (by decide) (by decide)) dX9_book_221 (fun H locs hW hS => ?_)
              have w46 : sI (stI (stI (stI (stI S m_clubOf (Int32.toNatClampNeg 0) a) m_kindOf (Int32.toNatClampNeg 0) k) m_sheetOf (Int32.toNatClampNeg 0) t) m_hourOf (Int32.toNatClampNeg 0) x) h 18 = 0 := (iI_a (fk_ne hk k_40 (by decide))).trans w42
              have w47 : sI (stI (stI (stI (stI S m_clubOf (Int32.toNatClampNeg 0) a) m_kindOf (Int32.toNatClampNeg 0) k) m_sheetOf (Int32.toNatClampNeg 0) t) m_hourOf (Int32.toNatClampNeg 0) x) h 25 = 2 := (iI_a (fk_ne hk k_40 (by decide))).trans w43
              have w48 : sI (stI (stI (stI (stI S m_clubOf (Int32.toNatClampNeg 0) a) m_kindOf (Int32.toNatClampNeg 0) k) m_sheetOf (Int32.toNatClampNeg 0) t) m_hourOf (Int32.toNatClampNeg 0) x) h 35 = 0 := (iI_a (fk_ne hk k_40 (by decide))).trans w44
              have w49 : sI (stI (stI (stI (stI S m_clubOf (Int32.toNatClampNeg 0) a) m_kindOf (Int32.toNatClampNeg 0) k) m_sheetOf (Int32.toNatClampNeg 0) t) m_hourOf (Int32.toNatClampNeg 0) x) h 36 = 0 := (iI_a (fk_ne hk k_40 (by decide))).trans w45
              clear w42 w43 w44 w45
              refine lv_aload_n hx hb dX9_book_222 rfl (lv_at hl 1 rfl) ?_
              refine pg_gr (b := m_state) (ci := 9) (C := RX9) (T := TX9) (N := 63) hx hb hts wi9 hown hK hW hk (by decide) rfl 41 (by decide) (hts (.fieldLink RX9 85 "IceHallModel" "state" "[I") (by decide +kernel)) (fun _ h9 => h9) rfl r_41 dX9_book_223 ?_
              refine lv_aload_n hx hb dX9_book_226 rfl (lv_at hl 1 rfl) ?_
              refine pg_gi (ci := 9) (C := RX9) (T := TX9) (N := 63) hx hb hts wi9 hown hK hW hk (by decide) rfl 35 (by decide) (hts (.fieldLink RX9 205 "IceHallModel" "sessions" "I") (by decide +kernel)) (fun _ h9 => h9) rfl dX9_book_227 ?_
              rw [show sI (stI (stI (stI (stI S m_clubOf (Int32.toNatClampNeg 0) a) m_kindOf (Int32.toNatClampNeg 0) k) m_sheetOf (Int32.toNatClampNeg 0) t) m_hourOf (Int32.toNatClampNeg 0) x) h 35 = 0 from w48]
              refine lv_iconst (v := 0) hx hb dX9_book_230 (by decide) ?_
              refine pg_iast hx hb hK hW hS k_41 (by rw [show sL (stI (stI (stI (stI S m_clubOf (Int32.toNatClampNeg 0) a) m_kindOf (Int32.toNatClampNeg 0) k) m_sheetOf (Int32.toNatClampNeg 0) t) m_hourOf (Int32.toNatClampNeg 0) x) m_state = 200 from n_41]; exact vp_in_nI (n := 0) (by decide) (by decide)) dX9_book_231 (fun H locs hW hS => ?_)
              have w50 : sI (stI (stI (stI (stI (stI S m_clubOf (Int32.toNatClampNeg 0) a) m_kindOf (Int32.toNatClampNeg 0) k) m_sheetOf (Int32.toNatClampNeg 0) t) m_hourOf (Int32.toNatClampNeg 0) x) m_state (Int32.toNatClampNeg 0) 0) h 18 = 0 := (iI_a (fk_ne hk k_41 (by decide))).trans w46
              have w51 : sI (stI (stI (stI (stI (stI S m_clubOf (Int32.toNatClampNeg 0) a) m_kindOf (Int32.toNatClampNeg 0) k) m_sheetOf (Int32.toNatClampNeg 0) t) m_hourOf (Int32.toNatClampNeg 0) x) m_state (Int32.toNatClampNeg 0) 0) h 25 = 2 := (iI_a (fk_ne hk k_41 (by decide))).trans w47
              have w52 : sI (stI (stI (stI (stI (stI S m_clubOf (Int32.toNatClampNeg 0) a) m_kindOf (Int32.toNatClampNeg 0) k) m_sheetOf (Int32.toNatClampNeg 0) t) m_hourOf (Int32.toNatClampNeg 0) x) m_state (Int32.toNatClampNeg 0) 0) h 35 = 0 := (iI_a (fk_ne hk k_41 (by decide))).trans w48
              have w53 : sI (stI (stI (stI (stI (stI S m_clubOf (Int32.toNatClampNeg 0) a) m_kindOf (Int32.toNatClampNeg 0) k) m_sheetOf (Int32.toNatClampNeg 0) t) m_hourOf (Int32.toNatClampNeg 0) x) m_state (Int32.toNatClampNeg 0) 0) h 36 = 0 := (iI_a (fk_ne hk k_41 (by decide))).trans w49
              clear w46 w47 w48 w49
              refine lv_aload_n hx hb dX9_book_232 rfl (lv_at hl 1 rfl) ?_
              refine pg_gr (b := m_why) (ci := 9) (C := RX9) (T := TX9) (N := 63) hx hb hts wi9 hown hK hW hk (by decide) rfl 42 (by decide) (hts (.fieldLink RX9 88 "IceHallModel" "why" "[I") (by decide +kernel)) (fun _ h9 => h9) rfl r_42 dX9_book_233 ?_
              refine lv_aload_n hx hb dX9_book_236 rfl (lv_at hl 1 rfl) ?_
              refine pg_gi (ci := 9) (C := RX9) (T := TX9) (N := 63) hx hb hts wi9 hown hK hW hk (by decide) rfl 35 (by decide) (hts (.fieldLink RX9 205 "IceHallModel" "sessions" "I") (by decide +kernel)) (fun _ h9 => h9) rfl dX9_book_237 ?_
              rw [show sI (stI (stI (stI (stI (stI S m_clubOf (Int32.toNatClampNeg 0) a) m_kindOf (Int32.toNatClampNeg 0) k) m_sheetOf (Int32.toNatClampNeg 0) t) m_hourOf (Int32.toNatClampNeg 0) x) m_state (Int32.toNatClampNeg 0) 0) h 35 = 0 from w52]
              refine lv_iconst (v := 0) hx hb dX9_book_240 (by decide) ?_
              refine pg_iast hx hb hK hW hS k_42 (by rw [show sL (stI (stI (stI (stI (stI S m_clubOf (Int32.toNatClampNeg 0) a) m_kindOf (Int32.toNatClampNeg 0) k) m_sheetOf (Int32.toNatClampNeg 0) t) m_hourOf (Int32.toNatClampNeg 0) x) m_state (Int32.toNatClampNeg 0) 0) m_why = 200 from n_42]; exact vp_in_nI (n := 0) (by decide) (by decide)) dX9_book_241 (fun H locs hW hS => ?_)
              have w54 : sI (stI (stI (stI (stI (stI (stI S m_clubOf (Int32.toNatClampNeg 0) a) m_kindOf (Int32.toNatClampNeg 0) k) m_sheetOf (Int32.toNatClampNeg 0) t) m_hourOf (Int32.toNatClampNeg 0) x) m_state (Int32.toNatClampNeg 0) 0) m_why (Int32.toNatClampNeg 0) 0) h 18 = 0 := (iI_a (fk_ne hk k_42 (by decide))).trans w50
              have w55 : sI (stI (stI (stI (stI (stI (stI S m_clubOf (Int32.toNatClampNeg 0) a) m_kindOf (Int32.toNatClampNeg 0) k) m_sheetOf (Int32.toNatClampNeg 0) t) m_hourOf (Int32.toNatClampNeg 0) x) m_state (Int32.toNatClampNeg 0) 0) m_why (Int32.toNatClampNeg 0) 0) h 25 = 2 := (iI_a (fk_ne hk k_42 (by decide))).trans w51
              have w56 : sI (stI (stI (stI (stI (stI (stI S m_clubOf (Int32.toNatClampNeg 0) a) m_kindOf (Int32.toNatClampNeg 0) k) m_sheetOf (Int32.toNatClampNeg 0) t) m_hourOf (Int32.toNatClampNeg 0) x) m_state (Int32.toNatClampNeg 0) 0) m_why (Int32.toNatClampNeg 0) 0) h 35 = 0 := (iI_a (fk_ne hk k_42 (by decide))).trans w52
              have w57 : sI (stI (stI (stI (stI (stI (stI S m_clubOf (Int32.toNatClampNeg 0) a) m_kindOf (Int32.toNatClampNeg 0) k) m_sheetOf (Int32.toNatClampNeg 0) t) m_hourOf (Int32.toNatClampNeg 0) x) m_state (Int32.toNatClampNeg 0) 0) m_why (Int32.toNatClampNeg 0) 0) h 36 = 0 := (iI_a (fk_ne hk k_42 (by decide))).trans w53
              clear w50 w51 w52 w53
              refine lv_aload_n hx hb dX9_book_242 rfl (lv_at hl 1 rfl) ?_
              refine pg_gr (b := m_feeOf) (ci := 9) (C := RX9) (T := TX9) (N := 63) hx hb hts wi9 hown hK hW hk (by decide) rfl 43 (by decide) (hts (.fieldLink RX9 91 "IceHallModel" "feeOf" "[I") (by decide +kernel)) (fun _ h9 => h9) rfl r_43 dX9_book_243 ?_
              refine lv_aload_n hx hb dX9_book_246 rfl (lv_at hl 1 rfl) ?_
              refine pg_gi (ci := 9) (C := RX9) (T := TX9) (N := 63) hx hb hts wi9 hown hK hW hk (by decide) rfl 35 (by decide) (hts (.fieldLink RX9 205 "IceHallModel" "sessions" "I") (by decide +kernel)) (fun _ h9 => h9) rfl dX9_book_247 ?_
              rw [show sI (stI (stI (stI (stI (stI (stI S m_clubOf (Int32.toNatClampNeg 0) a) m_kindOf (Int32.toNatClampNeg 0) k) m_sheetOf (Int32.toNatClampNeg 0) t) m_hourOf (Int32.toNatClampNeg 0) x) m_state (Int32.toNatClampNeg 0) 0) m_why (Int32.toNatClampNeg 0) 0) h 35 = 0 from w56]
              refine lv_aload_n hx hb dX9_book_250 rfl (lv_at hl 1 rfl) ?_
              refine pg_gr (b := m_fee) (ci := 9) (C := RX9) (T := TX9) (N := 63) hx hb hts wi9 hown hK hW hk (by decide) rfl 9 (by decide) (hts (.fieldLink RX9 26 "IceHallModel" "fee" "[I") (by decide +kernel)) (fun _ h9 => h9) rfl r_9 dX9_book_251 ?_
              refine lv_iload_n hx hb dX9_book_254 rfl (lv_at hl 2 rfl) ?_
              refine pg_iald hx hb hK hW k_9 (by rw [show sL (stI (stI (stI (stI (stI (stI S m_clubOf (Int32.toNatClampNeg 0) a) m_kindOf (Int32.toNatClampNeg 0) k) m_sheetOf (Int32.toNatClampNeg 0) t) m_hourOf (Int32.toNatClampNeg 0) x) m_state (Int32.toNatClampNeg 0) 0) m_why (Int32.toNatClampNeg 0) 0) m_fee = 6 from n_9]; exact r_in (by omega)) dX9_book_255 ?_
              refine pg_iast hx hb hK hW hS k_43 (by rw [show sL (stI (stI (stI (stI (stI (stI S m_clubOf (Int32.toNatClampNeg 0) a) m_kindOf (Int32.toNatClampNeg 0) k) m_sheetOf (Int32.toNatClampNeg 0) t) m_hourOf (Int32.toNatClampNeg 0) x) m_state (Int32.toNatClampNeg 0) 0) m_why (Int32.toNatClampNeg 0) 0) m_feeOf = 200 from n_43]; exact vp_in_nI (n := 0) (by decide) (by decide)) dX9_book_256 (fun H locs hW hS => ?_)
              have w58 : sI (stI (stI (stI (stI (stI (stI (stI S m_clubOf (Int32.toNatClampNeg 0) a) m_kindOf (Int32.toNatClampNeg 0) k) m_sheetOf (Int32.toNatClampNeg 0) t) m_hourOf (Int32.toNatClampNeg 0) x) m_state (Int32.toNatClampNeg 0) 0) m_why (Int32.toNatClampNeg 0) 0) m_feeOf (Int32.toNatClampNeg 0) (sI (stI (stI (stI (stI (stI (stI S m_clubOf (Int32.toNatClampNeg 0) a) m_kindOf (Int32.toNatClampNeg 0) k) m_sheetOf (Int32.toNatClampNeg 0) t) m_hourOf (Int32.toNatClampNeg 0) x) m_state (Int32.toNatClampNeg 0) 0) m_why (Int32.toNatClampNeg 0) 0) m_fee (Int32.toNatClampNeg a))) h 18 = 0 := (iI_a (fk_ne hk k_43 (by decide))).trans w54
              have w59 : sI (stI (stI (stI (stI (stI (stI (stI S m_clubOf (Int32.toNatClampNeg 0) a) m_kindOf (Int32.toNatClampNeg 0) k) m_sheetOf (Int32.toNatClampNeg 0) t) m_hourOf (Int32.toNatClampNeg 0) x) m_state (Int32.toNatClampNeg 0) 0) m_why (Int32.toNatClampNeg 0) 0) m_feeOf (Int32.toNatClampNeg 0) (sI (stI (stI (stI (stI (stI (stI S m_clubOf (Int32.toNatClampNeg 0) a) m_kindOf (Int32.toNatClampNeg 0) k) m_sheetOf (Int32.toNatClampNeg 0) t) m_hourOf (Int32.toNatClampNeg 0) x) m_state (Int32.toNatClampNeg 0) 0) m_why (Int32.toNatClampNeg 0) 0) m_fee (Int32.toNatClampNeg a))) h 25 = 2 := (iI_a (fk_ne hk k_43 (by decide))).trans w55
              have w60 : sI (stI (stI (stI (stI (stI (stI (stI S m_clubOf (Int32.toNatClampNeg 0) a) m_kindOf (Int32.toNatClampNeg 0) k) m_sheetOf (Int32.toNatClampNeg 0) t) m_hourOf (Int32.toNatClampNeg 0) x) m_state (Int32.toNatClampNeg 0) 0) m_why (Int32.toNatClampNeg 0) 0) m_feeOf (Int32.toNatClampNeg 0) (sI (stI (stI (stI (stI (stI (stI S m_clubOf (Int32.toNatClampNeg 0) a) m_kindOf (Int32.toNatClampNeg 0) k) m_sheetOf (Int32.toNatClampNeg 0) t) m_hourOf (Int32.toNatClampNeg 0) x) m_state (Int32.toNatClampNeg 0) 0) m_why (Int32.toNatClampNeg 0) 0) m_fee (Int32.toNatClampNeg a))) h 35 = 0 := (iI_a (fk_ne hk k_43 (by decide))).trans w56
              have w61 : sI (stI (stI (stI (stI (stI (stI (stI S m_clubOf (Int32.toNatClampNeg 0) a) m_kindOf (Int32.toNatClampNeg 0) k) m_sheetOf (Int32.toNatClampNeg 0) t) m_hourOf (Int32.toNatClampNeg 0) x) m_state (Int32.toNatClampNeg 0) 0) m_why (Int32.toNatClampNeg 0) 0) m_feeOf (Int32.toNatClampNeg 0) (sI (stI (stI (stI (stI (stI (stI S m_clubOf (Int32.toNatClampNeg 0) a) m_kindOf (Int32.toNatClampNeg 0) k) m_sheetOf (Int32.toNatClampNeg 0) t) m_hourOf (Int32.toNatClampNeg 0) x) m_state (Int32.toNatClampNeg 0) 0) m_why (Int32.toNatClampNeg 0) 0) m_fee (Int32.toNatClampNeg a))) h 36 = 0 := (iI_a (fk_ne hk k_43 (by decide))).trans w57
              clear w54 w55 w56 w57
              refine lv_aload_n hx hb dX9_book_257 rfl (lv_at hl 1 rfl) ?_
              refine pg_gr (b := m_partOf) (ci := 9) (C := RX9) (T := TX9) (N := 63) hx hb hts wi9 hown hK hW hk (by decide) rfl 44 (by decide) (hts (.fieldLink RX9 94 "IceHallModel" "partOf" "[I") (by decide +kernel)) (fun _ h9 => h9) rfl r_44 dX9_book_258 ?_
              refine lv_aload_n hx hb dX9_book_261 rfl (lv_at hl 1 rfl) ?_
              refine pg_gi (ci := 9) (C := RX9) (T := TX9) (N := 63) hx hb hts wi9 hown hK hW hk (by decide) rfl 35 (by decide) (hts (.fieldLink RX9 205 "IceHallModel" "sessions" "I") (by decide +kernel)) (fun _ h9 => h9) rfl dX9_book_262 ?_
              rw [show sI (stI (stI (stI (stI (stI (stI (stI S m_clubOf (Int32.toNatClampNeg 0) a) m_kindOf (Int32.toNatClampNeg 0) k) m_sheetOf (Int32.toNatClampNeg 0) t) m_hourOf (Int32.toNatClampNeg 0) x) m_state (Int32.toNatClampNeg 0) 0) m_why (Int32.toNatClampNeg 0) 0) m_feeOf (Int32.toNatClampNeg 0) (sI (stI (stI (stI (stI (stI (stI S m_clubOf (Int32.toNatClampNeg 0) a) m_kindOf (Int32.toNatClampNeg 0) k) m_sheetOf (Int32.toNatClampNeg 0) t) m_hourOf (Int32.toNatClampNeg 0) x) m_state (Int32.toNatClampNeg 0) 0) m_why (Int32.toNatClampNeg 0) 0) m_fee (Int32.toNatClampNeg a))) h 35 = 0 from w60]
              refine lv_aload_n hx hb dX9_book_265 rfl (lv_at hl 1 rfl) ?_
              refine pg_gr (b := m_hundredths) (ci := 9) (C := RX9) (T := TX9) (N := 63) hx hb hts wi9 hown hK hW hk (by decide) rfl 10 (by decide) (hts (.fieldLink RX9 29 "IceHallModel" "hundredths" "[I") (by decide +kernel)) (fun _ h9 => h9) rfl r_10 dX9_book_266 ?_
              refine lv_iload_n hx hb dX9_book_269 rfl (lv_at hl 2 rfl) ?_
              refine pg_iald hx hb hK hW k_10 (by rw [show sL (stI (stI (stI (stI (stI (stI (stI S m_clubOf (Int32.toNatClampNeg 0) a) m_kindOf (Int32.toNatClampNeg 0) k) m_sheetOf (Int32.toNatClampNeg 0) t) m_hourOf (Int32.toNatClampNeg 0) x) m_state (Int32.toNatClampNeg 0) 0) m_why (Int32.toNatClampNeg 0) 0) m_feeOf (Int32.toNatClampNeg 0) (sI (stI (stI (stI (stI (stI (stI S m_clubOf (Int32.toNatClampNeg 0) a) m_kindOf (Int32.toNatClampNeg 0) k) m_sheetOf (Int32.toNatClampNeg 0) t) m_hourOf (Int32.toNatClampNeg 0) x) m_state (Int32.toNatClampNeg 0) 0) m_why (Int32.toNatClampNeg 0) 0) m_fee (Int32.toNatClampNeg a))) m_hundredths = 6 from n_10]; exact r_in (by omega)) dX9_book_270 ?_
              refine pg_iast hx hb hK hW hS k_44 (by rw [show sL (stI (stI (stI (stI (stI (stI (stI S m_clubOf (Int32.toNatClampNeg 0) a) m_kindOf (Int32.toNatClampNeg 0) k) m_sheetOf (Int32.toNatClampNeg 0) t) m_hourOf (Int32.toNatClampNeg 0) x) m_state (Int32.toNatClampNeg 0) 0) m_why (Int32.toNatClampNeg 0) 0) m_feeOf (Int32.toNatClampNeg 0) (sI (stI (stI (stI (stI (stI (stI S m_clubOf (Int32.toNatClampNeg 0) a) m_kindOf (Int32.toNatClampNeg 0) k) m_sheetOf (Int32.toNatClampNeg 0) t) m_hourOf (Int32.toNatClampNeg 0) x) m_state (Int32.toNatClampNeg 0) 0) m_why (Int32.toNatClampNeg 0) 0) m_fee (Int32.toNatClampNeg a))) m_partOf = 200 from n_44]; exact vp_in_nI (n := 0) (by decide) (by decide)) dX9_book_271 (fun H locs hW hS => ?_)
              have w62 : sI (stI (stI (stI (stI (stI (stI (stI (stI S m_clubOf (Int32.toNatClampNeg 0) a) m_kindOf (Int32.toNatClampNeg 0) k) m_sheetOf (Int32.toNatClampNeg 0) t) m_hourOf (Int32.toNatClampNeg 0) x) m_state (Int32.toNatClampNeg 0) 0) m_why (Int32.toNatClampNeg 0) 0) m_feeOf (Int32.toNatClampNeg 0) (sI (stI (stI (stI (stI (stI (stI S m_clubOf (Int32.toNatClampNeg 0) a) m_kindOf (Int32.toNatClampNeg 0) k) m_sheetOf (Int32.toNatClampNeg 0) t) m_hourOf (Int32.toNatClampNeg 0) x) m_state (Int32.toNatClampNeg 0) 0) m_why (Int32.toNatClampNeg 0) 0) m_fee (Int32.toNatClampNeg a))) m_partOf (Int32.toNatClampNeg 0) (sI (stI (stI (stI (stI (stI (stI (stI S m_clubOf (Int32.toNatClampNeg 0) a) m_kindOf (Int32.toNatClampNeg 0) k) m_sheetOf (Int32.toNatClampNeg 0) t) m_hourOf (Int32.toNatClampNeg 0) x) m_state (Int32.toNatClampNeg 0) 0) m_why (Int32.toNatClampNeg 0) 0) m_feeOf (Int32.toNatClampNeg 0) (sI (stI (stI (stI (stI (stI (stI S m_clubOf (Int32.toNatClampNeg 0) a) m_kindOf (Int32.toNatClampNeg 0) k) m_sheetOf (Int32.toNatClampNeg 0) t) m_hourOf (Int32.toNatClampNeg 0) x) m_state (Int32.toNatClampNeg 0) 0) m_why (Int32.toNatClampNeg 0) 0) m_fee (Int32.toNatClampNeg a))) m_hundredths (Int32.toNatClampNeg a))) h 18 = 0 := (iI_a (fk_ne hk k_44 (by decide))).trans w58
              have w63 : sI (stI (stI (stI (stI (stI (stI (stI (stI S m_clubOf (Int32.toNatClampNeg 0) a) m_kindOf (Int32.toNatClampNeg 0) k) m_sheetOf (Int32.toNatClampNeg 0) t) m_hourOf (Int32.toNatClampNeg 0) x) m_state (Int32.toNatClampNeg 0) 0) m_why (Int32.toNatClampNeg 0) 0) m_feeOf (Int32.toNatClampNeg 0) (sI (stI (stI (stI (stI (stI (stI S m_clubOf (Int32.toNatClampNeg 0) a) m_kindOf (Int32.toNatClampNeg 0) k) m_sheetOf (Int32.toNatClampNeg 0) t) m_hourOf (Int32.toNatClampNeg 0) x) m_state (Int32.toNatClampNeg 0) 0) m_why (Int32.toNatClampNeg 0) 0) m_fee (Int32.toNatClampNeg a))) m_partOf (Int32.toNatClampNeg 0) (sI (stI (stI (stI (stI (stI (stI (stI S m_clubOf (Int32.toNatClampNeg 0) a) m_kindOf (Int32.toNatClampNeg 0) k) m_sheetOf (Int32.toNatClampNeg 0) t) m_hourOf (Int32.toNatClampNeg 0) x) m_state (Int32.toNatClampNeg 0) 0) m_why (Int32.toNatClampNeg 0) 0) m_feeOf (Int32.toNatClampNeg 0) (sI (stI (stI (stI (stI (stI (stI S m_clubOf (Int32.toNatClampNeg 0) a) m_kindOf (Int32.toNatClampNeg 0) k) m_sheetOf (Int32.toNatClampNeg 0) t) m_hourOf (Int32.toNatClampNeg 0) x) m_state (Int32.toNatClampNeg 0) 0) m_why (Int32.toNatClampNeg 0) 0) m_fee (Int32.toNatClampNeg a))) m_hundredths (Int32.toNatClampNeg a))) h 25 = 2 := (iI_a (fk_ne hk k_44 (by decide))).trans w59
              have w64 : sI (stI (stI (stI (stI (stI (stI (stI (stI S m_clubOf (Int32.toNatClampNeg 0) a) m_kindOf (Int32.toNatClampNeg 0) k) m_sheetOf (Int32.toNatClampNeg 0) t) m_hourOf (Int32.toNatClampNeg 0) x) m_state (Int32.toNatClampNeg 0) 0) m_why (Int32.toNatClampNeg 0) 0) m_feeOf (Int32.toNatClampNeg 0) (sI (stI (stI (stI (stI (stI (stI S m_clubOf (Int32.toNatClampNeg 0) a) m_kindOf (Int32.toNatClampNeg 0) k) m_sheetOf (Int32.toNatClampNeg 0) t) m_hourOf (Int32.toNatClampNeg 0) x) m_state (Int32.toNatClampNeg 0) 0) m_why (Int32.toNatClampNeg 0) 0) m_fee (Int32.toNatClampNeg a))) m_partOf (Int32.toNatClampNeg 0) (sI (stI (stI (stI (stI (stI (stI (stI S m_clubOf (Int32.toNatClampNeg 0) a) m_kindOf (Int32.toNatClampNeg 0) k) m_sheetOf (Int32.toNatClampNeg 0) t) m_hourOf (Int32.toNatClampNeg 0) x) m_state (Int32.toNatClampNeg 0) 0) m_why (Int32.toNatClampNeg 0) 0) m_feeOf (Int32.toNatClampNeg 0) (sI (stI (stI (stI (stI (stI (stI S m_clubOf (Int32.toNatClampNeg 0) a) m_kindOf (Int32.toNatClampNeg 0) k) m_sheetOf (Int32.toNatClampNeg 0) t) m_hourOf (Int32.toNatClampNeg 0) x) m_state (Int32.toNatClampNeg 0) 0) m_why (Int32.toNatClampNeg 0) 0) m_fee (Int32.toNatClampNeg a))) m_hundredths (Int32.toNatClampNeg a))) h 35 = 0 := (iI_a (fk_ne hk k_44 (by decide))).trans w60
              have w65 : sI (stI (stI (stI (stI (stI (stI (stI (stI S m_clubOf (Int32.toNatClampNeg 0) a) m_kindOf (Int32.toNatClampNeg 0) k) m_sheetOf (Int32.toNatClampNeg 0) t) m_hourOf (Int32.toNatClampNeg 0) x) m_state (Int32.toNatClampNeg 0) 0) m_why (Int32.toNatClampNeg 0) 0) m_feeOf (Int32.toNatClampNeg 0) (sI (stI (stI (stI (stI (stI (stI S m_clubOf (Int32.toNatClampNeg 0) a) m_kindOf (Int32.toNatClampNeg 0) k) m_sheetOf (Int32.toNatClampNeg 0) t) m_hourOf (Int32.toNatClampNeg 0) x) m_state (Int32.toNatClampNeg 0) 0) m_why (Int32.toNatClampNeg 0) 0) m_fee (Int32.toNatClampNeg a))) m_partOf (Int32.toNatClampNeg 0) (sI (stI (stI (stI (stI (stI (stI (stI S m_clubOf (Int32.toNatClampNeg 0) a) m_kindOf (Int32.toNatClampNeg 0) k) m_sheetOf (Int32.toNatClampNeg 0) t) m_hourOf (Int32.toNatClampNeg 0) x) m_state (Int32.toNatClampNeg 0) 0) m_why (Int32.toNatClampNeg 0) 0) m_feeOf (Int32.toNatClampNeg 0) (sI (stI (stI (stI (stI (stI (stI S m_clubOf (Int32.toNatClampNeg 0) a) m_kindOf (Int32.toNatClampNeg 0) k) m_sheetOf (Int32.toNatClampNeg 0) t) m_hourOf (Int32.toNatClampNeg 0) x) m_state (Int32.toNatClampNeg 0) 0) m_why (Int32.toNatClampNeg 0) 0) m_fee (Int32.toNatClampNeg a))) m_hundredths (Int32.toNatClampNeg a))) h 36 = 0 := (iI_a (fk_ne hk k_44 (by decide))).trans w61
              clear w58 w59 w60 w61
              refine lv_aload_n hx hb dX9_book_272 rfl (lv_at hl 1 rfl) ?_
              refine pg_gr (b := m_moved) (ci := 9) (C := RX9) (T := TX9) (N := 63) hx hb hts wi9 hown hK hW hk (by decide) rfl 45 (by decide) (hts (.fieldLink RX9 97 "IceHallModel" "moved" "[I") (by decide +kernel)) (fun _ h9 => h9) rfl r_45 dX9_book_273 ?_
              refine lv_aload_n hx hb dX9_book_276 rfl (lv_at hl 1 rfl) ?_
              refine pg_gi (ci := 9) (C := RX9) (T := TX9) (N := 63) hx hb hts wi9 hown hK hW hk (by decide) rfl 35 (by decide) (hts (.fieldLink RX9 205 "IceHallModel" "sessions" "I") (by decide +kernel)) (fun _ h9 => h9) rfl dX9_book_277 ?_
              rw [show sI (stI (stI (stI (stI (stI (stI (stI (stI S m_clubOf (Int32.toNatClampNeg 0) a) m_kindOf (Int32.toNatClampNeg 0) k) m_sheetOf (Int32.toNatClampNeg 0) t) m_hourOf (Int32.toNatClampNeg 0) x) m_state (Int32.toNatClampNeg 0) 0) m_why (Int32.toNatClampNeg 0) 0) m_feeOf (Int32.toNatClampNeg 0) (sI (stI (stI (stI (stI (stI (stI S m_clubOf (Int32.toNatClampNeg 0) a) m_kindOf (Int32.toNatClampNeg 0) k) m_sheetOf (Int32.toNatClampNeg 0) t) m_hourOf (Int32.toNatClampNeg 0) x) m_state (Int32.toNatClampNeg 0) 0) m_why (Int32.toNatClampNeg 0) 0) m_fee (Int32.toNatClampNeg a))) m_partOf (Int32.toNatClampNeg 0) (sI (stI (stI (stI (stI (stI (stI (stI S m_clubOf (Int32.toNatClampNeg 0) a) m_kindOf (Int32.toNatClampNeg 0) k) m_sheetOf (Int32.toNatClampNeg 0) t) m_hourOf (Int32.toNatClampNeg 0) x) m_state (Int32.toNatClampNeg 0) 0) m_why (Int32.toNatClampNeg 0) 0) m_feeOf (Int32.toNatClampNeg 0) (sI (stI (stI (stI (stI (stI (stI S m_clubOf (Int32.toNatClampNeg 0) a) m_kindOf (Int32.toNatClampNeg 0) k) m_sheetOf (Int32.toNatClampNeg 0) t) m_hourOf (Int32.toNatClampNeg 0) x) m_state (Int32.toNatClampNeg 0) 0) m_why (Int32.toNatClampNeg 0) 0) m_fee (Int32.toNatClampNeg a))) m_hundredths (Int32.toNatClampNeg a))) h 35 = 0 from w64]
              refine lv_iconst (v := 0) hx hb dX9_book_280 (by decide) ?_
              refine pg_iast hx hb hK hW hS k_45 (by rw [show sL (stI (stI (stI (stI (stI (stI (stI (stI S m_clubOf (Int32.toNatClampNeg 0) a) m_kindOf (Int32.toNatClampNeg 0) k) m_sheetOf (Int32.toNatClampNeg 0) t) m_hourOf (Int32.toNatClampNeg 0) x) m_state (Int32.toNatClampNeg 0) 0) m_why (Int32.toNatClampNeg 0) 0) m_feeOf (Int32.toNatClampNeg 0) (sI (stI (stI (stI (stI (stI (stI S m_clubOf (Int32.toNatClampNeg 0) a) m_kindOf (Int32.toNatClampNeg 0) k) m_sheetOf (Int32.toNatClampNeg 0) t) m_hourOf (Int32.toNatClampNeg 0) x) m_state (Int32.toNatClampNeg 0) 0) m_why (Int32.toNatClampNeg 0) 0) m_fee (Int32.toNatClampNeg a))) m_partOf (Int32.toNatClampNeg 0) (sI (stI (stI (stI (stI (stI (stI (stI S m_clubOf (Int32.toNatClampNeg 0) a) m_kindOf (Int32.toNatClampNeg 0) k) m_sheetOf (Int32.toNatClampNeg 0) t) m_hourOf (Int32.toNatClampNeg 0) x) m_state (Int32.toNatClampNeg 0) 0) m_why (Int32.toNatClampNeg 0) 0) m_feeOf (Int32.toNatClampNeg 0) (sI (stI (stI (stI (stI (stI (stI S m_clubOf (Int32.toNatClampNeg 0) a) m_kindOf (Int32.toNatClampNeg 0) k) m_sheetOf (Int32.toNatClampNeg 0) t) m_hourOf (Int32.toNatClampNeg 0) x) m_state (Int32.toNatClampNeg 0) 0) m_why (Int32.toNatClampNeg 0) 0) m_fee (Int32.toNatClampNeg a))) m_hundredths (Int32.toNatClampNeg a))) m_moved = 200 from n_45]; exact vp_in_nI (n := 0) (by decide) (by decide)) dX9_book_281 (fun H locs hW hS => ?_)
              have w66 : sI (stI (stI (stI (stI (stI (stI (stI (stI (stI S m_clubOf (Int32.toNatClampNeg 0) a) m_kindOf (Int32.toNatClampNeg 0) k) m_sheetOf (Int32.toNatClampNeg 0) t) m_hourOf (Int32.toNatClampNeg 0) x) m_state (Int32.toNatClampNeg 0) 0) m_why (Int32.toNatClampNeg 0) 0) m_feeOf (Int32.toNatClampNeg 0) (sI (stI (stI (stI (stI (stI (stI S m_clubOf (Int32.toNatClampNeg 0) a) m_kindOf (Int32.toNatClampNeg 0) k) m_sheetOf (Int32.toNatClampNeg 0) t) m_hourOf (Int32.toNatClampNeg 0) x) m_state (Int32.toNatClampNeg 0) 0) m_why (Int32.toNatClampNeg 0) 0) m_fee (Int32.toNatClampNeg a))) m_partOf (Int32.toNatClampNeg 0) (sI (stI (stI (stI (stI (stI (stI (stI S m_clubOf (Int32.toNatClampNeg 0) a) m_kindOf (Int32.toNatClampNeg 0) k) m_sheetOf (Int32.toNatClampNeg 0) t) m_hourOf (Int32.toNatClampNeg 0) x) m_state (Int32.toNatClampNeg 0) 0) m_why (Int32.toNatClampNeg 0) 0) m_feeOf (Int32.toNatClampNeg 0) (sI (stI (stI (stI (stI (stI (stI S m_clubOf (Int32.toNatClampNeg 0) a) m_kindOf (Int32.toNatClampNeg 0) k) m_sheetOf (Int32.toNatClampNeg 0) t) m_hourOf (Int32.toNatClampNeg 0) x) m_state (Int32.toNatClampNeg 0) 0) m_why (Int32.toNatClampNeg 0) 0) m_fee (Int32.toNatClampNeg a))) m_hundredths (Int32.toNatClampNeg a))) m_moved (Int32.toNatClampNeg 0) 0) h 18 = 0 := (iI_a (fk_ne hk k_45 (by decide))).trans w62
              have w67 : sI (stI (stI (stI (stI (stI (stI (stI (stI (stI S m_clubOf (Int32.toNatClampNeg 0) a) m_kindOf (Int32.toNatClampNeg 0) k) m_sheetOf (Int32.toNatClampNeg 0) t) m_hourOf (Int32.toNatClampNeg 0) x) m_state (Int32.toNatClampNeg 0) 0) m_why (Int32.toNatClampNeg 0) 0) m_feeOf (Int32.toNatClampNeg 0) (sI (stI (stI (stI (stI (stI (stI S m_clubOf (Int32.toNatClampNeg 0) a) m_kindOf (Int32.toNatClampNeg 0) k) m_sheetOf (Int32.toNatClampNeg 0) t) m_hourOf (Int32.toNatClampNeg 0) x) m_state (Int32.toNatClampNeg 0) 0) m_why (Int32.toNatClampNeg 0) 0) m_fee (Int32.toNatClampNeg a))) m_partOf (Int32.toNatClampNeg 0) (sI (stI (stI (stI (stI (stI (stI (stI S m_clubOf (Int32.toNatClampNeg 0) a) m_kindOf (Int32.toNatClampNeg 0) k) m_sheetOf (Int32.toNatClampNeg 0) t) m_hourOf (Int32.toNatClampNeg 0) x) m_state (Int32.toNatClampNeg 0) 0) m_why (Int32.toNatClampNeg 0) 0) m_feeOf (Int32.toNatClampNeg 0) (sI (stI (stI (stI (stI (stI (stI S m_clubOf (Int32.toNatClampNeg 0) a) m_kindOf (Int32.toNatClampNeg 0) k) m_sheetOf (Int32.toNatClampNeg 0) t) m_hourOf (Int32.toNatClampNeg 0) x) m_state (Int32.toNatClampNeg 0) 0) m_why (Int32.toNatClampNeg 0) 0) m_fee (Int32.toNatClampNeg a))) m_hundredths (Int32.toNatClampNeg a))) m_moved (Int32.toNatClampNeg 0) 0) h 25 = 2 := (iI_a (fk_ne hk k_45 (by decide))).trans w63
              have w68 : sI (stI (stI (stI (stI (stI (stI (stI (stI (stI S m_clubOf (Int32.toNatClampNeg 0) a) m_kindOf (Int32.toNatClampNeg 0) k) m_sheetOf (Int32.toNatClampNeg 0) t) m_hourOf (Int32.toNatClampNeg 0) x) m_state (Int32.toNatClampNeg 0) 0) m_why (Int32.toNatClampNeg 0) 0) m_feeOf (Int32.toNatClampNeg 0) (sI (stI (stI (stI (stI (stI (stI S m_clubOf (Int32.toNatClampNeg 0) a) m_kindOf (Int32.toNatClampNeg 0) k) m_sheetOf (Int32.toNatClampNeg 0) t) m_hourOf (Int32.toNatClampNeg 0) x) m_state (Int32.toNatClampNeg 0) 0) m_why (Int32.toNatClampNeg 0) 0) m_fee (Int32.toNatClampNeg a))) m_partOf (Int32.toNatClampNeg 0) (sI (stI (stI (stI (stI (stI (stI (stI S m_clubOf (Int32.toNatClampNeg 0) a) m_kindOf (Int32.toNatClampNeg 0) k) m_sheetOf (Int32.toNatClampNeg 0) t) m_hourOf (Int32.toNatClampNeg 0) x) m_state (Int32.toNatClampNeg 0) 0) m_why (Int32.toNatClampNeg 0) 0) m_feeOf (Int32.toNatClampNeg 0) (sI (stI (stI (stI (stI (stI (stI S m_clubOf (Int32.toNatClampNeg 0) a) m_kindOf (Int32.toNatClampNeg 0) k) m_sheetOf (Int32.toNatClampNeg 0) t) m_hourOf (Int32.toNatClampNeg 0) x) m_state (Int32.toNatClampNeg 0) 0) m_why (Int32.toNatClampNeg 0) 0) m_fee (Int32.toNatClampNeg a))) m_hundredths (Int32.toNatClampNeg a))) m_moved (Int32.toNatClampNeg 0) 0) h 35 = 0 := (iI_a (fk_ne hk k_45 (by decide))).trans w64
              have w69 : sI (stI (stI (stI (stI (stI (stI (stI (stI (stI S m_clubOf (Int32.toNatClampNeg 0) a) m_kindOf (Int32.toNatClampNeg 0) k) m_sheetOf (Int32.toNatClampNeg 0) t) m_hourOf (Int32.toNatClampNeg 0) x) m_state (Int32.toNatClampNeg 0) 0) m_why (Int32.toNatClampNeg 0) 0) m_feeOf (Int32.toNatClampNeg 0) (sI (stI (stI (stI (stI (stI (stI S m_clubOf (Int32.toNatClampNeg 0) a) m_kindOf (Int32.toNatClampNeg 0) k) m_sheetOf (Int32.toNatClampNeg 0) t) m_hourOf (Int32.toNatClampNeg 0) x) m_state (Int32.toNatClampNeg 0) 0) m_why (Int32.toNatClampNeg 0) 0) m_fee (Int32.toNatClampNeg a))) m_partOf (Int32.toNatClampNeg 0) (sI (stI (stI (stI (stI (stI (stI (stI S m_clubOf (Int32.toNatClampNeg 0) a) m_kindOf (Int32.toNatClampNeg 0) k) m_sheetOf (Int32.toNatClampNeg 0) t) m_hourOf (Int32.toNatClampNeg 0) x) m_state (Int32.toNatClampNeg 0) 0) m_why (Int32.toNatClampNeg 0) 0) m_feeOf (Int32.toNatClampNeg 0) (sI (stI (stI (stI (stI (stI (stI S m_clubOf (Int32.toNatClampNeg 0) a) m_kindOf (Int32.toNatClampNeg 0) k) m_sheetOf (Int32.toNatClampNeg 0) t) m_hourOf (Int32.toNatClampNeg 0) x) m_state (Int32.toNatClampNeg 0) 0) m_why (Int32.toNatClampNeg 0) 0) m_fee (Int32.toNatClampNeg a))) m_hundredths (Int32.toNatClampNeg a))) m_moved (Int32.toNatClampNeg 0) 0) h 36 = 0 := (iI_a (fk_ne hk k_45 (by decide))).trans w65
              clear w62 w63 w64 w65
              refine lv_aload_n hx hb dX9_book_282 rfl (lv_at hl 1 rfl) ?_
              refine lv_aload_n hx hb dX9_book_283 rfl (lv_at hl 1 rfl) ?_
              refine pg_gi (ci := 9) (C := RX9) (T := TX9) (N := 63) hx hb hts wi9 hown hK hW hk (by decide) rfl 35 (by decide) (hts (.fieldLink RX9 205 "IceHallModel" "sessions" "I") (by decide +kernel)) (fun _ h9 => h9) rfl dX9_book_284 ?_
              rw [show sI (stI (stI (stI (stI (stI (stI (stI (stI (stI S m_clubOf (Int32.toNatClampNeg 0) a) m_kindOf (Int32.toNatClampNeg 0) k) m_sheetOf (Int32.toNatClampNeg 0) t) m_hourOf (Int32.toNatClampNeg 0) x) m_state (Int32.toNatClampNeg 0) 0) m_why (Int32.toNatClampNeg 0) 0) m_feeOf (Int32.toNatClampNeg 0) (sI (stI (stI (stI (stI (stI (stI S m_clubOf (Int32.toNatClampNeg 0) a) m_kindOf (Int32.toNatClampNeg 0) k) m_sheetOf (Int32.toNatClampNeg 0) t) m_hourOf (Int32.toNatClampNeg 0) x) m_state (Int32.toNatClampNeg 0) 0) m_why (Int32.toNatClampNeg 0) 0) m_fee (Int32.toNatClampNeg a))) m_partOf (Int32.toNatClampNeg 0) (sI (stI (stI (stI (stI (stI (stI (stI S m_clubOf (Int32.toNatClampNeg 0) a) m_kindOf (Int32.toNatClampNeg 0) k) m_sheetOf (Int32.toNatClampNeg 0) t) m_hourOf (Int32.toNatClampNeg 0) x) m_state (Int32.toNatClampNeg 0) 0) m_why (Int32.toNatClampNeg 0) 0) m_feeOf (Int32.toNatClampNeg 0) (sI (stI (stI (stI (stI (stI (stI S m_clubOf (Int32.toNatClampNeg 0) a) m_kindOf (Int32.toNatClampNeg 0) k) m_sheetOf (Int32.toNatClampNeg 0) t) m_hourOf (Int32.toNatClampNeg 0) x) m_state (Int32.toNatClampNeg 0) 0) m_why (Int32.toNatClampNeg 0) 0) m_fee (Int32.toNatClampNeg a))) m_hundredths (Int32.toNatClampNeg a))) m_moved (Int32.toNatClampNeg 0) 0) h 35 = 0 from w68]
              refine lv_iconst (v := 1) hx hb dX9_book_287 (by decide) ?_
              refine lv_iadd hx hb dX9_book_288 ?_
              rw [show (0 + 1 : Int32) = 1 from by decide]
              refine pg_pi (ci := 9) (C := RX9) (T := TX9) (N := 63) hx hb hts wi9 tyX9 tyX9_ok nmX9 hown hK hW hS hk (by decide) rfl 35 (by decide) (hts (.fieldLink RX9 205 "IceHallModel" "sessions" "I") (by decide +kernel)) (fun _ h9 => h9) rfl rfl rfl dX9_book_289 (fun H locs hW hS => ?_)
              have w70 : sI (stI (stI (stI (stI (stI (stI (stI (stI (stI (stI S m_clubOf (Int32.toNatClampNeg 0) a) m_kindOf (Int32.toNatClampNeg 0) k) m_sheetOf (Int32.toNatClampNeg 0) t) m_hourOf (Int32.toNatClampNeg 0) x) m_state (Int32.toNatClampNeg 0) 0) m_why (Int32.toNatClampNeg 0) 0) m_feeOf (Int32.toNatClampNeg 0) (sI (stI (stI (stI (stI (stI (stI S m_clubOf (Int32.toNatClampNeg 0) a) m_kindOf (Int32.toNatClampNeg 0) k) m_sheetOf (Int32.toNatClampNeg 0) t) m_hourOf (Int32.toNatClampNeg 0) x) m_state (Int32.toNatClampNeg 0) 0) m_why (Int32.toNatClampNeg 0) 0) m_fee (Int32.toNatClampNeg a))) m_partOf (Int32.toNatClampNeg 0) (sI (stI (stI (stI (stI (stI (stI (stI S m_clubOf (Int32.toNatClampNeg 0) a) m_kindOf (Int32.toNatClampNeg 0) k) m_sheetOf (Int32.toNatClampNeg 0) t) m_hourOf (Int32.toNatClampNeg 0) x) m_state (Int32.toNatClampNeg 0) 0) m_why (Int32.toNatClampNeg 0) 0) m_feeOf (Int32.toNatClampNeg 0) (sI (stI (stI (stI (stI (stI (stI S m_clubOf (Int32.toNatClampNeg 0) a) m_kindOf (Int32.toNatClampNeg 0) k) m_sheetOf (Int32.toNatClampNeg 0) t) m_hourOf (Int32.toNatClampNeg 0) x) m_state (Int32.toNatClampNeg 0) 0) m_why (Int32.toNatClampNeg 0) 0) m_fee (Int32.toNatClampNeg a))) m_hundredths (Int32.toNatClampNeg a))) m_moved (Int32.toNatClampNeg 0) 0) h 35 1) h 18 = 0 := (iI_k (by decide)).trans w66
              have w71 : sI (stI (stI (stI (stI (stI (stI (stI (stI (stI (stI S m_clubOf (Int32.toNatClampNeg 0) a) m_kindOf (Int32.toNatClampNeg 0) k) m_sheetOf (Int32.toNatClampNeg 0) t) m_hourOf (Int32.toNatClampNeg 0) x) m_state (Int32.toNatClampNeg 0) 0) m_why (Int32.toNatClampNeg 0) 0) m_feeOf (Int32.toNatClampNeg 0) (sI (stI (stI (stI (stI (stI (stI S m_clubOf (Int32.toNatClampNeg 0) a) m_kindOf (Int32.toNatClampNeg 0) k) m_sheetOf (Int32.toNatClampNeg 0) t) m_hourOf (Int32.toNatClampNeg 0) x) m_state (Int32.toNatClampNeg 0) 0) m_why (Int32.toNatClampNeg 0) 0) m_fee (Int32.toNatClampNeg a))) m_partOf (Int32.toNatClampNeg 0) (sI (stI (stI (stI (stI (stI (stI (stI S m_clubOf (Int32.toNatClampNeg 0) a) m_kindOf (Int32.toNatClampNeg 0) k) m_sheetOf (Int32.toNatClampNeg 0) t) m_hourOf (Int32.toNatClampNeg 0) x) m_state (Int32.toNatClampNeg 0) 0) m_why (Int32.toNatClampNeg 0) 0) m_feeOf (Int32.toNatClampNeg 0) (sI (stI (stI (stI (stI (stI (stI S m_clubOf (Int32.toNatClampNeg 0) a) m_kindOf (Int32.toNatClampNeg 0) k) m_sheetOf (Int32.toNatClampNeg 0) t) m_hourOf (Int32.toNatClampNeg 0) x) m_state (Int32.toNatClampNeg 0) 0) m_why (Int32.toNatClampNeg 0) 0) m_fee (Int32.toNatClampNeg a))) m_hundredths (Int32.toNatClampNeg a))) m_moved (Int32.toNatClampNeg 0) 0) h 35 1) h 25 = 2 := (iI_k (by decide)).trans w67
              have w72 : sI (stI (stI (stI (stI (stI (stI (stI (stI (stI (stI S m_clubOf (Int32.toNatClampNeg 0) a) m_kindOf (Int32.toNatClampNeg 0) k) m_sheetOf (Int32.toNatClampNeg 0) t) m_hourOf (Int32.toNatClampNeg 0) x) m_state (Int32.toNatClampNeg 0) 0) m_why (Int32.toNatClampNeg 0) 0) m_feeOf (Int32.toNatClampNeg 0) (sI (stI (stI (stI (stI (stI (stI S m_clubOf (Int32.toNatClampNeg 0) a) m_kindOf (Int32.toNatClampNeg 0) k) m_sheetOf (Int32.toNatClampNeg 0) t) m_hourOf (Int32.toNatClampNeg 0) x) m_state (Int32.toNatClampNeg 0) 0) m_why (Int32.toNatClampNeg 0) 0) m_fee (Int32.toNatClampNeg a))) m_partOf (Int32.toNatClampNeg 0) (sI (stI (stI (stI (stI (stI (stI (stI S m_clubOf (Int32.toNatClampNeg 0) a) m_kindOf (Int32.toNatClampNeg 0) k) m_sheetOf (Int32.toNatClampNeg 0) t) m_hourOf (Int32.toNatClampNeg 0) x) m_state (Int32.toNatClampNeg 0) 0) m_why (Int32.toNatClampNeg 0) 0) m_feeOf (Int32.toNatClampNeg 0) (sI (stI (stI (stI (stI (stI (stI S m_clubOf (Int32.toNatClampNeg 0) a) m_kindOf (Int32.toNatClampNeg 0) k) m_sheetOf (Int32.toNatClampNeg 0) t) m_hourOf (Int32.toNatClampNeg 0) x) m_state (Int32.toNatClampNeg 0) 0) m_why (Int32.toNatClampNeg 0) 0) m_fee (Int32.toNatClampNeg a))) m_hundredths (Int32.toNatClampNeg a))) m_moved (Int32.toNatClampNeg 0) 0) h 35 1) h 36 = 0 := (iI_k (by decide)).trans w69
              have w73 : sI (stI (stI (stI (stI (stI (stI (stI (stI (stI (stI S m_clubOf (Int32.toNatClampNeg 0) a) m_kindOf (Int32.toNatClampNeg 0) k) m_sheetOf (Int32.toNatClampNeg 0) t) m_hourOf (Int32.toNatClampNeg 0) x) m_state (Int32.toNatClampNeg 0) 0) m_why (Int32.toNatClampNeg 0) 0) m_feeOf (Int32.toNatClampNeg 0) (sI (stI (stI (stI (stI (stI (stI S m_clubOf (Int32.toNatClampNeg 0) a) m_kindOf (Int32.toNatClampNeg 0) k) m_sheetOf (Int32.toNatClampNeg 0) t) m_hourOf (Int32.toNatClampNeg 0) x) m_state (Int32.toNatClampNeg 0) 0) m_why (Int32.toNatClampNeg 0) 0) m_fee (Int32.toNatClampNeg a))) m_partOf (Int32.toNatClampNeg 0) (sI (stI (stI (stI (stI (stI (stI (stI S m_clubOf (Int32.toNatClampNeg 0) a) m_kindOf (Int32.toNatClampNeg 0) k) m_sheetOf (Int32.toNatClampNeg 0) t) m_hourOf (Int32.toNatClampNeg 0) x) m_state (Int32.toNatClampNeg 0) 0) m_why (Int32.toNatClampNeg 0) 0) m_feeOf (Int32.toNatClampNeg 0) (sI (stI (stI (stI (stI (stI (stI S m_clubOf (Int32.toNatClampNeg 0) a) m_kindOf (Int32.toNatClampNeg 0) k) m_sheetOf (Int32.toNatClampNeg 0) t) m_hourOf (Int32.toNatClampNeg 0) x) m_state (Int32.toNatClampNeg 0) 0) m_why (Int32.toNatClampNeg 0) 0) m_fee (Int32.toNatClampNeg a))) m_hundredths (Int32.toNatClampNeg a))) m_moved (Int32.toNatClampNeg 0) 0) h 35 1) h 35 = 1 := iI_s
              clear w66 w67 w68 w69
              refine lv_aload_n hx hb dX9_book_292 rfl (lv_at hl 1 rfl) ?_
              refine pg_gi (ci := 9) (C := RX9) (T := TX9) (N := 63) hx hb hts wi9 hown hK hW hk (by decide) rfl 35 (by decide) (hts (.fieldLink RX9 205 "IceHallModel" "sessions" "I") (by decide +kernel)) (fun _ h9 => h9) rfl dX9_book_293 ?_
              rw [show sI (stI (stI (stI (stI (stI (stI (stI (stI (stI (stI S m_clubOf (Int32.toNatClampNeg 0) a) m_kindOf (Int32.toNatClampNeg 0) k) m_sheetOf (Int32.toNatClampNeg 0) t) m_hourOf (Int32.toNatClampNeg 0) x) m_state (Int32.toNatClampNeg 0) 0) m_why (Int32.toNatClampNeg 0) 0) m_feeOf (Int32.toNatClampNeg 0) (sI (stI (stI (stI (stI (stI (stI S m_clubOf (Int32.toNatClampNeg 0) a) m_kindOf (Int32.toNatClampNeg 0) k) m_sheetOf (Int32.toNatClampNeg 0) t) m_hourOf (Int32.toNatClampNeg 0) x) m_state (Int32.toNatClampNeg 0) 0) m_why (Int32.toNatClampNeg 0) 0) m_fee (Int32.toNatClampNeg a))) m_partOf (Int32.toNatClampNeg 0) (sI (stI (stI (stI (stI (stI (stI (stI S m_clubOf (Int32.toNatClampNeg 0) a) m_kindOf (Int32.toNatClampNeg 0) k) m_sheetOf (Int32.toNatClampNeg 0) t) m_hourOf (Int32.toNatClampNeg 0) x) m_state (Int32.toNatClampNeg 0) 0) m_why (Int32.toNatClampNeg 0) 0) m_feeOf (Int32.toNatClampNeg 0) (sI (stI (stI (stI (stI (stI (stI S m_clubOf (Int32.toNatClampNeg 0) a) m_kindOf (Int32.toNatClampNeg 0) k) m_sheetOf (Int32.toNatClampNeg 0) t) m_hourOf (Int32.toNatClampNeg 0) x) m_state (Int32.toNatClampNeg 0) 0) m_why (Int32.toNatClampNeg 0) 0) m_fee (Int32.toNatClampNeg a))) m_hundredths (Int32.toNatClampNeg a))) m_moved (Int32.toNatClampNeg 0) 0) h 35 1) h 35 = 1 from w73]
              refine lv_iconst (v := 1) hx hb dX9_book_296 (by decide) ?_
              refine lv_isub hx hb dX9_book_297 ?_
              rw [show (1 - 1 : Int32) = 0 from by decide]
              exact pc_iret (v := 0) (S := stI (stI (stI (stI (stI (stI (stI (stI (stI (stI S m_clubOf (Int32.toNatClampNeg 0) a) m_kindOf (Int32.toNatClampNeg 0) k) m_sheetOf (Int32.toNatClampNeg 0) t) m_hourOf (Int32.toNatClampNeg 0) x) m_state (Int32.toNatClampNeg 0) 0) m_why (Int32.toNatClampNeg 0) 0) m_feeOf (Int32.toNatClampNeg 0) (sI (stI (stI (stI (stI (stI (stI S m_clubOf (Int32.toNatClampNeg 0) a) m_kindOf (Int32.toNatClampNeg 0) k) m_sheetOf (Int32.toNatClampNeg 0) t) m_hourOf (Int32.toNatClampNeg 0) x) m_state (Int32.toNatClampNeg 0) 0) m_why (Int32.toNatClampNeg 0) 0) m_fee (Int32.toNatClampNeg a))) m_partOf (Int32.toNatClampNeg 0) (sI (stI (stI (stI (stI (stI (stI (stI S m_clubOf (Int32.toNatClampNeg 0) a) m_kindOf (Int32.toNatClampNeg 0) k) m_sheetOf (Int32.toNatClampNeg 0) t) m_hourOf (Int32.toNatClampNeg 0) x) m_state (Int32.toNatClampNeg 0) 0) m_why (Int32.toNatClampNeg 0) 0) m_feeOf (Int32.toNatClampNeg 0) (sI (stI (stI (stI (stI (stI (stI S m_clubOf (Int32.toNatClampNeg 0) a) m_kindOf (Int32.toNatClampNeg 0) k) m_sheetOf (Int32.toNatClampNeg 0) t) m_hourOf (Int32.toNatClampNeg 0) x) m_state (Int32.toNatClampNeg 0) 0) m_why (Int32.toNatClampNeg 0) 0) m_fee (Int32.toNatClampNeg a))) m_hundredths (Int32.toNatClampNeg a))) m_moved (Int32.toNatClampNeg 0) 0) h 35 1) hx hb hr hlk hK hZ hA hW hS (Or.inl ⟨rfl, by omega⟩) dX9_book_298
set_option maxHeartbeats 4000000 in
set_option maxRecDepth 100000 in
theorem c_X9_stands (l : Launch) (D : va_G) (cy : Nat → ClassId) (A : Nat → Prop) (S : St) (h : Nat) (hk : sK S h = 9) (i_53 : sI S h 53 = 0) : MI l yX9_stands wsX9_stands ({ frames := 2, cells := 0, slots := 0, locals := 47 } : Room) 0 0 D cy A [.ref h] S (fun r S1 => S1 = S ∧ r = 1) := by
  refine mt_start (cc := cX9_stands) (maxL := 5) (ret := (some .boolean)) (by decide) rfl (Nat.le_of_ble_eq_true rfl) ?_
  intro p e s m args below meth c hx hb hr hlk hml hown hnm hts hK hZ hA hW hS ls hl
  have hl : lv_has ls 5 [(0, .ref h)] := hl
  have hown : s.vm.findClass RX9 = some m.cls := hown
  have F : CallFix p m c cX9_stands 5 s args wsX9_stands RX9 := ⟨hx, hb, hml, hown, hts⟩
  have wi9 : ∀ w ∈ u_ws RX9 TX9 63, w ∈ wsX9_stands := by decide +kernel
  refine lv_iconst (v := 1) hx hb dX9_stands_0 (by decide) ?_
  refine lv_istore_n (lv' := [(1, .int 1), (0, .ref h)]) hx hb dX9_stands_1 rfl hl (by decide) rfl (fun ls hl => ?_)
  refine lv_iconst (v := 0) hx hb dX9_stands_2 (by decide) ?_
  refine lv_istore_n (lv' := [(2, .int 0), (1, .int 1), (0, .ref h)]) hx hb dX9_stands_3 rfl hl (by decide) rfl (fun ls hl => ?_)
  refine lv_iload_n hx hb dX9_stands_4 rfl (lv_at hl 1 rfl) ?_
  refine lv_if_eq (tgt := 144) hx hb dX9_stands_5 (by decide) (fun c1 => absurd c1 (by decide)) (fun c1 => ?_)
  refine lv_iload_n hx hb dX9_stands_8 rfl (lv_at hl 0 rfl) ?_
  refine lv_aload_n hx hb dX9_stands_9 rfl (lv_at hl 2 rfl) ?_
  refine pg_gi (ci := 9) (C := RX9) (T := TX9) (N := 63) hx hb hts wi9 hown hK hW hk (by decide) rfl 53 (by decide) (hts (.fieldLink RX9 234 "IceHallModel" "outs" "I") (by decide +kernel)) (fun _ h9 => h9) rfl dX9_stands_10 ?_
  rw [show sI S h 53 = 0 from i_53]
  refine lv_icmp_ge (tgt := 144) hx hb dX9_stands_13 (by decide) (fun c2 => ?_) (fun c2 => absurd (by decide) c2)
  refine lv_iconst (v := 0) hx hb dX9_stands_144 (by decide) ?_
  refine lv_istore_n (lv' := [(3, .int 0), (2, .int 0), (1, .int 1), (0, .ref h)]) hx hb dX9_stands_145 rfl hl (by decide) rfl (fun ls hl => ?_)
  refine lv_iload_n hx hb dX9_stands_146 rfl (lv_at hl 0 rfl) ?_
  refine lv_iload_n hx hb dX9_stands_147 rfl (lv_at hl 1 rfl) ?_
  refine lv_icmp_ge (tgt := 211) hx hb dX9_stands_148 (by decide) (fun c3 => ?_) (fun c3 => absurd (by decide) c3)
  refine lv_iconst (v := 0) hx hb dX9_stands_211 (by decide) ?_
  refine lv_istore_n (lv' := [(3, .int 0), (2, .int 0), (1, .int 1), (0, .ref h)]) hx hb dX9_stands_212 rfl hl (by decide) rfl (fun ls hl => ?_)
  refine lv_iload_n hx hb dX9_stands_213 rfl (lv_at hl 0 rfl) ?_
  refine lv_aload_n hx hb dX9_stands_214 rfl (lv_at hl 3 rfl) ?_
  refine pg_gi (ci := 9) (C := RX9) (T := TX9) (N := 63) hx hb hts wi9 hown hK hW hk (by decide) rfl 53 (by decide) (hts (.fieldLink RX9 234 "IceHallModel" "outs" "I") (by decide +kernel)) (fun _ h9 => h9) rfl dX9_stands_215 ?_
  rw [show sI S h 53 = 0 from i_53]
  refine lv_icmp_ge (tgt := 239) hx hb dX9_stands_218 (by decide) (fun c4 => ?_) (fun c4 => absurd (by decide) c4)
  refine lv_iload_n hx hb dX9_stands_239 rfl (lv_at hl 2 rfl) ?_
  exact pc_zret (v := 1) (S := S) hx hb hr hlk hK hZ hA hW hS (by decide) (⟨rfl, rfl⟩) dX9_stands_240
set_option maxHeartbeats 4000000 in
set_option maxRecDepth 100000 in
theorem c_X9_tries (l : Launch) (D : va_G) (cy : Nat → ClassId) (A : Nat → Prop) (S : St) (h : Nat) (hk : sK S h = 9) (i_53 : sI S h 53 = 0) (i_54 : sI S h 54 = (-1)) : MV l yX9_tries wsX9_tries ({ frames := 3, cells := 0, slots := 0, locals := 71 } : Room) 0 0 D cy A [.ref h] S (fun S1 => (sK S1 = sK S ∧ sR S1 = sR S ∧ sL S1 = sL S) ∧ sI S1 h 53 = 0 ∧ True) := by
  refine mt_start (cc := cX9_tries) (maxL := 5) (ret := none) (by decide) rfl (Nat.le_of_ble_eq_true rfl) ?_
  intro p e s m args below meth c hx hb hr hlk hml hown hnm hts hK hZ hA hW hS ls hl
  have hl : lv_has ls 5 [(0, .ref h)] := hl
  have hown : s.vm.findClass RX9 = some m.cls := hown
  have F : CallFix p m c cX9_tries 5 s args wsX9_tries RX9 := ⟨hx, hb, hml, hown, hts⟩
  have wi9 : ∀ w ∈ u_ws RX9 TX9 63, w ∈ wsX9_tries := by decide +kernel
  refine lv_iconst (v := 0) hx hb dX9_tries_0 (by decide) ?_
  refine lv_istore_n (lv' := [(1, .int 0), (0, .ref h)]) hx hb dX9_tries_1 rfl hl (by decide) rfl (fun ls hl => ?_)
  refine lv_iconst (v := 0) hx hb dX9_tries_2 (by decide) ?_
  refine lv_istore_n (lv' := [(2, .int 0), (1, .int 0), (0, .ref h)]) hx hb dX9_tries_3 rfl hl (by decide) rfl (fun ls hl => ?_)
  refine lv_iconst (v := 0) hx hb dX9_tries_4 (by decide) ?_
  refine lv_istore_n (lv' := [(3, .int 0), (2, .int 0), (1, .int 0), (0, .ref h)]) hx hb dX9_tries_5 rfl hl (by decide) rfl (fun ls hl => ?_)
  refine lv_iload_n hx hb dX9_tries_6 rfl (lv_at hl 0 rfl) ?_
  refine lv_aload_n hx hb dX9_tries_7 rfl (lv_at hl 3 rfl) ?_
  refine pg_gi (ci := 9) (C := RX9) (T := TX9) (N := 63) hx hb hts wi9 hown hK hW hk (by decide) rfl 53 (by decide) (hts (.fieldLink RX9 234 "IceHallModel" "outs" "I") (by decide +kernel)) (fun _ h9 => h9) rfl dX9_tries_8 ?_
  rw [show sI S h 53 = 0 from i_53]
  refine lv_icmp_ge (tgt := 83) hx hb dX9_tries_11 (by decide) (fun c1 => ?_) (fun c1 => absurd (by decide) c1)
  refine lv_aload_n hx hb dX9_tries_83 rfl (lv_at hl 3 rfl) ?_
  refine pg_gi (ci := 9) (C := RX9) (T := TX9) (N := 63) hx hb hts wi9 hown hK hW hk (by decide) rfl 54 (by decide) (hts (.fieldLink RX9 241 "IceHallModel" "bestLeft" "I") (by decide +kernel)) (fun _ h9 => h9) rfl dX9_tries_84 ?_
  rw [show sI S h 54 = (-1) from i_54]
  refine lv_iconst (v := (-1)) hx hb dX9_tries_87 (by decide) ?_
  refine lv_icmp_eq (tgt := 130) hx hb dX9_tries_88 (by decide) (fun c2 => ?_) (fun c2 => absurd (by decide) c2)
  refine lv_iconst (v := 1) hx hb dX9_tries_130 (by decide) ?_
  refine lv_goto (tgt := 135) hx hb dX9_tries_131 (by decide) ?_
  refine lv_istore_n (lv' := [(3, .int 1), (2, .int 0), (1, .int 0), (0, .ref h)]) hx hb dX9_tries_135 rfl hl (by decide) rfl (fun ls hl => ?_)
  refine lv_iload_n hx hb dX9_tries_136 rfl (lv_at hl 0 rfl) ?_
  refine lv_if_eq (tgt := 147) hx hb dX9_tries_137 (by decide) (fun c3 => absurd c3 (by decide)) (fun c3 => ?_)
  refine lv_aload_n hx hb dX9_tries_140 rfl (lv_at hl 3 rfl) ?_
  refine pc_Vi (As := []) (rest := []) F (c_X9_stands l D cy A S h hk i_53) (cwV 0 hts gX9_tries_X9_stands rfl rfl rfl (by decide +kernel) ⟨Nat.le_of_ble_eq_true rfl, Nat.le_of_ble_eq_true rfl⟩) hK hZ hA hW hS hk (by decide) rfl rfl hl.1 rfl (Nat.le_of_ble_eq_true rfl) dX9_tries_141 ⟨Nat.le_of_ble_eq_true rfl, Nat.le_of_ble_eq_true rfl⟩ (fun v4 T5 H locs p6 hW hS => ?_)
  obtain ⟨eT5, p6⟩ := p6
  rw [eT5] at hW
  rw [show v4 = 1 from p6]
  refine lv_if_ne (tgt := 148) hx hb dX9_tries_144 (by decide) (fun c7 => ?_) (fun c7 => absurd c7 (by decide))
  refine lv_aload_n hx hb dX9_tries_148 rfl (lv_at hl 3 rfl) ?_
  refine lv_iload_n hx hb dX9_tries_149 rfl (lv_at hl 2 rfl) ?_
  refine pg_pi (ci := 9) (C := RX9) (T := TX9) (N := 63) hx hb hts wi9 tyX9 tyX9_ok nmX9 hown hK hW hS hk (by decide) rfl 54 (by decide) (hts (.fieldLink RX9 241 "IceHallModel" "bestLeft" "I") (by decide +kernel)) (fun _ h9 => h9) rfl rfl rfl dX9_tries_150 (fun H locs hW hS => ?_)
  have w8 : sI (stI S h 54 0) h 53 = 0 := (iI_k (by decide)).trans i_53
  have w9 : sI (stI S h 54 0) h 54 = 0 := iI_s
  refine lv_aload_n hx hb dX9_tries_153 rfl (lv_at hl 3 rfl) ?_
  refine lv_iload_n hx hb dX9_tries_154 rfl (lv_at hl 1 rfl) ?_
  refine pg_pi (ci := 9) (C := RX9) (T := TX9) (N := 63) hx hb hts wi9 tyX9 tyX9_ok nmX9 hown hK hW hS hk (by decide) rfl 55 (by decide) (hts (.fieldLink RX9 244 "IceHallModel" "bestHours" "I") (by decide +kernel)) (fun _ h9 => h9) rfl rfl rfl dX9_tries_155 (fun H locs hW hS => ?_)
  have w10 : sI (stI (stI S h 54 0) h 55 0) h 53 = 0 := (iI_k (by decide)).trans w8
  have w11 : sI (stI (stI S h 54 0) h 55 0) h 54 = 0 := (iI_k (by decide)).trans w9
  have w12 : sI (stI (stI S h 54 0) h 55 0) h 55 = 0 := iI_s
  clear w8 w9
  refine lv_iconst (v := 0) hx hb dX9_tries_158 (by decide) ?_
  refine lv_istore (lv' := [(4, .int 0), (3, .int 1), (2, .int 0), (1, .int 0), (0, .ref h)]) hx hb dX9_tries_159 hl (by decide) rfl (fun ls hl => ?_)
  refine lv_iload hx hb dX9_tries_161 (lv_at hl 0 rfl) ?_
  refine lv_aload_n hx hb dX9_tries_163 rfl (lv_at hl 4 rfl) ?_
  refine pg_gi (ci := 9) (C := RX9) (T := TX9) (N := 63) hx hb hts wi9 hown hK hW hk (by decide) rfl 53 (by decide) (hts (.fieldLink RX9 234 "IceHallModel" "outs" "I") (by decide +kernel)) (fun _ h9 => h9) rfl dX9_tries_164 ?_
  rw [show sI (stI (stI S h 54 0) h 55 0) h 53 = 0 from w10]
  refine lv_icmp_ge (tgt := 190) hx hb dX9_tries_167 (by decide) (fun c13 => ?_) (fun c13 => absurd (by decide) c13)
  exact pc_vret (S := stI (stI S h 54 0) h 55 0) hx hb hr hlk hK hZ hA hW hS (⟨⟨rfl, rfl, rfl⟩, w10, trivial⟩) dX9_tries_190
set_option maxHeartbeats 4000000 in
set_option maxRecDepth 100000 in
theorem c_X9_close (l : Launch) (D : va_G) (cy : Nat → ClassId) (A : Nat → Prop) (S : St) (h m_closedSheet m_closedFrom m_closedTo : Nat) (t x y : Int32) (hk : sK S h = 9) (r_46 : sR S h 46 = some m_closedSheet) (k_46 : sK S m_closedSheet = 11) (n_46 : sL S m_closedSheet = 10) (r_47 : sR S h 47 = some m_closedFrom) (k_47 : sK S m_closedFrom = 11) (n_47 : sL S m_closedFrom = 10) (r_48 : sR S h 48 = some m_closedTo) (k_48 : sK S m_closedTo = 11) (n_48 : sL S m_closedTo = 10) (i_18 : sI S h 18 = 0) (i_35 : sI S h 35 = 0) (i_36 : sI S h 36 = 0) : MI l yX9_close wsX9_close ({ frames := 4, cells := 0, slots := 0, locals := 95 } : Room) 0 0 D cy A [.ref h, .int t, .int x, .int y] S (fun r S1 => (r = 0 ∧ 0 ≤ t.toInt ∧ t.toInt < 2 ∧ 0 ≤ x.toInt ∧ x.toInt < y.toInt ∧ y.toInt ≤ 1000 ∧ y.toInt - x.toInt ≤ 100) ∨ (r = (-1) ∧ ¬ (0 ≤ t.toInt ∧ t.toInt < 2 ∧ 0 ≤ x.toInt ∧ x.toInt < y.toInt ∧ y.toInt ≤ 1000 ∧ y.toInt - x.toInt ≤ 100))) := by
  refine mt_start (cc := cX9_close) (maxL := 8) (ret := (some .int)) (by decide) rfl (Nat.le_of_ble_eq_true rfl) ?_
  intro p e s m args below meth c hx hb hr hlk hml hown hnm hts hK hZ hA hW hS ls hl
  have hl : lv_has ls 8 [(0, .ref h), (1, .int t), (2, .int x), (3, .int y)] := hl
  have hown : s.vm.findClass RX9 = some m.cls := hown
  have F : CallFix p m c cX9_close 8 s args wsX9_close RX9 := ⟨hx, hb, hml, hown, hts⟩
  have wi9 : ∀ w ∈ u_ws RX9 TX9 63, w ∈ wsX9_close := by decide +kernel
  refine lv_iload_n hx hb dX9_close_0 rfl (lv_at hl 1 rfl) ?_
  refine pc_Si (As := [.int t]) (rest := []) F (c_X9_isSheet l D cy A S t ) (va_cwS 1 hts gX9_close_X9_isSheet rfl rfl rfl (by decide +kernel) ⟨Nat.le_of_ble_eq_true rfl, Nat.le_of_ble_eq_true rfl⟩) hK hZ hA hW hS rfl hl.1 rfl (Nat.le_of_ble_eq_true rfl) dX9_close_1 ⟨Nat.le_of_ble_eq_true rfl, Nat.le_of_ble_eq_true rfl⟩ (fun v1 T2 H locs p3 hW hS => ?_)
  obtain ⟨eT2, p3⟩ := p3
  rw [eT2] at hW
  refine lv_if_eq (tgt := 49) hx hb dX9_close_4 (by decide) (fun c4 => ?_) (fun c4 => ?_)
  · have c4i : Int32.toInt v1 = (0 : Int) := (i3_eq _ _).mp c4
    refine lv_iconst (v := (-1)) hx hb dX9_close_49 (by decide) ?_
    exact pc_iret (v := (-1)) (S := S) hx hb hr hlk hK hZ hA hW hS (Or.inr ⟨rfl, by omega⟩) dX9_close_50
  · have c4i : ¬ (Int32.toInt v1 = (0 : Int)) := fun h9 => c4 ((i3_eq _ _).mpr h9)
    refine lv_iload_n hx hb dX9_close_7 rfl (lv_at hl 2 rfl) ?_
    refine lv_aload_n hx hb dX9_close_8 rfl (lv_at hl 0 rfl) ?_
    refine pg_gi (ci := 9) (C := RX9) (T := TX9) (N := 63) hx hb hts wi9 hown hK hW hk (by decide) rfl 18 (by decide) (hts (.fieldLink RX9 219 "IceHallModel" "now" "I") (by decide +kernel)) (fun _ h9 => h9) rfl dX9_close_9 ?_
    rw [show sI S h 18 = 0 from i_18]
    refine lv_icmp_lt (tgt := 49) hx hb dX9_close_12 (by decide) (fun c5 => ?_) (fun c5 => ?_)
    · have c5i : Int32.toInt x < (0 : Int) := (i3_lt _ _).mp c5
      refine lv_iconst (v := (-1)) hx hb dX9_close_49 (by decide) ?_
      exact pc_iret (v := (-1)) (S := S) hx hb hr hlk hK hZ hA hW hS (Or.inr ⟨rfl, by omega⟩) dX9_close_50
    · have c5i : ¬ (Int32.toInt x < (0 : Int)) := fun h9 => c5 ((i3_lt _ _).mpr h9)
      refine lv_iload_n hx hb dX9_close_15 rfl (lv_at hl 3 rfl) ?_
      refine lv_iload_n hx hb dX9_close_16 rfl (lv_at hl 2 rfl) ?_
      refine lv_icmp_le (tgt := 49) hx hb dX9_close_17 (by decide) (fun c6 => ?_) (fun c6 => ?_)
      · have c6i : Int32.toInt y ≤ Int32.toInt x := (i3_le _ _).mp c6
        refine lv_iconst (v := (-1)) hx hb dX9_close_49 (by decide) ?_
        exact pc_iret (v := (-1)) (S := S) hx hb hr hlk hK hZ hA hW hS (Or.inr ⟨rfl, by omega⟩) dX9_close_50
      · have c6i : ¬ (Int32.toInt y ≤ Int32.toInt x) := fun h9 => c6 ((i3_le _ _).mpr h9)
        refine lv_iload_n hx hb dX9_close_20 rfl (lv_at hl 3 rfl) ?_
        refine lv_aload_n hx hb dX9_close_21 rfl (lv_at hl 0 rfl) ?_
        refine pg_gi (ci := 9) (C := RX9) (T := TX9) (N := 63) hx hb hts wi9 hown hK hW hk (by decide) rfl 18 (by decide) (hts (.fieldLink RX9 219 "IceHallModel" "now" "I") (by decide +kernel)) (fun _ h9 => h9) rfl dX9_close_22 ?_
        rw [show sI S h 18 = 0 from i_18]
        refine lv_sipush (v := 1000) hx hb dX9_close_25 (by decide) ?_
        refine lv_iadd hx hb dX9_close_28 ?_
        rw [show (0 + 1000 : Int32) = 1000 from by decide]
        refine lv_icmp_gt (tgt := 49) hx hb dX9_close_29 (by decide) (fun c7 => ?_) (fun c7 => ?_)
        · have c7i : (1000 : Int) < Int32.toInt y := (i3_lt _ _).mp c7
          refine lv_iconst (v := (-1)) hx hb dX9_close_49 (by decide) ?_
          exact pc_iret (v := (-1)) (S := S) hx hb hr hlk hK hZ hA hW hS (Or.inr ⟨rfl, by omega⟩) dX9_close_50
        · have c7i : ¬ ((1000 : Int) < Int32.toInt y) := fun h9 => c7 ((i3_lt _ _).mpr h9)
          refine lv_iload_n hx hb dX9_close_32 rfl (lv_at hl 3 rfl) ?_
          refine lv_iload_n hx hb dX9_close_33 rfl (lv_at hl 2 rfl) ?_
          refine lv_isub hx hb dX9_close_34 ?_
          have hsub : (y - x).toInt = y.toInt - x.toInt := i3_sub rfl rfl (by omega) (by omega)
          refine lv_bipush (v := 100) hx hb dX9_close_35 (by decide) ?_
          refine lv_icmp_gt (tgt := 49) hx hb dX9_close_37 (by decide) (fun c8 => ?_) (fun c8 => ?_)
          · have c8i : (100 : Int) < Int32.toInt (y - x) := (i3_lt _ _).mp c8
            refine lv_iconst (v := (-1)) hx hb dX9_close_49 (by decide) ?_
            exact pc_iret (v := (-1)) (S := S) hx hb hr hlk hK hZ hA hW hS (Or.inr ⟨rfl, by omega⟩) dX9_close_50
          · have c8i : ¬ ((100 : Int) < Int32.toInt (y - x)) := fun h9 => c8 ((i3_lt _ _).mpr h9)
            refine lv_aload_n hx hb dX9_close_40 rfl (lv_at hl 0 rfl) ?_
            refine pg_gi (ci := 9) (C := RX9) (T := TX9) (N := 63) hx hb hts wi9 hown hK hW hk (by decide) rfl 36 (by decide) (hts (.fieldLink RX9 202 "IceHallModel" "closings" "I") (by decide +kernel)) (fun _ h9 => h9) rfl dX9_close_41 ?_
            rw [show sI S h 36 = 0 from i_36]
            refine lv_bipush (v := 10) hx hb dX9_close_44 (by decide) ?_
            refine lv_icmp_ne (tgt := 51) hx hb dX9_close_46 (by decide) (fun c9 => ?_) (fun c9 => absurd c9 (by decide))
            refine lv_aload_n hx hb dX9_close_51 rfl (lv_at hl 0 rfl) ?_
            refine lv_iconst (v := 0) hx hb dX9_close_52 (by decide) ?_
            refine pg_pi (ci := 9) (C := RX9) (T := TX9) (N := 63) hx hb hts wi9 tyX9 tyX9_ok nmX9 hown hK hW hS hk (by decide) rfl 53 (by decide) (hts (.fieldLink RX9 234 "IceHallModel" "outs" "I") (by decide +kernel)) (fun _ h9 => h9) rfl rfl rfl dX9_close_53 (fun H locs hW hS => ?_)
            have w10 : sI (stI S h 53 0) h 18 = 0 := (iI_k (by decide)).trans i_18
            have w11 : sI (stI S h 53 0) h 35 = 0 := (iI_k (by decide)).trans i_35
            have w12 : sI (stI S h 53 0) h 36 = 0 := (iI_k (by decide)).trans i_36
            have w13 : sI (stI S h 53 0) h 53 = 0 := iI_s
            refine lv_iconst (v := 0) hx hb dX9_close_56 (by decide) ?_
            refine lv_istore (lv' := [(4, .int 0), (0, .ref h), (1, .int t), (2, .int x), (3, .int y)]) hx hb dX9_close_57 hl (by decide) rfl (fun ls hl => ?_)
            refine lv_iload hx hb dX9_close_59 (lv_at hl 0 rfl) ?_
            refine lv_aload_n hx hb dX9_close_61 rfl (lv_at hl 1 rfl) ?_
            refine pg_gi (ci := 9) (C := RX9) (T := TX9) (N := 63) hx hb hts wi9 hown hK hW hk (by decide) rfl 35 (by decide) (hts (.fieldLink RX9 205 "IceHallModel" "sessions" "I") (by decide +kernel)) (fun _ h9 => h9) rfl dX9_close_62 ?_
            rw [show sI (stI S h 53 0) h 35 = 0 from w11]
            refine lv_icmp_ge (tgt := 167) hx hb dX9_close_65 (by decide) (fun c14 => ?_) (fun c14 => absurd (by decide) c14)
            refine lv_aload_n hx hb dX9_close_167 rfl (lv_at hl 1 rfl) ?_
            refine pg_gr (b := m_closedSheet) (ci := 9) (C := RX9) (T := TX9) (N := 63) hx hb hts wi9 hown hK hW hk (by decide) rfl 46 (by decide) (hts (.fieldLink RX9 100 "IceHallModel" "closedSheet" "[I") (by decide +kernel)) (fun _ h9 => h9) rfl r_46 dX9_close_168 ?_
            refine lv_aload_n hx hb dX9_close_171 rfl (lv_at hl 1 rfl) ?_
            refine pg_gi (ci := 9) (C := RX9) (T := TX9) (N := 63) hx hb hts wi9 hown hK hW hk (by decide) rfl 36 (by decide) (hts (.fieldLink RX9 202 "IceHallModel" "closings" "I") (by decide +kernel)) (fun _ h9 => h9) rfl dX9_close_172 ?_
            rw [show sI (stI S h 53 0) h 36 = 0 from w12]
            refine lv_iload_n hx hb dX9_close_175 rfl (lv_at hl 2 rfl) ?_
            refine pg_iast hx hb hK hW hS k_46 (by rw [show sL (stI S h 53 0) m_closedSheet = 10 from n_46]; exact vp_in_nI (n := 0) (by decide) (by decide)) dX9_close_176 (fun H locs hW hS => ?_)
            have w15 : sI (stI (stI S h 53 0) m_closedSheet (Int32.toNatClampNeg 0) t) h 18 = 0 := (iI_a (fk_ne hk k_46 (by decide))).trans w10
            have w16 : sI (stI (stI S h 53 0) m_closedSheet (Int32.toNatClampNeg 0) t) h 35 = 0 := (iI_a (fk_ne hk k_46 (by decide))).trans w11
            have w17 : sI (stI (stI S h 53 0) m_closedSheet (Int32.toNatClampNeg 0) t) h 36 = 0 := (iI_a (fk_ne hk k_46 (by decide))).trans w12
            have w18 : sI (stI (stI S h 53 0) m_closedSheet (Int32.toNatClampNeg 0) t) h 53 = 0 := (iI_a (fk_ne hk k_46 (by decide))).trans w13
            clear w10 w11 w12 w13
            refine lv_aload_n hx hb dX9_close_177 rfl (lv_at hl 1 rfl) ?_
            refine pg_gr (b := m_closedFrom) (ci := 9) (C := RX9) (T := TX9) (N := 63) hx hb hts wi9 hown hK hW hk (by decide) rfl 47 (by decide) (hts (.fieldLink RX9 103 "IceHallModel" "closedFrom" "[I") (by decide +kernel)) (fun _ h9 => h9) rfl r_47 dX9_close_178 ?_
            refine lv_aload_n hx hb dX9_close_181 rfl (lv_at hl 1 rfl) ?_
            refine pg_gi (ci := 9) (C := RX9) (T := TX9) (N := 63) hx hb hts wi9 hown hK hW hk (by decide) rfl 36 (by decide) (hts (.fieldLink RX9 202 "IceHallModel" "closings" "I") (by decide +kernel)) (fun _ h9 => h9) rfl dX9_close_182 ?_
            rw [show sI (stI (stI S h 53 0) m_closedSheet (Int32.toNatClampNeg 0) t) h 36 = 0 from w17]
            refine lv_iload_n hx hb dX9_close_185 rfl (lv_at hl 3 rfl) ?_
            refine pg_iast hx hb hK hW hS k_47 (by rw [show sL (stI (stI S h 53 0) m_closedSheet (Int32.toNatClampNeg 0) t) m_closedFrom = 10 from n_47]; exact vp_in_nI (n := 0) (by decide) (by decide)) dX9_close_186 (fun H locs hW hS => ?_)
            have w19 : sI (stI (stI (stI S h 53 0) m_closedSheet (Int32.toNatClampNeg 0) t) m_closedFrom (Int32.toNatClampNeg 0) x) h 18 = 0 := (iI_a (fk_ne hk k_47 (by decide))).trans w15
            have w20 : sI (stI (stI (stI S h 53 0) m_closedSheet (Int32.toNatClampNeg 0) t) m_closedFrom (Int32.toNatClampNeg 0) x) h 35 = 0 := (iI_a (fk_ne hk k_47 (by decide))).trans w16
            have w21 : sI (stI (stI (stI S h 53 0) m_closedSheet (Int32.toNatClampNeg 0) t) m_closedFrom (Int32.toNatClampNeg 0) x) h 36 = 0 := (iI_a (fk_ne hk k_47 (by decide))).trans w17
            have w22 : sI (stI (stI (stI S h 53 0) m_closedSheet (Int32.toNatClampNeg 0) t) m_closedFrom (Int32.toNatClampNeg 0) x) h 53 = 0 := (iI_a (fk_ne hk k_47 (by decide))).trans w18
            clear w15 w16 w17 w18
            refine lv_aload_n hx hb dX9_close_187 rfl (lv_at hl 1 rfl) ?_
            refine pg_gr (b := m_closedTo) (ci := 9) (C := RX9) (T := TX9) (N := 63) hx hb hts wi9 hown hK hW hk (by decide) rfl 48 (by decide) (hts (.fieldLink RX9 106 "IceHallModel" "closedTo" "[I") (by decide +kernel)) (fun _ h9 => h9) rfl r_48 dX9_close_188 ?_
            refine lv_aload_n hx hb dX9_close_191 rfl (lv_at hl 1 rfl) ?_
            refine pg_gi (ci := 9) (C := RX9) (T := TX9) (N := 63) hx hb hts wi9 hown hK hW hk (by decide) rfl 36 (by decide) (hts (.fieldLink RX9 202 "IceHallModel" "closings" "I") (by decide +kernel)) (fun _ h9 => h9) rfl dX9_close_192 ?_
            rw [show sI (stI (stI (stI S h 53 0) m_closedSheet (Int32.toNatClampNeg 0) t) m_closedFrom (Int32.toNatClampNeg 0) x) h 36 = 0 from w21]
            refine lv_iload_n hx hb dX9_close_195 rfl (lv_at hl 4 rfl) ?_
            refine pg_iast hx hb hK hW hS k_48 (by rw [show sL (stI (stI (stI S h 53 0) m_closedSheet (Int32.toNatClampNeg 0) t) m_closedFrom (Int32.toNatClampNeg 0) x) m_closedTo = 10 from n_48]; exact vp_in_nI (n := 0) (by decide) (by decide)) dX9_close_196 (fun H locs hW hS => ?_)
            have w23 : sI (stI (stI (stI (stI S h 53 0) m_closedSheet (Int32.toNatClampNeg 0) t) m_closedFrom (Int32.toNatClampNeg 0) x) m_closedTo (Int32.toNatClampNeg 0) y) h 18 = 0 := (iI_a (fk_ne hk k_48 (by decide))).trans w19
            have w24 : sI (stI (stI (stI (stI S h 53 0) m_closedSheet (Int32.toNatClampNeg 0) t) m_closedFrom (Int32.toNatClampNeg 0) x) m_closedTo (Int32.toNatClampNeg 0) y) h 35 = 0 := (iI_a (fk_ne hk k_48 (by decide))).trans w20
            have w25 : sI (stI (stI (stI (stI S h 53 0) m_closedSheet (Int32.toNatClampNeg 0) t) m_closedFrom (Int32.toNatClampNeg 0) x) m_closedTo (Int32.toNatClampNeg 0) y) h 36 = 0 := (iI_a (fk_ne hk k_48 (by decide))).trans w21
            have w26 : sI (stI (stI (stI (stI S h 53 0) m_closedSheet (Int32.toNatClampNeg 0) t) m_closedFrom (Int32.toNatClampNeg 0) x) m_closedTo (Int32.toNatClampNeg 0) y) h 53 = 0 := (iI_a (fk_ne hk k_48 (by decide))).trans w22
            clear w19 w20 w21 w22
            refine lv_aload_n hx hb dX9_close_197 rfl (lv_at hl 1 rfl) ?_
            refine lv_aload_n hx hb dX9_close_198 rfl (lv_at hl 1 rfl) ?_
            refine pg_gi (ci := 9) (C := RX9) (T := TX9) (N := 63) hx hb hts wi9 hown hK hW hk (by decide) rfl 36 (by decide) (hts (.fieldLink RX9 202 "IceHallModel" "closings" "I") (by decide +kernel)) (fun _ h9 => h9) rfl dX9_close_199 ?_
            rw [show sI (stI (stI (stI (stI S h 53 0) m_closedSheet (Int32.toNatClampNeg 0) t) m_closedFrom (Int32.toNatClampNeg 0) x) m_closedTo (Int32.toNatClampNeg 0) y) h 36 = 0 from w25]
            refine lv_iconst (v := 1) hx hb dX9_close_202 (by decide) ?_
            refine lv_iadd hx hb dX9_close_203 ?_
            rw [show (0 + 1 : Int32) = 1 from by decide]
            refine pg_pi (ci := 9) (C := RX9) (T := TX9) (N := 63) hx hb hts wi9 tyX9 tyX9_ok nmX9 hown hK hW hS hk (by decide) rfl 36 (by decide) (hts (.fieldLink RX9 202 "IceHallModel" "closings" "I") (by decide +kernel)) (fun _ h9 => h9) rfl rfl rfl dX9_close_204 (fun H locs hW hS => ?_)
            have w27 : sI (stI (stI (stI (stI (stI S h 53 0) m_closedSheet (Int32.toNatClampNeg 0) t) m_closedFrom (Int32.toNatClampNeg 0) x) m_closedTo (Int32.toNatClampNeg 0) y) h 36 1) h 18 = 0 := (iI_k (by decide)).trans w23
            have w28 : sI (stI (stI (stI (stI (stI S h 53 0) m_closedSheet (Int32.toNatClampNeg 0) t) m_closedFrom (Int32.toNatClampNeg 0) x) m_closedTo (Int32.toNatClampNeg 0) y) h 36 1) h 35 = 0 := (iI_k (by decide)).trans w24
            have w29 : sI (stI (stI (stI (stI (stI S h 53 0) m_closedSheet (Int32.toNatClampNeg 0) t) m_closedFrom (Int32.toNatClampNeg 0) x) m_closedTo (Int32.toNatClampNeg 0) y) h 36 1) h 53 = 0 := (iI_k (by decide)).trans w26
            have w30 : sI (stI (stI (stI (stI (stI S h 53 0) m_closedSheet (Int32.toNatClampNeg 0) t) m_closedFrom (Int32.toNatClampNeg 0) x) m_closedTo (Int32.toNatClampNeg 0) y) h 36 1) h 36 = 1 := iI_s
            clear w23 w24 w25 w26
            refine lv_iconst (v := 1) hx hb dX9_close_207 (by decide) ?_
            refine lv_istore (lv' := [(4, .int 1), (0, .ref h), (1, .int t), (2, .int x), (3, .int y)]) hx hb dX9_close_208 hl (by decide) rfl (fun ls hl => ?_)
            refine lv_iconst (v := 0) hx hb dX9_close_210 (by decide) ?_
            refine lv_istore (lv' := [(5, .int 0), (4, .int 1), (0, .ref h), (1, .int t), (2, .int x), (3, .int y)]) hx hb dX9_close_211 hl (by decide) rfl (fun ls hl => ?_)
            refine lv_iload hx hb dX9_close_213 (lv_at hl 0 rfl) ?_
            refine lv_aload_n hx hb dX9_close_215 rfl (lv_at hl 2 rfl) ?_
            refine pg_gi (ci := 9) (C := RX9) (T := TX9) (N := 63) hx hb hts wi9 hown hK hW hk (by decide) rfl 53 (by decide) (hts (.fieldLink RX9 234 "IceHallModel" "outs" "I") (by decide +kernel)) (fun _ h9 => h9) rfl dX9_close_216 ?_
            rw [show sI (stI (stI (stI (stI (stI S h 53 0) m_closedSheet (Int32.toNatClampNeg 0) t) m_closedFrom (Int32.toNatClampNeg 0) x) m_closedTo (Int32.toNatClampNeg 0) y) h 36 1) h 53 = 0 from w29]
            refine lv_icmp_ge (tgt := 248) hx hb dX9_close_219 (by decide) (fun c31 => ?_) (fun c31 => absurd (by decide) c31)
            refine lv_aload_n hx hb dX9_close_248 rfl (lv_at hl 2 rfl) ?_
            refine lv_iconst (v := (-1)) hx hb dX9_close_249 (by decide) ?_
            refine pg_pi (ci := 9) (C := RX9) (T := TX9) (N := 63) hx hb hts wi9 tyX9 tyX9_ok nmX9 hown hK hW hS hk (by decide) rfl 54 (by decide) (hts (.fieldLink RX9 241 "IceHallModel" "bestLeft" "I") (by decide +kernel)) (fun _ h9 => h9) rfl rfl rfl dX9_close_250 (fun H locs hW hS => ?_)
            have w32 : sI (stI (stI (stI (stI (stI (stI S h 53 0) m_closedSheet (Int32.toNatClampNeg 0) t) m_closedFrom (Int32.toNatClampNeg 0) x) m_closedTo (Int32.toNatClampNeg 0) y) h 36 1) h 54 ((-1))) h 18 = 0 := (iI_k (by decide)).trans w27
            have w33 : sI (stI (stI (stI (stI (stI (stI S h 53 0) m_closedSheet (Int32.toNatClampNeg 0) t) m_closedFrom (Int32.toNatClampNeg 0) x) m_closedTo (Int32.toNatClampNeg 0) y) h 36 1) h 54 ((-1))) h 35 = 0 := (iI_k (by decide)).trans w28
            have w34 : sI (stI (stI (stI (stI (stI (stI S h 53 0) m_closedSheet (Int32.toNatClampNeg 0) t) m_closedFrom (Int32.toNatClampNeg 0) x) m_closedTo (Int32.toNatClampNeg 0) y) h 36 1) h 54 ((-1))) h 53 = 0 := (iI_k (by decide)).trans w29
            have w35 : sI (stI (stI (stI (stI (stI (stI S h 53 0) m_closedSheet (Int32.toNatClampNeg 0) t) m_closedFrom (Int32.toNatClampNeg 0) x) m_closedTo (Int32.toNatClampNeg 0) y) h 36 1) h 54 ((-1))) h 36 = 1 := (iI_k (by decide)).trans w30
            have w36 : sI (stI (stI (stI (stI (stI (stI S h 53 0) m_closedSheet (Int32.toNatClampNeg 0) t) m_closedFrom (Int32.toNatClampNeg 0) x) m_closedTo (Int32.toNatClampNeg 0) y) h 36 1) h 54 ((-1))) h 54 = (-1) := iI_s
            clear w27 w28 w29 w30
            refine lv_iconst (v := 0) hx hb dX9_close_253 (by decide) ?_
            refine lv_istore (lv' := [(5, .int 0), (4, .int 1), (0, .ref h), (1, .int t), (2, .int x), (3, .int y)]) hx hb dX9_close_254 hl (by decide) rfl (fun ls hl => ?_)
            refine lv_iload hx hb dX9_close_256 (lv_at hl 0 rfl) ?_
            refine lv_iload hx hb dX9_close_258 (lv_at hl 1 rfl) ?_
            refine lv_icmp_ge (tgt := 315) hx hb dX9_close_260 (by decide) (fun c37 => absurd c37 (by decide)) (fun c37 => ?_)
            refine lv_iload hx hb dX9_close_263 (lv_at hl 0 rfl) ?_
            refine lv_istore (lv' := [(6, .int 0), (5, .int 0), (4, .int 1), (0, .ref h), (1, .int t), (2, .int x), (3, .int y)]) hx hb dX9_close_265 hl (by decide) rfl (fun ls hl => ?_)
            refine lv_aload_n hx hb dX9_close_267 rfl (lv_at hl 3 rfl) ?_
            refine pg_gi (ci := 9) (C := RX9) (T := TX9) (N := 63) hx hb hts wi9 hown hK hW hk (by decide) rfl 53 (by decide) (hts (.fieldLink RX9 234 "IceHallModel" "outs" "I") (by decide +kernel)) (fun _ h9 => h9) rfl dX9_close_268 ?_
            rw [show sI (stI (stI (stI (stI (stI (stI S h 53 0) m_closedSheet (Int32.toNatClampNeg 0) t) m_closedFrom (Int32.toNatClampNeg 0) x) m_closedTo (Int32.toNatClampNeg 0) y) h 36 1) h 54 ((-1))) h 53 = 0 from w34]
            refine lv_iconst (v := 1) hx hb dX9_close_271 (by decide) ?_
            refine lv_isub hx hb dX9_close_272 ?_
            rw [show (0 - 1 : Int32) = (-1) from by decide]
            refine lv_istore (lv' := [(7, .int ((-1))), (6, .int 0), (5, .int 0), (4, .int 1), (0, .ref h), (1, .int t), (2, .int x), (3, .int y)]) hx hb dX9_close_273 hl (by decide) rfl (fun ls hl => ?_)
            refine lv_iload hx hb dX9_close_275 (lv_at hl 0 rfl) ?_
            refine lv_if_lt (tgt := 305) hx hb dX9_close_277 (by decide) (fun c38 => ?_) (fun c38 => absurd (by decide) c38)
            refine lv_aload_n hx hb dX9_close_305 rfl (lv_at hl 4 rfl) ?_
            refine pc_Vv (As := []) (rest := []) F (c_X9_tries l D cy A (stI (stI (stI (stI (stI (stI S h 53 0) m_closedSheet (Int32.toNatClampNeg 0) t) m_closedFrom (Int32.toNatClampNeg 0) x) m_closedTo (Int32.toNatClampNeg 0) y) h 36 1) h 54 ((-1))) h hk w34 w36) (cwV 0 hts gX9_close_X9_tries rfl rfl rfl (by decide +kernel) ⟨Nat.le_of_ble_eq_true rfl, Nat.le_of_ble_eq_true rfl⟩) hK hZ hA hW hS hk (by decide) rfl rfl hl.1 rfl (Nat.le_of_ble_eq_true rfl) dX9_close_306 ⟨Nat.le_of_ble_eq_true rfl, Nat.le_of_ble_eq_true rfl⟩ (fun T40 H locs p41 hW hS => ?_)
            obtain ⟨⟨ekT40, erT40, elT40⟩, p41⟩ := p41
            have f42 : sK T40 h = 9 := by rw [ekT40]; exact hk
            have f43 : sK T40 m_closedSheet = 11 := by rw [ekT40]; exact k_46
            have f44 : sK T40 m_closedFrom = 11 := by rw [ekT40]; exact k_47
            have f45 : sK T40 m_closedTo = 11 := by rw [ekT40]; exact k_48
            have f46 : sL T40 m_closedSheet = 10 := by rw [elT40]; exact n_46
            have f47 : sL T40 m_closedFrom = 10 := by rw [elT40]; exact n_47
            have f48 : sL T40 m_closedTo = 10 := by rw [elT40]; exact n_48
            have f49 : sR T40 h 46 = some m_closedSheet := by rw [erT40]; exact r_46
            have f50 : sR T40 h 47 = some m_closedFrom := by rw [erT40]; exact r_47
            have f51 : sR T40 h 48 = some m_closedTo := by rw [erT40]; exact r_48
            obtain ⟨y52, p41⟩ := p41
            refine lv_iinc (v := 1) (lv' := [(5, .int 1), (7, .int ((-1))), (6, .int 0), (4, .int 1), (0, .ref h), (1, .int t), (2, .int x), (3, .int y)]) hx hb dX9_close_309 hl (k := 2) rfl (by decide) (by decide) rfl (fun ls hl => ?_)
            refine lv_goto (tgt := 256) hx hb dX9_close_312 (by decide) ?_
            refine lv_iload hx hb dX9_close_256 (lv_at hl 0 rfl) ?_
            refine lv_iload hx hb dX9_close_258 (lv_at hl 3 rfl) ?_
            refine lv_icmp_ge (tgt := 315) hx hb dX9_close_260 (by decide) (fun c53 => ?_) (fun c53 => absurd (by decide) c53)
            refine lv_iconst (v := 0) hx hb dX9_close_315 (by decide) ?_
            refine lv_istore (lv' := [(5, .int 0), (7, .int ((-1))), (6, .int 0), (4, .int 1), (0, .ref h), (1, .int t), (2, .int x), (3, .int y)]) hx hb dX9_close_316 hl (by decide) rfl (fun ls hl => ?_)
            refine lv_iload hx hb dX9_close_318 (lv_at hl 0 rfl) ?_
            refine lv_aload_n hx hb dX9_close_320 rfl (lv_at hl 4 rfl) ?_
            refine pg_gi (ci := 9) (C := RX9) (T := TX9) (N := 63) hx hb hts wi9 hown hK hW f42 (by decide) rfl 53 (by decide) (hts (.fieldLink RX9 234 "IceHallModel" "outs" "I") (by decide +kernel)) (fun _ h9 => h9) rfl dX9_close_321 ?_
            rw [show sI T40 h 53 = 0 from y52]
            refine lv_icmp_ge (tgt := 495) hx hb dX9_close_324 (by decide) (fun c54 => ?_) (fun c54 => absurd (by decide) c54)
            refine lv_aload_n hx hb dX9_close_495 rfl (lv_at hl 4 rfl) ?_
            refine pg_gi (ci := 9) (C := RX9) (T := TX9) (N := 63) hx hb hts wi9 hown hK hW f42 (by decide) rfl 53 (by decide) (hts (.fieldLink RX9 234 "IceHallModel" "outs" "I") (by decide +kernel)) (fun _ h9 => h9) rfl dX9_close_496 ?_
            rw [show sI T40 h 53 = 0 from y52]
            refine lv_if_ne (tgt := 506) hx hb dX9_close_499 (by decide) (fun c55 => absurd (by decide) c55) (fun c55 => ?_)
            refine lv_iconst (v := 0) hx hb dX9_close_502 (by decide) ?_
            refine lv_goto (tgt := 510) hx hb dX9_close_503 (by decide) ?_
            exact pc_iret (v := 0) (S := T40) hx hb hr hlk hK hZ hA hW hS (Or.inl ⟨rfl, by omega⟩) dX9_close_510
set_option maxHeartbeats 4000000 in
set_option maxRecDepth 100000 in
theorem c_X9_halfOf (l : Launch) (D : va_G) (cy : Nat → ClassId) (A : Nat → Prop) (S : St) (a : Int32)  : MI l yX9_halfOf wsX9_halfOf ({ frames := 0, cells := 0, slots := 0, locals := 0 } : Room) 0 0 D cy A [.int a] S (fun r S1 => S1 = S ∧ r = (if 0 ≤ a then a / 2 else 0)) := by
  refine mt_start (cc := cX9_halfOf) (maxL := 1) (ret := (some .int)) (by decide) rfl (Nat.le_of_ble_eq_true rfl) ?_
  intro p e s m args below meth c hx hb hr hlk hml hown hnm hts hK hZ hA hW hS ls hl
  have hl : lv_has ls 1 [(0, .int a)] := hl
  have hown : s.vm.findClass RX9 = some m.cls := hown
  have F : CallFix p m c cX9_halfOf 1 s args wsX9_halfOf RX9 := ⟨hx, hb, hml, hown, hts⟩
  refine lv_iload_n hx hb dX9_halfOf_0 rfl (lv_at hl 0 rfl) ?_
  refine lv_if_ge (tgt := 8) hx hb dX9_halfOf_1 (by decide) (fun c1 => ?_) (fun c1 => ?_)
  · have c1i : (0 : Int) ≤ Int32.toInt a := (i3_le _ _).mp c1
    refine lv_iload_n hx hb dX9_halfOf_8 rfl (lv_at hl 0 rfl) ?_
    refine lv_iconst (v := 2) hx hb dX9_halfOf_9 (by decide) ?_
    refine lv_idiv hx hb dX9_halfOf_10 (by decide) ?_
    exact pc_iret (v := a / 2) (S := S) hx hb hr hlk hK hZ hA hW hS (⟨rfl, by first | (rw [if_pos (by assumption)]; done) | (rw [if_neg (by assumption)]; done)⟩) dX9_halfOf_11
  · have c1i : ¬ ((0 : Int) ≤ Int32.toInt a) := fun h9 => c1 ((i3_le _ _).mpr h9)
    refine lv_iconst (v := 0) hx hb dX9_halfOf_4 (by decide) ?_
    refine lv_goto (tgt := 11) hx hb dX9_halfOf_5 (by decide) ?_
    exact pc_iret (v := 0) (S := S) hx hb hr hlk hK hZ hA hW hS (⟨rfl, by first | (rw [if_pos (by assumption)]; done) | (rw [if_neg (by assumption)]; done)⟩) dX9_halfOf_11
set_option maxHeartbeats 4000000 in
set_option maxRecDepth 100000 in
theorem c_X9_melts (l : Launch) (D : va_G) (cy : Nat → ClassId) (A : Nat → Prop) (S : St) (h m_thick m_melted m_hasCut : Nat) (a b : Int32) (hk : sK S h = 9) (r_27 : sR S h 27 = some m_thick) (k_27 : sK S m_thick = 11) (n_27 : sL S m_thick = 2) (r_31 : sR S h 31 = some m_melted) (k_31 : sK S m_melted = 11) (n_31 : sL S m_melted = 2) (r_34 : sR S h 34 = some m_hasCut) (k_34 : sK S m_hasCut = 13) (n_34 : sL S m_hasCut = 2) (a_m_hasCut : ∀ j, j < 2 → sI S m_hasCut j = 0) (i_18 : sI S h 18 = 0) (i_35 : sI S h 35 = 0) (ha0 : 0 ≤ a.toInt) (ha2 : a.toInt < 2) : MV l yX9_melts wsX9_melts ({ frames := 0, cells := 0, slots := 0, locals := 0 } : Room) 0 0 D cy A [.ref h, .int a, .int b] S (fun S1 => (sK S1 = sK S ∧ sR S1 = sR S ∧ sL S1 = sL S) ∧ sI S1 h 18 = 0 ∧ sI S1 h 35 = 0 ∧ (∀ j, j < 2 → sI S1 m_hasCut j = 0) ∧ True) := by
  refine mt_start (cc := cX9_melts) (maxL := 6) (ret := none) (by decide) rfl (Nat.le_of_ble_eq_true rfl) ?_
  intro p e s m args below meth c hx hb hr hlk hml hown hnm hts hK hZ hA hW hS ls hl
  have hl : lv_has ls 6 [(0, .ref h), (1, .int a), (2, .int b)] := hl
  have hown : s.vm.findClass RX9 = some m.cls := hown
  have F : CallFix p m c cX9_melts 6 s args wsX9_melts RX9 := ⟨hx, hb, hml, hown, hts⟩
  have wi9 : ∀ w ∈ u_ws RX9 TX9 63, w ∈ wsX9_melts := by decide +kernel
  refine lv_iload_n hx hb dX9_melts_0 rfl (lv_at hl 2 rfl) ?_
  refine lv_aload_n hx hb dX9_melts_1 rfl (lv_at hl 0 rfl) ?_
  refine pg_gi (ci := 9) (C := RX9) (T := TX9) (N := 63) hx hb hts wi9 hown hK hW hk (by decide) rfl 19 (by decide) (hts (.fieldLink RX9 32 "IceHallModel" "store" "I") (by decide +kernel)) (fun _ h9 => h9) rfl dX9_melts_2 ?_
  refine lv_icmp_ge (tgt := 12) hx hb dX9_melts_5 (by decide) (fun c1 => ?_) (fun c1 => ?_)
  · have c1i : Int32.toInt (sI S h 19) ≤ Int32.toInt b := (i3_le _ _).mp c1
    refine lv_aload_n hx hb dX9_melts_12 rfl (lv_at hl 0 rfl) ?_
    refine pg_gi (ci := 9) (C := RX9) (T := TX9) (N := 63) hx hb hts wi9 hown hK hW hk (by decide) rfl 19 (by decide) (hts (.fieldLink RX9 32 "IceHallModel" "store" "I") (by decide +kernel)) (fun _ h9 => h9) rfl dX9_melts_13 ?_
    refine lv_istore_n (lv' := [(3, .int (sI S h 19)), (0, .ref h), (1, .int a), (2, .int b)]) hx hb dX9_melts_16 rfl hl (by decide) rfl (fun ls hl => ?_)
    refine lv_aload_n hx hb dX9_melts_17 rfl (lv_at hl 1 rfl) ?_
    refine lv_aload_n hx hb dX9_melts_18 rfl (lv_at hl 1 rfl) ?_
    refine pg_gi (ci := 9) (C := RX9) (T := TX9) (N := 63) hx hb hts wi9 hown hK hW hk (by decide) rfl 19 (by decide) (hts (.fieldLink RX9 32 "IceHallModel" "store" "I") (by decide +kernel)) (fun _ h9 => h9) rfl dX9_melts_19 ?_
    refine lv_iload_n hx hb dX9_melts_22 rfl (lv_at hl 0 rfl) ?_
    refine lv_isub hx hb dX9_melts_23 ?_
    refine pg_pi (ci := 9) (C := RX9) (T := TX9) (N := 63) hx hb hts wi9 tyX9 tyX9_ok nmX9 hown hK hW hS hk (by decide) rfl 19 (by decide) (hts (.fieldLink RX9 32 "IceHallModel" "store" "I") (by decide +kernel)) (fun _ h9 => h9) rfl rfl rfl dX9_melts_24 (fun H locs hW hS => ?_)
    have w2 : sI (stI S h 19 ((sI S h 19) - (sI S h 19))) h 18 = 0 := (iI_k (by decide)).trans i_18
    have w3 : sI (stI S h 19 ((sI S h 19) - (sI S h 19))) h 35 = 0 := (iI_k (by decide)).trans i_35
    have w4 : sI (stI S h 19 ((sI S h 19) - (sI S h 19))) h 19 = (sI S h 19) - (sI S h 19) := iI_s
    have w5 : ∀ j, j < 2 → sI (stI S h 19 ((sI S h 19) - (sI S h 19))) m_hasCut j = 0 := fun j hj => (iI_a (fk_ne k_34 hk (by decide))).trans (a_m_hasCut j hj)
    refine lv_iload_n hx hb dX9_melts_27 rfl (lv_at hl 3 rfl) ?_
    refine lv_iload_n hx hb dX9_melts_28 rfl (lv_at hl 0 rfl) ?_
    refine lv_isub hx hb dX9_melts_29 ?_
    refine lv_istore (lv' := [(4, .int (b - (sI S h 19))), (3, .int (sI S h 19)), (0, .ref h), (1, .int a), (2, .int b)]) hx hb dX9_melts_30 hl (by decide) rfl (fun ls hl => ?_)
    refine lv_iload hx hb dX9_melts_32 (lv_at hl 0 rfl) ?_
    refine lv_aload_n hx hb dX9_melts_34 rfl (lv_at hl 2 rfl) ?_
    refine pg_gr (b := m_thick) (ci := 9) (C := RX9) (T := TX9) (N := 63) hx hb hts wi9 hown hK hW hk (by decide) rfl 27 (by decide) (hts (.fieldLink RX9 48 "IceHallModel" "thick" "[I") (by decide +kernel)) (fun _ h9 => h9) rfl r_27 dX9_melts_35 ?_
    refine lv_iload_n hx hb dX9_melts_38 rfl (lv_at hl 3 rfl) ?_
    refine pg_iald hx hb hK hW k_27 (by rw [show sL (stI S h 19 ((sI S h 19) - (sI S h 19))) m_thick = 2 from n_27]; exact r_in (by omega)) dX9_melts_39 ?_
    refine lv_icmp_ge (tgt := 48) hx hb dX9_melts_40 (by decide) (fun c6 => ?_) (fun c6 => ?_)
    · have c6i : Int32.toInt (sI (stI S h 19 ((sI S h 19) - (sI S h 19))) m_thick (Int32.toNatClampNeg a)) ≤ Int32.toInt (b - (sI S h 19)) := (i3_le _ _).mp c6
      refine lv_aload_n hx hb dX9_melts_48 rfl (lv_at hl 2 rfl) ?_
      refine pg_gr (b := m_thick) (ci := 9) (C := RX9) (T := TX9) (N := 63) hx hb hts wi9 hown hK hW hk (by decide) rfl 27 (by decide) (hts (.fieldLink RX9 48 "IceHallModel" "thick" "[I") (by decide +kernel)) (fun _ h9 => h9) rfl r_27 dX9_melts_49 ?_
      refine lv_iload_n hx hb dX9_melts_52 rfl (lv_at hl 3 rfl) ?_
      refine pg_iald hx hb hK hW k_27 (by rw [show sL (stI S h 19 ((sI S h 19) - (sI S h 19))) m_thick = 2 from n_27]; exact r_in (by omega)) dX9_melts_53 ?_
      refine lv_istore (lv' := [(5, .int (sI (stI S h 19 ((sI S h 19) - (sI S h 19))) m_thick (Int32.toNatClampNeg a))), (4, .int (b - (sI S h 19))), (3, .int (sI S h 19)), (0, .ref h), (1, .int a), (2, .int b)]) hx hb dX9_melts_54 hl (by decide) rfl (fun ls hl => ?_)
      refine lv_aload_n hx hb dX9_melts_56 rfl (lv_at hl 3 rfl) ?_
      refine pg_gr (b := m_thick) (ci := 9) (C := RX9) (T := TX9) (N := 63) hx hb hts wi9 hown hK hW hk (by decide) rfl 27 (by decide) (hts (.fieldLink RX9 48 "IceHallModel" "thick" "[I") (by decide +kernel)) (fun _ h9 => h9) rfl r_27 dX9_melts_57 ?_
      refine lv_iload_n hx hb dX9_melts_60 rfl (lv_at hl 4 rfl) ?_
      refine lv_aload_n hx hb dX9_melts_61 rfl (lv_at hl 3 rfl) ?_
      refine pg_gr (b := m_thick) (ci := 9) (C := RX9) (T := TX9) (N := 63) hx hb hts wi9 hown hK hW hk (by decide) rfl 27 (by decide) (hts (.fieldLink RX9 48 "IceHallModel" "thick" "[I") (by decide +kernel)) (fun _ h9 => h9) rfl r_27 dX9_melts_62 ?_
      refine lv_iload_n hx hb dX9_melts_65 rfl (lv_at hl 4 rfl) ?_
      refine pg_iald hx hb hK hW k_27 (by rw [show sL (stI S h 19 ((sI S h 19) - (sI S h 19))) m_thick = 2 from n_27]; exact r_in (by omega)) dX9_melts_66 ?_
      refine lv_iload hx hb dX9_melts_67 (lv_at hl 0 rfl) ?_
      refine lv_isub hx hb dX9_melts_69 ?_
      refine pg_iast hx hb hK hW hS k_27 (by rw [show sL (stI S h 19 ((sI S h 19) - (sI S h 19))) m_thick = 2 from n_27]; exact r_in (by omega)) dX9_melts_70 (fun H locs hW hS => ?_)
      have w7 : sI (stI (stI S h 19 ((sI S h 19) - (sI S h 19))) m_thick (Int32.toNatClampNeg a) ((sI (stI S h 19 ((sI S h 19) - (sI S h 19))) m_thick (Int32.toNatClampNeg a)) - (sI (stI S h 19 ((sI S h 19) - (sI S h 19))) m_thick (Int32.toNatClampNeg a)))) h 18 = 0 := (iI_a (fk_ne hk k_27 (by decide))).trans w2
      have w8 : sI (stI (stI S h 19 ((sI S h 19) - (sI S h 19))) m_thick (Int32.toNatClampNeg a) ((sI (stI S h 19 ((sI S h 19) - (sI S h 19))) m_thick (Int32.toNatClampNeg a)) - (sI (stI S h 19 ((sI S h 19) - (sI S h 19))) m_thick (Int32.toNatClampNeg a)))) h 35 = 0 := (iI_a (fk_ne hk k_27 (by decide))).trans w3
      have w9 : sI (stI (stI S h 19 ((sI S h 19) - (sI S h 19))) m_thick (Int32.toNatClampNeg a) ((sI (stI S h 19 ((sI S h 19) - (sI S h 19))) m_thick (Int32.toNatClampNeg a)) - (sI (stI S h 19 ((sI S h 19) - (sI S h 19))) m_thick (Int32.toNatClampNeg a)))) h 19 = (sI S h 19) - (sI S h 19) := (iI_a (fk_ne hk k_27 (by decide))).trans w4
      have w10 : ∀ j, j < 2 → sI (stI (stI S h 19 ((sI S h 19) - (sI S h 19))) m_thick (Int32.toNatClampNeg a) ((sI (stI S h 19 ((sI S h 19) - (sI S h 19))) m_thick (Int32.toNatClampNeg a)) - (sI (stI S h 19 ((sI S h 19) - (sI S h 19))) m_thick (Int32.toNatClampNeg a)))) m_hasCut j = 0 := fun j hj => (iI_a (fk_ne k_34 k_27 (by decide))).trans (w5 j hj)
      clear w2 w3 w4 w5
      refine lv_aload_n hx hb dX9_melts_71 rfl (lv_at hl 3 rfl) ?_
      refine pg_gr (b := m_melted) (ci := 9) (C := RX9) (T := TX9) (N := 63) hx hb hts wi9 hown hK hW hk (by decide) rfl 31 (by decide) (hts (.fieldLink RX9 60 "IceHallModel" "melted" "[I") (by decide +kernel)) (fun _ h9 => h9) rfl r_31 dX9_melts_72 ?_
      refine lv_iload_n hx hb dX9_melts_75 rfl (lv_at hl 4 rfl) ?_
      refine lv_aload_n hx hb dX9_melts_76 rfl (lv_at hl 3 rfl) ?_
      refine pg_gr (b := m_melted) (ci := 9) (C := RX9) (T := TX9) (N := 63) hx hb hts wi9 hown hK hW hk (by decide) rfl 31 (by decide) (hts (.fieldLink RX9 60 "IceHallModel" "melted" "[I") (by decide +kernel)) (fun _ h9 => h9) rfl r_31 dX9_melts_77 ?_
      refine lv_iload_n hx hb dX9_melts_80 rfl (lv_at hl 4 rfl) ?_
      refine pg_iald hx hb hK hW k_31 (by rw [show sL (stI (stI S h 19 ((sI S h 19) - (sI S h 19))) m_thick (Int32.toNatClampNeg a) ((sI (stI S h 19 ((sI S h 19) - (sI S h 19))) m_thick (Int32.toNatClampNeg a)) - (sI (stI S h 19 ((sI S h 19) - (sI S h 19))) m_thick (Int32.toNatClampNeg a)))) m_melted = 2 from n_31]; exact r_in (by omega)) dX9_melts_81 ?_
      refine lv_iload hx hb dX9_melts_82 (lv_at hl 0 rfl) ?_
      refine lv_iadd hx hb dX9_melts_84 ?_
      refine pg_iast hx hb hK hW hS k_31 (by rw [show sL (stI (stI S h 19 ((sI S h 19) - (sI S h 19))) m_thick (Int32.toNatClampNeg a) ((sI (stI S h 19 ((sI S h 19) - (sI S h 19))) m_thick (Int32.toNatClampNeg a)) - (sI (stI S h 19 ((sI S h 19) - (sI S h 19))) m_thick (Int32.toNatClampNeg a)))) m_melted = 2 from n_31]; exact r_in (by omega)) dX9_melts_85 (fun H locs hW hS => ?_)
      have w11 : sI (stI (stI (stI S h 19 ((sI S h 19) - (sI S h 19))) m_thick (Int32.toNatClampNeg a) ((sI (stI S h 19 ((sI S h 19) - (sI S h 19))) m_thick (Int32.toNatClampNeg a)) - (sI (stI S h 19 ((sI S h 19) - (sI S h 19))) m_thick (Int32.toNatClampNeg a)))) m_melted (Int32.toNatClampNeg a) ((sI (stI (stI S h 19 ((sI S h 19) - (sI S h 19))) m_thick (Int32.toNatClampNeg a) ((sI (stI S h 19 ((sI S h 19) - (sI S h 19))) m_thick (Int32.toNatClampNeg a)) - (sI (stI S h 19 ((sI S h 19) - (sI S h 19))) m_thick (Int32.toNatClampNeg a)))) m_melted (Int32.toNatClampNeg a)) + (sI (stI S h 19 ((sI S h 19) - (sI S h 19))) m_thick (Int32.toNatClampNeg a)))) h 18 = 0 := (iI_a (fk_ne hk k_31 (by decide))).trans w7
      have w12 : sI (stI (stI (stI S h 19 ((sI S h 19) - (sI S h 19))) m_thick (Int32.toNatClampNeg a) ((sI (stI S h 19 ((sI S h 19) - (sI S h 19))) m_thick (Int32.toNatClampNeg a)) - (sI (stI S h 19 ((sI S h 19) - (sI S h 19))) m_thick (Int32.toNatClampNeg a)))) m_melted (Int32.toNatClampNeg a) ((sI (stI (stI S h 19 ((sI S h 19) - (sI S h 19))) m_thick (Int32.toNatClampNeg a) ((sI (stI S h 19 ((sI S h 19) - (sI S h 19))) m_thick (Int32.toNatClampNeg a)) - (sI (stI S h 19 ((sI S h 19) - (sI S h 19))) m_thick (Int32.toNatClampNeg a)))) m_melted (Int32.toNatClampNeg a)) + (sI (stI S h 19 ((sI S h 19) - (sI S h 19))) m_thick (Int32.toNatClampNeg a)))) h 35 = 0 := (iI_a (fk_ne hk k_31 (by decide))).trans w8
      have w13 : sI (stI (stI (stI S h 19 ((sI S h 19) - (sI S h 19))) m_thick (Int32.toNatClampNeg a) ((sI (stI S h 19 ((sI S h 19) - (sI S h 19))) m_thick (Int32.toNatClampNeg a)) - (sI (stI S h 19 ((sI S h 19) - (sI S h 19))) m_thick (Int32.toNatClampNeg a)))) m_melted (Int32.toNatClampNeg a) ((sI (stI (stI S h 19 ((sI S h 19) - (sI S h 19))) m_thick (Int32.toNatClampNeg a) ((sI (stI S h 19 ((sI S h 19) - (sI S h 19))) m_thick (Int32.toNatClampNeg a)) - (sI (stI S h 19 ((sI S h 19) - (sI S h 19))) m_thick (Int32.toNatClampNeg a)))) m_melted (Int32.toNatClampNeg a)) + (sI (stI S h 19 ((sI S h 19) - (sI S h 19))) m_thick (Int32.toNatClampNeg a)))) h 19 = (sI S h 19) - (sI S h 19) := (iI_a (fk_ne hk k_31 (by decide))).trans w9
      have w14 : ∀ j, j < 2 → sI (stI (stI (stI S h 19 ((sI S h 19) - (sI S h 19))) m_thick (Int32.toNatClampNeg a) ((sI (stI S h 19 ((sI S h 19) - (sI S h 19))) m_thick (Int32.toNatClampNeg a)) - (sI (stI S h 19 ((sI S h 19) - (sI S h 19))) m_thick (Int32.toNatClampNeg a)))) m_melted (Int32.toNatClampNeg a) ((sI (stI (stI S h 19 ((sI S h 19) - (sI S h 19))) m_thick (Int32.toNatClampNeg a) ((sI (stI S h 19 ((sI S h 19) - (sI S h 19))) m_thick (Int32.toNatClampNeg a)) - (sI (stI S h 19 ((sI S h 19) - (sI S h 19))) m_thick (Int32.toNatClampNeg a)))) m_melted (Int32.toNatClampNeg a)) + (sI (stI S h 19 ((sI S h 19) - (sI S h 19))) m_thick (Int32.toNatClampNeg a)))) m_hasCut j = 0 := fun j hj => (iI_a (fk_ne k_34 k_31 (by decide))).trans (w10 j hj)
      clear w7 w8 w9 w10
      exact pc_vret (S := stI (stI (stI S h 19 ((sI S h 19) - (sI S h 19))) m_thick (Int32.toNatClampNeg a) ((sI (stI S h 19 ((sI S h 19) - (sI S h 19))) m_thick (Int32.toNatClampNeg a)) - (sI (stI S h 19 ((sI S h 19) - (sI S h 19))) m_thick (Int32.toNatClampNeg a)))) m_melted (Int32.toNatClampNeg a) ((sI (stI (stI S h 19 ((sI S h 19) - (sI S h 19))) m_thick (Int32.toNatClampNeg a) ((sI (stI S h 19 ((sI S h 19) - (sI S h 19))) m_thick (Int32.toNatClampNeg a)) - (sI (stI S h 19 ((sI S h 19) - (sI S h 19))) m_thick (Int32.toNatClampNeg a)))) m_melted (Int32.toNatClampNeg a)) + (sI (stI S h 19 ((sI S h 19) - (sI S h 19))) m_thick (Int32.toNatClampNeg a)))) hx hb hr hlk hK hZ hA hW hS (⟨⟨rfl, rfl, rfl⟩, w11, w12, w14, trivial⟩) dX9_melts_86
    · have c6i : ¬ (Int32.toInt (sI (stI S h 19 ((sI S h 19) - (sI S h 19))) m_thick (Int32.toNatClampNeg a)) ≤ Int32.toInt (b - (sI S h 19))) := fun h9 => c6 ((i3_le _ _).mpr h9)
      refine lv_iload hx hb dX9_melts_43 (lv_at hl 0 rfl) ?_
      refine lv_goto (tgt := 54) hx hb dX9_melts_45 (by decide) ?_
      refine lv_istore (lv' := [(5, .int (b - (sI S h 19))), (4, .int (b - (sI S h 19))), (3, .int (sI S h 19)), (0, .ref h), (1, .int a), (2, .int b)]) hx hb dX9_melts_54 hl (by decide) rfl (fun ls hl => ?_)
      refine lv_aload_n hx hb dX9_melts_56 rfl (lv_at hl 3 rfl) ?_
      refine pg_gr (b := m_thick) (ci := 9) (C := RX9) (T := TX9) (N := 63) hx hb hts wi9 hown hK hW hk (by decide) rfl 27 (by decide) (hts (.fieldLink RX9 48 "IceHallModel" "thick" "[I") (by decide +kernel)) (fun _ h9 => h9) rfl r_27 dX9_melts_57 ?_
      refine lv_iload_n hx hb dX9_melts_60 rfl (lv_at hl 4 rfl) ?_
      refine lv_aload_n hx hb dX9_melts_61 rfl (lv_at hl 3 rfl) ?_
      refine pg_gr (b := m_thick) (ci := 9) (C := RX9) (T := TX9) (N := 63) hx hb hts wi9 hown hK hW hk (by decide) rfl 27 (by decide) (hts (.fieldLink RX9 48 "IceHallModel" "thick" "[I") (by decide +kernel)) (fun _ h9 => h9) rfl r_27 dX9_melts_62 ?_
      refine lv_iload_n hx hb dX9_melts_65 rfl (lv_at hl 4 rfl) ?_
      refine pg_iald hx hb hK hW k_27 (by rw [show sL (stI S h 19 ((sI S h 19) - (sI S h 19))) m_thick = 2 from n_27]; exact r_in (by omega)) dX9_melts_66 ?_
      refine lv_iload hx hb dX9_melts_67 (lv_at hl 0 rfl) ?_
      refine lv_isub hx hb dX9_melts_69 ?_
      refine pg_iast hx hb hK hW hS k_27 (by rw [show sL (stI S h 19 ((sI S h 19) - (sI S h 19))) m_thick = 2 from n_27]; exact r_in (by omega)) dX9_melts_70 (fun H locs hW hS => ?_)
      have w15 : sI (stI (stI S h 19 ((sI S h 19) - (sI S h 19))) m_thick (Int32.toNatClampNeg a) ((sI (stI S h 19 ((sI S h 19) - (sI S h 19))) m_thick (Int32.toNatClampNeg a)) - (b - (sI S h 19)))) h 18 = 0 := (iI_a (fk_ne hk k_27 (by decide))).trans w2
      have w16 : sI (stI (stI S h 19 ((sI S h 19) - (sI S h 19))) m_thick (Int32.toNatClampNeg a) ((sI (stI S h 19 ((sI S h 19) - (sI S h 19))) m_thick (Int32.toNatClampNeg a)) - (b - (sI S h 19)))) h 35 = 0 := (iI_a (fk_ne hk k_27 (by decide))).trans w3
      have w17 : sI (stI (stI S h 19 ((sI S h 19) - (sI S h 19))) m_thick (Int32.toNatClampNeg a) ((sI (stI S h 19 ((sI S h 19) - (sI S h 19))) m_thick (Int32.toNatClampNeg a)) - (b - (sI S h 19)))) h 19 = (sI S h 19) - (sI S h 19) := (iI_a (fk_ne hk k_27 (by decide))).trans w4
      have w18 : ∀ j, j < 2 → sI (stI (stI S h 19 ((sI S h 19) - (sI S h 19))) m_thick (Int32.toNatClampNeg a) ((sI (stI S h 19 ((sI S h 19) - (sI S h 19))) m_thick (Int32.toNatClampNeg a)) - (b - (sI S h 19)))) m_hasCut j = 0 := fun j hj => (iI_a (fk_ne k_34 k_27 (by decide))).trans (w5 j hj)
      clear w2 w3 w4 w5
      refine lv_aload_n hx hb dX9_melts_71 rfl (lv_at hl 3 rfl) ?_
      refine pg_gr (b := m_melted) (ci := 9) (C := RX9) (T := TX9) (N := 63) hx hb hts wi9 hown hK hW hk (by decide) rfl 31 (by decide) (hts (.fieldLink RX9 60 "IceHallModel" "melted" "[I") (by decide +kernel)) (fun _ h9 => h9) rfl r_31 dX9_melts_72 ?_
      refine lv_iload_n hx hb dX9_melts_75 rfl (lv_at hl 4 rfl) ?_
      refine lv_aload_n hx hb dX9_melts_76 rfl (lv_at hl 3 rfl) ?_
      refine pg_gr (b := m_melted) (ci := 9) (C := RX9) (T := TX9) (N := 63) hx hb hts wi9 hown hK hW hk (by decide) rfl 31 (by decide) (hts (.fieldLink RX9 60 "IceHallModel" "melted" "[I") (by decide +kernel)) (fun _ h9 => h9) rfl r_31 dX9_melts_77 ?_
      refine lv_iload_n hx hb dX9_melts_80 rfl (lv_at hl 4 rfl) ?_
      refine pg_iald hx hb hK hW k_31 (by rw [show sL (stI (stI S h 19 ((sI S h 19) - (sI S h 19))) m_thick (Int32.toNatClampNeg a) ((sI (stI S h 19 ((sI S h 19) - (sI S h 19))) m_thick (Int32.toNatClampNeg a)) - (b - (sI S h 19)))) m_melted = 2 from n_31]; exact r_in (by omega)) dX9_melts_81 ?_
      refine lv_iload hx hb dX9_melts_82 (lv_at hl 0 rfl) ?_
      refine lv_iadd hx hb dX9_melts_84 ?_
      refine pg_iast hx hb hK hW hS k_31 (by rw [show sL (stI (stI S h 19 ((sI S h 19) - (sI S h 19))) m_thick (Int32.toNatClampNeg a) ((sI (stI S h 19 ((sI S h 19) - (sI S h 19))) m_thick (Int32.toNatClampNeg a)) - (b - (sI S h 19)))) m_melted = 2 from n_31]; exact r_in (by omega)) dX9_melts_85 (fun H locs hW hS => ?_)
      have w19 : sI (stI (stI (stI S h 19 ((sI S h 19) - (sI S h 19))) m_thick (Int32.toNatClampNeg a) ((sI (stI S h 19 ((sI S h 19) - (sI S h 19))) m_thick (Int32.toNatClampNeg a)) - (b - (sI S h 19)))) m_melted (Int32.toNatClampNeg a) ((sI (stI (stI S h 19 ((sI S h 19) - (sI S h 19))) m_thick (Int32.toNatClampNeg a) ((sI (stI S h 19 ((sI S h 19) - (sI S h 19))) m_thick (Int32.toNatClampNeg a)) - (b - (sI S h 19)))) m_melted (Int32.toNatClampNeg a)) + (b - (sI S h 19)))) h 18 = 0 := (iI_a (fk_ne hk k_31 (by decide))).trans w15
      have w20 : sI (stI (stI (stI S h 19 ((sI S h 19) - (sI S h 19))) m_thick (Int32.toNatClampNeg a) ((sI (stI S h 19 ((sI S h 19) - (sI S h 19))) m_thick (Int32.toNatClampNeg a)) - (b - (sI S h 19)))) m_melted (Int32.toNatClampNeg a) ((sI (stI (stI S h 19 ((sI S h 19) - (sI S h 19))) m_thick (Int32.toNatClampNeg a) ((sI (stI S h 19 ((sI S h 19) - (sI S h 19))) m_thick (Int32.toNatClampNeg a)) - (b - (sI S h 19)))) m_melted (Int32.toNatClampNeg a)) + (b - (sI S h 19)))) h 35 = 0 := (iI_a (fk_ne hk k_31 (by decide))).trans w16
      have w21 : sI (stI (stI (stI S h 19 ((sI S h 19) - (sI S h 19))) m_thick (Int32.toNatClampNeg a) ((sI (stI S h 19 ((sI S h 19) - (sI S h 19))) m_thick (Int32.toNatClampNeg a)) - (b - (sI S h 19)))) m_melted (Int32.toNatClampNeg a) ((sI (stI (stI S h 19 ((sI S h 19) - (sI S h 19))) m_thick (Int32.toNatClampNeg a) ((sI (stI S h 19 ((sI S h 19) - (sI S h 19))) m_thick (Int32.toNatClampNeg a)) - (b - (sI S h 19)))) m_melted (Int32.toNatClampNeg a)) + (b - (sI S h 19)))) h 19 = (sI S h 19) - (sI S h 19) := (iI_a (fk_ne hk k_31 (by decide))).trans w17
      have w22 : ∀ j, j < 2 → sI (stI (stI (stI S h 19 ((sI S h 19) - (sI S h 19))) m_thick (Int32.toNatClampNeg a) ((sI (stI S h 19 ((sI S h 19) - (sI S h 19))) m_thick (Int32.toNatClampNeg a)) - (b - (sI S h 19)))) m_melted (Int32.toNatClampNeg a) ((sI (stI (stI S h 19 ((sI S h 19) - (sI S h 19))) m_thick (Int32.toNatClampNeg a) ((sI (stI S h 19 ((sI S h 19) - (sI S h 19))) m_thick (Int32.toNatClampNeg a)) - (b - (sI S h 19)))) m_melted (Int32.toNatClampNeg a)) + (b - (sI S h 19)))) m_hasCut j = 0 := fun j hj => (iI_a (fk_ne k_34 k_31 (by decide))).trans (w18 j hj)
      clear w15 w16 w17 w18
      exact pc_vret (S := stI (stI (stI S h 19 ((sI S h 19) - (sI S h 19))) m_thick (Int32.toNatClampNeg a) ((sI (stI S h 19 ((sI S h 19) - (sI S h 19))) m_thick (Int32.toNatClampNeg a)) - (b - (sI S h 19)))) m_melted (Int32.toNatClampNeg a) ((sI (stI (stI S h 19 ((sI S h 19) - (sI S h 19))) m_thick (Int32.toNatClampNeg a) ((sI (stI S h 19 ((sI S h 19) - (sI S h 19))) m_thick (Int32.toNatClampNeg a)) - (b - (sI S h 19)))) m_melted (Int32.toNatClampNeg a)) + (b - (sI S h 19)))) hx hb hr hlk hK hZ hA hW hS (⟨⟨rfl, rfl, rfl⟩, w19, w20, w22, trivial⟩) dX9_melts_86
  · have c1i : ¬ (Int32.toInt (sI S h 19) ≤ Int32.toInt b) := fun h9 => c1 ((i3_le _ _).mpr h9)
    refine lv_iload_n hx hb dX9_melts_8 rfl (lv_at hl 2 rfl) ?_
    refine lv_goto (tgt := 16) hx hb dX9_melts_9 (by decide) ?_
    refine lv_istore_n (lv' := [(3, .int b), (0, .ref h), (1, .int a), (2, .int b)]) hx hb dX9_melts_16 rfl hl (by decide) rfl (fun ls hl => ?_)
    refine lv_aload_n hx hb dX9_melts_17 rfl (lv_at hl 1 rfl) ?_
    refine lv_aload_n hx hb dX9_melts_18 rfl (lv_at hl 1 rfl) ?_
    refine pg_gi (ci := 9) (C := RX9) (T := TX9) (N := 63) hx hb hts wi9 hown hK hW hk (by decide) rfl 19 (by decide) (hts (.fieldLink RX9 32 "IceHallModel" "store" "I") (by decide +kernel)) (fun _ h9 => h9) rfl dX9_melts_19 ?_
    refine lv_iload_n hx hb dX9_melts_22 rfl (lv_at hl 0 rfl) ?_
    refine lv_isub hx hb dX9_melts_23 ?_
    refine pg_pi (ci := 9) (C := RX9) (T := TX9) (N := 63) hx hb hts wi9 tyX9 tyX9_ok nmX9 hown hK hW hS hk (by decide) rfl 19 (by decide) (hts (.fieldLink RX9 32 "IceHallModel" "store" "I") (by decide +kernel)) (fun _ h9 => h9) rfl rfl rfl dX9_melts_24 (fun H locs hW hS => ?_)
    have w23 : sI (stI S h 19 ((sI S h 19) - b)) h 18 = 0 := (iI_k (by decide)).trans i_18
    have w24 : sI (stI S h 19 ((sI S h 19) - b)) h 35 = 0 := (iI_k (by decide)).trans i_35
    have w25 : sI (stI S h 19 ((sI S h 19) - b)) h 19 = (sI S h 19) - b := iI_s
    have w26 : ∀ j, j < 2 → sI (stI S h 19 ((sI S h 19) - b)) m_hasCut j = 0 := fun j hj => (iI_a (fk_ne k_34 hk (by decide))).trans (a_m_hasCut j hj)
    refine lv_iload_n hx hb dX9_melts_27 rfl (lv_at hl 3 rfl) ?_
    refine lv_iload_n hx hb dX9_melts_28 rfl (lv_at hl 0 rfl) ?_
    refine lv_isub hx hb dX9_melts_29 ?_
    refine lv_istore (lv' := [(4, .int (b - b)), (3, .int b), (0, .ref h), (1, .int a), (2, .int b)]) hx hb dX9_melts_30 hl (by decide) rfl (fun ls hl => ?_)
    refine lv_iload hx hb dX9_melts_32 (lv_at hl 0 rfl) ?_
    refine lv_aload_n hx hb dX9_melts_34 rfl (lv_at hl 2 rfl) ?_
    refine pg_gr (b := m_thick) (ci := 9) (C := RX9) (T := TX9) (N := 63) hx hb hts wi9 hown hK hW hk (by decide) rfl 27 (by decide) (hts (.fieldLink RX9 48 "IceHallModel" "thick" "[I") (by decide +kernel)) (fun _ h9 => h9) rfl r_27 dX9_melts_35 ?_
    refine lv_iload_n hx hb dX9_melts_38 rfl (lv_at hl 3 rfl) ?_
    refine pg_iald hx hb hK hW k_27 (by rw [show sL (stI S h 19 ((sI S h 19) - b)) m_thick = 2 from n_27]; exact r_in (by omega)) dX9_melts_39 ?_
    refine lv_icmp_ge (tgt := 48) hx hb dX9_melts_40 (by decide) (fun c27 => ?_) (fun c27 => ?_)
    · have c27i : Int32.toInt (sI (stI S h 19 ((sI S h 19) - b)) m_thick (Int32.toNatClampNeg a)) ≤ Int32.toInt (b - b) := (i3_le _ _).mp c27
      refine lv_aload_n hx hb dX9_melts_48 rfl (lv_at hl 2 rfl) ?_
      refine pg_gr (b := m_thick) (ci := 9) (C := RX9) (T := TX9) (N := 63) hx hb hts wi9 hown hK hW hk (by decide) rfl 27 (by decide) (hts (.fieldLink RX9 48 "IceHallModel" "thick" "[I") (by decide +kernel)) (fun _ h9 => h9) rfl r_27 dX9_melts_49 ?_
      refine lv_iload_n hx hb dX9_melts_52 rfl (lv_at hl 3 rfl) ?_
      refine pg_iald hx hb hK hW k_27 (by rw [show sL (stI S h 19 ((sI S h 19) - b)) m_thick = 2 from n_27]; exact r_in (by omega)) dX9_melts_53 ?_
      refine lv_istore (lv' := [(5, .int (sI (stI S h 19 ((sI S h 19) - b)) m_thick (Int32.toNatClampNeg a))), (4, .int (b - b)), (3, .int b), (0, .ref h), (1, .int a), (2, .int b)]) hx hb dX9_melts_54 hl (by decide) rfl (fun ls hl => ?_)
      refine lv_aload_n hx hb dX9_melts_56 rfl (lv_at hl 3 rfl) ?_
      refine pg_gr (b := m_thick) (ci := 9) (C := RX9) (T := TX9) (N := 63) hx hb hts wi9 hown hK hW hk (by decide) rfl 27 (by decide) (hts (.fieldLink RX9 48 "IceHallModel" "thick" "[I") (by decide +kernel)) (fun _ h9 => h9) rfl r_27 dX9_melts_57 ?_
      refine lv_iload_n hx hb dX9_melts_60 rfl (lv_at hl 4 rfl) ?_
      refine lv_aload_n hx hb dX9_melts_61 rfl (lv_at hl 3 rfl) ?_
      refine pg_gr (b := m_thick) (ci := 9) (C := RX9) (T := TX9) (N := 63) hx hb hts wi9 hown hK hW hk (by decide) rfl 27 (by decide) (hts (.fieldLink RX9 48 "IceHallModel" "thick" "[I") (by decide +kernel)) (fun _ h9 => h9) rfl r_27 dX9_melts_62 ?_
      refine lv_iload_n hx hb dX9_melts_65 rfl (lv_at hl 4 rfl) ?_
      refine pg_iald hx hb hK hW k_27 (by rw [show sL (stI S h 19 ((sI S h 19) - b)) m_thick = 2 from n_27]; exact r_in (by omega)) dX9_melts_66 ?_
      refine lv_iload hx hb dX9_melts_67 (lv_at hl 0 rfl) ?_
      refine lv_isub hx hb dX9_melts_69 ?_
      refine pg_iast hx hb hK hW hS k_27 (by rw [show sL (stI S h 19 ((sI S h 19) - b)) m_thick = 2 from n_27]; exact r_in (by omega)) dX9_melts_70 (fun H locs hW hS => ?_)
      have w28 : sI (stI (stI S h 19 ((sI S h 19) - b)) m_thick (Int32.toNatClampNeg a) ((sI (stI S h 19 ((sI S h 19) - b)) m_thick (Int32.toNatClampNeg a)) - (sI (stI S h 19 ((sI S h 19) - b)) m_thick (Int32.toNatClampNeg a)))) h 18 = 0 := (iI_a (fk_ne hk k_27 (by decide))).trans w23
      have w29 : sI (stI (stI S h 19 ((sI S h 19) - b)) m_thick (Int32.toNatClampNeg a) ((sI (stI S h 19 ((sI S h 19) - b)) m_thick (Int32.toNatClampNeg a)) - (sI (stI S h 19 ((sI S h 19) - b)) m_thick (Int32.toNatClampNeg a)))) h 35 = 0 := (iI_a (fk_ne hk k_27 (by decide))).trans w24
      have w30 : sI (stI (stI S h 19 ((sI S h 19) - b)) m_thick (Int32.toNatClampNeg a) ((sI (stI S h 19 ((sI S h 19) - b)) m_thick (Int32.toNatClampNeg a)) - (sI (stI S h 19 ((sI S h 19) - b)) m_thick (Int32.toNatClampNeg a)))) h 19 = (sI S h 19) - b := (iI_a (fk_ne hk k_27 (by decide))).trans w25
      have w31 : ∀ j, j < 2 → sI (stI (stI S h 19 ((sI S h 19) - b)) m_thick (Int32.toNatClampNeg a) ((sI (stI S h 19 ((sI S h 19) - b)) m_thick (Int32.toNatClampNeg a)) - (sI (stI S h 19 ((sI S h 19) - b)) m_thick (Int32.toNatClampNeg a)))) m_hasCut j = 0 := fun j hj => (iI_a (fk_ne k_34 k_27 (by decide))).trans (w26 j hj)
      clear w23 w24 w25 w26
      refine lv_aload_n hx hb dX9_melts_71 rfl (lv_at hl 3 rfl) ?_
      refine pg_gr (b := m_melted) (ci := 9) (C := RX9) (T := TX9) (N := 63) hx hb hts wi9 hown hK hW hk (by decide) rfl 31 (by decide) (hts (.fieldLink RX9 60 "IceHallModel" "melted" "[I") (by decide +kernel)) (fun _ h9 => h9) rfl r_31 dX9_melts_72 ?_
      refine lv_iload_n hx hb dX9_melts_75 rfl (lv_at hl 4 rfl) ?_
      refine lv_aload_n hx hb dX9_melts_76 rfl (lv_at hl 3 rfl) ?_
      refine pg_gr (b := m_melted) (ci := 9) (C := RX9) (T := TX9) (N := 63) hx hb hts wi9 hown hK hW hk (by decide) rfl 31 (by decide) (hts (.fieldLink RX9 60 "IceHallModel" "melted" "[I") (by decide +kernel)) (fun _ h9 => h9) rfl r_31 dX9_melts_77 ?_
      refine lv_iload_n hx hb dX9_melts_80 rfl (lv_at hl 4 rfl) ?_
      refine pg_iald hx hb hK hW k_31 (by rw [show sL (stI (stI S h 19 ((sI S h 19) - b)) m_thick (Int32.toNatClampNeg a) ((sI (stI S h 19 ((sI S h 19) - b)) m_thick (Int32.toNatClampNeg a)) - (sI (stI S h 19 ((sI S h 19) - b)) m_thick (Int32.toNatClampNeg a)))) m_melted = 2 from n_31]; exact r_in (by omega)) dX9_melts_81 ?_
      refine lv_iload hx hb dX9_melts_82 (lv_at hl 0 rfl) ?_
      refine lv_iadd hx hb dX9_melts_84 ?_
      refine pg_iast hx hb hK hW hS k_31 (by rw [show sL (stI (stI S h 19 ((sI S h 19) - b)) m_thick (Int32.toNatClampNeg a) ((sI (stI S h 19 ((sI S h 19) - b)) m_thick (Int32.toNatClampNeg a)) - (sI (stI S h 19 ((sI S h 19) - b)) m_thick (Int32.toNatClampNeg a)))) m_melted = 2 from n_31]; exact r_in (by omega)) dX9_melts_85 (fun H locs hW hS => ?_)
      have w32 : sI (stI (stI (stI S h 19 ((sI S h 19) - b)) m_thick (Int32.toNatClampNeg a) ((sI (stI S h 19 ((sI S h 19) - b)) m_thick (Int32.toNatClampNeg a)) - (sI (stI S h 19 ((sI S h 19) - b)) m_thick (Int32.toNatClampNeg a)))) m_melted (Int32.toNatClampNeg a) ((sI (stI (stI S h 19 ((sI S h 19) - b)) m_thick (Int32.toNatClampNeg a) ((sI (stI S h 19 ((sI S h 19) - b)) m_thick (Int32.toNatClampNeg a)) - (sI (stI S h 19 ((sI S h 19) - b)) m_thick (Int32.toNatClampNeg a)))) m_melted (Int32.toNatClampNeg a)) + (sI (stI S h 19 ((sI S h 19) - b)) m_thick (Int32.toNatClampNeg a)))) h 18 = 0 := (iI_a (fk_ne hk k_31 (by decide))).trans w28
      have w33 : sI (stI (stI (stI S h 19 ((sI S h 19) - b)) m_thick (Int32.toNatClampNeg a) ((sI (stI S h 19 ((sI S h 19) - b)) m_thick (Int32.toNatClampNeg a)) - (sI (stI S h 19 ((sI S h 19) - b)) m_thick (Int32.toNatClampNeg a)))) m_melted (Int32.toNatClampNeg a) ((sI (stI (stI S h 19 ((sI S h 19) - b)) m_thick (Int32.toNatClampNeg a) ((sI (stI S h 19 ((sI S h 19) - b)) m_thick (Int32.toNatClampNeg a)) - (sI (stI S h 19 ((sI S h 19) - b)) m_thick (Int32.toNatClampNeg a)))) m_melted (Int32.toNatClampNeg a)) + (sI (stI S h 19 ((sI S h 19) - b)) m_thick (Int32.toNatClampNeg a)))) h 35 = 0 := (iI_a (fk_ne hk k_31 (by decide))).trans w29
      have w34 : sI (stI (stI (stI S h 19 ((sI S h 19) - b)) m_thick (Int32.toNatClampNeg a) ((sI (stI S h 19 ((sI S h 19) - b)) m_thick (Int32.toNatClampNeg a)) - (sI (stI S h 19 ((sI S h 19) - b)) m_thick (Int32.toNatClampNeg a)))) m_melted (Int32.toNatClampNeg a) ((sI (stI (stI S h 19 ((sI S h 19) - b)) m_thick (Int32.toNatClampNeg a) ((sI (stI S h 19 ((sI S h 19) - b)) m_thick (Int32.toNatClampNeg a)) - (sI (stI S h 19 ((sI S h 19) - b)) m_thick (Int32.toNatClampNeg a)))) m_melted (Int32.toNatClampNeg a)) + (sI (stI S h 19 ((sI S h 19) - b)) m_thick (Int32.toNatClampNeg a)))) h 19 = (sI S h 19) - b := (iI_a (fk_ne hk k_31 (by decide))).trans w30
      have w35 : ∀ j, j < 2 → sI (stI (stI (stI S h 19 ((sI S h 19) - b)) m_thick (Int32.toNatClampNeg a) ((sI (stI S h 19 ((sI S h 19) - b)) m_thick (Int32.toNatClampNeg a)) - (sI (stI S h 19 ((sI S h 19) - b)) m_thick (Int32.toNatClampNeg a)))) m_melted (Int32.toNatClampNeg a) ((sI (stI (stI S h 19 ((sI S h 19) - b)) m_thick (Int32.toNatClampNeg a) ((sI (stI S h 19 ((sI S h 19) - b)) m_thick (Int32.toNatClampNeg a)) - (sI (stI S h 19 ((sI S h 19) - b)) m_thick (Int32.toNatClampNeg a)))) m_melted (Int32.toNatClampNeg a)) + (sI (stI S h 19 ((sI S h 19) - b)) m_thick (Int32.toNatClampNeg a)))) m_hasCut j = 0 := fun j hj => (iI_a (fk_ne k_34 k_31 (by decide))).trans (w31 j hj)
      clear w28 w29 w30 w31
      exact pc_vret (S := stI (stI (stI S h 19 ((sI S h 19) - b)) m_thick (Int32.toNatClampNeg a) ((sI (stI S h 19 ((sI S h 19) - b)) m_thick (Int32.toNatClampNeg a)) - (sI (stI S h 19 ((sI S h 19) - b)) m_thick (Int32.toNatClampNeg a)))) m_melted (Int32.toNatClampNeg a) ((sI (stI (stI S h 19 ((sI S h 19) - b)) m_thick (Int32.toNatClampNeg a) ((sI (stI S h 19 ((sI S h 19) - b)) m_thick (Int32.toNatClampNeg a)) - (sI (stI S h 19 ((sI S h 19) - b)) m_thick (Int32.toNatClampNeg a)))) m_melted (Int32.toNatClampNeg a)) + (sI (stI S h 19 ((sI S h 19) - b)) m_thick (Int32.toNatClampNeg a)))) hx hb hr hlk hK hZ hA hW hS (⟨⟨rfl, rfl, rfl⟩, w32, w33, w35, trivial⟩) dX9_melts_86
    · have c27i : ¬ (Int32.toInt (sI (stI S h 19 ((sI S h 19) - b)) m_thick (Int32.toNatClampNeg a)) ≤ Int32.toInt (b - b)) := fun h9 => c27 ((i3_le _ _).mpr h9)
      refine lv_iload hx hb dX9_melts_43 (lv_at hl 0 rfl) ?_
      refine lv_goto (tgt := 54) hx hb dX9_melts_45 (by decide) ?_
      refine lv_istore (lv' := [(5, .int (b - b)), (4, .int (b - b)), (3, .int b), (0, .ref h), (1, .int a), (2, .int b)]) hx hb dX9_melts_54 hl (by decide) rfl (fun ls hl => ?_)
      refine lv_aload_n hx hb dX9_melts_56 rfl (lv_at hl 3 rfl) ?_
      refine pg_gr (b := m_thick) (ci := 9) (C := RX9) (T := TX9) (N := 63) hx hb hts wi9 hown hK hW hk (by decide) rfl 27 (by decide) (hts (.fieldLink RX9 48 "IceHallModel" "thick" "[I") (by decide +kernel)) (fun _ h9 => h9) rfl r_27 dX9_melts_57 ?_
      refine lv_iload_n hx hb dX9_melts_60 rfl (lv_at hl 4 rfl) ?_
      refine lv_aload_n hx hb dX9_melts_61 rfl (lv_at hl 3 rfl) ?_
      refine pg_gr (b := m_thick) (ci := 9) (C := RX9) (T := TX9) (N := 63) hx hb hts wi9 hown hK hW hk (by decide) rfl 27 (by decide) (hts (.fieldLink RX9 48 "IceHallModel" "thick" "[I") (by decide +kernel)) (fun _ h9 => h9) rfl r_27 dX9_melts_62 ?_
      refine lv_iload_n hx hb dX9_melts_65 rfl (lv_at hl 4 rfl) ?_
      refine pg_iald hx hb hK hW k_27 (by rw [show sL (stI S h 19 ((sI S h 19) - b)) m_thick = 2 from n_27]; exact r_in (by omega)) dX9_melts_66 ?_
      refine lv_iload hx hb dX9_melts_67 (lv_at hl 0 rfl) ?_
      refine lv_isub hx hb dX9_melts_69 ?_
      refine pg_iast hx hb hK hW hS k_27 (by rw [show sL (stI S h 19 ((sI S h 19) - b)) m_thick = 2 from n_27]; exact r_in (by omega)) dX9_melts_70 (fun H locs hW hS => ?_)
      have w36 : sI (stI (stI S h 19 ((sI S h 19) - b)) m_thick (Int32.toNatClampNeg a) ((sI (stI S h 19 ((sI S h 19) - b)) m_thick (Int32.toNatClampNeg a)) - (b - b))) h 18 = 0 := (iI_a (fk_ne hk k_27 (by decide))).trans w23
      have w37 : sI (stI (stI S h 19 ((sI S h 19) - b)) m_thick (Int32.toNatClampNeg a) ((sI (stI S h 19 ((sI S h 19) - b)) m_thick (Int32.toNatClampNeg a)) - (b - b))) h 35 = 0 := (iI_a (fk_ne hk k_27 (by decide))).trans w24
      have w38 : sI (stI (stI S h 19 ((sI S h 19) - b)) m_thick (Int32.toNatClampNeg a) ((sI (stI S h 19 ((sI S h 19) - b)) m_thick (Int32.toNatClampNeg a)) - (b - b))) h 19 = (sI S h 19) - b := (iI_a (fk_ne hk k_27 (by decide))).trans w25
      have w39 : ∀ j, j < 2 → sI (stI (stI S h 19 ((sI S h 19) - b)) m_thick (Int32.toNatClampNeg a) ((sI (stI S h 19 ((sI S h 19) - b)) m_thick (Int32.toNatClampNeg a)) - (b - b))) m_hasCut j = 0 := fun j hj => (iI_a (fk_ne k_34 k_27 (by decide))).trans (w26 j hj)
      clear w23 w24 w25 w26
      refine lv_aload_n hx hb dX9_melts_71 rfl (lv_at hl 3 rfl) ?_
      refine pg_gr (b := m_melted) (ci := 9) (C := RX9) (T := TX9) (N := 63) hx hb hts wi9 hown hK hW hk (by decide) rfl 31 (by decide) (hts (.fieldLink RX9 60 "IceHallModel" "melted" "[I") (by decide +kernel)) (fun _ h9 => h9) rfl r_31 dX9_melts_72 ?_
      refine lv_iload_n hx hb dX9_melts_75 rfl (lv_at hl 4 rfl) ?_
      refine lv_aload_n hx hb dX9_melts_76 rfl (lv_at hl 3 rfl) ?_
      refine pg_gr (b := m_melted) (ci := 9) (C := RX9) (T := TX9) (N := 63) hx hb hts wi9 hown hK hW hk (by decide) rfl 31 (by decide) (hts (.fieldLink RX9 60 "IceHallModel" "melted" "[I") (by decide +kernel)) (fun _ h9 => h9) rfl r_31 dX9_melts_77 ?_
      refine lv_iload_n hx hb dX9_melts_80 rfl (lv_at hl 4 rfl) ?_
      refine pg_iald hx hb hK hW k_31 (by rw [show sL (stI (stI S h 19 ((sI S h 19) - b)) m_thick (Int32.toNatClampNeg a) ((sI (stI S h 19 ((sI S h 19) - b)) m_thick (Int32.toNatClampNeg a)) - (b - b))) m_melted = 2 from n_31]; exact r_in (by omega)) dX9_melts_81 ?_
      refine lv_iload hx hb dX9_melts_82 (lv_at hl 0 rfl) ?_
      refine lv_iadd hx hb dX9_melts_84 ?_
      refine pg_iast hx hb hK hW hS k_31 (by rw [show sL (stI (stI S h 19 ((sI S h 19) - b)) m_thick (Int32.toNatClampNeg a) ((sI (stI S h 19 ((sI S h 19) - b)) m_thick (Int32.toNatClampNeg a)) - (b - b))) m_melted = 2 from n_31]; exact r_in (by omega)) dX9_melts_85 (fun H locs hW hS => ?_)
      have w40 : sI (stI (stI (stI S h 19 ((sI S h 19) - b)) m_thick (Int32.toNatClampNeg a) ((sI (stI S h 19 ((sI S h 19) - b)) m_thick (Int32.toNatClampNeg a)) - (b - b))) m_melted (Int32.toNatClampNeg a) ((sI (stI (stI S h 19 ((sI S h 19) - b)) m_thick (Int32.toNatClampNeg a) ((sI (stI S h 19 ((sI S h 19) - b)) m_thick (Int32.toNatClampNeg a)) - (b - b))) m_melted (Int32.toNatClampNeg a)) + (b - b))) h 18 = 0 := (iI_a (fk_ne hk k_31 (by decide))).trans w36
      have w41 : sI (stI (stI (stI S h 19 ((sI S h 19) - b)) m_thick (Int32.toNatClampNeg a) ((sI (stI S h 19 ((sI S h 19) - b)) m_thick (Int32.toNatClampNeg a)) - (b - b))) m_melted (Int32.toNatClampNeg a) ((sI (stI (stI S h 19 ((sI S h 19) - b)) m_thick (Int32.toNatClampNeg a) ((sI (stI S h 19 ((sI S h 19) - b)) m_thick (Int32.toNatClampNeg a)) - (b - b))) m_melted (Int32.toNatClampNeg a)) + (b - b))) h 35 = 0 := (iI_a (fk_ne hk k_31 (by decide))).trans w37
      have w42 : sI (stI (stI (stI S h 19 ((sI S h 19) - b)) m_thick (Int32.toNatClampNeg a) ((sI (stI S h 19 ((sI S h 19) - b)) m_thick (Int32.toNatClampNeg a)) - (b - b))) m_melted (Int32.toNatClampNeg a) ((sI (stI (stI S h 19 ((sI S h 19) - b)) m_thick (Int32.toNatClampNeg a) ((sI (stI S h 19 ((sI S h 19) - b)) m_thick (Int32.toNatClampNeg a)) - (b - b))) m_melted (Int32.toNatClampNeg a)) + (b - b))) h 19 = (sI S h 19) - b := (iI_a (fk_ne hk k_31 (by decide))).trans w38
      have w43 : ∀ j, j < 2 → sI (stI (stI (stI S h 19 ((sI S h 19) - b)) m_thick (Int32.toNatClampNeg a) ((sI (stI S h 19 ((sI S h 19) - b)) m_thick (Int32.toNatClampNeg a)) - (b - b))) m_melted (Int32.toNatClampNeg a) ((sI (stI (stI S h 19 ((sI S h 19) - b)) m_thick (Int32.toNatClampNeg a) ((sI (stI S h 19 ((sI S h 19) - b)) m_thick (Int32.toNatClampNeg a)) - (b - b))) m_melted (Int32.toNatClampNeg a)) + (b - b))) m_hasCut j = 0 := fun j hj => (iI_a (fk_ne k_34 k_31 (by decide))).trans (w39 j hj)
      clear w36 w37 w38 w39
      exact pc_vret (S := stI (stI (stI S h 19 ((sI S h 19) - b)) m_thick (Int32.toNatClampNeg a) ((sI (stI S h 19 ((sI S h 19) - b)) m_thick (Int32.toNatClampNeg a)) - (b - b))) m_melted (Int32.toNatClampNeg a) ((sI (stI (stI S h 19 ((sI S h 19) - b)) m_thick (Int32.toNatClampNeg a) ((sI (stI S h 19 ((sI S h 19) - b)) m_thick (Int32.toNatClampNeg a)) - (b - b))) m_melted (Int32.toNatClampNeg a)) + (b - b))) hx hb hr hlk hK hZ hA hW hS (⟨⟨rfl, rfl, rfl⟩, w40, w41, w43, trivial⟩) dX9_melts_86
set_option maxHeartbeats 4000000 in
set_option maxRecDepth 100000 in
theorem c_X9_step (l : Launch) (D : va_G) (cy : Nat → ClassId) (A : Nat → Prop) (S : St) (h m_priceOf m_thick m_melted m_hasCut : Nat) (a b : Int32) (hk : sK S h = 9) (r_26 : sR S h 26 = some m_priceOf) (k_26 : sK S m_priceOf = 11) (n_26 : sL S m_priceOf = 24) (r_27 : sR S h 27 = some m_thick) (k_27 : sK S m_thick = 11) (n_27 : sL S m_thick = 2) (r_31 : sR S h 31 = some m_melted) (k_31 : sK S m_melted = 11) (n_31 : sL S m_melted = 2) (r_34 : sR S h 34 = some m_hasCut) (k_34 : sK S m_hasCut = 13) (n_34 : sL S m_hasCut = 2) (a_m_hasCut : ∀ j, j < 2 → sI S m_hasCut j = 0) (a_m_priceOf : ∀ j, j < 24 → sI S m_priceOf j = 10) (i_18 : sI S h 18 = 0) (i_19 : sI S h 19 = 200) (i_20 : sI S h 20 = 0) (i_21 : sI S h 21 = 0) (i_22 : sI S h 22 = 0) (i_23 : sI S h 23 = 400) (i_24 : sI S h 24 = 3) (i_35 : sI S h 35 = 0) (i_36 : sI S h 36 = 0) : MI l yX9_step wsX9_step ({ frames := 1, cells := 0, slots := 0, locals := 25 } : Room) 0 0 D cy A [.ref h, .int a, .int b] S (fun r S1 => (r = 1 ∧ -20 ≤ a.toInt ∧ a.toInt ≤ 40 ∧ 0 ≤ b.toInt ∧ b.toInt ≤ 3) ∨ (r = (-1) ∧ ¬ (-20 ≤ a.toInt ∧ a.toInt ≤ 40 ∧ 0 ≤ b.toInt ∧ b.toInt ≤ 3))) := by
  refine mt_start (cc := cX9_step) (maxL := 5) (ret := (some .int)) (by decide) rfl (Nat.le_of_ble_eq_true rfl) ?_
  intro p e s m args below meth c hx hb hr hlk hml hown hnm hts hK hZ hA hW hS ls hl
  have hl : lv_has ls 5 [(0, .ref h), (1, .int a), (2, .int b)] := hl
  have hown : s.vm.findClass RX9 = some m.cls := hown
  have F : CallFix p m c cX9_step 5 s args wsX9_step RX9 := ⟨hx, hb, hml, hown, hts⟩
  have wi9 : ∀ w ∈ u_ws RX9 TX9 63, w ∈ wsX9_step := by decide +kernel
  refine lv_iload_n hx hb dX9_step_0 rfl (lv_at hl 1 rfl) ?_
  refine lv_bipush (v := (-20)) hx hb dX9_step_1 (by decide) ?_
  refine lv_icmp_lt (tgt := 34) hx hb dX9_step_3 (by decide) (fun c1 => ?_) (fun c1 => ?_)
  · have c1i : Int32.toInt a < (-20 : Int) := (i3_lt _ _).mp c1
    refine lv_iconst (v := (-1)) hx hb dX9_step_34 (by decide) ?_
    exact pc_iret (v := (-1)) (S := S) hx hb hr hlk hK hZ hA hW hS (Or.inr ⟨rfl, by omega⟩) dX9_step_35
  · have c1i : ¬ (Int32.toInt a < (-20 : Int)) := fun h9 => c1 ((i3_lt _ _).mpr h9)
    refine lv_iload_n hx hb dX9_step_6 rfl (lv_at hl 1 rfl) ?_
    refine lv_bipush (v := 40) hx hb dX9_step_7 (by decide) ?_
    refine lv_icmp_gt (tgt := 34) hx hb dX9_step_9 (by decide) (fun c2 => ?_) (fun c2 => ?_)
    · have c2i : (40 : Int) < Int32.toInt a := (i3_lt _ _).mp c2
      refine lv_iconst (v := (-1)) hx hb dX9_step_34 (by decide) ?_
      exact pc_iret (v := (-1)) (S := S) hx hb hr hlk hK hZ hA hW hS (Or.inr ⟨rfl, by omega⟩) dX9_step_35
    · have c2i : ¬ ((40 : Int) < Int32.toInt a) := fun h9 => c2 ((i3_lt _ _).mpr h9)
      refine lv_iload_n hx hb dX9_step_12 rfl (lv_at hl 2 rfl) ?_
      refine lv_if_lt (tgt := 34) hx hb dX9_step_13 (by decide) (fun c3 => ?_) (fun c3 => ?_)
      · have c3i : Int32.toInt b < (0 : Int) := (i3_lt _ _).mp c3
        refine lv_iconst (v := (-1)) hx hb dX9_step_34 (by decide) ?_
        exact pc_iret (v := (-1)) (S := S) hx hb hr hlk hK hZ hA hW hS (Or.inr ⟨rfl, by omega⟩) dX9_step_35
      · have c3i : ¬ (Int32.toInt b < (0 : Int)) := fun h9 => c3 ((i3_lt _ _).mpr h9)
        refine lv_iload_n hx hb dX9_step_16 rfl (lv_at hl 2 rfl) ?_
        refine lv_aload_n hx hb dX9_step_17 rfl (lv_at hl 0 rfl) ?_
        refine pg_gi (ci := 9) (C := RX9) (T := TX9) (N := 63) hx hb hts wi9 hown hK hW hk (by decide) rfl 24 (by decide) (hts (.fieldLink RX9 39 "IceHallModel" "working" "I") (by decide +kernel)) (fun _ h9 => h9) rfl dX9_step_18 ?_
        rw [show sI S h 24 = 3 from i_24]
        refine lv_icmp_gt (tgt := 34) hx hb dX9_step_21 (by decide) (fun c4 => ?_) (fun c4 => ?_)
        · have c4i : (3 : Int) < Int32.toInt b := (i3_lt _ _).mp c4
          refine lv_iconst (v := (-1)) hx hb dX9_step_34 (by decide) ?_
          exact pc_iret (v := (-1)) (S := S) hx hb hr hlk hK hZ hA hW hS (Or.inr ⟨rfl, by omega⟩) dX9_step_35
        · have c4i : ¬ ((3 : Int) < Int32.toInt b) := fun h9 => c4 ((i3_lt _ _).mpr h9)
          refine lv_aload_n hx hb dX9_step_24 rfl (lv_at hl 0 rfl) ?_
          refine pg_gi (ci := 9) (C := RX9) (T := TX9) (N := 63) hx hb hts wi9 hown hK hW hk (by decide) rfl 18 (by decide) (hts (.fieldLink RX9 219 "IceHallModel" "now" "I") (by decide +kernel)) (fun _ h9 => h9) rfl dX9_step_25 ?_
          rw [show sI S h 18 = 0 from i_18]
          refine lv_sipush (v := 990) hx hb dX9_step_28 (by decide) ?_
          refine lv_icmp_ne (tgt := 36) hx hb dX9_step_31 (by decide) (fun c5 => ?_) (fun c5 => absurd c5 (by decide))
          refine lv_aload_n hx hb dX9_step_36 rfl (lv_at hl 0 rfl) ?_
          refine lv_aload_n hx hb dX9_step_37 rfl (lv_at hl 0 rfl) ?_
          refine pg_gi (ci := 9) (C := RX9) (T := TX9) (N := 63) hx hb hts wi9 hown hK hW hk (by decide) rfl 19 (by decide) (hts (.fieldLink RX9 32 "IceHallModel" "store" "I") (by decide +kernel)) (fun _ h9 => h9) rfl dX9_step_38 ?_
          rw [show sI S h 19 = 200 from i_19]
          refine lv_bipush (v := 20) hx hb dX9_step_41 (by decide) ?_
          refine lv_iload_n hx hb dX9_step_43 rfl (lv_at hl 2 rfl) ?_
          refine lv_imul hx hb dX9_step_44 ?_
          refine lv_iadd hx hb dX9_step_45 ?_
          refine pg_pi (ci := 9) (C := RX9) (T := TX9) (N := 63) hx hb hts wi9 tyX9 tyX9_ok nmX9 hown hK hW hS hk (by decide) rfl 19 (by decide) (hts (.fieldLink RX9 32 "IceHallModel" "store" "I") (by decide +kernel)) (fun _ h9 => h9) rfl rfl rfl dX9_step_46 (fun H locs hW hS => ?_)
          have w6 : sI (stI S h 19 (200 + (20 * b))) h 18 = 0 := (iI_k (by decide)).trans i_18
          have w7 : sI (stI S h 19 (200 + (20 * b))) h 20 = 0 := (iI_k (by decide)).trans i_20
          have w8 : sI (stI S h 19 (200 + (20 * b))) h 21 = 0 := (iI_k (by decide)).trans i_21
          have w9 : sI (stI S h 19 (200 + (20 * b))) h 22 = 0 := (iI_k (by decide)).trans i_22
          have w10 : sI (stI S h 19 (200 + (20 * b))) h 23 = 400 := (iI_k (by decide)).trans i_23
          have w11 : sI (stI S h 19 (200 + (20 * b))) h 24 = 3 := (iI_k (by decide)).trans i_24
          have w12 : sI (stI S h 19 (200 + (20 * b))) h 35 = 0 := (iI_k (by decide)).trans i_35
          have w13 : sI (stI S h 19 (200 + (20 * b))) h 36 = 0 := (iI_k (by decide)).trans i_36
          have w14 : sI (stI S h 19 (200 + (20 * b))) h 19 = 200 + (20 * b) := iI_s
          have w15 : ∀ j, j < 2 → sI (stI S h 19 (200 + (20 * b))) m_hasCut j = 0 := fun j hj => (iI_a (fk_ne k_34 hk (by decide))).trans (a_m_hasCut j hj)
          have w16 : ∀ j, j < 24 → sI (stI S h 19 (200 + (20 * b))) m_priceOf j = 10 := fun j hj => (iI_a (fk_ne k_26 hk (by decide))).trans (a_m_priceOf j hj)
          refine lv_aload_n hx hb dX9_step_49 rfl (lv_at hl 0 rfl) ?_
          refine lv_aload_n hx hb dX9_step_50 rfl (lv_at hl 0 rfl) ?_
          refine pg_gi (ci := 9) (C := RX9) (T := TX9) (N := 63) hx hb hts wi9 hown hK hW hk (by decide) rfl 21 (by decide) (hts (.fieldLink RX9 262 "IceHallModel" "cost" "I") (by decide +kernel)) (fun _ h9 => h9) rfl dX9_step_51 ?_
          rw [show sI (stI S h 19 (200 + (20 * b))) h 21 = 0 from w8]
          refine lv_iload_n hx hb dX9_step_54 rfl (lv_at hl 2 rfl) ?_
          refine lv_aload_n hx hb dX9_step_55 rfl (lv_at hl 0 rfl) ?_
          refine pg_gr (b := m_priceOf) (ci := 9) (C := RX9) (T := TX9) (N := 63) hx hb hts wi9 hown hK hW hk (by decide) rfl 26 (by decide) (hts (.fieldLink RX9 45 "IceHallModel" "priceOf" "[I") (by decide +kernel)) (fun _ h9 => h9) rfl r_26 dX9_step_56 ?_
          refine lv_aload_n hx hb dX9_step_59 rfl (lv_at hl 0 rfl) ?_
          refine pg_gi (ci := 9) (C := RX9) (T := TX9) (N := 63) hx hb hts wi9 hown hK hW hk (by decide) rfl 18 (by decide) (hts (.fieldLink RX9 219 "IceHallModel" "now" "I") (by decide +kernel)) (fun _ h9 => h9) rfl dX9_step_60 ?_
          rw [show sI (stI S h 19 (200 + (20 * b))) h 18 = 0 from w6]
          refine lv_bipush (v := 24) hx hb dX9_step_63 (by decide) ?_
          refine lv_irem hx hb dX9_step_65 (by decide) ?_
          rw [show (0 - 0 / 24 * 24 : Int32) = 0 from by decide]
          refine pg_iald hx hb hK hW k_26 (by rw [show sL (stI S h 19 (200 + (20 * b))) m_priceOf = 24 from n_26]; exact vp_in_nI (n := 0) (by decide) (by decide)) dX9_step_66 ?_
          rw [show sI (stI S h 19 (200 + (20 * b))) m_priceOf (Int32.toNatClampNeg 0) = 10 from w16 _ (by decide)]
          refine lv_imul hx hb dX9_step_67 ?_
          refine lv_iadd hx hb dX9_step_68 ?_
          refine pg_pi (ci := 9) (C := RX9) (T := TX9) (N := 63) hx hb hts wi9 tyX9 tyX9_ok nmX9 hown hK hW hS hk (by decide) rfl 21 (by decide) (hts (.fieldLink RX9 262 "IceHallModel" "cost" "I") (by decide +kernel)) (fun _ h9 => h9) rfl rfl rfl dX9_step_69 (fun H locs hW hS => ?_)
          have w17 : sI (stI (stI S h 19 (200 + (20 * b))) h 21 (0 + (b * 10))) h 18 = 0 := (iI_k (by decide)).trans w6
          have w18 : sI (stI (stI S h 19 (200 + (20 * b))) h 21 (0 + (b * 10))) h 20 = 0 := (iI_k (by decide)).trans w7
          have w19 : sI (stI (stI S h 19 (200 + (20 * b))) h 21 (0 + (b * 10))) h 22 = 0 := (iI_k (by decide)).trans w9
          have w20 : sI (stI (stI S h 19 (200 + (20 * b))) h 21 (0 + (b * 10))) h 23 = 400 := (iI_k (by decide)).trans w10
          have w21 : sI (stI (stI S h 19 (200 + (20 * b))) h 21 (0 + (b * 10))) h 24 = 3 := (iI_k (by decide)).trans w11
          have w22 : sI (stI (stI S h 19 (200 + (20 * b))) h 21 (0 + (b * 10))) h 35 = 0 := (iI_k (by decide)).trans w12
          have w23 : sI (stI (stI S h 19 (200 + (20 * b))) h 21 (0 + (b * 10))) h 36 = 0 := (iI_k (by decide)).trans w13
          have w24 : sI (stI (stI S h 19 (200 + (20 * b))) h 21 (0 + (b * 10))) h 19 = 200 + (20 * b) := (iI_k (by decide)).trans w14
          have w25 : sI (stI (stI S h 19 (200 + (20 * b))) h 21 (0 + (b * 10))) h 21 = 0 + (b * 10) := iI_s
          have w26 : ∀ j, j < 2 → sI (stI (stI S h 19 (200 + (20 * b))) h 21 (0 + (b * 10))) m_hasCut j = 0 := fun j hj => (iI_a (fk_ne k_34 hk (by decide))).trans (w15 j hj)
          have w27 : ∀ j, j < 24 → sI (stI (stI S h 19 (200 + (20 * b))) h 21 (0 + (b * 10))) m_priceOf j = 10 := fun j hj => (iI_a (fk_ne k_26 hk (by decide))).trans (w16 j hj)
          clear w6 w7 w8 w9 w10 w11 w12 w13 w14 w15 w16
          refine lv_aload_n hx hb dX9_step_72 rfl (lv_at hl 0 rfl) ?_
          refine pg_gi (ci := 9) (C := RX9) (T := TX9) (N := 63) hx hb hts wi9 hown hK hW hk (by decide) rfl 19 (by decide) (hts (.fieldLink RX9 32 "IceHallModel" "store" "I") (by decide +kernel)) (fun _ h9 => h9) rfl dX9_step_73 ?_
          rw [show sI (stI (stI S h 19 (200 + (20 * b))) h 21 (0 + (b * 10))) h 19 = 200 + (20 * b) from w24]
          refine lv_aload_n hx hb dX9_step_76 rfl (lv_at hl 0 rfl) ?_
          refine pg_gi (ci := 9) (C := RX9) (T := TX9) (N := 63) hx hb hts wi9 hown hK hW hk (by decide) rfl 23 (by decide) (hts (.fieldLink RX9 36 "IceHallModel" "mostOf" "I") (by decide +kernel)) (fun _ h9 => h9) rfl dX9_step_77 ?_
          rw [show sI (stI (stI S h 19 (200 + (20 * b))) h 21 (0 + (b * 10))) h 23 = 400 from w20]
          refine lv_icmp_le (tgt := 109) hx hb dX9_step_80 (by decide) (fun c28 => ?_) (fun c28 => ?_)
          · have c28i : Int32.toInt (200 + (20 * b)) ≤ (400 : Int) := (i3_le _ _).mp c28
            refine lv_iconst (v := 0) hx hb dX9_step_109 (by decide) ?_
            refine lv_istore_n (lv' := [(3, .int 0), (0, .ref h), (1, .int a), (2, .int b)]) hx hb dX9_step_110 rfl hl (by decide) rfl (fun ls hl => ?_)
            refine lv_iload_n hx hb dX9_step_111 rfl (lv_at hl 0 rfl) ?_
            refine lv_iconst (v := 2) hx hb dX9_step_112 (by decide) ?_
            refine lv_icmp_ge (tgt := 205) hx hb dX9_step_113 (by decide) (fun c29 => absurd c29 (by decide)) (fun c29 => ?_)
            refine lv_aload_n hx hb dX9_step_116 rfl (lv_at hl 1 rfl) ?_
            refine lv_iload_n hx hb dX9_step_117 rfl (lv_at hl 0 rfl) ?_
            refine lv_aload_n hx hb dX9_step_118 rfl (lv_at hl 1 rfl) ?_
            refine pg_gi (ci := 9) (C := RX9) (T := TX9) (N := 63) hx hb hts wi9 hown hK hW hk (by decide) rfl 18 (by decide) (hts (.fieldLink RX9 219 "IceHallModel" "now" "I") (by decide +kernel)) (fun _ h9 => h9) rfl dX9_step_119 ?_
            rw [show sI (stI (stI S h 19 (200 + (20 * b))) h 21 (0 + (b * 10))) h 18 = 0 from w17]
            refine pc_Vi (As := [.int 0, .int 0]) (rest := []) F (c_X9_standing l D cy A (stI (stI S h 19 (200 + (20 * b))) h 21 (0 + (b * 10))) h 0 0 hk w22) (cwV 2 hts gX9_step_X9_standing rfl rfl rfl (by decide +kernel) ⟨Nat.le_of_ble_eq_true rfl, Nat.le_of_ble_eq_true rfl⟩) hK hZ hA hW hS hk (by decide) rfl rfl hl.1 rfl (Nat.le_of_ble_eq_true rfl) dX9_step_122 ⟨Nat.le_of_ble_eq_true rfl, Nat.le_of_ble_eq_true rfl⟩ (fun v30 T31 H locs p32 hW hS => ?_)
            obtain ⟨eT31, p32⟩ := p32
            rw [eT31] at hW
            rw [show v30 = (-1) from p32]
            refine lv_istore (lv' := [(4, .int ((-1))), (3, .int 0), (0, .ref h), (1, .int a), (2, .int b)]) hx hb dX9_step_125 hl (by decide) rfl (fun ls hl => ?_)
            refine lv_aload_n hx hb dX9_step_127 rfl (lv_at hl 2 rfl) ?_
            refine lv_iload_n hx hb dX9_step_128 rfl (lv_at hl 1 rfl) ?_
            refine lv_iload_n hx hb dX9_step_129 rfl (lv_at hl 3 rfl) ?_
            refine pc_Si (As := [.int a]) (rest := [.int 0, .ref h]) F (c_X9_halfOf l D cy A (stI (stI S h 19 (200 + (20 * b))) h 21 (0 + (b * 10))) a ) (va_cwS 1 hts gX9_step_X9_halfOf rfl rfl rfl (by decide +kernel) ⟨Nat.le_of_ble_eq_true rfl, Nat.le_of_ble_eq_true rfl⟩) hK hZ hA hW hS rfl hl.1 rfl (Nat.le_of_ble_eq_true rfl) dX9_step_130 ⟨Nat.le_of_ble_eq_true rfl, Nat.le_of_ble_eq_true rfl⟩ (fun v33 T34 H locs p35 hW hS => ?_)
            obtain ⟨eT34, p35⟩ := p35
            rw [eT34] at hW
            refine lv_iload hx hb dX9_step_133 (lv_at hl 0 rfl) ?_
            refine lv_iconst (v := (-1)) hx hb dX9_step_135 (by decide) ?_
            refine lv_icmp_ne (tgt := 143) hx hb dX9_step_136 (by decide) (fun c36 => absurd (by decide) c36) (fun c36 => ?_)
            refine lv_iconst (v := 0) hx hb dX9_step_139 (by decide) ?_
            refine lv_goto (tgt := 153) hx hb dX9_step_140 (by decide) ?_
            refine lv_iadd hx hb dX9_step_153 ?_
            refine pc_Vv (As := [.int 0, .int (v33 + 0)]) (rest := []) F (c_X9_melts l D cy A (stI (stI S h 19 (200 + (20 * b))) h 21 (0 + (b * 10))) h m_thick m_melted m_hasCut 0 (v33 + 0) hk r_27 k_27 n_27 r_31 k_31 n_31 r_34 k_34 n_34 w26 w17 w22 (by decide) (by decide)) (cwV 2 hts gX9_step_X9_melts rfl rfl rfl (by decide +kernel) ⟨Nat.le_of_ble_eq_true rfl, Nat.le_of_ble_eq_true rfl⟩) hK hZ hA hW hS hk (by decide) rfl rfl hl.1 rfl (Nat.le_of_ble_eq_true rfl) dX9_step_154 ⟨Nat.le_of_ble_eq_true rfl, Nat.le_of_ble_eq_true rfl⟩ (fun T38 H locs p39 hW hS => ?_)
            obtain ⟨⟨ekT38, erT38, elT38⟩, p39⟩ := p39
            have f40 : sK T38 h = 9 := by rw [ekT38]; exact hk
            have f41 : sK T38 m_priceOf = 11 := by rw [ekT38]; exact k_26
            have f42 : sK T38 m_thick = 11 := by rw [ekT38]; exact k_27
            have f43 : sK T38 m_melted = 11 := by rw [ekT38]; exact k_31
            have f44 : sK T38 m_hasCut = 13 := by rw [ekT38]; exact k_34
            have f45 : sL T38 m_priceOf = 24 := by rw [elT38]; exact n_26
            have f46 : sL T38 m_thick = 2 := by rw [elT38]; exact n_27
            have f47 : sL T38 m_melted = 2 := by rw [elT38]; exact n_31
            have f48 : sL T38 m_hasCut = 2 := by rw [elT38]; exact n_34
            have f49 : sR T38 h 26 = some m_priceOf := by rw [erT38]; exact r_26
            have f50 : sR T38 h 27 = some m_thick := by rw [erT38]; exact r_27
            have f51 : sR T38 h 31 = some m_melted := by rw [erT38]; exact r_31
            have f52 : sR T38 h 34 = some m_hasCut := by rw [erT38]; exact r_34
            obtain ⟨y53, p39⟩ := p39
            obtain ⟨y54, p39⟩ := p39
            obtain ⟨y55, p39⟩ := p39
            refine lv_iload hx hb dX9_step_157 (lv_at hl 0 rfl) ?_
            refine lv_iconst (v := (-1)) hx hb dX9_step_159 (by decide) ?_
            refine lv_icmp_eq (tgt := 173) hx hb dX9_step_160 (by decide) (fun c56 => ?_) (fun c56 => absurd (by decide) c56)
            refine lv_aload_n hx hb dX9_step_173 rfl (lv_at hl 2 rfl) ?_
            refine pg_gr (b := m_hasCut) (ci := 9) (C := RX9) (T := TX9) (N := 63) hx hb hts wi9 hown hK hW f40 (by decide) rfl 34 (by decide) (hts (.fieldLink RX9 69 "IceHallModel" "hasCut" "[Z") (by decide +kernel)) (fun _ h9 => h9) rfl f52 dX9_step_174 ?_
            refine lv_iload_n hx hb dX9_step_177 rfl (lv_at hl 1 rfl) ?_
            refine pg_zald hx hb hK hW f44 (by rw [show sL T38 m_hasCut = 2 from f48]; exact vp_in_nI (n := 0) (by decide) (by decide)) dX9_step_178 ?_
            rw [show sI T38 m_hasCut (Int32.toNatClampNeg 0) = 0 from y55 _ (by decide)]
            refine lv_if_eq (tgt := 199) hx hb dX9_step_179 (by decide) (fun c57 => ?_) (fun c57 => absurd (by decide) c57)
            refine lv_iinc (v := 1) (lv' := [(3, .int 1), (4, .int ((-1))), (0, .ref h), (1, .int a), (2, .int b)]) hx hb dX9_step_199 hl (k := 1) rfl (by decide) (by decide) rfl (fun ls hl => ?_)
            refine lv_goto (tgt := 111) hx hb dX9_step_202 (by decide) ?_
            refine lv_iload_n hx hb dX9_step_111 rfl (lv_at hl 0 rfl) ?_
            refine lv_iconst (v := 2) hx hb dX9_step_112 (by decide) ?_
            refine lv_icmp_ge (tgt := 205) hx hb dX9_step_113 (by decide) (fun c58 => absurd c58 (by decide)) (fun c58 => ?_)
            refine lv_aload_n hx hb dX9_step_116 rfl (lv_at hl 2 rfl) ?_
            refine lv_iload_n hx hb dX9_step_117 rfl (lv_at hl 0 rfl) ?_
            refine lv_aload_n hx hb dX9_step_118 rfl (lv_at hl 2 rfl) ?_
            refine pg_gi (ci := 9) (C := RX9) (T := TX9) (N := 63) hx hb hts wi9 hown hK hW f40 (by decide) rfl 18 (by decide) (hts (.fieldLink RX9 219 "IceHallModel" "now" "I") (by decide +kernel)) (fun _ h9 => h9) rfl dX9_step_119 ?_
            rw [show sI T38 h 18 = 0 from y53]
            refine pc_Vi (As := [.int 1, .int 0]) (rest := []) F (c_X9_standing l D cy A T38 h 1 0 f40 y54) (cwV 2 hts gX9_step_X9_standing rfl rfl rfl (by decide +kernel) ⟨Nat.le_of_ble_eq_true rfl, Nat.le_of_ble_eq_true rfl⟩) hK hZ hA hW hS f40 (by decide) rfl rfl hl.1 rfl (Nat.le_of_ble_eq_true rfl) dX9_step_122 ⟨Nat.le_of_ble_eq_true rfl, Nat.le_of_ble_eq_true rfl⟩ (fun v59 T60 H locs p61 hW hS => ?_)
            obtain ⟨eT60, p61⟩ := p61
            rw [eT60] at hW
            rw [show v59 = (-1) from p61]
            refine lv_istore (lv' := [(4, .int ((-1))), (3, .int 1), (0, .ref h), (1, .int a), (2, .int b)]) hx hb dX9_step_125 hl (by decide) rfl (fun ls hl => ?_)
            refine lv_aload_n hx hb dX9_step_127 rfl (lv_at hl 2 rfl) ?_
            refine lv_iload_n hx hb dX9_step_128 rfl (lv_at hl 1 rfl) ?_
            refine lv_iload_n hx hb dX9_step_129 rfl (lv_at hl 3 rfl) ?_
            refine pc_Si (As := [.int a]) (rest := [.int 1, .ref h]) F (c_X9_halfOf l D cy A T38 a ) (va_cwS 1 hts gX9_step_X9_halfOf rfl rfl rfl (by decide +kernel) ⟨Nat.le_of_ble_eq_true rfl, Nat.le_of_ble_eq_true rfl⟩) hK hZ hA hW hS rfl hl.1 rfl (Nat.le_of_ble_eq_true rfl) dX9_step_130 ⟨Nat.le_of_ble_eq_true rfl, Nat.le_of_ble_eq_true rfl⟩ (fun v62 T63 H locs p64 hW hS => ?_)
            obtain ⟨eT63, p64⟩ := p64
            rw [eT63] at hW
            refine lv_iload hx hb dX9_step_133 (lv_at hl 0 rfl) ?_
            refine lv_iconst (v := (-1)) hx hb dX9_step_135 (by decide) ?_
            refine lv_icmp_ne (tgt := 143) hx hb dX9_step_136 (by decide) (fun c65 => absurd (by decide) c65) (fun c65 => ?_)
            refine lv_iconst (v := 0) hx hb dX9_step_139 (by decide) ?_
            refine lv_goto (tgt := 153) hx hb dX9_step_140 (by decide) ?_
            refine lv_iadd hx hb dX9_step_153 ?_
            refine pc_Vv (As := [.int 1, .int (v62 + 0)]) (rest := []) F (c_X9_melts l D cy A T38 h m_thick m_melted m_hasCut 1 (v62 + 0) f40 f50 f42 f46 f51 f43 f47 f52 f44 f48 y55 y53 y54 (by decide) (by decide)) (cwV 2 hts gX9_step_X9_melts rfl rfl rfl (by decide +kernel) ⟨Nat.le_of_ble_eq_true rfl, Nat.le_of_ble_eq_true rfl⟩) hK hZ hA hW hS f40 (by decide) rfl rfl hl.1 rfl (Nat.le_of_ble_eq_true rfl) dX9_step_154 ⟨Nat.le_of_ble_eq_true rfl, Nat.le_of_ble_eq_true rfl⟩ (fun T67 H locs p68 hW hS => ?_)
            obtain ⟨⟨ekT67, erT67, elT67⟩, p68⟩ := p68
            have f69 : sK T67 h = 9 := by rw [ekT67]; exact f40
            have f70 : sK T67 m_priceOf = 11 := by rw [ekT67]; exact f41
            have f71 : sK T67 m_thick = 11 := by rw [ekT67]; exact f42
            have f72 : sK T67 m_melted = 11 := by rw [ekT67]; exact f43
            have f73 : sK T67 m_hasCut = 13 := by rw [ekT67]; exact f44
            have f74 : sL T67 m_priceOf = 24 := by rw [elT67]; exact f45
            have f75 : sL T67 m_thick = 2 := by rw [elT67]; exact f46
            have f76 : sL T67 m_melted = 2 := by rw [elT67]; exact f47
            have f77 : sL T67 m_hasCut = 2 := by rw [elT67]; exact f48
            have f78 : sR T67 h 26 = some m_priceOf := by rw [erT67]; exact f49
            have f79 : sR T67 h 27 = some m_thick := by rw [erT67]; exact f50
            have f80 : sR T67 h 31 = some m_melted := by rw [erT67]; exact f51
            have f81 : sR T67 h 34 = some m_hasCut := by rw [erT67]; exact f52
            obtain ⟨y82, p68⟩ := p68
            obtain ⟨y83, p68⟩ := p68
            obtain ⟨y84, p68⟩ := p68
            refine lv_iload hx hb dX9_step_157 (lv_at hl 0 rfl) ?_
            refine lv_iconst (v := (-1)) hx hb dX9_step_159 (by decide) ?_
            refine lv_icmp_eq (tgt := 173) hx hb dX9_step_160 (by decide) (fun c85 => ?_) (fun c85 => absurd (by decide) c85)
            refine lv_aload_n hx hb dX9_step_173 rfl (lv_at hl 2 rfl) ?_
            refine pg_gr (b := m_hasCut) (ci := 9) (C := RX9) (T := TX9) (N := 63) hx hb hts wi9 hown hK hW f69 (by decide) rfl 34 (by decide) (hts (.fieldLink RX9 69 "IceHallModel" "hasCut" "[Z") (by decide +kernel)) (fun _ h9 => h9) rfl f81 dX9_step_174 ?_
            refine lv_iload_n hx hb dX9_step_177 rfl (lv_at hl 1 rfl) ?_
            refine pg_zald hx hb hK hW f73 (by rw [show sL T67 m_hasCut = 2 from f77]; exact vp_in_nI (n := 1) (by decide) (by decide)) dX9_step_178 ?_
            rw [show sI T67 m_hasCut (Int32.toNatClampNeg 1) = 0 from y84 _ (by decide)]
            refine lv_if_eq (tgt := 199) hx hb dX9_step_179 (by decide) (fun c86 => ?_) (fun c86 => absurd (by decide) c86)
            refine lv_iinc (v := 2) (lv' := [(3, .int 2), (4, .int ((-1))), (0, .ref h), (1, .int a), (2, .int b)]) hx hb dX9_step_199 hl (k := 1) rfl (by decide) (by decide) rfl (fun ls hl => ?_)
            refine lv_goto (tgt := 111) hx hb dX9_step_202 (by decide) ?_
            refine lv_iload_n hx hb dX9_step_111 rfl (lv_at hl 0 rfl) ?_
            refine lv_iconst (v := 2) hx hb dX9_step_112 (by decide) ?_
            refine lv_icmp_ge (tgt := 205) hx hb dX9_step_113 (by decide) (fun c87 => ?_) (fun c87 => absurd (by decide) c87)
            refine lv_aload_n hx hb dX9_step_205 rfl (lv_at hl 2 rfl) ?_
            refine lv_aload_n hx hb dX9_step_206 rfl (lv_at hl 2 rfl) ?_
            refine pg_gi (ci := 9) (C := RX9) (T := TX9) (N := 63) hx hb hts wi9 hown hK hW f69 (by decide) rfl 18 (by decide) (hts (.fieldLink RX9 219 "IceHallModel" "now" "I") (by decide +kernel)) (fun _ h9 => h9) rfl dX9_step_207 ?_
            rw [show sI T67 h 18 = 0 from y82]
            refine lv_iconst (v := 1) hx hb dX9_step_210 (by decide) ?_
            refine lv_iadd hx hb dX9_step_211 ?_
            rw [show (0 + 1 : Int32) = 1 from by decide]
            refine pg_pi (ci := 9) (C := RX9) (T := TX9) (N := 63) hx hb hts wi9 tyX9 tyX9_ok nmX9 hown hK hW hS f69 (by decide) rfl 18 (by decide) (hts (.fieldLink RX9 219 "IceHallModel" "now" "I") (by decide +kernel)) (fun _ h9 => h9) rfl rfl rfl dX9_step_212 (fun H locs hW hS => ?_)
            have w88 : sI (stI T67 h 18 1) h 35 = 0 := (iI_k (by decide)).trans y83
            have w89 : sI (stI T67 h 18 1) h 18 = 1 := iI_s
            have w90 : ∀ j, j < 2 → sI (stI T67 h 18 1) m_hasCut j = 0 := fun j hj => (iI_a (fk_ne f73 f69 (by decide))).trans (y84 j hj)
            clear y82 y83 y84
            refine lv_aload_n hx hb dX9_step_215 rfl (lv_at hl 2 rfl) ?_
            refine pg_gi (ci := 9) (C := RX9) (T := TX9) (N := 63) hx hb hts wi9 hown hK hW f69 (by decide) rfl 18 (by decide) (hts (.fieldLink RX9 219 "IceHallModel" "now" "I") (by decide +kernel)) (fun _ h9 => h9) rfl dX9_step_216 ?_
            rw [show sI (stI T67 h 18 1) h 18 = 1 from w89]
            exact pc_iret (v := 1) (S := stI T67 h 18 1) hx hb hr hlk hK hZ hA hW hS (Or.inl ⟨rfl, by omega⟩) dX9_step_219
          · have c28i : ¬ (Int32.toInt (200 + (20 * b)) ≤ (400 : Int)) := fun h9 => c28 ((i3_le _ _).mpr h9)
            refine lv_aload_n hx hb dX9_step_83 rfl (lv_at hl 0 rfl) ?_
            refine lv_aload_n hx hb dX9_step_84 rfl (lv_at hl 0 rfl) ?_
            refine pg_gi (ci := 9) (C := RX9) (T := TX9) (N := 63) hx hb hts wi9 hown hK hW hk (by decide) rfl 20 (by decide) (hts (.fieldLink RX9 265 "IceHallModel" "spilt" "I") (by decide +kernel)) (fun _ h9 => h9) rfl dX9_step_85 ?_
            rw [show sI (stI (stI S h 19 (200 + (20 * b))) h 21 (0 + (b * 10))) h 20 = 0 from w18]
            refine lv_aload_n hx hb dX9_step_88 rfl (lv_at hl 0 rfl) ?_
            refine pg_gi (ci := 9) (C := RX9) (T := TX9) (N := 63) hx hb hts wi9 hown hK hW hk (by decide) rfl 19 (by decide) (hts (.fieldLink RX9 32 "IceHallModel" "store" "I") (by decide +kernel)) (fun _ h9 => h9) rfl dX9_step_89 ?_
            rw [show sI (stI (stI S h 19 (200 + (20 * b))) h 21 (0 + (b * 10))) h 19 = 200 + (20 * b) from w24]
            refine lv_iadd hx hb dX9_step_92 ?_
            refine lv_aload_n hx hb dX9_step_93 rfl (lv_at hl 0 rfl) ?_
            refine pg_gi (ci := 9) (C := RX9) (T := TX9) (N := 63) hx hb hts wi9 hown hK hW hk (by decide) rfl 23 (by decide) (hts (.fieldLink RX9 36 "IceHallModel" "mostOf" "I") (by decide +kernel)) (fun _ h9 => h9) rfl dX9_step_94 ?_
            rw [show sI (stI (stI S h 19 (200 + (20 * b))) h 21 (0 + (b * 10))) h 23 = 400 from w20]
            refine lv_isub hx hb dX9_step_97 ?_
            refine pg_pi (ci := 9) (C := RX9) (T := TX9) (N := 63) hx hb hts wi9 tyX9 tyX9_ok nmX9 hown hK hW hS hk (by decide) rfl 20 (by decide) (hts (.fieldLink RX9 265 "IceHallModel" "spilt" "I") (by decide +kernel)) (fun _ h9 => h9) rfl rfl rfl dX9_step_98 (fun H locs hW hS => ?_)
            have w91 : sI (stI (stI (stI S h 19 (200 + (20 * b))) h 21 (0 + (b * 10))) h 20 ((0 + (200 + (20 * b))) - 400)) h 18 = 0 := (iI_k (by decide)).trans w17
            have w92 : sI (stI (stI (stI S h 19 (200 + (20 * b))) h 21 (0 + (b * 10))) h 20 ((0 + (200 + (20 * b))) - 400)) h 22 = 0 := (iI_k (by decide)).trans w19
            have w93 : sI (stI (stI (stI S h 19 (200 + (20 * b))) h 21 (0 + (b * 10))) h 20 ((0 + (200 + (20 * b))) - 400)) h 23 = 400 := (iI_k (by decide)).trans w20
            have w94 : sI (stI (stI (stI S h 19 (200 + (20 * b))) h 21 (0 + (b * 10))) h 20 ((0 + (200 + (20 * b))) - 400)) h 24 = 3 := (iI_k (by decide)).trans w21
            have w95 : sI (stI (stI (stI S h 19 (200 + (20 * b))) h 21 (0 + (b * 10))) h 20 ((0 + (200 + (20 * b))) - 400)) h 35 = 0 := (iI_k (by decide)).trans w22
            have w96 : sI (stI (stI (stI S h 19 (200 + (20 * b))) h 21 (0 + (b * 10))) h 20 ((0 + (200 + (20 * b))) - 400)) h 36 = 0 := (iI_k (by decide)).trans w23
            have w97 : sI (stI (stI (stI S h 19 (200 + (20 * b))) h 21 (0 + (b * 10))) h 20 ((0 + (200 + (20 * b))) - 400)) h 19 = 200 + (20 * b) := (iI_k (by decide)).trans w24
            have w98 : sI (stI (stI (stI S h 19 (200 + (20 * b))) h 21 (0 + (b * 10))) h 20 ((0 + (200 + (20 * b))) - 400)) h 21 = 0 + (b * 10) := (iI_k (by decide)).trans w25
            have w99 : sI (stI (stI (stI S h 19 (200 + (20 * b))) h 21 (0 + (b * 10))) h 20 ((0 + (200 + (20 * b))) - 400)) h 20 = (0 + (200 + (20 * b))) - 400 := iI_s
            have w100 : ∀ j, j < 2 → sI (stI (stI (stI S h 19 (200 + (20 * b))) h 21 (0 + (b * 10))) h 20 ((0 + (200 + (20 * b))) - 400)) m_hasCut j = 0 := fun j hj => (iI_a (fk_ne k_34 hk (by decide))).trans (w26 j hj)
            have w101 : ∀ j, j < 24 → sI (stI (stI (stI S h 19 (200 + (20 * b))) h 21 (0 + (b * 10))) h 20 ((0 + (200 + (20 * b))) - 400)) m_priceOf j = 10 := fun j hj => (iI_a (fk_ne k_26 hk (by decide))).trans (w27 j hj)
            clear w17 w18 w19 w20 w21 w22 w23 w24 w25 w26 w27
            refine lv_aload_n hx hb dX9_step_101 rfl (lv_at hl 0 rfl) ?_
            refine lv_aload_n hx hb dX9_step_102 rfl (lv_at hl 0 rfl) ?_
            refine pg_gi (ci := 9) (C := RX9) (T := TX9) (N := 63) hx hb hts wi9 hown hK hW hk (by decide) rfl 23 (by decide) (hts (.fieldLink RX9 36 "IceHallModel" "mostOf" "I") (by decide +kernel)) (fun _ h9 => h9) rfl dX9_step_103 ?_
            rw [show sI (stI (stI (stI S h 19 (200 + (20 * b))) h 21 (0 + (b * 10))) h 20 ((0 + (200 + (20 * b))) - 400)) h 23 = 400 from w93]
            refine pg_pi (ci := 9) (C := RX9) (T := TX9) (N := 63) hx hb hts wi9 tyX9 tyX9_ok nmX9 hown hK hW hS hk (by decide) rfl 19 (by decide) (hts (.fieldLink RX9 32 "IceHallModel" "store" "I") (by decide +kernel)) (fun _ h9 => h9) rfl rfl rfl dX9_step_106 (fun H locs hW hS => ?_)
            have w102 : sI (stI (stI (stI (stI S h 19 (200 + (20 * b))) h 21 (0 + (b * 10))) h 20 ((0 + (200 + (20 * b))) - 400)) h 19 400) h 18 = 0 := (iI_k (by decide)).trans w91
            have w103 : sI (stI (stI (stI (stI S h 19 (200 + (20 * b))) h 21 (0 + (b * 10))) h 20 ((0 + (200 + (20 * b))) - 400)) h 19 400) h 22 = 0 := (iI_k (by decide)).trans w92
            have w104 : sI (stI (stI (stI (stI S h 19 (200 + (20 * b))) h 21 (0 + (b * 10))) h 20 ((0 + (200 + (20 * b))) - 400)) h 19 400) h 23 = 400 := (iI_k (by decide)).trans w93
            have w105 : sI (stI (stI (stI (stI S h 19 (200 + (20 * b))) h 21 (0 + (b * 10))) h 20 ((0 + (200 + (20 * b))) - 400)) h 19 400) h 24 = 3 := (iI_k (by decide)).trans w94
            have w106 : sI (stI (stI (stI (stI S h 19 (200 + (20 * b))) h 21 (0 + (b * 10))) h 20 ((0 + (200 + (20 * b))) - 400)) h 19 400) h 35 = 0 := (iI_k (by decide)).trans w95
            have w107 : sI (stI (stI (stI (stI S h 19 (200 + (20 * b))) h 21 (0 + (b * 10))) h 20 ((0 + (200 + (20 * b))) - 400)) h 19 400) h 36 = 0 := (iI_k (by decide)).trans w96
            have w108 : sI (stI (stI (stI (stI S h 19 (200 + (20 * b))) h 21 (0 + (b * 10))) h 20 ((0 + (200 + (20 * b))) - 400)) h 19 400) h 21 = 0 + (b * 10) := (iI_k (by decide)).trans w98
            have w109 : sI (stI (stI (stI (stI S h 19 (200 + (20 * b))) h 21 (0 + (b * 10))) h 20 ((0 + (200 + (20 * b))) - 400)) h 19 400) h 20 = (0 + (200 + (20 * b))) - 400 := (iI_k (by decide)).trans w99
            have w110 : sI (stI (stI (stI (stI S h 19 (200 + (20 * b))) h 21 (0 + (b * 10))) h 20 ((0 + (200 + (20 * b))) - 400)) h 19 400) h 19 = 400 := iI_s
            have w111 : ∀ j, j < 2 → sI (stI (stI (stI (stI S h 19 (200 + (20 * b))) h 21 (0 + (b * 10))) h 20 ((0 + (200 + (20 * b))) - 400)) h 19 400) m_hasCut j = 0 := fun j hj => (iI_a (fk_ne k_34 hk (by decide))).trans (w100 j hj)
            have w112 : ∀ j, j < 24 → sI (stI (stI (stI (stI S h 19 (200 + (20 * b))) h 21 (0 + (b * 10))) h 20 ((0 + (200 + (20 * b))) - 400)) h 19 400) m_priceOf j = 10 := fun j hj => (iI_a (fk_ne k_26 hk (by decide))).trans (w101 j hj)
            clear w91 w92 w93 w94 w95 w96 w97 w98 w99 w100 w101
            refine lv_iconst (v := 0) hx hb dX9_step_109 (by decide) ?_
            refine lv_istore_n (lv' := [(3, .int 0), (0, .ref h), (1, .int a), (2, .int b)]) hx hb dX9_step_110 rfl hl (by decide) rfl (fun ls hl => ?_)
            refine lv_iload_n hx hb dX9_step_111 rfl (lv_at hl 0 rfl) ?_
            refine lv_iconst (v := 2) hx hb dX9_step_112 (by decide) ?_
            refine lv_icmp_ge (tgt := 205) hx hb dX9_step_113 (by decide) (fun c113 => absurd c113 (by decide)) (fun c113 => ?_)
            refine lv_aload_n hx hb dX9_step_116 rfl (lv_at hl 1 rfl) ?_
            refine lv_iload_n hx hb dX9_step_117 rfl (lv_at hl 0 rfl) ?_
            refine lv_aload_n hx hb dX9_step_118 rfl (lv_at hl 1 rfl) ?_
            refine pg_gi (ci := 9) (C := RX9) (T := TX9) (N := 63) hx hb hts wi9 hown hK hW hk (by decide) rfl 18 (by decide) (hts (.fieldLink RX9 219 "IceHallModel" "now" "I") (by decide +kernel)) (fun _ h9 => h9) rfl dX9_step_119 ?_
            rw [show sI (stI (stI (stI (stI S h 19 (200 + (20 * b))) h 21 (0 + (b * 10))) h 20 ((0 + (200 + (20 * b))) - 400)) h 19 400) h 18 = 0 from w102]
            refine pc_Vi (As := [.int 0, .int 0]) (rest := []) F (c_X9_standing l D cy A (stI (stI (stI (stI S h 19 (200 + (20 * b))) h 21 (0 + (b * 10))) h 20 ((0 + (200 + (20 * b))) - 400)) h 19 400) h 0 0 hk w106) (cwV 2 hts gX9_step_X9_standing rfl rfl rfl (by decide +kernel) ⟨Nat.le_of_ble_eq_true rfl, Nat.le_of_ble_eq_true rfl⟩) hK hZ hA hW hS hk (by decide) rfl rfl hl.1 rfl (Nat.le_of_ble_eq_true rfl) dX9_step_122 ⟨Nat.le_of_ble_eq_true rfl, Nat.le_of_ble_eq_true rfl⟩ (fun v114 T115 H locs p116 hW hS => ?_)
            obtain ⟨eT115, p116⟩ := p116
            rw [eT115] at hW
            rw [show v114 = (-1) from p116]
            refine lv_istore (lv' := [(4, .int ((-1))), (3, .int 0), (0, .ref h), (1, .int a), (2, .int b)]) hx hb dX9_step_125 hl (by decide) rfl (fun ls hl => ?_)
            refine lv_aload_n hx hb dX9_step_127 rfl (lv_at hl 2 rfl) ?_
            refine lv_iload_n hx hb dX9_step_128 rfl (lv_at hl 1 rfl) ?_
            refine lv_iload_n hx hb dX9_step_129 rfl (lv_at hl 3 rfl) ?_
            refine pc_Si (As := [.int a]) (rest := [.int 0, .ref h]) F (c_X9_halfOf l D cy A (stI (stI (stI (stI S h 19 (200 + (20 * b))) h 21 (0 + (b * 10))) h 20 ((0 + (200 + (20 * b))) - 400)) h 19 400) a ) (va_cwS 1 hts gX9_step_X9_halfOf rfl rfl rfl (by decide +kernel) ⟨Nat.le_of_ble_eq_true rfl, Nat.le_of_ble_eq_true rfl⟩) hK hZ hA hW hS rfl hl.1 rfl (Nat.le_of_ble_eq_true rfl) dX9_step_130 ⟨Nat.le_of_ble_eq_true rfl, Nat.le_of_ble_eq_true rfl⟩ (fun v117 T118 H locs p119 hW hS => ?_)
            obtain ⟨eT118, p119⟩ := p119
            rw [eT118] at hW
            refine lv_iload hx hb dX9_step_133 (lv_at hl 0 rfl) ?_
            refine lv_iconst (v := (-1)) hx hb dX9_step_135 (by decide) ?_
            refine lv_icmp_ne (tgt := 143) hx hb dX9_step_136 (by decide) (fun c120 => absurd (by decide) c120) (fun c120 => ?_)
            refine lv_iconst (v := 0) hx hb dX9_step_139 (by decide) ?_
            refine lv_goto (tgt := 153) hx hb dX9_step_140 (by decide) ?_
            refine lv_iadd hx hb dX9_step_153 ?_
            refine pc_Vv (As := [.int 0, .int (v117 + 0)]) (rest := []) F (c_X9_melts l D cy A (stI (stI (stI (stI S h 19 (200 + (20 * b))) h 21 (0 + (b * 10))) h 20 ((0 + (200 + (20 * b))) - 400)) h 19 400) h m_thick m_melted m_hasCut 0 (v117 + 0) hk r_27 k_27 n_27 r_31 k_31 n_31 r_34 k_34 n_34 w111 w102 w106 (by decide) (by decide)) (cwV 2 hts gX9_step_X9_melts rfl rfl rfl (by decide +kernel) ⟨Nat.le_of_ble_eq_true rfl, Nat.le_of_ble_eq_true rfl⟩) hK hZ hA hW hS hk (by decide) rfl rfl hl.1 rfl (Nat.le_of_ble_eq_true rfl) dX9_step_154 ⟨Nat.le_of_ble_eq_true rfl, Nat.le_of_ble_eq_true rfl⟩ (fun T122 H locs p123 hW hS => ?_)
            obtain ⟨⟨ekT122, erT122, elT122⟩, p123⟩ := p123
            have f124 : sK T122 h = 9 := by rw [ekT122]; exact hk
            have f125 : sK T122 m_priceOf = 11 := by rw [ekT122]; exact k_26
            have f126 : sK T122 m_thick = 11 := by rw [ekT122]; exact k_27
            have f127 : sK T122 m_melted = 11 := by rw [ekT122]; exact k_31
            have f128 : sK T122 m_hasCut = 13 := by rw [ekT122]; exact k_34
            have f129 : sL T122 m_priceOf = 24 := by rw [elT122]; exact n_26
            have f130 : sL T122 m_thick = 2 := by rw [elT122]; exact n_27
            have f131 : sL T122 m_melted = 2 := by rw [elT122]; exact n_31
            have f132 : sL T122 m_hasCut = 2 := by rw [elT122]; exact n_34
            have f133 : sR T122 h 26 = some m_priceOf := by rw [erT122]; exact r_26
            have f134 : sR T122 h 27 = some m_thick := by rw [erT122]; exact r_27
            have f135 : sR T122 h 31 = some m_melted := by rw [erT122]; exact r_31
            have f136 : sR T122 h 34 = some m_hasCut := by rw [erT122]; exact r_34
            obtain ⟨y137, p123⟩ := p123
            obtain ⟨y138, p123⟩ := p123
            obtain ⟨y139, p123⟩ := p123
            refine lv_iload hx hb dX9_step_157 (lv_at hl 0 rfl) ?_
            refine lv_iconst (v := (-1)) hx hb dX9_step_159 (by decide) ?_
            refine lv_icmp_eq (tgt := 173) hx hb dX9_step_160 (by decide) (fun c140 => ?_) (fun c140 => absurd (by decide) c140)
            refine lv_aload_n hx hb dX9_step_173 rfl (lv_at hl 2 rfl) ?_
            refine pg_gr (b := m_hasCut) (ci := 9) (C := RX9) (T := TX9) (N := 63) hx hb hts wi9 hown hK hW f124 (by decide) rfl 34 (by decide) (hts (.fieldLink RX9 69 "IceHallModel" "hasCut" "[Z") (by decide +kernel)) (fun _ h9 => h9) rfl f136 dX9_step_174 ?_
            refine lv_iload_n hx hb dX9_step_177 rfl (lv_at hl 1 rfl) ?_
            refine pg_zald hx hb hK hW f128 (by rw [show sL T122 m_hasCut = 2 from f132]; exact vp_in_nI (n := 0) (by decide) (by decide)) dX9_step_178 ?_
            rw [show sI T122 m_hasCut (Int32.toNatClampNeg 0) = 0 from y139 _ (by decide)]
            refine lv_if_eq (tgt := 199) hx hb dX9_step_179 (by decide) (fun c141 => ?_) (fun c141 => absurd (by decide) c141)
            refine lv_iinc (v := 1) (lv' := [(3, .int 1), (4, .int ((-1))), (0, .ref h), (1, .int a), (2, .int b)]) hx hb dX9_step_199 hl (k := 1) rfl (by decide) (by decide) rfl (fun ls hl => ?_)
            refine lv_goto (tgt := 111) hx hb dX9_step_202 (by decide) ?_
            refine lv_iload_n hx hb dX9_step_111 rfl (lv_at hl 0 rfl) ?_
            refine lv_iconst (v := 2) hx hb dX9_step_112 (by decide) ?_
            refine lv_icmp_ge (tgt := 205) hx hb dX9_step_113 (by decide) (fun c142 => absurd c142 (by decide)) (fun c142 => ?_)
            refine lv_aload_n hx hb dX9_step_116 rfl (lv_at hl 2 rfl) ?_
            refine lv_iload_n hx hb dX9_step_117 rfl (lv_at hl 0 rfl) ?_
            refine lv_aload_n hx hb dX9_step_118 rfl (lv_at hl 2 rfl) ?_
            refine pg_gi (ci := 9) (C := RX9) (T := TX9) (N := 63) hx hb hts wi9 hown hK hW f124 (by decide) rfl 18 (by decide) (hts (.fieldLink RX9 219 "IceHallModel" "now" "I") (by decide +kernel)) (fun _ h9 => h9) rfl dX9_step_119 ?_
            rw [show sI T122 h 18 = 0 from y137]
            refine pc_Vi (As := [.int 1, .int 0]) (rest := []) F (c_X9_standing l D cy A T122 h 1 0 f124 y138) (cwV 2 hts gX9_step_X9_standing rfl rfl rfl (by decide +kernel) ⟨Nat.le_of_ble_eq_true rfl, Nat.le_of_ble_eq_true rfl⟩) hK hZ hA hW hS f124 (by decide) rfl rfl hl.1 rfl (Nat.le_of_ble_eq_true rfl) dX9_step_122 ⟨Nat.le_of_ble_eq_true rfl, Nat.le_of_ble_eq_true rfl⟩ (fun v143 T144 H locs p145 hW hS => ?_)
            obtain ⟨eT144, p145⟩ := p145
            rw [eT144] at hW
            rw [show v143 = (-1) from p145]
            refine lv_istore (lv' := [(4, .int ((-1))), (3, .int 1), (0, .ref h), (1, .int a), (2, .int b)]) hx hb dX9_step_125 hl (by decide) rfl (fun ls hl => ?_)
            refine lv_aload_n hx hb dX9_step_127 rfl (lv_at hl 2 rfl) ?_
            refine lv_iload_n hx hb dX9_step_128 rfl (lv_at hl 1 rfl) ?_
            refine lv_iload_n hx hb dX9_step_129 rfl (lv_at hl 3 rfl) ?_
            refine pc_Si (As := [.int a]) (rest := [.int 1, .ref h]) F (c_X9_halfOf l D cy A T122 a ) (va_cwS 1 hts gX9_step_X9_halfOf rfl rfl rfl (by decide +kernel) ⟨Nat.le_of_ble_eq_true rfl, Nat.le_of_ble_eq_true rfl⟩) hK hZ hA hW hS rfl hl.1 rfl (Nat.le_of_ble_eq_true rfl) dX9_step_130 ⟨Nat.le_of_ble_eq_true rfl, Nat.le_of_ble_eq_true rfl⟩ (fun v146 T147 H locs p148 hW hS => ?_)
            obtain ⟨eT147, p148⟩ := p148
            rw [eT147] at hW
            refine lv_iload hx hb dX9_step_133 (lv_at hl 0 rfl) ?_
            refine lv_iconst (v := (-1)) hx hb dX9_step_135 (by decide) ?_
            refine lv_icmp_ne (tgt := 143) hx hb dX9_step_136 (by decide) (fun c149 => absurd (by decide) c149) (fun c149 => ?_)
            refine lv_iconst (v := 0) hx hb dX9_step_139 (by decide) ?_
            refine lv_goto (tgt := 153) hx hb dX9_step_140 (by decide) ?_
            refine lv_iadd hx hb dX9_step_153 ?_
            refine pc_Vv (As := [.int 1, .int (v146 + 0)]) (rest := []) F (c_X9_melts l D cy A T122 h m_thick m_melted m_hasCut 1 (v146 + 0) f124 f134 f126 f130 f135 f127 f131 f136 f128 f132 y139 y137 y138 (by decide) (by decide)) (cwV 2 hts gX9_step_X9_melts rfl rfl rfl (by decide +kernel) ⟨Nat.le_of_ble_eq_true rfl, Nat.le_of_ble_eq_true rfl⟩) hK hZ hA hW hS f124 (by decide) rfl rfl hl.1 rfl (Nat.le_of_ble_eq_true rfl) dX9_step_154 ⟨Nat.le_of_ble_eq_true rfl, Nat.le_of_ble_eq_true rfl⟩ (fun T151 H locs p152 hW hS => ?_)
            obtain ⟨⟨ekT151, erT151, elT151⟩, p152⟩ := p152
            have f153 : sK T151 h = 9 := by rw [ekT151]; exact f124
            have f154 : sK T151 m_priceOf = 11 := by rw [ekT151]; exact f125
            have f155 : sK T151 m_thick = 11 := by rw [ekT151]; exact f126
            have f156 : sK T151 m_melted = 11 := by rw [ekT151]; exact f127
            have f157 : sK T151 m_hasCut = 13 := by rw [ekT151]; exact f128
            have f158 : sL T151 m_priceOf = 24 := by rw [elT151]; exact f129
            have f159 : sL T151 m_thick = 2 := by rw [elT151]; exact f130
            have f160 : sL T151 m_melted = 2 := by rw [elT151]; exact f131
            have f161 : sL T151 m_hasCut = 2 := by rw [elT151]; exact f132
            have f162 : sR T151 h 26 = some m_priceOf := by rw [erT151]; exact f133
            have f163 : sR T151 h 27 = some m_thick := by rw [erT151]; exact f134
            have f164 : sR T151 h 31 = some m_melted := by rw [erT151]; exact f135
            have f165 : sR T151 h 34 = some m_hasCut := by rw [erT151]; exact f136
            obtain ⟨y166, p152⟩ := p152
            obtain ⟨y167, p152⟩ := p152
            obtain ⟨y168, p152⟩ := p152
            refine lv_iload hx hb dX9_step_157 (lv_at hl 0 rfl) ?_
            refine lv_iconst (v := (-1)) hx hb dX9_step_159 (by decide) ?_
            refine lv_icmp_eq (tgt := 173) hx hb dX9_step_160 (by decide) (fun c169 => ?_) (fun c169 => absurd (by decide) c169)
            refine lv_aload_n hx hb dX9_step_173 rfl (lv_at hl 2 rfl) ?_
            refine pg_gr (b := m_hasCut) (ci := 9) (C := RX9) (T := TX9) (N := 63) hx hb hts wi9 hown hK hW f153 (by decide) rfl 34 (by decide) (hts (.fieldLink RX9 69 "IceHallModel" "hasCut" "[Z") (by decide +kernel)) (fun _ h9 => h9) rfl f165 dX9_step_174 ?_
            refine lv_iload_n hx hb dX9_step_177 rfl (lv_at hl 1 rfl) ?_
            refine pg_zald hx hb hK hW f157 (by rw [show sL T151 m_hasCut = 2 from f161]; exact vp_in_nI (n := 1) (by decide) (by decide)) dX9_step_178 ?_
            rw [show sI T151 m_hasCut (Int32.toNatClampNeg 1) = 0 from y168 _ (by decide)]
            refine lv_if_eq (tgt := 199) hx hb dX9_step_179 (by decide) (fun c170 => ?_) (fun c170 => absurd (by decide) c170)
            refine lv_iinc (v := 2) (lv' := [(3, .int 2), (4, .int ((-1))), (0, .ref h), (1, .int a), (2, .int b)]) hx hb dX9_step_199 hl (k := 1) rfl (by decide) (by decide) rfl (fun ls hl => ?_)
            refine lv_goto (tgt := 111) hx hb dX9_step_202 (by decide) ?_
            refine lv_iload_n hx hb dX9_step_111 rfl (lv_at hl 0 rfl) ?_
            refine lv_iconst (v := 2) hx hb dX9_step_112 (by decide) ?_
            refine lv_icmp_ge (tgt := 205) hx hb dX9_step_113 (by decide) (fun c171 => ?_) (fun c171 => absurd (by decide) c171)
            refine lv_aload_n hx hb dX9_step_205 rfl (lv_at hl 2 rfl) ?_
            refine lv_aload_n hx hb dX9_step_206 rfl (lv_at hl 2 rfl) ?_
            refine pg_gi (ci := 9) (C := RX9) (T := TX9) (N := 63) hx hb hts wi9 hown hK hW f153 (by decide) rfl 18 (by decide) (hts (.fieldLink RX9 219 "IceHallModel" "now" "I") (by decide +kernel)) (fun _ h9 => h9) rfl dX9_step_207 ?_
            rw [show sI T151 h 18 = 0 from y166]
            refine lv_iconst (v := 1) hx hb dX9_step_210 (by decide) ?_
            refine lv_iadd hx hb dX9_step_211 ?_
            rw [show (0 + 1 : Int32) = 1 from by decide]
            refine pg_pi (ci := 9) (C := RX9) (T := TX9) (N := 63) hx hb hts wi9 tyX9 tyX9_ok nmX9 hown hK hW hS f153 (by decide) rfl 18 (by decide) (hts (.fieldLink RX9 219 "IceHallModel" "now" "I") (by decide +kernel)) (fun _ h9 => h9) rfl rfl rfl dX9_step_212 (fun H locs hW hS => ?_)
            have w172 : sI (stI T151 h 18 1) h 35 = 0 := (iI_k (by decide)).trans y167
            have w173 : sI (stI T151 h 18 1) h 18 = 1 := iI_s
            have w174 : ∀ j, j < 2 → sI (stI T151 h 18 1) m_hasCut j = 0 := fun j hj => (iI_a (fk_ne f157 f153 (by decide))).trans (y168 j hj)
            clear y166 y167 y168
            refine lv_aload_n hx hb dX9_step_215 rfl (lv_at hl 2 rfl) ?_
            refine pg_gi (ci := 9) (C := RX9) (T := TX9) (N := 63) hx hb hts wi9 hown hK hW f153 (by decide) rfl 18 (by decide) (hts (.fieldLink RX9 219 "IceHallModel" "now" "I") (by decide +kernel)) (fun _ h9 => h9) rfl dX9_step_216 ?_
            rw [show sI (stI T151 h 18 1) h 18 = 1 from w173]
            exact pc_iret (v := 1) (S := stI T151 h 18 1) hx hb hr hlk hK hZ hA hW hS (Or.inl ⟨rfl, by omega⟩) dX9_step_219
