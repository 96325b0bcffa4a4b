set_option maxHeartbeats 4000000 in
set_option maxRecDepth 100000 in
theorem b_X8_ofKind (l : Launch) (D : va_G) (cy : Nat → ClassId) (A : Nat → Prop) (S : St) (t : Nat) (xs : Nat → Value) (a : Int32) (hx4 : ∀ j, ∃ v : Int32, xs j = .int v) : MIT l yX8_ofKind wsX8_ofKind ({ frames := 1, cells := 0, slots := 0, locals := 40 } : Room) 0 0 D cy A [.ref t, .int a] S t xs (fun r S1 => S1 = S ∧ True) := by
  refine mt_startT (cc := cX8_ofKind) (maxL := 2) (ret := (some .int)) (by decide) rfl (Nat.le_of_ble_eq_true rfl) ?_
  intro p e s m args below meth c hx hb hr hlk hml hown hnm hts hK hZ hA hW hS hT ls hl
  have hl : lv_has ls 2 [(0, .ref t), (1, .int a)] := hl
  have hown : s.vm.findClass RX8 = some m.cls := hown
  have F : CallFix p m c cX8_ofKind 2 s args wsX8_ofKind RX8 := ⟨hx, hb, hml, hown, hts⟩
  refine lv_iload_n hx hb dX8_ofKind_0 rfl (lv_at hl 1 rfl) ?_
  refine lv_aload_n hx hb dX8_ofKind_1 rfl (lv_at hl 0 rfl) ?_
  refine va_tlen hx hb hT hS (v := 4) rfl dX8_ofKind_2 ?_
  refine pc_Si (As := [.int a, .int 4]) (rest := []) F (b_X8_isBelow l D cy A S a 4) (va_cwS 2 hts gX8_ofKind_X8_isBelow rfl rfl rfl (by decide +kernel) ⟨Nat.le_of_ble_eq_true rfl, Nat.le_of_ble_eq_true rfl⟩) hK hZ hA hW hS rfl hl.1 rfl (Nat.le_of_ble_eq_true rfl) dX8_ofKind_3 ⟨Nat.le_of_ble_eq_true rfl, Nat.le_of_ble_eq_true rfl⟩ (fun v1 T2 H locs p3 hW hS => ?_)
  obtain ⟨eT2, p3⟩ := p3
  rw [eT2] at hW
  have p3 := isb_lit (n := 4) rfl p3
  refine lv_if_eq (tgt := 15) hx hb dX8_ofKind_6 (by decide) (fun c4 => ?_) (fun c4 => ?_)
  · refine lv_iconst (v := 0) hx hb dX8_ofKind_15 (by decide) ?_
    exact pc_iret (v := 0) (S := S) hx hb hr hlk hK hZ hA hW hS (⟨rfl, trivial⟩) dX8_ofKind_16
  · have c4i : ¬ (Int32.toInt v1 = (0 : Int)) := fun h9 => c4 ((i3_eq _ _).mpr h9)
    refine lv_aload_n hx hb dX8_ofKind_9 rfl (lv_at hl 0 rfl) ?_
    refine lv_iload_n hx hb dX8_ofKind_10 rfl (lv_at hl 1 rfl) ?_
    obtain ⟨v5, e5⟩ := hx4 (Int32.toNatClampNeg a)
    refine va_ti hx hb hT hS (r_in (by omega)) (v := .int v5) e5 dX8_ofKind_11 ?_
    refine lv_goto (tgt := 16) hx hb dX8_ofKind_12 (by decide) ?_
    exact pc_iret (v := v5) (S := S) hx hb hr hlk hK hZ hA hW hS (⟨rfl, trivial⟩) dX8_ofKind_16
set_option maxHeartbeats 4000000 in
set_option maxRecDepth 100000 in
theorem b_X1_decide (l : Launch) (D : va_G) (cy : Nat → ClassId) (A : Nat → Prop) (S : St) (h x : Nat) (hG0 : G S) (hk : sK S h = 1) (hkx : sK S x = 6) : MV l yX1_decide wsX1_decide ({ frames := 2, cells := 0, slots := 0, locals := 61 } : Room) 0 0 D cy A [.ref h, .ref x] S (fun S1 => G S1 ∧ Fr [] [104, 606, 607, 608] S S1 ∧ True) := by
  refine mt_start (cc := cX1_decide) (maxL := 2) (ret := none) (by decide) rfl (Nat.le_of_ble_eq_true rfl) ?_
  intro p e s m args below meth c hx hb hr hlk hml hown hnm hts hK hZ hA hW hS ls hl
  have hl : lv_has ls 2 [(0, .ref h), (1, .ref x)] := hl
  have hown : s.vm.findClass RX1 = some m.cls := hown
  have F : CallFix p m c cX1_decide 2 s args wsX1_decide RX1 := ⟨hx, hb, hml, hown, hts⟩
  have wi1 : ∀ w ∈ u_ws RX1 TX1 10, w ∈ wsX1_decide := by decide +kernel
  have wi6 : ∀ w ∈ u_ws RX6 TX6 10, w ∈ wsX1_decide := by decide +kernel
  have hG := hG0
  have hF : Fr [] [104, 606, 607, 608] S S := Fr.rf _ _ _
  refine lv_aload_n hx hb dX1_decide_0 rfl (lv_at hl 0 rfl) ?_
  refine pg_gi (ci := 1) (C := RX1) (T := TX1) (N := 10) hx hb hts wi1 hown hK hW hk (by decide) rfl 3 (by decide) (hts (.fieldLink RX1 25 "IceHall$Ice" "thickness" "I") (by decide +kernel)) (fun _ h9 => h9) rfl dX1_decide_1 ?_
  refine lv_sipush (v := 200) hx hb dX1_decide_4 (by decide) ?_
  refine lv_icmp_ge (tgt := 18) hx hb dX1_decide_7 (by decide) (fun c1 => ?_) (fun c1 => ?_)
  · have c1i : (200 : Int) ≤ Int32.toInt (sI S h 3) := (i3_le _ _).mp c1
    refine lv_aload_n hx hb dX1_decide_18 rfl (lv_at hl 0 rfl) ?_
    refine pg_gi (ci := 1) (C := RX1) (T := TX1) (N := 10) hx hb hts wi1 hown hK hW hk (by decide) rfl 3 (by decide) (hts (.fieldLink RX1 25 "IceHall$Ice" "thickness" "I") (by decide +kernel)) (fun _ h9 => h9) rfl dX1_decide_19 ?_
    refine lv_sipush (v := 450) hx hb dX1_decide_22 (by decide) ?_
    refine lv_icmp_le (tgt := 36) hx hb dX1_decide_25 (by decide) (fun c2 => ?_) (fun c2 => ?_)
    · have c2i : Int32.toInt (sI S h 3) ≤ (450 : Int) := (i3_le _ _).mp c2
      refine lv_aload_n hx hb dX1_decide_36 rfl (lv_at hl 0 rfl) ?_
      refine pg_gi (ci := 1) (C := RX1) (T := TX1) (N := 10) hx hb hts wi1 hown hK hW hk (by decide) rfl 4 (by decide) (hts (.fieldLink RX1 28 "IceHall$Ice" "ruts" "I") (by decide +kernel)) (fun _ h9 => h9) rfl dX1_decide_37 ?_
      refine lv_bipush (v := 60) hx hb dX1_decide_40 (by decide) ?_
      refine lv_icmp_le (tgt := 53) hx hb dX1_decide_42 (by decide) (fun c3 => ?_) (fun c3 => ?_)
      · have c3i : Int32.toInt (sI S h 4) ≤ (60 : Int) := (i3_le _ _).mp c3
        refine lv_aload_n hx hb dX1_decide_53 rfl (lv_at hl 1 rfl) ?_
        refine pc_Vv (As := []) (rest := []) F (b_X6_hold l D cy A S x hG hkx) (cwV 0 hts gX1_decide_X6_hold rfl rfl rfl (by decide +kernel) ⟨Nat.le_of_ble_eq_true rfl, Nat.le_of_ble_eq_true rfl⟩) hK hZ hA hW hS hkx (by decide) rfl rfl hl.1 rfl (Nat.le_of_ble_eq_true rfl) dX1_decide_54 ⟨Nat.le_of_ble_eq_true rfl, Nat.le_of_ble_eq_true rfl⟩ (fun T5 H locs p6 hW hS => ?_)
        obtain ⟨hG, hFc, p6⟩ := p6
        have hF : Fr [] [104, 606, 607, 608] S T5 := hF.tr (hFc.mono (by decide))
        refine lv_aload_n hx hb dX1_decide_57 rfl (lv_at hl 0 rfl) ?_
        refine lv_dup hx hb dX1_decide_58 rfl ?_
        refine pg_gi (ci := 1) (C := RX1) (T := TX1) (N := 10) hx hb hts wi1 hown hK hW (hF.k hk (by decide)) (by decide) rfl 4 (by decide) (hts (.fieldLink RX1 28 "IceHall$Ice" "ruts" "I") (by decide +kernel)) (fun _ h9 => h9) rfl dX1_decide_59 ?_
        obtain ⟨t7, zt7, yt7⟩ := hZ.1
        refine va_getsN hx hb zt7 hS hown (va_Nw.use rfl hZ.2.2.2.2.2.2.2.2.2.2.2.2.1) (fun _ h9 => h9) dX1_decide_62 ?_
        refine lv_aload_n hx hb dX1_decide_65 rfl (lv_at hl 1 rfl) ?_
        refine pg_gi (ci := 6) (C := RX6) (T := TX6) (N := 10) hx hb hts wi6 hown hK hW (hF.k hkx (by decide)) (by decide) rfl 1 (by decide) (hts (.fieldLink RX1 73 "IceHall$Session" "kind" "I") (by decide +kernel)) (fun _ h9 => h9) rfl dX1_decide_66 ?_
        refine pc_NiT (As := [.ref t7, .int (sI T5 x 1)]) (rest := [.int (sI T5 h 4), .ref h]) F (b_X8_ofKind l D cy A T5 t7 xsRuts (sI T5 x 1) (fun j => ⟨_, rfl⟩)) ⟨va_cnB 2 hts gX1_decide_X8_ofKind_n76 rfl rfl rfl hZ.2.2.2.2.2.2.2.2.1 (hts (.initialized RX8) (by decide +kernel)) (by decide +kernel) ⟨Nat.le_of_ble_eq_true rfl, Nat.le_of_ble_eq_true rfl⟩, hts (.static yX8_ofKind) (by decide +kernel), trivial⟩ hK hZ hA hW hS yt7 rfl hl.1 rfl (Nat.le_of_ble_eq_true rfl) dX1_decide_69 ⟨Nat.le_of_ble_eq_true rfl, Nat.le_of_ble_eq_true rfl⟩ (fun v8 T9 H locs p10 hW hS => ?_)
        obtain ⟨eT9, p10⟩ := p10
        rw [eT9] at hW
        clear eT9
        refine lv_iadd hx hb dX1_decide_72 ?_
        refine pg_pi (ci := 1) (C := RX1) (T := TX1) (N := 10) hx hb hts wi1 tyX1 tyX1_ok nmX1 hown hK hW hS (hF.k hk (by decide)) (by decide) rfl 4 (by decide) (hts (.fieldLink RX1 28 "IceHall$Ice" "ruts" "I") (by decide +kernel)) (fun _ h9 => h9) rfl rfl rfl dX1_decide_73 (fun H locs hW hS => ?_)
        have kq11 : sK T5 h = 1 := (hF.k hk (by decide))
        obtain ⟨S12, eS12⟩ : ∃ T : St, T = stI T5 h 4 ((sI T5 h 4) + v8) := ⟨_, rfl⟩
        rw [← eS12] at hW
        have hG : G S12 := by rw [eS12]; exact hG.I kq11 (ok_fr (by decide))
        have hF : Fr [] [104, 606, 607, 608] S S12 := by rw [eS12]; exact hF.I kq11 (by decide)
        clear eS12
        exact pc_vret (S := S12) hx hb hr hlk hK hZ hA hW hS (⟨hG, hF, trivial⟩) dX1_decide_76
      · have c3i : ¬ (Int32.toInt (sI S h 4) ≤ (60 : Int)) := fun h9 => c3 ((i3_le _ _).mpr h9)
        refine lv_aload_n hx hb dX1_decide_45 rfl (lv_at hl 1 rfl) ?_
        refine lv_iconst (v := 3) hx hb dX1_decide_46 (by decide) ?_
        refine pc_Vv (As := [.int 3]) (rest := []) F (b_X6_lose l D cy A S x 3 hG hkx) (cwV 1 hts gX1_decide_X6_lose rfl rfl rfl (by decide +kernel) ⟨Nat.le_of_ble_eq_true rfl, Nat.le_of_ble_eq_true rfl⟩) hK hZ hA hW hS hkx (by decide) rfl rfl hl.1 rfl (Nat.le_of_ble_eq_true rfl) dX1_decide_47 ⟨Nat.le_of_ble_eq_true rfl, Nat.le_of_ble_eq_true rfl⟩ (fun T14 H locs p15 hW hS => ?_)
        obtain ⟨hG, hFc, p15⟩ := p15
        have hF : Fr [] [104, 606, 607, 608] S T14 := hF.tr (hFc.mono (by decide))
        refine lv_goto (tgt := 76) hx hb dX1_decide_50 (by decide) ?_
        exact pc_vret (S := T14) hx hb hr hlk hK hZ hA hW hS (⟨hG, hF, trivial⟩) dX1_decide_76
    · have c2i : ¬ (Int32.toInt (sI S h 3) ≤ (450 : Int)) := fun h9 => c2 ((i3_le _ _).mpr h9)
      refine lv_aload_n hx hb dX1_decide_28 rfl (lv_at hl 1 rfl) ?_
      refine lv_iconst (v := 2) hx hb dX1_decide_29 (by decide) ?_
      refine pc_Vv (As := [.int 2]) (rest := []) F (b_X6_lose l D cy A S x 2 hG hkx) (cwV 1 hts gX1_decide_X6_lose rfl rfl rfl (by decide +kernel) ⟨Nat.le_of_ble_eq_true rfl, Nat.le_of_ble_eq_true rfl⟩) hK hZ hA hW hS hkx (by decide) rfl rfl hl.1 rfl (Nat.le_of_ble_eq_true rfl) dX1_decide_30 ⟨Nat.le_of_ble_eq_true rfl, Nat.le_of_ble_eq_true rfl⟩ (fun T17 H locs p18 hW hS => ?_)
      obtain ⟨hG, hFc, p18⟩ := p18
      have hF : Fr [] [104, 606, 607, 608] S T17 := hF.tr (hFc.mono (by decide))
      refine lv_goto (tgt := 76) hx hb dX1_decide_33 (by decide) ?_
      exact pc_vret (S := T17) hx hb hr hlk hK hZ hA hW hS (⟨hG, hF, trivial⟩) dX1_decide_76
  · have c1i : ¬ ((200 : Int) ≤ Int32.toInt (sI S h 3)) := fun h9 => c1 ((i3_le _ _).mpr h9)
    refine lv_aload_n hx hb dX1_decide_10 rfl (lv_at hl 1 rfl) ?_
    refine lv_iconst (v := 1) hx hb dX1_decide_11 (by decide) ?_
    refine pc_Vv (As := [.int 1]) (rest := []) F (b_X6_lose l D cy A S x 1 hG hkx) (cwV 1 hts gX1_decide_X6_lose rfl rfl rfl (by decide +kernel) ⟨Nat.le_of_ble_eq_true rfl, Nat.le_of_ble_eq_true rfl⟩) hK hZ hA hW hS hkx (by decide) rfl rfl hl.1 rfl (Nat.le_of_ble_eq_true rfl) dX1_decide_12 ⟨Nat.le_of_ble_eq_true rfl, Nat.le_of_ble_eq_true rfl⟩ (fun T20 H locs p21 hW hS => ?_)
    obtain ⟨hG, hFc, p21⟩ := p21
    have hF : Fr [] [104, 606, 607, 608] S T20 := hF.tr (hFc.mono (by decide))
    refine lv_goto (tgt := 76) hx hb dX1_decide_15 (by decide) ?_
    exact pc_vret (S := T20) hx hb hr hlk hK hZ hA hW hS (⟨hG, hF, trivial⟩) dX1_decide_76
set_option maxHeartbeats 4000000 in
set_option maxRecDepth 100000 in
theorem b_X8_heatOf_n (l : Launch) (D : va_G) (cy : Nat → ClassId) (A : Nat → Prop) (S : St)   : MI l yX8_heatOf wsX8_heatOf ({ frames := 2, cells := 0, slots := 0, locals := 61 } : Room) 0 0 D cy A [.null] S (fun r S1 => S1 = S ∧ True) := by
  refine mt_start (cc := cX8_heatOf) (maxL := 1) (ret := (some .int)) (by decide) rfl (Nat.le_of_ble_eq_true rfl) ?_
  intro p e s m args below meth c hx hb hr hlk hml hown hnm hts hK hZ hA hW hS ls hl
  have hl : lv_has ls 1 [(0, .null)] := hl
  have hown : s.vm.findClass RX8 = some m.cls := hown
  have F : CallFix p m c cX8_heatOf 1 s args wsX8_heatOf RX8 := ⟨hx, hb, hml, hown, hts⟩
  refine lv_aload_nN hx hb dX8_heatOf_0 rfl (lv_at hl 0 rfl) ?_
  refine lv_ifnonnullN hx hb dX8_heatOf_1 ?_
  refine lv_iconst (v := 0) hx hb dX8_heatOf_4 (by decide) ?_
  refine lv_goto (tgt := 18) hx hb dX8_heatOf_5 (by decide) ?_
  exact pc_iret (v := 0) (S := S) hx hb hr hlk hK hZ hA hW hS (⟨rfl, trivial⟩) dX8_heatOf_18
set_option maxHeartbeats 4000000 in
set_option maxRecDepth 100000 in
theorem b_X8_heatOf (l : Launch) (D : va_G) (cy : Nat → ClassId) (A : Nat → Prop) (S : St) (x : Nat) (hkx : sK S x = 6) : MI l yX8_heatOf wsX8_heatOf ({ frames := 2, cells := 0, slots := 0, locals := 61 } : Room) 0 0 D cy A [.ref x] S (fun r S1 => S1 = S ∧ True) := by
  refine mt_start (cc := cX8_heatOf) (maxL := 1) (ret := (some .int)) (by decide) rfl (Nat.le_of_ble_eq_true rfl) ?_
  intro p e s m args below meth c hx hb hr hlk hml hown hnm hts hK hZ hA hW hS ls hl
  have hl : lv_has ls 1 [(0, .ref x)] := hl
  have hown : s.vm.findClass RX8 = some m.cls := hown
  have F : CallFix p m c cX8_heatOf 1 s args wsX8_heatOf RX8 := ⟨hx, hb, hml, hown, hts⟩
  have wi6 : ∀ w ∈ u_ws RX6 TX6 10, w ∈ wsX8_heatOf := by decide +kernel
  refine lv_aload_n hx hb dX8_heatOf_0 rfl (lv_at hl 0 rfl) ?_
  refine lv_ifnonnull (tgt := 8) hx hb dX8_heatOf_1 (by decide) ?_
  obtain ⟨t1, zt1, yt1⟩ := hZ.2.1
  refine va_gets hx hb zt1 hS hown (hts (.fieldLink RX8 274 "IceHall" "HEAT_OF_KIND" "[I") (by decide +kernel)) (fun _ h9 => h9) dX8_heatOf_8 ?_
  refine lv_aload_n hx hb dX8_heatOf_11 rfl (lv_at hl 0 rfl) ?_
  refine pg_gi (ci := 6) (C := RX6) (T := TX6) (N := 10) hx hb hts wi6 hown hK hW hkx (by decide) rfl 1 (by decide) (hts (.fieldLink RX8 228 "IceHall$Session" "kind" "I") (by decide +kernel)) (fun _ h9 => h9) rfl dX8_heatOf_12 ?_
  refine pc_SiT (As := [.ref t1, .int (sI S x 1)]) (rest := []) F (b_X8_ofKind l D cy A S t1 xsHeat (sI S x 1) (fun j => ⟨_, rfl⟩)) (va_cwS 2 hts gX8_heatOf_X8_ofKind rfl rfl rfl (by decide +kernel) ⟨Nat.le_of_ble_eq_true rfl, Nat.le_of_ble_eq_true rfl⟩) hK hZ hA hW hS yt1 rfl hl.1 rfl (Nat.le_of_ble_eq_true rfl) dX8_heatOf_15 ⟨Nat.le_of_ble_eq_true rfl, Nat.le_of_ble_eq_true rfl⟩ (fun v2 T3 H locs p4 hW hS => ?_)
  obtain ⟨eT3, p4⟩ := p4
  rw [eT3] at hW
  clear eT3
  exact pc_iret (v := v2) (S := S) hx hb hr hlk hK hZ hA hW hS (⟨rfl, trivial⟩) dX8_heatOf_18
set_option maxHeartbeats 4000000 in
set_option maxRecDepth 100000 in
theorem b_X8_iceOf (l : Launch) (D : va_G) (cy : Nat → ClassId) (A : Nat → Prop) (S : St) (h : Nat) (a : Int32) (hG0 : G S) (hk : sK S h = 8) : MR l yX8_iceOf wsX8_iceOf ({ frames := 0, cells := 0, slots := 0, locals := 0 } : Room) 0 0 D cy A [.ref h, .int a] S (fun r S1 => S1 = S ∧ (∃ b, r = some b ∧ sK S b = 1)) := by
  refine mt_start (cc := cX8_iceOf) (maxL := 2) (ret := (some (.object "IceHall$Ice"))) (by decide) rfl (Nat.le_of_ble_eq_true rfl) ?_
  intro p e s m args below meth c hx hb hr hlk hml hown hnm hts hK hZ hA hW hS ls hl
  have hl : lv_has ls 2 [(0, .ref h), (1, .int a)] := hl
  have hown : s.vm.findClass RX8 = some m.cls := hown
  have F : CallFix p m c cX8_iceOf 2 s args wsX8_iceOf RX8 := ⟨hx, hb, hml, hown, hts⟩
  have wi8 : ∀ w ∈ u_ws RX8 TX8 18, w ∈ wsX8_iceOf := by decide +kernel
  have hG := hG0
  refine lv_iload_n hx hb dX8_iceOf_0 rfl (lv_at hl 1 rfl) ?_
  refine lv_if_ne (tgt := 11) hx hb dX8_iceOf_1 (by decide) (fun c1 => ?_) (fun c1 => ?_)
  · have c1i : ¬ (Int32.toInt a = (0 : Int)) := fun h9 => c1 ((i3_eq _ _).mpr h9)
    refine lv_aload_n hx hb dX8_iceOf_11 rfl (lv_at hl 0 rfl) ?_
    obtain ⟨b2, rb2, kb2, nb2⟩ := hG0.r hk List.not_mem_nil 1 (show rty 8 1 = some (1, 0) from rfl)
    refine pg_gr (b := b2) (ci := 8) (C := RX8) (T := TX8) (N := 18) hx hb hts wi8 hown hK hW hk (by decide) rfl 1 (by decide) (hts (.fieldLink RX8 16 "IceHall" "secondIce" "LIceHall$Ice;") (by decide +kernel)) (fun _ h9 => h9) rfl rb2 dX8_iceOf_12 ?_
    exact pc_aret (v := some b2) (S := S) hx hb hr hlk hK hZ hA hW hS (⟨rfl, ⟨b2, rfl, kb2⟩⟩) dX8_iceOf_15
  · have c1i : Int32.toInt a = (0 : Int) := (i3_eq _ _).mp c1
    refine lv_aload_n hx hb dX8_iceOf_4 rfl (lv_at hl 0 rfl) ?_
    obtain ⟨b3, rb3, kb3, nb3⟩ := hG0.r hk List.not_mem_nil 0 (show rty 8 0 = some (1, 0) from rfl)
    refine pg_gr (b := b3) (ci := 8) (C := RX8) (T := TX8) (N := 18) hx hb hts wi8 hown hK hW hk (by decide) rfl 0 (by decide) (hts (.fieldLink RX8 10 "IceHall" "firstIce" "LIceHall$Ice;") (by decide +kernel)) (fun _ h9 => h9) rfl rb3 dX8_iceOf_5 ?_
    refine lv_goto (tgt := 15) hx hb dX8_iceOf_8 (by decide) ?_
    exact pc_aret (v := some b3) (S := S) hx hb hr hlk hK hZ hA hW hS (⟨rfl, ⟨b3, rfl, kb3⟩⟩) dX8_iceOf_15
set_option maxHeartbeats 4000000 in
set_option maxRecDepth 100000 in
theorem b_X8_sessionOf (l : Launch) (D : va_G) (cy : Nat → ClassId) (A : Nat → Prop) (S : St) (h : Nat) (a : Int32) (hG0 : G S) (hk : sK S h = 8) : MR l yX8_sessionOf wsX8_sessionOf ({ frames := 0, cells := 0, slots := 0, locals := 0 } : Room) 0 0 D cy A [.ref h, .int a] S (fun r S1 => S1 = S ∧ (r = none ∨ ∃ b, r = some b ∧ sK S b = 6)) := by
  refine mt_start (cc := cX8_sessionOf) (maxL := 2) (ret := (some (.object "IceHall$Session"))) (by decide) rfl (Nat.le_of_ble_eq_true rfl) ?_
  intro p e s m args below meth c hx hb hr hlk hml hown hnm hts hK hZ hA hW hS ls hl
  have hl : lv_has ls 2 [(0, .ref h), (1, .int a)] := hl
  have hown : s.vm.findClass RX8 = some m.cls := hown
  have F : CallFix p m c cX8_sessionOf 2 s args wsX8_sessionOf RX8 := ⟨hx, hb, hml, hown, hts⟩
  have wi8 : ∀ w ∈ u_ws RX8 TX8 18, w ∈ wsX8_sessionOf := by decide +kernel
  have hG := hG0
  refine lv_iload_n hx hb dX8_sessionOf_0 rfl (lv_at hl 1 rfl) ?_
  refine lv_if_lt (tgt := 28) hx hb dX8_sessionOf_1 (by decide) (fun c1 => ?_) (fun c1 => ?_)
  · have c1i : Int32.toInt a < (0 : Int) := (i3_lt _ _).mp c1
    refine lv_null hx hb dX8_sessionOf_28 ?_
    exact pc_aret (v := none) (S := S) hx hb hr hlk hK hZ hA hW hS (⟨rfl, Or.inl rfl⟩) dX8_sessionOf_29
  · have c1i : ¬ (Int32.toInt a < (0 : Int)) := fun h9 => c1 ((i3_lt _ _).mpr h9)
    refine lv_iload_n hx hb dX8_sessionOf_4 rfl (lv_at hl 1 rfl) ?_
    refine lv_aload_n hx hb dX8_sessionOf_5 rfl (lv_at hl 0 rfl) ?_
    refine pg_gi (ci := 8) (C := RX8) (T := TX8) (N := 18) hx hb hts wi8 hown hK hW hk (by decide) rfl 9 (by decide) (hts (.fieldLink RX8 99 "IceHall" "everBooked" "I") (by decide +kernel)) (fun _ h9 => h9) rfl dX8_sessionOf_6 ?_
    have g2 : (0 : Int) ≤ (sI S h 9).toInt ∧ (sI S h 9).toInt ≤ 200 := hG.i hk (by decide) 9 (by decide)
    refine lv_icmp_ge (tgt := 28) hx hb dX8_sessionOf_9 (by decide) (fun c3 => ?_) (fun c3 => ?_)
    · have c3i : Int32.toInt (sI S h 9) ≤ Int32.toInt a := (i3_le _ _).mp c3
      refine lv_null hx hb dX8_sessionOf_28 ?_
      exact pc_aret (v := none) (S := S) hx hb hr hlk hK hZ hA hW hS (⟨rfl, Or.inl rfl⟩) dX8_sessionOf_29
    · have c3i : ¬ (Int32.toInt (sI S h 9) ≤ Int32.toInt a) := fun h9 => c3 ((i3_le _ _).mpr h9)
      refine lv_iload_n hx hb dX8_sessionOf_12 rfl (lv_at hl 1 rfl) ?_
      refine lv_sipush (v := 200) hx hb dX8_sessionOf_13 (by decide) ?_
      refine lv_icmp_ge (tgt := 28) hx hb dX8_sessionOf_16 (by decide) (fun c4 => ?_) (fun c4 => ?_)
      · have c4i : (200 : Int) ≤ Int32.toInt a := (i3_le _ _).mp c4
        refine lv_null hx hb dX8_sessionOf_28 ?_
        exact pc_aret (v := none) (S := S) hx hb hr hlk hK hZ hA hW hS (⟨rfl, Or.inl rfl⟩) dX8_sessionOf_29
      · have c4i : ¬ ((200 : Int) ≤ Int32.toInt a) := fun h9 => c4 ((i3_le _ _).mpr h9)
        refine lv_aload_n hx hb dX8_sessionOf_19 rfl (lv_at hl 0 rfl) ?_
        obtain ⟨b5, rb5, kb5, nb5⟩ := hG0.r hk List.not_mem_nil 3 (show rty 8 3 = some (15, 200) from rfl)
        refine pg_gr (b := b5) (ci := 8) (C := RX8) (T := TX8) (N := 18) hx hb hts wi8 hown hK hW hk (by decide) rfl 3 (by decide) (hts (.fieldLink RX8 28 "IceHall" "sessions" "[LIceHall$Session;") (by decide +kernel)) (fun _ h9 => h9) rfl rb5 dX8_sessionOf_20 ?_
        refine lv_iload_n hx hb dX8_sessionOf_23 rfl (lv_at hl 1 rfl) ?_
        refine pg_aaldS hx hb hK hW kb5 (by rw [show sL S b5 = 200 from nb5]; exact r_in (by omega)) dX8_sessionOf_24 ?_
        rcases o6 : sR S b5 (Int32.toNatClampNeg a) with _ | b7
        · refine lv_goto (tgt := 29) hx hb dX8_sessionOf_25 (by decide) ?_
          exact pc_aret (v := none) (S := S) hx hb hr hlk hK hZ hA hW hS (⟨rfl, Or.inl rfl⟩) dX8_sessionOf_29
        · have kb7 : sK S b7 = 6 := hG.2.2.1 _ _ _ kb5 o6
          refine lv_goto (tgt := 29) hx hb dX8_sessionOf_25 (by decide) ?_
          exact pc_aret (v := some b7) (S := S) hx hb hr hlk hK hZ hA hW hS (⟨rfl, Or.inr ⟨b7, rfl, kb7⟩⟩) dX8_sessionOf_29
set_option maxHeartbeats 4000000 in
set_option maxRecDepth 100000 in
theorem b_X8_numberAt (l : Launch) (D : va_G) (cy : Nat → ClassId) (A : Nat → Prop) (S : St) (h : Nat) (a b : Int32) (hG0 : G S) (hk : sK S h = 8) : MI l yX8_numberAt wsX8_numberAt ({ frames := 1, cells := 0, slots := 0, locals := 21 } : Room) 0 0 D cy A [.ref h, .int a, .int b] S (fun r S1 => S1 = S ∧ True) := by
  refine mt_start (cc := cX8_numberAt) (maxL := 5) (ret := (some .int)) (by decide) rfl (Nat.le_of_ble_eq_true rfl) ?_
  intro p e s m args below meth c hx hb hr hlk hml hown hnm hts hK hZ hA hW hS ls hl
  have hl : lv_has ls 5 [(0, .ref h), (1, .int a), (2, .int b)] := hl
  have hown : s.vm.findClass RX8 = some m.cls := hown
  have F : CallFix p m c cX8_numberAt 5 s args wsX8_numberAt RX8 := ⟨hx, hb, hml, hown, hts⟩
  have wi1 : ∀ w ∈ u_ws RX1 TX1 10, w ∈ wsX8_numberAt := by decide +kernel
  have wi6 : ∀ w ∈ u_ws RX6 TX6 10, w ∈ wsX8_numberAt := by decide +kernel
  have wi8 : ∀ w ∈ u_ws RX8 TX8 18, w ∈ wsX8_numberAt := by decide +kernel
  have hG := hG0
  refine lv_aload_n hx hb dX8_numberAt_0 rfl (lv_at hl 0 rfl) ?_
  refine lv_iload_n hx hb dX8_numberAt_1 rfl (lv_at hl 1 rfl) ?_
  refine pc_Vq (As := [.int a]) (rest := []) F (b_X8_iceOf l D cy A S h a hG hk) (cwV 1 hts gX8_numberAt_X8_iceOf rfl rfl rfl (by decide +kernel) ⟨Nat.le_of_ble_eq_true rfl, Nat.le_of_ble_eq_true rfl⟩) hK hZ hA hW hS hk (by decide) rfl rfl hl.1 rfl (Nat.le_of_ble_eq_true rfl) dX8_numberAt_2 ⟨Nat.le_of_ble_eq_true rfl, Nat.le_of_ble_eq_true rfl⟩ (fun v1 T2 H locs p3 hW hS => ?_)
  obtain ⟨eT2, p3⟩ := p3
  rw [eT2] at hW
  obtain ⟨b4, erb4, kb4⟩ := p3
  rw [erb4]
  obtain ⟨b5, rb5, kb5, nb5⟩ := hG0.r kb4 List.not_mem_nil 0 (show rty 1 0 = some (0, 0) from rfl)
  refine pg_gr (b := b5) (ci := 1) (C := RX1) (T := TX1) (N := 10) hx hb hts wi1 hown hK hW kb4 (by decide) rfl 0 (by decide) (hts (.fieldLink RX8 119 "IceHall$Ice" "taken" "LIceHall$HourSet;") (by decide +kernel)) (fun _ h9 => h9) rfl rb5 dX8_numberAt_5 ?_
  refine lv_iload_n hx hb dX8_numberAt_8 rfl (lv_at hl 2 rfl) ?_
  refine pc_Vi (As := [.int b]) (rest := []) F (b_X0_has l D cy A S b5 b hG kb5) (cwV 1 hts gX8_numberAt_X0_has rfl rfl rfl (by decide +kernel) ⟨Nat.le_of_ble_eq_true rfl, Nat.le_of_ble_eq_true rfl⟩) hK hZ hA hW hS kb5 (by decide) rfl rfl hl.1 rfl (Nat.le_of_ble_eq_true rfl) dX8_numberAt_9 ⟨Nat.le_of_ble_eq_true rfl, Nat.le_of_ble_eq_true rfl⟩ (fun v6 T7 H locs p8 hW hS => ?_)
  obtain ⟨eT7, p8⟩ := p8
  rw [eT7] at hW
  clear eT7
  refine lv_if_ne (tgt := 17) hx hb dX8_numberAt_12 (by decide) (fun c9 => ?_) (fun c9 => ?_)
  · have c9i : ¬ (Int32.toInt v6 = (0 : Int)) := fun h9 => c9 ((i3_eq _ _).mpr h9)
    refine lv_iconst (v := 0) hx hb dX8_numberAt_17 (by decide) ?_
    refine lv_istore_n (lv' := [(3, .int 0), (0, .ref h), (1, .int a), (2, .int b)]) hx hb dX8_numberAt_18 rfl hl (by decide) rfl (fun ls hl => ?_)
    have loop19 : ∀ (zn : Nat) (y : Int32) (H : Heap) (locs : List Loc) (ls : Array Slot), (0 ≤ y.toInt) → (200 - y.toInt).toNat < zn → PW D cy A S H → va_S A s.heap H locs → lv_has ls 5 [(0, .ref h), (1, .int a), (2, .int b), (3, .int y)] → W p l e ({ frames := 1, cells := 0, slots := 0, locals := 21 } : Room) s m args below meth c H locs 0 0 (MQ below (va_Qi (fun r S1 => S1 = S ∧ True) (PU D cy A) A) args s 0 0 A) (F0 m 19 ls []) := by
      intro zn
      induction zn with
      | zero => intros; exact absurd (by assumption) (Nat.not_lt_zero _)
      | succ zn ih19 =>
        intro y H locs ls hy0 hme19 hW hS hl
        refine lv_iload_n hx hb dX8_numberAt_19 rfl (lv_at hl 3 rfl) ?_
        refine lv_aload_n hx hb dX8_numberAt_20 rfl (lv_at hl 0 rfl) ?_
        refine pg_gi (ci := 8) (C := RX8) (T := TX8) (N := 18) hx hb hts wi8 hown hK hW hk (by decide) rfl 9 (by decide) (hts (.fieldLink RX8 99 "IceHall" "everBooked" "I") (by decide +kernel)) (fun _ h9 => h9) rfl dX8_numberAt_21 ?_
        have g10 : (0 : Int) ≤ (sI S h 9).toInt ∧ (sI S h 9).toInt ≤ 200 := hG.i hk (by decide) 9 (by decide)
        refine lv_icmp_ge (tgt := 73) hx hb dX8_numberAt_24 (by decide) (fun c11 => ?_) (fun c11 => ?_)
        · have c11i : Int32.toInt (sI S h 9) ≤ Int32.toInt y := (i3_le _ _).mp c11
          refine lv_iconst (v := (-1)) hx hb dX8_numberAt_73 (by decide) ?_
          exact pc_iret (v := (-1)) (S := S) hx hb hr hlk hK hZ hA hW hS (⟨rfl, trivial⟩) dX8_numberAt_74
        · have c11i : ¬ (Int32.toInt (sI S h 9) ≤ Int32.toInt y) := fun h9 => c11 ((i3_le _ _).mpr h9)
          refine lv_aload_n hx hb dX8_numberAt_27 rfl (lv_at hl 0 rfl) ?_
          refine lv_iload_n hx hb dX8_numberAt_28 rfl (lv_at hl 3 rfl) ?_
          refine pc_Vq (As := [.int y]) (rest := []) F (b_X8_sessionOf l D cy A S h y hG hk) (cwV 1 hts gX8_numberAt_X8_sessionOf rfl rfl rfl (by decide +kernel) ⟨Nat.le_of_ble_eq_true rfl, Nat.le_of_ble_eq_true rfl⟩) hK hZ hA hW hS hk (by decide) rfl rfl hl.1 rfl (Nat.le_of_ble_eq_true rfl) dX8_numberAt_29 ⟨Nat.le_of_ble_eq_true rfl, Nat.le_of_ble_eq_true rfl⟩ (fun v12 T13 H locs p14 hW hS => ?_)
          obtain ⟨eT13, p14⟩ := p14
          rw [eT13] at hW
          rcases p14 with erb15 | ⟨b15, erb15, kb15⟩
          · rw [erb15]
            refine lv_astoreN (lv' := [(4, .null), (0, .ref h), (1, .int a), (2, .int b), (3, .int y)]) hx hb dX8_numberAt_32 hl (by decide) rfl (fun ls hl => ?_)
            refine lv_aloadN hx hb dX8_numberAt_34 (lv_at hl 0 rfl) ?_
            refine lv_ifnullN (tgt := 67) hx hb dX8_numberAt_36 (by decide) ?_
            refine lv_iinc (v := y + 1) (lv' := [(3, .int (y + 1)), (4, .null), (0, .ref h), (1, .int a), (2, .int b)]) hx hb dX8_numberAt_67 hl (k := 4) rfl rfl (by decide) rfl (fun ls hl => ?_)
            have i16 : (y + 1).toInt = (y).toInt + 1 := i3_add rfl rfl (by omega) (by omega)
            refine lv_goto (tgt := 19) hx hb dX8_numberAt_70 (by decide) ?_
            exact ih19 (y + 1) _ _ ls (by omega) (by omega) hW hS (lv_cast (lv_sub hl [2, 3, 4, 0] rfl) (rfl))
          · rw [erb15]
            refine lv_astore (lv' := [(4, .ref b15), (0, .ref h), (1, .int a), (2, .int b), (3, .int y)]) hx hb dX8_numberAt_32 hl (by decide) rfl (fun ls hl => ?_)
            refine lv_aload hx hb dX8_numberAt_34 (lv_at hl 0 rfl) ?_
            refine lv_ifnull hx hb dX8_numberAt_36 ?_
            refine lv_aload hx hb dX8_numberAt_39 (lv_at hl 0 rfl) ?_
            refine pc_Vi (As := []) (rest := []) F (b_X6_stands l D cy A S b15 hG kb15) (cwV 0 hts gX8_numberAt_X6_stands rfl rfl rfl (by decide +kernel) ⟨Nat.le_of_ble_eq_true rfl, Nat.le_of_ble_eq_true rfl⟩) hK hZ hA hW hS kb15 (by decide) rfl rfl hl.1 rfl (Nat.le_of_ble_eq_true rfl) dX8_numberAt_41 ⟨Nat.le_of_ble_eq_true rfl, Nat.le_of_ble_eq_true rfl⟩ (fun v17 T18 H locs p19 hW hS => ?_)
            obtain ⟨eT18, p19⟩ := p19
            rw [eT18] at hW
            clear eT18
            refine lv_if_eq (tgt := 67) hx hb dX8_numberAt_44 (by decide) (fun c20 => ?_) (fun c20 => ?_)
            · have c20i : Int32.toInt v17 = (0 : Int) := (i3_eq _ _).mp c20
              refine lv_iinc (v := y + 1) (lv' := [(3, .int (y + 1)), (4, .ref b15), (0, .ref h), (1, .int a), (2, .int b)]) hx hb dX8_numberAt_67 hl (k := 4) rfl rfl (by decide) rfl (fun ls hl => ?_)
              have i21 : (y + 1).toInt = (y).toInt + 1 := i3_add rfl rfl (by omega) (by omega)
              refine lv_goto (tgt := 19) hx hb dX8_numberAt_70 (by decide) ?_
              exact ih19 (y + 1) _ _ ls (by omega) (by omega) hW hS (lv_cast (lv_sub hl [2, 3, 4, 0] rfl) (rfl))
            · have c20i : ¬ (Int32.toInt v17 = (0 : Int)) := fun h9 => c20 ((i3_eq _ _).mpr h9)
              refine lv_aload hx hb dX8_numberAt_47 (lv_at hl 0 rfl) ?_
              refine pg_gi (ci := 6) (C := RX6) (T := TX6) (N := 10) hx hb hts wi6 hown hK hW kb15 (by decide) rfl 4 (by decide) (hts (.fieldLink RX8 138 "IceHall$Session" "onSheet" "I") (by decide +kernel)) (fun _ h9 => h9) rfl dX8_numberAt_49 ?_
              refine lv_iload_n hx hb dX8_numberAt_52 rfl (lv_at hl 2 rfl) ?_
              refine lv_icmp_ne (tgt := 67) hx hb dX8_numberAt_53 (by decide) (fun c22 => ?_) (fun c22 => ?_)
              · have c22i : ¬ (Int32.toInt (sI S b15 4) = Int32.toInt a) := fun h9 => c22 ((i3_eq _ _).mpr h9)
                refine lv_iinc (v := y + 1) (lv' := [(3, .int (y + 1)), (4, .ref b15), (0, .ref h), (1, .int a), (2, .int b)]) hx hb dX8_numberAt_67 hl (k := 4) rfl rfl (by decide) rfl (fun ls hl => ?_)
                have i23 : (y + 1).toInt = (y).toInt + 1 := i3_add rfl rfl (by omega) (by omega)
                refine lv_goto (tgt := 19) hx hb dX8_numberAt_70 (by decide) ?_
                exact ih19 (y + 1) _ _ ls (by omega) (by omega) hW hS (lv_cast (lv_sub hl [2, 3, 4, 0] rfl) (rfl))
              · have c22i : Int32.toInt (sI S b15 4) = Int32.toInt a := (i3_eq _ _).mp c22
                refine lv_aload hx hb dX8_numberAt_56 (lv_at hl 0 rfl) ?_
                refine pg_gi (ci := 6) (C := RX6) (T := TX6) (N := 10) hx hb hts wi6 hown hK hW kb15 (by decide) rfl 5 (by decide) (hts (.fieldLink RX8 141 "IceHall$Session" "hour" "I") (by decide +kernel)) (fun _ h9 => h9) rfl dX8_numberAt_58 ?_
                refine lv_iload_n hx hb dX8_numberAt_61 rfl (lv_at hl 3 rfl) ?_
                refine lv_icmp_ne (tgt := 67) hx hb dX8_numberAt_62 (by decide) (fun c24 => ?_) (fun c24 => ?_)
                · have c24i : ¬ (Int32.toInt (sI S b15 5) = Int32.toInt b) := fun h9 => c24 ((i3_eq _ _).mpr h9)
                  refine lv_iinc (v := y + 1) (lv' := [(3, .int (y + 1)), (4, .ref b15), (0, .ref h), (1, .int a), (2, .int b)]) hx hb dX8_numberAt_67 hl (k := 4) rfl rfl (by decide) rfl (fun ls hl => ?_)
                  have i25 : (y + 1).toInt = (y).toInt + 1 := i3_add rfl rfl (by omega) (by omega)
                  refine lv_goto (tgt := 19) hx hb dX8_numberAt_70 (by decide) ?_
                  exact ih19 (y + 1) _ _ ls (by omega) (by omega) hW hS (lv_cast (lv_sub hl [2, 3, 4, 0] rfl) (rfl))
                · have c24i : Int32.toInt (sI S b15 5) = Int32.toInt b := (i3_eq _ _).mp c24
                  refine lv_iload_n hx hb dX8_numberAt_65 rfl (lv_at hl 4 rfl) ?_
                  exact pc_iret (v := y) (S := S) hx hb hr hlk hK hZ hA hW hS (⟨rfl, trivial⟩) dX8_numberAt_66
    exact loop19 _ 0 _ _ ls (by decide) (Nat.lt_succ_self _) hW hS (lv_cast (lv_sub hl [1, 2, 3, 0] rfl) (rfl))
  · have c9i : Int32.toInt v6 = (0 : Int) := (i3_eq _ _).mp c9
    refine lv_iconst (v := (-1)) hx hb dX8_numberAt_15 (by decide) ?_
    exact pc_iret (v := (-1)) (S := S) hx hb hr hlk hK hZ hA hW hS (⟨rfl, trivial⟩) dX8_numberAt_16
set_option maxHeartbeats 4000000 in
set_option maxRecDepth 100000 in
theorem b_X8_standingAt (l : Launch) (D : va_G) (cy : Nat → ClassId) (A : Nat → Prop) (S : St) (h : Nat) (a b : Int32) (hG0 : G S) (hk : sK S h = 8) : MR l yX8_standingAt wsX8_standingAt ({ frames := 2, cells := 0, slots := 0, locals := 45 } : Room) 0 0 D cy A [.ref h, .int a, .int b] S (fun r S1 => S1 = S ∧ (r = none ∨ ∃ b, r = some b ∧ sK S b = 6)) := by
  refine mt_start (cc := cX8_standingAt) (maxL := 3) (ret := (some (.object "IceHall$Session"))) (by decide) rfl (Nat.le_of_ble_eq_true rfl) ?_
  intro p e s m args below meth c hx hb hr hlk hml hown hnm hts hK hZ hA hW hS ls hl
  have hl : lv_has ls 3 [(0, .ref h), (1, .int a), (2, .int b)] := hl
  have hown : s.vm.findClass RX8 = some m.cls := hown
  have F : CallFix p m c cX8_standingAt 3 s args wsX8_standingAt RX8 := ⟨hx, hb, hml, hown, hts⟩
  have hG := hG0
  refine lv_aload_n hx hb dX8_standingAt_0 rfl (lv_at hl 0 rfl) ?_
  refine lv_aload_n hx hb dX8_standingAt_1 rfl (lv_at hl 0 rfl) ?_
  refine lv_iload_n hx hb dX8_standingAt_2 rfl (lv_at hl 1 rfl) ?_
  refine lv_iload_n hx hb dX8_standingAt_3 rfl (lv_at hl 2 rfl) ?_
  refine pc_Vi (As := [.int a, .int b]) (rest := [.ref h]) F (b_X8_numberAt l D cy A S h a b hG hk) (cwV 2 hts gX8_standingAt_X8_numberAt rfl rfl rfl (by decide +kernel) ⟨Nat.le_of_ble_eq_true rfl, Nat.le_of_ble_eq_true rfl⟩) hK hZ hA hW hS hk (by decide) rfl rfl hl.1 rfl (Nat.le_of_ble_eq_true rfl) dX8_standingAt_4 ⟨Nat.le_of_ble_eq_true rfl, Nat.le_of_ble_eq_true rfl⟩ (fun v1 T2 H locs p3 hW hS => ?_)
  obtain ⟨eT2, p3⟩ := p3
  rw [eT2] at hW
  clear eT2
  refine pc_Vq (As := [.int v1]) (rest := []) F (b_X8_sessionOf l D cy A S h v1 hG hk) (cwV 1 hts gX8_standingAt_X8_sessionOf rfl rfl rfl (by decide +kernel) ⟨Nat.le_of_ble_eq_true rfl, Nat.le_of_ble_eq_true rfl⟩) hK hZ hA hW hS hk (by decide) rfl rfl hl.1 rfl (Nat.le_of_ble_eq_true rfl) dX8_standingAt_7 ⟨Nat.le_of_ble_eq_true rfl, Nat.le_of_ble_eq_true rfl⟩ (fun v4 T5 H locs p6 hW hS => ?_)
  obtain ⟨eT5, p6⟩ := p6
  rw [eT5] at hW
  rcases p6 with erb7 | ⟨b7, erb7, kb7⟩
  · rw [erb7]
    exact pc_aret (v := none) (S := S) hx hb hr hlk hK hZ hA hW hS (⟨rfl, Or.inl rfl⟩) dX8_standingAt_10
  · rw [erb7]
    exact pc_aret (v := some b7) (S := S) hx hb hr hlk hK hZ hA hW hS (⟨rfl, Or.inr ⟨b7, rfl, kb7⟩⟩) dX8_standingAt_10
set_option maxHeartbeats 4000000 in
set_option maxRecDepth 100000 in
theorem b_X8_countInWeek (l : Launch) (D : va_G) (cy : Nat → ClassId) (A : Nat → Prop) (S : St) (h : Nat) (a b : Int32) (hG0 : G S) (hk : sK S h = 8) : MI l yX8_countInWeek wsX8_countInWeek ({ frames := 1, cells := 0, slots := 0, locals := 21 } : Room) 0 0 D cy A [.ref h, .int a, .int b] S (fun r S1 => S1 = S ∧ True) := by
  refine mt_start (cc := cX8_countInWeek) (maxL := 6) (ret := (some .int)) (by decide) rfl (Nat.le_of_ble_eq_true rfl) ?_
  intro p e s m args below meth c hx hb hr hlk hml hown hnm hts hK hZ hA hW hS ls hl
  have hl : lv_has ls 6 [(0, .ref h), (1, .int a), (2, .int b)] := hl
  have hown : s.vm.findClass RX8 = some m.cls := hown
  have F : CallFix p m c cX8_countInWeek 6 s args wsX8_countInWeek RX8 := ⟨hx, hb, hml, hown, hts⟩
  have wi6 : ∀ w ∈ u_ws RX6 TX6 10, w ∈ wsX8_countInWeek := by decide +kernel
  have wi8 : ∀ w ∈ u_ws RX8 TX8 18, w ∈ wsX8_countInWeek := by decide +kernel
  have hG := hG0
  refine lv_iconst (v := 0) hx hb dX8_countInWeek_0 (by decide) ?_
  refine lv_istore_n (lv' := [(3, .int 0), (0, .ref h), (1, .int a), (2, .int b)]) hx hb dX8_countInWeek_1 rfl hl (by decide) rfl (fun ls hl => ?_)
  refine lv_iconst (v := 0) hx hb dX8_countInWeek_2 (by decide) ?_
  refine lv_istore (lv' := [(4, .int 0), (3, .int 0), (0, .ref h), (1, .int a), (2, .int b)]) hx hb dX8_countInWeek_3 hl (by decide) rfl (fun ls hl => ?_)
  have loop5 : ∀ (zn : Nat) (y : Int32) (z : Int32) (H : Heap) (locs : List Loc) (ls : Array Slot), (0 ≤ y.toInt) → (200 - y.toInt).toNat < zn → PW D cy A S H → va_S A s.heap H locs → lv_has ls 6 [(0, .ref h), (1, .int a), (2, .int b), (3, .int z), (4, .int y)] → W p l e ({ frames := 1, cells := 0, slots := 0, locals := 21 } : Room) s m args below meth c H locs 0 0 (MQ below (va_Qi (fun r S1 => S1 = S ∧ True) (PU D cy A) A) args s 0 0 A) (F0 m 5 ls []) := by
    intro zn
    induction zn with
    | zero => intros; exact absurd (by assumption) (Nat.not_lt_zero _)
    | succ zn ih5 =>
      intro y z H locs ls hy0 hme5 hW hS hl
      refine lv_iload hx hb dX8_countInWeek_5 (lv_at hl 4 rfl) ?_
      refine lv_aload_n hx hb dX8_countInWeek_7 rfl (lv_at hl 0 rfl) ?_
      refine pg_gi (ci := 8) (C := RX8) (T := TX8) (N := 18) hx hb hts wi8 hown hK hW hk (by decide) rfl 9 (by decide) (hts (.fieldLink RX8 99 "IceHall" "everBooked" "I") (by decide +kernel)) (fun _ h9 => h9) rfl dX8_countInWeek_8 ?_
      have g1 : (0 : Int) ≤ (sI S h 9).toInt ∧ (sI S h 9).toInt ≤ 200 := hG.i hk (by decide) 9 (by decide)
      refine lv_icmp_ge (tgt := 66) hx hb dX8_countInWeek_11 (by decide) (fun c2 => ?_) (fun c2 => ?_)
      · have c2i : Int32.toInt (sI S h 9) ≤ Int32.toInt y := (i3_le _ _).mp c2
        refine lv_iload_n hx hb dX8_countInWeek_66 rfl (lv_at hl 3 rfl) ?_
        exact pc_iret (v := z) (S := S) hx hb hr hlk hK hZ hA hW hS (⟨rfl, trivial⟩) dX8_countInWeek_67
      · have c2i : ¬ (Int32.toInt (sI S h 9) ≤ Int32.toInt y) := fun h9 => c2 ((i3_le _ _).mpr h9)
        refine lv_aload_n hx hb dX8_countInWeek_14 rfl (lv_at hl 0 rfl) ?_
        refine lv_iload hx hb dX8_countInWeek_15 (lv_at hl 4 rfl) ?_
        refine pc_Vq (As := [.int y]) (rest := []) F (b_X8_sessionOf l D cy A S h y hG hk) (cwV 1 hts gX8_countInWeek_X8_sessionOf rfl rfl rfl (by decide +kernel) ⟨Nat.le_of_ble_eq_true rfl, Nat.le_of_ble_eq_true rfl⟩) hK hZ hA hW hS hk (by decide) rfl rfl hl.1 rfl (Nat.le_of_ble_eq_true rfl) dX8_countInWeek_17 ⟨Nat.le_of_ble_eq_true rfl, Nat.le_of_ble_eq_true rfl⟩ (fun v3 T4 H locs p5 hW hS => ?_)
        obtain ⟨eT4, p5⟩ := p5
        rw [eT4] at hW
        rcases p5 with erb6 | ⟨b6, erb6, kb6⟩
        · rw [erb6]
          refine lv_astoreN (lv' := [(5, .null), (0, .ref h), (1, .int a), (2, .int b), (3, .int z), (4, .int y)]) hx hb dX8_countInWeek_20 hl (by decide) rfl (fun ls hl => ?_)
          refine lv_aloadN hx hb dX8_countInWeek_22 (lv_at hl 0 rfl) ?_
          refine lv_ifnullN (tgt := 60) hx hb dX8_countInWeek_24 (by decide) ?_
          refine lv_iinc (v := y + 1) (lv' := [(4, .int (y + 1)), (5, .null), (0, .ref h), (1, .int a), (2, .int b), (3, .int z)]) hx hb dX8_countInWeek_60 hl (k := 5) rfl rfl (by decide) rfl (fun ls hl => ?_)
          have i7 : (y + 1).toInt = (y).toInt + 1 := i3_add rfl rfl (by omega) (by omega)
          refine lv_goto (tgt := 5) hx hb dX8_countInWeek_63 (by decide) ?_
          exact ih5 (y + 1) z _ _ ls (by omega) (by omega) hW hS (lv_cast (lv_sub hl [2, 3, 4, 5, 0] rfl) (rfl))
        · rw [erb6]
          refine lv_astore (lv' := [(5, .ref b6), (0, .ref h), (1, .int a), (2, .int b), (3, .int z), (4, .int y)]) hx hb dX8_countInWeek_20 hl (by decide) rfl (fun ls hl => ?_)
          refine lv_aload hx hb dX8_countInWeek_22 (lv_at hl 0 rfl) ?_
          refine lv_ifnull hx hb dX8_countInWeek_24 ?_
          refine lv_aload hx hb dX8_countInWeek_27 (lv_at hl 0 rfl) ?_
          refine pg_gi (ci := 6) (C := RX6) (T := TX6) (N := 10) hx hb hts wi6 hown hK hW kb6 (by decide) rfl 0 (by decide) (hts (.fieldLink RX8 225 "IceHall$Session" "byClub" "I") (by decide +kernel)) (fun _ h9 => h9) rfl dX8_countInWeek_29 ?_
          refine lv_iload_n hx hb dX8_countInWeek_32 rfl (lv_at hl 2 rfl) ?_
          refine lv_icmp_ne (tgt := 60) hx hb dX8_countInWeek_33 (by decide) (fun c8 => ?_) (fun c8 => ?_)
          · have c8i : ¬ (Int32.toInt (sI S b6 0) = Int32.toInt a) := fun h9 => c8 ((i3_eq _ _).mpr h9)
            refine lv_iinc (v := y + 1) (lv' := [(4, .int (y + 1)), (5, .ref b6), (0, .ref h), (1, .int a), (2, .int b), (3, .int z)]) hx hb dX8_countInWeek_60 hl (k := 5) rfl rfl (by decide) rfl (fun ls hl => ?_)
            have i9 : (y + 1).toInt = (y).toInt + 1 := i3_add rfl rfl (by omega) (by omega)
            refine lv_goto (tgt := 5) hx hb dX8_countInWeek_63 (by decide) ?_
            exact ih5 (y + 1) z _ _ ls (by omega) (by omega) hW hS (lv_cast (lv_sub hl [2, 3, 4, 5, 0] rfl) (rfl))
          · have c8i : Int32.toInt (sI S b6 0) = Int32.toInt a := (i3_eq _ _).mp c8
            refine lv_aload hx hb dX8_countInWeek_36 (lv_at hl 0 rfl) ?_
            refine pc_Vi (As := []) (rest := []) F (b_X6_stands l D cy A S b6 hG kb6) (cwV 0 hts gX8_countInWeek_X6_stands rfl rfl rfl (by decide +kernel) ⟨Nat.le_of_ble_eq_true rfl, Nat.le_of_ble_eq_true rfl⟩) hK hZ hA hW hS kb6 (by decide) rfl rfl hl.1 rfl (Nat.le_of_ble_eq_true rfl) dX8_countInWeek_38 ⟨Nat.le_of_ble_eq_true rfl, Nat.le_of_ble_eq_true rfl⟩ (fun v10 T11 H locs p12 hW hS => ?_)
            obtain ⟨eT11, p12⟩ := p12
            rw [eT11] at hW
            clear eT11
            refine lv_if_eq (tgt := 60) hx hb dX8_countInWeek_41 (by decide) (fun c13 => ?_) (fun c13 => ?_)
            · have c13i : Int32.toInt v10 = (0 : Int) := (i3_eq _ _).mp c13
              refine lv_iinc (v := y + 1) (lv' := [(4, .int (y + 1)), (5, .ref b6), (0, .ref h), (1, .int a), (2, .int b), (3, .int z)]) hx hb dX8_countInWeek_60 hl (k := 5) rfl rfl (by decide) rfl (fun ls hl => ?_)
              have i14 : (y + 1).toInt = (y).toInt + 1 := i3_add rfl rfl (by omega) (by omega)
              refine lv_goto (tgt := 5) hx hb dX8_countInWeek_63 (by decide) ?_
              exact ih5 (y + 1) z _ _ ls (by omega) (by omega) hW hS (lv_cast (lv_sub hl [2, 3, 4, 5, 0] rfl) (rfl))
            · have c13i : ¬ (Int32.toInt v10 = (0 : Int)) := fun h9 => c13 ((i3_eq _ _).mpr h9)
              refine lv_aload hx hb dX8_countInWeek_44 (lv_at hl 0 rfl) ?_
              refine pg_gi (ci := 6) (C := RX6) (T := TX6) (N := 10) hx hb hts wi6 hown hK hW kb6 (by decide) rfl 5 (by decide) (hts (.fieldLink RX8 141 "IceHall$Session" "hour" "I") (by decide +kernel)) (fun _ h9 => h9) rfl dX8_countInWeek_46 ?_
              refine lv_sipush (v := 168) hx hb dX8_countInWeek_49 (by decide) ?_
              refine lv_idiv hx hb dX8_countInWeek_52 (by decide) ?_
              refine lv_iload_n hx hb dX8_countInWeek_53 rfl (lv_at hl 3 rfl) ?_
              refine lv_icmp_ne (tgt := 60) hx hb dX8_countInWeek_54 (by decide) (fun c15 => ?_) (fun c15 => ?_)
              · have c15i : ¬ (Int32.toInt ((sI S b6 5) / 168) = Int32.toInt b) := fun h9 => c15 ((i3_eq _ _).mpr h9)
                refine lv_iinc (v := y + 1) (lv' := [(4, .int (y + 1)), (5, .ref b6), (0, .ref h), (1, .int a), (2, .int b), (3, .int z)]) hx hb dX8_countInWeek_60 hl (k := 5) rfl rfl (by decide) rfl (fun ls hl => ?_)
                have i16 : (y + 1).toInt = (y).toInt + 1 := i3_add rfl rfl (by omega) (by omega)
                refine lv_goto (tgt := 5) hx hb dX8_countInWeek_63 (by decide) ?_
                exact ih5 (y + 1) z _ _ ls (by omega) (by omega) hW hS (lv_cast (lv_sub hl [2, 3, 4, 5, 0] rfl) (rfl))
              · have c15i : Int32.toInt ((sI S b6 5) / 168) = Int32.toInt b := (i3_eq _ _).mp c15
                refine lv_iinc (v := z + 1) (lv' := [(3, .int (z + 1)), (5, .ref b6), (0, .ref h), (1, .int a), (2, .int b), (4, .int y)]) hx hb dX8_countInWeek_57 hl (k := 4) rfl rfl (by decide) rfl (fun ls hl => ?_)
                refine lv_iinc (v := y + 1) (lv' := [(4, .int (y + 1)), (3, .int (z + 1)), (5, .ref b6), (0, .ref h), (1, .int a), (2, .int b)]) hx hb dX8_countInWeek_60 hl (k := 5) rfl rfl (by decide) rfl (fun ls hl => ?_)
                have i17 : (y + 1).toInt = (y).toInt + 1 := i3_add rfl rfl (by omega) (by omega)
                refine lv_goto (tgt := 5) hx hb dX8_countInWeek_63 (by decide) ?_
                exact ih5 (y + 1) (z + 1) _ _ ls (by omega) (by omega) hW hS (lv_cast (lv_sub hl [3, 4, 5, 1, 0] rfl) (rfl))
  exact loop5 _ 0 0 _ _ ls (by decide) (Nat.lt_succ_self _) hW hS (lv_cast (lv_sub hl [2, 3, 4, 1, 0] rfl) (rfl))
set_option maxHeartbeats 4000000 in
set_option maxRecDepth 100000 in
theorem b_X8_countInState (l : Launch) (D : va_G) (cy : Nat → ClassId) (A : Nat → Prop) (S : St) (h : Nat) (a b : Int32) (hG0 : G S) (hk : sK S h = 8) : MI l yX8_countInState wsX8_countInState ({ frames := 1, cells := 0, slots := 0, locals := 21 } : Room) 0 0 D cy A [.ref h, .int a, .int b] S (fun r S1 => S1 = S ∧ True) := by
  refine mt_start (cc := cX8_countInState) (maxL := 6) (ret := (some .int)) (by decide) rfl (Nat.le_of_ble_eq_true rfl) ?_
  intro p e s m args below meth c hx hb hr hlk hml hown hnm hts hK hZ hA hW hS ls hl
  have hl : lv_has ls 6 [(0, .ref h), (1, .int a), (2, .int b)] := hl
  have hown : s.vm.findClass RX8 = some m.cls := hown
  have F : CallFix p m c cX8_countInState 6 s args wsX8_countInState RX8 := ⟨hx, hb, hml, hown, hts⟩
  have wi6 : ∀ w ∈ u_ws RX6 TX6 10, w ∈ wsX8_countInState := by decide +kernel
  have wi8 : ∀ w ∈ u_ws RX8 TX8 18, w ∈ wsX8_countInState := by decide +kernel
  have hG := hG0
  refine lv_iconst (v := 0) hx hb dX8_countInState_0 (by decide) ?_
  refine lv_istore_n (lv' := [(3, .int 0), (0, .ref h), (1, .int a), (2, .int b)]) hx hb dX8_countInState_1 rfl hl (by decide) rfl (fun ls hl => ?_)
  refine lv_iconst (v := 0) hx hb dX8_countInState_2 (by decide) ?_
  refine lv_istore (lv' := [(4, .int 0), (3, .int 0), (0, .ref h), (1, .int a), (2, .int b)]) hx hb dX8_countInState_3 hl (by decide) rfl (fun ls hl => ?_)
  have loop5 : ∀ (zn : Nat) (y : Int32) (z : Int32) (H : Heap) (locs : List Loc) (ls : Array Slot), (0 ≤ y.toInt) → (200 - y.toInt).toNat < zn → PW D cy A S H → va_S A s.heap H locs → lv_has ls 6 [(0, .ref h), (1, .int a), (2, .int b), (3, .int z), (4, .int y)] → W p l e ({ frames := 1, cells := 0, slots := 0, locals := 21 } : Room) s m args below meth c H locs 0 0 (MQ below (va_Qi (fun r S1 => S1 = S ∧ True) (PU D cy A) A) args s 0 0 A) (F0 m 5 ls []) := by
    intro zn
    induction zn with
    | zero => intros; exact absurd (by assumption) (Nat.not_lt_zero _)
    | succ zn ih5 =>
      intro y z H locs ls hy0 hme5 hW hS hl
      refine lv_iload hx hb dX8_countInState_5 (lv_at hl 4 rfl) ?_
      refine lv_aload_n hx hb dX8_countInState_7 rfl (lv_at hl 0 rfl) ?_
      refine pg_gi (ci := 8) (C := RX8) (T := TX8) (N := 18) hx hb hts wi8 hown hK hW hk (by decide) rfl 9 (by decide) (hts (.fieldLink RX8 99 "IceHall" "everBooked" "I") (by decide +kernel)) (fun _ h9 => h9) rfl dX8_countInState_8 ?_
      have g1 : (0 : Int) ≤ (sI S h 9).toInt ∧ (sI S h 9).toInt ≤ 200 := hG.i hk (by decide) 9 (by decide)
      refine lv_icmp_ge (tgt := 54) hx hb dX8_countInState_11 (by decide) (fun c2 => ?_) (fun c2 => ?_)
      · have c2i : Int32.toInt (sI S h 9) ≤ Int32.toInt y := (i3_le _ _).mp c2
        refine lv_iload_n hx hb dX8_countInState_54 rfl (lv_at hl 3 rfl) ?_
        exact pc_iret (v := z) (S := S) hx hb hr hlk hK hZ hA hW hS (⟨rfl, trivial⟩) dX8_countInState_55
      · have c2i : ¬ (Int32.toInt (sI S h 9) ≤ Int32.toInt y) := fun h9 => c2 ((i3_le _ _).mpr h9)
        refine lv_aload_n hx hb dX8_countInState_14 rfl (lv_at hl 0 rfl) ?_
        refine lv_iload hx hb dX8_countInState_15 (lv_at hl 4 rfl) ?_
        refine pc_Vq (As := [.int y]) (rest := []) F (b_X8_sessionOf l D cy A S h y hG hk) (cwV 1 hts gX8_countInState_X8_sessionOf rfl rfl rfl (by decide +kernel) ⟨Nat.le_of_ble_eq_true rfl, Nat.le_of_ble_eq_true rfl⟩) hK hZ hA hW hS hk (by decide) rfl rfl hl.1 rfl (Nat.le_of_ble_eq_true rfl) dX8_countInState_17 ⟨Nat.le_of_ble_eq_true rfl, Nat.le_of_ble_eq_true rfl⟩ (fun v3 T4 H locs p5 hW hS => ?_)
        obtain ⟨eT4, p5⟩ := p5
        rw [eT4] at hW
        rcases p5 with erb6 | ⟨b6, erb6, kb6⟩
        · rw [erb6]
          refine lv_astoreN (lv' := [(5, .null), (0, .ref h), (1, .int a), (2, .int b), (3, .int z), (4, .int y)]) hx hb dX8_countInState_20 hl (by decide) rfl (fun ls hl => ?_)
          refine lv_aloadN hx hb dX8_countInState_22 (lv_at hl 0 rfl) ?_
          refine lv_ifnullN (tgt := 48) hx hb dX8_countInState_24 (by decide) ?_
          refine lv_iinc (v := y + 1) (lv' := [(4, .int (y + 1)), (5, .null), (0, .ref h), (1, .int a), (2, .int b), (3, .int z)]) hx hb dX8_countInState_48 hl (k := 5) rfl rfl (by decide) rfl (fun ls hl => ?_)
          have i7 : (y + 1).toInt = (y).toInt + 1 := i3_add rfl rfl (by omega) (by omega)
          refine lv_goto (tgt := 5) hx hb dX8_countInState_51 (by decide) ?_
          exact ih5 (y + 1) z _ _ ls (by omega) (by omega) hW hS (lv_cast (lv_sub hl [2, 3, 4, 5, 0] rfl) (rfl))
        · rw [erb6]
          refine lv_astore (lv' := [(5, .ref b6), (0, .ref h), (1, .int a), (2, .int b), (3, .int z), (4, .int y)]) hx hb dX8_countInState_20 hl (by decide) rfl (fun ls hl => ?_)
          refine lv_aload hx hb dX8_countInState_22 (lv_at hl 0 rfl) ?_
          refine lv_ifnull hx hb dX8_countInState_24 ?_
          refine lv_aload hx hb dX8_countInState_27 (lv_at hl 0 rfl) ?_
          refine pg_gi (ci := 6) (C := RX6) (T := TX6) (N := 10) hx hb hts wi6 hown hK hW kb6 (by decide) rfl 0 (by decide) (hts (.fieldLink RX8 225 "IceHall$Session" "byClub" "I") (by decide +kernel)) (fun _ h9 => h9) rfl dX8_countInState_29 ?_
          refine lv_iload_n hx hb dX8_countInState_32 rfl (lv_at hl 2 rfl) ?_
          refine lv_icmp_ne (tgt := 48) hx hb dX8_countInState_33 (by decide) (fun c8 => ?_) (fun c8 => ?_)
          · have c8i : ¬ (Int32.toInt (sI S b6 0) = Int32.toInt a) := fun h9 => c8 ((i3_eq _ _).mpr h9)
            refine lv_iinc (v := y + 1) (lv' := [(4, .int (y + 1)), (5, .ref b6), (0, .ref h), (1, .int a), (2, .int b), (3, .int z)]) hx hb dX8_countInState_48 hl (k := 5) rfl rfl (by decide) rfl (fun ls hl => ?_)
            have i9 : (y + 1).toInt = (y).toInt + 1 := i3_add rfl rfl (by omega) (by omega)
            refine lv_goto (tgt := 5) hx hb dX8_countInState_51 (by decide) ?_
            exact ih5 (y + 1) z _ _ ls (by omega) (by omega) hW hS (lv_cast (lv_sub hl [2, 3, 4, 5, 0] rfl) (rfl))
          · have c8i : Int32.toInt (sI S b6 0) = Int32.toInt a := (i3_eq _ _).mp c8
            refine lv_aload hx hb dX8_countInState_36 (lv_at hl 0 rfl) ?_
            refine pg_gi (ci := 6) (C := RX6) (T := TX6) (N := 10) hx hb hts wi6 hown hK hW kb6 (by decide) rfl 6 (by decide) (hts (.fieldLink RX8 135 "IceHall$Session" "state" "I") (by decide +kernel)) (fun _ h9 => h9) rfl dX8_countInState_38 ?_
            refine lv_iload_n hx hb dX8_countInState_41 rfl (lv_at hl 3 rfl) ?_
            refine lv_icmp_ne (tgt := 48) hx hb dX8_countInState_42 (by decide) (fun c10 => ?_) (fun c10 => ?_)
            · have c10i : ¬ (Int32.toInt (sI S b6 6) = Int32.toInt b) := fun h9 => c10 ((i3_eq _ _).mpr h9)
              refine lv_iinc (v := y + 1) (lv' := [(4, .int (y + 1)), (5, .ref b6), (0, .ref h), (1, .int a), (2, .int b), (3, .int z)]) hx hb dX8_countInState_48 hl (k := 5) rfl rfl (by decide) rfl (fun ls hl => ?_)
              have i11 : (y + 1).toInt = (y).toInt + 1 := i3_add rfl rfl (by omega) (by omega)
              refine lv_goto (tgt := 5) hx hb dX8_countInState_51 (by decide) ?_
              exact ih5 (y + 1) z _ _ ls (by omega) (by omega) hW hS (lv_cast (lv_sub hl [2, 3, 4, 5, 0] rfl) (rfl))
            · have c10i : Int32.toInt (sI S b6 6) = Int32.toInt b := (i3_eq _ _).mp c10
              refine lv_iinc (v := z + 1) (lv' := [(3, .int (z + 1)), (5, .ref b6), (0, .ref h), (1, .int a), (2, .int b), (4, .int y)]) hx hb dX8_countInState_45 hl (k := 4) rfl rfl (by decide) rfl (fun ls hl => ?_)
              refine lv_iinc (v := y + 1) (lv' := [(4, .int (y + 1)), (3, .int (z + 1)), (5, .ref b6), (0, .ref h), (1, .int a), (2, .int b)]) hx hb dX8_countInState_48 hl (k := 5) rfl rfl (by decide) rfl (fun ls hl => ?_)
              have i12 : (y + 1).toInt = (y).toInt + 1 := i3_add rfl rfl (by omega) (by omega)
              refine lv_goto (tgt := 5) hx hb dX8_countInState_51 (by decide) ?_
              exact ih5 (y + 1) (z + 1) _ _ ls (by omega) (by omega) hW hS (lv_cast (lv_sub hl [3, 4, 5, 1, 0] rfl) (rfl))
  exact loop5 _ 0 0 _ _ ls (by decide) (Nat.lt_succ_self _) hW hS (lv_cast (lv_sub hl [2, 3, 4, 1, 0] rfl) (rfl))
set_option maxHeartbeats 4000000 in
set_option maxRecDepth 100000 in
theorem b_X8_owedBy (l : Launch) (D : va_G) (cy : Nat → ClassId) (A : Nat → Prop) (S : St) (h : Nat) (a : Int32) (hG0 : G S) (hk : sK S h = 8) : MI l yX8_owedBy wsX8_owedBy ({ frames := 1, cells := 0, slots := 0, locals := 21 } : Room) 0 0 D cy A [.ref h, .int a] S (fun r S1 => S1 = S ∧ True) := by
  refine mt_start (cc := cX8_owedBy) (maxL := 5) (ret := (some .int)) (by decide) rfl (Nat.le_of_ble_eq_true rfl) ?_
  intro p e s m args below meth c hx hb hr hlk hml hown hnm hts hK hZ hA hW hS ls hl
  have hl : lv_has ls 5 [(0, .ref h), (1, .int a)] := hl
  have hown : s.vm.findClass RX8 = some m.cls := hown
  have F : CallFix p m c cX8_owedBy 5 s args wsX8_owedBy RX8 := ⟨hx, hb, hml, hown, hts⟩
  have wi6 : ∀ w ∈ u_ws RX6 TX6 10, w ∈ wsX8_owedBy := by decide +kernel
  have wi8 : ∀ w ∈ u_ws RX8 TX8 18, w ∈ wsX8_owedBy := by decide +kernel
  have hG := hG0
  refine lv_iconst (v := 0) hx hb dX8_owedBy_0 (by decide) ?_
  refine lv_istore_n (lv' := [(2, .int 0), (0, .ref h), (1, .int a)]) hx hb dX8_owedBy_1 rfl hl (by decide) rfl (fun ls hl => ?_)
  refine lv_iconst (v := 0) hx hb dX8_owedBy_2 (by decide) ?_
  refine lv_istore_n (lv' := [(3, .int 0), (2, .int 0), (0, .ref h), (1, .int a)]) hx hb dX8_owedBy_3 rfl hl (by decide) rfl (fun ls hl => ?_)
  have loop4 : ∀ (zn : Nat) (y : Int32) (z : Int32) (H : Heap) (locs : List Loc) (ls : Array Slot), (0 ≤ y.toInt) → (200 - y.toInt).toNat < zn → PW D cy A S H → va_S A s.heap H locs → lv_has ls 5 [(0, .ref h), (1, .int a), (2, .int z), (3, .int y)] → W p l e ({ frames := 1, cells := 0, slots := 0, locals := 21 } : Room) s m args below meth c H locs 0 0 (MQ below (va_Qi (fun r S1 => S1 = S ∧ True) (PU D cy A) A) args s 0 0 A) (F0 m 4 ls []) := by
    intro zn
    induction zn with
    | zero => intros; exact absurd (by assumption) (Nat.not_lt_zero _)
    | succ zn ih4 =>
      intro y z H locs ls hy0 hme4 hW hS hl
      refine lv_iload_n hx hb dX8_owedBy_4 rfl (lv_at hl 3 rfl) ?_
      refine lv_aload_n hx hb dX8_owedBy_5 rfl (lv_at hl 0 rfl) ?_
      refine pg_gi (ci := 8) (C := RX8) (T := TX8) (N := 18) hx hb hts wi8 hown hK hW hk (by decide) rfl 9 (by decide) (hts (.fieldLink RX8 99 "IceHall" "everBooked" "I") (by decide +kernel)) (fun _ h9 => h9) rfl dX8_owedBy_6 ?_
      have g1 : (0 : Int) ≤ (sI S h 9).toInt ∧ (sI S h 9).toInt ≤ 200 := hG.i hk (by decide) 9 (by decide)
      refine lv_icmp_ge (tgt := 47) hx hb dX8_owedBy_9 (by decide) (fun c2 => ?_) (fun c2 => ?_)
      · have c2i : Int32.toInt (sI S h 9) ≤ Int32.toInt y := (i3_le _ _).mp c2
        refine lv_iload_n hx hb dX8_owedBy_47 rfl (lv_at hl 2 rfl) ?_
        exact pc_iret (v := z) (S := S) hx hb hr hlk hK hZ hA hW hS (⟨rfl, trivial⟩) dX8_owedBy_48
      · have c2i : ¬ (Int32.toInt (sI S h 9) ≤ Int32.toInt y) := fun h9 => c2 ((i3_le _ _).mpr h9)
        refine lv_aload_n hx hb dX8_owedBy_12 rfl (lv_at hl 0 rfl) ?_
        refine lv_iload_n hx hb dX8_owedBy_13 rfl (lv_at hl 3 rfl) ?_
        refine pc_Vq (As := [.int y]) (rest := []) F (b_X8_sessionOf l D cy A S h y hG hk) (cwV 1 hts gX8_owedBy_X8_sessionOf rfl rfl rfl (by decide +kernel) ⟨Nat.le_of_ble_eq_true rfl, Nat.le_of_ble_eq_true rfl⟩) hK hZ hA hW hS hk (by decide) rfl rfl hl.1 rfl (Nat.le_of_ble_eq_true rfl) dX8_owedBy_14 ⟨Nat.le_of_ble_eq_true rfl, Nat.le_of_ble_eq_true rfl⟩ (fun v3 T4 H locs p5 hW hS => ?_)
        obtain ⟨eT4, p5⟩ := p5
        rw [eT4] at hW
        rcases p5 with erb6 | ⟨b6, erb6, kb6⟩
        · rw [erb6]
          refine lv_astoreN (lv' := [(4, .null), (0, .ref h), (1, .int a), (2, .int z), (3, .int y)]) hx hb dX8_owedBy_17 hl (by decide) rfl (fun ls hl => ?_)
          refine lv_aloadN hx hb dX8_owedBy_19 (lv_at hl 0 rfl) ?_
          refine lv_ifnullN (tgt := 41) hx hb dX8_owedBy_21 (by decide) ?_
          refine lv_iinc (v := y + 1) (lv' := [(3, .int (y + 1)), (4, .null), (0, .ref h), (1, .int a), (2, .int z)]) hx hb dX8_owedBy_41 hl (k := 4) rfl rfl (by decide) rfl (fun ls hl => ?_)
          have i7 : (y + 1).toInt = (y).toInt + 1 := i3_add rfl rfl (by omega) (by omega)
          refine lv_goto (tgt := 4) hx hb dX8_owedBy_44 (by decide) ?_
          exact ih4 (y + 1) z _ _ ls (by omega) (by omega) hW hS (lv_cast (lv_sub hl [2, 3, 4, 0] rfl) (rfl))
        · rw [erb6]
          refine lv_astore (lv' := [(4, .ref b6), (0, .ref h), (1, .int a), (2, .int z), (3, .int y)]) hx hb dX8_owedBy_17 hl (by decide) rfl (fun ls hl => ?_)
          refine lv_aload hx hb dX8_owedBy_19 (lv_at hl 0 rfl) ?_
          refine lv_ifnull hx hb dX8_owedBy_21 ?_
          refine lv_aload hx hb dX8_owedBy_24 (lv_at hl 0 rfl) ?_
          refine pg_gi (ci := 6) (C := RX6) (T := TX6) (N := 10) hx hb hts wi6 hown hK hW kb6 (by decide) rfl 0 (by decide) (hts (.fieldLink RX8 225 "IceHall$Session" "byClub" "I") (by decide +kernel)) (fun _ h9 => h9) rfl dX8_owedBy_26 ?_
          refine lv_iload_n hx hb dX8_owedBy_29 rfl (lv_at hl 2 rfl) ?_
          refine lv_icmp_ne (tgt := 41) hx hb dX8_owedBy_30 (by decide) (fun c8 => ?_) (fun c8 => ?_)
          · have c8i : ¬ (Int32.toInt (sI S b6 0) = Int32.toInt a) := fun h9 => c8 ((i3_eq _ _).mpr h9)
            refine lv_iinc (v := y + 1) (lv' := [(3, .int (y + 1)), (4, .ref b6), (0, .ref h), (1, .int a), (2, .int z)]) hx hb dX8_owedBy_41 hl (k := 4) rfl rfl (by decide) rfl (fun ls hl => ?_)
            have i9 : (y + 1).toInt = (y).toInt + 1 := i3_add rfl rfl (by omega) (by omega)
            refine lv_goto (tgt := 4) hx hb dX8_owedBy_44 (by decide) ?_
            exact ih4 (y + 1) z _ _ ls (by omega) (by omega) hW hS (lv_cast (lv_sub hl [2, 3, 4, 0] rfl) (rfl))
          · have c8i : Int32.toInt (sI S b6 0) = Int32.toInt a := (i3_eq _ _).mp c8
            refine lv_iload_n hx hb dX8_owedBy_33 rfl (lv_at hl 3 rfl) ?_
            refine lv_aload hx hb dX8_owedBy_34 (lv_at hl 0 rfl) ?_
            refine pg_gi (ci := 6) (C := RX6) (T := TX6) (N := 10) hx hb hts wi6 hown hK hW kb6 (by decide) rfl 8 (by decide) (hts (.fieldLink RX8 153 "IceHall$Session" "owes" "I") (by decide +kernel)) (fun _ h9 => h9) rfl dX8_owedBy_36 ?_
            refine lv_iadd hx hb dX8_owedBy_39 ?_
            refine lv_istore_n (lv' := [(2, .int (z + (sI S b6 8))), (4, .ref b6), (0, .ref h), (1, .int a), (3, .int y)]) hx hb dX8_owedBy_40 rfl hl (by decide) rfl (fun ls hl => ?_)
            refine lv_iinc (v := y + 1) (lv' := [(3, .int (y + 1)), (2, .int (z + (sI S b6 8))), (4, .ref b6), (0, .ref h), (1, .int a)]) hx hb dX8_owedBy_41 hl (k := 4) rfl rfl (by decide) rfl (fun ls hl => ?_)
            have i10 : (y + 1).toInt = (y).toInt + 1 := i3_add rfl rfl (by omega) (by omega)
            refine lv_goto (tgt := 4) hx hb dX8_owedBy_44 (by decide) ?_
            exact ih4 (y + 1) (z + (sI S b6 8)) _ _ ls (by omega) (by omega) hW hS (lv_cast (lv_sub hl [3, 4, 1, 0] rfl) (rfl))
  exact loop4 _ 0 0 _ _ ls (by decide) (Nat.lt_succ_self _) hW hS (lv_cast (lv_sub hl [2, 3, 1, 0] rfl) (rfl))
set_option maxHeartbeats 4000000 in
set_option maxRecDepth 100000 in
theorem b_X8_gatherSessions (l : Launch) (D : va_G) (cy : Nat → ClassId) (A : Nat → Prop) (S : St) (h : Nat) (a b d : Int32) (hG0 : G S) (hk : sK S h = 8) : MI l yX8_gatherSessions wsX8_gatherSessions ({ frames := 2, cells := 0, slots := 0, locals := 42 } : Room) 0 0 D cy A [.ref h, .int a, .int b, .int d] S (fun r S1 => G S1 ∧ Fr [] [206] S S1 ∧ True) := by
  refine mt_start (cc := cX8_gatherSessions) (maxL := 6) (ret := (some .boolean)) (by decide) rfl (Nat.le_of_ble_eq_true rfl) ?_
  intro p e s m args below meth c hx hb hr hlk hml hown hnm hts hK hZ hA hW hS ls hl
  have hl : lv_has ls 6 [(0, .ref h), (1, .int a), (2, .int b), (3, .int d)] := hl
  have hown : s.vm.findClass RX8 = some m.cls := hown
  have F : CallFix p m c cX8_gatherSessions 6 s args wsX8_gatherSessions RX8 := ⟨hx, hb, hml, hown, hts⟩
  have wi6 : ∀ w ∈ u_ws RX6 TX6 10, w ∈ wsX8_gatherSessions := by decide +kernel
  have wi8 : ∀ w ∈ u_ws RX8 TX8 18, w ∈ wsX8_gatherSessions := by decide +kernel
  have hG := hG0
  have hF : Fr [] [206] S S := Fr.rf _ _ _
  refine lv_aload_n hx hb dX8_gatherSessions_0 rfl (lv_at hl 0 rfl) ?_
  obtain ⟨b1, rb1, kb1, nb1⟩ := hG0.r hk List.not_mem_nil 7 (show rty 8 7 = some (2, 0) from rfl)
  refine pg_gr (b := b1) (ci := 8) (C := RX8) (T := TX8) (N := 18) hx hb hts wi8 hown hK hW hk (by decide) rfl 7 (by decide) (hts (.fieldLink RX8 57 "IceHall" "mover" "LIceHall$Mover;") (by decide +kernel)) (fun _ h9 => h9) rfl rb1 dX8_gatherSessions_1 ?_
  refine pc_Vv (As := []) (rest := []) F (b_X2_begin l D cy A S b1 hG kb1) (cwV 0 hts gX8_gatherSessions_X2_begin rfl rfl rfl (by decide +kernel) ⟨Nat.le_of_ble_eq_true rfl, Nat.le_of_ble_eq_true rfl⟩) hK hZ hA hW hS kb1 (by decide) rfl rfl hl.1 rfl (Nat.le_of_ble_eq_true rfl) dX8_gatherSessions_4 ⟨Nat.le_of_ble_eq_true rfl, Nat.le_of_ble_eq_true rfl⟩ (fun T3 H locs p4 hW hS => ?_)
  obtain ⟨hG, hFc, p4⟩ := p4
  have hF : Fr [] [206] S T3 := hF.tr (hFc.mono (by decide))
  refine lv_iconst (v := 0) hx hb dX8_gatherSessions_7 (by decide) ?_
  refine lv_istore (lv' := [(4, .int 0), (0, .ref h), (1, .int a), (2, .int b), (3, .int d)]) hx hb dX8_gatherSessions_8 hl (by decide) rfl (fun ls hl => ?_)
  have hE5 : Fr [] [206] T3 T3 := Fr.rf _ _ _
  have loop10 : ∀ (zn : Nat) (y : Int32) (L10 : St) (H : Heap) (locs : List Loc) (ls : Array Slot), (G L10) → (Fr [] [206] T3 L10) → (0 ≤ y.toInt) → (200 - y.toInt).toNat < zn → PW D cy A L10 H → va_S A s.heap H locs → lv_has ls 6 [(0, .ref h), (1, .int a), (2, .int b), (3, .int d), (4, .int y)] → W p l e ({ frames := 2, cells := 0, slots := 0, locals := 42 } : Room) s m args below meth c H locs 0 0 (MQ below (va_Qi (fun r S1 => G S1 ∧ Fr [] [206] S S1 ∧ True) (PU D cy A) A) args s 0 0 A) (F0 m 10 ls []) := by
    intro zn
    induction zn with
    | zero => intros; exact absurd (by assumption) (Nat.not_lt_zero _)
    | succ zn ih10 =>
      intro y L10 H locs ls hG hL10 hy0 hme10 hW hS hl
      have hF : Fr [] [206] S L10 := hF.tr hL10
      have hE5 := hL10
      refine lv_iload hx hb dX8_gatherSessions_10 (lv_at hl 4 rfl) ?_
      refine lv_aload_n hx hb dX8_gatherSessions_12 rfl (lv_at hl 0 rfl) ?_
      refine pg_gi (ci := 8) (C := RX8) (T := TX8) (N := 18) hx hb hts wi8 hown hK hW (hF.k hk (by decide)) (by decide) rfl 9 (by decide) (hts (.fieldLink RX8 99 "IceHall" "everBooked" "I") (by decide +kernel)) (fun _ h9 => h9) rfl dX8_gatherSessions_13 ?_
      have g6 : (0 : Int) ≤ (sI L10 h 9).toInt ∧ (sI L10 h 9).toInt ≤ 200 := hG.i (hF.k hk (by decide)) (by decide) 9 (by decide)
      refine lv_icmp_ge (tgt := 87) hx hb dX8_gatherSessions_16 (by decide) (fun c7 => ?_) (fun c7 => ?_)
      · have c7i : Int32.toInt (sI L10 h 9) ≤ Int32.toInt y := (i3_le _ _).mp c7
        refine lv_iconst (v := 1) hx hb dX8_gatherSessions_87 (by decide) ?_
        exact pc_zret (v := 1) (S := L10) hx hb hr hlk hK hZ hA hW hS (by decide) (⟨hG, hF, trivial⟩) dX8_gatherSessions_88
      · have c7i : ¬ (Int32.toInt (sI L10 h 9) ≤ Int32.toInt y) := fun h9 => c7 ((i3_le _ _).mpr h9)
        refine lv_aload_n hx hb dX8_gatherSessions_19 rfl (lv_at hl 0 rfl) ?_
        refine lv_iload hx hb dX8_gatherSessions_20 (lv_at hl 4 rfl) ?_
        refine pc_Vq (As := [.int y]) (rest := []) F (b_X8_sessionOf l D cy A L10 h y hG (hF.k hk (by decide))) (cwV 1 hts gX8_gatherSessions_X8_sessionOf rfl rfl rfl (by decide +kernel) ⟨Nat.le_of_ble_eq_true rfl, Nat.le_of_ble_eq_true rfl⟩) hK hZ hA hW hS (hF.k hk (by decide)) (by decide) rfl rfl hl.1 rfl (Nat.le_of_ble_eq_true rfl) dX8_gatherSessions_22 ⟨Nat.le_of_ble_eq_true rfl, Nat.le_of_ble_eq_true rfl⟩ (fun v8 T9 H locs p10 hW hS => ?_)
        obtain ⟨eT9, p10⟩ := p10
        rw [eT9] at hW
        have hE12 : Fr [] [206] L10 L10 := Fr.rf _ _ _
        rcases p10 with erb11 | ⟨b11, erb11, kb11⟩
        · rw [erb11]
          refine lv_astoreN (lv' := [(5, .null), (0, .ref h), (1, .int a), (2, .int b), (3, .int d), (4, .int y)]) hx hb dX8_gatherSessions_25 hl (by decide) rfl (fun ls hl => ?_)
          refine lv_aloadN hx hb dX8_gatherSessions_27 (lv_at hl 0 rfl) ?_
          refine lv_ifnullN (tgt := 81) hx hb dX8_gatherSessions_29 (by decide) ?_
          refine lv_iinc (v := y + 1) (lv' := [(4, .int (y + 1)), (5, .null), (0, .ref h), (1, .int a), (2, .int b), (3, .int d)]) hx hb dX8_gatherSessions_81 hl (k := 5) rfl rfl (by decide) rfl (fun ls hl => ?_)
          have i13 : (y + 1).toInt = (y).toInt + 1 := i3_add rfl rfl (by omega) (by omega)
          refine lv_goto (tgt := 10) hx hb dX8_gatherSessions_84 (by decide) ?_
          exact ih10 (y + 1) L10 _ _ ls hG hE5 (by omega) (by omega) hW hS (lv_cast (lv_sub hl [2, 3, 4, 5, 0] rfl) (rfl))
        · rw [erb11]
          refine lv_astore (lv' := [(5, .ref b11), (0, .ref h), (1, .int a), (2, .int b), (3, .int d), (4, .int y)]) hx hb dX8_gatherSessions_25 hl (by decide) rfl (fun ls hl => ?_)
          refine lv_aload hx hb dX8_gatherSessions_27 (lv_at hl 0 rfl) ?_
          refine lv_ifnull hx hb dX8_gatherSessions_29 ?_
          refine lv_aload hx hb dX8_gatherSessions_32 (lv_at hl 0 rfl) ?_
          refine pc_Vi (As := []) (rest := []) F (b_X6_stands l D cy A L10 b11 hG kb11) (cwV 0 hts gX8_gatherSessions_X6_stands rfl rfl rfl (by decide +kernel) ⟨Nat.le_of_ble_eq_true rfl, Nat.le_of_ble_eq_true rfl⟩) hK hZ hA hW hS kb11 (by decide) rfl rfl hl.1 rfl (Nat.le_of_ble_eq_true rfl) dX8_gatherSessions_34 ⟨Nat.le_of_ble_eq_true rfl, Nat.le_of_ble_eq_true rfl⟩ (fun v14 T15 H locs p16 hW hS => ?_)
          obtain ⟨eT15, p16⟩ := p16
          rw [eT15] at hW
          clear eT15
          refine lv_if_eq (tgt := 81) hx hb dX8_gatherSessions_37 (by decide) (fun c17 => ?_) (fun c17 => ?_)
          · have c17i : Int32.toInt v14 = (0 : Int) := (i3_eq _ _).mp c17
            refine lv_iinc (v := y + 1) (lv' := [(4, .int (y + 1)), (5, .ref b11), (0, .ref h), (1, .int a), (2, .int b), (3, .int d)]) hx hb dX8_gatherSessions_81 hl (k := 5) rfl rfl (by decide) rfl (fun ls hl => ?_)
            have i18 : (y + 1).toInt = (y).toInt + 1 := i3_add rfl rfl (by omega) (by omega)
            refine lv_goto (tgt := 10) hx hb dX8_gatherSessions_84 (by decide) ?_
            exact ih10 (y + 1) L10 _ _ ls hG hE5 (by omega) (by omega) hW hS (lv_cast (lv_sub hl [2, 3, 4, 5, 0] rfl) (rfl))
          · have c17i : ¬ (Int32.toInt v14 = (0 : Int)) := fun h9 => c17 ((i3_eq _ _).mpr h9)
            refine lv_aload hx hb dX8_gatherSessions_40 (lv_at hl 0 rfl) ?_
            refine pg_gi (ci := 6) (C := RX6) (T := TX6) (N := 10) hx hb hts wi6 hown hK hW kb11 (by decide) rfl 4 (by decide) (hts (.fieldLink RX8 138 "IceHall$Session" "onSheet" "I") (by decide +kernel)) (fun _ h9 => h9) rfl dX8_gatherSessions_42 ?_
            refine lv_iload_n hx hb dX8_gatherSessions_45 rfl (lv_at hl 2 rfl) ?_
            refine lv_icmp_ne (tgt := 81) hx hb dX8_gatherSessions_46 (by decide) (fun c19 => ?_) (fun c19 => ?_)
            · have c19i : ¬ (Int32.toInt (sI L10 b11 4) = Int32.toInt a) := fun h9 => c19 ((i3_eq _ _).mpr h9)
              refine lv_iinc (v := y + 1) (lv' := [(4, .int (y + 1)), (5, .ref b11), (0, .ref h), (1, .int a), (2, .int b), (3, .int d)]) hx hb dX8_gatherSessions_81 hl (k := 5) rfl rfl (by decide) rfl (fun ls hl => ?_)
              have i20 : (y + 1).toInt = (y).toInt + 1 := i3_add rfl rfl (by omega) (by omega)
              refine lv_goto (tgt := 10) hx hb dX8_gatherSessions_84 (by decide) ?_
              exact ih10 (y + 1) L10 _ _ ls hG hE5 (by omega) (by omega) hW hS (lv_cast (lv_sub hl [2, 3, 4, 5, 0] rfl) (rfl))
            · have c19i : Int32.toInt (sI L10 b11 4) = Int32.toInt a := (i3_eq _ _).mp c19
              refine lv_aload hx hb dX8_gatherSessions_49 (lv_at hl 0 rfl) ?_
              refine pg_gi (ci := 6) (C := RX6) (T := TX6) (N := 10) hx hb hts wi6 hown hK hW kb11 (by decide) rfl 5 (by decide) (hts (.fieldLink RX8 141 "IceHall$Session" "hour" "I") (by decide +kernel)) (fun _ h9 => h9) rfl dX8_gatherSessions_51 ?_
              refine lv_iload_n hx hb dX8_gatherSessions_54 rfl (lv_at hl 3 rfl) ?_
              refine lv_icmp_lt (tgt := 81) hx hb dX8_gatherSessions_55 (by decide) (fun c21 => ?_) (fun c21 => ?_)
              · have c21i : Int32.toInt (sI L10 b11 5) < Int32.toInt b := (i3_lt _ _).mp c21
                refine lv_iinc (v := y + 1) (lv' := [(4, .int (y + 1)), (5, .ref b11), (0, .ref h), (1, .int a), (2, .int b), (3, .int d)]) hx hb dX8_gatherSessions_81 hl (k := 5) rfl rfl (by decide) rfl (fun ls hl => ?_)
                have i22 : (y + 1).toInt = (y).toInt + 1 := i3_add rfl rfl (by omega) (by omega)
                refine lv_goto (tgt := 10) hx hb dX8_gatherSessions_84 (by decide) ?_
                exact ih10 (y + 1) L10 _ _ ls hG hE5 (by omega) (by omega) hW hS (lv_cast (lv_sub hl [2, 3, 4, 5, 0] rfl) (rfl))
              · have c21i : ¬ (Int32.toInt (sI L10 b11 5) < Int32.toInt b) := fun h9 => c21 ((i3_lt _ _).mpr h9)
                refine lv_aload hx hb dX8_gatherSessions_58 (lv_at hl 0 rfl) ?_
                refine pg_gi (ci := 6) (C := RX6) (T := TX6) (N := 10) hx hb hts wi6 hown hK hW kb11 (by decide) rfl 5 (by decide) (hts (.fieldLink RX8 141 "IceHall$Session" "hour" "I") (by decide +kernel)) (fun _ h9 => h9) rfl dX8_gatherSessions_60 ?_
                refine lv_iload_n hx hb dX8_gatherSessions_63 rfl (lv_at hl 4 rfl) ?_
                refine lv_icmp_ge (tgt := 81) hx hb dX8_gatherSessions_64 (by decide) (fun c23 => ?_) (fun c23 => ?_)
                · have c23i : Int32.toInt d ≤ Int32.toInt (sI L10 b11 5) := (i3_le _ _).mp c23
                  refine lv_iinc (v := y + 1) (lv' := [(4, .int (y + 1)), (5, .ref b11), (0, .ref h), (1, .int a), (2, .int b), (3, .int d)]) hx hb dX8_gatherSessions_81 hl (k := 5) rfl rfl (by decide) rfl (fun ls hl => ?_)
                  have i24 : (y + 1).toInt = (y).toInt + 1 := i3_add rfl rfl (by omega) (by omega)
                  refine lv_goto (tgt := 10) hx hb dX8_gatherSessions_84 (by decide) ?_
                  exact ih10 (y + 1) L10 _ _ ls hG hE5 (by omega) (by omega) hW hS (lv_cast (lv_sub hl [2, 3, 4, 5, 0] rfl) (rfl))
                · have c23i : ¬ (Int32.toInt d ≤ Int32.toInt (sI L10 b11 5)) := fun h9 => c23 ((i3_le _ _).mpr h9)
                  refine lv_aload_n hx hb dX8_gatherSessions_67 rfl (lv_at hl 1 rfl) ?_
                  refine pg_gr (b := b1) (ci := 8) (C := RX8) (T := TX8) (N := 18) hx hb hts wi8 hown hK hW (hF.k hk (by decide)) (by decide) rfl 7 (by decide) (hts (.fieldLink RX8 57 "IceHall" "mover" "LIceHall$Mover;") (by decide +kernel)) (fun _ h9 => h9) rfl (hF.r hk (by decide) rb1) dX8_gatherSessions_68 ?_
                  refine lv_aload hx hb dX8_gatherSessions_71 (lv_at hl 0 rfl) ?_
                  refine pc_Vi (As := [.ref b11]) (rest := []) F (b_X2_add l D cy A L10 b1 b11 hG (hF.k kb1 (by decide)) kb11) (cwV 1 hts gX8_gatherSessions_X2_add rfl rfl rfl (by decide +kernel) ⟨Nat.le_of_ble_eq_true rfl, Nat.le_of_ble_eq_true rfl⟩) hK hZ hA hW hS (hF.k kb1 (by decide)) (by decide) rfl rfl hl.1 rfl (Nat.le_of_ble_eq_true rfl) dX8_gatherSessions_73 ⟨Nat.le_of_ble_eq_true rfl, Nat.le_of_ble_eq_true rfl⟩ (fun v25 T26 H locs p27 hW hS => ?_)
                  obtain ⟨hG, hFc, p27⟩ := p27
                  have hF : Fr [] [206] S T26 := hF.tr (hFc.mono (by decide))
                  have hE5 : Fr [] [206] T3 T26 := hE5.tr (hFc.mono (by decide))
                  have hE12 : Fr [] [206] L10 T26 := hE12.tr (hFc.mono (by decide))
                  refine lv_if_ne (tgt := 81) hx hb dX8_gatherSessions_76 (by decide) (fun c28 => ?_) (fun c28 => ?_)
                  · have c28i : ¬ (Int32.toInt v25 = (0 : Int)) := fun h9 => c28 ((i3_eq _ _).mpr h9)
                    refine lv_iinc (v := y + 1) (lv' := [(4, .int (y + 1)), (5, .ref b11), (0, .ref h), (1, .int a), (2, .int b), (3, .int d)]) hx hb dX8_gatherSessions_81 hl (k := 5) rfl rfl (by decide) rfl (fun ls hl => ?_)
                    have i29 : (y + 1).toInt = (y).toInt + 1 := i3_add rfl rfl (by omega) (by omega)
                    refine lv_goto (tgt := 10) hx hb dX8_gatherSessions_84 (by decide) ?_
                    exact ih10 (y + 1) T26 _ _ ls hG hE5 (by omega) (by omega) hW hS (lv_cast (lv_sub hl [2, 3, 4, 5, 0] rfl) (rfl))
                  · have c28i : Int32.toInt v25 = (0 : Int) := (i3_eq _ _).mp c28
                    refine lv_iconst (v := 0) hx hb dX8_gatherSessions_79 (by decide) ?_
                    exact pc_zret (v := 0) (S := T26) hx hb hr hlk hK hZ hA hW hS (by decide) (⟨hG, hF, trivial⟩) dX8_gatherSessions_80
  exact loop10 _ 0 T3 _ _ ls hG hE5 (by decide) (Nat.lt_succ_self _) hW hS (lv_cast (lv_sub hl [1, 2, 3, 4, 0] rfl) (rfl))
set_option maxHeartbeats 4000000 in
set_option maxRecDepth 100000 in
theorem b_X8_wantOfWarmth (l : Launch) (D : va_G) (cy : Nat → ClassId) (A : Nat → Prop) (S : St) (a : Int32)  : MI l yX8_wantOfWarmth wsX8_wantOfWarmth ({ frames := 0, cells := 0, slots := 0, locals := 0 } : Room) 0 0 D cy A [.int a] S (fun r S1 => S1 = S ∧ True) := by
  refine mt_start (cc := cX8_wantOfWarmth) (maxL := 1) (ret := (some .int)) (by decide) rfl (Nat.le_of_ble_eq_true rfl) ?_
  intro p e s m args below meth c hx hb hr hlk hml hown hnm hts hK hZ hA hW hS ls hl
  have hl : lv_has ls 1 [(0, .int a)] := hl
  have hown : s.vm.findClass RX8 = some m.cls := hown
  have F : CallFix p m c cX8_wantOfWarmth 1 s args wsX8_wantOfWarmth RX8 := ⟨hx, hb, hml, hown, hts⟩
  refine lv_iload_n hx hb dX8_wantOfWarmth_0 rfl (lv_at hl 0 rfl) ?_
  refine lv_if_le (tgt := 10) hx hb dX8_wantOfWarmth_1 (by decide) (fun c1 => ?_) (fun c1 => ?_)
  · have c1i : Int32.toInt a ≤ (0 : Int) := (i3_le _ _).mp c1
    refine lv_iconst (v := 0) hx hb dX8_wantOfWarmth_10 (by decide) ?_
    exact pc_iret (v := 0) (S := S) hx hb hr hlk hK hZ hA hW hS (⟨rfl, trivial⟩) dX8_wantOfWarmth_11
  · have c1i : ¬ (Int32.toInt a ≤ (0 : Int)) := fun h9 => c1 ((i3_le _ _).mpr h9)
    refine lv_iload_n hx hb dX8_wantOfWarmth_4 rfl (lv_at hl 0 rfl) ?_
    refine lv_iconst (v := 2) hx hb dX8_wantOfWarmth_5 (by decide) ?_
    refine lv_idiv hx hb dX8_wantOfWarmth_6 (by decide) ?_
    refine lv_goto (tgt := 11) hx hb dX8_wantOfWarmth_7 (by decide) ?_
    exact pc_iret (v := a / 2) (S := S) hx hb hr hlk hK hZ hA hW hS (⟨rfl, trivial⟩) dX8_wantOfWarmth_11
set_option maxHeartbeats 4000000 in
set_option maxRecDepth 100000 in
theorem b_X8_runCompressors (l : Launch) (D : va_G) (cy : Nat → ClassId) (A : Nat → Prop) (S : St) (h : Nat) (a : Int32) (hG0 : G S) (hk : sK S h = 8) : MV l yX8_runCompressors wsX8_runCompressors ({ frames := 0, cells := 0, slots := 0, locals := 0 } : Room) 0 0 D cy A [.ref h, .int a] S (fun S1 => G S1 ∧ Fr [] [811, 815, 816] S S1 ∧ True) := by
  refine mt_start (cc := cX8_runCompressors) (maxL := 2) (ret := none) (by decide) rfl (Nat.le_of_ble_eq_true rfl) ?_
  intro p e s m args below meth c hx hb hr hlk hml hown hnm hts hK hZ hA hW hS ls hl
  have hl : lv_has ls 2 [(0, .ref h), (1, .int a)] := hl
  have hown : s.vm.findClass RX8 = some m.cls := hown
  have F : CallFix p m c cX8_runCompressors 2 s args wsX8_runCompressors RX8 := ⟨hx, hb, hml, hown, hts⟩
  have wi8 : ∀ w ∈ u_ws RX8 TX8 18, w ∈ wsX8_runCompressors := by decide +kernel
  have hG := hG0
  have hF : Fr [] [811, 815, 816] S S := Fr.rf _ _ _
  refine lv_aload_n hx hb dX8_runCompressors_0 rfl (lv_at hl 0 rfl) ?_
  refine lv_dup hx hb dX8_runCompressors_1 rfl ?_
  refine pg_gi (ci := 8) (C := RX8) (T := TX8) (N := 18) hx hb hts wi8 hown hK hW hk (by decide) rfl 16 (by decide) (hts (.fieldLink RX8 264 "IceHall" "cost" "I") (by decide +kernel)) (fun _ h9 => h9) rfl dX8_runCompressors_2 ?_
  refine lv_iload_n hx hb dX8_runCompressors_5 rfl (lv_at hl 1 rfl) ?_
  refine lv_aload_n hx hb dX8_runCompressors_6 rfl (lv_at hl 0 rfl) ?_
  obtain ⟨b1, rb1, kb1, nb1⟩ := hG0.r hk List.not_mem_nil 4 (show rty 8 4 = some (11, 24) from rfl)
  refine pg_gr (b := b1) (ci := 8) (C := RX8) (T := TX8) (N := 18) hx hb hts wi8 hown hK hW hk (by decide) rfl 4 (by decide) (hts (.fieldLink RX8 32 "IceHall" "prices" "[I") (by decide +kernel)) (fun _ h9 => h9) rfl rb1 dX8_runCompressors_7 ?_
  refine lv_aload_n hx hb dX8_runCompressors_10 rfl (lv_at hl 0 rfl) ?_
  refine pg_gi (ci := 8) (C := RX8) (T := TX8) (N := 18) hx hb hts wi8 hown hK hW hk (by decide) rfl 10 (by decide) (hts (.fieldLink RX8 96 "IceHall" "now" "I") (by decide +kernel)) (fun _ h9 => h9) rfl dX8_runCompressors_11 ?_
  have g2 : (0 : Int) ≤ (sI S h 10).toInt ∧ (sI S h 10).toInt ≤ 990 := hG.i hk (by decide) 10 (by decide)
  refine lv_bipush (v := 24) hx hb dX8_runCompressors_14 (by decide) ?_
  refine lv_irem hx hb dX8_runCompressors_16 (by decide) ?_
  have hr24 := rem24 (x := sI S h 10) (by omega)
  refine pg_iald hx hb hK hW kb1 (by decide) (by rw [show sL S b1 = 24 from nb1]; exact r_in (by omega)) dX8_runCompressors_17 ?_
  refine lv_imul hx hb dX8_runCompressors_18 ?_
  refine lv_iadd hx hb dX8_runCompressors_19 ?_
  refine pg_pi (ci := 8) (C := RX8) (T := TX8) (N := 18) hx hb hts wi8 tyX8 tyX8_ok nmX8 hown hK hW hS hk (by decide) rfl 16 (by decide) (hts (.fieldLink RX8 264 "IceHall" "cost" "I") (by decide +kernel)) (fun _ h9 => h9) rfl rfl rfl dX8_runCompressors_20 (fun H locs hW hS => ?_)
  obtain ⟨S3, eS3⟩ : ∃ T : St, T = stI S h 16 ((sI S h 16) + (a * (sI S b1 (Int32.toNatClampNeg ((sI S h 10) - (sI S h 10) / 24 * 24))))) := ⟨_, rfl⟩
  rw [← eS3] at hW
  have hG : G S3 := by rw [eS3]; exact hG.I hk (ok_fr (by decide))
  have hF : Fr [] [811, 815, 816] S S3 := by rw [eS3]; exact hF.I hk (by decide)
  clear eS3
  refine lv_aload_n hx hb dX8_runCompressors_23 rfl (lv_at hl 0 rfl) ?_
  refine lv_dup hx hb dX8_runCompressors_24 rfl ?_
  refine pg_gi (ci := 8) (C := RX8) (T := TX8) (N := 18) hx hb hts wi8 hown hK hW (hF.k hk (by decide)) (by decide) rfl 11 (by decide) (hts (.fieldLink RX8 68 "IceHall" "store" "I") (by decide +kernel)) (fun _ h9 => h9) rfl dX8_runCompressors_25 ?_
  refine lv_iload_n hx hb dX8_runCompressors_28 rfl (lv_at hl 1 rfl) ?_
  refine lv_bipush (v := 20) hx hb dX8_runCompressors_29 (by decide) ?_
  refine lv_imul hx hb dX8_runCompressors_31 ?_
  refine lv_iadd hx hb dX8_runCompressors_32 ?_
  refine pg_pi (ci := 8) (C := RX8) (T := TX8) (N := 18) hx hb hts wi8 tyX8 tyX8_ok nmX8 hown hK hW hS (hF.k hk (by decide)) (by decide) rfl 11 (by decide) (hts (.fieldLink RX8 68 "IceHall" "store" "I") (by decide +kernel)) (fun _ h9 => h9) rfl rfl rfl dX8_runCompressors_33 (fun H locs hW hS => ?_)
  have kq4 : sK S3 h = 8 := (hF.k hk (by decide))
  obtain ⟨S5, eS5⟩ : ∃ T : St, T = stI S3 h 11 ((sI S3 h 11) + (a * 20)) := ⟨_, rfl⟩
  rw [← eS5] at hW
  have hG : G S5 := by rw [eS5]; exact hG.I kq4 (ok_fr (by decide))
  have hF : Fr [] [811, 815, 816] S S5 := by rw [eS5]; exact hF.I kq4 (by decide)
  clear eS5
  refine lv_aload_n hx hb dX8_runCompressors_36 rfl (lv_at hl 0 rfl) ?_
  refine pg_gi (ci := 8) (C := RX8) (T := TX8) (N := 18) hx hb hts wi8 hown hK hW (hF.k hk (by decide)) (by decide) rfl 11 (by decide) (hts (.fieldLink RX8 68 "IceHall" "store" "I") (by decide +kernel)) (fun _ h9 => h9) rfl dX8_runCompressors_37 ?_
  refine lv_aload_n hx hb dX8_runCompressors_40 rfl (lv_at hl 0 rfl) ?_
  refine pg_gi (ci := 8) (C := RX8) (T := TX8) (N := 18) hx hb hts wi8 hown hK hW (hF.k hk (by decide)) (by decide) rfl 12 (by decide) (hts (.fieldLink RX8 72 "IceHall" "storeMost" "I") (by decide +kernel)) (fun _ h9 => h9) rfl dX8_runCompressors_41 ?_
  refine lv_icmp_le (tgt := 73) hx hb dX8_runCompressors_44 (by decide) (fun c6 => ?_) (fun c6 => ?_)
  · have c6i : Int32.toInt (sI S5 h 11) ≤ Int32.toInt (sI S5 h 12) := (i3_le _ _).mp c6
    exact pc_vret (S := S5) hx hb hr hlk hK hZ hA hW hS (⟨hG, hF, trivial⟩) dX8_runCompressors_73
  · have c6i : ¬ (Int32.toInt (sI S5 h 11) ≤ Int32.toInt (sI S5 h 12)) := fun h9 => c6 ((i3_le _ _).mpr h9)
    refine lv_aload_n hx hb dX8_runCompressors_47 rfl (lv_at hl 0 rfl) ?_
    refine lv_dup hx hb dX8_runCompressors_48 rfl ?_
    refine pg_gi (ci := 8) (C := RX8) (T := TX8) (N := 18) hx hb hts wi8 hown hK hW (hF.k hk (by decide)) (by decide) rfl 15 (by decide) (hts (.fieldLink RX8 261 "IceHall" "spilt" "I") (by decide +kernel)) (fun _ h9 => h9) rfl dX8_runCompressors_49 ?_
    refine lv_aload_n hx hb dX8_runCompressors_52 rfl (lv_at hl 0 rfl) ?_
    refine pg_gi (ci := 8) (C := RX8) (T := TX8) (N := 18) hx hb hts wi8 hown hK hW (hF.k hk (by decide)) (by decide) rfl 11 (by decide) (hts (.fieldLink RX8 68 "IceHall" "store" "I") (by decide +kernel)) (fun _ h9 => h9) rfl dX8_runCompressors_53 ?_
    refine lv_aload_n hx hb dX8_runCompressors_56 rfl (lv_at hl 0 rfl) ?_
    refine pg_gi (ci := 8) (C := RX8) (T := TX8) (N := 18) hx hb hts wi8 hown hK hW (hF.k hk (by decide)) (by decide) rfl 12 (by decide) (hts (.fieldLink RX8 72 "IceHall" "storeMost" "I") (by decide +kernel)) (fun _ h9 => h9) rfl dX8_runCompressors_57 ?_
    refine lv_isub hx hb dX8_runCompressors_60 ?_
    refine lv_iadd hx hb dX8_runCompressors_61 ?_
    refine pg_pi (ci := 8) (C := RX8) (T := TX8) (N := 18) hx hb hts wi8 tyX8 tyX8_ok nmX8 hown hK hW hS (hF.k hk (by decide)) (by decide) rfl 15 (by decide) (hts (.fieldLink RX8 261 "IceHall" "spilt" "I") (by decide +kernel)) (fun _ h9 => h9) rfl rfl rfl dX8_runCompressors_62 (fun H locs hW hS => ?_)
    have kq7 : sK S5 h = 8 := (hF.k hk (by decide))
    obtain ⟨S8, eS8⟩ : ∃ T : St, T = stI S5 h 15 ((sI S5 h 15) + ((sI S5 h 11) - (sI S5 h 12))) := ⟨_, rfl⟩
    rw [← eS8] at hW
    have hG : G S8 := by rw [eS8]; exact hG.I kq7 (ok_fr (by decide))
    have hF : Fr [] [811, 815, 816] S S8 := by rw [eS8]; exact hF.I kq7 (by decide)
    clear eS8
    refine lv_aload_n hx hb dX8_runCompressors_65 rfl (lv_at hl 0 rfl) ?_
    refine lv_aload_n hx hb dX8_runCompressors_66 rfl (lv_at hl 0 rfl) ?_
    refine pg_gi (ci := 8) (C := RX8) (T := TX8) (N := 18) hx hb hts wi8 hown hK hW (hF.k hk (by decide)) (by decide) rfl 12 (by decide) (hts (.fieldLink RX8 72 "IceHall" "storeMost" "I") (by decide +kernel)) (fun _ h9 => h9) rfl dX8_runCompressors_67 ?_
    refine pg_pi (ci := 8) (C := RX8) (T := TX8) (N := 18) hx hb hts wi8 tyX8 tyX8_ok nmX8 hown hK hW hS (hF.k hk (by decide)) (by decide) rfl 11 (by decide) (hts (.fieldLink RX8 68 "IceHall" "store" "I") (by decide +kernel)) (fun _ h9 => h9) rfl rfl rfl dX8_runCompressors_70 (fun H locs hW hS => ?_)
    have kq9 : sK S8 h = 8 := (hF.k hk (by decide))
    obtain ⟨S10, eS10⟩ : ∃ T : St, T = stI S8 h 11 (sI S8 h 12) := ⟨_, rfl⟩
    rw [← eS10] at hW
    have hG : G S10 := by rw [eS10]; exact hG.I kq9 (ok_fr (by decide))
    have hF : Fr [] [811, 815, 816] S S10 := by rw [eS10]; exact hF.I kq9 (by decide)
    clear eS10
    exact pc_vret (S := S10) hx hb hr hlk hK hZ hA hW hS (⟨hG, hF, trivial⟩) dX8_runCompressors_73
set_option maxHeartbeats 4000000 in
set_option maxRecDepth 100000 in
theorem b_X8_makeCut (l : Launch) (D : va_G) (cy : Nat → ClassId) (A : Nat → Prop) (S : St) (h x : Nat) (hG0 : G S) (hk : sK S h = 8) (hkx : sK S x = 1) : MV l yX8_makeCut wsX8_makeCut ({ frames := 2, cells := 0, slots := 0, locals := 81 } : Room) 0 0 D cy A [.ref h, .ref x] S (fun S1 => G S1 ∧ Fr [] [103, 104, 105, 106, 108, 109, 811, 817] S S1 ∧ True) := by
  refine mt_start (cc := cX8_makeCut) (maxL := 3) (ret := none) (by decide) rfl (Nat.le_of_ble_eq_true rfl) ?_
  intro p e s m args below meth c hx hb hr hlk hml hown hnm hts hK hZ hA hW hS ls hl
  have hl : lv_has ls 3 [(0, .ref h), (1, .ref x)] := hl
  have hown : s.vm.findClass RX8 = some m.cls := hown
  have F : CallFix p m c cX8_makeCut 3 s args wsX8_makeCut RX8 := ⟨hx, hb, hml, hown, hts⟩
  have wi1 : ∀ w ∈ u_ws RX1 TX1 10, w ∈ wsX8_makeCut := by decide +kernel
  have wi8 : ∀ w ∈ u_ws RX8 TX8 18, w ∈ wsX8_makeCut := by decide +kernel
  have hG := hG0
  have hF : Fr [] [103, 104, 105, 106, 108, 109, 811, 817] S S := Fr.rf _ _ _
  refine lv_aload_n hx hb dX8_makeCut_0 rfl (lv_at hl 1 rfl) ?_
  refine pc_Vv (As := []) (rest := []) F (b_X1_shave l D cy A S x hG hkx) (cwV 0 hts gX8_makeCut_X1_shave rfl rfl rfl (by decide +kernel) ⟨Nat.le_of_ble_eq_true rfl, Nat.le_of_ble_eq_true rfl⟩) hK hZ hA hW hS hkx (by decide) rfl rfl hl.1 rfl (Nat.le_of_ble_eq_true rfl) dX8_makeCut_1 ⟨Nat.le_of_ble_eq_true rfl, Nat.le_of_ble_eq_true rfl⟩ (fun T2 H locs p3 hW hS => ?_)
  obtain ⟨hG, hFc, p3⟩ := p3
  have hF : Fr [] [103, 104, 105, 106, 108, 109, 811, 817] S T2 := hF.tr (hFc.mono (by decide))
  refine lv_aload_n hx hb dX8_makeCut_4 rfl (lv_at hl 1 rfl) ?_
  refine pg_gi (ci := 1) (C := RX1) (T := TX1) (N := 10) hx hb hts wi1 hown hK hW (hF.k hkx (by decide)) (by decide) rfl 9 (by decide) (hts (.fieldLink RX8 305 "IceHall$Ice" "toFlood" "I") (by decide +kernel)) (fun _ h9 => h9) rfl dX8_makeCut_5 ?_
  refine lv_aload_n hx hb dX8_makeCut_8 rfl (lv_at hl 0 rfl) ?_
  refine pg_gi (ci := 8) (C := RX8) (T := TX8) (N := 18) hx hb hts wi8 hown hK hW (hF.k hk (by decide)) (by decide) rfl 11 (by decide) (hts (.fieldLink RX8 68 "IceHall" "store" "I") (by decide +kernel)) (fun _ h9 => h9) rfl dX8_makeCut_9 ?_
  refine lv_iconst (v := 3) hx hb dX8_makeCut_12 (by decide) ?_
  refine lv_idiv hx hb dX8_makeCut_13 (by decide) ?_
  refine va_mmin hx hb (by rw [hml]; exact hl.1.symm) hown (hts (.methodLink RX8 286 Lib.Math.min.name) (by decide +kernel)) (hts (.static Lib.Math.min.name) (by decide +kernel)) (hts (.initialized "java/lang/Math") (by decide +kernel)) (hts (.code Lib.Math.min.name Lib.Math.min.code 2 (some .int)) (by decide +kernel)) (Nat.le_of_ble_eq_true rfl) (Nat.le_of_ble_eq_true rfl) (Nat.le_of_ble_eq_true rfl) (Nat.le_of_ble_eq_true rfl) dX8_makeCut_14 ?_
  refine lv_topi (fun m4 em4 => ?_)
  refine lv_istore_n (lv' := [(2, .int m4), (0, .ref h), (1, .ref x)]) hx hb dX8_makeCut_17 rfl hl (by decide) rfl (fun ls hl => ?_)
  refine lv_aload_n hx hb dX8_makeCut_18 rfl (lv_at hl 1 rfl) ?_
  refine lv_dup hx hb dX8_makeCut_19 rfl ?_
  refine pg_gi (ci := 8) (C := RX8) (T := TX8) (N := 18) hx hb hts wi8 hown hK hW (hF.k hk (by decide)) (by decide) rfl 11 (by decide) (hts (.fieldLink RX8 68 "IceHall" "store" "I") (by decide +kernel)) (fun _ h9 => h9) rfl dX8_makeCut_20 ?_
  refine lv_iload_n hx hb dX8_makeCut_23 rfl (lv_at hl 0 rfl) ?_
  refine lv_iconst (v := 3) hx hb dX8_makeCut_24 (by decide) ?_
  refine lv_imul hx hb dX8_makeCut_25 ?_
  refine lv_isub hx hb dX8_makeCut_26 ?_
  refine pg_pi (ci := 8) (C := RX8) (T := TX8) (N := 18) hx hb hts wi8 tyX8 tyX8_ok nmX8 hown hK hW hS (hF.k hk (by decide)) (by decide) rfl 11 (by decide) (hts (.fieldLink RX8 68 "IceHall" "store" "I") (by decide +kernel)) (fun _ h9 => h9) rfl rfl rfl dX8_makeCut_27 (fun H locs hW hS => ?_)
  have kq5 : sK T2 h = 8 := (hF.k hk (by decide))
  obtain ⟨S6, eS6⟩ : ∃ T : St, T = stI T2 h 11 ((sI T2 h 11) - (m4 * 3)) := ⟨_, rfl⟩
  rw [← eS6] at hW
  have hG : G S6 := by rw [eS6]; exact hG.I kq5 (ok_fr (by decide))
  have hF : Fr [] [103, 104, 105, 106, 108, 109, 811, 817] S S6 := by rw [eS6]; exact hF.I kq5 (by decide)
  clear eS6
  refine lv_aload_n hx hb dX8_makeCut_30 rfl (lv_at hl 1 rfl) ?_
  refine lv_dup hx hb dX8_makeCut_31 rfl ?_
  refine pg_gi (ci := 8) (C := RX8) (T := TX8) (N := 18) hx hb hts wi8 hown hK hW (hF.k hk (by decide)) (by decide) rfl 17 (by decide) (hts (.fieldLink RX8 267 "IceHall" "waste" "I") (by decide +kernel)) (fun _ h9 => h9) rfl dX8_makeCut_32 ?_
  refine lv_aload_n hx hb dX8_makeCut_35 rfl (lv_at hl 2 rfl) ?_
  refine pg_gi (ci := 1) (C := RX1) (T := TX1) (N := 10) hx hb hts wi1 hown hK hW (hF.k hkx (by decide)) (by decide) rfl 9 (by decide) (hts (.fieldLink RX8 305 "IceHall$Ice" "toFlood" "I") (by decide +kernel)) (fun _ h9 => h9) rfl dX8_makeCut_36 ?_
  refine lv_iload_n hx hb dX8_makeCut_39 rfl (lv_at hl 0 rfl) ?_
  refine lv_isub hx hb dX8_makeCut_40 ?_
  refine lv_iadd hx hb dX8_makeCut_41 ?_
  refine pg_pi (ci := 8) (C := RX8) (T := TX8) (N := 18) hx hb hts wi8 tyX8 tyX8_ok nmX8 hown hK hW hS (hF.k hk (by decide)) (by decide) rfl 17 (by decide) (hts (.fieldLink RX8 267 "IceHall" "waste" "I") (by decide +kernel)) (fun _ h9 => h9) rfl rfl rfl dX8_makeCut_42 (fun H locs hW hS => ?_)
  have kq7 : sK S6 h = 8 := (hF.k hk (by decide))
  obtain ⟨S8, eS8⟩ : ∃ T : St, T = stI S6 h 17 ((sI S6 h 17) + ((sI S6 x 9) - m4)) := ⟨_, rfl⟩
  rw [← eS8] at hW
  have hG : G S8 := by rw [eS8]; exact hG.I kq7 (ok_fr (by decide))
  have hF : Fr [] [103, 104, 105, 106, 108, 109, 811, 817] S S8 := by rw [eS8]; exact hF.I kq7 (by decide)
  clear eS8
  refine lv_aload_n hx hb dX8_makeCut_45 rfl (lv_at hl 2 rfl) ?_
  refine lv_iload_n hx hb dX8_makeCut_46 rfl (lv_at hl 0 rfl) ?_
  refine pc_Vv (As := [.int m4]) (rest := []) F (b_X1_freeze l D cy A S8 x m4 hG (hF.k hkx (by decide))) (cwV 1 hts gX8_makeCut_X1_freeze rfl rfl rfl (by decide +kernel) ⟨Nat.le_of_ble_eq_true rfl, Nat.le_of_ble_eq_true rfl⟩) hK hZ hA hW hS (hF.k hkx (by decide)) (by decide) rfl rfl hl.1 rfl (Nat.le_of_ble_eq_true rfl) dX8_makeCut_47 ⟨Nat.le_of_ble_eq_true rfl, Nat.le_of_ble_eq_true rfl⟩ (fun T10 H locs p11 hW hS => ?_)
  obtain ⟨hG, hFc, p11⟩ := p11
  have hF : Fr [] [103, 104, 105, 106, 108, 109, 811, 817] S T10 := hF.tr (hFc.mono (by decide))
  refine lv_aload_n hx hb dX8_makeCut_50 rfl (lv_at hl 2 rfl) ?_
  refine lv_iconst (v := 0) hx hb dX8_makeCut_51 (by decide) ?_
  refine lv_iconst (v := 0) hx hb dX8_makeCut_52 (by decide) ?_
  refine pc_Vv (As := [.int 0, .int 0]) (rest := []) F (b_X1_tellCut l D cy A T10 x 0 0 hG (hF.k hkx (by decide))) (cwV 2 hts gX8_makeCut_X1_tellCut rfl rfl rfl (by decide +kernel) ⟨Nat.le_of_ble_eq_true rfl, Nat.le_of_ble_eq_true rfl⟩) hK hZ hA hW hS (hF.k hkx (by decide)) (by decide) rfl rfl hl.1 rfl (Nat.le_of_ble_eq_true rfl) dX8_makeCut_53 ⟨Nat.le_of_ble_eq_true rfl, Nat.le_of_ble_eq_true rfl⟩ (fun T13 H locs p14 hW hS => ?_)
  obtain ⟨hG, hFc, p14⟩ := p14
  have hF : Fr [] [103, 104, 105, 106, 108, 109, 811, 817] S T13 := hF.tr (hFc.mono (by decide))
  exact pc_vret (S := T13) hx hb hr hlk hK hZ hA hW hS (⟨hG, hF, trivial⟩) dX8_makeCut_56
set_option maxHeartbeats 4000000 in
set_option maxRecDepth 100000 in
theorem b_X8_passHour (l : Launch) (D : va_G) (cy : Nat → ClassId) (A : Nat → Prop) (S : St) (h : Nat) (a b : Int32) (hG0 : G S) (hk : sK S h = 8) : MV l yX8_passHour wsX8_passHour ({ frames := 3, cells := 0, slots := 0, locals := 103 } : Room) 0 0 D cy A [.ref h, .int a, .int b] S (fun S1 => G S1 ∧ Fr [] [103, 104, 105, 106, 107, 108, 109, 606, 607, 608, 811, 817] S S1 ∧ True) := by
  refine mt_start (cc := cX8_passHour) (maxL := 7) (ret := none) (by decide) rfl (Nat.le_of_ble_eq_true rfl) ?_
  intro p e s m args below meth c hx hb hr hlk hml hown hnm hts hK hZ hA hW hS ls hl
  have hl : lv_has ls 7 [(0, .ref h), (1, .int a), (2, .int b)] := hl
  have hown : s.vm.findClass RX8 = some m.cls := hown
  have F : CallFix p m c cX8_passHour 7 s args wsX8_passHour RX8 := ⟨hx, hb, hml, hown, hts⟩
  have wi1 : ∀ w ∈ u_ws RX1 TX1 10, w ∈ wsX8_passHour := by decide +kernel
  have wi8 : ∀ w ∈ u_ws RX8 TX8 18, w ∈ wsX8_passHour := by decide +kernel
  have hG := hG0
  have hF : Fr [] [103, 104, 105, 106, 107, 108, 109, 606, 607, 608, 811, 817] S S := Fr.rf _ _ _
  refine lv_aload_n hx hb dX8_passHour_0 rfl (lv_at hl 0 rfl) ?_
  refine lv_iload_n hx hb dX8_passHour_1 rfl (lv_at hl 1 rfl) ?_
  refine pc_Vq (As := [.int a]) (rest := []) F (b_X8_iceOf l D cy A S h a hG hk) (cwV 1 hts gX8_passHour_X8_iceOf rfl rfl rfl (by decide +kernel) ⟨Nat.le_of_ble_eq_true rfl, Nat.le_of_ble_eq_true rfl⟩) hK hZ hA hW hS hk (by decide) rfl rfl hl.1 rfl (Nat.le_of_ble_eq_true rfl) dX8_passHour_2 ⟨Nat.le_of_ble_eq_true rfl, Nat.le_of_ble_eq_true rfl⟩ (fun v1 T2 H locs p3 hW hS => ?_)
  obtain ⟨eT2, p3⟩ := p3
  rw [eT2] at hW
  obtain ⟨b4, erb4, kb4⟩ := p3
  rw [erb4]
  refine lv_astore_n (lv' := [(3, .ref b4), (0, .ref h), (1, .int a), (2, .int b)]) hx hb dX8_passHour_5 rfl hl (by decide) rfl (fun ls hl => ?_)
  refine lv_aload_n hx hb dX8_passHour_6 rfl (lv_at hl 1 rfl) ?_
  refine lv_iload_n hx hb dX8_passHour_7 rfl (lv_at hl 2 rfl) ?_
  refine lv_aload_n hx hb dX8_passHour_8 rfl (lv_at hl 1 rfl) ?_
  refine pg_gi (ci := 8) (C := RX8) (T := TX8) (N := 18) hx hb hts wi8 hown hK hW hk (by decide) rfl 10 (by decide) (hts (.fieldLink RX8 96 "IceHall" "now" "I") (by decide +kernel)) (fun _ h9 => h9) rfl dX8_passHour_9 ?_
  have g5 : (0 : Int) ≤ (sI S h 10).toInt ∧ (sI S h 10).toInt ≤ 990 := hG.i hk (by decide) 10 (by decide)
  refine pc_Vq (As := [.int a, .int (sI S h 10)]) (rest := []) F (b_X8_standingAt l D cy A S h a (sI S h 10) hG hk) (cwV 2 hts gX8_passHour_X8_standingAt rfl rfl rfl (by decide +kernel) ⟨Nat.le_of_ble_eq_true rfl, Nat.le_of_ble_eq_true rfl⟩) hK hZ hA hW hS hk (by decide) rfl rfl hl.1 rfl (Nat.le_of_ble_eq_true rfl) dX8_passHour_12 ⟨Nat.le_of_ble_eq_true rfl, Nat.le_of_ble_eq_true rfl⟩ (fun v6 T7 H locs p8 hW hS => ?_)
  obtain ⟨eT7, p8⟩ := p8
  rw [eT7] at hW
  rcases p8 with erb9 | ⟨b9, erb9, kb9⟩
  · rw [erb9]
    refine lv_astoreN (lv' := [(4, .null), (3, .ref b4), (0, .ref h), (1, .int a), (2, .int b)]) hx hb dX8_passHour_15 hl (by decide) rfl (fun ls hl => ?_)
    refine lv_iload_n hx hb dX8_passHour_17 rfl (lv_at hl 4 rfl) ?_
    refine lv_aloadN hx hb dX8_passHour_18 (lv_at hl 0 rfl) ?_
    refine pc_Si (As := [.null]) (rest := [.int b]) F (b_X8_heatOf_n l D cy A S  ) (va_cwS 1 hts gX8_passHour_X8_heatOf rfl rfl rfl (by decide +kernel) ⟨Nat.le_of_ble_eq_true rfl, Nat.le_of_ble_eq_true rfl⟩) hK hZ hA hW hS rfl hl.1 rfl (Nat.le_of_ble_eq_true rfl) dX8_passHour_20 ⟨Nat.le_of_ble_eq_true rfl, Nat.le_of_ble_eq_true rfl⟩ (fun v10 T11 H locs p12 hW hS => ?_)
    obtain ⟨eT11, p12⟩ := p12
    rw [eT11] at hW
    clear eT11
    refine lv_iadd hx hb dX8_passHour_23 ?_
    refine lv_istore (lv' := [(5, .int (b + v10)), (4, .null), (3, .ref b4), (0, .ref h), (1, .int a), (2, .int b)]) hx hb dX8_passHour_24 hl (by decide) rfl (fun ls hl => ?_)
    refine lv_iload hx hb dX8_passHour_26 (lv_at hl 0 rfl) ?_
    refine lv_aload_n hx hb dX8_passHour_28 rfl (lv_at hl 3 rfl) ?_
    refine pg_gi (ci := 8) (C := RX8) (T := TX8) (N := 18) hx hb hts wi8 hown hK hW hk (by decide) rfl 11 (by decide) (hts (.fieldLink RX8 68 "IceHall" "store" "I") (by decide +kernel)) (fun _ h9 => h9) rfl dX8_passHour_29 ?_
    refine va_mmin hx hb (by rw [hml]; exact hl.1.symm) hown (hts (.methodLink RX8 286 Lib.Math.min.name) (by decide +kernel)) (hts (.static Lib.Math.min.name) (by decide +kernel)) (hts (.initialized "java/lang/Math") (by decide +kernel)) (hts (.code Lib.Math.min.name Lib.Math.min.code 2 (some .int)) (by decide +kernel)) (Nat.le_of_ble_eq_true rfl) (Nat.le_of_ble_eq_true rfl) (Nat.le_of_ble_eq_true rfl) (Nat.le_of_ble_eq_true rfl) dX8_passHour_32 ?_
    refine lv_topi (fun m13 em13 => ?_)
    refine lv_istore (lv' := [(6, .int m13), (5, .int (b + v10)), (4, .null), (3, .ref b4), (0, .ref h), (1, .int a), (2, .int b)]) hx hb dX8_passHour_35 hl (by decide) rfl (fun ls hl => ?_)
    refine lv_aload_n hx hb dX8_passHour_37 rfl (lv_at hl 4 rfl) ?_
    refine lv_dup hx hb dX8_passHour_38 rfl ?_
    refine pg_gi (ci := 8) (C := RX8) (T := TX8) (N := 18) hx hb hts wi8 hown hK hW hk (by decide) rfl 11 (by decide) (hts (.fieldLink RX8 68 "IceHall" "store" "I") (by decide +kernel)) (fun _ h9 => h9) rfl dX8_passHour_39 ?_
    refine lv_iload hx hb dX8_passHour_42 (lv_at hl 0 rfl) ?_
    refine lv_isub hx hb dX8_passHour_44 ?_
    refine pg_pi (ci := 8) (C := RX8) (T := TX8) (N := 18) hx hb hts wi8 tyX8 tyX8_ok nmX8 hown hK hW hS hk (by decide) rfl 11 (by decide) (hts (.fieldLink RX8 68 "IceHall" "store" "I") (by decide +kernel)) (fun _ h9 => h9) rfl rfl rfl dX8_passHour_45 (fun H locs hW hS => ?_)
    obtain ⟨S14, eS14⟩ : ∃ T : St, T = stI S h 11 ((sI S h 11) - m13) := ⟨_, rfl⟩
    rw [← eS14] at hW
    have hG : G S14 := by rw [eS14]; exact hG.I hk (ok_fr (by decide))
    have hF : Fr [] [103, 104, 105, 106, 107, 108, 109, 606, 607, 608, 811, 817] S S14 := by rw [eS14]; exact hF.I hk (by decide)
    clear eS14
    refine lv_aload_n hx hb dX8_passHour_48 rfl (lv_at hl 3 rfl) ?_
    refine lv_iload hx hb dX8_passHour_49 (lv_at hl 1 rfl) ?_
    refine lv_iload hx hb dX8_passHour_51 (lv_at hl 0 rfl) ?_
    refine lv_isub hx hb dX8_passHour_53 ?_
    refine pc_Vv (As := [.int ((b + v10) - m13)]) (rest := []) F (b_X1_melt l D cy A S14 b4 ((b + v10) - m13) hG (hF.k kb4 (by decide))) (cwV 1 hts gX8_passHour_X1_melt rfl rfl rfl (by decide +kernel) ⟨Nat.le_of_ble_eq_true rfl, Nat.le_of_ble_eq_true rfl⟩) hK hZ hA hW hS (hF.k kb4 (by decide)) (by decide) rfl rfl hl.1 rfl (Nat.le_of_ble_eq_true rfl) dX8_passHour_54 ⟨Nat.le_of_ble_eq_true rfl, Nat.le_of_ble_eq_true rfl⟩ (fun T16 H locs p17 hW hS => ?_)
    obtain ⟨hG, hFc, p17⟩ := p17
    have hF : Fr [] [103, 104, 105, 106, 107, 108, 109, 606, 607, 608, 811, 817] S T16 := hF.tr (hFc.mono (by decide))
    refine lv_aloadN hx hb dX8_passHour_57 (lv_at hl 2 rfl) ?_
    refine lv_ifnullN (tgt := 71) hx hb dX8_passHour_59 (by decide) ?_
    refine lv_aload_n hx hb dX8_passHour_71 rfl (lv_at hl 3 rfl) ?_
    obtain ⟨b18, rb18, kb18, nb18⟩ := hG0.r kb4 List.not_mem_nil 1 (show rty 1 1 = some (0, 0) from rfl)
    refine pg_gr (b := b18) (ci := 1) (C := RX1) (T := TX1) (N := 10) hx hb hts wi1 hown hK hW (hF.k kb4 (by decide)) (by decide) rfl 1 (by decide) (hts (.fieldLink RX8 171 "IceHall$Ice" "closed" "LIceHall$HourSet;") (by decide +kernel)) (fun _ h9 => h9) rfl (hF.r kb4 (by decide) rb18) dX8_passHour_72 ?_
    refine lv_aload_n hx hb dX8_passHour_75 rfl (lv_at hl 4 rfl) ?_
    refine pg_gi (ci := 8) (C := RX8) (T := TX8) (N := 18) hx hb hts wi8 hown hK hW (hF.k hk (by decide)) (by decide) rfl 10 (by decide) (hts (.fieldLink RX8 96 "IceHall" "now" "I") (by decide +kernel)) (fun _ h9 => h9) rfl dX8_passHour_76 ?_
    have g19 : (0 : Int) ≤ (sI T16 h 10).toInt ∧ (sI T16 h 10).toInt ≤ 990 := hG.i (hF.k hk (by decide)) (by decide) 10 (by decide)
    refine pc_Vi (As := [.int (sI T16 h 10)]) (rest := []) F (b_X0_has l D cy A T16 b18 (sI T16 h 10) hG (hF.k kb18 (by decide))) (cwV 1 hts gX8_passHour_X0_has rfl rfl rfl (by decide +kernel) ⟨Nat.le_of_ble_eq_true rfl, Nat.le_of_ble_eq_true rfl⟩) hK hZ hA hW hS (hF.k kb18 (by decide)) (by decide) rfl rfl hl.1 rfl (Nat.le_of_ble_eq_true rfl) dX8_passHour_79 ⟨Nat.le_of_ble_eq_true rfl, Nat.le_of_ble_eq_true rfl⟩ (fun v20 T21 H locs p22 hW hS => ?_)
    obtain ⟨eT21, p22⟩ := p22
    rw [eT21] at hW
    clear eT21
    refine lv_if_ne (tgt := 90) hx hb dX8_passHour_82 (by decide) (fun c23 => ?_) (fun c23 => ?_)
    · have c23i : ¬ (Int32.toInt v20 = (0 : Int)) := fun h9 => c23 ((i3_eq _ _).mpr h9)
      exact pc_vret (S := T16) hx hb hr hlk hK hZ hA hW hS (⟨hG, hF, trivial⟩) dX8_passHour_90
    · have c23i : Int32.toInt v20 = (0 : Int) := (i3_eq _ _).mp c23
      refine lv_aload_n hx hb dX8_passHour_85 rfl (lv_at hl 4 rfl) ?_
      refine lv_aload_n hx hb dX8_passHour_86 rfl (lv_at hl 3 rfl) ?_
      refine pc_Vv (As := [.ref b4]) (rest := []) F (b_X8_makeCut l D cy A T16 h b4 hG (hF.k hk (by decide)) (hF.k kb4 (by decide))) (cwV 1 hts gX8_passHour_X8_makeCut rfl rfl rfl (by decide +kernel) ⟨Nat.le_of_ble_eq_true rfl, Nat.le_of_ble_eq_true rfl⟩) hK hZ hA hW hS (hF.k hk (by decide)) (by decide) rfl rfl hl.1 rfl (Nat.le_of_ble_eq_true rfl) dX8_passHour_87 ⟨Nat.le_of_ble_eq_true rfl, Nat.le_of_ble_eq_true rfl⟩ (fun T25 H locs p26 hW hS => ?_)
      obtain ⟨hG, hFc, p26⟩ := p26
      have hF : Fr [] [103, 104, 105, 106, 107, 108, 109, 606, 607, 608, 811, 817] S T25 := hF.tr (hFc.mono (by decide))
      exact pc_vret (S := T25) hx hb hr hlk hK hZ hA hW hS (⟨hG, hF, trivial⟩) dX8_passHour_90
  · rw [erb9]
    refine lv_astore (lv' := [(4, .ref b9), (3, .ref b4), (0, .ref h), (1, .int a), (2, .int b)]) hx hb dX8_passHour_15 hl (by decide) rfl (fun ls hl => ?_)
    refine lv_iload_n hx hb dX8_passHour_17 rfl (lv_at hl 4 rfl) ?_
    refine lv_aload hx hb dX8_passHour_18 (lv_at hl 0 rfl) ?_
    refine pc_Si (As := [.ref b9]) (rest := [.int b]) F (b_X8_heatOf l D cy A S b9 kb9) (va_cwS 1 hts gX8_passHour_X8_heatOf rfl rfl rfl (by decide +kernel) ⟨Nat.le_of_ble_eq_true rfl, Nat.le_of_ble_eq_true rfl⟩) hK hZ hA hW hS rfl hl.1 rfl (Nat.le_of_ble_eq_true rfl) dX8_passHour_20 ⟨Nat.le_of_ble_eq_true rfl, Nat.le_of_ble_eq_true rfl⟩ (fun v27 T28 H locs p29 hW hS => ?_)
    obtain ⟨eT28, p29⟩ := p29
    rw [eT28] at hW
    clear eT28
    refine lv_iadd hx hb dX8_passHour_23 ?_
    refine lv_istore (lv' := [(5, .int (b + v27)), (4, .ref b9), (3, .ref b4), (0, .ref h), (1, .int a), (2, .int b)]) hx hb dX8_passHour_24 hl (by decide) rfl (fun ls hl => ?_)
    refine lv_iload hx hb dX8_passHour_26 (lv_at hl 0 rfl) ?_
    refine lv_aload_n hx hb dX8_passHour_28 rfl (lv_at hl 3 rfl) ?_
    refine pg_gi (ci := 8) (C := RX8) (T := TX8) (N := 18) hx hb hts wi8 hown hK hW hk (by decide) rfl 11 (by decide) (hts (.fieldLink RX8 68 "IceHall" "store" "I") (by decide +kernel)) (fun _ h9 => h9) rfl dX8_passHour_29 ?_
    refine va_mmin hx hb (by rw [hml]; exact hl.1.symm) hown (hts (.methodLink RX8 286 Lib.Math.min.name) (by decide +kernel)) (hts (.static Lib.Math.min.name) (by decide +kernel)) (hts (.initialized "java/lang/Math") (by decide +kernel)) (hts (.code Lib.Math.min.name Lib.Math.min.code 2 (some .int)) (by decide +kernel)) (Nat.le_of_ble_eq_true rfl) (Nat.le_of_ble_eq_true rfl) (Nat.le_of_ble_eq_true rfl) (Nat.le_of_ble_eq_true rfl) dX8_passHour_32 ?_
    refine lv_topi (fun m30 em30 => ?_)
    refine lv_istore (lv' := [(6, .int m30), (5, .int (b + v27)), (4, .ref b9), (3, .ref b4), (0, .ref h), (1, .int a), (2, .int b)]) hx hb dX8_passHour_35 hl (by decide) rfl (fun ls hl => ?_)
    refine lv_aload_n hx hb dX8_passHour_37 rfl (lv_at hl 4 rfl) ?_
    refine lv_dup hx hb dX8_passHour_38 rfl ?_
    refine pg_gi (ci := 8) (C := RX8) (T := TX8) (N := 18) hx hb hts wi8 hown hK hW hk (by decide) rfl 11 (by decide) (hts (.fieldLink RX8 68 "IceHall" "store" "I") (by decide +kernel)) (fun _ h9 => h9) rfl dX8_passHour_39 ?_
    refine lv_iload hx hb dX8_passHour_42 (lv_at hl 0 rfl) ?_
    refine lv_isub hx hb dX8_passHour_44 ?_
    refine pg_pi (ci := 8) (C := RX8) (T := TX8) (N := 18) hx hb hts wi8 tyX8 tyX8_ok nmX8 hown hK hW hS hk (by decide) rfl 11 (by decide) (hts (.fieldLink RX8 68 "IceHall" "store" "I") (by decide +kernel)) (fun _ h9 => h9) rfl rfl rfl dX8_passHour_45 (fun H locs hW hS => ?_)
    obtain ⟨S31, eS31⟩ : ∃ T : St, T = stI S h 11 ((sI S h 11) - m30) := ⟨_, rfl⟩
    rw [← eS31] at hW
    have hG : G S31 := by rw [eS31]; exact hG.I hk (ok_fr (by decide))
    have hF : Fr [] [103, 104, 105, 106, 107, 108, 109, 606, 607, 608, 811, 817] S S31 := by rw [eS31]; exact hF.I hk (by decide)
    clear eS31
    refine lv_aload_n hx hb dX8_passHour_48 rfl (lv_at hl 3 rfl) ?_
    refine lv_iload hx hb dX8_passHour_49 (lv_at hl 1 rfl) ?_
    refine lv_iload hx hb dX8_passHour_51 (lv_at hl 0 rfl) ?_
    refine lv_isub hx hb dX8_passHour_53 ?_
    refine pc_Vv (As := [.int ((b + v27) - m30)]) (rest := []) F (b_X1_melt l D cy A S31 b4 ((b + v27) - m30) hG (hF.k kb4 (by decide))) (cwV 1 hts gX8_passHour_X1_melt rfl rfl rfl (by decide +kernel) ⟨Nat.le_of_ble_eq_true rfl, Nat.le_of_ble_eq_true rfl⟩) hK hZ hA hW hS (hF.k kb4 (by decide)) (by decide) rfl rfl hl.1 rfl (Nat.le_of_ble_eq_true rfl) dX8_passHour_54 ⟨Nat.le_of_ble_eq_true rfl, Nat.le_of_ble_eq_true rfl⟩ (fun T33 H locs p34 hW hS => ?_)
    obtain ⟨hG, hFc, p34⟩ := p34
    have hF : Fr [] [103, 104, 105, 106, 107, 108, 109, 606, 607, 608, 811, 817] S T33 := hF.tr (hFc.mono (by decide))
    refine lv_aload hx hb dX8_passHour_57 (lv_at hl 2 rfl) ?_
    refine lv_ifnull hx hb dX8_passHour_59 ?_
    refine lv_aload_n hx hb dX8_passHour_62 rfl (lv_at hl 3 rfl) ?_
    refine lv_aload hx hb dX8_passHour_63 (lv_at hl 2 rfl) ?_
    refine pc_Vv (As := [.ref b9]) (rest := []) F (b_X1_decide l D cy A T33 b4 b9 hG (hF.k kb4 (by decide)) (hF.k kb9 (by decide))) (cwV 1 hts gX8_passHour_X1_decide rfl rfl rfl (by decide +kernel) ⟨Nat.le_of_ble_eq_true rfl, Nat.le_of_ble_eq_true rfl⟩) hK hZ hA hW hS (hF.k kb4 (by decide)) (by decide) rfl rfl hl.1 rfl (Nat.le_of_ble_eq_true rfl) dX8_passHour_65 ⟨Nat.le_of_ble_eq_true rfl, Nat.le_of_ble_eq_true rfl⟩ (fun T36 H locs p37 hW hS => ?_)
    obtain ⟨hG, hFc, p37⟩ := p37
    have hF : Fr [] [103, 104, 105, 106, 107, 108, 109, 606, 607, 608, 811, 817] S T36 := hF.tr (hFc.mono (by decide))
    refine lv_goto (tgt := 90) hx hb dX8_passHour_68 (by decide) ?_
    exact pc_vret (S := T36) hx hb hr hlk hK hZ hA hW hS (⟨hG, hF, trivial⟩) dX8_passHour_90
set_option maxHeartbeats 4000000 in
set_option maxRecDepth 100000 in
theorem b_X8_step (l : Launch) (D : va_G) (cy : Nat → ClassId) (A : Nat → Prop) (S : St) (h : Nat) (a b : Int32) (hG0 : G S) (hk : sK S h = 8) : MI l yX8_step wsX8_step ({ frames := 4, cells := 0, slots := 0, locals := 129 } : Room) 0 0 D cy A [.ref h, .int a, .int b] S (fun r S1 => G S1 ∧ Fr [] [103, 104, 105, 106, 107, 108, 109, 606, 607, 608, 810, 811, 815, 816, 817] S S1 ∧ (((-20 ≤ a.toInt ∧ a.toInt ≤ 40 ∧ 0 ≤ b.toInt ∧ b.toInt ≤ (sI S h 13).toInt ∧ (sI S h 10).toInt < 990) → r = sI S1 h 10 ∧ (sI S1 h 10).toInt = (sI S h 10).toInt + 1) ∧ (¬ (-20 ≤ a.toInt ∧ a.toInt ≤ 40 ∧ 0 ≤ b.toInt ∧ b.toInt ≤ (sI S h 13).toInt ∧ (sI S h 10).toInt < 990) → r = (-1) ∧ sI S1 h 10 = sI S h 10))) := by
  refine mt_start (cc := cX8_step) (maxL := 4) (ret := (some .int)) (by decide) rfl (Nat.le_of_ble_eq_true rfl) ?_
  intro p e s m args below meth c hx hb hr hlk hml hown hnm hts hK hZ hA hW hS ls hl
  have hl : lv_has ls 4 [(0, .ref h), (1, .int a), (2, .int b)] := hl
  have hown : s.vm.findClass RX8 = some m.cls := hown
  have F : CallFix p m c cX8_step 4 s args wsX8_step RX8 := ⟨hx, hb, hml, hown, hts⟩
  have wi8 : ∀ w ∈ u_ws RX8 TX8 18, w ∈ wsX8_step := by decide +kernel
  have hG := hG0
  have hF : Fr [] [103, 104, 105, 106, 107, 108, 109, 606, 607, 608, 810, 811, 815, 816, 817] S S := Fr.rf _ _ _
  have g1 : (0 : Int) ≤ (sI S h 10).toInt ∧ (sI S h 10).toInt ≤ 990 := hG0.i hk (by decide) 10 (by decide)
  refine lv_iload_n hx hb dX8_step_0 rfl (lv_at hl 1 rfl) ?_
  refine pc_Si (As := [.int a]) (rest := []) F (b_X8_isWarmth l D cy A S a ) (va_cwS 1 hts gX8_step_X8_isWarmth rfl rfl rfl (by decide +kernel) ⟨Nat.le_of_ble_eq_true rfl, Nat.le_of_ble_eq_true rfl⟩) hK hZ hA hW hS rfl hl.1 rfl (Nat.le_of_ble_eq_true rfl) dX8_step_1 ⟨Nat.le_of_ble_eq_true rfl, Nat.le_of_ble_eq_true rfl⟩ (fun v2 T3 H locs p4 hW hS => ?_)
  obtain ⟨eT3, p4⟩ := p4
  rw [eT3] at hW
  clear eT3
  refine lv_if_eq (tgt := 29) hx hb dX8_step_4 (by decide) (fun c5 => ?_) (fun c5 => ?_)
  · have c5i : Int32.toInt v2 = (0 : Int) := (i3_eq _ _).mp c5
    refine lv_iconst (v := (-1)) hx hb dX8_step_29 (by decide) ?_
    exact pc_iret (v := (-1)) (S := S) hx hb hr hlk hK hZ hA hW hS (⟨hG, hF, ⟨fun h9 => absurd h9 (by omega), fun _ => ⟨rfl, rfl⟩⟩⟩) dX8_step_30
  · have c5i : ¬ (Int32.toInt v2 = (0 : Int)) := fun h9 => c5 ((i3_eq _ _).mpr h9)
    refine lv_iload_n hx hb dX8_step_7 rfl (lv_at hl 2 rfl) ?_
    refine lv_if_lt (tgt := 29) hx hb dX8_step_8 (by decide) (fun c6 => ?_) (fun c6 => ?_)
    · have c6i : Int32.toInt b < (0 : Int) := (i3_lt _ _).mp c6
      refine lv_iconst (v := (-1)) hx hb dX8_step_29 (by decide) ?_
      exact pc_iret (v := (-1)) (S := S) hx hb hr hlk hK hZ hA hW hS (⟨hG, hF, ⟨fun h9 => absurd h9 (by omega), fun _ => ⟨rfl, rfl⟩⟩⟩) dX8_step_30
    · have c6i : ¬ (Int32.toInt b < (0 : Int)) := fun h9 => c6 ((i3_lt _ _).mpr h9)
      refine lv_iload_n hx hb dX8_step_11 rfl (lv_at hl 2 rfl) ?_
      refine lv_aload_n hx hb dX8_step_12 rfl (lv_at hl 0 rfl) ?_
      refine pg_gi (ci := 8) (C := RX8) (T := TX8) (N := 18) hx hb hts wi8 hown hK hW hk (by decide) rfl 13 (by decide) (hts (.fieldLink RX8 75 "IceHall" "working" "I") (by decide +kernel)) (fun _ h9 => h9) rfl dX8_step_13 ?_
      have g7 : (0 : Int) ≤ (sI S h 13).toInt ∧ (sI S h 13).toInt ≤ 3 := hG.i hk (by decide) 13 (by decide)
      refine lv_icmp_gt (tgt := 29) hx hb dX8_step_16 (by decide) (fun c8 => ?_) (fun c8 => ?_)
      · have c8i : Int32.toInt (sI S h 13) < Int32.toInt b := (i3_lt _ _).mp c8
        refine lv_iconst (v := (-1)) hx hb dX8_step_29 (by decide) ?_
        exact pc_iret (v := (-1)) (S := S) hx hb hr hlk hK hZ hA hW hS (⟨hG, hF, ⟨fun h9 => absurd h9 (by omega), fun _ => ⟨rfl, rfl⟩⟩⟩) dX8_step_30
      · have c8i : ¬ (Int32.toInt (sI S h 13) < Int32.toInt b) := fun h9 => c8 ((i3_lt _ _).mpr h9)
        refine lv_aload_n hx hb dX8_step_19 rfl (lv_at hl 0 rfl) ?_
        refine pg_gi (ci := 8) (C := RX8) (T := TX8) (N := 18) hx hb hts wi8 hown hK hW hk (by decide) rfl 10 (by decide) (hts (.fieldLink RX8 96 "IceHall" "now" "I") (by decide +kernel)) (fun _ h9 => h9) rfl dX8_step_20 ?_
        rw [show sI S h 10 = sI S h 10 from rfl]
        refine lv_sipush (v := 990) hx hb dX8_step_23 (by decide) ?_
        refine lv_icmp_lt (tgt := 31) hx hb dX8_step_26 (by decide) (fun c9 => ?_) (fun c9 => ?_)
        · have c9i : Int32.toInt (sI S h 10) < (990 : Int) := (i3_lt _ _).mp c9
          refine lv_aload_n hx hb dX8_step_31 rfl (lv_at hl 0 rfl) ?_
          refine lv_iload_n hx hb dX8_step_32 rfl (lv_at hl 2 rfl) ?_
          refine pc_Vv (As := [.int b]) (rest := []) F (b_X8_runCompressors l D cy A S h b hG hk) (cwV 1 hts gX8_step_X8_runCompressors rfl rfl rfl (by decide +kernel) ⟨Nat.le_of_ble_eq_true rfl, Nat.le_of_ble_eq_true rfl⟩) hK hZ hA hW hS hk (by decide) rfl rfl hl.1 rfl (Nat.le_of_ble_eq_true rfl) dX8_step_33 ⟨Nat.le_of_ble_eq_true rfl, Nat.le_of_ble_eq_true rfl⟩ (fun T11 H locs p12 hW hS => ?_)
          obtain ⟨hG, hFc, p12⟩ := p12
          have w13 : sI T11 h 10 = sI S h 10 := (hFc.i hk (by decide) (by decide)).trans rfl
          have hF : Fr [] [103, 104, 105, 106, 107, 108, 109, 606, 607, 608, 810, 811, 815, 816, 817] S T11 := hF.tr (hFc.mono (by decide))
          refine lv_iload_n hx hb dX8_step_36 rfl (lv_at hl 1 rfl) ?_
          have lk14 : (sI T11 h 10).toInt = (sI S h 10).toInt := by rw [show sI T11 h 10 = sI S h 10 from w13]
          refine pc_Si (As := [.int a]) (rest := []) F (b_X8_wantOfWarmth l D cy A T11 a ) (va_cwS 1 hts gX8_step_X8_wantOfWarmth rfl rfl rfl (by decide +kernel) ⟨Nat.le_of_ble_eq_true rfl, Nat.le_of_ble_eq_true rfl⟩) hK hZ hA hW hS rfl hl.1 rfl (Nat.le_of_ble_eq_true rfl) dX8_step_37 ⟨Nat.le_of_ble_eq_true rfl, Nat.le_of_ble_eq_true rfl⟩ (fun v15 T16 H locs p17 hW hS => ?_)
          obtain ⟨eT16, p17⟩ := p17
          rw [eT16] at hW
          clear eT16
          refine lv_istore_n (lv' := [(3, .int v15), (0, .ref h), (1, .int a), (2, .int b)]) hx hb dX8_step_40 rfl hl (by decide) rfl (fun ls hl => ?_)
          refine lv_aload_n hx hb dX8_step_41 rfl (lv_at hl 1 rfl) ?_
          refine lv_iconst (v := 0) hx hb dX8_step_42 (by decide) ?_
          refine lv_iload_n hx hb dX8_step_43 rfl (lv_at hl 0 rfl) ?_
          have lk18 : (sI T11 h 10).toInt = (sI S h 10).toInt := by rw [show sI T11 h 10 = sI S h 10 from w13]
          refine pc_Vv (As := [.int 0, .int v15]) (rest := []) F (b_X8_passHour l D cy A T11 h 0 v15 hG (hF.k hk (by decide))) (cwV 2 hts gX8_step_X8_passHour rfl rfl rfl (by decide +kernel) ⟨Nat.le_of_ble_eq_true rfl, Nat.le_of_ble_eq_true rfl⟩) hK hZ hA hW hS (hF.k hk (by decide)) (by decide) rfl rfl hl.1 rfl (Nat.le_of_ble_eq_true rfl) dX8_step_44 ⟨Nat.le_of_ble_eq_true rfl, Nat.le_of_ble_eq_true rfl⟩ (fun T20 H locs p21 hW hS => ?_)
          obtain ⟨hG, hFc, p21⟩ := p21
          have w22 : sI T20 h 10 = sI S h 10 := (hFc.i (hF.k hk (by decide)) (by decide) (by decide)).trans w13
          have hF : Fr [] [103, 104, 105, 106, 107, 108, 109, 606, 607, 608, 810, 811, 815, 816, 817] S T20 := hF.tr (hFc.mono (by decide))
          refine lv_aload_n hx hb dX8_step_47 rfl (lv_at hl 1 rfl) ?_
          refine lv_iconst (v := 1) hx hb dX8_step_48 (by decide) ?_
          refine lv_iload_n hx hb dX8_step_49 rfl (lv_at hl 0 rfl) ?_
          have lk23 : (sI T20 h 10).toInt = (sI S h 10).toInt := by rw [show sI T20 h 10 = sI S h 10 from w22]
          refine pc_Vv (As := [.int 1, .int v15]) (rest := []) F (b_X8_passHour l D cy A T20 h 1 v15 hG (hF.k hk (by decide))) (cwV 2 hts gX8_step_X8_passHour rfl rfl rfl (by decide +kernel) ⟨Nat.le_of_ble_eq_true rfl, Nat.le_of_ble_eq_true rfl⟩) hK hZ hA hW hS (hF.k hk (by decide)) (by decide) rfl rfl hl.1 rfl (Nat.le_of_ble_eq_true rfl) dX8_step_50 ⟨Nat.le_of_ble_eq_true rfl, Nat.le_of_ble_eq_true rfl⟩ (fun T25 H locs p26 hW hS => ?_)
          obtain ⟨hG, hFc, p26⟩ := p26
          have w27 : sI T25 h 10 = sI S h 10 := (hFc.i (hF.k hk (by decide)) (by decide) (by decide)).trans w22
          have hF : Fr [] [103, 104, 105, 106, 107, 108, 109, 606, 607, 608, 810, 811, 815, 816, 817] S T25 := hF.tr (hFc.mono (by decide))
          refine lv_aload_n hx hb dX8_step_53 rfl (lv_at hl 1 rfl) ?_
          refine lv_dup hx hb dX8_step_54 rfl ?_
          refine pg_gi (ci := 8) (C := RX8) (T := TX8) (N := 18) hx hb hts wi8 hown hK hW (hF.k hk (by decide)) (by decide) rfl 10 (by decide) (hts (.fieldLink RX8 96 "IceHall" "now" "I") (by decide +kernel)) (fun _ h9 => h9) rfl dX8_step_55 ?_
          rw [show sI T25 h 10 = sI S h 10 from w27]
          refine lv_iconst (v := 1) hx hb dX8_step_58 (by decide) ?_
          refine lv_iadd hx hb dX8_step_59 ?_
          have l28 : ((sI S h 10) + 1).toInt = Int32.toInt (sI S h 10) + (1 : Int) := i3_add rfl rfl (by omega) (by omega)
          refine pg_pi (ci := 8) (C := RX8) (T := TX8) (N := 18) hx hb hts wi8 tyX8 tyX8_ok nmX8 hown hK hW hS (hF.k hk (by decide)) (by decide) rfl 10 (by decide) (hts (.fieldLink RX8 96 "IceHall" "now" "I") (by decide +kernel)) (fun _ h9 => h9) rfl rfl rfl dX8_step_60 (fun H locs hW hS => ?_)
          have kq29 : sK T25 h = 8 := (hF.k hk (by decide))
          obtain ⟨S30, eS30⟩ : ∃ T : St, T = stI T25 h 10 ((sI S h 10) + 1) := ⟨_, rfl⟩
          rw [← eS30] at hW
          have hG : G S30 := by rw [eS30]; exact hG.I kq29 (ok_in 0 990 (by decide) (⟨by omega, by omega⟩))
          have hF : Fr [] [103, 104, 105, 106, 107, 108, 109, 606, 607, 608, 810, 811, 815, 816, 817] S S30 := by rw [eS30]; exact hF.I kq29 (by decide)
          have w31 : sI S30 h 10 = (sI S h 10) + 1 := by rw [eS30]; exact iI_s
          clear eS30
          refine lv_aload_n hx hb dX8_step_63 rfl (lv_at hl 1 rfl) ?_
          refine pg_gi (ci := 8) (C := RX8) (T := TX8) (N := 18) hx hb hts wi8 hown hK hW (hF.k hk (by decide)) (by decide) rfl 10 (by decide) (hts (.fieldLink RX8 96 "IceHall" "now" "I") (by decide +kernel)) (fun _ h9 => h9) rfl dX8_step_64 ?_
          rw [show sI S30 h 10 = (sI S h 10) + 1 from w31]
          have lk32 : (sI S30 h 10).toInt = ((sI S h 10) + 1).toInt := by rw [show sI S30 h 10 = (sI S h 10) + 1 from w31]
          exact pc_iret (v := (sI S h 10) + 1) (S := S30) hx hb hr hlk hK hZ hA hW hS (⟨hG, hF, ⟨fun _ => ⟨w31.symm, by rw [w31]; omega⟩, fun h9 => absurd h9 (fun h8 => h8 (by omega))⟩⟩) dX8_step_67
        · have c9i : ¬ (Int32.toInt (sI S h 10) < (990 : Int)) := fun h9 => c9 ((i3_lt _ _).mpr h9)
          refine lv_iconst (v := (-1)) hx hb dX8_step_29 (by decide) ?_
          exact pc_iret (v := (-1)) (S := S) hx hb hr hlk hK hZ hA hW hS (⟨hG, hF, ⟨fun h9 => absurd h9 (by omega), fun _ => ⟨rfl, rfl⟩⟩⟩) dX8_step_30
set_option maxHeartbeats 4000000 in
set_option maxRecDepth 100000 in
theorem b_X8_most (l : Launch) (D : va_G) (cy : Nat → ClassId) (A : Nat → Prop) (S : St) (h : Nat) (a : Int32) (hG0 : G S) (hk : sK S h = 8) : MI l yX8_most wsX8_most ({ frames := 0, cells := 0, slots := 0, locals := 0 } : Room) 0 0 D cy A [.ref h, .int a] S (fun r S1 => G S1 ∧ Fr [] [812] S S1 ∧ ((r.toInt = 1 ∧ 1 ≤ a.toInt ∧ a.toInt ≤ 2000) ∨ (r.toInt = 0 ∧ ¬ (1 ≤ a.toInt ∧ a.toInt ≤ 2000)))) := by
  refine mt_start (cc := cX8_most) (maxL := 2) (ret := (some .boolean)) (by decide) rfl (Nat.le_of_ble_eq_true rfl) ?_
  intro p e s m args below meth c hx hb hr hlk hml hown hnm hts hK hZ hA hW hS ls hl
  have hl : lv_has ls 2 [(0, .ref h), (1, .int a)] := hl
  have hown : s.vm.findClass RX8 = some m.cls := hown
  have F : CallFix p m c cX8_most 2 s args wsX8_most RX8 := ⟨hx, hb, hml, hown, hts⟩
  have wi8 : ∀ w ∈ u_ws RX8 TX8 18, w ∈ wsX8_most := by decide +kernel
  have hG := hG0
  have hF : Fr [] [812] S S := Fr.rf _ _ _
  refine lv_iload_n hx hb dX8_most_0 rfl (lv_at hl 1 rfl) ?_
  refine lv_iconst (v := 1) hx hb dX8_most_1 (by decide) ?_
  refine lv_icmp_lt (tgt := 12) hx hb dX8_most_2 (by decide) (fun c1 => ?_) (fun c1 => ?_)
  · have c1i : Int32.toInt a < (1 : Int) := (i3_lt _ _).mp c1
    refine lv_iconst (v := 0) hx hb dX8_most_12 (by decide) ?_
    exact pc_zret (v := 0) (S := S) hx hb hr hlk hK hZ hA hW hS (by decide) (⟨hG, hF, Or.inr ⟨rfl, by omega⟩⟩) dX8_most_13
  · have c1i : ¬ (Int32.toInt a < (1 : Int)) := fun h9 => c1 ((i3_lt _ _).mpr h9)
    refine lv_iload_n hx hb dX8_most_5 rfl (lv_at hl 1 rfl) ?_
    refine lv_sipush (v := 2000) hx hb dX8_most_6 (by decide) ?_
    refine lv_icmp_le (tgt := 14) hx hb dX8_most_9 (by decide) (fun c2 => ?_) (fun c2 => ?_)
    · have c2i : Int32.toInt a ≤ (2000 : Int) := (i3_le _ _).mp c2
      refine lv_aload_n hx hb dX8_most_14 rfl (lv_at hl 0 rfl) ?_
      refine lv_iload_n hx hb dX8_most_15 rfl (lv_at hl 1 rfl) ?_
      refine pg_pi (ci := 8) (C := RX8) (T := TX8) (N := 18) hx hb hts wi8 tyX8 tyX8_ok nmX8 hown hK hW hS hk (by decide) rfl 12 (by decide) (hts (.fieldLink RX8 72 "IceHall" "storeMost" "I") (by decide +kernel)) (fun _ h9 => h9) rfl rfl rfl dX8_most_16 (fun H locs hW hS => ?_)
      obtain ⟨S3, eS3⟩ : ∃ T : St, T = stI S h 12 a := ⟨_, rfl⟩
      rw [← eS3] at hW
      have hG : G S3 := by rw [eS3]; exact hG.I hk (ok_fr (by decide))
      have hF : Fr [] [812] S S3 := by rw [eS3]; exact hF.I hk (by decide)
      clear eS3
      refine lv_iconst (v := 1) hx hb dX8_most_19 (by decide) ?_
      exact pc_zret (v := 1) (S := S3) hx hb hr hlk hK hZ hA hW hS (by decide) (⟨hG, hF, Or.inl ⟨rfl, by omega⟩⟩) dX8_most_20
    · have c2i : ¬ (Int32.toInt a ≤ (2000 : Int)) := fun h9 => c2 ((i3_le _ _).mpr h9)
      refine lv_iconst (v := 0) hx hb dX8_most_12 (by decide) ?_
      exact pc_zret (v := 0) (S := S) hx hb hr hlk hK hZ hA hW hS (by decide) (⟨hG, hF, Or.inr ⟨rfl, by omega⟩⟩) dX8_most_13
set_option maxHeartbeats 4000000 in
set_option maxRecDepth 100000 in
theorem b_X8_price (l : Launch) (D : va_G) (cy : Nat → ClassId) (A : Nat → Prop) (S : St) (h : Nat) (a b : Int32) (hG0 : G S) (hk : sK S h = 8) : MI l yX8_price wsX8_price ({ frames := 1, cells := 0, slots := 0, locals := 21 } : Room) 0 0 D cy A [.ref h, .int a, .int b] S (fun r S1 => G S1 ∧ Fr [] [1100] S S1 ∧ ((r.toInt = 1 ∧ 0 ≤ a.toInt ∧ a.toInt < 24 ∧ 0 ≤ b.toInt ∧ b.toInt ≤ 99) ∨ (r.toInt = 0 ∧ ¬ (0 ≤ a.toInt ∧ a.toInt < 24 ∧ 0 ≤ b.toInt ∧ b.toInt ≤ 99)))) := by
  refine mt_start (cc := cX8_price) (maxL := 3) (ret := (some .boolean)) (by decide) rfl (Nat.le_of_ble_eq_true rfl) ?_
  intro p e s m args below meth c hx hb hr hlk hml hown hnm hts hK hZ hA hW hS ls hl
  have hl : lv_has ls 3 [(0, .ref h), (1, .int a), (2, .int b)] := hl
  have hown : s.vm.findClass RX8 = some m.cls := hown
  have F : CallFix p m c cX8_price 3 s args wsX8_price RX8 := ⟨hx, hb, hml, hown, hts⟩
  have wi8 : ∀ w ∈ u_ws RX8 TX8 18, w ∈ wsX8_price := by decide +kernel
  have hG := hG0
  have hF : Fr [] [1100] S S := Fr.rf _ _ _
  refine lv_iload_n hx hb dX8_price_0 rfl (lv_at hl 1 rfl) ?_
  refine lv_bipush (v := 24) hx hb dX8_price_1 (by decide) ?_
  refine pc_Si (As := [.int a, .int 24]) (rest := []) F (b_X8_isBelow l D cy A S a 24 ) (va_cwS 2 hts gX8_price_X8_isBelow rfl rfl rfl (by decide +kernel) ⟨Nat.le_of_ble_eq_true rfl, Nat.le_of_ble_eq_true rfl⟩) hK hZ hA hW hS rfl hl.1 rfl (Nat.le_of_ble_eq_true rfl) dX8_price_3 ⟨Nat.le_of_ble_eq_true rfl, Nat.le_of_ble_eq_true rfl⟩ (fun v1 T2 H locs p3 hW hS => ?_)
  obtain ⟨eT2, p3⟩ := p3
  rw [eT2] at hW
  clear eT2
  have p3 := isb_lit (n := 24) rfl p3
  refine lv_if_eq (tgt := 19) hx hb dX8_price_6 (by decide) (fun c4 => ?_) (fun c4 => ?_)
  · have c4i : Int32.toInt v1 = (0 : Int) := (i3_eq _ _).mp c4
    refine lv_iconst (v := 0) hx hb dX8_price_19 (by decide) ?_
    exact pc_zret (v := 0) (S := S) hx hb hr hlk hK hZ hA hW hS (by decide) (⟨hG, hF, Or.inr ⟨rfl, by omega⟩⟩) dX8_price_20
  · have c4i : ¬ (Int32.toInt v1 = (0 : Int)) := fun h9 => c4 ((i3_eq _ _).mpr h9)
    refine lv_iload_n hx hb dX8_price_9 rfl (lv_at hl 2 rfl) ?_
    refine lv_if_lt (tgt := 19) hx hb dX8_price_10 (by decide) (fun c5 => ?_) (fun c5 => ?_)
    · have c5i : Int32.toInt b < (0 : Int) := (i3_lt _ _).mp c5
      refine lv_iconst (v := 0) hx hb dX8_price_19 (by decide) ?_
      exact pc_zret (v := 0) (S := S) hx hb hr hlk hK hZ hA hW hS (by decide) (⟨hG, hF, Or.inr ⟨rfl, by omega⟩⟩) dX8_price_20
    · have c5i : ¬ (Int32.toInt b < (0 : Int)) := fun h9 => c5 ((i3_lt _ _).mpr h9)
      refine lv_iload_n hx hb dX8_price_13 rfl (lv_at hl 2 rfl) ?_
      refine lv_bipush (v := 99) hx hb dX8_price_14 (by decide) ?_
      refine lv_icmp_le (tgt := 21) hx hb dX8_price_16 (by decide) (fun c6 => ?_) (fun c6 => ?_)
      · have c6i : Int32.toInt b ≤ (99 : Int) := (i3_le _ _).mp c6
        refine lv_aload_n hx hb dX8_price_21 rfl (lv_at hl 0 rfl) ?_
        obtain ⟨b7, rb7, kb7, nb7⟩ := hG0.r hk List.not_mem_nil 4 (show rty 8 4 = some (11, 24) from rfl)
        refine pg_gr (b := b7) (ci := 8) (C := RX8) (T := TX8) (N := 18) hx hb hts wi8 hown hK hW hk (by decide) rfl 4 (by decide) (hts (.fieldLink RX8 32 "IceHall" "prices" "[I") (by decide +kernel)) (fun _ h9 => h9) rfl rb7 dX8_price_22 ?_
        refine lv_iload_n hx hb dX8_price_25 rfl (lv_at hl 1 rfl) ?_
        refine lv_iload_n hx hb dX8_price_26 rfl (lv_at hl 2 rfl) ?_
        refine pg_iast hx hb hK hW hS kb7 (by decide) (by rw [show sL S b7 = 24 from nb7]; exact r_in (by omega)) dX8_price_27 (fun H locs hW hS => ?_)
        obtain ⟨S8, eS8⟩ : ∃ T : St, T = stI S b7 (Int32.toNatClampNeg a) b := ⟨_, rfl⟩
        rw [← eS8] at hW
        have hG : G S8 := by rw [eS8]; exact hG.I kb7 (ok_frA (by decide) (by decide))
        have hF : Fr [] [1100] S S8 := by rw [eS8]; exact hF.IA kb7 (by decide) (by decide)
        clear eS8
        refine lv_iconst (v := 1) hx hb dX8_price_28 (by decide) ?_
        exact pc_zret (v := 1) (S := S8) hx hb hr hlk hK hZ hA hW hS (by decide) (⟨hG, hF, Or.inl ⟨rfl, by omega⟩⟩) dX8_price_29
      · have c6i : ¬ (Int32.toInt b ≤ (99 : Int)) := fun h9 => c6 ((i3_le _ _).mpr h9)
        refine lv_iconst (v := 0) hx hb dX8_price_19 (by decide) ?_
        exact pc_zret (v := 0) (S := S) hx hb hr hlk hK hZ hA hW hS (by decide) (⟨hG, hF, Or.inr ⟨rfl, by omega⟩⟩) dX8_price_20
set_option maxHeartbeats 4000000 in
set_option maxRecDepth 100000 in
theorem b_X8_rest (l : Launch) (D : va_G) (cy : Nat → ClassId) (A : Nat → Prop) (S : St) (h : Nat) (a : Int32) (hG0 : G S) (hk : sK S h = 8) : MI l yX8_rest wsX8_rest ({ frames := 0, cells := 0, slots := 0, locals := 0 } : Room) 0 0 D cy A [.ref h, .int a] S (fun r S1 => G S1 ∧ Fr [] [814] S S1 ∧ ((r.toInt = 1 ∧ 1 ≤ a.toInt ∧ a.toInt ≤ 12) ∨ (r.toInt = 0 ∧ ¬ (1 ≤ a.toInt ∧ a.toInt ≤ 12)))) := by
  refine mt_start (cc := cX8_rest) (maxL := 2) (ret := (some .boolean)) (by decide) rfl (Nat.le_of_ble_eq_true rfl) ?_
  intro p e s m args below meth c hx hb hr hlk hml hown hnm hts hK hZ hA hW hS ls hl
  have hl : lv_has ls 2 [(0, .ref h), (1, .int a)] := hl
  have hown : s.vm.findClass RX8 = some m.cls := hown
  have F : CallFix p m c cX8_rest 2 s args wsX8_rest RX8 := ⟨hx, hb, hml, hown, hts⟩
  have wi8 : ∀ w ∈ u_ws RX8 TX8 18, w ∈ wsX8_rest := by decide +kernel
  have hG := hG0
  have hF : Fr [] [814] S S := Fr.rf _ _ _
  refine lv_iload_n hx hb dX8_rest_0 rfl (lv_at hl 1 rfl) ?_
  refine lv_iconst (v := 1) hx hb dX8_rest_1 (by decide) ?_
  refine lv_icmp_lt (tgt := 11) hx hb dX8_rest_2 (by decide) (fun c1 => ?_) (fun c1 => ?_)
  · have c1i : Int32.toInt a < (1 : Int) := (i3_lt _ _).mp c1
    refine lv_iconst (v := 0) hx hb dX8_rest_11 (by decide) ?_
    exact pc_zret (v := 0) (S := S) hx hb hr hlk hK hZ hA hW hS (by decide) (⟨hG, hF, Or.inr ⟨rfl, by omega⟩⟩) dX8_rest_12
  · have c1i : ¬ (Int32.toInt a < (1 : Int)) := fun h9 => c1 ((i3_lt _ _).mpr h9)
    refine lv_iload_n hx hb dX8_rest_5 rfl (lv_at hl 1 rfl) ?_
    refine lv_bipush (v := 12) hx hb dX8_rest_6 (by decide) ?_
    refine lv_icmp_le (tgt := 13) hx hb dX8_rest_8 (by decide) (fun c2 => ?_) (fun c2 => ?_)
    · have c2i : Int32.toInt a ≤ (12 : Int) := (i3_le _ _).mp c2
      refine lv_aload_n hx hb dX8_rest_13 rfl (lv_at hl 0 rfl) ?_
      refine lv_iload_n hx hb dX8_rest_14 rfl (lv_at hl 1 rfl) ?_
      refine pg_pi (ci := 8) (C := RX8) (T := TX8) (N := 18) hx hb hts wi8 tyX8 tyX8_ok nmX8 hown hK hW hS hk (by decide) rfl 14 (by decide) (hts (.fieldLink RX8 78 "IceHall" "restMost" "I") (by decide +kernel)) (fun _ h9 => h9) rfl rfl rfl dX8_rest_15 (fun H locs hW hS => ?_)
      obtain ⟨S3, eS3⟩ : ∃ T : St, T = stI S h 14 a := ⟨_, rfl⟩
      rw [← eS3] at hW
      have hG : G S3 := by rw [eS3]; exact hG.I hk (ok_fr (by decide))
      have hF : Fr [] [814] S S3 := by rw [eS3]; exact hF.I hk (by decide)
      clear eS3
      refine lv_iconst (v := 1) hx hb dX8_rest_18 (by decide) ?_
      exact pc_zret (v := 1) (S := S3) hx hb hr hlk hK hZ hA hW hS (by decide) (⟨hG, hF, Or.inl ⟨rfl, by omega⟩⟩) dX8_rest_19
    · have c2i : ¬ (Int32.toInt a ≤ (12 : Int)) := fun h9 => c2 ((i3_le _ _).mpr h9)
      refine lv_iconst (v := 0) hx hb dX8_rest_11 (by decide) ?_
      exact pc_zret (v := 0) (S := S) hx hb hr hlk hK hZ hA hW hS (by decide) (⟨hG, hF, Or.inr ⟨rfl, by omega⟩⟩) dX8_rest_12
set_option maxHeartbeats 4000000 in
set_option maxRecDepth 100000 in
theorem b_X8_cut (l : Launch) (D : va_G) (cy : Nat → ClassId) (A : Nat → Prop) (S : St) (h : Nat) (a b d : Int32) (hG0 : G S) (hk : sK S h = 8) : MI l yX8_cut wsX8_cut ({ frames := 1, cells := 0, slots := 0, locals := 22 } : Room) 0 0 D cy A [.ref h, .int a, .int b, .int d] S (fun r S1 => G S1 ∧ Fr [] [108, 109] S S1 ∧ ((r.toInt = 1 ∧ 0 ≤ a.toInt ∧ a.toInt < 2 ∧ 0 ≤ b.toInt ∧ b.toInt ≤ 20 ∧ 0 ≤ d.toInt ∧ d.toInt ≤ 20) ∨ (r.toInt = 0 ∧ ¬ (0 ≤ a.toInt ∧ a.toInt < 2 ∧ 0 ≤ b.toInt ∧ b.toInt ≤ 20 ∧ 0 ≤ d.toInt ∧ d.toInt ≤ 20)))) := by
  refine mt_start (cc := cX8_cut) (maxL := 4) (ret := (some .boolean)) (by decide) rfl (Nat.le_of_ble_eq_true rfl) ?_
  intro p e s m args below meth c hx hb hr hlk hml hown hnm hts hK hZ hA hW hS ls hl
  have hl : lv_has ls 4 [(0, .ref h), (1, .int a), (2, .int b), (3, .int d)] := hl
  have hown : s.vm.findClass RX8 = some m.cls := hown
  have F : CallFix p m c cX8_cut 4 s args wsX8_cut RX8 := ⟨hx, hb, hml, hown, hts⟩
  have hG := hG0
  have hF : Fr [] [108, 109] S S := Fr.rf _ _ _
  refine lv_iload_n hx hb dX8_cut_0 rfl (lv_at hl 1 rfl) ?_
  refine lv_iconst (v := 2) hx hb dX8_cut_1 (by decide) ?_
  refine pc_Si (As := [.int a, .int 2]) (rest := []) F (b_X8_isBelow l D cy A S a 2 ) (va_cwS 2 hts gX8_cut_X8_isBelow rfl rfl rfl (by decide +kernel) ⟨Nat.le_of_ble_eq_true rfl, Nat.le_of_ble_eq_true rfl⟩) hK hZ hA hW hS rfl hl.1 rfl (Nat.le_of_ble_eq_true rfl) dX8_cut_2 ⟨Nat.le_of_ble_eq_true rfl, Nat.le_of_ble_eq_true rfl⟩ (fun v1 T2 H locs p3 hW hS => ?_)
  obtain ⟨eT2, p3⟩ := p3
  rw [eT2] at hW
  clear eT2
  have p3 := isb_lit (n := 2) rfl p3
  refine lv_if_eq (tgt := 22) hx hb dX8_cut_5 (by decide) (fun c4 => ?_) (fun c4 => ?_)
  · have c4i : Int32.toInt v1 = (0 : Int) := (i3_eq _ _).mp c4
    refine lv_iconst (v := 0) hx hb dX8_cut_22 (by decide) ?_
    exact pc_zret (v := 0) (S := S) hx hb hr hlk hK hZ hA hW hS (by decide) (⟨hG, hF, Or.inr ⟨rfl, by omega⟩⟩) dX8_cut_23
  · have c4i : ¬ (Int32.toInt v1 = (0 : Int)) := fun h9 => c4 ((i3_eq _ _).mpr h9)
    refine lv_iload_n hx hb dX8_cut_8 rfl (lv_at hl 2 rfl) ?_
    refine pc_Si (As := [.int b]) (rest := []) F (b_X8_isTenths l D cy A S b ) (va_cwS 1 hts gX8_cut_X8_isTenths rfl rfl rfl (by decide +kernel) ⟨Nat.le_of_ble_eq_true rfl, Nat.le_of_ble_eq_true rfl⟩) hK hZ hA hW hS rfl hl.1 rfl (Nat.le_of_ble_eq_true rfl) dX8_cut_9 ⟨Nat.le_of_ble_eq_true rfl, Nat.le_of_ble_eq_true rfl⟩ (fun v5 T6 H locs p7 hW hS => ?_)
    obtain ⟨eT6, p7⟩ := p7
    rw [eT6] at hW
    clear eT6
    refine lv_if_eq (tgt := 22) hx hb dX8_cut_12 (by decide) (fun c8 => ?_) (fun c8 => ?_)
    · have c8i : Int32.toInt v5 = (0 : Int) := (i3_eq _ _).mp c8
      refine lv_iconst (v := 0) hx hb dX8_cut_22 (by decide) ?_
      exact pc_zret (v := 0) (S := S) hx hb hr hlk hK hZ hA hW hS (by decide) (⟨hG, hF, Or.inr ⟨rfl, by omega⟩⟩) dX8_cut_23
    · have c8i : ¬ (Int32.toInt v5 = (0 : Int)) := fun h9 => c8 ((i3_eq _ _).mpr h9)
      refine lv_iload_n hx hb dX8_cut_15 rfl (lv_at hl 3 rfl) ?_
      refine pc_Si (As := [.int d]) (rest := []) F (b_X8_isTenths l D cy A S d ) (va_cwS 1 hts gX8_cut_X8_isTenths rfl rfl rfl (by decide +kernel) ⟨Nat.le_of_ble_eq_true rfl, Nat.le_of_ble_eq_true rfl⟩) hK hZ hA hW hS rfl hl.1 rfl (Nat.le_of_ble_eq_true rfl) dX8_cut_16 ⟨Nat.le_of_ble_eq_true rfl, Nat.le_of_ble_eq_true rfl⟩ (fun v9 T10 H locs p11 hW hS => ?_)
      obtain ⟨eT10, p11⟩ := p11
      rw [eT10] at hW
      clear eT10
      refine lv_if_ne (tgt := 24) hx hb dX8_cut_19 (by decide) (fun c12 => ?_) (fun c12 => ?_)
      · have c12i : ¬ (Int32.toInt v9 = (0 : Int)) := fun h9 => c12 ((i3_eq _ _).mpr h9)
        refine lv_aload_n hx hb dX8_cut_24 rfl (lv_at hl 0 rfl) ?_
        refine lv_iload_n hx hb dX8_cut_25 rfl (lv_at hl 1 rfl) ?_
        refine pc_Vq (As := [.int a]) (rest := []) F (b_X8_iceOf l D cy A S h a hG hk) (cwV 1 hts gX8_cut_X8_iceOf rfl rfl rfl (by decide +kernel) ⟨Nat.le_of_ble_eq_true rfl, Nat.le_of_ble_eq_true rfl⟩) hK hZ hA hW hS hk (by decide) rfl rfl hl.1 rfl (Nat.le_of_ble_eq_true rfl) dX8_cut_26 ⟨Nat.le_of_ble_eq_true rfl, Nat.le_of_ble_eq_true rfl⟩ (fun v13 T14 H locs p15 hW hS => ?_)
        obtain ⟨eT14, p15⟩ := p15
        rw [eT14] at hW
        obtain ⟨b16, erb16, kb16⟩ := p15
        rw [erb16]
        refine lv_iload_n hx hb dX8_cut_29 rfl (lv_at hl 2 rfl) ?_
        refine lv_iload_n hx hb dX8_cut_30 rfl (lv_at hl 3 rfl) ?_
        refine pc_Vv (As := [.int b, .int d]) (rest := []) F (b_X1_tellCut l D cy A S b16 b d hG kb16) (cwV 2 hts gX8_cut_X1_tellCut rfl rfl rfl (by decide +kernel) ⟨Nat.le_of_ble_eq_true rfl, Nat.le_of_ble_eq_true rfl⟩) hK hZ hA hW hS kb16 (by decide) rfl rfl hl.1 rfl (Nat.le_of_ble_eq_true rfl) dX8_cut_31 ⟨Nat.le_of_ble_eq_true rfl, Nat.le_of_ble_eq_true rfl⟩ (fun T18 H locs p19 hW hS => ?_)
        obtain ⟨hG, hFc, p19⟩ := p19
        have hF : Fr [] [108, 109] S T18 := hF.tr (hFc.mono (by decide))
        refine lv_iconst (v := 1) hx hb dX8_cut_34 (by decide) ?_
        exact pc_zret (v := 1) (S := T18) hx hb hr hlk hK hZ hA hW hS (by decide) (⟨hG, hF, Or.inl ⟨rfl, by omega⟩⟩) dX8_cut_35
      · have c12i : Int32.toInt v9 = (0 : Int) := (i3_eq _ _).mp c12
        refine lv_iconst (v := 0) hx hb dX8_cut_22 (by decide) ?_
        exact pc_zret (v := 0) (S := S) hx hb hr hlk hK hZ hA hW hS (by decide) (⟨hG, hF, Or.inr ⟨rfl, by omega⟩⟩) dX8_cut_23
set_option maxHeartbeats 4000000 in
set_option maxRecDepth 100000 in
theorem b_X8_compressors (l : Launch) (D : va_G) (cy : Nat → ClassId) (A : Nat → Prop) (S : St) (h : Nat) (a : Int32) (hG0 : G S) (hk : sK S h = 8) : MI l yX8_compressors wsX8_compressors ({ frames := 0, cells := 0, slots := 0, locals := 0 } : Room) 0 0 D cy A [.ref h, .int a] S (fun r S1 => G S1 ∧ Fr [] [813] S S1 ∧ ((r.toInt = 1 ∧ (0 ≤ a.toInt ∧ a.toInt ≤ 3) ∧ sI S1 h 13 = a) ∨ (r.toInt = 0 ∧ ¬ (0 ≤ a.toInt ∧ a.toInt ≤ 3) ∧ sI S1 h 13 = sI S h 13))) := by
  refine mt_start (cc := cX8_compressors) (maxL := 2) (ret := (some .boolean)) (by decide) rfl (Nat.le_of_ble_eq_true rfl) ?_
  intro p e s m args below meth c hx hb hr hlk hml hown hnm hts hK hZ hA hW hS ls hl
  have hl : lv_has ls 2 [(0, .ref h), (1, .int a)] := hl
  have hown : s.vm.findClass RX8 = some m.cls := hown
  have F : CallFix p m c cX8_compressors 2 s args wsX8_compressors RX8 := ⟨hx, hb, hml, hown, hts⟩
  have wi8 : ∀ w ∈ u_ws RX8 TX8 18, w ∈ wsX8_compressors := by decide +kernel
  have hG := hG0
  have hF : Fr [] [813] S S := Fr.rf _ _ _
  refine lv_iload_n hx hb dX8_compressors_0 rfl (lv_at hl 1 rfl) ?_
  refine lv_if_lt (tgt := 9) hx hb dX8_compressors_1 (by decide) (fun c1 => ?_) (fun c1 => ?_)
  · have c1i : Int32.toInt a < (0 : Int) := (i3_lt _ _).mp c1
    refine lv_iconst (v := 0) hx hb dX8_compressors_9 (by decide) ?_
    exact pc_zret (v := 0) (S := S) hx hb hr hlk hK hZ hA hW hS (by decide) (⟨hG, hF, Or.inr ⟨rfl, by omega, rfl⟩⟩) dX8_compressors_10
  · have c1i : ¬ (Int32.toInt a < (0 : Int)) := fun h9 => c1 ((i3_lt _ _).mpr h9)
    refine lv_iload_n hx hb dX8_compressors_4 rfl (lv_at hl 1 rfl) ?_
    refine lv_iconst (v := 3) hx hb dX8_compressors_5 (by decide) ?_
    refine lv_icmp_le (tgt := 11) hx hb dX8_compressors_6 (by decide) (fun c2 => ?_) (fun c2 => ?_)
    · have c2i : Int32.toInt a ≤ (3 : Int) := (i3_le _ _).mp c2
      refine lv_aload_n hx hb dX8_compressors_11 rfl (lv_at hl 0 rfl) ?_
      refine lv_iload_n hx hb dX8_compressors_12 rfl (lv_at hl 1 rfl) ?_
      refine pg_pi (ci := 8) (C := RX8) (T := TX8) (N := 18) hx hb hts wi8 tyX8 tyX8_ok nmX8 hown hK hW hS hk (by decide) rfl 13 (by decide) (hts (.fieldLink RX8 75 "IceHall" "working" "I") (by decide +kernel)) (fun _ h9 => h9) rfl rfl rfl dX8_compressors_13 (fun H locs hW hS => ?_)
      obtain ⟨S3, eS3⟩ : ∃ T : St, T = stI S h 13 a := ⟨_, rfl⟩
      rw [← eS3] at hW
      have hG : G S3 := by rw [eS3]; exact hG.I hk (ok_in 0 3 (by decide) (⟨by omega, by omega⟩))
      have hF : Fr [] [813] S S3 := by rw [eS3]; exact hF.I hk (by decide)
      have w4 : sI S3 h 13 = a := by rw [eS3]; exact iI_s
      clear eS3
      refine lv_iconst (v := 1) hx hb dX8_compressors_16 (by decide) ?_
      exact pc_zret (v := 1) (S := S3) hx hb hr hlk hK hZ hA hW hS (by decide) (⟨hG, hF, Or.inl ⟨rfl, by omega, w4⟩⟩) dX8_compressors_17
    · have c2i : ¬ (Int32.toInt a ≤ (3 : Int)) := fun h9 => c2 ((i3_le _ _).mpr h9)
      refine lv_iconst (v := 0) hx hb dX8_compressors_9 (by decide) ?_
      exact pc_zret (v := 0) (S := S) hx hb hr hlk hK hZ hA hW hS (by decide) (⟨hG, hF, Or.inr ⟨rfl, by omega, rfl⟩⟩) dX8_compressors_10
set_option maxHeartbeats 4000000 in
set_option maxRecDepth 100000 in
theorem b_X8_feed (l : Launch) (D : va_G) (cy : Nat → ClassId) (A : Nat → Prop) (S : St) (h t : Nat) (a b d e2 f : Int32) (hG0 : G S) (hk : sK S h = 8) (hr5 : sR S h 5 = some t) (hkt : sK S t = 7) : MI l yX8_feed wsX8_feed ({ frames := 2, cells := 0, slots := 0, locals := 43 } : Room) 0 0 D cy A [.ref h, .int a, .int b, .int d, .int e2, .int f] S (fun r S1 => G S1 ∧ Fr [] [701, 1000] S S1 ∧ (((sI S t 1).toInt ≤ 60 → r = sI S1 t 1 ∧ (sI S1 t 1).toInt = (sI S t 1).toInt + 20) ∧ (60 < (sI S t 1).toInt → r = (-1) ∧ sI S1 t 1 = sI S t 1))) := by
  refine mt_start (cc := cX8_feed) (maxL := 6) (ret := (some .int)) (by decide) rfl (Nat.le_of_ble_eq_true rfl) ?_
  intro p e s m args below meth c hx hb hr hlk hml hown hnm hts hK hZ hA hW hS ls hl
  have hl : lv_has ls 6 [(0, .ref h), (1, .int a), (2, .int b), (3, .int d), (4, .int e2), (5, .int f)] := hl
  have hown : s.vm.findClass RX8 = some m.cls := hown
  have F : CallFix p m c cX8_feed 6 s args wsX8_feed RX8 := ⟨hx, hb, hml, hown, hts⟩
  have wi7 : ∀ w ∈ u_ws RX7 TX7 2, w ∈ wsX8_feed := by decide +kernel
  have wi8 : ∀ w ∈ u_ws RX8 TX8 18, w ∈ wsX8_feed := by decide +kernel
  have hG := hG0
  have hF : Fr [] [701, 1000] S S := Fr.rf _ _ _
  refine lv_aload_n hx hb dX8_feed_0 rfl (lv_at hl 0 rfl) ?_
  refine pg_gr (b := t) (ci := 8) (C := RX8) (T := TX8) (N := 18) hx hb hts wi8 hown hK hW hk (by decide) rfl 5 (by decide) (hts (.fieldLink RX8 39 "IceHall" "tape" "LIceHall$Tape;") (by decide +kernel)) (fun _ h9 => h9) rfl hr5 dX8_feed_1 ?_
  refine pg_gi (ci := 7) (C := RX7) (T := TX7) (N := 2) hx hb hts wi7 hown hK hW hkt (by decide) rfl 1 (by decide) (hts (.fieldLink RX8 81 "IceHall$Tape" "size" "I") (by decide +kernel)) (fun _ h9 => h9) rfl dX8_feed_4 ?_
  have g1 : (0 : Int) ≤ (sI S t 1).toInt ∧ (sI S t 1).toInt ≤ 80 := hG.i hkt (by decide) 1 (by decide)
  refine lv_bipush (v := 20) hx hb dX8_feed_7 (by decide) ?_
  refine lv_iadd hx hb dX8_feed_9 ?_
  have l2 : ((sI S t 1) + 20).toInt = Int32.toInt (sI S t 1) + (20 : Int) := i3_add rfl rfl (by omega) (by omega)
  refine lv_bipush (v := 80) hx hb dX8_feed_10 (by decide) ?_
  refine lv_icmp_le (tgt := 17) hx hb dX8_feed_12 (by decide) (fun c3 => ?_) (fun c3 => ?_)
  · have c3i : Int32.toInt ((sI S t 1) + 20) ≤ (80 : Int) := (i3_le _ _).mp c3
    refine lv_aload_n hx hb dX8_feed_17 rfl (lv_at hl 0 rfl) ?_
    refine pg_gr (b := t) (ci := 8) (C := RX8) (T := TX8) (N := 18) hx hb hts wi8 hown hK hW hk (by decide) rfl 5 (by decide) (hts (.fieldLink RX8 39 "IceHall" "tape" "LIceHall$Tape;") (by decide +kernel)) (fun _ h9 => h9) rfl hr5 dX8_feed_18 ?_
    refine lv_iload_n hx hb dX8_feed_21 rfl (lv_at hl 1 rfl) ?_
    refine pc_Vv (As := [.int a]) (rest := []) F (b_X7_addWord l D cy A S t a hG hkt (by omega)) (cwV 1 hts gX8_feed_X7_addWord rfl rfl rfl (by decide +kernel) ⟨Nat.le_of_ble_eq_true rfl, Nat.le_of_ble_eq_true rfl⟩) hK hZ hA hW hS hkt (by decide) rfl rfl hl.1 rfl (Nat.le_of_ble_eq_true rfl) dX8_feed_22 ⟨Nat.le_of_ble_eq_true rfl, Nat.le_of_ble_eq_true rfl⟩ (fun T5 H locs p6 hW hS => ?_)
    obtain ⟨hG, hFc, p6⟩ := p6
    have hF : Fr [] [701, 1000] S T5 := hF.tr (hFc.mono (by decide))
    refine lv_aload_n hx hb dX8_feed_25 rfl (lv_at hl 0 rfl) ?_
    refine pg_gr (b := t) (ci := 8) (C := RX8) (T := TX8) (N := 18) hx hb hts wi8 hown hK hW (hF.k hk (by decide)) (by decide) rfl 5 (by decide) (hts (.fieldLink RX8 39 "IceHall" "tape" "LIceHall$Tape;") (by decide +kernel)) (fun _ h9 => h9) rfl (hF.r hk (by decide) hr5) dX8_feed_26 ?_
    refine lv_iload_n hx hb dX8_feed_29 rfl (lv_at hl 2 rfl) ?_
    refine pc_Vv (As := [.int b]) (rest := []) F (b_X7_addWord l D cy A T5 t b hG (hF.k hkt (by decide)) (by omega)) (cwV 1 hts gX8_feed_X7_addWord rfl rfl rfl (by decide +kernel) ⟨Nat.le_of_ble_eq_true rfl, Nat.le_of_ble_eq_true rfl⟩) hK hZ hA hW hS (hF.k hkt (by decide)) (by decide) rfl rfl hl.1 rfl (Nat.le_of_ble_eq_true rfl) dX8_feed_30 ⟨Nat.le_of_ble_eq_true rfl, Nat.le_of_ble_eq_true rfl⟩ (fun T8 H locs p9 hW hS => ?_)
    obtain ⟨hG, hFc, p9⟩ := p9
    have hF : Fr [] [701, 1000] S T8 := hF.tr (hFc.mono (by decide))
    refine lv_aload_n hx hb dX8_feed_33 rfl (lv_at hl 0 rfl) ?_
    refine pg_gr (b := t) (ci := 8) (C := RX8) (T := TX8) (N := 18) hx hb hts wi8 hown hK hW (hF.k hk (by decide)) (by decide) rfl 5 (by decide) (hts (.fieldLink RX8 39 "IceHall" "tape" "LIceHall$Tape;") (by decide +kernel)) (fun _ h9 => h9) rfl (hF.r hk (by decide) hr5) dX8_feed_34 ?_
    refine lv_iload_n hx hb dX8_feed_37 rfl (lv_at hl 3 rfl) ?_
    refine pc_Vv (As := [.int d]) (rest := []) F (b_X7_addWord l D cy A T8 t d hG (hF.k hkt (by decide)) (by omega)) (cwV 1 hts gX8_feed_X7_addWord rfl rfl rfl (by decide +kernel) ⟨Nat.le_of_ble_eq_true rfl, Nat.le_of_ble_eq_true rfl⟩) hK hZ hA hW hS (hF.k hkt (by decide)) (by decide) rfl rfl hl.1 rfl (Nat.le_of_ble_eq_true rfl) dX8_feed_38 ⟨Nat.le_of_ble_eq_true rfl, Nat.le_of_ble_eq_true rfl⟩ (fun T11 H locs p12 hW hS => ?_)
    obtain ⟨hG, hFc, p12⟩ := p12
    have hF : Fr [] [701, 1000] S T11 := hF.tr (hFc.mono (by decide))
    refine lv_aload_n hx hb dX8_feed_41 rfl (lv_at hl 0 rfl) ?_
    refine pg_gr (b := t) (ci := 8) (C := RX8) (T := TX8) (N := 18) hx hb hts wi8 hown hK hW (hF.k hk (by decide)) (by decide) rfl 5 (by decide) (hts (.fieldLink RX8 39 "IceHall" "tape" "LIceHall$Tape;") (by decide +kernel)) (fun _ h9 => h9) rfl (hF.r hk (by decide) hr5) dX8_feed_42 ?_
    refine lv_iload hx hb dX8_feed_45 (lv_at hl 4 rfl) ?_
    refine pc_Vv (As := [.int e2]) (rest := []) F (b_X7_addWord l D cy A T11 t e2 hG (hF.k hkt (by decide)) (by omega)) (cwV 1 hts gX8_feed_X7_addWord rfl rfl rfl (by decide +kernel) ⟨Nat.le_of_ble_eq_true rfl, Nat.le_of_ble_eq_true rfl⟩) hK hZ hA hW hS (hF.k hkt (by decide)) (by decide) rfl rfl hl.1 rfl (Nat.le_of_ble_eq_true rfl) dX8_feed_47 ⟨Nat.le_of_ble_eq_true rfl, Nat.le_of_ble_eq_true rfl⟩ (fun T14 H locs p15 hW hS => ?_)
    obtain ⟨hG, hFc, p15⟩ := p15
    have hF : Fr [] [701, 1000] S T14 := hF.tr (hFc.mono (by decide))
    refine lv_aload_n hx hb dX8_feed_50 rfl (lv_at hl 0 rfl) ?_
    refine pg_gr (b := t) (ci := 8) (C := RX8) (T := TX8) (N := 18) hx hb hts wi8 hown hK hW (hF.k hk (by decide)) (by decide) rfl 5 (by decide) (hts (.fieldLink RX8 39 "IceHall" "tape" "LIceHall$Tape;") (by decide +kernel)) (fun _ h9 => h9) rfl (hF.r hk (by decide) hr5) dX8_feed_51 ?_
    refine lv_iload hx hb dX8_feed_54 (lv_at hl 5 rfl) ?_
    refine pc_Vv (As := [.int f]) (rest := []) F (b_X7_addWord l D cy A T14 t f hG (hF.k hkt (by decide)) (by omega)) (cwV 1 hts gX8_feed_X7_addWord rfl rfl rfl (by decide +kernel) ⟨Nat.le_of_ble_eq_true rfl, Nat.le_of_ble_eq_true rfl⟩) hK hZ hA hW hS (hF.k hkt (by decide)) (by decide) rfl rfl hl.1 rfl (Nat.le_of_ble_eq_true rfl) dX8_feed_56 ⟨Nat.le_of_ble_eq_true rfl, Nat.le_of_ble_eq_true rfl⟩ (fun T17 H locs p18 hW hS => ?_)
    obtain ⟨hG, hFc, p18⟩ := p18
    have hF : Fr [] [701, 1000] S T17 := hF.tr (hFc.mono (by decide))
    refine lv_aload_n hx hb dX8_feed_59 rfl (lv_at hl 0 rfl) ?_
    refine pg_gr (b := t) (ci := 8) (C := RX8) (T := TX8) (N := 18) hx hb hts wi8 hown hK hW (hF.k hk (by decide)) (by decide) rfl 5 (by decide) (hts (.fieldLink RX8 39 "IceHall" "tape" "LIceHall$Tape;") (by decide +kernel)) (fun _ h9 => h9) rfl (hF.r hk (by decide) hr5) dX8_feed_60 ?_
    refine pg_gi (ci := 7) (C := RX7) (T := TX7) (N := 2) hx hb hts wi7 hown hK hW (hF.k hkt (by decide)) (by decide) rfl 1 (by decide) (hts (.fieldLink RX8 81 "IceHall$Tape" "size" "I") (by decide +kernel)) (fun _ h9 => h9) rfl dX8_feed_63 ?_
    have g19 : (0 : Int) ≤ (sI T17 t 1).toInt ∧ (sI T17 t 1).toInt ≤ 80 := hG.i (hF.k hkt (by decide)) (by decide) 1 (by decide)
    exact pc_iret (v := sI T17 t 1) (S := T17) hx hb hr hlk hK hZ hA hW hS (⟨hG, hF, ⟨fun _ => ⟨rfl, by omega⟩, fun h9 => absurd h9 (by omega)⟩⟩) dX8_feed_66
  · have c3i : ¬ (Int32.toInt ((sI S t 1) + 20) ≤ (80 : Int)) := fun h9 => c3 ((i3_le _ _).mpr h9)
    refine lv_iconst (v := (-1)) hx hb dX8_feed_15 (by decide) ?_
    exact pc_iret (v := (-1)) (S := S) hx hb hr hlk hK hZ hA hW hS (⟨hG, hF, ⟨fun h9 => absurd h9 (by omega), fun _ => ⟨rfl, rfl⟩⟩⟩) dX8_feed_16
