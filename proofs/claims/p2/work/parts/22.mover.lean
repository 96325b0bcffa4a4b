set_option maxHeartbeats 4000000 in
set_option maxRecDepth 100000 in
theorem b_X2_begin (l : Launch) (D : va_G) (cy : Nat → ClassId) (A : Nat → Prop) (S : St) (h : Nat) (hG0 : G S) (hk : sK S h = 2) : MV l yX2_begin wsX2_begin ({ frames := 0, cells := 0, slots := 0, locals := 0 } : Room) 0 0 D cy A [.ref h] S (fun S1 => G S1 ∧ Fr [] [206] S S1 ∧ True) := by
  refine mt_start (cc := cX2_begin) (maxL := 1) (ret := none) (by decide) rfl (Nat.le_of_ble_eq_true rfl) ?_
  intro p e s m args below meth c hx hb hr hlk hml hown hnm hts hK hZ hA hW hS ls hl
  have hl : lv_has ls 1 [(0, .ref h)] := hl
  have hown : s.vm.findClass RX2 = some m.cls := hown
  have F : CallFix p m c cX2_begin 1 s args wsX2_begin RX2 := ⟨hx, hb, hml, hown, hts⟩
  have wi2 : ∀ w ∈ u_ws RX2 TX2 10, w ∈ wsX2_begin := by decide +kernel
  have hG := hG0
  have hF : Fr [] [206] S S := Fr.rf _ _ _
  refine lv_aload_n hx hb dX2_begin_0 rfl (lv_at hl 0 rfl) ?_
  refine lv_iconst (v := 0) hx hb dX2_begin_1 (by decide) ?_
  refine pg_pi (ci := 2) (C := RX2) (T := TX2) (N := 10) hx hb hts wi2 tyX2 tyX2_ok nmX2 hown hK hW hS hk (by decide) rfl 6 (by decide) (hts (.fieldLink RX2 34 "IceHall$Mover" "size" "I") (by decide +kernel)) (fun _ h9 => h9) rfl rfl rfl dX2_begin_2 (fun H locs hW hS => ?_)
  obtain ⟨S1, eS1⟩ : ∃ T : St, T = stI S h 6 0 := ⟨_, rfl⟩
  rw [← eS1] at hW
  have hG : G S1 := by rw [eS1]; exact hG.I hk (ok_fr (by decide))
  have hF : Fr [] [206] S S1 := by rw [eS1]; exact hF.I hk (by decide)
  clear eS1
  exact pc_vret (S := S1) hx hb hr hlk hK hZ hA hW hS (⟨hG, hF, trivial⟩) dX2_begin_5
set_option maxHeartbeats 4000000 in
set_option maxRecDepth 100000 in
theorem b_X2_add (l : Launch) (D : va_G) (cy : Nat → ClassId) (A : Nat → Prop) (S : St) (h a : Nat) (hG0 : G S) (hk : sK S h = 2) (hka : sK S a = 6) : MI l yX2_add wsX2_add ({ frames := 1, cells := 0, slots := 0, locals := 21 } : Room) 0 0 D cy A [.ref h, .ref a] S (fun r S1 => G S1 ∧ Fr [] [206] S S1 ∧ True) := by
  refine mt_start (cc := cX2_add) (maxL := 2) (ret := (some .boolean)) (by decide) rfl (Nat.le_of_ble_eq_true rfl) ?_
  intro p e s m args below meth c hx hb hr hlk hml hown hnm hts hK hZ hA hW hS ls hl
  have hl : lv_has ls 2 [(0, .ref h), (1, .ref a)] := hl
  have hown : s.vm.findClass RX2 = some m.cls := hown
  have F : CallFix p m c cX2_add 2 s args wsX2_add RX2 := ⟨hx, hb, hml, hown, hts⟩
  have wi2 : ∀ w ∈ u_ws RX2 TX2 10, w ∈ wsX2_add := by decide +kernel
  have hG := hG0
  have hF : Fr [] [206] S S := Fr.rf _ _ _
  refine lv_aload_n hx hb dX2_add_0 rfl (lv_at hl 0 rfl) ?_
  refine pg_gi (ci := 2) (C := RX2) (T := TX2) (N := 10) hx hb hts wi2 hown hK hW hk (by decide) rfl 6 (by decide) (hts (.fieldLink RX2 34 "IceHall$Mover" "size" "I") (by decide +kernel)) (fun _ h9 => h9) rfl dX2_add_1 ?_
  refine lv_iconst (v := 5) hx hb dX2_add_4 (by decide) ?_
  refine pc_Ni (As := [.int (sI S h 6), .int 5]) (rest := []) F (b_X8_isBelow l D cy A S (sI S h 6) 5 ) ⟨va_cnB 2 hts gX2_add_X8_isBelow_n38 rfl rfl rfl hZ.2.2.2.2.2.2.2.2.2.1 (hts (.initialized RX8) (by decide +kernel)) (by decide +kernel) ⟨Nat.le_of_ble_eq_true rfl, Nat.le_of_ble_eq_true rfl⟩, hts (.static yX8_isBelow) (by decide +kernel), trivial⟩ hK hZ hA hW hS rfl hl.1 rfl (Nat.le_of_ble_eq_true rfl) dX2_add_5 ⟨Nat.le_of_ble_eq_true rfl, Nat.le_of_ble_eq_true rfl⟩ (fun v1 T2 H locs p3 hW hS => ?_)
  obtain ⟨eT2, p3⟩ := p3
  rw [eT2] at hW
  clear eT2
  have p3 := isb_lit (n := 5) rfl p3
  refine lv_if_ne (tgt := 13) hx hb dX2_add_8 (by decide) (fun c4 => ?_) (fun c4 => ?_)
  · have c4i : ¬ (Int32.toInt v1 = (0 : Int)) := fun h9 => c4 ((i3_eq _ _).mpr h9)
    refine lv_aload_n hx hb dX2_add_13 rfl (lv_at hl 0 rfl) ?_
    obtain ⟨b5, rb5, kb5, nb5⟩ := hG0.r hk List.not_mem_nil 2 (show rty 2 2 = some (15, 5) from rfl)
    refine pg_gr (b := b5) (ci := 2) (C := RX2) (T := TX2) (N := 10) hx hb hts wi2 hown hK hW hk (by decide) rfl 2 (by decide) (hts (.fieldLink RX2 11 "IceHall$Mover" "moved" "[LIceHall$Session;") (by decide +kernel)) (fun _ h9 => h9) rfl rb5 dX2_add_14 ?_
    refine lv_aload_n hx hb dX2_add_17 rfl (lv_at hl 0 rfl) ?_
    refine pg_gi (ci := 2) (C := RX2) (T := TX2) (N := 10) hx hb hts wi2 hown hK hW hk (by decide) rfl 6 (by decide) (hts (.fieldLink RX2 34 "IceHall$Mover" "size" "I") (by decide +kernel)) (fun _ h9 => h9) rfl dX2_add_18 ?_
    refine lv_aload_n hx hb dX2_add_21 rfl (lv_at hl 1 rfl) ?_
    refine pg_aast (t0 := 5) hx hb hK hW hS (by decide) kb5 hka (by decide) rfl rfl (by rw [show sL S b5 = 5 from nb5]; exact r_in (by omega)) dX2_add_22 (fun H locs hW hS => ?_)
    obtain ⟨S6, eS6⟩ : ∃ T : St, T = stR S b5 (Int32.toNatClampNeg (sI S h 6)) (some a) := ⟨_, rfl⟩
    rw [← eS6] at hW
    have hG : G S6 := by rw [eS6]; exact hG.R kb5 hka (by decide)
    have hF : Fr [] [206] S S6 := by rw [eS6]; exact hF.R kb5 (by decide)
    clear eS6
    refine lv_aload_n hx hb dX2_add_23 rfl (lv_at hl 0 rfl) ?_
    refine lv_dup hx hb dX2_add_24 rfl ?_
    refine pg_gi (ci := 2) (C := RX2) (T := TX2) (N := 10) hx hb hts wi2 hown hK hW (hF.k hk (by decide)) (by decide) rfl 6 (by decide) (hts (.fieldLink RX2 34 "IceHall$Mover" "size" "I") (by decide +kernel)) (fun _ h9 => h9) rfl dX2_add_25 ?_
    refine lv_iconst (v := 1) hx hb dX2_add_28 (by decide) ?_
    refine lv_iadd hx hb dX2_add_29 ?_
    have l7 : ((sI S6 h 6) + 1).toInt = Int32.toInt (sI S6 h 6) + (1 : Int) := i3_add rfl rfl (by omega) (by omega)
    refine pg_pi (ci := 2) (C := RX2) (T := TX2) (N := 10) hx hb hts wi2 tyX2 tyX2_ok nmX2 hown hK hW hS (hF.k hk (by decide)) (by decide) rfl 6 (by decide) (hts (.fieldLink RX2 34 "IceHall$Mover" "size" "I") (by decide +kernel)) (fun _ h9 => h9) rfl rfl rfl dX2_add_30 (fun H locs hW hS => ?_)
    have kq8 : sK S6 h = 2 := (hF.k hk (by decide))
    obtain ⟨S9, eS9⟩ : ∃ T : St, T = stI S6 h 6 ((sI S6 h 6) + 1) := ⟨_, rfl⟩
    rw [← eS9] at hW
    have hG : G S9 := by rw [eS9]; exact hG.I kq8 (ok_fr (by decide))
    have hF : Fr [] [206] S S9 := by rw [eS9]; exact hF.I kq8 (by decide)
    clear eS9
    refine lv_iconst (v := 1) hx hb dX2_add_33 (by decide) ?_
    exact pc_zret (v := 1) (S := S9) hx hb hr hlk hK hZ hA hW hS (by decide) (⟨hG, hF, trivial⟩) dX2_add_34
  · have c4i : Int32.toInt v1 = (0 : Int) := (i3_eq _ _).mp c4
    refine lv_iconst (v := 0) hx hb dX2_add_11 (by decide) ?_
    exact pc_zret (v := 0) (S := S) hx hb hr hlk hK hZ hA hW hS (by decide) (⟨hG, hF, trivial⟩) dX2_add_12
set_option maxHeartbeats 4000000 in
set_option maxRecDepth 100000 in
theorem b_X2_shiftOf (l : Launch) (D : va_G) (cy : Nat → ClassId) (A : Nat → Prop) (S : St) (a : Int32)  : MI l yX2_shiftOf wsX2_shiftOf ({ frames := 1, cells := 0, slots := 0, locals := 21 } : Room) 0 0 D cy A [.int a] S (fun r S1 => S1 = S ∧ True) := by
  refine mt_start (cc := cX2_shiftOf) (maxL := 2) (ret := (some .int)) (by decide) rfl (Nat.le_of_ble_eq_true rfl) ?_
  intro p e s m args below meth c hx hb hr hlk hml hown hnm hts hK hZ hA hW hS ls hl
  have hl : lv_has ls 2 [(0, .int a)] := hl
  have hown : s.vm.findClass RX2 = some m.cls := hown
  have F : CallFix p m c cX2_shiftOf 2 s args wsX2_shiftOf RX2 := ⟨hx, hb, hml, hown, hts⟩
  refine lv_iload_n hx hb dX2_shiftOf_0 rfl (lv_at hl 0 rfl) ?_
  refine lv_iconst (v := 2) hx hb dX2_shiftOf_1 (by decide) ?_
  refine lv_idiv hx hb dX2_shiftOf_2 (by decide) ?_
  refine lv_istore_n (lv' := [(1, .int (a / 2)), (0, .int a)]) hx hb dX2_shiftOf_3 rfl hl (by decide) rfl (fun ls hl => ?_)
  refine lv_iload_n hx hb dX2_shiftOf_4 rfl (lv_at hl 0 rfl) ?_
  obtain ⟨t1, zt1, yt1⟩ := hZ.2.2.1
  refine va_getsN hx hb zt1 hS hown (va_Nw.use rfl hZ.2.2.2.2.2.2.2.2.2.2.2.2.2.1) (fun _ h9 => h9) dX2_shiftOf_5 ?_
  refine va_tlen hx hb yt1 hS (v := 7) rfl dX2_shiftOf_8 ?_
  refine pc_Ni (As := [.int (a / 2), .int 7]) (rest := []) F (b_X8_isBelow l D cy A S (a / 2) 7 ) ⟨va_cnB 2 hts gX2_shiftOf_X8_isBelow_n38 rfl rfl rfl hZ.2.2.2.2.2.2.2.2.2.1 (hts (.initialized RX8) (by decide +kernel)) (by decide +kernel) ⟨Nat.le_of_ble_eq_true rfl, Nat.le_of_ble_eq_true rfl⟩, hts (.static yX8_isBelow) (by decide +kernel), trivial⟩ hK hZ hA hW hS rfl hl.1 rfl (Nat.le_of_ble_eq_true rfl) dX2_shiftOf_9 ⟨Nat.le_of_ble_eq_true rfl, Nat.le_of_ble_eq_true rfl⟩ (fun v2 T3 H locs p4 hW hS => ?_)
  obtain ⟨eT3, p4⟩ := p4
  rw [eT3] at hW
  clear eT3
  have p4 := isb_lit (n := 7) rfl p4
  refine lv_if_eq (tgt := 23) hx hb dX2_shiftOf_12 (by decide) (fun c5 => ?_) (fun c5 => ?_)
  · have c5i : Int32.toInt v2 = (0 : Int) := (i3_eq _ _).mp c5
    refine lv_iconst (v := 0) hx hb dX2_shiftOf_23 (by decide) ?_
    exact pc_iret (v := 0) (S := S) hx hb hr hlk hK hZ hA hW hS (⟨rfl, trivial⟩) dX2_shiftOf_24
  · have c5i : ¬ (Int32.toInt v2 = (0 : Int)) := fun h9 => c5 ((i3_eq _ _).mpr h9)
    obtain ⟨t6, zt6, yt6⟩ := hZ.2.2.1
    refine va_getsN hx hb zt6 hS hown (va_Nw.use rfl hZ.2.2.2.2.2.2.2.2.2.2.2.2.2.1) (fun _ h9 => h9) dX2_shiftOf_15 ?_
    refine lv_iload_n hx hb dX2_shiftOf_18 rfl (lv_at hl 0 rfl) ?_
    refine va_ti hx hb yt6 hS (r_in (by omega)) (v := .int (([0, -1, 1, -2, 2, -3, 3] : List Int32).getD (Int32.toNatClampNeg (a / 2)) 0)) rfl dX2_shiftOf_19 ?_
    refine lv_topi (fun m7 em7 => ?_)
    refine lv_goto (tgt := 24) hx hb dX2_shiftOf_20 (by decide) ?_
    exact pc_iret (v := m7) (S := S) hx hb hr hlk hK hZ hA hW hS (⟨rfl, trivial⟩) dX2_shiftOf_24
set_option maxHeartbeats 4000000 in
set_option maxRecDepth 100000 in
theorem b_X2_costOf (l : Launch) (D : va_G) (cy : Nat → ClassId) (A : Nat → Prop) (S : St) (a : Int32)  : MI l yX2_costOf wsX2_costOf ({ frames := 2, cells := 0, slots := 0, locals := 60 } : Room) 0 0 D cy A [.int a] S (fun r S1 => S1 = S ∧ True) := by
  refine mt_start (cc := cX2_costOf) (maxL := 1) (ret := (some .int)) (by decide) rfl (Nat.le_of_ble_eq_true rfl) ?_
  intro p e s m args below meth c hx hb hr hlk hml hown hnm hts hK hZ hA hW hS ls hl
  have hl : lv_has ls 1 [(0, .int a)] := hl
  have hown : s.vm.findClass RX2 = some m.cls := hown
  have F : CallFix p m c cX2_costOf 1 s args wsX2_costOf RX2 := ⟨hx, hb, hml, hown, hts⟩
  refine lv_iload_n hx hb dX2_costOf_0 rfl (lv_at hl 0 rfl) ?_
  refine lv_bipush (v := 14) hx hb dX2_costOf_1 (by decide) ?_
  refine lv_icmp_ne (tgt := 11) hx hb dX2_costOf_3 (by decide) (fun c1 => ?_) (fun c1 => ?_)
  · have c1i : ¬ (Int32.toInt a = (14 : Int)) := fun h9 => c1 ((i3_eq _ _).mpr h9)
    refine lv_iload_n hx hb dX2_costOf_11 rfl (lv_at hl 0 rfl) ?_
    refine pc_Si (As := [.int a]) (rest := []) F (b_X2_shiftOf l D cy A S a ) (va_cwS 1 hts gX2_costOf_X2_shiftOf rfl rfl rfl (by decide +kernel) ⟨Nat.le_of_ble_eq_true rfl, Nat.le_of_ble_eq_true rfl⟩) hK hZ hA hW hS rfl hl.1 rfl (Nat.le_of_ble_eq_true rfl) dX2_costOf_12 ⟨Nat.le_of_ble_eq_true rfl, Nat.le_of_ble_eq_true rfl⟩ (fun v2 T3 H locs p4 hW hS => ?_)
    obtain ⟨eT3, p4⟩ := p4
    rw [eT3] at hW
    clear eT3
    refine va_mabs hx hb (by rw [hml]; exact hl.1.symm) hown (hts (.methodLink RX2 116 Lib.Math.abs.name) (by decide +kernel)) (hts (.static Lib.Math.abs.name) (by decide +kernel)) (hts (.initialized "java/lang/Math") (by decide +kernel)) (hts (.code Lib.Math.abs.name Lib.Math.abs.code 1 (some .int)) (by decide +kernel)) (Nat.le_of_ble_eq_true rfl) (Nat.le_of_ble_eq_true rfl) (Nat.le_of_ble_eq_true rfl) (Nat.le_of_ble_eq_true rfl) dX2_costOf_15 ?_
    refine lv_topi (fun m5 em5 => ?_)
    exact pc_iret (v := m5) (S := S) hx hb hr hlk hK hZ hA hW hS (⟨rfl, trivial⟩) dX2_costOf_18
  · have c1i : Int32.toInt a = (14 : Int) := (i3_eq _ _).mp c1
    refine lv_bipush (v := 100) hx hb dX2_costOf_6 (by decide) ?_
    refine lv_goto (tgt := 18) hx hb dX2_costOf_8 (by decide) ?_
    exact pc_iret (v := 100) (S := S) hx hb hr hlk hK hZ hA hW hS (⟨rfl, trivial⟩) dX2_costOf_18
set_option maxHeartbeats 4000000 in
set_option maxRecDepth 100000 in
theorem b_X2_iceOfWay (l : Launch) (D : va_G) (cy : Nat → ClassId) (A : Nat → Prop) (S : St) (h : Nat) (a : Int32) (hG0 : G S) (hk : sK S h = 2) : MR l yX2_iceOfWay wsX2_iceOfWay ({ frames := 0, cells := 0, slots := 0, locals := 0 } : Room) 0 0 D cy A [.ref h, .int a] S (fun r S1 => S1 = S ∧ (∃ b, r = some b ∧ sK S b = 1)) := by
  refine mt_start (cc := cX2_iceOfWay) (maxL := 2) (ret := (some (.object "IceHall$Ice"))) (by decide) rfl (Nat.le_of_ble_eq_true rfl) ?_
  intro p e s m args below meth c hx hb hr hlk hml hown hnm hts hK hZ hA hW hS ls hl
  have hl : lv_has ls 2 [(0, .ref h), (1, .int a)] := hl
  have hown : s.vm.findClass RX2 = some m.cls := hown
  have F : CallFix p m c cX2_iceOfWay 2 s args wsX2_iceOfWay RX2 := ⟨hx, hb, hml, hown, hts⟩
  have wi2 : ∀ w ∈ u_ws RX2 TX2 10, w ∈ wsX2_iceOfWay := by decide +kernel
  have hG := hG0
  refine lv_iload_n hx hb dX2_iceOfWay_0 rfl (lv_at hl 1 rfl) ?_
  refine lv_iconst (v := 2) hx hb dX2_iceOfWay_1 (by decide) ?_
  refine lv_irem hx hb dX2_iceOfWay_2 (by decide) ?_
  refine lv_if_ne (tgt := 13) hx hb dX2_iceOfWay_3 (by decide) (fun c1 => ?_) (fun c1 => ?_)
  · have c1i : ¬ (Int32.toInt (a - a / 2 * 2) = (0 : Int)) := fun h9 => c1 ((i3_eq _ _).mpr h9)
    refine lv_aload_n hx hb dX2_iceOfWay_13 rfl (lv_at hl 0 rfl) ?_
    obtain ⟨b2, rb2, kb2, nb2⟩ := hG0.r hk List.not_mem_nil 1 (show rty 2 1 = some (1, 0) from rfl)
    refine pg_gr (b := b2) (ci := 2) (C := RX2) (T := TX2) (N := 10) hx hb hts wi2 hown hK hW hk (by decide) rfl 1 (by decide) (hts (.fieldLink RX2 31 "IceHall$Mover" "secondIce" "LIceHall$Ice;") (by decide +kernel)) (fun _ h9 => h9) rfl rb2 dX2_iceOfWay_14 ?_
    exact pc_aret (v := some b2) (S := S) hx hb hr hlk hK hZ hA hW hS (⟨rfl, ⟨b2, rfl, kb2⟩⟩) dX2_iceOfWay_17
  · have c1i : Int32.toInt (a - a / 2 * 2) = (0 : Int) := (i3_eq _ _).mp c1
    refine lv_aload_n hx hb dX2_iceOfWay_6 rfl (lv_at hl 0 rfl) ?_
    obtain ⟨b3, rb3, kb3, nb3⟩ := hG0.r hk List.not_mem_nil 0 (show rty 2 0 = some (1, 0) from rfl)
    refine pg_gr (b := b3) (ci := 2) (C := RX2) (T := TX2) (N := 10) hx hb hts wi2 hown hK hW hk (by decide) rfl 0 (by decide) (hts (.fieldLink RX2 27 "IceHall$Mover" "firstIce" "LIceHall$Ice;") (by decide +kernel)) (fun _ h9 => h9) rfl rb3 dX2_iceOfWay_7 ?_
    refine lv_goto (tgt := 17) hx hb dX2_iceOfWay_10 (by decide) ?_
    exact pc_aret (v := some b3) (S := S) hx hb hr hlk hK hZ hA hW hS (⟨rfl, ⟨b3, rfl, kb3⟩⟩) dX2_iceOfWay_17
set_option maxHeartbeats 4000000 in
set_option maxRecDepth 100000 in
theorem b_X2_hourOf (l : Launch) (D : va_G) (cy : Nat → ClassId) (A : Nat → Prop) (S : St) (h : Nat) (a b : Int32) (hG0 : G S) (hk : sK S h = 2) : MI l yX2_hourOf wsX2_hourOf ({ frames := 2, cells := 0, slots := 0, locals := 42 } : Room) 0 0 D cy A [.ref h, .int a, .int b] S (fun r S1 => S1 = S ∧ True) := by
  refine mt_start (cc := cX2_hourOf) (maxL := 4) (ret := (some .int)) (by decide) rfl (Nat.le_of_ble_eq_true rfl) ?_
  intro p e s m args below meth c hx hb hr hlk hml hown hnm hts hK hZ hA hW hS ls hl
  have hl : lv_has ls 4 [(0, .ref h), (1, .int a), (2, .int b)] := hl
  have hown : s.vm.findClass RX2 = some m.cls := hown
  have F : CallFix p m c cX2_hourOf 4 s args wsX2_hourOf RX2 := ⟨hx, hb, hml, hown, hts⟩
  have wi2 : ∀ w ∈ u_ws RX2 TX2 10, w ∈ wsX2_hourOf := by decide +kernel
  have wi6 : ∀ w ∈ u_ws RX6 TX6 10, w ∈ wsX2_hourOf := by decide +kernel
  have hG := hG0
  refine lv_iload_n hx hb dX2_hourOf_0 rfl (lv_at hl 1 rfl) ?_
  refine lv_iconst (v := 5) hx hb dX2_hourOf_1 (by decide) ?_
  refine pc_Ni (As := [.int a, .int 5]) (rest := []) F (b_X8_isBelow l D cy A S a 5 ) ⟨va_cnB 2 hts gX2_hourOf_X8_isBelow_n38 rfl rfl rfl hZ.2.2.2.2.2.2.2.2.2.1 (hts (.initialized RX8) (by decide +kernel)) (by decide +kernel) ⟨Nat.le_of_ble_eq_true rfl, Nat.le_of_ble_eq_true rfl⟩, hts (.static yX8_isBelow) (by decide +kernel), trivial⟩ hK hZ hA hW hS rfl hl.1 rfl (Nat.le_of_ble_eq_true rfl) dX2_hourOf_2 ⟨Nat.le_of_ble_eq_true rfl, Nat.le_of_ble_eq_true rfl⟩ (fun v1 T2 H locs p3 hW hS => ?_)
  obtain ⟨eT2, p3⟩ := p3
  rw [eT2] at hW
  clear eT2
  have p3 := isb_lit (n := 5) rfl p3
  refine lv_if_eq (tgt := 17) hx hb dX2_hourOf_5 (by decide) (fun c4 => ?_) (fun c4 => ?_)
  · have c4i : Int32.toInt v1 = (0 : Int) := (i3_eq _ _).mp c4
    refine lv_null hx hb dX2_hourOf_17 ?_
    refine lv_astore_nN (lv' := [(3, .null), (0, .ref h), (1, .int a), (2, .int b)]) hx hb dX2_hourOf_18 rfl hl (by decide) rfl (fun ls hl => ?_)
    refine lv_aload_nN hx hb dX2_hourOf_19 rfl (lv_at hl 0 rfl) ?_
    refine lv_ifnonnullN hx hb dX2_hourOf_20 ?_
    refine lv_iconst (v := (-1)) hx hb dX2_hourOf_23 (by decide) ?_
    refine lv_goto (tgt := 36) hx hb dX2_hourOf_24 (by decide) ?_
    exact pc_iret (v := (-1)) (S := S) hx hb hr hlk hK hZ hA hW hS (⟨rfl, trivial⟩) dX2_hourOf_36
  · have c4i : ¬ (Int32.toInt v1 = (0 : Int)) := fun h9 => c4 ((i3_eq _ _).mpr h9)
    refine lv_aload_n hx hb dX2_hourOf_8 rfl (lv_at hl 0 rfl) ?_
    obtain ⟨b5, rb5, kb5, nb5⟩ := hG0.r hk List.not_mem_nil 2 (show rty 2 2 = some (15, 5) from rfl)
    refine pg_gr (b := b5) (ci := 2) (C := RX2) (T := TX2) (N := 10) hx hb hts wi2 hown hK hW hk (by decide) rfl 2 (by decide) (hts (.fieldLink RX2 11 "IceHall$Mover" "moved" "[LIceHall$Session;") (by decide +kernel)) (fun _ h9 => h9) rfl rb5 dX2_hourOf_9 ?_
    refine lv_iload_n hx hb dX2_hourOf_12 rfl (lv_at hl 1 rfl) ?_
    refine pg_aaldS hx hb hK hW kb5 (by rw [show sL S b5 = 5 from nb5]; exact r_in (by omega)) dX2_hourOf_13 ?_
    rcases o6 : sR S b5 (Int32.toNatClampNeg a) with _ | b7
    · refine lv_goto (tgt := 18) hx hb dX2_hourOf_14 (by decide) ?_
      refine lv_astore_nN (lv' := [(3, .null), (0, .ref h), (1, .int a), (2, .int b)]) hx hb dX2_hourOf_18 rfl hl (by decide) rfl (fun ls hl => ?_)
      refine lv_aload_nN hx hb dX2_hourOf_19 rfl (lv_at hl 0 rfl) ?_
      refine lv_ifnonnullN hx hb dX2_hourOf_20 ?_
      refine lv_iconst (v := (-1)) hx hb dX2_hourOf_23 (by decide) ?_
      refine lv_goto (tgt := 36) hx hb dX2_hourOf_24 (by decide) ?_
      exact pc_iret (v := (-1)) (S := S) hx hb hr hlk hK hZ hA hW hS (⟨rfl, trivial⟩) dX2_hourOf_36
    · have kb7 : sK S b7 = 6 := hG.2.2.1 _ _ _ kb5 o6
      refine lv_goto (tgt := 18) hx hb dX2_hourOf_14 (by decide) ?_
      refine lv_astore_n (lv' := [(3, .ref b7), (0, .ref h), (1, .int a), (2, .int b)]) hx hb dX2_hourOf_18 rfl hl (by decide) rfl (fun ls hl => ?_)
      refine lv_aload_n hx hb dX2_hourOf_19 rfl (lv_at hl 0 rfl) ?_
      refine lv_ifnonnull (tgt := 27) hx hb dX2_hourOf_20 (by decide) ?_
      refine lv_aload_n hx hb dX2_hourOf_27 rfl (lv_at hl 0 rfl) ?_
      refine pg_gi (ci := 6) (C := RX6) (T := TX6) (N := 10) hx hb hts wi6 hown hK hW kb7 (by decide) rfl 5 (by decide) (hts (.fieldLink RX2 107 "IceHall$Session" "hour" "I") (by decide +kernel)) (fun _ h9 => h9) rfl dX2_hourOf_28 ?_
      refine lv_iload_n hx hb dX2_hourOf_31 rfl (lv_at hl 3 rfl) ?_
      refine pc_Si (As := [.int b]) (rest := [.int (sI S b7 5)]) F (b_X2_shiftOf l D cy A S b ) (va_cwS 1 hts gX2_hourOf_X2_shiftOf rfl rfl rfl (by decide +kernel) ⟨Nat.le_of_ble_eq_true rfl, Nat.le_of_ble_eq_true rfl⟩) hK hZ hA hW hS rfl hl.1 rfl (Nat.le_of_ble_eq_true rfl) dX2_hourOf_32 ⟨Nat.le_of_ble_eq_true rfl, Nat.le_of_ble_eq_true rfl⟩ (fun v8 T9 H locs p10 hW hS => ?_)
      obtain ⟨eT9, p10⟩ := p10
      rw [eT9] at hW
      clear eT9
      refine lv_iadd hx hb dX2_hourOf_35 ?_
      exact pc_iret (v := (sI S b7 5) + v8) (S := S) hx hb hr hlk hK hZ hA hW hS (⟨rfl, trivial⟩) dX2_hourOf_36
set_option maxHeartbeats 4000000 in
set_option maxRecDepth 100000 in
theorem b_X2_canGo (l : Launch) (D : va_G) (cy : Nat → ClassId) (A : Nat → Prop) (S : St) (h : Nat) (a b : Int32) (hG0 : G S) (hk : sK S h = 2) : MI l yX2_canGo wsX2_canGo ({ frames := 3, cells := 0, slots := 0, locals := 66 } : Room) 0 0 D cy A [.ref h, .int a, .int b] S (fun r S1 => S1 = S ∧ True) := by
  refine mt_start (cc := cX2_canGo) (maxL := 4) (ret := (some .boolean)) (by decide) rfl (Nat.le_of_ble_eq_true rfl) ?_
  intro p e s m args below meth c hx hb hr hlk hml hown hnm hts hK hZ hA hW hS ls hl
  have hl : lv_has ls 4 [(0, .ref h), (1, .int a), (2, .int b)] := hl
  have hown : s.vm.findClass RX2 = some m.cls := hown
  have F : CallFix p m c cX2_canGo 4 s args wsX2_canGo RX2 := ⟨hx, hb, hml, hown, hts⟩
  have wi2 : ∀ w ∈ u_ws RX2 TX2 10, w ∈ wsX2_canGo := by decide +kernel
  have hG := hG0
  refine lv_aload_n hx hb dX2_canGo_0 rfl (lv_at hl 0 rfl) ?_
  refine lv_iload_n hx hb dX2_canGo_1 rfl (lv_at hl 1 rfl) ?_
  refine lv_iload_n hx hb dX2_canGo_2 rfl (lv_at hl 2 rfl) ?_
  refine pc_Vi (As := [.int a, .int b]) (rest := []) F (b_X2_hourOf l D cy A S h a b hG hk) (cwV 2 hts gX2_canGo_X2_hourOf rfl rfl rfl (by decide +kernel) ⟨Nat.le_of_ble_eq_true rfl, Nat.le_of_ble_eq_true rfl⟩) hK hZ hA hW hS hk (by decide) rfl rfl hl.1 rfl (Nat.le_of_ble_eq_true rfl) dX2_canGo_3 ⟨Nat.le_of_ble_eq_true rfl, Nat.le_of_ble_eq_true rfl⟩ (fun v1 T2 H locs p3 hW hS => ?_)
  obtain ⟨eT2, p3⟩ := p3
  rw [eT2] at hW
  clear eT2
  refine lv_istore_n (lv' := [(3, .int v1), (0, .ref h), (1, .int a), (2, .int b)]) hx hb dX2_canGo_6 rfl hl (by decide) rfl (fun ls hl => ?_)
  refine lv_iload_n hx hb dX2_canGo_7 rfl (lv_at hl 0 rfl) ?_
  refine lv_aload_n hx hb dX2_canGo_8 rfl (lv_at hl 1 rfl) ?_
  refine pg_gi (ci := 2) (C := RX2) (T := TX2) (N := 10) hx hb hts wi2 hown hK hW hk (by decide) rfl 8 (by decide) (hts (.fieldLink RX2 42 "IceHall$Mover" "earliest" "I") (by decide +kernel)) (fun _ h9 => h9) rfl dX2_canGo_9 ?_
  refine lv_icmp_lt (tgt := 35) hx hb dX2_canGo_12 (by decide) (fun c4 => ?_) (fun c4 => ?_)
  · have c4i : Int32.toInt v1 < Int32.toInt (sI S h 8) := (i3_lt _ _).mp c4
    refine lv_iconst (v := 0) hx hb dX2_canGo_35 (by decide) ?_
    exact pc_zret (v := 0) (S := S) hx hb hr hlk hK hZ hA hW hS (by decide) (⟨rfl, trivial⟩) dX2_canGo_36
  · have c4i : ¬ (Int32.toInt v1 < Int32.toInt (sI S h 8)) := fun h9 => c4 ((i3_lt _ _).mpr h9)
    refine lv_aload_n hx hb dX2_canGo_15 rfl (lv_at hl 1 rfl) ?_
    refine lv_iload_n hx hb dX2_canGo_16 rfl (lv_at hl 3 rfl) ?_
    refine pc_Vq (As := [.int b]) (rest := []) F (b_X2_iceOfWay l D cy A S h b hG hk) (cwV 1 hts gX2_canGo_X2_iceOfWay rfl rfl rfl (by decide +kernel) ⟨Nat.le_of_ble_eq_true rfl, Nat.le_of_ble_eq_true rfl⟩) hK hZ hA hW hS hk (by decide) rfl rfl hl.1 rfl (Nat.le_of_ble_eq_true rfl) dX2_canGo_17 ⟨Nat.le_of_ble_eq_true rfl, Nat.le_of_ble_eq_true rfl⟩ (fun v5 T6 H locs p7 hW hS => ?_)
    obtain ⟨eT6, p7⟩ := p7
    rw [eT6] at hW
    obtain ⟨b8, erb8, kb8⟩ := p7
    rw [erb8]
    refine lv_iload_n hx hb dX2_canGo_20 rfl (lv_at hl 0 rfl) ?_
    refine lv_aload_n hx hb dX2_canGo_21 rfl (lv_at hl 1 rfl) ?_
    refine pg_gi (ci := 2) (C := RX2) (T := TX2) (N := 10) hx hb hts wi2 hown hK hW hk (by decide) rfl 9 (by decide) (hts (.fieldLink RX2 45 "IceHall$Mover" "restMost" "I") (by decide +kernel)) (fun _ h9 => h9) rfl dX2_canGo_22 ?_
    refine pc_Vi (As := [.int v1, .int (sI S h 9)]) (rest := []) F (b_X1_hasRoom l D cy A S b8 v1 (sI S h 9) hG kb8) (cwV 2 hts gX2_canGo_X1_hasRoom rfl rfl rfl (by decide +kernel) ⟨Nat.le_of_ble_eq_true rfl, Nat.le_of_ble_eq_true rfl⟩) hK hZ hA hW hS kb8 (by decide) rfl rfl hl.1 rfl (Nat.le_of_ble_eq_true rfl) dX2_canGo_25 ⟨Nat.le_of_ble_eq_true rfl, Nat.le_of_ble_eq_true rfl⟩ (fun v9 T10 H locs p11 hW hS => ?_)
    obtain ⟨eT10, p11⟩ := p11
    rw [eT10] at hW
    clear eT10
    refine lv_if_eq (tgt := 35) hx hb dX2_canGo_28 (by decide) (fun c12 => ?_) (fun c12 => ?_)
    · have c12i : Int32.toInt v9 = (0 : Int) := (i3_eq _ _).mp c12
      refine lv_iconst (v := 0) hx hb dX2_canGo_35 (by decide) ?_
      exact pc_zret (v := 0) (S := S) hx hb hr hlk hK hZ hA hW hS (by decide) (⟨rfl, trivial⟩) dX2_canGo_36
    · have c12i : ¬ (Int32.toInt v9 = (0 : Int)) := fun h9 => c12 ((i3_eq _ _).mpr h9)
      refine lv_iconst (v := 1) hx hb dX2_canGo_31 (by decide) ?_
      refine lv_goto (tgt := 36) hx hb dX2_canGo_32 (by decide) ?_
      exact pc_zret (v := 1) (S := S) hx hb hr hlk hK hZ hA hW hS (by decide) (⟨rfl, trivial⟩) dX2_canGo_36
set_option maxHeartbeats 4000000 in
set_option maxRecDepth 100000 in
theorem b_X2_leastAlone (l : Launch) (D : va_G) (cy : Nat → ClassId) (A : Nat → Prop) (S : St) (h : Nat) (a : Int32) (hG0 : G S) (hk : sK S h = 2) : MI l yX2_leastAlone wsX2_leastAlone ({ frames := 4, cells := 0, slots := 0, locals := 89 } : Room) 0 0 D cy A [.ref h, .int a] S (fun r S1 => S1 = S ∧ True) := by
  refine mt_start (cc := cX2_leastAlone) (maxL := 3) (ret := (some .int)) (by decide) rfl (Nat.le_of_ble_eq_true rfl) ?_
  intro p e s m args below meth c hx hb hr hlk hml hown hnm hts hK hZ hA hW hS ls hl
  have hl : lv_has ls 3 [(0, .ref h), (1, .int a)] := hl
  have hown : s.vm.findClass RX2 = some m.cls := hown
  have F : CallFix p m c cX2_leastAlone 3 s args wsX2_leastAlone RX2 := ⟨hx, hb, hml, hown, hts⟩
  have hG := hG0
  refine lv_iconst (v := 0) hx hb dX2_leastAlone_0 (by decide) ?_
  refine lv_istore_n (lv' := [(2, .int 0), (0, .ref h), (1, .int a)]) hx hb dX2_leastAlone_1 rfl hl (by decide) rfl (fun ls hl => ?_)
  have loop2 : ∀ (zn : Nat) (y : Int32) (H : Heap) (locs : List Loc) (ls : Array Slot), (0 ≤ y.toInt) → (14 - y.toInt).toNat < zn → PW D cy A S H → va_S A s.heap H locs → lv_has ls 3 [(0, .ref h), (1, .int a), (2, .int y)] → W p l e ({ frames := 4, cells := 0, slots := 0, locals := 89 } : Room) s m args below meth c H locs 0 0 (MQ below (va_Qi (fun r S1 => S1 = S ∧ True) (PU D cy A) A) args s 0 0 A) (F0 m 2 ls []) := by
    intro zn
    induction zn with
    | zero => intros; exact absurd (by assumption) (Nat.not_lt_zero _)
    | succ zn ih2 =>
      intro y H locs ls hy0 hme hW hS hl
      refine lv_iload_n hx hb dX2_leastAlone_2 rfl (lv_at hl 2 rfl) ?_
      refine lv_bipush (v := 14) hx hb dX2_leastAlone_3 (by decide) ?_
      refine lv_icmp_ge (tgt := 28) hx hb dX2_leastAlone_5 (by decide) (fun c1 => ?_) (fun c1 => ?_)
      · have c1i : (14 : Int) ≤ Int32.toInt y := (i3_le _ _).mp c1
        refine lv_bipush (v := 100) hx hb dX2_leastAlone_28 (by decide) ?_
        exact pc_iret (v := 100) (S := S) hx hb hr hlk hK hZ hA hW hS (⟨rfl, trivial⟩) dX2_leastAlone_30
      · have c1i : ¬ ((14 : Int) ≤ Int32.toInt y) := fun h9 => c1 ((i3_le _ _).mpr h9)
        refine lv_aload_n hx hb dX2_leastAlone_8 rfl (lv_at hl 0 rfl) ?_
        refine lv_iload_n hx hb dX2_leastAlone_9 rfl (lv_at hl 1 rfl) ?_
        refine lv_iload_n hx hb dX2_leastAlone_10 rfl (lv_at hl 2 rfl) ?_
        refine pc_Vi (As := [.int a, .int y]) (rest := []) F (b_X2_canGo l D cy A S h a y hG hk) (cwV 2 hts gX2_leastAlone_X2_canGo rfl rfl rfl (by decide +kernel) ⟨Nat.le_of_ble_eq_true rfl, Nat.le_of_ble_eq_true rfl⟩) hK hZ hA hW hS hk (by decide) rfl rfl hl.1 rfl (Nat.le_of_ble_eq_true rfl) dX2_leastAlone_11 ⟨Nat.le_of_ble_eq_true rfl, Nat.le_of_ble_eq_true rfl⟩ (fun v2 T3 H locs p4 hW hS => ?_)
        obtain ⟨eT3, p4⟩ := p4
        rw [eT3] at hW
        clear eT3
        refine lv_if_eq (tgt := 22) hx hb dX2_leastAlone_14 (by decide) (fun c5 => ?_) (fun c5 => ?_)
        · have c5i : Int32.toInt v2 = (0 : Int) := (i3_eq _ _).mp c5
          refine lv_iinc (v := y + 1) (lv' := [(2, .int (y + 1)), (0, .ref h), (1, .int a)]) hx hb dX2_leastAlone_22 hl (k := 2) rfl rfl (by decide) rfl (fun ls hl => ?_)
          have i6 : (y + 1).toInt = (y).toInt + 1 := i3_add rfl rfl (by omega) (by omega)
          refine lv_goto (tgt := 2) hx hb dX2_leastAlone_25 (by decide) ?_
          exact ih2 (y + 1) _ _ ls (by omega) (by omega) hW hS (lv_cast (lv_sub hl [1, 2, 0] rfl) (rfl))
        · have c5i : ¬ (Int32.toInt v2 = (0 : Int)) := fun h9 => c5 ((i3_eq _ _).mpr h9)
          refine lv_iload_n hx hb dX2_leastAlone_17 rfl (lv_at hl 2 rfl) ?_
          refine pc_Si (As := [.int y]) (rest := []) F (b_X2_costOf l D cy A S y ) (va_cwS 1 hts gX2_leastAlone_X2_costOf rfl rfl rfl (by decide +kernel) ⟨Nat.le_of_ble_eq_true rfl, Nat.le_of_ble_eq_true rfl⟩) hK hZ hA hW hS rfl hl.1 rfl (Nat.le_of_ble_eq_true rfl) dX2_leastAlone_18 ⟨Nat.le_of_ble_eq_true rfl, Nat.le_of_ble_eq_true rfl⟩ (fun v7 T8 H locs p9 hW hS => ?_)
          obtain ⟨eT8, p9⟩ := p9
          rw [eT8] at hW
          clear eT8
          exact pc_iret (v := v7) (S := S) hx hb hr hlk hK hZ hA hW hS (⟨rfl, trivial⟩) dX2_leastAlone_21
  exact loop2 _ 0 _ _ ls (by decide) (Nat.lt_succ_self _) hW hS (lv_cast (lv_sub hl [1, 2, 0] rfl) (rfl))
set_option maxHeartbeats 4000000 in
set_option maxRecDepth 100000 in
theorem b_X2_keepBest (l : Launch) (D : va_G) (cy : Nat → ClassId) (A : Nat → Prop) (S : St) (h : Nat) (a : Int32) (hG0 : G S) (hk : sK S h = 2) : MV l yX2_keepBest wsX2_keepBest ({ frames := 1, cells := 0, slots := 0, locals := 60 } : Room) 0 0 D cy A [.ref h, .int a] S (fun S1 => G S1 ∧ Fr [] [207, 1100] S S1 ∧ True) := by
  refine mt_start (cc := cX2_keepBest) (maxL := 2) (ret := none) (by decide) rfl (Nat.le_of_ble_eq_true rfl) ?_
  intro p e s m args below meth c hx hb hr hlk hml hown hnm hts hK hZ hA hW hS ls hl
  have hl : lv_has ls 2 [(0, .ref h), (1, .int a)] := hl
  have hown : s.vm.findClass RX2 = some m.cls := hown
  have F : CallFix p m c cX2_keepBest 2 s args wsX2_keepBest RX2 := ⟨hx, hb, hml, hown, hts⟩
  have wi2 : ∀ w ∈ u_ws RX2 TX2 10, w ∈ wsX2_keepBest := by decide +kernel
  have hG := hG0
  have hF : Fr [] [207, 1100] S S := Fr.rf _ _ _
  refine lv_iload_n hx hb dX2_keepBest_0 rfl (lv_at hl 1 rfl) ?_
  refine lv_aload_n hx hb dX2_keepBest_1 rfl (lv_at hl 0 rfl) ?_
  refine pg_gi (ci := 2) (C := RX2) (T := TX2) (N := 10) hx hb hts wi2 hown hK hW hk (by decide) rfl 7 (by decide) (hts (.fieldLink RX2 48 "IceHall$Mover" "bestCost" "I") (by decide +kernel)) (fun _ h9 => h9) rfl dX2_keepBest_2 ?_
  refine lv_icmp_ge (tgt := 27) hx hb dX2_keepBest_5 (by decide) (fun c1 => ?_) (fun c1 => ?_)
  · have c1i : Int32.toInt (sI S h 7) ≤ Int32.toInt a := (i3_le _ _).mp c1
    exact pc_vret (S := S) hx hb hr hlk hK hZ hA hW hS (⟨hG, hF, trivial⟩) dX2_keepBest_27
  · have c1i : ¬ (Int32.toInt (sI S h 7) ≤ Int32.toInt a) := fun h9 => c1 ((i3_le _ _).mpr h9)
    refine lv_aload_n hx hb dX2_keepBest_8 rfl (lv_at hl 0 rfl) ?_
    refine lv_iload_n hx hb dX2_keepBest_9 rfl (lv_at hl 1 rfl) ?_
    refine pg_pi (ci := 2) (C := RX2) (T := TX2) (N := 10) hx hb hts wi2 tyX2 tyX2_ok nmX2 hown hK hW hS hk (by decide) rfl 7 (by decide) (hts (.fieldLink RX2 48 "IceHall$Mover" "bestCost" "I") (by decide +kernel)) (fun _ h9 => h9) rfl rfl rfl dX2_keepBest_10 (fun H locs hW hS => ?_)
    obtain ⟨S2, eS2⟩ : ∃ T : St, T = stI S h 7 a := ⟨_, rfl⟩
    rw [← eS2] at hW
    have hG : G S2 := by rw [eS2]; exact hG.I hk (ok_fr (by decide))
    have hF : Fr [] [207, 1100] S S2 := by rw [eS2]; exact hF.I hk (by decide)
    clear eS2
    refine lv_aload_n hx hb dX2_keepBest_13 rfl (lv_at hl 0 rfl) ?_
    obtain ⟨b3, rb3, kb3, nb3⟩ := hG0.r hk List.not_mem_nil 3 (show rty 2 3 = some (11, 5) from rfl)
    refine pg_gr (b := b3) (ci := 2) (C := RX2) (T := TX2) (N := 10) hx hb hts wi2 hown hK hW (hF.k hk (by decide)) (by decide) rfl 3 (by decide) (hts (.fieldLink RX2 17 "IceHall$Mover" "row" "[I") (by decide +kernel)) (fun _ h9 => h9) rfl (hF.r hk (by decide) rb3) dX2_keepBest_14 ?_
    refine lv_iconst (v := 0) hx hb dX2_keepBest_17 (by decide) ?_
    refine lv_aload_n hx hb dX2_keepBest_18 rfl (lv_at hl 0 rfl) ?_
    obtain ⟨b4, rb4, kb4, nb4⟩ := hG0.r hk List.not_mem_nil 4 (show rty 2 4 = some (11, 5) from rfl)
    refine pg_gr (b := b4) (ci := 2) (C := RX2) (T := TX2) (N := 10) hx hb hts wi2 hown hK hW (hF.k hk (by decide)) (by decide) rfl 4 (by decide) (hts (.fieldLink RX2 21 "IceHall$Mover" "bestRow" "[I") (by decide +kernel)) (fun _ h9 => h9) rfl (hF.r hk (by decide) rb4) dX2_keepBest_19 ?_
    refine lv_iconst (v := 0) hx hb dX2_keepBest_22 (by decide) ?_
    refine lv_iconst (v := 5) hx hb dX2_keepBest_23 (by decide) ?_
    have kq5 : sK S2 b4 = 11 := (hF.k kb4 (by decide))
    have kq6 : sK S2 b3 = 11 := (hF.k kb3 (by decide))
    refine pg_copyi hx hb (by rw [hml]; exact hl.1.symm) hown (hts (.methodLink RX2 98 arraycopyName) (by decide +kernel)) (hts (.native arraycopyName) (by decide +kernel)) (hts (.static arraycopyName) (by decide +kernel)) (hts (.initialized "java/lang/System") (by decide +kernel)) hK hW hS kq6 kq5 (by decide) (by decide) (by decide) (by rw [show sL S2 b3 = 5 from (hF.n kb3 (by decide) nb3)]; decide) (by rw [show sL S2 b4 = 5 from (hF.n kb4 (by decide) nb4)]; decide) (Nat.le_of_ble_eq_true rfl) (Nat.le_of_ble_eq_true rfl) dX2_keepBest_24 (fun f9 H locs hW hS => ?_)
    obtain ⟨S7, eS7⟩ : ∃ T : St, T = stW S2 b4 f9 := ⟨_, rfl⟩
    rw [← eS7] at hW
    have hG : G S7 := by rw [eS7]; exact hG.W kq5 (by decide) (by decide)
    have hF : Fr [] [207, 1100] S S7 := by rw [eS7]; exact hF.W kq5 (by decide) (by decide)
    clear eS7
    exact pc_vret (S := S7) hx hb hr hlk hK hZ hA hW hS (⟨hG, hF, trivial⟩) dX2_keepBest_27
set_option maxHeartbeats 4000000 in
set_option maxRecDepth 100000 in
theorem b_X2_searchFrom_0 (l : Launch) (D : va_G) (cy : Nat → ClassId) (A : Nat → Prop) (S : St) (h : Nat) (a b : Int32) (hG0 : G S) (hk : sK S h = 2) (ha : 5 ≤ a.toInt) (ha5 : a.toInt ≤ 5) : MV l yX2_searchFrom wsX2_searchFrom ({ frames := 4, cells := 0, slots := 0, locals := 89 } : Room) 0 0 D cy A [.ref h, .int a, .int b] S (fun S1 => G S1 ∧ Fr [] [207, 1100] S S1 ∧ True) := by
  refine mt_start (cc := cX2_searchFrom) (maxL := 7) (ret := none) (by decide) rfl (Nat.le_of_ble_eq_true rfl) ?_
  intro p e s m args below meth c hx hb hr hlk hml hown hnm hts hK hZ hA hW hS ls hl
  have hl : lv_has ls 7 [(0, .ref h), (1, .int a), (2, .int b)] := hl
  have hown : s.vm.findClass RX2 = some m.cls := hown
  have F : CallFix p m c cX2_searchFrom 7 s args wsX2_searchFrom RX2 := ⟨hx, hb, hml, hown, hts⟩
  have wi2 : ∀ w ∈ u_ws RX2 TX2 10, w ∈ wsX2_searchFrom := by decide +kernel
  have hG := hG0
  have hF : Fr [] [207, 1100] S S := Fr.rf _ _ _
  refine lv_iload_n hx hb dX2_searchFrom_0 rfl (lv_at hl 1 rfl) ?_
  refine lv_aload_n hx hb dX2_searchFrom_1 rfl (lv_at hl 0 rfl) ?_
  refine pg_gi (ci := 2) (C := RX2) (T := TX2) (N := 10) hx hb hts wi2 hown hK hW hk (by decide) rfl 6 (by decide) (hts (.fieldLink RX2 34 "IceHall$Mover" "size" "I") (by decide +kernel)) (fun _ h9 => h9) rfl dX2_searchFrom_2 ?_
  refine lv_icmp_ge (tgt := 13) hx hb dX2_searchFrom_5 (by decide) (fun c1 => ?_) (fun c1 => ?_)
  · have c1i : Int32.toInt (sI S h 6) ≤ Int32.toInt a := (i3_le _ _).mp c1
    refine lv_aload_n hx hb dX2_searchFrom_13 rfl (lv_at hl 0 rfl) ?_
    refine lv_iload_n hx hb dX2_searchFrom_14 rfl (lv_at hl 2 rfl) ?_
    refine pc_Vv (As := [.int b]) (rest := []) F (b_X2_keepBest l D cy A S h b hG hk) (cwV 1 hts gX2_searchFrom_X2_keepBest rfl rfl rfl (by decide +kernel) ⟨Nat.le_of_ble_eq_true rfl, Nat.le_of_ble_eq_true rfl⟩) hK hZ hA hW hS hk (by decide) rfl rfl hl.1 rfl (Nat.le_of_ble_eq_true rfl) dX2_searchFrom_15 ⟨Nat.le_of_ble_eq_true rfl, Nat.le_of_ble_eq_true rfl⟩ (fun T3 H locs p4 hW hS => ?_)
    obtain ⟨hG, hFc, p4⟩ := p4
    have hF : Fr [] [207, 1100] S T3 := hF.tr (hFc.mono (by decide))
    exact pc_vret (S := T3) hx hb hr hlk hK hZ hA hW hS (⟨hG, hF, trivial⟩) dX2_searchFrom_18
  · have c1i : ¬ (Int32.toInt (sI S h 6) ≤ Int32.toInt a) := fun h9 => c1 ((i3_le _ _).mpr h9)
    refine lv_iload_n hx hb dX2_searchFrom_8 rfl (lv_at hl 1 rfl) ?_
    refine lv_iconst (v := 5) hx hb dX2_searchFrom_9 (by decide) ?_
    refine lv_icmp_lt (tgt := 19) hx hb dX2_searchFrom_10 (by decide) (fun c5 => absurd c5 (by intro h9; have h8 : a.toInt < (5 : Int) := (i3_lt _ _).mp h9; omega)) (fun c5 => ?_)
    refine lv_aload_n hx hb dX2_searchFrom_13 rfl (lv_at hl 0 rfl) ?_
    refine lv_iload_n hx hb dX2_searchFrom_14 rfl (lv_at hl 2 rfl) ?_
    refine pc_Vv (As := [.int b]) (rest := []) F (b_X2_keepBest l D cy A S h b hG hk) (cwV 1 hts gX2_searchFrom_X2_keepBest rfl rfl rfl (by decide +kernel) ⟨Nat.le_of_ble_eq_true rfl, Nat.le_of_ble_eq_true rfl⟩) hK hZ hA hW hS hk (by decide) rfl rfl hl.1 rfl (Nat.le_of_ble_eq_true rfl) dX2_searchFrom_15 ⟨Nat.le_of_ble_eq_true rfl, Nat.le_of_ble_eq_true rfl⟩ (fun T7 H locs p8 hW hS => ?_)
    obtain ⟨hG, hFc, p8⟩ := p8
    have hF : Fr [] [207, 1100] S T7 := hF.tr (hFc.mono (by decide))
    exact pc_vret (S := T7) hx hb hr hlk hK hZ hA hW hS (⟨hG, hF, trivial⟩) dX2_searchFrom_18
set_option maxHeartbeats 4000000 in
set_option maxRecDepth 100000 in
theorem b_X2_searchFrom_1 (l : Launch) (D : va_G) (cy : Nat → ClassId) (A : Nat → Prop) (S : St) (h : Nat) (a b : Int32) (hG0 : G S) (hk : sK S h = 2) (ha : 4 ≤ a.toInt) (ha5 : a.toInt ≤ 5) : MV l yX2_searchFrom wsX2_searchFrom ({ frames := 5, cells := 0, slots := 0, locals := 115 } : Room) 0 0 D cy A [.ref h, .int a, .int b] S (fun S1 => G S1 ∧ Fr [] [207, 1100] S S1 ∧ True) := by
  refine mt_start (cc := cX2_searchFrom) (maxL := 7) (ret := none) (by decide) rfl (Nat.le_of_ble_eq_true rfl) ?_
  intro p e s m args below meth c hx hb hr hlk hml hown hnm hts hK hZ hA hW hS ls hl
  have hl : lv_has ls 7 [(0, .ref h), (1, .int a), (2, .int b)] := hl
  have hown : s.vm.findClass RX2 = some m.cls := hown
  have F : CallFix p m c cX2_searchFrom 7 s args wsX2_searchFrom RX2 := ⟨hx, hb, hml, hown, hts⟩
  have wi1 : ∀ w ∈ u_ws RX1 TX1 10, w ∈ wsX2_searchFrom := by decide +kernel
  have wi2 : ∀ w ∈ u_ws RX2 TX2 10, w ∈ wsX2_searchFrom := by decide +kernel
  have hG := hG0
  have hF : Fr [] [207, 1100] S S := Fr.rf _ _ _
  refine lv_iload_n hx hb dX2_searchFrom_0 rfl (lv_at hl 1 rfl) ?_
  refine lv_aload_n hx hb dX2_searchFrom_1 rfl (lv_at hl 0 rfl) ?_
  refine pg_gi (ci := 2) (C := RX2) (T := TX2) (N := 10) hx hb hts wi2 hown hK hW hk (by decide) rfl 6 (by decide) (hts (.fieldLink RX2 34 "IceHall$Mover" "size" "I") (by decide +kernel)) (fun _ h9 => h9) rfl dX2_searchFrom_2 ?_
  refine lv_icmp_ge (tgt := 13) hx hb dX2_searchFrom_5 (by decide) (fun c1 => ?_) (fun c1 => ?_)
  · have c1i : Int32.toInt (sI S h 6) ≤ Int32.toInt a := (i3_le _ _).mp c1
    refine lv_aload_n hx hb dX2_searchFrom_13 rfl (lv_at hl 0 rfl) ?_
    refine lv_iload_n hx hb dX2_searchFrom_14 rfl (lv_at hl 2 rfl) ?_
    refine pc_Vv (As := [.int b]) (rest := []) F (b_X2_keepBest l D cy A S h b hG hk) (cwV 1 hts gX2_searchFrom_X2_keepBest rfl rfl rfl (by decide +kernel) ⟨Nat.le_of_ble_eq_true rfl, Nat.le_of_ble_eq_true rfl⟩) hK hZ hA hW hS hk (by decide) rfl rfl hl.1 rfl (Nat.le_of_ble_eq_true rfl) dX2_searchFrom_15 ⟨Nat.le_of_ble_eq_true rfl, Nat.le_of_ble_eq_true rfl⟩ (fun T3 H locs p4 hW hS => ?_)
    obtain ⟨hG, hFc, p4⟩ := p4
    have hF : Fr [] [207, 1100] S T3 := hF.tr (hFc.mono (by decide))
    exact pc_vret (S := T3) hx hb hr hlk hK hZ hA hW hS (⟨hG, hF, trivial⟩) dX2_searchFrom_18
  · have c1i : ¬ (Int32.toInt (sI S h 6) ≤ Int32.toInt a) := fun h9 => c1 ((i3_le _ _).mpr h9)
    refine lv_iload_n hx hb dX2_searchFrom_8 rfl (lv_at hl 1 rfl) ?_
    refine lv_iconst (v := 5) hx hb dX2_searchFrom_9 (by decide) ?_
    refine lv_icmp_lt (tgt := 19) hx hb dX2_searchFrom_10 (by decide) (fun c5 => ?_) (fun c5 => ?_)
    · have c5i : Int32.toInt a < (5 : Int) := (i3_lt _ _).mp c5
      refine lv_iconst (v := 0) hx hb dX2_searchFrom_19 (by decide) ?_
      refine lv_istore_n (lv' := [(3, .int 0), (0, .ref h), (1, .int a), (2, .int b)]) hx hb dX2_searchFrom_20 rfl hl (by decide) rfl (fun ls hl => ?_)
      have loop21 : ∀ (zn : Nat) (y : Int32) (L21 : St) (H : Heap) (locs : List Loc) (ls : Array Slot), (G L21) → (Fr [] [207, 1100] S L21) → (0 ≤ y.toInt) → (15 - y.toInt).toNat < zn → PW D cy A L21 H → va_S A s.heap H locs → lv_has ls 7 [(0, .ref h), (1, .int a), (2, .int b), (3, .int y)] → W p l e ({ frames := 5, cells := 0, slots := 0, locals := 115 } : Room) s m args below meth c H locs 0 0 (MQ below (va_Qv (fun S1 => G S1 ∧ Fr [] [207, 1100] S S1 ∧ True) (PU D cy A) A) args s 0 0 A) (F0 m 21 ls []) := by
        intro zn
        induction zn with
        | zero => intros; exact absurd (by assumption) (Nat.not_lt_zero _)
        | succ zn ih21 =>
          intro y L21 H locs ls hG hL21 hy0 hme hW hS hl
          have hF := hL21
          refine lv_iload_n hx hb dX2_searchFrom_21 rfl (lv_at hl 3 rfl) ?_
          refine lv_bipush (v := 14) hx hb dX2_searchFrom_22 (by decide) ?_
          refine lv_icmp_gt (tgt := 135) hx hb dX2_searchFrom_24 (by decide) (fun c6 => ?_) (fun c6 => ?_)
          · have c6i : (14 : Int) < Int32.toInt y := (i3_lt _ _).mp c6
            exact pc_vret (S := L21) hx hb hr hlk hK hZ hA hW hS (⟨hG, hF, trivial⟩) dX2_searchFrom_135
          · have c6i : ¬ ((14 : Int) < Int32.toInt y) := fun h9 => c6 ((i3_lt _ _).mpr h9)
            refine lv_iload_n hx hb dX2_searchFrom_27 rfl (lv_at hl 2 rfl) ?_
            refine lv_iload_n hx hb dX2_searchFrom_28 rfl (lv_at hl 3 rfl) ?_
            refine pc_Si (As := [.int y]) (rest := [.int b]) F (b_X2_costOf l D cy A L21 y ) (va_cwS 1 hts gX2_searchFrom_X2_costOf rfl rfl rfl (by decide +kernel) ⟨Nat.le_of_ble_eq_true rfl, Nat.le_of_ble_eq_true rfl⟩) hK hZ hA hW hS rfl hl.1 rfl (Nat.le_of_ble_eq_true rfl) dX2_searchFrom_29 ⟨Nat.le_of_ble_eq_true rfl, Nat.le_of_ble_eq_true rfl⟩ (fun v7 T8 H locs p9 hW hS => ?_)
            obtain ⟨eT8, p9⟩ := p9
            rw [eT8] at hW
            clear eT8
            refine lv_iadd hx hb dX2_searchFrom_32 ?_
            refine lv_istore (lv' := [(4, .int (b + v7)), (0, .ref h), (1, .int a), (2, .int b), (3, .int y)]) hx hb dX2_searchFrom_33 hl (by decide) rfl (fun ls hl => ?_)
            refine lv_iload hx hb dX2_searchFrom_35 (lv_at hl 0 rfl) ?_
            refine lv_aload_n hx hb dX2_searchFrom_37 rfl (lv_at hl 1 rfl) ?_
            obtain ⟨b10, rb10, kb10, nb10⟩ := hG0.r hk List.not_mem_nil 5 (show rty 2 5 = some (11, 6) from rfl)
            refine pg_gr (b := b10) (ci := 2) (C := RX2) (T := TX2) (N := 10) hx hb hts wi2 hown hK hW (hF.k hk (by decide)) (by decide) rfl 5 (by decide) (hts (.fieldLink RX2 24 "IceHall$Mover" "leastFrom" "[I") (by decide +kernel)) (fun _ h9 => h9) rfl (hF.r hk (by decide) rb10) dX2_searchFrom_38 ?_
            refine lv_iload_n hx hb dX2_searchFrom_41 rfl (lv_at hl 2 rfl) ?_
            refine lv_iconst (v := 1) hx hb dX2_searchFrom_42 (by decide) ?_
            refine lv_iadd hx hb dX2_searchFrom_43 ?_
            have ha1 : (a + 1).toInt = a.toInt + 1 := i3_add rfl rfl (by omega) (by omega)
            refine pg_iald hx hb hK hW (hF.k kb10 (by decide)) (by decide) (by rw [show sL L21 b10 = 6 from (hF.n kb10 (by decide) nb10)]; exact r_in (by omega)) dX2_searchFrom_44 ?_
            refine lv_iadd hx hb dX2_searchFrom_45 ?_
            refine lv_aload_n hx hb dX2_searchFrom_46 rfl (lv_at hl 1 rfl) ?_
            refine pg_gi (ci := 2) (C := RX2) (T := TX2) (N := 10) hx hb hts wi2 hown hK hW (hF.k hk (by decide)) (by decide) rfl 7 (by decide) (hts (.fieldLink RX2 48 "IceHall$Mover" "bestCost" "I") (by decide +kernel)) (fun _ h9 => h9) rfl dX2_searchFrom_47 ?_
            refine lv_icmp_lt (tgt := 54) hx hb dX2_searchFrom_50 (by decide) (fun c11 => ?_) (fun c11 => ?_)
            · have c11i : Int32.toInt ((b + v7) + (sI L21 b10 (Int32.toNatClampNeg (a + 1)))) < Int32.toInt (sI L21 h 7) := (i3_lt _ _).mp c11
              refine lv_aload_n hx hb dX2_searchFrom_54 rfl (lv_at hl 1 rfl) ?_
              obtain ⟨b12, rb12, kb12, nb12⟩ := hG0.r hk List.not_mem_nil 3 (show rty 2 3 = some (11, 5) from rfl)
              refine pg_gr (b := b12) (ci := 2) (C := RX2) (T := TX2) (N := 10) hx hb hts wi2 hown hK hW (hF.k hk (by decide)) (by decide) rfl 3 (by decide) (hts (.fieldLink RX2 17 "IceHall$Mover" "row" "[I") (by decide +kernel)) (fun _ h9 => h9) rfl (hF.r hk (by decide) rb12) dX2_searchFrom_55 ?_
              refine lv_iload_n hx hb dX2_searchFrom_58 rfl (lv_at hl 2 rfl) ?_
              refine lv_iload_n hx hb dX2_searchFrom_59 rfl (lv_at hl 4 rfl) ?_
              refine pg_iast hx hb hK hW hS (hF.k kb12 (by decide)) (by decide) (by rw [show sL L21 b12 = 5 from (hF.n kb12 (by decide) nb12)]; exact r_in (by omega)) dX2_searchFrom_60 (fun H locs hW hS => ?_)
              have kq13 : sK L21 b12 = 11 := (hF.k kb12 (by decide))
              obtain ⟨S14, eS14⟩ : ∃ T : St, T = stI L21 b12 (Int32.toNatClampNeg a) y := ⟨_, rfl⟩
              rw [← eS14] at hW
              have hG : G S14 := by rw [eS14]; exact hG.I kq13 (ok_frA (by decide) (by decide))
              have hF : Fr [] [207, 1100] S S14 := by rw [eS14]; exact hF.IA kq13 (by decide) (by decide)
              clear eS14
              refine lv_iload_n hx hb dX2_searchFrom_61 rfl (lv_at hl 4 rfl) ?_
              refine lv_bipush (v := 14) hx hb dX2_searchFrom_62 (by decide) ?_
              refine lv_icmp_ne (tgt := 79) hx hb dX2_searchFrom_64 (by decide) (fun c15 => ?_) (fun c15 => ?_)
              · have c15i : ¬ (Int32.toInt y = (14 : Int)) := fun h9 => c15 ((i3_eq _ _).mpr h9)
                refine lv_aload_n hx hb dX2_searchFrom_79 rfl (lv_at hl 1 rfl) ?_
                refine lv_iload_n hx hb dX2_searchFrom_80 rfl (lv_at hl 2 rfl) ?_
                refine lv_iload_n hx hb dX2_searchFrom_81 rfl (lv_at hl 4 rfl) ?_
                refine pc_Vi (As := [.int a, .int y]) (rest := []) F (b_X2_canGo l D cy A S14 h a y hG (hF.k hk (by decide))) (cwV 2 hts gX2_searchFrom_X2_canGo rfl rfl rfl (by decide +kernel) ⟨Nat.le_of_ble_eq_true rfl, Nat.le_of_ble_eq_true rfl⟩) hK hZ hA hW hS (hF.k hk (by decide)) (by decide) rfl rfl hl.1 rfl (Nat.le_of_ble_eq_true rfl) dX2_searchFrom_82 ⟨Nat.le_of_ble_eq_true rfl, Nat.le_of_ble_eq_true rfl⟩ (fun v16 T17 H locs p18 hW hS => ?_)
                obtain ⟨eT17, p18⟩ := p18
                rw [eT17] at hW
                clear eT17
                refine lv_if_eq (tgt := 129) hx hb dX2_searchFrom_85 (by decide) (fun c19 => ?_) (fun c19 => ?_)
                · have c19i : Int32.toInt v16 = (0 : Int) := (i3_eq _ _).mp c19
                  refine lv_iinc (v := y + 1) (lv' := [(3, .int (y + 1)), (4, .int (b + v7)), (0, .ref h), (1, .int a), (2, .int b)]) hx hb dX2_searchFrom_129 hl (k := 4) rfl rfl (by decide) rfl (fun ls hl => ?_)
                  have i20 : (y + 1).toInt = (y).toInt + 1 := i3_add rfl rfl (by omega) (by omega)
                  refine lv_goto (tgt := 21) hx hb dX2_searchFrom_132 (by decide) ?_
                  exact ih21 (y + 1) S14 _ _ ls hG hF (by omega) (by omega) hW hS (lv_cast (lv_sub hl [2, 3, 4, 0] rfl) (rfl))
                · have c19i : ¬ (Int32.toInt v16 = (0 : Int)) := fun h9 => c19 ((i3_eq _ _).mpr h9)
                  refine lv_aload_n hx hb dX2_searchFrom_88 rfl (lv_at hl 1 rfl) ?_
                  refine lv_iload_n hx hb dX2_searchFrom_89 rfl (lv_at hl 4 rfl) ?_
                  refine pc_Vq (As := [.int y]) (rest := []) F (b_X2_iceOfWay l D cy A S14 h y hG (hF.k hk (by decide))) (cwV 1 hts gX2_searchFrom_X2_iceOfWay rfl rfl rfl (by decide +kernel) ⟨Nat.le_of_ble_eq_true rfl, Nat.le_of_ble_eq_true rfl⟩) hK hZ hA hW hS (hF.k hk (by decide)) (by decide) rfl rfl hl.1 rfl (Nat.le_of_ble_eq_true rfl) dX2_searchFrom_90 ⟨Nat.le_of_ble_eq_true rfl, Nat.le_of_ble_eq_true rfl⟩ (fun v21 T22 H locs p23 hW hS => ?_)
                  obtain ⟨eT22, p23⟩ := p23
                  rw [eT22] at hW
                  have hE25 : Fr [] [207, 1100] S14 S14 := Fr.rf _ _ _
                  obtain ⟨b24, erb24, kb24⟩ := p23
                  rw [erb24]
                  obtain ⟨b26, rb26, kb26, nb26⟩ := hG.r kb24 List.not_mem_nil 0 (show rty 1 0 = some (0, 0) from rfl)
                  refine pg_gr (b := b26) (ci := 1) (C := RX1) (T := TX1) (N := 10) hx hb hts wi1 hown hK hW kb24 (by decide) rfl 0 (by decide) (hts (.fieldLink RX2 70 "IceHall$Ice" "taken" "LIceHall$HourSet;") (by decide +kernel)) (fun _ h9 => h9) rfl rb26 dX2_searchFrom_93 ?_
                  refine lv_astore (lv' := [(5, .ref b26), (4, .int (b + v7)), (0, .ref h), (1, .int a), (2, .int b), (3, .int y)]) hx hb dX2_searchFrom_96 hl (by decide) rfl (fun ls hl => ?_)
                  refine lv_aload_n hx hb dX2_searchFrom_98 rfl (lv_at hl 2 rfl) ?_
                  refine lv_iload_n hx hb dX2_searchFrom_99 rfl (lv_at hl 3 rfl) ?_
                  refine lv_iload_n hx hb dX2_searchFrom_100 rfl (lv_at hl 5 rfl) ?_
                  refine pc_Vi (As := [.int a, .int y]) (rest := []) F (b_X2_hourOf l D cy A S14 h a y hG (hF.k hk (by decide))) (cwV 2 hts gX2_searchFrom_X2_hourOf rfl rfl rfl (by decide +kernel) ⟨Nat.le_of_ble_eq_true rfl, Nat.le_of_ble_eq_true rfl⟩) hK hZ hA hW hS (hF.k hk (by decide)) (by decide) rfl rfl hl.1 rfl (Nat.le_of_ble_eq_true rfl) dX2_searchFrom_101 ⟨Nat.le_of_ble_eq_true rfl, Nat.le_of_ble_eq_true rfl⟩ (fun v27 T28 H locs p29 hW hS => ?_)
                  obtain ⟨eT28, p29⟩ := p29
                  rw [eT28] at hW
                  clear eT28
                  refine lv_istore (lv' := [(6, .int v27), (5, .ref b26), (4, .int (b + v7)), (0, .ref h), (1, .int a), (2, .int b), (3, .int y)]) hx hb dX2_searchFrom_104 hl (by decide) rfl (fun ls hl => ?_)
                  refine lv_aload hx hb dX2_searchFrom_106 (lv_at hl 1 rfl) ?_
                  refine lv_iload hx hb dX2_searchFrom_108 (lv_at hl 0 rfl) ?_
                  refine pc_Vv (As := [.int v27]) (rest := []) F (b_X0_put l D cy A S14 b26 v27 hG kb26) (cwV 1 hts gX2_searchFrom_X0_put rfl rfl rfl (by decide +kernel) ⟨Nat.le_of_ble_eq_true rfl, Nat.le_of_ble_eq_true rfl⟩) hK hZ hA hW hS kb26 (by decide) rfl rfl hl.1 rfl (Nat.le_of_ble_eq_true rfl) dX2_searchFrom_110 ⟨Nat.le_of_ble_eq_true rfl, Nat.le_of_ble_eq_true rfl⟩ (fun T31 H locs p32 hW hS => ?_)
                  obtain ⟨hG, hFc, p32⟩ := p32
                  have hF : Fr [] [207, 1100] S T31 := hF.tr (hFc.mono (by decide))
                  have hE25 : Fr [] [207, 1100] S14 T31 := hE25.tr (hFc.mono (by decide))
                  refine lv_aload_n hx hb dX2_searchFrom_113 rfl (lv_at hl 3 rfl) ?_
                  refine lv_iload_n hx hb dX2_searchFrom_114 rfl (lv_at hl 4 rfl) ?_
                  refine lv_iconst (v := 1) hx hb dX2_searchFrom_115 (by decide) ?_
                  refine lv_iadd hx hb dX2_searchFrom_116 ?_
                  refine lv_iload hx hb dX2_searchFrom_117 (lv_at hl 2 rfl) ?_
                  refine pc_Sv (As := [.ref h, .int (a + 1), .int (b + v7)]) (rest := []) F (b_X2_searchFrom_0 l D cy A T31 h (a + 1) (b + v7) hG (hF.k hk (by decide)) (by omega) (by omega)) (va_cwS 3 hts gX2_searchFrom_X2_searchFrom rfl rfl rfl (by decide +kernel) ⟨Nat.le_of_ble_eq_true rfl, Nat.le_of_ble_eq_true rfl⟩) hK hZ hA hW hS rfl hl.1 rfl (Nat.le_of_ble_eq_true rfl) dX2_searchFrom_119 ⟨Nat.le_of_ble_eq_true rfl, Nat.le_of_ble_eq_true rfl⟩ (fun T34 H locs p35 hW hS => ?_)
                  obtain ⟨hG, hFc, p35⟩ := p35
                  have hF : Fr [] [207, 1100] S T34 := hF.tr (hFc.mono (by decide))
                  have hE25 : Fr [] [207, 1100] S14 T34 := hE25.tr (hFc.mono (by decide))
                  refine lv_aload hx hb dX2_searchFrom_122 (lv_at hl 1 rfl) ?_
                  refine lv_iload hx hb dX2_searchFrom_124 (lv_at hl 0 rfl) ?_
                  refine pc_Vv (As := [.int v27]) (rest := []) F (b_X0_drop l D cy A T34 b26 v27 hG (hE25.k kb26 (by decide))) (cwV 1 hts gX2_searchFrom_X0_drop rfl rfl rfl (by decide +kernel) ⟨Nat.le_of_ble_eq_true rfl, Nat.le_of_ble_eq_true rfl⟩) hK hZ hA hW hS (hE25.k kb26 (by decide)) (by decide) rfl rfl hl.1 rfl (Nat.le_of_ble_eq_true rfl) dX2_searchFrom_126 ⟨Nat.le_of_ble_eq_true rfl, Nat.le_of_ble_eq_true rfl⟩ (fun T37 H locs p38 hW hS => ?_)
                  obtain ⟨hG, hFc, p38⟩ := p38
                  have hF : Fr [] [207, 1100] S T37 := hF.tr (hFc.mono (by decide))
                  have hE25 : Fr [] [207, 1100] S14 T37 := hE25.tr (hFc.mono (by decide))
                  refine lv_iinc (v := y + 1) (lv' := [(3, .int (y + 1)), (6, .int v27), (5, .ref b26), (4, .int (b + v7)), (0, .ref h), (1, .int a), (2, .int b)]) hx hb dX2_searchFrom_129 hl (k := 6) rfl rfl (by decide) rfl (fun ls hl => ?_)
                  have i39 : (y + 1).toInt = (y).toInt + 1 := i3_add rfl rfl (by omega) (by omega)
                  refine lv_goto (tgt := 21) hx hb dX2_searchFrom_132 (by decide) ?_
                  exact ih21 (y + 1) T37 _ _ ls hG hF (by omega) (by omega) hW hS (lv_cast (lv_sub hl [4, 5, 6, 0] rfl) (rfl))
              · have c15i : Int32.toInt y = (14 : Int) := (i3_eq _ _).mp c15
                refine lv_aload_n hx hb dX2_searchFrom_67 rfl (lv_at hl 1 rfl) ?_
                refine lv_iload_n hx hb dX2_searchFrom_68 rfl (lv_at hl 2 rfl) ?_
                refine lv_iconst (v := 1) hx hb dX2_searchFrom_69 (by decide) ?_
                refine lv_iadd hx hb dX2_searchFrom_70 ?_
                refine lv_iload hx hb dX2_searchFrom_71 (lv_at hl 0 rfl) ?_
                refine pc_Sv (As := [.ref h, .int (a + 1), .int (b + v7)]) (rest := []) F (b_X2_searchFrom_0 l D cy A S14 h (a + 1) (b + v7) hG (hF.k hk (by decide)) (by omega) (by omega)) (va_cwS 3 hts gX2_searchFrom_X2_searchFrom rfl rfl rfl (by decide +kernel) ⟨Nat.le_of_ble_eq_true rfl, Nat.le_of_ble_eq_true rfl⟩) hK hZ hA hW hS rfl hl.1 rfl (Nat.le_of_ble_eq_true rfl) dX2_searchFrom_73 ⟨Nat.le_of_ble_eq_true rfl, Nat.le_of_ble_eq_true rfl⟩ (fun T41 H locs p42 hW hS => ?_)
                obtain ⟨hG, hFc, p42⟩ := p42
                have hF : Fr [] [207, 1100] S T41 := hF.tr (hFc.mono (by decide))
                refine lv_goto (tgt := 129) hx hb dX2_searchFrom_76 (by decide) ?_
                refine lv_iinc (v := y + 1) (lv' := [(3, .int (y + 1)), (4, .int (b + v7)), (0, .ref h), (1, .int a), (2, .int b)]) hx hb dX2_searchFrom_129 hl (k := 4) rfl rfl (by decide) rfl (fun ls hl => ?_)
                have i43 : (y + 1).toInt = (y).toInt + 1 := i3_add rfl rfl (by omega) (by omega)
                refine lv_goto (tgt := 21) hx hb dX2_searchFrom_132 (by decide) ?_
                exact ih21 (y + 1) T41 _ _ ls hG hF (by omega) (by omega) hW hS (lv_cast (lv_sub hl [2, 3, 4, 0] rfl) (rfl))
            · have c11i : ¬ (Int32.toInt ((b + v7) + (sI L21 b10 (Int32.toNatClampNeg (a + 1)))) < Int32.toInt (sI L21 h 7)) := fun h9 => c11 ((i3_lt _ _).mpr h9)
              exact pc_vret (S := L21) hx hb hr hlk hK hZ hA hW hS (⟨hG, hF, trivial⟩) dX2_searchFrom_53
      exact loop21 _ 0 S _ _ ls hG hF (by decide) (Nat.lt_succ_self _) hW hS (lv_cast (lv_sub hl [1, 2, 3, 0] rfl) (rfl))
    · have c5i : ¬ (Int32.toInt a < (5 : Int)) := fun h9 => c5 ((i3_lt _ _).mpr h9)
      refine lv_aload_n hx hb dX2_searchFrom_13 rfl (lv_at hl 0 rfl) ?_
      refine lv_iload_n hx hb dX2_searchFrom_14 rfl (lv_at hl 2 rfl) ?_
      refine pc_Vv (As := [.int b]) (rest := []) F (b_X2_keepBest l D cy A S h b hG hk) (cwV 1 hts gX2_searchFrom_X2_keepBest rfl rfl rfl (by decide +kernel) ⟨Nat.le_of_ble_eq_true rfl, Nat.le_of_ble_eq_true rfl⟩) hK hZ hA hW hS hk (by decide) rfl rfl hl.1 rfl (Nat.le_of_ble_eq_true rfl) dX2_searchFrom_15 ⟨Nat.le_of_ble_eq_true rfl, Nat.le_of_ble_eq_true rfl⟩ (fun T45 H locs p46 hW hS => ?_)
      obtain ⟨hG, hFc, p46⟩ := p46
      have hF : Fr [] [207, 1100] S T45 := hF.tr (hFc.mono (by decide))
      exact pc_vret (S := T45) hx hb hr hlk hK hZ hA hW hS (⟨hG, hF, trivial⟩) dX2_searchFrom_18
set_option maxHeartbeats 4000000 in
set_option maxRecDepth 100000 in
theorem b_X2_searchFrom_2 (l : Launch) (D : va_G) (cy : Nat → ClassId) (A : Nat → Prop) (S : St) (h : Nat) (a b : Int32) (hG0 : G S) (hk : sK S h = 2) (ha : 3 ≤ a.toInt) (ha5 : a.toInt ≤ 5) : MV l yX2_searchFrom wsX2_searchFrom ({ frames := 6, cells := 0, slots := 0, locals := 141 } : Room) 0 0 D cy A [.ref h, .int a, .int b] S (fun S1 => G S1 ∧ Fr [] [207, 1100] S S1 ∧ True) := by
  refine mt_start (cc := cX2_searchFrom) (maxL := 7) (ret := none) (by decide) rfl (Nat.le_of_ble_eq_true rfl) ?_
  intro p e s m args below meth c hx hb hr hlk hml hown hnm hts hK hZ hA hW hS ls hl
  have hl : lv_has ls 7 [(0, .ref h), (1, .int a), (2, .int b)] := hl
  have hown : s.vm.findClass RX2 = some m.cls := hown
  have F : CallFix p m c cX2_searchFrom 7 s args wsX2_searchFrom RX2 := ⟨hx, hb, hml, hown, hts⟩
  have wi1 : ∀ w ∈ u_ws RX1 TX1 10, w ∈ wsX2_searchFrom := by decide +kernel
  have wi2 : ∀ w ∈ u_ws RX2 TX2 10, w ∈ wsX2_searchFrom := by decide +kernel
  have hG := hG0
  have hF : Fr [] [207, 1100] S S := Fr.rf _ _ _
  refine lv_iload_n hx hb dX2_searchFrom_0 rfl (lv_at hl 1 rfl) ?_
  refine lv_aload_n hx hb dX2_searchFrom_1 rfl (lv_at hl 0 rfl) ?_
  refine pg_gi (ci := 2) (C := RX2) (T := TX2) (N := 10) hx hb hts wi2 hown hK hW hk (by decide) rfl 6 (by decide) (hts (.fieldLink RX2 34 "IceHall$Mover" "size" "I") (by decide +kernel)) (fun _ h9 => h9) rfl dX2_searchFrom_2 ?_
  refine lv_icmp_ge (tgt := 13) hx hb dX2_searchFrom_5 (by decide) (fun c1 => ?_) (fun c1 => ?_)
  · have c1i : Int32.toInt (sI S h 6) ≤ Int32.toInt a := (i3_le _ _).mp c1
    refine lv_aload_n hx hb dX2_searchFrom_13 rfl (lv_at hl 0 rfl) ?_
    refine lv_iload_n hx hb dX2_searchFrom_14 rfl (lv_at hl 2 rfl) ?_
    refine pc_Vv (As := [.int b]) (rest := []) F (b_X2_keepBest l D cy A S h b hG hk) (cwV 1 hts gX2_searchFrom_X2_keepBest rfl rfl rfl (by decide +kernel) ⟨Nat.le_of_ble_eq_true rfl, Nat.le_of_ble_eq_true rfl⟩) hK hZ hA hW hS hk (by decide) rfl rfl hl.1 rfl (Nat.le_of_ble_eq_true rfl) dX2_searchFrom_15 ⟨Nat.le_of_ble_eq_true rfl, Nat.le_of_ble_eq_true rfl⟩ (fun T3 H locs p4 hW hS => ?_)
    obtain ⟨hG, hFc, p4⟩ := p4
    have hF : Fr [] [207, 1100] S T3 := hF.tr (hFc.mono (by decide))
    exact pc_vret (S := T3) hx hb hr hlk hK hZ hA hW hS (⟨hG, hF, trivial⟩) dX2_searchFrom_18
  · have c1i : ¬ (Int32.toInt (sI S h 6) ≤ Int32.toInt a) := fun h9 => c1 ((i3_le _ _).mpr h9)
    refine lv_iload_n hx hb dX2_searchFrom_8 rfl (lv_at hl 1 rfl) ?_
    refine lv_iconst (v := 5) hx hb dX2_searchFrom_9 (by decide) ?_
    refine lv_icmp_lt (tgt := 19) hx hb dX2_searchFrom_10 (by decide) (fun c5 => ?_) (fun c5 => ?_)
    · have c5i : Int32.toInt a < (5 : Int) := (i3_lt _ _).mp c5
      refine lv_iconst (v := 0) hx hb dX2_searchFrom_19 (by decide) ?_
      refine lv_istore_n (lv' := [(3, .int 0), (0, .ref h), (1, .int a), (2, .int b)]) hx hb dX2_searchFrom_20 rfl hl (by decide) rfl (fun ls hl => ?_)
      have loop21 : ∀ (zn : Nat) (y : Int32) (L21 : St) (H : Heap) (locs : List Loc) (ls : Array Slot), (G L21) → (Fr [] [207, 1100] S L21) → (0 ≤ y.toInt) → (15 - y.toInt).toNat < zn → PW D cy A L21 H → va_S A s.heap H locs → lv_has ls 7 [(0, .ref h), (1, .int a), (2, .int b), (3, .int y)] → W p l e ({ frames := 6, cells := 0, slots := 0, locals := 141 } : Room) s m args below meth c H locs 0 0 (MQ below (va_Qv (fun S1 => G S1 ∧ Fr [] [207, 1100] S S1 ∧ True) (PU D cy A) A) args s 0 0 A) (F0 m 21 ls []) := by
        intro zn
        induction zn with
        | zero => intros; exact absurd (by assumption) (Nat.not_lt_zero _)
        | succ zn ih21 =>
          intro y L21 H locs ls hG hL21 hy0 hme hW hS hl
          have hF := hL21
          refine lv_iload_n hx hb dX2_searchFrom_21 rfl (lv_at hl 3 rfl) ?_
          refine lv_bipush (v := 14) hx hb dX2_searchFrom_22 (by decide) ?_
          refine lv_icmp_gt (tgt := 135) hx hb dX2_searchFrom_24 (by decide) (fun c6 => ?_) (fun c6 => ?_)
          · have c6i : (14 : Int) < Int32.toInt y := (i3_lt _ _).mp c6
            exact pc_vret (S := L21) hx hb hr hlk hK hZ hA hW hS (⟨hG, hF, trivial⟩) dX2_searchFrom_135
          · have c6i : ¬ ((14 : Int) < Int32.toInt y) := fun h9 => c6 ((i3_lt _ _).mpr h9)
            refine lv_iload_n hx hb dX2_searchFrom_27 rfl (lv_at hl 2 rfl) ?_
            refine lv_iload_n hx hb dX2_searchFrom_28 rfl (lv_at hl 3 rfl) ?_
            refine pc_Si (As := [.int y]) (rest := [.int b]) F (b_X2_costOf l D cy A L21 y ) (va_cwS 1 hts gX2_searchFrom_X2_costOf rfl rfl rfl (by decide +kernel) ⟨Nat.le_of_ble_eq_true rfl, Nat.le_of_ble_eq_true rfl⟩) hK hZ hA hW hS rfl hl.1 rfl (Nat.le_of_ble_eq_true rfl) dX2_searchFrom_29 ⟨Nat.le_of_ble_eq_true rfl, Nat.le_of_ble_eq_true rfl⟩ (fun v7 T8 H locs p9 hW hS => ?_)
            obtain ⟨eT8, p9⟩ := p9
            rw [eT8] at hW
            clear eT8
            refine lv_iadd hx hb dX2_searchFrom_32 ?_
            refine lv_istore (lv' := [(4, .int (b + v7)), (0, .ref h), (1, .int a), (2, .int b), (3, .int y)]) hx hb dX2_searchFrom_33 hl (by decide) rfl (fun ls hl => ?_)
            refine lv_iload hx hb dX2_searchFrom_35 (lv_at hl 0 rfl) ?_
            refine lv_aload_n hx hb dX2_searchFrom_37 rfl (lv_at hl 1 rfl) ?_
            obtain ⟨b10, rb10, kb10, nb10⟩ := hG0.r hk List.not_mem_nil 5 (show rty 2 5 = some (11, 6) from rfl)
            refine pg_gr (b := b10) (ci := 2) (C := RX2) (T := TX2) (N := 10) hx hb hts wi2 hown hK hW (hF.k hk (by decide)) (by decide) rfl 5 (by decide) (hts (.fieldLink RX2 24 "IceHall$Mover" "leastFrom" "[I") (by decide +kernel)) (fun _ h9 => h9) rfl (hF.r hk (by decide) rb10) dX2_searchFrom_38 ?_
            refine lv_iload_n hx hb dX2_searchFrom_41 rfl (lv_at hl 2 rfl) ?_
            refine lv_iconst (v := 1) hx hb dX2_searchFrom_42 (by decide) ?_
            refine lv_iadd hx hb dX2_searchFrom_43 ?_
            have ha1 : (a + 1).toInt = a.toInt + 1 := i3_add rfl rfl (by omega) (by omega)
            refine pg_iald hx hb hK hW (hF.k kb10 (by decide)) (by decide) (by rw [show sL L21 b10 = 6 from (hF.n kb10 (by decide) nb10)]; exact r_in (by omega)) dX2_searchFrom_44 ?_
            refine lv_iadd hx hb dX2_searchFrom_45 ?_
            refine lv_aload_n hx hb dX2_searchFrom_46 rfl (lv_at hl 1 rfl) ?_
            refine pg_gi (ci := 2) (C := RX2) (T := TX2) (N := 10) hx hb hts wi2 hown hK hW (hF.k hk (by decide)) (by decide) rfl 7 (by decide) (hts (.fieldLink RX2 48 "IceHall$Mover" "bestCost" "I") (by decide +kernel)) (fun _ h9 => h9) rfl dX2_searchFrom_47 ?_
            refine lv_icmp_lt (tgt := 54) hx hb dX2_searchFrom_50 (by decide) (fun c11 => ?_) (fun c11 => ?_)
            · have c11i : Int32.toInt ((b + v7) + (sI L21 b10 (Int32.toNatClampNeg (a + 1)))) < Int32.toInt (sI L21 h 7) := (i3_lt _ _).mp c11
              refine lv_aload_n hx hb dX2_searchFrom_54 rfl (lv_at hl 1 rfl) ?_
              obtain ⟨b12, rb12, kb12, nb12⟩ := hG0.r hk List.not_mem_nil 3 (show rty 2 3 = some (11, 5) from rfl)
              refine pg_gr (b := b12) (ci := 2) (C := RX2) (T := TX2) (N := 10) hx hb hts wi2 hown hK hW (hF.k hk (by decide)) (by decide) rfl 3 (by decide) (hts (.fieldLink RX2 17 "IceHall$Mover" "row" "[I") (by decide +kernel)) (fun _ h9 => h9) rfl (hF.r hk (by decide) rb12) dX2_searchFrom_55 ?_
              refine lv_iload_n hx hb dX2_searchFrom_58 rfl (lv_at hl 2 rfl) ?_
              refine lv_iload_n hx hb dX2_searchFrom_59 rfl (lv_at hl 4 rfl) ?_
              refine pg_iast hx hb hK hW hS (hF.k kb12 (by decide)) (by decide) (by rw [show sL L21 b12 = 5 from (hF.n kb12 (by decide) nb12)]; exact r_in (by omega)) dX2_searchFrom_60 (fun H locs hW hS => ?_)
              have kq13 : sK L21 b12 = 11 := (hF.k kb12 (by decide))
              obtain ⟨S14, eS14⟩ : ∃ T : St, T = stI L21 b12 (Int32.toNatClampNeg a) y := ⟨_, rfl⟩
              rw [← eS14] at hW
              have hG : G S14 := by rw [eS14]; exact hG.I kq13 (ok_frA (by decide) (by decide))
              have hF : Fr [] [207, 1100] S S14 := by rw [eS14]; exact hF.IA kq13 (by decide) (by decide)
              clear eS14
              refine lv_iload_n hx hb dX2_searchFrom_61 rfl (lv_at hl 4 rfl) ?_
              refine lv_bipush (v := 14) hx hb dX2_searchFrom_62 (by decide) ?_
              refine lv_icmp_ne (tgt := 79) hx hb dX2_searchFrom_64 (by decide) (fun c15 => ?_) (fun c15 => ?_)
              · have c15i : ¬ (Int32.toInt y = (14 : Int)) := fun h9 => c15 ((i3_eq _ _).mpr h9)
                refine lv_aload_n hx hb dX2_searchFrom_79 rfl (lv_at hl 1 rfl) ?_
                refine lv_iload_n hx hb dX2_searchFrom_80 rfl (lv_at hl 2 rfl) ?_
                refine lv_iload_n hx hb dX2_searchFrom_81 rfl (lv_at hl 4 rfl) ?_
                refine pc_Vi (As := [.int a, .int y]) (rest := []) F (b_X2_canGo l D cy A S14 h a y hG (hF.k hk (by decide))) (cwV 2 hts gX2_searchFrom_X2_canGo rfl rfl rfl (by decide +kernel) ⟨Nat.le_of_ble_eq_true rfl, Nat.le_of_ble_eq_true rfl⟩) hK hZ hA hW hS (hF.k hk (by decide)) (by decide) rfl rfl hl.1 rfl (Nat.le_of_ble_eq_true rfl) dX2_searchFrom_82 ⟨Nat.le_of_ble_eq_true rfl, Nat.le_of_ble_eq_true rfl⟩ (fun v16 T17 H locs p18 hW hS => ?_)
                obtain ⟨eT17, p18⟩ := p18
                rw [eT17] at hW
                clear eT17
                refine lv_if_eq (tgt := 129) hx hb dX2_searchFrom_85 (by decide) (fun c19 => ?_) (fun c19 => ?_)
                · have c19i : Int32.toInt v16 = (0 : Int) := (i3_eq _ _).mp c19
                  refine lv_iinc (v := y + 1) (lv' := [(3, .int (y + 1)), (4, .int (b + v7)), (0, .ref h), (1, .int a), (2, .int b)]) hx hb dX2_searchFrom_129 hl (k := 4) rfl rfl (by decide) rfl (fun ls hl => ?_)
                  have i20 : (y + 1).toInt = (y).toInt + 1 := i3_add rfl rfl (by omega) (by omega)
                  refine lv_goto (tgt := 21) hx hb dX2_searchFrom_132 (by decide) ?_
                  exact ih21 (y + 1) S14 _ _ ls hG hF (by omega) (by omega) hW hS (lv_cast (lv_sub hl [2, 3, 4, 0] rfl) (rfl))
                · have c19i : ¬ (Int32.toInt v16 = (0 : Int)) := fun h9 => c19 ((i3_eq _ _).mpr h9)
                  refine lv_aload_n hx hb dX2_searchFrom_88 rfl (lv_at hl 1 rfl) ?_
                  refine lv_iload_n hx hb dX2_searchFrom_89 rfl (lv_at hl 4 rfl) ?_
                  refine pc_Vq (As := [.int y]) (rest := []) F (b_X2_iceOfWay l D cy A S14 h y hG (hF.k hk (by decide))) (cwV 1 hts gX2_searchFrom_X2_iceOfWay rfl rfl rfl (by decide +kernel) ⟨Nat.le_of_ble_eq_true rfl, Nat.le_of_ble_eq_true rfl⟩) hK hZ hA hW hS (hF.k hk (by decide)) (by decide) rfl rfl hl.1 rfl (Nat.le_of_ble_eq_true rfl) dX2_searchFrom_90 ⟨Nat.le_of_ble_eq_true rfl, Nat.le_of_ble_eq_true rfl⟩ (fun v21 T22 H locs p23 hW hS => ?_)
                  obtain ⟨eT22, p23⟩ := p23
                  rw [eT22] at hW
                  have hE25 : Fr [] [207, 1100] S14 S14 := Fr.rf _ _ _
                  obtain ⟨b24, erb24, kb24⟩ := p23
                  rw [erb24]
                  obtain ⟨b26, rb26, kb26, nb26⟩ := hG.r kb24 List.not_mem_nil 0 (show rty 1 0 = some (0, 0) from rfl)
                  refine pg_gr (b := b26) (ci := 1) (C := RX1) (T := TX1) (N := 10) hx hb hts wi1 hown hK hW kb24 (by decide) rfl 0 (by decide) (hts (.fieldLink RX2 70 "IceHall$Ice" "taken" "LIceHall$HourSet;") (by decide +kernel)) (fun _ h9 => h9) rfl rb26 dX2_searchFrom_93 ?_
                  refine lv_astore (lv' := [(5, .ref b26), (4, .int (b + v7)), (0, .ref h), (1, .int a), (2, .int b), (3, .int y)]) hx hb dX2_searchFrom_96 hl (by decide) rfl (fun ls hl => ?_)
                  refine lv_aload_n hx hb dX2_searchFrom_98 rfl (lv_at hl 2 rfl) ?_
                  refine lv_iload_n hx hb dX2_searchFrom_99 rfl (lv_at hl 3 rfl) ?_
                  refine lv_iload_n hx hb dX2_searchFrom_100 rfl (lv_at hl 5 rfl) ?_
                  refine pc_Vi (As := [.int a, .int y]) (rest := []) F (b_X2_hourOf l D cy A S14 h a y hG (hF.k hk (by decide))) (cwV 2 hts gX2_searchFrom_X2_hourOf rfl rfl rfl (by decide +kernel) ⟨Nat.le_of_ble_eq_true rfl, Nat.le_of_ble_eq_true rfl⟩) hK hZ hA hW hS (hF.k hk (by decide)) (by decide) rfl rfl hl.1 rfl (Nat.le_of_ble_eq_true rfl) dX2_searchFrom_101 ⟨Nat.le_of_ble_eq_true rfl, Nat.le_of_ble_eq_true rfl⟩ (fun v27 T28 H locs p29 hW hS => ?_)
                  obtain ⟨eT28, p29⟩ := p29
                  rw [eT28] at hW
                  clear eT28
                  refine lv_istore (lv' := [(6, .int v27), (5, .ref b26), (4, .int (b + v7)), (0, .ref h), (1, .int a), (2, .int b), (3, .int y)]) hx hb dX2_searchFrom_104 hl (by decide) rfl (fun ls hl => ?_)
                  refine lv_aload hx hb dX2_searchFrom_106 (lv_at hl 1 rfl) ?_
                  refine lv_iload hx hb dX2_searchFrom_108 (lv_at hl 0 rfl) ?_
                  refine pc_Vv (As := [.int v27]) (rest := []) F (b_X0_put l D cy A S14 b26 v27 hG kb26) (cwV 1 hts gX2_searchFrom_X0_put rfl rfl rfl (by decide +kernel) ⟨Nat.le_of_ble_eq_true rfl, Nat.le_of_ble_eq_true rfl⟩) hK hZ hA hW hS kb26 (by decide) rfl rfl hl.1 rfl (Nat.le_of_ble_eq_true rfl) dX2_searchFrom_110 ⟨Nat.le_of_ble_eq_true rfl, Nat.le_of_ble_eq_true rfl⟩ (fun T31 H locs p32 hW hS => ?_)
                  obtain ⟨hG, hFc, p32⟩ := p32
                  have hF : Fr [] [207, 1100] S T31 := hF.tr (hFc.mono (by decide))
                  have hE25 : Fr [] [207, 1100] S14 T31 := hE25.tr (hFc.mono (by decide))
                  refine lv_aload_n hx hb dX2_searchFrom_113 rfl (lv_at hl 3 rfl) ?_
                  refine lv_iload_n hx hb dX2_searchFrom_114 rfl (lv_at hl 4 rfl) ?_
                  refine lv_iconst (v := 1) hx hb dX2_searchFrom_115 (by decide) ?_
                  refine lv_iadd hx hb dX2_searchFrom_116 ?_
                  refine lv_iload hx hb dX2_searchFrom_117 (lv_at hl 2 rfl) ?_
                  refine pc_Sv (As := [.ref h, .int (a + 1), .int (b + v7)]) (rest := []) F (b_X2_searchFrom_1 l D cy A T31 h (a + 1) (b + v7) hG (hF.k hk (by decide)) (by omega) (by omega)) (va_cwS 3 hts gX2_searchFrom_X2_searchFrom rfl rfl rfl (by decide +kernel) ⟨Nat.le_of_ble_eq_true rfl, Nat.le_of_ble_eq_true rfl⟩) hK hZ hA hW hS rfl hl.1 rfl (Nat.le_of_ble_eq_true rfl) dX2_searchFrom_119 ⟨Nat.le_of_ble_eq_true rfl, Nat.le_of_ble_eq_true rfl⟩ (fun T34 H locs p35 hW hS => ?_)
                  obtain ⟨hG, hFc, p35⟩ := p35
                  have hF : Fr [] [207, 1100] S T34 := hF.tr (hFc.mono (by decide))
                  have hE25 : Fr [] [207, 1100] S14 T34 := hE25.tr (hFc.mono (by decide))
                  refine lv_aload hx hb dX2_searchFrom_122 (lv_at hl 1 rfl) ?_
                  refine lv_iload hx hb dX2_searchFrom_124 (lv_at hl 0 rfl) ?_
                  refine pc_Vv (As := [.int v27]) (rest := []) F (b_X0_drop l D cy A T34 b26 v27 hG (hE25.k kb26 (by decide))) (cwV 1 hts gX2_searchFrom_X0_drop rfl rfl rfl (by decide +kernel) ⟨Nat.le_of_ble_eq_true rfl, Nat.le_of_ble_eq_true rfl⟩) hK hZ hA hW hS (hE25.k kb26 (by decide)) (by decide) rfl rfl hl.1 rfl (Nat.le_of_ble_eq_true rfl) dX2_searchFrom_126 ⟨Nat.le_of_ble_eq_true rfl, Nat.le_of_ble_eq_true rfl⟩ (fun T37 H locs p38 hW hS => ?_)
                  obtain ⟨hG, hFc, p38⟩ := p38
                  have hF : Fr [] [207, 1100] S T37 := hF.tr (hFc.mono (by decide))
                  have hE25 : Fr [] [207, 1100] S14 T37 := hE25.tr (hFc.mono (by decide))
                  refine lv_iinc (v := y + 1) (lv' := [(3, .int (y + 1)), (6, .int v27), (5, .ref b26), (4, .int (b + v7)), (0, .ref h), (1, .int a), (2, .int b)]) hx hb dX2_searchFrom_129 hl (k := 6) rfl rfl (by decide) rfl (fun ls hl => ?_)
                  have i39 : (y + 1).toInt = (y).toInt + 1 := i3_add rfl rfl (by omega) (by omega)
                  refine lv_goto (tgt := 21) hx hb dX2_searchFrom_132 (by decide) ?_
                  exact ih21 (y + 1) T37 _ _ ls hG hF (by omega) (by omega) hW hS (lv_cast (lv_sub hl [4, 5, 6, 0] rfl) (rfl))
              · have c15i : Int32.toInt y = (14 : Int) := (i3_eq _ _).mp c15
                refine lv_aload_n hx hb dX2_searchFrom_67 rfl (lv_at hl 1 rfl) ?_
                refine lv_iload_n hx hb dX2_searchFrom_68 rfl (lv_at hl 2 rfl) ?_
                refine lv_iconst (v := 1) hx hb dX2_searchFrom_69 (by decide) ?_
                refine lv_iadd hx hb dX2_searchFrom_70 ?_
                refine lv_iload hx hb dX2_searchFrom_71 (lv_at hl 0 rfl) ?_
                refine pc_Sv (As := [.ref h, .int (a + 1), .int (b + v7)]) (rest := []) F (b_X2_searchFrom_1 l D cy A S14 h (a + 1) (b + v7) hG (hF.k hk (by decide)) (by omega) (by omega)) (va_cwS 3 hts gX2_searchFrom_X2_searchFrom rfl rfl rfl (by decide +kernel) ⟨Nat.le_of_ble_eq_true rfl, Nat.le_of_ble_eq_true rfl⟩) hK hZ hA hW hS rfl hl.1 rfl (Nat.le_of_ble_eq_true rfl) dX2_searchFrom_73 ⟨Nat.le_of_ble_eq_true rfl, Nat.le_of_ble_eq_true rfl⟩ (fun T41 H locs p42 hW hS => ?_)
                obtain ⟨hG, hFc, p42⟩ := p42
                have hF : Fr [] [207, 1100] S T41 := hF.tr (hFc.mono (by decide))
                refine lv_goto (tgt := 129) hx hb dX2_searchFrom_76 (by decide) ?_
                refine lv_iinc (v := y + 1) (lv' := [(3, .int (y + 1)), (4, .int (b + v7)), (0, .ref h), (1, .int a), (2, .int b)]) hx hb dX2_searchFrom_129 hl (k := 4) rfl rfl (by decide) rfl (fun ls hl => ?_)
                have i43 : (y + 1).toInt = (y).toInt + 1 := i3_add rfl rfl (by omega) (by omega)
                refine lv_goto (tgt := 21) hx hb dX2_searchFrom_132 (by decide) ?_
                exact ih21 (y + 1) T41 _ _ ls hG hF (by omega) (by omega) hW hS (lv_cast (lv_sub hl [2, 3, 4, 0] rfl) (rfl))
            · have c11i : ¬ (Int32.toInt ((b + v7) + (sI L21 b10 (Int32.toNatClampNeg (a + 1)))) < Int32.toInt (sI L21 h 7)) := fun h9 => c11 ((i3_lt _ _).mpr h9)
              exact pc_vret (S := L21) hx hb hr hlk hK hZ hA hW hS (⟨hG, hF, trivial⟩) dX2_searchFrom_53
      exact loop21 _ 0 S _ _ ls hG hF (by decide) (Nat.lt_succ_self _) hW hS (lv_cast (lv_sub hl [1, 2, 3, 0] rfl) (rfl))
    · have c5i : ¬ (Int32.toInt a < (5 : Int)) := fun h9 => c5 ((i3_lt _ _).mpr h9)
      refine lv_aload_n hx hb dX2_searchFrom_13 rfl (lv_at hl 0 rfl) ?_
      refine lv_iload_n hx hb dX2_searchFrom_14 rfl (lv_at hl 2 rfl) ?_
      refine pc_Vv (As := [.int b]) (rest := []) F (b_X2_keepBest l D cy A S h b hG hk) (cwV 1 hts gX2_searchFrom_X2_keepBest rfl rfl rfl (by decide +kernel) ⟨Nat.le_of_ble_eq_true rfl, Nat.le_of_ble_eq_true rfl⟩) hK hZ hA hW hS hk (by decide) rfl rfl hl.1 rfl (Nat.le_of_ble_eq_true rfl) dX2_searchFrom_15 ⟨Nat.le_of_ble_eq_true rfl, Nat.le_of_ble_eq_true rfl⟩ (fun T45 H locs p46 hW hS => ?_)
      obtain ⟨hG, hFc, p46⟩ := p46
      have hF : Fr [] [207, 1100] S T45 := hF.tr (hFc.mono (by decide))
      exact pc_vret (S := T45) hx hb hr hlk hK hZ hA hW hS (⟨hG, hF, trivial⟩) dX2_searchFrom_18
set_option maxHeartbeats 4000000 in
set_option maxRecDepth 100000 in
theorem b_X2_searchFrom_3 (l : Launch) (D : va_G) (cy : Nat → ClassId) (A : Nat → Prop) (S : St) (h : Nat) (a b : Int32) (hG0 : G S) (hk : sK S h = 2) (ha : 2 ≤ a.toInt) (ha5 : a.toInt ≤ 5) : MV l yX2_searchFrom wsX2_searchFrom ({ frames := 7, cells := 0, slots := 0, locals := 167 } : Room) 0 0 D cy A [.ref h, .int a, .int b] S (fun S1 => G S1 ∧ Fr [] [207, 1100] S S1 ∧ True) := by
  refine mt_start (cc := cX2_searchFrom) (maxL := 7) (ret := none) (by decide) rfl (Nat.le_of_ble_eq_true rfl) ?_
  intro p e s m args below meth c hx hb hr hlk hml hown hnm hts hK hZ hA hW hS ls hl
  have hl : lv_has ls 7 [(0, .ref h), (1, .int a), (2, .int b)] := hl
  have hown : s.vm.findClass RX2 = some m.cls := hown
  have F : CallFix p m c cX2_searchFrom 7 s args wsX2_searchFrom RX2 := ⟨hx, hb, hml, hown, hts⟩
  have wi1 : ∀ w ∈ u_ws RX1 TX1 10, w ∈ wsX2_searchFrom := by decide +kernel
  have wi2 : ∀ w ∈ u_ws RX2 TX2 10, w ∈ wsX2_searchFrom := by decide +kernel
  have hG := hG0
  have hF : Fr [] [207, 1100] S S := Fr.rf _ _ _
  refine lv_iload_n hx hb dX2_searchFrom_0 rfl (lv_at hl 1 rfl) ?_
  refine lv_aload_n hx hb dX2_searchFrom_1 rfl (lv_at hl 0 rfl) ?_
  refine pg_gi (ci := 2) (C := RX2) (T := TX2) (N := 10) hx hb hts wi2 hown hK hW hk (by decide) rfl 6 (by decide) (hts (.fieldLink RX2 34 "IceHall$Mover" "size" "I") (by decide +kernel)) (fun _ h9 => h9) rfl dX2_searchFrom_2 ?_
  refine lv_icmp_ge (tgt := 13) hx hb dX2_searchFrom_5 (by decide) (fun c1 => ?_) (fun c1 => ?_)
  · have c1i : Int32.toInt (sI S h 6) ≤ Int32.toInt a := (i3_le _ _).mp c1
    refine lv_aload_n hx hb dX2_searchFrom_13 rfl (lv_at hl 0 rfl) ?_
    refine lv_iload_n hx hb dX2_searchFrom_14 rfl (lv_at hl 2 rfl) ?_
    refine pc_Vv (As := [.int b]) (rest := []) F (b_X2_keepBest l D cy A S h b hG hk) (cwV 1 hts gX2_searchFrom_X2_keepBest rfl rfl rfl (by decide +kernel) ⟨Nat.le_of_ble_eq_true rfl, Nat.le_of_ble_eq_true rfl⟩) hK hZ hA hW hS hk (by decide) rfl rfl hl.1 rfl (Nat.le_of_ble_eq_true rfl) dX2_searchFrom_15 ⟨Nat.le_of_ble_eq_true rfl, Nat.le_of_ble_eq_true rfl⟩ (fun T3 H locs p4 hW hS => ?_)
    obtain ⟨hG, hFc, p4⟩ := p4
    have hF : Fr [] [207, 1100] S T3 := hF.tr (hFc.mono (by decide))
    exact pc_vret (S := T3) hx hb hr hlk hK hZ hA hW hS (⟨hG, hF, trivial⟩) dX2_searchFrom_18
  · have c1i : ¬ (Int32.toInt (sI S h 6) ≤ Int32.toInt a) := fun h9 => c1 ((i3_le _ _).mpr h9)
    refine lv_iload_n hx hb dX2_searchFrom_8 rfl (lv_at hl 1 rfl) ?_
    refine lv_iconst (v := 5) hx hb dX2_searchFrom_9 (by decide) ?_
    refine lv_icmp_lt (tgt := 19) hx hb dX2_searchFrom_10 (by decide) (fun c5 => ?_) (fun c5 => ?_)
    · have c5i : Int32.toInt a < (5 : Int) := (i3_lt _ _).mp c5
      refine lv_iconst (v := 0) hx hb dX2_searchFrom_19 (by decide) ?_
      refine lv_istore_n (lv' := [(3, .int 0), (0, .ref h), (1, .int a), (2, .int b)]) hx hb dX2_searchFrom_20 rfl hl (by decide) rfl (fun ls hl => ?_)
      have loop21 : ∀ (zn : Nat) (y : Int32) (L21 : St) (H : Heap) (locs : List Loc) (ls : Array Slot), (G L21) → (Fr [] [207, 1100] S L21) → (0 ≤ y.toInt) → (15 - y.toInt).toNat < zn → PW D cy A L21 H → va_S A s.heap H locs → lv_has ls 7 [(0, .ref h), (1, .int a), (2, .int b), (3, .int y)] → W p l e ({ frames := 7, cells := 0, slots := 0, locals := 167 } : Room) s m args below meth c H locs 0 0 (MQ below (va_Qv (fun S1 => G S1 ∧ Fr [] [207, 1100] S S1 ∧ True) (PU D cy A) A) args s 0 0 A) (F0 m 21 ls []) := by
        intro zn
        induction zn with
        | zero => intros; exact absurd (by assumption) (Nat.not_lt_zero _)
        | succ zn ih21 =>
          intro y L21 H locs ls hG hL21 hy0 hme hW hS hl
          have hF := hL21
          refine lv_iload_n hx hb dX2_searchFrom_21 rfl (lv_at hl 3 rfl) ?_
          refine lv_bipush (v := 14) hx hb dX2_searchFrom_22 (by decide) ?_
          refine lv_icmp_gt (tgt := 135) hx hb dX2_searchFrom_24 (by decide) (fun c6 => ?_) (fun c6 => ?_)
          · have c6i : (14 : Int) < Int32.toInt y := (i3_lt _ _).mp c6
            exact pc_vret (S := L21) hx hb hr hlk hK hZ hA hW hS (⟨hG, hF, trivial⟩) dX2_searchFrom_135
          · have c6i : ¬ ((14 : Int) < Int32.toInt y) := fun h9 => c6 ((i3_lt _ _).mpr h9)
            refine lv_iload_n hx hb dX2_searchFrom_27 rfl (lv_at hl 2 rfl) ?_
            refine lv_iload_n hx hb dX2_searchFrom_28 rfl (lv_at hl 3 rfl) ?_
            refine pc_Si (As := [.int y]) (rest := [.int b]) F (b_X2_costOf l D cy A L21 y ) (va_cwS 1 hts gX2_searchFrom_X2_costOf rfl rfl rfl (by decide +kernel) ⟨Nat.le_of_ble_eq_true rfl, Nat.le_of_ble_eq_true rfl⟩) hK hZ hA hW hS rfl hl.1 rfl (Nat.le_of_ble_eq_true rfl) dX2_searchFrom_29 ⟨Nat.le_of_ble_eq_true rfl, Nat.le_of_ble_eq_true rfl⟩ (fun v7 T8 H locs p9 hW hS => ?_)
            obtain ⟨eT8, p9⟩ := p9
            rw [eT8] at hW
            clear eT8
            refine lv_iadd hx hb dX2_searchFrom_32 ?_
            refine lv_istore (lv' := [(4, .int (b + v7)), (0, .ref h), (1, .int a), (2, .int b), (3, .int y)]) hx hb dX2_searchFrom_33 hl (by decide) rfl (fun ls hl => ?_)
            refine lv_iload hx hb dX2_searchFrom_35 (lv_at hl 0 rfl) ?_
            refine lv_aload_n hx hb dX2_searchFrom_37 rfl (lv_at hl 1 rfl) ?_
            obtain ⟨b10, rb10, kb10, nb10⟩ := hG0.r hk List.not_mem_nil 5 (show rty 2 5 = some (11, 6) from rfl)
            refine pg_gr (b := b10) (ci := 2) (C := RX2) (T := TX2) (N := 10) hx hb hts wi2 hown hK hW (hF.k hk (by decide)) (by decide) rfl 5 (by decide) (hts (.fieldLink RX2 24 "IceHall$Mover" "leastFrom" "[I") (by decide +kernel)) (fun _ h9 => h9) rfl (hF.r hk (by decide) rb10) dX2_searchFrom_38 ?_
            refine lv_iload_n hx hb dX2_searchFrom_41 rfl (lv_at hl 2 rfl) ?_
            refine lv_iconst (v := 1) hx hb dX2_searchFrom_42 (by decide) ?_
            refine lv_iadd hx hb dX2_searchFrom_43 ?_
            have ha1 : (a + 1).toInt = a.toInt + 1 := i3_add rfl rfl (by omega) (by omega)
            refine pg_iald hx hb hK hW (hF.k kb10 (by decide)) (by decide) (by rw [show sL L21 b10 = 6 from (hF.n kb10 (by decide) nb10)]; exact r_in (by omega)) dX2_searchFrom_44 ?_
            refine lv_iadd hx hb dX2_searchFrom_45 ?_
            refine lv_aload_n hx hb dX2_searchFrom_46 rfl (lv_at hl 1 rfl) ?_
            refine pg_gi (ci := 2) (C := RX2) (T := TX2) (N := 10) hx hb hts wi2 hown hK hW (hF.k hk (by decide)) (by decide) rfl 7 (by decide) (hts (.fieldLink RX2 48 "IceHall$Mover" "bestCost" "I") (by decide +kernel)) (fun _ h9 => h9) rfl dX2_searchFrom_47 ?_
            refine lv_icmp_lt (tgt := 54) hx hb dX2_searchFrom_50 (by decide) (fun c11 => ?_) (fun c11 => ?_)
            · have c11i : Int32.toInt ((b + v7) + (sI L21 b10 (Int32.toNatClampNeg (a + 1)))) < Int32.toInt (sI L21 h 7) := (i3_lt _ _).mp c11
              refine lv_aload_n hx hb dX2_searchFrom_54 rfl (lv_at hl 1 rfl) ?_
              obtain ⟨b12, rb12, kb12, nb12⟩ := hG0.r hk List.not_mem_nil 3 (show rty 2 3 = some (11, 5) from rfl)
              refine pg_gr (b := b12) (ci := 2) (C := RX2) (T := TX2) (N := 10) hx hb hts wi2 hown hK hW (hF.k hk (by decide)) (by decide) rfl 3 (by decide) (hts (.fieldLink RX2 17 "IceHall$Mover" "row" "[I") (by decide +kernel)) (fun _ h9 => h9) rfl (hF.r hk (by decide) rb12) dX2_searchFrom_55 ?_
              refine lv_iload_n hx hb dX2_searchFrom_58 rfl (lv_at hl 2 rfl) ?_
              refine lv_iload_n hx hb dX2_searchFrom_59 rfl (lv_at hl 4 rfl) ?_
              refine pg_iast hx hb hK hW hS (hF.k kb12 (by decide)) (by decide) (by rw [show sL L21 b12 = 5 from (hF.n kb12 (by decide) nb12)]; exact r_in (by omega)) dX2_searchFrom_60 (fun H locs hW hS => ?_)
              have kq13 : sK L21 b12 = 11 := (hF.k kb12 (by decide))
              obtain ⟨S14, eS14⟩ : ∃ T : St, T = stI L21 b12 (Int32.toNatClampNeg a) y := ⟨_, rfl⟩
              rw [← eS14] at hW
              have hG : G S14 := by rw [eS14]; exact hG.I kq13 (ok_frA (by decide) (by decide))
              have hF : Fr [] [207, 1100] S S14 := by rw [eS14]; exact hF.IA kq13 (by decide) (by decide)
              clear eS14
              refine lv_iload_n hx hb dX2_searchFrom_61 rfl (lv_at hl 4 rfl) ?_
              refine lv_bipush (v := 14) hx hb dX2_searchFrom_62 (by decide) ?_
              refine lv_icmp_ne (tgt := 79) hx hb dX2_searchFrom_64 (by decide) (fun c15 => ?_) (fun c15 => ?_)
              · have c15i : ¬ (Int32.toInt y = (14 : Int)) := fun h9 => c15 ((i3_eq _ _).mpr h9)
                refine lv_aload_n hx hb dX2_searchFrom_79 rfl (lv_at hl 1 rfl) ?_
                refine lv_iload_n hx hb dX2_searchFrom_80 rfl (lv_at hl 2 rfl) ?_
                refine lv_iload_n hx hb dX2_searchFrom_81 rfl (lv_at hl 4 rfl) ?_
                refine pc_Vi (As := [.int a, .int y]) (rest := []) F (b_X2_canGo l D cy A S14 h a y hG (hF.k hk (by decide))) (cwV 2 hts gX2_searchFrom_X2_canGo rfl rfl rfl (by decide +kernel) ⟨Nat.le_of_ble_eq_true rfl, Nat.le_of_ble_eq_true rfl⟩) hK hZ hA hW hS (hF.k hk (by decide)) (by decide) rfl rfl hl.1 rfl (Nat.le_of_ble_eq_true rfl) dX2_searchFrom_82 ⟨Nat.le_of_ble_eq_true rfl, Nat.le_of_ble_eq_true rfl⟩ (fun v16 T17 H locs p18 hW hS => ?_)
                obtain ⟨eT17, p18⟩ := p18
                rw [eT17] at hW
                clear eT17
                refine lv_if_eq (tgt := 129) hx hb dX2_searchFrom_85 (by decide) (fun c19 => ?_) (fun c19 => ?_)
                · have c19i : Int32.toInt v16 = (0 : Int) := (i3_eq _ _).mp c19
                  refine lv_iinc (v := y + 1) (lv' := [(3, .int (y + 1)), (4, .int (b + v7)), (0, .ref h), (1, .int a), (2, .int b)]) hx hb dX2_searchFrom_129 hl (k := 4) rfl rfl (by decide) rfl (fun ls hl => ?_)
                  have i20 : (y + 1).toInt = (y).toInt + 1 := i3_add rfl rfl (by omega) (by omega)
                  refine lv_goto (tgt := 21) hx hb dX2_searchFrom_132 (by decide) ?_
                  exact ih21 (y + 1) S14 _ _ ls hG hF (by omega) (by omega) hW hS (lv_cast (lv_sub hl [2, 3, 4, 0] rfl) (rfl))
                · have c19i : ¬ (Int32.toInt v16 = (0 : Int)) := fun h9 => c19 ((i3_eq _ _).mpr h9)
                  refine lv_aload_n hx hb dX2_searchFrom_88 rfl (lv_at hl 1 rfl) ?_
                  refine lv_iload_n hx hb dX2_searchFrom_89 rfl (lv_at hl 4 rfl) ?_
                  refine pc_Vq (As := [.int y]) (rest := []) F (b_X2_iceOfWay l D cy A S14 h y hG (hF.k hk (by decide))) (cwV 1 hts gX2_searchFrom_X2_iceOfWay rfl rfl rfl (by decide +kernel) ⟨Nat.le_of_ble_eq_true rfl, Nat.le_of_ble_eq_true rfl⟩) hK hZ hA hW hS (hF.k hk (by decide)) (by decide) rfl rfl hl.1 rfl (Nat.le_of_ble_eq_true rfl) dX2_searchFrom_90 ⟨Nat.le_of_ble_eq_true rfl, Nat.le_of_ble_eq_true rfl⟩ (fun v21 T22 H locs p23 hW hS => ?_)
                  obtain ⟨eT22, p23⟩ := p23
                  rw [eT22] at hW
                  have hE25 : Fr [] [207, 1100] S14 S14 := Fr.rf _ _ _
                  obtain ⟨b24, erb24, kb24⟩ := p23
                  rw [erb24]
                  obtain ⟨b26, rb26, kb26, nb26⟩ := hG.r kb24 List.not_mem_nil 0 (show rty 1 0 = some (0, 0) from rfl)
                  refine pg_gr (b := b26) (ci := 1) (C := RX1) (T := TX1) (N := 10) hx hb hts wi1 hown hK hW kb24 (by decide) rfl 0 (by decide) (hts (.fieldLink RX2 70 "IceHall$Ice" "taken" "LIceHall$HourSet;") (by decide +kernel)) (fun _ h9 => h9) rfl rb26 dX2_searchFrom_93 ?_
                  refine lv_astore (lv' := [(5, .ref b26), (4, .int (b + v7)), (0, .ref h), (1, .int a), (2, .int b), (3, .int y)]) hx hb dX2_searchFrom_96 hl (by decide) rfl (fun ls hl => ?_)
                  refine lv_aload_n hx hb dX2_searchFrom_98 rfl (lv_at hl 2 rfl) ?_
                  refine lv_iload_n hx hb dX2_searchFrom_99 rfl (lv_at hl 3 rfl) ?_
                  refine lv_iload_n hx hb dX2_searchFrom_100 rfl (lv_at hl 5 rfl) ?_
                  refine pc_Vi (As := [.int a, .int y]) (rest := []) F (b_X2_hourOf l D cy A S14 h a y hG (hF.k hk (by decide))) (cwV 2 hts gX2_searchFrom_X2_hourOf rfl rfl rfl (by decide +kernel) ⟨Nat.le_of_ble_eq_true rfl, Nat.le_of_ble_eq_true rfl⟩) hK hZ hA hW hS (hF.k hk (by decide)) (by decide) rfl rfl hl.1 rfl (Nat.le_of_ble_eq_true rfl) dX2_searchFrom_101 ⟨Nat.le_of_ble_eq_true rfl, Nat.le_of_ble_eq_true rfl⟩ (fun v27 T28 H locs p29 hW hS => ?_)
                  obtain ⟨eT28, p29⟩ := p29
                  rw [eT28] at hW
                  clear eT28
                  refine lv_istore (lv' := [(6, .int v27), (5, .ref b26), (4, .int (b + v7)), (0, .ref h), (1, .int a), (2, .int b), (3, .int y)]) hx hb dX2_searchFrom_104 hl (by decide) rfl (fun ls hl => ?_)
                  refine lv_aload hx hb dX2_searchFrom_106 (lv_at hl 1 rfl) ?_
                  refine lv_iload hx hb dX2_searchFrom_108 (lv_at hl 0 rfl) ?_
                  refine pc_Vv (As := [.int v27]) (rest := []) F (b_X0_put l D cy A S14 b26 v27 hG kb26) (cwV 1 hts gX2_searchFrom_X0_put rfl rfl rfl (by decide +kernel) ⟨Nat.le_of_ble_eq_true rfl, Nat.le_of_ble_eq_true rfl⟩) hK hZ hA hW hS kb26 (by decide) rfl rfl hl.1 rfl (Nat.le_of_ble_eq_true rfl) dX2_searchFrom_110 ⟨Nat.le_of_ble_eq_true rfl, Nat.le_of_ble_eq_true rfl⟩ (fun T31 H locs p32 hW hS => ?_)
                  obtain ⟨hG, hFc, p32⟩ := p32
                  have hF : Fr [] [207, 1100] S T31 := hF.tr (hFc.mono (by decide))
                  have hE25 : Fr [] [207, 1100] S14 T31 := hE25.tr (hFc.mono (by decide))
                  refine lv_aload_n hx hb dX2_searchFrom_113 rfl (lv_at hl 3 rfl) ?_
                  refine lv_iload_n hx hb dX2_searchFrom_114 rfl (lv_at hl 4 rfl) ?_
                  refine lv_iconst (v := 1) hx hb dX2_searchFrom_115 (by decide) ?_
                  refine lv_iadd hx hb dX2_searchFrom_116 ?_
                  refine lv_iload hx hb dX2_searchFrom_117 (lv_at hl 2 rfl) ?_
                  refine pc_Sv (As := [.ref h, .int (a + 1), .int (b + v7)]) (rest := []) F (b_X2_searchFrom_2 l D cy A T31 h (a + 1) (b + v7) hG (hF.k hk (by decide)) (by omega) (by omega)) (va_cwS 3 hts gX2_searchFrom_X2_searchFrom rfl rfl rfl (by decide +kernel) ⟨Nat.le_of_ble_eq_true rfl, Nat.le_of_ble_eq_true rfl⟩) hK hZ hA hW hS rfl hl.1 rfl (Nat.le_of_ble_eq_true rfl) dX2_searchFrom_119 ⟨Nat.le_of_ble_eq_true rfl, Nat.le_of_ble_eq_true rfl⟩ (fun T34 H locs p35 hW hS => ?_)
                  obtain ⟨hG, hFc, p35⟩ := p35
                  have hF : Fr [] [207, 1100] S T34 := hF.tr (hFc.mono (by decide))
                  have hE25 : Fr [] [207, 1100] S14 T34 := hE25.tr (hFc.mono (by decide))
                  refine lv_aload hx hb dX2_searchFrom_122 (lv_at hl 1 rfl) ?_
                  refine lv_iload hx hb dX2_searchFrom_124 (lv_at hl 0 rfl) ?_
                  refine pc_Vv (As := [.int v27]) (rest := []) F (b_X0_drop l D cy A T34 b26 v27 hG (hE25.k kb26 (by decide))) (cwV 1 hts gX2_searchFrom_X0_drop rfl rfl rfl (by decide +kernel) ⟨Nat.le_of_ble_eq_true rfl, Nat.le_of_ble_eq_true rfl⟩) hK hZ hA hW hS (hE25.k kb26 (by decide)) (by decide) rfl rfl hl.1 rfl (Nat.le_of_ble_eq_true rfl) dX2_searchFrom_126 ⟨Nat.le_of_ble_eq_true rfl, Nat.le_of_ble_eq_true rfl⟩ (fun T37 H locs p38 hW hS => ?_)
                  obtain ⟨hG, hFc, p38⟩ := p38
                  have hF : Fr [] [207, 1100] S T37 := hF.tr (hFc.mono (by decide))
                  have hE25 : Fr [] [207, 1100] S14 T37 := hE25.tr (hFc.mono (by decide))
                  refine lv_iinc (v := y + 1) (lv' := [(3, .int (y + 1)), (6, .int v27), (5, .ref b26), (4, .int (b + v7)), (0, .ref h), (1, .int a), (2, .int b)]) hx hb dX2_searchFrom_129 hl (k := 6) rfl rfl (by decide) rfl (fun ls hl => ?_)
                  have i39 : (y + 1).toInt = (y).toInt + 1 := i3_add rfl rfl (by omega) (by omega)
                  refine lv_goto (tgt := 21) hx hb dX2_searchFrom_132 (by decide) ?_
                  exact ih21 (y + 1) T37 _ _ ls hG hF (by omega) (by omega) hW hS (lv_cast (lv_sub hl [4, 5, 6, 0] rfl) (rfl))
              · have c15i : Int32.toInt y = (14 : Int) := (i3_eq _ _).mp c15
                refine lv_aload_n hx hb dX2_searchFrom_67 rfl (lv_at hl 1 rfl) ?_
                refine lv_iload_n hx hb dX2_searchFrom_68 rfl (lv_at hl 2 rfl) ?_
                refine lv_iconst (v := 1) hx hb dX2_searchFrom_69 (by decide) ?_
                refine lv_iadd hx hb dX2_searchFrom_70 ?_
                refine lv_iload hx hb dX2_searchFrom_71 (lv_at hl 0 rfl) ?_
                refine pc_Sv (As := [.ref h, .int (a + 1), .int (b + v7)]) (rest := []) F (b_X2_searchFrom_2 l D cy A S14 h (a + 1) (b + v7) hG (hF.k hk (by decide)) (by omega) (by omega)) (va_cwS 3 hts gX2_searchFrom_X2_searchFrom rfl rfl rfl (by decide +kernel) ⟨Nat.le_of_ble_eq_true rfl, Nat.le_of_ble_eq_true rfl⟩) hK hZ hA hW hS rfl hl.1 rfl (Nat.le_of_ble_eq_true rfl) dX2_searchFrom_73 ⟨Nat.le_of_ble_eq_true rfl, Nat.le_of_ble_eq_true rfl⟩ (fun T41 H locs p42 hW hS => ?_)
                obtain ⟨hG, hFc, p42⟩ := p42
                have hF : Fr [] [207, 1100] S T41 := hF.tr (hFc.mono (by decide))
                refine lv_goto (tgt := 129) hx hb dX2_searchFrom_76 (by decide) ?_
                refine lv_iinc (v := y + 1) (lv' := [(3, .int (y + 1)), (4, .int (b + v7)), (0, .ref h), (1, .int a), (2, .int b)]) hx hb dX2_searchFrom_129 hl (k := 4) rfl rfl (by decide) rfl (fun ls hl => ?_)
                have i43 : (y + 1).toInt = (y).toInt + 1 := i3_add rfl rfl (by omega) (by omega)
                refine lv_goto (tgt := 21) hx hb dX2_searchFrom_132 (by decide) ?_
                exact ih21 (y + 1) T41 _ _ ls hG hF (by omega) (by omega) hW hS (lv_cast (lv_sub hl [2, 3, 4, 0] rfl) (rfl))
            · have c11i : ¬ (Int32.toInt ((b + v7) + (sI L21 b10 (Int32.toNatClampNeg (a + 1)))) < Int32.toInt (sI L21 h 7)) := fun h9 => c11 ((i3_lt _ _).mpr h9)
              exact pc_vret (S := L21) hx hb hr hlk hK hZ hA hW hS (⟨hG, hF, trivial⟩) dX2_searchFrom_53
      exact loop21 _ 0 S _ _ ls hG hF (by decide) (Nat.lt_succ_self _) hW hS (lv_cast (lv_sub hl [1, 2, 3, 0] rfl) (rfl))
    · have c5i : ¬ (Int32.toInt a < (5 : Int)) := fun h9 => c5 ((i3_lt _ _).mpr h9)
      refine lv_aload_n hx hb dX2_searchFrom_13 rfl (lv_at hl 0 rfl) ?_
      refine lv_iload_n hx hb dX2_searchFrom_14 rfl (lv_at hl 2 rfl) ?_
      refine pc_Vv (As := [.int b]) (rest := []) F (b_X2_keepBest l D cy A S h b hG hk) (cwV 1 hts gX2_searchFrom_X2_keepBest rfl rfl rfl (by decide +kernel) ⟨Nat.le_of_ble_eq_true rfl, Nat.le_of_ble_eq_true rfl⟩) hK hZ hA hW hS hk (by decide) rfl rfl hl.1 rfl (Nat.le_of_ble_eq_true rfl) dX2_searchFrom_15 ⟨Nat.le_of_ble_eq_true rfl, Nat.le_of_ble_eq_true rfl⟩ (fun T45 H locs p46 hW hS => ?_)
      obtain ⟨hG, hFc, p46⟩ := p46
      have hF : Fr [] [207, 1100] S T45 := hF.tr (hFc.mono (by decide))
      exact pc_vret (S := T45) hx hb hr hlk hK hZ hA hW hS (⟨hG, hF, trivial⟩) dX2_searchFrom_18
set_option maxHeartbeats 4000000 in
set_option maxRecDepth 100000 in
theorem b_X2_searchFrom_4 (l : Launch) (D : va_G) (cy : Nat → ClassId) (A : Nat → Prop) (S : St) (h : Nat) (a b : Int32) (hG0 : G S) (hk : sK S h = 2) (ha : 1 ≤ a.toInt) (ha5 : a.toInt ≤ 5) : MV l yX2_searchFrom wsX2_searchFrom ({ frames := 8, cells := 0, slots := 0, locals := 193 } : Room) 0 0 D cy A [.ref h, .int a, .int b] S (fun S1 => G S1 ∧ Fr [] [207, 1100] S S1 ∧ True) := by
  refine mt_start (cc := cX2_searchFrom) (maxL := 7) (ret := none) (by decide) rfl (Nat.le_of_ble_eq_true rfl) ?_
  intro p e s m args below meth c hx hb hr hlk hml hown hnm hts hK hZ hA hW hS ls hl
  have hl : lv_has ls 7 [(0, .ref h), (1, .int a), (2, .int b)] := hl
  have hown : s.vm.findClass RX2 = some m.cls := hown
  have F : CallFix p m c cX2_searchFrom 7 s args wsX2_searchFrom RX2 := ⟨hx, hb, hml, hown, hts⟩
  have wi1 : ∀ w ∈ u_ws RX1 TX1 10, w ∈ wsX2_searchFrom := by decide +kernel
  have wi2 : ∀ w ∈ u_ws RX2 TX2 10, w ∈ wsX2_searchFrom := by decide +kernel
  have hG := hG0
  have hF : Fr [] [207, 1100] S S := Fr.rf _ _ _
  refine lv_iload_n hx hb dX2_searchFrom_0 rfl (lv_at hl 1 rfl) ?_
  refine lv_aload_n hx hb dX2_searchFrom_1 rfl (lv_at hl 0 rfl) ?_
  refine pg_gi (ci := 2) (C := RX2) (T := TX2) (N := 10) hx hb hts wi2 hown hK hW hk (by decide) rfl 6 (by decide) (hts (.fieldLink RX2 34 "IceHall$Mover" "size" "I") (by decide +kernel)) (fun _ h9 => h9) rfl dX2_searchFrom_2 ?_
  refine lv_icmp_ge (tgt := 13) hx hb dX2_searchFrom_5 (by decide) (fun c1 => ?_) (fun c1 => ?_)
  · have c1i : Int32.toInt (sI S h 6) ≤ Int32.toInt a := (i3_le _ _).mp c1
    refine lv_aload_n hx hb dX2_searchFrom_13 rfl (lv_at hl 0 rfl) ?_
    refine lv_iload_n hx hb dX2_searchFrom_14 rfl (lv_at hl 2 rfl) ?_
    refine pc_Vv (As := [.int b]) (rest := []) F (b_X2_keepBest l D cy A S h b hG hk) (cwV 1 hts gX2_searchFrom_X2_keepBest rfl rfl rfl (by decide +kernel) ⟨Nat.le_of_ble_eq_true rfl, Nat.le_of_ble_eq_true rfl⟩) hK hZ hA hW hS hk (by decide) rfl rfl hl.1 rfl (Nat.le_of_ble_eq_true rfl) dX2_searchFrom_15 ⟨Nat.le_of_ble_eq_true rfl, Nat.le_of_ble_eq_true rfl⟩ (fun T3 H locs p4 hW hS => ?_)
    obtain ⟨hG, hFc, p4⟩ := p4
    have hF : Fr [] [207, 1100] S T3 := hF.tr (hFc.mono (by decide))
    exact pc_vret (S := T3) hx hb hr hlk hK hZ hA hW hS (⟨hG, hF, trivial⟩) dX2_searchFrom_18
  · have c1i : ¬ (Int32.toInt (sI S h 6) ≤ Int32.toInt a) := fun h9 => c1 ((i3_le _ _).mpr h9)
    refine lv_iload_n hx hb dX2_searchFrom_8 rfl (lv_at hl 1 rfl) ?_
    refine lv_iconst (v := 5) hx hb dX2_searchFrom_9 (by decide) ?_
    refine lv_icmp_lt (tgt := 19) hx hb dX2_searchFrom_10 (by decide) (fun c5 => ?_) (fun c5 => ?_)
    · have c5i : Int32.toInt a < (5 : Int) := (i3_lt _ _).mp c5
      refine lv_iconst (v := 0) hx hb dX2_searchFrom_19 (by decide) ?_
      refine lv_istore_n (lv' := [(3, .int 0), (0, .ref h), (1, .int a), (2, .int b)]) hx hb dX2_searchFrom_20 rfl hl (by decide) rfl (fun ls hl => ?_)
      have loop21 : ∀ (zn : Nat) (y : Int32) (L21 : St) (H : Heap) (locs : List Loc) (ls : Array Slot), (G L21) → (Fr [] [207, 1100] S L21) → (0 ≤ y.toInt) → (15 - y.toInt).toNat < zn → PW D cy A L21 H → va_S A s.heap H locs → lv_has ls 7 [(0, .ref h), (1, .int a), (2, .int b), (3, .int y)] → W p l e ({ frames := 8, cells := 0, slots := 0, locals := 193 } : Room) s m args below meth c H locs 0 0 (MQ below (va_Qv (fun S1 => G S1 ∧ Fr [] [207, 1100] S S1 ∧ True) (PU D cy A) A) args s 0 0 A) (F0 m 21 ls []) := by
        intro zn
        induction zn with
        | zero => intros; exact absurd (by assumption) (Nat.not_lt_zero _)
        | succ zn ih21 =>
          intro y L21 H locs ls hG hL21 hy0 hme hW hS hl
          have hF := hL21
          refine lv_iload_n hx hb dX2_searchFrom_21 rfl (lv_at hl 3 rfl) ?_
          refine lv_bipush (v := 14) hx hb dX2_searchFrom_22 (by decide) ?_
          refine lv_icmp_gt (tgt := 135) hx hb dX2_searchFrom_24 (by decide) (fun c6 => ?_) (fun c6 => ?_)
          · have c6i : (14 : Int) < Int32.toInt y := (i3_lt _ _).mp c6
            exact pc_vret (S := L21) hx hb hr hlk hK hZ hA hW hS (⟨hG, hF, trivial⟩) dX2_searchFrom_135
          · have c6i : ¬ ((14 : Int) < Int32.toInt y) := fun h9 => c6 ((i3_lt _ _).mpr h9)
            refine lv_iload_n hx hb dX2_searchFrom_27 rfl (lv_at hl 2 rfl) ?_
            refine lv_iload_n hx hb dX2_searchFrom_28 rfl (lv_at hl 3 rfl) ?_
            refine pc_Si (As := [.int y]) (rest := [.int b]) F (b_X2_costOf l D cy A L21 y ) (va_cwS 1 hts gX2_searchFrom_X2_costOf rfl rfl rfl (by decide +kernel) ⟨Nat.le_of_ble_eq_true rfl, Nat.le_of_ble_eq_true rfl⟩) hK hZ hA hW hS rfl hl.1 rfl (Nat.le_of_ble_eq_true rfl) dX2_searchFrom_29 ⟨Nat.le_of_ble_eq_true rfl, Nat.le_of_ble_eq_true rfl⟩ (fun v7 T8 H locs p9 hW hS => ?_)
            obtain ⟨eT8, p9⟩ := p9
            rw [eT8] at hW
            clear eT8
            refine lv_iadd hx hb dX2_searchFrom_32 ?_
            refine lv_istore (lv' := [(4, .int (b + v7)), (0, .ref h), (1, .int a), (2, .int b), (3, .int y)]) hx hb dX2_searchFrom_33 hl (by decide) rfl (fun ls hl => ?_)
            refine lv_iload hx hb dX2_searchFrom_35 (lv_at hl 0 rfl) ?_
            refine lv_aload_n hx hb dX2_searchFrom_37 rfl (lv_at hl 1 rfl) ?_
            obtain ⟨b10, rb10, kb10, nb10⟩ := hG0.r hk List.not_mem_nil 5 (show rty 2 5 = some (11, 6) from rfl)
            refine pg_gr (b := b10) (ci := 2) (C := RX2) (T := TX2) (N := 10) hx hb hts wi2 hown hK hW (hF.k hk (by decide)) (by decide) rfl 5 (by decide) (hts (.fieldLink RX2 24 "IceHall$Mover" "leastFrom" "[I") (by decide +kernel)) (fun _ h9 => h9) rfl (hF.r hk (by decide) rb10) dX2_searchFrom_38 ?_
            refine lv_iload_n hx hb dX2_searchFrom_41 rfl (lv_at hl 2 rfl) ?_
            refine lv_iconst (v := 1) hx hb dX2_searchFrom_42 (by decide) ?_
            refine lv_iadd hx hb dX2_searchFrom_43 ?_
            have ha1 : (a + 1).toInt = a.toInt + 1 := i3_add rfl rfl (by omega) (by omega)
            refine pg_iald hx hb hK hW (hF.k kb10 (by decide)) (by decide) (by rw [show sL L21 b10 = 6 from (hF.n kb10 (by decide) nb10)]; exact r_in (by omega)) dX2_searchFrom_44 ?_
            refine lv_iadd hx hb dX2_searchFrom_45 ?_
            refine lv_aload_n hx hb dX2_searchFrom_46 rfl (lv_at hl 1 rfl) ?_
            refine pg_gi (ci := 2) (C := RX2) (T := TX2) (N := 10) hx hb hts wi2 hown hK hW (hF.k hk (by decide)) (by decide) rfl 7 (by decide) (hts (.fieldLink RX2 48 "IceHall$Mover" "bestCost" "I") (by decide +kernel)) (fun _ h9 => h9) rfl dX2_searchFrom_47 ?_
            refine lv_icmp_lt (tgt := 54) hx hb dX2_searchFrom_50 (by decide) (fun c11 => ?_) (fun c11 => ?_)
            · have c11i : Int32.toInt ((b + v7) + (sI L21 b10 (Int32.toNatClampNeg (a + 1)))) < Int32.toInt (sI L21 h 7) := (i3_lt _ _).mp c11
              refine lv_aload_n hx hb dX2_searchFrom_54 rfl (lv_at hl 1 rfl) ?_
              obtain ⟨b12, rb12, kb12, nb12⟩ := hG0.r hk List.not_mem_nil 3 (show rty 2 3 = some (11, 5) from rfl)
              refine pg_gr (b := b12) (ci := 2) (C := RX2) (T := TX2) (N := 10) hx hb hts wi2 hown hK hW (hF.k hk (by decide)) (by decide) rfl 3 (by decide) (hts (.fieldLink RX2 17 "IceHall$Mover" "row" "[I") (by decide +kernel)) (fun _ h9 => h9) rfl (hF.r hk (by decide) rb12) dX2_searchFrom_55 ?_
              refine lv_iload_n hx hb dX2_searchFrom_58 rfl (lv_at hl 2 rfl) ?_
              refine lv_iload_n hx hb dX2_searchFrom_59 rfl (lv_at hl 4 rfl) ?_
              refine pg_iast hx hb hK hW hS (hF.k kb12 (by decide)) (by decide) (by rw [show sL L21 b12 = 5 from (hF.n kb12 (by decide) nb12)]; exact r_in (by omega)) dX2_searchFrom_60 (fun H locs hW hS => ?_)
              have kq13 : sK L21 b12 = 11 := (hF.k kb12 (by decide))
              obtain ⟨S14, eS14⟩ : ∃ T : St, T = stI L21 b12 (Int32.toNatClampNeg a) y := ⟨_, rfl⟩
              rw [← eS14] at hW
              have hG : G S14 := by rw [eS14]; exact hG.I kq13 (ok_frA (by decide) (by decide))
              have hF : Fr [] [207, 1100] S S14 := by rw [eS14]; exact hF.IA kq13 (by decide) (by decide)
              clear eS14
              refine lv_iload_n hx hb dX2_searchFrom_61 rfl (lv_at hl 4 rfl) ?_
              refine lv_bipush (v := 14) hx hb dX2_searchFrom_62 (by decide) ?_
              refine lv_icmp_ne (tgt := 79) hx hb dX2_searchFrom_64 (by decide) (fun c15 => ?_) (fun c15 => ?_)
              · have c15i : ¬ (Int32.toInt y = (14 : Int)) := fun h9 => c15 ((i3_eq _ _).mpr h9)
                refine lv_aload_n hx hb dX2_searchFrom_79 rfl (lv_at hl 1 rfl) ?_
                refine lv_iload_n hx hb dX2_searchFrom_80 rfl (lv_at hl 2 rfl) ?_
                refine lv_iload_n hx hb dX2_searchFrom_81 rfl (lv_at hl 4 rfl) ?_
                refine pc_Vi (As := [.int a, .int y]) (rest := []) F (b_X2_canGo l D cy A S14 h a y hG (hF.k hk (by decide))) (cwV 2 hts gX2_searchFrom_X2_canGo rfl rfl rfl (by decide +kernel) ⟨Nat.le_of_ble_eq_true rfl, Nat.le_of_ble_eq_true rfl⟩) hK hZ hA hW hS (hF.k hk (by decide)) (by decide) rfl rfl hl.1 rfl (Nat.le_of_ble_eq_true rfl) dX2_searchFrom_82 ⟨Nat.le_of_ble_eq_true rfl, Nat.le_of_ble_eq_true rfl⟩ (fun v16 T17 H locs p18 hW hS => ?_)
                obtain ⟨eT17, p18⟩ := p18
                rw [eT17] at hW
                clear eT17
                refine lv_if_eq (tgt := 129) hx hb dX2_searchFrom_85 (by decide) (fun c19 => ?_) (fun c19 => ?_)
                · have c19i : Int32.toInt v16 = (0 : Int) := (i3_eq _ _).mp c19
                  refine lv_iinc (v := y + 1) (lv' := [(3, .int (y + 1)), (4, .int (b + v7)), (0, .ref h), (1, .int a), (2, .int b)]) hx hb dX2_searchFrom_129 hl (k := 4) rfl rfl (by decide) rfl (fun ls hl => ?_)
                  have i20 : (y + 1).toInt = (y).toInt + 1 := i3_add rfl rfl (by omega) (by omega)
                  refine lv_goto (tgt := 21) hx hb dX2_searchFrom_132 (by decide) ?_
                  exact ih21 (y + 1) S14 _ _ ls hG hF (by omega) (by omega) hW hS (lv_cast (lv_sub hl [2, 3, 4, 0] rfl) (rfl))
                · have c19i : ¬ (Int32.toInt v16 = (0 : Int)) := fun h9 => c19 ((i3_eq _ _).mpr h9)
                  refine lv_aload_n hx hb dX2_searchFrom_88 rfl (lv_at hl 1 rfl) ?_
                  refine lv_iload_n hx hb dX2_searchFrom_89 rfl (lv_at hl 4 rfl) ?_
                  refine pc_Vq (As := [.int y]) (rest := []) F (b_X2_iceOfWay l D cy A S14 h y hG (hF.k hk (by decide))) (cwV 1 hts gX2_searchFrom_X2_iceOfWay rfl rfl rfl (by decide +kernel) ⟨Nat.le_of_ble_eq_true rfl, Nat.le_of_ble_eq_true rfl⟩) hK hZ hA hW hS (hF.k hk (by decide)) (by decide) rfl rfl hl.1 rfl (Nat.le_of_ble_eq_true rfl) dX2_searchFrom_90 ⟨Nat.le_of_ble_eq_true rfl, Nat.le_of_ble_eq_true rfl⟩ (fun v21 T22 H locs p23 hW hS => ?_)
                  obtain ⟨eT22, p23⟩ := p23
                  rw [eT22] at hW
                  have hE25 : Fr [] [207, 1100] S14 S14 := Fr.rf _ _ _
                  obtain ⟨b24, erb24, kb24⟩ := p23
                  rw [erb24]
                  obtain ⟨b26, rb26, kb26, nb26⟩ := hG.r kb24 List.not_mem_nil 0 (show rty 1 0 = some (0, 0) from rfl)
                  refine pg_gr (b := b26) (ci := 1) (C := RX1) (T := TX1) (N := 10) hx hb hts wi1 hown hK hW kb24 (by decide) rfl 0 (by decide) (hts (.fieldLink RX2 70 "IceHall$Ice" "taken" "LIceHall$HourSet;") (by decide +kernel)) (fun _ h9 => h9) rfl rb26 dX2_searchFrom_93 ?_
                  refine lv_astore (lv' := [(5, .ref b26), (4, .int (b + v7)), (0, .ref h), (1, .int a), (2, .int b), (3, .int y)]) hx hb dX2_searchFrom_96 hl (by decide) rfl (fun ls hl => ?_)
                  refine lv_aload_n hx hb dX2_searchFrom_98 rfl (lv_at hl 2 rfl) ?_
                  refine lv_iload_n hx hb dX2_searchFrom_99 rfl (lv_at hl 3 rfl) ?_
                  refine lv_iload_n hx hb dX2_searchFrom_100 rfl (lv_at hl 5 rfl) ?_
                  refine pc_Vi (As := [.int a, .int y]) (rest := []) F (b_X2_hourOf l D cy A S14 h a y hG (hF.k hk (by decide))) (cwV 2 hts gX2_searchFrom_X2_hourOf rfl rfl rfl (by decide +kernel) ⟨Nat.le_of_ble_eq_true rfl, Nat.le_of_ble_eq_true rfl⟩) hK hZ hA hW hS (hF.k hk (by decide)) (by decide) rfl rfl hl.1 rfl (Nat.le_of_ble_eq_true rfl) dX2_searchFrom_101 ⟨Nat.le_of_ble_eq_true rfl, Nat.le_of_ble_eq_true rfl⟩ (fun v27 T28 H locs p29 hW hS => ?_)
                  obtain ⟨eT28, p29⟩ := p29
                  rw [eT28] at hW
                  clear eT28
                  refine lv_istore (lv' := [(6, .int v27), (5, .ref b26), (4, .int (b + v7)), (0, .ref h), (1, .int a), (2, .int b), (3, .int y)]) hx hb dX2_searchFrom_104 hl (by decide) rfl (fun ls hl => ?_)
                  refine lv_aload hx hb dX2_searchFrom_106 (lv_at hl 1 rfl) ?_
                  refine lv_iload hx hb dX2_searchFrom_108 (lv_at hl 0 rfl) ?_
                  refine pc_Vv (As := [.int v27]) (rest := []) F (b_X0_put l D cy A S14 b26 v27 hG kb26) (cwV 1 hts gX2_searchFrom_X0_put rfl rfl rfl (by decide +kernel) ⟨Nat.le_of_ble_eq_true rfl, Nat.le_of_ble_eq_true rfl⟩) hK hZ hA hW hS kb26 (by decide) rfl rfl hl.1 rfl (Nat.le_of_ble_eq_true rfl) dX2_searchFrom_110 ⟨Nat.le_of_ble_eq_true rfl, Nat.le_of_ble_eq_true rfl⟩ (fun T31 H locs p32 hW hS => ?_)
                  obtain ⟨hG, hFc, p32⟩ := p32
                  have hF : Fr [] [207, 1100] S T31 := hF.tr (hFc.mono (by decide))
                  have hE25 : Fr [] [207, 1100] S14 T31 := hE25.tr (hFc.mono (by decide))
                  refine lv_aload_n hx hb dX2_searchFrom_113 rfl (lv_at hl 3 rfl) ?_
                  refine lv_iload_n hx hb dX2_searchFrom_114 rfl (lv_at hl 4 rfl) ?_
                  refine lv_iconst (v := 1) hx hb dX2_searchFrom_115 (by decide) ?_
                  refine lv_iadd hx hb dX2_searchFrom_116 ?_
                  refine lv_iload hx hb dX2_searchFrom_117 (lv_at hl 2 rfl) ?_
                  refine pc_Sv (As := [.ref h, .int (a + 1), .int (b + v7)]) (rest := []) F (b_X2_searchFrom_3 l D cy A T31 h (a + 1) (b + v7) hG (hF.k hk (by decide)) (by omega) (by omega)) (va_cwS 3 hts gX2_searchFrom_X2_searchFrom rfl rfl rfl (by decide +kernel) ⟨Nat.le_of_ble_eq_true rfl, Nat.le_of_ble_eq_true rfl⟩) hK hZ hA hW hS rfl hl.1 rfl (Nat.le_of_ble_eq_true rfl) dX2_searchFrom_119 ⟨Nat.le_of_ble_eq_true rfl, Nat.le_of_ble_eq_true rfl⟩ (fun T34 H locs p35 hW hS => ?_)
                  obtain ⟨hG, hFc, p35⟩ := p35
                  have hF : Fr [] [207, 1100] S T34 := hF.tr (hFc.mono (by decide))
                  have hE25 : Fr [] [207, 1100] S14 T34 := hE25.tr (hFc.mono (by decide))
                  refine lv_aload hx hb dX2_searchFrom_122 (lv_at hl 1 rfl) ?_
                  refine lv_iload hx hb dX2_searchFrom_124 (lv_at hl 0 rfl) ?_
                  refine pc_Vv (As := [.int v27]) (rest := []) F (b_X0_drop l D cy A T34 b26 v27 hG (hE25.k kb26 (by decide))) (cwV 1 hts gX2_searchFrom_X0_drop rfl rfl rfl (by decide +kernel) ⟨Nat.le_of_ble_eq_true rfl, Nat.le_of_ble_eq_true rfl⟩) hK hZ hA hW hS (hE25.k kb26 (by decide)) (by decide) rfl rfl hl.1 rfl (Nat.le_of_ble_eq_true rfl) dX2_searchFrom_126 ⟨Nat.le_of_ble_eq_true rfl, Nat.le_of_ble_eq_true rfl⟩ (fun T37 H locs p38 hW hS => ?_)
                  obtain ⟨hG, hFc, p38⟩ := p38
                  have hF : Fr [] [207, 1100] S T37 := hF.tr (hFc.mono (by decide))
                  have hE25 : Fr [] [207, 1100] S14 T37 := hE25.tr (hFc.mono (by decide))
                  refine lv_iinc (v := y + 1) (lv' := [(3, .int (y + 1)), (6, .int v27), (5, .ref b26), (4, .int (b + v7)), (0, .ref h), (1, .int a), (2, .int b)]) hx hb dX2_searchFrom_129 hl (k := 6) rfl rfl (by decide) rfl (fun ls hl => ?_)
                  have i39 : (y + 1).toInt = (y).toInt + 1 := i3_add rfl rfl (by omega) (by omega)
                  refine lv_goto (tgt := 21) hx hb dX2_searchFrom_132 (by decide) ?_
                  exact ih21 (y + 1) T37 _ _ ls hG hF (by omega) (by omega) hW hS (lv_cast (lv_sub hl [4, 5, 6, 0] rfl) (rfl))
              · have c15i : Int32.toInt y = (14 : Int) := (i3_eq _ _).mp c15
                refine lv_aload_n hx hb dX2_searchFrom_67 rfl (lv_at hl 1 rfl) ?_
                refine lv_iload_n hx hb dX2_searchFrom_68 rfl (lv_at hl 2 rfl) ?_
                refine lv_iconst (v := 1) hx hb dX2_searchFrom_69 (by decide) ?_
                refine lv_iadd hx hb dX2_searchFrom_70 ?_
                refine lv_iload hx hb dX2_searchFrom_71 (lv_at hl 0 rfl) ?_
                refine pc_Sv (As := [.ref h, .int (a + 1), .int (b + v7)]) (rest := []) F (b_X2_searchFrom_3 l D cy A S14 h (a + 1) (b + v7) hG (hF.k hk (by decide)) (by omega) (by omega)) (va_cwS 3 hts gX2_searchFrom_X2_searchFrom rfl rfl rfl (by decide +kernel) ⟨Nat.le_of_ble_eq_true rfl, Nat.le_of_ble_eq_true rfl⟩) hK hZ hA hW hS rfl hl.1 rfl (Nat.le_of_ble_eq_true rfl) dX2_searchFrom_73 ⟨Nat.le_of_ble_eq_true rfl, Nat.le_of_ble_eq_true rfl⟩ (fun T41 H locs p42 hW hS => ?_)
                obtain ⟨hG, hFc, p42⟩ := p42
                have hF : Fr [] [207, 1100] S T41 := hF.tr (hFc.mono (by decide))
                refine lv_goto (tgt := 129) hx hb dX2_searchFrom_76 (by decide) ?_
                refine lv_iinc (v := y + 1) (lv' := [(3, .int (y + 1)), (4, .int (b + v7)), (0, .ref h), (1, .int a), (2, .int b)]) hx hb dX2_searchFrom_129 hl (k := 4) rfl rfl (by decide) rfl (fun ls hl => ?_)
                have i43 : (y + 1).toInt = (y).toInt + 1 := i3_add rfl rfl (by omega) (by omega)
                refine lv_goto (tgt := 21) hx hb dX2_searchFrom_132 (by decide) ?_
                exact ih21 (y + 1) T41 _ _ ls hG hF (by omega) (by omega) hW hS (lv_cast (lv_sub hl [2, 3, 4, 0] rfl) (rfl))
            · have c11i : ¬ (Int32.toInt ((b + v7) + (sI L21 b10 (Int32.toNatClampNeg (a + 1)))) < Int32.toInt (sI L21 h 7)) := fun h9 => c11 ((i3_lt _ _).mpr h9)
              exact pc_vret (S := L21) hx hb hr hlk hK hZ hA hW hS (⟨hG, hF, trivial⟩) dX2_searchFrom_53
      exact loop21 _ 0 S _ _ ls hG hF (by decide) (Nat.lt_succ_self _) hW hS (lv_cast (lv_sub hl [1, 2, 3, 0] rfl) (rfl))
    · have c5i : ¬ (Int32.toInt a < (5 : Int)) := fun h9 => c5 ((i3_lt _ _).mpr h9)
      refine lv_aload_n hx hb dX2_searchFrom_13 rfl (lv_at hl 0 rfl) ?_
      refine lv_iload_n hx hb dX2_searchFrom_14 rfl (lv_at hl 2 rfl) ?_
      refine pc_Vv (As := [.int b]) (rest := []) F (b_X2_keepBest l D cy A S h b hG hk) (cwV 1 hts gX2_searchFrom_X2_keepBest rfl rfl rfl (by decide +kernel) ⟨Nat.le_of_ble_eq_true rfl, Nat.le_of_ble_eq_true rfl⟩) hK hZ hA hW hS hk (by decide) rfl rfl hl.1 rfl (Nat.le_of_ble_eq_true rfl) dX2_searchFrom_15 ⟨Nat.le_of_ble_eq_true rfl, Nat.le_of_ble_eq_true rfl⟩ (fun T45 H locs p46 hW hS => ?_)
      obtain ⟨hG, hFc, p46⟩ := p46
      have hF : Fr [] [207, 1100] S T45 := hF.tr (hFc.mono (by decide))
      exact pc_vret (S := T45) hx hb hr hlk hK hZ hA hW hS (⟨hG, hF, trivial⟩) dX2_searchFrom_18
set_option maxHeartbeats 4000000 in
set_option maxRecDepth 100000 in
theorem b_X2_searchFrom_5 (l : Launch) (D : va_G) (cy : Nat → ClassId) (A : Nat → Prop) (S : St) (h : Nat) (a b : Int32) (hG0 : G S) (hk : sK S h = 2) (ha : 0 ≤ a.toInt) (ha5 : a.toInt ≤ 5) : MV l yX2_searchFrom wsX2_searchFrom ({ frames := 9, cells := 0, slots := 0, locals := 219 } : Room) 0 0 D cy A [.ref h, .int a, .int b] S (fun S1 => G S1 ∧ Fr [] [207, 1100] S S1 ∧ True) := by
  refine mt_start (cc := cX2_searchFrom) (maxL := 7) (ret := none) (by decide) rfl (Nat.le_of_ble_eq_true rfl) ?_
  intro p e s m args below meth c hx hb hr hlk hml hown hnm hts hK hZ hA hW hS ls hl
  have hl : lv_has ls 7 [(0, .ref h), (1, .int a), (2, .int b)] := hl
  have hown : s.vm.findClass RX2 = some m.cls := hown
  have F : CallFix p m c cX2_searchFrom 7 s args wsX2_searchFrom RX2 := ⟨hx, hb, hml, hown, hts⟩
  have wi1 : ∀ w ∈ u_ws RX1 TX1 10, w ∈ wsX2_searchFrom := by decide +kernel
  have wi2 : ∀ w ∈ u_ws RX2 TX2 10, w ∈ wsX2_searchFrom := by decide +kernel
  have hG := hG0
  have hF : Fr [] [207, 1100] S S := Fr.rf _ _ _
  refine lv_iload_n hx hb dX2_searchFrom_0 rfl (lv_at hl 1 rfl) ?_
  refine lv_aload_n hx hb dX2_searchFrom_1 rfl (lv_at hl 0 rfl) ?_
  refine pg_gi (ci := 2) (C := RX2) (T := TX2) (N := 10) hx hb hts wi2 hown hK hW hk (by decide) rfl 6 (by decide) (hts (.fieldLink RX2 34 "IceHall$Mover" "size" "I") (by decide +kernel)) (fun _ h9 => h9) rfl dX2_searchFrom_2 ?_
  refine lv_icmp_ge (tgt := 13) hx hb dX2_searchFrom_5 (by decide) (fun c1 => ?_) (fun c1 => ?_)
  · have c1i : Int32.toInt (sI S h 6) ≤ Int32.toInt a := (i3_le _ _).mp c1
    refine lv_aload_n hx hb dX2_searchFrom_13 rfl (lv_at hl 0 rfl) ?_
    refine lv_iload_n hx hb dX2_searchFrom_14 rfl (lv_at hl 2 rfl) ?_
    refine pc_Vv (As := [.int b]) (rest := []) F (b_X2_keepBest l D cy A S h b hG hk) (cwV 1 hts gX2_searchFrom_X2_keepBest rfl rfl rfl (by decide +kernel) ⟨Nat.le_of_ble_eq_true rfl, Nat.le_of_ble_eq_true rfl⟩) hK hZ hA hW hS hk (by decide) rfl rfl hl.1 rfl (Nat.le_of_ble_eq_true rfl) dX2_searchFrom_15 ⟨Nat.le_of_ble_eq_true rfl, Nat.le_of_ble_eq_true rfl⟩ (fun T3 H locs p4 hW hS => ?_)
    obtain ⟨hG, hFc, p4⟩ := p4
    have hF : Fr [] [207, 1100] S T3 := hF.tr (hFc.mono (by decide))
    exact pc_vret (S := T3) hx hb hr hlk hK hZ hA hW hS (⟨hG, hF, trivial⟩) dX2_searchFrom_18
  · have c1i : ¬ (Int32.toInt (sI S h 6) ≤ Int32.toInt a) := fun h9 => c1 ((i3_le _ _).mpr h9)
    refine lv_iload_n hx hb dX2_searchFrom_8 rfl (lv_at hl 1 rfl) ?_
    refine lv_iconst (v := 5) hx hb dX2_searchFrom_9 (by decide) ?_
    refine lv_icmp_lt (tgt := 19) hx hb dX2_searchFrom_10 (by decide) (fun c5 => ?_) (fun c5 => ?_)
    · have c5i : Int32.toInt a < (5 : Int) := (i3_lt _ _).mp c5
      refine lv_iconst (v := 0) hx hb dX2_searchFrom_19 (by decide) ?_
      refine lv_istore_n (lv' := [(3, .int 0), (0, .ref h), (1, .int a), (2, .int b)]) hx hb dX2_searchFrom_20 rfl hl (by decide) rfl (fun ls hl => ?_)
      have loop21 : ∀ (zn : Nat) (y : Int32) (L21 : St) (H : Heap) (locs : List Loc) (ls : Array Slot), (G L21) → (Fr [] [207, 1100] S L21) → (0 ≤ y.toInt) → (15 - y.toInt).toNat < zn → PW D cy A L21 H → va_S A s.heap H locs → lv_has ls 7 [(0, .ref h), (1, .int a), (2, .int b), (3, .int y)] → W p l e ({ frames := 9, cells := 0, slots := 0, locals := 219 } : Room) s m args below meth c H locs 0 0 (MQ below (va_Qv (fun S1 => G S1 ∧ Fr [] [207, 1100] S S1 ∧ True) (PU D cy A) A) args s 0 0 A) (F0 m 21 ls []) := by
        intro zn
        induction zn with
        | zero => intros; exact absurd (by assumption) (Nat.not_lt_zero _)
        | succ zn ih21 =>
          intro y L21 H locs ls hG hL21 hy0 hme hW hS hl
          have hF := hL21
          refine lv_iload_n hx hb dX2_searchFrom_21 rfl (lv_at hl 3 rfl) ?_
          refine lv_bipush (v := 14) hx hb dX2_searchFrom_22 (by decide) ?_
          refine lv_icmp_gt (tgt := 135) hx hb dX2_searchFrom_24 (by decide) (fun c6 => ?_) (fun c6 => ?_)
          · have c6i : (14 : Int) < Int32.toInt y := (i3_lt _ _).mp c6
            exact pc_vret (S := L21) hx hb hr hlk hK hZ hA hW hS (⟨hG, hF, trivial⟩) dX2_searchFrom_135
          · have c6i : ¬ ((14 : Int) < Int32.toInt y) := fun h9 => c6 ((i3_lt _ _).mpr h9)
            refine lv_iload_n hx hb dX2_searchFrom_27 rfl (lv_at hl 2 rfl) ?_
            refine lv_iload_n hx hb dX2_searchFrom_28 rfl (lv_at hl 3 rfl) ?_
            refine pc_Si (As := [.int y]) (rest := [.int b]) F (b_X2_costOf l D cy A L21 y ) (va_cwS 1 hts gX2_searchFrom_X2_costOf rfl rfl rfl (by decide +kernel) ⟨Nat.le_of_ble_eq_true rfl, Nat.le_of_ble_eq_true rfl⟩) hK hZ hA hW hS rfl hl.1 rfl (Nat.le_of_ble_eq_true rfl) dX2_searchFrom_29 ⟨Nat.le_of_ble_eq_true rfl, Nat.le_of_ble_eq_true rfl⟩ (fun v7 T8 H locs p9 hW hS => ?_)
            obtain ⟨eT8, p9⟩ := p9
            rw [eT8] at hW
            clear eT8
            refine lv_iadd hx hb dX2_searchFrom_32 ?_
            refine lv_istore (lv' := [(4, .int (b + v7)), (0, .ref h), (1, .int a), (2, .int b), (3, .int y)]) hx hb dX2_searchFrom_33 hl (by decide) rfl (fun ls hl => ?_)
            refine lv_iload hx hb dX2_searchFrom_35 (lv_at hl 0 rfl) ?_
            refine lv_aload_n hx hb dX2_searchFrom_37 rfl (lv_at hl 1 rfl) ?_
            obtain ⟨b10, rb10, kb10, nb10⟩ := hG0.r hk List.not_mem_nil 5 (show rty 2 5 = some (11, 6) from rfl)
            refine pg_gr (b := b10) (ci := 2) (C := RX2) (T := TX2) (N := 10) hx hb hts wi2 hown hK hW (hF.k hk (by decide)) (by decide) rfl 5 (by decide) (hts (.fieldLink RX2 24 "IceHall$Mover" "leastFrom" "[I") (by decide +kernel)) (fun _ h9 => h9) rfl (hF.r hk (by decide) rb10) dX2_searchFrom_38 ?_
            refine lv_iload_n hx hb dX2_searchFrom_41 rfl (lv_at hl 2 rfl) ?_
            refine lv_iconst (v := 1) hx hb dX2_searchFrom_42 (by decide) ?_
            refine lv_iadd hx hb dX2_searchFrom_43 ?_
            have ha1 : (a + 1).toInt = a.toInt + 1 := i3_add rfl rfl (by omega) (by omega)
            refine pg_iald hx hb hK hW (hF.k kb10 (by decide)) (by decide) (by rw [show sL L21 b10 = 6 from (hF.n kb10 (by decide) nb10)]; exact r_in (by omega)) dX2_searchFrom_44 ?_
            refine lv_iadd hx hb dX2_searchFrom_45 ?_
            refine lv_aload_n hx hb dX2_searchFrom_46 rfl (lv_at hl 1 rfl) ?_
            refine pg_gi (ci := 2) (C := RX2) (T := TX2) (N := 10) hx hb hts wi2 hown hK hW (hF.k hk (by decide)) (by decide) rfl 7 (by decide) (hts (.fieldLink RX2 48 "IceHall$Mover" "bestCost" "I") (by decide +kernel)) (fun _ h9 => h9) rfl dX2_searchFrom_47 ?_
            refine lv_icmp_lt (tgt := 54) hx hb dX2_searchFrom_50 (by decide) (fun c11 => ?_) (fun c11 => ?_)
            · have c11i : Int32.toInt ((b + v7) + (sI L21 b10 (Int32.toNatClampNeg (a + 1)))) < Int32.toInt (sI L21 h 7) := (i3_lt _ _).mp c11
              refine lv_aload_n hx hb dX2_searchFrom_54 rfl (lv_at hl 1 rfl) ?_
              obtain ⟨b12, rb12, kb12, nb12⟩ := hG0.r hk List.not_mem_nil 3 (show rty 2 3 = some (11, 5) from rfl)
              refine pg_gr (b := b12) (ci := 2) (C := RX2) (T := TX2) (N := 10) hx hb hts wi2 hown hK hW (hF.k hk (by decide)) (by decide) rfl 3 (by decide) (hts (.fieldLink RX2 17 "IceHall$Mover" "row" "[I") (by decide +kernel)) (fun _ h9 => h9) rfl (hF.r hk (by decide) rb12) dX2_searchFrom_55 ?_
              refine lv_iload_n hx hb dX2_searchFrom_58 rfl (lv_at hl 2 rfl) ?_
              refine lv_iload_n hx hb dX2_searchFrom_59 rfl (lv_at hl 4 rfl) ?_
              refine pg_iast hx hb hK hW hS (hF.k kb12 (by decide)) (by decide) (by rw [show sL L21 b12 = 5 from (hF.n kb12 (by decide) nb12)]; exact r_in (by omega)) dX2_searchFrom_60 (fun H locs hW hS => ?_)
              have kq13 : sK L21 b12 = 11 := (hF.k kb12 (by decide))
              obtain ⟨S14, eS14⟩ : ∃ T : St, T = stI L21 b12 (Int32.toNatClampNeg a) y := ⟨_, rfl⟩
              rw [← eS14] at hW
              have hG : G S14 := by rw [eS14]; exact hG.I kq13 (ok_frA (by decide) (by decide))
              have hF : Fr [] [207, 1100] S S14 := by rw [eS14]; exact hF.IA kq13 (by decide) (by decide)
              clear eS14
              refine lv_iload_n hx hb dX2_searchFrom_61 rfl (lv_at hl 4 rfl) ?_
              refine lv_bipush (v := 14) hx hb dX2_searchFrom_62 (by decide) ?_
              refine lv_icmp_ne (tgt := 79) hx hb dX2_searchFrom_64 (by decide) (fun c15 => ?_) (fun c15 => ?_)
              · have c15i : ¬ (Int32.toInt y = (14 : Int)) := fun h9 => c15 ((i3_eq _ _).mpr h9)
                refine lv_aload_n hx hb dX2_searchFrom_79 rfl (lv_at hl 1 rfl) ?_
                refine lv_iload_n hx hb dX2_searchFrom_80 rfl (lv_at hl 2 rfl) ?_
                refine lv_iload_n hx hb dX2_searchFrom_81 rfl (lv_at hl 4 rfl) ?_
                refine pc_Vi (As := [.int a, .int y]) (rest := []) F (b_X2_canGo l D cy A S14 h a y hG (hF.k hk (by decide))) (cwV 2 hts gX2_searchFrom_X2_canGo rfl rfl rfl (by decide +kernel) ⟨Nat.le_of_ble_eq_true rfl, Nat.le_of_ble_eq_true rfl⟩) hK hZ hA hW hS (hF.k hk (by decide)) (by decide) rfl rfl hl.1 rfl (Nat.le_of_ble_eq_true rfl) dX2_searchFrom_82 ⟨Nat.le_of_ble_eq_true rfl, Nat.le_of_ble_eq_true rfl⟩ (fun v16 T17 H locs p18 hW hS => ?_)
                obtain ⟨eT17, p18⟩ := p18
                rw [eT17] at hW
                clear eT17
                refine lv_if_eq (tgt := 129) hx hb dX2_searchFrom_85 (by decide) (fun c19 => ?_) (fun c19 => ?_)
                · have c19i : Int32.toInt v16 = (0 : Int) := (i3_eq _ _).mp c19
                  refine lv_iinc (v := y + 1) (lv' := [(3, .int (y + 1)), (4, .int (b + v7)), (0, .ref h), (1, .int a), (2, .int b)]) hx hb dX2_searchFrom_129 hl (k := 4) rfl rfl (by decide) rfl (fun ls hl => ?_)
                  have i20 : (y + 1).toInt = (y).toInt + 1 := i3_add rfl rfl (by omega) (by omega)
                  refine lv_goto (tgt := 21) hx hb dX2_searchFrom_132 (by decide) ?_
                  exact ih21 (y + 1) S14 _ _ ls hG hF (by omega) (by omega) hW hS (lv_cast (lv_sub hl [2, 3, 4, 0] rfl) (rfl))
                · have c19i : ¬ (Int32.toInt v16 = (0 : Int)) := fun h9 => c19 ((i3_eq _ _).mpr h9)
                  refine lv_aload_n hx hb dX2_searchFrom_88 rfl (lv_at hl 1 rfl) ?_
                  refine lv_iload_n hx hb dX2_searchFrom_89 rfl (lv_at hl 4 rfl) ?_
                  refine pc_Vq (As := [.int y]) (rest := []) F (b_X2_iceOfWay l D cy A S14 h y hG (hF.k hk (by decide))) (cwV 1 hts gX2_searchFrom_X2_iceOfWay rfl rfl rfl (by decide +kernel) ⟨Nat.le_of_ble_eq_true rfl, Nat.le_of_ble_eq_true rfl⟩) hK hZ hA hW hS (hF.k hk (by decide)) (by decide) rfl rfl hl.1 rfl (Nat.le_of_ble_eq_true rfl) dX2_searchFrom_90 ⟨Nat.le_of_ble_eq_true rfl, Nat.le_of_ble_eq_true rfl⟩ (fun v21 T22 H locs p23 hW hS => ?_)
                  obtain ⟨eT22, p23⟩ := p23
                  rw [eT22] at hW
                  have hE25 : Fr [] [207, 1100] S14 S14 := Fr.rf _ _ _
                  obtain ⟨b24, erb24, kb24⟩ := p23
                  rw [erb24]
                  obtain ⟨b26, rb26, kb26, nb26⟩ := hG.r kb24 List.not_mem_nil 0 (show rty 1 0 = some (0, 0) from rfl)
                  refine pg_gr (b := b26) (ci := 1) (C := RX1) (T := TX1) (N := 10) hx hb hts wi1 hown hK hW kb24 (by decide) rfl 0 (by decide) (hts (.fieldLink RX2 70 "IceHall$Ice" "taken" "LIceHall$HourSet;") (by decide +kernel)) (fun _ h9 => h9) rfl rb26 dX2_searchFrom_93 ?_
                  refine lv_astore (lv' := [(5, .ref b26), (4, .int (b + v7)), (0, .ref h), (1, .int a), (2, .int b), (3, .int y)]) hx hb dX2_searchFrom_96 hl (by decide) rfl (fun ls hl => ?_)
                  refine lv_aload_n hx hb dX2_searchFrom_98 rfl (lv_at hl 2 rfl) ?_
                  refine lv_iload_n hx hb dX2_searchFrom_99 rfl (lv_at hl 3 rfl) ?_
                  refine lv_iload_n hx hb dX2_searchFrom_100 rfl (lv_at hl 5 rfl) ?_
                  refine pc_Vi (As := [.int a, .int y]) (rest := []) F (b_X2_hourOf l D cy A S14 h a y hG (hF.k hk (by decide))) (cwV 2 hts gX2_searchFrom_X2_hourOf rfl rfl rfl (by decide +kernel) ⟨Nat.le_of_ble_eq_true rfl, Nat.le_of_ble_eq_true rfl⟩) hK hZ hA hW hS (hF.k hk (by decide)) (by decide) rfl rfl hl.1 rfl (Nat.le_of_ble_eq_true rfl) dX2_searchFrom_101 ⟨Nat.le_of_ble_eq_true rfl, Nat.le_of_ble_eq_true rfl⟩ (fun v27 T28 H locs p29 hW hS => ?_)
                  obtain ⟨eT28, p29⟩ := p29
                  rw [eT28] at hW
                  clear eT28
                  refine lv_istore (lv' := [(6, .int v27), (5, .ref b26), (4, .int (b + v7)), (0, .ref h), (1, .int a), (2, .int b), (3, .int y)]) hx hb dX2_searchFrom_104 hl (by decide) rfl (fun ls hl => ?_)
                  refine lv_aload hx hb dX2_searchFrom_106 (lv_at hl 1 rfl) ?_
                  refine lv_iload hx hb dX2_searchFrom_108 (lv_at hl 0 rfl) ?_
                  refine pc_Vv (As := [.int v27]) (rest := []) F (b_X0_put l D cy A S14 b26 v27 hG kb26) (cwV 1 hts gX2_searchFrom_X0_put rfl rfl rfl (by decide +kernel) ⟨Nat.le_of_ble_eq_true rfl, Nat.le_of_ble_eq_true rfl⟩) hK hZ hA hW hS kb26 (by decide) rfl rfl hl.1 rfl (Nat.le_of_ble_eq_true rfl) dX2_searchFrom_110 ⟨Nat.le_of_ble_eq_true rfl, Nat.le_of_ble_eq_true rfl⟩ (fun T31 H locs p32 hW hS => ?_)
                  obtain ⟨hG, hFc, p32⟩ := p32
                  have hF : Fr [] [207, 1100] S T31 := hF.tr (hFc.mono (by decide))
                  have hE25 : Fr [] [207, 1100] S14 T31 := hE25.tr (hFc.mono (by decide))
                  refine lv_aload_n hx hb dX2_searchFrom_113 rfl (lv_at hl 3 rfl) ?_
                  refine lv_iload_n hx hb dX2_searchFrom_114 rfl (lv_at hl 4 rfl) ?_
                  refine lv_iconst (v := 1) hx hb dX2_searchFrom_115 (by decide) ?_
                  refine lv_iadd hx hb dX2_searchFrom_116 ?_
                  refine lv_iload hx hb dX2_searchFrom_117 (lv_at hl 2 rfl) ?_
                  refine pc_Sv (As := [.ref h, .int (a + 1), .int (b + v7)]) (rest := []) F (b_X2_searchFrom_4 l D cy A T31 h (a + 1) (b + v7) hG (hF.k hk (by decide)) (by omega) (by omega)) (va_cwS 3 hts gX2_searchFrom_X2_searchFrom rfl rfl rfl (by decide +kernel) ⟨Nat.le_of_ble_eq_true rfl, Nat.le_of_ble_eq_true rfl⟩) hK hZ hA hW hS rfl hl.1 rfl (Nat.le_of_ble_eq_true rfl) dX2_searchFrom_119 ⟨Nat.le_of_ble_eq_true rfl, Nat.le_of_ble_eq_true rfl⟩ (fun T34 H locs p35 hW hS => ?_)
                  obtain ⟨hG, hFc, p35⟩ := p35
                  have hF : Fr [] [207, 1100] S T34 := hF.tr (hFc.mono (by decide))
                  have hE25 : Fr [] [207, 1100] S14 T34 := hE25.tr (hFc.mono (by decide))
                  refine lv_aload hx hb dX2_searchFrom_122 (lv_at hl 1 rfl) ?_
                  refine lv_iload hx hb dX2_searchFrom_124 (lv_at hl 0 rfl) ?_
                  refine pc_Vv (As := [.int v27]) (rest := []) F (b_X0_drop l D cy A T34 b26 v27 hG (hE25.k kb26 (by decide))) (cwV 1 hts gX2_searchFrom_X0_drop rfl rfl rfl (by decide +kernel) ⟨Nat.le_of_ble_eq_true rfl, Nat.le_of_ble_eq_true rfl⟩) hK hZ hA hW hS (hE25.k kb26 (by decide)) (by decide) rfl rfl hl.1 rfl (Nat.le_of_ble_eq_true rfl) dX2_searchFrom_126 ⟨Nat.le_of_ble_eq_true rfl, Nat.le_of_ble_eq_true rfl⟩ (fun T37 H locs p38 hW hS => ?_)
                  obtain ⟨hG, hFc, p38⟩ := p38
                  have hF : Fr [] [207, 1100] S T37 := hF.tr (hFc.mono (by decide))
                  have hE25 : Fr [] [207, 1100] S14 T37 := hE25.tr (hFc.mono (by decide))
                  refine lv_iinc (v := y + 1) (lv' := [(3, .int (y + 1)), (6, .int v27), (5, .ref b26), (4, .int (b + v7)), (0, .ref h), (1, .int a), (2, .int b)]) hx hb dX2_searchFrom_129 hl (k := 6) rfl rfl (by decide) rfl (fun ls hl => ?_)
                  have i39 : (y + 1).toInt = (y).toInt + 1 := i3_add rfl rfl (by omega) (by omega)
                  refine lv_goto (tgt := 21) hx hb dX2_searchFrom_132 (by decide) ?_
                  exact ih21 (y + 1) T37 _ _ ls hG hF (by omega) (by omega) hW hS (lv_cast (lv_sub hl [4, 5, 6, 0] rfl) (rfl))
              · have c15i : Int32.toInt y = (14 : Int) := (i3_eq _ _).mp c15
                refine lv_aload_n hx hb dX2_searchFrom_67 rfl (lv_at hl 1 rfl) ?_
                refine lv_iload_n hx hb dX2_searchFrom_68 rfl (lv_at hl 2 rfl) ?_
                refine lv_iconst (v := 1) hx hb dX2_searchFrom_69 (by decide) ?_
                refine lv_iadd hx hb dX2_searchFrom_70 ?_
                refine lv_iload hx hb dX2_searchFrom_71 (lv_at hl 0 rfl) ?_
                refine pc_Sv (As := [.ref h, .int (a + 1), .int (b + v7)]) (rest := []) F (b_X2_searchFrom_4 l D cy A S14 h (a + 1) (b + v7) hG (hF.k hk (by decide)) (by omega) (by omega)) (va_cwS 3 hts gX2_searchFrom_X2_searchFrom rfl rfl rfl (by decide +kernel) ⟨Nat.le_of_ble_eq_true rfl, Nat.le_of_ble_eq_true rfl⟩) hK hZ hA hW hS rfl hl.1 rfl (Nat.le_of_ble_eq_true rfl) dX2_searchFrom_73 ⟨Nat.le_of_ble_eq_true rfl, Nat.le_of_ble_eq_true rfl⟩ (fun T41 H locs p42 hW hS => ?_)
                obtain ⟨hG, hFc, p42⟩ := p42
                have hF : Fr [] [207, 1100] S T41 := hF.tr (hFc.mono (by decide))
                refine lv_goto (tgt := 129) hx hb dX2_searchFrom_76 (by decide) ?_
                refine lv_iinc (v := y + 1) (lv' := [(3, .int (y + 1)), (4, .int (b + v7)), (0, .ref h), (1, .int a), (2, .int b)]) hx hb dX2_searchFrom_129 hl (k := 4) rfl rfl (by decide) rfl (fun ls hl => ?_)
                have i43 : (y + 1).toInt = (y).toInt + 1 := i3_add rfl rfl (by omega) (by omega)
                refine lv_goto (tgt := 21) hx hb dX2_searchFrom_132 (by decide) ?_
                exact ih21 (y + 1) T41 _ _ ls hG hF (by omega) (by omega) hW hS (lv_cast (lv_sub hl [2, 3, 4, 0] rfl) (rfl))
            · have c11i : ¬ (Int32.toInt ((b + v7) + (sI L21 b10 (Int32.toNatClampNeg (a + 1)))) < Int32.toInt (sI L21 h 7)) := fun h9 => c11 ((i3_lt _ _).mpr h9)
              exact pc_vret (S := L21) hx hb hr hlk hK hZ hA hW hS (⟨hG, hF, trivial⟩) dX2_searchFrom_53
      exact loop21 _ 0 S _ _ ls hG hF (by decide) (Nat.lt_succ_self _) hW hS (lv_cast (lv_sub hl [1, 2, 3, 0] rfl) (rfl))
    · have c5i : ¬ (Int32.toInt a < (5 : Int)) := fun h9 => c5 ((i3_lt _ _).mpr h9)
      refine lv_aload_n hx hb dX2_searchFrom_13 rfl (lv_at hl 0 rfl) ?_
      refine lv_iload_n hx hb dX2_searchFrom_14 rfl (lv_at hl 2 rfl) ?_
      refine pc_Vv (As := [.int b]) (rest := []) F (b_X2_keepBest l D cy A S h b hG hk) (cwV 1 hts gX2_searchFrom_X2_keepBest rfl rfl rfl (by decide +kernel) ⟨Nat.le_of_ble_eq_true rfl, Nat.le_of_ble_eq_true rfl⟩) hK hZ hA hW hS hk (by decide) rfl rfl hl.1 rfl (Nat.le_of_ble_eq_true rfl) dX2_searchFrom_15 ⟨Nat.le_of_ble_eq_true rfl, Nat.le_of_ble_eq_true rfl⟩ (fun T45 H locs p46 hW hS => ?_)
      obtain ⟨hG, hFc, p46⟩ := p46
      have hF : Fr [] [207, 1100] S T45 := hF.tr (hFc.mono (by decide))
      exact pc_vret (S := T45) hx hb hr hlk hK hZ hA hW hS (⟨hG, hF, trivial⟩) dX2_searchFrom_18
set_option maxHeartbeats 4000000 in
set_option maxRecDepth 100000 in
theorem b_X2_search (l : Launch) (D : va_G) (cy : Nat → ClassId) (A : Nat → Prop) (S : St) (h : Nat) (a b : Int32) (hG0 : G S) (hk : sK S h = 2) : MV l yX2_search wsX2_search ({ frames := 10, cells := 0, slots := 0, locals := 245 } : Room) 0 0 D cy A [.ref h, .int a, .int b] S (fun S1 => G S1 ∧ Fr [] [207, 208, 209, 1100] S S1 ∧ True) := by
  refine mt_start (cc := cX2_search) (maxL := 5) (ret := none) (by decide) rfl (Nat.le_of_ble_eq_true rfl) ?_
  intro p e s m args below meth c hx hb hr hlk hml hown hnm hts hK hZ hA hW hS ls hl
  have hl : lv_has ls 5 [(0, .ref h), (1, .int a), (2, .int b)] := hl
  have hown : s.vm.findClass RX2 = some m.cls := hown
  have F : CallFix p m c cX2_search 5 s args wsX2_search RX2 := ⟨hx, hb, hml, hown, hts⟩
  have wi2 : ∀ w ∈ u_ws RX2 TX2 10, w ∈ wsX2_search := by decide +kernel
  have hG := hG0
  have hF : Fr [] [207, 208, 209, 1100] S S := Fr.rf _ _ _
  refine lv_aload_n hx hb dX2_search_0 rfl (lv_at hl 0 rfl) ?_
  refine lv_iload_n hx hb dX2_search_1 rfl (lv_at hl 1 rfl) ?_
  refine pg_pi (ci := 2) (C := RX2) (T := TX2) (N := 10) hx hb hts wi2 tyX2 tyX2_ok nmX2 hown hK hW hS hk (by decide) rfl 8 (by decide) (hts (.fieldLink RX2 42 "IceHall$Mover" "earliest" "I") (by decide +kernel)) (fun _ h9 => h9) rfl rfl rfl dX2_search_2 (fun H locs hW hS => ?_)
  obtain ⟨S1, eS1⟩ : ∃ T : St, T = stI S h 8 a := ⟨_, rfl⟩
  rw [← eS1] at hW
  have hG : G S1 := by rw [eS1]; exact hG.I hk (ok_fr (by decide))
  have hF : Fr [] [207, 208, 209, 1100] S S1 := by rw [eS1]; exact hF.I hk (by decide)
  clear eS1
  refine lv_aload_n hx hb dX2_search_5 rfl (lv_at hl 0 rfl) ?_
  refine lv_iload_n hx hb dX2_search_6 rfl (lv_at hl 2 rfl) ?_
  refine pg_pi (ci := 2) (C := RX2) (T := TX2) (N := 10) hx hb hts wi2 tyX2 tyX2_ok nmX2 hown hK hW hS (hF.k hk (by decide)) (by decide) rfl 9 (by decide) (hts (.fieldLink RX2 45 "IceHall$Mover" "restMost" "I") (by decide +kernel)) (fun _ h9 => h9) rfl rfl rfl dX2_search_7 (fun H locs hW hS => ?_)
  have kq2 : sK S1 h = 2 := (hF.k hk (by decide))
  obtain ⟨S3, eS3⟩ : ∃ T : St, T = stI S1 h 9 b := ⟨_, rfl⟩
  rw [← eS3] at hW
  have hG : G S3 := by rw [eS3]; exact hG.I kq2 (ok_fr (by decide))
  have hF : Fr [] [207, 208, 209, 1100] S S3 := by rw [eS3]; exact hF.I kq2 (by decide)
  clear eS3
  refine lv_aload_n hx hb dX2_search_10 rfl (lv_at hl 0 rfl) ?_
  refine lv_sipush (v := 600) hx hb dX2_search_11 (by decide) ?_
  refine pg_pi (ci := 2) (C := RX2) (T := TX2) (N := 10) hx hb hts wi2 tyX2 tyX2_ok nmX2 hown hK hW hS (hF.k hk (by decide)) (by decide) rfl 7 (by decide) (hts (.fieldLink RX2 48 "IceHall$Mover" "bestCost" "I") (by decide +kernel)) (fun _ h9 => h9) rfl rfl rfl dX2_search_14 (fun H locs hW hS => ?_)
  have kq4 : sK S3 h = 2 := (hF.k hk (by decide))
  obtain ⟨S5, eS5⟩ : ∃ T : St, T = stI S3 h 7 600 := ⟨_, rfl⟩
  rw [← eS5] at hW
  have hG : G S5 := by rw [eS5]; exact hG.I kq4 (ok_fr (by decide))
  have hF : Fr [] [207, 208, 209, 1100] S S5 := by rw [eS5]; exact hF.I kq4 (by decide)
  clear eS5
  refine lv_iconst (v := 0) hx hb dX2_search_17 (by decide) ?_
  refine lv_istore_n (lv' := [(3, .int 0), (0, .ref h), (1, .int a), (2, .int b)]) hx hb dX2_search_18 rfl hl (by decide) rfl (fun ls hl => ?_)
  refine lv_iconst (v := 5) hx hb dX2_search_19 (by decide) ?_
  refine lv_istore (lv' := [(4, .int 5), (3, .int 0), (0, .ref h), (1, .int a), (2, .int b)]) hx hb dX2_search_20 hl (by decide) rfl (fun ls hl => ?_)
  have hE6 : Fr [] [207, 208, 209, 1100] S5 S5 := Fr.rf _ _ _
  have loop22 : ∀ (zn : Nat) (z : Int32) (y : Int32) (L22 : St) (H : Heap) (locs : List Loc) (ls : Array Slot), (G L22) → (Fr [] [207, 208, 209, 1100] S5 L22) → (y.toInt ≤ 5) → (y.toInt + 1).toNat < zn → PW D cy A L22 H → va_S A s.heap H locs → lv_has ls 5 [(0, .ref h), (1, .int a), (2, .int b), (3, .int z), (4, .int y)] → W p l e ({ frames := 10, cells := 0, slots := 0, locals := 245 } : Room) s m args below meth c H locs 0 0 (MQ below (va_Qv (fun S1 => G S1 ∧ Fr [] [207, 208, 209, 1100] S S1 ∧ True) (PU D cy A) A) args s 0 0 A) (F0 m 22 ls []) := by
    intro zn
    induction zn with
    | zero => intros; exact absurd (by assumption) (Nat.not_lt_zero _)
    | succ zn ih22 =>
      intro z y L22 H locs ls hG hL22 hy5 hme hW hS hl
      have hF : Fr [] [207, 208, 209, 1100] S L22 := hF.tr hL22
      have hE6 := hL22
      have hb9 := i3_bd y
      refine lv_iload hx hb dX2_search_22 (lv_at hl 4 rfl) ?_
      refine lv_if_lt (tgt := 63) hx hb dX2_search_24 (by decide) (fun c7 => ?_) (fun c7 => ?_)
      · have c7i : Int32.toInt y < (0 : Int) := (i3_lt _ _).mp c7
        refine lv_aload_n hx hb dX2_search_63 rfl (lv_at hl 0 rfl) ?_
        refine lv_iconst (v := 0) hx hb dX2_search_64 (by decide) ?_
        refine lv_iconst (v := 0) hx hb dX2_search_65 (by decide) ?_
        refine pc_Sv (As := [.ref h, .int 0, .int 0]) (rest := []) F (b_X2_searchFrom_5 l D cy A L22 h 0 0 hG (hF.k hk (by decide)) (by decide) (by decide)) (va_cwS 3 hts gX2_search_X2_searchFrom rfl rfl rfl (by decide +kernel) ⟨Nat.le_of_ble_eq_true rfl, Nat.le_of_ble_eq_true rfl⟩) hK hZ hA hW hS rfl hl.1 rfl (Nat.le_of_ble_eq_true rfl) dX2_search_66 ⟨Nat.le_of_ble_eq_true rfl, Nat.le_of_ble_eq_true rfl⟩ (fun T9 H locs p10 hW hS => ?_)
        obtain ⟨hG, hFc, p10⟩ := p10
        have hF : Fr [] [207, 208, 209, 1100] S T9 := hF.tr (hFc.mono (by decide))
        have hE6 : Fr [] [207, 208, 209, 1100] S5 T9 := hE6.tr (hFc.mono (by decide))
        exact pc_vret (S := T9) hx hb hr hlk hK hZ hA hW hS (⟨hG, hF, trivial⟩) dX2_search_69
      · have c7i : ¬ (Int32.toInt y < (0 : Int)) := fun h9 => c7 ((i3_lt _ _).mpr h9)
        refine lv_iload_n hx hb dX2_search_27 rfl (lv_at hl 3 rfl) ?_
        refine lv_iload hx hb dX2_search_28 (lv_at hl 4 rfl) ?_
        refine lv_aload_n hx hb dX2_search_30 rfl (lv_at hl 0 rfl) ?_
        refine pg_gi (ci := 2) (C := RX2) (T := TX2) (N := 10) hx hb hts wi2 hown hK hW (hF.k hk (by decide)) (by decide) rfl 6 (by decide) (hts (.fieldLink RX2 34 "IceHall$Mover" "size" "I") (by decide +kernel)) (fun _ h9 => h9) rfl dX2_search_31 ?_
        refine lv_icmp_ge (tgt := 46) hx hb dX2_search_34 (by decide) (fun c11 => ?_) (fun c11 => ?_)
        · have c11i : Int32.toInt (sI L22 h 6) ≤ Int32.toInt y := (i3_le _ _).mp c11
          refine lv_iconst (v := 0) hx hb dX2_search_46 (by decide) ?_
          refine lv_iadd hx hb dX2_search_47 ?_
          refine lv_istore_n (lv' := [(3, .int (z + 0)), (0, .ref h), (1, .int a), (2, .int b), (4, .int y)]) hx hb dX2_search_48 rfl hl (by decide) rfl (fun ls hl => ?_)
          refine lv_aload_n hx hb dX2_search_49 rfl (lv_at hl 1 rfl) ?_
          obtain ⟨b12, rb12, kb12, nb12⟩ := hG0.r hk List.not_mem_nil 5 (show rty 2 5 = some (11, 6) from rfl)
          refine pg_gr (b := b12) (ci := 2) (C := RX2) (T := TX2) (N := 10) hx hb hts wi2 hown hK hW (hF.k hk (by decide)) (by decide) rfl 5 (by decide) (hts (.fieldLink RX2 24 "IceHall$Mover" "leastFrom" "[I") (by decide +kernel)) (fun _ h9 => h9) rfl (hF.r hk (by decide) rb12) dX2_search_50 ?_
          refine lv_iload hx hb dX2_search_53 (lv_at hl 4 rfl) ?_
          refine lv_iload_n hx hb dX2_search_55 rfl (lv_at hl 0 rfl) ?_
          refine pg_iast hx hb hK hW hS (hF.k kb12 (by decide)) (by decide) (by rw [show sL L22 b12 = 6 from (hF.n kb12 (by decide) nb12)]; exact r_in (by omega)) dX2_search_56 (fun H locs hW hS => ?_)
          have kq13 : sK L22 b12 = 11 := (hF.k kb12 (by decide))
          obtain ⟨S14, eS14⟩ : ∃ T : St, T = stI L22 b12 (Int32.toNatClampNeg y) (z + 0) := ⟨_, rfl⟩
          rw [← eS14] at hW
          have hG : G S14 := by rw [eS14]; exact hG.I kq13 (ok_frA (by decide) (by decide))
          have hF : Fr [] [207, 208, 209, 1100] S S14 := by rw [eS14]; exact hF.IA kq13 (by decide) (by decide)
          have hE6 : Fr [] [207, 208, 209, 1100] S5 S14 := by rw [eS14]; exact hE6.IA kq13 (by decide) (by decide)
          clear eS14
          refine lv_iinc (v := y + (-1)) (lv' := [(4, .int (y + (-1))), (3, .int (z + 0)), (0, .ref h), (1, .int a), (2, .int b)]) hx hb dX2_search_57 hl (k := 4) rfl rfl (by decide) rfl (fun ls hl => ?_)
          have i15 : (y + (-1)).toInt = (y).toInt - 1 := i3_dec (by omega)
          refine lv_goto (tgt := 22) hx hb dX2_search_60 (by decide) ?_
          exact ih22 (z + 0) (y + (-1)) S14 _ _ ls hG hE6 (by omega) (by omega) hW hS (lv_cast (lv_sub hl [2, 3, 4, 1, 0] rfl) (rfl))
        · have c11i : ¬ (Int32.toInt (sI L22 h 6) ≤ Int32.toInt y) := fun h9 => c11 ((i3_le _ _).mpr h9)
          refine lv_aload_n hx hb dX2_search_37 rfl (lv_at hl 0 rfl) ?_
          refine lv_iload hx hb dX2_search_38 (lv_at hl 4 rfl) ?_
          refine pc_Vi (As := [.int y]) (rest := [.int z]) F (b_X2_leastAlone l D cy A L22 h y hG (hF.k hk (by decide))) (cwV 1 hts gX2_search_X2_leastAlone rfl rfl rfl (by decide +kernel) ⟨Nat.le_of_ble_eq_true rfl, Nat.le_of_ble_eq_true rfl⟩) hK hZ hA hW hS (hF.k hk (by decide)) (by decide) rfl rfl hl.1 rfl (Nat.le_of_ble_eq_true rfl) dX2_search_40 ⟨Nat.le_of_ble_eq_true rfl, Nat.le_of_ble_eq_true rfl⟩ (fun v16 T17 H locs p18 hW hS => ?_)
          obtain ⟨eT17, p18⟩ := p18
          rw [eT17] at hW
          clear eT17
          refine lv_goto (tgt := 47) hx hb dX2_search_43 (by decide) ?_
          refine lv_iadd hx hb dX2_search_47 ?_
          refine lv_istore_n (lv' := [(3, .int (z + v16)), (0, .ref h), (1, .int a), (2, .int b), (4, .int y)]) hx hb dX2_search_48 rfl hl (by decide) rfl (fun ls hl => ?_)
          refine lv_aload_n hx hb dX2_search_49 rfl (lv_at hl 1 rfl) ?_
          obtain ⟨b19, rb19, kb19, nb19⟩ := hG0.r hk List.not_mem_nil 5 (show rty 2 5 = some (11, 6) from rfl)
          refine pg_gr (b := b19) (ci := 2) (C := RX2) (T := TX2) (N := 10) hx hb hts wi2 hown hK hW (hF.k hk (by decide)) (by decide) rfl 5 (by decide) (hts (.fieldLink RX2 24 "IceHall$Mover" "leastFrom" "[I") (by decide +kernel)) (fun _ h9 => h9) rfl (hF.r hk (by decide) rb19) dX2_search_50 ?_
          refine lv_iload hx hb dX2_search_53 (lv_at hl 4 rfl) ?_
          refine lv_iload_n hx hb dX2_search_55 rfl (lv_at hl 0 rfl) ?_
          refine pg_iast hx hb hK hW hS (hF.k kb19 (by decide)) (by decide) (by rw [show sL L22 b19 = 6 from (hF.n kb19 (by decide) nb19)]; exact r_in (by omega)) dX2_search_56 (fun H locs hW hS => ?_)
          have kq20 : sK L22 b19 = 11 := (hF.k kb19 (by decide))
          obtain ⟨S21, eS21⟩ : ∃ T : St, T = stI L22 b19 (Int32.toNatClampNeg y) (z + v16) := ⟨_, rfl⟩
          rw [← eS21] at hW
          have hG : G S21 := by rw [eS21]; exact hG.I kq20 (ok_frA (by decide) (by decide))
          have hF : Fr [] [207, 208, 209, 1100] S S21 := by rw [eS21]; exact hF.IA kq20 (by decide) (by decide)
          have hE6 : Fr [] [207, 208, 209, 1100] S5 S21 := by rw [eS21]; exact hE6.IA kq20 (by decide) (by decide)
          clear eS21
          refine lv_iinc (v := y + (-1)) (lv' := [(4, .int (y + (-1))), (3, .int (z + v16)), (0, .ref h), (1, .int a), (2, .int b)]) hx hb dX2_search_57 hl (k := 4) rfl rfl (by decide) rfl (fun ls hl => ?_)
          have i22 : (y + (-1)).toInt = (y).toInt - 1 := i3_dec (by omega)
          refine lv_goto (tgt := 22) hx hb dX2_search_60 (by decide) ?_
          exact ih22 (z + v16) (y + (-1)) S21 _ _ ls hG hE6 (by omega) (by omega) hW hS (lv_cast (lv_sub hl [2, 3, 4, 1, 0] rfl) (rfl))
  exact loop22 _ 0 5 S5 _ _ ls hG hE6 (by decide) (Nat.lt_succ_self _) hW hS (lv_cast (lv_sub hl [2, 3, 4, 1, 0] rfl) (rfl))
set_option maxHeartbeats 4000000 in
set_option maxRecDepth 100000 in
theorem b_X2_carryOut (l : Launch) (D : va_G) (cy : Nat → ClassId) (A : Nat → Prop) (S : St) (h : Nat) (hG0 : G S) (hk : sK S h = 2) : MI l yX2_carryOut wsX2_carryOut ({ frames := 3, cells := 0, slots := 0, locals := 65 } : Room) 0 0 D cy A [.ref h] S (fun r S1 => G S1 ∧ Fr [] [604, 605, 606, 609] S S1 ∧ True) := by
  refine mt_start (cc := cX2_carryOut) (maxL := 5) (ret := (some .int)) (by decide) rfl (Nat.le_of_ble_eq_true rfl) ?_
  intro p e s m args below meth c hx hb hr hlk hml hown hnm hts hK hZ hA hW hS ls hl
  have hl : lv_has ls 5 [(0, .ref h)] := hl
  have hown : s.vm.findClass RX2 = some m.cls := hown
  have F : CallFix p m c cX2_carryOut 5 s args wsX2_carryOut RX2 := ⟨hx, hb, hml, hown, hts⟩
  have wi1 : ∀ w ∈ u_ws RX1 TX1 10, w ∈ wsX2_carryOut := by decide +kernel
  have wi2 : ∀ w ∈ u_ws RX2 TX2 10, w ∈ wsX2_carryOut := by decide +kernel
  have wi6 : ∀ w ∈ u_ws RX6 TX6 10, w ∈ wsX2_carryOut := by decide +kernel
  have hG := hG0
  have hF : Fr [] [604, 605, 606, 609] S S := Fr.rf _ _ _
  refine lv_iconst (v := 0) hx hb dX2_carryOut_0 (by decide) ?_
  refine lv_istore_n (lv' := [(1, .int 0), (0, .ref h)]) hx hb dX2_carryOut_1 rfl hl (by decide) rfl (fun ls hl => ?_)
  refine lv_iconst (v := 0) hx hb dX2_carryOut_2 (by decide) ?_
  refine lv_istore_n (lv' := [(2, .int 0), (1, .int 0), (0, .ref h)]) hx hb dX2_carryOut_3 rfl hl (by decide) rfl (fun ls hl => ?_)
  have loop4 : ∀ (zn : Nat) (z : Int32) (y : Int32) (L4 : St) (H : Heap) (locs : List Loc) (ls : Array Slot), (G L4) → (Fr [] [604, 605, 606, 609] S L4) → (0 ≤ y.toInt) → (5 - y.toInt).toNat < zn → PW D cy A L4 H → va_S A s.heap H locs → lv_has ls 5 [(0, .ref h), (1, .int z), (2, .int y)] → W p l e ({ frames := 3, cells := 0, slots := 0, locals := 65 } : Room) s m args below meth c H locs 0 0 (MQ below (va_Qi (fun r S1 => G S1 ∧ Fr [] [604, 605, 606, 609] S S1 ∧ True) (PU D cy A) A) args s 0 0 A) (F0 m 4 ls []) := by
    intro zn
    induction zn with
    | zero => intros; exact absurd (by assumption) (Nat.not_lt_zero _)
    | succ zn ih4 =>
      intro z y L4 H locs ls hG hL4 hy0 hme hW hS hl
      have hF := hL4
      refine lv_iload_n hx hb dX2_carryOut_4 rfl (lv_at hl 2 rfl) ?_
      refine lv_aload_n hx hb dX2_carryOut_5 rfl (lv_at hl 0 rfl) ?_
      refine pg_gi (ci := 2) (C := RX2) (T := TX2) (N := 10) hx hb hts wi2 hown hK hW (hF.k hk (by decide)) (by decide) rfl 6 (by decide) (hts (.fieldLink RX2 34 "IceHall$Mover" "size" "I") (by decide +kernel)) (fun _ h9 => h9) rfl dX2_carryOut_6 ?_
      refine lv_icmp_ge (tgt := 105) hx hb dX2_carryOut_9 (by decide) (fun c1 => ?_) (fun c1 => ?_)
      · have c1i : Int32.toInt (sI L4 h 6) ≤ Int32.toInt y := (i3_le _ _).mp c1
        refine lv_iload_n hx hb dX2_carryOut_105 rfl (lv_at hl 1 rfl) ?_
        exact pc_iret (v := z) (S := L4) hx hb hr hlk hK hZ hA hW hS (⟨hG, hF, trivial⟩) dX2_carryOut_106
      · have c1i : ¬ (Int32.toInt (sI L4 h 6) ≤ Int32.toInt y) := fun h9 => c1 ((i3_le _ _).mpr h9)
        refine lv_iload_n hx hb dX2_carryOut_12 rfl (lv_at hl 2 rfl) ?_
        refine lv_iconst (v := 5) hx hb dX2_carryOut_13 (by decide) ?_
        refine lv_icmp_ge (tgt := 105) hx hb dX2_carryOut_14 (by decide) (fun c2 => ?_) (fun c2 => ?_)
        · have c2i : (5 : Int) ≤ Int32.toInt y := (i3_le _ _).mp c2
          refine lv_iload_n hx hb dX2_carryOut_105 rfl (lv_at hl 1 rfl) ?_
          exact pc_iret (v := z) (S := L4) hx hb hr hlk hK hZ hA hW hS (⟨hG, hF, trivial⟩) dX2_carryOut_106
        · have c2i : ¬ ((5 : Int) ≤ Int32.toInt y) := fun h9 => c2 ((i3_le _ _).mpr h9)
          refine lv_aload_n hx hb dX2_carryOut_17 rfl (lv_at hl 0 rfl) ?_
          obtain ⟨b3, rb3, kb3, nb3⟩ := hG0.r hk List.not_mem_nil 2 (show rty 2 2 = some (15, 5) from rfl)
          refine pg_gr (b := b3) (ci := 2) (C := RX2) (T := TX2) (N := 10) hx hb hts wi2 hown hK hW (hF.k hk (by decide)) (by decide) rfl 2 (by decide) (hts (.fieldLink RX2 11 "IceHall$Mover" "moved" "[LIceHall$Session;") (by decide +kernel)) (fun _ h9 => h9) rfl (hF.r hk (by decide) rb3) dX2_carryOut_18 ?_
          refine lv_iload_n hx hb dX2_carryOut_21 rfl (lv_at hl 2 rfl) ?_
          refine pg_aaldS hx hb hK hW (hF.k kb3 (by decide)) (by rw [show sL L4 b3 = 5 from (hF.n kb3 (by decide) nb3)]; exact r_in (by omega)) dX2_carryOut_22 ?_
          have hE6 : Fr [] [604, 605, 606, 609] L4 L4 := Fr.rf _ _ _
          rcases o4 : sR L4 b3 (Int32.toNatClampNeg y) with _ | b5
          · refine lv_astore_nN (lv' := [(3, .null), (0, .ref h), (1, .int z), (2, .int y)]) hx hb dX2_carryOut_23 rfl hl (by decide) rfl (fun ls hl => ?_)
            refine lv_aload_nN hx hb dX2_carryOut_24 rfl (lv_at hl 0 rfl) ?_
            refine lv_ifnullN (tgt := 50) hx hb dX2_carryOut_25 (by decide) ?_
            refine lv_aload_nN hx hb dX2_carryOut_50 rfl (lv_at hl 0 rfl) ?_
            refine lv_ifnullN (tgt := 99) hx hb dX2_carryOut_51 (by decide) ?_
            refine lv_iinc (v := y + 1) (lv' := [(2, .int (y + 1)), (3, .null), (0, .ref h), (1, .int z)]) hx hb dX2_carryOut_99 hl (k := 3) rfl rfl (by decide) rfl (fun ls hl => ?_)
            have i7 : (y + 1).toInt = (y).toInt + 1 := i3_add rfl rfl (by omega) (by omega)
            refine lv_goto (tgt := 4) hx hb dX2_carryOut_102 (by decide) ?_
            exact ih4 z (y + 1) L4 _ _ ls hG hF (by omega) (by omega) hW hS (lv_cast (lv_sub hl [2, 3, 0] rfl) (rfl))
          · have kb5 : sK L4 b5 = 6 := hG.2.2.1 _ _ _ (hF.k kb3 (by decide)) o4
            refine lv_astore_n (lv' := [(3, .ref b5), (0, .ref h), (1, .int z), (2, .int y)]) hx hb dX2_carryOut_23 rfl hl (by decide) rfl (fun ls hl => ?_)
            refine lv_aload_n hx hb dX2_carryOut_24 rfl (lv_at hl 0 rfl) ?_
            refine lv_ifnull hx hb dX2_carryOut_25 ?_
            refine lv_aload_n hx hb dX2_carryOut_28 rfl (lv_at hl 1 rfl) ?_
            obtain ⟨b8, rb8, kb8, nb8⟩ := hG0.r hk List.not_mem_nil 4 (show rty 2 4 = some (11, 5) from rfl)
            refine pg_gr (b := b8) (ci := 2) (C := RX2) (T := TX2) (N := 10) hx hb hts wi2 hown hK hW (hF.k hk (by decide)) (by decide) rfl 4 (by decide) (hts (.fieldLink RX2 21 "IceHall$Mover" "bestRow" "[I") (by decide +kernel)) (fun _ h9 => h9) rfl (hF.r hk (by decide) rb8) dX2_carryOut_29 ?_
            refine lv_iload_n hx hb dX2_carryOut_32 rfl (lv_at hl 3 rfl) ?_
            refine pg_iald hx hb hK hW (hF.k kb8 (by decide)) (by decide) (by rw [show sL L4 b8 = 5 from (hF.n kb8 (by decide) nb8)]; exact r_in (by omega)) dX2_carryOut_33 ?_
            refine lv_bipush (v := 14) hx hb dX2_carryOut_34 (by decide) ?_
            refine lv_icmp_ne (tgt := 50) hx hb dX2_carryOut_36 (by decide) (fun c9 => ?_) (fun c9 => ?_)
            · have c9i : ¬ (Int32.toInt (sI L4 b8 (Int32.toNatClampNeg y)) = (14 : Int)) := fun h9 => c9 ((i3_eq _ _).mpr h9)
              refine lv_aload_n hx hb dX2_carryOut_50 rfl (lv_at hl 0 rfl) ?_
              refine lv_ifnull hx hb dX2_carryOut_51 ?_
              refine lv_aload_n hx hb dX2_carryOut_54 rfl (lv_at hl 1 rfl) ?_
              refine lv_iload_n hx hb dX2_carryOut_55 rfl (lv_at hl 3 rfl) ?_
              refine lv_aload_n hx hb dX2_carryOut_56 rfl (lv_at hl 1 rfl) ?_
              refine pg_gr (b := b8) (ci := 2) (C := RX2) (T := TX2) (N := 10) hx hb hts wi2 hown hK hW (hF.k hk (by decide)) (by decide) rfl 4 (by decide) (hts (.fieldLink RX2 21 "IceHall$Mover" "bestRow" "[I") (by decide +kernel)) (fun _ h9 => h9) rfl (hF.r hk (by decide) rb8) dX2_carryOut_57 ?_
              refine lv_iload_n hx hb dX2_carryOut_60 rfl (lv_at hl 3 rfl) ?_
              refine pg_iald hx hb hK hW (hF.k kb8 (by decide)) (by decide) (by rw [show sL L4 b8 = 5 from (hF.n kb8 (by decide) nb8)]; exact r_in (by omega)) dX2_carryOut_61 ?_
              refine pc_Vi (As := [.int y, .int (sI L4 b8 (Int32.toNatClampNeg y))]) (rest := []) F (b_X2_hourOf l D cy A L4 h y (sI L4 b8 (Int32.toNatClampNeg y)) hG (hF.k hk (by decide))) (cwV 2 hts gX2_carryOut_X2_hourOf rfl rfl rfl (by decide +kernel) ⟨Nat.le_of_ble_eq_true rfl, Nat.le_of_ble_eq_true rfl⟩) hK hZ hA hW hS (hF.k hk (by decide)) (by decide) rfl rfl hl.1 rfl (Nat.le_of_ble_eq_true rfl) dX2_carryOut_62 ⟨Nat.le_of_ble_eq_true rfl, Nat.le_of_ble_eq_true rfl⟩ (fun v10 T11 H locs p12 hW hS => ?_)
              obtain ⟨eT11, p12⟩ := p12
              rw [eT11] at hW
              clear eT11
              refine lv_istore (lv' := [(4, .int v10), (3, .ref b5), (0, .ref h), (1, .int z), (2, .int y)]) hx hb dX2_carryOut_65 hl (by decide) rfl (fun ls hl => ?_)
              refine lv_aload_n hx hb dX2_carryOut_67 rfl (lv_at hl 2 rfl) ?_
              refine lv_aload_n hx hb dX2_carryOut_68 rfl (lv_at hl 2 rfl) ?_
              refine pg_gr (b := b8) (ci := 2) (C := RX2) (T := TX2) (N := 10) hx hb hts wi2 hown hK hW (hF.k hk (by decide)) (by decide) rfl 4 (by decide) (hts (.fieldLink RX2 21 "IceHall$Mover" "bestRow" "[I") (by decide +kernel)) (fun _ h9 => h9) rfl (hF.r hk (by decide) rb8) dX2_carryOut_69 ?_
              refine lv_iload_n hx hb dX2_carryOut_72 rfl (lv_at hl 4 rfl) ?_
              refine pg_iald hx hb hK hW (hF.k kb8 (by decide)) (by decide) (by rw [show sL L4 b8 = 5 from (hF.n kb8 (by decide) nb8)]; exact r_in (by omega)) dX2_carryOut_73 ?_
              refine pc_Vq (As := [.int (sI L4 b8 (Int32.toNatClampNeg y))]) (rest := []) F (b_X2_iceOfWay l D cy A L4 h (sI L4 b8 (Int32.toNatClampNeg y)) hG (hF.k hk (by decide))) (cwV 1 hts gX2_carryOut_X2_iceOfWay rfl rfl rfl (by decide +kernel) ⟨Nat.le_of_ble_eq_true rfl, Nat.le_of_ble_eq_true rfl⟩) hK hZ hA hW hS (hF.k hk (by decide)) (by decide) rfl rfl hl.1 rfl (Nat.le_of_ble_eq_true rfl) dX2_carryOut_74 ⟨Nat.le_of_ble_eq_true rfl, Nat.le_of_ble_eq_true rfl⟩ (fun v13 T14 H locs p15 hW hS => ?_)
              obtain ⟨eT14, p15⟩ := p15
              rw [eT14] at hW
              obtain ⟨b16, erb16, kb16⟩ := p15
              rw [erb16]
              obtain ⟨b17, rb17, kb17, nb17⟩ := hG.r kb16 List.not_mem_nil 0 (show rty 1 0 = some (0, 0) from rfl)
              refine pg_gr (b := b17) (ci := 1) (C := RX1) (T := TX1) (N := 10) hx hb hts wi1 hown hK hW kb16 (by decide) rfl 0 (by decide) (hts (.fieldLink RX2 70 "IceHall$Ice" "taken" "LIceHall$HourSet;") (by decide +kernel)) (fun _ h9 => h9) rfl rb17 dX2_carryOut_77 ?_
              refine lv_iload hx hb dX2_carryOut_80 (lv_at hl 0 rfl) ?_
              refine pc_Vv (As := [.int v10]) (rest := []) F (b_X0_put l D cy A L4 b17 v10 hG kb17) (cwV 1 hts gX2_carryOut_X0_put rfl rfl rfl (by decide +kernel) ⟨Nat.le_of_ble_eq_true rfl, Nat.le_of_ble_eq_true rfl⟩) hK hZ hA hW hS kb17 (by decide) rfl rfl hl.1 rfl (Nat.le_of_ble_eq_true rfl) dX2_carryOut_82 ⟨Nat.le_of_ble_eq_true rfl, Nat.le_of_ble_eq_true rfl⟩ (fun T19 H locs p20 hW hS => ?_)
              obtain ⟨hG, hFc, p20⟩ := p20
              have hF : Fr [] [604, 605, 606, 609] S T19 := hF.tr (hFc.mono (by decide))
              have hE6 : Fr [] [604, 605, 606, 609] L4 T19 := hE6.tr (hFc.mono (by decide))
              refine lv_aload_n hx hb dX2_carryOut_85 rfl (lv_at hl 1 rfl) ?_
              refine lv_aload_n hx hb dX2_carryOut_86 rfl (lv_at hl 2 rfl) ?_
              refine pg_gr (b := b8) (ci := 2) (C := RX2) (T := TX2) (N := 10) hx hb hts wi2 hown hK hW (hF.k hk (by decide)) (by decide) rfl 4 (by decide) (hts (.fieldLink RX2 21 "IceHall$Mover" "bestRow" "[I") (by decide +kernel)) (fun _ h9 => h9) rfl (hF.r hk (by decide) rb8) dX2_carryOut_87 ?_
              refine lv_iload_n hx hb dX2_carryOut_90 rfl (lv_at hl 4 rfl) ?_
              refine pg_iald hx hb hK hW (hF.k kb8 (by decide)) (by decide) (by rw [show sL T19 b8 = 5 from (hF.n kb8 (by decide) nb8)]; exact r_in (by omega)) dX2_carryOut_91 ?_
              refine lv_iconst (v := 2) hx hb dX2_carryOut_92 (by decide) ?_
              refine lv_irem hx hb dX2_carryOut_93 (by decide) ?_
              refine lv_iload hx hb dX2_carryOut_94 (lv_at hl 0 rfl) ?_
              refine pc_Vv (As := [.int ((sI T19 b8 (Int32.toNatClampNeg y)) - (sI T19 b8 (Int32.toNatClampNeg y)) / 2 * 2), .int v10]) (rest := []) F (b_X6_moveTo l D cy A T19 b5 ((sI T19 b8 (Int32.toNatClampNeg y)) - (sI T19 b8 (Int32.toNatClampNeg y)) / 2 * 2) v10 hG (hE6.k kb5 (by decide))) (cwV 2 hts gX2_carryOut_X6_moveTo rfl rfl rfl (by decide +kernel) ⟨Nat.le_of_ble_eq_true rfl, Nat.le_of_ble_eq_true rfl⟩) hK hZ hA hW hS (hE6.k kb5 (by decide)) (by decide) rfl rfl hl.1 rfl (Nat.le_of_ble_eq_true rfl) dX2_carryOut_96 ⟨Nat.le_of_ble_eq_true rfl, Nat.le_of_ble_eq_true rfl⟩ (fun T22 H locs p23 hW hS => ?_)
              obtain ⟨hG, hFc, p23⟩ := p23
              have hF : Fr [] [604, 605, 606, 609] S T22 := hF.tr (hFc.mono (by decide))
              have hE6 : Fr [] [604, 605, 606, 609] L4 T22 := hE6.tr (hFc.mono (by decide))
              refine lv_iinc (v := y + 1) (lv' := [(2, .int (y + 1)), (4, .int v10), (3, .ref b5), (0, .ref h), (1, .int z)]) hx hb dX2_carryOut_99 hl (k := 4) rfl rfl (by decide) rfl (fun ls hl => ?_)
              have i24 : (y + 1).toInt = (y).toInt + 1 := i3_add rfl rfl (by omega) (by omega)
              refine lv_goto (tgt := 4) hx hb dX2_carryOut_102 (by decide) ?_
              exact ih4 z (y + 1) T22 _ _ ls hG hF (by omega) (by omega) hW hS (lv_cast (lv_sub hl [3, 4, 0] rfl) (rfl))
            · have c9i : Int32.toInt (sI L4 b8 (Int32.toNatClampNeg y)) = (14 : Int) := (i3_eq _ _).mp c9
              refine lv_aload_n hx hb dX2_carryOut_39 rfl (lv_at hl 0 rfl) ?_
              refine lv_iconst (v := 4) hx hb dX2_carryOut_40 (by decide) ?_
              refine pg_pi (ci := 6) (C := RX6) (T := TX6) (N := 10) hx hb hts wi6 tyX6 tyX6_ok nmX6 hown hK hW hS kb5 (by decide) rfl 6 (by decide) (hts (.fieldLink RX2 59 "IceHall$Session" "state" "I") (by decide +kernel)) (fun _ h9 => h9) rfl rfl rfl dX2_carryOut_41 (fun H locs hW hS => ?_)
              obtain ⟨S25, eS25⟩ : ∃ T : St, T = stI L4 b5 6 4 := ⟨_, rfl⟩
              rw [← eS25] at hW
              have hG : G S25 := by rw [eS25]; exact hG.I kb5 (ok_fr (by decide))
              have hF : Fr [] [604, 605, 606, 609] S S25 := by rw [eS25]; exact hF.I kb5 (by decide)
              have hE6 : Fr [] [604, 605, 606, 609] L4 S25 := by rw [eS25]; exact hE6.I kb5 (by decide)
              clear eS25
              refine lv_iinc (v := z + 1) (lv' := [(1, .int (z + 1)), (3, .ref b5), (0, .ref h), (2, .int y)]) hx hb dX2_carryOut_44 hl (k := 2) rfl rfl (by decide) rfl (fun ls hl => ?_)
              refine lv_goto (tgt := 99) hx hb dX2_carryOut_47 (by decide) ?_
              refine lv_iinc (v := y + 1) (lv' := [(2, .int (y + 1)), (1, .int (z + 1)), (3, .ref b5), (0, .ref h)]) hx hb dX2_carryOut_99 hl (k := 3) rfl rfl (by decide) rfl (fun ls hl => ?_)
              have i26 : (y + 1).toInt = (y).toInt + 1 := i3_add rfl rfl (by omega) (by omega)
              refine lv_goto (tgt := 4) hx hb dX2_carryOut_102 (by decide) ?_
              exact ih4 (z + 1) (y + 1) S25 _ _ ls hG hF (by omega) (by omega) hW hS (lv_cast (lv_sub hl [3, 1, 0] rfl) (rfl))
  exact loop4 _ 0 0 S _ _ ls hG hF (by decide) (Nat.lt_succ_self _) hW hS (lv_cast (lv_sub hl [2, 1, 0] rfl) (rfl))
