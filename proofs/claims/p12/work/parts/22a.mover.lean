set_option maxHeartbeats 4000000 in
set_option maxRecDepth 100000 in
theorem b_X2_begin (l : Launch) (D : va_G) (cy : Nat → ClassId) (A : Nat → Prop) (S : St) (h : Nat) (hG0 : G S) (hk : sK S h = 2) : MV l yX2_begin wsX2_begin ({ frames := 0, cells := 0, slots := 0, locals := 0 } : Room) 0 0 D cy A [.ref h] S (fun S1 => G S1 ∧ Fr [] [206] S S1 ∧ True) := by
  refine mt_start (cc := cX2_begin) (maxL := 1) (ret := none) (by decide) rfl (Nat.le_of_ble_eq_true rfl) ?_
  intro p e s m args below meth c hx hb hr hlk hml hown hnm hts hK hZ hA hW hS ls hl
  have hl : lv_has ls 1 [(0, .ref h)] := hl
  have hown : s.vm.findClass RX2 = some m.cls := hown
  have F : CallFix p m c cX2_begin 1 s args wsX2_begin RX2 := ⟨hx, hb, hml, hown, hts⟩
  have wi2 : ∀ w ∈ u_ws RX2 TX2 10, w ∈ wsX2_begin := by decide +kernel
  have hG := hG0
  have hF : Fr [] [206] S S := Fr.rf _ _ _
  refine lv_aload_n hx hb dX2_begin_0 rfl (lv_at hl 0 rfl) ?_
  refine lv_iconst (v := 0) hx hb dX2_begin_1 (by decide) ?_
  refine pg_pi (ci := 2) (C := RX2) (T := TX2) (N := 10) hx hb hts wi2 tyX2 tyX2_ok nmX2 hown hK hW hS hk (by decide) rfl 6 (by decide) (hts (.fieldLink RX2 34 "IceHall$Mover" "size" "I") (by decide +kernel)) (fun _ h9 => h9) rfl rfl rfl dX2_begin_2 (fun H locs hW hS => ?_)
  obtain ⟨S1, eS1⟩ : ∃ T : St, T = stI S h 6 0 := ⟨_, rfl⟩
  rw [← eS1] at hW
  have hG : G S1 := by rw [eS1]; exact hG.I hk (ok_fr (by decide))
  have hF : Fr [] [206] S S1 := by rw [eS1]; exact hF.I hk (by decide)
  clear eS1
  exact pc_vret (S := S1) hx hb hr hlk hK hZ hA hW hS (⟨hG, hF, trivial⟩) dX2_begin_5
set_option maxHeartbeats 4000000 in
set_option maxRecDepth 100000 in
theorem b_X2_add (l : Launch) (D : va_G) (cy : Nat → ClassId) (A : Nat → Prop) (S : St) (h a : Nat) (hG0 : G S) (hk : sK S h = 2) (hka : sK S a = 6) : MI l yX2_add wsX2_add ({ frames := 1, cells := 0, slots := 0, locals := 21 } : Room) 0 0 D cy A [.ref h, .ref a] S (fun r S1 => G S1 ∧ Fr [] [206] S S1 ∧ True) := by
  refine mt_start (cc := cX2_add) (maxL := 2) (ret := (some .boolean)) (by decide) rfl (Nat.le_of_ble_eq_true rfl) ?_
  intro p e s m args below meth c hx hb hr hlk hml hown hnm hts hK hZ hA hW hS ls hl
  have hl : lv_has ls 2 [(0, .ref h), (1, .ref a)] := hl
  have hown : s.vm.findClass RX2 = some m.cls := hown
  have F : CallFix p m c cX2_add 2 s args wsX2_add RX2 := ⟨hx, hb, hml, hown, hts⟩
  have wi2 : ∀ w ∈ u_ws RX2 TX2 10, w ∈ wsX2_add := by decide +kernel
  have hG := hG0
  have hF : Fr [] [206] S S := Fr.rf _ _ _
  refine lv_aload_n hx hb dX2_add_0 rfl (lv_at hl 0 rfl) ?_
  refine pg_gi (ci := 2) (C := RX2) (T := TX2) (N := 10) hx hb hts wi2 hown hK hW hk (by decide) rfl 6 (by decide) (hts (.fieldLink RX2 34 "IceHall$Mover" "size" "I") (by decide +kernel)) (fun _ h9 => h9) rfl dX2_add_1 ?_
  refine lv_iconst (v := 5) hx hb dX2_add_4 (by decide) ?_
  refine pc_Ni (As := [.int (sI S h 6), .int 5]) (rest := []) F (b_X8_isBelow l D cy A S (sI S h 6) 5 ) ⟨va_cnB 2 hts gX2_add_X8_isBelow_n38 rfl rfl rfl hZ.2.2.2.2.2.2.2.2.2.1 (hts (.initialized RX8) (by decide +kernel)) (by decide +kernel) ⟨Nat.le_of_ble_eq_true rfl, Nat.le_of_ble_eq_true rfl⟩, hts (.static yX8_isBelow) (by decide +kernel), trivial⟩ hK hZ hA hW hS rfl hl.1 rfl (Nat.le_of_ble_eq_true rfl) dX2_add_5 ⟨Nat.le_of_ble_eq_true rfl, Nat.le_of_ble_eq_true rfl⟩ (fun v1 T2 H locs p3 hW hS => ?_)
  obtain ⟨eT2, p3⟩ := p3
  rw [eT2] at hW
  clear eT2
  have p3 := isb_lit (n := 5) rfl p3
  refine lv_if_ne (tgt := 13) hx hb dX2_add_8 (by decide) (fun c4 => ?_) (fun c4 => ?_)
  · have c4i : ¬ (Int32.toInt v1 = (0 : Int)) := fun h9 => c4 ((i3_eq _ _).mpr h9)
    refine lv_aload_n hx hb dX2_add_13 rfl (lv_at hl 0 rfl) ?_
    obtain ⟨b5, rb5, kb5, nb5⟩ := hG0.r hk List.not_mem_nil 2 (show rty 2 2 = some (15, 5) from rfl)
    refine pg_gr (b := b5) (ci := 2) (C := RX2) (T := TX2) (N := 10) hx hb hts wi2 hown hK hW hk (by decide) rfl 2 (by decide) (hts (.fieldLink RX2 11 "IceHall$Mover" "moved" "[LIceHall$Session;") (by decide +kernel)) (fun _ h9 => h9) rfl rb5 dX2_add_14 ?_
    refine lv_aload_n hx hb dX2_add_17 rfl (lv_at hl 0 rfl) ?_
    refine pg_gi (ci := 2) (C := RX2) (T := TX2) (N := 10) hx hb hts wi2 hown hK hW hk (by decide) rfl 6 (by decide) (hts (.fieldLink RX2 34 "IceHall$Mover" "size" "I") (by decide +kernel)) (fun _ h9 => h9) rfl dX2_add_18 ?_
    refine lv_aload_n hx hb dX2_add_21 rfl (lv_at hl 1 rfl) ?_
    refine pg_aast (t0 := 5) hx hb hK hW hS (by decide) kb5 hka (by decide) rfl rfl (by rw [show sL S b5 = 5 from nb5]; exact r_in (by omega)) dX2_add_22 (fun H locs hW hS => ?_)
    obtain ⟨S6, eS6⟩ : ∃ T : St, T = stR S b5 (Int32.toNatClampNeg (sI S h 6)) (some a) := ⟨_, rfl⟩
    rw [← eS6] at hW
    have hG : G S6 := by rw [eS6]; exact hG.R kb5 hka (by decide)
    have hF : Fr [] [206] S S6 := by rw [eS6]; exact hF.R kb5 (by decide)
    clear eS6
    refine lv_aload_n hx hb dX2_add_23 rfl (lv_at hl 0 rfl) ?_
    refine lv_dup hx hb dX2_add_24 rfl ?_
    refine pg_gi (ci := 2) (C := RX2) (T := TX2) (N := 10) hx hb hts wi2 hown hK hW (hF.k hk (by decide)) (by decide) rfl 6 (by decide) (hts (.fieldLink RX2 34 "IceHall$Mover" "size" "I") (by decide +kernel)) (fun _ h9 => h9) rfl dX2_add_25 ?_
    refine lv_iconst (v := 1) hx hb dX2_add_28 (by decide) ?_
    refine lv_iadd hx hb dX2_add_29 ?_
    refine pg_pi (ci := 2) (C := RX2) (T := TX2) (N := 10) hx hb hts wi2 tyX2 tyX2_ok nmX2 hown hK hW hS (hF.k hk (by decide)) (by decide) rfl 6 (by decide) (hts (.fieldLink RX2 34 "IceHall$Mover" "size" "I") (by decide +kernel)) (fun _ h9 => h9) rfl rfl rfl dX2_add_30 (fun H locs hW hS => ?_)
    have kq7 : sK S6 h = 2 := (hF.k hk (by decide))
    obtain ⟨S8, eS8⟩ : ∃ T : St, T = stI S6 h 6 ((sI S6 h 6) + 1) := ⟨_, rfl⟩
    rw [← eS8] at hW
    have hG : G S8 := by rw [eS8]; exact hG.I kq7 (ok_fr (by decide))
    have hF : Fr [] [206] S S8 := by rw [eS8]; exact hF.I kq7 (by decide)
    clear eS8
    refine lv_iconst (v := 1) hx hb dX2_add_33 (by decide) ?_
    exact pc_zret (v := 1) (S := S8) hx hb hr hlk hK hZ hA hW hS (by decide) (⟨hG, hF, trivial⟩) dX2_add_34
  · have c4i : Int32.toInt v1 = (0 : Int) := (i3_eq _ _).mp c4
    refine lv_iconst (v := 0) hx hb dX2_add_11 (by decide) ?_
    exact pc_zret (v := 0) (S := S) hx hb hr hlk hK hZ hA hW hS (by decide) (⟨hG, hF, trivial⟩) dX2_add_12
set_option maxHeartbeats 4000000 in
set_option maxRecDepth 100000 in
theorem b_X2_shiftOf (l : Launch) (D : va_G) (cy : Nat → ClassId) (A : Nat → Prop) (S : St) (a : Int32)  : MI l yX2_shiftOf wsX2_shiftOf ({ frames := 1, cells := 0, slots := 0, locals := 21 } : Room) 0 0 D cy A [.int a] S (fun r S1 => S1 = S ∧ True) := by
  refine mt_start (cc := cX2_shiftOf) (maxL := 2) (ret := (some .int)) (by decide) rfl (Nat.le_of_ble_eq_true rfl) ?_
  intro p e s m args below meth c hx hb hr hlk hml hown hnm hts hK hZ hA hW hS ls hl
  have hl : lv_has ls 2 [(0, .int a)] := hl
  have hown : s.vm.findClass RX2 = some m.cls := hown
  have F : CallFix p m c cX2_shiftOf 2 s args wsX2_shiftOf RX2 := ⟨hx, hb, hml, hown, hts⟩
  refine lv_iload_n hx hb dX2_shiftOf_0 rfl (lv_at hl 0 rfl) ?_
  refine lv_iconst (v := 2) hx hb dX2_shiftOf_1 (by decide) ?_
  refine lv_idiv hx hb dX2_shiftOf_2 (by decide) ?_
  refine lv_istore_n (lv' := [(1, .int (a / 2)), (0, .int a)]) hx hb dX2_shiftOf_3 rfl hl (by decide) rfl (fun ls hl => ?_)
  refine lv_iload_n hx hb dX2_shiftOf_4 rfl (lv_at hl 0 rfl) ?_
  obtain ⟨t1, zt1, yt1⟩ := hZ.2.2.1
  refine va_getsN hx hb zt1 hS hown (va_Nw.use rfl hZ.2.2.2.2.2.2.2.2.2.2.2.2.2.1) (fun _ h9 => h9) dX2_shiftOf_5 ?_
  refine va_tlen hx hb yt1 hS (v := 7) rfl dX2_shiftOf_8 ?_
  refine pc_Ni (As := [.int (a / 2), .int 7]) (rest := []) F (b_X8_isBelow l D cy A S (a / 2) 7 ) ⟨va_cnB 2 hts gX2_shiftOf_X8_isBelow_n38 rfl rfl rfl hZ.2.2.2.2.2.2.2.2.2.1 (hts (.initialized RX8) (by decide +kernel)) (by decide +kernel) ⟨Nat.le_of_ble_eq_true rfl, Nat.le_of_ble_eq_true rfl⟩, hts (.static yX8_isBelow) (by decide +kernel), trivial⟩ hK hZ hA hW hS rfl hl.1 rfl (Nat.le_of_ble_eq_true rfl) dX2_shiftOf_9 ⟨Nat.le_of_ble_eq_true rfl, Nat.le_of_ble_eq_true rfl⟩ (fun v2 T3 H locs p4 hW hS => ?_)
  obtain ⟨eT3, p4⟩ := p4
  rw [eT3] at hW
  clear eT3
  have p4 := isb_lit (n := 7) rfl p4
  refine lv_if_eq (tgt := 23) hx hb dX2_shiftOf_12 (by decide) (fun c5 => ?_) (fun c5 => ?_)
  · have c5i : Int32.toInt v2 = (0 : Int) := (i3_eq _ _).mp c5
    refine lv_iconst (v := 0) hx hb dX2_shiftOf_23 (by decide) ?_
    exact pc_iret (v := 0) (S := S) hx hb hr hlk hK hZ hA hW hS (⟨rfl, trivial⟩) dX2_shiftOf_24
  · have c5i : ¬ (Int32.toInt v2 = (0 : Int)) := fun h9 => c5 ((i3_eq _ _).mpr h9)
    obtain ⟨t6, zt6, yt6⟩ := hZ.2.2.1
    refine va_getsN hx hb zt6 hS hown (va_Nw.use rfl hZ.2.2.2.2.2.2.2.2.2.2.2.2.2.1) (fun _ h9 => h9) dX2_shiftOf_15 ?_
    refine lv_iload_n hx hb dX2_shiftOf_18 rfl (lv_at hl 0 rfl) ?_
    refine va_ti hx hb yt6 hS (r_in (by omega)) (v := .int (([0, -1, 1, -2, 2, -3, 3] : List Int32).getD (Int32.toNatClampNeg (a / 2)) 0)) rfl dX2_shiftOf_19 ?_
    refine lv_topi (fun m7 em7 => ?_)
    refine lv_goto (tgt := 24) hx hb dX2_shiftOf_20 (by decide) ?_
    exact pc_iret (v := m7) (S := S) hx hb hr hlk hK hZ hA hW hS (⟨rfl, trivial⟩) dX2_shiftOf_24
set_option maxHeartbeats 4000000 in
set_option maxRecDepth 100000 in
theorem b_X2_costOf (l : Launch) (D : va_G) (cy : Nat → ClassId) (A : Nat → Prop) (S : St) (a : Int32)  : MI l yX2_costOf wsX2_costOf ({ frames := 2, cells := 0, slots := 0, locals := 60 } : Room) 0 0 D cy A [.int a] S (fun r S1 => S1 = S ∧ True) := by
  refine mt_start (cc := cX2_costOf) (maxL := 1) (ret := (some .int)) (by decide) rfl (Nat.le_of_ble_eq_true rfl) ?_
  intro p e s m args below meth c hx hb hr hlk hml hown hnm hts hK hZ hA hW hS ls hl
  have hl : lv_has ls 1 [(0, .int a)] := hl
  have hown : s.vm.findClass RX2 = some m.cls := hown
  have F : CallFix p m c cX2_costOf 1 s args wsX2_costOf RX2 := ⟨hx, hb, hml, hown, hts⟩
  refine lv_iload_n hx hb dX2_costOf_0 rfl (lv_at hl 0 rfl) ?_
  refine lv_bipush (v := 14) hx hb dX2_costOf_1 (by decide) ?_
  refine lv_icmp_ne (tgt := 11) hx hb dX2_costOf_3 (by decide) (fun c1 => ?_) (fun c1 => ?_)
  · have c1i : ¬ (Int32.toInt a = (14 : Int)) := fun h9 => c1 ((i3_eq _ _).mpr h9)
    refine lv_iload_n hx hb dX2_costOf_11 rfl (lv_at hl 0 rfl) ?_
    refine pc_Si (As := [.int a]) (rest := []) F (b_X2_shiftOf l D cy A S a ) (va_cwS 1 hts gX2_costOf_X2_shiftOf rfl rfl rfl (by decide +kernel) ⟨Nat.le_of_ble_eq_true rfl, Nat.le_of_ble_eq_true rfl⟩) hK hZ hA hW hS rfl hl.1 rfl (Nat.le_of_ble_eq_true rfl) dX2_costOf_12 ⟨Nat.le_of_ble_eq_true rfl, Nat.le_of_ble_eq_true rfl⟩ (fun v2 T3 H locs p4 hW hS => ?_)
    obtain ⟨eT3, p4⟩ := p4
    rw [eT3] at hW
    clear eT3
    refine va_mabs hx hb (by rw [hml]; exact hl.1.symm) hown (hts (.methodLink RX2 116 Lib.Math.abs.name) (by decide +kernel)) (hts (.static Lib.Math.abs.name) (by decide +kernel)) (hts (.initialized "java/lang/Math") (by decide +kernel)) (hts (.code Lib.Math.abs.name Lib.Math.abs.code 1 (some .int)) (by decide +kernel)) (Nat.le_of_ble_eq_true rfl) (Nat.le_of_ble_eq_true rfl) (Nat.le_of_ble_eq_true rfl) (Nat.le_of_ble_eq_true rfl) dX2_costOf_15 ?_
    refine lv_topi (fun m5 em5 => ?_)
    exact pc_iret (v := m5) (S := S) hx hb hr hlk hK hZ hA hW hS (⟨rfl, trivial⟩) dX2_costOf_18
  · have c1i : Int32.toInt a = (14 : Int) := (i3_eq _ _).mp c1
    refine lv_bipush (v := 100) hx hb dX2_costOf_6 (by decide) ?_
    refine lv_goto (tgt := 18) hx hb dX2_costOf_8 (by decide) ?_
    exact pc_iret (v := 100) (S := S) hx hb hr hlk hK hZ hA hW hS (⟨rfl, trivial⟩) dX2_costOf_18
set_option maxHeartbeats 4000000 in
set_option maxRecDepth 100000 in
theorem b_X2_iceOfWay (l : Launch) (D : va_G) (cy : Nat → ClassId) (A : Nat → Prop) (S : St) (h : Nat) (a : Int32) (hG0 : G S) (hk : sK S h = 2) : MR l yX2_iceOfWay wsX2_iceOfWay ({ frames := 0, cells := 0, slots := 0, locals := 0 } : Room) 0 0 D cy A [.ref h, .int a] S (fun r S1 => S1 = S ∧ (∃ b, r = some b ∧ sK S b = 1)) := by
  refine mt_start (cc := cX2_iceOfWay) (maxL := 2) (ret := (some (.object "IceHall$Ice"))) (by decide) rfl (Nat.le_of_ble_eq_true rfl) ?_
  intro p e s m args below meth c hx hb hr hlk hml hown hnm hts hK hZ hA hW hS ls hl
  have hl : lv_has ls 2 [(0, .ref h), (1, .int a)] := hl
  have hown : s.vm.findClass RX2 = some m.cls := hown
  have F : CallFix p m c cX2_iceOfWay 2 s args wsX2_iceOfWay RX2 := ⟨hx, hb, hml, hown, hts⟩
  have wi2 : ∀ w ∈ u_ws RX2 TX2 10, w ∈ wsX2_iceOfWay := by decide +kernel
  have hG := hG0
  refine lv_iload_n hx hb dX2_iceOfWay_0 rfl (lv_at hl 1 rfl) ?_
  refine lv_iconst (v := 2) hx hb dX2_iceOfWay_1 (by decide) ?_
  refine lv_irem hx hb dX2_iceOfWay_2 (by decide) ?_
  refine lv_if_ne (tgt := 13) hx hb dX2_iceOfWay_3 (by decide) (fun c1 => ?_) (fun c1 => ?_)
  · have c1i : ¬ (Int32.toInt (a - a / 2 * 2) = (0 : Int)) := fun h9 => c1 ((i3_eq _ _).mpr h9)
    refine lv_aload_n hx hb dX2_iceOfWay_13 rfl (lv_at hl 0 rfl) ?_
    obtain ⟨b2, rb2, kb2, nb2⟩ := hG0.r hk List.not_mem_nil 1 (show rty 2 1 = some (1, 0) from rfl)
    refine pg_gr (b := b2) (ci := 2) (C := RX2) (T := TX2) (N := 10) hx hb hts wi2 hown hK hW hk (by decide) rfl 1 (by decide) (hts (.fieldLink RX2 31 "IceHall$Mover" "secondIce" "LIceHall$Ice;") (by decide +kernel)) (fun _ h9 => h9) rfl rb2 dX2_iceOfWay_14 ?_
    exact pc_aret (v := some b2) (S := S) hx hb hr hlk hK hZ hA hW hS (⟨rfl, ⟨b2, rfl, kb2⟩⟩) dX2_iceOfWay_17
  · have c1i : Int32.toInt (a - a / 2 * 2) = (0 : Int) := (i3_eq _ _).mp c1
    refine lv_aload_n hx hb dX2_iceOfWay_6 rfl (lv_at hl 0 rfl) ?_
    obtain ⟨b3, rb3, kb3, nb3⟩ := hG0.r hk List.not_mem_nil 0 (show rty 2 0 = some (1, 0) from rfl)
    refine pg_gr (b := b3) (ci := 2) (C := RX2) (T := TX2) (N := 10) hx hb hts wi2 hown hK hW hk (by decide) rfl 0 (by decide) (hts (.fieldLink RX2 27 "IceHall$Mover" "firstIce" "LIceHall$Ice;") (by decide +kernel)) (fun _ h9 => h9) rfl rb3 dX2_iceOfWay_7 ?_
    refine lv_goto (tgt := 17) hx hb dX2_iceOfWay_10 (by decide) ?_
    exact pc_aret (v := some b3) (S := S) hx hb hr hlk hK hZ hA hW hS (⟨rfl, ⟨b3, rfl, kb3⟩⟩) dX2_iceOfWay_17
set_option maxHeartbeats 4000000 in
set_option maxRecDepth 100000 in
theorem b_X2_hourOf (l : Launch) (D : va_G) (cy : Nat → ClassId) (A : Nat → Prop) (S : St) (h : Nat) (a b : Int32) (hG0 : G S) (hk : sK S h = 2) : MI l yX2_hourOf wsX2_hourOf ({ frames := 2, cells := 0, slots := 0, locals := 42 } : Room) 0 0 D cy A [.ref h, .int a, .int b] S (fun r S1 => S1 = S ∧ True) := by
  refine mt_start (cc := cX2_hourOf) (maxL := 4) (ret := (some .int)) (by decide) rfl (Nat.le_of_ble_eq_true rfl) ?_
  intro p e s m args below meth c hx hb hr hlk hml hown hnm hts hK hZ hA hW hS ls hl
  have hl : lv_has ls 4 [(0, .ref h), (1, .int a), (2, .int b)] := hl
  have hown : s.vm.findClass RX2 = some m.cls := hown
  have F : CallFix p m c cX2_hourOf 4 s args wsX2_hourOf RX2 := ⟨hx, hb, hml, hown, hts⟩
  have wi2 : ∀ w ∈ u_ws RX2 TX2 10, w ∈ wsX2_hourOf := by decide +kernel
  have wi6 : ∀ w ∈ u_ws RX6 TX6 10, w ∈ wsX2_hourOf := by decide +kernel
  have hG := hG0
  refine lv_iload_n hx hb dX2_hourOf_0 rfl (lv_at hl 1 rfl) ?_
  refine lv_iconst (v := 5) hx hb dX2_hourOf_1 (by decide) ?_
  refine pc_Ni (As := [.int a, .int 5]) (rest := []) F (b_X8_isBelow l D cy A S a 5 ) ⟨va_cnB 2 hts gX2_hourOf_X8_isBelow_n38 rfl rfl rfl hZ.2.2.2.2.2.2.2.2.2.1 (hts (.initialized RX8) (by decide +kernel)) (by decide +kernel) ⟨Nat.le_of_ble_eq_true rfl, Nat.le_of_ble_eq_true rfl⟩, hts (.static yX8_isBelow) (by decide +kernel), trivial⟩ hK hZ hA hW hS rfl hl.1 rfl (Nat.le_of_ble_eq_true rfl) dX2_hourOf_2 ⟨Nat.le_of_ble_eq_true rfl, Nat.le_of_ble_eq_true rfl⟩ (fun v1 T2 H locs p3 hW hS => ?_)
  obtain ⟨eT2, p3⟩ := p3
  rw [eT2] at hW
  clear eT2
  have p3 := isb_lit (n := 5) rfl p3
  refine lv_if_eq (tgt := 17) hx hb dX2_hourOf_5 (by decide) (fun c4 => ?_) (fun c4 => ?_)
  · have c4i : Int32.toInt v1 = (0 : Int) := (i3_eq _ _).mp c4
    refine lv_null hx hb dX2_hourOf_17 ?_
    refine lv_astore_nN (lv' := [(3, .null), (0, .ref h), (1, .int a), (2, .int b)]) hx hb dX2_hourOf_18 rfl hl (by decide) rfl (fun ls hl => ?_)
    refine lv_aload_nN hx hb dX2_hourOf_19 rfl (lv_at hl 0 rfl) ?_
    refine lv_ifnonnullN hx hb dX2_hourOf_20 ?_
    refine lv_iconst (v := (-1)) hx hb dX2_hourOf_23 (by decide) ?_
    refine lv_goto (tgt := 36) hx hb dX2_hourOf_24 (by decide) ?_
    exact pc_iret (v := (-1)) (S := S) hx hb hr hlk hK hZ hA hW hS (⟨rfl, trivial⟩) dX2_hourOf_36
  · have c4i : ¬ (Int32.toInt v1 = (0 : Int)) := fun h9 => c4 ((i3_eq _ _).mpr h9)
    refine lv_aload_n hx hb dX2_hourOf_8 rfl (lv_at hl 0 rfl) ?_
    obtain ⟨b5, rb5, kb5, nb5⟩ := hG0.r hk List.not_mem_nil 2 (show rty 2 2 = some (15, 5) from rfl)
    refine pg_gr (b := b5) (ci := 2) (C := RX2) (T := TX2) (N := 10) hx hb hts wi2 hown hK hW hk (by decide) rfl 2 (by decide) (hts (.fieldLink RX2 11 "IceHall$Mover" "moved" "[LIceHall$Session;") (by decide +kernel)) (fun _ h9 => h9) rfl rb5 dX2_hourOf_9 ?_
    refine lv_iload_n hx hb dX2_hourOf_12 rfl (lv_at hl 1 rfl) ?_
    refine pg_aaldS hx hb hK hW kb5 (by rw [show sL S b5 = 5 from nb5]; exact r_in (by omega)) dX2_hourOf_13 ?_
    rcases o6 : sR S b5 (Int32.toNatClampNeg a) with _ | b7
    · refine lv_goto (tgt := 18) hx hb dX2_hourOf_14 (by decide) ?_
      refine lv_astore_nN (lv' := [(3, .null), (0, .ref h), (1, .int a), (2, .int b)]) hx hb dX2_hourOf_18 rfl hl (by decide) rfl (fun ls hl => ?_)
      refine lv_aload_nN hx hb dX2_hourOf_19 rfl (lv_at hl 0 rfl) ?_
      refine lv_ifnonnullN hx hb dX2_hourOf_20 ?_
      refine lv_iconst (v := (-1)) hx hb dX2_hourOf_23 (by decide) ?_
      refine lv_goto (tgt := 36) hx hb dX2_hourOf_24 (by decide) ?_
      exact pc_iret (v := (-1)) (S := S) hx hb hr hlk hK hZ hA hW hS (⟨rfl, trivial⟩) dX2_hourOf_36
    · have kb7 : sK S b7 = 6 := hG.2.2.1 _ _ _ kb5 o6
      refine lv_goto (tgt := 18) hx hb dX2_hourOf_14 (by decide) ?_
      refine lv_astore_n (lv' := [(3, .ref b7), (0, .ref h), (1, .int a), (2, .int b)]) hx hb dX2_hourOf_18 rfl hl (by decide) rfl (fun ls hl => ?_)
      refine lv_aload_n hx hb dX2_hourOf_19 rfl (lv_at hl 0 rfl) ?_
      refine lv_ifnonnull (tgt := 27) hx hb dX2_hourOf_20 (by decide) ?_
      refine lv_aload_n hx hb dX2_hourOf_27 rfl (lv_at hl 0 rfl) ?_
      refine pg_gi (ci := 6) (C := RX6) (T := TX6) (N := 10) hx hb hts wi6 hown hK hW kb7 (by decide) rfl 5 (by decide) (hts (.fieldLink RX2 107 "IceHall$Session" "hour" "I") (by decide +kernel)) (fun _ h9 => h9) rfl dX2_hourOf_28 ?_
      refine lv_iload_n hx hb dX2_hourOf_31 rfl (lv_at hl 3 rfl) ?_
      refine pc_Si (As := [.int b]) (rest := [.int (sI S b7 5)]) F (b_X2_shiftOf l D cy A S b ) (va_cwS 1 hts gX2_hourOf_X2_shiftOf rfl rfl rfl (by decide +kernel) ⟨Nat.le_of_ble_eq_true rfl, Nat.le_of_ble_eq_true rfl⟩) hK hZ hA hW hS rfl hl.1 rfl (Nat.le_of_ble_eq_true rfl) dX2_hourOf_32 ⟨Nat.le_of_ble_eq_true rfl, Nat.le_of_ble_eq_true rfl⟩ (fun v8 T9 H locs p10 hW hS => ?_)
      obtain ⟨eT9, p10⟩ := p10
      rw [eT9] at hW
      clear eT9
      refine lv_iadd hx hb dX2_hourOf_35 ?_
      exact pc_iret (v := (sI S b7 5) + v8) (S := S) hx hb hr hlk hK hZ hA hW hS (⟨rfl, trivial⟩) dX2_hourOf_36
set_option maxHeartbeats 4000000 in
set_option maxRecDepth 100000 in
theorem b_X2_canGo (l : Launch) (D : va_G) (cy : Nat → ClassId) (A : Nat → Prop) (S : St) (h : Nat) (a b : Int32) (hG0 : G S) (hk : sK S h = 2) : MI l yX2_canGo wsX2_canGo ({ frames := 3, cells := 0, slots := 0, locals := 66 } : Room) 0 0 D cy A [.ref h, .int a, .int b] S (fun r S1 => S1 = S ∧ True) := by
  refine mt_start (cc := cX2_canGo) (maxL := 4) (ret := (some .boolean)) (by decide) rfl (Nat.le_of_ble_eq_true rfl) ?_
  intro p e s m args below meth c hx hb hr hlk hml hown hnm hts hK hZ hA hW hS ls hl
  have hl : lv_has ls 4 [(0, .ref h), (1, .int a), (2, .int b)] := hl
  have hown : s.vm.findClass RX2 = some m.cls := hown
  have F : CallFix p m c cX2_canGo 4 s args wsX2_canGo RX2 := ⟨hx, hb, hml, hown, hts⟩
  have wi2 : ∀ w ∈ u_ws RX2 TX2 10, w ∈ wsX2_canGo := by decide +kernel
  have hG := hG0
  refine lv_aload_n hx hb dX2_canGo_0 rfl (lv_at hl 0 rfl) ?_
  refine lv_iload_n hx hb dX2_canGo_1 rfl (lv_at hl 1 rfl) ?_
  refine lv_iload_n hx hb dX2_canGo_2 rfl (lv_at hl 2 rfl) ?_
  refine pc_Vi (As := [.int a, .int b]) (rest := []) F (b_X2_hourOf l D cy A S h a b hG hk) (cwV 2 hts gX2_canGo_X2_hourOf rfl rfl rfl (by decide +kernel) ⟨Nat.le_of_ble_eq_true rfl, Nat.le_of_ble_eq_true rfl⟩) hK hZ hA hW hS hk (by decide) rfl rfl hl.1 rfl (Nat.le_of_ble_eq_true rfl) dX2_canGo_3 ⟨Nat.le_of_ble_eq_true rfl, Nat.le_of_ble_eq_true rfl⟩ (fun v1 T2 H locs p3 hW hS => ?_)
  obtain ⟨eT2, p3⟩ := p3
  rw [eT2] at hW
  clear eT2
  refine lv_istore_n (lv' := [(3, .int v1), (0, .ref h), (1, .int a), (2, .int b)]) hx hb dX2_canGo_6 rfl hl (by decide) rfl (fun ls hl => ?_)
  refine lv_iload_n hx hb dX2_canGo_7 rfl (lv_at hl 0 rfl) ?_
  refine lv_aload_n hx hb dX2_canGo_8 rfl (lv_at hl 1 rfl) ?_
  refine pg_gi (ci := 2) (C := RX2) (T := TX2) (N := 10) hx hb hts wi2 hown hK hW hk (by decide) rfl 8 (by decide) (hts (.fieldLink RX2 42 "IceHall$Mover" "earliest" "I") (by decide +kernel)) (fun _ h9 => h9) rfl dX2_canGo_9 ?_
  refine lv_icmp_lt (tgt := 35) hx hb dX2_canGo_12 (by decide) (fun c4 => ?_) (fun c4 => ?_)
  · have c4i : Int32.toInt v1 < Int32.toInt (sI S h 8) := (i3_lt _ _).mp c4
    refine lv_iconst (v := 0) hx hb dX2_canGo_35 (by decide) ?_
    exact pc_zret (v := 0) (S := S) hx hb hr hlk hK hZ hA hW hS (by decide) (⟨rfl, trivial⟩) dX2_canGo_36
  · have c4i : ¬ (Int32.toInt v1 < Int32.toInt (sI S h 8)) := fun h9 => c4 ((i3_lt _ _).mpr h9)
    refine lv_aload_n hx hb dX2_canGo_15 rfl (lv_at hl 1 rfl) ?_
    refine lv_iload_n hx hb dX2_canGo_16 rfl (lv_at hl 3 rfl) ?_
    refine pc_Vq (As := [.int b]) (rest := []) F (b_X2_iceOfWay l D cy A S h b hG hk) (cwV 1 hts gX2_canGo_X2_iceOfWay rfl rfl rfl (by decide +kernel) ⟨Nat.le_of_ble_eq_true rfl, Nat.le_of_ble_eq_true rfl⟩) hK hZ hA hW hS hk (by decide) rfl rfl hl.1 rfl (Nat.le_of_ble_eq_true rfl) dX2_canGo_17 ⟨Nat.le_of_ble_eq_true rfl, Nat.le_of_ble_eq_true rfl⟩ (fun v5 T6 H locs p7 hW hS => ?_)
    obtain ⟨eT6, p7⟩ := p7
    rw [eT6] at hW
    obtain ⟨b8, erb8, kb8⟩ := p7
    rw [erb8]
    refine lv_iload_n hx hb dX2_canGo_20 rfl (lv_at hl 0 rfl) ?_
    refine lv_aload_n hx hb dX2_canGo_21 rfl (lv_at hl 1 rfl) ?_
    refine pg_gi (ci := 2) (C := RX2) (T := TX2) (N := 10) hx hb hts wi2 hown hK hW hk (by decide) rfl 9 (by decide) (hts (.fieldLink RX2 45 "IceHall$Mover" "restMost" "I") (by decide +kernel)) (fun _ h9 => h9) rfl dX2_canGo_22 ?_
    refine pc_Vi (As := [.int v1, .int (sI S h 9)]) (rest := []) F (b_X1_hasRoom l D cy A S b8 v1 (sI S h 9) hG kb8) (cwV 2 hts gX2_canGo_X1_hasRoom rfl rfl rfl (by decide +kernel) ⟨Nat.le_of_ble_eq_true rfl, Nat.le_of_ble_eq_true rfl⟩) hK hZ hA hW hS kb8 (by decide) rfl rfl hl.1 rfl (Nat.le_of_ble_eq_true rfl) dX2_canGo_25 ⟨Nat.le_of_ble_eq_true rfl, Nat.le_of_ble_eq_true rfl⟩ (fun v9 T10 H locs p11 hW hS => ?_)
    obtain ⟨eT10, p11⟩ := p11
    rw [eT10] at hW
    clear eT10
    refine lv_if_eq (tgt := 35) hx hb dX2_canGo_28 (by decide) (fun c12 => ?_) (fun c12 => ?_)
    · have c12i : Int32.toInt v9 = (0 : Int) := (i3_eq _ _).mp c12
      refine lv_iconst (v := 0) hx hb dX2_canGo_35 (by decide) ?_
      exact pc_zret (v := 0) (S := S) hx hb hr hlk hK hZ hA hW hS (by decide) (⟨rfl, trivial⟩) dX2_canGo_36
    · have c12i : ¬ (Int32.toInt v9 = (0 : Int)) := fun h9 => c12 ((i3_eq _ _).mpr h9)
      refine lv_iconst (v := 1) hx hb dX2_canGo_31 (by decide) ?_
      refine lv_goto (tgt := 36) hx hb dX2_canGo_32 (by decide) ?_
      exact pc_zret (v := 1) (S := S) hx hb hr hlk hK hZ hA hW hS (by decide) (⟨rfl, trivial⟩) dX2_canGo_36
set_option maxHeartbeats 4000000 in
set_option maxRecDepth 100000 in
theorem b_X2_leastAlone (l : Launch) (D : va_G) (cy : Nat → ClassId) (A : Nat → Prop) (S : St) (h : Nat) (a : Int32) (hG0 : G S) (hk : sK S h = 2) : MI l yX2_leastAlone wsX2_leastAlone ({ frames := 4, cells := 0, slots := 0, locals := 89 } : Room) 0 0 D cy A [.ref h, .int a] S (fun r S1 => S1 = S ∧ True) := by
  refine mt_start (cc := cX2_leastAlone) (maxL := 3) (ret := (some .int)) (by decide) rfl (Nat.le_of_ble_eq_true rfl) ?_
  intro p e s m args below meth c hx hb hr hlk hml hown hnm hts hK hZ hA hW hS ls hl
  have hl : lv_has ls 3 [(0, .ref h), (1, .int a)] := hl
  have hown : s.vm.findClass RX2 = some m.cls := hown
  have F : CallFix p m c cX2_leastAlone 3 s args wsX2_leastAlone RX2 := ⟨hx, hb, hml, hown, hts⟩
  have hG := hG0
  refine lv_iconst (v := 0) hx hb dX2_leastAlone_0 (by decide) ?_
  refine lv_istore_n (lv' := [(2, .int 0), (0, .ref h), (1, .int a)]) hx hb dX2_leastAlone_1 rfl hl (by decide) rfl (fun ls hl => ?_)
  have loop2 : ∀ (zn : Nat) (y : Int32) (H : Heap) (locs : List Loc) (ls : Array Slot), (0 ≤ y.toInt) → (14 - y.toInt).toNat < zn → PW D cy A S H → va_S A s.heap H locs → lv_has ls 3 [(0, .ref h), (1, .int a), (2, .int y)] → W p l e ({ frames := 4, cells := 0, slots := 0, locals := 89 } : Room) s m args below meth c H locs 0 0 (MQ below (va_Qi (fun r S1 => S1 = S ∧ True) (PU D cy A) A) args s 0 0 A) (F0 m 2 ls []) := by
    intro zn
    induction zn with
    | zero => intros; exact absurd (by assumption) (Nat.not_lt_zero _)
    | succ zn ih2 =>
      intro y H locs ls hy0 hme2 hW hS hl
      refine lv_iload_n hx hb dX2_leastAlone_2 rfl (lv_at hl 2 rfl) ?_
      refine lv_bipush (v := 14) hx hb dX2_leastAlone_3 (by decide) ?_
      refine lv_icmp_ge (tgt := 28) hx hb dX2_leastAlone_5 (by decide) (fun c1 => ?_) (fun c1 => ?_)
      · have c1i : (14 : Int) ≤ Int32.toInt y := (i3_le _ _).mp c1
        refine lv_bipush (v := 100) hx hb dX2_leastAlone_28 (by decide) ?_
        exact pc_iret (v := 100) (S := S) hx hb hr hlk hK hZ hA hW hS (⟨rfl, trivial⟩) dX2_leastAlone_30
      · have c1i : ¬ ((14 : Int) ≤ Int32.toInt y) := fun h9 => c1 ((i3_le _ _).mpr h9)
        refine lv_aload_n hx hb dX2_leastAlone_8 rfl (lv_at hl 0 rfl) ?_
        refine lv_iload_n hx hb dX2_leastAlone_9 rfl (lv_at hl 1 rfl) ?_
        refine lv_iload_n hx hb dX2_leastAlone_10 rfl (lv_at hl 2 rfl) ?_
        refine pc_Vi (As := [.int a, .int y]) (rest := []) F (b_X2_canGo l D cy A S h a y hG hk) (cwV 2 hts gX2_leastAlone_X2_canGo rfl rfl rfl (by decide +kernel) ⟨Nat.le_of_ble_eq_true rfl, Nat.le_of_ble_eq_true rfl⟩) hK hZ hA hW hS hk (by decide) rfl rfl hl.1 rfl (Nat.le_of_ble_eq_true rfl) dX2_leastAlone_11 ⟨Nat.le_of_ble_eq_true rfl, Nat.le_of_ble_eq_true rfl⟩ (fun v2 T3 H locs p4 hW hS => ?_)
        obtain ⟨eT3, p4⟩ := p4
        rw [eT3] at hW
        clear eT3
        refine lv_if_eq (tgt := 22) hx hb dX2_leastAlone_14 (by decide) (fun c5 => ?_) (fun c5 => ?_)
        · have c5i : Int32.toInt v2 = (0 : Int) := (i3_eq _ _).mp c5
          refine lv_iinc (v := y + 1) (lv' := [(2, .int (y + 1)), (0, .ref h), (1, .int a)]) hx hb dX2_leastAlone_22 hl (k := 2) rfl rfl (by decide) rfl (fun ls hl => ?_)
          have i6 : (y + 1).toInt = (y).toInt + 1 := i3_add rfl rfl (by omega) (by omega)
          refine lv_goto (tgt := 2) hx hb dX2_leastAlone_25 (by decide) ?_
          exact ih2 (y + 1) _ _ ls (by omega) (by omega) hW hS (lv_cast (lv_sub hl [1, 2, 0] rfl) (rfl))
        · have c5i : ¬ (Int32.toInt v2 = (0 : Int)) := fun h9 => c5 ((i3_eq _ _).mpr h9)
          refine lv_iload_n hx hb dX2_leastAlone_17 rfl (lv_at hl 2 rfl) ?_
          refine pc_Si (As := [.int y]) (rest := []) F (b_X2_costOf l D cy A S y ) (va_cwS 1 hts gX2_leastAlone_X2_costOf rfl rfl rfl (by decide +kernel) ⟨Nat.le_of_ble_eq_true rfl, Nat.le_of_ble_eq_true rfl⟩) hK hZ hA hW hS rfl hl.1 rfl (Nat.le_of_ble_eq_true rfl) dX2_leastAlone_18 ⟨Nat.le_of_ble_eq_true rfl, Nat.le_of_ble_eq_true rfl⟩ (fun v7 T8 H locs p9 hW hS => ?_)
          obtain ⟨eT8, p9⟩ := p9
          rw [eT8] at hW
          clear eT8
          exact pc_iret (v := v7) (S := S) hx hb hr hlk hK hZ hA hW hS (⟨rfl, trivial⟩) dX2_leastAlone_21
  exact loop2 _ 0 _ _ ls (by decide) (Nat.lt_succ_self _) hW hS (lv_cast (lv_sub hl [1, 2, 0] rfl) (rfl))
set_option maxHeartbeats 4000000 in
set_option maxRecDepth 100000 in
theorem b_X2_keepBest (l : Launch) (D : va_G) (cy : Nat → ClassId) (A : Nat → Prop) (S : St) (h : Nat) (a : Int32) (hG0 : G S) (hk : sK S h = 2) : MV l yX2_keepBest wsX2_keepBest ({ frames := 1, cells := 0, slots := 0, locals := 60 } : Room) 0 0 D cy A [.ref h, .int a] S (fun S1 => G S1 ∧ Fr [] [207, 1100] S S1 ∧ True) := by
  refine mt_start (cc := cX2_keepBest) (maxL := 2) (ret := none) (by decide) rfl (Nat.le_of_ble_eq_true rfl) ?_
  intro p e s m args below meth c hx hb hr hlk hml hown hnm hts hK hZ hA hW hS ls hl
  have hl : lv_has ls 2 [(0, .ref h), (1, .int a)] := hl
  have hown : s.vm.findClass RX2 = some m.cls := hown
  have F : CallFix p m c cX2_keepBest 2 s args wsX2_keepBest RX2 := ⟨hx, hb, hml, hown, hts⟩
  have wi2 : ∀ w ∈ u_ws RX2 TX2 10, w ∈ wsX2_keepBest := by decide +kernel
  have hG := hG0
  have hF : Fr [] [207, 1100] S S := Fr.rf _ _ _
  refine lv_iload_n hx hb dX2_keepBest_0 rfl (lv_at hl 1 rfl) ?_
  refine lv_aload_n hx hb dX2_keepBest_1 rfl (lv_at hl 0 rfl) ?_
  refine pg_gi (ci := 2) (C := RX2) (T := TX2) (N := 10) hx hb hts wi2 hown hK hW hk (by decide) rfl 7 (by decide) (hts (.fieldLink RX2 48 "IceHall$Mover" "bestCost" "I") (by decide +kernel)) (fun _ h9 => h9) rfl dX2_keepBest_2 ?_
  refine lv_icmp_ge (tgt := 27) hx hb dX2_keepBest_5 (by decide) (fun c1 => ?_) (fun c1 => ?_)
  · have c1i : Int32.toInt (sI S h 7) ≤ Int32.toInt a := (i3_le _ _).mp c1
    exact pc_vret (S := S) hx hb hr hlk hK hZ hA hW hS (⟨hG, hF, trivial⟩) dX2_keepBest_27
  · have c1i : ¬ (Int32.toInt (sI S h 7) ≤ Int32.toInt a) := fun h9 => c1 ((i3_le _ _).mpr h9)
    refine lv_aload_n hx hb dX2_keepBest_8 rfl (lv_at hl 0 rfl) ?_
    refine lv_iload_n hx hb dX2_keepBest_9 rfl (lv_at hl 1 rfl) ?_
    refine pg_pi (ci := 2) (C := RX2) (T := TX2) (N := 10) hx hb hts wi2 tyX2 tyX2_ok nmX2 hown hK hW hS hk (by decide) rfl 7 (by decide) (hts (.fieldLink RX2 48 "IceHall$Mover" "bestCost" "I") (by decide +kernel)) (fun _ h9 => h9) rfl rfl rfl dX2_keepBest_10 (fun H locs hW hS => ?_)
    obtain ⟨S2, eS2⟩ : ∃ T : St, T = stI S h 7 a := ⟨_, rfl⟩
    rw [← eS2] at hW
    have hG : G S2 := by rw [eS2]; exact hG.I hk (ok_fr (by decide))
    have hF : Fr [] [207, 1100] S S2 := by rw [eS2]; exact hF.I hk (by decide)
    clear eS2
    refine lv_aload_n hx hb dX2_keepBest_13 rfl (lv_at hl 0 rfl) ?_
    obtain ⟨b3, rb3, kb3, nb3⟩ := hG0.r hk List.not_mem_nil 3 (show rty 2 3 = some (11, 5) from rfl)
    refine pg_gr (b := b3) (ci := 2) (C := RX2) (T := TX2) (N := 10) hx hb hts wi2 hown hK hW (hF.k hk (by decide)) (by decide) rfl 3 (by decide) (hts (.fieldLink RX2 17 "IceHall$Mover" "row" "[I") (by decide +kernel)) (fun _ h9 => h9) rfl (hF.r hk (by decide) rb3) dX2_keepBest_14 ?_
    refine lv_iconst (v := 0) hx hb dX2_keepBest_17 (by decide) ?_
    refine lv_aload_n hx hb dX2_keepBest_18 rfl (lv_at hl 0 rfl) ?_
    obtain ⟨b4, rb4, kb4, nb4⟩ := hG0.r hk List.not_mem_nil 4 (show rty 2 4 = some (11, 5) from rfl)
    refine pg_gr (b := b4) (ci := 2) (C := RX2) (T := TX2) (N := 10) hx hb hts wi2 hown hK hW (hF.k hk (by decide)) (by decide) rfl 4 (by decide) (hts (.fieldLink RX2 21 "IceHall$Mover" "bestRow" "[I") (by decide +kernel)) (fun _ h9 => h9) rfl (hF.r hk (by decide) rb4) dX2_keepBest_19 ?_
    refine lv_iconst (v := 0) hx hb dX2_keepBest_22 (by decide) ?_
    refine lv_iconst (v := 5) hx hb dX2_keepBest_23 (by decide) ?_
    have kq5 : sK S2 b4 = 11 := (hF.k kb4 (by decide))
    have kq6 : sK S2 b3 = 11 := (hF.k kb3 (by decide))
    refine pg_copyi hx hb (by rw [hml]; exact hl.1.symm) hown (hts (.methodLink RX2 98 arraycopyName) (by decide +kernel)) (hts (.native arraycopyName) (by decide +kernel)) (hts (.static arraycopyName) (by decide +kernel)) (hts (.initialized "java/lang/System") (by decide +kernel)) hK hW hS kq6 kq5 (by decide) (by decide) (by decide) (by rw [show sL S2 b3 = 5 from (hF.n kb3 (by decide) nb3)]; decide) (by rw [show sL S2 b4 = 5 from (hF.n kb4 (by decide) nb4)]; decide) (Nat.le_of_ble_eq_true rfl) (Nat.le_of_ble_eq_true rfl) dX2_keepBest_24 (fun f9 H locs hW hS => ?_)
    obtain ⟨S7, eS7⟩ : ∃ T : St, T = stW S2 b4 f9 := ⟨_, rfl⟩
    rw [← eS7] at hW
    have hG : G S7 := by rw [eS7]; exact hG.W kq5 (by decide) (by decide)
    have hF : Fr [] [207, 1100] S S7 := by rw [eS7]; exact hF.W kq5 (by decide) (by decide)
    clear eS7
    exact pc_vret (S := S7) hx hb hr hlk hK hZ hA hW hS (⟨hG, hF, trivial⟩) dX2_keepBest_27
