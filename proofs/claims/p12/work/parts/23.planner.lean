set_option maxHeartbeats 4000000 in
set_option maxRecDepth 100000 in
theorem b_X3_begin (l : Launch) (D : va_G) (cy : Nat → ClassId) (A : Nat → Prop) (S : St) (h : Nat) (hG0 : G S) (hk : sK S h = 3) : MV l yX3_begin wsX3_begin ({ frames := 0, cells := 0, slots := 0, locals := 0 } : Room) 0 0 D cy A [.ref h] S (fun S1 => G S1 ∧ Fr [] [305] S S1 ∧ True) := by
  refine mt_start (cc := cX3_begin) (maxL := 1) (ret := none) (by decide) rfl (Nat.le_of_ble_eq_true rfl) ?_
  intro p e s m args below meth c hx hb hr hlk hml hown hnm hts hK hZ hA hW hS ls hl
  have hl : lv_has ls 1 [(0, .ref h)] := hl
  have hown : s.vm.findClass RX3 = some m.cls := hown
  have F : CallFix p m c cX3_begin 1 s args wsX3_begin RX3 := ⟨hx, hb, hml, hown, hts⟩
  have wi3 : ∀ w ∈ u_ws RX3 TX3 9, w ∈ wsX3_begin := by decide +kernel
  have hG := hG0
  have hF : Fr [] [305] S S := Fr.rf _ _ _
  refine lv_aload_n hx hb dX3_begin_0 rfl (lv_at hl 0 rfl) ?_
  refine lv_iconst (v := 0) hx hb dX3_begin_1 (by decide) ?_
  refine pg_pi (ci := 3) (C := RX3) (T := TX3) (N := 9) hx hb hts wi3 tyX3 tyX3_ok nmX3 hown hK hW hS hk (by decide) rfl 5 (by decide) (hts (.fieldLink RX3 28 "IceHall$Planner" "size" "I") (by decide +kernel)) (fun _ h9 => h9) rfl rfl rfl dX3_begin_2 (fun H locs hW hS => ?_)
  obtain ⟨S1, eS1⟩ : ∃ T : St, T = stI S h 5 0 := ⟨_, rfl⟩
  rw [← eS1] at hW
  have hG : G S1 := by rw [eS1]; exact hG.I hk (ok_in 0 8 (by decide) (by decide))
  have hF : Fr [] [305] S S1 := by rw [eS1]; exact hF.I hk (by decide)
  clear eS1
  exact pc_vret (S := S1) hx hb hr hlk hK hZ hA hW hS (⟨hG, hF, trivial⟩) dX3_begin_5
set_option maxHeartbeats 4000000 in
set_option maxRecDepth 100000 in
theorem b_X3_addHour (l : Launch) (D : va_G) (cy : Nat → ClassId) (A : Nat → Prop) (S : St) (h : Nat) (a b : Int32) (hG0 : G S) (hk : sK S h = 3) : MV l yX3_addHour wsX3_addHour ({ frames := 1, cells := 0, slots := 0, locals := 21 } : Room) 0 0 D cy A [.ref h, .int a, .int b] S (fun S1 => G S1 ∧ Fr [] [305, 1100] S S1 ∧ True) := by
  refine mt_start (cc := cX3_addHour) (maxL := 3) (ret := none) (by decide) rfl (Nat.le_of_ble_eq_true rfl) ?_
  intro p e s m args below meth c hx hb hr hlk hml hown hnm hts hK hZ hA hW hS ls hl
  have hl : lv_has ls 3 [(0, .ref h), (1, .int a), (2, .int b)] := hl
  have hown : s.vm.findClass RX3 = some m.cls := hown
  have F : CallFix p m c cX3_addHour 3 s args wsX3_addHour RX3 := ⟨hx, hb, hml, hown, hts⟩
  have wi3 : ∀ w ∈ u_ws RX3 TX3 9, w ∈ wsX3_addHour := by decide +kernel
  have hG := hG0
  have hF : Fr [] [305, 1100] S S := Fr.rf _ _ _
  have g1 : (0 : Int) ≤ (sI S h 5).toInt ∧ (sI S h 5).toInt ≤ 8 := hG0.i hk (by decide) 5 (by decide)
  refine lv_aload_n hx hb dX3_addHour_0 rfl (lv_at hl 0 rfl) ?_
  refine pg_gi (ci := 3) (C := RX3) (T := TX3) (N := 9) hx hb hts wi3 hown hK hW hk (by decide) rfl 5 (by decide) (hts (.fieldLink RX3 28 "IceHall$Planner" "size" "I") (by decide +kernel)) (fun _ h9 => h9) rfl dX3_addHour_1 ?_
  rw [show sI S h 5 = sI S h 5 from rfl]
  refine lv_bipush (v := 8) hx hb dX3_addHour_4 (by decide) ?_
  refine pc_Ni (As := [.int (sI S h 5), .int 8]) (rest := []) F (b_X8_isBelow l D cy A S (sI S h 5) 8 ) ⟨va_cnB 2 hts gX3_addHour_X8_isBelow_n31 rfl rfl rfl hZ.2.2.2.2.2.2.2.2.2.2.1 (hts (.initialized RX8) (by decide +kernel)) (by decide +kernel) ⟨Nat.le_of_ble_eq_true rfl, Nat.le_of_ble_eq_true rfl⟩, hts (.static yX8_isBelow) (by decide +kernel), trivial⟩ hK hZ hA hW hS rfl hl.1 rfl (Nat.le_of_ble_eq_true rfl) dX3_addHour_6 ⟨Nat.le_of_ble_eq_true rfl, Nat.le_of_ble_eq_true rfl⟩ (fun v2 T3 H locs p4 hW hS => ?_)
  obtain ⟨eT3, p4⟩ := p4
  rw [eT3] at hW
  clear eT3
  have p4 := isb_lit (n := 8) rfl p4
  refine lv_if_eq (tgt := 54) hx hb dX3_addHour_9 (by decide) (fun c5 => ?_) (fun c5 => ?_)
  · have c5i : Int32.toInt v2 = (0 : Int) := (i3_eq _ _).mp c5
    exact pc_vret (S := S) hx hb hr hlk hK hZ hA hW hS (⟨hG, hF, trivial⟩) dX3_addHour_54
  · have c5i : ¬ (Int32.toInt v2 = (0 : Int)) := fun h9 => c5 ((i3_eq _ _).mpr h9)
    refine lv_aload_n hx hb dX3_addHour_12 rfl (lv_at hl 0 rfl) ?_
    obtain ⟨b6, rb6, kb6, nb6⟩ := hG0.r hk List.not_mem_nil 1 (show rty 3 1 = some (11, 8) from rfl)
    refine pg_gr (b := b6) (ci := 3) (C := RX3) (T := TX3) (N := 9) hx hb hts wi3 hown hK hW hk (by decide) rfl 1 (by decide) (hts (.fieldLink RX3 15 "IceHall$Planner" "priceIn" "[I") (by decide +kernel)) (fun _ h9 => h9) rfl rb6 dX3_addHour_13 ?_
    refine lv_aload_n hx hb dX3_addHour_16 rfl (lv_at hl 0 rfl) ?_
    refine pg_gi (ci := 3) (C := RX3) (T := TX3) (N := 9) hx hb hts wi3 hown hK hW hk (by decide) rfl 5 (by decide) (hts (.fieldLink RX3 28 "IceHall$Planner" "size" "I") (by decide +kernel)) (fun _ h9 => h9) rfl dX3_addHour_17 ?_
    rw [show sI S h 5 = sI S h 5 from rfl]
    refine lv_iload_n hx hb dX3_addHour_20 rfl (lv_at hl 2 rfl) ?_
    refine pg_iast hx hb hK hW hS kb6 (by decide) (by rw [show sL S b6 = 8 from nb6]; exact r_in (by omega)) dX3_addHour_21 (fun H locs hW hS => ?_)
    obtain ⟨S7, eS7⟩ : ∃ T : St, T = stI S b6 (Int32.toNatClampNeg (sI S h 5)) b := ⟨_, rfl⟩
    rw [← eS7] at hW
    have hG : G S7 := by rw [eS7]; exact hG.I kb6 (ok_frA (by decide) (by decide))
    have w8 : sI S7 h 5 = sI S h 5 := by rw [eS7]; exact (iI_a (fk_ne hk kb6 (by decide))).trans rfl
    have hF : Fr [] [305, 1100] S S7 := by rw [eS7]; exact hF.IA kb6 (by decide) (by decide)
    clear eS7
    refine lv_aload_n hx hb dX3_addHour_22 rfl (lv_at hl 0 rfl) ?_
    obtain ⟨b9, rb9, kb9, nb9⟩ := hG0.r hk List.not_mem_nil 0 (show rty 3 0 = some (11, 9) from rfl)
    refine pg_gr (b := b9) (ci := 3) (C := RX3) (T := TX3) (N := 9) hx hb hts wi3 hown hK hW (hF.k hk (by decide)) (by decide) rfl 0 (by decide) (hts (.fieldLink RX3 9 "IceHall$Planner" "wantedAhead" "[I") (by decide +kernel)) (fun _ h9 => h9) rfl (hF.r hk (by decide) rb9) dX3_addHour_23 ?_
    refine lv_aload_n hx hb dX3_addHour_26 rfl (lv_at hl 0 rfl) ?_
    refine pg_gi (ci := 3) (C := RX3) (T := TX3) (N := 9) hx hb hts wi3 hown hK hW (hF.k hk (by decide)) (by decide) rfl 5 (by decide) (hts (.fieldLink RX3 28 "IceHall$Planner" "size" "I") (by decide +kernel)) (fun _ h9 => h9) rfl dX3_addHour_27 ?_
    rw [show sI S7 h 5 = sI S h 5 from w8]
    refine lv_iconst (v := 1) hx hb dX3_addHour_30 (by decide) ?_
    refine lv_iadd hx hb dX3_addHour_31 ?_
    have l10 : ((sI S h 5) + 1).toInt = Int32.toInt (sI S h 5) + (1 : Int) := i3_add rfl rfl (by omega) (by omega)
    refine lv_aload_n hx hb dX3_addHour_32 rfl (lv_at hl 0 rfl) ?_
    refine pg_gr (b := b9) (ci := 3) (C := RX3) (T := TX3) (N := 9) hx hb hts wi3 hown hK hW (hF.k hk (by decide)) (by decide) rfl 0 (by decide) (hts (.fieldLink RX3 9 "IceHall$Planner" "wantedAhead" "[I") (by decide +kernel)) (fun _ h9 => h9) rfl (hF.r hk (by decide) rb9) dX3_addHour_33 ?_
    refine lv_aload_n hx hb dX3_addHour_36 rfl (lv_at hl 0 rfl) ?_
    refine pg_gi (ci := 3) (C := RX3) (T := TX3) (N := 9) hx hb hts wi3 hown hK hW (hF.k hk (by decide)) (by decide) rfl 5 (by decide) (hts (.fieldLink RX3 28 "IceHall$Planner" "size" "I") (by decide +kernel)) (fun _ h9 => h9) rfl dX3_addHour_37 ?_
    rw [show sI S7 h 5 = sI S h 5 from w8]
    refine pg_iald hx hb hK hW (hF.k kb9 (by decide)) (by decide) (by rw [show sL S7 b9 = 9 from (hF.n kb9 (by decide) nb9)]; exact r_in (by omega)) dX3_addHour_40 ?_
    refine lv_iload_n hx hb dX3_addHour_41 rfl (lv_at hl 1 rfl) ?_
    refine lv_iadd hx hb dX3_addHour_42 ?_
    refine pg_iast hx hb hK hW hS (hF.k kb9 (by decide)) (by decide) (by rw [show sL S7 b9 = 9 from (hF.n kb9 (by decide) nb9)]; exact r_in (by omega)) dX3_addHour_43 (fun H locs hW hS => ?_)
    have kq11 : sK S7 b9 = 11 := (hF.k kb9 (by decide))
    obtain ⟨S12, eS12⟩ : ∃ T : St, T = stI S7 b9 (Int32.toNatClampNeg ((sI S h 5) + 1)) ((sI S7 b9 (Int32.toNatClampNeg (sI S h 5))) + a) := ⟨_, rfl⟩
    rw [← eS12] at hW
    have hG : G S12 := by rw [eS12]; exact hG.I kq11 (ok_frA (by decide) (by decide))
    have w13 : sI S12 h 5 = sI S h 5 := by rw [eS12]; exact (iI_a (fk_ne (hF.k hk (by decide)) kq11 (by decide))).trans w8
    have hF : Fr [] [305, 1100] S S12 := by rw [eS12]; exact hF.IA kq11 (by decide) (by decide)
    clear eS12
    refine lv_aload_n hx hb dX3_addHour_44 rfl (lv_at hl 0 rfl) ?_
    refine lv_dup hx hb dX3_addHour_45 rfl ?_
    refine pg_gi (ci := 3) (C := RX3) (T := TX3) (N := 9) hx hb hts wi3 hown hK hW (hF.k hk (by decide)) (by decide) rfl 5 (by decide) (hts (.fieldLink RX3 28 "IceHall$Planner" "size" "I") (by decide +kernel)) (fun _ h9 => h9) rfl dX3_addHour_46 ?_
    rw [show sI S12 h 5 = sI S h 5 from w13]
    refine lv_iconst (v := 1) hx hb dX3_addHour_49 (by decide) ?_
    refine lv_iadd hx hb dX3_addHour_50 ?_
    have l14 : ((sI S h 5) + 1).toInt = Int32.toInt (sI S h 5) + (1 : Int) := i3_add rfl rfl (by omega) (by omega)
    refine pg_pi (ci := 3) (C := RX3) (T := TX3) (N := 9) hx hb hts wi3 tyX3 tyX3_ok nmX3 hown hK hW hS (hF.k hk (by decide)) (by decide) rfl 5 (by decide) (hts (.fieldLink RX3 28 "IceHall$Planner" "size" "I") (by decide +kernel)) (fun _ h9 => h9) rfl rfl rfl dX3_addHour_51 (fun H locs hW hS => ?_)
    have kq15 : sK S12 h = 3 := (hF.k hk (by decide))
    obtain ⟨S16, eS16⟩ : ∃ T : St, T = stI S12 h 5 ((sI S h 5) + 1) := ⟨_, rfl⟩
    rw [← eS16] at hW
    have hG : G S16 := by rw [eS16]; exact hG.I kq15 (ok_in 0 8 (by decide) (⟨by omega, by omega⟩))
    have hF : Fr [] [305, 1100] S S16 := by rw [eS16]; exact hF.I kq15 (by decide)
    have w17 : sI S16 h 5 = (sI S h 5) + 1 := by rw [eS16]; exact iI_s
    clear eS16
    exact pc_vret (S := S16) hx hb hr hlk hK hZ hA hW hS (⟨hG, hF, trivial⟩) dX3_addHour_54
set_option maxHeartbeats 4000000 in
set_option maxRecDepth 100000 in
theorem b_X3_weightWith (l : Launch) (D : va_G) (cy : Nat → ClassId) (A : Nat → Prop) (S : St) (h : Nat) (a b d : Int32) (hG0 : G S) (hk : sK S h = 3) (hi0 : 0 ≤ a.toInt) (hi8 : a.toInt < 8) : MI l yX3_weightWith wsX3_weightWith ({ frames := 1, cells := 0, slots := 0, locals := 21 } : Room) 0 0 D cy A [.ref h, .int a, .int b, .int d] S (fun r S1 => S1 = S ∧ True) := by
  refine mt_start (cc := cX3_weightWith) (maxL := 6) (ret := (some .int)) (by decide) rfl (Nat.le_of_ble_eq_true rfl) ?_
  intro p e s m args below meth c hx hb hr hlk hml hown hnm hts hK hZ hA hW hS ls hl
  have hl : lv_has ls 6 [(0, .ref h), (1, .int a), (2, .int b), (3, .int d)] := hl
  have hown : s.vm.findClass RX3 = some m.cls := hown
  have F : CallFix p m c cX3_weightWith 6 s args wsX3_weightWith RX3 := ⟨hx, hb, hml, hown, hts⟩
  have wi3 : ∀ w ∈ u_ws RX3 TX3 9, w ∈ wsX3_weightWith := by decide +kernel
  have hG := hG0
  have hi1 : (a + 1).toInt = a.toInt + 1 := i3_add rfl rfl (by omega) (by omega)
  refine lv_aload_n hx hb dX3_weightWith_0 rfl (lv_at hl 0 rfl) ?_
  refine pg_gi (ci := 3) (C := RX3) (T := TX3) (N := 9) hx hb hts wi3 hown hK hW hk (by decide) rfl 6 (by decide) (hts (.fieldLink RX3 35 "IceHall$Planner" "store" "I") (by decide +kernel)) (fun _ h9 => h9) rfl dX3_weightWith_1 ?_
  refine lv_bipush (v := 20) hx hb dX3_weightWith_4 (by decide) ?_
  refine lv_iload_n hx hb dX3_weightWith_6 rfl (lv_at hl 2 rfl) ?_
  refine lv_iload_n hx hb dX3_weightWith_7 rfl (lv_at hl 3 rfl) ?_
  refine lv_iadd hx hb dX3_weightWith_8 ?_
  refine lv_imul hx hb dX3_weightWith_9 ?_
  refine lv_iadd hx hb dX3_weightWith_10 ?_
  refine lv_istore (lv' := [(4, .int ((sI S h 6) + (20 * (b + d)))), (0, .ref h), (1, .int a), (2, .int b), (3, .int d)]) hx hb dX3_weightWith_11 hl (by decide) rfl (fun ls hl => ?_)
  refine lv_iload_n hx hb dX3_weightWith_13 rfl (lv_at hl 2 rfl) ?_
  refine lv_iconst (v := 1) hx hb dX3_weightWith_14 (by decide) ?_
  refine lv_iadd hx hb dX3_weightWith_15 ?_
  refine lv_bipush (v := 25) hx hb dX3_weightWith_16 (by decide) ?_
  refine lv_imul hx hb dX3_weightWith_18 ?_
  refine lv_iload_n hx hb dX3_weightWith_19 rfl (lv_at hl 3 rfl) ?_
  refine lv_iadd hx hb dX3_weightWith_20 ?_
  refine lv_iload_n hx hb dX3_weightWith_21 rfl (lv_at hl 4 rfl) ?_
  refine lv_iadd hx hb dX3_weightWith_22 ?_
  refine lv_istore (lv' := [(5, .int ((((a + 1) * 25) + b) + d)), (4, .int ((sI S h 6) + (20 * (b + d)))), (0, .ref h), (1, .int a), (2, .int b), (3, .int d)]) hx hb dX3_weightWith_23 hl (by decide) rfl (fun ls hl => ?_)
  refine lv_iload hx hb dX3_weightWith_25 (lv_at hl 1 rfl) ?_
  refine lv_aload_n hx hb dX3_weightWith_27 rfl (lv_at hl 2 rfl) ?_
  obtain ⟨b1, rb1, kb1, nb1⟩ := hG0.r hk List.not_mem_nil 0 (show rty 3 0 = some (11, 9) from rfl)
  refine pg_gr (b := b1) (ci := 3) (C := RX3) (T := TX3) (N := 9) hx hb hts wi3 hown hK hW hk (by decide) rfl 0 (by decide) (hts (.fieldLink RX3 9 "IceHall$Planner" "wantedAhead" "[I") (by decide +kernel)) (fun _ h9 => h9) rfl rb1 dX3_weightWith_28 ?_
  refine lv_iload_n hx hb dX3_weightWith_31 rfl (lv_at hl 3 rfl) ?_
  refine pg_iald hx hb hK hW kb1 (by decide) (by rw [show sL S b1 = 9 from nb1]; exact r_in (by omega)) dX3_weightWith_32 ?_
  refine lv_isub hx hb dX3_weightWith_33 ?_
  refine lv_aload_n hx hb dX3_weightWith_34 rfl (lv_at hl 2 rfl) ?_
  refine pg_gi (ci := 3) (C := RX3) (T := TX3) (N := 9) hx hb hts wi3 hown hK hW hk (by decide) rfl 7 (by decide) (hts (.fieldLink RX3 38 "IceHall$Planner" "storeMost" "I") (by decide +kernel)) (fun _ h9 => h9) rfl dX3_weightWith_35 ?_
  refine lv_icmp_gt (tgt := 55) hx hb dX3_weightWith_38 (by decide) (fun c2 => ?_) (fun c2 => ?_)
  · have c2i : Int32.toInt (sI S h 7) < Int32.toInt (((sI S h 6) + (20 * (b + d))) - (sI S b1 (Int32.toNatClampNeg a))) := (i3_lt _ _).mp c2
    refine lv_ldc (v := (1000000000)) hx hb hown (hts (.constant RX3 48 (1000000000)) (by decide +kernel)) dX3_weightWith_55 ?_
    exact pc_iret (v := (1000000000)) (S := S) hx hb hr hlk hK hZ hA hW hS (⟨rfl, trivial⟩) dX3_weightWith_57
  · have c2i : ¬ (Int32.toInt (sI S h 7) < Int32.toInt (((sI S h 6) + (20 * (b + d))) - (sI S b1 (Int32.toNatClampNeg a)))) := fun h9 => c2 ((i3_lt _ _).mpr h9)
    refine lv_iload hx hb dX3_weightWith_41 (lv_at hl 1 rfl) ?_
    refine lv_aload_n hx hb dX3_weightWith_43 rfl (lv_at hl 2 rfl) ?_
    refine pg_gr (b := b1) (ci := 3) (C := RX3) (T := TX3) (N := 9) hx hb hts wi3 hown hK hW hk (by decide) rfl 0 (by decide) (hts (.fieldLink RX3 9 "IceHall$Planner" "wantedAhead" "[I") (by decide +kernel)) (fun _ h9 => h9) rfl rb1 dX3_weightWith_44 ?_
    refine lv_iload_n hx hb dX3_weightWith_47 rfl (lv_at hl 3 rfl) ?_
    refine lv_iconst (v := 1) hx hb dX3_weightWith_48 (by decide) ?_
    refine lv_iadd hx hb dX3_weightWith_49 ?_
    refine pg_iald hx hb hK hW kb1 (by decide) (by rw [show sL S b1 = 9 from nb1]; exact r_in (by omega)) dX3_weightWith_50 ?_
    refine lv_isub hx hb dX3_weightWith_51 ?_
    refine lv_if_ge (tgt := 58) hx hb dX3_weightWith_52 (by decide) (fun c3 => ?_) (fun c3 => ?_)
    · have c3i : (0 : Int) ≤ Int32.toInt (((sI S h 6) + (20 * (b + d))) - (sI S b1 (Int32.toNatClampNeg (a + 1)))) := (i3_le _ _).mp c3
      refine lv_iload hx hb dX3_weightWith_58 (lv_at hl 0 rfl) ?_
      refine lv_aload_n hx hb dX3_weightWith_60 rfl (lv_at hl 2 rfl) ?_
      obtain ⟨b4, rb4, kb4, nb4⟩ := hG0.r hk List.not_mem_nil 2 (show rty 3 2 = some (11, 225) from rfl)
      refine pg_gr (b := b4) (ci := 3) (C := RX3) (T := TX3) (N := 9) hx hb hts wi3 hown hK hW hk (by decide) rfl 2 (by decide) (hts (.fieldLink RX3 18 "IceHall$Planner" "best" "[I") (by decide +kernel)) (fun _ h9 => h9) rfl rb4 dX3_weightWith_61 ?_
      refine pg_alen hx hb hK hW kb4 dX3_weightWith_64 ?_
      rw [show nI (sL S b4) = 225 from by rw [show sL S b4 = 225 from nb4]; rfl]
      refine pc_Ni (As := [.int ((((a + 1) * 25) + b) + d), .int 225]) (rest := []) F (b_X8_isBelow l D cy A S ((((a + 1) * 25) + b) + d) 225 ) ⟨va_cnB 2 hts gX3_weightWith_X8_isBelow_n31 rfl rfl rfl hZ.2.2.2.2.2.2.2.2.2.2.1 (hts (.initialized RX8) (by decide +kernel)) (by decide +kernel) ⟨Nat.le_of_ble_eq_true rfl, Nat.le_of_ble_eq_true rfl⟩, hts (.static yX8_isBelow) (by decide +kernel), trivial⟩ hK hZ hA hW hS rfl hl.1 rfl (Nat.le_of_ble_eq_true rfl) dX3_weightWith_65 ⟨Nat.le_of_ble_eq_true rfl, Nat.le_of_ble_eq_true rfl⟩ (fun v5 T6 H locs p7 hW hS => ?_)
      obtain ⟨eT6, p7⟩ := p7
      rw [eT6] at hW
      clear eT6
      have p7 := isb_lit (n := 225) rfl p7
      refine lv_if_eq (tgt := 83) hx hb dX3_weightWith_68 (by decide) (fun c8 => ?_) (fun c8 => ?_)
      · have c8i : Int32.toInt v5 = (0 : Int) := (i3_eq _ _).mp c8
        refine lv_ldc (v := (1000000000)) hx hb hown (hts (.constant RX3 48 (1000000000)) (by decide +kernel)) dX3_weightWith_83 ?_
        exact pc_iret (v := (1000000000)) (S := S) hx hb hr hlk hK hZ hA hW hS (⟨rfl, trivial⟩) dX3_weightWith_85
      · have c8i : ¬ (Int32.toInt v5 = (0 : Int)) := fun h9 => c8 ((i3_eq _ _).mpr h9)
        refine lv_aload_n hx hb dX3_weightWith_71 rfl (lv_at hl 2 rfl) ?_
        refine pg_gr (b := b4) (ci := 3) (C := RX3) (T := TX3) (N := 9) hx hb hts wi3 hown hK hW hk (by decide) rfl 2 (by decide) (hts (.fieldLink RX3 18 "IceHall$Planner" "best" "[I") (by decide +kernel)) (fun _ h9 => h9) rfl rb4 dX3_weightWith_72 ?_
        refine lv_iload hx hb dX3_weightWith_75 (lv_at hl 0 rfl) ?_
        refine pg_iald hx hb hK hW kb4 (by decide) (by rw [show sL S b4 = 225 from nb4]; exact r_in (by omega)) dX3_weightWith_77 ?_
        refine lv_ldc (v := (1000000000)) hx hb hown (hts (.constant RX3 48 (1000000000)) (by decide +kernel)) dX3_weightWith_78 ?_
        refine lv_icmp_lt (tgt := 86) hx hb dX3_weightWith_80 (by decide) (fun c9 => ?_) (fun c9 => ?_)
        · have c9i : Int32.toInt (sI S b4 (Int32.toNatClampNeg ((((a + 1) * 25) + b) + d))) < (1000000000 : Int) := (i3_lt _ _).mp c9
          refine lv_aload_n hx hb dX3_weightWith_86 rfl (lv_at hl 2 rfl) ?_
          refine pg_gr (b := b4) (ci := 3) (C := RX3) (T := TX3) (N := 9) hx hb hts wi3 hown hK hW hk (by decide) rfl 2 (by decide) (hts (.fieldLink RX3 18 "IceHall$Planner" "best" "[I") (by decide +kernel)) (fun _ h9 => h9) rfl rb4 dX3_weightWith_87 ?_
          refine lv_iload hx hb dX3_weightWith_90 (lv_at hl 0 rfl) ?_
          refine pg_iald hx hb hK hW kb4 (by decide) (by rw [show sL S b4 = 225 from nb4]; exact r_in (by omega)) dX3_weightWith_92 ?_
          refine lv_iload_n hx hb dX3_weightWith_93 rfl (lv_at hl 5 rfl) ?_
          refine lv_aload_n hx hb dX3_weightWith_94 rfl (lv_at hl 2 rfl) ?_
          obtain ⟨b10, rb10, kb10, nb10⟩ := hG0.r hk List.not_mem_nil 1 (show rty 3 1 = some (11, 8) from rfl)
          refine pg_gr (b := b10) (ci := 3) (C := RX3) (T := TX3) (N := 9) hx hb hts wi3 hown hK hW hk (by decide) rfl 1 (by decide) (hts (.fieldLink RX3 15 "IceHall$Planner" "priceIn" "[I") (by decide +kernel)) (fun _ h9 => h9) rfl rb10 dX3_weightWith_95 ?_
          refine lv_iload_n hx hb dX3_weightWith_98 rfl (lv_at hl 3 rfl) ?_
          refine pg_iald hx hb hK hW kb10 (by decide) (by rw [show sL S b10 = 8 from nb10]; exact r_in (by omega)) dX3_weightWith_99 ?_
          refine lv_bipush (v := 100) hx hb dX3_weightWith_100 (by decide) ?_
          refine lv_imul hx hb dX3_weightWith_102 ?_
          refine lv_iconst (v := 1) hx hb dX3_weightWith_103 (by decide) ?_
          refine lv_iadd hx hb dX3_weightWith_104 ?_
          refine lv_imul hx hb dX3_weightWith_105 ?_
          refine lv_iadd hx hb dX3_weightWith_106 ?_
          exact pc_iret (v := (sI S b4 (Int32.toNatClampNeg ((((a + 1) * 25) + b) + d))) + (d * (((sI S b10 (Int32.toNatClampNeg a)) * 100) + 1))) (S := S) hx hb hr hlk hK hZ hA hW hS (⟨rfl, trivial⟩) dX3_weightWith_107
        · have c9i : ¬ (Int32.toInt (sI S b4 (Int32.toNatClampNeg ((((a + 1) * 25) + b) + d))) < (1000000000 : Int)) := fun h9 => c9 ((i3_lt _ _).mpr h9)
          refine lv_ldc (v := (1000000000)) hx hb hown (hts (.constant RX3 48 (1000000000)) (by decide +kernel)) dX3_weightWith_83 ?_
          exact pc_iret (v := (1000000000)) (S := S) hx hb hr hlk hK hZ hA hW hS (⟨rfl, trivial⟩) dX3_weightWith_85
    · have c3i : ¬ ((0 : Int) ≤ Int32.toInt (((sI S h 6) + (20 * (b + d))) - (sI S b1 (Int32.toNatClampNeg (a + 1))))) := fun h9 => c3 ((i3_le _ _).mpr h9)
      refine lv_ldc (v := (1000000000)) hx hb hown (hts (.constant RX3 48 (1000000000)) (by decide +kernel)) dX3_weightWith_55 ?_
      exact pc_iret (v := (1000000000)) (S := S) hx hb hr hlk hK hZ hA hW hS (⟨rfl, trivial⟩) dX3_weightWith_57
set_option maxHeartbeats 4000000 in
set_option maxRecDepth 100000 in
theorem b_X3_leastOver (l : Launch) (D : va_G) (cy : Nat → ClassId) (A : Nat → Prop) (S : St) (h : Nat) (a b : Int32) (hG0 : G S) (hk : sK S h = 3) (hi0 : 0 ≤ a.toInt) (hi8 : a.toInt < 8) (hw0 : 0 ≤ (sI S h 8).toInt) (hw3 : (sI S h 8).toInt ≤ 3) : MI l yX3_leastOver wsX3_leastOver ({ frames := 2, cells := 0, slots := 0, locals := 60 } : Room) 0 0 D cy A [.ref h, .int a, .int b] S (fun r S1 => S1 = S ∧ True) := by
  refine mt_start (cc := cX3_leastOver) (maxL := 5) (ret := (some .int)) (by decide) rfl (Nat.le_of_ble_eq_true rfl) ?_
  intro p e s m args below meth c hx hb hr hlk hml hown hnm hts hK hZ hA hW hS ls hl
  have hl : lv_has ls 5 [(0, .ref h), (1, .int a), (2, .int b)] := hl
  have hown : s.vm.findClass RX3 = some m.cls := hown
  have F : CallFix p m c cX3_leastOver 5 s args wsX3_leastOver RX3 := ⟨hx, hb, hml, hown, hts⟩
  have wi3 : ∀ w ∈ u_ws RX3 TX3 9, w ∈ wsX3_leastOver := by decide +kernel
  have hG := hG0
  refine lv_ldc (v := (1000000000)) hx hb hown (hts (.constant RX3 48 (1000000000)) (by decide +kernel)) dX3_leastOver_0 ?_
  refine lv_istore_n (lv' := [(3, .int ((1000000000))), (0, .ref h), (1, .int a), (2, .int b)]) hx hb dX3_leastOver_2 rfl hl (by decide) rfl (fun ls hl => ?_)
  refine lv_iconst (v := 0) hx hb dX3_leastOver_3 (by decide) ?_
  refine lv_istore (lv' := [(4, .int 0), (3, .int ((1000000000))), (0, .ref h), (1, .int a), (2, .int b)]) hx hb dX3_leastOver_4 hl (by decide) rfl (fun ls hl => ?_)
  have loop6 : ∀ (zn : Nat) (z : Int32) (y : Int32) (H : Heap) (locs : List Loc) (ls : Array Slot), (0 ≤ y.toInt) → (y.toInt ≤ 4) → (4 - y.toInt).toNat < zn → PW D cy A S H → va_S A s.heap H locs → lv_has ls 5 [(0, .ref h), (1, .int a), (2, .int b), (3, .int z), (4, .int y)] → W p l e ({ frames := 2, cells := 0, slots := 0, locals := 60 } : Room) s m args below meth c H locs 0 0 (MQ below (va_Qi (fun r S1 => S1 = S ∧ True) (PU D cy A) A) args s 0 0 A) (F0 m 6 ls []) := by
    intro zn
    induction zn with
    | zero => intros; exact absurd (by assumption) (Nat.not_lt_zero _)
    | succ zn ih6 =>
      intro z y H locs ls hy0 hy4 hme6 hW hS hl
      refine lv_iload hx hb dX3_leastOver_6 (lv_at hl 4 rfl) ?_
      refine lv_aload_n hx hb dX3_leastOver_8 rfl (lv_at hl 0 rfl) ?_
      refine pg_gi (ci := 3) (C := RX3) (T := TX3) (N := 9) hx hb hts wi3 hown hK hW hk (by decide) rfl 8 (by decide) (hts (.fieldLink RX3 41 "IceHall$Planner" "working" "I") (by decide +kernel)) (fun _ h9 => h9) rfl dX3_leastOver_9 ?_
      refine lv_icmp_gt (tgt := 34) hx hb dX3_leastOver_12 (by decide) (fun c1 => ?_) (fun c1 => ?_)
      · have c1i : Int32.toInt (sI S h 8) < Int32.toInt y := (i3_lt _ _).mp c1
        refine lv_iload_n hx hb dX3_leastOver_34 rfl (lv_at hl 3 rfl) ?_
        exact pc_iret (v := z) (S := S) hx hb hr hlk hK hZ hA hW hS (⟨rfl, trivial⟩) dX3_leastOver_35
      · have c1i : ¬ (Int32.toInt (sI S h 8) < Int32.toInt y) := fun h9 => c1 ((i3_lt _ _).mpr h9)
        refine lv_iload_n hx hb dX3_leastOver_15 rfl (lv_at hl 3 rfl) ?_
        refine lv_aload_n hx hb dX3_leastOver_16 rfl (lv_at hl 0 rfl) ?_
        refine lv_iload_n hx hb dX3_leastOver_17 rfl (lv_at hl 1 rfl) ?_
        refine lv_iload_n hx hb dX3_leastOver_18 rfl (lv_at hl 2 rfl) ?_
        refine lv_iload hx hb dX3_leastOver_19 (lv_at hl 4 rfl) ?_
        refine pc_Vi (As := [.int a, .int b, .int y]) (rest := [.int z]) F (b_X3_weightWith l D cy A S h a b y hG hk (by omega) (by omega)) (cwV 3 hts gX3_leastOver_X3_weightWith rfl rfl rfl (by decide +kernel) ⟨Nat.le_of_ble_eq_true rfl, Nat.le_of_ble_eq_true rfl⟩) hK hZ hA hW hS hk (by decide) rfl rfl hl.1 rfl (Nat.le_of_ble_eq_true rfl) dX3_leastOver_21 ⟨Nat.le_of_ble_eq_true rfl, Nat.le_of_ble_eq_true rfl⟩ (fun v2 T3 H locs p4 hW hS => ?_)
        obtain ⟨eT3, p4⟩ := p4
        rw [eT3] at hW
        clear eT3
        refine va_mmin hx hb (by rw [hml]; exact hl.1.symm) hown (hts (.methodLink RX3 56 Lib.Math.min.name) (by decide +kernel)) (hts (.static Lib.Math.min.name) (by decide +kernel)) (hts (.initialized "java/lang/Math") (by decide +kernel)) (hts (.code Lib.Math.min.name Lib.Math.min.code 2 (some .int)) (by decide +kernel)) (Nat.le_of_ble_eq_true rfl) (Nat.le_of_ble_eq_true rfl) (Nat.le_of_ble_eq_true rfl) (Nat.le_of_ble_eq_true rfl) dX3_leastOver_24 ?_
        refine lv_topi (fun m5 em5 => ?_)
        refine lv_istore_n (lv' := [(3, .int m5), (0, .ref h), (1, .int a), (2, .int b), (4, .int y)]) hx hb dX3_leastOver_27 rfl hl (by decide) rfl (fun ls hl => ?_)
        refine lv_iinc (v := y + 1) (lv' := [(4, .int (y + 1)), (3, .int m5), (0, .ref h), (1, .int a), (2, .int b)]) hx hb dX3_leastOver_28 hl (k := 4) rfl rfl (by decide) rfl (fun ls hl => ?_)
        have i6 : (y + 1).toInt = (y).toInt + 1 := i3_add rfl rfl (by omega) (by omega)
        refine lv_goto (tgt := 6) hx hb dX3_leastOver_31 (by decide) ?_
        exact ih6 m5 (y + 1) _ _ ls (by omega) (by omega) (by omega) hW hS (lv_cast (lv_sub hl [2, 3, 4, 1, 0] rfl) (rfl))
  exact loop6 _ 1000000000 0 _ _ ls (by decide) (by decide) (Nat.lt_succ_self _) hW hS (lv_cast (lv_sub hl [2, 3, 4, 1, 0] rfl) (rfl))
set_option maxHeartbeats 4000000 in
set_option maxRecDepth 100000 in
theorem b_X3_leastOn (l : Launch) (D : va_G) (cy : Nat → ClassId) (A : Nat → Prop) (S : St) (h : Nat) (a b : Int32) (hG0 : G S) (hk : sK S h = 3) (hi0 : 0 ≤ a.toInt) (hi8 : a.toInt < 8) (hw0 : 0 ≤ (sI S h 8).toInt) (hw3 : (sI S h 8).toInt ≤ 3) : MI l yX3_leastOn wsX3_leastOn ({ frames := 3, cells := 0, slots := 0, locals := 84 } : Room) 0 0 D cy A [.ref h, .int a, .int b] S (fun r S1 => S1 = S ∧ True) := by
  refine mt_start (cc := cX3_leastOn) (maxL := 5) (ret := (some .int)) (by decide) rfl (Nat.le_of_ble_eq_true rfl) ?_
  intro p e s m args below meth c hx hb hr hlk hml hown hnm hts hK hZ hA hW hS ls hl
  have hl : lv_has ls 5 [(0, .ref h), (1, .int a), (2, .int b)] := hl
  have hown : s.vm.findClass RX3 = some m.cls := hown
  have F : CallFix p m c cX3_leastOn 5 s args wsX3_leastOn RX3 := ⟨hx, hb, hml, hown, hts⟩
  have wi3 : ∀ w ∈ u_ws RX3 TX3 9, w ∈ wsX3_leastOn := by decide +kernel
  have hG := hG0
  refine lv_aload_n hx hb dX3_leastOn_0 rfl (lv_at hl 0 rfl) ?_
  refine lv_iload_n hx hb dX3_leastOn_1 rfl (lv_at hl 1 rfl) ?_
  refine lv_iload_n hx hb dX3_leastOn_2 rfl (lv_at hl 2 rfl) ?_
  refine pc_Vi (As := [.int a, .int b]) (rest := []) F (b_X3_leastOver l D cy A S h a b hG hk (by omega) (by omega) (by omega) (by omega)) (cwV 2 hts gX3_leastOn_X3_leastOver rfl rfl rfl (by decide +kernel) ⟨Nat.le_of_ble_eq_true rfl, Nat.le_of_ble_eq_true rfl⟩) hK hZ hA hW hS hk (by decide) rfl rfl hl.1 rfl (Nat.le_of_ble_eq_true rfl) dX3_leastOn_3 ⟨Nat.le_of_ble_eq_true rfl, Nat.le_of_ble_eq_true rfl⟩ (fun v1 T2 H locs p3 hW hS => ?_)
  obtain ⟨eT2, p3⟩ := p3
  rw [eT2] at hW
  clear eT2
  refine lv_istore_n (lv' := [(3, .int v1), (0, .ref h), (1, .int a), (2, .int b)]) hx hb dX3_leastOn_6 rfl hl (by decide) rfl (fun ls hl => ?_)
  refine lv_iconst (v := 0) hx hb dX3_leastOn_7 (by decide) ?_
  refine lv_istore (lv' := [(4, .int 0), (3, .int v1), (0, .ref h), (1, .int a), (2, .int b)]) hx hb dX3_leastOn_8 hl (by decide) rfl (fun ls hl => ?_)
  have loop10 : ∀ (zn : Nat) (y : Int32) (H : Heap) (locs : List Loc) (ls : Array Slot), (0 ≤ y.toInt) → (y.toInt ≤ 4) → (4 - y.toInt).toNat < zn → PW D cy A S H → va_S A s.heap H locs → lv_has ls 5 [(0, .ref h), (1, .int a), (2, .int b), (3, .int v1), (4, .int y)] → W p l e ({ frames := 3, cells := 0, slots := 0, locals := 84 } : Room) s m args below meth c H locs 0 0 (MQ below (va_Qi (fun r S1 => S1 = S ∧ True) (PU D cy A) A) args s 0 0 A) (F0 m 10 ls []) := by
    intro zn
    induction zn with
    | zero => intros; exact absurd (by assumption) (Nat.not_lt_zero _)
    | succ zn ih10 =>
      intro y H locs ls hy0 hy4 hme10 hW hS hl
      refine lv_iload hx hb dX3_leastOn_10 (lv_at hl 4 rfl) ?_
      refine lv_aload_n hx hb dX3_leastOn_12 rfl (lv_at hl 0 rfl) ?_
      refine pg_gi (ci := 3) (C := RX3) (T := TX3) (N := 9) hx hb hts wi3 hown hK hW hk (by decide) rfl 8 (by decide) (hts (.fieldLink RX3 41 "IceHall$Planner" "working" "I") (by decide +kernel)) (fun _ h9 => h9) rfl dX3_leastOn_13 ?_
      refine lv_icmp_ge (tgt := 40) hx hb dX3_leastOn_16 (by decide) (fun c4 => ?_) (fun c4 => ?_)
      · have c4i : Int32.toInt (sI S h 8) ≤ Int32.toInt y := (i3_le _ _).mp c4
        refine lv_aload_n hx hb dX3_leastOn_40 rfl (lv_at hl 0 rfl) ?_
        refine pg_gi (ci := 3) (C := RX3) (T := TX3) (N := 9) hx hb hts wi3 hown hK hW hk (by decide) rfl 8 (by decide) (hts (.fieldLink RX3 41 "IceHall$Planner" "working" "I") (by decide +kernel)) (fun _ h9 => h9) rfl dX3_leastOn_41 ?_
        exact pc_iret (v := sI S h 8) (S := S) hx hb hr hlk hK hZ hA hW hS (⟨rfl, trivial⟩) dX3_leastOn_44
      · have c4i : ¬ (Int32.toInt (sI S h 8) ≤ Int32.toInt y) := fun h9 => c4 ((i3_le _ _).mpr h9)
        refine lv_aload_n hx hb dX3_leastOn_19 rfl (lv_at hl 0 rfl) ?_
        refine lv_iload_n hx hb dX3_leastOn_20 rfl (lv_at hl 1 rfl) ?_
        refine lv_iload_n hx hb dX3_leastOn_21 rfl (lv_at hl 2 rfl) ?_
        refine lv_iload hx hb dX3_leastOn_22 (lv_at hl 4 rfl) ?_
        refine pc_Vi (As := [.int a, .int b, .int y]) (rest := []) F (b_X3_weightWith l D cy A S h a b y hG hk (by omega) (by omega)) (cwV 3 hts gX3_leastOn_X3_weightWith rfl rfl rfl (by decide +kernel) ⟨Nat.le_of_ble_eq_true rfl, Nat.le_of_ble_eq_true rfl⟩) hK hZ hA hW hS hk (by decide) rfl rfl hl.1 rfl (Nat.le_of_ble_eq_true rfl) dX3_leastOn_24 ⟨Nat.le_of_ble_eq_true rfl, Nat.le_of_ble_eq_true rfl⟩ (fun v5 T6 H locs p7 hW hS => ?_)
        obtain ⟨eT6, p7⟩ := p7
        rw [eT6] at hW
        clear eT6
        refine lv_iload_n hx hb dX3_leastOn_27 rfl (lv_at hl 3 rfl) ?_
        refine lv_icmp_ne (tgt := 34) hx hb dX3_leastOn_28 (by decide) (fun c8 => ?_) (fun c8 => ?_)
        · have c8i : ¬ (Int32.toInt v5 = Int32.toInt v1) := fun h9 => c8 ((i3_eq _ _).mpr h9)
          refine lv_iinc (v := y + 1) (lv' := [(4, .int (y + 1)), (0, .ref h), (1, .int a), (2, .int b), (3, .int v1)]) hx hb dX3_leastOn_34 hl (k := 4) rfl rfl (by decide) rfl (fun ls hl => ?_)
          have i9 : (y + 1).toInt = (y).toInt + 1 := i3_add rfl rfl (by omega) (by omega)
          refine lv_goto (tgt := 10) hx hb dX3_leastOn_37 (by decide) ?_
          exact ih10 (y + 1) _ _ ls (by omega) (by omega) (by omega) hW hS (lv_cast (lv_sub hl [1, 2, 3, 4, 0] rfl) (rfl))
        · have c8i : Int32.toInt v5 = Int32.toInt v1 := (i3_eq _ _).mp c8
          refine lv_iload hx hb dX3_leastOn_31 (lv_at hl 4 rfl) ?_
          exact pc_iret (v := y) (S := S) hx hb hr hlk hK hZ hA hW hS (⟨rfl, trivial⟩) dX3_leastOn_33
  exact loop10 _ 0 _ _ ls (by decide) (by decide) (Nat.lt_succ_self _) hW hS (lv_cast (lv_sub hl [2, 3, 4, 1, 0] rfl) (rfl))
set_option maxHeartbeats 4000000 in
set_option maxRecDepth 100000 in
theorem b_X3_keepRow (l : Launch) (D : va_G) (cy : Nat → ClassId) (A : Nat → Prop) (S : St) (h : Nat) (hG0 : G S) (hk : sK S h = 3) (hw0 : 0 ≤ (sI S h 8).toInt) (hw3 : (sI S h 8).toInt ≤ 3) : MV l yX3_keepRow wsX3_keepRow ({ frames := 4, cells := 0, slots := 0, locals := 108 } : Room) 0 0 D cy A [.ref h] S (fun S1 => G S1 ∧ Fr [] [304, 1100] S S1 ∧ True) := by
  refine mt_start (cc := cX3_keepRow) (maxL := 4) (ret := none) (by decide) rfl (Nat.le_of_ble_eq_true rfl) ?_
  intro p e s m args below meth c hx hb hr hlk hml hown hnm hts hK hZ hA hW hS ls hl
  have hl : lv_has ls 4 [(0, .ref h)] := hl
  have hown : s.vm.findClass RX3 = some m.cls := hown
  have F : CallFix p m c cX3_keepRow 4 s args wsX3_keepRow RX3 := ⟨hx, hb, hml, hown, hts⟩
  have wi3 : ∀ w ∈ u_ws RX3 TX3 9, w ∈ wsX3_keepRow := by decide +kernel
  have hG := hG0
  have hF : Fr [] [304, 1100] S S := Fr.rf _ _ _
  refine lv_aload_n hx hb dX3_keepRow_0 rfl (lv_at hl 0 rfl) ?_
  refine lv_aload_n hx hb dX3_keepRow_1 rfl (lv_at hl 0 rfl) ?_
  refine pg_gi (ci := 3) (C := RX3) (T := TX3) (N := 9) hx hb hts wi3 hown hK hW hk (by decide) rfl 5 (by decide) (hts (.fieldLink RX3 28 "IceHall$Planner" "size" "I") (by decide +kernel)) (fun _ h9 => h9) rfl dX3_keepRow_2 ?_
  have g1 : (0 : Int) ≤ (sI S h 5).toInt ∧ (sI S h 5).toInt ≤ 8 := hG.i hk (by decide) 5 (by decide)
  refine pg_pi (ci := 3) (C := RX3) (T := TX3) (N := 9) hx hb hts wi3 tyX3 tyX3_ok nmX3 hown hK hW hS hk (by decide) rfl 4 (by decide) (hts (.fieldLink RX3 24 "IceHall$Planner" "rowSize" "I") (by decide +kernel)) (fun _ h9 => h9) rfl rfl rfl dX3_keepRow_5 (fun H locs hW hS => ?_)
  obtain ⟨S2, eS2⟩ : ∃ T : St, T = stI S h 4 (sI S h 5) := ⟨_, rfl⟩
  rw [← eS2] at hW
  have hG : G S2 := by rw [eS2]; exact hG.I hk (ok_in 0 8 (by decide) (⟨by omega, by omega⟩))
  have hF : Fr [] [304, 1100] S S2 := by rw [eS2]; exact hF.I hk (by decide)
  clear eS2
  refine lv_iconst (v := 0) hx hb dX3_keepRow_8 (by decide) ?_
  refine lv_istore_n (lv' := [(1, .int 0), (0, .ref h)]) hx hb dX3_keepRow_9 rfl hl (by decide) rfl (fun ls hl => ?_)
  refine lv_iconst (v := 0) hx hb dX3_keepRow_10 (by decide) ?_
  refine lv_istore_n (lv' := [(2, .int 0), (1, .int 0), (0, .ref h)]) hx hb dX3_keepRow_11 rfl hl (by decide) rfl (fun ls hl => ?_)
  have hE3 : Fr [] [304, 1100] S2 S2 := Fr.rf _ _ _
  have loop12 : ∀ (zn : Nat) (z : Int32) (y : Int32) (L12 : St) (H : Heap) (locs : List Loc) (ls : Array Slot), (G L12) → (Fr [] [304, 1100] S2 L12) → (0 ≤ y.toInt) → (8 - y.toInt).toNat < zn → PW D cy A L12 H → va_S A s.heap H locs → lv_has ls 4 [(0, .ref h), (1, .int z), (2, .int y)] → W p l e ({ frames := 4, cells := 0, slots := 0, locals := 108 } : Room) s m args below meth c H locs 0 0 (MQ below (va_Qv (fun S1 => G S1 ∧ Fr [] [304, 1100] S S1 ∧ True) (PU D cy A) A) args s 0 0 A) (F0 m 12 ls []) := by
    intro zn
    induction zn with
    | zero => intros; exact absurd (by assumption) (Nat.not_lt_zero _)
    | succ zn ih12 =>
      intro z y L12 H locs ls hG hL12 hy0 hme12 hW hS hl
      have hF : Fr [] [304, 1100] S L12 := hF.tr hL12
      have hE3 := hL12
      have hw8 : sI L12 h 8 = sI S h 8 := hF.i hk (by decide) (by decide)
      refine lv_iload_n hx hb dX3_keepRow_12 rfl (lv_at hl 2 rfl) ?_
      refine lv_aload_n hx hb dX3_keepRow_13 rfl (lv_at hl 0 rfl) ?_
      refine pg_gi (ci := 3) (C := RX3) (T := TX3) (N := 9) hx hb hts wi3 hown hK hW (hF.k hk (by decide)) (by decide) rfl 5 (by decide) (hts (.fieldLink RX3 28 "IceHall$Planner" "size" "I") (by decide +kernel)) (fun _ h9 => h9) rfl dX3_keepRow_14 ?_
      have g4 : (0 : Int) ≤ (sI L12 h 5).toInt ∧ (sI L12 h 5).toInt ≤ 8 := hG.i (hF.k hk (by decide)) (by decide) 5 (by decide)
      refine lv_icmp_ge (tgt := 44) hx hb dX3_keepRow_17 (by decide) (fun c5 => ?_) (fun c5 => ?_)
      · have c5i : Int32.toInt (sI L12 h 5) ≤ Int32.toInt y := (i3_le _ _).mp c5
        exact pc_vret (S := L12) hx hb hr hlk hK hZ hA hW hS (⟨hG, hF, trivial⟩) dX3_keepRow_44
      · have c5i : ¬ (Int32.toInt (sI L12 h 5) ≤ Int32.toInt y) := fun h9 => c5 ((i3_le _ _).mpr h9)
        refine lv_aload_n hx hb dX3_keepRow_20 rfl (lv_at hl 0 rfl) ?_
        refine lv_iload_n hx hb dX3_keepRow_21 rfl (lv_at hl 2 rfl) ?_
        refine lv_iload_n hx hb dX3_keepRow_22 rfl (lv_at hl 1 rfl) ?_
        refine pc_Vi (As := [.int y, .int z]) (rest := []) F (b_X3_leastOn l D cy A L12 h y z hG (hF.k hk (by decide)) (by omega) (by omega) (by rw [hw8]; exact hw0) (by rw [hw8]; exact hw3)) (cwV 2 hts gX3_keepRow_X3_leastOn rfl rfl rfl (by decide +kernel) ⟨Nat.le_of_ble_eq_true rfl, Nat.le_of_ble_eq_true rfl⟩) hK hZ hA hW hS (hF.k hk (by decide)) (by decide) rfl rfl hl.1 rfl (Nat.le_of_ble_eq_true rfl) dX3_keepRow_23 ⟨Nat.le_of_ble_eq_true rfl, Nat.le_of_ble_eq_true rfl⟩ (fun v6 T7 H locs p8 hW hS => ?_)
        obtain ⟨eT7, p8⟩ := p8
        rw [eT7] at hW
        clear eT7
        refine lv_istore_n (lv' := [(3, .int v6), (0, .ref h), (1, .int z), (2, .int y)]) hx hb dX3_keepRow_26 rfl hl (by decide) rfl (fun ls hl => ?_)
        refine lv_aload_n hx hb dX3_keepRow_27 rfl (lv_at hl 1 rfl) ?_
        obtain ⟨b9, rb9, kb9, nb9⟩ := hG0.r hk List.not_mem_nil 3 (show rty 3 3 = some (11, 8) from rfl)
        refine pg_gr (b := b9) (ci := 3) (C := RX3) (T := TX3) (N := 9) hx hb hts wi3 hown hK hW (hF.k hk (by decide)) (by decide) rfl 3 (by decide) (hts (.fieldLink RX3 21 "IceHall$Planner" "row" "[I") (by decide +kernel)) (fun _ h9 => h9) rfl (hF.r hk (by decide) rb9) dX3_keepRow_28 ?_
        refine lv_iload_n hx hb dX3_keepRow_31 rfl (lv_at hl 3 rfl) ?_
        refine lv_iload_n hx hb dX3_keepRow_32 rfl (lv_at hl 0 rfl) ?_
        refine pg_iast hx hb hK hW hS (hF.k kb9 (by decide)) (by decide) (by rw [show sL L12 b9 = 8 from (hF.n kb9 (by decide) nb9)]; exact r_in (by omega)) dX3_keepRow_33 (fun H locs hW hS => ?_)
        have kq10 : sK L12 b9 = 11 := (hF.k kb9 (by decide))
        obtain ⟨S11, eS11⟩ : ∃ T : St, T = stI L12 b9 (Int32.toNatClampNeg y) v6 := ⟨_, rfl⟩
        rw [← eS11] at hW
        have hG : G S11 := by rw [eS11]; exact hG.I kq10 (ok_frA (by decide) (by decide))
        have hF : Fr [] [304, 1100] S S11 := by rw [eS11]; exact hF.IA kq10 (by decide) (by decide)
        have hE3 : Fr [] [304, 1100] S2 S11 := by rw [eS11]; exact hE3.IA kq10 (by decide) (by decide)
        clear eS11
        refine lv_iload_n hx hb dX3_keepRow_34 rfl (lv_at hl 2 rfl) ?_
        refine lv_iload_n hx hb dX3_keepRow_35 rfl (lv_at hl 0 rfl) ?_
        refine lv_iadd hx hb dX3_keepRow_36 ?_
        refine lv_istore_n (lv' := [(1, .int (z + v6)), (3, .int v6), (0, .ref h), (2, .int y)]) hx hb dX3_keepRow_37 rfl hl (by decide) rfl (fun ls hl => ?_)
        refine lv_iinc (v := y + 1) (lv' := [(2, .int (y + 1)), (1, .int (z + v6)), (3, .int v6), (0, .ref h)]) hx hb dX3_keepRow_38 hl (k := 3) rfl rfl (by decide) rfl (fun ls hl => ?_)
        have i12 : (y + 1).toInt = (y).toInt + 1 := i3_add rfl rfl (by omega) (by omega)
        refine lv_goto (tgt := 12) hx hb dX3_keepRow_41 (by decide) ?_
        exact ih12 (z + v6) (y + 1) S11 _ _ ls hG hE3 (by omega) (by omega) hW hS (lv_cast (lv_sub hl [3, 1, 0] rfl) (rfl))
  exact loop12 _ 0 0 S2 _ _ ls hG hE3 (by decide) (Nat.lt_succ_self _) hW hS (lv_cast (lv_sub hl [2, 1, 0] rfl) (rfl))
set_option maxHeartbeats 4000000 in
set_option maxRecDepth 100000 in
theorem b_X3_solve (l : Launch) (D : va_G) (cy : Nat → ClassId) (A : Nat → Prop) (S : St) (h : Nat) (a b d : Int32) (hG0 : G S) (hk : sK S h = 3) (hd0 : 0 ≤ d.toInt) (hd3 : d.toInt ≤ 3) : MI l yX3_solve wsX3_solve ({ frames := 5, cells := 0, slots := 0, locals := 131 } : Room) 0 0 D cy A [.ref h, .int a, .int b, .int d] S (fun r S1 => G S1 ∧ Fr [] [304, 306, 307, 308, 1100] S S1 ∧ True) := by
  refine mt_start (cc := cX3_solve) (maxL := 6) (ret := (some .int)) (by decide) rfl (Nat.le_of_ble_eq_true rfl) ?_
  intro p e s m args below meth c hx hb hr hlk hml hown hnm hts hK hZ hA hW hS ls hl
  have hl : lv_has ls 6 [(0, .ref h), (1, .int a), (2, .int b), (3, .int d)] := hl
  have hown : s.vm.findClass RX3 = some m.cls := hown
  have F : CallFix p m c cX3_solve 6 s args wsX3_solve RX3 := ⟨hx, hb, hml, hown, hts⟩
  have wi3 : ∀ w ∈ u_ws RX3 TX3 9, w ∈ wsX3_solve := by decide +kernel
  have hG := hG0
  have hF : Fr [] [304, 306, 307, 308, 1100] S S := Fr.rf _ _ _
  refine lv_aload_n hx hb dX3_solve_0 rfl (lv_at hl 0 rfl) ?_
  refine lv_iload_n hx hb dX3_solve_1 rfl (lv_at hl 1 rfl) ?_
  refine pg_pi (ci := 3) (C := RX3) (T := TX3) (N := 9) hx hb hts wi3 tyX3 tyX3_ok nmX3 hown hK hW hS hk (by decide) rfl 6 (by decide) (hts (.fieldLink RX3 35 "IceHall$Planner" "store" "I") (by decide +kernel)) (fun _ h9 => h9) rfl rfl rfl dX3_solve_2 (fun H locs hW hS => ?_)
  obtain ⟨S1, eS1⟩ : ∃ T : St, T = stI S h 6 a := ⟨_, rfl⟩
  rw [← eS1] at hW
  have hG : G S1 := by rw [eS1]; exact hG.I hk (ok_fr (by decide))
  have hF : Fr [] [304, 306, 307, 308, 1100] S S1 := by rw [eS1]; exact hF.I hk (by decide)
  clear eS1
  refine lv_aload_n hx hb dX3_solve_5 rfl (lv_at hl 0 rfl) ?_
  refine lv_iload_n hx hb dX3_solve_6 rfl (lv_at hl 2 rfl) ?_
  refine pg_pi (ci := 3) (C := RX3) (T := TX3) (N := 9) hx hb hts wi3 tyX3 tyX3_ok nmX3 hown hK hW hS (hF.k hk (by decide)) (by decide) rfl 7 (by decide) (hts (.fieldLink RX3 38 "IceHall$Planner" "storeMost" "I") (by decide +kernel)) (fun _ h9 => h9) rfl rfl rfl dX3_solve_7 (fun H locs hW hS => ?_)
  have kq2 : sK S1 h = 3 := (hF.k hk (by decide))
  obtain ⟨S3, eS3⟩ : ∃ T : St, T = stI S1 h 7 b := ⟨_, rfl⟩
  rw [← eS3] at hW
  have hG : G S3 := by rw [eS3]; exact hG.I kq2 (ok_fr (by decide))
  have hF : Fr [] [304, 306, 307, 308, 1100] S S3 := by rw [eS3]; exact hF.I kq2 (by decide)
  clear eS3
  refine lv_aload_n hx hb dX3_solve_10 rfl (lv_at hl 0 rfl) ?_
  refine lv_iload_n hx hb dX3_solve_11 rfl (lv_at hl 3 rfl) ?_
  refine pg_pi (ci := 3) (C := RX3) (T := TX3) (N := 9) hx hb hts wi3 tyX3 tyX3_ok nmX3 hown hK hW hS (hF.k hk (by decide)) (by decide) rfl 8 (by decide) (hts (.fieldLink RX3 41 "IceHall$Planner" "working" "I") (by decide +kernel)) (fun _ h9 => h9) rfl rfl rfl dX3_solve_12 (fun H locs hW hS => ?_)
  have kq4 : sK S3 h = 3 := (hF.k hk (by decide))
  obtain ⟨S5, eS5⟩ : ∃ T : St, T = stI S3 h 8 d := ⟨_, rfl⟩
  rw [← eS5] at hW
  have hG : G S5 := by rw [eS5]; exact hG.I kq4 (ok_fr (by decide))
  have hF : Fr [] [304, 306, 307, 308, 1100] S S5 := by rw [eS5]; exact hF.I kq4 (by decide)
  have w6 : sI S5 h 8 = d := by rw [eS5]; exact iI_s
  clear eS5
  refine lv_iconst (v := 0) hx hb dX3_solve_15 (by decide) ?_
  refine lv_istore (lv' := [(4, .int 0), (0, .ref h), (1, .int a), (2, .int b), (3, .int d)]) hx hb dX3_solve_16 hl (by decide) rfl (fun ls hl => ?_)
  have hE7 : Fr [] [304, 306, 307, 308, 1100] S5 S5 := Fr.rf _ _ _
  have loop18 : ∀ (zn : Nat) (y : Int32) (L18 : St) (H : Heap) (locs : List Loc) (ls : Array Slot), (G L18) → (Fr [] [304, 306, 307, 308, 1100] S5 L18) → (0 ≤ y.toInt) → (sI L18 h 8 = d) → (25 - y.toInt).toNat < zn → PW D cy A L18 H → va_S A s.heap H locs → lv_has ls 6 [(0, .ref h), (1, .int a), (2, .int b), (3, .int d), (4, .int y)] → W p l e ({ frames := 5, cells := 0, slots := 0, locals := 131 } : Room) s m args below meth c H locs 0 0 (MQ below (va_Qi (fun r S1 => G S1 ∧ Fr [] [304, 306, 307, 308, 1100] S S1 ∧ True) (PU D cy A) A) args s 0 0 A) (F0 m 18 ls []) := by
    intro zn
    induction zn with
    | zero => intros; exact absurd (by assumption) (Nat.not_lt_zero _)
    | succ zn ih18 =>
      intro y L18 H locs ls hG hL18 hy0 h8a hme18 hW hS hl
      have hF : Fr [] [304, 306, 307, 308, 1100] S L18 := hF.tr hL18
      have hE7 := hL18
      refine lv_iload hx hb dX3_solve_18 (lv_at hl 4 rfl) ?_
      refine lv_bipush (v := 25) hx hb dX3_solve_20 (by decide) ?_
      refine lv_icmp_ge (tgt := 47) hx hb dX3_solve_22 (by decide) (fun c8 => ?_) (fun c8 => ?_)
      · have c8i : (25 : Int) ≤ Int32.toInt y := (i3_le _ _).mp c8
        refine lv_aload_n hx hb dX3_solve_47 rfl (lv_at hl 0 rfl) ?_
        refine pg_gi (ci := 3) (C := RX3) (T := TX3) (N := 9) hx hb hts wi3 hown hK hW (hF.k hk (by decide)) (by decide) rfl 5 (by decide) (hts (.fieldLink RX3 28 "IceHall$Planner" "size" "I") (by decide +kernel)) (fun _ h9 => h9) rfl dX3_solve_48 ?_
        have g9 : (0 : Int) ≤ (sI L18 h 5).toInt ∧ (sI L18 h 5).toInt ≤ 8 := hG.i (hF.k hk (by decide)) (by decide) 5 (by decide)
        refine lv_iconst (v := 1) hx hb dX3_solve_51 (by decide) ?_
        refine lv_isub hx hb dX3_solve_52 ?_
        have l10 : ((sI L18 h 5) - 1).toInt = Int32.toInt (sI L18 h 5) - (1 : Int) := i3_sub rfl rfl (by omega) (by omega)
        refine lv_istore (lv' := [(4, .int ((sI L18 h 5) - 1)), (0, .ref h), (1, .int a), (2, .int b), (3, .int d)]) hx hb dX3_solve_53 hl (by decide) rfl (fun ls hl => ?_)
        have hE11 : Fr [] [304, 306, 307, 308, 1100] L18 L18 := Fr.rf _ _ _
        have loop55 : ∀ (zn : Nat) (y : Int32) (L55 : St) (H : Heap) (locs : List Loc) (ls : Array Slot), (G L55) → (Fr [] [304, 306, 307, 308, 1100] L18 L55) → (y.toInt ≤ 7) → (sI L55 h 8 = d) → (y.toInt + 1).toNat < zn → PW D cy A L55 H → va_S A s.heap H locs → lv_has ls 6 [(0, .ref h), (1, .int a), (2, .int b), (3, .int d), (4, .int y)] → W p l e ({ frames := 5, cells := 0, slots := 0, locals := 131 } : Room) s m args below meth c H locs 0 0 (MQ below (va_Qi (fun r S1 => G S1 ∧ Fr [] [304, 306, 307, 308, 1100] S S1 ∧ True) (PU D cy A) A) args s 0 0 A) (F0 m 55 ls []) := by
          intro zn
          induction zn with
          | zero => intros; exact absurd (by assumption) (Nat.not_lt_zero _)
          | succ zn ih55 =>
            intro y L55 H locs ls hG hL55 hy7 h8b hme55 hW hS hl
            have hF : Fr [] [304, 306, 307, 308, 1100] S L55 := hF.tr hL55
            have hE7 : Fr [] [304, 306, 307, 308, 1100] S5 L55 := hE7.tr hL55
            have hE11 := hL55
            refine lv_iload hx hb dX3_solve_55 (lv_at hl 4 rfl) ?_
            refine lv_if_lt (tgt := 105) hx hb dX3_solve_57 (by decide) (fun c12 => ?_) (fun c12 => ?_)
            · have c12i : Int32.toInt y < (0 : Int) := (i3_lt _ _).mp c12
              refine lv_aload_n hx hb dX3_solve_105 rfl (lv_at hl 0 rfl) ?_
              obtain ⟨b13, rb13, kb13, nb13⟩ := hG0.r hk List.not_mem_nil 2 (show rty 3 2 = some (11, 225) from rfl)
              refine pg_gr (b := b13) (ci := 3) (C := RX3) (T := TX3) (N := 9) hx hb hts wi3 hown hK hW (hF.k hk (by decide)) (by decide) rfl 2 (by decide) (hts (.fieldLink RX3 18 "IceHall$Planner" "best" "[I") (by decide +kernel)) (fun _ h9 => h9) rfl (hF.r hk (by decide) rb13) dX3_solve_106 ?_
              refine lv_iconst (v := 0) hx hb dX3_solve_109 (by decide) ?_
              refine pg_iald hx hb hK hW (hF.k kb13 (by decide)) (by decide) (by rw [show sL L55 b13 = 225 from (hF.n kb13 (by decide) nb13)]; exact vp_in_nI (n := 0) (by decide) (by decide)) dX3_solve_110 ?_
              refine lv_ldc (v := (1000000000)) hx hb hown (hts (.constant RX3 48 (1000000000)) (by decide +kernel)) dX3_solve_111 ?_
              refine lv_icmp_lt (tgt := 118) hx hb dX3_solve_113 (by decide) (fun c14 => ?_) (fun c14 => ?_)
              · have c14i : Int32.toInt (sI L55 b13 (Int32.toNatClampNeg 0)) < (1000000000 : Int) := (i3_lt _ _).mp c14
                refine lv_aload_n hx hb dX3_solve_118 rfl (lv_at hl 0 rfl) ?_
                refine pc_Vv (As := []) (rest := []) F (b_X3_keepRow l D cy A L55 h hG (hF.k hk (by decide)) (by rw [h8b]; omega) (by rw [h8b]; omega)) (cwV 0 hts gX3_solve_X3_keepRow rfl rfl rfl (by decide +kernel) ⟨Nat.le_of_ble_eq_true rfl, Nat.le_of_ble_eq_true rfl⟩) hK hZ hA hW hS (hF.k hk (by decide)) (by decide) rfl rfl hl.1 rfl (Nat.le_of_ble_eq_true rfl) dX3_solve_119 ⟨Nat.le_of_ble_eq_true rfl, Nat.le_of_ble_eq_true rfl⟩ (fun T16 H locs p17 hW hS => ?_)
                obtain ⟨hG, hFc, p17⟩ := p17
                have w18 : sI T16 h 8 = d := (hFc.i (hF.k hk (by decide)) (by decide) (by decide)).trans h8b
                have hF : Fr [] [304, 306, 307, 308, 1100] S T16 := hF.tr (hFc.mono (by decide))
                have hE7 : Fr [] [304, 306, 307, 308, 1100] S5 T16 := hE7.tr (hFc.mono (by decide))
                have hE11 : Fr [] [304, 306, 307, 308, 1100] L18 T16 := hE11.tr (hFc.mono (by decide))
                refine lv_aload_n hx hb dX3_solve_122 rfl (lv_at hl 0 rfl) ?_
                refine pg_gr (b := b13) (ci := 3) (C := RX3) (T := TX3) (N := 9) hx hb hts wi3 hown hK hW (hF.k hk (by decide)) (by decide) rfl 2 (by decide) (hts (.fieldLink RX3 18 "IceHall$Planner" "best" "[I") (by decide +kernel)) (fun _ h9 => h9) rfl (hF.r hk (by decide) rb13) dX3_solve_123 ?_
                refine lv_iconst (v := 0) hx hb dX3_solve_126 (by decide) ?_
                refine pg_iald hx hb hK hW (hF.k kb13 (by decide)) (by decide) (by rw [show sL T16 b13 = 225 from (hF.n kb13 (by decide) nb13)]; exact vp_in_nI (n := 0) (by decide) (by decide)) dX3_solve_127 ?_
                refine lv_bipush (v := 100) hx hb dX3_solve_128 (by decide) ?_
                refine lv_idiv hx hb dX3_solve_130 (by decide) ?_
                exact pc_iret (v := (sI T16 b13 (Int32.toNatClampNeg 0)) / 100) (S := T16) hx hb hr hlk hK hZ hA hW hS (⟨hG, hF, trivial⟩) dX3_solve_131
              · have c14i : ¬ (Int32.toInt (sI L55 b13 (Int32.toNatClampNeg 0)) < (1000000000 : Int)) := fun h9 => c14 ((i3_lt _ _).mpr h9)
                refine lv_iconst (v := (-1)) hx hb dX3_solve_116 (by decide) ?_
                exact pc_iret (v := (-1)) (S := L55) hx hb hr hlk hK hZ hA hW hS (⟨hG, hF, trivial⟩) dX3_solve_117
            · have c12i : ¬ (Int32.toInt y < (0 : Int)) := fun h9 => c12 ((i3_lt _ _).mpr h9)
              refine lv_iconst (v := 0) hx hb dX3_solve_60 (by decide) ?_
              refine lv_istore (lv' := [(5, .int 0), (0, .ref h), (1, .int a), (2, .int b), (3, .int d), (4, .int y)]) hx hb dX3_solve_61 hl (by decide) rfl (fun ls hl => ?_)
              have hE19 : Fr [] [304, 306, 307, 308, 1100] L55 L55 := Fr.rf _ _ _
              have loop63 : ∀ (zn : Nat) (z : Int32) (L63 : St) (H : Heap) (locs : List Loc) (ls : Array Slot), (G L63) → (Fr [] [304, 306, 307, 308, 1100] L55 L63) → (0 ≤ z.toInt) → (sI L63 h 8 = d) → (22 - z.toInt).toNat < zn → PW D cy A L63 H → va_S A s.heap H locs → lv_has ls 6 [(0, .ref h), (1, .int a), (2, .int b), (3, .int d), (4, .int y), (5, .int z)] → W p l e ({ frames := 5, cells := 0, slots := 0, locals := 131 } : Room) s m args below meth c H locs 0 0 (MQ below (va_Qi (fun r S1 => G S1 ∧ Fr [] [304, 306, 307, 308, 1100] S S1 ∧ True) (PU D cy A) A) args s 0 0 A) (F0 m 63 ls []) := by
                intro zn
                induction zn with
                | zero => intros; exact absurd (by assumption) (Nat.not_lt_zero _)
                | succ zn ih63 =>
                  intro z L63 H locs ls hG hL63 hz0 h8c hme63 hW hS hl
                  have hF : Fr [] [304, 306, 307, 308, 1100] S L63 := hF.tr hL63
                  have hE7 : Fr [] [304, 306, 307, 308, 1100] S5 L63 := hE7.tr hL63
                  have hE11 : Fr [] [304, 306, 307, 308, 1100] L18 L63 := hE11.tr hL63
                  have hE19 := hL63
                  refine lv_iload hx hb dX3_solve_63 (lv_at hl 5 rfl) ?_
                  refine lv_iload hx hb dX3_solve_65 (lv_at hl 4 rfl) ?_
                  refine lv_iconst (v := 3) hx hb dX3_solve_67 (by decide) ?_
                  refine lv_imul hx hb dX3_solve_68 ?_
                  have l20 : (y * 3).toInt = Int32.toInt y * (3 : Int) := i3_mul rfl rfl (by omega) (by omega)
                  refine lv_icmp_gt (tgt := 99) hx hb dX3_solve_69 (by decide) (fun c21 => ?_) (fun c21 => ?_)
                  · have c21i : Int32.toInt (y * 3) < Int32.toInt z := (i3_lt _ _).mp c21
                    refine lv_iinc (v := y + (-1)) (lv' := [(4, .int (y + (-1))), (0, .ref h), (1, .int a), (2, .int b), (3, .int d), (5, .int z)]) hx hb dX3_solve_99 hl (k := 4) rfl rfl (by decide) rfl (fun ls hl => ?_)
                    have i22 : (y + (-1)).toInt = (y).toInt - 1 := i3_dec (by omega)
                    refine lv_goto (tgt := 55) hx hb dX3_solve_102 (by decide) ?_
                    exact ih55 (y + (-1)) L63 _ _ ls hG hE11 (bk_le i22 hy7) (h8c) (bk_dn i22 (by assumption) hme55) hW hS (lv_cast (lv_sub hl [1, 2, 3, 4, 0] rfl) (rfl))
                  · have c21i : ¬ (Int32.toInt (y * 3) < Int32.toInt z) := fun h9 => c21 ((i3_lt _ _).mpr h9)
                    refine lv_aload_n hx hb dX3_solve_72 rfl (lv_at hl 0 rfl) ?_
                    obtain ⟨b23, rb23, kb23, nb23⟩ := hG0.r hk List.not_mem_nil 2 (show rty 3 2 = some (11, 225) from rfl)
                    refine pg_gr (b := b23) (ci := 3) (C := RX3) (T := TX3) (N := 9) hx hb hts wi3 hown hK hW (hF.k hk (by decide)) (by decide) rfl 2 (by decide) (hts (.fieldLink RX3 18 "IceHall$Planner" "best" "[I") (by decide +kernel)) (fun _ h9 => h9) rfl (hF.r hk (by decide) rb23) dX3_solve_73 ?_
                    refine lv_iload hx hb dX3_solve_76 (lv_at hl 4 rfl) ?_
                    refine lv_bipush (v := 25) hx hb dX3_solve_78 (by decide) ?_
                    refine lv_imul hx hb dX3_solve_80 ?_
                    have l24 : (y * 25).toInt = Int32.toInt y * (25 : Int) := i3_mul rfl rfl (by omega) (by omega)
                    refine lv_iload hx hb dX3_solve_81 (lv_at hl 5 rfl) ?_
                    refine lv_iadd hx hb dX3_solve_83 ?_
                    have l25 : ((y * 25) + z).toInt = Int32.toInt (y * 25) + Int32.toInt z := i3_add rfl rfl (by omega) (by omega)
                    refine lv_aload_n hx hb dX3_solve_84 rfl (lv_at hl 0 rfl) ?_
                    refine lv_iload hx hb dX3_solve_85 (lv_at hl 4 rfl) ?_
                    refine lv_iload hx hb dX3_solve_87 (lv_at hl 5 rfl) ?_
                    refine pc_Vi (As := [.int y, .int z]) (rest := [.int ((y * 25) + z), .ref b23]) F (b_X3_leastOver l D cy A L63 h y z hG (hF.k hk (by decide)) (by omega) (by omega) (by rw [h8c]; omega) (by rw [h8c]; omega)) (cwV 2 hts gX3_solve_X3_leastOver rfl rfl rfl (by decide +kernel) ⟨Nat.le_of_ble_eq_true rfl, Nat.le_of_ble_eq_true rfl⟩) hK hZ hA hW hS (hF.k hk (by decide)) (by decide) rfl rfl hl.1 rfl (Nat.le_of_ble_eq_true rfl) dX3_solve_89 ⟨Nat.le_of_ble_eq_true rfl, Nat.le_of_ble_eq_true rfl⟩ (fun v26 T27 H locs p28 hW hS => ?_)
                    obtain ⟨eT27, p28⟩ := p28
                    rw [eT27] at hW
                    clear eT27
                    refine pg_iast hx hb hK hW hS (hF.k kb23 (by decide)) (by decide) (by rw [show sL L63 b23 = 225 from (hF.n kb23 (by decide) nb23)]; exact r_in (by omega)) dX3_solve_92 (fun H locs hW hS => ?_)
                    have kq29 : sK L63 b23 = 11 := (hF.k kb23 (by decide))
                    obtain ⟨S30, eS30⟩ : ∃ T : St, T = stI L63 b23 (Int32.toNatClampNeg ((y * 25) + z)) v26 := ⟨_, rfl⟩
                    rw [← eS30] at hW
                    have hG : G S30 := by rw [eS30]; exact hG.I kq29 (ok_frA (by decide) (by decide))
                    have w31 : sI S30 h 8 = d := by rw [eS30]; exact (iI_a (fk_ne (hF.k hk (by decide)) kq29 (by decide))).trans h8c
                    have hF : Fr [] [304, 306, 307, 308, 1100] S S30 := by rw [eS30]; exact hF.IA kq29 (by decide) (by decide)
                    have hE7 : Fr [] [304, 306, 307, 308, 1100] S5 S30 := by rw [eS30]; exact hE7.IA kq29 (by decide) (by decide)
                    have hE11 : Fr [] [304, 306, 307, 308, 1100] L18 S30 := by rw [eS30]; exact hE11.IA kq29 (by decide) (by decide)
                    have hE19 : Fr [] [304, 306, 307, 308, 1100] L55 S30 := by rw [eS30]; exact hE19.IA kq29 (by decide) (by decide)
                    clear eS30
                    refine lv_iinc (v := z + 1) (lv' := [(5, .int (z + 1)), (0, .ref h), (1, .int a), (2, .int b), (3, .int d), (4, .int y)]) hx hb dX3_solve_93 hl (k := 5) rfl rfl (by decide) rfl (fun ls hl => ?_)
                    have i32 : (z + 1).toInt = (z).toInt + 1 := i3_add rfl rfl (by omega) (by omega)
                    refine lv_goto (tgt := 63) hx hb dX3_solve_96 (by decide) ?_
                    exact ih63 (z + 1) S30 _ _ ls hG hE19 (by omega) (w31) (by omega) hW hS (lv_cast (lv_sub hl [1, 2, 3, 4, 5, 0] rfl) (rfl))
              exact loop63 _ 0 L55 _ _ ls hG hE19 (by decide) (h8b) (Nat.lt_succ_self _) hW hS (lv_cast (lv_sub hl [1, 2, 3, 4, 5, 0] rfl) (rfl))
        exact loop55 _ ((sI L18 h 5) - 1) L18 _ _ ls hG hE11 (by omega) (h8a) (Nat.lt_succ_self _) hW hS (lv_cast (lv_sub hl [1, 2, 3, 4, 0] rfl) (rfl))
      · have c8i : ¬ ((25 : Int) ≤ Int32.toInt y) := fun h9 => c8 ((i3_le _ _).mpr h9)
        refine lv_aload_n hx hb dX3_solve_25 rfl (lv_at hl 0 rfl) ?_
        obtain ⟨b33, rb33, kb33, nb33⟩ := hG0.r hk List.not_mem_nil 2 (show rty 3 2 = some (11, 225) from rfl)
        refine pg_gr (b := b33) (ci := 3) (C := RX3) (T := TX3) (N := 9) hx hb hts wi3 hown hK hW (hF.k hk (by decide)) (by decide) rfl 2 (by decide) (hts (.fieldLink RX3 18 "IceHall$Planner" "best" "[I") (by decide +kernel)) (fun _ h9 => h9) rfl (hF.r hk (by decide) rb33) dX3_solve_26 ?_
        refine lv_aload_n hx hb dX3_solve_29 rfl (lv_at hl 0 rfl) ?_
        refine pg_gi (ci := 3) (C := RX3) (T := TX3) (N := 9) hx hb hts wi3 hown hK hW (hF.k hk (by decide)) (by decide) rfl 5 (by decide) (hts (.fieldLink RX3 28 "IceHall$Planner" "size" "I") (by decide +kernel)) (fun _ h9 => h9) rfl dX3_solve_30 ?_
        have g34 : (0 : Int) ≤ (sI L18 h 5).toInt ∧ (sI L18 h 5).toInt ≤ 8 := hG.i (hF.k hk (by decide)) (by decide) 5 (by decide)
        refine lv_bipush (v := 25) hx hb dX3_solve_33 (by decide) ?_
        refine lv_imul hx hb dX3_solve_35 ?_
        have l35 : ((sI L18 h 5) * 25).toInt = Int32.toInt (sI L18 h 5) * (25 : Int) := i3_mul rfl rfl (by omega) (by omega)
        refine lv_iload hx hb dX3_solve_36 (lv_at hl 4 rfl) ?_
        refine lv_iadd hx hb dX3_solve_38 ?_
        have l36 : (((sI L18 h 5) * 25) + y).toInt = Int32.toInt ((sI L18 h 5) * 25) + Int32.toInt y := i3_add rfl rfl (by omega) (by omega)
        refine lv_iconst (v := 0) hx hb dX3_solve_39 (by decide) ?_
        refine pg_iast hx hb hK hW hS (hF.k kb33 (by decide)) (by decide) (by rw [show sL L18 b33 = 225 from (hF.n kb33 (by decide) nb33)]; exact r_in (by omega)) dX3_solve_40 (fun H locs hW hS => ?_)
        have kq37 : sK L18 b33 = 11 := (hF.k kb33 (by decide))
        obtain ⟨S38, eS38⟩ : ∃ T : St, T = stI L18 b33 (Int32.toNatClampNeg (((sI L18 h 5) * 25) + y)) 0 := ⟨_, rfl⟩
        rw [← eS38] at hW
        have hG : G S38 := by rw [eS38]; exact hG.I kq37 (ok_frA (by decide) (by decide))
        have w39 : sI S38 h 8 = d := by rw [eS38]; exact (iI_a (fk_ne (hF.k hk (by decide)) kq37 (by decide))).trans h8a
        have hF : Fr [] [304, 306, 307, 308, 1100] S S38 := by rw [eS38]; exact hF.IA kq37 (by decide) (by decide)
        have hE7 : Fr [] [304, 306, 307, 308, 1100] S5 S38 := by rw [eS38]; exact hE7.IA kq37 (by decide) (by decide)
        clear eS38
        refine lv_iinc (v := y + 1) (lv' := [(4, .int (y + 1)), (0, .ref h), (1, .int a), (2, .int b), (3, .int d)]) hx hb dX3_solve_41 hl (k := 4) rfl rfl (by decide) rfl (fun ls hl => ?_)
        have i40 : (y + 1).toInt = (y).toInt + 1 := i3_add rfl rfl (by omega) (by omega)
        refine lv_goto (tgt := 18) hx hb dX3_solve_44 (by decide) ?_
        exact ih18 (y + 1) S38 _ _ ls hG hE7 (by omega) (w39) (by omega) hW hS (lv_cast (lv_sub hl [1, 2, 3, 4, 0] rfl) (rfl))
  exact loop18 _ 0 S5 _ _ ls hG hE7 (by decide) (w6) (Nat.lt_succ_self _) hW hS (lv_cast (lv_sub hl [1, 2, 3, 4, 0] rfl) (rfl))
