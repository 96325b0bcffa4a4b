set_option maxHeartbeats 4000000 in
set_option maxRecDepth 100000 in
theorem c_X8_planned (l : Launch) (D : va_G) (cy : Nat → ClassId) (A : Nat → Prop) (S : St) (h pl ro : Nat) (a : Int32) (a_0 : sK S h = 8) (a_9 : sR S h 8 = some pl) (a_86 : sK S pl = 3) (a_97 : sR S pl 3 = some ro) (a_98 : sK S ro = 11) (a_99 : sL S ro = 8) (a_100 : sI S pl 4 = 0) (a_101 : sI S pl 5 = 0) (a_102 : sI S pl 6 = 0) (a_103 : sI S pl 7 = 0) (a_104 : sI S pl 8 = 0) (a_113 : sI S h 9 = 0) (a_114 : sI S h 10 = 0) (a_115 : sI S h 11 = 200) (a_116 : sI S h 12 = 400) (a_117 : sI S h 13 = 3) (a_118 : sI S h 14 = 2) (a_119 : sI S h 15 = 0) (a_120 : sI S h 16 = 0) (a_121 : sI S h 17 = 0) : MI l yX8_planned wsX8_planned ({ frames := 1, cells := 0, slots := 0, locals := 21 } : Room) 0 0 D cy A [.ref h, .int a] S (fun r S1 => r = (-1)) := by
  refine mt_start (cc := cX8_planned) (maxL := 2) (ret := (some .int)) (by decide) rfl (Nat.le_of_ble_eq_true rfl) ?_
  intro p e s m args below meth c hx hb hr hlk hml hown hnm hts hK hZ hA hW hS ls hl
  have hl : lv_has ls 2 [(0, .ref h), (1, .int a)] := hl
  have hown : s.vm.findClass RX8 = some m.cls := hown
  have F : CallFix p m c cX8_planned 2 s args wsX8_planned RX8 := ⟨hx, hb, hml, hown, hts⟩
  have wi3 : ∀ w ∈ u_ws RX3 TX3 9, w ∈ wsX8_planned := by decide +kernel
  have wi8 : ∀ w ∈ u_ws RX8 TX8 18, w ∈ wsX8_planned := by decide +kernel
  refine lv_iload_n hx hb dX8_planned_0 rfl (lv_at hl 1 rfl) ?_
  refine lv_aload_n hx hb dX8_planned_1 rfl (lv_at hl 0 rfl) ?_
  refine pg_gr (b := pl) (ci := 8) (C := RX8) (T := TX8) (N := 18) hx hb hts wi8 hown hK hW a_0 (by decide) rfl 8 (by decide) (hts (.fieldLink RX8 64 "IceHall" "planner" "LIceHall$Planner;") (by decide +kernel)) (fun _ h9 => h9) rfl a_9 dX8_planned_2 ?_
  refine pg_gi (ci := 3) (C := RX3) (T := TX3) (N := 9) hx hb hts wi3 hown hK hW a_86 (by decide) rfl 4 (by decide) (hts (.fieldLink RX8 212 "IceHall$Planner" "rowSize" "I") (by decide +kernel)) (fun _ h9 => h9) rfl dX8_planned_5 ?_
  rw [show sI S pl 4 = 0 from a_100]
  refine pc_Si (As := [.int a, .int 0]) (rest := []) F (c_X8_isBelow l D cy A S a 0 ) (va_cwS 2 hts gX8_planned_X8_isBelow rfl rfl rfl (by decide +kernel) ⟨Nat.le_of_ble_eq_true rfl, Nat.le_of_ble_eq_true rfl⟩) hK hZ hA hW hS rfl hl.1 rfl (Nat.le_of_ble_eq_true rfl) dX8_planned_8 ⟨Nat.le_of_ble_eq_true rfl, Nat.le_of_ble_eq_true rfl⟩ (fun v1 T2 H locs p3 hW hS => ?_)
  obtain ⟨eT2, p3⟩ := p3
  rw [eT2] at hW
  have p3 := isb_lit (n := 0) rfl p3
  refine lv_if_eq (tgt := 26) hx hb dX8_planned_11 (by decide) (fun c4 => ?_) (fun c4 => absurd ((i3_eq _ _).mpr (by show _ = (0 : Int); omega)) c4)
  refine lv_iconst (v := (-1)) hx hb dX8_planned_26 (by decide) ?_
  exact pc_iret (v := (-1)) (S := S) hx hb hr hlk hK hZ hA hW hS (rfl) dX8_planned_27
set_option maxHeartbeats 4000000 in
set_option maxRecDepth 100000 in
theorem c_X7_addWord (l : Launch) (D : va_G) (cy : Nat → ClassId) (A : Nat → Prop) (S : St) (t w n : Nat) (a : Int32) (hk : sK S t = 7) (hr0 : sR S t 0 = some w) (hkw : sK S w = 10) (hn : sL S w = 80) (hs : sI S t 1 = nI n) (hle : n + 4 ≤ 80) : MV l yX7_addWord wsX7_addWord ({ frames := 1, cells := 0, slots := 0, locals := 21 } : Room) 0 0 D cy A [.ref t, .int a] S (fun S1 => (sK S1 = sK S ∧ sR S1 = sR S ∧ sL S1 = sL S) ∧ sI S1 t 1 = nI (n + 4) ∧ True) := by
  refine mt_start (cc := cX7_addWord) (maxL := 3) (ret := none) (by decide) rfl (Nat.le_of_ble_eq_true rfl) ?_
  intro p e s m args below meth c hx hb hr hlk hml hown hnm hts hK hZ hA hW hS ls hl
  have hl : lv_has ls 3 [(0, .ref t), (1, .int a)] := hl
  have hown : s.vm.findClass RX7 = some m.cls := hown
  have F : CallFix p m c cX7_addWord 3 s args wsX7_addWord RX7 := ⟨hx, hb, hml, hown, hts⟩
  have wi7 : ∀ w ∈ u_ws RX7 TX7 2, w ∈ wsX7_addWord := by decide +kernel
  refine lv_bipush (v := 24) hx hb dX7_addWord_0 (by decide) ?_
  refine lv_istore_n (lv' := [(2, .int 24), (0, .ref t), (1, .int a)]) hx hb dX7_addWord_2 rfl hl (by decide) rfl (fun ls hl => ?_)
  refine lv_iload_n hx hb dX7_addWord_3 rfl (lv_at hl 0 rfl) ?_
  refine lv_if_lt (tgt := 48) hx hb dX7_addWord_4 (by decide) (fun c1 => absurd c1 (by decide)) (fun c1 => ?_)
  refine lv_aload_n hx hb dX7_addWord_7 rfl (lv_at hl 1 rfl) ?_
  refine pg_gi (ci := 7) (C := RX7) (T := TX7) (N := 2) hx hb hts wi7 hown hK hW hk (by decide) rfl 1 (by decide) (hts (.fieldLink RX7 15 "IceHall$Tape" "size" "I") (by decide +kernel)) (fun _ h9 => h9) rfl dX7_addWord_8 ?_
  rw [show sI S t 1 = nI n from hs]
  refine lv_bipush (v := 80) hx hb dX7_addWord_11 (by decide) ?_
  refine pc_Ni (As := [.int (nI n), .int 80]) (rest := []) F (c_X8_isBelow l D cy A S (nI n) 80 ) ⟨va_cnB 2 hts gX7_addWord_X8_isBelow_n19 rfl rfl rfl hZ.2.2.2.2.2.2.2.2.2.2.2.1 (hts (.initialized RX8) (by decide +kernel)) (by decide +kernel) ⟨Nat.le_of_ble_eq_true rfl, Nat.le_of_ble_eq_true rfl⟩, hts (.static yX8_isBelow) (by decide +kernel), trivial⟩ hK hZ hA hW hS rfl hl.1 rfl (Nat.le_of_ble_eq_true rfl) dX7_addWord_13 ⟨Nat.le_of_ble_eq_true rfl, Nat.le_of_ble_eq_true rfl⟩ (fun v2 T3 H locs p4 hW hS => ?_)
  obtain ⟨eT3, p4⟩ := p4
  rw [eT3] at hW
  have p4 := isb_lit (n := 80) rfl p4
  refine lv_if_eq (tgt := 42) hx hb dX7_addWord_16 (by decide) (fun c5 => absurd c5 (by have h8 := nI_toInt (n := n) (by omega); intro h9; have h7 : _ = (0 : Int) := (i3_eq _ _).mp h9; omega)) (fun c5 => ?_)
  refine lv_aload_n hx hb dX7_addWord_19 rfl (lv_at hl 1 rfl) ?_
  refine pg_gr (b := w) (ci := 7) (C := RX7) (T := TX7) (N := 2) hx hb hts wi7 hown hK hW hk (by decide) rfl 0 (by decide) (hts (.fieldLink RX7 9 "IceHall$Tape" "bytes" "[B") (by decide +kernel)) (fun _ h9 => h9) rfl hr0 dX7_addWord_20 ?_
  refine lv_aload_n hx hb dX7_addWord_23 rfl (lv_at hl 1 rfl) ?_
  refine pg_gi (ci := 7) (C := RX7) (T := TX7) (N := 2) hx hb hts wi7 hown hK hW hk (by decide) rfl 1 (by decide) (hts (.fieldLink RX7 15 "IceHall$Tape" "size" "I") (by decide +kernel)) (fun _ h9 => h9) rfl dX7_addWord_24 ?_
  rw [show sI S t 1 = nI n from hs]
  refine lv_iload_n hx hb dX7_addWord_27 rfl (lv_at hl 2 rfl) ?_
  refine lv_iload_n hx hb dX7_addWord_28 rfl (lv_at hl 0 rfl) ?_
  refine lv_ishr hx hb dX7_addWord_29 ?_
  refine lv_i2b (v := Int8.toInt32 (Int32.toInt8 (a >>> (24 &&& 31)))) hx hb dX7_addWord_30 rfl ?_
  refine pg_bast hx hb hK hW hS hkw (by rw [show sL S w = 80 from hn]; exact vp_in_nI (by omega) (by decide)) dX7_addWord_31 (fun H locs hW hS => ?_)
  have w6 : sI (stI S w (Int32.toNatClampNeg (nI n)) (vp_nar .byte (Int8.toInt32 (Int32.toInt8 (a >>> (24 &&& 31)))))) t 1 = nI n := (iI_a (fk_ne hk hkw (by decide))).trans hs
  refine lv_aload_n hx hb dX7_addWord_32 rfl (lv_at hl 1 rfl) ?_
  refine lv_dup hx hb dX7_addWord_33 rfl ?_
  refine pg_gi (ci := 7) (C := RX7) (T := TX7) (N := 2) hx hb hts wi7 hown hK hW hk (by decide) rfl 1 (by decide) (hts (.fieldLink RX7 15 "IceHall$Tape" "size" "I") (by decide +kernel)) (fun _ h9 => h9) rfl dX7_addWord_34 ?_
  rw [show sI (stI S w (Int32.toNatClampNeg (nI n)) (vp_nar .byte (Int8.toInt32 (Int32.toInt8 (a >>> (24 &&& 31)))))) t 1 = nI n from w6]
  refine lv_iconst (v := 1) hx hb dX7_addWord_37 (by decide) ?_
  refine lv_iadd hx hb dX7_addWord_38 ?_
  rw [show (nI n) + 1 = nI (n + 1) from nI_add _ _]
  refine pg_pi (ci := 7) (C := RX7) (T := TX7) (N := 2) hx hb hts wi7 tyX7 tyX7_ok nmX7 hown hK hW hS hk (by decide) rfl 1 (by decide) (hts (.fieldLink RX7 15 "IceHall$Tape" "size" "I") (by decide +kernel)) (fun _ h9 => h9) rfl rfl rfl dX7_addWord_39 (fun H locs hW hS => ?_)
  have w7 : sI (stI (stI S w (Int32.toNatClampNeg (nI n)) (vp_nar .byte (Int8.toInt32 (Int32.toInt8 (a >>> (24 &&& 31)))))) t 1 (nI (n + 1))) t 1 = nI (n + 1) := iI_s
  clear w6
  refine lv_iinc (v := 16) (lv' := [(2, .int 16), (0, .ref t), (1, .int a)]) hx hb dX7_addWord_42 hl (k := 0) rfl (by decide) (by decide) rfl (fun ls hl => ?_)
  refine lv_goto (tgt := 3) hx hb dX7_addWord_45 (by decide) ?_
  refine lv_iload_n hx hb dX7_addWord_3 rfl (lv_at hl 0 rfl) ?_
  refine lv_if_lt (tgt := 48) hx hb dX7_addWord_4 (by decide) (fun c8 => absurd c8 (by decide)) (fun c8 => ?_)
  refine lv_aload_n hx hb dX7_addWord_7 rfl (lv_at hl 1 rfl) ?_
  refine pg_gi (ci := 7) (C := RX7) (T := TX7) (N := 2) hx hb hts wi7 hown hK hW hk (by decide) rfl 1 (by decide) (hts (.fieldLink RX7 15 "IceHall$Tape" "size" "I") (by decide +kernel)) (fun _ h9 => h9) rfl dX7_addWord_8 ?_
  rw [show sI (stI (stI S w (Int32.toNatClampNeg (nI n)) (vp_nar .byte (Int8.toInt32 (Int32.toInt8 (a >>> (24 &&& 31)))))) t 1 (nI (n + 1))) t 1 = nI (n + 1) from w7]
  refine lv_bipush (v := 80) hx hb dX7_addWord_11 (by decide) ?_
  refine pc_Ni (As := [.int (nI (n + 1)), .int 80]) (rest := []) F (c_X8_isBelow l D cy A (stI (stI S w (Int32.toNatClampNeg (nI n)) (vp_nar .byte (Int8.toInt32 (Int32.toInt8 (a >>> (24 &&& 31)))))) t 1 (nI (n + 1))) (nI (n + 1)) 80 ) ⟨va_cnB 2 hts gX7_addWord_X8_isBelow_n19 rfl rfl rfl hZ.2.2.2.2.2.2.2.2.2.2.2.1 (hts (.initialized RX8) (by decide +kernel)) (by decide +kernel) ⟨Nat.le_of_ble_eq_true rfl, Nat.le_of_ble_eq_true rfl⟩, hts (.static yX8_isBelow) (by decide +kernel), trivial⟩ hK hZ hA hW hS rfl hl.1 rfl (Nat.le_of_ble_eq_true rfl) dX7_addWord_13 ⟨Nat.le_of_ble_eq_true rfl, Nat.le_of_ble_eq_true rfl⟩ (fun v9 T10 H locs p11 hW hS => ?_)
  obtain ⟨eT10, p11⟩ := p11
  rw [eT10] at hW
  have p11 := isb_lit (n := 80) rfl p11
  refine lv_if_eq (tgt := 42) hx hb dX7_addWord_16 (by decide) (fun c12 => absurd c12 (by have h8 := nI_toInt (n := (n + 1)) (by omega); intro h9; have h7 : _ = (0 : Int) := (i3_eq _ _).mp h9; omega)) (fun c12 => ?_)
  refine lv_aload_n hx hb dX7_addWord_19 rfl (lv_at hl 1 rfl) ?_
  refine pg_gr (b := w) (ci := 7) (C := RX7) (T := TX7) (N := 2) hx hb hts wi7 hown hK hW hk (by decide) rfl 0 (by decide) (hts (.fieldLink RX7 9 "IceHall$Tape" "bytes" "[B") (by decide +kernel)) (fun _ h9 => h9) rfl hr0 dX7_addWord_20 ?_
  refine lv_aload_n hx hb dX7_addWord_23 rfl (lv_at hl 1 rfl) ?_
  refine pg_gi (ci := 7) (C := RX7) (T := TX7) (N := 2) hx hb hts wi7 hown hK hW hk (by decide) rfl 1 (by decide) (hts (.fieldLink RX7 15 "IceHall$Tape" "size" "I") (by decide +kernel)) (fun _ h9 => h9) rfl dX7_addWord_24 ?_
  rw [show sI (stI (stI S w (Int32.toNatClampNeg (nI n)) (vp_nar .byte (Int8.toInt32 (Int32.toInt8 (a >>> (24 &&& 31)))))) t 1 (nI (n + 1))) t 1 = nI (n + 1) from w7]
  refine lv_iload_n hx hb dX7_addWord_27 rfl (lv_at hl 2 rfl) ?_
  refine lv_iload_n hx hb dX7_addWord_28 rfl (lv_at hl 0 rfl) ?_
  refine lv_ishr hx hb dX7_addWord_29 ?_
  refine lv_i2b (v := Int8.toInt32 (Int32.toInt8 (a >>> (16 &&& 31)))) hx hb dX7_addWord_30 rfl ?_
  refine pg_bast hx hb hK hW hS hkw (by rw [show sL (stI (stI S w (Int32.toNatClampNeg (nI n)) (vp_nar .byte (Int8.toInt32 (Int32.toInt8 (a >>> (24 &&& 31)))))) t 1 (nI (n + 1))) w = 80 from hn]; exact vp_in_nI (by omega) (by decide)) dX7_addWord_31 (fun H locs hW hS => ?_)
  have w13 : sI (stI (stI (stI S w (Int32.toNatClampNeg (nI n)) (vp_nar .byte (Int8.toInt32 (Int32.toInt8 (a >>> (24 &&& 31)))))) t 1 (nI (n + 1))) w (Int32.toNatClampNeg (nI (n + 1))) (vp_nar .byte (Int8.toInt32 (Int32.toInt8 (a >>> (16 &&& 31)))))) t 1 = nI (n + 1) := (iI_a (fk_ne hk hkw (by decide))).trans w7
  clear w7
  refine lv_aload_n hx hb dX7_addWord_32 rfl (lv_at hl 1 rfl) ?_
  refine lv_dup hx hb dX7_addWord_33 rfl ?_
  refine pg_gi (ci := 7) (C := RX7) (T := TX7) (N := 2) hx hb hts wi7 hown hK hW hk (by decide) rfl 1 (by decide) (hts (.fieldLink RX7 15 "IceHall$Tape" "size" "I") (by decide +kernel)) (fun _ h9 => h9) rfl dX7_addWord_34 ?_
  rw [show sI (stI (stI (stI S w (Int32.toNatClampNeg (nI n)) (vp_nar .byte (Int8.toInt32 (Int32.toInt8 (a >>> (24 &&& 31)))))) t 1 (nI (n + 1))) w (Int32.toNatClampNeg (nI (n + 1))) (vp_nar .byte (Int8.toInt32 (Int32.toInt8 (a >>> (16 &&& 31)))))) t 1 = nI (n + 1) from w13]
  refine lv_iconst (v := 1) hx hb dX7_addWord_37 (by decide) ?_
  refine lv_iadd hx hb dX7_addWord_38 ?_
  rw [show (nI (n + 1)) + 1 = nI ((n + 1) + 1) from nI_add _ _]
  refine pg_pi (ci := 7) (C := RX7) (T := TX7) (N := 2) hx hb hts wi7 tyX7 tyX7_ok nmX7 hown hK hW hS hk (by decide) rfl 1 (by decide) (hts (.fieldLink RX7 15 "IceHall$Tape" "size" "I") (by decide +kernel)) (fun _ h9 => h9) rfl rfl rfl dX7_addWord_39 (fun H locs hW hS => ?_)
  have w14 : sI (stI (stI (stI (stI S w (Int32.toNatClampNeg (nI n)) (vp_nar .byte (Int8.toInt32 (Int32.toInt8 (a >>> (24 &&& 31)))))) t 1 (nI (n + 1))) w (Int32.toNatClampNeg (nI (n + 1))) (vp_nar .byte (Int8.toInt32 (Int32.toInt8 (a >>> (16 &&& 31)))))) t 1 (nI ((n + 1) + 1))) t 1 = nI ((n + 1) + 1) := iI_s
  clear w13
  refine lv_iinc (v := 8) (lv' := [(2, .int 8), (0, .ref t), (1, .int a)]) hx hb dX7_addWord_42 hl (k := 0) rfl (by decide) (by decide) rfl (fun ls hl => ?_)
  refine lv_goto (tgt := 3) hx hb dX7_addWord_45 (by decide) ?_
  refine lv_iload_n hx hb dX7_addWord_3 rfl (lv_at hl 0 rfl) ?_
  refine lv_if_lt (tgt := 48) hx hb dX7_addWord_4 (by decide) (fun c15 => absurd c15 (by decide)) (fun c15 => ?_)
  refine lv_aload_n hx hb dX7_addWord_7 rfl (lv_at hl 1 rfl) ?_
  refine pg_gi (ci := 7) (C := RX7) (T := TX7) (N := 2) hx hb hts wi7 hown hK hW hk (by decide) rfl 1 (by decide) (hts (.fieldLink RX7 15 "IceHall$Tape" "size" "I") (by decide +kernel)) (fun _ h9 => h9) rfl dX7_addWord_8 ?_
  rw [show sI (stI (stI (stI (stI S w (Int32.toNatClampNeg (nI n)) (vp_nar .byte (Int8.toInt32 (Int32.toInt8 (a >>> (24 &&& 31)))))) t 1 (nI (n + 1))) w (Int32.toNatClampNeg (nI (n + 1))) (vp_nar .byte (Int8.toInt32 (Int32.toInt8 (a >>> (16 &&& 31)))))) t 1 (nI ((n + 1) + 1))) t 1 = nI ((n + 1) + 1) from w14]
  refine lv_bipush (v := 80) hx hb dX7_addWord_11 (by decide) ?_
  refine pc_Ni (As := [.int (nI ((n + 1) + 1)), .int 80]) (rest := []) F (c_X8_isBelow l D cy A (stI (stI (stI (stI S w (Int32.toNatClampNeg (nI n)) (vp_nar .byte (Int8.toInt32 (Int32.toInt8 (a >>> (24 &&& 31)))))) t 1 (nI (n + 1))) w (Int32.toNatClampNeg (nI (n + 1))) (vp_nar .byte (Int8.toInt32 (Int32.toInt8 (a >>> (16 &&& 31)))))) t 1 (nI ((n + 1) + 1))) (nI ((n + 1) + 1)) 80 ) ⟨va_cnB 2 hts gX7_addWord_X8_isBelow_n19 rfl rfl rfl hZ.2.2.2.2.2.2.2.2.2.2.2.1 (hts (.initialized RX8) (by decide +kernel)) (by decide +kernel) ⟨Nat.le_of_ble_eq_true rfl, Nat.le_of_ble_eq_true rfl⟩, hts (.static yX8_isBelow) (by decide +kernel), trivial⟩ hK hZ hA hW hS rfl hl.1 rfl (Nat.le_of_ble_eq_true rfl) dX7_addWord_13 ⟨Nat.le_of_ble_eq_true rfl, Nat.le_of_ble_eq_true rfl⟩ (fun v16 T17 H locs p18 hW hS => ?_)
  obtain ⟨eT17, p18⟩ := p18
  rw [eT17] at hW
  have p18 := isb_lit (n := 80) rfl p18
  refine lv_if_eq (tgt := 42) hx hb dX7_addWord_16 (by decide) (fun c19 => absurd c19 (by have h8 := nI_toInt (n := ((n + 1) + 1)) (by omega); intro h9; have h7 : _ = (0 : Int) := (i3_eq _ _).mp h9; omega)) (fun c19 => ?_)
  refine lv_aload_n hx hb dX7_addWord_19 rfl (lv_at hl 1 rfl) ?_
  refine pg_gr (b := w) (ci := 7) (C := RX7) (T := TX7) (N := 2) hx hb hts wi7 hown hK hW hk (by decide) rfl 0 (by decide) (hts (.fieldLink RX7 9 "IceHall$Tape" "bytes" "[B") (by decide +kernel)) (fun _ h9 => h9) rfl hr0 dX7_addWord_20 ?_
  refine lv_aload_n hx hb dX7_addWord_23 rfl (lv_at hl 1 rfl) ?_
  refine pg_gi (ci := 7) (C := RX7) (T := TX7) (N := 2) hx hb hts wi7 hown hK hW hk (by decide) rfl 1 (by decide) (hts (.fieldLink RX7 15 "IceHall$Tape" "size" "I") (by decide +kernel)) (fun _ h9 => h9) rfl dX7_addWord_24 ?_
  rw [show sI (stI (stI (stI (stI S w (Int32.toNatClampNeg (nI n)) (vp_nar .byte (Int8.toInt32 (Int32.toInt8 (a >>> (24 &&& 31)))))) t 1 (nI (n + 1))) w (Int32.toNatClampNeg (nI (n + 1))) (vp_nar .byte (Int8.toInt32 (Int32.toInt8 (a >>> (16 &&& 31)))))) t 1 (nI ((n + 1) + 1))) t 1 = nI ((n + 1) + 1) from w14]
  refine lv_iload_n hx hb dX7_addWord_27 rfl (lv_at hl 2 rfl) ?_
  refine lv_iload_n hx hb dX7_addWord_28 rfl (lv_at hl 0 rfl) ?_
  refine lv_ishr hx hb dX7_addWord_29 ?_
  refine lv_i2b (v := Int8.toInt32 (Int32.toInt8 (a >>> (8 &&& 31)))) hx hb dX7_addWord_30 rfl ?_
  refine pg_bast hx hb hK hW hS hkw (by rw [show sL (stI (stI (stI (stI S w (Int32.toNatClampNeg (nI n)) (vp_nar .byte (Int8.toInt32 (Int32.toInt8 (a >>> (24 &&& 31)))))) t 1 (nI (n + 1))) w (Int32.toNatClampNeg (nI (n + 1))) (vp_nar .byte (Int8.toInt32 (Int32.toInt8 (a >>> (16 &&& 31)))))) t 1 (nI ((n + 1) + 1))) w = 80 from hn]; exact vp_in_nI (by omega) (by decide)) dX7_addWord_31 (fun H locs hW hS => ?_)
  have w20 : sI (stI (stI (stI (stI (stI S w (Int32.toNatClampNeg (nI n)) (vp_nar .byte (Int8.toInt32 (Int32.toInt8 (a >>> (24 &&& 31)))))) t 1 (nI (n + 1))) w (Int32.toNatClampNeg (nI (n + 1))) (vp_nar .byte (Int8.toInt32 (Int32.toInt8 (a >>> (16 &&& 31)))))) t 1 (nI ((n + 1) + 1))) w (Int32.toNatClampNeg (nI ((n + 1) + 1))) (vp_nar .byte (Int8.toInt32 (Int32.toInt8 (a >>> (8 &&& 31)))))) t 1 = nI ((n + 1) + 1) := (iI_a (fk_ne hk hkw (by decide))).trans w14
  clear w14
  refine lv_aload_n hx hb dX7_addWord_32 rfl (lv_at hl 1 rfl) ?_
  refine lv_dup hx hb dX7_addWord_33 rfl ?_
  refine pg_gi (ci := 7) (C := RX7) (T := TX7) (N := 2) hx hb hts wi7 hown hK hW hk (by decide) rfl 1 (by decide) (hts (.fieldLink RX7 15 "IceHall$Tape" "size" "I") (by decide +kernel)) (fun _ h9 => h9) rfl dX7_addWord_34 ?_
  rw [show sI (stI (stI (stI (stI (stI S w (Int32.toNatClampNeg (nI n)) (vp_nar .byte (Int8.toInt32 (Int32.toInt8 (a >>> (24 &&& 31)))))) t 1 (nI (n + 1))) w (Int32.toNatClampNeg (nI (n + 1))) (vp_nar .byte (Int8.toInt32 (Int32.toInt8 (a >>> (16 &&& 31)))))) t 1 (nI ((n + 1) + 1))) w (Int32.toNatClampNeg (nI ((n + 1) + 1))) (vp_nar .byte (Int8.toInt32 (Int32.toInt8 (a >>> (8 &&& 31)))))) t 1 = nI ((n + 1) + 1) from w20]
  refine lv_iconst (v := 1) hx hb dX7_addWord_37 (by decide) ?_
  refine lv_iadd hx hb dX7_addWord_38 ?_
  rw [show (nI ((n + 1) + 1)) + 1 = nI (((n + 1) + 1) + 1) from nI_add _ _]
  refine pg_pi (ci := 7) (C := RX7) (T := TX7) (N := 2) hx hb hts wi7 tyX7 tyX7_ok nmX7 hown hK hW hS hk (by decide) rfl 1 (by decide) (hts (.fieldLink RX7 15 "IceHall$Tape" "size" "I") (by decide +kernel)) (fun _ h9 => h9) rfl rfl rfl dX7_addWord_39 (fun H locs hW hS => ?_)
  have w21 : sI (stI (stI (stI (stI (stI (stI S w (Int32.toNatClampNeg (nI n)) (vp_nar .byte (Int8.toInt32 (Int32.toInt8 (a >>> (24 &&& 31)))))) t 1 (nI (n + 1))) w (Int32.toNatClampNeg (nI (n + 1))) (vp_nar .byte (Int8.toInt32 (Int32.toInt8 (a >>> (16 &&& 31)))))) t 1 (nI ((n + 1) + 1))) w (Int32.toNatClampNeg (nI ((n + 1) + 1))) (vp_nar .byte (Int8.toInt32 (Int32.toInt8 (a >>> (8 &&& 31)))))) t 1 (nI (((n + 1) + 1) + 1))) t 1 = nI (((n + 1) + 1) + 1) := iI_s
  clear w20
  refine lv_iinc (v := 0) (lv' := [(2, .int 0), (0, .ref t), (1, .int a)]) hx hb dX7_addWord_42 hl (k := 0) rfl (by decide) (by decide) rfl (fun ls hl => ?_)
  refine lv_goto (tgt := 3) hx hb dX7_addWord_45 (by decide) ?_
  refine lv_iload_n hx hb dX7_addWord_3 rfl (lv_at hl 0 rfl) ?_
  refine lv_if_lt (tgt := 48) hx hb dX7_addWord_4 (by decide) (fun c22 => absurd c22 (by decide)) (fun c22 => ?_)
  refine lv_aload_n hx hb dX7_addWord_7 rfl (lv_at hl 1 rfl) ?_
  refine pg_gi (ci := 7) (C := RX7) (T := TX7) (N := 2) hx hb hts wi7 hown hK hW hk (by decide) rfl 1 (by decide) (hts (.fieldLink RX7 15 "IceHall$Tape" "size" "I") (by decide +kernel)) (fun _ h9 => h9) rfl dX7_addWord_8 ?_
  rw [show sI (stI (stI (stI (stI (stI (stI S w (Int32.toNatClampNeg (nI n)) (vp_nar .byte (Int8.toInt32 (Int32.toInt8 (a >>> (24 &&& 31)))))) t 1 (nI (n + 1))) w (Int32.toNatClampNeg (nI (n + 1))) (vp_nar .byte (Int8.toInt32 (Int32.toInt8 (a >>> (16 &&& 31)))))) t 1 (nI ((n + 1) + 1))) w (Int32.toNatClampNeg (nI ((n + 1) + 1))) (vp_nar .byte (Int8.toInt32 (Int32.toInt8 (a >>> (8 &&& 31)))))) t 1 (nI (((n + 1) + 1) + 1))) t 1 = nI (((n + 1) + 1) + 1) from w21]
  refine lv_bipush (v := 80) hx hb dX7_addWord_11 (by decide) ?_
  refine pc_Ni (As := [.int (nI (((n + 1) + 1) + 1)), .int 80]) (rest := []) F (c_X8_isBelow l D cy A (stI (stI (stI (stI (stI (stI S w (Int32.toNatClampNeg (nI n)) (vp_nar .byte (Int8.toInt32 (Int32.toInt8 (a >>> (24 &&& 31)))))) t 1 (nI (n + 1))) w (Int32.toNatClampNeg (nI (n + 1))) (vp_nar .byte (Int8.toInt32 (Int32.toInt8 (a >>> (16 &&& 31)))))) t 1 (nI ((n + 1) + 1))) w (Int32.toNatClampNeg (nI ((n + 1) + 1))) (vp_nar .byte (Int8.toInt32 (Int32.toInt8 (a >>> (8 &&& 31)))))) t 1 (nI (((n + 1) + 1) + 1))) (nI (((n + 1) + 1) + 1)) 80 ) ⟨va_cnB 2 hts gX7_addWord_X8_isBelow_n19 rfl rfl rfl hZ.2.2.2.2.2.2.2.2.2.2.2.1 (hts (.initialized RX8) (by decide +kernel)) (by decide +kernel) ⟨Nat.le_of_ble_eq_true rfl, Nat.le_of_ble_eq_true rfl⟩, hts (.static yX8_isBelow) (by decide +kernel), trivial⟩ hK hZ hA hW hS rfl hl.1 rfl (Nat.le_of_ble_eq_true rfl) dX7_addWord_13 ⟨Nat.le_of_ble_eq_true rfl, Nat.le_of_ble_eq_true rfl⟩ (fun v23 T24 H locs p25 hW hS => ?_)
  obtain ⟨eT24, p25⟩ := p25
  rw [eT24] at hW
  have p25 := isb_lit (n := 80) rfl p25
  refine lv_if_eq (tgt := 42) hx hb dX7_addWord_16 (by decide) (fun c26 => absurd c26 (by have h8 := nI_toInt (n := (((n + 1) + 1) + 1)) (by omega); intro h9; have h7 : _ = (0 : Int) := (i3_eq _ _).mp h9; omega)) (fun c26 => ?_)
  refine lv_aload_n hx hb dX7_addWord_19 rfl (lv_at hl 1 rfl) ?_
  refine pg_gr (b := w) (ci := 7) (C := RX7) (T := TX7) (N := 2) hx hb hts wi7 hown hK hW hk (by decide) rfl 0 (by decide) (hts (.fieldLink RX7 9 "IceHall$Tape" "bytes" "[B") (by decide +kernel)) (fun _ h9 => h9) rfl hr0 dX7_addWord_20 ?_
  refine lv_aload_n hx hb dX7_addWord_23 rfl (lv_at hl 1 rfl) ?_
  refine pg_gi (ci := 7) (C := RX7) (T := TX7) (N := 2) hx hb hts wi7 hown hK hW hk (by decide) rfl 1 (by decide) (hts (.fieldLink RX7 15 "IceHall$Tape" "size" "I") (by decide +kernel)) (fun _ h9 => h9) rfl dX7_addWord_24 ?_
  rw [show sI (stI (stI (stI (stI (stI (stI S w (Int32.toNatClampNeg (nI n)) (vp_nar .byte (Int8.toInt32 (Int32.toInt8 (a >>> (24 &&& 31)))))) t 1 (nI (n + 1))) w (Int32.toNatClampNeg (nI (n + 1))) (vp_nar .byte (Int8.toInt32 (Int32.toInt8 (a >>> (16 &&& 31)))))) t 1 (nI ((n + 1) + 1))) w (Int32.toNatClampNeg (nI ((n + 1) + 1))) (vp_nar .byte (Int8.toInt32 (Int32.toInt8 (a >>> (8 &&& 31)))))) t 1 (nI (((n + 1) + 1) + 1))) t 1 = nI (((n + 1) + 1) + 1) from w21]
  refine lv_iload_n hx hb dX7_addWord_27 rfl (lv_at hl 2 rfl) ?_
  refine lv_iload_n hx hb dX7_addWord_28 rfl (lv_at hl 0 rfl) ?_
  refine lv_ishr hx hb dX7_addWord_29 ?_
  refine lv_i2b (v := Int8.toInt32 (Int32.toInt8 (a >>> (0 &&& 31)))) hx hb dX7_addWord_30 rfl ?_
  refine pg_bast hx hb hK hW hS hkw (by rw [show sL (stI (stI (stI (stI (stI (stI S w (Int32.toNatClampNeg (nI n)) (vp_nar .byte (Int8.toInt32 (Int32.toInt8 (a >>> (24 &&& 31)))))) t 1 (nI (n + 1))) w (Int32.toNatClampNeg (nI (n + 1))) (vp_nar .byte (Int8.toInt32 (Int32.toInt8 (a >>> (16 &&& 31)))))) t 1 (nI ((n + 1) + 1))) w (Int32.toNatClampNeg (nI ((n + 1) + 1))) (vp_nar .byte (Int8.toInt32 (Int32.toInt8 (a >>> (8 &&& 31)))))) t 1 (nI (((n + 1) + 1) + 1))) w = 80 from hn]; exact vp_in_nI (by omega) (by decide)) dX7_addWord_31 (fun H locs hW hS => ?_)
  have w27 : sI (stI (stI (stI (stI (stI (stI (stI S w (Int32.toNatClampNeg (nI n)) (vp_nar .byte (Int8.toInt32 (Int32.toInt8 (a >>> (24 &&& 31)))))) t 1 (nI (n + 1))) w (Int32.toNatClampNeg (nI (n + 1))) (vp_nar .byte (Int8.toInt32 (Int32.toInt8 (a >>> (16 &&& 31)))))) t 1 (nI ((n + 1) + 1))) w (Int32.toNatClampNeg (nI ((n + 1) + 1))) (vp_nar .byte (Int8.toInt32 (Int32.toInt8 (a >>> (8 &&& 31)))))) t 1 (nI (((n + 1) + 1) + 1))) w (Int32.toNatClampNeg (nI (((n + 1) + 1) + 1))) (vp_nar .byte (Int8.toInt32 (Int32.toInt8 (a >>> (0 &&& 31)))))) t 1 = nI (((n + 1) + 1) + 1) := (iI_a (fk_ne hk hkw (by decide))).trans w21
  clear w21
  refine lv_aload_n hx hb dX7_addWord_32 rfl (lv_at hl 1 rfl) ?_
  refine lv_dup hx hb dX7_addWord_33 rfl ?_
  refine pg_gi (ci := 7) (C := RX7) (T := TX7) (N := 2) hx hb hts wi7 hown hK hW hk (by decide) rfl 1 (by decide) (hts (.fieldLink RX7 15 "IceHall$Tape" "size" "I") (by decide +kernel)) (fun _ h9 => h9) rfl dX7_addWord_34 ?_
  rw [show sI (stI (stI (stI (stI (stI (stI (stI S w (Int32.toNatClampNeg (nI n)) (vp_nar .byte (Int8.toInt32 (Int32.toInt8 (a >>> (24 &&& 31)))))) t 1 (nI (n + 1))) w (Int32.toNatClampNeg (nI (n + 1))) (vp_nar .byte (Int8.toInt32 (Int32.toInt8 (a >>> (16 &&& 31)))))) t 1 (nI ((n + 1) + 1))) w (Int32.toNatClampNeg (nI ((n + 1) + 1))) (vp_nar .byte (Int8.toInt32 (Int32.toInt8 (a >>> (8 &&& 31)))))) t 1 (nI (((n + 1) + 1) + 1))) w (Int32.toNatClampNeg (nI (((n + 1) + 1) + 1))) (vp_nar .byte (Int8.toInt32 (Int32.toInt8 (a >>> (0 &&& 31)))))) t 1 = nI (((n + 1) + 1) + 1) from w27]
  refine lv_iconst (v := 1) hx hb dX7_addWord_37 (by decide) ?_
  refine lv_iadd hx hb dX7_addWord_38 ?_
  rw [show (nI (((n + 1) + 1) + 1)) + 1 = nI ((((n + 1) + 1) + 1) + 1) from nI_add _ _]
  refine pg_pi (ci := 7) (C := RX7) (T := TX7) (N := 2) hx hb hts wi7 tyX7 tyX7_ok nmX7 hown hK hW hS hk (by decide) rfl 1 (by decide) (hts (.fieldLink RX7 15 "IceHall$Tape" "size" "I") (by decide +kernel)) (fun _ h9 => h9) rfl rfl rfl dX7_addWord_39 (fun H locs hW hS => ?_)
  have w28 : sI (stI (stI (stI (stI (stI (stI (stI (stI S w (Int32.toNatClampNeg (nI n)) (vp_nar .byte (Int8.toInt32 (Int32.toInt8 (a >>> (24 &&& 31)))))) t 1 (nI (n + 1))) w (Int32.toNatClampNeg (nI (n + 1))) (vp_nar .byte (Int8.toInt32 (Int32.toInt8 (a >>> (16 &&& 31)))))) t 1 (nI ((n + 1) + 1))) w (Int32.toNatClampNeg (nI ((n + 1) + 1))) (vp_nar .byte (Int8.toInt32 (Int32.toInt8 (a >>> (8 &&& 31)))))) t 1 (nI (((n + 1) + 1) + 1))) w (Int32.toNatClampNeg (nI (((n + 1) + 1) + 1))) (vp_nar .byte (Int8.toInt32 (Int32.toInt8 (a >>> (0 &&& 31)))))) t 1 (nI ((((n + 1) + 1) + 1) + 1))) t 1 = nI ((((n + 1) + 1) + 1) + 1) := iI_s
  clear w27
  refine lv_iinc (v := (-8)) (lv' := [(2, .int ((-8))), (0, .ref t), (1, .int a)]) hx hb dX7_addWord_42 hl (k := 0) rfl (by decide) (by decide) rfl (fun ls hl => ?_)
  refine lv_goto (tgt := 3) hx hb dX7_addWord_45 (by decide) ?_
  refine lv_iload_n hx hb dX7_addWord_3 rfl (lv_at hl 0 rfl) ?_
  refine lv_if_lt (tgt := 48) hx hb dX7_addWord_4 (by decide) (fun c29 => ?_) (fun c29 => absurd (by decide) c29)
  exact pc_vret (S := stI (stI (stI (stI (stI (stI (stI (stI S w (Int32.toNatClampNeg (nI n)) (vp_nar .byte (Int8.toInt32 (Int32.toInt8 (a >>> (24 &&& 31)))))) t 1 (nI (n + 1))) w (Int32.toNatClampNeg (nI (n + 1))) (vp_nar .byte (Int8.toInt32 (Int32.toInt8 (a >>> (16 &&& 31)))))) t 1 (nI ((n + 1) + 1))) w (Int32.toNatClampNeg (nI ((n + 1) + 1))) (vp_nar .byte (Int8.toInt32 (Int32.toInt8 (a >>> (8 &&& 31)))))) t 1 (nI (((n + 1) + 1) + 1))) w (Int32.toNatClampNeg (nI (((n + 1) + 1) + 1))) (vp_nar .byte (Int8.toInt32 (Int32.toInt8 (a >>> (0 &&& 31)))))) t 1 (nI ((((n + 1) + 1) + 1) + 1))) hx hb hr hlk hK hZ hA hW hS (⟨⟨rfl, rfl, rfl⟩, w28, trivial⟩) dX7_addWord_48
set_option maxHeartbeats 4000000 in
set_option maxRecDepth 100000 in
theorem c_X8_feed (l : Launch) (D : va_G) (cy : Nat → ClassId) (A : Nat → Prop) (S : St) (h tp by_ : Nat) (a b d e2 f : Int32) (a_0 : sK S h = 8) (a_6 : sR S h 5 = some tp) (a_60 : sK S tp = 7) (a_61 : sR S tp 0 = some by_) (a_62 : sK S by_ = 10) (a_63 : sL S by_ = 80) (a_64 : sI S tp 1 = 0) (a_113 : sI S h 9 = 0) (a_114 : sI S h 10 = 0) (a_115 : sI S h 11 = 200) (a_116 : sI S h 12 = 400) (a_117 : sI S h 13 = 3) (a_118 : sI S h 14 = 2) (a_119 : sI S h 15 = 0) (a_120 : sI S h 16 = 0) (a_121 : sI S h 17 = 0) : MI l yX8_feed wsX8_feed ({ frames := 2, cells := 0, slots := 0, locals := 43 } : Room) 0 0 D cy A [.ref h, .int a, .int b, .int d, .int e2, .int f] S (fun r S1 => r = 20) := by
  refine mt_start (cc := cX8_feed) (maxL := 6) (ret := (some .int)) (by decide) rfl (Nat.le_of_ble_eq_true rfl) ?_
  intro p e s m args below meth c hx hb hr hlk hml hown hnm hts hK hZ hA hW hS ls hl
  have hl : lv_has ls 6 [(0, .ref h), (1, .int a), (2, .int b), (3, .int d), (4, .int e2), (5, .int f)] := hl
  have hown : s.vm.findClass RX8 = some m.cls := hown
  have F : CallFix p m c cX8_feed 6 s args wsX8_feed RX8 := ⟨hx, hb, hml, hown, hts⟩
  have wi7 : ∀ w ∈ u_ws RX7 TX7 2, w ∈ wsX8_feed := by decide +kernel
  have wi8 : ∀ w ∈ u_ws RX8 TX8 18, w ∈ wsX8_feed := by decide +kernel
  refine lv_aload_n hx hb dX8_feed_0 rfl (lv_at hl 0 rfl) ?_
  refine pg_gr (b := tp) (ci := 8) (C := RX8) (T := TX8) (N := 18) hx hb hts wi8 hown hK hW a_0 (by decide) rfl 5 (by decide) (hts (.fieldLink RX8 39 "IceHall" "tape" "LIceHall$Tape;") (by decide +kernel)) (fun _ h9 => h9) rfl a_6 dX8_feed_1 ?_
  refine pg_gi (ci := 7) (C := RX7) (T := TX7) (N := 2) hx hb hts wi7 hown hK hW a_60 (by decide) rfl 1 (by decide) (hts (.fieldLink RX8 81 "IceHall$Tape" "size" "I") (by decide +kernel)) (fun _ h9 => h9) rfl dX8_feed_4 ?_
  rw [show sI S tp 1 = 0 from a_64]
  refine lv_bipush (v := 20) hx hb dX8_feed_7 (by decide) ?_
  refine lv_iadd hx hb dX8_feed_9 ?_
  rw [show (0 + 20 : Int32) = 20 from by decide]
  refine lv_bipush (v := 80) hx hb dX8_feed_10 (by decide) ?_
  refine lv_icmp_le (tgt := 17) hx hb dX8_feed_12 (by decide) (fun c1 => ?_) (fun c1 => absurd (by decide) c1)
  refine lv_aload_n hx hb dX8_feed_17 rfl (lv_at hl 0 rfl) ?_
  refine pg_gr (b := tp) (ci := 8) (C := RX8) (T := TX8) (N := 18) hx hb hts wi8 hown hK hW a_0 (by decide) rfl 5 (by decide) (hts (.fieldLink RX8 39 "IceHall" "tape" "LIceHall$Tape;") (by decide +kernel)) (fun _ h9 => h9) rfl a_6 dX8_feed_18 ?_
  refine lv_iload_n hx hb dX8_feed_21 rfl (lv_at hl 1 rfl) ?_
  refine pc_Vv (As := [.int a]) (rest := []) F (c_X7_addWord l D cy A S tp by_ 0 a a_60 a_61 a_62 a_63 a_64 (by omega)) (cwV 1 hts gX8_feed_X7_addWord rfl rfl rfl (by decide +kernel) ⟨Nat.le_of_ble_eq_true rfl, Nat.le_of_ble_eq_true rfl⟩) hK hZ hA hW hS a_60 (by decide) rfl rfl hl.1 rfl (Nat.le_of_ble_eq_true rfl) dX8_feed_22 ⟨Nat.le_of_ble_eq_true rfl, Nat.le_of_ble_eq_true rfl⟩ (fun T3 H locs p4 hW hS => ?_)
  obtain ⟨⟨ekT3, erT3, elT3⟩, p4⟩ := p4
  have f5 : sK T3 h = 8 := by rw [ekT3]; exact a_0
  have f6 : sK T3 tp = 7 := by rw [ekT3]; exact a_60
  have f7 : sK T3 by_ = 10 := by rw [ekT3]; exact a_62
  have f8 : sL T3 by_ = 80 := by rw [elT3]; exact a_63
  have f9 : sR T3 h 5 = some tp := by rw [erT3]; exact a_6
  have f10 : sR T3 tp 0 = some by_ := by rw [erT3]; exact a_61
  obtain ⟨y11, p4⟩ := p4
  refine lv_aload_n hx hb dX8_feed_25 rfl (lv_at hl 0 rfl) ?_
  refine pg_gr (b := tp) (ci := 8) (C := RX8) (T := TX8) (N := 18) hx hb hts wi8 hown hK hW f5 (by decide) rfl 5 (by decide) (hts (.fieldLink RX8 39 "IceHall" "tape" "LIceHall$Tape;") (by decide +kernel)) (fun _ h9 => h9) rfl f9 dX8_feed_26 ?_
  refine lv_iload_n hx hb dX8_feed_29 rfl (lv_at hl 2 rfl) ?_
  refine pc_Vv (As := [.int b]) (rest := []) F (c_X7_addWord l D cy A T3 tp by_ ((0 + 4)) b f6 f10 f7 f8 y11 (by omega)) (cwV 1 hts gX8_feed_X7_addWord rfl rfl rfl (by decide +kernel) ⟨Nat.le_of_ble_eq_true rfl, Nat.le_of_ble_eq_true rfl⟩) hK hZ hA hW hS f6 (by decide) rfl rfl hl.1 rfl (Nat.le_of_ble_eq_true rfl) dX8_feed_30 ⟨Nat.le_of_ble_eq_true rfl, Nat.le_of_ble_eq_true rfl⟩ (fun T13 H locs p14 hW hS => ?_)
  obtain ⟨⟨ekT13, erT13, elT13⟩, p14⟩ := p14
  have f15 : sK T13 h = 8 := by rw [ekT13]; exact f5
  have f16 : sK T13 tp = 7 := by rw [ekT13]; exact f6
  have f17 : sK T13 by_ = 10 := by rw [ekT13]; exact f7
  have f18 : sL T13 by_ = 80 := by rw [elT13]; exact f8
  have f19 : sR T13 h 5 = some tp := by rw [erT13]; exact f9
  have f20 : sR T13 tp 0 = some by_ := by rw [erT13]; exact f10
  obtain ⟨y21, p14⟩ := p14
  refine lv_aload_n hx hb dX8_feed_33 rfl (lv_at hl 0 rfl) ?_
  refine pg_gr (b := tp) (ci := 8) (C := RX8) (T := TX8) (N := 18) hx hb hts wi8 hown hK hW f15 (by decide) rfl 5 (by decide) (hts (.fieldLink RX8 39 "IceHall" "tape" "LIceHall$Tape;") (by decide +kernel)) (fun _ h9 => h9) rfl f19 dX8_feed_34 ?_
  refine lv_iload_n hx hb dX8_feed_37 rfl (lv_at hl 3 rfl) ?_
  refine pc_Vv (As := [.int d]) (rest := []) F (c_X7_addWord l D cy A T13 tp by_ (((0 + 4) + 4)) d f16 f20 f17 f18 y21 (by omega)) (cwV 1 hts gX8_feed_X7_addWord rfl rfl rfl (by decide +kernel) ⟨Nat.le_of_ble_eq_true rfl, Nat.le_of_ble_eq_true rfl⟩) hK hZ hA hW hS f16 (by decide) rfl rfl hl.1 rfl (Nat.le_of_ble_eq_true rfl) dX8_feed_38 ⟨Nat.le_of_ble_eq_true rfl, Nat.le_of_ble_eq_true rfl⟩ (fun T23 H locs p24 hW hS => ?_)
  obtain ⟨⟨ekT23, erT23, elT23⟩, p24⟩ := p24
  have f25 : sK T23 h = 8 := by rw [ekT23]; exact f15
  have f26 : sK T23 tp = 7 := by rw [ekT23]; exact f16
  have f27 : sK T23 by_ = 10 := by rw [ekT23]; exact f17
  have f28 : sL T23 by_ = 80 := by rw [elT23]; exact f18
  have f29 : sR T23 h 5 = some tp := by rw [erT23]; exact f19
  have f30 : sR T23 tp 0 = some by_ := by rw [erT23]; exact f20
  obtain ⟨y31, p24⟩ := p24
  refine lv_aload_n hx hb dX8_feed_41 rfl (lv_at hl 0 rfl) ?_
  refine pg_gr (b := tp) (ci := 8) (C := RX8) (T := TX8) (N := 18) hx hb hts wi8 hown hK hW f25 (by decide) rfl 5 (by decide) (hts (.fieldLink RX8 39 "IceHall" "tape" "LIceHall$Tape;") (by decide +kernel)) (fun _ h9 => h9) rfl f29 dX8_feed_42 ?_
  refine lv_iload hx hb dX8_feed_45 (lv_at hl 4 rfl) ?_
  refine pc_Vv (As := [.int e2]) (rest := []) F (c_X7_addWord l D cy A T23 tp by_ ((((0 + 4) + 4) + 4)) e2 f26 f30 f27 f28 y31 (by omega)) (cwV 1 hts gX8_feed_X7_addWord rfl rfl rfl (by decide +kernel) ⟨Nat.le_of_ble_eq_true rfl, Nat.le_of_ble_eq_true rfl⟩) hK hZ hA hW hS f26 (by decide) rfl rfl hl.1 rfl (Nat.le_of_ble_eq_true rfl) dX8_feed_47 ⟨Nat.le_of_ble_eq_true rfl, Nat.le_of_ble_eq_true rfl⟩ (fun T33 H locs p34 hW hS => ?_)
  obtain ⟨⟨ekT33, erT33, elT33⟩, p34⟩ := p34
  have f35 : sK T33 h = 8 := by rw [ekT33]; exact f25
  have f36 : sK T33 tp = 7 := by rw [ekT33]; exact f26
  have f37 : sK T33 by_ = 10 := by rw [ekT33]; exact f27
  have f38 : sL T33 by_ = 80 := by rw [elT33]; exact f28
  have f39 : sR T33 h 5 = some tp := by rw [erT33]; exact f29
  have f40 : sR T33 tp 0 = some by_ := by rw [erT33]; exact f30
  obtain ⟨y41, p34⟩ := p34
  refine lv_aload_n hx hb dX8_feed_50 rfl (lv_at hl 0 rfl) ?_
  refine pg_gr (b := tp) (ci := 8) (C := RX8) (T := TX8) (N := 18) hx hb hts wi8 hown hK hW f35 (by decide) rfl 5 (by decide) (hts (.fieldLink RX8 39 "IceHall" "tape" "LIceHall$Tape;") (by decide +kernel)) (fun _ h9 => h9) rfl f39 dX8_feed_51 ?_
  refine lv_iload hx hb dX8_feed_54 (lv_at hl 5 rfl) ?_
  refine pc_Vv (As := [.int f]) (rest := []) F (c_X7_addWord l D cy A T33 tp by_ (((((0 + 4) + 4) + 4) + 4)) f f36 f40 f37 f38 y41 (by omega)) (cwV 1 hts gX8_feed_X7_addWord rfl rfl rfl (by decide +kernel) ⟨Nat.le_of_ble_eq_true rfl, Nat.le_of_ble_eq_true rfl⟩) hK hZ hA hW hS f36 (by decide) rfl rfl hl.1 rfl (Nat.le_of_ble_eq_true rfl) dX8_feed_56 ⟨Nat.le_of_ble_eq_true rfl, Nat.le_of_ble_eq_true rfl⟩ (fun T43 H locs p44 hW hS => ?_)
  obtain ⟨⟨ekT43, erT43, elT43⟩, p44⟩ := p44
  have f45 : sK T43 h = 8 := by rw [ekT43]; exact f35
  have f46 : sK T43 tp = 7 := by rw [ekT43]; exact f36
  have f47 : sK T43 by_ = 10 := by rw [ekT43]; exact f37
  have f48 : sL T43 by_ = 80 := by rw [elT43]; exact f38
  have f49 : sR T43 h 5 = some tp := by rw [erT43]; exact f39
  have f50 : sR T43 tp 0 = some by_ := by rw [erT43]; exact f40
  obtain ⟨y51, p44⟩ := p44
  refine lv_aload_n hx hb dX8_feed_59 rfl (lv_at hl 0 rfl) ?_
  refine pg_gr (b := tp) (ci := 8) (C := RX8) (T := TX8) (N := 18) hx hb hts wi8 hown hK hW f45 (by decide) rfl 5 (by decide) (hts (.fieldLink RX8 39 "IceHall" "tape" "LIceHall$Tape;") (by decide +kernel)) (fun _ h9 => h9) rfl f49 dX8_feed_60 ?_
  refine pg_gi (ci := 7) (C := RX7) (T := TX7) (N := 2) hx hb hts wi7 hown hK hW f46 (by decide) rfl 1 (by decide) (hts (.fieldLink RX8 81 "IceHall$Tape" "size" "I") (by decide +kernel)) (fun _ h9 => h9) rfl dX8_feed_63 ?_
  rw [show sI T43 tp 1 = nI (((((0 + 4) + 4) + 4) + 4) + 4) from y51]
  exact pc_iret (v := nI (((((0 + 4) + 4) + 4) + 4) + 4)) (S := T43) hx hb hr hlk hK hZ hA hW hS (rfl) dX8_feed_66
set_option maxHeartbeats 4000000 in
set_option maxRecDepth 100000 in
theorem c_X5_peek (l : Launch) (D : va_G) (cy : Nat → ClassId) (A : Nat → Prop) (S : St) (h : Nat) (hk : sK S h = 5) (h1 : sI S h 1 = 0) (h2 : sI S h 2 = 0) : MI l yX5_peek wsX5_peek ({ frames := 0, cells := 0, slots := 0, locals := 0 } : Room) 0 0 D cy A [.ref h] S (fun r S1 => S1 = S ∧ r = (-1)) := by
  refine mt_start (cc := cX5_peek) (maxL := 1) (ret := (some .int)) (by decide) rfl (Nat.le_of_ble_eq_true rfl) ?_
  intro p e s m args below meth c hx hb hr hlk hml hown hnm hts hK hZ hA hW hS ls hl
  have hl : lv_has ls 1 [(0, .ref h)] := hl
  have hown : s.vm.findClass RX5 = some m.cls := hown
  have F : CallFix p m c cX5_peek 1 s args wsX5_peek RX5 := ⟨hx, hb, hml, hown, hts⟩
  have wi5 : ∀ w ∈ u_ws RX5 TX5 4, w ∈ wsX5_peek := by decide +kernel
  refine lv_aload_n hx hb dX5_peek_0 rfl (lv_at hl 0 rfl) ?_
  refine pg_gi (ci := 5) (C := RX5) (T := TX5) (N := 4) hx hb hts wi5 hown hK hW hk (by decide) rfl 2 (by decide) (hts (.fieldLink RX5 19 "IceHall$RightsReader" "place" "I") (by decide +kernel)) (fun _ h9 => h9) rfl dX5_peek_1 ?_
  rw [show sI S h 2 = 0 from h2]
  refine lv_if_lt (tgt := 46) hx hb dX5_peek_4 (by decide) (fun c1 => absurd c1 (by decide)) (fun c1 => ?_)
  refine lv_aload_n hx hb dX5_peek_7 rfl (lv_at hl 0 rfl) ?_
  refine pg_gi (ci := 5) (C := RX5) (T := TX5) (N := 4) hx hb hts wi5 hown hK hW hk (by decide) rfl 2 (by decide) (hts (.fieldLink RX5 19 "IceHall$RightsReader" "place" "I") (by decide +kernel)) (fun _ h9 => h9) rfl dX5_peek_8 ?_
  rw [show sI S h 2 = 0 from h2]
  refine lv_aload_n hx hb dX5_peek_11 rfl (lv_at hl 0 rfl) ?_
  refine pg_gi (ci := 5) (C := RX5) (T := TX5) (N := 4) hx hb hts wi5 hown hK hW hk (by decide) rfl 1 (by decide) (hts (.fieldLink RX5 15 "IceHall$RightsReader" "end" "I") (by decide +kernel)) (fun _ h9 => h9) rfl dX5_peek_12 ?_
  rw [show sI S h 1 = 0 from h1]
  refine lv_icmp_ge (tgt := 46) hx hb dX5_peek_15 (by decide) (fun c2 => ?_) (fun c2 => absurd (by decide) c2)
  refine lv_iconst (v := (-1)) hx hb dX5_peek_46 (by decide) ?_
  exact pc_iret (v := (-1)) (S := S) hx hb hr hlk hK hZ hA hW hS (⟨rfl, rfl⟩) dX5_peek_47
set_option maxHeartbeats 4000000 in
set_option maxRecDepth 100000 in
theorem c_X5_fail (l : Launch) (D : va_G) (cy : Nat → ClassId) (A : Nat → Prop) (S : St) (h : Nat) (hk : sK S h = 5) : MV l yX5_fail wsX5_fail ({ frames := 0, cells := 0, slots := 0, locals := 0 } : Room) 0 0 D cy A [.ref h, .int 1, .int 0] S (fun S1 => (sK S1 = sK S ∧ sR S1 = sR S ∧ sL S1 = sL S) ∧ sI S1 h 3 = 100 ∧ True) := by
  refine mt_start (cc := cX5_fail) (maxL := 3) (ret := none) (by decide) rfl (Nat.le_of_ble_eq_true rfl) ?_
  intro p e s m args below meth c hx hb hr hlk hml hown hnm hts hK hZ hA hW hS ls hl
  have hl : lv_has ls 3 [(0, .ref h), (1, .int 1), (2, .int 0)] := hl
  have hown : s.vm.findClass RX5 = some m.cls := hown
  have F : CallFix p m c cX5_fail 3 s args wsX5_fail RX5 := ⟨hx, hb, hml, hown, hts⟩
  have wi5 : ∀ w ∈ u_ws RX5 TX5 4, w ∈ wsX5_fail := by decide +kernel
  refine lv_aload_n hx hb dX5_fail_0 rfl (lv_at hl 0 rfl) ?_
  refine lv_bipush (v := 100) hx hb dX5_fail_1 (by decide) ?_
  refine lv_iload_n hx hb dX5_fail_3 rfl (lv_at hl 1 rfl) ?_
  refine lv_imul hx hb dX5_fail_4 ?_
  rw [show (100 * 1 : Int32) = 100 from by decide]
  refine lv_iload_n hx hb dX5_fail_5 rfl (lv_at hl 2 rfl) ?_
  refine lv_iadd hx hb dX5_fail_6 ?_
  rw [show (100 + 0 : Int32) = 100 from by decide]
  refine pg_pi (ci := 5) (C := RX5) (T := TX5) (N := 4) hx hb hts wi5 tyX5 tyX5_ok nmX5 hown hK hW hS hk (by decide) rfl 3 (by decide) (hts (.fieldLink RX5 22 "IceHall$RightsReader" "fault" "I") (by decide +kernel)) (fun _ h9 => h9) rfl rfl rfl dX5_fail_7 (fun H locs hW hS => ?_)
  have w1 : sI (stI S h 3 100) h 3 = 100 := iI_s
  exact pc_vret (S := stI S h 3 100) hx hb hr hlk hK hZ hA hW hS (⟨⟨rfl, rfl, rfl⟩, w1, trivial⟩) dX5_fail_10
set_option maxHeartbeats 4000000 in
set_option maxRecDepth 100000 in
theorem c_X5_readClause (l : Launch) (D : va_G) (cy : Nat → ClassId) (A : Nat → Prop) (S : St) (h g : Nat) (hk : sK S h = 5) (h1 : sI S h 1 = 0) (h2 : sI S h 2 = 0) : MI l yX5_readClause wsX5_readClause ({ frames := 1, cells := 0, slots := 0, locals := 22 } : Room) 0 0 D cy A [.ref h, .ref g] S (fun r S1 => (sK S1 = sK S ∧ sR S1 = sR S ∧ sL S1 = sL S) ∧ sI S1 h 3 = 100 ∧ r = 0) := by
  refine mt_start (cc := cX5_readClause) (maxL := 3) (ret := (some .int)) (by decide) rfl (Nat.le_of_ble_eq_true rfl) ?_
  intro p e s m args below meth c hx hb hr hlk hml hown hnm hts hK hZ hA hW hS ls hl
  have hl : lv_has ls 3 [(0, .ref h), (1, .ref g)] := hl
  have hown : s.vm.findClass RX5 = some m.cls := hown
  have F : CallFix p m c cX5_readClause 3 s args wsX5_readClause RX5 := ⟨hx, hb, hml, hown, hts⟩
  have wi5 : ∀ w ∈ u_ws RX5 TX5 4, w ∈ wsX5_readClause := by decide +kernel
  refine lv_aload_n hx hb dX5_readClause_0 rfl (lv_at hl 0 rfl) ?_
  refine pc_Vi (As := []) (rest := []) F (c_X5_peek l D cy A S h hk h1 h2) (cwV 0 hts gX5_readClause_X5_peek rfl rfl rfl (by decide +kernel) ⟨Nat.le_of_ble_eq_true rfl, Nat.le_of_ble_eq_true rfl⟩) hK hZ hA hW hS hk (by decide) rfl rfl hl.1 rfl (Nat.le_of_ble_eq_true rfl) dX5_readClause_1 ⟨Nat.le_of_ble_eq_true rfl, Nat.le_of_ble_eq_true rfl⟩ (fun v1 T2 H locs p3 hW hS => ?_)
  obtain ⟨eT2, p3⟩ := p3
  rw [eT2] at hW
  rw [show v1 = (-1) from p3]
  refine lv_istore_n (lv' := [(2, .int ((-1))), (0, .ref h), (1, .ref g)]) hx hb dX5_readClause_4 rfl hl (by decide) rfl (fun ls hl => ?_)
  refine lv_aload_n hx hb dX5_readClause_5 rfl (lv_at hl 1 rfl) ?_
  refine lv_dup hx hb dX5_readClause_6 rfl ?_
  refine pg_gi (ci := 5) (C := RX5) (T := TX5) (N := 4) hx hb hts wi5 hown hK hW hk (by decide) rfl 2 (by decide) (hts (.fieldLink RX5 19 "IceHall$RightsReader" "place" "I") (by decide +kernel)) (fun _ h9 => h9) rfl dX5_readClause_7 ?_
  rw [show sI S h 2 = 0 from h2]
  refine lv_iconst (v := 1) hx hb dX5_readClause_10 (by decide) ?_
  refine lv_iadd hx hb dX5_readClause_11 ?_
  rw [show (0 + 1 : Int32) = 1 from by decide]
  refine pg_pi (ci := 5) (C := RX5) (T := TX5) (N := 4) hx hb hts wi5 tyX5 tyX5_ok nmX5 hown hK hW hS hk (by decide) rfl 2 (by decide) (hts (.fieldLink RX5 19 "IceHall$RightsReader" "place" "I") (by decide +kernel)) (fun _ h9 => h9) rfl rfl rfl dX5_readClause_12 (fun H locs hW hS => ?_)
  have w4 : sI (stI S h 2 1) h 1 = 0 := (iI_k (by decide)).trans h1
  have w5 : sI (stI S h 2 1) h 2 = 1 := iI_s
  clear h1 h2
  refine lv_iload_n hx hb dX5_readClause_15 rfl (lv_at hl 0 rfl) ?_
  refine lv_lookup (off := 132) (tgt := 148) hx hb dX5_readClause_16 (by decide) (by decide) (by decide) ?_
  refine lv_aload_n hx hb dX5_readClause_148 rfl (lv_at hl 1 rfl) ?_
  refine lv_iconst (v := 1) hx hb dX5_readClause_149 (by decide) ?_
  refine lv_aload_n hx hb dX5_readClause_150 rfl (lv_at hl 1 rfl) ?_
  refine pg_gi (ci := 5) (C := RX5) (T := TX5) (N := 4) hx hb hts wi5 hown hK hW hk (by decide) rfl 2 (by decide) (hts (.fieldLink RX5 19 "IceHall$RightsReader" "place" "I") (by decide +kernel)) (fun _ h9 => h9) rfl dX5_readClause_151 ?_
  rw [show sI (stI S h 2 1) h 2 = 1 from w5]
  refine lv_iconst (v := 1) hx hb dX5_readClause_154 (by decide) ?_
  refine lv_isub hx hb dX5_readClause_155 ?_
  rw [show (1 - 1 : Int32) = 0 from by decide]
  refine pc_Vv (As := [.int 1, .int 0]) (rest := []) F (c_X5_fail l D cy A (stI S h 2 1) h hk) (cwV 2 hts gX5_readClause_X5_fail rfl rfl rfl (by decide +kernel) ⟨Nat.le_of_ble_eq_true rfl, Nat.le_of_ble_eq_true rfl⟩) hK hZ hA hW hS hk (by decide) rfl rfl hl.1 rfl (Nat.le_of_ble_eq_true rfl) dX5_readClause_156 ⟨Nat.le_of_ble_eq_true rfl, Nat.le_of_ble_eq_true rfl⟩ (fun T7 H locs p8 hW hS => ?_)
  obtain ⟨⟨ekT7, erT7, elT7⟩, p8⟩ := p8
  have f9 : sK T7 h = 5 := by rw [ekT7]; exact hk
  obtain ⟨y10, p8⟩ := p8
  refine lv_iconst (v := 0) hx hb dX5_readClause_159 (by decide) ?_
  exact pc_iret (v := 0) (S := T7) hx hb hr hlk hK hZ hA hW hS (⟨⟨ekT7, erT7, elT7⟩, y10, rfl⟩) dX5_readClause_160
set_option maxHeartbeats 4000000 in
set_option maxRecDepth 100000 in
theorem c_X5_readInto (l : Launch) (D : va_G) (cy : Nat → ClassId) (A : Nat → Prop) (S : St) (h g : Nat) (hk : sK S h = 5) (hg : sK S g = 4) : MI l yX5_readInto wsX5_readInto ({ frames := 2, cells := 0, slots := 0, locals := 44 } : Room) 0 0 D cy A [.ref h, .ref g, .int 0] S (fun r S1 => (sK S1 = sK S ∧ sR S1 = sR S ∧ sL S1 = sL S) ∧ r = 100) := by
  refine mt_start (cc := cX5_readInto) (maxL := 6) (ret := (some .int)) (by decide) rfl (Nat.le_of_ble_eq_true rfl) ?_
  intro p e s m args below meth c hx hb hr hlk hml hown hnm hts hK hZ hA hW hS ls hl
  have hl : lv_has ls 6 [(0, .ref h), (1, .ref g), (2, .int 0)] := hl
  have hown : s.vm.findClass RX5 = some m.cls := hown
  have F : CallFix p m c cX5_readInto 6 s args wsX5_readInto RX5 := ⟨hx, hb, hml, hown, hts⟩
  have wi5 : ∀ w ∈ u_ws RX5 TX5 4, w ∈ wsX5_readInto := by decide +kernel
  refine lv_aload_n hx hb dX5_readInto_0 rfl (lv_at hl 0 rfl) ?_
  refine lv_iload_n hx hb dX5_readInto_1 rfl (lv_at hl 2 rfl) ?_
  refine pg_pi (ci := 5) (C := RX5) (T := TX5) (N := 4) hx hb hts wi5 tyX5 tyX5_ok nmX5 hown hK hW hS hk (by decide) rfl 1 (by decide) (hts (.fieldLink RX5 15 "IceHall$RightsReader" "end" "I") (by decide +kernel)) (fun _ h9 => h9) rfl rfl rfl dX5_readInto_2 (fun H locs hW hS => ?_)
  have w1 : sI (stI S h 1 0) h 1 = 0 := iI_s
  refine lv_aload_n hx hb dX5_readInto_5 rfl (lv_at hl 0 rfl) ?_
  refine lv_iconst (v := 0) hx hb dX5_readInto_6 (by decide) ?_
  refine pg_pi (ci := 5) (C := RX5) (T := TX5) (N := 4) hx hb hts wi5 tyX5 tyX5_ok nmX5 hown hK hW hS hk (by decide) rfl 2 (by decide) (hts (.fieldLink RX5 19 "IceHall$RightsReader" "place" "I") (by decide +kernel)) (fun _ h9 => h9) rfl rfl rfl dX5_readInto_7 (fun H locs hW hS => ?_)
  have w2 : sI (stI (stI S h 1 0) h 2 0) h 1 = 0 := (iI_k (by decide)).trans w1
  have w3 : sI (stI (stI S h 1 0) h 2 0) h 2 = 0 := iI_s
  clear w1
  refine lv_aload_n hx hb dX5_readInto_10 rfl (lv_at hl 0 rfl) ?_
  refine lv_iconst (v := 0) hx hb dX5_readInto_11 (by decide) ?_
  refine pg_pi (ci := 5) (C := RX5) (T := TX5) (N := 4) hx hb hts wi5 tyX5 tyX5_ok nmX5 hown hK hW hS hk (by decide) rfl 3 (by decide) (hts (.fieldLink RX5 22 "IceHall$RightsReader" "fault" "I") (by decide +kernel)) (fun _ h9 => h9) rfl rfl rfl dX5_readInto_12 (fun H locs hW hS => ?_)
  have w4 : sI (stI (stI (stI S h 1 0) h 2 0) h 3 0) h 1 = 0 := (iI_k (by decide)).trans w2
  have w5 : sI (stI (stI (stI S h 1 0) h 2 0) h 3 0) h 2 = 0 := (iI_k (by decide)).trans w3
  have w6 : sI (stI (stI (stI S h 1 0) h 2 0) h 3 0) h 3 = 0 := iI_s
  clear w2 w3
  refine lv_iconst (v := 0) hx hb dX5_readInto_15 (by decide) ?_
  refine lv_istore_n (lv' := [(3, .int 0), (0, .ref h), (1, .ref g), (2, .int 0)]) hx hb dX5_readInto_16 rfl hl (by decide) rfl (fun ls hl => ?_)
  refine lv_iconst (v := 1) hx hb dX5_readInto_17 (by decide) ?_
  refine lv_istore (lv' := [(4, .int 1), (3, .int 0), (0, .ref h), (1, .ref g), (2, .int 0)]) hx hb dX5_readInto_18 hl (by decide) rfl (fun ls hl => ?_)
  refine lv_iconst (v := 0) hx hb dX5_readInto_20 (by decide) ?_
  refine lv_istore (lv' := [(5, .int 0), (4, .int 1), (3, .int 0), (0, .ref h), (1, .ref g), (2, .int 0)]) hx hb dX5_readInto_21 hl (by decide) rfl (fun ls hl => ?_)
  refine lv_iload hx hb dX5_readInto_23 (lv_at hl 0 rfl) ?_
  refine lv_bipush (v := 80) hx hb dX5_readInto_25 (by decide) ?_
  refine lv_icmp_gt (tgt := 70) hx hb dX5_readInto_27 (by decide) (fun c7 => absurd c7 (by decide)) (fun c7 => ?_)
  refine lv_iload hx hb dX5_readInto_30 (lv_at hl 1 rfl) ?_
  refine lv_if_eq (tgt := 70) hx hb dX5_readInto_32 (by decide) (fun c8 => absurd c8 (by decide)) (fun c8 => ?_)
  refine lv_iload_n hx hb dX5_readInto_35 rfl (lv_at hl 2 rfl) ?_
  refine lv_aload_n hx hb dX5_readInto_36 rfl (lv_at hl 3 rfl) ?_
  refine lv_aload_n hx hb dX5_readInto_37 rfl (lv_at hl 4 rfl) ?_
  refine pc_Vi (As := [.ref g]) (rest := [.int 0]) F (c_X5_readClause l D cy A (stI (stI (stI S h 1 0) h 2 0) h 3 0) h g hk w4 w5) (cwV 1 hts gX5_readInto_X5_readClause rfl rfl rfl (by decide +kernel) ⟨Nat.le_of_ble_eq_true rfl, Nat.le_of_ble_eq_true rfl⟩) hK hZ hA hW hS hk (by decide) rfl rfl hl.1 rfl (Nat.le_of_ble_eq_true rfl) dX5_readInto_38 ⟨Nat.le_of_ble_eq_true rfl, Nat.le_of_ble_eq_true rfl⟩ (fun v9 T10 H locs p11 hW hS => ?_)
  obtain ⟨⟨ekT10, erT10, elT10⟩, p11⟩ := p11
  have f12 : sK T10 h = 5 := by rw [ekT10]; exact hk
  have f13 : sK T10 g = 4 := by rw [ekT10]; exact hg
  obtain ⟨y14, p11⟩ := p11
  rw [show v9 = 0 from p11]
  refine lv_ior hx hb dX5_readInto_41 ?_
  rw [show (0 ||| 0 : Int32) = 0 from by decide]
  refine lv_istore_n (lv' := [(3, .int 0), (5, .int 0), (4, .int 1), (0, .ref h), (1, .ref g), (2, .int 0)]) hx hb dX5_readInto_42 rfl hl (by decide) rfl (fun ls hl => ?_)
  refine lv_aload_n hx hb dX5_readInto_43 rfl (lv_at hl 3 rfl) ?_
  refine pg_gi (ci := 5) (C := RX5) (T := TX5) (N := 4) hx hb hts wi5 hown hK hW f12 (by decide) rfl 3 (by decide) (hts (.fieldLink RX5 22 "IceHall$RightsReader" "fault" "I") (by decide +kernel)) (fun _ h9 => h9) rfl dX5_readInto_44 ?_
  rw [show sI T10 h 3 = 100 from y14]
  refine lv_if_ne (tgt := 61) hx hb dX5_readInto_47 (by decide) (fun c15 => ?_) (fun c15 => absurd c15 (by decide))
  refine lv_iconst (v := 0) hx hb dX5_readInto_61 (by decide) ?_
  refine lv_istore (lv' := [(4, .int 0), (3, .int 0), (5, .int 0), (0, .ref h), (1, .ref g), (2, .int 0)]) hx hb dX5_readInto_62 hl (by decide) rfl (fun ls hl => ?_)
  refine lv_iinc (v := 1) (lv' := [(5, .int 1), (4, .int 0), (3, .int 0), (0, .ref h), (1, .ref g), (2, .int 0)]) hx hb dX5_readInto_64 hl (k := 2) rfl (by decide) (by decide) rfl (fun ls hl => ?_)
  refine lv_goto (tgt := 23) hx hb dX5_readInto_67 (by decide) ?_
  refine lv_iload hx hb dX5_readInto_23 (lv_at hl 0 rfl) ?_
  refine lv_bipush (v := 80) hx hb dX5_readInto_25 (by decide) ?_
  refine lv_icmp_gt (tgt := 70) hx hb dX5_readInto_27 (by decide) (fun c16 => absurd c16 (by decide)) (fun c16 => ?_)
  refine lv_iload hx hb dX5_readInto_30 (lv_at hl 1 rfl) ?_
  refine lv_if_eq (tgt := 70) hx hb dX5_readInto_32 (by decide) (fun c17 => ?_) (fun c17 => absurd (by decide) c17)
  refine lv_iload_n hx hb dX5_readInto_70 rfl (lv_at hl 2 rfl) ?_
  refine lv_if_eq (tgt := 79) hx hb dX5_readInto_71 (by decide) (fun c18 => ?_) (fun c18 => absurd (by decide) c18)
  refine lv_aload_n hx hb dX5_readInto_79 rfl (lv_at hl 3 rfl) ?_
  refine pg_gi (ci := 5) (C := RX5) (T := TX5) (N := 4) hx hb hts wi5 hown hK hW f12 (by decide) rfl 3 (by decide) (hts (.fieldLink RX5 22 "IceHall$RightsReader" "fault" "I") (by decide +kernel)) (fun _ h9 => h9) rfl dX5_readInto_80 ?_
  rw [show sI T10 h 3 = 100 from y14]
  exact pc_iret (v := 100) (S := T10) hx hb hr hlk hK hZ hA hW hS (⟨⟨ekT10, erT10, elT10⟩, rfl⟩) dX5_readInto_83
set_option maxHeartbeats 4000000 in
set_option maxRecDepth 100000 in
theorem c_X8_rights (l : Launch) (D : va_G) (cy : Nat → ClassId) (A : Nat → Prop) (S : St) (h tp rd rif : Nat) (a b : Int32) (a_0 : sK S h = 8) (a_3 : sR S h 2 = some rif) (a_6 : sR S h 5 = some tp) (a_7 : sR S h 6 = some rd) (a_52 : sK S rif = 14) (a_53 : sL S rif = 6) (a_60 : sK S tp = 7) (a_64 : sI S tp 1 = 0) (a_65 : sK S rd = 5) (a_66 : sR S rd 0 = some tp) (a_113 : sI S h 9 = 0) (a_114 : sI S h 10 = 0) (a_115 : sI S h 11 = 200) (a_116 : sI S h 12 = 400) (a_117 : sI S h 13 = 3) (a_118 : sI S h 14 = 2) (a_119 : sI S h 15 = 0) (a_120 : sI S h 16 = 0) (a_121 : sI S h 17 = 0) : MI l yX8_rights wsX8_rights ({ frames := 3, cells := 1, slots := 6, locals := 80 } : Room) 1 6 D cy A [.ref h, .int a, .int b] S (fun r S1 => (r = 100 ∧ 0 ≤ a.toInt ∧ a.toInt < 6 ∧ b.toInt = 0) ∨ (r = (-1) ∧ ¬ (0 ≤ a.toInt ∧ a.toInt < 6 ∧ b.toInt = 0))) := by
  refine mt_start (cc := cX8_rights) (maxL := 5) (ret := (some .int)) (by decide) rfl (Nat.le_of_ble_eq_true rfl) ?_
  intro p e s m args below meth c hx hb hr hlk hml hown hnm hts hK hZ hA hW hS ls hl
  have hl : lv_has ls 5 [(0, .ref h), (1, .int a), (2, .int b)] := hl
  have hown : s.vm.findClass RX8 = some m.cls := hown
  have F : CallFix p m c cX8_rights 5 s args wsX8_rights RX8 := ⟨hx, hb, hml, hown, hts⟩
  have wi4 : ∀ w ∈ u_ws RX4 TX4 6, w ∈ wsX8_rights := by decide +kernel
  have wi7 : ∀ w ∈ u_ws RX7 TX7 2, w ∈ wsX8_rights := by decide +kernel
  have wi8 : ∀ w ∈ u_ws RX8 TX8 18, w ∈ wsX8_rights := by decide +kernel
  refine lv_iload_n hx hb dX8_rights_0 rfl (lv_at hl 1 rfl) ?_
  refine lv_bipush (v := 6) hx hb dX8_rights_1 (by decide) ?_
  refine pc_Si (As := [.int a, .int 6]) (rest := []) F (c_X8_isBelow l D cy A S a 6 ) (va_cwS 2 hts gX8_rights_X8_isBelow rfl rfl rfl (by decide +kernel) ⟨Nat.le_of_ble_eq_true rfl, Nat.le_of_ble_eq_true rfl⟩) hK hZ hA hW hS rfl hl.1 rfl (Nat.le_of_ble_eq_true rfl) dX8_rights_3 ⟨Nat.le_of_ble_eq_true rfl, Nat.le_of_ble_eq_true rfl⟩ (fun v1 T2 H locs p3 hW hS => ?_)
  obtain ⟨eT2, p3⟩ := p3
  rw [eT2] at hW
  have p3 := isb_lit (n := 6) rfl p3
  refine lv_if_eq (tgt := 24) hx hb dX8_rights_6 (by decide) (fun c4 => ?_) (fun c4 => ?_)
  · have c4i : Int32.toInt v1 = (0 : Int) := (i3_eq _ _).mp c4
    refine lv_iconst (v := (-1)) hx hb dX8_rights_24 (by decide) ?_
    refine W.widen (k := 1) (n := 6) (by decide) (by decide) ?_
    exact pc_iret (v := (-1)) (S := S) hx hb hr hlk hK hZ hA hW hS (Or.inr ⟨rfl, by omega⟩) dX8_rights_25
  · have c4i : ¬ (Int32.toInt v1 = (0 : Int)) := fun h9 => c4 ((i3_eq _ _).mpr h9)
    refine lv_iload_n hx hb dX8_rights_9 rfl (lv_at hl 2 rfl) ?_
    refine lv_if_lt (tgt := 24) hx hb dX8_rights_10 (by decide) (fun c5 => ?_) (fun c5 => ?_)
    · have c5i : Int32.toInt b < (0 : Int) := (i3_lt _ _).mp c5
      refine lv_iconst (v := (-1)) hx hb dX8_rights_24 (by decide) ?_
      refine W.widen (k := 1) (n := 6) (by decide) (by decide) ?_
      exact pc_iret (v := (-1)) (S := S) hx hb hr hlk hK hZ hA hW hS (Or.inr ⟨rfl, by omega⟩) dX8_rights_25
    · have c5i : ¬ (Int32.toInt b < (0 : Int)) := fun h9 => c5 ((i3_lt _ _).mpr h9)
      refine lv_iload_n hx hb dX8_rights_13 rfl (lv_at hl 2 rfl) ?_
      refine lv_aload_n hx hb dX8_rights_14 rfl (lv_at hl 0 rfl) ?_
      refine pg_gr (b := tp) (ci := 8) (C := RX8) (T := TX8) (N := 18) hx hb hts wi8 hown hK hW a_0 (by decide) rfl 5 (by decide) (hts (.fieldLink RX8 39 "IceHall" "tape" "LIceHall$Tape;") (by decide +kernel)) (fun _ h9 => h9) rfl a_6 dX8_rights_15 ?_
      refine pg_gi (ci := 7) (C := RX7) (T := TX7) (N := 2) hx hb hts wi7 hown hK hW a_60 (by decide) rfl 1 (by decide) (hts (.fieldLink RX8 81 "IceHall$Tape" "size" "I") (by decide +kernel)) (fun _ h9 => h9) rfl dX8_rights_18 ?_
      rw [show sI S tp 1 = 0 from a_64]
      refine lv_icmp_le (tgt := 26) hx hb dX8_rights_21 (by decide) (fun c6 => ?_) (fun c6 => ?_)
      · have c6i : Int32.toInt b ≤ (0 : Int) := (i3_le _ _).mp c6
        have ha0 : b = 0 := (i3_eq _ _).mpr (by show _ = (0 : Int); omega)
        subst ha0
        refine pg_new (ci := 4) (C := RX4) (T := TX4) (N := 6) hx hb hts wi4 tyX4 tyX4_ok hown (hts (.classLink RX8 19 RX4) (by decide +kernel)) (hts (.instantiable RX4 6) (by decide +kernel)) (hts (.initialized RX4) (by decide +kernel)) hK hW hS hA (by decide) rfl df_4 (Nat.le_of_ble_eq_true rfl) (Nat.le_of_ble_eq_true rfl) dX8_rights_26 (fun q7 H hq7 hW hS => ?_)
        obtain ⟨S8, eS8⟩ : ∃ T : St, T = stN S q7 4 0 := ⟨_, rfl⟩
        rw [← eS8] at hW
        obtain ⟨k9, d10⟩ := fk_N (a := h) eS8 a_0 (by decide) hq7
        obtain ⟨k11, d12⟩ := fk_N (a := rif) eS8 a_52 (by decide) hq7
        obtain ⟨k13, d14⟩ := fk_N (a := tp) eS8 a_60 (by decide) hq7
        obtain ⟨k15, d16⟩ := fk_N (a := rd) eS8 a_65 (by decide) hq7
        have r17 : sR S8 h 2 = some rif := by rw [eS8, rN, if_neg d10]; exact a_3
        have r18 : sR S8 h 5 = some tp := by rw [eS8, rN, if_neg d10]; exact a_6
        have r19 : sR S8 h 6 = some rd := by rw [eS8, rN, if_neg d10]; exact a_7
        have r20 : sR S8 rd 0 = some tp := by rw [eS8, rN, if_neg d16]; exact a_66
        have n21 : sL S8 rif = 6 := by rw [eS8, lNw, if_neg d12]; exact a_53
        have w22 : sI S8 tp 1 = 0 := by rw [eS8, iN, if_neg d14]; exact a_64
        have w23 : sI S8 h 9 = 0 := by rw [eS8, iN, if_neg d10]; exact a_113
        have w24 : sI S8 h 10 = 0 := by rw [eS8, iN, if_neg d10]; exact a_114
        have w25 : sI S8 h 11 = 200 := by rw [eS8, iN, if_neg d10]; exact a_115
        have w26 : sI S8 h 12 = 400 := by rw [eS8, iN, if_neg d10]; exact a_116
        have w27 : sI S8 h 13 = 3 := by rw [eS8, iN, if_neg d10]; exact a_117
        have w28 : sI S8 h 14 = 2 := by rw [eS8, iN, if_neg d10]; exact a_118
        have w29 : sI S8 h 15 = 0 := by rw [eS8, iN, if_neg d10]; exact a_119
        have w30 : sI S8 h 16 = 0 := by rw [eS8, iN, if_neg d10]; exact a_120
        have w31 : sI S8 h 17 = 0 := by rw [eS8, iN, if_neg d10]; exact a_121
        have w32 : sI S8 q7 0 = 0 := by rw [eS8, iN, if_pos rfl]
        have w33 : sI S8 q7 1 = 0 := by rw [eS8, iN, if_pos rfl]
        have w34 : sI S8 q7 2 = 0 := by rw [eS8, iN, if_pos rfl]
        have w35 : sI S8 q7 3 = 0 := by rw [eS8, iN, if_pos rfl]
        have w36 : sI S8 q7 4 = 0 := by rw [eS8, iN, if_pos rfl]
        have w37 : sI S8 q7 5 = 0 := by rw [eS8, iN, if_pos rfl]
        have k38 : sK S8 q7 = 4 := by rw [eS8, kN, if_pos rfl]
        refine lv_dup hx hb dX8_rights_29 rfl ?_
        refine pc_INv (As := []) (rest := [.ref q7]) F (c_X4_init l D cy A S8 q7 k38) ⟨va_cnB 0 hts gX8_rights_X4_init_n25 rfl rfl rfl hZ.2.2.2.2.1 (hts (.initialized RX4) (by decide +kernel)) (by decide +kernel) ⟨Nat.le_of_ble_eq_true rfl, Nat.le_of_ble_eq_true rfl⟩, rfl, hts (.instanceMethod yX4_init) (by decide +kernel)⟩ hK hZ hA hW hS rfl hl.1 rfl (Nat.le_of_ble_eq_true rfl) dX8_rights_30 ⟨Nat.le_of_ble_eq_true rfl, Nat.le_of_ble_eq_true rfl⟩ (fun T40 H locs p41 hW hS => ?_)
        obtain ⟨kxT40, p41⟩ := p41
        have f42 := kxT40 h (ni_c d10 ni_0) (lt16 k9 (by decide))
        have f43 : sK T40 h = 8 := by rw [f42.1]; exact k9
        have f44 : sR T40 h 2 = some rif := by rw [f42.2.2.1]; exact r17
        have f45 : sR T40 h 5 = some tp := by rw [f42.2.2.1]; exact r18
        have f46 : sR T40 h 6 = some rd := by rw [f42.2.2.1]; exact r19
        have f47 : sI T40 h 9 = 0 := by rw [f42.2.1]; exact w23
        have f48 : sI T40 h 10 = 0 := by rw [f42.2.1]; exact w24
        have f49 : sI T40 h 11 = 200 := by rw [f42.2.1]; exact w25
        have f50 : sI T40 h 12 = 400 := by rw [f42.2.1]; exact w26
        have f51 : sI T40 h 13 = 3 := by rw [f42.2.1]; exact w27
        have f52 : sI T40 h 14 = 2 := by rw [f42.2.1]; exact w28
        have f53 : sI T40 h 15 = 0 := by rw [f42.2.1]; exact w29
        have f54 : sI T40 h 16 = 0 := by rw [f42.2.1]; exact w30
        have f55 : sI T40 h 17 = 0 := by rw [f42.2.1]; exact w31
        clear f42
        have f56 := kxT40 rif (ni_c d12 ni_0) (lt16 k11 (by decide))
        have f57 : sK T40 rif = 14 := by rw [f56.1]; exact k11
        have f58 : sL T40 rif = 6 := by rw [f56.2.2.2.2]; exact n21
        clear f56
        have f59 := kxT40 tp (ni_c d14 ni_0) (lt16 k13 (by decide))
        have f60 : sK T40 tp = 7 := by rw [f59.1]; exact k13
        have f61 : sI T40 tp 1 = 0 := by rw [f59.2.1]; exact w22
        clear f59
        have f62 := kxT40 rd (ni_c d16 ni_0) (lt16 k15 (by decide))
        have f63 : sK T40 rd = 5 := by rw [f62.1]; exact k15
        have f64 : sR T40 rd 0 = some tp := by rw [f62.2.2.1]; exact r20
        clear f62
        obtain ⟨y65, p41⟩ := p41
        obtain ⟨y66, p41⟩ := p41
        obtain ⟨y67, p41⟩ := p41
        obtain ⟨y68, p41⟩ := p41
        obtain ⟨y69, p41⟩ := p41
        obtain ⟨y70, p41⟩ := p41
        have y71 := p41
        clear k9 k11 k13 k15 k38 r17 r18 r19 r20 n21 w22 w23 w24 w25 w26 w27 w28 w29 w30 w31 w32 w33 w34 w35 w36 w37
        refine lv_astore_n (lv' := [(3, .ref q7), (0, .ref h), (1, .int a), (2, .int 0)]) hx hb dX8_rights_33 rfl hl (by decide) rfl (fun ls hl => ?_)
        refine lv_aload_n hx hb dX8_rights_34 rfl (lv_at hl 1 rfl) ?_
        refine pg_gr (b := rd) (ci := 8) (C := RX8) (T := TX8) (N := 18) hx hb hts wi8 hown hK hW f43 (by decide) rfl 6 (by decide) (hts (.fieldLink RX8 48 "IceHall" "reader" "LIceHall$RightsReader;") (by decide +kernel)) (fun _ h9 => h9) rfl f46 dX8_rights_35 ?_
        refine lv_aload_n hx hb dX8_rights_38 rfl (lv_at hl 0 rfl) ?_
        refine lv_iload_n hx hb dX8_rights_39 rfl (lv_at hl 3 rfl) ?_
        refine pc_Vi (As := [.ref q7, .int 0]) (rest := []) F (c_X5_readInto l D cy A T40 rd q7 f63 y65) (cwV 2 hts gX8_rights_X5_readInto rfl rfl rfl (by decide +kernel) ⟨Nat.le_of_ble_eq_true rfl, Nat.le_of_ble_eq_true rfl⟩) hK hZ hA hW hS f63 (by decide) rfl rfl hl.1 rfl (Nat.le_of_ble_eq_true rfl) dX8_rights_40 ⟨Nat.le_of_ble_eq_true rfl, Nat.le_of_ble_eq_true rfl⟩ (fun v72 T73 H locs p74 hW hS => ?_)
        obtain ⟨⟨ekT73, erT73, elT73⟩, p74⟩ := p74
        have f75 : sK T73 h = 8 := by rw [ekT73]; exact f43
        have f76 : sK T73 rif = 14 := by rw [ekT73]; exact f57
        have f77 : sK T73 tp = 7 := by rw [ekT73]; exact f60
        have f78 : sK T73 rd = 5 := by rw [ekT73]; exact f63
        have f79 : sK T73 q7 = 4 := by rw [ekT73]; exact y65
        have f80 : sL T73 rif = 6 := by rw [elT73]; exact f58
        have f81 : sR T73 h 2 = some rif := by rw [erT73]; exact f44
        have f82 : sR T73 h 5 = some tp := by rw [erT73]; exact f45
        have f83 : sR T73 h 6 = some rd := by rw [erT73]; exact f46
        have f84 : sR T73 rd 0 = some tp := by rw [erT73]; exact f64
        rw [show v72 = 100 from p74]
        refine lv_istore (lv' := [(4, .int 100), (3, .ref q7), (0, .ref h), (1, .int a), (2, .int 0)]) hx hb dX8_rights_43 hl (by decide) rfl (fun ls hl => ?_)
        refine lv_aload_n hx hb dX8_rights_45 rfl (lv_at hl 2 rfl) ?_
        refine pg_gr (b := tp) (ci := 8) (C := RX8) (T := TX8) (N := 18) hx hb hts wi8 hown hK hW f75 (by decide) rfl 5 (by decide) (hts (.fieldLink RX8 39 "IceHall" "tape" "LIceHall$Tape;") (by decide +kernel)) (fun _ h9 => h9) rfl f82 dX8_rights_46 ?_
        refine lv_iconst (v := 0) hx hb dX8_rights_49 (by decide) ?_
        refine pg_pi (ci := 7) (C := RX7) (T := TX7) (N := 2) hx hb hts wi7 tyX7 tyX7_ok nmX7 hown hK hW hS f77 (by decide) rfl 1 (by decide) (hts (.fieldLink RX8 81 "IceHall$Tape" "size" "I") (by decide +kernel)) (fun _ h9 => h9) rfl rfl rfl dX8_rights_50 (fun H locs hW hS => ?_)
        have w85 : sI (stI T73 tp 1 0) tp 1 = 0 := iI_s
        refine lv_iload hx hb dX8_rights_53 (lv_at hl 0 rfl) ?_
        refine lv_if_ne (tgt := 65) hx hb dX8_rights_55 (by decide) (fun c86 => ?_) (fun c86 => absurd c86 (by decide))
        refine lv_iload hx hb dX8_rights_65 (lv_at hl 0 rfl) ?_
        exact pc_iret (v := 100) (S := stI T73 tp 1 0) hx hb hr hlk hK hZ hA hW hS (Or.inl ⟨rfl, by have h0 : (0 : Int32).toInt = 0 := rfl; omega⟩) dX8_rights_67
      · have c6i : ¬ (Int32.toInt b ≤ (0 : Int)) := fun h9 => c6 ((i3_le _ _).mpr h9)
        refine lv_iconst (v := (-1)) hx hb dX8_rights_24 (by decide) ?_
        refine W.widen (k := 1) (n := 6) (by decide) (by decide) ?_
        exact pc_iret (v := (-1)) (S := S) hx hb hr hlk hK hZ hA hW hS (Or.inr ⟨rfl, by omega⟩) dX8_rights_25
