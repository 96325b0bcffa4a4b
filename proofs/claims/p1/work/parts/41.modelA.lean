set_option maxHeartbeats 4000000 in
set_option maxRecDepth 100000 in
theorem c_X9_types (l : Launch) (D : va_G) (cy : Nat → ClassId) (A : Nat → Prop) (S : St) (h m_tape : Nat) (n : Nat) (a : Int32) (hk : sK S h = 9) (r_0 : sR S h 0 = some m_tape) (k_0 : sK S m_tape = 10) (n_0 : sL S m_tape = 80) (hs : sI S h 1 = nI n) (hle : n + 4 ≤ 80) : MV l yX9_types wsX9_types ({ frames := 0, cells := 0, slots := 0, locals := 0 } : Room) 0 0 D cy A [.ref h, .int a] S (fun S1 => (sK S1 = sK S ∧ sR S1 = sR S ∧ sL S1 = sL S) ∧ sI S1 h 1 = nI (n + 4) ∧ True) := by
  refine mt_start (cc := cX9_types) (maxL := 3) (ret := none) (by decide) rfl (Nat.le_of_ble_eq_true rfl) ?_
  intro p e s m args below meth c hx hb hr hlk hml hown hnm hts hK hZ hA hW hS ls hl
  have hl : lv_has ls 3 [(0, .ref h), (1, .int a)] := hl
  have hown : s.vm.findClass RX9 = some m.cls := hown
  have F : CallFix p m c cX9_types 3 s args wsX9_types RX9 := ⟨hx, hb, hml, hown, hts⟩
  have wi9 : ∀ w ∈ u_ws RX9 TX9 63, w ∈ wsX9_types := by decide +kernel
  refine lv_iconst (v := 3) hx hb dX9_types_0 (by decide) ?_
  refine lv_istore_n (lv' := [(2, .int 3), (0, .ref h), (1, .int a)]) hx hb dX9_types_1 rfl hl (by decide) rfl (fun ls hl => ?_)
  refine lv_iload_n hx hb dX9_types_2 rfl (lv_at hl 0 rfl) ?_
  refine lv_if_lt (tgt := 38) hx hb dX9_types_3 (by decide) (fun c1 => absurd c1 (by decide)) (fun c1 => ?_)
  refine lv_aload_n hx hb dX9_types_6 rfl (lv_at hl 1 rfl) ?_
  refine pg_gr (b := m_tape) (ci := 9) (C := RX9) (T := TX9) (N := 63) hx hb hts wi9 hown hK hW hk (by decide) rfl 0 (by decide) (hts (.fieldLink RX9 7 "IceHallModel" "tape" "[B") (by decide +kernel)) (fun _ h9 => h9) rfl r_0 dX9_types_7 ?_
  refine lv_aload_n hx hb dX9_types_10 rfl (lv_at hl 1 rfl) ?_
  refine pg_gi (ci := 9) (C := RX9) (T := TX9) (N := 63) hx hb hts wi9 hown hK hW hk (by decide) rfl 1 (by decide) (hts (.fieldLink RX9 141 "IceHallModel" "taped" "I") (by decide +kernel)) (fun _ h9 => h9) rfl dX9_types_11 ?_
  rw [show sI S h 1 = nI n from hs]
  refine lv_iload_n hx hb dX9_types_14 rfl (lv_at hl 2 rfl) ?_
  refine lv_bipush (v := 8) hx hb dX9_types_15 (by decide) ?_
  refine lv_iload_n hx hb dX9_types_17 rfl (lv_at hl 0 rfl) ?_
  refine lv_imul hx hb dX9_types_18 ?_
  rw [show (8 * 3 : Int32) = 24 from by decide]
  refine lv_ishr hx hb dX9_types_19 ?_
  refine lv_i2b (v := Int8.toInt32 (Int32.toInt8 (a >>> (24 &&& 31)))) hx hb dX9_types_20 rfl ?_
  refine pg_bast hx hb hK hW hS k_0 (by rw [show sL S m_tape = 80 from n_0]; exact vp_in_nI (by omega) (by decide)) dX9_types_21 (fun H locs hW hS => ?_)
  have w2 : sI (stI S m_tape (Int32.toNatClampNeg (nI n)) (vp_nar .byte (Int8.toInt32 (Int32.toInt8 (a >>> (24 &&& 31)))))) h 1 = nI n := (iI_a (fk_ne hk k_0 (by decide))).trans hs
  refine lv_aload_n hx hb dX9_types_22 rfl (lv_at hl 1 rfl) ?_
  refine lv_aload_n hx hb dX9_types_23 rfl (lv_at hl 1 rfl) ?_
  refine pg_gi (ci := 9) (C := RX9) (T := TX9) (N := 63) hx hb hts wi9 hown hK hW hk (by decide) rfl 1 (by decide) (hts (.fieldLink RX9 141 "IceHallModel" "taped" "I") (by decide +kernel)) (fun _ h9 => h9) rfl dX9_types_24 ?_
  rw [show sI (stI S m_tape (Int32.toNatClampNeg (nI n)) (vp_nar .byte (Int8.toInt32 (Int32.toInt8 (a >>> (24 &&& 31)))))) h 1 = nI n from w2]
  refine lv_iconst (v := 1) hx hb dX9_types_27 (by decide) ?_
  refine lv_iadd hx hb dX9_types_28 ?_
  rw [show (nI n) + 1 = nI (n + 1) from nI_add _ _]
  refine pg_pi (ci := 9) (C := RX9) (T := TX9) (N := 63) hx hb hts wi9 tyX9 tyX9_ok nmX9 hown hK hW hS hk (by decide) rfl 1 (by decide) (hts (.fieldLink RX9 141 "IceHallModel" "taped" "I") (by decide +kernel)) (fun _ h9 => h9) rfl rfl rfl dX9_types_29 (fun H locs hW hS => ?_)
  have w3 : sI (stI (stI S m_tape (Int32.toNatClampNeg (nI n)) (vp_nar .byte (Int8.toInt32 (Int32.toInt8 (a >>> (24 &&& 31)))))) h 1 (nI (n + 1))) h 1 = nI (n + 1) := iI_s
  clear w2
  refine lv_iinc (v := 2) (lv' := [(2, .int 2), (0, .ref h), (1, .int a)]) hx hb dX9_types_32 hl (k := 0) rfl (by decide) (by decide) rfl (fun ls hl => ?_)
  refine lv_goto (tgt := 2) hx hb dX9_types_35 (by decide) ?_
  refine lv_iload_n hx hb dX9_types_2 rfl (lv_at hl 0 rfl) ?_
  refine lv_if_lt (tgt := 38) hx hb dX9_types_3 (by decide) (fun c4 => absurd c4 (by decide)) (fun c4 => ?_)
  refine lv_aload_n hx hb dX9_types_6 rfl (lv_at hl 1 rfl) ?_
  refine pg_gr (b := m_tape) (ci := 9) (C := RX9) (T := TX9) (N := 63) hx hb hts wi9 hown hK hW hk (by decide) rfl 0 (by decide) (hts (.fieldLink RX9 7 "IceHallModel" "tape" "[B") (by decide +kernel)) (fun _ h9 => h9) rfl r_0 dX9_types_7 ?_
  refine lv_aload_n hx hb dX9_types_10 rfl (lv_at hl 1 rfl) ?_
  refine pg_gi (ci := 9) (C := RX9) (T := TX9) (N := 63) hx hb hts wi9 hown hK hW hk (by decide) rfl 1 (by decide) (hts (.fieldLink RX9 141 "IceHallModel" "taped" "I") (by decide +kernel)) (fun _ h9 => h9) rfl dX9_types_11 ?_
  rw [show sI (stI (stI S m_tape (Int32.toNatClampNeg (nI n)) (vp_nar .byte (Int8.toInt32 (Int32.toInt8 (a >>> (24 &&& 31)))))) h 1 (nI (n + 1))) h 1 = nI (n + 1) from w3]
  refine lv_iload_n hx hb dX9_types_14 rfl (lv_at hl 2 rfl) ?_
  refine lv_bipush (v := 8) hx hb dX9_types_15 (by decide) ?_
  refine lv_iload_n hx hb dX9_types_17 rfl (lv_at hl 0 rfl) ?_
  refine lv_imul hx hb dX9_types_18 ?_
  rw [show (8 * 2 : Int32) = 16 from by decide]
  refine lv_ishr hx hb dX9_types_19 ?_
  refine lv_i2b (v := Int8.toInt32 (Int32.toInt8 (a >>> (16 &&& 31)))) hx hb dX9_types_20 rfl ?_
  refine pg_bast hx hb hK hW hS k_0 (by rw [show sL (stI (stI S m_tape (Int32.toNatClampNeg (nI n)) (vp_nar .byte (Int8.toInt32 (Int32.toInt8 (a >>> (24 &&& 31)))))) h 1 (nI (n + 1))) m_tape = 80 from n_0]; exact vp_in_nI (by omega) (by decide)) dX9_types_21 (fun H locs hW hS => ?_)
  have w5 : sI (stI (stI (stI S m_tape (Int32.toNatClampNeg (nI n)) (vp_nar .byte (Int8.toInt32 (Int32.toInt8 (a >>> (24 &&& 31)))))) h 1 (nI (n + 1))) m_tape (Int32.toNatClampNeg (nI (n + 1))) (vp_nar .byte (Int8.toInt32 (Int32.toInt8 (a >>> (16 &&& 31)))))) h 1 = nI (n + 1) := (iI_a (fk_ne hk k_0 (by decide))).trans w3
  clear w3
  refine lv_aload_n hx hb dX9_types_22 rfl (lv_at hl 1 rfl) ?_
  refine lv_aload_n hx hb dX9_types_23 rfl (lv_at hl 1 rfl) ?_
  refine pg_gi (ci := 9) (C := RX9) (T := TX9) (N := 63) hx hb hts wi9 hown hK hW hk (by decide) rfl 1 (by decide) (hts (.fieldLink RX9 141 "IceHallModel" "taped" "I") (by decide +kernel)) (fun _ h9 => h9) rfl dX9_types_24 ?_
  rw [show sI (stI (stI (stI S m_tape (Int32.toNatClampNeg (nI n)) (vp_nar .byte (Int8.toInt32 (Int32.toInt8 (a >>> (24 &&& 31)))))) h 1 (nI (n + 1))) m_tape (Int32.toNatClampNeg (nI (n + 1))) (vp_nar .byte (Int8.toInt32 (Int32.toInt8 (a >>> (16 &&& 31)))))) h 1 = nI (n + 1) from w5]
  refine lv_iconst (v := 1) hx hb dX9_types_27 (by decide) ?_
  refine lv_iadd hx hb dX9_types_28 ?_
  rw [show (nI (n + 1)) + 1 = nI ((n + 1) + 1) from nI_add _ _]
  refine pg_pi (ci := 9) (C := RX9) (T := TX9) (N := 63) hx hb hts wi9 tyX9 tyX9_ok nmX9 hown hK hW hS hk (by decide) rfl 1 (by decide) (hts (.fieldLink RX9 141 "IceHallModel" "taped" "I") (by decide +kernel)) (fun _ h9 => h9) rfl rfl rfl dX9_types_29 (fun H locs hW hS => ?_)
  have w6 : sI (stI (stI (stI (stI S m_tape (Int32.toNatClampNeg (nI n)) (vp_nar .byte (Int8.toInt32 (Int32.toInt8 (a >>> (24 &&& 31)))))) h 1 (nI (n + 1))) m_tape (Int32.toNatClampNeg (nI (n + 1))) (vp_nar .byte (Int8.toInt32 (Int32.toInt8 (a >>> (16 &&& 31)))))) h 1 (nI ((n + 1) + 1))) h 1 = nI ((n + 1) + 1) := iI_s
  clear w5
  refine lv_iinc (v := 1) (lv' := [(2, .int 1), (0, .ref h), (1, .int a)]) hx hb dX9_types_32 hl (k := 0) rfl (by decide) (by decide) rfl (fun ls hl => ?_)
  refine lv_goto (tgt := 2) hx hb dX9_types_35 (by decide) ?_
  refine lv_iload_n hx hb dX9_types_2 rfl (lv_at hl 0 rfl) ?_
  refine lv_if_lt (tgt := 38) hx hb dX9_types_3 (by decide) (fun c7 => absurd c7 (by decide)) (fun c7 => ?_)
  refine lv_aload_n hx hb dX9_types_6 rfl (lv_at hl 1 rfl) ?_
  refine pg_gr (b := m_tape) (ci := 9) (C := RX9) (T := TX9) (N := 63) hx hb hts wi9 hown hK hW hk (by decide) rfl 0 (by decide) (hts (.fieldLink RX9 7 "IceHallModel" "tape" "[B") (by decide +kernel)) (fun _ h9 => h9) rfl r_0 dX9_types_7 ?_
  refine lv_aload_n hx hb dX9_types_10 rfl (lv_at hl 1 rfl) ?_
  refine pg_gi (ci := 9) (C := RX9) (T := TX9) (N := 63) hx hb hts wi9 hown hK hW hk (by decide) rfl 1 (by decide) (hts (.fieldLink RX9 141 "IceHallModel" "taped" "I") (by decide +kernel)) (fun _ h9 => h9) rfl dX9_types_11 ?_
  rw [show sI (stI (stI (stI (stI S m_tape (Int32.toNatClampNeg (nI n)) (vp_nar .byte (Int8.toInt32 (Int32.toInt8 (a >>> (24 &&& 31)))))) h 1 (nI (n + 1))) m_tape (Int32.toNatClampNeg (nI (n + 1))) (vp_nar .byte (Int8.toInt32 (Int32.toInt8 (a >>> (16 &&& 31)))))) h 1 (nI ((n + 1) + 1))) h 1 = nI ((n + 1) + 1) from w6]
  refine lv_iload_n hx hb dX9_types_14 rfl (lv_at hl 2 rfl) ?_
  refine lv_bipush (v := 8) hx hb dX9_types_15 (by decide) ?_
  refine lv_iload_n hx hb dX9_types_17 rfl (lv_at hl 0 rfl) ?_
  refine lv_imul hx hb dX9_types_18 ?_
  rw [show (8 * 1 : Int32) = 8 from by decide]
  refine lv_ishr hx hb dX9_types_19 ?_
  refine lv_i2b (v := Int8.toInt32 (Int32.toInt8 (a >>> (8 &&& 31)))) hx hb dX9_types_20 rfl ?_
  refine pg_bast hx hb hK hW hS k_0 (by rw [show sL (stI (stI (stI (stI S m_tape (Int32.toNatClampNeg (nI n)) (vp_nar .byte (Int8.toInt32 (Int32.toInt8 (a >>> (24 &&& 31)))))) h 1 (nI (n + 1))) m_tape (Int32.toNatClampNeg (nI (n + 1))) (vp_nar .byte (Int8.toInt32 (Int32.toInt8 (a >>> (16 &&& 31)))))) h 1 (nI ((n + 1) + 1))) m_tape = 80 from n_0]; exact vp_in_nI (by omega) (by decide)) dX9_types_21 (fun H locs hW hS => ?_)
  have w8 : sI (stI (stI (stI (stI (stI S m_tape (Int32.toNatClampNeg (nI n)) (vp_nar .byte (Int8.toInt32 (Int32.toInt8 (a >>> (24 &&& 31)))))) h 1 (nI (n + 1))) m_tape (Int32.toNatClampNeg (nI (n + 1))) (vp_nar .byte (Int8.toInt32 (Int32.toInt8 (a >>> (16 &&& 31)))))) h 1 (nI ((n + 1) + 1))) m_tape (Int32.toNatClampNeg (nI ((n + 1) + 1))) (vp_nar .byte (Int8.toInt32 (Int32.toInt8 (a >>> (8 &&& 31)))))) h 1 = nI ((n + 1) + 1) := (iI_a (fk_ne hk k_0 (by decide))).trans w6
  clear w6
  refine lv_aload_n hx hb dX9_types_22 rfl (lv_at hl 1 rfl) ?_
  refine lv_aload_n hx hb dX9_types_23 rfl (lv_at hl 1 rfl) ?_
  refine pg_gi (ci := 9) (C := RX9) (T := TX9) (N := 63) hx hb hts wi9 hown hK hW hk (by decide) rfl 1 (by decide) (hts (.fieldLink RX9 141 "IceHallModel" "taped" "I") (by decide +kernel)) (fun _ h9 => h9) rfl dX9_types_24 ?_
  rw [show sI (stI (stI (stI (stI (stI S m_tape (Int32.toNatClampNeg (nI n)) (vp_nar .byte (Int8.toInt32 (Int32.toInt8 (a >>> (24 &&& 31)))))) h 1 (nI (n + 1))) m_tape (Int32.toNatClampNeg (nI (n + 1))) (vp_nar .byte (Int8.toInt32 (Int32.toInt8 (a >>> (16 &&& 31)))))) h 1 (nI ((n + 1) + 1))) m_tape (Int32.toNatClampNeg (nI ((n + 1) + 1))) (vp_nar .byte (Int8.toInt32 (Int32.toInt8 (a >>> (8 &&& 31)))))) h 1 = nI ((n + 1) + 1) from w8]
  refine lv_iconst (v := 1) hx hb dX9_types_27 (by decide) ?_
  refine lv_iadd hx hb dX9_types_28 ?_
  rw [show (nI ((n + 1) + 1)) + 1 = nI (((n + 1) + 1) + 1) from nI_add _ _]
  refine pg_pi (ci := 9) (C := RX9) (T := TX9) (N := 63) hx hb hts wi9 tyX9 tyX9_ok nmX9 hown hK hW hS hk (by decide) rfl 1 (by decide) (hts (.fieldLink RX9 141 "IceHallModel" "taped" "I") (by decide +kernel)) (fun _ h9 => h9) rfl rfl rfl dX9_types_29 (fun H locs hW hS => ?_)
  have w9 : sI (stI (stI (stI (stI (stI (stI S m_tape (Int32.toNatClampNeg (nI n)) (vp_nar .byte (Int8.toInt32 (Int32.toInt8 (a >>> (24 &&& 31)))))) h 1 (nI (n + 1))) m_tape (Int32.toNatClampNeg (nI (n + 1))) (vp_nar .byte (Int8.toInt32 (Int32.toInt8 (a >>> (16 &&& 31)))))) h 1 (nI ((n + 1) + 1))) m_tape (Int32.toNatClampNeg (nI ((n + 1) + 1))) (vp_nar .byte (Int8.toInt32 (Int32.toInt8 (a >>> (8 &&& 31)))))) h 1 (nI (((n + 1) + 1) + 1))) h 1 = nI (((n + 1) + 1) + 1) := iI_s
  clear w8
  refine lv_iinc (v := 0) (lv' := [(2, .int 0), (0, .ref h), (1, .int a)]) hx hb dX9_types_32 hl (k := 0) rfl (by decide) (by decide) rfl (fun ls hl => ?_)
  refine lv_goto (tgt := 2) hx hb dX9_types_35 (by decide) ?_
  refine lv_iload_n hx hb dX9_types_2 rfl (lv_at hl 0 rfl) ?_
  refine lv_if_lt (tgt := 38) hx hb dX9_types_3 (by decide) (fun c10 => absurd c10 (by decide)) (fun c10 => ?_)
  refine lv_aload_n hx hb dX9_types_6 rfl (lv_at hl 1 rfl) ?_
  refine pg_gr (b := m_tape) (ci := 9) (C := RX9) (T := TX9) (N := 63) hx hb hts wi9 hown hK hW hk (by decide) rfl 0 (by decide) (hts (.fieldLink RX9 7 "IceHallModel" "tape" "[B") (by decide +kernel)) (fun _ h9 => h9) rfl r_0 dX9_types_7 ?_
  refine lv_aload_n hx hb dX9_types_10 rfl (lv_at hl 1 rfl) ?_
  refine pg_gi (ci := 9) (C := RX9) (T := TX9) (N := 63) hx hb hts wi9 hown hK hW hk (by decide) rfl 1 (by decide) (hts (.fieldLink RX9 141 "IceHallModel" "taped" "I") (by decide +kernel)) (fun _ h9 => h9) rfl dX9_types_11 ?_
  rw [show sI (stI (stI (stI (stI (stI (stI S m_tape (Int32.toNatClampNeg (nI n)) (vp_nar .byte (Int8.toInt32 (Int32.toInt8 (a >>> (24 &&& 31)))))) h 1 (nI (n + 1))) m_tape (Int32.toNatClampNeg (nI (n + 1))) (vp_nar .byte (Int8.toInt32 (Int32.toInt8 (a >>> (16 &&& 31)))))) h 1 (nI ((n + 1) + 1))) m_tape (Int32.toNatClampNeg (nI ((n + 1) + 1))) (vp_nar .byte (Int8.toInt32 (Int32.toInt8 (a >>> (8 &&& 31)))))) h 1 (nI (((n + 1) + 1) + 1))) h 1 = nI (((n + 1) + 1) + 1) from w9]
  refine lv_iload_n hx hb dX9_types_14 rfl (lv_at hl 2 rfl) ?_
  refine lv_bipush (v := 8) hx hb dX9_types_15 (by decide) ?_
  refine lv_iload_n hx hb dX9_types_17 rfl (lv_at hl 0 rfl) ?_
  refine lv_imul hx hb dX9_types_18 ?_
  rw [show (8 * 0 : Int32) = 0 from by decide]
  refine lv_ishr hx hb dX9_types_19 ?_
  refine lv_i2b (v := Int8.toInt32 (Int32.toInt8 (a >>> (0 &&& 31)))) hx hb dX9_types_20 rfl ?_
  refine pg_bast hx hb hK hW hS k_0 (by rw [show sL (stI (stI (stI (stI (stI (stI S m_tape (Int32.toNatClampNeg (nI n)) (vp_nar .byte (Int8.toInt32 (Int32.toInt8 (a >>> (24 &&& 31)))))) h 1 (nI (n + 1))) m_tape (Int32.toNatClampNeg (nI (n + 1))) (vp_nar .byte (Int8.toInt32 (Int32.toInt8 (a >>> (16 &&& 31)))))) h 1 (nI ((n + 1) + 1))) m_tape (Int32.toNatClampNeg (nI ((n + 1) + 1))) (vp_nar .byte (Int8.toInt32 (Int32.toInt8 (a >>> (8 &&& 31)))))) h 1 (nI (((n + 1) + 1) + 1))) m_tape = 80 from n_0]; exact vp_in_nI (by omega) (by decide)) dX9_types_21 (fun H locs hW hS => ?_)
  have w11 : sI (stI (stI (stI (stI (stI (stI (stI S m_tape (Int32.toNatClampNeg (nI n)) (vp_nar .byte (Int8.toInt32 (Int32.toInt8 (a >>> (24 &&& 31)))))) h 1 (nI (n + 1))) m_tape (Int32.toNatClampNeg (nI (n + 1))) (vp_nar .byte (Int8.toInt32 (Int32.toInt8 (a >>> (16 &&& 31)))))) h 1 (nI ((n + 1) + 1))) m_tape (Int32.toNatClampNeg (nI ((n + 1) + 1))) (vp_nar .byte (Int8.toInt32 (Int32.toInt8 (a >>> (8 &&& 31)))))) h 1 (nI (((n + 1) + 1) + 1))) m_tape (Int32.toNatClampNeg (nI (((n + 1) + 1) + 1))) (vp_nar .byte (Int8.toInt32 (Int32.toInt8 (a >>> (0 &&& 31)))))) h 1 = nI (((n + 1) + 1) + 1) := (iI_a (fk_ne hk k_0 (by decide))).trans w9
  clear w9
  refine lv_aload_n hx hb dX9_types_22 rfl (lv_at hl 1 rfl) ?_
  refine lv_aload_n hx hb dX9_types_23 rfl (lv_at hl 1 rfl) ?_
  refine pg_gi (ci := 9) (C := RX9) (T := TX9) (N := 63) hx hb hts wi9 hown hK hW hk (by decide) rfl 1 (by decide) (hts (.fieldLink RX9 141 "IceHallModel" "taped" "I") (by decide +kernel)) (fun _ h9 => h9) rfl dX9_types_24 ?_
  rw [show sI (stI (stI (stI (stI (stI (stI (stI S m_tape (Int32.toNatClampNeg (nI n)) (vp_nar .byte (Int8.toInt32 (Int32.toInt8 (a >>> (24 &&& 31)))))) h 1 (nI (n + 1))) m_tape (Int32.toNatClampNeg (nI (n + 1))) (vp_nar .byte (Int8.toInt32 (Int32.toInt8 (a >>> (16 &&& 31)))))) h 1 (nI ((n + 1) + 1))) m_tape (Int32.toNatClampNeg (nI ((n + 1) + 1))) (vp_nar .byte (Int8.toInt32 (Int32.toInt8 (a >>> (8 &&& 31)))))) h 1 (nI (((n + 1) + 1) + 1))) m_tape (Int32.toNatClampNeg (nI (((n + 1) + 1) + 1))) (vp_nar .byte (Int8.toInt32 (Int32.toInt8 (a >>> (0 &&& 31)))))) h 1 = nI (((n + 1) + 1) + 1) from w11]
  refine lv_iconst (v := 1) hx hb dX9_types_27 (by decide) ?_
  refine lv_iadd hx hb dX9_types_28 ?_
  rw [show (nI (((n + 1) + 1) + 1)) + 1 = nI ((((n + 1) + 1) + 1) + 1) from nI_add _ _]
  refine pg_pi (ci := 9) (C := RX9) (T := TX9) (N := 63) hx hb hts wi9 tyX9 tyX9_ok nmX9 hown hK hW hS hk (by decide) rfl 1 (by decide) (hts (.fieldLink RX9 141 "IceHallModel" "taped" "I") (by decide +kernel)) (fun _ h9 => h9) rfl rfl rfl dX9_types_29 (fun H locs hW hS => ?_)
  have w12 : sI (stI (stI (stI (stI (stI (stI (stI (stI S m_tape (Int32.toNatClampNeg (nI n)) (vp_nar .byte (Int8.toInt32 (Int32.toInt8 (a >>> (24 &&& 31)))))) h 1 (nI (n + 1))) m_tape (Int32.toNatClampNeg (nI (n + 1))) (vp_nar .byte (Int8.toInt32 (Int32.toInt8 (a >>> (16 &&& 31)))))) h 1 (nI ((n + 1) + 1))) m_tape (Int32.toNatClampNeg (nI ((n + 1) + 1))) (vp_nar .byte (Int8.toInt32 (Int32.toInt8 (a >>> (8 &&& 31)))))) h 1 (nI (((n + 1) + 1) + 1))) m_tape (Int32.toNatClampNeg (nI (((n + 1) + 1) + 1))) (vp_nar .byte (Int8.toInt32 (Int32.toInt8 (a >>> (0 &&& 31)))))) h 1 (nI ((((n + 1) + 1) + 1) + 1))) h 1 = nI ((((n + 1) + 1) + 1) + 1) := iI_s
  clear w11
  refine lv_iinc (v := (-1)) (lv' := [(2, .int ((-1))), (0, .ref h), (1, .int a)]) hx hb dX9_types_32 hl (k := 0) rfl (by decide) (by decide) rfl (fun ls hl => ?_)
  refine lv_goto (tgt := 2) hx hb dX9_types_35 (by decide) ?_
  refine lv_iload_n hx hb dX9_types_2 rfl (lv_at hl 0 rfl) ?_
  refine lv_if_lt (tgt := 38) hx hb dX9_types_3 (by decide) (fun c13 => ?_) (fun c13 => absurd (by decide) c13)
  exact pc_vret (S := stI (stI (stI (stI (stI (stI (stI (stI S m_tape (Int32.toNatClampNeg (nI n)) (vp_nar .byte (Int8.toInt32 (Int32.toInt8 (a >>> (24 &&& 31)))))) h 1 (nI (n + 1))) m_tape (Int32.toNatClampNeg (nI (n + 1))) (vp_nar .byte (Int8.toInt32 (Int32.toInt8 (a >>> (16 &&& 31)))))) h 1 (nI ((n + 1) + 1))) m_tape (Int32.toNatClampNeg (nI ((n + 1) + 1))) (vp_nar .byte (Int8.toInt32 (Int32.toInt8 (a >>> (8 &&& 31)))))) h 1 (nI (((n + 1) + 1) + 1))) m_tape (Int32.toNatClampNeg (nI (((n + 1) + 1) + 1))) (vp_nar .byte (Int8.toInt32 (Int32.toInt8 (a >>> (0 &&& 31)))))) h 1 (nI ((((n + 1) + 1) + 1) + 1))) hx hb hr hlk hK hZ hA hW hS (⟨⟨rfl, rfl, rfl⟩, w12, trivial⟩) dX9_types_38
set_option maxHeartbeats 4000000 in
set_option maxRecDepth 100000 in
theorem c_X9_feed (l : Launch) (D : va_G) (cy : Nat → ClassId) (A : Nat → Prop) (S : St) (h m_tape : Nat) (a b d e2 f : Int32) (hk : sK S h = 9) (r_0 : sR S h 0 = some m_tape) (k_0 : sK S m_tape = 10) (n_0 : sL S m_tape = 80) (i_1 : sI S h 1 = 0) : MI l yX9_feed wsX9_feed ({ frames := 1, cells := 0, slots := 0, locals := 22 } : Room) 0 0 D cy A [.ref h, .int a, .int b, .int d, .int e2, .int f] S (fun r S1 => r = 20) := by
  refine mt_start (cc := cX9_feed) (maxL := 6) (ret := (some .int)) (by decide) rfl (Nat.le_of_ble_eq_true rfl) ?_
  intro p e s m args below meth c hx hb hr hlk hml hown hnm hts hK hZ hA hW hS ls hl
  have hl : lv_has ls 6 [(0, .ref h), (1, .int a), (2, .int b), (3, .int d), (4, .int e2), (5, .int f)] := hl
  have hown : s.vm.findClass RX9 = some m.cls := hown
  have F : CallFix p m c cX9_feed 6 s args wsX9_feed RX9 := ⟨hx, hb, hml, hown, hts⟩
  have wi9 : ∀ w ∈ u_ws RX9 TX9 63, w ∈ wsX9_feed := by decide +kernel
  refine lv_aload_n hx hb dX9_feed_0 rfl (lv_at hl 0 rfl) ?_
  refine pg_gi (ci := 9) (C := RX9) (T := TX9) (N := 63) hx hb hts wi9 hown hK hW hk (by decide) rfl 1 (by decide) (hts (.fieldLink RX9 141 "IceHallModel" "taped" "I") (by decide +kernel)) (fun _ h9 => h9) rfl dX9_feed_1 ?_
  rw [show sI S h 1 = 0 from i_1]
  refine lv_bipush (v := 20) hx hb dX9_feed_4 (by decide) ?_
  refine lv_iadd hx hb dX9_feed_6 ?_
  rw [show (0 + 20 : Int32) = 20 from by decide]
  refine lv_bipush (v := 80) hx hb dX9_feed_7 (by decide) ?_
  refine lv_icmp_le (tgt := 14) hx hb dX9_feed_9 (by decide) (fun c1 => ?_) (fun c1 => absurd (by decide) c1)
  refine lv_aload_n hx hb dX9_feed_14 rfl (lv_at hl 0 rfl) ?_
  refine lv_iload_n hx hb dX9_feed_15 rfl (lv_at hl 1 rfl) ?_
  refine pc_Vv (As := [.int a]) (rest := []) F (c_X9_types l D cy A S h m_tape 0 a hk r_0 k_0 n_0 i_1 (by omega)) (cwV 1 hts gX9_feed_X9_types rfl rfl rfl (by decide +kernel) ⟨Nat.le_of_ble_eq_true rfl, Nat.le_of_ble_eq_true rfl⟩) hK hZ hA hW hS hk (by decide) rfl rfl hl.1 rfl (Nat.le_of_ble_eq_true rfl) dX9_feed_16 ⟨Nat.le_of_ble_eq_true rfl, Nat.le_of_ble_eq_true rfl⟩ (fun T3 H locs p4 hW hS => ?_)
  obtain ⟨⟨ekT3, erT3, elT3⟩, p4⟩ := p4
  have f5 : sK T3 h = 9 := by rw [ekT3]; exact hk
  have f6 : sK T3 m_tape = 10 := by rw [ekT3]; exact k_0
  have f7 : sL T3 m_tape = 80 := by rw [elT3]; exact n_0
  have f8 : sR T3 h 0 = some m_tape := by rw [erT3]; exact r_0
  obtain ⟨y9, p4⟩ := p4
  refine lv_aload_n hx hb dX9_feed_19 rfl (lv_at hl 0 rfl) ?_
  refine lv_iload_n hx hb dX9_feed_20 rfl (lv_at hl 2 rfl) ?_
  refine pc_Vv (As := [.int b]) (rest := []) F (c_X9_types l D cy A T3 h m_tape ((0 + 4)) b f5 f8 f6 f7 y9 (by omega)) (cwV 1 hts gX9_feed_X9_types rfl rfl rfl (by decide +kernel) ⟨Nat.le_of_ble_eq_true rfl, Nat.le_of_ble_eq_true rfl⟩) hK hZ hA hW hS f5 (by decide) rfl rfl hl.1 rfl (Nat.le_of_ble_eq_true rfl) dX9_feed_21 ⟨Nat.le_of_ble_eq_true rfl, Nat.le_of_ble_eq_true rfl⟩ (fun T11 H locs p12 hW hS => ?_)
  obtain ⟨⟨ekT11, erT11, elT11⟩, p12⟩ := p12
  have f13 : sK T11 h = 9 := by rw [ekT11]; exact f5
  have f14 : sK T11 m_tape = 10 := by rw [ekT11]; exact f6
  have f15 : sL T11 m_tape = 80 := by rw [elT11]; exact f7
  have f16 : sR T11 h 0 = some m_tape := by rw [erT11]; exact f8
  obtain ⟨y17, p12⟩ := p12
  refine lv_aload_n hx hb dX9_feed_24 rfl (lv_at hl 0 rfl) ?_
  refine lv_iload_n hx hb dX9_feed_25 rfl (lv_at hl 3 rfl) ?_
  refine pc_Vv (As := [.int d]) (rest := []) F (c_X9_types l D cy A T11 h m_tape (((0 + 4) + 4)) d f13 f16 f14 f15 y17 (by omega)) (cwV 1 hts gX9_feed_X9_types rfl rfl rfl (by decide +kernel) ⟨Nat.le_of_ble_eq_true rfl, Nat.le_of_ble_eq_true rfl⟩) hK hZ hA hW hS f13 (by decide) rfl rfl hl.1 rfl (Nat.le_of_ble_eq_true rfl) dX9_feed_26 ⟨Nat.le_of_ble_eq_true rfl, Nat.le_of_ble_eq_true rfl⟩ (fun T19 H locs p20 hW hS => ?_)
  obtain ⟨⟨ekT19, erT19, elT19⟩, p20⟩ := p20
  have f21 : sK T19 h = 9 := by rw [ekT19]; exact f13
  have f22 : sK T19 m_tape = 10 := by rw [ekT19]; exact f14
  have f23 : sL T19 m_tape = 80 := by rw [elT19]; exact f15
  have f24 : sR T19 h 0 = some m_tape := by rw [erT19]; exact f16
  obtain ⟨y25, p20⟩ := p20
  refine lv_aload_n hx hb dX9_feed_29 rfl (lv_at hl 0 rfl) ?_
  refine lv_iload hx hb dX9_feed_30 (lv_at hl 4 rfl) ?_
  refine pc_Vv (As := [.int e2]) (rest := []) F (c_X9_types l D cy A T19 h m_tape ((((0 + 4) + 4) + 4)) e2 f21 f24 f22 f23 y25 (by omega)) (cwV 1 hts gX9_feed_X9_types rfl rfl rfl (by decide +kernel) ⟨Nat.le_of_ble_eq_true rfl, Nat.le_of_ble_eq_true rfl⟩) hK hZ hA hW hS f21 (by decide) rfl rfl hl.1 rfl (Nat.le_of_ble_eq_true rfl) dX9_feed_32 ⟨Nat.le_of_ble_eq_true rfl, Nat.le_of_ble_eq_true rfl⟩ (fun T27 H locs p28 hW hS => ?_)
  obtain ⟨⟨ekT27, erT27, elT27⟩, p28⟩ := p28
  have f29 : sK T27 h = 9 := by rw [ekT27]; exact f21
  have f30 : sK T27 m_tape = 10 := by rw [ekT27]; exact f22
  have f31 : sL T27 m_tape = 80 := by rw [elT27]; exact f23
  have f32 : sR T27 h 0 = some m_tape := by rw [erT27]; exact f24
  obtain ⟨y33, p28⟩ := p28
  refine lv_aload_n hx hb dX9_feed_35 rfl (lv_at hl 0 rfl) ?_
  refine lv_iload hx hb dX9_feed_36 (lv_at hl 5 rfl) ?_
  refine pc_Vv (As := [.int f]) (rest := []) F (c_X9_types l D cy A T27 h m_tape (((((0 + 4) + 4) + 4) + 4)) f f29 f32 f30 f31 y33 (by omega)) (cwV 1 hts gX9_feed_X9_types rfl rfl rfl (by decide +kernel) ⟨Nat.le_of_ble_eq_true rfl, Nat.le_of_ble_eq_true rfl⟩) hK hZ hA hW hS f29 (by decide) rfl rfl hl.1 rfl (Nat.le_of_ble_eq_true rfl) dX9_feed_38 ⟨Nat.le_of_ble_eq_true rfl, Nat.le_of_ble_eq_true rfl⟩ (fun T35 H locs p36 hW hS => ?_)
  obtain ⟨⟨ekT35, erT35, elT35⟩, p36⟩ := p36
  have f37 : sK T35 h = 9 := by rw [ekT35]; exact f29
  have f38 : sK T35 m_tape = 10 := by rw [ekT35]; exact f30
  have f39 : sL T35 m_tape = 80 := by rw [elT35]; exact f31
  have f40 : sR T35 h 0 = some m_tape := by rw [erT35]; exact f32
  obtain ⟨y41, p36⟩ := p36
  refine lv_aload_n hx hb dX9_feed_41 rfl (lv_at hl 0 rfl) ?_
  refine pg_gi (ci := 9) (C := RX9) (T := TX9) (N := 63) hx hb hts wi9 hown hK hW f37 (by decide) rfl 1 (by decide) (hts (.fieldLink RX9 141 "IceHallModel" "taped" "I") (by decide +kernel)) (fun _ h9 => h9) rfl dX9_feed_42 ?_
  rw [show sI T35 h 1 = nI (((((0 + 4) + 4) + 4) + 4) + 4) from y41]
  exact pc_iret (v := nI (((((0 + 4) + 4) + 4) + 4) + 4)) (S := T35) hx hb hr hlk hK hZ hA hW hS (rfl) dX9_feed_45
set_option maxHeartbeats 4000000 in
set_option maxRecDepth 100000 in
theorem c_X9_here (l : Launch) (D : va_G) (cy : Nat → ClassId) (A : Nat → Prop) (S : St) (h  : Nat)  (hk : sK S h = 9) (i_2 : sI S h 2 = 0) (i_3 : sI S h 3 = 0) : MI l yX9_here wsX9_here ({ frames := 0, cells := 0, slots := 0, locals := 0 } : Room) 0 0 D cy A [.ref h] S (fun r S1 => S1 = S ∧ r = 0) := by
  refine mt_start (cc := cX9_here) (maxL := 1) (ret := (some .int)) (by decide) rfl (Nat.le_of_ble_eq_true rfl) ?_
  intro p e s m args below meth c hx hb hr hlk hml hown hnm hts hK hZ hA hW hS ls hl
  have hl : lv_has ls 1 [(0, .ref h)] := hl
  have hown : s.vm.findClass RX9 = some m.cls := hown
  have F : CallFix p m c cX9_here 1 s args wsX9_here RX9 := ⟨hx, hb, hml, hown, hts⟩
  have wi9 : ∀ w ∈ u_ws RX9 TX9 63, w ∈ wsX9_here := by decide +kernel
  refine lv_aload_n hx hb dX9_here_0 rfl (lv_at hl 0 rfl) ?_
  refine pg_gi (ci := 9) (C := RX9) (T := TX9) (N := 63) hx hb hts wi9 hown hK hW hk (by decide) rfl 2 (by decide) (hts (.fieldLink RX9 148 "IceHallModel" "place" "I") (by decide +kernel)) (fun _ h9 => h9) rfl dX9_here_1 ?_
  rw [show sI S h 2 = 0 from i_2]
  refine lv_aload_n hx hb dX9_here_4 rfl (lv_at hl 0 rfl) ?_
  refine pg_gi (ci := 9) (C := RX9) (T := TX9) (N := 63) hx hb hts wi9 hown hK hW hk (by decide) rfl 3 (by decide) (hts (.fieldLink RX9 151 "IceHallModel" "size" "I") (by decide +kernel)) (fun _ h9 => h9) rfl dX9_here_5 ?_
  rw [show sI S h 3 = 0 from i_3]
  refine lv_icmp_ge (tgt := 27) hx hb dX9_here_8 (by decide) (fun c1 => ?_) (fun c1 => absurd (by decide) c1)
  refine lv_iconst (v := 0) hx hb dX9_here_27 (by decide) ?_
  exact pc_iret (v := 0) (S := S) hx hb hr hlk hK hZ hA hW hS (⟨rfl, rfl⟩) dX9_here_28
set_option maxHeartbeats 4000000 in
set_option maxRecDepth 100000 in
theorem c_X9_wrong (l : Launch) (D : va_G) (cy : Nat → ClassId) (A : Nat → Prop) (S : St) (h : Nat) (hk : sK S h = 9) : MI l yX9_wrong wsX9_wrong ({ frames := 0, cells := 0, slots := 0, locals := 0 } : Room) 0 0 D cy A [.ref h, .int 1, .int 0] S (fun r S1 => (sK S1 = sK S ∧ sR S1 = sR S ∧ sL S1 = sL S) ∧ sI S1 h 4 = 100 ∧ r = 0) := by
  refine mt_start (cc := cX9_wrong) (maxL := 3) (ret := (some .boolean)) (by decide) rfl (Nat.le_of_ble_eq_true rfl) ?_
  intro p e s m args below meth c hx hb hr hlk hml hown hnm hts hK hZ hA hW hS ls hl
  have hl : lv_has ls 3 [(0, .ref h), (1, .int 1), (2, .int 0)] := hl
  have hown : s.vm.findClass RX9 = some m.cls := hown
  have F : CallFix p m c cX9_wrong 3 s args wsX9_wrong RX9 := ⟨hx, hb, hml, hown, hts⟩
  have wi9 : ∀ w ∈ u_ws RX9 TX9 63, w ∈ wsX9_wrong := by decide +kernel
  refine lv_aload_n hx hb dX9_wrong_0 rfl (lv_at hl 0 rfl) ?_
  refine lv_bipush (v := 100) hx hb dX9_wrong_1 (by decide) ?_
  refine lv_iload_n hx hb dX9_wrong_3 rfl (lv_at hl 1 rfl) ?_
  refine lv_imul hx hb dX9_wrong_4 ?_
  rw [show (100 * 1 : Int32) = 100 from by decide]
  refine lv_iload_n hx hb dX9_wrong_5 rfl (lv_at hl 2 rfl) ?_
  refine lv_iadd hx hb dX9_wrong_6 ?_
  rw [show (100 + 0 : Int32) = 100 from by decide]
  refine pg_pi (ci := 9) (C := RX9) (T := TX9) (N := 63) hx hb hts wi9 tyX9 tyX9_ok nmX9 hown hK hW hS hk (by decide) rfl 4 (by decide) (hts (.fieldLink RX9 158 "IceHallModel" "fault" "I") (by decide +kernel)) (fun _ h9 => h9) rfl rfl rfl dX9_wrong_7 (fun H locs hW hS => ?_)
  have w1 : sI (stI S h 4 100) h 4 = 100 := iI_s
  refine lv_iconst (v := 0) hx hb dX9_wrong_10 (by decide) ?_
  exact pc_zret (v := 0) (S := stI S h 4 100) hx hb hr hlk hK hZ hA hW hS (by decide) (⟨⟨rfl, rfl, rfl⟩, w1, rfl⟩) dX9_wrong_11
set_option maxHeartbeats 4000000 in
set_option maxRecDepth 100000 in
theorem c_X9_readsClause (l : Launch) (D : va_G) (cy : Nat → ClassId) (A : Nat → Prop) (S : St) (h  : Nat)  (hk : sK S h = 9) (i_2 : sI S h 2 = 0) (i_3 : sI S h 3 = 0) : MI l yX9_readsClause wsX9_readsClause ({ frames := 1, cells := 0, slots := 0, locals := 22 } : Room) 0 0 D cy A [.ref h] S (fun r S1 => (sK S1 = sK S ∧ sR S1 = sR S ∧ sL S1 = sL S) ∧ sI S1 h 4 = 100 ∧ r = 0) := by
  refine mt_start (cc := cX9_readsClause) (maxL := 4) (ret := (some .boolean)) (by decide) rfl (Nat.le_of_ble_eq_true rfl) ?_
  intro p e s m args below meth c hx hb hr hlk hml hown hnm hts hK hZ hA hW hS ls hl
  have hl : lv_has ls 4 [(0, .ref h)] := hl
  have hown : s.vm.findClass RX9 = some m.cls := hown
  have F : CallFix p m c cX9_readsClause 4 s args wsX9_readsClause RX9 := ⟨hx, hb, hml, hown, hts⟩
  have wi9 : ∀ w ∈ u_ws RX9 TX9 63, w ∈ wsX9_readsClause := by decide +kernel
  refine lv_aload_n hx hb dX9_readsClause_0 rfl (lv_at hl 0 rfl) ?_
  refine pc_Vi (As := []) (rest := []) F (c_X9_here l D cy A S h hk i_2 i_3) (cwV 0 hts gX9_readsClause_X9_here rfl rfl rfl (by decide +kernel) ⟨Nat.le_of_ble_eq_true rfl, Nat.le_of_ble_eq_true rfl⟩) hK hZ hA hW hS hk (by decide) rfl rfl hl.1 rfl (Nat.le_of_ble_eq_true rfl) dX9_readsClause_1 ⟨Nat.le_of_ble_eq_true rfl, Nat.le_of_ble_eq_true rfl⟩ (fun v1 T2 H locs p3 hW hS => ?_)
  obtain ⟨eT2, p3⟩ := p3
  rw [eT2] at hW
  rw [show v1 = 0 from p3]
  refine lv_istore_n (lv' := [(1, .int 0), (0, .ref h)]) hx hb dX9_readsClause_4 rfl hl (by decide) rfl (fun ls hl => ?_)
  refine lv_iload_n hx hb dX9_readsClause_5 rfl (lv_at hl 0 rfl) ?_
  refine lv_bipush (v := 119) hx hb dX9_readsClause_6 (by decide) ?_
  refine lv_icmp_eq (tgt := 51) hx hb dX9_readsClause_8 (by decide) (fun c4 => absurd c4 (by decide)) (fun c4 => ?_)
  refine lv_iload_n hx hb dX9_readsClause_11 rfl (lv_at hl 0 rfl) ?_
  refine lv_bipush (v := 100) hx hb dX9_readsClause_12 (by decide) ?_
  refine lv_icmp_eq (tgt := 51) hx hb dX9_readsClause_14 (by decide) (fun c5 => absurd c5 (by decide)) (fun c5 => ?_)
  refine lv_iload_n hx hb dX9_readsClause_17 rfl (lv_at hl 0 rfl) ?_
  refine lv_bipush (v := 107) hx hb dX9_readsClause_18 (by decide) ?_
  refine lv_icmp_eq (tgt := 51) hx hb dX9_readsClause_20 (by decide) (fun c6 => absurd c6 (by decide)) (fun c6 => ?_)
  refine lv_iload_n hx hb dX9_readsClause_23 rfl (lv_at hl 0 rfl) ?_
  refine lv_bipush (v := 110) hx hb dX9_readsClause_24 (by decide) ?_
  refine lv_icmp_eq (tgt := 51) hx hb dX9_readsClause_26 (by decide) (fun c7 => absurd c7 (by decide)) (fun c7 => ?_)
  refine lv_iload_n hx hb dX9_readsClause_29 rfl (lv_at hl 0 rfl) ?_
  refine lv_bipush (v := 102) hx hb dX9_readsClause_30 (by decide) ?_
  refine lv_icmp_eq (tgt := 51) hx hb dX9_readsClause_32 (by decide) (fun c8 => absurd c8 (by decide)) (fun c8 => ?_)
  refine lv_iload_n hx hb dX9_readsClause_35 rfl (lv_at hl 0 rfl) ?_
  refine lv_bipush (v := 99) hx hb dX9_readsClause_36 (by decide) ?_
  refine lv_icmp_eq (tgt := 51) hx hb dX9_readsClause_38 (by decide) (fun c9 => absurd c9 (by decide)) (fun c9 => ?_)
  refine lv_aload_n hx hb dX9_readsClause_41 rfl (lv_at hl 1 rfl) ?_
  refine lv_iconst (v := 1) hx hb dX9_readsClause_42 (by decide) ?_
  refine lv_aload_n hx hb dX9_readsClause_43 rfl (lv_at hl 1 rfl) ?_
  refine pg_gi (ci := 9) (C := RX9) (T := TX9) (N := 63) hx hb hts wi9 hown hK hW hk (by decide) rfl 2 (by decide) (hts (.fieldLink RX9 148 "IceHallModel" "place" "I") (by decide +kernel)) (fun _ h9 => h9) rfl dX9_readsClause_44 ?_
  rw [show sI S h 2 = 0 from i_2]
  refine pc_Vi (As := [.int 1, .int 0]) (rest := []) F (c_X9_wrong l D cy A S h hk) (cwV 2 hts gX9_readsClause_X9_wrong rfl rfl rfl (by decide +kernel) ⟨Nat.le_of_ble_eq_true rfl, Nat.le_of_ble_eq_true rfl⟩) hK hZ hA hW hS hk (by decide) rfl rfl hl.1 rfl (Nat.le_of_ble_eq_true rfl) dX9_readsClause_47 ⟨Nat.le_of_ble_eq_true rfl, Nat.le_of_ble_eq_true rfl⟩ (fun v10 T11 H locs p12 hW hS => ?_)
  obtain ⟨⟨ekT11, erT11, elT11⟩, p12⟩ := p12
  have f13 : sK T11 h = 9 := by rw [ekT11]; exact hk
  obtain ⟨y14, p12⟩ := p12
  rw [show v10 = 0 from p12]
  exact pc_zret (v := 0) (S := T11) hx hb hr hlk hK hZ hA hW hS (by decide) (⟨⟨ekT11, erT11, elT11⟩, y14, rfl⟩) dX9_readsClause_50
set_option maxHeartbeats 4000000 in
set_option maxRecDepth 100000 in
theorem c_X9_readsText (l : Launch) (D : va_G) (cy : Nat → ClassId) (A : Nat → Prop) (S : St) (h  : Nat)  (hk : sK S h = 9) (i_2 : sI S h 2 = 0) (i_3 : sI S h 3 = 0) : MI l yX9_readsText wsX9_readsText ({ frames := 2, cells := 0, slots := 0, locals := 45 } : Room) 0 0 D cy A [.ref h] S (fun r S1 => (sK S1 = sK S ∧ sR S1 = sR S ∧ sL S1 = sL S) ∧ sI S1 h 4 = 100 ∧ r = 0) := by
  refine mt_start (cc := cX9_readsText) (maxL := 2) (ret := (some .boolean)) (by decide) rfl (Nat.le_of_ble_eq_true rfl) ?_
  intro p e s m args below meth c hx hb hr hlk hml hown hnm hts hK hZ hA hW hS ls hl
  have hl : lv_has ls 2 [(0, .ref h)] := hl
  have hown : s.vm.findClass RX9 = some m.cls := hown
  have F : CallFix p m c cX9_readsText 2 s args wsX9_readsText RX9 := ⟨hx, hb, hml, hown, hts⟩
  refine lv_iconst (v := 1) hx hb dX9_readsText_0 (by decide) ?_
  refine lv_istore_n (lv' := [(1, .int 1), (0, .ref h)]) hx hb dX9_readsText_1 rfl hl (by decide) rfl (fun ls hl => ?_)
  refine lv_iload_n hx hb dX9_readsText_2 rfl (lv_at hl 0 rfl) ?_
  refine lv_if_eq (tgt := 68) hx hb dX9_readsText_3 (by decide) (fun c1 => absurd c1 (by decide)) (fun c1 => ?_)
  refine lv_aload_n hx hb dX9_readsText_6 rfl (lv_at hl 1 rfl) ?_
  refine pc_Vi (As := []) (rest := []) F (c_X9_readsClause l D cy A S h hk i_2 i_3) (cwV 0 hts gX9_readsText_X9_readsClause rfl rfl rfl (by decide +kernel) ⟨Nat.le_of_ble_eq_true rfl, Nat.le_of_ble_eq_true rfl⟩) hK hZ hA hW hS hk (by decide) rfl rfl hl.1 rfl (Nat.le_of_ble_eq_true rfl) dX9_readsText_7 ⟨Nat.le_of_ble_eq_true rfl, Nat.le_of_ble_eq_true rfl⟩ (fun v2 T3 H locs p4 hW hS => ?_)
  obtain ⟨⟨ekT3, erT3, elT3⟩, p4⟩ := p4
  have f5 : sK T3 h = 9 := by rw [ekT3]; exact hk
  obtain ⟨y6, p4⟩ := p4
  rw [show v2 = 0 from p4]
  refine lv_if_ne (tgt := 15) hx hb dX9_readsText_10 (by decide) (fun c7 => absurd (by decide) c7) (fun c7 => ?_)
  refine lv_iconst (v := 0) hx hb dX9_readsText_13 (by decide) ?_
  exact pc_zret (v := 0) (S := T3) hx hb hr hlk hK hZ hA hW hS (by decide) (⟨⟨ekT3, erT3, elT3⟩, y6, rfl⟩) dX9_readsText_14
set_option maxHeartbeats 4000000 in
set_option maxRecDepth 100000 in
theorem c_X9_rights (l : Launch) (D : va_G) (cy : Nat → ClassId) (A : Nat → Prop) (S : St) (h  : Nat) (a b : Int32) (hk : sK S h = 9) (i_1 : sI S h 1 = 0) : MI l yX9_rights wsX9_rights ({ frames := 3, cells := 0, slots := 0, locals := 66 } : Room) 0 0 D cy A [.ref h, .int a, .int b] S (fun r S1 => (r = 100 ∧ 0 ≤ a.toInt ∧ a.toInt < 6 ∧ b.toInt = 0) ∨ (r = (-1) ∧ ¬ (0 ≤ a.toInt ∧ a.toInt < 6 ∧ b.toInt = 0))) := by
  refine mt_start (cc := cX9_rights) (maxL := 4) (ret := (some .int)) (by decide) rfl (Nat.le_of_ble_eq_true rfl) ?_
  intro p e s m args below meth c hx hb hr hlk hml hown hnm hts hK hZ hA hW hS ls hl
  have hl : lv_has ls 4 [(0, .ref h), (1, .int a), (2, .int b)] := hl
  have hown : s.vm.findClass RX9 = some m.cls := hown
  have F : CallFix p m c cX9_rights 4 s args wsX9_rights RX9 := ⟨hx, hb, hml, hown, hts⟩
  have wi9 : ∀ w ∈ u_ws RX9 TX9 63, w ∈ wsX9_rights := by decide +kernel
  refine lv_iload_n hx hb dX9_rights_0 rfl (lv_at hl 1 rfl) ?_
  refine lv_if_lt (tgt := 22) hx hb dX9_rights_1 (by decide) (fun c1 => ?_) (fun c1 => ?_)
  · have c1i : Int32.toInt a < (0 : Int) := (i3_lt _ _).mp c1
    refine lv_iconst (v := (-1)) hx hb dX9_rights_22 (by decide) ?_
    exact pc_iret (v := (-1)) (S := S) hx hb hr hlk hK hZ hA hW hS (Or.inr ⟨rfl, by omega⟩) dX9_rights_23
  · have c1i : ¬ (Int32.toInt a < (0 : Int)) := fun h9 => c1 ((i3_lt _ _).mpr h9)
    refine lv_iload_n hx hb dX9_rights_4 rfl (lv_at hl 1 rfl) ?_
    refine lv_bipush (v := 6) hx hb dX9_rights_5 (by decide) ?_
    refine lv_icmp_ge (tgt := 22) hx hb dX9_rights_7 (by decide) (fun c2 => ?_) (fun c2 => ?_)
    · have c2i : (6 : Int) ≤ Int32.toInt a := (i3_le _ _).mp c2
      refine lv_iconst (v := (-1)) hx hb dX9_rights_22 (by decide) ?_
      exact pc_iret (v := (-1)) (S := S) hx hb hr hlk hK hZ hA hW hS (Or.inr ⟨rfl, by omega⟩) dX9_rights_23
    · have c2i : ¬ ((6 : Int) ≤ Int32.toInt a) := fun h9 => c2 ((i3_le _ _).mpr h9)
      refine lv_iload_n hx hb dX9_rights_10 rfl (lv_at hl 2 rfl) ?_
      refine lv_if_lt (tgt := 22) hx hb dX9_rights_11 (by decide) (fun c3 => ?_) (fun c3 => ?_)
      · have c3i : Int32.toInt b < (0 : Int) := (i3_lt _ _).mp c3
        refine lv_iconst (v := (-1)) hx hb dX9_rights_22 (by decide) ?_
        exact pc_iret (v := (-1)) (S := S) hx hb hr hlk hK hZ hA hW hS (Or.inr ⟨rfl, by omega⟩) dX9_rights_23
      · have c3i : ¬ (Int32.toInt b < (0 : Int)) := fun h9 => c3 ((i3_lt _ _).mpr h9)
        refine lv_iload_n hx hb dX9_rights_14 rfl (lv_at hl 2 rfl) ?_
        refine lv_aload_n hx hb dX9_rights_15 rfl (lv_at hl 0 rfl) ?_
        refine pg_gi (ci := 9) (C := RX9) (T := TX9) (N := 63) hx hb hts wi9 hown hK hW hk (by decide) rfl 1 (by decide) (hts (.fieldLink RX9 141 "IceHallModel" "taped" "I") (by decide +kernel)) (fun _ h9 => h9) rfl dX9_rights_16 ?_
        rw [show sI S h 1 = 0 from i_1]
        refine lv_icmp_le (tgt := 24) hx hb dX9_rights_19 (by decide) (fun c4 => ?_) (fun c4 => ?_)
        · have c4i : Int32.toInt b ≤ (0 : Int) := (i3_le _ _).mp c4
          have ha0 : b = 0 := (i3_eq _ _).mpr (by show _ = (0 : Int); omega)
          subst ha0
          refine lv_aload_n hx hb dX9_rights_24 rfl (lv_at hl 0 rfl) ?_
          refine lv_iconst (v := 0) hx hb dX9_rights_25 (by decide) ?_
          refine pg_pi (ci := 9) (C := RX9) (T := TX9) (N := 63) hx hb hts wi9 tyX9 tyX9_ok nmX9 hown hK hW hS hk (by decide) rfl 2 (by decide) (hts (.fieldLink RX9 148 "IceHallModel" "place" "I") (by decide +kernel)) (fun _ h9 => h9) rfl rfl rfl dX9_rights_26 (fun H locs hW hS => ?_)
          have w5 : sI (stI S h 2 0) h 1 = 0 := (iI_k (by decide)).trans i_1
          have w6 : sI (stI S h 2 0) h 2 = 0 := iI_s
          refine lv_aload_n hx hb dX9_rights_29 rfl (lv_at hl 0 rfl) ?_
          refine lv_iload_n hx hb dX9_rights_30 rfl (lv_at hl 2 rfl) ?_
          refine pg_pi (ci := 9) (C := RX9) (T := TX9) (N := 63) hx hb hts wi9 tyX9 tyX9_ok nmX9 hown hK hW hS hk (by decide) rfl 3 (by decide) (hts (.fieldLink RX9 151 "IceHallModel" "size" "I") (by decide +kernel)) (fun _ h9 => h9) rfl rfl rfl dX9_rights_31 (fun H locs hW hS => ?_)
          have w7 : sI (stI (stI S h 2 0) h 3 0) h 1 = 0 := (iI_k (by decide)).trans w5
          have w8 : sI (stI (stI S h 2 0) h 3 0) h 2 = 0 := (iI_k (by decide)).trans w6
          have w9 : sI (stI (stI S h 2 0) h 3 0) h 3 = 0 := iI_s
          clear w5 w6
          refine lv_aload_n hx hb dX9_rights_34 rfl (lv_at hl 0 rfl) ?_
          refine lv_iconst (v := 0) hx hb dX9_rights_35 (by decide) ?_
          refine pg_pi (ci := 9) (C := RX9) (T := TX9) (N := 63) hx hb hts wi9 tyX9 tyX9_ok nmX9 hown hK hW hS hk (by decide) rfl 4 (by decide) (hts (.fieldLink RX9 158 "IceHallModel" "fault" "I") (by decide +kernel)) (fun _ h9 => h9) rfl rfl rfl dX9_rights_36 (fun H locs hW hS => ?_)
          have w10 : sI (stI (stI (stI S h 2 0) h 3 0) h 4 0) h 1 = 0 := (iI_k (by decide)).trans w7
          have w11 : sI (stI (stI (stI S h 2 0) h 3 0) h 4 0) h 2 = 0 := (iI_k (by decide)).trans w8
          have w12 : sI (stI (stI (stI S h 2 0) h 3 0) h 4 0) h 3 = 0 := (iI_k (by decide)).trans w9
          have w13 : sI (stI (stI (stI S h 2 0) h 3 0) h 4 0) h 4 = 0 := iI_s
          clear w7 w8 w9
          refine lv_aload_n hx hb dX9_rights_39 rfl (lv_at hl 0 rfl) ?_
          refine lv_iconst (v := 0) hx hb dX9_rights_40 (by decide) ?_
          refine pg_pi (ci := 9) (C := RX9) (T := TX9) (N := 63) hx hb hts wi9 tyX9 tyX9_ok nmX9 hown hK hW hS hk (by decide) rfl 11 (by decide) (hts (.fieldLink RX9 175 "IceHallModel" "saidClocks" "I") (by decide +kernel)) (fun _ h9 => h9) rfl rfl rfl dX9_rights_41 (fun H locs hW hS => ?_)
          have w14 : sI (stI (stI (stI (stI S h 2 0) h 3 0) h 4 0) h 11 0) h 1 = 0 := (iI_k (by decide)).trans w10
          have w15 : sI (stI (stI (stI (stI S h 2 0) h 3 0) h 4 0) h 11 0) h 2 = 0 := (iI_k (by decide)).trans w11
          have w16 : sI (stI (stI (stI (stI S h 2 0) h 3 0) h 4 0) h 11 0) h 3 = 0 := (iI_k (by decide)).trans w12
          have w17 : sI (stI (stI (stI (stI S h 2 0) h 3 0) h 4 0) h 11 0) h 4 = 0 := (iI_k (by decide)).trans w13
          have w18 : sI (stI (stI (stI (stI S h 2 0) h 3 0) h 4 0) h 11 0) h 11 = 0 := iI_s
          clear w10 w11 w12 w13
          refine lv_aload_n hx hb dX9_rights_44 rfl (lv_at hl 0 rfl) ?_
          refine lv_bipush (v := 127) hx hb dX9_rights_45 (by decide) ?_
          refine pg_pi (ci := 9) (C := RX9) (T := TX9) (N := 63) hx hb hts wi9 tyX9 tyX9_ok nmX9 hown hK hW hS hk (by decide) rfl 12 (by decide) (hts (.fieldLink RX9 181 "IceHallModel" "saidDays" "I") (by decide +kernel)) (fun _ h9 => h9) rfl rfl rfl dX9_rights_47 (fun H locs hW hS => ?_)
          have w19 : sI (stI (stI (stI (stI (stI S h 2 0) h 3 0) h 4 0) h 11 0) h 12 127) h 1 = 0 := (iI_k (by decide)).trans w14
          have w20 : sI (stI (stI (stI (stI (stI S h 2 0) h 3 0) h 4 0) h 11 0) h 12 127) h 2 = 0 := (iI_k (by decide)).trans w15
          have w21 : sI (stI (stI (stI (stI (stI S h 2 0) h 3 0) h 4 0) h 11 0) h 12 127) h 3 = 0 := (iI_k (by decide)).trans w16
          have w22 : sI (stI (stI (stI (stI (stI S h 2 0) h 3 0) h 4 0) h 11 0) h 12 127) h 4 = 0 := (iI_k (by decide)).trans w17
          have w23 : sI (stI (stI (stI (stI (stI S h 2 0) h 3 0) h 4 0) h 11 0) h 12 127) h 11 = 0 := (iI_k (by decide)).trans w18
          have w24 : sI (stI (stI (stI (stI (stI S h 2 0) h 3 0) h 4 0) h 11 0) h 12 127) h 12 = 127 := iI_s
          clear w14 w15 w16 w17 w18
          refine lv_aload_n hx hb dX9_rights_50 rfl (lv_at hl 0 rfl) ?_
          refine lv_bipush (v := 15) hx hb dX9_rights_51 (by decide) ?_
          refine pg_pi (ci := 9) (C := RX9) (T := TX9) (N := 63) hx hb hts wi9 tyX9 tyX9_ok nmX9 hown hK hW hS hk (by decide) rfl 13 (by decide) (hts (.fieldLink RX9 184 "IceHallModel" "saidKinds" "I") (by decide +kernel)) (fun _ h9 => h9) rfl rfl rfl dX9_rights_53 (fun H locs hW hS => ?_)
          have w25 : sI (stI (stI (stI (stI (stI (stI S h 2 0) h 3 0) h 4 0) h 11 0) h 12 127) h 13 15) h 1 = 0 := (iI_k (by decide)).trans w19
          have w26 : sI (stI (stI (stI (stI (stI (stI S h 2 0) h 3 0) h 4 0) h 11 0) h 12 127) h 13 15) h 2 = 0 := (iI_k (by decide)).trans w20
          have w27 : sI (stI (stI (stI (stI (stI (stI S h 2 0) h 3 0) h 4 0) h 11 0) h 12 127) h 13 15) h 3 = 0 := (iI_k (by decide)).trans w21
          have w28 : sI (stI (stI (stI (stI (stI (stI S h 2 0) h 3 0) h 4 0) h 11 0) h 12 127) h 13 15) h 4 = 0 := (iI_k (by decide)).trans w22
          have w29 : sI (stI (stI (stI (stI (stI (stI S h 2 0) h 3 0) h 4 0) h 11 0) h 12 127) h 13 15) h 11 = 0 := (iI_k (by decide)).trans w23
          have w30 : sI (stI (stI (stI (stI (stI (stI S h 2 0) h 3 0) h 4 0) h 11 0) h 12 127) h 13 15) h 12 = 127 := (iI_k (by decide)).trans w24
          have w31 : sI (stI (stI (stI (stI (stI (stI S h 2 0) h 3 0) h 4 0) h 11 0) h 12 127) h 13 15) h 13 = 15 := iI_s
          clear w19 w20 w21 w22 w23 w24
          refine lv_aload_n hx hb dX9_rights_56 rfl (lv_at hl 0 rfl) ?_
          refine lv_sipush (v := 168) hx hb dX9_rights_57 (by decide) ?_
          refine pg_pi (ci := 9) (C := RX9) (T := TX9) (N := 63) hx hb hts wi9 tyX9 tyX9_ok nmX9 hown hK hW hS hk (by decide) rfl 14 (by decide) (hts (.fieldLink RX9 187 "IceHallModel" "saidLimit" "I") (by decide +kernel)) (fun _ h9 => h9) rfl rfl rfl dX9_rights_60 (fun H locs hW hS => ?_)
          have w32 : sI (stI (stI (stI (stI (stI (stI (stI S h 2 0) h 3 0) h 4 0) h 11 0) h 12 127) h 13 15) h 14 168) h 1 = 0 := (iI_k (by decide)).trans w25
          have w33 : sI (stI (stI (stI (stI (stI (stI (stI S h 2 0) h 3 0) h 4 0) h 11 0) h 12 127) h 13 15) h 14 168) h 2 = 0 := (iI_k (by decide)).trans w26
          have w34 : sI (stI (stI (stI (stI (stI (stI (stI S h 2 0) h 3 0) h 4 0) h 11 0) h 12 127) h 13 15) h 14 168) h 3 = 0 := (iI_k (by decide)).trans w27
          have w35 : sI (stI (stI (stI (stI (stI (stI (stI S h 2 0) h 3 0) h 4 0) h 11 0) h 12 127) h 13 15) h 14 168) h 4 = 0 := (iI_k (by decide)).trans w28
          have w36 : sI (stI (stI (stI (stI (stI (stI (stI S h 2 0) h 3 0) h 4 0) h 11 0) h 12 127) h 13 15) h 14 168) h 11 = 0 := (iI_k (by decide)).trans w29
          have w37 : sI (stI (stI (stI (stI (stI (stI (stI S h 2 0) h 3 0) h 4 0) h 11 0) h 12 127) h 13 15) h 14 168) h 12 = 127 := (iI_k (by decide)).trans w30
          have w38 : sI (stI (stI (stI (stI (stI (stI (stI S h 2 0) h 3 0) h 4 0) h 11 0) h 12 127) h 13 15) h 14 168) h 13 = 15 := (iI_k (by decide)).trans w31
          have w39 : sI (stI (stI (stI (stI (stI (stI (stI S h 2 0) h 3 0) h 4 0) h 11 0) h 12 127) h 13 15) h 14 168) h 14 = 168 := iI_s
          clear w25 w26 w27 w28 w29 w30 w31
          refine lv_aload_n hx hb dX9_rights_63 rfl (lv_at hl 0 rfl) ?_
          refine lv_bipush (v := 100) hx hb dX9_rights_64 (by decide) ?_
          refine pg_pi (ci := 9) (C := RX9) (T := TX9) (N := 63) hx hb hts wi9 tyX9 tyX9_ok nmX9 hown hK hW hS hk (by decide) rfl 15 (by decide) (hts (.fieldLink RX9 190 "IceHallModel" "saidFee" "I") (by decide +kernel)) (fun _ h9 => h9) rfl rfl rfl dX9_rights_66 (fun H locs hW hS => ?_)
          have w40 : sI (stI (stI (stI (stI (stI (stI (stI (stI S h 2 0) h 3 0) h 4 0) h 11 0) h 12 127) h 13 15) h 14 168) h 15 100) h 1 = 0 := (iI_k (by decide)).trans w32
          have w41 : sI (stI (stI (stI (stI (stI (stI (stI (stI S h 2 0) h 3 0) h 4 0) h 11 0) h 12 127) h 13 15) h 14 168) h 15 100) h 2 = 0 := (iI_k (by decide)).trans w33
          have w42 : sI (stI (stI (stI (stI (stI (stI (stI (stI S h 2 0) h 3 0) h 4 0) h 11 0) h 12 127) h 13 15) h 14 168) h 15 100) h 3 = 0 := (iI_k (by decide)).trans w34
          have w43 : sI (stI (stI (stI (stI (stI (stI (stI (stI S h 2 0) h 3 0) h 4 0) h 11 0) h 12 127) h 13 15) h 14 168) h 15 100) h 4 = 0 := (iI_k (by decide)).trans w35
          have w44 : sI (stI (stI (stI (stI (stI (stI (stI (stI S h 2 0) h 3 0) h 4 0) h 11 0) h 12 127) h 13 15) h 14 168) h 15 100) h 11 = 0 := (iI_k (by decide)).trans w36
          have w45 : sI (stI (stI (stI (stI (stI (stI (stI (stI S h 2 0) h 3 0) h 4 0) h 11 0) h 12 127) h 13 15) h 14 168) h 15 100) h 12 = 127 := (iI_k (by decide)).trans w37
          have w46 : sI (stI (stI (stI (stI (stI (stI (stI (stI S h 2 0) h 3 0) h 4 0) h 11 0) h 12 127) h 13 15) h 14 168) h 15 100) h 13 = 15 := (iI_k (by decide)).trans w38
          have w47 : sI (stI (stI (stI (stI (stI (stI (stI (stI S h 2 0) h 3 0) h 4 0) h 11 0) h 12 127) h 13 15) h 14 168) h 15 100) h 14 = 168 := (iI_k (by decide)).trans w39
          have w48 : sI (stI (stI (stI (stI (stI (stI (stI (stI S h 2 0) h 3 0) h 4 0) h 11 0) h 12 127) h 13 15) h 14 168) h 15 100) h 15 = 100 := iI_s
          clear w32 w33 w34 w35 w36 w37 w38 w39
          refine lv_aload_n hx hb dX9_rights_69 rfl (lv_at hl 0 rfl) ?_
          refine lv_bipush (v := 50) hx hb dX9_rights_70 (by decide) ?_
          refine pg_pi (ci := 9) (C := RX9) (T := TX9) (N := 63) hx hb hts wi9 tyX9 tyX9_ok nmX9 hown hK hW hS hk (by decide) rfl 16 (by decide) (hts (.fieldLink RX9 193 "IceHallModel" "saidHundredths" "I") (by decide +kernel)) (fun _ h9 => h9) rfl rfl rfl dX9_rights_72 (fun H locs hW hS => ?_)
          have w49 : sI (stI (stI (stI (stI (stI (stI (stI (stI (stI S h 2 0) h 3 0) h 4 0) h 11 0) h 12 127) h 13 15) h 14 168) h 15 100) h 16 50) h 1 = 0 := (iI_k (by decide)).trans w40
          have w50 : sI (stI (stI (stI (stI (stI (stI (stI (stI (stI S h 2 0) h 3 0) h 4 0) h 11 0) h 12 127) h 13 15) h 14 168) h 15 100) h 16 50) h 2 = 0 := (iI_k (by decide)).trans w41
          have w51 : sI (stI (stI (stI (stI (stI (stI (stI (stI (stI S h 2 0) h 3 0) h 4 0) h 11 0) h 12 127) h 13 15) h 14 168) h 15 100) h 16 50) h 3 = 0 := (iI_k (by decide)).trans w42
          have w52 : sI (stI (stI (stI (stI (stI (stI (stI (stI (stI S h 2 0) h 3 0) h 4 0) h 11 0) h 12 127) h 13 15) h 14 168) h 15 100) h 16 50) h 4 = 0 := (iI_k (by decide)).trans w43
          have w53 : sI (stI (stI (stI (stI (stI (stI (stI (stI (stI S h 2 0) h 3 0) h 4 0) h 11 0) h 12 127) h 13 15) h 14 168) h 15 100) h 16 50) h 11 = 0 := (iI_k (by decide)).trans w44
          have w54 : sI (stI (stI (stI (stI (stI (stI (stI (stI (stI S h 2 0) h 3 0) h 4 0) h 11 0) h 12 127) h 13 15) h 14 168) h 15 100) h 16 50) h 12 = 127 := (iI_k (by decide)).trans w45
          have w55 : sI (stI (stI (stI (stI (stI (stI (stI (stI (stI S h 2 0) h 3 0) h 4 0) h 11 0) h 12 127) h 13 15) h 14 168) h 15 100) h 16 50) h 13 = 15 := (iI_k (by decide)).trans w46
          have w56 : sI (stI (stI (stI (stI (stI (stI (stI (stI (stI S h 2 0) h 3 0) h 4 0) h 11 0) h 12 127) h 13 15) h 14 168) h 15 100) h 16 50) h 14 = 168 := (iI_k (by decide)).trans w47
          have w57 : sI (stI (stI (stI (stI (stI (stI (stI (stI (stI S h 2 0) h 3 0) h 4 0) h 11 0) h 12 127) h 13 15) h 14 168) h 15 100) h 16 50) h 15 = 100 := (iI_k (by decide)).trans w48
          have w58 : sI (stI (stI (stI (stI (stI (stI (stI (stI (stI S h 2 0) h 3 0) h 4 0) h 11 0) h 12 127) h 13 15) h 14 168) h 15 100) h 16 50) h 16 = 50 := iI_s
          clear w40 w41 w42 w43 w44 w45 w46 w47 w48
          refine lv_aload_n hx hb dX9_rights_75 rfl (lv_at hl 0 rfl) ?_
          refine pc_Vi (As := []) (rest := []) F (c_X9_readsText l D cy A (stI (stI (stI (stI (stI (stI (stI (stI (stI S h 2 0) h 3 0) h 4 0) h 11 0) h 12 127) h 13 15) h 14 168) h 15 100) h 16 50) h hk w50 w51) (cwV 0 hts gX9_rights_X9_readsText rfl rfl rfl (by decide +kernel) ⟨Nat.le_of_ble_eq_true rfl, Nat.le_of_ble_eq_true rfl⟩) hK hZ hA hW hS hk (by decide) rfl rfl hl.1 rfl (Nat.le_of_ble_eq_true rfl) dX9_rights_76 ⟨Nat.le_of_ble_eq_true rfl, Nat.le_of_ble_eq_true rfl⟩ (fun v59 T60 H locs p61 hW hS => ?_)
          obtain ⟨⟨ekT60, erT60, elT60⟩, p61⟩ := p61
          have f62 : sK T60 h = 9 := by rw [ekT60]; exact hk
          obtain ⟨y63, p61⟩ := p61
          rw [show v59 = 0 from p61]
          refine lv_istore_n (lv' := [(3, .int 0), (0, .ref h), (1, .int a), (2, .int 0)]) hx hb dX9_rights_79 rfl hl (by decide) rfl (fun ls hl => ?_)
          refine lv_aload_n hx hb dX9_rights_80 rfl (lv_at hl 1 rfl) ?_
          refine lv_iconst (v := 0) hx hb dX9_rights_81 (by decide) ?_
          refine pg_pi (ci := 9) (C := RX9) (T := TX9) (N := 63) hx hb hts wi9 tyX9 tyX9_ok nmX9 hown hK hW hS f62 (by decide) rfl 1 (by decide) (hts (.fieldLink RX9 141 "IceHallModel" "taped" "I") (by decide +kernel)) (fun _ h9 => h9) rfl rfl rfl dX9_rights_82 (fun H locs hW hS => ?_)
          have w64 : sI (stI T60 h 1 0) h 4 = 100 := (iI_k (by decide)).trans y63
          have w65 : sI (stI T60 h 1 0) h 1 = 0 := iI_s
          clear y63
          refine lv_iload_n hx hb dX9_rights_85 rfl (lv_at hl 0 rfl) ?_
          refine lv_if_ne (tgt := 94) hx hb dX9_rights_86 (by decide) (fun c66 => absurd (by decide) c66) (fun c66 => ?_)
          refine lv_aload_n hx hb dX9_rights_89 rfl (lv_at hl 1 rfl) ?_
          refine pg_gi (ci := 9) (C := RX9) (T := TX9) (N := 63) hx hb hts wi9 hown hK hW f62 (by decide) rfl 4 (by decide) (hts (.fieldLink RX9 158 "IceHallModel" "fault" "I") (by decide +kernel)) (fun _ h9 => h9) rfl dX9_rights_90 ?_
          rw [show sI (stI T60 h 1 0) h 4 = 100 from w64]
          exact pc_iret (v := 100) (S := stI T60 h 1 0) hx hb hr hlk hK hZ hA hW hS (Or.inl ⟨rfl, by have h0 : (0 : Int32).toInt = 0 := rfl; omega⟩) dX9_rights_93
        · have c4i : ¬ (Int32.toInt b ≤ (0 : Int)) := fun h9 => c4 ((i3_le _ _).mpr h9)
          refine lv_iconst (v := (-1)) hx hb dX9_rights_22 (by decide) ?_
          exact pc_iret (v := (-1)) (S := S) hx hb hr hlk hK hZ hA hW hS (Or.inr ⟨rfl, by omega⟩) dX9_rights_23
set_option maxHeartbeats 4000000 in
set_option maxRecDepth 100000 in
theorem c_X9_most (l : Launch) (D : va_G) (cy : Nat → ClassId) (A : Nat → Prop) (S : St) (h  : Nat) (a : Int32) (hk : sK S h = 9) : MI l yX9_most wsX9_most ({ frames := 0, cells := 0, slots := 0, locals := 0 } : Room) 0 0 D cy A [.ref h, .int a] S (fun r S1 => (r.toInt = 1 ∧ 1 ≤ a.toInt ∧ a.toInt ≤ 2000) ∨ (r.toInt = 0 ∧ ¬ (1 ≤ a.toInt ∧ a.toInt ≤ 2000))) := by
  refine mt_start (cc := cX9_most) (maxL := 2) (ret := (some .boolean)) (by decide) rfl (Nat.le_of_ble_eq_true rfl) ?_
  intro p e s m args below meth c hx hb hr hlk hml hown hnm hts hK hZ hA hW hS ls hl
  have hl : lv_has ls 2 [(0, .ref h), (1, .int a)] := hl
  have hown : s.vm.findClass RX9 = some m.cls := hown
  have F : CallFix p m c cX9_most 2 s args wsX9_most RX9 := ⟨hx, hb, hml, hown, hts⟩
  have wi9 : ∀ w ∈ u_ws RX9 TX9 63, w ∈ wsX9_most := by decide +kernel
  refine lv_iload_n hx hb dX9_most_0 rfl (lv_at hl 1 rfl) ?_
  refine lv_iconst (v := 1) hx hb dX9_most_1 (by decide) ?_
  refine lv_icmp_lt (tgt := 12) hx hb dX9_most_2 (by decide) (fun c1 => ?_) (fun c1 => ?_)
  · have c1i : Int32.toInt a < (1 : Int) := (i3_lt _ _).mp c1
    refine lv_iconst (v := 0) hx hb dX9_most_12 (by decide) ?_
    exact pc_zret (v := 0) (S := S) hx hb hr hlk hK hZ hA hW hS (by decide) (Or.inr ⟨rfl, by omega⟩) dX9_most_13
  · have c1i : ¬ (Int32.toInt a < (1 : Int)) := fun h9 => c1 ((i3_lt _ _).mpr h9)
    refine lv_iload_n hx hb dX9_most_5 rfl (lv_at hl 1 rfl) ?_
    refine lv_sipush (v := 2000) hx hb dX9_most_6 (by decide) ?_
    refine lv_icmp_le (tgt := 14) hx hb dX9_most_9 (by decide) (fun c2 => ?_) (fun c2 => ?_)
    · have c2i : Int32.toInt a ≤ (2000 : Int) := (i3_le _ _).mp c2
      refine lv_aload_n hx hb dX9_most_14 rfl (lv_at hl 0 rfl) ?_
      refine lv_iload_n hx hb dX9_most_15 rfl (lv_at hl 1 rfl) ?_
      refine pg_pi (ci := 9) (C := RX9) (T := TX9) (N := 63) hx hb hts wi9 tyX9 tyX9_ok nmX9 hown hK hW hS hk (by decide) rfl 23 (by decide) (hts (.fieldLink RX9 36 "IceHallModel" "mostOf" "I") (by decide +kernel)) (fun _ h9 => h9) rfl rfl rfl dX9_most_16 (fun H locs hW hS => ?_)
      have w3 : sI (stI S h 23 a) h 23 = a := iI_s
      refine lv_iconst (v := 1) hx hb dX9_most_19 (by decide) ?_
      exact pc_zret (v := 1) (S := stI S h 23 a) hx hb hr hlk hK hZ hA hW hS (by decide) (Or.inl ⟨rfl, by omega⟩) dX9_most_20
    · have c2i : ¬ (Int32.toInt a ≤ (2000 : Int)) := fun h9 => c2 ((i3_le _ _).mpr h9)
      refine lv_iconst (v := 0) hx hb dX9_most_12 (by decide) ?_
      exact pc_zret (v := 0) (S := S) hx hb hr hlk hK hZ hA hW hS (by decide) (Or.inr ⟨rfl, by omega⟩) dX9_most_13
set_option maxHeartbeats 4000000 in
set_option maxRecDepth 100000 in
theorem c_X9_compressors (l : Launch) (D : va_G) (cy : Nat → ClassId) (A : Nat → Prop) (S : St) (h  : Nat) (a : Int32) (hk : sK S h = 9) : MI l yX9_compressors wsX9_compressors ({ frames := 0, cells := 0, slots := 0, locals := 0 } : Room) 0 0 D cy A [.ref h, .int a] S (fun r S1 => (r.toInt = 1 ∧ 0 ≤ a.toInt ∧ a.toInt ≤ 3) ∨ (r.toInt = 0 ∧ ¬ (0 ≤ a.toInt ∧ a.toInt ≤ 3))) := by
  refine mt_start (cc := cX9_compressors) (maxL := 2) (ret := (some .boolean)) (by decide) rfl (Nat.le_of_ble_eq_true rfl) ?_
  intro p e s m args below meth c hx hb hr hlk hml hown hnm hts hK hZ hA hW hS ls hl
  have hl : lv_has ls 2 [(0, .ref h), (1, .int a)] := hl
  have hown : s.vm.findClass RX9 = some m.cls := hown
  have F : CallFix p m c cX9_compressors 2 s args wsX9_compressors RX9 := ⟨hx, hb, hml, hown, hts⟩
  have wi9 : ∀ w ∈ u_ws RX9 TX9 63, w ∈ wsX9_compressors := by decide +kernel
  refine lv_iload_n hx hb dX9_compressors_0 rfl (lv_at hl 1 rfl) ?_
  refine lv_if_lt (tgt := 9) hx hb dX9_compressors_1 (by decide) (fun c1 => ?_) (fun c1 => ?_)
  · have c1i : Int32.toInt a < (0 : Int) := (i3_lt _ _).mp c1
    refine lv_iconst (v := 0) hx hb dX9_compressors_9 (by decide) ?_
    exact pc_zret (v := 0) (S := S) hx hb hr hlk hK hZ hA hW hS (by decide) (Or.inr ⟨rfl, by omega⟩) dX9_compressors_10
  · have c1i : ¬ (Int32.toInt a < (0 : Int)) := fun h9 => c1 ((i3_lt _ _).mpr h9)
    refine lv_iload_n hx hb dX9_compressors_4 rfl (lv_at hl 1 rfl) ?_
    refine lv_iconst (v := 3) hx hb dX9_compressors_5 (by decide) ?_
    refine lv_icmp_le (tgt := 11) hx hb dX9_compressors_6 (by decide) (fun c2 => ?_) (fun c2 => ?_)
    · have c2i : Int32.toInt a ≤ (3 : Int) := (i3_le _ _).mp c2
      refine lv_aload_n hx hb dX9_compressors_11 rfl (lv_at hl 0 rfl) ?_
      refine lv_iload_n hx hb dX9_compressors_12 rfl (lv_at hl 1 rfl) ?_
      refine pg_pi (ci := 9) (C := RX9) (T := TX9) (N := 63) hx hb hts wi9 tyX9 tyX9_ok nmX9 hown hK hW hS hk (by decide) rfl 24 (by decide) (hts (.fieldLink RX9 39 "IceHallModel" "working" "I") (by decide +kernel)) (fun _ h9 => h9) rfl rfl rfl dX9_compressors_13 (fun H locs hW hS => ?_)
      have w3 : sI (stI S h 24 a) h 24 = a := iI_s
      refine lv_iconst (v := 1) hx hb dX9_compressors_16 (by decide) ?_
      exact pc_zret (v := 1) (S := stI S h 24 a) hx hb hr hlk hK hZ hA hW hS (by decide) (Or.inl ⟨rfl, by omega⟩) dX9_compressors_17
    · have c2i : ¬ (Int32.toInt a ≤ (3 : Int)) := fun h9 => c2 ((i3_le _ _).mpr h9)
      refine lv_iconst (v := 0) hx hb dX9_compressors_9 (by decide) ?_
      exact pc_zret (v := 0) (S := S) hx hb hr hlk hK hZ hA hW hS (by decide) (Or.inr ⟨rfl, by omega⟩) dX9_compressors_10
set_option maxHeartbeats 4000000 in
set_option maxRecDepth 100000 in
theorem c_X9_price (l : Launch) (D : va_G) (cy : Nat → ClassId) (A : Nat → Prop) (S : St) (h m_priceOf : Nat) (a b : Int32) (hk : sK S h = 9) (r_26 : sR S h 26 = some m_priceOf) (k_26 : sK S m_priceOf = 11) (n_26 : sL S m_priceOf = 24) : MI l yX9_price wsX9_price ({ frames := 0, cells := 0, slots := 0, locals := 0 } : Room) 0 0 D cy A [.ref h, .int a, .int b] S (fun r S1 => (r.toInt = 1 ∧ 0 ≤ a.toInt ∧ a.toInt < 24 ∧ 0 ≤ b.toInt ∧ b.toInt ≤ 99) ∨ (r.toInt = 0 ∧ ¬ (0 ≤ a.toInt ∧ a.toInt < 24 ∧ 0 ≤ b.toInt ∧ b.toInt ≤ 99))) := by
  refine mt_start (cc := cX9_price) (maxL := 3) (ret := (some .boolean)) (by decide) rfl (Nat.le_of_ble_eq_true rfl) ?_
  intro p e s m args below meth c hx hb hr hlk hml hown hnm hts hK hZ hA hW hS ls hl
  have hl : lv_has ls 3 [(0, .ref h), (1, .int a), (2, .int b)] := hl
  have hown : s.vm.findClass RX9 = some m.cls := hown
  have F : CallFix p m c cX9_price 3 s args wsX9_price RX9 := ⟨hx, hb, hml, hown, hts⟩
  have wi9 : ∀ w ∈ u_ws RX9 TX9 63, w ∈ wsX9_price := by decide +kernel
  refine lv_iload_n hx hb dX9_price_0 rfl (lv_at hl 1 rfl) ?_
  refine lv_if_lt (tgt := 20) hx hb dX9_price_1 (by decide) (fun c1 => ?_) (fun c1 => ?_)
  · have c1i : Int32.toInt a < (0 : Int) := (i3_lt _ _).mp c1
    refine lv_iconst (v := 0) hx hb dX9_price_20 (by decide) ?_
    exact pc_zret (v := 0) (S := S) hx hb hr hlk hK hZ hA hW hS (by decide) (Or.inr ⟨rfl, by omega⟩) dX9_price_21
  · have c1i : ¬ (Int32.toInt a < (0 : Int)) := fun h9 => c1 ((i3_lt _ _).mpr h9)
    refine lv_iload_n hx hb dX9_price_4 rfl (lv_at hl 1 rfl) ?_
    refine lv_bipush (v := 23) hx hb dX9_price_5 (by decide) ?_
    refine lv_icmp_gt (tgt := 20) hx hb dX9_price_7 (by decide) (fun c2 => ?_) (fun c2 => ?_)
    · have c2i : (23 : Int) < Int32.toInt a := (i3_lt _ _).mp c2
      refine lv_iconst (v := 0) hx hb dX9_price_20 (by decide) ?_
      exact pc_zret (v := 0) (S := S) hx hb hr hlk hK hZ hA hW hS (by decide) (Or.inr ⟨rfl, by omega⟩) dX9_price_21
    · have c2i : ¬ ((23 : Int) < Int32.toInt a) := fun h9 => c2 ((i3_lt _ _).mpr h9)
      refine lv_iload_n hx hb dX9_price_10 rfl (lv_at hl 2 rfl) ?_
      refine lv_if_lt (tgt := 20) hx hb dX9_price_11 (by decide) (fun c3 => ?_) (fun c3 => ?_)
      · have c3i : Int32.toInt b < (0 : Int) := (i3_lt _ _).mp c3
        refine lv_iconst (v := 0) hx hb dX9_price_20 (by decide) ?_
        exact pc_zret (v := 0) (S := S) hx hb hr hlk hK hZ hA hW hS (by decide) (Or.inr ⟨rfl, by omega⟩) dX9_price_21
      · have c3i : ¬ (Int32.toInt b < (0 : Int)) := fun h9 => c3 ((i3_lt _ _).mpr h9)
        refine lv_iload_n hx hb dX9_price_14 rfl (lv_at hl 2 rfl) ?_
        refine lv_bipush (v := 99) hx hb dX9_price_15 (by decide) ?_
        refine lv_icmp_le (tgt := 22) hx hb dX9_price_17 (by decide) (fun c4 => ?_) (fun c4 => ?_)
        · have c4i : Int32.toInt b ≤ (99 : Int) := (i3_le _ _).mp c4
          refine lv_aload_n hx hb dX9_price_22 rfl (lv_at hl 0 rfl) ?_
          refine pg_gr (b := m_priceOf) (ci := 9) (C := RX9) (T := TX9) (N := 63) hx hb hts wi9 hown hK hW hk (by decide) rfl 26 (by decide) (hts (.fieldLink RX9 45 "IceHallModel" "priceOf" "[I") (by decide +kernel)) (fun _ h9 => h9) rfl r_26 dX9_price_23 ?_
          refine lv_iload_n hx hb dX9_price_26 rfl (lv_at hl 1 rfl) ?_
          refine lv_iload_n hx hb dX9_price_27 rfl (lv_at hl 2 rfl) ?_
          refine pg_iast hx hb hK hW hS k_26 (by rw [show sL S m_priceOf = 24 from n_26]; exact r_in (by omega)) dX9_price_28 (fun H locs hW hS => ?_)
          refine lv_iconst (v := 1) hx hb dX9_price_29 (by decide) ?_
          exact pc_zret (v := 1) (S := stI S m_priceOf (Int32.toNatClampNeg a) b) hx hb hr hlk hK hZ hA hW hS (by decide) (Or.inl ⟨rfl, by omega⟩) dX9_price_30
        · have c4i : ¬ (Int32.toInt b ≤ (99 : Int)) := fun h9 => c4 ((i3_le _ _).mpr h9)
          refine lv_iconst (v := 0) hx hb dX9_price_20 (by decide) ?_
          exact pc_zret (v := 0) (S := S) hx hb hr hlk hK hZ hA hW hS (by decide) (Or.inr ⟨rfl, by omega⟩) dX9_price_21
set_option maxHeartbeats 4000000 in
set_option maxRecDepth 100000 in
theorem c_X9_rest (l : Launch) (D : va_G) (cy : Nat → ClassId) (A : Nat → Prop) (S : St) (h  : Nat) (a : Int32) (hk : sK S h = 9) : MI l yX9_rest wsX9_rest ({ frames := 0, cells := 0, slots := 0, locals := 0 } : Room) 0 0 D cy A [.ref h, .int a] S (fun r S1 => (r.toInt = 1 ∧ 1 ≤ a.toInt ∧ a.toInt ≤ 12) ∨ (r.toInt = 0 ∧ ¬ (1 ≤ a.toInt ∧ a.toInt ≤ 12))) := by
  refine mt_start (cc := cX9_rest) (maxL := 2) (ret := (some .boolean)) (by decide) rfl (Nat.le_of_ble_eq_true rfl) ?_
  intro p e s m args below meth c hx hb hr hlk hml hown hnm hts hK hZ hA hW hS ls hl
  have hl : lv_has ls 2 [(0, .ref h), (1, .int a)] := hl
  have hown : s.vm.findClass RX9 = some m.cls := hown
  have F : CallFix p m c cX9_rest 2 s args wsX9_rest RX9 := ⟨hx, hb, hml, hown, hts⟩
  have wi9 : ∀ w ∈ u_ws RX9 TX9 63, w ∈ wsX9_rest := by decide +kernel
  refine lv_iload_n hx hb dX9_rest_0 rfl (lv_at hl 1 rfl) ?_
  refine lv_iconst (v := 1) hx hb dX9_rest_1 (by decide) ?_
  refine lv_icmp_lt (tgt := 11) hx hb dX9_rest_2 (by decide) (fun c1 => ?_) (fun c1 => ?_)
  · have c1i : Int32.toInt a < (1 : Int) := (i3_lt _ _).mp c1
    refine lv_iconst (v := 0) hx hb dX9_rest_11 (by decide) ?_
    exact pc_zret (v := 0) (S := S) hx hb hr hlk hK hZ hA hW hS (by decide) (Or.inr ⟨rfl, by omega⟩) dX9_rest_12
  · have c1i : ¬ (Int32.toInt a < (1 : Int)) := fun h9 => c1 ((i3_lt _ _).mpr h9)
    refine lv_iload_n hx hb dX9_rest_5 rfl (lv_at hl 1 rfl) ?_
    refine lv_bipush (v := 12) hx hb dX9_rest_6 (by decide) ?_
    refine lv_icmp_le (tgt := 13) hx hb dX9_rest_8 (by decide) (fun c2 => ?_) (fun c2 => ?_)
    · have c2i : Int32.toInt a ≤ (12 : Int) := (i3_le _ _).mp c2
      refine lv_aload_n hx hb dX9_rest_13 rfl (lv_at hl 0 rfl) ?_
      refine lv_iload_n hx hb dX9_rest_14 rfl (lv_at hl 1 rfl) ?_
      refine pg_pi (ci := 9) (C := RX9) (T := TX9) (N := 63) hx hb hts wi9 tyX9 tyX9_ok nmX9 hown hK hW hS hk (by decide) rfl 25 (by decide) (hts (.fieldLink RX9 42 "IceHallModel" "restOf" "I") (by decide +kernel)) (fun _ h9 => h9) rfl rfl rfl dX9_rest_15 (fun H locs hW hS => ?_)
      have w3 : sI (stI S h 25 a) h 25 = a := iI_s
      refine lv_iconst (v := 1) hx hb dX9_rest_18 (by decide) ?_
      exact pc_zret (v := 1) (S := stI S h 25 a) hx hb hr hlk hK hZ hA hW hS (by decide) (Or.inl ⟨rfl, by omega⟩) dX9_rest_19
    · have c2i : ¬ (Int32.toInt a ≤ (12 : Int)) := fun h9 => c2 ((i3_le _ _).mpr h9)
      refine lv_iconst (v := 0) hx hb dX9_rest_11 (by decide) ?_
      exact pc_zret (v := 0) (S := S) hx hb hr hlk hK hZ hA hW hS (by decide) (Or.inr ⟨rfl, by omega⟩) dX9_rest_12
set_option maxHeartbeats 4000000 in
set_option maxRecDepth 100000 in
theorem c_X9_cut (l : Launch) (D : va_G) (cy : Nat → ClassId) (A : Nat → Prop) (S : St) (h m_cutShave m_cutFlood m_hasCut : Nat) (a b d : Int32) (hk : sK S h = 9) (r_32 : sR S h 32 = some m_cutShave) (k_32 : sK S m_cutShave = 11) (n_32 : sL S m_cutShave = 2) (r_33 : sR S h 33 = some m_cutFlood) (k_33 : sK S m_cutFlood = 11) (n_33 : sL S m_cutFlood = 2) (r_34 : sR S h 34 = some m_hasCut) (k_34 : sK S m_hasCut = 13) (n_34 : sL S m_hasCut = 2) : MI l yX9_cut wsX9_cut ({ frames := 1, cells := 0, slots := 0, locals := 20 } : Room) 0 0 D cy A [.ref h, .int a, .int b, .int d] S (fun r S1 => (r.toInt = 1 ∧ 0 ≤ a.toInt ∧ a.toInt < 2 ∧ 0 ≤ b.toInt ∧ b.toInt ≤ 20 ∧ 0 ≤ d.toInt ∧ d.toInt ≤ 20) ∨ (r.toInt = 0 ∧ ¬ (0 ≤ a.toInt ∧ a.toInt < 2 ∧ 0 ≤ b.toInt ∧ b.toInt ≤ 20 ∧ 0 ≤ d.toInt ∧ d.toInt ≤ 20))) := by
  refine mt_start (cc := cX9_cut) (maxL := 4) (ret := (some .boolean)) (by decide) rfl (Nat.le_of_ble_eq_true rfl) ?_
  intro p e s m args below meth c hx hb hr hlk hml hown hnm hts hK hZ hA hW hS ls hl
  have hl : lv_has ls 4 [(0, .ref h), (1, .int a), (2, .int b), (3, .int d)] := hl
  have hown : s.vm.findClass RX9 = some m.cls := hown
  have F : CallFix p m c cX9_cut 4 s args wsX9_cut RX9 := ⟨hx, hb, hml, hown, hts⟩
  have wi9 : ∀ w ∈ u_ws RX9 TX9 63, w ∈ wsX9_cut := by decide +kernel
  refine lv_iload_n hx hb dX9_cut_0 rfl (lv_at hl 1 rfl) ?_
  refine pc_Si (As := [.int a]) (rest := []) F (c_X9_isSheet l D cy A S a ) (va_cwS 1 hts gX9_cut_X9_isSheet rfl rfl rfl (by decide +kernel) ⟨Nat.le_of_ble_eq_true rfl, Nat.le_of_ble_eq_true rfl⟩) hK hZ hA hW hS rfl hl.1 rfl (Nat.le_of_ble_eq_true rfl) dX9_cut_1 ⟨Nat.le_of_ble_eq_true rfl, Nat.le_of_ble_eq_true rfl⟩ (fun v1 T2 H locs p3 hW hS => ?_)
  obtain ⟨eT2, p3⟩ := p3
  rw [eT2] at hW
  refine lv_if_eq (tgt := 27) hx hb dX9_cut_4 (by decide) (fun c4 => ?_) (fun c4 => ?_)
  · have c4i : Int32.toInt v1 = (0 : Int) := (i3_eq _ _).mp c4
    refine lv_iconst (v := 0) hx hb dX9_cut_27 (by decide) ?_
    exact pc_zret (v := 0) (S := S) hx hb hr hlk hK hZ hA hW hS (by decide) (Or.inr ⟨rfl, by omega⟩) dX9_cut_28
  · have c4i : ¬ (Int32.toInt v1 = (0 : Int)) := fun h9 => c4 ((i3_eq _ _).mpr h9)
    refine lv_iload_n hx hb dX9_cut_7 rfl (lv_at hl 2 rfl) ?_
    refine lv_if_lt (tgt := 27) hx hb dX9_cut_8 (by decide) (fun c5 => ?_) (fun c5 => ?_)
    · have c5i : Int32.toInt b < (0 : Int) := (i3_lt _ _).mp c5
      refine lv_iconst (v := 0) hx hb dX9_cut_27 (by decide) ?_
      exact pc_zret (v := 0) (S := S) hx hb hr hlk hK hZ hA hW hS (by decide) (Or.inr ⟨rfl, by omega⟩) dX9_cut_28
    · have c5i : ¬ (Int32.toInt b < (0 : Int)) := fun h9 => c5 ((i3_lt _ _).mpr h9)
      refine lv_iload_n hx hb dX9_cut_11 rfl (lv_at hl 2 rfl) ?_
      refine lv_bipush (v := 20) hx hb dX9_cut_12 (by decide) ?_
      refine lv_icmp_gt (tgt := 27) hx hb dX9_cut_14 (by decide) (fun c6 => ?_) (fun c6 => ?_)
      · have c6i : (20 : Int) < Int32.toInt b := (i3_lt _ _).mp c6
        refine lv_iconst (v := 0) hx hb dX9_cut_27 (by decide) ?_
        exact pc_zret (v := 0) (S := S) hx hb hr hlk hK hZ hA hW hS (by decide) (Or.inr ⟨rfl, by omega⟩) dX9_cut_28
      · have c6i : ¬ ((20 : Int) < Int32.toInt b) := fun h9 => c6 ((i3_lt _ _).mpr h9)
        refine lv_iload_n hx hb dX9_cut_17 rfl (lv_at hl 3 rfl) ?_
        refine lv_if_lt (tgt := 27) hx hb dX9_cut_18 (by decide) (fun c7 => ?_) (fun c7 => ?_)
        · have c7i : Int32.toInt d < (0 : Int) := (i3_lt _ _).mp c7
          refine lv_iconst (v := 0) hx hb dX9_cut_27 (by decide) ?_
          exact pc_zret (v := 0) (S := S) hx hb hr hlk hK hZ hA hW hS (by decide) (Or.inr ⟨rfl, by omega⟩) dX9_cut_28
        · have c7i : ¬ (Int32.toInt d < (0 : Int)) := fun h9 => c7 ((i3_lt _ _).mpr h9)
          refine lv_iload_n hx hb dX9_cut_21 rfl (lv_at hl 3 rfl) ?_
          refine lv_bipush (v := 20) hx hb dX9_cut_22 (by decide) ?_
          refine lv_icmp_le (tgt := 29) hx hb dX9_cut_24 (by decide) (fun c8 => ?_) (fun c8 => ?_)
          · have c8i : Int32.toInt d ≤ (20 : Int) := (i3_le _ _).mp c8
            refine lv_aload_n hx hb dX9_cut_29 rfl (lv_at hl 0 rfl) ?_
            refine pg_gr (b := m_hasCut) (ci := 9) (C := RX9) (T := TX9) (N := 63) hx hb hts wi9 hown hK hW hk (by decide) rfl 34 (by decide) (hts (.fieldLink RX9 69 "IceHallModel" "hasCut" "[Z") (by decide +kernel)) (fun _ h9 => h9) rfl r_34 dX9_cut_30 ?_
            refine lv_iload_n hx hb dX9_cut_33 rfl (lv_at hl 1 rfl) ?_
            refine lv_iconst (v := 1) hx hb dX9_cut_34 (by decide) ?_
            refine pg_zast hx hb hK hW hS k_34 (by rw [show sL S m_hasCut = 2 from n_34]; exact r_in (by omega)) dX9_cut_35 (fun H locs hW hS => ?_)
            refine lv_aload_n hx hb dX9_cut_36 rfl (lv_at hl 0 rfl) ?_
            refine pg_gr (b := m_cutShave) (ci := 9) (C := RX9) (T := TX9) (N := 63) hx hb hts wi9 hown hK hW hk (by decide) rfl 32 (by decide) (hts (.fieldLink RX9 63 "IceHallModel" "cutShave" "[I") (by decide +kernel)) (fun _ h9 => h9) rfl r_32 dX9_cut_37 ?_
            refine lv_iload_n hx hb dX9_cut_40 rfl (lv_at hl 1 rfl) ?_
            refine lv_iload_n hx hb dX9_cut_41 rfl (lv_at hl 2 rfl) ?_
            refine pg_iast hx hb hK hW hS k_32 (by rw [show sL (stI S m_hasCut (Int32.toNatClampNeg a) (vp_nar .boolean 1)) m_cutShave = 2 from n_32]; exact r_in (by omega)) dX9_cut_42 (fun H locs hW hS => ?_)
            refine lv_aload_n hx hb dX9_cut_43 rfl (lv_at hl 0 rfl) ?_
            refine pg_gr (b := m_cutFlood) (ci := 9) (C := RX9) (T := TX9) (N := 63) hx hb hts wi9 hown hK hW hk (by decide) rfl 33 (by decide) (hts (.fieldLink RX9 66 "IceHallModel" "cutFlood" "[I") (by decide +kernel)) (fun _ h9 => h9) rfl r_33 dX9_cut_44 ?_
            refine lv_iload_n hx hb dX9_cut_47 rfl (lv_at hl 1 rfl) ?_
            refine lv_iload_n hx hb dX9_cut_48 rfl (lv_at hl 3 rfl) ?_
            refine pg_iast hx hb hK hW hS k_33 (by rw [show sL (stI (stI S m_hasCut (Int32.toNatClampNeg a) (vp_nar .boolean 1)) m_cutShave (Int32.toNatClampNeg a) b) m_cutFlood = 2 from n_33]; exact r_in (by omega)) dX9_cut_49 (fun H locs hW hS => ?_)
            refine lv_iconst (v := 1) hx hb dX9_cut_50 (by decide) ?_
            exact pc_zret (v := 1) (S := stI (stI (stI S m_hasCut (Int32.toNatClampNeg a) (vp_nar .boolean 1)) m_cutShave (Int32.toNatClampNeg a) b) m_cutFlood (Int32.toNatClampNeg a) d) hx hb hr hlk hK hZ hA hW hS (by decide) (Or.inl ⟨rfl, by omega⟩) dX9_cut_51
          · have c8i : ¬ (Int32.toInt d ≤ (20 : Int)) := fun h9 => c8 ((i3_le _ _).mpr h9)
            refine lv_iconst (v := 0) hx hb dX9_cut_27 (by decide) ?_
            exact pc_zret (v := 0) (S := S) hx hb hr hlk hK hZ hA hW hS (by decide) (Or.inr ⟨rfl, by omega⟩) dX9_cut_28
set_option maxHeartbeats 4000000 in
set_option maxRecDepth 100000 in
theorem c_X9_standing (l : Launch) (D : va_G) (cy : Nat → ClassId) (A : Nat → Prop) (S : St) (h  : Nat) (a b : Int32) (hk : sK S h = 9) (i_35 : sI S h 35 = 0) : MI l yX9_standing wsX9_standing ({ frames := 0, cells := 0, slots := 0, locals := 0 } : Room) 0 0 D cy A [.ref h, .int a, .int b] S (fun r S1 => S1 = S ∧ r = (-1)) := by
  refine mt_start (cc := cX9_standing) (maxL := 4) (ret := (some .int)) (by decide) rfl (Nat.le_of_ble_eq_true rfl) ?_
  intro p e s m args below meth c hx hb hr hlk hml hown hnm hts hK hZ hA hW hS ls hl
  have hl : lv_has ls 4 [(0, .ref h), (1, .int a), (2, .int b)] := hl
  have hown : s.vm.findClass RX9 = some m.cls := hown
  have F : CallFix p m c cX9_standing 4 s args wsX9_standing RX9 := ⟨hx, hb, hml, hown, hts⟩
  have wi9 : ∀ w ∈ u_ws RX9 TX9 63, w ∈ wsX9_standing := by decide +kernel
  refine lv_iconst (v := 0) hx hb dX9_standing_0 (by decide) ?_
  refine lv_istore_n (lv' := [(3, .int 0), (0, .ref h), (1, .int a), (2, .int b)]) hx hb dX9_standing_1 rfl hl (by decide) rfl (fun ls hl => ?_)
  refine lv_iload_n hx hb dX9_standing_2 rfl (lv_at hl 0 rfl) ?_
  refine lv_aload_n hx hb dX9_standing_3 rfl (lv_at hl 1 rfl) ?_
  refine pg_gi (ci := 9) (C := RX9) (T := TX9) (N := 63) hx hb hts wi9 hown hK hW hk (by decide) rfl 35 (by decide) (hts (.fieldLink RX9 205 "IceHallModel" "sessions" "I") (by decide +kernel)) (fun _ h9 => h9) rfl dX9_standing_4 ?_
  rw [show sI S h 35 = 0 from i_35]
  refine lv_icmp_ge (tgt := 48) hx hb dX9_standing_7 (by decide) (fun c1 => ?_) (fun c1 => absurd (by decide) c1)
  refine lv_iconst (v := (-1)) hx hb dX9_standing_48 (by decide) ?_
  exact pc_iret (v := (-1)) (S := S) hx hb hr hlk hK hZ hA hW hS (⟨rfl, rfl⟩) dX9_standing_49
set_option maxHeartbeats 4000000 in
set_option maxRecDepth 100000 in
theorem c_X9_isClosed (l : Launch) (D : va_G) (cy : Nat → ClassId) (A : Nat → Prop) (S : St) (h  : Nat) (a b : Int32) (hk : sK S h = 9) (i_36 : sI S h 36 = 0) : MI l yX9_isClosed wsX9_isClosed ({ frames := 0, cells := 0, slots := 0, locals := 0 } : Room) 0 0 D cy A [.ref h, .int a, .int b] S (fun r S1 => S1 = S ∧ r = 0) := by
  refine mt_start (cc := cX9_isClosed) (maxL := 4) (ret := (some .boolean)) (by decide) rfl (Nat.le_of_ble_eq_true rfl) ?_
  intro p e s m args below meth c hx hb hr hlk hml hown hnm hts hK hZ hA hW hS ls hl
  have hl : lv_has ls 4 [(0, .ref h), (1, .int a), (2, .int b)] := hl
  have hown : s.vm.findClass RX9 = some m.cls := hown
  have F : CallFix p m c cX9_isClosed 4 s args wsX9_isClosed RX9 := ⟨hx, hb, hml, hown, hts⟩
  have wi9 : ∀ w ∈ u_ws RX9 TX9 63, w ∈ wsX9_isClosed := by decide +kernel
  refine lv_iconst (v := 0) hx hb dX9_isClosed_0 (by decide) ?_
  refine lv_istore_n (lv' := [(3, .int 0), (0, .ref h), (1, .int a), (2, .int b)]) hx hb dX9_isClosed_1 rfl hl (by decide) rfl (fun ls hl => ?_)
  refine lv_iload_n hx hb dX9_isClosed_2 rfl (lv_at hl 0 rfl) ?_
  refine lv_aload_n hx hb dX9_isClosed_3 rfl (lv_at hl 1 rfl) ?_
  refine pg_gi (ci := 9) (C := RX9) (T := TX9) (N := 63) hx hb hts wi9 hown hK hW hk (by decide) rfl 36 (by decide) (hts (.fieldLink RX9 202 "IceHallModel" "closings" "I") (by decide +kernel)) (fun _ h9 => h9) rfl dX9_isClosed_4 ?_
  rw [show sI S h 36 = 0 from i_36]
  refine lv_icmp_ge (tgt := 48) hx hb dX9_isClosed_7 (by decide) (fun c1 => ?_) (fun c1 => absurd (by decide) c1)
  refine lv_iconst (v := 0) hx hb dX9_isClosed_48 (by decide) ?_
  exact pc_zret (v := 0) (S := S) hx hb hr hlk hK hZ hA hW hS (by decide) (⟨rfl, rfl⟩) dX9_isClosed_49
set_option maxHeartbeats 4000000 in
set_option maxRecDepth 100000 in
theorem c_X9_inRow (l : Launch) (D : va_G) (cy : Nat → ClassId) (A : Nat → Prop) (S : St) (h  : Nat) (a b : Int32) (hk : sK S h = 9) (i_35 : sI S h 35 = 0) : MI l yX9_inRow wsX9_inRow ({ frames := 1, cells := 0, slots := 0, locals := 23 } : Room) 0 0 D cy A [.ref h, .int a, .int b] S (fun r S1 => S1 = S ∧ r = 1) := by
  refine mt_start (cc := cX9_inRow) (maxL := 5) (ret := (some .int)) (by decide) rfl (Nat.le_of_ble_eq_true rfl) ?_
  intro p e s m args below meth c hx hb hr hlk hml hown hnm hts hK hZ hA hW hS ls hl
  have hl : lv_has ls 5 [(0, .ref h), (1, .int a), (2, .int b)] := hl
  have hown : s.vm.findClass RX9 = some m.cls := hown
  have F : CallFix p m c cX9_inRow 5 s args wsX9_inRow RX9 := ⟨hx, hb, hml, hown, hts⟩
  refine lv_iconst (v := 1) hx hb dX9_inRow_0 (by decide) ?_
  refine lv_istore_n (lv' := [(3, .int 1), (0, .ref h), (1, .int a), (2, .int b)]) hx hb dX9_inRow_1 rfl hl (by decide) rfl (fun ls hl => ?_)
  refine lv_iload_n hx hb dX9_inRow_2 rfl (lv_at hl 3 rfl) ?_
  refine lv_iconst (v := 1) hx hb dX9_inRow_3 (by decide) ?_
  refine lv_isub hx hb dX9_inRow_4 ?_
  refine lv_istore (lv' := [(4, .int (b - 1)), (3, .int 1), (0, .ref h), (1, .int a), (2, .int b)]) hx hb dX9_inRow_5 hl (by decide) rfl (fun ls hl => ?_)
  refine lv_aload_n hx hb dX9_inRow_7 rfl (lv_at hl 2 rfl) ?_
  refine lv_iload_n hx hb dX9_inRow_8 rfl (lv_at hl 3 rfl) ?_
  refine lv_iload hx hb dX9_inRow_9 (lv_at hl 0 rfl) ?_
  refine pc_Vi (As := [.int a, .int (b - 1)]) (rest := []) F (c_X9_standing l D cy A S h a (b - 1) hk i_35) (cwV 2 hts gX9_inRow_X9_standing rfl rfl rfl (by decide +kernel) ⟨Nat.le_of_ble_eq_true rfl, Nat.le_of_ble_eq_true rfl⟩) hK hZ hA hW hS hk (by decide) rfl rfl hl.1 rfl (Nat.le_of_ble_eq_true rfl) dX9_inRow_11 ⟨Nat.le_of_ble_eq_true rfl, Nat.le_of_ble_eq_true rfl⟩ (fun v1 T2 H locs p3 hW hS => ?_)
  obtain ⟨eT2, p3⟩ := p3
  rw [eT2] at hW
  rw [show v1 = (-1) from p3]
  refine lv_iconst (v := (-1)) hx hb dX9_inRow_14 (by decide) ?_
  refine lv_icmp_eq (tgt := 31) hx hb dX9_inRow_15 (by decide) (fun c4 => ?_) (fun c4 => absurd (by decide) c4)
  refine lv_iload_n hx hb dX9_inRow_31 rfl (lv_at hl 4 rfl) ?_
  refine lv_iconst (v := 1) hx hb dX9_inRow_32 (by decide) ?_
  refine lv_iadd hx hb dX9_inRow_33 ?_
  refine lv_istore (lv' := [(4, .int (b + 1)), (3, .int 1), (0, .ref h), (1, .int a), (2, .int b)]) hx hb dX9_inRow_34 hl (by decide) rfl (fun ls hl => ?_)
  refine lv_aload_n hx hb dX9_inRow_36 rfl (lv_at hl 2 rfl) ?_
  refine lv_iload_n hx hb dX9_inRow_37 rfl (lv_at hl 3 rfl) ?_
  refine lv_iload hx hb dX9_inRow_38 (lv_at hl 0 rfl) ?_
  refine pc_Vi (As := [.int a, .int (b + 1)]) (rest := []) F (c_X9_standing l D cy A S h a (b + 1) hk i_35) (cwV 2 hts gX9_inRow_X9_standing rfl rfl rfl (by decide +kernel) ⟨Nat.le_of_ble_eq_true rfl, Nat.le_of_ble_eq_true rfl⟩) hK hZ hA hW hS hk (by decide) rfl rfl hl.1 rfl (Nat.le_of_ble_eq_true rfl) dX9_inRow_40 ⟨Nat.le_of_ble_eq_true rfl, Nat.le_of_ble_eq_true rfl⟩ (fun v5 T6 H locs p7 hW hS => ?_)
  obtain ⟨eT6, p7⟩ := p7
  rw [eT6] at hW
  rw [show v5 = (-1) from p7]
  refine lv_iconst (v := (-1)) hx hb dX9_inRow_43 (by decide) ?_
  refine lv_icmp_eq (tgt := 60) hx hb dX9_inRow_44 (by decide) (fun c8 => ?_) (fun c8 => absurd (by decide) c8)
  refine lv_iload_n hx hb dX9_inRow_60 rfl (lv_at hl 1 rfl) ?_
  exact pc_iret (v := 1) (S := S) hx hb hr hlk hK hZ hA hW hS (⟨rfl, rfl⟩) dX9_inRow_61
set_option maxHeartbeats 4000000 in
set_option maxRecDepth 100000 in
theorem c_X9_inWeek (l : Launch) (D : va_G) (cy : Nat → ClassId) (A : Nat → Prop) (S : St) (h  : Nat) (a b : Int32) (hk : sK S h = 9) (i_35 : sI S h 35 = 0) : MI l yX9_inWeek wsX9_inWeek ({ frames := 0, cells := 0, slots := 0, locals := 0 } : Room) 0 0 D cy A [.ref h, .int a, .int b] S (fun r S1 => S1 = S ∧ r = 0) := by
  refine mt_start (cc := cX9_inWeek) (maxL := 5) (ret := (some .int)) (by decide) rfl (Nat.le_of_ble_eq_true rfl) ?_
  intro p e s m args below meth c hx hb hr hlk hml hown hnm hts hK hZ hA hW hS ls hl
  have hl : lv_has ls 5 [(0, .ref h), (1, .int a), (2, .int b)] := hl
  have hown : s.vm.findClass RX9 = some m.cls := hown
  have F : CallFix p m c cX9_inWeek 5 s args wsX9_inWeek RX9 := ⟨hx, hb, hml, hown, hts⟩
  have wi9 : ∀ w ∈ u_ws RX9 TX9 63, w ∈ wsX9_inWeek := by decide +kernel
  refine lv_iconst (v := 0) hx hb dX9_inWeek_0 (by decide) ?_
  refine lv_istore_n (lv' := [(3, .int 0), (0, .ref h), (1, .int a), (2, .int b)]) hx hb dX9_inWeek_1 rfl hl (by decide) rfl (fun ls hl => ?_)
  refine lv_iconst (v := 0) hx hb dX9_inWeek_2 (by decide) ?_
  refine lv_istore (lv' := [(4, .int 0), (3, .int 0), (0, .ref h), (1, .int a), (2, .int b)]) hx hb dX9_inWeek_3 hl (by decide) rfl (fun ls hl => ?_)
  refine lv_iload hx hb dX9_inWeek_5 (lv_at hl 0 rfl) ?_
  refine lv_aload_n hx hb dX9_inWeek_7 rfl (lv_at hl 2 rfl) ?_
  refine pg_gi (ci := 9) (C := RX9) (T := TX9) (N := 63) hx hb hts wi9 hown hK hW hk (by decide) rfl 35 (by decide) (hts (.fieldLink RX9 205 "IceHallModel" "sessions" "I") (by decide +kernel)) (fun _ h9 => h9) rfl dX9_inWeek_8 ?_
  rw [show sI S h 35 = 0 from i_35]
  refine lv_icmp_ge (tgt := 65) hx hb dX9_inWeek_11 (by decide) (fun c1 => ?_) (fun c1 => absurd (by decide) c1)
  refine lv_iload_n hx hb dX9_inWeek_65 rfl (lv_at hl 1 rfl) ?_
  exact pc_iret (v := 0) (S := S) hx hb hr hlk hK hZ hA hW hS (⟨rfl, rfl⟩) dX9_inWeek_66
set_option maxHeartbeats 4000000 in
set_option maxRecDepth 100000 in
theorem c_X9_inState (l : Launch) (D : va_G) (cy : Nat → ClassId) (A : Nat → Prop) (S : St) (h  : Nat) (a b : Int32) (hk : sK S h = 9) (i_35 : sI S h 35 = 0) : MI l yX9_inState wsX9_inState ({ frames := 0, cells := 0, slots := 0, locals := 0 } : Room) 0 0 D cy A [.ref h, .int a, .int b] S (fun r S1 => S1 = S ∧ r = 0) := by
  refine mt_start (cc := cX9_inState) (maxL := 5) (ret := (some .int)) (by decide) rfl (Nat.le_of_ble_eq_true rfl) ?_
  intro p e s m args below meth c hx hb hr hlk hml hown hnm hts hK hZ hA hW hS ls hl
  have hl : lv_has ls 5 [(0, .ref h), (1, .int a), (2, .int b)] := hl
  have hown : s.vm.findClass RX9 = some m.cls := hown
  have F : CallFix p m c cX9_inState 5 s args wsX9_inState RX9 := ⟨hx, hb, hml, hown, hts⟩
  have wi9 : ∀ w ∈ u_ws RX9 TX9 63, w ∈ wsX9_inState := by decide +kernel
  refine lv_iconst (v := 0) hx hb dX9_inState_0 (by decide) ?_
  refine lv_istore_n (lv' := [(3, .int 0), (0, .ref h), (1, .int a), (2, .int b)]) hx hb dX9_inState_1 rfl hl (by decide) rfl (fun ls hl => ?_)
  refine lv_iconst (v := 0) hx hb dX9_inState_2 (by decide) ?_
  refine lv_istore (lv' := [(4, .int 0), (3, .int 0), (0, .ref h), (1, .int a), (2, .int b)]) hx hb dX9_inState_3 hl (by decide) rfl (fun ls hl => ?_)
  refine lv_iload hx hb dX9_inState_5 (lv_at hl 0 rfl) ?_
  refine lv_aload_n hx hb dX9_inState_7 rfl (lv_at hl 2 rfl) ?_
  refine pg_gi (ci := 9) (C := RX9) (T := TX9) (N := 63) hx hb hts wi9 hown hK hW hk (by decide) rfl 35 (by decide) (hts (.fieldLink RX9 205 "IceHallModel" "sessions" "I") (by decide +kernel)) (fun _ h9 => h9) rfl dX9_inState_8 ?_
  rw [show sI S h 35 = 0 from i_35]
  refine lv_icmp_ge (tgt := 50) hx hb dX9_inState_11 (by decide) (fun c1 => ?_) (fun c1 => absurd (by decide) c1)
  refine lv_iload_n hx hb dX9_inState_50 rfl (lv_at hl 1 rfl) ?_
  exact pc_iret (v := 0) (S := S) hx hb hr hlk hK hZ hA hW hS (⟨rfl, rfl⟩) dX9_inState_51
set_option maxHeartbeats 4000000 in
set_option maxRecDepth 100000 in
theorem c_X9_isSession (l : Launch) (D : va_G) (cy : Nat → ClassId) (A : Nat → Prop) (S : St) (h  : Nat) (a : Int32) (hk : sK S h = 9) (i_35 : sI S h 35 = 0) : MI l yX9_isSession wsX9_isSession ({ frames := 0, cells := 0, slots := 0, locals := 0 } : Room) 0 0 D cy A [.ref h, .int a] S (fun r S1 => S1 = S ∧ r = 0) := by
  refine mt_start (cc := cX9_isSession) (maxL := 2) (ret := (some .boolean)) (by decide) rfl (Nat.le_of_ble_eq_true rfl) ?_
  intro p e s m args below meth c hx hb hr hlk hml hown hnm hts hK hZ hA hW hS ls hl
  have hl : lv_has ls 2 [(0, .ref h), (1, .int a)] := hl
  have hown : s.vm.findClass RX9 = some m.cls := hown
  have F : CallFix p m c cX9_isSession 2 s args wsX9_isSession RX9 := ⟨hx, hb, hml, hown, hts⟩
  have wi9 : ∀ w ∈ u_ws RX9 TX9 63, w ∈ wsX9_isSession := by decide +kernel
  refine lv_iload_n hx hb dX9_isSession_0 rfl (lv_at hl 1 rfl) ?_
  refine lv_if_lt (tgt := 16) hx hb dX9_isSession_1 (by decide) (fun c1 => ?_) (fun c1 => ?_)
  · have c1i : Int32.toInt a < (0 : Int) := (i3_lt _ _).mp c1
    refine lv_iconst (v := 0) hx hb dX9_isSession_16 (by decide) ?_
    exact pc_zret (v := 0) (S := S) hx hb hr hlk hK hZ hA hW hS (by decide) (⟨rfl, rfl⟩) dX9_isSession_17
  · have c1i : ¬ (Int32.toInt a < (0 : Int)) := fun h9 => c1 ((i3_lt _ _).mpr h9)
    refine lv_iload_n hx hb dX9_isSession_4 rfl (lv_at hl 1 rfl) ?_
    refine lv_aload_n hx hb dX9_isSession_5 rfl (lv_at hl 0 rfl) ?_
    refine pg_gi (ci := 9) (C := RX9) (T := TX9) (N := 63) hx hb hts wi9 hown hK hW hk (by decide) rfl 35 (by decide) (hts (.fieldLink RX9 205 "IceHallModel" "sessions" "I") (by decide +kernel)) (fun _ h9 => h9) rfl dX9_isSession_6 ?_
    rw [show sI S h 35 = 0 from i_35]
    refine lv_icmp_ge (tgt := 16) hx hb dX9_isSession_9 (by decide) (fun c2 => ?_) (fun c2 => absurd ((i3_le _ _).mpr (by show (0 : Int) ≤ _; omega)) c2)
    refine lv_iconst (v := 0) hx hb dX9_isSession_16 (by decide) ?_
    exact pc_zret (v := 0) (S := S) hx hb hr hlk hK hZ hA hW hS (by decide) (⟨rfl, rfl⟩) dX9_isSession_17
set_option maxHeartbeats 4000000 in
set_option maxRecDepth 100000 in
theorem c_X9_cancel (l : Launch) (D : va_G) (cy : Nat → ClassId) (A : Nat → Prop) (S : St) (h  : Nat) (a : Int32) (hk : sK S h = 9) (i_35 : sI S h 35 = 0) : MI l yX9_cancel wsX9_cancel ({ frames := 1, cells := 0, slots := 0, locals := 21 } : Room) 0 0 D cy A [.ref h, .int a] S (fun r S1 => r = 0) := by
  refine mt_start (cc := cX9_cancel) (maxL := 2) (ret := (some .boolean)) (by decide) rfl (Nat.le_of_ble_eq_true rfl) ?_
  intro p e s m args below meth c hx hb hr hlk hml hown hnm hts hK hZ hA hW hS ls hl
  have hl : lv_has ls 2 [(0, .ref h), (1, .int a)] := hl
  have hown : s.vm.findClass RX9 = some m.cls := hown
  have F : CallFix p m c cX9_cancel 2 s args wsX9_cancel RX9 := ⟨hx, hb, hml, hown, hts⟩
  refine lv_aload_n hx hb dX9_cancel_0 rfl (lv_at hl 0 rfl) ?_
  refine lv_iload_n hx hb dX9_cancel_1 rfl (lv_at hl 1 rfl) ?_
  refine pc_Vi (As := [.int a]) (rest := []) F (c_X9_isSession l D cy A S h a hk i_35) (cwV 1 hts gX9_cancel_X9_isSession rfl rfl rfl (by decide +kernel) ⟨Nat.le_of_ble_eq_true rfl, Nat.le_of_ble_eq_true rfl⟩) hK hZ hA hW hS hk (by decide) rfl rfl hl.1 rfl (Nat.le_of_ble_eq_true rfl) dX9_cancel_2 ⟨Nat.le_of_ble_eq_true rfl, Nat.le_of_ble_eq_true rfl⟩ (fun v1 T2 H locs p3 hW hS => ?_)
  obtain ⟨eT2, p3⟩ := p3
  rw [eT2] at hW
  rw [show v1 = 0 from p3]
  refine lv_if_eq (tgt := 17) hx hb dX9_cancel_5 (by decide) (fun c4 => ?_) (fun c4 => absurd (by decide) c4)
  refine lv_iconst (v := 0) hx hb dX9_cancel_17 (by decide) ?_
  exact pc_zret (v := 0) (S := S) hx hb hr hlk hK hZ hA hW hS (by decide) (rfl) dX9_cancel_18
set_option maxHeartbeats 4000000 in
set_option maxRecDepth 100000 in
theorem c_X9_look (l : Launch) (D : va_G) (cy : Nat → ClassId) (A : Nat → Prop) (S : St) (h  : Nat) (a b : Int32) (hk : sK S h = 9) (i_35 : sI S h 35 = 0) : MI l yX9_look wsX9_look ({ frames := 1, cells := 0, slots := 0, locals := 21 } : Room) 0 0 D cy A [.ref h, .int a, .int b] S (fun r S1 => r = (-1)) := by
  refine mt_start (cc := cX9_look) (maxL := 3) (ret := (some .int)) (by decide) rfl (Nat.le_of_ble_eq_true rfl) ?_
  intro p e s m args below meth c hx hb hr hlk hml hown hnm hts hK hZ hA hW hS ls hl
  have hl : lv_has ls 3 [(0, .ref h), (1, .int a), (2, .int b)] := hl
  have hown : s.vm.findClass RX9 = some m.cls := hown
  have F : CallFix p m c cX9_look 3 s args wsX9_look RX9 := ⟨hx, hb, hml, hown, hts⟩
  refine lv_aload_n hx hb dX9_look_0 rfl (lv_at hl 0 rfl) ?_
  refine lv_iload_n hx hb dX9_look_1 rfl (lv_at hl 1 rfl) ?_
  refine pc_Vi (As := [.int a]) (rest := []) F (c_X9_isSession l D cy A S h a hk i_35) (cwV 1 hts gX9_look_X9_isSession rfl rfl rfl (by decide +kernel) ⟨Nat.le_of_ble_eq_true rfl, Nat.le_of_ble_eq_true rfl⟩) hK hZ hA hW hS hk (by decide) rfl rfl hl.1 rfl (Nat.le_of_ble_eq_true rfl) dX9_look_2 ⟨Nat.le_of_ble_eq_true rfl, Nat.le_of_ble_eq_true rfl⟩ (fun v1 T2 H locs p3 hW hS => ?_)
  obtain ⟨eT2, p3⟩ := p3
  rw [eT2] at hW
  rw [show v1 = 0 from p3]
  refine lv_if_ne (tgt := 10) hx hb dX9_look_5 (by decide) (fun c4 => absurd (by decide) c4) (fun c4 => ?_)
  refine lv_iconst (v := (-1)) hx hb dX9_look_8 (by decide) ?_
  exact pc_iret (v := (-1)) (S := S) hx hb hr hlk hK hZ hA hW hS (rfl) dX9_look_9
set_option maxHeartbeats 4000000 in
set_option maxRecDepth 100000 in
theorem c_X9_at (l : Launch) (D : va_G) (cy : Nat → ClassId) (A : Nat → Prop) (S : St) (h  : Nat) (a b : Int32) (hk : sK S h = 9) (i_35 : sI S h 35 = 0) : MI l yX9_at wsX9_at ({ frames := 1, cells := 0, slots := 0, locals := 23 } : Room) 0 0 D cy A [.ref h, .int a, .int b] S (fun r S1 => r = (-1)) := by
  refine mt_start (cc := cX9_at) (maxL := 3) (ret := (some .int)) (by decide) rfl (Nat.le_of_ble_eq_true rfl) ?_
  intro p e s m args below meth c hx hb hr hlk hml hown hnm hts hK hZ hA hW hS ls hl
  have hl : lv_has ls 3 [(0, .ref h), (1, .int a), (2, .int b)] := hl
  have hown : s.vm.findClass RX9 = some m.cls := hown
  have F : CallFix p m c cX9_at 3 s args wsX9_at RX9 := ⟨hx, hb, hml, hown, hts⟩
  refine lv_iload_n hx hb dX9_at_0 rfl (lv_at hl 1 rfl) ?_
  refine pc_Si (As := [.int a]) (rest := []) F (c_X9_isSheet l D cy A S a ) (va_cwS 1 hts gX9_at_X9_isSheet rfl rfl rfl (by decide +kernel) ⟨Nat.le_of_ble_eq_true rfl, Nat.le_of_ble_eq_true rfl⟩) hK hZ hA hW hS rfl hl.1 rfl (Nat.le_of_ble_eq_true rfl) dX9_at_1 ⟨Nat.le_of_ble_eq_true rfl, Nat.le_of_ble_eq_true rfl⟩ (fun v1 T2 H locs p3 hW hS => ?_)
  obtain ⟨eT2, p3⟩ := p3
  rw [eT2] at hW
  refine lv_if_eq (tgt := 20) hx hb dX9_at_4 (by decide) (fun c4 => ?_) (fun c4 => ?_)
  · have c4i : Int32.toInt v1 = (0 : Int) := (i3_eq _ _).mp c4
    refine lv_iconst (v := (-1)) hx hb dX9_at_20 (by decide) ?_
    exact pc_iret (v := (-1)) (S := S) hx hb hr hlk hK hZ hA hW hS (rfl) dX9_at_21
  · have c4i : ¬ (Int32.toInt v1 = (0 : Int)) := fun h9 => c4 ((i3_eq _ _).mpr h9)
    refine lv_iload_n hx hb dX9_at_7 rfl (lv_at hl 2 rfl) ?_
    refine lv_if_lt (tgt := 20) hx hb dX9_at_8 (by decide) (fun c5 => ?_) (fun c5 => ?_)
    · have c5i : Int32.toInt b < (0 : Int) := (i3_lt _ _).mp c5
      refine lv_iconst (v := (-1)) hx hb dX9_at_20 (by decide) ?_
      exact pc_iret (v := (-1)) (S := S) hx hb hr hlk hK hZ hA hW hS (rfl) dX9_at_21
    · have c5i : ¬ (Int32.toInt b < (0 : Int)) := fun h9 => c5 ((i3_lt _ _).mpr h9)
      refine lv_aload_n hx hb dX9_at_11 rfl (lv_at hl 0 rfl) ?_
      refine lv_iload_n hx hb dX9_at_12 rfl (lv_at hl 1 rfl) ?_
      refine lv_iload_n hx hb dX9_at_13 rfl (lv_at hl 2 rfl) ?_
      refine pc_Vi (As := [.int a, .int b]) (rest := []) F (c_X9_standing l D cy A S h a b hk i_35) (cwV 2 hts gX9_at_X9_standing rfl rfl rfl (by decide +kernel) ⟨Nat.le_of_ble_eq_true rfl, Nat.le_of_ble_eq_true rfl⟩) hK hZ hA hW hS hk (by decide) rfl rfl hl.1 rfl (Nat.le_of_ble_eq_true rfl) dX9_at_14 ⟨Nat.le_of_ble_eq_true rfl, Nat.le_of_ble_eq_true rfl⟩ (fun v6 T7 H locs p8 hW hS => ?_)
      obtain ⟨eT7, p8⟩ := p8
      rw [eT7] at hW
      rw [show v6 = (-1) from p8]
      refine lv_goto (tgt := 21) hx hb dX9_at_17 (by decide) ?_
      exact pc_iret (v := (-1)) (S := S) hx hb hr hlk hK hZ hA hW hS (rfl) dX9_at_21
set_option maxHeartbeats 4000000 in
set_option maxRecDepth 100000 in
theorem c_X9_planned (l : Launch) (D : va_G) (cy : Nat → ClassId) (A : Nat → Prop) (S : St) (h  : Nat) (a : Int32) (hk : sK S h = 9) (i_60 : sI S h 60 = 0) : MI l yX9_planned wsX9_planned ({ frames := 0, cells := 0, slots := 0, locals := 0 } : Room) 0 0 D cy A [.ref h, .int a] S (fun r S1 => r = (-1)) := by
  refine mt_start (cc := cX9_planned) (maxL := 2) (ret := (some .int)) (by decide) rfl (Nat.le_of_ble_eq_true rfl) ?_
  intro p e s m args below meth c hx hb hr hlk hml hown hnm hts hK hZ hA hW hS ls hl
  have hl : lv_has ls 2 [(0, .ref h), (1, .int a)] := hl
  have hown : s.vm.findClass RX9 = some m.cls := hown
  have F : CallFix p m c cX9_planned 2 s args wsX9_planned RX9 := ⟨hx, hb, hml, hown, hts⟩
  have wi9 : ∀ w ∈ u_ws RX9 TX9 63, w ∈ wsX9_planned := by decide +kernel
  refine lv_iload_n hx hb dX9_planned_0 rfl (lv_at hl 1 rfl) ?_
  refine lv_if_lt (tgt := 21) hx hb dX9_planned_1 (by decide) (fun c1 => ?_) (fun c1 => ?_)
  · have c1i : Int32.toInt a < (0 : Int) := (i3_lt _ _).mp c1
    refine lv_iconst (v := (-1)) hx hb dX9_planned_21 (by decide) ?_
    exact pc_iret (v := (-1)) (S := S) hx hb hr hlk hK hZ hA hW hS (rfl) dX9_planned_22
  · have c1i : ¬ (Int32.toInt a < (0 : Int)) := fun h9 => c1 ((i3_lt _ _).mpr h9)
    refine lv_iload_n hx hb dX9_planned_4 rfl (lv_at hl 1 rfl) ?_
    refine lv_aload_n hx hb dX9_planned_5 rfl (lv_at hl 0 rfl) ?_
    refine pg_gi (ci := 9) (C := RX9) (T := TX9) (N := 63) hx hb hts wi9 hown hK hW hk (by decide) rfl 60 (by decide) (hts (.fieldLink RX9 284 "IceHallModel" "toldMany" "I") (by decide +kernel)) (fun _ h9 => h9) rfl dX9_planned_6 ?_
    rw [show sI S h 60 = 0 from i_60]
    refine lv_icmp_ge (tgt := 21) hx hb dX9_planned_9 (by decide) (fun c2 => ?_) (fun c2 => absurd ((i3_le _ _).mpr (by show (0 : Int) ≤ _; omega)) c2)
    refine lv_iconst (v := (-1)) hx hb dX9_planned_21 (by decide) ?_
    exact pc_iret (v := (-1)) (S := S) hx hb hr hlk hK hZ hA hW hS (rfl) dX9_planned_22
set_option maxHeartbeats 4000000 in
set_option maxRecDepth 100000 in
theorem c_X9_part (l : Launch) (D : va_G) (cy : Nat → ClassId) (A : Nat → Prop) (S : St) (h  : Nat) (a b : Int32) (hk : sK S h = 9) (i_35 : sI S h 35 = 0) : MI l yX9_part wsX9_part ({ frames := 1, cells := 0, slots := 0, locals := 24 } : Room) 0 0 D cy A [.ref h, .int a, .int b] S (fun r S1 => r = (-1)) := by
  refine mt_start (cc := cX9_part) (maxL := 8) (ret := (some .int)) (by decide) rfl (Nat.le_of_ble_eq_true rfl) ?_
  intro p e s m args below meth c hx hb hr hlk hml hown hnm hts hK hZ hA hW hS ls hl
  have hl : lv_has ls 8 [(0, .ref h), (1, .int a), (2, .int b)] := hl
  have hown : s.vm.findClass RX9 = some m.cls := hown
  have F : CallFix p m c cX9_part 8 s args wsX9_part RX9 := ⟨hx, hb, hml, hown, hts⟩
  refine lv_iload_n hx hb dX9_part_0 rfl (lv_at hl 1 rfl) ?_
  refine pc_Si (As := [.int a]) (rest := []) F (c_X9_isClub l D cy A S a ) (va_cwS 1 hts gX9_part_X9_isClub rfl rfl rfl (by decide +kernel) ⟨Nat.le_of_ble_eq_true rfl, Nat.le_of_ble_eq_true rfl⟩) hK hZ hA hW hS rfl hl.1 rfl (Nat.le_of_ble_eq_true rfl) dX9_part_1 ⟨Nat.le_of_ble_eq_true rfl, Nat.le_of_ble_eq_true rfl⟩ (fun v1 T2 H locs p3 hW hS => ?_)
  obtain ⟨eT2, p3⟩ := p3
  rw [eT2] at hW
  refine lv_if_eq (tgt := 18) hx hb dX9_part_4 (by decide) (fun c4 => ?_) (fun c4 => ?_)
  · have c4i : Int32.toInt v1 = (0 : Int) := (i3_eq _ _).mp c4
    refine lv_iconst (v := (-1)) hx hb dX9_part_18 (by decide) ?_
    exact pc_iret (v := (-1)) (S := S) hx hb hr hlk hK hZ hA hW hS (rfl) dX9_part_19
  · have c4i : ¬ (Int32.toInt v1 = (0 : Int)) := fun h9 => c4 ((i3_eq _ _).mpr h9)
    refine lv_iload_n hx hb dX9_part_7 rfl (lv_at hl 2 rfl) ?_
    refine lv_if_lt (tgt := 18) hx hb dX9_part_8 (by decide) (fun c5 => ?_) (fun c5 => ?_)
    · have c5i : Int32.toInt b < (0 : Int) := (i3_lt _ _).mp c5
      refine lv_iconst (v := (-1)) hx hb dX9_part_18 (by decide) ?_
      exact pc_iret (v := (-1)) (S := S) hx hb hr hlk hK hZ hA hW hS (rfl) dX9_part_19
    · have c5i : ¬ (Int32.toInt b < (0 : Int)) := fun h9 => c5 ((i3_lt _ _).mpr h9)
      refine lv_iload_n hx hb dX9_part_11 rfl (lv_at hl 2 rfl) ?_
      refine lv_ldcw (v := (100000)) hx hb hown (hts (.constant RX9 287 (100000)) (by decide +kernel)) dX9_part_12 ?_
      refine lv_icmp_le (tgt := 20) hx hb dX9_part_15 (by decide) (fun c6 => ?_) (fun c6 => ?_)
      · have c6i : Int32.toInt b ≤ (100000 : Int) := (i3_le _ _).mp c6
        refine lv_iconst (v := 0) hx hb dX9_part_20 (by decide) ?_
        refine lv_istore_n (lv' := [(3, .int 0), (0, .ref h), (1, .int a), (2, .int b)]) hx hb dX9_part_21 rfl hl (by decide) rfl (fun ls hl => ?_)
        refine lv_iconst (v := 0) hx hb dX9_part_22 (by decide) ?_
        refine lv_istore (lv' := [(4, .int 0), (3, .int 0), (0, .ref h), (1, .int a), (2, .int b)]) hx hb dX9_part_23 hl (by decide) rfl (fun ls hl => ?_)
        refine lv_iload hx hb dX9_part_25 (lv_at hl 0 rfl) ?_
        refine lv_bipush (v := 6) hx hb dX9_part_27 (by decide) ?_
        refine lv_icmp_ge (tgt := 48) hx hb dX9_part_29 (by decide) (fun c7 => absurd c7 (by decide)) (fun c7 => ?_)
        refine lv_iload_n hx hb dX9_part_32 rfl (lv_at hl 1 rfl) ?_
        refine lv_aload_n hx hb dX9_part_33 rfl (lv_at hl 2 rfl) ?_
        refine lv_iload hx hb dX9_part_34 (lv_at hl 0 rfl) ?_
        refine lv_iconst (v := 1) hx hb dX9_part_36 (by decide) ?_
        refine pc_Vi (As := [.int 0, .int 1]) (rest := [.int 0]) F (c_X9_inState l D cy A S h 0 1 hk i_35) (cwV 2 hts gX9_part_X9_inState rfl rfl rfl (by decide +kernel) ⟨Nat.le_of_ble_eq_true rfl, Nat.le_of_ble_eq_true rfl⟩) hK hZ hA hW hS hk (by decide) rfl rfl hl.1 rfl (Nat.le_of_ble_eq_true rfl) dX9_part_37 ⟨Nat.le_of_ble_eq_true rfl, Nat.le_of_ble_eq_true rfl⟩ (fun v8 T9 H locs p10 hW hS => ?_)
        obtain ⟨eT9, p10⟩ := p10
        rw [eT9] at hW
        rw [show v8 = 0 from p10]
        refine lv_iadd hx hb dX9_part_40 ?_
        rw [show (0 + 0 : Int32) = 0 from by decide]
        refine lv_istore_n (lv' := [(3, .int 0), (4, .int 0), (0, .ref h), (1, .int a), (2, .int b)]) hx hb dX9_part_41 rfl hl (by decide) rfl (fun ls hl => ?_)
        refine lv_iinc (v := 1) (lv' := [(4, .int 1), (3, .int 0), (0, .ref h), (1, .int a), (2, .int b)]) hx hb dX9_part_42 hl (k := 1) rfl (by decide) (by decide) rfl (fun ls hl => ?_)
        refine lv_goto (tgt := 25) hx hb dX9_part_45 (by decide) ?_
        refine lv_iload hx hb dX9_part_25 (lv_at hl 0 rfl) ?_
        refine lv_bipush (v := 6) hx hb dX9_part_27 (by decide) ?_
        refine lv_icmp_ge (tgt := 48) hx hb dX9_part_29 (by decide) (fun c11 => absurd c11 (by decide)) (fun c11 => ?_)
        refine lv_iload_n hx hb dX9_part_32 rfl (lv_at hl 1 rfl) ?_
        refine lv_aload_n hx hb dX9_part_33 rfl (lv_at hl 2 rfl) ?_
        refine lv_iload hx hb dX9_part_34 (lv_at hl 0 rfl) ?_
        refine lv_iconst (v := 1) hx hb dX9_part_36 (by decide) ?_
        refine pc_Vi (As := [.int 1, .int 1]) (rest := [.int 0]) F (c_X9_inState l D cy A S h 1 1 hk i_35) (cwV 2 hts gX9_part_X9_inState rfl rfl rfl (by decide +kernel) ⟨Nat.le_of_ble_eq_true rfl, Nat.le_of_ble_eq_true rfl⟩) hK hZ hA hW hS hk (by decide) rfl rfl hl.1 rfl (Nat.le_of_ble_eq_true rfl) dX9_part_37 ⟨Nat.le_of_ble_eq_true rfl, Nat.le_of_ble_eq_true rfl⟩ (fun v12 T13 H locs p14 hW hS => ?_)
        obtain ⟨eT13, p14⟩ := p14
        rw [eT13] at hW
        rw [show v12 = 0 from p14]
        refine lv_iadd hx hb dX9_part_40 ?_
        rw [show (0 + 0 : Int32) = 0 from by decide]
        refine lv_istore_n (lv' := [(3, .int 0), (4, .int 1), (0, .ref h), (1, .int a), (2, .int b)]) hx hb dX9_part_41 rfl hl (by decide) rfl (fun ls hl => ?_)
        refine lv_iinc (v := 2) (lv' := [(4, .int 2), (3, .int 0), (0, .ref h), (1, .int a), (2, .int b)]) hx hb dX9_part_42 hl (k := 1) rfl (by decide) (by decide) rfl (fun ls hl => ?_)
        refine lv_goto (tgt := 25) hx hb dX9_part_45 (by decide) ?_
        refine lv_iload hx hb dX9_part_25 (lv_at hl 0 rfl) ?_
        refine lv_bipush (v := 6) hx hb dX9_part_27 (by decide) ?_
        refine lv_icmp_ge (tgt := 48) hx hb dX9_part_29 (by decide) (fun c15 => absurd c15 (by decide)) (fun c15 => ?_)
        refine lv_iload_n hx hb dX9_part_32 rfl (lv_at hl 1 rfl) ?_
        refine lv_aload_n hx hb dX9_part_33 rfl (lv_at hl 2 rfl) ?_
        refine lv_iload hx hb dX9_part_34 (lv_at hl 0 rfl) ?_
        refine lv_iconst (v := 1) hx hb dX9_part_36 (by decide) ?_
        refine pc_Vi (As := [.int 2, .int 1]) (rest := [.int 0]) F (c_X9_inState l D cy A S h 2 1 hk i_35) (cwV 2 hts gX9_part_X9_inState rfl rfl rfl (by decide +kernel) ⟨Nat.le_of_ble_eq_true rfl, Nat.le_of_ble_eq_true rfl⟩) hK hZ hA hW hS hk (by decide) rfl rfl hl.1 rfl (Nat.le_of_ble_eq_true rfl) dX9_part_37 ⟨Nat.le_of_ble_eq_true rfl, Nat.le_of_ble_eq_true rfl⟩ (fun v16 T17 H locs p18 hW hS => ?_)
        obtain ⟨eT17, p18⟩ := p18
        rw [eT17] at hW
        rw [show v16 = 0 from p18]
        refine lv_iadd hx hb dX9_part_40 ?_
        rw [show (0 + 0 : Int32) = 0 from by decide]
        refine lv_istore_n (lv' := [(3, .int 0), (4, .int 2), (0, .ref h), (1, .int a), (2, .int b)]) hx hb dX9_part_41 rfl hl (by decide) rfl (fun ls hl => ?_)
        refine lv_iinc (v := 3) (lv' := [(4, .int 3), (3, .int 0), (0, .ref h), (1, .int a), (2, .int b)]) hx hb dX9_part_42 hl (k := 1) rfl (by decide) (by decide) rfl (fun ls hl => ?_)
        refine lv_goto (tgt := 25) hx hb dX9_part_45 (by decide) ?_
        refine lv_iload hx hb dX9_part_25 (lv_at hl 0 rfl) ?_
        refine lv_bipush (v := 6) hx hb dX9_part_27 (by decide) ?_
        refine lv_icmp_ge (tgt := 48) hx hb dX9_part_29 (by decide) (fun c19 => absurd c19 (by decide)) (fun c19 => ?_)
        refine lv_iload_n hx hb dX9_part_32 rfl (lv_at hl 1 rfl) ?_
        refine lv_aload_n hx hb dX9_part_33 rfl (lv_at hl 2 rfl) ?_
        refine lv_iload hx hb dX9_part_34 (lv_at hl 0 rfl) ?_
        refine lv_iconst (v := 1) hx hb dX9_part_36 (by decide) ?_
        refine pc_Vi (As := [.int 3, .int 1]) (rest := [.int 0]) F (c_X9_inState l D cy A S h 3 1 hk i_35) (cwV 2 hts gX9_part_X9_inState rfl rfl rfl (by decide +kernel) ⟨Nat.le_of_ble_eq_true rfl, Nat.le_of_ble_eq_true rfl⟩) hK hZ hA hW hS hk (by decide) rfl rfl hl.1 rfl (Nat.le_of_ble_eq_true rfl) dX9_part_37 ⟨Nat.le_of_ble_eq_true rfl, Nat.le_of_ble_eq_true rfl⟩ (fun v20 T21 H locs p22 hW hS => ?_)
        obtain ⟨eT21, p22⟩ := p22
        rw [eT21] at hW
        rw [show v20 = 0 from p22]
        refine lv_iadd hx hb dX9_part_40 ?_
        rw [show (0 + 0 : Int32) = 0 from by decide]
        refine lv_istore_n (lv' := [(3, .int 0), (4, .int 3), (0, .ref h), (1, .int a), (2, .int b)]) hx hb dX9_part_41 rfl hl (by decide) rfl (fun ls hl => ?_)
        refine lv_iinc (v := 4) (lv' := [(4, .int 4), (3, .int 0), (0, .ref h), (1, .int a), (2, .int b)]) hx hb dX9_part_42 hl (k := 1) rfl (by decide) (by decide) rfl (fun ls hl => ?_)
        refine lv_goto (tgt := 25) hx hb dX9_part_45 (by decide) ?_
        refine lv_iload hx hb dX9_part_25 (lv_at hl 0 rfl) ?_
        refine lv_bipush (v := 6) hx hb dX9_part_27 (by decide) ?_
        refine lv_icmp_ge (tgt := 48) hx hb dX9_part_29 (by decide) (fun c23 => absurd c23 (by decide)) (fun c23 => ?_)
        refine lv_iload_n hx hb dX9_part_32 rfl (lv_at hl 1 rfl) ?_
        refine lv_aload_n hx hb dX9_part_33 rfl (lv_at hl 2 rfl) ?_
        refine lv_iload hx hb dX9_part_34 (lv_at hl 0 rfl) ?_
        refine lv_iconst (v := 1) hx hb dX9_part_36 (by decide) ?_
        refine pc_Vi (As := [.int 4, .int 1]) (rest := [.int 0]) F (c_X9_inState l D cy A S h 4 1 hk i_35) (cwV 2 hts gX9_part_X9_inState rfl rfl rfl (by decide +kernel) ⟨Nat.le_of_ble_eq_true rfl, Nat.le_of_ble_eq_true rfl⟩) hK hZ hA hW hS hk (by decide) rfl rfl hl.1 rfl (Nat.le_of_ble_eq_true rfl) dX9_part_37 ⟨Nat.le_of_ble_eq_true rfl, Nat.le_of_ble_eq_true rfl⟩ (fun v24 T25 H locs p26 hW hS => ?_)
        obtain ⟨eT25, p26⟩ := p26
        rw [eT25] at hW
        rw [show v24 = 0 from p26]
        refine lv_iadd hx hb dX9_part_40 ?_
        rw [show (0 + 0 : Int32) = 0 from by decide]
        refine lv_istore_n (lv' := [(3, .int 0), (4, .int 4), (0, .ref h), (1, .int a), (2, .int b)]) hx hb dX9_part_41 rfl hl (by decide) rfl (fun ls hl => ?_)
        refine lv_iinc (v := 5) (lv' := [(4, .int 5), (3, .int 0), (0, .ref h), (1, .int a), (2, .int b)]) hx hb dX9_part_42 hl (k := 1) rfl (by decide) (by decide) rfl (fun ls hl => ?_)
        refine lv_goto (tgt := 25) hx hb dX9_part_45 (by decide) ?_
        refine lv_iload hx hb dX9_part_25 (lv_at hl 0 rfl) ?_
        refine lv_bipush (v := 6) hx hb dX9_part_27 (by decide) ?_
        refine lv_icmp_ge (tgt := 48) hx hb dX9_part_29 (by decide) (fun c27 => absurd c27 (by decide)) (fun c27 => ?_)
        refine lv_iload_n hx hb dX9_part_32 rfl (lv_at hl 1 rfl) ?_
        refine lv_aload_n hx hb dX9_part_33 rfl (lv_at hl 2 rfl) ?_
        refine lv_iload hx hb dX9_part_34 (lv_at hl 0 rfl) ?_
        refine lv_iconst (v := 1) hx hb dX9_part_36 (by decide) ?_
        refine pc_Vi (As := [.int 5, .int 1]) (rest := [.int 0]) F (c_X9_inState l D cy A S h 5 1 hk i_35) (cwV 2 hts gX9_part_X9_inState rfl rfl rfl (by decide +kernel) ⟨Nat.le_of_ble_eq_true rfl, Nat.le_of_ble_eq_true rfl⟩) hK hZ hA hW hS hk (by decide) rfl rfl hl.1 rfl (Nat.le_of_ble_eq_true rfl) dX9_part_37 ⟨Nat.le_of_ble_eq_true rfl, Nat.le_of_ble_eq_true rfl⟩ (fun v28 T29 H locs p30 hW hS => ?_)
        obtain ⟨eT29, p30⟩ := p30
        rw [eT29] at hW
        rw [show v28 = 0 from p30]
        refine lv_iadd hx hb dX9_part_40 ?_
        rw [show (0 + 0 : Int32) = 0 from by decide]
        refine lv_istore_n (lv' := [(3, .int 0), (4, .int 5), (0, .ref h), (1, .int a), (2, .int b)]) hx hb dX9_part_41 rfl hl (by decide) rfl (fun ls hl => ?_)
        refine lv_iinc (v := 6) (lv' := [(4, .int 6), (3, .int 0), (0, .ref h), (1, .int a), (2, .int b)]) hx hb dX9_part_42 hl (k := 1) rfl (by decide) (by decide) rfl (fun ls hl => ?_)
        refine lv_goto (tgt := 25) hx hb dX9_part_45 (by decide) ?_
        refine lv_iload hx hb dX9_part_25 (lv_at hl 0 rfl) ?_
        refine lv_bipush (v := 6) hx hb dX9_part_27 (by decide) ?_
        refine lv_icmp_ge (tgt := 48) hx hb dX9_part_29 (by decide) (fun c31 => ?_) (fun c31 => absurd (by decide) c31)
        refine lv_iload_n hx hb dX9_part_48 rfl (lv_at hl 1 rfl) ?_
        refine lv_if_ne (tgt := 54) hx hb dX9_part_49 (by decide) (fun c32 => absurd (by decide) c32) (fun c32 => ?_)
        refine lv_iconst (v := (-1)) hx hb dX9_part_52 (by decide) ?_
        exact pc_iret (v := (-1)) (S := S) hx hb hr hlk hK hZ hA hW hS (rfl) dX9_part_53
      · have c6i : ¬ (Int32.toInt b ≤ (100000 : Int)) := fun h9 => c6 ((i3_le _ _).mpr h9)
        refine lv_iconst (v := (-1)) hx hb dX9_part_18 (by decide) ?_
        exact pc_iret (v := (-1)) (S := S) hx hb hr hlk hK hZ hA hW hS (rfl) dX9_part_19
set_option maxHeartbeats 4000000 in
set_option maxRecDepth 100000 in
theorem c_X9_sheet (l : Launch) (D : va_G) (cy : Nat → ClassId) (A : Nat → Prop) (S : St) (h m_thick m_ruts m_shaved m_flooded m_melted : Nat) (a b : Int32) (hk : sK S h = 9) (r_27 : sR S h 27 = some m_thick) (k_27 : sK S m_thick = 11) (n_27 : sL S m_thick = 2) (r_28 : sR S h 28 = some m_ruts) (k_28 : sK S m_ruts = 11) (n_28 : sL S m_ruts = 2) (r_29 : sR S h 29 = some m_shaved) (k_29 : sK S m_shaved = 11) (n_29 : sL S m_shaved = 2) (r_30 : sR S h 30 = some m_flooded) (k_30 : sK S m_flooded = 11) (n_30 : sL S m_flooded = 2) (r_31 : sR S h 31 = some m_melted) (k_31 : sK S m_melted = 11) (n_31 : sL S m_melted = 2) (a_m_ruts : ∀ j, j < 2 → sI S m_ruts j = 0) (a_m_shaved : ∀ j, j < 2 → sI S m_shaved j = 0) (a_m_flooded : ∀ j, j < 2 → sI S m_flooded j = 0) (a_m_melted : ∀ j, j < 2 → sI S m_melted j = 0) (a_m_thick : ∀ j, j < 2 → sI S m_thick j = 300) (i_18 : sI S h 18 = 0) (i_36 : sI S h 36 = 0) : MI l yX9_sheet wsX9_sheet ({ frames := 1, cells := 0, slots := 0, locals := 23 } : Room) 0 0 D cy A [.ref h, .int a, .int b] S (fun r S1 => (r = 300 ∧ 0 ≤ a.toInt ∧ a.toInt < 2 ∧ b.toInt = 0) ∨ (r = 0 ∧ 0 ≤ a.toInt ∧ a.toInt < 2 ∧ 1 ≤ b.toInt ∧ b.toInt ≤ 5) ∨ (r = (-1) ∧ ¬ (0 ≤ a.toInt ∧ a.toInt < 2 ∧ 0 ≤ b.toInt ∧ b.toInt ≤ 5))) := by
  refine mt_start (cc := cX9_sheet) (maxL := 3) (ret := (some .int)) (by decide) rfl (Nat.le_of_ble_eq_true rfl) ?_
  intro p e s m args below meth c hx hb hr hlk hml hown hnm hts hK hZ hA hW hS ls hl
  have hl : lv_has ls 3 [(0, .ref h), (1, .int a), (2, .int b)] := hl
  have hown : s.vm.findClass RX9 = some m.cls := hown
  have F : CallFix p m c cX9_sheet 3 s args wsX9_sheet RX9 := ⟨hx, hb, hml, hown, hts⟩
  have wi9 : ∀ w ∈ u_ws RX9 TX9 63, w ∈ wsX9_sheet := by decide +kernel
  refine lv_iload_n hx hb dX9_sheet_0 rfl (lv_at hl 1 rfl) ?_
  refine pc_Si (As := [.int a]) (rest := []) F (c_X9_isSheet l D cy A S a ) (va_cwS 1 hts gX9_sheet_X9_isSheet rfl rfl rfl (by decide +kernel) ⟨Nat.le_of_ble_eq_true rfl, Nat.le_of_ble_eq_true rfl⟩) hK hZ hA hW hS rfl hl.1 rfl (Nat.le_of_ble_eq_true rfl) dX9_sheet_1 ⟨Nat.le_of_ble_eq_true rfl, Nat.le_of_ble_eq_true rfl⟩ (fun v1 T2 H locs p3 hW hS => ?_)
  obtain ⟨eT2, p3⟩ := p3
  rw [eT2] at hW
  refine lv_if_ne (tgt := 9) hx hb dX9_sheet_4 (by decide) (fun c4 => ?_) (fun c4 => ?_)
  · have c4i : ¬ (Int32.toInt v1 = (0 : Int)) := fun h9 => c4 ((i3_eq _ _).mpr h9)
    refine lv_iload_n hx hb dX9_sheet_9 rfl (lv_at hl 2 rfl) ?_
    by_cases c5 : b = 0
    · have c5i : Int32.toInt b = 0 := by rw [c5]; rfl
      refine lv_tableIn (off := 38) (tgt := 48) hx hb dX9_sheet_10 (by rw [c5]; decide) (by rw [c5]; decide) (by rw [c5]; rfl) (by decide) ?_
      refine lv_aload_n hx hb dX9_sheet_48 rfl (lv_at hl 0 rfl) ?_
      refine pg_gr (b := m_thick) (ci := 9) (C := RX9) (T := TX9) (N := 63) hx hb hts wi9 hown hK hW hk (by decide) rfl 27 (by decide) (hts (.fieldLink RX9 48 "IceHallModel" "thick" "[I") (by decide +kernel)) (fun _ h9 => h9) rfl r_27 dX9_sheet_49 ?_
      refine lv_iload_n hx hb dX9_sheet_52 rfl (lv_at hl 1 rfl) ?_
      refine pg_iald hx hb hK hW k_27 (by rw [show sL S m_thick = 2 from n_27]; exact r_in (by omega)) dX9_sheet_53 ?_
      rw [show sI S m_thick (Int32.toNatClampNeg a) = 300 from a_m_thick _ (by first | decide | exact cl_lt (by omega) (by omega))]
      exact pc_iret (v := 300) (S := S) hx hb hr hlk hK hZ hA hW hS (Or.inl ⟨rfl, by omega⟩) dX9_sheet_54
    by_cases c6 : b = 1
    · have c6i : Int32.toInt b = 1 := by rw [c6]; rfl
      refine lv_tableIn (off := 45) (tgt := 55) hx hb dX9_sheet_10 (by rw [c6]; decide) (by rw [c6]; decide) (by rw [c6]; rfl) (by decide) ?_
      refine lv_aload_n hx hb dX9_sheet_55 rfl (lv_at hl 0 rfl) ?_
      refine pg_gr (b := m_ruts) (ci := 9) (C := RX9) (T := TX9) (N := 63) hx hb hts wi9 hown hK hW hk (by decide) rfl 28 (by decide) (hts (.fieldLink RX9 51 "IceHallModel" "ruts" "[I") (by decide +kernel)) (fun _ h9 => h9) rfl r_28 dX9_sheet_56 ?_
      refine lv_iload_n hx hb dX9_sheet_59 rfl (lv_at hl 1 rfl) ?_
      refine pg_iald hx hb hK hW k_28 (by rw [show sL S m_ruts = 2 from n_28]; exact r_in (by omega)) dX9_sheet_60 ?_
      rw [show sI S m_ruts (Int32.toNatClampNeg a) = 0 from a_m_ruts _ (by first | decide | exact cl_lt (by omega) (by omega))]
      exact pc_iret (v := 0) (S := S) hx hb hr hlk hK hZ hA hW hS (Or.inr (Or.inl ⟨rfl, by omega⟩)) dX9_sheet_61
    by_cases c7 : b = 2
    · have c7i : Int32.toInt b = 2 := by rw [c7]; rfl
      refine lv_tableIn (off := 52) (tgt := 62) hx hb dX9_sheet_10 (by rw [c7]; decide) (by rw [c7]; decide) (by rw [c7]; rfl) (by decide) ?_
      refine lv_aload_n hx hb dX9_sheet_62 rfl (lv_at hl 0 rfl) ?_
      refine pg_gr (b := m_shaved) (ci := 9) (C := RX9) (T := TX9) (N := 63) hx hb hts wi9 hown hK hW hk (by decide) rfl 29 (by decide) (hts (.fieldLink RX9 54 "IceHallModel" "shaved" "[I") (by decide +kernel)) (fun _ h9 => h9) rfl r_29 dX9_sheet_63 ?_
      refine lv_iload_n hx hb dX9_sheet_66 rfl (lv_at hl 1 rfl) ?_
      refine pg_iald hx hb hK hW k_29 (by rw [show sL S m_shaved = 2 from n_29]; exact r_in (by omega)) dX9_sheet_67 ?_
      rw [show sI S m_shaved (Int32.toNatClampNeg a) = 0 from a_m_shaved _ (by first | decide | exact cl_lt (by omega) (by omega))]
      exact pc_iret (v := 0) (S := S) hx hb hr hlk hK hZ hA hW hS (Or.inr (Or.inl ⟨rfl, by omega⟩)) dX9_sheet_68
    by_cases c8 : b = 3
    · have c8i : Int32.toInt b = 3 := by rw [c8]; rfl
      refine lv_tableIn (off := 59) (tgt := 69) hx hb dX9_sheet_10 (by rw [c8]; decide) (by rw [c8]; decide) (by rw [c8]; rfl) (by decide) ?_
      refine lv_aload_n hx hb dX9_sheet_69 rfl (lv_at hl 0 rfl) ?_
      refine pg_gr (b := m_flooded) (ci := 9) (C := RX9) (T := TX9) (N := 63) hx hb hts wi9 hown hK hW hk (by decide) rfl 30 (by decide) (hts (.fieldLink RX9 57 "IceHallModel" "flooded" "[I") (by decide +kernel)) (fun _ h9 => h9) rfl r_30 dX9_sheet_70 ?_
      refine lv_iload_n hx hb dX9_sheet_73 rfl (lv_at hl 1 rfl) ?_
      refine pg_iald hx hb hK hW k_30 (by rw [show sL S m_flooded = 2 from n_30]; exact r_in (by omega)) dX9_sheet_74 ?_
      rw [show sI S m_flooded (Int32.toNatClampNeg a) = 0 from a_m_flooded _ (by first | decide | exact cl_lt (by omega) (by omega))]
      exact pc_iret (v := 0) (S := S) hx hb hr hlk hK hZ hA hW hS (Or.inr (Or.inl ⟨rfl, by omega⟩)) dX9_sheet_75
    by_cases c9 : b = 4
    · have c9i : Int32.toInt b = 4 := by rw [c9]; rfl
      refine lv_tableIn (off := 66) (tgt := 76) hx hb dX9_sheet_10 (by rw [c9]; decide) (by rw [c9]; decide) (by rw [c9]; rfl) (by decide) ?_
      refine lv_aload_n hx hb dX9_sheet_76 rfl (lv_at hl 0 rfl) ?_
      refine pg_gr (b := m_melted) (ci := 9) (C := RX9) (T := TX9) (N := 63) hx hb hts wi9 hown hK hW hk (by decide) rfl 31 (by decide) (hts (.fieldLink RX9 60 "IceHallModel" "melted" "[I") (by decide +kernel)) (fun _ h9 => h9) rfl r_31 dX9_sheet_77 ?_
      refine lv_iload_n hx hb dX9_sheet_80 rfl (lv_at hl 1 rfl) ?_
      refine pg_iald hx hb hK hW k_31 (by rw [show sL S m_melted = 2 from n_31]; exact r_in (by omega)) dX9_sheet_81 ?_
      rw [show sI S m_melted (Int32.toNatClampNeg a) = 0 from a_m_melted _ (by first | decide | exact cl_lt (by omega) (by omega))]
      exact pc_iret (v := 0) (S := S) hx hb hr hlk hK hZ hA hW hS (Or.inr (Or.inl ⟨rfl, by omega⟩)) dX9_sheet_82
    by_cases c10 : b = 5
    · have c10i : Int32.toInt b = 5 := by rw [c10]; rfl
      refine lv_tableIn (off := 73) (tgt := 83) hx hb dX9_sheet_10 (by rw [c10]; decide) (by rw [c10]; decide) (by rw [c10]; rfl) (by decide) ?_
      refine lv_aload_n hx hb dX9_sheet_83 rfl (lv_at hl 0 rfl) ?_
      refine lv_iload_n hx hb dX9_sheet_84 rfl (lv_at hl 1 rfl) ?_
      refine lv_aload_n hx hb dX9_sheet_85 rfl (lv_at hl 0 rfl) ?_
      refine pg_gi (ci := 9) (C := RX9) (T := TX9) (N := 63) hx hb hts wi9 hown hK hW hk (by decide) rfl 18 (by decide) (hts (.fieldLink RX9 219 "IceHallModel" "now" "I") (by decide +kernel)) (fun _ h9 => h9) rfl dX9_sheet_86 ?_
      rw [show sI S h 18 = 0 from i_18]
      refine pc_Vi (As := [.int a, .int 0]) (rest := []) F (c_X9_isClosed l D cy A S h a 0 hk i_36) (cwV 2 hts gX9_sheet_X9_isClosed rfl rfl rfl (by decide +kernel) ⟨Nat.le_of_ble_eq_true rfl, Nat.le_of_ble_eq_true rfl⟩) hK hZ hA hW hS hk (by decide) rfl rfl hl.1 rfl (Nat.le_of_ble_eq_true rfl) dX9_sheet_89 ⟨Nat.le_of_ble_eq_true rfl, Nat.le_of_ble_eq_true rfl⟩ (fun v11 T12 H locs p13 hW hS => ?_)
      obtain ⟨eT12, p13⟩ := p13
      rw [eT12] at hW
      rw [show v11 = 0 from p13]
      refine lv_if_eq (tgt := 99) hx hb dX9_sheet_92 (by decide) (fun c14 => ?_) (fun c14 => absurd (by decide) c14)
      refine lv_iconst (v := 0) hx hb dX9_sheet_99 (by decide) ?_
      exact pc_iret (v := 0) (S := S) hx hb hr hlk hK hZ hA hW hS (Or.inr (Or.inl ⟨rfl, by omega⟩)) dX9_sheet_100
    have c5i : ¬ Int32.toInt b = 0 := lv_neT c5 rfl
    have c6i : ¬ Int32.toInt b = 1 := lv_neT c6 rfl
    have c7i : ¬ Int32.toInt b = 2 := lv_neT c7 rfl
    have c8i : ¬ Int32.toInt b = 3 := lv_neT c8 rfl
    have c9i : ¬ Int32.toInt b = 4 := lv_neT c9 rfl
    have c10i : ¬ Int32.toInt b = 5 := lv_neT c10 rfl
    refine lv_tableOut (tgt := 101) hx hb dX9_sheet_10 (by have qc5 := lv_neT c5 (a := 0) rfl; have qc6 := lv_neT c6 (a := 1) rfl; have qc7 := lv_neT c7 (a := 2) rfl; have qc8 := lv_neT c8 (a := 3) rfl; have qc9 := lv_neT c9 (a := 4) rfl; have qc10 := lv_neT c10 (a := 5) rfl; omega) (by decide) ?_
    refine lv_iconst (v := (-1)) hx hb dX9_sheet_101 (by decide) ?_
    exact pc_iret (v := (-1)) (S := S) hx hb hr hlk hK hZ hA hW hS (Or.inr (Or.inr ⟨rfl, by omega⟩)) dX9_sheet_102
  · have c4i : Int32.toInt v1 = (0 : Int) := (i3_eq _ _).mp c4
    refine lv_iconst (v := (-1)) hx hb dX9_sheet_7 (by decide) ?_
    exact pc_iret (v := (-1)) (S := S) hx hb hr hlk hK hZ hA hW hS (Or.inr (Or.inr ⟨rfl, by omega⟩)) dX9_sheet_8
set_option maxHeartbeats 4000000 in
set_option maxRecDepth 100000 in
theorem c_X9_club (l : Launch) (D : va_G) (cy : Nat → ClassId) (A : Nat → Prop) (S : St) (h  : Nat) (a b : Int32) (hk : sK S h = 9) (i_35 : sI S h 35 = 0) : MI l yX9_club wsX9_club ({ frames := 1, cells := 0, slots := 0, locals := 24 } : Room) 0 0 D cy A [.ref h, .int a, .int b] S (fun r S1 => (r = 0 ∧ 0 ≤ a.toInt ∧ a.toInt < 6 ∧ 0 ≤ b.toInt ∧ b.toInt ≤ 3) ∨ (r = (-1) ∧ ¬ (0 ≤ a.toInt ∧ a.toInt < 6 ∧ 0 ≤ b.toInt ∧ b.toInt ≤ 3))) := by
  refine mt_start (cc := cX9_club) (maxL := 5) (ret := (some .int)) (by decide) rfl (Nat.le_of_ble_eq_true rfl) ?_
  intro p e s m args below meth c hx hb hr hlk hml hown hnm hts hK hZ hA hW hS ls hl
  have hl : lv_has ls 5 [(0, .ref h), (1, .int a), (2, .int b)] := hl
  have hown : s.vm.findClass RX9 = some m.cls := hown
  have F : CallFix p m c cX9_club 5 s args wsX9_club RX9 := ⟨hx, hb, hml, hown, hts⟩
  have wi9 : ∀ w ∈ u_ws RX9 TX9 63, w ∈ wsX9_club := by decide +kernel
  refine lv_iload_n hx hb dX9_club_0 rfl (lv_at hl 1 rfl) ?_
  refine pc_Si (As := [.int a]) (rest := []) F (c_X9_isClub l D cy A S a ) (va_cwS 1 hts gX9_club_X9_isClub rfl rfl rfl (by decide +kernel) ⟨Nat.le_of_ble_eq_true rfl, Nat.le_of_ble_eq_true rfl⟩) hK hZ hA hW hS rfl hl.1 rfl (Nat.le_of_ble_eq_true rfl) dX9_club_1 ⟨Nat.le_of_ble_eq_true rfl, Nat.le_of_ble_eq_true rfl⟩ (fun v1 T2 H locs p3 hW hS => ?_)
  obtain ⟨eT2, p3⟩ := p3
  rw [eT2] at hW
  refine lv_if_ne (tgt := 9) hx hb dX9_club_4 (by decide) (fun c4 => ?_) (fun c4 => ?_)
  · have c4i : ¬ (Int32.toInt v1 = (0 : Int)) := fun h9 => c4 ((i3_eq _ _).mpr h9)
    refine lv_iconst (v := 0) hx hb dX9_club_9 (by decide) ?_
    refine lv_istore_n (lv' := [(3, .int 0), (0, .ref h), (1, .int a), (2, .int b)]) hx hb dX9_club_10 rfl hl (by decide) rfl (fun ls hl => ?_)
    refine lv_iload_n hx hb dX9_club_11 rfl (lv_at hl 3 rfl) ?_
    by_cases c5 : b = 0
    · have c5i : Int32.toInt b = 0 := by rw [c5]; rfl
      refine lv_tableIn (off := 32) (tgt := 44) hx hb dX9_club_12 (by rw [c5]; decide) (by rw [c5]; decide) (by rw [c5]; rfl) (by decide) ?_
      refine lv_aload_n hx hb dX9_club_44 rfl (lv_at hl 1 rfl) ?_
      refine lv_iload_n hx hb dX9_club_45 rfl (lv_at hl 2 rfl) ?_
      refine lv_iconst (v := 1) hx hb dX9_club_46 (by decide) ?_
      refine pc_Vi (As := [.int a, .int 1]) (rest := []) F (c_X9_inState l D cy A S h a 1 hk i_35) (cwV 2 hts gX9_club_X9_inState rfl rfl rfl (by decide +kernel) ⟨Nat.le_of_ble_eq_true rfl, Nat.le_of_ble_eq_true rfl⟩) hK hZ hA hW hS hk (by decide) rfl rfl hl.1 rfl (Nat.le_of_ble_eq_true rfl) dX9_club_47 ⟨Nat.le_of_ble_eq_true rfl, Nat.le_of_ble_eq_true rfl⟩ (fun v6 T7 H locs p8 hW hS => ?_)
      obtain ⟨eT7, p8⟩ := p8
      rw [eT7] at hW
      rw [show v6 = 0 from p8]
      exact pc_iret (v := 0) (S := S) hx hb hr hlk hK hZ hA hW hS (Or.inl ⟨rfl, by omega⟩) dX9_club_50
    by_cases c9 : b = 1
    · have c9i : Int32.toInt b = 1 := by rw [c9]; rfl
      refine lv_tableIn (off := 39) (tgt := 51) hx hb dX9_club_12 (by rw [c9]; decide) (by rw [c9]; decide) (by rw [c9]; rfl) (by decide) ?_
      refine lv_aload_n hx hb dX9_club_51 rfl (lv_at hl 1 rfl) ?_
      refine lv_iload_n hx hb dX9_club_52 rfl (lv_at hl 2 rfl) ?_
      refine lv_iconst (v := 2) hx hb dX9_club_53 (by decide) ?_
      refine pc_Vi (As := [.int a, .int 2]) (rest := []) F (c_X9_inState l D cy A S h a 2 hk i_35) (cwV 2 hts gX9_club_X9_inState rfl rfl rfl (by decide +kernel) ⟨Nat.le_of_ble_eq_true rfl, Nat.le_of_ble_eq_true rfl⟩) hK hZ hA hW hS hk (by decide) rfl rfl hl.1 rfl (Nat.le_of_ble_eq_true rfl) dX9_club_54 ⟨Nat.le_of_ble_eq_true rfl, Nat.le_of_ble_eq_true rfl⟩ (fun v10 T11 H locs p12 hW hS => ?_)
      obtain ⟨eT11, p12⟩ := p12
      rw [eT11] at hW
      rw [show v10 = 0 from p12]
      exact pc_iret (v := 0) (S := S) hx hb hr hlk hK hZ hA hW hS (Or.inl ⟨rfl, by omega⟩) dX9_club_57
    by_cases c13 : b = 2
    · have c13i : Int32.toInt b = 2 := by rw [c13]; rfl
      refine lv_tableIn (off := 46) (tgt := 58) hx hb dX9_club_12 (by rw [c13]; decide) (by rw [c13]; decide) (by rw [c13]; rfl) (by decide) ?_
      refine lv_aload_n hx hb dX9_club_58 rfl (lv_at hl 1 rfl) ?_
      refine lv_iload_n hx hb dX9_club_59 rfl (lv_at hl 2 rfl) ?_
      refine lv_iconst (v := 0) hx hb dX9_club_60 (by decide) ?_
      refine pc_Vi (As := [.int a, .int 0]) (rest := []) F (c_X9_inState l D cy A S h a 0 hk i_35) (cwV 2 hts gX9_club_X9_inState rfl rfl rfl (by decide +kernel) ⟨Nat.le_of_ble_eq_true rfl, Nat.le_of_ble_eq_true rfl⟩) hK hZ hA hW hS hk (by decide) rfl rfl hl.1 rfl (Nat.le_of_ble_eq_true rfl) dX9_club_61 ⟨Nat.le_of_ble_eq_true rfl, Nat.le_of_ble_eq_true rfl⟩ (fun v14 T15 H locs p16 hW hS => ?_)
      obtain ⟨eT15, p16⟩ := p16
      rw [eT15] at hW
      rw [show v14 = 0 from p16]
      exact pc_iret (v := 0) (S := S) hx hb hr hlk hK hZ hA hW hS (Or.inl ⟨rfl, by omega⟩) dX9_club_64
    by_cases c17 : b = 3
    · have c17i : Int32.toInt b = 3 := by rw [c17]; rfl
      refine lv_tableIn (off := 53) (tgt := 65) hx hb dX9_club_12 (by rw [c17]; decide) (by rw [c17]; decide) (by rw [c17]; rfl) (by decide) ?_
      refine lv_iconst (v := 0) hx hb dX9_club_65 (by decide) ?_
      refine lv_istore (lv' := [(4, .int 0), (3, .int 0), (0, .ref h), (1, .int a), (2, .int b)]) hx hb dX9_club_66 hl (by decide) rfl (fun ls hl => ?_)
      refine lv_iload hx hb dX9_club_68 (lv_at hl 0 rfl) ?_
      refine lv_aload_n hx hb dX9_club_70 rfl (lv_at hl 2 rfl) ?_
      refine pg_gi (ci := 9) (C := RX9) (T := TX9) (N := 63) hx hb hts wi9 hown hK hW hk (by decide) rfl 35 (by decide) (hts (.fieldLink RX9 205 "IceHallModel" "sessions" "I") (by decide +kernel)) (fun _ h9 => h9) rfl dX9_club_71 ?_
      rw [show sI S h 35 = 0 from i_35]
      refine lv_icmp_ge (tgt := 107) hx hb dX9_club_74 (by decide) (fun c18 => ?_) (fun c18 => absurd (by decide) c18)
      refine lv_iload_n hx hb dX9_club_107 rfl (lv_at hl 1 rfl) ?_
      exact pc_iret (v := 0) (S := S) hx hb hr hlk hK hZ hA hW hS (Or.inl ⟨rfl, by omega⟩) dX9_club_108
    have c5i : ¬ Int32.toInt b = 0 := lv_neT c5 rfl
    have c9i : ¬ Int32.toInt b = 1 := lv_neT c9 rfl
    have c13i : ¬ Int32.toInt b = 2 := lv_neT c13 rfl
    have c17i : ¬ Int32.toInt b = 3 := lv_neT c17 rfl
    refine lv_tableOut (tgt := 109) hx hb dX9_club_12 (by have qc5 := lv_neT c5 (a := 0) rfl; have qc9 := lv_neT c9 (a := 1) rfl; have qc13 := lv_neT c13 (a := 2) rfl; have qc17 := lv_neT c17 (a := 3) rfl; omega) (by decide) ?_
    refine lv_iconst (v := (-1)) hx hb dX9_club_109 (by decide) ?_
    exact pc_iret (v := (-1)) (S := S) hx hb hr hlk hK hZ hA hW hS (Or.inr ⟨rfl, by omega⟩) dX9_club_110
  · have c4i : Int32.toInt v1 = (0 : Int) := (i3_eq _ _).mp c4
    refine lv_iconst (v := (-1)) hx hb dX9_club_7 (by decide) ?_
    exact pc_iret (v := (-1)) (S := S) hx hb hr hlk hK hZ hA hW hS (Or.inr ⟨rfl, by omega⟩) dX9_club_8
set_option maxHeartbeats 4000000 in
set_option maxRecDepth 100000 in
theorem c_X9_count (l : Launch) (D : va_G) (cy : Nat → ClassId) (A : Nat → Prop) (S : St) (h m_priceOf : Nat) (a : Int32) (hk : sK S h = 9) (r_26 : sR S h 26 = some m_priceOf) (k_26 : sK S m_priceOf = 11) (n_26 : sL S m_priceOf = 24) (a_m_priceOf : ∀ j, j < 24 → sI S m_priceOf j = 10) (i_1 : sI S h 1 = 0) (i_18 : sI S h 18 = 0) (i_19 : sI S h 19 = 200) (i_20 : sI S h 20 = 0) (i_21 : sI S h 21 = 0) (i_22 : sI S h 22 = 0) (i_23 : sI S h 23 = 400) (i_24 : sI S h 24 = 3) (i_25 : sI S h 25 = 2) (i_35 : sI S h 35 = 0) : MI l yX9_count wsX9_count ({ frames := 0, cells := 0, slots := 0, locals := 0 } : Room) 0 0 D cy A [.ref h, .int a] S (fun r S1 => cnt_ a r) := by
  refine mt_start (cc := cX9_count) (maxL := 2) (ret := (some .int)) (by decide) rfl (Nat.le_of_ble_eq_true rfl) ?_
  intro p e s m args below meth c hx hb hr hlk hml hown hnm hts hK hZ hA hW hS ls hl
  have hl : lv_has ls 2 [(0, .ref h), (1, .int a)] := hl
  have hown : s.vm.findClass RX9 = some m.cls := hown
  have F : CallFix p m c cX9_count 2 s args wsX9_count RX9 := ⟨hx, hb, hml, hown, hts⟩
  have wi9 : ∀ w ∈ u_ws RX9 TX9 63, w ∈ wsX9_count := by decide +kernel
  refine lv_iload_n hx hb dX9_count_0 rfl (lv_at hl 1 rfl) ?_
  by_cases c1 : a = 0
  · have c1i : Int32.toInt a = 0 := by rw [c1]; rfl
    refine lv_tableIn (off := 55) (tgt := 56) hx hb dX9_count_1 (by rw [c1]; decide) (by rw [c1]; decide) (by rw [c1]; rfl) (by decide) ?_
    refine lv_aload_n hx hb dX9_count_56 rfl (lv_at hl 0 rfl) ?_
    refine pg_gi (ci := 9) (C := RX9) (T := TX9) (N := 63) hx hb hts wi9 hown hK hW hk (by decide) rfl 18 (by decide) (hts (.fieldLink RX9 219 "IceHallModel" "now" "I") (by decide +kernel)) (fun _ h9 => h9) rfl dX9_count_57 ?_
    rw [show sI S h 18 = 0 from i_18]
    exact pc_iret (v := 0) (S := S) hx hb hr hlk hK hZ hA hW hS (cnt_0 (by omega)) dX9_count_60
  by_cases c2 : a = 1
  · have c2i : Int32.toInt a = 1 := by rw [c2]; rfl
    refine lv_tableIn (off := 60) (tgt := 61) hx hb dX9_count_1 (by rw [c2]; decide) (by rw [c2]; decide) (by rw [c2]; rfl) (by decide) ?_
    refine lv_aload_n hx hb dX9_count_61 rfl (lv_at hl 0 rfl) ?_
    refine pg_gi (ci := 9) (C := RX9) (T := TX9) (N := 63) hx hb hts wi9 hown hK hW hk (by decide) rfl 19 (by decide) (hts (.fieldLink RX9 32 "IceHallModel" "store" "I") (by decide +kernel)) (fun _ h9 => h9) rfl dX9_count_62 ?_
    rw [show sI S h 19 = 200 from i_19]
    exact pc_iret (v := 200) (S := S) hx hb hr hlk hK hZ hA hW hS (cnt_1 (by omega)) dX9_count_65
  by_cases c3 : a = 2
  · have c3i : Int32.toInt a = 2 := by rw [c3]; rfl
    refine lv_tableIn (off := 65) (tgt := 66) hx hb dX9_count_1 (by rw [c3]; decide) (by rw [c3]; decide) (by rw [c3]; rfl) (by decide) ?_
    refine lv_aload_n hx hb dX9_count_66 rfl (lv_at hl 0 rfl) ?_
    refine pg_gi (ci := 9) (C := RX9) (T := TX9) (N := 63) hx hb hts wi9 hown hK hW hk (by decide) rfl 20 (by decide) (hts (.fieldLink RX9 265 "IceHallModel" "spilt" "I") (by decide +kernel)) (fun _ h9 => h9) rfl dX9_count_67 ?_
    rw [show sI S h 20 = 0 from i_20]
    exact pc_iret (v := 0) (S := S) hx hb hr hlk hK hZ hA hW hS (cnt_2 (by omega)) dX9_count_70
  by_cases c4 : a = 3
  · have c4i : Int32.toInt a = 3 := by rw [c4]; rfl
    refine lv_tableIn (off := 70) (tgt := 71) hx hb dX9_count_1 (by rw [c4]; decide) (by rw [c4]; decide) (by rw [c4]; rfl) (by decide) ?_
    refine lv_aload_n hx hb dX9_count_71 rfl (lv_at hl 0 rfl) ?_
    refine pg_gi (ci := 9) (C := RX9) (T := TX9) (N := 63) hx hb hts wi9 hown hK hW hk (by decide) rfl 21 (by decide) (hts (.fieldLink RX9 262 "IceHallModel" "cost" "I") (by decide +kernel)) (fun _ h9 => h9) rfl dX9_count_72 ?_
    rw [show sI S h 21 = 0 from i_21]
    exact pc_iret (v := 0) (S := S) hx hb hr hlk hK hZ hA hW hS (cnt_3 (by omega)) dX9_count_75
  by_cases c5 : a = 4
  · have c5i : Int32.toInt a = 4 := by rw [c5]; rfl
    refine lv_tableIn (off := 75) (tgt := 76) hx hb dX9_count_1 (by rw [c5]; decide) (by rw [c5]; decide) (by rw [c5]; rfl) (by decide) ?_
    refine lv_aload_n hx hb dX9_count_76 rfl (lv_at hl 0 rfl) ?_
    refine pg_gi (ci := 9) (C := RX9) (T := TX9) (N := 63) hx hb hts wi9 hown hK hW hk (by decide) rfl 22 (by decide) (hts (.fieldLink RX9 259 "IceHallModel" "waste" "I") (by decide +kernel)) (fun _ h9 => h9) rfl dX9_count_77 ?_
    rw [show sI S h 22 = 0 from i_22]
    exact pc_iret (v := 0) (S := S) hx hb hr hlk hK hZ hA hW hS (cnt_4 (by omega)) dX9_count_80
  by_cases c6 : a = 5
  · have c6i : Int32.toInt a = 5 := by rw [c6]; rfl
    refine lv_tableIn (off := 80) (tgt := 81) hx hb dX9_count_1 (by rw [c6]; decide) (by rw [c6]; decide) (by rw [c6]; rfl) (by decide) ?_
    refine lv_aload_n hx hb dX9_count_81 rfl (lv_at hl 0 rfl) ?_
    refine pg_gi (ci := 9) (C := RX9) (T := TX9) (N := 63) hx hb hts wi9 hown hK hW hk (by decide) rfl 35 (by decide) (hts (.fieldLink RX9 205 "IceHallModel" "sessions" "I") (by decide +kernel)) (fun _ h9 => h9) rfl dX9_count_82 ?_
    rw [show sI S h 35 = 0 from i_35]
    exact pc_iret (v := 0) (S := S) hx hb hr hlk hK hZ hA hW hS (cnt_5 (by omega)) dX9_count_85
  by_cases c7 : a = 6
  · have c7i : Int32.toInt a = 6 := by rw [c7]; rfl
    refine lv_tableIn (off := 85) (tgt := 86) hx hb dX9_count_1 (by rw [c7]; decide) (by rw [c7]; decide) (by rw [c7]; rfl) (by decide) ?_
    refine lv_aload_n hx hb dX9_count_86 rfl (lv_at hl 0 rfl) ?_
    refine pg_gi (ci := 9) (C := RX9) (T := TX9) (N := 63) hx hb hts wi9 hown hK hW hk (by decide) rfl 23 (by decide) (hts (.fieldLink RX9 36 "IceHallModel" "mostOf" "I") (by decide +kernel)) (fun _ h9 => h9) rfl dX9_count_87 ?_
    rw [show sI S h 23 = 400 from i_23]
    exact pc_iret (v := 400) (S := S) hx hb hr hlk hK hZ hA hW hS (cnt_6 (by omega)) dX9_count_90
  by_cases c8 : a = 7
  · have c8i : Int32.toInt a = 7 := by rw [c8]; rfl
    refine lv_tableIn (off := 90) (tgt := 91) hx hb dX9_count_1 (by rw [c8]; decide) (by rw [c8]; decide) (by rw [c8]; rfl) (by decide) ?_
    refine lv_aload_n hx hb dX9_count_91 rfl (lv_at hl 0 rfl) ?_
    refine pg_gi (ci := 9) (C := RX9) (T := TX9) (N := 63) hx hb hts wi9 hown hK hW hk (by decide) rfl 24 (by decide) (hts (.fieldLink RX9 39 "IceHallModel" "working" "I") (by decide +kernel)) (fun _ h9 => h9) rfl dX9_count_92 ?_
    rw [show sI S h 24 = 3 from i_24]
    exact pc_iret (v := 3) (S := S) hx hb hr hlk hK hZ hA hW hS (cnt_7 (by omega)) dX9_count_95
  by_cases c9 : a = 8
  · have c9i : Int32.toInt a = 8 := by rw [c9]; rfl
    refine lv_tableIn (off := 95) (tgt := 96) hx hb dX9_count_1 (by rw [c9]; decide) (by rw [c9]; decide) (by rw [c9]; rfl) (by decide) ?_
    refine lv_aload_n hx hb dX9_count_96 rfl (lv_at hl 0 rfl) ?_
    refine pg_gi (ci := 9) (C := RX9) (T := TX9) (N := 63) hx hb hts wi9 hown hK hW hk (by decide) rfl 25 (by decide) (hts (.fieldLink RX9 42 "IceHallModel" "restOf" "I") (by decide +kernel)) (fun _ h9 => h9) rfl dX9_count_97 ?_
    rw [show sI S h 25 = 2 from i_25]
    exact pc_iret (v := 2) (S := S) hx hb hr hlk hK hZ hA hW hS (cnt_8 (by omega)) dX9_count_100
  by_cases c10 : a = 9
  · have c10i : Int32.toInt a = 9 := by rw [c10]; rfl
    refine lv_tableIn (off := 100) (tgt := 101) hx hb dX9_count_1 (by rw [c10]; decide) (by rw [c10]; decide) (by rw [c10]; rfl) (by decide) ?_
    refine lv_aload_n hx hb dX9_count_101 rfl (lv_at hl 0 rfl) ?_
    refine pg_gi (ci := 9) (C := RX9) (T := TX9) (N := 63) hx hb hts wi9 hown hK hW hk (by decide) rfl 1 (by decide) (hts (.fieldLink RX9 141 "IceHallModel" "taped" "I") (by decide +kernel)) (fun _ h9 => h9) rfl dX9_count_102 ?_
    rw [show sI S h 1 = 0 from i_1]
    exact pc_iret (v := 0) (S := S) hx hb hr hlk hK hZ hA hW hS (cnt_9 (by omega)) dX9_count_105
  have c1i : ¬ Int32.toInt a = 0 := lv_neT c1 rfl
  have c2i : ¬ Int32.toInt a = 1 := lv_neT c2 rfl
  have c3i : ¬ Int32.toInt a = 2 := lv_neT c3 rfl
  have c4i : ¬ Int32.toInt a = 3 := lv_neT c4 rfl
  have c5i : ¬ Int32.toInt a = 4 := lv_neT c5 rfl
  have c6i : ¬ Int32.toInt a = 5 := lv_neT c6 rfl
  have c7i : ¬ Int32.toInt a = 6 := lv_neT c7 rfl
  have c8i : ¬ Int32.toInt a = 7 := lv_neT c8 rfl
  have c9i : ¬ Int32.toInt a = 8 := lv_neT c9 rfl
  have c10i : ¬ Int32.toInt a = 9 := lv_neT c10 rfl
  refine lv_tableOut (tgt := 106) hx hb dX9_count_1 (by have qc1 := lv_neT c1 (a := 0) rfl; have qc2 := lv_neT c2 (a := 1) rfl; have qc3 := lv_neT c3 (a := 2) rfl; have qc4 := lv_neT c4 (a := 3) rfl; have qc5 := lv_neT c5 (a := 4) rfl; have qc6 := lv_neT c6 (a := 5) rfl; have qc7 := lv_neT c7 (a := 6) rfl; have qc8 := lv_neT c8 (a := 7) rfl; have qc9 := lv_neT c9 (a := 8) rfl; have qc10 := lv_neT c10 (a := 9) rfl; omega) (by decide) ?_
  refine lv_iload_n hx hb dX9_count_106 rfl (lv_at hl 1 rfl) ?_
  refine lv_bipush (v := 10) hx hb dX9_count_107 (by decide) ?_
  refine lv_icmp_lt (tgt := 130) hx hb dX9_count_109 (by decide) (fun c11 => ?_) (fun c11 => ?_)
  · have c11i : Int32.toInt a < (10 : Int) := (i3_lt _ _).mp c11
    refine lv_iconst (v := (-1)) hx hb dX9_count_130 (by decide) ?_
    exact pc_iret (v := (-1)) (S := S) hx hb hr hlk hK hZ hA hW hS (cnt_n (by omega)) dX9_count_131
  · have c11i : ¬ (Int32.toInt a < (10 : Int)) := fun h9 => c11 ((i3_lt _ _).mpr h9)
    refine lv_iload_n hx hb dX9_count_112 rfl (lv_at hl 1 rfl) ?_
    refine lv_bipush (v := 34) hx hb dX9_count_113 (by decide) ?_
    refine lv_icmp_ge (tgt := 130) hx hb dX9_count_115 (by decide) (fun c12 => ?_) (fun c12 => ?_)
    · have c12i : (34 : Int) ≤ Int32.toInt a := (i3_le _ _).mp c12
      refine lv_iconst (v := (-1)) hx hb dX9_count_130 (by decide) ?_
      exact pc_iret (v := (-1)) (S := S) hx hb hr hlk hK hZ hA hW hS (cnt_n (by omega)) dX9_count_131
    · have c12i : ¬ ((34 : Int) ≤ Int32.toInt a) := fun h9 => c12 ((i3_le _ _).mpr h9)
      refine lv_aload_n hx hb dX9_count_118 rfl (lv_at hl 0 rfl) ?_
      refine pg_gr (b := m_priceOf) (ci := 9) (C := RX9) (T := TX9) (N := 63) hx hb hts wi9 hown hK hW hk (by decide) rfl 26 (by decide) (hts (.fieldLink RX9 45 "IceHallModel" "priceOf" "[I") (by decide +kernel)) (fun _ h9 => h9) rfl r_26 dX9_count_119 ?_
      refine lv_iload_n hx hb dX9_count_122 rfl (lv_at hl 1 rfl) ?_
      refine lv_bipush (v := 10) hx hb dX9_count_123 (by decide) ?_
      refine lv_isub hx hb dX9_count_125 ?_
      have hsub : (a - 10).toInt = a.toInt - 10 := i3_sub rfl rfl (by omega) (by omega)
      refine pg_iald hx hb hK hW k_26 (by rw [show sL S m_priceOf = 24 from n_26]; exact r_in (by omega)) dX9_count_126 ?_
      rw [show sI S m_priceOf (Int32.toNatClampNeg (a - 10)) = 10 from a_m_priceOf _ (by first | decide | exact cl_lt (by omega) (by omega))]
      refine lv_goto (tgt := 131) hx hb dX9_count_127 (by decide) ?_
      exact pc_iret (v := 10) (S := S) hx hb hr hlk hK hZ hA hW hS (cnt_10 (by omega) (by omega)) dX9_count_131
