set_option maxHeartbeats 4000000 in
set_option maxRecDepth 100000 in
theorem c_X8_runCompressors (l : Launch) (D : va_G) (cy : Nat → ClassId) (A : Nat → Prop) (S : St) (h pr : Nat) (a : Int32) (a_0 : sK S h = 8) (a_5 : sR S h 4 = some pr) (a_57 : sK S pr = 11) (a_58 : sL S pr = 24) (a_59 : ∀ j, j < 24 → sI S pr j = 10) (a_113 : sI S h 9 = 0) (a_114 : sI S h 10 = 0) (a_115 : sI S h 11 = 200) (a_116 : sI S h 12 = 400) (a_117 : sI S h 13 = 3) (a_118 : sI S h 14 = 2) (a_119 : sI S h 15 = 0) (a_120 : sI S h 16 = 0) (a_121 : sI S h 17 = 0) : MV l yX8_runCompressors wsX8_runCompressors ({ frames := 0, cells := 0, slots := 0, locals := 0 } : Room) 0 0 D cy A [.ref h, .int a] S (fun S1 => (sK S1 = sK S ∧ sR S1 = sR S ∧ sL S1 = sL S ∧ sJ S1 = sJ S) ∧ sI S1 h 9 = 0 ∧ sI S1 h 10 = 0 ∧ True) := by
  refine mt_start (cc := cX8_runCompressors) (maxL := 2) (ret := none) (by decide) rfl (Nat.le_of_ble_eq_true rfl) ?_
  intro p e s m args below meth c hx hb hr hlk hml hown hnm hts hK hZ hA hW hS ls hl
  have hl : lv_has ls 2 [(0, .ref h), (1, .int a)] := hl
  have hown : s.vm.findClass RX8 = some m.cls := hown
  have F : CallFix p m c cX8_runCompressors 2 s args wsX8_runCompressors RX8 := ⟨hx, hb, hml, hown, hts⟩
  have wi8 : ∀ w ∈ u_ws RX8 TX8 18, w ∈ wsX8_runCompressors := by decide +kernel
  refine lv_aload_n hx hb dX8_runCompressors_0 rfl (lv_at hl 0 rfl) ?_
  refine lv_dup hx hb dX8_runCompressors_1 rfl ?_
  refine pg_gi (ci := 8) (C := RX8) (T := TX8) (N := 18) hx hb hts wi8 hown hK hW a_0 (by decide) rfl 16 (by decide) (hts (.fieldLink RX8 264 "IceHall" "cost" "I") (by decide +kernel)) (fun _ h9 => h9) rfl dX8_runCompressors_2 ?_
  rw [show sI S h 16 = 0 from a_120]
  refine lv_iload_n hx hb dX8_runCompressors_5 rfl (lv_at hl 1 rfl) ?_
  refine lv_aload_n hx hb dX8_runCompressors_6 rfl (lv_at hl 0 rfl) ?_
  refine pg_gr (b := pr) (ci := 8) (C := RX8) (T := TX8) (N := 18) hx hb hts wi8 hown hK hW a_0 (by decide) rfl 4 (by decide) (hts (.fieldLink RX8 32 "IceHall" "prices" "[I") (by decide +kernel)) (fun _ h9 => h9) rfl a_5 dX8_runCompressors_7 ?_
  refine lv_aload_n hx hb dX8_runCompressors_10 rfl (lv_at hl 0 rfl) ?_
  refine pg_gi (ci := 8) (C := RX8) (T := TX8) (N := 18) hx hb hts wi8 hown hK hW a_0 (by decide) rfl 10 (by decide) (hts (.fieldLink RX8 96 "IceHall" "now" "I") (by decide +kernel)) (fun _ h9 => h9) rfl dX8_runCompressors_11 ?_
  rw [show sI S h 10 = 0 from a_114]
  refine lv_bipush (v := 24) hx hb dX8_runCompressors_14 (by decide) ?_
  refine lv_irem hx hb dX8_runCompressors_16 (by decide) ?_
  rw [show (0 - 0 / 24 * 24 : Int32) = 0 from by decide]
  refine pg_iald hx hb hK hW a_57 (by rw [show sL S pr = 24 from a_58]; exact vp_in_nI (n := 0) (by decide) (by decide)) dX8_runCompressors_17 ?_
  rw [show sI S pr (Int32.toNatClampNeg 0) = 10 from a_59 _ (by decide)]
  refine lv_imul hx hb dX8_runCompressors_18 ?_
  refine lv_iadd hx hb dX8_runCompressors_19 ?_
  refine pg_pi (ci := 8) (C := RX8) (T := TX8) (N := 18) hx hb hts wi8 tyX8 tyX8_ok nmX8 hown hK hW hS a_0 (by decide) rfl 16 (by decide) (hts (.fieldLink RX8 264 "IceHall" "cost" "I") (by decide +kernel)) (fun _ h9 => h9) rfl rfl rfl dX8_runCompressors_20 (fun H locs hW hS => ?_)
  have w1 : sI (stI S h 16 (0 + (a * 10))) h 9 = 0 := (iI_k (by decide)).trans a_113
  have w2 : sI (stI S h 16 (0 + (a * 10))) h 10 = 0 := (iI_k (by decide)).trans a_114
  have w3 : sI (stI S h 16 (0 + (a * 10))) h 11 = 200 := (iI_k (by decide)).trans a_115
  have w4 : sI (stI S h 16 (0 + (a * 10))) h 12 = 400 := (iI_k (by decide)).trans a_116
  have w5 : sI (stI S h 16 (0 + (a * 10))) h 13 = 3 := (iI_k (by decide)).trans a_117
  have w6 : sI (stI S h 16 (0 + (a * 10))) h 14 = 2 := (iI_k (by decide)).trans a_118
  have w7 : sI (stI S h 16 (0 + (a * 10))) h 15 = 0 := (iI_k (by decide)).trans a_119
  have w8 : sI (stI S h 16 (0 + (a * 10))) h 17 = 0 := (iI_k (by decide)).trans a_121
  have w9 : sI (stI S h 16 (0 + (a * 10))) h 16 = 0 + (a * 10) := iI_s
  have w10 : ∀ j, j < 24 → sI (stI S h 16 (0 + (a * 10))) pr j = 10 := fun j hj => (iI_a (fk_ne a_57 a_0 (by decide))).trans (a_59 j hj)
  refine lv_aload_n hx hb dX8_runCompressors_23 rfl (lv_at hl 0 rfl) ?_
  refine lv_dup hx hb dX8_runCompressors_24 rfl ?_
  refine pg_gi (ci := 8) (C := RX8) (T := TX8) (N := 18) hx hb hts wi8 hown hK hW a_0 (by decide) rfl 11 (by decide) (hts (.fieldLink RX8 68 "IceHall" "store" "I") (by decide +kernel)) (fun _ h9 => h9) rfl dX8_runCompressors_25 ?_
  rw [show sI (stI S h 16 (0 + (a * 10))) h 11 = 200 from w3]
  refine lv_iload_n hx hb dX8_runCompressors_28 rfl (lv_at hl 1 rfl) ?_
  refine lv_bipush (v := 20) hx hb dX8_runCompressors_29 (by decide) ?_
  refine lv_imul hx hb dX8_runCompressors_31 ?_
  refine lv_iadd hx hb dX8_runCompressors_32 ?_
  refine pg_pi (ci := 8) (C := RX8) (T := TX8) (N := 18) hx hb hts wi8 tyX8 tyX8_ok nmX8 hown hK hW hS a_0 (by decide) rfl 11 (by decide) (hts (.fieldLink RX8 68 "IceHall" "store" "I") (by decide +kernel)) (fun _ h9 => h9) rfl rfl rfl dX8_runCompressors_33 (fun H locs hW hS => ?_)
  have w11 : sI (stI (stI S h 16 (0 + (a * 10))) h 11 (200 + (a * 20))) h 9 = 0 := (iI_k (by decide)).trans w1
  have w12 : sI (stI (stI S h 16 (0 + (a * 10))) h 11 (200 + (a * 20))) h 10 = 0 := (iI_k (by decide)).trans w2
  have w13 : sI (stI (stI S h 16 (0 + (a * 10))) h 11 (200 + (a * 20))) h 12 = 400 := (iI_k (by decide)).trans w4
  have w14 : sI (stI (stI S h 16 (0 + (a * 10))) h 11 (200 + (a * 20))) h 13 = 3 := (iI_k (by decide)).trans w5
  have w15 : sI (stI (stI S h 16 (0 + (a * 10))) h 11 (200 + (a * 20))) h 14 = 2 := (iI_k (by decide)).trans w6
  have w16 : sI (stI (stI S h 16 (0 + (a * 10))) h 11 (200 + (a * 20))) h 15 = 0 := (iI_k (by decide)).trans w7
  have w17 : sI (stI (stI S h 16 (0 + (a * 10))) h 11 (200 + (a * 20))) h 17 = 0 := (iI_k (by decide)).trans w8
  have w18 : sI (stI (stI S h 16 (0 + (a * 10))) h 11 (200 + (a * 20))) h 16 = 0 + (a * 10) := (iI_k (by decide)).trans w9
  have w19 : sI (stI (stI S h 16 (0 + (a * 10))) h 11 (200 + (a * 20))) h 11 = 200 + (a * 20) := iI_s
  have w20 : ∀ j, j < 24 → sI (stI (stI S h 16 (0 + (a * 10))) h 11 (200 + (a * 20))) pr j = 10 := fun j hj => (iI_a (fk_ne a_57 a_0 (by decide))).trans (w10 j hj)
  clear w1 w2 w3 w4 w5 w6 w7 w8 w9 w10
  refine lv_aload_n hx hb dX8_runCompressors_36 rfl (lv_at hl 0 rfl) ?_
  refine pg_gi (ci := 8) (C := RX8) (T := TX8) (N := 18) hx hb hts wi8 hown hK hW a_0 (by decide) rfl 11 (by decide) (hts (.fieldLink RX8 68 "IceHall" "store" "I") (by decide +kernel)) (fun _ h9 => h9) rfl dX8_runCompressors_37 ?_
  rw [show sI (stI (stI S h 16 (0 + (a * 10))) h 11 (200 + (a * 20))) h 11 = 200 + (a * 20) from w19]
  refine lv_aload_n hx hb dX8_runCompressors_40 rfl (lv_at hl 0 rfl) ?_
  refine pg_gi (ci := 8) (C := RX8) (T := TX8) (N := 18) hx hb hts wi8 hown hK hW a_0 (by decide) rfl 12 (by decide) (hts (.fieldLink RX8 72 "IceHall" "storeMost" "I") (by decide +kernel)) (fun _ h9 => h9) rfl dX8_runCompressors_41 ?_
  rw [show sI (stI (stI S h 16 (0 + (a * 10))) h 11 (200 + (a * 20))) h 12 = 400 from w13]
  refine lv_icmp_le (tgt := 73) hx hb dX8_runCompressors_44 (by decide) (fun c21 => ?_) (fun c21 => ?_)
  · have c21i : Int32.toInt (200 + (a * 20)) ≤ (400 : Int) := (i3_le _ _).mp c21
    exact pc_vret (S := stI (stI S h 16 (0 + (a * 10))) h 11 (200 + (a * 20))) hx hb hr hlk hK hZ hA hW hS (⟨⟨rfl, rfl, rfl, rfl⟩, w11, w12, trivial⟩) dX8_runCompressors_73
  · have c21i : ¬ (Int32.toInt (200 + (a * 20)) ≤ (400 : Int)) := fun h9 => c21 ((i3_le _ _).mpr h9)
    refine lv_aload_n hx hb dX8_runCompressors_47 rfl (lv_at hl 0 rfl) ?_
    refine lv_dup hx hb dX8_runCompressors_48 rfl ?_
    refine pg_gi (ci := 8) (C := RX8) (T := TX8) (N := 18) hx hb hts wi8 hown hK hW a_0 (by decide) rfl 15 (by decide) (hts (.fieldLink RX8 261 "IceHall" "spilt" "I") (by decide +kernel)) (fun _ h9 => h9) rfl dX8_runCompressors_49 ?_
    rw [show sI (stI (stI S h 16 (0 + (a * 10))) h 11 (200 + (a * 20))) h 15 = 0 from w16]
    refine lv_aload_n hx hb dX8_runCompressors_52 rfl (lv_at hl 0 rfl) ?_
    refine pg_gi (ci := 8) (C := RX8) (T := TX8) (N := 18) hx hb hts wi8 hown hK hW a_0 (by decide) rfl 11 (by decide) (hts (.fieldLink RX8 68 "IceHall" "store" "I") (by decide +kernel)) (fun _ h9 => h9) rfl dX8_runCompressors_53 ?_
    rw [show sI (stI (stI S h 16 (0 + (a * 10))) h 11 (200 + (a * 20))) h 11 = 200 + (a * 20) from w19]
    refine lv_aload_n hx hb dX8_runCompressors_56 rfl (lv_at hl 0 rfl) ?_
    refine pg_gi (ci := 8) (C := RX8) (T := TX8) (N := 18) hx hb hts wi8 hown hK hW a_0 (by decide) rfl 12 (by decide) (hts (.fieldLink RX8 72 "IceHall" "storeMost" "I") (by decide +kernel)) (fun _ h9 => h9) rfl dX8_runCompressors_57 ?_
    rw [show sI (stI (stI S h 16 (0 + (a * 10))) h 11 (200 + (a * 20))) h 12 = 400 from w13]
    refine lv_isub hx hb dX8_runCompressors_60 ?_
    refine lv_iadd hx hb dX8_runCompressors_61 ?_
    refine pg_pi (ci := 8) (C := RX8) (T := TX8) (N := 18) hx hb hts wi8 tyX8 tyX8_ok nmX8 hown hK hW hS a_0 (by decide) rfl 15 (by decide) (hts (.fieldLink RX8 261 "IceHall" "spilt" "I") (by decide +kernel)) (fun _ h9 => h9) rfl rfl rfl dX8_runCompressors_62 (fun H locs hW hS => ?_)
    have w22 : sI (stI (stI (stI S h 16 (0 + (a * 10))) h 11 (200 + (a * 20))) h 15 (0 + ((200 + (a * 20)) - 400))) h 9 = 0 := (iI_k (by decide)).trans w11
    have w23 : sI (stI (stI (stI S h 16 (0 + (a * 10))) h 11 (200 + (a * 20))) h 15 (0 + ((200 + (a * 20)) - 400))) h 10 = 0 := (iI_k (by decide)).trans w12
    have w24 : sI (stI (stI (stI S h 16 (0 + (a * 10))) h 11 (200 + (a * 20))) h 15 (0 + ((200 + (a * 20)) - 400))) h 12 = 400 := (iI_k (by decide)).trans w13
    have w25 : sI (stI (stI (stI S h 16 (0 + (a * 10))) h 11 (200 + (a * 20))) h 15 (0 + ((200 + (a * 20)) - 400))) h 13 = 3 := (iI_k (by decide)).trans w14
    have w26 : sI (stI (stI (stI S h 16 (0 + (a * 10))) h 11 (200 + (a * 20))) h 15 (0 + ((200 + (a * 20)) - 400))) h 14 = 2 := (iI_k (by decide)).trans w15
    have w27 : sI (stI (stI (stI S h 16 (0 + (a * 10))) h 11 (200 + (a * 20))) h 15 (0 + ((200 + (a * 20)) - 400))) h 17 = 0 := (iI_k (by decide)).trans w17
    have w28 : sI (stI (stI (stI S h 16 (0 + (a * 10))) h 11 (200 + (a * 20))) h 15 (0 + ((200 + (a * 20)) - 400))) h 16 = 0 + (a * 10) := (iI_k (by decide)).trans w18
    have w29 : sI (stI (stI (stI S h 16 (0 + (a * 10))) h 11 (200 + (a * 20))) h 15 (0 + ((200 + (a * 20)) - 400))) h 11 = 200 + (a * 20) := (iI_k (by decide)).trans w19
    have w30 : sI (stI (stI (stI S h 16 (0 + (a * 10))) h 11 (200 + (a * 20))) h 15 (0 + ((200 + (a * 20)) - 400))) h 15 = 0 + ((200 + (a * 20)) - 400) := iI_s
    have w31 : ∀ j, j < 24 → sI (stI (stI (stI S h 16 (0 + (a * 10))) h 11 (200 + (a * 20))) h 15 (0 + ((200 + (a * 20)) - 400))) pr j = 10 := fun j hj => (iI_a (fk_ne a_57 a_0 (by decide))).trans (w20 j hj)
    clear w11 w12 w13 w14 w15 w16 w17 w18 w19 w20
    refine lv_aload_n hx hb dX8_runCompressors_65 rfl (lv_at hl 0 rfl) ?_
    refine lv_aload_n hx hb dX8_runCompressors_66 rfl (lv_at hl 0 rfl) ?_
    refine pg_gi (ci := 8) (C := RX8) (T := TX8) (N := 18) hx hb hts wi8 hown hK hW a_0 (by decide) rfl 12 (by decide) (hts (.fieldLink RX8 72 "IceHall" "storeMost" "I") (by decide +kernel)) (fun _ h9 => h9) rfl dX8_runCompressors_67 ?_
    rw [show sI (stI (stI (stI S h 16 (0 + (a * 10))) h 11 (200 + (a * 20))) h 15 (0 + ((200 + (a * 20)) - 400))) h 12 = 400 from w24]
    refine pg_pi (ci := 8) (C := RX8) (T := TX8) (N := 18) hx hb hts wi8 tyX8 tyX8_ok nmX8 hown hK hW hS a_0 (by decide) rfl 11 (by decide) (hts (.fieldLink RX8 68 "IceHall" "store" "I") (by decide +kernel)) (fun _ h9 => h9) rfl rfl rfl dX8_runCompressors_70 (fun H locs hW hS => ?_)
    have w32 : sI (stI (stI (stI (stI S h 16 (0 + (a * 10))) h 11 (200 + (a * 20))) h 15 (0 + ((200 + (a * 20)) - 400))) h 11 400) h 9 = 0 := (iI_k (by decide)).trans w22
    have w33 : sI (stI (stI (stI (stI S h 16 (0 + (a * 10))) h 11 (200 + (a * 20))) h 15 (0 + ((200 + (a * 20)) - 400))) h 11 400) h 10 = 0 := (iI_k (by decide)).trans w23
    have w34 : sI (stI (stI (stI (stI S h 16 (0 + (a * 10))) h 11 (200 + (a * 20))) h 15 (0 + ((200 + (a * 20)) - 400))) h 11 400) h 12 = 400 := (iI_k (by decide)).trans w24
    have w35 : sI (stI (stI (stI (stI S h 16 (0 + (a * 10))) h 11 (200 + (a * 20))) h 15 (0 + ((200 + (a * 20)) - 400))) h 11 400) h 13 = 3 := (iI_k (by decide)).trans w25
    have w36 : sI (stI (stI (stI (stI S h 16 (0 + (a * 10))) h 11 (200 + (a * 20))) h 15 (0 + ((200 + (a * 20)) - 400))) h 11 400) h 14 = 2 := (iI_k (by decide)).trans w26
    have w37 : sI (stI (stI (stI (stI S h 16 (0 + (a * 10))) h 11 (200 + (a * 20))) h 15 (0 + ((200 + (a * 20)) - 400))) h 11 400) h 17 = 0 := (iI_k (by decide)).trans w27
    have w38 : sI (stI (stI (stI (stI S h 16 (0 + (a * 10))) h 11 (200 + (a * 20))) h 15 (0 + ((200 + (a * 20)) - 400))) h 11 400) h 16 = 0 + (a * 10) := (iI_k (by decide)).trans w28
    have w39 : sI (stI (stI (stI (stI S h 16 (0 + (a * 10))) h 11 (200 + (a * 20))) h 15 (0 + ((200 + (a * 20)) - 400))) h 11 400) h 15 = 0 + ((200 + (a * 20)) - 400) := (iI_k (by decide)).trans w30
    have w40 : sI (stI (stI (stI (stI S h 16 (0 + (a * 10))) h 11 (200 + (a * 20))) h 15 (0 + ((200 + (a * 20)) - 400))) h 11 400) h 11 = 400 := iI_s
    have w41 : ∀ j, j < 24 → sI (stI (stI (stI (stI S h 16 (0 + (a * 10))) h 11 (200 + (a * 20))) h 15 (0 + ((200 + (a * 20)) - 400))) h 11 400) pr j = 10 := fun j hj => (iI_a (fk_ne a_57 a_0 (by decide))).trans (w31 j hj)
    clear w22 w23 w24 w25 w26 w27 w28 w29 w30 w31
    exact pc_vret (S := stI (stI (stI (stI S h 16 (0 + (a * 10))) h 11 (200 + (a * 20))) h 15 (0 + ((200 + (a * 20)) - 400))) h 11 400) hx hb hr hlk hK hZ hA hW hS (⟨⟨rfl, rfl, rfl, rfl⟩, w32, w33, trivial⟩) dX8_runCompressors_73
set_option maxHeartbeats 4000000 in
set_option maxRecDepth 100000 in
theorem c_X8_makeCut (l : Launch) (D : va_G) (cy : Nat → ClassId) (A : Nat → Prop) (S : St) (h i : Nat) (hk : sK S h = 8) (hki : sK S i = 1) (h9 : sI S h 9 = 0) (h10 : sI S h 10 = 0) : MV l yX8_makeCut wsX8_makeCut ({ frames := 2, cells := 0, slots := 0, locals := 81 } : Room) 0 0 D cy A [.ref h, .ref i] S (fun S1 => (sK S1 = sK S ∧ sR S1 = sR S ∧ sL S1 = sL S ∧ sJ S1 = sJ S) ∧ sI S1 h 9 = 0 ∧ sI S1 h 10 = 0 ∧ True) := by
  refine mt_start (cc := cX8_makeCut) (maxL := 3) (ret := none) (by decide) rfl (Nat.le_of_ble_eq_true rfl) ?_
  intro p e s m args below meth c hx hb hr hlk hml hown hnm hts hK hZ hA hW hS ls hl
  have hl : lv_has ls 3 [(0, .ref h), (1, .ref i)] := hl
  have hown : s.vm.findClass RX8 = some m.cls := hown
  have F : CallFix p m c cX8_makeCut 3 s args wsX8_makeCut RX8 := ⟨hx, hb, hml, hown, hts⟩
  have wi1 : ∀ w ∈ u_ws RX1 TX1 10, w ∈ wsX8_makeCut := by decide +kernel
  have wi8 : ∀ w ∈ u_ws RX8 TX8 18, w ∈ wsX8_makeCut := by decide +kernel
  refine lv_aload_n hx hb dX8_makeCut_0 rfl (lv_at hl 1 rfl) ?_
  refine pc_Vv (As := []) (rest := []) F (c_X1_shave l D cy A S i hki) (cwV 0 hts gX8_makeCut_X1_shave rfl rfl rfl (by decide +kernel) ⟨Nat.le_of_ble_eq_true rfl, Nat.le_of_ble_eq_true rfl⟩) hK hZ hA hW hS hki (by decide) rfl rfl hl.1 rfl (Nat.le_of_ble_eq_true rfl) dX8_makeCut_1 ⟨Nat.le_of_ble_eq_true rfl, Nat.le_of_ble_eq_true rfl⟩ (fun T2 H locs p3 hW hS => ?_)
  obtain ⟨ekT2, erT2, elT2, ejT2, eoT2⟩ := p3
  have f4 : sK T2 h = 8 := by rw [ekT2]; exact hk
  have f5 : sK T2 i = 1 := by rw [ekT2]; exact hki
  have f6 : sI T2 h 9 = 0 := by rw [eoT2 h (fk_ne hk hki (by decide))]; exact h9
  have f7 : sI T2 h 10 = 0 := by rw [eoT2 h (fk_ne hk hki (by decide))]; exact h10
  clear h9 h10
  refine lv_aload_n hx hb dX8_makeCut_4 rfl (lv_at hl 1 rfl) ?_
  refine pg_gi (ci := 1) (C := RX1) (T := TX1) (N := 10) hx hb hts wi1 hown hK hW f5 (by decide) rfl 9 (by decide) (hts (.fieldLink RX8 305 "IceHall$Ice" "toFlood" "I") (by decide +kernel)) (fun _ h9 => h9) rfl dX8_makeCut_5 ?_
  refine lv_aload_n hx hb dX8_makeCut_8 rfl (lv_at hl 0 rfl) ?_
  refine pg_gi (ci := 8) (C := RX8) (T := TX8) (N := 18) hx hb hts wi8 hown hK hW f4 (by decide) rfl 11 (by decide) (hts (.fieldLink RX8 68 "IceHall" "store" "I") (by decide +kernel)) (fun _ h9 => h9) rfl dX8_makeCut_9 ?_
  refine lv_iconst (v := 3) hx hb dX8_makeCut_12 (by decide) ?_
  refine lv_idiv hx hb dX8_makeCut_13 (by decide) ?_
  refine va_mmin hx hb (by rw [hml]; exact hl.1.symm) hown (hts (.methodLink RX8 286 Lib.Math.min.name) (by decide +kernel)) (hts (.static Lib.Math.min.name) (by decide +kernel)) (hts (.initialized "java/lang/Math") (by decide +kernel)) (hts (.code Lib.Math.min.name Lib.Math.min.code 2 (some .int)) (by decide +kernel)) (Nat.le_of_ble_eq_true rfl) (Nat.le_of_ble_eq_true rfl) (Nat.le_of_ble_eq_true rfl) (Nat.le_of_ble_eq_true rfl) dX8_makeCut_14 ?_
  refine lv_istore_n (lv' := [(2, .int (if ((sI T2 h 11) / 3) < (sI T2 i 9) then (sI T2 h 11) / 3 else sI T2 i 9)), (0, .ref h), (1, .ref i)]) hx hb dX8_makeCut_17 rfl hl (by decide) rfl (fun ls hl => ?_)
  refine lv_aload_n hx hb dX8_makeCut_18 rfl (lv_at hl 1 rfl) ?_
  refine lv_dup hx hb dX8_makeCut_19 rfl ?_
  refine pg_gi (ci := 8) (C := RX8) (T := TX8) (N := 18) hx hb hts wi8 hown hK hW f4 (by decide) rfl 11 (by decide) (hts (.fieldLink RX8 68 "IceHall" "store" "I") (by decide +kernel)) (fun _ h9 => h9) rfl dX8_makeCut_20 ?_
  refine lv_iload_n hx hb dX8_makeCut_23 rfl (lv_at hl 0 rfl) ?_
  refine lv_iconst (v := 3) hx hb dX8_makeCut_24 (by decide) ?_
  refine lv_imul hx hb dX8_makeCut_25 ?_
  refine lv_isub hx hb dX8_makeCut_26 ?_
  refine pg_pi (ci := 8) (C := RX8) (T := TX8) (N := 18) hx hb hts wi8 tyX8 tyX8_ok nmX8 hown hK hW hS f4 (by decide) rfl 11 (by decide) (hts (.fieldLink RX8 68 "IceHall" "store" "I") (by decide +kernel)) (fun _ h9 => h9) rfl rfl rfl dX8_makeCut_27 (fun H locs hW hS => ?_)
  have w8 : sI (stI T2 h 11 ((sI T2 h 11) - ((if ((sI T2 h 11) / 3) < (sI T2 i 9) then (sI T2 h 11) / 3 else sI T2 i 9) * 3))) h 9 = 0 := (iI_k (by decide)).trans f6
  have w9 : sI (stI T2 h 11 ((sI T2 h 11) - ((if ((sI T2 h 11) / 3) < (sI T2 i 9) then (sI T2 h 11) / 3 else sI T2 i 9) * 3))) h 10 = 0 := (iI_k (by decide)).trans f7
  have w10 : sI (stI T2 h 11 ((sI T2 h 11) - ((if ((sI T2 h 11) / 3) < (sI T2 i 9) then (sI T2 h 11) / 3 else sI T2 i 9) * 3))) h 11 = (sI T2 h 11) - ((if ((sI T2 h 11) / 3) < (sI T2 i 9) then (sI T2 h 11) / 3 else sI T2 i 9) * 3) := iI_s
  clear f6 f7
  refine lv_aload_n hx hb dX8_makeCut_30 rfl (lv_at hl 1 rfl) ?_
  refine lv_dup hx hb dX8_makeCut_31 rfl ?_
  refine pg_gi (ci := 8) (C := RX8) (T := TX8) (N := 18) hx hb hts wi8 hown hK hW f4 (by decide) rfl 17 (by decide) (hts (.fieldLink RX8 267 "IceHall" "waste" "I") (by decide +kernel)) (fun _ h9 => h9) rfl dX8_makeCut_32 ?_
  refine lv_aload_n hx hb dX8_makeCut_35 rfl (lv_at hl 2 rfl) ?_
  refine pg_gi (ci := 1) (C := RX1) (T := TX1) (N := 10) hx hb hts wi1 hown hK hW f5 (by decide) rfl 9 (by decide) (hts (.fieldLink RX8 305 "IceHall$Ice" "toFlood" "I") (by decide +kernel)) (fun _ h9 => h9) rfl dX8_makeCut_36 ?_
  refine lv_iload_n hx hb dX8_makeCut_39 rfl (lv_at hl 0 rfl) ?_
  refine lv_isub hx hb dX8_makeCut_40 ?_
  refine lv_iadd hx hb dX8_makeCut_41 ?_
  refine pg_pi (ci := 8) (C := RX8) (T := TX8) (N := 18) hx hb hts wi8 tyX8 tyX8_ok nmX8 hown hK hW hS f4 (by decide) rfl 17 (by decide) (hts (.fieldLink RX8 267 "IceHall" "waste" "I") (by decide +kernel)) (fun _ h9 => h9) rfl rfl rfl dX8_makeCut_42 (fun H locs hW hS => ?_)
  have w11 : sI (stI (stI T2 h 11 ((sI T2 h 11) - ((if ((sI T2 h 11) / 3) < (sI T2 i 9) then (sI T2 h 11) / 3 else sI T2 i 9) * 3))) h 17 ((sI (stI T2 h 11 ((sI T2 h 11) - ((if ((sI T2 h 11) / 3) < (sI T2 i 9) then (sI T2 h 11) / 3 else sI T2 i 9) * 3))) h 17) + ((sI (stI T2 h 11 ((sI T2 h 11) - ((if ((sI T2 h 11) / 3) < (sI T2 i 9) then (sI T2 h 11) / 3 else sI T2 i 9) * 3))) i 9) - (if ((sI T2 h 11) / 3) < (sI T2 i 9) then (sI T2 h 11) / 3 else sI T2 i 9)))) h 9 = 0 := (iI_k (by decide)).trans w8
  have w12 : sI (stI (stI T2 h 11 ((sI T2 h 11) - ((if ((sI T2 h 11) / 3) < (sI T2 i 9) then (sI T2 h 11) / 3 else sI T2 i 9) * 3))) h 17 ((sI (stI T2 h 11 ((sI T2 h 11) - ((if ((sI T2 h 11) / 3) < (sI T2 i 9) then (sI T2 h 11) / 3 else sI T2 i 9) * 3))) h 17) + ((sI (stI T2 h 11 ((sI T2 h 11) - ((if ((sI T2 h 11) / 3) < (sI T2 i 9) then (sI T2 h 11) / 3 else sI T2 i 9) * 3))) i 9) - (if ((sI T2 h 11) / 3) < (sI T2 i 9) then (sI T2 h 11) / 3 else sI T2 i 9)))) h 10 = 0 := (iI_k (by decide)).trans w9
  have w13 : sI (stI (stI T2 h 11 ((sI T2 h 11) - ((if ((sI T2 h 11) / 3) < (sI T2 i 9) then (sI T2 h 11) / 3 else sI T2 i 9) * 3))) h 17 ((sI (stI T2 h 11 ((sI T2 h 11) - ((if ((sI T2 h 11) / 3) < (sI T2 i 9) then (sI T2 h 11) / 3 else sI T2 i 9) * 3))) h 17) + ((sI (stI T2 h 11 ((sI T2 h 11) - ((if ((sI T2 h 11) / 3) < (sI T2 i 9) then (sI T2 h 11) / 3 else sI T2 i 9) * 3))) i 9) - (if ((sI T2 h 11) / 3) < (sI T2 i 9) then (sI T2 h 11) / 3 else sI T2 i 9)))) h 11 = (sI T2 h 11) - ((if ((sI T2 h 11) / 3) < (sI T2 i 9) then (sI T2 h 11) / 3 else sI T2 i 9) * 3) := (iI_k (by decide)).trans w10
  have w14 : sI (stI (stI T2 h 11 ((sI T2 h 11) - ((if ((sI T2 h 11) / 3) < (sI T2 i 9) then (sI T2 h 11) / 3 else sI T2 i 9) * 3))) h 17 ((sI (stI T2 h 11 ((sI T2 h 11) - ((if ((sI T2 h 11) / 3) < (sI T2 i 9) then (sI T2 h 11) / 3 else sI T2 i 9) * 3))) h 17) + ((sI (stI T2 h 11 ((sI T2 h 11) - ((if ((sI T2 h 11) / 3) < (sI T2 i 9) then (sI T2 h 11) / 3 else sI T2 i 9) * 3))) i 9) - (if ((sI T2 h 11) / 3) < (sI T2 i 9) then (sI T2 h 11) / 3 else sI T2 i 9)))) h 17 = (sI (stI T2 h 11 ((sI T2 h 11) - ((if ((sI T2 h 11) / 3) < (sI T2 i 9) then (sI T2 h 11) / 3 else sI T2 i 9) * 3))) h 17) + ((sI (stI T2 h 11 ((sI T2 h 11) - ((if ((sI T2 h 11) / 3) < (sI T2 i 9) then (sI T2 h 11) / 3 else sI T2 i 9) * 3))) i 9) - (if ((sI T2 h 11) / 3) < (sI T2 i 9) then (sI T2 h 11) / 3 else sI T2 i 9)) := iI_s
  clear w8 w9 w10
  refine lv_aload_n hx hb dX8_makeCut_45 rfl (lv_at hl 2 rfl) ?_
  refine lv_iload_n hx hb dX8_makeCut_46 rfl (lv_at hl 0 rfl) ?_
  refine pc_Vv (As := [.int (if ((sI T2 h 11) / 3) < (sI T2 i 9) then (sI T2 h 11) / 3 else sI T2 i 9)]) (rest := []) F (c_X1_freeze l D cy A (stI (stI T2 h 11 ((sI T2 h 11) - ((if ((sI T2 h 11) / 3) < (sI T2 i 9) then (sI T2 h 11) / 3 else sI T2 i 9) * 3))) h 17 ((sI (stI T2 h 11 ((sI T2 h 11) - ((if ((sI T2 h 11) / 3) < (sI T2 i 9) then (sI T2 h 11) / 3 else sI T2 i 9) * 3))) h 17) + ((sI (stI T2 h 11 ((sI T2 h 11) - ((if ((sI T2 h 11) / 3) < (sI T2 i 9) then (sI T2 h 11) / 3 else sI T2 i 9) * 3))) i 9) - (if ((sI T2 h 11) / 3) < (sI T2 i 9) then (sI T2 h 11) / 3 else sI T2 i 9)))) i (if ((sI T2 h 11) / 3) < (sI T2 i 9) then (sI T2 h 11) / 3 else sI T2 i 9) f5) (cwV 1 hts gX8_makeCut_X1_freeze rfl rfl rfl (by decide +kernel) ⟨Nat.le_of_ble_eq_true rfl, Nat.le_of_ble_eq_true rfl⟩) hK hZ hA hW hS f5 (by decide) rfl rfl hl.1 rfl (Nat.le_of_ble_eq_true rfl) dX8_makeCut_47 ⟨Nat.le_of_ble_eq_true rfl, Nat.le_of_ble_eq_true rfl⟩ (fun T16 H locs p17 hW hS => ?_)
  rw [p17] at hW
  have w18 : sI (stI (stI (stI T2 h 11 ((sI T2 h 11) - ((if ((sI T2 h 11) / 3) < (sI T2 i 9) then (sI T2 h 11) / 3 else sI T2 i 9) * 3))) h 17 ((sI (stI T2 h 11 ((sI T2 h 11) - ((if ((sI T2 h 11) / 3) < (sI T2 i 9) then (sI T2 h 11) / 3 else sI T2 i 9) * 3))) h 17) + ((sI (stI T2 h 11 ((sI T2 h 11) - ((if ((sI T2 h 11) / 3) < (sI T2 i 9) then (sI T2 h 11) / 3 else sI T2 i 9) * 3))) i 9) - (if ((sI T2 h 11) / 3) < (sI T2 i 9) then (sI T2 h 11) / 3 else sI T2 i 9)))) i 3 (sI (stI (stI T2 h 11 ((sI T2 h 11) - ((if ((sI T2 h 11) / 3) < (sI T2 i 9) then (sI T2 h 11) / 3 else sI T2 i 9) * 3))) h 17 ((sI (stI T2 h 11 ((sI T2 h 11) - ((if ((sI T2 h 11) / 3) < (sI T2 i 9) then (sI T2 h 11) / 3 else sI T2 i 9) * 3))) h 17) + ((sI (stI T2 h 11 ((sI T2 h 11) - ((if ((sI T2 h 11) / 3) < (sI T2 i 9) then (sI T2 h 11) / 3 else sI T2 i 9) * 3))) i 9) - (if ((sI T2 h 11) / 3) < (sI T2 i 9) then (sI T2 h 11) / 3 else sI T2 i 9)))) i 3 + (if ((sI T2 h 11) / 3) < (sI T2 i 9) then (sI T2 h 11) / 3 else sI T2 i 9))) h 9 = 0 := (iI_k (by decide)).trans w11
  have w19 : sI (stI (stI (stI T2 h 11 ((sI T2 h 11) - ((if ((sI T2 h 11) / 3) < (sI T2 i 9) then (sI T2 h 11) / 3 else sI T2 i 9) * 3))) h 17 ((sI (stI T2 h 11 ((sI T2 h 11) - ((if ((sI T2 h 11) / 3) < (sI T2 i 9) then (sI T2 h 11) / 3 else sI T2 i 9) * 3))) h 17) + ((sI (stI T2 h 11 ((sI T2 h 11) - ((if ((sI T2 h 11) / 3) < (sI T2 i 9) then (sI T2 h 11) / 3 else sI T2 i 9) * 3))) i 9) - (if ((sI T2 h 11) / 3) < (sI T2 i 9) then (sI T2 h 11) / 3 else sI T2 i 9)))) i 3 (sI (stI (stI T2 h 11 ((sI T2 h 11) - ((if ((sI T2 h 11) / 3) < (sI T2 i 9) then (sI T2 h 11) / 3 else sI T2 i 9) * 3))) h 17 ((sI (stI T2 h 11 ((sI T2 h 11) - ((if ((sI T2 h 11) / 3) < (sI T2 i 9) then (sI T2 h 11) / 3 else sI T2 i 9) * 3))) h 17) + ((sI (stI T2 h 11 ((sI T2 h 11) - ((if ((sI T2 h 11) / 3) < (sI T2 i 9) then (sI T2 h 11) / 3 else sI T2 i 9) * 3))) i 9) - (if ((sI T2 h 11) / 3) < (sI T2 i 9) then (sI T2 h 11) / 3 else sI T2 i 9)))) i 3 + (if ((sI T2 h 11) / 3) < (sI T2 i 9) then (sI T2 h 11) / 3 else sI T2 i 9))) h 10 = 0 := (iI_k (by decide)).trans w12
  have w20 : sI (stI (stI (stI T2 h 11 ((sI T2 h 11) - ((if ((sI T2 h 11) / 3) < (sI T2 i 9) then (sI T2 h 11) / 3 else sI T2 i 9) * 3))) h 17 ((sI (stI T2 h 11 ((sI T2 h 11) - ((if ((sI T2 h 11) / 3) < (sI T2 i 9) then (sI T2 h 11) / 3 else sI T2 i 9) * 3))) h 17) + ((sI (stI T2 h 11 ((sI T2 h 11) - ((if ((sI T2 h 11) / 3) < (sI T2 i 9) then (sI T2 h 11) / 3 else sI T2 i 9) * 3))) i 9) - (if ((sI T2 h 11) / 3) < (sI T2 i 9) then (sI T2 h 11) / 3 else sI T2 i 9)))) i 3 (sI (stI (stI T2 h 11 ((sI T2 h 11) - ((if ((sI T2 h 11) / 3) < (sI T2 i 9) then (sI T2 h 11) / 3 else sI T2 i 9) * 3))) h 17 ((sI (stI T2 h 11 ((sI T2 h 11) - ((if ((sI T2 h 11) / 3) < (sI T2 i 9) then (sI T2 h 11) / 3 else sI T2 i 9) * 3))) h 17) + ((sI (stI T2 h 11 ((sI T2 h 11) - ((if ((sI T2 h 11) / 3) < (sI T2 i 9) then (sI T2 h 11) / 3 else sI T2 i 9) * 3))) i 9) - (if ((sI T2 h 11) / 3) < (sI T2 i 9) then (sI T2 h 11) / 3 else sI T2 i 9)))) i 3 + (if ((sI T2 h 11) / 3) < (sI T2 i 9) then (sI T2 h 11) / 3 else sI T2 i 9))) h 11 = (sI T2 h 11) - ((if ((sI T2 h 11) / 3) < (sI T2 i 9) then (sI T2 h 11) / 3 else sI T2 i 9) * 3) := (iI_k (by decide)).trans w13
  have w21 : sI (stI (stI (stI T2 h 11 ((sI T2 h 11) - ((if ((sI T2 h 11) / 3) < (sI T2 i 9) then (sI T2 h 11) / 3 else sI T2 i 9) * 3))) h 17 ((sI (stI T2 h 11 ((sI T2 h 11) - ((if ((sI T2 h 11) / 3) < (sI T2 i 9) then (sI T2 h 11) / 3 else sI T2 i 9) * 3))) h 17) + ((sI (stI T2 h 11 ((sI T2 h 11) - ((if ((sI T2 h 11) / 3) < (sI T2 i 9) then (sI T2 h 11) / 3 else sI T2 i 9) * 3))) i 9) - (if ((sI T2 h 11) / 3) < (sI T2 i 9) then (sI T2 h 11) / 3 else sI T2 i 9)))) i 3 (sI (stI (stI T2 h 11 ((sI T2 h 11) - ((if ((sI T2 h 11) / 3) < (sI T2 i 9) then (sI T2 h 11) / 3 else sI T2 i 9) * 3))) h 17 ((sI (stI T2 h 11 ((sI T2 h 11) - ((if ((sI T2 h 11) / 3) < (sI T2 i 9) then (sI T2 h 11) / 3 else sI T2 i 9) * 3))) h 17) + ((sI (stI T2 h 11 ((sI T2 h 11) - ((if ((sI T2 h 11) / 3) < (sI T2 i 9) then (sI T2 h 11) / 3 else sI T2 i 9) * 3))) i 9) - (if ((sI T2 h 11) / 3) < (sI T2 i 9) then (sI T2 h 11) / 3 else sI T2 i 9)))) i 3 + (if ((sI T2 h 11) / 3) < (sI T2 i 9) then (sI T2 h 11) / 3 else sI T2 i 9))) h 17 = (sI (stI T2 h 11 ((sI T2 h 11) - ((if ((sI T2 h 11) / 3) < (sI T2 i 9) then (sI T2 h 11) / 3 else sI T2 i 9) * 3))) h 17) + ((sI (stI T2 h 11 ((sI T2 h 11) - ((if ((sI T2 h 11) / 3) < (sI T2 i 9) then (sI T2 h 11) / 3 else sI T2 i 9) * 3))) i 9) - (if ((sI T2 h 11) / 3) < (sI T2 i 9) then (sI T2 h 11) / 3 else sI T2 i 9)) := (iI_k (by decide)).trans w14
  have w22 : sI (stI (stI (stI T2 h 11 ((sI T2 h 11) - ((if ((sI T2 h 11) / 3) < (sI T2 i 9) then (sI T2 h 11) / 3 else sI T2 i 9) * 3))) h 17 ((sI (stI T2 h 11 ((sI T2 h 11) - ((if ((sI T2 h 11) / 3) < (sI T2 i 9) then (sI T2 h 11) / 3 else sI T2 i 9) * 3))) h 17) + ((sI (stI T2 h 11 ((sI T2 h 11) - ((if ((sI T2 h 11) / 3) < (sI T2 i 9) then (sI T2 h 11) / 3 else sI T2 i 9) * 3))) i 9) - (if ((sI T2 h 11) / 3) < (sI T2 i 9) then (sI T2 h 11) / 3 else sI T2 i 9)))) i 3 (sI (stI (stI T2 h 11 ((sI T2 h 11) - ((if ((sI T2 h 11) / 3) < (sI T2 i 9) then (sI T2 h 11) / 3 else sI T2 i 9) * 3))) h 17 ((sI (stI T2 h 11 ((sI T2 h 11) - ((if ((sI T2 h 11) / 3) < (sI T2 i 9) then (sI T2 h 11) / 3 else sI T2 i 9) * 3))) h 17) + ((sI (stI T2 h 11 ((sI T2 h 11) - ((if ((sI T2 h 11) / 3) < (sI T2 i 9) then (sI T2 h 11) / 3 else sI T2 i 9) * 3))) i 9) - (if ((sI T2 h 11) / 3) < (sI T2 i 9) then (sI T2 h 11) / 3 else sI T2 i 9)))) i 3 + (if ((sI T2 h 11) / 3) < (sI T2 i 9) then (sI T2 h 11) / 3 else sI T2 i 9))) i 3 = sI (stI (stI T2 h 11 ((sI T2 h 11) - ((if ((sI T2 h 11) / 3) < (sI T2 i 9) then (sI T2 h 11) / 3 else sI T2 i 9) * 3))) h 17 ((sI (stI T2 h 11 ((sI T2 h 11) - ((if ((sI T2 h 11) / 3) < (sI T2 i 9) then (sI T2 h 11) / 3 else sI T2 i 9) * 3))) h 17) + ((sI (stI T2 h 11 ((sI T2 h 11) - ((if ((sI T2 h 11) / 3) < (sI T2 i 9) then (sI T2 h 11) / 3 else sI T2 i 9) * 3))) i 9) - (if ((sI T2 h 11) / 3) < (sI T2 i 9) then (sI T2 h 11) / 3 else sI T2 i 9)))) i 3 + (if ((sI T2 h 11) / 3) < (sI T2 i 9) then (sI T2 h 11) / 3 else sI T2 i 9) := iI_s
  clear w11 w12 w13 w14
  have w23 : sI (stI (stI (stI (stI T2 h 11 ((sI T2 h 11) - ((if ((sI T2 h 11) / 3) < (sI T2 i 9) then (sI T2 h 11) / 3 else sI T2 i 9) * 3))) h 17 ((sI (stI T2 h 11 ((sI T2 h 11) - ((if ((sI T2 h 11) / 3) < (sI T2 i 9) then (sI T2 h 11) / 3 else sI T2 i 9) * 3))) h 17) + ((sI (stI T2 h 11 ((sI T2 h 11) - ((if ((sI T2 h 11) / 3) < (sI T2 i 9) then (sI T2 h 11) / 3 else sI T2 i 9) * 3))) i 9) - (if ((sI T2 h 11) / 3) < (sI T2 i 9) then (sI T2 h 11) / 3 else sI T2 i 9)))) i 3 (sI (stI (stI T2 h 11 ((sI T2 h 11) - ((if ((sI T2 h 11) / 3) < (sI T2 i 9) then (sI T2 h 11) / 3 else sI T2 i 9) * 3))) h 17 ((sI (stI T2 h 11 ((sI T2 h 11) - ((if ((sI T2 h 11) / 3) < (sI T2 i 9) then (sI T2 h 11) / 3 else sI T2 i 9) * 3))) h 17) + ((sI (stI T2 h 11 ((sI T2 h 11) - ((if ((sI T2 h 11) / 3) < (sI T2 i 9) then (sI T2 h 11) / 3 else sI T2 i 9) * 3))) i 9) - (if ((sI T2 h 11) / 3) < (sI T2 i 9) then (sI T2 h 11) / 3 else sI T2 i 9)))) i 3 + (if ((sI T2 h 11) / 3) < (sI T2 i 9) then (sI T2 h 11) / 3 else sI T2 i 9))) i 6 (sI (stI (stI T2 h 11 ((sI T2 h 11) - ((if ((sI T2 h 11) / 3) < (sI T2 i 9) then (sI T2 h 11) / 3 else sI T2 i 9) * 3))) h 17 ((sI (stI T2 h 11 ((sI T2 h 11) - ((if ((sI T2 h 11) / 3) < (sI T2 i 9) then (sI T2 h 11) / 3 else sI T2 i 9) * 3))) h 17) + ((sI (stI T2 h 11 ((sI T2 h 11) - ((if ((sI T2 h 11) / 3) < (sI T2 i 9) then (sI T2 h 11) / 3 else sI T2 i 9) * 3))) i 9) - (if ((sI T2 h 11) / 3) < (sI T2 i 9) then (sI T2 h 11) / 3 else sI T2 i 9)))) i 6 + (if ((sI T2 h 11) / 3) < (sI T2 i 9) then (sI T2 h 11) / 3 else sI T2 i 9))) h 9 = 0 := (iI_k (by decide)).trans w18
  have w24 : sI (stI (stI (stI (stI T2 h 11 ((sI T2 h 11) - ((if ((sI T2 h 11) / 3) < (sI T2 i 9) then (sI T2 h 11) / 3 else sI T2 i 9) * 3))) h 17 ((sI (stI T2 h 11 ((sI T2 h 11) - ((if ((sI T2 h 11) / 3) < (sI T2 i 9) then (sI T2 h 11) / 3 else sI T2 i 9) * 3))) h 17) + ((sI (stI T2 h 11 ((sI T2 h 11) - ((if ((sI T2 h 11) / 3) < (sI T2 i 9) then (sI T2 h 11) / 3 else sI T2 i 9) * 3))) i 9) - (if ((sI T2 h 11) / 3) < (sI T2 i 9) then (sI T2 h 11) / 3 else sI T2 i 9)))) i 3 (sI (stI (stI T2 h 11 ((sI T2 h 11) - ((if ((sI T2 h 11) / 3) < (sI T2 i 9) then (sI T2 h 11) / 3 else sI T2 i 9) * 3))) h 17 ((sI (stI T2 h 11 ((sI T2 h 11) - ((if ((sI T2 h 11) / 3) < (sI T2 i 9) then (sI T2 h 11) / 3 else sI T2 i 9) * 3))) h 17) + ((sI (stI T2 h 11 ((sI T2 h 11) - ((if ((sI T2 h 11) / 3) < (sI T2 i 9) then (sI T2 h 11) / 3 else sI T2 i 9) * 3))) i 9) - (if ((sI T2 h 11) / 3) < (sI T2 i 9) then (sI T2 h 11) / 3 else sI T2 i 9)))) i 3 + (if ((sI T2 h 11) / 3) < (sI T2 i 9) then (sI T2 h 11) / 3 else sI T2 i 9))) i 6 (sI (stI (stI T2 h 11 ((sI T2 h 11) - ((if ((sI T2 h 11) / 3) < (sI T2 i 9) then (sI T2 h 11) / 3 else sI T2 i 9) * 3))) h 17 ((sI (stI T2 h 11 ((sI T2 h 11) - ((if ((sI T2 h 11) / 3) < (sI T2 i 9) then (sI T2 h 11) / 3 else sI T2 i 9) * 3))) h 17) + ((sI (stI T2 h 11 ((sI T2 h 11) - ((if ((sI T2 h 11) / 3) < (sI T2 i 9) then (sI T2 h 11) / 3 else sI T2 i 9) * 3))) i 9) - (if ((sI T2 h 11) / 3) < (sI T2 i 9) then (sI T2 h 11) / 3 else sI T2 i 9)))) i 6 + (if ((sI T2 h 11) / 3) < (sI T2 i 9) then (sI T2 h 11) / 3 else sI T2 i 9))) h 10 = 0 := (iI_k (by decide)).trans w19
  have w25 : sI (stI (stI (stI (stI T2 h 11 ((sI T2 h 11) - ((if ((sI T2 h 11) / 3) < (sI T2 i 9) then (sI T2 h 11) / 3 else sI T2 i 9) * 3))) h 17 ((sI (stI T2 h 11 ((sI T2 h 11) - ((if ((sI T2 h 11) / 3) < (sI T2 i 9) then (sI T2 h 11) / 3 else sI T2 i 9) * 3))) h 17) + ((sI (stI T2 h 11 ((sI T2 h 11) - ((if ((sI T2 h 11) / 3) < (sI T2 i 9) then (sI T2 h 11) / 3 else sI T2 i 9) * 3))) i 9) - (if ((sI T2 h 11) / 3) < (sI T2 i 9) then (sI T2 h 11) / 3 else sI T2 i 9)))) i 3 (sI (stI (stI T2 h 11 ((sI T2 h 11) - ((if ((sI T2 h 11) / 3) < (sI T2 i 9) then (sI T2 h 11) / 3 else sI T2 i 9) * 3))) h 17 ((sI (stI T2 h 11 ((sI T2 h 11) - ((if ((sI T2 h 11) / 3) < (sI T2 i 9) then (sI T2 h 11) / 3 else sI T2 i 9) * 3))) h 17) + ((sI (stI T2 h 11 ((sI T2 h 11) - ((if ((sI T2 h 11) / 3) < (sI T2 i 9) then (sI T2 h 11) / 3 else sI T2 i 9) * 3))) i 9) - (if ((sI T2 h 11) / 3) < (sI T2 i 9) then (sI T2 h 11) / 3 else sI T2 i 9)))) i 3 + (if ((sI T2 h 11) / 3) < (sI T2 i 9) then (sI T2 h 11) / 3 else sI T2 i 9))) i 6 (sI (stI (stI T2 h 11 ((sI T2 h 11) - ((if ((sI T2 h 11) / 3) < (sI T2 i 9) then (sI T2 h 11) / 3 else sI T2 i 9) * 3))) h 17 ((sI (stI T2 h 11 ((sI T2 h 11) - ((if ((sI T2 h 11) / 3) < (sI T2 i 9) then (sI T2 h 11) / 3 else sI T2 i 9) * 3))) h 17) + ((sI (stI T2 h 11 ((sI T2 h 11) - ((if ((sI T2 h 11) / 3) < (sI T2 i 9) then (sI T2 h 11) / 3 else sI T2 i 9) * 3))) i 9) - (if ((sI T2 h 11) / 3) < (sI T2 i 9) then (sI T2 h 11) / 3 else sI T2 i 9)))) i 6 + (if ((sI T2 h 11) / 3) < (sI T2 i 9) then (sI T2 h 11) / 3 else sI T2 i 9))) h 11 = (sI T2 h 11) - ((if ((sI T2 h 11) / 3) < (sI T2 i 9) then (sI T2 h 11) / 3 else sI T2 i 9) * 3) := (iI_k (by decide)).trans w20
  have w26 : sI (stI (stI (stI (stI T2 h 11 ((sI T2 h 11) - ((if ((sI T2 h 11) / 3) < (sI T2 i 9) then (sI T2 h 11) / 3 else sI T2 i 9) * 3))) h 17 ((sI (stI T2 h 11 ((sI T2 h 11) - ((if ((sI T2 h 11) / 3) < (sI T2 i 9) then (sI T2 h 11) / 3 else sI T2 i 9) * 3))) h 17) + ((sI (stI T2 h 11 ((sI T2 h 11) - ((if ((sI T2 h 11) / 3) < (sI T2 i 9) then (sI T2 h 11) / 3 else sI T2 i 9) * 3))) i 9) - (if ((sI T2 h 11) / 3) < (sI T2 i 9) then (sI T2 h 11) / 3 else sI T2 i 9)))) i 3 (sI (stI (stI T2 h 11 ((sI T2 h 11) - ((if ((sI T2 h 11) / 3) < (sI T2 i 9) then (sI T2 h 11) / 3 else sI T2 i 9) * 3))) h 17 ((sI (stI T2 h 11 ((sI T2 h 11) - ((if ((sI T2 h 11) / 3) < (sI T2 i 9) then (sI T2 h 11) / 3 else sI T2 i 9) * 3))) h 17) + ((sI (stI T2 h 11 ((sI T2 h 11) - ((if ((sI T2 h 11) / 3) < (sI T2 i 9) then (sI T2 h 11) / 3 else sI T2 i 9) * 3))) i 9) - (if ((sI T2 h 11) / 3) < (sI T2 i 9) then (sI T2 h 11) / 3 else sI T2 i 9)))) i 3 + (if ((sI T2 h 11) / 3) < (sI T2 i 9) then (sI T2 h 11) / 3 else sI T2 i 9))) i 6 (sI (stI (stI T2 h 11 ((sI T2 h 11) - ((if ((sI T2 h 11) / 3) < (sI T2 i 9) then (sI T2 h 11) / 3 else sI T2 i 9) * 3))) h 17 ((sI (stI T2 h 11 ((sI T2 h 11) - ((if ((sI T2 h 11) / 3) < (sI T2 i 9) then (sI T2 h 11) / 3 else sI T2 i 9) * 3))) h 17) + ((sI (stI T2 h 11 ((sI T2 h 11) - ((if ((sI T2 h 11) / 3) < (sI T2 i 9) then (sI T2 h 11) / 3 else sI T2 i 9) * 3))) i 9) - (if ((sI T2 h 11) / 3) < (sI T2 i 9) then (sI T2 h 11) / 3 else sI T2 i 9)))) i 6 + (if ((sI T2 h 11) / 3) < (sI T2 i 9) then (sI T2 h 11) / 3 else sI T2 i 9))) h 17 = (sI (stI T2 h 11 ((sI T2 h 11) - ((if ((sI T2 h 11) / 3) < (sI T2 i 9) then (sI T2 h 11) / 3 else sI T2 i 9) * 3))) h 17) + ((sI (stI T2 h 11 ((sI T2 h 11) - ((if ((sI T2 h 11) / 3) < (sI T2 i 9) then (sI T2 h 11) / 3 else sI T2 i 9) * 3))) i 9) - (if ((sI T2 h 11) / 3) < (sI T2 i 9) then (sI T2 h 11) / 3 else sI T2 i 9)) := (iI_k (by decide)).trans w21
  have w27 : sI (stI (stI (stI (stI T2 h 11 ((sI T2 h 11) - ((if ((sI T2 h 11) / 3) < (sI T2 i 9) then (sI T2 h 11) / 3 else sI T2 i 9) * 3))) h 17 ((sI (stI T2 h 11 ((sI T2 h 11) - ((if ((sI T2 h 11) / 3) < (sI T2 i 9) then (sI T2 h 11) / 3 else sI T2 i 9) * 3))) h 17) + ((sI (stI T2 h 11 ((sI T2 h 11) - ((if ((sI T2 h 11) / 3) < (sI T2 i 9) then (sI T2 h 11) / 3 else sI T2 i 9) * 3))) i 9) - (if ((sI T2 h 11) / 3) < (sI T2 i 9) then (sI T2 h 11) / 3 else sI T2 i 9)))) i 3 (sI (stI (stI T2 h 11 ((sI T2 h 11) - ((if ((sI T2 h 11) / 3) < (sI T2 i 9) then (sI T2 h 11) / 3 else sI T2 i 9) * 3))) h 17 ((sI (stI T2 h 11 ((sI T2 h 11) - ((if ((sI T2 h 11) / 3) < (sI T2 i 9) then (sI T2 h 11) / 3 else sI T2 i 9) * 3))) h 17) + ((sI (stI T2 h 11 ((sI T2 h 11) - ((if ((sI T2 h 11) / 3) < (sI T2 i 9) then (sI T2 h 11) / 3 else sI T2 i 9) * 3))) i 9) - (if ((sI T2 h 11) / 3) < (sI T2 i 9) then (sI T2 h 11) / 3 else sI T2 i 9)))) i 3 + (if ((sI T2 h 11) / 3) < (sI T2 i 9) then (sI T2 h 11) / 3 else sI T2 i 9))) i 6 (sI (stI (stI T2 h 11 ((sI T2 h 11) - ((if ((sI T2 h 11) / 3) < (sI T2 i 9) then (sI T2 h 11) / 3 else sI T2 i 9) * 3))) h 17 ((sI (stI T2 h 11 ((sI T2 h 11) - ((if ((sI T2 h 11) / 3) < (sI T2 i 9) then (sI T2 h 11) / 3 else sI T2 i 9) * 3))) h 17) + ((sI (stI T2 h 11 ((sI T2 h 11) - ((if ((sI T2 h 11) / 3) < (sI T2 i 9) then (sI T2 h 11) / 3 else sI T2 i 9) * 3))) i 9) - (if ((sI T2 h 11) / 3) < (sI T2 i 9) then (sI T2 h 11) / 3 else sI T2 i 9)))) i 6 + (if ((sI T2 h 11) / 3) < (sI T2 i 9) then (sI T2 h 11) / 3 else sI T2 i 9))) i 3 = sI (stI (stI T2 h 11 ((sI T2 h 11) - ((if ((sI T2 h 11) / 3) < (sI T2 i 9) then (sI T2 h 11) / 3 else sI T2 i 9) * 3))) h 17 ((sI (stI T2 h 11 ((sI T2 h 11) - ((if ((sI T2 h 11) / 3) < (sI T2 i 9) then (sI T2 h 11) / 3 else sI T2 i 9) * 3))) h 17) + ((sI (stI T2 h 11 ((sI T2 h 11) - ((if ((sI T2 h 11) / 3) < (sI T2 i 9) then (sI T2 h 11) / 3 else sI T2 i 9) * 3))) i 9) - (if ((sI T2 h 11) / 3) < (sI T2 i 9) then (sI T2 h 11) / 3 else sI T2 i 9)))) i 3 + (if ((sI T2 h 11) / 3) < (sI T2 i 9) then (sI T2 h 11) / 3 else sI T2 i 9) := (iI_k (by decide)).trans w22
  have w28 : sI (stI (stI (stI (stI T2 h 11 ((sI T2 h 11) - ((if ((sI T2 h 11) / 3) < (sI T2 i 9) then (sI T2 h 11) / 3 else sI T2 i 9) * 3))) h 17 ((sI (stI T2 h 11 ((sI T2 h 11) - ((if ((sI T2 h 11) / 3) < (sI T2 i 9) then (sI T2 h 11) / 3 else sI T2 i 9) * 3))) h 17) + ((sI (stI T2 h 11 ((sI T2 h 11) - ((if ((sI T2 h 11) / 3) < (sI T2 i 9) then (sI T2 h 11) / 3 else sI T2 i 9) * 3))) i 9) - (if ((sI T2 h 11) / 3) < (sI T2 i 9) then (sI T2 h 11) / 3 else sI T2 i 9)))) i 3 (sI (stI (stI T2 h 11 ((sI T2 h 11) - ((if ((sI T2 h 11) / 3) < (sI T2 i 9) then (sI T2 h 11) / 3 else sI T2 i 9) * 3))) h 17 ((sI (stI T2 h 11 ((sI T2 h 11) - ((if ((sI T2 h 11) / 3) < (sI T2 i 9) then (sI T2 h 11) / 3 else sI T2 i 9) * 3))) h 17) + ((sI (stI T2 h 11 ((sI T2 h 11) - ((if ((sI T2 h 11) / 3) < (sI T2 i 9) then (sI T2 h 11) / 3 else sI T2 i 9) * 3))) i 9) - (if ((sI T2 h 11) / 3) < (sI T2 i 9) then (sI T2 h 11) / 3 else sI T2 i 9)))) i 3 + (if ((sI T2 h 11) / 3) < (sI T2 i 9) then (sI T2 h 11) / 3 else sI T2 i 9))) i 6 (sI (stI (stI T2 h 11 ((sI T2 h 11) - ((if ((sI T2 h 11) / 3) < (sI T2 i 9) then (sI T2 h 11) / 3 else sI T2 i 9) * 3))) h 17 ((sI (stI T2 h 11 ((sI T2 h 11) - ((if ((sI T2 h 11) / 3) < (sI T2 i 9) then (sI T2 h 11) / 3 else sI T2 i 9) * 3))) h 17) + ((sI (stI T2 h 11 ((sI T2 h 11) - ((if ((sI T2 h 11) / 3) < (sI T2 i 9) then (sI T2 h 11) / 3 else sI T2 i 9) * 3))) i 9) - (if ((sI T2 h 11) / 3) < (sI T2 i 9) then (sI T2 h 11) / 3 else sI T2 i 9)))) i 6 + (if ((sI T2 h 11) / 3) < (sI T2 i 9) then (sI T2 h 11) / 3 else sI T2 i 9))) i 6 = sI (stI (stI T2 h 11 ((sI T2 h 11) - ((if ((sI T2 h 11) / 3) < (sI T2 i 9) then (sI T2 h 11) / 3 else sI T2 i 9) * 3))) h 17 ((sI (stI T2 h 11 ((sI T2 h 11) - ((if ((sI T2 h 11) / 3) < (sI T2 i 9) then (sI T2 h 11) / 3 else sI T2 i 9) * 3))) h 17) + ((sI (stI T2 h 11 ((sI T2 h 11) - ((if ((sI T2 h 11) / 3) < (sI T2 i 9) then (sI T2 h 11) / 3 else sI T2 i 9) * 3))) i 9) - (if ((sI T2 h 11) / 3) < (sI T2 i 9) then (sI T2 h 11) / 3 else sI T2 i 9)))) i 6 + (if ((sI T2 h 11) / 3) < (sI T2 i 9) then (sI T2 h 11) / 3 else sI T2 i 9) := iI_s
  clear w18 w19 w20 w21 w22
  refine lv_aload_n hx hb dX8_makeCut_50 rfl (lv_at hl 2 rfl) ?_
  refine lv_iconst (v := 0) hx hb dX8_makeCut_51 (by decide) ?_
  refine lv_iconst (v := 0) hx hb dX8_makeCut_52 (by decide) ?_
  refine pc_Vv (As := [.int 0, .int 0]) (rest := []) F (c_X1_tellCut l D cy A (stI (stI (stI (stI T2 h 11 ((sI T2 h 11) - ((if ((sI T2 h 11) / 3) < (sI T2 i 9) then (sI T2 h 11) / 3 else sI T2 i 9) * 3))) h 17 ((sI (stI T2 h 11 ((sI T2 h 11) - ((if ((sI T2 h 11) / 3) < (sI T2 i 9) then (sI T2 h 11) / 3 else sI T2 i 9) * 3))) h 17) + ((sI (stI T2 h 11 ((sI T2 h 11) - ((if ((sI T2 h 11) / 3) < (sI T2 i 9) then (sI T2 h 11) / 3 else sI T2 i 9) * 3))) i 9) - (if ((sI T2 h 11) / 3) < (sI T2 i 9) then (sI T2 h 11) / 3 else sI T2 i 9)))) i 3 (sI (stI (stI T2 h 11 ((sI T2 h 11) - ((if ((sI T2 h 11) / 3) < (sI T2 i 9) then (sI T2 h 11) / 3 else sI T2 i 9) * 3))) h 17 ((sI (stI T2 h 11 ((sI T2 h 11) - ((if ((sI T2 h 11) / 3) < (sI T2 i 9) then (sI T2 h 11) / 3 else sI T2 i 9) * 3))) h 17) + ((sI (stI T2 h 11 ((sI T2 h 11) - ((if ((sI T2 h 11) / 3) < (sI T2 i 9) then (sI T2 h 11) / 3 else sI T2 i 9) * 3))) i 9) - (if ((sI T2 h 11) / 3) < (sI T2 i 9) then (sI T2 h 11) / 3 else sI T2 i 9)))) i 3 + (if ((sI T2 h 11) / 3) < (sI T2 i 9) then (sI T2 h 11) / 3 else sI T2 i 9))) i 6 (sI (stI (stI T2 h 11 ((sI T2 h 11) - ((if ((sI T2 h 11) / 3) < (sI T2 i 9) then (sI T2 h 11) / 3 else sI T2 i 9) * 3))) h 17 ((sI (stI T2 h 11 ((sI T2 h 11) - ((if ((sI T2 h 11) / 3) < (sI T2 i 9) then (sI T2 h 11) / 3 else sI T2 i 9) * 3))) h 17) + ((sI (stI T2 h 11 ((sI T2 h 11) - ((if ((sI T2 h 11) / 3) < (sI T2 i 9) then (sI T2 h 11) / 3 else sI T2 i 9) * 3))) i 9) - (if ((sI T2 h 11) / 3) < (sI T2 i 9) then (sI T2 h 11) / 3 else sI T2 i 9)))) i 6 + (if ((sI T2 h 11) / 3) < (sI T2 i 9) then (sI T2 h 11) / 3 else sI T2 i 9))) i 0 0 f5) (cwV 2 hts gX8_makeCut_X1_tellCut rfl rfl rfl (by decide +kernel) ⟨Nat.le_of_ble_eq_true rfl, Nat.le_of_ble_eq_true rfl⟩) hK hZ hA hW hS f5 (by decide) rfl rfl hl.1 rfl (Nat.le_of_ble_eq_true rfl) dX8_makeCut_53 ⟨Nat.le_of_ble_eq_true rfl, Nat.le_of_ble_eq_true rfl⟩ (fun T30 H locs p31 hW hS => ?_)
  rw [p31] at hW
  have w32 : sI (stI (stI (stI (stI (stI T2 h 11 ((sI T2 h 11) - ((if ((sI T2 h 11) / 3) < (sI T2 i 9) then (sI T2 h 11) / 3 else sI T2 i 9) * 3))) h 17 ((sI (stI T2 h 11 ((sI T2 h 11) - ((if ((sI T2 h 11) / 3) < (sI T2 i 9) then (sI T2 h 11) / 3 else sI T2 i 9) * 3))) h 17) + ((sI (stI T2 h 11 ((sI T2 h 11) - ((if ((sI T2 h 11) / 3) < (sI T2 i 9) then (sI T2 h 11) / 3 else sI T2 i 9) * 3))) i 9) - (if ((sI T2 h 11) / 3) < (sI T2 i 9) then (sI T2 h 11) / 3 else sI T2 i 9)))) i 3 (sI (stI (stI T2 h 11 ((sI T2 h 11) - ((if ((sI T2 h 11) / 3) < (sI T2 i 9) then (sI T2 h 11) / 3 else sI T2 i 9) * 3))) h 17 ((sI (stI T2 h 11 ((sI T2 h 11) - ((if ((sI T2 h 11) / 3) < (sI T2 i 9) then (sI T2 h 11) / 3 else sI T2 i 9) * 3))) h 17) + ((sI (stI T2 h 11 ((sI T2 h 11) - ((if ((sI T2 h 11) / 3) < (sI T2 i 9) then (sI T2 h 11) / 3 else sI T2 i 9) * 3))) i 9) - (if ((sI T2 h 11) / 3) < (sI T2 i 9) then (sI T2 h 11) / 3 else sI T2 i 9)))) i 3 + (if ((sI T2 h 11) / 3) < (sI T2 i 9) then (sI T2 h 11) / 3 else sI T2 i 9))) i 6 (sI (stI (stI T2 h 11 ((sI T2 h 11) - ((if ((sI T2 h 11) / 3) < (sI T2 i 9) then (sI T2 h 11) / 3 else sI T2 i 9) * 3))) h 17 ((sI (stI T2 h 11 ((sI T2 h 11) - ((if ((sI T2 h 11) / 3) < (sI T2 i 9) then (sI T2 h 11) / 3 else sI T2 i 9) * 3))) h 17) + ((sI (stI T2 h 11 ((sI T2 h 11) - ((if ((sI T2 h 11) / 3) < (sI T2 i 9) then (sI T2 h 11) / 3 else sI T2 i 9) * 3))) i 9) - (if ((sI T2 h 11) / 3) < (sI T2 i 9) then (sI T2 h 11) / 3 else sI T2 i 9)))) i 6 + (if ((sI T2 h 11) / 3) < (sI T2 i 9) then (sI T2 h 11) / 3 else sI T2 i 9))) i 8 0) h 9 = 0 := (iI_k (by decide)).trans w23
  have w33 : sI (stI (stI (stI (stI (stI T2 h 11 ((sI T2 h 11) - ((if ((sI T2 h 11) / 3) < (sI T2 i 9) then (sI T2 h 11) / 3 else sI T2 i 9) * 3))) h 17 ((sI (stI T2 h 11 ((sI T2 h 11) - ((if ((sI T2 h 11) / 3) < (sI T2 i 9) then (sI T2 h 11) / 3 else sI T2 i 9) * 3))) h 17) + ((sI (stI T2 h 11 ((sI T2 h 11) - ((if ((sI T2 h 11) / 3) < (sI T2 i 9) then (sI T2 h 11) / 3 else sI T2 i 9) * 3))) i 9) - (if ((sI T2 h 11) / 3) < (sI T2 i 9) then (sI T2 h 11) / 3 else sI T2 i 9)))) i 3 (sI (stI (stI T2 h 11 ((sI T2 h 11) - ((if ((sI T2 h 11) / 3) < (sI T2 i 9) then (sI T2 h 11) / 3 else sI T2 i 9) * 3))) h 17 ((sI (stI T2 h 11 ((sI T2 h 11) - ((if ((sI T2 h 11) / 3) < (sI T2 i 9) then (sI T2 h 11) / 3 else sI T2 i 9) * 3))) h 17) + ((sI (stI T2 h 11 ((sI T2 h 11) - ((if ((sI T2 h 11) / 3) < (sI T2 i 9) then (sI T2 h 11) / 3 else sI T2 i 9) * 3))) i 9) - (if ((sI T2 h 11) / 3) < (sI T2 i 9) then (sI T2 h 11) / 3 else sI T2 i 9)))) i 3 + (if ((sI T2 h 11) / 3) < (sI T2 i 9) then (sI T2 h 11) / 3 else sI T2 i 9))) i 6 (sI (stI (stI T2 h 11 ((sI T2 h 11) - ((if ((sI T2 h 11) / 3) < (sI T2 i 9) then (sI T2 h 11) / 3 else sI T2 i 9) * 3))) h 17 ((sI (stI T2 h 11 ((sI T2 h 11) - ((if ((sI T2 h 11) / 3) < (sI T2 i 9) then (sI T2 h 11) / 3 else sI T2 i 9) * 3))) h 17) + ((sI (stI T2 h 11 ((sI T2 h 11) - ((if ((sI T2 h 11) / 3) < (sI T2 i 9) then (sI T2 h 11) / 3 else sI T2 i 9) * 3))) i 9) - (if ((sI T2 h 11) / 3) < (sI T2 i 9) then (sI T2 h 11) / 3 else sI T2 i 9)))) i 6 + (if ((sI T2 h 11) / 3) < (sI T2 i 9) then (sI T2 h 11) / 3 else sI T2 i 9))) i 8 0) h 10 = 0 := (iI_k (by decide)).trans w24
  have w34 : sI (stI (stI (stI (stI (stI T2 h 11 ((sI T2 h 11) - ((if ((sI T2 h 11) / 3) < (sI T2 i 9) then (sI T2 h 11) / 3 else sI T2 i 9) * 3))) h 17 ((sI (stI T2 h 11 ((sI T2 h 11) - ((if ((sI T2 h 11) / 3) < (sI T2 i 9) then (sI T2 h 11) / 3 else sI T2 i 9) * 3))) h 17) + ((sI (stI T2 h 11 ((sI T2 h 11) - ((if ((sI T2 h 11) / 3) < (sI T2 i 9) then (sI T2 h 11) / 3 else sI T2 i 9) * 3))) i 9) - (if ((sI T2 h 11) / 3) < (sI T2 i 9) then (sI T2 h 11) / 3 else sI T2 i 9)))) i 3 (sI (stI (stI T2 h 11 ((sI T2 h 11) - ((if ((sI T2 h 11) / 3) < (sI T2 i 9) then (sI T2 h 11) / 3 else sI T2 i 9) * 3))) h 17 ((sI (stI T2 h 11 ((sI T2 h 11) - ((if ((sI T2 h 11) / 3) < (sI T2 i 9) then (sI T2 h 11) / 3 else sI T2 i 9) * 3))) h 17) + ((sI (stI T2 h 11 ((sI T2 h 11) - ((if ((sI T2 h 11) / 3) < (sI T2 i 9) then (sI T2 h 11) / 3 else sI T2 i 9) * 3))) i 9) - (if ((sI T2 h 11) / 3) < (sI T2 i 9) then (sI T2 h 11) / 3 else sI T2 i 9)))) i 3 + (if ((sI T2 h 11) / 3) < (sI T2 i 9) then (sI T2 h 11) / 3 else sI T2 i 9))) i 6 (sI (stI (stI T2 h 11 ((sI T2 h 11) - ((if ((sI T2 h 11) / 3) < (sI T2 i 9) then (sI T2 h 11) / 3 else sI T2 i 9) * 3))) h 17 ((sI (stI T2 h 11 ((sI T2 h 11) - ((if ((sI T2 h 11) / 3) < (sI T2 i 9) then (sI T2 h 11) / 3 else sI T2 i 9) * 3))) h 17) + ((sI (stI T2 h 11 ((sI T2 h 11) - ((if ((sI T2 h 11) / 3) < (sI T2 i 9) then (sI T2 h 11) / 3 else sI T2 i 9) * 3))) i 9) - (if ((sI T2 h 11) / 3) < (sI T2 i 9) then (sI T2 h 11) / 3 else sI T2 i 9)))) i 6 + (if ((sI T2 h 11) / 3) < (sI T2 i 9) then (sI T2 h 11) / 3 else sI T2 i 9))) i 8 0) h 11 = (sI T2 h 11) - ((if ((sI T2 h 11) / 3) < (sI T2 i 9) then (sI T2 h 11) / 3 else sI T2 i 9) * 3) := (iI_k (by decide)).trans w25
  have w35 : sI (stI (stI (stI (stI (stI T2 h 11 ((sI T2 h 11) - ((if ((sI T2 h 11) / 3) < (sI T2 i 9) then (sI T2 h 11) / 3 else sI T2 i 9) * 3))) h 17 ((sI (stI T2 h 11 ((sI T2 h 11) - ((if ((sI T2 h 11) / 3) < (sI T2 i 9) then (sI T2 h 11) / 3 else sI T2 i 9) * 3))) h 17) + ((sI (stI T2 h 11 ((sI T2 h 11) - ((if ((sI T2 h 11) / 3) < (sI T2 i 9) then (sI T2 h 11) / 3 else sI T2 i 9) * 3))) i 9) - (if ((sI T2 h 11) / 3) < (sI T2 i 9) then (sI T2 h 11) / 3 else sI T2 i 9)))) i 3 (sI (stI (stI T2 h 11 ((sI T2 h 11) - ((if ((sI T2 h 11) / 3) < (sI T2 i 9) then (sI T2 h 11) / 3 else sI T2 i 9) * 3))) h 17 ((sI (stI T2 h 11 ((sI T2 h 11) - ((if ((sI T2 h 11) / 3) < (sI T2 i 9) then (sI T2 h 11) / 3 else sI T2 i 9) * 3))) h 17) + ((sI (stI T2 h 11 ((sI T2 h 11) - ((if ((sI T2 h 11) / 3) < (sI T2 i 9) then (sI T2 h 11) / 3 else sI T2 i 9) * 3))) i 9) - (if ((sI T2 h 11) / 3) < (sI T2 i 9) then (sI T2 h 11) / 3 else sI T2 i 9)))) i 3 + (if ((sI T2 h 11) / 3) < (sI T2 i 9) then (sI T2 h 11) / 3 else sI T2 i 9))) i 6 (sI (stI (stI T2 h 11 ((sI T2 h 11) - ((if ((sI T2 h 11) / 3) < (sI T2 i 9) then (sI T2 h 11) / 3 else sI T2 i 9) * 3))) h 17 ((sI (stI T2 h 11 ((sI T2 h 11) - ((if ((sI T2 h 11) / 3) < (sI T2 i 9) then (sI T2 h 11) / 3 else sI T2 i 9) * 3))) h 17) + ((sI (stI T2 h 11 ((sI T2 h 11) - ((if ((sI T2 h 11) / 3) < (sI T2 i 9) then (sI T2 h 11) / 3 else sI T2 i 9) * 3))) i 9) - (if ((sI T2 h 11) / 3) < (sI T2 i 9) then (sI T2 h 11) / 3 else sI T2 i 9)))) i 6 + (if ((sI T2 h 11) / 3) < (sI T2 i 9) then (sI T2 h 11) / 3 else sI T2 i 9))) i 8 0) h 17 = (sI (stI T2 h 11 ((sI T2 h 11) - ((if ((sI T2 h 11) / 3) < (sI T2 i 9) then (sI T2 h 11) / 3 else sI T2 i 9) * 3))) h 17) + ((sI (stI T2 h 11 ((sI T2 h 11) - ((if ((sI T2 h 11) / 3) < (sI T2 i 9) then (sI T2 h 11) / 3 else sI T2 i 9) * 3))) i 9) - (if ((sI T2 h 11) / 3) < (sI T2 i 9) then (sI T2 h 11) / 3 else sI T2 i 9)) := (iI_k (by decide)).trans w26
  have w36 : sI (stI (stI (stI (stI (stI T2 h 11 ((sI T2 h 11) - ((if ((sI T2 h 11) / 3) < (sI T2 i 9) then (sI T2 h 11) / 3 else sI T2 i 9) * 3))) h 17 ((sI (stI T2 h 11 ((sI T2 h 11) - ((if ((sI T2 h 11) / 3) < (sI T2 i 9) then (sI T2 h 11) / 3 else sI T2 i 9) * 3))) h 17) + ((sI (stI T2 h 11 ((sI T2 h 11) - ((if ((sI T2 h 11) / 3) < (sI T2 i 9) then (sI T2 h 11) / 3 else sI T2 i 9) * 3))) i 9) - (if ((sI T2 h 11) / 3) < (sI T2 i 9) then (sI T2 h 11) / 3 else sI T2 i 9)))) i 3 (sI (stI (stI T2 h 11 ((sI T2 h 11) - ((if ((sI T2 h 11) / 3) < (sI T2 i 9) then (sI T2 h 11) / 3 else sI T2 i 9) * 3))) h 17 ((sI (stI T2 h 11 ((sI T2 h 11) - ((if ((sI T2 h 11) / 3) < (sI T2 i 9) then (sI T2 h 11) / 3 else sI T2 i 9) * 3))) h 17) + ((sI (stI T2 h 11 ((sI T2 h 11) - ((if ((sI T2 h 11) / 3) < (sI T2 i 9) then (sI T2 h 11) / 3 else sI T2 i 9) * 3))) i 9) - (if ((sI T2 h 11) / 3) < (sI T2 i 9) then (sI T2 h 11) / 3 else sI T2 i 9)))) i 3 + (if ((sI T2 h 11) / 3) < (sI T2 i 9) then (sI T2 h 11) / 3 else sI T2 i 9))) i 6 (sI (stI (stI T2 h 11 ((sI T2 h 11) - ((if ((sI T2 h 11) / 3) < (sI T2 i 9) then (sI T2 h 11) / 3 else sI T2 i 9) * 3))) h 17 ((sI (stI T2 h 11 ((sI T2 h 11) - ((if ((sI T2 h 11) / 3) < (sI T2 i 9) then (sI T2 h 11) / 3 else sI T2 i 9) * 3))) h 17) + ((sI (stI T2 h 11 ((sI T2 h 11) - ((if ((sI T2 h 11) / 3) < (sI T2 i 9) then (sI T2 h 11) / 3 else sI T2 i 9) * 3))) i 9) - (if ((sI T2 h 11) / 3) < (sI T2 i 9) then (sI T2 h 11) / 3 else sI T2 i 9)))) i 6 + (if ((sI T2 h 11) / 3) < (sI T2 i 9) then (sI T2 h 11) / 3 else sI T2 i 9))) i 8 0) i 3 = sI (stI (stI T2 h 11 ((sI T2 h 11) - ((if ((sI T2 h 11) / 3) < (sI T2 i 9) then (sI T2 h 11) / 3 else sI T2 i 9) * 3))) h 17 ((sI (stI T2 h 11 ((sI T2 h 11) - ((if ((sI T2 h 11) / 3) < (sI T2 i 9) then (sI T2 h 11) / 3 else sI T2 i 9) * 3))) h 17) + ((sI (stI T2 h 11 ((sI T2 h 11) - ((if ((sI T2 h 11) / 3) < (sI T2 i 9) then (sI T2 h 11) / 3 else sI T2 i 9) * 3))) i 9) - (if ((sI T2 h 11) / 3) < (sI T2 i 9) then (sI T2 h 11) / 3 else sI T2 i 9)))) i 3 + (if ((sI T2 h 11) / 3) < (sI T2 i 9) then (sI T2 h 11) / 3 else sI T2 i 9) := (iI_k (by decide)).trans w27
  have w37 : sI (stI (stI (stI (stI (stI T2 h 11 ((sI T2 h 11) - ((if ((sI T2 h 11) / 3) < (sI T2 i 9) then (sI T2 h 11) / 3 else sI T2 i 9) * 3))) h 17 ((sI (stI T2 h 11 ((sI T2 h 11) - ((if ((sI T2 h 11) / 3) < (sI T2 i 9) then (sI T2 h 11) / 3 else sI T2 i 9) * 3))) h 17) + ((sI (stI T2 h 11 ((sI T2 h 11) - ((if ((sI T2 h 11) / 3) < (sI T2 i 9) then (sI T2 h 11) / 3 else sI T2 i 9) * 3))) i 9) - (if ((sI T2 h 11) / 3) < (sI T2 i 9) then (sI T2 h 11) / 3 else sI T2 i 9)))) i 3 (sI (stI (stI T2 h 11 ((sI T2 h 11) - ((if ((sI T2 h 11) / 3) < (sI T2 i 9) then (sI T2 h 11) / 3 else sI T2 i 9) * 3))) h 17 ((sI (stI T2 h 11 ((sI T2 h 11) - ((if ((sI T2 h 11) / 3) < (sI T2 i 9) then (sI T2 h 11) / 3 else sI T2 i 9) * 3))) h 17) + ((sI (stI T2 h 11 ((sI T2 h 11) - ((if ((sI T2 h 11) / 3) < (sI T2 i 9) then (sI T2 h 11) / 3 else sI T2 i 9) * 3))) i 9) - (if ((sI T2 h 11) / 3) < (sI T2 i 9) then (sI T2 h 11) / 3 else sI T2 i 9)))) i 3 + (if ((sI T2 h 11) / 3) < (sI T2 i 9) then (sI T2 h 11) / 3 else sI T2 i 9))) i 6 (sI (stI (stI T2 h 11 ((sI T2 h 11) - ((if ((sI T2 h 11) / 3) < (sI T2 i 9) then (sI T2 h 11) / 3 else sI T2 i 9) * 3))) h 17 ((sI (stI T2 h 11 ((sI T2 h 11) - ((if ((sI T2 h 11) / 3) < (sI T2 i 9) then (sI T2 h 11) / 3 else sI T2 i 9) * 3))) h 17) + ((sI (stI T2 h 11 ((sI T2 h 11) - ((if ((sI T2 h 11) / 3) < (sI T2 i 9) then (sI T2 h 11) / 3 else sI T2 i 9) * 3))) i 9) - (if ((sI T2 h 11) / 3) < (sI T2 i 9) then (sI T2 h 11) / 3 else sI T2 i 9)))) i 6 + (if ((sI T2 h 11) / 3) < (sI T2 i 9) then (sI T2 h 11) / 3 else sI T2 i 9))) i 8 0) i 6 = sI (stI (stI T2 h 11 ((sI T2 h 11) - ((if ((sI T2 h 11) / 3) < (sI T2 i 9) then (sI T2 h 11) / 3 else sI T2 i 9) * 3))) h 17 ((sI (stI T2 h 11 ((sI T2 h 11) - ((if ((sI T2 h 11) / 3) < (sI T2 i 9) then (sI T2 h 11) / 3 else sI T2 i 9) * 3))) h 17) + ((sI (stI T2 h 11 ((sI T2 h 11) - ((if ((sI T2 h 11) / 3) < (sI T2 i 9) then (sI T2 h 11) / 3 else sI T2 i 9) * 3))) i 9) - (if ((sI T2 h 11) / 3) < (sI T2 i 9) then (sI T2 h 11) / 3 else sI T2 i 9)))) i 6 + (if ((sI T2 h 11) / 3) < (sI T2 i 9) then (sI T2 h 11) / 3 else sI T2 i 9) := (iI_k (by decide)).trans w28
  have w38 : sI (stI (stI (stI (stI (stI T2 h 11 ((sI T2 h 11) - ((if ((sI T2 h 11) / 3) < (sI T2 i 9) then (sI T2 h 11) / 3 else sI T2 i 9) * 3))) h 17 ((sI (stI T2 h 11 ((sI T2 h 11) - ((if ((sI T2 h 11) / 3) < (sI T2 i 9) then (sI T2 h 11) / 3 else sI T2 i 9) * 3))) h 17) + ((sI (stI T2 h 11 ((sI T2 h 11) - ((if ((sI T2 h 11) / 3) < (sI T2 i 9) then (sI T2 h 11) / 3 else sI T2 i 9) * 3))) i 9) - (if ((sI T2 h 11) / 3) < (sI T2 i 9) then (sI T2 h 11) / 3 else sI T2 i 9)))) i 3 (sI (stI (stI T2 h 11 ((sI T2 h 11) - ((if ((sI T2 h 11) / 3) < (sI T2 i 9) then (sI T2 h 11) / 3 else sI T2 i 9) * 3))) h 17 ((sI (stI T2 h 11 ((sI T2 h 11) - ((if ((sI T2 h 11) / 3) < (sI T2 i 9) then (sI T2 h 11) / 3 else sI T2 i 9) * 3))) h 17) + ((sI (stI T2 h 11 ((sI T2 h 11) - ((if ((sI T2 h 11) / 3) < (sI T2 i 9) then (sI T2 h 11) / 3 else sI T2 i 9) * 3))) i 9) - (if ((sI T2 h 11) / 3) < (sI T2 i 9) then (sI T2 h 11) / 3 else sI T2 i 9)))) i 3 + (if ((sI T2 h 11) / 3) < (sI T2 i 9) then (sI T2 h 11) / 3 else sI T2 i 9))) i 6 (sI (stI (stI T2 h 11 ((sI T2 h 11) - ((if ((sI T2 h 11) / 3) < (sI T2 i 9) then (sI T2 h 11) / 3 else sI T2 i 9) * 3))) h 17 ((sI (stI T2 h 11 ((sI T2 h 11) - ((if ((sI T2 h 11) / 3) < (sI T2 i 9) then (sI T2 h 11) / 3 else sI T2 i 9) * 3))) h 17) + ((sI (stI T2 h 11 ((sI T2 h 11) - ((if ((sI T2 h 11) / 3) < (sI T2 i 9) then (sI T2 h 11) / 3 else sI T2 i 9) * 3))) i 9) - (if ((sI T2 h 11) / 3) < (sI T2 i 9) then (sI T2 h 11) / 3 else sI T2 i 9)))) i 6 + (if ((sI T2 h 11) / 3) < (sI T2 i 9) then (sI T2 h 11) / 3 else sI T2 i 9))) i 8 0) i 8 = 0 := iI_s
  clear w23 w24 w25 w26 w27 w28
  have w39 : sI (stI (stI (stI (stI (stI (stI T2 h 11 ((sI T2 h 11) - ((if ((sI T2 h 11) / 3) < (sI T2 i 9) then (sI T2 h 11) / 3 else sI T2 i 9) * 3))) h 17 ((sI (stI T2 h 11 ((sI T2 h 11) - ((if ((sI T2 h 11) / 3) < (sI T2 i 9) then (sI T2 h 11) / 3 else sI T2 i 9) * 3))) h 17) + ((sI (stI T2 h 11 ((sI T2 h 11) - ((if ((sI T2 h 11) / 3) < (sI T2 i 9) then (sI T2 h 11) / 3 else sI T2 i 9) * 3))) i 9) - (if ((sI T2 h 11) / 3) < (sI T2 i 9) then (sI T2 h 11) / 3 else sI T2 i 9)))) i 3 (sI (stI (stI T2 h 11 ((sI T2 h 11) - ((if ((sI T2 h 11) / 3) < (sI T2 i 9) then (sI T2 h 11) / 3 else sI T2 i 9) * 3))) h 17 ((sI (stI T2 h 11 ((sI T2 h 11) - ((if ((sI T2 h 11) / 3) < (sI T2 i 9) then (sI T2 h 11) / 3 else sI T2 i 9) * 3))) h 17) + ((sI (stI T2 h 11 ((sI T2 h 11) - ((if ((sI T2 h 11) / 3) < (sI T2 i 9) then (sI T2 h 11) / 3 else sI T2 i 9) * 3))) i 9) - (if ((sI T2 h 11) / 3) < (sI T2 i 9) then (sI T2 h 11) / 3 else sI T2 i 9)))) i 3 + (if ((sI T2 h 11) / 3) < (sI T2 i 9) then (sI T2 h 11) / 3 else sI T2 i 9))) i 6 (sI (stI (stI T2 h 11 ((sI T2 h 11) - ((if ((sI T2 h 11) / 3) < (sI T2 i 9) then (sI T2 h 11) / 3 else sI T2 i 9) * 3))) h 17 ((sI (stI T2 h 11 ((sI T2 h 11) - ((if ((sI T2 h 11) / 3) < (sI T2 i 9) then (sI T2 h 11) / 3 else sI T2 i 9) * 3))) h 17) + ((sI (stI T2 h 11 ((sI T2 h 11) - ((if ((sI T2 h 11) / 3) < (sI T2 i 9) then (sI T2 h 11) / 3 else sI T2 i 9) * 3))) i 9) - (if ((sI T2 h 11) / 3) < (sI T2 i 9) then (sI T2 h 11) / 3 else sI T2 i 9)))) i 6 + (if ((sI T2 h 11) / 3) < (sI T2 i 9) then (sI T2 h 11) / 3 else sI T2 i 9))) i 8 0) i 9 0) h 9 = 0 := (iI_a (fk_ne f4 f5 (by decide))).trans w32
  have w40 : sI (stI (stI (stI (stI (stI (stI T2 h 11 ((sI T2 h 11) - ((if ((sI T2 h 11) / 3) < (sI T2 i 9) then (sI T2 h 11) / 3 else sI T2 i 9) * 3))) h 17 ((sI (stI T2 h 11 ((sI T2 h 11) - ((if ((sI T2 h 11) / 3) < (sI T2 i 9) then (sI T2 h 11) / 3 else sI T2 i 9) * 3))) h 17) + ((sI (stI T2 h 11 ((sI T2 h 11) - ((if ((sI T2 h 11) / 3) < (sI T2 i 9) then (sI T2 h 11) / 3 else sI T2 i 9) * 3))) i 9) - (if ((sI T2 h 11) / 3) < (sI T2 i 9) then (sI T2 h 11) / 3 else sI T2 i 9)))) i 3 (sI (stI (stI T2 h 11 ((sI T2 h 11) - ((if ((sI T2 h 11) / 3) < (sI T2 i 9) then (sI T2 h 11) / 3 else sI T2 i 9) * 3))) h 17 ((sI (stI T2 h 11 ((sI T2 h 11) - ((if ((sI T2 h 11) / 3) < (sI T2 i 9) then (sI T2 h 11) / 3 else sI T2 i 9) * 3))) h 17) + ((sI (stI T2 h 11 ((sI T2 h 11) - ((if ((sI T2 h 11) / 3) < (sI T2 i 9) then (sI T2 h 11) / 3 else sI T2 i 9) * 3))) i 9) - (if ((sI T2 h 11) / 3) < (sI T2 i 9) then (sI T2 h 11) / 3 else sI T2 i 9)))) i 3 + (if ((sI T2 h 11) / 3) < (sI T2 i 9) then (sI T2 h 11) / 3 else sI T2 i 9))) i 6 (sI (stI (stI T2 h 11 ((sI T2 h 11) - ((if ((sI T2 h 11) / 3) < (sI T2 i 9) then (sI T2 h 11) / 3 else sI T2 i 9) * 3))) h 17 ((sI (stI T2 h 11 ((sI T2 h 11) - ((if ((sI T2 h 11) / 3) < (sI T2 i 9) then (sI T2 h 11) / 3 else sI T2 i 9) * 3))) h 17) + ((sI (stI T2 h 11 ((sI T2 h 11) - ((if ((sI T2 h 11) / 3) < (sI T2 i 9) then (sI T2 h 11) / 3 else sI T2 i 9) * 3))) i 9) - (if ((sI T2 h 11) / 3) < (sI T2 i 9) then (sI T2 h 11) / 3 else sI T2 i 9)))) i 6 + (if ((sI T2 h 11) / 3) < (sI T2 i 9) then (sI T2 h 11) / 3 else sI T2 i 9))) i 8 0) i 9 0) h 10 = 0 := (iI_k (by decide)).trans w33
  have w41 : sI (stI (stI (stI (stI (stI (stI T2 h 11 ((sI T2 h 11) - ((if ((sI T2 h 11) / 3) < (sI T2 i 9) then (sI T2 h 11) / 3 else sI T2 i 9) * 3))) h 17 ((sI (stI T2 h 11 ((sI T2 h 11) - ((if ((sI T2 h 11) / 3) < (sI T2 i 9) then (sI T2 h 11) / 3 else sI T2 i 9) * 3))) h 17) + ((sI (stI T2 h 11 ((sI T2 h 11) - ((if ((sI T2 h 11) / 3) < (sI T2 i 9) then (sI T2 h 11) / 3 else sI T2 i 9) * 3))) i 9) - (if ((sI T2 h 11) / 3) < (sI T2 i 9) then (sI T2 h 11) / 3 else sI T2 i 9)))) i 3 (sI (stI (stI T2 h 11 ((sI T2 h 11) - ((if ((sI T2 h 11) / 3) < (sI T2 i 9) then (sI T2 h 11) / 3 else sI T2 i 9) * 3))) h 17 ((sI (stI T2 h 11 ((sI T2 h 11) - ((if ((sI T2 h 11) / 3) < (sI T2 i 9) then (sI T2 h 11) / 3 else sI T2 i 9) * 3))) h 17) + ((sI (stI T2 h 11 ((sI T2 h 11) - ((if ((sI T2 h 11) / 3) < (sI T2 i 9) then (sI T2 h 11) / 3 else sI T2 i 9) * 3))) i 9) - (if ((sI T2 h 11) / 3) < (sI T2 i 9) then (sI T2 h 11) / 3 else sI T2 i 9)))) i 3 + (if ((sI T2 h 11) / 3) < (sI T2 i 9) then (sI T2 h 11) / 3 else sI T2 i 9))) i 6 (sI (stI (stI T2 h 11 ((sI T2 h 11) - ((if ((sI T2 h 11) / 3) < (sI T2 i 9) then (sI T2 h 11) / 3 else sI T2 i 9) * 3))) h 17 ((sI (stI T2 h 11 ((sI T2 h 11) - ((if ((sI T2 h 11) / 3) < (sI T2 i 9) then (sI T2 h 11) / 3 else sI T2 i 9) * 3))) h 17) + ((sI (stI T2 h 11 ((sI T2 h 11) - ((if ((sI T2 h 11) / 3) < (sI T2 i 9) then (sI T2 h 11) / 3 else sI T2 i 9) * 3))) i 9) - (if ((sI T2 h 11) / 3) < (sI T2 i 9) then (sI T2 h 11) / 3 else sI T2 i 9)))) i 6 + (if ((sI T2 h 11) / 3) < (sI T2 i 9) then (sI T2 h 11) / 3 else sI T2 i 9))) i 8 0) i 9 0) h 11 = (sI T2 h 11) - ((if ((sI T2 h 11) / 3) < (sI T2 i 9) then (sI T2 h 11) / 3 else sI T2 i 9) * 3) := (iI_k (by decide)).trans w34
  have w42 : sI (stI (stI (stI (stI (stI (stI T2 h 11 ((sI T2 h 11) - ((if ((sI T2 h 11) / 3) < (sI T2 i 9) then (sI T2 h 11) / 3 else sI T2 i 9) * 3))) h 17 ((sI (stI T2 h 11 ((sI T2 h 11) - ((if ((sI T2 h 11) / 3) < (sI T2 i 9) then (sI T2 h 11) / 3 else sI T2 i 9) * 3))) h 17) + ((sI (stI T2 h 11 ((sI T2 h 11) - ((if ((sI T2 h 11) / 3) < (sI T2 i 9) then (sI T2 h 11) / 3 else sI T2 i 9) * 3))) i 9) - (if ((sI T2 h 11) / 3) < (sI T2 i 9) then (sI T2 h 11) / 3 else sI T2 i 9)))) i 3 (sI (stI (stI T2 h 11 ((sI T2 h 11) - ((if ((sI T2 h 11) / 3) < (sI T2 i 9) then (sI T2 h 11) / 3 else sI T2 i 9) * 3))) h 17 ((sI (stI T2 h 11 ((sI T2 h 11) - ((if ((sI T2 h 11) / 3) < (sI T2 i 9) then (sI T2 h 11) / 3 else sI T2 i 9) * 3))) h 17) + ((sI (stI T2 h 11 ((sI T2 h 11) - ((if ((sI T2 h 11) / 3) < (sI T2 i 9) then (sI T2 h 11) / 3 else sI T2 i 9) * 3))) i 9) - (if ((sI T2 h 11) / 3) < (sI T2 i 9) then (sI T2 h 11) / 3 else sI T2 i 9)))) i 3 + (if ((sI T2 h 11) / 3) < (sI T2 i 9) then (sI T2 h 11) / 3 else sI T2 i 9))) i 6 (sI (stI (stI T2 h 11 ((sI T2 h 11) - ((if ((sI T2 h 11) / 3) < (sI T2 i 9) then (sI T2 h 11) / 3 else sI T2 i 9) * 3))) h 17 ((sI (stI T2 h 11 ((sI T2 h 11) - ((if ((sI T2 h 11) / 3) < (sI T2 i 9) then (sI T2 h 11) / 3 else sI T2 i 9) * 3))) h 17) + ((sI (stI T2 h 11 ((sI T2 h 11) - ((if ((sI T2 h 11) / 3) < (sI T2 i 9) then (sI T2 h 11) / 3 else sI T2 i 9) * 3))) i 9) - (if ((sI T2 h 11) / 3) < (sI T2 i 9) then (sI T2 h 11) / 3 else sI T2 i 9)))) i 6 + (if ((sI T2 h 11) / 3) < (sI T2 i 9) then (sI T2 h 11) / 3 else sI T2 i 9))) i 8 0) i 9 0) h 17 = (sI (stI T2 h 11 ((sI T2 h 11) - ((if ((sI T2 h 11) / 3) < (sI T2 i 9) then (sI T2 h 11) / 3 else sI T2 i 9) * 3))) h 17) + ((sI (stI T2 h 11 ((sI T2 h 11) - ((if ((sI T2 h 11) / 3) < (sI T2 i 9) then (sI T2 h 11) / 3 else sI T2 i 9) * 3))) i 9) - (if ((sI T2 h 11) / 3) < (sI T2 i 9) then (sI T2 h 11) / 3 else sI T2 i 9)) := (iI_k (by decide)).trans w35
  have w43 : sI (stI (stI (stI (stI (stI (stI T2 h 11 ((sI T2 h 11) - ((if ((sI T2 h 11) / 3) < (sI T2 i 9) then (sI T2 h 11) / 3 else sI T2 i 9) * 3))) h 17 ((sI (stI T2 h 11 ((sI T2 h 11) - ((if ((sI T2 h 11) / 3) < (sI T2 i 9) then (sI T2 h 11) / 3 else sI T2 i 9) * 3))) h 17) + ((sI (stI T2 h 11 ((sI T2 h 11) - ((if ((sI T2 h 11) / 3) < (sI T2 i 9) then (sI T2 h 11) / 3 else sI T2 i 9) * 3))) i 9) - (if ((sI T2 h 11) / 3) < (sI T2 i 9) then (sI T2 h 11) / 3 else sI T2 i 9)))) i 3 (sI (stI (stI T2 h 11 ((sI T2 h 11) - ((if ((sI T2 h 11) / 3) < (sI T2 i 9) then (sI T2 h 11) / 3 else sI T2 i 9) * 3))) h 17 ((sI (stI T2 h 11 ((sI T2 h 11) - ((if ((sI T2 h 11) / 3) < (sI T2 i 9) then (sI T2 h 11) / 3 else sI T2 i 9) * 3))) h 17) + ((sI (stI T2 h 11 ((sI T2 h 11) - ((if ((sI T2 h 11) / 3) < (sI T2 i 9) then (sI T2 h 11) / 3 else sI T2 i 9) * 3))) i 9) - (if ((sI T2 h 11) / 3) < (sI T2 i 9) then (sI T2 h 11) / 3 else sI T2 i 9)))) i 3 + (if ((sI T2 h 11) / 3) < (sI T2 i 9) then (sI T2 h 11) / 3 else sI T2 i 9))) i 6 (sI (stI (stI T2 h 11 ((sI T2 h 11) - ((if ((sI T2 h 11) / 3) < (sI T2 i 9) then (sI T2 h 11) / 3 else sI T2 i 9) * 3))) h 17 ((sI (stI T2 h 11 ((sI T2 h 11) - ((if ((sI T2 h 11) / 3) < (sI T2 i 9) then (sI T2 h 11) / 3 else sI T2 i 9) * 3))) h 17) + ((sI (stI T2 h 11 ((sI T2 h 11) - ((if ((sI T2 h 11) / 3) < (sI T2 i 9) then (sI T2 h 11) / 3 else sI T2 i 9) * 3))) i 9) - (if ((sI T2 h 11) / 3) < (sI T2 i 9) then (sI T2 h 11) / 3 else sI T2 i 9)))) i 6 + (if ((sI T2 h 11) / 3) < (sI T2 i 9) then (sI T2 h 11) / 3 else sI T2 i 9))) i 8 0) i 9 0) i 3 = sI (stI (stI T2 h 11 ((sI T2 h 11) - ((if ((sI T2 h 11) / 3) < (sI T2 i 9) then (sI T2 h 11) / 3 else sI T2 i 9) * 3))) h 17 ((sI (stI T2 h 11 ((sI T2 h 11) - ((if ((sI T2 h 11) / 3) < (sI T2 i 9) then (sI T2 h 11) / 3 else sI T2 i 9) * 3))) h 17) + ((sI (stI T2 h 11 ((sI T2 h 11) - ((if ((sI T2 h 11) / 3) < (sI T2 i 9) then (sI T2 h 11) / 3 else sI T2 i 9) * 3))) i 9) - (if ((sI T2 h 11) / 3) < (sI T2 i 9) then (sI T2 h 11) / 3 else sI T2 i 9)))) i 3 + (if ((sI T2 h 11) / 3) < (sI T2 i 9) then (sI T2 h 11) / 3 else sI T2 i 9) := (iI_k (by decide)).trans w36
  have w44 : sI (stI (stI (stI (stI (stI (stI T2 h 11 ((sI T2 h 11) - ((if ((sI T2 h 11) / 3) < (sI T2 i 9) then (sI T2 h 11) / 3 else sI T2 i 9) * 3))) h 17 ((sI (stI T2 h 11 ((sI T2 h 11) - ((if ((sI T2 h 11) / 3) < (sI T2 i 9) then (sI T2 h 11) / 3 else sI T2 i 9) * 3))) h 17) + ((sI (stI T2 h 11 ((sI T2 h 11) - ((if ((sI T2 h 11) / 3) < (sI T2 i 9) then (sI T2 h 11) / 3 else sI T2 i 9) * 3))) i 9) - (if ((sI T2 h 11) / 3) < (sI T2 i 9) then (sI T2 h 11) / 3 else sI T2 i 9)))) i 3 (sI (stI (stI T2 h 11 ((sI T2 h 11) - ((if ((sI T2 h 11) / 3) < (sI T2 i 9) then (sI T2 h 11) / 3 else sI T2 i 9) * 3))) h 17 ((sI (stI T2 h 11 ((sI T2 h 11) - ((if ((sI T2 h 11) / 3) < (sI T2 i 9) then (sI T2 h 11) / 3 else sI T2 i 9) * 3))) h 17) + ((sI (stI T2 h 11 ((sI T2 h 11) - ((if ((sI T2 h 11) / 3) < (sI T2 i 9) then (sI T2 h 11) / 3 else sI T2 i 9) * 3))) i 9) - (if ((sI T2 h 11) / 3) < (sI T2 i 9) then (sI T2 h 11) / 3 else sI T2 i 9)))) i 3 + (if ((sI T2 h 11) / 3) < (sI T2 i 9) then (sI T2 h 11) / 3 else sI T2 i 9))) i 6 (sI (stI (stI T2 h 11 ((sI T2 h 11) - ((if ((sI T2 h 11) / 3) < (sI T2 i 9) then (sI T2 h 11) / 3 else sI T2 i 9) * 3))) h 17 ((sI (stI T2 h 11 ((sI T2 h 11) - ((if ((sI T2 h 11) / 3) < (sI T2 i 9) then (sI T2 h 11) / 3 else sI T2 i 9) * 3))) h 17) + ((sI (stI T2 h 11 ((sI T2 h 11) - ((if ((sI T2 h 11) / 3) < (sI T2 i 9) then (sI T2 h 11) / 3 else sI T2 i 9) * 3))) i 9) - (if ((sI T2 h 11) / 3) < (sI T2 i 9) then (sI T2 h 11) / 3 else sI T2 i 9)))) i 6 + (if ((sI T2 h 11) / 3) < (sI T2 i 9) then (sI T2 h 11) / 3 else sI T2 i 9))) i 8 0) i 9 0) i 6 = sI (stI (stI T2 h 11 ((sI T2 h 11) - ((if ((sI T2 h 11) / 3) < (sI T2 i 9) then (sI T2 h 11) / 3 else sI T2 i 9) * 3))) h 17 ((sI (stI T2 h 11 ((sI T2 h 11) - ((if ((sI T2 h 11) / 3) < (sI T2 i 9) then (sI T2 h 11) / 3 else sI T2 i 9) * 3))) h 17) + ((sI (stI T2 h 11 ((sI T2 h 11) - ((if ((sI T2 h 11) / 3) < (sI T2 i 9) then (sI T2 h 11) / 3 else sI T2 i 9) * 3))) i 9) - (if ((sI T2 h 11) / 3) < (sI T2 i 9) then (sI T2 h 11) / 3 else sI T2 i 9)))) i 6 + (if ((sI T2 h 11) / 3) < (sI T2 i 9) then (sI T2 h 11) / 3 else sI T2 i 9) := (iI_k (by decide)).trans w37
  have w45 : sI (stI (stI (stI (stI (stI (stI T2 h 11 ((sI T2 h 11) - ((if ((sI T2 h 11) / 3) < (sI T2 i 9) then (sI T2 h 11) / 3 else sI T2 i 9) * 3))) h 17 ((sI (stI T2 h 11 ((sI T2 h 11) - ((if ((sI T2 h 11) / 3) < (sI T2 i 9) then (sI T2 h 11) / 3 else sI T2 i 9) * 3))) h 17) + ((sI (stI T2 h 11 ((sI T2 h 11) - ((if ((sI T2 h 11) / 3) < (sI T2 i 9) then (sI T2 h 11) / 3 else sI T2 i 9) * 3))) i 9) - (if ((sI T2 h 11) / 3) < (sI T2 i 9) then (sI T2 h 11) / 3 else sI T2 i 9)))) i 3 (sI (stI (stI T2 h 11 ((sI T2 h 11) - ((if ((sI T2 h 11) / 3) < (sI T2 i 9) then (sI T2 h 11) / 3 else sI T2 i 9) * 3))) h 17 ((sI (stI T2 h 11 ((sI T2 h 11) - ((if ((sI T2 h 11) / 3) < (sI T2 i 9) then (sI T2 h 11) / 3 else sI T2 i 9) * 3))) h 17) + ((sI (stI T2 h 11 ((sI T2 h 11) - ((if ((sI T2 h 11) / 3) < (sI T2 i 9) then (sI T2 h 11) / 3 else sI T2 i 9) * 3))) i 9) - (if ((sI T2 h 11) / 3) < (sI T2 i 9) then (sI T2 h 11) / 3 else sI T2 i 9)))) i 3 + (if ((sI T2 h 11) / 3) < (sI T2 i 9) then (sI T2 h 11) / 3 else sI T2 i 9))) i 6 (sI (stI (stI T2 h 11 ((sI T2 h 11) - ((if ((sI T2 h 11) / 3) < (sI T2 i 9) then (sI T2 h 11) / 3 else sI T2 i 9) * 3))) h 17 ((sI (stI T2 h 11 ((sI T2 h 11) - ((if ((sI T2 h 11) / 3) < (sI T2 i 9) then (sI T2 h 11) / 3 else sI T2 i 9) * 3))) h 17) + ((sI (stI T2 h 11 ((sI T2 h 11) - ((if ((sI T2 h 11) / 3) < (sI T2 i 9) then (sI T2 h 11) / 3 else sI T2 i 9) * 3))) i 9) - (if ((sI T2 h 11) / 3) < (sI T2 i 9) then (sI T2 h 11) / 3 else sI T2 i 9)))) i 6 + (if ((sI T2 h 11) / 3) < (sI T2 i 9) then (sI T2 h 11) / 3 else sI T2 i 9))) i 8 0) i 9 0) i 8 = 0 := (iI_k (by decide)).trans w38
  have w46 : sI (stI (stI (stI (stI (stI (stI T2 h 11 ((sI T2 h 11) - ((if ((sI T2 h 11) / 3) < (sI T2 i 9) then (sI T2 h 11) / 3 else sI T2 i 9) * 3))) h 17 ((sI (stI T2 h 11 ((sI T2 h 11) - ((if ((sI T2 h 11) / 3) < (sI T2 i 9) then (sI T2 h 11) / 3 else sI T2 i 9) * 3))) h 17) + ((sI (stI T2 h 11 ((sI T2 h 11) - ((if ((sI T2 h 11) / 3) < (sI T2 i 9) then (sI T2 h 11) / 3 else sI T2 i 9) * 3))) i 9) - (if ((sI T2 h 11) / 3) < (sI T2 i 9) then (sI T2 h 11) / 3 else sI T2 i 9)))) i 3 (sI (stI (stI T2 h 11 ((sI T2 h 11) - ((if ((sI T2 h 11) / 3) < (sI T2 i 9) then (sI T2 h 11) / 3 else sI T2 i 9) * 3))) h 17 ((sI (stI T2 h 11 ((sI T2 h 11) - ((if ((sI T2 h 11) / 3) < (sI T2 i 9) then (sI T2 h 11) / 3 else sI T2 i 9) * 3))) h 17) + ((sI (stI T2 h 11 ((sI T2 h 11) - ((if ((sI T2 h 11) / 3) < (sI T2 i 9) then (sI T2 h 11) / 3 else sI T2 i 9) * 3))) i 9) - (if ((sI T2 h 11) / 3) < (sI T2 i 9) then (sI T2 h 11) / 3 else sI T2 i 9)))) i 3 + (if ((sI T2 h 11) / 3) < (sI T2 i 9) then (sI T2 h 11) / 3 else sI T2 i 9))) i 6 (sI (stI (stI T2 h 11 ((sI T2 h 11) - ((if ((sI T2 h 11) / 3) < (sI T2 i 9) then (sI T2 h 11) / 3 else sI T2 i 9) * 3))) h 17 ((sI (stI T2 h 11 ((sI T2 h 11) - ((if ((sI T2 h 11) / 3) < (sI T2 i 9) then (sI T2 h 11) / 3 else sI T2 i 9) * 3))) h 17) + ((sI (stI T2 h 11 ((sI T2 h 11) - ((if ((sI T2 h 11) / 3) < (sI T2 i 9) then (sI T2 h 11) / 3 else sI T2 i 9) * 3))) i 9) - (if ((sI T2 h 11) / 3) < (sI T2 i 9) then (sI T2 h 11) / 3 else sI T2 i 9)))) i 6 + (if ((sI T2 h 11) / 3) < (sI T2 i 9) then (sI T2 h 11) / 3 else sI T2 i 9))) i 8 0) i 9 0) i 9 = 0 := iI_s
  clear w32 w33 w34 w35 w36 w37 w38
  exact pc_vret (S := stI (stI (stI (stI (stI (stI T2 h 11 ((sI T2 h 11) - ((if ((sI T2 h 11) / 3) < (sI T2 i 9) then (sI T2 h 11) / 3 else sI T2 i 9) * 3))) h 17 ((sI (stI T2 h 11 ((sI T2 h 11) - ((if ((sI T2 h 11) / 3) < (sI T2 i 9) then (sI T2 h 11) / 3 else sI T2 i 9) * 3))) h 17) + ((sI (stI T2 h 11 ((sI T2 h 11) - ((if ((sI T2 h 11) / 3) < (sI T2 i 9) then (sI T2 h 11) / 3 else sI T2 i 9) * 3))) i 9) - (if ((sI T2 h 11) / 3) < (sI T2 i 9) then (sI T2 h 11) / 3 else sI T2 i 9)))) i 3 (sI (stI (stI T2 h 11 ((sI T2 h 11) - ((if ((sI T2 h 11) / 3) < (sI T2 i 9) then (sI T2 h 11) / 3 else sI T2 i 9) * 3))) h 17 ((sI (stI T2 h 11 ((sI T2 h 11) - ((if ((sI T2 h 11) / 3) < (sI T2 i 9) then (sI T2 h 11) / 3 else sI T2 i 9) * 3))) h 17) + ((sI (stI T2 h 11 ((sI T2 h 11) - ((if ((sI T2 h 11) / 3) < (sI T2 i 9) then (sI T2 h 11) / 3 else sI T2 i 9) * 3))) i 9) - (if ((sI T2 h 11) / 3) < (sI T2 i 9) then (sI T2 h 11) / 3 else sI T2 i 9)))) i 3 + (if ((sI T2 h 11) / 3) < (sI T2 i 9) then (sI T2 h 11) / 3 else sI T2 i 9))) i 6 (sI (stI (stI T2 h 11 ((sI T2 h 11) - ((if ((sI T2 h 11) / 3) < (sI T2 i 9) then (sI T2 h 11) / 3 else sI T2 i 9) * 3))) h 17 ((sI (stI T2 h 11 ((sI T2 h 11) - ((if ((sI T2 h 11) / 3) < (sI T2 i 9) then (sI T2 h 11) / 3 else sI T2 i 9) * 3))) h 17) + ((sI (stI T2 h 11 ((sI T2 h 11) - ((if ((sI T2 h 11) / 3) < (sI T2 i 9) then (sI T2 h 11) / 3 else sI T2 i 9) * 3))) i 9) - (if ((sI T2 h 11) / 3) < (sI T2 i 9) then (sI T2 h 11) / 3 else sI T2 i 9)))) i 6 + (if ((sI T2 h 11) / 3) < (sI T2 i 9) then (sI T2 h 11) / 3 else sI T2 i 9))) i 8 0) i 9 0) hx hb hr hlk hK hZ hA hW hS (⟨⟨ekT2, erT2, elT2, ejT2⟩, w39, w40, trivial⟩) dX8_makeCut_56
set_option maxHeartbeats 4000000 in
set_option maxRecDepth 100000 in
theorem c_X8_passHour (l : Launch) (D : va_G) (cy : Nat → ClassId) (A : Nat → Prop) (S : St) (h i1 i2 q1 w1 q2 w2 q3 w3 q4 w4 : Nat) (a b : Int32) (a_0 : sK S h = 8) (a_1 : sR S h 0 = some i1) (a_2 : sR S h 1 = some i2) (a_10 : sK S i1 = 1) (a_11 : sR S i1 0 = some q1) (a_12 : sK S q1 = 0) (a_13 : sR S q1 0 = some w1) (a_14 : sK S w1 = 12) (a_15 : sL S w1 = 32) (a_16 : ∀ j, sJ S w1 j = 0) (a_17 : sR S i1 1 = some q2) (a_18 : sK S q2 = 0) (a_19 : sR S q2 0 = some w2) (a_20 : sK S w2 = 12) (a_21 : sL S w2 = 32) (a_22 : ∀ j, sJ S w2 j = 0) (a_31 : sK S i2 = 1) (a_32 : sR S i2 0 = some q3) (a_33 : sK S q3 = 0) (a_34 : sR S q3 0 = some w3) (a_35 : sK S w3 = 12) (a_36 : sL S w3 = 32) (a_37 : ∀ j, sJ S w3 j = 0) (a_38 : sR S i2 1 = some q4) (a_39 : sK S q4 = 0) (a_40 : sR S q4 0 = some w4) (a_41 : sK S w4 = 12) (a_42 : sL S w4 = 32) (a_43 : ∀ j, sJ S w4 j = 0) (a_113 : sI S h 9 = 0) (a_114 : sI S h 10 = 0) : MV l yX8_passHour wsX8_passHour ({ frames := 3, cells := 0, slots := 0, locals := 103 } : Room) 0 0 D cy A [.ref h, .int a, .int b] S (fun S1 => (sK S1 = sK S ∧ sR S1 = sR S ∧ sL S1 = sL S ∧ sJ S1 = sJ S) ∧ sI S1 h 9 = 0 ∧ sI S1 h 10 = 0 ∧ True) := by
  refine mt_start (cc := cX8_passHour) (maxL := 7) (ret := none) (by decide) rfl (Nat.le_of_ble_eq_true rfl) ?_
  intro p e s m args below meth c hx hb hr hlk hml hown hnm hts hK hZ hA hW hS ls hl
  have hl : lv_has ls 7 [(0, .ref h), (1, .int a), (2, .int b)] := hl
  have hown : s.vm.findClass RX8 = some m.cls := hown
  have F : CallFix p m c cX8_passHour 7 s args wsX8_passHour RX8 := ⟨hx, hb, hml, hown, hts⟩
  have wi1 : ∀ w ∈ u_ws RX1 TX1 10, w ∈ wsX8_passHour := by decide +kernel
  have wi8 : ∀ w ∈ u_ws RX8 TX8 18, w ∈ wsX8_passHour := by decide +kernel
  refine lv_aload_n hx hb dX8_passHour_0 rfl (lv_at hl 0 rfl) ?_
  refine lv_iload_n hx hb dX8_passHour_1 rfl (lv_at hl 1 rfl) ?_
  refine pc_Vq (As := [.int a]) (rest := []) F (c_X8_iceOf l D cy A S h i1 i2 a a_0 a_1 a_2) (cwV 1 hts gX8_passHour_X8_iceOf rfl rfl rfl (by decide +kernel) ⟨Nat.le_of_ble_eq_true rfl, Nat.le_of_ble_eq_true rfl⟩) hK hZ hA hW hS a_0 (by decide) rfl rfl hl.1 rfl (Nat.le_of_ble_eq_true rfl) dX8_passHour_2 ⟨Nat.le_of_ble_eq_true rfl, Nat.le_of_ble_eq_true rfl⟩ (fun v1 T2 H locs p3 hW hS => ?_)
  obtain ⟨eT2, p3⟩ := p3
  rw [eT2] at hW
  by_cases c4 : a = 0
  · rw [show v1 = some i1 from by rw [p3, if_pos c4]]
    refine lv_astore_n (lv' := [(3, .ref i1), (0, .ref h), (1, .int a), (2, .int b)]) hx hb dX8_passHour_5 rfl hl (by decide) rfl (fun ls hl => ?_)
    refine lv_aload_n hx hb dX8_passHour_6 rfl (lv_at hl 1 rfl) ?_
    refine lv_iload_n hx hb dX8_passHour_7 rfl (lv_at hl 2 rfl) ?_
    refine lv_aload_n hx hb dX8_passHour_8 rfl (lv_at hl 1 rfl) ?_
    refine pg_gi (ci := 8) (C := RX8) (T := TX8) (N := 18) hx hb hts wi8 hown hK hW a_0 (by decide) rfl 10 (by decide) (hts (.fieldLink RX8 96 "IceHall" "now" "I") (by decide +kernel)) (fun _ h9 => h9) rfl dX8_passHour_9 ?_
    rw [show sI S h 10 = 0 from a_114]
    refine pc_Vq (As := [.int a, .int 0]) (rest := []) F (c_X8_standingAt l D cy A S h i1 i2 q1 w1 q3 w3 a 0 a_0 a_1 a_2 a_10 a_11 a_12 a_13 a_14 a_15 a_16 a_31 a_32 a_33 a_34 a_35 a_36 a_37 a_113) (cwV 2 hts gX8_passHour_X8_standingAt rfl rfl rfl (by decide +kernel) ⟨Nat.le_of_ble_eq_true rfl, Nat.le_of_ble_eq_true rfl⟩) hK hZ hA hW hS a_0 (by decide) rfl rfl hl.1 rfl (Nat.le_of_ble_eq_true rfl) dX8_passHour_12 ⟨Nat.le_of_ble_eq_true rfl, Nat.le_of_ble_eq_true rfl⟩ (fun v5 T6 H locs p7 hW hS => ?_)
    obtain ⟨eT6, p7⟩ := p7
    rw [eT6] at hW
    rw [show v5 = none from p7]
    refine lv_astoreN (lv' := [(4, .null), (3, .ref i1), (0, .ref h), (1, .int a), (2, .int b)]) hx hb dX8_passHour_15 hl (by decide) rfl (fun ls hl => ?_)
    refine lv_iload_n hx hb dX8_passHour_17 rfl (lv_at hl 4 rfl) ?_
    refine lv_aloadN hx hb dX8_passHour_18 (lv_at hl 0 rfl) ?_
    refine pc_Si (As := [.null]) (rest := [.int b]) F (c_X8_heatOf l D cy A S  ) (va_cwS 1 hts gX8_passHour_X8_heatOf rfl rfl rfl (by decide +kernel) ⟨Nat.le_of_ble_eq_true rfl, Nat.le_of_ble_eq_true rfl⟩) hK hZ hA hW hS rfl hl.1 rfl (Nat.le_of_ble_eq_true rfl) dX8_passHour_20 ⟨Nat.le_of_ble_eq_true rfl, Nat.le_of_ble_eq_true rfl⟩ (fun v8 T9 H locs p10 hW hS => ?_)
    obtain ⟨eT9, p10⟩ := p10
    rw [eT9] at hW
    rw [show v8 = 0 from p10]
    refine lv_iadd hx hb dX8_passHour_23 ?_
    refine lv_istore (lv' := [(5, .int (b + 0)), (4, .null), (3, .ref i1), (0, .ref h), (1, .int a), (2, .int b)]) hx hb dX8_passHour_24 hl (by decide) rfl (fun ls hl => ?_)
    refine lv_iload hx hb dX8_passHour_26 (lv_at hl 0 rfl) ?_
    refine lv_aload_n hx hb dX8_passHour_28 rfl (lv_at hl 3 rfl) ?_
    refine pg_gi (ci := 8) (C := RX8) (T := TX8) (N := 18) hx hb hts wi8 hown hK hW a_0 (by decide) rfl 11 (by decide) (hts (.fieldLink RX8 68 "IceHall" "store" "I") (by decide +kernel)) (fun _ h9 => h9) rfl dX8_passHour_29 ?_
    refine va_mmin hx hb (by rw [hml]; exact hl.1.symm) hown (hts (.methodLink RX8 286 Lib.Math.min.name) (by decide +kernel)) (hts (.static Lib.Math.min.name) (by decide +kernel)) (hts (.initialized "java/lang/Math") (by decide +kernel)) (hts (.code Lib.Math.min.name Lib.Math.min.code 2 (some .int)) (by decide +kernel)) (Nat.le_of_ble_eq_true rfl) (Nat.le_of_ble_eq_true rfl) (Nat.le_of_ble_eq_true rfl) (Nat.le_of_ble_eq_true rfl) dX8_passHour_32 ?_
    refine lv_istore (lv' := [(6, .int (if (sI S h 11) < (b + 0) then sI S h 11 else b + 0)), (5, .int (b + 0)), (4, .null), (3, .ref i1), (0, .ref h), (1, .int a), (2, .int b)]) hx hb dX8_passHour_35 hl (by decide) rfl (fun ls hl => ?_)
    refine lv_aload_n hx hb dX8_passHour_37 rfl (lv_at hl 4 rfl) ?_
    refine lv_dup hx hb dX8_passHour_38 rfl ?_
    refine pg_gi (ci := 8) (C := RX8) (T := TX8) (N := 18) hx hb hts wi8 hown hK hW a_0 (by decide) rfl 11 (by decide) (hts (.fieldLink RX8 68 "IceHall" "store" "I") (by decide +kernel)) (fun _ h9 => h9) rfl dX8_passHour_39 ?_
    refine lv_iload hx hb dX8_passHour_42 (lv_at hl 0 rfl) ?_
    refine lv_isub hx hb dX8_passHour_44 ?_
    refine pg_pi (ci := 8) (C := RX8) (T := TX8) (N := 18) hx hb hts wi8 tyX8 tyX8_ok nmX8 hown hK hW hS a_0 (by decide) rfl 11 (by decide) (hts (.fieldLink RX8 68 "IceHall" "store" "I") (by decide +kernel)) (fun _ h9 => h9) rfl rfl rfl dX8_passHour_45 (fun H locs hW hS => ?_)
    have w11 : sI (stI S h 11 ((sI S h 11) - (if (sI S h 11) < (b + 0) then sI S h 11 else b + 0))) h 9 = 0 := (iI_k (by decide)).trans a_113
    have w12 : sI (stI S h 11 ((sI S h 11) - (if (sI S h 11) < (b + 0) then sI S h 11 else b + 0))) h 10 = 0 := (iI_k (by decide)).trans a_114
    have w13 : sI (stI S h 11 ((sI S h 11) - (if (sI S h 11) < (b + 0) then sI S h 11 else b + 0))) h 11 = (sI S h 11) - (if (sI S h 11) < (b + 0) then sI S h 11 else b + 0) := iI_s
    refine lv_aload_n hx hb dX8_passHour_48 rfl (lv_at hl 3 rfl) ?_
    refine lv_iload hx hb dX8_passHour_49 (lv_at hl 1 rfl) ?_
    refine lv_iload hx hb dX8_passHour_51 (lv_at hl 0 rfl) ?_
    refine lv_isub hx hb dX8_passHour_53 ?_
    refine pc_Vv (As := [.int ((b + 0) - (if (sI S h 11) < (b + 0) then sI S h 11 else b + 0))]) (rest := []) F (c_X1_melt l D cy A (stI S h 11 ((sI S h 11) - (if (sI S h 11) < (b + 0) then sI S h 11 else b + 0))) i1 ((b + 0) - (if (sI S h 11) < (b + 0) then sI S h 11 else b + 0)) a_10) (cwV 1 hts gX8_passHour_X1_melt rfl rfl rfl (by decide +kernel) ⟨Nat.le_of_ble_eq_true rfl, Nat.le_of_ble_eq_true rfl⟩) hK hZ hA hW hS a_10 (by decide) rfl rfl hl.1 rfl (Nat.le_of_ble_eq_true rfl) dX8_passHour_54 ⟨Nat.le_of_ble_eq_true rfl, Nat.le_of_ble_eq_true rfl⟩ (fun T15 H locs p16 hW hS => ?_)
    obtain ⟨ekT15, erT15, elT15, ejT15, eoT15⟩ := p16
    have f17 : sK T15 h = 8 := by rw [ekT15]; exact a_0
    have f18 : sK T15 i1 = 1 := by rw [ekT15]; exact a_10
    have f19 : sK T15 q1 = 0 := by rw [ekT15]; exact a_12
    have f20 : sK T15 w1 = 12 := by rw [ekT15]; exact a_14
    have f21 : sK T15 q2 = 0 := by rw [ekT15]; exact a_18
    have f22 : sK T15 w2 = 12 := by rw [ekT15]; exact a_20
    have f23 : sK T15 i2 = 1 := by rw [ekT15]; exact a_31
    have f24 : sK T15 q3 = 0 := by rw [ekT15]; exact a_33
    have f25 : sK T15 w3 = 12 := by rw [ekT15]; exact a_35
    have f26 : sK T15 q4 = 0 := by rw [ekT15]; exact a_39
    have f27 : sK T15 w4 = 12 := by rw [ekT15]; exact a_41
    have f28 : sL T15 w1 = 32 := by rw [elT15]; exact a_15
    have f29 : sL T15 w2 = 32 := by rw [elT15]; exact a_21
    have f30 : sL T15 w3 = 32 := by rw [elT15]; exact a_36
    have f31 : sL T15 w4 = 32 := by rw [elT15]; exact a_42
    have f32 : sR T15 h 0 = some i1 := by rw [erT15]; exact a_1
    have f33 : sR T15 h 1 = some i2 := by rw [erT15]; exact a_2
    have f34 : sR T15 i1 0 = some q1 := by rw [erT15]; exact a_11
    have f35 : sR T15 q1 0 = some w1 := by rw [erT15]; exact a_13
    have f36 : sR T15 i1 1 = some q2 := by rw [erT15]; exact a_17
    have f37 : sR T15 q2 0 = some w2 := by rw [erT15]; exact a_19
    have f38 : sR T15 i2 0 = some q3 := by rw [erT15]; exact a_32
    have f39 : sR T15 q3 0 = some w3 := by rw [erT15]; exact a_34
    have f40 : sR T15 i2 1 = some q4 := by rw [erT15]; exact a_38
    have f41 : sR T15 q4 0 = some w4 := by rw [erT15]; exact a_40
    have f42 : sI T15 h 9 = 0 := by rw [eoT15 h (fk_ne a_0 a_10 (by decide))]; exact w11
    have f43 : sI T15 h 10 = 0 := by rw [eoT15 h (fk_ne a_0 a_10 (by decide))]; exact w12
    have f44 : sI T15 h 11 = (sI S h 11) - (if (sI S h 11) < (b + 0) then sI S h 11 else b + 0) := by rw [eoT15 h (fk_ne a_0 a_10 (by decide))]; exact w13
    have f45 : ∀ j, sJ T15 w1 j = 0 := fun j => by rw [ejT15]; exact a_16 j 
    have f46 : ∀ j, sJ T15 w2 j = 0 := fun j => by rw [ejT15]; exact a_22 j 
    have f47 : ∀ j, sJ T15 w3 j = 0 := fun j => by rw [ejT15]; exact a_37 j 
    have f48 : ∀ j, sJ T15 w4 j = 0 := fun j => by rw [ejT15]; exact a_43 j 
    clear w11 w12 w13
    refine lv_aloadN hx hb dX8_passHour_57 (lv_at hl 2 rfl) ?_
    refine lv_ifnullN (tgt := 71) hx hb dX8_passHour_59 (by decide) ?_
    refine lv_aload_n hx hb dX8_passHour_71 rfl (lv_at hl 3 rfl) ?_
    refine pg_gr (b := q2) (ci := 1) (C := RX1) (T := TX1) (N := 10) hx hb hts wi1 hown hK hW f18 (by decide) rfl 1 (by decide) (hts (.fieldLink RX8 171 "IceHall$Ice" "closed" "LIceHall$HourSet;") (by decide +kernel)) (fun _ h9 => h9) rfl f36 dX8_passHour_72 ?_
    refine lv_aload_n hx hb dX8_passHour_75 rfl (lv_at hl 4 rfl) ?_
    refine pg_gi (ci := 8) (C := RX8) (T := TX8) (N := 18) hx hb hts wi8 hown hK hW f17 (by decide) rfl 10 (by decide) (hts (.fieldLink RX8 96 "IceHall" "now" "I") (by decide +kernel)) (fun _ h9 => h9) rfl dX8_passHour_76 ?_
    rw [show sI T15 h 10 = 0 from f43]
    refine pc_Vi (As := [.int 0]) (rest := []) F (c_X0_has l D cy A T15 q2 w2 0 f21 f37 f22 f29 f46) (cwV 1 hts gX8_passHour_X0_has rfl rfl rfl (by decide +kernel) ⟨Nat.le_of_ble_eq_true rfl, Nat.le_of_ble_eq_true rfl⟩) hK hZ hA hW hS f21 (by decide) rfl rfl hl.1 rfl (Nat.le_of_ble_eq_true rfl) dX8_passHour_79 ⟨Nat.le_of_ble_eq_true rfl, Nat.le_of_ble_eq_true rfl⟩ (fun v49 T50 H locs p51 hW hS => ?_)
    obtain ⟨eT50, p51⟩ := p51
    rw [eT50] at hW
    rw [show v49 = 0 from p51]
    refine lv_if_ne (tgt := 90) hx hb dX8_passHour_82 (by decide) (fun c52 => absurd (by decide) c52) (fun c52 => ?_)
    refine lv_aload_n hx hb dX8_passHour_85 rfl (lv_at hl 4 rfl) ?_
    refine lv_aload_n hx hb dX8_passHour_86 rfl (lv_at hl 3 rfl) ?_
    refine pc_Vv (As := [.ref i1]) (rest := []) F (c_X8_makeCut l D cy A T15 h i1 f17 f18 f42 f43) (cwV 1 hts gX8_passHour_X8_makeCut rfl rfl rfl (by decide +kernel) ⟨Nat.le_of_ble_eq_true rfl, Nat.le_of_ble_eq_true rfl⟩) hK hZ hA hW hS f17 (by decide) rfl rfl hl.1 rfl (Nat.le_of_ble_eq_true rfl) dX8_passHour_87 ⟨Nat.le_of_ble_eq_true rfl, Nat.le_of_ble_eq_true rfl⟩ (fun T54 H locs p55 hW hS => ?_)
    obtain ⟨⟨ekT54, erT54, elT54, ejT54⟩, p55⟩ := p55
    have f56 : sK T54 h = 8 := by rw [ekT54]; exact f17
    have f57 : sK T54 i1 = 1 := by rw [ekT54]; exact f18
    have f58 : sK T54 q1 = 0 := by rw [ekT54]; exact f19
    have f59 : sK T54 w1 = 12 := by rw [ekT54]; exact f20
    have f60 : sK T54 q2 = 0 := by rw [ekT54]; exact f21
    have f61 : sK T54 w2 = 12 := by rw [ekT54]; exact f22
    have f62 : sK T54 i2 = 1 := by rw [ekT54]; exact f23
    have f63 : sK T54 q3 = 0 := by rw [ekT54]; exact f24
    have f64 : sK T54 w3 = 12 := by rw [ekT54]; exact f25
    have f65 : sK T54 q4 = 0 := by rw [ekT54]; exact f26
    have f66 : sK T54 w4 = 12 := by rw [ekT54]; exact f27
    have f67 : sL T54 w1 = 32 := by rw [elT54]; exact f28
    have f68 : sL T54 w2 = 32 := by rw [elT54]; exact f29
    have f69 : sL T54 w3 = 32 := by rw [elT54]; exact f30
    have f70 : sL T54 w4 = 32 := by rw [elT54]; exact f31
    have f71 : sR T54 h 0 = some i1 := by rw [erT54]; exact f32
    have f72 : sR T54 h 1 = some i2 := by rw [erT54]; exact f33
    have f73 : sR T54 i1 0 = some q1 := by rw [erT54]; exact f34
    have f74 : sR T54 q1 0 = some w1 := by rw [erT54]; exact f35
    have f75 : sR T54 i1 1 = some q2 := by rw [erT54]; exact f36
    have f76 : sR T54 q2 0 = some w2 := by rw [erT54]; exact f37
    have f77 : sR T54 i2 0 = some q3 := by rw [erT54]; exact f38
    have f78 : sR T54 q3 0 = some w3 := by rw [erT54]; exact f39
    have f79 : sR T54 i2 1 = some q4 := by rw [erT54]; exact f40
    have f80 : sR T54 q4 0 = some w4 := by rw [erT54]; exact f41
    have f81 : ∀ j, sJ T54 w1 j = 0 := fun j => by rw [ejT54]; exact f45 j 
    have f82 : ∀ j, sJ T54 w2 j = 0 := fun j => by rw [ejT54]; exact f46 j 
    have f83 : ∀ j, sJ T54 w3 j = 0 := fun j => by rw [ejT54]; exact f47 j 
    have f84 : ∀ j, sJ T54 w4 j = 0 := fun j => by rw [ejT54]; exact f48 j 
    clear f17 f18 f19 f20 f21 f22 f23 f24 f25 f26 f27 f32 f33 f34 f35 f36 f37 f38 f39 f40 f41 f28 f29 f30 f31 f42 f43 f44 f45 f46 f47 f48
    obtain ⟨y85, p55⟩ := p55
    obtain ⟨y86, p55⟩ := p55
    exact pc_vret (S := T54) hx hb hr hlk hK hZ hA hW hS (⟨⟨ekT54.trans (ekT15), erT54.trans (erT15), elT54.trans (elT15), ejT54.trans (ejT15)⟩, y85, y86, trivial⟩) dX8_passHour_90
  · rw [show v1 = some i2 from by rw [p3, if_neg c4]]
    refine lv_astore_n (lv' := [(3, .ref i2), (0, .ref h), (1, .int a), (2, .int b)]) hx hb dX8_passHour_5 rfl hl (by decide) rfl (fun ls hl => ?_)
    refine lv_aload_n hx hb dX8_passHour_6 rfl (lv_at hl 1 rfl) ?_
    refine lv_iload_n hx hb dX8_passHour_7 rfl (lv_at hl 2 rfl) ?_
    refine lv_aload_n hx hb dX8_passHour_8 rfl (lv_at hl 1 rfl) ?_
    refine pg_gi (ci := 8) (C := RX8) (T := TX8) (N := 18) hx hb hts wi8 hown hK hW a_0 (by decide) rfl 10 (by decide) (hts (.fieldLink RX8 96 "IceHall" "now" "I") (by decide +kernel)) (fun _ h9 => h9) rfl dX8_passHour_9 ?_
    rw [show sI S h 10 = 0 from a_114]
    refine pc_Vq (As := [.int a, .int 0]) (rest := []) F (c_X8_standingAt l D cy A S h i1 i2 q1 w1 q3 w3 a 0 a_0 a_1 a_2 a_10 a_11 a_12 a_13 a_14 a_15 a_16 a_31 a_32 a_33 a_34 a_35 a_36 a_37 a_113) (cwV 2 hts gX8_passHour_X8_standingAt rfl rfl rfl (by decide +kernel) ⟨Nat.le_of_ble_eq_true rfl, Nat.le_of_ble_eq_true rfl⟩) hK hZ hA hW hS a_0 (by decide) rfl rfl hl.1 rfl (Nat.le_of_ble_eq_true rfl) dX8_passHour_12 ⟨Nat.le_of_ble_eq_true rfl, Nat.le_of_ble_eq_true rfl⟩ (fun v87 T88 H locs p89 hW hS => ?_)
    obtain ⟨eT88, p89⟩ := p89
    rw [eT88] at hW
    rw [show v87 = none from p89]
    refine lv_astoreN (lv' := [(4, .null), (3, .ref i2), (0, .ref h), (1, .int a), (2, .int b)]) hx hb dX8_passHour_15 hl (by decide) rfl (fun ls hl => ?_)
    refine lv_iload_n hx hb dX8_passHour_17 rfl (lv_at hl 4 rfl) ?_
    refine lv_aloadN hx hb dX8_passHour_18 (lv_at hl 0 rfl) ?_
    refine pc_Si (As := [.null]) (rest := [.int b]) F (c_X8_heatOf l D cy A S  ) (va_cwS 1 hts gX8_passHour_X8_heatOf rfl rfl rfl (by decide +kernel) ⟨Nat.le_of_ble_eq_true rfl, Nat.le_of_ble_eq_true rfl⟩) hK hZ hA hW hS rfl hl.1 rfl (Nat.le_of_ble_eq_true rfl) dX8_passHour_20 ⟨Nat.le_of_ble_eq_true rfl, Nat.le_of_ble_eq_true rfl⟩ (fun v90 T91 H locs p92 hW hS => ?_)
    obtain ⟨eT91, p92⟩ := p92
    rw [eT91] at hW
    rw [show v90 = 0 from p92]
    refine lv_iadd hx hb dX8_passHour_23 ?_
    refine lv_istore (lv' := [(5, .int (b + 0)), (4, .null), (3, .ref i2), (0, .ref h), (1, .int a), (2, .int b)]) hx hb dX8_passHour_24 hl (by decide) rfl (fun ls hl => ?_)
    refine lv_iload hx hb dX8_passHour_26 (lv_at hl 0 rfl) ?_
    refine lv_aload_n hx hb dX8_passHour_28 rfl (lv_at hl 3 rfl) ?_
    refine pg_gi (ci := 8) (C := RX8) (T := TX8) (N := 18) hx hb hts wi8 hown hK hW a_0 (by decide) rfl 11 (by decide) (hts (.fieldLink RX8 68 "IceHall" "store" "I") (by decide +kernel)) (fun _ h9 => h9) rfl dX8_passHour_29 ?_
    refine va_mmin hx hb (by rw [hml]; exact hl.1.symm) hown (hts (.methodLink RX8 286 Lib.Math.min.name) (by decide +kernel)) (hts (.static Lib.Math.min.name) (by decide +kernel)) (hts (.initialized "java/lang/Math") (by decide +kernel)) (hts (.code Lib.Math.min.name Lib.Math.min.code 2 (some .int)) (by decide +kernel)) (Nat.le_of_ble_eq_true rfl) (Nat.le_of_ble_eq_true rfl) (Nat.le_of_ble_eq_true rfl) (Nat.le_of_ble_eq_true rfl) dX8_passHour_32 ?_
    refine lv_istore (lv' := [(6, .int (if (sI S h 11) < (b + 0) then sI S h 11 else b + 0)), (5, .int (b + 0)), (4, .null), (3, .ref i2), (0, .ref h), (1, .int a), (2, .int b)]) hx hb dX8_passHour_35 hl (by decide) rfl (fun ls hl => ?_)
    refine lv_aload_n hx hb dX8_passHour_37 rfl (lv_at hl 4 rfl) ?_
    refine lv_dup hx hb dX8_passHour_38 rfl ?_
    refine pg_gi (ci := 8) (C := RX8) (T := TX8) (N := 18) hx hb hts wi8 hown hK hW a_0 (by decide) rfl 11 (by decide) (hts (.fieldLink RX8 68 "IceHall" "store" "I") (by decide +kernel)) (fun _ h9 => h9) rfl dX8_passHour_39 ?_
    refine lv_iload hx hb dX8_passHour_42 (lv_at hl 0 rfl) ?_
    refine lv_isub hx hb dX8_passHour_44 ?_
    refine pg_pi (ci := 8) (C := RX8) (T := TX8) (N := 18) hx hb hts wi8 tyX8 tyX8_ok nmX8 hown hK hW hS a_0 (by decide) rfl 11 (by decide) (hts (.fieldLink RX8 68 "IceHall" "store" "I") (by decide +kernel)) (fun _ h9 => h9) rfl rfl rfl dX8_passHour_45 (fun H locs hW hS => ?_)
    have w93 : sI (stI S h 11 ((sI S h 11) - (if (sI S h 11) < (b + 0) then sI S h 11 else b + 0))) h 9 = 0 := (iI_k (by decide)).trans a_113
    have w94 : sI (stI S h 11 ((sI S h 11) - (if (sI S h 11) < (b + 0) then sI S h 11 else b + 0))) h 10 = 0 := (iI_k (by decide)).trans a_114
    have w95 : sI (stI S h 11 ((sI S h 11) - (if (sI S h 11) < (b + 0) then sI S h 11 else b + 0))) h 11 = (sI S h 11) - (if (sI S h 11) < (b + 0) then sI S h 11 else b + 0) := iI_s
    refine lv_aload_n hx hb dX8_passHour_48 rfl (lv_at hl 3 rfl) ?_
    refine lv_iload hx hb dX8_passHour_49 (lv_at hl 1 rfl) ?_
    refine lv_iload hx hb dX8_passHour_51 (lv_at hl 0 rfl) ?_
    refine lv_isub hx hb dX8_passHour_53 ?_
    refine pc_Vv (As := [.int ((b + 0) - (if (sI S h 11) < (b + 0) then sI S h 11 else b + 0))]) (rest := []) F (c_X1_melt l D cy A (stI S h 11 ((sI S h 11) - (if (sI S h 11) < (b + 0) then sI S h 11 else b + 0))) i2 ((b + 0) - (if (sI S h 11) < (b + 0) then sI S h 11 else b + 0)) a_31) (cwV 1 hts gX8_passHour_X1_melt rfl rfl rfl (by decide +kernel) ⟨Nat.le_of_ble_eq_true rfl, Nat.le_of_ble_eq_true rfl⟩) hK hZ hA hW hS a_31 (by decide) rfl rfl hl.1 rfl (Nat.le_of_ble_eq_true rfl) dX8_passHour_54 ⟨Nat.le_of_ble_eq_true rfl, Nat.le_of_ble_eq_true rfl⟩ (fun T97 H locs p98 hW hS => ?_)
    obtain ⟨ekT97, erT97, elT97, ejT97, eoT97⟩ := p98
    have f99 : sK T97 h = 8 := by rw [ekT97]; exact a_0
    have f100 : sK T97 i1 = 1 := by rw [ekT97]; exact a_10
    have f101 : sK T97 q1 = 0 := by rw [ekT97]; exact a_12
    have f102 : sK T97 w1 = 12 := by rw [ekT97]; exact a_14
    have f103 : sK T97 q2 = 0 := by rw [ekT97]; exact a_18
    have f104 : sK T97 w2 = 12 := by rw [ekT97]; exact a_20
    have f105 : sK T97 i2 = 1 := by rw [ekT97]; exact a_31
    have f106 : sK T97 q3 = 0 := by rw [ekT97]; exact a_33
    have f107 : sK T97 w3 = 12 := by rw [ekT97]; exact a_35
    have f108 : sK T97 q4 = 0 := by rw [ekT97]; exact a_39
    have f109 : sK T97 w4 = 12 := by rw [ekT97]; exact a_41
    have f110 : sL T97 w1 = 32 := by rw [elT97]; exact a_15
    have f111 : sL T97 w2 = 32 := by rw [elT97]; exact a_21
    have f112 : sL T97 w3 = 32 := by rw [elT97]; exact a_36
    have f113 : sL T97 w4 = 32 := by rw [elT97]; exact a_42
    have f114 : sR T97 h 0 = some i1 := by rw [erT97]; exact a_1
    have f115 : sR T97 h 1 = some i2 := by rw [erT97]; exact a_2
    have f116 : sR T97 i1 0 = some q1 := by rw [erT97]; exact a_11
    have f117 : sR T97 q1 0 = some w1 := by rw [erT97]; exact a_13
    have f118 : sR T97 i1 1 = some q2 := by rw [erT97]; exact a_17
    have f119 : sR T97 q2 0 = some w2 := by rw [erT97]; exact a_19
    have f120 : sR T97 i2 0 = some q3 := by rw [erT97]; exact a_32
    have f121 : sR T97 q3 0 = some w3 := by rw [erT97]; exact a_34
    have f122 : sR T97 i2 1 = some q4 := by rw [erT97]; exact a_38
    have f123 : sR T97 q4 0 = some w4 := by rw [erT97]; exact a_40
    have f124 : sI T97 h 9 = 0 := by rw [eoT97 h (fk_ne a_0 a_31 (by decide))]; exact w93
    have f125 : sI T97 h 10 = 0 := by rw [eoT97 h (fk_ne a_0 a_31 (by decide))]; exact w94
    have f126 : sI T97 h 11 = (sI S h 11) - (if (sI S h 11) < (b + 0) then sI S h 11 else b + 0) := by rw [eoT97 h (fk_ne a_0 a_31 (by decide))]; exact w95
    have f127 : ∀ j, sJ T97 w1 j = 0 := fun j => by rw [ejT97]; exact a_16 j 
    have f128 : ∀ j, sJ T97 w2 j = 0 := fun j => by rw [ejT97]; exact a_22 j 
    have f129 : ∀ j, sJ T97 w3 j = 0 := fun j => by rw [ejT97]; exact a_37 j 
    have f130 : ∀ j, sJ T97 w4 j = 0 := fun j => by rw [ejT97]; exact a_43 j 
    clear w93 w94 w95
    refine lv_aloadN hx hb dX8_passHour_57 (lv_at hl 2 rfl) ?_
    refine lv_ifnullN (tgt := 71) hx hb dX8_passHour_59 (by decide) ?_
    refine lv_aload_n hx hb dX8_passHour_71 rfl (lv_at hl 3 rfl) ?_
    refine pg_gr (b := q4) (ci := 1) (C := RX1) (T := TX1) (N := 10) hx hb hts wi1 hown hK hW f105 (by decide) rfl 1 (by decide) (hts (.fieldLink RX8 171 "IceHall$Ice" "closed" "LIceHall$HourSet;") (by decide +kernel)) (fun _ h9 => h9) rfl f122 dX8_passHour_72 ?_
    refine lv_aload_n hx hb dX8_passHour_75 rfl (lv_at hl 4 rfl) ?_
    refine pg_gi (ci := 8) (C := RX8) (T := TX8) (N := 18) hx hb hts wi8 hown hK hW f99 (by decide) rfl 10 (by decide) (hts (.fieldLink RX8 96 "IceHall" "now" "I") (by decide +kernel)) (fun _ h9 => h9) rfl dX8_passHour_76 ?_
    rw [show sI T97 h 10 = 0 from f125]
    refine pc_Vi (As := [.int 0]) (rest := []) F (c_X0_has l D cy A T97 q4 w4 0 f108 f123 f109 f113 f130) (cwV 1 hts gX8_passHour_X0_has rfl rfl rfl (by decide +kernel) ⟨Nat.le_of_ble_eq_true rfl, Nat.le_of_ble_eq_true rfl⟩) hK hZ hA hW hS f108 (by decide) rfl rfl hl.1 rfl (Nat.le_of_ble_eq_true rfl) dX8_passHour_79 ⟨Nat.le_of_ble_eq_true rfl, Nat.le_of_ble_eq_true rfl⟩ (fun v131 T132 H locs p133 hW hS => ?_)
    obtain ⟨eT132, p133⟩ := p133
    rw [eT132] at hW
    rw [show v131 = 0 from p133]
    refine lv_if_ne (tgt := 90) hx hb dX8_passHour_82 (by decide) (fun c134 => absurd (by decide) c134) (fun c134 => ?_)
    refine lv_aload_n hx hb dX8_passHour_85 rfl (lv_at hl 4 rfl) ?_
    refine lv_aload_n hx hb dX8_passHour_86 rfl (lv_at hl 3 rfl) ?_
    refine pc_Vv (As := [.ref i2]) (rest := []) F (c_X8_makeCut l D cy A T97 h i2 f99 f105 f124 f125) (cwV 1 hts gX8_passHour_X8_makeCut rfl rfl rfl (by decide +kernel) ⟨Nat.le_of_ble_eq_true rfl, Nat.le_of_ble_eq_true rfl⟩) hK hZ hA hW hS f99 (by decide) rfl rfl hl.1 rfl (Nat.le_of_ble_eq_true rfl) dX8_passHour_87 ⟨Nat.le_of_ble_eq_true rfl, Nat.le_of_ble_eq_true rfl⟩ (fun T136 H locs p137 hW hS => ?_)
    obtain ⟨⟨ekT136, erT136, elT136, ejT136⟩, p137⟩ := p137
    have f138 : sK T136 h = 8 := by rw [ekT136]; exact f99
    have f139 : sK T136 i1 = 1 := by rw [ekT136]; exact f100
    have f140 : sK T136 q1 = 0 := by rw [ekT136]; exact f101
    have f141 : sK T136 w1 = 12 := by rw [ekT136]; exact f102
    have f142 : sK T136 q2 = 0 := by rw [ekT136]; exact f103
    have f143 : sK T136 w2 = 12 := by rw [ekT136]; exact f104
    have f144 : sK T136 i2 = 1 := by rw [ekT136]; exact f105
    have f145 : sK T136 q3 = 0 := by rw [ekT136]; exact f106
    have f146 : sK T136 w3 = 12 := by rw [ekT136]; exact f107
    have f147 : sK T136 q4 = 0 := by rw [ekT136]; exact f108
    have f148 : sK T136 w4 = 12 := by rw [ekT136]; exact f109
    have f149 : sL T136 w1 = 32 := by rw [elT136]; exact f110
    have f150 : sL T136 w2 = 32 := by rw [elT136]; exact f111
    have f151 : sL T136 w3 = 32 := by rw [elT136]; exact f112
    have f152 : sL T136 w4 = 32 := by rw [elT136]; exact f113
    have f153 : sR T136 h 0 = some i1 := by rw [erT136]; exact f114
    have f154 : sR T136 h 1 = some i2 := by rw [erT136]; exact f115
    have f155 : sR T136 i1 0 = some q1 := by rw [erT136]; exact f116
    have f156 : sR T136 q1 0 = some w1 := by rw [erT136]; exact f117
    have f157 : sR T136 i1 1 = some q2 := by rw [erT136]; exact f118
    have f158 : sR T136 q2 0 = some w2 := by rw [erT136]; exact f119
    have f159 : sR T136 i2 0 = some q3 := by rw [erT136]; exact f120
    have f160 : sR T136 q3 0 = some w3 := by rw [erT136]; exact f121
    have f161 : sR T136 i2 1 = some q4 := by rw [erT136]; exact f122
    have f162 : sR T136 q4 0 = some w4 := by rw [erT136]; exact f123
    have f163 : ∀ j, sJ T136 w1 j = 0 := fun j => by rw [ejT136]; exact f127 j 
    have f164 : ∀ j, sJ T136 w2 j = 0 := fun j => by rw [ejT136]; exact f128 j 
    have f165 : ∀ j, sJ T136 w3 j = 0 := fun j => by rw [ejT136]; exact f129 j 
    have f166 : ∀ j, sJ T136 w4 j = 0 := fun j => by rw [ejT136]; exact f130 j 
    clear f99 f100 f101 f102 f103 f104 f105 f106 f107 f108 f109 f114 f115 f116 f117 f118 f119 f120 f121 f122 f123 f110 f111 f112 f113 f124 f125 f126 f127 f128 f129 f130
    obtain ⟨y167, p137⟩ := p137
    obtain ⟨y168, p137⟩ := p137
    exact pc_vret (S := T136) hx hb hr hlk hK hZ hA hW hS (⟨⟨ekT136.trans (ekT97), erT136.trans (erT97), elT136.trans (elT97), ejT136.trans (ejT97)⟩, y167, y168, trivial⟩) dX8_passHour_90
set_option maxHeartbeats 4000000 in
set_option maxRecDepth 100000 in
theorem c_X8_step (l : Launch) (D : va_G) (cy : Nat → ClassId) (A : Nat → Prop) (S : St) (h i1 i2 q1 w1 q2 w2 q3 w3 q4 w4 pr : Nat) (a b : Int32) (a_0 : sK S h = 8) (a_1 : sR S h 0 = some i1) (a_2 : sR S h 1 = some i2) (a_5 : sR S h 4 = some pr) (a_10 : sK S i1 = 1) (a_11 : sR S i1 0 = some q1) (a_12 : sK S q1 = 0) (a_13 : sR S q1 0 = some w1) (a_14 : sK S w1 = 12) (a_15 : sL S w1 = 32) (a_16 : ∀ j, sJ S w1 j = 0) (a_17 : sR S i1 1 = some q2) (a_18 : sK S q2 = 0) (a_19 : sR S q2 0 = some w2) (a_20 : sK S w2 = 12) (a_21 : sL S w2 = 32) (a_22 : ∀ j, sJ S w2 j = 0) (a_23 : sI S i1 2 = 0) (a_24 : sI S i1 3 = 300) (a_25 : sI S i1 4 = 0) (a_26 : sI S i1 5 = 0) (a_27 : sI S i1 6 = 0) (a_28 : sI S i1 7 = 0) (a_29 : sI S i1 8 = 0) (a_30 : sI S i1 9 = 0) (a_31 : sK S i2 = 1) (a_32 : sR S i2 0 = some q3) (a_33 : sK S q3 = 0) (a_34 : sR S q3 0 = some w3) (a_35 : sK S w3 = 12) (a_36 : sL S w3 = 32) (a_37 : ∀ j, sJ S w3 j = 0) (a_38 : sR S i2 1 = some q4) (a_39 : sK S q4 = 0) (a_40 : sR S q4 0 = some w4) (a_41 : sK S w4 = 12) (a_42 : sL S w4 = 32) (a_43 : ∀ j, sJ S w4 j = 0) (a_44 : sI S i2 2 = 0) (a_45 : sI S i2 3 = 300) (a_46 : sI S i2 4 = 0) (a_47 : sI S i2 5 = 0) (a_48 : sI S i2 6 = 0) (a_49 : sI S i2 7 = 0) (a_50 : sI S i2 8 = 0) (a_51 : sI S i2 9 = 0) (a_57 : sK S pr = 11) (a_58 : sL S pr = 24) (a_59 : ∀ j, j < 24 → sI S pr j = 10) (a_113 : sI S h 9 = 0) (a_114 : sI S h 10 = 0) (a_115 : sI S h 11 = 200) (a_116 : sI S h 12 = 400) (a_117 : sI S h 13 = 3) (a_118 : sI S h 14 = 2) (a_119 : sI S h 15 = 0) (a_120 : sI S h 16 = 0) (a_121 : sI S h 17 = 0) : MI l yX8_step wsX8_step ({ frames := 4, cells := 0, slots := 0, locals := 129 } : Room) 0 0 D cy A [.ref h, .int a, .int b] S (fun r S1 => (r = 1 ∧ -20 ≤ a.toInt ∧ a.toInt ≤ 40 ∧ 0 ≤ b.toInt ∧ b.toInt ≤ 3) ∨ (r = (-1) ∧ ¬ (-20 ≤ a.toInt ∧ a.toInt ≤ 40 ∧ 0 ≤ b.toInt ∧ b.toInt ≤ 3))) := by
  refine mt_start (cc := cX8_step) (maxL := 4) (ret := (some .int)) (by decide) rfl (Nat.le_of_ble_eq_true rfl) ?_
  intro p e s m args below meth c hx hb hr hlk hml hown hnm hts hK hZ hA hW hS ls hl
  have hl : lv_has ls 4 [(0, .ref h), (1, .int a), (2, .int b)] := hl
  have hown : s.vm.findClass RX8 = some m.cls := hown
  have F : CallFix p m c cX8_step 4 s args wsX8_step RX8 := ⟨hx, hb, hml, hown, hts⟩
  have wi8 : ∀ w ∈ u_ws RX8 TX8 18, w ∈ wsX8_step := by decide +kernel
  refine lv_iload_n hx hb dX8_step_0 rfl (lv_at hl 1 rfl) ?_
  refine pc_Si (As := [.int a]) (rest := []) F (c_X8_isWarmth l D cy A S a ) (va_cwS 1 hts gX8_step_X8_isWarmth rfl rfl rfl (by decide +kernel) ⟨Nat.le_of_ble_eq_true rfl, Nat.le_of_ble_eq_true rfl⟩) hK hZ hA hW hS rfl hl.1 rfl (Nat.le_of_ble_eq_true rfl) dX8_step_1 ⟨Nat.le_of_ble_eq_true rfl, Nat.le_of_ble_eq_true rfl⟩ (fun v1 T2 H locs p3 hW hS => ?_)
  obtain ⟨eT2, p3⟩ := p3
  rw [eT2] at hW
  refine lv_if_eq (tgt := 29) hx hb dX8_step_4 (by decide) (fun c4 => ?_) (fun c4 => ?_)
  · have c4i : Int32.toInt v1 = (0 : Int) := (i3_eq _ _).mp c4
    refine lv_iconst (v := (-1)) hx hb dX8_step_29 (by decide) ?_
    exact pc_iret (v := (-1)) (S := S) hx hb hr hlk hK hZ hA hW hS (Or.inr ⟨rfl, by omega⟩) dX8_step_30
  · have c4i : ¬ (Int32.toInt v1 = (0 : Int)) := fun h9 => c4 ((i3_eq _ _).mpr h9)
    refine lv_iload_n hx hb dX8_step_7 rfl (lv_at hl 2 rfl) ?_
    refine lv_if_lt (tgt := 29) hx hb dX8_step_8 (by decide) (fun c5 => ?_) (fun c5 => ?_)
    · have c5i : Int32.toInt b < (0 : Int) := (i3_lt _ _).mp c5
      refine lv_iconst (v := (-1)) hx hb dX8_step_29 (by decide) ?_
      exact pc_iret (v := (-1)) (S := S) hx hb hr hlk hK hZ hA hW hS (Or.inr ⟨rfl, by omega⟩) dX8_step_30
    · have c5i : ¬ (Int32.toInt b < (0 : Int)) := fun h9 => c5 ((i3_lt _ _).mpr h9)
      refine lv_iload_n hx hb dX8_step_11 rfl (lv_at hl 2 rfl) ?_
      refine lv_aload_n hx hb dX8_step_12 rfl (lv_at hl 0 rfl) ?_
      refine pg_gi (ci := 8) (C := RX8) (T := TX8) (N := 18) hx hb hts wi8 hown hK hW a_0 (by decide) rfl 13 (by decide) (hts (.fieldLink RX8 75 "IceHall" "working" "I") (by decide +kernel)) (fun _ h9 => h9) rfl dX8_step_13 ?_
      rw [show sI S h 13 = 3 from a_117]
      refine lv_icmp_gt (tgt := 29) hx hb dX8_step_16 (by decide) (fun c6 => ?_) (fun c6 => ?_)
      · have c6i : (3 : Int) < Int32.toInt b := (i3_lt _ _).mp c6
        refine lv_iconst (v := (-1)) hx hb dX8_step_29 (by decide) ?_
        exact pc_iret (v := (-1)) (S := S) hx hb hr hlk hK hZ hA hW hS (Or.inr ⟨rfl, by omega⟩) dX8_step_30
      · have c6i : ¬ ((3 : Int) < Int32.toInt b) := fun h9 => c6 ((i3_lt _ _).mpr h9)
        refine lv_aload_n hx hb dX8_step_19 rfl (lv_at hl 0 rfl) ?_
        refine pg_gi (ci := 8) (C := RX8) (T := TX8) (N := 18) hx hb hts wi8 hown hK hW a_0 (by decide) rfl 10 (by decide) (hts (.fieldLink RX8 96 "IceHall" "now" "I") (by decide +kernel)) (fun _ h9 => h9) rfl dX8_step_20 ?_
        rw [show sI S h 10 = 0 from a_114]
        refine lv_sipush (v := 990) hx hb dX8_step_23 (by decide) ?_
        refine lv_icmp_lt (tgt := 31) hx hb dX8_step_26 (by decide) (fun c7 => ?_) (fun c7 => absurd (by decide) c7)
        refine lv_aload_n hx hb dX8_step_31 rfl (lv_at hl 0 rfl) ?_
        refine lv_iload_n hx hb dX8_step_32 rfl (lv_at hl 2 rfl) ?_
        refine pc_Vv (As := [.int b]) (rest := []) F (c_X8_runCompressors l D cy A S h pr b a_0 a_5 a_57 a_58 a_59 a_113 a_114 a_115 a_116 a_117 a_118 a_119 a_120 a_121) (cwV 1 hts gX8_step_X8_runCompressors rfl rfl rfl (by decide +kernel) ⟨Nat.le_of_ble_eq_true rfl, Nat.le_of_ble_eq_true rfl⟩) hK hZ hA hW hS a_0 (by decide) rfl rfl hl.1 rfl (Nat.le_of_ble_eq_true rfl) dX8_step_33 ⟨Nat.le_of_ble_eq_true rfl, Nat.le_of_ble_eq_true rfl⟩ (fun T9 H locs p10 hW hS => ?_)
        obtain ⟨⟨ekT9, erT9, elT9, ejT9⟩, p10⟩ := p10
        have f11 : sK T9 h = 8 := by rw [ekT9]; exact a_0
        have f12 : sK T9 i1 = 1 := by rw [ekT9]; exact a_10
        have f13 : sK T9 q1 = 0 := by rw [ekT9]; exact a_12
        have f14 : sK T9 w1 = 12 := by rw [ekT9]; exact a_14
        have f15 : sK T9 q2 = 0 := by rw [ekT9]; exact a_18
        have f16 : sK T9 w2 = 12 := by rw [ekT9]; exact a_20
        have f17 : sK T9 i2 = 1 := by rw [ekT9]; exact a_31
        have f18 : sK T9 q3 = 0 := by rw [ekT9]; exact a_33
        have f19 : sK T9 w3 = 12 := by rw [ekT9]; exact a_35
        have f20 : sK T9 q4 = 0 := by rw [ekT9]; exact a_39
        have f21 : sK T9 w4 = 12 := by rw [ekT9]; exact a_41
        have f22 : sK T9 pr = 11 := by rw [ekT9]; exact a_57
        have f23 : sL T9 w1 = 32 := by rw [elT9]; exact a_15
        have f24 : sL T9 w2 = 32 := by rw [elT9]; exact a_21
        have f25 : sL T9 w3 = 32 := by rw [elT9]; exact a_36
        have f26 : sL T9 w4 = 32 := by rw [elT9]; exact a_42
        have f27 : sL T9 pr = 24 := by rw [elT9]; exact a_58
        have f28 : sR T9 h 0 = some i1 := by rw [erT9]; exact a_1
        have f29 : sR T9 h 1 = some i2 := by rw [erT9]; exact a_2
        have f30 : sR T9 h 4 = some pr := by rw [erT9]; exact a_5
        have f31 : sR T9 i1 0 = some q1 := by rw [erT9]; exact a_11
        have f32 : sR T9 q1 0 = some w1 := by rw [erT9]; exact a_13
        have f33 : sR T9 i1 1 = some q2 := by rw [erT9]; exact a_17
        have f34 : sR T9 q2 0 = some w2 := by rw [erT9]; exact a_19
        have f35 : sR T9 i2 0 = some q3 := by rw [erT9]; exact a_32
        have f36 : sR T9 q3 0 = some w3 := by rw [erT9]; exact a_34
        have f37 : sR T9 i2 1 = some q4 := by rw [erT9]; exact a_38
        have f38 : sR T9 q4 0 = some w4 := by rw [erT9]; exact a_40
        have f39 : ∀ j, sJ T9 w1 j = 0 := fun j => by rw [ejT9]; exact a_16 j 
        have f40 : ∀ j, sJ T9 w2 j = 0 := fun j => by rw [ejT9]; exact a_22 j 
        have f41 : ∀ j, sJ T9 w3 j = 0 := fun j => by rw [ejT9]; exact a_37 j 
        have f42 : ∀ j, sJ T9 w4 j = 0 := fun j => by rw [ejT9]; exact a_43 j 
        obtain ⟨y43, p10⟩ := p10
        obtain ⟨y44, p10⟩ := p10
        refine lv_iload_n hx hb dX8_step_36 rfl (lv_at hl 1 rfl) ?_
        refine pc_Si (As := [.int a]) (rest := []) F (c_X8_wantOfWarmth l D cy A T9 a ) (va_cwS 1 hts gX8_step_X8_wantOfWarmth rfl rfl rfl (by decide +kernel) ⟨Nat.le_of_ble_eq_true rfl, Nat.le_of_ble_eq_true rfl⟩) hK hZ hA hW hS rfl hl.1 rfl (Nat.le_of_ble_eq_true rfl) dX8_step_37 ⟨Nat.le_of_ble_eq_true rfl, Nat.le_of_ble_eq_true rfl⟩ (fun v45 T46 H locs p47 hW hS => ?_)
        obtain ⟨eT46, p47⟩ := p47
        rw [eT46] at hW
        refine lv_istore_n (lv' := [(3, .int v45), (0, .ref h), (1, .int a), (2, .int b)]) hx hb dX8_step_40 rfl hl (by decide) rfl (fun ls hl => ?_)
        refine lv_aload_n hx hb dX8_step_41 rfl (lv_at hl 1 rfl) ?_
        refine lv_iconst (v := 0) hx hb dX8_step_42 (by decide) ?_
        refine lv_iload_n hx hb dX8_step_43 rfl (lv_at hl 0 rfl) ?_
        refine pc_Vv (As := [.int 0, .int v45]) (rest := []) F (c_X8_passHour l D cy A T9 h i1 i2 q1 w1 q2 w2 q3 w3 q4 w4 0 v45 f11 f28 f29 f12 f31 f13 f32 f14 f23 f39 f33 f15 f34 f16 f24 f40 f17 f35 f18 f36 f19 f25 f41 f37 f20 f38 f21 f26 f42 y43 y44) (cwV 2 hts gX8_step_X8_passHour rfl rfl rfl (by decide +kernel) ⟨Nat.le_of_ble_eq_true rfl, Nat.le_of_ble_eq_true rfl⟩) hK hZ hA hW hS f11 (by decide) rfl rfl hl.1 rfl (Nat.le_of_ble_eq_true rfl) dX8_step_44 ⟨Nat.le_of_ble_eq_true rfl, Nat.le_of_ble_eq_true rfl⟩ (fun T49 H locs p50 hW hS => ?_)
        obtain ⟨⟨ekT49, erT49, elT49, ejT49⟩, p50⟩ := p50
        have f51 : sK T49 h = 8 := by rw [ekT49]; exact f11
        have f52 : sK T49 i1 = 1 := by rw [ekT49]; exact f12
        have f53 : sK T49 q1 = 0 := by rw [ekT49]; exact f13
        have f54 : sK T49 w1 = 12 := by rw [ekT49]; exact f14
        have f55 : sK T49 q2 = 0 := by rw [ekT49]; exact f15
        have f56 : sK T49 w2 = 12 := by rw [ekT49]; exact f16
        have f57 : sK T49 i2 = 1 := by rw [ekT49]; exact f17
        have f58 : sK T49 q3 = 0 := by rw [ekT49]; exact f18
        have f59 : sK T49 w3 = 12 := by rw [ekT49]; exact f19
        have f60 : sK T49 q4 = 0 := by rw [ekT49]; exact f20
        have f61 : sK T49 w4 = 12 := by rw [ekT49]; exact f21
        have f62 : sK T49 pr = 11 := by rw [ekT49]; exact f22
        have f63 : sL T49 w1 = 32 := by rw [elT49]; exact f23
        have f64 : sL T49 w2 = 32 := by rw [elT49]; exact f24
        have f65 : sL T49 w3 = 32 := by rw [elT49]; exact f25
        have f66 : sL T49 w4 = 32 := by rw [elT49]; exact f26
        have f67 : sL T49 pr = 24 := by rw [elT49]; exact f27
        have f68 : sR T49 h 0 = some i1 := by rw [erT49]; exact f28
        have f69 : sR T49 h 1 = some i2 := by rw [erT49]; exact f29
        have f70 : sR T49 h 4 = some pr := by rw [erT49]; exact f30
        have f71 : sR T49 i1 0 = some q1 := by rw [erT49]; exact f31
        have f72 : sR T49 q1 0 = some w1 := by rw [erT49]; exact f32
        have f73 : sR T49 i1 1 = some q2 := by rw [erT49]; exact f33
        have f74 : sR T49 q2 0 = some w2 := by rw [erT49]; exact f34
        have f75 : sR T49 i2 0 = some q3 := by rw [erT49]; exact f35
        have f76 : sR T49 q3 0 = some w3 := by rw [erT49]; exact f36
        have f77 : sR T49 i2 1 = some q4 := by rw [erT49]; exact f37
        have f78 : sR T49 q4 0 = some w4 := by rw [erT49]; exact f38
        have f79 : ∀ j, sJ T49 w1 j = 0 := fun j => by rw [ejT49]; exact f39 j 
        have f80 : ∀ j, sJ T49 w2 j = 0 := fun j => by rw [ejT49]; exact f40 j 
        have f81 : ∀ j, sJ T49 w3 j = 0 := fun j => by rw [ejT49]; exact f41 j 
        have f82 : ∀ j, sJ T49 w4 j = 0 := fun j => by rw [ejT49]; exact f42 j 
        clear f11 f12 f13 f14 f15 f16 f17 f18 f19 f20 f21 f22 f28 f29 f30 f31 f32 f33 f34 f35 f36 f37 f38 f23 f24 f25 f26 f27 y43 y44 f39 f40 f41 f42
        obtain ⟨y83, p50⟩ := p50
        obtain ⟨y84, p50⟩ := p50
        refine lv_aload_n hx hb dX8_step_47 rfl (lv_at hl 1 rfl) ?_
        refine lv_iconst (v := 1) hx hb dX8_step_48 (by decide) ?_
        refine lv_iload_n hx hb dX8_step_49 rfl (lv_at hl 0 rfl) ?_
        refine pc_Vv (As := [.int 1, .int v45]) (rest := []) F (c_X8_passHour l D cy A T49 h i1 i2 q1 w1 q2 w2 q3 w3 q4 w4 1 v45 f51 f68 f69 f52 f71 f53 f72 f54 f63 f79 f73 f55 f74 f56 f64 f80 f57 f75 f58 f76 f59 f65 f81 f77 f60 f78 f61 f66 f82 y83 y84) (cwV 2 hts gX8_step_X8_passHour rfl rfl rfl (by decide +kernel) ⟨Nat.le_of_ble_eq_true rfl, Nat.le_of_ble_eq_true rfl⟩) hK hZ hA hW hS f51 (by decide) rfl rfl hl.1 rfl (Nat.le_of_ble_eq_true rfl) dX8_step_50 ⟨Nat.le_of_ble_eq_true rfl, Nat.le_of_ble_eq_true rfl⟩ (fun T86 H locs p87 hW hS => ?_)
        obtain ⟨⟨ekT86, erT86, elT86, ejT86⟩, p87⟩ := p87
        have f88 : sK T86 h = 8 := by rw [ekT86]; exact f51
        have f89 : sK T86 i1 = 1 := by rw [ekT86]; exact f52
        have f90 : sK T86 q1 = 0 := by rw [ekT86]; exact f53
        have f91 : sK T86 w1 = 12 := by rw [ekT86]; exact f54
        have f92 : sK T86 q2 = 0 := by rw [ekT86]; exact f55
        have f93 : sK T86 w2 = 12 := by rw [ekT86]; exact f56
        have f94 : sK T86 i2 = 1 := by rw [ekT86]; exact f57
        have f95 : sK T86 q3 = 0 := by rw [ekT86]; exact f58
        have f96 : sK T86 w3 = 12 := by rw [ekT86]; exact f59
        have f97 : sK T86 q4 = 0 := by rw [ekT86]; exact f60
        have f98 : sK T86 w4 = 12 := by rw [ekT86]; exact f61
        have f99 : sK T86 pr = 11 := by rw [ekT86]; exact f62
        have f100 : sL T86 w1 = 32 := by rw [elT86]; exact f63
        have f101 : sL T86 w2 = 32 := by rw [elT86]; exact f64
        have f102 : sL T86 w3 = 32 := by rw [elT86]; exact f65
        have f103 : sL T86 w4 = 32 := by rw [elT86]; exact f66
        have f104 : sL T86 pr = 24 := by rw [elT86]; exact f67
        have f105 : sR T86 h 0 = some i1 := by rw [erT86]; exact f68
        have f106 : sR T86 h 1 = some i2 := by rw [erT86]; exact f69
        have f107 : sR T86 h 4 = some pr := by rw [erT86]; exact f70
        have f108 : sR T86 i1 0 = some q1 := by rw [erT86]; exact f71
        have f109 : sR T86 q1 0 = some w1 := by rw [erT86]; exact f72
        have f110 : sR T86 i1 1 = some q2 := by rw [erT86]; exact f73
        have f111 : sR T86 q2 0 = some w2 := by rw [erT86]; exact f74
        have f112 : sR T86 i2 0 = some q3 := by rw [erT86]; exact f75
        have f113 : sR T86 q3 0 = some w3 := by rw [erT86]; exact f76
        have f114 : sR T86 i2 1 = some q4 := by rw [erT86]; exact f77
        have f115 : sR T86 q4 0 = some w4 := by rw [erT86]; exact f78
        have f116 : ∀ j, sJ T86 w1 j = 0 := fun j => by rw [ejT86]; exact f79 j 
        have f117 : ∀ j, sJ T86 w2 j = 0 := fun j => by rw [ejT86]; exact f80 j 
        have f118 : ∀ j, sJ T86 w3 j = 0 := fun j => by rw [ejT86]; exact f81 j 
        have f119 : ∀ j, sJ T86 w4 j = 0 := fun j => by rw [ejT86]; exact f82 j 
        clear f51 f52 f53 f54 f55 f56 f57 f58 f59 f60 f61 f62 f68 f69 f70 f71 f72 f73 f74 f75 f76 f77 f78 f63 f64 f65 f66 f67 y83 y84 f79 f80 f81 f82
        obtain ⟨y120, p87⟩ := p87
        obtain ⟨y121, p87⟩ := p87
        refine lv_aload_n hx hb dX8_step_53 rfl (lv_at hl 1 rfl) ?_
        refine lv_dup hx hb dX8_step_54 rfl ?_
        refine pg_gi (ci := 8) (C := RX8) (T := TX8) (N := 18) hx hb hts wi8 hown hK hW f88 (by decide) rfl 10 (by decide) (hts (.fieldLink RX8 96 "IceHall" "now" "I") (by decide +kernel)) (fun _ h9 => h9) rfl dX8_step_55 ?_
        rw [show sI T86 h 10 = 0 from y121]
        refine lv_iconst (v := 1) hx hb dX8_step_58 (by decide) ?_
        refine lv_iadd hx hb dX8_step_59 ?_
        rw [show (0 + 1 : Int32) = 1 from by decide]
        refine pg_pi (ci := 8) (C := RX8) (T := TX8) (N := 18) hx hb hts wi8 tyX8 tyX8_ok nmX8 hown hK hW hS f88 (by decide) rfl 10 (by decide) (hts (.fieldLink RX8 96 "IceHall" "now" "I") (by decide +kernel)) (fun _ h9 => h9) rfl rfl rfl dX8_step_60 (fun H locs hW hS => ?_)
        have w122 : sI (stI T86 h 10 1) h 9 = 0 := (iI_k (by decide)).trans y120
        have w123 : sI (stI T86 h 10 1) h 10 = 1 := iI_s
        clear y120 y121
        refine lv_aload_n hx hb dX8_step_63 rfl (lv_at hl 1 rfl) ?_
        refine pg_gi (ci := 8) (C := RX8) (T := TX8) (N := 18) hx hb hts wi8 hown hK hW f88 (by decide) rfl 10 (by decide) (hts (.fieldLink RX8 96 "IceHall" "now" "I") (by decide +kernel)) (fun _ h9 => h9) rfl dX8_step_64 ?_
        rw [show sI (stI T86 h 10 1) h 10 = 1 from w123]
        exact pc_iret (v := 1) (S := stI T86 h 10 1) hx hb hr hlk hK hZ hA hW hS (Or.inl ⟨rfl, by omega⟩) dX8_step_67
set_option maxHeartbeats 4000000 in
set_option maxRecDepth 100000 in
theorem c_X8_partOf (l : Launch) (D : va_G) (cy : Nat → ClassId) (A : Nat → Prop) (S : St) (h : Nat) (a b : Int32) (hk : sK S h = 8) : MI l yX8_partOf wsX8_partOf ({ frames := 2, cells := 0, slots := 0, locals := 46 } : Room) 0 0 D cy A [.ref h, .int a, .int b, .int 0] S (fun r S1 => S1 = S ∧ r = (-1)) := by
  refine mt_start (cc := cX8_partOf) (maxL := 10) (ret := (some .int)) (by decide) rfl (Nat.le_of_ble_eq_true rfl) ?_
  intro p e s m args below meth c hx hb hr hlk hml hown hnm hts hK hZ hA hW hS ls hl
  have hl : lv_has ls 10 [(0, .ref h), (1, .int a), (2, .int b), (3, .int 0)] := hl
  have hown : s.vm.findClass RX8 = some m.cls := hown
  have F : CallFix p m c cX8_partOf 10 s args wsX8_partOf RX8 := ⟨hx, hb, hml, hown, hts⟩
  refine lv_iload_n hx hb dX8_partOf_0 rfl (lv_at hl 3 rfl) ?_
  refine lv_if_gt (tgt := 6) hx hb dX8_partOf_1 (by decide) (fun c1 => absurd c1 (by decide)) (fun c1 => ?_)
  refine lv_iconst (v := (-1)) hx hb dX8_partOf_4 (by decide) ?_
  exact pc_iret (v := (-1)) (S := S) hx hb hr hlk hK hZ hA hW hS (⟨rfl, rfl⟩) dX8_partOf_5
set_option maxHeartbeats 4000000 in
set_option maxRecDepth 100000 in
theorem c_X8_part (l : Launch) (D : va_G) (cy : Nat → ClassId) (A : Nat → Prop) (S : St) (h : Nat) (a b : Int32) (a_0 : sK S h = 8) (a_113 : sI S h 9 = 0) (a_114 : sI S h 10 = 0) (a_115 : sI S h 11 = 200) (a_116 : sI S h 12 = 400) (a_117 : sI S h 13 = 3) (a_118 : sI S h 14 = 2) (a_119 : sI S h 15 = 0) (a_120 : sI S h 16 = 0) (a_121 : sI S h 17 = 0) : MI l yX8_part wsX8_part ({ frames := 3, cells := 0, slots := 0, locals := 75 } : Room) 0 0 D cy A [.ref h, .int a, .int b] S (fun r S1 => r = (-1)) := by
  refine mt_start (cc := cX8_part) (maxL := 5) (ret := (some .int)) (by decide) rfl (Nat.le_of_ble_eq_true rfl) ?_
  intro p e s m args below meth c hx hb hr hlk hml hown hnm hts hK hZ hA hW hS ls hl
  have hl : lv_has ls 5 [(0, .ref h), (1, .int a), (2, .int b)] := hl
  have hown : s.vm.findClass RX8 = some m.cls := hown
  have F : CallFix p m c cX8_part 5 s args wsX8_part RX8 := ⟨hx, hb, hml, hown, hts⟩
  refine lv_iload_n hx hb dX8_part_0 rfl (lv_at hl 1 rfl) ?_
  refine lv_bipush (v := 6) hx hb dX8_part_1 (by decide) ?_
  refine pc_Si (As := [.int a, .int 6]) (rest := []) F (c_X8_isBelow l D cy A S a 6 ) (va_cwS 2 hts gX8_part_X8_isBelow rfl rfl rfl (by decide +kernel) ⟨Nat.le_of_ble_eq_true rfl, Nat.le_of_ble_eq_true rfl⟩) hK hZ hA hW hS rfl hl.1 rfl (Nat.le_of_ble_eq_true rfl) dX8_part_3 ⟨Nat.le_of_ble_eq_true rfl, Nat.le_of_ble_eq_true rfl⟩ (fun v1 T2 H locs p3 hW hS => ?_)
  obtain ⟨eT2, p3⟩ := p3
  rw [eT2] at hW
  have p3 := isb_lit (n := 6) rfl p3
  refine lv_if_eq (tgt := 19) hx hb dX8_part_6 (by decide) (fun c4 => ?_) (fun c4 => ?_)
  · have c4i : Int32.toInt v1 = (0 : Int) := (i3_eq _ _).mp c4
    refine lv_iconst (v := (-1)) hx hb dX8_part_19 (by decide) ?_
    exact pc_iret (v := (-1)) (S := S) hx hb hr hlk hK hZ hA hW hS (rfl) dX8_part_20
  · have c4i : ¬ (Int32.toInt v1 = (0 : Int)) := fun h9 => c4 ((i3_eq _ _).mpr h9)
    refine lv_iload_n hx hb dX8_part_9 rfl (lv_at hl 2 rfl) ?_
    refine lv_if_lt (tgt := 19) hx hb dX8_part_10 (by decide) (fun c5 => ?_) (fun c5 => ?_)
    · have c5i : Int32.toInt b < (0 : Int) := (i3_lt _ _).mp c5
      refine lv_iconst (v := (-1)) hx hb dX8_part_19 (by decide) ?_
      exact pc_iret (v := (-1)) (S := S) hx hb hr hlk hK hZ hA hW hS (rfl) dX8_part_20
    · have c5i : ¬ (Int32.toInt b < (0 : Int)) := fun h9 => c5 ((i3_lt _ _).mpr h9)
      refine lv_iload_n hx hb dX8_part_13 rfl (lv_at hl 2 rfl) ?_
      refine lv_ldc (v := (100000)) hx hb hown (hts (.constant RX8 218 (100000)) (by decide +kernel)) dX8_part_14 ?_
      refine lv_icmp_le (tgt := 21) hx hb dX8_part_16 (by decide) (fun c6 => ?_) (fun c6 => ?_)
      · have c6i : Int32.toInt b ≤ (100000 : Int) := (i3_le _ _).mp c6
        refine lv_iconst (v := 0) hx hb dX8_part_21 (by decide) ?_
        refine lv_istore_n (lv' := [(3, .int 0), (0, .ref h), (1, .int a), (2, .int b)]) hx hb dX8_part_22 rfl hl (by decide) rfl (fun ls hl => ?_)
        refine lv_iconst (v := 0) hx hb dX8_part_23 (by decide) ?_
        refine lv_istore (lv' := [(4, .int 0), (3, .int 0), (0, .ref h), (1, .int a), (2, .int b)]) hx hb dX8_part_24 hl (by decide) rfl (fun ls hl => ?_)
        refine lv_iload hx hb dX8_part_26 (lv_at hl 0 rfl) ?_
        refine lv_bipush (v := 6) hx hb dX8_part_28 (by decide) ?_
        refine lv_icmp_ge (tgt := 49) hx hb dX8_part_30 (by decide) (fun c7 => absurd c7 (by decide)) (fun c7 => ?_)
        refine lv_iload_n hx hb dX8_part_33 rfl (lv_at hl 1 rfl) ?_
        refine lv_aload_n hx hb dX8_part_34 rfl (lv_at hl 2 rfl) ?_
        refine lv_iload hx hb dX8_part_35 (lv_at hl 0 rfl) ?_
        refine lv_iconst (v := 1) hx hb dX8_part_37 (by decide) ?_
        refine pc_Vi (As := [.int 0, .int 1]) (rest := [.int 0]) F (c_X8_countInState l D cy A S h 0 1 a_0 a_113) (cwV 2 hts gX8_part_X8_countInState rfl rfl rfl (by decide +kernel) ⟨Nat.le_of_ble_eq_true rfl, Nat.le_of_ble_eq_true rfl⟩) hK hZ hA hW hS a_0 (by decide) rfl rfl hl.1 rfl (Nat.le_of_ble_eq_true rfl) dX8_part_38 ⟨Nat.le_of_ble_eq_true rfl, Nat.le_of_ble_eq_true rfl⟩ (fun v8 T9 H locs p10 hW hS => ?_)
        obtain ⟨eT9, p10⟩ := p10
        rw [eT9] at hW
        rw [show v8 = 0 from p10]
        refine lv_iadd hx hb dX8_part_41 ?_
        rw [show (0 + 0 : Int32) = 0 from by decide]
        refine lv_istore_n (lv' := [(3, .int 0), (4, .int 0), (0, .ref h), (1, .int a), (2, .int b)]) hx hb dX8_part_42 rfl hl (by decide) rfl (fun ls hl => ?_)
        refine lv_iinc (v := 1) (lv' := [(4, .int 1), (3, .int 0), (0, .ref h), (1, .int a), (2, .int b)]) hx hb dX8_part_43 hl (k := 1) rfl (by decide) (by decide) rfl (fun ls hl => ?_)
        refine lv_goto (tgt := 26) hx hb dX8_part_46 (by decide) ?_
        refine lv_iload hx hb dX8_part_26 (lv_at hl 0 rfl) ?_
        refine lv_bipush (v := 6) hx hb dX8_part_28 (by decide) ?_
        refine lv_icmp_ge (tgt := 49) hx hb dX8_part_30 (by decide) (fun c11 => absurd c11 (by decide)) (fun c11 => ?_)
        refine lv_iload_n hx hb dX8_part_33 rfl (lv_at hl 1 rfl) ?_
        refine lv_aload_n hx hb dX8_part_34 rfl (lv_at hl 2 rfl) ?_
        refine lv_iload hx hb dX8_part_35 (lv_at hl 0 rfl) ?_
        refine lv_iconst (v := 1) hx hb dX8_part_37 (by decide) ?_
        refine pc_Vi (As := [.int 1, .int 1]) (rest := [.int 0]) F (c_X8_countInState l D cy A S h 1 1 a_0 a_113) (cwV 2 hts gX8_part_X8_countInState rfl rfl rfl (by decide +kernel) ⟨Nat.le_of_ble_eq_true rfl, Nat.le_of_ble_eq_true rfl⟩) hK hZ hA hW hS a_0 (by decide) rfl rfl hl.1 rfl (Nat.le_of_ble_eq_true rfl) dX8_part_38 ⟨Nat.le_of_ble_eq_true rfl, Nat.le_of_ble_eq_true rfl⟩ (fun v12 T13 H locs p14 hW hS => ?_)
        obtain ⟨eT13, p14⟩ := p14
        rw [eT13] at hW
        rw [show v12 = 0 from p14]
        refine lv_iadd hx hb dX8_part_41 ?_
        rw [show (0 + 0 : Int32) = 0 from by decide]
        refine lv_istore_n (lv' := [(3, .int 0), (4, .int 1), (0, .ref h), (1, .int a), (2, .int b)]) hx hb dX8_part_42 rfl hl (by decide) rfl (fun ls hl => ?_)
        refine lv_iinc (v := 2) (lv' := [(4, .int 2), (3, .int 0), (0, .ref h), (1, .int a), (2, .int b)]) hx hb dX8_part_43 hl (k := 1) rfl (by decide) (by decide) rfl (fun ls hl => ?_)
        refine lv_goto (tgt := 26) hx hb dX8_part_46 (by decide) ?_
        refine lv_iload hx hb dX8_part_26 (lv_at hl 0 rfl) ?_
        refine lv_bipush (v := 6) hx hb dX8_part_28 (by decide) ?_
        refine lv_icmp_ge (tgt := 49) hx hb dX8_part_30 (by decide) (fun c15 => absurd c15 (by decide)) (fun c15 => ?_)
        refine lv_iload_n hx hb dX8_part_33 rfl (lv_at hl 1 rfl) ?_
        refine lv_aload_n hx hb dX8_part_34 rfl (lv_at hl 2 rfl) ?_
        refine lv_iload hx hb dX8_part_35 (lv_at hl 0 rfl) ?_
        refine lv_iconst (v := 1) hx hb dX8_part_37 (by decide) ?_
        refine pc_Vi (As := [.int 2, .int 1]) (rest := [.int 0]) F (c_X8_countInState l D cy A S h 2 1 a_0 a_113) (cwV 2 hts gX8_part_X8_countInState rfl rfl rfl (by decide +kernel) ⟨Nat.le_of_ble_eq_true rfl, Nat.le_of_ble_eq_true rfl⟩) hK hZ hA hW hS a_0 (by decide) rfl rfl hl.1 rfl (Nat.le_of_ble_eq_true rfl) dX8_part_38 ⟨Nat.le_of_ble_eq_true rfl, Nat.le_of_ble_eq_true rfl⟩ (fun v16 T17 H locs p18 hW hS => ?_)
        obtain ⟨eT17, p18⟩ := p18
        rw [eT17] at hW
        rw [show v16 = 0 from p18]
        refine lv_iadd hx hb dX8_part_41 ?_
        rw [show (0 + 0 : Int32) = 0 from by decide]
        refine lv_istore_n (lv' := [(3, .int 0), (4, .int 2), (0, .ref h), (1, .int a), (2, .int b)]) hx hb dX8_part_42 rfl hl (by decide) rfl (fun ls hl => ?_)
        refine lv_iinc (v := 3) (lv' := [(4, .int 3), (3, .int 0), (0, .ref h), (1, .int a), (2, .int b)]) hx hb dX8_part_43 hl (k := 1) rfl (by decide) (by decide) rfl (fun ls hl => ?_)
        refine lv_goto (tgt := 26) hx hb dX8_part_46 (by decide) ?_
        refine lv_iload hx hb dX8_part_26 (lv_at hl 0 rfl) ?_
        refine lv_bipush (v := 6) hx hb dX8_part_28 (by decide) ?_
        refine lv_icmp_ge (tgt := 49) hx hb dX8_part_30 (by decide) (fun c19 => absurd c19 (by decide)) (fun c19 => ?_)
        refine lv_iload_n hx hb dX8_part_33 rfl (lv_at hl 1 rfl) ?_
        refine lv_aload_n hx hb dX8_part_34 rfl (lv_at hl 2 rfl) ?_
        refine lv_iload hx hb dX8_part_35 (lv_at hl 0 rfl) ?_
        refine lv_iconst (v := 1) hx hb dX8_part_37 (by decide) ?_
        refine pc_Vi (As := [.int 3, .int 1]) (rest := [.int 0]) F (c_X8_countInState l D cy A S h 3 1 a_0 a_113) (cwV 2 hts gX8_part_X8_countInState rfl rfl rfl (by decide +kernel) ⟨Nat.le_of_ble_eq_true rfl, Nat.le_of_ble_eq_true rfl⟩) hK hZ hA hW hS a_0 (by decide) rfl rfl hl.1 rfl (Nat.le_of_ble_eq_true rfl) dX8_part_38 ⟨Nat.le_of_ble_eq_true rfl, Nat.le_of_ble_eq_true rfl⟩ (fun v20 T21 H locs p22 hW hS => ?_)
        obtain ⟨eT21, p22⟩ := p22
        rw [eT21] at hW
        rw [show v20 = 0 from p22]
        refine lv_iadd hx hb dX8_part_41 ?_
        rw [show (0 + 0 : Int32) = 0 from by decide]
        refine lv_istore_n (lv' := [(3, .int 0), (4, .int 3), (0, .ref h), (1, .int a), (2, .int b)]) hx hb dX8_part_42 rfl hl (by decide) rfl (fun ls hl => ?_)
        refine lv_iinc (v := 4) (lv' := [(4, .int 4), (3, .int 0), (0, .ref h), (1, .int a), (2, .int b)]) hx hb dX8_part_43 hl (k := 1) rfl (by decide) (by decide) rfl (fun ls hl => ?_)
        refine lv_goto (tgt := 26) hx hb dX8_part_46 (by decide) ?_
        refine lv_iload hx hb dX8_part_26 (lv_at hl 0 rfl) ?_
        refine lv_bipush (v := 6) hx hb dX8_part_28 (by decide) ?_
        refine lv_icmp_ge (tgt := 49) hx hb dX8_part_30 (by decide) (fun c23 => absurd c23 (by decide)) (fun c23 => ?_)
        refine lv_iload_n hx hb dX8_part_33 rfl (lv_at hl 1 rfl) ?_
        refine lv_aload_n hx hb dX8_part_34 rfl (lv_at hl 2 rfl) ?_
        refine lv_iload hx hb dX8_part_35 (lv_at hl 0 rfl) ?_
        refine lv_iconst (v := 1) hx hb dX8_part_37 (by decide) ?_
        refine pc_Vi (As := [.int 4, .int 1]) (rest := [.int 0]) F (c_X8_countInState l D cy A S h 4 1 a_0 a_113) (cwV 2 hts gX8_part_X8_countInState rfl rfl rfl (by decide +kernel) ⟨Nat.le_of_ble_eq_true rfl, Nat.le_of_ble_eq_true rfl⟩) hK hZ hA hW hS a_0 (by decide) rfl rfl hl.1 rfl (Nat.le_of_ble_eq_true rfl) dX8_part_38 ⟨Nat.le_of_ble_eq_true rfl, Nat.le_of_ble_eq_true rfl⟩ (fun v24 T25 H locs p26 hW hS => ?_)
        obtain ⟨eT25, p26⟩ := p26
        rw [eT25] at hW
        rw [show v24 = 0 from p26]
        refine lv_iadd hx hb dX8_part_41 ?_
        rw [show (0 + 0 : Int32) = 0 from by decide]
        refine lv_istore_n (lv' := [(3, .int 0), (4, .int 4), (0, .ref h), (1, .int a), (2, .int b)]) hx hb dX8_part_42 rfl hl (by decide) rfl (fun ls hl => ?_)
        refine lv_iinc (v := 5) (lv' := [(4, .int 5), (3, .int 0), (0, .ref h), (1, .int a), (2, .int b)]) hx hb dX8_part_43 hl (k := 1) rfl (by decide) (by decide) rfl (fun ls hl => ?_)
        refine lv_goto (tgt := 26) hx hb dX8_part_46 (by decide) ?_
        refine lv_iload hx hb dX8_part_26 (lv_at hl 0 rfl) ?_
        refine lv_bipush (v := 6) hx hb dX8_part_28 (by decide) ?_
        refine lv_icmp_ge (tgt := 49) hx hb dX8_part_30 (by decide) (fun c27 => absurd c27 (by decide)) (fun c27 => ?_)
        refine lv_iload_n hx hb dX8_part_33 rfl (lv_at hl 1 rfl) ?_
        refine lv_aload_n hx hb dX8_part_34 rfl (lv_at hl 2 rfl) ?_
        refine lv_iload hx hb dX8_part_35 (lv_at hl 0 rfl) ?_
        refine lv_iconst (v := 1) hx hb dX8_part_37 (by decide) ?_
        refine pc_Vi (As := [.int 5, .int 1]) (rest := [.int 0]) F (c_X8_countInState l D cy A S h 5 1 a_0 a_113) (cwV 2 hts gX8_part_X8_countInState rfl rfl rfl (by decide +kernel) ⟨Nat.le_of_ble_eq_true rfl, Nat.le_of_ble_eq_true rfl⟩) hK hZ hA hW hS a_0 (by decide) rfl rfl hl.1 rfl (Nat.le_of_ble_eq_true rfl) dX8_part_38 ⟨Nat.le_of_ble_eq_true rfl, Nat.le_of_ble_eq_true rfl⟩ (fun v28 T29 H locs p30 hW hS => ?_)
        obtain ⟨eT29, p30⟩ := p30
        rw [eT29] at hW
        rw [show v28 = 0 from p30]
        refine lv_iadd hx hb dX8_part_41 ?_
        rw [show (0 + 0 : Int32) = 0 from by decide]
        refine lv_istore_n (lv' := [(3, .int 0), (4, .int 5), (0, .ref h), (1, .int a), (2, .int b)]) hx hb dX8_part_42 rfl hl (by decide) rfl (fun ls hl => ?_)
        refine lv_iinc (v := 6) (lv' := [(4, .int 6), (3, .int 0), (0, .ref h), (1, .int a), (2, .int b)]) hx hb dX8_part_43 hl (k := 1) rfl (by decide) (by decide) rfl (fun ls hl => ?_)
        refine lv_goto (tgt := 26) hx hb dX8_part_46 (by decide) ?_
        refine lv_iload hx hb dX8_part_26 (lv_at hl 0 rfl) ?_
        refine lv_bipush (v := 6) hx hb dX8_part_28 (by decide) ?_
        refine lv_icmp_ge (tgt := 49) hx hb dX8_part_30 (by decide) (fun c31 => ?_) (fun c31 => absurd (by decide) c31)
        refine lv_aload_n hx hb dX8_part_49 rfl (lv_at hl 2 rfl) ?_
        refine lv_iload_n hx hb dX8_part_50 rfl (lv_at hl 3 rfl) ?_
        refine lv_iload_n hx hb dX8_part_51 rfl (lv_at hl 4 rfl) ?_
        refine lv_iload_n hx hb dX8_part_52 rfl (lv_at hl 1 rfl) ?_
        refine pc_Vi (As := [.int a, .int b, .int 0]) (rest := []) F (c_X8_partOf l D cy A S h a b a_0) (cwV 3 hts gX8_part_X8_partOf rfl rfl rfl (by decide +kernel) ⟨Nat.le_of_ble_eq_true rfl, Nat.le_of_ble_eq_true rfl⟩) hK hZ hA hW hS a_0 (by decide) rfl rfl hl.1 rfl (Nat.le_of_ble_eq_true rfl) dX8_part_53 ⟨Nat.le_of_ble_eq_true rfl, Nat.le_of_ble_eq_true rfl⟩ (fun v32 T33 H locs p34 hW hS => ?_)
        obtain ⟨eT33, p34⟩ := p34
        rw [eT33] at hW
        rw [show v32 = (-1) from p34]
        exact pc_iret (v := (-1)) (S := S) hx hb hr hlk hK hZ hA hW hS (rfl) dX8_part_56
      · have c6i : ¬ (Int32.toInt b ≤ (100000 : Int)) := fun h9 => c6 ((i3_le _ _).mpr h9)
        refine lv_iconst (v := (-1)) hx hb dX8_part_19 (by decide) ?_
        exact pc_iret (v := (-1)) (S := S) hx hb hr hlk hK hZ hA hW hS (rfl) dX8_part_20
set_option maxHeartbeats 4000000 in
set_option maxRecDepth 100000 in
theorem c_X8_sheet (l : Launch) (D : va_G) (cy : Nat → ClassId) (A : Nat → Prop) (S : St) (h i1 i2 q1 w1 q2 w2 q3 w3 q4 w4 : Nat) (a b : Int32) (a_0 : sK S h = 8) (a_1 : sR S h 0 = some i1) (a_2 : sR S h 1 = some i2) (a_10 : sK S i1 = 1) (a_11 : sR S i1 0 = some q1) (a_12 : sK S q1 = 0) (a_13 : sR S q1 0 = some w1) (a_14 : sK S w1 = 12) (a_15 : sL S w1 = 32) (a_16 : ∀ j, sJ S w1 j = 0) (a_17 : sR S i1 1 = some q2) (a_18 : sK S q2 = 0) (a_19 : sR S q2 0 = some w2) (a_20 : sK S w2 = 12) (a_21 : sL S w2 = 32) (a_22 : ∀ j, sJ S w2 j = 0) (a_23 : sI S i1 2 = 0) (a_24 : sI S i1 3 = 300) (a_25 : sI S i1 4 = 0) (a_26 : sI S i1 5 = 0) (a_27 : sI S i1 6 = 0) (a_28 : sI S i1 7 = 0) (a_29 : sI S i1 8 = 0) (a_30 : sI S i1 9 = 0) (a_31 : sK S i2 = 1) (a_32 : sR S i2 0 = some q3) (a_33 : sK S q3 = 0) (a_34 : sR S q3 0 = some w3) (a_35 : sK S w3 = 12) (a_36 : sL S w3 = 32) (a_37 : ∀ j, sJ S w3 j = 0) (a_38 : sR S i2 1 = some q4) (a_39 : sK S q4 = 0) (a_40 : sR S q4 0 = some w4) (a_41 : sK S w4 = 12) (a_42 : sL S w4 = 32) (a_43 : ∀ j, sJ S w4 j = 0) (a_44 : sI S i2 2 = 0) (a_45 : sI S i2 3 = 300) (a_46 : sI S i2 4 = 0) (a_47 : sI S i2 5 = 0) (a_48 : sI S i2 6 = 0) (a_49 : sI S i2 7 = 0) (a_50 : sI S i2 8 = 0) (a_51 : sI S i2 9 = 0) (a_113 : sI S h 9 = 0) (a_114 : sI S h 10 = 0) (a_115 : sI S h 11 = 200) (a_116 : sI S h 12 = 400) (a_117 : sI S h 13 = 3) (a_118 : sI S h 14 = 2) (a_119 : sI S h 15 = 0) (a_120 : sI S h 16 = 0) (a_121 : sI S h 17 = 0) : MI l yX8_sheet wsX8_sheet ({ frames := 1, cells := 0, slots := 0, locals := 21 } : Room) 0 0 D cy A [.ref h, .int a, .int b] S (fun r S1 => (r = 300 ∧ 0 ≤ a.toInt ∧ a.toInt < 2 ∧ b.toInt = 0) ∨ (r = 0 ∧ 0 ≤ a.toInt ∧ a.toInt < 2 ∧ 1 ≤ b.toInt ∧ b.toInt ≤ 5) ∨ (r = (-1) ∧ ¬ (0 ≤ a.toInt ∧ a.toInt < 2 ∧ 0 ≤ b.toInt ∧ b.toInt ≤ 5))) := by
  refine mt_start (cc := cX8_sheet) (maxL := 4) (ret := (some .int)) (by decide) rfl (Nat.le_of_ble_eq_true rfl) ?_
  intro p e s m args below meth c hx hb hr hlk hml hown hnm hts hK hZ hA hW hS ls hl
  have hl : lv_has ls 4 [(0, .ref h), (1, .int a), (2, .int b)] := hl
  have hown : s.vm.findClass RX8 = some m.cls := hown
  have F : CallFix p m c cX8_sheet 4 s args wsX8_sheet RX8 := ⟨hx, hb, hml, hown, hts⟩
  have wi1 : ∀ w ∈ u_ws RX1 TX1 10, w ∈ wsX8_sheet := by decide +kernel
  have wi8 : ∀ w ∈ u_ws RX8 TX8 18, w ∈ wsX8_sheet := by decide +kernel
  refine lv_iload_n hx hb dX8_sheet_0 rfl (lv_at hl 1 rfl) ?_
  refine lv_iconst (v := 2) hx hb dX8_sheet_1 (by decide) ?_
  refine pc_Si (As := [.int a, .int 2]) (rest := []) F (c_X8_isBelow l D cy A S a 2 ) (va_cwS 2 hts gX8_sheet_X8_isBelow rfl rfl rfl (by decide +kernel) ⟨Nat.le_of_ble_eq_true rfl, Nat.le_of_ble_eq_true rfl⟩) hK hZ hA hW hS rfl hl.1 rfl (Nat.le_of_ble_eq_true rfl) dX8_sheet_2 ⟨Nat.le_of_ble_eq_true rfl, Nat.le_of_ble_eq_true rfl⟩ (fun v1 T2 H locs p3 hW hS => ?_)
  obtain ⟨eT2, p3⟩ := p3
  rw [eT2] at hW
  have p3 := isb_lit (n := 2) rfl p3
  refine lv_if_ne (tgt := 10) hx hb dX8_sheet_5 (by decide) (fun c4 => ?_) (fun c4 => ?_)
  · have c4i : ¬ (Int32.toInt v1 = (0 : Int)) := fun h9 => c4 ((i3_eq _ _).mpr h9)
    refine lv_aload_n hx hb dX8_sheet_10 rfl (lv_at hl 0 rfl) ?_
    refine lv_iload_n hx hb dX8_sheet_11 rfl (lv_at hl 1 rfl) ?_
    refine pc_Vq (As := [.int a]) (rest := []) F (c_X8_iceOf l D cy A S h i1 i2 a a_0 a_1 a_2) (cwV 1 hts gX8_sheet_X8_iceOf rfl rfl rfl (by decide +kernel) ⟨Nat.le_of_ble_eq_true rfl, Nat.le_of_ble_eq_true rfl⟩) hK hZ hA hW hS a_0 (by decide) rfl rfl hl.1 rfl (Nat.le_of_ble_eq_true rfl) dX8_sheet_12 ⟨Nat.le_of_ble_eq_true rfl, Nat.le_of_ble_eq_true rfl⟩ (fun v5 T6 H locs p7 hW hS => ?_)
    obtain ⟨eT6, p7⟩ := p7
    rw [eT6] at hW
    by_cases c8 : a = 0
    · rw [show v5 = some i1 from by rw [p7, if_pos c8]]
      refine lv_astore_n (lv' := [(3, .ref i1), (0, .ref h), (1, .int a), (2, .int b)]) hx hb dX8_sheet_15 rfl hl (by decide) rfl (fun ls hl => ?_)
      refine lv_iload_n hx hb dX8_sheet_16 rfl (lv_at hl 3 rfl) ?_
      by_cases c9 : b = 0
      · have c9i : Int32.toInt b = 0 := by rw [c9]; rfl
        refine lv_tableIn (off := 39) (tgt := 56) hx hb dX8_sheet_17 (by rw [c9]; decide) (by rw [c9]; decide) (by rw [c9]; rfl) (by decide) ?_
        refine lv_aload_n hx hb dX8_sheet_56 rfl (lv_at hl 0 rfl) ?_
        refine pg_gi (ci := 1) (C := RX1) (T := TX1) (N := 10) hx hb hts wi1 hown hK hW a_10 (by decide) rfl 3 (by decide) (hts (.fieldLink RX8 240 "IceHall$Ice" "thickness" "I") (by decide +kernel)) (fun _ h9 => h9) rfl dX8_sheet_57 ?_
        rw [show sI S i1 3 = 300 from a_24]
        exact pc_iret (v := 300) (S := S) hx hb hr hlk hK hZ hA hW hS (Or.inl ⟨rfl, by omega⟩) dX8_sheet_60
      by_cases c10 : b = 1
      · have c10i : Int32.toInt b = 1 := by rw [c10]; rfl
        refine lv_tableIn (off := 44) (tgt := 61) hx hb dX8_sheet_17 (by rw [c10]; decide) (by rw [c10]; decide) (by rw [c10]; rfl) (by decide) ?_
        refine lv_aload_n hx hb dX8_sheet_61 rfl (lv_at hl 0 rfl) ?_
        refine pg_gi (ci := 1) (C := RX1) (T := TX1) (N := 10) hx hb hts wi1 hown hK hW a_10 (by decide) rfl 4 (by decide) (hts (.fieldLink RX8 243 "IceHall$Ice" "ruts" "I") (by decide +kernel)) (fun _ h9 => h9) rfl dX8_sheet_62 ?_
        rw [show sI S i1 4 = 0 from a_25]
        exact pc_iret (v := 0) (S := S) hx hb hr hlk hK hZ hA hW hS (Or.inr (Or.inl ⟨rfl, by omega⟩)) dX8_sheet_65
      by_cases c11 : b = 2
      · have c11i : Int32.toInt b = 2 := by rw [c11]; rfl
        refine lv_tableIn (off := 49) (tgt := 66) hx hb dX8_sheet_17 (by rw [c11]; decide) (by rw [c11]; decide) (by rw [c11]; rfl) (by decide) ?_
        refine lv_aload_n hx hb dX8_sheet_66 rfl (lv_at hl 0 rfl) ?_
        refine pg_gi (ci := 1) (C := RX1) (T := TX1) (N := 10) hx hb hts wi1 hown hK hW a_10 (by decide) rfl 5 (by decide) (hts (.fieldLink RX8 246 "IceHall$Ice" "shaved" "I") (by decide +kernel)) (fun _ h9 => h9) rfl dX8_sheet_67 ?_
        rw [show sI S i1 5 = 0 from a_26]
        exact pc_iret (v := 0) (S := S) hx hb hr hlk hK hZ hA hW hS (Or.inr (Or.inl ⟨rfl, by omega⟩)) dX8_sheet_70
      by_cases c12 : b = 3
      · have c12i : Int32.toInt b = 3 := by rw [c12]; rfl
        refine lv_tableIn (off := 54) (tgt := 71) hx hb dX8_sheet_17 (by rw [c12]; decide) (by rw [c12]; decide) (by rw [c12]; rfl) (by decide) ?_
        refine lv_aload_n hx hb dX8_sheet_71 rfl (lv_at hl 0 rfl) ?_
        refine pg_gi (ci := 1) (C := RX1) (T := TX1) (N := 10) hx hb hts wi1 hown hK hW a_10 (by decide) rfl 6 (by decide) (hts (.fieldLink RX8 249 "IceHall$Ice" "flooded" "I") (by decide +kernel)) (fun _ h9 => h9) rfl dX8_sheet_72 ?_
        rw [show sI S i1 6 = 0 from a_27]
        exact pc_iret (v := 0) (S := S) hx hb hr hlk hK hZ hA hW hS (Or.inr (Or.inl ⟨rfl, by omega⟩)) dX8_sheet_75
      by_cases c13 : b = 4
      · have c13i : Int32.toInt b = 4 := by rw [c13]; rfl
        refine lv_tableIn (off := 59) (tgt := 76) hx hb dX8_sheet_17 (by rw [c13]; decide) (by rw [c13]; decide) (by rw [c13]; rfl) (by decide) ?_
        refine lv_aload_n hx hb dX8_sheet_76 rfl (lv_at hl 0 rfl) ?_
        refine pg_gi (ci := 1) (C := RX1) (T := TX1) (N := 10) hx hb hts wi1 hown hK hW a_10 (by decide) rfl 7 (by decide) (hts (.fieldLink RX8 252 "IceHall$Ice" "melted" "I") (by decide +kernel)) (fun _ h9 => h9) rfl dX8_sheet_77 ?_
        rw [show sI S i1 7 = 0 from a_28]
        exact pc_iret (v := 0) (S := S) hx hb hr hlk hK hZ hA hW hS (Or.inr (Or.inl ⟨rfl, by omega⟩)) dX8_sheet_80
      by_cases c14 : b = 5
      · have c14i : Int32.toInt b = 5 := by rw [c14]; rfl
        refine lv_tableIn (off := 64) (tgt := 81) hx hb dX8_sheet_17 (by rw [c14]; decide) (by rw [c14]; decide) (by rw [c14]; rfl) (by decide) ?_
        refine lv_aload_n hx hb dX8_sheet_81 rfl (lv_at hl 0 rfl) ?_
        refine pg_gr (b := q2) (ci := 1) (C := RX1) (T := TX1) (N := 10) hx hb hts wi1 hown hK hW a_10 (by decide) rfl 1 (by decide) (hts (.fieldLink RX8 171 "IceHall$Ice" "closed" "LIceHall$HourSet;") (by decide +kernel)) (fun _ h9 => h9) rfl a_17 dX8_sheet_82 ?_
        refine lv_aload_n hx hb dX8_sheet_85 rfl (lv_at hl 1 rfl) ?_
        refine pg_gi (ci := 8) (C := RX8) (T := TX8) (N := 18) hx hb hts wi8 hown hK hW a_0 (by decide) rfl 10 (by decide) (hts (.fieldLink RX8 96 "IceHall" "now" "I") (by decide +kernel)) (fun _ h9 => h9) rfl dX8_sheet_86 ?_
        rw [show sI S h 10 = 0 from a_114]
        refine pc_Vi (As := [.int 0]) (rest := []) F (c_X0_has l D cy A S q2 w2 0 a_18 a_19 a_20 a_21 a_22) (cwV 1 hts gX8_sheet_X0_has rfl rfl rfl (by decide +kernel) ⟨Nat.le_of_ble_eq_true rfl, Nat.le_of_ble_eq_true rfl⟩) hK hZ hA hW hS a_18 (by decide) rfl rfl hl.1 rfl (Nat.le_of_ble_eq_true rfl) dX8_sheet_89 ⟨Nat.le_of_ble_eq_true rfl, Nat.le_of_ble_eq_true rfl⟩ (fun v15 T16 H locs p17 hW hS => ?_)
        obtain ⟨eT16, p17⟩ := p17
        rw [eT16] at hW
        rw [show v15 = 0 from p17]
        refine lv_if_eq (tgt := 99) hx hb dX8_sheet_92 (by decide) (fun c18 => ?_) (fun c18 => absurd (by decide) c18)
        refine lv_iconst (v := 0) hx hb dX8_sheet_99 (by decide) ?_
        exact pc_iret (v := 0) (S := S) hx hb hr hlk hK hZ hA hW hS (Or.inr (Or.inl ⟨rfl, by omega⟩)) dX8_sheet_100
      have c9i : ¬ Int32.toInt b = 0 := lv_neT c9 rfl
      have c10i : ¬ Int32.toInt b = 1 := lv_neT c10 rfl
      have c11i : ¬ Int32.toInt b = 2 := lv_neT c11 rfl
      have c12i : ¬ Int32.toInt b = 3 := lv_neT c12 rfl
      have c13i : ¬ Int32.toInt b = 4 := lv_neT c13 rfl
      have c14i : ¬ Int32.toInt b = 5 := lv_neT c14 rfl
      refine lv_tableOut (tgt := 101) hx hb dX8_sheet_17 (by have qc9 := lv_neT c9 (a := 0) rfl; have qc10 := lv_neT c10 (a := 1) rfl; have qc11 := lv_neT c11 (a := 2) rfl; have qc12 := lv_neT c12 (a := 3) rfl; have qc13 := lv_neT c13 (a := 4) rfl; have qc14 := lv_neT c14 (a := 5) rfl; omega) (by decide) ?_
      refine lv_iconst (v := (-1)) hx hb dX8_sheet_101 (by decide) ?_
      exact pc_iret (v := (-1)) (S := S) hx hb hr hlk hK hZ hA hW hS (Or.inr (Or.inr ⟨rfl, by omega⟩)) dX8_sheet_102
    · rw [show v5 = some i2 from by rw [p7, if_neg c8]]
      refine lv_astore_n (lv' := [(3, .ref i2), (0, .ref h), (1, .int a), (2, .int b)]) hx hb dX8_sheet_15 rfl hl (by decide) rfl (fun ls hl => ?_)
      refine lv_iload_n hx hb dX8_sheet_16 rfl (lv_at hl 3 rfl) ?_
      by_cases c19 : b = 0
      · have c19i : Int32.toInt b = 0 := by rw [c19]; rfl
        refine lv_tableIn (off := 39) (tgt := 56) hx hb dX8_sheet_17 (by rw [c19]; decide) (by rw [c19]; decide) (by rw [c19]; rfl) (by decide) ?_
        refine lv_aload_n hx hb dX8_sheet_56 rfl (lv_at hl 0 rfl) ?_
        refine pg_gi (ci := 1) (C := RX1) (T := TX1) (N := 10) hx hb hts wi1 hown hK hW a_31 (by decide) rfl 3 (by decide) (hts (.fieldLink RX8 240 "IceHall$Ice" "thickness" "I") (by decide +kernel)) (fun _ h9 => h9) rfl dX8_sheet_57 ?_
        rw [show sI S i2 3 = 300 from a_45]
        exact pc_iret (v := 300) (S := S) hx hb hr hlk hK hZ hA hW hS (Or.inl ⟨rfl, by omega⟩) dX8_sheet_60
      by_cases c20 : b = 1
      · have c20i : Int32.toInt b = 1 := by rw [c20]; rfl
        refine lv_tableIn (off := 44) (tgt := 61) hx hb dX8_sheet_17 (by rw [c20]; decide) (by rw [c20]; decide) (by rw [c20]; rfl) (by decide) ?_
        refine lv_aload_n hx hb dX8_sheet_61 rfl (lv_at hl 0 rfl) ?_
        refine pg_gi (ci := 1) (C := RX1) (T := TX1) (N := 10) hx hb hts wi1 hown hK hW a_31 (by decide) rfl 4 (by decide) (hts (.fieldLink RX8 243 "IceHall$Ice" "ruts" "I") (by decide +kernel)) (fun _ h9 => h9) rfl dX8_sheet_62 ?_
        rw [show sI S i2 4 = 0 from a_46]
        exact pc_iret (v := 0) (S := S) hx hb hr hlk hK hZ hA hW hS (Or.inr (Or.inl ⟨rfl, by omega⟩)) dX8_sheet_65
      by_cases c21 : b = 2
      · have c21i : Int32.toInt b = 2 := by rw [c21]; rfl
        refine lv_tableIn (off := 49) (tgt := 66) hx hb dX8_sheet_17 (by rw [c21]; decide) (by rw [c21]; decide) (by rw [c21]; rfl) (by decide) ?_
        refine lv_aload_n hx hb dX8_sheet_66 rfl (lv_at hl 0 rfl) ?_
        refine pg_gi (ci := 1) (C := RX1) (T := TX1) (N := 10) hx hb hts wi1 hown hK hW a_31 (by decide) rfl 5 (by decide) (hts (.fieldLink RX8 246 "IceHall$Ice" "shaved" "I") (by decide +kernel)) (fun _ h9 => h9) rfl dX8_sheet_67 ?_
        rw [show sI S i2 5 = 0 from a_47]
        exact pc_iret (v := 0) (S := S) hx hb hr hlk hK hZ hA hW hS (Or.inr (Or.inl ⟨rfl, by omega⟩)) dX8_sheet_70
      by_cases c22 : b = 3
      · have c22i : Int32.toInt b = 3 := by rw [c22]; rfl
        refine lv_tableIn (off := 54) (tgt := 71) hx hb dX8_sheet_17 (by rw [c22]; decide) (by rw [c22]; decide) (by rw [c22]; rfl) (by decide) ?_
        refine lv_aload_n hx hb dX8_sheet_71 rfl (lv_at hl 0 rfl) ?_
        refine pg_gi (ci := 1) (C := RX1) (T := TX1) (N := 10) hx hb hts wi1 hown hK hW a_31 (by decide) rfl 6 (by decide) (hts (.fieldLink RX8 249 "IceHall$Ice" "flooded" "I") (by decide +kernel)) (fun _ h9 => h9) rfl dX8_sheet_72 ?_
        rw [show sI S i2 6 = 0 from a_48]
        exact pc_iret (v := 0) (S := S) hx hb hr hlk hK hZ hA hW hS (Or.inr (Or.inl ⟨rfl, by omega⟩)) dX8_sheet_75
      by_cases c23 : b = 4
      · have c23i : Int32.toInt b = 4 := by rw [c23]; rfl
        refine lv_tableIn (off := 59) (tgt := 76) hx hb dX8_sheet_17 (by rw [c23]; decide) (by rw [c23]; decide) (by rw [c23]; rfl) (by decide) ?_
        refine lv_aload_n hx hb dX8_sheet_76 rfl (lv_at hl 0 rfl) ?_
        refine pg_gi (ci := 1) (C := RX1) (T := TX1) (N := 10) hx hb hts wi1 hown hK hW a_31 (by decide) rfl 7 (by decide) (hts (.fieldLink RX8 252 "IceHall$Ice" "melted" "I") (by decide +kernel)) (fun _ h9 => h9) rfl dX8_sheet_77 ?_
        rw [show sI S i2 7 = 0 from a_49]
        exact pc_iret (v := 0) (S := S) hx hb hr hlk hK hZ hA hW hS (Or.inr (Or.inl ⟨rfl, by omega⟩)) dX8_sheet_80
      by_cases c24 : b = 5
      · have c24i : Int32.toInt b = 5 := by rw [c24]; rfl
        refine lv_tableIn (off := 64) (tgt := 81) hx hb dX8_sheet_17 (by rw [c24]; decide) (by rw [c24]; decide) (by rw [c24]; rfl) (by decide) ?_
        refine lv_aload_n hx hb dX8_sheet_81 rfl (lv_at hl 0 rfl) ?_
        refine pg_gr (b := q4) (ci := 1) (C := RX1) (T := TX1) (N := 10) hx hb hts wi1 hown hK hW a_31 (by decide) rfl 1 (by decide) (hts (.fieldLink RX8 171 "IceHall$Ice" "closed" "LIceHall$HourSet;") (by decide +kernel)) (fun _ h9 => h9) rfl a_38 dX8_sheet_82 ?_
        refine lv_aload_n hx hb dX8_sheet_85 rfl (lv_at hl 1 rfl) ?_
        refine pg_gi (ci := 8) (C := RX8) (T := TX8) (N := 18) hx hb hts wi8 hown hK hW a_0 (by decide) rfl 10 (by decide) (hts (.fieldLink RX8 96 "IceHall" "now" "I") (by decide +kernel)) (fun _ h9 => h9) rfl dX8_sheet_86 ?_
        rw [show sI S h 10 = 0 from a_114]
        refine pc_Vi (As := [.int 0]) (rest := []) F (c_X0_has l D cy A S q4 w4 0 a_39 a_40 a_41 a_42 a_43) (cwV 1 hts gX8_sheet_X0_has rfl rfl rfl (by decide +kernel) ⟨Nat.le_of_ble_eq_true rfl, Nat.le_of_ble_eq_true rfl⟩) hK hZ hA hW hS a_39 (by decide) rfl rfl hl.1 rfl (Nat.le_of_ble_eq_true rfl) dX8_sheet_89 ⟨Nat.le_of_ble_eq_true rfl, Nat.le_of_ble_eq_true rfl⟩ (fun v25 T26 H locs p27 hW hS => ?_)
        obtain ⟨eT26, p27⟩ := p27
        rw [eT26] at hW
        rw [show v25 = 0 from p27]
        refine lv_if_eq (tgt := 99) hx hb dX8_sheet_92 (by decide) (fun c28 => ?_) (fun c28 => absurd (by decide) c28)
        refine lv_iconst (v := 0) hx hb dX8_sheet_99 (by decide) ?_
        exact pc_iret (v := 0) (S := S) hx hb hr hlk hK hZ hA hW hS (Or.inr (Or.inl ⟨rfl, by omega⟩)) dX8_sheet_100
      have c19i : ¬ Int32.toInt b = 0 := lv_neT c19 rfl
      have c20i : ¬ Int32.toInt b = 1 := lv_neT c20 rfl
      have c21i : ¬ Int32.toInt b = 2 := lv_neT c21 rfl
      have c22i : ¬ Int32.toInt b = 3 := lv_neT c22 rfl
      have c23i : ¬ Int32.toInt b = 4 := lv_neT c23 rfl
      have c24i : ¬ Int32.toInt b = 5 := lv_neT c24 rfl
      refine lv_tableOut (tgt := 101) hx hb dX8_sheet_17 (by have qc19 := lv_neT c19 (a := 0) rfl; have qc20 := lv_neT c20 (a := 1) rfl; have qc21 := lv_neT c21 (a := 2) rfl; have qc22 := lv_neT c22 (a := 3) rfl; have qc23 := lv_neT c23 (a := 4) rfl; have qc24 := lv_neT c24 (a := 5) rfl; omega) (by decide) ?_
      refine lv_iconst (v := (-1)) hx hb dX8_sheet_101 (by decide) ?_
      exact pc_iret (v := (-1)) (S := S) hx hb hr hlk hK hZ hA hW hS (Or.inr (Or.inr ⟨rfl, by omega⟩)) dX8_sheet_102
  · have c4i : Int32.toInt v1 = (0 : Int) := (i3_eq _ _).mp c4
    refine lv_iconst (v := (-1)) hx hb dX8_sheet_8 (by decide) ?_
    exact pc_iret (v := (-1)) (S := S) hx hb hr hlk hK hZ hA hW hS (Or.inr (Or.inr ⟨rfl, by omega⟩)) dX8_sheet_9
set_option maxHeartbeats 4000000 in
set_option maxRecDepth 100000 in
theorem c_X8_club (l : Launch) (D : va_G) (cy : Nat → ClassId) (A : Nat → Prop) (S : St) (h : Nat) (a b : Int32) (a_0 : sK S h = 8) (a_113 : sI S h 9 = 0) (a_114 : sI S h 10 = 0) (a_115 : sI S h 11 = 200) (a_116 : sI S h 12 = 400) (a_117 : sI S h 13 = 3) (a_118 : sI S h 14 = 2) (a_119 : sI S h 15 = 0) (a_120 : sI S h 16 = 0) (a_121 : sI S h 17 = 0) : MI l yX8_club wsX8_club ({ frames := 2, cells := 0, slots := 0, locals := 46 } : Room) 0 0 D cy A [.ref h, .int a, .int b] S (fun r S1 => (r = 0 ∧ 0 ≤ a.toInt ∧ a.toInt < 6 ∧ 0 ≤ b.toInt ∧ b.toInt ≤ 3) ∨ (r = (-1) ∧ ¬ (0 ≤ a.toInt ∧ a.toInt < 6 ∧ 0 ≤ b.toInt ∧ b.toInt ≤ 3))) := by
  refine mt_start (cc := cX8_club) (maxL := 3) (ret := (some .int)) (by decide) rfl (Nat.le_of_ble_eq_true rfl) ?_
  intro p e s m args below meth c hx hb hr hlk hml hown hnm hts hK hZ hA hW hS ls hl
  have hl : lv_has ls 3 [(0, .ref h), (1, .int a), (2, .int b)] := hl
  have hown : s.vm.findClass RX8 = some m.cls := hown
  have F : CallFix p m c cX8_club 3 s args wsX8_club RX8 := ⟨hx, hb, hml, hown, hts⟩
  refine lv_iload_n hx hb dX8_club_0 rfl (lv_at hl 1 rfl) ?_
  refine lv_bipush (v := 6) hx hb dX8_club_1 (by decide) ?_
  refine pc_Si (As := [.int a, .int 6]) (rest := []) F (c_X8_isBelow l D cy A S a 6 ) (va_cwS 2 hts gX8_club_X8_isBelow rfl rfl rfl (by decide +kernel) ⟨Nat.le_of_ble_eq_true rfl, Nat.le_of_ble_eq_true rfl⟩) hK hZ hA hW hS rfl hl.1 rfl (Nat.le_of_ble_eq_true rfl) dX8_club_3 ⟨Nat.le_of_ble_eq_true rfl, Nat.le_of_ble_eq_true rfl⟩ (fun v1 T2 H locs p3 hW hS => ?_)
  obtain ⟨eT2, p3⟩ := p3
  rw [eT2] at hW
  have p3 := isb_lit (n := 6) rfl p3
  refine lv_if_ne (tgt := 11) hx hb dX8_club_6 (by decide) (fun c4 => ?_) (fun c4 => ?_)
  · have c4i : ¬ (Int32.toInt v1 = (0 : Int)) := fun h9 => c4 ((i3_eq _ _).mpr h9)
    refine lv_iload_n hx hb dX8_club_11 rfl (lv_at hl 2 rfl) ?_
    by_cases c5 : b = 0
    · have c5i : Int32.toInt b = 0 := by rw [c5]; rfl
      refine lv_tableIn (off := 32) (tgt := 44) hx hb dX8_club_12 (by rw [c5]; decide) (by rw [c5]; decide) (by rw [c5]; rfl) (by decide) ?_
      refine lv_aload_n hx hb dX8_club_44 rfl (lv_at hl 0 rfl) ?_
      refine lv_iload_n hx hb dX8_club_45 rfl (lv_at hl 1 rfl) ?_
      refine lv_iconst (v := 1) hx hb dX8_club_46 (by decide) ?_
      refine pc_Vi (As := [.int a, .int 1]) (rest := []) F (c_X8_countInState l D cy A S h a 1 a_0 a_113) (cwV 2 hts gX8_club_X8_countInState rfl rfl rfl (by decide +kernel) ⟨Nat.le_of_ble_eq_true rfl, Nat.le_of_ble_eq_true rfl⟩) hK hZ hA hW hS a_0 (by decide) rfl rfl hl.1 rfl (Nat.le_of_ble_eq_true rfl) dX8_club_47 ⟨Nat.le_of_ble_eq_true rfl, Nat.le_of_ble_eq_true rfl⟩ (fun v6 T7 H locs p8 hW hS => ?_)
      obtain ⟨eT7, p8⟩ := p8
      rw [eT7] at hW
      rw [show v6 = 0 from p8]
      exact pc_iret (v := 0) (S := S) hx hb hr hlk hK hZ hA hW hS (Or.inl ⟨rfl, by omega⟩) dX8_club_50
    by_cases c9 : b = 1
    · have c9i : Int32.toInt b = 1 := by rw [c9]; rfl
      refine lv_tableIn (off := 39) (tgt := 51) hx hb dX8_club_12 (by rw [c9]; decide) (by rw [c9]; decide) (by rw [c9]; rfl) (by decide) ?_
      refine lv_aload_n hx hb dX8_club_51 rfl (lv_at hl 0 rfl) ?_
      refine lv_iload_n hx hb dX8_club_52 rfl (lv_at hl 1 rfl) ?_
      refine lv_iconst (v := 2) hx hb dX8_club_53 (by decide) ?_
      refine pc_Vi (As := [.int a, .int 2]) (rest := []) F (c_X8_countInState l D cy A S h a 2 a_0 a_113) (cwV 2 hts gX8_club_X8_countInState rfl rfl rfl (by decide +kernel) ⟨Nat.le_of_ble_eq_true rfl, Nat.le_of_ble_eq_true rfl⟩) hK hZ hA hW hS a_0 (by decide) rfl rfl hl.1 rfl (Nat.le_of_ble_eq_true rfl) dX8_club_54 ⟨Nat.le_of_ble_eq_true rfl, Nat.le_of_ble_eq_true rfl⟩ (fun v10 T11 H locs p12 hW hS => ?_)
      obtain ⟨eT11, p12⟩ := p12
      rw [eT11] at hW
      rw [show v10 = 0 from p12]
      exact pc_iret (v := 0) (S := S) hx hb hr hlk hK hZ hA hW hS (Or.inl ⟨rfl, by omega⟩) dX8_club_57
    by_cases c13 : b = 2
    · have c13i : Int32.toInt b = 2 := by rw [c13]; rfl
      refine lv_tableIn (off := 46) (tgt := 58) hx hb dX8_club_12 (by rw [c13]; decide) (by rw [c13]; decide) (by rw [c13]; rfl) (by decide) ?_
      refine lv_aload_n hx hb dX8_club_58 rfl (lv_at hl 0 rfl) ?_
      refine lv_iload_n hx hb dX8_club_59 rfl (lv_at hl 1 rfl) ?_
      refine lv_iconst (v := 0) hx hb dX8_club_60 (by decide) ?_
      refine pc_Vi (As := [.int a, .int 0]) (rest := []) F (c_X8_countInState l D cy A S h a 0 a_0 a_113) (cwV 2 hts gX8_club_X8_countInState rfl rfl rfl (by decide +kernel) ⟨Nat.le_of_ble_eq_true rfl, Nat.le_of_ble_eq_true rfl⟩) hK hZ hA hW hS a_0 (by decide) rfl rfl hl.1 rfl (Nat.le_of_ble_eq_true rfl) dX8_club_61 ⟨Nat.le_of_ble_eq_true rfl, Nat.le_of_ble_eq_true rfl⟩ (fun v14 T15 H locs p16 hW hS => ?_)
      obtain ⟨eT15, p16⟩ := p16
      rw [eT15] at hW
      rw [show v14 = 0 from p16]
      exact pc_iret (v := 0) (S := S) hx hb hr hlk hK hZ hA hW hS (Or.inl ⟨rfl, by omega⟩) dX8_club_64
    by_cases c17 : b = 3
    · have c17i : Int32.toInt b = 3 := by rw [c17]; rfl
      refine lv_tableIn (off := 53) (tgt := 65) hx hb dX8_club_12 (by rw [c17]; decide) (by rw [c17]; decide) (by rw [c17]; rfl) (by decide) ?_
      refine lv_aload_n hx hb dX8_club_65 rfl (lv_at hl 0 rfl) ?_
      refine lv_iload_n hx hb dX8_club_66 rfl (lv_at hl 1 rfl) ?_
      refine pc_Vi (As := [.int a]) (rest := []) F (c_X8_owedBy l D cy A S h a a_0 a_113) (cwV 1 hts gX8_club_X8_owedBy rfl rfl rfl (by decide +kernel) ⟨Nat.le_of_ble_eq_true rfl, Nat.le_of_ble_eq_true rfl⟩) hK hZ hA hW hS a_0 (by decide) rfl rfl hl.1 rfl (Nat.le_of_ble_eq_true rfl) dX8_club_67 ⟨Nat.le_of_ble_eq_true rfl, Nat.le_of_ble_eq_true rfl⟩ (fun v18 T19 H locs p20 hW hS => ?_)
      obtain ⟨eT19, p20⟩ := p20
      rw [eT19] at hW
      rw [show v18 = 0 from p20]
      exact pc_iret (v := 0) (S := S) hx hb hr hlk hK hZ hA hW hS (Or.inl ⟨rfl, by omega⟩) dX8_club_70
    have c5i : ¬ Int32.toInt b = 0 := lv_neT c5 rfl
    have c9i : ¬ Int32.toInt b = 1 := lv_neT c9 rfl
    have c13i : ¬ Int32.toInt b = 2 := lv_neT c13 rfl
    have c17i : ¬ Int32.toInt b = 3 := lv_neT c17 rfl
    refine lv_tableOut (tgt := 71) hx hb dX8_club_12 (by have qc5 := lv_neT c5 (a := 0) rfl; have qc9 := lv_neT c9 (a := 1) rfl; have qc13 := lv_neT c13 (a := 2) rfl; have qc17 := lv_neT c17 (a := 3) rfl; omega) (by decide) ?_
    refine lv_iconst (v := (-1)) hx hb dX8_club_71 (by decide) ?_
    exact pc_iret (v := (-1)) (S := S) hx hb hr hlk hK hZ hA hW hS (Or.inr ⟨rfl, by omega⟩) dX8_club_72
  · have c4i : Int32.toInt v1 = (0 : Int) := (i3_eq _ _).mp c4
    refine lv_iconst (v := (-1)) hx hb dX8_club_9 (by decide) ?_
    exact pc_iret (v := (-1)) (S := S) hx hb hr hlk hK hZ hA hW hS (Or.inr ⟨rfl, by omega⟩) dX8_club_10
set_option maxHeartbeats 4000000 in
set_option maxRecDepth 100000 in
theorem c_X8_count (l : Launch) (D : va_G) (cy : Nat → ClassId) (A : Nat → Prop) (S : St) (h tp pr : Nat) (a : Int32) (a_0 : sK S h = 8) (a_5 : sR S h 4 = some pr) (a_6 : sR S h 5 = some tp) (a_57 : sK S pr = 11) (a_58 : sL S pr = 24) (a_59 : ∀ j, j < 24 → sI S pr j = 10) (a_60 : sK S tp = 7) (a_64 : sI S tp 1 = 0) (a_113 : sI S h 9 = 0) (a_114 : sI S h 10 = 0) (a_115 : sI S h 11 = 200) (a_116 : sI S h 12 = 400) (a_117 : sI S h 13 = 3) (a_118 : sI S h 14 = 2) (a_119 : sI S h 15 = 0) (a_120 : sI S h 16 = 0) (a_121 : sI S h 17 = 0) : MI l yX8_count wsX8_count ({ frames := 0, cells := 0, slots := 0, locals := 0 } : Room) 0 0 D cy A [.ref h, .int a] S (fun r S1 => cnt_ a r) := by
  refine mt_start (cc := cX8_count) (maxL := 2) (ret := (some .int)) (by decide) rfl (Nat.le_of_ble_eq_true rfl) ?_
  intro p e s m args below meth c hx hb hr hlk hml hown hnm hts hK hZ hA hW hS ls hl
  have hl : lv_has ls 2 [(0, .ref h), (1, .int a)] := hl
  have hown : s.vm.findClass RX8 = some m.cls := hown
  have F : CallFix p m c cX8_count 2 s args wsX8_count RX8 := ⟨hx, hb, hml, hown, hts⟩
  have wi7 : ∀ w ∈ u_ws RX7 TX7 2, w ∈ wsX8_count := by decide +kernel
  have wi8 : ∀ w ∈ u_ws RX8 TX8 18, w ∈ wsX8_count := by decide +kernel
  refine lv_iload_n hx hb dX8_count_0 rfl (lv_at hl 1 rfl) ?_
  by_cases c1 : a = 0
  · have c1i : Int32.toInt a = 0 := by rw [c1]; rfl
    refine lv_tableIn (off := 55) (tgt := 56) hx hb dX8_count_1 (by rw [c1]; decide) (by rw [c1]; decide) (by rw [c1]; rfl) (by decide) ?_
    refine lv_aload_n hx hb dX8_count_56 rfl (lv_at hl 0 rfl) ?_
    refine pg_gi (ci := 8) (C := RX8) (T := TX8) (N := 18) hx hb hts wi8 hown hK hW a_0 (by decide) rfl 10 (by decide) (hts (.fieldLink RX8 96 "IceHall" "now" "I") (by decide +kernel)) (fun _ h9 => h9) rfl dX8_count_57 ?_
    rw [show sI S h 10 = 0 from a_114]
    exact pc_iret (v := 0) (S := S) hx hb hr hlk hK hZ hA hW hS (cnt_0 (by omega)) dX8_count_60
  by_cases c2 : a = 1
  · have c2i : Int32.toInt a = 1 := by rw [c2]; rfl
    refine lv_tableIn (off := 60) (tgt := 61) hx hb dX8_count_1 (by rw [c2]; decide) (by rw [c2]; decide) (by rw [c2]; rfl) (by decide) ?_
    refine lv_aload_n hx hb dX8_count_61 rfl (lv_at hl 0 rfl) ?_
    refine pg_gi (ci := 8) (C := RX8) (T := TX8) (N := 18) hx hb hts wi8 hown hK hW a_0 (by decide) rfl 11 (by decide) (hts (.fieldLink RX8 68 "IceHall" "store" "I") (by decide +kernel)) (fun _ h9 => h9) rfl dX8_count_62 ?_
    rw [show sI S h 11 = 200 from a_115]
    exact pc_iret (v := 200) (S := S) hx hb hr hlk hK hZ hA hW hS (cnt_1 (by omega)) dX8_count_65
  by_cases c3 : a = 2
  · have c3i : Int32.toInt a = 2 := by rw [c3]; rfl
    refine lv_tableIn (off := 65) (tgt := 66) hx hb dX8_count_1 (by rw [c3]; decide) (by rw [c3]; decide) (by rw [c3]; rfl) (by decide) ?_
    refine lv_aload_n hx hb dX8_count_66 rfl (lv_at hl 0 rfl) ?_
    refine pg_gi (ci := 8) (C := RX8) (T := TX8) (N := 18) hx hb hts wi8 hown hK hW a_0 (by decide) rfl 15 (by decide) (hts (.fieldLink RX8 261 "IceHall" "spilt" "I") (by decide +kernel)) (fun _ h9 => h9) rfl dX8_count_67 ?_
    rw [show sI S h 15 = 0 from a_119]
    exact pc_iret (v := 0) (S := S) hx hb hr hlk hK hZ hA hW hS (cnt_2 (by omega)) dX8_count_70
  by_cases c4 : a = 3
  · have c4i : Int32.toInt a = 3 := by rw [c4]; rfl
    refine lv_tableIn (off := 70) (tgt := 71) hx hb dX8_count_1 (by rw [c4]; decide) (by rw [c4]; decide) (by rw [c4]; rfl) (by decide) ?_
    refine lv_aload_n hx hb dX8_count_71 rfl (lv_at hl 0 rfl) ?_
    refine pg_gi (ci := 8) (C := RX8) (T := TX8) (N := 18) hx hb hts wi8 hown hK hW a_0 (by decide) rfl 16 (by decide) (hts (.fieldLink RX8 264 "IceHall" "cost" "I") (by decide +kernel)) (fun _ h9 => h9) rfl dX8_count_72 ?_
    rw [show sI S h 16 = 0 from a_120]
    exact pc_iret (v := 0) (S := S) hx hb hr hlk hK hZ hA hW hS (cnt_3 (by omega)) dX8_count_75
  by_cases c5 : a = 4
  · have c5i : Int32.toInt a = 4 := by rw [c5]; rfl
    refine lv_tableIn (off := 75) (tgt := 76) hx hb dX8_count_1 (by rw [c5]; decide) (by rw [c5]; decide) (by rw [c5]; rfl) (by decide) ?_
    refine lv_aload_n hx hb dX8_count_76 rfl (lv_at hl 0 rfl) ?_
    refine pg_gi (ci := 8) (C := RX8) (T := TX8) (N := 18) hx hb hts wi8 hown hK hW a_0 (by decide) rfl 17 (by decide) (hts (.fieldLink RX8 267 "IceHall" "waste" "I") (by decide +kernel)) (fun _ h9 => h9) rfl dX8_count_77 ?_
    rw [show sI S h 17 = 0 from a_121]
    exact pc_iret (v := 0) (S := S) hx hb hr hlk hK hZ hA hW hS (cnt_4 (by omega)) dX8_count_80
  by_cases c6 : a = 5
  · have c6i : Int32.toInt a = 5 := by rw [c6]; rfl
    refine lv_tableIn (off := 80) (tgt := 81) hx hb dX8_count_1 (by rw [c6]; decide) (by rw [c6]; decide) (by rw [c6]; rfl) (by decide) ?_
    refine lv_aload_n hx hb dX8_count_81 rfl (lv_at hl 0 rfl) ?_
    refine pg_gi (ci := 8) (C := RX8) (T := TX8) (N := 18) hx hb hts wi8 hown hK hW a_0 (by decide) rfl 9 (by decide) (hts (.fieldLink RX8 99 "IceHall" "everBooked" "I") (by decide +kernel)) (fun _ h9 => h9) rfl dX8_count_82 ?_
    rw [show sI S h 9 = 0 from a_113]
    exact pc_iret (v := 0) (S := S) hx hb hr hlk hK hZ hA hW hS (cnt_5 (by omega)) dX8_count_85
  by_cases c7 : a = 6
  · have c7i : Int32.toInt a = 6 := by rw [c7]; rfl
    refine lv_tableIn (off := 85) (tgt := 86) hx hb dX8_count_1 (by rw [c7]; decide) (by rw [c7]; decide) (by rw [c7]; rfl) (by decide) ?_
    refine lv_aload_n hx hb dX8_count_86 rfl (lv_at hl 0 rfl) ?_
    refine pg_gi (ci := 8) (C := RX8) (T := TX8) (N := 18) hx hb hts wi8 hown hK hW a_0 (by decide) rfl 12 (by decide) (hts (.fieldLink RX8 72 "IceHall" "storeMost" "I") (by decide +kernel)) (fun _ h9 => h9) rfl dX8_count_87 ?_
    rw [show sI S h 12 = 400 from a_116]
    exact pc_iret (v := 400) (S := S) hx hb hr hlk hK hZ hA hW hS (cnt_6 (by omega)) dX8_count_90
  by_cases c8 : a = 7
  · have c8i : Int32.toInt a = 7 := by rw [c8]; rfl
    refine lv_tableIn (off := 90) (tgt := 91) hx hb dX8_count_1 (by rw [c8]; decide) (by rw [c8]; decide) (by rw [c8]; rfl) (by decide) ?_
    refine lv_aload_n hx hb dX8_count_91 rfl (lv_at hl 0 rfl) ?_
    refine pg_gi (ci := 8) (C := RX8) (T := TX8) (N := 18) hx hb hts wi8 hown hK hW a_0 (by decide) rfl 13 (by decide) (hts (.fieldLink RX8 75 "IceHall" "working" "I") (by decide +kernel)) (fun _ h9 => h9) rfl dX8_count_92 ?_
    rw [show sI S h 13 = 3 from a_117]
    exact pc_iret (v := 3) (S := S) hx hb hr hlk hK hZ hA hW hS (cnt_7 (by omega)) dX8_count_95
  by_cases c9 : a = 8
  · have c9i : Int32.toInt a = 8 := by rw [c9]; rfl
    refine lv_tableIn (off := 95) (tgt := 96) hx hb dX8_count_1 (by rw [c9]; decide) (by rw [c9]; decide) (by rw [c9]; rfl) (by decide) ?_
    refine lv_aload_n hx hb dX8_count_96 rfl (lv_at hl 0 rfl) ?_
    refine pg_gi (ci := 8) (C := RX8) (T := TX8) (N := 18) hx hb hts wi8 hown hK hW a_0 (by decide) rfl 14 (by decide) (hts (.fieldLink RX8 78 "IceHall" "restMost" "I") (by decide +kernel)) (fun _ h9 => h9) rfl dX8_count_97 ?_
    rw [show sI S h 14 = 2 from a_118]
    exact pc_iret (v := 2) (S := S) hx hb hr hlk hK hZ hA hW hS (cnt_8 (by omega)) dX8_count_100
  by_cases c10 : a = 9
  · have c10i : Int32.toInt a = 9 := by rw [c10]; rfl
    refine lv_tableIn (off := 100) (tgt := 101) hx hb dX8_count_1 (by rw [c10]; decide) (by rw [c10]; decide) (by rw [c10]; rfl) (by decide) ?_
    refine lv_aload_n hx hb dX8_count_101 rfl (lv_at hl 0 rfl) ?_
    refine pg_gr (b := tp) (ci := 8) (C := RX8) (T := TX8) (N := 18) hx hb hts wi8 hown hK hW a_0 (by decide) rfl 5 (by decide) (hts (.fieldLink RX8 39 "IceHall" "tape" "LIceHall$Tape;") (by decide +kernel)) (fun _ h9 => h9) rfl a_6 dX8_count_102 ?_
    refine pg_gi (ci := 7) (C := RX7) (T := TX7) (N := 2) hx hb hts wi7 hown hK hW a_60 (by decide) rfl 1 (by decide) (hts (.fieldLink RX8 81 "IceHall$Tape" "size" "I") (by decide +kernel)) (fun _ h9 => h9) rfl dX8_count_105 ?_
    rw [show sI S tp 1 = 0 from a_64]
    exact pc_iret (v := 0) (S := S) hx hb hr hlk hK hZ hA hW hS (cnt_9 (by omega)) dX8_count_108
  have c1i : ¬ Int32.toInt a = 0 := lv_neT c1 rfl
  have c2i : ¬ Int32.toInt a = 1 := lv_neT c2 rfl
  have c3i : ¬ Int32.toInt a = 2 := lv_neT c3 rfl
  have c4i : ¬ Int32.toInt a = 3 := lv_neT c4 rfl
  have c5i : ¬ Int32.toInt a = 4 := lv_neT c5 rfl
  have c6i : ¬ Int32.toInt a = 5 := lv_neT c6 rfl
  have c7i : ¬ Int32.toInt a = 6 := lv_neT c7 rfl
  have c8i : ¬ Int32.toInt a = 7 := lv_neT c8 rfl
  have c9i : ¬ Int32.toInt a = 8 := lv_neT c9 rfl
  have c10i : ¬ Int32.toInt a = 9 := lv_neT c10 rfl
  refine lv_tableOut (tgt := 109) hx hb dX8_count_1 (by have qc1 := lv_neT c1 (a := 0) rfl; have qc2 := lv_neT c2 (a := 1) rfl; have qc3 := lv_neT c3 (a := 2) rfl; have qc4 := lv_neT c4 (a := 3) rfl; have qc5 := lv_neT c5 (a := 4) rfl; have qc6 := lv_neT c6 (a := 5) rfl; have qc7 := lv_neT c7 (a := 6) rfl; have qc8 := lv_neT c8 (a := 7) rfl; have qc9 := lv_neT c9 (a := 8) rfl; have qc10 := lv_neT c10 (a := 9) rfl; omega) (by decide) ?_
  refine lv_iload_n hx hb dX8_count_109 rfl (lv_at hl 1 rfl) ?_
  refine lv_bipush (v := 10) hx hb dX8_count_110 (by decide) ?_
  refine lv_icmp_lt (tgt := 133) hx hb dX8_count_112 (by decide) (fun c11 => ?_) (fun c11 => ?_)
  · have c11i : Int32.toInt a < (10 : Int) := (i3_lt _ _).mp c11
    refine lv_iconst (v := (-1)) hx hb dX8_count_133 (by decide) ?_
    exact pc_iret (v := (-1)) (S := S) hx hb hr hlk hK hZ hA hW hS (cnt_n (by omega)) dX8_count_134
  · have c11i : ¬ (Int32.toInt a < (10 : Int)) := fun h9 => c11 ((i3_lt _ _).mpr h9)
    refine lv_iload_n hx hb dX8_count_115 rfl (lv_at hl 1 rfl) ?_
    refine lv_bipush (v := 34) hx hb dX8_count_116 (by decide) ?_
    refine lv_icmp_ge (tgt := 133) hx hb dX8_count_118 (by decide) (fun c12 => ?_) (fun c12 => ?_)
    · have c12i : (34 : Int) ≤ Int32.toInt a := (i3_le _ _).mp c12
      refine lv_iconst (v := (-1)) hx hb dX8_count_133 (by decide) ?_
      exact pc_iret (v := (-1)) (S := S) hx hb hr hlk hK hZ hA hW hS (cnt_n (by omega)) dX8_count_134
    · have c12i : ¬ ((34 : Int) ≤ Int32.toInt a) := fun h9 => c12 ((i3_le _ _).mpr h9)
      refine lv_aload_n hx hb dX8_count_121 rfl (lv_at hl 0 rfl) ?_
      refine pg_gr (b := pr) (ci := 8) (C := RX8) (T := TX8) (N := 18) hx hb hts wi8 hown hK hW a_0 (by decide) rfl 4 (by decide) (hts (.fieldLink RX8 32 "IceHall" "prices" "[I") (by decide +kernel)) (fun _ h9 => h9) rfl a_5 dX8_count_122 ?_
      refine lv_iload_n hx hb dX8_count_125 rfl (lv_at hl 1 rfl) ?_
      refine lv_bipush (v := 10) hx hb dX8_count_126 (by decide) ?_
      refine lv_isub hx hb dX8_count_128 ?_
      have hsub : (a - 10).toInt = a.toInt - 10 := i3_sub rfl rfl (by omega) (by omega)
      refine pg_iald hx hb hK hW a_57 (by rw [show sL S pr = 24 from a_58]; exact r_in (by omega)) dX8_count_129 ?_
      rw [show sI S pr (Int32.toNatClampNeg (a - 10)) = 10 from a_59 _ (cl_lt (by omega) (by omega))]
      refine lv_goto (tgt := 134) hx hb dX8_count_130 (by decide) ?_
      exact pc_iret (v := 10) (S := S) hx hb hr hlk hK hZ hA hW hS (cnt_10 (by omega) (by omega)) dX8_count_134
