set_option maxHeartbeats 4000000 in
set_option maxRecDepth 100000 in
theorem c_X9_init (l : Launch) (D : va_G) (cy : Nat → ClassId) (A : Nat → Prop) (S : St) (h : Nat) (hk : sK S h = 9) (z1 : sI S h 1 = 0) (z2 : sI S h 2 = 0) (z3 : sI S h 3 = 0) (z4 : sI S h 4 = 0) (z11 : sI S h 11 = 0) (z12 : sI S h 12 = 0) (z13 : sI S h 13 = 0) (z14 : sI S h 14 = 0) (z15 : sI S h 15 = 0) (z16 : sI S h 16 = 0) (z17 : sI S h 17 = 0) (z18 : sI S h 18 = 0) (z19 : sI S h 19 = 0) (z20 : sI S h 20 = 0) (z21 : sI S h 21 = 0) (z22 : sI S h 22 = 0) (z23 : sI S h 23 = 0) (z24 : sI S h 24 = 0) (z25 : sI S h 25 = 0) (z35 : sI S h 35 = 0) (z36 : sI S h 36 = 0) (z53 : sI S h 53 = 0) (z54 : sI S h 54 = 0) (z55 : sI S h 55 = 0) (z60 : sI S h 60 = 0) : MV l yX9_init wsX9_init ({ frames := 1, cells := 38, slots := 2050, locals := 60 } : Room) 38 2050 D cy A [.ref h] S (fun S1 => Kx [h] S S1 ∧ ∃ m_tape, 16 ≤ sK S m_tape ∧ ∃ m_clocks, 16 ≤ sK S m_clocks ∧ ∃ m_daysOf, 16 ≤ sK S m_daysOf ∧ ∃ m_kinds, 16 ≤ sK S m_kinds ∧ ∃ m_limit, 16 ≤ sK S m_limit ∧ ∃ m_fee, 16 ≤ sK S m_fee ∧ ∃ m_hundredths, 16 ≤ sK S m_hundredths ∧ ∃ m_priceOf, 16 ≤ sK S m_priceOf ∧ ∃ m_thick, 16 ≤ sK S m_thick ∧ ∃ m_ruts, 16 ≤ sK S m_ruts ∧ ∃ m_shaved, 16 ≤ sK S m_shaved ∧ ∃ m_flooded, 16 ≤ sK S m_flooded ∧ ∃ m_melted, 16 ≤ sK S m_melted ∧ ∃ m_cutShave, 16 ≤ sK S m_cutShave ∧ ∃ m_cutFlood, 16 ≤ sK S m_cutFlood ∧ ∃ m_hasCut, 16 ≤ sK S m_hasCut ∧ ∃ m_clubOf, 16 ≤ sK S m_clubOf ∧ ∃ m_kindOf, 16 ≤ sK S m_kindOf ∧ ∃ m_sheetOf, 16 ≤ sK S m_sheetOf ∧ ∃ m_hourOf, 16 ≤ sK S m_hourOf ∧ ∃ m_state, 16 ≤ sK S m_state ∧ ∃ m_why, 16 ≤ sK S m_why ∧ ∃ m_feeOf, 16 ≤ sK S m_feeOf ∧ ∃ m_partOf, 16 ≤ sK S m_partOf ∧ ∃ m_moved, 16 ≤ sK S m_moved ∧ ∃ m_closedSheet, 16 ≤ sK S m_closedSheet ∧ ∃ m_closedFrom, 16 ≤ sK S m_closedFrom ∧ ∃ m_closedTo, 16 ≤ sK S m_closedTo ∧ ∃ m_out, 16 ≤ sK S m_out ∧ ∃ m_way, 16 ≤ sK S m_way ∧ ∃ m_best, 16 ≤ sK S m_best ∧ ∃ m_wayHour, 16 ≤ sK S m_wayHour ∧ ∃ m_wants, 16 ≤ sK S m_wants ∧ ∃ m_row, 16 ≤ sK S m_row ∧ ∃ m_bestRow, 16 ≤ sK S m_bestRow ∧ ∃ m_told, 16 ≤ sK S m_told ∧ ∃ m_share, 16 ≤ sK S m_share ∧ ∃ m_over, 16 ≤ sK S m_over ∧ sK S1 h = 9 ∧ sR S1 h 0 = some m_tape ∧ sK S1 m_tape = 10 ∧ sL S1 m_tape = 80 ∧ sR S1 h 5 = some m_clocks ∧ sK S1 m_clocks = 11 ∧ sL S1 m_clocks = 6 ∧ sR S1 h 6 = some m_daysOf ∧ sK S1 m_daysOf = 11 ∧ sL S1 m_daysOf = 6 ∧ sR S1 h 7 = some m_kinds ∧ sK S1 m_kinds = 11 ∧ sL S1 m_kinds = 6 ∧ sR S1 h 8 = some m_limit ∧ sK S1 m_limit = 11 ∧ sL S1 m_limit = 6 ∧ sR S1 h 9 = some m_fee ∧ sK S1 m_fee = 11 ∧ sL S1 m_fee = 6 ∧ sR S1 h 10 = some m_hundredths ∧ sK S1 m_hundredths = 11 ∧ sL S1 m_hundredths = 6 ∧ sR S1 h 26 = some m_priceOf ∧ sK S1 m_priceOf = 11 ∧ sL S1 m_priceOf = 24 ∧ sR S1 h 27 = some m_thick ∧ sK S1 m_thick = 11 ∧ sL S1 m_thick = 2 ∧ sR S1 h 28 = some m_ruts ∧ sK S1 m_ruts = 11 ∧ sL S1 m_ruts = 2 ∧ sR S1 h 29 = some m_shaved ∧ sK S1 m_shaved = 11 ∧ sL S1 m_shaved = 2 ∧ sR S1 h 30 = some m_flooded ∧ sK S1 m_flooded = 11 ∧ sL S1 m_flooded = 2 ∧ sR S1 h 31 = some m_melted ∧ sK S1 m_melted = 11 ∧ sL S1 m_melted = 2 ∧ sR S1 h 32 = some m_cutShave ∧ sK S1 m_cutShave = 11 ∧ sL S1 m_cutShave = 2 ∧ sR S1 h 33 = some m_cutFlood ∧ sK S1 m_cutFlood = 11 ∧ sL S1 m_cutFlood = 2 ∧ sR S1 h 34 = some m_hasCut ∧ sK S1 m_hasCut = 13 ∧ sL S1 m_hasCut = 2 ∧ sR S1 h 37 = some m_clubOf ∧ sK S1 m_clubOf = 11 ∧ sL S1 m_clubOf = 200 ∧ sR S1 h 38 = some m_kindOf ∧ sK S1 m_kindOf = 11 ∧ sL S1 m_kindOf = 200 ∧ sR S1 h 39 = some m_sheetOf ∧ sK S1 m_sheetOf = 11 ∧ sL S1 m_sheetOf = 200 ∧ sR S1 h 40 = some m_hourOf ∧ sK S1 m_hourOf = 11 ∧ sL S1 m_hourOf = 200 ∧ sR S1 h 41 = some m_state ∧ sK S1 m_state = 11 ∧ sL S1 m_state = 200 ∧ sR S1 h 42 = some m_why ∧ sK S1 m_why = 11 ∧ sL S1 m_why = 200 ∧ sR S1 h 43 = some m_feeOf ∧ sK S1 m_feeOf = 11 ∧ sL S1 m_feeOf = 200 ∧ sR S1 h 44 = some m_partOf ∧ sK S1 m_partOf = 11 ∧ sL S1 m_partOf = 200 ∧ sR S1 h 45 = some m_moved ∧ sK S1 m_moved = 11 ∧ sL S1 m_moved = 200 ∧ sR S1 h 46 = some m_closedSheet ∧ sK S1 m_closedSheet = 11 ∧ sL S1 m_closedSheet = 10 ∧ sR S1 h 47 = some m_closedFrom ∧ sK S1 m_closedFrom = 11 ∧ sL S1 m_closedFrom = 10 ∧ sR S1 h 48 = some m_closedTo ∧ sK S1 m_closedTo = 11 ∧ sL S1 m_closedTo = 10 ∧ sR S1 h 49 = some m_out ∧ sK S1 m_out = 11 ∧ sL S1 m_out = 5 ∧ sR S1 h 50 = some m_way ∧ sK S1 m_way = 11 ∧ sL S1 m_way = 5 ∧ sR S1 h 51 = some m_best ∧ sK S1 m_best = 11 ∧ sL S1 m_best = 5 ∧ sR S1 h 52 = some m_wayHour ∧ sK S1 m_wayHour = 11 ∧ sL S1 m_wayHour = 5 ∧ sR S1 h 56 = some m_wants ∧ sK S1 m_wants = 11 ∧ sL S1 m_wants = 8 ∧ sR S1 h 57 = some m_row ∧ sK S1 m_row = 11 ∧ sL S1 m_row = 8 ∧ sR S1 h 58 = some m_bestRow ∧ sK S1 m_bestRow = 11 ∧ sL S1 m_bestRow = 8 ∧ sR S1 h 59 = some m_told ∧ sK S1 m_told = 11 ∧ sL S1 m_told = 8 ∧ sR S1 h 61 = some m_share ∧ sK S1 m_share = 11 ∧ sL S1 m_share = 6 ∧ sR S1 h 62 = some m_over ∧ sK S1 m_over = 12 ∧ sL S1 m_over = 6 ∧ (∀ j, j < 2 → sI S1 m_ruts j = 0) ∧ (∀ j, j < 2 → sI S1 m_shaved j = 0) ∧ (∀ j, j < 2 → sI S1 m_flooded j = 0) ∧ (∀ j, j < 2 → sI S1 m_melted j = 0) ∧ (∀ j, j < 2 → sI S1 m_cutShave j = 0) ∧ (∀ j, j < 2 → sI S1 m_cutFlood j = 0) ∧ (∀ j, j < 2 → sI S1 m_hasCut j = 0) ∧ (∀ j, j < 2 → sI S1 m_thick j = 300) ∧ (∀ j, j < 24 → sI S1 m_priceOf j = 10) ∧ (∀ j, j < 6 → sI S1 m_clocks j = 16777215) ∧ (∀ j, j < 6 → sI S1 m_daysOf j = 127) ∧ (∀ j, j < 6 → sI S1 m_kinds j = 15) ∧ (∀ j, j < 6 → sI S1 m_limit j = 168) ∧ (∀ j, j < 6 → sI S1 m_fee j = 100) ∧ (∀ j, j < 6 → sI S1 m_hundredths j = 50) ∧ sI S1 h 1 = 0 ∧ sI S1 h 2 = 0 ∧ sI S1 h 3 = 0 ∧ sI S1 h 4 = 0 ∧ sI S1 h 11 = 0 ∧ sI S1 h 12 = 0 ∧ sI S1 h 13 = 0 ∧ sI S1 h 14 = 0 ∧ sI S1 h 15 = 0 ∧ sI S1 h 16 = 0 ∧ sI S1 h 17 = 0 ∧ sI S1 h 18 = 0 ∧ sI S1 h 19 = 200 ∧ sI S1 h 20 = 0 ∧ sI S1 h 21 = 0 ∧ sI S1 h 22 = 0 ∧ sI S1 h 23 = 400 ∧ sI S1 h 24 = 3 ∧ sI S1 h 25 = 2 ∧ sI S1 h 35 = 0 ∧ sI S1 h 36 = 0 ∧ sI S1 h 53 = 0 ∧ sI S1 h 54 = 0 ∧ sI S1 h 55 = 0 ∧ sI S1 h 60 = 0 ∧ Ap m_wants m_row ∧ Ap m_wants m_bestRow ∧ Ap m_row m_bestRow ∧ Ap m_priceOf m_wants ∧ Ap m_priceOf m_row ∧ Ap m_priceOf m_bestRow) := by
  refine mt_start (cc := cX9_init) (maxL := 2) (ret := none) (by decide) rfl (Nat.le_of_ble_eq_true rfl) ?_
  intro p e s m args below meth c hx hb hr hlk hml hown hnm hts hK hZ hA hW hS ls hl
  have hl : lv_has ls 2 [(0, .ref h)] := hl
  have hown : s.vm.findClass RX9 = some m.cls := hown
  have F : CallFix p m c cX9_init 2 s args wsX9_init RX9 := ⟨hx, hb, hml, hown, hts⟩
  have wi9 : ∀ w ∈ u_ws RX9 TX9 63, w ∈ wsX9_init := by decide +kernel
  have hX : Kx [h] S S := Kx.rf _ S
  refine lv_aload_n hx hb dX9_init_0 rfl (lv_at hl 0 rfl) ?_
  refine W.objInit hx hb hown (hts (.methodLink RX9 1 objectInit) (by decide +kernel)) (hts (.instanceMethod objectInit) (by decide +kernel)) (hts (.code objectInit ⟨#[0xb1]⟩ 1 none) (by decide +kernel)) rfl (by rw [hml]; exact hl.1) rfl dX9_init_1 (Nat.le_of_ble_eq_true rfl) (Nat.le_of_ble_eq_true rfl) ?_
  refine W.eq (g2 := F0 m 4 ls []) rfl ?_
  refine lv_aload_n hx hb dX9_init_4 rfl (lv_at hl 0 rfl) ?_
  refine lv_bipush (v := 80) hx hb dX9_init_5 (by decide) ?_
  refine pg_newa (atype := .byte) (ty := .byte) (kd := 10) (t0 := 0) (N' := 80) hx hb (hts (.arrayClass .byte) (by decide +kernel)) rfl rfl (Or.inr (Or.inl rfl)) (by decide) hK hW hS hA (fun _ => rfl) (by decide) (by decide) (Nat.le_of_ble_eq_true rfl) (Nat.le_of_ble_eq_true rfl) (Nat.le_of_ble_eq_true rfl) dX9_init_7 (fun q1 H hq1 hW hS => ?_)
  have f3 : Ap h q1 := ap_k hk hq1 (by decide)
  have o4 : 16 ≤ sK S q1 := hX.old hq1 (ni_c (ap_s f3) ni_0)
  have hX : Kx [h] S (stN S q1 10 80) := hX.N hq1
  obtain ⟨S2, eS2⟩ : ∃ T : St, T = stN S q1 10 80 := ⟨_, rfl⟩
  rw [← eS2] at hW hX
  obtain ⟨k5, d6⟩ := fk_N (a := h) eS2 hk (by decide) hq1
  have w7 : sI S2 h 1 = 0 := by rw [eS2, iN, if_neg d6]; exact z1
  have w8 : sI S2 h 2 = 0 := by rw [eS2, iN, if_neg d6]; exact z2
  have w9 : sI S2 h 3 = 0 := by rw [eS2, iN, if_neg d6]; exact z3
  have w10 : sI S2 h 4 = 0 := by rw [eS2, iN, if_neg d6]; exact z4
  have w11 : sI S2 h 11 = 0 := by rw [eS2, iN, if_neg d6]; exact z11
  have w12 : sI S2 h 12 = 0 := by rw [eS2, iN, if_neg d6]; exact z12
  have w13 : sI S2 h 13 = 0 := by rw [eS2, iN, if_neg d6]; exact z13
  have w14 : sI S2 h 14 = 0 := by rw [eS2, iN, if_neg d6]; exact z14
  have w15 : sI S2 h 15 = 0 := by rw [eS2, iN, if_neg d6]; exact z15
  have w16 : sI S2 h 16 = 0 := by rw [eS2, iN, if_neg d6]; exact z16
  have w17 : sI S2 h 17 = 0 := by rw [eS2, iN, if_neg d6]; exact z17
  have w18 : sI S2 h 18 = 0 := by rw [eS2, iN, if_neg d6]; exact z18
  have w19 : sI S2 h 19 = 0 := by rw [eS2, iN, if_neg d6]; exact z19
  have w20 : sI S2 h 20 = 0 := by rw [eS2, iN, if_neg d6]; exact z20
  have w21 : sI S2 h 21 = 0 := by rw [eS2, iN, if_neg d6]; exact z21
  have w22 : sI S2 h 22 = 0 := by rw [eS2, iN, if_neg d6]; exact z22
  have w23 : sI S2 h 23 = 0 := by rw [eS2, iN, if_neg d6]; exact z23
  have w24 : sI S2 h 24 = 0 := by rw [eS2, iN, if_neg d6]; exact z24
  have w25 : sI S2 h 25 = 0 := by rw [eS2, iN, if_neg d6]; exact z25
  have w26 : sI S2 h 35 = 0 := by rw [eS2, iN, if_neg d6]; exact z35
  have w27 : sI S2 h 36 = 0 := by rw [eS2, iN, if_neg d6]; exact z36
  have w28 : sI S2 h 53 = 0 := by rw [eS2, iN, if_neg d6]; exact z53
  have w29 : sI S2 h 54 = 0 := by rw [eS2, iN, if_neg d6]; exact z54
  have w30 : sI S2 h 55 = 0 := by rw [eS2, iN, if_neg d6]; exact z55
  have w31 : sI S2 h 60 = 0 := by rw [eS2, iN, if_neg d6]; exact z60
  have k32 : sK S2 q1 = 10 := by rw [eS2, kN, if_pos rfl]
  have n33 : sL S2 q1 = 80 := by rw [eS2, lNw, if_pos rfl]
  refine pg_pr (ci := 9) (C := RX9) (T := TX9) (N := 63) hx hb hts wi9 tyX9 tyX9_ok nmX9 hown hK hW hS k5 (by decide) rfl 0 (by decide) (hts (.fieldLink RX9 7 "IceHallModel" "tape" "[B") (by decide +kernel)) (fun _ h9 => h9) rfl hnm rfl rfl rfl rfl dX9_init_9 (fun H locs hW hS => ?_)
  have hX : Kx [h] S (stR S2 h 0 (some q1)) := hX.Rh List.mem_cons_self
  obtain ⟨S34, eS34⟩ : ∃ T : St, T = stR S2 h 0 (some q1) := ⟨_, rfl⟩
  rw [← eS34] at hW hX
  have k35 : sK S34 h = 9 := by rw [eS34]; exact k5
  have k36 : sK S34 q1 = 10 := by rw [eS34]; exact k32
  have n37 : sL S34 q1 = 80 := by rw [eS34]; exact n33
  have w38 : sI S34 h 1 = 0 := by rw [eS34]; exact w7
  have w39 : sI S34 h 2 = 0 := by rw [eS34]; exact w8
  have w40 : sI S34 h 3 = 0 := by rw [eS34]; exact w9
  have w41 : sI S34 h 4 = 0 := by rw [eS34]; exact w10
  have w42 : sI S34 h 11 = 0 := by rw [eS34]; exact w11
  have w43 : sI S34 h 12 = 0 := by rw [eS34]; exact w12
  have w44 : sI S34 h 13 = 0 := by rw [eS34]; exact w13
  have w45 : sI S34 h 14 = 0 := by rw [eS34]; exact w14
  have w46 : sI S34 h 15 = 0 := by rw [eS34]; exact w15
  have w47 : sI S34 h 16 = 0 := by rw [eS34]; exact w16
  have w48 : sI S34 h 17 = 0 := by rw [eS34]; exact w17
  have w49 : sI S34 h 18 = 0 := by rw [eS34]; exact w18
  have w50 : sI S34 h 19 = 0 := by rw [eS34]; exact w19
  have w51 : sI S34 h 20 = 0 := by rw [eS34]; exact w20
  have w52 : sI S34 h 21 = 0 := by rw [eS34]; exact w21
  have w53 : sI S34 h 22 = 0 := by rw [eS34]; exact w22
  have w54 : sI S34 h 23 = 0 := by rw [eS34]; exact w23
  have w55 : sI S34 h 24 = 0 := by rw [eS34]; exact w24
  have w56 : sI S34 h 25 = 0 := by rw [eS34]; exact w25
  have w57 : sI S34 h 35 = 0 := by rw [eS34]; exact w26
  have w58 : sI S34 h 36 = 0 := by rw [eS34]; exact w27
  have w59 : sI S34 h 53 = 0 := by rw [eS34]; exact w28
  have w60 : sI S34 h 54 = 0 := by rw [eS34]; exact w29
  have w61 : sI S34 h 55 = 0 := by rw [eS34]; exact w30
  have w62 : sI S34 h 60 = 0 := by rw [eS34]; exact w31
  have r63 : sR S34 h 0 = some q1 := by rw [eS34, rR, if_pos rfl, if_pos rfl]
  clear k5 k32 n33 w7 w8 w9 w10 w11 w12 w13 w14 w15 w16 w17 w18 w19 w20 w21 w22 w23 w24 w25 w26 w27 w28 w29 w30 w31
  refine lv_aload_n hx hb dX9_init_12 rfl (lv_at hl 0 rfl) ?_
  refine lv_bipush (v := 6) hx hb dX9_init_13 (by decide) ?_
  refine pg_newa (atype := .int) (ty := .int) (kd := 11) (t0 := 1) (N' := 6) hx hb (hts (.arrayClass .int) (by decide +kernel)) rfl rfl (Or.inl rfl) (by decide) hK hW hS hA (fun _ => rfl) (by decide) (by decide) (Nat.le_of_ble_eq_true rfl) (Nat.le_of_ble_eq_true rfl) (Nat.le_of_ble_eq_true rfl) dX9_init_15 (fun q64 H hq64 hW hS => ?_)
  have f66 : Ap h q64 := ap_k k35 hq64 (by decide)
  have o67 : 16 ≤ sK S q64 := hX.old hq64 (ni_c (ap_s f66) ni_0)
  have hX : Kx [h] S (stN S34 q64 11 6) := hX.N hq64
  obtain ⟨S65, eS65⟩ : ∃ T : St, T = stN S34 q64 11 6 := ⟨_, rfl⟩
  rw [← eS65] at hW hX
  obtain ⟨k68, d69⟩ := fk_N (a := h) eS65 k35 (by decide) hq64
  obtain ⟨k70, d71⟩ := fk_N (a := q1) eS65 k36 (by decide) hq64
  have r72 : sR S65 h 0 = some q1 := by rw [eS65, rN, if_neg d69]; exact r63
  have n73 : sL S65 q1 = 80 := by rw [eS65, lNw, if_neg d71]; exact n37
  have w74 : sI S65 h 1 = 0 := by rw [eS65, iN, if_neg d69]; exact w38
  have w75 : sI S65 h 2 = 0 := by rw [eS65, iN, if_neg d69]; exact w39
  have w76 : sI S65 h 3 = 0 := by rw [eS65, iN, if_neg d69]; exact w40
  have w77 : sI S65 h 4 = 0 := by rw [eS65, iN, if_neg d69]; exact w41
  have w78 : sI S65 h 11 = 0 := by rw [eS65, iN, if_neg d69]; exact w42
  have w79 : sI S65 h 12 = 0 := by rw [eS65, iN, if_neg d69]; exact w43
  have w80 : sI S65 h 13 = 0 := by rw [eS65, iN, if_neg d69]; exact w44
  have w81 : sI S65 h 14 = 0 := by rw [eS65, iN, if_neg d69]; exact w45
  have w82 : sI S65 h 15 = 0 := by rw [eS65, iN, if_neg d69]; exact w46
  have w83 : sI S65 h 16 = 0 := by rw [eS65, iN, if_neg d69]; exact w47
  have w84 : sI S65 h 17 = 0 := by rw [eS65, iN, if_neg d69]; exact w48
  have w85 : sI S65 h 18 = 0 := by rw [eS65, iN, if_neg d69]; exact w49
  have w86 : sI S65 h 19 = 0 := by rw [eS65, iN, if_neg d69]; exact w50
  have w87 : sI S65 h 20 = 0 := by rw [eS65, iN, if_neg d69]; exact w51
  have w88 : sI S65 h 21 = 0 := by rw [eS65, iN, if_neg d69]; exact w52
  have w89 : sI S65 h 22 = 0 := by rw [eS65, iN, if_neg d69]; exact w53
  have w90 : sI S65 h 23 = 0 := by rw [eS65, iN, if_neg d69]; exact w54
  have w91 : sI S65 h 24 = 0 := by rw [eS65, iN, if_neg d69]; exact w55
  have w92 : sI S65 h 25 = 0 := by rw [eS65, iN, if_neg d69]; exact w56
  have w93 : sI S65 h 35 = 0 := by rw [eS65, iN, if_neg d69]; exact w57
  have w94 : sI S65 h 36 = 0 := by rw [eS65, iN, if_neg d69]; exact w58
  have w95 : sI S65 h 53 = 0 := by rw [eS65, iN, if_neg d69]; exact w59
  have w96 : sI S65 h 54 = 0 := by rw [eS65, iN, if_neg d69]; exact w60
  have w97 : sI S65 h 55 = 0 := by rw [eS65, iN, if_neg d69]; exact w61
  have w98 : sI S65 h 60 = 0 := by rw [eS65, iN, if_neg d69]; exact w62
  have k99 : sK S65 q64 = 11 := by rw [eS65, kN, if_pos rfl]
  have n100 : sL S65 q64 = 6 := by rw [eS65, lNw, if_pos rfl]
  clear k35 k36 r63 n37 w38 w39 w40 w41 w42 w43 w44 w45 w46 w47 w48 w49 w50 w51 w52 w53 w54 w55 w56 w57 w58 w59 w60 w61 w62
  refine pg_pr (ci := 9) (C := RX9) (T := TX9) (N := 63) hx hb hts wi9 tyX9 tyX9_ok nmX9 hown hK hW hS k68 (by decide) rfl 5 (by decide) (hts (.fieldLink RX9 13 "IceHallModel" "clocks" "[I") (by decide +kernel)) (fun _ h9 => h9) rfl hnm rfl rfl rfl rfl dX9_init_17 (fun H locs hW hS => ?_)
  have hX : Kx [h] S (stR S65 h 5 (some q64)) := hX.Rh List.mem_cons_self
  obtain ⟨S101, eS101⟩ : ∃ T : St, T = stR S65 h 5 (some q64) := ⟨_, rfl⟩
  rw [← eS101] at hW hX
  have k102 : sK S101 h = 9 := by rw [eS101]; exact k68
  have k103 : sK S101 q1 = 10 := by rw [eS101]; exact k70
  have k104 : sK S101 q64 = 11 := by rw [eS101]; exact k99
  have r105 : sR S101 h 0 = some q1 := by rw [eS101, rR, if_pos rfl, if_neg (by decide)]; exact r72
  have n106 : sL S101 q1 = 80 := by rw [eS101]; exact n73
  have n107 : sL S101 q64 = 6 := by rw [eS101]; exact n100
  have w108 : sI S101 h 1 = 0 := by rw [eS101]; exact w74
  have w109 : sI S101 h 2 = 0 := by rw [eS101]; exact w75
  have w110 : sI S101 h 3 = 0 := by rw [eS101]; exact w76
  have w111 : sI S101 h 4 = 0 := by rw [eS101]; exact w77
  have w112 : sI S101 h 11 = 0 := by rw [eS101]; exact w78
  have w113 : sI S101 h 12 = 0 := by rw [eS101]; exact w79
  have w114 : sI S101 h 13 = 0 := by rw [eS101]; exact w80
  have w115 : sI S101 h 14 = 0 := by rw [eS101]; exact w81
  have w116 : sI S101 h 15 = 0 := by rw [eS101]; exact w82
  have w117 : sI S101 h 16 = 0 := by rw [eS101]; exact w83
  have w118 : sI S101 h 17 = 0 := by rw [eS101]; exact w84
  have w119 : sI S101 h 18 = 0 := by rw [eS101]; exact w85
  have w120 : sI S101 h 19 = 0 := by rw [eS101]; exact w86
  have w121 : sI S101 h 20 = 0 := by rw [eS101]; exact w87
  have w122 : sI S101 h 21 = 0 := by rw [eS101]; exact w88
  have w123 : sI S101 h 22 = 0 := by rw [eS101]; exact w89
  have w124 : sI S101 h 23 = 0 := by rw [eS101]; exact w90
  have w125 : sI S101 h 24 = 0 := by rw [eS101]; exact w91
  have w126 : sI S101 h 25 = 0 := by rw [eS101]; exact w92
  have w127 : sI S101 h 35 = 0 := by rw [eS101]; exact w93
  have w128 : sI S101 h 36 = 0 := by rw [eS101]; exact w94
  have w129 : sI S101 h 53 = 0 := by rw [eS101]; exact w95
  have w130 : sI S101 h 54 = 0 := by rw [eS101]; exact w96
  have w131 : sI S101 h 55 = 0 := by rw [eS101]; exact w97
  have w132 : sI S101 h 60 = 0 := by rw [eS101]; exact w98
  have r133 : sR S101 h 5 = some q64 := by rw [eS101, rR, if_pos rfl, if_pos rfl]
  clear k68 k70 k99 r72 n73 n100 w74 w75 w76 w77 w78 w79 w80 w81 w82 w83 w84 w85 w86 w87 w88 w89 w90 w91 w92 w93 w94 w95 w96 w97 w98
  refine lv_aload_n hx hb dX9_init_20 rfl (lv_at hl 0 rfl) ?_
  refine lv_bipush (v := 6) hx hb dX9_init_21 (by decide) ?_
  refine pg_newa (atype := .int) (ty := .int) (kd := 11) (t0 := 1) (N' := 6) hx hb (hts (.arrayClass .int) (by decide +kernel)) rfl rfl (Or.inl rfl) (by decide) hK hW hS hA (fun _ => rfl) (by decide) (by decide) (Nat.le_of_ble_eq_true rfl) (Nat.le_of_ble_eq_true rfl) (Nat.le_of_ble_eq_true rfl) dX9_init_23 (fun q134 H hq134 hW hS => ?_)
  have f136 : Ap h q134 := ap_k k102 hq134 (by decide)
  have o137 : 16 ≤ sK S q134 := hX.old hq134 (ni_c (ap_s f136) ni_0)
  have hX : Kx [h] S (stN S101 q134 11 6) := hX.N hq134
  obtain ⟨S135, eS135⟩ : ∃ T : St, T = stN S101 q134 11 6 := ⟨_, rfl⟩
  rw [← eS135] at hW hX
  obtain ⟨k138, d139⟩ := fk_N (a := h) eS135 k102 (by decide) hq134
  obtain ⟨k140, d141⟩ := fk_N (a := q1) eS135 k103 (by decide) hq134
  obtain ⟨k142, d143⟩ := fk_N (a := q64) eS135 k104 (by decide) hq134
  have r144 : sR S135 h 0 = some q1 := by rw [eS135, rN, if_neg d139]; exact r105
  have r145 : sR S135 h 5 = some q64 := by rw [eS135, rN, if_neg d139]; exact r133
  have n146 : sL S135 q1 = 80 := by rw [eS135, lNw, if_neg d141]; exact n106
  have n147 : sL S135 q64 = 6 := by rw [eS135, lNw, if_neg d143]; exact n107
  have w148 : sI S135 h 1 = 0 := by rw [eS135, iN, if_neg d139]; exact w108
  have w149 : sI S135 h 2 = 0 := by rw [eS135, iN, if_neg d139]; exact w109
  have w150 : sI S135 h 3 = 0 := by rw [eS135, iN, if_neg d139]; exact w110
  have w151 : sI S135 h 4 = 0 := by rw [eS135, iN, if_neg d139]; exact w111
  have w152 : sI S135 h 11 = 0 := by rw [eS135, iN, if_neg d139]; exact w112
  have w153 : sI S135 h 12 = 0 := by rw [eS135, iN, if_neg d139]; exact w113
  have w154 : sI S135 h 13 = 0 := by rw [eS135, iN, if_neg d139]; exact w114
  have w155 : sI S135 h 14 = 0 := by rw [eS135, iN, if_neg d139]; exact w115
  have w156 : sI S135 h 15 = 0 := by rw [eS135, iN, if_neg d139]; exact w116
  have w157 : sI S135 h 16 = 0 := by rw [eS135, iN, if_neg d139]; exact w117
  have w158 : sI S135 h 17 = 0 := by rw [eS135, iN, if_neg d139]; exact w118
  have w159 : sI S135 h 18 = 0 := by rw [eS135, iN, if_neg d139]; exact w119
  have w160 : sI S135 h 19 = 0 := by rw [eS135, iN, if_neg d139]; exact w120
  have w161 : sI S135 h 20 = 0 := by rw [eS135, iN, if_neg d139]; exact w121
  have w162 : sI S135 h 21 = 0 := by rw [eS135, iN, if_neg d139]; exact w122
  have w163 : sI S135 h 22 = 0 := by rw [eS135, iN, if_neg d139]; exact w123
  have w164 : sI S135 h 23 = 0 := by rw [eS135, iN, if_neg d139]; exact w124
  have w165 : sI S135 h 24 = 0 := by rw [eS135, iN, if_neg d139]; exact w125
  have w166 : sI S135 h 25 = 0 := by rw [eS135, iN, if_neg d139]; exact w126
  have w167 : sI S135 h 35 = 0 := by rw [eS135, iN, if_neg d139]; exact w127
  have w168 : sI S135 h 36 = 0 := by rw [eS135, iN, if_neg d139]; exact w128
  have w169 : sI S135 h 53 = 0 := by rw [eS135, iN, if_neg d139]; exact w129
  have w170 : sI S135 h 54 = 0 := by rw [eS135, iN, if_neg d139]; exact w130
  have w171 : sI S135 h 55 = 0 := by rw [eS135, iN, if_neg d139]; exact w131
  have w172 : sI S135 h 60 = 0 := by rw [eS135, iN, if_neg d139]; exact w132
  have k173 : sK S135 q134 = 11 := by rw [eS135, kN, if_pos rfl]
  have n174 : sL S135 q134 = 6 := by rw [eS135, lNw, if_pos rfl]
  clear k102 k103 k104 r105 r133 n106 n107 w108 w109 w110 w111 w112 w113 w114 w115 w116 w117 w118 w119 w120 w121 w122 w123 w124 w125 w126 w127 w128 w129 w130 w131 w132
  refine pg_pr (ci := 9) (C := RX9) (T := TX9) (N := 63) hx hb hts wi9 tyX9 tyX9_ok nmX9 hown hK hW hS k138 (by decide) rfl 6 (by decide) (hts (.fieldLink RX9 17 "IceHallModel" "daysOf" "[I") (by decide +kernel)) (fun _ h9 => h9) rfl hnm rfl rfl rfl rfl dX9_init_25 (fun H locs hW hS => ?_)
  have hX : Kx [h] S (stR S135 h 6 (some q134)) := hX.Rh List.mem_cons_self
  obtain ⟨S175, eS175⟩ : ∃ T : St, T = stR S135 h 6 (some q134) := ⟨_, rfl⟩
  rw [← eS175] at hW hX
  have k176 : sK S175 h = 9 := by rw [eS175]; exact k138
  have k177 : sK S175 q1 = 10 := by rw [eS175]; exact k140
  have k178 : sK S175 q64 = 11 := by rw [eS175]; exact k142
  have k179 : sK S175 q134 = 11 := by rw [eS175]; exact k173
  have r180 : sR S175 h 0 = some q1 := by rw [eS175, rR, if_pos rfl, if_neg (by decide)]; exact r144
  have r181 : sR S175 h 5 = some q64 := by rw [eS175, rR, if_pos rfl, if_neg (by decide)]; exact r145
  have n182 : sL S175 q1 = 80 := by rw [eS175]; exact n146
  have n183 : sL S175 q64 = 6 := by rw [eS175]; exact n147
  have n184 : sL S175 q134 = 6 := by rw [eS175]; exact n174
  have w185 : sI S175 h 1 = 0 := by rw [eS175]; exact w148
  have w186 : sI S175 h 2 = 0 := by rw [eS175]; exact w149
  have w187 : sI S175 h 3 = 0 := by rw [eS175]; exact w150
  have w188 : sI S175 h 4 = 0 := by rw [eS175]; exact w151
  have w189 : sI S175 h 11 = 0 := by rw [eS175]; exact w152
  have w190 : sI S175 h 12 = 0 := by rw [eS175]; exact w153
  have w191 : sI S175 h 13 = 0 := by rw [eS175]; exact w154
  have w192 : sI S175 h 14 = 0 := by rw [eS175]; exact w155
  have w193 : sI S175 h 15 = 0 := by rw [eS175]; exact w156
  have w194 : sI S175 h 16 = 0 := by rw [eS175]; exact w157
  have w195 : sI S175 h 17 = 0 := by rw [eS175]; exact w158
  have w196 : sI S175 h 18 = 0 := by rw [eS175]; exact w159
  have w197 : sI S175 h 19 = 0 := by rw [eS175]; exact w160
  have w198 : sI S175 h 20 = 0 := by rw [eS175]; exact w161
  have w199 : sI S175 h 21 = 0 := by rw [eS175]; exact w162
  have w200 : sI S175 h 22 = 0 := by rw [eS175]; exact w163
  have w201 : sI S175 h 23 = 0 := by rw [eS175]; exact w164
  have w202 : sI S175 h 24 = 0 := by rw [eS175]; exact w165
  have w203 : sI S175 h 25 = 0 := by rw [eS175]; exact w166
  have w204 : sI S175 h 35 = 0 := by rw [eS175]; exact w167
  have w205 : sI S175 h 36 = 0 := by rw [eS175]; exact w168
  have w206 : sI S175 h 53 = 0 := by rw [eS175]; exact w169
  have w207 : sI S175 h 54 = 0 := by rw [eS175]; exact w170
  have w208 : sI S175 h 55 = 0 := by rw [eS175]; exact w171
  have w209 : sI S175 h 60 = 0 := by rw [eS175]; exact w172
  have r210 : sR S175 h 6 = some q134 := by rw [eS175, rR, if_pos rfl, if_pos rfl]
  clear k138 k140 k142 k173 r144 r145 n146 n147 n174 w148 w149 w150 w151 w152 w153 w154 w155 w156 w157 w158 w159 w160 w161 w162 w163 w164 w165 w166 w167 w168 w169 w170 w171 w172
  refine lv_aload_n hx hb dX9_init_28 rfl (lv_at hl 0 rfl) ?_
  refine lv_bipush (v := 6) hx hb dX9_init_29 (by decide) ?_
  refine pg_newa (atype := .int) (ty := .int) (kd := 11) (t0 := 1) (N' := 6) hx hb (hts (.arrayClass .int) (by decide +kernel)) rfl rfl (Or.inl rfl) (by decide) hK hW hS hA (fun _ => rfl) (by decide) (by decide) (Nat.le_of_ble_eq_true rfl) (Nat.le_of_ble_eq_true rfl) (Nat.le_of_ble_eq_true rfl) dX9_init_31 (fun q211 H hq211 hW hS => ?_)
  have f213 : Ap h q211 := ap_k k176 hq211 (by decide)
  have o214 : 16 ≤ sK S q211 := hX.old hq211 (ni_c (ap_s f213) ni_0)
  have hX : Kx [h] S (stN S175 q211 11 6) := hX.N hq211
  obtain ⟨S212, eS212⟩ : ∃ T : St, T = stN S175 q211 11 6 := ⟨_, rfl⟩
  rw [← eS212] at hW hX
  obtain ⟨k215, d216⟩ := fk_N (a := h) eS212 k176 (by decide) hq211
  obtain ⟨k217, d218⟩ := fk_N (a := q1) eS212 k177 (by decide) hq211
  obtain ⟨k219, d220⟩ := fk_N (a := q64) eS212 k178 (by decide) hq211
  obtain ⟨k221, d222⟩ := fk_N (a := q134) eS212 k179 (by decide) hq211
  have r223 : sR S212 h 0 = some q1 := by rw [eS212, rN, if_neg d216]; exact r180
  have r224 : sR S212 h 5 = some q64 := by rw [eS212, rN, if_neg d216]; exact r181
  have r225 : sR S212 h 6 = some q134 := by rw [eS212, rN, if_neg d216]; exact r210
  have n226 : sL S212 q1 = 80 := by rw [eS212, lNw, if_neg d218]; exact n182
  have n227 : sL S212 q64 = 6 := by rw [eS212, lNw, if_neg d220]; exact n183
  have n228 : sL S212 q134 = 6 := by rw [eS212, lNw, if_neg d222]; exact n184
  have w229 : sI S212 h 1 = 0 := by rw [eS212, iN, if_neg d216]; exact w185
  have w230 : sI S212 h 2 = 0 := by rw [eS212, iN, if_neg d216]; exact w186
  have w231 : sI S212 h 3 = 0 := by rw [eS212, iN, if_neg d216]; exact w187
  have w232 : sI S212 h 4 = 0 := by rw [eS212, iN, if_neg d216]; exact w188
  have w233 : sI S212 h 11 = 0 := by rw [eS212, iN, if_neg d216]; exact w189
  have w234 : sI S212 h 12 = 0 := by rw [eS212, iN, if_neg d216]; exact w190
  have w235 : sI S212 h 13 = 0 := by rw [eS212, iN, if_neg d216]; exact w191
  have w236 : sI S212 h 14 = 0 := by rw [eS212, iN, if_neg d216]; exact w192
  have w237 : sI S212 h 15 = 0 := by rw [eS212, iN, if_neg d216]; exact w193
  have w238 : sI S212 h 16 = 0 := by rw [eS212, iN, if_neg d216]; exact w194
  have w239 : sI S212 h 17 = 0 := by rw [eS212, iN, if_neg d216]; exact w195
  have w240 : sI S212 h 18 = 0 := by rw [eS212, iN, if_neg d216]; exact w196
  have w241 : sI S212 h 19 = 0 := by rw [eS212, iN, if_neg d216]; exact w197
  have w242 : sI S212 h 20 = 0 := by rw [eS212, iN, if_neg d216]; exact w198
  have w243 : sI S212 h 21 = 0 := by rw [eS212, iN, if_neg d216]; exact w199
  have w244 : sI S212 h 22 = 0 := by rw [eS212, iN, if_neg d216]; exact w200
  have w245 : sI S212 h 23 = 0 := by rw [eS212, iN, if_neg d216]; exact w201
  have w246 : sI S212 h 24 = 0 := by rw [eS212, iN, if_neg d216]; exact w202
  have w247 : sI S212 h 25 = 0 := by rw [eS212, iN, if_neg d216]; exact w203
  have w248 : sI S212 h 35 = 0 := by rw [eS212, iN, if_neg d216]; exact w204
  have w249 : sI S212 h 36 = 0 := by rw [eS212, iN, if_neg d216]; exact w205
  have w250 : sI S212 h 53 = 0 := by rw [eS212, iN, if_neg d216]; exact w206
  have w251 : sI S212 h 54 = 0 := by rw [eS212, iN, if_neg d216]; exact w207
  have w252 : sI S212 h 55 = 0 := by rw [eS212, iN, if_neg d216]; exact w208
  have w253 : sI S212 h 60 = 0 := by rw [eS212, iN, if_neg d216]; exact w209
  have k254 : sK S212 q211 = 11 := by rw [eS212, kN, if_pos rfl]
  have n255 : sL S212 q211 = 6 := by rw [eS212, lNw, if_pos rfl]
  clear k176 k177 k178 k179 r180 r181 r210 n182 n183 n184 w185 w186 w187 w188 w189 w190 w191 w192 w193 w194 w195 w196 w197 w198 w199 w200 w201 w202 w203 w204 w205 w206 w207 w208 w209
  refine pg_pr (ci := 9) (C := RX9) (T := TX9) (N := 63) hx hb hts wi9 tyX9 tyX9_ok nmX9 hown hK hW hS k215 (by decide) rfl 7 (by decide) (hts (.fieldLink RX9 20 "IceHallModel" "kinds" "[I") (by decide +kernel)) (fun _ h9 => h9) rfl hnm rfl rfl rfl rfl dX9_init_33 (fun H locs hW hS => ?_)
  have hX : Kx [h] S (stR S212 h 7 (some q211)) := hX.Rh List.mem_cons_self
  obtain ⟨S256, eS256⟩ : ∃ T : St, T = stR S212 h 7 (some q211) := ⟨_, rfl⟩
  rw [← eS256] at hW hX
  have k257 : sK S256 h = 9 := by rw [eS256]; exact k215
  have k258 : sK S256 q1 = 10 := by rw [eS256]; exact k217
  have k259 : sK S256 q64 = 11 := by rw [eS256]; exact k219
  have k260 : sK S256 q134 = 11 := by rw [eS256]; exact k221
  have k261 : sK S256 q211 = 11 := by rw [eS256]; exact k254
  have r262 : sR S256 h 0 = some q1 := by rw [eS256, rR, if_pos rfl, if_neg (by decide)]; exact r223
  have r263 : sR S256 h 5 = some q64 := by rw [eS256, rR, if_pos rfl, if_neg (by decide)]; exact r224
  have r264 : sR S256 h 6 = some q134 := by rw [eS256, rR, if_pos rfl, if_neg (by decide)]; exact r225
  have n265 : sL S256 q1 = 80 := by rw [eS256]; exact n226
  have n266 : sL S256 q64 = 6 := by rw [eS256]; exact n227
  have n267 : sL S256 q134 = 6 := by rw [eS256]; exact n228
  have n268 : sL S256 q211 = 6 := by rw [eS256]; exact n255
  have w269 : sI S256 h 1 = 0 := by rw [eS256]; exact w229
  have w270 : sI S256 h 2 = 0 := by rw [eS256]; exact w230
  have w271 : sI S256 h 3 = 0 := by rw [eS256]; exact w231
  have w272 : sI S256 h 4 = 0 := by rw [eS256]; exact w232
  have w273 : sI S256 h 11 = 0 := by rw [eS256]; exact w233
  have w274 : sI S256 h 12 = 0 := by rw [eS256]; exact w234
  have w275 : sI S256 h 13 = 0 := by rw [eS256]; exact w235
  have w276 : sI S256 h 14 = 0 := by rw [eS256]; exact w236
  have w277 : sI S256 h 15 = 0 := by rw [eS256]; exact w237
  have w278 : sI S256 h 16 = 0 := by rw [eS256]; exact w238
  have w279 : sI S256 h 17 = 0 := by rw [eS256]; exact w239
  have w280 : sI S256 h 18 = 0 := by rw [eS256]; exact w240
  have w281 : sI S256 h 19 = 0 := by rw [eS256]; exact w241
  have w282 : sI S256 h 20 = 0 := by rw [eS256]; exact w242
  have w283 : sI S256 h 21 = 0 := by rw [eS256]; exact w243
  have w284 : sI S256 h 22 = 0 := by rw [eS256]; exact w244
  have w285 : sI S256 h 23 = 0 := by rw [eS256]; exact w245
  have w286 : sI S256 h 24 = 0 := by rw [eS256]; exact w246
  have w287 : sI S256 h 25 = 0 := by rw [eS256]; exact w247
  have w288 : sI S256 h 35 = 0 := by rw [eS256]; exact w248
  have w289 : sI S256 h 36 = 0 := by rw [eS256]; exact w249
  have w290 : sI S256 h 53 = 0 := by rw [eS256]; exact w250
  have w291 : sI S256 h 54 = 0 := by rw [eS256]; exact w251
  have w292 : sI S256 h 55 = 0 := by rw [eS256]; exact w252
  have w293 : sI S256 h 60 = 0 := by rw [eS256]; exact w253
  have r294 : sR S256 h 7 = some q211 := by rw [eS256, rR, if_pos rfl, if_pos rfl]
  clear k215 k217 k219 k221 k254 r223 r224 r225 n226 n227 n228 n255 w229 w230 w231 w232 w233 w234 w235 w236 w237 w238 w239 w240 w241 w242 w243 w244 w245 w246 w247 w248 w249 w250 w251 w252 w253
  refine lv_aload_n hx hb dX9_init_36 rfl (lv_at hl 0 rfl) ?_
  refine lv_bipush (v := 6) hx hb dX9_init_37 (by decide) ?_
  refine pg_newa (atype := .int) (ty := .int) (kd := 11) (t0 := 1) (N' := 6) hx hb (hts (.arrayClass .int) (by decide +kernel)) rfl rfl (Or.inl rfl) (by decide) hK hW hS hA (fun _ => rfl) (by decide) (by decide) (Nat.le_of_ble_eq_true rfl) (Nat.le_of_ble_eq_true rfl) (Nat.le_of_ble_eq_true rfl) dX9_init_39 (fun q295 H hq295 hW hS => ?_)
  have f297 : Ap h q295 := ap_k k257 hq295 (by decide)
  have o298 : 16 ≤ sK S q295 := hX.old hq295 (ni_c (ap_s f297) ni_0)
  have hX : Kx [h] S (stN S256 q295 11 6) := hX.N hq295
  obtain ⟨S296, eS296⟩ : ∃ T : St, T = stN S256 q295 11 6 := ⟨_, rfl⟩
  rw [← eS296] at hW hX
  obtain ⟨k299, d300⟩ := fk_N (a := h) eS296 k257 (by decide) hq295
  obtain ⟨k301, d302⟩ := fk_N (a := q1) eS296 k258 (by decide) hq295
  obtain ⟨k303, d304⟩ := fk_N (a := q64) eS296 k259 (by decide) hq295
  obtain ⟨k305, d306⟩ := fk_N (a := q134) eS296 k260 (by decide) hq295
  obtain ⟨k307, d308⟩ := fk_N (a := q211) eS296 k261 (by decide) hq295
  have r309 : sR S296 h 0 = some q1 := by rw [eS296, rN, if_neg d300]; exact r262
  have r310 : sR S296 h 5 = some q64 := by rw [eS296, rN, if_neg d300]; exact r263
  have r311 : sR S296 h 6 = some q134 := by rw [eS296, rN, if_neg d300]; exact r264
  have r312 : sR S296 h 7 = some q211 := by rw [eS296, rN, if_neg d300]; exact r294
  have n313 : sL S296 q1 = 80 := by rw [eS296, lNw, if_neg d302]; exact n265
  have n314 : sL S296 q64 = 6 := by rw [eS296, lNw, if_neg d304]; exact n266
  have n315 : sL S296 q134 = 6 := by rw [eS296, lNw, if_neg d306]; exact n267
  have n316 : sL S296 q211 = 6 := by rw [eS296, lNw, if_neg d308]; exact n268
  have w317 : sI S296 h 1 = 0 := by rw [eS296, iN, if_neg d300]; exact w269
  have w318 : sI S296 h 2 = 0 := by rw [eS296, iN, if_neg d300]; exact w270
  have w319 : sI S296 h 3 = 0 := by rw [eS296, iN, if_neg d300]; exact w271
  have w320 : sI S296 h 4 = 0 := by rw [eS296, iN, if_neg d300]; exact w272
  have w321 : sI S296 h 11 = 0 := by rw [eS296, iN, if_neg d300]; exact w273
  have w322 : sI S296 h 12 = 0 := by rw [eS296, iN, if_neg d300]; exact w274
  have w323 : sI S296 h 13 = 0 := by rw [eS296, iN, if_neg d300]; exact w275
  have w324 : sI S296 h 14 = 0 := by rw [eS296, iN, if_neg d300]; exact w276
  have w325 : sI S296 h 15 = 0 := by rw [eS296, iN, if_neg d300]; exact w277
  have w326 : sI S296 h 16 = 0 := by rw [eS296, iN, if_neg d300]; exact w278
  have w327 : sI S296 h 17 = 0 := by rw [eS296, iN, if_neg d300]; exact w279
  have w328 : sI S296 h 18 = 0 := by rw [eS296, iN, if_neg d300]; exact w280
  have w329 : sI S296 h 19 = 0 := by rw [eS296, iN, if_neg d300]; exact w281
  have w330 : sI S296 h 20 = 0 := by rw [eS296, iN, if_neg d300]; exact w282
  have w331 : sI S296 h 21 = 0 := by rw [eS296, iN, if_neg d300]; exact w283
  have w332 : sI S296 h 22 = 0 := by rw [eS296, iN, if_neg d300]; exact w284
  have w333 : sI S296 h 23 = 0 := by rw [eS296, iN, if_neg d300]; exact w285
  have w334 : sI S296 h 24 = 0 := by rw [eS296, iN, if_neg d300]; exact w286
  have w335 : sI S296 h 25 = 0 := by rw [eS296, iN, if_neg d300]; exact w287
  have w336 : sI S296 h 35 = 0 := by rw [eS296, iN, if_neg d300]; exact w288
  have w337 : sI S296 h 36 = 0 := by rw [eS296, iN, if_neg d300]; exact w289
  have w338 : sI S296 h 53 = 0 := by rw [eS296, iN, if_neg d300]; exact w290
  have w339 : sI S296 h 54 = 0 := by rw [eS296, iN, if_neg d300]; exact w291
  have w340 : sI S296 h 55 = 0 := by rw [eS296, iN, if_neg d300]; exact w292
  have w341 : sI S296 h 60 = 0 := by rw [eS296, iN, if_neg d300]; exact w293
  have k342 : sK S296 q295 = 11 := by rw [eS296, kN, if_pos rfl]
  have n343 : sL S296 q295 = 6 := by rw [eS296, lNw, if_pos rfl]
  clear k257 k258 k259 k260 k261 r262 r263 r264 r294 n265 n266 n267 n268 w269 w270 w271 w272 w273 w274 w275 w276 w277 w278 w279 w280 w281 w282 w283 w284 w285 w286 w287 w288 w289 w290 w291 w292 w293
  refine pg_pr (ci := 9) (C := RX9) (T := TX9) (N := 63) hx hb hts wi9 tyX9 tyX9_ok nmX9 hown hK hW hS k299 (by decide) rfl 8 (by decide) (hts (.fieldLink RX9 23 "IceHallModel" "limit" "[I") (by decide +kernel)) (fun _ h9 => h9) rfl hnm rfl rfl rfl rfl dX9_init_41 (fun H locs hW hS => ?_)
  have hX : Kx [h] S (stR S296 h 8 (some q295)) := hX.Rh List.mem_cons_self
  obtain ⟨S344, eS344⟩ : ∃ T : St, T = stR S296 h 8 (some q295) := ⟨_, rfl⟩
  rw [← eS344] at hW hX
  have k345 : sK S344 h = 9 := by rw [eS344]; exact k299
  have k346 : sK S344 q1 = 10 := by rw [eS344]; exact k301
  have k347 : sK S344 q64 = 11 := by rw [eS344]; exact k303
  have k348 : sK S344 q134 = 11 := by rw [eS344]; exact k305
  have k349 : sK S344 q211 = 11 := by rw [eS344]; exact k307
  have k350 : sK S344 q295 = 11 := by rw [eS344]; exact k342
  have r351 : sR S344 h 0 = some q1 := by rw [eS344, rR, if_pos rfl, if_neg (by decide)]; exact r309
  have r352 : sR S344 h 5 = some q64 := by rw [eS344, rR, if_pos rfl, if_neg (by decide)]; exact r310
  have r353 : sR S344 h 6 = some q134 := by rw [eS344, rR, if_pos rfl, if_neg (by decide)]; exact r311
  have r354 : sR S344 h 7 = some q211 := by rw [eS344, rR, if_pos rfl, if_neg (by decide)]; exact r312
  have n355 : sL S344 q1 = 80 := by rw [eS344]; exact n313
  have n356 : sL S344 q64 = 6 := by rw [eS344]; exact n314
  have n357 : sL S344 q134 = 6 := by rw [eS344]; exact n315
  have n358 : sL S344 q211 = 6 := by rw [eS344]; exact n316
  have n359 : sL S344 q295 = 6 := by rw [eS344]; exact n343
  have w360 : sI S344 h 1 = 0 := by rw [eS344]; exact w317
  have w361 : sI S344 h 2 = 0 := by rw [eS344]; exact w318
  have w362 : sI S344 h 3 = 0 := by rw [eS344]; exact w319
  have w363 : sI S344 h 4 = 0 := by rw [eS344]; exact w320
  have w364 : sI S344 h 11 = 0 := by rw [eS344]; exact w321
  have w365 : sI S344 h 12 = 0 := by rw [eS344]; exact w322
  have w366 : sI S344 h 13 = 0 := by rw [eS344]; exact w323
  have w367 : sI S344 h 14 = 0 := by rw [eS344]; exact w324
  have w368 : sI S344 h 15 = 0 := by rw [eS344]; exact w325
  have w369 : sI S344 h 16 = 0 := by rw [eS344]; exact w326
  have w370 : sI S344 h 17 = 0 := by rw [eS344]; exact w327
  have w371 : sI S344 h 18 = 0 := by rw [eS344]; exact w328
  have w372 : sI S344 h 19 = 0 := by rw [eS344]; exact w329
  have w373 : sI S344 h 20 = 0 := by rw [eS344]; exact w330
  have w374 : sI S344 h 21 = 0 := by rw [eS344]; exact w331
  have w375 : sI S344 h 22 = 0 := by rw [eS344]; exact w332
  have w376 : sI S344 h 23 = 0 := by rw [eS344]; exact w333
  have w377 : sI S344 h 24 = 0 := by rw [eS344]; exact w334
  have w378 : sI S344 h 25 = 0 := by rw [eS344]; exact w335
  have w379 : sI S344 h 35 = 0 := by rw [eS344]; exact w336
  have w380 : sI S344 h 36 = 0 := by rw [eS344]; exact w337
  have w381 : sI S344 h 53 = 0 := by rw [eS344]; exact w338
  have w382 : sI S344 h 54 = 0 := by rw [eS344]; exact w339
  have w383 : sI S344 h 55 = 0 := by rw [eS344]; exact w340
  have w384 : sI S344 h 60 = 0 := by rw [eS344]; exact w341
  have r385 : sR S344 h 8 = some q295 := by rw [eS344, rR, if_pos rfl, if_pos rfl]
  clear k299 k301 k303 k305 k307 k342 r309 r310 r311 r312 n313 n314 n315 n316 n343 w317 w318 w319 w320 w321 w322 w323 w324 w325 w326 w327 w328 w329 w330 w331 w332 w333 w334 w335 w336 w337 w338 w339 w340 w341
  refine lv_aload_n hx hb dX9_init_44 rfl (lv_at hl 0 rfl) ?_
  refine lv_bipush (v := 6) hx hb dX9_init_45 (by decide) ?_
  refine pg_newa (atype := .int) (ty := .int) (kd := 11) (t0 := 1) (N' := 6) hx hb (hts (.arrayClass .int) (by decide +kernel)) rfl rfl (Or.inl rfl) (by decide) hK hW hS hA (fun _ => rfl) (by decide) (by decide) (Nat.le_of_ble_eq_true rfl) (Nat.le_of_ble_eq_true rfl) (Nat.le_of_ble_eq_true rfl) dX9_init_47 (fun q386 H hq386 hW hS => ?_)
  have f388 : Ap h q386 := ap_k k345 hq386 (by decide)
  have o389 : 16 ≤ sK S q386 := hX.old hq386 (ni_c (ap_s f388) ni_0)
  have hX : Kx [h] S (stN S344 q386 11 6) := hX.N hq386
  obtain ⟨S387, eS387⟩ : ∃ T : St, T = stN S344 q386 11 6 := ⟨_, rfl⟩
  rw [← eS387] at hW hX
  obtain ⟨k390, d391⟩ := fk_N (a := h) eS387 k345 (by decide) hq386
  obtain ⟨k392, d393⟩ := fk_N (a := q1) eS387 k346 (by decide) hq386
  obtain ⟨k394, d395⟩ := fk_N (a := q64) eS387 k347 (by decide) hq386
  obtain ⟨k396, d397⟩ := fk_N (a := q134) eS387 k348 (by decide) hq386
  obtain ⟨k398, d399⟩ := fk_N (a := q211) eS387 k349 (by decide) hq386
  obtain ⟨k400, d401⟩ := fk_N (a := q295) eS387 k350 (by decide) hq386
  have r402 : sR S387 h 0 = some q1 := by rw [eS387, rN, if_neg d391]; exact r351
  have r403 : sR S387 h 5 = some q64 := by rw [eS387, rN, if_neg d391]; exact r352
  have r404 : sR S387 h 6 = some q134 := by rw [eS387, rN, if_neg d391]; exact r353
  have r405 : sR S387 h 7 = some q211 := by rw [eS387, rN, if_neg d391]; exact r354
  have r406 : sR S387 h 8 = some q295 := by rw [eS387, rN, if_neg d391]; exact r385
  have n407 : sL S387 q1 = 80 := by rw [eS387, lNw, if_neg d393]; exact n355
  have n408 : sL S387 q64 = 6 := by rw [eS387, lNw, if_neg d395]; exact n356
  have n409 : sL S387 q134 = 6 := by rw [eS387, lNw, if_neg d397]; exact n357
  have n410 : sL S387 q211 = 6 := by rw [eS387, lNw, if_neg d399]; exact n358
  have n411 : sL S387 q295 = 6 := by rw [eS387, lNw, if_neg d401]; exact n359
  have w412 : sI S387 h 1 = 0 := by rw [eS387, iN, if_neg d391]; exact w360
  have w413 : sI S387 h 2 = 0 := by rw [eS387, iN, if_neg d391]; exact w361
  have w414 : sI S387 h 3 = 0 := by rw [eS387, iN, if_neg d391]; exact w362
  have w415 : sI S387 h 4 = 0 := by rw [eS387, iN, if_neg d391]; exact w363
  have w416 : sI S387 h 11 = 0 := by rw [eS387, iN, if_neg d391]; exact w364
  have w417 : sI S387 h 12 = 0 := by rw [eS387, iN, if_neg d391]; exact w365
  have w418 : sI S387 h 13 = 0 := by rw [eS387, iN, if_neg d391]; exact w366
  have w419 : sI S387 h 14 = 0 := by rw [eS387, iN, if_neg d391]; exact w367
  have w420 : sI S387 h 15 = 0 := by rw [eS387, iN, if_neg d391]; exact w368
  have w421 : sI S387 h 16 = 0 := by rw [eS387, iN, if_neg d391]; exact w369
  have w422 : sI S387 h 17 = 0 := by rw [eS387, iN, if_neg d391]; exact w370
  have w423 : sI S387 h 18 = 0 := by rw [eS387, iN, if_neg d391]; exact w371
  have w424 : sI S387 h 19 = 0 := by rw [eS387, iN, if_neg d391]; exact w372
  have w425 : sI S387 h 20 = 0 := by rw [eS387, iN, if_neg d391]; exact w373
  have w426 : sI S387 h 21 = 0 := by rw [eS387, iN, if_neg d391]; exact w374
  have w427 : sI S387 h 22 = 0 := by rw [eS387, iN, if_neg d391]; exact w375
  have w428 : sI S387 h 23 = 0 := by rw [eS387, iN, if_neg d391]; exact w376
  have w429 : sI S387 h 24 = 0 := by rw [eS387, iN, if_neg d391]; exact w377
  have w430 : sI S387 h 25 = 0 := by rw [eS387, iN, if_neg d391]; exact w378
  have w431 : sI S387 h 35 = 0 := by rw [eS387, iN, if_neg d391]; exact w379
  have w432 : sI S387 h 36 = 0 := by rw [eS387, iN, if_neg d391]; exact w380
  have w433 : sI S387 h 53 = 0 := by rw [eS387, iN, if_neg d391]; exact w381
  have w434 : sI S387 h 54 = 0 := by rw [eS387, iN, if_neg d391]; exact w382
  have w435 : sI S387 h 55 = 0 := by rw [eS387, iN, if_neg d391]; exact w383
  have w436 : sI S387 h 60 = 0 := by rw [eS387, iN, if_neg d391]; exact w384
  have k437 : sK S387 q386 = 11 := by rw [eS387, kN, if_pos rfl]
  have n438 : sL S387 q386 = 6 := by rw [eS387, lNw, if_pos rfl]
  clear k345 k346 k347 k348 k349 k350 r351 r352 r353 r354 r385 n355 n356 n357 n358 n359 w360 w361 w362 w363 w364 w365 w366 w367 w368 w369 w370 w371 w372 w373 w374 w375 w376 w377 w378 w379 w380 w381 w382 w383 w384
  refine pg_pr (ci := 9) (C := RX9) (T := TX9) (N := 63) hx hb hts wi9 tyX9 tyX9_ok nmX9 hown hK hW hS k390 (by decide) rfl 9 (by decide) (hts (.fieldLink RX9 26 "IceHallModel" "fee" "[I") (by decide +kernel)) (fun _ h9 => h9) rfl hnm rfl rfl rfl rfl dX9_init_49 (fun H locs hW hS => ?_)
  have hX : Kx [h] S (stR S387 h 9 (some q386)) := hX.Rh List.mem_cons_self
  obtain ⟨S439, eS439⟩ : ∃ T : St, T = stR S387 h 9 (some q386) := ⟨_, rfl⟩
  rw [← eS439] at hW hX
  have k440 : sK S439 h = 9 := by rw [eS439]; exact k390
  have k441 : sK S439 q1 = 10 := by rw [eS439]; exact k392
  have k442 : sK S439 q64 = 11 := by rw [eS439]; exact k394
  have k443 : sK S439 q134 = 11 := by rw [eS439]; exact k396
  have k444 : sK S439 q211 = 11 := by rw [eS439]; exact k398
  have k445 : sK S439 q295 = 11 := by rw [eS439]; exact k400
  have k446 : sK S439 q386 = 11 := by rw [eS439]; exact k437
  have r447 : sR S439 h 0 = some q1 := by rw [eS439, rR, if_pos rfl, if_neg (by decide)]; exact r402
  have r448 : sR S439 h 5 = some q64 := by rw [eS439, rR, if_pos rfl, if_neg (by decide)]; exact r403
  have r449 : sR S439 h 6 = some q134 := by rw [eS439, rR, if_pos rfl, if_neg (by decide)]; exact r404
  have r450 : sR S439 h 7 = some q211 := by rw [eS439, rR, if_pos rfl, if_neg (by decide)]; exact r405
  have r451 : sR S439 h 8 = some q295 := by rw [eS439, rR, if_pos rfl, if_neg (by decide)]; exact r406
  have n452 : sL S439 q1 = 80 := by rw [eS439]; exact n407
  have n453 : sL S439 q64 = 6 := by rw [eS439]; exact n408
  have n454 : sL S439 q134 = 6 := by rw [eS439]; exact n409
  have n455 : sL S439 q211 = 6 := by rw [eS439]; exact n410
  have n456 : sL S439 q295 = 6 := by rw [eS439]; exact n411
  have n457 : sL S439 q386 = 6 := by rw [eS439]; exact n438
  have w458 : sI S439 h 1 = 0 := by rw [eS439]; exact w412
  have w459 : sI S439 h 2 = 0 := by rw [eS439]; exact w413
  have w460 : sI S439 h 3 = 0 := by rw [eS439]; exact w414
  have w461 : sI S439 h 4 = 0 := by rw [eS439]; exact w415
  have w462 : sI S439 h 11 = 0 := by rw [eS439]; exact w416
  have w463 : sI S439 h 12 = 0 := by rw [eS439]; exact w417
  have w464 : sI S439 h 13 = 0 := by rw [eS439]; exact w418
  have w465 : sI S439 h 14 = 0 := by rw [eS439]; exact w419
  have w466 : sI S439 h 15 = 0 := by rw [eS439]; exact w420
  have w467 : sI S439 h 16 = 0 := by rw [eS439]; exact w421
  have w468 : sI S439 h 17 = 0 := by rw [eS439]; exact w422
  have w469 : sI S439 h 18 = 0 := by rw [eS439]; exact w423
  have w470 : sI S439 h 19 = 0 := by rw [eS439]; exact w424
  have w471 : sI S439 h 20 = 0 := by rw [eS439]; exact w425
  have w472 : sI S439 h 21 = 0 := by rw [eS439]; exact w426
  have w473 : sI S439 h 22 = 0 := by rw [eS439]; exact w427
  have w474 : sI S439 h 23 = 0 := by rw [eS439]; exact w428
  have w475 : sI S439 h 24 = 0 := by rw [eS439]; exact w429
  have w476 : sI S439 h 25 = 0 := by rw [eS439]; exact w430
  have w477 : sI S439 h 35 = 0 := by rw [eS439]; exact w431
  have w478 : sI S439 h 36 = 0 := by rw [eS439]; exact w432
  have w479 : sI S439 h 53 = 0 := by rw [eS439]; exact w433
  have w480 : sI S439 h 54 = 0 := by rw [eS439]; exact w434
  have w481 : sI S439 h 55 = 0 := by rw [eS439]; exact w435
  have w482 : sI S439 h 60 = 0 := by rw [eS439]; exact w436
  have r483 : sR S439 h 9 = some q386 := by rw [eS439, rR, if_pos rfl, if_pos rfl]
  clear k390 k392 k394 k396 k398 k400 k437 r402 r403 r404 r405 r406 n407 n408 n409 n410 n411 n438 w412 w413 w414 w415 w416 w417 w418 w419 w420 w421 w422 w423 w424 w425 w426 w427 w428 w429 w430 w431 w432 w433 w434 w435 w436
  refine lv_aload_n hx hb dX9_init_52 rfl (lv_at hl 0 rfl) ?_
  refine lv_bipush (v := 6) hx hb dX9_init_53 (by decide) ?_
  refine pg_newa (atype := .int) (ty := .int) (kd := 11) (t0 := 1) (N' := 6) hx hb (hts (.arrayClass .int) (by decide +kernel)) rfl rfl (Or.inl rfl) (by decide) hK hW hS hA (fun _ => rfl) (by decide) (by decide) (Nat.le_of_ble_eq_true rfl) (Nat.le_of_ble_eq_true rfl) (Nat.le_of_ble_eq_true rfl) dX9_init_55 (fun q484 H hq484 hW hS => ?_)
  have f486 : Ap h q484 := ap_k k440 hq484 (by decide)
  have o487 : 16 ≤ sK S q484 := hX.old hq484 (ni_c (ap_s f486) ni_0)
  have hX : Kx [h] S (stN S439 q484 11 6) := hX.N hq484
  obtain ⟨S485, eS485⟩ : ∃ T : St, T = stN S439 q484 11 6 := ⟨_, rfl⟩
  rw [← eS485] at hW hX
  obtain ⟨k488, d489⟩ := fk_N (a := h) eS485 k440 (by decide) hq484
  obtain ⟨k490, d491⟩ := fk_N (a := q1) eS485 k441 (by decide) hq484
  obtain ⟨k492, d493⟩ := fk_N (a := q64) eS485 k442 (by decide) hq484
  obtain ⟨k494, d495⟩ := fk_N (a := q134) eS485 k443 (by decide) hq484
  obtain ⟨k496, d497⟩ := fk_N (a := q211) eS485 k444 (by decide) hq484
  obtain ⟨k498, d499⟩ := fk_N (a := q295) eS485 k445 (by decide) hq484
  obtain ⟨k500, d501⟩ := fk_N (a := q386) eS485 k446 (by decide) hq484
  have r502 : sR S485 h 0 = some q1 := by rw [eS485, rN, if_neg d489]; exact r447
  have r503 : sR S485 h 5 = some q64 := by rw [eS485, rN, if_neg d489]; exact r448
  have r504 : sR S485 h 6 = some q134 := by rw [eS485, rN, if_neg d489]; exact r449
  have r505 : sR S485 h 7 = some q211 := by rw [eS485, rN, if_neg d489]; exact r450
  have r506 : sR S485 h 8 = some q295 := by rw [eS485, rN, if_neg d489]; exact r451
  have r507 : sR S485 h 9 = some q386 := by rw [eS485, rN, if_neg d489]; exact r483
  have n508 : sL S485 q1 = 80 := by rw [eS485, lNw, if_neg d491]; exact n452
  have n509 : sL S485 q64 = 6 := by rw [eS485, lNw, if_neg d493]; exact n453
  have n510 : sL S485 q134 = 6 := by rw [eS485, lNw, if_neg d495]; exact n454
  have n511 : sL S485 q211 = 6 := by rw [eS485, lNw, if_neg d497]; exact n455
  have n512 : sL S485 q295 = 6 := by rw [eS485, lNw, if_neg d499]; exact n456
  have n513 : sL S485 q386 = 6 := by rw [eS485, lNw, if_neg d501]; exact n457
  have w514 : sI S485 h 1 = 0 := by rw [eS485, iN, if_neg d489]; exact w458
  have w515 : sI S485 h 2 = 0 := by rw [eS485, iN, if_neg d489]; exact w459
  have w516 : sI S485 h 3 = 0 := by rw [eS485, iN, if_neg d489]; exact w460
  have w517 : sI S485 h 4 = 0 := by rw [eS485, iN, if_neg d489]; exact w461
  have w518 : sI S485 h 11 = 0 := by rw [eS485, iN, if_neg d489]; exact w462
  have w519 : sI S485 h 12 = 0 := by rw [eS485, iN, if_neg d489]; exact w463
  have w520 : sI S485 h 13 = 0 := by rw [eS485, iN, if_neg d489]; exact w464
  have w521 : sI S485 h 14 = 0 := by rw [eS485, iN, if_neg d489]; exact w465
  have w522 : sI S485 h 15 = 0 := by rw [eS485, iN, if_neg d489]; exact w466
  have w523 : sI S485 h 16 = 0 := by rw [eS485, iN, if_neg d489]; exact w467
  have w524 : sI S485 h 17 = 0 := by rw [eS485, iN, if_neg d489]; exact w468
  have w525 : sI S485 h 18 = 0 := by rw [eS485, iN, if_neg d489]; exact w469
  have w526 : sI S485 h 19 = 0 := by rw [eS485, iN, if_neg d489]; exact w470
  have w527 : sI S485 h 20 = 0 := by rw [eS485, iN, if_neg d489]; exact w471
  have w528 : sI S485 h 21 = 0 := by rw [eS485, iN, if_neg d489]; exact w472
  have w529 : sI S485 h 22 = 0 := by rw [eS485, iN, if_neg d489]; exact w473
  have w530 : sI S485 h 23 = 0 := by rw [eS485, iN, if_neg d489]; exact w474
  have w531 : sI S485 h 24 = 0 := by rw [eS485, iN, if_neg d489]; exact w475
  have w532 : sI S485 h 25 = 0 := by rw [eS485, iN, if_neg d489]; exact w476
  have w533 : sI S485 h 35 = 0 := by rw [eS485, iN, if_neg d489]; exact w477
  have w534 : sI S485 h 36 = 0 := by rw [eS485, iN, if_neg d489]; exact w478
  have w535 : sI S485 h 53 = 0 := by rw [eS485, iN, if_neg d489]; exact w479
  have w536 : sI S485 h 54 = 0 := by rw [eS485, iN, if_neg d489]; exact w480
  have w537 : sI S485 h 55 = 0 := by rw [eS485, iN, if_neg d489]; exact w481
  have w538 : sI S485 h 60 = 0 := by rw [eS485, iN, if_neg d489]; exact w482
  have k539 : sK S485 q484 = 11 := by rw [eS485, kN, if_pos rfl]
  have n540 : sL S485 q484 = 6 := by rw [eS485, lNw, if_pos rfl]
  clear k440 k441 k442 k443 k444 k445 k446 r447 r448 r449 r450 r451 r483 n452 n453 n454 n455 n456 n457 w458 w459 w460 w461 w462 w463 w464 w465 w466 w467 w468 w469 w470 w471 w472 w473 w474 w475 w476 w477 w478 w479 w480 w481 w482
  refine pg_pr (ci := 9) (C := RX9) (T := TX9) (N := 63) hx hb hts wi9 tyX9 tyX9_ok nmX9 hown hK hW hS k488 (by decide) rfl 10 (by decide) (hts (.fieldLink RX9 29 "IceHallModel" "hundredths" "[I") (by decide +kernel)) (fun _ h9 => h9) rfl hnm rfl rfl rfl rfl dX9_init_57 (fun H locs hW hS => ?_)
  have hX : Kx [h] S (stR S485 h 10 (some q484)) := hX.Rh List.mem_cons_self
  obtain ⟨S541, eS541⟩ : ∃ T : St, T = stR S485 h 10 (some q484) := ⟨_, rfl⟩
  rw [← eS541] at hW hX
  have k542 : sK S541 h = 9 := by rw [eS541]; exact k488
  have k543 : sK S541 q1 = 10 := by rw [eS541]; exact k490
  have k544 : sK S541 q64 = 11 := by rw [eS541]; exact k492
  have k545 : sK S541 q134 = 11 := by rw [eS541]; exact k494
  have k546 : sK S541 q211 = 11 := by rw [eS541]; exact k496
  have k547 : sK S541 q295 = 11 := by rw [eS541]; exact k498
  have k548 : sK S541 q386 = 11 := by rw [eS541]; exact k500
  have k549 : sK S541 q484 = 11 := by rw [eS541]; exact k539
  have r550 : sR S541 h 0 = some q1 := by rw [eS541, rR, if_pos rfl, if_neg (by decide)]; exact r502
  have r551 : sR S541 h 5 = some q64 := by rw [eS541, rR, if_pos rfl, if_neg (by decide)]; exact r503
  have r552 : sR S541 h 6 = some q134 := by rw [eS541, rR, if_pos rfl, if_neg (by decide)]; exact r504
  have r553 : sR S541 h 7 = some q211 := by rw [eS541, rR, if_pos rfl, if_neg (by decide)]; exact r505
  have r554 : sR S541 h 8 = some q295 := by rw [eS541, rR, if_pos rfl, if_neg (by decide)]; exact r506
  have r555 : sR S541 h 9 = some q386 := by rw [eS541, rR, if_pos rfl, if_neg (by decide)]; exact r507
  have n556 : sL S541 q1 = 80 := by rw [eS541]; exact n508
  have n557 : sL S541 q64 = 6 := by rw [eS541]; exact n509
  have n558 : sL S541 q134 = 6 := by rw [eS541]; exact n510
  have n559 : sL S541 q211 = 6 := by rw [eS541]; exact n511
  have n560 : sL S541 q295 = 6 := by rw [eS541]; exact n512
  have n561 : sL S541 q386 = 6 := by rw [eS541]; exact n513
  have n562 : sL S541 q484 = 6 := by rw [eS541]; exact n540
  have w563 : sI S541 h 1 = 0 := by rw [eS541]; exact w514
  have w564 : sI S541 h 2 = 0 := by rw [eS541]; exact w515
  have w565 : sI S541 h 3 = 0 := by rw [eS541]; exact w516
  have w566 : sI S541 h 4 = 0 := by rw [eS541]; exact w517
  have w567 : sI S541 h 11 = 0 := by rw [eS541]; exact w518
  have w568 : sI S541 h 12 = 0 := by rw [eS541]; exact w519
  have w569 : sI S541 h 13 = 0 := by rw [eS541]; exact w520
  have w570 : sI S541 h 14 = 0 := by rw [eS541]; exact w521
  have w571 : sI S541 h 15 = 0 := by rw [eS541]; exact w522
  have w572 : sI S541 h 16 = 0 := by rw [eS541]; exact w523
  have w573 : sI S541 h 17 = 0 := by rw [eS541]; exact w524
  have w574 : sI S541 h 18 = 0 := by rw [eS541]; exact w525
  have w575 : sI S541 h 19 = 0 := by rw [eS541]; exact w526
  have w576 : sI S541 h 20 = 0 := by rw [eS541]; exact w527
  have w577 : sI S541 h 21 = 0 := by rw [eS541]; exact w528
  have w578 : sI S541 h 22 = 0 := by rw [eS541]; exact w529
  have w579 : sI S541 h 23 = 0 := by rw [eS541]; exact w530
  have w580 : sI S541 h 24 = 0 := by rw [eS541]; exact w531
  have w581 : sI S541 h 25 = 0 := by rw [eS541]; exact w532
  have w582 : sI S541 h 35 = 0 := by rw [eS541]; exact w533
  have w583 : sI S541 h 36 = 0 := by rw [eS541]; exact w534
  have w584 : sI S541 h 53 = 0 := by rw [eS541]; exact w535
  have w585 : sI S541 h 54 = 0 := by rw [eS541]; exact w536
  have w586 : sI S541 h 55 = 0 := by rw [eS541]; exact w537
  have w587 : sI S541 h 60 = 0 := by rw [eS541]; exact w538
  have r588 : sR S541 h 10 = some q484 := by rw [eS541, rR, if_pos rfl, if_pos rfl]
  clear k488 k490 k492 k494 k496 k498 k500 k539 r502 r503 r504 r505 r506 r507 n508 n509 n510 n511 n512 n513 n540 w514 w515 w516 w517 w518 w519 w520 w521 w522 w523 w524 w525 w526 w527 w528 w529 w530 w531 w532 w533 w534 w535 w536 w537 w538
  refine lv_aload_n hx hb dX9_init_60 rfl (lv_at hl 0 rfl) ?_
  refine lv_sipush (v := 200) hx hb dX9_init_61 (by decide) ?_
  refine pg_pi (ci := 9) (C := RX9) (T := TX9) (N := 63) hx hb hts wi9 tyX9 tyX9_ok nmX9 hown hK hW hS k542 (by decide) rfl 19 (by decide) (hts (.fieldLink RX9 32 "IceHallModel" "store" "I") (by decide +kernel)) (fun _ h9 => h9) rfl rfl rfl dX9_init_64 (fun H locs hW hS => ?_)
  have hX : Kx [h] S (stI S541 h 19 200) := hX.Ih List.mem_cons_self
  have w589 : sI (stI S541 h 19 200) h 1 = 0 := (iI_k (by decide)).trans w563
  have w590 : sI (stI S541 h 19 200) h 2 = 0 := (iI_k (by decide)).trans w564
  have w591 : sI (stI S541 h 19 200) h 3 = 0 := (iI_k (by decide)).trans w565
  have w592 : sI (stI S541 h 19 200) h 4 = 0 := (iI_k (by decide)).trans w566
  have w593 : sI (stI S541 h 19 200) h 11 = 0 := (iI_k (by decide)).trans w567
  have w594 : sI (stI S541 h 19 200) h 12 = 0 := (iI_k (by decide)).trans w568
  have w595 : sI (stI S541 h 19 200) h 13 = 0 := (iI_k (by decide)).trans w569
  have w596 : sI (stI S541 h 19 200) h 14 = 0 := (iI_k (by decide)).trans w570
  have w597 : sI (stI S541 h 19 200) h 15 = 0 := (iI_k (by decide)).trans w571
  have w598 : sI (stI S541 h 19 200) h 16 = 0 := (iI_k (by decide)).trans w572
  have w599 : sI (stI S541 h 19 200) h 17 = 0 := (iI_k (by decide)).trans w573
  have w600 : sI (stI S541 h 19 200) h 18 = 0 := (iI_k (by decide)).trans w574
  have w601 : sI (stI S541 h 19 200) h 20 = 0 := (iI_k (by decide)).trans w576
  have w602 : sI (stI S541 h 19 200) h 21 = 0 := (iI_k (by decide)).trans w577
  have w603 : sI (stI S541 h 19 200) h 22 = 0 := (iI_k (by decide)).trans w578
  have w604 : sI (stI S541 h 19 200) h 23 = 0 := (iI_k (by decide)).trans w579
  have w605 : sI (stI S541 h 19 200) h 24 = 0 := (iI_k (by decide)).trans w580
  have w606 : sI (stI S541 h 19 200) h 25 = 0 := (iI_k (by decide)).trans w581
  have w607 : sI (stI S541 h 19 200) h 35 = 0 := (iI_k (by decide)).trans w582
  have w608 : sI (stI S541 h 19 200) h 36 = 0 := (iI_k (by decide)).trans w583
  have w609 : sI (stI S541 h 19 200) h 53 = 0 := (iI_k (by decide)).trans w584
  have w610 : sI (stI S541 h 19 200) h 54 = 0 := (iI_k (by decide)).trans w585
  have w611 : sI (stI S541 h 19 200) h 55 = 0 := (iI_k (by decide)).trans w586
  have w612 : sI (stI S541 h 19 200) h 60 = 0 := (iI_k (by decide)).trans w587
  have w613 : sI (stI S541 h 19 200) h 19 = 200 := iI_s
  clear w563 w564 w565 w566 w567 w568 w569 w570 w571 w572 w573 w574 w575 w576 w577 w578 w579 w580 w581 w582 w583 w584 w585 w586 w587
  refine lv_aload_n hx hb dX9_init_67 rfl (lv_at hl 0 rfl) ?_
  refine lv_sipush (v := 400) hx hb dX9_init_68 (by decide) ?_
  refine pg_pi (ci := 9) (C := RX9) (T := TX9) (N := 63) hx hb hts wi9 tyX9 tyX9_ok nmX9 hown hK hW hS k542 (by decide) rfl 23 (by decide) (hts (.fieldLink RX9 36 "IceHallModel" "mostOf" "I") (by decide +kernel)) (fun _ h9 => h9) rfl rfl rfl dX9_init_71 (fun H locs hW hS => ?_)
  have hX : Kx [h] S (stI (stI S541 h 19 200) h 23 400) := hX.Ih List.mem_cons_self
  have w614 : sI (stI (stI S541 h 19 200) h 23 400) h 1 = 0 := (iI_k (by decide)).trans w589
  have w615 : sI (stI (stI S541 h 19 200) h 23 400) h 2 = 0 := (iI_k (by decide)).trans w590
  have w616 : sI (stI (stI S541 h 19 200) h 23 400) h 3 = 0 := (iI_k (by decide)).trans w591
  have w617 : sI (stI (stI S541 h 19 200) h 23 400) h 4 = 0 := (iI_k (by decide)).trans w592
  have w618 : sI (stI (stI S541 h 19 200) h 23 400) h 11 = 0 := (iI_k (by decide)).trans w593
  have w619 : sI (stI (stI S541 h 19 200) h 23 400) h 12 = 0 := (iI_k (by decide)).trans w594
  have w620 : sI (stI (stI S541 h 19 200) h 23 400) h 13 = 0 := (iI_k (by decide)).trans w595
  have w621 : sI (stI (stI S541 h 19 200) h 23 400) h 14 = 0 := (iI_k (by decide)).trans w596
  have w622 : sI (stI (stI S541 h 19 200) h 23 400) h 15 = 0 := (iI_k (by decide)).trans w597
  have w623 : sI (stI (stI S541 h 19 200) h 23 400) h 16 = 0 := (iI_k (by decide)).trans w598
  have w624 : sI (stI (stI S541 h 19 200) h 23 400) h 17 = 0 := (iI_k (by decide)).trans w599
  have w625 : sI (stI (stI S541 h 19 200) h 23 400) h 18 = 0 := (iI_k (by decide)).trans w600
  have w626 : sI (stI (stI S541 h 19 200) h 23 400) h 20 = 0 := (iI_k (by decide)).trans w601
  have w627 : sI (stI (stI S541 h 19 200) h 23 400) h 21 = 0 := (iI_k (by decide)).trans w602
  have w628 : sI (stI (stI S541 h 19 200) h 23 400) h 22 = 0 := (iI_k (by decide)).trans w603
  have w629 : sI (stI (stI S541 h 19 200) h 23 400) h 24 = 0 := (iI_k (by decide)).trans w605
  have w630 : sI (stI (stI S541 h 19 200) h 23 400) h 25 = 0 := (iI_k (by decide)).trans w606
  have w631 : sI (stI (stI S541 h 19 200) h 23 400) h 35 = 0 := (iI_k (by decide)).trans w607
  have w632 : sI (stI (stI S541 h 19 200) h 23 400) h 36 = 0 := (iI_k (by decide)).trans w608
  have w633 : sI (stI (stI S541 h 19 200) h 23 400) h 53 = 0 := (iI_k (by decide)).trans w609
  have w634 : sI (stI (stI S541 h 19 200) h 23 400) h 54 = 0 := (iI_k (by decide)).trans w610
  have w635 : sI (stI (stI S541 h 19 200) h 23 400) h 55 = 0 := (iI_k (by decide)).trans w611
  have w636 : sI (stI (stI S541 h 19 200) h 23 400) h 60 = 0 := (iI_k (by decide)).trans w612
  have w637 : sI (stI (stI S541 h 19 200) h 23 400) h 19 = 200 := (iI_k (by decide)).trans w613
  have w638 : sI (stI (stI S541 h 19 200) h 23 400) h 23 = 400 := iI_s
  clear w589 w590 w591 w592 w593 w594 w595 w596 w597 w598 w599 w600 w601 w602 w603 w604 w605 w606 w607 w608 w609 w610 w611 w612 w613
  refine lv_aload_n hx hb dX9_init_74 rfl (lv_at hl 0 rfl) ?_
  refine lv_iconst (v := 3) hx hb dX9_init_75 (by decide) ?_
  refine pg_pi (ci := 9) (C := RX9) (T := TX9) (N := 63) hx hb hts wi9 tyX9 tyX9_ok nmX9 hown hK hW hS k542 (by decide) rfl 24 (by decide) (hts (.fieldLink RX9 39 "IceHallModel" "working" "I") (by decide +kernel)) (fun _ h9 => h9) rfl rfl rfl dX9_init_76 (fun H locs hW hS => ?_)
  have hX : Kx [h] S (stI (stI (stI S541 h 19 200) h 23 400) h 24 3) := hX.Ih List.mem_cons_self
  have w639 : sI (stI (stI (stI S541 h 19 200) h 23 400) h 24 3) h 1 = 0 := (iI_k (by decide)).trans w614
  have w640 : sI (stI (stI (stI S541 h 19 200) h 23 400) h 24 3) h 2 = 0 := (iI_k (by decide)).trans w615
  have w641 : sI (stI (stI (stI S541 h 19 200) h 23 400) h 24 3) h 3 = 0 := (iI_k (by decide)).trans w616
  have w642 : sI (stI (stI (stI S541 h 19 200) h 23 400) h 24 3) h 4 = 0 := (iI_k (by decide)).trans w617
  have w643 : sI (stI (stI (stI S541 h 19 200) h 23 400) h 24 3) h 11 = 0 := (iI_k (by decide)).trans w618
  have w644 : sI (stI (stI (stI S541 h 19 200) h 23 400) h 24 3) h 12 = 0 := (iI_k (by decide)).trans w619
  have w645 : sI (stI (stI (stI S541 h 19 200) h 23 400) h 24 3) h 13 = 0 := (iI_k (by decide)).trans w620
  have w646 : sI (stI (stI (stI S541 h 19 200) h 23 400) h 24 3) h 14 = 0 := (iI_k (by decide)).trans w621
  have w647 : sI (stI (stI (stI S541 h 19 200) h 23 400) h 24 3) h 15 = 0 := (iI_k (by decide)).trans w622
  have w648 : sI (stI (stI (stI S541 h 19 200) h 23 400) h 24 3) h 16 = 0 := (iI_k (by decide)).trans w623
  have w649 : sI (stI (stI (stI S541 h 19 200) h 23 400) h 24 3) h 17 = 0 := (iI_k (by decide)).trans w624
  have w650 : sI (stI (stI (stI S541 h 19 200) h 23 400) h 24 3) h 18 = 0 := (iI_k (by decide)).trans w625
  have w651 : sI (stI (stI (stI S541 h 19 200) h 23 400) h 24 3) h 20 = 0 := (iI_k (by decide)).trans w626
  have w652 : sI (stI (stI (stI S541 h 19 200) h 23 400) h 24 3) h 21 = 0 := (iI_k (by decide)).trans w627
  have w653 : sI (stI (stI (stI S541 h 19 200) h 23 400) h 24 3) h 22 = 0 := (iI_k (by decide)).trans w628
  have w654 : sI (stI (stI (stI S541 h 19 200) h 23 400) h 24 3) h 25 = 0 := (iI_k (by decide)).trans w630
  have w655 : sI (stI (stI (stI S541 h 19 200) h 23 400) h 24 3) h 35 = 0 := (iI_k (by decide)).trans w631
  have w656 : sI (stI (stI (stI S541 h 19 200) h 23 400) h 24 3) h 36 = 0 := (iI_k (by decide)).trans w632
  have w657 : sI (stI (stI (stI S541 h 19 200) h 23 400) h 24 3) h 53 = 0 := (iI_k (by decide)).trans w633
  have w658 : sI (stI (stI (stI S541 h 19 200) h 23 400) h 24 3) h 54 = 0 := (iI_k (by decide)).trans w634
  have w659 : sI (stI (stI (stI S541 h 19 200) h 23 400) h 24 3) h 55 = 0 := (iI_k (by decide)).trans w635
  have w660 : sI (stI (stI (stI S541 h 19 200) h 23 400) h 24 3) h 60 = 0 := (iI_k (by decide)).trans w636
  have w661 : sI (stI (stI (stI S541 h 19 200) h 23 400) h 24 3) h 19 = 200 := (iI_k (by decide)).trans w637
  have w662 : sI (stI (stI (stI S541 h 19 200) h 23 400) h 24 3) h 23 = 400 := (iI_k (by decide)).trans w638
  have w663 : sI (stI (stI (stI S541 h 19 200) h 23 400) h 24 3) h 24 = 3 := iI_s
  clear w614 w615 w616 w617 w618 w619 w620 w621 w622 w623 w624 w625 w626 w627 w628 w629 w630 w631 w632 w633 w634 w635 w636 w637 w638
  refine lv_aload_n hx hb dX9_init_79 rfl (lv_at hl 0 rfl) ?_
  refine lv_iconst (v := 2) hx hb dX9_init_80 (by decide) ?_
  refine pg_pi (ci := 9) (C := RX9) (T := TX9) (N := 63) hx hb hts wi9 tyX9 tyX9_ok nmX9 hown hK hW hS k542 (by decide) rfl 25 (by decide) (hts (.fieldLink RX9 42 "IceHallModel" "restOf" "I") (by decide +kernel)) (fun _ h9 => h9) rfl rfl rfl dX9_init_81 (fun H locs hW hS => ?_)
  have hX : Kx [h] S (stI (stI (stI (stI S541 h 19 200) h 23 400) h 24 3) h 25 2) := hX.Ih List.mem_cons_self
  have w664 : sI (stI (stI (stI (stI S541 h 19 200) h 23 400) h 24 3) h 25 2) h 1 = 0 := (iI_k (by decide)).trans w639
  have w665 : sI (stI (stI (stI (stI S541 h 19 200) h 23 400) h 24 3) h 25 2) h 2 = 0 := (iI_k (by decide)).trans w640
  have w666 : sI (stI (stI (stI (stI S541 h 19 200) h 23 400) h 24 3) h 25 2) h 3 = 0 := (iI_k (by decide)).trans w641
  have w667 : sI (stI (stI (stI (stI S541 h 19 200) h 23 400) h 24 3) h 25 2) h 4 = 0 := (iI_k (by decide)).trans w642
  have w668 : sI (stI (stI (stI (stI S541 h 19 200) h 23 400) h 24 3) h 25 2) h 11 = 0 := (iI_k (by decide)).trans w643
  have w669 : sI (stI (stI (stI (stI S541 h 19 200) h 23 400) h 24 3) h 25 2) h 12 = 0 := (iI_k (by decide)).trans w644
  have w670 : sI (stI (stI (stI (stI S541 h 19 200) h 23 400) h 24 3) h 25 2) h 13 = 0 := (iI_k (by decide)).trans w645
  have w671 : sI (stI (stI (stI (stI S541 h 19 200) h 23 400) h 24 3) h 25 2) h 14 = 0 := (iI_k (by decide)).trans w646
  have w672 : sI (stI (stI (stI (stI S541 h 19 200) h 23 400) h 24 3) h 25 2) h 15 = 0 := (iI_k (by decide)).trans w647
  have w673 : sI (stI (stI (stI (stI S541 h 19 200) h 23 400) h 24 3) h 25 2) h 16 = 0 := (iI_k (by decide)).trans w648
  have w674 : sI (stI (stI (stI (stI S541 h 19 200) h 23 400) h 24 3) h 25 2) h 17 = 0 := (iI_k (by decide)).trans w649
  have w675 : sI (stI (stI (stI (stI S541 h 19 200) h 23 400) h 24 3) h 25 2) h 18 = 0 := (iI_k (by decide)).trans w650
  have w676 : sI (stI (stI (stI (stI S541 h 19 200) h 23 400) h 24 3) h 25 2) h 20 = 0 := (iI_k (by decide)).trans w651
  have w677 : sI (stI (stI (stI (stI S541 h 19 200) h 23 400) h 24 3) h 25 2) h 21 = 0 := (iI_k (by decide)).trans w652
  have w678 : sI (stI (stI (stI (stI S541 h 19 200) h 23 400) h 24 3) h 25 2) h 22 = 0 := (iI_k (by decide)).trans w653
  have w679 : sI (stI (stI (stI (stI S541 h 19 200) h 23 400) h 24 3) h 25 2) h 35 = 0 := (iI_k (by decide)).trans w655
  have w680 : sI (stI (stI (stI (stI S541 h 19 200) h 23 400) h 24 3) h 25 2) h 36 = 0 := (iI_k (by decide)).trans w656
  have w681 : sI (stI (stI (stI (stI S541 h 19 200) h 23 400) h 24 3) h 25 2) h 53 = 0 := (iI_k (by decide)).trans w657
  have w682 : sI (stI (stI (stI (stI S541 h 19 200) h 23 400) h 24 3) h 25 2) h 54 = 0 := (iI_k (by decide)).trans w658
  have w683 : sI (stI (stI (stI (stI S541 h 19 200) h 23 400) h 24 3) h 25 2) h 55 = 0 := (iI_k (by decide)).trans w659
  have w684 : sI (stI (stI (stI (stI S541 h 19 200) h 23 400) h 24 3) h 25 2) h 60 = 0 := (iI_k (by decide)).trans w660
  have w685 : sI (stI (stI (stI (stI S541 h 19 200) h 23 400) h 24 3) h 25 2) h 19 = 200 := (iI_k (by decide)).trans w661
  have w686 : sI (stI (stI (stI (stI S541 h 19 200) h 23 400) h 24 3) h 25 2) h 23 = 400 := (iI_k (by decide)).trans w662
  have w687 : sI (stI (stI (stI (stI S541 h 19 200) h 23 400) h 24 3) h 25 2) h 24 = 3 := (iI_k (by decide)).trans w663
  have w688 : sI (stI (stI (stI (stI S541 h 19 200) h 23 400) h 24 3) h 25 2) h 25 = 2 := iI_s
  clear w639 w640 w641 w642 w643 w644 w645 w646 w647 w648 w649 w650 w651 w652 w653 w654 w655 w656 w657 w658 w659 w660 w661 w662 w663
  refine lv_aload_n hx hb dX9_init_84 rfl (lv_at hl 0 rfl) ?_
  refine lv_bipush (v := 24) hx hb dX9_init_85 (by decide) ?_
  refine pg_newa (atype := .int) (ty := .int) (kd := 11) (t0 := 1) (N' := 24) hx hb (hts (.arrayClass .int) (by decide +kernel)) rfl rfl (Or.inl rfl) (by decide) hK hW hS hA (fun _ => rfl) (by decide) (by decide) (Nat.le_of_ble_eq_true rfl) (Nat.le_of_ble_eq_true rfl) (Nat.le_of_ble_eq_true rfl) dX9_init_87 (fun q689 H hq689 hW hS => ?_)
  have f691 : Ap h q689 := ap_k k542 hq689 (by decide)
  have o692 : 16 ≤ sK S q689 := hX.old hq689 (ni_c (ap_s f691) ni_0)
  have hX : Kx [h] S (stN (stI (stI (stI (stI S541 h 19 200) h 23 400) h 24 3) h 25 2) q689 11 24) := hX.N hq689
  obtain ⟨S690, eS690⟩ : ∃ T : St, T = stN (stI (stI (stI (stI S541 h 19 200) h 23 400) h 24 3) h 25 2) q689 11 24 := ⟨_, rfl⟩
  rw [← eS690] at hW hX
  obtain ⟨k693, d694⟩ := fk_N (a := h) eS690 k542 (by decide) hq689
  obtain ⟨k695, d696⟩ := fk_N (a := q1) eS690 k543 (by decide) hq689
  obtain ⟨k697, d698⟩ := fk_N (a := q64) eS690 k544 (by decide) hq689
  obtain ⟨k699, d700⟩ := fk_N (a := q134) eS690 k545 (by decide) hq689
  obtain ⟨k701, d702⟩ := fk_N (a := q211) eS690 k546 (by decide) hq689
  obtain ⟨k703, d704⟩ := fk_N (a := q295) eS690 k547 (by decide) hq689
  obtain ⟨k705, d706⟩ := fk_N (a := q386) eS690 k548 (by decide) hq689
  obtain ⟨k707, d708⟩ := fk_N (a := q484) eS690 k549 (by decide) hq689
  have r709 : sR S690 h 0 = some q1 := by rw [eS690, rN, if_neg d694]; exact r550
  have r710 : sR S690 h 5 = some q64 := by rw [eS690, rN, if_neg d694]; exact r551
  have r711 : sR S690 h 6 = some q134 := by rw [eS690, rN, if_neg d694]; exact r552
  have r712 : sR S690 h 7 = some q211 := by rw [eS690, rN, if_neg d694]; exact r553
  have r713 : sR S690 h 8 = some q295 := by rw [eS690, rN, if_neg d694]; exact r554
  have r714 : sR S690 h 9 = some q386 := by rw [eS690, rN, if_neg d694]; exact r555
  have r715 : sR S690 h 10 = some q484 := by rw [eS690, rN, if_neg d694]; exact r588
  have n716 : sL S690 q1 = 80 := by rw [eS690, lNw, if_neg d696]; exact n556
  have n717 : sL S690 q64 = 6 := by rw [eS690, lNw, if_neg d698]; exact n557
  have n718 : sL S690 q134 = 6 := by rw [eS690, lNw, if_neg d700]; exact n558
  have n719 : sL S690 q211 = 6 := by rw [eS690, lNw, if_neg d702]; exact n559
  have n720 : sL S690 q295 = 6 := by rw [eS690, lNw, if_neg d704]; exact n560
  have n721 : sL S690 q386 = 6 := by rw [eS690, lNw, if_neg d706]; exact n561
  have n722 : sL S690 q484 = 6 := by rw [eS690, lNw, if_neg d708]; exact n562
  have w723 : sI S690 h 1 = 0 := by rw [eS690, iN, if_neg d694]; exact w664
  have w724 : sI S690 h 2 = 0 := by rw [eS690, iN, if_neg d694]; exact w665
  have w725 : sI S690 h 3 = 0 := by rw [eS690, iN, if_neg d694]; exact w666
  have w726 : sI S690 h 4 = 0 := by rw [eS690, iN, if_neg d694]; exact w667
  have w727 : sI S690 h 11 = 0 := by rw [eS690, iN, if_neg d694]; exact w668
  have w728 : sI S690 h 12 = 0 := by rw [eS690, iN, if_neg d694]; exact w669
  have w729 : sI S690 h 13 = 0 := by rw [eS690, iN, if_neg d694]; exact w670
  have w730 : sI S690 h 14 = 0 := by rw [eS690, iN, if_neg d694]; exact w671
  have w731 : sI S690 h 15 = 0 := by rw [eS690, iN, if_neg d694]; exact w672
  have w732 : sI S690 h 16 = 0 := by rw [eS690, iN, if_neg d694]; exact w673
  have w733 : sI S690 h 17 = 0 := by rw [eS690, iN, if_neg d694]; exact w674
  have w734 : sI S690 h 18 = 0 := by rw [eS690, iN, if_neg d694]; exact w675
  have w735 : sI S690 h 20 = 0 := by rw [eS690, iN, if_neg d694]; exact w676
  have w736 : sI S690 h 21 = 0 := by rw [eS690, iN, if_neg d694]; exact w677
  have w737 : sI S690 h 22 = 0 := by rw [eS690, iN, if_neg d694]; exact w678
  have w738 : sI S690 h 35 = 0 := by rw [eS690, iN, if_neg d694]; exact w679
  have w739 : sI S690 h 36 = 0 := by rw [eS690, iN, if_neg d694]; exact w680
  have w740 : sI S690 h 53 = 0 := by rw [eS690, iN, if_neg d694]; exact w681
  have w741 : sI S690 h 54 = 0 := by rw [eS690, iN, if_neg d694]; exact w682
  have w742 : sI S690 h 55 = 0 := by rw [eS690, iN, if_neg d694]; exact w683
  have w743 : sI S690 h 60 = 0 := by rw [eS690, iN, if_neg d694]; exact w684
  have w744 : sI S690 h 19 = 200 := by rw [eS690, iN, if_neg d694]; exact w685
  have w745 : sI S690 h 23 = 400 := by rw [eS690, iN, if_neg d694]; exact w686
  have w746 : sI S690 h 24 = 3 := by rw [eS690, iN, if_neg d694]; exact w687
  have w747 : sI S690 h 25 = 2 := by rw [eS690, iN, if_neg d694]; exact w688
  have k748 : sK S690 q689 = 11 := by rw [eS690, kN, if_pos rfl]
  have n749 : sL S690 q689 = 24 := by rw [eS690, lNw, if_pos rfl]
  clear k542 k543 k544 k545 k546 k547 k548 k549 r550 r551 r552 r553 r554 r555 r588 n556 n557 n558 n559 n560 n561 n562 w664 w665 w666 w667 w668 w669 w670 w671 w672 w673 w674 w675 w676 w677 w678 w679 w680 w681 w682 w683 w684 w685 w686 w687 w688
  refine pg_pr (ci := 9) (C := RX9) (T := TX9) (N := 63) hx hb hts wi9 tyX9 tyX9_ok nmX9 hown hK hW hS k693 (by decide) rfl 26 (by decide) (hts (.fieldLink RX9 45 "IceHallModel" "priceOf" "[I") (by decide +kernel)) (fun _ h9 => h9) rfl hnm rfl rfl rfl rfl dX9_init_89 (fun H locs hW hS => ?_)
  have hX : Kx [h] S (stR S690 h 26 (some q689)) := hX.Rh List.mem_cons_self
  obtain ⟨S750, eS750⟩ : ∃ T : St, T = stR S690 h 26 (some q689) := ⟨_, rfl⟩
  rw [← eS750] at hW hX
  have k751 : sK S750 h = 9 := by rw [eS750]; exact k693
  have k752 : sK S750 q1 = 10 := by rw [eS750]; exact k695
  have k753 : sK S750 q64 = 11 := by rw [eS750]; exact k697
  have k754 : sK S750 q134 = 11 := by rw [eS750]; exact k699
  have k755 : sK S750 q211 = 11 := by rw [eS750]; exact k701
  have k756 : sK S750 q295 = 11 := by rw [eS750]; exact k703
  have k757 : sK S750 q386 = 11 := by rw [eS750]; exact k705
  have k758 : sK S750 q484 = 11 := by rw [eS750]; exact k707
  have k759 : sK S750 q689 = 11 := by rw [eS750]; exact k748
  have r760 : sR S750 h 0 = some q1 := by rw [eS750, rR, if_pos rfl, if_neg (by decide)]; exact r709
  have r761 : sR S750 h 5 = some q64 := by rw [eS750, rR, if_pos rfl, if_neg (by decide)]; exact r710
  have r762 : sR S750 h 6 = some q134 := by rw [eS750, rR, if_pos rfl, if_neg (by decide)]; exact r711
  have r763 : sR S750 h 7 = some q211 := by rw [eS750, rR, if_pos rfl, if_neg (by decide)]; exact r712
  have r764 : sR S750 h 8 = some q295 := by rw [eS750, rR, if_pos rfl, if_neg (by decide)]; exact r713
  have r765 : sR S750 h 9 = some q386 := by rw [eS750, rR, if_pos rfl, if_neg (by decide)]; exact r714
  have r766 : sR S750 h 10 = some q484 := by rw [eS750, rR, if_pos rfl, if_neg (by decide)]; exact r715
  have n767 : sL S750 q1 = 80 := by rw [eS750]; exact n716
  have n768 : sL S750 q64 = 6 := by rw [eS750]; exact n717
  have n769 : sL S750 q134 = 6 := by rw [eS750]; exact n718
  have n770 : sL S750 q211 = 6 := by rw [eS750]; exact n719
  have n771 : sL S750 q295 = 6 := by rw [eS750]; exact n720
  have n772 : sL S750 q386 = 6 := by rw [eS750]; exact n721
  have n773 : sL S750 q484 = 6 := by rw [eS750]; exact n722
  have n774 : sL S750 q689 = 24 := by rw [eS750]; exact n749
  have w775 : sI S750 h 1 = 0 := by rw [eS750]; exact w723
  have w776 : sI S750 h 2 = 0 := by rw [eS750]; exact w724
  have w777 : sI S750 h 3 = 0 := by rw [eS750]; exact w725
  have w778 : sI S750 h 4 = 0 := by rw [eS750]; exact w726
  have w779 : sI S750 h 11 = 0 := by rw [eS750]; exact w727
  have w780 : sI S750 h 12 = 0 := by rw [eS750]; exact w728
  have w781 : sI S750 h 13 = 0 := by rw [eS750]; exact w729
  have w782 : sI S750 h 14 = 0 := by rw [eS750]; exact w730
  have w783 : sI S750 h 15 = 0 := by rw [eS750]; exact w731
  have w784 : sI S750 h 16 = 0 := by rw [eS750]; exact w732
  have w785 : sI S750 h 17 = 0 := by rw [eS750]; exact w733
  have w786 : sI S750 h 18 = 0 := by rw [eS750]; exact w734
  have w787 : sI S750 h 20 = 0 := by rw [eS750]; exact w735
  have w788 : sI S750 h 21 = 0 := by rw [eS750]; exact w736
  have w789 : sI S750 h 22 = 0 := by rw [eS750]; exact w737
  have w790 : sI S750 h 35 = 0 := by rw [eS750]; exact w738
  have w791 : sI S750 h 36 = 0 := by rw [eS750]; exact w739
  have w792 : sI S750 h 53 = 0 := by rw [eS750]; exact w740
  have w793 : sI S750 h 54 = 0 := by rw [eS750]; exact w741
  have w794 : sI S750 h 55 = 0 := by rw [eS750]; exact w742
  have w795 : sI S750 h 60 = 0 := by rw [eS750]; exact w743
  have w796 : sI S750 h 19 = 200 := by rw [eS750]; exact w744
  have w797 : sI S750 h 23 = 400 := by rw [eS750]; exact w745
  have w798 : sI S750 h 24 = 3 := by rw [eS750]; exact w746
  have w799 : sI S750 h 25 = 2 := by rw [eS750]; exact w747
  have r800 : sR S750 h 26 = some q689 := by rw [eS750, rR, if_pos rfl, if_pos rfl]
  clear k693 k695 k697 k699 k701 k703 k705 k707 k748 r709 r710 r711 r712 r713 r714 r715 n716 n717 n718 n719 n720 n721 n722 n749 w723 w724 w725 w726 w727 w728 w729 w730 w731 w732 w733 w734 w735 w736 w737 w738 w739 w740 w741 w742 w743 w744 w745 w746 w747
  refine lv_aload_n hx hb dX9_init_92 rfl (lv_at hl 0 rfl) ?_
  refine lv_iconst (v := 2) hx hb dX9_init_93 (by decide) ?_
  refine pg_newa (atype := .int) (ty := .int) (kd := 11) (t0 := 1) (N' := 2) hx hb (hts (.arrayClass .int) (by decide +kernel)) rfl rfl (Or.inl rfl) (by decide) hK hW hS hA (fun _ => rfl) (by decide) (by decide) (Nat.le_of_ble_eq_true rfl) (Nat.le_of_ble_eq_true rfl) (Nat.le_of_ble_eq_true rfl) dX9_init_94 (fun q801 H hq801 hW hS => ?_)
  have f803 : Ap h q801 := ap_k k751 hq801 (by decide)
  have o804 : 16 ≤ sK S q801 := hX.old hq801 (ni_c (ap_s f803) ni_0)
  have hX : Kx [h] S (stN S750 q801 11 2) := hX.N hq801
  obtain ⟨S802, eS802⟩ : ∃ T : St, T = stN S750 q801 11 2 := ⟨_, rfl⟩
  rw [← eS802] at hW hX
  obtain ⟨k805, d806⟩ := fk_N (a := h) eS802 k751 (by decide) hq801
  obtain ⟨k807, d808⟩ := fk_N (a := q1) eS802 k752 (by decide) hq801
  obtain ⟨k809, d810⟩ := fk_N (a := q64) eS802 k753 (by decide) hq801
  obtain ⟨k811, d812⟩ := fk_N (a := q134) eS802 k754 (by decide) hq801
  obtain ⟨k813, d814⟩ := fk_N (a := q211) eS802 k755 (by decide) hq801
  obtain ⟨k815, d816⟩ := fk_N (a := q295) eS802 k756 (by decide) hq801
  obtain ⟨k817, d818⟩ := fk_N (a := q386) eS802 k757 (by decide) hq801
  obtain ⟨k819, d820⟩ := fk_N (a := q484) eS802 k758 (by decide) hq801
  obtain ⟨k821, d822⟩ := fk_N (a := q689) eS802 k759 (by decide) hq801
  have r823 : sR S802 h 0 = some q1 := by rw [eS802, rN, if_neg d806]; exact r760
  have r824 : sR S802 h 5 = some q64 := by rw [eS802, rN, if_neg d806]; exact r761
  have r825 : sR S802 h 6 = some q134 := by rw [eS802, rN, if_neg d806]; exact r762
  have r826 : sR S802 h 7 = some q211 := by rw [eS802, rN, if_neg d806]; exact r763
  have r827 : sR S802 h 8 = some q295 := by rw [eS802, rN, if_neg d806]; exact r764
  have r828 : sR S802 h 9 = some q386 := by rw [eS802, rN, if_neg d806]; exact r765
  have r829 : sR S802 h 10 = some q484 := by rw [eS802, rN, if_neg d806]; exact r766
  have r830 : sR S802 h 26 = some q689 := by rw [eS802, rN, if_neg d806]; exact r800
  have n831 : sL S802 q1 = 80 := by rw [eS802, lNw, if_neg d808]; exact n767
  have n832 : sL S802 q64 = 6 := by rw [eS802, lNw, if_neg d810]; exact n768
  have n833 : sL S802 q134 = 6 := by rw [eS802, lNw, if_neg d812]; exact n769
  have n834 : sL S802 q211 = 6 := by rw [eS802, lNw, if_neg d814]; exact n770
  have n835 : sL S802 q295 = 6 := by rw [eS802, lNw, if_neg d816]; exact n771
  have n836 : sL S802 q386 = 6 := by rw [eS802, lNw, if_neg d818]; exact n772
  have n837 : sL S802 q484 = 6 := by rw [eS802, lNw, if_neg d820]; exact n773
  have n838 : sL S802 q689 = 24 := by rw [eS802, lNw, if_neg d822]; exact n774
  have w839 : sI S802 h 1 = 0 := by rw [eS802, iN, if_neg d806]; exact w775
  have w840 : sI S802 h 2 = 0 := by rw [eS802, iN, if_neg d806]; exact w776
  have w841 : sI S802 h 3 = 0 := by rw [eS802, iN, if_neg d806]; exact w777
  have w842 : sI S802 h 4 = 0 := by rw [eS802, iN, if_neg d806]; exact w778
  have w843 : sI S802 h 11 = 0 := by rw [eS802, iN, if_neg d806]; exact w779
  have w844 : sI S802 h 12 = 0 := by rw [eS802, iN, if_neg d806]; exact w780
  have w845 : sI S802 h 13 = 0 := by rw [eS802, iN, if_neg d806]; exact w781
  have w846 : sI S802 h 14 = 0 := by rw [eS802, iN, if_neg d806]; exact w782
  have w847 : sI S802 h 15 = 0 := by rw [eS802, iN, if_neg d806]; exact w783
  have w848 : sI S802 h 16 = 0 := by rw [eS802, iN, if_neg d806]; exact w784
  have w849 : sI S802 h 17 = 0 := by rw [eS802, iN, if_neg d806]; exact w785
  have w850 : sI S802 h 18 = 0 := by rw [eS802, iN, if_neg d806]; exact w786
  have w851 : sI S802 h 20 = 0 := by rw [eS802, iN, if_neg d806]; exact w787
  have w852 : sI S802 h 21 = 0 := by rw [eS802, iN, if_neg d806]; exact w788
  have w853 : sI S802 h 22 = 0 := by rw [eS802, iN, if_neg d806]; exact w789
  have w854 : sI S802 h 35 = 0 := by rw [eS802, iN, if_neg d806]; exact w790
  have w855 : sI S802 h 36 = 0 := by rw [eS802, iN, if_neg d806]; exact w791
  have w856 : sI S802 h 53 = 0 := by rw [eS802, iN, if_neg d806]; exact w792
  have w857 : sI S802 h 54 = 0 := by rw [eS802, iN, if_neg d806]; exact w793
  have w858 : sI S802 h 55 = 0 := by rw [eS802, iN, if_neg d806]; exact w794
  have w859 : sI S802 h 60 = 0 := by rw [eS802, iN, if_neg d806]; exact w795
  have w860 : sI S802 h 19 = 200 := by rw [eS802, iN, if_neg d806]; exact w796
  have w861 : sI S802 h 23 = 400 := by rw [eS802, iN, if_neg d806]; exact w797
  have w862 : sI S802 h 24 = 3 := by rw [eS802, iN, if_neg d806]; exact w798
  have w863 : sI S802 h 25 = 2 := by rw [eS802, iN, if_neg d806]; exact w799
  have w864 : ∀ j, j < 2 → sI S802 q801 j = 0 := fun j _ => by rw [eS802, iN, if_pos rfl]
  have k865 : sK S802 q801 = 11 := by rw [eS802, kN, if_pos rfl]
  have n866 : sL S802 q801 = 2 := by rw [eS802, lNw, if_pos rfl]
  clear k751 k752 k753 k754 k755 k756 k757 k758 k759 r760 r761 r762 r763 r764 r765 r766 r800 n767 n768 n769 n770 n771 n772 n773 n774 w775 w776 w777 w778 w779 w780 w781 w782 w783 w784 w785 w786 w787 w788 w789 w790 w791 w792 w793 w794 w795 w796 w797 w798 w799
  refine pg_pr (ci := 9) (C := RX9) (T := TX9) (N := 63) hx hb hts wi9 tyX9 tyX9_ok nmX9 hown hK hW hS k805 (by decide) rfl 27 (by decide) (hts (.fieldLink RX9 48 "IceHallModel" "thick" "[I") (by decide +kernel)) (fun _ h9 => h9) rfl hnm rfl rfl rfl rfl dX9_init_96 (fun H locs hW hS => ?_)
  have hX : Kx [h] S (stR S802 h 27 (some q801)) := hX.Rh List.mem_cons_self
  obtain ⟨S867, eS867⟩ : ∃ T : St, T = stR S802 h 27 (some q801) := ⟨_, rfl⟩
  rw [← eS867] at hW hX
  have k868 : sK S867 h = 9 := by rw [eS867]; exact k805
  have k869 : sK S867 q1 = 10 := by rw [eS867]; exact k807
  have k870 : sK S867 q64 = 11 := by rw [eS867]; exact k809
  have k871 : sK S867 q134 = 11 := by rw [eS867]; exact k811
  have k872 : sK S867 q211 = 11 := by rw [eS867]; exact k813
  have k873 : sK S867 q295 = 11 := by rw [eS867]; exact k815
  have k874 : sK S867 q386 = 11 := by rw [eS867]; exact k817
  have k875 : sK S867 q484 = 11 := by rw [eS867]; exact k819
  have k876 : sK S867 q689 = 11 := by rw [eS867]; exact k821
  have k877 : sK S867 q801 = 11 := by rw [eS867]; exact k865
  have r878 : sR S867 h 0 = some q1 := by rw [eS867, rR, if_pos rfl, if_neg (by decide)]; exact r823
  have r879 : sR S867 h 5 = some q64 := by rw [eS867, rR, if_pos rfl, if_neg (by decide)]; exact r824
  have r880 : sR S867 h 6 = some q134 := by rw [eS867, rR, if_pos rfl, if_neg (by decide)]; exact r825
  have r881 : sR S867 h 7 = some q211 := by rw [eS867, rR, if_pos rfl, if_neg (by decide)]; exact r826
  have r882 : sR S867 h 8 = some q295 := by rw [eS867, rR, if_pos rfl, if_neg (by decide)]; exact r827
  have r883 : sR S867 h 9 = some q386 := by rw [eS867, rR, if_pos rfl, if_neg (by decide)]; exact r828
  have r884 : sR S867 h 10 = some q484 := by rw [eS867, rR, if_pos rfl, if_neg (by decide)]; exact r829
  have r885 : sR S867 h 26 = some q689 := by rw [eS867, rR, if_pos rfl, if_neg (by decide)]; exact r830
  have n886 : sL S867 q1 = 80 := by rw [eS867]; exact n831
  have n887 : sL S867 q64 = 6 := by rw [eS867]; exact n832
  have n888 : sL S867 q134 = 6 := by rw [eS867]; exact n833
  have n889 : sL S867 q211 = 6 := by rw [eS867]; exact n834
  have n890 : sL S867 q295 = 6 := by rw [eS867]; exact n835
  have n891 : sL S867 q386 = 6 := by rw [eS867]; exact n836
  have n892 : sL S867 q484 = 6 := by rw [eS867]; exact n837
  have n893 : sL S867 q689 = 24 := by rw [eS867]; exact n838
  have n894 : sL S867 q801 = 2 := by rw [eS867]; exact n866
  have w895 : sI S867 h 1 = 0 := by rw [eS867]; exact w839
  have w896 : sI S867 h 2 = 0 := by rw [eS867]; exact w840
  have w897 : sI S867 h 3 = 0 := by rw [eS867]; exact w841
  have w898 : sI S867 h 4 = 0 := by rw [eS867]; exact w842
  have w899 : sI S867 h 11 = 0 := by rw [eS867]; exact w843
  have w900 : sI S867 h 12 = 0 := by rw [eS867]; exact w844
  have w901 : sI S867 h 13 = 0 := by rw [eS867]; exact w845
  have w902 : sI S867 h 14 = 0 := by rw [eS867]; exact w846
  have w903 : sI S867 h 15 = 0 := by rw [eS867]; exact w847
  have w904 : sI S867 h 16 = 0 := by rw [eS867]; exact w848
  have w905 : sI S867 h 17 = 0 := by rw [eS867]; exact w849
  have w906 : sI S867 h 18 = 0 := by rw [eS867]; exact w850
  have w907 : sI S867 h 20 = 0 := by rw [eS867]; exact w851
  have w908 : sI S867 h 21 = 0 := by rw [eS867]; exact w852
  have w909 : sI S867 h 22 = 0 := by rw [eS867]; exact w853
  have w910 : sI S867 h 35 = 0 := by rw [eS867]; exact w854
  have w911 : sI S867 h 36 = 0 := by rw [eS867]; exact w855
  have w912 : sI S867 h 53 = 0 := by rw [eS867]; exact w856
  have w913 : sI S867 h 54 = 0 := by rw [eS867]; exact w857
  have w914 : sI S867 h 55 = 0 := by rw [eS867]; exact w858
  have w915 : sI S867 h 60 = 0 := by rw [eS867]; exact w859
  have w916 : sI S867 h 19 = 200 := by rw [eS867]; exact w860
  have w917 : sI S867 h 23 = 400 := by rw [eS867]; exact w861
  have w918 : sI S867 h 24 = 3 := by rw [eS867]; exact w862
  have w919 : sI S867 h 25 = 2 := by rw [eS867]; exact w863
  have w920 : ∀ j, j < 2 → sI S867 q801 j = 0 := fun j hj => by rw [eS867]; exact w864 j hj 
  have r921 : sR S867 h 27 = some q801 := by rw [eS867, rR, if_pos rfl, if_pos rfl]
  clear k805 k807 k809 k811 k813 k815 k817 k819 k821 k865 r823 r824 r825 r826 r827 r828 r829 r830 n831 n832 n833 n834 n835 n836 n837 n838 n866 w839 w840 w841 w842 w843 w844 w845 w846 w847 w848 w849 w850 w851 w852 w853 w854 w855 w856 w857 w858 w859 w860 w861 w862 w863 w864
  refine lv_aload_n hx hb dX9_init_99 rfl (lv_at hl 0 rfl) ?_
  refine lv_iconst (v := 2) hx hb dX9_init_100 (by decide) ?_
  refine pg_newa (atype := .int) (ty := .int) (kd := 11) (t0 := 1) (N' := 2) hx hb (hts (.arrayClass .int) (by decide +kernel)) rfl rfl (Or.inl rfl) (by decide) hK hW hS hA (fun _ => rfl) (by decide) (by decide) (Nat.le_of_ble_eq_true rfl) (Nat.le_of_ble_eq_true rfl) (Nat.le_of_ble_eq_true rfl) dX9_init_101 (fun q922 H hq922 hW hS => ?_)
  have f924 : Ap h q922 := ap_k k868 hq922 (by decide)
  have o925 : 16 ≤ sK S q922 := hX.old hq922 (ni_c (ap_s f924) ni_0)
  have hX : Kx [h] S (stN S867 q922 11 2) := hX.N hq922
  obtain ⟨S923, eS923⟩ : ∃ T : St, T = stN S867 q922 11 2 := ⟨_, rfl⟩
  rw [← eS923] at hW hX
  obtain ⟨k926, d927⟩ := fk_N (a := h) eS923 k868 (by decide) hq922
  obtain ⟨k928, d929⟩ := fk_N (a := q1) eS923 k869 (by decide) hq922
  obtain ⟨k930, d931⟩ := fk_N (a := q64) eS923 k870 (by decide) hq922
  obtain ⟨k932, d933⟩ := fk_N (a := q134) eS923 k871 (by decide) hq922
  obtain ⟨k934, d935⟩ := fk_N (a := q211) eS923 k872 (by decide) hq922
  obtain ⟨k936, d937⟩ := fk_N (a := q295) eS923 k873 (by decide) hq922
  obtain ⟨k938, d939⟩ := fk_N (a := q386) eS923 k874 (by decide) hq922
  obtain ⟨k940, d941⟩ := fk_N (a := q484) eS923 k875 (by decide) hq922
  obtain ⟨k942, d943⟩ := fk_N (a := q689) eS923 k876 (by decide) hq922
  obtain ⟨k944, d945⟩ := fk_N (a := q801) eS923 k877 (by decide) hq922
  have r946 : sR S923 h 0 = some q1 := by rw [eS923, rN, if_neg d927]; exact r878
  have r947 : sR S923 h 5 = some q64 := by rw [eS923, rN, if_neg d927]; exact r879
  have r948 : sR S923 h 6 = some q134 := by rw [eS923, rN, if_neg d927]; exact r880
  have r949 : sR S923 h 7 = some q211 := by rw [eS923, rN, if_neg d927]; exact r881
  have r950 : sR S923 h 8 = some q295 := by rw [eS923, rN, if_neg d927]; exact r882
  have r951 : sR S923 h 9 = some q386 := by rw [eS923, rN, if_neg d927]; exact r883
  have r952 : sR S923 h 10 = some q484 := by rw [eS923, rN, if_neg d927]; exact r884
  have r953 : sR S923 h 26 = some q689 := by rw [eS923, rN, if_neg d927]; exact r885
  have r954 : sR S923 h 27 = some q801 := by rw [eS923, rN, if_neg d927]; exact r921
  have n955 : sL S923 q1 = 80 := by rw [eS923, lNw, if_neg d929]; exact n886
  have n956 : sL S923 q64 = 6 := by rw [eS923, lNw, if_neg d931]; exact n887
  have n957 : sL S923 q134 = 6 := by rw [eS923, lNw, if_neg d933]; exact n888
  have n958 : sL S923 q211 = 6 := by rw [eS923, lNw, if_neg d935]; exact n889
  have n959 : sL S923 q295 = 6 := by rw [eS923, lNw, if_neg d937]; exact n890
  have n960 : sL S923 q386 = 6 := by rw [eS923, lNw, if_neg d939]; exact n891
  have n961 : sL S923 q484 = 6 := by rw [eS923, lNw, if_neg d941]; exact n892
  have n962 : sL S923 q689 = 24 := by rw [eS923, lNw, if_neg d943]; exact n893
  have n963 : sL S923 q801 = 2 := by rw [eS923, lNw, if_neg d945]; exact n894
  have w964 : sI S923 h 1 = 0 := by rw [eS923, iN, if_neg d927]; exact w895
  have w965 : sI S923 h 2 = 0 := by rw [eS923, iN, if_neg d927]; exact w896
  have w966 : sI S923 h 3 = 0 := by rw [eS923, iN, if_neg d927]; exact w897
  have w967 : sI S923 h 4 = 0 := by rw [eS923, iN, if_neg d927]; exact w898
  have w968 : sI S923 h 11 = 0 := by rw [eS923, iN, if_neg d927]; exact w899
  have w969 : sI S923 h 12 = 0 := by rw [eS923, iN, if_neg d927]; exact w900
  have w970 : sI S923 h 13 = 0 := by rw [eS923, iN, if_neg d927]; exact w901
  have w971 : sI S923 h 14 = 0 := by rw [eS923, iN, if_neg d927]; exact w902
  have w972 : sI S923 h 15 = 0 := by rw [eS923, iN, if_neg d927]; exact w903
  have w973 : sI S923 h 16 = 0 := by rw [eS923, iN, if_neg d927]; exact w904
  have w974 : sI S923 h 17 = 0 := by rw [eS923, iN, if_neg d927]; exact w905
  have w975 : sI S923 h 18 = 0 := by rw [eS923, iN, if_neg d927]; exact w906
  have w976 : sI S923 h 20 = 0 := by rw [eS923, iN, if_neg d927]; exact w907
  have w977 : sI S923 h 21 = 0 := by rw [eS923, iN, if_neg d927]; exact w908
  have w978 : sI S923 h 22 = 0 := by rw [eS923, iN, if_neg d927]; exact w909
  have w979 : sI S923 h 35 = 0 := by rw [eS923, iN, if_neg d927]; exact w910
  have w980 : sI S923 h 36 = 0 := by rw [eS923, iN, if_neg d927]; exact w911
  have w981 : sI S923 h 53 = 0 := by rw [eS923, iN, if_neg d927]; exact w912
  have w982 : sI S923 h 54 = 0 := by rw [eS923, iN, if_neg d927]; exact w913
  have w983 : sI S923 h 55 = 0 := by rw [eS923, iN, if_neg d927]; exact w914
  have w984 : sI S923 h 60 = 0 := by rw [eS923, iN, if_neg d927]; exact w915
  have w985 : sI S923 h 19 = 200 := by rw [eS923, iN, if_neg d927]; exact w916
  have w986 : sI S923 h 23 = 400 := by rw [eS923, iN, if_neg d927]; exact w917
  have w987 : sI S923 h 24 = 3 := by rw [eS923, iN, if_neg d927]; exact w918
  have w988 : sI S923 h 25 = 2 := by rw [eS923, iN, if_neg d927]; exact w919
  have w989 : ∀ j, j < 2 → sI S923 q801 j = 0 := fun j hj => by rw [eS923, iN, if_neg d945]; exact w920 j hj 
  have w990 : ∀ j, j < 2 → sI S923 q922 j = 0 := fun j _ => by rw [eS923, iN, if_pos rfl]
  have k991 : sK S923 q922 = 11 := by rw [eS923, kN, if_pos rfl]
  have n992 : sL S923 q922 = 2 := by rw [eS923, lNw, if_pos rfl]
  clear k868 k869 k870 k871 k872 k873 k874 k875 k876 k877 r878 r879 r880 r881 r882 r883 r884 r885 r921 n886 n887 n888 n889 n890 n891 n892 n893 n894 w895 w896 w897 w898 w899 w900 w901 w902 w903 w904 w905 w906 w907 w908 w909 w910 w911 w912 w913 w914 w915 w916 w917 w918 w919 w920
  refine pg_pr (ci := 9) (C := RX9) (T := TX9) (N := 63) hx hb hts wi9 tyX9 tyX9_ok nmX9 hown hK hW hS k926 (by decide) rfl 28 (by decide) (hts (.fieldLink RX9 51 "IceHallModel" "ruts" "[I") (by decide +kernel)) (fun _ h9 => h9) rfl hnm rfl rfl rfl rfl dX9_init_103 (fun H locs hW hS => ?_)
  have hX : Kx [h] S (stR S923 h 28 (some q922)) := hX.Rh List.mem_cons_self
  obtain ⟨S993, eS993⟩ : ∃ T : St, T = stR S923 h 28 (some q922) := ⟨_, rfl⟩
  rw [← eS993] at hW hX
  have k994 : sK S993 h = 9 := by rw [eS993]; exact k926
  have k995 : sK S993 q1 = 10 := by rw [eS993]; exact k928
  have k996 : sK S993 q64 = 11 := by rw [eS993]; exact k930
  have k997 : sK S993 q134 = 11 := by rw [eS993]; exact k932
  have k998 : sK S993 q211 = 11 := by rw [eS993]; exact k934
  have k999 : sK S993 q295 = 11 := by rw [eS993]; exact k936
  have k1000 : sK S993 q386 = 11 := by rw [eS993]; exact k938
  have k1001 : sK S993 q484 = 11 := by rw [eS993]; exact k940
  have k1002 : sK S993 q689 = 11 := by rw [eS993]; exact k942
  have k1003 : sK S993 q801 = 11 := by rw [eS993]; exact k944
  have k1004 : sK S993 q922 = 11 := by rw [eS993]; exact k991
  have r1005 : sR S993 h 0 = some q1 := by rw [eS993, rR, if_pos rfl, if_neg (by decide)]; exact r946
  have r1006 : sR S993 h 5 = some q64 := by rw [eS993, rR, if_pos rfl, if_neg (by decide)]; exact r947
  have r1007 : sR S993 h 6 = some q134 := by rw [eS993, rR, if_pos rfl, if_neg (by decide)]; exact r948
  have r1008 : sR S993 h 7 = some q211 := by rw [eS993, rR, if_pos rfl, if_neg (by decide)]; exact r949
  have r1009 : sR S993 h 8 = some q295 := by rw [eS993, rR, if_pos rfl, if_neg (by decide)]; exact r950
  have r1010 : sR S993 h 9 = some q386 := by rw [eS993, rR, if_pos rfl, if_neg (by decide)]; exact r951
  have r1011 : sR S993 h 10 = some q484 := by rw [eS993, rR, if_pos rfl, if_neg (by decide)]; exact r952
  have r1012 : sR S993 h 26 = some q689 := by rw [eS993, rR, if_pos rfl, if_neg (by decide)]; exact r953
  have r1013 : sR S993 h 27 = some q801 := by rw [eS993, rR, if_pos rfl, if_neg (by decide)]; exact r954
  have n1014 : sL S993 q1 = 80 := by rw [eS993]; exact n955
  have n1015 : sL S993 q64 = 6 := by rw [eS993]; exact n956
  have n1016 : sL S993 q134 = 6 := by rw [eS993]; exact n957
  have n1017 : sL S993 q211 = 6 := by rw [eS993]; exact n958
  have n1018 : sL S993 q295 = 6 := by rw [eS993]; exact n959
  have n1019 : sL S993 q386 = 6 := by rw [eS993]; exact n960
  have n1020 : sL S993 q484 = 6 := by rw [eS993]; exact n961
  have n1021 : sL S993 q689 = 24 := by rw [eS993]; exact n962
  have n1022 : sL S993 q801 = 2 := by rw [eS993]; exact n963
  have n1023 : sL S993 q922 = 2 := by rw [eS993]; exact n992
  have w1024 : sI S993 h 1 = 0 := by rw [eS993]; exact w964
  have w1025 : sI S993 h 2 = 0 := by rw [eS993]; exact w965
  have w1026 : sI S993 h 3 = 0 := by rw [eS993]; exact w966
  have w1027 : sI S993 h 4 = 0 := by rw [eS993]; exact w967
  have w1028 : sI S993 h 11 = 0 := by rw [eS993]; exact w968
  have w1029 : sI S993 h 12 = 0 := by rw [eS993]; exact w969
  have w1030 : sI S993 h 13 = 0 := by rw [eS993]; exact w970
  have w1031 : sI S993 h 14 = 0 := by rw [eS993]; exact w971
  have w1032 : sI S993 h 15 = 0 := by rw [eS993]; exact w972
  have w1033 : sI S993 h 16 = 0 := by rw [eS993]; exact w973
  have w1034 : sI S993 h 17 = 0 := by rw [eS993]; exact w974
  have w1035 : sI S993 h 18 = 0 := by rw [eS993]; exact w975
  have w1036 : sI S993 h 20 = 0 := by rw [eS993]; exact w976
  have w1037 : sI S993 h 21 = 0 := by rw [eS993]; exact w977
  have w1038 : sI S993 h 22 = 0 := by rw [eS993]; exact w978
  have w1039 : sI S993 h 35 = 0 := by rw [eS993]; exact w979
  have w1040 : sI S993 h 36 = 0 := by rw [eS993]; exact w980
  have w1041 : sI S993 h 53 = 0 := by rw [eS993]; exact w981
  have w1042 : sI S993 h 54 = 0 := by rw [eS993]; exact w982
  have w1043 : sI S993 h 55 = 0 := by rw [eS993]; exact w983
  have w1044 : sI S993 h 60 = 0 := by rw [eS993]; exact w984
  have w1045 : sI S993 h 19 = 200 := by rw [eS993]; exact w985
  have w1046 : sI S993 h 23 = 400 := by rw [eS993]; exact w986
  have w1047 : sI S993 h 24 = 3 := by rw [eS993]; exact w987
  have w1048 : sI S993 h 25 = 2 := by rw [eS993]; exact w988
  have w1049 : ∀ j, j < 2 → sI S993 q801 j = 0 := fun j hj => by rw [eS993]; exact w989 j hj 
  have w1050 : ∀ j, j < 2 → sI S993 q922 j = 0 := fun j hj => by rw [eS993]; exact w990 j hj 
  have r1051 : sR S993 h 28 = some q922 := by rw [eS993, rR, if_pos rfl, if_pos rfl]
  clear k926 k928 k930 k932 k934 k936 k938 k940 k942 k944 k991 r946 r947 r948 r949 r950 r951 r952 r953 r954 n955 n956 n957 n958 n959 n960 n961 n962 n963 n992 w964 w965 w966 w967 w968 w969 w970 w971 w972 w973 w974 w975 w976 w977 w978 w979 w980 w981 w982 w983 w984 w985 w986 w987 w988 w989 w990
  refine lv_aload_n hx hb dX9_init_106 rfl (lv_at hl 0 rfl) ?_
  refine lv_iconst (v := 2) hx hb dX9_init_107 (by decide) ?_
  refine pg_newa (atype := .int) (ty := .int) (kd := 11) (t0 := 1) (N' := 2) hx hb (hts (.arrayClass .int) (by decide +kernel)) rfl rfl (Or.inl rfl) (by decide) hK hW hS hA (fun _ => rfl) (by decide) (by decide) (Nat.le_of_ble_eq_true rfl) (Nat.le_of_ble_eq_true rfl) (Nat.le_of_ble_eq_true rfl) dX9_init_108 (fun q1052 H hq1052 hW hS => ?_)
  have f1054 : Ap h q1052 := ap_k k994 hq1052 (by decide)
  have o1055 : 16 ≤ sK S q1052 := hX.old hq1052 (ni_c (ap_s f1054) ni_0)
  have hX : Kx [h] S (stN S993 q1052 11 2) := hX.N hq1052
  obtain ⟨S1053, eS1053⟩ : ∃ T : St, T = stN S993 q1052 11 2 := ⟨_, rfl⟩
  rw [← eS1053] at hW hX
  obtain ⟨k1056, d1057⟩ := fk_N (a := h) eS1053 k994 (by decide) hq1052
  obtain ⟨k1058, d1059⟩ := fk_N (a := q1) eS1053 k995 (by decide) hq1052
  obtain ⟨k1060, d1061⟩ := fk_N (a := q64) eS1053 k996 (by decide) hq1052
  obtain ⟨k1062, d1063⟩ := fk_N (a := q134) eS1053 k997 (by decide) hq1052
  obtain ⟨k1064, d1065⟩ := fk_N (a := q211) eS1053 k998 (by decide) hq1052
  obtain ⟨k1066, d1067⟩ := fk_N (a := q295) eS1053 k999 (by decide) hq1052
  obtain ⟨k1068, d1069⟩ := fk_N (a := q386) eS1053 k1000 (by decide) hq1052
  obtain ⟨k1070, d1071⟩ := fk_N (a := q484) eS1053 k1001 (by decide) hq1052
  obtain ⟨k1072, d1073⟩ := fk_N (a := q689) eS1053 k1002 (by decide) hq1052
  obtain ⟨k1074, d1075⟩ := fk_N (a := q801) eS1053 k1003 (by decide) hq1052
  obtain ⟨k1076, d1077⟩ := fk_N (a := q922) eS1053 k1004 (by decide) hq1052
  have r1078 : sR S1053 h 0 = some q1 := by rw [eS1053, rN, if_neg d1057]; exact r1005
  have r1079 : sR S1053 h 5 = some q64 := by rw [eS1053, rN, if_neg d1057]; exact r1006
  have r1080 : sR S1053 h 6 = some q134 := by rw [eS1053, rN, if_neg d1057]; exact r1007
  have r1081 : sR S1053 h 7 = some q211 := by rw [eS1053, rN, if_neg d1057]; exact r1008
  have r1082 : sR S1053 h 8 = some q295 := by rw [eS1053, rN, if_neg d1057]; exact r1009
  have r1083 : sR S1053 h 9 = some q386 := by rw [eS1053, rN, if_neg d1057]; exact r1010
  have r1084 : sR S1053 h 10 = some q484 := by rw [eS1053, rN, if_neg d1057]; exact r1011
  have r1085 : sR S1053 h 26 = some q689 := by rw [eS1053, rN, if_neg d1057]; exact r1012
  have r1086 : sR S1053 h 27 = some q801 := by rw [eS1053, rN, if_neg d1057]; exact r1013
  have r1087 : sR S1053 h 28 = some q922 := by rw [eS1053, rN, if_neg d1057]; exact r1051
  have n1088 : sL S1053 q1 = 80 := by rw [eS1053, lNw, if_neg d1059]; exact n1014
  have n1089 : sL S1053 q64 = 6 := by rw [eS1053, lNw, if_neg d1061]; exact n1015
  have n1090 : sL S1053 q134 = 6 := by rw [eS1053, lNw, if_neg d1063]; exact n1016
  have n1091 : sL S1053 q211 = 6 := by rw [eS1053, lNw, if_neg d1065]; exact n1017
  have n1092 : sL S1053 q295 = 6 := by rw [eS1053, lNw, if_neg d1067]; exact n1018
  have n1093 : sL S1053 q386 = 6 := by rw [eS1053, lNw, if_neg d1069]; exact n1019
  have n1094 : sL S1053 q484 = 6 := by rw [eS1053, lNw, if_neg d1071]; exact n1020
  have n1095 : sL S1053 q689 = 24 := by rw [eS1053, lNw, if_neg d1073]; exact n1021
  have n1096 : sL S1053 q801 = 2 := by rw [eS1053, lNw, if_neg d1075]; exact n1022
  have n1097 : sL S1053 q922 = 2 := by rw [eS1053, lNw, if_neg d1077]; exact n1023
  have w1098 : sI S1053 h 1 = 0 := by rw [eS1053, iN, if_neg d1057]; exact w1024
  have w1099 : sI S1053 h 2 = 0 := by rw [eS1053, iN, if_neg d1057]; exact w1025
  have w1100 : sI S1053 h 3 = 0 := by rw [eS1053, iN, if_neg d1057]; exact w1026
  have w1101 : sI S1053 h 4 = 0 := by rw [eS1053, iN, if_neg d1057]; exact w1027
  have w1102 : sI S1053 h 11 = 0 := by rw [eS1053, iN, if_neg d1057]; exact w1028
  have w1103 : sI S1053 h 12 = 0 := by rw [eS1053, iN, if_neg d1057]; exact w1029
  have w1104 : sI S1053 h 13 = 0 := by rw [eS1053, iN, if_neg d1057]; exact w1030
  have w1105 : sI S1053 h 14 = 0 := by rw [eS1053, iN, if_neg d1057]; exact w1031
  have w1106 : sI S1053 h 15 = 0 := by rw [eS1053, iN, if_neg d1057]; exact w1032
  have w1107 : sI S1053 h 16 = 0 := by rw [eS1053, iN, if_neg d1057]; exact w1033
  have w1108 : sI S1053 h 17 = 0 := by rw [eS1053, iN, if_neg d1057]; exact w1034
  have w1109 : sI S1053 h 18 = 0 := by rw [eS1053, iN, if_neg d1057]; exact w1035
  have w1110 : sI S1053 h 20 = 0 := by rw [eS1053, iN, if_neg d1057]; exact w1036
  have w1111 : sI S1053 h 21 = 0 := by rw [eS1053, iN, if_neg d1057]; exact w1037
  have w1112 : sI S1053 h 22 = 0 := by rw [eS1053, iN, if_neg d1057]; exact w1038
  have w1113 : sI S1053 h 35 = 0 := by rw [eS1053, iN, if_neg d1057]; exact w1039
  have w1114 : sI S1053 h 36 = 0 := by rw [eS1053, iN, if_neg d1057]; exact w1040
  have w1115 : sI S1053 h 53 = 0 := by rw [eS1053, iN, if_neg d1057]; exact w1041
  have w1116 : sI S1053 h 54 = 0 := by rw [eS1053, iN, if_neg d1057]; exact w1042
  have w1117 : sI S1053 h 55 = 0 := by rw [eS1053, iN, if_neg d1057]; exact w1043
  have w1118 : sI S1053 h 60 = 0 := by rw [eS1053, iN, if_neg d1057]; exact w1044
  have w1119 : sI S1053 h 19 = 200 := by rw [eS1053, iN, if_neg d1057]; exact w1045
  have w1120 : sI S1053 h 23 = 400 := by rw [eS1053, iN, if_neg d1057]; exact w1046
  have w1121 : sI S1053 h 24 = 3 := by rw [eS1053, iN, if_neg d1057]; exact w1047
  have w1122 : sI S1053 h 25 = 2 := by rw [eS1053, iN, if_neg d1057]; exact w1048
  have w1123 : ∀ j, j < 2 → sI S1053 q801 j = 0 := fun j hj => by rw [eS1053, iN, if_neg d1075]; exact w1049 j hj 
  have w1124 : ∀ j, j < 2 → sI S1053 q922 j = 0 := fun j hj => by rw [eS1053, iN, if_neg d1077]; exact w1050 j hj 
  have w1125 : ∀ j, j < 2 → sI S1053 q1052 j = 0 := fun j _ => by rw [eS1053, iN, if_pos rfl]
  have k1126 : sK S1053 q1052 = 11 := by rw [eS1053, kN, if_pos rfl]
  have n1127 : sL S1053 q1052 = 2 := by rw [eS1053, lNw, if_pos rfl]
  clear k994 k995 k996 k997 k998 k999 k1000 k1001 k1002 k1003 k1004 r1005 r1006 r1007 r1008 r1009 r1010 r1011 r1012 r1013 r1051 n1014 n1015 n1016 n1017 n1018 n1019 n1020 n1021 n1022 n1023 w1024 w1025 w1026 w1027 w1028 w1029 w1030 w1031 w1032 w1033 w1034 w1035 w1036 w1037 w1038 w1039 w1040 w1041 w1042 w1043 w1044 w1045 w1046 w1047 w1048 w1049 w1050
  refine pg_pr (ci := 9) (C := RX9) (T := TX9) (N := 63) hx hb hts wi9 tyX9 tyX9_ok nmX9 hown hK hW hS k1056 (by decide) rfl 29 (by decide) (hts (.fieldLink RX9 54 "IceHallModel" "shaved" "[I") (by decide +kernel)) (fun _ h9 => h9) rfl hnm rfl rfl rfl rfl dX9_init_110 (fun H locs hW hS => ?_)
  have hX : Kx [h] S (stR S1053 h 29 (some q1052)) := hX.Rh List.mem_cons_self
  obtain ⟨S1128, eS1128⟩ : ∃ T : St, T = stR S1053 h 29 (some q1052) := ⟨_, rfl⟩
  rw [← eS1128] at hW hX
  have k1129 : sK S1128 h = 9 := by rw [eS1128]; exact k1056
  have k1130 : sK S1128 q1 = 10 := by rw [eS1128]; exact k1058
  have k1131 : sK S1128 q64 = 11 := by rw [eS1128]; exact k1060
  have k1132 : sK S1128 q134 = 11 := by rw [eS1128]; exact k1062
  have k1133 : sK S1128 q211 = 11 := by rw [eS1128]; exact k1064
  have k1134 : sK S1128 q295 = 11 := by rw [eS1128]; exact k1066
  have k1135 : sK S1128 q386 = 11 := by rw [eS1128]; exact k1068
  have k1136 : sK S1128 q484 = 11 := by rw [eS1128]; exact k1070
  have k1137 : sK S1128 q689 = 11 := by rw [eS1128]; exact k1072
  have k1138 : sK S1128 q801 = 11 := by rw [eS1128]; exact k1074
  have k1139 : sK S1128 q922 = 11 := by rw [eS1128]; exact k1076
  have k1140 : sK S1128 q1052 = 11 := by rw [eS1128]; exact k1126
  have r1141 : sR S1128 h 0 = some q1 := by rw [eS1128, rR, if_pos rfl, if_neg (by decide)]; exact r1078
  have r1142 : sR S1128 h 5 = some q64 := by rw [eS1128, rR, if_pos rfl, if_neg (by decide)]; exact r1079
  have r1143 : sR S1128 h 6 = some q134 := by rw [eS1128, rR, if_pos rfl, if_neg (by decide)]; exact r1080
  have r1144 : sR S1128 h 7 = some q211 := by rw [eS1128, rR, if_pos rfl, if_neg (by decide)]; exact r1081
  have r1145 : sR S1128 h 8 = some q295 := by rw [eS1128, rR, if_pos rfl, if_neg (by decide)]; exact r1082
  have r1146 : sR S1128 h 9 = some q386 := by rw [eS1128, rR, if_pos rfl, if_neg (by decide)]; exact r1083
  have r1147 : sR S1128 h 10 = some q484 := by rw [eS1128, rR, if_pos rfl, if_neg (by decide)]; exact r1084
  have r1148 : sR S1128 h 26 = some q689 := by rw [eS1128, rR, if_pos rfl, if_neg (by decide)]; exact r1085
  have r1149 : sR S1128 h 27 = some q801 := by rw [eS1128, rR, if_pos rfl, if_neg (by decide)]; exact r1086
  have r1150 : sR S1128 h 28 = some q922 := by rw [eS1128, rR, if_pos rfl, if_neg (by decide)]; exact r1087
  have n1151 : sL S1128 q1 = 80 := by rw [eS1128]; exact n1088
  have n1152 : sL S1128 q64 = 6 := by rw [eS1128]; exact n1089
  have n1153 : sL S1128 q134 = 6 := by rw [eS1128]; exact n1090
  have n1154 : sL S1128 q211 = 6 := by rw [eS1128]; exact n1091
  have n1155 : sL S1128 q295 = 6 := by rw [eS1128]; exact n1092
  have n1156 : sL S1128 q386 = 6 := by rw [eS1128]; exact n1093
  have n1157 : sL S1128 q484 = 6 := by rw [eS1128]; exact n1094
  have n1158 : sL S1128 q689 = 24 := by rw [eS1128]; exact n1095
  have n1159 : sL S1128 q801 = 2 := by rw [eS1128]; exact n1096
  have n1160 : sL S1128 q922 = 2 := by rw [eS1128]; exact n1097
  have n1161 : sL S1128 q1052 = 2 := by rw [eS1128]; exact n1127
  have w1162 : sI S1128 h 1 = 0 := by rw [eS1128]; exact w1098
  have w1163 : sI S1128 h 2 = 0 := by rw [eS1128]; exact w1099
  have w1164 : sI S1128 h 3 = 0 := by rw [eS1128]; exact w1100
  have w1165 : sI S1128 h 4 = 0 := by rw [eS1128]; exact w1101
  have w1166 : sI S1128 h 11 = 0 := by rw [eS1128]; exact w1102
  have w1167 : sI S1128 h 12 = 0 := by rw [eS1128]; exact w1103
  have w1168 : sI S1128 h 13 = 0 := by rw [eS1128]; exact w1104
  have w1169 : sI S1128 h 14 = 0 := by rw [eS1128]; exact w1105
  have w1170 : sI S1128 h 15 = 0 := by rw [eS1128]; exact w1106
  have w1171 : sI S1128 h 16 = 0 := by rw [eS1128]; exact w1107
  have w1172 : sI S1128 h 17 = 0 := by rw [eS1128]; exact w1108
  have w1173 : sI S1128 h 18 = 0 := by rw [eS1128]; exact w1109
  have w1174 : sI S1128 h 20 = 0 := by rw [eS1128]; exact w1110
  have w1175 : sI S1128 h 21 = 0 := by rw [eS1128]; exact w1111
  have w1176 : sI S1128 h 22 = 0 := by rw [eS1128]; exact w1112
  have w1177 : sI S1128 h 35 = 0 := by rw [eS1128]; exact w1113
  have w1178 : sI S1128 h 36 = 0 := by rw [eS1128]; exact w1114
  have w1179 : sI S1128 h 53 = 0 := by rw [eS1128]; exact w1115
  have w1180 : sI S1128 h 54 = 0 := by rw [eS1128]; exact w1116
  have w1181 : sI S1128 h 55 = 0 := by rw [eS1128]; exact w1117
  have w1182 : sI S1128 h 60 = 0 := by rw [eS1128]; exact w1118
  have w1183 : sI S1128 h 19 = 200 := by rw [eS1128]; exact w1119
  have w1184 : sI S1128 h 23 = 400 := by rw [eS1128]; exact w1120
  have w1185 : sI S1128 h 24 = 3 := by rw [eS1128]; exact w1121
  have w1186 : sI S1128 h 25 = 2 := by rw [eS1128]; exact w1122
  have w1187 : ∀ j, j < 2 → sI S1128 q801 j = 0 := fun j hj => by rw [eS1128]; exact w1123 j hj 
  have w1188 : ∀ j, j < 2 → sI S1128 q922 j = 0 := fun j hj => by rw [eS1128]; exact w1124 j hj 
  have w1189 : ∀ j, j < 2 → sI S1128 q1052 j = 0 := fun j hj => by rw [eS1128]; exact w1125 j hj 
  have r1190 : sR S1128 h 29 = some q1052 := by rw [eS1128, rR, if_pos rfl, if_pos rfl]
  clear k1056 k1058 k1060 k1062 k1064 k1066 k1068 k1070 k1072 k1074 k1076 k1126 r1078 r1079 r1080 r1081 r1082 r1083 r1084 r1085 r1086 r1087 n1088 n1089 n1090 n1091 n1092 n1093 n1094 n1095 n1096 n1097 n1127 w1098 w1099 w1100 w1101 w1102 w1103 w1104 w1105 w1106 w1107 w1108 w1109 w1110 w1111 w1112 w1113 w1114 w1115 w1116 w1117 w1118 w1119 w1120 w1121 w1122 w1123 w1124 w1125
  refine lv_aload_n hx hb dX9_init_113 rfl (lv_at hl 0 rfl) ?_
  refine lv_iconst (v := 2) hx hb dX9_init_114 (by decide) ?_
  refine pg_newa (atype := .int) (ty := .int) (kd := 11) (t0 := 1) (N' := 2) hx hb (hts (.arrayClass .int) (by decide +kernel)) rfl rfl (Or.inl rfl) (by decide) hK hW hS hA (fun _ => rfl) (by decide) (by decide) (Nat.le_of_ble_eq_true rfl) (Nat.le_of_ble_eq_true rfl) (Nat.le_of_ble_eq_true rfl) dX9_init_115 (fun q1191 H hq1191 hW hS => ?_)
  have f1193 : Ap h q1191 := ap_k k1129 hq1191 (by decide)
  have o1194 : 16 ≤ sK S q1191 := hX.old hq1191 (ni_c (ap_s f1193) ni_0)
  have hX : Kx [h] S (stN S1128 q1191 11 2) := hX.N hq1191
  obtain ⟨S1192, eS1192⟩ : ∃ T : St, T = stN S1128 q1191 11 2 := ⟨_, rfl⟩
  rw [← eS1192] at hW hX
  obtain ⟨k1195, d1196⟩ := fk_N (a := h) eS1192 k1129 (by decide) hq1191
  obtain ⟨k1197, d1198⟩ := fk_N (a := q1) eS1192 k1130 (by decide) hq1191
  obtain ⟨k1199, d1200⟩ := fk_N (a := q64) eS1192 k1131 (by decide) hq1191
  obtain ⟨k1201, d1202⟩ := fk_N (a := q134) eS1192 k1132 (by decide) hq1191
  obtain ⟨k1203, d1204⟩ := fk_N (a := q211) eS1192 k1133 (by decide) hq1191
  obtain ⟨k1205, d1206⟩ := fk_N (a := q295) eS1192 k1134 (by decide) hq1191
  obtain ⟨k1207, d1208⟩ := fk_N (a := q386) eS1192 k1135 (by decide) hq1191
  obtain ⟨k1209, d1210⟩ := fk_N (a := q484) eS1192 k1136 (by decide) hq1191
  obtain ⟨k1211, d1212⟩ := fk_N (a := q689) eS1192 k1137 (by decide) hq1191
  obtain ⟨k1213, d1214⟩ := fk_N (a := q801) eS1192 k1138 (by decide) hq1191
  obtain ⟨k1215, d1216⟩ := fk_N (a := q922) eS1192 k1139 (by decide) hq1191
  obtain ⟨k1217, d1218⟩ := fk_N (a := q1052) eS1192 k1140 (by decide) hq1191
  have r1219 : sR S1192 h 0 = some q1 := by rw [eS1192, rN, if_neg d1196]; exact r1141
  have r1220 : sR S1192 h 5 = some q64 := by rw [eS1192, rN, if_neg d1196]; exact r1142
  have r1221 : sR S1192 h 6 = some q134 := by rw [eS1192, rN, if_neg d1196]; exact r1143
  have r1222 : sR S1192 h 7 = some q211 := by rw [eS1192, rN, if_neg d1196]; exact r1144
  have r1223 : sR S1192 h 8 = some q295 := by rw [eS1192, rN, if_neg d1196]; exact r1145
  have r1224 : sR S1192 h 9 = some q386 := by rw [eS1192, rN, if_neg d1196]; exact r1146
  have r1225 : sR S1192 h 10 = some q484 := by rw [eS1192, rN, if_neg d1196]; exact r1147
  have r1226 : sR S1192 h 26 = some q689 := by rw [eS1192, rN, if_neg d1196]; exact r1148
  have r1227 : sR S1192 h 27 = some q801 := by rw [eS1192, rN, if_neg d1196]; exact r1149
  have r1228 : sR S1192 h 28 = some q922 := by rw [eS1192, rN, if_neg d1196]; exact r1150
  have r1229 : sR S1192 h 29 = some q1052 := by rw [eS1192, rN, if_neg d1196]; exact r1190
  have n1230 : sL S1192 q1 = 80 := by rw [eS1192, lNw, if_neg d1198]; exact n1151
  have n1231 : sL S1192 q64 = 6 := by rw [eS1192, lNw, if_neg d1200]; exact n1152
  have n1232 : sL S1192 q134 = 6 := by rw [eS1192, lNw, if_neg d1202]; exact n1153
  have n1233 : sL S1192 q211 = 6 := by rw [eS1192, lNw, if_neg d1204]; exact n1154
  have n1234 : sL S1192 q295 = 6 := by rw [eS1192, lNw, if_neg d1206]; exact n1155
  have n1235 : sL S1192 q386 = 6 := by rw [eS1192, lNw, if_neg d1208]; exact n1156
  have n1236 : sL S1192 q484 = 6 := by rw [eS1192, lNw, if_neg d1210]; exact n1157
  have n1237 : sL S1192 q689 = 24 := by rw [eS1192, lNw, if_neg d1212]; exact n1158
  have n1238 : sL S1192 q801 = 2 := by rw [eS1192, lNw, if_neg d1214]; exact n1159
  have n1239 : sL S1192 q922 = 2 := by rw [eS1192, lNw, if_neg d1216]; exact n1160
  have n1240 : sL S1192 q1052 = 2 := by rw [eS1192, lNw, if_neg d1218]; exact n1161
  have w1241 : sI S1192 h 1 = 0 := by rw [eS1192, iN, if_neg d1196]; exact w1162
  have w1242 : sI S1192 h 2 = 0 := by rw [eS1192, iN, if_neg d1196]; exact w1163
  have w1243 : sI S1192 h 3 = 0 := by rw [eS1192, iN, if_neg d1196]; exact w1164
  have w1244 : sI S1192 h 4 = 0 := by rw [eS1192, iN, if_neg d1196]; exact w1165
  have w1245 : sI S1192 h 11 = 0 := by rw [eS1192, iN, if_neg d1196]; exact w1166
  have w1246 : sI S1192 h 12 = 0 := by rw [eS1192, iN, if_neg d1196]; exact w1167
  have w1247 : sI S1192 h 13 = 0 := by rw [eS1192, iN, if_neg d1196]; exact w1168
  have w1248 : sI S1192 h 14 = 0 := by rw [eS1192, iN, if_neg d1196]; exact w1169
  have w1249 : sI S1192 h 15 = 0 := by rw [eS1192, iN, if_neg d1196]; exact w1170
  have w1250 : sI S1192 h 16 = 0 := by rw [eS1192, iN, if_neg d1196]; exact w1171
  have w1251 : sI S1192 h 17 = 0 := by rw [eS1192, iN, if_neg d1196]; exact w1172
  have w1252 : sI S1192 h 18 = 0 := by rw [eS1192, iN, if_neg d1196]; exact w1173
  have w1253 : sI S1192 h 20 = 0 := by rw [eS1192, iN, if_neg d1196]; exact w1174
  have w1254 : sI S1192 h 21 = 0 := by rw [eS1192, iN, if_neg d1196]; exact w1175
  have w1255 : sI S1192 h 22 = 0 := by rw [eS1192, iN, if_neg d1196]; exact w1176
  have w1256 : sI S1192 h 35 = 0 := by rw [eS1192, iN, if_neg d1196]; exact w1177
  have w1257 : sI S1192 h 36 = 0 := by rw [eS1192, iN, if_neg d1196]; exact w1178
  have w1258 : sI S1192 h 53 = 0 := by rw [eS1192, iN, if_neg d1196]; exact w1179
  have w1259 : sI S1192 h 54 = 0 := by rw [eS1192, iN, if_neg d1196]; exact w1180
  have w1260 : sI S1192 h 55 = 0 := by rw [eS1192, iN, if_neg d1196]; exact w1181
  have w1261 : sI S1192 h 60 = 0 := by rw [eS1192, iN, if_neg d1196]; exact w1182
  have w1262 : sI S1192 h 19 = 200 := by rw [eS1192, iN, if_neg d1196]; exact w1183
  have w1263 : sI S1192 h 23 = 400 := by rw [eS1192, iN, if_neg d1196]; exact w1184
  have w1264 : sI S1192 h 24 = 3 := by rw [eS1192, iN, if_neg d1196]; exact w1185
  have w1265 : sI S1192 h 25 = 2 := by rw [eS1192, iN, if_neg d1196]; exact w1186
  have w1266 : ∀ j, j < 2 → sI S1192 q801 j = 0 := fun j hj => by rw [eS1192, iN, if_neg d1214]; exact w1187 j hj 
  have w1267 : ∀ j, j < 2 → sI S1192 q922 j = 0 := fun j hj => by rw [eS1192, iN, if_neg d1216]; exact w1188 j hj 
  have w1268 : ∀ j, j < 2 → sI S1192 q1052 j = 0 := fun j hj => by rw [eS1192, iN, if_neg d1218]; exact w1189 j hj 
  have w1269 : ∀ j, j < 2 → sI S1192 q1191 j = 0 := fun j _ => by rw [eS1192, iN, if_pos rfl]
  have k1270 : sK S1192 q1191 = 11 := by rw [eS1192, kN, if_pos rfl]
  have n1271 : sL S1192 q1191 = 2 := by rw [eS1192, lNw, if_pos rfl]
  clear k1129 k1130 k1131 k1132 k1133 k1134 k1135 k1136 k1137 k1138 k1139 k1140 r1141 r1142 r1143 r1144 r1145 r1146 r1147 r1148 r1149 r1150 r1190 n1151 n1152 n1153 n1154 n1155 n1156 n1157 n1158 n1159 n1160 n1161 w1162 w1163 w1164 w1165 w1166 w1167 w1168 w1169 w1170 w1171 w1172 w1173 w1174 w1175 w1176 w1177 w1178 w1179 w1180 w1181 w1182 w1183 w1184 w1185 w1186 w1187 w1188 w1189
  refine pg_pr (ci := 9) (C := RX9) (T := TX9) (N := 63) hx hb hts wi9 tyX9 tyX9_ok nmX9 hown hK hW hS k1195 (by decide) rfl 30 (by decide) (hts (.fieldLink RX9 57 "IceHallModel" "flooded" "[I") (by decide +kernel)) (fun _ h9 => h9) rfl hnm rfl rfl rfl rfl dX9_init_117 (fun H locs hW hS => ?_)
  have hX : Kx [h] S (stR S1192 h 30 (some q1191)) := hX.Rh List.mem_cons_self
  obtain ⟨S1272, eS1272⟩ : ∃ T : St, T = stR S1192 h 30 (some q1191) := ⟨_, rfl⟩
  rw [← eS1272] at hW hX
  have k1273 : sK S1272 h = 9 := by rw [eS1272]; exact k1195
  have k1274 : sK S1272 q1 = 10 := by rw [eS1272]; exact k1197
  have k1275 : sK S1272 q64 = 11 := by rw [eS1272]; exact k1199
  have k1276 : sK S1272 q134 = 11 := by rw [eS1272]; exact k1201
  have k1277 : sK S1272 q211 = 11 := by rw [eS1272]; exact k1203
  have k1278 : sK S1272 q295 = 11 := by rw [eS1272]; exact k1205
  have k1279 : sK S1272 q386 = 11 := by rw [eS1272]; exact k1207
  have k1280 : sK S1272 q484 = 11 := by rw [eS1272]; exact k1209
  have k1281 : sK S1272 q689 = 11 := by rw [eS1272]; exact k1211
  have k1282 : sK S1272 q801 = 11 := by rw [eS1272]; exact k1213
  have k1283 : sK S1272 q922 = 11 := by rw [eS1272]; exact k1215
  have k1284 : sK S1272 q1052 = 11 := by rw [eS1272]; exact k1217
  have k1285 : sK S1272 q1191 = 11 := by rw [eS1272]; exact k1270
  have r1286 : sR S1272 h 0 = some q1 := by rw [eS1272, rR, if_pos rfl, if_neg (by decide)]; exact r1219
  have r1287 : sR S1272 h 5 = some q64 := by rw [eS1272, rR, if_pos rfl, if_neg (by decide)]; exact r1220
  have r1288 : sR S1272 h 6 = some q134 := by rw [eS1272, rR, if_pos rfl, if_neg (by decide)]; exact r1221
  have r1289 : sR S1272 h 7 = some q211 := by rw [eS1272, rR, if_pos rfl, if_neg (by decide)]; exact r1222
  have r1290 : sR S1272 h 8 = some q295 := by rw [eS1272, rR, if_pos rfl, if_neg (by decide)]; exact r1223
  have r1291 : sR S1272 h 9 = some q386 := by rw [eS1272, rR, if_pos rfl, if_neg (by decide)]; exact r1224
  have r1292 : sR S1272 h 10 = some q484 := by rw [eS1272, rR, if_pos rfl, if_neg (by decide)]; exact r1225
  have r1293 : sR S1272 h 26 = some q689 := by rw [eS1272, rR, if_pos rfl, if_neg (by decide)]; exact r1226
  have r1294 : sR S1272 h 27 = some q801 := by rw [eS1272, rR, if_pos rfl, if_neg (by decide)]; exact r1227
  have r1295 : sR S1272 h 28 = some q922 := by rw [eS1272, rR, if_pos rfl, if_neg (by decide)]; exact r1228
  have r1296 : sR S1272 h 29 = some q1052 := by rw [eS1272, rR, if_pos rfl, if_neg (by decide)]; exact r1229
  have n1297 : sL S1272 q1 = 80 := by rw [eS1272]; exact n1230
  have n1298 : sL S1272 q64 = 6 := by rw [eS1272]; exact n1231
  have n1299 : sL S1272 q134 = 6 := by rw [eS1272]; exact n1232
  have n1300 : sL S1272 q211 = 6 := by rw [eS1272]; exact n1233
  have n1301 : sL S1272 q295 = 6 := by rw [eS1272]; exact n1234
  have n1302 : sL S1272 q386 = 6 := by rw [eS1272]; exact n1235
  have n1303 : sL S1272 q484 = 6 := by rw [eS1272]; exact n1236
  have n1304 : sL S1272 q689 = 24 := by rw [eS1272]; exact n1237
  have n1305 : sL S1272 q801 = 2 := by rw [eS1272]; exact n1238
  have n1306 : sL S1272 q922 = 2 := by rw [eS1272]; exact n1239
  have n1307 : sL S1272 q1052 = 2 := by rw [eS1272]; exact n1240
  have n1308 : sL S1272 q1191 = 2 := by rw [eS1272]; exact n1271
  have w1309 : sI S1272 h 1 = 0 := by rw [eS1272]; exact w1241
  have w1310 : sI S1272 h 2 = 0 := by rw [eS1272]; exact w1242
  have w1311 : sI S1272 h 3 = 0 := by rw [eS1272]; exact w1243
  have w1312 : sI S1272 h 4 = 0 := by rw [eS1272]; exact w1244
  have w1313 : sI S1272 h 11 = 0 := by rw [eS1272]; exact w1245
  have w1314 : sI S1272 h 12 = 0 := by rw [eS1272]; exact w1246
  have w1315 : sI S1272 h 13 = 0 := by rw [eS1272]; exact w1247
  have w1316 : sI S1272 h 14 = 0 := by rw [eS1272]; exact w1248
  have w1317 : sI S1272 h 15 = 0 := by rw [eS1272]; exact w1249
  have w1318 : sI S1272 h 16 = 0 := by rw [eS1272]; exact w1250
  have w1319 : sI S1272 h 17 = 0 := by rw [eS1272]; exact w1251
  have w1320 : sI S1272 h 18 = 0 := by rw [eS1272]; exact w1252
  have w1321 : sI S1272 h 20 = 0 := by rw [eS1272]; exact w1253
  have w1322 : sI S1272 h 21 = 0 := by rw [eS1272]; exact w1254
  have w1323 : sI S1272 h 22 = 0 := by rw [eS1272]; exact w1255
  have w1324 : sI S1272 h 35 = 0 := by rw [eS1272]; exact w1256
  have w1325 : sI S1272 h 36 = 0 := by rw [eS1272]; exact w1257
  have w1326 : sI S1272 h 53 = 0 := by rw [eS1272]; exact w1258
  have w1327 : sI S1272 h 54 = 0 := by rw [eS1272]; exact w1259
  have w1328 : sI S1272 h 55 = 0 := by rw [eS1272]; exact w1260
  have w1329 : sI S1272 h 60 = 0 := by rw [eS1272]; exact w1261
  have w1330 : sI S1272 h 19 = 200 := by rw [eS1272]; exact w1262
  have w1331 : sI S1272 h 23 = 400 := by rw [eS1272]; exact w1263
  have w1332 : sI S1272 h 24 = 3 := by rw [eS1272]; exact w1264
  have w1333 : sI S1272 h 25 = 2 := by rw [eS1272]; exact w1265
  have w1334 : ∀ j, j < 2 → sI S1272 q801 j = 0 := fun j hj => by rw [eS1272]; exact w1266 j hj 
  have w1335 : ∀ j, j < 2 → sI S1272 q922 j = 0 := fun j hj => by rw [eS1272]; exact w1267 j hj 
  have w1336 : ∀ j, j < 2 → sI S1272 q1052 j = 0 := fun j hj => by rw [eS1272]; exact w1268 j hj 
  have w1337 : ∀ j, j < 2 → sI S1272 q1191 j = 0 := fun j hj => by rw [eS1272]; exact w1269 j hj 
  have r1338 : sR S1272 h 30 = some q1191 := by rw [eS1272, rR, if_pos rfl, if_pos rfl]
  clear k1195 k1197 k1199 k1201 k1203 k1205 k1207 k1209 k1211 k1213 k1215 k1217 k1270 r1219 r1220 r1221 r1222 r1223 r1224 r1225 r1226 r1227 r1228 r1229 n1230 n1231 n1232 n1233 n1234 n1235 n1236 n1237 n1238 n1239 n1240 n1271 w1241 w1242 w1243 w1244 w1245 w1246 w1247 w1248 w1249 w1250 w1251 w1252 w1253 w1254 w1255 w1256 w1257 w1258 w1259 w1260 w1261 w1262 w1263 w1264 w1265 w1266 w1267 w1268 w1269
  refine lv_aload_n hx hb dX9_init_120 rfl (lv_at hl 0 rfl) ?_
  refine lv_iconst (v := 2) hx hb dX9_init_121 (by decide) ?_
  refine pg_newa (atype := .int) (ty := .int) (kd := 11) (t0 := 1) (N' := 2) hx hb (hts (.arrayClass .int) (by decide +kernel)) rfl rfl (Or.inl rfl) (by decide) hK hW hS hA (fun _ => rfl) (by decide) (by decide) (Nat.le_of_ble_eq_true rfl) (Nat.le_of_ble_eq_true rfl) (Nat.le_of_ble_eq_true rfl) dX9_init_122 (fun q1339 H hq1339 hW hS => ?_)
  have f1341 : Ap h q1339 := ap_k k1273 hq1339 (by decide)
  have o1342 : 16 ≤ sK S q1339 := hX.old hq1339 (ni_c (ap_s f1341) ni_0)
  have hX : Kx [h] S (stN S1272 q1339 11 2) := hX.N hq1339
  obtain ⟨S1340, eS1340⟩ : ∃ T : St, T = stN S1272 q1339 11 2 := ⟨_, rfl⟩
  rw [← eS1340] at hW hX
  obtain ⟨k1343, d1344⟩ := fk_N (a := h) eS1340 k1273 (by decide) hq1339
  obtain ⟨k1345, d1346⟩ := fk_N (a := q1) eS1340 k1274 (by decide) hq1339
  obtain ⟨k1347, d1348⟩ := fk_N (a := q64) eS1340 k1275 (by decide) hq1339
  obtain ⟨k1349, d1350⟩ := fk_N (a := q134) eS1340 k1276 (by decide) hq1339
  obtain ⟨k1351, d1352⟩ := fk_N (a := q211) eS1340 k1277 (by decide) hq1339
  obtain ⟨k1353, d1354⟩ := fk_N (a := q295) eS1340 k1278 (by decide) hq1339
  obtain ⟨k1355, d1356⟩ := fk_N (a := q386) eS1340 k1279 (by decide) hq1339
  obtain ⟨k1357, d1358⟩ := fk_N (a := q484) eS1340 k1280 (by decide) hq1339
  obtain ⟨k1359, d1360⟩ := fk_N (a := q689) eS1340 k1281 (by decide) hq1339
  obtain ⟨k1361, d1362⟩ := fk_N (a := q801) eS1340 k1282 (by decide) hq1339
  obtain ⟨k1363, d1364⟩ := fk_N (a := q922) eS1340 k1283 (by decide) hq1339
  obtain ⟨k1365, d1366⟩ := fk_N (a := q1052) eS1340 k1284 (by decide) hq1339
  obtain ⟨k1367, d1368⟩ := fk_N (a := q1191) eS1340 k1285 (by decide) hq1339
  have r1369 : sR S1340 h 0 = some q1 := by rw [eS1340, rN, if_neg d1344]; exact r1286
  have r1370 : sR S1340 h 5 = some q64 := by rw [eS1340, rN, if_neg d1344]; exact r1287
  have r1371 : sR S1340 h 6 = some q134 := by rw [eS1340, rN, if_neg d1344]; exact r1288
  have r1372 : sR S1340 h 7 = some q211 := by rw [eS1340, rN, if_neg d1344]; exact r1289
  have r1373 : sR S1340 h 8 = some q295 := by rw [eS1340, rN, if_neg d1344]; exact r1290
  have r1374 : sR S1340 h 9 = some q386 := by rw [eS1340, rN, if_neg d1344]; exact r1291
  have r1375 : sR S1340 h 10 = some q484 := by rw [eS1340, rN, if_neg d1344]; exact r1292
  have r1376 : sR S1340 h 26 = some q689 := by rw [eS1340, rN, if_neg d1344]; exact r1293
  have r1377 : sR S1340 h 27 = some q801 := by rw [eS1340, rN, if_neg d1344]; exact r1294
  have r1378 : sR S1340 h 28 = some q922 := by rw [eS1340, rN, if_neg d1344]; exact r1295
  have r1379 : sR S1340 h 29 = some q1052 := by rw [eS1340, rN, if_neg d1344]; exact r1296
  have r1380 : sR S1340 h 30 = some q1191 := by rw [eS1340, rN, if_neg d1344]; exact r1338
  have n1381 : sL S1340 q1 = 80 := by rw [eS1340, lNw, if_neg d1346]; exact n1297
  have n1382 : sL S1340 q64 = 6 := by rw [eS1340, lNw, if_neg d1348]; exact n1298
  have n1383 : sL S1340 q134 = 6 := by rw [eS1340, lNw, if_neg d1350]; exact n1299
  have n1384 : sL S1340 q211 = 6 := by rw [eS1340, lNw, if_neg d1352]; exact n1300
  have n1385 : sL S1340 q295 = 6 := by rw [eS1340, lNw, if_neg d1354]; exact n1301
  have n1386 : sL S1340 q386 = 6 := by rw [eS1340, lNw, if_neg d1356]; exact n1302
  have n1387 : sL S1340 q484 = 6 := by rw [eS1340, lNw, if_neg d1358]; exact n1303
  have n1388 : sL S1340 q689 = 24 := by rw [eS1340, lNw, if_neg d1360]; exact n1304
  have n1389 : sL S1340 q801 = 2 := by rw [eS1340, lNw, if_neg d1362]; exact n1305
  have n1390 : sL S1340 q922 = 2 := by rw [eS1340, lNw, if_neg d1364]; exact n1306
  have n1391 : sL S1340 q1052 = 2 := by rw [eS1340, lNw, if_neg d1366]; exact n1307
  have n1392 : sL S1340 q1191 = 2 := by rw [eS1340, lNw, if_neg d1368]; exact n1308
  have w1393 : sI S1340 h 1 = 0 := by rw [eS1340, iN, if_neg d1344]; exact w1309
  have w1394 : sI S1340 h 2 = 0 := by rw [eS1340, iN, if_neg d1344]; exact w1310
  have w1395 : sI S1340 h 3 = 0 := by rw [eS1340, iN, if_neg d1344]; exact w1311
  have w1396 : sI S1340 h 4 = 0 := by rw [eS1340, iN, if_neg d1344]; exact w1312
  have w1397 : sI S1340 h 11 = 0 := by rw [eS1340, iN, if_neg d1344]; exact w1313
  have w1398 : sI S1340 h 12 = 0 := by rw [eS1340, iN, if_neg d1344]; exact w1314
  have w1399 : sI S1340 h 13 = 0 := by rw [eS1340, iN, if_neg d1344]; exact w1315
  have w1400 : sI S1340 h 14 = 0 := by rw [eS1340, iN, if_neg d1344]; exact w1316
  have w1401 : sI S1340 h 15 = 0 := by rw [eS1340, iN, if_neg d1344]; exact w1317
  have w1402 : sI S1340 h 16 = 0 := by rw [eS1340, iN, if_neg d1344]; exact w1318
  have w1403 : sI S1340 h 17 = 0 := by rw [eS1340, iN, if_neg d1344]; exact w1319
  have w1404 : sI S1340 h 18 = 0 := by rw [eS1340, iN, if_neg d1344]; exact w1320
  have w1405 : sI S1340 h 20 = 0 := by rw [eS1340, iN, if_neg d1344]; exact w1321
  have w1406 : sI S1340 h 21 = 0 := by rw [eS1340, iN, if_neg d1344]; exact w1322
  have w1407 : sI S1340 h 22 = 0 := by rw [eS1340, iN, if_neg d1344]; exact w1323
  have w1408 : sI S1340 h 35 = 0 := by rw [eS1340, iN, if_neg d1344]; exact w1324
  have w1409 : sI S1340 h 36 = 0 := by rw [eS1340, iN, if_neg d1344]; exact w1325
  have w1410 : sI S1340 h 53 = 0 := by rw [eS1340, iN, if_neg d1344]; exact w1326
  have w1411 : sI S1340 h 54 = 0 := by rw [eS1340, iN, if_neg d1344]; exact w1327
  have w1412 : sI S1340 h 55 = 0 := by rw [eS1340, iN, if_neg d1344]; exact w1328
  have w1413 : sI S1340 h 60 = 0 := by rw [eS1340, iN, if_neg d1344]; exact w1329
  have w1414 : sI S1340 h 19 = 200 := by rw [eS1340, iN, if_neg d1344]; exact w1330
  have w1415 : sI S1340 h 23 = 400 := by rw [eS1340, iN, if_neg d1344]; exact w1331
  have w1416 : sI S1340 h 24 = 3 := by rw [eS1340, iN, if_neg d1344]; exact w1332
  have w1417 : sI S1340 h 25 = 2 := by rw [eS1340, iN, if_neg d1344]; exact w1333
  have w1418 : ∀ j, j < 2 → sI S1340 q801 j = 0 := fun j hj => by rw [eS1340, iN, if_neg d1362]; exact w1334 j hj 
  have w1419 : ∀ j, j < 2 → sI S1340 q922 j = 0 := fun j hj => by rw [eS1340, iN, if_neg d1364]; exact w1335 j hj 
  have w1420 : ∀ j, j < 2 → sI S1340 q1052 j = 0 := fun j hj => by rw [eS1340, iN, if_neg d1366]; exact w1336 j hj 
  have w1421 : ∀ j, j < 2 → sI S1340 q1191 j = 0 := fun j hj => by rw [eS1340, iN, if_neg d1368]; exact w1337 j hj 
  have w1422 : ∀ j, j < 2 → sI S1340 q1339 j = 0 := fun j _ => by rw [eS1340, iN, if_pos rfl]
  have k1423 : sK S1340 q1339 = 11 := by rw [eS1340, kN, if_pos rfl]
  have n1424 : sL S1340 q1339 = 2 := by rw [eS1340, lNw, if_pos rfl]
  clear k1273 k1274 k1275 k1276 k1277 k1278 k1279 k1280 k1281 k1282 k1283 k1284 k1285 r1286 r1287 r1288 r1289 r1290 r1291 r1292 r1293 r1294 r1295 r1296 r1338 n1297 n1298 n1299 n1300 n1301 n1302 n1303 n1304 n1305 n1306 n1307 n1308 w1309 w1310 w1311 w1312 w1313 w1314 w1315 w1316 w1317 w1318 w1319 w1320 w1321 w1322 w1323 w1324 w1325 w1326 w1327 w1328 w1329 w1330 w1331 w1332 w1333 w1334 w1335 w1336 w1337
  refine pg_pr (ci := 9) (C := RX9) (T := TX9) (N := 63) hx hb hts wi9 tyX9 tyX9_ok nmX9 hown hK hW hS k1343 (by decide) rfl 31 (by decide) (hts (.fieldLink RX9 60 "IceHallModel" "melted" "[I") (by decide +kernel)) (fun _ h9 => h9) rfl hnm rfl rfl rfl rfl dX9_init_124 (fun H locs hW hS => ?_)
  have hX : Kx [h] S (stR S1340 h 31 (some q1339)) := hX.Rh List.mem_cons_self
  obtain ⟨S1425, eS1425⟩ : ∃ T : St, T = stR S1340 h 31 (some q1339) := ⟨_, rfl⟩
  rw [← eS1425] at hW hX
  have k1426 : sK S1425 h = 9 := by rw [eS1425]; exact k1343
  have k1427 : sK S1425 q1 = 10 := by rw [eS1425]; exact k1345
  have k1428 : sK S1425 q64 = 11 := by rw [eS1425]; exact k1347
  have k1429 : sK S1425 q134 = 11 := by rw [eS1425]; exact k1349
  have k1430 : sK S1425 q211 = 11 := by rw [eS1425]; exact k1351
  have k1431 : sK S1425 q295 = 11 := by rw [eS1425]; exact k1353
  have k1432 : sK S1425 q386 = 11 := by rw [eS1425]; exact k1355
  have k1433 : sK S1425 q484 = 11 := by rw [eS1425]; exact k1357
  have k1434 : sK S1425 q689 = 11 := by rw [eS1425]; exact k1359
  have k1435 : sK S1425 q801 = 11 := by rw [eS1425]; exact k1361
  have k1436 : sK S1425 q922 = 11 := by rw [eS1425]; exact k1363
  have k1437 : sK S1425 q1052 = 11 := by rw [eS1425]; exact k1365
  have k1438 : sK S1425 q1191 = 11 := by rw [eS1425]; exact k1367
  have k1439 : sK S1425 q1339 = 11 := by rw [eS1425]; exact k1423
  have r1440 : sR S1425 h 0 = some q1 := by rw [eS1425, rR, if_pos rfl, if_neg (by decide)]; exact r1369
  have r1441 : sR S1425 h 5 = some q64 := by rw [eS1425, rR, if_pos rfl, if_neg (by decide)]; exact r1370
  have r1442 : sR S1425 h 6 = some q134 := by rw [eS1425, rR, if_pos rfl, if_neg (by decide)]; exact r1371
  have r1443 : sR S1425 h 7 = some q211 := by rw [eS1425, rR, if_pos rfl, if_neg (by decide)]; exact r1372
  have r1444 : sR S1425 h 8 = some q295 := by rw [eS1425, rR, if_pos rfl, if_neg (by decide)]; exact r1373
  have r1445 : sR S1425 h 9 = some q386 := by rw [eS1425, rR, if_pos rfl, if_neg (by decide)]; exact r1374
  have r1446 : sR S1425 h 10 = some q484 := by rw [eS1425, rR, if_pos rfl, if_neg (by decide)]; exact r1375
  have r1447 : sR S1425 h 26 = some q689 := by rw [eS1425, rR, if_pos rfl, if_neg (by decide)]; exact r1376
  have r1448 : sR S1425 h 27 = some q801 := by rw [eS1425, rR, if_pos rfl, if_neg (by decide)]; exact r1377
  have r1449 : sR S1425 h 28 = some q922 := by rw [eS1425, rR, if_pos rfl, if_neg (by decide)]; exact r1378
  have r1450 : sR S1425 h 29 = some q1052 := by rw [eS1425, rR, if_pos rfl, if_neg (by decide)]; exact r1379
  have r1451 : sR S1425 h 30 = some q1191 := by rw [eS1425, rR, if_pos rfl, if_neg (by decide)]; exact r1380
  have n1452 : sL S1425 q1 = 80 := by rw [eS1425]; exact n1381
  have n1453 : sL S1425 q64 = 6 := by rw [eS1425]; exact n1382
  have n1454 : sL S1425 q134 = 6 := by rw [eS1425]; exact n1383
  have n1455 : sL S1425 q211 = 6 := by rw [eS1425]; exact n1384
  have n1456 : sL S1425 q295 = 6 := by rw [eS1425]; exact n1385
  have n1457 : sL S1425 q386 = 6 := by rw [eS1425]; exact n1386
  have n1458 : sL S1425 q484 = 6 := by rw [eS1425]; exact n1387
  have n1459 : sL S1425 q689 = 24 := by rw [eS1425]; exact n1388
  have n1460 : sL S1425 q801 = 2 := by rw [eS1425]; exact n1389
  have n1461 : sL S1425 q922 = 2 := by rw [eS1425]; exact n1390
  have n1462 : sL S1425 q1052 = 2 := by rw [eS1425]; exact n1391
  have n1463 : sL S1425 q1191 = 2 := by rw [eS1425]; exact n1392
  have n1464 : sL S1425 q1339 = 2 := by rw [eS1425]; exact n1424
  have w1465 : sI S1425 h 1 = 0 := by rw [eS1425]; exact w1393
  have w1466 : sI S1425 h 2 = 0 := by rw [eS1425]; exact w1394
  have w1467 : sI S1425 h 3 = 0 := by rw [eS1425]; exact w1395
  have w1468 : sI S1425 h 4 = 0 := by rw [eS1425]; exact w1396
  have w1469 : sI S1425 h 11 = 0 := by rw [eS1425]; exact w1397
  have w1470 : sI S1425 h 12 = 0 := by rw [eS1425]; exact w1398
  have w1471 : sI S1425 h 13 = 0 := by rw [eS1425]; exact w1399
  have w1472 : sI S1425 h 14 = 0 := by rw [eS1425]; exact w1400
  have w1473 : sI S1425 h 15 = 0 := by rw [eS1425]; exact w1401
  have w1474 : sI S1425 h 16 = 0 := by rw [eS1425]; exact w1402
  have w1475 : sI S1425 h 17 = 0 := by rw [eS1425]; exact w1403
  have w1476 : sI S1425 h 18 = 0 := by rw [eS1425]; exact w1404
  have w1477 : sI S1425 h 20 = 0 := by rw [eS1425]; exact w1405
  have w1478 : sI S1425 h 21 = 0 := by rw [eS1425]; exact w1406
  have w1479 : sI S1425 h 22 = 0 := by rw [eS1425]; exact w1407
  have w1480 : sI S1425 h 35 = 0 := by rw [eS1425]; exact w1408
  have w1481 : sI S1425 h 36 = 0 := by rw [eS1425]; exact w1409
  have w1482 : sI S1425 h 53 = 0 := by rw [eS1425]; exact w1410
  have w1483 : sI S1425 h 54 = 0 := by rw [eS1425]; exact w1411
  have w1484 : sI S1425 h 55 = 0 := by rw [eS1425]; exact w1412
  have w1485 : sI S1425 h 60 = 0 := by rw [eS1425]; exact w1413
  have w1486 : sI S1425 h 19 = 200 := by rw [eS1425]; exact w1414
  have w1487 : sI S1425 h 23 = 400 := by rw [eS1425]; exact w1415
  have w1488 : sI S1425 h 24 = 3 := by rw [eS1425]; exact w1416
  have w1489 : sI S1425 h 25 = 2 := by rw [eS1425]; exact w1417
  have w1490 : ∀ j, j < 2 → sI S1425 q801 j = 0 := fun j hj => by rw [eS1425]; exact w1418 j hj 
  have w1491 : ∀ j, j < 2 → sI S1425 q922 j = 0 := fun j hj => by rw [eS1425]; exact w1419 j hj 
  have w1492 : ∀ j, j < 2 → sI S1425 q1052 j = 0 := fun j hj => by rw [eS1425]; exact w1420 j hj 
  have w1493 : ∀ j, j < 2 → sI S1425 q1191 j = 0 := fun j hj => by rw [eS1425]; exact w1421 j hj 
  have w1494 : ∀ j, j < 2 → sI S1425 q1339 j = 0 := fun j hj => by rw [eS1425]; exact w1422 j hj 
  have r1495 : sR S1425 h 31 = some q1339 := by rw [eS1425, rR, if_pos rfl, if_pos rfl]
  clear k1343 k1345 k1347 k1349 k1351 k1353 k1355 k1357 k1359 k1361 k1363 k1365 k1367 k1423 r1369 r1370 r1371 r1372 r1373 r1374 r1375 r1376 r1377 r1378 r1379 r1380 n1381 n1382 n1383 n1384 n1385 n1386 n1387 n1388 n1389 n1390 n1391 n1392 n1424 w1393 w1394 w1395 w1396 w1397 w1398 w1399 w1400 w1401 w1402 w1403 w1404 w1405 w1406 w1407 w1408 w1409 w1410 w1411 w1412 w1413 w1414 w1415 w1416 w1417 w1418 w1419 w1420 w1421 w1422
  refine lv_aload_n hx hb dX9_init_127 rfl (lv_at hl 0 rfl) ?_
  refine lv_iconst (v := 2) hx hb dX9_init_128 (by decide) ?_
  refine pg_newa (atype := .int) (ty := .int) (kd := 11) (t0 := 1) (N' := 2) hx hb (hts (.arrayClass .int) (by decide +kernel)) rfl rfl (Or.inl rfl) (by decide) hK hW hS hA (fun _ => rfl) (by decide) (by decide) (Nat.le_of_ble_eq_true rfl) (Nat.le_of_ble_eq_true rfl) (Nat.le_of_ble_eq_true rfl) dX9_init_129 (fun q1496 H hq1496 hW hS => ?_)
  have f1498 : Ap h q1496 := ap_k k1426 hq1496 (by decide)
  have o1499 : 16 ≤ sK S q1496 := hX.old hq1496 (ni_c (ap_s f1498) ni_0)
  have hX : Kx [h] S (stN S1425 q1496 11 2) := hX.N hq1496
  obtain ⟨S1497, eS1497⟩ : ∃ T : St, T = stN S1425 q1496 11 2 := ⟨_, rfl⟩
  rw [← eS1497] at hW hX
  obtain ⟨k1500, d1501⟩ := fk_N (a := h) eS1497 k1426 (by decide) hq1496
  obtain ⟨k1502, d1503⟩ := fk_N (a := q1) eS1497 k1427 (by decide) hq1496
  obtain ⟨k1504, d1505⟩ := fk_N (a := q64) eS1497 k1428 (by decide) hq1496
  obtain ⟨k1506, d1507⟩ := fk_N (a := q134) eS1497 k1429 (by decide) hq1496
  obtain ⟨k1508, d1509⟩ := fk_N (a := q211) eS1497 k1430 (by decide) hq1496
  obtain ⟨k1510, d1511⟩ := fk_N (a := q295) eS1497 k1431 (by decide) hq1496
  obtain ⟨k1512, d1513⟩ := fk_N (a := q386) eS1497 k1432 (by decide) hq1496
  obtain ⟨k1514, d1515⟩ := fk_N (a := q484) eS1497 k1433 (by decide) hq1496
  obtain ⟨k1516, d1517⟩ := fk_N (a := q689) eS1497 k1434 (by decide) hq1496
  obtain ⟨k1518, d1519⟩ := fk_N (a := q801) eS1497 k1435 (by decide) hq1496
  obtain ⟨k1520, d1521⟩ := fk_N (a := q922) eS1497 k1436 (by decide) hq1496
  obtain ⟨k1522, d1523⟩ := fk_N (a := q1052) eS1497 k1437 (by decide) hq1496
  obtain ⟨k1524, d1525⟩ := fk_N (a := q1191) eS1497 k1438 (by decide) hq1496
  obtain ⟨k1526, d1527⟩ := fk_N (a := q1339) eS1497 k1439 (by decide) hq1496
  have r1528 : sR S1497 h 0 = some q1 := by rw [eS1497, rN, if_neg d1501]; exact r1440
  have r1529 : sR S1497 h 5 = some q64 := by rw [eS1497, rN, if_neg d1501]; exact r1441
  have r1530 : sR S1497 h 6 = some q134 := by rw [eS1497, rN, if_neg d1501]; exact r1442
  have r1531 : sR S1497 h 7 = some q211 := by rw [eS1497, rN, if_neg d1501]; exact r1443
  have r1532 : sR S1497 h 8 = some q295 := by rw [eS1497, rN, if_neg d1501]; exact r1444
  have r1533 : sR S1497 h 9 = some q386 := by rw [eS1497, rN, if_neg d1501]; exact r1445
  have r1534 : sR S1497 h 10 = some q484 := by rw [eS1497, rN, if_neg d1501]; exact r1446
  have r1535 : sR S1497 h 26 = some q689 := by rw [eS1497, rN, if_neg d1501]; exact r1447
  have r1536 : sR S1497 h 27 = some q801 := by rw [eS1497, rN, if_neg d1501]; exact r1448
  have r1537 : sR S1497 h 28 = some q922 := by rw [eS1497, rN, if_neg d1501]; exact r1449
  have r1538 : sR S1497 h 29 = some q1052 := by rw [eS1497, rN, if_neg d1501]; exact r1450
  have r1539 : sR S1497 h 30 = some q1191 := by rw [eS1497, rN, if_neg d1501]; exact r1451
  have r1540 : sR S1497 h 31 = some q1339 := by rw [eS1497, rN, if_neg d1501]; exact r1495
  have n1541 : sL S1497 q1 = 80 := by rw [eS1497, lNw, if_neg d1503]; exact n1452
  have n1542 : sL S1497 q64 = 6 := by rw [eS1497, lNw, if_neg d1505]; exact n1453
  have n1543 : sL S1497 q134 = 6 := by rw [eS1497, lNw, if_neg d1507]; exact n1454
  have n1544 : sL S1497 q211 = 6 := by rw [eS1497, lNw, if_neg d1509]; exact n1455
  have n1545 : sL S1497 q295 = 6 := by rw [eS1497, lNw, if_neg d1511]; exact n1456
  have n1546 : sL S1497 q386 = 6 := by rw [eS1497, lNw, if_neg d1513]; exact n1457
  have n1547 : sL S1497 q484 = 6 := by rw [eS1497, lNw, if_neg d1515]; exact n1458
  have n1548 : sL S1497 q689 = 24 := by rw [eS1497, lNw, if_neg d1517]; exact n1459
  have n1549 : sL S1497 q801 = 2 := by rw [eS1497, lNw, if_neg d1519]; exact n1460
  have n1550 : sL S1497 q922 = 2 := by rw [eS1497, lNw, if_neg d1521]; exact n1461
  have n1551 : sL S1497 q1052 = 2 := by rw [eS1497, lNw, if_neg d1523]; exact n1462
  have n1552 : sL S1497 q1191 = 2 := by rw [eS1497, lNw, if_neg d1525]; exact n1463
  have n1553 : sL S1497 q1339 = 2 := by rw [eS1497, lNw, if_neg d1527]; exact n1464
  have w1554 : sI S1497 h 1 = 0 := by rw [eS1497, iN, if_neg d1501]; exact w1465
  have w1555 : sI S1497 h 2 = 0 := by rw [eS1497, iN, if_neg d1501]; exact w1466
  have w1556 : sI S1497 h 3 = 0 := by rw [eS1497, iN, if_neg d1501]; exact w1467
  have w1557 : sI S1497 h 4 = 0 := by rw [eS1497, iN, if_neg d1501]; exact w1468
  have w1558 : sI S1497 h 11 = 0 := by rw [eS1497, iN, if_neg d1501]; exact w1469
  have w1559 : sI S1497 h 12 = 0 := by rw [eS1497, iN, if_neg d1501]; exact w1470
  have w1560 : sI S1497 h 13 = 0 := by rw [eS1497, iN, if_neg d1501]; exact w1471
  have w1561 : sI S1497 h 14 = 0 := by rw [eS1497, iN, if_neg d1501]; exact w1472
  have w1562 : sI S1497 h 15 = 0 := by rw [eS1497, iN, if_neg d1501]; exact w1473
  have w1563 : sI S1497 h 16 = 0 := by rw [eS1497, iN, if_neg d1501]; exact w1474
  have w1564 : sI S1497 h 17 = 0 := by rw [eS1497, iN, if_neg d1501]; exact w1475
  have w1565 : sI S1497 h 18 = 0 := by rw [eS1497, iN, if_neg d1501]; exact w1476
  have w1566 : sI S1497 h 20 = 0 := by rw [eS1497, iN, if_neg d1501]; exact w1477
  have w1567 : sI S1497 h 21 = 0 := by rw [eS1497, iN, if_neg d1501]; exact w1478
  have w1568 : sI S1497 h 22 = 0 := by rw [eS1497, iN, if_neg d1501]; exact w1479
  have w1569 : sI S1497 h 35 = 0 := by rw [eS1497, iN, if_neg d1501]; exact w1480
  have w1570 : sI S1497 h 36 = 0 := by rw [eS1497, iN, if_neg d1501]; exact w1481
  have w1571 : sI S1497 h 53 = 0 := by rw [eS1497, iN, if_neg d1501]; exact w1482
  have w1572 : sI S1497 h 54 = 0 := by rw [eS1497, iN, if_neg d1501]; exact w1483
  have w1573 : sI S1497 h 55 = 0 := by rw [eS1497, iN, if_neg d1501]; exact w1484
  have w1574 : sI S1497 h 60 = 0 := by rw [eS1497, iN, if_neg d1501]; exact w1485
  have w1575 : sI S1497 h 19 = 200 := by rw [eS1497, iN, if_neg d1501]; exact w1486
  have w1576 : sI S1497 h 23 = 400 := by rw [eS1497, iN, if_neg d1501]; exact w1487
  have w1577 : sI S1497 h 24 = 3 := by rw [eS1497, iN, if_neg d1501]; exact w1488
  have w1578 : sI S1497 h 25 = 2 := by rw [eS1497, iN, if_neg d1501]; exact w1489
  have w1579 : ∀ j, j < 2 → sI S1497 q801 j = 0 := fun j hj => by rw [eS1497, iN, if_neg d1519]; exact w1490 j hj 
  have w1580 : ∀ j, j < 2 → sI S1497 q922 j = 0 := fun j hj => by rw [eS1497, iN, if_neg d1521]; exact w1491 j hj 
  have w1581 : ∀ j, j < 2 → sI S1497 q1052 j = 0 := fun j hj => by rw [eS1497, iN, if_neg d1523]; exact w1492 j hj 
  have w1582 : ∀ j, j < 2 → sI S1497 q1191 j = 0 := fun j hj => by rw [eS1497, iN, if_neg d1525]; exact w1493 j hj 
  have w1583 : ∀ j, j < 2 → sI S1497 q1339 j = 0 := fun j hj => by rw [eS1497, iN, if_neg d1527]; exact w1494 j hj 
  have w1584 : ∀ j, j < 2 → sI S1497 q1496 j = 0 := fun j _ => by rw [eS1497, iN, if_pos rfl]
  have k1585 : sK S1497 q1496 = 11 := by rw [eS1497, kN, if_pos rfl]
  have n1586 : sL S1497 q1496 = 2 := by rw [eS1497, lNw, if_pos rfl]
  clear k1426 k1427 k1428 k1429 k1430 k1431 k1432 k1433 k1434 k1435 k1436 k1437 k1438 k1439 r1440 r1441 r1442 r1443 r1444 r1445 r1446 r1447 r1448 r1449 r1450 r1451 r1495 n1452 n1453 n1454 n1455 n1456 n1457 n1458 n1459 n1460 n1461 n1462 n1463 n1464 w1465 w1466 w1467 w1468 w1469 w1470 w1471 w1472 w1473 w1474 w1475 w1476 w1477 w1478 w1479 w1480 w1481 w1482 w1483 w1484 w1485 w1486 w1487 w1488 w1489 w1490 w1491 w1492 w1493 w1494
  refine pg_pr (ci := 9) (C := RX9) (T := TX9) (N := 63) hx hb hts wi9 tyX9 tyX9_ok nmX9 hown hK hW hS k1500 (by decide) rfl 32 (by decide) (hts (.fieldLink RX9 63 "IceHallModel" "cutShave" "[I") (by decide +kernel)) (fun _ h9 => h9) rfl hnm rfl rfl rfl rfl dX9_init_131 (fun H locs hW hS => ?_)
  have hX : Kx [h] S (stR S1497 h 32 (some q1496)) := hX.Rh List.mem_cons_self
  obtain ⟨S1587, eS1587⟩ : ∃ T : St, T = stR S1497 h 32 (some q1496) := ⟨_, rfl⟩
  rw [← eS1587] at hW hX
  have k1588 : sK S1587 h = 9 := by rw [eS1587]; exact k1500
  have k1589 : sK S1587 q1 = 10 := by rw [eS1587]; exact k1502
  have k1590 : sK S1587 q64 = 11 := by rw [eS1587]; exact k1504
  have k1591 : sK S1587 q134 = 11 := by rw [eS1587]; exact k1506
  have k1592 : sK S1587 q211 = 11 := by rw [eS1587]; exact k1508
  have k1593 : sK S1587 q295 = 11 := by rw [eS1587]; exact k1510
  have k1594 : sK S1587 q386 = 11 := by rw [eS1587]; exact k1512
  have k1595 : sK S1587 q484 = 11 := by rw [eS1587]; exact k1514
  have k1596 : sK S1587 q689 = 11 := by rw [eS1587]; exact k1516
  have k1597 : sK S1587 q801 = 11 := by rw [eS1587]; exact k1518
  have k1598 : sK S1587 q922 = 11 := by rw [eS1587]; exact k1520
  have k1599 : sK S1587 q1052 = 11 := by rw [eS1587]; exact k1522
  have k1600 : sK S1587 q1191 = 11 := by rw [eS1587]; exact k1524
  have k1601 : sK S1587 q1339 = 11 := by rw [eS1587]; exact k1526
  have k1602 : sK S1587 q1496 = 11 := by rw [eS1587]; exact k1585
  have r1603 : sR S1587 h 0 = some q1 := by rw [eS1587, rR, if_pos rfl, if_neg (by decide)]; exact r1528
  have r1604 : sR S1587 h 5 = some q64 := by rw [eS1587, rR, if_pos rfl, if_neg (by decide)]; exact r1529
  have r1605 : sR S1587 h 6 = some q134 := by rw [eS1587, rR, if_pos rfl, if_neg (by decide)]; exact r1530
  have r1606 : sR S1587 h 7 = some q211 := by rw [eS1587, rR, if_pos rfl, if_neg (by decide)]; exact r1531
  have r1607 : sR S1587 h 8 = some q295 := by rw [eS1587, rR, if_pos rfl, if_neg (by decide)]; exact r1532
  have r1608 : sR S1587 h 9 = some q386 := by rw [eS1587, rR, if_pos rfl, if_neg (by decide)]; exact r1533
  have r1609 : sR S1587 h 10 = some q484 := by rw [eS1587, rR, if_pos rfl, if_neg (by decide)]; exact r1534
  have r1610 : sR S1587 h 26 = some q689 := by rw [eS1587, rR, if_pos rfl, if_neg (by decide)]; exact r1535
  have r1611 : sR S1587 h 27 = some q801 := by rw [eS1587, rR, if_pos rfl, if_neg (by decide)]; exact r1536
  have r1612 : sR S1587 h 28 = some q922 := by rw [eS1587, rR, if_pos rfl, if_neg (by decide)]; exact r1537
  have r1613 : sR S1587 h 29 = some q1052 := by rw [eS1587, rR, if_pos rfl, if_neg (by decide)]; exact r1538
  have r1614 : sR S1587 h 30 = some q1191 := by rw [eS1587, rR, if_pos rfl, if_neg (by decide)]; exact r1539
  have r1615 : sR S1587 h 31 = some q1339 := by rw [eS1587, rR, if_pos rfl, if_neg (by decide)]; exact r1540
  have n1616 : sL S1587 q1 = 80 := by rw [eS1587]; exact n1541
  have n1617 : sL S1587 q64 = 6 := by rw [eS1587]; exact n1542
  have n1618 : sL S1587 q134 = 6 := by rw [eS1587]; exact n1543
  have n1619 : sL S1587 q211 = 6 := by rw [eS1587]; exact n1544
  have n1620 : sL S1587 q295 = 6 := by rw [eS1587]; exact n1545
  have n1621 : sL S1587 q386 = 6 := by rw [eS1587]; exact n1546
  have n1622 : sL S1587 q484 = 6 := by rw [eS1587]; exact n1547
  have n1623 : sL S1587 q689 = 24 := by rw [eS1587]; exact n1548
  have n1624 : sL S1587 q801 = 2 := by rw [eS1587]; exact n1549
  have n1625 : sL S1587 q922 = 2 := by rw [eS1587]; exact n1550
  have n1626 : sL S1587 q1052 = 2 := by rw [eS1587]; exact n1551
  have n1627 : sL S1587 q1191 = 2 := by rw [eS1587]; exact n1552
  have n1628 : sL S1587 q1339 = 2 := by rw [eS1587]; exact n1553
  have n1629 : sL S1587 q1496 = 2 := by rw [eS1587]; exact n1586
  have w1630 : sI S1587 h 1 = 0 := by rw [eS1587]; exact w1554
  have w1631 : sI S1587 h 2 = 0 := by rw [eS1587]; exact w1555
  have w1632 : sI S1587 h 3 = 0 := by rw [eS1587]; exact w1556
  have w1633 : sI S1587 h 4 = 0 := by rw [eS1587]; exact w1557
  have w1634 : sI S1587 h 11 = 0 := by rw [eS1587]; exact w1558
  have w1635 : sI S1587 h 12 = 0 := by rw [eS1587]; exact w1559
  have w1636 : sI S1587 h 13 = 0 := by rw [eS1587]; exact w1560
  have w1637 : sI S1587 h 14 = 0 := by rw [eS1587]; exact w1561
  have w1638 : sI S1587 h 15 = 0 := by rw [eS1587]; exact w1562
  have w1639 : sI S1587 h 16 = 0 := by rw [eS1587]; exact w1563
  have w1640 : sI S1587 h 17 = 0 := by rw [eS1587]; exact w1564
  have w1641 : sI S1587 h 18 = 0 := by rw [eS1587]; exact w1565
  have w1642 : sI S1587 h 20 = 0 := by rw [eS1587]; exact w1566
  have w1643 : sI S1587 h 21 = 0 := by rw [eS1587]; exact w1567
  have w1644 : sI S1587 h 22 = 0 := by rw [eS1587]; exact w1568
  have w1645 : sI S1587 h 35 = 0 := by rw [eS1587]; exact w1569
  have w1646 : sI S1587 h 36 = 0 := by rw [eS1587]; exact w1570
  have w1647 : sI S1587 h 53 = 0 := by rw [eS1587]; exact w1571
  have w1648 : sI S1587 h 54 = 0 := by rw [eS1587]; exact w1572
  have w1649 : sI S1587 h 55 = 0 := by rw [eS1587]; exact w1573
  have w1650 : sI S1587 h 60 = 0 := by rw [eS1587]; exact w1574
  have w1651 : sI S1587 h 19 = 200 := by rw [eS1587]; exact w1575
  have w1652 : sI S1587 h 23 = 400 := by rw [eS1587]; exact w1576
  have w1653 : sI S1587 h 24 = 3 := by rw [eS1587]; exact w1577
  have w1654 : sI S1587 h 25 = 2 := by rw [eS1587]; exact w1578
  have w1655 : ∀ j, j < 2 → sI S1587 q801 j = 0 := fun j hj => by rw [eS1587]; exact w1579 j hj 
  have w1656 : ∀ j, j < 2 → sI S1587 q922 j = 0 := fun j hj => by rw [eS1587]; exact w1580 j hj 
  have w1657 : ∀ j, j < 2 → sI S1587 q1052 j = 0 := fun j hj => by rw [eS1587]; exact w1581 j hj 
  have w1658 : ∀ j, j < 2 → sI S1587 q1191 j = 0 := fun j hj => by rw [eS1587]; exact w1582 j hj 
  have w1659 : ∀ j, j < 2 → sI S1587 q1339 j = 0 := fun j hj => by rw [eS1587]; exact w1583 j hj 
  have w1660 : ∀ j, j < 2 → sI S1587 q1496 j = 0 := fun j hj => by rw [eS1587]; exact w1584 j hj 
  have r1661 : sR S1587 h 32 = some q1496 := by rw [eS1587, rR, if_pos rfl, if_pos rfl]
  clear k1500 k1502 k1504 k1506 k1508 k1510 k1512 k1514 k1516 k1518 k1520 k1522 k1524 k1526 k1585 r1528 r1529 r1530 r1531 r1532 r1533 r1534 r1535 r1536 r1537 r1538 r1539 r1540 n1541 n1542 n1543 n1544 n1545 n1546 n1547 n1548 n1549 n1550 n1551 n1552 n1553 n1586 w1554 w1555 w1556 w1557 w1558 w1559 w1560 w1561 w1562 w1563 w1564 w1565 w1566 w1567 w1568 w1569 w1570 w1571 w1572 w1573 w1574 w1575 w1576 w1577 w1578 w1579 w1580 w1581 w1582 w1583 w1584
  refine lv_aload_n hx hb dX9_init_134 rfl (lv_at hl 0 rfl) ?_
  refine lv_iconst (v := 2) hx hb dX9_init_135 (by decide) ?_
  refine pg_newa (atype := .int) (ty := .int) (kd := 11) (t0 := 1) (N' := 2) hx hb (hts (.arrayClass .int) (by decide +kernel)) rfl rfl (Or.inl rfl) (by decide) hK hW hS hA (fun _ => rfl) (by decide) (by decide) (Nat.le_of_ble_eq_true rfl) (Nat.le_of_ble_eq_true rfl) (Nat.le_of_ble_eq_true rfl) dX9_init_136 (fun q1662 H hq1662 hW hS => ?_)
  have f1664 : Ap h q1662 := ap_k k1588 hq1662 (by decide)
  have o1665 : 16 ≤ sK S q1662 := hX.old hq1662 (ni_c (ap_s f1664) ni_0)
  have hX : Kx [h] S (stN S1587 q1662 11 2) := hX.N hq1662
  obtain ⟨S1663, eS1663⟩ : ∃ T : St, T = stN S1587 q1662 11 2 := ⟨_, rfl⟩
  rw [← eS1663] at hW hX
  obtain ⟨k1666, d1667⟩ := fk_N (a := h) eS1663 k1588 (by decide) hq1662
  obtain ⟨k1668, d1669⟩ := fk_N (a := q1) eS1663 k1589 (by decide) hq1662
  obtain ⟨k1670, d1671⟩ := fk_N (a := q64) eS1663 k1590 (by decide) hq1662
  obtain ⟨k1672, d1673⟩ := fk_N (a := q134) eS1663 k1591 (by decide) hq1662
  obtain ⟨k1674, d1675⟩ := fk_N (a := q211) eS1663 k1592 (by decide) hq1662
  obtain ⟨k1676, d1677⟩ := fk_N (a := q295) eS1663 k1593 (by decide) hq1662
  obtain ⟨k1678, d1679⟩ := fk_N (a := q386) eS1663 k1594 (by decide) hq1662
  obtain ⟨k1680, d1681⟩ := fk_N (a := q484) eS1663 k1595 (by decide) hq1662
  obtain ⟨k1682, d1683⟩ := fk_N (a := q689) eS1663 k1596 (by decide) hq1662
  obtain ⟨k1684, d1685⟩ := fk_N (a := q801) eS1663 k1597 (by decide) hq1662
  obtain ⟨k1686, d1687⟩ := fk_N (a := q922) eS1663 k1598 (by decide) hq1662
  obtain ⟨k1688, d1689⟩ := fk_N (a := q1052) eS1663 k1599 (by decide) hq1662
  obtain ⟨k1690, d1691⟩ := fk_N (a := q1191) eS1663 k1600 (by decide) hq1662
  obtain ⟨k1692, d1693⟩ := fk_N (a := q1339) eS1663 k1601 (by decide) hq1662
  obtain ⟨k1694, d1695⟩ := fk_N (a := q1496) eS1663 k1602 (by decide) hq1662
  have r1696 : sR S1663 h 0 = some q1 := by rw [eS1663, rN, if_neg d1667]; exact r1603
  have r1697 : sR S1663 h 5 = some q64 := by rw [eS1663, rN, if_neg d1667]; exact r1604
  have r1698 : sR S1663 h 6 = some q134 := by rw [eS1663, rN, if_neg d1667]; exact r1605
  have r1699 : sR S1663 h 7 = some q211 := by rw [eS1663, rN, if_neg d1667]; exact r1606
  have r1700 : sR S1663 h 8 = some q295 := by rw [eS1663, rN, if_neg d1667]; exact r1607
  have r1701 : sR S1663 h 9 = some q386 := by rw [eS1663, rN, if_neg d1667]; exact r1608
  have r1702 : sR S1663 h 10 = some q484 := by rw [eS1663, rN, if_neg d1667]; exact r1609
  have r1703 : sR S1663 h 26 = some q689 := by rw [eS1663, rN, if_neg d1667]; exact r1610
  have r1704 : sR S1663 h 27 = some q801 := by rw [eS1663, rN, if_neg d1667]; exact r1611
  have r1705 : sR S1663 h 28 = some q922 := by rw [eS1663, rN, if_neg d1667]; exact r1612
  have r1706 : sR S1663 h 29 = some q1052 := by rw [eS1663, rN, if_neg d1667]; exact r1613
  have r1707 : sR S1663 h 30 = some q1191 := by rw [eS1663, rN, if_neg d1667]; exact r1614
  have r1708 : sR S1663 h 31 = some q1339 := by rw [eS1663, rN, if_neg d1667]; exact r1615
  have r1709 : sR S1663 h 32 = some q1496 := by rw [eS1663, rN, if_neg d1667]; exact r1661
  have n1710 : sL S1663 q1 = 80 := by rw [eS1663, lNw, if_neg d1669]; exact n1616
  have n1711 : sL S1663 q64 = 6 := by rw [eS1663, lNw, if_neg d1671]; exact n1617
  have n1712 : sL S1663 q134 = 6 := by rw [eS1663, lNw, if_neg d1673]; exact n1618
  have n1713 : sL S1663 q211 = 6 := by rw [eS1663, lNw, if_neg d1675]; exact n1619
  have n1714 : sL S1663 q295 = 6 := by rw [eS1663, lNw, if_neg d1677]; exact n1620
  have n1715 : sL S1663 q386 = 6 := by rw [eS1663, lNw, if_neg d1679]; exact n1621
  have n1716 : sL S1663 q484 = 6 := by rw [eS1663, lNw, if_neg d1681]; exact n1622
  have n1717 : sL S1663 q689 = 24 := by rw [eS1663, lNw, if_neg d1683]; exact n1623
  have n1718 : sL S1663 q801 = 2 := by rw [eS1663, lNw, if_neg d1685]; exact n1624
  have n1719 : sL S1663 q922 = 2 := by rw [eS1663, lNw, if_neg d1687]; exact n1625
  have n1720 : sL S1663 q1052 = 2 := by rw [eS1663, lNw, if_neg d1689]; exact n1626
  have n1721 : sL S1663 q1191 = 2 := by rw [eS1663, lNw, if_neg d1691]; exact n1627
  have n1722 : sL S1663 q1339 = 2 := by rw [eS1663, lNw, if_neg d1693]; exact n1628
  have n1723 : sL S1663 q1496 = 2 := by rw [eS1663, lNw, if_neg d1695]; exact n1629
  have w1724 : sI S1663 h 1 = 0 := by rw [eS1663, iN, if_neg d1667]; exact w1630
  have w1725 : sI S1663 h 2 = 0 := by rw [eS1663, iN, if_neg d1667]; exact w1631
  have w1726 : sI S1663 h 3 = 0 := by rw [eS1663, iN, if_neg d1667]; exact w1632
  have w1727 : sI S1663 h 4 = 0 := by rw [eS1663, iN, if_neg d1667]; exact w1633
  have w1728 : sI S1663 h 11 = 0 := by rw [eS1663, iN, if_neg d1667]; exact w1634
  have w1729 : sI S1663 h 12 = 0 := by rw [eS1663, iN, if_neg d1667]; exact w1635
  have w1730 : sI S1663 h 13 = 0 := by rw [eS1663, iN, if_neg d1667]; exact w1636
  have w1731 : sI S1663 h 14 = 0 := by rw [eS1663, iN, if_neg d1667]; exact w1637
  have w1732 : sI S1663 h 15 = 0 := by rw [eS1663, iN, if_neg d1667]; exact w1638
  have w1733 : sI S1663 h 16 = 0 := by rw [eS1663, iN, if_neg d1667]; exact w1639
  have w1734 : sI S1663 h 17 = 0 := by rw [eS1663, iN, if_neg d1667]; exact w1640
  have w1735 : sI S1663 h 18 = 0 := by rw [eS1663, iN, if_neg d1667]; exact w1641
  have w1736 : sI S1663 h 20 = 0 := by rw [eS1663, iN, if_neg d1667]; exact w1642
  have w1737 : sI S1663 h 21 = 0 := by rw [eS1663, iN, if_neg d1667]; exact w1643
  have w1738 : sI S1663 h 22 = 0 := by rw [eS1663, iN, if_neg d1667]; exact w1644
  have w1739 : sI S1663 h 35 = 0 := by rw [eS1663, iN, if_neg d1667]; exact w1645
  have w1740 : sI S1663 h 36 = 0 := by rw [eS1663, iN, if_neg d1667]; exact w1646
  have w1741 : sI S1663 h 53 = 0 := by rw [eS1663, iN, if_neg d1667]; exact w1647
  have w1742 : sI S1663 h 54 = 0 := by rw [eS1663, iN, if_neg d1667]; exact w1648
  have w1743 : sI S1663 h 55 = 0 := by rw [eS1663, iN, if_neg d1667]; exact w1649
  have w1744 : sI S1663 h 60 = 0 := by rw [eS1663, iN, if_neg d1667]; exact w1650
  have w1745 : sI S1663 h 19 = 200 := by rw [eS1663, iN, if_neg d1667]; exact w1651
  have w1746 : sI S1663 h 23 = 400 := by rw [eS1663, iN, if_neg d1667]; exact w1652
  have w1747 : sI S1663 h 24 = 3 := by rw [eS1663, iN, if_neg d1667]; exact w1653
  have w1748 : sI S1663 h 25 = 2 := by rw [eS1663, iN, if_neg d1667]; exact w1654
  have w1749 : ∀ j, j < 2 → sI S1663 q801 j = 0 := fun j hj => by rw [eS1663, iN, if_neg d1685]; exact w1655 j hj 
  have w1750 : ∀ j, j < 2 → sI S1663 q922 j = 0 := fun j hj => by rw [eS1663, iN, if_neg d1687]; exact w1656 j hj 
  have w1751 : ∀ j, j < 2 → sI S1663 q1052 j = 0 := fun j hj => by rw [eS1663, iN, if_neg d1689]; exact w1657 j hj 
  have w1752 : ∀ j, j < 2 → sI S1663 q1191 j = 0 := fun j hj => by rw [eS1663, iN, if_neg d1691]; exact w1658 j hj 
  have w1753 : ∀ j, j < 2 → sI S1663 q1339 j = 0 := fun j hj => by rw [eS1663, iN, if_neg d1693]; exact w1659 j hj 
  have w1754 : ∀ j, j < 2 → sI S1663 q1496 j = 0 := fun j hj => by rw [eS1663, iN, if_neg d1695]; exact w1660 j hj 
  have w1755 : ∀ j, j < 2 → sI S1663 q1662 j = 0 := fun j _ => by rw [eS1663, iN, if_pos rfl]
  have k1756 : sK S1663 q1662 = 11 := by rw [eS1663, kN, if_pos rfl]
  have n1757 : sL S1663 q1662 = 2 := by rw [eS1663, lNw, if_pos rfl]
  clear k1588 k1589 k1590 k1591 k1592 k1593 k1594 k1595 k1596 k1597 k1598 k1599 k1600 k1601 k1602 r1603 r1604 r1605 r1606 r1607 r1608 r1609 r1610 r1611 r1612 r1613 r1614 r1615 r1661 n1616 n1617 n1618 n1619 n1620 n1621 n1622 n1623 n1624 n1625 n1626 n1627 n1628 n1629 w1630 w1631 w1632 w1633 w1634 w1635 w1636 w1637 w1638 w1639 w1640 w1641 w1642 w1643 w1644 w1645 w1646 w1647 w1648 w1649 w1650 w1651 w1652 w1653 w1654 w1655 w1656 w1657 w1658 w1659 w1660
  refine pg_pr (ci := 9) (C := RX9) (T := TX9) (N := 63) hx hb hts wi9 tyX9 tyX9_ok nmX9 hown hK hW hS k1666 (by decide) rfl 33 (by decide) (hts (.fieldLink RX9 66 "IceHallModel" "cutFlood" "[I") (by decide +kernel)) (fun _ h9 => h9) rfl hnm rfl rfl rfl rfl dX9_init_138 (fun H locs hW hS => ?_)
  have hX : Kx [h] S (stR S1663 h 33 (some q1662)) := hX.Rh List.mem_cons_self
  obtain ⟨S1758, eS1758⟩ : ∃ T : St, T = stR S1663 h 33 (some q1662) := ⟨_, rfl⟩
  rw [← eS1758] at hW hX
  have k1759 : sK S1758 h = 9 := by rw [eS1758]; exact k1666
  have k1760 : sK S1758 q1 = 10 := by rw [eS1758]; exact k1668
  have k1761 : sK S1758 q64 = 11 := by rw [eS1758]; exact k1670
  have k1762 : sK S1758 q134 = 11 := by rw [eS1758]; exact k1672
  have k1763 : sK S1758 q211 = 11 := by rw [eS1758]; exact k1674
  have k1764 : sK S1758 q295 = 11 := by rw [eS1758]; exact k1676
  have k1765 : sK S1758 q386 = 11 := by rw [eS1758]; exact k1678
  have k1766 : sK S1758 q484 = 11 := by rw [eS1758]; exact k1680
  have k1767 : sK S1758 q689 = 11 := by rw [eS1758]; exact k1682
  have k1768 : sK S1758 q801 = 11 := by rw [eS1758]; exact k1684
  have k1769 : sK S1758 q922 = 11 := by rw [eS1758]; exact k1686
  have k1770 : sK S1758 q1052 = 11 := by rw [eS1758]; exact k1688
  have k1771 : sK S1758 q1191 = 11 := by rw [eS1758]; exact k1690
  have k1772 : sK S1758 q1339 = 11 := by rw [eS1758]; exact k1692
  have k1773 : sK S1758 q1496 = 11 := by rw [eS1758]; exact k1694
  have k1774 : sK S1758 q1662 = 11 := by rw [eS1758]; exact k1756
  have r1775 : sR S1758 h 0 = some q1 := by rw [eS1758, rR, if_pos rfl, if_neg (by decide)]; exact r1696
  have r1776 : sR S1758 h 5 = some q64 := by rw [eS1758, rR, if_pos rfl, if_neg (by decide)]; exact r1697
  have r1777 : sR S1758 h 6 = some q134 := by rw [eS1758, rR, if_pos rfl, if_neg (by decide)]; exact r1698
  have r1778 : sR S1758 h 7 = some q211 := by rw [eS1758, rR, if_pos rfl, if_neg (by decide)]; exact r1699
  have r1779 : sR S1758 h 8 = some q295 := by rw [eS1758, rR, if_pos rfl, if_neg (by decide)]; exact r1700
  have r1780 : sR S1758 h 9 = some q386 := by rw [eS1758, rR, if_pos rfl, if_neg (by decide)]; exact r1701
  have r1781 : sR S1758 h 10 = some q484 := by rw [eS1758, rR, if_pos rfl, if_neg (by decide)]; exact r1702
  have r1782 : sR S1758 h 26 = some q689 := by rw [eS1758, rR, if_pos rfl, if_neg (by decide)]; exact r1703
  have r1783 : sR S1758 h 27 = some q801 := by rw [eS1758, rR, if_pos rfl, if_neg (by decide)]; exact r1704
  have r1784 : sR S1758 h 28 = some q922 := by rw [eS1758, rR, if_pos rfl, if_neg (by decide)]; exact r1705
  have r1785 : sR S1758 h 29 = some q1052 := by rw [eS1758, rR, if_pos rfl, if_neg (by decide)]; exact r1706
  have r1786 : sR S1758 h 30 = some q1191 := by rw [eS1758, rR, if_pos rfl, if_neg (by decide)]; exact r1707
  have r1787 : sR S1758 h 31 = some q1339 := by rw [eS1758, rR, if_pos rfl, if_neg (by decide)]; exact r1708
  have r1788 : sR S1758 h 32 = some q1496 := by rw [eS1758, rR, if_pos rfl, if_neg (by decide)]; exact r1709
  have n1789 : sL S1758 q1 = 80 := by rw [eS1758]; exact n1710
  have n1790 : sL S1758 q64 = 6 := by rw [eS1758]; exact n1711
  have n1791 : sL S1758 q134 = 6 := by rw [eS1758]; exact n1712
  have n1792 : sL S1758 q211 = 6 := by rw [eS1758]; exact n1713
  have n1793 : sL S1758 q295 = 6 := by rw [eS1758]; exact n1714
  have n1794 : sL S1758 q386 = 6 := by rw [eS1758]; exact n1715
  have n1795 : sL S1758 q484 = 6 := by rw [eS1758]; exact n1716
  have n1796 : sL S1758 q689 = 24 := by rw [eS1758]; exact n1717
  have n1797 : sL S1758 q801 = 2 := by rw [eS1758]; exact n1718
  have n1798 : sL S1758 q922 = 2 := by rw [eS1758]; exact n1719
  have n1799 : sL S1758 q1052 = 2 := by rw [eS1758]; exact n1720
  have n1800 : sL S1758 q1191 = 2 := by rw [eS1758]; exact n1721
  have n1801 : sL S1758 q1339 = 2 := by rw [eS1758]; exact n1722
  have n1802 : sL S1758 q1496 = 2 := by rw [eS1758]; exact n1723
  have n1803 : sL S1758 q1662 = 2 := by rw [eS1758]; exact n1757
  have w1804 : sI S1758 h 1 = 0 := by rw [eS1758]; exact w1724
  have w1805 : sI S1758 h 2 = 0 := by rw [eS1758]; exact w1725
  have w1806 : sI S1758 h 3 = 0 := by rw [eS1758]; exact w1726
  have w1807 : sI S1758 h 4 = 0 := by rw [eS1758]; exact w1727
  have w1808 : sI S1758 h 11 = 0 := by rw [eS1758]; exact w1728
  have w1809 : sI S1758 h 12 = 0 := by rw [eS1758]; exact w1729
  have w1810 : sI S1758 h 13 = 0 := by rw [eS1758]; exact w1730
  have w1811 : sI S1758 h 14 = 0 := by rw [eS1758]; exact w1731
  have w1812 : sI S1758 h 15 = 0 := by rw [eS1758]; exact w1732
  have w1813 : sI S1758 h 16 = 0 := by rw [eS1758]; exact w1733
  have w1814 : sI S1758 h 17 = 0 := by rw [eS1758]; exact w1734
  have w1815 : sI S1758 h 18 = 0 := by rw [eS1758]; exact w1735
  have w1816 : sI S1758 h 20 = 0 := by rw [eS1758]; exact w1736
  have w1817 : sI S1758 h 21 = 0 := by rw [eS1758]; exact w1737
  have w1818 : sI S1758 h 22 = 0 := by rw [eS1758]; exact w1738
  have w1819 : sI S1758 h 35 = 0 := by rw [eS1758]; exact w1739
  have w1820 : sI S1758 h 36 = 0 := by rw [eS1758]; exact w1740
  have w1821 : sI S1758 h 53 = 0 := by rw [eS1758]; exact w1741
  have w1822 : sI S1758 h 54 = 0 := by rw [eS1758]; exact w1742
  have w1823 : sI S1758 h 55 = 0 := by rw [eS1758]; exact w1743
  have w1824 : sI S1758 h 60 = 0 := by rw [eS1758]; exact w1744
  have w1825 : sI S1758 h 19 = 200 := by rw [eS1758]; exact w1745
  have w1826 : sI S1758 h 23 = 400 := by rw [eS1758]; exact w1746
  have w1827 : sI S1758 h 24 = 3 := by rw [eS1758]; exact w1747
  have w1828 : sI S1758 h 25 = 2 := by rw [eS1758]; exact w1748
  have w1829 : ∀ j, j < 2 → sI S1758 q801 j = 0 := fun j hj => by rw [eS1758]; exact w1749 j hj 
  have w1830 : ∀ j, j < 2 → sI S1758 q922 j = 0 := fun j hj => by rw [eS1758]; exact w1750 j hj 
  have w1831 : ∀ j, j < 2 → sI S1758 q1052 j = 0 := fun j hj => by rw [eS1758]; exact w1751 j hj 
  have w1832 : ∀ j, j < 2 → sI S1758 q1191 j = 0 := fun j hj => by rw [eS1758]; exact w1752 j hj 
  have w1833 : ∀ j, j < 2 → sI S1758 q1339 j = 0 := fun j hj => by rw [eS1758]; exact w1753 j hj 
  have w1834 : ∀ j, j < 2 → sI S1758 q1496 j = 0 := fun j hj => by rw [eS1758]; exact w1754 j hj 
  have w1835 : ∀ j, j < 2 → sI S1758 q1662 j = 0 := fun j hj => by rw [eS1758]; exact w1755 j hj 
  have r1836 : sR S1758 h 33 = some q1662 := by rw [eS1758, rR, if_pos rfl, if_pos rfl]
  clear k1666 k1668 k1670 k1672 k1674 k1676 k1678 k1680 k1682 k1684 k1686 k1688 k1690 k1692 k1694 k1756 r1696 r1697 r1698 r1699 r1700 r1701 r1702 r1703 r1704 r1705 r1706 r1707 r1708 r1709 n1710 n1711 n1712 n1713 n1714 n1715 n1716 n1717 n1718 n1719 n1720 n1721 n1722 n1723 n1757 w1724 w1725 w1726 w1727 w1728 w1729 w1730 w1731 w1732 w1733 w1734 w1735 w1736 w1737 w1738 w1739 w1740 w1741 w1742 w1743 w1744 w1745 w1746 w1747 w1748 w1749 w1750 w1751 w1752 w1753 w1754 w1755
  refine lv_aload_n hx hb dX9_init_141 rfl (lv_at hl 0 rfl) ?_
  refine lv_iconst (v := 2) hx hb dX9_init_142 (by decide) ?_
  refine pg_newa (atype := .boolean) (ty := .boolean) (kd := 13) (t0 := 3) (N' := 2) hx hb (hts (.arrayClass .boolean) (by decide +kernel)) rfl rfl (Or.inr (Or.inr (Or.inl rfl))) (by decide) hK hW hS hA (fun _ => rfl) (by decide) (by decide) (Nat.le_of_ble_eq_true rfl) (Nat.le_of_ble_eq_true rfl) (Nat.le_of_ble_eq_true rfl) dX9_init_143 (fun q1837 H hq1837 hW hS => ?_)
  have f1839 : Ap h q1837 := ap_k k1759 hq1837 (by decide)
  have o1840 : 16 ≤ sK S q1837 := hX.old hq1837 (ni_c (ap_s f1839) ni_0)
  have hX : Kx [h] S (stN S1758 q1837 13 2) := hX.N hq1837
  obtain ⟨S1838, eS1838⟩ : ∃ T : St, T = stN S1758 q1837 13 2 := ⟨_, rfl⟩
  rw [← eS1838] at hW hX
  obtain ⟨k1841, d1842⟩ := fk_N (a := h) eS1838 k1759 (by decide) hq1837
  obtain ⟨k1843, d1844⟩ := fk_N (a := q1) eS1838 k1760 (by decide) hq1837
  obtain ⟨k1845, d1846⟩ := fk_N (a := q64) eS1838 k1761 (by decide) hq1837
  obtain ⟨k1847, d1848⟩ := fk_N (a := q134) eS1838 k1762 (by decide) hq1837
  obtain ⟨k1849, d1850⟩ := fk_N (a := q211) eS1838 k1763 (by decide) hq1837
  obtain ⟨k1851, d1852⟩ := fk_N (a := q295) eS1838 k1764 (by decide) hq1837
  obtain ⟨k1853, d1854⟩ := fk_N (a := q386) eS1838 k1765 (by decide) hq1837
  obtain ⟨k1855, d1856⟩ := fk_N (a := q484) eS1838 k1766 (by decide) hq1837
  obtain ⟨k1857, d1858⟩ := fk_N (a := q689) eS1838 k1767 (by decide) hq1837
  obtain ⟨k1859, d1860⟩ := fk_N (a := q801) eS1838 k1768 (by decide) hq1837
  obtain ⟨k1861, d1862⟩ := fk_N (a := q922) eS1838 k1769 (by decide) hq1837
  obtain ⟨k1863, d1864⟩ := fk_N (a := q1052) eS1838 k1770 (by decide) hq1837
  obtain ⟨k1865, d1866⟩ := fk_N (a := q1191) eS1838 k1771 (by decide) hq1837
  obtain ⟨k1867, d1868⟩ := fk_N (a := q1339) eS1838 k1772 (by decide) hq1837
  obtain ⟨k1869, d1870⟩ := fk_N (a := q1496) eS1838 k1773 (by decide) hq1837
  obtain ⟨k1871, d1872⟩ := fk_N (a := q1662) eS1838 k1774 (by decide) hq1837
  have r1873 : sR S1838 h 0 = some q1 := by rw [eS1838, rN, if_neg d1842]; exact r1775
  have r1874 : sR S1838 h 5 = some q64 := by rw [eS1838, rN, if_neg d1842]; exact r1776
  have r1875 : sR S1838 h 6 = some q134 := by rw [eS1838, rN, if_neg d1842]; exact r1777
  have r1876 : sR S1838 h 7 = some q211 := by rw [eS1838, rN, if_neg d1842]; exact r1778
  have r1877 : sR S1838 h 8 = some q295 := by rw [eS1838, rN, if_neg d1842]; exact r1779
  have r1878 : sR S1838 h 9 = some q386 := by rw [eS1838, rN, if_neg d1842]; exact r1780
  have r1879 : sR S1838 h 10 = some q484 := by rw [eS1838, rN, if_neg d1842]; exact r1781
  have r1880 : sR S1838 h 26 = some q689 := by rw [eS1838, rN, if_neg d1842]; exact r1782
  have r1881 : sR S1838 h 27 = some q801 := by rw [eS1838, rN, if_neg d1842]; exact r1783
  have r1882 : sR S1838 h 28 = some q922 := by rw [eS1838, rN, if_neg d1842]; exact r1784
  have r1883 : sR S1838 h 29 = some q1052 := by rw [eS1838, rN, if_neg d1842]; exact r1785
  have r1884 : sR S1838 h 30 = some q1191 := by rw [eS1838, rN, if_neg d1842]; exact r1786
  have r1885 : sR S1838 h 31 = some q1339 := by rw [eS1838, rN, if_neg d1842]; exact r1787
  have r1886 : sR S1838 h 32 = some q1496 := by rw [eS1838, rN, if_neg d1842]; exact r1788
  have r1887 : sR S1838 h 33 = some q1662 := by rw [eS1838, rN, if_neg d1842]; exact r1836
  have n1888 : sL S1838 q1 = 80 := by rw [eS1838, lNw, if_neg d1844]; exact n1789
  have n1889 : sL S1838 q64 = 6 := by rw [eS1838, lNw, if_neg d1846]; exact n1790
  have n1890 : sL S1838 q134 = 6 := by rw [eS1838, lNw, if_neg d1848]; exact n1791
  have n1891 : sL S1838 q211 = 6 := by rw [eS1838, lNw, if_neg d1850]; exact n1792
  have n1892 : sL S1838 q295 = 6 := by rw [eS1838, lNw, if_neg d1852]; exact n1793
  have n1893 : sL S1838 q386 = 6 := by rw [eS1838, lNw, if_neg d1854]; exact n1794
  have n1894 : sL S1838 q484 = 6 := by rw [eS1838, lNw, if_neg d1856]; exact n1795
  have n1895 : sL S1838 q689 = 24 := by rw [eS1838, lNw, if_neg d1858]; exact n1796
  have n1896 : sL S1838 q801 = 2 := by rw [eS1838, lNw, if_neg d1860]; exact n1797
  have n1897 : sL S1838 q922 = 2 := by rw [eS1838, lNw, if_neg d1862]; exact n1798
  have n1898 : sL S1838 q1052 = 2 := by rw [eS1838, lNw, if_neg d1864]; exact n1799
  have n1899 : sL S1838 q1191 = 2 := by rw [eS1838, lNw, if_neg d1866]; exact n1800
  have n1900 : sL S1838 q1339 = 2 := by rw [eS1838, lNw, if_neg d1868]; exact n1801
  have n1901 : sL S1838 q1496 = 2 := by rw [eS1838, lNw, if_neg d1870]; exact n1802
  have n1902 : sL S1838 q1662 = 2 := by rw [eS1838, lNw, if_neg d1872]; exact n1803
  have w1903 : sI S1838 h 1 = 0 := by rw [eS1838, iN, if_neg d1842]; exact w1804
  have w1904 : sI S1838 h 2 = 0 := by rw [eS1838, iN, if_neg d1842]; exact w1805
  have w1905 : sI S1838 h 3 = 0 := by rw [eS1838, iN, if_neg d1842]; exact w1806
  have w1906 : sI S1838 h 4 = 0 := by rw [eS1838, iN, if_neg d1842]; exact w1807
  have w1907 : sI S1838 h 11 = 0 := by rw [eS1838, iN, if_neg d1842]; exact w1808
  have w1908 : sI S1838 h 12 = 0 := by rw [eS1838, iN, if_neg d1842]; exact w1809
  have w1909 : sI S1838 h 13 = 0 := by rw [eS1838, iN, if_neg d1842]; exact w1810
  have w1910 : sI S1838 h 14 = 0 := by rw [eS1838, iN, if_neg d1842]; exact w1811
  have w1911 : sI S1838 h 15 = 0 := by rw [eS1838, iN, if_neg d1842]; exact w1812
  have w1912 : sI S1838 h 16 = 0 := by rw [eS1838, iN, if_neg d1842]; exact w1813
  have w1913 : sI S1838 h 17 = 0 := by rw [eS1838, iN, if_neg d1842]; exact w1814
  have w1914 : sI S1838 h 18 = 0 := by rw [eS1838, iN, if_neg d1842]; exact w1815
  have w1915 : sI S1838 h 20 = 0 := by rw [eS1838, iN, if_neg d1842]; exact w1816
  have w1916 : sI S1838 h 21 = 0 := by rw [eS1838, iN, if_neg d1842]; exact w1817
  have w1917 : sI S1838 h 22 = 0 := by rw [eS1838, iN, if_neg d1842]; exact w1818
  have w1918 : sI S1838 h 35 = 0 := by rw [eS1838, iN, if_neg d1842]; exact w1819
  have w1919 : sI S1838 h 36 = 0 := by rw [eS1838, iN, if_neg d1842]; exact w1820
  have w1920 : sI S1838 h 53 = 0 := by rw [eS1838, iN, if_neg d1842]; exact w1821
  have w1921 : sI S1838 h 54 = 0 := by rw [eS1838, iN, if_neg d1842]; exact w1822
  have w1922 : sI S1838 h 55 = 0 := by rw [eS1838, iN, if_neg d1842]; exact w1823
  have w1923 : sI S1838 h 60 = 0 := by rw [eS1838, iN, if_neg d1842]; exact w1824
  have w1924 : sI S1838 h 19 = 200 := by rw [eS1838, iN, if_neg d1842]; exact w1825
  have w1925 : sI S1838 h 23 = 400 := by rw [eS1838, iN, if_neg d1842]; exact w1826
  have w1926 : sI S1838 h 24 = 3 := by rw [eS1838, iN, if_neg d1842]; exact w1827
  have w1927 : sI S1838 h 25 = 2 := by rw [eS1838, iN, if_neg d1842]; exact w1828
  have w1928 : ∀ j, j < 2 → sI S1838 q801 j = 0 := fun j hj => by rw [eS1838, iN, if_neg d1860]; exact w1829 j hj 
  have w1929 : ∀ j, j < 2 → sI S1838 q922 j = 0 := fun j hj => by rw [eS1838, iN, if_neg d1862]; exact w1830 j hj 
  have w1930 : ∀ j, j < 2 → sI S1838 q1052 j = 0 := fun j hj => by rw [eS1838, iN, if_neg d1864]; exact w1831 j hj 
  have w1931 : ∀ j, j < 2 → sI S1838 q1191 j = 0 := fun j hj => by rw [eS1838, iN, if_neg d1866]; exact w1832 j hj 
  have w1932 : ∀ j, j < 2 → sI S1838 q1339 j = 0 := fun j hj => by rw [eS1838, iN, if_neg d1868]; exact w1833 j hj 
  have w1933 : ∀ j, j < 2 → sI S1838 q1496 j = 0 := fun j hj => by rw [eS1838, iN, if_neg d1870]; exact w1834 j hj 
  have w1934 : ∀ j, j < 2 → sI S1838 q1662 j = 0 := fun j hj => by rw [eS1838, iN, if_neg d1872]; exact w1835 j hj 
  have w1935 : ∀ j, j < 2 → sI S1838 q1837 j = 0 := fun j _ => by rw [eS1838, iN, if_pos rfl]
  have k1936 : sK S1838 q1837 = 13 := by rw [eS1838, kN, if_pos rfl]
  have n1937 : sL S1838 q1837 = 2 := by rw [eS1838, lNw, if_pos rfl]
  clear k1759 k1760 k1761 k1762 k1763 k1764 k1765 k1766 k1767 k1768 k1769 k1770 k1771 k1772 k1773 k1774 r1775 r1776 r1777 r1778 r1779 r1780 r1781 r1782 r1783 r1784 r1785 r1786 r1787 r1788 r1836 n1789 n1790 n1791 n1792 n1793 n1794 n1795 n1796 n1797 n1798 n1799 n1800 n1801 n1802 n1803 w1804 w1805 w1806 w1807 w1808 w1809 w1810 w1811 w1812 w1813 w1814 w1815 w1816 w1817 w1818 w1819 w1820 w1821 w1822 w1823 w1824 w1825 w1826 w1827 w1828 w1829 w1830 w1831 w1832 w1833 w1834 w1835
  refine pg_pr (ci := 9) (C := RX9) (T := TX9) (N := 63) hx hb hts wi9 tyX9 tyX9_ok nmX9 hown hK hW hS k1841 (by decide) rfl 34 (by decide) (hts (.fieldLink RX9 69 "IceHallModel" "hasCut" "[Z") (by decide +kernel)) (fun _ h9 => h9) rfl hnm rfl rfl rfl rfl dX9_init_145 (fun H locs hW hS => ?_)
  have hX : Kx [h] S (stR S1838 h 34 (some q1837)) := hX.Rh List.mem_cons_self
  obtain ⟨S1938, eS1938⟩ : ∃ T : St, T = stR S1838 h 34 (some q1837) := ⟨_, rfl⟩
  rw [← eS1938] at hW hX
  have k1939 : sK S1938 h = 9 := by rw [eS1938]; exact k1841
  have k1940 : sK S1938 q1 = 10 := by rw [eS1938]; exact k1843
  have k1941 : sK S1938 q64 = 11 := by rw [eS1938]; exact k1845
  have k1942 : sK S1938 q134 = 11 := by rw [eS1938]; exact k1847
  have k1943 : sK S1938 q211 = 11 := by rw [eS1938]; exact k1849
  have k1944 : sK S1938 q295 = 11 := by rw [eS1938]; exact k1851
  have k1945 : sK S1938 q386 = 11 := by rw [eS1938]; exact k1853
  have k1946 : sK S1938 q484 = 11 := by rw [eS1938]; exact k1855
  have k1947 : sK S1938 q689 = 11 := by rw [eS1938]; exact k1857
  have k1948 : sK S1938 q801 = 11 := by rw [eS1938]; exact k1859
  have k1949 : sK S1938 q922 = 11 := by rw [eS1938]; exact k1861
  have k1950 : sK S1938 q1052 = 11 := by rw [eS1938]; exact k1863
  have k1951 : sK S1938 q1191 = 11 := by rw [eS1938]; exact k1865
  have k1952 : sK S1938 q1339 = 11 := by rw [eS1938]; exact k1867
  have k1953 : sK S1938 q1496 = 11 := by rw [eS1938]; exact k1869
  have k1954 : sK S1938 q1662 = 11 := by rw [eS1938]; exact k1871
  have k1955 : sK S1938 q1837 = 13 := by rw [eS1938]; exact k1936
  have r1956 : sR S1938 h 0 = some q1 := by rw [eS1938, rR, if_pos rfl, if_neg (by decide)]; exact r1873
  have r1957 : sR S1938 h 5 = some q64 := by rw [eS1938, rR, if_pos rfl, if_neg (by decide)]; exact r1874
  have r1958 : sR S1938 h 6 = some q134 := by rw [eS1938, rR, if_pos rfl, if_neg (by decide)]; exact r1875
  have r1959 : sR S1938 h 7 = some q211 := by rw [eS1938, rR, if_pos rfl, if_neg (by decide)]; exact r1876
  have r1960 : sR S1938 h 8 = some q295 := by rw [eS1938, rR, if_pos rfl, if_neg (by decide)]; exact r1877
  have r1961 : sR S1938 h 9 = some q386 := by rw [eS1938, rR, if_pos rfl, if_neg (by decide)]; exact r1878
  have r1962 : sR S1938 h 10 = some q484 := by rw [eS1938, rR, if_pos rfl, if_neg (by decide)]; exact r1879
  have r1963 : sR S1938 h 26 = some q689 := by rw [eS1938, rR, if_pos rfl, if_neg (by decide)]; exact r1880
  have r1964 : sR S1938 h 27 = some q801 := by rw [eS1938, rR, if_pos rfl, if_neg (by decide)]; exact r1881
  have r1965 : sR S1938 h 28 = some q922 := by rw [eS1938, rR, if_pos rfl, if_neg (by decide)]; exact r1882
  have r1966 : sR S1938 h 29 = some q1052 := by rw [eS1938, rR, if_pos rfl, if_neg (by decide)]; exact r1883
  have r1967 : sR S1938 h 30 = some q1191 := by rw [eS1938, rR, if_pos rfl, if_neg (by decide)]; exact r1884
  have r1968 : sR S1938 h 31 = some q1339 := by rw [eS1938, rR, if_pos rfl, if_neg (by decide)]; exact r1885
  have r1969 : sR S1938 h 32 = some q1496 := by rw [eS1938, rR, if_pos rfl, if_neg (by decide)]; exact r1886
  have r1970 : sR S1938 h 33 = some q1662 := by rw [eS1938, rR, if_pos rfl, if_neg (by decide)]; exact r1887
  have n1971 : sL S1938 q1 = 80 := by rw [eS1938]; exact n1888
  have n1972 : sL S1938 q64 = 6 := by rw [eS1938]; exact n1889
  have n1973 : sL S1938 q134 = 6 := by rw [eS1938]; exact n1890
  have n1974 : sL S1938 q211 = 6 := by rw [eS1938]; exact n1891
  have n1975 : sL S1938 q295 = 6 := by rw [eS1938]; exact n1892
  have n1976 : sL S1938 q386 = 6 := by rw [eS1938]; exact n1893
  have n1977 : sL S1938 q484 = 6 := by rw [eS1938]; exact n1894
  have n1978 : sL S1938 q689 = 24 := by rw [eS1938]; exact n1895
  have n1979 : sL S1938 q801 = 2 := by rw [eS1938]; exact n1896
  have n1980 : sL S1938 q922 = 2 := by rw [eS1938]; exact n1897
  have n1981 : sL S1938 q1052 = 2 := by rw [eS1938]; exact n1898
  have n1982 : sL S1938 q1191 = 2 := by rw [eS1938]; exact n1899
  have n1983 : sL S1938 q1339 = 2 := by rw [eS1938]; exact n1900
  have n1984 : sL S1938 q1496 = 2 := by rw [eS1938]; exact n1901
  have n1985 : sL S1938 q1662 = 2 := by rw [eS1938]; exact n1902
  have n1986 : sL S1938 q1837 = 2 := by rw [eS1938]; exact n1937
  have w1987 : sI S1938 h 1 = 0 := by rw [eS1938]; exact w1903
  have w1988 : sI S1938 h 2 = 0 := by rw [eS1938]; exact w1904
  have w1989 : sI S1938 h 3 = 0 := by rw [eS1938]; exact w1905
  have w1990 : sI S1938 h 4 = 0 := by rw [eS1938]; exact w1906
  have w1991 : sI S1938 h 11 = 0 := by rw [eS1938]; exact w1907
  have w1992 : sI S1938 h 12 = 0 := by rw [eS1938]; exact w1908
  have w1993 : sI S1938 h 13 = 0 := by rw [eS1938]; exact w1909
  have w1994 : sI S1938 h 14 = 0 := by rw [eS1938]; exact w1910
  have w1995 : sI S1938 h 15 = 0 := by rw [eS1938]; exact w1911
  have w1996 : sI S1938 h 16 = 0 := by rw [eS1938]; exact w1912
  have w1997 : sI S1938 h 17 = 0 := by rw [eS1938]; exact w1913
  have w1998 : sI S1938 h 18 = 0 := by rw [eS1938]; exact w1914
  have w1999 : sI S1938 h 20 = 0 := by rw [eS1938]; exact w1915
  have w2000 : sI S1938 h 21 = 0 := by rw [eS1938]; exact w1916
  have w2001 : sI S1938 h 22 = 0 := by rw [eS1938]; exact w1917
  have w2002 : sI S1938 h 35 = 0 := by rw [eS1938]; exact w1918
  have w2003 : sI S1938 h 36 = 0 := by rw [eS1938]; exact w1919
  have w2004 : sI S1938 h 53 = 0 := by rw [eS1938]; exact w1920
  have w2005 : sI S1938 h 54 = 0 := by rw [eS1938]; exact w1921
  have w2006 : sI S1938 h 55 = 0 := by rw [eS1938]; exact w1922
  have w2007 : sI S1938 h 60 = 0 := by rw [eS1938]; exact w1923
  have w2008 : sI S1938 h 19 = 200 := by rw [eS1938]; exact w1924
  have w2009 : sI S1938 h 23 = 400 := by rw [eS1938]; exact w1925
  have w2010 : sI S1938 h 24 = 3 := by rw [eS1938]; exact w1926
  have w2011 : sI S1938 h 25 = 2 := by rw [eS1938]; exact w1927
  have w2012 : ∀ j, j < 2 → sI S1938 q801 j = 0 := fun j hj => by rw [eS1938]; exact w1928 j hj 
  have w2013 : ∀ j, j < 2 → sI S1938 q922 j = 0 := fun j hj => by rw [eS1938]; exact w1929 j hj 
  have w2014 : ∀ j, j < 2 → sI S1938 q1052 j = 0 := fun j hj => by rw [eS1938]; exact w1930 j hj 
  have w2015 : ∀ j, j < 2 → sI S1938 q1191 j = 0 := fun j hj => by rw [eS1938]; exact w1931 j hj 
  have w2016 : ∀ j, j < 2 → sI S1938 q1339 j = 0 := fun j hj => by rw [eS1938]; exact w1932 j hj 
  have w2017 : ∀ j, j < 2 → sI S1938 q1496 j = 0 := fun j hj => by rw [eS1938]; exact w1933 j hj 
  have w2018 : ∀ j, j < 2 → sI S1938 q1662 j = 0 := fun j hj => by rw [eS1938]; exact w1934 j hj 
  have w2019 : ∀ j, j < 2 → sI S1938 q1837 j = 0 := fun j hj => by rw [eS1938]; exact w1935 j hj 
  have r2020 : sR S1938 h 34 = some q1837 := by rw [eS1938, rR, if_pos rfl, if_pos rfl]
  clear k1841 k1843 k1845 k1847 k1849 k1851 k1853 k1855 k1857 k1859 k1861 k1863 k1865 k1867 k1869 k1871 k1936 r1873 r1874 r1875 r1876 r1877 r1878 r1879 r1880 r1881 r1882 r1883 r1884 r1885 r1886 r1887 n1888 n1889 n1890 n1891 n1892 n1893 n1894 n1895 n1896 n1897 n1898 n1899 n1900 n1901 n1902 n1937 w1903 w1904 w1905 w1906 w1907 w1908 w1909 w1910 w1911 w1912 w1913 w1914 w1915 w1916 w1917 w1918 w1919 w1920 w1921 w1922 w1923 w1924 w1925 w1926 w1927 w1928 w1929 w1930 w1931 w1932 w1933 w1934 w1935
  refine lv_aload_n hx hb dX9_init_148 rfl (lv_at hl 0 rfl) ?_
  refine lv_sipush (v := 200) hx hb dX9_init_149 (by decide) ?_
  refine pg_newa (atype := .int) (ty := .int) (kd := 11) (t0 := 1) (N' := 200) hx hb (hts (.arrayClass .int) (by decide +kernel)) rfl rfl (Or.inl rfl) (by decide) hK hW hS hA (fun _ => rfl) (by decide) (by decide) (Nat.le_of_ble_eq_true rfl) (Nat.le_of_ble_eq_true rfl) (Nat.le_of_ble_eq_true rfl) dX9_init_152 (fun q2021 H hq2021 hW hS => ?_)
  have f2023 : Ap h q2021 := ap_k k1939 hq2021 (by decide)
  have o2024 : 16 ≤ sK S q2021 := hX.old hq2021 (ni_c (ap_s f2023) ni_0)
  have hX : Kx [h] S (stN S1938 q2021 11 200) := hX.N hq2021
  obtain ⟨S2022, eS2022⟩ : ∃ T : St, T = stN S1938 q2021 11 200 := ⟨_, rfl⟩
  rw [← eS2022] at hW hX
  obtain ⟨k2025, d2026⟩ := fk_N (a := h) eS2022 k1939 (by decide) hq2021
  obtain ⟨k2027, d2028⟩ := fk_N (a := q1) eS2022 k1940 (by decide) hq2021
  obtain ⟨k2029, d2030⟩ := fk_N (a := q64) eS2022 k1941 (by decide) hq2021
  obtain ⟨k2031, d2032⟩ := fk_N (a := q134) eS2022 k1942 (by decide) hq2021
  obtain ⟨k2033, d2034⟩ := fk_N (a := q211) eS2022 k1943 (by decide) hq2021
  obtain ⟨k2035, d2036⟩ := fk_N (a := q295) eS2022 k1944 (by decide) hq2021
  obtain ⟨k2037, d2038⟩ := fk_N (a := q386) eS2022 k1945 (by decide) hq2021
  obtain ⟨k2039, d2040⟩ := fk_N (a := q484) eS2022 k1946 (by decide) hq2021
  obtain ⟨k2041, d2042⟩ := fk_N (a := q689) eS2022 k1947 (by decide) hq2021
  obtain ⟨k2043, d2044⟩ := fk_N (a := q801) eS2022 k1948 (by decide) hq2021
  obtain ⟨k2045, d2046⟩ := fk_N (a := q922) eS2022 k1949 (by decide) hq2021
  obtain ⟨k2047, d2048⟩ := fk_N (a := q1052) eS2022 k1950 (by decide) hq2021
  obtain ⟨k2049, d2050⟩ := fk_N (a := q1191) eS2022 k1951 (by decide) hq2021
  obtain ⟨k2051, d2052⟩ := fk_N (a := q1339) eS2022 k1952 (by decide) hq2021
  obtain ⟨k2053, d2054⟩ := fk_N (a := q1496) eS2022 k1953 (by decide) hq2021
  obtain ⟨k2055, d2056⟩ := fk_N (a := q1662) eS2022 k1954 (by decide) hq2021
  obtain ⟨k2057, d2058⟩ := fk_N (a := q1837) eS2022 k1955 (by decide) hq2021
  have r2059 : sR S2022 h 0 = some q1 := by rw [eS2022, rN, if_neg d2026]; exact r1956
  have r2060 : sR S2022 h 5 = some q64 := by rw [eS2022, rN, if_neg d2026]; exact r1957
  have r2061 : sR S2022 h 6 = some q134 := by rw [eS2022, rN, if_neg d2026]; exact r1958
  have r2062 : sR S2022 h 7 = some q211 := by rw [eS2022, rN, if_neg d2026]; exact r1959
  have r2063 : sR S2022 h 8 = some q295 := by rw [eS2022, rN, if_neg d2026]; exact r1960
  have r2064 : sR S2022 h 9 = some q386 := by rw [eS2022, rN, if_neg d2026]; exact r1961
  have r2065 : sR S2022 h 10 = some q484 := by rw [eS2022, rN, if_neg d2026]; exact r1962
  have r2066 : sR S2022 h 26 = some q689 := by rw [eS2022, rN, if_neg d2026]; exact r1963
  have r2067 : sR S2022 h 27 = some q801 := by rw [eS2022, rN, if_neg d2026]; exact r1964
  have r2068 : sR S2022 h 28 = some q922 := by rw [eS2022, rN, if_neg d2026]; exact r1965
  have r2069 : sR S2022 h 29 = some q1052 := by rw [eS2022, rN, if_neg d2026]; exact r1966
  have r2070 : sR S2022 h 30 = some q1191 := by rw [eS2022, rN, if_neg d2026]; exact r1967
  have r2071 : sR S2022 h 31 = some q1339 := by rw [eS2022, rN, if_neg d2026]; exact r1968
  have r2072 : sR S2022 h 32 = some q1496 := by rw [eS2022, rN, if_neg d2026]; exact r1969
  have r2073 : sR S2022 h 33 = some q1662 := by rw [eS2022, rN, if_neg d2026]; exact r1970
  have r2074 : sR S2022 h 34 = some q1837 := by rw [eS2022, rN, if_neg d2026]; exact r2020
  have n2075 : sL S2022 q1 = 80 := by rw [eS2022, lNw, if_neg d2028]; exact n1971
  have n2076 : sL S2022 q64 = 6 := by rw [eS2022, lNw, if_neg d2030]; exact n1972
  have n2077 : sL S2022 q134 = 6 := by rw [eS2022, lNw, if_neg d2032]; exact n1973
  have n2078 : sL S2022 q211 = 6 := by rw [eS2022, lNw, if_neg d2034]; exact n1974
  have n2079 : sL S2022 q295 = 6 := by rw [eS2022, lNw, if_neg d2036]; exact n1975
  have n2080 : sL S2022 q386 = 6 := by rw [eS2022, lNw, if_neg d2038]; exact n1976
  have n2081 : sL S2022 q484 = 6 := by rw [eS2022, lNw, if_neg d2040]; exact n1977
  have n2082 : sL S2022 q689 = 24 := by rw [eS2022, lNw, if_neg d2042]; exact n1978
  have n2083 : sL S2022 q801 = 2 := by rw [eS2022, lNw, if_neg d2044]; exact n1979
  have n2084 : sL S2022 q922 = 2 := by rw [eS2022, lNw, if_neg d2046]; exact n1980
  have n2085 : sL S2022 q1052 = 2 := by rw [eS2022, lNw, if_neg d2048]; exact n1981
  have n2086 : sL S2022 q1191 = 2 := by rw [eS2022, lNw, if_neg d2050]; exact n1982
  have n2087 : sL S2022 q1339 = 2 := by rw [eS2022, lNw, if_neg d2052]; exact n1983
  have n2088 : sL S2022 q1496 = 2 := by rw [eS2022, lNw, if_neg d2054]; exact n1984
  have n2089 : sL S2022 q1662 = 2 := by rw [eS2022, lNw, if_neg d2056]; exact n1985
  have n2090 : sL S2022 q1837 = 2 := by rw [eS2022, lNw, if_neg d2058]; exact n1986
  have w2091 : sI S2022 h 1 = 0 := by rw [eS2022, iN, if_neg d2026]; exact w1987
  have w2092 : sI S2022 h 2 = 0 := by rw [eS2022, iN, if_neg d2026]; exact w1988
  have w2093 : sI S2022 h 3 = 0 := by rw [eS2022, iN, if_neg d2026]; exact w1989
  have w2094 : sI S2022 h 4 = 0 := by rw [eS2022, iN, if_neg d2026]; exact w1990
  have w2095 : sI S2022 h 11 = 0 := by rw [eS2022, iN, if_neg d2026]; exact w1991
  have w2096 : sI S2022 h 12 = 0 := by rw [eS2022, iN, if_neg d2026]; exact w1992
  have w2097 : sI S2022 h 13 = 0 := by rw [eS2022, iN, if_neg d2026]; exact w1993
  have w2098 : sI S2022 h 14 = 0 := by rw [eS2022, iN, if_neg d2026]; exact w1994
  have w2099 : sI S2022 h 15 = 0 := by rw [eS2022, iN, if_neg d2026]; exact w1995
  have w2100 : sI S2022 h 16 = 0 := by rw [eS2022, iN, if_neg d2026]; exact w1996
  have w2101 : sI S2022 h 17 = 0 := by rw [eS2022, iN, if_neg d2026]; exact w1997
  have w2102 : sI S2022 h 18 = 0 := by rw [eS2022, iN, if_neg d2026]; exact w1998
  have w2103 : sI S2022 h 20 = 0 := by rw [eS2022, iN, if_neg d2026]; exact w1999
  have w2104 : sI S2022 h 21 = 0 := by rw [eS2022, iN, if_neg d2026]; exact w2000
  have w2105 : sI S2022 h 22 = 0 := by rw [eS2022, iN, if_neg d2026]; exact w2001
  have w2106 : sI S2022 h 35 = 0 := by rw [eS2022, iN, if_neg d2026]; exact w2002
  have w2107 : sI S2022 h 36 = 0 := by rw [eS2022, iN, if_neg d2026]; exact w2003
  have w2108 : sI S2022 h 53 = 0 := by rw [eS2022, iN, if_neg d2026]; exact w2004
  have w2109 : sI S2022 h 54 = 0 := by rw [eS2022, iN, if_neg d2026]; exact w2005
  have w2110 : sI S2022 h 55 = 0 := by rw [eS2022, iN, if_neg d2026]; exact w2006
  have w2111 : sI S2022 h 60 = 0 := by rw [eS2022, iN, if_neg d2026]; exact w2007
  have w2112 : sI S2022 h 19 = 200 := by rw [eS2022, iN, if_neg d2026]; exact w2008
  have w2113 : sI S2022 h 23 = 400 := by rw [eS2022, iN, if_neg d2026]; exact w2009
  have w2114 : sI S2022 h 24 = 3 := by rw [eS2022, iN, if_neg d2026]; exact w2010
  have w2115 : sI S2022 h 25 = 2 := by rw [eS2022, iN, if_neg d2026]; exact w2011
  have w2116 : ∀ j, j < 2 → sI S2022 q801 j = 0 := fun j hj => by rw [eS2022, iN, if_neg d2044]; exact w2012 j hj 
  have w2117 : ∀ j, j < 2 → sI S2022 q922 j = 0 := fun j hj => by rw [eS2022, iN, if_neg d2046]; exact w2013 j hj 
  have w2118 : ∀ j, j < 2 → sI S2022 q1052 j = 0 := fun j hj => by rw [eS2022, iN, if_neg d2048]; exact w2014 j hj 
  have w2119 : ∀ j, j < 2 → sI S2022 q1191 j = 0 := fun j hj => by rw [eS2022, iN, if_neg d2050]; exact w2015 j hj 
  have w2120 : ∀ j, j < 2 → sI S2022 q1339 j = 0 := fun j hj => by rw [eS2022, iN, if_neg d2052]; exact w2016 j hj 
  have w2121 : ∀ j, j < 2 → sI S2022 q1496 j = 0 := fun j hj => by rw [eS2022, iN, if_neg d2054]; exact w2017 j hj 
  have w2122 : ∀ j, j < 2 → sI S2022 q1662 j = 0 := fun j hj => by rw [eS2022, iN, if_neg d2056]; exact w2018 j hj 
  have w2123 : ∀ j, j < 2 → sI S2022 q1837 j = 0 := fun j hj => by rw [eS2022, iN, if_neg d2058]; exact w2019 j hj 
  have k2124 : sK S2022 q2021 = 11 := by rw [eS2022, kN, if_pos rfl]
  have n2125 : sL S2022 q2021 = 200 := by rw [eS2022, lNw, if_pos rfl]
  clear k1939 k1940 k1941 k1942 k1943 k1944 k1945 k1946 k1947 k1948 k1949 k1950 k1951 k1952 k1953 k1954 k1955 r1956 r1957 r1958 r1959 r1960 r1961 r1962 r1963 r1964 r1965 r1966 r1967 r1968 r1969 r1970 r2020 n1971 n1972 n1973 n1974 n1975 n1976 n1977 n1978 n1979 n1980 n1981 n1982 n1983 n1984 n1985 n1986 w1987 w1988 w1989 w1990 w1991 w1992 w1993 w1994 w1995 w1996 w1997 w1998 w1999 w2000 w2001 w2002 w2003 w2004 w2005 w2006 w2007 w2008 w2009 w2010 w2011 w2012 w2013 w2014 w2015 w2016 w2017 w2018 w2019
  refine pg_pr (ci := 9) (C := RX9) (T := TX9) (N := 63) hx hb hts wi9 tyX9 tyX9_ok nmX9 hown hK hW hS k2025 (by decide) rfl 37 (by decide) (hts (.fieldLink RX9 73 "IceHallModel" "clubOf" "[I") (by decide +kernel)) (fun _ h9 => h9) rfl hnm rfl rfl rfl rfl dX9_init_154 (fun H locs hW hS => ?_)
  have hX : Kx [h] S (stR S2022 h 37 (some q2021)) := hX.Rh List.mem_cons_self
  obtain ⟨S2126, eS2126⟩ : ∃ T : St, T = stR S2022 h 37 (some q2021) := ⟨_, rfl⟩
  rw [← eS2126] at hW hX
  have k2127 : sK S2126 h = 9 := by rw [eS2126]; exact k2025
  have k2128 : sK S2126 q1 = 10 := by rw [eS2126]; exact k2027
  have k2129 : sK S2126 q64 = 11 := by rw [eS2126]; exact k2029
  have k2130 : sK S2126 q134 = 11 := by rw [eS2126]; exact k2031
  have k2131 : sK S2126 q211 = 11 := by rw [eS2126]; exact k2033
  have k2132 : sK S2126 q295 = 11 := by rw [eS2126]; exact k2035
  have k2133 : sK S2126 q386 = 11 := by rw [eS2126]; exact k2037
  have k2134 : sK S2126 q484 = 11 := by rw [eS2126]; exact k2039
  have k2135 : sK S2126 q689 = 11 := by rw [eS2126]; exact k2041
  have k2136 : sK S2126 q801 = 11 := by rw [eS2126]; exact k2043
  have k2137 : sK S2126 q922 = 11 := by rw [eS2126]; exact k2045
  have k2138 : sK S2126 q1052 = 11 := by rw [eS2126]; exact k2047
  have k2139 : sK S2126 q1191 = 11 := by rw [eS2126]; exact k2049
  have k2140 : sK S2126 q1339 = 11 := by rw [eS2126]; exact k2051
  have k2141 : sK S2126 q1496 = 11 := by rw [eS2126]; exact k2053
  have k2142 : sK S2126 q1662 = 11 := by rw [eS2126]; exact k2055
  have k2143 : sK S2126 q1837 = 13 := by rw [eS2126]; exact k2057
  have k2144 : sK S2126 q2021 = 11 := by rw [eS2126]; exact k2124
  have r2145 : sR S2126 h 0 = some q1 := by rw [eS2126, rR, if_pos rfl, if_neg (by decide)]; exact r2059
  have r2146 : sR S2126 h 5 = some q64 := by rw [eS2126, rR, if_pos rfl, if_neg (by decide)]; exact r2060
  have r2147 : sR S2126 h 6 = some q134 := by rw [eS2126, rR, if_pos rfl, if_neg (by decide)]; exact r2061
  have r2148 : sR S2126 h 7 = some q211 := by rw [eS2126, rR, if_pos rfl, if_neg (by decide)]; exact r2062
  have r2149 : sR S2126 h 8 = some q295 := by rw [eS2126, rR, if_pos rfl, if_neg (by decide)]; exact r2063
  have r2150 : sR S2126 h 9 = some q386 := by rw [eS2126, rR, if_pos rfl, if_neg (by decide)]; exact r2064
  have r2151 : sR S2126 h 10 = some q484 := by rw [eS2126, rR, if_pos rfl, if_neg (by decide)]; exact r2065
  have r2152 : sR S2126 h 26 = some q689 := by rw [eS2126, rR, if_pos rfl, if_neg (by decide)]; exact r2066
  have r2153 : sR S2126 h 27 = some q801 := by rw [eS2126, rR, if_pos rfl, if_neg (by decide)]; exact r2067
  have r2154 : sR S2126 h 28 = some q922 := by rw [eS2126, rR, if_pos rfl, if_neg (by decide)]; exact r2068
  have r2155 : sR S2126 h 29 = some q1052 := by rw [eS2126, rR, if_pos rfl, if_neg (by decide)]; exact r2069
  have r2156 : sR S2126 h 30 = some q1191 := by rw [eS2126, rR, if_pos rfl, if_neg (by decide)]; exact r2070
  have r2157 : sR S2126 h 31 = some q1339 := by rw [eS2126, rR, if_pos rfl, if_neg (by decide)]; exact r2071
  have r2158 : sR S2126 h 32 = some q1496 := by rw [eS2126, rR, if_pos rfl, if_neg (by decide)]; exact r2072
  have r2159 : sR S2126 h 33 = some q1662 := by rw [eS2126, rR, if_pos rfl, if_neg (by decide)]; exact r2073
  have r2160 : sR S2126 h 34 = some q1837 := by rw [eS2126, rR, if_pos rfl, if_neg (by decide)]; exact r2074
  have n2161 : sL S2126 q1 = 80 := by rw [eS2126]; exact n2075
  have n2162 : sL S2126 q64 = 6 := by rw [eS2126]; exact n2076
  have n2163 : sL S2126 q134 = 6 := by rw [eS2126]; exact n2077
  have n2164 : sL S2126 q211 = 6 := by rw [eS2126]; exact n2078
  have n2165 : sL S2126 q295 = 6 := by rw [eS2126]; exact n2079
  have n2166 : sL S2126 q386 = 6 := by rw [eS2126]; exact n2080
  have n2167 : sL S2126 q484 = 6 := by rw [eS2126]; exact n2081
  have n2168 : sL S2126 q689 = 24 := by rw [eS2126]; exact n2082
  have n2169 : sL S2126 q801 = 2 := by rw [eS2126]; exact n2083
  have n2170 : sL S2126 q922 = 2 := by rw [eS2126]; exact n2084
  have n2171 : sL S2126 q1052 = 2 := by rw [eS2126]; exact n2085
  have n2172 : sL S2126 q1191 = 2 := by rw [eS2126]; exact n2086
  have n2173 : sL S2126 q1339 = 2 := by rw [eS2126]; exact n2087
  have n2174 : sL S2126 q1496 = 2 := by rw [eS2126]; exact n2088
  have n2175 : sL S2126 q1662 = 2 := by rw [eS2126]; exact n2089
  have n2176 : sL S2126 q1837 = 2 := by rw [eS2126]; exact n2090
  have n2177 : sL S2126 q2021 = 200 := by rw [eS2126]; exact n2125
  have w2178 : sI S2126 h 1 = 0 := by rw [eS2126]; exact w2091
  have w2179 : sI S2126 h 2 = 0 := by rw [eS2126]; exact w2092
  have w2180 : sI S2126 h 3 = 0 := by rw [eS2126]; exact w2093
  have w2181 : sI S2126 h 4 = 0 := by rw [eS2126]; exact w2094
  have w2182 : sI S2126 h 11 = 0 := by rw [eS2126]; exact w2095
  have w2183 : sI S2126 h 12 = 0 := by rw [eS2126]; exact w2096
  have w2184 : sI S2126 h 13 = 0 := by rw [eS2126]; exact w2097
  have w2185 : sI S2126 h 14 = 0 := by rw [eS2126]; exact w2098
  have w2186 : sI S2126 h 15 = 0 := by rw [eS2126]; exact w2099
  have w2187 : sI S2126 h 16 = 0 := by rw [eS2126]; exact w2100
  have w2188 : sI S2126 h 17 = 0 := by rw [eS2126]; exact w2101
  have w2189 : sI S2126 h 18 = 0 := by rw [eS2126]; exact w2102
  have w2190 : sI S2126 h 20 = 0 := by rw [eS2126]; exact w2103
  have w2191 : sI S2126 h 21 = 0 := by rw [eS2126]; exact w2104
  have w2192 : sI S2126 h 22 = 0 := by rw [eS2126]; exact w2105
  have w2193 : sI S2126 h 35 = 0 := by rw [eS2126]; exact w2106
  have w2194 : sI S2126 h 36 = 0 := by rw [eS2126]; exact w2107
  have w2195 : sI S2126 h 53 = 0 := by rw [eS2126]; exact w2108
  have w2196 : sI S2126 h 54 = 0 := by rw [eS2126]; exact w2109
  have w2197 : sI S2126 h 55 = 0 := by rw [eS2126]; exact w2110
  have w2198 : sI S2126 h 60 = 0 := by rw [eS2126]; exact w2111
  have w2199 : sI S2126 h 19 = 200 := by rw [eS2126]; exact w2112
  have w2200 : sI S2126 h 23 = 400 := by rw [eS2126]; exact w2113
  have w2201 : sI S2126 h 24 = 3 := by rw [eS2126]; exact w2114
  have w2202 : sI S2126 h 25 = 2 := by rw [eS2126]; exact w2115
  have w2203 : ∀ j, j < 2 → sI S2126 q801 j = 0 := fun j hj => by rw [eS2126]; exact w2116 j hj 
  have w2204 : ∀ j, j < 2 → sI S2126 q922 j = 0 := fun j hj => by rw [eS2126]; exact w2117 j hj 
  have w2205 : ∀ j, j < 2 → sI S2126 q1052 j = 0 := fun j hj => by rw [eS2126]; exact w2118 j hj 
  have w2206 : ∀ j, j < 2 → sI S2126 q1191 j = 0 := fun j hj => by rw [eS2126]; exact w2119 j hj 
  have w2207 : ∀ j, j < 2 → sI S2126 q1339 j = 0 := fun j hj => by rw [eS2126]; exact w2120 j hj 
  have w2208 : ∀ j, j < 2 → sI S2126 q1496 j = 0 := fun j hj => by rw [eS2126]; exact w2121 j hj 
  have w2209 : ∀ j, j < 2 → sI S2126 q1662 j = 0 := fun j hj => by rw [eS2126]; exact w2122 j hj 
  have w2210 : ∀ j, j < 2 → sI S2126 q1837 j = 0 := fun j hj => by rw [eS2126]; exact w2123 j hj 
  have r2211 : sR S2126 h 37 = some q2021 := by rw [eS2126, rR, if_pos rfl, if_pos rfl]
  clear k2025 k2027 k2029 k2031 k2033 k2035 k2037 k2039 k2041 k2043 k2045 k2047 k2049 k2051 k2053 k2055 k2057 k2124 r2059 r2060 r2061 r2062 r2063 r2064 r2065 r2066 r2067 r2068 r2069 r2070 r2071 r2072 r2073 r2074 n2075 n2076 n2077 n2078 n2079 n2080 n2081 n2082 n2083 n2084 n2085 n2086 n2087 n2088 n2089 n2090 n2125 w2091 w2092 w2093 w2094 w2095 w2096 w2097 w2098 w2099 w2100 w2101 w2102 w2103 w2104 w2105 w2106 w2107 w2108 w2109 w2110 w2111 w2112 w2113 w2114 w2115 w2116 w2117 w2118 w2119 w2120 w2121 w2122 w2123
  refine lv_aload_n hx hb dX9_init_157 rfl (lv_at hl 0 rfl) ?_
  refine lv_sipush (v := 200) hx hb dX9_init_158 (by decide) ?_
  refine pg_newa (atype := .int) (ty := .int) (kd := 11) (t0 := 1) (N' := 200) hx hb (hts (.arrayClass .int) (by decide +kernel)) rfl rfl (Or.inl rfl) (by decide) hK hW hS hA (fun _ => rfl) (by decide) (by decide) (Nat.le_of_ble_eq_true rfl) (Nat.le_of_ble_eq_true rfl) (Nat.le_of_ble_eq_true rfl) dX9_init_161 (fun q2212 H hq2212 hW hS => ?_)
  have f2214 : Ap h q2212 := ap_k k2127 hq2212 (by decide)
  have o2215 : 16 ≤ sK S q2212 := hX.old hq2212 (ni_c (ap_s f2214) ni_0)
  have hX : Kx [h] S (stN S2126 q2212 11 200) := hX.N hq2212
  obtain ⟨S2213, eS2213⟩ : ∃ T : St, T = stN S2126 q2212 11 200 := ⟨_, rfl⟩
  rw [← eS2213] at hW hX
  obtain ⟨k2216, d2217⟩ := fk_N (a := h) eS2213 k2127 (by decide) hq2212
  obtain ⟨k2218, d2219⟩ := fk_N (a := q1) eS2213 k2128 (by decide) hq2212
  obtain ⟨k2220, d2221⟩ := fk_N (a := q64) eS2213 k2129 (by decide) hq2212
  obtain ⟨k2222, d2223⟩ := fk_N (a := q134) eS2213 k2130 (by decide) hq2212
  obtain ⟨k2224, d2225⟩ := fk_N (a := q211) eS2213 k2131 (by decide) hq2212
  obtain ⟨k2226, d2227⟩ := fk_N (a := q295) eS2213 k2132 (by decide) hq2212
  obtain ⟨k2228, d2229⟩ := fk_N (a := q386) eS2213 k2133 (by decide) hq2212
  obtain ⟨k2230, d2231⟩ := fk_N (a := q484) eS2213 k2134 (by decide) hq2212
  obtain ⟨k2232, d2233⟩ := fk_N (a := q689) eS2213 k2135 (by decide) hq2212
  obtain ⟨k2234, d2235⟩ := fk_N (a := q801) eS2213 k2136 (by decide) hq2212
  obtain ⟨k2236, d2237⟩ := fk_N (a := q922) eS2213 k2137 (by decide) hq2212
  obtain ⟨k2238, d2239⟩ := fk_N (a := q1052) eS2213 k2138 (by decide) hq2212
  obtain ⟨k2240, d2241⟩ := fk_N (a := q1191) eS2213 k2139 (by decide) hq2212
  obtain ⟨k2242, d2243⟩ := fk_N (a := q1339) eS2213 k2140 (by decide) hq2212
  obtain ⟨k2244, d2245⟩ := fk_N (a := q1496) eS2213 k2141 (by decide) hq2212
  obtain ⟨k2246, d2247⟩ := fk_N (a := q1662) eS2213 k2142 (by decide) hq2212
  obtain ⟨k2248, d2249⟩ := fk_N (a := q1837) eS2213 k2143 (by decide) hq2212
  obtain ⟨k2250, d2251⟩ := fk_N (a := q2021) eS2213 k2144 (by decide) hq2212
  have r2252 : sR S2213 h 0 = some q1 := by rw [eS2213, rN, if_neg d2217]; exact r2145
  have r2253 : sR S2213 h 5 = some q64 := by rw [eS2213, rN, if_neg d2217]; exact r2146
  have r2254 : sR S2213 h 6 = some q134 := by rw [eS2213, rN, if_neg d2217]; exact r2147
  have r2255 : sR S2213 h 7 = some q211 := by rw [eS2213, rN, if_neg d2217]; exact r2148
  have r2256 : sR S2213 h 8 = some q295 := by rw [eS2213, rN, if_neg d2217]; exact r2149
  have r2257 : sR S2213 h 9 = some q386 := by rw [eS2213, rN, if_neg d2217]; exact r2150
  have r2258 : sR S2213 h 10 = some q484 := by rw [eS2213, rN, if_neg d2217]; exact r2151
  have r2259 : sR S2213 h 26 = some q689 := by rw [eS2213, rN, if_neg d2217]; exact r2152
  have r2260 : sR S2213 h 27 = some q801 := by rw [eS2213, rN, if_neg d2217]; exact r2153
  have r2261 : sR S2213 h 28 = some q922 := by rw [eS2213, rN, if_neg d2217]; exact r2154
  have r2262 : sR S2213 h 29 = some q1052 := by rw [eS2213, rN, if_neg d2217]; exact r2155
  have r2263 : sR S2213 h 30 = some q1191 := by rw [eS2213, rN, if_neg d2217]; exact r2156
  have r2264 : sR S2213 h 31 = some q1339 := by rw [eS2213, rN, if_neg d2217]; exact r2157
  have r2265 : sR S2213 h 32 = some q1496 := by rw [eS2213, rN, if_neg d2217]; exact r2158
  have r2266 : sR S2213 h 33 = some q1662 := by rw [eS2213, rN, if_neg d2217]; exact r2159
  have r2267 : sR S2213 h 34 = some q1837 := by rw [eS2213, rN, if_neg d2217]; exact r2160
  have r2268 : sR S2213 h 37 = some q2021 := by rw [eS2213, rN, if_neg d2217]; exact r2211
  have n2269 : sL S2213 q1 = 80 := by rw [eS2213, lNw, if_neg d2219]; exact n2161
  have n2270 : sL S2213 q64 = 6 := by rw [eS2213, lNw, if_neg d2221]; exact n2162
  have n2271 : sL S2213 q134 = 6 := by rw [eS2213, lNw, if_neg d2223]; exact n2163
  have n2272 : sL S2213 q211 = 6 := by rw [eS2213, lNw, if_neg d2225]; exact n2164
  have n2273 : sL S2213 q295 = 6 := by rw [eS2213, lNw, if_neg d2227]; exact n2165
  have n2274 : sL S2213 q386 = 6 := by rw [eS2213, lNw, if_neg d2229]; exact n2166
  have n2275 : sL S2213 q484 = 6 := by rw [eS2213, lNw, if_neg d2231]; exact n2167
  have n2276 : sL S2213 q689 = 24 := by rw [eS2213, lNw, if_neg d2233]; exact n2168
  have n2277 : sL S2213 q801 = 2 := by rw [eS2213, lNw, if_neg d2235]; exact n2169
  have n2278 : sL S2213 q922 = 2 := by rw [eS2213, lNw, if_neg d2237]; exact n2170
  have n2279 : sL S2213 q1052 = 2 := by rw [eS2213, lNw, if_neg d2239]; exact n2171
  have n2280 : sL S2213 q1191 = 2 := by rw [eS2213, lNw, if_neg d2241]; exact n2172
  have n2281 : sL S2213 q1339 = 2 := by rw [eS2213, lNw, if_neg d2243]; exact n2173
  have n2282 : sL S2213 q1496 = 2 := by rw [eS2213, lNw, if_neg d2245]; exact n2174
  have n2283 : sL S2213 q1662 = 2 := by rw [eS2213, lNw, if_neg d2247]; exact n2175
  have n2284 : sL S2213 q1837 = 2 := by rw [eS2213, lNw, if_neg d2249]; exact n2176
  have n2285 : sL S2213 q2021 = 200 := by rw [eS2213, lNw, if_neg d2251]; exact n2177
  have w2286 : sI S2213 h 1 = 0 := by rw [eS2213, iN, if_neg d2217]; exact w2178
  have w2287 : sI S2213 h 2 = 0 := by rw [eS2213, iN, if_neg d2217]; exact w2179
  have w2288 : sI S2213 h 3 = 0 := by rw [eS2213, iN, if_neg d2217]; exact w2180
  have w2289 : sI S2213 h 4 = 0 := by rw [eS2213, iN, if_neg d2217]; exact w2181
  have w2290 : sI S2213 h 11 = 0 := by rw [eS2213, iN, if_neg d2217]; exact w2182
  have w2291 : sI S2213 h 12 = 0 := by rw [eS2213, iN, if_neg d2217]; exact w2183
  have w2292 : sI S2213 h 13 = 0 := by rw [eS2213, iN, if_neg d2217]; exact w2184
  have w2293 : sI S2213 h 14 = 0 := by rw [eS2213, iN, if_neg d2217]; exact w2185
  have w2294 : sI S2213 h 15 = 0 := by rw [eS2213, iN, if_neg d2217]; exact w2186
  have w2295 : sI S2213 h 16 = 0 := by rw [eS2213, iN, if_neg d2217]; exact w2187
  have w2296 : sI S2213 h 17 = 0 := by rw [eS2213, iN, if_neg d2217]; exact w2188
  have w2297 : sI S2213 h 18 = 0 := by rw [eS2213, iN, if_neg d2217]; exact w2189
  have w2298 : sI S2213 h 20 = 0 := by rw [eS2213, iN, if_neg d2217]; exact w2190
  have w2299 : sI S2213 h 21 = 0 := by rw [eS2213, iN, if_neg d2217]; exact w2191
  have w2300 : sI S2213 h 22 = 0 := by rw [eS2213, iN, if_neg d2217]; exact w2192
  have w2301 : sI S2213 h 35 = 0 := by rw [eS2213, iN, if_neg d2217]; exact w2193
  have w2302 : sI S2213 h 36 = 0 := by rw [eS2213, iN, if_neg d2217]; exact w2194
  have w2303 : sI S2213 h 53 = 0 := by rw [eS2213, iN, if_neg d2217]; exact w2195
  have w2304 : sI S2213 h 54 = 0 := by rw [eS2213, iN, if_neg d2217]; exact w2196
  have w2305 : sI S2213 h 55 = 0 := by rw [eS2213, iN, if_neg d2217]; exact w2197
  have w2306 : sI S2213 h 60 = 0 := by rw [eS2213, iN, if_neg d2217]; exact w2198
  have w2307 : sI S2213 h 19 = 200 := by rw [eS2213, iN, if_neg d2217]; exact w2199
  have w2308 : sI S2213 h 23 = 400 := by rw [eS2213, iN, if_neg d2217]; exact w2200
  have w2309 : sI S2213 h 24 = 3 := by rw [eS2213, iN, if_neg d2217]; exact w2201
  have w2310 : sI S2213 h 25 = 2 := by rw [eS2213, iN, if_neg d2217]; exact w2202
  have w2311 : ∀ j, j < 2 → sI S2213 q801 j = 0 := fun j hj => by rw [eS2213, iN, if_neg d2235]; exact w2203 j hj 
  have w2312 : ∀ j, j < 2 → sI S2213 q922 j = 0 := fun j hj => by rw [eS2213, iN, if_neg d2237]; exact w2204 j hj 
  have w2313 : ∀ j, j < 2 → sI S2213 q1052 j = 0 := fun j hj => by rw [eS2213, iN, if_neg d2239]; exact w2205 j hj 
  have w2314 : ∀ j, j < 2 → sI S2213 q1191 j = 0 := fun j hj => by rw [eS2213, iN, if_neg d2241]; exact w2206 j hj 
  have w2315 : ∀ j, j < 2 → sI S2213 q1339 j = 0 := fun j hj => by rw [eS2213, iN, if_neg d2243]; exact w2207 j hj 
  have w2316 : ∀ j, j < 2 → sI S2213 q1496 j = 0 := fun j hj => by rw [eS2213, iN, if_neg d2245]; exact w2208 j hj 
  have w2317 : ∀ j, j < 2 → sI S2213 q1662 j = 0 := fun j hj => by rw [eS2213, iN, if_neg d2247]; exact w2209 j hj 
  have w2318 : ∀ j, j < 2 → sI S2213 q1837 j = 0 := fun j hj => by rw [eS2213, iN, if_neg d2249]; exact w2210 j hj 
  have k2319 : sK S2213 q2212 = 11 := by rw [eS2213, kN, if_pos rfl]
  have n2320 : sL S2213 q2212 = 200 := by rw [eS2213, lNw, if_pos rfl]
  clear k2127 k2128 k2129 k2130 k2131 k2132 k2133 k2134 k2135 k2136 k2137 k2138 k2139 k2140 k2141 k2142 k2143 k2144 r2145 r2146 r2147 r2148 r2149 r2150 r2151 r2152 r2153 r2154 r2155 r2156 r2157 r2158 r2159 r2160 r2211 n2161 n2162 n2163 n2164 n2165 n2166 n2167 n2168 n2169 n2170 n2171 n2172 n2173 n2174 n2175 n2176 n2177 w2178 w2179 w2180 w2181 w2182 w2183 w2184 w2185 w2186 w2187 w2188 w2189 w2190 w2191 w2192 w2193 w2194 w2195 w2196 w2197 w2198 w2199 w2200 w2201 w2202 w2203 w2204 w2205 w2206 w2207 w2208 w2209 w2210
  refine pg_pr (ci := 9) (C := RX9) (T := TX9) (N := 63) hx hb hts wi9 tyX9 tyX9_ok nmX9 hown hK hW hS k2216 (by decide) rfl 38 (by decide) (hts (.fieldLink RX9 76 "IceHallModel" "kindOf" "[I") (by decide +kernel)) (fun _ h9 => h9) rfl hnm rfl rfl rfl rfl dX9_init_163 (fun H locs hW hS => ?_)
  have hX : Kx [h] S (stR S2213 h 38 (some q2212)) := hX.Rh List.mem_cons_self
  obtain ⟨S2321, eS2321⟩ : ∃ T : St, T = stR S2213 h 38 (some q2212) := ⟨_, rfl⟩
  rw [← eS2321] at hW hX
  have k2322 : sK S2321 h = 9 := by rw [eS2321]; exact k2216
  have k2323 : sK S2321 q1 = 10 := by rw [eS2321]; exact k2218
  have k2324 : sK S2321 q64 = 11 := by rw [eS2321]; exact k2220
  have k2325 : sK S2321 q134 = 11 := by rw [eS2321]; exact k2222
  have k2326 : sK S2321 q211 = 11 := by rw [eS2321]; exact k2224
  have k2327 : sK S2321 q295 = 11 := by rw [eS2321]; exact k2226
  have k2328 : sK S2321 q386 = 11 := by rw [eS2321]; exact k2228
  have k2329 : sK S2321 q484 = 11 := by rw [eS2321]; exact k2230
  have k2330 : sK S2321 q689 = 11 := by rw [eS2321]; exact k2232
  have k2331 : sK S2321 q801 = 11 := by rw [eS2321]; exact k2234
  have k2332 : sK S2321 q922 = 11 := by rw [eS2321]; exact k2236
  have k2333 : sK S2321 q1052 = 11 := by rw [eS2321]; exact k2238
  have k2334 : sK S2321 q1191 = 11 := by rw [eS2321]; exact k2240
  have k2335 : sK S2321 q1339 = 11 := by rw [eS2321]; exact k2242
  have k2336 : sK S2321 q1496 = 11 := by rw [eS2321]; exact k2244
  have k2337 : sK S2321 q1662 = 11 := by rw [eS2321]; exact k2246
  have k2338 : sK S2321 q1837 = 13 := by rw [eS2321]; exact k2248
  have k2339 : sK S2321 q2021 = 11 := by rw [eS2321]; exact k2250
  have k2340 : sK S2321 q2212 = 11 := by rw [eS2321]; exact k2319
  have r2341 : sR S2321 h 0 = some q1 := by rw [eS2321, rR, if_pos rfl, if_neg (by decide)]; exact r2252
  have r2342 : sR S2321 h 5 = some q64 := by rw [eS2321, rR, if_pos rfl, if_neg (by decide)]; exact r2253
  have r2343 : sR S2321 h 6 = some q134 := by rw [eS2321, rR, if_pos rfl, if_neg (by decide)]; exact r2254
  have r2344 : sR S2321 h 7 = some q211 := by rw [eS2321, rR, if_pos rfl, if_neg (by decide)]; exact r2255
  have r2345 : sR S2321 h 8 = some q295 := by rw [eS2321, rR, if_pos rfl, if_neg (by decide)]; exact r2256
  have r2346 : sR S2321 h 9 = some q386 := by rw [eS2321, rR, if_pos rfl, if_neg (by decide)]; exact r2257
  have r2347 : sR S2321 h 10 = some q484 := by rw [eS2321, rR, if_pos rfl, if_neg (by decide)]; exact r2258
  have r2348 : sR S2321 h 26 = some q689 := by rw [eS2321, rR, if_pos rfl, if_neg (by decide)]; exact r2259
  have r2349 : sR S2321 h 27 = some q801 := by rw [eS2321, rR, if_pos rfl, if_neg (by decide)]; exact r2260
  have r2350 : sR S2321 h 28 = some q922 := by rw [eS2321, rR, if_pos rfl, if_neg (by decide)]; exact r2261
  have r2351 : sR S2321 h 29 = some q1052 := by rw [eS2321, rR, if_pos rfl, if_neg (by decide)]; exact r2262
  have r2352 : sR S2321 h 30 = some q1191 := by rw [eS2321, rR, if_pos rfl, if_neg (by decide)]; exact r2263
  have r2353 : sR S2321 h 31 = some q1339 := by rw [eS2321, rR, if_pos rfl, if_neg (by decide)]; exact r2264
  have r2354 : sR S2321 h 32 = some q1496 := by rw [eS2321, rR, if_pos rfl, if_neg (by decide)]; exact r2265
  have r2355 : sR S2321 h 33 = some q1662 := by rw [eS2321, rR, if_pos rfl, if_neg (by decide)]; exact r2266
  have r2356 : sR S2321 h 34 = some q1837 := by rw [eS2321, rR, if_pos rfl, if_neg (by decide)]; exact r2267
  have r2357 : sR S2321 h 37 = some q2021 := by rw [eS2321, rR, if_pos rfl, if_neg (by decide)]; exact r2268
  have n2358 : sL S2321 q1 = 80 := by rw [eS2321]; exact n2269
  have n2359 : sL S2321 q64 = 6 := by rw [eS2321]; exact n2270
  have n2360 : sL S2321 q134 = 6 := by rw [eS2321]; exact n2271
  have n2361 : sL S2321 q211 = 6 := by rw [eS2321]; exact n2272
  have n2362 : sL S2321 q295 = 6 := by rw [eS2321]; exact n2273
  have n2363 : sL S2321 q386 = 6 := by rw [eS2321]; exact n2274
  have n2364 : sL S2321 q484 = 6 := by rw [eS2321]; exact n2275
  have n2365 : sL S2321 q689 = 24 := by rw [eS2321]; exact n2276
  have n2366 : sL S2321 q801 = 2 := by rw [eS2321]; exact n2277
  have n2367 : sL S2321 q922 = 2 := by rw [eS2321]; exact n2278
  have n2368 : sL S2321 q1052 = 2 := by rw [eS2321]; exact n2279
  have n2369 : sL S2321 q1191 = 2 := by rw [eS2321]; exact n2280
  have n2370 : sL S2321 q1339 = 2 := by rw [eS2321]; exact n2281
  have n2371 : sL S2321 q1496 = 2 := by rw [eS2321]; exact n2282
  have n2372 : sL S2321 q1662 = 2 := by rw [eS2321]; exact n2283
  have n2373 : sL S2321 q1837 = 2 := by rw [eS2321]; exact n2284
  have n2374 : sL S2321 q2021 = 200 := by rw [eS2321]; exact n2285
  have n2375 : sL S2321 q2212 = 200 := by rw [eS2321]; exact n2320
  have w2376 : sI S2321 h 1 = 0 := by rw [eS2321]; exact w2286
  have w2377 : sI S2321 h 2 = 0 := by rw [eS2321]; exact w2287
  have w2378 : sI S2321 h 3 = 0 := by rw [eS2321]; exact w2288
  have w2379 : sI S2321 h 4 = 0 := by rw [eS2321]; exact w2289
  have w2380 : sI S2321 h 11 = 0 := by rw [eS2321]; exact w2290
  have w2381 : sI S2321 h 12 = 0 := by rw [eS2321]; exact w2291
  have w2382 : sI S2321 h 13 = 0 := by rw [eS2321]; exact w2292
  have w2383 : sI S2321 h 14 = 0 := by rw [eS2321]; exact w2293
  have w2384 : sI S2321 h 15 = 0 := by rw [eS2321]; exact w2294
  have w2385 : sI S2321 h 16 = 0 := by rw [eS2321]; exact w2295
  have w2386 : sI S2321 h 17 = 0 := by rw [eS2321]; exact w2296
  have w2387 : sI S2321 h 18 = 0 := by rw [eS2321]; exact w2297
  have w2388 : sI S2321 h 20 = 0 := by rw [eS2321]; exact w2298
  have w2389 : sI S2321 h 21 = 0 := by rw [eS2321]; exact w2299
  have w2390 : sI S2321 h 22 = 0 := by rw [eS2321]; exact w2300
  have w2391 : sI S2321 h 35 = 0 := by rw [eS2321]; exact w2301
  have w2392 : sI S2321 h 36 = 0 := by rw [eS2321]; exact w2302
  have w2393 : sI S2321 h 53 = 0 := by rw [eS2321]; exact w2303
  have w2394 : sI S2321 h 54 = 0 := by rw [eS2321]; exact w2304
  have w2395 : sI S2321 h 55 = 0 := by rw [eS2321]; exact w2305
  have w2396 : sI S2321 h 60 = 0 := by rw [eS2321]; exact w2306
  have w2397 : sI S2321 h 19 = 200 := by rw [eS2321]; exact w2307
  have w2398 : sI S2321 h 23 = 400 := by rw [eS2321]; exact w2308
  have w2399 : sI S2321 h 24 = 3 := by rw [eS2321]; exact w2309
  have w2400 : sI S2321 h 25 = 2 := by rw [eS2321]; exact w2310
  have w2401 : ∀ j, j < 2 → sI S2321 q801 j = 0 := fun j hj => by rw [eS2321]; exact w2311 j hj 
  have w2402 : ∀ j, j < 2 → sI S2321 q922 j = 0 := fun j hj => by rw [eS2321]; exact w2312 j hj 
  have w2403 : ∀ j, j < 2 → sI S2321 q1052 j = 0 := fun j hj => by rw [eS2321]; exact w2313 j hj 
  have w2404 : ∀ j, j < 2 → sI S2321 q1191 j = 0 := fun j hj => by rw [eS2321]; exact w2314 j hj 
  have w2405 : ∀ j, j < 2 → sI S2321 q1339 j = 0 := fun j hj => by rw [eS2321]; exact w2315 j hj 
  have w2406 : ∀ j, j < 2 → sI S2321 q1496 j = 0 := fun j hj => by rw [eS2321]; exact w2316 j hj 
  have w2407 : ∀ j, j < 2 → sI S2321 q1662 j = 0 := fun j hj => by rw [eS2321]; exact w2317 j hj 
  have w2408 : ∀ j, j < 2 → sI S2321 q1837 j = 0 := fun j hj => by rw [eS2321]; exact w2318 j hj 
  have r2409 : sR S2321 h 38 = some q2212 := by rw [eS2321, rR, if_pos rfl, if_pos rfl]
  clear k2216 k2218 k2220 k2222 k2224 k2226 k2228 k2230 k2232 k2234 k2236 k2238 k2240 k2242 k2244 k2246 k2248 k2250 k2319 r2252 r2253 r2254 r2255 r2256 r2257 r2258 r2259 r2260 r2261 r2262 r2263 r2264 r2265 r2266 r2267 r2268 n2269 n2270 n2271 n2272 n2273 n2274 n2275 n2276 n2277 n2278 n2279 n2280 n2281 n2282 n2283 n2284 n2285 n2320 w2286 w2287 w2288 w2289 w2290 w2291 w2292 w2293 w2294 w2295 w2296 w2297 w2298 w2299 w2300 w2301 w2302 w2303 w2304 w2305 w2306 w2307 w2308 w2309 w2310 w2311 w2312 w2313 w2314 w2315 w2316 w2317 w2318
  refine lv_aload_n hx hb dX9_init_166 rfl (lv_at hl 0 rfl) ?_
  refine lv_sipush (v := 200) hx hb dX9_init_167 (by decide) ?_
  refine pg_newa (atype := .int) (ty := .int) (kd := 11) (t0 := 1) (N' := 200) hx hb (hts (.arrayClass .int) (by decide +kernel)) rfl rfl (Or.inl rfl) (by decide) hK hW hS hA (fun _ => rfl) (by decide) (by decide) (Nat.le_of_ble_eq_true rfl) (Nat.le_of_ble_eq_true rfl) (Nat.le_of_ble_eq_true rfl) dX9_init_170 (fun q2410 H hq2410 hW hS => ?_)
  have f2412 : Ap h q2410 := ap_k k2322 hq2410 (by decide)
  have o2413 : 16 ≤ sK S q2410 := hX.old hq2410 (ni_c (ap_s f2412) ni_0)
  have hX : Kx [h] S (stN S2321 q2410 11 200) := hX.N hq2410
  obtain ⟨S2411, eS2411⟩ : ∃ T : St, T = stN S2321 q2410 11 200 := ⟨_, rfl⟩
  rw [← eS2411] at hW hX
  obtain ⟨k2414, d2415⟩ := fk_N (a := h) eS2411 k2322 (by decide) hq2410
  obtain ⟨k2416, d2417⟩ := fk_N (a := q1) eS2411 k2323 (by decide) hq2410
  obtain ⟨k2418, d2419⟩ := fk_N (a := q64) eS2411 k2324 (by decide) hq2410
  obtain ⟨k2420, d2421⟩ := fk_N (a := q134) eS2411 k2325 (by decide) hq2410
  obtain ⟨k2422, d2423⟩ := fk_N (a := q211) eS2411 k2326 (by decide) hq2410
  obtain ⟨k2424, d2425⟩ := fk_N (a := q295) eS2411 k2327 (by decide) hq2410
  obtain ⟨k2426, d2427⟩ := fk_N (a := q386) eS2411 k2328 (by decide) hq2410
  obtain ⟨k2428, d2429⟩ := fk_N (a := q484) eS2411 k2329 (by decide) hq2410
  obtain ⟨k2430, d2431⟩ := fk_N (a := q689) eS2411 k2330 (by decide) hq2410
  obtain ⟨k2432, d2433⟩ := fk_N (a := q801) eS2411 k2331 (by decide) hq2410
  obtain ⟨k2434, d2435⟩ := fk_N (a := q922) eS2411 k2332 (by decide) hq2410
  obtain ⟨k2436, d2437⟩ := fk_N (a := q1052) eS2411 k2333 (by decide) hq2410
  obtain ⟨k2438, d2439⟩ := fk_N (a := q1191) eS2411 k2334 (by decide) hq2410
  obtain ⟨k2440, d2441⟩ := fk_N (a := q1339) eS2411 k2335 (by decide) hq2410
  obtain ⟨k2442, d2443⟩ := fk_N (a := q1496) eS2411 k2336 (by decide) hq2410
  obtain ⟨k2444, d2445⟩ := fk_N (a := q1662) eS2411 k2337 (by decide) hq2410
  obtain ⟨k2446, d2447⟩ := fk_N (a := q1837) eS2411 k2338 (by decide) hq2410
  obtain ⟨k2448, d2449⟩ := fk_N (a := q2021) eS2411 k2339 (by decide) hq2410
  obtain ⟨k2450, d2451⟩ := fk_N (a := q2212) eS2411 k2340 (by decide) hq2410
  have r2452 : sR S2411 h 0 = some q1 := by rw [eS2411, rN, if_neg d2415]; exact r2341
  have r2453 : sR S2411 h 5 = some q64 := by rw [eS2411, rN, if_neg d2415]; exact r2342
  have r2454 : sR S2411 h 6 = some q134 := by rw [eS2411, rN, if_neg d2415]; exact r2343
  have r2455 : sR S2411 h 7 = some q211 := by rw [eS2411, rN, if_neg d2415]; exact r2344
  have r2456 : sR S2411 h 8 = some q295 := by rw [eS2411, rN, if_neg d2415]; exact r2345
  have r2457 : sR S2411 h 9 = some q386 := by rw [eS2411, rN, if_neg d2415]; exact r2346
  have r2458 : sR S2411 h 10 = some q484 := by rw [eS2411, rN, if_neg d2415]; exact r2347
  have r2459 : sR S2411 h 26 = some q689 := by rw [eS2411, rN, if_neg d2415]; exact r2348
  have r2460 : sR S2411 h 27 = some q801 := by rw [eS2411, rN, if_neg d2415]; exact r2349
  have r2461 : sR S2411 h 28 = some q922 := by rw [eS2411, rN, if_neg d2415]; exact r2350
  have r2462 : sR S2411 h 29 = some q1052 := by rw [eS2411, rN, if_neg d2415]; exact r2351
  have r2463 : sR S2411 h 30 = some q1191 := by rw [eS2411, rN, if_neg d2415]; exact r2352
  have r2464 : sR S2411 h 31 = some q1339 := by rw [eS2411, rN, if_neg d2415]; exact r2353
  have r2465 : sR S2411 h 32 = some q1496 := by rw [eS2411, rN, if_neg d2415]; exact r2354
  have r2466 : sR S2411 h 33 = some q1662 := by rw [eS2411, rN, if_neg d2415]; exact r2355
  have r2467 : sR S2411 h 34 = some q1837 := by rw [eS2411, rN, if_neg d2415]; exact r2356
  have r2468 : sR S2411 h 37 = some q2021 := by rw [eS2411, rN, if_neg d2415]; exact r2357
  have r2469 : sR S2411 h 38 = some q2212 := by rw [eS2411, rN, if_neg d2415]; exact r2409
  have n2470 : sL S2411 q1 = 80 := by rw [eS2411, lNw, if_neg d2417]; exact n2358
  have n2471 : sL S2411 q64 = 6 := by rw [eS2411, lNw, if_neg d2419]; exact n2359
  have n2472 : sL S2411 q134 = 6 := by rw [eS2411, lNw, if_neg d2421]; exact n2360
  have n2473 : sL S2411 q211 = 6 := by rw [eS2411, lNw, if_neg d2423]; exact n2361
  have n2474 : sL S2411 q295 = 6 := by rw [eS2411, lNw, if_neg d2425]; exact n2362
  have n2475 : sL S2411 q386 = 6 := by rw [eS2411, lNw, if_neg d2427]; exact n2363
  have n2476 : sL S2411 q484 = 6 := by rw [eS2411, lNw, if_neg d2429]; exact n2364
  have n2477 : sL S2411 q689 = 24 := by rw [eS2411, lNw, if_neg d2431]; exact n2365
  have n2478 : sL S2411 q801 = 2 := by rw [eS2411, lNw, if_neg d2433]; exact n2366
  have n2479 : sL S2411 q922 = 2 := by rw [eS2411, lNw, if_neg d2435]; exact n2367
  have n2480 : sL S2411 q1052 = 2 := by rw [eS2411, lNw, if_neg d2437]; exact n2368
  have n2481 : sL S2411 q1191 = 2 := by rw [eS2411, lNw, if_neg d2439]; exact n2369
  have n2482 : sL S2411 q1339 = 2 := by rw [eS2411, lNw, if_neg d2441]; exact n2370
  have n2483 : sL S2411 q1496 = 2 := by rw [eS2411, lNw, if_neg d2443]; exact n2371
  have n2484 : sL S2411 q1662 = 2 := by rw [eS2411, lNw, if_neg d2445]; exact n2372
  have n2485 : sL S2411 q1837 = 2 := by rw [eS2411, lNw, if_neg d2447]; exact n2373
  have n2486 : sL S2411 q2021 = 200 := by rw [eS2411, lNw, if_neg d2449]; exact n2374
  have n2487 : sL S2411 q2212 = 200 := by rw [eS2411, lNw, if_neg d2451]; exact n2375
  have w2488 : sI S2411 h 1 = 0 := by rw [eS2411, iN, if_neg d2415]; exact w2376
  have w2489 : sI S2411 h 2 = 0 := by rw [eS2411, iN, if_neg d2415]; exact w2377
  have w2490 : sI S2411 h 3 = 0 := by rw [eS2411, iN, if_neg d2415]; exact w2378
  have w2491 : sI S2411 h 4 = 0 := by rw [eS2411, iN, if_neg d2415]; exact w2379
  have w2492 : sI S2411 h 11 = 0 := by rw [eS2411, iN, if_neg d2415]; exact w2380
  have w2493 : sI S2411 h 12 = 0 := by rw [eS2411, iN, if_neg d2415]; exact w2381
  have w2494 : sI S2411 h 13 = 0 := by rw [eS2411, iN, if_neg d2415]; exact w2382
  have w2495 : sI S2411 h 14 = 0 := by rw [eS2411, iN, if_neg d2415]; exact w2383
  have w2496 : sI S2411 h 15 = 0 := by rw [eS2411, iN, if_neg d2415]; exact w2384
  have w2497 : sI S2411 h 16 = 0 := by rw [eS2411, iN, if_neg d2415]; exact w2385
  have w2498 : sI S2411 h 17 = 0 := by rw [eS2411, iN, if_neg d2415]; exact w2386
  have w2499 : sI S2411 h 18 = 0 := by rw [eS2411, iN, if_neg d2415]; exact w2387
  have w2500 : sI S2411 h 20 = 0 := by rw [eS2411, iN, if_neg d2415]; exact w2388
  have w2501 : sI S2411 h 21 = 0 := by rw [eS2411, iN, if_neg d2415]; exact w2389
  have w2502 : sI S2411 h 22 = 0 := by rw [eS2411, iN, if_neg d2415]; exact w2390
  have w2503 : sI S2411 h 35 = 0 := by rw [eS2411, iN, if_neg d2415]; exact w2391
  have w2504 : sI S2411 h 36 = 0 := by rw [eS2411, iN, if_neg d2415]; exact w2392
  have w2505 : sI S2411 h 53 = 0 := by rw [eS2411, iN, if_neg d2415]; exact w2393
  have w2506 : sI S2411 h 54 = 0 := by rw [eS2411, iN, if_neg d2415]; exact w2394
  have w2507 : sI S2411 h 55 = 0 := by rw [eS2411, iN, if_neg d2415]; exact w2395
  have w2508 : sI S2411 h 60 = 0 := by rw [eS2411, iN, if_neg d2415]; exact w2396
  have w2509 : sI S2411 h 19 = 200 := by rw [eS2411, iN, if_neg d2415]; exact w2397
  have w2510 : sI S2411 h 23 = 400 := by rw [eS2411, iN, if_neg d2415]; exact w2398
  have w2511 : sI S2411 h 24 = 3 := by rw [eS2411, iN, if_neg d2415]; exact w2399
  have w2512 : sI S2411 h 25 = 2 := by rw [eS2411, iN, if_neg d2415]; exact w2400
  have w2513 : ∀ j, j < 2 → sI S2411 q801 j = 0 := fun j hj => by rw [eS2411, iN, if_neg d2433]; exact w2401 j hj 
  have w2514 : ∀ j, j < 2 → sI S2411 q922 j = 0 := fun j hj => by rw [eS2411, iN, if_neg d2435]; exact w2402 j hj 
  have w2515 : ∀ j, j < 2 → sI S2411 q1052 j = 0 := fun j hj => by rw [eS2411, iN, if_neg d2437]; exact w2403 j hj 
  have w2516 : ∀ j, j < 2 → sI S2411 q1191 j = 0 := fun j hj => by rw [eS2411, iN, if_neg d2439]; exact w2404 j hj 
  have w2517 : ∀ j, j < 2 → sI S2411 q1339 j = 0 := fun j hj => by rw [eS2411, iN, if_neg d2441]; exact w2405 j hj 
  have w2518 : ∀ j, j < 2 → sI S2411 q1496 j = 0 := fun j hj => by rw [eS2411, iN, if_neg d2443]; exact w2406 j hj 
  have w2519 : ∀ j, j < 2 → sI S2411 q1662 j = 0 := fun j hj => by rw [eS2411, iN, if_neg d2445]; exact w2407 j hj 
  have w2520 : ∀ j, j < 2 → sI S2411 q1837 j = 0 := fun j hj => by rw [eS2411, iN, if_neg d2447]; exact w2408 j hj 
  have k2521 : sK S2411 q2410 = 11 := by rw [eS2411, kN, if_pos rfl]
  have n2522 : sL S2411 q2410 = 200 := by rw [eS2411, lNw, if_pos rfl]
  clear k2322 k2323 k2324 k2325 k2326 k2327 k2328 k2329 k2330 k2331 k2332 k2333 k2334 k2335 k2336 k2337 k2338 k2339 k2340 r2341 r2342 r2343 r2344 r2345 r2346 r2347 r2348 r2349 r2350 r2351 r2352 r2353 r2354 r2355 r2356 r2357 r2409 n2358 n2359 n2360 n2361 n2362 n2363 n2364 n2365 n2366 n2367 n2368 n2369 n2370 n2371 n2372 n2373 n2374 n2375 w2376 w2377 w2378 w2379 w2380 w2381 w2382 w2383 w2384 w2385 w2386 w2387 w2388 w2389 w2390 w2391 w2392 w2393 w2394 w2395 w2396 w2397 w2398 w2399 w2400 w2401 w2402 w2403 w2404 w2405 w2406 w2407 w2408
  refine pg_pr (ci := 9) (C := RX9) (T := TX9) (N := 63) hx hb hts wi9 tyX9 tyX9_ok nmX9 hown hK hW hS k2414 (by decide) rfl 39 (by decide) (hts (.fieldLink RX9 79 "IceHallModel" "sheetOf" "[I") (by decide +kernel)) (fun _ h9 => h9) rfl hnm rfl rfl rfl rfl dX9_init_172 (fun H locs hW hS => ?_)
  have hX : Kx [h] S (stR S2411 h 39 (some q2410)) := hX.Rh List.mem_cons_self
  obtain ⟨S2523, eS2523⟩ : ∃ T : St, T = stR S2411 h 39 (some q2410) := ⟨_, rfl⟩
  rw [← eS2523] at hW hX
  have k2524 : sK S2523 h = 9 := by rw [eS2523]; exact k2414
  have k2525 : sK S2523 q1 = 10 := by rw [eS2523]; exact k2416
  have k2526 : sK S2523 q64 = 11 := by rw [eS2523]; exact k2418
  have k2527 : sK S2523 q134 = 11 := by rw [eS2523]; exact k2420
  have k2528 : sK S2523 q211 = 11 := by rw [eS2523]; exact k2422
  have k2529 : sK S2523 q295 = 11 := by rw [eS2523]; exact k2424
  have k2530 : sK S2523 q386 = 11 := by rw [eS2523]; exact k2426
  have k2531 : sK S2523 q484 = 11 := by rw [eS2523]; exact k2428
  have k2532 : sK S2523 q689 = 11 := by rw [eS2523]; exact k2430
  have k2533 : sK S2523 q801 = 11 := by rw [eS2523]; exact k2432
  have k2534 : sK S2523 q922 = 11 := by rw [eS2523]; exact k2434
  have k2535 : sK S2523 q1052 = 11 := by rw [eS2523]; exact k2436
  have k2536 : sK S2523 q1191 = 11 := by rw [eS2523]; exact k2438
  have k2537 : sK S2523 q1339 = 11 := by rw [eS2523]; exact k2440
  have k2538 : sK S2523 q1496 = 11 := by rw [eS2523]; exact k2442
  have k2539 : sK S2523 q1662 = 11 := by rw [eS2523]; exact k2444
  have k2540 : sK S2523 q1837 = 13 := by rw [eS2523]; exact k2446
  have k2541 : sK S2523 q2021 = 11 := by rw [eS2523]; exact k2448
  have k2542 : sK S2523 q2212 = 11 := by rw [eS2523]; exact k2450
  have k2543 : sK S2523 q2410 = 11 := by rw [eS2523]; exact k2521
  have r2544 : sR S2523 h 0 = some q1 := by rw [eS2523, rR, if_pos rfl, if_neg (by decide)]; exact r2452
  have r2545 : sR S2523 h 5 = some q64 := by rw [eS2523, rR, if_pos rfl, if_neg (by decide)]; exact r2453
  have r2546 : sR S2523 h 6 = some q134 := by rw [eS2523, rR, if_pos rfl, if_neg (by decide)]; exact r2454
  have r2547 : sR S2523 h 7 = some q211 := by rw [eS2523, rR, if_pos rfl, if_neg (by decide)]; exact r2455
  have r2548 : sR S2523 h 8 = some q295 := by rw [eS2523, rR, if_pos rfl, if_neg (by decide)]; exact r2456
  have r2549 : sR S2523 h 9 = some q386 := by rw [eS2523, rR, if_pos rfl, if_neg (by decide)]; exact r2457
  have r2550 : sR S2523 h 10 = some q484 := by rw [eS2523, rR, if_pos rfl, if_neg (by decide)]; exact r2458
  have r2551 : sR S2523 h 26 = some q689 := by rw [eS2523, rR, if_pos rfl, if_neg (by decide)]; exact r2459
  have r2552 : sR S2523 h 27 = some q801 := by rw [eS2523, rR, if_pos rfl, if_neg (by decide)]; exact r2460
  have r2553 : sR S2523 h 28 = some q922 := by rw [eS2523, rR, if_pos rfl, if_neg (by decide)]; exact r2461
  have r2554 : sR S2523 h 29 = some q1052 := by rw [eS2523, rR, if_pos rfl, if_neg (by decide)]; exact r2462
  have r2555 : sR S2523 h 30 = some q1191 := by rw [eS2523, rR, if_pos rfl, if_neg (by decide)]; exact r2463
  have r2556 : sR S2523 h 31 = some q1339 := by rw [eS2523, rR, if_pos rfl, if_neg (by decide)]; exact r2464
  have r2557 : sR S2523 h 32 = some q1496 := by rw [eS2523, rR, if_pos rfl, if_neg (by decide)]; exact r2465
  have r2558 : sR S2523 h 33 = some q1662 := by rw [eS2523, rR, if_pos rfl, if_neg (by decide)]; exact r2466
  have r2559 : sR S2523 h 34 = some q1837 := by rw [eS2523, rR, if_pos rfl, if_neg (by decide)]; exact r2467
  have r2560 : sR S2523 h 37 = some q2021 := by rw [eS2523, rR, if_pos rfl, if_neg (by decide)]; exact r2468
  have r2561 : sR S2523 h 38 = some q2212 := by rw [eS2523, rR, if_pos rfl, if_neg (by decide)]; exact r2469
  have n2562 : sL S2523 q1 = 80 := by rw [eS2523]; exact n2470
  have n2563 : sL S2523 q64 = 6 := by rw [eS2523]; exact n2471
  have n2564 : sL S2523 q134 = 6 := by rw [eS2523]; exact n2472
  have n2565 : sL S2523 q211 = 6 := by rw [eS2523]; exact n2473
  have n2566 : sL S2523 q295 = 6 := by rw [eS2523]; exact n2474
  have n2567 : sL S2523 q386 = 6 := by rw [eS2523]; exact n2475
  have n2568 : sL S2523 q484 = 6 := by rw [eS2523]; exact n2476
  have n2569 : sL S2523 q689 = 24 := by rw [eS2523]; exact n2477
  have n2570 : sL S2523 q801 = 2 := by rw [eS2523]; exact n2478
  have n2571 : sL S2523 q922 = 2 := by rw [eS2523]; exact n2479
  have n2572 : sL S2523 q1052 = 2 := by rw [eS2523]; exact n2480
  have n2573 : sL S2523 q1191 = 2 := by rw [eS2523]; exact n2481
  have n2574 : sL S2523 q1339 = 2 := by rw [eS2523]; exact n2482
  have n2575 : sL S2523 q1496 = 2 := by rw [eS2523]; exact n2483
  have n2576 : sL S2523 q1662 = 2 := by rw [eS2523]; exact n2484
  have n2577 : sL S2523 q1837 = 2 := by rw [eS2523]; exact n2485
  have n2578 : sL S2523 q2021 = 200 := by rw [eS2523]; exact n2486
  have n2579 : sL S2523 q2212 = 200 := by rw [eS2523]; exact n2487
  have n2580 : sL S2523 q2410 = 200 := by rw [eS2523]; exact n2522
  have w2581 : sI S2523 h 1 = 0 := by rw [eS2523]; exact w2488
  have w2582 : sI S2523 h 2 = 0 := by rw [eS2523]; exact w2489
  have w2583 : sI S2523 h 3 = 0 := by rw [eS2523]; exact w2490
  have w2584 : sI S2523 h 4 = 0 := by rw [eS2523]; exact w2491
  have w2585 : sI S2523 h 11 = 0 := by rw [eS2523]; exact w2492
  have w2586 : sI S2523 h 12 = 0 := by rw [eS2523]; exact w2493
  have w2587 : sI S2523 h 13 = 0 := by rw [eS2523]; exact w2494
  have w2588 : sI S2523 h 14 = 0 := by rw [eS2523]; exact w2495
  have w2589 : sI S2523 h 15 = 0 := by rw [eS2523]; exact w2496
  have w2590 : sI S2523 h 16 = 0 := by rw [eS2523]; exact w2497
  have w2591 : sI S2523 h 17 = 0 := by rw [eS2523]; exact w2498
  have w2592 : sI S2523 h 18 = 0 := by rw [eS2523]; exact w2499
  have w2593 : sI S2523 h 20 = 0 := by rw [eS2523]; exact w2500
  have w2594 : sI S2523 h 21 = 0 := by rw [eS2523]; exact w2501
  have w2595 : sI S2523 h 22 = 0 := by rw [eS2523]; exact w2502
  have w2596 : sI S2523 h 35 = 0 := by rw [eS2523]; exact w2503
  have w2597 : sI S2523 h 36 = 0 := by rw [eS2523]; exact w2504
  have w2598 : sI S2523 h 53 = 0 := by rw [eS2523]; exact w2505
  have w2599 : sI S2523 h 54 = 0 := by rw [eS2523]; exact w2506
  have w2600 : sI S2523 h 55 = 0 := by rw [eS2523]; exact w2507
  have w2601 : sI S2523 h 60 = 0 := by rw [eS2523]; exact w2508
  have w2602 : sI S2523 h 19 = 200 := by rw [eS2523]; exact w2509
  have w2603 : sI S2523 h 23 = 400 := by rw [eS2523]; exact w2510
  have w2604 : sI S2523 h 24 = 3 := by rw [eS2523]; exact w2511
  have w2605 : sI S2523 h 25 = 2 := by rw [eS2523]; exact w2512
  have w2606 : ∀ j, j < 2 → sI S2523 q801 j = 0 := fun j hj => by rw [eS2523]; exact w2513 j hj 
  have w2607 : ∀ j, j < 2 → sI S2523 q922 j = 0 := fun j hj => by rw [eS2523]; exact w2514 j hj 
  have w2608 : ∀ j, j < 2 → sI S2523 q1052 j = 0 := fun j hj => by rw [eS2523]; exact w2515 j hj 
  have w2609 : ∀ j, j < 2 → sI S2523 q1191 j = 0 := fun j hj => by rw [eS2523]; exact w2516 j hj 
  have w2610 : ∀ j, j < 2 → sI S2523 q1339 j = 0 := fun j hj => by rw [eS2523]; exact w2517 j hj 
  have w2611 : ∀ j, j < 2 → sI S2523 q1496 j = 0 := fun j hj => by rw [eS2523]; exact w2518 j hj 
  have w2612 : ∀ j, j < 2 → sI S2523 q1662 j = 0 := fun j hj => by rw [eS2523]; exact w2519 j hj 
  have w2613 : ∀ j, j < 2 → sI S2523 q1837 j = 0 := fun j hj => by rw [eS2523]; exact w2520 j hj 
  have r2614 : sR S2523 h 39 = some q2410 := by rw [eS2523, rR, if_pos rfl, if_pos rfl]
  clear k2414 k2416 k2418 k2420 k2422 k2424 k2426 k2428 k2430 k2432 k2434 k2436 k2438 k2440 k2442 k2444 k2446 k2448 k2450 k2521 r2452 r2453 r2454 r2455 r2456 r2457 r2458 r2459 r2460 r2461 r2462 r2463 r2464 r2465 r2466 r2467 r2468 r2469 n2470 n2471 n2472 n2473 n2474 n2475 n2476 n2477 n2478 n2479 n2480 n2481 n2482 n2483 n2484 n2485 n2486 n2487 n2522 w2488 w2489 w2490 w2491 w2492 w2493 w2494 w2495 w2496 w2497 w2498 w2499 w2500 w2501 w2502 w2503 w2504 w2505 w2506 w2507 w2508 w2509 w2510 w2511 w2512 w2513 w2514 w2515 w2516 w2517 w2518 w2519 w2520
  refine lv_aload_n hx hb dX9_init_175 rfl (lv_at hl 0 rfl) ?_
  refine lv_sipush (v := 200) hx hb dX9_init_176 (by decide) ?_
  refine pg_newa (atype := .int) (ty := .int) (kd := 11) (t0 := 1) (N' := 200) hx hb (hts (.arrayClass .int) (by decide +kernel)) rfl rfl (Or.inl rfl) (by decide) hK hW hS hA (fun _ => rfl) (by decide) (by decide) (Nat.le_of_ble_eq_true rfl) (Nat.le_of_ble_eq_true rfl) (Nat.le_of_ble_eq_true rfl) dX9_init_179 (fun q2615 H hq2615 hW hS => ?_)
  have f2617 : Ap h q2615 := ap_k k2524 hq2615 (by decide)
  have o2618 : 16 ≤ sK S q2615 := hX.old hq2615 (ni_c (ap_s f2617) ni_0)
  have hX : Kx [h] S (stN S2523 q2615 11 200) := hX.N hq2615
  obtain ⟨S2616, eS2616⟩ : ∃ T : St, T = stN S2523 q2615 11 200 := ⟨_, rfl⟩
  rw [← eS2616] at hW hX
  obtain ⟨k2619, d2620⟩ := fk_N (a := h) eS2616 k2524 (by decide) hq2615
  obtain ⟨k2621, d2622⟩ := fk_N (a := q1) eS2616 k2525 (by decide) hq2615
  obtain ⟨k2623, d2624⟩ := fk_N (a := q64) eS2616 k2526 (by decide) hq2615
  obtain ⟨k2625, d2626⟩ := fk_N (a := q134) eS2616 k2527 (by decide) hq2615
  obtain ⟨k2627, d2628⟩ := fk_N (a := q211) eS2616 k2528 (by decide) hq2615
  obtain ⟨k2629, d2630⟩ := fk_N (a := q295) eS2616 k2529 (by decide) hq2615
  obtain ⟨k2631, d2632⟩ := fk_N (a := q386) eS2616 k2530 (by decide) hq2615
  obtain ⟨k2633, d2634⟩ := fk_N (a := q484) eS2616 k2531 (by decide) hq2615
  obtain ⟨k2635, d2636⟩ := fk_N (a := q689) eS2616 k2532 (by decide) hq2615
  obtain ⟨k2637, d2638⟩ := fk_N (a := q801) eS2616 k2533 (by decide) hq2615
  obtain ⟨k2639, d2640⟩ := fk_N (a := q922) eS2616 k2534 (by decide) hq2615
  obtain ⟨k2641, d2642⟩ := fk_N (a := q1052) eS2616 k2535 (by decide) hq2615
  obtain ⟨k2643, d2644⟩ := fk_N (a := q1191) eS2616 k2536 (by decide) hq2615
  obtain ⟨k2645, d2646⟩ := fk_N (a := q1339) eS2616 k2537 (by decide) hq2615
  obtain ⟨k2647, d2648⟩ := fk_N (a := q1496) eS2616 k2538 (by decide) hq2615
  obtain ⟨k2649, d2650⟩ := fk_N (a := q1662) eS2616 k2539 (by decide) hq2615
  obtain ⟨k2651, d2652⟩ := fk_N (a := q1837) eS2616 k2540 (by decide) hq2615
  obtain ⟨k2653, d2654⟩ := fk_N (a := q2021) eS2616 k2541 (by decide) hq2615
  obtain ⟨k2655, d2656⟩ := fk_N (a := q2212) eS2616 k2542 (by decide) hq2615
  obtain ⟨k2657, d2658⟩ := fk_N (a := q2410) eS2616 k2543 (by decide) hq2615
  have r2659 : sR S2616 h 0 = some q1 := by rw [eS2616, rN, if_neg d2620]; exact r2544
  have r2660 : sR S2616 h 5 = some q64 := by rw [eS2616, rN, if_neg d2620]; exact r2545
  have r2661 : sR S2616 h 6 = some q134 := by rw [eS2616, rN, if_neg d2620]; exact r2546
  have r2662 : sR S2616 h 7 = some q211 := by rw [eS2616, rN, if_neg d2620]; exact r2547
  have r2663 : sR S2616 h 8 = some q295 := by rw [eS2616, rN, if_neg d2620]; exact r2548
  have r2664 : sR S2616 h 9 = some q386 := by rw [eS2616, rN, if_neg d2620]; exact r2549
  have r2665 : sR S2616 h 10 = some q484 := by rw [eS2616, rN, if_neg d2620]; exact r2550
  have r2666 : sR S2616 h 26 = some q689 := by rw [eS2616, rN, if_neg d2620]; exact r2551
  have r2667 : sR S2616 h 27 = some q801 := by rw [eS2616, rN, if_neg d2620]; exact r2552
  have r2668 : sR S2616 h 28 = some q922 := by rw [eS2616, rN, if_neg d2620]; exact r2553
  have r2669 : sR S2616 h 29 = some q1052 := by rw [eS2616, rN, if_neg d2620]; exact r2554
  have r2670 : sR S2616 h 30 = some q1191 := by rw [eS2616, rN, if_neg d2620]; exact r2555
  have r2671 : sR S2616 h 31 = some q1339 := by rw [eS2616, rN, if_neg d2620]; exact r2556
  have r2672 : sR S2616 h 32 = some q1496 := by rw [eS2616, rN, if_neg d2620]; exact r2557
  have r2673 : sR S2616 h 33 = some q1662 := by rw [eS2616, rN, if_neg d2620]; exact r2558
  have r2674 : sR S2616 h 34 = some q1837 := by rw [eS2616, rN, if_neg d2620]; exact r2559
  have r2675 : sR S2616 h 37 = some q2021 := by rw [eS2616, rN, if_neg d2620]; exact r2560
  have r2676 : sR S2616 h 38 = some q2212 := by rw [eS2616, rN, if_neg d2620]; exact r2561
  have r2677 : sR S2616 h 39 = some q2410 := by rw [eS2616, rN, if_neg d2620]; exact r2614
  have n2678 : sL S2616 q1 = 80 := by rw [eS2616, lNw, if_neg d2622]; exact n2562
  have n2679 : sL S2616 q64 = 6 := by rw [eS2616, lNw, if_neg d2624]; exact n2563
  have n2680 : sL S2616 q134 = 6 := by rw [eS2616, lNw, if_neg d2626]; exact n2564
  have n2681 : sL S2616 q211 = 6 := by rw [eS2616, lNw, if_neg d2628]; exact n2565
  have n2682 : sL S2616 q295 = 6 := by rw [eS2616, lNw, if_neg d2630]; exact n2566
  have n2683 : sL S2616 q386 = 6 := by rw [eS2616, lNw, if_neg d2632]; exact n2567
  have n2684 : sL S2616 q484 = 6 := by rw [eS2616, lNw, if_neg d2634]; exact n2568
  have n2685 : sL S2616 q689 = 24 := by rw [eS2616, lNw, if_neg d2636]; exact n2569
  have n2686 : sL S2616 q801 = 2 := by rw [eS2616, lNw, if_neg d2638]; exact n2570
  have n2687 : sL S2616 q922 = 2 := by rw [eS2616, lNw, if_neg d2640]; exact n2571
  have n2688 : sL S2616 q1052 = 2 := by rw [eS2616, lNw, if_neg d2642]; exact n2572
  have n2689 : sL S2616 q1191 = 2 := by rw [eS2616, lNw, if_neg d2644]; exact n2573
  have n2690 : sL S2616 q1339 = 2 := by rw [eS2616, lNw, if_neg d2646]; exact n2574
  have n2691 : sL S2616 q1496 = 2 := by rw [eS2616, lNw, if_neg d2648]; exact n2575
  have n2692 : sL S2616 q1662 = 2 := by rw [eS2616, lNw, if_neg d2650]; exact n2576
  have n2693 : sL S2616 q1837 = 2 := by rw [eS2616, lNw, if_neg d2652]; exact n2577
  have n2694 : sL S2616 q2021 = 200 := by rw [eS2616, lNw, if_neg d2654]; exact n2578
  have n2695 : sL S2616 q2212 = 200 := by rw [eS2616, lNw, if_neg d2656]; exact n2579
  have n2696 : sL S2616 q2410 = 200 := by rw [eS2616, lNw, if_neg d2658]; exact n2580
  have w2697 : sI S2616 h 1 = 0 := by rw [eS2616, iN, if_neg d2620]; exact w2581
  have w2698 : sI S2616 h 2 = 0 := by rw [eS2616, iN, if_neg d2620]; exact w2582
  have w2699 : sI S2616 h 3 = 0 := by rw [eS2616, iN, if_neg d2620]; exact w2583
  have w2700 : sI S2616 h 4 = 0 := by rw [eS2616, iN, if_neg d2620]; exact w2584
  have w2701 : sI S2616 h 11 = 0 := by rw [eS2616, iN, if_neg d2620]; exact w2585
  have w2702 : sI S2616 h 12 = 0 := by rw [eS2616, iN, if_neg d2620]; exact w2586
  have w2703 : sI S2616 h 13 = 0 := by rw [eS2616, iN, if_neg d2620]; exact w2587
  have w2704 : sI S2616 h 14 = 0 := by rw [eS2616, iN, if_neg d2620]; exact w2588
  have w2705 : sI S2616 h 15 = 0 := by rw [eS2616, iN, if_neg d2620]; exact w2589
  have w2706 : sI S2616 h 16 = 0 := by rw [eS2616, iN, if_neg d2620]; exact w2590
  have w2707 : sI S2616 h 17 = 0 := by rw [eS2616, iN, if_neg d2620]; exact w2591
  have w2708 : sI S2616 h 18 = 0 := by rw [eS2616, iN, if_neg d2620]; exact w2592
  have w2709 : sI S2616 h 20 = 0 := by rw [eS2616, iN, if_neg d2620]; exact w2593
  have w2710 : sI S2616 h 21 = 0 := by rw [eS2616, iN, if_neg d2620]; exact w2594
  have w2711 : sI S2616 h 22 = 0 := by rw [eS2616, iN, if_neg d2620]; exact w2595
  have w2712 : sI S2616 h 35 = 0 := by rw [eS2616, iN, if_neg d2620]; exact w2596
  have w2713 : sI S2616 h 36 = 0 := by rw [eS2616, iN, if_neg d2620]; exact w2597
  have w2714 : sI S2616 h 53 = 0 := by rw [eS2616, iN, if_neg d2620]; exact w2598
  have w2715 : sI S2616 h 54 = 0 := by rw [eS2616, iN, if_neg d2620]; exact w2599
  have w2716 : sI S2616 h 55 = 0 := by rw [eS2616, iN, if_neg d2620]; exact w2600
  have w2717 : sI S2616 h 60 = 0 := by rw [eS2616, iN, if_neg d2620]; exact w2601
  have w2718 : sI S2616 h 19 = 200 := by rw [eS2616, iN, if_neg d2620]; exact w2602
  have w2719 : sI S2616 h 23 = 400 := by rw [eS2616, iN, if_neg d2620]; exact w2603
  have w2720 : sI S2616 h 24 = 3 := by rw [eS2616, iN, if_neg d2620]; exact w2604
  have w2721 : sI S2616 h 25 = 2 := by rw [eS2616, iN, if_neg d2620]; exact w2605
  have w2722 : ∀ j, j < 2 → sI S2616 q801 j = 0 := fun j hj => by rw [eS2616, iN, if_neg d2638]; exact w2606 j hj 
  have w2723 : ∀ j, j < 2 → sI S2616 q922 j = 0 := fun j hj => by rw [eS2616, iN, if_neg d2640]; exact w2607 j hj 
  have w2724 : ∀ j, j < 2 → sI S2616 q1052 j = 0 := fun j hj => by rw [eS2616, iN, if_neg d2642]; exact w2608 j hj 
  have w2725 : ∀ j, j < 2 → sI S2616 q1191 j = 0 := fun j hj => by rw [eS2616, iN, if_neg d2644]; exact w2609 j hj 
  have w2726 : ∀ j, j < 2 → sI S2616 q1339 j = 0 := fun j hj => by rw [eS2616, iN, if_neg d2646]; exact w2610 j hj 
  have w2727 : ∀ j, j < 2 → sI S2616 q1496 j = 0 := fun j hj => by rw [eS2616, iN, if_neg d2648]; exact w2611 j hj 
  have w2728 : ∀ j, j < 2 → sI S2616 q1662 j = 0 := fun j hj => by rw [eS2616, iN, if_neg d2650]; exact w2612 j hj 
  have w2729 : ∀ j, j < 2 → sI S2616 q1837 j = 0 := fun j hj => by rw [eS2616, iN, if_neg d2652]; exact w2613 j hj 
  have k2730 : sK S2616 q2615 = 11 := by rw [eS2616, kN, if_pos rfl]
  have n2731 : sL S2616 q2615 = 200 := by rw [eS2616, lNw, if_pos rfl]
  clear k2524 k2525 k2526 k2527 k2528 k2529 k2530 k2531 k2532 k2533 k2534 k2535 k2536 k2537 k2538 k2539 k2540 k2541 k2542 k2543 r2544 r2545 r2546 r2547 r2548 r2549 r2550 r2551 r2552 r2553 r2554 r2555 r2556 r2557 r2558 r2559 r2560 r2561 r2614 n2562 n2563 n2564 n2565 n2566 n2567 n2568 n2569 n2570 n2571 n2572 n2573 n2574 n2575 n2576 n2577 n2578 n2579 n2580 w2581 w2582 w2583 w2584 w2585 w2586 w2587 w2588 w2589 w2590 w2591 w2592 w2593 w2594 w2595 w2596 w2597 w2598 w2599 w2600 w2601 w2602 w2603 w2604 w2605 w2606 w2607 w2608 w2609 w2610 w2611 w2612 w2613
  refine pg_pr (ci := 9) (C := RX9) (T := TX9) (N := 63) hx hb hts wi9 tyX9 tyX9_ok nmX9 hown hK hW hS k2619 (by decide) rfl 40 (by decide) (hts (.fieldLink RX9 82 "IceHallModel" "hourOf" "[I") (by decide +kernel)) (fun _ h9 => h9) rfl hnm rfl rfl rfl rfl dX9_init_181 (fun H locs hW hS => ?_)
  have hX : Kx [h] S (stR S2616 h 40 (some q2615)) := hX.Rh List.mem_cons_self
  obtain ⟨S2732, eS2732⟩ : ∃ T : St, T = stR S2616 h 40 (some q2615) := ⟨_, rfl⟩
  rw [← eS2732] at hW hX
  have k2733 : sK S2732 h = 9 := by rw [eS2732]; exact k2619
  have k2734 : sK S2732 q1 = 10 := by rw [eS2732]; exact k2621
  have k2735 : sK S2732 q64 = 11 := by rw [eS2732]; exact k2623
  have k2736 : sK S2732 q134 = 11 := by rw [eS2732]; exact k2625
  have k2737 : sK S2732 q211 = 11 := by rw [eS2732]; exact k2627
  have k2738 : sK S2732 q295 = 11 := by rw [eS2732]; exact k2629
  have k2739 : sK S2732 q386 = 11 := by rw [eS2732]; exact k2631
  have k2740 : sK S2732 q484 = 11 := by rw [eS2732]; exact k2633
  have k2741 : sK S2732 q689 = 11 := by rw [eS2732]; exact k2635
  have k2742 : sK S2732 q801 = 11 := by rw [eS2732]; exact k2637
  have k2743 : sK S2732 q922 = 11 := by rw [eS2732]; exact k2639
  have k2744 : sK S2732 q1052 = 11 := by rw [eS2732]; exact k2641
  have k2745 : sK S2732 q1191 = 11 := by rw [eS2732]; exact k2643
  have k2746 : sK S2732 q1339 = 11 := by rw [eS2732]; exact k2645
  have k2747 : sK S2732 q1496 = 11 := by rw [eS2732]; exact k2647
  have k2748 : sK S2732 q1662 = 11 := by rw [eS2732]; exact k2649
  have k2749 : sK S2732 q1837 = 13 := by rw [eS2732]; exact k2651
  have k2750 : sK S2732 q2021 = 11 := by rw [eS2732]; exact k2653
  have k2751 : sK S2732 q2212 = 11 := by rw [eS2732]; exact k2655
  have k2752 : sK S2732 q2410 = 11 := by rw [eS2732]; exact k2657
  have k2753 : sK S2732 q2615 = 11 := by rw [eS2732]; exact k2730
  have r2754 : sR S2732 h 0 = some q1 := by rw [eS2732, rR, if_pos rfl, if_neg (by decide)]; exact r2659
  have r2755 : sR S2732 h 5 = some q64 := by rw [eS2732, rR, if_pos rfl, if_neg (by decide)]; exact r2660
  have r2756 : sR S2732 h 6 = some q134 := by rw [eS2732, rR, if_pos rfl, if_neg (by decide)]; exact r2661
  have r2757 : sR S2732 h 7 = some q211 := by rw [eS2732, rR, if_pos rfl, if_neg (by decide)]; exact r2662
  have r2758 : sR S2732 h 8 = some q295 := by rw [eS2732, rR, if_pos rfl, if_neg (by decide)]; exact r2663
  have r2759 : sR S2732 h 9 = some q386 := by rw [eS2732, rR, if_pos rfl, if_neg (by decide)]; exact r2664
  have r2760 : sR S2732 h 10 = some q484 := by rw [eS2732, rR, if_pos rfl, if_neg (by decide)]; exact r2665
  have r2761 : sR S2732 h 26 = some q689 := by rw [eS2732, rR, if_pos rfl, if_neg (by decide)]; exact r2666
  have r2762 : sR S2732 h 27 = some q801 := by rw [eS2732, rR, if_pos rfl, if_neg (by decide)]; exact r2667
  have r2763 : sR S2732 h 28 = some q922 := by rw [eS2732, rR, if_pos rfl, if_neg (by decide)]; exact r2668
  have r2764 : sR S2732 h 29 = some q1052 := by rw [eS2732, rR, if_pos rfl, if_neg (by decide)]; exact r2669
  have r2765 : sR S2732 h 30 = some q1191 := by rw [eS2732, rR, if_pos rfl, if_neg (by decide)]; exact r2670
  have r2766 : sR S2732 h 31 = some q1339 := by rw [eS2732, rR, if_pos rfl, if_neg (by decide)]; exact r2671
  have r2767 : sR S2732 h 32 = some q1496 := by rw [eS2732, rR, if_pos rfl, if_neg (by decide)]; exact r2672
  have r2768 : sR S2732 h 33 = some q1662 := by rw [eS2732, rR, if_pos rfl, if_neg (by decide)]; exact r2673
  have r2769 : sR S2732 h 34 = some q1837 := by rw [eS2732, rR, if_pos rfl, if_neg (by decide)]; exact r2674
  have r2770 : sR S2732 h 37 = some q2021 := by rw [eS2732, rR, if_pos rfl, if_neg (by decide)]; exact r2675
  have r2771 : sR S2732 h 38 = some q2212 := by rw [eS2732, rR, if_pos rfl, if_neg (by decide)]; exact r2676
  have r2772 : sR S2732 h 39 = some q2410 := by rw [eS2732, rR, if_pos rfl, if_neg (by decide)]; exact r2677
  have n2773 : sL S2732 q1 = 80 := by rw [eS2732]; exact n2678
  have n2774 : sL S2732 q64 = 6 := by rw [eS2732]; exact n2679
  have n2775 : sL S2732 q134 = 6 := by rw [eS2732]; exact n2680
  have n2776 : sL S2732 q211 = 6 := by rw [eS2732]; exact n2681
  have n2777 : sL S2732 q295 = 6 := by rw [eS2732]; exact n2682
  have n2778 : sL S2732 q386 = 6 := by rw [eS2732]; exact n2683
  have n2779 : sL S2732 q484 = 6 := by rw [eS2732]; exact n2684
  have n2780 : sL S2732 q689 = 24 := by rw [eS2732]; exact n2685
  have n2781 : sL S2732 q801 = 2 := by rw [eS2732]; exact n2686
  have n2782 : sL S2732 q922 = 2 := by rw [eS2732]; exact n2687
  have n2783 : sL S2732 q1052 = 2 := by rw [eS2732]; exact n2688
  have n2784 : sL S2732 q1191 = 2 := by rw [eS2732]; exact n2689
  have n2785 : sL S2732 q1339 = 2 := by rw [eS2732]; exact n2690
  have n2786 : sL S2732 q1496 = 2 := by rw [eS2732]; exact n2691
  have n2787 : sL S2732 q1662 = 2 := by rw [eS2732]; exact n2692
  have n2788 : sL S2732 q1837 = 2 := by rw [eS2732]; exact n2693
  have n2789 : sL S2732 q2021 = 200 := by rw [eS2732]; exact n2694
  have n2790 : sL S2732 q2212 = 200 := by rw [eS2732]; exact n2695
  have n2791 : sL S2732 q2410 = 200 := by rw [eS2732]; exact n2696
  have n2792 : sL S2732 q2615 = 200 := by rw [eS2732]; exact n2731
  have w2793 : sI S2732 h 1 = 0 := by rw [eS2732]; exact w2697
  have w2794 : sI S2732 h 2 = 0 := by rw [eS2732]; exact w2698
  have w2795 : sI S2732 h 3 = 0 := by rw [eS2732]; exact w2699
  have w2796 : sI S2732 h 4 = 0 := by rw [eS2732]; exact w2700
  have w2797 : sI S2732 h 11 = 0 := by rw [eS2732]; exact w2701
  have w2798 : sI S2732 h 12 = 0 := by rw [eS2732]; exact w2702
  have w2799 : sI S2732 h 13 = 0 := by rw [eS2732]; exact w2703
  have w2800 : sI S2732 h 14 = 0 := by rw [eS2732]; exact w2704
  have w2801 : sI S2732 h 15 = 0 := by rw [eS2732]; exact w2705
  have w2802 : sI S2732 h 16 = 0 := by rw [eS2732]; exact w2706
  have w2803 : sI S2732 h 17 = 0 := by rw [eS2732]; exact w2707
  have w2804 : sI S2732 h 18 = 0 := by rw [eS2732]; exact w2708
  have w2805 : sI S2732 h 20 = 0 := by rw [eS2732]; exact w2709
  have w2806 : sI S2732 h 21 = 0 := by rw [eS2732]; exact w2710
  have w2807 : sI S2732 h 22 = 0 := by rw [eS2732]; exact w2711
  have w2808 : sI S2732 h 35 = 0 := by rw [eS2732]; exact w2712
  have w2809 : sI S2732 h 36 = 0 := by rw [eS2732]; exact w2713
  have w2810 : sI S2732 h 53 = 0 := by rw [eS2732]; exact w2714
  have w2811 : sI S2732 h 54 = 0 := by rw [eS2732]; exact w2715
  have w2812 : sI S2732 h 55 = 0 := by rw [eS2732]; exact w2716
  have w2813 : sI S2732 h 60 = 0 := by rw [eS2732]; exact w2717
  have w2814 : sI S2732 h 19 = 200 := by rw [eS2732]; exact w2718
  have w2815 : sI S2732 h 23 = 400 := by rw [eS2732]; exact w2719
  have w2816 : sI S2732 h 24 = 3 := by rw [eS2732]; exact w2720
  have w2817 : sI S2732 h 25 = 2 := by rw [eS2732]; exact w2721
  have w2818 : ∀ j, j < 2 → sI S2732 q801 j = 0 := fun j hj => by rw [eS2732]; exact w2722 j hj 
  have w2819 : ∀ j, j < 2 → sI S2732 q922 j = 0 := fun j hj => by rw [eS2732]; exact w2723 j hj 
  have w2820 : ∀ j, j < 2 → sI S2732 q1052 j = 0 := fun j hj => by rw [eS2732]; exact w2724 j hj 
  have w2821 : ∀ j, j < 2 → sI S2732 q1191 j = 0 := fun j hj => by rw [eS2732]; exact w2725 j hj 
  have w2822 : ∀ j, j < 2 → sI S2732 q1339 j = 0 := fun j hj => by rw [eS2732]; exact w2726 j hj 
  have w2823 : ∀ j, j < 2 → sI S2732 q1496 j = 0 := fun j hj => by rw [eS2732]; exact w2727 j hj 
  have w2824 : ∀ j, j < 2 → sI S2732 q1662 j = 0 := fun j hj => by rw [eS2732]; exact w2728 j hj 
  have w2825 : ∀ j, j < 2 → sI S2732 q1837 j = 0 := fun j hj => by rw [eS2732]; exact w2729 j hj 
  have r2826 : sR S2732 h 40 = some q2615 := by rw [eS2732, rR, if_pos rfl, if_pos rfl]
  clear k2619 k2621 k2623 k2625 k2627 k2629 k2631 k2633 k2635 k2637 k2639 k2641 k2643 k2645 k2647 k2649 k2651 k2653 k2655 k2657 k2730 r2659 r2660 r2661 r2662 r2663 r2664 r2665 r2666 r2667 r2668 r2669 r2670 r2671 r2672 r2673 r2674 r2675 r2676 r2677 n2678 n2679 n2680 n2681 n2682 n2683 n2684 n2685 n2686 n2687 n2688 n2689 n2690 n2691 n2692 n2693 n2694 n2695 n2696 n2731 w2697 w2698 w2699 w2700 w2701 w2702 w2703 w2704 w2705 w2706 w2707 w2708 w2709 w2710 w2711 w2712 w2713 w2714 w2715 w2716 w2717 w2718 w2719 w2720 w2721 w2722 w2723 w2724 w2725 w2726 w2727 w2728 w2729
  refine lv_aload_n hx hb dX9_init_184 rfl (lv_at hl 0 rfl) ?_
  refine lv_sipush (v := 200) hx hb dX9_init_185 (by decide) ?_
  refine pg_newa (atype := .int) (ty := .int) (kd := 11) (t0 := 1) (N' := 200) hx hb (hts (.arrayClass .int) (by decide +kernel)) rfl rfl (Or.inl rfl) (by decide) hK hW hS hA (fun _ => rfl) (by decide) (by decide) (Nat.le_of_ble_eq_true rfl) (Nat.le_of_ble_eq_true rfl) (Nat.le_of_ble_eq_true rfl) dX9_init_188 (fun q2827 H hq2827 hW hS => ?_)
  have f2829 : Ap h q2827 := ap_k k2733 hq2827 (by decide)
  have o2830 : 16 ≤ sK S q2827 := hX.old hq2827 (ni_c (ap_s f2829) ni_0)
  have hX : Kx [h] S (stN S2732 q2827 11 200) := hX.N hq2827
  obtain ⟨S2828, eS2828⟩ : ∃ T : St, T = stN S2732 q2827 11 200 := ⟨_, rfl⟩
  rw [← eS2828] at hW hX
  obtain ⟨k2831, d2832⟩ := fk_N (a := h) eS2828 k2733 (by decide) hq2827
  obtain ⟨k2833, d2834⟩ := fk_N (a := q1) eS2828 k2734 (by decide) hq2827
  obtain ⟨k2835, d2836⟩ := fk_N (a := q64) eS2828 k2735 (by decide) hq2827
  obtain ⟨k2837, d2838⟩ := fk_N (a := q134) eS2828 k2736 (by decide) hq2827
  obtain ⟨k2839, d2840⟩ := fk_N (a := q211) eS2828 k2737 (by decide) hq2827
  obtain ⟨k2841, d2842⟩ := fk_N (a := q295) eS2828 k2738 (by decide) hq2827
  obtain ⟨k2843, d2844⟩ := fk_N (a := q386) eS2828 k2739 (by decide) hq2827
  obtain ⟨k2845, d2846⟩ := fk_N (a := q484) eS2828 k2740 (by decide) hq2827
  obtain ⟨k2847, d2848⟩ := fk_N (a := q689) eS2828 k2741 (by decide) hq2827
  obtain ⟨k2849, d2850⟩ := fk_N (a := q801) eS2828 k2742 (by decide) hq2827
  obtain ⟨k2851, d2852⟩ := fk_N (a := q922) eS2828 k2743 (by decide) hq2827
  obtain ⟨k2853, d2854⟩ := fk_N (a := q1052) eS2828 k2744 (by decide) hq2827
  obtain ⟨k2855, d2856⟩ := fk_N (a := q1191) eS2828 k2745 (by decide) hq2827
  obtain ⟨k2857, d2858⟩ := fk_N (a := q1339) eS2828 k2746 (by decide) hq2827
  obtain ⟨k2859, d2860⟩ := fk_N (a := q1496) eS2828 k2747 (by decide) hq2827
  obtain ⟨k2861, d2862⟩ := fk_N (a := q1662) eS2828 k2748 (by decide) hq2827
  obtain ⟨k2863, d2864⟩ := fk_N (a := q1837) eS2828 k2749 (by decide) hq2827
  obtain ⟨k2865, d2866⟩ := fk_N (a := q2021) eS2828 k2750 (by decide) hq2827
  obtain ⟨k2867, d2868⟩ := fk_N (a := q2212) eS2828 k2751 (by decide) hq2827
  obtain ⟨k2869, d2870⟩ := fk_N (a := q2410) eS2828 k2752 (by decide) hq2827
  obtain ⟨k2871, d2872⟩ := fk_N (a := q2615) eS2828 k2753 (by decide) hq2827
  have r2873 : sR S2828 h 0 = some q1 := by rw [eS2828, rN, if_neg d2832]; exact r2754
  have r2874 : sR S2828 h 5 = some q64 := by rw [eS2828, rN, if_neg d2832]; exact r2755
  have r2875 : sR S2828 h 6 = some q134 := by rw [eS2828, rN, if_neg d2832]; exact r2756
  have r2876 : sR S2828 h 7 = some q211 := by rw [eS2828, rN, if_neg d2832]; exact r2757
  have r2877 : sR S2828 h 8 = some q295 := by rw [eS2828, rN, if_neg d2832]; exact r2758
  have r2878 : sR S2828 h 9 = some q386 := by rw [eS2828, rN, if_neg d2832]; exact r2759
  have r2879 : sR S2828 h 10 = some q484 := by rw [eS2828, rN, if_neg d2832]; exact r2760
  have r2880 : sR S2828 h 26 = some q689 := by rw [eS2828, rN, if_neg d2832]; exact r2761
  have r2881 : sR S2828 h 27 = some q801 := by rw [eS2828, rN, if_neg d2832]; exact r2762
  have r2882 : sR S2828 h 28 = some q922 := by rw [eS2828, rN, if_neg d2832]; exact r2763
  have r2883 : sR S2828 h 29 = some q1052 := by rw [eS2828, rN, if_neg d2832]; exact r2764
  have r2884 : sR S2828 h 30 = some q1191 := by rw [eS2828, rN, if_neg d2832]; exact r2765
  have r2885 : sR S2828 h 31 = some q1339 := by rw [eS2828, rN, if_neg d2832]; exact r2766
  have r2886 : sR S2828 h 32 = some q1496 := by rw [eS2828, rN, if_neg d2832]; exact r2767
  have r2887 : sR S2828 h 33 = some q1662 := by rw [eS2828, rN, if_neg d2832]; exact r2768
  have r2888 : sR S2828 h 34 = some q1837 := by rw [eS2828, rN, if_neg d2832]; exact r2769
  have r2889 : sR S2828 h 37 = some q2021 := by rw [eS2828, rN, if_neg d2832]; exact r2770
  have r2890 : sR S2828 h 38 = some q2212 := by rw [eS2828, rN, if_neg d2832]; exact r2771
  have r2891 : sR S2828 h 39 = some q2410 := by rw [eS2828, rN, if_neg d2832]; exact r2772
  have r2892 : sR S2828 h 40 = some q2615 := by rw [eS2828, rN, if_neg d2832]; exact r2826
  have n2893 : sL S2828 q1 = 80 := by rw [eS2828, lNw, if_neg d2834]; exact n2773
  have n2894 : sL S2828 q64 = 6 := by rw [eS2828, lNw, if_neg d2836]; exact n2774
  have n2895 : sL S2828 q134 = 6 := by rw [eS2828, lNw, if_neg d2838]; exact n2775
  have n2896 : sL S2828 q211 = 6 := by rw [eS2828, lNw, if_neg d2840]; exact n2776
  have n2897 : sL S2828 q295 = 6 := by rw [eS2828, lNw, if_neg d2842]; exact n2777
  have n2898 : sL S2828 q386 = 6 := by rw [eS2828, lNw, if_neg d2844]; exact n2778
  have n2899 : sL S2828 q484 = 6 := by rw [eS2828, lNw, if_neg d2846]; exact n2779
  have n2900 : sL S2828 q689 = 24 := by rw [eS2828, lNw, if_neg d2848]; exact n2780
  have n2901 : sL S2828 q801 = 2 := by rw [eS2828, lNw, if_neg d2850]; exact n2781
  have n2902 : sL S2828 q922 = 2 := by rw [eS2828, lNw, if_neg d2852]; exact n2782
  have n2903 : sL S2828 q1052 = 2 := by rw [eS2828, lNw, if_neg d2854]; exact n2783
  have n2904 : sL S2828 q1191 = 2 := by rw [eS2828, lNw, if_neg d2856]; exact n2784
  have n2905 : sL S2828 q1339 = 2 := by rw [eS2828, lNw, if_neg d2858]; exact n2785
  have n2906 : sL S2828 q1496 = 2 := by rw [eS2828, lNw, if_neg d2860]; exact n2786
  have n2907 : sL S2828 q1662 = 2 := by rw [eS2828, lNw, if_neg d2862]; exact n2787
  have n2908 : sL S2828 q1837 = 2 := by rw [eS2828, lNw, if_neg d2864]; exact n2788
  have n2909 : sL S2828 q2021 = 200 := by rw [eS2828, lNw, if_neg d2866]; exact n2789
  have n2910 : sL S2828 q2212 = 200 := by rw [eS2828, lNw, if_neg d2868]; exact n2790
  have n2911 : sL S2828 q2410 = 200 := by rw [eS2828, lNw, if_neg d2870]; exact n2791
  have n2912 : sL S2828 q2615 = 200 := by rw [eS2828, lNw, if_neg d2872]; exact n2792
  have w2913 : sI S2828 h 1 = 0 := by rw [eS2828, iN, if_neg d2832]; exact w2793
  have w2914 : sI S2828 h 2 = 0 := by rw [eS2828, iN, if_neg d2832]; exact w2794
  have w2915 : sI S2828 h 3 = 0 := by rw [eS2828, iN, if_neg d2832]; exact w2795
  have w2916 : sI S2828 h 4 = 0 := by rw [eS2828, iN, if_neg d2832]; exact w2796
  have w2917 : sI S2828 h 11 = 0 := by rw [eS2828, iN, if_neg d2832]; exact w2797
  have w2918 : sI S2828 h 12 = 0 := by rw [eS2828, iN, if_neg d2832]; exact w2798
  have w2919 : sI S2828 h 13 = 0 := by rw [eS2828, iN, if_neg d2832]; exact w2799
  have w2920 : sI S2828 h 14 = 0 := by rw [eS2828, iN, if_neg d2832]; exact w2800
  have w2921 : sI S2828 h 15 = 0 := by rw [eS2828, iN, if_neg d2832]; exact w2801
  have w2922 : sI S2828 h 16 = 0 := by rw [eS2828, iN, if_neg d2832]; exact w2802
  have w2923 : sI S2828 h 17 = 0 := by rw [eS2828, iN, if_neg d2832]; exact w2803
  have w2924 : sI S2828 h 18 = 0 := by rw [eS2828, iN, if_neg d2832]; exact w2804
  have w2925 : sI S2828 h 20 = 0 := by rw [eS2828, iN, if_neg d2832]; exact w2805
  have w2926 : sI S2828 h 21 = 0 := by rw [eS2828, iN, if_neg d2832]; exact w2806
  have w2927 : sI S2828 h 22 = 0 := by rw [eS2828, iN, if_neg d2832]; exact w2807
  have w2928 : sI S2828 h 35 = 0 := by rw [eS2828, iN, if_neg d2832]; exact w2808
  have w2929 : sI S2828 h 36 = 0 := by rw [eS2828, iN, if_neg d2832]; exact w2809
  have w2930 : sI S2828 h 53 = 0 := by rw [eS2828, iN, if_neg d2832]; exact w2810
  have w2931 : sI S2828 h 54 = 0 := by rw [eS2828, iN, if_neg d2832]; exact w2811
  have w2932 : sI S2828 h 55 = 0 := by rw [eS2828, iN, if_neg d2832]; exact w2812
  have w2933 : sI S2828 h 60 = 0 := by rw [eS2828, iN, if_neg d2832]; exact w2813
  have w2934 : sI S2828 h 19 = 200 := by rw [eS2828, iN, if_neg d2832]; exact w2814
  have w2935 : sI S2828 h 23 = 400 := by rw [eS2828, iN, if_neg d2832]; exact w2815
  have w2936 : sI S2828 h 24 = 3 := by rw [eS2828, iN, if_neg d2832]; exact w2816
  have w2937 : sI S2828 h 25 = 2 := by rw [eS2828, iN, if_neg d2832]; exact w2817
  have w2938 : ∀ j, j < 2 → sI S2828 q801 j = 0 := fun j hj => by rw [eS2828, iN, if_neg d2850]; exact w2818 j hj 
  have w2939 : ∀ j, j < 2 → sI S2828 q922 j = 0 := fun j hj => by rw [eS2828, iN, if_neg d2852]; exact w2819 j hj 
  have w2940 : ∀ j, j < 2 → sI S2828 q1052 j = 0 := fun j hj => by rw [eS2828, iN, if_neg d2854]; exact w2820 j hj 
  have w2941 : ∀ j, j < 2 → sI S2828 q1191 j = 0 := fun j hj => by rw [eS2828, iN, if_neg d2856]; exact w2821 j hj 
  have w2942 : ∀ j, j < 2 → sI S2828 q1339 j = 0 := fun j hj => by rw [eS2828, iN, if_neg d2858]; exact w2822 j hj 
  have w2943 : ∀ j, j < 2 → sI S2828 q1496 j = 0 := fun j hj => by rw [eS2828, iN, if_neg d2860]; exact w2823 j hj 
  have w2944 : ∀ j, j < 2 → sI S2828 q1662 j = 0 := fun j hj => by rw [eS2828, iN, if_neg d2862]; exact w2824 j hj 
  have w2945 : ∀ j, j < 2 → sI S2828 q1837 j = 0 := fun j hj => by rw [eS2828, iN, if_neg d2864]; exact w2825 j hj 
  have k2946 : sK S2828 q2827 = 11 := by rw [eS2828, kN, if_pos rfl]
  have n2947 : sL S2828 q2827 = 200 := by rw [eS2828, lNw, if_pos rfl]
  clear k2733 k2734 k2735 k2736 k2737 k2738 k2739 k2740 k2741 k2742 k2743 k2744 k2745 k2746 k2747 k2748 k2749 k2750 k2751 k2752 k2753 r2754 r2755 r2756 r2757 r2758 r2759 r2760 r2761 r2762 r2763 r2764 r2765 r2766 r2767 r2768 r2769 r2770 r2771 r2772 r2826 n2773 n2774 n2775 n2776 n2777 n2778 n2779 n2780 n2781 n2782 n2783 n2784 n2785 n2786 n2787 n2788 n2789 n2790 n2791 n2792 w2793 w2794 w2795 w2796 w2797 w2798 w2799 w2800 w2801 w2802 w2803 w2804 w2805 w2806 w2807 w2808 w2809 w2810 w2811 w2812 w2813 w2814 w2815 w2816 w2817 w2818 w2819 w2820 w2821 w2822 w2823 w2824 w2825
  refine pg_pr (ci := 9) (C := RX9) (T := TX9) (N := 63) hx hb hts wi9 tyX9 tyX9_ok nmX9 hown hK hW hS k2831 (by decide) rfl 41 (by decide) (hts (.fieldLink RX9 85 "IceHallModel" "state" "[I") (by decide +kernel)) (fun _ h9 => h9) rfl hnm rfl rfl rfl rfl dX9_init_190 (fun H locs hW hS => ?_)
  have hX : Kx [h] S (stR S2828 h 41 (some q2827)) := hX.Rh List.mem_cons_self
  obtain ⟨S2948, eS2948⟩ : ∃ T : St, T = stR S2828 h 41 (some q2827) := ⟨_, rfl⟩
  rw [← eS2948] at hW hX
  have k2949 : sK S2948 h = 9 := by rw [eS2948]; exact k2831
  have k2950 : sK S2948 q1 = 10 := by rw [eS2948]; exact k2833
  have k2951 : sK S2948 q64 = 11 := by rw [eS2948]; exact k2835
  have k2952 : sK S2948 q134 = 11 := by rw [eS2948]; exact k2837
  have k2953 : sK S2948 q211 = 11 := by rw [eS2948]; exact k2839
  have k2954 : sK S2948 q295 = 11 := by rw [eS2948]; exact k2841
  have k2955 : sK S2948 q386 = 11 := by rw [eS2948]; exact k2843
  have k2956 : sK S2948 q484 = 11 := by rw [eS2948]; exact k2845
  have k2957 : sK S2948 q689 = 11 := by rw [eS2948]; exact k2847
  have k2958 : sK S2948 q801 = 11 := by rw [eS2948]; exact k2849
  have k2959 : sK S2948 q922 = 11 := by rw [eS2948]; exact k2851
  have k2960 : sK S2948 q1052 = 11 := by rw [eS2948]; exact k2853
  have k2961 : sK S2948 q1191 = 11 := by rw [eS2948]; exact k2855
  have k2962 : sK S2948 q1339 = 11 := by rw [eS2948]; exact k2857
  have k2963 : sK S2948 q1496 = 11 := by rw [eS2948]; exact k2859
  have k2964 : sK S2948 q1662 = 11 := by rw [eS2948]; exact k2861
  have k2965 : sK S2948 q1837 = 13 := by rw [eS2948]; exact k2863
  have k2966 : sK S2948 q2021 = 11 := by rw [eS2948]; exact k2865
  have k2967 : sK S2948 q2212 = 11 := by rw [eS2948]; exact k2867
  have k2968 : sK S2948 q2410 = 11 := by rw [eS2948]; exact k2869
  have k2969 : sK S2948 q2615 = 11 := by rw [eS2948]; exact k2871
  have k2970 : sK S2948 q2827 = 11 := by rw [eS2948]; exact k2946
  have r2971 : sR S2948 h 0 = some q1 := by rw [eS2948, rR, if_pos rfl, if_neg (by decide)]; exact r2873
  have r2972 : sR S2948 h 5 = some q64 := by rw [eS2948, rR, if_pos rfl, if_neg (by decide)]; exact r2874
  have r2973 : sR S2948 h 6 = some q134 := by rw [eS2948, rR, if_pos rfl, if_neg (by decide)]; exact r2875
  have r2974 : sR S2948 h 7 = some q211 := by rw [eS2948, rR, if_pos rfl, if_neg (by decide)]; exact r2876
  have r2975 : sR S2948 h 8 = some q295 := by rw [eS2948, rR, if_pos rfl, if_neg (by decide)]; exact r2877
  have r2976 : sR S2948 h 9 = some q386 := by rw [eS2948, rR, if_pos rfl, if_neg (by decide)]; exact r2878
  have r2977 : sR S2948 h 10 = some q484 := by rw [eS2948, rR, if_pos rfl, if_neg (by decide)]; exact r2879
  have r2978 : sR S2948 h 26 = some q689 := by rw [eS2948, rR, if_pos rfl, if_neg (by decide)]; exact r2880
  have r2979 : sR S2948 h 27 = some q801 := by rw [eS2948, rR, if_pos rfl, if_neg (by decide)]; exact r2881
  have r2980 : sR S2948 h 28 = some q922 := by rw [eS2948, rR, if_pos rfl, if_neg (by decide)]; exact r2882
  have r2981 : sR S2948 h 29 = some q1052 := by rw [eS2948, rR, if_pos rfl, if_neg (by decide)]; exact r2883
  have r2982 : sR S2948 h 30 = some q1191 := by rw [eS2948, rR, if_pos rfl, if_neg (by decide)]; exact r2884
  have r2983 : sR S2948 h 31 = some q1339 := by rw [eS2948, rR, if_pos rfl, if_neg (by decide)]; exact r2885
  have r2984 : sR S2948 h 32 = some q1496 := by rw [eS2948, rR, if_pos rfl, if_neg (by decide)]; exact r2886
  have r2985 : sR S2948 h 33 = some q1662 := by rw [eS2948, rR, if_pos rfl, if_neg (by decide)]; exact r2887
  have r2986 : sR S2948 h 34 = some q1837 := by rw [eS2948, rR, if_pos rfl, if_neg (by decide)]; exact r2888
  have r2987 : sR S2948 h 37 = some q2021 := by rw [eS2948, rR, if_pos rfl, if_neg (by decide)]; exact r2889
  have r2988 : sR S2948 h 38 = some q2212 := by rw [eS2948, rR, if_pos rfl, if_neg (by decide)]; exact r2890
  have r2989 : sR S2948 h 39 = some q2410 := by rw [eS2948, rR, if_pos rfl, if_neg (by decide)]; exact r2891
  have r2990 : sR S2948 h 40 = some q2615 := by rw [eS2948, rR, if_pos rfl, if_neg (by decide)]; exact r2892
  have n2991 : sL S2948 q1 = 80 := by rw [eS2948]; exact n2893
  have n2992 : sL S2948 q64 = 6 := by rw [eS2948]; exact n2894
  have n2993 : sL S2948 q134 = 6 := by rw [eS2948]; exact n2895
  have n2994 : sL S2948 q211 = 6 := by rw [eS2948]; exact n2896
  have n2995 : sL S2948 q295 = 6 := by rw [eS2948]; exact n2897
  have n2996 : sL S2948 q386 = 6 := by rw [eS2948]; exact n2898
  have n2997 : sL S2948 q484 = 6 := by rw [eS2948]; exact n2899
  have n2998 : sL S2948 q689 = 24 := by rw [eS2948]; exact n2900
  have n2999 : sL S2948 q801 = 2 := by rw [eS2948]; exact n2901
  have n3000 : sL S2948 q922 = 2 := by rw [eS2948]; exact n2902
  have n3001 : sL S2948 q1052 = 2 := by rw [eS2948]; exact n2903
  have n3002 : sL S2948 q1191 = 2 := by rw [eS2948]; exact n2904
  have n3003 : sL S2948 q1339 = 2 := by rw [eS2948]; exact n2905
  have n3004 : sL S2948 q1496 = 2 := by rw [eS2948]; exact n2906
  have n3005 : sL S2948 q1662 = 2 := by rw [eS2948]; exact n2907
  have n3006 : sL S2948 q1837 = 2 := by rw [eS2948]; exact n2908
  have n3007 : sL S2948 q2021 = 200 := by rw [eS2948]; exact n2909
  have n3008 : sL S2948 q2212 = 200 := by rw [eS2948]; exact n2910
  have n3009 : sL S2948 q2410 = 200 := by rw [eS2948]; exact n2911
  have n3010 : sL S2948 q2615 = 200 := by rw [eS2948]; exact n2912
  have n3011 : sL S2948 q2827 = 200 := by rw [eS2948]; exact n2947
  have w3012 : sI S2948 h 1 = 0 := by rw [eS2948]; exact w2913
  have w3013 : sI S2948 h 2 = 0 := by rw [eS2948]; exact w2914
  have w3014 : sI S2948 h 3 = 0 := by rw [eS2948]; exact w2915
  have w3015 : sI S2948 h 4 = 0 := by rw [eS2948]; exact w2916
  have w3016 : sI S2948 h 11 = 0 := by rw [eS2948]; exact w2917
  have w3017 : sI S2948 h 12 = 0 := by rw [eS2948]; exact w2918
  have w3018 : sI S2948 h 13 = 0 := by rw [eS2948]; exact w2919
  have w3019 : sI S2948 h 14 = 0 := by rw [eS2948]; exact w2920
  have w3020 : sI S2948 h 15 = 0 := by rw [eS2948]; exact w2921
  have w3021 : sI S2948 h 16 = 0 := by rw [eS2948]; exact w2922
  have w3022 : sI S2948 h 17 = 0 := by rw [eS2948]; exact w2923
  have w3023 : sI S2948 h 18 = 0 := by rw [eS2948]; exact w2924
  have w3024 : sI S2948 h 20 = 0 := by rw [eS2948]; exact w2925
  have w3025 : sI S2948 h 21 = 0 := by rw [eS2948]; exact w2926
  have w3026 : sI S2948 h 22 = 0 := by rw [eS2948]; exact w2927
  have w3027 : sI S2948 h 35 = 0 := by rw [eS2948]; exact w2928
  have w3028 : sI S2948 h 36 = 0 := by rw [eS2948]; exact w2929
  have w3029 : sI S2948 h 53 = 0 := by rw [eS2948]; exact w2930
  have w3030 : sI S2948 h 54 = 0 := by rw [eS2948]; exact w2931
  have w3031 : sI S2948 h 55 = 0 := by rw [eS2948]; exact w2932
  have w3032 : sI S2948 h 60 = 0 := by rw [eS2948]; exact w2933
  have w3033 : sI S2948 h 19 = 200 := by rw [eS2948]; exact w2934
  have w3034 : sI S2948 h 23 = 400 := by rw [eS2948]; exact w2935
  have w3035 : sI S2948 h 24 = 3 := by rw [eS2948]; exact w2936
  have w3036 : sI S2948 h 25 = 2 := by rw [eS2948]; exact w2937
  have w3037 : ∀ j, j < 2 → sI S2948 q801 j = 0 := fun j hj => by rw [eS2948]; exact w2938 j hj 
  have w3038 : ∀ j, j < 2 → sI S2948 q922 j = 0 := fun j hj => by rw [eS2948]; exact w2939 j hj 
  have w3039 : ∀ j, j < 2 → sI S2948 q1052 j = 0 := fun j hj => by rw [eS2948]; exact w2940 j hj 
  have w3040 : ∀ j, j < 2 → sI S2948 q1191 j = 0 := fun j hj => by rw [eS2948]; exact w2941 j hj 
  have w3041 : ∀ j, j < 2 → sI S2948 q1339 j = 0 := fun j hj => by rw [eS2948]; exact w2942 j hj 
  have w3042 : ∀ j, j < 2 → sI S2948 q1496 j = 0 := fun j hj => by rw [eS2948]; exact w2943 j hj 
  have w3043 : ∀ j, j < 2 → sI S2948 q1662 j = 0 := fun j hj => by rw [eS2948]; exact w2944 j hj 
  have w3044 : ∀ j, j < 2 → sI S2948 q1837 j = 0 := fun j hj => by rw [eS2948]; exact w2945 j hj 
  have r3045 : sR S2948 h 41 = some q2827 := by rw [eS2948, rR, if_pos rfl, if_pos rfl]
  clear k2831 k2833 k2835 k2837 k2839 k2841 k2843 k2845 k2847 k2849 k2851 k2853 k2855 k2857 k2859 k2861 k2863 k2865 k2867 k2869 k2871 k2946 r2873 r2874 r2875 r2876 r2877 r2878 r2879 r2880 r2881 r2882 r2883 r2884 r2885 r2886 r2887 r2888 r2889 r2890 r2891 r2892 n2893 n2894 n2895 n2896 n2897 n2898 n2899 n2900 n2901 n2902 n2903 n2904 n2905 n2906 n2907 n2908 n2909 n2910 n2911 n2912 n2947 w2913 w2914 w2915 w2916 w2917 w2918 w2919 w2920 w2921 w2922 w2923 w2924 w2925 w2926 w2927 w2928 w2929 w2930 w2931 w2932 w2933 w2934 w2935 w2936 w2937 w2938 w2939 w2940 w2941 w2942 w2943 w2944 w2945
  refine lv_aload_n hx hb dX9_init_193 rfl (lv_at hl 0 rfl) ?_
  refine lv_sipush (v := 200) hx hb dX9_init_194 (by decide) ?_
  refine pg_newa (atype := .int) (ty := .int) (kd := 11) (t0 := 1) (N' := 200) hx hb (hts (.arrayClass .int) (by decide +kernel)) rfl rfl (Or.inl rfl) (by decide) hK hW hS hA (fun _ => rfl) (by decide) (by decide) (Nat.le_of_ble_eq_true rfl) (Nat.le_of_ble_eq_true rfl) (Nat.le_of_ble_eq_true rfl) dX9_init_197 (fun q3046 H hq3046 hW hS => ?_)
  have f3048 : Ap h q3046 := ap_k k2949 hq3046 (by decide)
  have o3049 : 16 ≤ sK S q3046 := hX.old hq3046 (ni_c (ap_s f3048) ni_0)
  have hX : Kx [h] S (stN S2948 q3046 11 200) := hX.N hq3046
  obtain ⟨S3047, eS3047⟩ : ∃ T : St, T = stN S2948 q3046 11 200 := ⟨_, rfl⟩
  rw [← eS3047] at hW hX
  obtain ⟨k3050, d3051⟩ := fk_N (a := h) eS3047 k2949 (by decide) hq3046
  obtain ⟨k3052, d3053⟩ := fk_N (a := q1) eS3047 k2950 (by decide) hq3046
  obtain ⟨k3054, d3055⟩ := fk_N (a := q64) eS3047 k2951 (by decide) hq3046
  obtain ⟨k3056, d3057⟩ := fk_N (a := q134) eS3047 k2952 (by decide) hq3046
  obtain ⟨k3058, d3059⟩ := fk_N (a := q211) eS3047 k2953 (by decide) hq3046
  obtain ⟨k3060, d3061⟩ := fk_N (a := q295) eS3047 k2954 (by decide) hq3046
  obtain ⟨k3062, d3063⟩ := fk_N (a := q386) eS3047 k2955 (by decide) hq3046
  obtain ⟨k3064, d3065⟩ := fk_N (a := q484) eS3047 k2956 (by decide) hq3046
  obtain ⟨k3066, d3067⟩ := fk_N (a := q689) eS3047 k2957 (by decide) hq3046
  obtain ⟨k3068, d3069⟩ := fk_N (a := q801) eS3047 k2958 (by decide) hq3046
  obtain ⟨k3070, d3071⟩ := fk_N (a := q922) eS3047 k2959 (by decide) hq3046
  obtain ⟨k3072, d3073⟩ := fk_N (a := q1052) eS3047 k2960 (by decide) hq3046
  obtain ⟨k3074, d3075⟩ := fk_N (a := q1191) eS3047 k2961 (by decide) hq3046
  obtain ⟨k3076, d3077⟩ := fk_N (a := q1339) eS3047 k2962 (by decide) hq3046
  obtain ⟨k3078, d3079⟩ := fk_N (a := q1496) eS3047 k2963 (by decide) hq3046
  obtain ⟨k3080, d3081⟩ := fk_N (a := q1662) eS3047 k2964 (by decide) hq3046
  obtain ⟨k3082, d3083⟩ := fk_N (a := q1837) eS3047 k2965 (by decide) hq3046
  obtain ⟨k3084, d3085⟩ := fk_N (a := q2021) eS3047 k2966 (by decide) hq3046
  obtain ⟨k3086, d3087⟩ := fk_N (a := q2212) eS3047 k2967 (by decide) hq3046
  obtain ⟨k3088, d3089⟩ := fk_N (a := q2410) eS3047 k2968 (by decide) hq3046
  obtain ⟨k3090, d3091⟩ := fk_N (a := q2615) eS3047 k2969 (by decide) hq3046
  obtain ⟨k3092, d3093⟩ := fk_N (a := q2827) eS3047 k2970 (by decide) hq3046
  have r3094 : sR S3047 h 0 = some q1 := by rw [eS3047, rN, if_neg d3051]; exact r2971
  have r3095 : sR S3047 h 5 = some q64 := by rw [eS3047, rN, if_neg d3051]; exact r2972
  have r3096 : sR S3047 h 6 = some q134 := by rw [eS3047, rN, if_neg d3051]; exact r2973
  have r3097 : sR S3047 h 7 = some q211 := by rw [eS3047, rN, if_neg d3051]; exact r2974
  have r3098 : sR S3047 h 8 = some q295 := by rw [eS3047, rN, if_neg d3051]; exact r2975
  have r3099 : sR S3047 h 9 = some q386 := by rw [eS3047, rN, if_neg d3051]; exact r2976
  have r3100 : sR S3047 h 10 = some q484 := by rw [eS3047, rN, if_neg d3051]; exact r2977
  have r3101 : sR S3047 h 26 = some q689 := by rw [eS3047, rN, if_neg d3051]; exact r2978
  have r3102 : sR S3047 h 27 = some q801 := by rw [eS3047, rN, if_neg d3051]; exact r2979
  have r3103 : sR S3047 h 28 = some q922 := by rw [eS3047, rN, if_neg d3051]; exact r2980
  have r3104 : sR S3047 h 29 = some q1052 := by rw [eS3047, rN, if_neg d3051]; exact r2981
  have r3105 : sR S3047 h 30 = some q1191 := by rw [eS3047, rN, if_neg d3051]; exact r2982
  have r3106 : sR S3047 h 31 = some q1339 := by rw [eS3047, rN, if_neg d3051]; exact r2983
  have r3107 : sR S3047 h 32 = some q1496 := by rw [eS3047, rN, if_neg d3051]; exact r2984
  have r3108 : sR S3047 h 33 = some q1662 := by rw [eS3047, rN, if_neg d3051]; exact r2985
  have r3109 : sR S3047 h 34 = some q1837 := by rw [eS3047, rN, if_neg d3051]; exact r2986
  have r3110 : sR S3047 h 37 = some q2021 := by rw [eS3047, rN, if_neg d3051]; exact r2987
  have r3111 : sR S3047 h 38 = some q2212 := by rw [eS3047, rN, if_neg d3051]; exact r2988
  have r3112 : sR S3047 h 39 = some q2410 := by rw [eS3047, rN, if_neg d3051]; exact r2989
  have r3113 : sR S3047 h 40 = some q2615 := by rw [eS3047, rN, if_neg d3051]; exact r2990
  have r3114 : sR S3047 h 41 = some q2827 := by rw [eS3047, rN, if_neg d3051]; exact r3045
  have n3115 : sL S3047 q1 = 80 := by rw [eS3047, lNw, if_neg d3053]; exact n2991
  have n3116 : sL S3047 q64 = 6 := by rw [eS3047, lNw, if_neg d3055]; exact n2992
  have n3117 : sL S3047 q134 = 6 := by rw [eS3047, lNw, if_neg d3057]; exact n2993
  have n3118 : sL S3047 q211 = 6 := by rw [eS3047, lNw, if_neg d3059]; exact n2994
  have n3119 : sL S3047 q295 = 6 := by rw [eS3047, lNw, if_neg d3061]; exact n2995
  have n3120 : sL S3047 q386 = 6 := by rw [eS3047, lNw, if_neg d3063]; exact n2996
  have n3121 : sL S3047 q484 = 6 := by rw [eS3047, lNw, if_neg d3065]; exact n2997
  have n3122 : sL S3047 q689 = 24 := by rw [eS3047, lNw, if_neg d3067]; exact n2998
  have n3123 : sL S3047 q801 = 2 := by rw [eS3047, lNw, if_neg d3069]; exact n2999
  have n3124 : sL S3047 q922 = 2 := by rw [eS3047, lNw, if_neg d3071]; exact n3000
  have n3125 : sL S3047 q1052 = 2 := by rw [eS3047, lNw, if_neg d3073]; exact n3001
  have n3126 : sL S3047 q1191 = 2 := by rw [eS3047, lNw, if_neg d3075]; exact n3002
  have n3127 : sL S3047 q1339 = 2 := by rw [eS3047, lNw, if_neg d3077]; exact n3003
  have n3128 : sL S3047 q1496 = 2 := by rw [eS3047, lNw, if_neg d3079]; exact n3004
  have n3129 : sL S3047 q1662 = 2 := by rw [eS3047, lNw, if_neg d3081]; exact n3005
  have n3130 : sL S3047 q1837 = 2 := by rw [eS3047, lNw, if_neg d3083]; exact n3006
  have n3131 : sL S3047 q2021 = 200 := by rw [eS3047, lNw, if_neg d3085]; exact n3007
  have n3132 : sL S3047 q2212 = 200 := by rw [eS3047, lNw, if_neg d3087]; exact n3008
  have n3133 : sL S3047 q2410 = 200 := by rw [eS3047, lNw, if_neg d3089]; exact n3009
  have n3134 : sL S3047 q2615 = 200 := by rw [eS3047, lNw, if_neg d3091]; exact n3010
  have n3135 : sL S3047 q2827 = 200 := by rw [eS3047, lNw, if_neg d3093]; exact n3011
  have w3136 : sI S3047 h 1 = 0 := by rw [eS3047, iN, if_neg d3051]; exact w3012
  have w3137 : sI S3047 h 2 = 0 := by rw [eS3047, iN, if_neg d3051]; exact w3013
  have w3138 : sI S3047 h 3 = 0 := by rw [eS3047, iN, if_neg d3051]; exact w3014
  have w3139 : sI S3047 h 4 = 0 := by rw [eS3047, iN, if_neg d3051]; exact w3015
  have w3140 : sI S3047 h 11 = 0 := by rw [eS3047, iN, if_neg d3051]; exact w3016
  have w3141 : sI S3047 h 12 = 0 := by rw [eS3047, iN, if_neg d3051]; exact w3017
  have w3142 : sI S3047 h 13 = 0 := by rw [eS3047, iN, if_neg d3051]; exact w3018
  have w3143 : sI S3047 h 14 = 0 := by rw [eS3047, iN, if_neg d3051]; exact w3019
  have w3144 : sI S3047 h 15 = 0 := by rw [eS3047, iN, if_neg d3051]; exact w3020
  have w3145 : sI S3047 h 16 = 0 := by rw [eS3047, iN, if_neg d3051]; exact w3021
  have w3146 : sI S3047 h 17 = 0 := by rw [eS3047, iN, if_neg d3051]; exact w3022
  have w3147 : sI S3047 h 18 = 0 := by rw [eS3047, iN, if_neg d3051]; exact w3023
  have w3148 : sI S3047 h 20 = 0 := by rw [eS3047, iN, if_neg d3051]; exact w3024
  have w3149 : sI S3047 h 21 = 0 := by rw [eS3047, iN, if_neg d3051]; exact w3025
  have w3150 : sI S3047 h 22 = 0 := by rw [eS3047, iN, if_neg d3051]; exact w3026
  have w3151 : sI S3047 h 35 = 0 := by rw [eS3047, iN, if_neg d3051]; exact w3027
  have w3152 : sI S3047 h 36 = 0 := by rw [eS3047, iN, if_neg d3051]; exact w3028
  have w3153 : sI S3047 h 53 = 0 := by rw [eS3047, iN, if_neg d3051]; exact w3029
  have w3154 : sI S3047 h 54 = 0 := by rw [eS3047, iN, if_neg d3051]; exact w3030
  have w3155 : sI S3047 h 55 = 0 := by rw [eS3047, iN, if_neg d3051]; exact w3031
  have w3156 : sI S3047 h 60 = 0 := by rw [eS3047, iN, if_neg d3051]; exact w3032
  have w3157 : sI S3047 h 19 = 200 := by rw [eS3047, iN, if_neg d3051]; exact w3033
  have w3158 : sI S3047 h 23 = 400 := by rw [eS3047, iN, if_neg d3051]; exact w3034
  have w3159 : sI S3047 h 24 = 3 := by rw [eS3047, iN, if_neg d3051]; exact w3035
  have w3160 : sI S3047 h 25 = 2 := by rw [eS3047, iN, if_neg d3051]; exact w3036
  have w3161 : ∀ j, j < 2 → sI S3047 q801 j = 0 := fun j hj => by rw [eS3047, iN, if_neg d3069]; exact w3037 j hj 
  have w3162 : ∀ j, j < 2 → sI S3047 q922 j = 0 := fun j hj => by rw [eS3047, iN, if_neg d3071]; exact w3038 j hj 
  have w3163 : ∀ j, j < 2 → sI S3047 q1052 j = 0 := fun j hj => by rw [eS3047, iN, if_neg d3073]; exact w3039 j hj 
  have w3164 : ∀ j, j < 2 → sI S3047 q1191 j = 0 := fun j hj => by rw [eS3047, iN, if_neg d3075]; exact w3040 j hj 
  have w3165 : ∀ j, j < 2 → sI S3047 q1339 j = 0 := fun j hj => by rw [eS3047, iN, if_neg d3077]; exact w3041 j hj 
  have w3166 : ∀ j, j < 2 → sI S3047 q1496 j = 0 := fun j hj => by rw [eS3047, iN, if_neg d3079]; exact w3042 j hj 
  have w3167 : ∀ j, j < 2 → sI S3047 q1662 j = 0 := fun j hj => by rw [eS3047, iN, if_neg d3081]; exact w3043 j hj 
  have w3168 : ∀ j, j < 2 → sI S3047 q1837 j = 0 := fun j hj => by rw [eS3047, iN, if_neg d3083]; exact w3044 j hj 
  have k3169 : sK S3047 q3046 = 11 := by rw [eS3047, kN, if_pos rfl]
  have n3170 : sL S3047 q3046 = 200 := by rw [eS3047, lNw, if_pos rfl]
  clear k2949 k2950 k2951 k2952 k2953 k2954 k2955 k2956 k2957 k2958 k2959 k2960 k2961 k2962 k2963 k2964 k2965 k2966 k2967 k2968 k2969 k2970 r2971 r2972 r2973 r2974 r2975 r2976 r2977 r2978 r2979 r2980 r2981 r2982 r2983 r2984 r2985 r2986 r2987 r2988 r2989 r2990 r3045 n2991 n2992 n2993 n2994 n2995 n2996 n2997 n2998 n2999 n3000 n3001 n3002 n3003 n3004 n3005 n3006 n3007 n3008 n3009 n3010 n3011 w3012 w3013 w3014 w3015 w3016 w3017 w3018 w3019 w3020 w3021 w3022 w3023 w3024 w3025 w3026 w3027 w3028 w3029 w3030 w3031 w3032 w3033 w3034 w3035 w3036 w3037 w3038 w3039 w3040 w3041 w3042 w3043 w3044
  refine pg_pr (ci := 9) (C := RX9) (T := TX9) (N := 63) hx hb hts wi9 tyX9 tyX9_ok nmX9 hown hK hW hS k3050 (by decide) rfl 42 (by decide) (hts (.fieldLink RX9 88 "IceHallModel" "why" "[I") (by decide +kernel)) (fun _ h9 => h9) rfl hnm rfl rfl rfl rfl dX9_init_199 (fun H locs hW hS => ?_)
  have hX : Kx [h] S (stR S3047 h 42 (some q3046)) := hX.Rh List.mem_cons_self
  obtain ⟨S3171, eS3171⟩ : ∃ T : St, T = stR S3047 h 42 (some q3046) := ⟨_, rfl⟩
  rw [← eS3171] at hW hX
  have k3172 : sK S3171 h = 9 := by rw [eS3171]; exact k3050
  have k3173 : sK S3171 q1 = 10 := by rw [eS3171]; exact k3052
  have k3174 : sK S3171 q64 = 11 := by rw [eS3171]; exact k3054
  have k3175 : sK S3171 q134 = 11 := by rw [eS3171]; exact k3056
  have k3176 : sK S3171 q211 = 11 := by rw [eS3171]; exact k3058
  have k3177 : sK S3171 q295 = 11 := by rw [eS3171]; exact k3060
  have k3178 : sK S3171 q386 = 11 := by rw [eS3171]; exact k3062
  have k3179 : sK S3171 q484 = 11 := by rw [eS3171]; exact k3064
  have k3180 : sK S3171 q689 = 11 := by rw [eS3171]; exact k3066
  have k3181 : sK S3171 q801 = 11 := by rw [eS3171]; exact k3068
  have k3182 : sK S3171 q922 = 11 := by rw [eS3171]; exact k3070
  have k3183 : sK S3171 q1052 = 11 := by rw [eS3171]; exact k3072
  have k3184 : sK S3171 q1191 = 11 := by rw [eS3171]; exact k3074
  have k3185 : sK S3171 q1339 = 11 := by rw [eS3171]; exact k3076
  have k3186 : sK S3171 q1496 = 11 := by rw [eS3171]; exact k3078
  have k3187 : sK S3171 q1662 = 11 := by rw [eS3171]; exact k3080
  have k3188 : sK S3171 q1837 = 13 := by rw [eS3171]; exact k3082
  have k3189 : sK S3171 q2021 = 11 := by rw [eS3171]; exact k3084
  have k3190 : sK S3171 q2212 = 11 := by rw [eS3171]; exact k3086
  have k3191 : sK S3171 q2410 = 11 := by rw [eS3171]; exact k3088
  have k3192 : sK S3171 q2615 = 11 := by rw [eS3171]; exact k3090
  have k3193 : sK S3171 q2827 = 11 := by rw [eS3171]; exact k3092
  have k3194 : sK S3171 q3046 = 11 := by rw [eS3171]; exact k3169
  have r3195 : sR S3171 h 0 = some q1 := by rw [eS3171, rR, if_pos rfl, if_neg (by decide)]; exact r3094
  have r3196 : sR S3171 h 5 = some q64 := by rw [eS3171, rR, if_pos rfl, if_neg (by decide)]; exact r3095
  have r3197 : sR S3171 h 6 = some q134 := by rw [eS3171, rR, if_pos rfl, if_neg (by decide)]; exact r3096
  have r3198 : sR S3171 h 7 = some q211 := by rw [eS3171, rR, if_pos rfl, if_neg (by decide)]; exact r3097
  have r3199 : sR S3171 h 8 = some q295 := by rw [eS3171, rR, if_pos rfl, if_neg (by decide)]; exact r3098
  have r3200 : sR S3171 h 9 = some q386 := by rw [eS3171, rR, if_pos rfl, if_neg (by decide)]; exact r3099
  have r3201 : sR S3171 h 10 = some q484 := by rw [eS3171, rR, if_pos rfl, if_neg (by decide)]; exact r3100
  have r3202 : sR S3171 h 26 = some q689 := by rw [eS3171, rR, if_pos rfl, if_neg (by decide)]; exact r3101
  have r3203 : sR S3171 h 27 = some q801 := by rw [eS3171, rR, if_pos rfl, if_neg (by decide)]; exact r3102
  have r3204 : sR S3171 h 28 = some q922 := by rw [eS3171, rR, if_pos rfl, if_neg (by decide)]; exact r3103
  have r3205 : sR S3171 h 29 = some q1052 := by rw [eS3171, rR, if_pos rfl, if_neg (by decide)]; exact r3104
  have r3206 : sR S3171 h 30 = some q1191 := by rw [eS3171, rR, if_pos rfl, if_neg (by decide)]; exact r3105
  have r3207 : sR S3171 h 31 = some q1339 := by rw [eS3171, rR, if_pos rfl, if_neg (by decide)]; exact r3106
  have r3208 : sR S3171 h 32 = some q1496 := by rw [eS3171, rR, if_pos rfl, if_neg (by decide)]; exact r3107
  have r3209 : sR S3171 h 33 = some q1662 := by rw [eS3171, rR, if_pos rfl, if_neg (by decide)]; exact r3108
  have r3210 : sR S3171 h 34 = some q1837 := by rw [eS3171, rR, if_pos rfl, if_neg (by decide)]; exact r3109
  have r3211 : sR S3171 h 37 = some q2021 := by rw [eS3171, rR, if_pos rfl, if_neg (by decide)]; exact r3110
  have r3212 : sR S3171 h 38 = some q2212 := by rw [eS3171, rR, if_pos rfl, if_neg (by decide)]; exact r3111
  have r3213 : sR S3171 h 39 = some q2410 := by rw [eS3171, rR, if_pos rfl, if_neg (by decide)]; exact r3112
  have r3214 : sR S3171 h 40 = some q2615 := by rw [eS3171, rR, if_pos rfl, if_neg (by decide)]; exact r3113
  have r3215 : sR S3171 h 41 = some q2827 := by rw [eS3171, rR, if_pos rfl, if_neg (by decide)]; exact r3114
  have n3216 : sL S3171 q1 = 80 := by rw [eS3171]; exact n3115
  have n3217 : sL S3171 q64 = 6 := by rw [eS3171]; exact n3116
  have n3218 : sL S3171 q134 = 6 := by rw [eS3171]; exact n3117
  have n3219 : sL S3171 q211 = 6 := by rw [eS3171]; exact n3118
  have n3220 : sL S3171 q295 = 6 := by rw [eS3171]; exact n3119
  have n3221 : sL S3171 q386 = 6 := by rw [eS3171]; exact n3120
  have n3222 : sL S3171 q484 = 6 := by rw [eS3171]; exact n3121
  have n3223 : sL S3171 q689 = 24 := by rw [eS3171]; exact n3122
  have n3224 : sL S3171 q801 = 2 := by rw [eS3171]; exact n3123
  have n3225 : sL S3171 q922 = 2 := by rw [eS3171]; exact n3124
  have n3226 : sL S3171 q1052 = 2 := by rw [eS3171]; exact n3125
  have n3227 : sL S3171 q1191 = 2 := by rw [eS3171]; exact n3126
  have n3228 : sL S3171 q1339 = 2 := by rw [eS3171]; exact n3127
  have n3229 : sL S3171 q1496 = 2 := by rw [eS3171]; exact n3128
  have n3230 : sL S3171 q1662 = 2 := by rw [eS3171]; exact n3129
  have n3231 : sL S3171 q1837 = 2 := by rw [eS3171]; exact n3130
  have n3232 : sL S3171 q2021 = 200 := by rw [eS3171]; exact n3131
  have n3233 : sL S3171 q2212 = 200 := by rw [eS3171]; exact n3132
  have n3234 : sL S3171 q2410 = 200 := by rw [eS3171]; exact n3133
  have n3235 : sL S3171 q2615 = 200 := by rw [eS3171]; exact n3134
  have n3236 : sL S3171 q2827 = 200 := by rw [eS3171]; exact n3135
  have n3237 : sL S3171 q3046 = 200 := by rw [eS3171]; exact n3170
  have w3238 : sI S3171 h 1 = 0 := by rw [eS3171]; exact w3136
  have w3239 : sI S3171 h 2 = 0 := by rw [eS3171]; exact w3137
  have w3240 : sI S3171 h 3 = 0 := by rw [eS3171]; exact w3138
  have w3241 : sI S3171 h 4 = 0 := by rw [eS3171]; exact w3139
  have w3242 : sI S3171 h 11 = 0 := by rw [eS3171]; exact w3140
  have w3243 : sI S3171 h 12 = 0 := by rw [eS3171]; exact w3141
  have w3244 : sI S3171 h 13 = 0 := by rw [eS3171]; exact w3142
  have w3245 : sI S3171 h 14 = 0 := by rw [eS3171]; exact w3143
  have w3246 : sI S3171 h 15 = 0 := by rw [eS3171]; exact w3144
  have w3247 : sI S3171 h 16 = 0 := by rw [eS3171]; exact w3145
  have w3248 : sI S3171 h 17 = 0 := by rw [eS3171]; exact w3146
  have w3249 : sI S3171 h 18 = 0 := by rw [eS3171]; exact w3147
  have w3250 : sI S3171 h 20 = 0 := by rw [eS3171]; exact w3148
  have w3251 : sI S3171 h 21 = 0 := by rw [eS3171]; exact w3149
  have w3252 : sI S3171 h 22 = 0 := by rw [eS3171]; exact w3150
  have w3253 : sI S3171 h 35 = 0 := by rw [eS3171]; exact w3151
  have w3254 : sI S3171 h 36 = 0 := by rw [eS3171]; exact w3152
  have w3255 : sI S3171 h 53 = 0 := by rw [eS3171]; exact w3153
  have w3256 : sI S3171 h 54 = 0 := by rw [eS3171]; exact w3154
  have w3257 : sI S3171 h 55 = 0 := by rw [eS3171]; exact w3155
  have w3258 : sI S3171 h 60 = 0 := by rw [eS3171]; exact w3156
  have w3259 : sI S3171 h 19 = 200 := by rw [eS3171]; exact w3157
  have w3260 : sI S3171 h 23 = 400 := by rw [eS3171]; exact w3158
  have w3261 : sI S3171 h 24 = 3 := by rw [eS3171]; exact w3159
  have w3262 : sI S3171 h 25 = 2 := by rw [eS3171]; exact w3160
  have w3263 : ∀ j, j < 2 → sI S3171 q801 j = 0 := fun j hj => by rw [eS3171]; exact w3161 j hj 
  have w3264 : ∀ j, j < 2 → sI S3171 q922 j = 0 := fun j hj => by rw [eS3171]; exact w3162 j hj 
  have w3265 : ∀ j, j < 2 → sI S3171 q1052 j = 0 := fun j hj => by rw [eS3171]; exact w3163 j hj 
  have w3266 : ∀ j, j < 2 → sI S3171 q1191 j = 0 := fun j hj => by rw [eS3171]; exact w3164 j hj 
  have w3267 : ∀ j, j < 2 → sI S3171 q1339 j = 0 := fun j hj => by rw [eS3171]; exact w3165 j hj 
  have w3268 : ∀ j, j < 2 → sI S3171 q1496 j = 0 := fun j hj => by rw [eS3171]; exact w3166 j hj 
  have w3269 : ∀ j, j < 2 → sI S3171 q1662 j = 0 := fun j hj => by rw [eS3171]; exact w3167 j hj 
  have w3270 : ∀ j, j < 2 → sI S3171 q1837 j = 0 := fun j hj => by rw [eS3171]; exact w3168 j hj 
  have r3271 : sR S3171 h 42 = some q3046 := by rw [eS3171, rR, if_pos rfl, if_pos rfl]
  clear k3050 k3052 k3054 k3056 k3058 k3060 k3062 k3064 k3066 k3068 k3070 k3072 k3074 k3076 k3078 k3080 k3082 k3084 k3086 k3088 k3090 k3092 k3169 r3094 r3095 r3096 r3097 r3098 r3099 r3100 r3101 r3102 r3103 r3104 r3105 r3106 r3107 r3108 r3109 r3110 r3111 r3112 r3113 r3114 n3115 n3116 n3117 n3118 n3119 n3120 n3121 n3122 n3123 n3124 n3125 n3126 n3127 n3128 n3129 n3130 n3131 n3132 n3133 n3134 n3135 n3170 w3136 w3137 w3138 w3139 w3140 w3141 w3142 w3143 w3144 w3145 w3146 w3147 w3148 w3149 w3150 w3151 w3152 w3153 w3154 w3155 w3156 w3157 w3158 w3159 w3160 w3161 w3162 w3163 w3164 w3165 w3166 w3167 w3168
  refine lv_aload_n hx hb dX9_init_202 rfl (lv_at hl 0 rfl) ?_
  refine lv_sipush (v := 200) hx hb dX9_init_203 (by decide) ?_
  refine pg_newa (atype := .int) (ty := .int) (kd := 11) (t0 := 1) (N' := 200) hx hb (hts (.arrayClass .int) (by decide +kernel)) rfl rfl (Or.inl rfl) (by decide) hK hW hS hA (fun _ => rfl) (by decide) (by decide) (Nat.le_of_ble_eq_true rfl) (Nat.le_of_ble_eq_true rfl) (Nat.le_of_ble_eq_true rfl) dX9_init_206 (fun q3272 H hq3272 hW hS => ?_)
  have f3274 : Ap h q3272 := ap_k k3172 hq3272 (by decide)
  have o3275 : 16 ≤ sK S q3272 := hX.old hq3272 (ni_c (ap_s f3274) ni_0)
  have hX : Kx [h] S (stN S3171 q3272 11 200) := hX.N hq3272
  obtain ⟨S3273, eS3273⟩ : ∃ T : St, T = stN S3171 q3272 11 200 := ⟨_, rfl⟩
  rw [← eS3273] at hW hX
  obtain ⟨k3276, d3277⟩ := fk_N (a := h) eS3273 k3172 (by decide) hq3272
  obtain ⟨k3278, d3279⟩ := fk_N (a := q1) eS3273 k3173 (by decide) hq3272
  obtain ⟨k3280, d3281⟩ := fk_N (a := q64) eS3273 k3174 (by decide) hq3272
  obtain ⟨k3282, d3283⟩ := fk_N (a := q134) eS3273 k3175 (by decide) hq3272
  obtain ⟨k3284, d3285⟩ := fk_N (a := q211) eS3273 k3176 (by decide) hq3272
  obtain ⟨k3286, d3287⟩ := fk_N (a := q295) eS3273 k3177 (by decide) hq3272
  obtain ⟨k3288, d3289⟩ := fk_N (a := q386) eS3273 k3178 (by decide) hq3272
  obtain ⟨k3290, d3291⟩ := fk_N (a := q484) eS3273 k3179 (by decide) hq3272
  obtain ⟨k3292, d3293⟩ := fk_N (a := q689) eS3273 k3180 (by decide) hq3272
  obtain ⟨k3294, d3295⟩ := fk_N (a := q801) eS3273 k3181 (by decide) hq3272
  obtain ⟨k3296, d3297⟩ := fk_N (a := q922) eS3273 k3182 (by decide) hq3272
  obtain ⟨k3298, d3299⟩ := fk_N (a := q1052) eS3273 k3183 (by decide) hq3272
  obtain ⟨k3300, d3301⟩ := fk_N (a := q1191) eS3273 k3184 (by decide) hq3272
  obtain ⟨k3302, d3303⟩ := fk_N (a := q1339) eS3273 k3185 (by decide) hq3272
  obtain ⟨k3304, d3305⟩ := fk_N (a := q1496) eS3273 k3186 (by decide) hq3272
  obtain ⟨k3306, d3307⟩ := fk_N (a := q1662) eS3273 k3187 (by decide) hq3272
  obtain ⟨k3308, d3309⟩ := fk_N (a := q1837) eS3273 k3188 (by decide) hq3272
  obtain ⟨k3310, d3311⟩ := fk_N (a := q2021) eS3273 k3189 (by decide) hq3272
  obtain ⟨k3312, d3313⟩ := fk_N (a := q2212) eS3273 k3190 (by decide) hq3272
  obtain ⟨k3314, d3315⟩ := fk_N (a := q2410) eS3273 k3191 (by decide) hq3272
  obtain ⟨k3316, d3317⟩ := fk_N (a := q2615) eS3273 k3192 (by decide) hq3272
  obtain ⟨k3318, d3319⟩ := fk_N (a := q2827) eS3273 k3193 (by decide) hq3272
  obtain ⟨k3320, d3321⟩ := fk_N (a := q3046) eS3273 k3194 (by decide) hq3272
  have r3322 : sR S3273 h 0 = some q1 := by rw [eS3273, rN, if_neg d3277]; exact r3195
  have r3323 : sR S3273 h 5 = some q64 := by rw [eS3273, rN, if_neg d3277]; exact r3196
  have r3324 : sR S3273 h 6 = some q134 := by rw [eS3273, rN, if_neg d3277]; exact r3197
  have r3325 : sR S3273 h 7 = some q211 := by rw [eS3273, rN, if_neg d3277]; exact r3198
  have r3326 : sR S3273 h 8 = some q295 := by rw [eS3273, rN, if_neg d3277]; exact r3199
  have r3327 : sR S3273 h 9 = some q386 := by rw [eS3273, rN, if_neg d3277]; exact r3200
  have r3328 : sR S3273 h 10 = some q484 := by rw [eS3273, rN, if_neg d3277]; exact r3201
  have r3329 : sR S3273 h 26 = some q689 := by rw [eS3273, rN, if_neg d3277]; exact r3202
  have r3330 : sR S3273 h 27 = some q801 := by rw [eS3273, rN, if_neg d3277]; exact r3203
  have r3331 : sR S3273 h 28 = some q922 := by rw [eS3273, rN, if_neg d3277]; exact r3204
  have r3332 : sR S3273 h 29 = some q1052 := by rw [eS3273, rN, if_neg d3277]; exact r3205
  have r3333 : sR S3273 h 30 = some q1191 := by rw [eS3273, rN, if_neg d3277]; exact r3206
  have r3334 : sR S3273 h 31 = some q1339 := by rw [eS3273, rN, if_neg d3277]; exact r3207
  have r3335 : sR S3273 h 32 = some q1496 := by rw [eS3273, rN, if_neg d3277]; exact r3208
  have r3336 : sR S3273 h 33 = some q1662 := by rw [eS3273, rN, if_neg d3277]; exact r3209
  have r3337 : sR S3273 h 34 = some q1837 := by rw [eS3273, rN, if_neg d3277]; exact r3210
  have r3338 : sR S3273 h 37 = some q2021 := by rw [eS3273, rN, if_neg d3277]; exact r3211
  have r3339 : sR S3273 h 38 = some q2212 := by rw [eS3273, rN, if_neg d3277]; exact r3212
  have r3340 : sR S3273 h 39 = some q2410 := by rw [eS3273, rN, if_neg d3277]; exact r3213
  have r3341 : sR S3273 h 40 = some q2615 := by rw [eS3273, rN, if_neg d3277]; exact r3214
  have r3342 : sR S3273 h 41 = some q2827 := by rw [eS3273, rN, if_neg d3277]; exact r3215
  have r3343 : sR S3273 h 42 = some q3046 := by rw [eS3273, rN, if_neg d3277]; exact r3271
  have n3344 : sL S3273 q1 = 80 := by rw [eS3273, lNw, if_neg d3279]; exact n3216
  have n3345 : sL S3273 q64 = 6 := by rw [eS3273, lNw, if_neg d3281]; exact n3217
  have n3346 : sL S3273 q134 = 6 := by rw [eS3273, lNw, if_neg d3283]; exact n3218
  have n3347 : sL S3273 q211 = 6 := by rw [eS3273, lNw, if_neg d3285]; exact n3219
  have n3348 : sL S3273 q295 = 6 := by rw [eS3273, lNw, if_neg d3287]; exact n3220
  have n3349 : sL S3273 q386 = 6 := by rw [eS3273, lNw, if_neg d3289]; exact n3221
  have n3350 : sL S3273 q484 = 6 := by rw [eS3273, lNw, if_neg d3291]; exact n3222
  have n3351 : sL S3273 q689 = 24 := by rw [eS3273, lNw, if_neg d3293]; exact n3223
  have n3352 : sL S3273 q801 = 2 := by rw [eS3273, lNw, if_neg d3295]; exact n3224
  have n3353 : sL S3273 q922 = 2 := by rw [eS3273, lNw, if_neg d3297]; exact n3225
  have n3354 : sL S3273 q1052 = 2 := by rw [eS3273, lNw, if_neg d3299]; exact n3226
  have n3355 : sL S3273 q1191 = 2 := by rw [eS3273, lNw, if_neg d3301]; exact n3227
  have n3356 : sL S3273 q1339 = 2 := by rw [eS3273, lNw, if_neg d3303]; exact n3228
  have n3357 : sL S3273 q1496 = 2 := by rw [eS3273, lNw, if_neg d3305]; exact n3229
  have n3358 : sL S3273 q1662 = 2 := by rw [eS3273, lNw, if_neg d3307]; exact n3230
  have n3359 : sL S3273 q1837 = 2 := by rw [eS3273, lNw, if_neg d3309]; exact n3231
  have n3360 : sL S3273 q2021 = 200 := by rw [eS3273, lNw, if_neg d3311]; exact n3232
  have n3361 : sL S3273 q2212 = 200 := by rw [eS3273, lNw, if_neg d3313]; exact n3233
  have n3362 : sL S3273 q2410 = 200 := by rw [eS3273, lNw, if_neg d3315]; exact n3234
  have n3363 : sL S3273 q2615 = 200 := by rw [eS3273, lNw, if_neg d3317]; exact n3235
  have n3364 : sL S3273 q2827 = 200 := by rw [eS3273, lNw, if_neg d3319]; exact n3236
  have n3365 : sL S3273 q3046 = 200 := by rw [eS3273, lNw, if_neg d3321]; exact n3237
  have w3366 : sI S3273 h 1 = 0 := by rw [eS3273, iN, if_neg d3277]; exact w3238
  have w3367 : sI S3273 h 2 = 0 := by rw [eS3273, iN, if_neg d3277]; exact w3239
  have w3368 : sI S3273 h 3 = 0 := by rw [eS3273, iN, if_neg d3277]; exact w3240
  have w3369 : sI S3273 h 4 = 0 := by rw [eS3273, iN, if_neg d3277]; exact w3241
  have w3370 : sI S3273 h 11 = 0 := by rw [eS3273, iN, if_neg d3277]; exact w3242
  have w3371 : sI S3273 h 12 = 0 := by rw [eS3273, iN, if_neg d3277]; exact w3243
  have w3372 : sI S3273 h 13 = 0 := by rw [eS3273, iN, if_neg d3277]; exact w3244
  have w3373 : sI S3273 h 14 = 0 := by rw [eS3273, iN, if_neg d3277]; exact w3245
  have w3374 : sI S3273 h 15 = 0 := by rw [eS3273, iN, if_neg d3277]; exact w3246
  have w3375 : sI S3273 h 16 = 0 := by rw [eS3273, iN, if_neg d3277]; exact w3247
  have w3376 : sI S3273 h 17 = 0 := by rw [eS3273, iN, if_neg d3277]; exact w3248
  have w3377 : sI S3273 h 18 = 0 := by rw [eS3273, iN, if_neg d3277]; exact w3249
  have w3378 : sI S3273 h 20 = 0 := by rw [eS3273, iN, if_neg d3277]; exact w3250
  have w3379 : sI S3273 h 21 = 0 := by rw [eS3273, iN, if_neg d3277]; exact w3251
  have w3380 : sI S3273 h 22 = 0 := by rw [eS3273, iN, if_neg d3277]; exact w3252
  have w3381 : sI S3273 h 35 = 0 := by rw [eS3273, iN, if_neg d3277]; exact w3253
  have w3382 : sI S3273 h 36 = 0 := by rw [eS3273, iN, if_neg d3277]; exact w3254
  have w3383 : sI S3273 h 53 = 0 := by rw [eS3273, iN, if_neg d3277]; exact w3255
  have w3384 : sI S3273 h 54 = 0 := by rw [eS3273, iN, if_neg d3277]; exact w3256
  have w3385 : sI S3273 h 55 = 0 := by rw [eS3273, iN, if_neg d3277]; exact w3257
  have w3386 : sI S3273 h 60 = 0 := by rw [eS3273, iN, if_neg d3277]; exact w3258
  have w3387 : sI S3273 h 19 = 200 := by rw [eS3273, iN, if_neg d3277]; exact w3259
  have w3388 : sI S3273 h 23 = 400 := by rw [eS3273, iN, if_neg d3277]; exact w3260
  have w3389 : sI S3273 h 24 = 3 := by rw [eS3273, iN, if_neg d3277]; exact w3261
  have w3390 : sI S3273 h 25 = 2 := by rw [eS3273, iN, if_neg d3277]; exact w3262
  have w3391 : ∀ j, j < 2 → sI S3273 q801 j = 0 := fun j hj => by rw [eS3273, iN, if_neg d3295]; exact w3263 j hj 
  have w3392 : ∀ j, j < 2 → sI S3273 q922 j = 0 := fun j hj => by rw [eS3273, iN, if_neg d3297]; exact w3264 j hj 
  have w3393 : ∀ j, j < 2 → sI S3273 q1052 j = 0 := fun j hj => by rw [eS3273, iN, if_neg d3299]; exact w3265 j hj 
  have w3394 : ∀ j, j < 2 → sI S3273 q1191 j = 0 := fun j hj => by rw [eS3273, iN, if_neg d3301]; exact w3266 j hj 
  have w3395 : ∀ j, j < 2 → sI S3273 q1339 j = 0 := fun j hj => by rw [eS3273, iN, if_neg d3303]; exact w3267 j hj 
  have w3396 : ∀ j, j < 2 → sI S3273 q1496 j = 0 := fun j hj => by rw [eS3273, iN, if_neg d3305]; exact w3268 j hj 
  have w3397 : ∀ j, j < 2 → sI S3273 q1662 j = 0 := fun j hj => by rw [eS3273, iN, if_neg d3307]; exact w3269 j hj 
  have w3398 : ∀ j, j < 2 → sI S3273 q1837 j = 0 := fun j hj => by rw [eS3273, iN, if_neg d3309]; exact w3270 j hj 
  have k3399 : sK S3273 q3272 = 11 := by rw [eS3273, kN, if_pos rfl]
  have n3400 : sL S3273 q3272 = 200 := by rw [eS3273, lNw, if_pos rfl]
  clear k3172 k3173 k3174 k3175 k3176 k3177 k3178 k3179 k3180 k3181 k3182 k3183 k3184 k3185 k3186 k3187 k3188 k3189 k3190 k3191 k3192 k3193 k3194 r3195 r3196 r3197 r3198 r3199 r3200 r3201 r3202 r3203 r3204 r3205 r3206 r3207 r3208 r3209 r3210 r3211 r3212 r3213 r3214 r3215 r3271 n3216 n3217 n3218 n3219 n3220 n3221 n3222 n3223 n3224 n3225 n3226 n3227 n3228 n3229 n3230 n3231 n3232 n3233 n3234 n3235 n3236 n3237 w3238 w3239 w3240 w3241 w3242 w3243 w3244 w3245 w3246 w3247 w3248 w3249 w3250 w3251 w3252 w3253 w3254 w3255 w3256 w3257 w3258 w3259 w3260 w3261 w3262 w3263 w3264 w3265 w3266 w3267 w3268 w3269 w3270
  refine pg_pr (ci := 9) (C := RX9) (T := TX9) (N := 63) hx hb hts wi9 tyX9 tyX9_ok nmX9 hown hK hW hS k3276 (by decide) rfl 43 (by decide) (hts (.fieldLink RX9 91 "IceHallModel" "feeOf" "[I") (by decide +kernel)) (fun _ h9 => h9) rfl hnm rfl rfl rfl rfl dX9_init_208 (fun H locs hW hS => ?_)
  have hX : Kx [h] S (stR S3273 h 43 (some q3272)) := hX.Rh List.mem_cons_self
  obtain ⟨S3401, eS3401⟩ : ∃ T : St, T = stR S3273 h 43 (some q3272) := ⟨_, rfl⟩
  rw [← eS3401] at hW hX
  have k3402 : sK S3401 h = 9 := by rw [eS3401]; exact k3276
  have k3403 : sK S3401 q1 = 10 := by rw [eS3401]; exact k3278
  have k3404 : sK S3401 q64 = 11 := by rw [eS3401]; exact k3280
  have k3405 : sK S3401 q134 = 11 := by rw [eS3401]; exact k3282
  have k3406 : sK S3401 q211 = 11 := by rw [eS3401]; exact k3284
  have k3407 : sK S3401 q295 = 11 := by rw [eS3401]; exact k3286
  have k3408 : sK S3401 q386 = 11 := by rw [eS3401]; exact k3288
  have k3409 : sK S3401 q484 = 11 := by rw [eS3401]; exact k3290
  have k3410 : sK S3401 q689 = 11 := by rw [eS3401]; exact k3292
  have k3411 : sK S3401 q801 = 11 := by rw [eS3401]; exact k3294
  have k3412 : sK S3401 q922 = 11 := by rw [eS3401]; exact k3296
  have k3413 : sK S3401 q1052 = 11 := by rw [eS3401]; exact k3298
  have k3414 : sK S3401 q1191 = 11 := by rw [eS3401]; exact k3300
  have k3415 : sK S3401 q1339 = 11 := by rw [eS3401]; exact k3302
  have k3416 : sK S3401 q1496 = 11 := by rw [eS3401]; exact k3304
  have k3417 : sK S3401 q1662 = 11 := by rw [eS3401]; exact k3306
  have k3418 : sK S3401 q1837 = 13 := by rw [eS3401]; exact k3308
  have k3419 : sK S3401 q2021 = 11 := by rw [eS3401]; exact k3310
  have k3420 : sK S3401 q2212 = 11 := by rw [eS3401]; exact k3312
  have k3421 : sK S3401 q2410 = 11 := by rw [eS3401]; exact k3314
  have k3422 : sK S3401 q2615 = 11 := by rw [eS3401]; exact k3316
  have k3423 : sK S3401 q2827 = 11 := by rw [eS3401]; exact k3318
  have k3424 : sK S3401 q3046 = 11 := by rw [eS3401]; exact k3320
  have k3425 : sK S3401 q3272 = 11 := by rw [eS3401]; exact k3399
  have r3426 : sR S3401 h 0 = some q1 := by rw [eS3401, rR, if_pos rfl, if_neg (by decide)]; exact r3322
  have r3427 : sR S3401 h 5 = some q64 := by rw [eS3401, rR, if_pos rfl, if_neg (by decide)]; exact r3323
  have r3428 : sR S3401 h 6 = some q134 := by rw [eS3401, rR, if_pos rfl, if_neg (by decide)]; exact r3324
  have r3429 : sR S3401 h 7 = some q211 := by rw [eS3401, rR, if_pos rfl, if_neg (by decide)]; exact r3325
  have r3430 : sR S3401 h 8 = some q295 := by rw [eS3401, rR, if_pos rfl, if_neg (by decide)]; exact r3326
  have r3431 : sR S3401 h 9 = some q386 := by rw [eS3401, rR, if_pos rfl, if_neg (by decide)]; exact r3327
  have r3432 : sR S3401 h 10 = some q484 := by rw [eS3401, rR, if_pos rfl, if_neg (by decide)]; exact r3328
  have r3433 : sR S3401 h 26 = some q689 := by rw [eS3401, rR, if_pos rfl, if_neg (by decide)]; exact r3329
  have r3434 : sR S3401 h 27 = some q801 := by rw [eS3401, rR, if_pos rfl, if_neg (by decide)]; exact r3330
  have r3435 : sR S3401 h 28 = some q922 := by rw [eS3401, rR, if_pos rfl, if_neg (by decide)]; exact r3331
  have r3436 : sR S3401 h 29 = some q1052 := by rw [eS3401, rR, if_pos rfl, if_neg (by decide)]; exact r3332
  have r3437 : sR S3401 h 30 = some q1191 := by rw [eS3401, rR, if_pos rfl, if_neg (by decide)]; exact r3333
  have r3438 : sR S3401 h 31 = some q1339 := by rw [eS3401, rR, if_pos rfl, if_neg (by decide)]; exact r3334
  have r3439 : sR S3401 h 32 = some q1496 := by rw [eS3401, rR, if_pos rfl, if_neg (by decide)]; exact r3335
  have r3440 : sR S3401 h 33 = some q1662 := by rw [eS3401, rR, if_pos rfl, if_neg (by decide)]; exact r3336
  have r3441 : sR S3401 h 34 = some q1837 := by rw [eS3401, rR, if_pos rfl, if_neg (by decide)]; exact r3337
  have r3442 : sR S3401 h 37 = some q2021 := by rw [eS3401, rR, if_pos rfl, if_neg (by decide)]; exact r3338
  have r3443 : sR S3401 h 38 = some q2212 := by rw [eS3401, rR, if_pos rfl, if_neg (by decide)]; exact r3339
  have r3444 : sR S3401 h 39 = some q2410 := by rw [eS3401, rR, if_pos rfl, if_neg (by decide)]; exact r3340
  have r3445 : sR S3401 h 40 = some q2615 := by rw [eS3401, rR, if_pos rfl, if_neg (by decide)]; exact r3341
  have r3446 : sR S3401 h 41 = some q2827 := by rw [eS3401, rR, if_pos rfl, if_neg (by decide)]; exact r3342
  have r3447 : sR S3401 h 42 = some q3046 := by rw [eS3401, rR, if_pos rfl, if_neg (by decide)]; exact r3343
  have n3448 : sL S3401 q1 = 80 := by rw [eS3401]; exact n3344
  have n3449 : sL S3401 q64 = 6 := by rw [eS3401]; exact n3345
  have n3450 : sL S3401 q134 = 6 := by rw [eS3401]; exact n3346
  have n3451 : sL S3401 q211 = 6 := by rw [eS3401]; exact n3347
  have n3452 : sL S3401 q295 = 6 := by rw [eS3401]; exact n3348
  have n3453 : sL S3401 q386 = 6 := by rw [eS3401]; exact n3349
  have n3454 : sL S3401 q484 = 6 := by rw [eS3401]; exact n3350
  have n3455 : sL S3401 q689 = 24 := by rw [eS3401]; exact n3351
  have n3456 : sL S3401 q801 = 2 := by rw [eS3401]; exact n3352
  have n3457 : sL S3401 q922 = 2 := by rw [eS3401]; exact n3353
  have n3458 : sL S3401 q1052 = 2 := by rw [eS3401]; exact n3354
  have n3459 : sL S3401 q1191 = 2 := by rw [eS3401]; exact n3355
  have n3460 : sL S3401 q1339 = 2 := by rw [eS3401]; exact n3356
  have n3461 : sL S3401 q1496 = 2 := by rw [eS3401]; exact n3357
  have n3462 : sL S3401 q1662 = 2 := by rw [eS3401]; exact n3358
  have n3463 : sL S3401 q1837 = 2 := by rw [eS3401]; exact n3359
  have n3464 : sL S3401 q2021 = 200 := by rw [eS3401]; exact n3360
  have n3465 : sL S3401 q2212 = 200 := by rw [eS3401]; exact n3361
  have n3466 : sL S3401 q2410 = 200 := by rw [eS3401]; exact n3362
  have n3467 : sL S3401 q2615 = 200 := by rw [eS3401]; exact n3363
  have n3468 : sL S3401 q2827 = 200 := by rw [eS3401]; exact n3364
  have n3469 : sL S3401 q3046 = 200 := by rw [eS3401]; exact n3365
  have n3470 : sL S3401 q3272 = 200 := by rw [eS3401]; exact n3400
  have w3471 : sI S3401 h 1 = 0 := by rw [eS3401]; exact w3366
  have w3472 : sI S3401 h 2 = 0 := by rw [eS3401]; exact w3367
  have w3473 : sI S3401 h 3 = 0 := by rw [eS3401]; exact w3368
  have w3474 : sI S3401 h 4 = 0 := by rw [eS3401]; exact w3369
  have w3475 : sI S3401 h 11 = 0 := by rw [eS3401]; exact w3370
  have w3476 : sI S3401 h 12 = 0 := by rw [eS3401]; exact w3371
  have w3477 : sI S3401 h 13 = 0 := by rw [eS3401]; exact w3372
  have w3478 : sI S3401 h 14 = 0 := by rw [eS3401]; exact w3373
  have w3479 : sI S3401 h 15 = 0 := by rw [eS3401]; exact w3374
  have w3480 : sI S3401 h 16 = 0 := by rw [eS3401]; exact w3375
  have w3481 : sI S3401 h 17 = 0 := by rw [eS3401]; exact w3376
  have w3482 : sI S3401 h 18 = 0 := by rw [eS3401]; exact w3377
  have w3483 : sI S3401 h 20 = 0 := by rw [eS3401]; exact w3378
  have w3484 : sI S3401 h 21 = 0 := by rw [eS3401]; exact w3379
  have w3485 : sI S3401 h 22 = 0 := by rw [eS3401]; exact w3380
  have w3486 : sI S3401 h 35 = 0 := by rw [eS3401]; exact w3381
  have w3487 : sI S3401 h 36 = 0 := by rw [eS3401]; exact w3382
  have w3488 : sI S3401 h 53 = 0 := by rw [eS3401]; exact w3383
  have w3489 : sI S3401 h 54 = 0 := by rw [eS3401]; exact w3384
  have w3490 : sI S3401 h 55 = 0 := by rw [eS3401]; exact w3385
  have w3491 : sI S3401 h 60 = 0 := by rw [eS3401]; exact w3386
  have w3492 : sI S3401 h 19 = 200 := by rw [eS3401]; exact w3387
  have w3493 : sI S3401 h 23 = 400 := by rw [eS3401]; exact w3388
  have w3494 : sI S3401 h 24 = 3 := by rw [eS3401]; exact w3389
  have w3495 : sI S3401 h 25 = 2 := by rw [eS3401]; exact w3390
  have w3496 : ∀ j, j < 2 → sI S3401 q801 j = 0 := fun j hj => by rw [eS3401]; exact w3391 j hj 
  have w3497 : ∀ j, j < 2 → sI S3401 q922 j = 0 := fun j hj => by rw [eS3401]; exact w3392 j hj 
  have w3498 : ∀ j, j < 2 → sI S3401 q1052 j = 0 := fun j hj => by rw [eS3401]; exact w3393 j hj 
  have w3499 : ∀ j, j < 2 → sI S3401 q1191 j = 0 := fun j hj => by rw [eS3401]; exact w3394 j hj 
  have w3500 : ∀ j, j < 2 → sI S3401 q1339 j = 0 := fun j hj => by rw [eS3401]; exact w3395 j hj 
  have w3501 : ∀ j, j < 2 → sI S3401 q1496 j = 0 := fun j hj => by rw [eS3401]; exact w3396 j hj 
  have w3502 : ∀ j, j < 2 → sI S3401 q1662 j = 0 := fun j hj => by rw [eS3401]; exact w3397 j hj 
  have w3503 : ∀ j, j < 2 → sI S3401 q1837 j = 0 := fun j hj => by rw [eS3401]; exact w3398 j hj 
  have r3504 : sR S3401 h 43 = some q3272 := by rw [eS3401, rR, if_pos rfl, if_pos rfl]
  clear k3276 k3278 k3280 k3282 k3284 k3286 k3288 k3290 k3292 k3294 k3296 k3298 k3300 k3302 k3304 k3306 k3308 k3310 k3312 k3314 k3316 k3318 k3320 k3399 r3322 r3323 r3324 r3325 r3326 r3327 r3328 r3329 r3330 r3331 r3332 r3333 r3334 r3335 r3336 r3337 r3338 r3339 r3340 r3341 r3342 r3343 n3344 n3345 n3346 n3347 n3348 n3349 n3350 n3351 n3352 n3353 n3354 n3355 n3356 n3357 n3358 n3359 n3360 n3361 n3362 n3363 n3364 n3365 n3400 w3366 w3367 w3368 w3369 w3370 w3371 w3372 w3373 w3374 w3375 w3376 w3377 w3378 w3379 w3380 w3381 w3382 w3383 w3384 w3385 w3386 w3387 w3388 w3389 w3390 w3391 w3392 w3393 w3394 w3395 w3396 w3397 w3398
  refine lv_aload_n hx hb dX9_init_211 rfl (lv_at hl 0 rfl) ?_
  refine lv_sipush (v := 200) hx hb dX9_init_212 (by decide) ?_
  refine pg_newa (atype := .int) (ty := .int) (kd := 11) (t0 := 1) (N' := 200) hx hb (hts (.arrayClass .int) (by decide +kernel)) rfl rfl (Or.inl rfl) (by decide) hK hW hS hA (fun _ => rfl) (by decide) (by decide) (Nat.le_of_ble_eq_true rfl) (Nat.le_of_ble_eq_true rfl) (Nat.le_of_ble_eq_true rfl) dX9_init_215 (fun q3505 H hq3505 hW hS => ?_)
  have f3507 : Ap h q3505 := ap_k k3402 hq3505 (by decide)
  have o3508 : 16 ≤ sK S q3505 := hX.old hq3505 (ni_c (ap_s f3507) ni_0)
  have hX : Kx [h] S (stN S3401 q3505 11 200) := hX.N hq3505
  obtain ⟨S3506, eS3506⟩ : ∃ T : St, T = stN S3401 q3505 11 200 := ⟨_, rfl⟩
  rw [← eS3506] at hW hX
  obtain ⟨k3509, d3510⟩ := fk_N (a := h) eS3506 k3402 (by decide) hq3505
  obtain ⟨k3511, d3512⟩ := fk_N (a := q1) eS3506 k3403 (by decide) hq3505
  obtain ⟨k3513, d3514⟩ := fk_N (a := q64) eS3506 k3404 (by decide) hq3505
  obtain ⟨k3515, d3516⟩ := fk_N (a := q134) eS3506 k3405 (by decide) hq3505
  obtain ⟨k3517, d3518⟩ := fk_N (a := q211) eS3506 k3406 (by decide) hq3505
  obtain ⟨k3519, d3520⟩ := fk_N (a := q295) eS3506 k3407 (by decide) hq3505
  obtain ⟨k3521, d3522⟩ := fk_N (a := q386) eS3506 k3408 (by decide) hq3505
  obtain ⟨k3523, d3524⟩ := fk_N (a := q484) eS3506 k3409 (by decide) hq3505
  obtain ⟨k3525, d3526⟩ := fk_N (a := q689) eS3506 k3410 (by decide) hq3505
  obtain ⟨k3527, d3528⟩ := fk_N (a := q801) eS3506 k3411 (by decide) hq3505
  obtain ⟨k3529, d3530⟩ := fk_N (a := q922) eS3506 k3412 (by decide) hq3505
  obtain ⟨k3531, d3532⟩ := fk_N (a := q1052) eS3506 k3413 (by decide) hq3505
  obtain ⟨k3533, d3534⟩ := fk_N (a := q1191) eS3506 k3414 (by decide) hq3505
  obtain ⟨k3535, d3536⟩ := fk_N (a := q1339) eS3506 k3415 (by decide) hq3505
  obtain ⟨k3537, d3538⟩ := fk_N (a := q1496) eS3506 k3416 (by decide) hq3505
  obtain ⟨k3539, d3540⟩ := fk_N (a := q1662) eS3506 k3417 (by decide) hq3505
  obtain ⟨k3541, d3542⟩ := fk_N (a := q1837) eS3506 k3418 (by decide) hq3505
  obtain ⟨k3543, d3544⟩ := fk_N (a := q2021) eS3506 k3419 (by decide) hq3505
  obtain ⟨k3545, d3546⟩ := fk_N (a := q2212) eS3506 k3420 (by decide) hq3505
  obtain ⟨k3547, d3548⟩ := fk_N (a := q2410) eS3506 k3421 (by decide) hq3505
  obtain ⟨k3549, d3550⟩ := fk_N (a := q2615) eS3506 k3422 (by decide) hq3505
  obtain ⟨k3551, d3552⟩ := fk_N (a := q2827) eS3506 k3423 (by decide) hq3505
  obtain ⟨k3553, d3554⟩ := fk_N (a := q3046) eS3506 k3424 (by decide) hq3505
  obtain ⟨k3555, d3556⟩ := fk_N (a := q3272) eS3506 k3425 (by decide) hq3505
  have r3557 : sR S3506 h 0 = some q1 := by rw [eS3506, rN, if_neg d3510]; exact r3426
  have r3558 : sR S3506 h 5 = some q64 := by rw [eS3506, rN, if_neg d3510]; exact r3427
  have r3559 : sR S3506 h 6 = some q134 := by rw [eS3506, rN, if_neg d3510]; exact r3428
  have r3560 : sR S3506 h 7 = some q211 := by rw [eS3506, rN, if_neg d3510]; exact r3429
  have r3561 : sR S3506 h 8 = some q295 := by rw [eS3506, rN, if_neg d3510]; exact r3430
  have r3562 : sR S3506 h 9 = some q386 := by rw [eS3506, rN, if_neg d3510]; exact r3431
  have r3563 : sR S3506 h 10 = some q484 := by rw [eS3506, rN, if_neg d3510]; exact r3432
  have r3564 : sR S3506 h 26 = some q689 := by rw [eS3506, rN, if_neg d3510]; exact r3433
  have r3565 : sR S3506 h 27 = some q801 := by rw [eS3506, rN, if_neg d3510]; exact r3434
  have r3566 : sR S3506 h 28 = some q922 := by rw [eS3506, rN, if_neg d3510]; exact r3435
  have r3567 : sR S3506 h 29 = some q1052 := by rw [eS3506, rN, if_neg d3510]; exact r3436
  have r3568 : sR S3506 h 30 = some q1191 := by rw [eS3506, rN, if_neg d3510]; exact r3437
  have r3569 : sR S3506 h 31 = some q1339 := by rw [eS3506, rN, if_neg d3510]; exact r3438
  have r3570 : sR S3506 h 32 = some q1496 := by rw [eS3506, rN, if_neg d3510]; exact r3439
  have r3571 : sR S3506 h 33 = some q1662 := by rw [eS3506, rN, if_neg d3510]; exact r3440
  have r3572 : sR S3506 h 34 = some q1837 := by rw [eS3506, rN, if_neg d3510]; exact r3441
  have r3573 : sR S3506 h 37 = some q2021 := by rw [eS3506, rN, if_neg d3510]; exact r3442
  have r3574 : sR S3506 h 38 = some q2212 := by rw [eS3506, rN, if_neg d3510]; exact r3443
  have r3575 : sR S3506 h 39 = some q2410 := by rw [eS3506, rN, if_neg d3510]; exact r3444
  have r3576 : sR S3506 h 40 = some q2615 := by rw [eS3506, rN, if_neg d3510]; exact r3445
  have r3577 : sR S3506 h 41 = some q2827 := by rw [eS3506, rN, if_neg d3510]; exact r3446
  have r3578 : sR S3506 h 42 = some q3046 := by rw [eS3506, rN, if_neg d3510]; exact r3447
  have r3579 : sR S3506 h 43 = some q3272 := by rw [eS3506, rN, if_neg d3510]; exact r3504
  have n3580 : sL S3506 q1 = 80 := by rw [eS3506, lNw, if_neg d3512]; exact n3448
  have n3581 : sL S3506 q64 = 6 := by rw [eS3506, lNw, if_neg d3514]; exact n3449
  have n3582 : sL S3506 q134 = 6 := by rw [eS3506, lNw, if_neg d3516]; exact n3450
  have n3583 : sL S3506 q211 = 6 := by rw [eS3506, lNw, if_neg d3518]; exact n3451
  have n3584 : sL S3506 q295 = 6 := by rw [eS3506, lNw, if_neg d3520]; exact n3452
  have n3585 : sL S3506 q386 = 6 := by rw [eS3506, lNw, if_neg d3522]; exact n3453
  have n3586 : sL S3506 q484 = 6 := by rw [eS3506, lNw, if_neg d3524]; exact n3454
  have n3587 : sL S3506 q689 = 24 := by rw [eS3506, lNw, if_neg d3526]; exact n3455
  have n3588 : sL S3506 q801 = 2 := by rw [eS3506, lNw, if_neg d3528]; exact n3456
  have n3589 : sL S3506 q922 = 2 := by rw [eS3506, lNw, if_neg d3530]; exact n3457
  have n3590 : sL S3506 q1052 = 2 := by rw [eS3506, lNw, if_neg d3532]; exact n3458
  have n3591 : sL S3506 q1191 = 2 := by rw [eS3506, lNw, if_neg d3534]; exact n3459
  have n3592 : sL S3506 q1339 = 2 := by rw [eS3506, lNw, if_neg d3536]; exact n3460
  have n3593 : sL S3506 q1496 = 2 := by rw [eS3506, lNw, if_neg d3538]; exact n3461
  have n3594 : sL S3506 q1662 = 2 := by rw [eS3506, lNw, if_neg d3540]; exact n3462
  have n3595 : sL S3506 q1837 = 2 := by rw [eS3506, lNw, if_neg d3542]; exact n3463
  have n3596 : sL S3506 q2021 = 200 := by rw [eS3506, lNw, if_neg d3544]; exact n3464
  have n3597 : sL S3506 q2212 = 200 := by rw [eS3506, lNw, if_neg d3546]; exact n3465
  have n3598 : sL S3506 q2410 = 200 := by rw [eS3506, lNw, if_neg d3548]; exact n3466
  have n3599 : sL S3506 q2615 = 200 := by rw [eS3506, lNw, if_neg d3550]; exact n3467
  have n3600 : sL S3506 q2827 = 200 := by rw [eS3506, lNw, if_neg d3552]; exact n3468
  have n3601 : sL S3506 q3046 = 200 := by rw [eS3506, lNw, if_neg d3554]; exact n3469
  have n3602 : sL S3506 q3272 = 200 := by rw [eS3506, lNw, if_neg d3556]; exact n3470
  have w3603 : sI S3506 h 1 = 0 := by rw [eS3506, iN, if_neg d3510]; exact w3471
  have w3604 : sI S3506 h 2 = 0 := by rw [eS3506, iN, if_neg d3510]; exact w3472
  have w3605 : sI S3506 h 3 = 0 := by rw [eS3506, iN, if_neg d3510]; exact w3473
  have w3606 : sI S3506 h 4 = 0 := by rw [eS3506, iN, if_neg d3510]; exact w3474
  have w3607 : sI S3506 h 11 = 0 := by rw [eS3506, iN, if_neg d3510]; exact w3475
  have w3608 : sI S3506 h 12 = 0 := by rw [eS3506, iN, if_neg d3510]; exact w3476
  have w3609 : sI S3506 h 13 = 0 := by rw [eS3506, iN, if_neg d3510]; exact w3477
  have w3610 : sI S3506 h 14 = 0 := by rw [eS3506, iN, if_neg d3510]; exact w3478
  have w3611 : sI S3506 h 15 = 0 := by rw [eS3506, iN, if_neg d3510]; exact w3479
  have w3612 : sI S3506 h 16 = 0 := by rw [eS3506, iN, if_neg d3510]; exact w3480
  have w3613 : sI S3506 h 17 = 0 := by rw [eS3506, iN, if_neg d3510]; exact w3481
  have w3614 : sI S3506 h 18 = 0 := by rw [eS3506, iN, if_neg d3510]; exact w3482
  have w3615 : sI S3506 h 20 = 0 := by rw [eS3506, iN, if_neg d3510]; exact w3483
  have w3616 : sI S3506 h 21 = 0 := by rw [eS3506, iN, if_neg d3510]; exact w3484
  have w3617 : sI S3506 h 22 = 0 := by rw [eS3506, iN, if_neg d3510]; exact w3485
  have w3618 : sI S3506 h 35 = 0 := by rw [eS3506, iN, if_neg d3510]; exact w3486
  have w3619 : sI S3506 h 36 = 0 := by rw [eS3506, iN, if_neg d3510]; exact w3487
  have w3620 : sI S3506 h 53 = 0 := by rw [eS3506, iN, if_neg d3510]; exact w3488
  have w3621 : sI S3506 h 54 = 0 := by rw [eS3506, iN, if_neg d3510]; exact w3489
  have w3622 : sI S3506 h 55 = 0 := by rw [eS3506, iN, if_neg d3510]; exact w3490
  have w3623 : sI S3506 h 60 = 0 := by rw [eS3506, iN, if_neg d3510]; exact w3491
  have w3624 : sI S3506 h 19 = 200 := by rw [eS3506, iN, if_neg d3510]; exact w3492
  have w3625 : sI S3506 h 23 = 400 := by rw [eS3506, iN, if_neg d3510]; exact w3493
  have w3626 : sI S3506 h 24 = 3 := by rw [eS3506, iN, if_neg d3510]; exact w3494
  have w3627 : sI S3506 h 25 = 2 := by rw [eS3506, iN, if_neg d3510]; exact w3495
  have w3628 : ∀ j, j < 2 → sI S3506 q801 j = 0 := fun j hj => by rw [eS3506, iN, if_neg d3528]; exact w3496 j hj 
  have w3629 : ∀ j, j < 2 → sI S3506 q922 j = 0 := fun j hj => by rw [eS3506, iN, if_neg d3530]; exact w3497 j hj 
  have w3630 : ∀ j, j < 2 → sI S3506 q1052 j = 0 := fun j hj => by rw [eS3506, iN, if_neg d3532]; exact w3498 j hj 
  have w3631 : ∀ j, j < 2 → sI S3506 q1191 j = 0 := fun j hj => by rw [eS3506, iN, if_neg d3534]; exact w3499 j hj 
  have w3632 : ∀ j, j < 2 → sI S3506 q1339 j = 0 := fun j hj => by rw [eS3506, iN, if_neg d3536]; exact w3500 j hj 
  have w3633 : ∀ j, j < 2 → sI S3506 q1496 j = 0 := fun j hj => by rw [eS3506, iN, if_neg d3538]; exact w3501 j hj 
  have w3634 : ∀ j, j < 2 → sI S3506 q1662 j = 0 := fun j hj => by rw [eS3506, iN, if_neg d3540]; exact w3502 j hj 
  have w3635 : ∀ j, j < 2 → sI S3506 q1837 j = 0 := fun j hj => by rw [eS3506, iN, if_neg d3542]; exact w3503 j hj 
  have k3636 : sK S3506 q3505 = 11 := by rw [eS3506, kN, if_pos rfl]
  have n3637 : sL S3506 q3505 = 200 := by rw [eS3506, lNw, if_pos rfl]
  clear k3402 k3403 k3404 k3405 k3406 k3407 k3408 k3409 k3410 k3411 k3412 k3413 k3414 k3415 k3416 k3417 k3418 k3419 k3420 k3421 k3422 k3423 k3424 k3425 r3426 r3427 r3428 r3429 r3430 r3431 r3432 r3433 r3434 r3435 r3436 r3437 r3438 r3439 r3440 r3441 r3442 r3443 r3444 r3445 r3446 r3447 r3504 n3448 n3449 n3450 n3451 n3452 n3453 n3454 n3455 n3456 n3457 n3458 n3459 n3460 n3461 n3462 n3463 n3464 n3465 n3466 n3467 n3468 n3469 n3470 w3471 w3472 w3473 w3474 w3475 w3476 w3477 w3478 w3479 w3480 w3481 w3482 w3483 w3484 w3485 w3486 w3487 w3488 w3489 w3490 w3491 w3492 w3493 w3494 w3495 w3496 w3497 w3498 w3499 w3500 w3501 w3502 w3503
  refine pg_pr (ci := 9) (C := RX9) (T := TX9) (N := 63) hx hb hts wi9 tyX9 tyX9_ok nmX9 hown hK hW hS k3509 (by decide) rfl 44 (by decide) (hts (.fieldLink RX9 94 "IceHallModel" "partOf" "[I") (by decide +kernel)) (fun _ h9 => h9) rfl hnm rfl rfl rfl rfl dX9_init_217 (fun H locs hW hS => ?_)
  have hX : Kx [h] S (stR S3506 h 44 (some q3505)) := hX.Rh List.mem_cons_self
  obtain ⟨S3638, eS3638⟩ : ∃ T : St, T = stR S3506 h 44 (some q3505) := ⟨_, rfl⟩
  rw [← eS3638] at hW hX
  have k3639 : sK S3638 h = 9 := by rw [eS3638]; exact k3509
  have k3640 : sK S3638 q1 = 10 := by rw [eS3638]; exact k3511
  have k3641 : sK S3638 q64 = 11 := by rw [eS3638]; exact k3513
  have k3642 : sK S3638 q134 = 11 := by rw [eS3638]; exact k3515
  have k3643 : sK S3638 q211 = 11 := by rw [eS3638]; exact k3517
  have k3644 : sK S3638 q295 = 11 := by rw [eS3638]; exact k3519
  have k3645 : sK S3638 q386 = 11 := by rw [eS3638]; exact k3521
  have k3646 : sK S3638 q484 = 11 := by rw [eS3638]; exact k3523
  have k3647 : sK S3638 q689 = 11 := by rw [eS3638]; exact k3525
  have k3648 : sK S3638 q801 = 11 := by rw [eS3638]; exact k3527
  have k3649 : sK S3638 q922 = 11 := by rw [eS3638]; exact k3529
  have k3650 : sK S3638 q1052 = 11 := by rw [eS3638]; exact k3531
  have k3651 : sK S3638 q1191 = 11 := by rw [eS3638]; exact k3533
  have k3652 : sK S3638 q1339 = 11 := by rw [eS3638]; exact k3535
  have k3653 : sK S3638 q1496 = 11 := by rw [eS3638]; exact k3537
  have k3654 : sK S3638 q1662 = 11 := by rw [eS3638]; exact k3539
  have k3655 : sK S3638 q1837 = 13 := by rw [eS3638]; exact k3541
  have k3656 : sK S3638 q2021 = 11 := by rw [eS3638]; exact k3543
  have k3657 : sK S3638 q2212 = 11 := by rw [eS3638]; exact k3545
  have k3658 : sK S3638 q2410 = 11 := by rw [eS3638]; exact k3547
  have k3659 : sK S3638 q2615 = 11 := by rw [eS3638]; exact k3549
  have k3660 : sK S3638 q2827 = 11 := by rw [eS3638]; exact k3551
  have k3661 : sK S3638 q3046 = 11 := by rw [eS3638]; exact k3553
  have k3662 : sK S3638 q3272 = 11 := by rw [eS3638]; exact k3555
  have k3663 : sK S3638 q3505 = 11 := by rw [eS3638]; exact k3636
  have r3664 : sR S3638 h 0 = some q1 := by rw [eS3638, rR, if_pos rfl, if_neg (by decide)]; exact r3557
  have r3665 : sR S3638 h 5 = some q64 := by rw [eS3638, rR, if_pos rfl, if_neg (by decide)]; exact r3558
  have r3666 : sR S3638 h 6 = some q134 := by rw [eS3638, rR, if_pos rfl, if_neg (by decide)]; exact r3559
  have r3667 : sR S3638 h 7 = some q211 := by rw [eS3638, rR, if_pos rfl, if_neg (by decide)]; exact r3560
  have r3668 : sR S3638 h 8 = some q295 := by rw [eS3638, rR, if_pos rfl, if_neg (by decide)]; exact r3561
  have r3669 : sR S3638 h 9 = some q386 := by rw [eS3638, rR, if_pos rfl, if_neg (by decide)]; exact r3562
  have r3670 : sR S3638 h 10 = some q484 := by rw [eS3638, rR, if_pos rfl, if_neg (by decide)]; exact r3563
  have r3671 : sR S3638 h 26 = some q689 := by rw [eS3638, rR, if_pos rfl, if_neg (by decide)]; exact r3564
  have r3672 : sR S3638 h 27 = some q801 := by rw [eS3638, rR, if_pos rfl, if_neg (by decide)]; exact r3565
  have r3673 : sR S3638 h 28 = some q922 := by rw [eS3638, rR, if_pos rfl, if_neg (by decide)]; exact r3566
  have r3674 : sR S3638 h 29 = some q1052 := by rw [eS3638, rR, if_pos rfl, if_neg (by decide)]; exact r3567
  have r3675 : sR S3638 h 30 = some q1191 := by rw [eS3638, rR, if_pos rfl, if_neg (by decide)]; exact r3568
  have r3676 : sR S3638 h 31 = some q1339 := by rw [eS3638, rR, if_pos rfl, if_neg (by decide)]; exact r3569
  have r3677 : sR S3638 h 32 = some q1496 := by rw [eS3638, rR, if_pos rfl, if_neg (by decide)]; exact r3570
  have r3678 : sR S3638 h 33 = some q1662 := by rw [eS3638, rR, if_pos rfl, if_neg (by decide)]; exact r3571
  have r3679 : sR S3638 h 34 = some q1837 := by rw [eS3638, rR, if_pos rfl, if_neg (by decide)]; exact r3572
  have r3680 : sR S3638 h 37 = some q2021 := by rw [eS3638, rR, if_pos rfl, if_neg (by decide)]; exact r3573
  have r3681 : sR S3638 h 38 = some q2212 := by rw [eS3638, rR, if_pos rfl, if_neg (by decide)]; exact r3574
  have r3682 : sR S3638 h 39 = some q2410 := by rw [eS3638, rR, if_pos rfl, if_neg (by decide)]; exact r3575
  have r3683 : sR S3638 h 40 = some q2615 := by rw [eS3638, rR, if_pos rfl, if_neg (by decide)]; exact r3576
  have r3684 : sR S3638 h 41 = some q2827 := by rw [eS3638, rR, if_pos rfl, if_neg (by decide)]; exact r3577
  have r3685 : sR S3638 h 42 = some q3046 := by rw [eS3638, rR, if_pos rfl, if_neg (by decide)]; exact r3578
  have r3686 : sR S3638 h 43 = some q3272 := by rw [eS3638, rR, if_pos rfl, if_neg (by decide)]; exact r3579
  have n3687 : sL S3638 q1 = 80 := by rw [eS3638]; exact n3580
  have n3688 : sL S3638 q64 = 6 := by rw [eS3638]; exact n3581
  have n3689 : sL S3638 q134 = 6 := by rw [eS3638]; exact n3582
  have n3690 : sL S3638 q211 = 6 := by rw [eS3638]; exact n3583
  have n3691 : sL S3638 q295 = 6 := by rw [eS3638]; exact n3584
  have n3692 : sL S3638 q386 = 6 := by rw [eS3638]; exact n3585
  have n3693 : sL S3638 q484 = 6 := by rw [eS3638]; exact n3586
  have n3694 : sL S3638 q689 = 24 := by rw [eS3638]; exact n3587
  have n3695 : sL S3638 q801 = 2 := by rw [eS3638]; exact n3588
  have n3696 : sL S3638 q922 = 2 := by rw [eS3638]; exact n3589
  have n3697 : sL S3638 q1052 = 2 := by rw [eS3638]; exact n3590
  have n3698 : sL S3638 q1191 = 2 := by rw [eS3638]; exact n3591
  have n3699 : sL S3638 q1339 = 2 := by rw [eS3638]; exact n3592
  have n3700 : sL S3638 q1496 = 2 := by rw [eS3638]; exact n3593
  have n3701 : sL S3638 q1662 = 2 := by rw [eS3638]; exact n3594
  have n3702 : sL S3638 q1837 = 2 := by rw [eS3638]; exact n3595
  have n3703 : sL S3638 q2021 = 200 := by rw [eS3638]; exact n3596
  have n3704 : sL S3638 q2212 = 200 := by rw [eS3638]; exact n3597
  have n3705 : sL S3638 q2410 = 200 := by rw [eS3638]; exact n3598
  have n3706 : sL S3638 q2615 = 200 := by rw [eS3638]; exact n3599
  have n3707 : sL S3638 q2827 = 200 := by rw [eS3638]; exact n3600
  have n3708 : sL S3638 q3046 = 200 := by rw [eS3638]; exact n3601
  have n3709 : sL S3638 q3272 = 200 := by rw [eS3638]; exact n3602
  have n3710 : sL S3638 q3505 = 200 := by rw [eS3638]; exact n3637
  have w3711 : sI S3638 h 1 = 0 := by rw [eS3638]; exact w3603
  have w3712 : sI S3638 h 2 = 0 := by rw [eS3638]; exact w3604
  have w3713 : sI S3638 h 3 = 0 := by rw [eS3638]; exact w3605
  have w3714 : sI S3638 h 4 = 0 := by rw [eS3638]; exact w3606
  have w3715 : sI S3638 h 11 = 0 := by rw [eS3638]; exact w3607
  have w3716 : sI S3638 h 12 = 0 := by rw [eS3638]; exact w3608
  have w3717 : sI S3638 h 13 = 0 := by rw [eS3638]; exact w3609
  have w3718 : sI S3638 h 14 = 0 := by rw [eS3638]; exact w3610
  have w3719 : sI S3638 h 15 = 0 := by rw [eS3638]; exact w3611
  have w3720 : sI S3638 h 16 = 0 := by rw [eS3638]; exact w3612
  have w3721 : sI S3638 h 17 = 0 := by rw [eS3638]; exact w3613
  have w3722 : sI S3638 h 18 = 0 := by rw [eS3638]; exact w3614
  have w3723 : sI S3638 h 20 = 0 := by rw [eS3638]; exact w3615
  have w3724 : sI S3638 h 21 = 0 := by rw [eS3638]; exact w3616
  have w3725 : sI S3638 h 22 = 0 := by rw [eS3638]; exact w3617
  have w3726 : sI S3638 h 35 = 0 := by rw [eS3638]; exact w3618
  have w3727 : sI S3638 h 36 = 0 := by rw [eS3638]; exact w3619
  have w3728 : sI S3638 h 53 = 0 := by rw [eS3638]; exact w3620
  have w3729 : sI S3638 h 54 = 0 := by rw [eS3638]; exact w3621
  have w3730 : sI S3638 h 55 = 0 := by rw [eS3638]; exact w3622
  have w3731 : sI S3638 h 60 = 0 := by rw [eS3638]; exact w3623
  have w3732 : sI S3638 h 19 = 200 := by rw [eS3638]; exact w3624
  have w3733 : sI S3638 h 23 = 400 := by rw [eS3638]; exact w3625
  have w3734 : sI S3638 h 24 = 3 := by rw [eS3638]; exact w3626
  have w3735 : sI S3638 h 25 = 2 := by rw [eS3638]; exact w3627
  have w3736 : ∀ j, j < 2 → sI S3638 q801 j = 0 := fun j hj => by rw [eS3638]; exact w3628 j hj 
  have w3737 : ∀ j, j < 2 → sI S3638 q922 j = 0 := fun j hj => by rw [eS3638]; exact w3629 j hj 
  have w3738 : ∀ j, j < 2 → sI S3638 q1052 j = 0 := fun j hj => by rw [eS3638]; exact w3630 j hj 
  have w3739 : ∀ j, j < 2 → sI S3638 q1191 j = 0 := fun j hj => by rw [eS3638]; exact w3631 j hj 
  have w3740 : ∀ j, j < 2 → sI S3638 q1339 j = 0 := fun j hj => by rw [eS3638]; exact w3632 j hj 
  have w3741 : ∀ j, j < 2 → sI S3638 q1496 j = 0 := fun j hj => by rw [eS3638]; exact w3633 j hj 
  have w3742 : ∀ j, j < 2 → sI S3638 q1662 j = 0 := fun j hj => by rw [eS3638]; exact w3634 j hj 
  have w3743 : ∀ j, j < 2 → sI S3638 q1837 j = 0 := fun j hj => by rw [eS3638]; exact w3635 j hj 
  have r3744 : sR S3638 h 44 = some q3505 := by rw [eS3638, rR, if_pos rfl, if_pos rfl]
  clear k3509 k3511 k3513 k3515 k3517 k3519 k3521 k3523 k3525 k3527 k3529 k3531 k3533 k3535 k3537 k3539 k3541 k3543 k3545 k3547 k3549 k3551 k3553 k3555 k3636 r3557 r3558 r3559 r3560 r3561 r3562 r3563 r3564 r3565 r3566 r3567 r3568 r3569 r3570 r3571 r3572 r3573 r3574 r3575 r3576 r3577 r3578 r3579 n3580 n3581 n3582 n3583 n3584 n3585 n3586 n3587 n3588 n3589 n3590 n3591 n3592 n3593 n3594 n3595 n3596 n3597 n3598 n3599 n3600 n3601 n3602 n3637 w3603 w3604 w3605 w3606 w3607 w3608 w3609 w3610 w3611 w3612 w3613 w3614 w3615 w3616 w3617 w3618 w3619 w3620 w3621 w3622 w3623 w3624 w3625 w3626 w3627 w3628 w3629 w3630 w3631 w3632 w3633 w3634 w3635
  refine lv_aload_n hx hb dX9_init_220 rfl (lv_at hl 0 rfl) ?_
  refine lv_sipush (v := 200) hx hb dX9_init_221 (by decide) ?_
  refine pg_newa (atype := .int) (ty := .int) (kd := 11) (t0 := 1) (N' := 200) hx hb (hts (.arrayClass .int) (by decide +kernel)) rfl rfl (Or.inl rfl) (by decide) hK hW hS hA (fun _ => rfl) (by decide) (by decide) (Nat.le_of_ble_eq_true rfl) (Nat.le_of_ble_eq_true rfl) (Nat.le_of_ble_eq_true rfl) dX9_init_224 (fun q3745 H hq3745 hW hS => ?_)
  have f3747 : Ap h q3745 := ap_k k3639 hq3745 (by decide)
  have o3748 : 16 ≤ sK S q3745 := hX.old hq3745 (ni_c (ap_s f3747) ni_0)
  have hX : Kx [h] S (stN S3638 q3745 11 200) := hX.N hq3745
  obtain ⟨S3746, eS3746⟩ : ∃ T : St, T = stN S3638 q3745 11 200 := ⟨_, rfl⟩
  rw [← eS3746] at hW hX
  obtain ⟨k3749, d3750⟩ := fk_N (a := h) eS3746 k3639 (by decide) hq3745
  obtain ⟨k3751, d3752⟩ := fk_N (a := q1) eS3746 k3640 (by decide) hq3745
  obtain ⟨k3753, d3754⟩ := fk_N (a := q64) eS3746 k3641 (by decide) hq3745
  obtain ⟨k3755, d3756⟩ := fk_N (a := q134) eS3746 k3642 (by decide) hq3745
  obtain ⟨k3757, d3758⟩ := fk_N (a := q211) eS3746 k3643 (by decide) hq3745
  obtain ⟨k3759, d3760⟩ := fk_N (a := q295) eS3746 k3644 (by decide) hq3745
  obtain ⟨k3761, d3762⟩ := fk_N (a := q386) eS3746 k3645 (by decide) hq3745
  obtain ⟨k3763, d3764⟩ := fk_N (a := q484) eS3746 k3646 (by decide) hq3745
  obtain ⟨k3765, d3766⟩ := fk_N (a := q689) eS3746 k3647 (by decide) hq3745
  obtain ⟨k3767, d3768⟩ := fk_N (a := q801) eS3746 k3648 (by decide) hq3745
  obtain ⟨k3769, d3770⟩ := fk_N (a := q922) eS3746 k3649 (by decide) hq3745
  obtain ⟨k3771, d3772⟩ := fk_N (a := q1052) eS3746 k3650 (by decide) hq3745
  obtain ⟨k3773, d3774⟩ := fk_N (a := q1191) eS3746 k3651 (by decide) hq3745
  obtain ⟨k3775, d3776⟩ := fk_N (a := q1339) eS3746 k3652 (by decide) hq3745
  obtain ⟨k3777, d3778⟩ := fk_N (a := q1496) eS3746 k3653 (by decide) hq3745
  obtain ⟨k3779, d3780⟩ := fk_N (a := q1662) eS3746 k3654 (by decide) hq3745
  obtain ⟨k3781, d3782⟩ := fk_N (a := q1837) eS3746 k3655 (by decide) hq3745
  obtain ⟨k3783, d3784⟩ := fk_N (a := q2021) eS3746 k3656 (by decide) hq3745
  obtain ⟨k3785, d3786⟩ := fk_N (a := q2212) eS3746 k3657 (by decide) hq3745
  obtain ⟨k3787, d3788⟩ := fk_N (a := q2410) eS3746 k3658 (by decide) hq3745
  obtain ⟨k3789, d3790⟩ := fk_N (a := q2615) eS3746 k3659 (by decide) hq3745
  obtain ⟨k3791, d3792⟩ := fk_N (a := q2827) eS3746 k3660 (by decide) hq3745
  obtain ⟨k3793, d3794⟩ := fk_N (a := q3046) eS3746 k3661 (by decide) hq3745
  obtain ⟨k3795, d3796⟩ := fk_N (a := q3272) eS3746 k3662 (by decide) hq3745
  obtain ⟨k3797, d3798⟩ := fk_N (a := q3505) eS3746 k3663 (by decide) hq3745
  have r3799 : sR S3746 h 0 = some q1 := by rw [eS3746, rN, if_neg d3750]; exact r3664
  have r3800 : sR S3746 h 5 = some q64 := by rw [eS3746, rN, if_neg d3750]; exact r3665
  have r3801 : sR S3746 h 6 = some q134 := by rw [eS3746, rN, if_neg d3750]; exact r3666
  have r3802 : sR S3746 h 7 = some q211 := by rw [eS3746, rN, if_neg d3750]; exact r3667
  have r3803 : sR S3746 h 8 = some q295 := by rw [eS3746, rN, if_neg d3750]; exact r3668
  have r3804 : sR S3746 h 9 = some q386 := by rw [eS3746, rN, if_neg d3750]; exact r3669
  have r3805 : sR S3746 h 10 = some q484 := by rw [eS3746, rN, if_neg d3750]; exact r3670
  have r3806 : sR S3746 h 26 = some q689 := by rw [eS3746, rN, if_neg d3750]; exact r3671
  have r3807 : sR S3746 h 27 = some q801 := by rw [eS3746, rN, if_neg d3750]; exact r3672
  have r3808 : sR S3746 h 28 = some q922 := by rw [eS3746, rN, if_neg d3750]; exact r3673
  have r3809 : sR S3746 h 29 = some q1052 := by rw [eS3746, rN, if_neg d3750]; exact r3674
  have r3810 : sR S3746 h 30 = some q1191 := by rw [eS3746, rN, if_neg d3750]; exact r3675
  have r3811 : sR S3746 h 31 = some q1339 := by rw [eS3746, rN, if_neg d3750]; exact r3676
  have r3812 : sR S3746 h 32 = some q1496 := by rw [eS3746, rN, if_neg d3750]; exact r3677
  have r3813 : sR S3746 h 33 = some q1662 := by rw [eS3746, rN, if_neg d3750]; exact r3678
  have r3814 : sR S3746 h 34 = some q1837 := by rw [eS3746, rN, if_neg d3750]; exact r3679
  have r3815 : sR S3746 h 37 = some q2021 := by rw [eS3746, rN, if_neg d3750]; exact r3680
  have r3816 : sR S3746 h 38 = some q2212 := by rw [eS3746, rN, if_neg d3750]; exact r3681
  have r3817 : sR S3746 h 39 = some q2410 := by rw [eS3746, rN, if_neg d3750]; exact r3682
  have r3818 : sR S3746 h 40 = some q2615 := by rw [eS3746, rN, if_neg d3750]; exact r3683
  have r3819 : sR S3746 h 41 = some q2827 := by rw [eS3746, rN, if_neg d3750]; exact r3684
  have r3820 : sR S3746 h 42 = some q3046 := by rw [eS3746, rN, if_neg d3750]; exact r3685
  have r3821 : sR S3746 h 43 = some q3272 := by rw [eS3746, rN, if_neg d3750]; exact r3686
  have r3822 : sR S3746 h 44 = some q3505 := by rw [eS3746, rN, if_neg d3750]; exact r3744
  have n3823 : sL S3746 q1 = 80 := by rw [eS3746, lNw, if_neg d3752]; exact n3687
  have n3824 : sL S3746 q64 = 6 := by rw [eS3746, lNw, if_neg d3754]; exact n3688
  have n3825 : sL S3746 q134 = 6 := by rw [eS3746, lNw, if_neg d3756]; exact n3689
  have n3826 : sL S3746 q211 = 6 := by rw [eS3746, lNw, if_neg d3758]; exact n3690
  have n3827 : sL S3746 q295 = 6 := by rw [eS3746, lNw, if_neg d3760]; exact n3691
  have n3828 : sL S3746 q386 = 6 := by rw [eS3746, lNw, if_neg d3762]; exact n3692
  have n3829 : sL S3746 q484 = 6 := by rw [eS3746, lNw, if_neg d3764]; exact n3693
  have n3830 : sL S3746 q689 = 24 := by rw [eS3746, lNw, if_neg d3766]; exact n3694
  have n3831 : sL S3746 q801 = 2 := by rw [eS3746, lNw, if_neg d3768]; exact n3695
  have n3832 : sL S3746 q922 = 2 := by rw [eS3746, lNw, if_neg d3770]; exact n3696
  have n3833 : sL S3746 q1052 = 2 := by rw [eS3746, lNw, if_neg d3772]; exact n3697
  have n3834 : sL S3746 q1191 = 2 := by rw [eS3746, lNw, if_neg d3774]; exact n3698
  have n3835 : sL S3746 q1339 = 2 := by rw [eS3746, lNw, if_neg d3776]; exact n3699
  have n3836 : sL S3746 q1496 = 2 := by rw [eS3746, lNw, if_neg d3778]; exact n3700
  have n3837 : sL S3746 q1662 = 2 := by rw [eS3746, lNw, if_neg d3780]; exact n3701
  have n3838 : sL S3746 q1837 = 2 := by rw [eS3746, lNw, if_neg d3782]; exact n3702
  have n3839 : sL S3746 q2021 = 200 := by rw [eS3746, lNw, if_neg d3784]; exact n3703
  have n3840 : sL S3746 q2212 = 200 := by rw [eS3746, lNw, if_neg d3786]; exact n3704
  have n3841 : sL S3746 q2410 = 200 := by rw [eS3746, lNw, if_neg d3788]; exact n3705
  have n3842 : sL S3746 q2615 = 200 := by rw [eS3746, lNw, if_neg d3790]; exact n3706
  have n3843 : sL S3746 q2827 = 200 := by rw [eS3746, lNw, if_neg d3792]; exact n3707
  have n3844 : sL S3746 q3046 = 200 := by rw [eS3746, lNw, if_neg d3794]; exact n3708
  have n3845 : sL S3746 q3272 = 200 := by rw [eS3746, lNw, if_neg d3796]; exact n3709
  have n3846 : sL S3746 q3505 = 200 := by rw [eS3746, lNw, if_neg d3798]; exact n3710
  have w3847 : sI S3746 h 1 = 0 := by rw [eS3746, iN, if_neg d3750]; exact w3711
  have w3848 : sI S3746 h 2 = 0 := by rw [eS3746, iN, if_neg d3750]; exact w3712
  have w3849 : sI S3746 h 3 = 0 := by rw [eS3746, iN, if_neg d3750]; exact w3713
  have w3850 : sI S3746 h 4 = 0 := by rw [eS3746, iN, if_neg d3750]; exact w3714
  have w3851 : sI S3746 h 11 = 0 := by rw [eS3746, iN, if_neg d3750]; exact w3715
  have w3852 : sI S3746 h 12 = 0 := by rw [eS3746, iN, if_neg d3750]; exact w3716
  have w3853 : sI S3746 h 13 = 0 := by rw [eS3746, iN, if_neg d3750]; exact w3717
  have w3854 : sI S3746 h 14 = 0 := by rw [eS3746, iN, if_neg d3750]; exact w3718
  have w3855 : sI S3746 h 15 = 0 := by rw [eS3746, iN, if_neg d3750]; exact w3719
  have w3856 : sI S3746 h 16 = 0 := by rw [eS3746, iN, if_neg d3750]; exact w3720
  have w3857 : sI S3746 h 17 = 0 := by rw [eS3746, iN, if_neg d3750]; exact w3721
  have w3858 : sI S3746 h 18 = 0 := by rw [eS3746, iN, if_neg d3750]; exact w3722
  have w3859 : sI S3746 h 20 = 0 := by rw [eS3746, iN, if_neg d3750]; exact w3723
  have w3860 : sI S3746 h 21 = 0 := by rw [eS3746, iN, if_neg d3750]; exact w3724
  have w3861 : sI S3746 h 22 = 0 := by rw [eS3746, iN, if_neg d3750]; exact w3725
  have w3862 : sI S3746 h 35 = 0 := by rw [eS3746, iN, if_neg d3750]; exact w3726
  have w3863 : sI S3746 h 36 = 0 := by rw [eS3746, iN, if_neg d3750]; exact w3727
  have w3864 : sI S3746 h 53 = 0 := by rw [eS3746, iN, if_neg d3750]; exact w3728
  have w3865 : sI S3746 h 54 = 0 := by rw [eS3746, iN, if_neg d3750]; exact w3729
  have w3866 : sI S3746 h 55 = 0 := by rw [eS3746, iN, if_neg d3750]; exact w3730
  have w3867 : sI S3746 h 60 = 0 := by rw [eS3746, iN, if_neg d3750]; exact w3731
  have w3868 : sI S3746 h 19 = 200 := by rw [eS3746, iN, if_neg d3750]; exact w3732
  have w3869 : sI S3746 h 23 = 400 := by rw [eS3746, iN, if_neg d3750]; exact w3733
  have w3870 : sI S3746 h 24 = 3 := by rw [eS3746, iN, if_neg d3750]; exact w3734
  have w3871 : sI S3746 h 25 = 2 := by rw [eS3746, iN, if_neg d3750]; exact w3735
  have w3872 : ∀ j, j < 2 → sI S3746 q801 j = 0 := fun j hj => by rw [eS3746, iN, if_neg d3768]; exact w3736 j hj 
  have w3873 : ∀ j, j < 2 → sI S3746 q922 j = 0 := fun j hj => by rw [eS3746, iN, if_neg d3770]; exact w3737 j hj 
  have w3874 : ∀ j, j < 2 → sI S3746 q1052 j = 0 := fun j hj => by rw [eS3746, iN, if_neg d3772]; exact w3738 j hj 
  have w3875 : ∀ j, j < 2 → sI S3746 q1191 j = 0 := fun j hj => by rw [eS3746, iN, if_neg d3774]; exact w3739 j hj 
  have w3876 : ∀ j, j < 2 → sI S3746 q1339 j = 0 := fun j hj => by rw [eS3746, iN, if_neg d3776]; exact w3740 j hj 
  have w3877 : ∀ j, j < 2 → sI S3746 q1496 j = 0 := fun j hj => by rw [eS3746, iN, if_neg d3778]; exact w3741 j hj 
  have w3878 : ∀ j, j < 2 → sI S3746 q1662 j = 0 := fun j hj => by rw [eS3746, iN, if_neg d3780]; exact w3742 j hj 
  have w3879 : ∀ j, j < 2 → sI S3746 q1837 j = 0 := fun j hj => by rw [eS3746, iN, if_neg d3782]; exact w3743 j hj 
  have k3880 : sK S3746 q3745 = 11 := by rw [eS3746, kN, if_pos rfl]
  have n3881 : sL S3746 q3745 = 200 := by rw [eS3746, lNw, if_pos rfl]
  clear k3639 k3640 k3641 k3642 k3643 k3644 k3645 k3646 k3647 k3648 k3649 k3650 k3651 k3652 k3653 k3654 k3655 k3656 k3657 k3658 k3659 k3660 k3661 k3662 k3663 r3664 r3665 r3666 r3667 r3668 r3669 r3670 r3671 r3672 r3673 r3674 r3675 r3676 r3677 r3678 r3679 r3680 r3681 r3682 r3683 r3684 r3685 r3686 r3744 n3687 n3688 n3689 n3690 n3691 n3692 n3693 n3694 n3695 n3696 n3697 n3698 n3699 n3700 n3701 n3702 n3703 n3704 n3705 n3706 n3707 n3708 n3709 n3710 w3711 w3712 w3713 w3714 w3715 w3716 w3717 w3718 w3719 w3720 w3721 w3722 w3723 w3724 w3725 w3726 w3727 w3728 w3729 w3730 w3731 w3732 w3733 w3734 w3735 w3736 w3737 w3738 w3739 w3740 w3741 w3742 w3743
  refine pg_pr (ci := 9) (C := RX9) (T := TX9) (N := 63) hx hb hts wi9 tyX9 tyX9_ok nmX9 hown hK hW hS k3749 (by decide) rfl 45 (by decide) (hts (.fieldLink RX9 97 "IceHallModel" "moved" "[I") (by decide +kernel)) (fun _ h9 => h9) rfl hnm rfl rfl rfl rfl dX9_init_226 (fun H locs hW hS => ?_)
  have hX : Kx [h] S (stR S3746 h 45 (some q3745)) := hX.Rh List.mem_cons_self
  obtain ⟨S3882, eS3882⟩ : ∃ T : St, T = stR S3746 h 45 (some q3745) := ⟨_, rfl⟩
  rw [← eS3882] at hW hX
  have k3883 : sK S3882 h = 9 := by rw [eS3882]; exact k3749
  have k3884 : sK S3882 q1 = 10 := by rw [eS3882]; exact k3751
  have k3885 : sK S3882 q64 = 11 := by rw [eS3882]; exact k3753
  have k3886 : sK S3882 q134 = 11 := by rw [eS3882]; exact k3755
  have k3887 : sK S3882 q211 = 11 := by rw [eS3882]; exact k3757
  have k3888 : sK S3882 q295 = 11 := by rw [eS3882]; exact k3759
  have k3889 : sK S3882 q386 = 11 := by rw [eS3882]; exact k3761
  have k3890 : sK S3882 q484 = 11 := by rw [eS3882]; exact k3763
  have k3891 : sK S3882 q689 = 11 := by rw [eS3882]; exact k3765
  have k3892 : sK S3882 q801 = 11 := by rw [eS3882]; exact k3767
  have k3893 : sK S3882 q922 = 11 := by rw [eS3882]; exact k3769
  have k3894 : sK S3882 q1052 = 11 := by rw [eS3882]; exact k3771
  have k3895 : sK S3882 q1191 = 11 := by rw [eS3882]; exact k3773
  have k3896 : sK S3882 q1339 = 11 := by rw [eS3882]; exact k3775
  have k3897 : sK S3882 q1496 = 11 := by rw [eS3882]; exact k3777
  have k3898 : sK S3882 q1662 = 11 := by rw [eS3882]; exact k3779
  have k3899 : sK S3882 q1837 = 13 := by rw [eS3882]; exact k3781
  have k3900 : sK S3882 q2021 = 11 := by rw [eS3882]; exact k3783
  have k3901 : sK S3882 q2212 = 11 := by rw [eS3882]; exact k3785
  have k3902 : sK S3882 q2410 = 11 := by rw [eS3882]; exact k3787
  have k3903 : sK S3882 q2615 = 11 := by rw [eS3882]; exact k3789
  have k3904 : sK S3882 q2827 = 11 := by rw [eS3882]; exact k3791
  have k3905 : sK S3882 q3046 = 11 := by rw [eS3882]; exact k3793
  have k3906 : sK S3882 q3272 = 11 := by rw [eS3882]; exact k3795
  have k3907 : sK S3882 q3505 = 11 := by rw [eS3882]; exact k3797
  have k3908 : sK S3882 q3745 = 11 := by rw [eS3882]; exact k3880
  have r3909 : sR S3882 h 0 = some q1 := by rw [eS3882, rR, if_pos rfl, if_neg (by decide)]; exact r3799
  have r3910 : sR S3882 h 5 = some q64 := by rw [eS3882, rR, if_pos rfl, if_neg (by decide)]; exact r3800
  have r3911 : sR S3882 h 6 = some q134 := by rw [eS3882, rR, if_pos rfl, if_neg (by decide)]; exact r3801
  have r3912 : sR S3882 h 7 = some q211 := by rw [eS3882, rR, if_pos rfl, if_neg (by decide)]; exact r3802
  have r3913 : sR S3882 h 8 = some q295 := by rw [eS3882, rR, if_pos rfl, if_neg (by decide)]; exact r3803
  have r3914 : sR S3882 h 9 = some q386 := by rw [eS3882, rR, if_pos rfl, if_neg (by decide)]; exact r3804
  have r3915 : sR S3882 h 10 = some q484 := by rw [eS3882, rR, if_pos rfl, if_neg (by decide)]; exact r3805
  have r3916 : sR S3882 h 26 = some q689 := by rw [eS3882, rR, if_pos rfl, if_neg (by decide)]; exact r3806
  have r3917 : sR S3882 h 27 = some q801 := by rw [eS3882, rR, if_pos rfl, if_neg (by decide)]; exact r3807
  have r3918 : sR S3882 h 28 = some q922 := by rw [eS3882, rR, if_pos rfl, if_neg (by decide)]; exact r3808
  have r3919 : sR S3882 h 29 = some q1052 := by rw [eS3882, rR, if_pos rfl, if_neg (by decide)]; exact r3809
  have r3920 : sR S3882 h 30 = some q1191 := by rw [eS3882, rR, if_pos rfl, if_neg (by decide)]; exact r3810
  have r3921 : sR S3882 h 31 = some q1339 := by rw [eS3882, rR, if_pos rfl, if_neg (by decide)]; exact r3811
  have r3922 : sR S3882 h 32 = some q1496 := by rw [eS3882, rR, if_pos rfl, if_neg (by decide)]; exact r3812
  have r3923 : sR S3882 h 33 = some q1662 := by rw [eS3882, rR, if_pos rfl, if_neg (by decide)]; exact r3813
  have r3924 : sR S3882 h 34 = some q1837 := by rw [eS3882, rR, if_pos rfl, if_neg (by decide)]; exact r3814
  have r3925 : sR S3882 h 37 = some q2021 := by rw [eS3882, rR, if_pos rfl, if_neg (by decide)]; exact r3815
  have r3926 : sR S3882 h 38 = some q2212 := by rw [eS3882, rR, if_pos rfl, if_neg (by decide)]; exact r3816
  have r3927 : sR S3882 h 39 = some q2410 := by rw [eS3882, rR, if_pos rfl, if_neg (by decide)]; exact r3817
  have r3928 : sR S3882 h 40 = some q2615 := by rw [eS3882, rR, if_pos rfl, if_neg (by decide)]; exact r3818
  have r3929 : sR S3882 h 41 = some q2827 := by rw [eS3882, rR, if_pos rfl, if_neg (by decide)]; exact r3819
  have r3930 : sR S3882 h 42 = some q3046 := by rw [eS3882, rR, if_pos rfl, if_neg (by decide)]; exact r3820
  have r3931 : sR S3882 h 43 = some q3272 := by rw [eS3882, rR, if_pos rfl, if_neg (by decide)]; exact r3821
  have r3932 : sR S3882 h 44 = some q3505 := by rw [eS3882, rR, if_pos rfl, if_neg (by decide)]; exact r3822
  have n3933 : sL S3882 q1 = 80 := by rw [eS3882]; exact n3823
  have n3934 : sL S3882 q64 = 6 := by rw [eS3882]; exact n3824
  have n3935 : sL S3882 q134 = 6 := by rw [eS3882]; exact n3825
  have n3936 : sL S3882 q211 = 6 := by rw [eS3882]; exact n3826
  have n3937 : sL S3882 q295 = 6 := by rw [eS3882]; exact n3827
  have n3938 : sL S3882 q386 = 6 := by rw [eS3882]; exact n3828
  have n3939 : sL S3882 q484 = 6 := by rw [eS3882]; exact n3829
  have n3940 : sL S3882 q689 = 24 := by rw [eS3882]; exact n3830
  have n3941 : sL S3882 q801 = 2 := by rw [eS3882]; exact n3831
  have n3942 : sL S3882 q922 = 2 := by rw [eS3882]; exact n3832
  have n3943 : sL S3882 q1052 = 2 := by rw [eS3882]; exact n3833
  have n3944 : sL S3882 q1191 = 2 := by rw [eS3882]; exact n3834
  have n3945 : sL S3882 q1339 = 2 := by rw [eS3882]; exact n3835
  have n3946 : sL S3882 q1496 = 2 := by rw [eS3882]; exact n3836
  have n3947 : sL S3882 q1662 = 2 := by rw [eS3882]; exact n3837
  have n3948 : sL S3882 q1837 = 2 := by rw [eS3882]; exact n3838
  have n3949 : sL S3882 q2021 = 200 := by rw [eS3882]; exact n3839
  have n3950 : sL S3882 q2212 = 200 := by rw [eS3882]; exact n3840
  have n3951 : sL S3882 q2410 = 200 := by rw [eS3882]; exact n3841
  have n3952 : sL S3882 q2615 = 200 := by rw [eS3882]; exact n3842
  have n3953 : sL S3882 q2827 = 200 := by rw [eS3882]; exact n3843
  have n3954 : sL S3882 q3046 = 200 := by rw [eS3882]; exact n3844
  have n3955 : sL S3882 q3272 = 200 := by rw [eS3882]; exact n3845
  have n3956 : sL S3882 q3505 = 200 := by rw [eS3882]; exact n3846
  have n3957 : sL S3882 q3745 = 200 := by rw [eS3882]; exact n3881
  have w3958 : sI S3882 h 1 = 0 := by rw [eS3882]; exact w3847
  have w3959 : sI S3882 h 2 = 0 := by rw [eS3882]; exact w3848
  have w3960 : sI S3882 h 3 = 0 := by rw [eS3882]; exact w3849
  have w3961 : sI S3882 h 4 = 0 := by rw [eS3882]; exact w3850
  have w3962 : sI S3882 h 11 = 0 := by rw [eS3882]; exact w3851
  have w3963 : sI S3882 h 12 = 0 := by rw [eS3882]; exact w3852
  have w3964 : sI S3882 h 13 = 0 := by rw [eS3882]; exact w3853
  have w3965 : sI S3882 h 14 = 0 := by rw [eS3882]; exact w3854
  have w3966 : sI S3882 h 15 = 0 := by rw [eS3882]; exact w3855
  have w3967 : sI S3882 h 16 = 0 := by rw [eS3882]; exact w3856
  have w3968 : sI S3882 h 17 = 0 := by rw [eS3882]; exact w3857
  have w3969 : sI S3882 h 18 = 0 := by rw [eS3882]; exact w3858
  have w3970 : sI S3882 h 20 = 0 := by rw [eS3882]; exact w3859
  have w3971 : sI S3882 h 21 = 0 := by rw [eS3882]; exact w3860
  have w3972 : sI S3882 h 22 = 0 := by rw [eS3882]; exact w3861
  have w3973 : sI S3882 h 35 = 0 := by rw [eS3882]; exact w3862
  have w3974 : sI S3882 h 36 = 0 := by rw [eS3882]; exact w3863
  have w3975 : sI S3882 h 53 = 0 := by rw [eS3882]; exact w3864
  have w3976 : sI S3882 h 54 = 0 := by rw [eS3882]; exact w3865
  have w3977 : sI S3882 h 55 = 0 := by rw [eS3882]; exact w3866
  have w3978 : sI S3882 h 60 = 0 := by rw [eS3882]; exact w3867
  have w3979 : sI S3882 h 19 = 200 := by rw [eS3882]; exact w3868
  have w3980 : sI S3882 h 23 = 400 := by rw [eS3882]; exact w3869
  have w3981 : sI S3882 h 24 = 3 := by rw [eS3882]; exact w3870
  have w3982 : sI S3882 h 25 = 2 := by rw [eS3882]; exact w3871
  have w3983 : ∀ j, j < 2 → sI S3882 q801 j = 0 := fun j hj => by rw [eS3882]; exact w3872 j hj 
  have w3984 : ∀ j, j < 2 → sI S3882 q922 j = 0 := fun j hj => by rw [eS3882]; exact w3873 j hj 
  have w3985 : ∀ j, j < 2 → sI S3882 q1052 j = 0 := fun j hj => by rw [eS3882]; exact w3874 j hj 
  have w3986 : ∀ j, j < 2 → sI S3882 q1191 j = 0 := fun j hj => by rw [eS3882]; exact w3875 j hj 
  have w3987 : ∀ j, j < 2 → sI S3882 q1339 j = 0 := fun j hj => by rw [eS3882]; exact w3876 j hj 
  have w3988 : ∀ j, j < 2 → sI S3882 q1496 j = 0 := fun j hj => by rw [eS3882]; exact w3877 j hj 
  have w3989 : ∀ j, j < 2 → sI S3882 q1662 j = 0 := fun j hj => by rw [eS3882]; exact w3878 j hj 
  have w3990 : ∀ j, j < 2 → sI S3882 q1837 j = 0 := fun j hj => by rw [eS3882]; exact w3879 j hj 
  have r3991 : sR S3882 h 45 = some q3745 := by rw [eS3882, rR, if_pos rfl, if_pos rfl]
  clear k3749 k3751 k3753 k3755 k3757 k3759 k3761 k3763 k3765 k3767 k3769 k3771 k3773 k3775 k3777 k3779 k3781 k3783 k3785 k3787 k3789 k3791 k3793 k3795 k3797 k3880 r3799 r3800 r3801 r3802 r3803 r3804 r3805 r3806 r3807 r3808 r3809 r3810 r3811 r3812 r3813 r3814 r3815 r3816 r3817 r3818 r3819 r3820 r3821 r3822 n3823 n3824 n3825 n3826 n3827 n3828 n3829 n3830 n3831 n3832 n3833 n3834 n3835 n3836 n3837 n3838 n3839 n3840 n3841 n3842 n3843 n3844 n3845 n3846 n3881 w3847 w3848 w3849 w3850 w3851 w3852 w3853 w3854 w3855 w3856 w3857 w3858 w3859 w3860 w3861 w3862 w3863 w3864 w3865 w3866 w3867 w3868 w3869 w3870 w3871 w3872 w3873 w3874 w3875 w3876 w3877 w3878 w3879
  refine lv_aload_n hx hb dX9_init_229 rfl (lv_at hl 0 rfl) ?_
  refine lv_bipush (v := 10) hx hb dX9_init_230 (by decide) ?_
  refine pg_newa (atype := .int) (ty := .int) (kd := 11) (t0 := 1) (N' := 10) hx hb (hts (.arrayClass .int) (by decide +kernel)) rfl rfl (Or.inl rfl) (by decide) hK hW hS hA (fun _ => rfl) (by decide) (by decide) (Nat.le_of_ble_eq_true rfl) (Nat.le_of_ble_eq_true rfl) (Nat.le_of_ble_eq_true rfl) dX9_init_232 (fun q3992 H hq3992 hW hS => ?_)
  have f3994 : Ap h q3992 := ap_k k3883 hq3992 (by decide)
  have o3995 : 16 ≤ sK S q3992 := hX.old hq3992 (ni_c (ap_s f3994) ni_0)
  have hX : Kx [h] S (stN S3882 q3992 11 10) := hX.N hq3992
  obtain ⟨S3993, eS3993⟩ : ∃ T : St, T = stN S3882 q3992 11 10 := ⟨_, rfl⟩
  rw [← eS3993] at hW hX
  obtain ⟨k3996, d3997⟩ := fk_N (a := h) eS3993 k3883 (by decide) hq3992
  obtain ⟨k3998, d3999⟩ := fk_N (a := q1) eS3993 k3884 (by decide) hq3992
  obtain ⟨k4000, d4001⟩ := fk_N (a := q64) eS3993 k3885 (by decide) hq3992
  obtain ⟨k4002, d4003⟩ := fk_N (a := q134) eS3993 k3886 (by decide) hq3992
  obtain ⟨k4004, d4005⟩ := fk_N (a := q211) eS3993 k3887 (by decide) hq3992
  obtain ⟨k4006, d4007⟩ := fk_N (a := q295) eS3993 k3888 (by decide) hq3992
  obtain ⟨k4008, d4009⟩ := fk_N (a := q386) eS3993 k3889 (by decide) hq3992
  obtain ⟨k4010, d4011⟩ := fk_N (a := q484) eS3993 k3890 (by decide) hq3992
  obtain ⟨k4012, d4013⟩ := fk_N (a := q689) eS3993 k3891 (by decide) hq3992
  obtain ⟨k4014, d4015⟩ := fk_N (a := q801) eS3993 k3892 (by decide) hq3992
  obtain ⟨k4016, d4017⟩ := fk_N (a := q922) eS3993 k3893 (by decide) hq3992
  obtain ⟨k4018, d4019⟩ := fk_N (a := q1052) eS3993 k3894 (by decide) hq3992
  obtain ⟨k4020, d4021⟩ := fk_N (a := q1191) eS3993 k3895 (by decide) hq3992
  obtain ⟨k4022, d4023⟩ := fk_N (a := q1339) eS3993 k3896 (by decide) hq3992
  obtain ⟨k4024, d4025⟩ := fk_N (a := q1496) eS3993 k3897 (by decide) hq3992
  obtain ⟨k4026, d4027⟩ := fk_N (a := q1662) eS3993 k3898 (by decide) hq3992
  obtain ⟨k4028, d4029⟩ := fk_N (a := q1837) eS3993 k3899 (by decide) hq3992
  obtain ⟨k4030, d4031⟩ := fk_N (a := q2021) eS3993 k3900 (by decide) hq3992
  obtain ⟨k4032, d4033⟩ := fk_N (a := q2212) eS3993 k3901 (by decide) hq3992
  obtain ⟨k4034, d4035⟩ := fk_N (a := q2410) eS3993 k3902 (by decide) hq3992
  obtain ⟨k4036, d4037⟩ := fk_N (a := q2615) eS3993 k3903 (by decide) hq3992
  obtain ⟨k4038, d4039⟩ := fk_N (a := q2827) eS3993 k3904 (by decide) hq3992
  obtain ⟨k4040, d4041⟩ := fk_N (a := q3046) eS3993 k3905 (by decide) hq3992
  obtain ⟨k4042, d4043⟩ := fk_N (a := q3272) eS3993 k3906 (by decide) hq3992
  obtain ⟨k4044, d4045⟩ := fk_N (a := q3505) eS3993 k3907 (by decide) hq3992
  obtain ⟨k4046, d4047⟩ := fk_N (a := q3745) eS3993 k3908 (by decide) hq3992
  have r4048 : sR S3993 h 0 = some q1 := by rw [eS3993, rN, if_neg d3997]; exact r3909
  have r4049 : sR S3993 h 5 = some q64 := by rw [eS3993, rN, if_neg d3997]; exact r3910
  have r4050 : sR S3993 h 6 = some q134 := by rw [eS3993, rN, if_neg d3997]; exact r3911
  have r4051 : sR S3993 h 7 = some q211 := by rw [eS3993, rN, if_neg d3997]; exact r3912
  have r4052 : sR S3993 h 8 = some q295 := by rw [eS3993, rN, if_neg d3997]; exact r3913
  have r4053 : sR S3993 h 9 = some q386 := by rw [eS3993, rN, if_neg d3997]; exact r3914
  have r4054 : sR S3993 h 10 = some q484 := by rw [eS3993, rN, if_neg d3997]; exact r3915
  have r4055 : sR S3993 h 26 = some q689 := by rw [eS3993, rN, if_neg d3997]; exact r3916
  have r4056 : sR S3993 h 27 = some q801 := by rw [eS3993, rN, if_neg d3997]; exact r3917
  have r4057 : sR S3993 h 28 = some q922 := by rw [eS3993, rN, if_neg d3997]; exact r3918
  have r4058 : sR S3993 h 29 = some q1052 := by rw [eS3993, rN, if_neg d3997]; exact r3919
  have r4059 : sR S3993 h 30 = some q1191 := by rw [eS3993, rN, if_neg d3997]; exact r3920
  have r4060 : sR S3993 h 31 = some q1339 := by rw [eS3993, rN, if_neg d3997]; exact r3921
  have r4061 : sR S3993 h 32 = some q1496 := by rw [eS3993, rN, if_neg d3997]; exact r3922
  have r4062 : sR S3993 h 33 = some q1662 := by rw [eS3993, rN, if_neg d3997]; exact r3923
  have r4063 : sR S3993 h 34 = some q1837 := by rw [eS3993, rN, if_neg d3997]; exact r3924
  have r4064 : sR S3993 h 37 = some q2021 := by rw [eS3993, rN, if_neg d3997]; exact r3925
  have r4065 : sR S3993 h 38 = some q2212 := by rw [eS3993, rN, if_neg d3997]; exact r3926
  have r4066 : sR S3993 h 39 = some q2410 := by rw [eS3993, rN, if_neg d3997]; exact r3927
  have r4067 : sR S3993 h 40 = some q2615 := by rw [eS3993, rN, if_neg d3997]; exact r3928
  have r4068 : sR S3993 h 41 = some q2827 := by rw [eS3993, rN, if_neg d3997]; exact r3929
  have r4069 : sR S3993 h 42 = some q3046 := by rw [eS3993, rN, if_neg d3997]; exact r3930
  have r4070 : sR S3993 h 43 = some q3272 := by rw [eS3993, rN, if_neg d3997]; exact r3931
  have r4071 : sR S3993 h 44 = some q3505 := by rw [eS3993, rN, if_neg d3997]; exact r3932
  have r4072 : sR S3993 h 45 = some q3745 := by rw [eS3993, rN, if_neg d3997]; exact r3991
  have n4073 : sL S3993 q1 = 80 := by rw [eS3993, lNw, if_neg d3999]; exact n3933
  have n4074 : sL S3993 q64 = 6 := by rw [eS3993, lNw, if_neg d4001]; exact n3934
  have n4075 : sL S3993 q134 = 6 := by rw [eS3993, lNw, if_neg d4003]; exact n3935
  have n4076 : sL S3993 q211 = 6 := by rw [eS3993, lNw, if_neg d4005]; exact n3936
  have n4077 : sL S3993 q295 = 6 := by rw [eS3993, lNw, if_neg d4007]; exact n3937
  have n4078 : sL S3993 q386 = 6 := by rw [eS3993, lNw, if_neg d4009]; exact n3938
  have n4079 : sL S3993 q484 = 6 := by rw [eS3993, lNw, if_neg d4011]; exact n3939
  have n4080 : sL S3993 q689 = 24 := by rw [eS3993, lNw, if_neg d4013]; exact n3940
  have n4081 : sL S3993 q801 = 2 := by rw [eS3993, lNw, if_neg d4015]; exact n3941
  have n4082 : sL S3993 q922 = 2 := by rw [eS3993, lNw, if_neg d4017]; exact n3942
  have n4083 : sL S3993 q1052 = 2 := by rw [eS3993, lNw, if_neg d4019]; exact n3943
  have n4084 : sL S3993 q1191 = 2 := by rw [eS3993, lNw, if_neg d4021]; exact n3944
  have n4085 : sL S3993 q1339 = 2 := by rw [eS3993, lNw, if_neg d4023]; exact n3945
  have n4086 : sL S3993 q1496 = 2 := by rw [eS3993, lNw, if_neg d4025]; exact n3946
  have n4087 : sL S3993 q1662 = 2 := by rw [eS3993, lNw, if_neg d4027]; exact n3947
  have n4088 : sL S3993 q1837 = 2 := by rw [eS3993, lNw, if_neg d4029]; exact n3948
  have n4089 : sL S3993 q2021 = 200 := by rw [eS3993, lNw, if_neg d4031]; exact n3949
  have n4090 : sL S3993 q2212 = 200 := by rw [eS3993, lNw, if_neg d4033]; exact n3950
  have n4091 : sL S3993 q2410 = 200 := by rw [eS3993, lNw, if_neg d4035]; exact n3951
  have n4092 : sL S3993 q2615 = 200 := by rw [eS3993, lNw, if_neg d4037]; exact n3952
  have n4093 : sL S3993 q2827 = 200 := by rw [eS3993, lNw, if_neg d4039]; exact n3953
  have n4094 : sL S3993 q3046 = 200 := by rw [eS3993, lNw, if_neg d4041]; exact n3954
  have n4095 : sL S3993 q3272 = 200 := by rw [eS3993, lNw, if_neg d4043]; exact n3955
  have n4096 : sL S3993 q3505 = 200 := by rw [eS3993, lNw, if_neg d4045]; exact n3956
  have n4097 : sL S3993 q3745 = 200 := by rw [eS3993, lNw, if_neg d4047]; exact n3957
  have w4098 : sI S3993 h 1 = 0 := by rw [eS3993, iN, if_neg d3997]; exact w3958
  have w4099 : sI S3993 h 2 = 0 := by rw [eS3993, iN, if_neg d3997]; exact w3959
  have w4100 : sI S3993 h 3 = 0 := by rw [eS3993, iN, if_neg d3997]; exact w3960
  have w4101 : sI S3993 h 4 = 0 := by rw [eS3993, iN, if_neg d3997]; exact w3961
  have w4102 : sI S3993 h 11 = 0 := by rw [eS3993, iN, if_neg d3997]; exact w3962
  have w4103 : sI S3993 h 12 = 0 := by rw [eS3993, iN, if_neg d3997]; exact w3963
  have w4104 : sI S3993 h 13 = 0 := by rw [eS3993, iN, if_neg d3997]; exact w3964
  have w4105 : sI S3993 h 14 = 0 := by rw [eS3993, iN, if_neg d3997]; exact w3965
  have w4106 : sI S3993 h 15 = 0 := by rw [eS3993, iN, if_neg d3997]; exact w3966
  have w4107 : sI S3993 h 16 = 0 := by rw [eS3993, iN, if_neg d3997]; exact w3967
  have w4108 : sI S3993 h 17 = 0 := by rw [eS3993, iN, if_neg d3997]; exact w3968
  have w4109 : sI S3993 h 18 = 0 := by rw [eS3993, iN, if_neg d3997]; exact w3969
  have w4110 : sI S3993 h 20 = 0 := by rw [eS3993, iN, if_neg d3997]; exact w3970
  have w4111 : sI S3993 h 21 = 0 := by rw [eS3993, iN, if_neg d3997]; exact w3971
  have w4112 : sI S3993 h 22 = 0 := by rw [eS3993, iN, if_neg d3997]; exact w3972
  have w4113 : sI S3993 h 35 = 0 := by rw [eS3993, iN, if_neg d3997]; exact w3973
  have w4114 : sI S3993 h 36 = 0 := by rw [eS3993, iN, if_neg d3997]; exact w3974
  have w4115 : sI S3993 h 53 = 0 := by rw [eS3993, iN, if_neg d3997]; exact w3975
  have w4116 : sI S3993 h 54 = 0 := by rw [eS3993, iN, if_neg d3997]; exact w3976
  have w4117 : sI S3993 h 55 = 0 := by rw [eS3993, iN, if_neg d3997]; exact w3977
  have w4118 : sI S3993 h 60 = 0 := by rw [eS3993, iN, if_neg d3997]; exact w3978
  have w4119 : sI S3993 h 19 = 200 := by rw [eS3993, iN, if_neg d3997]; exact w3979
  have w4120 : sI S3993 h 23 = 400 := by rw [eS3993, iN, if_neg d3997]; exact w3980
  have w4121 : sI S3993 h 24 = 3 := by rw [eS3993, iN, if_neg d3997]; exact w3981
  have w4122 : sI S3993 h 25 = 2 := by rw [eS3993, iN, if_neg d3997]; exact w3982
  have w4123 : ∀ j, j < 2 → sI S3993 q801 j = 0 := fun j hj => by rw [eS3993, iN, if_neg d4015]; exact w3983 j hj 
  have w4124 : ∀ j, j < 2 → sI S3993 q922 j = 0 := fun j hj => by rw [eS3993, iN, if_neg d4017]; exact w3984 j hj 
  have w4125 : ∀ j, j < 2 → sI S3993 q1052 j = 0 := fun j hj => by rw [eS3993, iN, if_neg d4019]; exact w3985 j hj 
  have w4126 : ∀ j, j < 2 → sI S3993 q1191 j = 0 := fun j hj => by rw [eS3993, iN, if_neg d4021]; exact w3986 j hj 
  have w4127 : ∀ j, j < 2 → sI S3993 q1339 j = 0 := fun j hj => by rw [eS3993, iN, if_neg d4023]; exact w3987 j hj 
  have w4128 : ∀ j, j < 2 → sI S3993 q1496 j = 0 := fun j hj => by rw [eS3993, iN, if_neg d4025]; exact w3988 j hj 
  have w4129 : ∀ j, j < 2 → sI S3993 q1662 j = 0 := fun j hj => by rw [eS3993, iN, if_neg d4027]; exact w3989 j hj 
  have w4130 : ∀ j, j < 2 → sI S3993 q1837 j = 0 := fun j hj => by rw [eS3993, iN, if_neg d4029]; exact w3990 j hj 
  have k4131 : sK S3993 q3992 = 11 := by rw [eS3993, kN, if_pos rfl]
  have n4132 : sL S3993 q3992 = 10 := by rw [eS3993, lNw, if_pos rfl]
  clear k3883 k3884 k3885 k3886 k3887 k3888 k3889 k3890 k3891 k3892 k3893 k3894 k3895 k3896 k3897 k3898 k3899 k3900 k3901 k3902 k3903 k3904 k3905 k3906 k3907 k3908 r3909 r3910 r3911 r3912 r3913 r3914 r3915 r3916 r3917 r3918 r3919 r3920 r3921 r3922 r3923 r3924 r3925 r3926 r3927 r3928 r3929 r3930 r3931 r3932 r3991 n3933 n3934 n3935 n3936 n3937 n3938 n3939 n3940 n3941 n3942 n3943 n3944 n3945 n3946 n3947 n3948 n3949 n3950 n3951 n3952 n3953 n3954 n3955 n3956 n3957 w3958 w3959 w3960 w3961 w3962 w3963 w3964 w3965 w3966 w3967 w3968 w3969 w3970 w3971 w3972 w3973 w3974 w3975 w3976 w3977 w3978 w3979 w3980 w3981 w3982 w3983 w3984 w3985 w3986 w3987 w3988 w3989 w3990
  refine pg_pr (ci := 9) (C := RX9) (T := TX9) (N := 63) hx hb hts wi9 tyX9 tyX9_ok nmX9 hown hK hW hS k3996 (by decide) rfl 46 (by decide) (hts (.fieldLink RX9 100 "IceHallModel" "closedSheet" "[I") (by decide +kernel)) (fun _ h9 => h9) rfl hnm rfl rfl rfl rfl dX9_init_234 (fun H locs hW hS => ?_)
  have hX : Kx [h] S (stR S3993 h 46 (some q3992)) := hX.Rh List.mem_cons_self
  obtain ⟨S4133, eS4133⟩ : ∃ T : St, T = stR S3993 h 46 (some q3992) := ⟨_, rfl⟩
  rw [← eS4133] at hW hX
  have k4134 : sK S4133 h = 9 := by rw [eS4133]; exact k3996
  have k4135 : sK S4133 q1 = 10 := by rw [eS4133]; exact k3998
  have k4136 : sK S4133 q64 = 11 := by rw [eS4133]; exact k4000
  have k4137 : sK S4133 q134 = 11 := by rw [eS4133]; exact k4002
  have k4138 : sK S4133 q211 = 11 := by rw [eS4133]; exact k4004
  have k4139 : sK S4133 q295 = 11 := by rw [eS4133]; exact k4006
  have k4140 : sK S4133 q386 = 11 := by rw [eS4133]; exact k4008
  have k4141 : sK S4133 q484 = 11 := by rw [eS4133]; exact k4010
  have k4142 : sK S4133 q689 = 11 := by rw [eS4133]; exact k4012
  have k4143 : sK S4133 q801 = 11 := by rw [eS4133]; exact k4014
  have k4144 : sK S4133 q922 = 11 := by rw [eS4133]; exact k4016
  have k4145 : sK S4133 q1052 = 11 := by rw [eS4133]; exact k4018
  have k4146 : sK S4133 q1191 = 11 := by rw [eS4133]; exact k4020
  have k4147 : sK S4133 q1339 = 11 := by rw [eS4133]; exact k4022
  have k4148 : sK S4133 q1496 = 11 := by rw [eS4133]; exact k4024
  have k4149 : sK S4133 q1662 = 11 := by rw [eS4133]; exact k4026
  have k4150 : sK S4133 q1837 = 13 := by rw [eS4133]; exact k4028
  have k4151 : sK S4133 q2021 = 11 := by rw [eS4133]; exact k4030
  have k4152 : sK S4133 q2212 = 11 := by rw [eS4133]; exact k4032
  have k4153 : sK S4133 q2410 = 11 := by rw [eS4133]; exact k4034
  have k4154 : sK S4133 q2615 = 11 := by rw [eS4133]; exact k4036
  have k4155 : sK S4133 q2827 = 11 := by rw [eS4133]; exact k4038
  have k4156 : sK S4133 q3046 = 11 := by rw [eS4133]; exact k4040
  have k4157 : sK S4133 q3272 = 11 := by rw [eS4133]; exact k4042
  have k4158 : sK S4133 q3505 = 11 := by rw [eS4133]; exact k4044
  have k4159 : sK S4133 q3745 = 11 := by rw [eS4133]; exact k4046
  have k4160 : sK S4133 q3992 = 11 := by rw [eS4133]; exact k4131
  have r4161 : sR S4133 h 0 = some q1 := by rw [eS4133, rR, if_pos rfl, if_neg (by decide)]; exact r4048
  have r4162 : sR S4133 h 5 = some q64 := by rw [eS4133, rR, if_pos rfl, if_neg (by decide)]; exact r4049
  have r4163 : sR S4133 h 6 = some q134 := by rw [eS4133, rR, if_pos rfl, if_neg (by decide)]; exact r4050
  have r4164 : sR S4133 h 7 = some q211 := by rw [eS4133, rR, if_pos rfl, if_neg (by decide)]; exact r4051
  have r4165 : sR S4133 h 8 = some q295 := by rw [eS4133, rR, if_pos rfl, if_neg (by decide)]; exact r4052
  have r4166 : sR S4133 h 9 = some q386 := by rw [eS4133, rR, if_pos rfl, if_neg (by decide)]; exact r4053
  have r4167 : sR S4133 h 10 = some q484 := by rw [eS4133, rR, if_pos rfl, if_neg (by decide)]; exact r4054
  have r4168 : sR S4133 h 26 = some q689 := by rw [eS4133, rR, if_pos rfl, if_neg (by decide)]; exact r4055
  have r4169 : sR S4133 h 27 = some q801 := by rw [eS4133, rR, if_pos rfl, if_neg (by decide)]; exact r4056
  have r4170 : sR S4133 h 28 = some q922 := by rw [eS4133, rR, if_pos rfl, if_neg (by decide)]; exact r4057
  have r4171 : sR S4133 h 29 = some q1052 := by rw [eS4133, rR, if_pos rfl, if_neg (by decide)]; exact r4058
  have r4172 : sR S4133 h 30 = some q1191 := by rw [eS4133, rR, if_pos rfl, if_neg (by decide)]; exact r4059
  have r4173 : sR S4133 h 31 = some q1339 := by rw [eS4133, rR, if_pos rfl, if_neg (by decide)]; exact r4060
  have r4174 : sR S4133 h 32 = some q1496 := by rw [eS4133, rR, if_pos rfl, if_neg (by decide)]; exact r4061
  have r4175 : sR S4133 h 33 = some q1662 := by rw [eS4133, rR, if_pos rfl, if_neg (by decide)]; exact r4062
  have r4176 : sR S4133 h 34 = some q1837 := by rw [eS4133, rR, if_pos rfl, if_neg (by decide)]; exact r4063
  have r4177 : sR S4133 h 37 = some q2021 := by rw [eS4133, rR, if_pos rfl, if_neg (by decide)]; exact r4064
  have r4178 : sR S4133 h 38 = some q2212 := by rw [eS4133, rR, if_pos rfl, if_neg (by decide)]; exact r4065
  have r4179 : sR S4133 h 39 = some q2410 := by rw [eS4133, rR, if_pos rfl, if_neg (by decide)]; exact r4066
  have r4180 : sR S4133 h 40 = some q2615 := by rw [eS4133, rR, if_pos rfl, if_neg (by decide)]; exact r4067
  have r4181 : sR S4133 h 41 = some q2827 := by rw [eS4133, rR, if_pos rfl, if_neg (by decide)]; exact r4068
  have r4182 : sR S4133 h 42 = some q3046 := by rw [eS4133, rR, if_pos rfl, if_neg (by decide)]; exact r4069
  have r4183 : sR S4133 h 43 = some q3272 := by rw [eS4133, rR, if_pos rfl, if_neg (by decide)]; exact r4070
  have r4184 : sR S4133 h 44 = some q3505 := by rw [eS4133, rR, if_pos rfl, if_neg (by decide)]; exact r4071
  have r4185 : sR S4133 h 45 = some q3745 := by rw [eS4133, rR, if_pos rfl, if_neg (by decide)]; exact r4072
  have n4186 : sL S4133 q1 = 80 := by rw [eS4133]; exact n4073
  have n4187 : sL S4133 q64 = 6 := by rw [eS4133]; exact n4074
  have n4188 : sL S4133 q134 = 6 := by rw [eS4133]; exact n4075
  have n4189 : sL S4133 q211 = 6 := by rw [eS4133]; exact n4076
  have n4190 : sL S4133 q295 = 6 := by rw [eS4133]; exact n4077
  have n4191 : sL S4133 q386 = 6 := by rw [eS4133]; exact n4078
  have n4192 : sL S4133 q484 = 6 := by rw [eS4133]; exact n4079
  have n4193 : sL S4133 q689 = 24 := by rw [eS4133]; exact n4080
  have n4194 : sL S4133 q801 = 2 := by rw [eS4133]; exact n4081
  have n4195 : sL S4133 q922 = 2 := by rw [eS4133]; exact n4082
  have n4196 : sL S4133 q1052 = 2 := by rw [eS4133]; exact n4083
  have n4197 : sL S4133 q1191 = 2 := by rw [eS4133]; exact n4084
  have n4198 : sL S4133 q1339 = 2 := by rw [eS4133]; exact n4085
  have n4199 : sL S4133 q1496 = 2 := by rw [eS4133]; exact n4086
  have n4200 : sL S4133 q1662 = 2 := by rw [eS4133]; exact n4087
  have n4201 : sL S4133 q1837 = 2 := by rw [eS4133]; exact n4088
  have n4202 : sL S4133 q2021 = 200 := by rw [eS4133]; exact n4089
  have n4203 : sL S4133 q2212 = 200 := by rw [eS4133]; exact n4090
  have n4204 : sL S4133 q2410 = 200 := by rw [eS4133]; exact n4091
  have n4205 : sL S4133 q2615 = 200 := by rw [eS4133]; exact n4092
  have n4206 : sL S4133 q2827 = 200 := by rw [eS4133]; exact n4093
  have n4207 : sL S4133 q3046 = 200 := by rw [eS4133]; exact n4094
  have n4208 : sL S4133 q3272 = 200 := by rw [eS4133]; exact n4095
  have n4209 : sL S4133 q3505 = 200 := by rw [eS4133]; exact n4096
  have n4210 : sL S4133 q3745 = 200 := by rw [eS4133]; exact n4097
  have n4211 : sL S4133 q3992 = 10 := by rw [eS4133]; exact n4132
  have w4212 : sI S4133 h 1 = 0 := by rw [eS4133]; exact w4098
  have w4213 : sI S4133 h 2 = 0 := by rw [eS4133]; exact w4099
  have w4214 : sI S4133 h 3 = 0 := by rw [eS4133]; exact w4100
  have w4215 : sI S4133 h 4 = 0 := by rw [eS4133]; exact w4101
  have w4216 : sI S4133 h 11 = 0 := by rw [eS4133]; exact w4102
  have w4217 : sI S4133 h 12 = 0 := by rw [eS4133]; exact w4103
  have w4218 : sI S4133 h 13 = 0 := by rw [eS4133]; exact w4104
  have w4219 : sI S4133 h 14 = 0 := by rw [eS4133]; exact w4105
  have w4220 : sI S4133 h 15 = 0 := by rw [eS4133]; exact w4106
  have w4221 : sI S4133 h 16 = 0 := by rw [eS4133]; exact w4107
  have w4222 : sI S4133 h 17 = 0 := by rw [eS4133]; exact w4108
  have w4223 : sI S4133 h 18 = 0 := by rw [eS4133]; exact w4109
  have w4224 : sI S4133 h 20 = 0 := by rw [eS4133]; exact w4110
  have w4225 : sI S4133 h 21 = 0 := by rw [eS4133]; exact w4111
  have w4226 : sI S4133 h 22 = 0 := by rw [eS4133]; exact w4112
  have w4227 : sI S4133 h 35 = 0 := by rw [eS4133]; exact w4113
  have w4228 : sI S4133 h 36 = 0 := by rw [eS4133]; exact w4114
  have w4229 : sI S4133 h 53 = 0 := by rw [eS4133]; exact w4115
  have w4230 : sI S4133 h 54 = 0 := by rw [eS4133]; exact w4116
  have w4231 : sI S4133 h 55 = 0 := by rw [eS4133]; exact w4117
  have w4232 : sI S4133 h 60 = 0 := by rw [eS4133]; exact w4118
  have w4233 : sI S4133 h 19 = 200 := by rw [eS4133]; exact w4119
  have w4234 : sI S4133 h 23 = 400 := by rw [eS4133]; exact w4120
  have w4235 : sI S4133 h 24 = 3 := by rw [eS4133]; exact w4121
  have w4236 : sI S4133 h 25 = 2 := by rw [eS4133]; exact w4122
  have w4237 : ∀ j, j < 2 → sI S4133 q801 j = 0 := fun j hj => by rw [eS4133]; exact w4123 j hj 
  have w4238 : ∀ j, j < 2 → sI S4133 q922 j = 0 := fun j hj => by rw [eS4133]; exact w4124 j hj 
  have w4239 : ∀ j, j < 2 → sI S4133 q1052 j = 0 := fun j hj => by rw [eS4133]; exact w4125 j hj 
  have w4240 : ∀ j, j < 2 → sI S4133 q1191 j = 0 := fun j hj => by rw [eS4133]; exact w4126 j hj 
  have w4241 : ∀ j, j < 2 → sI S4133 q1339 j = 0 := fun j hj => by rw [eS4133]; exact w4127 j hj 
  have w4242 : ∀ j, j < 2 → sI S4133 q1496 j = 0 := fun j hj => by rw [eS4133]; exact w4128 j hj 
  have w4243 : ∀ j, j < 2 → sI S4133 q1662 j = 0 := fun j hj => by rw [eS4133]; exact w4129 j hj 
  have w4244 : ∀ j, j < 2 → sI S4133 q1837 j = 0 := fun j hj => by rw [eS4133]; exact w4130 j hj 
  have r4245 : sR S4133 h 46 = some q3992 := by rw [eS4133, rR, if_pos rfl, if_pos rfl]
  clear k3996 k3998 k4000 k4002 k4004 k4006 k4008 k4010 k4012 k4014 k4016 k4018 k4020 k4022 k4024 k4026 k4028 k4030 k4032 k4034 k4036 k4038 k4040 k4042 k4044 k4046 k4131 r4048 r4049 r4050 r4051 r4052 r4053 r4054 r4055 r4056 r4057 r4058 r4059 r4060 r4061 r4062 r4063 r4064 r4065 r4066 r4067 r4068 r4069 r4070 r4071 r4072 n4073 n4074 n4075 n4076 n4077 n4078 n4079 n4080 n4081 n4082 n4083 n4084 n4085 n4086 n4087 n4088 n4089 n4090 n4091 n4092 n4093 n4094 n4095 n4096 n4097 n4132 w4098 w4099 w4100 w4101 w4102 w4103 w4104 w4105 w4106 w4107 w4108 w4109 w4110 w4111 w4112 w4113 w4114 w4115 w4116 w4117 w4118 w4119 w4120 w4121 w4122 w4123 w4124 w4125 w4126 w4127 w4128 w4129 w4130
  refine lv_aload_n hx hb dX9_init_237 rfl (lv_at hl 0 rfl) ?_
  refine lv_bipush (v := 10) hx hb dX9_init_238 (by decide) ?_
  refine pg_newa (atype := .int) (ty := .int) (kd := 11) (t0 := 1) (N' := 10) hx hb (hts (.arrayClass .int) (by decide +kernel)) rfl rfl (Or.inl rfl) (by decide) hK hW hS hA (fun _ => rfl) (by decide) (by decide) (Nat.le_of_ble_eq_true rfl) (Nat.le_of_ble_eq_true rfl) (Nat.le_of_ble_eq_true rfl) dX9_init_240 (fun q4246 H hq4246 hW hS => ?_)
  have f4248 : Ap h q4246 := ap_k k4134 hq4246 (by decide)
  have o4249 : 16 ≤ sK S q4246 := hX.old hq4246 (ni_c (ap_s f4248) ni_0)
  have hX : Kx [h] S (stN S4133 q4246 11 10) := hX.N hq4246
  obtain ⟨S4247, eS4247⟩ : ∃ T : St, T = stN S4133 q4246 11 10 := ⟨_, rfl⟩
  rw [← eS4247] at hW hX
  obtain ⟨k4250, d4251⟩ := fk_N (a := h) eS4247 k4134 (by decide) hq4246
  obtain ⟨k4252, d4253⟩ := fk_N (a := q1) eS4247 k4135 (by decide) hq4246
  obtain ⟨k4254, d4255⟩ := fk_N (a := q64) eS4247 k4136 (by decide) hq4246
  obtain ⟨k4256, d4257⟩ := fk_N (a := q134) eS4247 k4137 (by decide) hq4246
  obtain ⟨k4258, d4259⟩ := fk_N (a := q211) eS4247 k4138 (by decide) hq4246
  obtain ⟨k4260, d4261⟩ := fk_N (a := q295) eS4247 k4139 (by decide) hq4246
  obtain ⟨k4262, d4263⟩ := fk_N (a := q386) eS4247 k4140 (by decide) hq4246
  obtain ⟨k4264, d4265⟩ := fk_N (a := q484) eS4247 k4141 (by decide) hq4246
  obtain ⟨k4266, d4267⟩ := fk_N (a := q689) eS4247 k4142 (by decide) hq4246
  obtain ⟨k4268, d4269⟩ := fk_N (a := q801) eS4247 k4143 (by decide) hq4246
  obtain ⟨k4270, d4271⟩ := fk_N (a := q922) eS4247 k4144 (by decide) hq4246
  obtain ⟨k4272, d4273⟩ := fk_N (a := q1052) eS4247 k4145 (by decide) hq4246
  obtain ⟨k4274, d4275⟩ := fk_N (a := q1191) eS4247 k4146 (by decide) hq4246
  obtain ⟨k4276, d4277⟩ := fk_N (a := q1339) eS4247 k4147 (by decide) hq4246
  obtain ⟨k4278, d4279⟩ := fk_N (a := q1496) eS4247 k4148 (by decide) hq4246
  obtain ⟨k4280, d4281⟩ := fk_N (a := q1662) eS4247 k4149 (by decide) hq4246
  obtain ⟨k4282, d4283⟩ := fk_N (a := q1837) eS4247 k4150 (by decide) hq4246
  obtain ⟨k4284, d4285⟩ := fk_N (a := q2021) eS4247 k4151 (by decide) hq4246
  obtain ⟨k4286, d4287⟩ := fk_N (a := q2212) eS4247 k4152 (by decide) hq4246
  obtain ⟨k4288, d4289⟩ := fk_N (a := q2410) eS4247 k4153 (by decide) hq4246
  obtain ⟨k4290, d4291⟩ := fk_N (a := q2615) eS4247 k4154 (by decide) hq4246
  obtain ⟨k4292, d4293⟩ := fk_N (a := q2827) eS4247 k4155 (by decide) hq4246
  obtain ⟨k4294, d4295⟩ := fk_N (a := q3046) eS4247 k4156 (by decide) hq4246
  obtain ⟨k4296, d4297⟩ := fk_N (a := q3272) eS4247 k4157 (by decide) hq4246
  obtain ⟨k4298, d4299⟩ := fk_N (a := q3505) eS4247 k4158 (by decide) hq4246
  obtain ⟨k4300, d4301⟩ := fk_N (a := q3745) eS4247 k4159 (by decide) hq4246
  obtain ⟨k4302, d4303⟩ := fk_N (a := q3992) eS4247 k4160 (by decide) hq4246
  have r4304 : sR S4247 h 0 = some q1 := by rw [eS4247, rN, if_neg d4251]; exact r4161
  have r4305 : sR S4247 h 5 = some q64 := by rw [eS4247, rN, if_neg d4251]; exact r4162
  have r4306 : sR S4247 h 6 = some q134 := by rw [eS4247, rN, if_neg d4251]; exact r4163
  have r4307 : sR S4247 h 7 = some q211 := by rw [eS4247, rN, if_neg d4251]; exact r4164
  have r4308 : sR S4247 h 8 = some q295 := by rw [eS4247, rN, if_neg d4251]; exact r4165
  have r4309 : sR S4247 h 9 = some q386 := by rw [eS4247, rN, if_neg d4251]; exact r4166
  have r4310 : sR S4247 h 10 = some q484 := by rw [eS4247, rN, if_neg d4251]; exact r4167
  have r4311 : sR S4247 h 26 = some q689 := by rw [eS4247, rN, if_neg d4251]; exact r4168
  have r4312 : sR S4247 h 27 = some q801 := by rw [eS4247, rN, if_neg d4251]; exact r4169
  have r4313 : sR S4247 h 28 = some q922 := by rw [eS4247, rN, if_neg d4251]; exact r4170
  have r4314 : sR S4247 h 29 = some q1052 := by rw [eS4247, rN, if_neg d4251]; exact r4171
  have r4315 : sR S4247 h 30 = some q1191 := by rw [eS4247, rN, if_neg d4251]; exact r4172
  have r4316 : sR S4247 h 31 = some q1339 := by rw [eS4247, rN, if_neg d4251]; exact r4173
  have r4317 : sR S4247 h 32 = some q1496 := by rw [eS4247, rN, if_neg d4251]; exact r4174
  have r4318 : sR S4247 h 33 = some q1662 := by rw [eS4247, rN, if_neg d4251]; exact r4175
  have r4319 : sR S4247 h 34 = some q1837 := by rw [eS4247, rN, if_neg d4251]; exact r4176
  have r4320 : sR S4247 h 37 = some q2021 := by rw [eS4247, rN, if_neg d4251]; exact r4177
  have r4321 : sR S4247 h 38 = some q2212 := by rw [eS4247, rN, if_neg d4251]; exact r4178
  have r4322 : sR S4247 h 39 = some q2410 := by rw [eS4247, rN, if_neg d4251]; exact r4179
  have r4323 : sR S4247 h 40 = some q2615 := by rw [eS4247, rN, if_neg d4251]; exact r4180
  have r4324 : sR S4247 h 41 = some q2827 := by rw [eS4247, rN, if_neg d4251]; exact r4181
  have r4325 : sR S4247 h 42 = some q3046 := by rw [eS4247, rN, if_neg d4251]; exact r4182
  have r4326 : sR S4247 h 43 = some q3272 := by rw [eS4247, rN, if_neg d4251]; exact r4183
  have r4327 : sR S4247 h 44 = some q3505 := by rw [eS4247, rN, if_neg d4251]; exact r4184
  have r4328 : sR S4247 h 45 = some q3745 := by rw [eS4247, rN, if_neg d4251]; exact r4185
  have r4329 : sR S4247 h 46 = some q3992 := by rw [eS4247, rN, if_neg d4251]; exact r4245
  have n4330 : sL S4247 q1 = 80 := by rw [eS4247, lNw, if_neg d4253]; exact n4186
  have n4331 : sL S4247 q64 = 6 := by rw [eS4247, lNw, if_neg d4255]; exact n4187
  have n4332 : sL S4247 q134 = 6 := by rw [eS4247, lNw, if_neg d4257]; exact n4188
  have n4333 : sL S4247 q211 = 6 := by rw [eS4247, lNw, if_neg d4259]; exact n4189
  have n4334 : sL S4247 q295 = 6 := by rw [eS4247, lNw, if_neg d4261]; exact n4190
  have n4335 : sL S4247 q386 = 6 := by rw [eS4247, lNw, if_neg d4263]; exact n4191
  have n4336 : sL S4247 q484 = 6 := by rw [eS4247, lNw, if_neg d4265]; exact n4192
  have n4337 : sL S4247 q689 = 24 := by rw [eS4247, lNw, if_neg d4267]; exact n4193
  have n4338 : sL S4247 q801 = 2 := by rw [eS4247, lNw, if_neg d4269]; exact n4194
  have n4339 : sL S4247 q922 = 2 := by rw [eS4247, lNw, if_neg d4271]; exact n4195
  have n4340 : sL S4247 q1052 = 2 := by rw [eS4247, lNw, if_neg d4273]; exact n4196
  have n4341 : sL S4247 q1191 = 2 := by rw [eS4247, lNw, if_neg d4275]; exact n4197
  have n4342 : sL S4247 q1339 = 2 := by rw [eS4247, lNw, if_neg d4277]; exact n4198
  have n4343 : sL S4247 q1496 = 2 := by rw [eS4247, lNw, if_neg d4279]; exact n4199
  have n4344 : sL S4247 q1662 = 2 := by rw [eS4247, lNw, if_neg d4281]; exact n4200
  have n4345 : sL S4247 q1837 = 2 := by rw [eS4247, lNw, if_neg d4283]; exact n4201
  have n4346 : sL S4247 q2021 = 200 := by rw [eS4247, lNw, if_neg d4285]; exact n4202
  have n4347 : sL S4247 q2212 = 200 := by rw [eS4247, lNw, if_neg d4287]; exact n4203
  have n4348 : sL S4247 q2410 = 200 := by rw [eS4247, lNw, if_neg d4289]; exact n4204
  have n4349 : sL S4247 q2615 = 200 := by rw [eS4247, lNw, if_neg d4291]; exact n4205
  have n4350 : sL S4247 q2827 = 200 := by rw [eS4247, lNw, if_neg d4293]; exact n4206
  have n4351 : sL S4247 q3046 = 200 := by rw [eS4247, lNw, if_neg d4295]; exact n4207
  have n4352 : sL S4247 q3272 = 200 := by rw [eS4247, lNw, if_neg d4297]; exact n4208
  have n4353 : sL S4247 q3505 = 200 := by rw [eS4247, lNw, if_neg d4299]; exact n4209
  have n4354 : sL S4247 q3745 = 200 := by rw [eS4247, lNw, if_neg d4301]; exact n4210
  have n4355 : sL S4247 q3992 = 10 := by rw [eS4247, lNw, if_neg d4303]; exact n4211
  have w4356 : sI S4247 h 1 = 0 := by rw [eS4247, iN, if_neg d4251]; exact w4212
  have w4357 : sI S4247 h 2 = 0 := by rw [eS4247, iN, if_neg d4251]; exact w4213
  have w4358 : sI S4247 h 3 = 0 := by rw [eS4247, iN, if_neg d4251]; exact w4214
  have w4359 : sI S4247 h 4 = 0 := by rw [eS4247, iN, if_neg d4251]; exact w4215
  have w4360 : sI S4247 h 11 = 0 := by rw [eS4247, iN, if_neg d4251]; exact w4216
  have w4361 : sI S4247 h 12 = 0 := by rw [eS4247, iN, if_neg d4251]; exact w4217
  have w4362 : sI S4247 h 13 = 0 := by rw [eS4247, iN, if_neg d4251]; exact w4218
  have w4363 : sI S4247 h 14 = 0 := by rw [eS4247, iN, if_neg d4251]; exact w4219
  have w4364 : sI S4247 h 15 = 0 := by rw [eS4247, iN, if_neg d4251]; exact w4220
  have w4365 : sI S4247 h 16 = 0 := by rw [eS4247, iN, if_neg d4251]; exact w4221
  have w4366 : sI S4247 h 17 = 0 := by rw [eS4247, iN, if_neg d4251]; exact w4222
  have w4367 : sI S4247 h 18 = 0 := by rw [eS4247, iN, if_neg d4251]; exact w4223
  have w4368 : sI S4247 h 20 = 0 := by rw [eS4247, iN, if_neg d4251]; exact w4224
  have w4369 : sI S4247 h 21 = 0 := by rw [eS4247, iN, if_neg d4251]; exact w4225
  have w4370 : sI S4247 h 22 = 0 := by rw [eS4247, iN, if_neg d4251]; exact w4226
  have w4371 : sI S4247 h 35 = 0 := by rw [eS4247, iN, if_neg d4251]; exact w4227
  have w4372 : sI S4247 h 36 = 0 := by rw [eS4247, iN, if_neg d4251]; exact w4228
  have w4373 : sI S4247 h 53 = 0 := by rw [eS4247, iN, if_neg d4251]; exact w4229
  have w4374 : sI S4247 h 54 = 0 := by rw [eS4247, iN, if_neg d4251]; exact w4230
  have w4375 : sI S4247 h 55 = 0 := by rw [eS4247, iN, if_neg d4251]; exact w4231
  have w4376 : sI S4247 h 60 = 0 := by rw [eS4247, iN, if_neg d4251]; exact w4232
  have w4377 : sI S4247 h 19 = 200 := by rw [eS4247, iN, if_neg d4251]; exact w4233
  have w4378 : sI S4247 h 23 = 400 := by rw [eS4247, iN, if_neg d4251]; exact w4234
  have w4379 : sI S4247 h 24 = 3 := by rw [eS4247, iN, if_neg d4251]; exact w4235
  have w4380 : sI S4247 h 25 = 2 := by rw [eS4247, iN, if_neg d4251]; exact w4236
  have w4381 : ∀ j, j < 2 → sI S4247 q801 j = 0 := fun j hj => by rw [eS4247, iN, if_neg d4269]; exact w4237 j hj 
  have w4382 : ∀ j, j < 2 → sI S4247 q922 j = 0 := fun j hj => by rw [eS4247, iN, if_neg d4271]; exact w4238 j hj 
  have w4383 : ∀ j, j < 2 → sI S4247 q1052 j = 0 := fun j hj => by rw [eS4247, iN, if_neg d4273]; exact w4239 j hj 
  have w4384 : ∀ j, j < 2 → sI S4247 q1191 j = 0 := fun j hj => by rw [eS4247, iN, if_neg d4275]; exact w4240 j hj 
  have w4385 : ∀ j, j < 2 → sI S4247 q1339 j = 0 := fun j hj => by rw [eS4247, iN, if_neg d4277]; exact w4241 j hj 
  have w4386 : ∀ j, j < 2 → sI S4247 q1496 j = 0 := fun j hj => by rw [eS4247, iN, if_neg d4279]; exact w4242 j hj 
  have w4387 : ∀ j, j < 2 → sI S4247 q1662 j = 0 := fun j hj => by rw [eS4247, iN, if_neg d4281]; exact w4243 j hj 
  have w4388 : ∀ j, j < 2 → sI S4247 q1837 j = 0 := fun j hj => by rw [eS4247, iN, if_neg d4283]; exact w4244 j hj 
  have k4389 : sK S4247 q4246 = 11 := by rw [eS4247, kN, if_pos rfl]
  have n4390 : sL S4247 q4246 = 10 := by rw [eS4247, lNw, if_pos rfl]
  clear k4134 k4135 k4136 k4137 k4138 k4139 k4140 k4141 k4142 k4143 k4144 k4145 k4146 k4147 k4148 k4149 k4150 k4151 k4152 k4153 k4154 k4155 k4156 k4157 k4158 k4159 k4160 r4161 r4162 r4163 r4164 r4165 r4166 r4167 r4168 r4169 r4170 r4171 r4172 r4173 r4174 r4175 r4176 r4177 r4178 r4179 r4180 r4181 r4182 r4183 r4184 r4185 r4245 n4186 n4187 n4188 n4189 n4190 n4191 n4192 n4193 n4194 n4195 n4196 n4197 n4198 n4199 n4200 n4201 n4202 n4203 n4204 n4205 n4206 n4207 n4208 n4209 n4210 n4211 w4212 w4213 w4214 w4215 w4216 w4217 w4218 w4219 w4220 w4221 w4222 w4223 w4224 w4225 w4226 w4227 w4228 w4229 w4230 w4231 w4232 w4233 w4234 w4235 w4236 w4237 w4238 w4239 w4240 w4241 w4242 w4243 w4244
  refine pg_pr (ci := 9) (C := RX9) (T := TX9) (N := 63) hx hb hts wi9 tyX9 tyX9_ok nmX9 hown hK hW hS k4250 (by decide) rfl 47 (by decide) (hts (.fieldLink RX9 103 "IceHallModel" "closedFrom" "[I") (by decide +kernel)) (fun _ h9 => h9) rfl hnm rfl rfl rfl rfl dX9_init_242 (fun H locs hW hS => ?_)
  have hX : Kx [h] S (stR S4247 h 47 (some q4246)) := hX.Rh List.mem_cons_self
  obtain ⟨S4391, eS4391⟩ : ∃ T : St, T = stR S4247 h 47 (some q4246) := ⟨_, rfl⟩
  rw [← eS4391] at hW hX
  have k4392 : sK S4391 h = 9 := by rw [eS4391]; exact k4250
  have k4393 : sK S4391 q1 = 10 := by rw [eS4391]; exact k4252
  have k4394 : sK S4391 q64 = 11 := by rw [eS4391]; exact k4254
  have k4395 : sK S4391 q134 = 11 := by rw [eS4391]; exact k4256
  have k4396 : sK S4391 q211 = 11 := by rw [eS4391]; exact k4258
  have k4397 : sK S4391 q295 = 11 := by rw [eS4391]; exact k4260
  have k4398 : sK S4391 q386 = 11 := by rw [eS4391]; exact k4262
  have k4399 : sK S4391 q484 = 11 := by rw [eS4391]; exact k4264
  have k4400 : sK S4391 q689 = 11 := by rw [eS4391]; exact k4266
  have k4401 : sK S4391 q801 = 11 := by rw [eS4391]; exact k4268
  have k4402 : sK S4391 q922 = 11 := by rw [eS4391]; exact k4270
  have k4403 : sK S4391 q1052 = 11 := by rw [eS4391]; exact k4272
  have k4404 : sK S4391 q1191 = 11 := by rw [eS4391]; exact k4274
  have k4405 : sK S4391 q1339 = 11 := by rw [eS4391]; exact k4276
  have k4406 : sK S4391 q1496 = 11 := by rw [eS4391]; exact k4278
  have k4407 : sK S4391 q1662 = 11 := by rw [eS4391]; exact k4280
  have k4408 : sK S4391 q1837 = 13 := by rw [eS4391]; exact k4282
  have k4409 : sK S4391 q2021 = 11 := by rw [eS4391]; exact k4284
  have k4410 : sK S4391 q2212 = 11 := by rw [eS4391]; exact k4286
  have k4411 : sK S4391 q2410 = 11 := by rw [eS4391]; exact k4288
  have k4412 : sK S4391 q2615 = 11 := by rw [eS4391]; exact k4290
  have k4413 : sK S4391 q2827 = 11 := by rw [eS4391]; exact k4292
  have k4414 : sK S4391 q3046 = 11 := by rw [eS4391]; exact k4294
  have k4415 : sK S4391 q3272 = 11 := by rw [eS4391]; exact k4296
  have k4416 : sK S4391 q3505 = 11 := by rw [eS4391]; exact k4298
  have k4417 : sK S4391 q3745 = 11 := by rw [eS4391]; exact k4300
  have k4418 : sK S4391 q3992 = 11 := by rw [eS4391]; exact k4302
  have k4419 : sK S4391 q4246 = 11 := by rw [eS4391]; exact k4389
  have r4420 : sR S4391 h 0 = some q1 := by rw [eS4391, rR, if_pos rfl, if_neg (by decide)]; exact r4304
  have r4421 : sR S4391 h 5 = some q64 := by rw [eS4391, rR, if_pos rfl, if_neg (by decide)]; exact r4305
  have r4422 : sR S4391 h 6 = some q134 := by rw [eS4391, rR, if_pos rfl, if_neg (by decide)]; exact r4306
  have r4423 : sR S4391 h 7 = some q211 := by rw [eS4391, rR, if_pos rfl, if_neg (by decide)]; exact r4307
  have r4424 : sR S4391 h 8 = some q295 := by rw [eS4391, rR, if_pos rfl, if_neg (by decide)]; exact r4308
  have r4425 : sR S4391 h 9 = some q386 := by rw [eS4391, rR, if_pos rfl, if_neg (by decide)]; exact r4309
  have r4426 : sR S4391 h 10 = some q484 := by rw [eS4391, rR, if_pos rfl, if_neg (by decide)]; exact r4310
  have r4427 : sR S4391 h 26 = some q689 := by rw [eS4391, rR, if_pos rfl, if_neg (by decide)]; exact r4311
  have r4428 : sR S4391 h 27 = some q801 := by rw [eS4391, rR, if_pos rfl, if_neg (by decide)]; exact r4312
  have r4429 : sR S4391 h 28 = some q922 := by rw [eS4391, rR, if_pos rfl, if_neg (by decide)]; exact r4313
  have r4430 : sR S4391 h 29 = some q1052 := by rw [eS4391, rR, if_pos rfl, if_neg (by decide)]; exact r4314
  have r4431 : sR S4391 h 30 = some q1191 := by rw [eS4391, rR, if_pos rfl, if_neg (by decide)]; exact r4315
  have r4432 : sR S4391 h 31 = some q1339 := by rw [eS4391, rR, if_pos rfl, if_neg (by decide)]; exact r4316
  have r4433 : sR S4391 h 32 = some q1496 := by rw [eS4391, rR, if_pos rfl, if_neg (by decide)]; exact r4317
  have r4434 : sR S4391 h 33 = some q1662 := by rw [eS4391, rR, if_pos rfl, if_neg (by decide)]; exact r4318
  have r4435 : sR S4391 h 34 = some q1837 := by rw [eS4391, rR, if_pos rfl, if_neg (by decide)]; exact r4319
  have r4436 : sR S4391 h 37 = some q2021 := by rw [eS4391, rR, if_pos rfl, if_neg (by decide)]; exact r4320
  have r4437 : sR S4391 h 38 = some q2212 := by rw [eS4391, rR, if_pos rfl, if_neg (by decide)]; exact r4321
  have r4438 : sR S4391 h 39 = some q2410 := by rw [eS4391, rR, if_pos rfl, if_neg (by decide)]; exact r4322
  have r4439 : sR S4391 h 40 = some q2615 := by rw [eS4391, rR, if_pos rfl, if_neg (by decide)]; exact r4323
  have r4440 : sR S4391 h 41 = some q2827 := by rw [eS4391, rR, if_pos rfl, if_neg (by decide)]; exact r4324
  have r4441 : sR S4391 h 42 = some q3046 := by rw [eS4391, rR, if_pos rfl, if_neg (by decide)]; exact r4325
  have r4442 : sR S4391 h 43 = some q3272 := by rw [eS4391, rR, if_pos rfl, if_neg (by decide)]; exact r4326
  have r4443 : sR S4391 h 44 = some q3505 := by rw [eS4391, rR, if_pos rfl, if_neg (by decide)]; exact r4327
  have r4444 : sR S4391 h 45 = some q3745 := by rw [eS4391, rR, if_pos rfl, if_neg (by decide)]; exact r4328
  have r4445 : sR S4391 h 46 = some q3992 := by rw [eS4391, rR, if_pos rfl, if_neg (by decide)]; exact r4329
  have n4446 : sL S4391 q1 = 80 := by rw [eS4391]; exact n4330
  have n4447 : sL S4391 q64 = 6 := by rw [eS4391]; exact n4331
  have n4448 : sL S4391 q134 = 6 := by rw [eS4391]; exact n4332
  have n4449 : sL S4391 q211 = 6 := by rw [eS4391]; exact n4333
  have n4450 : sL S4391 q295 = 6 := by rw [eS4391]; exact n4334
  have n4451 : sL S4391 q386 = 6 := by rw [eS4391]; exact n4335
  have n4452 : sL S4391 q484 = 6 := by rw [eS4391]; exact n4336
  have n4453 : sL S4391 q689 = 24 := by rw [eS4391]; exact n4337
  have n4454 : sL S4391 q801 = 2 := by rw [eS4391]; exact n4338
  have n4455 : sL S4391 q922 = 2 := by rw [eS4391]; exact n4339
  have n4456 : sL S4391 q1052 = 2 := by rw [eS4391]; exact n4340
  have n4457 : sL S4391 q1191 = 2 := by rw [eS4391]; exact n4341
  have n4458 : sL S4391 q1339 = 2 := by rw [eS4391]; exact n4342
  have n4459 : sL S4391 q1496 = 2 := by rw [eS4391]; exact n4343
  have n4460 : sL S4391 q1662 = 2 := by rw [eS4391]; exact n4344
  have n4461 : sL S4391 q1837 = 2 := by rw [eS4391]; exact n4345
  have n4462 : sL S4391 q2021 = 200 := by rw [eS4391]; exact n4346
  have n4463 : sL S4391 q2212 = 200 := by rw [eS4391]; exact n4347
  have n4464 : sL S4391 q2410 = 200 := by rw [eS4391]; exact n4348
  have n4465 : sL S4391 q2615 = 200 := by rw [eS4391]; exact n4349
  have n4466 : sL S4391 q2827 = 200 := by rw [eS4391]; exact n4350
  have n4467 : sL S4391 q3046 = 200 := by rw [eS4391]; exact n4351
  have n4468 : sL S4391 q3272 = 200 := by rw [eS4391]; exact n4352
  have n4469 : sL S4391 q3505 = 200 := by rw [eS4391]; exact n4353
  have n4470 : sL S4391 q3745 = 200 := by rw [eS4391]; exact n4354
  have n4471 : sL S4391 q3992 = 10 := by rw [eS4391]; exact n4355
  have n4472 : sL S4391 q4246 = 10 := by rw [eS4391]; exact n4390
  have w4473 : sI S4391 h 1 = 0 := by rw [eS4391]; exact w4356
  have w4474 : sI S4391 h 2 = 0 := by rw [eS4391]; exact w4357
  have w4475 : sI S4391 h 3 = 0 := by rw [eS4391]; exact w4358
  have w4476 : sI S4391 h 4 = 0 := by rw [eS4391]; exact w4359
  have w4477 : sI S4391 h 11 = 0 := by rw [eS4391]; exact w4360
  have w4478 : sI S4391 h 12 = 0 := by rw [eS4391]; exact w4361
  have w4479 : sI S4391 h 13 = 0 := by rw [eS4391]; exact w4362
  have w4480 : sI S4391 h 14 = 0 := by rw [eS4391]; exact w4363
  have w4481 : sI S4391 h 15 = 0 := by rw [eS4391]; exact w4364
  have w4482 : sI S4391 h 16 = 0 := by rw [eS4391]; exact w4365
  have w4483 : sI S4391 h 17 = 0 := by rw [eS4391]; exact w4366
  have w4484 : sI S4391 h 18 = 0 := by rw [eS4391]; exact w4367
  have w4485 : sI S4391 h 20 = 0 := by rw [eS4391]; exact w4368
  have w4486 : sI S4391 h 21 = 0 := by rw [eS4391]; exact w4369
  have w4487 : sI S4391 h 22 = 0 := by rw [eS4391]; exact w4370
  have w4488 : sI S4391 h 35 = 0 := by rw [eS4391]; exact w4371
  have w4489 : sI S4391 h 36 = 0 := by rw [eS4391]; exact w4372
  have w4490 : sI S4391 h 53 = 0 := by rw [eS4391]; exact w4373
  have w4491 : sI S4391 h 54 = 0 := by rw [eS4391]; exact w4374
  have w4492 : sI S4391 h 55 = 0 := by rw [eS4391]; exact w4375
  have w4493 : sI S4391 h 60 = 0 := by rw [eS4391]; exact w4376
  have w4494 : sI S4391 h 19 = 200 := by rw [eS4391]; exact w4377
  have w4495 : sI S4391 h 23 = 400 := by rw [eS4391]; exact w4378
  have w4496 : sI S4391 h 24 = 3 := by rw [eS4391]; exact w4379
  have w4497 : sI S4391 h 25 = 2 := by rw [eS4391]; exact w4380
  have w4498 : ∀ j, j < 2 → sI S4391 q801 j = 0 := fun j hj => by rw [eS4391]; exact w4381 j hj 
  have w4499 : ∀ j, j < 2 → sI S4391 q922 j = 0 := fun j hj => by rw [eS4391]; exact w4382 j hj 
  have w4500 : ∀ j, j < 2 → sI S4391 q1052 j = 0 := fun j hj => by rw [eS4391]; exact w4383 j hj 
  have w4501 : ∀ j, j < 2 → sI S4391 q1191 j = 0 := fun j hj => by rw [eS4391]; exact w4384 j hj 
  have w4502 : ∀ j, j < 2 → sI S4391 q1339 j = 0 := fun j hj => by rw [eS4391]; exact w4385 j hj 
  have w4503 : ∀ j, j < 2 → sI S4391 q1496 j = 0 := fun j hj => by rw [eS4391]; exact w4386 j hj 
  have w4504 : ∀ j, j < 2 → sI S4391 q1662 j = 0 := fun j hj => by rw [eS4391]; exact w4387 j hj 
  have w4505 : ∀ j, j < 2 → sI S4391 q1837 j = 0 := fun j hj => by rw [eS4391]; exact w4388 j hj 
  have r4506 : sR S4391 h 47 = some q4246 := by rw [eS4391, rR, if_pos rfl, if_pos rfl]
  clear k4250 k4252 k4254 k4256 k4258 k4260 k4262 k4264 k4266 k4268 k4270 k4272 k4274 k4276 k4278 k4280 k4282 k4284 k4286 k4288 k4290 k4292 k4294 k4296 k4298 k4300 k4302 k4389 r4304 r4305 r4306 r4307 r4308 r4309 r4310 r4311 r4312 r4313 r4314 r4315 r4316 r4317 r4318 r4319 r4320 r4321 r4322 r4323 r4324 r4325 r4326 r4327 r4328 r4329 n4330 n4331 n4332 n4333 n4334 n4335 n4336 n4337 n4338 n4339 n4340 n4341 n4342 n4343 n4344 n4345 n4346 n4347 n4348 n4349 n4350 n4351 n4352 n4353 n4354 n4355 n4390 w4356 w4357 w4358 w4359 w4360 w4361 w4362 w4363 w4364 w4365 w4366 w4367 w4368 w4369 w4370 w4371 w4372 w4373 w4374 w4375 w4376 w4377 w4378 w4379 w4380 w4381 w4382 w4383 w4384 w4385 w4386 w4387 w4388
  refine lv_aload_n hx hb dX9_init_245 rfl (lv_at hl 0 rfl) ?_
  refine lv_bipush (v := 10) hx hb dX9_init_246 (by decide) ?_
  refine pg_newa (atype := .int) (ty := .int) (kd := 11) (t0 := 1) (N' := 10) hx hb (hts (.arrayClass .int) (by decide +kernel)) rfl rfl (Or.inl rfl) (by decide) hK hW hS hA (fun _ => rfl) (by decide) (by decide) (Nat.le_of_ble_eq_true rfl) (Nat.le_of_ble_eq_true rfl) (Nat.le_of_ble_eq_true rfl) dX9_init_248 (fun q4507 H hq4507 hW hS => ?_)
  have f4509 : Ap h q4507 := ap_k k4392 hq4507 (by decide)
  have o4510 : 16 ≤ sK S q4507 := hX.old hq4507 (ni_c (ap_s f4509) ni_0)
  have hX : Kx [h] S (stN S4391 q4507 11 10) := hX.N hq4507
  obtain ⟨S4508, eS4508⟩ : ∃ T : St, T = stN S4391 q4507 11 10 := ⟨_, rfl⟩
  rw [← eS4508] at hW hX
  obtain ⟨k4511, d4512⟩ := fk_N (a := h) eS4508 k4392 (by decide) hq4507
  obtain ⟨k4513, d4514⟩ := fk_N (a := q1) eS4508 k4393 (by decide) hq4507
  obtain ⟨k4515, d4516⟩ := fk_N (a := q64) eS4508 k4394 (by decide) hq4507
  obtain ⟨k4517, d4518⟩ := fk_N (a := q134) eS4508 k4395 (by decide) hq4507
  obtain ⟨k4519, d4520⟩ := fk_N (a := q211) eS4508 k4396 (by decide) hq4507
  obtain ⟨k4521, d4522⟩ := fk_N (a := q295) eS4508 k4397 (by decide) hq4507
  obtain ⟨k4523, d4524⟩ := fk_N (a := q386) eS4508 k4398 (by decide) hq4507
  obtain ⟨k4525, d4526⟩ := fk_N (a := q484) eS4508 k4399 (by decide) hq4507
  obtain ⟨k4527, d4528⟩ := fk_N (a := q689) eS4508 k4400 (by decide) hq4507
  obtain ⟨k4529, d4530⟩ := fk_N (a := q801) eS4508 k4401 (by decide) hq4507
  obtain ⟨k4531, d4532⟩ := fk_N (a := q922) eS4508 k4402 (by decide) hq4507
  obtain ⟨k4533, d4534⟩ := fk_N (a := q1052) eS4508 k4403 (by decide) hq4507
  obtain ⟨k4535, d4536⟩ := fk_N (a := q1191) eS4508 k4404 (by decide) hq4507
  obtain ⟨k4537, d4538⟩ := fk_N (a := q1339) eS4508 k4405 (by decide) hq4507
  obtain ⟨k4539, d4540⟩ := fk_N (a := q1496) eS4508 k4406 (by decide) hq4507
  obtain ⟨k4541, d4542⟩ := fk_N (a := q1662) eS4508 k4407 (by decide) hq4507
  obtain ⟨k4543, d4544⟩ := fk_N (a := q1837) eS4508 k4408 (by decide) hq4507
  obtain ⟨k4545, d4546⟩ := fk_N (a := q2021) eS4508 k4409 (by decide) hq4507
  obtain ⟨k4547, d4548⟩ := fk_N (a := q2212) eS4508 k4410 (by decide) hq4507
  obtain ⟨k4549, d4550⟩ := fk_N (a := q2410) eS4508 k4411 (by decide) hq4507
  obtain ⟨k4551, d4552⟩ := fk_N (a := q2615) eS4508 k4412 (by decide) hq4507
  obtain ⟨k4553, d4554⟩ := fk_N (a := q2827) eS4508 k4413 (by decide) hq4507
  obtain ⟨k4555, d4556⟩ := fk_N (a := q3046) eS4508 k4414 (by decide) hq4507
  obtain ⟨k4557, d4558⟩ := fk_N (a := q3272) eS4508 k4415 (by decide) hq4507
  obtain ⟨k4559, d4560⟩ := fk_N (a := q3505) eS4508 k4416 (by decide) hq4507
  obtain ⟨k4561, d4562⟩ := fk_N (a := q3745) eS4508 k4417 (by decide) hq4507
  obtain ⟨k4563, d4564⟩ := fk_N (a := q3992) eS4508 k4418 (by decide) hq4507
  obtain ⟨k4565, d4566⟩ := fk_N (a := q4246) eS4508 k4419 (by decide) hq4507
  have r4567 : sR S4508 h 0 = some q1 := by rw [eS4508, rN, if_neg d4512]; exact r4420
  have r4568 : sR S4508 h 5 = some q64 := by rw [eS4508, rN, if_neg d4512]; exact r4421
  have r4569 : sR S4508 h 6 = some q134 := by rw [eS4508, rN, if_neg d4512]; exact r4422
  have r4570 : sR S4508 h 7 = some q211 := by rw [eS4508, rN, if_neg d4512]; exact r4423
  have r4571 : sR S4508 h 8 = some q295 := by rw [eS4508, rN, if_neg d4512]; exact r4424
  have r4572 : sR S4508 h 9 = some q386 := by rw [eS4508, rN, if_neg d4512]; exact r4425
  have r4573 : sR S4508 h 10 = some q484 := by rw [eS4508, rN, if_neg d4512]; exact r4426
  have r4574 : sR S4508 h 26 = some q689 := by rw [eS4508, rN, if_neg d4512]; exact r4427
  have r4575 : sR S4508 h 27 = some q801 := by rw [eS4508, rN, if_neg d4512]; exact r4428
  have r4576 : sR S4508 h 28 = some q922 := by rw [eS4508, rN, if_neg d4512]; exact r4429
  have r4577 : sR S4508 h 29 = some q1052 := by rw [eS4508, rN, if_neg d4512]; exact r4430
  have r4578 : sR S4508 h 30 = some q1191 := by rw [eS4508, rN, if_neg d4512]; exact r4431
  have r4579 : sR S4508 h 31 = some q1339 := by rw [eS4508, rN, if_neg d4512]; exact r4432
  have r4580 : sR S4508 h 32 = some q1496 := by rw [eS4508, rN, if_neg d4512]; exact r4433
  have r4581 : sR S4508 h 33 = some q1662 := by rw [eS4508, rN, if_neg d4512]; exact r4434
  have r4582 : sR S4508 h 34 = some q1837 := by rw [eS4508, rN, if_neg d4512]; exact r4435
  have r4583 : sR S4508 h 37 = some q2021 := by rw [eS4508, rN, if_neg d4512]; exact r4436
  have r4584 : sR S4508 h 38 = some q2212 := by rw [eS4508, rN, if_neg d4512]; exact r4437
  have r4585 : sR S4508 h 39 = some q2410 := by rw [eS4508, rN, if_neg d4512]; exact r4438
  have r4586 : sR S4508 h 40 = some q2615 := by rw [eS4508, rN, if_neg d4512]; exact r4439
  have r4587 : sR S4508 h 41 = some q2827 := by rw [eS4508, rN, if_neg d4512]; exact r4440
  have r4588 : sR S4508 h 42 = some q3046 := by rw [eS4508, rN, if_neg d4512]; exact r4441
  have r4589 : sR S4508 h 43 = some q3272 := by rw [eS4508, rN, if_neg d4512]; exact r4442
  have r4590 : sR S4508 h 44 = some q3505 := by rw [eS4508, rN, if_neg d4512]; exact r4443
  have r4591 : sR S4508 h 45 = some q3745 := by rw [eS4508, rN, if_neg d4512]; exact r4444
  have r4592 : sR S4508 h 46 = some q3992 := by rw [eS4508, rN, if_neg d4512]; exact r4445
  have r4593 : sR S4508 h 47 = some q4246 := by rw [eS4508, rN, if_neg d4512]; exact r4506
  have n4594 : sL S4508 q1 = 80 := by rw [eS4508, lNw, if_neg d4514]; exact n4446
  have n4595 : sL S4508 q64 = 6 := by rw [eS4508, lNw, if_neg d4516]; exact n4447
  have n4596 : sL S4508 q134 = 6 := by rw [eS4508, lNw, if_neg d4518]; exact n4448
  have n4597 : sL S4508 q211 = 6 := by rw [eS4508, lNw, if_neg d4520]; exact n4449
  have n4598 : sL S4508 q295 = 6 := by rw [eS4508, lNw, if_neg d4522]; exact n4450
  have n4599 : sL S4508 q386 = 6 := by rw [eS4508, lNw, if_neg d4524]; exact n4451
  have n4600 : sL S4508 q484 = 6 := by rw [eS4508, lNw, if_neg d4526]; exact n4452
  have n4601 : sL S4508 q689 = 24 := by rw [eS4508, lNw, if_neg d4528]; exact n4453
  have n4602 : sL S4508 q801 = 2 := by rw [eS4508, lNw, if_neg d4530]; exact n4454
  have n4603 : sL S4508 q922 = 2 := by rw [eS4508, lNw, if_neg d4532]; exact n4455
  have n4604 : sL S4508 q1052 = 2 := by rw [eS4508, lNw, if_neg d4534]; exact n4456
  have n4605 : sL S4508 q1191 = 2 := by rw [eS4508, lNw, if_neg d4536]; exact n4457
  have n4606 : sL S4508 q1339 = 2 := by rw [eS4508, lNw, if_neg d4538]; exact n4458
  have n4607 : sL S4508 q1496 = 2 := by rw [eS4508, lNw, if_neg d4540]; exact n4459
  have n4608 : sL S4508 q1662 = 2 := by rw [eS4508, lNw, if_neg d4542]; exact n4460
  have n4609 : sL S4508 q1837 = 2 := by rw [eS4508, lNw, if_neg d4544]; exact n4461
  have n4610 : sL S4508 q2021 = 200 := by rw [eS4508, lNw, if_neg d4546]; exact n4462
  have n4611 : sL S4508 q2212 = 200 := by rw [eS4508, lNw, if_neg d4548]; exact n4463
  have n4612 : sL S4508 q2410 = 200 := by rw [eS4508, lNw, if_neg d4550]; exact n4464
  have n4613 : sL S4508 q2615 = 200 := by rw [eS4508, lNw, if_neg d4552]; exact n4465
  have n4614 : sL S4508 q2827 = 200 := by rw [eS4508, lNw, if_neg d4554]; exact n4466
  have n4615 : sL S4508 q3046 = 200 := by rw [eS4508, lNw, if_neg d4556]; exact n4467
  have n4616 : sL S4508 q3272 = 200 := by rw [eS4508, lNw, if_neg d4558]; exact n4468
  have n4617 : sL S4508 q3505 = 200 := by rw [eS4508, lNw, if_neg d4560]; exact n4469
  have n4618 : sL S4508 q3745 = 200 := by rw [eS4508, lNw, if_neg d4562]; exact n4470
  have n4619 : sL S4508 q3992 = 10 := by rw [eS4508, lNw, if_neg d4564]; exact n4471
  have n4620 : sL S4508 q4246 = 10 := by rw [eS4508, lNw, if_neg d4566]; exact n4472
  have w4621 : sI S4508 h 1 = 0 := by rw [eS4508, iN, if_neg d4512]; exact w4473
  have w4622 : sI S4508 h 2 = 0 := by rw [eS4508, iN, if_neg d4512]; exact w4474
  have w4623 : sI S4508 h 3 = 0 := by rw [eS4508, iN, if_neg d4512]; exact w4475
  have w4624 : sI S4508 h 4 = 0 := by rw [eS4508, iN, if_neg d4512]; exact w4476
  have w4625 : sI S4508 h 11 = 0 := by rw [eS4508, iN, if_neg d4512]; exact w4477
  have w4626 : sI S4508 h 12 = 0 := by rw [eS4508, iN, if_neg d4512]; exact w4478
  have w4627 : sI S4508 h 13 = 0 := by rw [eS4508, iN, if_neg d4512]; exact w4479
  have w4628 : sI S4508 h 14 = 0 := by rw [eS4508, iN, if_neg d4512]; exact w4480
  have w4629 : sI S4508 h 15 = 0 := by rw [eS4508, iN, if_neg d4512]; exact w4481
  have w4630 : sI S4508 h 16 = 0 := by rw [eS4508, iN, if_neg d4512]; exact w4482
  have w4631 : sI S4508 h 17 = 0 := by rw [eS4508, iN, if_neg d4512]; exact w4483
  have w4632 : sI S4508 h 18 = 0 := by rw [eS4508, iN, if_neg d4512]; exact w4484
  have w4633 : sI S4508 h 20 = 0 := by rw [eS4508, iN, if_neg d4512]; exact w4485
  have w4634 : sI S4508 h 21 = 0 := by rw [eS4508, iN, if_neg d4512]; exact w4486
  have w4635 : sI S4508 h 22 = 0 := by rw [eS4508, iN, if_neg d4512]; exact w4487
  have w4636 : sI S4508 h 35 = 0 := by rw [eS4508, iN, if_neg d4512]; exact w4488
  have w4637 : sI S4508 h 36 = 0 := by rw [eS4508, iN, if_neg d4512]; exact w4489
  have w4638 : sI S4508 h 53 = 0 := by rw [eS4508, iN, if_neg d4512]; exact w4490
  have w4639 : sI S4508 h 54 = 0 := by rw [eS4508, iN, if_neg d4512]; exact w4491
  have w4640 : sI S4508 h 55 = 0 := by rw [eS4508, iN, if_neg d4512]; exact w4492
  have w4641 : sI S4508 h 60 = 0 := by rw [eS4508, iN, if_neg d4512]; exact w4493
  have w4642 : sI S4508 h 19 = 200 := by rw [eS4508, iN, if_neg d4512]; exact w4494
  have w4643 : sI S4508 h 23 = 400 := by rw [eS4508, iN, if_neg d4512]; exact w4495
  have w4644 : sI S4508 h 24 = 3 := by rw [eS4508, iN, if_neg d4512]; exact w4496
  have w4645 : sI S4508 h 25 = 2 := by rw [eS4508, iN, if_neg d4512]; exact w4497
  have w4646 : ∀ j, j < 2 → sI S4508 q801 j = 0 := fun j hj => by rw [eS4508, iN, if_neg d4530]; exact w4498 j hj 
  have w4647 : ∀ j, j < 2 → sI S4508 q922 j = 0 := fun j hj => by rw [eS4508, iN, if_neg d4532]; exact w4499 j hj 
  have w4648 : ∀ j, j < 2 → sI S4508 q1052 j = 0 := fun j hj => by rw [eS4508, iN, if_neg d4534]; exact w4500 j hj 
  have w4649 : ∀ j, j < 2 → sI S4508 q1191 j = 0 := fun j hj => by rw [eS4508, iN, if_neg d4536]; exact w4501 j hj 
  have w4650 : ∀ j, j < 2 → sI S4508 q1339 j = 0 := fun j hj => by rw [eS4508, iN, if_neg d4538]; exact w4502 j hj 
  have w4651 : ∀ j, j < 2 → sI S4508 q1496 j = 0 := fun j hj => by rw [eS4508, iN, if_neg d4540]; exact w4503 j hj 
  have w4652 : ∀ j, j < 2 → sI S4508 q1662 j = 0 := fun j hj => by rw [eS4508, iN, if_neg d4542]; exact w4504 j hj 
  have w4653 : ∀ j, j < 2 → sI S4508 q1837 j = 0 := fun j hj => by rw [eS4508, iN, if_neg d4544]; exact w4505 j hj 
  have k4654 : sK S4508 q4507 = 11 := by rw [eS4508, kN, if_pos rfl]
  have n4655 : sL S4508 q4507 = 10 := by rw [eS4508, lNw, if_pos rfl]
  clear k4392 k4393 k4394 k4395 k4396 k4397 k4398 k4399 k4400 k4401 k4402 k4403 k4404 k4405 k4406 k4407 k4408 k4409 k4410 k4411 k4412 k4413 k4414 k4415 k4416 k4417 k4418 k4419 r4420 r4421 r4422 r4423 r4424 r4425 r4426 r4427 r4428 r4429 r4430 r4431 r4432 r4433 r4434 r4435 r4436 r4437 r4438 r4439 r4440 r4441 r4442 r4443 r4444 r4445 r4506 n4446 n4447 n4448 n4449 n4450 n4451 n4452 n4453 n4454 n4455 n4456 n4457 n4458 n4459 n4460 n4461 n4462 n4463 n4464 n4465 n4466 n4467 n4468 n4469 n4470 n4471 n4472 w4473 w4474 w4475 w4476 w4477 w4478 w4479 w4480 w4481 w4482 w4483 w4484 w4485 w4486 w4487 w4488 w4489 w4490 w4491 w4492 w4493 w4494 w4495 w4496 w4497 w4498 w4499 w4500 w4501 w4502 w4503 w4504 w4505
  refine pg_pr (ci := 9) (C := RX9) (T := TX9) (N := 63) hx hb hts wi9 tyX9 tyX9_ok nmX9 hown hK hW hS k4511 (by decide) rfl 48 (by decide) (hts (.fieldLink RX9 106 "IceHallModel" "closedTo" "[I") (by decide +kernel)) (fun _ h9 => h9) rfl hnm rfl rfl rfl rfl dX9_init_250 (fun H locs hW hS => ?_)
  have hX : Kx [h] S (stR S4508 h 48 (some q4507)) := hX.Rh List.mem_cons_self
  obtain ⟨S4656, eS4656⟩ : ∃ T : St, T = stR S4508 h 48 (some q4507) := ⟨_, rfl⟩
  rw [← eS4656] at hW hX
  have k4657 : sK S4656 h = 9 := by rw [eS4656]; exact k4511
  have k4658 : sK S4656 q1 = 10 := by rw [eS4656]; exact k4513
  have k4659 : sK S4656 q64 = 11 := by rw [eS4656]; exact k4515
  have k4660 : sK S4656 q134 = 11 := by rw [eS4656]; exact k4517
  have k4661 : sK S4656 q211 = 11 := by rw [eS4656]; exact k4519
  have k4662 : sK S4656 q295 = 11 := by rw [eS4656]; exact k4521
  have k4663 : sK S4656 q386 = 11 := by rw [eS4656]; exact k4523
  have k4664 : sK S4656 q484 = 11 := by rw [eS4656]; exact k4525
  have k4665 : sK S4656 q689 = 11 := by rw [eS4656]; exact k4527
  have k4666 : sK S4656 q801 = 11 := by rw [eS4656]; exact k4529
  have k4667 : sK S4656 q922 = 11 := by rw [eS4656]; exact k4531
  have k4668 : sK S4656 q1052 = 11 := by rw [eS4656]; exact k4533
  have k4669 : sK S4656 q1191 = 11 := by rw [eS4656]; exact k4535
  have k4670 : sK S4656 q1339 = 11 := by rw [eS4656]; exact k4537
  have k4671 : sK S4656 q1496 = 11 := by rw [eS4656]; exact k4539
  have k4672 : sK S4656 q1662 = 11 := by rw [eS4656]; exact k4541
  have k4673 : sK S4656 q1837 = 13 := by rw [eS4656]; exact k4543
  have k4674 : sK S4656 q2021 = 11 := by rw [eS4656]; exact k4545
  have k4675 : sK S4656 q2212 = 11 := by rw [eS4656]; exact k4547
  have k4676 : sK S4656 q2410 = 11 := by rw [eS4656]; exact k4549
  have k4677 : sK S4656 q2615 = 11 := by rw [eS4656]; exact k4551
  have k4678 : sK S4656 q2827 = 11 := by rw [eS4656]; exact k4553
  have k4679 : sK S4656 q3046 = 11 := by rw [eS4656]; exact k4555
  have k4680 : sK S4656 q3272 = 11 := by rw [eS4656]; exact k4557
  have k4681 : sK S4656 q3505 = 11 := by rw [eS4656]; exact k4559
  have k4682 : sK S4656 q3745 = 11 := by rw [eS4656]; exact k4561
  have k4683 : sK S4656 q3992 = 11 := by rw [eS4656]; exact k4563
  have k4684 : sK S4656 q4246 = 11 := by rw [eS4656]; exact k4565
  have k4685 : sK S4656 q4507 = 11 := by rw [eS4656]; exact k4654
  have r4686 : sR S4656 h 0 = some q1 := by rw [eS4656, rR, if_pos rfl, if_neg (by decide)]; exact r4567
  have r4687 : sR S4656 h 5 = some q64 := by rw [eS4656, rR, if_pos rfl, if_neg (by decide)]; exact r4568
  have r4688 : sR S4656 h 6 = some q134 := by rw [eS4656, rR, if_pos rfl, if_neg (by decide)]; exact r4569
  have r4689 : sR S4656 h 7 = some q211 := by rw [eS4656, rR, if_pos rfl, if_neg (by decide)]; exact r4570
  have r4690 : sR S4656 h 8 = some q295 := by rw [eS4656, rR, if_pos rfl, if_neg (by decide)]; exact r4571
  have r4691 : sR S4656 h 9 = some q386 := by rw [eS4656, rR, if_pos rfl, if_neg (by decide)]; exact r4572
  have r4692 : sR S4656 h 10 = some q484 := by rw [eS4656, rR, if_pos rfl, if_neg (by decide)]; exact r4573
  have r4693 : sR S4656 h 26 = some q689 := by rw [eS4656, rR, if_pos rfl, if_neg (by decide)]; exact r4574
  have r4694 : sR S4656 h 27 = some q801 := by rw [eS4656, rR, if_pos rfl, if_neg (by decide)]; exact r4575
  have r4695 : sR S4656 h 28 = some q922 := by rw [eS4656, rR, if_pos rfl, if_neg (by decide)]; exact r4576
  have r4696 : sR S4656 h 29 = some q1052 := by rw [eS4656, rR, if_pos rfl, if_neg (by decide)]; exact r4577
  have r4697 : sR S4656 h 30 = some q1191 := by rw [eS4656, rR, if_pos rfl, if_neg (by decide)]; exact r4578
  have r4698 : sR S4656 h 31 = some q1339 := by rw [eS4656, rR, if_pos rfl, if_neg (by decide)]; exact r4579
  have r4699 : sR S4656 h 32 = some q1496 := by rw [eS4656, rR, if_pos rfl, if_neg (by decide)]; exact r4580
  have r4700 : sR S4656 h 33 = some q1662 := by rw [eS4656, rR, if_pos rfl, if_neg (by decide)]; exact r4581
  have r4701 : sR S4656 h 34 = some q1837 := by rw [eS4656, rR, if_pos rfl, if_neg (by decide)]; exact r4582
  have r4702 : sR S4656 h 37 = some q2021 := by rw [eS4656, rR, if_pos rfl, if_neg (by decide)]; exact r4583
  have r4703 : sR S4656 h 38 = some q2212 := by rw [eS4656, rR, if_pos rfl, if_neg (by decide)]; exact r4584
  have r4704 : sR S4656 h 39 = some q2410 := by rw [eS4656, rR, if_pos rfl, if_neg (by decide)]; exact r4585
  have r4705 : sR S4656 h 40 = some q2615 := by rw [eS4656, rR, if_pos rfl, if_neg (by decide)]; exact r4586
  have r4706 : sR S4656 h 41 = some q2827 := by rw [eS4656, rR, if_pos rfl, if_neg (by decide)]; exact r4587
  have r4707 : sR S4656 h 42 = some q3046 := by rw [eS4656, rR, if_pos rfl, if_neg (by decide)]; exact r4588
  have r4708 : sR S4656 h 43 = some q3272 := by rw [eS4656, rR, if_pos rfl, if_neg (by decide)]; exact r4589
  have r4709 : sR S4656 h 44 = some q3505 := by rw [eS4656, rR, if_pos rfl, if_neg (by decide)]; exact r4590
  have r4710 : sR S4656 h 45 = some q3745 := by rw [eS4656, rR, if_pos rfl, if_neg (by decide)]; exact r4591
  have r4711 : sR S4656 h 46 = some q3992 := by rw [eS4656, rR, if_pos rfl, if_neg (by decide)]; exact r4592
  have r4712 : sR S4656 h 47 = some q4246 := by rw [eS4656, rR, if_pos rfl, if_neg (by decide)]; exact r4593
  have n4713 : sL S4656 q1 = 80 := by rw [eS4656]; exact n4594
  have n4714 : sL S4656 q64 = 6 := by rw [eS4656]; exact n4595
  have n4715 : sL S4656 q134 = 6 := by rw [eS4656]; exact n4596
  have n4716 : sL S4656 q211 = 6 := by rw [eS4656]; exact n4597
  have n4717 : sL S4656 q295 = 6 := by rw [eS4656]; exact n4598
  have n4718 : sL S4656 q386 = 6 := by rw [eS4656]; exact n4599
  have n4719 : sL S4656 q484 = 6 := by rw [eS4656]; exact n4600
  have n4720 : sL S4656 q689 = 24 := by rw [eS4656]; exact n4601
  have n4721 : sL S4656 q801 = 2 := by rw [eS4656]; exact n4602
  have n4722 : sL S4656 q922 = 2 := by rw [eS4656]; exact n4603
  have n4723 : sL S4656 q1052 = 2 := by rw [eS4656]; exact n4604
  have n4724 : sL S4656 q1191 = 2 := by rw [eS4656]; exact n4605
  have n4725 : sL S4656 q1339 = 2 := by rw [eS4656]; exact n4606
  have n4726 : sL S4656 q1496 = 2 := by rw [eS4656]; exact n4607
  have n4727 : sL S4656 q1662 = 2 := by rw [eS4656]; exact n4608
  have n4728 : sL S4656 q1837 = 2 := by rw [eS4656]; exact n4609
  have n4729 : sL S4656 q2021 = 200 := by rw [eS4656]; exact n4610
  have n4730 : sL S4656 q2212 = 200 := by rw [eS4656]; exact n4611
  have n4731 : sL S4656 q2410 = 200 := by rw [eS4656]; exact n4612
  have n4732 : sL S4656 q2615 = 200 := by rw [eS4656]; exact n4613
  have n4733 : sL S4656 q2827 = 200 := by rw [eS4656]; exact n4614
  have n4734 : sL S4656 q3046 = 200 := by rw [eS4656]; exact n4615
  have n4735 : sL S4656 q3272 = 200 := by rw [eS4656]; exact n4616
  have n4736 : sL S4656 q3505 = 200 := by rw [eS4656]; exact n4617
  have n4737 : sL S4656 q3745 = 200 := by rw [eS4656]; exact n4618
  have n4738 : sL S4656 q3992 = 10 := by rw [eS4656]; exact n4619
  have n4739 : sL S4656 q4246 = 10 := by rw [eS4656]; exact n4620
  have n4740 : sL S4656 q4507 = 10 := by rw [eS4656]; exact n4655
  have w4741 : sI S4656 h 1 = 0 := by rw [eS4656]; exact w4621
  have w4742 : sI S4656 h 2 = 0 := by rw [eS4656]; exact w4622
  have w4743 : sI S4656 h 3 = 0 := by rw [eS4656]; exact w4623
  have w4744 : sI S4656 h 4 = 0 := by rw [eS4656]; exact w4624
  have w4745 : sI S4656 h 11 = 0 := by rw [eS4656]; exact w4625
  have w4746 : sI S4656 h 12 = 0 := by rw [eS4656]; exact w4626
  have w4747 : sI S4656 h 13 = 0 := by rw [eS4656]; exact w4627
  have w4748 : sI S4656 h 14 = 0 := by rw [eS4656]; exact w4628
  have w4749 : sI S4656 h 15 = 0 := by rw [eS4656]; exact w4629
  have w4750 : sI S4656 h 16 = 0 := by rw [eS4656]; exact w4630
  have w4751 : sI S4656 h 17 = 0 := by rw [eS4656]; exact w4631
  have w4752 : sI S4656 h 18 = 0 := by rw [eS4656]; exact w4632
  have w4753 : sI S4656 h 20 = 0 := by rw [eS4656]; exact w4633
  have w4754 : sI S4656 h 21 = 0 := by rw [eS4656]; exact w4634
  have w4755 : sI S4656 h 22 = 0 := by rw [eS4656]; exact w4635
  have w4756 : sI S4656 h 35 = 0 := by rw [eS4656]; exact w4636
  have w4757 : sI S4656 h 36 = 0 := by rw [eS4656]; exact w4637
  have w4758 : sI S4656 h 53 = 0 := by rw [eS4656]; exact w4638
  have w4759 : sI S4656 h 54 = 0 := by rw [eS4656]; exact w4639
  have w4760 : sI S4656 h 55 = 0 := by rw [eS4656]; exact w4640
  have w4761 : sI S4656 h 60 = 0 := by rw [eS4656]; exact w4641
  have w4762 : sI S4656 h 19 = 200 := by rw [eS4656]; exact w4642
  have w4763 : sI S4656 h 23 = 400 := by rw [eS4656]; exact w4643
  have w4764 : sI S4656 h 24 = 3 := by rw [eS4656]; exact w4644
  have w4765 : sI S4656 h 25 = 2 := by rw [eS4656]; exact w4645
  have w4766 : ∀ j, j < 2 → sI S4656 q801 j = 0 := fun j hj => by rw [eS4656]; exact w4646 j hj 
  have w4767 : ∀ j, j < 2 → sI S4656 q922 j = 0 := fun j hj => by rw [eS4656]; exact w4647 j hj 
  have w4768 : ∀ j, j < 2 → sI S4656 q1052 j = 0 := fun j hj => by rw [eS4656]; exact w4648 j hj 
  have w4769 : ∀ j, j < 2 → sI S4656 q1191 j = 0 := fun j hj => by rw [eS4656]; exact w4649 j hj 
  have w4770 : ∀ j, j < 2 → sI S4656 q1339 j = 0 := fun j hj => by rw [eS4656]; exact w4650 j hj 
  have w4771 : ∀ j, j < 2 → sI S4656 q1496 j = 0 := fun j hj => by rw [eS4656]; exact w4651 j hj 
  have w4772 : ∀ j, j < 2 → sI S4656 q1662 j = 0 := fun j hj => by rw [eS4656]; exact w4652 j hj 
  have w4773 : ∀ j, j < 2 → sI S4656 q1837 j = 0 := fun j hj => by rw [eS4656]; exact w4653 j hj 
  have r4774 : sR S4656 h 48 = some q4507 := by rw [eS4656, rR, if_pos rfl, if_pos rfl]
  clear k4511 k4513 k4515 k4517 k4519 k4521 k4523 k4525 k4527 k4529 k4531 k4533 k4535 k4537 k4539 k4541 k4543 k4545 k4547 k4549 k4551 k4553 k4555 k4557 k4559 k4561 k4563 k4565 k4654 r4567 r4568 r4569 r4570 r4571 r4572 r4573 r4574 r4575 r4576 r4577 r4578 r4579 r4580 r4581 r4582 r4583 r4584 r4585 r4586 r4587 r4588 r4589 r4590 r4591 r4592 r4593 n4594 n4595 n4596 n4597 n4598 n4599 n4600 n4601 n4602 n4603 n4604 n4605 n4606 n4607 n4608 n4609 n4610 n4611 n4612 n4613 n4614 n4615 n4616 n4617 n4618 n4619 n4620 n4655 w4621 w4622 w4623 w4624 w4625 w4626 w4627 w4628 w4629 w4630 w4631 w4632 w4633 w4634 w4635 w4636 w4637 w4638 w4639 w4640 w4641 w4642 w4643 w4644 w4645 w4646 w4647 w4648 w4649 w4650 w4651 w4652 w4653
  refine lv_aload_n hx hb dX9_init_253 rfl (lv_at hl 0 rfl) ?_
  refine lv_iconst (v := 5) hx hb dX9_init_254 (by decide) ?_
  refine pg_newa (atype := .int) (ty := .int) (kd := 11) (t0 := 1) (N' := 5) hx hb (hts (.arrayClass .int) (by decide +kernel)) rfl rfl (Or.inl rfl) (by decide) hK hW hS hA (fun _ => rfl) (by decide) (by decide) (Nat.le_of_ble_eq_true rfl) (Nat.le_of_ble_eq_true rfl) (Nat.le_of_ble_eq_true rfl) dX9_init_255 (fun q4775 H hq4775 hW hS => ?_)
  have f4777 : Ap h q4775 := ap_k k4657 hq4775 (by decide)
  have o4778 : 16 ≤ sK S q4775 := hX.old hq4775 (ni_c (ap_s f4777) ni_0)
  have hX : Kx [h] S (stN S4656 q4775 11 5) := hX.N hq4775
  obtain ⟨S4776, eS4776⟩ : ∃ T : St, T = stN S4656 q4775 11 5 := ⟨_, rfl⟩
  rw [← eS4776] at hW hX
  obtain ⟨k4779, d4780⟩ := fk_N (a := h) eS4776 k4657 (by decide) hq4775
  obtain ⟨k4781, d4782⟩ := fk_N (a := q1) eS4776 k4658 (by decide) hq4775
  obtain ⟨k4783, d4784⟩ := fk_N (a := q64) eS4776 k4659 (by decide) hq4775
  obtain ⟨k4785, d4786⟩ := fk_N (a := q134) eS4776 k4660 (by decide) hq4775
  obtain ⟨k4787, d4788⟩ := fk_N (a := q211) eS4776 k4661 (by decide) hq4775
  obtain ⟨k4789, d4790⟩ := fk_N (a := q295) eS4776 k4662 (by decide) hq4775
  obtain ⟨k4791, d4792⟩ := fk_N (a := q386) eS4776 k4663 (by decide) hq4775
  obtain ⟨k4793, d4794⟩ := fk_N (a := q484) eS4776 k4664 (by decide) hq4775
  obtain ⟨k4795, d4796⟩ := fk_N (a := q689) eS4776 k4665 (by decide) hq4775
  obtain ⟨k4797, d4798⟩ := fk_N (a := q801) eS4776 k4666 (by decide) hq4775
  obtain ⟨k4799, d4800⟩ := fk_N (a := q922) eS4776 k4667 (by decide) hq4775
  obtain ⟨k4801, d4802⟩ := fk_N (a := q1052) eS4776 k4668 (by decide) hq4775
  obtain ⟨k4803, d4804⟩ := fk_N (a := q1191) eS4776 k4669 (by decide) hq4775
  obtain ⟨k4805, d4806⟩ := fk_N (a := q1339) eS4776 k4670 (by decide) hq4775
  obtain ⟨k4807, d4808⟩ := fk_N (a := q1496) eS4776 k4671 (by decide) hq4775
  obtain ⟨k4809, d4810⟩ := fk_N (a := q1662) eS4776 k4672 (by decide) hq4775
  obtain ⟨k4811, d4812⟩ := fk_N (a := q1837) eS4776 k4673 (by decide) hq4775
  obtain ⟨k4813, d4814⟩ := fk_N (a := q2021) eS4776 k4674 (by decide) hq4775
  obtain ⟨k4815, d4816⟩ := fk_N (a := q2212) eS4776 k4675 (by decide) hq4775
  obtain ⟨k4817, d4818⟩ := fk_N (a := q2410) eS4776 k4676 (by decide) hq4775
  obtain ⟨k4819, d4820⟩ := fk_N (a := q2615) eS4776 k4677 (by decide) hq4775
  obtain ⟨k4821, d4822⟩ := fk_N (a := q2827) eS4776 k4678 (by decide) hq4775
  obtain ⟨k4823, d4824⟩ := fk_N (a := q3046) eS4776 k4679 (by decide) hq4775
  obtain ⟨k4825, d4826⟩ := fk_N (a := q3272) eS4776 k4680 (by decide) hq4775
  obtain ⟨k4827, d4828⟩ := fk_N (a := q3505) eS4776 k4681 (by decide) hq4775
  obtain ⟨k4829, d4830⟩ := fk_N (a := q3745) eS4776 k4682 (by decide) hq4775
  obtain ⟨k4831, d4832⟩ := fk_N (a := q3992) eS4776 k4683 (by decide) hq4775
  obtain ⟨k4833, d4834⟩ := fk_N (a := q4246) eS4776 k4684 (by decide) hq4775
  obtain ⟨k4835, d4836⟩ := fk_N (a := q4507) eS4776 k4685 (by decide) hq4775
  have r4837 : sR S4776 h 0 = some q1 := by rw [eS4776, rN, if_neg d4780]; exact r4686
  have r4838 : sR S4776 h 5 = some q64 := by rw [eS4776, rN, if_neg d4780]; exact r4687
  have r4839 : sR S4776 h 6 = some q134 := by rw [eS4776, rN, if_neg d4780]; exact r4688
  have r4840 : sR S4776 h 7 = some q211 := by rw [eS4776, rN, if_neg d4780]; exact r4689
  have r4841 : sR S4776 h 8 = some q295 := by rw [eS4776, rN, if_neg d4780]; exact r4690
  have r4842 : sR S4776 h 9 = some q386 := by rw [eS4776, rN, if_neg d4780]; exact r4691
  have r4843 : sR S4776 h 10 = some q484 := by rw [eS4776, rN, if_neg d4780]; exact r4692
  have r4844 : sR S4776 h 26 = some q689 := by rw [eS4776, rN, if_neg d4780]; exact r4693
  have r4845 : sR S4776 h 27 = some q801 := by rw [eS4776, rN, if_neg d4780]; exact r4694
  have r4846 : sR S4776 h 28 = some q922 := by rw [eS4776, rN, if_neg d4780]; exact r4695
  have r4847 : sR S4776 h 29 = some q1052 := by rw [eS4776, rN, if_neg d4780]; exact r4696
  have r4848 : sR S4776 h 30 = some q1191 := by rw [eS4776, rN, if_neg d4780]; exact r4697
  have r4849 : sR S4776 h 31 = some q1339 := by rw [eS4776, rN, if_neg d4780]; exact r4698
  have r4850 : sR S4776 h 32 = some q1496 := by rw [eS4776, rN, if_neg d4780]; exact r4699
  have r4851 : sR S4776 h 33 = some q1662 := by rw [eS4776, rN, if_neg d4780]; exact r4700
  have r4852 : sR S4776 h 34 = some q1837 := by rw [eS4776, rN, if_neg d4780]; exact r4701
  have r4853 : sR S4776 h 37 = some q2021 := by rw [eS4776, rN, if_neg d4780]; exact r4702
  have r4854 : sR S4776 h 38 = some q2212 := by rw [eS4776, rN, if_neg d4780]; exact r4703
  have r4855 : sR S4776 h 39 = some q2410 := by rw [eS4776, rN, if_neg d4780]; exact r4704
  have r4856 : sR S4776 h 40 = some q2615 := by rw [eS4776, rN, if_neg d4780]; exact r4705
  have r4857 : sR S4776 h 41 = some q2827 := by rw [eS4776, rN, if_neg d4780]; exact r4706
  have r4858 : sR S4776 h 42 = some q3046 := by rw [eS4776, rN, if_neg d4780]; exact r4707
  have r4859 : sR S4776 h 43 = some q3272 := by rw [eS4776, rN, if_neg d4780]; exact r4708
  have r4860 : sR S4776 h 44 = some q3505 := by rw [eS4776, rN, if_neg d4780]; exact r4709
  have r4861 : sR S4776 h 45 = some q3745 := by rw [eS4776, rN, if_neg d4780]; exact r4710
  have r4862 : sR S4776 h 46 = some q3992 := by rw [eS4776, rN, if_neg d4780]; exact r4711
  have r4863 : sR S4776 h 47 = some q4246 := by rw [eS4776, rN, if_neg d4780]; exact r4712
  have r4864 : sR S4776 h 48 = some q4507 := by rw [eS4776, rN, if_neg d4780]; exact r4774
  have n4865 : sL S4776 q1 = 80 := by rw [eS4776, lNw, if_neg d4782]; exact n4713
  have n4866 : sL S4776 q64 = 6 := by rw [eS4776, lNw, if_neg d4784]; exact n4714
  have n4867 : sL S4776 q134 = 6 := by rw [eS4776, lNw, if_neg d4786]; exact n4715
  have n4868 : sL S4776 q211 = 6 := by rw [eS4776, lNw, if_neg d4788]; exact n4716
  have n4869 : sL S4776 q295 = 6 := by rw [eS4776, lNw, if_neg d4790]; exact n4717
  have n4870 : sL S4776 q386 = 6 := by rw [eS4776, lNw, if_neg d4792]; exact n4718
  have n4871 : sL S4776 q484 = 6 := by rw [eS4776, lNw, if_neg d4794]; exact n4719
  have n4872 : sL S4776 q689 = 24 := by rw [eS4776, lNw, if_neg d4796]; exact n4720
  have n4873 : sL S4776 q801 = 2 := by rw [eS4776, lNw, if_neg d4798]; exact n4721
  have n4874 : sL S4776 q922 = 2 := by rw [eS4776, lNw, if_neg d4800]; exact n4722
  have n4875 : sL S4776 q1052 = 2 := by rw [eS4776, lNw, if_neg d4802]; exact n4723
  have n4876 : sL S4776 q1191 = 2 := by rw [eS4776, lNw, if_neg d4804]; exact n4724
  have n4877 : sL S4776 q1339 = 2 := by rw [eS4776, lNw, if_neg d4806]; exact n4725
  have n4878 : sL S4776 q1496 = 2 := by rw [eS4776, lNw, if_neg d4808]; exact n4726
  have n4879 : sL S4776 q1662 = 2 := by rw [eS4776, lNw, if_neg d4810]; exact n4727
  have n4880 : sL S4776 q1837 = 2 := by rw [eS4776, lNw, if_neg d4812]; exact n4728
  have n4881 : sL S4776 q2021 = 200 := by rw [eS4776, lNw, if_neg d4814]; exact n4729
  have n4882 : sL S4776 q2212 = 200 := by rw [eS4776, lNw, if_neg d4816]; exact n4730
  have n4883 : sL S4776 q2410 = 200 := by rw [eS4776, lNw, if_neg d4818]; exact n4731
  have n4884 : sL S4776 q2615 = 200 := by rw [eS4776, lNw, if_neg d4820]; exact n4732
  have n4885 : sL S4776 q2827 = 200 := by rw [eS4776, lNw, if_neg d4822]; exact n4733
  have n4886 : sL S4776 q3046 = 200 := by rw [eS4776, lNw, if_neg d4824]; exact n4734
  have n4887 : sL S4776 q3272 = 200 := by rw [eS4776, lNw, if_neg d4826]; exact n4735
  have n4888 : sL S4776 q3505 = 200 := by rw [eS4776, lNw, if_neg d4828]; exact n4736
  have n4889 : sL S4776 q3745 = 200 := by rw [eS4776, lNw, if_neg d4830]; exact n4737
  have n4890 : sL S4776 q3992 = 10 := by rw [eS4776, lNw, if_neg d4832]; exact n4738
  have n4891 : sL S4776 q4246 = 10 := by rw [eS4776, lNw, if_neg d4834]; exact n4739
  have n4892 : sL S4776 q4507 = 10 := by rw [eS4776, lNw, if_neg d4836]; exact n4740
  have w4893 : sI S4776 h 1 = 0 := by rw [eS4776, iN, if_neg d4780]; exact w4741
  have w4894 : sI S4776 h 2 = 0 := by rw [eS4776, iN, if_neg d4780]; exact w4742
  have w4895 : sI S4776 h 3 = 0 := by rw [eS4776, iN, if_neg d4780]; exact w4743
  have w4896 : sI S4776 h 4 = 0 := by rw [eS4776, iN, if_neg d4780]; exact w4744
  have w4897 : sI S4776 h 11 = 0 := by rw [eS4776, iN, if_neg d4780]; exact w4745
  have w4898 : sI S4776 h 12 = 0 := by rw [eS4776, iN, if_neg d4780]; exact w4746
  have w4899 : sI S4776 h 13 = 0 := by rw [eS4776, iN, if_neg d4780]; exact w4747
  have w4900 : sI S4776 h 14 = 0 := by rw [eS4776, iN, if_neg d4780]; exact w4748
  have w4901 : sI S4776 h 15 = 0 := by rw [eS4776, iN, if_neg d4780]; exact w4749
  have w4902 : sI S4776 h 16 = 0 := by rw [eS4776, iN, if_neg d4780]; exact w4750
  have w4903 : sI S4776 h 17 = 0 := by rw [eS4776, iN, if_neg d4780]; exact w4751
  have w4904 : sI S4776 h 18 = 0 := by rw [eS4776, iN, if_neg d4780]; exact w4752
  have w4905 : sI S4776 h 20 = 0 := by rw [eS4776, iN, if_neg d4780]; exact w4753
  have w4906 : sI S4776 h 21 = 0 := by rw [eS4776, iN, if_neg d4780]; exact w4754
  have w4907 : sI S4776 h 22 = 0 := by rw [eS4776, iN, if_neg d4780]; exact w4755
  have w4908 : sI S4776 h 35 = 0 := by rw [eS4776, iN, if_neg d4780]; exact w4756
  have w4909 : sI S4776 h 36 = 0 := by rw [eS4776, iN, if_neg d4780]; exact w4757
  have w4910 : sI S4776 h 53 = 0 := by rw [eS4776, iN, if_neg d4780]; exact w4758
  have w4911 : sI S4776 h 54 = 0 := by rw [eS4776, iN, if_neg d4780]; exact w4759
  have w4912 : sI S4776 h 55 = 0 := by rw [eS4776, iN, if_neg d4780]; exact w4760
  have w4913 : sI S4776 h 60 = 0 := by rw [eS4776, iN, if_neg d4780]; exact w4761
  have w4914 : sI S4776 h 19 = 200 := by rw [eS4776, iN, if_neg d4780]; exact w4762
  have w4915 : sI S4776 h 23 = 400 := by rw [eS4776, iN, if_neg d4780]; exact w4763
  have w4916 : sI S4776 h 24 = 3 := by rw [eS4776, iN, if_neg d4780]; exact w4764
  have w4917 : sI S4776 h 25 = 2 := by rw [eS4776, iN, if_neg d4780]; exact w4765
  have w4918 : ∀ j, j < 2 → sI S4776 q801 j = 0 := fun j hj => by rw [eS4776, iN, if_neg d4798]; exact w4766 j hj 
  have w4919 : ∀ j, j < 2 → sI S4776 q922 j = 0 := fun j hj => by rw [eS4776, iN, if_neg d4800]; exact w4767 j hj 
  have w4920 : ∀ j, j < 2 → sI S4776 q1052 j = 0 := fun j hj => by rw [eS4776, iN, if_neg d4802]; exact w4768 j hj 
  have w4921 : ∀ j, j < 2 → sI S4776 q1191 j = 0 := fun j hj => by rw [eS4776, iN, if_neg d4804]; exact w4769 j hj 
  have w4922 : ∀ j, j < 2 → sI S4776 q1339 j = 0 := fun j hj => by rw [eS4776, iN, if_neg d4806]; exact w4770 j hj 
  have w4923 : ∀ j, j < 2 → sI S4776 q1496 j = 0 := fun j hj => by rw [eS4776, iN, if_neg d4808]; exact w4771 j hj 
  have w4924 : ∀ j, j < 2 → sI S4776 q1662 j = 0 := fun j hj => by rw [eS4776, iN, if_neg d4810]; exact w4772 j hj 
  have w4925 : ∀ j, j < 2 → sI S4776 q1837 j = 0 := fun j hj => by rw [eS4776, iN, if_neg d4812]; exact w4773 j hj 
  have k4926 : sK S4776 q4775 = 11 := by rw [eS4776, kN, if_pos rfl]
  have n4927 : sL S4776 q4775 = 5 := by rw [eS4776, lNw, if_pos rfl]
  clear k4657 k4658 k4659 k4660 k4661 k4662 k4663 k4664 k4665 k4666 k4667 k4668 k4669 k4670 k4671 k4672 k4673 k4674 k4675 k4676 k4677 k4678 k4679 k4680 k4681 k4682 k4683 k4684 k4685 r4686 r4687 r4688 r4689 r4690 r4691 r4692 r4693 r4694 r4695 r4696 r4697 r4698 r4699 r4700 r4701 r4702 r4703 r4704 r4705 r4706 r4707 r4708 r4709 r4710 r4711 r4712 r4774 n4713 n4714 n4715 n4716 n4717 n4718 n4719 n4720 n4721 n4722 n4723 n4724 n4725 n4726 n4727 n4728 n4729 n4730 n4731 n4732 n4733 n4734 n4735 n4736 n4737 n4738 n4739 n4740 w4741 w4742 w4743 w4744 w4745 w4746 w4747 w4748 w4749 w4750 w4751 w4752 w4753 w4754 w4755 w4756 w4757 w4758 w4759 w4760 w4761 w4762 w4763 w4764 w4765 w4766 w4767 w4768 w4769 w4770 w4771 w4772 w4773
  refine pg_pr (ci := 9) (C := RX9) (T := TX9) (N := 63) hx hb hts wi9 tyX9 tyX9_ok nmX9 hown hK hW hS k4779 (by decide) rfl 49 (by decide) (hts (.fieldLink RX9 109 "IceHallModel" "out" "[I") (by decide +kernel)) (fun _ h9 => h9) rfl hnm rfl rfl rfl rfl dX9_init_257 (fun H locs hW hS => ?_)
  have hX : Kx [h] S (stR S4776 h 49 (some q4775)) := hX.Rh List.mem_cons_self
  obtain ⟨S4928, eS4928⟩ : ∃ T : St, T = stR S4776 h 49 (some q4775) := ⟨_, rfl⟩
  rw [← eS4928] at hW hX
  have k4929 : sK S4928 h = 9 := by rw [eS4928]; exact k4779
  have k4930 : sK S4928 q1 = 10 := by rw [eS4928]; exact k4781
  have k4931 : sK S4928 q64 = 11 := by rw [eS4928]; exact k4783
  have k4932 : sK S4928 q134 = 11 := by rw [eS4928]; exact k4785
  have k4933 : sK S4928 q211 = 11 := by rw [eS4928]; exact k4787
  have k4934 : sK S4928 q295 = 11 := by rw [eS4928]; exact k4789
  have k4935 : sK S4928 q386 = 11 := by rw [eS4928]; exact k4791
  have k4936 : sK S4928 q484 = 11 := by rw [eS4928]; exact k4793
  have k4937 : sK S4928 q689 = 11 := by rw [eS4928]; exact k4795
  have k4938 : sK S4928 q801 = 11 := by rw [eS4928]; exact k4797
  have k4939 : sK S4928 q922 = 11 := by rw [eS4928]; exact k4799
  have k4940 : sK S4928 q1052 = 11 := by rw [eS4928]; exact k4801
  have k4941 : sK S4928 q1191 = 11 := by rw [eS4928]; exact k4803
  have k4942 : sK S4928 q1339 = 11 := by rw [eS4928]; exact k4805
  have k4943 : sK S4928 q1496 = 11 := by rw [eS4928]; exact k4807
  have k4944 : sK S4928 q1662 = 11 := by rw [eS4928]; exact k4809
  have k4945 : sK S4928 q1837 = 13 := by rw [eS4928]; exact k4811
  have k4946 : sK S4928 q2021 = 11 := by rw [eS4928]; exact k4813
  have k4947 : sK S4928 q2212 = 11 := by rw [eS4928]; exact k4815
  have k4948 : sK S4928 q2410 = 11 := by rw [eS4928]; exact k4817
  have k4949 : sK S4928 q2615 = 11 := by rw [eS4928]; exact k4819
  have k4950 : sK S4928 q2827 = 11 := by rw [eS4928]; exact k4821
  have k4951 : sK S4928 q3046 = 11 := by rw [eS4928]; exact k4823
  have k4952 : sK S4928 q3272 = 11 := by rw [eS4928]; exact k4825
  have k4953 : sK S4928 q3505 = 11 := by rw [eS4928]; exact k4827
  have k4954 : sK S4928 q3745 = 11 := by rw [eS4928]; exact k4829
  have k4955 : sK S4928 q3992 = 11 := by rw [eS4928]; exact k4831
  have k4956 : sK S4928 q4246 = 11 := by rw [eS4928]; exact k4833
  have k4957 : sK S4928 q4507 = 11 := by rw [eS4928]; exact k4835
  have k4958 : sK S4928 q4775 = 11 := by rw [eS4928]; exact k4926
  have r4959 : sR S4928 h 0 = some q1 := by rw [eS4928, rR, if_pos rfl, if_neg (by decide)]; exact r4837
  have r4960 : sR S4928 h 5 = some q64 := by rw [eS4928, rR, if_pos rfl, if_neg (by decide)]; exact r4838
  have r4961 : sR S4928 h 6 = some q134 := by rw [eS4928, rR, if_pos rfl, if_neg (by decide)]; exact r4839
  have r4962 : sR S4928 h 7 = some q211 := by rw [eS4928, rR, if_pos rfl, if_neg (by decide)]; exact r4840
  have r4963 : sR S4928 h 8 = some q295 := by rw [eS4928, rR, if_pos rfl, if_neg (by decide)]; exact r4841
  have r4964 : sR S4928 h 9 = some q386 := by rw [eS4928, rR, if_pos rfl, if_neg (by decide)]; exact r4842
  have r4965 : sR S4928 h 10 = some q484 := by rw [eS4928, rR, if_pos rfl, if_neg (by decide)]; exact r4843
  have r4966 : sR S4928 h 26 = some q689 := by rw [eS4928, rR, if_pos rfl, if_neg (by decide)]; exact r4844
  have r4967 : sR S4928 h 27 = some q801 := by rw [eS4928, rR, if_pos rfl, if_neg (by decide)]; exact r4845
  have r4968 : sR S4928 h 28 = some q922 := by rw [eS4928, rR, if_pos rfl, if_neg (by decide)]; exact r4846
  have r4969 : sR S4928 h 29 = some q1052 := by rw [eS4928, rR, if_pos rfl, if_neg (by decide)]; exact r4847
  have r4970 : sR S4928 h 30 = some q1191 := by rw [eS4928, rR, if_pos rfl, if_neg (by decide)]; exact r4848
  have r4971 : sR S4928 h 31 = some q1339 := by rw [eS4928, rR, if_pos rfl, if_neg (by decide)]; exact r4849
  have r4972 : sR S4928 h 32 = some q1496 := by rw [eS4928, rR, if_pos rfl, if_neg (by decide)]; exact r4850
  have r4973 : sR S4928 h 33 = some q1662 := by rw [eS4928, rR, if_pos rfl, if_neg (by decide)]; exact r4851
  have r4974 : sR S4928 h 34 = some q1837 := by rw [eS4928, rR, if_pos rfl, if_neg (by decide)]; exact r4852
  have r4975 : sR S4928 h 37 = some q2021 := by rw [eS4928, rR, if_pos rfl, if_neg (by decide)]; exact r4853
  have r4976 : sR S4928 h 38 = some q2212 := by rw [eS4928, rR, if_pos rfl, if_neg (by decide)]; exact r4854
  have r4977 : sR S4928 h 39 = some q2410 := by rw [eS4928, rR, if_pos rfl, if_neg (by decide)]; exact r4855
  have r4978 : sR S4928 h 40 = some q2615 := by rw [eS4928, rR, if_pos rfl, if_neg (by decide)]; exact r4856
  have r4979 : sR S4928 h 41 = some q2827 := by rw [eS4928, rR, if_pos rfl, if_neg (by decide)]; exact r4857
  have r4980 : sR S4928 h 42 = some q3046 := by rw [eS4928, rR, if_pos rfl, if_neg (by decide)]; exact r4858
  have r4981 : sR S4928 h 43 = some q3272 := by rw [eS4928, rR, if_pos rfl, if_neg (by decide)]; exact r4859
  have r4982 : sR S4928 h 44 = some q3505 := by rw [eS4928, rR, if_pos rfl, if_neg (by decide)]; exact r4860
  have r4983 : sR S4928 h 45 = some q3745 := by rw [eS4928, rR, if_pos rfl, if_neg (by decide)]; exact r4861
  have r4984 : sR S4928 h 46 = some q3992 := by rw [eS4928, rR, if_pos rfl, if_neg (by decide)]; exact r4862
  have r4985 : sR S4928 h 47 = some q4246 := by rw [eS4928, rR, if_pos rfl, if_neg (by decide)]; exact r4863
  have r4986 : sR S4928 h 48 = some q4507 := by rw [eS4928, rR, if_pos rfl, if_neg (by decide)]; exact r4864
  have n4987 : sL S4928 q1 = 80 := by rw [eS4928]; exact n4865
  have n4988 : sL S4928 q64 = 6 := by rw [eS4928]; exact n4866
  have n4989 : sL S4928 q134 = 6 := by rw [eS4928]; exact n4867
  have n4990 : sL S4928 q211 = 6 := by rw [eS4928]; exact n4868
  have n4991 : sL S4928 q295 = 6 := by rw [eS4928]; exact n4869
  have n4992 : sL S4928 q386 = 6 := by rw [eS4928]; exact n4870
  have n4993 : sL S4928 q484 = 6 := by rw [eS4928]; exact n4871
  have n4994 : sL S4928 q689 = 24 := by rw [eS4928]; exact n4872
  have n4995 : sL S4928 q801 = 2 := by rw [eS4928]; exact n4873
  have n4996 : sL S4928 q922 = 2 := by rw [eS4928]; exact n4874
  have n4997 : sL S4928 q1052 = 2 := by rw [eS4928]; exact n4875
  have n4998 : sL S4928 q1191 = 2 := by rw [eS4928]; exact n4876
  have n4999 : sL S4928 q1339 = 2 := by rw [eS4928]; exact n4877
  have n5000 : sL S4928 q1496 = 2 := by rw [eS4928]; exact n4878
  have n5001 : sL S4928 q1662 = 2 := by rw [eS4928]; exact n4879
  have n5002 : sL S4928 q1837 = 2 := by rw [eS4928]; exact n4880
  have n5003 : sL S4928 q2021 = 200 := by rw [eS4928]; exact n4881
  have n5004 : sL S4928 q2212 = 200 := by rw [eS4928]; exact n4882
  have n5005 : sL S4928 q2410 = 200 := by rw [eS4928]; exact n4883
  have n5006 : sL S4928 q2615 = 200 := by rw [eS4928]; exact n4884
  have n5007 : sL S4928 q2827 = 200 := by rw [eS4928]; exact n4885
  have n5008 : sL S4928 q3046 = 200 := by rw [eS4928]; exact n4886
  have n5009 : sL S4928 q3272 = 200 := by rw [eS4928]; exact n4887
  have n5010 : sL S4928 q3505 = 200 := by rw [eS4928]; exact n4888
  have n5011 : sL S4928 q3745 = 200 := by rw [eS4928]; exact n4889
  have n5012 : sL S4928 q3992 = 10 := by rw [eS4928]; exact n4890
  have n5013 : sL S4928 q4246 = 10 := by rw [eS4928]; exact n4891
  have n5014 : sL S4928 q4507 = 10 := by rw [eS4928]; exact n4892
  have n5015 : sL S4928 q4775 = 5 := by rw [eS4928]; exact n4927
  have w5016 : sI S4928 h 1 = 0 := by rw [eS4928]; exact w4893
  have w5017 : sI S4928 h 2 = 0 := by rw [eS4928]; exact w4894
  have w5018 : sI S4928 h 3 = 0 := by rw [eS4928]; exact w4895
  have w5019 : sI S4928 h 4 = 0 := by rw [eS4928]; exact w4896
  have w5020 : sI S4928 h 11 = 0 := by rw [eS4928]; exact w4897
  have w5021 : sI S4928 h 12 = 0 := by rw [eS4928]; exact w4898
  have w5022 : sI S4928 h 13 = 0 := by rw [eS4928]; exact w4899
  have w5023 : sI S4928 h 14 = 0 := by rw [eS4928]; exact w4900
  have w5024 : sI S4928 h 15 = 0 := by rw [eS4928]; exact w4901
  have w5025 : sI S4928 h 16 = 0 := by rw [eS4928]; exact w4902
  have w5026 : sI S4928 h 17 = 0 := by rw [eS4928]; exact w4903
  have w5027 : sI S4928 h 18 = 0 := by rw [eS4928]; exact w4904
  have w5028 : sI S4928 h 20 = 0 := by rw [eS4928]; exact w4905
  have w5029 : sI S4928 h 21 = 0 := by rw [eS4928]; exact w4906
  have w5030 : sI S4928 h 22 = 0 := by rw [eS4928]; exact w4907
  have w5031 : sI S4928 h 35 = 0 := by rw [eS4928]; exact w4908
  have w5032 : sI S4928 h 36 = 0 := by rw [eS4928]; exact w4909
  have w5033 : sI S4928 h 53 = 0 := by rw [eS4928]; exact w4910
  have w5034 : sI S4928 h 54 = 0 := by rw [eS4928]; exact w4911
  have w5035 : sI S4928 h 55 = 0 := by rw [eS4928]; exact w4912
  have w5036 : sI S4928 h 60 = 0 := by rw [eS4928]; exact w4913
  have w5037 : sI S4928 h 19 = 200 := by rw [eS4928]; exact w4914
  have w5038 : sI S4928 h 23 = 400 := by rw [eS4928]; exact w4915
  have w5039 : sI S4928 h 24 = 3 := by rw [eS4928]; exact w4916
  have w5040 : sI S4928 h 25 = 2 := by rw [eS4928]; exact w4917
  have w5041 : ∀ j, j < 2 → sI S4928 q801 j = 0 := fun j hj => by rw [eS4928]; exact w4918 j hj 
  have w5042 : ∀ j, j < 2 → sI S4928 q922 j = 0 := fun j hj => by rw [eS4928]; exact w4919 j hj 
  have w5043 : ∀ j, j < 2 → sI S4928 q1052 j = 0 := fun j hj => by rw [eS4928]; exact w4920 j hj 
  have w5044 : ∀ j, j < 2 → sI S4928 q1191 j = 0 := fun j hj => by rw [eS4928]; exact w4921 j hj 
  have w5045 : ∀ j, j < 2 → sI S4928 q1339 j = 0 := fun j hj => by rw [eS4928]; exact w4922 j hj 
  have w5046 : ∀ j, j < 2 → sI S4928 q1496 j = 0 := fun j hj => by rw [eS4928]; exact w4923 j hj 
  have w5047 : ∀ j, j < 2 → sI S4928 q1662 j = 0 := fun j hj => by rw [eS4928]; exact w4924 j hj 
  have w5048 : ∀ j, j < 2 → sI S4928 q1837 j = 0 := fun j hj => by rw [eS4928]; exact w4925 j hj 
  have r5049 : sR S4928 h 49 = some q4775 := by rw [eS4928, rR, if_pos rfl, if_pos rfl]
  clear k4779 k4781 k4783 k4785 k4787 k4789 k4791 k4793 k4795 k4797 k4799 k4801 k4803 k4805 k4807 k4809 k4811 k4813 k4815 k4817 k4819 k4821 k4823 k4825 k4827 k4829 k4831 k4833 k4835 k4926 r4837 r4838 r4839 r4840 r4841 r4842 r4843 r4844 r4845 r4846 r4847 r4848 r4849 r4850 r4851 r4852 r4853 r4854 r4855 r4856 r4857 r4858 r4859 r4860 r4861 r4862 r4863 r4864 n4865 n4866 n4867 n4868 n4869 n4870 n4871 n4872 n4873 n4874 n4875 n4876 n4877 n4878 n4879 n4880 n4881 n4882 n4883 n4884 n4885 n4886 n4887 n4888 n4889 n4890 n4891 n4892 n4927 w4893 w4894 w4895 w4896 w4897 w4898 w4899 w4900 w4901 w4902 w4903 w4904 w4905 w4906 w4907 w4908 w4909 w4910 w4911 w4912 w4913 w4914 w4915 w4916 w4917 w4918 w4919 w4920 w4921 w4922 w4923 w4924 w4925
  refine lv_aload_n hx hb dX9_init_260 rfl (lv_at hl 0 rfl) ?_
  refine lv_iconst (v := 5) hx hb dX9_init_261 (by decide) ?_
  refine pg_newa (atype := .int) (ty := .int) (kd := 11) (t0 := 1) (N' := 5) hx hb (hts (.arrayClass .int) (by decide +kernel)) rfl rfl (Or.inl rfl) (by decide) hK hW hS hA (fun _ => rfl) (by decide) (by decide) (Nat.le_of_ble_eq_true rfl) (Nat.le_of_ble_eq_true rfl) (Nat.le_of_ble_eq_true rfl) dX9_init_262 (fun q5050 H hq5050 hW hS => ?_)
  have f5052 : Ap h q5050 := ap_k k4929 hq5050 (by decide)
  have o5053 : 16 ≤ sK S q5050 := hX.old hq5050 (ni_c (ap_s f5052) ni_0)
  have hX : Kx [h] S (stN S4928 q5050 11 5) := hX.N hq5050
  obtain ⟨S5051, eS5051⟩ : ∃ T : St, T = stN S4928 q5050 11 5 := ⟨_, rfl⟩
  rw [← eS5051] at hW hX
  obtain ⟨k5054, d5055⟩ := fk_N (a := h) eS5051 k4929 (by decide) hq5050
  obtain ⟨k5056, d5057⟩ := fk_N (a := q1) eS5051 k4930 (by decide) hq5050
  obtain ⟨k5058, d5059⟩ := fk_N (a := q64) eS5051 k4931 (by decide) hq5050
  obtain ⟨k5060, d5061⟩ := fk_N (a := q134) eS5051 k4932 (by decide) hq5050
  obtain ⟨k5062, d5063⟩ := fk_N (a := q211) eS5051 k4933 (by decide) hq5050
  obtain ⟨k5064, d5065⟩ := fk_N (a := q295) eS5051 k4934 (by decide) hq5050
  obtain ⟨k5066, d5067⟩ := fk_N (a := q386) eS5051 k4935 (by decide) hq5050
  obtain ⟨k5068, d5069⟩ := fk_N (a := q484) eS5051 k4936 (by decide) hq5050
  obtain ⟨k5070, d5071⟩ := fk_N (a := q689) eS5051 k4937 (by decide) hq5050
  obtain ⟨k5072, d5073⟩ := fk_N (a := q801) eS5051 k4938 (by decide) hq5050
  obtain ⟨k5074, d5075⟩ := fk_N (a := q922) eS5051 k4939 (by decide) hq5050
  obtain ⟨k5076, d5077⟩ := fk_N (a := q1052) eS5051 k4940 (by decide) hq5050
  obtain ⟨k5078, d5079⟩ := fk_N (a := q1191) eS5051 k4941 (by decide) hq5050
  obtain ⟨k5080, d5081⟩ := fk_N (a := q1339) eS5051 k4942 (by decide) hq5050
  obtain ⟨k5082, d5083⟩ := fk_N (a := q1496) eS5051 k4943 (by decide) hq5050
  obtain ⟨k5084, d5085⟩ := fk_N (a := q1662) eS5051 k4944 (by decide) hq5050
  obtain ⟨k5086, d5087⟩ := fk_N (a := q1837) eS5051 k4945 (by decide) hq5050
  obtain ⟨k5088, d5089⟩ := fk_N (a := q2021) eS5051 k4946 (by decide) hq5050
  obtain ⟨k5090, d5091⟩ := fk_N (a := q2212) eS5051 k4947 (by decide) hq5050
  obtain ⟨k5092, d5093⟩ := fk_N (a := q2410) eS5051 k4948 (by decide) hq5050
  obtain ⟨k5094, d5095⟩ := fk_N (a := q2615) eS5051 k4949 (by decide) hq5050
  obtain ⟨k5096, d5097⟩ := fk_N (a := q2827) eS5051 k4950 (by decide) hq5050
  obtain ⟨k5098, d5099⟩ := fk_N (a := q3046) eS5051 k4951 (by decide) hq5050
  obtain ⟨k5100, d5101⟩ := fk_N (a := q3272) eS5051 k4952 (by decide) hq5050
  obtain ⟨k5102, d5103⟩ := fk_N (a := q3505) eS5051 k4953 (by decide) hq5050
  obtain ⟨k5104, d5105⟩ := fk_N (a := q3745) eS5051 k4954 (by decide) hq5050
  obtain ⟨k5106, d5107⟩ := fk_N (a := q3992) eS5051 k4955 (by decide) hq5050
  obtain ⟨k5108, d5109⟩ := fk_N (a := q4246) eS5051 k4956 (by decide) hq5050
  obtain ⟨k5110, d5111⟩ := fk_N (a := q4507) eS5051 k4957 (by decide) hq5050
  obtain ⟨k5112, d5113⟩ := fk_N (a := q4775) eS5051 k4958 (by decide) hq5050
  have r5114 : sR S5051 h 0 = some q1 := by rw [eS5051, rN, if_neg d5055]; exact r4959
  have r5115 : sR S5051 h 5 = some q64 := by rw [eS5051, rN, if_neg d5055]; exact r4960
  have r5116 : sR S5051 h 6 = some q134 := by rw [eS5051, rN, if_neg d5055]; exact r4961
  have r5117 : sR S5051 h 7 = some q211 := by rw [eS5051, rN, if_neg d5055]; exact r4962
  have r5118 : sR S5051 h 8 = some q295 := by rw [eS5051, rN, if_neg d5055]; exact r4963
  have r5119 : sR S5051 h 9 = some q386 := by rw [eS5051, rN, if_neg d5055]; exact r4964
  have r5120 : sR S5051 h 10 = some q484 := by rw [eS5051, rN, if_neg d5055]; exact r4965
  have r5121 : sR S5051 h 26 = some q689 := by rw [eS5051, rN, if_neg d5055]; exact r4966
  have r5122 : sR S5051 h 27 = some q801 := by rw [eS5051, rN, if_neg d5055]; exact r4967
  have r5123 : sR S5051 h 28 = some q922 := by rw [eS5051, rN, if_neg d5055]; exact r4968
  have r5124 : sR S5051 h 29 = some q1052 := by rw [eS5051, rN, if_neg d5055]; exact r4969
  have r5125 : sR S5051 h 30 = some q1191 := by rw [eS5051, rN, if_neg d5055]; exact r4970
  have r5126 : sR S5051 h 31 = some q1339 := by rw [eS5051, rN, if_neg d5055]; exact r4971
  have r5127 : sR S5051 h 32 = some q1496 := by rw [eS5051, rN, if_neg d5055]; exact r4972
  have r5128 : sR S5051 h 33 = some q1662 := by rw [eS5051, rN, if_neg d5055]; exact r4973
  have r5129 : sR S5051 h 34 = some q1837 := by rw [eS5051, rN, if_neg d5055]; exact r4974
  have r5130 : sR S5051 h 37 = some q2021 := by rw [eS5051, rN, if_neg d5055]; exact r4975
  have r5131 : sR S5051 h 38 = some q2212 := by rw [eS5051, rN, if_neg d5055]; exact r4976
  have r5132 : sR S5051 h 39 = some q2410 := by rw [eS5051, rN, if_neg d5055]; exact r4977
  have r5133 : sR S5051 h 40 = some q2615 := by rw [eS5051, rN, if_neg d5055]; exact r4978
  have r5134 : sR S5051 h 41 = some q2827 := by rw [eS5051, rN, if_neg d5055]; exact r4979
  have r5135 : sR S5051 h 42 = some q3046 := by rw [eS5051, rN, if_neg d5055]; exact r4980
  have r5136 : sR S5051 h 43 = some q3272 := by rw [eS5051, rN, if_neg d5055]; exact r4981
  have r5137 : sR S5051 h 44 = some q3505 := by rw [eS5051, rN, if_neg d5055]; exact r4982
  have r5138 : sR S5051 h 45 = some q3745 := by rw [eS5051, rN, if_neg d5055]; exact r4983
  have r5139 : sR S5051 h 46 = some q3992 := by rw [eS5051, rN, if_neg d5055]; exact r4984
  have r5140 : sR S5051 h 47 = some q4246 := by rw [eS5051, rN, if_neg d5055]; exact r4985
  have r5141 : sR S5051 h 48 = some q4507 := by rw [eS5051, rN, if_neg d5055]; exact r4986
  have r5142 : sR S5051 h 49 = some q4775 := by rw [eS5051, rN, if_neg d5055]; exact r5049
  have n5143 : sL S5051 q1 = 80 := by rw [eS5051, lNw, if_neg d5057]; exact n4987
  have n5144 : sL S5051 q64 = 6 := by rw [eS5051, lNw, if_neg d5059]; exact n4988
  have n5145 : sL S5051 q134 = 6 := by rw [eS5051, lNw, if_neg d5061]; exact n4989
  have n5146 : sL S5051 q211 = 6 := by rw [eS5051, lNw, if_neg d5063]; exact n4990
  have n5147 : sL S5051 q295 = 6 := by rw [eS5051, lNw, if_neg d5065]; exact n4991
  have n5148 : sL S5051 q386 = 6 := by rw [eS5051, lNw, if_neg d5067]; exact n4992
  have n5149 : sL S5051 q484 = 6 := by rw [eS5051, lNw, if_neg d5069]; exact n4993
  have n5150 : sL S5051 q689 = 24 := by rw [eS5051, lNw, if_neg d5071]; exact n4994
  have n5151 : sL S5051 q801 = 2 := by rw [eS5051, lNw, if_neg d5073]; exact n4995
  have n5152 : sL S5051 q922 = 2 := by rw [eS5051, lNw, if_neg d5075]; exact n4996
  have n5153 : sL S5051 q1052 = 2 := by rw [eS5051, lNw, if_neg d5077]; exact n4997
  have n5154 : sL S5051 q1191 = 2 := by rw [eS5051, lNw, if_neg d5079]; exact n4998
  have n5155 : sL S5051 q1339 = 2 := by rw [eS5051, lNw, if_neg d5081]; exact n4999
  have n5156 : sL S5051 q1496 = 2 := by rw [eS5051, lNw, if_neg d5083]; exact n5000
  have n5157 : sL S5051 q1662 = 2 := by rw [eS5051, lNw, if_neg d5085]; exact n5001
  have n5158 : sL S5051 q1837 = 2 := by rw [eS5051, lNw, if_neg d5087]; exact n5002
  have n5159 : sL S5051 q2021 = 200 := by rw [eS5051, lNw, if_neg d5089]; exact n5003
  have n5160 : sL S5051 q2212 = 200 := by rw [eS5051, lNw, if_neg d5091]; exact n5004
  have n5161 : sL S5051 q2410 = 200 := by rw [eS5051, lNw, if_neg d5093]; exact n5005
  have n5162 : sL S5051 q2615 = 200 := by rw [eS5051, lNw, if_neg d5095]; exact n5006
  have n5163 : sL S5051 q2827 = 200 := by rw [eS5051, lNw, if_neg d5097]; exact n5007
  have n5164 : sL S5051 q3046 = 200 := by rw [eS5051, lNw, if_neg d5099]; exact n5008
  have n5165 : sL S5051 q3272 = 200 := by rw [eS5051, lNw, if_neg d5101]; exact n5009
  have n5166 : sL S5051 q3505 = 200 := by rw [eS5051, lNw, if_neg d5103]; exact n5010
  have n5167 : sL S5051 q3745 = 200 := by rw [eS5051, lNw, if_neg d5105]; exact n5011
  have n5168 : sL S5051 q3992 = 10 := by rw [eS5051, lNw, if_neg d5107]; exact n5012
  have n5169 : sL S5051 q4246 = 10 := by rw [eS5051, lNw, if_neg d5109]; exact n5013
  have n5170 : sL S5051 q4507 = 10 := by rw [eS5051, lNw, if_neg d5111]; exact n5014
  have n5171 : sL S5051 q4775 = 5 := by rw [eS5051, lNw, if_neg d5113]; exact n5015
  have w5172 : sI S5051 h 1 = 0 := by rw [eS5051, iN, if_neg d5055]; exact w5016
  have w5173 : sI S5051 h 2 = 0 := by rw [eS5051, iN, if_neg d5055]; exact w5017
  have w5174 : sI S5051 h 3 = 0 := by rw [eS5051, iN, if_neg d5055]; exact w5018
  have w5175 : sI S5051 h 4 = 0 := by rw [eS5051, iN, if_neg d5055]; exact w5019
  have w5176 : sI S5051 h 11 = 0 := by rw [eS5051, iN, if_neg d5055]; exact w5020
  have w5177 : sI S5051 h 12 = 0 := by rw [eS5051, iN, if_neg d5055]; exact w5021
  have w5178 : sI S5051 h 13 = 0 := by rw [eS5051, iN, if_neg d5055]; exact w5022
  have w5179 : sI S5051 h 14 = 0 := by rw [eS5051, iN, if_neg d5055]; exact w5023
  have w5180 : sI S5051 h 15 = 0 := by rw [eS5051, iN, if_neg d5055]; exact w5024
  have w5181 : sI S5051 h 16 = 0 := by rw [eS5051, iN, if_neg d5055]; exact w5025
  have w5182 : sI S5051 h 17 = 0 := by rw [eS5051, iN, if_neg d5055]; exact w5026
  have w5183 : sI S5051 h 18 = 0 := by rw [eS5051, iN, if_neg d5055]; exact w5027
  have w5184 : sI S5051 h 20 = 0 := by rw [eS5051, iN, if_neg d5055]; exact w5028
  have w5185 : sI S5051 h 21 = 0 := by rw [eS5051, iN, if_neg d5055]; exact w5029
  have w5186 : sI S5051 h 22 = 0 := by rw [eS5051, iN, if_neg d5055]; exact w5030
  have w5187 : sI S5051 h 35 = 0 := by rw [eS5051, iN, if_neg d5055]; exact w5031
  have w5188 : sI S5051 h 36 = 0 := by rw [eS5051, iN, if_neg d5055]; exact w5032
  have w5189 : sI S5051 h 53 = 0 := by rw [eS5051, iN, if_neg d5055]; exact w5033
  have w5190 : sI S5051 h 54 = 0 := by rw [eS5051, iN, if_neg d5055]; exact w5034
  have w5191 : sI S5051 h 55 = 0 := by rw [eS5051, iN, if_neg d5055]; exact w5035
  have w5192 : sI S5051 h 60 = 0 := by rw [eS5051, iN, if_neg d5055]; exact w5036
  have w5193 : sI S5051 h 19 = 200 := by rw [eS5051, iN, if_neg d5055]; exact w5037
  have w5194 : sI S5051 h 23 = 400 := by rw [eS5051, iN, if_neg d5055]; exact w5038
  have w5195 : sI S5051 h 24 = 3 := by rw [eS5051, iN, if_neg d5055]; exact w5039
  have w5196 : sI S5051 h 25 = 2 := by rw [eS5051, iN, if_neg d5055]; exact w5040
  have w5197 : ∀ j, j < 2 → sI S5051 q801 j = 0 := fun j hj => by rw [eS5051, iN, if_neg d5073]; exact w5041 j hj 
  have w5198 : ∀ j, j < 2 → sI S5051 q922 j = 0 := fun j hj => by rw [eS5051, iN, if_neg d5075]; exact w5042 j hj 
  have w5199 : ∀ j, j < 2 → sI S5051 q1052 j = 0 := fun j hj => by rw [eS5051, iN, if_neg d5077]; exact w5043 j hj 
  have w5200 : ∀ j, j < 2 → sI S5051 q1191 j = 0 := fun j hj => by rw [eS5051, iN, if_neg d5079]; exact w5044 j hj 
  have w5201 : ∀ j, j < 2 → sI S5051 q1339 j = 0 := fun j hj => by rw [eS5051, iN, if_neg d5081]; exact w5045 j hj 
  have w5202 : ∀ j, j < 2 → sI S5051 q1496 j = 0 := fun j hj => by rw [eS5051, iN, if_neg d5083]; exact w5046 j hj 
  have w5203 : ∀ j, j < 2 → sI S5051 q1662 j = 0 := fun j hj => by rw [eS5051, iN, if_neg d5085]; exact w5047 j hj 
  have w5204 : ∀ j, j < 2 → sI S5051 q1837 j = 0 := fun j hj => by rw [eS5051, iN, if_neg d5087]; exact w5048 j hj 
  have k5205 : sK S5051 q5050 = 11 := by rw [eS5051, kN, if_pos rfl]
  have n5206 : sL S5051 q5050 = 5 := by rw [eS5051, lNw, if_pos rfl]
  clear k4929 k4930 k4931 k4932 k4933 k4934 k4935 k4936 k4937 k4938 k4939 k4940 k4941 k4942 k4943 k4944 k4945 k4946 k4947 k4948 k4949 k4950 k4951 k4952 k4953 k4954 k4955 k4956 k4957 k4958 r4959 r4960 r4961 r4962 r4963 r4964 r4965 r4966 r4967 r4968 r4969 r4970 r4971 r4972 r4973 r4974 r4975 r4976 r4977 r4978 r4979 r4980 r4981 r4982 r4983 r4984 r4985 r4986 r5049 n4987 n4988 n4989 n4990 n4991 n4992 n4993 n4994 n4995 n4996 n4997 n4998 n4999 n5000 n5001 n5002 n5003 n5004 n5005 n5006 n5007 n5008 n5009 n5010 n5011 n5012 n5013 n5014 n5015 w5016 w5017 w5018 w5019 w5020 w5021 w5022 w5023 w5024 w5025 w5026 w5027 w5028 w5029 w5030 w5031 w5032 w5033 w5034 w5035 w5036 w5037 w5038 w5039 w5040 w5041 w5042 w5043 w5044 w5045 w5046 w5047 w5048
  refine pg_pr (ci := 9) (C := RX9) (T := TX9) (N := 63) hx hb hts wi9 tyX9 tyX9_ok nmX9 hown hK hW hS k5054 (by decide) rfl 50 (by decide) (hts (.fieldLink RX9 112 "IceHallModel" "way" "[I") (by decide +kernel)) (fun _ h9 => h9) rfl hnm rfl rfl rfl rfl dX9_init_264 (fun H locs hW hS => ?_)
  have hX : Kx [h] S (stR S5051 h 50 (some q5050)) := hX.Rh List.mem_cons_self
  obtain ⟨S5207, eS5207⟩ : ∃ T : St, T = stR S5051 h 50 (some q5050) := ⟨_, rfl⟩
  rw [← eS5207] at hW hX
  have k5208 : sK S5207 h = 9 := by rw [eS5207]; exact k5054
  have k5209 : sK S5207 q1 = 10 := by rw [eS5207]; exact k5056
  have k5210 : sK S5207 q64 = 11 := by rw [eS5207]; exact k5058
  have k5211 : sK S5207 q134 = 11 := by rw [eS5207]; exact k5060
  have k5212 : sK S5207 q211 = 11 := by rw [eS5207]; exact k5062
  have k5213 : sK S5207 q295 = 11 := by rw [eS5207]; exact k5064
  have k5214 : sK S5207 q386 = 11 := by rw [eS5207]; exact k5066
  have k5215 : sK S5207 q484 = 11 := by rw [eS5207]; exact k5068
  have k5216 : sK S5207 q689 = 11 := by rw [eS5207]; exact k5070
  have k5217 : sK S5207 q801 = 11 := by rw [eS5207]; exact k5072
  have k5218 : sK S5207 q922 = 11 := by rw [eS5207]; exact k5074
  have k5219 : sK S5207 q1052 = 11 := by rw [eS5207]; exact k5076
  have k5220 : sK S5207 q1191 = 11 := by rw [eS5207]; exact k5078
  have k5221 : sK S5207 q1339 = 11 := by rw [eS5207]; exact k5080
  have k5222 : sK S5207 q1496 = 11 := by rw [eS5207]; exact k5082
  have k5223 : sK S5207 q1662 = 11 := by rw [eS5207]; exact k5084
  have k5224 : sK S5207 q1837 = 13 := by rw [eS5207]; exact k5086
  have k5225 : sK S5207 q2021 = 11 := by rw [eS5207]; exact k5088
  have k5226 : sK S5207 q2212 = 11 := by rw [eS5207]; exact k5090
  have k5227 : sK S5207 q2410 = 11 := by rw [eS5207]; exact k5092
  have k5228 : sK S5207 q2615 = 11 := by rw [eS5207]; exact k5094
  have k5229 : sK S5207 q2827 = 11 := by rw [eS5207]; exact k5096
  have k5230 : sK S5207 q3046 = 11 := by rw [eS5207]; exact k5098
  have k5231 : sK S5207 q3272 = 11 := by rw [eS5207]; exact k5100
  have k5232 : sK S5207 q3505 = 11 := by rw [eS5207]; exact k5102
  have k5233 : sK S5207 q3745 = 11 := by rw [eS5207]; exact k5104
  have k5234 : sK S5207 q3992 = 11 := by rw [eS5207]; exact k5106
  have k5235 : sK S5207 q4246 = 11 := by rw [eS5207]; exact k5108
  have k5236 : sK S5207 q4507 = 11 := by rw [eS5207]; exact k5110
  have k5237 : sK S5207 q4775 = 11 := by rw [eS5207]; exact k5112
  have k5238 : sK S5207 q5050 = 11 := by rw [eS5207]; exact k5205
  have r5239 : sR S5207 h 0 = some q1 := by rw [eS5207, rR, if_pos rfl, if_neg (by decide)]; exact r5114
  have r5240 : sR S5207 h 5 = some q64 := by rw [eS5207, rR, if_pos rfl, if_neg (by decide)]; exact r5115
  have r5241 : sR S5207 h 6 = some q134 := by rw [eS5207, rR, if_pos rfl, if_neg (by decide)]; exact r5116
  have r5242 : sR S5207 h 7 = some q211 := by rw [eS5207, rR, if_pos rfl, if_neg (by decide)]; exact r5117
  have r5243 : sR S5207 h 8 = some q295 := by rw [eS5207, rR, if_pos rfl, if_neg (by decide)]; exact r5118
  have r5244 : sR S5207 h 9 = some q386 := by rw [eS5207, rR, if_pos rfl, if_neg (by decide)]; exact r5119
  have r5245 : sR S5207 h 10 = some q484 := by rw [eS5207, rR, if_pos rfl, if_neg (by decide)]; exact r5120
  have r5246 : sR S5207 h 26 = some q689 := by rw [eS5207, rR, if_pos rfl, if_neg (by decide)]; exact r5121
  have r5247 : sR S5207 h 27 = some q801 := by rw [eS5207, rR, if_pos rfl, if_neg (by decide)]; exact r5122
  have r5248 : sR S5207 h 28 = some q922 := by rw [eS5207, rR, if_pos rfl, if_neg (by decide)]; exact r5123
  have r5249 : sR S5207 h 29 = some q1052 := by rw [eS5207, rR, if_pos rfl, if_neg (by decide)]; exact r5124
  have r5250 : sR S5207 h 30 = some q1191 := by rw [eS5207, rR, if_pos rfl, if_neg (by decide)]; exact r5125
  have r5251 : sR S5207 h 31 = some q1339 := by rw [eS5207, rR, if_pos rfl, if_neg (by decide)]; exact r5126
  have r5252 : sR S5207 h 32 = some q1496 := by rw [eS5207, rR, if_pos rfl, if_neg (by decide)]; exact r5127
  have r5253 : sR S5207 h 33 = some q1662 := by rw [eS5207, rR, if_pos rfl, if_neg (by decide)]; exact r5128
  have r5254 : sR S5207 h 34 = some q1837 := by rw [eS5207, rR, if_pos rfl, if_neg (by decide)]; exact r5129
  have r5255 : sR S5207 h 37 = some q2021 := by rw [eS5207, rR, if_pos rfl, if_neg (by decide)]; exact r5130
  have r5256 : sR S5207 h 38 = some q2212 := by rw [eS5207, rR, if_pos rfl, if_neg (by decide)]; exact r5131
  have r5257 : sR S5207 h 39 = some q2410 := by rw [eS5207, rR, if_pos rfl, if_neg (by decide)]; exact r5132
  have r5258 : sR S5207 h 40 = some q2615 := by rw [eS5207, rR, if_pos rfl, if_neg (by decide)]; exact r5133
  have r5259 : sR S5207 h 41 = some q2827 := by rw [eS5207, rR, if_pos rfl, if_neg (by decide)]; exact r5134
  have r5260 : sR S5207 h 42 = some q3046 := by rw [eS5207, rR, if_pos rfl, if_neg (by decide)]; exact r5135
  have r5261 : sR S5207 h 43 = some q3272 := by rw [eS5207, rR, if_pos rfl, if_neg (by decide)]; exact r5136
  have r5262 : sR S5207 h 44 = some q3505 := by rw [eS5207, rR, if_pos rfl, if_neg (by decide)]; exact r5137
  have r5263 : sR S5207 h 45 = some q3745 := by rw [eS5207, rR, if_pos rfl, if_neg (by decide)]; exact r5138
  have r5264 : sR S5207 h 46 = some q3992 := by rw [eS5207, rR, if_pos rfl, if_neg (by decide)]; exact r5139
  have r5265 : sR S5207 h 47 = some q4246 := by rw [eS5207, rR, if_pos rfl, if_neg (by decide)]; exact r5140
  have r5266 : sR S5207 h 48 = some q4507 := by rw [eS5207, rR, if_pos rfl, if_neg (by decide)]; exact r5141
  have r5267 : sR S5207 h 49 = some q4775 := by rw [eS5207, rR, if_pos rfl, if_neg (by decide)]; exact r5142
  have n5268 : sL S5207 q1 = 80 := by rw [eS5207]; exact n5143
  have n5269 : sL S5207 q64 = 6 := by rw [eS5207]; exact n5144
  have n5270 : sL S5207 q134 = 6 := by rw [eS5207]; exact n5145
  have n5271 : sL S5207 q211 = 6 := by rw [eS5207]; exact n5146
  have n5272 : sL S5207 q295 = 6 := by rw [eS5207]; exact n5147
  have n5273 : sL S5207 q386 = 6 := by rw [eS5207]; exact n5148
  have n5274 : sL S5207 q484 = 6 := by rw [eS5207]; exact n5149
  have n5275 : sL S5207 q689 = 24 := by rw [eS5207]; exact n5150
  have n5276 : sL S5207 q801 = 2 := by rw [eS5207]; exact n5151
  have n5277 : sL S5207 q922 = 2 := by rw [eS5207]; exact n5152
  have n5278 : sL S5207 q1052 = 2 := by rw [eS5207]; exact n5153
  have n5279 : sL S5207 q1191 = 2 := by rw [eS5207]; exact n5154
  have n5280 : sL S5207 q1339 = 2 := by rw [eS5207]; exact n5155
  have n5281 : sL S5207 q1496 = 2 := by rw [eS5207]; exact n5156
  have n5282 : sL S5207 q1662 = 2 := by rw [eS5207]; exact n5157
  have n5283 : sL S5207 q1837 = 2 := by rw [eS5207]; exact n5158
  have n5284 : sL S5207 q2021 = 200 := by rw [eS5207]; exact n5159
  have n5285 : sL S5207 q2212 = 200 := by rw [eS5207]; exact n5160
  have n5286 : sL S5207 q2410 = 200 := by rw [eS5207]; exact n5161
  have n5287 : sL S5207 q2615 = 200 := by rw [eS5207]; exact n5162
  have n5288 : sL S5207 q2827 = 200 := by rw [eS5207]; exact n5163
  have n5289 : sL S5207 q3046 = 200 := by rw [eS5207]; exact n5164
  have n5290 : sL S5207 q3272 = 200 := by rw [eS5207]; exact n5165
  have n5291 : sL S5207 q3505 = 200 := by rw [eS5207]; exact n5166
  have n5292 : sL S5207 q3745 = 200 := by rw [eS5207]; exact n5167
  have n5293 : sL S5207 q3992 = 10 := by rw [eS5207]; exact n5168
  have n5294 : sL S5207 q4246 = 10 := by rw [eS5207]; exact n5169
  have n5295 : sL S5207 q4507 = 10 := by rw [eS5207]; exact n5170
  have n5296 : sL S5207 q4775 = 5 := by rw [eS5207]; exact n5171
  have n5297 : sL S5207 q5050 = 5 := by rw [eS5207]; exact n5206
  have w5298 : sI S5207 h 1 = 0 := by rw [eS5207]; exact w5172
  have w5299 : sI S5207 h 2 = 0 := by rw [eS5207]; exact w5173
  have w5300 : sI S5207 h 3 = 0 := by rw [eS5207]; exact w5174
  have w5301 : sI S5207 h 4 = 0 := by rw [eS5207]; exact w5175
  have w5302 : sI S5207 h 11 = 0 := by rw [eS5207]; exact w5176
  have w5303 : sI S5207 h 12 = 0 := by rw [eS5207]; exact w5177
  have w5304 : sI S5207 h 13 = 0 := by rw [eS5207]; exact w5178
  have w5305 : sI S5207 h 14 = 0 := by rw [eS5207]; exact w5179
  have w5306 : sI S5207 h 15 = 0 := by rw [eS5207]; exact w5180
  have w5307 : sI S5207 h 16 = 0 := by rw [eS5207]; exact w5181
  have w5308 : sI S5207 h 17 = 0 := by rw [eS5207]; exact w5182
  have w5309 : sI S5207 h 18 = 0 := by rw [eS5207]; exact w5183
  have w5310 : sI S5207 h 20 = 0 := by rw [eS5207]; exact w5184
  have w5311 : sI S5207 h 21 = 0 := by rw [eS5207]; exact w5185
  have w5312 : sI S5207 h 22 = 0 := by rw [eS5207]; exact w5186
  have w5313 : sI S5207 h 35 = 0 := by rw [eS5207]; exact w5187
  have w5314 : sI S5207 h 36 = 0 := by rw [eS5207]; exact w5188
  have w5315 : sI S5207 h 53 = 0 := by rw [eS5207]; exact w5189
  have w5316 : sI S5207 h 54 = 0 := by rw [eS5207]; exact w5190
  have w5317 : sI S5207 h 55 = 0 := by rw [eS5207]; exact w5191
  have w5318 : sI S5207 h 60 = 0 := by rw [eS5207]; exact w5192
  have w5319 : sI S5207 h 19 = 200 := by rw [eS5207]; exact w5193
  have w5320 : sI S5207 h 23 = 400 := by rw [eS5207]; exact w5194
  have w5321 : sI S5207 h 24 = 3 := by rw [eS5207]; exact w5195
  have w5322 : sI S5207 h 25 = 2 := by rw [eS5207]; exact w5196
  have w5323 : ∀ j, j < 2 → sI S5207 q801 j = 0 := fun j hj => by rw [eS5207]; exact w5197 j hj 
  have w5324 : ∀ j, j < 2 → sI S5207 q922 j = 0 := fun j hj => by rw [eS5207]; exact w5198 j hj 
  have w5325 : ∀ j, j < 2 → sI S5207 q1052 j = 0 := fun j hj => by rw [eS5207]; exact w5199 j hj 
  have w5326 : ∀ j, j < 2 → sI S5207 q1191 j = 0 := fun j hj => by rw [eS5207]; exact w5200 j hj 
  have w5327 : ∀ j, j < 2 → sI S5207 q1339 j = 0 := fun j hj => by rw [eS5207]; exact w5201 j hj 
  have w5328 : ∀ j, j < 2 → sI S5207 q1496 j = 0 := fun j hj => by rw [eS5207]; exact w5202 j hj 
  have w5329 : ∀ j, j < 2 → sI S5207 q1662 j = 0 := fun j hj => by rw [eS5207]; exact w5203 j hj 
  have w5330 : ∀ j, j < 2 → sI S5207 q1837 j = 0 := fun j hj => by rw [eS5207]; exact w5204 j hj 
  have r5331 : sR S5207 h 50 = some q5050 := by rw [eS5207, rR, if_pos rfl, if_pos rfl]
  clear k5054 k5056 k5058 k5060 k5062 k5064 k5066 k5068 k5070 k5072 k5074 k5076 k5078 k5080 k5082 k5084 k5086 k5088 k5090 k5092 k5094 k5096 k5098 k5100 k5102 k5104 k5106 k5108 k5110 k5112 k5205 r5114 r5115 r5116 r5117 r5118 r5119 r5120 r5121 r5122 r5123 r5124 r5125 r5126 r5127 r5128 r5129 r5130 r5131 r5132 r5133 r5134 r5135 r5136 r5137 r5138 r5139 r5140 r5141 r5142 n5143 n5144 n5145 n5146 n5147 n5148 n5149 n5150 n5151 n5152 n5153 n5154 n5155 n5156 n5157 n5158 n5159 n5160 n5161 n5162 n5163 n5164 n5165 n5166 n5167 n5168 n5169 n5170 n5171 n5206 w5172 w5173 w5174 w5175 w5176 w5177 w5178 w5179 w5180 w5181 w5182 w5183 w5184 w5185 w5186 w5187 w5188 w5189 w5190 w5191 w5192 w5193 w5194 w5195 w5196 w5197 w5198 w5199 w5200 w5201 w5202 w5203 w5204
  refine lv_aload_n hx hb dX9_init_267 rfl (lv_at hl 0 rfl) ?_
  refine lv_iconst (v := 5) hx hb dX9_init_268 (by decide) ?_
  refine pg_newa (atype := .int) (ty := .int) (kd := 11) (t0 := 1) (N' := 5) hx hb (hts (.arrayClass .int) (by decide +kernel)) rfl rfl (Or.inl rfl) (by decide) hK hW hS hA (fun _ => rfl) (by decide) (by decide) (Nat.le_of_ble_eq_true rfl) (Nat.le_of_ble_eq_true rfl) (Nat.le_of_ble_eq_true rfl) dX9_init_269 (fun q5332 H hq5332 hW hS => ?_)
  have f5334 : Ap h q5332 := ap_k k5208 hq5332 (by decide)
  have o5335 : 16 ≤ sK S q5332 := hX.old hq5332 (ni_c (ap_s f5334) ni_0)
  have hX : Kx [h] S (stN S5207 q5332 11 5) := hX.N hq5332
  obtain ⟨S5333, eS5333⟩ : ∃ T : St, T = stN S5207 q5332 11 5 := ⟨_, rfl⟩
  rw [← eS5333] at hW hX
  obtain ⟨k5336, d5337⟩ := fk_N (a := h) eS5333 k5208 (by decide) hq5332
  obtain ⟨k5338, d5339⟩ := fk_N (a := q1) eS5333 k5209 (by decide) hq5332
  obtain ⟨k5340, d5341⟩ := fk_N (a := q64) eS5333 k5210 (by decide) hq5332
  obtain ⟨k5342, d5343⟩ := fk_N (a := q134) eS5333 k5211 (by decide) hq5332
  obtain ⟨k5344, d5345⟩ := fk_N (a := q211) eS5333 k5212 (by decide) hq5332
  obtain ⟨k5346, d5347⟩ := fk_N (a := q295) eS5333 k5213 (by decide) hq5332
  obtain ⟨k5348, d5349⟩ := fk_N (a := q386) eS5333 k5214 (by decide) hq5332
  obtain ⟨k5350, d5351⟩ := fk_N (a := q484) eS5333 k5215 (by decide) hq5332
  obtain ⟨k5352, d5353⟩ := fk_N (a := q689) eS5333 k5216 (by decide) hq5332
  obtain ⟨k5354, d5355⟩ := fk_N (a := q801) eS5333 k5217 (by decide) hq5332
  obtain ⟨k5356, d5357⟩ := fk_N (a := q922) eS5333 k5218 (by decide) hq5332
  obtain ⟨k5358, d5359⟩ := fk_N (a := q1052) eS5333 k5219 (by decide) hq5332
  obtain ⟨k5360, d5361⟩ := fk_N (a := q1191) eS5333 k5220 (by decide) hq5332
  obtain ⟨k5362, d5363⟩ := fk_N (a := q1339) eS5333 k5221 (by decide) hq5332
  obtain ⟨k5364, d5365⟩ := fk_N (a := q1496) eS5333 k5222 (by decide) hq5332
  obtain ⟨k5366, d5367⟩ := fk_N (a := q1662) eS5333 k5223 (by decide) hq5332
  obtain ⟨k5368, d5369⟩ := fk_N (a := q1837) eS5333 k5224 (by decide) hq5332
  obtain ⟨k5370, d5371⟩ := fk_N (a := q2021) eS5333 k5225 (by decide) hq5332
  obtain ⟨k5372, d5373⟩ := fk_N (a := q2212) eS5333 k5226 (by decide) hq5332
  obtain ⟨k5374, d5375⟩ := fk_N (a := q2410) eS5333 k5227 (by decide) hq5332
  obtain ⟨k5376, d5377⟩ := fk_N (a := q2615) eS5333 k5228 (by decide) hq5332
  obtain ⟨k5378, d5379⟩ := fk_N (a := q2827) eS5333 k5229 (by decide) hq5332
  obtain ⟨k5380, d5381⟩ := fk_N (a := q3046) eS5333 k5230 (by decide) hq5332
  obtain ⟨k5382, d5383⟩ := fk_N (a := q3272) eS5333 k5231 (by decide) hq5332
  obtain ⟨k5384, d5385⟩ := fk_N (a := q3505) eS5333 k5232 (by decide) hq5332
  obtain ⟨k5386, d5387⟩ := fk_N (a := q3745) eS5333 k5233 (by decide) hq5332
  obtain ⟨k5388, d5389⟩ := fk_N (a := q3992) eS5333 k5234 (by decide) hq5332
  obtain ⟨k5390, d5391⟩ := fk_N (a := q4246) eS5333 k5235 (by decide) hq5332
  obtain ⟨k5392, d5393⟩ := fk_N (a := q4507) eS5333 k5236 (by decide) hq5332
  obtain ⟨k5394, d5395⟩ := fk_N (a := q4775) eS5333 k5237 (by decide) hq5332
  obtain ⟨k5396, d5397⟩ := fk_N (a := q5050) eS5333 k5238 (by decide) hq5332
  have r5398 : sR S5333 h 0 = some q1 := by rw [eS5333, rN, if_neg d5337]; exact r5239
  have r5399 : sR S5333 h 5 = some q64 := by rw [eS5333, rN, if_neg d5337]; exact r5240
  have r5400 : sR S5333 h 6 = some q134 := by rw [eS5333, rN, if_neg d5337]; exact r5241
  have r5401 : sR S5333 h 7 = some q211 := by rw [eS5333, rN, if_neg d5337]; exact r5242
  have r5402 : sR S5333 h 8 = some q295 := by rw [eS5333, rN, if_neg d5337]; exact r5243
  have r5403 : sR S5333 h 9 = some q386 := by rw [eS5333, rN, if_neg d5337]; exact r5244
  have r5404 : sR S5333 h 10 = some q484 := by rw [eS5333, rN, if_neg d5337]; exact r5245
  have r5405 : sR S5333 h 26 = some q689 := by rw [eS5333, rN, if_neg d5337]; exact r5246
  have r5406 : sR S5333 h 27 = some q801 := by rw [eS5333, rN, if_neg d5337]; exact r5247
  have r5407 : sR S5333 h 28 = some q922 := by rw [eS5333, rN, if_neg d5337]; exact r5248
  have r5408 : sR S5333 h 29 = some q1052 := by rw [eS5333, rN, if_neg d5337]; exact r5249
  have r5409 : sR S5333 h 30 = some q1191 := by rw [eS5333, rN, if_neg d5337]; exact r5250
  have r5410 : sR S5333 h 31 = some q1339 := by rw [eS5333, rN, if_neg d5337]; exact r5251
  have r5411 : sR S5333 h 32 = some q1496 := by rw [eS5333, rN, if_neg d5337]; exact r5252
  have r5412 : sR S5333 h 33 = some q1662 := by rw [eS5333, rN, if_neg d5337]; exact r5253
  have r5413 : sR S5333 h 34 = some q1837 := by rw [eS5333, rN, if_neg d5337]; exact r5254
  have r5414 : sR S5333 h 37 = some q2021 := by rw [eS5333, rN, if_neg d5337]; exact r5255
  have r5415 : sR S5333 h 38 = some q2212 := by rw [eS5333, rN, if_neg d5337]; exact r5256
  have r5416 : sR S5333 h 39 = some q2410 := by rw [eS5333, rN, if_neg d5337]; exact r5257
  have r5417 : sR S5333 h 40 = some q2615 := by rw [eS5333, rN, if_neg d5337]; exact r5258
  have r5418 : sR S5333 h 41 = some q2827 := by rw [eS5333, rN, if_neg d5337]; exact r5259
  have r5419 : sR S5333 h 42 = some q3046 := by rw [eS5333, rN, if_neg d5337]; exact r5260
  have r5420 : sR S5333 h 43 = some q3272 := by rw [eS5333, rN, if_neg d5337]; exact r5261
  have r5421 : sR S5333 h 44 = some q3505 := by rw [eS5333, rN, if_neg d5337]; exact r5262
  have r5422 : sR S5333 h 45 = some q3745 := by rw [eS5333, rN, if_neg d5337]; exact r5263
  have r5423 : sR S5333 h 46 = some q3992 := by rw [eS5333, rN, if_neg d5337]; exact r5264
  have r5424 : sR S5333 h 47 = some q4246 := by rw [eS5333, rN, if_neg d5337]; exact r5265
  have r5425 : sR S5333 h 48 = some q4507 := by rw [eS5333, rN, if_neg d5337]; exact r5266
  have r5426 : sR S5333 h 49 = some q4775 := by rw [eS5333, rN, if_neg d5337]; exact r5267
  have r5427 : sR S5333 h 50 = some q5050 := by rw [eS5333, rN, if_neg d5337]; exact r5331
  have n5428 : sL S5333 q1 = 80 := by rw [eS5333, lNw, if_neg d5339]; exact n5268
  have n5429 : sL S5333 q64 = 6 := by rw [eS5333, lNw, if_neg d5341]; exact n5269
  have n5430 : sL S5333 q134 = 6 := by rw [eS5333, lNw, if_neg d5343]; exact n5270
  have n5431 : sL S5333 q211 = 6 := by rw [eS5333, lNw, if_neg d5345]; exact n5271
  have n5432 : sL S5333 q295 = 6 := by rw [eS5333, lNw, if_neg d5347]; exact n5272
  have n5433 : sL S5333 q386 = 6 := by rw [eS5333, lNw, if_neg d5349]; exact n5273
  have n5434 : sL S5333 q484 = 6 := by rw [eS5333, lNw, if_neg d5351]; exact n5274
  have n5435 : sL S5333 q689 = 24 := by rw [eS5333, lNw, if_neg d5353]; exact n5275
  have n5436 : sL S5333 q801 = 2 := by rw [eS5333, lNw, if_neg d5355]; exact n5276
  have n5437 : sL S5333 q922 = 2 := by rw [eS5333, lNw, if_neg d5357]; exact n5277
  have n5438 : sL S5333 q1052 = 2 := by rw [eS5333, lNw, if_neg d5359]; exact n5278
  have n5439 : sL S5333 q1191 = 2 := by rw [eS5333, lNw, if_neg d5361]; exact n5279
  have n5440 : sL S5333 q1339 = 2 := by rw [eS5333, lNw, if_neg d5363]; exact n5280
  have n5441 : sL S5333 q1496 = 2 := by rw [eS5333, lNw, if_neg d5365]; exact n5281
  have n5442 : sL S5333 q1662 = 2 := by rw [eS5333, lNw, if_neg d5367]; exact n5282
  have n5443 : sL S5333 q1837 = 2 := by rw [eS5333, lNw, if_neg d5369]; exact n5283
  have n5444 : sL S5333 q2021 = 200 := by rw [eS5333, lNw, if_neg d5371]; exact n5284
  have n5445 : sL S5333 q2212 = 200 := by rw [eS5333, lNw, if_neg d5373]; exact n5285
  have n5446 : sL S5333 q2410 = 200 := by rw [eS5333, lNw, if_neg d5375]; exact n5286
  have n5447 : sL S5333 q2615 = 200 := by rw [eS5333, lNw, if_neg d5377]; exact n5287
  have n5448 : sL S5333 q2827 = 200 := by rw [eS5333, lNw, if_neg d5379]; exact n5288
  have n5449 : sL S5333 q3046 = 200 := by rw [eS5333, lNw, if_neg d5381]; exact n5289
  have n5450 : sL S5333 q3272 = 200 := by rw [eS5333, lNw, if_neg d5383]; exact n5290
  have n5451 : sL S5333 q3505 = 200 := by rw [eS5333, lNw, if_neg d5385]; exact n5291
  have n5452 : sL S5333 q3745 = 200 := by rw [eS5333, lNw, if_neg d5387]; exact n5292
  have n5453 : sL S5333 q3992 = 10 := by rw [eS5333, lNw, if_neg d5389]; exact n5293
  have n5454 : sL S5333 q4246 = 10 := by rw [eS5333, lNw, if_neg d5391]; exact n5294
  have n5455 : sL S5333 q4507 = 10 := by rw [eS5333, lNw, if_neg d5393]; exact n5295
  have n5456 : sL S5333 q4775 = 5 := by rw [eS5333, lNw, if_neg d5395]; exact n5296
  have n5457 : sL S5333 q5050 = 5 := by rw [eS5333, lNw, if_neg d5397]; exact n5297
  have w5458 : sI S5333 h 1 = 0 := by rw [eS5333, iN, if_neg d5337]; exact w5298
  have w5459 : sI S5333 h 2 = 0 := by rw [eS5333, iN, if_neg d5337]; exact w5299
  have w5460 : sI S5333 h 3 = 0 := by rw [eS5333, iN, if_neg d5337]; exact w5300
  have w5461 : sI S5333 h 4 = 0 := by rw [eS5333, iN, if_neg d5337]; exact w5301
  have w5462 : sI S5333 h 11 = 0 := by rw [eS5333, iN, if_neg d5337]; exact w5302
  have w5463 : sI S5333 h 12 = 0 := by rw [eS5333, iN, if_neg d5337]; exact w5303
  have w5464 : sI S5333 h 13 = 0 := by rw [eS5333, iN, if_neg d5337]; exact w5304
  have w5465 : sI S5333 h 14 = 0 := by rw [eS5333, iN, if_neg d5337]; exact w5305
  have w5466 : sI S5333 h 15 = 0 := by rw [eS5333, iN, if_neg d5337]; exact w5306
  have w5467 : sI S5333 h 16 = 0 := by rw [eS5333, iN, if_neg d5337]; exact w5307
  have w5468 : sI S5333 h 17 = 0 := by rw [eS5333, iN, if_neg d5337]; exact w5308
  have w5469 : sI S5333 h 18 = 0 := by rw [eS5333, iN, if_neg d5337]; exact w5309
  have w5470 : sI S5333 h 20 = 0 := by rw [eS5333, iN, if_neg d5337]; exact w5310
  have w5471 : sI S5333 h 21 = 0 := by rw [eS5333, iN, if_neg d5337]; exact w5311
  have w5472 : sI S5333 h 22 = 0 := by rw [eS5333, iN, if_neg d5337]; exact w5312
  have w5473 : sI S5333 h 35 = 0 := by rw [eS5333, iN, if_neg d5337]; exact w5313
  have w5474 : sI S5333 h 36 = 0 := by rw [eS5333, iN, if_neg d5337]; exact w5314
  have w5475 : sI S5333 h 53 = 0 := by rw [eS5333, iN, if_neg d5337]; exact w5315
  have w5476 : sI S5333 h 54 = 0 := by rw [eS5333, iN, if_neg d5337]; exact w5316
  have w5477 : sI S5333 h 55 = 0 := by rw [eS5333, iN, if_neg d5337]; exact w5317
  have w5478 : sI S5333 h 60 = 0 := by rw [eS5333, iN, if_neg d5337]; exact w5318
  have w5479 : sI S5333 h 19 = 200 := by rw [eS5333, iN, if_neg d5337]; exact w5319
  have w5480 : sI S5333 h 23 = 400 := by rw [eS5333, iN, if_neg d5337]; exact w5320
  have w5481 : sI S5333 h 24 = 3 := by rw [eS5333, iN, if_neg d5337]; exact w5321
  have w5482 : sI S5333 h 25 = 2 := by rw [eS5333, iN, if_neg d5337]; exact w5322
  have w5483 : ∀ j, j < 2 → sI S5333 q801 j = 0 := fun j hj => by rw [eS5333, iN, if_neg d5355]; exact w5323 j hj 
  have w5484 : ∀ j, j < 2 → sI S5333 q922 j = 0 := fun j hj => by rw [eS5333, iN, if_neg d5357]; exact w5324 j hj 
  have w5485 : ∀ j, j < 2 → sI S5333 q1052 j = 0 := fun j hj => by rw [eS5333, iN, if_neg d5359]; exact w5325 j hj 
  have w5486 : ∀ j, j < 2 → sI S5333 q1191 j = 0 := fun j hj => by rw [eS5333, iN, if_neg d5361]; exact w5326 j hj 
  have w5487 : ∀ j, j < 2 → sI S5333 q1339 j = 0 := fun j hj => by rw [eS5333, iN, if_neg d5363]; exact w5327 j hj 
  have w5488 : ∀ j, j < 2 → sI S5333 q1496 j = 0 := fun j hj => by rw [eS5333, iN, if_neg d5365]; exact w5328 j hj 
  have w5489 : ∀ j, j < 2 → sI S5333 q1662 j = 0 := fun j hj => by rw [eS5333, iN, if_neg d5367]; exact w5329 j hj 
  have w5490 : ∀ j, j < 2 → sI S5333 q1837 j = 0 := fun j hj => by rw [eS5333, iN, if_neg d5369]; exact w5330 j hj 
  have k5491 : sK S5333 q5332 = 11 := by rw [eS5333, kN, if_pos rfl]
  have n5492 : sL S5333 q5332 = 5 := by rw [eS5333, lNw, if_pos rfl]
  clear k5208 k5209 k5210 k5211 k5212 k5213 k5214 k5215 k5216 k5217 k5218 k5219 k5220 k5221 k5222 k5223 k5224 k5225 k5226 k5227 k5228 k5229 k5230 k5231 k5232 k5233 k5234 k5235 k5236 k5237 k5238 r5239 r5240 r5241 r5242 r5243 r5244 r5245 r5246 r5247 r5248 r5249 r5250 r5251 r5252 r5253 r5254 r5255 r5256 r5257 r5258 r5259 r5260 r5261 r5262 r5263 r5264 r5265 r5266 r5267 r5331 n5268 n5269 n5270 n5271 n5272 n5273 n5274 n5275 n5276 n5277 n5278 n5279 n5280 n5281 n5282 n5283 n5284 n5285 n5286 n5287 n5288 n5289 n5290 n5291 n5292 n5293 n5294 n5295 n5296 n5297 w5298 w5299 w5300 w5301 w5302 w5303 w5304 w5305 w5306 w5307 w5308 w5309 w5310 w5311 w5312 w5313 w5314 w5315 w5316 w5317 w5318 w5319 w5320 w5321 w5322 w5323 w5324 w5325 w5326 w5327 w5328 w5329 w5330
  refine pg_pr (ci := 9) (C := RX9) (T := TX9) (N := 63) hx hb hts wi9 tyX9 tyX9_ok nmX9 hown hK hW hS k5336 (by decide) rfl 51 (by decide) (hts (.fieldLink RX9 115 "IceHallModel" "best" "[I") (by decide +kernel)) (fun _ h9 => h9) rfl hnm rfl rfl rfl rfl dX9_init_271 (fun H locs hW hS => ?_)
  have hX : Kx [h] S (stR S5333 h 51 (some q5332)) := hX.Rh List.mem_cons_self
  obtain ⟨S5493, eS5493⟩ : ∃ T : St, T = stR S5333 h 51 (some q5332) := ⟨_, rfl⟩
  rw [← eS5493] at hW hX
  have k5494 : sK S5493 h = 9 := by rw [eS5493]; exact k5336
  have k5495 : sK S5493 q1 = 10 := by rw [eS5493]; exact k5338
  have k5496 : sK S5493 q64 = 11 := by rw [eS5493]; exact k5340
  have k5497 : sK S5493 q134 = 11 := by rw [eS5493]; exact k5342
  have k5498 : sK S5493 q211 = 11 := by rw [eS5493]; exact k5344
  have k5499 : sK S5493 q295 = 11 := by rw [eS5493]; exact k5346
  have k5500 : sK S5493 q386 = 11 := by rw [eS5493]; exact k5348
  have k5501 : sK S5493 q484 = 11 := by rw [eS5493]; exact k5350
  have k5502 : sK S5493 q689 = 11 := by rw [eS5493]; exact k5352
  have k5503 : sK S5493 q801 = 11 := by rw [eS5493]; exact k5354
  have k5504 : sK S5493 q922 = 11 := by rw [eS5493]; exact k5356
  have k5505 : sK S5493 q1052 = 11 := by rw [eS5493]; exact k5358
  have k5506 : sK S5493 q1191 = 11 := by rw [eS5493]; exact k5360
  have k5507 : sK S5493 q1339 = 11 := by rw [eS5493]; exact k5362
  have k5508 : sK S5493 q1496 = 11 := by rw [eS5493]; exact k5364
  have k5509 : sK S5493 q1662 = 11 := by rw [eS5493]; exact k5366
  have k5510 : sK S5493 q1837 = 13 := by rw [eS5493]; exact k5368
  have k5511 : sK S5493 q2021 = 11 := by rw [eS5493]; exact k5370
  have k5512 : sK S5493 q2212 = 11 := by rw [eS5493]; exact k5372
  have k5513 : sK S5493 q2410 = 11 := by rw [eS5493]; exact k5374
  have k5514 : sK S5493 q2615 = 11 := by rw [eS5493]; exact k5376
  have k5515 : sK S5493 q2827 = 11 := by rw [eS5493]; exact k5378
  have k5516 : sK S5493 q3046 = 11 := by rw [eS5493]; exact k5380
  have k5517 : sK S5493 q3272 = 11 := by rw [eS5493]; exact k5382
  have k5518 : sK S5493 q3505 = 11 := by rw [eS5493]; exact k5384
  have k5519 : sK S5493 q3745 = 11 := by rw [eS5493]; exact k5386
  have k5520 : sK S5493 q3992 = 11 := by rw [eS5493]; exact k5388
  have k5521 : sK S5493 q4246 = 11 := by rw [eS5493]; exact k5390
  have k5522 : sK S5493 q4507 = 11 := by rw [eS5493]; exact k5392
  have k5523 : sK S5493 q4775 = 11 := by rw [eS5493]; exact k5394
  have k5524 : sK S5493 q5050 = 11 := by rw [eS5493]; exact k5396
  have k5525 : sK S5493 q5332 = 11 := by rw [eS5493]; exact k5491
  have r5526 : sR S5493 h 0 = some q1 := by rw [eS5493, rR, if_pos rfl, if_neg (by decide)]; exact r5398
  have r5527 : sR S5493 h 5 = some q64 := by rw [eS5493, rR, if_pos rfl, if_neg (by decide)]; exact r5399
  have r5528 : sR S5493 h 6 = some q134 := by rw [eS5493, rR, if_pos rfl, if_neg (by decide)]; exact r5400
  have r5529 : sR S5493 h 7 = some q211 := by rw [eS5493, rR, if_pos rfl, if_neg (by decide)]; exact r5401
  have r5530 : sR S5493 h 8 = some q295 := by rw [eS5493, rR, if_pos rfl, if_neg (by decide)]; exact r5402
  have r5531 : sR S5493 h 9 = some q386 := by rw [eS5493, rR, if_pos rfl, if_neg (by decide)]; exact r5403
  have r5532 : sR S5493 h 10 = some q484 := by rw [eS5493, rR, if_pos rfl, if_neg (by decide)]; exact r5404
  have r5533 : sR S5493 h 26 = some q689 := by rw [eS5493, rR, if_pos rfl, if_neg (by decide)]; exact r5405
  have r5534 : sR S5493 h 27 = some q801 := by rw [eS5493, rR, if_pos rfl, if_neg (by decide)]; exact r5406
  have r5535 : sR S5493 h 28 = some q922 := by rw [eS5493, rR, if_pos rfl, if_neg (by decide)]; exact r5407
  have r5536 : sR S5493 h 29 = some q1052 := by rw [eS5493, rR, if_pos rfl, if_neg (by decide)]; exact r5408
  have r5537 : sR S5493 h 30 = some q1191 := by rw [eS5493, rR, if_pos rfl, if_neg (by decide)]; exact r5409
  have r5538 : sR S5493 h 31 = some q1339 := by rw [eS5493, rR, if_pos rfl, if_neg (by decide)]; exact r5410
  have r5539 : sR S5493 h 32 = some q1496 := by rw [eS5493, rR, if_pos rfl, if_neg (by decide)]; exact r5411
  have r5540 : sR S5493 h 33 = some q1662 := by rw [eS5493, rR, if_pos rfl, if_neg (by decide)]; exact r5412
  have r5541 : sR S5493 h 34 = some q1837 := by rw [eS5493, rR, if_pos rfl, if_neg (by decide)]; exact r5413
  have r5542 : sR S5493 h 37 = some q2021 := by rw [eS5493, rR, if_pos rfl, if_neg (by decide)]; exact r5414
  have r5543 : sR S5493 h 38 = some q2212 := by rw [eS5493, rR, if_pos rfl, if_neg (by decide)]; exact r5415
  have r5544 : sR S5493 h 39 = some q2410 := by rw [eS5493, rR, if_pos rfl, if_neg (by decide)]; exact r5416
  have r5545 : sR S5493 h 40 = some q2615 := by rw [eS5493, rR, if_pos rfl, if_neg (by decide)]; exact r5417
  have r5546 : sR S5493 h 41 = some q2827 := by rw [eS5493, rR, if_pos rfl, if_neg (by decide)]; exact r5418
  have r5547 : sR S5493 h 42 = some q3046 := by rw [eS5493, rR, if_pos rfl, if_neg (by decide)]; exact r5419
  have r5548 : sR S5493 h 43 = some q3272 := by rw [eS5493, rR, if_pos rfl, if_neg (by decide)]; exact r5420
  have r5549 : sR S5493 h 44 = some q3505 := by rw [eS5493, rR, if_pos rfl, if_neg (by decide)]; exact r5421
  have r5550 : sR S5493 h 45 = some q3745 := by rw [eS5493, rR, if_pos rfl, if_neg (by decide)]; exact r5422
  have r5551 : sR S5493 h 46 = some q3992 := by rw [eS5493, rR, if_pos rfl, if_neg (by decide)]; exact r5423
  have r5552 : sR S5493 h 47 = some q4246 := by rw [eS5493, rR, if_pos rfl, if_neg (by decide)]; exact r5424
  have r5553 : sR S5493 h 48 = some q4507 := by rw [eS5493, rR, if_pos rfl, if_neg (by decide)]; exact r5425
  have r5554 : sR S5493 h 49 = some q4775 := by rw [eS5493, rR, if_pos rfl, if_neg (by decide)]; exact r5426
  have r5555 : sR S5493 h 50 = some q5050 := by rw [eS5493, rR, if_pos rfl, if_neg (by decide)]; exact r5427
  have n5556 : sL S5493 q1 = 80 := by rw [eS5493]; exact n5428
  have n5557 : sL S5493 q64 = 6 := by rw [eS5493]; exact n5429
  have n5558 : sL S5493 q134 = 6 := by rw [eS5493]; exact n5430
  have n5559 : sL S5493 q211 = 6 := by rw [eS5493]; exact n5431
  have n5560 : sL S5493 q295 = 6 := by rw [eS5493]; exact n5432
  have n5561 : sL S5493 q386 = 6 := by rw [eS5493]; exact n5433
  have n5562 : sL S5493 q484 = 6 := by rw [eS5493]; exact n5434
  have n5563 : sL S5493 q689 = 24 := by rw [eS5493]; exact n5435
  have n5564 : sL S5493 q801 = 2 := by rw [eS5493]; exact n5436
  have n5565 : sL S5493 q922 = 2 := by rw [eS5493]; exact n5437
  have n5566 : sL S5493 q1052 = 2 := by rw [eS5493]; exact n5438
  have n5567 : sL S5493 q1191 = 2 := by rw [eS5493]; exact n5439
  have n5568 : sL S5493 q1339 = 2 := by rw [eS5493]; exact n5440
  have n5569 : sL S5493 q1496 = 2 := by rw [eS5493]; exact n5441
  have n5570 : sL S5493 q1662 = 2 := by rw [eS5493]; exact n5442
  have n5571 : sL S5493 q1837 = 2 := by rw [eS5493]; exact n5443
  have n5572 : sL S5493 q2021 = 200 := by rw [eS5493]; exact n5444
  have n5573 : sL S5493 q2212 = 200 := by rw [eS5493]; exact n5445
  have n5574 : sL S5493 q2410 = 200 := by rw [eS5493]; exact n5446
  have n5575 : sL S5493 q2615 = 200 := by rw [eS5493]; exact n5447
  have n5576 : sL S5493 q2827 = 200 := by rw [eS5493]; exact n5448
  have n5577 : sL S5493 q3046 = 200 := by rw [eS5493]; exact n5449
  have n5578 : sL S5493 q3272 = 200 := by rw [eS5493]; exact n5450
  have n5579 : sL S5493 q3505 = 200 := by rw [eS5493]; exact n5451
  have n5580 : sL S5493 q3745 = 200 := by rw [eS5493]; exact n5452
  have n5581 : sL S5493 q3992 = 10 := by rw [eS5493]; exact n5453
  have n5582 : sL S5493 q4246 = 10 := by rw [eS5493]; exact n5454
  have n5583 : sL S5493 q4507 = 10 := by rw [eS5493]; exact n5455
  have n5584 : sL S5493 q4775 = 5 := by rw [eS5493]; exact n5456
  have n5585 : sL S5493 q5050 = 5 := by rw [eS5493]; exact n5457
  have n5586 : sL S5493 q5332 = 5 := by rw [eS5493]; exact n5492
  have w5587 : sI S5493 h 1 = 0 := by rw [eS5493]; exact w5458
  have w5588 : sI S5493 h 2 = 0 := by rw [eS5493]; exact w5459
  have w5589 : sI S5493 h 3 = 0 := by rw [eS5493]; exact w5460
  have w5590 : sI S5493 h 4 = 0 := by rw [eS5493]; exact w5461
  have w5591 : sI S5493 h 11 = 0 := by rw [eS5493]; exact w5462
  have w5592 : sI S5493 h 12 = 0 := by rw [eS5493]; exact w5463
  have w5593 : sI S5493 h 13 = 0 := by rw [eS5493]; exact w5464
  have w5594 : sI S5493 h 14 = 0 := by rw [eS5493]; exact w5465
  have w5595 : sI S5493 h 15 = 0 := by rw [eS5493]; exact w5466
  have w5596 : sI S5493 h 16 = 0 := by rw [eS5493]; exact w5467
  have w5597 : sI S5493 h 17 = 0 := by rw [eS5493]; exact w5468
  have w5598 : sI S5493 h 18 = 0 := by rw [eS5493]; exact w5469
  have w5599 : sI S5493 h 20 = 0 := by rw [eS5493]; exact w5470
  have w5600 : sI S5493 h 21 = 0 := by rw [eS5493]; exact w5471
  have w5601 : sI S5493 h 22 = 0 := by rw [eS5493]; exact w5472
  have w5602 : sI S5493 h 35 = 0 := by rw [eS5493]; exact w5473
  have w5603 : sI S5493 h 36 = 0 := by rw [eS5493]; exact w5474
  have w5604 : sI S5493 h 53 = 0 := by rw [eS5493]; exact w5475
  have w5605 : sI S5493 h 54 = 0 := by rw [eS5493]; exact w5476
  have w5606 : sI S5493 h 55 = 0 := by rw [eS5493]; exact w5477
  have w5607 : sI S5493 h 60 = 0 := by rw [eS5493]; exact w5478
  have w5608 : sI S5493 h 19 = 200 := by rw [eS5493]; exact w5479
  have w5609 : sI S5493 h 23 = 400 := by rw [eS5493]; exact w5480
  have w5610 : sI S5493 h 24 = 3 := by rw [eS5493]; exact w5481
  have w5611 : sI S5493 h 25 = 2 := by rw [eS5493]; exact w5482
  have w5612 : ∀ j, j < 2 → sI S5493 q801 j = 0 := fun j hj => by rw [eS5493]; exact w5483 j hj 
  have w5613 : ∀ j, j < 2 → sI S5493 q922 j = 0 := fun j hj => by rw [eS5493]; exact w5484 j hj 
  have w5614 : ∀ j, j < 2 → sI S5493 q1052 j = 0 := fun j hj => by rw [eS5493]; exact w5485 j hj 
  have w5615 : ∀ j, j < 2 → sI S5493 q1191 j = 0 := fun j hj => by rw [eS5493]; exact w5486 j hj 
  have w5616 : ∀ j, j < 2 → sI S5493 q1339 j = 0 := fun j hj => by rw [eS5493]; exact w5487 j hj 
  have w5617 : ∀ j, j < 2 → sI S5493 q1496 j = 0 := fun j hj => by rw [eS5493]; exact w5488 j hj 
  have w5618 : ∀ j, j < 2 → sI S5493 q1662 j = 0 := fun j hj => by rw [eS5493]; exact w5489 j hj 
  have w5619 : ∀ j, j < 2 → sI S5493 q1837 j = 0 := fun j hj => by rw [eS5493]; exact w5490 j hj 
  have r5620 : sR S5493 h 51 = some q5332 := by rw [eS5493, rR, if_pos rfl, if_pos rfl]
  clear k5336 k5338 k5340 k5342 k5344 k5346 k5348 k5350 k5352 k5354 k5356 k5358 k5360 k5362 k5364 k5366 k5368 k5370 k5372 k5374 k5376 k5378 k5380 k5382 k5384 k5386 k5388 k5390 k5392 k5394 k5396 k5491 r5398 r5399 r5400 r5401 r5402 r5403 r5404 r5405 r5406 r5407 r5408 r5409 r5410 r5411 r5412 r5413 r5414 r5415 r5416 r5417 r5418 r5419 r5420 r5421 r5422 r5423 r5424 r5425 r5426 r5427 n5428 n5429 n5430 n5431 n5432 n5433 n5434 n5435 n5436 n5437 n5438 n5439 n5440 n5441 n5442 n5443 n5444 n5445 n5446 n5447 n5448 n5449 n5450 n5451 n5452 n5453 n5454 n5455 n5456 n5457 n5492 w5458 w5459 w5460 w5461 w5462 w5463 w5464 w5465 w5466 w5467 w5468 w5469 w5470 w5471 w5472 w5473 w5474 w5475 w5476 w5477 w5478 w5479 w5480 w5481 w5482 w5483 w5484 w5485 w5486 w5487 w5488 w5489 w5490
  refine lv_aload_n hx hb dX9_init_274 rfl (lv_at hl 0 rfl) ?_
  refine lv_iconst (v := 5) hx hb dX9_init_275 (by decide) ?_
  refine pg_newa (atype := .int) (ty := .int) (kd := 11) (t0 := 1) (N' := 5) hx hb (hts (.arrayClass .int) (by decide +kernel)) rfl rfl (Or.inl rfl) (by decide) hK hW hS hA (fun _ => rfl) (by decide) (by decide) (Nat.le_of_ble_eq_true rfl) (Nat.le_of_ble_eq_true rfl) (Nat.le_of_ble_eq_true rfl) dX9_init_276 (fun q5621 H hq5621 hW hS => ?_)
  have f5623 : Ap h q5621 := ap_k k5494 hq5621 (by decide)
  have o5624 : 16 ≤ sK S q5621 := hX.old hq5621 (ni_c (ap_s f5623) ni_0)
  have hX : Kx [h] S (stN S5493 q5621 11 5) := hX.N hq5621
  obtain ⟨S5622, eS5622⟩ : ∃ T : St, T = stN S5493 q5621 11 5 := ⟨_, rfl⟩
  rw [← eS5622] at hW hX
  obtain ⟨k5625, d5626⟩ := fk_N (a := h) eS5622 k5494 (by decide) hq5621
  obtain ⟨k5627, d5628⟩ := fk_N (a := q1) eS5622 k5495 (by decide) hq5621
  obtain ⟨k5629, d5630⟩ := fk_N (a := q64) eS5622 k5496 (by decide) hq5621
  obtain ⟨k5631, d5632⟩ := fk_N (a := q134) eS5622 k5497 (by decide) hq5621
  obtain ⟨k5633, d5634⟩ := fk_N (a := q211) eS5622 k5498 (by decide) hq5621
  obtain ⟨k5635, d5636⟩ := fk_N (a := q295) eS5622 k5499 (by decide) hq5621
  obtain ⟨k5637, d5638⟩ := fk_N (a := q386) eS5622 k5500 (by decide) hq5621
  obtain ⟨k5639, d5640⟩ := fk_N (a := q484) eS5622 k5501 (by decide) hq5621
  obtain ⟨k5641, d5642⟩ := fk_N (a := q689) eS5622 k5502 (by decide) hq5621
  obtain ⟨k5643, d5644⟩ := fk_N (a := q801) eS5622 k5503 (by decide) hq5621
  obtain ⟨k5645, d5646⟩ := fk_N (a := q922) eS5622 k5504 (by decide) hq5621
  obtain ⟨k5647, d5648⟩ := fk_N (a := q1052) eS5622 k5505 (by decide) hq5621
  obtain ⟨k5649, d5650⟩ := fk_N (a := q1191) eS5622 k5506 (by decide) hq5621
  obtain ⟨k5651, d5652⟩ := fk_N (a := q1339) eS5622 k5507 (by decide) hq5621
  obtain ⟨k5653, d5654⟩ := fk_N (a := q1496) eS5622 k5508 (by decide) hq5621
  obtain ⟨k5655, d5656⟩ := fk_N (a := q1662) eS5622 k5509 (by decide) hq5621
  obtain ⟨k5657, d5658⟩ := fk_N (a := q1837) eS5622 k5510 (by decide) hq5621
  obtain ⟨k5659, d5660⟩ := fk_N (a := q2021) eS5622 k5511 (by decide) hq5621
  obtain ⟨k5661, d5662⟩ := fk_N (a := q2212) eS5622 k5512 (by decide) hq5621
  obtain ⟨k5663, d5664⟩ := fk_N (a := q2410) eS5622 k5513 (by decide) hq5621
  obtain ⟨k5665, d5666⟩ := fk_N (a := q2615) eS5622 k5514 (by decide) hq5621
  obtain ⟨k5667, d5668⟩ := fk_N (a := q2827) eS5622 k5515 (by decide) hq5621
  obtain ⟨k5669, d5670⟩ := fk_N (a := q3046) eS5622 k5516 (by decide) hq5621
  obtain ⟨k5671, d5672⟩ := fk_N (a := q3272) eS5622 k5517 (by decide) hq5621
  obtain ⟨k5673, d5674⟩ := fk_N (a := q3505) eS5622 k5518 (by decide) hq5621
  obtain ⟨k5675, d5676⟩ := fk_N (a := q3745) eS5622 k5519 (by decide) hq5621
  obtain ⟨k5677, d5678⟩ := fk_N (a := q3992) eS5622 k5520 (by decide) hq5621
  obtain ⟨k5679, d5680⟩ := fk_N (a := q4246) eS5622 k5521 (by decide) hq5621
  obtain ⟨k5681, d5682⟩ := fk_N (a := q4507) eS5622 k5522 (by decide) hq5621
  obtain ⟨k5683, d5684⟩ := fk_N (a := q4775) eS5622 k5523 (by decide) hq5621
  obtain ⟨k5685, d5686⟩ := fk_N (a := q5050) eS5622 k5524 (by decide) hq5621
  obtain ⟨k5687, d5688⟩ := fk_N (a := q5332) eS5622 k5525 (by decide) hq5621
  have r5689 : sR S5622 h 0 = some q1 := by rw [eS5622, rN, if_neg d5626]; exact r5526
  have r5690 : sR S5622 h 5 = some q64 := by rw [eS5622, rN, if_neg d5626]; exact r5527
  have r5691 : sR S5622 h 6 = some q134 := by rw [eS5622, rN, if_neg d5626]; exact r5528
  have r5692 : sR S5622 h 7 = some q211 := by rw [eS5622, rN, if_neg d5626]; exact r5529
  have r5693 : sR S5622 h 8 = some q295 := by rw [eS5622, rN, if_neg d5626]; exact r5530
  have r5694 : sR S5622 h 9 = some q386 := by rw [eS5622, rN, if_neg d5626]; exact r5531
  have r5695 : sR S5622 h 10 = some q484 := by rw [eS5622, rN, if_neg d5626]; exact r5532
  have r5696 : sR S5622 h 26 = some q689 := by rw [eS5622, rN, if_neg d5626]; exact r5533
  have r5697 : sR S5622 h 27 = some q801 := by rw [eS5622, rN, if_neg d5626]; exact r5534
  have r5698 : sR S5622 h 28 = some q922 := by rw [eS5622, rN, if_neg d5626]; exact r5535
  have r5699 : sR S5622 h 29 = some q1052 := by rw [eS5622, rN, if_neg d5626]; exact r5536
  have r5700 : sR S5622 h 30 = some q1191 := by rw [eS5622, rN, if_neg d5626]; exact r5537
  have r5701 : sR S5622 h 31 = some q1339 := by rw [eS5622, rN, if_neg d5626]; exact r5538
  have r5702 : sR S5622 h 32 = some q1496 := by rw [eS5622, rN, if_neg d5626]; exact r5539
  have r5703 : sR S5622 h 33 = some q1662 := by rw [eS5622, rN, if_neg d5626]; exact r5540
  have r5704 : sR S5622 h 34 = some q1837 := by rw [eS5622, rN, if_neg d5626]; exact r5541
  have r5705 : sR S5622 h 37 = some q2021 := by rw [eS5622, rN, if_neg d5626]; exact r5542
  have r5706 : sR S5622 h 38 = some q2212 := by rw [eS5622, rN, if_neg d5626]; exact r5543
  have r5707 : sR S5622 h 39 = some q2410 := by rw [eS5622, rN, if_neg d5626]; exact r5544
  have r5708 : sR S5622 h 40 = some q2615 := by rw [eS5622, rN, if_neg d5626]; exact r5545
  have r5709 : sR S5622 h 41 = some q2827 := by rw [eS5622, rN, if_neg d5626]; exact r5546
  have r5710 : sR S5622 h 42 = some q3046 := by rw [eS5622, rN, if_neg d5626]; exact r5547
  have r5711 : sR S5622 h 43 = some q3272 := by rw [eS5622, rN, if_neg d5626]; exact r5548
  have r5712 : sR S5622 h 44 = some q3505 := by rw [eS5622, rN, if_neg d5626]; exact r5549
  have r5713 : sR S5622 h 45 = some q3745 := by rw [eS5622, rN, if_neg d5626]; exact r5550
  have r5714 : sR S5622 h 46 = some q3992 := by rw [eS5622, rN, if_neg d5626]; exact r5551
  have r5715 : sR S5622 h 47 = some q4246 := by rw [eS5622, rN, if_neg d5626]; exact r5552
  have r5716 : sR S5622 h 48 = some q4507 := by rw [eS5622, rN, if_neg d5626]; exact r5553
  have r5717 : sR S5622 h 49 = some q4775 := by rw [eS5622, rN, if_neg d5626]; exact r5554
  have r5718 : sR S5622 h 50 = some q5050 := by rw [eS5622, rN, if_neg d5626]; exact r5555
  have r5719 : sR S5622 h 51 = some q5332 := by rw [eS5622, rN, if_neg d5626]; exact r5620
  have n5720 : sL S5622 q1 = 80 := by rw [eS5622, lNw, if_neg d5628]; exact n5556
  have n5721 : sL S5622 q64 = 6 := by rw [eS5622, lNw, if_neg d5630]; exact n5557
  have n5722 : sL S5622 q134 = 6 := by rw [eS5622, lNw, if_neg d5632]; exact n5558
  have n5723 : sL S5622 q211 = 6 := by rw [eS5622, lNw, if_neg d5634]; exact n5559
  have n5724 : sL S5622 q295 = 6 := by rw [eS5622, lNw, if_neg d5636]; exact n5560
  have n5725 : sL S5622 q386 = 6 := by rw [eS5622, lNw, if_neg d5638]; exact n5561
  have n5726 : sL S5622 q484 = 6 := by rw [eS5622, lNw, if_neg d5640]; exact n5562
  have n5727 : sL S5622 q689 = 24 := by rw [eS5622, lNw, if_neg d5642]; exact n5563
  have n5728 : sL S5622 q801 = 2 := by rw [eS5622, lNw, if_neg d5644]; exact n5564
  have n5729 : sL S5622 q922 = 2 := by rw [eS5622, lNw, if_neg d5646]; exact n5565
  have n5730 : sL S5622 q1052 = 2 := by rw [eS5622, lNw, if_neg d5648]; exact n5566
  have n5731 : sL S5622 q1191 = 2 := by rw [eS5622, lNw, if_neg d5650]; exact n5567
  have n5732 : sL S5622 q1339 = 2 := by rw [eS5622, lNw, if_neg d5652]; exact n5568
  have n5733 : sL S5622 q1496 = 2 := by rw [eS5622, lNw, if_neg d5654]; exact n5569
  have n5734 : sL S5622 q1662 = 2 := by rw [eS5622, lNw, if_neg d5656]; exact n5570
  have n5735 : sL S5622 q1837 = 2 := by rw [eS5622, lNw, if_neg d5658]; exact n5571
  have n5736 : sL S5622 q2021 = 200 := by rw [eS5622, lNw, if_neg d5660]; exact n5572
  have n5737 : sL S5622 q2212 = 200 := by rw [eS5622, lNw, if_neg d5662]; exact n5573
  have n5738 : sL S5622 q2410 = 200 := by rw [eS5622, lNw, if_neg d5664]; exact n5574
  have n5739 : sL S5622 q2615 = 200 := by rw [eS5622, lNw, if_neg d5666]; exact n5575
  have n5740 : sL S5622 q2827 = 200 := by rw [eS5622, lNw, if_neg d5668]; exact n5576
  have n5741 : sL S5622 q3046 = 200 := by rw [eS5622, lNw, if_neg d5670]; exact n5577
  have n5742 : sL S5622 q3272 = 200 := by rw [eS5622, lNw, if_neg d5672]; exact n5578
  have n5743 : sL S5622 q3505 = 200 := by rw [eS5622, lNw, if_neg d5674]; exact n5579
  have n5744 : sL S5622 q3745 = 200 := by rw [eS5622, lNw, if_neg d5676]; exact n5580
  have n5745 : sL S5622 q3992 = 10 := by rw [eS5622, lNw, if_neg d5678]; exact n5581
  have n5746 : sL S5622 q4246 = 10 := by rw [eS5622, lNw, if_neg d5680]; exact n5582
  have n5747 : sL S5622 q4507 = 10 := by rw [eS5622, lNw, if_neg d5682]; exact n5583
  have n5748 : sL S5622 q4775 = 5 := by rw [eS5622, lNw, if_neg d5684]; exact n5584
  have n5749 : sL S5622 q5050 = 5 := by rw [eS5622, lNw, if_neg d5686]; exact n5585
  have n5750 : sL S5622 q5332 = 5 := by rw [eS5622, lNw, if_neg d5688]; exact n5586
  have w5751 : sI S5622 h 1 = 0 := by rw [eS5622, iN, if_neg d5626]; exact w5587
  have w5752 : sI S5622 h 2 = 0 := by rw [eS5622, iN, if_neg d5626]; exact w5588
  have w5753 : sI S5622 h 3 = 0 := by rw [eS5622, iN, if_neg d5626]; exact w5589
  have w5754 : sI S5622 h 4 = 0 := by rw [eS5622, iN, if_neg d5626]; exact w5590
  have w5755 : sI S5622 h 11 = 0 := by rw [eS5622, iN, if_neg d5626]; exact w5591
  have w5756 : sI S5622 h 12 = 0 := by rw [eS5622, iN, if_neg d5626]; exact w5592
  have w5757 : sI S5622 h 13 = 0 := by rw [eS5622, iN, if_neg d5626]; exact w5593
  have w5758 : sI S5622 h 14 = 0 := by rw [eS5622, iN, if_neg d5626]; exact w5594
  have w5759 : sI S5622 h 15 = 0 := by rw [eS5622, iN, if_neg d5626]; exact w5595
  have w5760 : sI S5622 h 16 = 0 := by rw [eS5622, iN, if_neg d5626]; exact w5596
  have w5761 : sI S5622 h 17 = 0 := by rw [eS5622, iN, if_neg d5626]; exact w5597
  have w5762 : sI S5622 h 18 = 0 := by rw [eS5622, iN, if_neg d5626]; exact w5598
  have w5763 : sI S5622 h 20 = 0 := by rw [eS5622, iN, if_neg d5626]; exact w5599
  have w5764 : sI S5622 h 21 = 0 := by rw [eS5622, iN, if_neg d5626]; exact w5600
  have w5765 : sI S5622 h 22 = 0 := by rw [eS5622, iN, if_neg d5626]; exact w5601
  have w5766 : sI S5622 h 35 = 0 := by rw [eS5622, iN, if_neg d5626]; exact w5602
  have w5767 : sI S5622 h 36 = 0 := by rw [eS5622, iN, if_neg d5626]; exact w5603
  have w5768 : sI S5622 h 53 = 0 := by rw [eS5622, iN, if_neg d5626]; exact w5604
  have w5769 : sI S5622 h 54 = 0 := by rw [eS5622, iN, if_neg d5626]; exact w5605
  have w5770 : sI S5622 h 55 = 0 := by rw [eS5622, iN, if_neg d5626]; exact w5606
  have w5771 : sI S5622 h 60 = 0 := by rw [eS5622, iN, if_neg d5626]; exact w5607
  have w5772 : sI S5622 h 19 = 200 := by rw [eS5622, iN, if_neg d5626]; exact w5608
  have w5773 : sI S5622 h 23 = 400 := by rw [eS5622, iN, if_neg d5626]; exact w5609
  have w5774 : sI S5622 h 24 = 3 := by rw [eS5622, iN, if_neg d5626]; exact w5610
  have w5775 : sI S5622 h 25 = 2 := by rw [eS5622, iN, if_neg d5626]; exact w5611
  have w5776 : ∀ j, j < 2 → sI S5622 q801 j = 0 := fun j hj => by rw [eS5622, iN, if_neg d5644]; exact w5612 j hj 
  have w5777 : ∀ j, j < 2 → sI S5622 q922 j = 0 := fun j hj => by rw [eS5622, iN, if_neg d5646]; exact w5613 j hj 
  have w5778 : ∀ j, j < 2 → sI S5622 q1052 j = 0 := fun j hj => by rw [eS5622, iN, if_neg d5648]; exact w5614 j hj 
  have w5779 : ∀ j, j < 2 → sI S5622 q1191 j = 0 := fun j hj => by rw [eS5622, iN, if_neg d5650]; exact w5615 j hj 
  have w5780 : ∀ j, j < 2 → sI S5622 q1339 j = 0 := fun j hj => by rw [eS5622, iN, if_neg d5652]; exact w5616 j hj 
  have w5781 : ∀ j, j < 2 → sI S5622 q1496 j = 0 := fun j hj => by rw [eS5622, iN, if_neg d5654]; exact w5617 j hj 
  have w5782 : ∀ j, j < 2 → sI S5622 q1662 j = 0 := fun j hj => by rw [eS5622, iN, if_neg d5656]; exact w5618 j hj 
  have w5783 : ∀ j, j < 2 → sI S5622 q1837 j = 0 := fun j hj => by rw [eS5622, iN, if_neg d5658]; exact w5619 j hj 
  have k5784 : sK S5622 q5621 = 11 := by rw [eS5622, kN, if_pos rfl]
  have n5785 : sL S5622 q5621 = 5 := by rw [eS5622, lNw, if_pos rfl]
  clear k5494 k5495 k5496 k5497 k5498 k5499 k5500 k5501 k5502 k5503 k5504 k5505 k5506 k5507 k5508 k5509 k5510 k5511 k5512 k5513 k5514 k5515 k5516 k5517 k5518 k5519 k5520 k5521 k5522 k5523 k5524 k5525 r5526 r5527 r5528 r5529 r5530 r5531 r5532 r5533 r5534 r5535 r5536 r5537 r5538 r5539 r5540 r5541 r5542 r5543 r5544 r5545 r5546 r5547 r5548 r5549 r5550 r5551 r5552 r5553 r5554 r5555 r5620 n5556 n5557 n5558 n5559 n5560 n5561 n5562 n5563 n5564 n5565 n5566 n5567 n5568 n5569 n5570 n5571 n5572 n5573 n5574 n5575 n5576 n5577 n5578 n5579 n5580 n5581 n5582 n5583 n5584 n5585 n5586 w5587 w5588 w5589 w5590 w5591 w5592 w5593 w5594 w5595 w5596 w5597 w5598 w5599 w5600 w5601 w5602 w5603 w5604 w5605 w5606 w5607 w5608 w5609 w5610 w5611 w5612 w5613 w5614 w5615 w5616 w5617 w5618 w5619
  refine pg_pr (ci := 9) (C := RX9) (T := TX9) (N := 63) hx hb hts wi9 tyX9 tyX9_ok nmX9 hown hK hW hS k5625 (by decide) rfl 52 (by decide) (hts (.fieldLink RX9 118 "IceHallModel" "wayHour" "[I") (by decide +kernel)) (fun _ h9 => h9) rfl hnm rfl rfl rfl rfl dX9_init_278 (fun H locs hW hS => ?_)
  have hX : Kx [h] S (stR S5622 h 52 (some q5621)) := hX.Rh List.mem_cons_self
  obtain ⟨S5786, eS5786⟩ : ∃ T : St, T = stR S5622 h 52 (some q5621) := ⟨_, rfl⟩
  rw [← eS5786] at hW hX
  have k5787 : sK S5786 h = 9 := by rw [eS5786]; exact k5625
  have k5788 : sK S5786 q1 = 10 := by rw [eS5786]; exact k5627
  have k5789 : sK S5786 q64 = 11 := by rw [eS5786]; exact k5629
  have k5790 : sK S5786 q134 = 11 := by rw [eS5786]; exact k5631
  have k5791 : sK S5786 q211 = 11 := by rw [eS5786]; exact k5633
  have k5792 : sK S5786 q295 = 11 := by rw [eS5786]; exact k5635
  have k5793 : sK S5786 q386 = 11 := by rw [eS5786]; exact k5637
  have k5794 : sK S5786 q484 = 11 := by rw [eS5786]; exact k5639
  have k5795 : sK S5786 q689 = 11 := by rw [eS5786]; exact k5641
  have k5796 : sK S5786 q801 = 11 := by rw [eS5786]; exact k5643
  have k5797 : sK S5786 q922 = 11 := by rw [eS5786]; exact k5645
  have k5798 : sK S5786 q1052 = 11 := by rw [eS5786]; exact k5647
  have k5799 : sK S5786 q1191 = 11 := by rw [eS5786]; exact k5649
  have k5800 : sK S5786 q1339 = 11 := by rw [eS5786]; exact k5651
  have k5801 : sK S5786 q1496 = 11 := by rw [eS5786]; exact k5653
  have k5802 : sK S5786 q1662 = 11 := by rw [eS5786]; exact k5655
  have k5803 : sK S5786 q1837 = 13 := by rw [eS5786]; exact k5657
  have k5804 : sK S5786 q2021 = 11 := by rw [eS5786]; exact k5659
  have k5805 : sK S5786 q2212 = 11 := by rw [eS5786]; exact k5661
  have k5806 : sK S5786 q2410 = 11 := by rw [eS5786]; exact k5663
  have k5807 : sK S5786 q2615 = 11 := by rw [eS5786]; exact k5665
  have k5808 : sK S5786 q2827 = 11 := by rw [eS5786]; exact k5667
  have k5809 : sK S5786 q3046 = 11 := by rw [eS5786]; exact k5669
  have k5810 : sK S5786 q3272 = 11 := by rw [eS5786]; exact k5671
  have k5811 : sK S5786 q3505 = 11 := by rw [eS5786]; exact k5673
  have k5812 : sK S5786 q3745 = 11 := by rw [eS5786]; exact k5675
  have k5813 : sK S5786 q3992 = 11 := by rw [eS5786]; exact k5677
  have k5814 : sK S5786 q4246 = 11 := by rw [eS5786]; exact k5679
  have k5815 : sK S5786 q4507 = 11 := by rw [eS5786]; exact k5681
  have k5816 : sK S5786 q4775 = 11 := by rw [eS5786]; exact k5683
  have k5817 : sK S5786 q5050 = 11 := by rw [eS5786]; exact k5685
  have k5818 : sK S5786 q5332 = 11 := by rw [eS5786]; exact k5687
  have k5819 : sK S5786 q5621 = 11 := by rw [eS5786]; exact k5784
  have r5820 : sR S5786 h 0 = some q1 := by rw [eS5786, rR, if_pos rfl, if_neg (by decide)]; exact r5689
  have r5821 : sR S5786 h 5 = some q64 := by rw [eS5786, rR, if_pos rfl, if_neg (by decide)]; exact r5690
  have r5822 : sR S5786 h 6 = some q134 := by rw [eS5786, rR, if_pos rfl, if_neg (by decide)]; exact r5691
  have r5823 : sR S5786 h 7 = some q211 := by rw [eS5786, rR, if_pos rfl, if_neg (by decide)]; exact r5692
  have r5824 : sR S5786 h 8 = some q295 := by rw [eS5786, rR, if_pos rfl, if_neg (by decide)]; exact r5693
  have r5825 : sR S5786 h 9 = some q386 := by rw [eS5786, rR, if_pos rfl, if_neg (by decide)]; exact r5694
  have r5826 : sR S5786 h 10 = some q484 := by rw [eS5786, rR, if_pos rfl, if_neg (by decide)]; exact r5695
  have r5827 : sR S5786 h 26 = some q689 := by rw [eS5786, rR, if_pos rfl, if_neg (by decide)]; exact r5696
  have r5828 : sR S5786 h 27 = some q801 := by rw [eS5786, rR, if_pos rfl, if_neg (by decide)]; exact r5697
  have r5829 : sR S5786 h 28 = some q922 := by rw [eS5786, rR, if_pos rfl, if_neg (by decide)]; exact r5698
  have r5830 : sR S5786 h 29 = some q1052 := by rw [eS5786, rR, if_pos rfl, if_neg (by decide)]; exact r5699
  have r5831 : sR S5786 h 30 = some q1191 := by rw [eS5786, rR, if_pos rfl, if_neg (by decide)]; exact r5700
  have r5832 : sR S5786 h 31 = some q1339 := by rw [eS5786, rR, if_pos rfl, if_neg (by decide)]; exact r5701
  have r5833 : sR S5786 h 32 = some q1496 := by rw [eS5786, rR, if_pos rfl, if_neg (by decide)]; exact r5702
  have r5834 : sR S5786 h 33 = some q1662 := by rw [eS5786, rR, if_pos rfl, if_neg (by decide)]; exact r5703
  have r5835 : sR S5786 h 34 = some q1837 := by rw [eS5786, rR, if_pos rfl, if_neg (by decide)]; exact r5704
  have r5836 : sR S5786 h 37 = some q2021 := by rw [eS5786, rR, if_pos rfl, if_neg (by decide)]; exact r5705
  have r5837 : sR S5786 h 38 = some q2212 := by rw [eS5786, rR, if_pos rfl, if_neg (by decide)]; exact r5706
  have r5838 : sR S5786 h 39 = some q2410 := by rw [eS5786, rR, if_pos rfl, if_neg (by decide)]; exact r5707
  have r5839 : sR S5786 h 40 = some q2615 := by rw [eS5786, rR, if_pos rfl, if_neg (by decide)]; exact r5708
  have r5840 : sR S5786 h 41 = some q2827 := by rw [eS5786, rR, if_pos rfl, if_neg (by decide)]; exact r5709
  have r5841 : sR S5786 h 42 = some q3046 := by rw [eS5786, rR, if_pos rfl, if_neg (by decide)]; exact r5710
  have r5842 : sR S5786 h 43 = some q3272 := by rw [eS5786, rR, if_pos rfl, if_neg (by decide)]; exact r5711
  have r5843 : sR S5786 h 44 = some q3505 := by rw [eS5786, rR, if_pos rfl, if_neg (by decide)]; exact r5712
  have r5844 : sR S5786 h 45 = some q3745 := by rw [eS5786, rR, if_pos rfl, if_neg (by decide)]; exact r5713
  have r5845 : sR S5786 h 46 = some q3992 := by rw [eS5786, rR, if_pos rfl, if_neg (by decide)]; exact r5714
  have r5846 : sR S5786 h 47 = some q4246 := by rw [eS5786, rR, if_pos rfl, if_neg (by decide)]; exact r5715
  have r5847 : sR S5786 h 48 = some q4507 := by rw [eS5786, rR, if_pos rfl, if_neg (by decide)]; exact r5716
  have r5848 : sR S5786 h 49 = some q4775 := by rw [eS5786, rR, if_pos rfl, if_neg (by decide)]; exact r5717
  have r5849 : sR S5786 h 50 = some q5050 := by rw [eS5786, rR, if_pos rfl, if_neg (by decide)]; exact r5718
  have r5850 : sR S5786 h 51 = some q5332 := by rw [eS5786, rR, if_pos rfl, if_neg (by decide)]; exact r5719
  have n5851 : sL S5786 q1 = 80 := by rw [eS5786]; exact n5720
  have n5852 : sL S5786 q64 = 6 := by rw [eS5786]; exact n5721
  have n5853 : sL S5786 q134 = 6 := by rw [eS5786]; exact n5722
  have n5854 : sL S5786 q211 = 6 := by rw [eS5786]; exact n5723
  have n5855 : sL S5786 q295 = 6 := by rw [eS5786]; exact n5724
  have n5856 : sL S5786 q386 = 6 := by rw [eS5786]; exact n5725
  have n5857 : sL S5786 q484 = 6 := by rw [eS5786]; exact n5726
  have n5858 : sL S5786 q689 = 24 := by rw [eS5786]; exact n5727
  have n5859 : sL S5786 q801 = 2 := by rw [eS5786]; exact n5728
  have n5860 : sL S5786 q922 = 2 := by rw [eS5786]; exact n5729
  have n5861 : sL S5786 q1052 = 2 := by rw [eS5786]; exact n5730
  have n5862 : sL S5786 q1191 = 2 := by rw [eS5786]; exact n5731
  have n5863 : sL S5786 q1339 = 2 := by rw [eS5786]; exact n5732
  have n5864 : sL S5786 q1496 = 2 := by rw [eS5786]; exact n5733
  have n5865 : sL S5786 q1662 = 2 := by rw [eS5786]; exact n5734
  have n5866 : sL S5786 q1837 = 2 := by rw [eS5786]; exact n5735
  have n5867 : sL S5786 q2021 = 200 := by rw [eS5786]; exact n5736
  have n5868 : sL S5786 q2212 = 200 := by rw [eS5786]; exact n5737
  have n5869 : sL S5786 q2410 = 200 := by rw [eS5786]; exact n5738
  have n5870 : sL S5786 q2615 = 200 := by rw [eS5786]; exact n5739
  have n5871 : sL S5786 q2827 = 200 := by rw [eS5786]; exact n5740
  have n5872 : sL S5786 q3046 = 200 := by rw [eS5786]; exact n5741
  have n5873 : sL S5786 q3272 = 200 := by rw [eS5786]; exact n5742
  have n5874 : sL S5786 q3505 = 200 := by rw [eS5786]; exact n5743
  have n5875 : sL S5786 q3745 = 200 := by rw [eS5786]; exact n5744
  have n5876 : sL S5786 q3992 = 10 := by rw [eS5786]; exact n5745
  have n5877 : sL S5786 q4246 = 10 := by rw [eS5786]; exact n5746
  have n5878 : sL S5786 q4507 = 10 := by rw [eS5786]; exact n5747
  have n5879 : sL S5786 q4775 = 5 := by rw [eS5786]; exact n5748
  have n5880 : sL S5786 q5050 = 5 := by rw [eS5786]; exact n5749
  have n5881 : sL S5786 q5332 = 5 := by rw [eS5786]; exact n5750
  have n5882 : sL S5786 q5621 = 5 := by rw [eS5786]; exact n5785
  have w5883 : sI S5786 h 1 = 0 := by rw [eS5786]; exact w5751
  have w5884 : sI S5786 h 2 = 0 := by rw [eS5786]; exact w5752
  have w5885 : sI S5786 h 3 = 0 := by rw [eS5786]; exact w5753
  have w5886 : sI S5786 h 4 = 0 := by rw [eS5786]; exact w5754
  have w5887 : sI S5786 h 11 = 0 := by rw [eS5786]; exact w5755
  have w5888 : sI S5786 h 12 = 0 := by rw [eS5786]; exact w5756
  have w5889 : sI S5786 h 13 = 0 := by rw [eS5786]; exact w5757
  have w5890 : sI S5786 h 14 = 0 := by rw [eS5786]; exact w5758
  have w5891 : sI S5786 h 15 = 0 := by rw [eS5786]; exact w5759
  have w5892 : sI S5786 h 16 = 0 := by rw [eS5786]; exact w5760
  have w5893 : sI S5786 h 17 = 0 := by rw [eS5786]; exact w5761
  have w5894 : sI S5786 h 18 = 0 := by rw [eS5786]; exact w5762
  have w5895 : sI S5786 h 20 = 0 := by rw [eS5786]; exact w5763
  have w5896 : sI S5786 h 21 = 0 := by rw [eS5786]; exact w5764
  have w5897 : sI S5786 h 22 = 0 := by rw [eS5786]; exact w5765
  have w5898 : sI S5786 h 35 = 0 := by rw [eS5786]; exact w5766
  have w5899 : sI S5786 h 36 = 0 := by rw [eS5786]; exact w5767
  have w5900 : sI S5786 h 53 = 0 := by rw [eS5786]; exact w5768
  have w5901 : sI S5786 h 54 = 0 := by rw [eS5786]; exact w5769
  have w5902 : sI S5786 h 55 = 0 := by rw [eS5786]; exact w5770
  have w5903 : sI S5786 h 60 = 0 := by rw [eS5786]; exact w5771
  have w5904 : sI S5786 h 19 = 200 := by rw [eS5786]; exact w5772
  have w5905 : sI S5786 h 23 = 400 := by rw [eS5786]; exact w5773
  have w5906 : sI S5786 h 24 = 3 := by rw [eS5786]; exact w5774
  have w5907 : sI S5786 h 25 = 2 := by rw [eS5786]; exact w5775
  have w5908 : ∀ j, j < 2 → sI S5786 q801 j = 0 := fun j hj => by rw [eS5786]; exact w5776 j hj 
  have w5909 : ∀ j, j < 2 → sI S5786 q922 j = 0 := fun j hj => by rw [eS5786]; exact w5777 j hj 
  have w5910 : ∀ j, j < 2 → sI S5786 q1052 j = 0 := fun j hj => by rw [eS5786]; exact w5778 j hj 
  have w5911 : ∀ j, j < 2 → sI S5786 q1191 j = 0 := fun j hj => by rw [eS5786]; exact w5779 j hj 
  have w5912 : ∀ j, j < 2 → sI S5786 q1339 j = 0 := fun j hj => by rw [eS5786]; exact w5780 j hj 
  have w5913 : ∀ j, j < 2 → sI S5786 q1496 j = 0 := fun j hj => by rw [eS5786]; exact w5781 j hj 
  have w5914 : ∀ j, j < 2 → sI S5786 q1662 j = 0 := fun j hj => by rw [eS5786]; exact w5782 j hj 
  have w5915 : ∀ j, j < 2 → sI S5786 q1837 j = 0 := fun j hj => by rw [eS5786]; exact w5783 j hj 
  have r5916 : sR S5786 h 52 = some q5621 := by rw [eS5786, rR, if_pos rfl, if_pos rfl]
  clear k5625 k5627 k5629 k5631 k5633 k5635 k5637 k5639 k5641 k5643 k5645 k5647 k5649 k5651 k5653 k5655 k5657 k5659 k5661 k5663 k5665 k5667 k5669 k5671 k5673 k5675 k5677 k5679 k5681 k5683 k5685 k5687 k5784 r5689 r5690 r5691 r5692 r5693 r5694 r5695 r5696 r5697 r5698 r5699 r5700 r5701 r5702 r5703 r5704 r5705 r5706 r5707 r5708 r5709 r5710 r5711 r5712 r5713 r5714 r5715 r5716 r5717 r5718 r5719 n5720 n5721 n5722 n5723 n5724 n5725 n5726 n5727 n5728 n5729 n5730 n5731 n5732 n5733 n5734 n5735 n5736 n5737 n5738 n5739 n5740 n5741 n5742 n5743 n5744 n5745 n5746 n5747 n5748 n5749 n5750 n5785 w5751 w5752 w5753 w5754 w5755 w5756 w5757 w5758 w5759 w5760 w5761 w5762 w5763 w5764 w5765 w5766 w5767 w5768 w5769 w5770 w5771 w5772 w5773 w5774 w5775 w5776 w5777 w5778 w5779 w5780 w5781 w5782 w5783
  refine lv_aload_n hx hb dX9_init_281 rfl (lv_at hl 0 rfl) ?_
  refine lv_bipush (v := 8) hx hb dX9_init_282 (by decide) ?_
  refine pg_newa (atype := .int) (ty := .int) (kd := 11) (t0 := 1) (N' := 8) hx hb (hts (.arrayClass .int) (by decide +kernel)) rfl rfl (Or.inl rfl) (by decide) hK hW hS hA (fun _ => rfl) (by decide) (by decide) (Nat.le_of_ble_eq_true rfl) (Nat.le_of_ble_eq_true rfl) (Nat.le_of_ble_eq_true rfl) dX9_init_284 (fun q5917 H hq5917 hW hS => ?_)
  have f5919 : Ap h q5917 := ap_k k5787 hq5917 (by decide)
  have o5920 : 16 ≤ sK S q5917 := hX.old hq5917 (ni_c (ap_s f5919) ni_0)
  have hX : Kx [h] S (stN S5786 q5917 11 8) := hX.N hq5917
  obtain ⟨S5918, eS5918⟩ : ∃ T : St, T = stN S5786 q5917 11 8 := ⟨_, rfl⟩
  rw [← eS5918] at hW hX
  obtain ⟨k5921, d5922⟩ := fk_N (a := h) eS5918 k5787 (by decide) hq5917
  obtain ⟨k5923, d5924⟩ := fk_N (a := q1) eS5918 k5788 (by decide) hq5917
  obtain ⟨k5925, d5926⟩ := fk_N (a := q64) eS5918 k5789 (by decide) hq5917
  obtain ⟨k5927, d5928⟩ := fk_N (a := q134) eS5918 k5790 (by decide) hq5917
  obtain ⟨k5929, d5930⟩ := fk_N (a := q211) eS5918 k5791 (by decide) hq5917
  obtain ⟨k5931, d5932⟩ := fk_N (a := q295) eS5918 k5792 (by decide) hq5917
  obtain ⟨k5933, d5934⟩ := fk_N (a := q386) eS5918 k5793 (by decide) hq5917
  obtain ⟨k5935, d5936⟩ := fk_N (a := q484) eS5918 k5794 (by decide) hq5917
  obtain ⟨k5937, d5938⟩ := fk_N (a := q689) eS5918 k5795 (by decide) hq5917
  obtain ⟨k5939, d5940⟩ := fk_N (a := q801) eS5918 k5796 (by decide) hq5917
  obtain ⟨k5941, d5942⟩ := fk_N (a := q922) eS5918 k5797 (by decide) hq5917
  obtain ⟨k5943, d5944⟩ := fk_N (a := q1052) eS5918 k5798 (by decide) hq5917
  obtain ⟨k5945, d5946⟩ := fk_N (a := q1191) eS5918 k5799 (by decide) hq5917
  obtain ⟨k5947, d5948⟩ := fk_N (a := q1339) eS5918 k5800 (by decide) hq5917
  obtain ⟨k5949, d5950⟩ := fk_N (a := q1496) eS5918 k5801 (by decide) hq5917
  obtain ⟨k5951, d5952⟩ := fk_N (a := q1662) eS5918 k5802 (by decide) hq5917
  obtain ⟨k5953, d5954⟩ := fk_N (a := q1837) eS5918 k5803 (by decide) hq5917
  obtain ⟨k5955, d5956⟩ := fk_N (a := q2021) eS5918 k5804 (by decide) hq5917
  obtain ⟨k5957, d5958⟩ := fk_N (a := q2212) eS5918 k5805 (by decide) hq5917
  obtain ⟨k5959, d5960⟩ := fk_N (a := q2410) eS5918 k5806 (by decide) hq5917
  obtain ⟨k5961, d5962⟩ := fk_N (a := q2615) eS5918 k5807 (by decide) hq5917
  obtain ⟨k5963, d5964⟩ := fk_N (a := q2827) eS5918 k5808 (by decide) hq5917
  obtain ⟨k5965, d5966⟩ := fk_N (a := q3046) eS5918 k5809 (by decide) hq5917
  obtain ⟨k5967, d5968⟩ := fk_N (a := q3272) eS5918 k5810 (by decide) hq5917
  obtain ⟨k5969, d5970⟩ := fk_N (a := q3505) eS5918 k5811 (by decide) hq5917
  obtain ⟨k5971, d5972⟩ := fk_N (a := q3745) eS5918 k5812 (by decide) hq5917
  obtain ⟨k5973, d5974⟩ := fk_N (a := q3992) eS5918 k5813 (by decide) hq5917
  obtain ⟨k5975, d5976⟩ := fk_N (a := q4246) eS5918 k5814 (by decide) hq5917
  obtain ⟨k5977, d5978⟩ := fk_N (a := q4507) eS5918 k5815 (by decide) hq5917
  obtain ⟨k5979, d5980⟩ := fk_N (a := q4775) eS5918 k5816 (by decide) hq5917
  obtain ⟨k5981, d5982⟩ := fk_N (a := q5050) eS5918 k5817 (by decide) hq5917
  obtain ⟨k5983, d5984⟩ := fk_N (a := q5332) eS5918 k5818 (by decide) hq5917
  obtain ⟨k5985, d5986⟩ := fk_N (a := q5621) eS5918 k5819 (by decide) hq5917
  have r5987 : sR S5918 h 0 = some q1 := by rw [eS5918, rN, if_neg d5922]; exact r5820
  have r5988 : sR S5918 h 5 = some q64 := by rw [eS5918, rN, if_neg d5922]; exact r5821
  have r5989 : sR S5918 h 6 = some q134 := by rw [eS5918, rN, if_neg d5922]; exact r5822
  have r5990 : sR S5918 h 7 = some q211 := by rw [eS5918, rN, if_neg d5922]; exact r5823
  have r5991 : sR S5918 h 8 = some q295 := by rw [eS5918, rN, if_neg d5922]; exact r5824
  have r5992 : sR S5918 h 9 = some q386 := by rw [eS5918, rN, if_neg d5922]; exact r5825
  have r5993 : sR S5918 h 10 = some q484 := by rw [eS5918, rN, if_neg d5922]; exact r5826
  have r5994 : sR S5918 h 26 = some q689 := by rw [eS5918, rN, if_neg d5922]; exact r5827
  have r5995 : sR S5918 h 27 = some q801 := by rw [eS5918, rN, if_neg d5922]; exact r5828
  have r5996 : sR S5918 h 28 = some q922 := by rw [eS5918, rN, if_neg d5922]; exact r5829
  have r5997 : sR S5918 h 29 = some q1052 := by rw [eS5918, rN, if_neg d5922]; exact r5830
  have r5998 : sR S5918 h 30 = some q1191 := by rw [eS5918, rN, if_neg d5922]; exact r5831
  have r5999 : sR S5918 h 31 = some q1339 := by rw [eS5918, rN, if_neg d5922]; exact r5832
  have r6000 : sR S5918 h 32 = some q1496 := by rw [eS5918, rN, if_neg d5922]; exact r5833
  have r6001 : sR S5918 h 33 = some q1662 := by rw [eS5918, rN, if_neg d5922]; exact r5834
  have r6002 : sR S5918 h 34 = some q1837 := by rw [eS5918, rN, if_neg d5922]; exact r5835
  have r6003 : sR S5918 h 37 = some q2021 := by rw [eS5918, rN, if_neg d5922]; exact r5836
  have r6004 : sR S5918 h 38 = some q2212 := by rw [eS5918, rN, if_neg d5922]; exact r5837
  have r6005 : sR S5918 h 39 = some q2410 := by rw [eS5918, rN, if_neg d5922]; exact r5838
  have r6006 : sR S5918 h 40 = some q2615 := by rw [eS5918, rN, if_neg d5922]; exact r5839
  have r6007 : sR S5918 h 41 = some q2827 := by rw [eS5918, rN, if_neg d5922]; exact r5840
  have r6008 : sR S5918 h 42 = some q3046 := by rw [eS5918, rN, if_neg d5922]; exact r5841
  have r6009 : sR S5918 h 43 = some q3272 := by rw [eS5918, rN, if_neg d5922]; exact r5842
  have r6010 : sR S5918 h 44 = some q3505 := by rw [eS5918, rN, if_neg d5922]; exact r5843
  have r6011 : sR S5918 h 45 = some q3745 := by rw [eS5918, rN, if_neg d5922]; exact r5844
  have r6012 : sR S5918 h 46 = some q3992 := by rw [eS5918, rN, if_neg d5922]; exact r5845
  have r6013 : sR S5918 h 47 = some q4246 := by rw [eS5918, rN, if_neg d5922]; exact r5846
  have r6014 : sR S5918 h 48 = some q4507 := by rw [eS5918, rN, if_neg d5922]; exact r5847
  have r6015 : sR S5918 h 49 = some q4775 := by rw [eS5918, rN, if_neg d5922]; exact r5848
  have r6016 : sR S5918 h 50 = some q5050 := by rw [eS5918, rN, if_neg d5922]; exact r5849
  have r6017 : sR S5918 h 51 = some q5332 := by rw [eS5918, rN, if_neg d5922]; exact r5850
  have r6018 : sR S5918 h 52 = some q5621 := by rw [eS5918, rN, if_neg d5922]; exact r5916
  have n6019 : sL S5918 q1 = 80 := by rw [eS5918, lNw, if_neg d5924]; exact n5851
  have n6020 : sL S5918 q64 = 6 := by rw [eS5918, lNw, if_neg d5926]; exact n5852
  have n6021 : sL S5918 q134 = 6 := by rw [eS5918, lNw, if_neg d5928]; exact n5853
  have n6022 : sL S5918 q211 = 6 := by rw [eS5918, lNw, if_neg d5930]; exact n5854
  have n6023 : sL S5918 q295 = 6 := by rw [eS5918, lNw, if_neg d5932]; exact n5855
  have n6024 : sL S5918 q386 = 6 := by rw [eS5918, lNw, if_neg d5934]; exact n5856
  have n6025 : sL S5918 q484 = 6 := by rw [eS5918, lNw, if_neg d5936]; exact n5857
  have n6026 : sL S5918 q689 = 24 := by rw [eS5918, lNw, if_neg d5938]; exact n5858
  have n6027 : sL S5918 q801 = 2 := by rw [eS5918, lNw, if_neg d5940]; exact n5859
  have n6028 : sL S5918 q922 = 2 := by rw [eS5918, lNw, if_neg d5942]; exact n5860
  have n6029 : sL S5918 q1052 = 2 := by rw [eS5918, lNw, if_neg d5944]; exact n5861
  have n6030 : sL S5918 q1191 = 2 := by rw [eS5918, lNw, if_neg d5946]; exact n5862
  have n6031 : sL S5918 q1339 = 2 := by rw [eS5918, lNw, if_neg d5948]; exact n5863
  have n6032 : sL S5918 q1496 = 2 := by rw [eS5918, lNw, if_neg d5950]; exact n5864
  have n6033 : sL S5918 q1662 = 2 := by rw [eS5918, lNw, if_neg d5952]; exact n5865
  have n6034 : sL S5918 q1837 = 2 := by rw [eS5918, lNw, if_neg d5954]; exact n5866
  have n6035 : sL S5918 q2021 = 200 := by rw [eS5918, lNw, if_neg d5956]; exact n5867
  have n6036 : sL S5918 q2212 = 200 := by rw [eS5918, lNw, if_neg d5958]; exact n5868
  have n6037 : sL S5918 q2410 = 200 := by rw [eS5918, lNw, if_neg d5960]; exact n5869
  have n6038 : sL S5918 q2615 = 200 := by rw [eS5918, lNw, if_neg d5962]; exact n5870
  have n6039 : sL S5918 q2827 = 200 := by rw [eS5918, lNw, if_neg d5964]; exact n5871
  have n6040 : sL S5918 q3046 = 200 := by rw [eS5918, lNw, if_neg d5966]; exact n5872
  have n6041 : sL S5918 q3272 = 200 := by rw [eS5918, lNw, if_neg d5968]; exact n5873
  have n6042 : sL S5918 q3505 = 200 := by rw [eS5918, lNw, if_neg d5970]; exact n5874
  have n6043 : sL S5918 q3745 = 200 := by rw [eS5918, lNw, if_neg d5972]; exact n5875
  have n6044 : sL S5918 q3992 = 10 := by rw [eS5918, lNw, if_neg d5974]; exact n5876
  have n6045 : sL S5918 q4246 = 10 := by rw [eS5918, lNw, if_neg d5976]; exact n5877
  have n6046 : sL S5918 q4507 = 10 := by rw [eS5918, lNw, if_neg d5978]; exact n5878
  have n6047 : sL S5918 q4775 = 5 := by rw [eS5918, lNw, if_neg d5980]; exact n5879
  have n6048 : sL S5918 q5050 = 5 := by rw [eS5918, lNw, if_neg d5982]; exact n5880
  have n6049 : sL S5918 q5332 = 5 := by rw [eS5918, lNw, if_neg d5984]; exact n5881
  have n6050 : sL S5918 q5621 = 5 := by rw [eS5918, lNw, if_neg d5986]; exact n5882
  have w6051 : sI S5918 h 1 = 0 := by rw [eS5918, iN, if_neg d5922]; exact w5883
  have w6052 : sI S5918 h 2 = 0 := by rw [eS5918, iN, if_neg d5922]; exact w5884
  have w6053 : sI S5918 h 3 = 0 := by rw [eS5918, iN, if_neg d5922]; exact w5885
  have w6054 : sI S5918 h 4 = 0 := by rw [eS5918, iN, if_neg d5922]; exact w5886
  have w6055 : sI S5918 h 11 = 0 := by rw [eS5918, iN, if_neg d5922]; exact w5887
  have w6056 : sI S5918 h 12 = 0 := by rw [eS5918, iN, if_neg d5922]; exact w5888
  have w6057 : sI S5918 h 13 = 0 := by rw [eS5918, iN, if_neg d5922]; exact w5889
  have w6058 : sI S5918 h 14 = 0 := by rw [eS5918, iN, if_neg d5922]; exact w5890
  have w6059 : sI S5918 h 15 = 0 := by rw [eS5918, iN, if_neg d5922]; exact w5891
  have w6060 : sI S5918 h 16 = 0 := by rw [eS5918, iN, if_neg d5922]; exact w5892
  have w6061 : sI S5918 h 17 = 0 := by rw [eS5918, iN, if_neg d5922]; exact w5893
  have w6062 : sI S5918 h 18 = 0 := by rw [eS5918, iN, if_neg d5922]; exact w5894
  have w6063 : sI S5918 h 20 = 0 := by rw [eS5918, iN, if_neg d5922]; exact w5895
  have w6064 : sI S5918 h 21 = 0 := by rw [eS5918, iN, if_neg d5922]; exact w5896
  have w6065 : sI S5918 h 22 = 0 := by rw [eS5918, iN, if_neg d5922]; exact w5897
  have w6066 : sI S5918 h 35 = 0 := by rw [eS5918, iN, if_neg d5922]; exact w5898
  have w6067 : sI S5918 h 36 = 0 := by rw [eS5918, iN, if_neg d5922]; exact w5899
  have w6068 : sI S5918 h 53 = 0 := by rw [eS5918, iN, if_neg d5922]; exact w5900
  have w6069 : sI S5918 h 54 = 0 := by rw [eS5918, iN, if_neg d5922]; exact w5901
  have w6070 : sI S5918 h 55 = 0 := by rw [eS5918, iN, if_neg d5922]; exact w5902
  have w6071 : sI S5918 h 60 = 0 := by rw [eS5918, iN, if_neg d5922]; exact w5903
  have w6072 : sI S5918 h 19 = 200 := by rw [eS5918, iN, if_neg d5922]; exact w5904
  have w6073 : sI S5918 h 23 = 400 := by rw [eS5918, iN, if_neg d5922]; exact w5905
  have w6074 : sI S5918 h 24 = 3 := by rw [eS5918, iN, if_neg d5922]; exact w5906
  have w6075 : sI S5918 h 25 = 2 := by rw [eS5918, iN, if_neg d5922]; exact w5907
  have w6076 : ∀ j, j < 2 → sI S5918 q801 j = 0 := fun j hj => by rw [eS5918, iN, if_neg d5940]; exact w5908 j hj 
  have w6077 : ∀ j, j < 2 → sI S5918 q922 j = 0 := fun j hj => by rw [eS5918, iN, if_neg d5942]; exact w5909 j hj 
  have w6078 : ∀ j, j < 2 → sI S5918 q1052 j = 0 := fun j hj => by rw [eS5918, iN, if_neg d5944]; exact w5910 j hj 
  have w6079 : ∀ j, j < 2 → sI S5918 q1191 j = 0 := fun j hj => by rw [eS5918, iN, if_neg d5946]; exact w5911 j hj 
  have w6080 : ∀ j, j < 2 → sI S5918 q1339 j = 0 := fun j hj => by rw [eS5918, iN, if_neg d5948]; exact w5912 j hj 
  have w6081 : ∀ j, j < 2 → sI S5918 q1496 j = 0 := fun j hj => by rw [eS5918, iN, if_neg d5950]; exact w5913 j hj 
  have w6082 : ∀ j, j < 2 → sI S5918 q1662 j = 0 := fun j hj => by rw [eS5918, iN, if_neg d5952]; exact w5914 j hj 
  have w6083 : ∀ j, j < 2 → sI S5918 q1837 j = 0 := fun j hj => by rw [eS5918, iN, if_neg d5954]; exact w5915 j hj 
  have k6084 : sK S5918 q5917 = 11 := by rw [eS5918, kN, if_pos rfl]
  have n6085 : sL S5918 q5917 = 8 := by rw [eS5918, lNw, if_pos rfl]
  clear k5787 k5788 k5789 k5790 k5791 k5792 k5793 k5794 k5795 k5796 k5797 k5798 k5799 k5800 k5801 k5802 k5803 k5804 k5805 k5806 k5807 k5808 k5809 k5810 k5811 k5812 k5813 k5814 k5815 k5816 k5817 k5818 k5819 r5820 r5821 r5822 r5823 r5824 r5825 r5826 r5827 r5828 r5829 r5830 r5831 r5832 r5833 r5834 r5835 r5836 r5837 r5838 r5839 r5840 r5841 r5842 r5843 r5844 r5845 r5846 r5847 r5848 r5849 r5850 r5916 n5851 n5852 n5853 n5854 n5855 n5856 n5857 n5858 n5859 n5860 n5861 n5862 n5863 n5864 n5865 n5866 n5867 n5868 n5869 n5870 n5871 n5872 n5873 n5874 n5875 n5876 n5877 n5878 n5879 n5880 n5881 n5882 w5883 w5884 w5885 w5886 w5887 w5888 w5889 w5890 w5891 w5892 w5893 w5894 w5895 w5896 w5897 w5898 w5899 w5900 w5901 w5902 w5903 w5904 w5905 w5906 w5907 w5908 w5909 w5910 w5911 w5912 w5913 w5914 w5915
  refine pg_pr (ci := 9) (C := RX9) (T := TX9) (N := 63) hx hb hts wi9 tyX9 tyX9_ok nmX9 hown hK hW hS k5921 (by decide) rfl 56 (by decide) (hts (.fieldLink RX9 121 "IceHallModel" "wants" "[I") (by decide +kernel)) (fun _ h9 => h9) rfl hnm rfl rfl rfl rfl dX9_init_286 (fun H locs hW hS => ?_)
  have hX : Kx [h] S (stR S5918 h 56 (some q5917)) := hX.Rh List.mem_cons_self
  obtain ⟨S6086, eS6086⟩ : ∃ T : St, T = stR S5918 h 56 (some q5917) := ⟨_, rfl⟩
  rw [← eS6086] at hW hX
  have k6087 : sK S6086 h = 9 := by rw [eS6086]; exact k5921
  have k6088 : sK S6086 q1 = 10 := by rw [eS6086]; exact k5923
  have k6089 : sK S6086 q64 = 11 := by rw [eS6086]; exact k5925
  have k6090 : sK S6086 q134 = 11 := by rw [eS6086]; exact k5927
  have k6091 : sK S6086 q211 = 11 := by rw [eS6086]; exact k5929
  have k6092 : sK S6086 q295 = 11 := by rw [eS6086]; exact k5931
  have k6093 : sK S6086 q386 = 11 := by rw [eS6086]; exact k5933
  have k6094 : sK S6086 q484 = 11 := by rw [eS6086]; exact k5935
  have k6095 : sK S6086 q689 = 11 := by rw [eS6086]; exact k5937
  have k6096 : sK S6086 q801 = 11 := by rw [eS6086]; exact k5939
  have k6097 : sK S6086 q922 = 11 := by rw [eS6086]; exact k5941
  have k6098 : sK S6086 q1052 = 11 := by rw [eS6086]; exact k5943
  have k6099 : sK S6086 q1191 = 11 := by rw [eS6086]; exact k5945
  have k6100 : sK S6086 q1339 = 11 := by rw [eS6086]; exact k5947
  have k6101 : sK S6086 q1496 = 11 := by rw [eS6086]; exact k5949
  have k6102 : sK S6086 q1662 = 11 := by rw [eS6086]; exact k5951
  have k6103 : sK S6086 q1837 = 13 := by rw [eS6086]; exact k5953
  have k6104 : sK S6086 q2021 = 11 := by rw [eS6086]; exact k5955
  have k6105 : sK S6086 q2212 = 11 := by rw [eS6086]; exact k5957
  have k6106 : sK S6086 q2410 = 11 := by rw [eS6086]; exact k5959
  have k6107 : sK S6086 q2615 = 11 := by rw [eS6086]; exact k5961
  have k6108 : sK S6086 q2827 = 11 := by rw [eS6086]; exact k5963
  have k6109 : sK S6086 q3046 = 11 := by rw [eS6086]; exact k5965
  have k6110 : sK S6086 q3272 = 11 := by rw [eS6086]; exact k5967
  have k6111 : sK S6086 q3505 = 11 := by rw [eS6086]; exact k5969
  have k6112 : sK S6086 q3745 = 11 := by rw [eS6086]; exact k5971
  have k6113 : sK S6086 q3992 = 11 := by rw [eS6086]; exact k5973
  have k6114 : sK S6086 q4246 = 11 := by rw [eS6086]; exact k5975
  have k6115 : sK S6086 q4507 = 11 := by rw [eS6086]; exact k5977
  have k6116 : sK S6086 q4775 = 11 := by rw [eS6086]; exact k5979
  have k6117 : sK S6086 q5050 = 11 := by rw [eS6086]; exact k5981
  have k6118 : sK S6086 q5332 = 11 := by rw [eS6086]; exact k5983
  have k6119 : sK S6086 q5621 = 11 := by rw [eS6086]; exact k5985
  have k6120 : sK S6086 q5917 = 11 := by rw [eS6086]; exact k6084
  have r6121 : sR S6086 h 0 = some q1 := by rw [eS6086, rR, if_pos rfl, if_neg (by decide)]; exact r5987
  have r6122 : sR S6086 h 5 = some q64 := by rw [eS6086, rR, if_pos rfl, if_neg (by decide)]; exact r5988
  have r6123 : sR S6086 h 6 = some q134 := by rw [eS6086, rR, if_pos rfl, if_neg (by decide)]; exact r5989
  have r6124 : sR S6086 h 7 = some q211 := by rw [eS6086, rR, if_pos rfl, if_neg (by decide)]; exact r5990
  have r6125 : sR S6086 h 8 = some q295 := by rw [eS6086, rR, if_pos rfl, if_neg (by decide)]; exact r5991
  have r6126 : sR S6086 h 9 = some q386 := by rw [eS6086, rR, if_pos rfl, if_neg (by decide)]; exact r5992
  have r6127 : sR S6086 h 10 = some q484 := by rw [eS6086, rR, if_pos rfl, if_neg (by decide)]; exact r5993
  have r6128 : sR S6086 h 26 = some q689 := by rw [eS6086, rR, if_pos rfl, if_neg (by decide)]; exact r5994
  have r6129 : sR S6086 h 27 = some q801 := by rw [eS6086, rR, if_pos rfl, if_neg (by decide)]; exact r5995
  have r6130 : sR S6086 h 28 = some q922 := by rw [eS6086, rR, if_pos rfl, if_neg (by decide)]; exact r5996
  have r6131 : sR S6086 h 29 = some q1052 := by rw [eS6086, rR, if_pos rfl, if_neg (by decide)]; exact r5997
  have r6132 : sR S6086 h 30 = some q1191 := by rw [eS6086, rR, if_pos rfl, if_neg (by decide)]; exact r5998
  have r6133 : sR S6086 h 31 = some q1339 := by rw [eS6086, rR, if_pos rfl, if_neg (by decide)]; exact r5999
  have r6134 : sR S6086 h 32 = some q1496 := by rw [eS6086, rR, if_pos rfl, if_neg (by decide)]; exact r6000
  have r6135 : sR S6086 h 33 = some q1662 := by rw [eS6086, rR, if_pos rfl, if_neg (by decide)]; exact r6001
  have r6136 : sR S6086 h 34 = some q1837 := by rw [eS6086, rR, if_pos rfl, if_neg (by decide)]; exact r6002
  have r6137 : sR S6086 h 37 = some q2021 := by rw [eS6086, rR, if_pos rfl, if_neg (by decide)]; exact r6003
  have r6138 : sR S6086 h 38 = some q2212 := by rw [eS6086, rR, if_pos rfl, if_neg (by decide)]; exact r6004
  have r6139 : sR S6086 h 39 = some q2410 := by rw [eS6086, rR, if_pos rfl, if_neg (by decide)]; exact r6005
  have r6140 : sR S6086 h 40 = some q2615 := by rw [eS6086, rR, if_pos rfl, if_neg (by decide)]; exact r6006
  have r6141 : sR S6086 h 41 = some q2827 := by rw [eS6086, rR, if_pos rfl, if_neg (by decide)]; exact r6007
  have r6142 : sR S6086 h 42 = some q3046 := by rw [eS6086, rR, if_pos rfl, if_neg (by decide)]; exact r6008
  have r6143 : sR S6086 h 43 = some q3272 := by rw [eS6086, rR, if_pos rfl, if_neg (by decide)]; exact r6009
  have r6144 : sR S6086 h 44 = some q3505 := by rw [eS6086, rR, if_pos rfl, if_neg (by decide)]; exact r6010
  have r6145 : sR S6086 h 45 = some q3745 := by rw [eS6086, rR, if_pos rfl, if_neg (by decide)]; exact r6011
  have r6146 : sR S6086 h 46 = some q3992 := by rw [eS6086, rR, if_pos rfl, if_neg (by decide)]; exact r6012
  have r6147 : sR S6086 h 47 = some q4246 := by rw [eS6086, rR, if_pos rfl, if_neg (by decide)]; exact r6013
  have r6148 : sR S6086 h 48 = some q4507 := by rw [eS6086, rR, if_pos rfl, if_neg (by decide)]; exact r6014
  have r6149 : sR S6086 h 49 = some q4775 := by rw [eS6086, rR, if_pos rfl, if_neg (by decide)]; exact r6015
  have r6150 : sR S6086 h 50 = some q5050 := by rw [eS6086, rR, if_pos rfl, if_neg (by decide)]; exact r6016
  have r6151 : sR S6086 h 51 = some q5332 := by rw [eS6086, rR, if_pos rfl, if_neg (by decide)]; exact r6017
  have r6152 : sR S6086 h 52 = some q5621 := by rw [eS6086, rR, if_pos rfl, if_neg (by decide)]; exact r6018
  have n6153 : sL S6086 q1 = 80 := by rw [eS6086]; exact n6019
  have n6154 : sL S6086 q64 = 6 := by rw [eS6086]; exact n6020
  have n6155 : sL S6086 q134 = 6 := by rw [eS6086]; exact n6021
  have n6156 : sL S6086 q211 = 6 := by rw [eS6086]; exact n6022
  have n6157 : sL S6086 q295 = 6 := by rw [eS6086]; exact n6023
  have n6158 : sL S6086 q386 = 6 := by rw [eS6086]; exact n6024
  have n6159 : sL S6086 q484 = 6 := by rw [eS6086]; exact n6025
  have n6160 : sL S6086 q689 = 24 := by rw [eS6086]; exact n6026
  have n6161 : sL S6086 q801 = 2 := by rw [eS6086]; exact n6027
  have n6162 : sL S6086 q922 = 2 := by rw [eS6086]; exact n6028
  have n6163 : sL S6086 q1052 = 2 := by rw [eS6086]; exact n6029
  have n6164 : sL S6086 q1191 = 2 := by rw [eS6086]; exact n6030
  have n6165 : sL S6086 q1339 = 2 := by rw [eS6086]; exact n6031
  have n6166 : sL S6086 q1496 = 2 := by rw [eS6086]; exact n6032
  have n6167 : sL S6086 q1662 = 2 := by rw [eS6086]; exact n6033
  have n6168 : sL S6086 q1837 = 2 := by rw [eS6086]; exact n6034
  have n6169 : sL S6086 q2021 = 200 := by rw [eS6086]; exact n6035
  have n6170 : sL S6086 q2212 = 200 := by rw [eS6086]; exact n6036
  have n6171 : sL S6086 q2410 = 200 := by rw [eS6086]; exact n6037
  have n6172 : sL S6086 q2615 = 200 := by rw [eS6086]; exact n6038
  have n6173 : sL S6086 q2827 = 200 := by rw [eS6086]; exact n6039
  have n6174 : sL S6086 q3046 = 200 := by rw [eS6086]; exact n6040
  have n6175 : sL S6086 q3272 = 200 := by rw [eS6086]; exact n6041
  have n6176 : sL S6086 q3505 = 200 := by rw [eS6086]; exact n6042
  have n6177 : sL S6086 q3745 = 200 := by rw [eS6086]; exact n6043
  have n6178 : sL S6086 q3992 = 10 := by rw [eS6086]; exact n6044
  have n6179 : sL S6086 q4246 = 10 := by rw [eS6086]; exact n6045
  have n6180 : sL S6086 q4507 = 10 := by rw [eS6086]; exact n6046
  have n6181 : sL S6086 q4775 = 5 := by rw [eS6086]; exact n6047
  have n6182 : sL S6086 q5050 = 5 := by rw [eS6086]; exact n6048
  have n6183 : sL S6086 q5332 = 5 := by rw [eS6086]; exact n6049
  have n6184 : sL S6086 q5621 = 5 := by rw [eS6086]; exact n6050
  have n6185 : sL S6086 q5917 = 8 := by rw [eS6086]; exact n6085
  have w6186 : sI S6086 h 1 = 0 := by rw [eS6086]; exact w6051
  have w6187 : sI S6086 h 2 = 0 := by rw [eS6086]; exact w6052
  have w6188 : sI S6086 h 3 = 0 := by rw [eS6086]; exact w6053
  have w6189 : sI S6086 h 4 = 0 := by rw [eS6086]; exact w6054
  have w6190 : sI S6086 h 11 = 0 := by rw [eS6086]; exact w6055
  have w6191 : sI S6086 h 12 = 0 := by rw [eS6086]; exact w6056
  have w6192 : sI S6086 h 13 = 0 := by rw [eS6086]; exact w6057
  have w6193 : sI S6086 h 14 = 0 := by rw [eS6086]; exact w6058
  have w6194 : sI S6086 h 15 = 0 := by rw [eS6086]; exact w6059
  have w6195 : sI S6086 h 16 = 0 := by rw [eS6086]; exact w6060
  have w6196 : sI S6086 h 17 = 0 := by rw [eS6086]; exact w6061
  have w6197 : sI S6086 h 18 = 0 := by rw [eS6086]; exact w6062
  have w6198 : sI S6086 h 20 = 0 := by rw [eS6086]; exact w6063
  have w6199 : sI S6086 h 21 = 0 := by rw [eS6086]; exact w6064
  have w6200 : sI S6086 h 22 = 0 := by rw [eS6086]; exact w6065
  have w6201 : sI S6086 h 35 = 0 := by rw [eS6086]; exact w6066
  have w6202 : sI S6086 h 36 = 0 := by rw [eS6086]; exact w6067
  have w6203 : sI S6086 h 53 = 0 := by rw [eS6086]; exact w6068
  have w6204 : sI S6086 h 54 = 0 := by rw [eS6086]; exact w6069
  have w6205 : sI S6086 h 55 = 0 := by rw [eS6086]; exact w6070
  have w6206 : sI S6086 h 60 = 0 := by rw [eS6086]; exact w6071
  have w6207 : sI S6086 h 19 = 200 := by rw [eS6086]; exact w6072
  have w6208 : sI S6086 h 23 = 400 := by rw [eS6086]; exact w6073
  have w6209 : sI S6086 h 24 = 3 := by rw [eS6086]; exact w6074
  have w6210 : sI S6086 h 25 = 2 := by rw [eS6086]; exact w6075
  have w6211 : ∀ j, j < 2 → sI S6086 q801 j = 0 := fun j hj => by rw [eS6086]; exact w6076 j hj 
  have w6212 : ∀ j, j < 2 → sI S6086 q922 j = 0 := fun j hj => by rw [eS6086]; exact w6077 j hj 
  have w6213 : ∀ j, j < 2 → sI S6086 q1052 j = 0 := fun j hj => by rw [eS6086]; exact w6078 j hj 
  have w6214 : ∀ j, j < 2 → sI S6086 q1191 j = 0 := fun j hj => by rw [eS6086]; exact w6079 j hj 
  have w6215 : ∀ j, j < 2 → sI S6086 q1339 j = 0 := fun j hj => by rw [eS6086]; exact w6080 j hj 
  have w6216 : ∀ j, j < 2 → sI S6086 q1496 j = 0 := fun j hj => by rw [eS6086]; exact w6081 j hj 
  have w6217 : ∀ j, j < 2 → sI S6086 q1662 j = 0 := fun j hj => by rw [eS6086]; exact w6082 j hj 
  have w6218 : ∀ j, j < 2 → sI S6086 q1837 j = 0 := fun j hj => by rw [eS6086]; exact w6083 j hj 
  have r6219 : sR S6086 h 56 = some q5917 := by rw [eS6086, rR, if_pos rfl, if_pos rfl]
  clear k5921 k5923 k5925 k5927 k5929 k5931 k5933 k5935 k5937 k5939 k5941 k5943 k5945 k5947 k5949 k5951 k5953 k5955 k5957 k5959 k5961 k5963 k5965 k5967 k5969 k5971 k5973 k5975 k5977 k5979 k5981 k5983 k5985 k6084 r5987 r5988 r5989 r5990 r5991 r5992 r5993 r5994 r5995 r5996 r5997 r5998 r5999 r6000 r6001 r6002 r6003 r6004 r6005 r6006 r6007 r6008 r6009 r6010 r6011 r6012 r6013 r6014 r6015 r6016 r6017 r6018 n6019 n6020 n6021 n6022 n6023 n6024 n6025 n6026 n6027 n6028 n6029 n6030 n6031 n6032 n6033 n6034 n6035 n6036 n6037 n6038 n6039 n6040 n6041 n6042 n6043 n6044 n6045 n6046 n6047 n6048 n6049 n6050 n6085 w6051 w6052 w6053 w6054 w6055 w6056 w6057 w6058 w6059 w6060 w6061 w6062 w6063 w6064 w6065 w6066 w6067 w6068 w6069 w6070 w6071 w6072 w6073 w6074 w6075 w6076 w6077 w6078 w6079 w6080 w6081 w6082 w6083
  refine lv_aload_n hx hb dX9_init_289 rfl (lv_at hl 0 rfl) ?_
  refine lv_bipush (v := 8) hx hb dX9_init_290 (by decide) ?_
  refine pg_newa (atype := .int) (ty := .int) (kd := 11) (t0 := 1) (N' := 8) hx hb (hts (.arrayClass .int) (by decide +kernel)) rfl rfl (Or.inl rfl) (by decide) hK hW hS hA (fun _ => rfl) (by decide) (by decide) (Nat.le_of_ble_eq_true rfl) (Nat.le_of_ble_eq_true rfl) (Nat.le_of_ble_eq_true rfl) dX9_init_292 (fun q6220 H hq6220 hW hS => ?_)
  have f6222 : Ap h q6220 := ap_k k6087 hq6220 (by decide)
  have o6223 : 16 ≤ sK S q6220 := hX.old hq6220 (ni_c (ap_s f6222) ni_0)
  have hX : Kx [h] S (stN S6086 q6220 11 8) := hX.N hq6220
  obtain ⟨S6221, eS6221⟩ : ∃ T : St, T = stN S6086 q6220 11 8 := ⟨_, rfl⟩
  rw [← eS6221] at hW hX
  obtain ⟨k6224, d6225⟩ := fk_N (a := h) eS6221 k6087 (by decide) hq6220
  obtain ⟨k6226, d6227⟩ := fk_N (a := q1) eS6221 k6088 (by decide) hq6220
  obtain ⟨k6228, d6229⟩ := fk_N (a := q64) eS6221 k6089 (by decide) hq6220
  obtain ⟨k6230, d6231⟩ := fk_N (a := q134) eS6221 k6090 (by decide) hq6220
  obtain ⟨k6232, d6233⟩ := fk_N (a := q211) eS6221 k6091 (by decide) hq6220
  obtain ⟨k6234, d6235⟩ := fk_N (a := q295) eS6221 k6092 (by decide) hq6220
  obtain ⟨k6236, d6237⟩ := fk_N (a := q386) eS6221 k6093 (by decide) hq6220
  obtain ⟨k6238, d6239⟩ := fk_N (a := q484) eS6221 k6094 (by decide) hq6220
  obtain ⟨k6240, d6241⟩ := fk_N (a := q689) eS6221 k6095 (by decide) hq6220
  obtain ⟨k6242, d6243⟩ := fk_N (a := q801) eS6221 k6096 (by decide) hq6220
  obtain ⟨k6244, d6245⟩ := fk_N (a := q922) eS6221 k6097 (by decide) hq6220
  obtain ⟨k6246, d6247⟩ := fk_N (a := q1052) eS6221 k6098 (by decide) hq6220
  obtain ⟨k6248, d6249⟩ := fk_N (a := q1191) eS6221 k6099 (by decide) hq6220
  obtain ⟨k6250, d6251⟩ := fk_N (a := q1339) eS6221 k6100 (by decide) hq6220
  obtain ⟨k6252, d6253⟩ := fk_N (a := q1496) eS6221 k6101 (by decide) hq6220
  obtain ⟨k6254, d6255⟩ := fk_N (a := q1662) eS6221 k6102 (by decide) hq6220
  obtain ⟨k6256, d6257⟩ := fk_N (a := q1837) eS6221 k6103 (by decide) hq6220
  obtain ⟨k6258, d6259⟩ := fk_N (a := q2021) eS6221 k6104 (by decide) hq6220
  obtain ⟨k6260, d6261⟩ := fk_N (a := q2212) eS6221 k6105 (by decide) hq6220
  obtain ⟨k6262, d6263⟩ := fk_N (a := q2410) eS6221 k6106 (by decide) hq6220
  obtain ⟨k6264, d6265⟩ := fk_N (a := q2615) eS6221 k6107 (by decide) hq6220
  obtain ⟨k6266, d6267⟩ := fk_N (a := q2827) eS6221 k6108 (by decide) hq6220
  obtain ⟨k6268, d6269⟩ := fk_N (a := q3046) eS6221 k6109 (by decide) hq6220
  obtain ⟨k6270, d6271⟩ := fk_N (a := q3272) eS6221 k6110 (by decide) hq6220
  obtain ⟨k6272, d6273⟩ := fk_N (a := q3505) eS6221 k6111 (by decide) hq6220
  obtain ⟨k6274, d6275⟩ := fk_N (a := q3745) eS6221 k6112 (by decide) hq6220
  obtain ⟨k6276, d6277⟩ := fk_N (a := q3992) eS6221 k6113 (by decide) hq6220
  obtain ⟨k6278, d6279⟩ := fk_N (a := q4246) eS6221 k6114 (by decide) hq6220
  obtain ⟨k6280, d6281⟩ := fk_N (a := q4507) eS6221 k6115 (by decide) hq6220
  obtain ⟨k6282, d6283⟩ := fk_N (a := q4775) eS6221 k6116 (by decide) hq6220
  obtain ⟨k6284, d6285⟩ := fk_N (a := q5050) eS6221 k6117 (by decide) hq6220
  obtain ⟨k6286, d6287⟩ := fk_N (a := q5332) eS6221 k6118 (by decide) hq6220
  obtain ⟨k6288, d6289⟩ := fk_N (a := q5621) eS6221 k6119 (by decide) hq6220
  obtain ⟨k6290, d6291⟩ := fk_N (a := q5917) eS6221 k6120 (by decide) hq6220
  have r6292 : sR S6221 h 0 = some q1 := by rw [eS6221, rN, if_neg d6225]; exact r6121
  have r6293 : sR S6221 h 5 = some q64 := by rw [eS6221, rN, if_neg d6225]; exact r6122
  have r6294 : sR S6221 h 6 = some q134 := by rw [eS6221, rN, if_neg d6225]; exact r6123
  have r6295 : sR S6221 h 7 = some q211 := by rw [eS6221, rN, if_neg d6225]; exact r6124
  have r6296 : sR S6221 h 8 = some q295 := by rw [eS6221, rN, if_neg d6225]; exact r6125
  have r6297 : sR S6221 h 9 = some q386 := by rw [eS6221, rN, if_neg d6225]; exact r6126
  have r6298 : sR S6221 h 10 = some q484 := by rw [eS6221, rN, if_neg d6225]; exact r6127
  have r6299 : sR S6221 h 26 = some q689 := by rw [eS6221, rN, if_neg d6225]; exact r6128
  have r6300 : sR S6221 h 27 = some q801 := by rw [eS6221, rN, if_neg d6225]; exact r6129
  have r6301 : sR S6221 h 28 = some q922 := by rw [eS6221, rN, if_neg d6225]; exact r6130
  have r6302 : sR S6221 h 29 = some q1052 := by rw [eS6221, rN, if_neg d6225]; exact r6131
  have r6303 : sR S6221 h 30 = some q1191 := by rw [eS6221, rN, if_neg d6225]; exact r6132
  have r6304 : sR S6221 h 31 = some q1339 := by rw [eS6221, rN, if_neg d6225]; exact r6133
  have r6305 : sR S6221 h 32 = some q1496 := by rw [eS6221, rN, if_neg d6225]; exact r6134
  have r6306 : sR S6221 h 33 = some q1662 := by rw [eS6221, rN, if_neg d6225]; exact r6135
  have r6307 : sR S6221 h 34 = some q1837 := by rw [eS6221, rN, if_neg d6225]; exact r6136
  have r6308 : sR S6221 h 37 = some q2021 := by rw [eS6221, rN, if_neg d6225]; exact r6137
  have r6309 : sR S6221 h 38 = some q2212 := by rw [eS6221, rN, if_neg d6225]; exact r6138
  have r6310 : sR S6221 h 39 = some q2410 := by rw [eS6221, rN, if_neg d6225]; exact r6139
  have r6311 : sR S6221 h 40 = some q2615 := by rw [eS6221, rN, if_neg d6225]; exact r6140
  have r6312 : sR S6221 h 41 = some q2827 := by rw [eS6221, rN, if_neg d6225]; exact r6141
  have r6313 : sR S6221 h 42 = some q3046 := by rw [eS6221, rN, if_neg d6225]; exact r6142
  have r6314 : sR S6221 h 43 = some q3272 := by rw [eS6221, rN, if_neg d6225]; exact r6143
  have r6315 : sR S6221 h 44 = some q3505 := by rw [eS6221, rN, if_neg d6225]; exact r6144
  have r6316 : sR S6221 h 45 = some q3745 := by rw [eS6221, rN, if_neg d6225]; exact r6145
  have r6317 : sR S6221 h 46 = some q3992 := by rw [eS6221, rN, if_neg d6225]; exact r6146
  have r6318 : sR S6221 h 47 = some q4246 := by rw [eS6221, rN, if_neg d6225]; exact r6147
  have r6319 : sR S6221 h 48 = some q4507 := by rw [eS6221, rN, if_neg d6225]; exact r6148
  have r6320 : sR S6221 h 49 = some q4775 := by rw [eS6221, rN, if_neg d6225]; exact r6149
  have r6321 : sR S6221 h 50 = some q5050 := by rw [eS6221, rN, if_neg d6225]; exact r6150
  have r6322 : sR S6221 h 51 = some q5332 := by rw [eS6221, rN, if_neg d6225]; exact r6151
  have r6323 : sR S6221 h 52 = some q5621 := by rw [eS6221, rN, if_neg d6225]; exact r6152
  have r6324 : sR S6221 h 56 = some q5917 := by rw [eS6221, rN, if_neg d6225]; exact r6219
  have n6325 : sL S6221 q1 = 80 := by rw [eS6221, lNw, if_neg d6227]; exact n6153
  have n6326 : sL S6221 q64 = 6 := by rw [eS6221, lNw, if_neg d6229]; exact n6154
  have n6327 : sL S6221 q134 = 6 := by rw [eS6221, lNw, if_neg d6231]; exact n6155
  have n6328 : sL S6221 q211 = 6 := by rw [eS6221, lNw, if_neg d6233]; exact n6156
  have n6329 : sL S6221 q295 = 6 := by rw [eS6221, lNw, if_neg d6235]; exact n6157
  have n6330 : sL S6221 q386 = 6 := by rw [eS6221, lNw, if_neg d6237]; exact n6158
  have n6331 : sL S6221 q484 = 6 := by rw [eS6221, lNw, if_neg d6239]; exact n6159
  have n6332 : sL S6221 q689 = 24 := by rw [eS6221, lNw, if_neg d6241]; exact n6160
  have n6333 : sL S6221 q801 = 2 := by rw [eS6221, lNw, if_neg d6243]; exact n6161
  have n6334 : sL S6221 q922 = 2 := by rw [eS6221, lNw, if_neg d6245]; exact n6162
  have n6335 : sL S6221 q1052 = 2 := by rw [eS6221, lNw, if_neg d6247]; exact n6163
  have n6336 : sL S6221 q1191 = 2 := by rw [eS6221, lNw, if_neg d6249]; exact n6164
  have n6337 : sL S6221 q1339 = 2 := by rw [eS6221, lNw, if_neg d6251]; exact n6165
  have n6338 : sL S6221 q1496 = 2 := by rw [eS6221, lNw, if_neg d6253]; exact n6166
  have n6339 : sL S6221 q1662 = 2 := by rw [eS6221, lNw, if_neg d6255]; exact n6167
  have n6340 : sL S6221 q1837 = 2 := by rw [eS6221, lNw, if_neg d6257]; exact n6168
  have n6341 : sL S6221 q2021 = 200 := by rw [eS6221, lNw, if_neg d6259]; exact n6169
  have n6342 : sL S6221 q2212 = 200 := by rw [eS6221, lNw, if_neg d6261]; exact n6170
  have n6343 : sL S6221 q2410 = 200 := by rw [eS6221, lNw, if_neg d6263]; exact n6171
  have n6344 : sL S6221 q2615 = 200 := by rw [eS6221, lNw, if_neg d6265]; exact n6172
  have n6345 : sL S6221 q2827 = 200 := by rw [eS6221, lNw, if_neg d6267]; exact n6173
  have n6346 : sL S6221 q3046 = 200 := by rw [eS6221, lNw, if_neg d6269]; exact n6174
  have n6347 : sL S6221 q3272 = 200 := by rw [eS6221, lNw, if_neg d6271]; exact n6175
  have n6348 : sL S6221 q3505 = 200 := by rw [eS6221, lNw, if_neg d6273]; exact n6176
  have n6349 : sL S6221 q3745 = 200 := by rw [eS6221, lNw, if_neg d6275]; exact n6177
  have n6350 : sL S6221 q3992 = 10 := by rw [eS6221, lNw, if_neg d6277]; exact n6178
  have n6351 : sL S6221 q4246 = 10 := by rw [eS6221, lNw, if_neg d6279]; exact n6179
  have n6352 : sL S6221 q4507 = 10 := by rw [eS6221, lNw, if_neg d6281]; exact n6180
  have n6353 : sL S6221 q4775 = 5 := by rw [eS6221, lNw, if_neg d6283]; exact n6181
  have n6354 : sL S6221 q5050 = 5 := by rw [eS6221, lNw, if_neg d6285]; exact n6182
  have n6355 : sL S6221 q5332 = 5 := by rw [eS6221, lNw, if_neg d6287]; exact n6183
  have n6356 : sL S6221 q5621 = 5 := by rw [eS6221, lNw, if_neg d6289]; exact n6184
  have n6357 : sL S6221 q5917 = 8 := by rw [eS6221, lNw, if_neg d6291]; exact n6185
  have w6358 : sI S6221 h 1 = 0 := by rw [eS6221, iN, if_neg d6225]; exact w6186
  have w6359 : sI S6221 h 2 = 0 := by rw [eS6221, iN, if_neg d6225]; exact w6187
  have w6360 : sI S6221 h 3 = 0 := by rw [eS6221, iN, if_neg d6225]; exact w6188
  have w6361 : sI S6221 h 4 = 0 := by rw [eS6221, iN, if_neg d6225]; exact w6189
  have w6362 : sI S6221 h 11 = 0 := by rw [eS6221, iN, if_neg d6225]; exact w6190
  have w6363 : sI S6221 h 12 = 0 := by rw [eS6221, iN, if_neg d6225]; exact w6191
  have w6364 : sI S6221 h 13 = 0 := by rw [eS6221, iN, if_neg d6225]; exact w6192
  have w6365 : sI S6221 h 14 = 0 := by rw [eS6221, iN, if_neg d6225]; exact w6193
  have w6366 : sI S6221 h 15 = 0 := by rw [eS6221, iN, if_neg d6225]; exact w6194
  have w6367 : sI S6221 h 16 = 0 := by rw [eS6221, iN, if_neg d6225]; exact w6195
  have w6368 : sI S6221 h 17 = 0 := by rw [eS6221, iN, if_neg d6225]; exact w6196
  have w6369 : sI S6221 h 18 = 0 := by rw [eS6221, iN, if_neg d6225]; exact w6197
  have w6370 : sI S6221 h 20 = 0 := by rw [eS6221, iN, if_neg d6225]; exact w6198
  have w6371 : sI S6221 h 21 = 0 := by rw [eS6221, iN, if_neg d6225]; exact w6199
  have w6372 : sI S6221 h 22 = 0 := by rw [eS6221, iN, if_neg d6225]; exact w6200
  have w6373 : sI S6221 h 35 = 0 := by rw [eS6221, iN, if_neg d6225]; exact w6201
  have w6374 : sI S6221 h 36 = 0 := by rw [eS6221, iN, if_neg d6225]; exact w6202
  have w6375 : sI S6221 h 53 = 0 := by rw [eS6221, iN, if_neg d6225]; exact w6203
  have w6376 : sI S6221 h 54 = 0 := by rw [eS6221, iN, if_neg d6225]; exact w6204
  have w6377 : sI S6221 h 55 = 0 := by rw [eS6221, iN, if_neg d6225]; exact w6205
  have w6378 : sI S6221 h 60 = 0 := by rw [eS6221, iN, if_neg d6225]; exact w6206
  have w6379 : sI S6221 h 19 = 200 := by rw [eS6221, iN, if_neg d6225]; exact w6207
  have w6380 : sI S6221 h 23 = 400 := by rw [eS6221, iN, if_neg d6225]; exact w6208
  have w6381 : sI S6221 h 24 = 3 := by rw [eS6221, iN, if_neg d6225]; exact w6209
  have w6382 : sI S6221 h 25 = 2 := by rw [eS6221, iN, if_neg d6225]; exact w6210
  have w6383 : ∀ j, j < 2 → sI S6221 q801 j = 0 := fun j hj => by rw [eS6221, iN, if_neg d6243]; exact w6211 j hj 
  have w6384 : ∀ j, j < 2 → sI S6221 q922 j = 0 := fun j hj => by rw [eS6221, iN, if_neg d6245]; exact w6212 j hj 
  have w6385 : ∀ j, j < 2 → sI S6221 q1052 j = 0 := fun j hj => by rw [eS6221, iN, if_neg d6247]; exact w6213 j hj 
  have w6386 : ∀ j, j < 2 → sI S6221 q1191 j = 0 := fun j hj => by rw [eS6221, iN, if_neg d6249]; exact w6214 j hj 
  have w6387 : ∀ j, j < 2 → sI S6221 q1339 j = 0 := fun j hj => by rw [eS6221, iN, if_neg d6251]; exact w6215 j hj 
  have w6388 : ∀ j, j < 2 → sI S6221 q1496 j = 0 := fun j hj => by rw [eS6221, iN, if_neg d6253]; exact w6216 j hj 
  have w6389 : ∀ j, j < 2 → sI S6221 q1662 j = 0 := fun j hj => by rw [eS6221, iN, if_neg d6255]; exact w6217 j hj 
  have w6390 : ∀ j, j < 2 → sI S6221 q1837 j = 0 := fun j hj => by rw [eS6221, iN, if_neg d6257]; exact w6218 j hj 
  have k6391 : sK S6221 q6220 = 11 := by rw [eS6221, kN, if_pos rfl]
  have n6392 : sL S6221 q6220 = 8 := by rw [eS6221, lNw, if_pos rfl]
  clear k6087 k6088 k6089 k6090 k6091 k6092 k6093 k6094 k6095 k6096 k6097 k6098 k6099 k6100 k6101 k6102 k6103 k6104 k6105 k6106 k6107 k6108 k6109 k6110 k6111 k6112 k6113 k6114 k6115 k6116 k6117 k6118 k6119 k6120 r6121 r6122 r6123 r6124 r6125 r6126 r6127 r6128 r6129 r6130 r6131 r6132 r6133 r6134 r6135 r6136 r6137 r6138 r6139 r6140 r6141 r6142 r6143 r6144 r6145 r6146 r6147 r6148 r6149 r6150 r6151 r6152 r6219 n6153 n6154 n6155 n6156 n6157 n6158 n6159 n6160 n6161 n6162 n6163 n6164 n6165 n6166 n6167 n6168 n6169 n6170 n6171 n6172 n6173 n6174 n6175 n6176 n6177 n6178 n6179 n6180 n6181 n6182 n6183 n6184 n6185 w6186 w6187 w6188 w6189 w6190 w6191 w6192 w6193 w6194 w6195 w6196 w6197 w6198 w6199 w6200 w6201 w6202 w6203 w6204 w6205 w6206 w6207 w6208 w6209 w6210 w6211 w6212 w6213 w6214 w6215 w6216 w6217 w6218
  refine pg_pr (ci := 9) (C := RX9) (T := TX9) (N := 63) hx hb hts wi9 tyX9 tyX9_ok nmX9 hown hK hW hS k6224 (by decide) rfl 57 (by decide) (hts (.fieldLink RX9 124 "IceHallModel" "row" "[I") (by decide +kernel)) (fun _ h9 => h9) rfl hnm rfl rfl rfl rfl dX9_init_294 (fun H locs hW hS => ?_)
  have hX : Kx [h] S (stR S6221 h 57 (some q6220)) := hX.Rh List.mem_cons_self
  obtain ⟨S6393, eS6393⟩ : ∃ T : St, T = stR S6221 h 57 (some q6220) := ⟨_, rfl⟩
  rw [← eS6393] at hW hX
  have k6394 : sK S6393 h = 9 := by rw [eS6393]; exact k6224
  have k6395 : sK S6393 q1 = 10 := by rw [eS6393]; exact k6226
  have k6396 : sK S6393 q64 = 11 := by rw [eS6393]; exact k6228
  have k6397 : sK S6393 q134 = 11 := by rw [eS6393]; exact k6230
  have k6398 : sK S6393 q211 = 11 := by rw [eS6393]; exact k6232
  have k6399 : sK S6393 q295 = 11 := by rw [eS6393]; exact k6234
  have k6400 : sK S6393 q386 = 11 := by rw [eS6393]; exact k6236
  have k6401 : sK S6393 q484 = 11 := by rw [eS6393]; exact k6238
  have k6402 : sK S6393 q689 = 11 := by rw [eS6393]; exact k6240
  have k6403 : sK S6393 q801 = 11 := by rw [eS6393]; exact k6242
  have k6404 : sK S6393 q922 = 11 := by rw [eS6393]; exact k6244
  have k6405 : sK S6393 q1052 = 11 := by rw [eS6393]; exact k6246
  have k6406 : sK S6393 q1191 = 11 := by rw [eS6393]; exact k6248
  have k6407 : sK S6393 q1339 = 11 := by rw [eS6393]; exact k6250
  have k6408 : sK S6393 q1496 = 11 := by rw [eS6393]; exact k6252
  have k6409 : sK S6393 q1662 = 11 := by rw [eS6393]; exact k6254
  have k6410 : sK S6393 q1837 = 13 := by rw [eS6393]; exact k6256
  have k6411 : sK S6393 q2021 = 11 := by rw [eS6393]; exact k6258
  have k6412 : sK S6393 q2212 = 11 := by rw [eS6393]; exact k6260
  have k6413 : sK S6393 q2410 = 11 := by rw [eS6393]; exact k6262
  have k6414 : sK S6393 q2615 = 11 := by rw [eS6393]; exact k6264
  have k6415 : sK S6393 q2827 = 11 := by rw [eS6393]; exact k6266
  have k6416 : sK S6393 q3046 = 11 := by rw [eS6393]; exact k6268
  have k6417 : sK S6393 q3272 = 11 := by rw [eS6393]; exact k6270
  have k6418 : sK S6393 q3505 = 11 := by rw [eS6393]; exact k6272
  have k6419 : sK S6393 q3745 = 11 := by rw [eS6393]; exact k6274
  have k6420 : sK S6393 q3992 = 11 := by rw [eS6393]; exact k6276
  have k6421 : sK S6393 q4246 = 11 := by rw [eS6393]; exact k6278
  have k6422 : sK S6393 q4507 = 11 := by rw [eS6393]; exact k6280
  have k6423 : sK S6393 q4775 = 11 := by rw [eS6393]; exact k6282
  have k6424 : sK S6393 q5050 = 11 := by rw [eS6393]; exact k6284
  have k6425 : sK S6393 q5332 = 11 := by rw [eS6393]; exact k6286
  have k6426 : sK S6393 q5621 = 11 := by rw [eS6393]; exact k6288
  have k6427 : sK S6393 q5917 = 11 := by rw [eS6393]; exact k6290
  have k6428 : sK S6393 q6220 = 11 := by rw [eS6393]; exact k6391
  have r6429 : sR S6393 h 0 = some q1 := by rw [eS6393, rR, if_pos rfl, if_neg (by decide)]; exact r6292
  have r6430 : sR S6393 h 5 = some q64 := by rw [eS6393, rR, if_pos rfl, if_neg (by decide)]; exact r6293
  have r6431 : sR S6393 h 6 = some q134 := by rw [eS6393, rR, if_pos rfl, if_neg (by decide)]; exact r6294
  have r6432 : sR S6393 h 7 = some q211 := by rw [eS6393, rR, if_pos rfl, if_neg (by decide)]; exact r6295
  have r6433 : sR S6393 h 8 = some q295 := by rw [eS6393, rR, if_pos rfl, if_neg (by decide)]; exact r6296
  have r6434 : sR S6393 h 9 = some q386 := by rw [eS6393, rR, if_pos rfl, if_neg (by decide)]; exact r6297
  have r6435 : sR S6393 h 10 = some q484 := by rw [eS6393, rR, if_pos rfl, if_neg (by decide)]; exact r6298
  have r6436 : sR S6393 h 26 = some q689 := by rw [eS6393, rR, if_pos rfl, if_neg (by decide)]; exact r6299
  have r6437 : sR S6393 h 27 = some q801 := by rw [eS6393, rR, if_pos rfl, if_neg (by decide)]; exact r6300
  have r6438 : sR S6393 h 28 = some q922 := by rw [eS6393, rR, if_pos rfl, if_neg (by decide)]; exact r6301
  have r6439 : sR S6393 h 29 = some q1052 := by rw [eS6393, rR, if_pos rfl, if_neg (by decide)]; exact r6302
  have r6440 : sR S6393 h 30 = some q1191 := by rw [eS6393, rR, if_pos rfl, if_neg (by decide)]; exact r6303
  have r6441 : sR S6393 h 31 = some q1339 := by rw [eS6393, rR, if_pos rfl, if_neg (by decide)]; exact r6304
  have r6442 : sR S6393 h 32 = some q1496 := by rw [eS6393, rR, if_pos rfl, if_neg (by decide)]; exact r6305
  have r6443 : sR S6393 h 33 = some q1662 := by rw [eS6393, rR, if_pos rfl, if_neg (by decide)]; exact r6306
  have r6444 : sR S6393 h 34 = some q1837 := by rw [eS6393, rR, if_pos rfl, if_neg (by decide)]; exact r6307
  have r6445 : sR S6393 h 37 = some q2021 := by rw [eS6393, rR, if_pos rfl, if_neg (by decide)]; exact r6308
  have r6446 : sR S6393 h 38 = some q2212 := by rw [eS6393, rR, if_pos rfl, if_neg (by decide)]; exact r6309
  have r6447 : sR S6393 h 39 = some q2410 := by rw [eS6393, rR, if_pos rfl, if_neg (by decide)]; exact r6310
  have r6448 : sR S6393 h 40 = some q2615 := by rw [eS6393, rR, if_pos rfl, if_neg (by decide)]; exact r6311
  have r6449 : sR S6393 h 41 = some q2827 := by rw [eS6393, rR, if_pos rfl, if_neg (by decide)]; exact r6312
  have r6450 : sR S6393 h 42 = some q3046 := by rw [eS6393, rR, if_pos rfl, if_neg (by decide)]; exact r6313
  have r6451 : sR S6393 h 43 = some q3272 := by rw [eS6393, rR, if_pos rfl, if_neg (by decide)]; exact r6314
  have r6452 : sR S6393 h 44 = some q3505 := by rw [eS6393, rR, if_pos rfl, if_neg (by decide)]; exact r6315
  have r6453 : sR S6393 h 45 = some q3745 := by rw [eS6393, rR, if_pos rfl, if_neg (by decide)]; exact r6316
  have r6454 : sR S6393 h 46 = some q3992 := by rw [eS6393, rR, if_pos rfl, if_neg (by decide)]; exact r6317
  have r6455 : sR S6393 h 47 = some q4246 := by rw [eS6393, rR, if_pos rfl, if_neg (by decide)]; exact r6318
  have r6456 : sR S6393 h 48 = some q4507 := by rw [eS6393, rR, if_pos rfl, if_neg (by decide)]; exact r6319
  have r6457 : sR S6393 h 49 = some q4775 := by rw [eS6393, rR, if_pos rfl, if_neg (by decide)]; exact r6320
  have r6458 : sR S6393 h 50 = some q5050 := by rw [eS6393, rR, if_pos rfl, if_neg (by decide)]; exact r6321
  have r6459 : sR S6393 h 51 = some q5332 := by rw [eS6393, rR, if_pos rfl, if_neg (by decide)]; exact r6322
  have r6460 : sR S6393 h 52 = some q5621 := by rw [eS6393, rR, if_pos rfl, if_neg (by decide)]; exact r6323
  have r6461 : sR S6393 h 56 = some q5917 := by rw [eS6393, rR, if_pos rfl, if_neg (by decide)]; exact r6324
  have n6462 : sL S6393 q1 = 80 := by rw [eS6393]; exact n6325
  have n6463 : sL S6393 q64 = 6 := by rw [eS6393]; exact n6326
  have n6464 : sL S6393 q134 = 6 := by rw [eS6393]; exact n6327
  have n6465 : sL S6393 q211 = 6 := by rw [eS6393]; exact n6328
  have n6466 : sL S6393 q295 = 6 := by rw [eS6393]; exact n6329
  have n6467 : sL S6393 q386 = 6 := by rw [eS6393]; exact n6330
  have n6468 : sL S6393 q484 = 6 := by rw [eS6393]; exact n6331
  have n6469 : sL S6393 q689 = 24 := by rw [eS6393]; exact n6332
  have n6470 : sL S6393 q801 = 2 := by rw [eS6393]; exact n6333
  have n6471 : sL S6393 q922 = 2 := by rw [eS6393]; exact n6334
  have n6472 : sL S6393 q1052 = 2 := by rw [eS6393]; exact n6335
  have n6473 : sL S6393 q1191 = 2 := by rw [eS6393]; exact n6336
  have n6474 : sL S6393 q1339 = 2 := by rw [eS6393]; exact n6337
  have n6475 : sL S6393 q1496 = 2 := by rw [eS6393]; exact n6338
  have n6476 : sL S6393 q1662 = 2 := by rw [eS6393]; exact n6339
  have n6477 : sL S6393 q1837 = 2 := by rw [eS6393]; exact n6340
  have n6478 : sL S6393 q2021 = 200 := by rw [eS6393]; exact n6341
  have n6479 : sL S6393 q2212 = 200 := by rw [eS6393]; exact n6342
  have n6480 : sL S6393 q2410 = 200 := by rw [eS6393]; exact n6343
  have n6481 : sL S6393 q2615 = 200 := by rw [eS6393]; exact n6344
  have n6482 : sL S6393 q2827 = 200 := by rw [eS6393]; exact n6345
  have n6483 : sL S6393 q3046 = 200 := by rw [eS6393]; exact n6346
  have n6484 : sL S6393 q3272 = 200 := by rw [eS6393]; exact n6347
  have n6485 : sL S6393 q3505 = 200 := by rw [eS6393]; exact n6348
  have n6486 : sL S6393 q3745 = 200 := by rw [eS6393]; exact n6349
  have n6487 : sL S6393 q3992 = 10 := by rw [eS6393]; exact n6350
  have n6488 : sL S6393 q4246 = 10 := by rw [eS6393]; exact n6351
  have n6489 : sL S6393 q4507 = 10 := by rw [eS6393]; exact n6352
  have n6490 : sL S6393 q4775 = 5 := by rw [eS6393]; exact n6353
  have n6491 : sL S6393 q5050 = 5 := by rw [eS6393]; exact n6354
  have n6492 : sL S6393 q5332 = 5 := by rw [eS6393]; exact n6355
  have n6493 : sL S6393 q5621 = 5 := by rw [eS6393]; exact n6356
  have n6494 : sL S6393 q5917 = 8 := by rw [eS6393]; exact n6357
  have n6495 : sL S6393 q6220 = 8 := by rw [eS6393]; exact n6392
  have w6496 : sI S6393 h 1 = 0 := by rw [eS6393]; exact w6358
  have w6497 : sI S6393 h 2 = 0 := by rw [eS6393]; exact w6359
  have w6498 : sI S6393 h 3 = 0 := by rw [eS6393]; exact w6360
  have w6499 : sI S6393 h 4 = 0 := by rw [eS6393]; exact w6361
  have w6500 : sI S6393 h 11 = 0 := by rw [eS6393]; exact w6362
  have w6501 : sI S6393 h 12 = 0 := by rw [eS6393]; exact w6363
  have w6502 : sI S6393 h 13 = 0 := by rw [eS6393]; exact w6364
  have w6503 : sI S6393 h 14 = 0 := by rw [eS6393]; exact w6365
  have w6504 : sI S6393 h 15 = 0 := by rw [eS6393]; exact w6366
  have w6505 : sI S6393 h 16 = 0 := by rw [eS6393]; exact w6367
  have w6506 : sI S6393 h 17 = 0 := by rw [eS6393]; exact w6368
  have w6507 : sI S6393 h 18 = 0 := by rw [eS6393]; exact w6369
  have w6508 : sI S6393 h 20 = 0 := by rw [eS6393]; exact w6370
  have w6509 : sI S6393 h 21 = 0 := by rw [eS6393]; exact w6371
  have w6510 : sI S6393 h 22 = 0 := by rw [eS6393]; exact w6372
  have w6511 : sI S6393 h 35 = 0 := by rw [eS6393]; exact w6373
  have w6512 : sI S6393 h 36 = 0 := by rw [eS6393]; exact w6374
  have w6513 : sI S6393 h 53 = 0 := by rw [eS6393]; exact w6375
  have w6514 : sI S6393 h 54 = 0 := by rw [eS6393]; exact w6376
  have w6515 : sI S6393 h 55 = 0 := by rw [eS6393]; exact w6377
  have w6516 : sI S6393 h 60 = 0 := by rw [eS6393]; exact w6378
  have w6517 : sI S6393 h 19 = 200 := by rw [eS6393]; exact w6379
  have w6518 : sI S6393 h 23 = 400 := by rw [eS6393]; exact w6380
  have w6519 : sI S6393 h 24 = 3 := by rw [eS6393]; exact w6381
  have w6520 : sI S6393 h 25 = 2 := by rw [eS6393]; exact w6382
  have w6521 : ∀ j, j < 2 → sI S6393 q801 j = 0 := fun j hj => by rw [eS6393]; exact w6383 j hj 
  have w6522 : ∀ j, j < 2 → sI S6393 q922 j = 0 := fun j hj => by rw [eS6393]; exact w6384 j hj 
  have w6523 : ∀ j, j < 2 → sI S6393 q1052 j = 0 := fun j hj => by rw [eS6393]; exact w6385 j hj 
  have w6524 : ∀ j, j < 2 → sI S6393 q1191 j = 0 := fun j hj => by rw [eS6393]; exact w6386 j hj 
  have w6525 : ∀ j, j < 2 → sI S6393 q1339 j = 0 := fun j hj => by rw [eS6393]; exact w6387 j hj 
  have w6526 : ∀ j, j < 2 → sI S6393 q1496 j = 0 := fun j hj => by rw [eS6393]; exact w6388 j hj 
  have w6527 : ∀ j, j < 2 → sI S6393 q1662 j = 0 := fun j hj => by rw [eS6393]; exact w6389 j hj 
  have w6528 : ∀ j, j < 2 → sI S6393 q1837 j = 0 := fun j hj => by rw [eS6393]; exact w6390 j hj 
  have r6529 : sR S6393 h 57 = some q6220 := by rw [eS6393, rR, if_pos rfl, if_pos rfl]
  clear k6224 k6226 k6228 k6230 k6232 k6234 k6236 k6238 k6240 k6242 k6244 k6246 k6248 k6250 k6252 k6254 k6256 k6258 k6260 k6262 k6264 k6266 k6268 k6270 k6272 k6274 k6276 k6278 k6280 k6282 k6284 k6286 k6288 k6290 k6391 r6292 r6293 r6294 r6295 r6296 r6297 r6298 r6299 r6300 r6301 r6302 r6303 r6304 r6305 r6306 r6307 r6308 r6309 r6310 r6311 r6312 r6313 r6314 r6315 r6316 r6317 r6318 r6319 r6320 r6321 r6322 r6323 r6324 n6325 n6326 n6327 n6328 n6329 n6330 n6331 n6332 n6333 n6334 n6335 n6336 n6337 n6338 n6339 n6340 n6341 n6342 n6343 n6344 n6345 n6346 n6347 n6348 n6349 n6350 n6351 n6352 n6353 n6354 n6355 n6356 n6357 n6392 w6358 w6359 w6360 w6361 w6362 w6363 w6364 w6365 w6366 w6367 w6368 w6369 w6370 w6371 w6372 w6373 w6374 w6375 w6376 w6377 w6378 w6379 w6380 w6381 w6382 w6383 w6384 w6385 w6386 w6387 w6388 w6389 w6390
  refine lv_aload_n hx hb dX9_init_297 rfl (lv_at hl 0 rfl) ?_
  refine lv_bipush (v := 8) hx hb dX9_init_298 (by decide) ?_
  refine pg_newa (atype := .int) (ty := .int) (kd := 11) (t0 := 1) (N' := 8) hx hb (hts (.arrayClass .int) (by decide +kernel)) rfl rfl (Or.inl rfl) (by decide) hK hW hS hA (fun _ => rfl) (by decide) (by decide) (Nat.le_of_ble_eq_true rfl) (Nat.le_of_ble_eq_true rfl) (Nat.le_of_ble_eq_true rfl) dX9_init_300 (fun q6530 H hq6530 hW hS => ?_)
  have f6532 : Ap h q6530 := ap_k k6394 hq6530 (by decide)
  have o6533 : 16 ≤ sK S q6530 := hX.old hq6530 (ni_c (ap_s f6532) ni_0)
  have hX : Kx [h] S (stN S6393 q6530 11 8) := hX.N hq6530
  obtain ⟨S6531, eS6531⟩ : ∃ T : St, T = stN S6393 q6530 11 8 := ⟨_, rfl⟩
  rw [← eS6531] at hW hX
  obtain ⟨k6534, d6535⟩ := fk_N (a := h) eS6531 k6394 (by decide) hq6530
  obtain ⟨k6536, d6537⟩ := fk_N (a := q1) eS6531 k6395 (by decide) hq6530
  obtain ⟨k6538, d6539⟩ := fk_N (a := q64) eS6531 k6396 (by decide) hq6530
  obtain ⟨k6540, d6541⟩ := fk_N (a := q134) eS6531 k6397 (by decide) hq6530
  obtain ⟨k6542, d6543⟩ := fk_N (a := q211) eS6531 k6398 (by decide) hq6530
  obtain ⟨k6544, d6545⟩ := fk_N (a := q295) eS6531 k6399 (by decide) hq6530
  obtain ⟨k6546, d6547⟩ := fk_N (a := q386) eS6531 k6400 (by decide) hq6530
  obtain ⟨k6548, d6549⟩ := fk_N (a := q484) eS6531 k6401 (by decide) hq6530
  obtain ⟨k6550, d6551⟩ := fk_N (a := q689) eS6531 k6402 (by decide) hq6530
  obtain ⟨k6552, d6553⟩ := fk_N (a := q801) eS6531 k6403 (by decide) hq6530
  obtain ⟨k6554, d6555⟩ := fk_N (a := q922) eS6531 k6404 (by decide) hq6530
  obtain ⟨k6556, d6557⟩ := fk_N (a := q1052) eS6531 k6405 (by decide) hq6530
  obtain ⟨k6558, d6559⟩ := fk_N (a := q1191) eS6531 k6406 (by decide) hq6530
  obtain ⟨k6560, d6561⟩ := fk_N (a := q1339) eS6531 k6407 (by decide) hq6530
  obtain ⟨k6562, d6563⟩ := fk_N (a := q1496) eS6531 k6408 (by decide) hq6530
  obtain ⟨k6564, d6565⟩ := fk_N (a := q1662) eS6531 k6409 (by decide) hq6530
  obtain ⟨k6566, d6567⟩ := fk_N (a := q1837) eS6531 k6410 (by decide) hq6530
  obtain ⟨k6568, d6569⟩ := fk_N (a := q2021) eS6531 k6411 (by decide) hq6530
  obtain ⟨k6570, d6571⟩ := fk_N (a := q2212) eS6531 k6412 (by decide) hq6530
  obtain ⟨k6572, d6573⟩ := fk_N (a := q2410) eS6531 k6413 (by decide) hq6530
  obtain ⟨k6574, d6575⟩ := fk_N (a := q2615) eS6531 k6414 (by decide) hq6530
  obtain ⟨k6576, d6577⟩ := fk_N (a := q2827) eS6531 k6415 (by decide) hq6530
  obtain ⟨k6578, d6579⟩ := fk_N (a := q3046) eS6531 k6416 (by decide) hq6530
  obtain ⟨k6580, d6581⟩ := fk_N (a := q3272) eS6531 k6417 (by decide) hq6530
  obtain ⟨k6582, d6583⟩ := fk_N (a := q3505) eS6531 k6418 (by decide) hq6530
  obtain ⟨k6584, d6585⟩ := fk_N (a := q3745) eS6531 k6419 (by decide) hq6530
  obtain ⟨k6586, d6587⟩ := fk_N (a := q3992) eS6531 k6420 (by decide) hq6530
  obtain ⟨k6588, d6589⟩ := fk_N (a := q4246) eS6531 k6421 (by decide) hq6530
  obtain ⟨k6590, d6591⟩ := fk_N (a := q4507) eS6531 k6422 (by decide) hq6530
  obtain ⟨k6592, d6593⟩ := fk_N (a := q4775) eS6531 k6423 (by decide) hq6530
  obtain ⟨k6594, d6595⟩ := fk_N (a := q5050) eS6531 k6424 (by decide) hq6530
  obtain ⟨k6596, d6597⟩ := fk_N (a := q5332) eS6531 k6425 (by decide) hq6530
  obtain ⟨k6598, d6599⟩ := fk_N (a := q5621) eS6531 k6426 (by decide) hq6530
  obtain ⟨k6600, d6601⟩ := fk_N (a := q5917) eS6531 k6427 (by decide) hq6530
  obtain ⟨k6602, d6603⟩ := fk_N (a := q6220) eS6531 k6428 (by decide) hq6530
  have r6604 : sR S6531 h 0 = some q1 := by rw [eS6531, rN, if_neg d6535]; exact r6429
  have r6605 : sR S6531 h 5 = some q64 := by rw [eS6531, rN, if_neg d6535]; exact r6430
  have r6606 : sR S6531 h 6 = some q134 := by rw [eS6531, rN, if_neg d6535]; exact r6431
  have r6607 : sR S6531 h 7 = some q211 := by rw [eS6531, rN, if_neg d6535]; exact r6432
  have r6608 : sR S6531 h 8 = some q295 := by rw [eS6531, rN, if_neg d6535]; exact r6433
  have r6609 : sR S6531 h 9 = some q386 := by rw [eS6531, rN, if_neg d6535]; exact r6434
  have r6610 : sR S6531 h 10 = some q484 := by rw [eS6531, rN, if_neg d6535]; exact r6435
  have r6611 : sR S6531 h 26 = some q689 := by rw [eS6531, rN, if_neg d6535]; exact r6436
  have r6612 : sR S6531 h 27 = some q801 := by rw [eS6531, rN, if_neg d6535]; exact r6437
  have r6613 : sR S6531 h 28 = some q922 := by rw [eS6531, rN, if_neg d6535]; exact r6438
  have r6614 : sR S6531 h 29 = some q1052 := by rw [eS6531, rN, if_neg d6535]; exact r6439
  have r6615 : sR S6531 h 30 = some q1191 := by rw [eS6531, rN, if_neg d6535]; exact r6440
  have r6616 : sR S6531 h 31 = some q1339 := by rw [eS6531, rN, if_neg d6535]; exact r6441
  have r6617 : sR S6531 h 32 = some q1496 := by rw [eS6531, rN, if_neg d6535]; exact r6442
  have r6618 : sR S6531 h 33 = some q1662 := by rw [eS6531, rN, if_neg d6535]; exact r6443
  have r6619 : sR S6531 h 34 = some q1837 := by rw [eS6531, rN, if_neg d6535]; exact r6444
  have r6620 : sR S6531 h 37 = some q2021 := by rw [eS6531, rN, if_neg d6535]; exact r6445
  have r6621 : sR S6531 h 38 = some q2212 := by rw [eS6531, rN, if_neg d6535]; exact r6446
  have r6622 : sR S6531 h 39 = some q2410 := by rw [eS6531, rN, if_neg d6535]; exact r6447
  have r6623 : sR S6531 h 40 = some q2615 := by rw [eS6531, rN, if_neg d6535]; exact r6448
  have r6624 : sR S6531 h 41 = some q2827 := by rw [eS6531, rN, if_neg d6535]; exact r6449
  have r6625 : sR S6531 h 42 = some q3046 := by rw [eS6531, rN, if_neg d6535]; exact r6450
  have r6626 : sR S6531 h 43 = some q3272 := by rw [eS6531, rN, if_neg d6535]; exact r6451
  have r6627 : sR S6531 h 44 = some q3505 := by rw [eS6531, rN, if_neg d6535]; exact r6452
  have r6628 : sR S6531 h 45 = some q3745 := by rw [eS6531, rN, if_neg d6535]; exact r6453
  have r6629 : sR S6531 h 46 = some q3992 := by rw [eS6531, rN, if_neg d6535]; exact r6454
  have r6630 : sR S6531 h 47 = some q4246 := by rw [eS6531, rN, if_neg d6535]; exact r6455
  have r6631 : sR S6531 h 48 = some q4507 := by rw [eS6531, rN, if_neg d6535]; exact r6456
  have r6632 : sR S6531 h 49 = some q4775 := by rw [eS6531, rN, if_neg d6535]; exact r6457
  have r6633 : sR S6531 h 50 = some q5050 := by rw [eS6531, rN, if_neg d6535]; exact r6458
  have r6634 : sR S6531 h 51 = some q5332 := by rw [eS6531, rN, if_neg d6535]; exact r6459
  have r6635 : sR S6531 h 52 = some q5621 := by rw [eS6531, rN, if_neg d6535]; exact r6460
  have r6636 : sR S6531 h 56 = some q5917 := by rw [eS6531, rN, if_neg d6535]; exact r6461
  have r6637 : sR S6531 h 57 = some q6220 := by rw [eS6531, rN, if_neg d6535]; exact r6529
  have n6638 : sL S6531 q1 = 80 := by rw [eS6531, lNw, if_neg d6537]; exact n6462
  have n6639 : sL S6531 q64 = 6 := by rw [eS6531, lNw, if_neg d6539]; exact n6463
  have n6640 : sL S6531 q134 = 6 := by rw [eS6531, lNw, if_neg d6541]; exact n6464
  have n6641 : sL S6531 q211 = 6 := by rw [eS6531, lNw, if_neg d6543]; exact n6465
  have n6642 : sL S6531 q295 = 6 := by rw [eS6531, lNw, if_neg d6545]; exact n6466
  have n6643 : sL S6531 q386 = 6 := by rw [eS6531, lNw, if_neg d6547]; exact n6467
  have n6644 : sL S6531 q484 = 6 := by rw [eS6531, lNw, if_neg d6549]; exact n6468
  have n6645 : sL S6531 q689 = 24 := by rw [eS6531, lNw, if_neg d6551]; exact n6469
  have n6646 : sL S6531 q801 = 2 := by rw [eS6531, lNw, if_neg d6553]; exact n6470
  have n6647 : sL S6531 q922 = 2 := by rw [eS6531, lNw, if_neg d6555]; exact n6471
  have n6648 : sL S6531 q1052 = 2 := by rw [eS6531, lNw, if_neg d6557]; exact n6472
  have n6649 : sL S6531 q1191 = 2 := by rw [eS6531, lNw, if_neg d6559]; exact n6473
  have n6650 : sL S6531 q1339 = 2 := by rw [eS6531, lNw, if_neg d6561]; exact n6474
  have n6651 : sL S6531 q1496 = 2 := by rw [eS6531, lNw, if_neg d6563]; exact n6475
  have n6652 : sL S6531 q1662 = 2 := by rw [eS6531, lNw, if_neg d6565]; exact n6476
  have n6653 : sL S6531 q1837 = 2 := by rw [eS6531, lNw, if_neg d6567]; exact n6477
  have n6654 : sL S6531 q2021 = 200 := by rw [eS6531, lNw, if_neg d6569]; exact n6478
  have n6655 : sL S6531 q2212 = 200 := by rw [eS6531, lNw, if_neg d6571]; exact n6479
  have n6656 : sL S6531 q2410 = 200 := by rw [eS6531, lNw, if_neg d6573]; exact n6480
  have n6657 : sL S6531 q2615 = 200 := by rw [eS6531, lNw, if_neg d6575]; exact n6481
  have n6658 : sL S6531 q2827 = 200 := by rw [eS6531, lNw, if_neg d6577]; exact n6482
  have n6659 : sL S6531 q3046 = 200 := by rw [eS6531, lNw, if_neg d6579]; exact n6483
  have n6660 : sL S6531 q3272 = 200 := by rw [eS6531, lNw, if_neg d6581]; exact n6484
  have n6661 : sL S6531 q3505 = 200 := by rw [eS6531, lNw, if_neg d6583]; exact n6485
  have n6662 : sL S6531 q3745 = 200 := by rw [eS6531, lNw, if_neg d6585]; exact n6486
  have n6663 : sL S6531 q3992 = 10 := by rw [eS6531, lNw, if_neg d6587]; exact n6487
  have n6664 : sL S6531 q4246 = 10 := by rw [eS6531, lNw, if_neg d6589]; exact n6488
  have n6665 : sL S6531 q4507 = 10 := by rw [eS6531, lNw, if_neg d6591]; exact n6489
  have n6666 : sL S6531 q4775 = 5 := by rw [eS6531, lNw, if_neg d6593]; exact n6490
  have n6667 : sL S6531 q5050 = 5 := by rw [eS6531, lNw, if_neg d6595]; exact n6491
  have n6668 : sL S6531 q5332 = 5 := by rw [eS6531, lNw, if_neg d6597]; exact n6492
  have n6669 : sL S6531 q5621 = 5 := by rw [eS6531, lNw, if_neg d6599]; exact n6493
  have n6670 : sL S6531 q5917 = 8 := by rw [eS6531, lNw, if_neg d6601]; exact n6494
  have n6671 : sL S6531 q6220 = 8 := by rw [eS6531, lNw, if_neg d6603]; exact n6495
  have w6672 : sI S6531 h 1 = 0 := by rw [eS6531, iN, if_neg d6535]; exact w6496
  have w6673 : sI S6531 h 2 = 0 := by rw [eS6531, iN, if_neg d6535]; exact w6497
  have w6674 : sI S6531 h 3 = 0 := by rw [eS6531, iN, if_neg d6535]; exact w6498
  have w6675 : sI S6531 h 4 = 0 := by rw [eS6531, iN, if_neg d6535]; exact w6499
  have w6676 : sI S6531 h 11 = 0 := by rw [eS6531, iN, if_neg d6535]; exact w6500
  have w6677 : sI S6531 h 12 = 0 := by rw [eS6531, iN, if_neg d6535]; exact w6501
  have w6678 : sI S6531 h 13 = 0 := by rw [eS6531, iN, if_neg d6535]; exact w6502
  have w6679 : sI S6531 h 14 = 0 := by rw [eS6531, iN, if_neg d6535]; exact w6503
  have w6680 : sI S6531 h 15 = 0 := by rw [eS6531, iN, if_neg d6535]; exact w6504
  have w6681 : sI S6531 h 16 = 0 := by rw [eS6531, iN, if_neg d6535]; exact w6505
  have w6682 : sI S6531 h 17 = 0 := by rw [eS6531, iN, if_neg d6535]; exact w6506
  have w6683 : sI S6531 h 18 = 0 := by rw [eS6531, iN, if_neg d6535]; exact w6507
  have w6684 : sI S6531 h 20 = 0 := by rw [eS6531, iN, if_neg d6535]; exact w6508
  have w6685 : sI S6531 h 21 = 0 := by rw [eS6531, iN, if_neg d6535]; exact w6509
  have w6686 : sI S6531 h 22 = 0 := by rw [eS6531, iN, if_neg d6535]; exact w6510
  have w6687 : sI S6531 h 35 = 0 := by rw [eS6531, iN, if_neg d6535]; exact w6511
  have w6688 : sI S6531 h 36 = 0 := by rw [eS6531, iN, if_neg d6535]; exact w6512
  have w6689 : sI S6531 h 53 = 0 := by rw [eS6531, iN, if_neg d6535]; exact w6513
  have w6690 : sI S6531 h 54 = 0 := by rw [eS6531, iN, if_neg d6535]; exact w6514
  have w6691 : sI S6531 h 55 = 0 := by rw [eS6531, iN, if_neg d6535]; exact w6515
  have w6692 : sI S6531 h 60 = 0 := by rw [eS6531, iN, if_neg d6535]; exact w6516
  have w6693 : sI S6531 h 19 = 200 := by rw [eS6531, iN, if_neg d6535]; exact w6517
  have w6694 : sI S6531 h 23 = 400 := by rw [eS6531, iN, if_neg d6535]; exact w6518
  have w6695 : sI S6531 h 24 = 3 := by rw [eS6531, iN, if_neg d6535]; exact w6519
  have w6696 : sI S6531 h 25 = 2 := by rw [eS6531, iN, if_neg d6535]; exact w6520
  have w6697 : ∀ j, j < 2 → sI S6531 q801 j = 0 := fun j hj => by rw [eS6531, iN, if_neg d6553]; exact w6521 j hj 
  have w6698 : ∀ j, j < 2 → sI S6531 q922 j = 0 := fun j hj => by rw [eS6531, iN, if_neg d6555]; exact w6522 j hj 
  have w6699 : ∀ j, j < 2 → sI S6531 q1052 j = 0 := fun j hj => by rw [eS6531, iN, if_neg d6557]; exact w6523 j hj 
  have w6700 : ∀ j, j < 2 → sI S6531 q1191 j = 0 := fun j hj => by rw [eS6531, iN, if_neg d6559]; exact w6524 j hj 
  have w6701 : ∀ j, j < 2 → sI S6531 q1339 j = 0 := fun j hj => by rw [eS6531, iN, if_neg d6561]; exact w6525 j hj 
  have w6702 : ∀ j, j < 2 → sI S6531 q1496 j = 0 := fun j hj => by rw [eS6531, iN, if_neg d6563]; exact w6526 j hj 
  have w6703 : ∀ j, j < 2 → sI S6531 q1662 j = 0 := fun j hj => by rw [eS6531, iN, if_neg d6565]; exact w6527 j hj 
  have w6704 : ∀ j, j < 2 → sI S6531 q1837 j = 0 := fun j hj => by rw [eS6531, iN, if_neg d6567]; exact w6528 j hj 
  have k6705 : sK S6531 q6530 = 11 := by rw [eS6531, kN, if_pos rfl]
  have n6706 : sL S6531 q6530 = 8 := by rw [eS6531, lNw, if_pos rfl]
  clear k6394 k6395 k6396 k6397 k6398 k6399 k6400 k6401 k6402 k6403 k6404 k6405 k6406 k6407 k6408 k6409 k6410 k6411 k6412 k6413 k6414 k6415 k6416 k6417 k6418 k6419 k6420 k6421 k6422 k6423 k6424 k6425 k6426 k6427 k6428 r6429 r6430 r6431 r6432 r6433 r6434 r6435 r6436 r6437 r6438 r6439 r6440 r6441 r6442 r6443 r6444 r6445 r6446 r6447 r6448 r6449 r6450 r6451 r6452 r6453 r6454 r6455 r6456 r6457 r6458 r6459 r6460 r6461 r6529 n6462 n6463 n6464 n6465 n6466 n6467 n6468 n6469 n6470 n6471 n6472 n6473 n6474 n6475 n6476 n6477 n6478 n6479 n6480 n6481 n6482 n6483 n6484 n6485 n6486 n6487 n6488 n6489 n6490 n6491 n6492 n6493 n6494 n6495 w6496 w6497 w6498 w6499 w6500 w6501 w6502 w6503 w6504 w6505 w6506 w6507 w6508 w6509 w6510 w6511 w6512 w6513 w6514 w6515 w6516 w6517 w6518 w6519 w6520 w6521 w6522 w6523 w6524 w6525 w6526 w6527 w6528
  refine pg_pr (ci := 9) (C := RX9) (T := TX9) (N := 63) hx hb hts wi9 tyX9 tyX9_ok nmX9 hown hK hW hS k6534 (by decide) rfl 58 (by decide) (hts (.fieldLink RX9 127 "IceHallModel" "bestRow" "[I") (by decide +kernel)) (fun _ h9 => h9) rfl hnm rfl rfl rfl rfl dX9_init_302 (fun H locs hW hS => ?_)
  have hX : Kx [h] S (stR S6531 h 58 (some q6530)) := hX.Rh List.mem_cons_self
  obtain ⟨S6707, eS6707⟩ : ∃ T : St, T = stR S6531 h 58 (some q6530) := ⟨_, rfl⟩
  rw [← eS6707] at hW hX
  have k6708 : sK S6707 h = 9 := by rw [eS6707]; exact k6534
  have k6709 : sK S6707 q1 = 10 := by rw [eS6707]; exact k6536
  have k6710 : sK S6707 q64 = 11 := by rw [eS6707]; exact k6538
  have k6711 : sK S6707 q134 = 11 := by rw [eS6707]; exact k6540
  have k6712 : sK S6707 q211 = 11 := by rw [eS6707]; exact k6542
  have k6713 : sK S6707 q295 = 11 := by rw [eS6707]; exact k6544
  have k6714 : sK S6707 q386 = 11 := by rw [eS6707]; exact k6546
  have k6715 : sK S6707 q484 = 11 := by rw [eS6707]; exact k6548
  have k6716 : sK S6707 q689 = 11 := by rw [eS6707]; exact k6550
  have k6717 : sK S6707 q801 = 11 := by rw [eS6707]; exact k6552
  have k6718 : sK S6707 q922 = 11 := by rw [eS6707]; exact k6554
  have k6719 : sK S6707 q1052 = 11 := by rw [eS6707]; exact k6556
  have k6720 : sK S6707 q1191 = 11 := by rw [eS6707]; exact k6558
  have k6721 : sK S6707 q1339 = 11 := by rw [eS6707]; exact k6560
  have k6722 : sK S6707 q1496 = 11 := by rw [eS6707]; exact k6562
  have k6723 : sK S6707 q1662 = 11 := by rw [eS6707]; exact k6564
  have k6724 : sK S6707 q1837 = 13 := by rw [eS6707]; exact k6566
  have k6725 : sK S6707 q2021 = 11 := by rw [eS6707]; exact k6568
  have k6726 : sK S6707 q2212 = 11 := by rw [eS6707]; exact k6570
  have k6727 : sK S6707 q2410 = 11 := by rw [eS6707]; exact k6572
  have k6728 : sK S6707 q2615 = 11 := by rw [eS6707]; exact k6574
  have k6729 : sK S6707 q2827 = 11 := by rw [eS6707]; exact k6576
  have k6730 : sK S6707 q3046 = 11 := by rw [eS6707]; exact k6578
  have k6731 : sK S6707 q3272 = 11 := by rw [eS6707]; exact k6580
  have k6732 : sK S6707 q3505 = 11 := by rw [eS6707]; exact k6582
  have k6733 : sK S6707 q3745 = 11 := by rw [eS6707]; exact k6584
  have k6734 : sK S6707 q3992 = 11 := by rw [eS6707]; exact k6586
  have k6735 : sK S6707 q4246 = 11 := by rw [eS6707]; exact k6588
  have k6736 : sK S6707 q4507 = 11 := by rw [eS6707]; exact k6590
  have k6737 : sK S6707 q4775 = 11 := by rw [eS6707]; exact k6592
  have k6738 : sK S6707 q5050 = 11 := by rw [eS6707]; exact k6594
  have k6739 : sK S6707 q5332 = 11 := by rw [eS6707]; exact k6596
  have k6740 : sK S6707 q5621 = 11 := by rw [eS6707]; exact k6598
  have k6741 : sK S6707 q5917 = 11 := by rw [eS6707]; exact k6600
  have k6742 : sK S6707 q6220 = 11 := by rw [eS6707]; exact k6602
  have k6743 : sK S6707 q6530 = 11 := by rw [eS6707]; exact k6705
  have r6744 : sR S6707 h 0 = some q1 := by rw [eS6707, rR, if_pos rfl, if_neg (by decide)]; exact r6604
  have r6745 : sR S6707 h 5 = some q64 := by rw [eS6707, rR, if_pos rfl, if_neg (by decide)]; exact r6605
  have r6746 : sR S6707 h 6 = some q134 := by rw [eS6707, rR, if_pos rfl, if_neg (by decide)]; exact r6606
  have r6747 : sR S6707 h 7 = some q211 := by rw [eS6707, rR, if_pos rfl, if_neg (by decide)]; exact r6607
  have r6748 : sR S6707 h 8 = some q295 := by rw [eS6707, rR, if_pos rfl, if_neg (by decide)]; exact r6608
  have r6749 : sR S6707 h 9 = some q386 := by rw [eS6707, rR, if_pos rfl, if_neg (by decide)]; exact r6609
  have r6750 : sR S6707 h 10 = some q484 := by rw [eS6707, rR, if_pos rfl, if_neg (by decide)]; exact r6610
  have r6751 : sR S6707 h 26 = some q689 := by rw [eS6707, rR, if_pos rfl, if_neg (by decide)]; exact r6611
  have r6752 : sR S6707 h 27 = some q801 := by rw [eS6707, rR, if_pos rfl, if_neg (by decide)]; exact r6612
  have r6753 : sR S6707 h 28 = some q922 := by rw [eS6707, rR, if_pos rfl, if_neg (by decide)]; exact r6613
  have r6754 : sR S6707 h 29 = some q1052 := by rw [eS6707, rR, if_pos rfl, if_neg (by decide)]; exact r6614
  have r6755 : sR S6707 h 30 = some q1191 := by rw [eS6707, rR, if_pos rfl, if_neg (by decide)]; exact r6615
  have r6756 : sR S6707 h 31 = some q1339 := by rw [eS6707, rR, if_pos rfl, if_neg (by decide)]; exact r6616
  have r6757 : sR S6707 h 32 = some q1496 := by rw [eS6707, rR, if_pos rfl, if_neg (by decide)]; exact r6617
  have r6758 : sR S6707 h 33 = some q1662 := by rw [eS6707, rR, if_pos rfl, if_neg (by decide)]; exact r6618
  have r6759 : sR S6707 h 34 = some q1837 := by rw [eS6707, rR, if_pos rfl, if_neg (by decide)]; exact r6619
  have r6760 : sR S6707 h 37 = some q2021 := by rw [eS6707, rR, if_pos rfl, if_neg (by decide)]; exact r6620
  have r6761 : sR S6707 h 38 = some q2212 := by rw [eS6707, rR, if_pos rfl, if_neg (by decide)]; exact r6621
  have r6762 : sR S6707 h 39 = some q2410 := by rw [eS6707, rR, if_pos rfl, if_neg (by decide)]; exact r6622
  have r6763 : sR S6707 h 40 = some q2615 := by rw [eS6707, rR, if_pos rfl, if_neg (by decide)]; exact r6623
  have r6764 : sR S6707 h 41 = some q2827 := by rw [eS6707, rR, if_pos rfl, if_neg (by decide)]; exact r6624
  have r6765 : sR S6707 h 42 = some q3046 := by rw [eS6707, rR, if_pos rfl, if_neg (by decide)]; exact r6625
  have r6766 : sR S6707 h 43 = some q3272 := by rw [eS6707, rR, if_pos rfl, if_neg (by decide)]; exact r6626
  have r6767 : sR S6707 h 44 = some q3505 := by rw [eS6707, rR, if_pos rfl, if_neg (by decide)]; exact r6627
  have r6768 : sR S6707 h 45 = some q3745 := by rw [eS6707, rR, if_pos rfl, if_neg (by decide)]; exact r6628
  have r6769 : sR S6707 h 46 = some q3992 := by rw [eS6707, rR, if_pos rfl, if_neg (by decide)]; exact r6629
  have r6770 : sR S6707 h 47 = some q4246 := by rw [eS6707, rR, if_pos rfl, if_neg (by decide)]; exact r6630
  have r6771 : sR S6707 h 48 = some q4507 := by rw [eS6707, rR, if_pos rfl, if_neg (by decide)]; exact r6631
  have r6772 : sR S6707 h 49 = some q4775 := by rw [eS6707, rR, if_pos rfl, if_neg (by decide)]; exact r6632
  have r6773 : sR S6707 h 50 = some q5050 := by rw [eS6707, rR, if_pos rfl, if_neg (by decide)]; exact r6633
  have r6774 : sR S6707 h 51 = some q5332 := by rw [eS6707, rR, if_pos rfl, if_neg (by decide)]; exact r6634
  have r6775 : sR S6707 h 52 = some q5621 := by rw [eS6707, rR, if_pos rfl, if_neg (by decide)]; exact r6635
  have r6776 : sR S6707 h 56 = some q5917 := by rw [eS6707, rR, if_pos rfl, if_neg (by decide)]; exact r6636
  have r6777 : sR S6707 h 57 = some q6220 := by rw [eS6707, rR, if_pos rfl, if_neg (by decide)]; exact r6637
  have n6778 : sL S6707 q1 = 80 := by rw [eS6707]; exact n6638
  have n6779 : sL S6707 q64 = 6 := by rw [eS6707]; exact n6639
  have n6780 : sL S6707 q134 = 6 := by rw [eS6707]; exact n6640
  have n6781 : sL S6707 q211 = 6 := by rw [eS6707]; exact n6641
  have n6782 : sL S6707 q295 = 6 := by rw [eS6707]; exact n6642
  have n6783 : sL S6707 q386 = 6 := by rw [eS6707]; exact n6643
  have n6784 : sL S6707 q484 = 6 := by rw [eS6707]; exact n6644
  have n6785 : sL S6707 q689 = 24 := by rw [eS6707]; exact n6645
  have n6786 : sL S6707 q801 = 2 := by rw [eS6707]; exact n6646
  have n6787 : sL S6707 q922 = 2 := by rw [eS6707]; exact n6647
  have n6788 : sL S6707 q1052 = 2 := by rw [eS6707]; exact n6648
  have n6789 : sL S6707 q1191 = 2 := by rw [eS6707]; exact n6649
  have n6790 : sL S6707 q1339 = 2 := by rw [eS6707]; exact n6650
  have n6791 : sL S6707 q1496 = 2 := by rw [eS6707]; exact n6651
  have n6792 : sL S6707 q1662 = 2 := by rw [eS6707]; exact n6652
  have n6793 : sL S6707 q1837 = 2 := by rw [eS6707]; exact n6653
  have n6794 : sL S6707 q2021 = 200 := by rw [eS6707]; exact n6654
  have n6795 : sL S6707 q2212 = 200 := by rw [eS6707]; exact n6655
  have n6796 : sL S6707 q2410 = 200 := by rw [eS6707]; exact n6656
  have n6797 : sL S6707 q2615 = 200 := by rw [eS6707]; exact n6657
  have n6798 : sL S6707 q2827 = 200 := by rw [eS6707]; exact n6658
  have n6799 : sL S6707 q3046 = 200 := by rw [eS6707]; exact n6659
  have n6800 : sL S6707 q3272 = 200 := by rw [eS6707]; exact n6660
  have n6801 : sL S6707 q3505 = 200 := by rw [eS6707]; exact n6661
  have n6802 : sL S6707 q3745 = 200 := by rw [eS6707]; exact n6662
  have n6803 : sL S6707 q3992 = 10 := by rw [eS6707]; exact n6663
  have n6804 : sL S6707 q4246 = 10 := by rw [eS6707]; exact n6664
  have n6805 : sL S6707 q4507 = 10 := by rw [eS6707]; exact n6665
  have n6806 : sL S6707 q4775 = 5 := by rw [eS6707]; exact n6666
  have n6807 : sL S6707 q5050 = 5 := by rw [eS6707]; exact n6667
  have n6808 : sL S6707 q5332 = 5 := by rw [eS6707]; exact n6668
  have n6809 : sL S6707 q5621 = 5 := by rw [eS6707]; exact n6669
  have n6810 : sL S6707 q5917 = 8 := by rw [eS6707]; exact n6670
  have n6811 : sL S6707 q6220 = 8 := by rw [eS6707]; exact n6671
  have n6812 : sL S6707 q6530 = 8 := by rw [eS6707]; exact n6706
  have w6813 : sI S6707 h 1 = 0 := by rw [eS6707]; exact w6672
  have w6814 : sI S6707 h 2 = 0 := by rw [eS6707]; exact w6673
  have w6815 : sI S6707 h 3 = 0 := by rw [eS6707]; exact w6674
  have w6816 : sI S6707 h 4 = 0 := by rw [eS6707]; exact w6675
  have w6817 : sI S6707 h 11 = 0 := by rw [eS6707]; exact w6676
  have w6818 : sI S6707 h 12 = 0 := by rw [eS6707]; exact w6677
  have w6819 : sI S6707 h 13 = 0 := by rw [eS6707]; exact w6678
  have w6820 : sI S6707 h 14 = 0 := by rw [eS6707]; exact w6679
  have w6821 : sI S6707 h 15 = 0 := by rw [eS6707]; exact w6680
  have w6822 : sI S6707 h 16 = 0 := by rw [eS6707]; exact w6681
  have w6823 : sI S6707 h 17 = 0 := by rw [eS6707]; exact w6682
  have w6824 : sI S6707 h 18 = 0 := by rw [eS6707]; exact w6683
  have w6825 : sI S6707 h 20 = 0 := by rw [eS6707]; exact w6684
  have w6826 : sI S6707 h 21 = 0 := by rw [eS6707]; exact w6685
  have w6827 : sI S6707 h 22 = 0 := by rw [eS6707]; exact w6686
  have w6828 : sI S6707 h 35 = 0 := by rw [eS6707]; exact w6687
  have w6829 : sI S6707 h 36 = 0 := by rw [eS6707]; exact w6688
  have w6830 : sI S6707 h 53 = 0 := by rw [eS6707]; exact w6689
  have w6831 : sI S6707 h 54 = 0 := by rw [eS6707]; exact w6690
  have w6832 : sI S6707 h 55 = 0 := by rw [eS6707]; exact w6691
  have w6833 : sI S6707 h 60 = 0 := by rw [eS6707]; exact w6692
  have w6834 : sI S6707 h 19 = 200 := by rw [eS6707]; exact w6693
  have w6835 : sI S6707 h 23 = 400 := by rw [eS6707]; exact w6694
  have w6836 : sI S6707 h 24 = 3 := by rw [eS6707]; exact w6695
  have w6837 : sI S6707 h 25 = 2 := by rw [eS6707]; exact w6696
  have w6838 : ∀ j, j < 2 → sI S6707 q801 j = 0 := fun j hj => by rw [eS6707]; exact w6697 j hj 
  have w6839 : ∀ j, j < 2 → sI S6707 q922 j = 0 := fun j hj => by rw [eS6707]; exact w6698 j hj 
  have w6840 : ∀ j, j < 2 → sI S6707 q1052 j = 0 := fun j hj => by rw [eS6707]; exact w6699 j hj 
  have w6841 : ∀ j, j < 2 → sI S6707 q1191 j = 0 := fun j hj => by rw [eS6707]; exact w6700 j hj 
  have w6842 : ∀ j, j < 2 → sI S6707 q1339 j = 0 := fun j hj => by rw [eS6707]; exact w6701 j hj 
  have w6843 : ∀ j, j < 2 → sI S6707 q1496 j = 0 := fun j hj => by rw [eS6707]; exact w6702 j hj 
  have w6844 : ∀ j, j < 2 → sI S6707 q1662 j = 0 := fun j hj => by rw [eS6707]; exact w6703 j hj 
  have w6845 : ∀ j, j < 2 → sI S6707 q1837 j = 0 := fun j hj => by rw [eS6707]; exact w6704 j hj 
  have r6846 : sR S6707 h 58 = some q6530 := by rw [eS6707, rR, if_pos rfl, if_pos rfl]
  clear k6534 k6536 k6538 k6540 k6542 k6544 k6546 k6548 k6550 k6552 k6554 k6556 k6558 k6560 k6562 k6564 k6566 k6568 k6570 k6572 k6574 k6576 k6578 k6580 k6582 k6584 k6586 k6588 k6590 k6592 k6594 k6596 k6598 k6600 k6602 k6705 r6604 r6605 r6606 r6607 r6608 r6609 r6610 r6611 r6612 r6613 r6614 r6615 r6616 r6617 r6618 r6619 r6620 r6621 r6622 r6623 r6624 r6625 r6626 r6627 r6628 r6629 r6630 r6631 r6632 r6633 r6634 r6635 r6636 r6637 n6638 n6639 n6640 n6641 n6642 n6643 n6644 n6645 n6646 n6647 n6648 n6649 n6650 n6651 n6652 n6653 n6654 n6655 n6656 n6657 n6658 n6659 n6660 n6661 n6662 n6663 n6664 n6665 n6666 n6667 n6668 n6669 n6670 n6671 n6706 w6672 w6673 w6674 w6675 w6676 w6677 w6678 w6679 w6680 w6681 w6682 w6683 w6684 w6685 w6686 w6687 w6688 w6689 w6690 w6691 w6692 w6693 w6694 w6695 w6696 w6697 w6698 w6699 w6700 w6701 w6702 w6703 w6704
  refine lv_aload_n hx hb dX9_init_305 rfl (lv_at hl 0 rfl) ?_
  refine lv_bipush (v := 8) hx hb dX9_init_306 (by decide) ?_
  refine pg_newa (atype := .int) (ty := .int) (kd := 11) (t0 := 1) (N' := 8) hx hb (hts (.arrayClass .int) (by decide +kernel)) rfl rfl (Or.inl rfl) (by decide) hK hW hS hA (fun _ => rfl) (by decide) (by decide) (Nat.le_of_ble_eq_true rfl) (Nat.le_of_ble_eq_true rfl) (Nat.le_of_ble_eq_true rfl) dX9_init_308 (fun q6847 H hq6847 hW hS => ?_)
  have f6849 : Ap h q6847 := ap_k k6708 hq6847 (by decide)
  have o6850 : 16 ≤ sK S q6847 := hX.old hq6847 (ni_c (ap_s f6849) ni_0)
  have hX : Kx [h] S (stN S6707 q6847 11 8) := hX.N hq6847
  obtain ⟨S6848, eS6848⟩ : ∃ T : St, T = stN S6707 q6847 11 8 := ⟨_, rfl⟩
  rw [← eS6848] at hW hX
  obtain ⟨k6851, d6852⟩ := fk_N (a := h) eS6848 k6708 (by decide) hq6847
  obtain ⟨k6853, d6854⟩ := fk_N (a := q1) eS6848 k6709 (by decide) hq6847
  obtain ⟨k6855, d6856⟩ := fk_N (a := q64) eS6848 k6710 (by decide) hq6847
  obtain ⟨k6857, d6858⟩ := fk_N (a := q134) eS6848 k6711 (by decide) hq6847
  obtain ⟨k6859, d6860⟩ := fk_N (a := q211) eS6848 k6712 (by decide) hq6847
  obtain ⟨k6861, d6862⟩ := fk_N (a := q295) eS6848 k6713 (by decide) hq6847
  obtain ⟨k6863, d6864⟩ := fk_N (a := q386) eS6848 k6714 (by decide) hq6847
  obtain ⟨k6865, d6866⟩ := fk_N (a := q484) eS6848 k6715 (by decide) hq6847
  obtain ⟨k6867, d6868⟩ := fk_N (a := q689) eS6848 k6716 (by decide) hq6847
  obtain ⟨k6869, d6870⟩ := fk_N (a := q801) eS6848 k6717 (by decide) hq6847
  obtain ⟨k6871, d6872⟩ := fk_N (a := q922) eS6848 k6718 (by decide) hq6847
  obtain ⟨k6873, d6874⟩ := fk_N (a := q1052) eS6848 k6719 (by decide) hq6847
  obtain ⟨k6875, d6876⟩ := fk_N (a := q1191) eS6848 k6720 (by decide) hq6847
  obtain ⟨k6877, d6878⟩ := fk_N (a := q1339) eS6848 k6721 (by decide) hq6847
  obtain ⟨k6879, d6880⟩ := fk_N (a := q1496) eS6848 k6722 (by decide) hq6847
  obtain ⟨k6881, d6882⟩ := fk_N (a := q1662) eS6848 k6723 (by decide) hq6847
  obtain ⟨k6883, d6884⟩ := fk_N (a := q1837) eS6848 k6724 (by decide) hq6847
  obtain ⟨k6885, d6886⟩ := fk_N (a := q2021) eS6848 k6725 (by decide) hq6847
  obtain ⟨k6887, d6888⟩ := fk_N (a := q2212) eS6848 k6726 (by decide) hq6847
  obtain ⟨k6889, d6890⟩ := fk_N (a := q2410) eS6848 k6727 (by decide) hq6847
  obtain ⟨k6891, d6892⟩ := fk_N (a := q2615) eS6848 k6728 (by decide) hq6847
  obtain ⟨k6893, d6894⟩ := fk_N (a := q2827) eS6848 k6729 (by decide) hq6847
  obtain ⟨k6895, d6896⟩ := fk_N (a := q3046) eS6848 k6730 (by decide) hq6847
  obtain ⟨k6897, d6898⟩ := fk_N (a := q3272) eS6848 k6731 (by decide) hq6847
  obtain ⟨k6899, d6900⟩ := fk_N (a := q3505) eS6848 k6732 (by decide) hq6847
  obtain ⟨k6901, d6902⟩ := fk_N (a := q3745) eS6848 k6733 (by decide) hq6847
  obtain ⟨k6903, d6904⟩ := fk_N (a := q3992) eS6848 k6734 (by decide) hq6847
  obtain ⟨k6905, d6906⟩ := fk_N (a := q4246) eS6848 k6735 (by decide) hq6847
  obtain ⟨k6907, d6908⟩ := fk_N (a := q4507) eS6848 k6736 (by decide) hq6847
  obtain ⟨k6909, d6910⟩ := fk_N (a := q4775) eS6848 k6737 (by decide) hq6847
  obtain ⟨k6911, d6912⟩ := fk_N (a := q5050) eS6848 k6738 (by decide) hq6847
  obtain ⟨k6913, d6914⟩ := fk_N (a := q5332) eS6848 k6739 (by decide) hq6847
  obtain ⟨k6915, d6916⟩ := fk_N (a := q5621) eS6848 k6740 (by decide) hq6847
  obtain ⟨k6917, d6918⟩ := fk_N (a := q5917) eS6848 k6741 (by decide) hq6847
  obtain ⟨k6919, d6920⟩ := fk_N (a := q6220) eS6848 k6742 (by decide) hq6847
  obtain ⟨k6921, d6922⟩ := fk_N (a := q6530) eS6848 k6743 (by decide) hq6847
  have r6923 : sR S6848 h 0 = some q1 := by rw [eS6848, rN, if_neg d6852]; exact r6744
  have r6924 : sR S6848 h 5 = some q64 := by rw [eS6848, rN, if_neg d6852]; exact r6745
  have r6925 : sR S6848 h 6 = some q134 := by rw [eS6848, rN, if_neg d6852]; exact r6746
  have r6926 : sR S6848 h 7 = some q211 := by rw [eS6848, rN, if_neg d6852]; exact r6747
  have r6927 : sR S6848 h 8 = some q295 := by rw [eS6848, rN, if_neg d6852]; exact r6748
  have r6928 : sR S6848 h 9 = some q386 := by rw [eS6848, rN, if_neg d6852]; exact r6749
  have r6929 : sR S6848 h 10 = some q484 := by rw [eS6848, rN, if_neg d6852]; exact r6750
  have r6930 : sR S6848 h 26 = some q689 := by rw [eS6848, rN, if_neg d6852]; exact r6751
  have r6931 : sR S6848 h 27 = some q801 := by rw [eS6848, rN, if_neg d6852]; exact r6752
  have r6932 : sR S6848 h 28 = some q922 := by rw [eS6848, rN, if_neg d6852]; exact r6753
  have r6933 : sR S6848 h 29 = some q1052 := by rw [eS6848, rN, if_neg d6852]; exact r6754
  have r6934 : sR S6848 h 30 = some q1191 := by rw [eS6848, rN, if_neg d6852]; exact r6755
  have r6935 : sR S6848 h 31 = some q1339 := by rw [eS6848, rN, if_neg d6852]; exact r6756
  have r6936 : sR S6848 h 32 = some q1496 := by rw [eS6848, rN, if_neg d6852]; exact r6757
  have r6937 : sR S6848 h 33 = some q1662 := by rw [eS6848, rN, if_neg d6852]; exact r6758
  have r6938 : sR S6848 h 34 = some q1837 := by rw [eS6848, rN, if_neg d6852]; exact r6759
  have r6939 : sR S6848 h 37 = some q2021 := by rw [eS6848, rN, if_neg d6852]; exact r6760
  have r6940 : sR S6848 h 38 = some q2212 := by rw [eS6848, rN, if_neg d6852]; exact r6761
  have r6941 : sR S6848 h 39 = some q2410 := by rw [eS6848, rN, if_neg d6852]; exact r6762
  have r6942 : sR S6848 h 40 = some q2615 := by rw [eS6848, rN, if_neg d6852]; exact r6763
  have r6943 : sR S6848 h 41 = some q2827 := by rw [eS6848, rN, if_neg d6852]; exact r6764
  have r6944 : sR S6848 h 42 = some q3046 := by rw [eS6848, rN, if_neg d6852]; exact r6765
  have r6945 : sR S6848 h 43 = some q3272 := by rw [eS6848, rN, if_neg d6852]; exact r6766
  have r6946 : sR S6848 h 44 = some q3505 := by rw [eS6848, rN, if_neg d6852]; exact r6767
  have r6947 : sR S6848 h 45 = some q3745 := by rw [eS6848, rN, if_neg d6852]; exact r6768
  have r6948 : sR S6848 h 46 = some q3992 := by rw [eS6848, rN, if_neg d6852]; exact r6769
  have r6949 : sR S6848 h 47 = some q4246 := by rw [eS6848, rN, if_neg d6852]; exact r6770
  have r6950 : sR S6848 h 48 = some q4507 := by rw [eS6848, rN, if_neg d6852]; exact r6771
  have r6951 : sR S6848 h 49 = some q4775 := by rw [eS6848, rN, if_neg d6852]; exact r6772
  have r6952 : sR S6848 h 50 = some q5050 := by rw [eS6848, rN, if_neg d6852]; exact r6773
  have r6953 : sR S6848 h 51 = some q5332 := by rw [eS6848, rN, if_neg d6852]; exact r6774
  have r6954 : sR S6848 h 52 = some q5621 := by rw [eS6848, rN, if_neg d6852]; exact r6775
  have r6955 : sR S6848 h 56 = some q5917 := by rw [eS6848, rN, if_neg d6852]; exact r6776
  have r6956 : sR S6848 h 57 = some q6220 := by rw [eS6848, rN, if_neg d6852]; exact r6777
  have r6957 : sR S6848 h 58 = some q6530 := by rw [eS6848, rN, if_neg d6852]; exact r6846
  have n6958 : sL S6848 q1 = 80 := by rw [eS6848, lNw, if_neg d6854]; exact n6778
  have n6959 : sL S6848 q64 = 6 := by rw [eS6848, lNw, if_neg d6856]; exact n6779
  have n6960 : sL S6848 q134 = 6 := by rw [eS6848, lNw, if_neg d6858]; exact n6780
  have n6961 : sL S6848 q211 = 6 := by rw [eS6848, lNw, if_neg d6860]; exact n6781
  have n6962 : sL S6848 q295 = 6 := by rw [eS6848, lNw, if_neg d6862]; exact n6782
  have n6963 : sL S6848 q386 = 6 := by rw [eS6848, lNw, if_neg d6864]; exact n6783
  have n6964 : sL S6848 q484 = 6 := by rw [eS6848, lNw, if_neg d6866]; exact n6784
  have n6965 : sL S6848 q689 = 24 := by rw [eS6848, lNw, if_neg d6868]; exact n6785
  have n6966 : sL S6848 q801 = 2 := by rw [eS6848, lNw, if_neg d6870]; exact n6786
  have n6967 : sL S6848 q922 = 2 := by rw [eS6848, lNw, if_neg d6872]; exact n6787
  have n6968 : sL S6848 q1052 = 2 := by rw [eS6848, lNw, if_neg d6874]; exact n6788
  have n6969 : sL S6848 q1191 = 2 := by rw [eS6848, lNw, if_neg d6876]; exact n6789
  have n6970 : sL S6848 q1339 = 2 := by rw [eS6848, lNw, if_neg d6878]; exact n6790
  have n6971 : sL S6848 q1496 = 2 := by rw [eS6848, lNw, if_neg d6880]; exact n6791
  have n6972 : sL S6848 q1662 = 2 := by rw [eS6848, lNw, if_neg d6882]; exact n6792
  have n6973 : sL S6848 q1837 = 2 := by rw [eS6848, lNw, if_neg d6884]; exact n6793
  have n6974 : sL S6848 q2021 = 200 := by rw [eS6848, lNw, if_neg d6886]; exact n6794
  have n6975 : sL S6848 q2212 = 200 := by rw [eS6848, lNw, if_neg d6888]; exact n6795
  have n6976 : sL S6848 q2410 = 200 := by rw [eS6848, lNw, if_neg d6890]; exact n6796
  have n6977 : sL S6848 q2615 = 200 := by rw [eS6848, lNw, if_neg d6892]; exact n6797
  have n6978 : sL S6848 q2827 = 200 := by rw [eS6848, lNw, if_neg d6894]; exact n6798
  have n6979 : sL S6848 q3046 = 200 := by rw [eS6848, lNw, if_neg d6896]; exact n6799
  have n6980 : sL S6848 q3272 = 200 := by rw [eS6848, lNw, if_neg d6898]; exact n6800
  have n6981 : sL S6848 q3505 = 200 := by rw [eS6848, lNw, if_neg d6900]; exact n6801
  have n6982 : sL S6848 q3745 = 200 := by rw [eS6848, lNw, if_neg d6902]; exact n6802
  have n6983 : sL S6848 q3992 = 10 := by rw [eS6848, lNw, if_neg d6904]; exact n6803
  have n6984 : sL S6848 q4246 = 10 := by rw [eS6848, lNw, if_neg d6906]; exact n6804
  have n6985 : sL S6848 q4507 = 10 := by rw [eS6848, lNw, if_neg d6908]; exact n6805
  have n6986 : sL S6848 q4775 = 5 := by rw [eS6848, lNw, if_neg d6910]; exact n6806
  have n6987 : sL S6848 q5050 = 5 := by rw [eS6848, lNw, if_neg d6912]; exact n6807
  have n6988 : sL S6848 q5332 = 5 := by rw [eS6848, lNw, if_neg d6914]; exact n6808
  have n6989 : sL S6848 q5621 = 5 := by rw [eS6848, lNw, if_neg d6916]; exact n6809
  have n6990 : sL S6848 q5917 = 8 := by rw [eS6848, lNw, if_neg d6918]; exact n6810
  have n6991 : sL S6848 q6220 = 8 := by rw [eS6848, lNw, if_neg d6920]; exact n6811
  have n6992 : sL S6848 q6530 = 8 := by rw [eS6848, lNw, if_neg d6922]; exact n6812
  have w6993 : sI S6848 h 1 = 0 := by rw [eS6848, iN, if_neg d6852]; exact w6813
  have w6994 : sI S6848 h 2 = 0 := by rw [eS6848, iN, if_neg d6852]; exact w6814
  have w6995 : sI S6848 h 3 = 0 := by rw [eS6848, iN, if_neg d6852]; exact w6815
  have w6996 : sI S6848 h 4 = 0 := by rw [eS6848, iN, if_neg d6852]; exact w6816
  have w6997 : sI S6848 h 11 = 0 := by rw [eS6848, iN, if_neg d6852]; exact w6817
  have w6998 : sI S6848 h 12 = 0 := by rw [eS6848, iN, if_neg d6852]; exact w6818
  have w6999 : sI S6848 h 13 = 0 := by rw [eS6848, iN, if_neg d6852]; exact w6819
  have w7000 : sI S6848 h 14 = 0 := by rw [eS6848, iN, if_neg d6852]; exact w6820
  have w7001 : sI S6848 h 15 = 0 := by rw [eS6848, iN, if_neg d6852]; exact w6821
  have w7002 : sI S6848 h 16 = 0 := by rw [eS6848, iN, if_neg d6852]; exact w6822
  have w7003 : sI S6848 h 17 = 0 := by rw [eS6848, iN, if_neg d6852]; exact w6823
  have w7004 : sI S6848 h 18 = 0 := by rw [eS6848, iN, if_neg d6852]; exact w6824
  have w7005 : sI S6848 h 20 = 0 := by rw [eS6848, iN, if_neg d6852]; exact w6825
  have w7006 : sI S6848 h 21 = 0 := by rw [eS6848, iN, if_neg d6852]; exact w6826
  have w7007 : sI S6848 h 22 = 0 := by rw [eS6848, iN, if_neg d6852]; exact w6827
  have w7008 : sI S6848 h 35 = 0 := by rw [eS6848, iN, if_neg d6852]; exact w6828
  have w7009 : sI S6848 h 36 = 0 := by rw [eS6848, iN, if_neg d6852]; exact w6829
  have w7010 : sI S6848 h 53 = 0 := by rw [eS6848, iN, if_neg d6852]; exact w6830
  have w7011 : sI S6848 h 54 = 0 := by rw [eS6848, iN, if_neg d6852]; exact w6831
  have w7012 : sI S6848 h 55 = 0 := by rw [eS6848, iN, if_neg d6852]; exact w6832
  have w7013 : sI S6848 h 60 = 0 := by rw [eS6848, iN, if_neg d6852]; exact w6833
  have w7014 : sI S6848 h 19 = 200 := by rw [eS6848, iN, if_neg d6852]; exact w6834
  have w7015 : sI S6848 h 23 = 400 := by rw [eS6848, iN, if_neg d6852]; exact w6835
  have w7016 : sI S6848 h 24 = 3 := by rw [eS6848, iN, if_neg d6852]; exact w6836
  have w7017 : sI S6848 h 25 = 2 := by rw [eS6848, iN, if_neg d6852]; exact w6837
  have w7018 : ∀ j, j < 2 → sI S6848 q801 j = 0 := fun j hj => by rw [eS6848, iN, if_neg d6870]; exact w6838 j hj 
  have w7019 : ∀ j, j < 2 → sI S6848 q922 j = 0 := fun j hj => by rw [eS6848, iN, if_neg d6872]; exact w6839 j hj 
  have w7020 : ∀ j, j < 2 → sI S6848 q1052 j = 0 := fun j hj => by rw [eS6848, iN, if_neg d6874]; exact w6840 j hj 
  have w7021 : ∀ j, j < 2 → sI S6848 q1191 j = 0 := fun j hj => by rw [eS6848, iN, if_neg d6876]; exact w6841 j hj 
  have w7022 : ∀ j, j < 2 → sI S6848 q1339 j = 0 := fun j hj => by rw [eS6848, iN, if_neg d6878]; exact w6842 j hj 
  have w7023 : ∀ j, j < 2 → sI S6848 q1496 j = 0 := fun j hj => by rw [eS6848, iN, if_neg d6880]; exact w6843 j hj 
  have w7024 : ∀ j, j < 2 → sI S6848 q1662 j = 0 := fun j hj => by rw [eS6848, iN, if_neg d6882]; exact w6844 j hj 
  have w7025 : ∀ j, j < 2 → sI S6848 q1837 j = 0 := fun j hj => by rw [eS6848, iN, if_neg d6884]; exact w6845 j hj 
  have k7026 : sK S6848 q6847 = 11 := by rw [eS6848, kN, if_pos rfl]
  have n7027 : sL S6848 q6847 = 8 := by rw [eS6848, lNw, if_pos rfl]
  clear k6708 k6709 k6710 k6711 k6712 k6713 k6714 k6715 k6716 k6717 k6718 k6719 k6720 k6721 k6722 k6723 k6724 k6725 k6726 k6727 k6728 k6729 k6730 k6731 k6732 k6733 k6734 k6735 k6736 k6737 k6738 k6739 k6740 k6741 k6742 k6743 r6744 r6745 r6746 r6747 r6748 r6749 r6750 r6751 r6752 r6753 r6754 r6755 r6756 r6757 r6758 r6759 r6760 r6761 r6762 r6763 r6764 r6765 r6766 r6767 r6768 r6769 r6770 r6771 r6772 r6773 r6774 r6775 r6776 r6777 r6846 n6778 n6779 n6780 n6781 n6782 n6783 n6784 n6785 n6786 n6787 n6788 n6789 n6790 n6791 n6792 n6793 n6794 n6795 n6796 n6797 n6798 n6799 n6800 n6801 n6802 n6803 n6804 n6805 n6806 n6807 n6808 n6809 n6810 n6811 n6812 w6813 w6814 w6815 w6816 w6817 w6818 w6819 w6820 w6821 w6822 w6823 w6824 w6825 w6826 w6827 w6828 w6829 w6830 w6831 w6832 w6833 w6834 w6835 w6836 w6837 w6838 w6839 w6840 w6841 w6842 w6843 w6844 w6845
  refine pg_pr (ci := 9) (C := RX9) (T := TX9) (N := 63) hx hb hts wi9 tyX9 tyX9_ok nmX9 hown hK hW hS k6851 (by decide) rfl 59 (by decide) (hts (.fieldLink RX9 130 "IceHallModel" "told" "[I") (by decide +kernel)) (fun _ h9 => h9) rfl hnm rfl rfl rfl rfl dX9_init_310 (fun H locs hW hS => ?_)
  have hX : Kx [h] S (stR S6848 h 59 (some q6847)) := hX.Rh List.mem_cons_self
  obtain ⟨S7028, eS7028⟩ : ∃ T : St, T = stR S6848 h 59 (some q6847) := ⟨_, rfl⟩
  rw [← eS7028] at hW hX
  have k7029 : sK S7028 h = 9 := by rw [eS7028]; exact k6851
  have k7030 : sK S7028 q1 = 10 := by rw [eS7028]; exact k6853
  have k7031 : sK S7028 q64 = 11 := by rw [eS7028]; exact k6855
  have k7032 : sK S7028 q134 = 11 := by rw [eS7028]; exact k6857
  have k7033 : sK S7028 q211 = 11 := by rw [eS7028]; exact k6859
  have k7034 : sK S7028 q295 = 11 := by rw [eS7028]; exact k6861
  have k7035 : sK S7028 q386 = 11 := by rw [eS7028]; exact k6863
  have k7036 : sK S7028 q484 = 11 := by rw [eS7028]; exact k6865
  have k7037 : sK S7028 q689 = 11 := by rw [eS7028]; exact k6867
  have k7038 : sK S7028 q801 = 11 := by rw [eS7028]; exact k6869
  have k7039 : sK S7028 q922 = 11 := by rw [eS7028]; exact k6871
  have k7040 : sK S7028 q1052 = 11 := by rw [eS7028]; exact k6873
  have k7041 : sK S7028 q1191 = 11 := by rw [eS7028]; exact k6875
  have k7042 : sK S7028 q1339 = 11 := by rw [eS7028]; exact k6877
  have k7043 : sK S7028 q1496 = 11 := by rw [eS7028]; exact k6879
  have k7044 : sK S7028 q1662 = 11 := by rw [eS7028]; exact k6881
  have k7045 : sK S7028 q1837 = 13 := by rw [eS7028]; exact k6883
  have k7046 : sK S7028 q2021 = 11 := by rw [eS7028]; exact k6885
  have k7047 : sK S7028 q2212 = 11 := by rw [eS7028]; exact k6887
  have k7048 : sK S7028 q2410 = 11 := by rw [eS7028]; exact k6889
  have k7049 : sK S7028 q2615 = 11 := by rw [eS7028]; exact k6891
  have k7050 : sK S7028 q2827 = 11 := by rw [eS7028]; exact k6893
  have k7051 : sK S7028 q3046 = 11 := by rw [eS7028]; exact k6895
  have k7052 : sK S7028 q3272 = 11 := by rw [eS7028]; exact k6897
  have k7053 : sK S7028 q3505 = 11 := by rw [eS7028]; exact k6899
  have k7054 : sK S7028 q3745 = 11 := by rw [eS7028]; exact k6901
  have k7055 : sK S7028 q3992 = 11 := by rw [eS7028]; exact k6903
  have k7056 : sK S7028 q4246 = 11 := by rw [eS7028]; exact k6905
  have k7057 : sK S7028 q4507 = 11 := by rw [eS7028]; exact k6907
  have k7058 : sK S7028 q4775 = 11 := by rw [eS7028]; exact k6909
  have k7059 : sK S7028 q5050 = 11 := by rw [eS7028]; exact k6911
  have k7060 : sK S7028 q5332 = 11 := by rw [eS7028]; exact k6913
  have k7061 : sK S7028 q5621 = 11 := by rw [eS7028]; exact k6915
  have k7062 : sK S7028 q5917 = 11 := by rw [eS7028]; exact k6917
  have k7063 : sK S7028 q6220 = 11 := by rw [eS7028]; exact k6919
  have k7064 : sK S7028 q6530 = 11 := by rw [eS7028]; exact k6921
  have k7065 : sK S7028 q6847 = 11 := by rw [eS7028]; exact k7026
  have r7066 : sR S7028 h 0 = some q1 := by rw [eS7028, rR, if_pos rfl, if_neg (by decide)]; exact r6923
  have r7067 : sR S7028 h 5 = some q64 := by rw [eS7028, rR, if_pos rfl, if_neg (by decide)]; exact r6924
  have r7068 : sR S7028 h 6 = some q134 := by rw [eS7028, rR, if_pos rfl, if_neg (by decide)]; exact r6925
  have r7069 : sR S7028 h 7 = some q211 := by rw [eS7028, rR, if_pos rfl, if_neg (by decide)]; exact r6926
  have r7070 : sR S7028 h 8 = some q295 := by rw [eS7028, rR, if_pos rfl, if_neg (by decide)]; exact r6927
  have r7071 : sR S7028 h 9 = some q386 := by rw [eS7028, rR, if_pos rfl, if_neg (by decide)]; exact r6928
  have r7072 : sR S7028 h 10 = some q484 := by rw [eS7028, rR, if_pos rfl, if_neg (by decide)]; exact r6929
  have r7073 : sR S7028 h 26 = some q689 := by rw [eS7028, rR, if_pos rfl, if_neg (by decide)]; exact r6930
  have r7074 : sR S7028 h 27 = some q801 := by rw [eS7028, rR, if_pos rfl, if_neg (by decide)]; exact r6931
  have r7075 : sR S7028 h 28 = some q922 := by rw [eS7028, rR, if_pos rfl, if_neg (by decide)]; exact r6932
  have r7076 : sR S7028 h 29 = some q1052 := by rw [eS7028, rR, if_pos rfl, if_neg (by decide)]; exact r6933
  have r7077 : sR S7028 h 30 = some q1191 := by rw [eS7028, rR, if_pos rfl, if_neg (by decide)]; exact r6934
  have r7078 : sR S7028 h 31 = some q1339 := by rw [eS7028, rR, if_pos rfl, if_neg (by decide)]; exact r6935
  have r7079 : sR S7028 h 32 = some q1496 := by rw [eS7028, rR, if_pos rfl, if_neg (by decide)]; exact r6936
  have r7080 : sR S7028 h 33 = some q1662 := by rw [eS7028, rR, if_pos rfl, if_neg (by decide)]; exact r6937
  have r7081 : sR S7028 h 34 = some q1837 := by rw [eS7028, rR, if_pos rfl, if_neg (by decide)]; exact r6938
  have r7082 : sR S7028 h 37 = some q2021 := by rw [eS7028, rR, if_pos rfl, if_neg (by decide)]; exact r6939
  have r7083 : sR S7028 h 38 = some q2212 := by rw [eS7028, rR, if_pos rfl, if_neg (by decide)]; exact r6940
  have r7084 : sR S7028 h 39 = some q2410 := by rw [eS7028, rR, if_pos rfl, if_neg (by decide)]; exact r6941
  have r7085 : sR S7028 h 40 = some q2615 := by rw [eS7028, rR, if_pos rfl, if_neg (by decide)]; exact r6942
  have r7086 : sR S7028 h 41 = some q2827 := by rw [eS7028, rR, if_pos rfl, if_neg (by decide)]; exact r6943
  have r7087 : sR S7028 h 42 = some q3046 := by rw [eS7028, rR, if_pos rfl, if_neg (by decide)]; exact r6944
  have r7088 : sR S7028 h 43 = some q3272 := by rw [eS7028, rR, if_pos rfl, if_neg (by decide)]; exact r6945
  have r7089 : sR S7028 h 44 = some q3505 := by rw [eS7028, rR, if_pos rfl, if_neg (by decide)]; exact r6946
  have r7090 : sR S7028 h 45 = some q3745 := by rw [eS7028, rR, if_pos rfl, if_neg (by decide)]; exact r6947
  have r7091 : sR S7028 h 46 = some q3992 := by rw [eS7028, rR, if_pos rfl, if_neg (by decide)]; exact r6948
  have r7092 : sR S7028 h 47 = some q4246 := by rw [eS7028, rR, if_pos rfl, if_neg (by decide)]; exact r6949
  have r7093 : sR S7028 h 48 = some q4507 := by rw [eS7028, rR, if_pos rfl, if_neg (by decide)]; exact r6950
  have r7094 : sR S7028 h 49 = some q4775 := by rw [eS7028, rR, if_pos rfl, if_neg (by decide)]; exact r6951
  have r7095 : sR S7028 h 50 = some q5050 := by rw [eS7028, rR, if_pos rfl, if_neg (by decide)]; exact r6952
  have r7096 : sR S7028 h 51 = some q5332 := by rw [eS7028, rR, if_pos rfl, if_neg (by decide)]; exact r6953
  have r7097 : sR S7028 h 52 = some q5621 := by rw [eS7028, rR, if_pos rfl, if_neg (by decide)]; exact r6954
  have r7098 : sR S7028 h 56 = some q5917 := by rw [eS7028, rR, if_pos rfl, if_neg (by decide)]; exact r6955
  have r7099 : sR S7028 h 57 = some q6220 := by rw [eS7028, rR, if_pos rfl, if_neg (by decide)]; exact r6956
  have r7100 : sR S7028 h 58 = some q6530 := by rw [eS7028, rR, if_pos rfl, if_neg (by decide)]; exact r6957
  have n7101 : sL S7028 q1 = 80 := by rw [eS7028]; exact n6958
  have n7102 : sL S7028 q64 = 6 := by rw [eS7028]; exact n6959
  have n7103 : sL S7028 q134 = 6 := by rw [eS7028]; exact n6960
  have n7104 : sL S7028 q211 = 6 := by rw [eS7028]; exact n6961
  have n7105 : sL S7028 q295 = 6 := by rw [eS7028]; exact n6962
  have n7106 : sL S7028 q386 = 6 := by rw [eS7028]; exact n6963
  have n7107 : sL S7028 q484 = 6 := by rw [eS7028]; exact n6964
  have n7108 : sL S7028 q689 = 24 := by rw [eS7028]; exact n6965
  have n7109 : sL S7028 q801 = 2 := by rw [eS7028]; exact n6966
  have n7110 : sL S7028 q922 = 2 := by rw [eS7028]; exact n6967
  have n7111 : sL S7028 q1052 = 2 := by rw [eS7028]; exact n6968
  have n7112 : sL S7028 q1191 = 2 := by rw [eS7028]; exact n6969
  have n7113 : sL S7028 q1339 = 2 := by rw [eS7028]; exact n6970
  have n7114 : sL S7028 q1496 = 2 := by rw [eS7028]; exact n6971
  have n7115 : sL S7028 q1662 = 2 := by rw [eS7028]; exact n6972
  have n7116 : sL S7028 q1837 = 2 := by rw [eS7028]; exact n6973
  have n7117 : sL S7028 q2021 = 200 := by rw [eS7028]; exact n6974
  have n7118 : sL S7028 q2212 = 200 := by rw [eS7028]; exact n6975
  have n7119 : sL S7028 q2410 = 200 := by rw [eS7028]; exact n6976
  have n7120 : sL S7028 q2615 = 200 := by rw [eS7028]; exact n6977
  have n7121 : sL S7028 q2827 = 200 := by rw [eS7028]; exact n6978
  have n7122 : sL S7028 q3046 = 200 := by rw [eS7028]; exact n6979
  have n7123 : sL S7028 q3272 = 200 := by rw [eS7028]; exact n6980
  have n7124 : sL S7028 q3505 = 200 := by rw [eS7028]; exact n6981
  have n7125 : sL S7028 q3745 = 200 := by rw [eS7028]; exact n6982
  have n7126 : sL S7028 q3992 = 10 := by rw [eS7028]; exact n6983
  have n7127 : sL S7028 q4246 = 10 := by rw [eS7028]; exact n6984
  have n7128 : sL S7028 q4507 = 10 := by rw [eS7028]; exact n6985
  have n7129 : sL S7028 q4775 = 5 := by rw [eS7028]; exact n6986
  have n7130 : sL S7028 q5050 = 5 := by rw [eS7028]; exact n6987
  have n7131 : sL S7028 q5332 = 5 := by rw [eS7028]; exact n6988
  have n7132 : sL S7028 q5621 = 5 := by rw [eS7028]; exact n6989
  have n7133 : sL S7028 q5917 = 8 := by rw [eS7028]; exact n6990
  have n7134 : sL S7028 q6220 = 8 := by rw [eS7028]; exact n6991
  have n7135 : sL S7028 q6530 = 8 := by rw [eS7028]; exact n6992
  have n7136 : sL S7028 q6847 = 8 := by rw [eS7028]; exact n7027
  have w7137 : sI S7028 h 1 = 0 := by rw [eS7028]; exact w6993
  have w7138 : sI S7028 h 2 = 0 := by rw [eS7028]; exact w6994
  have w7139 : sI S7028 h 3 = 0 := by rw [eS7028]; exact w6995
  have w7140 : sI S7028 h 4 = 0 := by rw [eS7028]; exact w6996
  have w7141 : sI S7028 h 11 = 0 := by rw [eS7028]; exact w6997
  have w7142 : sI S7028 h 12 = 0 := by rw [eS7028]; exact w6998
  have w7143 : sI S7028 h 13 = 0 := by rw [eS7028]; exact w6999
  have w7144 : sI S7028 h 14 = 0 := by rw [eS7028]; exact w7000
  have w7145 : sI S7028 h 15 = 0 := by rw [eS7028]; exact w7001
  have w7146 : sI S7028 h 16 = 0 := by rw [eS7028]; exact w7002
  have w7147 : sI S7028 h 17 = 0 := by rw [eS7028]; exact w7003
  have w7148 : sI S7028 h 18 = 0 := by rw [eS7028]; exact w7004
  have w7149 : sI S7028 h 20 = 0 := by rw [eS7028]; exact w7005
  have w7150 : sI S7028 h 21 = 0 := by rw [eS7028]; exact w7006
  have w7151 : sI S7028 h 22 = 0 := by rw [eS7028]; exact w7007
  have w7152 : sI S7028 h 35 = 0 := by rw [eS7028]; exact w7008
  have w7153 : sI S7028 h 36 = 0 := by rw [eS7028]; exact w7009
  have w7154 : sI S7028 h 53 = 0 := by rw [eS7028]; exact w7010
  have w7155 : sI S7028 h 54 = 0 := by rw [eS7028]; exact w7011
  have w7156 : sI S7028 h 55 = 0 := by rw [eS7028]; exact w7012
  have w7157 : sI S7028 h 60 = 0 := by rw [eS7028]; exact w7013
  have w7158 : sI S7028 h 19 = 200 := by rw [eS7028]; exact w7014
  have w7159 : sI S7028 h 23 = 400 := by rw [eS7028]; exact w7015
  have w7160 : sI S7028 h 24 = 3 := by rw [eS7028]; exact w7016
  have w7161 : sI S7028 h 25 = 2 := by rw [eS7028]; exact w7017
  have w7162 : ∀ j, j < 2 → sI S7028 q801 j = 0 := fun j hj => by rw [eS7028]; exact w7018 j hj 
  have w7163 : ∀ j, j < 2 → sI S7028 q922 j = 0 := fun j hj => by rw [eS7028]; exact w7019 j hj 
  have w7164 : ∀ j, j < 2 → sI S7028 q1052 j = 0 := fun j hj => by rw [eS7028]; exact w7020 j hj 
  have w7165 : ∀ j, j < 2 → sI S7028 q1191 j = 0 := fun j hj => by rw [eS7028]; exact w7021 j hj 
  have w7166 : ∀ j, j < 2 → sI S7028 q1339 j = 0 := fun j hj => by rw [eS7028]; exact w7022 j hj 
  have w7167 : ∀ j, j < 2 → sI S7028 q1496 j = 0 := fun j hj => by rw [eS7028]; exact w7023 j hj 
  have w7168 : ∀ j, j < 2 → sI S7028 q1662 j = 0 := fun j hj => by rw [eS7028]; exact w7024 j hj 
  have w7169 : ∀ j, j < 2 → sI S7028 q1837 j = 0 := fun j hj => by rw [eS7028]; exact w7025 j hj 
  have r7170 : sR S7028 h 59 = some q6847 := by rw [eS7028, rR, if_pos rfl, if_pos rfl]
  clear k6851 k6853 k6855 k6857 k6859 k6861 k6863 k6865 k6867 k6869 k6871 k6873 k6875 k6877 k6879 k6881 k6883 k6885 k6887 k6889 k6891 k6893 k6895 k6897 k6899 k6901 k6903 k6905 k6907 k6909 k6911 k6913 k6915 k6917 k6919 k6921 k7026 r6923 r6924 r6925 r6926 r6927 r6928 r6929 r6930 r6931 r6932 r6933 r6934 r6935 r6936 r6937 r6938 r6939 r6940 r6941 r6942 r6943 r6944 r6945 r6946 r6947 r6948 r6949 r6950 r6951 r6952 r6953 r6954 r6955 r6956 r6957 n6958 n6959 n6960 n6961 n6962 n6963 n6964 n6965 n6966 n6967 n6968 n6969 n6970 n6971 n6972 n6973 n6974 n6975 n6976 n6977 n6978 n6979 n6980 n6981 n6982 n6983 n6984 n6985 n6986 n6987 n6988 n6989 n6990 n6991 n6992 n7027 w6993 w6994 w6995 w6996 w6997 w6998 w6999 w7000 w7001 w7002 w7003 w7004 w7005 w7006 w7007 w7008 w7009 w7010 w7011 w7012 w7013 w7014 w7015 w7016 w7017 w7018 w7019 w7020 w7021 w7022 w7023 w7024 w7025
  refine lv_aload_n hx hb dX9_init_313 rfl (lv_at hl 0 rfl) ?_
  refine lv_bipush (v := 6) hx hb dX9_init_314 (by decide) ?_
  refine pg_newa (atype := .int) (ty := .int) (kd := 11) (t0 := 1) (N' := 6) hx hb (hts (.arrayClass .int) (by decide +kernel)) rfl rfl (Or.inl rfl) (by decide) hK hW hS hA (fun _ => rfl) (by decide) (by decide) (Nat.le_of_ble_eq_true rfl) (Nat.le_of_ble_eq_true rfl) (Nat.le_of_ble_eq_true rfl) dX9_init_316 (fun q7171 H hq7171 hW hS => ?_)
  have f7173 : Ap h q7171 := ap_k k7029 hq7171 (by decide)
  have o7174 : 16 ≤ sK S q7171 := hX.old hq7171 (ni_c (ap_s f7173) ni_0)
  have hX : Kx [h] S (stN S7028 q7171 11 6) := hX.N hq7171
  obtain ⟨S7172, eS7172⟩ : ∃ T : St, T = stN S7028 q7171 11 6 := ⟨_, rfl⟩
  rw [← eS7172] at hW hX
  obtain ⟨k7175, d7176⟩ := fk_N (a := h) eS7172 k7029 (by decide) hq7171
  obtain ⟨k7177, d7178⟩ := fk_N (a := q1) eS7172 k7030 (by decide) hq7171
  obtain ⟨k7179, d7180⟩ := fk_N (a := q64) eS7172 k7031 (by decide) hq7171
  obtain ⟨k7181, d7182⟩ := fk_N (a := q134) eS7172 k7032 (by decide) hq7171
  obtain ⟨k7183, d7184⟩ := fk_N (a := q211) eS7172 k7033 (by decide) hq7171
  obtain ⟨k7185, d7186⟩ := fk_N (a := q295) eS7172 k7034 (by decide) hq7171
  obtain ⟨k7187, d7188⟩ := fk_N (a := q386) eS7172 k7035 (by decide) hq7171
  obtain ⟨k7189, d7190⟩ := fk_N (a := q484) eS7172 k7036 (by decide) hq7171
  obtain ⟨k7191, d7192⟩ := fk_N (a := q689) eS7172 k7037 (by decide) hq7171
  obtain ⟨k7193, d7194⟩ := fk_N (a := q801) eS7172 k7038 (by decide) hq7171
  obtain ⟨k7195, d7196⟩ := fk_N (a := q922) eS7172 k7039 (by decide) hq7171
  obtain ⟨k7197, d7198⟩ := fk_N (a := q1052) eS7172 k7040 (by decide) hq7171
  obtain ⟨k7199, d7200⟩ := fk_N (a := q1191) eS7172 k7041 (by decide) hq7171
  obtain ⟨k7201, d7202⟩ := fk_N (a := q1339) eS7172 k7042 (by decide) hq7171
  obtain ⟨k7203, d7204⟩ := fk_N (a := q1496) eS7172 k7043 (by decide) hq7171
  obtain ⟨k7205, d7206⟩ := fk_N (a := q1662) eS7172 k7044 (by decide) hq7171
  obtain ⟨k7207, d7208⟩ := fk_N (a := q1837) eS7172 k7045 (by decide) hq7171
  obtain ⟨k7209, d7210⟩ := fk_N (a := q2021) eS7172 k7046 (by decide) hq7171
  obtain ⟨k7211, d7212⟩ := fk_N (a := q2212) eS7172 k7047 (by decide) hq7171
  obtain ⟨k7213, d7214⟩ := fk_N (a := q2410) eS7172 k7048 (by decide) hq7171
  obtain ⟨k7215, d7216⟩ := fk_N (a := q2615) eS7172 k7049 (by decide) hq7171
  obtain ⟨k7217, d7218⟩ := fk_N (a := q2827) eS7172 k7050 (by decide) hq7171
  obtain ⟨k7219, d7220⟩ := fk_N (a := q3046) eS7172 k7051 (by decide) hq7171
  obtain ⟨k7221, d7222⟩ := fk_N (a := q3272) eS7172 k7052 (by decide) hq7171
  obtain ⟨k7223, d7224⟩ := fk_N (a := q3505) eS7172 k7053 (by decide) hq7171
  obtain ⟨k7225, d7226⟩ := fk_N (a := q3745) eS7172 k7054 (by decide) hq7171
  obtain ⟨k7227, d7228⟩ := fk_N (a := q3992) eS7172 k7055 (by decide) hq7171
  obtain ⟨k7229, d7230⟩ := fk_N (a := q4246) eS7172 k7056 (by decide) hq7171
  obtain ⟨k7231, d7232⟩ := fk_N (a := q4507) eS7172 k7057 (by decide) hq7171
  obtain ⟨k7233, d7234⟩ := fk_N (a := q4775) eS7172 k7058 (by decide) hq7171
  obtain ⟨k7235, d7236⟩ := fk_N (a := q5050) eS7172 k7059 (by decide) hq7171
  obtain ⟨k7237, d7238⟩ := fk_N (a := q5332) eS7172 k7060 (by decide) hq7171
  obtain ⟨k7239, d7240⟩ := fk_N (a := q5621) eS7172 k7061 (by decide) hq7171
  obtain ⟨k7241, d7242⟩ := fk_N (a := q5917) eS7172 k7062 (by decide) hq7171
  obtain ⟨k7243, d7244⟩ := fk_N (a := q6220) eS7172 k7063 (by decide) hq7171
  obtain ⟨k7245, d7246⟩ := fk_N (a := q6530) eS7172 k7064 (by decide) hq7171
  obtain ⟨k7247, d7248⟩ := fk_N (a := q6847) eS7172 k7065 (by decide) hq7171
  have r7249 : sR S7172 h 0 = some q1 := by rw [eS7172, rN, if_neg d7176]; exact r7066
  have r7250 : sR S7172 h 5 = some q64 := by rw [eS7172, rN, if_neg d7176]; exact r7067
  have r7251 : sR S7172 h 6 = some q134 := by rw [eS7172, rN, if_neg d7176]; exact r7068
  have r7252 : sR S7172 h 7 = some q211 := by rw [eS7172, rN, if_neg d7176]; exact r7069
  have r7253 : sR S7172 h 8 = some q295 := by rw [eS7172, rN, if_neg d7176]; exact r7070
  have r7254 : sR S7172 h 9 = some q386 := by rw [eS7172, rN, if_neg d7176]; exact r7071
  have r7255 : sR S7172 h 10 = some q484 := by rw [eS7172, rN, if_neg d7176]; exact r7072
  have r7256 : sR S7172 h 26 = some q689 := by rw [eS7172, rN, if_neg d7176]; exact r7073
  have r7257 : sR S7172 h 27 = some q801 := by rw [eS7172, rN, if_neg d7176]; exact r7074
  have r7258 : sR S7172 h 28 = some q922 := by rw [eS7172, rN, if_neg d7176]; exact r7075
  have r7259 : sR S7172 h 29 = some q1052 := by rw [eS7172, rN, if_neg d7176]; exact r7076
  have r7260 : sR S7172 h 30 = some q1191 := by rw [eS7172, rN, if_neg d7176]; exact r7077
  have r7261 : sR S7172 h 31 = some q1339 := by rw [eS7172, rN, if_neg d7176]; exact r7078
  have r7262 : sR S7172 h 32 = some q1496 := by rw [eS7172, rN, if_neg d7176]; exact r7079
  have r7263 : sR S7172 h 33 = some q1662 := by rw [eS7172, rN, if_neg d7176]; exact r7080
  have r7264 : sR S7172 h 34 = some q1837 := by rw [eS7172, rN, if_neg d7176]; exact r7081
  have r7265 : sR S7172 h 37 = some q2021 := by rw [eS7172, rN, if_neg d7176]; exact r7082
  have r7266 : sR S7172 h 38 = some q2212 := by rw [eS7172, rN, if_neg d7176]; exact r7083
  have r7267 : sR S7172 h 39 = some q2410 := by rw [eS7172, rN, if_neg d7176]; exact r7084
  have r7268 : sR S7172 h 40 = some q2615 := by rw [eS7172, rN, if_neg d7176]; exact r7085
  have r7269 : sR S7172 h 41 = some q2827 := by rw [eS7172, rN, if_neg d7176]; exact r7086
  have r7270 : sR S7172 h 42 = some q3046 := by rw [eS7172, rN, if_neg d7176]; exact r7087
  have r7271 : sR S7172 h 43 = some q3272 := by rw [eS7172, rN, if_neg d7176]; exact r7088
  have r7272 : sR S7172 h 44 = some q3505 := by rw [eS7172, rN, if_neg d7176]; exact r7089
  have r7273 : sR S7172 h 45 = some q3745 := by rw [eS7172, rN, if_neg d7176]; exact r7090
  have r7274 : sR S7172 h 46 = some q3992 := by rw [eS7172, rN, if_neg d7176]; exact r7091
  have r7275 : sR S7172 h 47 = some q4246 := by rw [eS7172, rN, if_neg d7176]; exact r7092
  have r7276 : sR S7172 h 48 = some q4507 := by rw [eS7172, rN, if_neg d7176]; exact r7093
  have r7277 : sR S7172 h 49 = some q4775 := by rw [eS7172, rN, if_neg d7176]; exact r7094
  have r7278 : sR S7172 h 50 = some q5050 := by rw [eS7172, rN, if_neg d7176]; exact r7095
  have r7279 : sR S7172 h 51 = some q5332 := by rw [eS7172, rN, if_neg d7176]; exact r7096
  have r7280 : sR S7172 h 52 = some q5621 := by rw [eS7172, rN, if_neg d7176]; exact r7097
  have r7281 : sR S7172 h 56 = some q5917 := by rw [eS7172, rN, if_neg d7176]; exact r7098
  have r7282 : sR S7172 h 57 = some q6220 := by rw [eS7172, rN, if_neg d7176]; exact r7099
  have r7283 : sR S7172 h 58 = some q6530 := by rw [eS7172, rN, if_neg d7176]; exact r7100
  have r7284 : sR S7172 h 59 = some q6847 := by rw [eS7172, rN, if_neg d7176]; exact r7170
  have n7285 : sL S7172 q1 = 80 := by rw [eS7172, lNw, if_neg d7178]; exact n7101
  have n7286 : sL S7172 q64 = 6 := by rw [eS7172, lNw, if_neg d7180]; exact n7102
  have n7287 : sL S7172 q134 = 6 := by rw [eS7172, lNw, if_neg d7182]; exact n7103
  have n7288 : sL S7172 q211 = 6 := by rw [eS7172, lNw, if_neg d7184]; exact n7104
  have n7289 : sL S7172 q295 = 6 := by rw [eS7172, lNw, if_neg d7186]; exact n7105
  have n7290 : sL S7172 q386 = 6 := by rw [eS7172, lNw, if_neg d7188]; exact n7106
  have n7291 : sL S7172 q484 = 6 := by rw [eS7172, lNw, if_neg d7190]; exact n7107
  have n7292 : sL S7172 q689 = 24 := by rw [eS7172, lNw, if_neg d7192]; exact n7108
  have n7293 : sL S7172 q801 = 2 := by rw [eS7172, lNw, if_neg d7194]; exact n7109
  have n7294 : sL S7172 q922 = 2 := by rw [eS7172, lNw, if_neg d7196]; exact n7110
  have n7295 : sL S7172 q1052 = 2 := by rw [eS7172, lNw, if_neg d7198]; exact n7111
  have n7296 : sL S7172 q1191 = 2 := by rw [eS7172, lNw, if_neg d7200]; exact n7112
  have n7297 : sL S7172 q1339 = 2 := by rw [eS7172, lNw, if_neg d7202]; exact n7113
  have n7298 : sL S7172 q1496 = 2 := by rw [eS7172, lNw, if_neg d7204]; exact n7114
  have n7299 : sL S7172 q1662 = 2 := by rw [eS7172, lNw, if_neg d7206]; exact n7115
  have n7300 : sL S7172 q1837 = 2 := by rw [eS7172, lNw, if_neg d7208]; exact n7116
  have n7301 : sL S7172 q2021 = 200 := by rw [eS7172, lNw, if_neg d7210]; exact n7117
  have n7302 : sL S7172 q2212 = 200 := by rw [eS7172, lNw, if_neg d7212]; exact n7118
  have n7303 : sL S7172 q2410 = 200 := by rw [eS7172, lNw, if_neg d7214]; exact n7119
  have n7304 : sL S7172 q2615 = 200 := by rw [eS7172, lNw, if_neg d7216]; exact n7120
  have n7305 : sL S7172 q2827 = 200 := by rw [eS7172, lNw, if_neg d7218]; exact n7121
  have n7306 : sL S7172 q3046 = 200 := by rw [eS7172, lNw, if_neg d7220]; exact n7122
  have n7307 : sL S7172 q3272 = 200 := by rw [eS7172, lNw, if_neg d7222]; exact n7123
  have n7308 : sL S7172 q3505 = 200 := by rw [eS7172, lNw, if_neg d7224]; exact n7124
  have n7309 : sL S7172 q3745 = 200 := by rw [eS7172, lNw, if_neg d7226]; exact n7125
  have n7310 : sL S7172 q3992 = 10 := by rw [eS7172, lNw, if_neg d7228]; exact n7126
  have n7311 : sL S7172 q4246 = 10 := by rw [eS7172, lNw, if_neg d7230]; exact n7127
  have n7312 : sL S7172 q4507 = 10 := by rw [eS7172, lNw, if_neg d7232]; exact n7128
  have n7313 : sL S7172 q4775 = 5 := by rw [eS7172, lNw, if_neg d7234]; exact n7129
  have n7314 : sL S7172 q5050 = 5 := by rw [eS7172, lNw, if_neg d7236]; exact n7130
  have n7315 : sL S7172 q5332 = 5 := by rw [eS7172, lNw, if_neg d7238]; exact n7131
  have n7316 : sL S7172 q5621 = 5 := by rw [eS7172, lNw, if_neg d7240]; exact n7132
  have n7317 : sL S7172 q5917 = 8 := by rw [eS7172, lNw, if_neg d7242]; exact n7133
  have n7318 : sL S7172 q6220 = 8 := by rw [eS7172, lNw, if_neg d7244]; exact n7134
  have n7319 : sL S7172 q6530 = 8 := by rw [eS7172, lNw, if_neg d7246]; exact n7135
  have n7320 : sL S7172 q6847 = 8 := by rw [eS7172, lNw, if_neg d7248]; exact n7136
  have w7321 : sI S7172 h 1 = 0 := by rw [eS7172, iN, if_neg d7176]; exact w7137
  have w7322 : sI S7172 h 2 = 0 := by rw [eS7172, iN, if_neg d7176]; exact w7138
  have w7323 : sI S7172 h 3 = 0 := by rw [eS7172, iN, if_neg d7176]; exact w7139
  have w7324 : sI S7172 h 4 = 0 := by rw [eS7172, iN, if_neg d7176]; exact w7140
  have w7325 : sI S7172 h 11 = 0 := by rw [eS7172, iN, if_neg d7176]; exact w7141
  have w7326 : sI S7172 h 12 = 0 := by rw [eS7172, iN, if_neg d7176]; exact w7142
  have w7327 : sI S7172 h 13 = 0 := by rw [eS7172, iN, if_neg d7176]; exact w7143
  have w7328 : sI S7172 h 14 = 0 := by rw [eS7172, iN, if_neg d7176]; exact w7144
  have w7329 : sI S7172 h 15 = 0 := by rw [eS7172, iN, if_neg d7176]; exact w7145
  have w7330 : sI S7172 h 16 = 0 := by rw [eS7172, iN, if_neg d7176]; exact w7146
  have w7331 : sI S7172 h 17 = 0 := by rw [eS7172, iN, if_neg d7176]; exact w7147
  have w7332 : sI S7172 h 18 = 0 := by rw [eS7172, iN, if_neg d7176]; exact w7148
  have w7333 : sI S7172 h 20 = 0 := by rw [eS7172, iN, if_neg d7176]; exact w7149
  have w7334 : sI S7172 h 21 = 0 := by rw [eS7172, iN, if_neg d7176]; exact w7150
  have w7335 : sI S7172 h 22 = 0 := by rw [eS7172, iN, if_neg d7176]; exact w7151
  have w7336 : sI S7172 h 35 = 0 := by rw [eS7172, iN, if_neg d7176]; exact w7152
  have w7337 : sI S7172 h 36 = 0 := by rw [eS7172, iN, if_neg d7176]; exact w7153
  have w7338 : sI S7172 h 53 = 0 := by rw [eS7172, iN, if_neg d7176]; exact w7154
  have w7339 : sI S7172 h 54 = 0 := by rw [eS7172, iN, if_neg d7176]; exact w7155
  have w7340 : sI S7172 h 55 = 0 := by rw [eS7172, iN, if_neg d7176]; exact w7156
  have w7341 : sI S7172 h 60 = 0 := by rw [eS7172, iN, if_neg d7176]; exact w7157
  have w7342 : sI S7172 h 19 = 200 := by rw [eS7172, iN, if_neg d7176]; exact w7158
  have w7343 : sI S7172 h 23 = 400 := by rw [eS7172, iN, if_neg d7176]; exact w7159
  have w7344 : sI S7172 h 24 = 3 := by rw [eS7172, iN, if_neg d7176]; exact w7160
  have w7345 : sI S7172 h 25 = 2 := by rw [eS7172, iN, if_neg d7176]; exact w7161
  have w7346 : ∀ j, j < 2 → sI S7172 q801 j = 0 := fun j hj => by rw [eS7172, iN, if_neg d7194]; exact w7162 j hj 
  have w7347 : ∀ j, j < 2 → sI S7172 q922 j = 0 := fun j hj => by rw [eS7172, iN, if_neg d7196]; exact w7163 j hj 
  have w7348 : ∀ j, j < 2 → sI S7172 q1052 j = 0 := fun j hj => by rw [eS7172, iN, if_neg d7198]; exact w7164 j hj 
  have w7349 : ∀ j, j < 2 → sI S7172 q1191 j = 0 := fun j hj => by rw [eS7172, iN, if_neg d7200]; exact w7165 j hj 
  have w7350 : ∀ j, j < 2 → sI S7172 q1339 j = 0 := fun j hj => by rw [eS7172, iN, if_neg d7202]; exact w7166 j hj 
  have w7351 : ∀ j, j < 2 → sI S7172 q1496 j = 0 := fun j hj => by rw [eS7172, iN, if_neg d7204]; exact w7167 j hj 
  have w7352 : ∀ j, j < 2 → sI S7172 q1662 j = 0 := fun j hj => by rw [eS7172, iN, if_neg d7206]; exact w7168 j hj 
  have w7353 : ∀ j, j < 2 → sI S7172 q1837 j = 0 := fun j hj => by rw [eS7172, iN, if_neg d7208]; exact w7169 j hj 
  have k7354 : sK S7172 q7171 = 11 := by rw [eS7172, kN, if_pos rfl]
  have n7355 : sL S7172 q7171 = 6 := by rw [eS7172, lNw, if_pos rfl]
  clear k7029 k7030 k7031 k7032 k7033 k7034 k7035 k7036 k7037 k7038 k7039 k7040 k7041 k7042 k7043 k7044 k7045 k7046 k7047 k7048 k7049 k7050 k7051 k7052 k7053 k7054 k7055 k7056 k7057 k7058 k7059 k7060 k7061 k7062 k7063 k7064 k7065 r7066 r7067 r7068 r7069 r7070 r7071 r7072 r7073 r7074 r7075 r7076 r7077 r7078 r7079 r7080 r7081 r7082 r7083 r7084 r7085 r7086 r7087 r7088 r7089 r7090 r7091 r7092 r7093 r7094 r7095 r7096 r7097 r7098 r7099 r7100 r7170 n7101 n7102 n7103 n7104 n7105 n7106 n7107 n7108 n7109 n7110 n7111 n7112 n7113 n7114 n7115 n7116 n7117 n7118 n7119 n7120 n7121 n7122 n7123 n7124 n7125 n7126 n7127 n7128 n7129 n7130 n7131 n7132 n7133 n7134 n7135 n7136 w7137 w7138 w7139 w7140 w7141 w7142 w7143 w7144 w7145 w7146 w7147 w7148 w7149 w7150 w7151 w7152 w7153 w7154 w7155 w7156 w7157 w7158 w7159 w7160 w7161 w7162 w7163 w7164 w7165 w7166 w7167 w7168 w7169
  refine pg_pr (ci := 9) (C := RX9) (T := TX9) (N := 63) hx hb hts wi9 tyX9 tyX9_ok nmX9 hown hK hW hS k7175 (by decide) rfl 61 (by decide) (hts (.fieldLink RX9 133 "IceHallModel" "share" "[I") (by decide +kernel)) (fun _ h9 => h9) rfl hnm rfl rfl rfl rfl dX9_init_318 (fun H locs hW hS => ?_)
  have hX : Kx [h] S (stR S7172 h 61 (some q7171)) := hX.Rh List.mem_cons_self
  obtain ⟨S7356, eS7356⟩ : ∃ T : St, T = stR S7172 h 61 (some q7171) := ⟨_, rfl⟩
  rw [← eS7356] at hW hX
  have k7357 : sK S7356 h = 9 := by rw [eS7356]; exact k7175
  have k7358 : sK S7356 q1 = 10 := by rw [eS7356]; exact k7177
  have k7359 : sK S7356 q64 = 11 := by rw [eS7356]; exact k7179
  have k7360 : sK S7356 q134 = 11 := by rw [eS7356]; exact k7181
  have k7361 : sK S7356 q211 = 11 := by rw [eS7356]; exact k7183
  have k7362 : sK S7356 q295 = 11 := by rw [eS7356]; exact k7185
  have k7363 : sK S7356 q386 = 11 := by rw [eS7356]; exact k7187
  have k7364 : sK S7356 q484 = 11 := by rw [eS7356]; exact k7189
  have k7365 : sK S7356 q689 = 11 := by rw [eS7356]; exact k7191
  have k7366 : sK S7356 q801 = 11 := by rw [eS7356]; exact k7193
  have k7367 : sK S7356 q922 = 11 := by rw [eS7356]; exact k7195
  have k7368 : sK S7356 q1052 = 11 := by rw [eS7356]; exact k7197
  have k7369 : sK S7356 q1191 = 11 := by rw [eS7356]; exact k7199
  have k7370 : sK S7356 q1339 = 11 := by rw [eS7356]; exact k7201
  have k7371 : sK S7356 q1496 = 11 := by rw [eS7356]; exact k7203
  have k7372 : sK S7356 q1662 = 11 := by rw [eS7356]; exact k7205
  have k7373 : sK S7356 q1837 = 13 := by rw [eS7356]; exact k7207
  have k7374 : sK S7356 q2021 = 11 := by rw [eS7356]; exact k7209
  have k7375 : sK S7356 q2212 = 11 := by rw [eS7356]; exact k7211
  have k7376 : sK S7356 q2410 = 11 := by rw [eS7356]; exact k7213
  have k7377 : sK S7356 q2615 = 11 := by rw [eS7356]; exact k7215
  have k7378 : sK S7356 q2827 = 11 := by rw [eS7356]; exact k7217
  have k7379 : sK S7356 q3046 = 11 := by rw [eS7356]; exact k7219
  have k7380 : sK S7356 q3272 = 11 := by rw [eS7356]; exact k7221
  have k7381 : sK S7356 q3505 = 11 := by rw [eS7356]; exact k7223
  have k7382 : sK S7356 q3745 = 11 := by rw [eS7356]; exact k7225
  have k7383 : sK S7356 q3992 = 11 := by rw [eS7356]; exact k7227
  have k7384 : sK S7356 q4246 = 11 := by rw [eS7356]; exact k7229
  have k7385 : sK S7356 q4507 = 11 := by rw [eS7356]; exact k7231
  have k7386 : sK S7356 q4775 = 11 := by rw [eS7356]; exact k7233
  have k7387 : sK S7356 q5050 = 11 := by rw [eS7356]; exact k7235
  have k7388 : sK S7356 q5332 = 11 := by rw [eS7356]; exact k7237
  have k7389 : sK S7356 q5621 = 11 := by rw [eS7356]; exact k7239
  have k7390 : sK S7356 q5917 = 11 := by rw [eS7356]; exact k7241
  have k7391 : sK S7356 q6220 = 11 := by rw [eS7356]; exact k7243
  have k7392 : sK S7356 q6530 = 11 := by rw [eS7356]; exact k7245
  have k7393 : sK S7356 q6847 = 11 := by rw [eS7356]; exact k7247
  have k7394 : sK S7356 q7171 = 11 := by rw [eS7356]; exact k7354
  have r7395 : sR S7356 h 0 = some q1 := by rw [eS7356, rR, if_pos rfl, if_neg (by decide)]; exact r7249
  have r7396 : sR S7356 h 5 = some q64 := by rw [eS7356, rR, if_pos rfl, if_neg (by decide)]; exact r7250
  have r7397 : sR S7356 h 6 = some q134 := by rw [eS7356, rR, if_pos rfl, if_neg (by decide)]; exact r7251
  have r7398 : sR S7356 h 7 = some q211 := by rw [eS7356, rR, if_pos rfl, if_neg (by decide)]; exact r7252
  have r7399 : sR S7356 h 8 = some q295 := by rw [eS7356, rR, if_pos rfl, if_neg (by decide)]; exact r7253
  have r7400 : sR S7356 h 9 = some q386 := by rw [eS7356, rR, if_pos rfl, if_neg (by decide)]; exact r7254
  have r7401 : sR S7356 h 10 = some q484 := by rw [eS7356, rR, if_pos rfl, if_neg (by decide)]; exact r7255
  have r7402 : sR S7356 h 26 = some q689 := by rw [eS7356, rR, if_pos rfl, if_neg (by decide)]; exact r7256
  have r7403 : sR S7356 h 27 = some q801 := by rw [eS7356, rR, if_pos rfl, if_neg (by decide)]; exact r7257
  have r7404 : sR S7356 h 28 = some q922 := by rw [eS7356, rR, if_pos rfl, if_neg (by decide)]; exact r7258
  have r7405 : sR S7356 h 29 = some q1052 := by rw [eS7356, rR, if_pos rfl, if_neg (by decide)]; exact r7259
  have r7406 : sR S7356 h 30 = some q1191 := by rw [eS7356, rR, if_pos rfl, if_neg (by decide)]; exact r7260
  have r7407 : sR S7356 h 31 = some q1339 := by rw [eS7356, rR, if_pos rfl, if_neg (by decide)]; exact r7261
  have r7408 : sR S7356 h 32 = some q1496 := by rw [eS7356, rR, if_pos rfl, if_neg (by decide)]; exact r7262
  have r7409 : sR S7356 h 33 = some q1662 := by rw [eS7356, rR, if_pos rfl, if_neg (by decide)]; exact r7263
  have r7410 : sR S7356 h 34 = some q1837 := by rw [eS7356, rR, if_pos rfl, if_neg (by decide)]; exact r7264
  have r7411 : sR S7356 h 37 = some q2021 := by rw [eS7356, rR, if_pos rfl, if_neg (by decide)]; exact r7265
  have r7412 : sR S7356 h 38 = some q2212 := by rw [eS7356, rR, if_pos rfl, if_neg (by decide)]; exact r7266
  have r7413 : sR S7356 h 39 = some q2410 := by rw [eS7356, rR, if_pos rfl, if_neg (by decide)]; exact r7267
  have r7414 : sR S7356 h 40 = some q2615 := by rw [eS7356, rR, if_pos rfl, if_neg (by decide)]; exact r7268
  have r7415 : sR S7356 h 41 = some q2827 := by rw [eS7356, rR, if_pos rfl, if_neg (by decide)]; exact r7269
  have r7416 : sR S7356 h 42 = some q3046 := by rw [eS7356, rR, if_pos rfl, if_neg (by decide)]; exact r7270
  have r7417 : sR S7356 h 43 = some q3272 := by rw [eS7356, rR, if_pos rfl, if_neg (by decide)]; exact r7271
  have r7418 : sR S7356 h 44 = some q3505 := by rw [eS7356, rR, if_pos rfl, if_neg (by decide)]; exact r7272
  have r7419 : sR S7356 h 45 = some q3745 := by rw [eS7356, rR, if_pos rfl, if_neg (by decide)]; exact r7273
  have r7420 : sR S7356 h 46 = some q3992 := by rw [eS7356, rR, if_pos rfl, if_neg (by decide)]; exact r7274
  have r7421 : sR S7356 h 47 = some q4246 := by rw [eS7356, rR, if_pos rfl, if_neg (by decide)]; exact r7275
  have r7422 : sR S7356 h 48 = some q4507 := by rw [eS7356, rR, if_pos rfl, if_neg (by decide)]; exact r7276
  have r7423 : sR S7356 h 49 = some q4775 := by rw [eS7356, rR, if_pos rfl, if_neg (by decide)]; exact r7277
  have r7424 : sR S7356 h 50 = some q5050 := by rw [eS7356, rR, if_pos rfl, if_neg (by decide)]; exact r7278
  have r7425 : sR S7356 h 51 = some q5332 := by rw [eS7356, rR, if_pos rfl, if_neg (by decide)]; exact r7279
  have r7426 : sR S7356 h 52 = some q5621 := by rw [eS7356, rR, if_pos rfl, if_neg (by decide)]; exact r7280
  have r7427 : sR S7356 h 56 = some q5917 := by rw [eS7356, rR, if_pos rfl, if_neg (by decide)]; exact r7281
  have r7428 : sR S7356 h 57 = some q6220 := by rw [eS7356, rR, if_pos rfl, if_neg (by decide)]; exact r7282
  have r7429 : sR S7356 h 58 = some q6530 := by rw [eS7356, rR, if_pos rfl, if_neg (by decide)]; exact r7283
  have r7430 : sR S7356 h 59 = some q6847 := by rw [eS7356, rR, if_pos rfl, if_neg (by decide)]; exact r7284
  have n7431 : sL S7356 q1 = 80 := by rw [eS7356]; exact n7285
  have n7432 : sL S7356 q64 = 6 := by rw [eS7356]; exact n7286
  have n7433 : sL S7356 q134 = 6 := by rw [eS7356]; exact n7287
  have n7434 : sL S7356 q211 = 6 := by rw [eS7356]; exact n7288
  have n7435 : sL S7356 q295 = 6 := by rw [eS7356]; exact n7289
  have n7436 : sL S7356 q386 = 6 := by rw [eS7356]; exact n7290
  have n7437 : sL S7356 q484 = 6 := by rw [eS7356]; exact n7291
  have n7438 : sL S7356 q689 = 24 := by rw [eS7356]; exact n7292
  have n7439 : sL S7356 q801 = 2 := by rw [eS7356]; exact n7293
  have n7440 : sL S7356 q922 = 2 := by rw [eS7356]; exact n7294
  have n7441 : sL S7356 q1052 = 2 := by rw [eS7356]; exact n7295
  have n7442 : sL S7356 q1191 = 2 := by rw [eS7356]; exact n7296
  have n7443 : sL S7356 q1339 = 2 := by rw [eS7356]; exact n7297
  have n7444 : sL S7356 q1496 = 2 := by rw [eS7356]; exact n7298
  have n7445 : sL S7356 q1662 = 2 := by rw [eS7356]; exact n7299
  have n7446 : sL S7356 q1837 = 2 := by rw [eS7356]; exact n7300
  have n7447 : sL S7356 q2021 = 200 := by rw [eS7356]; exact n7301
  have n7448 : sL S7356 q2212 = 200 := by rw [eS7356]; exact n7302
  have n7449 : sL S7356 q2410 = 200 := by rw [eS7356]; exact n7303
  have n7450 : sL S7356 q2615 = 200 := by rw [eS7356]; exact n7304
  have n7451 : sL S7356 q2827 = 200 := by rw [eS7356]; exact n7305
  have n7452 : sL S7356 q3046 = 200 := by rw [eS7356]; exact n7306
  have n7453 : sL S7356 q3272 = 200 := by rw [eS7356]; exact n7307
  have n7454 : sL S7356 q3505 = 200 := by rw [eS7356]; exact n7308
  have n7455 : sL S7356 q3745 = 200 := by rw [eS7356]; exact n7309
  have n7456 : sL S7356 q3992 = 10 := by rw [eS7356]; exact n7310
  have n7457 : sL S7356 q4246 = 10 := by rw [eS7356]; exact n7311
  have n7458 : sL S7356 q4507 = 10 := by rw [eS7356]; exact n7312
  have n7459 : sL S7356 q4775 = 5 := by rw [eS7356]; exact n7313
  have n7460 : sL S7356 q5050 = 5 := by rw [eS7356]; exact n7314
  have n7461 : sL S7356 q5332 = 5 := by rw [eS7356]; exact n7315
  have n7462 : sL S7356 q5621 = 5 := by rw [eS7356]; exact n7316
  have n7463 : sL S7356 q5917 = 8 := by rw [eS7356]; exact n7317
  have n7464 : sL S7356 q6220 = 8 := by rw [eS7356]; exact n7318
  have n7465 : sL S7356 q6530 = 8 := by rw [eS7356]; exact n7319
  have n7466 : sL S7356 q6847 = 8 := by rw [eS7356]; exact n7320
  have n7467 : sL S7356 q7171 = 6 := by rw [eS7356]; exact n7355
  have w7468 : sI S7356 h 1 = 0 := by rw [eS7356]; exact w7321
  have w7469 : sI S7356 h 2 = 0 := by rw [eS7356]; exact w7322
  have w7470 : sI S7356 h 3 = 0 := by rw [eS7356]; exact w7323
  have w7471 : sI S7356 h 4 = 0 := by rw [eS7356]; exact w7324
  have w7472 : sI S7356 h 11 = 0 := by rw [eS7356]; exact w7325
  have w7473 : sI S7356 h 12 = 0 := by rw [eS7356]; exact w7326
  have w7474 : sI S7356 h 13 = 0 := by rw [eS7356]; exact w7327
  have w7475 : sI S7356 h 14 = 0 := by rw [eS7356]; exact w7328
  have w7476 : sI S7356 h 15 = 0 := by rw [eS7356]; exact w7329
  have w7477 : sI S7356 h 16 = 0 := by rw [eS7356]; exact w7330
  have w7478 : sI S7356 h 17 = 0 := by rw [eS7356]; exact w7331
  have w7479 : sI S7356 h 18 = 0 := by rw [eS7356]; exact w7332
  have w7480 : sI S7356 h 20 = 0 := by rw [eS7356]; exact w7333
  have w7481 : sI S7356 h 21 = 0 := by rw [eS7356]; exact w7334
  have w7482 : sI S7356 h 22 = 0 := by rw [eS7356]; exact w7335
  have w7483 : sI S7356 h 35 = 0 := by rw [eS7356]; exact w7336
  have w7484 : sI S7356 h 36 = 0 := by rw [eS7356]; exact w7337
  have w7485 : sI S7356 h 53 = 0 := by rw [eS7356]; exact w7338
  have w7486 : sI S7356 h 54 = 0 := by rw [eS7356]; exact w7339
  have w7487 : sI S7356 h 55 = 0 := by rw [eS7356]; exact w7340
  have w7488 : sI S7356 h 60 = 0 := by rw [eS7356]; exact w7341
  have w7489 : sI S7356 h 19 = 200 := by rw [eS7356]; exact w7342
  have w7490 : sI S7356 h 23 = 400 := by rw [eS7356]; exact w7343
  have w7491 : sI S7356 h 24 = 3 := by rw [eS7356]; exact w7344
  have w7492 : sI S7356 h 25 = 2 := by rw [eS7356]; exact w7345
  have w7493 : ∀ j, j < 2 → sI S7356 q801 j = 0 := fun j hj => by rw [eS7356]; exact w7346 j hj 
  have w7494 : ∀ j, j < 2 → sI S7356 q922 j = 0 := fun j hj => by rw [eS7356]; exact w7347 j hj 
  have w7495 : ∀ j, j < 2 → sI S7356 q1052 j = 0 := fun j hj => by rw [eS7356]; exact w7348 j hj 
  have w7496 : ∀ j, j < 2 → sI S7356 q1191 j = 0 := fun j hj => by rw [eS7356]; exact w7349 j hj 
  have w7497 : ∀ j, j < 2 → sI S7356 q1339 j = 0 := fun j hj => by rw [eS7356]; exact w7350 j hj 
  have w7498 : ∀ j, j < 2 → sI S7356 q1496 j = 0 := fun j hj => by rw [eS7356]; exact w7351 j hj 
  have w7499 : ∀ j, j < 2 → sI S7356 q1662 j = 0 := fun j hj => by rw [eS7356]; exact w7352 j hj 
  have w7500 : ∀ j, j < 2 → sI S7356 q1837 j = 0 := fun j hj => by rw [eS7356]; exact w7353 j hj 
  have r7501 : sR S7356 h 61 = some q7171 := by rw [eS7356, rR, if_pos rfl, if_pos rfl]
  clear k7175 k7177 k7179 k7181 k7183 k7185 k7187 k7189 k7191 k7193 k7195 k7197 k7199 k7201 k7203 k7205 k7207 k7209 k7211 k7213 k7215 k7217 k7219 k7221 k7223 k7225 k7227 k7229 k7231 k7233 k7235 k7237 k7239 k7241 k7243 k7245 k7247 k7354 r7249 r7250 r7251 r7252 r7253 r7254 r7255 r7256 r7257 r7258 r7259 r7260 r7261 r7262 r7263 r7264 r7265 r7266 r7267 r7268 r7269 r7270 r7271 r7272 r7273 r7274 r7275 r7276 r7277 r7278 r7279 r7280 r7281 r7282 r7283 r7284 n7285 n7286 n7287 n7288 n7289 n7290 n7291 n7292 n7293 n7294 n7295 n7296 n7297 n7298 n7299 n7300 n7301 n7302 n7303 n7304 n7305 n7306 n7307 n7308 n7309 n7310 n7311 n7312 n7313 n7314 n7315 n7316 n7317 n7318 n7319 n7320 n7355 w7321 w7322 w7323 w7324 w7325 w7326 w7327 w7328 w7329 w7330 w7331 w7332 w7333 w7334 w7335 w7336 w7337 w7338 w7339 w7340 w7341 w7342 w7343 w7344 w7345 w7346 w7347 w7348 w7349 w7350 w7351 w7352 w7353
  refine lv_aload_n hx hb dX9_init_321 rfl (lv_at hl 0 rfl) ?_
  refine lv_bipush (v := 6) hx hb dX9_init_322 (by decide) ?_
  refine pg_newa (atype := .long) (ty := .long) (kd := 12) (t0 := 2) (N' := 6) hx hb (hts (.arrayClass .long) (by decide +kernel)) rfl rfl (Or.inr (Or.inr (Or.inr rfl))) (by decide) hK hW hS hA (fun _ => rfl) (by decide) (by decide) (Nat.le_of_ble_eq_true rfl) (Nat.le_of_ble_eq_true rfl) (Nat.le_of_ble_eq_true rfl) dX9_init_324 (fun q7502 H hq7502 hW hS => ?_)
  have f7504 : Ap h q7502 := ap_k k7357 hq7502 (by decide)
  have o7505 : 16 ≤ sK S q7502 := hX.old hq7502 (ni_c (ap_s f7504) ni_0)
  have hX : Kx [h] S (stN S7356 q7502 12 6) := hX.N hq7502
  obtain ⟨S7503, eS7503⟩ : ∃ T : St, T = stN S7356 q7502 12 6 := ⟨_, rfl⟩
  rw [← eS7503] at hW hX
  obtain ⟨k7506, d7507⟩ := fk_N (a := h) eS7503 k7357 (by decide) hq7502
  obtain ⟨k7508, d7509⟩ := fk_N (a := q1) eS7503 k7358 (by decide) hq7502
  obtain ⟨k7510, d7511⟩ := fk_N (a := q64) eS7503 k7359 (by decide) hq7502
  obtain ⟨k7512, d7513⟩ := fk_N (a := q134) eS7503 k7360 (by decide) hq7502
  obtain ⟨k7514, d7515⟩ := fk_N (a := q211) eS7503 k7361 (by decide) hq7502
  obtain ⟨k7516, d7517⟩ := fk_N (a := q295) eS7503 k7362 (by decide) hq7502
  obtain ⟨k7518, d7519⟩ := fk_N (a := q386) eS7503 k7363 (by decide) hq7502
  obtain ⟨k7520, d7521⟩ := fk_N (a := q484) eS7503 k7364 (by decide) hq7502
  obtain ⟨k7522, d7523⟩ := fk_N (a := q689) eS7503 k7365 (by decide) hq7502
  obtain ⟨k7524, d7525⟩ := fk_N (a := q801) eS7503 k7366 (by decide) hq7502
  obtain ⟨k7526, d7527⟩ := fk_N (a := q922) eS7503 k7367 (by decide) hq7502
  obtain ⟨k7528, d7529⟩ := fk_N (a := q1052) eS7503 k7368 (by decide) hq7502
  obtain ⟨k7530, d7531⟩ := fk_N (a := q1191) eS7503 k7369 (by decide) hq7502
  obtain ⟨k7532, d7533⟩ := fk_N (a := q1339) eS7503 k7370 (by decide) hq7502
  obtain ⟨k7534, d7535⟩ := fk_N (a := q1496) eS7503 k7371 (by decide) hq7502
  obtain ⟨k7536, d7537⟩ := fk_N (a := q1662) eS7503 k7372 (by decide) hq7502
  obtain ⟨k7538, d7539⟩ := fk_N (a := q1837) eS7503 k7373 (by decide) hq7502
  obtain ⟨k7540, d7541⟩ := fk_N (a := q2021) eS7503 k7374 (by decide) hq7502
  obtain ⟨k7542, d7543⟩ := fk_N (a := q2212) eS7503 k7375 (by decide) hq7502
  obtain ⟨k7544, d7545⟩ := fk_N (a := q2410) eS7503 k7376 (by decide) hq7502
  obtain ⟨k7546, d7547⟩ := fk_N (a := q2615) eS7503 k7377 (by decide) hq7502
  obtain ⟨k7548, d7549⟩ := fk_N (a := q2827) eS7503 k7378 (by decide) hq7502
  obtain ⟨k7550, d7551⟩ := fk_N (a := q3046) eS7503 k7379 (by decide) hq7502
  obtain ⟨k7552, d7553⟩ := fk_N (a := q3272) eS7503 k7380 (by decide) hq7502
  obtain ⟨k7554, d7555⟩ := fk_N (a := q3505) eS7503 k7381 (by decide) hq7502
  obtain ⟨k7556, d7557⟩ := fk_N (a := q3745) eS7503 k7382 (by decide) hq7502
  obtain ⟨k7558, d7559⟩ := fk_N (a := q3992) eS7503 k7383 (by decide) hq7502
  obtain ⟨k7560, d7561⟩ := fk_N (a := q4246) eS7503 k7384 (by decide) hq7502
  obtain ⟨k7562, d7563⟩ := fk_N (a := q4507) eS7503 k7385 (by decide) hq7502
  obtain ⟨k7564, d7565⟩ := fk_N (a := q4775) eS7503 k7386 (by decide) hq7502
  obtain ⟨k7566, d7567⟩ := fk_N (a := q5050) eS7503 k7387 (by decide) hq7502
  obtain ⟨k7568, d7569⟩ := fk_N (a := q5332) eS7503 k7388 (by decide) hq7502
  obtain ⟨k7570, d7571⟩ := fk_N (a := q5621) eS7503 k7389 (by decide) hq7502
  obtain ⟨k7572, d7573⟩ := fk_N (a := q5917) eS7503 k7390 (by decide) hq7502
  obtain ⟨k7574, d7575⟩ := fk_N (a := q6220) eS7503 k7391 (by decide) hq7502
  obtain ⟨k7576, d7577⟩ := fk_N (a := q6530) eS7503 k7392 (by decide) hq7502
  obtain ⟨k7578, d7579⟩ := fk_N (a := q6847) eS7503 k7393 (by decide) hq7502
  obtain ⟨k7580, d7581⟩ := fk_N (a := q7171) eS7503 k7394 (by decide) hq7502
  have r7582 : sR S7503 h 0 = some q1 := by rw [eS7503, rN, if_neg d7507]; exact r7395
  have r7583 : sR S7503 h 5 = some q64 := by rw [eS7503, rN, if_neg d7507]; exact r7396
  have r7584 : sR S7503 h 6 = some q134 := by rw [eS7503, rN, if_neg d7507]; exact r7397
  have r7585 : sR S7503 h 7 = some q211 := by rw [eS7503, rN, if_neg d7507]; exact r7398
  have r7586 : sR S7503 h 8 = some q295 := by rw [eS7503, rN, if_neg d7507]; exact r7399
  have r7587 : sR S7503 h 9 = some q386 := by rw [eS7503, rN, if_neg d7507]; exact r7400
  have r7588 : sR S7503 h 10 = some q484 := by rw [eS7503, rN, if_neg d7507]; exact r7401
  have r7589 : sR S7503 h 26 = some q689 := by rw [eS7503, rN, if_neg d7507]; exact r7402
  have r7590 : sR S7503 h 27 = some q801 := by rw [eS7503, rN, if_neg d7507]; exact r7403
  have r7591 : sR S7503 h 28 = some q922 := by rw [eS7503, rN, if_neg d7507]; exact r7404
  have r7592 : sR S7503 h 29 = some q1052 := by rw [eS7503, rN, if_neg d7507]; exact r7405
  have r7593 : sR S7503 h 30 = some q1191 := by rw [eS7503, rN, if_neg d7507]; exact r7406
  have r7594 : sR S7503 h 31 = some q1339 := by rw [eS7503, rN, if_neg d7507]; exact r7407
  have r7595 : sR S7503 h 32 = some q1496 := by rw [eS7503, rN, if_neg d7507]; exact r7408
  have r7596 : sR S7503 h 33 = some q1662 := by rw [eS7503, rN, if_neg d7507]; exact r7409
  have r7597 : sR S7503 h 34 = some q1837 := by rw [eS7503, rN, if_neg d7507]; exact r7410
  have r7598 : sR S7503 h 37 = some q2021 := by rw [eS7503, rN, if_neg d7507]; exact r7411
  have r7599 : sR S7503 h 38 = some q2212 := by rw [eS7503, rN, if_neg d7507]; exact r7412
  have r7600 : sR S7503 h 39 = some q2410 := by rw [eS7503, rN, if_neg d7507]; exact r7413
  have r7601 : sR S7503 h 40 = some q2615 := by rw [eS7503, rN, if_neg d7507]; exact r7414
  have r7602 : sR S7503 h 41 = some q2827 := by rw [eS7503, rN, if_neg d7507]; exact r7415
  have r7603 : sR S7503 h 42 = some q3046 := by rw [eS7503, rN, if_neg d7507]; exact r7416
  have r7604 : sR S7503 h 43 = some q3272 := by rw [eS7503, rN, if_neg d7507]; exact r7417
  have r7605 : sR S7503 h 44 = some q3505 := by rw [eS7503, rN, if_neg d7507]; exact r7418
  have r7606 : sR S7503 h 45 = some q3745 := by rw [eS7503, rN, if_neg d7507]; exact r7419
  have r7607 : sR S7503 h 46 = some q3992 := by rw [eS7503, rN, if_neg d7507]; exact r7420
  have r7608 : sR S7503 h 47 = some q4246 := by rw [eS7503, rN, if_neg d7507]; exact r7421
  have r7609 : sR S7503 h 48 = some q4507 := by rw [eS7503, rN, if_neg d7507]; exact r7422
  have r7610 : sR S7503 h 49 = some q4775 := by rw [eS7503, rN, if_neg d7507]; exact r7423
  have r7611 : sR S7503 h 50 = some q5050 := by rw [eS7503, rN, if_neg d7507]; exact r7424
  have r7612 : sR S7503 h 51 = some q5332 := by rw [eS7503, rN, if_neg d7507]; exact r7425
  have r7613 : sR S7503 h 52 = some q5621 := by rw [eS7503, rN, if_neg d7507]; exact r7426
  have r7614 : sR S7503 h 56 = some q5917 := by rw [eS7503, rN, if_neg d7507]; exact r7427
  have r7615 : sR S7503 h 57 = some q6220 := by rw [eS7503, rN, if_neg d7507]; exact r7428
  have r7616 : sR S7503 h 58 = some q6530 := by rw [eS7503, rN, if_neg d7507]; exact r7429
  have r7617 : sR S7503 h 59 = some q6847 := by rw [eS7503, rN, if_neg d7507]; exact r7430
  have r7618 : sR S7503 h 61 = some q7171 := by rw [eS7503, rN, if_neg d7507]; exact r7501
  have n7619 : sL S7503 q1 = 80 := by rw [eS7503, lNw, if_neg d7509]; exact n7431
  have n7620 : sL S7503 q64 = 6 := by rw [eS7503, lNw, if_neg d7511]; exact n7432
  have n7621 : sL S7503 q134 = 6 := by rw [eS7503, lNw, if_neg d7513]; exact n7433
  have n7622 : sL S7503 q211 = 6 := by rw [eS7503, lNw, if_neg d7515]; exact n7434
  have n7623 : sL S7503 q295 = 6 := by rw [eS7503, lNw, if_neg d7517]; exact n7435
  have n7624 : sL S7503 q386 = 6 := by rw [eS7503, lNw, if_neg d7519]; exact n7436
  have n7625 : sL S7503 q484 = 6 := by rw [eS7503, lNw, if_neg d7521]; exact n7437
  have n7626 : sL S7503 q689 = 24 := by rw [eS7503, lNw, if_neg d7523]; exact n7438
  have n7627 : sL S7503 q801 = 2 := by rw [eS7503, lNw, if_neg d7525]; exact n7439
  have n7628 : sL S7503 q922 = 2 := by rw [eS7503, lNw, if_neg d7527]; exact n7440
  have n7629 : sL S7503 q1052 = 2 := by rw [eS7503, lNw, if_neg d7529]; exact n7441
  have n7630 : sL S7503 q1191 = 2 := by rw [eS7503, lNw, if_neg d7531]; exact n7442
  have n7631 : sL S7503 q1339 = 2 := by rw [eS7503, lNw, if_neg d7533]; exact n7443
  have n7632 : sL S7503 q1496 = 2 := by rw [eS7503, lNw, if_neg d7535]; exact n7444
  have n7633 : sL S7503 q1662 = 2 := by rw [eS7503, lNw, if_neg d7537]; exact n7445
  have n7634 : sL S7503 q1837 = 2 := by rw [eS7503, lNw, if_neg d7539]; exact n7446
  have n7635 : sL S7503 q2021 = 200 := by rw [eS7503, lNw, if_neg d7541]; exact n7447
  have n7636 : sL S7503 q2212 = 200 := by rw [eS7503, lNw, if_neg d7543]; exact n7448
  have n7637 : sL S7503 q2410 = 200 := by rw [eS7503, lNw, if_neg d7545]; exact n7449
  have n7638 : sL S7503 q2615 = 200 := by rw [eS7503, lNw, if_neg d7547]; exact n7450
  have n7639 : sL S7503 q2827 = 200 := by rw [eS7503, lNw, if_neg d7549]; exact n7451
  have n7640 : sL S7503 q3046 = 200 := by rw [eS7503, lNw, if_neg d7551]; exact n7452
  have n7641 : sL S7503 q3272 = 200 := by rw [eS7503, lNw, if_neg d7553]; exact n7453
  have n7642 : sL S7503 q3505 = 200 := by rw [eS7503, lNw, if_neg d7555]; exact n7454
  have n7643 : sL S7503 q3745 = 200 := by rw [eS7503, lNw, if_neg d7557]; exact n7455
  have n7644 : sL S7503 q3992 = 10 := by rw [eS7503, lNw, if_neg d7559]; exact n7456
  have n7645 : sL S7503 q4246 = 10 := by rw [eS7503, lNw, if_neg d7561]; exact n7457
  have n7646 : sL S7503 q4507 = 10 := by rw [eS7503, lNw, if_neg d7563]; exact n7458
  have n7647 : sL S7503 q4775 = 5 := by rw [eS7503, lNw, if_neg d7565]; exact n7459
  have n7648 : sL S7503 q5050 = 5 := by rw [eS7503, lNw, if_neg d7567]; exact n7460
  have n7649 : sL S7503 q5332 = 5 := by rw [eS7503, lNw, if_neg d7569]; exact n7461
  have n7650 : sL S7503 q5621 = 5 := by rw [eS7503, lNw, if_neg d7571]; exact n7462
  have n7651 : sL S7503 q5917 = 8 := by rw [eS7503, lNw, if_neg d7573]; exact n7463
  have n7652 : sL S7503 q6220 = 8 := by rw [eS7503, lNw, if_neg d7575]; exact n7464
  have n7653 : sL S7503 q6530 = 8 := by rw [eS7503, lNw, if_neg d7577]; exact n7465
  have n7654 : sL S7503 q6847 = 8 := by rw [eS7503, lNw, if_neg d7579]; exact n7466
  have n7655 : sL S7503 q7171 = 6 := by rw [eS7503, lNw, if_neg d7581]; exact n7467
  have w7656 : sI S7503 h 1 = 0 := by rw [eS7503, iN, if_neg d7507]; exact w7468
  have w7657 : sI S7503 h 2 = 0 := by rw [eS7503, iN, if_neg d7507]; exact w7469
  have w7658 : sI S7503 h 3 = 0 := by rw [eS7503, iN, if_neg d7507]; exact w7470
  have w7659 : sI S7503 h 4 = 0 := by rw [eS7503, iN, if_neg d7507]; exact w7471
  have w7660 : sI S7503 h 11 = 0 := by rw [eS7503, iN, if_neg d7507]; exact w7472
  have w7661 : sI S7503 h 12 = 0 := by rw [eS7503, iN, if_neg d7507]; exact w7473
  have w7662 : sI S7503 h 13 = 0 := by rw [eS7503, iN, if_neg d7507]; exact w7474
  have w7663 : sI S7503 h 14 = 0 := by rw [eS7503, iN, if_neg d7507]; exact w7475
  have w7664 : sI S7503 h 15 = 0 := by rw [eS7503, iN, if_neg d7507]; exact w7476
  have w7665 : sI S7503 h 16 = 0 := by rw [eS7503, iN, if_neg d7507]; exact w7477
  have w7666 : sI S7503 h 17 = 0 := by rw [eS7503, iN, if_neg d7507]; exact w7478
  have w7667 : sI S7503 h 18 = 0 := by rw [eS7503, iN, if_neg d7507]; exact w7479
  have w7668 : sI S7503 h 20 = 0 := by rw [eS7503, iN, if_neg d7507]; exact w7480
  have w7669 : sI S7503 h 21 = 0 := by rw [eS7503, iN, if_neg d7507]; exact w7481
  have w7670 : sI S7503 h 22 = 0 := by rw [eS7503, iN, if_neg d7507]; exact w7482
  have w7671 : sI S7503 h 35 = 0 := by rw [eS7503, iN, if_neg d7507]; exact w7483
  have w7672 : sI S7503 h 36 = 0 := by rw [eS7503, iN, if_neg d7507]; exact w7484
  have w7673 : sI S7503 h 53 = 0 := by rw [eS7503, iN, if_neg d7507]; exact w7485
  have w7674 : sI S7503 h 54 = 0 := by rw [eS7503, iN, if_neg d7507]; exact w7486
  have w7675 : sI S7503 h 55 = 0 := by rw [eS7503, iN, if_neg d7507]; exact w7487
  have w7676 : sI S7503 h 60 = 0 := by rw [eS7503, iN, if_neg d7507]; exact w7488
  have w7677 : sI S7503 h 19 = 200 := by rw [eS7503, iN, if_neg d7507]; exact w7489
  have w7678 : sI S7503 h 23 = 400 := by rw [eS7503, iN, if_neg d7507]; exact w7490
  have w7679 : sI S7503 h 24 = 3 := by rw [eS7503, iN, if_neg d7507]; exact w7491
  have w7680 : sI S7503 h 25 = 2 := by rw [eS7503, iN, if_neg d7507]; exact w7492
  have w7681 : ∀ j, j < 2 → sI S7503 q801 j = 0 := fun j hj => by rw [eS7503, iN, if_neg d7525]; exact w7493 j hj 
  have w7682 : ∀ j, j < 2 → sI S7503 q922 j = 0 := fun j hj => by rw [eS7503, iN, if_neg d7527]; exact w7494 j hj 
  have w7683 : ∀ j, j < 2 → sI S7503 q1052 j = 0 := fun j hj => by rw [eS7503, iN, if_neg d7529]; exact w7495 j hj 
  have w7684 : ∀ j, j < 2 → sI S7503 q1191 j = 0 := fun j hj => by rw [eS7503, iN, if_neg d7531]; exact w7496 j hj 
  have w7685 : ∀ j, j < 2 → sI S7503 q1339 j = 0 := fun j hj => by rw [eS7503, iN, if_neg d7533]; exact w7497 j hj 
  have w7686 : ∀ j, j < 2 → sI S7503 q1496 j = 0 := fun j hj => by rw [eS7503, iN, if_neg d7535]; exact w7498 j hj 
  have w7687 : ∀ j, j < 2 → sI S7503 q1662 j = 0 := fun j hj => by rw [eS7503, iN, if_neg d7537]; exact w7499 j hj 
  have w7688 : ∀ j, j < 2 → sI S7503 q1837 j = 0 := fun j hj => by rw [eS7503, iN, if_neg d7539]; exact w7500 j hj 
  have w7689 : ∀ j, sJ S7503 q7502 j = 0 := fun j => by rw [eS7503, jN, if_pos rfl]
  have k7690 : sK S7503 q7502 = 12 := by rw [eS7503, kN, if_pos rfl]
  have n7691 : sL S7503 q7502 = 6 := by rw [eS7503, lNw, if_pos rfl]
  clear k7357 k7358 k7359 k7360 k7361 k7362 k7363 k7364 k7365 k7366 k7367 k7368 k7369 k7370 k7371 k7372 k7373 k7374 k7375 k7376 k7377 k7378 k7379 k7380 k7381 k7382 k7383 k7384 k7385 k7386 k7387 k7388 k7389 k7390 k7391 k7392 k7393 k7394 r7395 r7396 r7397 r7398 r7399 r7400 r7401 r7402 r7403 r7404 r7405 r7406 r7407 r7408 r7409 r7410 r7411 r7412 r7413 r7414 r7415 r7416 r7417 r7418 r7419 r7420 r7421 r7422 r7423 r7424 r7425 r7426 r7427 r7428 r7429 r7430 r7501 n7431 n7432 n7433 n7434 n7435 n7436 n7437 n7438 n7439 n7440 n7441 n7442 n7443 n7444 n7445 n7446 n7447 n7448 n7449 n7450 n7451 n7452 n7453 n7454 n7455 n7456 n7457 n7458 n7459 n7460 n7461 n7462 n7463 n7464 n7465 n7466 n7467 w7468 w7469 w7470 w7471 w7472 w7473 w7474 w7475 w7476 w7477 w7478 w7479 w7480 w7481 w7482 w7483 w7484 w7485 w7486 w7487 w7488 w7489 w7490 w7491 w7492 w7493 w7494 w7495 w7496 w7497 w7498 w7499 w7500
  refine pg_pr (ci := 9) (C := RX9) (T := TX9) (N := 63) hx hb hts wi9 tyX9 tyX9_ok nmX9 hown hK hW hS k7506 (by decide) rfl 62 (by decide) (hts (.fieldLink RX9 136 "IceHallModel" "over" "[J") (by decide +kernel)) (fun _ h9 => h9) rfl hnm rfl rfl rfl rfl dX9_init_326 (fun H locs hW hS => ?_)
  have hX : Kx [h] S (stR S7503 h 62 (some q7502)) := hX.Rh List.mem_cons_self
  obtain ⟨S7692, eS7692⟩ : ∃ T : St, T = stR S7503 h 62 (some q7502) := ⟨_, rfl⟩
  rw [← eS7692] at hW hX
  have k7693 : sK S7692 h = 9 := by rw [eS7692]; exact k7506
  have k7694 : sK S7692 q1 = 10 := by rw [eS7692]; exact k7508
  have k7695 : sK S7692 q64 = 11 := by rw [eS7692]; exact k7510
  have k7696 : sK S7692 q134 = 11 := by rw [eS7692]; exact k7512
  have k7697 : sK S7692 q211 = 11 := by rw [eS7692]; exact k7514
  have k7698 : sK S7692 q295 = 11 := by rw [eS7692]; exact k7516
  have k7699 : sK S7692 q386 = 11 := by rw [eS7692]; exact k7518
  have k7700 : sK S7692 q484 = 11 := by rw [eS7692]; exact k7520
  have k7701 : sK S7692 q689 = 11 := by rw [eS7692]; exact k7522
  have k7702 : sK S7692 q801 = 11 := by rw [eS7692]; exact k7524
  have k7703 : sK S7692 q922 = 11 := by rw [eS7692]; exact k7526
  have k7704 : sK S7692 q1052 = 11 := by rw [eS7692]; exact k7528
  have k7705 : sK S7692 q1191 = 11 := by rw [eS7692]; exact k7530
  have k7706 : sK S7692 q1339 = 11 := by rw [eS7692]; exact k7532
  have k7707 : sK S7692 q1496 = 11 := by rw [eS7692]; exact k7534
  have k7708 : sK S7692 q1662 = 11 := by rw [eS7692]; exact k7536
  have k7709 : sK S7692 q1837 = 13 := by rw [eS7692]; exact k7538
  have k7710 : sK S7692 q2021 = 11 := by rw [eS7692]; exact k7540
  have k7711 : sK S7692 q2212 = 11 := by rw [eS7692]; exact k7542
  have k7712 : sK S7692 q2410 = 11 := by rw [eS7692]; exact k7544
  have k7713 : sK S7692 q2615 = 11 := by rw [eS7692]; exact k7546
  have k7714 : sK S7692 q2827 = 11 := by rw [eS7692]; exact k7548
  have k7715 : sK S7692 q3046 = 11 := by rw [eS7692]; exact k7550
  have k7716 : sK S7692 q3272 = 11 := by rw [eS7692]; exact k7552
  have k7717 : sK S7692 q3505 = 11 := by rw [eS7692]; exact k7554
  have k7718 : sK S7692 q3745 = 11 := by rw [eS7692]; exact k7556
  have k7719 : sK S7692 q3992 = 11 := by rw [eS7692]; exact k7558
  have k7720 : sK S7692 q4246 = 11 := by rw [eS7692]; exact k7560
  have k7721 : sK S7692 q4507 = 11 := by rw [eS7692]; exact k7562
  have k7722 : sK S7692 q4775 = 11 := by rw [eS7692]; exact k7564
  have k7723 : sK S7692 q5050 = 11 := by rw [eS7692]; exact k7566
  have k7724 : sK S7692 q5332 = 11 := by rw [eS7692]; exact k7568
  have k7725 : sK S7692 q5621 = 11 := by rw [eS7692]; exact k7570
  have k7726 : sK S7692 q5917 = 11 := by rw [eS7692]; exact k7572
  have k7727 : sK S7692 q6220 = 11 := by rw [eS7692]; exact k7574
  have k7728 : sK S7692 q6530 = 11 := by rw [eS7692]; exact k7576
  have k7729 : sK S7692 q6847 = 11 := by rw [eS7692]; exact k7578
  have k7730 : sK S7692 q7171 = 11 := by rw [eS7692]; exact k7580
  have k7731 : sK S7692 q7502 = 12 := by rw [eS7692]; exact k7690
  have r7732 : sR S7692 h 0 = some q1 := by rw [eS7692, rR, if_pos rfl, if_neg (by decide)]; exact r7582
  have r7733 : sR S7692 h 5 = some q64 := by rw [eS7692, rR, if_pos rfl, if_neg (by decide)]; exact r7583
  have r7734 : sR S7692 h 6 = some q134 := by rw [eS7692, rR, if_pos rfl, if_neg (by decide)]; exact r7584
  have r7735 : sR S7692 h 7 = some q211 := by rw [eS7692, rR, if_pos rfl, if_neg (by decide)]; exact r7585
  have r7736 : sR S7692 h 8 = some q295 := by rw [eS7692, rR, if_pos rfl, if_neg (by decide)]; exact r7586
  have r7737 : sR S7692 h 9 = some q386 := by rw [eS7692, rR, if_pos rfl, if_neg (by decide)]; exact r7587
  have r7738 : sR S7692 h 10 = some q484 := by rw [eS7692, rR, if_pos rfl, if_neg (by decide)]; exact r7588
  have r7739 : sR S7692 h 26 = some q689 := by rw [eS7692, rR, if_pos rfl, if_neg (by decide)]; exact r7589
  have r7740 : sR S7692 h 27 = some q801 := by rw [eS7692, rR, if_pos rfl, if_neg (by decide)]; exact r7590
  have r7741 : sR S7692 h 28 = some q922 := by rw [eS7692, rR, if_pos rfl, if_neg (by decide)]; exact r7591
  have r7742 : sR S7692 h 29 = some q1052 := by rw [eS7692, rR, if_pos rfl, if_neg (by decide)]; exact r7592
  have r7743 : sR S7692 h 30 = some q1191 := by rw [eS7692, rR, if_pos rfl, if_neg (by decide)]; exact r7593
  have r7744 : sR S7692 h 31 = some q1339 := by rw [eS7692, rR, if_pos rfl, if_neg (by decide)]; exact r7594
  have r7745 : sR S7692 h 32 = some q1496 := by rw [eS7692, rR, if_pos rfl, if_neg (by decide)]; exact r7595
  have r7746 : sR S7692 h 33 = some q1662 := by rw [eS7692, rR, if_pos rfl, if_neg (by decide)]; exact r7596
  have r7747 : sR S7692 h 34 = some q1837 := by rw [eS7692, rR, if_pos rfl, if_neg (by decide)]; exact r7597
  have r7748 : sR S7692 h 37 = some q2021 := by rw [eS7692, rR, if_pos rfl, if_neg (by decide)]; exact r7598
  have r7749 : sR S7692 h 38 = some q2212 := by rw [eS7692, rR, if_pos rfl, if_neg (by decide)]; exact r7599
  have r7750 : sR S7692 h 39 = some q2410 := by rw [eS7692, rR, if_pos rfl, if_neg (by decide)]; exact r7600
  have r7751 : sR S7692 h 40 = some q2615 := by rw [eS7692, rR, if_pos rfl, if_neg (by decide)]; exact r7601
  have r7752 : sR S7692 h 41 = some q2827 := by rw [eS7692, rR, if_pos rfl, if_neg (by decide)]; exact r7602
  have r7753 : sR S7692 h 42 = some q3046 := by rw [eS7692, rR, if_pos rfl, if_neg (by decide)]; exact r7603
  have r7754 : sR S7692 h 43 = some q3272 := by rw [eS7692, rR, if_pos rfl, if_neg (by decide)]; exact r7604
  have r7755 : sR S7692 h 44 = some q3505 := by rw [eS7692, rR, if_pos rfl, if_neg (by decide)]; exact r7605
  have r7756 : sR S7692 h 45 = some q3745 := by rw [eS7692, rR, if_pos rfl, if_neg (by decide)]; exact r7606
  have r7757 : sR S7692 h 46 = some q3992 := by rw [eS7692, rR, if_pos rfl, if_neg (by decide)]; exact r7607
  have r7758 : sR S7692 h 47 = some q4246 := by rw [eS7692, rR, if_pos rfl, if_neg (by decide)]; exact r7608
  have r7759 : sR S7692 h 48 = some q4507 := by rw [eS7692, rR, if_pos rfl, if_neg (by decide)]; exact r7609
  have r7760 : sR S7692 h 49 = some q4775 := by rw [eS7692, rR, if_pos rfl, if_neg (by decide)]; exact r7610
  have r7761 : sR S7692 h 50 = some q5050 := by rw [eS7692, rR, if_pos rfl, if_neg (by decide)]; exact r7611
  have r7762 : sR S7692 h 51 = some q5332 := by rw [eS7692, rR, if_pos rfl, if_neg (by decide)]; exact r7612
  have r7763 : sR S7692 h 52 = some q5621 := by rw [eS7692, rR, if_pos rfl, if_neg (by decide)]; exact r7613
  have r7764 : sR S7692 h 56 = some q5917 := by rw [eS7692, rR, if_pos rfl, if_neg (by decide)]; exact r7614
  have r7765 : sR S7692 h 57 = some q6220 := by rw [eS7692, rR, if_pos rfl, if_neg (by decide)]; exact r7615
  have r7766 : sR S7692 h 58 = some q6530 := by rw [eS7692, rR, if_pos rfl, if_neg (by decide)]; exact r7616
  have r7767 : sR S7692 h 59 = some q6847 := by rw [eS7692, rR, if_pos rfl, if_neg (by decide)]; exact r7617
  have r7768 : sR S7692 h 61 = some q7171 := by rw [eS7692, rR, if_pos rfl, if_neg (by decide)]; exact r7618
  have n7769 : sL S7692 q1 = 80 := by rw [eS7692]; exact n7619
  have n7770 : sL S7692 q64 = 6 := by rw [eS7692]; exact n7620
  have n7771 : sL S7692 q134 = 6 := by rw [eS7692]; exact n7621
  have n7772 : sL S7692 q211 = 6 := by rw [eS7692]; exact n7622
  have n7773 : sL S7692 q295 = 6 := by rw [eS7692]; exact n7623
  have n7774 : sL S7692 q386 = 6 := by rw [eS7692]; exact n7624
  have n7775 : sL S7692 q484 = 6 := by rw [eS7692]; exact n7625
  have n7776 : sL S7692 q689 = 24 := by rw [eS7692]; exact n7626
  have n7777 : sL S7692 q801 = 2 := by rw [eS7692]; exact n7627
  have n7778 : sL S7692 q922 = 2 := by rw [eS7692]; exact n7628
  have n7779 : sL S7692 q1052 = 2 := by rw [eS7692]; exact n7629
  have n7780 : sL S7692 q1191 = 2 := by rw [eS7692]; exact n7630
  have n7781 : sL S7692 q1339 = 2 := by rw [eS7692]; exact n7631
  have n7782 : sL S7692 q1496 = 2 := by rw [eS7692]; exact n7632
  have n7783 : sL S7692 q1662 = 2 := by rw [eS7692]; exact n7633
  have n7784 : sL S7692 q1837 = 2 := by rw [eS7692]; exact n7634
  have n7785 : sL S7692 q2021 = 200 := by rw [eS7692]; exact n7635
  have n7786 : sL S7692 q2212 = 200 := by rw [eS7692]; exact n7636
  have n7787 : sL S7692 q2410 = 200 := by rw [eS7692]; exact n7637
  have n7788 : sL S7692 q2615 = 200 := by rw [eS7692]; exact n7638
  have n7789 : sL S7692 q2827 = 200 := by rw [eS7692]; exact n7639
  have n7790 : sL S7692 q3046 = 200 := by rw [eS7692]; exact n7640
  have n7791 : sL S7692 q3272 = 200 := by rw [eS7692]; exact n7641
  have n7792 : sL S7692 q3505 = 200 := by rw [eS7692]; exact n7642
  have n7793 : sL S7692 q3745 = 200 := by rw [eS7692]; exact n7643
  have n7794 : sL S7692 q3992 = 10 := by rw [eS7692]; exact n7644
  have n7795 : sL S7692 q4246 = 10 := by rw [eS7692]; exact n7645
  have n7796 : sL S7692 q4507 = 10 := by rw [eS7692]; exact n7646
  have n7797 : sL S7692 q4775 = 5 := by rw [eS7692]; exact n7647
  have n7798 : sL S7692 q5050 = 5 := by rw [eS7692]; exact n7648
  have n7799 : sL S7692 q5332 = 5 := by rw [eS7692]; exact n7649
  have n7800 : sL S7692 q5621 = 5 := by rw [eS7692]; exact n7650
  have n7801 : sL S7692 q5917 = 8 := by rw [eS7692]; exact n7651
  have n7802 : sL S7692 q6220 = 8 := by rw [eS7692]; exact n7652
  have n7803 : sL S7692 q6530 = 8 := by rw [eS7692]; exact n7653
  have n7804 : sL S7692 q6847 = 8 := by rw [eS7692]; exact n7654
  have n7805 : sL S7692 q7171 = 6 := by rw [eS7692]; exact n7655
  have n7806 : sL S7692 q7502 = 6 := by rw [eS7692]; exact n7691
  have w7807 : sI S7692 h 1 = 0 := by rw [eS7692]; exact w7656
  have w7808 : sI S7692 h 2 = 0 := by rw [eS7692]; exact w7657
  have w7809 : sI S7692 h 3 = 0 := by rw [eS7692]; exact w7658
  have w7810 : sI S7692 h 4 = 0 := by rw [eS7692]; exact w7659
  have w7811 : sI S7692 h 11 = 0 := by rw [eS7692]; exact w7660
  have w7812 : sI S7692 h 12 = 0 := by rw [eS7692]; exact w7661
  have w7813 : sI S7692 h 13 = 0 := by rw [eS7692]; exact w7662
  have w7814 : sI S7692 h 14 = 0 := by rw [eS7692]; exact w7663
  have w7815 : sI S7692 h 15 = 0 := by rw [eS7692]; exact w7664
  have w7816 : sI S7692 h 16 = 0 := by rw [eS7692]; exact w7665
  have w7817 : sI S7692 h 17 = 0 := by rw [eS7692]; exact w7666
  have w7818 : sI S7692 h 18 = 0 := by rw [eS7692]; exact w7667
  have w7819 : sI S7692 h 20 = 0 := by rw [eS7692]; exact w7668
  have w7820 : sI S7692 h 21 = 0 := by rw [eS7692]; exact w7669
  have w7821 : sI S7692 h 22 = 0 := by rw [eS7692]; exact w7670
  have w7822 : sI S7692 h 35 = 0 := by rw [eS7692]; exact w7671
  have w7823 : sI S7692 h 36 = 0 := by rw [eS7692]; exact w7672
  have w7824 : sI S7692 h 53 = 0 := by rw [eS7692]; exact w7673
  have w7825 : sI S7692 h 54 = 0 := by rw [eS7692]; exact w7674
  have w7826 : sI S7692 h 55 = 0 := by rw [eS7692]; exact w7675
  have w7827 : sI S7692 h 60 = 0 := by rw [eS7692]; exact w7676
  have w7828 : sI S7692 h 19 = 200 := by rw [eS7692]; exact w7677
  have w7829 : sI S7692 h 23 = 400 := by rw [eS7692]; exact w7678
  have w7830 : sI S7692 h 24 = 3 := by rw [eS7692]; exact w7679
  have w7831 : sI S7692 h 25 = 2 := by rw [eS7692]; exact w7680
  have w7832 : ∀ j, j < 2 → sI S7692 q801 j = 0 := fun j hj => by rw [eS7692]; exact w7681 j hj 
  have w7833 : ∀ j, j < 2 → sI S7692 q922 j = 0 := fun j hj => by rw [eS7692]; exact w7682 j hj 
  have w7834 : ∀ j, j < 2 → sI S7692 q1052 j = 0 := fun j hj => by rw [eS7692]; exact w7683 j hj 
  have w7835 : ∀ j, j < 2 → sI S7692 q1191 j = 0 := fun j hj => by rw [eS7692]; exact w7684 j hj 
  have w7836 : ∀ j, j < 2 → sI S7692 q1339 j = 0 := fun j hj => by rw [eS7692]; exact w7685 j hj 
  have w7837 : ∀ j, j < 2 → sI S7692 q1496 j = 0 := fun j hj => by rw [eS7692]; exact w7686 j hj 
  have w7838 : ∀ j, j < 2 → sI S7692 q1662 j = 0 := fun j hj => by rw [eS7692]; exact w7687 j hj 
  have w7839 : ∀ j, j < 2 → sI S7692 q1837 j = 0 := fun j hj => by rw [eS7692]; exact w7688 j hj 
  have w7840 : ∀ j, sJ S7692 q7502 j = 0 := fun j => by rw [eS7692]; exact w7689 j 
  have r7841 : sR S7692 h 62 = some q7502 := by rw [eS7692, rR, if_pos rfl, if_pos rfl]
  clear k7506 k7508 k7510 k7512 k7514 k7516 k7518 k7520 k7522 k7524 k7526 k7528 k7530 k7532 k7534 k7536 k7538 k7540 k7542 k7544 k7546 k7548 k7550 k7552 k7554 k7556 k7558 k7560 k7562 k7564 k7566 k7568 k7570 k7572 k7574 k7576 k7578 k7580 k7690 r7582 r7583 r7584 r7585 r7586 r7587 r7588 r7589 r7590 r7591 r7592 r7593 r7594 r7595 r7596 r7597 r7598 r7599 r7600 r7601 r7602 r7603 r7604 r7605 r7606 r7607 r7608 r7609 r7610 r7611 r7612 r7613 r7614 r7615 r7616 r7617 r7618 n7619 n7620 n7621 n7622 n7623 n7624 n7625 n7626 n7627 n7628 n7629 n7630 n7631 n7632 n7633 n7634 n7635 n7636 n7637 n7638 n7639 n7640 n7641 n7642 n7643 n7644 n7645 n7646 n7647 n7648 n7649 n7650 n7651 n7652 n7653 n7654 n7655 n7691 w7656 w7657 w7658 w7659 w7660 w7661 w7662 w7663 w7664 w7665 w7666 w7667 w7668 w7669 w7670 w7671 w7672 w7673 w7674 w7675 w7676 w7677 w7678 w7679 w7680 w7681 w7682 w7683 w7684 w7685 w7686 w7687 w7688 w7689
  refine lv_aload_n hx hb dX9_init_329 rfl (lv_at hl 0 rfl) ?_
  refine pg_gr (b := q801) (ci := 9) (C := RX9) (T := TX9) (N := 63) hx hb hts wi9 hown hK hW k7693 (by decide) rfl 27 (by decide) (hts (.fieldLink RX9 48 "IceHallModel" "thick" "[I") (by decide +kernel)) (fun _ h9 => h9) rfl r7740 dX9_init_330 ?_
  refine lv_iconst (v := 0) hx hb dX9_init_333 (by decide) ?_
  refine lv_sipush (v := 300) hx hb dX9_init_334 (by decide) ?_
  refine pg_iast hx hb hK hW hS k7702 (by rw [show sL S7692 q801 = 2 from n7777]; exact vp_in_nI (n := 0) (by decide) (by decide)) dX9_init_337 (fun H locs hW hS => ?_)
  have hX : Kx [h] S (stI S7692 q801 (Int32.toNatClampNeg 0) 300) := hX.In o804
  have w7842 : sI (stI S7692 q801 (Int32.toNatClampNeg 0) 300) h 1 = 0 := (iI_a (fk_ne k7693 k7702 (by decide))).trans w7807
  have w7843 : sI (stI S7692 q801 (Int32.toNatClampNeg 0) 300) h 2 = 0 := (iI_a (fk_ne k7693 k7702 (by decide))).trans w7808
  have w7844 : sI (stI S7692 q801 (Int32.toNatClampNeg 0) 300) h 3 = 0 := (iI_a (fk_ne k7693 k7702 (by decide))).trans w7809
  have w7845 : sI (stI S7692 q801 (Int32.toNatClampNeg 0) 300) h 4 = 0 := (iI_a (fk_ne k7693 k7702 (by decide))).trans w7810
  have w7846 : sI (stI S7692 q801 (Int32.toNatClampNeg 0) 300) h 11 = 0 := (iI_a (fk_ne k7693 k7702 (by decide))).trans w7811
  have w7847 : sI (stI S7692 q801 (Int32.toNatClampNeg 0) 300) h 12 = 0 := (iI_a (fk_ne k7693 k7702 (by decide))).trans w7812
  have w7848 : sI (stI S7692 q801 (Int32.toNatClampNeg 0) 300) h 13 = 0 := (iI_a (fk_ne k7693 k7702 (by decide))).trans w7813
  have w7849 : sI (stI S7692 q801 (Int32.toNatClampNeg 0) 300) h 14 = 0 := (iI_a (fk_ne k7693 k7702 (by decide))).trans w7814
  have w7850 : sI (stI S7692 q801 (Int32.toNatClampNeg 0) 300) h 15 = 0 := (iI_a (fk_ne k7693 k7702 (by decide))).trans w7815
  have w7851 : sI (stI S7692 q801 (Int32.toNatClampNeg 0) 300) h 16 = 0 := (iI_a (fk_ne k7693 k7702 (by decide))).trans w7816
  have w7852 : sI (stI S7692 q801 (Int32.toNatClampNeg 0) 300) h 17 = 0 := (iI_a (fk_ne k7693 k7702 (by decide))).trans w7817
  have w7853 : sI (stI S7692 q801 (Int32.toNatClampNeg 0) 300) h 18 = 0 := (iI_a (fk_ne k7693 k7702 (by decide))).trans w7818
  have w7854 : sI (stI S7692 q801 (Int32.toNatClampNeg 0) 300) h 20 = 0 := (iI_a (fk_ne k7693 k7702 (by decide))).trans w7819
  have w7855 : sI (stI S7692 q801 (Int32.toNatClampNeg 0) 300) h 21 = 0 := (iI_a (fk_ne k7693 k7702 (by decide))).trans w7820
  have w7856 : sI (stI S7692 q801 (Int32.toNatClampNeg 0) 300) h 22 = 0 := (iI_a (fk_ne k7693 k7702 (by decide))).trans w7821
  have w7857 : sI (stI S7692 q801 (Int32.toNatClampNeg 0) 300) h 35 = 0 := (iI_a (fk_ne k7693 k7702 (by decide))).trans w7822
  have w7858 : sI (stI S7692 q801 (Int32.toNatClampNeg 0) 300) h 36 = 0 := (iI_a (fk_ne k7693 k7702 (by decide))).trans w7823
  have w7859 : sI (stI S7692 q801 (Int32.toNatClampNeg 0) 300) h 53 = 0 := (iI_a (fk_ne k7693 k7702 (by decide))).trans w7824
  have w7860 : sI (stI S7692 q801 (Int32.toNatClampNeg 0) 300) h 54 = 0 := (iI_a (fk_ne k7693 k7702 (by decide))).trans w7825
  have w7861 : sI (stI S7692 q801 (Int32.toNatClampNeg 0) 300) h 55 = 0 := (iI_a (fk_ne k7693 k7702 (by decide))).trans w7826
  have w7862 : sI (stI S7692 q801 (Int32.toNatClampNeg 0) 300) h 60 = 0 := (iI_a (fk_ne k7693 k7702 (by decide))).trans w7827
  have w7863 : sI (stI S7692 q801 (Int32.toNatClampNeg 0) 300) h 19 = 200 := (iI_a (fk_ne k7693 k7702 (by decide))).trans w7828
  have w7864 : sI (stI S7692 q801 (Int32.toNatClampNeg 0) 300) h 23 = 400 := (iI_a (fk_ne k7693 k7702 (by decide))).trans w7829
  have w7865 : sI (stI S7692 q801 (Int32.toNatClampNeg 0) 300) h 24 = 3 := (iI_a (fk_ne k7693 k7702 (by decide))).trans w7830
  have w7866 : sI (stI S7692 q801 (Int32.toNatClampNeg 0) 300) h 25 = 2 := (iI_a (fk_ne k7693 k7702 (by decide))).trans w7831
  have w7867 : ∀ j, j < 2 → sI (stI S7692 q801 (Int32.toNatClampNeg 0) 300) q922 j = 0 := fun j hj => (iI_a (ap_s d945)).trans (w7833 j hj)
  have w7868 : ∀ j, j < 2 → sI (stI S7692 q801 (Int32.toNatClampNeg 0) 300) q1052 j = 0 := fun j hj => (iI_a (ap_s d1075)).trans (w7834 j hj)
  have w7869 : ∀ j, j < 2 → sI (stI S7692 q801 (Int32.toNatClampNeg 0) 300) q1191 j = 0 := fun j hj => (iI_a (ap_s d1214)).trans (w7835 j hj)
  have w7870 : ∀ j, j < 2 → sI (stI S7692 q801 (Int32.toNatClampNeg 0) 300) q1339 j = 0 := fun j hj => (iI_a (ap_s d1362)).trans (w7836 j hj)
  have w7871 : ∀ j, j < 2 → sI (stI S7692 q801 (Int32.toNatClampNeg 0) 300) q1496 j = 0 := fun j hj => (iI_a (ap_s d1519)).trans (w7837 j hj)
  have w7872 : ∀ j, j < 2 → sI (stI S7692 q801 (Int32.toNatClampNeg 0) 300) q1662 j = 0 := fun j hj => (iI_a (ap_s d1685)).trans (w7838 j hj)
  have w7873 : ∀ j, j < 2 → sI (stI S7692 q801 (Int32.toNatClampNeg 0) 300) q1837 j = 0 := fun j hj => (iI_a (fk_ne k7709 k7702 (by decide))).trans (w7839 j hj)
  clear w7807 w7808 w7809 w7810 w7811 w7812 w7813 w7814 w7815 w7816 w7817 w7818 w7819 w7820 w7821 w7822 w7823 w7824 w7825 w7826 w7827 w7828 w7829 w7830 w7831 w7832 w7833 w7834 w7835 w7836 w7837 w7838 w7839
  refine lv_aload_n hx hb dX9_init_338 rfl (lv_at hl 0 rfl) ?_
  refine pg_gr (b := q801) (ci := 9) (C := RX9) (T := TX9) (N := 63) hx hb hts wi9 hown hK hW k7693 (by decide) rfl 27 (by decide) (hts (.fieldLink RX9 48 "IceHallModel" "thick" "[I") (by decide +kernel)) (fun _ h9 => h9) rfl r7740 dX9_init_339 ?_
  refine lv_iconst (v := 1) hx hb dX9_init_342 (by decide) ?_
  refine lv_sipush (v := 300) hx hb dX9_init_343 (by decide) ?_
  refine pg_iast hx hb hK hW hS k7702 (by rw [show sL (stI S7692 q801 (Int32.toNatClampNeg 0) 300) q801 = 2 from n7777]; exact vp_in_nI (n := 1) (by decide) (by decide)) dX9_init_346 (fun H locs hW hS => ?_)
  have hX : Kx [h] S (stI (stI S7692 q801 (Int32.toNatClampNeg 0) 300) q801 (Int32.toNatClampNeg 1) 300) := hX.In o804
  have w7874 : sI (stI (stI S7692 q801 (Int32.toNatClampNeg 0) 300) q801 (Int32.toNatClampNeg 1) 300) h 1 = 0 := (iI_a (fk_ne k7693 k7702 (by decide))).trans w7842
  have w7875 : sI (stI (stI S7692 q801 (Int32.toNatClampNeg 0) 300) q801 (Int32.toNatClampNeg 1) 300) h 2 = 0 := (iI_a (fk_ne k7693 k7702 (by decide))).trans w7843
  have w7876 : sI (stI (stI S7692 q801 (Int32.toNatClampNeg 0) 300) q801 (Int32.toNatClampNeg 1) 300) h 3 = 0 := (iI_a (fk_ne k7693 k7702 (by decide))).trans w7844
  have w7877 : sI (stI (stI S7692 q801 (Int32.toNatClampNeg 0) 300) q801 (Int32.toNatClampNeg 1) 300) h 4 = 0 := (iI_a (fk_ne k7693 k7702 (by decide))).trans w7845
  have w7878 : sI (stI (stI S7692 q801 (Int32.toNatClampNeg 0) 300) q801 (Int32.toNatClampNeg 1) 300) h 11 = 0 := (iI_a (fk_ne k7693 k7702 (by decide))).trans w7846
  have w7879 : sI (stI (stI S7692 q801 (Int32.toNatClampNeg 0) 300) q801 (Int32.toNatClampNeg 1) 300) h 12 = 0 := (iI_a (fk_ne k7693 k7702 (by decide))).trans w7847
  have w7880 : sI (stI (stI S7692 q801 (Int32.toNatClampNeg 0) 300) q801 (Int32.toNatClampNeg 1) 300) h 13 = 0 := (iI_a (fk_ne k7693 k7702 (by decide))).trans w7848
  have w7881 : sI (stI (stI S7692 q801 (Int32.toNatClampNeg 0) 300) q801 (Int32.toNatClampNeg 1) 300) h 14 = 0 := (iI_a (fk_ne k7693 k7702 (by decide))).trans w7849
  have w7882 : sI (stI (stI S7692 q801 (Int32.toNatClampNeg 0) 300) q801 (Int32.toNatClampNeg 1) 300) h 15 = 0 := (iI_a (fk_ne k7693 k7702 (by decide))).trans w7850
  have w7883 : sI (stI (stI S7692 q801 (Int32.toNatClampNeg 0) 300) q801 (Int32.toNatClampNeg 1) 300) h 16 = 0 := (iI_a (fk_ne k7693 k7702 (by decide))).trans w7851
  have w7884 : sI (stI (stI S7692 q801 (Int32.toNatClampNeg 0) 300) q801 (Int32.toNatClampNeg 1) 300) h 17 = 0 := (iI_a (fk_ne k7693 k7702 (by decide))).trans w7852
  have w7885 : sI (stI (stI S7692 q801 (Int32.toNatClampNeg 0) 300) q801 (Int32.toNatClampNeg 1) 300) h 18 = 0 := (iI_a (fk_ne k7693 k7702 (by decide))).trans w7853
  have w7886 : sI (stI (stI S7692 q801 (Int32.toNatClampNeg 0) 300) q801 (Int32.toNatClampNeg 1) 300) h 20 = 0 := (iI_a (fk_ne k7693 k7702 (by decide))).trans w7854
  have w7887 : sI (stI (stI S7692 q801 (Int32.toNatClampNeg 0) 300) q801 (Int32.toNatClampNeg 1) 300) h 21 = 0 := (iI_a (fk_ne k7693 k7702 (by decide))).trans w7855
  have w7888 : sI (stI (stI S7692 q801 (Int32.toNatClampNeg 0) 300) q801 (Int32.toNatClampNeg 1) 300) h 22 = 0 := (iI_a (fk_ne k7693 k7702 (by decide))).trans w7856
  have w7889 : sI (stI (stI S7692 q801 (Int32.toNatClampNeg 0) 300) q801 (Int32.toNatClampNeg 1) 300) h 35 = 0 := (iI_a (fk_ne k7693 k7702 (by decide))).trans w7857
  have w7890 : sI (stI (stI S7692 q801 (Int32.toNatClampNeg 0) 300) q801 (Int32.toNatClampNeg 1) 300) h 36 = 0 := (iI_a (fk_ne k7693 k7702 (by decide))).trans w7858
  have w7891 : sI (stI (stI S7692 q801 (Int32.toNatClampNeg 0) 300) q801 (Int32.toNatClampNeg 1) 300) h 53 = 0 := (iI_a (fk_ne k7693 k7702 (by decide))).trans w7859
  have w7892 : sI (stI (stI S7692 q801 (Int32.toNatClampNeg 0) 300) q801 (Int32.toNatClampNeg 1) 300) h 54 = 0 := (iI_a (fk_ne k7693 k7702 (by decide))).trans w7860
  have w7893 : sI (stI (stI S7692 q801 (Int32.toNatClampNeg 0) 300) q801 (Int32.toNatClampNeg 1) 300) h 55 = 0 := (iI_a (fk_ne k7693 k7702 (by decide))).trans w7861
  have w7894 : sI (stI (stI S7692 q801 (Int32.toNatClampNeg 0) 300) q801 (Int32.toNatClampNeg 1) 300) h 60 = 0 := (iI_a (fk_ne k7693 k7702 (by decide))).trans w7862
  have w7895 : sI (stI (stI S7692 q801 (Int32.toNatClampNeg 0) 300) q801 (Int32.toNatClampNeg 1) 300) h 19 = 200 := (iI_a (fk_ne k7693 k7702 (by decide))).trans w7863
  have w7896 : sI (stI (stI S7692 q801 (Int32.toNatClampNeg 0) 300) q801 (Int32.toNatClampNeg 1) 300) h 23 = 400 := (iI_a (fk_ne k7693 k7702 (by decide))).trans w7864
  have w7897 : sI (stI (stI S7692 q801 (Int32.toNatClampNeg 0) 300) q801 (Int32.toNatClampNeg 1) 300) h 24 = 3 := (iI_a (fk_ne k7693 k7702 (by decide))).trans w7865
  have w7898 : sI (stI (stI S7692 q801 (Int32.toNatClampNeg 0) 300) q801 (Int32.toNatClampNeg 1) 300) h 25 = 2 := (iI_a (fk_ne k7693 k7702 (by decide))).trans w7866
  have w7899 : ∀ j, j < 2 → sI (stI (stI S7692 q801 (Int32.toNatClampNeg 0) 300) q801 (Int32.toNatClampNeg 1) 300) q922 j = 0 := fun j hj => (iI_a (ap_s d945)).trans (w7867 j hj)
  have w7900 : ∀ j, j < 2 → sI (stI (stI S7692 q801 (Int32.toNatClampNeg 0) 300) q801 (Int32.toNatClampNeg 1) 300) q1052 j = 0 := fun j hj => (iI_a (ap_s d1075)).trans (w7868 j hj)
  have w7901 : ∀ j, j < 2 → sI (stI (stI S7692 q801 (Int32.toNatClampNeg 0) 300) q801 (Int32.toNatClampNeg 1) 300) q1191 j = 0 := fun j hj => (iI_a (ap_s d1214)).trans (w7869 j hj)
  have w7902 : ∀ j, j < 2 → sI (stI (stI S7692 q801 (Int32.toNatClampNeg 0) 300) q801 (Int32.toNatClampNeg 1) 300) q1339 j = 0 := fun j hj => (iI_a (ap_s d1362)).trans (w7870 j hj)
  have w7903 : ∀ j, j < 2 → sI (stI (stI S7692 q801 (Int32.toNatClampNeg 0) 300) q801 (Int32.toNatClampNeg 1) 300) q1496 j = 0 := fun j hj => (iI_a (ap_s d1519)).trans (w7871 j hj)
  have w7904 : ∀ j, j < 2 → sI (stI (stI S7692 q801 (Int32.toNatClampNeg 0) 300) q801 (Int32.toNatClampNeg 1) 300) q1662 j = 0 := fun j hj => (iI_a (ap_s d1685)).trans (w7872 j hj)
  have w7905 : ∀ j, j < 2 → sI (stI (stI S7692 q801 (Int32.toNatClampNeg 0) 300) q801 (Int32.toNatClampNeg 1) 300) q1837 j = 0 := fun j hj => (iI_a (fk_ne k7709 k7702 (by decide))).trans (w7873 j hj)
  clear w7842 w7843 w7844 w7845 w7846 w7847 w7848 w7849 w7850 w7851 w7852 w7853 w7854 w7855 w7856 w7857 w7858 w7859 w7860 w7861 w7862 w7863 w7864 w7865 w7866 w7867 w7868 w7869 w7870 w7871 w7872 w7873
  have hth : ∀ j, j < 2 → sI (stI (stI S7692 q801 (Int32.toNatClampNeg 0) 300) q801 (Int32.toNatClampNeg 1) 300) q801 j = 300 := th_2
  refine lv_iconst (v := 0) hx hb dX9_init_347 (by decide) ?_
  refine lv_istore_n (lv' := [(1, .int 0), (0, .ref h)]) hx hb dX9_init_348 rfl hl (by decide) rfl (fun ls hl => ?_)
  have loop7906 : ∀ (n : Nat) (i : Nat) (T349 : St) (H : Heap) (locs : List Loc) (ls : Array Slot), (Kx [q689] (stI (stI S7692 q801 (Int32.toNatClampNeg 0) 300) q801 (Int32.toNatClampNeg 1) 300) T349) → (sK T349 q689 = 11) → (sL T349 q689 = 24) → (i ≤ 24) → (∀ j, j < i → sI T349 q689 j = 10) → 24 - i < n → PW D cy A T349 H → va_S A s.heap H locs → lv_has ls 2 [(0, .ref h), (1, .int (nI i))] → W p l e ({ frames := 1, cells := 38, slots := 2050, locals := 60 } : Room) s m args below meth c H locs 38 2050 (MQ below (va_Qv (fun S1 => Kx [h] S S1 ∧ ∃ m_tape, 16 ≤ sK S m_tape ∧ ∃ m_clocks, 16 ≤ sK S m_clocks ∧ ∃ m_daysOf, 16 ≤ sK S m_daysOf ∧ ∃ m_kinds, 16 ≤ sK S m_kinds ∧ ∃ m_limit, 16 ≤ sK S m_limit ∧ ∃ m_fee, 16 ≤ sK S m_fee ∧ ∃ m_hundredths, 16 ≤ sK S m_hundredths ∧ ∃ m_priceOf, 16 ≤ sK S m_priceOf ∧ ∃ m_thick, 16 ≤ sK S m_thick ∧ ∃ m_ruts, 16 ≤ sK S m_ruts ∧ ∃ m_shaved, 16 ≤ sK S m_shaved ∧ ∃ m_flooded, 16 ≤ sK S m_flooded ∧ ∃ m_melted, 16 ≤ sK S m_melted ∧ ∃ m_cutShave, 16 ≤ sK S m_cutShave ∧ ∃ m_cutFlood, 16 ≤ sK S m_cutFlood ∧ ∃ m_hasCut, 16 ≤ sK S m_hasCut ∧ ∃ m_clubOf, 16 ≤ sK S m_clubOf ∧ ∃ m_kindOf, 16 ≤ sK S m_kindOf ∧ ∃ m_sheetOf, 16 ≤ sK S m_sheetOf ∧ ∃ m_hourOf, 16 ≤ sK S m_hourOf ∧ ∃ m_state, 16 ≤ sK S m_state ∧ ∃ m_why, 16 ≤ sK S m_why ∧ ∃ m_feeOf, 16 ≤ sK S m_feeOf ∧ ∃ m_partOf, 16 ≤ sK S m_partOf ∧ ∃ m_moved, 16 ≤ sK S m_moved ∧ ∃ m_closedSheet, 16 ≤ sK S m_closedSheet ∧ ∃ m_closedFrom, 16 ≤ sK S m_closedFrom ∧ ∃ m_closedTo, 16 ≤ sK S m_closedTo ∧ ∃ m_out, 16 ≤ sK S m_out ∧ ∃ m_way, 16 ≤ sK S m_way ∧ ∃ m_best, 16 ≤ sK S m_best ∧ ∃ m_wayHour, 16 ≤ sK S m_wayHour ∧ ∃ m_wants, 16 ≤ sK S m_wants ∧ ∃ m_row, 16 ≤ sK S m_row ∧ ∃ m_bestRow, 16 ≤ sK S m_bestRow ∧ ∃ m_told, 16 ≤ sK S m_told ∧ ∃ m_share, 16 ≤ sK S m_share ∧ ∃ m_over, 16 ≤ sK S m_over ∧ sK S1 h = 9 ∧ sR S1 h 0 = some m_tape ∧ sK S1 m_tape = 10 ∧ sL S1 m_tape = 80 ∧ sR S1 h 5 = some m_clocks ∧ sK S1 m_clocks = 11 ∧ sL S1 m_clocks = 6 ∧ sR S1 h 6 = some m_daysOf ∧ sK S1 m_daysOf = 11 ∧ sL S1 m_daysOf = 6 ∧ sR S1 h 7 = some m_kinds ∧ sK S1 m_kinds = 11 ∧ sL S1 m_kinds = 6 ∧ sR S1 h 8 = some m_limit ∧ sK S1 m_limit = 11 ∧ sL S1 m_limit = 6 ∧ sR S1 h 9 = some m_fee ∧ sK S1 m_fee = 11 ∧ sL S1 m_fee = 6 ∧ sR S1 h 10 = some m_hundredths ∧ sK S1 m_hundredths = 11 ∧ sL S1 m_hundredths = 6 ∧ sR S1 h 26 = some m_priceOf ∧ sK S1 m_priceOf = 11 ∧ sL S1 m_priceOf = 24 ∧ sR S1 h 27 = some m_thick ∧ sK S1 m_thick = 11 ∧ sL S1 m_thick = 2 ∧ sR S1 h 28 = some m_ruts ∧ sK S1 m_ruts = 11 ∧ sL S1 m_ruts = 2 ∧ sR S1 h 29 = some m_shaved ∧ sK S1 m_shaved = 11 ∧ sL S1 m_shaved = 2 ∧ sR S1 h 30 = some m_flooded ∧ sK S1 m_flooded = 11 ∧ sL S1 m_flooded = 2 ∧ sR S1 h 31 = some m_melted ∧ sK S1 m_melted = 11 ∧ sL S1 m_melted = 2 ∧ sR S1 h 32 = some m_cutShave ∧ sK S1 m_cutShave = 11 ∧ sL S1 m_cutShave = 2 ∧ sR S1 h 33 = some m_cutFlood ∧ sK S1 m_cutFlood = 11 ∧ sL S1 m_cutFlood = 2 ∧ sR S1 h 34 = some m_hasCut ∧ sK S1 m_hasCut = 13 ∧ sL S1 m_hasCut = 2 ∧ sR S1 h 37 = some m_clubOf ∧ sK S1 m_clubOf = 11 ∧ sL S1 m_clubOf = 200 ∧ sR S1 h 38 = some m_kindOf ∧ sK S1 m_kindOf = 11 ∧ sL S1 m_kindOf = 200 ∧ sR S1 h 39 = some m_sheetOf ∧ sK S1 m_sheetOf = 11 ∧ sL S1 m_sheetOf = 200 ∧ sR S1 h 40 = some m_hourOf ∧ sK S1 m_hourOf = 11 ∧ sL S1 m_hourOf = 200 ∧ sR S1 h 41 = some m_state ∧ sK S1 m_state = 11 ∧ sL S1 m_state = 200 ∧ sR S1 h 42 = some m_why ∧ sK S1 m_why = 11 ∧ sL S1 m_why = 200 ∧ sR S1 h 43 = some m_feeOf ∧ sK S1 m_feeOf = 11 ∧ sL S1 m_feeOf = 200 ∧ sR S1 h 44 = some m_partOf ∧ sK S1 m_partOf = 11 ∧ sL S1 m_partOf = 200 ∧ sR S1 h 45 = some m_moved ∧ sK S1 m_moved = 11 ∧ sL S1 m_moved = 200 ∧ sR S1 h 46 = some m_closedSheet ∧ sK S1 m_closedSheet = 11 ∧ sL S1 m_closedSheet = 10 ∧ sR S1 h 47 = some m_closedFrom ∧ sK S1 m_closedFrom = 11 ∧ sL S1 m_closedFrom = 10 ∧ sR S1 h 48 = some m_closedTo ∧ sK S1 m_closedTo = 11 ∧ sL S1 m_closedTo = 10 ∧ sR S1 h 49 = some m_out ∧ sK S1 m_out = 11 ∧ sL S1 m_out = 5 ∧ sR S1 h 50 = some m_way ∧ sK S1 m_way = 11 ∧ sL S1 m_way = 5 ∧ sR S1 h 51 = some m_best ∧ sK S1 m_best = 11 ∧ sL S1 m_best = 5 ∧ sR S1 h 52 = some m_wayHour ∧ sK S1 m_wayHour = 11 ∧ sL S1 m_wayHour = 5 ∧ sR S1 h 56 = some m_wants ∧ sK S1 m_wants = 11 ∧ sL S1 m_wants = 8 ∧ sR S1 h 57 = some m_row ∧ sK S1 m_row = 11 ∧ sL S1 m_row = 8 ∧ sR S1 h 58 = some m_bestRow ∧ sK S1 m_bestRow = 11 ∧ sL S1 m_bestRow = 8 ∧ sR S1 h 59 = some m_told ∧ sK S1 m_told = 11 ∧ sL S1 m_told = 8 ∧ sR S1 h 61 = some m_share ∧ sK S1 m_share = 11 ∧ sL S1 m_share = 6 ∧ sR S1 h 62 = some m_over ∧ sK S1 m_over = 12 ∧ sL S1 m_over = 6 ∧ (∀ j, j < 2 → sI S1 m_ruts j = 0) ∧ (∀ j, j < 2 → sI S1 m_shaved j = 0) ∧ (∀ j, j < 2 → sI S1 m_flooded j = 0) ∧ (∀ j, j < 2 → sI S1 m_melted j = 0) ∧ (∀ j, j < 2 → sI S1 m_cutShave j = 0) ∧ (∀ j, j < 2 → sI S1 m_cutFlood j = 0) ∧ (∀ j, j < 2 → sI S1 m_hasCut j = 0) ∧ (∀ j, j < 2 → sI S1 m_thick j = 300) ∧ (∀ j, j < 24 → sI S1 m_priceOf j = 10) ∧ (∀ j, j < 6 → sI S1 m_clocks j = 16777215) ∧ (∀ j, j < 6 → sI S1 m_daysOf j = 127) ∧ (∀ j, j < 6 → sI S1 m_kinds j = 15) ∧ (∀ j, j < 6 → sI S1 m_limit j = 168) ∧ (∀ j, j < 6 → sI S1 m_fee j = 100) ∧ (∀ j, j < 6 → sI S1 m_hundredths j = 50) ∧ sI S1 h 1 = 0 ∧ sI S1 h 2 = 0 ∧ sI S1 h 3 = 0 ∧ sI S1 h 4 = 0 ∧ sI S1 h 11 = 0 ∧ sI S1 h 12 = 0 ∧ sI S1 h 13 = 0 ∧ sI S1 h 14 = 0 ∧ sI S1 h 15 = 0 ∧ sI S1 h 16 = 0 ∧ sI S1 h 17 = 0 ∧ sI S1 h 18 = 0 ∧ sI S1 h 19 = 200 ∧ sI S1 h 20 = 0 ∧ sI S1 h 21 = 0 ∧ sI S1 h 22 = 0 ∧ sI S1 h 23 = 400 ∧ sI S1 h 24 = 3 ∧ sI S1 h 25 = 2 ∧ sI S1 h 35 = 0 ∧ sI S1 h 36 = 0 ∧ sI S1 h 53 = 0 ∧ sI S1 h 54 = 0 ∧ sI S1 h 55 = 0 ∧ sI S1 h 60 = 0 ∧ Ap m_wants m_row ∧ Ap m_wants m_bestRow ∧ Ap m_row m_bestRow ∧ Ap m_priceOf m_wants ∧ Ap m_priceOf m_row ∧ Ap m_priceOf m_bestRow) (PU D cy A) A) args s 38 2050 A) (F0 m 349 ls []) := by
    intro n
    induction n with
    | zero => intros; exact absurd (by assumption) (Nat.not_lt_zero _)
    | succ n ih =>
      intro i T349 H locs ls hkx349 hck349_0 hcn349_0 hle hel hme hW hS hl
      have f7907 := hkx349 h (ni_c (fk_ne k7693 k7701 (by decide)) ni_0) (lt16 k7693 (by decide))
      have f7908 : sK T349 h = 9 := by rw [f7907.1]; exact k7693
      have f7909 : sR T349 h 0 = some q1 := by rw [f7907.2.2.1]; exact r7732
      have f7910 : sR T349 h 5 = some q64 := by rw [f7907.2.2.1]; exact r7733
      have f7911 : sR T349 h 6 = some q134 := by rw [f7907.2.2.1]; exact r7734
      have f7912 : sR T349 h 7 = some q211 := by rw [f7907.2.2.1]; exact r7735
      have f7913 : sR T349 h 8 = some q295 := by rw [f7907.2.2.1]; exact r7736
      have f7914 : sR T349 h 9 = some q386 := by rw [f7907.2.2.1]; exact r7737
      have f7915 : sR T349 h 10 = some q484 := by rw [f7907.2.2.1]; exact r7738
      have f7916 : sR T349 h 26 = some q689 := by rw [f7907.2.2.1]; exact r7739
      have f7917 : sR T349 h 27 = some q801 := by rw [f7907.2.2.1]; exact r7740
      have f7918 : sR T349 h 28 = some q922 := by rw [f7907.2.2.1]; exact r7741
      have f7919 : sR T349 h 29 = some q1052 := by rw [f7907.2.2.1]; exact r7742
      have f7920 : sR T349 h 30 = some q1191 := by rw [f7907.2.2.1]; exact r7743
      have f7921 : sR T349 h 31 = some q1339 := by rw [f7907.2.2.1]; exact r7744
      have f7922 : sR T349 h 32 = some q1496 := by rw [f7907.2.2.1]; exact r7745
      have f7923 : sR T349 h 33 = some q1662 := by rw [f7907.2.2.1]; exact r7746
      have f7924 : sR T349 h 34 = some q1837 := by rw [f7907.2.2.1]; exact r7747
      have f7925 : sR T349 h 37 = some q2021 := by rw [f7907.2.2.1]; exact r7748
      have f7926 : sR T349 h 38 = some q2212 := by rw [f7907.2.2.1]; exact r7749
      have f7927 : sR T349 h 39 = some q2410 := by rw [f7907.2.2.1]; exact r7750
      have f7928 : sR T349 h 40 = some q2615 := by rw [f7907.2.2.1]; exact r7751
      have f7929 : sR T349 h 41 = some q2827 := by rw [f7907.2.2.1]; exact r7752
      have f7930 : sR T349 h 42 = some q3046 := by rw [f7907.2.2.1]; exact r7753
      have f7931 : sR T349 h 43 = some q3272 := by rw [f7907.2.2.1]; exact r7754
      have f7932 : sR T349 h 44 = some q3505 := by rw [f7907.2.2.1]; exact r7755
      have f7933 : sR T349 h 45 = some q3745 := by rw [f7907.2.2.1]; exact r7756
      have f7934 : sR T349 h 46 = some q3992 := by rw [f7907.2.2.1]; exact r7757
      have f7935 : sR T349 h 47 = some q4246 := by rw [f7907.2.2.1]; exact r7758
      have f7936 : sR T349 h 48 = some q4507 := by rw [f7907.2.2.1]; exact r7759
      have f7937 : sR T349 h 49 = some q4775 := by rw [f7907.2.2.1]; exact r7760
      have f7938 : sR T349 h 50 = some q5050 := by rw [f7907.2.2.1]; exact r7761
      have f7939 : sR T349 h 51 = some q5332 := by rw [f7907.2.2.1]; exact r7762
      have f7940 : sR T349 h 52 = some q5621 := by rw [f7907.2.2.1]; exact r7763
      have f7941 : sR T349 h 56 = some q5917 := by rw [f7907.2.2.1]; exact r7764
      have f7942 : sR T349 h 57 = some q6220 := by rw [f7907.2.2.1]; exact r7765
      have f7943 : sR T349 h 58 = some q6530 := by rw [f7907.2.2.1]; exact r7766
      have f7944 : sR T349 h 59 = some q6847 := by rw [f7907.2.2.1]; exact r7767
      have f7945 : sR T349 h 61 = some q7171 := by rw [f7907.2.2.1]; exact r7768
      have f7946 : sR T349 h 62 = some q7502 := by rw [f7907.2.2.1]; exact r7841
      have f7947 : sI T349 h 1 = 0 := by rw [f7907.2.1]; exact w7874
      have f7948 : sI T349 h 2 = 0 := by rw [f7907.2.1]; exact w7875
      have f7949 : sI T349 h 3 = 0 := by rw [f7907.2.1]; exact w7876
      have f7950 : sI T349 h 4 = 0 := by rw [f7907.2.1]; exact w7877
      have f7951 : sI T349 h 11 = 0 := by rw [f7907.2.1]; exact w7878
      have f7952 : sI T349 h 12 = 0 := by rw [f7907.2.1]; exact w7879
      have f7953 : sI T349 h 13 = 0 := by rw [f7907.2.1]; exact w7880
      have f7954 : sI T349 h 14 = 0 := by rw [f7907.2.1]; exact w7881
      have f7955 : sI T349 h 15 = 0 := by rw [f7907.2.1]; exact w7882
      have f7956 : sI T349 h 16 = 0 := by rw [f7907.2.1]; exact w7883
      have f7957 : sI T349 h 17 = 0 := by rw [f7907.2.1]; exact w7884
      have f7958 : sI T349 h 18 = 0 := by rw [f7907.2.1]; exact w7885
      have f7959 : sI T349 h 20 = 0 := by rw [f7907.2.1]; exact w7886
      have f7960 : sI T349 h 21 = 0 := by rw [f7907.2.1]; exact w7887
      have f7961 : sI T349 h 22 = 0 := by rw [f7907.2.1]; exact w7888
      have f7962 : sI T349 h 35 = 0 := by rw [f7907.2.1]; exact w7889
      have f7963 : sI T349 h 36 = 0 := by rw [f7907.2.1]; exact w7890
      have f7964 : sI T349 h 53 = 0 := by rw [f7907.2.1]; exact w7891
      have f7965 : sI T349 h 54 = 0 := by rw [f7907.2.1]; exact w7892
      have f7966 : sI T349 h 55 = 0 := by rw [f7907.2.1]; exact w7893
      have f7967 : sI T349 h 60 = 0 := by rw [f7907.2.1]; exact w7894
      have f7968 : sI T349 h 19 = 200 := by rw [f7907.2.1]; exact w7895
      have f7969 : sI T349 h 23 = 400 := by rw [f7907.2.1]; exact w7896
      have f7970 : sI T349 h 24 = 3 := by rw [f7907.2.1]; exact w7897
      have f7971 : sI T349 h 25 = 2 := by rw [f7907.2.1]; exact w7898
      clear f7907
      have f7972 := hkx349 q1 (ni_c (fk_ne k7694 k7701 (by decide)) ni_0) (lt16 k7694 (by decide))
      have f7973 : sK T349 q1 = 10 := by rw [f7972.1]; exact k7694
      have f7974 : sL T349 q1 = 80 := by rw [f7972.2.2.2.2]; exact n7769
      clear f7972
      have f7975 := hkx349 q64 (ni_c d698 ni_0) (lt16 k7695 (by decide))
      have f7976 : sK T349 q64 = 11 := by rw [f7975.1]; exact k7695
      have f7977 : sL T349 q64 = 6 := by rw [f7975.2.2.2.2]; exact n7770
      clear f7975
      have f7978 := hkx349 q134 (ni_c d700 ni_0) (lt16 k7696 (by decide))
      have f7979 : sK T349 q134 = 11 := by rw [f7978.1]; exact k7696
      have f7980 : sL T349 q134 = 6 := by rw [f7978.2.2.2.2]; exact n7771
      clear f7978
      have f7981 := hkx349 q211 (ni_c d702 ni_0) (lt16 k7697 (by decide))
      have f7982 : sK T349 q211 = 11 := by rw [f7981.1]; exact k7697
      have f7983 : sL T349 q211 = 6 := by rw [f7981.2.2.2.2]; exact n7772
      clear f7981
      have f7984 := hkx349 q295 (ni_c d704 ni_0) (lt16 k7698 (by decide))
      have f7985 : sK T349 q295 = 11 := by rw [f7984.1]; exact k7698
      have f7986 : sL T349 q295 = 6 := by rw [f7984.2.2.2.2]; exact n7773
      clear f7984
      have f7987 := hkx349 q386 (ni_c d706 ni_0) (lt16 k7699 (by decide))
      have f7988 : sK T349 q386 = 11 := by rw [f7987.1]; exact k7699
      have f7989 : sL T349 q386 = 6 := by rw [f7987.2.2.2.2]; exact n7774
      clear f7987
      have f7990 := hkx349 q484 (ni_c d708 ni_0) (lt16 k7700 (by decide))
      have f7991 : sK T349 q484 = 11 := by rw [f7990.1]; exact k7700
      have f7992 : sL T349 q484 = 6 := by rw [f7990.2.2.2.2]; exact n7775
      clear f7990
      have f7993 := hkx349 q801 (ni_c (ap_s d822) ni_0) (lt16 k7702 (by decide))
      have f7994 : sK T349 q801 = 11 := by rw [f7993.1]; exact k7702
      have f7995 : sL T349 q801 = 2 := by rw [f7993.2.2.2.2]; exact n7777
      have f7996 : ∀ j, j < 2 → sI T349 q801 j = 300 := fun j hj => by rw [f7993.2.1]; exact hth j hj 
      clear f7993
      have f7997 := hkx349 q922 (ni_c (ap_s d943) ni_0) (lt16 k7703 (by decide))
      have f7998 : sK T349 q922 = 11 := by rw [f7997.1]; exact k7703
      have f7999 : sL T349 q922 = 2 := by rw [f7997.2.2.2.2]; exact n7778
      have f8000 : ∀ j, j < 2 → sI T349 q922 j = 0 := fun j hj => by rw [f7997.2.1]; exact w7899 j hj 
      clear f7997
      have f8001 := hkx349 q1052 (ni_c (ap_s d1073) ni_0) (lt16 k7704 (by decide))
      have f8002 : sK T349 q1052 = 11 := by rw [f8001.1]; exact k7704
      have f8003 : sL T349 q1052 = 2 := by rw [f8001.2.2.2.2]; exact n7779
      have f8004 : ∀ j, j < 2 → sI T349 q1052 j = 0 := fun j hj => by rw [f8001.2.1]; exact w7900 j hj 
      clear f8001
      have f8005 := hkx349 q1191 (ni_c (ap_s d1212) ni_0) (lt16 k7705 (by decide))
      have f8006 : sK T349 q1191 = 11 := by rw [f8005.1]; exact k7705
      have f8007 : sL T349 q1191 = 2 := by rw [f8005.2.2.2.2]; exact n7780
      have f8008 : ∀ j, j < 2 → sI T349 q1191 j = 0 := fun j hj => by rw [f8005.2.1]; exact w7901 j hj 
      clear f8005
      have f8009 := hkx349 q1339 (ni_c (ap_s d1360) ni_0) (lt16 k7706 (by decide))
      have f8010 : sK T349 q1339 = 11 := by rw [f8009.1]; exact k7706
      have f8011 : sL T349 q1339 = 2 := by rw [f8009.2.2.2.2]; exact n7781
      have f8012 : ∀ j, j < 2 → sI T349 q1339 j = 0 := fun j hj => by rw [f8009.2.1]; exact w7902 j hj 
      clear f8009
      have f8013 := hkx349 q1496 (ni_c (ap_s d1517) ni_0) (lt16 k7707 (by decide))
      have f8014 : sK T349 q1496 = 11 := by rw [f8013.1]; exact k7707
      have f8015 : sL T349 q1496 = 2 := by rw [f8013.2.2.2.2]; exact n7782
      have f8016 : ∀ j, j < 2 → sI T349 q1496 j = 0 := fun j hj => by rw [f8013.2.1]; exact w7903 j hj 
      clear f8013
      have f8017 := hkx349 q1662 (ni_c (ap_s d1683) ni_0) (lt16 k7708 (by decide))
      have f8018 : sK T349 q1662 = 11 := by rw [f8017.1]; exact k7708
      have f8019 : sL T349 q1662 = 2 := by rw [f8017.2.2.2.2]; exact n7783
      have f8020 : ∀ j, j < 2 → sI T349 q1662 j = 0 := fun j hj => by rw [f8017.2.1]; exact w7904 j hj 
      clear f8017
      have f8021 := hkx349 q1837 (ni_c (fk_ne k7709 k7701 (by decide)) ni_0) (lt16 k7709 (by decide))
      have f8022 : sK T349 q1837 = 13 := by rw [f8021.1]; exact k7709
      have f8023 : sL T349 q1837 = 2 := by rw [f8021.2.2.2.2]; exact n7784
      have f8024 : ∀ j, j < 2 → sI T349 q1837 j = 0 := fun j hj => by rw [f8021.2.1]; exact w7905 j hj 
      clear f8021
      have f8025 := hkx349 q2021 (ni_c (ap_s d2042) ni_0) (lt16 k7710 (by decide))
      have f8026 : sK T349 q2021 = 11 := by rw [f8025.1]; exact k7710
      have f8027 : sL T349 q2021 = 200 := by rw [f8025.2.2.2.2]; exact n7785
      clear f8025
      have f8028 := hkx349 q2212 (ni_c (ap_s d2233) ni_0) (lt16 k7711 (by decide))
      have f8029 : sK T349 q2212 = 11 := by rw [f8028.1]; exact k7711
      have f8030 : sL T349 q2212 = 200 := by rw [f8028.2.2.2.2]; exact n7786
      clear f8028
      have f8031 := hkx349 q2410 (ni_c (ap_s d2431) ni_0) (lt16 k7712 (by decide))
      have f8032 : sK T349 q2410 = 11 := by rw [f8031.1]; exact k7712
      have f8033 : sL T349 q2410 = 200 := by rw [f8031.2.2.2.2]; exact n7787
      clear f8031
      have f8034 := hkx349 q2615 (ni_c (ap_s d2636) ni_0) (lt16 k7713 (by decide))
      have f8035 : sK T349 q2615 = 11 := by rw [f8034.1]; exact k7713
      have f8036 : sL T349 q2615 = 200 := by rw [f8034.2.2.2.2]; exact n7788
      clear f8034
      have f8037 := hkx349 q2827 (ni_c (ap_s d2848) ni_0) (lt16 k7714 (by decide))
      have f8038 : sK T349 q2827 = 11 := by rw [f8037.1]; exact k7714
      have f8039 : sL T349 q2827 = 200 := by rw [f8037.2.2.2.2]; exact n7789
      clear f8037
      have f8040 := hkx349 q3046 (ni_c (ap_s d3067) ni_0) (lt16 k7715 (by decide))
      have f8041 : sK T349 q3046 = 11 := by rw [f8040.1]; exact k7715
      have f8042 : sL T349 q3046 = 200 := by rw [f8040.2.2.2.2]; exact n7790
      clear f8040
      have f8043 := hkx349 q3272 (ni_c (ap_s d3293) ni_0) (lt16 k7716 (by decide))
      have f8044 : sK T349 q3272 = 11 := by rw [f8043.1]; exact k7716
      have f8045 : sL T349 q3272 = 200 := by rw [f8043.2.2.2.2]; exact n7791
      clear f8043
      have f8046 := hkx349 q3505 (ni_c (ap_s d3526) ni_0) (lt16 k7717 (by decide))
      have f8047 : sK T349 q3505 = 11 := by rw [f8046.1]; exact k7717
      have f8048 : sL T349 q3505 = 200 := by rw [f8046.2.2.2.2]; exact n7792
      clear f8046
      have f8049 := hkx349 q3745 (ni_c (ap_s d3766) ni_0) (lt16 k7718 (by decide))
      have f8050 : sK T349 q3745 = 11 := by rw [f8049.1]; exact k7718
      have f8051 : sL T349 q3745 = 200 := by rw [f8049.2.2.2.2]; exact n7793
      clear f8049
      have f8052 := hkx349 q3992 (ni_c (ap_s d4013) ni_0) (lt16 k7719 (by decide))
      have f8053 : sK T349 q3992 = 11 := by rw [f8052.1]; exact k7719
      have f8054 : sL T349 q3992 = 10 := by rw [f8052.2.2.2.2]; exact n7794
      clear f8052
      have f8055 := hkx349 q4246 (ni_c (ap_s d4267) ni_0) (lt16 k7720 (by decide))
      have f8056 : sK T349 q4246 = 11 := by rw [f8055.1]; exact k7720
      have f8057 : sL T349 q4246 = 10 := by rw [f8055.2.2.2.2]; exact n7795
      clear f8055
      have f8058 := hkx349 q4507 (ni_c (ap_s d4528) ni_0) (lt16 k7721 (by decide))
      have f8059 : sK T349 q4507 = 11 := by rw [f8058.1]; exact k7721
      have f8060 : sL T349 q4507 = 10 := by rw [f8058.2.2.2.2]; exact n7796
      clear f8058
      have f8061 := hkx349 q4775 (ni_c (ap_s d4796) ni_0) (lt16 k7722 (by decide))
      have f8062 : sK T349 q4775 = 11 := by rw [f8061.1]; exact k7722
      have f8063 : sL T349 q4775 = 5 := by rw [f8061.2.2.2.2]; exact n7797
      clear f8061
      have f8064 := hkx349 q5050 (ni_c (ap_s d5071) ni_0) (lt16 k7723 (by decide))
      have f8065 : sK T349 q5050 = 11 := by rw [f8064.1]; exact k7723
      have f8066 : sL T349 q5050 = 5 := by rw [f8064.2.2.2.2]; exact n7798
      clear f8064
      have f8067 := hkx349 q5332 (ni_c (ap_s d5353) ni_0) (lt16 k7724 (by decide))
      have f8068 : sK T349 q5332 = 11 := by rw [f8067.1]; exact k7724
      have f8069 : sL T349 q5332 = 5 := by rw [f8067.2.2.2.2]; exact n7799
      clear f8067
      have f8070 := hkx349 q5621 (ni_c (ap_s d5642) ni_0) (lt16 k7725 (by decide))
      have f8071 : sK T349 q5621 = 11 := by rw [f8070.1]; exact k7725
      have f8072 : sL T349 q5621 = 5 := by rw [f8070.2.2.2.2]; exact n7800
      clear f8070
      have f8073 := hkx349 q5917 (ni_c (ap_s d5938) ni_0) (lt16 k7726 (by decide))
      have f8074 : sK T349 q5917 = 11 := by rw [f8073.1]; exact k7726
      have f8075 : sL T349 q5917 = 8 := by rw [f8073.2.2.2.2]; exact n7801
      clear f8073
      have f8076 := hkx349 q6220 (ni_c (ap_s d6241) ni_0) (lt16 k7727 (by decide))
      have f8077 : sK T349 q6220 = 11 := by rw [f8076.1]; exact k7727
      have f8078 : sL T349 q6220 = 8 := by rw [f8076.2.2.2.2]; exact n7802
      clear f8076
      have f8079 := hkx349 q6530 (ni_c (ap_s d6551) ni_0) (lt16 k7728 (by decide))
      have f8080 : sK T349 q6530 = 11 := by rw [f8079.1]; exact k7728
      have f8081 : sL T349 q6530 = 8 := by rw [f8079.2.2.2.2]; exact n7803
      clear f8079
      have f8082 := hkx349 q6847 (ni_c (ap_s d6868) ni_0) (lt16 k7729 (by decide))
      have f8083 : sK T349 q6847 = 11 := by rw [f8082.1]; exact k7729
      have f8084 : sL T349 q6847 = 8 := by rw [f8082.2.2.2.2]; exact n7804
      clear f8082
      have f8085 := hkx349 q7171 (ni_c (ap_s d7192) ni_0) (lt16 k7730 (by decide))
      have f8086 : sK T349 q7171 = 11 := by rw [f8085.1]; exact k7730
      have f8087 : sL T349 q7171 = 6 := by rw [f8085.2.2.2.2]; exact n7805
      clear f8085
      have f8088 := hkx349 q7502 (ni_c (fk_ne k7731 k7701 (by decide)) ni_0) (lt16 k7731 (by decide))
      have f8089 : sK T349 q7502 = 12 := by rw [f8088.1]; exact k7731
      have f8090 : sL T349 q7502 = 6 := by rw [f8088.2.2.2.2]; exact n7806
      have f8091 : ∀ j, sJ T349 q7502 j = 0 := fun j => by rw [f8088.2.2.2.1]; exact w7840 j 
      clear f8088
      have hX : Kx [h] S T349 := hX.tr hkx349 (q1_ (Or.inl o692))
      have hni : (nI i).toInt = (i : Int) := nI_toInt (by omega)
      refine lv_iload_n hx hb dX9_init_349 rfl (lv_at hl 1 rfl) ?_
      refine lv_bipush (v := 24) hx hb dX9_init_350 (by decide) ?_
      refine lv_icmp_ge (tgt := 369) hx hb dX9_init_352 (by decide) (fun c8092 => ?_) (fun c8092 => ?_)
      · have c8092i : (24 : Int) ≤ Int32.toInt (nI i) := (i3_le _ _).mp c8092
        have hi6 : i = 24 := by omega
        subst hi6
        refine lv_iconst (v := 0) hx hb dX9_init_369 (by decide) ?_
        refine lv_istore_n (lv' := [(1, .int 0), (0, .ref h)]) hx hb dX9_init_370 rfl hl (by decide) rfl (fun ls hl => ?_)
        have loop8093 : ∀ (n : Nat) (i : Nat) (T371 : St) (H : Heap) (locs : List Loc) (ls : Array Slot), (Kx [q64, q134, q211, q295, q386, q484] T349 T371) → (sK T371 q64 = 11) → (sL T371 q64 = 6) → (sK T371 q134 = 11) → (sL T371 q134 = 6) → (sK T371 q211 = 11) → (sL T371 q211 = 6) → (sK T371 q295 = 11) → (sL T371 q295 = 6) → (sK T371 q386 = 11) → (sL T371 q386 = 6) → (sK T371 q484 = 11) → (sL T371 q484 = 6) → (i ≤ 6) → (∀ j, j < i → sI T371 q64 j = 16777215) → (∀ j, j < i → sI T371 q134 j = 127) → (∀ j, j < i → sI T371 q211 j = 15) → (∀ j, j < i → sI T371 q295 j = 168) → (∀ j, j < i → sI T371 q386 j = 100) → (∀ j, j < i → sI T371 q484 j = 50) → 6 - i < n → PW D cy A T371 H → va_S A s.heap H locs → lv_has ls 2 [(0, .ref h), (1, .int (nI i))] → W p l e ({ frames := 1, cells := 38, slots := 2050, locals := 60 } : Room) s m args below meth c H locs 38 2050 (MQ below (va_Qv (fun S1 => Kx [h] S S1 ∧ ∃ m_tape, 16 ≤ sK S m_tape ∧ ∃ m_clocks, 16 ≤ sK S m_clocks ∧ ∃ m_daysOf, 16 ≤ sK S m_daysOf ∧ ∃ m_kinds, 16 ≤ sK S m_kinds ∧ ∃ m_limit, 16 ≤ sK S m_limit ∧ ∃ m_fee, 16 ≤ sK S m_fee ∧ ∃ m_hundredths, 16 ≤ sK S m_hundredths ∧ ∃ m_priceOf, 16 ≤ sK S m_priceOf ∧ ∃ m_thick, 16 ≤ sK S m_thick ∧ ∃ m_ruts, 16 ≤ sK S m_ruts ∧ ∃ m_shaved, 16 ≤ sK S m_shaved ∧ ∃ m_flooded, 16 ≤ sK S m_flooded ∧ ∃ m_melted, 16 ≤ sK S m_melted ∧ ∃ m_cutShave, 16 ≤ sK S m_cutShave ∧ ∃ m_cutFlood, 16 ≤ sK S m_cutFlood ∧ ∃ m_hasCut, 16 ≤ sK S m_hasCut ∧ ∃ m_clubOf, 16 ≤ sK S m_clubOf ∧ ∃ m_kindOf, 16 ≤ sK S m_kindOf ∧ ∃ m_sheetOf, 16 ≤ sK S m_sheetOf ∧ ∃ m_hourOf, 16 ≤ sK S m_hourOf ∧ ∃ m_state, 16 ≤ sK S m_state ∧ ∃ m_why, 16 ≤ sK S m_why ∧ ∃ m_feeOf, 16 ≤ sK S m_feeOf ∧ ∃ m_partOf, 16 ≤ sK S m_partOf ∧ ∃ m_moved, 16 ≤ sK S m_moved ∧ ∃ m_closedSheet, 16 ≤ sK S m_closedSheet ∧ ∃ m_closedFrom, 16 ≤ sK S m_closedFrom ∧ ∃ m_closedTo, 16 ≤ sK S m_closedTo ∧ ∃ m_out, 16 ≤ sK S m_out ∧ ∃ m_way, 16 ≤ sK S m_way ∧ ∃ m_best, 16 ≤ sK S m_best ∧ ∃ m_wayHour, 16 ≤ sK S m_wayHour ∧ ∃ m_wants, 16 ≤ sK S m_wants ∧ ∃ m_row, 16 ≤ sK S m_row ∧ ∃ m_bestRow, 16 ≤ sK S m_bestRow ∧ ∃ m_told, 16 ≤ sK S m_told ∧ ∃ m_share, 16 ≤ sK S m_share ∧ ∃ m_over, 16 ≤ sK S m_over ∧ sK S1 h = 9 ∧ sR S1 h 0 = some m_tape ∧ sK S1 m_tape = 10 ∧ sL S1 m_tape = 80 ∧ sR S1 h 5 = some m_clocks ∧ sK S1 m_clocks = 11 ∧ sL S1 m_clocks = 6 ∧ sR S1 h 6 = some m_daysOf ∧ sK S1 m_daysOf = 11 ∧ sL S1 m_daysOf = 6 ∧ sR S1 h 7 = some m_kinds ∧ sK S1 m_kinds = 11 ∧ sL S1 m_kinds = 6 ∧ sR S1 h 8 = some m_limit ∧ sK S1 m_limit = 11 ∧ sL S1 m_limit = 6 ∧ sR S1 h 9 = some m_fee ∧ sK S1 m_fee = 11 ∧ sL S1 m_fee = 6 ∧ sR S1 h 10 = some m_hundredths ∧ sK S1 m_hundredths = 11 ∧ sL S1 m_hundredths = 6 ∧ sR S1 h 26 = some m_priceOf ∧ sK S1 m_priceOf = 11 ∧ sL S1 m_priceOf = 24 ∧ sR S1 h 27 = some m_thick ∧ sK S1 m_thick = 11 ∧ sL S1 m_thick = 2 ∧ sR S1 h 28 = some m_ruts ∧ sK S1 m_ruts = 11 ∧ sL S1 m_ruts = 2 ∧ sR S1 h 29 = some m_shaved ∧ sK S1 m_shaved = 11 ∧ sL S1 m_shaved = 2 ∧ sR S1 h 30 = some m_flooded ∧ sK S1 m_flooded = 11 ∧ sL S1 m_flooded = 2 ∧ sR S1 h 31 = some m_melted ∧ sK S1 m_melted = 11 ∧ sL S1 m_melted = 2 ∧ sR S1 h 32 = some m_cutShave ∧ sK S1 m_cutShave = 11 ∧ sL S1 m_cutShave = 2 ∧ sR S1 h 33 = some m_cutFlood ∧ sK S1 m_cutFlood = 11 ∧ sL S1 m_cutFlood = 2 ∧ sR S1 h 34 = some m_hasCut ∧ sK S1 m_hasCut = 13 ∧ sL S1 m_hasCut = 2 ∧ sR S1 h 37 = some m_clubOf ∧ sK S1 m_clubOf = 11 ∧ sL S1 m_clubOf = 200 ∧ sR S1 h 38 = some m_kindOf ∧ sK S1 m_kindOf = 11 ∧ sL S1 m_kindOf = 200 ∧ sR S1 h 39 = some m_sheetOf ∧ sK S1 m_sheetOf = 11 ∧ sL S1 m_sheetOf = 200 ∧ sR S1 h 40 = some m_hourOf ∧ sK S1 m_hourOf = 11 ∧ sL S1 m_hourOf = 200 ∧ sR S1 h 41 = some m_state ∧ sK S1 m_state = 11 ∧ sL S1 m_state = 200 ∧ sR S1 h 42 = some m_why ∧ sK S1 m_why = 11 ∧ sL S1 m_why = 200 ∧ sR S1 h 43 = some m_feeOf ∧ sK S1 m_feeOf = 11 ∧ sL S1 m_feeOf = 200 ∧ sR S1 h 44 = some m_partOf ∧ sK S1 m_partOf = 11 ∧ sL S1 m_partOf = 200 ∧ sR S1 h 45 = some m_moved ∧ sK S1 m_moved = 11 ∧ sL S1 m_moved = 200 ∧ sR S1 h 46 = some m_closedSheet ∧ sK S1 m_closedSheet = 11 ∧ sL S1 m_closedSheet = 10 ∧ sR S1 h 47 = some m_closedFrom ∧ sK S1 m_closedFrom = 11 ∧ sL S1 m_closedFrom = 10 ∧ sR S1 h 48 = some m_closedTo ∧ sK S1 m_closedTo = 11 ∧ sL S1 m_closedTo = 10 ∧ sR S1 h 49 = some m_out ∧ sK S1 m_out = 11 ∧ sL S1 m_out = 5 ∧ sR S1 h 50 = some m_way ∧ sK S1 m_way = 11 ∧ sL S1 m_way = 5 ∧ sR S1 h 51 = some m_best ∧ sK S1 m_best = 11 ∧ sL S1 m_best = 5 ∧ sR S1 h 52 = some m_wayHour ∧ sK S1 m_wayHour = 11 ∧ sL S1 m_wayHour = 5 ∧ sR S1 h 56 = some m_wants ∧ sK S1 m_wants = 11 ∧ sL S1 m_wants = 8 ∧ sR S1 h 57 = some m_row ∧ sK S1 m_row = 11 ∧ sL S1 m_row = 8 ∧ sR S1 h 58 = some m_bestRow ∧ sK S1 m_bestRow = 11 ∧ sL S1 m_bestRow = 8 ∧ sR S1 h 59 = some m_told ∧ sK S1 m_told = 11 ∧ sL S1 m_told = 8 ∧ sR S1 h 61 = some m_share ∧ sK S1 m_share = 11 ∧ sL S1 m_share = 6 ∧ sR S1 h 62 = some m_over ∧ sK S1 m_over = 12 ∧ sL S1 m_over = 6 ∧ (∀ j, j < 2 → sI S1 m_ruts j = 0) ∧ (∀ j, j < 2 → sI S1 m_shaved j = 0) ∧ (∀ j, j < 2 → sI S1 m_flooded j = 0) ∧ (∀ j, j < 2 → sI S1 m_melted j = 0) ∧ (∀ j, j < 2 → sI S1 m_cutShave j = 0) ∧ (∀ j, j < 2 → sI S1 m_cutFlood j = 0) ∧ (∀ j, j < 2 → sI S1 m_hasCut j = 0) ∧ (∀ j, j < 2 → sI S1 m_thick j = 300) ∧ (∀ j, j < 24 → sI S1 m_priceOf j = 10) ∧ (∀ j, j < 6 → sI S1 m_clocks j = 16777215) ∧ (∀ j, j < 6 → sI S1 m_daysOf j = 127) ∧ (∀ j, j < 6 → sI S1 m_kinds j = 15) ∧ (∀ j, j < 6 → sI S1 m_limit j = 168) ∧ (∀ j, j < 6 → sI S1 m_fee j = 100) ∧ (∀ j, j < 6 → sI S1 m_hundredths j = 50) ∧ sI S1 h 1 = 0 ∧ sI S1 h 2 = 0 ∧ sI S1 h 3 = 0 ∧ sI S1 h 4 = 0 ∧ sI S1 h 11 = 0 ∧ sI S1 h 12 = 0 ∧ sI S1 h 13 = 0 ∧ sI S1 h 14 = 0 ∧ sI S1 h 15 = 0 ∧ sI S1 h 16 = 0 ∧ sI S1 h 17 = 0 ∧ sI S1 h 18 = 0 ∧ sI S1 h 19 = 200 ∧ sI S1 h 20 = 0 ∧ sI S1 h 21 = 0 ∧ sI S1 h 22 = 0 ∧ sI S1 h 23 = 400 ∧ sI S1 h 24 = 3 ∧ sI S1 h 25 = 2 ∧ sI S1 h 35 = 0 ∧ sI S1 h 36 = 0 ∧ sI S1 h 53 = 0 ∧ sI S1 h 54 = 0 ∧ sI S1 h 55 = 0 ∧ sI S1 h 60 = 0 ∧ Ap m_wants m_row ∧ Ap m_wants m_bestRow ∧ Ap m_row m_bestRow ∧ Ap m_priceOf m_wants ∧ Ap m_priceOf m_row ∧ Ap m_priceOf m_bestRow) (PU D cy A) A) args s 38 2050 A) (F0 m 371 ls []) := by
          intro n
          induction n with
          | zero => intros; exact absurd (by assumption) (Nat.not_lt_zero _)
          | succ n ih371 =>
            intro i T371 H locs ls hkx371 hck371_0 hcn371_0 hck371_1 hcn371_1 hck371_2 hcn371_2 hck371_3 hcn371_3 hck371_4 hcn371_4 hck371_5 hcn371_5 hle2 hq0 hq1 hq2 hq3 hq4 hq5 hme hW hS hl
            have f8094 := hkx371 h (ni_c (fk_ne f7908 f7976 (by decide)) (ni_c (fk_ne f7908 f7979 (by decide)) (ni_c (fk_ne f7908 f7982 (by decide)) (ni_c (fk_ne f7908 f7985 (by decide)) (ni_c (fk_ne f7908 f7988 (by decide)) (ni_c (fk_ne f7908 f7991 (by decide)) ni_0)))))) (lt16 f7908 (by decide))
            have f8095 : sK T371 h = 9 := by rw [f8094.1]; exact f7908
            have f8096 : sR T371 h 0 = some q1 := by rw [f8094.2.2.1]; exact f7909
            have f8097 : sR T371 h 5 = some q64 := by rw [f8094.2.2.1]; exact f7910
            have f8098 : sR T371 h 6 = some q134 := by rw [f8094.2.2.1]; exact f7911
            have f8099 : sR T371 h 7 = some q211 := by rw [f8094.2.2.1]; exact f7912
            have f8100 : sR T371 h 8 = some q295 := by rw [f8094.2.2.1]; exact f7913
            have f8101 : sR T371 h 9 = some q386 := by rw [f8094.2.2.1]; exact f7914
            have f8102 : sR T371 h 10 = some q484 := by rw [f8094.2.2.1]; exact f7915
            have f8103 : sR T371 h 26 = some q689 := by rw [f8094.2.2.1]; exact f7916
            have f8104 : sR T371 h 27 = some q801 := by rw [f8094.2.2.1]; exact f7917
            have f8105 : sR T371 h 28 = some q922 := by rw [f8094.2.2.1]; exact f7918
            have f8106 : sR T371 h 29 = some q1052 := by rw [f8094.2.2.1]; exact f7919
            have f8107 : sR T371 h 30 = some q1191 := by rw [f8094.2.2.1]; exact f7920
            have f8108 : sR T371 h 31 = some q1339 := by rw [f8094.2.2.1]; exact f7921
            have f8109 : sR T371 h 32 = some q1496 := by rw [f8094.2.2.1]; exact f7922
            have f8110 : sR T371 h 33 = some q1662 := by rw [f8094.2.2.1]; exact f7923
            have f8111 : sR T371 h 34 = some q1837 := by rw [f8094.2.2.1]; exact f7924
            have f8112 : sR T371 h 37 = some q2021 := by rw [f8094.2.2.1]; exact f7925
            have f8113 : sR T371 h 38 = some q2212 := by rw [f8094.2.2.1]; exact f7926
            have f8114 : sR T371 h 39 = some q2410 := by rw [f8094.2.2.1]; exact f7927
            have f8115 : sR T371 h 40 = some q2615 := by rw [f8094.2.2.1]; exact f7928
            have f8116 : sR T371 h 41 = some q2827 := by rw [f8094.2.2.1]; exact f7929
            have f8117 : sR T371 h 42 = some q3046 := by rw [f8094.2.2.1]; exact f7930
            have f8118 : sR T371 h 43 = some q3272 := by rw [f8094.2.2.1]; exact f7931
            have f8119 : sR T371 h 44 = some q3505 := by rw [f8094.2.2.1]; exact f7932
            have f8120 : sR T371 h 45 = some q3745 := by rw [f8094.2.2.1]; exact f7933
            have f8121 : sR T371 h 46 = some q3992 := by rw [f8094.2.2.1]; exact f7934
            have f8122 : sR T371 h 47 = some q4246 := by rw [f8094.2.2.1]; exact f7935
            have f8123 : sR T371 h 48 = some q4507 := by rw [f8094.2.2.1]; exact f7936
            have f8124 : sR T371 h 49 = some q4775 := by rw [f8094.2.2.1]; exact f7937
            have f8125 : sR T371 h 50 = some q5050 := by rw [f8094.2.2.1]; exact f7938
            have f8126 : sR T371 h 51 = some q5332 := by rw [f8094.2.2.1]; exact f7939
            have f8127 : sR T371 h 52 = some q5621 := by rw [f8094.2.2.1]; exact f7940
            have f8128 : sR T371 h 56 = some q5917 := by rw [f8094.2.2.1]; exact f7941
            have f8129 : sR T371 h 57 = some q6220 := by rw [f8094.2.2.1]; exact f7942
            have f8130 : sR T371 h 58 = some q6530 := by rw [f8094.2.2.1]; exact f7943
            have f8131 : sR T371 h 59 = some q6847 := by rw [f8094.2.2.1]; exact f7944
            have f8132 : sR T371 h 61 = some q7171 := by rw [f8094.2.2.1]; exact f7945
            have f8133 : sR T371 h 62 = some q7502 := by rw [f8094.2.2.1]; exact f7946
            have f8134 : sI T371 h 1 = 0 := by rw [f8094.2.1]; exact f7947
            have f8135 : sI T371 h 2 = 0 := by rw [f8094.2.1]; exact f7948
            have f8136 : sI T371 h 3 = 0 := by rw [f8094.2.1]; exact f7949
            have f8137 : sI T371 h 4 = 0 := by rw [f8094.2.1]; exact f7950
            have f8138 : sI T371 h 11 = 0 := by rw [f8094.2.1]; exact f7951
            have f8139 : sI T371 h 12 = 0 := by rw [f8094.2.1]; exact f7952
            have f8140 : sI T371 h 13 = 0 := by rw [f8094.2.1]; exact f7953
            have f8141 : sI T371 h 14 = 0 := by rw [f8094.2.1]; exact f7954
            have f8142 : sI T371 h 15 = 0 := by rw [f8094.2.1]; exact f7955
            have f8143 : sI T371 h 16 = 0 := by rw [f8094.2.1]; exact f7956
            have f8144 : sI T371 h 17 = 0 := by rw [f8094.2.1]; exact f7957
            have f8145 : sI T371 h 18 = 0 := by rw [f8094.2.1]; exact f7958
            have f8146 : sI T371 h 20 = 0 := by rw [f8094.2.1]; exact f7959
            have f8147 : sI T371 h 21 = 0 := by rw [f8094.2.1]; exact f7960
            have f8148 : sI T371 h 22 = 0 := by rw [f8094.2.1]; exact f7961
            have f8149 : sI T371 h 35 = 0 := by rw [f8094.2.1]; exact f7962
            have f8150 : sI T371 h 36 = 0 := by rw [f8094.2.1]; exact f7963
            have f8151 : sI T371 h 53 = 0 := by rw [f8094.2.1]; exact f7964
            have f8152 : sI T371 h 54 = 0 := by rw [f8094.2.1]; exact f7965
            have f8153 : sI T371 h 55 = 0 := by rw [f8094.2.1]; exact f7966
            have f8154 : sI T371 h 60 = 0 := by rw [f8094.2.1]; exact f7967
            have f8155 : sI T371 h 19 = 200 := by rw [f8094.2.1]; exact f7968
            have f8156 : sI T371 h 23 = 400 := by rw [f8094.2.1]; exact f7969
            have f8157 : sI T371 h 24 = 3 := by rw [f8094.2.1]; exact f7970
            have f8158 : sI T371 h 25 = 2 := by rw [f8094.2.1]; exact f7971
            clear f8094
            have f8159 := hkx371 q1 (ni_c (fk_ne f7973 f7976 (by decide)) (ni_c (fk_ne f7973 f7979 (by decide)) (ni_c (fk_ne f7973 f7982 (by decide)) (ni_c (fk_ne f7973 f7985 (by decide)) (ni_c (fk_ne f7973 f7988 (by decide)) (ni_c (fk_ne f7973 f7991 (by decide)) ni_0)))))) (lt16 f7973 (by decide))
            have f8160 : sK T371 q1 = 10 := by rw [f8159.1]; exact f7973
            have f8161 : sL T371 q1 = 80 := by rw [f8159.2.2.2.2]; exact f7974
            clear f8159
            have f8162 := hkx371 q801 (ni_c (ap_s d810) (ni_c (ap_s d812) (ni_c (ap_s d814) (ni_c (ap_s d816) (ni_c (ap_s d818) (ni_c (ap_s d820) ni_0)))))) (lt16 f7994 (by decide))
            have f8163 : sK T371 q801 = 11 := by rw [f8162.1]; exact f7994
            have f8164 : sL T371 q801 = 2 := by rw [f8162.2.2.2.2]; exact f7995
            have f8165 : ∀ j, j < 2 → sI T371 q801 j = 300 := fun j hj => by rw [f8162.2.1]; exact f7996 j hj 
            clear f8162
            have f8166 := hkx371 q922 (ni_c (ap_s d931) (ni_c (ap_s d933) (ni_c (ap_s d935) (ni_c (ap_s d937) (ni_c (ap_s d939) (ni_c (ap_s d941) ni_0)))))) (lt16 f7998 (by decide))
            have f8167 : sK T371 q922 = 11 := by rw [f8166.1]; exact f7998
            have f8168 : sL T371 q922 = 2 := by rw [f8166.2.2.2.2]; exact f7999
            have f8169 : ∀ j, j < 2 → sI T371 q922 j = 0 := fun j hj => by rw [f8166.2.1]; exact f8000 j hj 
            clear f8166
            have f8170 := hkx371 q1052 (ni_c (ap_s d1061) (ni_c (ap_s d1063) (ni_c (ap_s d1065) (ni_c (ap_s d1067) (ni_c (ap_s d1069) (ni_c (ap_s d1071) ni_0)))))) (lt16 f8002 (by decide))
            have f8171 : sK T371 q1052 = 11 := by rw [f8170.1]; exact f8002
            have f8172 : sL T371 q1052 = 2 := by rw [f8170.2.2.2.2]; exact f8003
            have f8173 : ∀ j, j < 2 → sI T371 q1052 j = 0 := fun j hj => by rw [f8170.2.1]; exact f8004 j hj 
            clear f8170
            have f8174 := hkx371 q1191 (ni_c (ap_s d1200) (ni_c (ap_s d1202) (ni_c (ap_s d1204) (ni_c (ap_s d1206) (ni_c (ap_s d1208) (ni_c (ap_s d1210) ni_0)))))) (lt16 f8006 (by decide))
            have f8175 : sK T371 q1191 = 11 := by rw [f8174.1]; exact f8006
            have f8176 : sL T371 q1191 = 2 := by rw [f8174.2.2.2.2]; exact f8007
            have f8177 : ∀ j, j < 2 → sI T371 q1191 j = 0 := fun j hj => by rw [f8174.2.1]; exact f8008 j hj 
            clear f8174
            have f8178 := hkx371 q1339 (ni_c (ap_s d1348) (ni_c (ap_s d1350) (ni_c (ap_s d1352) (ni_c (ap_s d1354) (ni_c (ap_s d1356) (ni_c (ap_s d1358) ni_0)))))) (lt16 f8010 (by decide))
            have f8179 : sK T371 q1339 = 11 := by rw [f8178.1]; exact f8010
            have f8180 : sL T371 q1339 = 2 := by rw [f8178.2.2.2.2]; exact f8011
            have f8181 : ∀ j, j < 2 → sI T371 q1339 j = 0 := fun j hj => by rw [f8178.2.1]; exact f8012 j hj 
            clear f8178
            have f8182 := hkx371 q1496 (ni_c (ap_s d1505) (ni_c (ap_s d1507) (ni_c (ap_s d1509) (ni_c (ap_s d1511) (ni_c (ap_s d1513) (ni_c (ap_s d1515) ni_0)))))) (lt16 f8014 (by decide))
            have f8183 : sK T371 q1496 = 11 := by rw [f8182.1]; exact f8014
            have f8184 : sL T371 q1496 = 2 := by rw [f8182.2.2.2.2]; exact f8015
            have f8185 : ∀ j, j < 2 → sI T371 q1496 j = 0 := fun j hj => by rw [f8182.2.1]; exact f8016 j hj 
            clear f8182
            have f8186 := hkx371 q1662 (ni_c (ap_s d1671) (ni_c (ap_s d1673) (ni_c (ap_s d1675) (ni_c (ap_s d1677) (ni_c (ap_s d1679) (ni_c (ap_s d1681) ni_0)))))) (lt16 f8018 (by decide))
            have f8187 : sK T371 q1662 = 11 := by rw [f8186.1]; exact f8018
            have f8188 : sL T371 q1662 = 2 := by rw [f8186.2.2.2.2]; exact f8019
            have f8189 : ∀ j, j < 2 → sI T371 q1662 j = 0 := fun j hj => by rw [f8186.2.1]; exact f8020 j hj 
            clear f8186
            have f8190 := hkx371 q1837 (ni_c (fk_ne f8022 f7976 (by decide)) (ni_c (fk_ne f8022 f7979 (by decide)) (ni_c (fk_ne f8022 f7982 (by decide)) (ni_c (fk_ne f8022 f7985 (by decide)) (ni_c (fk_ne f8022 f7988 (by decide)) (ni_c (fk_ne f8022 f7991 (by decide)) ni_0)))))) (lt16 f8022 (by decide))
            have f8191 : sK T371 q1837 = 13 := by rw [f8190.1]; exact f8022
            have f8192 : sL T371 q1837 = 2 := by rw [f8190.2.2.2.2]; exact f8023
            have f8193 : ∀ j, j < 2 → sI T371 q1837 j = 0 := fun j hj => by rw [f8190.2.1]; exact f8024 j hj 
            clear f8190
            have f8194 := hkx371 q2021 (ni_c (ap_s d2030) (ni_c (ap_s d2032) (ni_c (ap_s d2034) (ni_c (ap_s d2036) (ni_c (ap_s d2038) (ni_c (ap_s d2040) ni_0)))))) (lt16 f8026 (by decide))
            have f8195 : sK T371 q2021 = 11 := by rw [f8194.1]; exact f8026
            have f8196 : sL T371 q2021 = 200 := by rw [f8194.2.2.2.2]; exact f8027
            clear f8194
            have f8197 := hkx371 q2212 (ni_c (ap_s d2221) (ni_c (ap_s d2223) (ni_c (ap_s d2225) (ni_c (ap_s d2227) (ni_c (ap_s d2229) (ni_c (ap_s d2231) ni_0)))))) (lt16 f8029 (by decide))
            have f8198 : sK T371 q2212 = 11 := by rw [f8197.1]; exact f8029
            have f8199 : sL T371 q2212 = 200 := by rw [f8197.2.2.2.2]; exact f8030
            clear f8197
            have f8200 := hkx371 q2410 (ni_c (ap_s d2419) (ni_c (ap_s d2421) (ni_c (ap_s d2423) (ni_c (ap_s d2425) (ni_c (ap_s d2427) (ni_c (ap_s d2429) ni_0)))))) (lt16 f8032 (by decide))
            have f8201 : sK T371 q2410 = 11 := by rw [f8200.1]; exact f8032
            have f8202 : sL T371 q2410 = 200 := by rw [f8200.2.2.2.2]; exact f8033
            clear f8200
            have f8203 := hkx371 q2615 (ni_c (ap_s d2624) (ni_c (ap_s d2626) (ni_c (ap_s d2628) (ni_c (ap_s d2630) (ni_c (ap_s d2632) (ni_c (ap_s d2634) ni_0)))))) (lt16 f8035 (by decide))
            have f8204 : sK T371 q2615 = 11 := by rw [f8203.1]; exact f8035
            have f8205 : sL T371 q2615 = 200 := by rw [f8203.2.2.2.2]; exact f8036
            clear f8203
            have f8206 := hkx371 q2827 (ni_c (ap_s d2836) (ni_c (ap_s d2838) (ni_c (ap_s d2840) (ni_c (ap_s d2842) (ni_c (ap_s d2844) (ni_c (ap_s d2846) ni_0)))))) (lt16 f8038 (by decide))
            have f8207 : sK T371 q2827 = 11 := by rw [f8206.1]; exact f8038
            have f8208 : sL T371 q2827 = 200 := by rw [f8206.2.2.2.2]; exact f8039
            clear f8206
            have f8209 := hkx371 q3046 (ni_c (ap_s d3055) (ni_c (ap_s d3057) (ni_c (ap_s d3059) (ni_c (ap_s d3061) (ni_c (ap_s d3063) (ni_c (ap_s d3065) ni_0)))))) (lt16 f8041 (by decide))
            have f8210 : sK T371 q3046 = 11 := by rw [f8209.1]; exact f8041
            have f8211 : sL T371 q3046 = 200 := by rw [f8209.2.2.2.2]; exact f8042
            clear f8209
            have f8212 := hkx371 q3272 (ni_c (ap_s d3281) (ni_c (ap_s d3283) (ni_c (ap_s d3285) (ni_c (ap_s d3287) (ni_c (ap_s d3289) (ni_c (ap_s d3291) ni_0)))))) (lt16 f8044 (by decide))
            have f8213 : sK T371 q3272 = 11 := by rw [f8212.1]; exact f8044
            have f8214 : sL T371 q3272 = 200 := by rw [f8212.2.2.2.2]; exact f8045
            clear f8212
            have f8215 := hkx371 q3505 (ni_c (ap_s d3514) (ni_c (ap_s d3516) (ni_c (ap_s d3518) (ni_c (ap_s d3520) (ni_c (ap_s d3522) (ni_c (ap_s d3524) ni_0)))))) (lt16 f8047 (by decide))
            have f8216 : sK T371 q3505 = 11 := by rw [f8215.1]; exact f8047
            have f8217 : sL T371 q3505 = 200 := by rw [f8215.2.2.2.2]; exact f8048
            clear f8215
            have f8218 := hkx371 q3745 (ni_c (ap_s d3754) (ni_c (ap_s d3756) (ni_c (ap_s d3758) (ni_c (ap_s d3760) (ni_c (ap_s d3762) (ni_c (ap_s d3764) ni_0)))))) (lt16 f8050 (by decide))
            have f8219 : sK T371 q3745 = 11 := by rw [f8218.1]; exact f8050
            have f8220 : sL T371 q3745 = 200 := by rw [f8218.2.2.2.2]; exact f8051
            clear f8218
            have f8221 := hkx371 q3992 (ni_c (ap_s d4001) (ni_c (ap_s d4003) (ni_c (ap_s d4005) (ni_c (ap_s d4007) (ni_c (ap_s d4009) (ni_c (ap_s d4011) ni_0)))))) (lt16 f8053 (by decide))
            have f8222 : sK T371 q3992 = 11 := by rw [f8221.1]; exact f8053
            have f8223 : sL T371 q3992 = 10 := by rw [f8221.2.2.2.2]; exact f8054
            clear f8221
            have f8224 := hkx371 q4246 (ni_c (ap_s d4255) (ni_c (ap_s d4257) (ni_c (ap_s d4259) (ni_c (ap_s d4261) (ni_c (ap_s d4263) (ni_c (ap_s d4265) ni_0)))))) (lt16 f8056 (by decide))
            have f8225 : sK T371 q4246 = 11 := by rw [f8224.1]; exact f8056
            have f8226 : sL T371 q4246 = 10 := by rw [f8224.2.2.2.2]; exact f8057
            clear f8224
            have f8227 := hkx371 q4507 (ni_c (ap_s d4516) (ni_c (ap_s d4518) (ni_c (ap_s d4520) (ni_c (ap_s d4522) (ni_c (ap_s d4524) (ni_c (ap_s d4526) ni_0)))))) (lt16 f8059 (by decide))
            have f8228 : sK T371 q4507 = 11 := by rw [f8227.1]; exact f8059
            have f8229 : sL T371 q4507 = 10 := by rw [f8227.2.2.2.2]; exact f8060
            clear f8227
            have f8230 := hkx371 q4775 (ni_c (ap_s d4784) (ni_c (ap_s d4786) (ni_c (ap_s d4788) (ni_c (ap_s d4790) (ni_c (ap_s d4792) (ni_c (ap_s d4794) ni_0)))))) (lt16 f8062 (by decide))
            have f8231 : sK T371 q4775 = 11 := by rw [f8230.1]; exact f8062
            have f8232 : sL T371 q4775 = 5 := by rw [f8230.2.2.2.2]; exact f8063
            clear f8230
            have f8233 := hkx371 q5050 (ni_c (ap_s d5059) (ni_c (ap_s d5061) (ni_c (ap_s d5063) (ni_c (ap_s d5065) (ni_c (ap_s d5067) (ni_c (ap_s d5069) ni_0)))))) (lt16 f8065 (by decide))
            have f8234 : sK T371 q5050 = 11 := by rw [f8233.1]; exact f8065
            have f8235 : sL T371 q5050 = 5 := by rw [f8233.2.2.2.2]; exact f8066
            clear f8233
            have f8236 := hkx371 q5332 (ni_c (ap_s d5341) (ni_c (ap_s d5343) (ni_c (ap_s d5345) (ni_c (ap_s d5347) (ni_c (ap_s d5349) (ni_c (ap_s d5351) ni_0)))))) (lt16 f8068 (by decide))
            have f8237 : sK T371 q5332 = 11 := by rw [f8236.1]; exact f8068
            have f8238 : sL T371 q5332 = 5 := by rw [f8236.2.2.2.2]; exact f8069
            clear f8236
            have f8239 := hkx371 q5621 (ni_c (ap_s d5630) (ni_c (ap_s d5632) (ni_c (ap_s d5634) (ni_c (ap_s d5636) (ni_c (ap_s d5638) (ni_c (ap_s d5640) ni_0)))))) (lt16 f8071 (by decide))
            have f8240 : sK T371 q5621 = 11 := by rw [f8239.1]; exact f8071
            have f8241 : sL T371 q5621 = 5 := by rw [f8239.2.2.2.2]; exact f8072
            clear f8239
            have f8242 := hkx371 q5917 (ni_c (ap_s d5926) (ni_c (ap_s d5928) (ni_c (ap_s d5930) (ni_c (ap_s d5932) (ni_c (ap_s d5934) (ni_c (ap_s d5936) ni_0)))))) (lt16 f8074 (by decide))
            have f8243 : sK T371 q5917 = 11 := by rw [f8242.1]; exact f8074
            have f8244 : sL T371 q5917 = 8 := by rw [f8242.2.2.2.2]; exact f8075
            clear f8242
            have f8245 := hkx371 q6220 (ni_c (ap_s d6229) (ni_c (ap_s d6231) (ni_c (ap_s d6233) (ni_c (ap_s d6235) (ni_c (ap_s d6237) (ni_c (ap_s d6239) ni_0)))))) (lt16 f8077 (by decide))
            have f8246 : sK T371 q6220 = 11 := by rw [f8245.1]; exact f8077
            have f8247 : sL T371 q6220 = 8 := by rw [f8245.2.2.2.2]; exact f8078
            clear f8245
            have f8248 := hkx371 q6530 (ni_c (ap_s d6539) (ni_c (ap_s d6541) (ni_c (ap_s d6543) (ni_c (ap_s d6545) (ni_c (ap_s d6547) (ni_c (ap_s d6549) ni_0)))))) (lt16 f8080 (by decide))
            have f8249 : sK T371 q6530 = 11 := by rw [f8248.1]; exact f8080
            have f8250 : sL T371 q6530 = 8 := by rw [f8248.2.2.2.2]; exact f8081
            clear f8248
            have f8251 := hkx371 q6847 (ni_c (ap_s d6856) (ni_c (ap_s d6858) (ni_c (ap_s d6860) (ni_c (ap_s d6862) (ni_c (ap_s d6864) (ni_c (ap_s d6866) ni_0)))))) (lt16 f8083 (by decide))
            have f8252 : sK T371 q6847 = 11 := by rw [f8251.1]; exact f8083
            have f8253 : sL T371 q6847 = 8 := by rw [f8251.2.2.2.2]; exact f8084
            clear f8251
            have f8254 := hkx371 q7171 (ni_c (ap_s d7180) (ni_c (ap_s d7182) (ni_c (ap_s d7184) (ni_c (ap_s d7186) (ni_c (ap_s d7188) (ni_c (ap_s d7190) ni_0)))))) (lt16 f8086 (by decide))
            have f8255 : sK T371 q7171 = 11 := by rw [f8254.1]; exact f8086
            have f8256 : sL T371 q7171 = 6 := by rw [f8254.2.2.2.2]; exact f8087
            clear f8254
            have f8257 := hkx371 q7502 (ni_c (fk_ne f8089 f7976 (by decide)) (ni_c (fk_ne f8089 f7979 (by decide)) (ni_c (fk_ne f8089 f7982 (by decide)) (ni_c (fk_ne f8089 f7985 (by decide)) (ni_c (fk_ne f8089 f7988 (by decide)) (ni_c (fk_ne f8089 f7991 (by decide)) ni_0)))))) (lt16 f8089 (by decide))
            have f8258 : sK T371 q7502 = 12 := by rw [f8257.1]; exact f8089
            have f8259 : sL T371 q7502 = 6 := by rw [f8257.2.2.2.2]; exact f8090
            have f8260 : ∀ j, sJ T371 q7502 j = 0 := fun j => by rw [f8257.2.2.2.1]; exact f8091 j 
            clear f8257
            have f8261 := hkx371 q689 (ni_c (ap_s d698) (ni_c (ap_s d700) (ni_c (ap_s d702) (ni_c (ap_s d704) (ni_c (ap_s d706) (ni_c (ap_s d708) ni_0)))))) (lt16 hck349_0 (by decide))
            have f8262 : sK T371 q689 = 11 := by rw [f8261.1]; exact hck349_0
            have f8263 : sL T371 q689 = 24 := by rw [f8261.2.2.2.2]; exact hcn349_0
            have f8264 : ∀ j, j < 24 → sI T371 q689 j = 10 := fun j hj => by rw [f8261.2.1]; exact hel j hj 
            clear f8261
            have hX : Kx [h] S T371 := hX.tr hkx371 (qc_ (Or.inl o67) (qc_ (Or.inl o137) (qc_ (Or.inl o214) (qc_ (Or.inl o298) (qc_ (Or.inl o389) (q1_ (Or.inl o487)))))))
            have hni : (nI i).toInt = (i : Int) := nI_toInt (by omega)
            refine lv_iload_n hx hb dX9_init_371 rfl (lv_at hl 1 rfl) ?_
            refine lv_bipush (v := 6) hx hb dX9_init_372 (by decide) ?_
            refine lv_icmp_ge (tgt := 432) hx hb dX9_init_374 (by decide) (fun c8265 => ?_) (fun c8265 => ?_)
            · have c8265i : (6 : Int) ≤ Int32.toInt (nI i) := (i3_le _ _).mp c8265
              have hi6 : i = 6 := by omega
              subst hi6
              exact pc_vret (S := T371) hx hb hr hlk hK hZ hA hW hS (⟨hX, q1, o4, q64, o67, q134, o137, q211, o214, q295, o298, q386, o389, q484, o487, q689, o692, q801, o804, q922, o925, q1052, o1055, q1191, o1194, q1339, o1342, q1496, o1499, q1662, o1665, q1837, o1840, q2021, o2024, q2212, o2215, q2410, o2413, q2615, o2618, q2827, o2830, q3046, o3049, q3272, o3275, q3505, o3508, q3745, o3748, q3992, o3995, q4246, o4249, q4507, o4510, q4775, o4778, q5050, o5053, q5332, o5335, q5621, o5624, q5917, o5920, q6220, o6223, q6530, o6533, q6847, o6850, q7171, o7174, q7502, o7505, f8095, f8096, f8160, f8161, f8097, hck371_0, hcn371_0, f8098, hck371_1, hcn371_1, f8099, hck371_2, hcn371_2, f8100, hck371_3, hcn371_3, f8101, hck371_4, hcn371_4, f8102, hck371_5, hcn371_5, f8103, f8262, f8263, f8104, f8163, f8164, f8105, f8167, f8168, f8106, f8171, f8172, f8107, f8175, f8176, f8108, f8179, f8180, f8109, f8183, f8184, f8110, f8187, f8188, f8111, f8191, f8192, f8112, f8195, f8196, f8113, f8198, f8199, f8114, f8201, f8202, f8115, f8204, f8205, f8116, f8207, f8208, f8117, f8210, f8211, f8118, f8213, f8214, f8119, f8216, f8217, f8120, f8219, f8220, f8121, f8222, f8223, f8122, f8225, f8226, f8123, f8228, f8229, f8124, f8231, f8232, f8125, f8234, f8235, f8126, f8237, f8238, f8127, f8240, f8241, f8128, f8243, f8244, f8129, f8246, f8247, f8130, f8249, f8250, f8131, f8252, f8253, f8132, f8255, f8256, f8133, f8258, f8259, f8169, f8173, f8177, f8181, f8185, f8189, f8193, f8165, f8264, hq0, hq1, hq2, hq3, hq4, hq5, f8134, f8135, f8136, f8137, f8138, f8139, f8140, f8141, f8142, f8143, f8144, f8145, f8155, f8146, f8147, f8148, f8156, f8157, f8158, f8149, f8150, f8151, f8152, f8153, f8154, d6291, d6601, d6603, d5938, d6241, d6551⟩) dX9_init_432
            · have c8265i : ¬ ((6 : Int) ≤ Int32.toInt (nI i)) := fun h9 => c8265 ((i3_le _ _).mpr h9)
              refine lv_aload_n hx hb dX9_init_377 rfl (lv_at hl 0 rfl) ?_
              refine pg_gr (b := q64) (ci := 9) (C := RX9) (T := TX9) (N := 63) hx hb hts wi9 hown hK hW f8095 (by decide) rfl 5 (by decide) (hts (.fieldLink RX9 13 "IceHallModel" "clocks" "[I") (by decide +kernel)) (fun _ h9 => h9) rfl f8097 dX9_init_378 ?_
              refine lv_iload_n hx hb dX9_init_381 rfl (lv_at hl 1 rfl) ?_
              refine lv_ldc (v := (16777215)) hx hb hown (hts (.constant RX9 140 (16777215)) (by decide +kernel)) dX9_init_382 ?_
              refine pg_iast hx hb hK hW hS hck371_0 (by rw [show sL T371 q64 = 6 from hcn371_0]; exact vp_in_nI (by omega) (by decide)) dX9_init_384 (fun H locs hW hS => ?_)
              have hX : Kx [h] S (stI T371 q64 (Int32.toNatClampNeg (nI i)) ((16777215))) := hX.In o67
              have w8266 : sI (stI T371 q64 (Int32.toNatClampNeg (nI i)) ((16777215))) h 1 = 0 := (iI_a (fk_ne f8095 hck371_0 (by decide))).trans f8134
              have w8267 : sI (stI T371 q64 (Int32.toNatClampNeg (nI i)) ((16777215))) h 2 = 0 := (iI_a (fk_ne f8095 hck371_0 (by decide))).trans f8135
              have w8268 : sI (stI T371 q64 (Int32.toNatClampNeg (nI i)) ((16777215))) h 3 = 0 := (iI_a (fk_ne f8095 hck371_0 (by decide))).trans f8136
              have w8269 : sI (stI T371 q64 (Int32.toNatClampNeg (nI i)) ((16777215))) h 4 = 0 := (iI_a (fk_ne f8095 hck371_0 (by decide))).trans f8137
              have w8270 : sI (stI T371 q64 (Int32.toNatClampNeg (nI i)) ((16777215))) h 11 = 0 := (iI_a (fk_ne f8095 hck371_0 (by decide))).trans f8138
              have w8271 : sI (stI T371 q64 (Int32.toNatClampNeg (nI i)) ((16777215))) h 12 = 0 := (iI_a (fk_ne f8095 hck371_0 (by decide))).trans f8139
              have w8272 : sI (stI T371 q64 (Int32.toNatClampNeg (nI i)) ((16777215))) h 13 = 0 := (iI_a (fk_ne f8095 hck371_0 (by decide))).trans f8140
              have w8273 : sI (stI T371 q64 (Int32.toNatClampNeg (nI i)) ((16777215))) h 14 = 0 := (iI_a (fk_ne f8095 hck371_0 (by decide))).trans f8141
              have w8274 : sI (stI T371 q64 (Int32.toNatClampNeg (nI i)) ((16777215))) h 15 = 0 := (iI_a (fk_ne f8095 hck371_0 (by decide))).trans f8142
              have w8275 : sI (stI T371 q64 (Int32.toNatClampNeg (nI i)) ((16777215))) h 16 = 0 := (iI_a (fk_ne f8095 hck371_0 (by decide))).trans f8143
              have w8276 : sI (stI T371 q64 (Int32.toNatClampNeg (nI i)) ((16777215))) h 17 = 0 := (iI_a (fk_ne f8095 hck371_0 (by decide))).trans f8144
              have w8277 : sI (stI T371 q64 (Int32.toNatClampNeg (nI i)) ((16777215))) h 18 = 0 := (iI_a (fk_ne f8095 hck371_0 (by decide))).trans f8145
              have w8278 : sI (stI T371 q64 (Int32.toNatClampNeg (nI i)) ((16777215))) h 20 = 0 := (iI_a (fk_ne f8095 hck371_0 (by decide))).trans f8146
              have w8279 : sI (stI T371 q64 (Int32.toNatClampNeg (nI i)) ((16777215))) h 21 = 0 := (iI_a (fk_ne f8095 hck371_0 (by decide))).trans f8147
              have w8280 : sI (stI T371 q64 (Int32.toNatClampNeg (nI i)) ((16777215))) h 22 = 0 := (iI_a (fk_ne f8095 hck371_0 (by decide))).trans f8148
              have w8281 : sI (stI T371 q64 (Int32.toNatClampNeg (nI i)) ((16777215))) h 35 = 0 := (iI_a (fk_ne f8095 hck371_0 (by decide))).trans f8149
              have w8282 : sI (stI T371 q64 (Int32.toNatClampNeg (nI i)) ((16777215))) h 36 = 0 := (iI_a (fk_ne f8095 hck371_0 (by decide))).trans f8150
              have w8283 : sI (stI T371 q64 (Int32.toNatClampNeg (nI i)) ((16777215))) h 53 = 0 := (iI_a (fk_ne f8095 hck371_0 (by decide))).trans f8151
              have w8284 : sI (stI T371 q64 (Int32.toNatClampNeg (nI i)) ((16777215))) h 54 = 0 := (iI_a (fk_ne f8095 hck371_0 (by decide))).trans f8152
              have w8285 : sI (stI T371 q64 (Int32.toNatClampNeg (nI i)) ((16777215))) h 55 = 0 := (iI_a (fk_ne f8095 hck371_0 (by decide))).trans f8153
              have w8286 : sI (stI T371 q64 (Int32.toNatClampNeg (nI i)) ((16777215))) h 60 = 0 := (iI_a (fk_ne f8095 hck371_0 (by decide))).trans f8154
              have w8287 : sI (stI T371 q64 (Int32.toNatClampNeg (nI i)) ((16777215))) h 19 = 200 := (iI_a (fk_ne f8095 hck371_0 (by decide))).trans f8155
              have w8288 : sI (stI T371 q64 (Int32.toNatClampNeg (nI i)) ((16777215))) h 23 = 400 := (iI_a (fk_ne f8095 hck371_0 (by decide))).trans f8156
              have w8289 : sI (stI T371 q64 (Int32.toNatClampNeg (nI i)) ((16777215))) h 24 = 3 := (iI_a (fk_ne f8095 hck371_0 (by decide))).trans f8157
              have w8290 : sI (stI T371 q64 (Int32.toNatClampNeg (nI i)) ((16777215))) h 25 = 2 := (iI_a (fk_ne f8095 hck371_0 (by decide))).trans f8158
              have w8291 : ∀ j, j < 2 → sI (stI T371 q64 (Int32.toNatClampNeg (nI i)) ((16777215))) q801 j = 300 := fun j hj => (iI_a (ap_s d810)).trans (f8165 j hj)
              have w8292 : ∀ j, j < 2 → sI (stI T371 q64 (Int32.toNatClampNeg (nI i)) ((16777215))) q922 j = 0 := fun j hj => (iI_a (ap_s d931)).trans (f8169 j hj)
              have w8293 : ∀ j, j < 2 → sI (stI T371 q64 (Int32.toNatClampNeg (nI i)) ((16777215))) q1052 j = 0 := fun j hj => (iI_a (ap_s d1061)).trans (f8173 j hj)
              have w8294 : ∀ j, j < 2 → sI (stI T371 q64 (Int32.toNatClampNeg (nI i)) ((16777215))) q1191 j = 0 := fun j hj => (iI_a (ap_s d1200)).trans (f8177 j hj)
              have w8295 : ∀ j, j < 2 → sI (stI T371 q64 (Int32.toNatClampNeg (nI i)) ((16777215))) q1339 j = 0 := fun j hj => (iI_a (ap_s d1348)).trans (f8181 j hj)
              have w8296 : ∀ j, j < 2 → sI (stI T371 q64 (Int32.toNatClampNeg (nI i)) ((16777215))) q1496 j = 0 := fun j hj => (iI_a (ap_s d1505)).trans (f8185 j hj)
              have w8297 : ∀ j, j < 2 → sI (stI T371 q64 (Int32.toNatClampNeg (nI i)) ((16777215))) q1662 j = 0 := fun j hj => (iI_a (ap_s d1671)).trans (f8189 j hj)
              have w8298 : ∀ j, j < 2 → sI (stI T371 q64 (Int32.toNatClampNeg (nI i)) ((16777215))) q1837 j = 0 := fun j hj => (iI_a (fk_ne f8191 hck371_0 (by decide))).trans (f8193 j hj)
              have w8299 : ∀ j, j < 24 → sI (stI T371 q64 (Int32.toNatClampNeg (nI i)) ((16777215))) q689 j = 10 := fun j hj => (iI_a (ap_s d698)).trans (f8264 j hj)
              clear f8134 f8135 f8136 f8137 f8138 f8139 f8140 f8141 f8142 f8143 f8144 f8145 f8146 f8147 f8148 f8149 f8150 f8151 f8152 f8153 f8154 f8155 f8156 f8157 f8158 f8165 f8169 f8173 f8177 f8181 f8185 f8189 f8193 f8264
              refine lv_aload_n hx hb dX9_init_385 rfl (lv_at hl 0 rfl) ?_
              refine pg_gr (b := q134) (ci := 9) (C := RX9) (T := TX9) (N := 63) hx hb hts wi9 hown hK hW f8095 (by decide) rfl 6 (by decide) (hts (.fieldLink RX9 17 "IceHallModel" "daysOf" "[I") (by decide +kernel)) (fun _ h9 => h9) rfl f8098 dX9_init_386 ?_
              refine lv_iload_n hx hb dX9_init_389 rfl (lv_at hl 1 rfl) ?_
              refine lv_bipush (v := 127) hx hb dX9_init_390 (by decide) ?_
              refine pg_iast hx hb hK hW hS hck371_1 (by rw [show sL (stI T371 q64 (Int32.toNatClampNeg (nI i)) ((16777215))) q134 = 6 from hcn371_1]; exact vp_in_nI (by omega) (by decide)) dX9_init_392 (fun H locs hW hS => ?_)
              have hX : Kx [h] S (stI (stI T371 q64 (Int32.toNatClampNeg (nI i)) ((16777215))) q134 (Int32.toNatClampNeg (nI i)) 127) := hX.In o137
              have w8300 : sI (stI (stI T371 q64 (Int32.toNatClampNeg (nI i)) ((16777215))) q134 (Int32.toNatClampNeg (nI i)) 127) h 1 = 0 := (iI_a (fk_ne f8095 hck371_1 (by decide))).trans w8266
              have w8301 : sI (stI (stI T371 q64 (Int32.toNatClampNeg (nI i)) ((16777215))) q134 (Int32.toNatClampNeg (nI i)) 127) h 2 = 0 := (iI_a (fk_ne f8095 hck371_1 (by decide))).trans w8267
              have w8302 : sI (stI (stI T371 q64 (Int32.toNatClampNeg (nI i)) ((16777215))) q134 (Int32.toNatClampNeg (nI i)) 127) h 3 = 0 := (iI_a (fk_ne f8095 hck371_1 (by decide))).trans w8268
              have w8303 : sI (stI (stI T371 q64 (Int32.toNatClampNeg (nI i)) ((16777215))) q134 (Int32.toNatClampNeg (nI i)) 127) h 4 = 0 := (iI_a (fk_ne f8095 hck371_1 (by decide))).trans w8269
              have w8304 : sI (stI (stI T371 q64 (Int32.toNatClampNeg (nI i)) ((16777215))) q134 (Int32.toNatClampNeg (nI i)) 127) h 11 = 0 := (iI_a (fk_ne f8095 hck371_1 (by decide))).trans w8270
              have w8305 : sI (stI (stI T371 q64 (Int32.toNatClampNeg (nI i)) ((16777215))) q134 (Int32.toNatClampNeg (nI i)) 127) h 12 = 0 := (iI_a (fk_ne f8095 hck371_1 (by decide))).trans w8271
              have w8306 : sI (stI (stI T371 q64 (Int32.toNatClampNeg (nI i)) ((16777215))) q134 (Int32.toNatClampNeg (nI i)) 127) h 13 = 0 := (iI_a (fk_ne f8095 hck371_1 (by decide))).trans w8272
              have w8307 : sI (stI (stI T371 q64 (Int32.toNatClampNeg (nI i)) ((16777215))) q134 (Int32.toNatClampNeg (nI i)) 127) h 14 = 0 := (iI_a (fk_ne f8095 hck371_1 (by decide))).trans w8273
              have w8308 : sI (stI (stI T371 q64 (Int32.toNatClampNeg (nI i)) ((16777215))) q134 (Int32.toNatClampNeg (nI i)) 127) h 15 = 0 := (iI_a (fk_ne f8095 hck371_1 (by decide))).trans w8274
              have w8309 : sI (stI (stI T371 q64 (Int32.toNatClampNeg (nI i)) ((16777215))) q134 (Int32.toNatClampNeg (nI i)) 127) h 16 = 0 := (iI_a (fk_ne f8095 hck371_1 (by decide))).trans w8275
              have w8310 : sI (stI (stI T371 q64 (Int32.toNatClampNeg (nI i)) ((16777215))) q134 (Int32.toNatClampNeg (nI i)) 127) h 17 = 0 := (iI_a (fk_ne f8095 hck371_1 (by decide))).trans w8276
              have w8311 : sI (stI (stI T371 q64 (Int32.toNatClampNeg (nI i)) ((16777215))) q134 (Int32.toNatClampNeg (nI i)) 127) h 18 = 0 := (iI_a (fk_ne f8095 hck371_1 (by decide))).trans w8277
              have w8312 : sI (stI (stI T371 q64 (Int32.toNatClampNeg (nI i)) ((16777215))) q134 (Int32.toNatClampNeg (nI i)) 127) h 20 = 0 := (iI_a (fk_ne f8095 hck371_1 (by decide))).trans w8278
              have w8313 : sI (stI (stI T371 q64 (Int32.toNatClampNeg (nI i)) ((16777215))) q134 (Int32.toNatClampNeg (nI i)) 127) h 21 = 0 := (iI_a (fk_ne f8095 hck371_1 (by decide))).trans w8279
              have w8314 : sI (stI (stI T371 q64 (Int32.toNatClampNeg (nI i)) ((16777215))) q134 (Int32.toNatClampNeg (nI i)) 127) h 22 = 0 := (iI_a (fk_ne f8095 hck371_1 (by decide))).trans w8280
              have w8315 : sI (stI (stI T371 q64 (Int32.toNatClampNeg (nI i)) ((16777215))) q134 (Int32.toNatClampNeg (nI i)) 127) h 35 = 0 := (iI_a (fk_ne f8095 hck371_1 (by decide))).trans w8281
              have w8316 : sI (stI (stI T371 q64 (Int32.toNatClampNeg (nI i)) ((16777215))) q134 (Int32.toNatClampNeg (nI i)) 127) h 36 = 0 := (iI_a (fk_ne f8095 hck371_1 (by decide))).trans w8282
              have w8317 : sI (stI (stI T371 q64 (Int32.toNatClampNeg (nI i)) ((16777215))) q134 (Int32.toNatClampNeg (nI i)) 127) h 53 = 0 := (iI_a (fk_ne f8095 hck371_1 (by decide))).trans w8283
              have w8318 : sI (stI (stI T371 q64 (Int32.toNatClampNeg (nI i)) ((16777215))) q134 (Int32.toNatClampNeg (nI i)) 127) h 54 = 0 := (iI_a (fk_ne f8095 hck371_1 (by decide))).trans w8284
              have w8319 : sI (stI (stI T371 q64 (Int32.toNatClampNeg (nI i)) ((16777215))) q134 (Int32.toNatClampNeg (nI i)) 127) h 55 = 0 := (iI_a (fk_ne f8095 hck371_1 (by decide))).trans w8285
              have w8320 : sI (stI (stI T371 q64 (Int32.toNatClampNeg (nI i)) ((16777215))) q134 (Int32.toNatClampNeg (nI i)) 127) h 60 = 0 := (iI_a (fk_ne f8095 hck371_1 (by decide))).trans w8286
              have w8321 : sI (stI (stI T371 q64 (Int32.toNatClampNeg (nI i)) ((16777215))) q134 (Int32.toNatClampNeg (nI i)) 127) h 19 = 200 := (iI_a (fk_ne f8095 hck371_1 (by decide))).trans w8287
              have w8322 : sI (stI (stI T371 q64 (Int32.toNatClampNeg (nI i)) ((16777215))) q134 (Int32.toNatClampNeg (nI i)) 127) h 23 = 400 := (iI_a (fk_ne f8095 hck371_1 (by decide))).trans w8288
              have w8323 : sI (stI (stI T371 q64 (Int32.toNatClampNeg (nI i)) ((16777215))) q134 (Int32.toNatClampNeg (nI i)) 127) h 24 = 3 := (iI_a (fk_ne f8095 hck371_1 (by decide))).trans w8289
              have w8324 : sI (stI (stI T371 q64 (Int32.toNatClampNeg (nI i)) ((16777215))) q134 (Int32.toNatClampNeg (nI i)) 127) h 25 = 2 := (iI_a (fk_ne f8095 hck371_1 (by decide))).trans w8290
              have w8325 : ∀ j, j < 2 → sI (stI (stI T371 q64 (Int32.toNatClampNeg (nI i)) ((16777215))) q134 (Int32.toNatClampNeg (nI i)) 127) q801 j = 300 := fun j hj => (iI_a (ap_s d812)).trans (w8291 j hj)
              have w8326 : ∀ j, j < 2 → sI (stI (stI T371 q64 (Int32.toNatClampNeg (nI i)) ((16777215))) q134 (Int32.toNatClampNeg (nI i)) 127) q922 j = 0 := fun j hj => (iI_a (ap_s d933)).trans (w8292 j hj)
              have w8327 : ∀ j, j < 2 → sI (stI (stI T371 q64 (Int32.toNatClampNeg (nI i)) ((16777215))) q134 (Int32.toNatClampNeg (nI i)) 127) q1052 j = 0 := fun j hj => (iI_a (ap_s d1063)).trans (w8293 j hj)
              have w8328 : ∀ j, j < 2 → sI (stI (stI T371 q64 (Int32.toNatClampNeg (nI i)) ((16777215))) q134 (Int32.toNatClampNeg (nI i)) 127) q1191 j = 0 := fun j hj => (iI_a (ap_s d1202)).trans (w8294 j hj)
              have w8329 : ∀ j, j < 2 → sI (stI (stI T371 q64 (Int32.toNatClampNeg (nI i)) ((16777215))) q134 (Int32.toNatClampNeg (nI i)) 127) q1339 j = 0 := fun j hj => (iI_a (ap_s d1350)).trans (w8295 j hj)
              have w8330 : ∀ j, j < 2 → sI (stI (stI T371 q64 (Int32.toNatClampNeg (nI i)) ((16777215))) q134 (Int32.toNatClampNeg (nI i)) 127) q1496 j = 0 := fun j hj => (iI_a (ap_s d1507)).trans (w8296 j hj)
              have w8331 : ∀ j, j < 2 → sI (stI (stI T371 q64 (Int32.toNatClampNeg (nI i)) ((16777215))) q134 (Int32.toNatClampNeg (nI i)) 127) q1662 j = 0 := fun j hj => (iI_a (ap_s d1673)).trans (w8297 j hj)
              have w8332 : ∀ j, j < 2 → sI (stI (stI T371 q64 (Int32.toNatClampNeg (nI i)) ((16777215))) q134 (Int32.toNatClampNeg (nI i)) 127) q1837 j = 0 := fun j hj => (iI_a (fk_ne f8191 hck371_1 (by decide))).trans (w8298 j hj)
              have w8333 : ∀ j, j < 24 → sI (stI (stI T371 q64 (Int32.toNatClampNeg (nI i)) ((16777215))) q134 (Int32.toNatClampNeg (nI i)) 127) q689 j = 10 := fun j hj => (iI_a (ap_s d700)).trans (w8299 j hj)
              clear w8266 w8267 w8268 w8269 w8270 w8271 w8272 w8273 w8274 w8275 w8276 w8277 w8278 w8279 w8280 w8281 w8282 w8283 w8284 w8285 w8286 w8287 w8288 w8289 w8290 w8291 w8292 w8293 w8294 w8295 w8296 w8297 w8298 w8299
              refine lv_aload_n hx hb dX9_init_393 rfl (lv_at hl 0 rfl) ?_
              refine pg_gr (b := q211) (ci := 9) (C := RX9) (T := TX9) (N := 63) hx hb hts wi9 hown hK hW f8095 (by decide) rfl 7 (by decide) (hts (.fieldLink RX9 20 "IceHallModel" "kinds" "[I") (by decide +kernel)) (fun _ h9 => h9) rfl f8099 dX9_init_394 ?_
              refine lv_iload_n hx hb dX9_init_397 rfl (lv_at hl 1 rfl) ?_
              refine lv_bipush (v := 15) hx hb dX9_init_398 (by decide) ?_
              refine pg_iast hx hb hK hW hS hck371_2 (by rw [show sL (stI (stI T371 q64 (Int32.toNatClampNeg (nI i)) ((16777215))) q134 (Int32.toNatClampNeg (nI i)) 127) q211 = 6 from hcn371_2]; exact vp_in_nI (by omega) (by decide)) dX9_init_400 (fun H locs hW hS => ?_)
              have hX : Kx [h] S (stI (stI (stI T371 q64 (Int32.toNatClampNeg (nI i)) ((16777215))) q134 (Int32.toNatClampNeg (nI i)) 127) q211 (Int32.toNatClampNeg (nI i)) 15) := hX.In o214
              have w8334 : sI (stI (stI (stI T371 q64 (Int32.toNatClampNeg (nI i)) ((16777215))) q134 (Int32.toNatClampNeg (nI i)) 127) q211 (Int32.toNatClampNeg (nI i)) 15) h 1 = 0 := (iI_a (fk_ne f8095 hck371_2 (by decide))).trans w8300
              have w8335 : sI (stI (stI (stI T371 q64 (Int32.toNatClampNeg (nI i)) ((16777215))) q134 (Int32.toNatClampNeg (nI i)) 127) q211 (Int32.toNatClampNeg (nI i)) 15) h 2 = 0 := (iI_a (fk_ne f8095 hck371_2 (by decide))).trans w8301
              have w8336 : sI (stI (stI (stI T371 q64 (Int32.toNatClampNeg (nI i)) ((16777215))) q134 (Int32.toNatClampNeg (nI i)) 127) q211 (Int32.toNatClampNeg (nI i)) 15) h 3 = 0 := (iI_a (fk_ne f8095 hck371_2 (by decide))).trans w8302
              have w8337 : sI (stI (stI (stI T371 q64 (Int32.toNatClampNeg (nI i)) ((16777215))) q134 (Int32.toNatClampNeg (nI i)) 127) q211 (Int32.toNatClampNeg (nI i)) 15) h 4 = 0 := (iI_a (fk_ne f8095 hck371_2 (by decide))).trans w8303
              have w8338 : sI (stI (stI (stI T371 q64 (Int32.toNatClampNeg (nI i)) ((16777215))) q134 (Int32.toNatClampNeg (nI i)) 127) q211 (Int32.toNatClampNeg (nI i)) 15) h 11 = 0 := (iI_a (fk_ne f8095 hck371_2 (by decide))).trans w8304
              have w8339 : sI (stI (stI (stI T371 q64 (Int32.toNatClampNeg (nI i)) ((16777215))) q134 (Int32.toNatClampNeg (nI i)) 127) q211 (Int32.toNatClampNeg (nI i)) 15) h 12 = 0 := (iI_a (fk_ne f8095 hck371_2 (by decide))).trans w8305
              have w8340 : sI (stI (stI (stI T371 q64 (Int32.toNatClampNeg (nI i)) ((16777215))) q134 (Int32.toNatClampNeg (nI i)) 127) q211 (Int32.toNatClampNeg (nI i)) 15) h 13 = 0 := (iI_a (fk_ne f8095 hck371_2 (by decide))).trans w8306
              have w8341 : sI (stI (stI (stI T371 q64 (Int32.toNatClampNeg (nI i)) ((16777215))) q134 (Int32.toNatClampNeg (nI i)) 127) q211 (Int32.toNatClampNeg (nI i)) 15) h 14 = 0 := (iI_a (fk_ne f8095 hck371_2 (by decide))).trans w8307
              have w8342 : sI (stI (stI (stI T371 q64 (Int32.toNatClampNeg (nI i)) ((16777215))) q134 (Int32.toNatClampNeg (nI i)) 127) q211 (Int32.toNatClampNeg (nI i)) 15) h 15 = 0 := (iI_a (fk_ne f8095 hck371_2 (by decide))).trans w8308
              have w8343 : sI (stI (stI (stI T371 q64 (Int32.toNatClampNeg (nI i)) ((16777215))) q134 (Int32.toNatClampNeg (nI i)) 127) q211 (Int32.toNatClampNeg (nI i)) 15) h 16 = 0 := (iI_a (fk_ne f8095 hck371_2 (by decide))).trans w8309
              have w8344 : sI (stI (stI (stI T371 q64 (Int32.toNatClampNeg (nI i)) ((16777215))) q134 (Int32.toNatClampNeg (nI i)) 127) q211 (Int32.toNatClampNeg (nI i)) 15) h 17 = 0 := (iI_a (fk_ne f8095 hck371_2 (by decide))).trans w8310
              have w8345 : sI (stI (stI (stI T371 q64 (Int32.toNatClampNeg (nI i)) ((16777215))) q134 (Int32.toNatClampNeg (nI i)) 127) q211 (Int32.toNatClampNeg (nI i)) 15) h 18 = 0 := (iI_a (fk_ne f8095 hck371_2 (by decide))).trans w8311
              have w8346 : sI (stI (stI (stI T371 q64 (Int32.toNatClampNeg (nI i)) ((16777215))) q134 (Int32.toNatClampNeg (nI i)) 127) q211 (Int32.toNatClampNeg (nI i)) 15) h 20 = 0 := (iI_a (fk_ne f8095 hck371_2 (by decide))).trans w8312
              have w8347 : sI (stI (stI (stI T371 q64 (Int32.toNatClampNeg (nI i)) ((16777215))) q134 (Int32.toNatClampNeg (nI i)) 127) q211 (Int32.toNatClampNeg (nI i)) 15) h 21 = 0 := (iI_a (fk_ne f8095 hck371_2 (by decide))).trans w8313
              have w8348 : sI (stI (stI (stI T371 q64 (Int32.toNatClampNeg (nI i)) ((16777215))) q134 (Int32.toNatClampNeg (nI i)) 127) q211 (Int32.toNatClampNeg (nI i)) 15) h 22 = 0 := (iI_a (fk_ne f8095 hck371_2 (by decide))).trans w8314
              have w8349 : sI (stI (stI (stI T371 q64 (Int32.toNatClampNeg (nI i)) ((16777215))) q134 (Int32.toNatClampNeg (nI i)) 127) q211 (Int32.toNatClampNeg (nI i)) 15) h 35 = 0 := (iI_a (fk_ne f8095 hck371_2 (by decide))).trans w8315
              have w8350 : sI (stI (stI (stI T371 q64 (Int32.toNatClampNeg (nI i)) ((16777215))) q134 (Int32.toNatClampNeg (nI i)) 127) q211 (Int32.toNatClampNeg (nI i)) 15) h 36 = 0 := (iI_a (fk_ne f8095 hck371_2 (by decide))).trans w8316
              have w8351 : sI (stI (stI (stI T371 q64 (Int32.toNatClampNeg (nI i)) ((16777215))) q134 (Int32.toNatClampNeg (nI i)) 127) q211 (Int32.toNatClampNeg (nI i)) 15) h 53 = 0 := (iI_a (fk_ne f8095 hck371_2 (by decide))).trans w8317
              have w8352 : sI (stI (stI (stI T371 q64 (Int32.toNatClampNeg (nI i)) ((16777215))) q134 (Int32.toNatClampNeg (nI i)) 127) q211 (Int32.toNatClampNeg (nI i)) 15) h 54 = 0 := (iI_a (fk_ne f8095 hck371_2 (by decide))).trans w8318
              have w8353 : sI (stI (stI (stI T371 q64 (Int32.toNatClampNeg (nI i)) ((16777215))) q134 (Int32.toNatClampNeg (nI i)) 127) q211 (Int32.toNatClampNeg (nI i)) 15) h 55 = 0 := (iI_a (fk_ne f8095 hck371_2 (by decide))).trans w8319
              have w8354 : sI (stI (stI (stI T371 q64 (Int32.toNatClampNeg (nI i)) ((16777215))) q134 (Int32.toNatClampNeg (nI i)) 127) q211 (Int32.toNatClampNeg (nI i)) 15) h 60 = 0 := (iI_a (fk_ne f8095 hck371_2 (by decide))).trans w8320
              have w8355 : sI (stI (stI (stI T371 q64 (Int32.toNatClampNeg (nI i)) ((16777215))) q134 (Int32.toNatClampNeg (nI i)) 127) q211 (Int32.toNatClampNeg (nI i)) 15) h 19 = 200 := (iI_a (fk_ne f8095 hck371_2 (by decide))).trans w8321
              have w8356 : sI (stI (stI (stI T371 q64 (Int32.toNatClampNeg (nI i)) ((16777215))) q134 (Int32.toNatClampNeg (nI i)) 127) q211 (Int32.toNatClampNeg (nI i)) 15) h 23 = 400 := (iI_a (fk_ne f8095 hck371_2 (by decide))).trans w8322
              have w8357 : sI (stI (stI (stI T371 q64 (Int32.toNatClampNeg (nI i)) ((16777215))) q134 (Int32.toNatClampNeg (nI i)) 127) q211 (Int32.toNatClampNeg (nI i)) 15) h 24 = 3 := (iI_a (fk_ne f8095 hck371_2 (by decide))).trans w8323
              have w8358 : sI (stI (stI (stI T371 q64 (Int32.toNatClampNeg (nI i)) ((16777215))) q134 (Int32.toNatClampNeg (nI i)) 127) q211 (Int32.toNatClampNeg (nI i)) 15) h 25 = 2 := (iI_a (fk_ne f8095 hck371_2 (by decide))).trans w8324
              have w8359 : ∀ j, j < 2 → sI (stI (stI (stI T371 q64 (Int32.toNatClampNeg (nI i)) ((16777215))) q134 (Int32.toNatClampNeg (nI i)) 127) q211 (Int32.toNatClampNeg (nI i)) 15) q801 j = 300 := fun j hj => (iI_a (ap_s d814)).trans (w8325 j hj)
              have w8360 : ∀ j, j < 2 → sI (stI (stI (stI T371 q64 (Int32.toNatClampNeg (nI i)) ((16777215))) q134 (Int32.toNatClampNeg (nI i)) 127) q211 (Int32.toNatClampNeg (nI i)) 15) q922 j = 0 := fun j hj => (iI_a (ap_s d935)).trans (w8326 j hj)
              have w8361 : ∀ j, j < 2 → sI (stI (stI (stI T371 q64 (Int32.toNatClampNeg (nI i)) ((16777215))) q134 (Int32.toNatClampNeg (nI i)) 127) q211 (Int32.toNatClampNeg (nI i)) 15) q1052 j = 0 := fun j hj => (iI_a (ap_s d1065)).trans (w8327 j hj)
              have w8362 : ∀ j, j < 2 → sI (stI (stI (stI T371 q64 (Int32.toNatClampNeg (nI i)) ((16777215))) q134 (Int32.toNatClampNeg (nI i)) 127) q211 (Int32.toNatClampNeg (nI i)) 15) q1191 j = 0 := fun j hj => (iI_a (ap_s d1204)).trans (w8328 j hj)
              have w8363 : ∀ j, j < 2 → sI (stI (stI (stI T371 q64 (Int32.toNatClampNeg (nI i)) ((16777215))) q134 (Int32.toNatClampNeg (nI i)) 127) q211 (Int32.toNatClampNeg (nI i)) 15) q1339 j = 0 := fun j hj => (iI_a (ap_s d1352)).trans (w8329 j hj)
              have w8364 : ∀ j, j < 2 → sI (stI (stI (stI T371 q64 (Int32.toNatClampNeg (nI i)) ((16777215))) q134 (Int32.toNatClampNeg (nI i)) 127) q211 (Int32.toNatClampNeg (nI i)) 15) q1496 j = 0 := fun j hj => (iI_a (ap_s d1509)).trans (w8330 j hj)
              have w8365 : ∀ j, j < 2 → sI (stI (stI (stI T371 q64 (Int32.toNatClampNeg (nI i)) ((16777215))) q134 (Int32.toNatClampNeg (nI i)) 127) q211 (Int32.toNatClampNeg (nI i)) 15) q1662 j = 0 := fun j hj => (iI_a (ap_s d1675)).trans (w8331 j hj)
              have w8366 : ∀ j, j < 2 → sI (stI (stI (stI T371 q64 (Int32.toNatClampNeg (nI i)) ((16777215))) q134 (Int32.toNatClampNeg (nI i)) 127) q211 (Int32.toNatClampNeg (nI i)) 15) q1837 j = 0 := fun j hj => (iI_a (fk_ne f8191 hck371_2 (by decide))).trans (w8332 j hj)
              have w8367 : ∀ j, j < 24 → sI (stI (stI (stI T371 q64 (Int32.toNatClampNeg (nI i)) ((16777215))) q134 (Int32.toNatClampNeg (nI i)) 127) q211 (Int32.toNatClampNeg (nI i)) 15) q689 j = 10 := fun j hj => (iI_a (ap_s d702)).trans (w8333 j hj)
              clear w8300 w8301 w8302 w8303 w8304 w8305 w8306 w8307 w8308 w8309 w8310 w8311 w8312 w8313 w8314 w8315 w8316 w8317 w8318 w8319 w8320 w8321 w8322 w8323 w8324 w8325 w8326 w8327 w8328 w8329 w8330 w8331 w8332 w8333
              refine lv_aload_n hx hb dX9_init_401 rfl (lv_at hl 0 rfl) ?_
              refine pg_gr (b := q295) (ci := 9) (C := RX9) (T := TX9) (N := 63) hx hb hts wi9 hown hK hW f8095 (by decide) rfl 8 (by decide) (hts (.fieldLink RX9 23 "IceHallModel" "limit" "[I") (by decide +kernel)) (fun _ h9 => h9) rfl f8100 dX9_init_402 ?_
              refine lv_iload_n hx hb dX9_init_405 rfl (lv_at hl 1 rfl) ?_
              refine lv_sipush (v := 168) hx hb dX9_init_406 (by decide) ?_
              refine pg_iast hx hb hK hW hS hck371_3 (by rw [show sL (stI (stI (stI T371 q64 (Int32.toNatClampNeg (nI i)) ((16777215))) q134 (Int32.toNatClampNeg (nI i)) 127) q211 (Int32.toNatClampNeg (nI i)) 15) q295 = 6 from hcn371_3]; exact vp_in_nI (by omega) (by decide)) dX9_init_409 (fun H locs hW hS => ?_)
              have hX : Kx [h] S (stI (stI (stI (stI T371 q64 (Int32.toNatClampNeg (nI i)) ((16777215))) q134 (Int32.toNatClampNeg (nI i)) 127) q211 (Int32.toNatClampNeg (nI i)) 15) q295 (Int32.toNatClampNeg (nI i)) 168) := hX.In o298
              have w8368 : sI (stI (stI (stI (stI T371 q64 (Int32.toNatClampNeg (nI i)) ((16777215))) q134 (Int32.toNatClampNeg (nI i)) 127) q211 (Int32.toNatClampNeg (nI i)) 15) q295 (Int32.toNatClampNeg (nI i)) 168) h 1 = 0 := (iI_a (fk_ne f8095 hck371_3 (by decide))).trans w8334
              have w8369 : sI (stI (stI (stI (stI T371 q64 (Int32.toNatClampNeg (nI i)) ((16777215))) q134 (Int32.toNatClampNeg (nI i)) 127) q211 (Int32.toNatClampNeg (nI i)) 15) q295 (Int32.toNatClampNeg (nI i)) 168) h 2 = 0 := (iI_a (fk_ne f8095 hck371_3 (by decide))).trans w8335
              have w8370 : sI (stI (stI (stI (stI T371 q64 (Int32.toNatClampNeg (nI i)) ((16777215))) q134 (Int32.toNatClampNeg (nI i)) 127) q211 (Int32.toNatClampNeg (nI i)) 15) q295 (Int32.toNatClampNeg (nI i)) 168) h 3 = 0 := (iI_a (fk_ne f8095 hck371_3 (by decide))).trans w8336
              have w8371 : sI (stI (stI (stI (stI T371 q64 (Int32.toNatClampNeg (nI i)) ((16777215))) q134 (Int32.toNatClampNeg (nI i)) 127) q211 (Int32.toNatClampNeg (nI i)) 15) q295 (Int32.toNatClampNeg (nI i)) 168) h 4 = 0 := (iI_a (fk_ne f8095 hck371_3 (by decide))).trans w8337
              have w8372 : sI (stI (stI (stI (stI T371 q64 (Int32.toNatClampNeg (nI i)) ((16777215))) q134 (Int32.toNatClampNeg (nI i)) 127) q211 (Int32.toNatClampNeg (nI i)) 15) q295 (Int32.toNatClampNeg (nI i)) 168) h 11 = 0 := (iI_a (fk_ne f8095 hck371_3 (by decide))).trans w8338
              have w8373 : sI (stI (stI (stI (stI T371 q64 (Int32.toNatClampNeg (nI i)) ((16777215))) q134 (Int32.toNatClampNeg (nI i)) 127) q211 (Int32.toNatClampNeg (nI i)) 15) q295 (Int32.toNatClampNeg (nI i)) 168) h 12 = 0 := (iI_a (fk_ne f8095 hck371_3 (by decide))).trans w8339
              have w8374 : sI (stI (stI (stI (stI T371 q64 (Int32.toNatClampNeg (nI i)) ((16777215))) q134 (Int32.toNatClampNeg (nI i)) 127) q211 (Int32.toNatClampNeg (nI i)) 15) q295 (Int32.toNatClampNeg (nI i)) 168) h 13 = 0 := (iI_a (fk_ne f8095 hck371_3 (by decide))).trans w8340
              have w8375 : sI (stI (stI (stI (stI T371 q64 (Int32.toNatClampNeg (nI i)) ((16777215))) q134 (Int32.toNatClampNeg (nI i)) 127) q211 (Int32.toNatClampNeg (nI i)) 15) q295 (Int32.toNatClampNeg (nI i)) 168) h 14 = 0 := (iI_a (fk_ne f8095 hck371_3 (by decide))).trans w8341
              have w8376 : sI (stI (stI (stI (stI T371 q64 (Int32.toNatClampNeg (nI i)) ((16777215))) q134 (Int32.toNatClampNeg (nI i)) 127) q211 (Int32.toNatClampNeg (nI i)) 15) q295 (Int32.toNatClampNeg (nI i)) 168) h 15 = 0 := (iI_a (fk_ne f8095 hck371_3 (by decide))).trans w8342
              have w8377 : sI (stI (stI (stI (stI T371 q64 (Int32.toNatClampNeg (nI i)) ((16777215))) q134 (Int32.toNatClampNeg (nI i)) 127) q211 (Int32.toNatClampNeg (nI i)) 15) q295 (Int32.toNatClampNeg (nI i)) 168) h 16 = 0 := (iI_a (fk_ne f8095 hck371_3 (by decide))).trans w8343
              have w8378 : sI (stI (stI (stI (stI T371 q64 (Int32.toNatClampNeg (nI i)) ((16777215))) q134 (Int32.toNatClampNeg (nI i)) 127) q211 (Int32.toNatClampNeg (nI i)) 15) q295 (Int32.toNatClampNeg (nI i)) 168) h 17 = 0 := (iI_a (fk_ne f8095 hck371_3 (by decide))).trans w8344
              have w8379 : sI (stI (stI (stI (stI T371 q64 (Int32.toNatClampNeg (nI i)) ((16777215))) q134 (Int32.toNatClampNeg (nI i)) 127) q211 (Int32.toNatClampNeg (nI i)) 15) q295 (Int32.toNatClampNeg (nI i)) 168) h 18 = 0 := (iI_a (fk_ne f8095 hck371_3 (by decide))).trans w8345
              have w8380 : sI (stI (stI (stI (stI T371 q64 (Int32.toNatClampNeg (nI i)) ((16777215))) q134 (Int32.toNatClampNeg (nI i)) 127) q211 (Int32.toNatClampNeg (nI i)) 15) q295 (Int32.toNatClampNeg (nI i)) 168) h 20 = 0 := (iI_a (fk_ne f8095 hck371_3 (by decide))).trans w8346
              have w8381 : sI (stI (stI (stI (stI T371 q64 (Int32.toNatClampNeg (nI i)) ((16777215))) q134 (Int32.toNatClampNeg (nI i)) 127) q211 (Int32.toNatClampNeg (nI i)) 15) q295 (Int32.toNatClampNeg (nI i)) 168) h 21 = 0 := (iI_a (fk_ne f8095 hck371_3 (by decide))).trans w8347
              have w8382 : sI (stI (stI (stI (stI T371 q64 (Int32.toNatClampNeg (nI i)) ((16777215))) q134 (Int32.toNatClampNeg (nI i)) 127) q211 (Int32.toNatClampNeg (nI i)) 15) q295 (Int32.toNatClampNeg (nI i)) 168) h 22 = 0 := (iI_a (fk_ne f8095 hck371_3 (by decide))).trans w8348
              have w8383 : sI (stI (stI (stI (stI T371 q64 (Int32.toNatClampNeg (nI i)) ((16777215))) q134 (Int32.toNatClampNeg (nI i)) 127) q211 (Int32.toNatClampNeg (nI i)) 15) q295 (Int32.toNatClampNeg (nI i)) 168) h 35 = 0 := (iI_a (fk_ne f8095 hck371_3 (by decide))).trans w8349
              have w8384 : sI (stI (stI (stI (stI T371 q64 (Int32.toNatClampNeg (nI i)) ((16777215))) q134 (Int32.toNatClampNeg (nI i)) 127) q211 (Int32.toNatClampNeg (nI i)) 15) q295 (Int32.toNatClampNeg (nI i)) 168) h 36 = 0 := (iI_a (fk_ne f8095 hck371_3 (by decide))).trans w8350
              have w8385 : sI (stI (stI (stI (stI T371 q64 (Int32.toNatClampNeg (nI i)) ((16777215))) q134 (Int32.toNatClampNeg (nI i)) 127) q211 (Int32.toNatClampNeg (nI i)) 15) q295 (Int32.toNatClampNeg (nI i)) 168) h 53 = 0 := (iI_a (fk_ne f8095 hck371_3 (by decide))).trans w8351
              have w8386 : sI (stI (stI (stI (stI T371 q64 (Int32.toNatClampNeg (nI i)) ((16777215))) q134 (Int32.toNatClampNeg (nI i)) 127) q211 (Int32.toNatClampNeg (nI i)) 15) q295 (Int32.toNatClampNeg (nI i)) 168) h 54 = 0 := (iI_a (fk_ne f8095 hck371_3 (by decide))).trans w8352
              have w8387 : sI (stI (stI (stI (stI T371 q64 (Int32.toNatClampNeg (nI i)) ((16777215))) q134 (Int32.toNatClampNeg (nI i)) 127) q211 (Int32.toNatClampNeg (nI i)) 15) q295 (Int32.toNatClampNeg (nI i)) 168) h 55 = 0 := (iI_a (fk_ne f8095 hck371_3 (by decide))).trans w8353
              have w8388 : sI (stI (stI (stI (stI T371 q64 (Int32.toNatClampNeg (nI i)) ((16777215))) q134 (Int32.toNatClampNeg (nI i)) 127) q211 (Int32.toNatClampNeg (nI i)) 15) q295 (Int32.toNatClampNeg (nI i)) 168) h 60 = 0 := (iI_a (fk_ne f8095 hck371_3 (by decide))).trans w8354
              have w8389 : sI (stI (stI (stI (stI T371 q64 (Int32.toNatClampNeg (nI i)) ((16777215))) q134 (Int32.toNatClampNeg (nI i)) 127) q211 (Int32.toNatClampNeg (nI i)) 15) q295 (Int32.toNatClampNeg (nI i)) 168) h 19 = 200 := (iI_a (fk_ne f8095 hck371_3 (by decide))).trans w8355
              have w8390 : sI (stI (stI (stI (stI T371 q64 (Int32.toNatClampNeg (nI i)) ((16777215))) q134 (Int32.toNatClampNeg (nI i)) 127) q211 (Int32.toNatClampNeg (nI i)) 15) q295 (Int32.toNatClampNeg (nI i)) 168) h 23 = 400 := (iI_a (fk_ne f8095 hck371_3 (by decide))).trans w8356
              have w8391 : sI (stI (stI (stI (stI T371 q64 (Int32.toNatClampNeg (nI i)) ((16777215))) q134 (Int32.toNatClampNeg (nI i)) 127) q211 (Int32.toNatClampNeg (nI i)) 15) q295 (Int32.toNatClampNeg (nI i)) 168) h 24 = 3 := (iI_a (fk_ne f8095 hck371_3 (by decide))).trans w8357
              have w8392 : sI (stI (stI (stI (stI T371 q64 (Int32.toNatClampNeg (nI i)) ((16777215))) q134 (Int32.toNatClampNeg (nI i)) 127) q211 (Int32.toNatClampNeg (nI i)) 15) q295 (Int32.toNatClampNeg (nI i)) 168) h 25 = 2 := (iI_a (fk_ne f8095 hck371_3 (by decide))).trans w8358
              have w8393 : ∀ j, j < 2 → sI (stI (stI (stI (stI T371 q64 (Int32.toNatClampNeg (nI i)) ((16777215))) q134 (Int32.toNatClampNeg (nI i)) 127) q211 (Int32.toNatClampNeg (nI i)) 15) q295 (Int32.toNatClampNeg (nI i)) 168) q801 j = 300 := fun j hj => (iI_a (ap_s d816)).trans (w8359 j hj)
              have w8394 : ∀ j, j < 2 → sI (stI (stI (stI (stI T371 q64 (Int32.toNatClampNeg (nI i)) ((16777215))) q134 (Int32.toNatClampNeg (nI i)) 127) q211 (Int32.toNatClampNeg (nI i)) 15) q295 (Int32.toNatClampNeg (nI i)) 168) q922 j = 0 := fun j hj => (iI_a (ap_s d937)).trans (w8360 j hj)
              have w8395 : ∀ j, j < 2 → sI (stI (stI (stI (stI T371 q64 (Int32.toNatClampNeg (nI i)) ((16777215))) q134 (Int32.toNatClampNeg (nI i)) 127) q211 (Int32.toNatClampNeg (nI i)) 15) q295 (Int32.toNatClampNeg (nI i)) 168) q1052 j = 0 := fun j hj => (iI_a (ap_s d1067)).trans (w8361 j hj)
              have w8396 : ∀ j, j < 2 → sI (stI (stI (stI (stI T371 q64 (Int32.toNatClampNeg (nI i)) ((16777215))) q134 (Int32.toNatClampNeg (nI i)) 127) q211 (Int32.toNatClampNeg (nI i)) 15) q295 (Int32.toNatClampNeg (nI i)) 168) q1191 j = 0 := fun j hj => (iI_a (ap_s d1206)).trans (w8362 j hj)
              have w8397 : ∀ j, j < 2 → sI (stI (stI (stI (stI T371 q64 (Int32.toNatClampNeg (nI i)) ((16777215))) q134 (Int32.toNatClampNeg (nI i)) 127) q211 (Int32.toNatClampNeg (nI i)) 15) q295 (Int32.toNatClampNeg (nI i)) 168) q1339 j = 0 := fun j hj => (iI_a (ap_s d1354)).trans (w8363 j hj)
              have w8398 : ∀ j, j < 2 → sI (stI (stI (stI (stI T371 q64 (Int32.toNatClampNeg (nI i)) ((16777215))) q134 (Int32.toNatClampNeg (nI i)) 127) q211 (Int32.toNatClampNeg (nI i)) 15) q295 (Int32.toNatClampNeg (nI i)) 168) q1496 j = 0 := fun j hj => (iI_a (ap_s d1511)).trans (w8364 j hj)
              have w8399 : ∀ j, j < 2 → sI (stI (stI (stI (stI T371 q64 (Int32.toNatClampNeg (nI i)) ((16777215))) q134 (Int32.toNatClampNeg (nI i)) 127) q211 (Int32.toNatClampNeg (nI i)) 15) q295 (Int32.toNatClampNeg (nI i)) 168) q1662 j = 0 := fun j hj => (iI_a (ap_s d1677)).trans (w8365 j hj)
              have w8400 : ∀ j, j < 2 → sI (stI (stI (stI (stI T371 q64 (Int32.toNatClampNeg (nI i)) ((16777215))) q134 (Int32.toNatClampNeg (nI i)) 127) q211 (Int32.toNatClampNeg (nI i)) 15) q295 (Int32.toNatClampNeg (nI i)) 168) q1837 j = 0 := fun j hj => (iI_a (fk_ne f8191 hck371_3 (by decide))).trans (w8366 j hj)
              have w8401 : ∀ j, j < 24 → sI (stI (stI (stI (stI T371 q64 (Int32.toNatClampNeg (nI i)) ((16777215))) q134 (Int32.toNatClampNeg (nI i)) 127) q211 (Int32.toNatClampNeg (nI i)) 15) q295 (Int32.toNatClampNeg (nI i)) 168) q689 j = 10 := fun j hj => (iI_a (ap_s d704)).trans (w8367 j hj)
              clear w8334 w8335 w8336 w8337 w8338 w8339 w8340 w8341 w8342 w8343 w8344 w8345 w8346 w8347 w8348 w8349 w8350 w8351 w8352 w8353 w8354 w8355 w8356 w8357 w8358 w8359 w8360 w8361 w8362 w8363 w8364 w8365 w8366 w8367
              refine lv_aload_n hx hb dX9_init_410 rfl (lv_at hl 0 rfl) ?_
              refine pg_gr (b := q386) (ci := 9) (C := RX9) (T := TX9) (N := 63) hx hb hts wi9 hown hK hW f8095 (by decide) rfl 9 (by decide) (hts (.fieldLink RX9 26 "IceHallModel" "fee" "[I") (by decide +kernel)) (fun _ h9 => h9) rfl f8101 dX9_init_411 ?_
              refine lv_iload_n hx hb dX9_init_414 rfl (lv_at hl 1 rfl) ?_
              refine lv_bipush (v := 100) hx hb dX9_init_415 (by decide) ?_
              refine pg_iast hx hb hK hW hS hck371_4 (by rw [show sL (stI (stI (stI (stI T371 q64 (Int32.toNatClampNeg (nI i)) ((16777215))) q134 (Int32.toNatClampNeg (nI i)) 127) q211 (Int32.toNatClampNeg (nI i)) 15) q295 (Int32.toNatClampNeg (nI i)) 168) q386 = 6 from hcn371_4]; exact vp_in_nI (by omega) (by decide)) dX9_init_417 (fun H locs hW hS => ?_)
              have hX : Kx [h] S (stI (stI (stI (stI (stI T371 q64 (Int32.toNatClampNeg (nI i)) ((16777215))) q134 (Int32.toNatClampNeg (nI i)) 127) q211 (Int32.toNatClampNeg (nI i)) 15) q295 (Int32.toNatClampNeg (nI i)) 168) q386 (Int32.toNatClampNeg (nI i)) 100) := hX.In o389
              have w8402 : sI (stI (stI (stI (stI (stI T371 q64 (Int32.toNatClampNeg (nI i)) ((16777215))) q134 (Int32.toNatClampNeg (nI i)) 127) q211 (Int32.toNatClampNeg (nI i)) 15) q295 (Int32.toNatClampNeg (nI i)) 168) q386 (Int32.toNatClampNeg (nI i)) 100) h 1 = 0 := (iI_a (fk_ne f8095 hck371_4 (by decide))).trans w8368
              have w8403 : sI (stI (stI (stI (stI (stI T371 q64 (Int32.toNatClampNeg (nI i)) ((16777215))) q134 (Int32.toNatClampNeg (nI i)) 127) q211 (Int32.toNatClampNeg (nI i)) 15) q295 (Int32.toNatClampNeg (nI i)) 168) q386 (Int32.toNatClampNeg (nI i)) 100) h 2 = 0 := (iI_a (fk_ne f8095 hck371_4 (by decide))).trans w8369
              have w8404 : sI (stI (stI (stI (stI (stI T371 q64 (Int32.toNatClampNeg (nI i)) ((16777215))) q134 (Int32.toNatClampNeg (nI i)) 127) q211 (Int32.toNatClampNeg (nI i)) 15) q295 (Int32.toNatClampNeg (nI i)) 168) q386 (Int32.toNatClampNeg (nI i)) 100) h 3 = 0 := (iI_a (fk_ne f8095 hck371_4 (by decide))).trans w8370
              have w8405 : sI (stI (stI (stI (stI (stI T371 q64 (Int32.toNatClampNeg (nI i)) ((16777215))) q134 (Int32.toNatClampNeg (nI i)) 127) q211 (Int32.toNatClampNeg (nI i)) 15) q295 (Int32.toNatClampNeg (nI i)) 168) q386 (Int32.toNatClampNeg (nI i)) 100) h 4 = 0 := (iI_a (fk_ne f8095 hck371_4 (by decide))).trans w8371
              have w8406 : sI (stI (stI (stI (stI (stI T371 q64 (Int32.toNatClampNeg (nI i)) ((16777215))) q134 (Int32.toNatClampNeg (nI i)) 127) q211 (Int32.toNatClampNeg (nI i)) 15) q295 (Int32.toNatClampNeg (nI i)) 168) q386 (Int32.toNatClampNeg (nI i)) 100) h 11 = 0 := (iI_a (fk_ne f8095 hck371_4 (by decide))).trans w8372
              have w8407 : sI (stI (stI (stI (stI (stI T371 q64 (Int32.toNatClampNeg (nI i)) ((16777215))) q134 (Int32.toNatClampNeg (nI i)) 127) q211 (Int32.toNatClampNeg (nI i)) 15) q295 (Int32.toNatClampNeg (nI i)) 168) q386 (Int32.toNatClampNeg (nI i)) 100) h 12 = 0 := (iI_a (fk_ne f8095 hck371_4 (by decide))).trans w8373
              have w8408 : sI (stI (stI (stI (stI (stI T371 q64 (Int32.toNatClampNeg (nI i)) ((16777215))) q134 (Int32.toNatClampNeg (nI i)) 127) q211 (Int32.toNatClampNeg (nI i)) 15) q295 (Int32.toNatClampNeg (nI i)) 168) q386 (Int32.toNatClampNeg (nI i)) 100) h 13 = 0 := (iI_a (fk_ne f8095 hck371_4 (by decide))).trans w8374
              have w8409 : sI (stI (stI (stI (stI (stI T371 q64 (Int32.toNatClampNeg (nI i)) ((16777215))) q134 (Int32.toNatClampNeg (nI i)) 127) q211 (Int32.toNatClampNeg (nI i)) 15) q295 (Int32.toNatClampNeg (nI i)) 168) q386 (Int32.toNatClampNeg (nI i)) 100) h 14 = 0 := (iI_a (fk_ne f8095 hck371_4 (by decide))).trans w8375
              have w8410 : sI (stI (stI (stI (stI (stI T371 q64 (Int32.toNatClampNeg (nI i)) ((16777215))) q134 (Int32.toNatClampNeg (nI i)) 127) q211 (Int32.toNatClampNeg (nI i)) 15) q295 (Int32.toNatClampNeg (nI i)) 168) q386 (Int32.toNatClampNeg (nI i)) 100) h 15 = 0 := (iI_a (fk_ne f8095 hck371_4 (by decide))).trans w8376
              have w8411 : sI (stI (stI (stI (stI (stI T371 q64 (Int32.toNatClampNeg (nI i)) ((16777215))) q134 (Int32.toNatClampNeg (nI i)) 127) q211 (Int32.toNatClampNeg (nI i)) 15) q295 (Int32.toNatClampNeg (nI i)) 168) q386 (Int32.toNatClampNeg (nI i)) 100) h 16 = 0 := (iI_a (fk_ne f8095 hck371_4 (by decide))).trans w8377
              have w8412 : sI (stI (stI (stI (stI (stI T371 q64 (Int32.toNatClampNeg (nI i)) ((16777215))) q134 (Int32.toNatClampNeg (nI i)) 127) q211 (Int32.toNatClampNeg (nI i)) 15) q295 (Int32.toNatClampNeg (nI i)) 168) q386 (Int32.toNatClampNeg (nI i)) 100) h 17 = 0 := (iI_a (fk_ne f8095 hck371_4 (by decide))).trans w8378
              have w8413 : sI (stI (stI (stI (stI (stI T371 q64 (Int32.toNatClampNeg (nI i)) ((16777215))) q134 (Int32.toNatClampNeg (nI i)) 127) q211 (Int32.toNatClampNeg (nI i)) 15) q295 (Int32.toNatClampNeg (nI i)) 168) q386 (Int32.toNatClampNeg (nI i)) 100) h 18 = 0 := (iI_a (fk_ne f8095 hck371_4 (by decide))).trans w8379
              have w8414 : sI (stI (stI (stI (stI (stI T371 q64 (Int32.toNatClampNeg (nI i)) ((16777215))) q134 (Int32.toNatClampNeg (nI i)) 127) q211 (Int32.toNatClampNeg (nI i)) 15) q295 (Int32.toNatClampNeg (nI i)) 168) q386 (Int32.toNatClampNeg (nI i)) 100) h 20 = 0 := (iI_a (fk_ne f8095 hck371_4 (by decide))).trans w8380
              have w8415 : sI (stI (stI (stI (stI (stI T371 q64 (Int32.toNatClampNeg (nI i)) ((16777215))) q134 (Int32.toNatClampNeg (nI i)) 127) q211 (Int32.toNatClampNeg (nI i)) 15) q295 (Int32.toNatClampNeg (nI i)) 168) q386 (Int32.toNatClampNeg (nI i)) 100) h 21 = 0 := (iI_a (fk_ne f8095 hck371_4 (by decide))).trans w8381
              have w8416 : sI (stI (stI (stI (stI (stI T371 q64 (Int32.toNatClampNeg (nI i)) ((16777215))) q134 (Int32.toNatClampNeg (nI i)) 127) q211 (Int32.toNatClampNeg (nI i)) 15) q295 (Int32.toNatClampNeg (nI i)) 168) q386 (Int32.toNatClampNeg (nI i)) 100) h 22 = 0 := (iI_a (fk_ne f8095 hck371_4 (by decide))).trans w8382
              have w8417 : sI (stI (stI (stI (stI (stI T371 q64 (Int32.toNatClampNeg (nI i)) ((16777215))) q134 (Int32.toNatClampNeg (nI i)) 127) q211 (Int32.toNatClampNeg (nI i)) 15) q295 (Int32.toNatClampNeg (nI i)) 168) q386 (Int32.toNatClampNeg (nI i)) 100) h 35 = 0 := (iI_a (fk_ne f8095 hck371_4 (by decide))).trans w8383
              have w8418 : sI (stI (stI (stI (stI (stI T371 q64 (Int32.toNatClampNeg (nI i)) ((16777215))) q134 (Int32.toNatClampNeg (nI i)) 127) q211 (Int32.toNatClampNeg (nI i)) 15) q295 (Int32.toNatClampNeg (nI i)) 168) q386 (Int32.toNatClampNeg (nI i)) 100) h 36 = 0 := (iI_a (fk_ne f8095 hck371_4 (by decide))).trans w8384
              have w8419 : sI (stI (stI (stI (stI (stI T371 q64 (Int32.toNatClampNeg (nI i)) ((16777215))) q134 (Int32.toNatClampNeg (nI i)) 127) q211 (Int32.toNatClampNeg (nI i)) 15) q295 (Int32.toNatClampNeg (nI i)) 168) q386 (Int32.toNatClampNeg (nI i)) 100) h 53 = 0 := (iI_a (fk_ne f8095 hck371_4 (by decide))).trans w8385
              have w8420 : sI (stI (stI (stI (stI (stI T371 q64 (Int32.toNatClampNeg (nI i)) ((16777215))) q134 (Int32.toNatClampNeg (nI i)) 127) q211 (Int32.toNatClampNeg (nI i)) 15) q295 (Int32.toNatClampNeg (nI i)) 168) q386 (Int32.toNatClampNeg (nI i)) 100) h 54 = 0 := (iI_a (fk_ne f8095 hck371_4 (by decide))).trans w8386
              have w8421 : sI (stI (stI (stI (stI (stI T371 q64 (Int32.toNatClampNeg (nI i)) ((16777215))) q134 (Int32.toNatClampNeg (nI i)) 127) q211 (Int32.toNatClampNeg (nI i)) 15) q295 (Int32.toNatClampNeg (nI i)) 168) q386 (Int32.toNatClampNeg (nI i)) 100) h 55 = 0 := (iI_a (fk_ne f8095 hck371_4 (by decide))).trans w8387
              have w8422 : sI (stI (stI (stI (stI (stI T371 q64 (Int32.toNatClampNeg (nI i)) ((16777215))) q134 (Int32.toNatClampNeg (nI i)) 127) q211 (Int32.toNatClampNeg (nI i)) 15) q295 (Int32.toNatClampNeg (nI i)) 168) q386 (Int32.toNatClampNeg (nI i)) 100) h 60 = 0 := (iI_a (fk_ne f8095 hck371_4 (by decide))).trans w8388
              have w8423 : sI (stI (stI (stI (stI (stI T371 q64 (Int32.toNatClampNeg (nI i)) ((16777215))) q134 (Int32.toNatClampNeg (nI i)) 127) q211 (Int32.toNatClampNeg (nI i)) 15) q295 (Int32.toNatClampNeg (nI i)) 168) q386 (Int32.toNatClampNeg (nI i)) 100) h 19 = 200 := (iI_a (fk_ne f8095 hck371_4 (by decide))).trans w8389
              have w8424 : sI (stI (stI (stI (stI (stI T371 q64 (Int32.toNatClampNeg (nI i)) ((16777215))) q134 (Int32.toNatClampNeg (nI i)) 127) q211 (Int32.toNatClampNeg (nI i)) 15) q295 (Int32.toNatClampNeg (nI i)) 168) q386 (Int32.toNatClampNeg (nI i)) 100) h 23 = 400 := (iI_a (fk_ne f8095 hck371_4 (by decide))).trans w8390
              have w8425 : sI (stI (stI (stI (stI (stI T371 q64 (Int32.toNatClampNeg (nI i)) ((16777215))) q134 (Int32.toNatClampNeg (nI i)) 127) q211 (Int32.toNatClampNeg (nI i)) 15) q295 (Int32.toNatClampNeg (nI i)) 168) q386 (Int32.toNatClampNeg (nI i)) 100) h 24 = 3 := (iI_a (fk_ne f8095 hck371_4 (by decide))).trans w8391
              have w8426 : sI (stI (stI (stI (stI (stI T371 q64 (Int32.toNatClampNeg (nI i)) ((16777215))) q134 (Int32.toNatClampNeg (nI i)) 127) q211 (Int32.toNatClampNeg (nI i)) 15) q295 (Int32.toNatClampNeg (nI i)) 168) q386 (Int32.toNatClampNeg (nI i)) 100) h 25 = 2 := (iI_a (fk_ne f8095 hck371_4 (by decide))).trans w8392
              have w8427 : ∀ j, j < 2 → sI (stI (stI (stI (stI (stI T371 q64 (Int32.toNatClampNeg (nI i)) ((16777215))) q134 (Int32.toNatClampNeg (nI i)) 127) q211 (Int32.toNatClampNeg (nI i)) 15) q295 (Int32.toNatClampNeg (nI i)) 168) q386 (Int32.toNatClampNeg (nI i)) 100) q801 j = 300 := fun j hj => (iI_a (ap_s d818)).trans (w8393 j hj)
              have w8428 : ∀ j, j < 2 → sI (stI (stI (stI (stI (stI T371 q64 (Int32.toNatClampNeg (nI i)) ((16777215))) q134 (Int32.toNatClampNeg (nI i)) 127) q211 (Int32.toNatClampNeg (nI i)) 15) q295 (Int32.toNatClampNeg (nI i)) 168) q386 (Int32.toNatClampNeg (nI i)) 100) q922 j = 0 := fun j hj => (iI_a (ap_s d939)).trans (w8394 j hj)
              have w8429 : ∀ j, j < 2 → sI (stI (stI (stI (stI (stI T371 q64 (Int32.toNatClampNeg (nI i)) ((16777215))) q134 (Int32.toNatClampNeg (nI i)) 127) q211 (Int32.toNatClampNeg (nI i)) 15) q295 (Int32.toNatClampNeg (nI i)) 168) q386 (Int32.toNatClampNeg (nI i)) 100) q1052 j = 0 := fun j hj => (iI_a (ap_s d1069)).trans (w8395 j hj)
              have w8430 : ∀ j, j < 2 → sI (stI (stI (stI (stI (stI T371 q64 (Int32.toNatClampNeg (nI i)) ((16777215))) q134 (Int32.toNatClampNeg (nI i)) 127) q211 (Int32.toNatClampNeg (nI i)) 15) q295 (Int32.toNatClampNeg (nI i)) 168) q386 (Int32.toNatClampNeg (nI i)) 100) q1191 j = 0 := fun j hj => (iI_a (ap_s d1208)).trans (w8396 j hj)
              have w8431 : ∀ j, j < 2 → sI (stI (stI (stI (stI (stI T371 q64 (Int32.toNatClampNeg (nI i)) ((16777215))) q134 (Int32.toNatClampNeg (nI i)) 127) q211 (Int32.toNatClampNeg (nI i)) 15) q295 (Int32.toNatClampNeg (nI i)) 168) q386 (Int32.toNatClampNeg (nI i)) 100) q1339 j = 0 := fun j hj => (iI_a (ap_s d1356)).trans (w8397 j hj)
              have w8432 : ∀ j, j < 2 → sI (stI (stI (stI (stI (stI T371 q64 (Int32.toNatClampNeg (nI i)) ((16777215))) q134 (Int32.toNatClampNeg (nI i)) 127) q211 (Int32.toNatClampNeg (nI i)) 15) q295 (Int32.toNatClampNeg (nI i)) 168) q386 (Int32.toNatClampNeg (nI i)) 100) q1496 j = 0 := fun j hj => (iI_a (ap_s d1513)).trans (w8398 j hj)
              have w8433 : ∀ j, j < 2 → sI (stI (stI (stI (stI (stI T371 q64 (Int32.toNatClampNeg (nI i)) ((16777215))) q134 (Int32.toNatClampNeg (nI i)) 127) q211 (Int32.toNatClampNeg (nI i)) 15) q295 (Int32.toNatClampNeg (nI i)) 168) q386 (Int32.toNatClampNeg (nI i)) 100) q1662 j = 0 := fun j hj => (iI_a (ap_s d1679)).trans (w8399 j hj)
              have w8434 : ∀ j, j < 2 → sI (stI (stI (stI (stI (stI T371 q64 (Int32.toNatClampNeg (nI i)) ((16777215))) q134 (Int32.toNatClampNeg (nI i)) 127) q211 (Int32.toNatClampNeg (nI i)) 15) q295 (Int32.toNatClampNeg (nI i)) 168) q386 (Int32.toNatClampNeg (nI i)) 100) q1837 j = 0 := fun j hj => (iI_a (fk_ne f8191 hck371_4 (by decide))).trans (w8400 j hj)
              have w8435 : ∀ j, j < 24 → sI (stI (stI (stI (stI (stI T371 q64 (Int32.toNatClampNeg (nI i)) ((16777215))) q134 (Int32.toNatClampNeg (nI i)) 127) q211 (Int32.toNatClampNeg (nI i)) 15) q295 (Int32.toNatClampNeg (nI i)) 168) q386 (Int32.toNatClampNeg (nI i)) 100) q689 j = 10 := fun j hj => (iI_a (ap_s d706)).trans (w8401 j hj)
              clear w8368 w8369 w8370 w8371 w8372 w8373 w8374 w8375 w8376 w8377 w8378 w8379 w8380 w8381 w8382 w8383 w8384 w8385 w8386 w8387 w8388 w8389 w8390 w8391 w8392 w8393 w8394 w8395 w8396 w8397 w8398 w8399 w8400 w8401
              refine lv_aload_n hx hb dX9_init_418 rfl (lv_at hl 0 rfl) ?_
              refine pg_gr (b := q484) (ci := 9) (C := RX9) (T := TX9) (N := 63) hx hb hts wi9 hown hK hW f8095 (by decide) rfl 10 (by decide) (hts (.fieldLink RX9 29 "IceHallModel" "hundredths" "[I") (by decide +kernel)) (fun _ h9 => h9) rfl f8102 dX9_init_419 ?_
              refine lv_iload_n hx hb dX9_init_422 rfl (lv_at hl 1 rfl) ?_
              refine lv_bipush (v := 50) hx hb dX9_init_423 (by decide) ?_
              refine pg_iast hx hb hK hW hS hck371_5 (by rw [show sL (stI (stI (stI (stI (stI T371 q64 (Int32.toNatClampNeg (nI i)) ((16777215))) q134 (Int32.toNatClampNeg (nI i)) 127) q211 (Int32.toNatClampNeg (nI i)) 15) q295 (Int32.toNatClampNeg (nI i)) 168) q386 (Int32.toNatClampNeg (nI i)) 100) q484 = 6 from hcn371_5]; exact vp_in_nI (by omega) (by decide)) dX9_init_425 (fun H locs hW hS => ?_)
              have hX : Kx [h] S (stI (stI (stI (stI (stI (stI T371 q64 (Int32.toNatClampNeg (nI i)) ((16777215))) q134 (Int32.toNatClampNeg (nI i)) 127) q211 (Int32.toNatClampNeg (nI i)) 15) q295 (Int32.toNatClampNeg (nI i)) 168) q386 (Int32.toNatClampNeg (nI i)) 100) q484 (Int32.toNatClampNeg (nI i)) 50) := hX.In o487
              have w8436 : sI (stI (stI (stI (stI (stI (stI T371 q64 (Int32.toNatClampNeg (nI i)) ((16777215))) q134 (Int32.toNatClampNeg (nI i)) 127) q211 (Int32.toNatClampNeg (nI i)) 15) q295 (Int32.toNatClampNeg (nI i)) 168) q386 (Int32.toNatClampNeg (nI i)) 100) q484 (Int32.toNatClampNeg (nI i)) 50) h 1 = 0 := (iI_a (fk_ne f8095 hck371_5 (by decide))).trans w8402
              have w8437 : sI (stI (stI (stI (stI (stI (stI T371 q64 (Int32.toNatClampNeg (nI i)) ((16777215))) q134 (Int32.toNatClampNeg (nI i)) 127) q211 (Int32.toNatClampNeg (nI i)) 15) q295 (Int32.toNatClampNeg (nI i)) 168) q386 (Int32.toNatClampNeg (nI i)) 100) q484 (Int32.toNatClampNeg (nI i)) 50) h 2 = 0 := (iI_a (fk_ne f8095 hck371_5 (by decide))).trans w8403
              have w8438 : sI (stI (stI (stI (stI (stI (stI T371 q64 (Int32.toNatClampNeg (nI i)) ((16777215))) q134 (Int32.toNatClampNeg (nI i)) 127) q211 (Int32.toNatClampNeg (nI i)) 15) q295 (Int32.toNatClampNeg (nI i)) 168) q386 (Int32.toNatClampNeg (nI i)) 100) q484 (Int32.toNatClampNeg (nI i)) 50) h 3 = 0 := (iI_a (fk_ne f8095 hck371_5 (by decide))).trans w8404
              have w8439 : sI (stI (stI (stI (stI (stI (stI T371 q64 (Int32.toNatClampNeg (nI i)) ((16777215))) q134 (Int32.toNatClampNeg (nI i)) 127) q211 (Int32.toNatClampNeg (nI i)) 15) q295 (Int32.toNatClampNeg (nI i)) 168) q386 (Int32.toNatClampNeg (nI i)) 100) q484 (Int32.toNatClampNeg (nI i)) 50) h 4 = 0 := (iI_a (fk_ne f8095 hck371_5 (by decide))).trans w8405
              have w8440 : sI (stI (stI (stI (stI (stI (stI T371 q64 (Int32.toNatClampNeg (nI i)) ((16777215))) q134 (Int32.toNatClampNeg (nI i)) 127) q211 (Int32.toNatClampNeg (nI i)) 15) q295 (Int32.toNatClampNeg (nI i)) 168) q386 (Int32.toNatClampNeg (nI i)) 100) q484 (Int32.toNatClampNeg (nI i)) 50) h 11 = 0 := (iI_a (fk_ne f8095 hck371_5 (by decide))).trans w8406
              have w8441 : sI (stI (stI (stI (stI (stI (stI T371 q64 (Int32.toNatClampNeg (nI i)) ((16777215))) q134 (Int32.toNatClampNeg (nI i)) 127) q211 (Int32.toNatClampNeg (nI i)) 15) q295 (Int32.toNatClampNeg (nI i)) 168) q386 (Int32.toNatClampNeg (nI i)) 100) q484 (Int32.toNatClampNeg (nI i)) 50) h 12 = 0 := (iI_a (fk_ne f8095 hck371_5 (by decide))).trans w8407
              have w8442 : sI (stI (stI (stI (stI (stI (stI T371 q64 (Int32.toNatClampNeg (nI i)) ((16777215))) q134 (Int32.toNatClampNeg (nI i)) 127) q211 (Int32.toNatClampNeg (nI i)) 15) q295 (Int32.toNatClampNeg (nI i)) 168) q386 (Int32.toNatClampNeg (nI i)) 100) q484 (Int32.toNatClampNeg (nI i)) 50) h 13 = 0 := (iI_a (fk_ne f8095 hck371_5 (by decide))).trans w8408
              have w8443 : sI (stI (stI (stI (stI (stI (stI T371 q64 (Int32.toNatClampNeg (nI i)) ((16777215))) q134 (Int32.toNatClampNeg (nI i)) 127) q211 (Int32.toNatClampNeg (nI i)) 15) q295 (Int32.toNatClampNeg (nI i)) 168) q386 (Int32.toNatClampNeg (nI i)) 100) q484 (Int32.toNatClampNeg (nI i)) 50) h 14 = 0 := (iI_a (fk_ne f8095 hck371_5 (by decide))).trans w8409
              have w8444 : sI (stI (stI (stI (stI (stI (stI T371 q64 (Int32.toNatClampNeg (nI i)) ((16777215))) q134 (Int32.toNatClampNeg (nI i)) 127) q211 (Int32.toNatClampNeg (nI i)) 15) q295 (Int32.toNatClampNeg (nI i)) 168) q386 (Int32.toNatClampNeg (nI i)) 100) q484 (Int32.toNatClampNeg (nI i)) 50) h 15 = 0 := (iI_a (fk_ne f8095 hck371_5 (by decide))).trans w8410
              have w8445 : sI (stI (stI (stI (stI (stI (stI T371 q64 (Int32.toNatClampNeg (nI i)) ((16777215))) q134 (Int32.toNatClampNeg (nI i)) 127) q211 (Int32.toNatClampNeg (nI i)) 15) q295 (Int32.toNatClampNeg (nI i)) 168) q386 (Int32.toNatClampNeg (nI i)) 100) q484 (Int32.toNatClampNeg (nI i)) 50) h 16 = 0 := (iI_a (fk_ne f8095 hck371_5 (by decide))).trans w8411
              have w8446 : sI (stI (stI (stI (stI (stI (stI T371 q64 (Int32.toNatClampNeg (nI i)) ((16777215))) q134 (Int32.toNatClampNeg (nI i)) 127) q211 (Int32.toNatClampNeg (nI i)) 15) q295 (Int32.toNatClampNeg (nI i)) 168) q386 (Int32.toNatClampNeg (nI i)) 100) q484 (Int32.toNatClampNeg (nI i)) 50) h 17 = 0 := (iI_a (fk_ne f8095 hck371_5 (by decide))).trans w8412
              have w8447 : sI (stI (stI (stI (stI (stI (stI T371 q64 (Int32.toNatClampNeg (nI i)) ((16777215))) q134 (Int32.toNatClampNeg (nI i)) 127) q211 (Int32.toNatClampNeg (nI i)) 15) q295 (Int32.toNatClampNeg (nI i)) 168) q386 (Int32.toNatClampNeg (nI i)) 100) q484 (Int32.toNatClampNeg (nI i)) 50) h 18 = 0 := (iI_a (fk_ne f8095 hck371_5 (by decide))).trans w8413
              have w8448 : sI (stI (stI (stI (stI (stI (stI T371 q64 (Int32.toNatClampNeg (nI i)) ((16777215))) q134 (Int32.toNatClampNeg (nI i)) 127) q211 (Int32.toNatClampNeg (nI i)) 15) q295 (Int32.toNatClampNeg (nI i)) 168) q386 (Int32.toNatClampNeg (nI i)) 100) q484 (Int32.toNatClampNeg (nI i)) 50) h 20 = 0 := (iI_a (fk_ne f8095 hck371_5 (by decide))).trans w8414
              have w8449 : sI (stI (stI (stI (stI (stI (stI T371 q64 (Int32.toNatClampNeg (nI i)) ((16777215))) q134 (Int32.toNatClampNeg (nI i)) 127) q211 (Int32.toNatClampNeg (nI i)) 15) q295 (Int32.toNatClampNeg (nI i)) 168) q386 (Int32.toNatClampNeg (nI i)) 100) q484 (Int32.toNatClampNeg (nI i)) 50) h 21 = 0 := (iI_a (fk_ne f8095 hck371_5 (by decide))).trans w8415
              have w8450 : sI (stI (stI (stI (stI (stI (stI T371 q64 (Int32.toNatClampNeg (nI i)) ((16777215))) q134 (Int32.toNatClampNeg (nI i)) 127) q211 (Int32.toNatClampNeg (nI i)) 15) q295 (Int32.toNatClampNeg (nI i)) 168) q386 (Int32.toNatClampNeg (nI i)) 100) q484 (Int32.toNatClampNeg (nI i)) 50) h 22 = 0 := (iI_a (fk_ne f8095 hck371_5 (by decide))).trans w8416
              have w8451 : sI (stI (stI (stI (stI (stI (stI T371 q64 (Int32.toNatClampNeg (nI i)) ((16777215))) q134 (Int32.toNatClampNeg (nI i)) 127) q211 (Int32.toNatClampNeg (nI i)) 15) q295 (Int32.toNatClampNeg (nI i)) 168) q386 (Int32.toNatClampNeg (nI i)) 100) q484 (Int32.toNatClampNeg (nI i)) 50) h 35 = 0 := (iI_a (fk_ne f8095 hck371_5 (by decide))).trans w8417
              have w8452 : sI (stI (stI (stI (stI (stI (stI T371 q64 (Int32.toNatClampNeg (nI i)) ((16777215))) q134 (Int32.toNatClampNeg (nI i)) 127) q211 (Int32.toNatClampNeg (nI i)) 15) q295 (Int32.toNatClampNeg (nI i)) 168) q386 (Int32.toNatClampNeg (nI i)) 100) q484 (Int32.toNatClampNeg (nI i)) 50) h 36 = 0 := (iI_a (fk_ne f8095 hck371_5 (by decide))).trans w8418
              have w8453 : sI (stI (stI (stI (stI (stI (stI T371 q64 (Int32.toNatClampNeg (nI i)) ((16777215))) q134 (Int32.toNatClampNeg (nI i)) 127) q211 (Int32.toNatClampNeg (nI i)) 15) q295 (Int32.toNatClampNeg (nI i)) 168) q386 (Int32.toNatClampNeg (nI i)) 100) q484 (Int32.toNatClampNeg (nI i)) 50) h 53 = 0 := (iI_a (fk_ne f8095 hck371_5 (by decide))).trans w8419
              have w8454 : sI (stI (stI (stI (stI (stI (stI T371 q64 (Int32.toNatClampNeg (nI i)) ((16777215))) q134 (Int32.toNatClampNeg (nI i)) 127) q211 (Int32.toNatClampNeg (nI i)) 15) q295 (Int32.toNatClampNeg (nI i)) 168) q386 (Int32.toNatClampNeg (nI i)) 100) q484 (Int32.toNatClampNeg (nI i)) 50) h 54 = 0 := (iI_a (fk_ne f8095 hck371_5 (by decide))).trans w8420
              have w8455 : sI (stI (stI (stI (stI (stI (stI T371 q64 (Int32.toNatClampNeg (nI i)) ((16777215))) q134 (Int32.toNatClampNeg (nI i)) 127) q211 (Int32.toNatClampNeg (nI i)) 15) q295 (Int32.toNatClampNeg (nI i)) 168) q386 (Int32.toNatClampNeg (nI i)) 100) q484 (Int32.toNatClampNeg (nI i)) 50) h 55 = 0 := (iI_a (fk_ne f8095 hck371_5 (by decide))).trans w8421
              have w8456 : sI (stI (stI (stI (stI (stI (stI T371 q64 (Int32.toNatClampNeg (nI i)) ((16777215))) q134 (Int32.toNatClampNeg (nI i)) 127) q211 (Int32.toNatClampNeg (nI i)) 15) q295 (Int32.toNatClampNeg (nI i)) 168) q386 (Int32.toNatClampNeg (nI i)) 100) q484 (Int32.toNatClampNeg (nI i)) 50) h 60 = 0 := (iI_a (fk_ne f8095 hck371_5 (by decide))).trans w8422
              have w8457 : sI (stI (stI (stI (stI (stI (stI T371 q64 (Int32.toNatClampNeg (nI i)) ((16777215))) q134 (Int32.toNatClampNeg (nI i)) 127) q211 (Int32.toNatClampNeg (nI i)) 15) q295 (Int32.toNatClampNeg (nI i)) 168) q386 (Int32.toNatClampNeg (nI i)) 100) q484 (Int32.toNatClampNeg (nI i)) 50) h 19 = 200 := (iI_a (fk_ne f8095 hck371_5 (by decide))).trans w8423
              have w8458 : sI (stI (stI (stI (stI (stI (stI T371 q64 (Int32.toNatClampNeg (nI i)) ((16777215))) q134 (Int32.toNatClampNeg (nI i)) 127) q211 (Int32.toNatClampNeg (nI i)) 15) q295 (Int32.toNatClampNeg (nI i)) 168) q386 (Int32.toNatClampNeg (nI i)) 100) q484 (Int32.toNatClampNeg (nI i)) 50) h 23 = 400 := (iI_a (fk_ne f8095 hck371_5 (by decide))).trans w8424
              have w8459 : sI (stI (stI (stI (stI (stI (stI T371 q64 (Int32.toNatClampNeg (nI i)) ((16777215))) q134 (Int32.toNatClampNeg (nI i)) 127) q211 (Int32.toNatClampNeg (nI i)) 15) q295 (Int32.toNatClampNeg (nI i)) 168) q386 (Int32.toNatClampNeg (nI i)) 100) q484 (Int32.toNatClampNeg (nI i)) 50) h 24 = 3 := (iI_a (fk_ne f8095 hck371_5 (by decide))).trans w8425
              have w8460 : sI (stI (stI (stI (stI (stI (stI T371 q64 (Int32.toNatClampNeg (nI i)) ((16777215))) q134 (Int32.toNatClampNeg (nI i)) 127) q211 (Int32.toNatClampNeg (nI i)) 15) q295 (Int32.toNatClampNeg (nI i)) 168) q386 (Int32.toNatClampNeg (nI i)) 100) q484 (Int32.toNatClampNeg (nI i)) 50) h 25 = 2 := (iI_a (fk_ne f8095 hck371_5 (by decide))).trans w8426
              have w8461 : ∀ j, j < 2 → sI (stI (stI (stI (stI (stI (stI T371 q64 (Int32.toNatClampNeg (nI i)) ((16777215))) q134 (Int32.toNatClampNeg (nI i)) 127) q211 (Int32.toNatClampNeg (nI i)) 15) q295 (Int32.toNatClampNeg (nI i)) 168) q386 (Int32.toNatClampNeg (nI i)) 100) q484 (Int32.toNatClampNeg (nI i)) 50) q801 j = 300 := fun j hj => (iI_a (ap_s d820)).trans (w8427 j hj)
              have w8462 : ∀ j, j < 2 → sI (stI (stI (stI (stI (stI (stI T371 q64 (Int32.toNatClampNeg (nI i)) ((16777215))) q134 (Int32.toNatClampNeg (nI i)) 127) q211 (Int32.toNatClampNeg (nI i)) 15) q295 (Int32.toNatClampNeg (nI i)) 168) q386 (Int32.toNatClampNeg (nI i)) 100) q484 (Int32.toNatClampNeg (nI i)) 50) q922 j = 0 := fun j hj => (iI_a (ap_s d941)).trans (w8428 j hj)
              have w8463 : ∀ j, j < 2 → sI (stI (stI (stI (stI (stI (stI T371 q64 (Int32.toNatClampNeg (nI i)) ((16777215))) q134 (Int32.toNatClampNeg (nI i)) 127) q211 (Int32.toNatClampNeg (nI i)) 15) q295 (Int32.toNatClampNeg (nI i)) 168) q386 (Int32.toNatClampNeg (nI i)) 100) q484 (Int32.toNatClampNeg (nI i)) 50) q1052 j = 0 := fun j hj => (iI_a (ap_s d1071)).trans (w8429 j hj)
              have w8464 : ∀ j, j < 2 → sI (stI (stI (stI (stI (stI (stI T371 q64 (Int32.toNatClampNeg (nI i)) ((16777215))) q134 (Int32.toNatClampNeg (nI i)) 127) q211 (Int32.toNatClampNeg (nI i)) 15) q295 (Int32.toNatClampNeg (nI i)) 168) q386 (Int32.toNatClampNeg (nI i)) 100) q484 (Int32.toNatClampNeg (nI i)) 50) q1191 j = 0 := fun j hj => (iI_a (ap_s d1210)).trans (w8430 j hj)
              have w8465 : ∀ j, j < 2 → sI (stI (stI (stI (stI (stI (stI T371 q64 (Int32.toNatClampNeg (nI i)) ((16777215))) q134 (Int32.toNatClampNeg (nI i)) 127) q211 (Int32.toNatClampNeg (nI i)) 15) q295 (Int32.toNatClampNeg (nI i)) 168) q386 (Int32.toNatClampNeg (nI i)) 100) q484 (Int32.toNatClampNeg (nI i)) 50) q1339 j = 0 := fun j hj => (iI_a (ap_s d1358)).trans (w8431 j hj)
              have w8466 : ∀ j, j < 2 → sI (stI (stI (stI (stI (stI (stI T371 q64 (Int32.toNatClampNeg (nI i)) ((16777215))) q134 (Int32.toNatClampNeg (nI i)) 127) q211 (Int32.toNatClampNeg (nI i)) 15) q295 (Int32.toNatClampNeg (nI i)) 168) q386 (Int32.toNatClampNeg (nI i)) 100) q484 (Int32.toNatClampNeg (nI i)) 50) q1496 j = 0 := fun j hj => (iI_a (ap_s d1515)).trans (w8432 j hj)
              have w8467 : ∀ j, j < 2 → sI (stI (stI (stI (stI (stI (stI T371 q64 (Int32.toNatClampNeg (nI i)) ((16777215))) q134 (Int32.toNatClampNeg (nI i)) 127) q211 (Int32.toNatClampNeg (nI i)) 15) q295 (Int32.toNatClampNeg (nI i)) 168) q386 (Int32.toNatClampNeg (nI i)) 100) q484 (Int32.toNatClampNeg (nI i)) 50) q1662 j = 0 := fun j hj => (iI_a (ap_s d1681)).trans (w8433 j hj)
              have w8468 : ∀ j, j < 2 → sI (stI (stI (stI (stI (stI (stI T371 q64 (Int32.toNatClampNeg (nI i)) ((16777215))) q134 (Int32.toNatClampNeg (nI i)) 127) q211 (Int32.toNatClampNeg (nI i)) 15) q295 (Int32.toNatClampNeg (nI i)) 168) q386 (Int32.toNatClampNeg (nI i)) 100) q484 (Int32.toNatClampNeg (nI i)) 50) q1837 j = 0 := fun j hj => (iI_a (fk_ne f8191 hck371_5 (by decide))).trans (w8434 j hj)
              have w8469 : ∀ j, j < 24 → sI (stI (stI (stI (stI (stI (stI T371 q64 (Int32.toNatClampNeg (nI i)) ((16777215))) q134 (Int32.toNatClampNeg (nI i)) 127) q211 (Int32.toNatClampNeg (nI i)) 15) q295 (Int32.toNatClampNeg (nI i)) 168) q386 (Int32.toNatClampNeg (nI i)) 100) q484 (Int32.toNatClampNeg (nI i)) 50) q689 j = 10 := fun j hj => (iI_a (ap_s d708)).trans (w8435 j hj)
              clear w8402 w8403 w8404 w8405 w8406 w8407 w8408 w8409 w8410 w8411 w8412 w8413 w8414 w8415 w8416 w8417 w8418 w8419 w8420 w8421 w8422 w8423 w8424 w8425 w8426 w8427 w8428 w8429 w8430 w8431 w8432 w8433 w8434 w8435
              refine lv_iinc (v := nI i + 1) (lv' := [(1, .int (nI i + 1)), (0, .ref h)]) hx hb dX9_init_426 hl (k := 1) rfl rfl (by decide) rfl (fun ls hl => ?_)
              refine lv_goto (tgt := 371) hx hb dX9_init_429 (by decide) ?_
              exact ih371 (i + 1) (stI (stI (stI (stI (stI (stI T371 q64 (Int32.toNatClampNeg (nI i)) ((16777215))) q134 (Int32.toNatClampNeg (nI i)) 127) q211 (Int32.toNatClampNeg (nI i)) 15) q295 (Int32.toNatClampNeg (nI i)) 168) q386 (Int32.toNatClampNeg (nI i)) 100) q484 (Int32.toNatClampNeg (nI i)) 50) H locs ls (((((((hkx371.Ih (by simp)).Ih (by simp)).Ih (by simp)).Ih (by simp)).Ih (by simp)).Ih (by simp))) (hck371_0) (hcn371_0) (hck371_1) (hcn371_1) (hck371_2) (hcn371_2) (hck371_3) (hcn371_3) (hck371_4) (hcn371_4) (hck371_5) (hcn371_5) (by omega) (fun j hj => by rw [iI_a d493, iI_a d395, iI_a d304, iI_a d220, iI_a d143, iI, if_pos rfl, nI_clamp (by omega)]; exact ite_up (fun _ => rfl) (fun h8 => by exact hq0 j (by omega))) (fun j hj => by rw [iI_a d495, iI_a d397, iI_a d306, iI_a d222, iI, if_pos rfl, nI_clamp (by omega)]; exact ite_up (fun _ => rfl) (fun h8 => by rw [iI_a (ap_s d143)]; exact hq1 j (by omega))) (fun j hj => by rw [iI_a d497, iI_a d399, iI_a d308, iI, if_pos rfl, nI_clamp (by omega)]; exact ite_up (fun _ => rfl) (fun h8 => by rw [iI_a (ap_s d222), iI_a (ap_s d220)]; exact hq2 j (by omega))) (fun j hj => by rw [iI_a d499, iI_a d401, iI, if_pos rfl, nI_clamp (by omega)]; exact ite_up (fun _ => rfl) (fun h8 => by rw [iI_a (ap_s d308), iI_a (ap_s d306), iI_a (ap_s d304)]; exact hq3 j (by omega))) (fun j hj => by rw [iI_a d501, iI, if_pos rfl, nI_clamp (by omega)]; exact ite_up (fun _ => rfl) (fun h8 => by rw [iI_a (ap_s d401), iI_a (ap_s d399), iI_a (ap_s d397), iI_a (ap_s d395)]; exact hq4 j (by omega))) (fun j hj => by rw [iI, if_pos rfl, nI_clamp (by omega)]; exact ite_up (fun _ => rfl) (fun h8 => by rw [iI_a (ap_s d501), iI_a (ap_s d499), iI_a (ap_s d497), iI_a (ap_s d495), iI_a (ap_s d493)]; exact hq5 j (by omega))) (by omega) hW hS (lv_cast (lv_sub hl [1, 0] rfl) (by rw [nI_1]; rfl))
        exact loop8093 _ 0 T349 H locs ls (Kx.rf _ _) (f7976) (f7977) (f7979) (f7980) (f7982) (f7983) (f7985) (f7986) (f7988) (f7989) (f7991) (f7992) (Nat.zero_le _) (fun j hj => absurd hj (Nat.not_lt_zero _)) (fun j hj => absurd hj (Nat.not_lt_zero _)) (fun j hj => absurd hj (Nat.not_lt_zero _)) (fun j hj => absurd hj (Nat.not_lt_zero _)) (fun j hj => absurd hj (Nat.not_lt_zero _)) (fun j hj => absurd hj (Nat.not_lt_zero _)) (Nat.lt_succ_self _) hW hS (lv_cast (lv_sub hl [1, 0] rfl) (rfl))
      · have c8092i : ¬ ((24 : Int) ≤ Int32.toInt (nI i)) := fun h9 => c8092 ((i3_le _ _).mpr h9)
        refine lv_aload_n hx hb dX9_init_355 rfl (lv_at hl 0 rfl) ?_
        refine pg_gr (b := q689) (ci := 9) (C := RX9) (T := TX9) (N := 63) hx hb hts wi9 hown hK hW f7908 (by decide) rfl 26 (by decide) (hts (.fieldLink RX9 45 "IceHallModel" "priceOf" "[I") (by decide +kernel)) (fun _ h9 => h9) rfl f7916 dX9_init_356 ?_
        refine lv_iload_n hx hb dX9_init_359 rfl (lv_at hl 1 rfl) ?_
        refine lv_bipush (v := 10) hx hb dX9_init_360 (by decide) ?_
        refine pg_iast hx hb hK hW hS hck349_0 (by rw [hcn349_0]; exact vp_in_nI (by omega) (by decide)) dX9_init_362 (fun H locs hW hS => ?_)
        have hX : Kx [h] S (stI T349 q689 (Int32.toNatClampNeg (nI i)) 10) := hX.In o692
        have w8470 : sI (stI T349 q689 (Int32.toNatClampNeg (nI i)) 10) h 1 = 0 := (iI_a (fk_ne f7908 hck349_0 (by decide))).trans f7947
        have w8471 : sI (stI T349 q689 (Int32.toNatClampNeg (nI i)) 10) h 2 = 0 := (iI_a (fk_ne f7908 hck349_0 (by decide))).trans f7948
        have w8472 : sI (stI T349 q689 (Int32.toNatClampNeg (nI i)) 10) h 3 = 0 := (iI_a (fk_ne f7908 hck349_0 (by decide))).trans f7949
        have w8473 : sI (stI T349 q689 (Int32.toNatClampNeg (nI i)) 10) h 4 = 0 := (iI_a (fk_ne f7908 hck349_0 (by decide))).trans f7950
        have w8474 : sI (stI T349 q689 (Int32.toNatClampNeg (nI i)) 10) h 11 = 0 := (iI_a (fk_ne f7908 hck349_0 (by decide))).trans f7951
        have w8475 : sI (stI T349 q689 (Int32.toNatClampNeg (nI i)) 10) h 12 = 0 := (iI_a (fk_ne f7908 hck349_0 (by decide))).trans f7952
        have w8476 : sI (stI T349 q689 (Int32.toNatClampNeg (nI i)) 10) h 13 = 0 := (iI_a (fk_ne f7908 hck349_0 (by decide))).trans f7953
        have w8477 : sI (stI T349 q689 (Int32.toNatClampNeg (nI i)) 10) h 14 = 0 := (iI_a (fk_ne f7908 hck349_0 (by decide))).trans f7954
        have w8478 : sI (stI T349 q689 (Int32.toNatClampNeg (nI i)) 10) h 15 = 0 := (iI_a (fk_ne f7908 hck349_0 (by decide))).trans f7955
        have w8479 : sI (stI T349 q689 (Int32.toNatClampNeg (nI i)) 10) h 16 = 0 := (iI_a (fk_ne f7908 hck349_0 (by decide))).trans f7956
        have w8480 : sI (stI T349 q689 (Int32.toNatClampNeg (nI i)) 10) h 17 = 0 := (iI_a (fk_ne f7908 hck349_0 (by decide))).trans f7957
        have w8481 : sI (stI T349 q689 (Int32.toNatClampNeg (nI i)) 10) h 18 = 0 := (iI_a (fk_ne f7908 hck349_0 (by decide))).trans f7958
        have w8482 : sI (stI T349 q689 (Int32.toNatClampNeg (nI i)) 10) h 20 = 0 := (iI_a (fk_ne f7908 hck349_0 (by decide))).trans f7959
        have w8483 : sI (stI T349 q689 (Int32.toNatClampNeg (nI i)) 10) h 21 = 0 := (iI_a (fk_ne f7908 hck349_0 (by decide))).trans f7960
        have w8484 : sI (stI T349 q689 (Int32.toNatClampNeg (nI i)) 10) h 22 = 0 := (iI_a (fk_ne f7908 hck349_0 (by decide))).trans f7961
        have w8485 : sI (stI T349 q689 (Int32.toNatClampNeg (nI i)) 10) h 35 = 0 := (iI_a (fk_ne f7908 hck349_0 (by decide))).trans f7962
        have w8486 : sI (stI T349 q689 (Int32.toNatClampNeg (nI i)) 10) h 36 = 0 := (iI_a (fk_ne f7908 hck349_0 (by decide))).trans f7963
        have w8487 : sI (stI T349 q689 (Int32.toNatClampNeg (nI i)) 10) h 53 = 0 := (iI_a (fk_ne f7908 hck349_0 (by decide))).trans f7964
        have w8488 : sI (stI T349 q689 (Int32.toNatClampNeg (nI i)) 10) h 54 = 0 := (iI_a (fk_ne f7908 hck349_0 (by decide))).trans f7965
        have w8489 : sI (stI T349 q689 (Int32.toNatClampNeg (nI i)) 10) h 55 = 0 := (iI_a (fk_ne f7908 hck349_0 (by decide))).trans f7966
        have w8490 : sI (stI T349 q689 (Int32.toNatClampNeg (nI i)) 10) h 60 = 0 := (iI_a (fk_ne f7908 hck349_0 (by decide))).trans f7967
        have w8491 : sI (stI T349 q689 (Int32.toNatClampNeg (nI i)) 10) h 19 = 200 := (iI_a (fk_ne f7908 hck349_0 (by decide))).trans f7968
        have w8492 : sI (stI T349 q689 (Int32.toNatClampNeg (nI i)) 10) h 23 = 400 := (iI_a (fk_ne f7908 hck349_0 (by decide))).trans f7969
        have w8493 : sI (stI T349 q689 (Int32.toNatClampNeg (nI i)) 10) h 24 = 3 := (iI_a (fk_ne f7908 hck349_0 (by decide))).trans f7970
        have w8494 : sI (stI T349 q689 (Int32.toNatClampNeg (nI i)) 10) h 25 = 2 := (iI_a (fk_ne f7908 hck349_0 (by decide))).trans f7971
        have w8495 : ∀ j, j < 2 → sI (stI T349 q689 (Int32.toNatClampNeg (nI i)) 10) q801 j = 300 := fun j hj => (iI_a (ap_s d822)).trans (f7996 j hj)
        have w8496 : ∀ j, j < 2 → sI (stI T349 q689 (Int32.toNatClampNeg (nI i)) 10) q922 j = 0 := fun j hj => (iI_a (ap_s d943)).trans (f8000 j hj)
        have w8497 : ∀ j, j < 2 → sI (stI T349 q689 (Int32.toNatClampNeg (nI i)) 10) q1052 j = 0 := fun j hj => (iI_a (ap_s d1073)).trans (f8004 j hj)
        have w8498 : ∀ j, j < 2 → sI (stI T349 q689 (Int32.toNatClampNeg (nI i)) 10) q1191 j = 0 := fun j hj => (iI_a (ap_s d1212)).trans (f8008 j hj)
        have w8499 : ∀ j, j < 2 → sI (stI T349 q689 (Int32.toNatClampNeg (nI i)) 10) q1339 j = 0 := fun j hj => (iI_a (ap_s d1360)).trans (f8012 j hj)
        have w8500 : ∀ j, j < 2 → sI (stI T349 q689 (Int32.toNatClampNeg (nI i)) 10) q1496 j = 0 := fun j hj => (iI_a (ap_s d1517)).trans (f8016 j hj)
        have w8501 : ∀ j, j < 2 → sI (stI T349 q689 (Int32.toNatClampNeg (nI i)) 10) q1662 j = 0 := fun j hj => (iI_a (ap_s d1683)).trans (f8020 j hj)
        have w8502 : ∀ j, j < 2 → sI (stI T349 q689 (Int32.toNatClampNeg (nI i)) 10) q1837 j = 0 := fun j hj => (iI_a (fk_ne f8022 hck349_0 (by decide))).trans (f8024 j hj)
        clear f7947 f7948 f7949 f7950 f7951 f7952 f7953 f7954 f7955 f7956 f7957 f7958 f7959 f7960 f7961 f7962 f7963 f7964 f7965 f7966 f7967 f7968 f7969 f7970 f7971 f7996 f8000 f8004 f8008 f8012 f8016 f8020 f8024
        refine lv_iinc (v := nI i + 1) (lv' := [(1, .int (nI i + 1)), (0, .ref h)]) hx hb dX9_init_363 hl (k := 1) rfl rfl (by decide) rfl (fun ls hl => ?_)
        refine lv_goto (tgt := 349) hx hb dX9_init_366 (by decide) ?_
        exact ih (i + 1) (stI T349 q689 (Int32.toNatClampNeg (nI i)) 10) H locs ls (hkx349.Ih List.mem_cons_self) (hck349_0) (hcn349_0) (by omega) (fun j hj => by rw [iI, if_pos rfl, nI_clamp (by omega)]; exact ite_up (fun _ => rfl) (fun h8 => hel j (by omega))) (by omega) hW hS (lv_cast (lv_sub hl [1, 0] rfl) (by rw [nI_1]; rfl))
  exact loop7906 _ 0 (stI (stI S7692 q801 (Int32.toNatClampNeg 0) 300) q801 (Int32.toNatClampNeg 1) 300) H locs ls (Kx.rf _ _) (k7701) (n7776) (Nat.zero_le _) (fun j hj => absurd hj (Nat.not_lt_zero _)) (Nat.lt_succ_self _) hW hS (lv_cast (lv_sub hl [1, 0] rfl) (rfl))
