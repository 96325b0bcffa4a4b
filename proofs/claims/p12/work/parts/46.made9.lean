set_option maxHeartbeats 4000000 in
set_option maxRecDepth 100000 in
theorem b_X9_init (l : Launch) (D : va_G) (cy : Nat → ClassId) (A : Nat → Prop) (S : St) (ex : List Nat) (h : Nat) (hG0 : Gx (h :: ex) S) (hk : sK S h = 9) (z1 : sI S h 1 = 0) (z18 : sI S h 18 = 0) : MV l yX9_init wsX9_init ({ frames := 1, cells := 38, slots := 2050, locals := 60 } : Room) 38 2050 D cy A [.ref h] S (fun S1 => Gx ex S1 ∧ Fr [h] [1100] S S1 ∧ (sI S1 h 1 = 0 ∧ sI S1 h 18 = 0 ∧ sI S1 h 24 = 3)) := by
  refine mt_start (cc := cX9_init) (maxL := 2) (ret := none) (by decide) rfl (Nat.le_of_ble_eq_true rfl) ?_
  intro p e s m args below meth c hx hb hr hlk hml hown hnm hts hK hZ hA hW hS ls hl
  have hl : lv_has ls 2 [(0, .ref h)] := hl
  have hown : s.vm.findClass RX9 = some m.cls := hown
  have F : CallFix p m c cX9_init 2 s args wsX9_init RX9 := ⟨hx, hb, hml, hown, hts⟩
  have wi9 : ∀ w ∈ u_ws RX9 TX9 63, w ∈ wsX9_init := by decide +kernel
  have hG := hG0
  have hF : Fr [h] [1100] S S := Fr.rf _ _ _
  have hD : Dn [] S h 9 := Dn.nil _ _ _
  have hkh : sK S h = 9 := hk
  refine lv_aload_n hx hb dX9_init_0 rfl (lv_at hl 0 rfl) ?_
  refine W.objInit hx hb hown (hts (.methodLink RX9 1 objectInit) (by decide +kernel)) (hts (.instanceMethod objectInit) (by decide +kernel)) (hts (.code objectInit ⟨#[0xb1]⟩ 1 none) (by decide +kernel)) rfl (by rw [hml]; exact hl.1) rfl dX9_init_1 (Nat.le_of_ble_eq_true rfl) (Nat.le_of_ble_eq_true rfl) ?_
  refine W.eq (g2 := F0 m 4 ls []) rfl ?_
  refine lv_aload_n hx hb dX9_init_4 rfl (lv_at hl 0 rfl) ?_
  refine lv_bipush (v := 80) hx hb dX9_init_5 (by decide) ?_
  refine pg_newa (atype := .byte) (ty := .byte) (kd := 10) (t0 := 0) (N' := 80) hx hb (hts (.arrayClass .byte) (by decide +kernel)) rfl rfl (Or.inr (Or.inl rfl)) (by decide) hK hW hS hA (fun _ => rfl) (by decide) (by decide) (Nat.le_of_ble_eq_true rfl) (Nat.le_of_ble_eq_true rfl) (Nat.le_of_ble_eq_true rfl) dX9_init_7 (fun q1 H hq1 hW hS => ?_)
  have nqq1_hF : 20 ≤ sK S q1 := hF.new hq1
  obtain ⟨S2, eS2⟩ : ∃ T : St, T = stN S q1 10 80 := ⟨_, rfl⟩
  rw [← eS2] at hW
  have hG : Gx (q1 :: h :: ex) S2 := by rw [eS2]; exact hG.N hq1
  have w3 : sI S2 h 1 = 0 := by rw [eS2]; rw [iN, if_neg (fun e9 => by have := hk; rw [e9] at this; omega)]; exact z1
  have w4 : sI S2 h 18 = 0 := by rw [eS2]; rw [iN, if_neg (fun e9 => by have := hk; rw [e9] at this; omega)]; exact z18
  have hF : Fr [h] [1100] S S2 := by rw [eS2]; exact hF.N hq1
  have hD : Dn [] S2 h 9 := by rw [eS2]; exact hD.F ((Fr.rf [] [] _).N hq1) hkh (by decide) List.not_mem_nil
  have hkh : sK S2 h = 9 := hF.k hk (by decide)
  have hE5 : Fr [h] [1100] S2 S2 := Fr.rf _ _ _
  have kq1 : sK S2 q1 = 10 := by rw [eS2, kN, if_pos rfl]
  have nq1 : sL S2 q1 = 80 := by rw [eS2, lNw, if_pos rfl]
  have hG : Gx (h :: ex) S2 := hG.pl kq1 rty_10
  clear eS2
  refine pg_pr (ci := 9) (C := RX9) (T := TX9) (N := 63) hx hb hts wi9 tyX9 tyX9_ok nmX9 hown hK hW hS (hF.k hk (by decide)) (by decide) rfl 0 (by decide) (hts (.fieldLink RX9 7 "IceHallModel" "tape" "[B") (by decide +kernel)) (fun _ h9 => h9) rfl hnm rfl rfl rfl rfl dX9_init_9 (fun H locs hW hS => ?_)
  have kq7 : sK S2 h = 9 := (hF.k hk (by decide))
  have hbS6 := And.intro kq1 nq1
  obtain ⟨S6, eS6⟩ : ∃ T : St, T = stR S2 h 0 (some q1) := ⟨_, rfl⟩
  rw [← eS6] at hW
  have hD : Dn [0] S6 h 9 := by rw [eS6]; exact hD.R (fun kd n ht => by cases ht; exact hbS6)
  have hG : Gx (h :: ex) S6 := by rw [eS6]; exact hG.Rh List.mem_cons_self kq7 (by decide)
  have hF : Fr [h] [1100] S S6 := by rw [eS6]; exact hF.Rh List.mem_cons_self
  have hE5 : Fr [h] [1100] S2 S6 := by rw [eS6]; exact hE5.Rh List.mem_cons_self
  have hkh : sK S6 h = 9 := hF.k hk (by decide)
  have w8 : sI S6 h 1 = 0 := by rw [eS6]; exact w3
  have w9 : sI S6 h 18 = 0 := by rw [eS6]; exact w4
  clear eS6 hbS6
  clear hE5
  refine lv_aload_n hx hb dX9_init_12 rfl (lv_at hl 0 rfl) ?_
  refine lv_bipush (v := 6) hx hb dX9_init_13 (by decide) ?_
  refine pg_newa (atype := .int) (ty := .int) (kd := 11) (t0 := 1) (N' := 6) hx hb (hts (.arrayClass .int) (by decide +kernel)) rfl rfl (Or.inl rfl) (by decide) hK hW hS hA (fun _ => rfl) (by decide) (by decide) (Nat.le_of_ble_eq_true rfl) (Nat.le_of_ble_eq_true rfl) (Nat.le_of_ble_eq_true rfl) dX9_init_15 (fun q10 H hq10 hW hS => ?_)
  have nqq10_hF : 20 ≤ sK S q10 := hF.new hq10
  obtain ⟨S11, eS11⟩ : ∃ T : St, T = stN S6 q10 11 6 := ⟨_, rfl⟩
  rw [← eS11] at hW
  have hG : Gx (q10 :: h :: ex) S11 := by rw [eS11]; exact hG.N hq10
  have w12 : sI S11 h 1 = 0 := by rw [eS11]; rw [iN, if_neg (fun e9 => by have := (hF.k hk (by decide)); rw [e9] at this; omega)]; exact w8
  have w13 : sI S11 h 18 = 0 := by rw [eS11]; rw [iN, if_neg (fun e9 => by have := (hF.k hk (by decide)); rw [e9] at this; omega)]; exact w9
  have hF : Fr [h] [1100] S S11 := by rw [eS11]; exact hF.N hq10
  have hD : Dn [0] S11 h 9 := by rw [eS11]; exact hD.F ((Fr.rf [] [] _).N hq10) hkh (by decide) List.not_mem_nil
  have hkh : sK S11 h = 9 := hF.k hk (by decide)
  have hE14 : Fr [h] [1100] S11 S11 := Fr.rf _ _ _
  have kq10 : sK S11 q10 = 11 := by rw [eS11, kN, if_pos rfl]
  have nq10 : sL S11 q10 = 6 := by rw [eS11, lNw, if_pos rfl]
  have hG : Gx (h :: ex) S11 := hG.pl kq10 rty_11
  clear eS11
  refine pg_pr (ci := 9) (C := RX9) (T := TX9) (N := 63) hx hb hts wi9 tyX9 tyX9_ok nmX9 hown hK hW hS (hF.k hk (by decide)) (by decide) rfl 5 (by decide) (hts (.fieldLink RX9 13 "IceHallModel" "clocks" "[I") (by decide +kernel)) (fun _ h9 => h9) rfl hnm rfl rfl rfl rfl dX9_init_17 (fun H locs hW hS => ?_)
  have kq16 : sK S11 h = 9 := (hF.k hk (by decide))
  have hbS15 := And.intro kq10 nq10
  obtain ⟨S15, eS15⟩ : ∃ T : St, T = stR S11 h 5 (some q10) := ⟨_, rfl⟩
  rw [← eS15] at hW
  have hD : Dn [5, 0] S15 h 9 := by rw [eS15]; exact hD.R (fun kd n ht => by cases ht; exact hbS15)
  have hG : Gx (h :: ex) S15 := by rw [eS15]; exact hG.Rh List.mem_cons_self kq16 (by decide)
  have hF : Fr [h] [1100] S S15 := by rw [eS15]; exact hF.Rh List.mem_cons_self
  have hE14 : Fr [h] [1100] S11 S15 := by rw [eS15]; exact hE14.Rh List.mem_cons_self
  have hkh : sK S15 h = 9 := hF.k hk (by decide)
  have w17 : sI S15 h 1 = 0 := by rw [eS15]; exact w12
  have w18 : sI S15 h 18 = 0 := by rw [eS15]; exact w13
  clear eS15 hbS15
  clear hE14
  refine lv_aload_n hx hb dX9_init_20 rfl (lv_at hl 0 rfl) ?_
  refine lv_bipush (v := 6) hx hb dX9_init_21 (by decide) ?_
  refine pg_newa (atype := .int) (ty := .int) (kd := 11) (t0 := 1) (N' := 6) hx hb (hts (.arrayClass .int) (by decide +kernel)) rfl rfl (Or.inl rfl) (by decide) hK hW hS hA (fun _ => rfl) (by decide) (by decide) (Nat.le_of_ble_eq_true rfl) (Nat.le_of_ble_eq_true rfl) (Nat.le_of_ble_eq_true rfl) dX9_init_23 (fun q19 H hq19 hW hS => ?_)
  have nqq19_hF : 20 ≤ sK S q19 := hF.new hq19
  obtain ⟨S20, eS20⟩ : ∃ T : St, T = stN S15 q19 11 6 := ⟨_, rfl⟩
  rw [← eS20] at hW
  have hG : Gx (q19 :: h :: ex) S20 := by rw [eS20]; exact hG.N hq19
  have w21 : sI S20 h 1 = 0 := by rw [eS20]; rw [iN, if_neg (fun e9 => by have := (hF.k hk (by decide)); rw [e9] at this; omega)]; exact w17
  have w22 : sI S20 h 18 = 0 := by rw [eS20]; rw [iN, if_neg (fun e9 => by have := (hF.k hk (by decide)); rw [e9] at this; omega)]; exact w18
  have hF : Fr [h] [1100] S S20 := by rw [eS20]; exact hF.N hq19
  have hD : Dn [5, 0] S20 h 9 := by rw [eS20]; exact hD.F ((Fr.rf [] [] _).N hq19) hkh (by decide) List.not_mem_nil
  have hkh : sK S20 h = 9 := hF.k hk (by decide)
  have hE23 : Fr [h] [1100] S20 S20 := Fr.rf _ _ _
  have kq19 : sK S20 q19 = 11 := by rw [eS20, kN, if_pos rfl]
  have nq19 : sL S20 q19 = 6 := by rw [eS20, lNw, if_pos rfl]
  have hG : Gx (h :: ex) S20 := hG.pl kq19 rty_11
  clear eS20
  refine pg_pr (ci := 9) (C := RX9) (T := TX9) (N := 63) hx hb hts wi9 tyX9 tyX9_ok nmX9 hown hK hW hS (hF.k hk (by decide)) (by decide) rfl 6 (by decide) (hts (.fieldLink RX9 17 "IceHallModel" "daysOf" "[I") (by decide +kernel)) (fun _ h9 => h9) rfl hnm rfl rfl rfl rfl dX9_init_25 (fun H locs hW hS => ?_)
  have kq25 : sK S20 h = 9 := (hF.k hk (by decide))
  have hbS24 := And.intro kq19 nq19
  obtain ⟨S24, eS24⟩ : ∃ T : St, T = stR S20 h 6 (some q19) := ⟨_, rfl⟩
  rw [← eS24] at hW
  have hD : Dn [6, 5, 0] S24 h 9 := by rw [eS24]; exact hD.R (fun kd n ht => by cases ht; exact hbS24)
  have hG : Gx (h :: ex) S24 := by rw [eS24]; exact hG.Rh List.mem_cons_self kq25 (by decide)
  have hF : Fr [h] [1100] S S24 := by rw [eS24]; exact hF.Rh List.mem_cons_self
  have hE23 : Fr [h] [1100] S20 S24 := by rw [eS24]; exact hE23.Rh List.mem_cons_self
  have hkh : sK S24 h = 9 := hF.k hk (by decide)
  have w26 : sI S24 h 1 = 0 := by rw [eS24]; exact w21
  have w27 : sI S24 h 18 = 0 := by rw [eS24]; exact w22
  clear eS24 hbS24
  clear hE23
  refine lv_aload_n hx hb dX9_init_28 rfl (lv_at hl 0 rfl) ?_
  refine lv_bipush (v := 6) hx hb dX9_init_29 (by decide) ?_
  refine pg_newa (atype := .int) (ty := .int) (kd := 11) (t0 := 1) (N' := 6) hx hb (hts (.arrayClass .int) (by decide +kernel)) rfl rfl (Or.inl rfl) (by decide) hK hW hS hA (fun _ => rfl) (by decide) (by decide) (Nat.le_of_ble_eq_true rfl) (Nat.le_of_ble_eq_true rfl) (Nat.le_of_ble_eq_true rfl) dX9_init_31 (fun q28 H hq28 hW hS => ?_)
  have nqq28_hF : 20 ≤ sK S q28 := hF.new hq28
  obtain ⟨S29, eS29⟩ : ∃ T : St, T = stN S24 q28 11 6 := ⟨_, rfl⟩
  rw [← eS29] at hW
  have hG : Gx (q28 :: h :: ex) S29 := by rw [eS29]; exact hG.N hq28
  have w30 : sI S29 h 1 = 0 := by rw [eS29]; rw [iN, if_neg (fun e9 => by have := (hF.k hk (by decide)); rw [e9] at this; omega)]; exact w26
  have w31 : sI S29 h 18 = 0 := by rw [eS29]; rw [iN, if_neg (fun e9 => by have := (hF.k hk (by decide)); rw [e9] at this; omega)]; exact w27
  have hF : Fr [h] [1100] S S29 := by rw [eS29]; exact hF.N hq28
  have hD : Dn [6, 5, 0] S29 h 9 := by rw [eS29]; exact hD.F ((Fr.rf [] [] _).N hq28) hkh (by decide) List.not_mem_nil
  have hkh : sK S29 h = 9 := hF.k hk (by decide)
  have hE32 : Fr [h] [1100] S29 S29 := Fr.rf _ _ _
  have kq28 : sK S29 q28 = 11 := by rw [eS29, kN, if_pos rfl]
  have nq28 : sL S29 q28 = 6 := by rw [eS29, lNw, if_pos rfl]
  have hG : Gx (h :: ex) S29 := hG.pl kq28 rty_11
  clear eS29
  refine pg_pr (ci := 9) (C := RX9) (T := TX9) (N := 63) hx hb hts wi9 tyX9 tyX9_ok nmX9 hown hK hW hS (hF.k hk (by decide)) (by decide) rfl 7 (by decide) (hts (.fieldLink RX9 20 "IceHallModel" "kinds" "[I") (by decide +kernel)) (fun _ h9 => h9) rfl hnm rfl rfl rfl rfl dX9_init_33 (fun H locs hW hS => ?_)
  have kq34 : sK S29 h = 9 := (hF.k hk (by decide))
  have hbS33 := And.intro kq28 nq28
  obtain ⟨S33, eS33⟩ : ∃ T : St, T = stR S29 h 7 (some q28) := ⟨_, rfl⟩
  rw [← eS33] at hW
  have hD : Dn [7, 6, 5, 0] S33 h 9 := by rw [eS33]; exact hD.R (fun kd n ht => by cases ht; exact hbS33)
  have hG : Gx (h :: ex) S33 := by rw [eS33]; exact hG.Rh List.mem_cons_self kq34 (by decide)
  have hF : Fr [h] [1100] S S33 := by rw [eS33]; exact hF.Rh List.mem_cons_self
  have hE32 : Fr [h] [1100] S29 S33 := by rw [eS33]; exact hE32.Rh List.mem_cons_self
  have hkh : sK S33 h = 9 := hF.k hk (by decide)
  have w35 : sI S33 h 1 = 0 := by rw [eS33]; exact w30
  have w36 : sI S33 h 18 = 0 := by rw [eS33]; exact w31
  clear eS33 hbS33
  clear hE32
  refine lv_aload_n hx hb dX9_init_36 rfl (lv_at hl 0 rfl) ?_
  refine lv_bipush (v := 6) hx hb dX9_init_37 (by decide) ?_
  refine pg_newa (atype := .int) (ty := .int) (kd := 11) (t0 := 1) (N' := 6) hx hb (hts (.arrayClass .int) (by decide +kernel)) rfl rfl (Or.inl rfl) (by decide) hK hW hS hA (fun _ => rfl) (by decide) (by decide) (Nat.le_of_ble_eq_true rfl) (Nat.le_of_ble_eq_true rfl) (Nat.le_of_ble_eq_true rfl) dX9_init_39 (fun q37 H hq37 hW hS => ?_)
  have nqq37_hF : 20 ≤ sK S q37 := hF.new hq37
  obtain ⟨S38, eS38⟩ : ∃ T : St, T = stN S33 q37 11 6 := ⟨_, rfl⟩
  rw [← eS38] at hW
  have hG : Gx (q37 :: h :: ex) S38 := by rw [eS38]; exact hG.N hq37
  have w39 : sI S38 h 1 = 0 := by rw [eS38]; rw [iN, if_neg (fun e9 => by have := (hF.k hk (by decide)); rw [e9] at this; omega)]; exact w35
  have w40 : sI S38 h 18 = 0 := by rw [eS38]; rw [iN, if_neg (fun e9 => by have := (hF.k hk (by decide)); rw [e9] at this; omega)]; exact w36
  have hF : Fr [h] [1100] S S38 := by rw [eS38]; exact hF.N hq37
  have hD : Dn [7, 6, 5, 0] S38 h 9 := by rw [eS38]; exact hD.F ((Fr.rf [] [] _).N hq37) hkh (by decide) List.not_mem_nil
  have hkh : sK S38 h = 9 := hF.k hk (by decide)
  have hE41 : Fr [h] [1100] S38 S38 := Fr.rf _ _ _
  have kq37 : sK S38 q37 = 11 := by rw [eS38, kN, if_pos rfl]
  have nq37 : sL S38 q37 = 6 := by rw [eS38, lNw, if_pos rfl]
  have hG : Gx (h :: ex) S38 := hG.pl kq37 rty_11
  clear eS38
  refine pg_pr (ci := 9) (C := RX9) (T := TX9) (N := 63) hx hb hts wi9 tyX9 tyX9_ok nmX9 hown hK hW hS (hF.k hk (by decide)) (by decide) rfl 8 (by decide) (hts (.fieldLink RX9 23 "IceHallModel" "limit" "[I") (by decide +kernel)) (fun _ h9 => h9) rfl hnm rfl rfl rfl rfl dX9_init_41 (fun H locs hW hS => ?_)
  have kq43 : sK S38 h = 9 := (hF.k hk (by decide))
  have hbS42 := And.intro kq37 nq37
  obtain ⟨S42, eS42⟩ : ∃ T : St, T = stR S38 h 8 (some q37) := ⟨_, rfl⟩
  rw [← eS42] at hW
  have hD : Dn [8, 7, 6, 5, 0] S42 h 9 := by rw [eS42]; exact hD.R (fun kd n ht => by cases ht; exact hbS42)
  have hG : Gx (h :: ex) S42 := by rw [eS42]; exact hG.Rh List.mem_cons_self kq43 (by decide)
  have hF : Fr [h] [1100] S S42 := by rw [eS42]; exact hF.Rh List.mem_cons_self
  have hE41 : Fr [h] [1100] S38 S42 := by rw [eS42]; exact hE41.Rh List.mem_cons_self
  have hkh : sK S42 h = 9 := hF.k hk (by decide)
  have w44 : sI S42 h 1 = 0 := by rw [eS42]; exact w39
  have w45 : sI S42 h 18 = 0 := by rw [eS42]; exact w40
  clear eS42 hbS42
  clear hE41
  refine lv_aload_n hx hb dX9_init_44 rfl (lv_at hl 0 rfl) ?_
  refine lv_bipush (v := 6) hx hb dX9_init_45 (by decide) ?_
  refine pg_newa (atype := .int) (ty := .int) (kd := 11) (t0 := 1) (N' := 6) hx hb (hts (.arrayClass .int) (by decide +kernel)) rfl rfl (Or.inl rfl) (by decide) hK hW hS hA (fun _ => rfl) (by decide) (by decide) (Nat.le_of_ble_eq_true rfl) (Nat.le_of_ble_eq_true rfl) (Nat.le_of_ble_eq_true rfl) dX9_init_47 (fun q46 H hq46 hW hS => ?_)
  have nqq46_hF : 20 ≤ sK S q46 := hF.new hq46
  obtain ⟨S47, eS47⟩ : ∃ T : St, T = stN S42 q46 11 6 := ⟨_, rfl⟩
  rw [← eS47] at hW
  have hG : Gx (q46 :: h :: ex) S47 := by rw [eS47]; exact hG.N hq46
  have w48 : sI S47 h 1 = 0 := by rw [eS47]; rw [iN, if_neg (fun e9 => by have := (hF.k hk (by decide)); rw [e9] at this; omega)]; exact w44
  have w49 : sI S47 h 18 = 0 := by rw [eS47]; rw [iN, if_neg (fun e9 => by have := (hF.k hk (by decide)); rw [e9] at this; omega)]; exact w45
  have hF : Fr [h] [1100] S S47 := by rw [eS47]; exact hF.N hq46
  have hD : Dn [8, 7, 6, 5, 0] S47 h 9 := by rw [eS47]; exact hD.F ((Fr.rf [] [] _).N hq46) hkh (by decide) List.not_mem_nil
  have hkh : sK S47 h = 9 := hF.k hk (by decide)
  have hE50 : Fr [h] [1100] S47 S47 := Fr.rf _ _ _
  have kq46 : sK S47 q46 = 11 := by rw [eS47, kN, if_pos rfl]
  have nq46 : sL S47 q46 = 6 := by rw [eS47, lNw, if_pos rfl]
  have hG : Gx (h :: ex) S47 := hG.pl kq46 rty_11
  clear eS47
  refine pg_pr (ci := 9) (C := RX9) (T := TX9) (N := 63) hx hb hts wi9 tyX9 tyX9_ok nmX9 hown hK hW hS (hF.k hk (by decide)) (by decide) rfl 9 (by decide) (hts (.fieldLink RX9 26 "IceHallModel" "fee" "[I") (by decide +kernel)) (fun _ h9 => h9) rfl hnm rfl rfl rfl rfl dX9_init_49 (fun H locs hW hS => ?_)
  have kq52 : sK S47 h = 9 := (hF.k hk (by decide))
  have hbS51 := And.intro kq46 nq46
  obtain ⟨S51, eS51⟩ : ∃ T : St, T = stR S47 h 9 (some q46) := ⟨_, rfl⟩
  rw [← eS51] at hW
  have hD : Dn [9, 8, 7, 6, 5, 0] S51 h 9 := by rw [eS51]; exact hD.R (fun kd n ht => by cases ht; exact hbS51)
  have hG : Gx (h :: ex) S51 := by rw [eS51]; exact hG.Rh List.mem_cons_self kq52 (by decide)
  have hF : Fr [h] [1100] S S51 := by rw [eS51]; exact hF.Rh List.mem_cons_self
  have hE50 : Fr [h] [1100] S47 S51 := by rw [eS51]; exact hE50.Rh List.mem_cons_self
  have hkh : sK S51 h = 9 := hF.k hk (by decide)
  have w53 : sI S51 h 1 = 0 := by rw [eS51]; exact w48
  have w54 : sI S51 h 18 = 0 := by rw [eS51]; exact w49
  clear eS51 hbS51
  clear hE50
  refine lv_aload_n hx hb dX9_init_52 rfl (lv_at hl 0 rfl) ?_
  refine lv_bipush (v := 6) hx hb dX9_init_53 (by decide) ?_
  refine pg_newa (atype := .int) (ty := .int) (kd := 11) (t0 := 1) (N' := 6) hx hb (hts (.arrayClass .int) (by decide +kernel)) rfl rfl (Or.inl rfl) (by decide) hK hW hS hA (fun _ => rfl) (by decide) (by decide) (Nat.le_of_ble_eq_true rfl) (Nat.le_of_ble_eq_true rfl) (Nat.le_of_ble_eq_true rfl) dX9_init_55 (fun q55 H hq55 hW hS => ?_)
  have nqq55_hF : 20 ≤ sK S q55 := hF.new hq55
  obtain ⟨S56, eS56⟩ : ∃ T : St, T = stN S51 q55 11 6 := ⟨_, rfl⟩
  rw [← eS56] at hW
  have hG : Gx (q55 :: h :: ex) S56 := by rw [eS56]; exact hG.N hq55
  have w57 : sI S56 h 1 = 0 := by rw [eS56]; rw [iN, if_neg (fun e9 => by have := (hF.k hk (by decide)); rw [e9] at this; omega)]; exact w53
  have w58 : sI S56 h 18 = 0 := by rw [eS56]; rw [iN, if_neg (fun e9 => by have := (hF.k hk (by decide)); rw [e9] at this; omega)]; exact w54
  have hF : Fr [h] [1100] S S56 := by rw [eS56]; exact hF.N hq55
  have hD : Dn [9, 8, 7, 6, 5, 0] S56 h 9 := by rw [eS56]; exact hD.F ((Fr.rf [] [] _).N hq55) hkh (by decide) List.not_mem_nil
  have hkh : sK S56 h = 9 := hF.k hk (by decide)
  have hE59 : Fr [h] [1100] S56 S56 := Fr.rf _ _ _
  have kq55 : sK S56 q55 = 11 := by rw [eS56, kN, if_pos rfl]
  have nq55 : sL S56 q55 = 6 := by rw [eS56, lNw, if_pos rfl]
  have hG : Gx (h :: ex) S56 := hG.pl kq55 rty_11
  clear eS56
  refine pg_pr (ci := 9) (C := RX9) (T := TX9) (N := 63) hx hb hts wi9 tyX9 tyX9_ok nmX9 hown hK hW hS (hF.k hk (by decide)) (by decide) rfl 10 (by decide) (hts (.fieldLink RX9 29 "IceHallModel" "hundredths" "[I") (by decide +kernel)) (fun _ h9 => h9) rfl hnm rfl rfl rfl rfl dX9_init_57 (fun H locs hW hS => ?_)
  have kq61 : sK S56 h = 9 := (hF.k hk (by decide))
  have hbS60 := And.intro kq55 nq55
  obtain ⟨S60, eS60⟩ : ∃ T : St, T = stR S56 h 10 (some q55) := ⟨_, rfl⟩
  rw [← eS60] at hW
  have hD : Dn [10, 9, 8, 7, 6, 5, 0] S60 h 9 := by rw [eS60]; exact hD.R (fun kd n ht => by cases ht; exact hbS60)
  have hG : Gx (h :: ex) S60 := by rw [eS60]; exact hG.Rh List.mem_cons_self kq61 (by decide)
  have hF : Fr [h] [1100] S S60 := by rw [eS60]; exact hF.Rh List.mem_cons_self
  have hE59 : Fr [h] [1100] S56 S60 := by rw [eS60]; exact hE59.Rh List.mem_cons_self
  have hkh : sK S60 h = 9 := hF.k hk (by decide)
  have w62 : sI S60 h 1 = 0 := by rw [eS60]; exact w57
  have w63 : sI S60 h 18 = 0 := by rw [eS60]; exact w58
  clear eS60 hbS60
  clear hE59
  refine lv_aload_n hx hb dX9_init_60 rfl (lv_at hl 0 rfl) ?_
  refine lv_sipush (v := 200) hx hb dX9_init_61 (by decide) ?_
  refine pg_pi (ci := 9) (C := RX9) (T := TX9) (N := 63) hx hb hts wi9 tyX9 tyX9_ok nmX9 hown hK hW hS (hF.k hk (by decide)) (by decide) rfl 19 (by decide) (hts (.fieldLink RX9 32 "IceHallModel" "store" "I") (by decide +kernel)) (fun _ h9 => h9) rfl rfl rfl dX9_init_64 (fun H locs hW hS => ?_)
  have kq64 : sK S60 h = 9 := (hF.k hk (by decide))
  obtain ⟨S65, eS65⟩ : ∃ T : St, T = stI S60 h 19 200 := ⟨_, rfl⟩
  rw [← eS65] at hW
  have hG : Gx (h :: ex) S65 := by rw [eS65]; exact hG.I kq64 (ok_fr (by decide))
  have w66 : sI S65 h 1 = 0 := by rw [eS65]; exact (iI_k (by decide)).trans w62
  have w67 : sI S65 h 18 = 0 := by rw [eS65]; exact (iI_k (by decide)).trans w63
  have hF : Fr [h] [1100] S S65 := by rw [eS65]; exact hF.Ih List.mem_cons_self
  have hD : Dn [10, 9, 8, 7, 6, 5, 0] S65 h 9 := by rw [eS65]; exact hD
  have hkh : sK S65 h = 9 := hF.k hk (by decide)
  clear eS65
  refine lv_aload_n hx hb dX9_init_67 rfl (lv_at hl 0 rfl) ?_
  refine lv_sipush (v := 400) hx hb dX9_init_68 (by decide) ?_
  refine pg_pi (ci := 9) (C := RX9) (T := TX9) (N := 63) hx hb hts wi9 tyX9 tyX9_ok nmX9 hown hK hW hS (hF.k hk (by decide)) (by decide) rfl 23 (by decide) (hts (.fieldLink RX9 36 "IceHallModel" "mostOf" "I") (by decide +kernel)) (fun _ h9 => h9) rfl rfl rfl dX9_init_71 (fun H locs hW hS => ?_)
  have kq68 : sK S65 h = 9 := (hF.k hk (by decide))
  obtain ⟨S69, eS69⟩ : ∃ T : St, T = stI S65 h 23 400 := ⟨_, rfl⟩
  rw [← eS69] at hW
  have hG : Gx (h :: ex) S69 := by rw [eS69]; exact hG.I kq68 (ok_fr (by decide))
  have w70 : sI S69 h 1 = 0 := by rw [eS69]; exact (iI_k (by decide)).trans w66
  have w71 : sI S69 h 18 = 0 := by rw [eS69]; exact (iI_k (by decide)).trans w67
  have hF : Fr [h] [1100] S S69 := by rw [eS69]; exact hF.Ih List.mem_cons_self
  have hD : Dn [10, 9, 8, 7, 6, 5, 0] S69 h 9 := by rw [eS69]; exact hD
  have hkh : sK S69 h = 9 := hF.k hk (by decide)
  clear eS69
  refine lv_aload_n hx hb dX9_init_74 rfl (lv_at hl 0 rfl) ?_
  refine lv_iconst (v := 3) hx hb dX9_init_75 (by decide) ?_
  refine pg_pi (ci := 9) (C := RX9) (T := TX9) (N := 63) hx hb hts wi9 tyX9 tyX9_ok nmX9 hown hK hW hS (hF.k hk (by decide)) (by decide) rfl 24 (by decide) (hts (.fieldLink RX9 39 "IceHallModel" "working" "I") (by decide +kernel)) (fun _ h9 => h9) rfl rfl rfl dX9_init_76 (fun H locs hW hS => ?_)
  have kq72 : sK S69 h = 9 := (hF.k hk (by decide))
  obtain ⟨S73, eS73⟩ : ∃ T : St, T = stI S69 h 24 3 := ⟨_, rfl⟩
  rw [← eS73] at hW
  have hG : Gx (h :: ex) S73 := by rw [eS73]; exact hG.I kq72 (ok_in 0 3 (by decide) (by decide))
  have w74 : sI S73 h 1 = 0 := by rw [eS73]; exact (iI_k (by decide)).trans w70
  have w75 : sI S73 h 18 = 0 := by rw [eS73]; exact (iI_k (by decide)).trans w71
  have hF : Fr [h] [1100] S S73 := by rw [eS73]; exact hF.Ih List.mem_cons_self
  have hD : Dn [10, 9, 8, 7, 6, 5, 0] S73 h 9 := by rw [eS73]; exact hD
  have hkh : sK S73 h = 9 := hF.k hk (by decide)
  have w76 : sI S73 h 24 = 3 := by rw [eS73]; exact iI_s
  clear eS73
  refine lv_aload_n hx hb dX9_init_79 rfl (lv_at hl 0 rfl) ?_
  refine lv_iconst (v := 2) hx hb dX9_init_80 (by decide) ?_
  refine pg_pi (ci := 9) (C := RX9) (T := TX9) (N := 63) hx hb hts wi9 tyX9 tyX9_ok nmX9 hown hK hW hS (hF.k hk (by decide)) (by decide) rfl 25 (by decide) (hts (.fieldLink RX9 42 "IceHallModel" "restOf" "I") (by decide +kernel)) (fun _ h9 => h9) rfl rfl rfl dX9_init_81 (fun H locs hW hS => ?_)
  have kq77 : sK S73 h = 9 := (hF.k hk (by decide))
  obtain ⟨S78, eS78⟩ : ∃ T : St, T = stI S73 h 25 2 := ⟨_, rfl⟩
  rw [← eS78] at hW
  have hG : Gx (h :: ex) S78 := by rw [eS78]; exact hG.I kq77 (ok_fr (by decide))
  have w79 : sI S78 h 1 = 0 := by rw [eS78]; exact (iI_k (by decide)).trans w74
  have w80 : sI S78 h 18 = 0 := by rw [eS78]; exact (iI_k (by decide)).trans w75
  have w81 : sI S78 h 24 = 3 := by rw [eS78]; exact (iI_k (by decide)).trans w76
  have hF : Fr [h] [1100] S S78 := by rw [eS78]; exact hF.Ih List.mem_cons_self
  have hD : Dn [10, 9, 8, 7, 6, 5, 0] S78 h 9 := by rw [eS78]; exact hD
  have hkh : sK S78 h = 9 := hF.k hk (by decide)
  clear eS78
  refine lv_aload_n hx hb dX9_init_84 rfl (lv_at hl 0 rfl) ?_
  refine lv_bipush (v := 24) hx hb dX9_init_85 (by decide) ?_
  refine pg_newa (atype := .int) (ty := .int) (kd := 11) (t0 := 1) (N' := 24) hx hb (hts (.arrayClass .int) (by decide +kernel)) rfl rfl (Or.inl rfl) (by decide) hK hW hS hA (fun _ => rfl) (by decide) (by decide) (Nat.le_of_ble_eq_true rfl) (Nat.le_of_ble_eq_true rfl) (Nat.le_of_ble_eq_true rfl) dX9_init_87 (fun q82 H hq82 hW hS => ?_)
  have nqq82_hF : 20 ≤ sK S q82 := hF.new hq82
  obtain ⟨S83, eS83⟩ : ∃ T : St, T = stN S78 q82 11 24 := ⟨_, rfl⟩
  rw [← eS83] at hW
  have hG : Gx (q82 :: h :: ex) S83 := by rw [eS83]; exact hG.N hq82
  have w84 : sI S83 h 1 = 0 := by rw [eS83]; rw [iN, if_neg (fun e9 => by have := (hF.k hk (by decide)); rw [e9] at this; omega)]; exact w79
  have w85 : sI S83 h 18 = 0 := by rw [eS83]; rw [iN, if_neg (fun e9 => by have := (hF.k hk (by decide)); rw [e9] at this; omega)]; exact w80
  have w86 : sI S83 h 24 = 3 := by rw [eS83]; rw [iN, if_neg (fun e9 => by have := (hF.k hk (by decide)); rw [e9] at this; omega)]; exact w81
  have hF : Fr [h] [1100] S S83 := by rw [eS83]; exact hF.N hq82
  have hD : Dn [10, 9, 8, 7, 6, 5, 0] S83 h 9 := by rw [eS83]; exact hD.F ((Fr.rf [] [] _).N hq82) hkh (by decide) List.not_mem_nil
  have hkh : sK S83 h = 9 := hF.k hk (by decide)
  have hE87 : Fr [h] [1100] S83 S83 := Fr.rf _ _ _
  have kq82 : sK S83 q82 = 11 := by rw [eS83, kN, if_pos rfl]
  have nq82 : sL S83 q82 = 24 := by rw [eS83, lNw, if_pos rfl]
  have hG : Gx (h :: ex) S83 := hG.pl kq82 rty_11
  clear eS83
  refine pg_pr (ci := 9) (C := RX9) (T := TX9) (N := 63) hx hb hts wi9 tyX9 tyX9_ok nmX9 hown hK hW hS (hF.k hk (by decide)) (by decide) rfl 26 (by decide) (hts (.fieldLink RX9 45 "IceHallModel" "priceOf" "[I") (by decide +kernel)) (fun _ h9 => h9) rfl hnm rfl rfl rfl rfl dX9_init_89 (fun H locs hW hS => ?_)
  have kq89 : sK S83 h = 9 := (hF.k hk (by decide))
  have hbS88 := And.intro kq82 nq82
  obtain ⟨S88, eS88⟩ : ∃ T : St, T = stR S83 h 26 (some q82) := ⟨_, rfl⟩
  rw [← eS88] at hW
  have hD : Dn [26, 10, 9, 8, 7, 6, 5, 0] S88 h 9 := by rw [eS88]; exact hD.R (fun kd n ht => by cases ht; exact hbS88)
  have hG : Gx (h :: ex) S88 := by rw [eS88]; exact hG.Rh List.mem_cons_self kq89 (by decide)
  have hF : Fr [h] [1100] S S88 := by rw [eS88]; exact hF.Rh List.mem_cons_self
  have hE87 : Fr [h] [1100] S83 S88 := by rw [eS88]; exact hE87.Rh List.mem_cons_self
  have hkh : sK S88 h = 9 := hF.k hk (by decide)
  have w90 : sI S88 h 1 = 0 := by rw [eS88]; exact w84
  have w91 : sI S88 h 18 = 0 := by rw [eS88]; exact w85
  have w92 : sI S88 h 24 = 3 := by rw [eS88]; exact w86
  clear eS88 hbS88
  clear hE87
  refine lv_aload_n hx hb dX9_init_92 rfl (lv_at hl 0 rfl) ?_
  refine lv_iconst (v := 2) hx hb dX9_init_93 (by decide) ?_
  refine pg_newa (atype := .int) (ty := .int) (kd := 11) (t0 := 1) (N' := 2) hx hb (hts (.arrayClass .int) (by decide +kernel)) rfl rfl (Or.inl rfl) (by decide) hK hW hS hA (fun _ => rfl) (by decide) (by decide) (Nat.le_of_ble_eq_true rfl) (Nat.le_of_ble_eq_true rfl) (Nat.le_of_ble_eq_true rfl) dX9_init_94 (fun q93 H hq93 hW hS => ?_)
  have nqq93_hF : 20 ≤ sK S q93 := hF.new hq93
  obtain ⟨S94, eS94⟩ : ∃ T : St, T = stN S88 q93 11 2 := ⟨_, rfl⟩
  rw [← eS94] at hW
  have hG : Gx (q93 :: h :: ex) S94 := by rw [eS94]; exact hG.N hq93
  have w95 : sI S94 h 1 = 0 := by rw [eS94]; rw [iN, if_neg (fun e9 => by have := (hF.k hk (by decide)); rw [e9] at this; omega)]; exact w90
  have w96 : sI S94 h 18 = 0 := by rw [eS94]; rw [iN, if_neg (fun e9 => by have := (hF.k hk (by decide)); rw [e9] at this; omega)]; exact w91
  have w97 : sI S94 h 24 = 3 := by rw [eS94]; rw [iN, if_neg (fun e9 => by have := (hF.k hk (by decide)); rw [e9] at this; omega)]; exact w92
  have hF : Fr [h] [1100] S S94 := by rw [eS94]; exact hF.N hq93
  have hD : Dn [26, 10, 9, 8, 7, 6, 5, 0] S94 h 9 := by rw [eS94]; exact hD.F ((Fr.rf [] [] _).N hq93) hkh (by decide) List.not_mem_nil
  have hkh : sK S94 h = 9 := hF.k hk (by decide)
  have hE98 : Fr [h] [1100] S94 S94 := Fr.rf _ _ _
  have kq93 : sK S94 q93 = 11 := by rw [eS94, kN, if_pos rfl]
  have nq93 : sL S94 q93 = 2 := by rw [eS94, lNw, if_pos rfl]
  have hG : Gx (h :: ex) S94 := hG.pl kq93 rty_11
  clear eS94
  refine pg_pr (ci := 9) (C := RX9) (T := TX9) (N := 63) hx hb hts wi9 tyX9 tyX9_ok nmX9 hown hK hW hS (hF.k hk (by decide)) (by decide) rfl 27 (by decide) (hts (.fieldLink RX9 48 "IceHallModel" "thick" "[I") (by decide +kernel)) (fun _ h9 => h9) rfl hnm rfl rfl rfl rfl dX9_init_96 (fun H locs hW hS => ?_)
  have kq100 : sK S94 h = 9 := (hF.k hk (by decide))
  have hbS99 := And.intro kq93 nq93
  obtain ⟨S99, eS99⟩ : ∃ T : St, T = stR S94 h 27 (some q93) := ⟨_, rfl⟩
  rw [← eS99] at hW
  have hD : Dn [27, 26, 10, 9, 8, 7, 6, 5, 0] S99 h 9 := by rw [eS99]; exact hD.R (fun kd n ht => by cases ht; exact hbS99)
  have hG : Gx (h :: ex) S99 := by rw [eS99]; exact hG.Rh List.mem_cons_self kq100 (by decide)
  have hF : Fr [h] [1100] S S99 := by rw [eS99]; exact hF.Rh List.mem_cons_self
  have hE98 : Fr [h] [1100] S94 S99 := by rw [eS99]; exact hE98.Rh List.mem_cons_self
  have hkh : sK S99 h = 9 := hF.k hk (by decide)
  have w101 : sI S99 h 1 = 0 := by rw [eS99]; exact w95
  have w102 : sI S99 h 18 = 0 := by rw [eS99]; exact w96
  have w103 : sI S99 h 24 = 3 := by rw [eS99]; exact w97
  clear eS99 hbS99
  clear hE98
  refine lv_aload_n hx hb dX9_init_99 rfl (lv_at hl 0 rfl) ?_
  refine lv_iconst (v := 2) hx hb dX9_init_100 (by decide) ?_
  refine pg_newa (atype := .int) (ty := .int) (kd := 11) (t0 := 1) (N' := 2) hx hb (hts (.arrayClass .int) (by decide +kernel)) rfl rfl (Or.inl rfl) (by decide) hK hW hS hA (fun _ => rfl) (by decide) (by decide) (Nat.le_of_ble_eq_true rfl) (Nat.le_of_ble_eq_true rfl) (Nat.le_of_ble_eq_true rfl) dX9_init_101 (fun q104 H hq104 hW hS => ?_)
  have nqq104_hF : 20 ≤ sK S q104 := hF.new hq104
  obtain ⟨S105, eS105⟩ : ∃ T : St, T = stN S99 q104 11 2 := ⟨_, rfl⟩
  rw [← eS105] at hW
  have hG : Gx (q104 :: h :: ex) S105 := by rw [eS105]; exact hG.N hq104
  have w106 : sI S105 h 1 = 0 := by rw [eS105]; rw [iN, if_neg (fun e9 => by have := (hF.k hk (by decide)); rw [e9] at this; omega)]; exact w101
  have w107 : sI S105 h 18 = 0 := by rw [eS105]; rw [iN, if_neg (fun e9 => by have := (hF.k hk (by decide)); rw [e9] at this; omega)]; exact w102
  have w108 : sI S105 h 24 = 3 := by rw [eS105]; rw [iN, if_neg (fun e9 => by have := (hF.k hk (by decide)); rw [e9] at this; omega)]; exact w103
  have hF : Fr [h] [1100] S S105 := by rw [eS105]; exact hF.N hq104
  have hD : Dn [27, 26, 10, 9, 8, 7, 6, 5, 0] S105 h 9 := by rw [eS105]; exact hD.F ((Fr.rf [] [] _).N hq104) hkh (by decide) List.not_mem_nil
  have hkh : sK S105 h = 9 := hF.k hk (by decide)
  have hE109 : Fr [h] [1100] S105 S105 := Fr.rf _ _ _
  have kq104 : sK S105 q104 = 11 := by rw [eS105, kN, if_pos rfl]
  have nq104 : sL S105 q104 = 2 := by rw [eS105, lNw, if_pos rfl]
  have hG : Gx (h :: ex) S105 := hG.pl kq104 rty_11
  clear eS105
  refine pg_pr (ci := 9) (C := RX9) (T := TX9) (N := 63) hx hb hts wi9 tyX9 tyX9_ok nmX9 hown hK hW hS (hF.k hk (by decide)) (by decide) rfl 28 (by decide) (hts (.fieldLink RX9 51 "IceHallModel" "ruts" "[I") (by decide +kernel)) (fun _ h9 => h9) rfl hnm rfl rfl rfl rfl dX9_init_103 (fun H locs hW hS => ?_)
  have kq111 : sK S105 h = 9 := (hF.k hk (by decide))
  have hbS110 := And.intro kq104 nq104
  obtain ⟨S110, eS110⟩ : ∃ T : St, T = stR S105 h 28 (some q104) := ⟨_, rfl⟩
  rw [← eS110] at hW
  have hD : Dn [28, 27, 26, 10, 9, 8, 7, 6, 5, 0] S110 h 9 := by rw [eS110]; exact hD.R (fun kd n ht => by cases ht; exact hbS110)
  have hG : Gx (h :: ex) S110 := by rw [eS110]; exact hG.Rh List.mem_cons_self kq111 (by decide)
  have hF : Fr [h] [1100] S S110 := by rw [eS110]; exact hF.Rh List.mem_cons_self
  have hE109 : Fr [h] [1100] S105 S110 := by rw [eS110]; exact hE109.Rh List.mem_cons_self
  have hkh : sK S110 h = 9 := hF.k hk (by decide)
  have w112 : sI S110 h 1 = 0 := by rw [eS110]; exact w106
  have w113 : sI S110 h 18 = 0 := by rw [eS110]; exact w107
  have w114 : sI S110 h 24 = 3 := by rw [eS110]; exact w108
  clear eS110 hbS110
  clear hE109
  refine lv_aload_n hx hb dX9_init_106 rfl (lv_at hl 0 rfl) ?_
  refine lv_iconst (v := 2) hx hb dX9_init_107 (by decide) ?_
  refine pg_newa (atype := .int) (ty := .int) (kd := 11) (t0 := 1) (N' := 2) hx hb (hts (.arrayClass .int) (by decide +kernel)) rfl rfl (Or.inl rfl) (by decide) hK hW hS hA (fun _ => rfl) (by decide) (by decide) (Nat.le_of_ble_eq_true rfl) (Nat.le_of_ble_eq_true rfl) (Nat.le_of_ble_eq_true rfl) dX9_init_108 (fun q115 H hq115 hW hS => ?_)
  have nqq115_hF : 20 ≤ sK S q115 := hF.new hq115
  obtain ⟨S116, eS116⟩ : ∃ T : St, T = stN S110 q115 11 2 := ⟨_, rfl⟩
  rw [← eS116] at hW
  have hG : Gx (q115 :: h :: ex) S116 := by rw [eS116]; exact hG.N hq115
  have w117 : sI S116 h 1 = 0 := by rw [eS116]; rw [iN, if_neg (fun e9 => by have := (hF.k hk (by decide)); rw [e9] at this; omega)]; exact w112
  have w118 : sI S116 h 18 = 0 := by rw [eS116]; rw [iN, if_neg (fun e9 => by have := (hF.k hk (by decide)); rw [e9] at this; omega)]; exact w113
  have w119 : sI S116 h 24 = 3 := by rw [eS116]; rw [iN, if_neg (fun e9 => by have := (hF.k hk (by decide)); rw [e9] at this; omega)]; exact w114
  have hF : Fr [h] [1100] S S116 := by rw [eS116]; exact hF.N hq115
  have hD : Dn [28, 27, 26, 10, 9, 8, 7, 6, 5, 0] S116 h 9 := by rw [eS116]; exact hD.F ((Fr.rf [] [] _).N hq115) hkh (by decide) List.not_mem_nil
  have hkh : sK S116 h = 9 := hF.k hk (by decide)
  have hE120 : Fr [h] [1100] S116 S116 := Fr.rf _ _ _
  have kq115 : sK S116 q115 = 11 := by rw [eS116, kN, if_pos rfl]
  have nq115 : sL S116 q115 = 2 := by rw [eS116, lNw, if_pos rfl]
  have hG : Gx (h :: ex) S116 := hG.pl kq115 rty_11
  clear eS116
  refine pg_pr (ci := 9) (C := RX9) (T := TX9) (N := 63) hx hb hts wi9 tyX9 tyX9_ok nmX9 hown hK hW hS (hF.k hk (by decide)) (by decide) rfl 29 (by decide) (hts (.fieldLink RX9 54 "IceHallModel" "shaved" "[I") (by decide +kernel)) (fun _ h9 => h9) rfl hnm rfl rfl rfl rfl dX9_init_110 (fun H locs hW hS => ?_)
  have kq122 : sK S116 h = 9 := (hF.k hk (by decide))
  have hbS121 := And.intro kq115 nq115
  obtain ⟨S121, eS121⟩ : ∃ T : St, T = stR S116 h 29 (some q115) := ⟨_, rfl⟩
  rw [← eS121] at hW
  have hD : Dn [29, 28, 27, 26, 10, 9, 8, 7, 6, 5, 0] S121 h 9 := by rw [eS121]; exact hD.R (fun kd n ht => by cases ht; exact hbS121)
  have hG : Gx (h :: ex) S121 := by rw [eS121]; exact hG.Rh List.mem_cons_self kq122 (by decide)
  have hF : Fr [h] [1100] S S121 := by rw [eS121]; exact hF.Rh List.mem_cons_self
  have hE120 : Fr [h] [1100] S116 S121 := by rw [eS121]; exact hE120.Rh List.mem_cons_self
  have hkh : sK S121 h = 9 := hF.k hk (by decide)
  have w123 : sI S121 h 1 = 0 := by rw [eS121]; exact w117
  have w124 : sI S121 h 18 = 0 := by rw [eS121]; exact w118
  have w125 : sI S121 h 24 = 3 := by rw [eS121]; exact w119
  clear eS121 hbS121
  clear hE120
  refine lv_aload_n hx hb dX9_init_113 rfl (lv_at hl 0 rfl) ?_
  refine lv_iconst (v := 2) hx hb dX9_init_114 (by decide) ?_
  refine pg_newa (atype := .int) (ty := .int) (kd := 11) (t0 := 1) (N' := 2) hx hb (hts (.arrayClass .int) (by decide +kernel)) rfl rfl (Or.inl rfl) (by decide) hK hW hS hA (fun _ => rfl) (by decide) (by decide) (Nat.le_of_ble_eq_true rfl) (Nat.le_of_ble_eq_true rfl) (Nat.le_of_ble_eq_true rfl) dX9_init_115 (fun q126 H hq126 hW hS => ?_)
  have nqq126_hF : 20 ≤ sK S q126 := hF.new hq126
  obtain ⟨S127, eS127⟩ : ∃ T : St, T = stN S121 q126 11 2 := ⟨_, rfl⟩
  rw [← eS127] at hW
  have hG : Gx (q126 :: h :: ex) S127 := by rw [eS127]; exact hG.N hq126
  have w128 : sI S127 h 1 = 0 := by rw [eS127]; rw [iN, if_neg (fun e9 => by have := (hF.k hk (by decide)); rw [e9] at this; omega)]; exact w123
  have w129 : sI S127 h 18 = 0 := by rw [eS127]; rw [iN, if_neg (fun e9 => by have := (hF.k hk (by decide)); rw [e9] at this; omega)]; exact w124
  have w130 : sI S127 h 24 = 3 := by rw [eS127]; rw [iN, if_neg (fun e9 => by have := (hF.k hk (by decide)); rw [e9] at this; omega)]; exact w125
  have hF : Fr [h] [1100] S S127 := by rw [eS127]; exact hF.N hq126
  have hD : Dn [29, 28, 27, 26, 10, 9, 8, 7, 6, 5, 0] S127 h 9 := by rw [eS127]; exact hD.F ((Fr.rf [] [] _).N hq126) hkh (by decide) List.not_mem_nil
  have hkh : sK S127 h = 9 := hF.k hk (by decide)
  have hE131 : Fr [h] [1100] S127 S127 := Fr.rf _ _ _
  have kq126 : sK S127 q126 = 11 := by rw [eS127, kN, if_pos rfl]
  have nq126 : sL S127 q126 = 2 := by rw [eS127, lNw, if_pos rfl]
  have hG : Gx (h :: ex) S127 := hG.pl kq126 rty_11
  clear eS127
  refine pg_pr (ci := 9) (C := RX9) (T := TX9) (N := 63) hx hb hts wi9 tyX9 tyX9_ok nmX9 hown hK hW hS (hF.k hk (by decide)) (by decide) rfl 30 (by decide) (hts (.fieldLink RX9 57 "IceHallModel" "flooded" "[I") (by decide +kernel)) (fun _ h9 => h9) rfl hnm rfl rfl rfl rfl dX9_init_117 (fun H locs hW hS => ?_)
  have kq133 : sK S127 h = 9 := (hF.k hk (by decide))
  have hbS132 := And.intro kq126 nq126
  obtain ⟨S132, eS132⟩ : ∃ T : St, T = stR S127 h 30 (some q126) := ⟨_, rfl⟩
  rw [← eS132] at hW
  have hD : Dn [30, 29, 28, 27, 26, 10, 9, 8, 7, 6, 5, 0] S132 h 9 := by rw [eS132]; exact hD.R (fun kd n ht => by cases ht; exact hbS132)
  have hG : Gx (h :: ex) S132 := by rw [eS132]; exact hG.Rh List.mem_cons_self kq133 (by decide)
  have hF : Fr [h] [1100] S S132 := by rw [eS132]; exact hF.Rh List.mem_cons_self
  have hE131 : Fr [h] [1100] S127 S132 := by rw [eS132]; exact hE131.Rh List.mem_cons_self
  have hkh : sK S132 h = 9 := hF.k hk (by decide)
  have w134 : sI S132 h 1 = 0 := by rw [eS132]; exact w128
  have w135 : sI S132 h 18 = 0 := by rw [eS132]; exact w129
  have w136 : sI S132 h 24 = 3 := by rw [eS132]; exact w130
  clear eS132 hbS132
  clear hE131
  refine lv_aload_n hx hb dX9_init_120 rfl (lv_at hl 0 rfl) ?_
  refine lv_iconst (v := 2) hx hb dX9_init_121 (by decide) ?_
  refine pg_newa (atype := .int) (ty := .int) (kd := 11) (t0 := 1) (N' := 2) hx hb (hts (.arrayClass .int) (by decide +kernel)) rfl rfl (Or.inl rfl) (by decide) hK hW hS hA (fun _ => rfl) (by decide) (by decide) (Nat.le_of_ble_eq_true rfl) (Nat.le_of_ble_eq_true rfl) (Nat.le_of_ble_eq_true rfl) dX9_init_122 (fun q137 H hq137 hW hS => ?_)
  have nqq137_hF : 20 ≤ sK S q137 := hF.new hq137
  obtain ⟨S138, eS138⟩ : ∃ T : St, T = stN S132 q137 11 2 := ⟨_, rfl⟩
  rw [← eS138] at hW
  have hG : Gx (q137 :: h :: ex) S138 := by rw [eS138]; exact hG.N hq137
  have w139 : sI S138 h 1 = 0 := by rw [eS138]; rw [iN, if_neg (fun e9 => by have := (hF.k hk (by decide)); rw [e9] at this; omega)]; exact w134
  have w140 : sI S138 h 18 = 0 := by rw [eS138]; rw [iN, if_neg (fun e9 => by have := (hF.k hk (by decide)); rw [e9] at this; omega)]; exact w135
  have w141 : sI S138 h 24 = 3 := by rw [eS138]; rw [iN, if_neg (fun e9 => by have := (hF.k hk (by decide)); rw [e9] at this; omega)]; exact w136
  have hF : Fr [h] [1100] S S138 := by rw [eS138]; exact hF.N hq137
  have hD : Dn [30, 29, 28, 27, 26, 10, 9, 8, 7, 6, 5, 0] S138 h 9 := by rw [eS138]; exact hD.F ((Fr.rf [] [] _).N hq137) hkh (by decide) List.not_mem_nil
  have hkh : sK S138 h = 9 := hF.k hk (by decide)
  have hE142 : Fr [h] [1100] S138 S138 := Fr.rf _ _ _
  have kq137 : sK S138 q137 = 11 := by rw [eS138, kN, if_pos rfl]
  have nq137 : sL S138 q137 = 2 := by rw [eS138, lNw, if_pos rfl]
  have hG : Gx (h :: ex) S138 := hG.pl kq137 rty_11
  clear eS138
  refine pg_pr (ci := 9) (C := RX9) (T := TX9) (N := 63) hx hb hts wi9 tyX9 tyX9_ok nmX9 hown hK hW hS (hF.k hk (by decide)) (by decide) rfl 31 (by decide) (hts (.fieldLink RX9 60 "IceHallModel" "melted" "[I") (by decide +kernel)) (fun _ h9 => h9) rfl hnm rfl rfl rfl rfl dX9_init_124 (fun H locs hW hS => ?_)
  have kq144 : sK S138 h = 9 := (hF.k hk (by decide))
  have hbS143 := And.intro kq137 nq137
  obtain ⟨S143, eS143⟩ : ∃ T : St, T = stR S138 h 31 (some q137) := ⟨_, rfl⟩
  rw [← eS143] at hW
  have hD : Dn [31, 30, 29, 28, 27, 26, 10, 9, 8, 7, 6, 5, 0] S143 h 9 := by rw [eS143]; exact hD.R (fun kd n ht => by cases ht; exact hbS143)
  have hG : Gx (h :: ex) S143 := by rw [eS143]; exact hG.Rh List.mem_cons_self kq144 (by decide)
  have hF : Fr [h] [1100] S S143 := by rw [eS143]; exact hF.Rh List.mem_cons_self
  have hE142 : Fr [h] [1100] S138 S143 := by rw [eS143]; exact hE142.Rh List.mem_cons_self
  have hkh : sK S143 h = 9 := hF.k hk (by decide)
  have w145 : sI S143 h 1 = 0 := by rw [eS143]; exact w139
  have w146 : sI S143 h 18 = 0 := by rw [eS143]; exact w140
  have w147 : sI S143 h 24 = 3 := by rw [eS143]; exact w141
  clear eS143 hbS143
  clear hE142
  refine lv_aload_n hx hb dX9_init_127 rfl (lv_at hl 0 rfl) ?_
  refine lv_iconst (v := 2) hx hb dX9_init_128 (by decide) ?_
  refine pg_newa (atype := .int) (ty := .int) (kd := 11) (t0 := 1) (N' := 2) hx hb (hts (.arrayClass .int) (by decide +kernel)) rfl rfl (Or.inl rfl) (by decide) hK hW hS hA (fun _ => rfl) (by decide) (by decide) (Nat.le_of_ble_eq_true rfl) (Nat.le_of_ble_eq_true rfl) (Nat.le_of_ble_eq_true rfl) dX9_init_129 (fun q148 H hq148 hW hS => ?_)
  have nqq148_hF : 20 ≤ sK S q148 := hF.new hq148
  obtain ⟨S149, eS149⟩ : ∃ T : St, T = stN S143 q148 11 2 := ⟨_, rfl⟩
  rw [← eS149] at hW
  have hG : Gx (q148 :: h :: ex) S149 := by rw [eS149]; exact hG.N hq148
  have w150 : sI S149 h 1 = 0 := by rw [eS149]; rw [iN, if_neg (fun e9 => by have := (hF.k hk (by decide)); rw [e9] at this; omega)]; exact w145
  have w151 : sI S149 h 18 = 0 := by rw [eS149]; rw [iN, if_neg (fun e9 => by have := (hF.k hk (by decide)); rw [e9] at this; omega)]; exact w146
  have w152 : sI S149 h 24 = 3 := by rw [eS149]; rw [iN, if_neg (fun e9 => by have := (hF.k hk (by decide)); rw [e9] at this; omega)]; exact w147
  have hF : Fr [h] [1100] S S149 := by rw [eS149]; exact hF.N hq148
  have hD : Dn [31, 30, 29, 28, 27, 26, 10, 9, 8, 7, 6, 5, 0] S149 h 9 := by rw [eS149]; exact hD.F ((Fr.rf [] [] _).N hq148) hkh (by decide) List.not_mem_nil
  have hkh : sK S149 h = 9 := hF.k hk (by decide)
  have hE153 : Fr [h] [1100] S149 S149 := Fr.rf _ _ _
  have kq148 : sK S149 q148 = 11 := by rw [eS149, kN, if_pos rfl]
  have nq148 : sL S149 q148 = 2 := by rw [eS149, lNw, if_pos rfl]
  have hG : Gx (h :: ex) S149 := hG.pl kq148 rty_11
  clear eS149
  refine pg_pr (ci := 9) (C := RX9) (T := TX9) (N := 63) hx hb hts wi9 tyX9 tyX9_ok nmX9 hown hK hW hS (hF.k hk (by decide)) (by decide) rfl 32 (by decide) (hts (.fieldLink RX9 63 "IceHallModel" "cutShave" "[I") (by decide +kernel)) (fun _ h9 => h9) rfl hnm rfl rfl rfl rfl dX9_init_131 (fun H locs hW hS => ?_)
  have kq155 : sK S149 h = 9 := (hF.k hk (by decide))
  have hbS154 := And.intro kq148 nq148
  obtain ⟨S154, eS154⟩ : ∃ T : St, T = stR S149 h 32 (some q148) := ⟨_, rfl⟩
  rw [← eS154] at hW
  have hD : Dn [32, 31, 30, 29, 28, 27, 26, 10, 9, 8, 7, 6, 5, 0] S154 h 9 := by rw [eS154]; exact hD.R (fun kd n ht => by cases ht; exact hbS154)
  have hG : Gx (h :: ex) S154 := by rw [eS154]; exact hG.Rh List.mem_cons_self kq155 (by decide)
  have hF : Fr [h] [1100] S S154 := by rw [eS154]; exact hF.Rh List.mem_cons_self
  have hE153 : Fr [h] [1100] S149 S154 := by rw [eS154]; exact hE153.Rh List.mem_cons_self
  have hkh : sK S154 h = 9 := hF.k hk (by decide)
  have w156 : sI S154 h 1 = 0 := by rw [eS154]; exact w150
  have w157 : sI S154 h 18 = 0 := by rw [eS154]; exact w151
  have w158 : sI S154 h 24 = 3 := by rw [eS154]; exact w152
  clear eS154 hbS154
  clear hE153
  refine lv_aload_n hx hb dX9_init_134 rfl (lv_at hl 0 rfl) ?_
  refine lv_iconst (v := 2) hx hb dX9_init_135 (by decide) ?_
  refine pg_newa (atype := .int) (ty := .int) (kd := 11) (t0 := 1) (N' := 2) hx hb (hts (.arrayClass .int) (by decide +kernel)) rfl rfl (Or.inl rfl) (by decide) hK hW hS hA (fun _ => rfl) (by decide) (by decide) (Nat.le_of_ble_eq_true rfl) (Nat.le_of_ble_eq_true rfl) (Nat.le_of_ble_eq_true rfl) dX9_init_136 (fun q159 H hq159 hW hS => ?_)
  have nqq159_hF : 20 ≤ sK S q159 := hF.new hq159
  obtain ⟨S160, eS160⟩ : ∃ T : St, T = stN S154 q159 11 2 := ⟨_, rfl⟩
  rw [← eS160] at hW
  have hG : Gx (q159 :: h :: ex) S160 := by rw [eS160]; exact hG.N hq159
  have w161 : sI S160 h 1 = 0 := by rw [eS160]; rw [iN, if_neg (fun e9 => by have := (hF.k hk (by decide)); rw [e9] at this; omega)]; exact w156
  have w162 : sI S160 h 18 = 0 := by rw [eS160]; rw [iN, if_neg (fun e9 => by have := (hF.k hk (by decide)); rw [e9] at this; omega)]; exact w157
  have w163 : sI S160 h 24 = 3 := by rw [eS160]; rw [iN, if_neg (fun e9 => by have := (hF.k hk (by decide)); rw [e9] at this; omega)]; exact w158
  have hF : Fr [h] [1100] S S160 := by rw [eS160]; exact hF.N hq159
  have hD : Dn [32, 31, 30, 29, 28, 27, 26, 10, 9, 8, 7, 6, 5, 0] S160 h 9 := by rw [eS160]; exact hD.F ((Fr.rf [] [] _).N hq159) hkh (by decide) List.not_mem_nil
  have hkh : sK S160 h = 9 := hF.k hk (by decide)
  have hE164 : Fr [h] [1100] S160 S160 := Fr.rf _ _ _
  have kq159 : sK S160 q159 = 11 := by rw [eS160, kN, if_pos rfl]
  have nq159 : sL S160 q159 = 2 := by rw [eS160, lNw, if_pos rfl]
  have hG : Gx (h :: ex) S160 := hG.pl kq159 rty_11
  clear eS160
  refine pg_pr (ci := 9) (C := RX9) (T := TX9) (N := 63) hx hb hts wi9 tyX9 tyX9_ok nmX9 hown hK hW hS (hF.k hk (by decide)) (by decide) rfl 33 (by decide) (hts (.fieldLink RX9 66 "IceHallModel" "cutFlood" "[I") (by decide +kernel)) (fun _ h9 => h9) rfl hnm rfl rfl rfl rfl dX9_init_138 (fun H locs hW hS => ?_)
  have kq166 : sK S160 h = 9 := (hF.k hk (by decide))
  have hbS165 := And.intro kq159 nq159
  obtain ⟨S165, eS165⟩ : ∃ T : St, T = stR S160 h 33 (some q159) := ⟨_, rfl⟩
  rw [← eS165] at hW
  have hD : Dn [33, 32, 31, 30, 29, 28, 27, 26, 10, 9, 8, 7, 6, 5, 0] S165 h 9 := by rw [eS165]; exact hD.R (fun kd n ht => by cases ht; exact hbS165)
  have hG : Gx (h :: ex) S165 := by rw [eS165]; exact hG.Rh List.mem_cons_self kq166 (by decide)
  have hF : Fr [h] [1100] S S165 := by rw [eS165]; exact hF.Rh List.mem_cons_self
  have hE164 : Fr [h] [1100] S160 S165 := by rw [eS165]; exact hE164.Rh List.mem_cons_self
  have hkh : sK S165 h = 9 := hF.k hk (by decide)
  have w167 : sI S165 h 1 = 0 := by rw [eS165]; exact w161
  have w168 : sI S165 h 18 = 0 := by rw [eS165]; exact w162
  have w169 : sI S165 h 24 = 3 := by rw [eS165]; exact w163
  clear eS165 hbS165
  clear hE164
  refine lv_aload_n hx hb dX9_init_141 rfl (lv_at hl 0 rfl) ?_
  refine lv_iconst (v := 2) hx hb dX9_init_142 (by decide) ?_
  refine pg_newa (atype := .boolean) (ty := .boolean) (kd := 13) (t0 := 3) (N' := 2) hx hb (hts (.arrayClass .boolean) (by decide +kernel)) rfl rfl (Or.inr (Or.inr (Or.inl rfl))) (by decide) hK hW hS hA (fun _ => rfl) (by decide) (by decide) (Nat.le_of_ble_eq_true rfl) (Nat.le_of_ble_eq_true rfl) (Nat.le_of_ble_eq_true rfl) dX9_init_143 (fun q170 H hq170 hW hS => ?_)
  have nqq170_hF : 20 ≤ sK S q170 := hF.new hq170
  obtain ⟨S171, eS171⟩ : ∃ T : St, T = stN S165 q170 13 2 := ⟨_, rfl⟩
  rw [← eS171] at hW
  have hG : Gx (q170 :: h :: ex) S171 := by rw [eS171]; exact hG.N hq170
  have w172 : sI S171 h 1 = 0 := by rw [eS171]; rw [iN, if_neg (fun e9 => by have := (hF.k hk (by decide)); rw [e9] at this; omega)]; exact w167
  have w173 : sI S171 h 18 = 0 := by rw [eS171]; rw [iN, if_neg (fun e9 => by have := (hF.k hk (by decide)); rw [e9] at this; omega)]; exact w168
  have w174 : sI S171 h 24 = 3 := by rw [eS171]; rw [iN, if_neg (fun e9 => by have := (hF.k hk (by decide)); rw [e9] at this; omega)]; exact w169
  have hF : Fr [h] [1100] S S171 := by rw [eS171]; exact hF.N hq170
  have hD : Dn [33, 32, 31, 30, 29, 28, 27, 26, 10, 9, 8, 7, 6, 5, 0] S171 h 9 := by rw [eS171]; exact hD.F ((Fr.rf [] [] _).N hq170) hkh (by decide) List.not_mem_nil
  have hkh : sK S171 h = 9 := hF.k hk (by decide)
  have hE175 : Fr [h] [1100] S171 S171 := Fr.rf _ _ _
  have kq170 : sK S171 q170 = 13 := by rw [eS171, kN, if_pos rfl]
  have nq170 : sL S171 q170 = 2 := by rw [eS171, lNw, if_pos rfl]
  have hG : Gx (h :: ex) S171 := hG.pl kq170 rty_13
  clear eS171
  refine pg_pr (ci := 9) (C := RX9) (T := TX9) (N := 63) hx hb hts wi9 tyX9 tyX9_ok nmX9 hown hK hW hS (hF.k hk (by decide)) (by decide) rfl 34 (by decide) (hts (.fieldLink RX9 69 "IceHallModel" "hasCut" "[Z") (by decide +kernel)) (fun _ h9 => h9) rfl hnm rfl rfl rfl rfl dX9_init_145 (fun H locs hW hS => ?_)
  have kq177 : sK S171 h = 9 := (hF.k hk (by decide))
  have hbS176 := And.intro kq170 nq170
  obtain ⟨S176, eS176⟩ : ∃ T : St, T = stR S171 h 34 (some q170) := ⟨_, rfl⟩
  rw [← eS176] at hW
  have hD : Dn [34, 33, 32, 31, 30, 29, 28, 27, 26, 10, 9, 8, 7, 6, 5, 0] S176 h 9 := by rw [eS176]; exact hD.R (fun kd n ht => by cases ht; exact hbS176)
  have hG : Gx (h :: ex) S176 := by rw [eS176]; exact hG.Rh List.mem_cons_self kq177 (by decide)
  have hF : Fr [h] [1100] S S176 := by rw [eS176]; exact hF.Rh List.mem_cons_self
  have hE175 : Fr [h] [1100] S171 S176 := by rw [eS176]; exact hE175.Rh List.mem_cons_self
  have hkh : sK S176 h = 9 := hF.k hk (by decide)
  have w178 : sI S176 h 1 = 0 := by rw [eS176]; exact w172
  have w179 : sI S176 h 18 = 0 := by rw [eS176]; exact w173
  have w180 : sI S176 h 24 = 3 := by rw [eS176]; exact w174
  clear eS176 hbS176
  clear hE175
  refine lv_aload_n hx hb dX9_init_148 rfl (lv_at hl 0 rfl) ?_
  refine lv_sipush (v := 200) hx hb dX9_init_149 (by decide) ?_
  refine pg_newa (atype := .int) (ty := .int) (kd := 11) (t0 := 1) (N' := 200) hx hb (hts (.arrayClass .int) (by decide +kernel)) rfl rfl (Or.inl rfl) (by decide) hK hW hS hA (fun _ => rfl) (by decide) (by decide) (Nat.le_of_ble_eq_true rfl) (Nat.le_of_ble_eq_true rfl) (Nat.le_of_ble_eq_true rfl) dX9_init_152 (fun q181 H hq181 hW hS => ?_)
  have nqq181_hF : 20 ≤ sK S q181 := hF.new hq181
  obtain ⟨S182, eS182⟩ : ∃ T : St, T = stN S176 q181 11 200 := ⟨_, rfl⟩
  rw [← eS182] at hW
  have hG : Gx (q181 :: h :: ex) S182 := by rw [eS182]; exact hG.N hq181
  have w183 : sI S182 h 1 = 0 := by rw [eS182]; rw [iN, if_neg (fun e9 => by have := (hF.k hk (by decide)); rw [e9] at this; omega)]; exact w178
  have w184 : sI S182 h 18 = 0 := by rw [eS182]; rw [iN, if_neg (fun e9 => by have := (hF.k hk (by decide)); rw [e9] at this; omega)]; exact w179
  have w185 : sI S182 h 24 = 3 := by rw [eS182]; rw [iN, if_neg (fun e9 => by have := (hF.k hk (by decide)); rw [e9] at this; omega)]; exact w180
  have hF : Fr [h] [1100] S S182 := by rw [eS182]; exact hF.N hq181
  have hD : Dn [34, 33, 32, 31, 30, 29, 28, 27, 26, 10, 9, 8, 7, 6, 5, 0] S182 h 9 := by rw [eS182]; exact hD.F ((Fr.rf [] [] _).N hq181) hkh (by decide) List.not_mem_nil
  have hkh : sK S182 h = 9 := hF.k hk (by decide)
  have hE186 : Fr [h] [1100] S182 S182 := Fr.rf _ _ _
  have kq181 : sK S182 q181 = 11 := by rw [eS182, kN, if_pos rfl]
  have nq181 : sL S182 q181 = 200 := by rw [eS182, lNw, if_pos rfl]
  have hG : Gx (h :: ex) S182 := hG.pl kq181 rty_11
  clear eS182
  refine pg_pr (ci := 9) (C := RX9) (T := TX9) (N := 63) hx hb hts wi9 tyX9 tyX9_ok nmX9 hown hK hW hS (hF.k hk (by decide)) (by decide) rfl 37 (by decide) (hts (.fieldLink RX9 73 "IceHallModel" "clubOf" "[I") (by decide +kernel)) (fun _ h9 => h9) rfl hnm rfl rfl rfl rfl dX9_init_154 (fun H locs hW hS => ?_)
  have kq188 : sK S182 h = 9 := (hF.k hk (by decide))
  have hbS187 := And.intro kq181 nq181
  obtain ⟨S187, eS187⟩ : ∃ T : St, T = stR S182 h 37 (some q181) := ⟨_, rfl⟩
  rw [← eS187] at hW
  have hD : Dn [37, 34, 33, 32, 31, 30, 29, 28, 27, 26, 10, 9, 8, 7, 6, 5, 0] S187 h 9 := by rw [eS187]; exact hD.R (fun kd n ht => by cases ht; exact hbS187)
  have hG : Gx (h :: ex) S187 := by rw [eS187]; exact hG.Rh List.mem_cons_self kq188 (by decide)
  have hF : Fr [h] [1100] S S187 := by rw [eS187]; exact hF.Rh List.mem_cons_self
  have hE186 : Fr [h] [1100] S182 S187 := by rw [eS187]; exact hE186.Rh List.mem_cons_self
  have hkh : sK S187 h = 9 := hF.k hk (by decide)
  have w189 : sI S187 h 1 = 0 := by rw [eS187]; exact w183
  have w190 : sI S187 h 18 = 0 := by rw [eS187]; exact w184
  have w191 : sI S187 h 24 = 3 := by rw [eS187]; exact w185
  clear eS187 hbS187
  clear hE186
  refine lv_aload_n hx hb dX9_init_157 rfl (lv_at hl 0 rfl) ?_
  refine lv_sipush (v := 200) hx hb dX9_init_158 (by decide) ?_
  refine pg_newa (atype := .int) (ty := .int) (kd := 11) (t0 := 1) (N' := 200) hx hb (hts (.arrayClass .int) (by decide +kernel)) rfl rfl (Or.inl rfl) (by decide) hK hW hS hA (fun _ => rfl) (by decide) (by decide) (Nat.le_of_ble_eq_true rfl) (Nat.le_of_ble_eq_true rfl) (Nat.le_of_ble_eq_true rfl) dX9_init_161 (fun q192 H hq192 hW hS => ?_)
  have nqq192_hF : 20 ≤ sK S q192 := hF.new hq192
  obtain ⟨S193, eS193⟩ : ∃ T : St, T = stN S187 q192 11 200 := ⟨_, rfl⟩
  rw [← eS193] at hW
  have hG : Gx (q192 :: h :: ex) S193 := by rw [eS193]; exact hG.N hq192
  have w194 : sI S193 h 1 = 0 := by rw [eS193]; rw [iN, if_neg (fun e9 => by have := (hF.k hk (by decide)); rw [e9] at this; omega)]; exact w189
  have w195 : sI S193 h 18 = 0 := by rw [eS193]; rw [iN, if_neg (fun e9 => by have := (hF.k hk (by decide)); rw [e9] at this; omega)]; exact w190
  have w196 : sI S193 h 24 = 3 := by rw [eS193]; rw [iN, if_neg (fun e9 => by have := (hF.k hk (by decide)); rw [e9] at this; omega)]; exact w191
  have hF : Fr [h] [1100] S S193 := by rw [eS193]; exact hF.N hq192
  have hD : Dn [37, 34, 33, 32, 31, 30, 29, 28, 27, 26, 10, 9, 8, 7, 6, 5, 0] S193 h 9 := by rw [eS193]; exact hD.F ((Fr.rf [] [] _).N hq192) hkh (by decide) List.not_mem_nil
  have hkh : sK S193 h = 9 := hF.k hk (by decide)
  have hE197 : Fr [h] [1100] S193 S193 := Fr.rf _ _ _
  have kq192 : sK S193 q192 = 11 := by rw [eS193, kN, if_pos rfl]
  have nq192 : sL S193 q192 = 200 := by rw [eS193, lNw, if_pos rfl]
  have hG : Gx (h :: ex) S193 := hG.pl kq192 rty_11
  clear eS193
  refine pg_pr (ci := 9) (C := RX9) (T := TX9) (N := 63) hx hb hts wi9 tyX9 tyX9_ok nmX9 hown hK hW hS (hF.k hk (by decide)) (by decide) rfl 38 (by decide) (hts (.fieldLink RX9 76 "IceHallModel" "kindOf" "[I") (by decide +kernel)) (fun _ h9 => h9) rfl hnm rfl rfl rfl rfl dX9_init_163 (fun H locs hW hS => ?_)
  have kq199 : sK S193 h = 9 := (hF.k hk (by decide))
  have hbS198 := And.intro kq192 nq192
  obtain ⟨S198, eS198⟩ : ∃ T : St, T = stR S193 h 38 (some q192) := ⟨_, rfl⟩
  rw [← eS198] at hW
  have hD : Dn [38, 37, 34, 33, 32, 31, 30, 29, 28, 27, 26, 10, 9, 8, 7, 6, 5, 0] S198 h 9 := by rw [eS198]; exact hD.R (fun kd n ht => by cases ht; exact hbS198)
  have hG : Gx (h :: ex) S198 := by rw [eS198]; exact hG.Rh List.mem_cons_self kq199 (by decide)
  have hF : Fr [h] [1100] S S198 := by rw [eS198]; exact hF.Rh List.mem_cons_self
  have hE197 : Fr [h] [1100] S193 S198 := by rw [eS198]; exact hE197.Rh List.mem_cons_self
  have hkh : sK S198 h = 9 := hF.k hk (by decide)
  have w200 : sI S198 h 1 = 0 := by rw [eS198]; exact w194
  have w201 : sI S198 h 18 = 0 := by rw [eS198]; exact w195
  have w202 : sI S198 h 24 = 3 := by rw [eS198]; exact w196
  clear eS198 hbS198
  clear hE197
  refine lv_aload_n hx hb dX9_init_166 rfl (lv_at hl 0 rfl) ?_
  refine lv_sipush (v := 200) hx hb dX9_init_167 (by decide) ?_
  refine pg_newa (atype := .int) (ty := .int) (kd := 11) (t0 := 1) (N' := 200) hx hb (hts (.arrayClass .int) (by decide +kernel)) rfl rfl (Or.inl rfl) (by decide) hK hW hS hA (fun _ => rfl) (by decide) (by decide) (Nat.le_of_ble_eq_true rfl) (Nat.le_of_ble_eq_true rfl) (Nat.le_of_ble_eq_true rfl) dX9_init_170 (fun q203 H hq203 hW hS => ?_)
  have nqq203_hF : 20 ≤ sK S q203 := hF.new hq203
  obtain ⟨S204, eS204⟩ : ∃ T : St, T = stN S198 q203 11 200 := ⟨_, rfl⟩
  rw [← eS204] at hW
  have hG : Gx (q203 :: h :: ex) S204 := by rw [eS204]; exact hG.N hq203
  have w205 : sI S204 h 1 = 0 := by rw [eS204]; rw [iN, if_neg (fun e9 => by have := (hF.k hk (by decide)); rw [e9] at this; omega)]; exact w200
  have w206 : sI S204 h 18 = 0 := by rw [eS204]; rw [iN, if_neg (fun e9 => by have := (hF.k hk (by decide)); rw [e9] at this; omega)]; exact w201
  have w207 : sI S204 h 24 = 3 := by rw [eS204]; rw [iN, if_neg (fun e9 => by have := (hF.k hk (by decide)); rw [e9] at this; omega)]; exact w202
  have hF : Fr [h] [1100] S S204 := by rw [eS204]; exact hF.N hq203
  have hD : Dn [38, 37, 34, 33, 32, 31, 30, 29, 28, 27, 26, 10, 9, 8, 7, 6, 5, 0] S204 h 9 := by rw [eS204]; exact hD.F ((Fr.rf [] [] _).N hq203) hkh (by decide) List.not_mem_nil
  have hkh : sK S204 h = 9 := hF.k hk (by decide)
  have hE208 : Fr [h] [1100] S204 S204 := Fr.rf _ _ _
  have kq203 : sK S204 q203 = 11 := by rw [eS204, kN, if_pos rfl]
  have nq203 : sL S204 q203 = 200 := by rw [eS204, lNw, if_pos rfl]
  have hG : Gx (h :: ex) S204 := hG.pl kq203 rty_11
  clear eS204
  refine pg_pr (ci := 9) (C := RX9) (T := TX9) (N := 63) hx hb hts wi9 tyX9 tyX9_ok nmX9 hown hK hW hS (hF.k hk (by decide)) (by decide) rfl 39 (by decide) (hts (.fieldLink RX9 79 "IceHallModel" "sheetOf" "[I") (by decide +kernel)) (fun _ h9 => h9) rfl hnm rfl rfl rfl rfl dX9_init_172 (fun H locs hW hS => ?_)
  have kq210 : sK S204 h = 9 := (hF.k hk (by decide))
  have hbS209 := And.intro kq203 nq203
  obtain ⟨S209, eS209⟩ : ∃ T : St, T = stR S204 h 39 (some q203) := ⟨_, rfl⟩
  rw [← eS209] at hW
  have hD : Dn [39, 38, 37, 34, 33, 32, 31, 30, 29, 28, 27, 26, 10, 9, 8, 7, 6, 5, 0] S209 h 9 := by rw [eS209]; exact hD.R (fun kd n ht => by cases ht; exact hbS209)
  have hG : Gx (h :: ex) S209 := by rw [eS209]; exact hG.Rh List.mem_cons_self kq210 (by decide)
  have hF : Fr [h] [1100] S S209 := by rw [eS209]; exact hF.Rh List.mem_cons_self
  have hE208 : Fr [h] [1100] S204 S209 := by rw [eS209]; exact hE208.Rh List.mem_cons_self
  have hkh : sK S209 h = 9 := hF.k hk (by decide)
  have w211 : sI S209 h 1 = 0 := by rw [eS209]; exact w205
  have w212 : sI S209 h 18 = 0 := by rw [eS209]; exact w206
  have w213 : sI S209 h 24 = 3 := by rw [eS209]; exact w207
  clear eS209 hbS209
  clear hE208
  refine lv_aload_n hx hb dX9_init_175 rfl (lv_at hl 0 rfl) ?_
  refine lv_sipush (v := 200) hx hb dX9_init_176 (by decide) ?_
  refine pg_newa (atype := .int) (ty := .int) (kd := 16) (t0 := 1) (N' := 200) hx hb (hts (.arrayClass .int) (by decide +kernel)) rfl rfl (Or.inl rfl) (by decide) hK hW hS hA (fun _ => rfl) (by decide) (by decide) (Nat.le_of_ble_eq_true rfl) (Nat.le_of_ble_eq_true rfl) (Nat.le_of_ble_eq_true rfl) dX9_init_179 (fun q214 H hq214 hW hS => ?_)
  have nqq214_hF : 20 ≤ sK S q214 := hF.new hq214
  obtain ⟨S215, eS215⟩ : ∃ T : St, T = stN S209 q214 16 200 := ⟨_, rfl⟩
  rw [← eS215] at hW
  have hG : Gx (q214 :: h :: ex) S215 := by rw [eS215]; exact hG.N hq214
  have w216 : sI S215 h 1 = 0 := by rw [eS215]; rw [iN, if_neg (fun e9 => by have := (hF.k hk (by decide)); rw [e9] at this; omega)]; exact w211
  have w217 : sI S215 h 18 = 0 := by rw [eS215]; rw [iN, if_neg (fun e9 => by have := (hF.k hk (by decide)); rw [e9] at this; omega)]; exact w212
  have w218 : sI S215 h 24 = 3 := by rw [eS215]; rw [iN, if_neg (fun e9 => by have := (hF.k hk (by decide)); rw [e9] at this; omega)]; exact w213
  have hF : Fr [h] [1100] S S215 := by rw [eS215]; exact hF.N hq214
  have hD : Dn [39, 38, 37, 34, 33, 32, 31, 30, 29, 28, 27, 26, 10, 9, 8, 7, 6, 5, 0] S215 h 9 := by rw [eS215]; exact hD.F ((Fr.rf [] [] _).N hq214) hkh (by decide) List.not_mem_nil
  have hkh : sK S215 h = 9 := hF.k hk (by decide)
  have hE219 : Fr [h] [1100] S215 S215 := Fr.rf _ _ _
  have kq214 : sK S215 q214 = 16 := by rw [eS215, kN, if_pos rfl]
  have nq214 : sL S215 q214 = 200 := by rw [eS215, lNw, if_pos rfl]
  have hG : Gx (h :: ex) S215 := hG.pl kq214 rty_16
  clear eS215
  refine pg_pr (ci := 9) (C := RX9) (T := TX9) (N := 63) hx hb hts wi9 tyX9 tyX9_ok nmX9 hown hK hW hS (hF.k hk (by decide)) (by decide) rfl 40 (by decide) (hts (.fieldLink RX9 82 "IceHallModel" "hourOf" "[I") (by decide +kernel)) (fun _ h9 => h9) rfl hnm rfl rfl rfl rfl dX9_init_181 (fun H locs hW hS => ?_)
  have kq221 : sK S215 h = 9 := (hF.k hk (by decide))
  have hbS220 := And.intro kq214 nq214
  obtain ⟨S220, eS220⟩ : ∃ T : St, T = stR S215 h 40 (some q214) := ⟨_, rfl⟩
  rw [← eS220] at hW
  have hD : Dn [40, 39, 38, 37, 34, 33, 32, 31, 30, 29, 28, 27, 26, 10, 9, 8, 7, 6, 5, 0] S220 h 9 := by rw [eS220]; exact hD.R (fun kd n ht => by cases ht; exact hbS220)
  have hG : Gx (h :: ex) S220 := by rw [eS220]; exact hG.Rh List.mem_cons_self kq221 (by decide)
  have hF : Fr [h] [1100] S S220 := by rw [eS220]; exact hF.Rh List.mem_cons_self
  have hE219 : Fr [h] [1100] S215 S220 := by rw [eS220]; exact hE219.Rh List.mem_cons_self
  have hkh : sK S220 h = 9 := hF.k hk (by decide)
  have w222 : sI S220 h 1 = 0 := by rw [eS220]; exact w216
  have w223 : sI S220 h 18 = 0 := by rw [eS220]; exact w217
  have w224 : sI S220 h 24 = 3 := by rw [eS220]; exact w218
  clear eS220 hbS220
  clear hE219
  refine lv_aload_n hx hb dX9_init_184 rfl (lv_at hl 0 rfl) ?_
  refine lv_sipush (v := 200) hx hb dX9_init_185 (by decide) ?_
  refine pg_newa (atype := .int) (ty := .int) (kd := 11) (t0 := 1) (N' := 200) hx hb (hts (.arrayClass .int) (by decide +kernel)) rfl rfl (Or.inl rfl) (by decide) hK hW hS hA (fun _ => rfl) (by decide) (by decide) (Nat.le_of_ble_eq_true rfl) (Nat.le_of_ble_eq_true rfl) (Nat.le_of_ble_eq_true rfl) dX9_init_188 (fun q225 H hq225 hW hS => ?_)
  have nqq225_hF : 20 ≤ sK S q225 := hF.new hq225
  obtain ⟨S226, eS226⟩ : ∃ T : St, T = stN S220 q225 11 200 := ⟨_, rfl⟩
  rw [← eS226] at hW
  have hG : Gx (q225 :: h :: ex) S226 := by rw [eS226]; exact hG.N hq225
  have w227 : sI S226 h 1 = 0 := by rw [eS226]; rw [iN, if_neg (fun e9 => by have := (hF.k hk (by decide)); rw [e9] at this; omega)]; exact w222
  have w228 : sI S226 h 18 = 0 := by rw [eS226]; rw [iN, if_neg (fun e9 => by have := (hF.k hk (by decide)); rw [e9] at this; omega)]; exact w223
  have w229 : sI S226 h 24 = 3 := by rw [eS226]; rw [iN, if_neg (fun e9 => by have := (hF.k hk (by decide)); rw [e9] at this; omega)]; exact w224
  have hF : Fr [h] [1100] S S226 := by rw [eS226]; exact hF.N hq225
  have hD : Dn [40, 39, 38, 37, 34, 33, 32, 31, 30, 29, 28, 27, 26, 10, 9, 8, 7, 6, 5, 0] S226 h 9 := by rw [eS226]; exact hD.F ((Fr.rf [] [] _).N hq225) hkh (by decide) List.not_mem_nil
  have hkh : sK S226 h = 9 := hF.k hk (by decide)
  have hE230 : Fr [h] [1100] S226 S226 := Fr.rf _ _ _
  have kq225 : sK S226 q225 = 11 := by rw [eS226, kN, if_pos rfl]
  have nq225 : sL S226 q225 = 200 := by rw [eS226, lNw, if_pos rfl]
  have hG : Gx (h :: ex) S226 := hG.pl kq225 rty_11
  clear eS226
  refine pg_pr (ci := 9) (C := RX9) (T := TX9) (N := 63) hx hb hts wi9 tyX9 tyX9_ok nmX9 hown hK hW hS (hF.k hk (by decide)) (by decide) rfl 41 (by decide) (hts (.fieldLink RX9 85 "IceHallModel" "state" "[I") (by decide +kernel)) (fun _ h9 => h9) rfl hnm rfl rfl rfl rfl dX9_init_190 (fun H locs hW hS => ?_)
  have kq232 : sK S226 h = 9 := (hF.k hk (by decide))
  have hbS231 := And.intro kq225 nq225
  obtain ⟨S231, eS231⟩ : ∃ T : St, T = stR S226 h 41 (some q225) := ⟨_, rfl⟩
  rw [← eS231] at hW
  have hD : Dn [41, 40, 39, 38, 37, 34, 33, 32, 31, 30, 29, 28, 27, 26, 10, 9, 8, 7, 6, 5, 0] S231 h 9 := by rw [eS231]; exact hD.R (fun kd n ht => by cases ht; exact hbS231)
  have hG : Gx (h :: ex) S231 := by rw [eS231]; exact hG.Rh List.mem_cons_self kq232 (by decide)
  have hF : Fr [h] [1100] S S231 := by rw [eS231]; exact hF.Rh List.mem_cons_self
  have hE230 : Fr [h] [1100] S226 S231 := by rw [eS231]; exact hE230.Rh List.mem_cons_self
  have hkh : sK S231 h = 9 := hF.k hk (by decide)
  have w233 : sI S231 h 1 = 0 := by rw [eS231]; exact w227
  have w234 : sI S231 h 18 = 0 := by rw [eS231]; exact w228
  have w235 : sI S231 h 24 = 3 := by rw [eS231]; exact w229
  clear eS231 hbS231
  clear hE230
  refine lv_aload_n hx hb dX9_init_193 rfl (lv_at hl 0 rfl) ?_
  refine lv_sipush (v := 200) hx hb dX9_init_194 (by decide) ?_
  refine pg_newa (atype := .int) (ty := .int) (kd := 11) (t0 := 1) (N' := 200) hx hb (hts (.arrayClass .int) (by decide +kernel)) rfl rfl (Or.inl rfl) (by decide) hK hW hS hA (fun _ => rfl) (by decide) (by decide) (Nat.le_of_ble_eq_true rfl) (Nat.le_of_ble_eq_true rfl) (Nat.le_of_ble_eq_true rfl) dX9_init_197 (fun q236 H hq236 hW hS => ?_)
  have nqq236_hF : 20 ≤ sK S q236 := hF.new hq236
  obtain ⟨S237, eS237⟩ : ∃ T : St, T = stN S231 q236 11 200 := ⟨_, rfl⟩
  rw [← eS237] at hW
  have hG : Gx (q236 :: h :: ex) S237 := by rw [eS237]; exact hG.N hq236
  have w238 : sI S237 h 1 = 0 := by rw [eS237]; rw [iN, if_neg (fun e9 => by have := (hF.k hk (by decide)); rw [e9] at this; omega)]; exact w233
  have w239 : sI S237 h 18 = 0 := by rw [eS237]; rw [iN, if_neg (fun e9 => by have := (hF.k hk (by decide)); rw [e9] at this; omega)]; exact w234
  have w240 : sI S237 h 24 = 3 := by rw [eS237]; rw [iN, if_neg (fun e9 => by have := (hF.k hk (by decide)); rw [e9] at this; omega)]; exact w235
  have hF : Fr [h] [1100] S S237 := by rw [eS237]; exact hF.N hq236
  have hD : Dn [41, 40, 39, 38, 37, 34, 33, 32, 31, 30, 29, 28, 27, 26, 10, 9, 8, 7, 6, 5, 0] S237 h 9 := by rw [eS237]; exact hD.F ((Fr.rf [] [] _).N hq236) hkh (by decide) List.not_mem_nil
  have hkh : sK S237 h = 9 := hF.k hk (by decide)
  have hE241 : Fr [h] [1100] S237 S237 := Fr.rf _ _ _
  have kq236 : sK S237 q236 = 11 := by rw [eS237, kN, if_pos rfl]
  have nq236 : sL S237 q236 = 200 := by rw [eS237, lNw, if_pos rfl]
  have hG : Gx (h :: ex) S237 := hG.pl kq236 rty_11
  clear eS237
  refine pg_pr (ci := 9) (C := RX9) (T := TX9) (N := 63) hx hb hts wi9 tyX9 tyX9_ok nmX9 hown hK hW hS (hF.k hk (by decide)) (by decide) rfl 42 (by decide) (hts (.fieldLink RX9 88 "IceHallModel" "why" "[I") (by decide +kernel)) (fun _ h9 => h9) rfl hnm rfl rfl rfl rfl dX9_init_199 (fun H locs hW hS => ?_)
  have kq243 : sK S237 h = 9 := (hF.k hk (by decide))
  have hbS242 := And.intro kq236 nq236
  obtain ⟨S242, eS242⟩ : ∃ T : St, T = stR S237 h 42 (some q236) := ⟨_, rfl⟩
  rw [← eS242] at hW
  have hD : Dn [42, 41, 40, 39, 38, 37, 34, 33, 32, 31, 30, 29, 28, 27, 26, 10, 9, 8, 7, 6, 5, 0] S242 h 9 := by rw [eS242]; exact hD.R (fun kd n ht => by cases ht; exact hbS242)
  have hG : Gx (h :: ex) S242 := by rw [eS242]; exact hG.Rh List.mem_cons_self kq243 (by decide)
  have hF : Fr [h] [1100] S S242 := by rw [eS242]; exact hF.Rh List.mem_cons_self
  have hE241 : Fr [h] [1100] S237 S242 := by rw [eS242]; exact hE241.Rh List.mem_cons_self
  have hkh : sK S242 h = 9 := hF.k hk (by decide)
  have w244 : sI S242 h 1 = 0 := by rw [eS242]; exact w238
  have w245 : sI S242 h 18 = 0 := by rw [eS242]; exact w239
  have w246 : sI S242 h 24 = 3 := by rw [eS242]; exact w240
  clear eS242 hbS242
  clear hE241
  refine lv_aload_n hx hb dX9_init_202 rfl (lv_at hl 0 rfl) ?_
  refine lv_sipush (v := 200) hx hb dX9_init_203 (by decide) ?_
  refine pg_newa (atype := .int) (ty := .int) (kd := 11) (t0 := 1) (N' := 200) hx hb (hts (.arrayClass .int) (by decide +kernel)) rfl rfl (Or.inl rfl) (by decide) hK hW hS hA (fun _ => rfl) (by decide) (by decide) (Nat.le_of_ble_eq_true rfl) (Nat.le_of_ble_eq_true rfl) (Nat.le_of_ble_eq_true rfl) dX9_init_206 (fun q247 H hq247 hW hS => ?_)
  have nqq247_hF : 20 ≤ sK S q247 := hF.new hq247
  obtain ⟨S248, eS248⟩ : ∃ T : St, T = stN S242 q247 11 200 := ⟨_, rfl⟩
  rw [← eS248] at hW
  have hG : Gx (q247 :: h :: ex) S248 := by rw [eS248]; exact hG.N hq247
  have w249 : sI S248 h 1 = 0 := by rw [eS248]; rw [iN, if_neg (fun e9 => by have := (hF.k hk (by decide)); rw [e9] at this; omega)]; exact w244
  have w250 : sI S248 h 18 = 0 := by rw [eS248]; rw [iN, if_neg (fun e9 => by have := (hF.k hk (by decide)); rw [e9] at this; omega)]; exact w245
  have w251 : sI S248 h 24 = 3 := by rw [eS248]; rw [iN, if_neg (fun e9 => by have := (hF.k hk (by decide)); rw [e9] at this; omega)]; exact w246
  have hF : Fr [h] [1100] S S248 := by rw [eS248]; exact hF.N hq247
  have hD : Dn [42, 41, 40, 39, 38, 37, 34, 33, 32, 31, 30, 29, 28, 27, 26, 10, 9, 8, 7, 6, 5, 0] S248 h 9 := by rw [eS248]; exact hD.F ((Fr.rf [] [] _).N hq247) hkh (by decide) List.not_mem_nil
  have hkh : sK S248 h = 9 := hF.k hk (by decide)
  have hE252 : Fr [h] [1100] S248 S248 := Fr.rf _ _ _
  have kq247 : sK S248 q247 = 11 := by rw [eS248, kN, if_pos rfl]
  have nq247 : sL S248 q247 = 200 := by rw [eS248, lNw, if_pos rfl]
  have hG : Gx (h :: ex) S248 := hG.pl kq247 rty_11
  clear eS248
  refine pg_pr (ci := 9) (C := RX9) (T := TX9) (N := 63) hx hb hts wi9 tyX9 tyX9_ok nmX9 hown hK hW hS (hF.k hk (by decide)) (by decide) rfl 43 (by decide) (hts (.fieldLink RX9 91 "IceHallModel" "feeOf" "[I") (by decide +kernel)) (fun _ h9 => h9) rfl hnm rfl rfl rfl rfl dX9_init_208 (fun H locs hW hS => ?_)
  have kq254 : sK S248 h = 9 := (hF.k hk (by decide))
  have hbS253 := And.intro kq247 nq247
  obtain ⟨S253, eS253⟩ : ∃ T : St, T = stR S248 h 43 (some q247) := ⟨_, rfl⟩
  rw [← eS253] at hW
  have hD : Dn [43, 42, 41, 40, 39, 38, 37, 34, 33, 32, 31, 30, 29, 28, 27, 26, 10, 9, 8, 7, 6, 5, 0] S253 h 9 := by rw [eS253]; exact hD.R (fun kd n ht => by cases ht; exact hbS253)
  have hG : Gx (h :: ex) S253 := by rw [eS253]; exact hG.Rh List.mem_cons_self kq254 (by decide)
  have hF : Fr [h] [1100] S S253 := by rw [eS253]; exact hF.Rh List.mem_cons_self
  have hE252 : Fr [h] [1100] S248 S253 := by rw [eS253]; exact hE252.Rh List.mem_cons_self
  have hkh : sK S253 h = 9 := hF.k hk (by decide)
  have w255 : sI S253 h 1 = 0 := by rw [eS253]; exact w249
  have w256 : sI S253 h 18 = 0 := by rw [eS253]; exact w250
  have w257 : sI S253 h 24 = 3 := by rw [eS253]; exact w251
  clear eS253 hbS253
  clear hE252
  refine lv_aload_n hx hb dX9_init_211 rfl (lv_at hl 0 rfl) ?_
  refine lv_sipush (v := 200) hx hb dX9_init_212 (by decide) ?_
  refine pg_newa (atype := .int) (ty := .int) (kd := 11) (t0 := 1) (N' := 200) hx hb (hts (.arrayClass .int) (by decide +kernel)) rfl rfl (Or.inl rfl) (by decide) hK hW hS hA (fun _ => rfl) (by decide) (by decide) (Nat.le_of_ble_eq_true rfl) (Nat.le_of_ble_eq_true rfl) (Nat.le_of_ble_eq_true rfl) dX9_init_215 (fun q258 H hq258 hW hS => ?_)
  have nqq258_hF : 20 ≤ sK S q258 := hF.new hq258
  obtain ⟨S259, eS259⟩ : ∃ T : St, T = stN S253 q258 11 200 := ⟨_, rfl⟩
  rw [← eS259] at hW
  have hG : Gx (q258 :: h :: ex) S259 := by rw [eS259]; exact hG.N hq258
  have w260 : sI S259 h 1 = 0 := by rw [eS259]; rw [iN, if_neg (fun e9 => by have := (hF.k hk (by decide)); rw [e9] at this; omega)]; exact w255
  have w261 : sI S259 h 18 = 0 := by rw [eS259]; rw [iN, if_neg (fun e9 => by have := (hF.k hk (by decide)); rw [e9] at this; omega)]; exact w256
  have w262 : sI S259 h 24 = 3 := by rw [eS259]; rw [iN, if_neg (fun e9 => by have := (hF.k hk (by decide)); rw [e9] at this; omega)]; exact w257
  have hF : Fr [h] [1100] S S259 := by rw [eS259]; exact hF.N hq258
  have hD : Dn [43, 42, 41, 40, 39, 38, 37, 34, 33, 32, 31, 30, 29, 28, 27, 26, 10, 9, 8, 7, 6, 5, 0] S259 h 9 := by rw [eS259]; exact hD.F ((Fr.rf [] [] _).N hq258) hkh (by decide) List.not_mem_nil
  have hkh : sK S259 h = 9 := hF.k hk (by decide)
  have hE263 : Fr [h] [1100] S259 S259 := Fr.rf _ _ _
  have kq258 : sK S259 q258 = 11 := by rw [eS259, kN, if_pos rfl]
  have nq258 : sL S259 q258 = 200 := by rw [eS259, lNw, if_pos rfl]
  have hG : Gx (h :: ex) S259 := hG.pl kq258 rty_11
  clear eS259
  refine pg_pr (ci := 9) (C := RX9) (T := TX9) (N := 63) hx hb hts wi9 tyX9 tyX9_ok nmX9 hown hK hW hS (hF.k hk (by decide)) (by decide) rfl 44 (by decide) (hts (.fieldLink RX9 94 "IceHallModel" "partOf" "[I") (by decide +kernel)) (fun _ h9 => h9) rfl hnm rfl rfl rfl rfl dX9_init_217 (fun H locs hW hS => ?_)
  have kq265 : sK S259 h = 9 := (hF.k hk (by decide))
  have hbS264 := And.intro kq258 nq258
  obtain ⟨S264, eS264⟩ : ∃ T : St, T = stR S259 h 44 (some q258) := ⟨_, rfl⟩
  rw [← eS264] at hW
  have hD : Dn [44, 43, 42, 41, 40, 39, 38, 37, 34, 33, 32, 31, 30, 29, 28, 27, 26, 10, 9, 8, 7, 6, 5, 0] S264 h 9 := by rw [eS264]; exact hD.R (fun kd n ht => by cases ht; exact hbS264)
  have hG : Gx (h :: ex) S264 := by rw [eS264]; exact hG.Rh List.mem_cons_self kq265 (by decide)
  have hF : Fr [h] [1100] S S264 := by rw [eS264]; exact hF.Rh List.mem_cons_self
  have hE263 : Fr [h] [1100] S259 S264 := by rw [eS264]; exact hE263.Rh List.mem_cons_self
  have hkh : sK S264 h = 9 := hF.k hk (by decide)
  have w266 : sI S264 h 1 = 0 := by rw [eS264]; exact w260
  have w267 : sI S264 h 18 = 0 := by rw [eS264]; exact w261
  have w268 : sI S264 h 24 = 3 := by rw [eS264]; exact w262
  clear eS264 hbS264
  clear hE263
  refine lv_aload_n hx hb dX9_init_220 rfl (lv_at hl 0 rfl) ?_
  refine lv_sipush (v := 200) hx hb dX9_init_221 (by decide) ?_
  refine pg_newa (atype := .int) (ty := .int) (kd := 11) (t0 := 1) (N' := 200) hx hb (hts (.arrayClass .int) (by decide +kernel)) rfl rfl (Or.inl rfl) (by decide) hK hW hS hA (fun _ => rfl) (by decide) (by decide) (Nat.le_of_ble_eq_true rfl) (Nat.le_of_ble_eq_true rfl) (Nat.le_of_ble_eq_true rfl) dX9_init_224 (fun q269 H hq269 hW hS => ?_)
  have nqq269_hF : 20 ≤ sK S q269 := hF.new hq269
  obtain ⟨S270, eS270⟩ : ∃ T : St, T = stN S264 q269 11 200 := ⟨_, rfl⟩
  rw [← eS270] at hW
  have hG : Gx (q269 :: h :: ex) S270 := by rw [eS270]; exact hG.N hq269
  have w271 : sI S270 h 1 = 0 := by rw [eS270]; rw [iN, if_neg (fun e9 => by have := (hF.k hk (by decide)); rw [e9] at this; omega)]; exact w266
  have w272 : sI S270 h 18 = 0 := by rw [eS270]; rw [iN, if_neg (fun e9 => by have := (hF.k hk (by decide)); rw [e9] at this; omega)]; exact w267
  have w273 : sI S270 h 24 = 3 := by rw [eS270]; rw [iN, if_neg (fun e9 => by have := (hF.k hk (by decide)); rw [e9] at this; omega)]; exact w268
  have hF : Fr [h] [1100] S S270 := by rw [eS270]; exact hF.N hq269
  have hD : Dn [44, 43, 42, 41, 40, 39, 38, 37, 34, 33, 32, 31, 30, 29, 28, 27, 26, 10, 9, 8, 7, 6, 5, 0] S270 h 9 := by rw [eS270]; exact hD.F ((Fr.rf [] [] _).N hq269) hkh (by decide) List.not_mem_nil
  have hkh : sK S270 h = 9 := hF.k hk (by decide)
  have hE274 : Fr [h] [1100] S270 S270 := Fr.rf _ _ _
  have kq269 : sK S270 q269 = 11 := by rw [eS270, kN, if_pos rfl]
  have nq269 : sL S270 q269 = 200 := by rw [eS270, lNw, if_pos rfl]
  have hG : Gx (h :: ex) S270 := hG.pl kq269 rty_11
  clear eS270
  refine pg_pr (ci := 9) (C := RX9) (T := TX9) (N := 63) hx hb hts wi9 tyX9 tyX9_ok nmX9 hown hK hW hS (hF.k hk (by decide)) (by decide) rfl 45 (by decide) (hts (.fieldLink RX9 97 "IceHallModel" "moved" "[I") (by decide +kernel)) (fun _ h9 => h9) rfl hnm rfl rfl rfl rfl dX9_init_226 (fun H locs hW hS => ?_)
  have kq276 : sK S270 h = 9 := (hF.k hk (by decide))
  have hbS275 := And.intro kq269 nq269
  obtain ⟨S275, eS275⟩ : ∃ T : St, T = stR S270 h 45 (some q269) := ⟨_, rfl⟩
  rw [← eS275] at hW
  have hD : Dn [45, 44, 43, 42, 41, 40, 39, 38, 37, 34, 33, 32, 31, 30, 29, 28, 27, 26, 10, 9, 8, 7, 6, 5, 0] S275 h 9 := by rw [eS275]; exact hD.R (fun kd n ht => by cases ht; exact hbS275)
  have hG : Gx (h :: ex) S275 := by rw [eS275]; exact hG.Rh List.mem_cons_self kq276 (by decide)
  have hF : Fr [h] [1100] S S275 := by rw [eS275]; exact hF.Rh List.mem_cons_self
  have hE274 : Fr [h] [1100] S270 S275 := by rw [eS275]; exact hE274.Rh List.mem_cons_self
  have hkh : sK S275 h = 9 := hF.k hk (by decide)
  have w277 : sI S275 h 1 = 0 := by rw [eS275]; exact w271
  have w278 : sI S275 h 18 = 0 := by rw [eS275]; exact w272
  have w279 : sI S275 h 24 = 3 := by rw [eS275]; exact w273
  clear eS275 hbS275
  clear hE274
  refine lv_aload_n hx hb dX9_init_229 rfl (lv_at hl 0 rfl) ?_
  refine lv_bipush (v := 10) hx hb dX9_init_230 (by decide) ?_
  refine pg_newa (atype := .int) (ty := .int) (kd := 11) (t0 := 1) (N' := 10) hx hb (hts (.arrayClass .int) (by decide +kernel)) rfl rfl (Or.inl rfl) (by decide) hK hW hS hA (fun _ => rfl) (by decide) (by decide) (Nat.le_of_ble_eq_true rfl) (Nat.le_of_ble_eq_true rfl) (Nat.le_of_ble_eq_true rfl) dX9_init_232 (fun q280 H hq280 hW hS => ?_)
  have nqq280_hF : 20 ≤ sK S q280 := hF.new hq280
  obtain ⟨S281, eS281⟩ : ∃ T : St, T = stN S275 q280 11 10 := ⟨_, rfl⟩
  rw [← eS281] at hW
  have hG : Gx (q280 :: h :: ex) S281 := by rw [eS281]; exact hG.N hq280
  have w282 : sI S281 h 1 = 0 := by rw [eS281]; rw [iN, if_neg (fun e9 => by have := (hF.k hk (by decide)); rw [e9] at this; omega)]; exact w277
  have w283 : sI S281 h 18 = 0 := by rw [eS281]; rw [iN, if_neg (fun e9 => by have := (hF.k hk (by decide)); rw [e9] at this; omega)]; exact w278
  have w284 : sI S281 h 24 = 3 := by rw [eS281]; rw [iN, if_neg (fun e9 => by have := (hF.k hk (by decide)); rw [e9] at this; omega)]; exact w279
  have hF : Fr [h] [1100] S S281 := by rw [eS281]; exact hF.N hq280
  have hD : Dn [45, 44, 43, 42, 41, 40, 39, 38, 37, 34, 33, 32, 31, 30, 29, 28, 27, 26, 10, 9, 8, 7, 6, 5, 0] S281 h 9 := by rw [eS281]; exact hD.F ((Fr.rf [] [] _).N hq280) hkh (by decide) List.not_mem_nil
  have hkh : sK S281 h = 9 := hF.k hk (by decide)
  have hE285 : Fr [h] [1100] S281 S281 := Fr.rf _ _ _
  have kq280 : sK S281 q280 = 11 := by rw [eS281, kN, if_pos rfl]
  have nq280 : sL S281 q280 = 10 := by rw [eS281, lNw, if_pos rfl]
  have hG : Gx (h :: ex) S281 := hG.pl kq280 rty_11
  clear eS281
  refine pg_pr (ci := 9) (C := RX9) (T := TX9) (N := 63) hx hb hts wi9 tyX9 tyX9_ok nmX9 hown hK hW hS (hF.k hk (by decide)) (by decide) rfl 46 (by decide) (hts (.fieldLink RX9 100 "IceHallModel" "closedSheet" "[I") (by decide +kernel)) (fun _ h9 => h9) rfl hnm rfl rfl rfl rfl dX9_init_234 (fun H locs hW hS => ?_)
  have kq287 : sK S281 h = 9 := (hF.k hk (by decide))
  have hbS286 := And.intro kq280 nq280
  obtain ⟨S286, eS286⟩ : ∃ T : St, T = stR S281 h 46 (some q280) := ⟨_, rfl⟩
  rw [← eS286] at hW
  have hD : Dn [46, 45, 44, 43, 42, 41, 40, 39, 38, 37, 34, 33, 32, 31, 30, 29, 28, 27, 26, 10, 9, 8, 7, 6, 5, 0] S286 h 9 := by rw [eS286]; exact hD.R (fun kd n ht => by cases ht; exact hbS286)
  have hG : Gx (h :: ex) S286 := by rw [eS286]; exact hG.Rh List.mem_cons_self kq287 (by decide)
  have hF : Fr [h] [1100] S S286 := by rw [eS286]; exact hF.Rh List.mem_cons_self
  have hE285 : Fr [h] [1100] S281 S286 := by rw [eS286]; exact hE285.Rh List.mem_cons_self
  have hkh : sK S286 h = 9 := hF.k hk (by decide)
  have w288 : sI S286 h 1 = 0 := by rw [eS286]; exact w282
  have w289 : sI S286 h 18 = 0 := by rw [eS286]; exact w283
  have w290 : sI S286 h 24 = 3 := by rw [eS286]; exact w284
  clear eS286 hbS286
  clear hE285
  refine lv_aload_n hx hb dX9_init_237 rfl (lv_at hl 0 rfl) ?_
  refine lv_bipush (v := 10) hx hb dX9_init_238 (by decide) ?_
  refine pg_newa (atype := .int) (ty := .int) (kd := 11) (t0 := 1) (N' := 10) hx hb (hts (.arrayClass .int) (by decide +kernel)) rfl rfl (Or.inl rfl) (by decide) hK hW hS hA (fun _ => rfl) (by decide) (by decide) (Nat.le_of_ble_eq_true rfl) (Nat.le_of_ble_eq_true rfl) (Nat.le_of_ble_eq_true rfl) dX9_init_240 (fun q291 H hq291 hW hS => ?_)
  have nqq291_hF : 20 ≤ sK S q291 := hF.new hq291
  obtain ⟨S292, eS292⟩ : ∃ T : St, T = stN S286 q291 11 10 := ⟨_, rfl⟩
  rw [← eS292] at hW
  have hG : Gx (q291 :: h :: ex) S292 := by rw [eS292]; exact hG.N hq291
  have w293 : sI S292 h 1 = 0 := by rw [eS292]; rw [iN, if_neg (fun e9 => by have := (hF.k hk (by decide)); rw [e9] at this; omega)]; exact w288
  have w294 : sI S292 h 18 = 0 := by rw [eS292]; rw [iN, if_neg (fun e9 => by have := (hF.k hk (by decide)); rw [e9] at this; omega)]; exact w289
  have w295 : sI S292 h 24 = 3 := by rw [eS292]; rw [iN, if_neg (fun e9 => by have := (hF.k hk (by decide)); rw [e9] at this; omega)]; exact w290
  have hF : Fr [h] [1100] S S292 := by rw [eS292]; exact hF.N hq291
  have hD : Dn [46, 45, 44, 43, 42, 41, 40, 39, 38, 37, 34, 33, 32, 31, 30, 29, 28, 27, 26, 10, 9, 8, 7, 6, 5, 0] S292 h 9 := by rw [eS292]; exact hD.F ((Fr.rf [] [] _).N hq291) hkh (by decide) List.not_mem_nil
  have hkh : sK S292 h = 9 := hF.k hk (by decide)
  have hE296 : Fr [h] [1100] S292 S292 := Fr.rf _ _ _
  have kq291 : sK S292 q291 = 11 := by rw [eS292, kN, if_pos rfl]
  have nq291 : sL S292 q291 = 10 := by rw [eS292, lNw, if_pos rfl]
  have hG : Gx (h :: ex) S292 := hG.pl kq291 rty_11
  clear eS292
  refine pg_pr (ci := 9) (C := RX9) (T := TX9) (N := 63) hx hb hts wi9 tyX9 tyX9_ok nmX9 hown hK hW hS (hF.k hk (by decide)) (by decide) rfl 47 (by decide) (hts (.fieldLink RX9 103 "IceHallModel" "closedFrom" "[I") (by decide +kernel)) (fun _ h9 => h9) rfl hnm rfl rfl rfl rfl dX9_init_242 (fun H locs hW hS => ?_)
  have kq298 : sK S292 h = 9 := (hF.k hk (by decide))
  have hbS297 := And.intro kq291 nq291
  obtain ⟨S297, eS297⟩ : ∃ T : St, T = stR S292 h 47 (some q291) := ⟨_, rfl⟩
  rw [← eS297] at hW
  have hD : Dn [47, 46, 45, 44, 43, 42, 41, 40, 39, 38, 37, 34, 33, 32, 31, 30, 29, 28, 27, 26, 10, 9, 8, 7, 6, 5, 0] S297 h 9 := by rw [eS297]; exact hD.R (fun kd n ht => by cases ht; exact hbS297)
  have hG : Gx (h :: ex) S297 := by rw [eS297]; exact hG.Rh List.mem_cons_self kq298 (by decide)
  have hF : Fr [h] [1100] S S297 := by rw [eS297]; exact hF.Rh List.mem_cons_self
  have hE296 : Fr [h] [1100] S292 S297 := by rw [eS297]; exact hE296.Rh List.mem_cons_self
  have hkh : sK S297 h = 9 := hF.k hk (by decide)
  have w299 : sI S297 h 1 = 0 := by rw [eS297]; exact w293
  have w300 : sI S297 h 18 = 0 := by rw [eS297]; exact w294
  have w301 : sI S297 h 24 = 3 := by rw [eS297]; exact w295
  clear eS297 hbS297
  clear hE296
  refine lv_aload_n hx hb dX9_init_245 rfl (lv_at hl 0 rfl) ?_
  refine lv_bipush (v := 10) hx hb dX9_init_246 (by decide) ?_
  refine pg_newa (atype := .int) (ty := .int) (kd := 11) (t0 := 1) (N' := 10) hx hb (hts (.arrayClass .int) (by decide +kernel)) rfl rfl (Or.inl rfl) (by decide) hK hW hS hA (fun _ => rfl) (by decide) (by decide) (Nat.le_of_ble_eq_true rfl) (Nat.le_of_ble_eq_true rfl) (Nat.le_of_ble_eq_true rfl) dX9_init_248 (fun q302 H hq302 hW hS => ?_)
  have nqq302_hF : 20 ≤ sK S q302 := hF.new hq302
  obtain ⟨S303, eS303⟩ : ∃ T : St, T = stN S297 q302 11 10 := ⟨_, rfl⟩
  rw [← eS303] at hW
  have hG : Gx (q302 :: h :: ex) S303 := by rw [eS303]; exact hG.N hq302
  have w304 : sI S303 h 1 = 0 := by rw [eS303]; rw [iN, if_neg (fun e9 => by have := (hF.k hk (by decide)); rw [e9] at this; omega)]; exact w299
  have w305 : sI S303 h 18 = 0 := by rw [eS303]; rw [iN, if_neg (fun e9 => by have := (hF.k hk (by decide)); rw [e9] at this; omega)]; exact w300
  have w306 : sI S303 h 24 = 3 := by rw [eS303]; rw [iN, if_neg (fun e9 => by have := (hF.k hk (by decide)); rw [e9] at this; omega)]; exact w301
  have hF : Fr [h] [1100] S S303 := by rw [eS303]; exact hF.N hq302
  have hD : Dn [47, 46, 45, 44, 43, 42, 41, 40, 39, 38, 37, 34, 33, 32, 31, 30, 29, 28, 27, 26, 10, 9, 8, 7, 6, 5, 0] S303 h 9 := by rw [eS303]; exact hD.F ((Fr.rf [] [] _).N hq302) hkh (by decide) List.not_mem_nil
  have hkh : sK S303 h = 9 := hF.k hk (by decide)
  have hE307 : Fr [h] [1100] S303 S303 := Fr.rf _ _ _
  have kq302 : sK S303 q302 = 11 := by rw [eS303, kN, if_pos rfl]
  have nq302 : sL S303 q302 = 10 := by rw [eS303, lNw, if_pos rfl]
  have hG : Gx (h :: ex) S303 := hG.pl kq302 rty_11
  clear eS303
  refine pg_pr (ci := 9) (C := RX9) (T := TX9) (N := 63) hx hb hts wi9 tyX9 tyX9_ok nmX9 hown hK hW hS (hF.k hk (by decide)) (by decide) rfl 48 (by decide) (hts (.fieldLink RX9 106 "IceHallModel" "closedTo" "[I") (by decide +kernel)) (fun _ h9 => h9) rfl hnm rfl rfl rfl rfl dX9_init_250 (fun H locs hW hS => ?_)
  have kq309 : sK S303 h = 9 := (hF.k hk (by decide))
  have hbS308 := And.intro kq302 nq302
  obtain ⟨S308, eS308⟩ : ∃ T : St, T = stR S303 h 48 (some q302) := ⟨_, rfl⟩
  rw [← eS308] at hW
  have hD : Dn [48, 47, 46, 45, 44, 43, 42, 41, 40, 39, 38, 37, 34, 33, 32, 31, 30, 29, 28, 27, 26, 10, 9, 8, 7, 6, 5, 0] S308 h 9 := by rw [eS308]; exact hD.R (fun kd n ht => by cases ht; exact hbS308)
  have hG : Gx (h :: ex) S308 := by rw [eS308]; exact hG.Rh List.mem_cons_self kq309 (by decide)
  have hF : Fr [h] [1100] S S308 := by rw [eS308]; exact hF.Rh List.mem_cons_self
  have hE307 : Fr [h] [1100] S303 S308 := by rw [eS308]; exact hE307.Rh List.mem_cons_self
  have hkh : sK S308 h = 9 := hF.k hk (by decide)
  have w310 : sI S308 h 1 = 0 := by rw [eS308]; exact w304
  have w311 : sI S308 h 18 = 0 := by rw [eS308]; exact w305
  have w312 : sI S308 h 24 = 3 := by rw [eS308]; exact w306
  clear eS308 hbS308
  clear hE307
  refine lv_aload_n hx hb dX9_init_253 rfl (lv_at hl 0 rfl) ?_
  refine lv_iconst (v := 5) hx hb dX9_init_254 (by decide) ?_
  refine pg_newa (atype := .int) (ty := .int) (kd := 17) (t0 := 1) (N' := 5) hx hb (hts (.arrayClass .int) (by decide +kernel)) rfl rfl (Or.inl rfl) (by decide) hK hW hS hA (fun _ => rfl) (by decide) (by decide) (Nat.le_of_ble_eq_true rfl) (Nat.le_of_ble_eq_true rfl) (Nat.le_of_ble_eq_true rfl) dX9_init_255 (fun q313 H hq313 hW hS => ?_)
  have nqq313_hF : 20 ≤ sK S q313 := hF.new hq313
  obtain ⟨S314, eS314⟩ : ∃ T : St, T = stN S308 q313 17 5 := ⟨_, rfl⟩
  rw [← eS314] at hW
  have hG : Gx (q313 :: h :: ex) S314 := by rw [eS314]; exact hG.N hq313
  have w315 : sI S314 h 1 = 0 := by rw [eS314]; rw [iN, if_neg (fun e9 => by have := (hF.k hk (by decide)); rw [e9] at this; omega)]; exact w310
  have w316 : sI S314 h 18 = 0 := by rw [eS314]; rw [iN, if_neg (fun e9 => by have := (hF.k hk (by decide)); rw [e9] at this; omega)]; exact w311
  have w317 : sI S314 h 24 = 3 := by rw [eS314]; rw [iN, if_neg (fun e9 => by have := (hF.k hk (by decide)); rw [e9] at this; omega)]; exact w312
  have hF : Fr [h] [1100] S S314 := by rw [eS314]; exact hF.N hq313
  have hD : Dn [48, 47, 46, 45, 44, 43, 42, 41, 40, 39, 38, 37, 34, 33, 32, 31, 30, 29, 28, 27, 26, 10, 9, 8, 7, 6, 5, 0] S314 h 9 := by rw [eS314]; exact hD.F ((Fr.rf [] [] _).N hq313) hkh (by decide) List.not_mem_nil
  have hkh : sK S314 h = 9 := hF.k hk (by decide)
  have hE318 : Fr [h] [1100] S314 S314 := Fr.rf _ _ _
  have kq313 : sK S314 q313 = 17 := by rw [eS314, kN, if_pos rfl]
  have nq313 : sL S314 q313 = 5 := by rw [eS314, lNw, if_pos rfl]
  have hG : Gx (h :: ex) S314 := hG.pl kq313 rty_17
  clear eS314
  refine pg_pr (ci := 9) (C := RX9) (T := TX9) (N := 63) hx hb hts wi9 tyX9 tyX9_ok nmX9 hown hK hW hS (hF.k hk (by decide)) (by decide) rfl 49 (by decide) (hts (.fieldLink RX9 109 "IceHallModel" "out" "[I") (by decide +kernel)) (fun _ h9 => h9) rfl hnm rfl rfl rfl rfl dX9_init_257 (fun H locs hW hS => ?_)
  have kq320 : sK S314 h = 9 := (hF.k hk (by decide))
  have hbS319 := And.intro kq313 nq313
  obtain ⟨S319, eS319⟩ : ∃ T : St, T = stR S314 h 49 (some q313) := ⟨_, rfl⟩
  rw [← eS319] at hW
  have hD : Dn [49, 48, 47, 46, 45, 44, 43, 42, 41, 40, 39, 38, 37, 34, 33, 32, 31, 30, 29, 28, 27, 26, 10, 9, 8, 7, 6, 5, 0] S319 h 9 := by rw [eS319]; exact hD.R (fun kd n ht => by cases ht; exact hbS319)
  have hG : Gx (h :: ex) S319 := by rw [eS319]; exact hG.Rh List.mem_cons_self kq320 (by decide)
  have hF : Fr [h] [1100] S S319 := by rw [eS319]; exact hF.Rh List.mem_cons_self
  have hE318 : Fr [h] [1100] S314 S319 := by rw [eS319]; exact hE318.Rh List.mem_cons_self
  have hkh : sK S319 h = 9 := hF.k hk (by decide)
  have w321 : sI S319 h 1 = 0 := by rw [eS319]; exact w315
  have w322 : sI S319 h 18 = 0 := by rw [eS319]; exact w316
  have w323 : sI S319 h 24 = 3 := by rw [eS319]; exact w317
  clear eS319 hbS319
  clear hE318
  refine lv_aload_n hx hb dX9_init_260 rfl (lv_at hl 0 rfl) ?_
  refine lv_iconst (v := 5) hx hb dX9_init_261 (by decide) ?_
  refine pg_newa (atype := .int) (ty := .int) (kd := 19) (t0 := 1) (N' := 5) hx hb (hts (.arrayClass .int) (by decide +kernel)) rfl rfl (Or.inl rfl) (by decide) hK hW hS hA (fun _ => rfl) (by decide) (by decide) (Nat.le_of_ble_eq_true rfl) (Nat.le_of_ble_eq_true rfl) (Nat.le_of_ble_eq_true rfl) dX9_init_262 (fun q324 H hq324 hW hS => ?_)
  have nqq324_hF : 20 ≤ sK S q324 := hF.new hq324
  obtain ⟨S325, eS325⟩ : ∃ T : St, T = stN S319 q324 19 5 := ⟨_, rfl⟩
  rw [← eS325] at hW
  have hG : Gx (q324 :: h :: ex) S325 := by rw [eS325]; exact hG.N hq324
  have w326 : sI S325 h 1 = 0 := by rw [eS325]; rw [iN, if_neg (fun e9 => by have := (hF.k hk (by decide)); rw [e9] at this; omega)]; exact w321
  have w327 : sI S325 h 18 = 0 := by rw [eS325]; rw [iN, if_neg (fun e9 => by have := (hF.k hk (by decide)); rw [e9] at this; omega)]; exact w322
  have w328 : sI S325 h 24 = 3 := by rw [eS325]; rw [iN, if_neg (fun e9 => by have := (hF.k hk (by decide)); rw [e9] at this; omega)]; exact w323
  have hF : Fr [h] [1100] S S325 := by rw [eS325]; exact hF.N hq324
  have hD : Dn [49, 48, 47, 46, 45, 44, 43, 42, 41, 40, 39, 38, 37, 34, 33, 32, 31, 30, 29, 28, 27, 26, 10, 9, 8, 7, 6, 5, 0] S325 h 9 := by rw [eS325]; exact hD.F ((Fr.rf [] [] _).N hq324) hkh (by decide) List.not_mem_nil
  have hkh : sK S325 h = 9 := hF.k hk (by decide)
  have hE329 : Fr [h] [1100] S325 S325 := Fr.rf _ _ _
  have kq324 : sK S325 q324 = 19 := by rw [eS325, kN, if_pos rfl]
  have nq324 : sL S325 q324 = 5 := by rw [eS325, lNw, if_pos rfl]
  have hG : Gx (h :: ex) S325 := hG.pl kq324 rty_19
  clear eS325
  refine pg_pr (ci := 9) (C := RX9) (T := TX9) (N := 63) hx hb hts wi9 tyX9 tyX9_ok nmX9 hown hK hW hS (hF.k hk (by decide)) (by decide) rfl 50 (by decide) (hts (.fieldLink RX9 112 "IceHallModel" "way" "[I") (by decide +kernel)) (fun _ h9 => h9) rfl hnm rfl rfl rfl rfl dX9_init_264 (fun H locs hW hS => ?_)
  have kq331 : sK S325 h = 9 := (hF.k hk (by decide))
  have hbS330 := And.intro kq324 nq324
  obtain ⟨S330, eS330⟩ : ∃ T : St, T = stR S325 h 50 (some q324) := ⟨_, rfl⟩
  rw [← eS330] at hW
  have hD : Dn [50, 49, 48, 47, 46, 45, 44, 43, 42, 41, 40, 39, 38, 37, 34, 33, 32, 31, 30, 29, 28, 27, 26, 10, 9, 8, 7, 6, 5, 0] S330 h 9 := by rw [eS330]; exact hD.R (fun kd n ht => by cases ht; exact hbS330)
  have hG : Gx (h :: ex) S330 := by rw [eS330]; exact hG.Rh List.mem_cons_self kq331 (by decide)
  have hF : Fr [h] [1100] S S330 := by rw [eS330]; exact hF.Rh List.mem_cons_self
  have hE329 : Fr [h] [1100] S325 S330 := by rw [eS330]; exact hE329.Rh List.mem_cons_self
  have hkh : sK S330 h = 9 := hF.k hk (by decide)
  have w332 : sI S330 h 1 = 0 := by rw [eS330]; exact w326
  have w333 : sI S330 h 18 = 0 := by rw [eS330]; exact w327
  have w334 : sI S330 h 24 = 3 := by rw [eS330]; exact w328
  clear eS330 hbS330
  clear hE329
  refine lv_aload_n hx hb dX9_init_267 rfl (lv_at hl 0 rfl) ?_
  refine lv_iconst (v := 5) hx hb dX9_init_268 (by decide) ?_
  refine pg_newa (atype := .int) (ty := .int) (kd := 19) (t0 := 1) (N' := 5) hx hb (hts (.arrayClass .int) (by decide +kernel)) rfl rfl (Or.inl rfl) (by decide) hK hW hS hA (fun _ => rfl) (by decide) (by decide) (Nat.le_of_ble_eq_true rfl) (Nat.le_of_ble_eq_true rfl) (Nat.le_of_ble_eq_true rfl) dX9_init_269 (fun q335 H hq335 hW hS => ?_)
  have nqq335_hF : 20 ≤ sK S q335 := hF.new hq335
  obtain ⟨S336, eS336⟩ : ∃ T : St, T = stN S330 q335 19 5 := ⟨_, rfl⟩
  rw [← eS336] at hW
  have hG : Gx (q335 :: h :: ex) S336 := by rw [eS336]; exact hG.N hq335
  have w337 : sI S336 h 1 = 0 := by rw [eS336]; rw [iN, if_neg (fun e9 => by have := (hF.k hk (by decide)); rw [e9] at this; omega)]; exact w332
  have w338 : sI S336 h 18 = 0 := by rw [eS336]; rw [iN, if_neg (fun e9 => by have := (hF.k hk (by decide)); rw [e9] at this; omega)]; exact w333
  have w339 : sI S336 h 24 = 3 := by rw [eS336]; rw [iN, if_neg (fun e9 => by have := (hF.k hk (by decide)); rw [e9] at this; omega)]; exact w334
  have hF : Fr [h] [1100] S S336 := by rw [eS336]; exact hF.N hq335
  have hD : Dn [50, 49, 48, 47, 46, 45, 44, 43, 42, 41, 40, 39, 38, 37, 34, 33, 32, 31, 30, 29, 28, 27, 26, 10, 9, 8, 7, 6, 5, 0] S336 h 9 := by rw [eS336]; exact hD.F ((Fr.rf [] [] _).N hq335) hkh (by decide) List.not_mem_nil
  have hkh : sK S336 h = 9 := hF.k hk (by decide)
  have hE340 : Fr [h] [1100] S336 S336 := Fr.rf _ _ _
  have kq335 : sK S336 q335 = 19 := by rw [eS336, kN, if_pos rfl]
  have nq335 : sL S336 q335 = 5 := by rw [eS336, lNw, if_pos rfl]
  have hG : Gx (h :: ex) S336 := hG.pl kq335 rty_19
  clear eS336
  refine pg_pr (ci := 9) (C := RX9) (T := TX9) (N := 63) hx hb hts wi9 tyX9 tyX9_ok nmX9 hown hK hW hS (hF.k hk (by decide)) (by decide) rfl 51 (by decide) (hts (.fieldLink RX9 115 "IceHallModel" "best" "[I") (by decide +kernel)) (fun _ h9 => h9) rfl hnm rfl rfl rfl rfl dX9_init_271 (fun H locs hW hS => ?_)
  have kq342 : sK S336 h = 9 := (hF.k hk (by decide))
  have hbS341 := And.intro kq335 nq335
  obtain ⟨S341, eS341⟩ : ∃ T : St, T = stR S336 h 51 (some q335) := ⟨_, rfl⟩
  rw [← eS341] at hW
  have hD : Dn [51, 50, 49, 48, 47, 46, 45, 44, 43, 42, 41, 40, 39, 38, 37, 34, 33, 32, 31, 30, 29, 28, 27, 26, 10, 9, 8, 7, 6, 5, 0] S341 h 9 := by rw [eS341]; exact hD.R (fun kd n ht => by cases ht; exact hbS341)
  have hG : Gx (h :: ex) S341 := by rw [eS341]; exact hG.Rh List.mem_cons_self kq342 (by decide)
  have hF : Fr [h] [1100] S S341 := by rw [eS341]; exact hF.Rh List.mem_cons_self
  have hE340 : Fr [h] [1100] S336 S341 := by rw [eS341]; exact hE340.Rh List.mem_cons_self
  have hkh : sK S341 h = 9 := hF.k hk (by decide)
  have w343 : sI S341 h 1 = 0 := by rw [eS341]; exact w337
  have w344 : sI S341 h 18 = 0 := by rw [eS341]; exact w338
  have w345 : sI S341 h 24 = 3 := by rw [eS341]; exact w339
  clear eS341 hbS341
  clear hE340
  refine lv_aload_n hx hb dX9_init_274 rfl (lv_at hl 0 rfl) ?_
  refine lv_iconst (v := 5) hx hb dX9_init_275 (by decide) ?_
  refine pg_newa (atype := .int) (ty := .int) (kd := 18) (t0 := 1) (N' := 5) hx hb (hts (.arrayClass .int) (by decide +kernel)) rfl rfl (Or.inl rfl) (by decide) hK hW hS hA (fun _ => rfl) (by decide) (by decide) (Nat.le_of_ble_eq_true rfl) (Nat.le_of_ble_eq_true rfl) (Nat.le_of_ble_eq_true rfl) dX9_init_276 (fun q346 H hq346 hW hS => ?_)
  have nqq346_hF : 20 ≤ sK S q346 := hF.new hq346
  obtain ⟨S347, eS347⟩ : ∃ T : St, T = stN S341 q346 18 5 := ⟨_, rfl⟩
  rw [← eS347] at hW
  have hG : Gx (q346 :: h :: ex) S347 := by rw [eS347]; exact hG.N hq346
  have w348 : sI S347 h 1 = 0 := by rw [eS347]; rw [iN, if_neg (fun e9 => by have := (hF.k hk (by decide)); rw [e9] at this; omega)]; exact w343
  have w349 : sI S347 h 18 = 0 := by rw [eS347]; rw [iN, if_neg (fun e9 => by have := (hF.k hk (by decide)); rw [e9] at this; omega)]; exact w344
  have w350 : sI S347 h 24 = 3 := by rw [eS347]; rw [iN, if_neg (fun e9 => by have := (hF.k hk (by decide)); rw [e9] at this; omega)]; exact w345
  have hF : Fr [h] [1100] S S347 := by rw [eS347]; exact hF.N hq346
  have hD : Dn [51, 50, 49, 48, 47, 46, 45, 44, 43, 42, 41, 40, 39, 38, 37, 34, 33, 32, 31, 30, 29, 28, 27, 26, 10, 9, 8, 7, 6, 5, 0] S347 h 9 := by rw [eS347]; exact hD.F ((Fr.rf [] [] _).N hq346) hkh (by decide) List.not_mem_nil
  have hkh : sK S347 h = 9 := hF.k hk (by decide)
  have hE351 : Fr [h] [1100] S347 S347 := Fr.rf _ _ _
  have kq346 : sK S347 q346 = 18 := by rw [eS347, kN, if_pos rfl]
  have nq346 : sL S347 q346 = 5 := by rw [eS347, lNw, if_pos rfl]
  have hG : Gx (h :: ex) S347 := hG.pl kq346 rty_18
  clear eS347
  refine pg_pr (ci := 9) (C := RX9) (T := TX9) (N := 63) hx hb hts wi9 tyX9 tyX9_ok nmX9 hown hK hW hS (hF.k hk (by decide)) (by decide) rfl 52 (by decide) (hts (.fieldLink RX9 118 "IceHallModel" "wayHour" "[I") (by decide +kernel)) (fun _ h9 => h9) rfl hnm rfl rfl rfl rfl dX9_init_278 (fun H locs hW hS => ?_)
  have kq353 : sK S347 h = 9 := (hF.k hk (by decide))
  have hbS352 := And.intro kq346 nq346
  obtain ⟨S352, eS352⟩ : ∃ T : St, T = stR S347 h 52 (some q346) := ⟨_, rfl⟩
  rw [← eS352] at hW
  have hD : Dn [52, 51, 50, 49, 48, 47, 46, 45, 44, 43, 42, 41, 40, 39, 38, 37, 34, 33, 32, 31, 30, 29, 28, 27, 26, 10, 9, 8, 7, 6, 5, 0] S352 h 9 := by rw [eS352]; exact hD.R (fun kd n ht => by cases ht; exact hbS352)
  have hG : Gx (h :: ex) S352 := by rw [eS352]; exact hG.Rh List.mem_cons_self kq353 (by decide)
  have hF : Fr [h] [1100] S S352 := by rw [eS352]; exact hF.Rh List.mem_cons_self
  have hE351 : Fr [h] [1100] S347 S352 := by rw [eS352]; exact hE351.Rh List.mem_cons_self
  have hkh : sK S352 h = 9 := hF.k hk (by decide)
  have w354 : sI S352 h 1 = 0 := by rw [eS352]; exact w348
  have w355 : sI S352 h 18 = 0 := by rw [eS352]; exact w349
  have w356 : sI S352 h 24 = 3 := by rw [eS352]; exact w350
  clear eS352 hbS352
  clear hE351
  refine lv_aload_n hx hb dX9_init_281 rfl (lv_at hl 0 rfl) ?_
  refine lv_bipush (v := 8) hx hb dX9_init_282 (by decide) ?_
  refine pg_newa (atype := .int) (ty := .int) (kd := 11) (t0 := 1) (N' := 8) hx hb (hts (.arrayClass .int) (by decide +kernel)) rfl rfl (Or.inl rfl) (by decide) hK hW hS hA (fun _ => rfl) (by decide) (by decide) (Nat.le_of_ble_eq_true rfl) (Nat.le_of_ble_eq_true rfl) (Nat.le_of_ble_eq_true rfl) dX9_init_284 (fun q357 H hq357 hW hS => ?_)
  have nqq357_hF : 20 ≤ sK S q357 := hF.new hq357
  obtain ⟨S358, eS358⟩ : ∃ T : St, T = stN S352 q357 11 8 := ⟨_, rfl⟩
  rw [← eS358] at hW
  have hG : Gx (q357 :: h :: ex) S358 := by rw [eS358]; exact hG.N hq357
  have w359 : sI S358 h 1 = 0 := by rw [eS358]; rw [iN, if_neg (fun e9 => by have := (hF.k hk (by decide)); rw [e9] at this; omega)]; exact w354
  have w360 : sI S358 h 18 = 0 := by rw [eS358]; rw [iN, if_neg (fun e9 => by have := (hF.k hk (by decide)); rw [e9] at this; omega)]; exact w355
  have w361 : sI S358 h 24 = 3 := by rw [eS358]; rw [iN, if_neg (fun e9 => by have := (hF.k hk (by decide)); rw [e9] at this; omega)]; exact w356
  have hF : Fr [h] [1100] S S358 := by rw [eS358]; exact hF.N hq357
  have hD : Dn [52, 51, 50, 49, 48, 47, 46, 45, 44, 43, 42, 41, 40, 39, 38, 37, 34, 33, 32, 31, 30, 29, 28, 27, 26, 10, 9, 8, 7, 6, 5, 0] S358 h 9 := by rw [eS358]; exact hD.F ((Fr.rf [] [] _).N hq357) hkh (by decide) List.not_mem_nil
  have hkh : sK S358 h = 9 := hF.k hk (by decide)
  have hE362 : Fr [h] [1100] S358 S358 := Fr.rf _ _ _
  have kq357 : sK S358 q357 = 11 := by rw [eS358, kN, if_pos rfl]
  have nq357 : sL S358 q357 = 8 := by rw [eS358, lNw, if_pos rfl]
  have hG : Gx (h :: ex) S358 := hG.pl kq357 rty_11
  clear eS358
  refine pg_pr (ci := 9) (C := RX9) (T := TX9) (N := 63) hx hb hts wi9 tyX9 tyX9_ok nmX9 hown hK hW hS (hF.k hk (by decide)) (by decide) rfl 56 (by decide) (hts (.fieldLink RX9 121 "IceHallModel" "wants" "[I") (by decide +kernel)) (fun _ h9 => h9) rfl hnm rfl rfl rfl rfl dX9_init_286 (fun H locs hW hS => ?_)
  have kq364 : sK S358 h = 9 := (hF.k hk (by decide))
  have hbS363 := And.intro kq357 nq357
  obtain ⟨S363, eS363⟩ : ∃ T : St, T = stR S358 h 56 (some q357) := ⟨_, rfl⟩
  rw [← eS363] at hW
  have hD : Dn [56, 52, 51, 50, 49, 48, 47, 46, 45, 44, 43, 42, 41, 40, 39, 38, 37, 34, 33, 32, 31, 30, 29, 28, 27, 26, 10, 9, 8, 7, 6, 5, 0] S363 h 9 := by rw [eS363]; exact hD.R (fun kd n ht => by cases ht; exact hbS363)
  have hG : Gx (h :: ex) S363 := by rw [eS363]; exact hG.Rh List.mem_cons_self kq364 (by decide)
  have hF : Fr [h] [1100] S S363 := by rw [eS363]; exact hF.Rh List.mem_cons_self
  have hE362 : Fr [h] [1100] S358 S363 := by rw [eS363]; exact hE362.Rh List.mem_cons_self
  have hkh : sK S363 h = 9 := hF.k hk (by decide)
  have w365 : sI S363 h 1 = 0 := by rw [eS363]; exact w359
  have w366 : sI S363 h 18 = 0 := by rw [eS363]; exact w360
  have w367 : sI S363 h 24 = 3 := by rw [eS363]; exact w361
  clear eS363 hbS363
  clear hE362
  refine lv_aload_n hx hb dX9_init_289 rfl (lv_at hl 0 rfl) ?_
  refine lv_bipush (v := 8) hx hb dX9_init_290 (by decide) ?_
  refine pg_newa (atype := .int) (ty := .int) (kd := 11) (t0 := 1) (N' := 8) hx hb (hts (.arrayClass .int) (by decide +kernel)) rfl rfl (Or.inl rfl) (by decide) hK hW hS hA (fun _ => rfl) (by decide) (by decide) (Nat.le_of_ble_eq_true rfl) (Nat.le_of_ble_eq_true rfl) (Nat.le_of_ble_eq_true rfl) dX9_init_292 (fun q368 H hq368 hW hS => ?_)
  have nqq368_hF : 20 ≤ sK S q368 := hF.new hq368
  obtain ⟨S369, eS369⟩ : ∃ T : St, T = stN S363 q368 11 8 := ⟨_, rfl⟩
  rw [← eS369] at hW
  have hG : Gx (q368 :: h :: ex) S369 := by rw [eS369]; exact hG.N hq368
  have w370 : sI S369 h 1 = 0 := by rw [eS369]; rw [iN, if_neg (fun e9 => by have := (hF.k hk (by decide)); rw [e9] at this; omega)]; exact w365
  have w371 : sI S369 h 18 = 0 := by rw [eS369]; rw [iN, if_neg (fun e9 => by have := (hF.k hk (by decide)); rw [e9] at this; omega)]; exact w366
  have w372 : sI S369 h 24 = 3 := by rw [eS369]; rw [iN, if_neg (fun e9 => by have := (hF.k hk (by decide)); rw [e9] at this; omega)]; exact w367
  have hF : Fr [h] [1100] S S369 := by rw [eS369]; exact hF.N hq368
  have hD : Dn [56, 52, 51, 50, 49, 48, 47, 46, 45, 44, 43, 42, 41, 40, 39, 38, 37, 34, 33, 32, 31, 30, 29, 28, 27, 26, 10, 9, 8, 7, 6, 5, 0] S369 h 9 := by rw [eS369]; exact hD.F ((Fr.rf [] [] _).N hq368) hkh (by decide) List.not_mem_nil
  have hkh : sK S369 h = 9 := hF.k hk (by decide)
  have hE373 : Fr [h] [1100] S369 S369 := Fr.rf _ _ _
  have kq368 : sK S369 q368 = 11 := by rw [eS369, kN, if_pos rfl]
  have nq368 : sL S369 q368 = 8 := by rw [eS369, lNw, if_pos rfl]
  have hG : Gx (h :: ex) S369 := hG.pl kq368 rty_11
  clear eS369
  refine pg_pr (ci := 9) (C := RX9) (T := TX9) (N := 63) hx hb hts wi9 tyX9 tyX9_ok nmX9 hown hK hW hS (hF.k hk (by decide)) (by decide) rfl 57 (by decide) (hts (.fieldLink RX9 124 "IceHallModel" "row" "[I") (by decide +kernel)) (fun _ h9 => h9) rfl hnm rfl rfl rfl rfl dX9_init_294 (fun H locs hW hS => ?_)
  have kq375 : sK S369 h = 9 := (hF.k hk (by decide))
  have hbS374 := And.intro kq368 nq368
  obtain ⟨S374, eS374⟩ : ∃ T : St, T = stR S369 h 57 (some q368) := ⟨_, rfl⟩
  rw [← eS374] at hW
  have hD : Dn [57, 56, 52, 51, 50, 49, 48, 47, 46, 45, 44, 43, 42, 41, 40, 39, 38, 37, 34, 33, 32, 31, 30, 29, 28, 27, 26, 10, 9, 8, 7, 6, 5, 0] S374 h 9 := by rw [eS374]; exact hD.R (fun kd n ht => by cases ht; exact hbS374)
  have hG : Gx (h :: ex) S374 := by rw [eS374]; exact hG.Rh List.mem_cons_self kq375 (by decide)
  have hF : Fr [h] [1100] S S374 := by rw [eS374]; exact hF.Rh List.mem_cons_self
  have hE373 : Fr [h] [1100] S369 S374 := by rw [eS374]; exact hE373.Rh List.mem_cons_self
  have hkh : sK S374 h = 9 := hF.k hk (by decide)
  have w376 : sI S374 h 1 = 0 := by rw [eS374]; exact w370
  have w377 : sI S374 h 18 = 0 := by rw [eS374]; exact w371
  have w378 : sI S374 h 24 = 3 := by rw [eS374]; exact w372
  clear eS374 hbS374
  clear hE373
  refine lv_aload_n hx hb dX9_init_297 rfl (lv_at hl 0 rfl) ?_
  refine lv_bipush (v := 8) hx hb dX9_init_298 (by decide) ?_
  refine pg_newa (atype := .int) (ty := .int) (kd := 11) (t0 := 1) (N' := 8) hx hb (hts (.arrayClass .int) (by decide +kernel)) rfl rfl (Or.inl rfl) (by decide) hK hW hS hA (fun _ => rfl) (by decide) (by decide) (Nat.le_of_ble_eq_true rfl) (Nat.le_of_ble_eq_true rfl) (Nat.le_of_ble_eq_true rfl) dX9_init_300 (fun q379 H hq379 hW hS => ?_)
  have nqq379_hF : 20 ≤ sK S q379 := hF.new hq379
  obtain ⟨S380, eS380⟩ : ∃ T : St, T = stN S374 q379 11 8 := ⟨_, rfl⟩
  rw [← eS380] at hW
  have hG : Gx (q379 :: h :: ex) S380 := by rw [eS380]; exact hG.N hq379
  have w381 : sI S380 h 1 = 0 := by rw [eS380]; rw [iN, if_neg (fun e9 => by have := (hF.k hk (by decide)); rw [e9] at this; omega)]; exact w376
  have w382 : sI S380 h 18 = 0 := by rw [eS380]; rw [iN, if_neg (fun e9 => by have := (hF.k hk (by decide)); rw [e9] at this; omega)]; exact w377
  have w383 : sI S380 h 24 = 3 := by rw [eS380]; rw [iN, if_neg (fun e9 => by have := (hF.k hk (by decide)); rw [e9] at this; omega)]; exact w378
  have hF : Fr [h] [1100] S S380 := by rw [eS380]; exact hF.N hq379
  have hD : Dn [57, 56, 52, 51, 50, 49, 48, 47, 46, 45, 44, 43, 42, 41, 40, 39, 38, 37, 34, 33, 32, 31, 30, 29, 28, 27, 26, 10, 9, 8, 7, 6, 5, 0] S380 h 9 := by rw [eS380]; exact hD.F ((Fr.rf [] [] _).N hq379) hkh (by decide) List.not_mem_nil
  have hkh : sK S380 h = 9 := hF.k hk (by decide)
  have hE384 : Fr [h] [1100] S380 S380 := Fr.rf _ _ _
  have kq379 : sK S380 q379 = 11 := by rw [eS380, kN, if_pos rfl]
  have nq379 : sL S380 q379 = 8 := by rw [eS380, lNw, if_pos rfl]
  have hG : Gx (h :: ex) S380 := hG.pl kq379 rty_11
  clear eS380
  refine pg_pr (ci := 9) (C := RX9) (T := TX9) (N := 63) hx hb hts wi9 tyX9 tyX9_ok nmX9 hown hK hW hS (hF.k hk (by decide)) (by decide) rfl 58 (by decide) (hts (.fieldLink RX9 127 "IceHallModel" "bestRow" "[I") (by decide +kernel)) (fun _ h9 => h9) rfl hnm rfl rfl rfl rfl dX9_init_302 (fun H locs hW hS => ?_)
  have kq386 : sK S380 h = 9 := (hF.k hk (by decide))
  have hbS385 := And.intro kq379 nq379
  obtain ⟨S385, eS385⟩ : ∃ T : St, T = stR S380 h 58 (some q379) := ⟨_, rfl⟩
  rw [← eS385] at hW
  have hD : Dn [58, 57, 56, 52, 51, 50, 49, 48, 47, 46, 45, 44, 43, 42, 41, 40, 39, 38, 37, 34, 33, 32, 31, 30, 29, 28, 27, 26, 10, 9, 8, 7, 6, 5, 0] S385 h 9 := by rw [eS385]; exact hD.R (fun kd n ht => by cases ht; exact hbS385)
  have hG : Gx (h :: ex) S385 := by rw [eS385]; exact hG.Rh List.mem_cons_self kq386 (by decide)
  have hF : Fr [h] [1100] S S385 := by rw [eS385]; exact hF.Rh List.mem_cons_self
  have hE384 : Fr [h] [1100] S380 S385 := by rw [eS385]; exact hE384.Rh List.mem_cons_self
  have hkh : sK S385 h = 9 := hF.k hk (by decide)
  have w387 : sI S385 h 1 = 0 := by rw [eS385]; exact w381
  have w388 : sI S385 h 18 = 0 := by rw [eS385]; exact w382
  have w389 : sI S385 h 24 = 3 := by rw [eS385]; exact w383
  clear eS385 hbS385
  clear hE384
  refine lv_aload_n hx hb dX9_init_305 rfl (lv_at hl 0 rfl) ?_
  refine lv_bipush (v := 8) hx hb dX9_init_306 (by decide) ?_
  refine pg_newa (atype := .int) (ty := .int) (kd := 11) (t0 := 1) (N' := 8) hx hb (hts (.arrayClass .int) (by decide +kernel)) rfl rfl (Or.inl rfl) (by decide) hK hW hS hA (fun _ => rfl) (by decide) (by decide) (Nat.le_of_ble_eq_true rfl) (Nat.le_of_ble_eq_true rfl) (Nat.le_of_ble_eq_true rfl) dX9_init_308 (fun q390 H hq390 hW hS => ?_)
  have nqq390_hF : 20 ≤ sK S q390 := hF.new hq390
  obtain ⟨S391, eS391⟩ : ∃ T : St, T = stN S385 q390 11 8 := ⟨_, rfl⟩
  rw [← eS391] at hW
  have hG : Gx (q390 :: h :: ex) S391 := by rw [eS391]; exact hG.N hq390
  have w392 : sI S391 h 1 = 0 := by rw [eS391]; rw [iN, if_neg (fun e9 => by have := (hF.k hk (by decide)); rw [e9] at this; omega)]; exact w387
  have w393 : sI S391 h 18 = 0 := by rw [eS391]; rw [iN, if_neg (fun e9 => by have := (hF.k hk (by decide)); rw [e9] at this; omega)]; exact w388
  have w394 : sI S391 h 24 = 3 := by rw [eS391]; rw [iN, if_neg (fun e9 => by have := (hF.k hk (by decide)); rw [e9] at this; omega)]; exact w389
  have hF : Fr [h] [1100] S S391 := by rw [eS391]; exact hF.N hq390
  have hD : Dn [58, 57, 56, 52, 51, 50, 49, 48, 47, 46, 45, 44, 43, 42, 41, 40, 39, 38, 37, 34, 33, 32, 31, 30, 29, 28, 27, 26, 10, 9, 8, 7, 6, 5, 0] S391 h 9 := by rw [eS391]; exact hD.F ((Fr.rf [] [] _).N hq390) hkh (by decide) List.not_mem_nil
  have hkh : sK S391 h = 9 := hF.k hk (by decide)
  have hE395 : Fr [h] [1100] S391 S391 := Fr.rf _ _ _
  have kq390 : sK S391 q390 = 11 := by rw [eS391, kN, if_pos rfl]
  have nq390 : sL S391 q390 = 8 := by rw [eS391, lNw, if_pos rfl]
  have hG : Gx (h :: ex) S391 := hG.pl kq390 rty_11
  clear eS391
  refine pg_pr (ci := 9) (C := RX9) (T := TX9) (N := 63) hx hb hts wi9 tyX9 tyX9_ok nmX9 hown hK hW hS (hF.k hk (by decide)) (by decide) rfl 59 (by decide) (hts (.fieldLink RX9 130 "IceHallModel" "told" "[I") (by decide +kernel)) (fun _ h9 => h9) rfl hnm rfl rfl rfl rfl dX9_init_310 (fun H locs hW hS => ?_)
  have kq397 : sK S391 h = 9 := (hF.k hk (by decide))
  have hbS396 := And.intro kq390 nq390
  obtain ⟨S396, eS396⟩ : ∃ T : St, T = stR S391 h 59 (some q390) := ⟨_, rfl⟩
  rw [← eS396] at hW
  have hD : Dn [59, 58, 57, 56, 52, 51, 50, 49, 48, 47, 46, 45, 44, 43, 42, 41, 40, 39, 38, 37, 34, 33, 32, 31, 30, 29, 28, 27, 26, 10, 9, 8, 7, 6, 5, 0] S396 h 9 := by rw [eS396]; exact hD.R (fun kd n ht => by cases ht; exact hbS396)
  have hG : Gx (h :: ex) S396 := by rw [eS396]; exact hG.Rh List.mem_cons_self kq397 (by decide)
  have hF : Fr [h] [1100] S S396 := by rw [eS396]; exact hF.Rh List.mem_cons_self
  have hE395 : Fr [h] [1100] S391 S396 := by rw [eS396]; exact hE395.Rh List.mem_cons_self
  have hkh : sK S396 h = 9 := hF.k hk (by decide)
  have w398 : sI S396 h 1 = 0 := by rw [eS396]; exact w392
  have w399 : sI S396 h 18 = 0 := by rw [eS396]; exact w393
  have w400 : sI S396 h 24 = 3 := by rw [eS396]; exact w394
  clear eS396 hbS396
  clear hE395
  refine lv_aload_n hx hb dX9_init_313 rfl (lv_at hl 0 rfl) ?_
  refine lv_bipush (v := 6) hx hb dX9_init_314 (by decide) ?_
  refine pg_newa (atype := .int) (ty := .int) (kd := 11) (t0 := 1) (N' := 6) hx hb (hts (.arrayClass .int) (by decide +kernel)) rfl rfl (Or.inl rfl) (by decide) hK hW hS hA (fun _ => rfl) (by decide) (by decide) (Nat.le_of_ble_eq_true rfl) (Nat.le_of_ble_eq_true rfl) (Nat.le_of_ble_eq_true rfl) dX9_init_316 (fun q401 H hq401 hW hS => ?_)
  have nqq401_hF : 20 ≤ sK S q401 := hF.new hq401
  obtain ⟨S402, eS402⟩ : ∃ T : St, T = stN S396 q401 11 6 := ⟨_, rfl⟩
  rw [← eS402] at hW
  have hG : Gx (q401 :: h :: ex) S402 := by rw [eS402]; exact hG.N hq401
  have w403 : sI S402 h 1 = 0 := by rw [eS402]; rw [iN, if_neg (fun e9 => by have := (hF.k hk (by decide)); rw [e9] at this; omega)]; exact w398
  have w404 : sI S402 h 18 = 0 := by rw [eS402]; rw [iN, if_neg (fun e9 => by have := (hF.k hk (by decide)); rw [e9] at this; omega)]; exact w399
  have w405 : sI S402 h 24 = 3 := by rw [eS402]; rw [iN, if_neg (fun e9 => by have := (hF.k hk (by decide)); rw [e9] at this; omega)]; exact w400
  have hF : Fr [h] [1100] S S402 := by rw [eS402]; exact hF.N hq401
  have hD : Dn [59, 58, 57, 56, 52, 51, 50, 49, 48, 47, 46, 45, 44, 43, 42, 41, 40, 39, 38, 37, 34, 33, 32, 31, 30, 29, 28, 27, 26, 10, 9, 8, 7, 6, 5, 0] S402 h 9 := by rw [eS402]; exact hD.F ((Fr.rf [] [] _).N hq401) hkh (by decide) List.not_mem_nil
  have hkh : sK S402 h = 9 := hF.k hk (by decide)
  have hE406 : Fr [h] [1100] S402 S402 := Fr.rf _ _ _
  have kq401 : sK S402 q401 = 11 := by rw [eS402, kN, if_pos rfl]
  have nq401 : sL S402 q401 = 6 := by rw [eS402, lNw, if_pos rfl]
  have hG : Gx (h :: ex) S402 := hG.pl kq401 rty_11
  clear eS402
  refine pg_pr (ci := 9) (C := RX9) (T := TX9) (N := 63) hx hb hts wi9 tyX9 tyX9_ok nmX9 hown hK hW hS (hF.k hk (by decide)) (by decide) rfl 61 (by decide) (hts (.fieldLink RX9 133 "IceHallModel" "share" "[I") (by decide +kernel)) (fun _ h9 => h9) rfl hnm rfl rfl rfl rfl dX9_init_318 (fun H locs hW hS => ?_)
  have kq408 : sK S402 h = 9 := (hF.k hk (by decide))
  have hbS407 := And.intro kq401 nq401
  obtain ⟨S407, eS407⟩ : ∃ T : St, T = stR S402 h 61 (some q401) := ⟨_, rfl⟩
  rw [← eS407] at hW
  have hD : Dn [61, 59, 58, 57, 56, 52, 51, 50, 49, 48, 47, 46, 45, 44, 43, 42, 41, 40, 39, 38, 37, 34, 33, 32, 31, 30, 29, 28, 27, 26, 10, 9, 8, 7, 6, 5, 0] S407 h 9 := by rw [eS407]; exact hD.R (fun kd n ht => by cases ht; exact hbS407)
  have hG : Gx (h :: ex) S407 := by rw [eS407]; exact hG.Rh List.mem_cons_self kq408 (by decide)
  have hF : Fr [h] [1100] S S407 := by rw [eS407]; exact hF.Rh List.mem_cons_self
  have hE406 : Fr [h] [1100] S402 S407 := by rw [eS407]; exact hE406.Rh List.mem_cons_self
  have hkh : sK S407 h = 9 := hF.k hk (by decide)
  have w409 : sI S407 h 1 = 0 := by rw [eS407]; exact w403
  have w410 : sI S407 h 18 = 0 := by rw [eS407]; exact w404
  have w411 : sI S407 h 24 = 3 := by rw [eS407]; exact w405
  clear eS407 hbS407
  clear hE406
  refine lv_aload_n hx hb dX9_init_321 rfl (lv_at hl 0 rfl) ?_
  refine lv_bipush (v := 6) hx hb dX9_init_322 (by decide) ?_
  refine pg_newa (atype := .long) (ty := .long) (kd := 12) (t0 := 2) (N' := 6) hx hb (hts (.arrayClass .long) (by decide +kernel)) rfl rfl (Or.inr (Or.inr (Or.inr rfl))) (by decide) hK hW hS hA (fun _ => rfl) (by decide) (by decide) (Nat.le_of_ble_eq_true rfl) (Nat.le_of_ble_eq_true rfl) (Nat.le_of_ble_eq_true rfl) dX9_init_324 (fun q412 H hq412 hW hS => ?_)
  have nqq412_hF : 20 ≤ sK S q412 := hF.new hq412
  obtain ⟨S413, eS413⟩ : ∃ T : St, T = stN S407 q412 12 6 := ⟨_, rfl⟩
  rw [← eS413] at hW
  have hG : Gx (q412 :: h :: ex) S413 := by rw [eS413]; exact hG.N hq412
  have w414 : sI S413 h 1 = 0 := by rw [eS413]; rw [iN, if_neg (fun e9 => by have := (hF.k hk (by decide)); rw [e9] at this; omega)]; exact w409
  have w415 : sI S413 h 18 = 0 := by rw [eS413]; rw [iN, if_neg (fun e9 => by have := (hF.k hk (by decide)); rw [e9] at this; omega)]; exact w410
  have w416 : sI S413 h 24 = 3 := by rw [eS413]; rw [iN, if_neg (fun e9 => by have := (hF.k hk (by decide)); rw [e9] at this; omega)]; exact w411
  have hF : Fr [h] [1100] S S413 := by rw [eS413]; exact hF.N hq412
  have hD : Dn [61, 59, 58, 57, 56, 52, 51, 50, 49, 48, 47, 46, 45, 44, 43, 42, 41, 40, 39, 38, 37, 34, 33, 32, 31, 30, 29, 28, 27, 26, 10, 9, 8, 7, 6, 5, 0] S413 h 9 := by rw [eS413]; exact hD.F ((Fr.rf [] [] _).N hq412) hkh (by decide) List.not_mem_nil
  have hkh : sK S413 h = 9 := hF.k hk (by decide)
  have hE417 : Fr [h] [1100] S413 S413 := Fr.rf _ _ _
  have kq412 : sK S413 q412 = 12 := by rw [eS413, kN, if_pos rfl]
  have nq412 : sL S413 q412 = 6 := by rw [eS413, lNw, if_pos rfl]
  have hG : Gx (h :: ex) S413 := hG.pl kq412 rty_12
  clear eS413
  refine pg_pr (ci := 9) (C := RX9) (T := TX9) (N := 63) hx hb hts wi9 tyX9 tyX9_ok nmX9 hown hK hW hS (hF.k hk (by decide)) (by decide) rfl 62 (by decide) (hts (.fieldLink RX9 136 "IceHallModel" "over" "[J") (by decide +kernel)) (fun _ h9 => h9) rfl hnm rfl rfl rfl rfl dX9_init_326 (fun H locs hW hS => ?_)
  have kq419 : sK S413 h = 9 := (hF.k hk (by decide))
  have hbS418 := And.intro kq412 nq412
  obtain ⟨S418, eS418⟩ : ∃ T : St, T = stR S413 h 62 (some q412) := ⟨_, rfl⟩
  rw [← eS418] at hW
  have hD : Dn [62, 61, 59, 58, 57, 56, 52, 51, 50, 49, 48, 47, 46, 45, 44, 43, 42, 41, 40, 39, 38, 37, 34, 33, 32, 31, 30, 29, 28, 27, 26, 10, 9, 8, 7, 6, 5, 0] S418 h 9 := by rw [eS418]; exact hD.R (fun kd n ht => by cases ht; exact hbS418)
  have hG : Gx (h :: ex) S418 := by rw [eS418]; exact hG.Rh List.mem_cons_self kq419 (by decide)
  have hF : Fr [h] [1100] S S418 := by rw [eS418]; exact hF.Rh List.mem_cons_self
  have hE417 : Fr [h] [1100] S413 S418 := by rw [eS418]; exact hE417.Rh List.mem_cons_self
  have hkh : sK S418 h = 9 := hF.k hk (by decide)
  have w420 : sI S418 h 1 = 0 := by rw [eS418]; exact w414
  have w421 : sI S418 h 18 = 0 := by rw [eS418]; exact w415
  have w422 : sI S418 h 24 = 3 := by rw [eS418]; exact w416
  clear eS418 hbS418
  clear hE417
  refine lv_aload_n hx hb dX9_init_329 rfl (lv_at hl 0 rfl) ?_
  have hE424 : Fr [h] [1100] S418 S418 := Fr.rf _ _ _
  obtain ⟨b423, rb423, kb423, nb423⟩ := hD 27 (by decide) 11 2 rfl
  refine pg_gr (b := b423) (ci := 9) (C := RX9) (T := TX9) (N := 63) hx hb hts wi9 hown hK hW (hF.k hk (by decide)) (by decide) rfl 27 (by decide) (hts (.fieldLink RX9 48 "IceHallModel" "thick" "[I") (by decide +kernel)) (fun _ h9 => h9) rfl rb423 dX9_init_330 ?_
  refine lv_iconst (v := 0) hx hb dX9_init_333 (by decide) ?_
  refine lv_sipush (v := 300) hx hb dX9_init_334 (by decide) ?_
  refine pg_iast hx hb hK hW hS kb423 (by decide) (by rw [show sL S418 b423 = 2 from nb423]; exact vp_in_nI (n := 0) (by decide) (by decide)) dX9_init_337 (fun H locs hW hS => ?_)
  obtain ⟨S425, eS425⟩ : ∃ T : St, T = stI S418 b423 (Int32.toNatClampNeg 0) 300 := ⟨_, rfl⟩
  rw [← eS425] at hW
  have hG : Gx (h :: ex) S425 := by rw [eS425]; exact hG.I kb423 (ok_frA (by decide) (by decide))
  have w426 : sI S425 h 1 = 0 := by rw [eS425]; exact (iI_a (fk_ne (hF.k hk (by decide)) kb423 (by decide))).trans w420
  have w427 : sI S425 h 18 = 0 := by rw [eS425]; exact (iI_a (fk_ne (hF.k hk (by decide)) kb423 (by decide))).trans w421
  have w428 : sI S425 h 24 = 3 := by rw [eS425]; exact (iI_a (fk_ne (hF.k hk (by decide)) kb423 (by decide))).trans w422
  have hF : Fr [h] [1100] S S425 := by rw [eS425]; exact hF.IA kb423 (by decide) (by decide)
  have hE424 : Fr [h] [1100] S418 S425 := by rw [eS425]; exact hE424.IA kb423 (by decide) (by decide)
  have hD : Dn [62, 61, 59, 58, 57, 56, 52, 51, 50, 49, 48, 47, 46, 45, 44, 43, 42, 41, 40, 39, 38, 37, 34, 33, 32, 31, 30, 29, 28, 27, 26, 10, 9, 8, 7, 6, 5, 0] S425 h 9 := by rw [eS425]; exact hD
  have hkh : sK S425 h = 9 := hF.k hk (by decide)
  clear eS425
  refine lv_aload_n hx hb dX9_init_338 rfl (lv_at hl 0 rfl) ?_
  have hE430 : Fr [h] [1100] S425 S425 := Fr.rf _ _ _
  obtain ⟨b429, rb429, kb429, nb429⟩ := hD 27 (by decide) 11 2 rfl
  refine pg_gr (b := b429) (ci := 9) (C := RX9) (T := TX9) (N := 63) hx hb hts wi9 hown hK hW (hF.k hk (by decide)) (by decide) rfl 27 (by decide) (hts (.fieldLink RX9 48 "IceHallModel" "thick" "[I") (by decide +kernel)) (fun _ h9 => h9) rfl rb429 dX9_init_339 ?_
  refine lv_iconst (v := 1) hx hb dX9_init_342 (by decide) ?_
  refine lv_sipush (v := 300) hx hb dX9_init_343 (by decide) ?_
  refine pg_iast hx hb hK hW hS kb429 (by decide) (by rw [show sL S425 b429 = 2 from nb429]; exact vp_in_nI (n := 1) (by decide) (by decide)) dX9_init_346 (fun H locs hW hS => ?_)
  obtain ⟨S431, eS431⟩ : ∃ T : St, T = stI S425 b429 (Int32.toNatClampNeg 1) 300 := ⟨_, rfl⟩
  rw [← eS431] at hW
  have hG : Gx (h :: ex) S431 := by rw [eS431]; exact hG.I kb429 (ok_frA (by decide) (by decide))
  have w432 : sI S431 h 1 = 0 := by rw [eS431]; exact (iI_a (fk_ne (hF.k hk (by decide)) kb429 (by decide))).trans w426
  have w433 : sI S431 h 18 = 0 := by rw [eS431]; exact (iI_a (fk_ne (hF.k hk (by decide)) kb429 (by decide))).trans w427
  have w434 : sI S431 h 24 = 3 := by rw [eS431]; exact (iI_a (fk_ne (hF.k hk (by decide)) kb429 (by decide))).trans w428
  have hF : Fr [h] [1100] S S431 := by rw [eS431]; exact hF.IA kb429 (by decide) (by decide)
  have hE424 : Fr [h] [1100] S418 S431 := by rw [eS431]; exact hE424.IA kb429 (by decide) (by decide)
  have hE430 : Fr [h] [1100] S425 S431 := by rw [eS431]; exact hE430.IA kb429 (by decide) (by decide)
  have hD : Dn [62, 61, 59, 58, 57, 56, 52, 51, 50, 49, 48, 47, 46, 45, 44, 43, 42, 41, 40, 39, 38, 37, 34, 33, 32, 31, 30, 29, 28, 27, 26, 10, 9, 8, 7, 6, 5, 0] S431 h 9 := by rw [eS431]; exact hD
  have hkh : sK S431 h = 9 := hF.k hk (by decide)
  clear eS431
  refine lv_iconst (v := 0) hx hb dX9_init_347 (by decide) ?_
  refine lv_istore_n (lv' := [(1, .int 0), (0, .ref h)]) hx hb dX9_init_348 rfl hl (by decide) rfl (fun ls hl => ?_)
  have hE435 : Fr [h] [1100] S431 S431 := Fr.rf _ _ _
  have loop349 : ∀ (zn : Nat) (y : Int32) (L349 : St) (H : Heap) (locs : List Loc) (ls : Array Slot), (Gx (h :: ex) L349) → (Fr [h] [1100] S431 L349) → (Dn [62, 61, 59, 58, 57, 56, 52, 51, 50, 49, 48, 47, 46, 45, 44, 43, 42, 41, 40, 39, 38, 37, 34, 33, 32, 31, 30, 29, 28, 27, 26, 10, 9, 8, 7, 6, 5, 0] L349 h 9) → (0 ≤ y.toInt) → (sI L349 h 1 = 0) → (sI L349 h 18 = 0) → (sI L349 h 24 = 3) → (24 - y.toInt).toNat < zn → PW D cy A L349 H → va_S A s.heap H locs → lv_has ls 2 [(0, .ref h), (1, .int y)] → W p l e ({ frames := 1, cells := 38, slots := 2050, locals := 60 } : Room) s m args below meth c H locs 38 2050 (MQ below (va_Qv (fun S1 => Gx ex S1 ∧ Fr [h] [1100] S S1 ∧ (sI S1 h 1 = 0 ∧ sI S1 h 18 = 0 ∧ sI S1 h 24 = 3)) (PU D cy A) A) args s 38 2050 A) (F0 m 349 ls []) := by
    intro zn
    induction zn with
    | zero => intros; exact absurd (by assumption) (Nat.not_lt_zero _)
    | succ zn ih349 =>
      intro y L349 H locs ls hG hL349 hD hy0 z1_L349 z18_L349 z24_L349 hme349 hW hS hl
      have hF : Fr [h] [1100] S L349 := hF.tr hL349
      have hE424 : Fr [h] [1100] S418 L349 := hE424.tr hL349
      have hE430 : Fr [h] [1100] S425 L349 := hE430.tr hL349
      have hE435 := hL349
      have hkh : sK L349 h = 9 := hF.k hk (by decide)
      refine lv_iload_n hx hb dX9_init_349 rfl (lv_at hl 1 rfl) ?_
      refine lv_bipush (v := 24) hx hb dX9_init_350 (by decide) ?_
      refine lv_icmp_ge (tgt := 369) hx hb dX9_init_352 (by decide) (fun c436 => ?_) (fun c436 => ?_)
      · have c436i : (24 : Int) ≤ Int32.toInt y := (i3_le _ _).mp c436
        refine lv_iconst (v := 0) hx hb dX9_init_369 (by decide) ?_
        refine lv_istore_n (lv' := [(1, .int 0), (0, .ref h)]) hx hb dX9_init_370 rfl hl (by decide) rfl (fun ls hl => ?_)
        have hE437 : Fr [h] [1100] L349 L349 := Fr.rf _ _ _
        have loop371 : ∀ (zn : Nat) (y : Int32) (L371 : St) (H : Heap) (locs : List Loc) (ls : Array Slot), (Gx (h :: ex) L371) → (Fr [h] [1100] L349 L371) → (Dn [62, 61, 59, 58, 57, 56, 52, 51, 50, 49, 48, 47, 46, 45, 44, 43, 42, 41, 40, 39, 38, 37, 34, 33, 32, 31, 30, 29, 28, 27, 26, 10, 9, 8, 7, 6, 5, 0] L371 h 9) → (0 ≤ y.toInt) → (sI L371 h 1 = 0) → (sI L371 h 18 = 0) → (sI L371 h 24 = 3) → (6 - y.toInt).toNat < zn → PW D cy A L371 H → va_S A s.heap H locs → lv_has ls 2 [(0, .ref h), (1, .int y)] → W p l e ({ frames := 1, cells := 38, slots := 2050, locals := 60 } : Room) s m args below meth c H locs 38 2050 (MQ below (va_Qv (fun S1 => Gx ex S1 ∧ Fr [h] [1100] S S1 ∧ (sI S1 h 1 = 0 ∧ sI S1 h 18 = 0 ∧ sI S1 h 24 = 3)) (PU D cy A) A) args s 38 2050 A) (F0 m 371 ls []) := by
          intro zn
          induction zn with
          | zero => intros; exact absurd (by assumption) (Nat.not_lt_zero _)
          | succ zn ih371 =>
            intro y L371 H locs ls hG hL371 hD hy0 z1_L371 z18_L371 z24_L371 hme371 hW hS hl
            have hF : Fr [h] [1100] S L371 := hF.tr hL371
            have hE424 : Fr [h] [1100] S418 L371 := hE424.tr hL371
            have hE430 : Fr [h] [1100] S425 L371 := hE430.tr hL371
            have hE435 : Fr [h] [1100] S431 L371 := hE435.tr hL371
            have hE437 := hL371
            have hkh : sK L371 h = 9 := hF.k hk (by decide)
            refine lv_iload_n hx hb dX9_init_371 rfl (lv_at hl 1 rfl) ?_
            refine lv_bipush (v := 6) hx hb dX9_init_372 (by decide) ?_
            refine lv_icmp_ge (tgt := 432) hx hb dX9_init_374 (by decide) (fun c438 => ?_) (fun c438 => ?_)
            · have c438i : (6 : Int) ≤ Int32.toInt y := (i3_le _ _).mp c438
              exact pc_vret (S := L371) hx hb hr hlk hK hZ hA hW hS (⟨hG.done (hF.k hk (by decide)) hD (rtk (by decide)), hF, ⟨z1_L371, z18_L371, z24_L371⟩⟩) dX9_init_432
            · have c438i : ¬ ((6 : Int) ≤ Int32.toInt y) := fun h9 => c438 ((i3_le _ _).mpr h9)
              refine lv_aload_n hx hb dX9_init_377 rfl (lv_at hl 0 rfl) ?_
              have hE440 : Fr [h] [1100] L371 L371 := Fr.rf _ _ _
              obtain ⟨b439, rb439, kb439, nb439⟩ := hD 5 (by decide) 11 6 rfl
              refine pg_gr (b := b439) (ci := 9) (C := RX9) (T := TX9) (N := 63) hx hb hts wi9 hown hK hW (hF.k hk (by decide)) (by decide) rfl 5 (by decide) (hts (.fieldLink RX9 13 "IceHallModel" "clocks" "[I") (by decide +kernel)) (fun _ h9 => h9) rfl rb439 dX9_init_378 ?_
              refine lv_iload_n hx hb dX9_init_381 rfl (lv_at hl 1 rfl) ?_
              refine lv_ldc (v := (16777215)) hx hb hown (hts (.constant RX9 140 (16777215)) (by decide +kernel)) dX9_init_382 ?_
              refine pg_iast hx hb hK hW hS kb439 (by decide) (by rw [show sL L371 b439 = 6 from nb439]; exact r_in (by omega)) dX9_init_384 (fun H locs hW hS => ?_)
              obtain ⟨S441, eS441⟩ : ∃ T : St, T = stI L371 b439 (Int32.toNatClampNeg y) ((16777215)) := ⟨_, rfl⟩
              rw [← eS441] at hW
              have hG : Gx (h :: ex) S441 := by rw [eS441]; exact hG.I kb439 (ok_frA (by decide) (by decide))
              have w442 : sI S441 h 1 = 0 := by rw [eS441]; exact (iI_a (fk_ne (hF.k hk (by decide)) kb439 (by decide))).trans z1_L371
              have w443 : sI S441 h 18 = 0 := by rw [eS441]; exact (iI_a (fk_ne (hF.k hk (by decide)) kb439 (by decide))).trans z18_L371
              have w444 : sI S441 h 24 = 3 := by rw [eS441]; exact (iI_a (fk_ne (hF.k hk (by decide)) kb439 (by decide))).trans z24_L371
              have hF : Fr [h] [1100] S S441 := by rw [eS441]; exact hF.IA kb439 (by decide) (by decide)
              have hE424 : Fr [h] [1100] S418 S441 := by rw [eS441]; exact hE424.IA kb439 (by decide) (by decide)
              have hE430 : Fr [h] [1100] S425 S441 := by rw [eS441]; exact hE430.IA kb439 (by decide) (by decide)
              have hE435 : Fr [h] [1100] S431 S441 := by rw [eS441]; exact hE435.IA kb439 (by decide) (by decide)
              have hE437 : Fr [h] [1100] L349 S441 := by rw [eS441]; exact hE437.IA kb439 (by decide) (by decide)
              have hE440 : Fr [h] [1100] L371 S441 := by rw [eS441]; exact hE440.IA kb439 (by decide) (by decide)
              have hD : Dn [62, 61, 59, 58, 57, 56, 52, 51, 50, 49, 48, 47, 46, 45, 44, 43, 42, 41, 40, 39, 38, 37, 34, 33, 32, 31, 30, 29, 28, 27, 26, 10, 9, 8, 7, 6, 5, 0] S441 h 9 := by rw [eS441]; exact hD
              have hkh : sK S441 h = 9 := hF.k hk (by decide)
              clear eS441
              refine lv_aload_n hx hb dX9_init_385 rfl (lv_at hl 0 rfl) ?_
              have hE446 : Fr [h] [1100] S441 S441 := Fr.rf _ _ _
              obtain ⟨b445, rb445, kb445, nb445⟩ := hD 6 (by decide) 11 6 rfl
              refine pg_gr (b := b445) (ci := 9) (C := RX9) (T := TX9) (N := 63) hx hb hts wi9 hown hK hW (hF.k hk (by decide)) (by decide) rfl 6 (by decide) (hts (.fieldLink RX9 17 "IceHallModel" "daysOf" "[I") (by decide +kernel)) (fun _ h9 => h9) rfl rb445 dX9_init_386 ?_
              refine lv_iload_n hx hb dX9_init_389 rfl (lv_at hl 1 rfl) ?_
              refine lv_bipush (v := 127) hx hb dX9_init_390 (by decide) ?_
              refine pg_iast hx hb hK hW hS kb445 (by decide) (by rw [show sL S441 b445 = 6 from nb445]; exact r_in (by omega)) dX9_init_392 (fun H locs hW hS => ?_)
              obtain ⟨S447, eS447⟩ : ∃ T : St, T = stI S441 b445 (Int32.toNatClampNeg y) 127 := ⟨_, rfl⟩
              rw [← eS447] at hW
              have hG : Gx (h :: ex) S447 := by rw [eS447]; exact hG.I kb445 (ok_frA (by decide) (by decide))
              have w448 : sI S447 h 1 = 0 := by rw [eS447]; exact (iI_a (fk_ne (hF.k hk (by decide)) kb445 (by decide))).trans w442
              have w449 : sI S447 h 18 = 0 := by rw [eS447]; exact (iI_a (fk_ne (hF.k hk (by decide)) kb445 (by decide))).trans w443
              have w450 : sI S447 h 24 = 3 := by rw [eS447]; exact (iI_a (fk_ne (hF.k hk (by decide)) kb445 (by decide))).trans w444
              have hF : Fr [h] [1100] S S447 := by rw [eS447]; exact hF.IA kb445 (by decide) (by decide)
              have hE424 : Fr [h] [1100] S418 S447 := by rw [eS447]; exact hE424.IA kb445 (by decide) (by decide)
              have hE430 : Fr [h] [1100] S425 S447 := by rw [eS447]; exact hE430.IA kb445 (by decide) (by decide)
              have hE435 : Fr [h] [1100] S431 S447 := by rw [eS447]; exact hE435.IA kb445 (by decide) (by decide)
              have hE437 : Fr [h] [1100] L349 S447 := by rw [eS447]; exact hE437.IA kb445 (by decide) (by decide)
              have hE440 : Fr [h] [1100] L371 S447 := by rw [eS447]; exact hE440.IA kb445 (by decide) (by decide)
              have hE446 : Fr [h] [1100] S441 S447 := by rw [eS447]; exact hE446.IA kb445 (by decide) (by decide)
              have hD : Dn [62, 61, 59, 58, 57, 56, 52, 51, 50, 49, 48, 47, 46, 45, 44, 43, 42, 41, 40, 39, 38, 37, 34, 33, 32, 31, 30, 29, 28, 27, 26, 10, 9, 8, 7, 6, 5, 0] S447 h 9 := by rw [eS447]; exact hD
              have hkh : sK S447 h = 9 := hF.k hk (by decide)
              clear eS447
              refine lv_aload_n hx hb dX9_init_393 rfl (lv_at hl 0 rfl) ?_
              have hE452 : Fr [h] [1100] S447 S447 := Fr.rf _ _ _
              obtain ⟨b451, rb451, kb451, nb451⟩ := hD 7 (by decide) 11 6 rfl
              refine pg_gr (b := b451) (ci := 9) (C := RX9) (T := TX9) (N := 63) hx hb hts wi9 hown hK hW (hF.k hk (by decide)) (by decide) rfl 7 (by decide) (hts (.fieldLink RX9 20 "IceHallModel" "kinds" "[I") (by decide +kernel)) (fun _ h9 => h9) rfl rb451 dX9_init_394 ?_
              refine lv_iload_n hx hb dX9_init_397 rfl (lv_at hl 1 rfl) ?_
              refine lv_bipush (v := 15) hx hb dX9_init_398 (by decide) ?_
              refine pg_iast hx hb hK hW hS kb451 (by decide) (by rw [show sL S447 b451 = 6 from nb451]; exact r_in (by omega)) dX9_init_400 (fun H locs hW hS => ?_)
              obtain ⟨S453, eS453⟩ : ∃ T : St, T = stI S447 b451 (Int32.toNatClampNeg y) 15 := ⟨_, rfl⟩
              rw [← eS453] at hW
              have hG : Gx (h :: ex) S453 := by rw [eS453]; exact hG.I kb451 (ok_frA (by decide) (by decide))
              have w454 : sI S453 h 1 = 0 := by rw [eS453]; exact (iI_a (fk_ne (hF.k hk (by decide)) kb451 (by decide))).trans w448
              have w455 : sI S453 h 18 = 0 := by rw [eS453]; exact (iI_a (fk_ne (hF.k hk (by decide)) kb451 (by decide))).trans w449
              have w456 : sI S453 h 24 = 3 := by rw [eS453]; exact (iI_a (fk_ne (hF.k hk (by decide)) kb451 (by decide))).trans w450
              have hF : Fr [h] [1100] S S453 := by rw [eS453]; exact hF.IA kb451 (by decide) (by decide)
              have hE424 : Fr [h] [1100] S418 S453 := by rw [eS453]; exact hE424.IA kb451 (by decide) (by decide)
              have hE430 : Fr [h] [1100] S425 S453 := by rw [eS453]; exact hE430.IA kb451 (by decide) (by decide)
              have hE435 : Fr [h] [1100] S431 S453 := by rw [eS453]; exact hE435.IA kb451 (by decide) (by decide)
              have hE437 : Fr [h] [1100] L349 S453 := by rw [eS453]; exact hE437.IA kb451 (by decide) (by decide)
              have hE440 : Fr [h] [1100] L371 S453 := by rw [eS453]; exact hE440.IA kb451 (by decide) (by decide)
              have hE446 : Fr [h] [1100] S441 S453 := by rw [eS453]; exact hE446.IA kb451 (by decide) (by decide)
              have hE452 : Fr [h] [1100] S447 S453 := by rw [eS453]; exact hE452.IA kb451 (by decide) (by decide)
              have hD : Dn [62, 61, 59, 58, 57, 56, 52, 51, 50, 49, 48, 47, 46, 45, 44, 43, 42, 41, 40, 39, 38, 37, 34, 33, 32, 31, 30, 29, 28, 27, 26, 10, 9, 8, 7, 6, 5, 0] S453 h 9 := by rw [eS453]; exact hD
              have hkh : sK S453 h = 9 := hF.k hk (by decide)
              clear eS453
              refine lv_aload_n hx hb dX9_init_401 rfl (lv_at hl 0 rfl) ?_
              have hE458 : Fr [h] [1100] S453 S453 := Fr.rf _ _ _
              obtain ⟨b457, rb457, kb457, nb457⟩ := hD 8 (by decide) 11 6 rfl
              refine pg_gr (b := b457) (ci := 9) (C := RX9) (T := TX9) (N := 63) hx hb hts wi9 hown hK hW (hF.k hk (by decide)) (by decide) rfl 8 (by decide) (hts (.fieldLink RX9 23 "IceHallModel" "limit" "[I") (by decide +kernel)) (fun _ h9 => h9) rfl rb457 dX9_init_402 ?_
              refine lv_iload_n hx hb dX9_init_405 rfl (lv_at hl 1 rfl) ?_
              refine lv_sipush (v := 168) hx hb dX9_init_406 (by decide) ?_
              refine pg_iast hx hb hK hW hS kb457 (by decide) (by rw [show sL S453 b457 = 6 from nb457]; exact r_in (by omega)) dX9_init_409 (fun H locs hW hS => ?_)
              obtain ⟨S459, eS459⟩ : ∃ T : St, T = stI S453 b457 (Int32.toNatClampNeg y) 168 := ⟨_, rfl⟩
              rw [← eS459] at hW
              have hG : Gx (h :: ex) S459 := by rw [eS459]; exact hG.I kb457 (ok_frA (by decide) (by decide))
              have w460 : sI S459 h 1 = 0 := by rw [eS459]; exact (iI_a (fk_ne (hF.k hk (by decide)) kb457 (by decide))).trans w454
              have w461 : sI S459 h 18 = 0 := by rw [eS459]; exact (iI_a (fk_ne (hF.k hk (by decide)) kb457 (by decide))).trans w455
              have w462 : sI S459 h 24 = 3 := by rw [eS459]; exact (iI_a (fk_ne (hF.k hk (by decide)) kb457 (by decide))).trans w456
              have hF : Fr [h] [1100] S S459 := by rw [eS459]; exact hF.IA kb457 (by decide) (by decide)
              have hE424 : Fr [h] [1100] S418 S459 := by rw [eS459]; exact hE424.IA kb457 (by decide) (by decide)
              have hE430 : Fr [h] [1100] S425 S459 := by rw [eS459]; exact hE430.IA kb457 (by decide) (by decide)
              have hE435 : Fr [h] [1100] S431 S459 := by rw [eS459]; exact hE435.IA kb457 (by decide) (by decide)
              have hE437 : Fr [h] [1100] L349 S459 := by rw [eS459]; exact hE437.IA kb457 (by decide) (by decide)
              have hE440 : Fr [h] [1100] L371 S459 := by rw [eS459]; exact hE440.IA kb457 (by decide) (by decide)
              have hE446 : Fr [h] [1100] S441 S459 := by rw [eS459]; exact hE446.IA kb457 (by decide) (by decide)
              have hE452 : Fr [h] [1100] S447 S459 := by rw [eS459]; exact hE452.IA kb457 (by decide) (by decide)
              have hE458 : Fr [h] [1100] S453 S459 := by rw [eS459]; exact hE458.IA kb457 (by decide) (by decide)
              have hD : Dn [62, 61, 59, 58, 57, 56, 52, 51, 50, 49, 48, 47, 46, 45, 44, 43, 42, 41, 40, 39, 38, 37, 34, 33, 32, 31, 30, 29, 28, 27, 26, 10, 9, 8, 7, 6, 5, 0] S459 h 9 := by rw [eS459]; exact hD
              have hkh : sK S459 h = 9 := hF.k hk (by decide)
              clear eS459
              refine lv_aload_n hx hb dX9_init_410 rfl (lv_at hl 0 rfl) ?_
              have hE464 : Fr [h] [1100] S459 S459 := Fr.rf _ _ _
              obtain ⟨b463, rb463, kb463, nb463⟩ := hD 9 (by decide) 11 6 rfl
              refine pg_gr (b := b463) (ci := 9) (C := RX9) (T := TX9) (N := 63) hx hb hts wi9 hown hK hW (hF.k hk (by decide)) (by decide) rfl 9 (by decide) (hts (.fieldLink RX9 26 "IceHallModel" "fee" "[I") (by decide +kernel)) (fun _ h9 => h9) rfl rb463 dX9_init_411 ?_
              refine lv_iload_n hx hb dX9_init_414 rfl (lv_at hl 1 rfl) ?_
              refine lv_bipush (v := 100) hx hb dX9_init_415 (by decide) ?_
              refine pg_iast hx hb hK hW hS kb463 (by decide) (by rw [show sL S459 b463 = 6 from nb463]; exact r_in (by omega)) dX9_init_417 (fun H locs hW hS => ?_)
              obtain ⟨S465, eS465⟩ : ∃ T : St, T = stI S459 b463 (Int32.toNatClampNeg y) 100 := ⟨_, rfl⟩
              rw [← eS465] at hW
              have hG : Gx (h :: ex) S465 := by rw [eS465]; exact hG.I kb463 (ok_frA (by decide) (by decide))
              have w466 : sI S465 h 1 = 0 := by rw [eS465]; exact (iI_a (fk_ne (hF.k hk (by decide)) kb463 (by decide))).trans w460
              have w467 : sI S465 h 18 = 0 := by rw [eS465]; exact (iI_a (fk_ne (hF.k hk (by decide)) kb463 (by decide))).trans w461
              have w468 : sI S465 h 24 = 3 := by rw [eS465]; exact (iI_a (fk_ne (hF.k hk (by decide)) kb463 (by decide))).trans w462
              have hF : Fr [h] [1100] S S465 := by rw [eS465]; exact hF.IA kb463 (by decide) (by decide)
              have hE424 : Fr [h] [1100] S418 S465 := by rw [eS465]; exact hE424.IA kb463 (by decide) (by decide)
              have hE430 : Fr [h] [1100] S425 S465 := by rw [eS465]; exact hE430.IA kb463 (by decide) (by decide)
              have hE435 : Fr [h] [1100] S431 S465 := by rw [eS465]; exact hE435.IA kb463 (by decide) (by decide)
              have hE437 : Fr [h] [1100] L349 S465 := by rw [eS465]; exact hE437.IA kb463 (by decide) (by decide)
              have hE440 : Fr [h] [1100] L371 S465 := by rw [eS465]; exact hE440.IA kb463 (by decide) (by decide)
              have hE446 : Fr [h] [1100] S441 S465 := by rw [eS465]; exact hE446.IA kb463 (by decide) (by decide)
              have hE452 : Fr [h] [1100] S447 S465 := by rw [eS465]; exact hE452.IA kb463 (by decide) (by decide)
              have hE458 : Fr [h] [1100] S453 S465 := by rw [eS465]; exact hE458.IA kb463 (by decide) (by decide)
              have hE464 : Fr [h] [1100] S459 S465 := by rw [eS465]; exact hE464.IA kb463 (by decide) (by decide)
              have hD : Dn [62, 61, 59, 58, 57, 56, 52, 51, 50, 49, 48, 47, 46, 45, 44, 43, 42, 41, 40, 39, 38, 37, 34, 33, 32, 31, 30, 29, 28, 27, 26, 10, 9, 8, 7, 6, 5, 0] S465 h 9 := by rw [eS465]; exact hD
              have hkh : sK S465 h = 9 := hF.k hk (by decide)
              clear eS465
              refine lv_aload_n hx hb dX9_init_418 rfl (lv_at hl 0 rfl) ?_
              have hE470 : Fr [h] [1100] S465 S465 := Fr.rf _ _ _
              obtain ⟨b469, rb469, kb469, nb469⟩ := hD 10 (by decide) 11 6 rfl
              refine pg_gr (b := b469) (ci := 9) (C := RX9) (T := TX9) (N := 63) hx hb hts wi9 hown hK hW (hF.k hk (by decide)) (by decide) rfl 10 (by decide) (hts (.fieldLink RX9 29 "IceHallModel" "hundredths" "[I") (by decide +kernel)) (fun _ h9 => h9) rfl rb469 dX9_init_419 ?_
              refine lv_iload_n hx hb dX9_init_422 rfl (lv_at hl 1 rfl) ?_
              refine lv_bipush (v := 50) hx hb dX9_init_423 (by decide) ?_
              refine pg_iast hx hb hK hW hS kb469 (by decide) (by rw [show sL S465 b469 = 6 from nb469]; exact r_in (by omega)) dX9_init_425 (fun H locs hW hS => ?_)
              obtain ⟨S471, eS471⟩ : ∃ T : St, T = stI S465 b469 (Int32.toNatClampNeg y) 50 := ⟨_, rfl⟩
              rw [← eS471] at hW
              have hG : Gx (h :: ex) S471 := by rw [eS471]; exact hG.I kb469 (ok_frA (by decide) (by decide))
              have w472 : sI S471 h 1 = 0 := by rw [eS471]; exact (iI_a (fk_ne (hF.k hk (by decide)) kb469 (by decide))).trans w466
              have w473 : sI S471 h 18 = 0 := by rw [eS471]; exact (iI_a (fk_ne (hF.k hk (by decide)) kb469 (by decide))).trans w467
              have w474 : sI S471 h 24 = 3 := by rw [eS471]; exact (iI_a (fk_ne (hF.k hk (by decide)) kb469 (by decide))).trans w468
              have hF : Fr [h] [1100] S S471 := by rw [eS471]; exact hF.IA kb469 (by decide) (by decide)
              have hE424 : Fr [h] [1100] S418 S471 := by rw [eS471]; exact hE424.IA kb469 (by decide) (by decide)
              have hE430 : Fr [h] [1100] S425 S471 := by rw [eS471]; exact hE430.IA kb469 (by decide) (by decide)
              have hE435 : Fr [h] [1100] S431 S471 := by rw [eS471]; exact hE435.IA kb469 (by decide) (by decide)
              have hE437 : Fr [h] [1100] L349 S471 := by rw [eS471]; exact hE437.IA kb469 (by decide) (by decide)
              have hE440 : Fr [h] [1100] L371 S471 := by rw [eS471]; exact hE440.IA kb469 (by decide) (by decide)
              have hE446 : Fr [h] [1100] S441 S471 := by rw [eS471]; exact hE446.IA kb469 (by decide) (by decide)
              have hE452 : Fr [h] [1100] S447 S471 := by rw [eS471]; exact hE452.IA kb469 (by decide) (by decide)
              have hE458 : Fr [h] [1100] S453 S471 := by rw [eS471]; exact hE458.IA kb469 (by decide) (by decide)
              have hE464 : Fr [h] [1100] S459 S471 := by rw [eS471]; exact hE464.IA kb469 (by decide) (by decide)
              have hE470 : Fr [h] [1100] S465 S471 := by rw [eS471]; exact hE470.IA kb469 (by decide) (by decide)
              have hD : Dn [62, 61, 59, 58, 57, 56, 52, 51, 50, 49, 48, 47, 46, 45, 44, 43, 42, 41, 40, 39, 38, 37, 34, 33, 32, 31, 30, 29, 28, 27, 26, 10, 9, 8, 7, 6, 5, 0] S471 h 9 := by rw [eS471]; exact hD
              have hkh : sK S471 h = 9 := hF.k hk (by decide)
              clear eS471
              refine lv_iinc (v := y + 1) (lv' := [(1, .int (y + 1)), (0, .ref h)]) hx hb dX9_init_426 hl (k := 1) rfl rfl (by decide) rfl (fun ls hl => ?_)
              have i475 : (y + 1).toInt = (y).toInt + 1 := i3_add rfl rfl (by omega) (by omega)
              refine lv_goto (tgt := 371) hx hb dX9_init_429 (by decide) ?_
              exact ih371 (y + 1) S471 _ _ ls hG hE437 hD (by omega) (w472) (w473) (w474) (by omega) hW hS (lv_cast (lv_sub hl [1, 0] rfl) (rfl))
        exact loop371 _ 0 L349 _ _ ls hG hE437 hD (by decide) (z1_L349) (z18_L349) (z24_L349) (Nat.lt_succ_self _) hW hS (lv_cast (lv_sub hl [1, 0] rfl) (rfl))
      · have c436i : ¬ ((24 : Int) ≤ Int32.toInt y) := fun h9 => c436 ((i3_le _ _).mpr h9)
        refine lv_aload_n hx hb dX9_init_355 rfl (lv_at hl 0 rfl) ?_
        have hE477 : Fr [h] [1100] L349 L349 := Fr.rf _ _ _
        obtain ⟨b476, rb476, kb476, nb476⟩ := hD 26 (by decide) 11 24 rfl
        refine pg_gr (b := b476) (ci := 9) (C := RX9) (T := TX9) (N := 63) hx hb hts wi9 hown hK hW (hF.k hk (by decide)) (by decide) rfl 26 (by decide) (hts (.fieldLink RX9 45 "IceHallModel" "priceOf" "[I") (by decide +kernel)) (fun _ h9 => h9) rfl rb476 dX9_init_356 ?_
        refine lv_iload_n hx hb dX9_init_359 rfl (lv_at hl 1 rfl) ?_
        refine lv_bipush (v := 10) hx hb dX9_init_360 (by decide) ?_
        refine pg_iast hx hb hK hW hS kb476 (by decide) (by rw [show sL L349 b476 = 24 from nb476]; exact r_in (by omega)) dX9_init_362 (fun H locs hW hS => ?_)
        obtain ⟨S478, eS478⟩ : ∃ T : St, T = stI L349 b476 (Int32.toNatClampNeg y) 10 := ⟨_, rfl⟩
        rw [← eS478] at hW
        have hG : Gx (h :: ex) S478 := by rw [eS478]; exact hG.I kb476 (ok_frA (by decide) (by decide))
        have w479 : sI S478 h 1 = 0 := by rw [eS478]; exact (iI_a (fk_ne (hF.k hk (by decide)) kb476 (by decide))).trans z1_L349
        have w480 : sI S478 h 18 = 0 := by rw [eS478]; exact (iI_a (fk_ne (hF.k hk (by decide)) kb476 (by decide))).trans z18_L349
        have w481 : sI S478 h 24 = 3 := by rw [eS478]; exact (iI_a (fk_ne (hF.k hk (by decide)) kb476 (by decide))).trans z24_L349
        have hF : Fr [h] [1100] S S478 := by rw [eS478]; exact hF.IA kb476 (by decide) (by decide)
        have hE424 : Fr [h] [1100] S418 S478 := by rw [eS478]; exact hE424.IA kb476 (by decide) (by decide)
        have hE430 : Fr [h] [1100] S425 S478 := by rw [eS478]; exact hE430.IA kb476 (by decide) (by decide)
        have hE435 : Fr [h] [1100] S431 S478 := by rw [eS478]; exact hE435.IA kb476 (by decide) (by decide)
        have hE477 : Fr [h] [1100] L349 S478 := by rw [eS478]; exact hE477.IA kb476 (by decide) (by decide)
        have hD : Dn [62, 61, 59, 58, 57, 56, 52, 51, 50, 49, 48, 47, 46, 45, 44, 43, 42, 41, 40, 39, 38, 37, 34, 33, 32, 31, 30, 29, 28, 27, 26, 10, 9, 8, 7, 6, 5, 0] S478 h 9 := by rw [eS478]; exact hD
        have hkh : sK S478 h = 9 := hF.k hk (by decide)
        clear eS478
        refine lv_iinc (v := y + 1) (lv' := [(1, .int (y + 1)), (0, .ref h)]) hx hb dX9_init_363 hl (k := 1) rfl rfl (by decide) rfl (fun ls hl => ?_)
        have i482 : (y + 1).toInt = (y).toInt + 1 := i3_add rfl rfl (by omega) (by omega)
        refine lv_goto (tgt := 349) hx hb dX9_init_366 (by decide) ?_
        exact ih349 (y + 1) S478 _ _ ls hG hE435 hD (by omega) (w479) (w480) (w481) (by omega) hW hS (lv_cast (lv_sub hl [1, 0] rfl) (rfl))
  exact loop349 _ 0 S431 _ _ ls hG hE435 hD (by decide) (w432) (w433) (w434) (Nat.lt_succ_self _) hW hS (lv_cast (lv_sub hl [1, 0] rfl) (rfl))
