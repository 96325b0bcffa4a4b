set_option maxHeartbeats 4000000 in
set_option maxRecDepth 100000 in
theorem b_X4_init (l : Launch) (D : va_G) (cy : Nat → ClassId) (A : Nat → Prop) (S : St) (ex : List Nat) (h : Nat) (hG0 : Gx ex S) (hk : sK S h = 4) : MV l yX4_init wsX4_init ({ frames := 1, cells := 0, slots := 0, locals := 60 } : Room) 0 0 D cy A [.ref h] S (fun S1 => Gx ex S1 ∧ Fr [h] [] S S1 ∧ True) := by
  refine mt_start (cc := cX4_init) (maxL := 1) (ret := none) (by decide) rfl (Nat.le_of_ble_eq_true rfl) ?_
  intro p e s m args below meth c hx hb hr hlk hml hown hnm hts hK hZ hA hW hS ls hl
  have hl : lv_has ls 1 [(0, .ref h)] := hl
  have hown : s.vm.findClass RX4 = some m.cls := hown
  have F : CallFix p m c cX4_init 1 s args wsX4_init RX4 := ⟨hx, hb, hml, hown, hts⟩
  have wi4 : ∀ w ∈ u_ws RX4 TX4 6, w ∈ wsX4_init := by decide +kernel
  have hG := hG0
  have hF : Fr [h] [] S S := Fr.rf _ _ _
  refine lv_aload_n hx hb dX4_init_0 rfl (lv_at hl 0 rfl) ?_
  refine W.objInit hx hb hown (hts (.methodLink RX4 3 objectInit) (by decide +kernel)) (hts (.instanceMethod objectInit) (by decide +kernel)) (hts (.code objectInit ⟨#[0xb1]⟩ 1 none) (by decide +kernel)) rfl (by rw [hml]; exact hl.1) rfl dX4_init_1 (Nat.le_of_ble_eq_true rfl) (Nat.le_of_ble_eq_true rfl) ?_
  refine W.eq (g2 := F0 m 4 ls []) rfl ?_
  refine lv_aload_n hx hb dX4_init_4 rfl (lv_at hl 0 rfl) ?_
  refine lv_ldc (v := (16777215)) hx hb hown (hts (.constant RX4 11 (16777215)) (by decide +kernel)) dX4_init_5 ?_
  refine pg_pi (ci := 4) (C := RX4) (T := TX4) (N := 6) hx hb hts wi4 tyX4 tyX4_ok nmX4 hown hK hW hS hk (by decide) rfl 0 (by decide) (hts (.fieldLink RX4 12 "IceHall$Rights" "clocks" "I") (by decide +kernel)) (fun _ h9 => h9) rfl rfl rfl dX4_init_7 (fun H locs hW hS => ?_)
  obtain ⟨S1, eS1⟩ : ∃ T : St, T = stI S h 0 ((16777215)) := ⟨_, rfl⟩
  rw [← eS1] at hW
  have hG : Gx ex S1 := by rw [eS1]; exact hG.I hk (ok_fr (by decide))
  have hF : Fr [h] [] S S1 := by rw [eS1]; exact hF.Ih List.mem_cons_self
  clear eS1
  refine lv_aload_n hx hb dX4_init_10 rfl (lv_at hl 0 rfl) ?_
  refine lv_bipush (v := 127) hx hb dX4_init_11 (by decide) ?_
  refine pg_pi (ci := 4) (C := RX4) (T := TX4) (N := 6) hx hb hts wi4 tyX4 tyX4_ok nmX4 hown hK hW hS (hF.k hk (by decide)) (by decide) rfl 1 (by decide) (hts (.fieldLink RX4 16 "IceHall$Rights" "days" "I") (by decide +kernel)) (fun _ h9 => h9) rfl rfl rfl dX4_init_13 (fun H locs hW hS => ?_)
  have kq2 : sK S1 h = 4 := (hF.k hk (by decide))
  obtain ⟨S3, eS3⟩ : ∃ T : St, T = stI S1 h 1 127 := ⟨_, rfl⟩
  rw [← eS3] at hW
  have hG : Gx ex S3 := by rw [eS3]; exact hG.I kq2 (ok_fr (by decide))
  have hF : Fr [h] [] S S3 := by rw [eS3]; exact hF.Ih List.mem_cons_self
  clear eS3
  refine lv_aload_n hx hb dX4_init_16 rfl (lv_at hl 0 rfl) ?_
  refine lv_bipush (v := 15) hx hb dX4_init_17 (by decide) ?_
  refine pg_pi (ci := 4) (C := RX4) (T := TX4) (N := 6) hx hb hts wi4 tyX4 tyX4_ok nmX4 hown hK hW hS (hF.k hk (by decide)) (by decide) rfl 2 (by decide) (hts (.fieldLink RX4 19 "IceHall$Rights" "kinds" "I") (by decide +kernel)) (fun _ h9 => h9) rfl rfl rfl dX4_init_19 (fun H locs hW hS => ?_)
  have kq4 : sK S3 h = 4 := (hF.k hk (by decide))
  obtain ⟨S5, eS5⟩ : ∃ T : St, T = stI S3 h 2 15 := ⟨_, rfl⟩
  rw [← eS5] at hW
  have hG : Gx ex S5 := by rw [eS5]; exact hG.I kq4 (ok_fr (by decide))
  have hF : Fr [h] [] S S5 := by rw [eS5]; exact hF.Ih List.mem_cons_self
  clear eS5
  refine lv_aload_n hx hb dX4_init_22 rfl (lv_at hl 0 rfl) ?_
  refine lv_sipush (v := 168) hx hb dX4_init_23 (by decide) ?_
  refine pg_pi (ci := 4) (C := RX4) (T := TX4) (N := 6) hx hb hts wi4 tyX4 tyX4_ok nmX4 hown hK hW hS (hF.k hk (by decide)) (by decide) rfl 3 (by decide) (hts (.fieldLink RX4 22 "IceHall$Rights" "inWeek" "I") (by decide +kernel)) (fun _ h9 => h9) rfl rfl rfl dX4_init_26 (fun H locs hW hS => ?_)
  have kq6 : sK S5 h = 4 := (hF.k hk (by decide))
  obtain ⟨S7, eS7⟩ : ∃ T : St, T = stI S5 h 3 168 := ⟨_, rfl⟩
  rw [← eS7] at hW
  have hG : Gx ex S7 := by rw [eS7]; exact hG.I kq6 (ok_fr (by decide))
  have hF : Fr [h] [] S S7 := by rw [eS7]; exact hF.Ih List.mem_cons_self
  clear eS7
  refine lv_aload_n hx hb dX4_init_29 rfl (lv_at hl 0 rfl) ?_
  refine lv_bipush (v := 100) hx hb dX4_init_30 (by decide) ?_
  refine pg_pi (ci := 4) (C := RX4) (T := TX4) (N := 6) hx hb hts wi4 tyX4 tyX4_ok nmX4 hown hK hW hS (hF.k hk (by decide)) (by decide) rfl 4 (by decide) (hts (.fieldLink RX4 25 "IceHall$Rights" "fee" "I") (by decide +kernel)) (fun _ h9 => h9) rfl rfl rfl dX4_init_32 (fun H locs hW hS => ?_)
  have kq8 : sK S7 h = 4 := (hF.k hk (by decide))
  obtain ⟨S9, eS9⟩ : ∃ T : St, T = stI S7 h 4 100 := ⟨_, rfl⟩
  rw [← eS9] at hW
  have hG : Gx ex S9 := by rw [eS9]; exact hG.I kq8 (ok_fr (by decide))
  have hF : Fr [h] [] S S9 := by rw [eS9]; exact hF.Ih List.mem_cons_self
  clear eS9
  refine lv_aload_n hx hb dX4_init_35 rfl (lv_at hl 0 rfl) ?_
  refine lv_bipush (v := 50) hx hb dX4_init_36 (by decide) ?_
  refine pg_pi (ci := 4) (C := RX4) (T := TX4) (N := 6) hx hb hts wi4 tyX4 tyX4_ok nmX4 hown hK hW hS (hF.k hk (by decide)) (by decide) rfl 5 (by decide) (hts (.fieldLink RX4 28 "IceHall$Rights" "hundredths" "I") (by decide +kernel)) (fun _ h9 => h9) rfl rfl rfl dX4_init_38 (fun H locs hW hS => ?_)
  have kq10 : sK S9 h = 4 := (hF.k hk (by decide))
  obtain ⟨S11, eS11⟩ : ∃ T : St, T = stI S9 h 5 50 := ⟨_, rfl⟩
  rw [← eS11] at hW
  have hG : Gx ex S11 := by rw [eS11]; exact hG.I kq10 (ok_fr (by decide))
  have hF : Fr [h] [] S S11 := by rw [eS11]; exact hF.Ih List.mem_cons_self
  clear eS11
  exact pc_vret (S := S11) hx hb hr hlk hK hZ hA hW hS (⟨hG, hF, trivial⟩) dX4_init_41
set_option maxHeartbeats 4000000 in
set_option maxRecDepth 100000 in
theorem b_X6_init (l : Launch) (D : va_G) (cy : Nat → ClassId) (A : Nat → Prop) (S : St) (ex : List Nat) (h x : Nat) (a b d e2 : Int32) (hG0 : Gx ex S) (hk : sK S h = 6) (hkx : sK S x = 4) : MV l yX6_init wsX6_init ({ frames := 1, cells := 0, slots := 0, locals := 60 } : Room) 0 0 D cy A [.ref h, .int a, .int b, .int d, .int e2, .ref x] S (fun S1 => Gx ex S1 ∧ Fr [h] [] S S1 ∧ True) := by
  refine mt_start (cc := cX6_init) (maxL := 6) (ret := none) (by decide) rfl (Nat.le_of_ble_eq_true rfl) ?_
  intro p e s m args below meth c hx hb hr hlk hml hown hnm hts hK hZ hA hW hS ls hl
  have hl : lv_has ls 6 [(0, .ref h), (1, .int a), (2, .int b), (3, .int d), (4, .int e2), (5, .ref x)] := hl
  have hown : s.vm.findClass RX6 = some m.cls := hown
  have F : CallFix p m c cX6_init 6 s args wsX6_init RX6 := ⟨hx, hb, hml, hown, hts⟩
  have wi4 : ∀ w ∈ u_ws RX4 TX4 6, w ∈ wsX6_init := by decide +kernel
  have wi6 : ∀ w ∈ u_ws RX6 TX6 10, w ∈ wsX6_init := by decide +kernel
  have hG := hG0
  have hF : Fr [h] [] S S := Fr.rf _ _ _
  refine lv_aload_n hx hb dX6_init_0 rfl (lv_at hl 0 rfl) ?_
  refine W.objInit hx hb hown (hts (.methodLink RX6 3 objectInit) (by decide +kernel)) (hts (.instanceMethod objectInit) (by decide +kernel)) (hts (.code objectInit ⟨#[0xb1]⟩ 1 none) (by decide +kernel)) rfl (by rw [hml]; exact hl.1) rfl dX6_init_1 (Nat.le_of_ble_eq_true rfl) (Nat.le_of_ble_eq_true rfl) ?_
  refine W.eq (g2 := F0 m 4 ls []) rfl ?_
  refine lv_aload_n hx hb dX6_init_4 rfl (lv_at hl 0 rfl) ?_
  refine lv_iconst (v := 0) hx hb dX6_init_5 (by decide) ?_
  refine pg_pi (ci := 6) (C := RX6) (T := TX6) (N := 10) hx hb hts wi6 tyX6 tyX6_ok nmX6 hown hK hW hS hk (by decide) rfl 6 (by decide) (hts (.fieldLink RX6 9 "IceHall$Session" "state" "I") (by decide +kernel)) (fun _ h9 => h9) rfl rfl rfl dX6_init_6 (fun H locs hW hS => ?_)
  obtain ⟨S1, eS1⟩ : ∃ T : St, T = stI S h 6 0 := ⟨_, rfl⟩
  rw [← eS1] at hW
  have hG : Gx ex S1 := by rw [eS1]; exact hG.I hk (ok_fr (by decide))
  have hF : Fr [h] [] S S1 := by rw [eS1]; exact hF.Ih List.mem_cons_self
  clear eS1
  refine lv_aload_n hx hb dX6_init_9 rfl (lv_at hl 0 rfl) ?_
  refine lv_iconst (v := 0) hx hb dX6_init_10 (by decide) ?_
  refine pg_pi (ci := 6) (C := RX6) (T := TX6) (N := 10) hx hb hts wi6 tyX6 tyX6_ok nmX6 hown hK hW hS (hF.k hk (by decide)) (by decide) rfl 7 (by decide) (hts (.fieldLink RX6 15 "IceHall$Session" "whyLost" "I") (by decide +kernel)) (fun _ h9 => h9) rfl rfl rfl dX6_init_11 (fun H locs hW hS => ?_)
  have kq2 : sK S1 h = 6 := (hF.k hk (by decide))
  obtain ⟨S3, eS3⟩ : ∃ T : St, T = stI S1 h 7 0 := ⟨_, rfl⟩
  rw [← eS3] at hW
  have hG : Gx ex S3 := by rw [eS3]; exact hG.I kq2 (ok_fr (by decide))
  have hF : Fr [h] [] S S3 := by rw [eS3]; exact hF.Ih List.mem_cons_self
  clear eS3
  refine lv_aload_n hx hb dX6_init_14 rfl (lv_at hl 0 rfl) ?_
  refine lv_iconst (v := 0) hx hb dX6_init_15 (by decide) ?_
  refine pg_pi (ci := 6) (C := RX6) (T := TX6) (N := 10) hx hb hts wi6 tyX6 tyX6_ok nmX6 hown hK hW hS (hF.k hk (by decide)) (by decide) rfl 8 (by decide) (hts (.fieldLink RX6 18 "IceHall$Session" "owes" "I") (by decide +kernel)) (fun _ h9 => h9) rfl rfl rfl dX6_init_16 (fun H locs hW hS => ?_)
  have kq4 : sK S3 h = 6 := (hF.k hk (by decide))
  obtain ⟨S5, eS5⟩ : ∃ T : St, T = stI S3 h 8 0 := ⟨_, rfl⟩
  rw [← eS5] at hW
  have hG : Gx ex S5 := by rw [eS5]; exact hG.I kq4 (ok_fr (by decide))
  have hF : Fr [h] [] S S5 := by rw [eS5]; exact hF.Ih List.mem_cons_self
  clear eS5
  refine lv_aload_n hx hb dX6_init_19 rfl (lv_at hl 0 rfl) ?_
  refine lv_iconst (v := 0) hx hb dX6_init_20 (by decide) ?_
  refine pg_pi (ci := 6) (C := RX6) (T := TX6) (N := 10) hx hb hts wi6 tyX6 tyX6_ok nmX6 hown hK hW hS (hF.k hk (by decide)) (by decide) rfl 9 (by decide) (hts (.fieldLink RX6 21 "IceHall$Session" "timesMoved" "I") (by decide +kernel)) (fun _ h9 => h9) rfl rfl rfl dX6_init_21 (fun H locs hW hS => ?_)
  have kq6 : sK S5 h = 6 := (hF.k hk (by decide))
  obtain ⟨S7, eS7⟩ : ∃ T : St, T = stI S5 h 9 0 := ⟨_, rfl⟩
  rw [← eS7] at hW
  have hG : Gx ex S7 := by rw [eS7]; exact hG.I kq6 (ok_fr (by decide))
  have hF : Fr [h] [] S S7 := by rw [eS7]; exact hF.Ih List.mem_cons_self
  clear eS7
  refine lv_aload_n hx hb dX6_init_24 rfl (lv_at hl 0 rfl) ?_
  refine lv_iload_n hx hb dX6_init_25 rfl (lv_at hl 1 rfl) ?_
  refine pg_pf (ci := 6) (C := RX6) (T := TX6) (N := 10) hx hb hts wi6 tyX6 tyX6_ok nmX6 hown hK hW hS (hF.k hk (by decide)) (by decide) rfl 0 (by decide) (hts (.fieldLink RX6 24 "IceHall$Session" "byClub" "I") (by decide +kernel)) (fun _ h9 => h9) rfl hnm rfl rfl rfl dX6_init_26 (fun H locs hW hS => ?_)
  have kq8 : sK S7 h = 6 := (hF.k hk (by decide))
  obtain ⟨S9, eS9⟩ : ∃ T : St, T = stI S7 h 0 a := ⟨_, rfl⟩
  rw [← eS9] at hW
  have hG : Gx ex S9 := by rw [eS9]; exact hG.I kq8 (ok_fr (by decide))
  have hF : Fr [h] [] S S9 := by rw [eS9]; exact hF.Ih List.mem_cons_self
  clear eS9
  refine lv_aload_n hx hb dX6_init_29 rfl (lv_at hl 0 rfl) ?_
  refine lv_iload_n hx hb dX6_init_30 rfl (lv_at hl 2 rfl) ?_
  refine pg_pf (ci := 6) (C := RX6) (T := TX6) (N := 10) hx hb hts wi6 tyX6 tyX6_ok nmX6 hown hK hW hS (hF.k hk (by decide)) (by decide) rfl 1 (by decide) (hts (.fieldLink RX6 27 "IceHall$Session" "kind" "I") (by decide +kernel)) (fun _ h9 => h9) rfl hnm rfl rfl rfl dX6_init_31 (fun H locs hW hS => ?_)
  have kq10 : sK S9 h = 6 := (hF.k hk (by decide))
  obtain ⟨S11, eS11⟩ : ∃ T : St, T = stI S9 h 1 b := ⟨_, rfl⟩
  rw [← eS11] at hW
  have hG : Gx ex S11 := by rw [eS11]; exact hG.I kq10 (ok_fr (by decide))
  have hF : Fr [h] [] S S11 := by rw [eS11]; exact hF.Ih List.mem_cons_self
  clear eS11
  refine lv_aload_n hx hb dX6_init_34 rfl (lv_at hl 0 rfl) ?_
  refine lv_iload_n hx hb dX6_init_35 rfl (lv_at hl 3 rfl) ?_
  refine pg_pi (ci := 6) (C := RX6) (T := TX6) (N := 10) hx hb hts wi6 tyX6 tyX6_ok nmX6 hown hK hW hS (hF.k hk (by decide)) (by decide) rfl 4 (by decide) (hts (.fieldLink RX6 30 "IceHall$Session" "onSheet" "I") (by decide +kernel)) (fun _ h9 => h9) rfl rfl rfl dX6_init_36 (fun H locs hW hS => ?_)
  have kq12 : sK S11 h = 6 := (hF.k hk (by decide))
  obtain ⟨S13, eS13⟩ : ∃ T : St, T = stI S11 h 4 d := ⟨_, rfl⟩
  rw [← eS13] at hW
  have hG : Gx ex S13 := by rw [eS13]; exact hG.I kq12 (ok_fr (by decide))
  have hF : Fr [h] [] S S13 := by rw [eS13]; exact hF.Ih List.mem_cons_self
  clear eS13
  refine lv_aload_n hx hb dX6_init_39 rfl (lv_at hl 0 rfl) ?_
  refine lv_iload hx hb dX6_init_40 (lv_at hl 4 rfl) ?_
  refine pg_pi (ci := 6) (C := RX6) (T := TX6) (N := 10) hx hb hts wi6 tyX6 tyX6_ok nmX6 hown hK hW hS (hF.k hk (by decide)) (by decide) rfl 5 (by decide) (hts (.fieldLink RX6 33 "IceHall$Session" "hour" "I") (by decide +kernel)) (fun _ h9 => h9) rfl rfl rfl dX6_init_42 (fun H locs hW hS => ?_)
  have kq14 : sK S13 h = 6 := (hF.k hk (by decide))
  obtain ⟨S15, eS15⟩ : ∃ T : St, T = stI S13 h 5 e2 := ⟨_, rfl⟩
  rw [← eS15] at hW
  have hG : Gx ex S15 := by rw [eS15]; exact hG.I kq14 (ok_fr (by decide))
  have hF : Fr [h] [] S S15 := by rw [eS15]; exact hF.Ih List.mem_cons_self
  clear eS15
  refine lv_aload_n hx hb dX6_init_45 rfl (lv_at hl 0 rfl) ?_
  refine lv_aload hx hb dX6_init_46 (lv_at hl 5 rfl) ?_
  refine lv_ifnonnull (tgt := 55) hx hb dX6_init_48 (by decide) ?_
  refine lv_aload hx hb dX6_init_55 (lv_at hl 5 rfl) ?_
  refine pg_gi (ci := 4) (C := RX4) (T := TX4) (N := 6) hx hb hts wi4 hown hK hW (hF.k hkx (by decide)) (by decide) rfl 4 (by decide) (hts (.fieldLink RX6 36 "IceHall$Rights" "fee" "I") (by decide +kernel)) (fun _ h9 => h9) rfl dX6_init_57 ?_
  refine pg_pf (ci := 6) (C := RX6) (T := TX6) (N := 10) hx hb hts wi6 tyX6 tyX6_ok nmX6 hown hK hW hS (hF.k hk (by decide)) (by decide) rfl 2 (by decide) (hts (.fieldLink RX6 41 "IceHall$Session" "fee" "I") (by decide +kernel)) (fun _ h9 => h9) rfl hnm rfl rfl rfl dX6_init_60 (fun H locs hW hS => ?_)
  have kq16 : sK S15 h = 6 := (hF.k hk (by decide))
  obtain ⟨S17, eS17⟩ : ∃ T : St, T = stI S15 h 2 (sI S15 x 4) := ⟨_, rfl⟩
  rw [← eS17] at hW
  have hG : Gx ex S17 := by rw [eS17]; exact hG.I kq16 (ok_fr (by decide))
  have hF : Fr [h] [] S S17 := by rw [eS17]; exact hF.Ih List.mem_cons_self
  clear eS17
  refine lv_aload_n hx hb dX6_init_63 rfl (lv_at hl 0 rfl) ?_
  refine lv_aload hx hb dX6_init_64 (lv_at hl 5 rfl) ?_
  refine lv_ifnonnull (tgt := 73) hx hb dX6_init_66 (by decide) ?_
  refine lv_aload hx hb dX6_init_73 (lv_at hl 5 rfl) ?_
  refine pg_gi (ci := 4) (C := RX4) (T := TX4) (N := 6) hx hb hts wi4 hown hK hW (hF.k hkx (by decide)) (by decide) rfl 5 (by decide) (hts (.fieldLink RX6 42 "IceHall$Rights" "hundredths" "I") (by decide +kernel)) (fun _ h9 => h9) rfl dX6_init_75 ?_
  refine pg_pf (ci := 6) (C := RX6) (T := TX6) (N := 10) hx hb hts wi6 tyX6 tyX6_ok nmX6 hown hK hW hS (hF.k hk (by decide)) (by decide) rfl 3 (by decide) (hts (.fieldLink RX6 45 "IceHall$Session" "hundredths" "I") (by decide +kernel)) (fun _ h9 => h9) rfl hnm rfl rfl rfl dX6_init_78 (fun H locs hW hS => ?_)
  have kq18 : sK S17 h = 6 := (hF.k hk (by decide))
  obtain ⟨S19, eS19⟩ : ∃ T : St, T = stI S17 h 3 (sI S17 x 5) := ⟨_, rfl⟩
  rw [← eS19] at hW
  have hG : Gx ex S19 := by rw [eS19]; exact hG.I kq18 (ok_fr (by decide))
  have hF : Fr [h] [] S S19 := by rw [eS19]; exact hF.Ih List.mem_cons_self
  clear eS19
  exact pc_vret (S := S19) hx hb hr hlk hK hZ hA hW hS (⟨hG, hF, trivial⟩) dX6_init_81
set_option maxHeartbeats 4000000 in
set_option maxRecDepth 100000 in
theorem b_X8_rights (l : Launch) (D : va_G) (cy : Nat → ClassId) (A : Nat → Prop) (S : St) (h t : Nat) (a b : Int32) (hG0 : G S) (hk : sK S h = 8) (hr5 : sR S h 5 = some t) (hkt : sK S t = 7) : MI l yX8_rights wsX8_rights ({ frames := 6, cells := 1, slots := 6, locals := 135 } : Room) 1 6 D cy A [.ref h, .int a, .int b] S (fun r S1 => G S1 ∧ Fr [] [400, 401, 402, 403, 404, 405, 501, 502, 503, 701] S S1 ∧ (((0 ≤ a.toInt ∧ a.toInt < 6 ∧ 0 ≤ b.toInt ∧ b.toInt ≤ (sI S t 1).toInt) → sI S1 t 1 = 0) ∧ (¬ (0 ≤ a.toInt ∧ a.toInt < 6 ∧ 0 ≤ b.toInt ∧ b.toInt ≤ (sI S t 1).toInt) → sI S1 t 1 = sI S t 1))) := by
  refine mt_start (cc := cX8_rights) (maxL := 5) (ret := (some .int)) (by decide) rfl (Nat.le_of_ble_eq_true rfl) ?_
  intro p e s m args below meth c hx hb hr hlk hml hown hnm hts hK hZ hA hW hS ls hl
  have hl : lv_has ls 5 [(0, .ref h), (1, .int a), (2, .int b)] := hl
  have hown : s.vm.findClass RX8 = some m.cls := hown
  have F : CallFix p m c cX8_rights 5 s args wsX8_rights RX8 := ⟨hx, hb, hml, hown, hts⟩
  have wi4 : ∀ w ∈ u_ws RX4 TX4 6, w ∈ wsX8_rights := by decide +kernel
  have wi7 : ∀ w ∈ u_ws RX7 TX7 2, w ∈ wsX8_rights := by decide +kernel
  have wi8 : ∀ w ∈ u_ws RX8 TX8 18, w ∈ wsX8_rights := by decide +kernel
  have hG := hG0
  have hF : Fr [] [400, 401, 402, 403, 404, 405, 501, 502, 503, 701] S S := Fr.rf _ _ _
  refine lv_iload_n hx hb dX8_rights_0 rfl (lv_at hl 1 rfl) ?_
  refine lv_bipush (v := 6) hx hb dX8_rights_1 (by decide) ?_
  refine pc_Si (As := [.int a, .int 6]) (rest := []) F (b_X8_isBelow l D cy A S a 6 ) (va_cwS 2 hts gX8_rights_X8_isBelow rfl rfl rfl (by decide +kernel) ⟨Nat.le_of_ble_eq_true rfl, Nat.le_of_ble_eq_true rfl⟩) hK hZ hA hW hS rfl hl.1 rfl (Nat.le_of_ble_eq_true rfl) dX8_rights_3 ⟨Nat.le_of_ble_eq_true rfl, Nat.le_of_ble_eq_true rfl⟩ (fun v1 T2 H locs p3 hW hS => ?_)
  obtain ⟨eT2, p3⟩ := p3
  rw [eT2] at hW
  clear eT2
  have p3 := isb_lit (n := 6) rfl p3
  refine lv_if_eq (tgt := 24) hx hb dX8_rights_6 (by decide) (fun c4 => ?_) (fun c4 => ?_)
  · have c4i : Int32.toInt v1 = (0 : Int) := (i3_eq _ _).mp c4
    refine lv_iconst (v := (-1)) hx hb dX8_rights_24 (by decide) ?_
    refine W.widen (k := 1) (n := 6) (by decide) (by decide) ?_
    exact pc_iret (v := (-1)) (S := S) hx hb hr hlk hK hZ hA hW hS (⟨hG, hF, ⟨fun h9 => absurd h9 (by omega), fun _ => rfl⟩⟩) dX8_rights_25
  · have c4i : ¬ (Int32.toInt v1 = (0 : Int)) := fun h9 => c4 ((i3_eq _ _).mpr h9)
    refine lv_iload_n hx hb dX8_rights_9 rfl (lv_at hl 2 rfl) ?_
    refine lv_if_lt (tgt := 24) hx hb dX8_rights_10 (by decide) (fun c5 => ?_) (fun c5 => ?_)
    · have c5i : Int32.toInt b < (0 : Int) := (i3_lt _ _).mp c5
      refine lv_iconst (v := (-1)) hx hb dX8_rights_24 (by decide) ?_
      refine W.widen (k := 1) (n := 6) (by decide) (by decide) ?_
      exact pc_iret (v := (-1)) (S := S) hx hb hr hlk hK hZ hA hW hS (⟨hG, hF, ⟨fun h9 => absurd h9 (by omega), fun _ => rfl⟩⟩) dX8_rights_25
    · have c5i : ¬ (Int32.toInt b < (0 : Int)) := fun h9 => c5 ((i3_lt _ _).mpr h9)
      refine lv_iload_n hx hb dX8_rights_13 rfl (lv_at hl 2 rfl) ?_
      refine lv_aload_n hx hb dX8_rights_14 rfl (lv_at hl 0 rfl) ?_
      refine pg_gr (b := t) (ci := 8) (C := RX8) (T := TX8) (N := 18) hx hb hts wi8 hown hK hW hk (by decide) rfl 5 (by decide) (hts (.fieldLink RX8 39 "IceHall" "tape" "LIceHall$Tape;") (by decide +kernel)) (fun _ h9 => h9) rfl hr5 dX8_rights_15 ?_
      refine pg_gi (ci := 7) (C := RX7) (T := TX7) (N := 2) hx hb hts wi7 hown hK hW hkt (by decide) rfl 1 (by decide) (hts (.fieldLink RX8 81 "IceHall$Tape" "size" "I") (by decide +kernel)) (fun _ h9 => h9) rfl dX8_rights_18 ?_
      have g6 : (0 : Int) ≤ (sI S t 1).toInt ∧ (sI S t 1).toInt ≤ 80 := hG.i hkt (by decide) 1 (by decide)
      refine lv_icmp_le (tgt := 26) hx hb dX8_rights_21 (by decide) (fun c7 => ?_) (fun c7 => ?_)
      · have c7i : Int32.toInt b ≤ Int32.toInt (sI S t 1) := (i3_le _ _).mp c7
        refine pg_new (ci := 4) (C := RX4) (T := TX4) (N := 6) hx hb hts wi4 tyX4 tyX4_ok hown (hts (.classLink RX8 19 RX4) (by decide +kernel)) (hts (.instantiable RX4 6) (by decide +kernel)) (hts (.initialized RX4) (by decide +kernel)) hK hW hS hA (by decide) rfl df_4 (Nat.le_of_ble_eq_true rfl) (Nat.le_of_ble_eq_true rfl) dX8_rights_26 (fun q8 H hq8 hW hS => ?_)
        have nqq8_hF : 20 ≤ sK S q8 := hF.new hq8
        obtain ⟨S9, eS9⟩ : ∃ T : St, T = stN S q8 4 0 := ⟨_, rfl⟩
        rw [← eS9] at hW
        have hG : G S9 := by rw [eS9]; exact (hG.N hq8).pl (c := 4) (by rw [kN, if_pos rfl]) rty_4
        have hF : Fr [] [400, 401, 402, 403, 404, 405, 501, 502, 503, 701] S S9 := by rw [eS9]; exact hF.N hq8
        have hE10 : Fr [] [400, 401, 402, 403, 404, 405, 501, 502, 503, 701] S9 S9 := Fr.rf _ _ _
        have kq8 : sK S9 q8 = 4 := by rw [eS9, kN, if_pos rfl]
        have nq8 : sL S9 q8 = 0 := by rw [eS9, lNw, if_pos rfl]
        clear eS9
        refine lv_dup hx hb dX8_rights_29 rfl ?_
        refine pc_INv (As := []) (rest := [.ref q8]) F (b_X4_init l D cy A S9 [] q8 hG kq8) ⟨va_cnB 0 hts gX8_rights_X4_init_n25 rfl rfl rfl hZ.2.2.2.2.1 (hts (.initialized RX4) (by decide +kernel)) (by decide +kernel) ⟨Nat.le_of_ble_eq_true rfl, Nat.le_of_ble_eq_true rfl⟩, rfl, hts (.instanceMethod yX4_init) (by decide +kernel)⟩ hK hZ hA hW hS rfl hl.1 rfl (Nat.le_of_ble_eq_true rfl) dX8_rights_30 ⟨Nat.le_of_ble_eq_true rfl, Nat.le_of_ble_eq_true rfl⟩ (fun T12 H locs p13 hW hS => ?_)
        obtain ⟨hG, hFc, p13⟩ := p13
        have k14 : sK T12 q8 = 4 := hFc.k kq8 (by decide)
        have n15 : sL T12 q8 = 0 := hFc.n kq8 (by decide) nq8
        have hF : Fr [] [400, 401, 402, 403, 404, 405, 501, 502, 503, 701] S T12 := hF.trN (hFc.mono (by decide)) nqq8_hF
        have hE16 : Fr [] [400, 401, 402, 403, 404, 405, 501, 502, 503, 701] T12 T12 := Fr.rf _ _ _
        refine lv_astore_n (lv' := [(3, .ref q8), (0, .ref h), (1, .int a), (2, .int b)]) hx hb dX8_rights_33 rfl hl (by decide) rfl (fun ls hl => ?_)
        refine lv_aload_n hx hb dX8_rights_34 rfl (lv_at hl 1 rfl) ?_
        obtain ⟨b17, rb17, kb17, nb17⟩ := hG0.r hk List.not_mem_nil 6 (show rty 8 6 = some (5, 0) from rfl)
        refine pg_gr (b := b17) (ci := 8) (C := RX8) (T := TX8) (N := 18) hx hb hts wi8 hown hK hW (hF.k hk (by decide)) (by decide) rfl 6 (by decide) (hts (.fieldLink RX8 48 "IceHall" "reader" "LIceHall$RightsReader;") (by decide +kernel)) (fun _ h9 => h9) rfl (hF.r hk (by decide) rb17) dX8_rights_35 ?_
        refine lv_aload_n hx hb dX8_rights_38 rfl (lv_at hl 0 rfl) ?_
        refine lv_iload_n hx hb dX8_rights_39 rfl (lv_at hl 3 rfl) ?_
        refine pc_Vi (As := [.ref q8, .int b]) (rest := []) F (b_X5_readInto l D cy A T12 b17 q8 b hG (hF.k kb17 (by decide)) k14) (cwV 2 hts gX8_rights_X5_readInto rfl rfl rfl (by decide +kernel) ⟨Nat.le_of_ble_eq_true rfl, Nat.le_of_ble_eq_true rfl⟩) hK hZ hA hW hS (hF.k kb17 (by decide)) (by decide) rfl rfl hl.1 rfl (Nat.le_of_ble_eq_true rfl) dX8_rights_40 ⟨Nat.le_of_ble_eq_true rfl, Nat.le_of_ble_eq_true rfl⟩ (fun v18 T19 H locs p20 hW hS => ?_)
        obtain ⟨hG, hFc, p20⟩ := p20
        have hF : Fr [] [400, 401, 402, 403, 404, 405, 501, 502, 503, 701] S T19 := hF.tr (hFc.mono (by decide))
        have hE16 : Fr [] [400, 401, 402, 403, 404, 405, 501, 502, 503, 701] T12 T19 := hE16.tr (hFc.mono (by decide))
        refine lv_istore (lv' := [(4, .int v18), (3, .ref q8), (0, .ref h), (1, .int a), (2, .int b)]) hx hb dX8_rights_43 hl (by decide) rfl (fun ls hl => ?_)
        refine lv_aload_n hx hb dX8_rights_45 rfl (lv_at hl 2 rfl) ?_
        refine pg_gr (b := t) (ci := 8) (C := RX8) (T := TX8) (N := 18) hx hb hts wi8 hown hK hW (hF.k hk (by decide)) (by decide) rfl 5 (by decide) (hts (.fieldLink RX8 39 "IceHall" "tape" "LIceHall$Tape;") (by decide +kernel)) (fun _ h9 => h9) rfl (hF.r hk (by decide) hr5) dX8_rights_46 ?_
        refine lv_iconst (v := 0) hx hb dX8_rights_49 (by decide) ?_
        refine pg_pi (ci := 7) (C := RX7) (T := TX7) (N := 2) hx hb hts wi7 tyX7 tyX7_ok nmX7 hown hK hW hS (hF.k hkt (by decide)) (by decide) rfl 1 (by decide) (hts (.fieldLink RX8 81 "IceHall$Tape" "size" "I") (by decide +kernel)) (fun _ h9 => h9) rfl rfl rfl dX8_rights_50 (fun H locs hW hS => ?_)
        have kq21 : sK T19 t = 7 := (hF.k hkt (by decide))
        obtain ⟨S22, eS22⟩ : ∃ T : St, T = stI T19 t 1 0 := ⟨_, rfl⟩
        rw [← eS22] at hW
        have hG : G S22 := by rw [eS22]; exact hG.I kq21 (ok_in 0 80 (by decide) (by decide))
        have hF : Fr [] [400, 401, 402, 403, 404, 405, 501, 502, 503, 701] S S22 := by rw [eS22]; exact hF.I kq21 (by decide)
        have hE16 : Fr [] [400, 401, 402, 403, 404, 405, 501, 502, 503, 701] T12 S22 := by rw [eS22]; exact hE16.I kq21 (by decide)
        have w23 : sI S22 t 1 = 0 := by rw [eS22]; exact iI_s
        clear eS22
        refine lv_iload hx hb dX8_rights_53 (lv_at hl 0 rfl) ?_
        refine lv_if_ne (tgt := 65) hx hb dX8_rights_55 (by decide) (fun c24 => ?_) (fun c24 => ?_)
        · have c24i : ¬ (Int32.toInt v18 = (0 : Int)) := fun h9 => c24 ((i3_eq _ _).mpr h9)
          refine lv_iload hx hb dX8_rights_65 (lv_at hl 0 rfl) ?_
          exact pc_iret (v := v18) (S := S22) hx hb hr hlk hK hZ hA hW hS (⟨hG, hF, ⟨fun _ => w23, fun h9 => absurd h9 (fun h8 => h8 (by omega))⟩⟩) dX8_rights_67
        · have c24i : Int32.toInt v18 = (0 : Int) := (i3_eq _ _).mp c24
          refine lv_aload_n hx hb dX8_rights_58 rfl (lv_at hl 2 rfl) ?_
          obtain ⟨b25, rb25, kb25, nb25⟩ := hG0.r hk List.not_mem_nil 2 (show rty 8 2 = some (14, 6) from rfl)
          refine pg_gr (b := b25) (ci := 8) (C := RX8) (T := TX8) (N := 18) hx hb hts wi8 hown hK hW (hF.k hk (by decide)) (by decide) rfl 2 (by decide) (hts (.fieldLink RX8 21 "IceHall" "rightsInForce" "[LIceHall$Rights;") (by decide +kernel)) (fun _ h9 => h9) rfl (hF.r hk (by decide) rb25) dX8_rights_59 ?_
          refine lv_iload_n hx hb dX8_rights_62 rfl (lv_at hl 3 rfl) ?_
          refine lv_aload_n hx hb dX8_rights_63 rfl (lv_at hl 1 rfl) ?_
          have kq26 : sK S22 b25 = 14 := (hF.k kb25 (by decide))
          have kq27 : sK S22 q8 = 4 := (hE16.k k14 (by decide))
          refine pg_aast (t0 := 4) hx hb hK hW hS (by decide) kq26 kq27 (by decide) rfl rfl (by rw [show sL S22 b25 = 6 from (hF.n kb25 (by decide) nb25)]; exact r_in (by omega)) dX8_rights_64 (fun H locs hW hS => ?_)
          obtain ⟨S28, eS28⟩ : ∃ T : St, T = stR S22 b25 (Int32.toNatClampNeg a) (some q8) := ⟨_, rfl⟩
          rw [← eS28] at hW
          have hG : G S28 := by rw [eS28]; exact hG.R kq26 kq27 (by decide)
          have w29 : sI S28 t 1 = 0 := by rw [eS28]; exact w23
          have hF : Fr [] [400, 401, 402, 403, 404, 405, 501, 502, 503, 701] S S28 := by rw [eS28]; exact hF.R kq26 (by decide)
          have hE16 : Fr [] [400, 401, 402, 403, 404, 405, 501, 502, 503, 701] T12 S28 := by rw [eS28]; exact hE16.R kq26 (by decide)
          clear eS28
          refine lv_iload hx hb dX8_rights_65 (lv_at hl 0 rfl) ?_
          exact pc_iret (v := v18) (S := S28) hx hb hr hlk hK hZ hA hW hS (⟨hG, hF, ⟨fun _ => w29, fun h9 => absurd h9 (fun h8 => h8 (by omega))⟩⟩) dX8_rights_67
      · have c7i : ¬ (Int32.toInt b ≤ Int32.toInt (sI S t 1)) := fun h9 => c7 ((i3_le _ _).mpr h9)
        refine lv_iconst (v := (-1)) hx hb dX8_rights_24 (by decide) ?_
        refine W.widen (k := 1) (n := 6) (by decide) (by decide) ?_
        exact pc_iret (v := (-1)) (S := S) hx hb hr hlk hK hZ hA hW hS (⟨hG, hF, ⟨fun h9 => absurd h9 (by omega), fun _ => rfl⟩⟩) dX8_rights_25
set_option maxHeartbeats 4000000 in
set_option maxRecDepth 100000 in
theorem b_X8_book (l : Launch) (D : va_G) (cy : Nat → ClassId) (A : Nat → Prop) (S : St) (h : Nat) (a b d e2 : Int32) (hG0 : G S) (hk : sK S h = 8) : MI l yX8_book wsX8_book ({ frames := 3, cells := 1, slots := 10, locals := 85 } : Room) 1 10 D cy A [.ref h, .int a, .int b, .int d, .int e2] S (fun r S1 => G S1 ∧ Fr [] [809] S S1 ∧ True) := by
  refine mt_start (cc := cX8_book) (maxL := 7) (ret := (some .int)) (by decide) rfl (Nat.le_of_ble_eq_true rfl) ?_
  intro p e s m args below meth c hx hb hr hlk hml hown hnm hts hK hZ hA hW hS ls hl
  have hl : lv_has ls 7 [(0, .ref h), (1, .int a), (2, .int b), (3, .int d), (4, .int e2)] := hl
  have hown : s.vm.findClass RX8 = some m.cls := hown
  have F : CallFix p m c cX8_book 7 s args wsX8_book RX8 := ⟨hx, hb, hml, hown, hts⟩
  have wi1 : ∀ w ∈ u_ws RX1 TX1 10, w ∈ wsX8_book := by decide +kernel
  have wi4 : ∀ w ∈ u_ws RX4 TX4 6, w ∈ wsX8_book := by decide +kernel
  have wi6 : ∀ w ∈ u_ws RX6 TX6 10, w ∈ wsX8_book := by decide +kernel
  have wi8 : ∀ w ∈ u_ws RX8 TX8 18, w ∈ wsX8_book := by decide +kernel
  have hG := hG0
  have hF : Fr [] [809] S S := Fr.rf _ _ _
  have g1 : (0 : Int) ≤ (sI S h 9).toInt ∧ (sI S h 9).toInt ≤ 200 := hG0.i hk (by decide) 9 (by decide)
  refine lv_iload_n hx hb dX8_book_0 rfl (lv_at hl 1 rfl) ?_
  refine lv_bipush (v := 6) hx hb dX8_book_1 (by decide) ?_
  refine pc_Si (As := [.int a, .int 6]) (rest := []) F (b_X8_isBelow l D cy A S a 6 ) (va_cwS 2 hts gX8_book_X8_isBelow rfl rfl rfl (by decide +kernel) ⟨Nat.le_of_ble_eq_true rfl, Nat.le_of_ble_eq_true rfl⟩) hK hZ hA hW hS rfl hl.1 rfl (Nat.le_of_ble_eq_true rfl) dX8_book_3 ⟨Nat.le_of_ble_eq_true rfl, Nat.le_of_ble_eq_true rfl⟩ (fun v2 T3 H locs p4 hW hS => ?_)
  obtain ⟨eT3, p4⟩ := p4
  rw [eT3] at hW
  clear eT3
  have p4 := isb_lit (n := 6) rfl p4
  refine lv_if_eq (tgt := 25) hx hb dX8_book_6 (by decide) (fun c5 => ?_) (fun c5 => ?_)
  · have c5i : Int32.toInt v2 = (0 : Int) := (i3_eq _ _).mp c5
    refine lv_iconst (v := (-1)) hx hb dX8_book_25 (by decide) ?_
    refine W.widen (k := 1) (n := 10) (by decide) (by decide) ?_
    exact pc_iret (v := (-1)) (S := S) hx hb hr hlk hK hZ hA hW hS (⟨hG, hF, trivial⟩) dX8_book_26
  · have c5i : ¬ (Int32.toInt v2 = (0 : Int)) := fun h9 => c5 ((i3_eq _ _).mpr h9)
    refine lv_iload_n hx hb dX8_book_9 rfl (lv_at hl 2 rfl) ?_
    refine lv_iconst (v := 4) hx hb dX8_book_10 (by decide) ?_
    refine pc_Si (As := [.int b, .int 4]) (rest := []) F (b_X8_isBelow l D cy A S b 4 ) (va_cwS 2 hts gX8_book_X8_isBelow rfl rfl rfl (by decide +kernel) ⟨Nat.le_of_ble_eq_true rfl, Nat.le_of_ble_eq_true rfl⟩) hK hZ hA hW hS rfl hl.1 rfl (Nat.le_of_ble_eq_true rfl) dX8_book_11 ⟨Nat.le_of_ble_eq_true rfl, Nat.le_of_ble_eq_true rfl⟩ (fun v6 T7 H locs p8 hW hS => ?_)
    obtain ⟨eT7, p8⟩ := p8
    rw [eT7] at hW
    clear eT7
    have p8 := isb_lit (n := 4) rfl p8
    refine lv_if_eq (tgt := 25) hx hb dX8_book_14 (by decide) (fun c9 => ?_) (fun c9 => ?_)
    · have c9i : Int32.toInt v6 = (0 : Int) := (i3_eq _ _).mp c9
      refine lv_iconst (v := (-1)) hx hb dX8_book_25 (by decide) ?_
      refine W.widen (k := 1) (n := 10) (by decide) (by decide) ?_
      exact pc_iret (v := (-1)) (S := S) hx hb hr hlk hK hZ hA hW hS (⟨hG, hF, trivial⟩) dX8_book_26
    · have c9i : ¬ (Int32.toInt v6 = (0 : Int)) := fun h9 => c9 ((i3_eq _ _).mpr h9)
      refine lv_iload_n hx hb dX8_book_17 rfl (lv_at hl 3 rfl) ?_
      refine lv_iconst (v := 2) hx hb dX8_book_18 (by decide) ?_
      refine pc_Si (As := [.int d, .int 2]) (rest := []) F (b_X8_isBelow l D cy A S d 2 ) (va_cwS 2 hts gX8_book_X8_isBelow rfl rfl rfl (by decide +kernel) ⟨Nat.le_of_ble_eq_true rfl, Nat.le_of_ble_eq_true rfl⟩) hK hZ hA hW hS rfl hl.1 rfl (Nat.le_of_ble_eq_true rfl) dX8_book_19 ⟨Nat.le_of_ble_eq_true rfl, Nat.le_of_ble_eq_true rfl⟩ (fun v10 T11 H locs p12 hW hS => ?_)
      obtain ⟨eT11, p12⟩ := p12
      rw [eT11] at hW
      clear eT11
      have p12 := isb_lit (n := 2) rfl p12
      refine lv_if_ne (tgt := 27) hx hb dX8_book_22 (by decide) (fun c13 => ?_) (fun c13 => ?_)
      · have c13i : ¬ (Int32.toInt v10 = (0 : Int)) := fun h9 => c13 ((i3_eq _ _).mpr h9)
        refine lv_iload hx hb dX8_book_27 (lv_at hl 4 rfl) ?_
        refine lv_aload_n hx hb dX8_book_29 rfl (lv_at hl 0 rfl) ?_
        refine pg_gi (ci := 8) (C := RX8) (T := TX8) (N := 18) hx hb hts wi8 hown hK hW hk (by decide) rfl 10 (by decide) (hts (.fieldLink RX8 96 "IceHall" "now" "I") (by decide +kernel)) (fun _ h9 => h9) rfl dX8_book_30 ?_
        have g14 : (0 : Int) ≤ (sI S h 10).toInt ∧ (sI S h 10).toInt ≤ 990 := hG.i hk (by decide) 10 (by decide)
        refine lv_icmp_lt (tgt := 59) hx hb dX8_book_33 (by decide) (fun c15 => ?_) (fun c15 => ?_)
        · have c15i : Int32.toInt e2 < Int32.toInt (sI S h 10) := (i3_lt _ _).mp c15
          refine lv_iconst (v := (-1)) hx hb dX8_book_59 (by decide) ?_
          refine W.widen (k := 1) (n := 10) (by decide) (by decide) ?_
          exact pc_iret (v := (-1)) (S := S) hx hb hr hlk hK hZ hA hW hS (⟨hG, hF, trivial⟩) dX8_book_60
        · have c15i : ¬ (Int32.toInt e2 < Int32.toInt (sI S h 10)) := fun h9 => c15 ((i3_lt _ _).mpr h9)
          refine lv_iload hx hb dX8_book_36 (lv_at hl 4 rfl) ?_
          refine lv_aload_n hx hb dX8_book_38 rfl (lv_at hl 0 rfl) ?_
          refine pg_gi (ci := 8) (C := RX8) (T := TX8) (N := 18) hx hb hts wi8 hown hK hW hk (by decide) rfl 10 (by decide) (hts (.fieldLink RX8 96 "IceHall" "now" "I") (by decide +kernel)) (fun _ h9 => h9) rfl dX8_book_39 ?_
          have g16 : (0 : Int) ≤ (sI S h 10).toInt ∧ (sI S h 10).toInt ≤ 990 := hG.i hk (by decide) 10 (by decide)
          refine lv_sipush (v := 999) hx hb dX8_book_42 (by decide) ?_
          refine lv_iadd hx hb dX8_book_45 ?_
          have l17 : ((sI S h 10) + 999).toInt = Int32.toInt (sI S h 10) + (999 : Int) := i3_add rfl rfl (by omega) (by omega)
          refine lv_icmp_gt (tgt := 59) hx hb dX8_book_46 (by decide) (fun c18 => ?_) (fun c18 => ?_)
          · have c18i : Int32.toInt ((sI S h 10) + 999) < Int32.toInt e2 := (i3_lt _ _).mp c18
            refine lv_iconst (v := (-1)) hx hb dX8_book_59 (by decide) ?_
            refine W.widen (k := 1) (n := 10) (by decide) (by decide) ?_
            exact pc_iret (v := (-1)) (S := S) hx hb hr hlk hK hZ hA hW hS (⟨hG, hF, trivial⟩) dX8_book_60
          · have c18i : ¬ (Int32.toInt ((sI S h 10) + 999) < Int32.toInt e2) := fun h9 => c18 ((i3_lt _ _).mpr h9)
            refine lv_aload_n hx hb dX8_book_49 rfl (lv_at hl 0 rfl) ?_
            refine pg_gi (ci := 8) (C := RX8) (T := TX8) (N := 18) hx hb hts wi8 hown hK hW hk (by decide) rfl 9 (by decide) (hts (.fieldLink RX8 99 "IceHall" "everBooked" "I") (by decide +kernel)) (fun _ h9 => h9) rfl dX8_book_50 ?_
            rw [show sI S h 9 = sI S h 9 from rfl]
            refine lv_sipush (v := 200) hx hb dX8_book_53 (by decide) ?_
            refine lv_icmp_lt (tgt := 61) hx hb dX8_book_56 (by decide) (fun c19 => ?_) (fun c19 => ?_)
            · have c19i : Int32.toInt (sI S h 9) < (200 : Int) := (i3_lt _ _).mp c19
              refine lv_aload_n hx hb dX8_book_61 rfl (lv_at hl 0 rfl) ?_
              obtain ⟨b20, rb20, kb20, nb20⟩ := hG0.r hk List.not_mem_nil 2 (show rty 8 2 = some (14, 6) from rfl)
              refine pg_gr (b := b20) (ci := 8) (C := RX8) (T := TX8) (N := 18) hx hb hts wi8 hown hK hW hk (by decide) rfl 2 (by decide) (hts (.fieldLink RX8 21 "IceHall" "rightsInForce" "[LIceHall$Rights;") (by decide +kernel)) (fun _ h9 => h9) rfl rb20 dX8_book_62 ?_
              refine lv_iload_n hx hb dX8_book_65 rfl (lv_at hl 1 rfl) ?_
              refine pg_aaldR hx hb hK hW kb20 (by rw [show sL S b20 = 6 from nb20]; exact r_in (by omega)) dX8_book_66 ?_
              rcases o21 : sR S b20 (Int32.toNatClampNeg a) with _ | b22
              · refine lv_astoreN (lv' := [(5, .null), (0, .ref h), (1, .int a), (2, .int b), (3, .int d), (4, .int e2)]) hx hb dX8_book_67 hl (by decide) rfl (fun ls hl => ?_)
                refine lv_aloadN hx hb dX8_book_69 (lv_at hl 0 rfl) ?_
                refine lv_ifnullN (tgt := 85) hx hb dX8_book_71 (by decide) ?_
                refine lv_iconst (v := (-1)) hx hb dX8_book_85 (by decide) ?_
                refine W.widen (k := 1) (n := 10) (by decide) (by decide) ?_
                exact pc_iret (v := (-1)) (S := S) hx hb hr hlk hK hZ hA hW hS (⟨hG, hF, trivial⟩) dX8_book_86
              · have kb22 : sK S b22 = 4 := hG.2.1 _ _ _ kb20 o21
                refine lv_astore (lv' := [(5, .ref b22), (0, .ref h), (1, .int a), (2, .int b), (3, .int d), (4, .int e2)]) hx hb dX8_book_67 hl (by decide) rfl (fun ls hl => ?_)
                refine lv_aload hx hb dX8_book_69 (lv_at hl 0 rfl) ?_
                refine lv_ifnull hx hb dX8_book_71 ?_
                refine lv_aload hx hb dX8_book_74 (lv_at hl 0 rfl) ?_
                refine lv_iload_n hx hb dX8_book_76 rfl (lv_at hl 3 rfl) ?_
                refine lv_iload hx hb dX8_book_77 (lv_at hl 5 rfl) ?_
                refine pc_Vi (As := [.int b, .int e2]) (rest := []) F (b_X4_let l D cy A S b22 b e2 hG kb22) (cwV 2 hts gX8_book_X4_let rfl rfl rfl (by decide +kernel) ⟨Nat.le_of_ble_eq_true rfl, Nat.le_of_ble_eq_true rfl⟩) hK hZ hA hW hS kb22 (by decide) rfl rfl hl.1 rfl (Nat.le_of_ble_eq_true rfl) dX8_book_79 ⟨Nat.le_of_ble_eq_true rfl, Nat.le_of_ble_eq_true rfl⟩ (fun v23 T24 H locs p25 hW hS => ?_)
                obtain ⟨eT24, p25⟩ := p25
                rw [eT24] at hW
                clear eT24
                refine lv_if_ne (tgt := 87) hx hb dX8_book_82 (by decide) (fun c26 => ?_) (fun c26 => ?_)
                · have c26i : ¬ (Int32.toInt v23 = (0 : Int)) := fun h9 => c26 ((i3_eq _ _).mpr h9)
                  refine lv_aload_n hx hb dX8_book_87 rfl (lv_at hl 1 rfl) ?_
                  refine lv_iload_n hx hb dX8_book_88 rfl (lv_at hl 2 rfl) ?_
                  refine lv_iload hx hb dX8_book_89 (lv_at hl 5 rfl) ?_
                  refine lv_sipush (v := 168) hx hb dX8_book_91 (by decide) ?_
                  refine lv_idiv hx hb dX8_book_94 (by decide) ?_
                  refine pc_Vi (As := [.int a, .int (e2 / 168)]) (rest := []) F (b_X8_countInWeek l D cy A S h a (e2 / 168) hG hk) (cwV 2 hts gX8_book_X8_countInWeek rfl rfl rfl (by decide +kernel) ⟨Nat.le_of_ble_eq_true rfl, Nat.le_of_ble_eq_true rfl⟩) hK hZ hA hW hS hk (by decide) rfl rfl hl.1 rfl (Nat.le_of_ble_eq_true rfl) dX8_book_95 ⟨Nat.le_of_ble_eq_true rfl, Nat.le_of_ble_eq_true rfl⟩ (fun v27 T28 H locs p29 hW hS => ?_)
                  obtain ⟨eT28, p29⟩ := p29
                  rw [eT28] at hW
                  clear eT28
                  refine lv_aload hx hb dX8_book_98 (lv_at hl 0 rfl) ?_
                  refine pg_gi (ci := 4) (C := RX4) (T := TX4) (N := 6) hx hb hts wi4 hown hK hW kb22 (by decide) rfl 3 (by decide) (hts (.fieldLink RX8 109 "IceHall$Rights" "inWeek" "I") (by decide +kernel)) (fun _ h9 => h9) rfl dX8_book_100 ?_
                  refine lv_icmp_lt (tgt := 108) hx hb dX8_book_103 (by decide) (fun c30 => ?_) (fun c30 => ?_)
                  · have c30i : Int32.toInt v27 < Int32.toInt (sI S b22 3) := (i3_lt _ _).mp c30
                    refine lv_aload_n hx hb dX8_book_108 rfl (lv_at hl 1 rfl) ?_
                    refine lv_iload_n hx hb dX8_book_109 rfl (lv_at hl 4 rfl) ?_
                    refine pc_Vq (As := [.int d]) (rest := []) F (b_X8_iceOf l D cy A S h d hG hk) (cwV 1 hts gX8_book_X8_iceOf rfl rfl rfl (by decide +kernel) ⟨Nat.le_of_ble_eq_true rfl, Nat.le_of_ble_eq_true rfl⟩) hK hZ hA hW hS hk (by decide) rfl rfl hl.1 rfl (Nat.le_of_ble_eq_true rfl) dX8_book_110 ⟨Nat.le_of_ble_eq_true rfl, Nat.le_of_ble_eq_true rfl⟩ (fun v31 T32 H locs p33 hW hS => ?_)
                    obtain ⟨eT32, p33⟩ := p33
                    rw [eT32] at hW
                    obtain ⟨b34, erb34, kb34⟩ := p33
                    rw [erb34]
                    refine lv_astore (lv' := [(6, .ref b34), (5, .ref b22), (0, .ref h), (1, .int a), (2, .int b), (3, .int d), (4, .int e2)]) hx hb dX8_book_113 hl (by decide) rfl (fun ls hl => ?_)
                    refine lv_aload hx hb dX8_book_115 (lv_at hl 0 rfl) ?_
                    refine lv_iload hx hb dX8_book_117 (lv_at hl 6 rfl) ?_
                    refine lv_aload_n hx hb dX8_book_119 rfl (lv_at hl 2 rfl) ?_
                    refine pg_gi (ci := 8) (C := RX8) (T := TX8) (N := 18) hx hb hts wi8 hown hK hW hk (by decide) rfl 14 (by decide) (hts (.fieldLink RX8 78 "IceHall" "restMost" "I") (by decide +kernel)) (fun _ h9 => h9) rfl dX8_book_120 ?_
                    refine pc_Vi (As := [.int e2, .int (sI S h 14)]) (rest := []) F (b_X1_hasRoom l D cy A S b34 e2 (sI S h 14) hG kb34) (cwV 2 hts gX8_book_X1_hasRoom rfl rfl rfl (by decide +kernel) ⟨Nat.le_of_ble_eq_true rfl, Nat.le_of_ble_eq_true rfl⟩) hK hZ hA hW hS kb34 (by decide) rfl rfl hl.1 rfl (Nat.le_of_ble_eq_true rfl) dX8_book_123 ⟨Nat.le_of_ble_eq_true rfl, Nat.le_of_ble_eq_true rfl⟩ (fun v35 T36 H locs p37 hW hS => ?_)
                    obtain ⟨eT36, p37⟩ := p37
                    rw [eT36] at hW
                    clear eT36
                    refine lv_if_ne (tgt := 131) hx hb dX8_book_126 (by decide) (fun c38 => ?_) (fun c38 => ?_)
                    · have c38i : ¬ (Int32.toInt v35 = (0 : Int)) := fun h9 => c38 ((i3_eq _ _).mpr h9)
                      refine lv_aload hx hb dX8_book_131 (lv_at hl 0 rfl) ?_
                      obtain ⟨b39, rb39, kb39, nb39⟩ := hG0.r kb34 List.not_mem_nil 0 (show rty 1 0 = some (0, 0) from rfl)
                      refine pg_gr (b := b39) (ci := 1) (C := RX1) (T := TX1) (N := 10) hx hb hts wi1 hown hK hW kb34 (by decide) rfl 0 (by decide) (hts (.fieldLink RX8 119 "IceHall$Ice" "taken" "LIceHall$HourSet;") (by decide +kernel)) (fun _ h9 => h9) rfl rb39 dX8_book_133 ?_
                      refine lv_iload hx hb dX8_book_136 (lv_at hl 6 rfl) ?_
                      refine pc_Vv (As := [.int e2]) (rest := []) F (b_X0_put l D cy A S b39 e2 hG kb39) (cwV 1 hts gX8_book_X0_put rfl rfl rfl (by decide +kernel) ⟨Nat.le_of_ble_eq_true rfl, Nat.le_of_ble_eq_true rfl⟩) hK hZ hA hW hS kb39 (by decide) rfl rfl hl.1 rfl (Nat.le_of_ble_eq_true rfl) dX8_book_138 ⟨Nat.le_of_ble_eq_true rfl, Nat.le_of_ble_eq_true rfl⟩ (fun T41 H locs p42 hW hS => ?_)
                      obtain ⟨hG, hFc, p42⟩ := p42
                      have w43 : sI T41 h 9 = sI S h 9 := (hFc.i hk (by decide) (by decide)).trans rfl
                      have hF : Fr [] [809] S T41 := hF.tr (hFc.mono (by decide))
                      refine lv_aload_n hx hb dX8_book_141 rfl (lv_at hl 2 rfl) ?_
                      obtain ⟨b44, rb44, kb44, nb44⟩ := hG0.r hk List.not_mem_nil 3 (show rty 8 3 = some (15, 200) from rfl)
                      refine pg_gr (b := b44) (ci := 8) (C := RX8) (T := TX8) (N := 18) hx hb hts wi8 hown hK hW (hF.k hk (by decide)) (by decide) rfl 3 (by decide) (hts (.fieldLink RX8 28 "IceHall" "sessions" "[LIceHall$Session;") (by decide +kernel)) (fun _ h9 => h9) rfl (hF.r hk (by decide) rb44) dX8_book_142 ?_
                      refine lv_aload_n hx hb dX8_book_145 rfl (lv_at hl 2 rfl) ?_
                      refine pg_gi (ci := 8) (C := RX8) (T := TX8) (N := 18) hx hb hts wi8 hown hK hW (hF.k hk (by decide)) (by decide) rfl 9 (by decide) (hts (.fieldLink RX8 99 "IceHall" "everBooked" "I") (by decide +kernel)) (fun _ h9 => h9) rfl dX8_book_146 ?_
                      rw [show sI T41 h 9 = sI S h 9 from w43]
                      refine pg_new (ci := 6) (C := RX6) (T := TX6) (N := 10) hx hb hts wi6 tyX6 tyX6_ok hown (hts (.classLink RX8 26 RX6) (by decide +kernel)) (hts (.instantiable RX6 10) (by decide +kernel)) (hts (.initialized RX6) (by decide +kernel)) hK hW hS hA (by decide) rfl df_6 (Nat.le_of_ble_eq_true rfl) (Nat.le_of_ble_eq_true rfl) dX8_book_149 (fun q45 H hq45 hW hS => ?_)
                      have nqq45_hF : 20 ≤ sK S q45 := hF.new hq45
                      obtain ⟨S46, eS46⟩ : ∃ T : St, T = stN T41 q45 6 0 := ⟨_, rfl⟩
                      rw [← eS46] at hW
                      have hG : G S46 := by rw [eS46]; exact (hG.N hq45).pl (c := 6) (by rw [kN, if_pos rfl]) rty_6
                      have w47 : sI S46 h 9 = sI S h 9 := by rw [eS46]; rw [iN, if_neg (fun e9 => by have := (hF.k hk (by decide)); rw [e9] at this; omega)]; exact w43
                      have hF : Fr [] [809] S S46 := by rw [eS46]; exact hF.N hq45
                      have hE48 : Fr [] [809] S46 S46 := Fr.rf _ _ _
                      have kq45 : sK S46 q45 = 6 := by rw [eS46, kN, if_pos rfl]
                      have nq45 : sL S46 q45 = 0 := by rw [eS46, lNw, if_pos rfl]
                      clear eS46
                      refine lv_dup hx hb dX8_book_152 rfl ?_
                      refine lv_iload_n hx hb dX8_book_153 rfl (lv_at hl 3 rfl) ?_
                      refine lv_iload_n hx hb dX8_book_154 rfl (lv_at hl 4 rfl) ?_
                      refine lv_iload_n hx hb dX8_book_155 rfl (lv_at hl 5 rfl) ?_
                      refine lv_iload hx hb dX8_book_156 (lv_at hl 6 rfl) ?_
                      refine lv_aload hx hb dX8_book_158 (lv_at hl 1 rfl) ?_
                      have lk49 : (sI S46 h 9).toInt = (sI S h 9).toInt := by rw [show sI S46 h 9 = sI S h 9 from w47]
                      refine pc_Iv (As := [.int a, .int b, .int d, .int e2, .ref b22]) (rest := [.ref q45, .int (sI S h 9), .ref b44]) F (b_X6_init l D cy A S46 [] q45 b22 a b d e2 hG kq45 (hF.k kb22 (by decide))) (cwI 5 hts gX8_book_X6_init rfl rfl rfl (hts (.initialized RX6) (by decide +kernel)) (hts (.methodLink RX8 128 yX6_init) (by decide +kernel)) (hts (.instanceMethod yX6_init) (by decide +kernel)) rfl (by decide +kernel) ⟨Nat.le_of_ble_eq_true rfl, Nat.le_of_ble_eq_true rfl⟩) hK hZ hA hW hS rfl hl.1 rfl (Nat.le_of_ble_eq_true rfl) dX8_book_160 ⟨Nat.le_of_ble_eq_true rfl, Nat.le_of_ble_eq_true rfl⟩ (fun T51 H locs p52 hW hS => ?_)
                      obtain ⟨hG, hFc, p52⟩ := p52
                      have k53 : sK T51 q45 = 6 := hFc.k kq45 (by decide)
                      have n54 : sL T51 q45 = 0 := hFc.n kq45 (by decide) nq45
                      have w55 : sI T51 h 9 = sI S h 9 := (hFc.ix (ni_c (fk_ne (hF.k hk (by decide)) kq45 (by decide)) ni_0) (hF.k hk (by decide)) (by decide) (by decide)).trans w47
                      have hF : Fr [] [809] S T51 := hF.trN (hFc.mono (by decide)) nqq45_hF
                      have hE56 : Fr [] [809] T51 T51 := Fr.rf _ _ _
                      have kq57 : sK T51 b44 = 15 := (hF.k kb44 (by decide))
                      refine pg_aast (t0 := 5) hx hb hK hW hS (by decide) kq57 k53 (by decide) rfl rfl (by rw [show sL T51 b44 = 200 from (hF.n kb44 (by decide) nb44)]; exact r_in (by omega)) dX8_book_163 (fun H locs hW hS => ?_)
                      obtain ⟨S58, eS58⟩ : ∃ T : St, T = stR T51 b44 (Int32.toNatClampNeg (sI S h 9)) (some q45) := ⟨_, rfl⟩
                      rw [← eS58] at hW
                      have hG : G S58 := by rw [eS58]; exact hG.R kq57 k53 (by decide)
                      have w59 : sI S58 h 9 = sI S h 9 := by rw [eS58]; exact w55
                      have hF : Fr [] [809] S S58 := by rw [eS58]; exact hF.R kq57 (by decide)
                      have hE56 : Fr [] [809] T51 S58 := by rw [eS58]; exact hE56.R kq57 (by decide)
                      clear eS58
                      refine lv_aload_n hx hb dX8_book_164 rfl (lv_at hl 2 rfl) ?_
                      refine lv_dup hx hb dX8_book_165 rfl ?_
                      refine pg_gi (ci := 8) (C := RX8) (T := TX8) (N := 18) hx hb hts wi8 hown hK hW (hF.k hk (by decide)) (by decide) rfl 9 (by decide) (hts (.fieldLink RX8 99 "IceHall" "everBooked" "I") (by decide +kernel)) (fun _ h9 => h9) rfl dX8_book_166 ?_
                      rw [show sI S58 h 9 = sI S h 9 from w59]
                      refine lv_iconst (v := 1) hx hb dX8_book_169 (by decide) ?_
                      refine lv_iadd hx hb dX8_book_170 ?_
                      have l60 : ((sI S h 9) + 1).toInt = Int32.toInt (sI S h 9) + (1 : Int) := i3_add rfl rfl (by omega) (by omega)
                      refine pg_pi (ci := 8) (C := RX8) (T := TX8) (N := 18) hx hb hts wi8 tyX8 tyX8_ok nmX8 hown hK hW hS (hF.k hk (by decide)) (by decide) rfl 9 (by decide) (hts (.fieldLink RX8 99 "IceHall" "everBooked" "I") (by decide +kernel)) (fun _ h9 => h9) rfl rfl rfl dX8_book_171 (fun H locs hW hS => ?_)
                      have kq61 : sK S58 h = 8 := (hF.k hk (by decide))
                      obtain ⟨S62, eS62⟩ : ∃ T : St, T = stI S58 h 9 ((sI S h 9) + 1) := ⟨_, rfl⟩
                      rw [← eS62] at hW
                      have hG : G S62 := by rw [eS62]; exact hG.I kq61 (ok_in 0 200 (by decide) (⟨by omega, by omega⟩))
                      have hF : Fr [] [809] S S62 := by rw [eS62]; exact hF.I kq61 (by decide)
                      have hE56 : Fr [] [809] T51 S62 := by rw [eS62]; exact hE56.I kq61 (by decide)
                      have w63 : sI S62 h 9 = (sI S h 9) + 1 := by rw [eS62]; exact iI_s
                      clear eS62
                      refine lv_aload_n hx hb dX8_book_174 rfl (lv_at hl 2 rfl) ?_
                      refine pg_gi (ci := 8) (C := RX8) (T := TX8) (N := 18) hx hb hts wi8 hown hK hW (hF.k hk (by decide)) (by decide) rfl 9 (by decide) (hts (.fieldLink RX8 99 "IceHall" "everBooked" "I") (by decide +kernel)) (fun _ h9 => h9) rfl dX8_book_175 ?_
                      rw [show sI S62 h 9 = (sI S h 9) + 1 from w63]
                      refine lv_iconst (v := 1) hx hb dX8_book_178 (by decide) ?_
                      refine lv_isub hx hb dX8_book_179 ?_
                      exact pc_iret (v := ((sI S h 9) + 1) - 1) (S := S62) hx hb hr hlk hK hZ hA hW hS (⟨hG, hF, trivial⟩) dX8_book_180
                    · have c38i : Int32.toInt v35 = (0 : Int) := (i3_eq _ _).mp c38
                      refine lv_iconst (v := (-1)) hx hb dX8_book_129 (by decide) ?_
                      refine W.widen (k := 1) (n := 10) (by decide) (by decide) ?_
                      exact pc_iret (v := (-1)) (S := S) hx hb hr hlk hK hZ hA hW hS (⟨hG, hF, trivial⟩) dX8_book_130
                  · have c30i : ¬ (Int32.toInt v27 < Int32.toInt (sI S b22 3)) := fun h9 => c30 ((i3_lt _ _).mpr h9)
                    refine lv_iconst (v := (-1)) hx hb dX8_book_106 (by decide) ?_
                    refine W.widen (k := 1) (n := 10) (by decide) (by decide) ?_
                    exact pc_iret (v := (-1)) (S := S) hx hb hr hlk hK hZ hA hW hS (⟨hG, hF, trivial⟩) dX8_book_107
                · have c26i : Int32.toInt v23 = (0 : Int) := (i3_eq _ _).mp c26
                  refine lv_iconst (v := (-1)) hx hb dX8_book_85 (by decide) ?_
                  refine W.widen (k := 1) (n := 10) (by decide) (by decide) ?_
                  exact pc_iret (v := (-1)) (S := S) hx hb hr hlk hK hZ hA hW hS (⟨hG, hF, trivial⟩) dX8_book_86
            · have c19i : ¬ (Int32.toInt (sI S h 9) < (200 : Int)) := fun h9 => c19 ((i3_lt _ _).mpr h9)
              refine lv_iconst (v := (-1)) hx hb dX8_book_59 (by decide) ?_
              refine W.widen (k := 1) (n := 10) (by decide) (by decide) ?_
              exact pc_iret (v := (-1)) (S := S) hx hb hr hlk hK hZ hA hW hS (⟨hG, hF, trivial⟩) dX8_book_60
      · have c13i : Int32.toInt v10 = (0 : Int) := (i3_eq _ _).mp c13
        refine lv_iconst (v := (-1)) hx hb dX8_book_25 (by decide) ?_
        refine W.widen (k := 1) (n := 10) (by decide) (by decide) ?_
        exact pc_iret (v := (-1)) (S := S) hx hb hr hlk hK hZ hA hW hS (⟨hG, hF, trivial⟩) dX8_book_26
set_option maxHeartbeats 4000000 in
set_option maxRecDepth 100000 in
theorem b_X8_cancel (l : Launch) (D : va_G) (cy : Nat → ClassId) (A : Nat → Prop) (S : St) (h : Nat) (a : Int32) (hG0 : G S) (hk : sK S h = 8) : MI l yX8_cancel wsX8_cancel ({ frames := 1, cells := 0, slots := 0, locals := 21 } : Room) 0 0 D cy A [.ref h, .int a] S (fun r S1 => G S1 ∧ Fr [] [606, 608] S S1 ∧ True) := by
  refine mt_start (cc := cX8_cancel) (maxL := 3) (ret := (some .boolean)) (by decide) rfl (Nat.le_of_ble_eq_true rfl) ?_
  intro p e s m args below meth c hx hb hr hlk hml hown hnm hts hK hZ hA hW hS ls hl
  have hl : lv_has ls 3 [(0, .ref h), (1, .int a)] := hl
  have hown : s.vm.findClass RX8 = some m.cls := hown
  have F : CallFix p m c cX8_cancel 3 s args wsX8_cancel RX8 := ⟨hx, hb, hml, hown, hts⟩
  have wi1 : ∀ w ∈ u_ws RX1 TX1 10, w ∈ wsX8_cancel := by decide +kernel
  have wi6 : ∀ w ∈ u_ws RX6 TX6 10, w ∈ wsX8_cancel := by decide +kernel
  have hG := hG0
  have hF : Fr [] [606, 608] S S := Fr.rf _ _ _
  refine lv_aload_n hx hb dX8_cancel_0 rfl (lv_at hl 0 rfl) ?_
  refine lv_iload_n hx hb dX8_cancel_1 rfl (lv_at hl 1 rfl) ?_
  refine pc_Vq (As := [.int a]) (rest := []) F (b_X8_sessionOf l D cy A S h a hG hk) (cwV 1 hts gX8_cancel_X8_sessionOf rfl rfl rfl (by decide +kernel) ⟨Nat.le_of_ble_eq_true rfl, Nat.le_of_ble_eq_true rfl⟩) hK hZ hA hW hS hk (by decide) rfl rfl hl.1 rfl (Nat.le_of_ble_eq_true rfl) dX8_cancel_2 ⟨Nat.le_of_ble_eq_true rfl, Nat.le_of_ble_eq_true rfl⟩ (fun v1 T2 H locs p3 hW hS => ?_)
  obtain ⟨eT2, p3⟩ := p3
  rw [eT2] at hW
  rcases p3 with erb4 | ⟨b4, erb4, kb4⟩
  · rw [erb4]
    refine lv_astore_nN (lv' := [(2, .null), (0, .ref h), (1, .int a)]) hx hb dX8_cancel_5 rfl hl (by decide) rfl (fun ls hl => ?_)
    refine lv_aload_nN hx hb dX8_cancel_6 rfl (lv_at hl 0 rfl) ?_
    refine lv_ifnullN (tgt := 17) hx hb dX8_cancel_7 (by decide) ?_
    refine lv_iconst (v := 0) hx hb dX8_cancel_17 (by decide) ?_
    exact pc_zret (v := 0) (S := S) hx hb hr hlk hK hZ hA hW hS (by decide) (⟨hG, hF, trivial⟩) dX8_cancel_18
  · rw [erb4]
    refine lv_astore_n (lv' := [(2, .ref b4), (0, .ref h), (1, .int a)]) hx hb dX8_cancel_5 rfl hl (by decide) rfl (fun ls hl => ?_)
    refine lv_aload_n hx hb dX8_cancel_6 rfl (lv_at hl 0 rfl) ?_
    refine lv_ifnull hx hb dX8_cancel_7 ?_
    refine lv_aload_n hx hb dX8_cancel_10 rfl (lv_at hl 0 rfl) ?_
    refine pg_gi (ci := 6) (C := RX6) (T := TX6) (N := 10) hx hb hts wi6 hown hK hW kb4 (by decide) rfl 6 (by decide) (hts (.fieldLink RX8 135 "IceHall$Session" "state" "I") (by decide +kernel)) (fun _ h9 => h9) rfl dX8_cancel_11 ?_
    refine lv_if_eq (tgt := 19) hx hb dX8_cancel_14 (by decide) (fun c5 => ?_) (fun c5 => ?_)
    · have c5i : Int32.toInt (sI S b4 6) = (0 : Int) := (i3_eq _ _).mp c5
      refine lv_aload_n hx hb dX8_cancel_19 rfl (lv_at hl 1 rfl) ?_
      refine lv_aload_n hx hb dX8_cancel_20 rfl (lv_at hl 0 rfl) ?_
      refine pg_gi (ci := 6) (C := RX6) (T := TX6) (N := 10) hx hb hts wi6 hown hK hW kb4 (by decide) rfl 4 (by decide) (hts (.fieldLink RX8 138 "IceHall$Session" "onSheet" "I") (by decide +kernel)) (fun _ h9 => h9) rfl dX8_cancel_21 ?_
      refine pc_Vq (As := [.int (sI S b4 4)]) (rest := []) F (b_X8_iceOf l D cy A S h (sI S b4 4) hG hk) (cwV 1 hts gX8_cancel_X8_iceOf rfl rfl rfl (by decide +kernel) ⟨Nat.le_of_ble_eq_true rfl, Nat.le_of_ble_eq_true rfl⟩) hK hZ hA hW hS hk (by decide) rfl rfl hl.1 rfl (Nat.le_of_ble_eq_true rfl) dX8_cancel_24 ⟨Nat.le_of_ble_eq_true rfl, Nat.le_of_ble_eq_true rfl⟩ (fun v6 T7 H locs p8 hW hS => ?_)
      obtain ⟨eT7, p8⟩ := p8
      rw [eT7] at hW
      obtain ⟨b9, erb9, kb9⟩ := p8
      rw [erb9]
      obtain ⟨b10, rb10, kb10, nb10⟩ := hG0.r kb9 List.not_mem_nil 0 (show rty 1 0 = some (0, 0) from rfl)
      refine pg_gr (b := b10) (ci := 1) (C := RX1) (T := TX1) (N := 10) hx hb hts wi1 hown hK hW kb9 (by decide) rfl 0 (by decide) (hts (.fieldLink RX8 119 "IceHall$Ice" "taken" "LIceHall$HourSet;") (by decide +kernel)) (fun _ h9 => h9) rfl rb10 dX8_cancel_27 ?_
      refine lv_aload_n hx hb dX8_cancel_30 rfl (lv_at hl 0 rfl) ?_
      refine pg_gi (ci := 6) (C := RX6) (T := TX6) (N := 10) hx hb hts wi6 hown hK hW kb4 (by decide) rfl 5 (by decide) (hts (.fieldLink RX8 141 "IceHall$Session" "hour" "I") (by decide +kernel)) (fun _ h9 => h9) rfl dX8_cancel_31 ?_
      refine pc_Vv (As := [.int (sI S b4 5)]) (rest := []) F (b_X0_drop l D cy A S b10 (sI S b4 5) hG kb10) (cwV 1 hts gX8_cancel_X0_drop rfl rfl rfl (by decide +kernel) ⟨Nat.le_of_ble_eq_true rfl, Nat.le_of_ble_eq_true rfl⟩) hK hZ hA hW hS kb10 (by decide) rfl rfl hl.1 rfl (Nat.le_of_ble_eq_true rfl) dX8_cancel_34 ⟨Nat.le_of_ble_eq_true rfl, Nat.le_of_ble_eq_true rfl⟩ (fun T12 H locs p13 hW hS => ?_)
      obtain ⟨hG, hFc, p13⟩ := p13
      have hF : Fr [] [606, 608] S T12 := hF.tr (hFc.mono (by decide))
      refine lv_aload_n hx hb dX8_cancel_37 rfl (lv_at hl 0 rfl) ?_
      refine lv_iconst (v := 3) hx hb dX8_cancel_38 (by decide) ?_
      refine pg_pi (ci := 6) (C := RX6) (T := TX6) (N := 10) hx hb hts wi6 tyX6 tyX6_ok nmX6 hown hK hW hS (hF.k kb4 (by decide)) (by decide) rfl 6 (by decide) (hts (.fieldLink RX8 135 "IceHall$Session" "state" "I") (by decide +kernel)) (fun _ h9 => h9) rfl rfl rfl dX8_cancel_39 (fun H locs hW hS => ?_)
      have kq14 : sK T12 b4 = 6 := (hF.k kb4 (by decide))
      obtain ⟨S15, eS15⟩ : ∃ T : St, T = stI T12 b4 6 3 := ⟨_, rfl⟩
      rw [← eS15] at hW
      have hG : G S15 := by rw [eS15]; exact hG.I kq14 (ok_fr (by decide))
      have hF : Fr [] [606, 608] S S15 := by rw [eS15]; exact hF.I kq14 (by decide)
      clear eS15
      refine lv_aload_n hx hb dX8_cancel_42 rfl (lv_at hl 0 rfl) ?_
      refine lv_aload_n hx hb dX8_cancel_43 rfl (lv_at hl 0 rfl) ?_
      refine pg_gi (ci := 6) (C := RX6) (T := TX6) (N := 10) hx hb hts wi6 hown hK hW (hF.k kb4 (by decide)) (by decide) rfl 2 (by decide) (hts (.fieldLink RX8 147 "IceHall$Session" "fee" "I") (by decide +kernel)) (fun _ h9 => h9) rfl dX8_cancel_44 ?_
      refine lv_aload_n hx hb dX8_cancel_47 rfl (lv_at hl 0 rfl) ?_
      refine pg_gi (ci := 6) (C := RX6) (T := TX6) (N := 10) hx hb hts wi6 hown hK hW (hF.k kb4 (by decide)) (by decide) rfl 3 (by decide) (hts (.fieldLink RX8 150 "IceHall$Session" "hundredths" "I") (by decide +kernel)) (fun _ h9 => h9) rfl dX8_cancel_48 ?_
      refine lv_imul hx hb dX8_cancel_51 ?_
      refine lv_bipush (v := 100) hx hb dX8_cancel_52 (by decide) ?_
      refine lv_idiv hx hb dX8_cancel_54 (by decide) ?_
      refine pg_pi (ci := 6) (C := RX6) (T := TX6) (N := 10) hx hb hts wi6 tyX6 tyX6_ok nmX6 hown hK hW hS (hF.k kb4 (by decide)) (by decide) rfl 8 (by decide) (hts (.fieldLink RX8 153 "IceHall$Session" "owes" "I") (by decide +kernel)) (fun _ h9 => h9) rfl rfl rfl dX8_cancel_55 (fun H locs hW hS => ?_)
      have kq16 : sK S15 b4 = 6 := (hF.k kb4 (by decide))
      obtain ⟨S17, eS17⟩ : ∃ T : St, T = stI S15 b4 8 (((sI S15 b4 2) * (sI S15 b4 3)) / 100) := ⟨_, rfl⟩
      rw [← eS17] at hW
      have hG : G S17 := by rw [eS17]; exact hG.I kq16 (ok_fr (by decide))
      have hF : Fr [] [606, 608] S S17 := by rw [eS17]; exact hF.I kq16 (by decide)
      clear eS17
      refine lv_iconst (v := 1) hx hb dX8_cancel_58 (by decide) ?_
      exact pc_zret (v := 1) (S := S17) hx hb hr hlk hK hZ hA hW hS (by decide) (⟨hG, hF, trivial⟩) dX8_cancel_59
    · have c5i : ¬ (Int32.toInt (sI S b4 6) = (0 : Int)) := fun h9 => c5 ((i3_eq _ _).mpr h9)
      refine lv_iconst (v := 0) hx hb dX8_cancel_17 (by decide) ?_
      exact pc_zret (v := 0) (S := S) hx hb hr hlk hK hZ hA hW hS (by decide) (⟨hG, hF, trivial⟩) dX8_cancel_18
set_option maxHeartbeats 4000000 in
set_option maxRecDepth 100000 in
theorem b_X8_close (l : Launch) (D : va_G) (cy : Nat → ClassId) (A : Nat → Prop) (S : St) (h : Nat) (a b d : Int32) (hG0 : G S) (hk : sK S h = 8) : MI l yX8_close wsX8_close ({ frames := 11, cells := 0, slots := 0, locals := 269 } : Room) 0 0 D cy A [.ref h, .int a, .int b, .int d] S (fun r S1 => G S1 ∧ Fr [] [102, 206, 207, 208, 209, 604, 605, 606, 609, 1100] S S1 ∧ True) := by
  refine mt_start (cc := cX8_close) (maxL := 6) (ret := (some .int)) (by decide) rfl (Nat.le_of_ble_eq_true rfl) ?_
  intro p e s m args below meth c hx hb hr hlk hml hown hnm hts hK hZ hA hW hS ls hl
  have hl : lv_has ls 6 [(0, .ref h), (1, .int a), (2, .int b), (3, .int d)] := hl
  have hown : s.vm.findClass RX8 = some m.cls := hown
  have F : CallFix p m c cX8_close 6 s args wsX8_close RX8 := ⟨hx, hb, hml, hown, hts⟩
  have wi1 : ∀ w ∈ u_ws RX1 TX1 10, w ∈ wsX8_close := by decide +kernel
  have wi8 : ∀ w ∈ u_ws RX8 TX8 18, w ∈ wsX8_close := by decide +kernel
  have hG := hG0
  have hF : Fr [] [102, 206, 207, 208, 209, 604, 605, 606, 609, 1100] S S := Fr.rf _ _ _
  refine lv_iload_n hx hb dX8_close_0 rfl (lv_at hl 1 rfl) ?_
  refine lv_iconst (v := 2) hx hb dX8_close_1 (by decide) ?_
  refine pc_Si (As := [.int a, .int 2]) (rest := []) F (b_X8_isBelow l D cy A S a 2 ) (va_cwS 2 hts gX8_close_X8_isBelow rfl rfl rfl (by decide +kernel) ⟨Nat.le_of_ble_eq_true rfl, Nat.le_of_ble_eq_true rfl⟩) hK hZ hA hW hS rfl hl.1 rfl (Nat.le_of_ble_eq_true rfl) dX8_close_2 ⟨Nat.le_of_ble_eq_true rfl, Nat.le_of_ble_eq_true rfl⟩ (fun v1 T2 H locs p3 hW hS => ?_)
  obtain ⟨eT2, p3⟩ := p3
  rw [eT2] at hW
  clear eT2
  have p3 := isb_lit (n := 2) rfl p3
  refine lv_if_eq (tgt := 33) hx hb dX8_close_5 (by decide) (fun c4 => ?_) (fun c4 => ?_)
  · have c4i : Int32.toInt v1 = (0 : Int) := (i3_eq _ _).mp c4
    refine lv_iconst (v := (-1)) hx hb dX8_close_33 (by decide) ?_
    exact pc_iret (v := (-1)) (S := S) hx hb hr hlk hK hZ hA hW hS (⟨hG, hF, trivial⟩) dX8_close_34
  · have c4i : ¬ (Int32.toInt v1 = (0 : Int)) := fun h9 => c4 ((i3_eq _ _).mpr h9)
    refine lv_iload_n hx hb dX8_close_8 rfl (lv_at hl 2 rfl) ?_
    refine lv_aload_n hx hb dX8_close_9 rfl (lv_at hl 0 rfl) ?_
    refine pg_gi (ci := 8) (C := RX8) (T := TX8) (N := 18) hx hb hts wi8 hown hK hW hk (by decide) rfl 10 (by decide) (hts (.fieldLink RX8 96 "IceHall" "now" "I") (by decide +kernel)) (fun _ h9 => h9) rfl dX8_close_10 ?_
    have g5 : (0 : Int) ≤ (sI S h 10).toInt ∧ (sI S h 10).toInt ≤ 990 := hG.i hk (by decide) 10 (by decide)
    refine lv_icmp_lt (tgt := 33) hx hb dX8_close_13 (by decide) (fun c6 => ?_) (fun c6 => ?_)
    · have c6i : Int32.toInt b < Int32.toInt (sI S h 10) := (i3_lt _ _).mp c6
      refine lv_iconst (v := (-1)) hx hb dX8_close_33 (by decide) ?_
      exact pc_iret (v := (-1)) (S := S) hx hb hr hlk hK hZ hA hW hS (⟨hG, hF, trivial⟩) dX8_close_34
    · have c6i : ¬ (Int32.toInt b < Int32.toInt (sI S h 10)) := fun h9 => c6 ((i3_lt _ _).mpr h9)
      refine lv_iload_n hx hb dX8_close_16 rfl (lv_at hl 3 rfl) ?_
      refine lv_iload_n hx hb dX8_close_17 rfl (lv_at hl 2 rfl) ?_
      refine lv_icmp_le (tgt := 33) hx hb dX8_close_18 (by decide) (fun c7 => ?_) (fun c7 => ?_)
      · have c7i : Int32.toInt d ≤ Int32.toInt b := (i3_le _ _).mp c7
        refine lv_iconst (v := (-1)) hx hb dX8_close_33 (by decide) ?_
        exact pc_iret (v := (-1)) (S := S) hx hb hr hlk hK hZ hA hW hS (⟨hG, hF, trivial⟩) dX8_close_34
      · have c7i : ¬ (Int32.toInt d ≤ Int32.toInt b) := fun h9 => c7 ((i3_le _ _).mpr h9)
        refine lv_iload_n hx hb dX8_close_21 rfl (lv_at hl 3 rfl) ?_
        refine lv_aload_n hx hb dX8_close_22 rfl (lv_at hl 0 rfl) ?_
        refine pg_gi (ci := 8) (C := RX8) (T := TX8) (N := 18) hx hb hts wi8 hown hK hW hk (by decide) rfl 10 (by decide) (hts (.fieldLink RX8 96 "IceHall" "now" "I") (by decide +kernel)) (fun _ h9 => h9) rfl dX8_close_23 ?_
        have g8 : (0 : Int) ≤ (sI S h 10).toInt ∧ (sI S h 10).toInt ≤ 990 := hG.i hk (by decide) 10 (by decide)
        refine lv_sipush (v := 1000) hx hb dX8_close_26 (by decide) ?_
        refine lv_iadd hx hb dX8_close_29 ?_
        have l9 : ((sI S h 10) + 1000).toInt = Int32.toInt (sI S h 10) + (1000 : Int) := i3_add rfl rfl (by omega) (by omega)
        refine lv_icmp_le (tgt := 35) hx hb dX8_close_30 (by decide) (fun c10 => ?_) (fun c10 => ?_)
        · have c10i : Int32.toInt d ≤ Int32.toInt ((sI S h 10) + 1000) := (i3_le _ _).mp c10
          refine lv_aload_n hx hb dX8_close_35 rfl (lv_at hl 0 rfl) ?_
          refine lv_iload_n hx hb dX8_close_36 rfl (lv_at hl 1 rfl) ?_
          refine pc_Vq (As := [.int a]) (rest := []) F (b_X8_iceOf l D cy A S h a hG hk) (cwV 1 hts gX8_close_X8_iceOf rfl rfl rfl (by decide +kernel) ⟨Nat.le_of_ble_eq_true rfl, Nat.le_of_ble_eq_true rfl⟩) hK hZ hA hW hS hk (by decide) rfl rfl hl.1 rfl (Nat.le_of_ble_eq_true rfl) dX8_close_37 ⟨Nat.le_of_ble_eq_true rfl, Nat.le_of_ble_eq_true rfl⟩ (fun v11 T12 H locs p13 hW hS => ?_)
          obtain ⟨eT12, p13⟩ := p13
          rw [eT12] at hW
          obtain ⟨b14, erb14, kb14⟩ := p13
          rw [erb14]
          refine lv_astore (lv' := [(4, .ref b14), (0, .ref h), (1, .int a), (2, .int b), (3, .int d)]) hx hb dX8_close_40 hl (by decide) rfl (fun ls hl => ?_)
          refine lv_iload_n hx hb dX8_close_42 rfl (lv_at hl 4 rfl) ?_
          refine lv_iload_n hx hb dX8_close_43 rfl (lv_at hl 3 rfl) ?_
          refine lv_isub hx hb dX8_close_44 ?_
          have l15 : (d - b).toInt = Int32.toInt d - Int32.toInt b := i3_sub rfl rfl (by omega) (by omega)
          refine lv_bipush (v := 100) hx hb dX8_close_45 (by decide) ?_
          refine lv_icmp_gt (tgt := 60) hx hb dX8_close_47 (by decide) (fun c16 => ?_) (fun c16 => ?_)
          · have c16i : (100 : Int) < Int32.toInt (d - b) := (i3_lt _ _).mp c16
            refine lv_iconst (v := (-1)) hx hb dX8_close_60 (by decide) ?_
            exact pc_iret (v := (-1)) (S := S) hx hb hr hlk hK hZ hA hW hS (⟨hG, hF, trivial⟩) dX8_close_61
          · have c16i : ¬ ((100 : Int) < Int32.toInt (d - b)) := fun h9 => c16 ((i3_lt _ _).mpr h9)
            refine lv_aload hx hb dX8_close_50 (lv_at hl 0 rfl) ?_
            refine pg_gi (ci := 1) (C := RX1) (T := TX1) (N := 10) hx hb hts wi1 hown hK hW kb14 (by decide) rfl 2 (by decide) (hts (.fieldLink RX8 164 "IceHall$Ice" "closings" "I") (by decide +kernel)) (fun _ h9 => h9) rfl dX8_close_52 ?_
            refine lv_bipush (v := 10) hx hb dX8_close_55 (by decide) ?_
            refine lv_icmp_lt (tgt := 62) hx hb dX8_close_57 (by decide) (fun c17 => ?_) (fun c17 => ?_)
            · have c17i : Int32.toInt (sI S b14 2) < (10 : Int) := (i3_lt _ _).mp c17
              refine lv_aload_n hx hb dX8_close_62 rfl (lv_at hl 1 rfl) ?_
              refine lv_iload_n hx hb dX8_close_63 rfl (lv_at hl 2 rfl) ?_
              refine lv_iload_n hx hb dX8_close_64 rfl (lv_at hl 3 rfl) ?_
              refine lv_iload_n hx hb dX8_close_65 rfl (lv_at hl 4 rfl) ?_
              refine pc_Vi (As := [.int a, .int b, .int d]) (rest := []) F (b_X8_gatherSessions l D cy A S h a b d hG hk) (cwV 3 hts gX8_close_X8_gatherSessions rfl rfl rfl (by decide +kernel) ⟨Nat.le_of_ble_eq_true rfl, Nat.le_of_ble_eq_true rfl⟩) hK hZ hA hW hS hk (by decide) rfl rfl hl.1 rfl (Nat.le_of_ble_eq_true rfl) dX8_close_66 ⟨Nat.le_of_ble_eq_true rfl, Nat.le_of_ble_eq_true rfl⟩ (fun v18 T19 H locs p20 hW hS => ?_)
              obtain ⟨hG, hFc, p20⟩ := p20
              have hF : Fr [] [102, 206, 207, 208, 209, 604, 605, 606, 609, 1100] S T19 := hF.tr (hFc.mono (by decide))
              refine lv_if_ne (tgt := 74) hx hb dX8_close_69 (by decide) (fun c21 => ?_) (fun c21 => ?_)
              · have c21i : ¬ (Int32.toInt v18 = (0 : Int)) := fun h9 => c21 ((i3_eq _ _).mpr h9)
                refine lv_aload hx hb dX8_close_74 (lv_at hl 0 rfl) ?_
                refine lv_dup hx hb dX8_close_76 rfl ?_
                refine pg_gi (ci := 1) (C := RX1) (T := TX1) (N := 10) hx hb hts wi1 hown hK hW (hF.k kb14 (by decide)) (by decide) rfl 2 (by decide) (hts (.fieldLink RX8 164 "IceHall$Ice" "closings" "I") (by decide +kernel)) (fun _ h9 => h9) rfl dX8_close_77 ?_
                refine lv_iconst (v := 1) hx hb dX8_close_80 (by decide) ?_
                refine lv_iadd hx hb dX8_close_81 ?_
                refine pg_pi (ci := 1) (C := RX1) (T := TX1) (N := 10) hx hb hts wi1 tyX1 tyX1_ok nmX1 hown hK hW hS (hF.k kb14 (by decide)) (by decide) rfl 2 (by decide) (hts (.fieldLink RX8 164 "IceHall$Ice" "closings" "I") (by decide +kernel)) (fun _ h9 => h9) rfl rfl rfl dX8_close_82 (fun H locs hW hS => ?_)
                have kq22 : sK T19 b14 = 1 := (hF.k kb14 (by decide))
                obtain ⟨S23, eS23⟩ : ∃ T : St, T = stI T19 b14 2 ((sI T19 b14 2) + 1) := ⟨_, rfl⟩
                rw [← eS23] at hW
                have hG : G S23 := by rw [eS23]; exact hG.I kq22 (ok_fr (by decide))
                have hF : Fr [] [102, 206, 207, 208, 209, 604, 605, 606, 609, 1100] S S23 := by rw [eS23]; exact hF.I kq22 (by decide)
                clear eS23
                refine lv_iload_n hx hb dX8_close_85 rfl (lv_at hl 3 rfl) ?_
                refine lv_istore (lv' := [(5, .int b), (4, .ref b14), (0, .ref h), (1, .int a), (2, .int b), (3, .int d)]) hx hb dX8_close_86 hl (by decide) rfl (fun ls hl => ?_)
                have hE24 : Fr [] [102, 206, 207, 208, 209, 604, 605, 606, 609, 1100] S23 S23 := Fr.rf _ _ _
                have loop88 : ∀ (zn : Nat) (y : Int32) (L88 : St) (H : Heap) (locs : List Loc) (ls : Array Slot), (G L88) → (Fr [] [102, 206, 207, 208, 209, 604, 605, 606, 609, 1100] S23 L88) → (d.toInt - y.toInt).toNat < zn → PW D cy A L88 H → va_S A s.heap H locs → lv_has ls 6 [(0, .ref h), (1, .int a), (2, .int b), (3, .int d), (4, .ref b14), (5, .int y)] → W p l e ({ frames := 11, cells := 0, slots := 0, locals := 269 } : Room) s m args below meth c H locs 0 0 (MQ below (va_Qi (fun r S1 => G S1 ∧ Fr [] [102, 206, 207, 208, 209, 604, 605, 606, 609, 1100] S S1 ∧ True) (PU D cy A) A) args s 0 0 A) (F0 m 88 ls []) := by
                  intro zn
                  induction zn with
                  | zero => intros; exact absurd (by assumption) (Nat.not_lt_zero _)
                  | succ zn ih88 =>
                    intro y L88 H locs ls hG hL88 hme88 hW hS hl
                    have hF : Fr [] [102, 206, 207, 208, 209, 604, 605, 606, 609, 1100] S L88 := hF.tr hL88
                    have hE24 := hL88
                    have hb9 := i3_bd y
                    refine lv_iload hx hb dX8_close_88 (lv_at hl 5 rfl) ?_
                    refine lv_iload_n hx hb dX8_close_90 rfl (lv_at hl 3 rfl) ?_
                    refine lv_icmp_ge (tgt := 120) hx hb dX8_close_91 (by decide) (fun c25 => ?_) (fun c25 => ?_)
                    · have c25i : Int32.toInt d ≤ Int32.toInt y := (i3_le _ _).mp c25
                      refine lv_aload_n hx hb dX8_close_120 rfl (lv_at hl 0 rfl) ?_
                      obtain ⟨b26, rb26, kb26, nb26⟩ := hG0.r hk List.not_mem_nil 7 (show rty 8 7 = some (2, 0) from rfl)
                      refine pg_gr (b := b26) (ci := 8) (C := RX8) (T := TX8) (N := 18) hx hb hts wi8 hown hK hW (hF.k hk (by decide)) (by decide) rfl 7 (by decide) (hts (.fieldLink RX8 57 "IceHall" "mover" "LIceHall$Mover;") (by decide +kernel)) (fun _ h9 => h9) rfl (hF.r hk (by decide) rb26) dX8_close_121 ?_
                      refine lv_aload_n hx hb dX8_close_124 rfl (lv_at hl 0 rfl) ?_
                      refine pg_gi (ci := 8) (C := RX8) (T := TX8) (N := 18) hx hb hts wi8 hown hK hW (hF.k hk (by decide)) (by decide) rfl 10 (by decide) (hts (.fieldLink RX8 96 "IceHall" "now" "I") (by decide +kernel)) (fun _ h9 => h9) rfl dX8_close_125 ?_
                      have g27 : (0 : Int) ≤ (sI L88 h 10).toInt ∧ (sI L88 h 10).toInt ≤ 990 := hG.i (hF.k hk (by decide)) (by decide) 10 (by decide)
                      refine lv_aload_n hx hb dX8_close_128 rfl (lv_at hl 0 rfl) ?_
                      refine pg_gi (ci := 8) (C := RX8) (T := TX8) (N := 18) hx hb hts wi8 hown hK hW (hF.k hk (by decide)) (by decide) rfl 14 (by decide) (hts (.fieldLink RX8 78 "IceHall" "restMost" "I") (by decide +kernel)) (fun _ h9 => h9) rfl dX8_close_129 ?_
                      refine pc_Vv (As := [.int (sI L88 h 10), .int (sI L88 h 14)]) (rest := []) F (b_X2_search l D cy A L88 b26 (sI L88 h 10) (sI L88 h 14) hG (hF.k kb26 (by decide))) (cwV 2 hts gX8_close_X2_search rfl rfl rfl (by decide +kernel) ⟨Nat.le_of_ble_eq_true rfl, Nat.le_of_ble_eq_true rfl⟩) hK hZ hA hW hS (hF.k kb26 (by decide)) (by decide) rfl rfl hl.1 rfl (Nat.le_of_ble_eq_true rfl) dX8_close_132 ⟨Nat.le_of_ble_eq_true rfl, Nat.le_of_ble_eq_true rfl⟩ (fun T29 H locs p30 hW hS => ?_)
                      obtain ⟨hG, hFc, p30⟩ := p30
                      have hF : Fr [] [102, 206, 207, 208, 209, 604, 605, 606, 609, 1100] S T29 := hF.tr (hFc.mono (by decide))
                      have hE24 : Fr [] [102, 206, 207, 208, 209, 604, 605, 606, 609, 1100] S23 T29 := hE24.tr (hFc.mono (by decide))
                      refine lv_aload_n hx hb dX8_close_135 rfl (lv_at hl 0 rfl) ?_
                      refine pg_gr (b := b26) (ci := 8) (C := RX8) (T := TX8) (N := 18) hx hb hts wi8 hown hK hW (hF.k hk (by decide)) (by decide) rfl 7 (by decide) (hts (.fieldLink RX8 57 "IceHall" "mover" "LIceHall$Mover;") (by decide +kernel)) (fun _ h9 => h9) rfl (hF.r hk (by decide) rb26) dX8_close_136 ?_
                      refine pc_Vi (As := []) (rest := []) F (b_X2_carryOut l D cy A T29 b26 hG (hF.k kb26 (by decide))) (cwV 0 hts gX8_close_X2_carryOut rfl rfl rfl (by decide +kernel) ⟨Nat.le_of_ble_eq_true rfl, Nat.le_of_ble_eq_true rfl⟩) hK hZ hA hW hS (hF.k kb26 (by decide)) (by decide) rfl rfl hl.1 rfl (Nat.le_of_ble_eq_true rfl) dX8_close_139 ⟨Nat.le_of_ble_eq_true rfl, Nat.le_of_ble_eq_true rfl⟩ (fun v31 T32 H locs p33 hW hS => ?_)
                      obtain ⟨hG, hFc, p33⟩ := p33
                      have hF : Fr [] [102, 206, 207, 208, 209, 604, 605, 606, 609, 1100] S T32 := hF.tr (hFc.mono (by decide))
                      have hE24 : Fr [] [102, 206, 207, 208, 209, 604, 605, 606, 609, 1100] S23 T32 := hE24.tr (hFc.mono (by decide))
                      exact pc_iret (v := v31) (S := T32) hx hb hr hlk hK hZ hA hW hS (⟨hG, hF, trivial⟩) dX8_close_142
                    · have c25i : ¬ (Int32.toInt d ≤ Int32.toInt y) := fun h9 => c25 ((i3_le _ _).mpr h9)
                      refine lv_aload hx hb dX8_close_94 (lv_at hl 4 rfl) ?_
                      obtain ⟨b34, rb34, kb34, nb34⟩ := hG0.r kb14 List.not_mem_nil 0 (show rty 1 0 = some (0, 0) from rfl)
                      refine pg_gr (b := b34) (ci := 1) (C := RX1) (T := TX1) (N := 10) hx hb hts wi1 hown hK hW (hF.k kb14 (by decide)) (by decide) rfl 0 (by decide) (hts (.fieldLink RX8 119 "IceHall$Ice" "taken" "LIceHall$HourSet;") (by decide +kernel)) (fun _ h9 => h9) rfl (hF.r kb14 (by decide) rb34) dX8_close_96 ?_
                      refine lv_iload hx hb dX8_close_99 (lv_at hl 5 rfl) ?_
                      refine pc_Vv (As := [.int y]) (rest := []) F (b_X0_drop l D cy A L88 b34 y hG (hF.k kb34 (by decide))) (cwV 1 hts gX8_close_X0_drop rfl rfl rfl (by decide +kernel) ⟨Nat.le_of_ble_eq_true rfl, Nat.le_of_ble_eq_true rfl⟩) hK hZ hA hW hS (hF.k kb34 (by decide)) (by decide) rfl rfl hl.1 rfl (Nat.le_of_ble_eq_true rfl) dX8_close_101 ⟨Nat.le_of_ble_eq_true rfl, Nat.le_of_ble_eq_true rfl⟩ (fun T36 H locs p37 hW hS => ?_)
                      obtain ⟨hG, hFc, p37⟩ := p37
                      have hF : Fr [] [102, 206, 207, 208, 209, 604, 605, 606, 609, 1100] S T36 := hF.tr (hFc.mono (by decide))
                      have hE24 : Fr [] [102, 206, 207, 208, 209, 604, 605, 606, 609, 1100] S23 T36 := hE24.tr (hFc.mono (by decide))
                      refine lv_aload hx hb dX8_close_104 (lv_at hl 4 rfl) ?_
                      obtain ⟨b38, rb38, kb38, nb38⟩ := hG0.r kb14 List.not_mem_nil 1 (show rty 1 1 = some (0, 0) from rfl)
                      refine pg_gr (b := b38) (ci := 1) (C := RX1) (T := TX1) (N := 10) hx hb hts wi1 hown hK hW (hF.k kb14 (by decide)) (by decide) rfl 1 (by decide) (hts (.fieldLink RX8 171 "IceHall$Ice" "closed" "LIceHall$HourSet;") (by decide +kernel)) (fun _ h9 => h9) rfl (hF.r kb14 (by decide) rb38) dX8_close_106 ?_
                      refine lv_iload hx hb dX8_close_109 (lv_at hl 5 rfl) ?_
                      refine pc_Vv (As := [.int y]) (rest := []) F (b_X0_put l D cy A T36 b38 y hG (hF.k kb38 (by decide))) (cwV 1 hts gX8_close_X0_put rfl rfl rfl (by decide +kernel) ⟨Nat.le_of_ble_eq_true rfl, Nat.le_of_ble_eq_true rfl⟩) hK hZ hA hW hS (hF.k kb38 (by decide)) (by decide) rfl rfl hl.1 rfl (Nat.le_of_ble_eq_true rfl) dX8_close_111 ⟨Nat.le_of_ble_eq_true rfl, Nat.le_of_ble_eq_true rfl⟩ (fun T40 H locs p41 hW hS => ?_)
                      obtain ⟨hG, hFc, p41⟩ := p41
                      have hF : Fr [] [102, 206, 207, 208, 209, 604, 605, 606, 609, 1100] S T40 := hF.tr (hFc.mono (by decide))
                      have hE24 : Fr [] [102, 206, 207, 208, 209, 604, 605, 606, 609, 1100] S23 T40 := hE24.tr (hFc.mono (by decide))
                      refine lv_iinc (v := y + 1) (lv' := [(5, .int (y + 1)), (0, .ref h), (1, .int a), (2, .int b), (3, .int d), (4, .ref b14)]) hx hb dX8_close_114 hl (k := 5) rfl rfl (by decide) rfl (fun ls hl => ?_)
                      have i42 : (y + 1).toInt = (y).toInt + 1 := i3_add rfl rfl (by omega) (by omega)
                      refine lv_goto (tgt := 88) hx hb dX8_close_117 (by decide) ?_
                      exact ih88 (y + 1) T40 _ _ ls hG hE24 (by omega) hW hS (lv_cast (lv_sub hl [1, 2, 3, 4, 5, 0] rfl) (rfl))
                exact loop88 _ b S23 _ _ ls hG hE24 (Nat.lt_succ_self _) hW hS (lv_cast (lv_sub hl [2, 3, 4, 5, 1, 0] rfl) (rfl))
              · have c21i : Int32.toInt v18 = (0 : Int) := (i3_eq _ _).mp c21
                refine lv_iconst (v := (-1)) hx hb dX8_close_72 (by decide) ?_
                exact pc_iret (v := (-1)) (S := T19) hx hb hr hlk hK hZ hA hW hS (⟨hG, hF, trivial⟩) dX8_close_73
            · have c17i : ¬ (Int32.toInt (sI S b14 2) < (10 : Int)) := fun h9 => c17 ((i3_lt _ _).mpr h9)
              refine lv_iconst (v := (-1)) hx hb dX8_close_60 (by decide) ?_
              exact pc_iret (v := (-1)) (S := S) hx hb hr hlk hK hZ hA hW hS (⟨hG, hF, trivial⟩) dX8_close_61
        · have c10i : ¬ (Int32.toInt d ≤ Int32.toInt ((sI S h 10) + 1000)) := fun h9 => c10 ((i3_le _ _).mpr h9)
          refine lv_iconst (v := (-1)) hx hb dX8_close_33 (by decide) ?_
          exact pc_iret (v := (-1)) (S := S) hx hb hr hlk hK hZ hA hW hS (⟨hG, hF, trivial⟩) dX8_close_34
set_option maxHeartbeats 4000000 in
set_option maxRecDepth 100000 in
theorem b_X8_plan (l : Launch) (D : va_G) (cy : Nat → ClassId) (A : Nat → Prop) (S : St) (h : Nat) (a b : Int32) (hG0 : G S) (hk : sK S h = 8) : MI l yX8_plan wsX8_plan ({ frames := 6, cells := 0, slots := 0, locals := 156 } : Room) 0 0 D cy A [.ref h, .int a, .int b] S (fun r S1 => G S1 ∧ Fr [] [304, 305, 306, 307, 308, 1100] S S1 ∧ True) := by
  refine mt_start (cc := cX8_plan) (maxL := 6) (ret := (some .int)) (by decide) rfl (Nat.le_of_ble_eq_true rfl) ?_
  intro p e s m args below meth c hx hb hr hlk hml hown hnm hts hK hZ hA hW hS ls hl
  have hl : lv_has ls 6 [(0, .ref h), (1, .int a), (2, .int b)] := hl
  have hown : s.vm.findClass RX8 = some m.cls := hown
  have F : CallFix p m c cX8_plan 6 s args wsX8_plan RX8 := ⟨hx, hb, hml, hown, hts⟩
  have wi8 : ∀ w ∈ u_ws RX8 TX8 18, w ∈ wsX8_plan := by decide +kernel
  have hG := hG0
  have hF : Fr [] [304, 305, 306, 307, 308, 1100] S S := Fr.rf _ _ _
  refine lv_iload_n hx hb dX8_plan_0 rfl (lv_at hl 1 rfl) ?_
  refine lv_iconst (v := 1) hx hb dX8_plan_1 (by decide) ?_
  refine lv_icmp_lt (tgt := 18) hx hb dX8_plan_2 (by decide) (fun c1 => ?_) (fun c1 => ?_)
  · have c1i : Int32.toInt a < (1 : Int) := (i3_lt _ _).mp c1
    refine lv_iconst (v := (-1)) hx hb dX8_plan_18 (by decide) ?_
    exact pc_iret (v := (-1)) (S := S) hx hb hr hlk hK hZ hA hW hS (⟨hG, hF, trivial⟩) dX8_plan_19
  · have c1i : ¬ (Int32.toInt a < (1 : Int)) := fun h9 => c1 ((i3_lt _ _).mpr h9)
    refine lv_iload_n hx hb dX8_plan_5 rfl (lv_at hl 1 rfl) ?_
    refine lv_bipush (v := 8) hx hb dX8_plan_6 (by decide) ?_
    refine lv_icmp_gt (tgt := 18) hx hb dX8_plan_8 (by decide) (fun c2 => ?_) (fun c2 => ?_)
    · have c2i : (8 : Int) < Int32.toInt a := (i3_lt _ _).mp c2
      refine lv_iconst (v := (-1)) hx hb dX8_plan_18 (by decide) ?_
      exact pc_iret (v := (-1)) (S := S) hx hb hr hlk hK hZ hA hW hS (⟨hG, hF, trivial⟩) dX8_plan_19
    · have c2i : ¬ ((8 : Int) < Int32.toInt a) := fun h9 => c2 ((i3_lt _ _).mpr h9)
      refine lv_iload_n hx hb dX8_plan_11 rfl (lv_at hl 2 rfl) ?_
      refine pc_Si (As := [.int b]) (rest := []) F (b_X8_isWarmth l D cy A S b ) (va_cwS 1 hts gX8_plan_X8_isWarmth rfl rfl rfl (by decide +kernel) ⟨Nat.le_of_ble_eq_true rfl, Nat.le_of_ble_eq_true rfl⟩) hK hZ hA hW hS rfl hl.1 rfl (Nat.le_of_ble_eq_true rfl) dX8_plan_12 ⟨Nat.le_of_ble_eq_true rfl, Nat.le_of_ble_eq_true rfl⟩ (fun v3 T4 H locs p5 hW hS => ?_)
      obtain ⟨eT4, p5⟩ := p5
      rw [eT4] at hW
      clear eT4
      refine lv_if_ne (tgt := 20) hx hb dX8_plan_15 (by decide) (fun c6 => ?_) (fun c6 => ?_)
      · have c6i : ¬ (Int32.toInt v3 = (0 : Int)) := fun h9 => c6 ((i3_eq _ _).mpr h9)
        refine lv_aload_n hx hb dX8_plan_20 rfl (lv_at hl 0 rfl) ?_
        obtain ⟨b7, rb7, kb7, nb7⟩ := hG0.r hk List.not_mem_nil 8 (show rty 8 8 = some (3, 0) from rfl)
        refine pg_gr (b := b7) (ci := 8) (C := RX8) (T := TX8) (N := 18) hx hb hts wi8 hown hK hW hk (by decide) rfl 8 (by decide) (hts (.fieldLink RX8 64 "IceHall" "planner" "LIceHall$Planner;") (by decide +kernel)) (fun _ h9 => h9) rfl rb7 dX8_plan_21 ?_
        refine pc_Vv (As := []) (rest := []) F (b_X3_begin l D cy A S b7 hG kb7) (cwV 0 hts gX8_plan_X3_begin rfl rfl rfl (by decide +kernel) ⟨Nat.le_of_ble_eq_true rfl, Nat.le_of_ble_eq_true rfl⟩) hK hZ hA hW hS kb7 (by decide) rfl rfl hl.1 rfl (Nat.le_of_ble_eq_true rfl) dX8_plan_24 ⟨Nat.le_of_ble_eq_true rfl, Nat.le_of_ble_eq_true rfl⟩ (fun T9 H locs p10 hW hS => ?_)
        obtain ⟨hG, hFc, p10⟩ := p10
        have hF : Fr [] [304, 305, 306, 307, 308, 1100] S T9 := hF.tr (hFc.mono (by decide))
        refine lv_iconst (v := 0) hx hb dX8_plan_27 (by decide) ?_
        refine lv_istore_n (lv' := [(3, .int 0), (0, .ref h), (1, .int a), (2, .int b)]) hx hb dX8_plan_28 rfl hl (by decide) rfl (fun ls hl => ?_)
        have hE11 : Fr [] [304, 305, 306, 307, 308, 1100] T9 T9 := Fr.rf _ _ _
        have loop29 : ∀ (zn : Nat) (y : Int32) (L29 : St) (H : Heap) (locs : List Loc) (ls : Array Slot), (G L29) → (Fr [] [304, 305, 306, 307, 308, 1100] T9 L29) → (0 ≤ y.toInt) → (8 - y.toInt).toNat < zn → PW D cy A L29 H → va_S A s.heap H locs → lv_has ls 6 [(0, .ref h), (1, .int a), (2, .int b), (3, .int y)] → W p l e ({ frames := 6, cells := 0, slots := 0, locals := 156 } : Room) s m args below meth c H locs 0 0 (MQ below (va_Qi (fun r S1 => G S1 ∧ Fr [] [304, 305, 306, 307, 308, 1100] S S1 ∧ True) (PU D cy A) A) args s 0 0 A) (F0 m 29 ls []) := by
          intro zn
          induction zn with
          | zero => intros; exact absurd (by assumption) (Nat.not_lt_zero _)
          | succ zn ih29 =>
            intro y L29 H locs ls hG hL29 hy0 hme29 hW hS hl
            have hF : Fr [] [304, 305, 306, 307, 308, 1100] S L29 := hF.tr hL29
            have hE11 := hL29
            refine lv_iload_n hx hb dX8_plan_29 rfl (lv_at hl 3 rfl) ?_
            refine lv_iload_n hx hb dX8_plan_30 rfl (lv_at hl 1 rfl) ?_
            refine lv_icmp_ge (tgt := 97) hx hb dX8_plan_31 (by decide) (fun c12 => ?_) (fun c12 => ?_)
            · have c12i : Int32.toInt a ≤ Int32.toInt y := (i3_le _ _).mp c12
              refine lv_aload_n hx hb dX8_plan_97 rfl (lv_at hl 0 rfl) ?_
              refine pg_gr (b := b7) (ci := 8) (C := RX8) (T := TX8) (N := 18) hx hb hts wi8 hown hK hW (hF.k hk (by decide)) (by decide) rfl 8 (by decide) (hts (.fieldLink RX8 64 "IceHall" "planner" "LIceHall$Planner;") (by decide +kernel)) (fun _ h9 => h9) rfl (hF.r hk (by decide) rb7) dX8_plan_98 ?_
              refine lv_aload_n hx hb dX8_plan_101 rfl (lv_at hl 0 rfl) ?_
              refine pg_gi (ci := 8) (C := RX8) (T := TX8) (N := 18) hx hb hts wi8 hown hK hW (hF.k hk (by decide)) (by decide) rfl 11 (by decide) (hts (.fieldLink RX8 68 "IceHall" "store" "I") (by decide +kernel)) (fun _ h9 => h9) rfl dX8_plan_102 ?_
              refine lv_aload_n hx hb dX8_plan_105 rfl (lv_at hl 0 rfl) ?_
              refine pg_gi (ci := 8) (C := RX8) (T := TX8) (N := 18) hx hb hts wi8 hown hK hW (hF.k hk (by decide)) (by decide) rfl 12 (by decide) (hts (.fieldLink RX8 72 "IceHall" "storeMost" "I") (by decide +kernel)) (fun _ h9 => h9) rfl dX8_plan_106 ?_
              refine lv_aload_n hx hb dX8_plan_109 rfl (lv_at hl 0 rfl) ?_
              refine pg_gi (ci := 8) (C := RX8) (T := TX8) (N := 18) hx hb hts wi8 hown hK hW (hF.k hk (by decide)) (by decide) rfl 13 (by decide) (hts (.fieldLink RX8 75 "IceHall" "working" "I") (by decide +kernel)) (fun _ h9 => h9) rfl dX8_plan_110 ?_
              have g13 : (0 : Int) ≤ (sI L29 h 13).toInt ∧ (sI L29 h 13).toInt ≤ 3 := hG.i (hF.k hk (by decide)) (by decide) 13 (by decide)
              refine pc_Vi (As := [.int (sI L29 h 11), .int (sI L29 h 12), .int (sI L29 h 13)]) (rest := []) F (b_X3_solve l D cy A L29 b7 (sI L29 h 11) (sI L29 h 12) (sI L29 h 13) hG (hF.k kb7 (by decide)) (by omega) (by omega)) (cwV 3 hts gX8_plan_X3_solve rfl rfl rfl (by decide +kernel) ⟨Nat.le_of_ble_eq_true rfl, Nat.le_of_ble_eq_true rfl⟩) hK hZ hA hW hS (hF.k kb7 (by decide)) (by decide) rfl rfl hl.1 rfl (Nat.le_of_ble_eq_true rfl) dX8_plan_113 ⟨Nat.le_of_ble_eq_true rfl, Nat.le_of_ble_eq_true rfl⟩ (fun v14 T15 H locs p16 hW hS => ?_)
              obtain ⟨hG, hFc, p16⟩ := p16
              have hF : Fr [] [304, 305, 306, 307, 308, 1100] S T15 := hF.tr (hFc.mono (by decide))
              have hE11 : Fr [] [304, 305, 306, 307, 308, 1100] T9 T15 := hE11.tr (hFc.mono (by decide))
              exact pc_iret (v := v14) (S := T15) hx hb hr hlk hK hZ hA hW hS (⟨hG, hF, trivial⟩) dX8_plan_116
            · have c12i : ¬ (Int32.toInt a ≤ Int32.toInt y) := fun h9 => c12 ((i3_le _ _).mpr h9)
              refine lv_aload_n hx hb dX8_plan_34 rfl (lv_at hl 0 rfl) ?_
              refine pg_gi (ci := 8) (C := RX8) (T := TX8) (N := 18) hx hb hts wi8 hown hK hW (hF.k hk (by decide)) (by decide) rfl 10 (by decide) (hts (.fieldLink RX8 96 "IceHall" "now" "I") (by decide +kernel)) (fun _ h9 => h9) rfl dX8_plan_35 ?_
              have g17 : (0 : Int) ≤ (sI L29 h 10).toInt ∧ (sI L29 h 10).toInt ≤ 990 := hG.i (hF.k hk (by decide)) (by decide) 10 (by decide)
              refine lv_iload_n hx hb dX8_plan_38 rfl (lv_at hl 3 rfl) ?_
              refine lv_iadd hx hb dX8_plan_39 ?_
              have l18 : ((sI L29 h 10) + y).toInt = Int32.toInt (sI L29 h 10) + Int32.toInt y := i3_add rfl rfl (by omega) (by omega)
              refine lv_istore (lv' := [(4, .int ((sI L29 h 10) + y)), (0, .ref h), (1, .int a), (2, .int b), (3, .int y)]) hx hb dX8_plan_40 hl (by decide) rfl (fun ls hl => ?_)
              refine lv_aload_n hx hb dX8_plan_42 rfl (lv_at hl 1 rfl) ?_
              refine lv_iconst (v := 0) hx hb dX8_plan_43 (by decide) ?_
              refine lv_iload hx hb dX8_plan_44 (lv_at hl 0 rfl) ?_
              refine pc_Vq (As := [.int 0, .int ((sI L29 h 10) + y)]) (rest := []) F (b_X8_standingAt l D cy A L29 h 0 ((sI L29 h 10) + y) hG (hF.k hk (by decide))) (cwV 2 hts gX8_plan_X8_standingAt rfl rfl rfl (by decide +kernel) ⟨Nat.le_of_ble_eq_true rfl, Nat.le_of_ble_eq_true rfl⟩) hK hZ hA hW hS (hF.k hk (by decide)) (by decide) rfl rfl hl.1 rfl (Nat.le_of_ble_eq_true rfl) dX8_plan_46 ⟨Nat.le_of_ble_eq_true rfl, Nat.le_of_ble_eq_true rfl⟩ (fun v19 T20 H locs p21 hW hS => ?_)
              obtain ⟨eT20, p21⟩ := p21
              rw [eT20] at hW
              have hE23 : Fr [] [304, 305, 306, 307, 308, 1100] L29 L29 := Fr.rf _ _ _
              rcases p21 with erb22 | ⟨b22, erb22, kb22⟩
              · rw [erb22]
                refine pc_Si (As := [.null]) (rest := []) F (b_X8_heatOf_n l D cy A L29  ) (va_cwS 1 hts gX8_plan_X8_heatOf rfl rfl rfl (by decide +kernel) ⟨Nat.le_of_ble_eq_true rfl, Nat.le_of_ble_eq_true rfl⟩) hK hZ hA hW hS rfl hl.1 rfl (Nat.le_of_ble_eq_true rfl) dX8_plan_49 ⟨Nat.le_of_ble_eq_true rfl, Nat.le_of_ble_eq_true rfl⟩ (fun v24 T25 H locs p26 hW hS => ?_)
                obtain ⟨eT25, p26⟩ := p26
                rw [eT25] at hW
                clear eT25
                refine lv_aload_n hx hb dX8_plan_52 rfl (lv_at hl 1 rfl) ?_
                refine lv_iconst (v := 1) hx hb dX8_plan_53 (by decide) ?_
                refine lv_iload hx hb dX8_plan_54 (lv_at hl 0 rfl) ?_
                refine pc_Vq (As := [.int 1, .int ((sI L29 h 10) + y)]) (rest := [.int v24]) F (b_X8_standingAt l D cy A L29 h 1 ((sI L29 h 10) + y) hG (hF.k hk (by decide))) (cwV 2 hts gX8_plan_X8_standingAt rfl rfl rfl (by decide +kernel) ⟨Nat.le_of_ble_eq_true rfl, Nat.le_of_ble_eq_true rfl⟩) hK hZ hA hW hS (hF.k hk (by decide)) (by decide) rfl rfl hl.1 rfl (Nat.le_of_ble_eq_true rfl) dX8_plan_56 ⟨Nat.le_of_ble_eq_true rfl, Nat.le_of_ble_eq_true rfl⟩ (fun v27 T28 H locs p29 hW hS => ?_)
                obtain ⟨eT28, p29⟩ := p29
                rw [eT28] at hW
                rcases p29 with erb30 | ⟨b30, erb30, kb30⟩
                · rw [erb30]
                  refine pc_Si (As := [.null]) (rest := [.int v24]) F (b_X8_heatOf_n l D cy A L29  ) (va_cwS 1 hts gX8_plan_X8_heatOf rfl rfl rfl (by decide +kernel) ⟨Nat.le_of_ble_eq_true rfl, Nat.le_of_ble_eq_true rfl⟩) hK hZ hA hW hS rfl hl.1 rfl (Nat.le_of_ble_eq_true rfl) dX8_plan_59 ⟨Nat.le_of_ble_eq_true rfl, Nat.le_of_ble_eq_true rfl⟩ (fun v31 T32 H locs p33 hW hS => ?_)
                  obtain ⟨eT32, p33⟩ := p33
                  rw [eT32] at hW
                  clear eT32
                  refine lv_iadd hx hb dX8_plan_62 ?_
                  refine lv_istore (lv' := [(5, .int (v24 + v31)), (4, .int ((sI L29 h 10) + y)), (0, .ref h), (1, .int a), (2, .int b), (3, .int y)]) hx hb dX8_plan_63 hl (by decide) rfl (fun ls hl => ?_)
                  refine lv_aload_n hx hb dX8_plan_65 rfl (lv_at hl 2 rfl) ?_
                  refine pg_gr (b := b7) (ci := 8) (C := RX8) (T := TX8) (N := 18) hx hb hts wi8 hown hK hW (hF.k hk (by decide)) (by decide) rfl 8 (by decide) (hts (.fieldLink RX8 64 "IceHall" "planner" "LIceHall$Planner;") (by decide +kernel)) (fun _ h9 => h9) rfl (hF.r hk (by decide) rb7) dX8_plan_66 ?_
                  refine lv_iload hx hb dX8_plan_69 (lv_at hl 0 rfl) ?_
                  refine lv_iconst (v := 2) hx hb dX8_plan_71 (by decide) ?_
                  refine lv_iload_n hx hb dX8_plan_72 rfl (lv_at hl 4 rfl) ?_
                  refine pc_Si (As := [.int b]) (rest := [.int 2, .int (v24 + v31), .ref b7]) F (b_X8_wantOfWarmth l D cy A L29 b ) (va_cwS 1 hts gX8_plan_X8_wantOfWarmth rfl rfl rfl (by decide +kernel) ⟨Nat.le_of_ble_eq_true rfl, Nat.le_of_ble_eq_true rfl⟩) hK hZ hA hW hS rfl hl.1 rfl (Nat.le_of_ble_eq_true rfl) dX8_plan_73 ⟨Nat.le_of_ble_eq_true rfl, Nat.le_of_ble_eq_true rfl⟩ (fun v34 T35 H locs p36 hW hS => ?_)
                  obtain ⟨eT35, p36⟩ := p36
                  rw [eT35] at hW
                  clear eT35
                  refine lv_imul hx hb dX8_plan_76 ?_
                  refine lv_iadd hx hb dX8_plan_77 ?_
                  refine lv_aload_n hx hb dX8_plan_78 rfl (lv_at hl 2 rfl) ?_
                  obtain ⟨b37, rb37, kb37, nb37⟩ := hG0.r hk List.not_mem_nil 4 (show rty 8 4 = some (11, 24) from rfl)
                  refine pg_gr (b := b37) (ci := 8) (C := RX8) (T := TX8) (N := 18) hx hb hts wi8 hown hK hW (hF.k hk (by decide)) (by decide) rfl 4 (by decide) (hts (.fieldLink RX8 32 "IceHall" "prices" "[I") (by decide +kernel)) (fun _ h9 => h9) rfl (hF.r hk (by decide) rb37) dX8_plan_79 ?_
                  refine lv_iload hx hb dX8_plan_82 (lv_at hl 1 rfl) ?_
                  refine lv_bipush (v := 24) hx hb dX8_plan_84 (by decide) ?_
                  refine lv_irem hx hb dX8_plan_86 (by decide) ?_
                  have hr24 := rem24 (x := (sI L29 h 10) + y) (by omega)
                  refine pg_iald hx hb hK hW (hF.k kb37 (by decide)) (by decide) (by rw [show sL L29 b37 = 24 from (hF.n kb37 (by decide) nb37)]; exact r_in (by omega)) dX8_plan_87 ?_
                  refine pc_Vv (As := [.int ((v24 + v31) + (2 * v34)), .int (sI L29 b37 (Int32.toNatClampNeg (((sI L29 h 10) + y) - ((sI L29 h 10) + y) / 24 * 24)))]) (rest := []) F (b_X3_addHour l D cy A L29 b7 ((v24 + v31) + (2 * v34)) (sI L29 b37 (Int32.toNatClampNeg (((sI L29 h 10) + y) - ((sI L29 h 10) + y) / 24 * 24))) hG (hF.k kb7 (by decide))) (cwV 2 hts gX8_plan_X3_addHour rfl rfl rfl (by decide +kernel) ⟨Nat.le_of_ble_eq_true rfl, Nat.le_of_ble_eq_true rfl⟩) hK hZ hA hW hS (hF.k kb7 (by decide)) (by decide) rfl rfl hl.1 rfl (Nat.le_of_ble_eq_true rfl) dX8_plan_88 ⟨Nat.le_of_ble_eq_true rfl, Nat.le_of_ble_eq_true rfl⟩ (fun T39 H locs p40 hW hS => ?_)
                  obtain ⟨hG, hFc, p40⟩ := p40
                  have hF : Fr [] [304, 305, 306, 307, 308, 1100] S T39 := hF.tr (hFc.mono (by decide))
                  have hE11 : Fr [] [304, 305, 306, 307, 308, 1100] T9 T39 := hE11.tr (hFc.mono (by decide))
                  have hE23 : Fr [] [304, 305, 306, 307, 308, 1100] L29 T39 := hE23.tr (hFc.mono (by decide))
                  refine lv_iinc (v := y + 1) (lv' := [(3, .int (y + 1)), (5, .int (v24 + v31)), (4, .int ((sI L29 h 10) + y)), (0, .ref h), (1, .int a), (2, .int b)]) hx hb dX8_plan_91 hl (k := 5) rfl rfl (by decide) rfl (fun ls hl => ?_)
                  have i41 : (y + 1).toInt = (y).toInt + 1 := i3_add rfl rfl (by omega) (by omega)
                  refine lv_goto (tgt := 29) hx hb dX8_plan_94 (by decide) ?_
                  exact ih29 (y + 1) T39 _ _ ls hG hE11 (by omega) (by omega) hW hS (lv_cast (lv_sub hl [3, 4, 5, 0] rfl) (rfl))
                · rw [erb30]
                  refine pc_Si (As := [.ref b30]) (rest := [.int v24]) F (b_X8_heatOf l D cy A L29 b30 kb30) (va_cwS 1 hts gX8_plan_X8_heatOf rfl rfl rfl (by decide +kernel) ⟨Nat.le_of_ble_eq_true rfl, Nat.le_of_ble_eq_true rfl⟩) hK hZ hA hW hS rfl hl.1 rfl (Nat.le_of_ble_eq_true rfl) dX8_plan_59 ⟨Nat.le_of_ble_eq_true rfl, Nat.le_of_ble_eq_true rfl⟩ (fun v42 T43 H locs p44 hW hS => ?_)
                  obtain ⟨eT43, p44⟩ := p44
                  rw [eT43] at hW
                  clear eT43
                  refine lv_iadd hx hb dX8_plan_62 ?_
                  refine lv_istore (lv' := [(5, .int (v24 + v42)), (4, .int ((sI L29 h 10) + y)), (0, .ref h), (1, .int a), (2, .int b), (3, .int y)]) hx hb dX8_plan_63 hl (by decide) rfl (fun ls hl => ?_)
                  refine lv_aload_n hx hb dX8_plan_65 rfl (lv_at hl 2 rfl) ?_
                  refine pg_gr (b := b7) (ci := 8) (C := RX8) (T := TX8) (N := 18) hx hb hts wi8 hown hK hW (hF.k hk (by decide)) (by decide) rfl 8 (by decide) (hts (.fieldLink RX8 64 "IceHall" "planner" "LIceHall$Planner;") (by decide +kernel)) (fun _ h9 => h9) rfl (hF.r hk (by decide) rb7) dX8_plan_66 ?_
                  refine lv_iload hx hb dX8_plan_69 (lv_at hl 0 rfl) ?_
                  refine lv_iconst (v := 2) hx hb dX8_plan_71 (by decide) ?_
                  refine lv_iload_n hx hb dX8_plan_72 rfl (lv_at hl 4 rfl) ?_
                  refine pc_Si (As := [.int b]) (rest := [.int 2, .int (v24 + v42), .ref b7]) F (b_X8_wantOfWarmth l D cy A L29 b ) (va_cwS 1 hts gX8_plan_X8_wantOfWarmth rfl rfl rfl (by decide +kernel) ⟨Nat.le_of_ble_eq_true rfl, Nat.le_of_ble_eq_true rfl⟩) hK hZ hA hW hS rfl hl.1 rfl (Nat.le_of_ble_eq_true rfl) dX8_plan_73 ⟨Nat.le_of_ble_eq_true rfl, Nat.le_of_ble_eq_true rfl⟩ (fun v45 T46 H locs p47 hW hS => ?_)
                  obtain ⟨eT46, p47⟩ := p47
                  rw [eT46] at hW
                  clear eT46
                  refine lv_imul hx hb dX8_plan_76 ?_
                  refine lv_iadd hx hb dX8_plan_77 ?_
                  refine lv_aload_n hx hb dX8_plan_78 rfl (lv_at hl 2 rfl) ?_
                  obtain ⟨b48, rb48, kb48, nb48⟩ := hG0.r hk List.not_mem_nil 4 (show rty 8 4 = some (11, 24) from rfl)
                  refine pg_gr (b := b48) (ci := 8) (C := RX8) (T := TX8) (N := 18) hx hb hts wi8 hown hK hW (hF.k hk (by decide)) (by decide) rfl 4 (by decide) (hts (.fieldLink RX8 32 "IceHall" "prices" "[I") (by decide +kernel)) (fun _ h9 => h9) rfl (hF.r hk (by decide) rb48) dX8_plan_79 ?_
                  refine lv_iload hx hb dX8_plan_82 (lv_at hl 1 rfl) ?_
                  refine lv_bipush (v := 24) hx hb dX8_plan_84 (by decide) ?_
                  refine lv_irem hx hb dX8_plan_86 (by decide) ?_
                  have hr24 := rem24 (x := (sI L29 h 10) + y) (by omega)
                  refine pg_iald hx hb hK hW (hF.k kb48 (by decide)) (by decide) (by rw [show sL L29 b48 = 24 from (hF.n kb48 (by decide) nb48)]; exact r_in (by omega)) dX8_plan_87 ?_
                  refine pc_Vv (As := [.int ((v24 + v42) + (2 * v45)), .int (sI L29 b48 (Int32.toNatClampNeg (((sI L29 h 10) + y) - ((sI L29 h 10) + y) / 24 * 24)))]) (rest := []) F (b_X3_addHour l D cy A L29 b7 ((v24 + v42) + (2 * v45)) (sI L29 b48 (Int32.toNatClampNeg (((sI L29 h 10) + y) - ((sI L29 h 10) + y) / 24 * 24))) hG (hF.k kb7 (by decide))) (cwV 2 hts gX8_plan_X3_addHour rfl rfl rfl (by decide +kernel) ⟨Nat.le_of_ble_eq_true rfl, Nat.le_of_ble_eq_true rfl⟩) hK hZ hA hW hS (hF.k kb7 (by decide)) (by decide) rfl rfl hl.1 rfl (Nat.le_of_ble_eq_true rfl) dX8_plan_88 ⟨Nat.le_of_ble_eq_true rfl, Nat.le_of_ble_eq_true rfl⟩ (fun T50 H locs p51 hW hS => ?_)
                  obtain ⟨hG, hFc, p51⟩ := p51
                  have hF : Fr [] [304, 305, 306, 307, 308, 1100] S T50 := hF.tr (hFc.mono (by decide))
                  have hE11 : Fr [] [304, 305, 306, 307, 308, 1100] T9 T50 := hE11.tr (hFc.mono (by decide))
                  have hE23 : Fr [] [304, 305, 306, 307, 308, 1100] L29 T50 := hE23.tr (hFc.mono (by decide))
                  refine lv_iinc (v := y + 1) (lv' := [(3, .int (y + 1)), (5, .int (v24 + v42)), (4, .int ((sI L29 h 10) + y)), (0, .ref h), (1, .int a), (2, .int b)]) hx hb dX8_plan_91 hl (k := 5) rfl rfl (by decide) rfl (fun ls hl => ?_)
                  have i52 : (y + 1).toInt = (y).toInt + 1 := i3_add rfl rfl (by omega) (by omega)
                  refine lv_goto (tgt := 29) hx hb dX8_plan_94 (by decide) ?_
                  exact ih29 (y + 1) T50 _ _ ls hG hE11 (by omega) (by omega) hW hS (lv_cast (lv_sub hl [3, 4, 5, 0] rfl) (rfl))
              · rw [erb22]
                refine pc_Si (As := [.ref b22]) (rest := []) F (b_X8_heatOf l D cy A L29 b22 kb22) (va_cwS 1 hts gX8_plan_X8_heatOf rfl rfl rfl (by decide +kernel) ⟨Nat.le_of_ble_eq_true rfl, Nat.le_of_ble_eq_true rfl⟩) hK hZ hA hW hS rfl hl.1 rfl (Nat.le_of_ble_eq_true rfl) dX8_plan_49 ⟨Nat.le_of_ble_eq_true rfl, Nat.le_of_ble_eq_true rfl⟩ (fun v53 T54 H locs p55 hW hS => ?_)
                obtain ⟨eT54, p55⟩ := p55
                rw [eT54] at hW
                clear eT54
                refine lv_aload_n hx hb dX8_plan_52 rfl (lv_at hl 1 rfl) ?_
                refine lv_iconst (v := 1) hx hb dX8_plan_53 (by decide) ?_
                refine lv_iload hx hb dX8_plan_54 (lv_at hl 0 rfl) ?_
                refine pc_Vq (As := [.int 1, .int ((sI L29 h 10) + y)]) (rest := [.int v53]) F (b_X8_standingAt l D cy A L29 h 1 ((sI L29 h 10) + y) hG (hF.k hk (by decide))) (cwV 2 hts gX8_plan_X8_standingAt rfl rfl rfl (by decide +kernel) ⟨Nat.le_of_ble_eq_true rfl, Nat.le_of_ble_eq_true rfl⟩) hK hZ hA hW hS (hF.k hk (by decide)) (by decide) rfl rfl hl.1 rfl (Nat.le_of_ble_eq_true rfl) dX8_plan_56 ⟨Nat.le_of_ble_eq_true rfl, Nat.le_of_ble_eq_true rfl⟩ (fun v56 T57 H locs p58 hW hS => ?_)
                obtain ⟨eT57, p58⟩ := p58
                rw [eT57] at hW
                rcases p58 with erb59 | ⟨b59, erb59, kb59⟩
                · rw [erb59]
                  refine pc_Si (As := [.null]) (rest := [.int v53]) F (b_X8_heatOf_n l D cy A L29  ) (va_cwS 1 hts gX8_plan_X8_heatOf rfl rfl rfl (by decide +kernel) ⟨Nat.le_of_ble_eq_true rfl, Nat.le_of_ble_eq_true rfl⟩) hK hZ hA hW hS rfl hl.1 rfl (Nat.le_of_ble_eq_true rfl) dX8_plan_59 ⟨Nat.le_of_ble_eq_true rfl, Nat.le_of_ble_eq_true rfl⟩ (fun v60 T61 H locs p62 hW hS => ?_)
                  obtain ⟨eT61, p62⟩ := p62
                  rw [eT61] at hW
                  clear eT61
                  refine lv_iadd hx hb dX8_plan_62 ?_
                  refine lv_istore (lv' := [(5, .int (v53 + v60)), (4, .int ((sI L29 h 10) + y)), (0, .ref h), (1, .int a), (2, .int b), (3, .int y)]) hx hb dX8_plan_63 hl (by decide) rfl (fun ls hl => ?_)
                  refine lv_aload_n hx hb dX8_plan_65 rfl (lv_at hl 2 rfl) ?_
                  refine pg_gr (b := b7) (ci := 8) (C := RX8) (T := TX8) (N := 18) hx hb hts wi8 hown hK hW (hF.k hk (by decide)) (by decide) rfl 8 (by decide) (hts (.fieldLink RX8 64 "IceHall" "planner" "LIceHall$Planner;") (by decide +kernel)) (fun _ h9 => h9) rfl (hF.r hk (by decide) rb7) dX8_plan_66 ?_
                  refine lv_iload hx hb dX8_plan_69 (lv_at hl 0 rfl) ?_
                  refine lv_iconst (v := 2) hx hb dX8_plan_71 (by decide) ?_
                  refine lv_iload_n hx hb dX8_plan_72 rfl (lv_at hl 4 rfl) ?_
                  refine pc_Si (As := [.int b]) (rest := [.int 2, .int (v53 + v60), .ref b7]) F (b_X8_wantOfWarmth l D cy A L29 b ) (va_cwS 1 hts gX8_plan_X8_wantOfWarmth rfl rfl rfl (by decide +kernel) ⟨Nat.le_of_ble_eq_true rfl, Nat.le_of_ble_eq_true rfl⟩) hK hZ hA hW hS rfl hl.1 rfl (Nat.le_of_ble_eq_true rfl) dX8_plan_73 ⟨Nat.le_of_ble_eq_true rfl, Nat.le_of_ble_eq_true rfl⟩ (fun v63 T64 H locs p65 hW hS => ?_)
                  obtain ⟨eT64, p65⟩ := p65
                  rw [eT64] at hW
                  clear eT64
                  refine lv_imul hx hb dX8_plan_76 ?_
                  refine lv_iadd hx hb dX8_plan_77 ?_
                  refine lv_aload_n hx hb dX8_plan_78 rfl (lv_at hl 2 rfl) ?_
                  obtain ⟨b66, rb66, kb66, nb66⟩ := hG0.r hk List.not_mem_nil 4 (show rty 8 4 = some (11, 24) from rfl)
                  refine pg_gr (b := b66) (ci := 8) (C := RX8) (T := TX8) (N := 18) hx hb hts wi8 hown hK hW (hF.k hk (by decide)) (by decide) rfl 4 (by decide) (hts (.fieldLink RX8 32 "IceHall" "prices" "[I") (by decide +kernel)) (fun _ h9 => h9) rfl (hF.r hk (by decide) rb66) dX8_plan_79 ?_
                  refine lv_iload hx hb dX8_plan_82 (lv_at hl 1 rfl) ?_
                  refine lv_bipush (v := 24) hx hb dX8_plan_84 (by decide) ?_
                  refine lv_irem hx hb dX8_plan_86 (by decide) ?_
                  have hr24 := rem24 (x := (sI L29 h 10) + y) (by omega)
                  refine pg_iald hx hb hK hW (hF.k kb66 (by decide)) (by decide) (by rw [show sL L29 b66 = 24 from (hF.n kb66 (by decide) nb66)]; exact r_in (by omega)) dX8_plan_87 ?_
                  refine pc_Vv (As := [.int ((v53 + v60) + (2 * v63)), .int (sI L29 b66 (Int32.toNatClampNeg (((sI L29 h 10) + y) - ((sI L29 h 10) + y) / 24 * 24)))]) (rest := []) F (b_X3_addHour l D cy A L29 b7 ((v53 + v60) + (2 * v63)) (sI L29 b66 (Int32.toNatClampNeg (((sI L29 h 10) + y) - ((sI L29 h 10) + y) / 24 * 24))) hG (hF.k kb7 (by decide))) (cwV 2 hts gX8_plan_X3_addHour rfl rfl rfl (by decide +kernel) ⟨Nat.le_of_ble_eq_true rfl, Nat.le_of_ble_eq_true rfl⟩) hK hZ hA hW hS (hF.k kb7 (by decide)) (by decide) rfl rfl hl.1 rfl (Nat.le_of_ble_eq_true rfl) dX8_plan_88 ⟨Nat.le_of_ble_eq_true rfl, Nat.le_of_ble_eq_true rfl⟩ (fun T68 H locs p69 hW hS => ?_)
                  obtain ⟨hG, hFc, p69⟩ := p69
                  have hF : Fr [] [304, 305, 306, 307, 308, 1100] S T68 := hF.tr (hFc.mono (by decide))
                  have hE11 : Fr [] [304, 305, 306, 307, 308, 1100] T9 T68 := hE11.tr (hFc.mono (by decide))
                  have hE23 : Fr [] [304, 305, 306, 307, 308, 1100] L29 T68 := hE23.tr (hFc.mono (by decide))
                  refine lv_iinc (v := y + 1) (lv' := [(3, .int (y + 1)), (5, .int (v53 + v60)), (4, .int ((sI L29 h 10) + y)), (0, .ref h), (1, .int a), (2, .int b)]) hx hb dX8_plan_91 hl (k := 5) rfl rfl (by decide) rfl (fun ls hl => ?_)
                  have i70 : (y + 1).toInt = (y).toInt + 1 := i3_add rfl rfl (by omega) (by omega)
                  refine lv_goto (tgt := 29) hx hb dX8_plan_94 (by decide) ?_
                  exact ih29 (y + 1) T68 _ _ ls hG hE11 (by omega) (by omega) hW hS (lv_cast (lv_sub hl [3, 4, 5, 0] rfl) (rfl))
                · rw [erb59]
                  refine pc_Si (As := [.ref b59]) (rest := [.int v53]) F (b_X8_heatOf l D cy A L29 b59 kb59) (va_cwS 1 hts gX8_plan_X8_heatOf rfl rfl rfl (by decide +kernel) ⟨Nat.le_of_ble_eq_true rfl, Nat.le_of_ble_eq_true rfl⟩) hK hZ hA hW hS rfl hl.1 rfl (Nat.le_of_ble_eq_true rfl) dX8_plan_59 ⟨Nat.le_of_ble_eq_true rfl, Nat.le_of_ble_eq_true rfl⟩ (fun v71 T72 H locs p73 hW hS => ?_)
                  obtain ⟨eT72, p73⟩ := p73
                  rw [eT72] at hW
                  clear eT72
                  refine lv_iadd hx hb dX8_plan_62 ?_
                  refine lv_istore (lv' := [(5, .int (v53 + v71)), (4, .int ((sI L29 h 10) + y)), (0, .ref h), (1, .int a), (2, .int b), (3, .int y)]) hx hb dX8_plan_63 hl (by decide) rfl (fun ls hl => ?_)
                  refine lv_aload_n hx hb dX8_plan_65 rfl (lv_at hl 2 rfl) ?_
                  refine pg_gr (b := b7) (ci := 8) (C := RX8) (T := TX8) (N := 18) hx hb hts wi8 hown hK hW (hF.k hk (by decide)) (by decide) rfl 8 (by decide) (hts (.fieldLink RX8 64 "IceHall" "planner" "LIceHall$Planner;") (by decide +kernel)) (fun _ h9 => h9) rfl (hF.r hk (by decide) rb7) dX8_plan_66 ?_
                  refine lv_iload hx hb dX8_plan_69 (lv_at hl 0 rfl) ?_
                  refine lv_iconst (v := 2) hx hb dX8_plan_71 (by decide) ?_
                  refine lv_iload_n hx hb dX8_plan_72 rfl (lv_at hl 4 rfl) ?_
                  refine pc_Si (As := [.int b]) (rest := [.int 2, .int (v53 + v71), .ref b7]) F (b_X8_wantOfWarmth l D cy A L29 b ) (va_cwS 1 hts gX8_plan_X8_wantOfWarmth rfl rfl rfl (by decide +kernel) ⟨Nat.le_of_ble_eq_true rfl, Nat.le_of_ble_eq_true rfl⟩) hK hZ hA hW hS rfl hl.1 rfl (Nat.le_of_ble_eq_true rfl) dX8_plan_73 ⟨Nat.le_of_ble_eq_true rfl, Nat.le_of_ble_eq_true rfl⟩ (fun v74 T75 H locs p76 hW hS => ?_)
                  obtain ⟨eT75, p76⟩ := p76
                  rw [eT75] at hW
                  clear eT75
                  refine lv_imul hx hb dX8_plan_76 ?_
                  refine lv_iadd hx hb dX8_plan_77 ?_
                  refine lv_aload_n hx hb dX8_plan_78 rfl (lv_at hl 2 rfl) ?_
                  obtain ⟨b77, rb77, kb77, nb77⟩ := hG0.r hk List.not_mem_nil 4 (show rty 8 4 = some (11, 24) from rfl)
                  refine pg_gr (b := b77) (ci := 8) (C := RX8) (T := TX8) (N := 18) hx hb hts wi8 hown hK hW (hF.k hk (by decide)) (by decide) rfl 4 (by decide) (hts (.fieldLink RX8 32 "IceHall" "prices" "[I") (by decide +kernel)) (fun _ h9 => h9) rfl (hF.r hk (by decide) rb77) dX8_plan_79 ?_
                  refine lv_iload hx hb dX8_plan_82 (lv_at hl 1 rfl) ?_
                  refine lv_bipush (v := 24) hx hb dX8_plan_84 (by decide) ?_
                  refine lv_irem hx hb dX8_plan_86 (by decide) ?_
                  have hr24 := rem24 (x := (sI L29 h 10) + y) (by omega)
                  refine pg_iald hx hb hK hW (hF.k kb77 (by decide)) (by decide) (by rw [show sL L29 b77 = 24 from (hF.n kb77 (by decide) nb77)]; exact r_in (by omega)) dX8_plan_87 ?_
                  refine pc_Vv (As := [.int ((v53 + v71) + (2 * v74)), .int (sI L29 b77 (Int32.toNatClampNeg (((sI L29 h 10) + y) - ((sI L29 h 10) + y) / 24 * 24)))]) (rest := []) F (b_X3_addHour l D cy A L29 b7 ((v53 + v71) + (2 * v74)) (sI L29 b77 (Int32.toNatClampNeg (((sI L29 h 10) + y) - ((sI L29 h 10) + y) / 24 * 24))) hG (hF.k kb7 (by decide))) (cwV 2 hts gX8_plan_X3_addHour rfl rfl rfl (by decide +kernel) ⟨Nat.le_of_ble_eq_true rfl, Nat.le_of_ble_eq_true rfl⟩) hK hZ hA hW hS (hF.k kb7 (by decide)) (by decide) rfl rfl hl.1 rfl (Nat.le_of_ble_eq_true rfl) dX8_plan_88 ⟨Nat.le_of_ble_eq_true rfl, Nat.le_of_ble_eq_true rfl⟩ (fun T79 H locs p80 hW hS => ?_)
                  obtain ⟨hG, hFc, p80⟩ := p80
                  have hF : Fr [] [304, 305, 306, 307, 308, 1100] S T79 := hF.tr (hFc.mono (by decide))
                  have hE11 : Fr [] [304, 305, 306, 307, 308, 1100] T9 T79 := hE11.tr (hFc.mono (by decide))
                  have hE23 : Fr [] [304, 305, 306, 307, 308, 1100] L29 T79 := hE23.tr (hFc.mono (by decide))
                  refine lv_iinc (v := y + 1) (lv' := [(3, .int (y + 1)), (5, .int (v53 + v71)), (4, .int ((sI L29 h 10) + y)), (0, .ref h), (1, .int a), (2, .int b)]) hx hb dX8_plan_91 hl (k := 5) rfl rfl (by decide) rfl (fun ls hl => ?_)
                  have i81 : (y + 1).toInt = (y).toInt + 1 := i3_add rfl rfl (by omega) (by omega)
                  refine lv_goto (tgt := 29) hx hb dX8_plan_94 (by decide) ?_
                  exact ih29 (y + 1) T79 _ _ ls hG hE11 (by omega) (by omega) hW hS (lv_cast (lv_sub hl [3, 4, 5, 0] rfl) (rfl))
        exact loop29 _ 0 T9 _ _ ls hG hE11 (by decide) (Nat.lt_succ_self _) hW hS (lv_cast (lv_sub hl [1, 2, 3, 0] rfl) (rfl))
      · have c6i : Int32.toInt v3 = (0 : Int) := (i3_eq _ _).mp c6
        refine lv_iconst (v := (-1)) hx hb dX8_plan_18 (by decide) ?_
        exact pc_iret (v := (-1)) (S := S) hx hb hr hlk hK hZ hA hW hS (⟨hG, hF, trivial⟩) dX8_plan_19
set_option maxHeartbeats 4000000 in
set_option maxRecDepth 100000 in
theorem b_X8_planned (l : Launch) (D : va_G) (cy : Nat → ClassId) (A : Nat → Prop) (S : St) (h : Nat) (a : Int32) (hG0 : G S) (hk : sK S h = 8) : MI l yX8_planned wsX8_planned ({ frames := 1, cells := 0, slots := 0, locals := 21 } : Room) 0 0 D cy A [.ref h, .int a] S (fun r S1 => S1 = S ∧ True) := by
  refine mt_start (cc := cX8_planned) (maxL := 2) (ret := (some .int)) (by decide) rfl (Nat.le_of_ble_eq_true rfl) ?_
  intro p e s m args below meth c hx hb hr hlk hml hown hnm hts hK hZ hA hW hS ls hl
  have hl : lv_has ls 2 [(0, .ref h), (1, .int a)] := hl
  have hown : s.vm.findClass RX8 = some m.cls := hown
  have F : CallFix p m c cX8_planned 2 s args wsX8_planned RX8 := ⟨hx, hb, hml, hown, hts⟩
  have wi3 : ∀ w ∈ u_ws RX3 TX3 9, w ∈ wsX8_planned := by decide +kernel
  have wi8 : ∀ w ∈ u_ws RX8 TX8 18, w ∈ wsX8_planned := by decide +kernel
  have hG := hG0
  refine lv_iload_n hx hb dX8_planned_0 rfl (lv_at hl 1 rfl) ?_
  refine lv_aload_n hx hb dX8_planned_1 rfl (lv_at hl 0 rfl) ?_
  obtain ⟨b1, rb1, kb1, nb1⟩ := hG0.r hk List.not_mem_nil 8 (show rty 8 8 = some (3, 0) from rfl)
  refine pg_gr (b := b1) (ci := 8) (C := RX8) (T := TX8) (N := 18) hx hb hts wi8 hown hK hW hk (by decide) rfl 8 (by decide) (hts (.fieldLink RX8 64 "IceHall" "planner" "LIceHall$Planner;") (by decide +kernel)) (fun _ h9 => h9) rfl rb1 dX8_planned_2 ?_
  refine pg_gi (ci := 3) (C := RX3) (T := TX3) (N := 9) hx hb hts wi3 hown hK hW kb1 (by decide) rfl 4 (by decide) (hts (.fieldLink RX8 212 "IceHall$Planner" "rowSize" "I") (by decide +kernel)) (fun _ h9 => h9) rfl dX8_planned_5 ?_
  have g2 : (0 : Int) ≤ (sI S b1 4).toInt ∧ (sI S b1 4).toInt ≤ 8 := hG.i kb1 (by decide) 4 (by decide)
  refine pc_Si (As := [.int a, .int (sI S b1 4)]) (rest := []) F (b_X8_isBelow l D cy A S a (sI S b1 4) ) (va_cwS 2 hts gX8_planned_X8_isBelow rfl rfl rfl (by decide +kernel) ⟨Nat.le_of_ble_eq_true rfl, Nat.le_of_ble_eq_true rfl⟩) hK hZ hA hW hS rfl hl.1 rfl (Nat.le_of_ble_eq_true rfl) dX8_planned_8 ⟨Nat.le_of_ble_eq_true rfl, Nat.le_of_ble_eq_true rfl⟩ (fun v3 T4 H locs p5 hW hS => ?_)
  obtain ⟨eT4, p5⟩ := p5
  rw [eT4] at hW
  clear eT4
  refine lv_if_eq (tgt := 26) hx hb dX8_planned_11 (by decide) (fun c6 => ?_) (fun c6 => ?_)
  · have c6i : Int32.toInt v3 = (0 : Int) := (i3_eq _ _).mp c6
    refine lv_iconst (v := (-1)) hx hb dX8_planned_26 (by decide) ?_
    exact pc_iret (v := (-1)) (S := S) hx hb hr hlk hK hZ hA hW hS (⟨rfl, trivial⟩) dX8_planned_27
  · have c6i : ¬ (Int32.toInt v3 = (0 : Int)) := fun h9 => c6 ((i3_eq _ _).mpr h9)
    refine lv_aload_n hx hb dX8_planned_14 rfl (lv_at hl 0 rfl) ?_
    refine pg_gr (b := b1) (ci := 8) (C := RX8) (T := TX8) (N := 18) hx hb hts wi8 hown hK hW hk (by decide) rfl 8 (by decide) (hts (.fieldLink RX8 64 "IceHall" "planner" "LIceHall$Planner;") (by decide +kernel)) (fun _ h9 => h9) rfl rb1 dX8_planned_15 ?_
    obtain ⟨b7, rb7, kb7, nb7⟩ := hG0.r kb1 List.not_mem_nil 3 (show rty 3 3 = some (11, 8) from rfl)
    refine pg_gr (b := b7) (ci := 3) (C := RX3) (T := TX3) (N := 9) hx hb hts wi3 hown hK hW kb1 (by decide) rfl 3 (by decide) (hts (.fieldLink RX8 215 "IceHall$Planner" "row" "[I") (by decide +kernel)) (fun _ h9 => h9) rfl rb7 dX8_planned_18 ?_
    refine lv_iload_n hx hb dX8_planned_21 rfl (lv_at hl 1 rfl) ?_
    refine pg_iald hx hb hK hW kb7 (by decide) (by rw [show sL S b7 = 8 from nb7]; exact r_in (by omega)) dX8_planned_22 ?_
    refine lv_goto (tgt := 27) hx hb dX8_planned_23 (by decide) ?_
    exact pc_iret (v := sI S b7 (Int32.toNatClampNeg a)) (S := S) hx hb hr hlk hK hZ hA hW hS (⟨rfl, trivial⟩) dX8_planned_27
set_option maxHeartbeats 4000000 in
set_option maxRecDepth 100000 in
theorem b_X8_partOf (l : Launch) (D : va_G) (cy : Nat → ClassId) (A : Nat → Prop) (S : St) (h : Nat) (a b d : Int32) (hG0 : G S) (hk : sK S h = 8) : MI l yX8_partOf wsX8_partOf ({ frames := 2, cells := 0, slots := 0, locals := 46 } : Room) 0 0 D cy A [.ref h, .int a, .int b, .int d] S (fun r S1 => S1 = S ∧ True) := by
  refine mt_start (cc := cX8_partOf) (maxL := 10) (ret := (some .int)) (by decide) rfl (Nat.le_of_ble_eq_true rfl) ?_
  intro p e s m args below meth c hx hb hr hlk hml hown hnm hts hK hZ hA hW hS ls hl
  have hl : lv_has ls 10 [(0, .ref h), (1, .int a), (2, .int b), (3, .int d)] := hl
  have hown : s.vm.findClass RX8 = some m.cls := hown
  have F : CallFix p m c cX8_partOf 10 s args wsX8_partOf RX8 := ⟨hx, hb, hml, hown, hts⟩
  have hG := hG0
  refine lv_iload_n hx hb dX8_partOf_0 rfl (lv_at hl 3 rfl) ?_
  refine lv_if_gt (tgt := 6) hx hb dX8_partOf_1 (by decide) (fun c1 => ?_) (fun c1 => ?_)
  · have c1i : (0 : Int) < Int32.toInt d := (i3_lt _ _).mp c1
    refine lv_iload_n hx hb dX8_partOf_6 rfl (lv_at hl 2 rfl) ?_
    refine lv_istore (lv' := [(4, .int b), (0, .ref h), (1, .int a), (2, .int b), (3, .int d)]) hx hb dX8_partOf_7 hl (by decide) rfl (fun ls hl => ?_)
    refine lv_iconst (v := 0) hx hb dX8_partOf_9 (by decide) ?_
    refine lv_istore (lv' := [(5, .int 0), (4, .int b), (0, .ref h), (1, .int a), (2, .int b), (3, .int d)]) hx hb dX8_partOf_10 hl (by decide) rfl (fun ls hl => ?_)
    refine lv_iload_n hx hb dX8_partOf_12 rfl (lv_at hl 4 rfl) ?_
    refine lv_aload_n hx hb dX8_partOf_13 rfl (lv_at hl 2 rfl) ?_
    refine lv_iload_n hx hb dX8_partOf_14 rfl (lv_at hl 3 rfl) ?_
    refine lv_iconst (v := 1) hx hb dX8_partOf_15 (by decide) ?_
    refine pc_Vi (As := [.int a, .int 1]) (rest := [.int b]) F (b_X8_countInState l D cy A S h a 1 hG hk) (cwV 2 hts gX8_partOf_X8_countInState rfl rfl rfl (by decide +kernel) ⟨Nat.le_of_ble_eq_true rfl, Nat.le_of_ble_eq_true rfl⟩) hK hZ hA hW hS hk (by decide) rfl rfl hl.1 rfl (Nat.le_of_ble_eq_true rfl) dX8_partOf_16 ⟨Nat.le_of_ble_eq_true rfl, Nat.le_of_ble_eq_true rfl⟩ (fun v2 T3 H locs p4 hW hS => ?_)
    obtain ⟨eT3, p4⟩ := p4
    rw [eT3] at hW
    clear eT3
    refine lv_imul hx hb dX8_partOf_19 ?_
    refine lv_istore (lv' := [(6, .int (b * v2)), (5, .int 0), (4, .int b), (0, .ref h), (1, .int a), (2, .int b), (3, .int d)]) hx hb dX8_partOf_20 hl (by decide) rfl (fun ls hl => ?_)
    refine lv_iconst (v := 0) hx hb dX8_partOf_22 (by decide) ?_
    refine lv_istore (lv' := [(7, .int 0), (6, .int (b * v2)), (5, .int 0), (4, .int b), (0, .ref h), (1, .int a), (2, .int b), (3, .int d)]) hx hb dX8_partOf_23 hl (by decide) rfl (fun ls hl => ?_)
    have loop25 : ∀ (zn : Nat) (w : Int32) (z : Int32) (y : Int32) (H : Heap) (locs : List Loc) (ls : Array Slot), (0 ≤ y.toInt) → (6 - y.toInt).toNat < zn → PW D cy A S H → va_S A s.heap H locs → lv_has ls 10 [(0, .ref h), (1, .int a), (2, .int b), (3, .int d), (4, .int w), (5, .int z), (6, .int (b * v2)), (7, .int y)] → W p l e ({ frames := 2, cells := 0, slots := 0, locals := 46 } : Room) s m args below meth c H locs 0 0 (MQ below (va_Qi (fun r S1 => S1 = S ∧ True) (PU D cy A) A) args s 0 0 A) (F0 m 25 ls []) := by
      intro zn
      induction zn with
      | zero => intros; exact absurd (by assumption) (Nat.not_lt_zero _)
      | succ zn ih25 =>
        intro w z y H locs ls hy0 hme25 hW hS hl
        refine lv_iload hx hb dX8_partOf_25 (lv_at hl 7 rfl) ?_
        refine lv_bipush (v := 6) hx hb dX8_partOf_27 (by decide) ?_
        refine lv_icmp_ge (tgt := 101) hx hb dX8_partOf_29 (by decide) (fun c5 => ?_) (fun c5 => ?_)
        · have c5i : (6 : Int) ≤ Int32.toInt y := (i3_le _ _).mp c5
          refine lv_iload hx hb dX8_partOf_101 (lv_at hl 6 rfl) ?_
          refine lv_iload_n hx hb dX8_partOf_103 rfl (lv_at hl 3 rfl) ?_
          refine lv_idiv hx hb dX8_partOf_104 (fun h9 => by have h8 : d.toInt = (0 : Int) := (i3_eq _ _).mp h9; omega) ?_
          refine lv_iload hx hb dX8_partOf_105 (lv_at hl 5 rfl) ?_
          refine lv_iload hx hb dX8_partOf_107 (lv_at hl 4 rfl) ?_
          refine lv_icmp_ge (tgt := 116) hx hb dX8_partOf_109 (by decide) (fun c6 => ?_) (fun c6 => ?_)
          · have c6i : Int32.toInt w ≤ Int32.toInt z := (i3_le _ _).mp c6
            refine lv_iconst (v := 0) hx hb dX8_partOf_116 (by decide) ?_
            refine lv_iadd hx hb dX8_partOf_117 ?_
            exact pc_iret (v := ((b * v2) / d) + 0) (S := S) hx hb hr hlk hK hZ hA hW hS (⟨rfl, trivial⟩) dX8_partOf_118
          · have c6i : ¬ (Int32.toInt w ≤ Int32.toInt z) := fun h9 => c6 ((i3_le _ _).mpr h9)
            refine lv_iconst (v := 1) hx hb dX8_partOf_112 (by decide) ?_
            refine lv_goto (tgt := 117) hx hb dX8_partOf_113 (by decide) ?_
            refine lv_iadd hx hb dX8_partOf_117 ?_
            exact pc_iret (v := ((b * v2) / d) + 1) (S := S) hx hb hr hlk hK hZ hA hW hS (⟨rfl, trivial⟩) dX8_partOf_118
        · have c5i : ¬ ((6 : Int) ≤ Int32.toInt y) := fun h9 => c5 ((i3_le _ _).mpr h9)
          refine lv_iload_n hx hb dX8_partOf_32 rfl (lv_at hl 2 rfl) ?_
          refine lv_aload_n hx hb dX8_partOf_33 rfl (lv_at hl 0 rfl) ?_
          refine lv_iload hx hb dX8_partOf_34 (lv_at hl 7 rfl) ?_
          refine lv_iconst (v := 1) hx hb dX8_partOf_36 (by decide) ?_
          refine pc_Vi (As := [.int y, .int 1]) (rest := [.int b]) F (b_X8_countInState l D cy A S h y 1 hG hk) (cwV 2 hts gX8_partOf_X8_countInState rfl rfl rfl (by decide +kernel) ⟨Nat.le_of_ble_eq_true rfl, Nat.le_of_ble_eq_true rfl⟩) hK hZ hA hW hS hk (by decide) rfl rfl hl.1 rfl (Nat.le_of_ble_eq_true rfl) dX8_partOf_37 ⟨Nat.le_of_ble_eq_true rfl, Nat.le_of_ble_eq_true rfl⟩ (fun v7 T8 H locs p9 hW hS => ?_)
          obtain ⟨eT8, p9⟩ := p9
          rw [eT8] at hW
          clear eT8
          refine lv_imul hx hb dX8_partOf_40 ?_
          refine lv_istore (lv' := [(8, .int (b * v7)), (0, .ref h), (1, .int a), (2, .int b), (3, .int d), (4, .int w), (5, .int z), (6, .int (b * v2)), (7, .int y)]) hx hb dX8_partOf_41 hl (by decide) rfl (fun ls hl => ?_)
          refine lv_iload hx hb dX8_partOf_43 (lv_at hl 5 rfl) ?_
          refine lv_iload hx hb dX8_partOf_45 (lv_at hl 0 rfl) ?_
          refine lv_iload_n hx hb dX8_partOf_47 rfl (lv_at hl 4 rfl) ?_
          refine lv_idiv hx hb dX8_partOf_48 (fun h9 => by have h8 : d.toInt = (0 : Int) := (i3_eq _ _).mp h9; omega) ?_
          refine lv_isub hx hb dX8_partOf_49 ?_
          refine lv_istore (lv' := [(4, .int (w - ((b * v7) / d))), (8, .int (b * v7)), (0, .ref h), (1, .int a), (2, .int b), (3, .int d), (5, .int z), (6, .int (b * v2)), (7, .int y)]) hx hb dX8_partOf_50 hl (by decide) rfl (fun ls hl => ?_)
          refine lv_iload hx hb dX8_partOf_52 (lv_at hl 8 rfl) ?_
          refine lv_iload_n hx hb dX8_partOf_54 rfl (lv_at hl 3 rfl) ?_
          refine lv_icmp_ge (tgt := 73) hx hb dX8_partOf_55 (by decide) (fun c10 => ?_) (fun c10 => ?_)
          · have c10i : Int32.toInt a ≤ Int32.toInt y := (i3_le _ _).mp c10
            refine lv_iconst (v := 0) hx hb dX8_partOf_73 (by decide) ?_
            refine lv_istore (lv' := [(9, .int 0), (4, .int (w - ((b * v7) / d))), (8, .int (b * v7)), (0, .ref h), (1, .int a), (2, .int b), (3, .int d), (5, .int z), (6, .int (b * v2)), (7, .int y)]) hx hb dX8_partOf_74 hl (by decide) rfl (fun ls hl => ?_)
            refine lv_iload hx hb dX8_partOf_76 (lv_at hl 0 rfl) ?_
            refine lv_if_ne (tgt := 92) hx hb dX8_partOf_78 (by decide) (fun c11 => absurd (by decide) c11) (fun c11 => ?_)
            refine lv_iload hx hb dX8_partOf_81 (lv_at hl 2 rfl) ?_
            refine lv_iload_n hx hb dX8_partOf_83 rfl (lv_at hl 6 rfl) ?_
            refine lv_irem hx hb dX8_partOf_84 (fun h9 => by have h8 : d.toInt = (0 : Int) := (i3_eq _ _).mp h9; omega) ?_
            refine lv_iload hx hb dX8_partOf_85 (lv_at hl 8 rfl) ?_
            refine lv_iload_n hx hb dX8_partOf_87 rfl (lv_at hl 6 rfl) ?_
            refine lv_irem hx hb dX8_partOf_88 (fun h9 => by have h8 : d.toInt = (0 : Int) := (i3_eq _ _).mp h9; omega) ?_
            refine lv_icmp_le (tgt := 95) hx hb dX8_partOf_89 (by decide) (fun c12 => ?_) (fun c12 => ?_)
            · have c12i : Int32.toInt ((b * v7) - (b * v7) / d * d) ≤ Int32.toInt ((b * v2) - (b * v2) / d * d) := (i3_le _ _).mp c12
              refine lv_iinc (v := y + 1) (lv' := [(7, .int (y + 1)), (9, .int 0), (4, .int (w - ((b * v7) / d))), (8, .int (b * v7)), (0, .ref h), (1, .int a), (2, .int b), (3, .int d), (5, .int z), (6, .int (b * v2))]) hx hb dX8_partOf_95 hl (k := 9) rfl rfl (by decide) rfl (fun ls hl => ?_)
              have i13 : (y + 1).toInt = (y).toInt + 1 := i3_add rfl rfl (by omega) (by omega)
              refine lv_goto (tgt := 25) hx hb dX8_partOf_98 (by decide) ?_
              exact ih25 (w - ((b * v7) / d)) z (y + 1) _ _ ls (by omega) (by omega) hW hS (lv_cast (lv_sub hl [4, 5, 6, 7, 2, 8, 9, 0] rfl) (rfl))
            · have c12i : ¬ (Int32.toInt ((b * v7) - (b * v7) / d * d) ≤ Int32.toInt ((b * v2) - (b * v2) / d * d)) := fun h9 => c12 ((i3_le _ _).mpr h9)
              refine lv_iinc (v := z + 1) (lv' := [(5, .int (z + 1)), (9, .int 0), (4, .int (w - ((b * v7) / d))), (8, .int (b * v7)), (0, .ref h), (1, .int a), (2, .int b), (3, .int d), (6, .int (b * v2)), (7, .int y)]) hx hb dX8_partOf_92 hl (k := 7) rfl rfl (by decide) rfl (fun ls hl => ?_)
              refine lv_iinc (v := y + 1) (lv' := [(7, .int (y + 1)), (5, .int (z + 1)), (9, .int 0), (4, .int (w - ((b * v7) / d))), (8, .int (b * v7)), (0, .ref h), (1, .int a), (2, .int b), (3, .int d), (6, .int (b * v2))]) hx hb dX8_partOf_95 hl (k := 9) rfl rfl (by decide) rfl (fun ls hl => ?_)
              have i14 : (y + 1).toInt = (y).toInt + 1 := i3_add rfl rfl (by omega) (by omega)
              refine lv_goto (tgt := 25) hx hb dX8_partOf_98 (by decide) ?_
              exact ih25 (w - ((b * v7) / d)) (z + 1) (y + 1) _ _ ls (by omega) (by omega) hW hS (lv_cast (lv_sub hl [5, 6, 7, 8, 3, 1, 9, 0] rfl) (rfl))
          · have c10i : ¬ (Int32.toInt a ≤ Int32.toInt y) := fun h9 => c10 ((i3_le _ _).mpr h9)
            refine lv_iload hx hb dX8_partOf_58 (lv_at hl 1 rfl) ?_
            refine lv_iload_n hx hb dX8_partOf_60 rfl (lv_at hl 5 rfl) ?_
            refine lv_irem hx hb dX8_partOf_61 (fun h9 => by have h8 : d.toInt = (0 : Int) := (i3_eq _ _).mp h9; omega) ?_
            refine lv_iload hx hb dX8_partOf_62 (lv_at hl 7 rfl) ?_
            refine lv_iload_n hx hb dX8_partOf_64 rfl (lv_at hl 5 rfl) ?_
            refine lv_irem hx hb dX8_partOf_65 (fun h9 => by have h8 : d.toInt = (0 : Int) := (i3_eq _ _).mp h9; omega) ?_
            refine lv_icmp_ne (tgt := 73) hx hb dX8_partOf_66 (by decide) (fun c15 => ?_) (fun c15 => ?_)
            · have c15i : ¬ (Int32.toInt ((b * v7) - (b * v7) / d * d) = Int32.toInt ((b * v2) - (b * v2) / d * d)) := fun h9 => c15 ((i3_eq _ _).mpr h9)
              refine lv_iconst (v := 0) hx hb dX8_partOf_73 (by decide) ?_
              refine lv_istore (lv' := [(9, .int 0), (4, .int (w - ((b * v7) / d))), (8, .int (b * v7)), (0, .ref h), (1, .int a), (2, .int b), (3, .int d), (5, .int z), (6, .int (b * v2)), (7, .int y)]) hx hb dX8_partOf_74 hl (by decide) rfl (fun ls hl => ?_)
              refine lv_iload hx hb dX8_partOf_76 (lv_at hl 0 rfl) ?_
              refine lv_if_ne (tgt := 92) hx hb dX8_partOf_78 (by decide) (fun c16 => absurd (by decide) c16) (fun c16 => ?_)
              refine lv_iload hx hb dX8_partOf_81 (lv_at hl 2 rfl) ?_
              refine lv_iload_n hx hb dX8_partOf_83 rfl (lv_at hl 6 rfl) ?_
              refine lv_irem hx hb dX8_partOf_84 (fun h9 => by have h8 : d.toInt = (0 : Int) := (i3_eq _ _).mp h9; omega) ?_
              refine lv_iload hx hb dX8_partOf_85 (lv_at hl 8 rfl) ?_
              refine lv_iload_n hx hb dX8_partOf_87 rfl (lv_at hl 6 rfl) ?_
              refine lv_irem hx hb dX8_partOf_88 (fun h9 => by have h8 : d.toInt = (0 : Int) := (i3_eq _ _).mp h9; omega) ?_
              refine lv_icmp_le (tgt := 95) hx hb dX8_partOf_89 (by decide) (fun c17 => ?_) (fun c17 => ?_)
              · have c17i : Int32.toInt ((b * v7) - (b * v7) / d * d) ≤ Int32.toInt ((b * v2) - (b * v2) / d * d) := (i3_le _ _).mp c17
                refine lv_iinc (v := y + 1) (lv' := [(7, .int (y + 1)), (9, .int 0), (4, .int (w - ((b * v7) / d))), (8, .int (b * v7)), (0, .ref h), (1, .int a), (2, .int b), (3, .int d), (5, .int z), (6, .int (b * v2))]) hx hb dX8_partOf_95 hl (k := 9) rfl rfl (by decide) rfl (fun ls hl => ?_)
                have i18 : (y + 1).toInt = (y).toInt + 1 := i3_add rfl rfl (by omega) (by omega)
                refine lv_goto (tgt := 25) hx hb dX8_partOf_98 (by decide) ?_
                exact ih25 (w - ((b * v7) / d)) z (y + 1) _ _ ls (by omega) (by omega) hW hS (lv_cast (lv_sub hl [4, 5, 6, 7, 2, 8, 9, 0] rfl) (rfl))
              · have c17i : ¬ (Int32.toInt ((b * v7) - (b * v7) / d * d) ≤ Int32.toInt ((b * v2) - (b * v2) / d * d)) := fun h9 => c17 ((i3_le _ _).mpr h9)
                refine lv_iinc (v := z + 1) (lv' := [(5, .int (z + 1)), (9, .int 0), (4, .int (w - ((b * v7) / d))), (8, .int (b * v7)), (0, .ref h), (1, .int a), (2, .int b), (3, .int d), (6, .int (b * v2)), (7, .int y)]) hx hb dX8_partOf_92 hl (k := 7) rfl rfl (by decide) rfl (fun ls hl => ?_)
                refine lv_iinc (v := y + 1) (lv' := [(7, .int (y + 1)), (5, .int (z + 1)), (9, .int 0), (4, .int (w - ((b * v7) / d))), (8, .int (b * v7)), (0, .ref h), (1, .int a), (2, .int b), (3, .int d), (6, .int (b * v2))]) hx hb dX8_partOf_95 hl (k := 9) rfl rfl (by decide) rfl (fun ls hl => ?_)
                have i19 : (y + 1).toInt = (y).toInt + 1 := i3_add rfl rfl (by omega) (by omega)
                refine lv_goto (tgt := 25) hx hb dX8_partOf_98 (by decide) ?_
                exact ih25 (w - ((b * v7) / d)) (z + 1) (y + 1) _ _ ls (by omega) (by omega) hW hS (lv_cast (lv_sub hl [5, 6, 7, 8, 3, 1, 9, 0] rfl) (rfl))
            · have c15i : Int32.toInt ((b * v7) - (b * v7) / d * d) = Int32.toInt ((b * v2) - (b * v2) / d * d) := (i3_eq _ _).mp c15
              refine lv_iconst (v := 1) hx hb dX8_partOf_69 (by decide) ?_
              refine lv_goto (tgt := 74) hx hb dX8_partOf_70 (by decide) ?_
              refine lv_istore (lv' := [(9, .int 1), (4, .int (w - ((b * v7) / d))), (8, .int (b * v7)), (0, .ref h), (1, .int a), (2, .int b), (3, .int d), (5, .int z), (6, .int (b * v2)), (7, .int y)]) hx hb dX8_partOf_74 hl (by decide) rfl (fun ls hl => ?_)
              refine lv_iload hx hb dX8_partOf_76 (lv_at hl 0 rfl) ?_
              refine lv_if_ne (tgt := 92) hx hb dX8_partOf_78 (by decide) (fun c20 => ?_) (fun c20 => absurd c20 (by decide))
              refine lv_iinc (v := z + 1) (lv' := [(5, .int (z + 1)), (9, .int 1), (4, .int (w - ((b * v7) / d))), (8, .int (b * v7)), (0, .ref h), (1, .int a), (2, .int b), (3, .int d), (6, .int (b * v2)), (7, .int y)]) hx hb dX8_partOf_92 hl (k := 7) rfl rfl (by decide) rfl (fun ls hl => ?_)
              refine lv_iinc (v := y + 1) (lv' := [(7, .int (y + 1)), (5, .int (z + 1)), (9, .int 1), (4, .int (w - ((b * v7) / d))), (8, .int (b * v7)), (0, .ref h), (1, .int a), (2, .int b), (3, .int d), (6, .int (b * v2))]) hx hb dX8_partOf_95 hl (k := 9) rfl rfl (by decide) rfl (fun ls hl => ?_)
              have i21 : (y + 1).toInt = (y).toInt + 1 := i3_add rfl rfl (by omega) (by omega)
              refine lv_goto (tgt := 25) hx hb dX8_partOf_98 (by decide) ?_
              exact ih25 (w - ((b * v7) / d)) (z + 1) (y + 1) _ _ ls (by omega) (by omega) hW hS (lv_cast (lv_sub hl [5, 6, 7, 8, 3, 1, 9, 0] rfl) (rfl))
    exact loop25 _ b 0 0 _ _ ls (by decide) (Nat.lt_succ_self _) hW hS (lv_cast (lv_sub hl [4, 5, 6, 7, 3, 2, 1, 0] rfl) (rfl))
  · have c1i : ¬ ((0 : Int) < Int32.toInt d) := fun h9 => c1 ((i3_lt _ _).mpr h9)
    refine lv_iconst (v := (-1)) hx hb dX8_partOf_4 (by decide) ?_
    exact pc_iret (v := (-1)) (S := S) hx hb hr hlk hK hZ hA hW hS (⟨rfl, trivial⟩) dX8_partOf_5
set_option maxHeartbeats 4000000 in
set_option maxRecDepth 100000 in
theorem b_X8_part (l : Launch) (D : va_G) (cy : Nat → ClassId) (A : Nat → Prop) (S : St) (h : Nat) (a b : Int32) (hG0 : G S) (hk : sK S h = 8) : MI l yX8_part wsX8_part ({ frames := 3, cells := 0, slots := 0, locals := 75 } : Room) 0 0 D cy A [.ref h, .int a, .int b] S (fun r S1 => S1 = S ∧ True) := by
  refine mt_start (cc := cX8_part) (maxL := 5) (ret := (some .int)) (by decide) rfl (Nat.le_of_ble_eq_true rfl) ?_
  intro p e s m args below meth c hx hb hr hlk hml hown hnm hts hK hZ hA hW hS ls hl
  have hl : lv_has ls 5 [(0, .ref h), (1, .int a), (2, .int b)] := hl
  have hown : s.vm.findClass RX8 = some m.cls := hown
  have F : CallFix p m c cX8_part 5 s args wsX8_part RX8 := ⟨hx, hb, hml, hown, hts⟩
  have hG := hG0
  refine lv_iload_n hx hb dX8_part_0 rfl (lv_at hl 1 rfl) ?_
  refine lv_bipush (v := 6) hx hb dX8_part_1 (by decide) ?_
  refine pc_Si (As := [.int a, .int 6]) (rest := []) F (b_X8_isBelow l D cy A S a 6 ) (va_cwS 2 hts gX8_part_X8_isBelow rfl rfl rfl (by decide +kernel) ⟨Nat.le_of_ble_eq_true rfl, Nat.le_of_ble_eq_true rfl⟩) hK hZ hA hW hS rfl hl.1 rfl (Nat.le_of_ble_eq_true rfl) dX8_part_3 ⟨Nat.le_of_ble_eq_true rfl, Nat.le_of_ble_eq_true rfl⟩ (fun v1 T2 H locs p3 hW hS => ?_)
  obtain ⟨eT2, p3⟩ := p3
  rw [eT2] at hW
  clear eT2
  have p3 := isb_lit (n := 6) rfl p3
  refine lv_if_eq (tgt := 19) hx hb dX8_part_6 (by decide) (fun c4 => ?_) (fun c4 => ?_)
  · have c4i : Int32.toInt v1 = (0 : Int) := (i3_eq _ _).mp c4
    refine lv_iconst (v := (-1)) hx hb dX8_part_19 (by decide) ?_
    exact pc_iret (v := (-1)) (S := S) hx hb hr hlk hK hZ hA hW hS (⟨rfl, trivial⟩) dX8_part_20
  · have c4i : ¬ (Int32.toInt v1 = (0 : Int)) := fun h9 => c4 ((i3_eq _ _).mpr h9)
    refine lv_iload_n hx hb dX8_part_9 rfl (lv_at hl 2 rfl) ?_
    refine lv_if_lt (tgt := 19) hx hb dX8_part_10 (by decide) (fun c5 => ?_) (fun c5 => ?_)
    · have c5i : Int32.toInt b < (0 : Int) := (i3_lt _ _).mp c5
      refine lv_iconst (v := (-1)) hx hb dX8_part_19 (by decide) ?_
      exact pc_iret (v := (-1)) (S := S) hx hb hr hlk hK hZ hA hW hS (⟨rfl, trivial⟩) dX8_part_20
    · have c5i : ¬ (Int32.toInt b < (0 : Int)) := fun h9 => c5 ((i3_lt _ _).mpr h9)
      refine lv_iload_n hx hb dX8_part_13 rfl (lv_at hl 2 rfl) ?_
      refine lv_ldc (v := (100000)) hx hb hown (hts (.constant RX8 218 (100000)) (by decide +kernel)) dX8_part_14 ?_
      refine lv_icmp_le (tgt := 21) hx hb dX8_part_16 (by decide) (fun c6 => ?_) (fun c6 => ?_)
      · have c6i : Int32.toInt b ≤ (100000 : Int) := (i3_le _ _).mp c6
        refine lv_iconst (v := 0) hx hb dX8_part_21 (by decide) ?_
        refine lv_istore_n (lv' := [(3, .int 0), (0, .ref h), (1, .int a), (2, .int b)]) hx hb dX8_part_22 rfl hl (by decide) rfl (fun ls hl => ?_)
        refine lv_iconst (v := 0) hx hb dX8_part_23 (by decide) ?_
        refine lv_istore (lv' := [(4, .int 0), (3, .int 0), (0, .ref h), (1, .int a), (2, .int b)]) hx hb dX8_part_24 hl (by decide) rfl (fun ls hl => ?_)
        have loop26 : ∀ (zn : Nat) (z : Int32) (y : Int32) (H : Heap) (locs : List Loc) (ls : Array Slot), (0 ≤ y.toInt) → (6 - y.toInt).toNat < zn → PW D cy A S H → va_S A s.heap H locs → lv_has ls 5 [(0, .ref h), (1, .int a), (2, .int b), (3, .int z), (4, .int y)] → W p l e ({ frames := 3, cells := 0, slots := 0, locals := 75 } : Room) s m args below meth c H locs 0 0 (MQ below (va_Qi (fun r S1 => S1 = S ∧ True) (PU D cy A) A) args s 0 0 A) (F0 m 26 ls []) := by
          intro zn
          induction zn with
          | zero => intros; exact absurd (by assumption) (Nat.not_lt_zero _)
          | succ zn ih26 =>
            intro z y H locs ls hy0 hme26 hW hS hl
            refine lv_iload hx hb dX8_part_26 (lv_at hl 4 rfl) ?_
            refine lv_bipush (v := 6) hx hb dX8_part_28 (by decide) ?_
            refine lv_icmp_ge (tgt := 49) hx hb dX8_part_30 (by decide) (fun c7 => ?_) (fun c7 => ?_)
            · have c7i : (6 : Int) ≤ Int32.toInt y := (i3_le _ _).mp c7
              refine lv_aload_n hx hb dX8_part_49 rfl (lv_at hl 0 rfl) ?_
              refine lv_iload_n hx hb dX8_part_50 rfl (lv_at hl 1 rfl) ?_
              refine lv_iload_n hx hb dX8_part_51 rfl (lv_at hl 2 rfl) ?_
              refine lv_iload_n hx hb dX8_part_52 rfl (lv_at hl 3 rfl) ?_
              refine pc_Vi (As := [.int a, .int b, .int z]) (rest := []) F (b_X8_partOf l D cy A S h a b z hG hk) (cwV 3 hts gX8_part_X8_partOf rfl rfl rfl (by decide +kernel) ⟨Nat.le_of_ble_eq_true rfl, Nat.le_of_ble_eq_true rfl⟩) hK hZ hA hW hS hk (by decide) rfl rfl hl.1 rfl (Nat.le_of_ble_eq_true rfl) dX8_part_53 ⟨Nat.le_of_ble_eq_true rfl, Nat.le_of_ble_eq_true rfl⟩ (fun v8 T9 H locs p10 hW hS => ?_)
              obtain ⟨eT9, p10⟩ := p10
              rw [eT9] at hW
              clear eT9
              exact pc_iret (v := v8) (S := S) hx hb hr hlk hK hZ hA hW hS (⟨rfl, trivial⟩) dX8_part_56
            · have c7i : ¬ ((6 : Int) ≤ Int32.toInt y) := fun h9 => c7 ((i3_le _ _).mpr h9)
              refine lv_iload_n hx hb dX8_part_33 rfl (lv_at hl 3 rfl) ?_
              refine lv_aload_n hx hb dX8_part_34 rfl (lv_at hl 0 rfl) ?_
              refine lv_iload hx hb dX8_part_35 (lv_at hl 4 rfl) ?_
              refine lv_iconst (v := 1) hx hb dX8_part_37 (by decide) ?_
              refine pc_Vi (As := [.int y, .int 1]) (rest := [.int z]) F (b_X8_countInState l D cy A S h y 1 hG hk) (cwV 2 hts gX8_part_X8_countInState rfl rfl rfl (by decide +kernel) ⟨Nat.le_of_ble_eq_true rfl, Nat.le_of_ble_eq_true rfl⟩) hK hZ hA hW hS hk (by decide) rfl rfl hl.1 rfl (Nat.le_of_ble_eq_true rfl) dX8_part_38 ⟨Nat.le_of_ble_eq_true rfl, Nat.le_of_ble_eq_true rfl⟩ (fun v11 T12 H locs p13 hW hS => ?_)
              obtain ⟨eT12, p13⟩ := p13
              rw [eT12] at hW
              clear eT12
              refine lv_iadd hx hb dX8_part_41 ?_
              refine lv_istore_n (lv' := [(3, .int (z + v11)), (0, .ref h), (1, .int a), (2, .int b), (4, .int y)]) hx hb dX8_part_42 rfl hl (by decide) rfl (fun ls hl => ?_)
              refine lv_iinc (v := y + 1) (lv' := [(4, .int (y + 1)), (3, .int (z + v11)), (0, .ref h), (1, .int a), (2, .int b)]) hx hb dX8_part_43 hl (k := 4) rfl rfl (by decide) rfl (fun ls hl => ?_)
              have i14 : (y + 1).toInt = (y).toInt + 1 := i3_add rfl rfl (by omega) (by omega)
              refine lv_goto (tgt := 26) hx hb dX8_part_46 (by decide) ?_
              exact ih26 (z + v11) (y + 1) _ _ ls (by omega) (by omega) hW hS (lv_cast (lv_sub hl [2, 3, 4, 1, 0] rfl) (rfl))
        exact loop26 _ 0 0 _ _ ls (by decide) (Nat.lt_succ_self _) hW hS (lv_cast (lv_sub hl [2, 3, 4, 1, 0] rfl) (rfl))
      · have c6i : ¬ (Int32.toInt b ≤ (100000 : Int)) := fun h9 => c6 ((i3_le _ _).mpr h9)
        refine lv_iconst (v := (-1)) hx hb dX8_part_19 (by decide) ?_
        exact pc_iret (v := (-1)) (S := S) hx hb hr hlk hK hZ hA hW hS (⟨rfl, trivial⟩) dX8_part_20
set_option maxHeartbeats 4000000 in
set_option maxRecDepth 100000 in
theorem b_X8_look (l : Launch) (D : va_G) (cy : Nat → ClassId) (A : Nat → Prop) (S : St) (h : Nat) (a b : Int32) (hG0 : G S) (hk : sK S h = 8) : MI l yX8_look wsX8_look ({ frames := 1, cells := 0, slots := 0, locals := 21 } : Room) 0 0 D cy A [.ref h, .int a, .int b] S (fun r S1 => S1 = S ∧ True) := by
  refine mt_start (cc := cX8_look) (maxL := 4) (ret := (some .int)) (by decide) rfl (Nat.le_of_ble_eq_true rfl) ?_
  intro p e s m args below meth c hx hb hr hlk hml hown hnm hts hK hZ hA hW hS ls hl
  have hl : lv_has ls 4 [(0, .ref h), (1, .int a), (2, .int b)] := hl
  have hown : s.vm.findClass RX8 = some m.cls := hown
  have F : CallFix p m c cX8_look 4 s args wsX8_look RX8 := ⟨hx, hb, hml, hown, hts⟩
  have wi6 : ∀ w ∈ u_ws RX6 TX6 10, w ∈ wsX8_look := by decide +kernel
  have hG := hG0
  refine lv_aload_n hx hb dX8_look_0 rfl (lv_at hl 0 rfl) ?_
  refine lv_iload_n hx hb dX8_look_1 rfl (lv_at hl 1 rfl) ?_
  refine pc_Vq (As := [.int a]) (rest := []) F (b_X8_sessionOf l D cy A S h a hG hk) (cwV 1 hts gX8_look_X8_sessionOf rfl rfl rfl (by decide +kernel) ⟨Nat.le_of_ble_eq_true rfl, Nat.le_of_ble_eq_true rfl⟩) hK hZ hA hW hS hk (by decide) rfl rfl hl.1 rfl (Nat.le_of_ble_eq_true rfl) dX8_look_2 ⟨Nat.le_of_ble_eq_true rfl, Nat.le_of_ble_eq_true rfl⟩ (fun v1 T2 H locs p3 hW hS => ?_)
  obtain ⟨eT2, p3⟩ := p3
  rw [eT2] at hW
  rcases p3 with erb4 | ⟨b4, erb4, kb4⟩
  · rw [erb4]
    refine lv_astore_nN (lv' := [(3, .null), (0, .ref h), (1, .int a), (2, .int b)]) hx hb dX8_look_5 rfl hl (by decide) rfl (fun ls hl => ?_)
    refine lv_aload_nN hx hb dX8_look_6 rfl (lv_at hl 0 rfl) ?_
    refine lv_ifnonnullN hx hb dX8_look_7 ?_
    refine lv_iconst (v := (-1)) hx hb dX8_look_10 (by decide) ?_
    exact pc_iret (v := (-1)) (S := S) hx hb hr hlk hK hZ hA hW hS (⟨rfl, trivial⟩) dX8_look_11
  · rw [erb4]
    refine lv_astore_n (lv' := [(3, .ref b4), (0, .ref h), (1, .int a), (2, .int b)]) hx hb dX8_look_5 rfl hl (by decide) rfl (fun ls hl => ?_)
    refine lv_aload_n hx hb dX8_look_6 rfl (lv_at hl 0 rfl) ?_
    refine lv_ifnonnull (tgt := 12) hx hb dX8_look_7 (by decide) ?_
    refine lv_iload_n hx hb dX8_look_12 rfl (lv_at hl 3 rfl) ?_
    by_cases c5 : b = 0
    · have c5i : Int32.toInt b = 0 := by rw [c5]; rfl
      refine lv_tableIn (off := 51) (tgt := 64) hx hb dX8_look_13 (by rw [c5]; decide) (by rw [c5]; decide) (by rw [c5]; rfl) (by decide) ?_
      refine lv_aload_n hx hb dX8_look_64 rfl (lv_at hl 0 rfl) ?_
      refine pg_gi (ci := 6) (C := RX6) (T := TX6) (N := 10) hx hb hts wi6 hown hK hW kb4 (by decide) rfl 0 (by decide) (hts (.fieldLink RX8 225 "IceHall$Session" "byClub" "I") (by decide +kernel)) (fun _ h9 => h9) rfl dX8_look_65 ?_
      exact pc_iret (v := sI S b4 0) (S := S) hx hb hr hlk hK hZ hA hW hS (⟨rfl, trivial⟩) dX8_look_68
    by_cases c6 : b = 1
    · have c6i : Int32.toInt b = 1 := by rw [c6]; rfl
      refine lv_tableIn (off := 56) (tgt := 69) hx hb dX8_look_13 (by rw [c6]; decide) (by rw [c6]; decide) (by rw [c6]; rfl) (by decide) ?_
      refine lv_aload_n hx hb dX8_look_69 rfl (lv_at hl 0 rfl) ?_
      refine pg_gi (ci := 6) (C := RX6) (T := TX6) (N := 10) hx hb hts wi6 hown hK hW kb4 (by decide) rfl 1 (by decide) (hts (.fieldLink RX8 228 "IceHall$Session" "kind" "I") (by decide +kernel)) (fun _ h9 => h9) rfl dX8_look_70 ?_
      exact pc_iret (v := sI S b4 1) (S := S) hx hb hr hlk hK hZ hA hW hS (⟨rfl, trivial⟩) dX8_look_73
    by_cases c7 : b = 2
    · have c7i : Int32.toInt b = 2 := by rw [c7]; rfl
      refine lv_tableIn (off := 61) (tgt := 74) hx hb dX8_look_13 (by rw [c7]; decide) (by rw [c7]; decide) (by rw [c7]; rfl) (by decide) ?_
      refine lv_aload_n hx hb dX8_look_74 rfl (lv_at hl 0 rfl) ?_
      refine pg_gi (ci := 6) (C := RX6) (T := TX6) (N := 10) hx hb hts wi6 hown hK hW kb4 (by decide) rfl 4 (by decide) (hts (.fieldLink RX8 138 "IceHall$Session" "onSheet" "I") (by decide +kernel)) (fun _ h9 => h9) rfl dX8_look_75 ?_
      exact pc_iret (v := sI S b4 4) (S := S) hx hb hr hlk hK hZ hA hW hS (⟨rfl, trivial⟩) dX8_look_78
    by_cases c8 : b = 3
    · have c8i : Int32.toInt b = 3 := by rw [c8]; rfl
      refine lv_tableIn (off := 66) (tgt := 79) hx hb dX8_look_13 (by rw [c8]; decide) (by rw [c8]; decide) (by rw [c8]; rfl) (by decide) ?_
      refine lv_aload_n hx hb dX8_look_79 rfl (lv_at hl 0 rfl) ?_
      refine pg_gi (ci := 6) (C := RX6) (T := TX6) (N := 10) hx hb hts wi6 hown hK hW kb4 (by decide) rfl 5 (by decide) (hts (.fieldLink RX8 141 "IceHall$Session" "hour" "I") (by decide +kernel)) (fun _ h9 => h9) rfl dX8_look_80 ?_
      exact pc_iret (v := sI S b4 5) (S := S) hx hb hr hlk hK hZ hA hW hS (⟨rfl, trivial⟩) dX8_look_83
    by_cases c9 : b = 4
    · have c9i : Int32.toInt b = 4 := by rw [c9]; rfl
      refine lv_tableIn (off := 71) (tgt := 84) hx hb dX8_look_13 (by rw [c9]; decide) (by rw [c9]; decide) (by rw [c9]; rfl) (by decide) ?_
      refine lv_aload_n hx hb dX8_look_84 rfl (lv_at hl 0 rfl) ?_
      refine pg_gi (ci := 6) (C := RX6) (T := TX6) (N := 10) hx hb hts wi6 hown hK hW kb4 (by decide) rfl 6 (by decide) (hts (.fieldLink RX8 135 "IceHall$Session" "state" "I") (by decide +kernel)) (fun _ h9 => h9) rfl dX8_look_85 ?_
      exact pc_iret (v := sI S b4 6) (S := S) hx hb hr hlk hK hZ hA hW hS (⟨rfl, trivial⟩) dX8_look_88
    by_cases c10 : b = 5
    · have c10i : Int32.toInt b = 5 := by rw [c10]; rfl
      refine lv_tableIn (off := 76) (tgt := 89) hx hb dX8_look_13 (by rw [c10]; decide) (by rw [c10]; decide) (by rw [c10]; rfl) (by decide) ?_
      refine lv_aload_n hx hb dX8_look_89 rfl (lv_at hl 0 rfl) ?_
      refine pg_gi (ci := 6) (C := RX6) (T := TX6) (N := 10) hx hb hts wi6 hown hK hW kb4 (by decide) rfl 7 (by decide) (hts (.fieldLink RX8 231 "IceHall$Session" "whyLost" "I") (by decide +kernel)) (fun _ h9 => h9) rfl dX8_look_90 ?_
      exact pc_iret (v := sI S b4 7) (S := S) hx hb hr hlk hK hZ hA hW hS (⟨rfl, trivial⟩) dX8_look_93
    by_cases c11 : b = 6
    · have c11i : Int32.toInt b = 6 := by rw [c11]; rfl
      refine lv_tableIn (off := 81) (tgt := 94) hx hb dX8_look_13 (by rw [c11]; decide) (by rw [c11]; decide) (by rw [c11]; rfl) (by decide) ?_
      refine lv_aload_n hx hb dX8_look_94 rfl (lv_at hl 0 rfl) ?_
      refine pg_gi (ci := 6) (C := RX6) (T := TX6) (N := 10) hx hb hts wi6 hown hK hW kb4 (by decide) rfl 2 (by decide) (hts (.fieldLink RX8 147 "IceHall$Session" "fee" "I") (by decide +kernel)) (fun _ h9 => h9) rfl dX8_look_95 ?_
      exact pc_iret (v := sI S b4 2) (S := S) hx hb hr hlk hK hZ hA hW hS (⟨rfl, trivial⟩) dX8_look_98
    by_cases c12 : b = 7
    · have c12i : Int32.toInt b = 7 := by rw [c12]; rfl
      refine lv_tableIn (off := 86) (tgt := 99) hx hb dX8_look_13 (by rw [c12]; decide) (by rw [c12]; decide) (by rw [c12]; rfl) (by decide) ?_
      refine lv_aload_n hx hb dX8_look_99 rfl (lv_at hl 0 rfl) ?_
      refine pg_gi (ci := 6) (C := RX6) (T := TX6) (N := 10) hx hb hts wi6 hown hK hW kb4 (by decide) rfl 8 (by decide) (hts (.fieldLink RX8 153 "IceHall$Session" "owes" "I") (by decide +kernel)) (fun _ h9 => h9) rfl dX8_look_100 ?_
      exact pc_iret (v := sI S b4 8) (S := S) hx hb hr hlk hK hZ hA hW hS (⟨rfl, trivial⟩) dX8_look_103
    by_cases c13 : b = 8
    · have c13i : Int32.toInt b = 8 := by rw [c13]; rfl
      refine lv_tableIn (off := 91) (tgt := 104) hx hb dX8_look_13 (by rw [c13]; decide) (by rw [c13]; decide) (by rw [c13]; rfl) (by decide) ?_
      refine lv_aload_n hx hb dX8_look_104 rfl (lv_at hl 0 rfl) ?_
      refine pg_gi (ci := 6) (C := RX6) (T := TX6) (N := 10) hx hb hts wi6 hown hK hW kb4 (by decide) rfl 9 (by decide) (hts (.fieldLink RX8 234 "IceHall$Session" "timesMoved" "I") (by decide +kernel)) (fun _ h9 => h9) rfl dX8_look_105 ?_
      exact pc_iret (v := sI S b4 9) (S := S) hx hb hr hlk hK hZ hA hW hS (⟨rfl, trivial⟩) dX8_look_108
    have c5i : ¬ Int32.toInt b = 0 := lv_neT c5 rfl
    have c6i : ¬ Int32.toInt b = 1 := lv_neT c6 rfl
    have c7i : ¬ Int32.toInt b = 2 := lv_neT c7 rfl
    have c8i : ¬ Int32.toInt b = 3 := lv_neT c8 rfl
    have c9i : ¬ Int32.toInt b = 4 := lv_neT c9 rfl
    have c10i : ¬ Int32.toInt b = 5 := lv_neT c10 rfl
    have c11i : ¬ Int32.toInt b = 6 := lv_neT c11 rfl
    have c12i : ¬ Int32.toInt b = 7 := lv_neT c12 rfl
    have c13i : ¬ Int32.toInt b = 8 := lv_neT c13 rfl
    refine lv_tableOut (tgt := 109) hx hb dX8_look_13 (by have qc5 := lv_neT c5 (a := 0) rfl; have qc6 := lv_neT c6 (a := 1) rfl; have qc7 := lv_neT c7 (a := 2) rfl; have qc8 := lv_neT c8 (a := 3) rfl; have qc9 := lv_neT c9 (a := 4) rfl; have qc10 := lv_neT c10 (a := 5) rfl; have qc11 := lv_neT c11 (a := 6) rfl; have qc12 := lv_neT c12 (a := 7) rfl; have qc13 := lv_neT c13 (a := 8) rfl; omega) (by decide) ?_
    refine lv_iconst (v := (-1)) hx hb dX8_look_109 (by decide) ?_
    exact pc_iret (v := (-1)) (S := S) hx hb hr hlk hK hZ hA hW hS (⟨rfl, trivial⟩) dX8_look_110
set_option maxHeartbeats 4000000 in
set_option maxRecDepth 100000 in
theorem b_X8_at (l : Launch) (D : va_G) (cy : Nat → ClassId) (A : Nat → Prop) (S : St) (h : Nat) (a b : Int32) (hG0 : G S) (hk : sK S h = 8) : MI l yX8_at wsX8_at ({ frames := 2, cells := 0, slots := 0, locals := 45 } : Room) 0 0 D cy A [.ref h, .int a, .int b] S (fun r S1 => S1 = S ∧ True) := by
  refine mt_start (cc := cX8_at) (maxL := 3) (ret := (some .int)) (by decide) rfl (Nat.le_of_ble_eq_true rfl) ?_
  intro p e s m args below meth c hx hb hr hlk hml hown hnm hts hK hZ hA hW hS ls hl
  have hl : lv_has ls 3 [(0, .ref h), (1, .int a), (2, .int b)] := hl
  have hown : s.vm.findClass RX8 = some m.cls := hown
  have F : CallFix p m c cX8_at 3 s args wsX8_at RX8 := ⟨hx, hb, hml, hown, hts⟩
  have hG := hG0
  refine lv_iload_n hx hb dX8_at_0 rfl (lv_at hl 1 rfl) ?_
  refine lv_iconst (v := 2) hx hb dX8_at_1 (by decide) ?_
  refine pc_Si (As := [.int a, .int 2]) (rest := []) F (b_X8_isBelow l D cy A S a 2 ) (va_cwS 2 hts gX8_at_X8_isBelow rfl rfl rfl (by decide +kernel) ⟨Nat.le_of_ble_eq_true rfl, Nat.le_of_ble_eq_true rfl⟩) hK hZ hA hW hS rfl hl.1 rfl (Nat.le_of_ble_eq_true rfl) dX8_at_2 ⟨Nat.le_of_ble_eq_true rfl, Nat.le_of_ble_eq_true rfl⟩ (fun v1 T2 H locs p3 hW hS => ?_)
  obtain ⟨eT2, p3⟩ := p3
  rw [eT2] at hW
  clear eT2
  have p3 := isb_lit (n := 2) rfl p3
  refine lv_if_eq (tgt := 17) hx hb dX8_at_5 (by decide) (fun c4 => ?_) (fun c4 => ?_)
  · have c4i : Int32.toInt v1 = (0 : Int) := (i3_eq _ _).mp c4
    refine lv_iconst (v := (-1)) hx hb dX8_at_17 (by decide) ?_
    exact pc_iret (v := (-1)) (S := S) hx hb hr hlk hK hZ hA hW hS (⟨rfl, trivial⟩) dX8_at_18
  · have c4i : ¬ (Int32.toInt v1 = (0 : Int)) := fun h9 => c4 ((i3_eq _ _).mpr h9)
    refine lv_aload_n hx hb dX8_at_8 rfl (lv_at hl 0 rfl) ?_
    refine lv_iload_n hx hb dX8_at_9 rfl (lv_at hl 1 rfl) ?_
    refine lv_iload_n hx hb dX8_at_10 rfl (lv_at hl 2 rfl) ?_
    refine pc_Vi (As := [.int a, .int b]) (rest := []) F (b_X8_numberAt l D cy A S h a b hG hk) (cwV 2 hts gX8_at_X8_numberAt rfl rfl rfl (by decide +kernel) ⟨Nat.le_of_ble_eq_true rfl, Nat.le_of_ble_eq_true rfl⟩) hK hZ hA hW hS hk (by decide) rfl rfl hl.1 rfl (Nat.le_of_ble_eq_true rfl) dX8_at_11 ⟨Nat.le_of_ble_eq_true rfl, Nat.le_of_ble_eq_true rfl⟩ (fun v5 T6 H locs p7 hW hS => ?_)
    obtain ⟨eT6, p7⟩ := p7
    rw [eT6] at hW
    clear eT6
    refine lv_goto (tgt := 18) hx hb dX8_at_14 (by decide) ?_
    exact pc_iret (v := v5) (S := S) hx hb hr hlk hK hZ hA hW hS (⟨rfl, trivial⟩) dX8_at_18
set_option maxHeartbeats 4000000 in
set_option maxRecDepth 100000 in
theorem b_X8_sheet (l : Launch) (D : va_G) (cy : Nat → ClassId) (A : Nat → Prop) (S : St) (h : Nat) (a b : Int32) (hG0 : G S) (hk : sK S h = 8) : MI l yX8_sheet wsX8_sheet ({ frames := 1, cells := 0, slots := 0, locals := 21 } : Room) 0 0 D cy A [.ref h, .int a, .int b] S (fun r S1 => S1 = S ∧ True) := by
  refine mt_start (cc := cX8_sheet) (maxL := 4) (ret := (some .int)) (by decide) rfl (Nat.le_of_ble_eq_true rfl) ?_
  intro p e s m args below meth c hx hb hr hlk hml hown hnm hts hK hZ hA hW hS ls hl
  have hl : lv_has ls 4 [(0, .ref h), (1, .int a), (2, .int b)] := hl
  have hown : s.vm.findClass RX8 = some m.cls := hown
  have F : CallFix p m c cX8_sheet 4 s args wsX8_sheet RX8 := ⟨hx, hb, hml, hown, hts⟩
  have wi1 : ∀ w ∈ u_ws RX1 TX1 10, w ∈ wsX8_sheet := by decide +kernel
  have wi8 : ∀ w ∈ u_ws RX8 TX8 18, w ∈ wsX8_sheet := by decide +kernel
  have hG := hG0
  refine lv_iload_n hx hb dX8_sheet_0 rfl (lv_at hl 1 rfl) ?_
  refine lv_iconst (v := 2) hx hb dX8_sheet_1 (by decide) ?_
  refine pc_Si (As := [.int a, .int 2]) (rest := []) F (b_X8_isBelow l D cy A S a 2 ) (va_cwS 2 hts gX8_sheet_X8_isBelow rfl rfl rfl (by decide +kernel) ⟨Nat.le_of_ble_eq_true rfl, Nat.le_of_ble_eq_true rfl⟩) hK hZ hA hW hS rfl hl.1 rfl (Nat.le_of_ble_eq_true rfl) dX8_sheet_2 ⟨Nat.le_of_ble_eq_true rfl, Nat.le_of_ble_eq_true rfl⟩ (fun v1 T2 H locs p3 hW hS => ?_)
  obtain ⟨eT2, p3⟩ := p3
  rw [eT2] at hW
  clear eT2
  have p3 := isb_lit (n := 2) rfl p3
  refine lv_if_ne (tgt := 10) hx hb dX8_sheet_5 (by decide) (fun c4 => ?_) (fun c4 => ?_)
  · have c4i : ¬ (Int32.toInt v1 = (0 : Int)) := fun h9 => c4 ((i3_eq _ _).mpr h9)
    refine lv_aload_n hx hb dX8_sheet_10 rfl (lv_at hl 0 rfl) ?_
    refine lv_iload_n hx hb dX8_sheet_11 rfl (lv_at hl 1 rfl) ?_
    refine pc_Vq (As := [.int a]) (rest := []) F (b_X8_iceOf l D cy A S h a hG hk) (cwV 1 hts gX8_sheet_X8_iceOf rfl rfl rfl (by decide +kernel) ⟨Nat.le_of_ble_eq_true rfl, Nat.le_of_ble_eq_true rfl⟩) hK hZ hA hW hS hk (by decide) rfl rfl hl.1 rfl (Nat.le_of_ble_eq_true rfl) dX8_sheet_12 ⟨Nat.le_of_ble_eq_true rfl, Nat.le_of_ble_eq_true rfl⟩ (fun v5 T6 H locs p7 hW hS => ?_)
    obtain ⟨eT6, p7⟩ := p7
    rw [eT6] at hW
    obtain ⟨b8, erb8, kb8⟩ := p7
    rw [erb8]
    refine lv_astore_n (lv' := [(3, .ref b8), (0, .ref h), (1, .int a), (2, .int b)]) hx hb dX8_sheet_15 rfl hl (by decide) rfl (fun ls hl => ?_)
    refine lv_iload_n hx hb dX8_sheet_16 rfl (lv_at hl 3 rfl) ?_
    by_cases c9 : b = 0
    · have c9i : Int32.toInt b = 0 := by rw [c9]; rfl
      refine lv_tableIn (off := 39) (tgt := 56) hx hb dX8_sheet_17 (by rw [c9]; decide) (by rw [c9]; decide) (by rw [c9]; rfl) (by decide) ?_
      refine lv_aload_n hx hb dX8_sheet_56 rfl (lv_at hl 0 rfl) ?_
      refine pg_gi (ci := 1) (C := RX1) (T := TX1) (N := 10) hx hb hts wi1 hown hK hW kb8 (by decide) rfl 3 (by decide) (hts (.fieldLink RX8 240 "IceHall$Ice" "thickness" "I") (by decide +kernel)) (fun _ h9 => h9) rfl dX8_sheet_57 ?_
      exact pc_iret (v := sI S b8 3) (S := S) hx hb hr hlk hK hZ hA hW hS (⟨rfl, trivial⟩) dX8_sheet_60
    by_cases c10 : b = 1
    · have c10i : Int32.toInt b = 1 := by rw [c10]; rfl
      refine lv_tableIn (off := 44) (tgt := 61) hx hb dX8_sheet_17 (by rw [c10]; decide) (by rw [c10]; decide) (by rw [c10]; rfl) (by decide) ?_
      refine lv_aload_n hx hb dX8_sheet_61 rfl (lv_at hl 0 rfl) ?_
      refine pg_gi (ci := 1) (C := RX1) (T := TX1) (N := 10) hx hb hts wi1 hown hK hW kb8 (by decide) rfl 4 (by decide) (hts (.fieldLink RX8 243 "IceHall$Ice" "ruts" "I") (by decide +kernel)) (fun _ h9 => h9) rfl dX8_sheet_62 ?_
      exact pc_iret (v := sI S b8 4) (S := S) hx hb hr hlk hK hZ hA hW hS (⟨rfl, trivial⟩) dX8_sheet_65
    by_cases c11 : b = 2
    · have c11i : Int32.toInt b = 2 := by rw [c11]; rfl
      refine lv_tableIn (off := 49) (tgt := 66) hx hb dX8_sheet_17 (by rw [c11]; decide) (by rw [c11]; decide) (by rw [c11]; rfl) (by decide) ?_
      refine lv_aload_n hx hb dX8_sheet_66 rfl (lv_at hl 0 rfl) ?_
      refine pg_gi (ci := 1) (C := RX1) (T := TX1) (N := 10) hx hb hts wi1 hown hK hW kb8 (by decide) rfl 5 (by decide) (hts (.fieldLink RX8 246 "IceHall$Ice" "shaved" "I") (by decide +kernel)) (fun _ h9 => h9) rfl dX8_sheet_67 ?_
      exact pc_iret (v := sI S b8 5) (S := S) hx hb hr hlk hK hZ hA hW hS (⟨rfl, trivial⟩) dX8_sheet_70
    by_cases c12 : b = 3
    · have c12i : Int32.toInt b = 3 := by rw [c12]; rfl
      refine lv_tableIn (off := 54) (tgt := 71) hx hb dX8_sheet_17 (by rw [c12]; decide) (by rw [c12]; decide) (by rw [c12]; rfl) (by decide) ?_
      refine lv_aload_n hx hb dX8_sheet_71 rfl (lv_at hl 0 rfl) ?_
      refine pg_gi (ci := 1) (C := RX1) (T := TX1) (N := 10) hx hb hts wi1 hown hK hW kb8 (by decide) rfl 6 (by decide) (hts (.fieldLink RX8 249 "IceHall$Ice" "flooded" "I") (by decide +kernel)) (fun _ h9 => h9) rfl dX8_sheet_72 ?_
      exact pc_iret (v := sI S b8 6) (S := S) hx hb hr hlk hK hZ hA hW hS (⟨rfl, trivial⟩) dX8_sheet_75
    by_cases c13 : b = 4
    · have c13i : Int32.toInt b = 4 := by rw [c13]; rfl
      refine lv_tableIn (off := 59) (tgt := 76) hx hb dX8_sheet_17 (by rw [c13]; decide) (by rw [c13]; decide) (by rw [c13]; rfl) (by decide) ?_
      refine lv_aload_n hx hb dX8_sheet_76 rfl (lv_at hl 0 rfl) ?_
      refine pg_gi (ci := 1) (C := RX1) (T := TX1) (N := 10) hx hb hts wi1 hown hK hW kb8 (by decide) rfl 7 (by decide) (hts (.fieldLink RX8 252 "IceHall$Ice" "melted" "I") (by decide +kernel)) (fun _ h9 => h9) rfl dX8_sheet_77 ?_
      exact pc_iret (v := sI S b8 7) (S := S) hx hb hr hlk hK hZ hA hW hS (⟨rfl, trivial⟩) dX8_sheet_80
    by_cases c14 : b = 5
    · have c14i : Int32.toInt b = 5 := by rw [c14]; rfl
      refine lv_tableIn (off := 64) (tgt := 81) hx hb dX8_sheet_17 (by rw [c14]; decide) (by rw [c14]; decide) (by rw [c14]; rfl) (by decide) ?_
      refine lv_aload_n hx hb dX8_sheet_81 rfl (lv_at hl 0 rfl) ?_
      obtain ⟨b15, rb15, kb15, nb15⟩ := hG0.r kb8 List.not_mem_nil 1 (show rty 1 1 = some (0, 0) from rfl)
      refine pg_gr (b := b15) (ci := 1) (C := RX1) (T := TX1) (N := 10) hx hb hts wi1 hown hK hW kb8 (by decide) rfl 1 (by decide) (hts (.fieldLink RX8 171 "IceHall$Ice" "closed" "LIceHall$HourSet;") (by decide +kernel)) (fun _ h9 => h9) rfl rb15 dX8_sheet_82 ?_
      refine lv_aload_n hx hb dX8_sheet_85 rfl (lv_at hl 1 rfl) ?_
      refine pg_gi (ci := 8) (C := RX8) (T := TX8) (N := 18) hx hb hts wi8 hown hK hW hk (by decide) rfl 10 (by decide) (hts (.fieldLink RX8 96 "IceHall" "now" "I") (by decide +kernel)) (fun _ h9 => h9) rfl dX8_sheet_86 ?_
      have g16 : (0 : Int) ≤ (sI S h 10).toInt ∧ (sI S h 10).toInt ≤ 990 := hG.i hk (by decide) 10 (by decide)
      refine pc_Vi (As := [.int (sI S h 10)]) (rest := []) F (b_X0_has l D cy A S b15 (sI S h 10) hG kb15) (cwV 1 hts gX8_sheet_X0_has rfl rfl rfl (by decide +kernel) ⟨Nat.le_of_ble_eq_true rfl, Nat.le_of_ble_eq_true rfl⟩) hK hZ hA hW hS kb15 (by decide) rfl rfl hl.1 rfl (Nat.le_of_ble_eq_true rfl) dX8_sheet_89 ⟨Nat.le_of_ble_eq_true rfl, Nat.le_of_ble_eq_true rfl⟩ (fun v17 T18 H locs p19 hW hS => ?_)
      obtain ⟨eT18, p19⟩ := p19
      rw [eT18] at hW
      clear eT18
      refine lv_if_eq (tgt := 99) hx hb dX8_sheet_92 (by decide) (fun c20 => ?_) (fun c20 => ?_)
      · have c20i : Int32.toInt v17 = (0 : Int) := (i3_eq _ _).mp c20
        refine lv_iconst (v := 0) hx hb dX8_sheet_99 (by decide) ?_
        exact pc_iret (v := 0) (S := S) hx hb hr hlk hK hZ hA hW hS (⟨rfl, trivial⟩) dX8_sheet_100
      · have c20i : ¬ (Int32.toInt v17 = (0 : Int)) := fun h9 => c20 ((i3_eq _ _).mpr h9)
        refine lv_iconst (v := 1) hx hb dX8_sheet_95 (by decide) ?_
        refine lv_goto (tgt := 100) hx hb dX8_sheet_96 (by decide) ?_
        exact pc_iret (v := 1) (S := S) hx hb hr hlk hK hZ hA hW hS (⟨rfl, trivial⟩) dX8_sheet_100
    have c9i : ¬ Int32.toInt b = 0 := lv_neT c9 rfl
    have c10i : ¬ Int32.toInt b = 1 := lv_neT c10 rfl
    have c11i : ¬ Int32.toInt b = 2 := lv_neT c11 rfl
    have c12i : ¬ Int32.toInt b = 3 := lv_neT c12 rfl
    have c13i : ¬ Int32.toInt b = 4 := lv_neT c13 rfl
    have c14i : ¬ Int32.toInt b = 5 := lv_neT c14 rfl
    refine lv_tableOut (tgt := 101) hx hb dX8_sheet_17 (by have qc9 := lv_neT c9 (a := 0) rfl; have qc10 := lv_neT c10 (a := 1) rfl; have qc11 := lv_neT c11 (a := 2) rfl; have qc12 := lv_neT c12 (a := 3) rfl; have qc13 := lv_neT c13 (a := 4) rfl; have qc14 := lv_neT c14 (a := 5) rfl; omega) (by decide) ?_
    refine lv_iconst (v := (-1)) hx hb dX8_sheet_101 (by decide) ?_
    exact pc_iret (v := (-1)) (S := S) hx hb hr hlk hK hZ hA hW hS (⟨rfl, trivial⟩) dX8_sheet_102
  · have c4i : Int32.toInt v1 = (0 : Int) := (i3_eq _ _).mp c4
    refine lv_iconst (v := (-1)) hx hb dX8_sheet_8 (by decide) ?_
    exact pc_iret (v := (-1)) (S := S) hx hb hr hlk hK hZ hA hW hS (⟨rfl, trivial⟩) dX8_sheet_9
set_option maxHeartbeats 4000000 in
set_option maxRecDepth 100000 in
theorem b_X8_club (l : Launch) (D : va_G) (cy : Nat → ClassId) (A : Nat → Prop) (S : St) (h : Nat) (a b : Int32) (hG0 : G S) (hk : sK S h = 8) : MI l yX8_club wsX8_club ({ frames := 2, cells := 0, slots := 0, locals := 46 } : Room) 0 0 D cy A [.ref h, .int a, .int b] S (fun r S1 => S1 = S ∧ True) := by
  refine mt_start (cc := cX8_club) (maxL := 3) (ret := (some .int)) (by decide) rfl (Nat.le_of_ble_eq_true rfl) ?_
  intro p e s m args below meth c hx hb hr hlk hml hown hnm hts hK hZ hA hW hS ls hl
  have hl : lv_has ls 3 [(0, .ref h), (1, .int a), (2, .int b)] := hl
  have hown : s.vm.findClass RX8 = some m.cls := hown
  have F : CallFix p m c cX8_club 3 s args wsX8_club RX8 := ⟨hx, hb, hml, hown, hts⟩
  have hG := hG0
  refine lv_iload_n hx hb dX8_club_0 rfl (lv_at hl 1 rfl) ?_
  refine lv_bipush (v := 6) hx hb dX8_club_1 (by decide) ?_
  refine pc_Si (As := [.int a, .int 6]) (rest := []) F (b_X8_isBelow l D cy A S a 6 ) (va_cwS 2 hts gX8_club_X8_isBelow rfl rfl rfl (by decide +kernel) ⟨Nat.le_of_ble_eq_true rfl, Nat.le_of_ble_eq_true rfl⟩) hK hZ hA hW hS rfl hl.1 rfl (Nat.le_of_ble_eq_true rfl) dX8_club_3 ⟨Nat.le_of_ble_eq_true rfl, Nat.le_of_ble_eq_true rfl⟩ (fun v1 T2 H locs p3 hW hS => ?_)
  obtain ⟨eT2, p3⟩ := p3
  rw [eT2] at hW
  clear eT2
  have p3 := isb_lit (n := 6) rfl p3
  refine lv_if_ne (tgt := 11) hx hb dX8_club_6 (by decide) (fun c4 => ?_) (fun c4 => ?_)
  · have c4i : ¬ (Int32.toInt v1 = (0 : Int)) := fun h9 => c4 ((i3_eq _ _).mpr h9)
    refine lv_iload_n hx hb dX8_club_11 rfl (lv_at hl 2 rfl) ?_
    by_cases c5 : b = 0
    · have c5i : Int32.toInt b = 0 := by rw [c5]; rfl
      refine lv_tableIn (off := 32) (tgt := 44) hx hb dX8_club_12 (by rw [c5]; decide) (by rw [c5]; decide) (by rw [c5]; rfl) (by decide) ?_
      refine lv_aload_n hx hb dX8_club_44 rfl (lv_at hl 0 rfl) ?_
      refine lv_iload_n hx hb dX8_club_45 rfl (lv_at hl 1 rfl) ?_
      refine lv_iconst (v := 1) hx hb dX8_club_46 (by decide) ?_
      refine pc_Vi (As := [.int a, .int 1]) (rest := []) F (b_X8_countInState l D cy A S h a 1 hG hk) (cwV 2 hts gX8_club_X8_countInState rfl rfl rfl (by decide +kernel) ⟨Nat.le_of_ble_eq_true rfl, Nat.le_of_ble_eq_true rfl⟩) hK hZ hA hW hS hk (by decide) rfl rfl hl.1 rfl (Nat.le_of_ble_eq_true rfl) dX8_club_47 ⟨Nat.le_of_ble_eq_true rfl, Nat.le_of_ble_eq_true rfl⟩ (fun v6 T7 H locs p8 hW hS => ?_)
      obtain ⟨eT7, p8⟩ := p8
      rw [eT7] at hW
      clear eT7
      exact pc_iret (v := v6) (S := S) hx hb hr hlk hK hZ hA hW hS (⟨rfl, trivial⟩) dX8_club_50
    by_cases c9 : b = 1
    · have c9i : Int32.toInt b = 1 := by rw [c9]; rfl
      refine lv_tableIn (off := 39) (tgt := 51) hx hb dX8_club_12 (by rw [c9]; decide) (by rw [c9]; decide) (by rw [c9]; rfl) (by decide) ?_
      refine lv_aload_n hx hb dX8_club_51 rfl (lv_at hl 0 rfl) ?_
      refine lv_iload_n hx hb dX8_club_52 rfl (lv_at hl 1 rfl) ?_
      refine lv_iconst (v := 2) hx hb dX8_club_53 (by decide) ?_
      refine pc_Vi (As := [.int a, .int 2]) (rest := []) F (b_X8_countInState l D cy A S h a 2 hG hk) (cwV 2 hts gX8_club_X8_countInState rfl rfl rfl (by decide +kernel) ⟨Nat.le_of_ble_eq_true rfl, Nat.le_of_ble_eq_true rfl⟩) hK hZ hA hW hS hk (by decide) rfl rfl hl.1 rfl (Nat.le_of_ble_eq_true rfl) dX8_club_54 ⟨Nat.le_of_ble_eq_true rfl, Nat.le_of_ble_eq_true rfl⟩ (fun v10 T11 H locs p12 hW hS => ?_)
      obtain ⟨eT11, p12⟩ := p12
      rw [eT11] at hW
      clear eT11
      exact pc_iret (v := v10) (S := S) hx hb hr hlk hK hZ hA hW hS (⟨rfl, trivial⟩) dX8_club_57
    by_cases c13 : b = 2
    · have c13i : Int32.toInt b = 2 := by rw [c13]; rfl
      refine lv_tableIn (off := 46) (tgt := 58) hx hb dX8_club_12 (by rw [c13]; decide) (by rw [c13]; decide) (by rw [c13]; rfl) (by decide) ?_
      refine lv_aload_n hx hb dX8_club_58 rfl (lv_at hl 0 rfl) ?_
      refine lv_iload_n hx hb dX8_club_59 rfl (lv_at hl 1 rfl) ?_
      refine lv_iconst (v := 0) hx hb dX8_club_60 (by decide) ?_
      refine pc_Vi (As := [.int a, .int 0]) (rest := []) F (b_X8_countInState l D cy A S h a 0 hG hk) (cwV 2 hts gX8_club_X8_countInState rfl rfl rfl (by decide +kernel) ⟨Nat.le_of_ble_eq_true rfl, Nat.le_of_ble_eq_true rfl⟩) hK hZ hA hW hS hk (by decide) rfl rfl hl.1 rfl (Nat.le_of_ble_eq_true rfl) dX8_club_61 ⟨Nat.le_of_ble_eq_true rfl, Nat.le_of_ble_eq_true rfl⟩ (fun v14 T15 H locs p16 hW hS => ?_)
      obtain ⟨eT15, p16⟩ := p16
      rw [eT15] at hW
      clear eT15
      exact pc_iret (v := v14) (S := S) hx hb hr hlk hK hZ hA hW hS (⟨rfl, trivial⟩) dX8_club_64
    by_cases c17 : b = 3
    · have c17i : Int32.toInt b = 3 := by rw [c17]; rfl
      refine lv_tableIn (off := 53) (tgt := 65) hx hb dX8_club_12 (by rw [c17]; decide) (by rw [c17]; decide) (by rw [c17]; rfl) (by decide) ?_
      refine lv_aload_n hx hb dX8_club_65 rfl (lv_at hl 0 rfl) ?_
      refine lv_iload_n hx hb dX8_club_66 rfl (lv_at hl 1 rfl) ?_
      refine pc_Vi (As := [.int a]) (rest := []) F (b_X8_owedBy l D cy A S h a hG hk) (cwV 1 hts gX8_club_X8_owedBy rfl rfl rfl (by decide +kernel) ⟨Nat.le_of_ble_eq_true rfl, Nat.le_of_ble_eq_true rfl⟩) hK hZ hA hW hS hk (by decide) rfl rfl hl.1 rfl (Nat.le_of_ble_eq_true rfl) dX8_club_67 ⟨Nat.le_of_ble_eq_true rfl, Nat.le_of_ble_eq_true rfl⟩ (fun v18 T19 H locs p20 hW hS => ?_)
      obtain ⟨eT19, p20⟩ := p20
      rw [eT19] at hW
      clear eT19
      exact pc_iret (v := v18) (S := S) hx hb hr hlk hK hZ hA hW hS (⟨rfl, trivial⟩) dX8_club_70
    have c5i : ¬ Int32.toInt b = 0 := lv_neT c5 rfl
    have c9i : ¬ Int32.toInt b = 1 := lv_neT c9 rfl
    have c13i : ¬ Int32.toInt b = 2 := lv_neT c13 rfl
    have c17i : ¬ Int32.toInt b = 3 := lv_neT c17 rfl
    refine lv_tableOut (tgt := 71) hx hb dX8_club_12 (by have qc5 := lv_neT c5 (a := 0) rfl; have qc9 := lv_neT c9 (a := 1) rfl; have qc13 := lv_neT c13 (a := 2) rfl; have qc17 := lv_neT c17 (a := 3) rfl; omega) (by decide) ?_
    refine lv_iconst (v := (-1)) hx hb dX8_club_71 (by decide) ?_
    exact pc_iret (v := (-1)) (S := S) hx hb hr hlk hK hZ hA hW hS (⟨rfl, trivial⟩) dX8_club_72
  · have c4i : Int32.toInt v1 = (0 : Int) := (i3_eq _ _).mp c4
    refine lv_iconst (v := (-1)) hx hb dX8_club_9 (by decide) ?_
    exact pc_iret (v := (-1)) (S := S) hx hb hr hlk hK hZ hA hW hS (⟨rfl, trivial⟩) dX8_club_10
set_option maxHeartbeats 4000000 in
set_option maxRecDepth 100000 in
theorem b_X8_count (l : Launch) (D : va_G) (cy : Nat → ClassId) (A : Nat → Prop) (S : St) (h : Nat) (a : Int32) (hG0 : G S) (hk : sK S h = 8) : MI l yX8_count wsX8_count ({ frames := 0, cells := 0, slots := 0, locals := 0 } : Room) 0 0 D cy A [.ref h, .int a] S (fun r S1 => S1 = S ∧ True) := by
  refine mt_start (cc := cX8_count) (maxL := 2) (ret := (some .int)) (by decide) rfl (Nat.le_of_ble_eq_true rfl) ?_
  intro p e s m args below meth c hx hb hr hlk hml hown hnm hts hK hZ hA hW hS ls hl
  have hl : lv_has ls 2 [(0, .ref h), (1, .int a)] := hl
  have hown : s.vm.findClass RX8 = some m.cls := hown
  have F : CallFix p m c cX8_count 2 s args wsX8_count RX8 := ⟨hx, hb, hml, hown, hts⟩
  have wi7 : ∀ w ∈ u_ws RX7 TX7 2, w ∈ wsX8_count := by decide +kernel
  have wi8 : ∀ w ∈ u_ws RX8 TX8 18, w ∈ wsX8_count := by decide +kernel
  have hG := hG0
  refine lv_iload_n hx hb dX8_count_0 rfl (lv_at hl 1 rfl) ?_
  by_cases c1 : a = 0
  · have c1i : Int32.toInt a = 0 := by rw [c1]; rfl
    refine lv_tableIn (off := 55) (tgt := 56) hx hb dX8_count_1 (by rw [c1]; decide) (by rw [c1]; decide) (by rw [c1]; rfl) (by decide) ?_
    refine lv_aload_n hx hb dX8_count_56 rfl (lv_at hl 0 rfl) ?_
    refine pg_gi (ci := 8) (C := RX8) (T := TX8) (N := 18) hx hb hts wi8 hown hK hW hk (by decide) rfl 10 (by decide) (hts (.fieldLink RX8 96 "IceHall" "now" "I") (by decide +kernel)) (fun _ h9 => h9) rfl dX8_count_57 ?_
    have g2 : (0 : Int) ≤ (sI S h 10).toInt ∧ (sI S h 10).toInt ≤ 990 := hG.i hk (by decide) 10 (by decide)
    exact pc_iret (v := sI S h 10) (S := S) hx hb hr hlk hK hZ hA hW hS (⟨rfl, trivial⟩) dX8_count_60
  by_cases c3 : a = 1
  · have c3i : Int32.toInt a = 1 := by rw [c3]; rfl
    refine lv_tableIn (off := 60) (tgt := 61) hx hb dX8_count_1 (by rw [c3]; decide) (by rw [c3]; decide) (by rw [c3]; rfl) (by decide) ?_
    refine lv_aload_n hx hb dX8_count_61 rfl (lv_at hl 0 rfl) ?_
    refine pg_gi (ci := 8) (C := RX8) (T := TX8) (N := 18) hx hb hts wi8 hown hK hW hk (by decide) rfl 11 (by decide) (hts (.fieldLink RX8 68 "IceHall" "store" "I") (by decide +kernel)) (fun _ h9 => h9) rfl dX8_count_62 ?_
    exact pc_iret (v := sI S h 11) (S := S) hx hb hr hlk hK hZ hA hW hS (⟨rfl, trivial⟩) dX8_count_65
  by_cases c4 : a = 2
  · have c4i : Int32.toInt a = 2 := by rw [c4]; rfl
    refine lv_tableIn (off := 65) (tgt := 66) hx hb dX8_count_1 (by rw [c4]; decide) (by rw [c4]; decide) (by rw [c4]; rfl) (by decide) ?_
    refine lv_aload_n hx hb dX8_count_66 rfl (lv_at hl 0 rfl) ?_
    refine pg_gi (ci := 8) (C := RX8) (T := TX8) (N := 18) hx hb hts wi8 hown hK hW hk (by decide) rfl 15 (by decide) (hts (.fieldLink RX8 261 "IceHall" "spilt" "I") (by decide +kernel)) (fun _ h9 => h9) rfl dX8_count_67 ?_
    exact pc_iret (v := sI S h 15) (S := S) hx hb hr hlk hK hZ hA hW hS (⟨rfl, trivial⟩) dX8_count_70
  by_cases c5 : a = 3
  · have c5i : Int32.toInt a = 3 := by rw [c5]; rfl
    refine lv_tableIn (off := 70) (tgt := 71) hx hb dX8_count_1 (by rw [c5]; decide) (by rw [c5]; decide) (by rw [c5]; rfl) (by decide) ?_
    refine lv_aload_n hx hb dX8_count_71 rfl (lv_at hl 0 rfl) ?_
    refine pg_gi (ci := 8) (C := RX8) (T := TX8) (N := 18) hx hb hts wi8 hown hK hW hk (by decide) rfl 16 (by decide) (hts (.fieldLink RX8 264 "IceHall" "cost" "I") (by decide +kernel)) (fun _ h9 => h9) rfl dX8_count_72 ?_
    exact pc_iret (v := sI S h 16) (S := S) hx hb hr hlk hK hZ hA hW hS (⟨rfl, trivial⟩) dX8_count_75
  by_cases c6 : a = 4
  · have c6i : Int32.toInt a = 4 := by rw [c6]; rfl
    refine lv_tableIn (off := 75) (tgt := 76) hx hb dX8_count_1 (by rw [c6]; decide) (by rw [c6]; decide) (by rw [c6]; rfl) (by decide) ?_
    refine lv_aload_n hx hb dX8_count_76 rfl (lv_at hl 0 rfl) ?_
    refine pg_gi (ci := 8) (C := RX8) (T := TX8) (N := 18) hx hb hts wi8 hown hK hW hk (by decide) rfl 17 (by decide) (hts (.fieldLink RX8 267 "IceHall" "waste" "I") (by decide +kernel)) (fun _ h9 => h9) rfl dX8_count_77 ?_
    exact pc_iret (v := sI S h 17) (S := S) hx hb hr hlk hK hZ hA hW hS (⟨rfl, trivial⟩) dX8_count_80
  by_cases c7 : a = 5
  · have c7i : Int32.toInt a = 5 := by rw [c7]; rfl
    refine lv_tableIn (off := 80) (tgt := 81) hx hb dX8_count_1 (by rw [c7]; decide) (by rw [c7]; decide) (by rw [c7]; rfl) (by decide) ?_
    refine lv_aload_n hx hb dX8_count_81 rfl (lv_at hl 0 rfl) ?_
    refine pg_gi (ci := 8) (C := RX8) (T := TX8) (N := 18) hx hb hts wi8 hown hK hW hk (by decide) rfl 9 (by decide) (hts (.fieldLink RX8 99 "IceHall" "everBooked" "I") (by decide +kernel)) (fun _ h9 => h9) rfl dX8_count_82 ?_
    have g8 : (0 : Int) ≤ (sI S h 9).toInt ∧ (sI S h 9).toInt ≤ 200 := hG.i hk (by decide) 9 (by decide)
    exact pc_iret (v := sI S h 9) (S := S) hx hb hr hlk hK hZ hA hW hS (⟨rfl, trivial⟩) dX8_count_85
  by_cases c9 : a = 6
  · have c9i : Int32.toInt a = 6 := by rw [c9]; rfl
    refine lv_tableIn (off := 85) (tgt := 86) hx hb dX8_count_1 (by rw [c9]; decide) (by rw [c9]; decide) (by rw [c9]; rfl) (by decide) ?_
    refine lv_aload_n hx hb dX8_count_86 rfl (lv_at hl 0 rfl) ?_
    refine pg_gi (ci := 8) (C := RX8) (T := TX8) (N := 18) hx hb hts wi8 hown hK hW hk (by decide) rfl 12 (by decide) (hts (.fieldLink RX8 72 "IceHall" "storeMost" "I") (by decide +kernel)) (fun _ h9 => h9) rfl dX8_count_87 ?_
    exact pc_iret (v := sI S h 12) (S := S) hx hb hr hlk hK hZ hA hW hS (⟨rfl, trivial⟩) dX8_count_90
  by_cases c10 : a = 7
  · have c10i : Int32.toInt a = 7 := by rw [c10]; rfl
    refine lv_tableIn (off := 90) (tgt := 91) hx hb dX8_count_1 (by rw [c10]; decide) (by rw [c10]; decide) (by rw [c10]; rfl) (by decide) ?_
    refine lv_aload_n hx hb dX8_count_91 rfl (lv_at hl 0 rfl) ?_
    refine pg_gi (ci := 8) (C := RX8) (T := TX8) (N := 18) hx hb hts wi8 hown hK hW hk (by decide) rfl 13 (by decide) (hts (.fieldLink RX8 75 "IceHall" "working" "I") (by decide +kernel)) (fun _ h9 => h9) rfl dX8_count_92 ?_
    have g11 : (0 : Int) ≤ (sI S h 13).toInt ∧ (sI S h 13).toInt ≤ 3 := hG.i hk (by decide) 13 (by decide)
    exact pc_iret (v := sI S h 13) (S := S) hx hb hr hlk hK hZ hA hW hS (⟨rfl, trivial⟩) dX8_count_95
  by_cases c12 : a = 8
  · have c12i : Int32.toInt a = 8 := by rw [c12]; rfl
    refine lv_tableIn (off := 95) (tgt := 96) hx hb dX8_count_1 (by rw [c12]; decide) (by rw [c12]; decide) (by rw [c12]; rfl) (by decide) ?_
    refine lv_aload_n hx hb dX8_count_96 rfl (lv_at hl 0 rfl) ?_
    refine pg_gi (ci := 8) (C := RX8) (T := TX8) (N := 18) hx hb hts wi8 hown hK hW hk (by decide) rfl 14 (by decide) (hts (.fieldLink RX8 78 "IceHall" "restMost" "I") (by decide +kernel)) (fun _ h9 => h9) rfl dX8_count_97 ?_
    exact pc_iret (v := sI S h 14) (S := S) hx hb hr hlk hK hZ hA hW hS (⟨rfl, trivial⟩) dX8_count_100
  by_cases c13 : a = 9
  · have c13i : Int32.toInt a = 9 := by rw [c13]; rfl
    refine lv_tableIn (off := 100) (tgt := 101) hx hb dX8_count_1 (by rw [c13]; decide) (by rw [c13]; decide) (by rw [c13]; rfl) (by decide) ?_
    refine lv_aload_n hx hb dX8_count_101 rfl (lv_at hl 0 rfl) ?_
    obtain ⟨b14, rb14, kb14, nb14⟩ := hG0.r hk List.not_mem_nil 5 (show rty 8 5 = some (7, 0) from rfl)
    refine pg_gr (b := b14) (ci := 8) (C := RX8) (T := TX8) (N := 18) hx hb hts wi8 hown hK hW hk (by decide) rfl 5 (by decide) (hts (.fieldLink RX8 39 "IceHall" "tape" "LIceHall$Tape;") (by decide +kernel)) (fun _ h9 => h9) rfl rb14 dX8_count_102 ?_
    refine pg_gi (ci := 7) (C := RX7) (T := TX7) (N := 2) hx hb hts wi7 hown hK hW kb14 (by decide) rfl 1 (by decide) (hts (.fieldLink RX8 81 "IceHall$Tape" "size" "I") (by decide +kernel)) (fun _ h9 => h9) rfl dX8_count_105 ?_
    have g15 : (0 : Int) ≤ (sI S b14 1).toInt ∧ (sI S b14 1).toInt ≤ 80 := hG.i kb14 (by decide) 1 (by decide)
    exact pc_iret (v := sI S b14 1) (S := S) hx hb hr hlk hK hZ hA hW hS (⟨rfl, trivial⟩) dX8_count_108
  have c1i : ¬ Int32.toInt a = 0 := lv_neT c1 rfl
  have c3i : ¬ Int32.toInt a = 1 := lv_neT c3 rfl
  have c4i : ¬ Int32.toInt a = 2 := lv_neT c4 rfl
  have c5i : ¬ Int32.toInt a = 3 := lv_neT c5 rfl
  have c6i : ¬ Int32.toInt a = 4 := lv_neT c6 rfl
  have c7i : ¬ Int32.toInt a = 5 := lv_neT c7 rfl
  have c9i : ¬ Int32.toInt a = 6 := lv_neT c9 rfl
  have c10i : ¬ Int32.toInt a = 7 := lv_neT c10 rfl
  have c12i : ¬ Int32.toInt a = 8 := lv_neT c12 rfl
  have c13i : ¬ Int32.toInt a = 9 := lv_neT c13 rfl
  refine lv_tableOut (tgt := 109) hx hb dX8_count_1 (by have qc1 := lv_neT c1 (a := 0) rfl; have qc3 := lv_neT c3 (a := 1) rfl; have qc4 := lv_neT c4 (a := 2) rfl; have qc5 := lv_neT c5 (a := 3) rfl; have qc6 := lv_neT c6 (a := 4) rfl; have qc7 := lv_neT c7 (a := 5) rfl; have qc9 := lv_neT c9 (a := 6) rfl; have qc10 := lv_neT c10 (a := 7) rfl; have qc12 := lv_neT c12 (a := 8) rfl; have qc13 := lv_neT c13 (a := 9) rfl; omega) (by decide) ?_
  refine lv_iload_n hx hb dX8_count_109 rfl (lv_at hl 1 rfl) ?_
  refine lv_bipush (v := 10) hx hb dX8_count_110 (by decide) ?_
  refine lv_icmp_lt (tgt := 133) hx hb dX8_count_112 (by decide) (fun c16 => ?_) (fun c16 => ?_)
  · have c16i : Int32.toInt a < (10 : Int) := (i3_lt _ _).mp c16
    refine lv_iconst (v := (-1)) hx hb dX8_count_133 (by decide) ?_
    exact pc_iret (v := (-1)) (S := S) hx hb hr hlk hK hZ hA hW hS (⟨rfl, trivial⟩) dX8_count_134
  · have c16i : ¬ (Int32.toInt a < (10 : Int)) := fun h9 => c16 ((i3_lt _ _).mpr h9)
    refine lv_iload_n hx hb dX8_count_115 rfl (lv_at hl 1 rfl) ?_
    refine lv_bipush (v := 34) hx hb dX8_count_116 (by decide) ?_
    refine lv_icmp_ge (tgt := 133) hx hb dX8_count_118 (by decide) (fun c17 => ?_) (fun c17 => ?_)
    · have c17i : (34 : Int) ≤ Int32.toInt a := (i3_le _ _).mp c17
      refine lv_iconst (v := (-1)) hx hb dX8_count_133 (by decide) ?_
      exact pc_iret (v := (-1)) (S := S) hx hb hr hlk hK hZ hA hW hS (⟨rfl, trivial⟩) dX8_count_134
    · have c17i : ¬ ((34 : Int) ≤ Int32.toInt a) := fun h9 => c17 ((i3_le _ _).mpr h9)
      refine lv_aload_n hx hb dX8_count_121 rfl (lv_at hl 0 rfl) ?_
      obtain ⟨b18, rb18, kb18, nb18⟩ := hG0.r hk List.not_mem_nil 4 (show rty 8 4 = some (11, 24) from rfl)
      refine pg_gr (b := b18) (ci := 8) (C := RX8) (T := TX8) (N := 18) hx hb hts wi8 hown hK hW hk (by decide) rfl 4 (by decide) (hts (.fieldLink RX8 32 "IceHall" "prices" "[I") (by decide +kernel)) (fun _ h9 => h9) rfl rb18 dX8_count_122 ?_
      refine lv_iload_n hx hb dX8_count_125 rfl (lv_at hl 1 rfl) ?_
      refine lv_bipush (v := 10) hx hb dX8_count_126 (by decide) ?_
      refine lv_isub hx hb dX8_count_128 ?_
      have l19 : (a - 10).toInt = Int32.toInt a - (10 : Int) := i3_sub rfl rfl (by omega) (by omega)
      refine pg_iald hx hb hK hW kb18 (by decide) (by rw [show sL S b18 = 24 from nb18]; exact r_in (by omega)) dX8_count_129 ?_
      refine lv_goto (tgt := 134) hx hb dX8_count_130 (by decide) ?_
      exact pc_iret (v := sI S b18 (Int32.toNatClampNeg (a - 10))) (S := S) hx hb hr hlk hK hZ hA hW hS (⟨rfl, trivial⟩) dX8_count_134
