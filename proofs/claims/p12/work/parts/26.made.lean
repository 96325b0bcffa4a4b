set_option maxHeartbeats 4000000 in
set_option maxRecDepth 100000 in
theorem b_X0_init (l : Launch) (D : va_G) (cy : Nat → ClassId) (A : Nat → Prop) (S : St) (ex : List Nat) (h : Nat) (hG0 : Gx (h :: ex) S) (hk : sK S h = 0) : MV l yX0_init wsX0_init ({ frames := 1, cells := 1, slots := 32, locals := 60 } : Room) 1 32 D cy A [.ref h] S (fun S1 => Gx ex S1 ∧ Fr [h] [] S S1 ∧ True) := by
  refine mt_start (cc := cX0_init) (maxL := 1) (ret := none) (by decide) rfl (Nat.le_of_ble_eq_true rfl) ?_
  intro p e s m args below meth c hx hb hr hlk hml hown hnm hts hK hZ hA hW hS ls hl
  have hl : lv_has ls 1 [(0, .ref h)] := hl
  have hown : s.vm.findClass RX0 = some m.cls := hown
  have F : CallFix p m c cX0_init 1 s args wsX0_init RX0 := ⟨hx, hb, hml, hown, hts⟩
  have wi0 : ∀ w ∈ u_ws RX0 TX0 1, w ∈ wsX0_init := by decide +kernel
  have hG := hG0
  have hF : Fr [h] [] S S := Fr.rf _ _ _
  have hD : Dn [] S h 0 := Dn.nil _ _ _
  have hkh : sK S h = 0 := hk
  refine lv_aload_n hx hb dX0_init_0 rfl (lv_at hl 0 rfl) ?_
  refine W.objInit hx hb hown (hts (.methodLink RX0 3 objectInit) (by decide +kernel)) (hts (.instanceMethod objectInit) (by decide +kernel)) (hts (.code objectInit ⟨#[0xb1]⟩ 1 none) (by decide +kernel)) rfl (by rw [hml]; exact hl.1) rfl dX0_init_1 (Nat.le_of_ble_eq_true rfl) (Nat.le_of_ble_eq_true rfl) ?_
  refine W.eq (g2 := F0 m 4 ls []) rfl ?_
  refine lv_aload_n hx hb dX0_init_4 rfl (lv_at hl 0 rfl) ?_
  refine lv_bipush (v := 32) hx hb dX0_init_5 (by decide) ?_
  refine pg_newa (atype := .long) (ty := .long) (kd := 12) (t0 := 2) (N' := 32) hx hb (hts (.arrayClass .long) (by decide +kernel)) rfl rfl (Or.inr (Or.inr (Or.inr rfl))) (by decide) hK hW hS hA (fun _ => rfl) (by decide) (by decide) (Nat.le_of_ble_eq_true rfl) (Nat.le_of_ble_eq_true rfl) (Nat.le_of_ble_eq_true rfl) dX0_init_7 (fun q1 H hq1 hW hS => ?_)
  have nqq1_hF : 20 ≤ sK S q1 := hF.new hq1
  obtain ⟨S2, eS2⟩ : ∃ T : St, T = stN S q1 12 32 := ⟨_, rfl⟩
  rw [← eS2] at hW
  have hG : Gx (q1 :: h :: ex) S2 := by rw [eS2]; exact hG.N hq1
  have hF : Fr [h] [] S S2 := by rw [eS2]; exact hF.N hq1
  have hD : Dn [] S2 h 0 := by rw [eS2]; exact hD.F ((Fr.rf [] [] _).N hq1) hkh (by decide) List.not_mem_nil
  have hkh : sK S2 h = 0 := hF.k hk (by decide)
  have hE3 : Fr [h] [] S2 S2 := Fr.rf _ _ _
  have kq1 : sK S2 q1 = 12 := by rw [eS2, kN, if_pos rfl]
  have nq1 : sL S2 q1 = 32 := by rw [eS2, lNw, if_pos rfl]
  have hG : Gx (h :: ex) S2 := hG.pl kq1 rty_12
  clear eS2
  refine pg_pr (ci := 0) (C := RX0) (T := TX0) (N := 1) hx hb hts wi0 tyX0 tyX0_ok nmX0 hown hK hW hS (hF.k hk (by decide)) (by decide) rfl 0 (by decide) (hts (.fieldLink RX0 9 "IceHall$HourSet" "words" "[J") (by decide +kernel)) (fun _ h9 => h9) rfl hnm rfl rfl rfl rfl dX0_init_9 (fun H locs hW hS => ?_)
  have kq5 : sK S2 h = 0 := (hF.k hk (by decide))
  have hbS4 := And.intro kq1 nq1
  obtain ⟨S4, eS4⟩ : ∃ T : St, T = stR S2 h 0 (some q1) := ⟨_, rfl⟩
  rw [← eS4] at hW
  have hD : Dn [0] S4 h 0 := by rw [eS4]; exact hD.R (fun kd n ht => by cases ht; exact hbS4)
  have hG : Gx (h :: ex) S4 := by rw [eS4]; exact hG.Rh List.mem_cons_self kq5 (by decide)
  have hF : Fr [h] [] S S4 := by rw [eS4]; exact hF.Rh List.mem_cons_self
  have hE3 : Fr [h] [] S2 S4 := by rw [eS4]; exact hE3.Rh List.mem_cons_self
  have hkh : sK S4 h = 0 := hF.k hk (by decide)
  clear eS4 hbS4
  clear hE3
  exact pc_vret (S := S4) hx hb hr hlk hK hZ hA hW hS (⟨hG.done (hF.k hk (by decide)) hD (rtk (by decide)), hF, trivial⟩) dX0_init_12
set_option maxHeartbeats 4000000 in
set_option maxRecDepth 100000 in
theorem b_X1_init (l : Launch) (D : va_G) (cy : Nat → ClassId) (A : Nat → Prop) (S : St) (ex : List Nat) (h : Nat) (hG0 : Gx (h :: ex) S) (hk : sK S h = 1) : MV l yX1_init wsX1_init ({ frames := 2, cells := 4, slots := 66, locals := 80 } : Room) 4 66 D cy A [.ref h] S (fun S1 => Gx ex S1 ∧ Fr [h] [] S S1 ∧ True) := by
  refine mt_start (cc := cX1_init) (maxL := 1) (ret := none) (by decide) rfl (Nat.le_of_ble_eq_true rfl) ?_
  intro p e s m args below meth c hx hb hr hlk hml hown hnm hts hK hZ hA hW hS ls hl
  have hl : lv_has ls 1 [(0, .ref h)] := hl
  have hown : s.vm.findClass RX1 = some m.cls := hown
  have F : CallFix p m c cX1_init 1 s args wsX1_init RX1 := ⟨hx, hb, hml, hown, hts⟩
  have wi0 : ∀ w ∈ u_ws RX0 TX0 1, w ∈ wsX1_init := by decide +kernel
  have wi1 : ∀ w ∈ u_ws RX1 TX1 10, w ∈ wsX1_init := by decide +kernel
  have hG := hG0
  have hF : Fr [h] [] S S := Fr.rf _ _ _
  have hD : Dn [] S h 1 := Dn.nil _ _ _
  have hkh : sK S h = 1 := hk
  refine lv_aload_n hx hb dX1_init_0 rfl (lv_at hl 0 rfl) ?_
  refine W.objInit hx hb hown (hts (.methodLink RX1 3 objectInit) (by decide +kernel)) (hts (.instanceMethod objectInit) (by decide +kernel)) (hts (.code objectInit ⟨#[0xb1]⟩ 1 none) (by decide +kernel)) rfl (by rw [hml]; exact hl.1) rfl dX1_init_1 (Nat.le_of_ble_eq_true rfl) (Nat.le_of_ble_eq_true rfl) ?_
  refine W.eq (g2 := F0 m 4 ls []) rfl ?_
  refine lv_aload_n hx hb dX1_init_4 rfl (lv_at hl 0 rfl) ?_
  refine pg_new (ci := 0) (C := RX0) (T := TX0) (N := 1) hx hb hts wi0 tyX0 tyX0_ok hown (hts (.classLink RX1 9 RX0) (by decide +kernel)) (hts (.instantiable RX0 1) (by decide +kernel)) (hts (.initialized RX0) (by decide +kernel)) hK hW hS hA (by decide) rfl df_0 (Nat.le_of_ble_eq_true rfl) (Nat.le_of_ble_eq_true rfl) dX1_init_5 (fun q1 H hq1 hW hS => ?_)
  have nqq1_hF : 20 ≤ sK S q1 := hF.new hq1
  obtain ⟨S2, eS2⟩ : ∃ T : St, T = stN S q1 0 0 := ⟨_, rfl⟩
  rw [← eS2] at hW
  have hG : Gx (q1 :: h :: ex) S2 := by rw [eS2]; exact hG.N hq1
  have hF : Fr [h] [] S S2 := by rw [eS2]; exact hF.N hq1
  have hD : Dn [] S2 h 1 := by rw [eS2]; exact hD.F ((Fr.rf [] [] _).N hq1) hkh (by decide) List.not_mem_nil
  have hkh : sK S2 h = 1 := hF.k hk (by decide)
  have hE3 : Fr [h] [] S2 S2 := Fr.rf _ _ _
  have kq1 : sK S2 q1 = 0 := by rw [eS2, kN, if_pos rfl]
  have nq1 : sL S2 q1 = 0 := by rw [eS2, lNw, if_pos rfl]
  clear eS2
  refine lv_dup hx hb dX1_init_8 rfl ?_
  refine pc_INv (As := []) (rest := [.ref q1, .ref h]) F (b_X0_init l D cy A S2 (h :: ex) q1 hG kq1) ⟨va_cnB 0 hts gX1_init_X0_init_n11 rfl rfl rfl hZ.2.2.2.2.2.2.2.1 (hts (.initialized RX0) (by decide +kernel)) (by decide +kernel) ⟨Nat.le_of_ble_eq_true rfl, Nat.le_of_ble_eq_true rfl⟩, rfl, hts (.instanceMethod yX0_init) (by decide +kernel)⟩ hK hZ hA hW hS rfl hl.1 rfl (Nat.le_of_ble_eq_true rfl) dX1_init_9 ⟨Nat.le_of_ble_eq_true rfl, Nat.le_of_ble_eq_true rfl⟩ (fun T5 H locs p6 hW hS => ?_)
  obtain ⟨hG, hFc, p6⟩ := p6
  have hD : Dn [] T5 h 1 := hD.F hFc hkh (by decide) (ni_c (ap_k hk nqq1_hF (by decide)) ni_0)
  have hkh : sK T5 h = 1 := hFc.k hkh (by decide)
  have k7 : sK T5 q1 = 0 := hFc.k kq1 (by decide)
  have n8 : sL T5 q1 = 0 := hFc.n kq1 (by decide) nq1
  have hF : Fr [h] [] S T5 := hF.trN (hFc.mono (by decide)) nqq1_hF
  have hE9 : Fr [h] [] T5 T5 := Fr.rf _ _ _
  refine pg_pr (ci := 1) (C := RX1) (T := TX1) (N := 10) hx hb hts wi1 tyX1 tyX1_ok nmX1 hown hK hW hS (hF.k hk (by decide)) (by decide) rfl 0 (by decide) (hts (.fieldLink RX1 12 "IceHall$Ice" "taken" "LIceHall$HourSet;") (by decide +kernel)) (fun _ h9 => h9) rfl hnm rfl rfl rfl rfl dX1_init_12 (fun H locs hW hS => ?_)
  have kq11 : sK T5 h = 1 := (hF.k hk (by decide))
  have hbS10 := And.intro k7 n8
  obtain ⟨S10, eS10⟩ : ∃ T : St, T = stR T5 h 0 (some q1) := ⟨_, rfl⟩
  rw [← eS10] at hW
  have hD : Dn [0] S10 h 1 := by rw [eS10]; exact hD.R (fun kd n ht => by cases ht; exact hbS10)
  have hG : Gx (h :: ex) S10 := by rw [eS10]; exact hG.Rh List.mem_cons_self kq11 (by decide)
  have hF : Fr [h] [] S S10 := by rw [eS10]; exact hF.Rh List.mem_cons_self
  have hE9 : Fr [h] [] T5 S10 := by rw [eS10]; exact hE9.Rh List.mem_cons_self
  have hkh : sK S10 h = 1 := hF.k hk (by decide)
  clear eS10 hbS10
  clear hE9
  refine lv_aload_n hx hb dX1_init_15 rfl (lv_at hl 0 rfl) ?_
  refine pg_new (ci := 0) (C := RX0) (T := TX0) (N := 1) hx hb hts wi0 tyX0 tyX0_ok hown (hts (.classLink RX1 9 RX0) (by decide +kernel)) (hts (.instantiable RX0 1) (by decide +kernel)) (hts (.initialized RX0) (by decide +kernel)) hK hW hS hA (by decide) rfl df_0 (Nat.le_of_ble_eq_true rfl) (Nat.le_of_ble_eq_true rfl) dX1_init_16 (fun q12 H hq12 hW hS => ?_)
  have nqq12_hF : 20 ≤ sK S q12 := hF.new hq12
  obtain ⟨S13, eS13⟩ : ∃ T : St, T = stN S10 q12 0 0 := ⟨_, rfl⟩
  rw [← eS13] at hW
  have hG : Gx (q12 :: h :: ex) S13 := by rw [eS13]; exact hG.N hq12
  have hF : Fr [h] [] S S13 := by rw [eS13]; exact hF.N hq12
  have hD : Dn [0] S13 h 1 := by rw [eS13]; exact hD.F ((Fr.rf [] [] _).N hq12) hkh (by decide) List.not_mem_nil
  have hkh : sK S13 h = 1 := hF.k hk (by decide)
  have hE14 : Fr [h] [] S13 S13 := Fr.rf _ _ _
  have kq12 : sK S13 q12 = 0 := by rw [eS13, kN, if_pos rfl]
  have nq12 : sL S13 q12 = 0 := by rw [eS13, lNw, if_pos rfl]
  clear eS13
  refine lv_dup hx hb dX1_init_19 rfl ?_
  refine pc_INv (As := []) (rest := [.ref q12, .ref h]) F (b_X0_init l D cy A S13 (h :: ex) q12 hG kq12) ⟨va_cnB 0 hts gX1_init_X0_init_n11 rfl rfl rfl hZ.2.2.2.2.2.2.2.1 (hts (.initialized RX0) (by decide +kernel)) (by decide +kernel) ⟨Nat.le_of_ble_eq_true rfl, Nat.le_of_ble_eq_true rfl⟩, rfl, hts (.instanceMethod yX0_init) (by decide +kernel)⟩ hK hZ hA hW hS rfl hl.1 rfl (Nat.le_of_ble_eq_true rfl) dX1_init_20 ⟨Nat.le_of_ble_eq_true rfl, Nat.le_of_ble_eq_true rfl⟩ (fun T16 H locs p17 hW hS => ?_)
  obtain ⟨hG, hFc, p17⟩ := p17
  have hD : Dn [0] T16 h 1 := hD.F hFc hkh (by decide) (ni_c (ap_k hk nqq12_hF (by decide)) ni_0)
  have hkh : sK T16 h = 1 := hFc.k hkh (by decide)
  have k18 : sK T16 q12 = 0 := hFc.k kq12 (by decide)
  have n19 : sL T16 q12 = 0 := hFc.n kq12 (by decide) nq12
  have hF : Fr [h] [] S T16 := hF.trN (hFc.mono (by decide)) nqq12_hF
  have hE20 : Fr [h] [] T16 T16 := Fr.rf _ _ _
  refine pg_pr (ci := 1) (C := RX1) (T := TX1) (N := 10) hx hb hts wi1 tyX1 tyX1_ok nmX1 hown hK hW hS (hF.k hk (by decide)) (by decide) rfl 1 (by decide) (hts (.fieldLink RX1 18 "IceHall$Ice" "closed" "LIceHall$HourSet;") (by decide +kernel)) (fun _ h9 => h9) rfl hnm rfl rfl rfl rfl dX1_init_23 (fun H locs hW hS => ?_)
  have kq22 : sK T16 h = 1 := (hF.k hk (by decide))
  have hbS21 := And.intro k18 n19
  obtain ⟨S21, eS21⟩ : ∃ T : St, T = stR T16 h 1 (some q12) := ⟨_, rfl⟩
  rw [← eS21] at hW
  have hD : Dn [1, 0] S21 h 1 := by rw [eS21]; exact hD.R (fun kd n ht => by cases ht; exact hbS21)
  have hG : Gx (h :: ex) S21 := by rw [eS21]; exact hG.Rh List.mem_cons_self kq22 (by decide)
  have hF : Fr [h] [] S S21 := by rw [eS21]; exact hF.Rh List.mem_cons_self
  have hE20 : Fr [h] [] T16 S21 := by rw [eS21]; exact hE20.Rh List.mem_cons_self
  have hkh : sK S21 h = 1 := hF.k hk (by decide)
  clear eS21 hbS21
  clear hE20
  refine lv_aload_n hx hb dX1_init_26 rfl (lv_at hl 0 rfl) ?_
  refine lv_iconst (v := 0) hx hb dX1_init_27 (by decide) ?_
  refine pg_pi (ci := 1) (C := RX1) (T := TX1) (N := 10) hx hb hts wi1 tyX1 tyX1_ok nmX1 hown hK hW hS (hF.k hk (by decide)) (by decide) rfl 2 (by decide) (hts (.fieldLink RX1 21 "IceHall$Ice" "closings" "I") (by decide +kernel)) (fun _ h9 => h9) rfl rfl rfl dX1_init_28 (fun H locs hW hS => ?_)
  have kq23 : sK S21 h = 1 := (hF.k hk (by decide))
  obtain ⟨S24, eS24⟩ : ∃ T : St, T = stI S21 h 2 0 := ⟨_, rfl⟩
  rw [← eS24] at hW
  have hG : Gx (h :: ex) S24 := by rw [eS24]; exact hG.I kq23 (ok_fr (by decide))
  have hF : Fr [h] [] S S24 := by rw [eS24]; exact hF.Ih List.mem_cons_self
  have hD : Dn [1, 0] S24 h 1 := by rw [eS24]; exact hD
  have hkh : sK S24 h = 1 := hF.k hk (by decide)
  clear eS24
  refine lv_aload_n hx hb dX1_init_31 rfl (lv_at hl 0 rfl) ?_
  refine lv_sipush (v := 300) hx hb dX1_init_32 (by decide) ?_
  refine pg_pi (ci := 1) (C := RX1) (T := TX1) (N := 10) hx hb hts wi1 tyX1 tyX1_ok nmX1 hown hK hW hS (hF.k hk (by decide)) (by decide) rfl 3 (by decide) (hts (.fieldLink RX1 25 "IceHall$Ice" "thickness" "I") (by decide +kernel)) (fun _ h9 => h9) rfl rfl rfl dX1_init_35 (fun H locs hW hS => ?_)
  have kq25 : sK S24 h = 1 := (hF.k hk (by decide))
  obtain ⟨S26, eS26⟩ : ∃ T : St, T = stI S24 h 3 300 := ⟨_, rfl⟩
  rw [← eS26] at hW
  have hG : Gx (h :: ex) S26 := by rw [eS26]; exact hG.I kq25 (ok_fr (by decide))
  have hF : Fr [h] [] S S26 := by rw [eS26]; exact hF.Ih List.mem_cons_self
  have hD : Dn [1, 0] S26 h 1 := by rw [eS26]; exact hD
  have hkh : sK S26 h = 1 := hF.k hk (by decide)
  clear eS26
  refine lv_aload_n hx hb dX1_init_38 rfl (lv_at hl 0 rfl) ?_
  refine lv_iconst (v := 0) hx hb dX1_init_39 (by decide) ?_
  refine pg_pi (ci := 1) (C := RX1) (T := TX1) (N := 10) hx hb hts wi1 tyX1 tyX1_ok nmX1 hown hK hW hS (hF.k hk (by decide)) (by decide) rfl 4 (by decide) (hts (.fieldLink RX1 28 "IceHall$Ice" "ruts" "I") (by decide +kernel)) (fun _ h9 => h9) rfl rfl rfl dX1_init_40 (fun H locs hW hS => ?_)
  have kq27 : sK S26 h = 1 := (hF.k hk (by decide))
  obtain ⟨S28, eS28⟩ : ∃ T : St, T = stI S26 h 4 0 := ⟨_, rfl⟩
  rw [← eS28] at hW
  have hG : Gx (h :: ex) S28 := by rw [eS28]; exact hG.I kq27 (ok_fr (by decide))
  have hF : Fr [h] [] S S28 := by rw [eS28]; exact hF.Ih List.mem_cons_self
  have hD : Dn [1, 0] S28 h 1 := by rw [eS28]; exact hD
  have hkh : sK S28 h = 1 := hF.k hk (by decide)
  clear eS28
  refine lv_aload_n hx hb dX1_init_43 rfl (lv_at hl 0 rfl) ?_
  refine lv_iconst (v := 0) hx hb dX1_init_44 (by decide) ?_
  refine pg_pi (ci := 1) (C := RX1) (T := TX1) (N := 10) hx hb hts wi1 tyX1 tyX1_ok nmX1 hown hK hW hS (hF.k hk (by decide)) (by decide) rfl 5 (by decide) (hts (.fieldLink RX1 31 "IceHall$Ice" "shaved" "I") (by decide +kernel)) (fun _ h9 => h9) rfl rfl rfl dX1_init_45 (fun H locs hW hS => ?_)
  have kq29 : sK S28 h = 1 := (hF.k hk (by decide))
  obtain ⟨S30, eS30⟩ : ∃ T : St, T = stI S28 h 5 0 := ⟨_, rfl⟩
  rw [← eS30] at hW
  have hG : Gx (h :: ex) S30 := by rw [eS30]; exact hG.I kq29 (ok_fr (by decide))
  have hF : Fr [h] [] S S30 := by rw [eS30]; exact hF.Ih List.mem_cons_self
  have hD : Dn [1, 0] S30 h 1 := by rw [eS30]; exact hD
  have hkh : sK S30 h = 1 := hF.k hk (by decide)
  clear eS30
  refine lv_aload_n hx hb dX1_init_48 rfl (lv_at hl 0 rfl) ?_
  refine lv_iconst (v := 0) hx hb dX1_init_49 (by decide) ?_
  refine pg_pi (ci := 1) (C := RX1) (T := TX1) (N := 10) hx hb hts wi1 tyX1 tyX1_ok nmX1 hown hK hW hS (hF.k hk (by decide)) (by decide) rfl 6 (by decide) (hts (.fieldLink RX1 34 "IceHall$Ice" "flooded" "I") (by decide +kernel)) (fun _ h9 => h9) rfl rfl rfl dX1_init_50 (fun H locs hW hS => ?_)
  have kq31 : sK S30 h = 1 := (hF.k hk (by decide))
  obtain ⟨S32, eS32⟩ : ∃ T : St, T = stI S30 h 6 0 := ⟨_, rfl⟩
  rw [← eS32] at hW
  have hG : Gx (h :: ex) S32 := by rw [eS32]; exact hG.I kq31 (ok_fr (by decide))
  have hF : Fr [h] [] S S32 := by rw [eS32]; exact hF.Ih List.mem_cons_self
  have hD : Dn [1, 0] S32 h 1 := by rw [eS32]; exact hD
  have hkh : sK S32 h = 1 := hF.k hk (by decide)
  clear eS32
  refine lv_aload_n hx hb dX1_init_53 rfl (lv_at hl 0 rfl) ?_
  refine lv_iconst (v := 0) hx hb dX1_init_54 (by decide) ?_
  refine pg_pi (ci := 1) (C := RX1) (T := TX1) (N := 10) hx hb hts wi1 tyX1 tyX1_ok nmX1 hown hK hW hS (hF.k hk (by decide)) (by decide) rfl 7 (by decide) (hts (.fieldLink RX1 37 "IceHall$Ice" "melted" "I") (by decide +kernel)) (fun _ h9 => h9) rfl rfl rfl dX1_init_55 (fun H locs hW hS => ?_)
  have kq33 : sK S32 h = 1 := (hF.k hk (by decide))
  obtain ⟨S34, eS34⟩ : ∃ T : St, T = stI S32 h 7 0 := ⟨_, rfl⟩
  rw [← eS34] at hW
  have hG : Gx (h :: ex) S34 := by rw [eS34]; exact hG.I kq33 (ok_fr (by decide))
  have hF : Fr [h] [] S S34 := by rw [eS34]; exact hF.Ih List.mem_cons_self
  have hD : Dn [1, 0] S34 h 1 := by rw [eS34]; exact hD
  have hkh : sK S34 h = 1 := hF.k hk (by decide)
  clear eS34
  refine lv_aload_n hx hb dX1_init_58 rfl (lv_at hl 0 rfl) ?_
  refine lv_iconst (v := 0) hx hb dX1_init_59 (by decide) ?_
  refine pg_pi (ci := 1) (C := RX1) (T := TX1) (N := 10) hx hb hts wi1 tyX1 tyX1_ok nmX1 hown hK hW hS (hF.k hk (by decide)) (by decide) rfl 8 (by decide) (hts (.fieldLink RX1 40 "IceHall$Ice" "toShave" "I") (by decide +kernel)) (fun _ h9 => h9) rfl rfl rfl dX1_init_60 (fun H locs hW hS => ?_)
  have kq35 : sK S34 h = 1 := (hF.k hk (by decide))
  obtain ⟨S36, eS36⟩ : ∃ T : St, T = stI S34 h 8 0 := ⟨_, rfl⟩
  rw [← eS36] at hW
  have hG : Gx (h :: ex) S36 := by rw [eS36]; exact hG.I kq35 (ok_fr (by decide))
  have hF : Fr [h] [] S S36 := by rw [eS36]; exact hF.Ih List.mem_cons_self
  have hD : Dn [1, 0] S36 h 1 := by rw [eS36]; exact hD
  have hkh : sK S36 h = 1 := hF.k hk (by decide)
  clear eS36
  refine lv_aload_n hx hb dX1_init_63 rfl (lv_at hl 0 rfl) ?_
  refine lv_iconst (v := 0) hx hb dX1_init_64 (by decide) ?_
  refine pg_pi (ci := 1) (C := RX1) (T := TX1) (N := 10) hx hb hts wi1 tyX1 tyX1_ok nmX1 hown hK hW hS (hF.k hk (by decide)) (by decide) rfl 9 (by decide) (hts (.fieldLink RX1 43 "IceHall$Ice" "toFlood" "I") (by decide +kernel)) (fun _ h9 => h9) rfl rfl rfl dX1_init_65 (fun H locs hW hS => ?_)
  have kq37 : sK S36 h = 1 := (hF.k hk (by decide))
  obtain ⟨S38, eS38⟩ : ∃ T : St, T = stI S36 h 9 0 := ⟨_, rfl⟩
  rw [← eS38] at hW
  have hG : Gx (h :: ex) S38 := by rw [eS38]; exact hG.I kq37 (ok_fr (by decide))
  have hF : Fr [h] [] S S38 := by rw [eS38]; exact hF.Ih List.mem_cons_self
  have hD : Dn [1, 0] S38 h 1 := by rw [eS38]; exact hD
  have hkh : sK S38 h = 1 := hF.k hk (by decide)
  clear eS38
  exact pc_vret (S := S38) hx hb hr hlk hK hZ hA hW hS (⟨hG.done (hF.k hk (by decide)) hD (rtk (by decide)), hF, trivial⟩) dX1_init_68
set_option maxHeartbeats 4000000 in
set_option maxRecDepth 100000 in
theorem b_X7_init (l : Launch) (D : va_G) (cy : Nat → ClassId) (A : Nat → Prop) (S : St) (ex : List Nat) (h : Nat) (hG0 : Gx (h :: ex) S) (hk : sK S h = 7) : MV l yX7_init wsX7_init ({ frames := 1, cells := 1, slots := 80, locals := 60 } : Room) 1 80 D cy A [.ref h] S (fun S1 => Gx ex S1 ∧ Fr [h] [] S S1 ∧ (sI S1 h 1 = 0)) := by
  refine mt_start (cc := cX7_init) (maxL := 1) (ret := none) (by decide) rfl (Nat.le_of_ble_eq_true rfl) ?_
  intro p e s m args below meth c hx hb hr hlk hml hown hnm hts hK hZ hA hW hS ls hl
  have hl : lv_has ls 1 [(0, .ref h)] := hl
  have hown : s.vm.findClass RX7 = some m.cls := hown
  have F : CallFix p m c cX7_init 1 s args wsX7_init RX7 := ⟨hx, hb, hml, hown, hts⟩
  have wi7 : ∀ w ∈ u_ws RX7 TX7 2, w ∈ wsX7_init := by decide +kernel
  have hG := hG0
  have hF : Fr [h] [] S S := Fr.rf _ _ _
  have hD : Dn [] S h 7 := Dn.nil _ _ _
  have hkh : sK S h = 7 := hk
  refine lv_aload_n hx hb dX7_init_0 rfl (lv_at hl 0 rfl) ?_
  refine W.objInit hx hb hown (hts (.methodLink RX7 3 objectInit) (by decide +kernel)) (hts (.instanceMethod objectInit) (by decide +kernel)) (hts (.code objectInit ⟨#[0xb1]⟩ 1 none) (by decide +kernel)) rfl (by rw [hml]; exact hl.1) rfl dX7_init_1 (Nat.le_of_ble_eq_true rfl) (Nat.le_of_ble_eq_true rfl) ?_
  refine W.eq (g2 := F0 m 4 ls []) rfl ?_
  refine lv_aload_n hx hb dX7_init_4 rfl (lv_at hl 0 rfl) ?_
  refine lv_bipush (v := 80) hx hb dX7_init_5 (by decide) ?_
  refine pg_newa (atype := .byte) (ty := .byte) (kd := 10) (t0 := 0) (N' := 80) hx hb (hts (.arrayClass .byte) (by decide +kernel)) rfl rfl (Or.inr (Or.inl rfl)) (by decide) hK hW hS hA (fun _ => rfl) (by decide) (by decide) (Nat.le_of_ble_eq_true rfl) (Nat.le_of_ble_eq_true rfl) (Nat.le_of_ble_eq_true rfl) dX7_init_7 (fun q1 H hq1 hW hS => ?_)
  have nqq1_hF : 20 ≤ sK S q1 := hF.new hq1
  obtain ⟨S2, eS2⟩ : ∃ T : St, T = stN S q1 10 80 := ⟨_, rfl⟩
  rw [← eS2] at hW
  have hG : Gx (q1 :: h :: ex) S2 := by rw [eS2]; exact hG.N hq1
  have hF : Fr [h] [] S S2 := by rw [eS2]; exact hF.N hq1
  have hD : Dn [] S2 h 7 := by rw [eS2]; exact hD.F ((Fr.rf [] [] _).N hq1) hkh (by decide) List.not_mem_nil
  have hkh : sK S2 h = 7 := hF.k hk (by decide)
  have hE3 : Fr [h] [] S2 S2 := Fr.rf _ _ _
  have kq1 : sK S2 q1 = 10 := by rw [eS2, kN, if_pos rfl]
  have nq1 : sL S2 q1 = 80 := by rw [eS2, lNw, if_pos rfl]
  have hG : Gx (h :: ex) S2 := hG.pl kq1 rty_10
  clear eS2
  refine pg_pr (ci := 7) (C := RX7) (T := TX7) (N := 2) hx hb hts wi7 tyX7 tyX7_ok nmX7 hown hK hW hS (hF.k hk (by decide)) (by decide) rfl 0 (by decide) (hts (.fieldLink RX7 9 "IceHall$Tape" "bytes" "[B") (by decide +kernel)) (fun _ h9 => h9) rfl hnm rfl rfl rfl rfl dX7_init_9 (fun H locs hW hS => ?_)
  have kq5 : sK S2 h = 7 := (hF.k hk (by decide))
  have hbS4 := And.intro kq1 nq1
  obtain ⟨S4, eS4⟩ : ∃ T : St, T = stR S2 h 0 (some q1) := ⟨_, rfl⟩
  rw [← eS4] at hW
  have hD : Dn [0] S4 h 7 := by rw [eS4]; exact hD.R (fun kd n ht => by cases ht; exact hbS4)
  have hG : Gx (h :: ex) S4 := by rw [eS4]; exact hG.Rh List.mem_cons_self kq5 (by decide)
  have hF : Fr [h] [] S S4 := by rw [eS4]; exact hF.Rh List.mem_cons_self
  have hE3 : Fr [h] [] S2 S4 := by rw [eS4]; exact hE3.Rh List.mem_cons_self
  have hkh : sK S4 h = 7 := hF.k hk (by decide)
  clear eS4 hbS4
  clear hE3
  refine lv_aload_n hx hb dX7_init_12 rfl (lv_at hl 0 rfl) ?_
  refine lv_iconst (v := 0) hx hb dX7_init_13 (by decide) ?_
  refine pg_pi (ci := 7) (C := RX7) (T := TX7) (N := 2) hx hb hts wi7 tyX7 tyX7_ok nmX7 hown hK hW hS (hF.k hk (by decide)) (by decide) rfl 1 (by decide) (hts (.fieldLink RX7 15 "IceHall$Tape" "size" "I") (by decide +kernel)) (fun _ h9 => h9) rfl rfl rfl dX7_init_14 (fun H locs hW hS => ?_)
  have kq6 : sK S4 h = 7 := (hF.k hk (by decide))
  obtain ⟨S7, eS7⟩ : ∃ T : St, T = stI S4 h 1 0 := ⟨_, rfl⟩
  rw [← eS7] at hW
  have hG : Gx (h :: ex) S7 := by rw [eS7]; exact hG.I kq6 (ok_in 0 80 (by decide) (by decide))
  have hF : Fr [h] [] S S7 := by rw [eS7]; exact hF.Ih List.mem_cons_self
  have hD : Dn [0] S7 h 7 := by rw [eS7]; exact hD
  have hkh : sK S7 h = 7 := hF.k hk (by decide)
  have w8 : sI S7 h 1 = 0 := by rw [eS7]; exact iI_s
  clear eS7
  exact pc_vret (S := S7) hx hb hr hlk hK hZ hA hW hS (⟨hG.done (hF.k hk (by decide)) hD (rtk (by decide)), hF, w8⟩) dX7_init_17
set_option maxHeartbeats 4000000 in
set_option maxRecDepth 100000 in
theorem b_X5_init (l : Launch) (D : va_G) (cy : Nat → ClassId) (A : Nat → Prop) (S : St) (ex : List Nat) (h x : Nat) (hG0 : Gx (h :: ex) S) (hk : sK S h = 5) (hkx : sK S x = 7) (hnx : sL S x = 0) : MV l yX5_init wsX5_init ({ frames := 1, cells := 0, slots := 0, locals := 60 } : Room) 0 0 D cy A [.ref h, .ref x] S (fun S1 => Gx ex S1 ∧ Fr [h] [] S S1 ∧ True) := by
  refine mt_start (cc := cX5_init) (maxL := 2) (ret := none) (by decide) rfl (Nat.le_of_ble_eq_true rfl) ?_
  intro p e s m args below meth c hx hb hr hlk hml hown hnm hts hK hZ hA hW hS ls hl
  have hl : lv_has ls 2 [(0, .ref h), (1, .ref x)] := hl
  have hown : s.vm.findClass RX5 = some m.cls := hown
  have F : CallFix p m c cX5_init 2 s args wsX5_init RX5 := ⟨hx, hb, hml, hown, hts⟩
  have wi5 : ∀ w ∈ u_ws RX5 TX5 4, w ∈ wsX5_init := by decide +kernel
  have hG := hG0
  have hF : Fr [h] [] S S := Fr.rf _ _ _
  have hD : Dn [] S h 5 := Dn.nil _ _ _
  have hkh : sK S h = 5 := hk
  refine lv_aload_n hx hb dX5_init_0 rfl (lv_at hl 0 rfl) ?_
  refine W.objInit hx hb hown (hts (.methodLink RX5 3 objectInit) (by decide +kernel)) (hts (.instanceMethod objectInit) (by decide +kernel)) (hts (.code objectInit ⟨#[0xb1]⟩ 1 none) (by decide +kernel)) rfl (by rw [hml]; exact hl.1) rfl dX5_init_1 (Nat.le_of_ble_eq_true rfl) (Nat.le_of_ble_eq_true rfl) ?_
  refine W.eq (g2 := F0 m 4 ls []) rfl ?_
  refine lv_aload_n hx hb dX5_init_4 rfl (lv_at hl 0 rfl) ?_
  refine lv_aload_n hx hb dX5_init_5 rfl (lv_at hl 1 rfl) ?_
  refine pg_pr (ci := 5) (C := RX5) (T := TX5) (N := 4) hx hb hts wi5 tyX5 tyX5_ok nmX5 hown hK hW hS hk (by decide) rfl 0 (by decide) (hts (.fieldLink RX5 9 "IceHall$RightsReader" "tape" "LIceHall$Tape;") (by decide +kernel)) (fun _ h9 => h9) rfl hnm rfl rfl rfl rfl dX5_init_6 (fun H locs hW hS => ?_)
  have hbS1 := And.intro hkx hnx
  obtain ⟨S1, eS1⟩ : ∃ T : St, T = stR S h 0 (some x) := ⟨_, rfl⟩
  rw [← eS1] at hW
  have hD : Dn [0] S1 h 5 := by rw [eS1]; exact hD.R (fun kd n ht => by cases ht; exact hbS1)
  have hG : Gx (h :: ex) S1 := by rw [eS1]; exact hG.Rh List.mem_cons_self hk (by decide)
  have hF : Fr [h] [] S S1 := by rw [eS1]; exact hF.Rh List.mem_cons_self
  have hkh : sK S1 h = 5 := hF.k hk (by decide)
  clear eS1 hbS1
  exact pc_vret (S := S1) hx hb hr hlk hK hZ hA hW hS (⟨hG.done (hF.k hk (by decide)) hD (rtk (by decide)), hF, trivial⟩) dX5_init_9
set_option maxHeartbeats 4000000 in
set_option maxRecDepth 100000 in
theorem b_X2_init (l : Launch) (D : va_G) (cy : Nat → ClassId) (A : Nat → Prop) (S : St) (ex : List Nat) (h x z : Nat) (hG0 : Gx (h :: ex) S) (hk : sK S h = 2) (hkx : sK S x = 1) (hkz : sK S z = 1) (hnx : sL S x = 0) (hnz : sL S z = 0) : MV l yX2_init wsX2_init ({ frames := 1, cells := 4, slots := 21, locals := 60 } : Room) 4 21 D cy A [.ref h, .ref x, .ref z] S (fun S1 => Gx ex S1 ∧ Fr [h] [] S S1 ∧ True) := by
  refine mt_start (cc := cX2_init) (maxL := 3) (ret := none) (by decide) rfl (Nat.le_of_ble_eq_true rfl) ?_
  intro p e s m args below meth c hx hb hr hlk hml hown hnm hts hK hZ hA hW hS ls hl
  have hl : lv_has ls 3 [(0, .ref h), (1, .ref x), (2, .ref z)] := hl
  have hown : s.vm.findClass RX2 = some m.cls := hown
  have F : CallFix p m c cX2_init 3 s args wsX2_init RX2 := ⟨hx, hb, hml, hown, hts⟩
  have wi2 : ∀ w ∈ u_ws RX2 TX2 10, w ∈ wsX2_init := by decide +kernel
  have hG := hG0
  have hF : Fr [h] [] S S := Fr.rf _ _ _
  have hD : Dn [] S h 2 := Dn.nil _ _ _
  have hkh : sK S h = 2 := hk
  refine lv_aload_n hx hb dX2_init_0 rfl (lv_at hl 0 rfl) ?_
  refine W.objInit hx hb hown (hts (.methodLink RX2 3 objectInit) (by decide +kernel)) (hts (.instanceMethod objectInit) (by decide +kernel)) (hts (.code objectInit ⟨#[0xb1]⟩ 1 none) (by decide +kernel)) rfl (by rw [hml]; exact hl.1) rfl dX2_init_1 (Nat.le_of_ble_eq_true rfl) (Nat.le_of_ble_eq_true rfl) ?_
  refine W.eq (g2 := F0 m 4 ls []) rfl ?_
  refine lv_aload_n hx hb dX2_init_4 rfl (lv_at hl 0 rfl) ?_
  refine lv_iconst (v := 5) hx hb dX2_init_5 (by decide) ?_
  refine pg_newq (kd := 15) (t0 := 5) (N' := 5) hx hb hown (hts (.classLink RX2 9 RX6) (by decide +kernel)) hZ.2.2.2.2.2.2.2.2.2.2.2.2.2.2.2 rfl (by decide) hK hW hS hA (by decide) (by decide) (Nat.le_of_ble_eq_true rfl) (Nat.le_of_ble_eq_true rfl) (Nat.le_of_ble_eq_true rfl) dX2_init_6 (fun q1 H hq1 hW hS => ?_)
  have nqq1_hF : 20 ≤ sK S q1 := hF.new hq1
  obtain ⟨S2, eS2⟩ : ∃ T : St, T = stN S q1 15 5 := ⟨_, rfl⟩
  rw [← eS2] at hW
  have hG : Gx (q1 :: h :: ex) S2 := by rw [eS2]; exact hG.N hq1
  have hF : Fr [h] [] S S2 := by rw [eS2]; exact hF.N hq1
  have hD : Dn [] S2 h 2 := by rw [eS2]; exact hD.F ((Fr.rf [] [] _).N hq1) hkh (by decide) List.not_mem_nil
  have hkh : sK S2 h = 2 := hF.k hk (by decide)
  have hE3 : Fr [h] [] S2 S2 := Fr.rf _ _ _
  have kq1 : sK S2 q1 = 15 := by rw [eS2, kN, if_pos rfl]
  have nq1 : sL S2 q1 = 5 := by rw [eS2, lNw, if_pos rfl]
  have hG : Gx (h :: ex) S2 := hG.pl kq1 rty_15
  clear eS2
  refine pg_pr (ci := 2) (C := RX2) (T := TX2) (N := 10) hx hb hts wi2 tyX2 tyX2_ok nmX2 hown hK hW hS (hF.k hk (by decide)) (by decide) rfl 2 (by decide) (hts (.fieldLink RX2 11 "IceHall$Mover" "moved" "[LIceHall$Session;") (by decide +kernel)) (fun _ h9 => h9) rfl hnm rfl rfl rfl rfl dX2_init_9 (fun H locs hW hS => ?_)
  have kq5 : sK S2 h = 2 := (hF.k hk (by decide))
  have hbS4 := And.intro kq1 nq1
  obtain ⟨S4, eS4⟩ : ∃ T : St, T = stR S2 h 2 (some q1) := ⟨_, rfl⟩
  rw [← eS4] at hW
  have hD : Dn [2] S4 h 2 := by rw [eS4]; exact hD.R (fun kd n ht => by cases ht; exact hbS4)
  have hG : Gx (h :: ex) S4 := by rw [eS4]; exact hG.Rh List.mem_cons_self kq5 (by decide)
  have hF : Fr [h] [] S S4 := by rw [eS4]; exact hF.Rh List.mem_cons_self
  have hE3 : Fr [h] [] S2 S4 := by rw [eS4]; exact hE3.Rh List.mem_cons_self
  have hkh : sK S4 h = 2 := hF.k hk (by decide)
  clear eS4 hbS4
  clear hE3
  refine lv_aload_n hx hb dX2_init_12 rfl (lv_at hl 0 rfl) ?_
  refine lv_iconst (v := 5) hx hb dX2_init_13 (by decide) ?_
  refine pg_newa (atype := .int) (ty := .int) (kd := 11) (t0 := 1) (N' := 5) hx hb (hts (.arrayClass .int) (by decide +kernel)) rfl rfl (Or.inl rfl) (by decide) hK hW hS hA (fun _ => rfl) (by decide) (by decide) (Nat.le_of_ble_eq_true rfl) (Nat.le_of_ble_eq_true rfl) (Nat.le_of_ble_eq_true rfl) dX2_init_14 (fun q6 H hq6 hW hS => ?_)
  have nqq6_hF : 20 ≤ sK S q6 := hF.new hq6
  obtain ⟨S7, eS7⟩ : ∃ T : St, T = stN S4 q6 11 5 := ⟨_, rfl⟩
  rw [← eS7] at hW
  have hG : Gx (q6 :: h :: ex) S7 := by rw [eS7]; exact hG.N hq6
  have hF : Fr [h] [] S S7 := by rw [eS7]; exact hF.N hq6
  have hD : Dn [2] S7 h 2 := by rw [eS7]; exact hD.F ((Fr.rf [] [] _).N hq6) hkh (by decide) List.not_mem_nil
  have hkh : sK S7 h = 2 := hF.k hk (by decide)
  have hE8 : Fr [h] [] S7 S7 := Fr.rf _ _ _
  have kq6 : sK S7 q6 = 11 := by rw [eS7, kN, if_pos rfl]
  have nq6 : sL S7 q6 = 5 := by rw [eS7, lNw, if_pos rfl]
  have hG : Gx (h :: ex) S7 := hG.pl kq6 rty_11
  clear eS7
  refine pg_pr (ci := 2) (C := RX2) (T := TX2) (N := 10) hx hb hts wi2 tyX2 tyX2_ok nmX2 hown hK hW hS (hF.k hk (by decide)) (by decide) rfl 3 (by decide) (hts (.fieldLink RX2 17 "IceHall$Mover" "row" "[I") (by decide +kernel)) (fun _ h9 => h9) rfl hnm rfl rfl rfl rfl dX2_init_16 (fun H locs hW hS => ?_)
  have kq10 : sK S7 h = 2 := (hF.k hk (by decide))
  have hbS9 := And.intro kq6 nq6
  obtain ⟨S9, eS9⟩ : ∃ T : St, T = stR S7 h 3 (some q6) := ⟨_, rfl⟩
  rw [← eS9] at hW
  have hD : Dn [3, 2] S9 h 2 := by rw [eS9]; exact hD.R (fun kd n ht => by cases ht; exact hbS9)
  have hG : Gx (h :: ex) S9 := by rw [eS9]; exact hG.Rh List.mem_cons_self kq10 (by decide)
  have hF : Fr [h] [] S S9 := by rw [eS9]; exact hF.Rh List.mem_cons_self
  have hE8 : Fr [h] [] S7 S9 := by rw [eS9]; exact hE8.Rh List.mem_cons_self
  have hkh : sK S9 h = 2 := hF.k hk (by decide)
  clear eS9 hbS9
  clear hE8
  refine lv_aload_n hx hb dX2_init_19 rfl (lv_at hl 0 rfl) ?_
  refine lv_iconst (v := 5) hx hb dX2_init_20 (by decide) ?_
  refine pg_newa (atype := .int) (ty := .int) (kd := 11) (t0 := 1) (N' := 5) hx hb (hts (.arrayClass .int) (by decide +kernel)) rfl rfl (Or.inl rfl) (by decide) hK hW hS hA (fun _ => rfl) (by decide) (by decide) (Nat.le_of_ble_eq_true rfl) (Nat.le_of_ble_eq_true rfl) (Nat.le_of_ble_eq_true rfl) dX2_init_21 (fun q11 H hq11 hW hS => ?_)
  have nqq11_hF : 20 ≤ sK S q11 := hF.new hq11
  obtain ⟨S12, eS12⟩ : ∃ T : St, T = stN S9 q11 11 5 := ⟨_, rfl⟩
  rw [← eS12] at hW
  have hG : Gx (q11 :: h :: ex) S12 := by rw [eS12]; exact hG.N hq11
  have hF : Fr [h] [] S S12 := by rw [eS12]; exact hF.N hq11
  have hD : Dn [3, 2] S12 h 2 := by rw [eS12]; exact hD.F ((Fr.rf [] [] _).N hq11) hkh (by decide) List.not_mem_nil
  have hkh : sK S12 h = 2 := hF.k hk (by decide)
  have hE13 : Fr [h] [] S12 S12 := Fr.rf _ _ _
  have kq11 : sK S12 q11 = 11 := by rw [eS12, kN, if_pos rfl]
  have nq11 : sL S12 q11 = 5 := by rw [eS12, lNw, if_pos rfl]
  have hG : Gx (h :: ex) S12 := hG.pl kq11 rty_11
  clear eS12
  refine pg_pr (ci := 2) (C := RX2) (T := TX2) (N := 10) hx hb hts wi2 tyX2 tyX2_ok nmX2 hown hK hW hS (hF.k hk (by decide)) (by decide) rfl 4 (by decide) (hts (.fieldLink RX2 21 "IceHall$Mover" "bestRow" "[I") (by decide +kernel)) (fun _ h9 => h9) rfl hnm rfl rfl rfl rfl dX2_init_23 (fun H locs hW hS => ?_)
  have kq15 : sK S12 h = 2 := (hF.k hk (by decide))
  have hbS14 := And.intro kq11 nq11
  obtain ⟨S14, eS14⟩ : ∃ T : St, T = stR S12 h 4 (some q11) := ⟨_, rfl⟩
  rw [← eS14] at hW
  have hD : Dn [4, 3, 2] S14 h 2 := by rw [eS14]; exact hD.R (fun kd n ht => by cases ht; exact hbS14)
  have hG : Gx (h :: ex) S14 := by rw [eS14]; exact hG.Rh List.mem_cons_self kq15 (by decide)
  have hF : Fr [h] [] S S14 := by rw [eS14]; exact hF.Rh List.mem_cons_self
  have hE13 : Fr [h] [] S12 S14 := by rw [eS14]; exact hE13.Rh List.mem_cons_self
  have hkh : sK S14 h = 2 := hF.k hk (by decide)
  clear eS14 hbS14
  clear hE13
  refine lv_aload_n hx hb dX2_init_26 rfl (lv_at hl 0 rfl) ?_
  refine lv_bipush (v := 6) hx hb dX2_init_27 (by decide) ?_
  refine pg_newa (atype := .int) (ty := .int) (kd := 11) (t0 := 1) (N' := 6) hx hb (hts (.arrayClass .int) (by decide +kernel)) rfl rfl (Or.inl rfl) (by decide) hK hW hS hA (fun _ => rfl) (by decide) (by decide) (Nat.le_of_ble_eq_true rfl) (Nat.le_of_ble_eq_true rfl) (Nat.le_of_ble_eq_true rfl) dX2_init_29 (fun q16 H hq16 hW hS => ?_)
  have nqq16_hF : 20 ≤ sK S q16 := hF.new hq16
  obtain ⟨S17, eS17⟩ : ∃ T : St, T = stN S14 q16 11 6 := ⟨_, rfl⟩
  rw [← eS17] at hW
  have hG : Gx (q16 :: h :: ex) S17 := by rw [eS17]; exact hG.N hq16
  have hF : Fr [h] [] S S17 := by rw [eS17]; exact hF.N hq16
  have hD : Dn [4, 3, 2] S17 h 2 := by rw [eS17]; exact hD.F ((Fr.rf [] [] _).N hq16) hkh (by decide) List.not_mem_nil
  have hkh : sK S17 h = 2 := hF.k hk (by decide)
  have hE18 : Fr [h] [] S17 S17 := Fr.rf _ _ _
  have kq16 : sK S17 q16 = 11 := by rw [eS17, kN, if_pos rfl]
  have nq16 : sL S17 q16 = 6 := by rw [eS17, lNw, if_pos rfl]
  have hG : Gx (h :: ex) S17 := hG.pl kq16 rty_11
  clear eS17
  refine pg_pr (ci := 2) (C := RX2) (T := TX2) (N := 10) hx hb hts wi2 tyX2 tyX2_ok nmX2 hown hK hW hS (hF.k hk (by decide)) (by decide) rfl 5 (by decide) (hts (.fieldLink RX2 24 "IceHall$Mover" "leastFrom" "[I") (by decide +kernel)) (fun _ h9 => h9) rfl hnm rfl rfl rfl rfl dX2_init_31 (fun H locs hW hS => ?_)
  have kq20 : sK S17 h = 2 := (hF.k hk (by decide))
  have hbS19 := And.intro kq16 nq16
  obtain ⟨S19, eS19⟩ : ∃ T : St, T = stR S17 h 5 (some q16) := ⟨_, rfl⟩
  rw [← eS19] at hW
  have hD : Dn [5, 4, 3, 2] S19 h 2 := by rw [eS19]; exact hD.R (fun kd n ht => by cases ht; exact hbS19)
  have hG : Gx (h :: ex) S19 := by rw [eS19]; exact hG.Rh List.mem_cons_self kq20 (by decide)
  have hF : Fr [h] [] S S19 := by rw [eS19]; exact hF.Rh List.mem_cons_self
  have hE18 : Fr [h] [] S17 S19 := by rw [eS19]; exact hE18.Rh List.mem_cons_self
  have hkh : sK S19 h = 2 := hF.k hk (by decide)
  clear eS19 hbS19
  clear hE18
  refine lv_aload_n hx hb dX2_init_34 rfl (lv_at hl 0 rfl) ?_
  refine lv_aload_n hx hb dX2_init_35 rfl (lv_at hl 1 rfl) ?_
  refine pg_pr (ci := 2) (C := RX2) (T := TX2) (N := 10) hx hb hts wi2 tyX2 tyX2_ok nmX2 hown hK hW hS (hF.k hk (by decide)) (by decide) rfl 0 (by decide) (hts (.fieldLink RX2 27 "IceHall$Mover" "firstIce" "LIceHall$Ice;") (by decide +kernel)) (fun _ h9 => h9) rfl hnm rfl rfl rfl rfl dX2_init_36 (fun H locs hW hS => ?_)
  have kq22 : sK S19 x = 1 := (hF.k hkx (by decide))
  have kq23 : sK S19 h = 2 := (hF.k hk (by decide))
  have hbS21 := And.intro kq22 (hF.n hkx (by decide) hnx)
  obtain ⟨S21, eS21⟩ : ∃ T : St, T = stR S19 h 0 (some x) := ⟨_, rfl⟩
  rw [← eS21] at hW
  have hD : Dn [0, 5, 4, 3, 2] S21 h 2 := by rw [eS21]; exact hD.R (fun kd n ht => by cases ht; exact hbS21)
  have hG : Gx (h :: ex) S21 := by rw [eS21]; exact hG.Rh List.mem_cons_self kq23 (by decide)
  have hF : Fr [h] [] S S21 := by rw [eS21]; exact hF.Rh List.mem_cons_self
  have hkh : sK S21 h = 2 := hF.k hk (by decide)
  clear eS21 hbS21
  refine lv_aload_n hx hb dX2_init_39 rfl (lv_at hl 0 rfl) ?_
  refine lv_aload_n hx hb dX2_init_40 rfl (lv_at hl 2 rfl) ?_
  refine pg_pr (ci := 2) (C := RX2) (T := TX2) (N := 10) hx hb hts wi2 tyX2 tyX2_ok nmX2 hown hK hW hS (hF.k hk (by decide)) (by decide) rfl 1 (by decide) (hts (.fieldLink RX2 31 "IceHall$Mover" "secondIce" "LIceHall$Ice;") (by decide +kernel)) (fun _ h9 => h9) rfl hnm rfl rfl rfl rfl dX2_init_41 (fun H locs hW hS => ?_)
  have kq25 : sK S21 z = 1 := (hF.k hkz (by decide))
  have kq26 : sK S21 h = 2 := (hF.k hk (by decide))
  have hbS24 := And.intro kq25 (hF.n hkz (by decide) hnz)
  obtain ⟨S24, eS24⟩ : ∃ T : St, T = stR S21 h 1 (some z) := ⟨_, rfl⟩
  rw [← eS24] at hW
  have hD : Dn [1, 0, 5, 4, 3, 2] S24 h 2 := by rw [eS24]; exact hD.R (fun kd n ht => by cases ht; exact hbS24)
  have hG : Gx (h :: ex) S24 := by rw [eS24]; exact hG.Rh List.mem_cons_self kq26 (by decide)
  have hF : Fr [h] [] S S24 := by rw [eS24]; exact hF.Rh List.mem_cons_self
  have hkh : sK S24 h = 2 := hF.k hk (by decide)
  clear eS24 hbS24
  exact pc_vret (S := S24) hx hb hr hlk hK hZ hA hW hS (⟨hG.done (hF.k hk (by decide)) hD (rtk (by decide)), hF, trivial⟩) dX2_init_44
set_option maxHeartbeats 4000000 in
set_option maxRecDepth 100000 in
theorem b_X3_init (l : Launch) (D : va_G) (cy : Nat → ClassId) (A : Nat → Prop) (S : St) (ex : List Nat) (h : Nat) (hG0 : Gx (h :: ex) S) (hk : sK S h = 3) : MV l yX3_init wsX3_init ({ frames := 1, cells := 4, slots := 250, locals := 60 } : Room) 4 250 D cy A [.ref h] S (fun S1 => Gx ex S1 ∧ Fr [h] [] S S1 ∧ True) := by
  refine mt_start (cc := cX3_init) (maxL := 1) (ret := none) (by decide) rfl (Nat.le_of_ble_eq_true rfl) ?_
  intro p e s m args below meth c hx hb hr hlk hml hown hnm hts hK hZ hA hW hS ls hl
  have hl : lv_has ls 1 [(0, .ref h)] := hl
  have hown : s.vm.findClass RX3 = some m.cls := hown
  have F : CallFix p m c cX3_init 1 s args wsX3_init RX3 := ⟨hx, hb, hml, hown, hts⟩
  have wi3 : ∀ w ∈ u_ws RX3 TX3 9, w ∈ wsX3_init := by decide +kernel
  have hG := hG0
  have hF : Fr [h] [] S S := Fr.rf _ _ _
  have hD : Dn [] S h 3 := Dn.nil _ _ _
  have hkh : sK S h = 3 := hk
  refine lv_aload_n hx hb dX3_init_0 rfl (lv_at hl 0 rfl) ?_
  refine W.objInit hx hb hown (hts (.methodLink RX3 3 objectInit) (by decide +kernel)) (hts (.instanceMethod objectInit) (by decide +kernel)) (hts (.code objectInit ⟨#[0xb1]⟩ 1 none) (by decide +kernel)) rfl (by rw [hml]; exact hl.1) rfl dX3_init_1 (Nat.le_of_ble_eq_true rfl) (Nat.le_of_ble_eq_true rfl) ?_
  refine W.eq (g2 := F0 m 4 ls []) rfl ?_
  refine lv_aload_n hx hb dX3_init_4 rfl (lv_at hl 0 rfl) ?_
  refine lv_bipush (v := 9) hx hb dX3_init_5 (by decide) ?_
  refine pg_newa (atype := .int) (ty := .int) (kd := 11) (t0 := 1) (N' := 9) hx hb (hts (.arrayClass .int) (by decide +kernel)) rfl rfl (Or.inl rfl) (by decide) hK hW hS hA (fun _ => rfl) (by decide) (by decide) (Nat.le_of_ble_eq_true rfl) (Nat.le_of_ble_eq_true rfl) (Nat.le_of_ble_eq_true rfl) dX3_init_7 (fun q1 H hq1 hW hS => ?_)
  have nqq1_hF : 20 ≤ sK S q1 := hF.new hq1
  obtain ⟨S2, eS2⟩ : ∃ T : St, T = stN S q1 11 9 := ⟨_, rfl⟩
  rw [← eS2] at hW
  have hG : Gx (q1 :: h :: ex) S2 := by rw [eS2]; exact hG.N hq1
  have hF : Fr [h] [] S S2 := by rw [eS2]; exact hF.N hq1
  have hD : Dn [] S2 h 3 := by rw [eS2]; exact hD.F ((Fr.rf [] [] _).N hq1) hkh (by decide) List.not_mem_nil
  have hkh : sK S2 h = 3 := hF.k hk (by decide)
  have hE3 : Fr [h] [] S2 S2 := Fr.rf _ _ _
  have kq1 : sK S2 q1 = 11 := by rw [eS2, kN, if_pos rfl]
  have nq1 : sL S2 q1 = 9 := by rw [eS2, lNw, if_pos rfl]
  have hG : Gx (h :: ex) S2 := hG.pl kq1 rty_11
  clear eS2
  refine pg_pr (ci := 3) (C := RX3) (T := TX3) (N := 9) hx hb hts wi3 tyX3 tyX3_ok nmX3 hown hK hW hS (hF.k hk (by decide)) (by decide) rfl 0 (by decide) (hts (.fieldLink RX3 9 "IceHall$Planner" "wantedAhead" "[I") (by decide +kernel)) (fun _ h9 => h9) rfl hnm rfl rfl rfl rfl dX3_init_9 (fun H locs hW hS => ?_)
  have kq5 : sK S2 h = 3 := (hF.k hk (by decide))
  have hbS4 := And.intro kq1 nq1
  obtain ⟨S4, eS4⟩ : ∃ T : St, T = stR S2 h 0 (some q1) := ⟨_, rfl⟩
  rw [← eS4] at hW
  have hD : Dn [0] S4 h 3 := by rw [eS4]; exact hD.R (fun kd n ht => by cases ht; exact hbS4)
  have hG : Gx (h :: ex) S4 := by rw [eS4]; exact hG.Rh List.mem_cons_self kq5 (by decide)
  have hF : Fr [h] [] S S4 := by rw [eS4]; exact hF.Rh List.mem_cons_self
  have hE3 : Fr [h] [] S2 S4 := by rw [eS4]; exact hE3.Rh List.mem_cons_self
  have hkh : sK S4 h = 3 := hF.k hk (by decide)
  clear eS4 hbS4
  clear hE3
  refine lv_aload_n hx hb dX3_init_12 rfl (lv_at hl 0 rfl) ?_
  refine lv_bipush (v := 8) hx hb dX3_init_13 (by decide) ?_
  refine pg_newa (atype := .int) (ty := .int) (kd := 11) (t0 := 1) (N' := 8) hx hb (hts (.arrayClass .int) (by decide +kernel)) rfl rfl (Or.inl rfl) (by decide) hK hW hS hA (fun _ => rfl) (by decide) (by decide) (Nat.le_of_ble_eq_true rfl) (Nat.le_of_ble_eq_true rfl) (Nat.le_of_ble_eq_true rfl) dX3_init_15 (fun q6 H hq6 hW hS => ?_)
  have nqq6_hF : 20 ≤ sK S q6 := hF.new hq6
  obtain ⟨S7, eS7⟩ : ∃ T : St, T = stN S4 q6 11 8 := ⟨_, rfl⟩
  rw [← eS7] at hW
  have hG : Gx (q6 :: h :: ex) S7 := by rw [eS7]; exact hG.N hq6
  have hF : Fr [h] [] S S7 := by rw [eS7]; exact hF.N hq6
  have hD : Dn [0] S7 h 3 := by rw [eS7]; exact hD.F ((Fr.rf [] [] _).N hq6) hkh (by decide) List.not_mem_nil
  have hkh : sK S7 h = 3 := hF.k hk (by decide)
  have hE8 : Fr [h] [] S7 S7 := Fr.rf _ _ _
  have kq6 : sK S7 q6 = 11 := by rw [eS7, kN, if_pos rfl]
  have nq6 : sL S7 q6 = 8 := by rw [eS7, lNw, if_pos rfl]
  have hG : Gx (h :: ex) S7 := hG.pl kq6 rty_11
  clear eS7
  refine pg_pr (ci := 3) (C := RX3) (T := TX3) (N := 9) hx hb hts wi3 tyX3 tyX3_ok nmX3 hown hK hW hS (hF.k hk (by decide)) (by decide) rfl 1 (by decide) (hts (.fieldLink RX3 15 "IceHall$Planner" "priceIn" "[I") (by decide +kernel)) (fun _ h9 => h9) rfl hnm rfl rfl rfl rfl dX3_init_17 (fun H locs hW hS => ?_)
  have kq10 : sK S7 h = 3 := (hF.k hk (by decide))
  have hbS9 := And.intro kq6 nq6
  obtain ⟨S9, eS9⟩ : ∃ T : St, T = stR S7 h 1 (some q6) := ⟨_, rfl⟩
  rw [← eS9] at hW
  have hD : Dn [1, 0] S9 h 3 := by rw [eS9]; exact hD.R (fun kd n ht => by cases ht; exact hbS9)
  have hG : Gx (h :: ex) S9 := by rw [eS9]; exact hG.Rh List.mem_cons_self kq10 (by decide)
  have hF : Fr [h] [] S S9 := by rw [eS9]; exact hF.Rh List.mem_cons_self
  have hE8 : Fr [h] [] S7 S9 := by rw [eS9]; exact hE8.Rh List.mem_cons_self
  have hkh : sK S9 h = 3 := hF.k hk (by decide)
  clear eS9 hbS9
  clear hE8
  refine lv_aload_n hx hb dX3_init_20 rfl (lv_at hl 0 rfl) ?_
  refine lv_sipush (v := 225) hx hb dX3_init_21 (by decide) ?_
  refine pg_newa (atype := .int) (ty := .int) (kd := 11) (t0 := 1) (N' := 225) hx hb (hts (.arrayClass .int) (by decide +kernel)) rfl rfl (Or.inl rfl) (by decide) hK hW hS hA (fun _ => rfl) (by decide) (by decide) (Nat.le_of_ble_eq_true rfl) (Nat.le_of_ble_eq_true rfl) (Nat.le_of_ble_eq_true rfl) dX3_init_24 (fun q11 H hq11 hW hS => ?_)
  have nqq11_hF : 20 ≤ sK S q11 := hF.new hq11
  obtain ⟨S12, eS12⟩ : ∃ T : St, T = stN S9 q11 11 225 := ⟨_, rfl⟩
  rw [← eS12] at hW
  have hG : Gx (q11 :: h :: ex) S12 := by rw [eS12]; exact hG.N hq11
  have hF : Fr [h] [] S S12 := by rw [eS12]; exact hF.N hq11
  have hD : Dn [1, 0] S12 h 3 := by rw [eS12]; exact hD.F ((Fr.rf [] [] _).N hq11) hkh (by decide) List.not_mem_nil
  have hkh : sK S12 h = 3 := hF.k hk (by decide)
  have hE13 : Fr [h] [] S12 S12 := Fr.rf _ _ _
  have kq11 : sK S12 q11 = 11 := by rw [eS12, kN, if_pos rfl]
  have nq11 : sL S12 q11 = 225 := by rw [eS12, lNw, if_pos rfl]
  have hG : Gx (h :: ex) S12 := hG.pl kq11 rty_11
  clear eS12
  refine pg_pr (ci := 3) (C := RX3) (T := TX3) (N := 9) hx hb hts wi3 tyX3 tyX3_ok nmX3 hown hK hW hS (hF.k hk (by decide)) (by decide) rfl 2 (by decide) (hts (.fieldLink RX3 18 "IceHall$Planner" "best" "[I") (by decide +kernel)) (fun _ h9 => h9) rfl hnm rfl rfl rfl rfl dX3_init_26 (fun H locs hW hS => ?_)
  have kq15 : sK S12 h = 3 := (hF.k hk (by decide))
  have hbS14 := And.intro kq11 nq11
  obtain ⟨S14, eS14⟩ : ∃ T : St, T = stR S12 h 2 (some q11) := ⟨_, rfl⟩
  rw [← eS14] at hW
  have hD : Dn [2, 1, 0] S14 h 3 := by rw [eS14]; exact hD.R (fun kd n ht => by cases ht; exact hbS14)
  have hG : Gx (h :: ex) S14 := by rw [eS14]; exact hG.Rh List.mem_cons_self kq15 (by decide)
  have hF : Fr [h] [] S S14 := by rw [eS14]; exact hF.Rh List.mem_cons_self
  have hE13 : Fr [h] [] S12 S14 := by rw [eS14]; exact hE13.Rh List.mem_cons_self
  have hkh : sK S14 h = 3 := hF.k hk (by decide)
  clear eS14 hbS14
  clear hE13
  refine lv_aload_n hx hb dX3_init_29 rfl (lv_at hl 0 rfl) ?_
  refine lv_bipush (v := 8) hx hb dX3_init_30 (by decide) ?_
  refine pg_newa (atype := .int) (ty := .int) (kd := 11) (t0 := 1) (N' := 8) hx hb (hts (.arrayClass .int) (by decide +kernel)) rfl rfl (Or.inl rfl) (by decide) hK hW hS hA (fun _ => rfl) (by decide) (by decide) (Nat.le_of_ble_eq_true rfl) (Nat.le_of_ble_eq_true rfl) (Nat.le_of_ble_eq_true rfl) dX3_init_32 (fun q16 H hq16 hW hS => ?_)
  have nqq16_hF : 20 ≤ sK S q16 := hF.new hq16
  obtain ⟨S17, eS17⟩ : ∃ T : St, T = stN S14 q16 11 8 := ⟨_, rfl⟩
  rw [← eS17] at hW
  have hG : Gx (q16 :: h :: ex) S17 := by rw [eS17]; exact hG.N hq16
  have hF : Fr [h] [] S S17 := by rw [eS17]; exact hF.N hq16
  have hD : Dn [2, 1, 0] S17 h 3 := by rw [eS17]; exact hD.F ((Fr.rf [] [] _).N hq16) hkh (by decide) List.not_mem_nil
  have hkh : sK S17 h = 3 := hF.k hk (by decide)
  have hE18 : Fr [h] [] S17 S17 := Fr.rf _ _ _
  have kq16 : sK S17 q16 = 11 := by rw [eS17, kN, if_pos rfl]
  have nq16 : sL S17 q16 = 8 := by rw [eS17, lNw, if_pos rfl]
  have hG : Gx (h :: ex) S17 := hG.pl kq16 rty_11
  clear eS17
  refine pg_pr (ci := 3) (C := RX3) (T := TX3) (N := 9) hx hb hts wi3 tyX3 tyX3_ok nmX3 hown hK hW hS (hF.k hk (by decide)) (by decide) rfl 3 (by decide) (hts (.fieldLink RX3 21 "IceHall$Planner" "row" "[I") (by decide +kernel)) (fun _ h9 => h9) rfl hnm rfl rfl rfl rfl dX3_init_34 (fun H locs hW hS => ?_)
  have kq20 : sK S17 h = 3 := (hF.k hk (by decide))
  have hbS19 := And.intro kq16 nq16
  obtain ⟨S19, eS19⟩ : ∃ T : St, T = stR S17 h 3 (some q16) := ⟨_, rfl⟩
  rw [← eS19] at hW
  have hD : Dn [3, 2, 1, 0] S19 h 3 := by rw [eS19]; exact hD.R (fun kd n ht => by cases ht; exact hbS19)
  have hG : Gx (h :: ex) S19 := by rw [eS19]; exact hG.Rh List.mem_cons_self kq20 (by decide)
  have hF : Fr [h] [] S S19 := by rw [eS19]; exact hF.Rh List.mem_cons_self
  have hE18 : Fr [h] [] S17 S19 := by rw [eS19]; exact hE18.Rh List.mem_cons_self
  have hkh : sK S19 h = 3 := hF.k hk (by decide)
  clear eS19 hbS19
  clear hE18
  refine lv_aload_n hx hb dX3_init_37 rfl (lv_at hl 0 rfl) ?_
  refine lv_iconst (v := 0) hx hb dX3_init_38 (by decide) ?_
  refine pg_pi (ci := 3) (C := RX3) (T := TX3) (N := 9) hx hb hts wi3 tyX3 tyX3_ok nmX3 hown hK hW hS (hF.k hk (by decide)) (by decide) rfl 4 (by decide) (hts (.fieldLink RX3 24 "IceHall$Planner" "rowSize" "I") (by decide +kernel)) (fun _ h9 => h9) rfl rfl rfl dX3_init_39 (fun H locs hW hS => ?_)
  have kq21 : sK S19 h = 3 := (hF.k hk (by decide))
  obtain ⟨S22, eS22⟩ : ∃ T : St, T = stI S19 h 4 0 := ⟨_, rfl⟩
  rw [← eS22] at hW
  have hG : Gx (h :: ex) S22 := by rw [eS22]; exact hG.I kq21 (ok_in 0 8 (by decide) (by decide))
  have hF : Fr [h] [] S S22 := by rw [eS22]; exact hF.Ih List.mem_cons_self
  have hD : Dn [3, 2, 1, 0] S22 h 3 := by rw [eS22]; exact hD
  have hkh : sK S22 h = 3 := hF.k hk (by decide)
  clear eS22
  exact pc_vret (S := S22) hx hb hr hlk hK hZ hA hW hS (⟨hG.done (hF.k hk (by decide)) hD (rtk (by decide)), hF, trivial⟩) dX3_init_42
set_option maxHeartbeats 4000000 in
set_option maxRecDepth 100000 in
theorem b_X8_init (l : Launch) (D : va_G) (cy : Nat → ClassId) (A : Nat → Prop) (S : St) (ex : List Nat) (h : Nat) (hG0 : Gx (h :: ex) S) (hk : sK S h = 8) (z10 : sI S h 10 = 0) : MV l yX8_init wsX8_init ({ frames := 3, cells := 27, slots := 764, locals := 100 } : Room) 27 764 D cy A [.ref h] S (fun S1 => Gx ex S1 ∧ Fr [h] [1100] S S1 ∧ (sI S1 h 10 = 0 ∧ sI S1 h 13 = 3 ∧ ∃ t, sR S1 h 5 = some t ∧ sK S1 t = 7 ∧ sI S1 t 1 = 0)) := by
  refine mt_start (cc := cX8_init) (maxL := 3) (ret := none) (by decide) rfl (Nat.le_of_ble_eq_true rfl) ?_
  intro p e s m args below meth c hx hb hr hlk hml hown hnm hts hK hZ hA hW hS ls hl
  have hl : lv_has ls 3 [(0, .ref h)] := hl
  have hown : s.vm.findClass RX8 = some m.cls := hown
  have F : CallFix p m c cX8_init 3 s args wsX8_init RX8 := ⟨hx, hb, hml, hown, hts⟩
  have wi1 : ∀ w ∈ u_ws RX1 TX1 10, w ∈ wsX8_init := by decide +kernel
  have wi2 : ∀ w ∈ u_ws RX2 TX2 10, w ∈ wsX8_init := by decide +kernel
  have wi3 : ∀ w ∈ u_ws RX3 TX3 9, w ∈ wsX8_init := by decide +kernel
  have wi4 : ∀ w ∈ u_ws RX4 TX4 6, w ∈ wsX8_init := by decide +kernel
  have wi5 : ∀ w ∈ u_ws RX5 TX5 4, w ∈ wsX8_init := by decide +kernel
  have wi7 : ∀ w ∈ u_ws RX7 TX7 2, w ∈ wsX8_init := by decide +kernel
  have wi8 : ∀ w ∈ u_ws RX8 TX8 18, w ∈ wsX8_init := by decide +kernel
  have hG := hG0
  have hF : Fr [h] [1100] S S := Fr.rf _ _ _
  have hD : Dn [] S h 8 := Dn.nil _ _ _
  have hkh : sK S h = 8 := hk
  refine lv_aload_n hx hb dX8_init_0 rfl (lv_at hl 0 rfl) ?_
  refine W.objInit hx hb hown (hts (.methodLink RX8 1 objectInit) (by decide +kernel)) (hts (.instanceMethod objectInit) (by decide +kernel)) (hts (.code objectInit ⟨#[0xb1]⟩ 1 none) (by decide +kernel)) rfl (by rw [hml]; exact hl.1) rfl dX8_init_1 (Nat.le_of_ble_eq_true rfl) (Nat.le_of_ble_eq_true rfl) ?_
  refine W.eq (g2 := F0 m 4 ls []) rfl ?_
  refine lv_aload_n hx hb dX8_init_4 rfl (lv_at hl 0 rfl) ?_
  refine pg_new (ci := 1) (C := RX1) (T := TX1) (N := 10) hx hb hts wi1 tyX1 tyX1_ok hown (hts (.classLink RX8 7 RX1) (by decide +kernel)) (hts (.instantiable RX1 10) (by decide +kernel)) (hts (.initialized RX1) (by decide +kernel)) hK hW hS hA (by decide) rfl df_1 (Nat.le_of_ble_eq_true rfl) (Nat.le_of_ble_eq_true rfl) dX8_init_5 (fun q1 H hq1 hW hS => ?_)
  have nqq1_hF : 20 ≤ sK S q1 := hF.new hq1
  obtain ⟨S2, eS2⟩ : ∃ T : St, T = stN S q1 1 0 := ⟨_, rfl⟩
  rw [← eS2] at hW
  have hG : Gx (q1 :: h :: ex) S2 := by rw [eS2]; exact hG.N hq1
  have w3 : sI S2 h 10 = 0 := by rw [eS2]; rw [iN, if_neg (fun e9 => by have := hk; rw [e9] at this; omega)]; exact z10
  have hF : Fr [h] [1100] S S2 := by rw [eS2]; exact hF.N hq1
  have hD : Dn [] S2 h 8 := by rw [eS2]; exact hD.F ((Fr.rf [] [] _).N hq1) hkh (by decide) List.not_mem_nil
  have hkh : sK S2 h = 8 := hF.k hk (by decide)
  have hE4 : Fr [h] [1100] S2 S2 := Fr.rf _ _ _
  have kq1 : sK S2 q1 = 1 := by rw [eS2, kN, if_pos rfl]
  have nq1 : sL S2 q1 = 0 := by rw [eS2, lNw, if_pos rfl]
  clear eS2
  refine lv_dup hx hb dX8_init_8 rfl ?_
  refine pc_INv (As := []) (rest := [.ref q1, .ref h]) F (b_X1_init l D cy A S2 (h :: ex) q1 hG kq1) ⟨va_cnB 0 hts gX8_init_X1_init_n9 rfl rfl rfl hZ.2.2.2.1 (hts (.initialized RX1) (by decide +kernel)) (by decide +kernel) ⟨Nat.le_of_ble_eq_true rfl, Nat.le_of_ble_eq_true rfl⟩, rfl, hts (.instanceMethod yX1_init) (by decide +kernel)⟩ hK hZ hA hW hS rfl hl.1 rfl (Nat.le_of_ble_eq_true rfl) dX8_init_9 ⟨Nat.le_of_ble_eq_true rfl, Nat.le_of_ble_eq_true rfl⟩ (fun T6 H locs p7 hW hS => ?_)
  obtain ⟨hG, hFc, p7⟩ := p7
  have hD : Dn [] T6 h 8 := hD.F hFc hkh (by decide) (ni_c (ap_k hk nqq1_hF (by decide)) ni_0)
  have hkh : sK T6 h = 8 := hFc.k hkh (by decide)
  have k8 : sK T6 q1 = 1 := hFc.k kq1 (by decide)
  have n9 : sL T6 q1 = 0 := hFc.n kq1 (by decide) nq1
  have w10 : sI T6 h 10 = 0 := (hFc.ix (ni_c (ap_k hk nqq1_hF (by decide)) ni_0) (hF.k hk (by decide)) (by decide) (by decide)).trans w3
  have hF : Fr [h] [1100] S T6 := hF.trN (hFc.mono (by decide)) nqq1_hF
  have hE11 : Fr [h] [1100] T6 T6 := Fr.rf _ _ _
  refine pg_pr (ci := 8) (C := RX8) (T := TX8) (N := 18) hx hb hts wi8 tyX8 tyX8_ok nmX8 hown hK hW hS (hF.k hk (by decide)) (by decide) rfl 0 (by decide) (hts (.fieldLink RX8 10 "IceHall" "firstIce" "LIceHall$Ice;") (by decide +kernel)) (fun _ h9 => h9) rfl hnm rfl rfl rfl rfl dX8_init_12 (fun H locs hW hS => ?_)
  have kq13 : sK T6 h = 8 := (hF.k hk (by decide))
  have hbS12 := And.intro k8 n9
  obtain ⟨S12, eS12⟩ : ∃ T : St, T = stR T6 h 0 (some q1) := ⟨_, rfl⟩
  rw [← eS12] at hW
  have hD : Dn [0] S12 h 8 := by rw [eS12]; exact hD.R (fun kd n ht => by cases ht; exact hbS12)
  have hG : Gx (h :: ex) S12 := by rw [eS12]; exact hG.Rh List.mem_cons_self kq13 (by decide)
  have hF : Fr [h] [1100] S S12 := by rw [eS12]; exact hF.Rh List.mem_cons_self
  have hE11 : Fr [h] [1100] T6 S12 := by rw [eS12]; exact hE11.Rh List.mem_cons_self
  have hkh : sK S12 h = 8 := hF.k hk (by decide)
  have w14 : sI S12 h 10 = 0 := by rw [eS12]; exact w10
  clear eS12 hbS12
  clear hE11
  refine lv_aload_n hx hb dX8_init_15 rfl (lv_at hl 0 rfl) ?_
  refine pg_new (ci := 1) (C := RX1) (T := TX1) (N := 10) hx hb hts wi1 tyX1 tyX1_ok hown (hts (.classLink RX8 7 RX1) (by decide +kernel)) (hts (.instantiable RX1 10) (by decide +kernel)) (hts (.initialized RX1) (by decide +kernel)) hK hW hS hA (by decide) rfl df_1 (Nat.le_of_ble_eq_true rfl) (Nat.le_of_ble_eq_true rfl) dX8_init_16 (fun q15 H hq15 hW hS => ?_)
  have nqq15_hF : 20 ≤ sK S q15 := hF.new hq15
  obtain ⟨S16, eS16⟩ : ∃ T : St, T = stN S12 q15 1 0 := ⟨_, rfl⟩
  rw [← eS16] at hW
  have hG : Gx (q15 :: h :: ex) S16 := by rw [eS16]; exact hG.N hq15
  have w17 : sI S16 h 10 = 0 := by rw [eS16]; rw [iN, if_neg (fun e9 => by have := (hF.k hk (by decide)); rw [e9] at this; omega)]; exact w14
  have hF : Fr [h] [1100] S S16 := by rw [eS16]; exact hF.N hq15
  have hD : Dn [0] S16 h 8 := by rw [eS16]; exact hD.F ((Fr.rf [] [] _).N hq15) hkh (by decide) List.not_mem_nil
  have hkh : sK S16 h = 8 := hF.k hk (by decide)
  have hE18 : Fr [h] [1100] S16 S16 := Fr.rf _ _ _
  have kq15 : sK S16 q15 = 1 := by rw [eS16, kN, if_pos rfl]
  have nq15 : sL S16 q15 = 0 := by rw [eS16, lNw, if_pos rfl]
  clear eS16
  refine lv_dup hx hb dX8_init_19 rfl ?_
  refine pc_INv (As := []) (rest := [.ref q15, .ref h]) F (b_X1_init l D cy A S16 (h :: ex) q15 hG kq15) ⟨va_cnB 0 hts gX8_init_X1_init_n9 rfl rfl rfl hZ.2.2.2.1 (hts (.initialized RX1) (by decide +kernel)) (by decide +kernel) ⟨Nat.le_of_ble_eq_true rfl, Nat.le_of_ble_eq_true rfl⟩, rfl, hts (.instanceMethod yX1_init) (by decide +kernel)⟩ hK hZ hA hW hS rfl hl.1 rfl (Nat.le_of_ble_eq_true rfl) dX8_init_20 ⟨Nat.le_of_ble_eq_true rfl, Nat.le_of_ble_eq_true rfl⟩ (fun T20 H locs p21 hW hS => ?_)
  obtain ⟨hG, hFc, p21⟩ := p21
  have hD : Dn [0] T20 h 8 := hD.F hFc hkh (by decide) (ni_c (ap_k hk nqq15_hF (by decide)) ni_0)
  have hkh : sK T20 h = 8 := hFc.k hkh (by decide)
  have k22 : sK T20 q15 = 1 := hFc.k kq15 (by decide)
  have n23 : sL T20 q15 = 0 := hFc.n kq15 (by decide) nq15
  have w24 : sI T20 h 10 = 0 := (hFc.ix (ni_c (ap_k hk nqq15_hF (by decide)) ni_0) (hF.k hk (by decide)) (by decide) (by decide)).trans w17
  have hF : Fr [h] [1100] S T20 := hF.trN (hFc.mono (by decide)) nqq15_hF
  have hE25 : Fr [h] [1100] T20 T20 := Fr.rf _ _ _
  refine pg_pr (ci := 8) (C := RX8) (T := TX8) (N := 18) hx hb hts wi8 tyX8 tyX8_ok nmX8 hown hK hW hS (hF.k hk (by decide)) (by decide) rfl 1 (by decide) (hts (.fieldLink RX8 16 "IceHall" "secondIce" "LIceHall$Ice;") (by decide +kernel)) (fun _ h9 => h9) rfl hnm rfl rfl rfl rfl dX8_init_23 (fun H locs hW hS => ?_)
  have kq27 : sK T20 h = 8 := (hF.k hk (by decide))
  have hbS26 := And.intro k22 n23
  obtain ⟨S26, eS26⟩ : ∃ T : St, T = stR T20 h 1 (some q15) := ⟨_, rfl⟩
  rw [← eS26] at hW
  have hD : Dn [1, 0] S26 h 8 := by rw [eS26]; exact hD.R (fun kd n ht => by cases ht; exact hbS26)
  have hG : Gx (h :: ex) S26 := by rw [eS26]; exact hG.Rh List.mem_cons_self kq27 (by decide)
  have hF : Fr [h] [1100] S S26 := by rw [eS26]; exact hF.Rh List.mem_cons_self
  have hE25 : Fr [h] [1100] T20 S26 := by rw [eS26]; exact hE25.Rh List.mem_cons_self
  have hkh : sK S26 h = 8 := hF.k hk (by decide)
  have w28 : sI S26 h 10 = 0 := by rw [eS26]; exact w24
  clear eS26 hbS26
  clear hE25
  refine lv_aload_n hx hb dX8_init_26 rfl (lv_at hl 0 rfl) ?_
  refine lv_bipush (v := 6) hx hb dX8_init_27 (by decide) ?_
  refine pg_newq (kd := 14) (t0 := 4) (N' := 6) hx hb hown (hts (.classLink RX8 19 RX4) (by decide +kernel)) hZ.2.2.2.2.2.2.2.2.2.2.2.2.2.2.1 rfl (by decide) hK hW hS hA (by decide) (by decide) (Nat.le_of_ble_eq_true rfl) (Nat.le_of_ble_eq_true rfl) (Nat.le_of_ble_eq_true rfl) dX8_init_29 (fun q29 H hq29 hW hS => ?_)
  have nqq29_hF : 20 ≤ sK S q29 := hF.new hq29
  obtain ⟨S30, eS30⟩ : ∃ T : St, T = stN S26 q29 14 6 := ⟨_, rfl⟩
  rw [← eS30] at hW
  have hG : Gx (q29 :: h :: ex) S30 := by rw [eS30]; exact hG.N hq29
  have w31 : sI S30 h 10 = 0 := by rw [eS30]; rw [iN, if_neg (fun e9 => by have := (hF.k hk (by decide)); rw [e9] at this; omega)]; exact w28
  have hF : Fr [h] [1100] S S30 := by rw [eS30]; exact hF.N hq29
  have hD : Dn [1, 0] S30 h 8 := by rw [eS30]; exact hD.F ((Fr.rf [] [] _).N hq29) hkh (by decide) List.not_mem_nil
  have hkh : sK S30 h = 8 := hF.k hk (by decide)
  have hE32 : Fr [h] [1100] S30 S30 := Fr.rf _ _ _
  have kq29 : sK S30 q29 = 14 := by rw [eS30, kN, if_pos rfl]
  have nq29 : sL S30 q29 = 6 := by rw [eS30, lNw, if_pos rfl]
  have hG : Gx (h :: ex) S30 := hG.pl kq29 rty_14
  clear eS30
  refine pg_pr (ci := 8) (C := RX8) (T := TX8) (N := 18) hx hb hts wi8 tyX8 tyX8_ok nmX8 hown hK hW hS (hF.k hk (by decide)) (by decide) rfl 2 (by decide) (hts (.fieldLink RX8 21 "IceHall" "rightsInForce" "[LIceHall$Rights;") (by decide +kernel)) (fun _ h9 => h9) rfl hnm rfl rfl rfl rfl dX8_init_32 (fun H locs hW hS => ?_)
  have kq34 : sK S30 h = 8 := (hF.k hk (by decide))
  have hbS33 := And.intro kq29 nq29
  obtain ⟨S33, eS33⟩ : ∃ T : St, T = stR S30 h 2 (some q29) := ⟨_, rfl⟩
  rw [← eS33] at hW
  have hD : Dn [2, 1, 0] S33 h 8 := by rw [eS33]; exact hD.R (fun kd n ht => by cases ht; exact hbS33)
  have hG : Gx (h :: ex) S33 := by rw [eS33]; exact hG.Rh List.mem_cons_self kq34 (by decide)
  have hF : Fr [h] [1100] S S33 := by rw [eS33]; exact hF.Rh List.mem_cons_self
  have hE32 : Fr [h] [1100] S30 S33 := by rw [eS33]; exact hE32.Rh List.mem_cons_self
  have hkh : sK S33 h = 8 := hF.k hk (by decide)
  have w35 : sI S33 h 10 = 0 := by rw [eS33]; exact w31
  clear eS33 hbS33
  clear hE32
  refine pg_new (ci := 4) (C := RX4) (T := TX4) (N := 6) hx hb hts wi4 tyX4 tyX4_ok hown (hts (.classLink RX8 19 RX4) (by decide +kernel)) (hts (.instantiable RX4 6) (by decide +kernel)) (hts (.initialized RX4) (by decide +kernel)) hK hW hS hA (by decide) rfl df_4 (Nat.le_of_ble_eq_true rfl) (Nat.le_of_ble_eq_true rfl) dX8_init_35 (fun q36 H hq36 hW hS => ?_)
  have nqq36_hF : 20 ≤ sK S q36 := hF.new hq36
  obtain ⟨S37, eS37⟩ : ∃ T : St, T = stN S33 q36 4 0 := ⟨_, rfl⟩
  rw [← eS37] at hW
  have hG : Gx (q36 :: h :: ex) S37 := by rw [eS37]; exact hG.N hq36
  have w38 : sI S37 h 10 = 0 := by rw [eS37]; rw [iN, if_neg (fun e9 => by have := (hF.k hk (by decide)); rw [e9] at this; omega)]; exact w35
  have hF : Fr [h] [1100] S S37 := by rw [eS37]; exact hF.N hq36
  have hD : Dn [2, 1, 0] S37 h 8 := by rw [eS37]; exact hD.F ((Fr.rf [] [] _).N hq36) hkh (by decide) List.not_mem_nil
  have hkh : sK S37 h = 8 := hF.k hk (by decide)
  have hE39 : Fr [h] [1100] S37 S37 := Fr.rf _ _ _
  have kq36 : sK S37 q36 = 4 := by rw [eS37, kN, if_pos rfl]
  have nq36 : sL S37 q36 = 0 := by rw [eS37, lNw, if_pos rfl]
  have hG : Gx (h :: ex) S37 := hG.pl kq36 rty_4
  clear eS37
  refine lv_dup hx hb dX8_init_38 rfl ?_
  refine pc_INv (As := []) (rest := [.ref q36]) F (b_X4_init l D cy A S37 (h :: ex) q36 hG kq36) ⟨va_cnB 0 hts gX8_init_X4_init_n25 rfl rfl rfl hZ.2.2.2.2.1 (hts (.initialized RX4) (by decide +kernel)) (by decide +kernel) ⟨Nat.le_of_ble_eq_true rfl, Nat.le_of_ble_eq_true rfl⟩, rfl, hts (.instanceMethod yX4_init) (by decide +kernel)⟩ hK hZ hA hW hS rfl hl.1 rfl (Nat.le_of_ble_eq_true rfl) dX8_init_39 ⟨Nat.le_of_ble_eq_true rfl, Nat.le_of_ble_eq_true rfl⟩ (fun T41 H locs p42 hW hS => ?_)
  obtain ⟨hG, hFc, p42⟩ := p42
  have hD : Dn [2, 1, 0] T41 h 8 := hD.F hFc hkh (by decide) (ni_c (ap_k hk nqq36_hF (by decide)) ni_0)
  have hkh : sK T41 h = 8 := hFc.k hkh (by decide)
  have k43 : sK T41 q36 = 4 := hFc.k kq36 (by decide)
  have n44 : sL T41 q36 = 0 := hFc.n kq36 (by decide) nq36
  have w45 : sI T41 h 10 = 0 := (hFc.ix (ni_c (ap_k hk nqq36_hF (by decide)) ni_0) (hF.k hk (by decide)) (by decide) (by decide)).trans w38
  have hF : Fr [h] [1100] S T41 := hF.trN (hFc.mono (by decide)) nqq36_hF
  have hE46 : Fr [h] [1100] T41 T41 := Fr.rf _ _ _
  refine lv_astore_n (lv' := [(1, .ref q36), (0, .ref h)]) hx hb dX8_init_42 rfl hl (by decide) rfl (fun ls hl => ?_)
  refine lv_iconst (v := 0) hx hb dX8_init_43 (by decide) ?_
  refine lv_istore_n (lv' := [(2, .int 0), (1, .ref q36), (0, .ref h)]) hx hb dX8_init_44 rfl hl (by decide) rfl (fun ls hl => ?_)
  have loop45 : ∀ (zn : Nat) (y : Int32) (L45 : St) (H : Heap) (locs : List Loc) (ls : Array Slot), (Gx (h :: ex) L45) → (Fr [h] [1100] T41 L45) → (Dn [2, 1, 0] L45 h 8) → (0 ≤ y.toInt) → (sI L45 h 10 = 0) → (6 - y.toInt).toNat < zn → PW D cy A L45 H → va_S A s.heap H locs → lv_has ls 3 [(0, .ref h), (1, .ref q36), (2, .int y)] → W p l e ({ frames := 3, cells := 27, slots := 764, locals := 100 } : Room) s m args below meth c H locs 12 164 (MQ below (va_Qv (fun S1 => Gx ex S1 ∧ Fr [h] [1100] S S1 ∧ (sI S1 h 10 = 0 ∧ sI S1 h 13 = 3 ∧ ∃ t, sR S1 h 5 = some t ∧ sK S1 t = 7 ∧ sI S1 t 1 = 0)) (PU D cy A) A) args s 27 764 A) (F0 m 45 ls []) := by
    intro zn
    induction zn with
    | zero => intros; exact absurd (by assumption) (Nat.not_lt_zero _)
    | succ zn ih45 =>
      intro y L45 H locs ls hG hL45 hD hy0 z10a hme45 hW hS hl
      have hF : Fr [h] [1100] S L45 := hF.tr hL45
      have hE46 := hL45
      have hkh : sK L45 h = 8 := hF.k hk (by decide)
      refine lv_iload_n hx hb dX8_init_45 rfl (lv_at hl 2 rfl) ?_
      refine lv_bipush (v := 6) hx hb dX8_init_46 (by decide) ?_
      refine lv_icmp_ge (tgt := 64) hx hb dX8_init_48 (by decide) (fun c47 => ?_) (fun c47 => ?_)
      · have c47i : (6 : Int) ≤ Int32.toInt y := (i3_le _ _).mp c47
        refine lv_aload_n hx hb dX8_init_64 rfl (lv_at hl 0 rfl) ?_
        refine lv_sipush (v := 200) hx hb dX8_init_65 (by decide) ?_
        refine pg_newq (kd := 15) (t0 := 5) (N' := 200) hx hb hown (hts (.classLink RX8 26 RX6) (by decide +kernel)) hZ.2.2.2.2.2.2.2.2.2.2.2.2.2.2.2 rfl (by decide) hK hW hS hA (by decide) (by decide) (Nat.le_of_ble_eq_true rfl) (Nat.le_of_ble_eq_true rfl) (Nat.le_of_ble_eq_true rfl) dX8_init_68 (fun q48 H hq48 hW hS => ?_)
        have nqq48_hF : 20 ≤ sK S q48 := hF.new hq48
        have nqq48_hE46 : 20 ≤ sK T41 q48 := hE46.new hq48
        obtain ⟨S49, eS49⟩ : ∃ T : St, T = stN L45 q48 15 200 := ⟨_, rfl⟩
        rw [← eS49] at hW
        have hG : Gx (q48 :: h :: ex) S49 := by rw [eS49]; exact hG.N hq48
        have w50 : sI S49 h 10 = 0 := by rw [eS49]; rw [iN, if_neg (fun e9 => by have := (hF.k hk (by decide)); rw [e9] at this; omega)]; exact z10a
        have hF : Fr [h] [1100] S S49 := by rw [eS49]; exact hF.N hq48
        have hE46 : Fr [h] [1100] T41 S49 := by rw [eS49]; exact hE46.N hq48
        have hD : Dn [2, 1, 0] S49 h 8 := by rw [eS49]; exact hD.F ((Fr.rf [] [] _).N hq48) hkh (by decide) List.not_mem_nil
        have hkh : sK S49 h = 8 := hF.k hk (by decide)
        have hE51 : Fr [h] [1100] S49 S49 := Fr.rf _ _ _
        have kq48 : sK S49 q48 = 15 := by rw [eS49, kN, if_pos rfl]
        have nq48 : sL S49 q48 = 200 := by rw [eS49, lNw, if_pos rfl]
        have hG : Gx (h :: ex) S49 := hG.pl kq48 rty_15
        clear eS49
        refine pg_pr (ci := 8) (C := RX8) (T := TX8) (N := 18) hx hb hts wi8 tyX8 tyX8_ok nmX8 hown hK hW hS (hF.k hk (by decide)) (by decide) rfl 3 (by decide) (hts (.fieldLink RX8 28 "IceHall" "sessions" "[LIceHall$Session;") (by decide +kernel)) (fun _ h9 => h9) rfl hnm rfl rfl rfl rfl dX8_init_71 (fun H locs hW hS => ?_)
        have kq53 : sK S49 h = 8 := (hF.k hk (by decide))
        have hbS52 := And.intro kq48 nq48
        obtain ⟨S52, eS52⟩ : ∃ T : St, T = stR S49 h 3 (some q48) := ⟨_, rfl⟩
        rw [← eS52] at hW
        have hD : Dn [3, 2, 1, 0] S52 h 8 := by rw [eS52]; exact hD.R (fun kd n ht => by cases ht; exact hbS52)
        have hG : Gx (h :: ex) S52 := by rw [eS52]; exact hG.Rh List.mem_cons_self kq53 (by decide)
        have hF : Fr [h] [1100] S S52 := by rw [eS52]; exact hF.Rh List.mem_cons_self
        have hE46 : Fr [h] [1100] T41 S52 := by rw [eS52]; exact hE46.Rh List.mem_cons_self
        have hE51 : Fr [h] [1100] S49 S52 := by rw [eS52]; exact hE51.Rh List.mem_cons_self
        have hkh : sK S52 h = 8 := hF.k hk (by decide)
        have w54 : sI S52 h 10 = 0 := by rw [eS52]; exact w50
        clear eS52 hbS52
        clear hE51
        refine lv_aload_n hx hb dX8_init_74 rfl (lv_at hl 0 rfl) ?_
        refine lv_bipush (v := 24) hx hb dX8_init_75 (by decide) ?_
        refine pg_newa (atype := .int) (ty := .int) (kd := 11) (t0 := 1) (N' := 24) hx hb (hts (.arrayClass .int) (by decide +kernel)) rfl rfl (Or.inl rfl) (by decide) hK hW hS hA (fun _ => rfl) (by decide) (by decide) (Nat.le_of_ble_eq_true rfl) (Nat.le_of_ble_eq_true rfl) (Nat.le_of_ble_eq_true rfl) dX8_init_77 (fun q55 H hq55 hW hS => ?_)
        have nqq55_hF : 20 ≤ sK S q55 := hF.new hq55
        have nqq55_hE46 : 20 ≤ sK T41 q55 := hE46.new hq55
        obtain ⟨S56, eS56⟩ : ∃ T : St, T = stN S52 q55 11 24 := ⟨_, rfl⟩
        rw [← eS56] at hW
        have hG : Gx (q55 :: h :: ex) S56 := by rw [eS56]; exact hG.N hq55
        have w57 : sI S56 h 10 = 0 := by rw [eS56]; rw [iN, if_neg (fun e9 => by have := (hF.k hk (by decide)); rw [e9] at this; omega)]; exact w54
        have hF : Fr [h] [1100] S S56 := by rw [eS56]; exact hF.N hq55
        have hE46 : Fr [h] [1100] T41 S56 := by rw [eS56]; exact hE46.N hq55
        have hD : Dn [3, 2, 1, 0] S56 h 8 := by rw [eS56]; exact hD.F ((Fr.rf [] [] _).N hq55) hkh (by decide) List.not_mem_nil
        have hkh : sK S56 h = 8 := hF.k hk (by decide)
        have hE58 : Fr [h] [1100] S56 S56 := Fr.rf _ _ _
        have kq55 : sK S56 q55 = 11 := by rw [eS56, kN, if_pos rfl]
        have nq55 : sL S56 q55 = 24 := by rw [eS56, lNw, if_pos rfl]
        have hG : Gx (h :: ex) S56 := hG.pl kq55 rty_11
        clear eS56
        refine pg_pr (ci := 8) (C := RX8) (T := TX8) (N := 18) hx hb hts wi8 tyX8 tyX8_ok nmX8 hown hK hW hS (hF.k hk (by decide)) (by decide) rfl 4 (by decide) (hts (.fieldLink RX8 32 "IceHall" "prices" "[I") (by decide +kernel)) (fun _ h9 => h9) rfl hnm rfl rfl rfl rfl dX8_init_79 (fun H locs hW hS => ?_)
        have kq60 : sK S56 h = 8 := (hF.k hk (by decide))
        have hbS59 := And.intro kq55 nq55
        obtain ⟨S59, eS59⟩ : ∃ T : St, T = stR S56 h 4 (some q55) := ⟨_, rfl⟩
        rw [← eS59] at hW
        have hD : Dn [4, 3, 2, 1, 0] S59 h 8 := by rw [eS59]; exact hD.R (fun kd n ht => by cases ht; exact hbS59)
        have hG : Gx (h :: ex) S59 := by rw [eS59]; exact hG.Rh List.mem_cons_self kq60 (by decide)
        have hF : Fr [h] [1100] S S59 := by rw [eS59]; exact hF.Rh List.mem_cons_self
        have hE46 : Fr [h] [1100] T41 S59 := by rw [eS59]; exact hE46.Rh List.mem_cons_self
        have hE58 : Fr [h] [1100] S56 S59 := by rw [eS59]; exact hE58.Rh List.mem_cons_self
        have hkh : sK S59 h = 8 := hF.k hk (by decide)
        have w61 : sI S59 h 10 = 0 := by rw [eS59]; exact w57
        clear eS59 hbS59
        clear hE58
        refine lv_iconst (v := 0) hx hb dX8_init_82 (by decide) ?_
        refine lv_istore_n (lv' := [(2, .int 0), (0, .ref h), (1, .ref q36)]) hx hb dX8_init_83 rfl hl (by decide) rfl (fun ls hl => ?_)
        have hE62 : Fr [h] [1100] S59 S59 := Fr.rf _ _ _
        have loop84 : ∀ (zn : Nat) (y : Int32) (L84 : St) (H : Heap) (locs : List Loc) (ls : Array Slot), (Gx (h :: ex) L84) → (Fr [h] [1100] S59 L84) → (Dn [4, 3, 2, 1, 0] L84 h 8) → (0 ≤ y.toInt) → (sI L84 h 10 = 0) → (24 - y.toInt).toNat < zn → PW D cy A L84 H → va_S A s.heap H locs → lv_has ls 3 [(0, .ref h), (1, .ref q36), (2, .int y)] → W p l e ({ frames := 3, cells := 27, slots := 764, locals := 100 } : Room) s m args below meth c H locs 14 388 (MQ below (va_Qv (fun S1 => Gx ex S1 ∧ Fr [h] [1100] S S1 ∧ (sI S1 h 10 = 0 ∧ sI S1 h 13 = 3 ∧ ∃ t, sR S1 h 5 = some t ∧ sK S1 t = 7 ∧ sI S1 t 1 = 0)) (PU D cy A) A) args s 27 764 A) (F0 m 84 ls []) := by
          intro zn
          induction zn with
          | zero => intros; exact absurd (by assumption) (Nat.not_lt_zero _)
          | succ zn ih84 =>
            intro y L84 H locs ls hG hL84 hD hy0 z10b hme84 hW hS hl
            have hF : Fr [h] [1100] S L84 := hF.tr hL84
            have hE46 : Fr [h] [1100] T41 L84 := hE46.tr hL84
            have hE62 := hL84
            have hkh : sK L84 h = 8 := hF.k hk (by decide)
            refine lv_iload_n hx hb dX8_init_84 rfl (lv_at hl 2 rfl) ?_
            refine lv_bipush (v := 24) hx hb dX8_init_85 (by decide) ?_
            refine lv_icmp_ge (tgt := 104) hx hb dX8_init_87 (by decide) (fun c63 => ?_) (fun c63 => ?_)
            · have c63i : (24 : Int) ≤ Int32.toInt y := (i3_le _ _).mp c63
              refine lv_aload_n hx hb dX8_init_104 rfl (lv_at hl 0 rfl) ?_
              refine pg_new (ci := 7) (C := RX7) (T := TX7) (N := 2) hx hb hts wi7 tyX7 tyX7_ok hown (hts (.classLink RX8 36 RX7) (by decide +kernel)) (hts (.instantiable RX7 2) (by decide +kernel)) (hts (.initialized RX7) (by decide +kernel)) hK hW hS hA (by decide) rfl df_7 (Nat.le_of_ble_eq_true rfl) (Nat.le_of_ble_eq_true rfl) dX8_init_105 (fun q64 H hq64 hW hS => ?_)
              have nqq64_hF : 20 ≤ sK S q64 := hF.new hq64
              have nqq64_hE46 : 20 ≤ sK T41 q64 := hE46.new hq64
              have nqq64_hE62 : 20 ≤ sK S59 q64 := hE62.new hq64
              obtain ⟨S65, eS65⟩ : ∃ T : St, T = stN L84 q64 7 0 := ⟨_, rfl⟩
              rw [← eS65] at hW
              have hG : Gx (q64 :: h :: ex) S65 := by rw [eS65]; exact hG.N hq64
              have w66 : sI S65 h 10 = 0 := by rw [eS65]; rw [iN, if_neg (fun e9 => by have := (hF.k hk (by decide)); rw [e9] at this; omega)]; exact z10b
              have hF : Fr [h] [1100] S S65 := by rw [eS65]; exact hF.N hq64
              have hE46 : Fr [h] [1100] T41 S65 := by rw [eS65]; exact hE46.N hq64
              have hE62 : Fr [h] [1100] S59 S65 := by rw [eS65]; exact hE62.N hq64
              have hD : Dn [4, 3, 2, 1, 0] S65 h 8 := by rw [eS65]; exact hD.F ((Fr.rf [] [] _).N hq64) hkh (by decide) List.not_mem_nil
              have hkh : sK S65 h = 8 := hF.k hk (by decide)
              have hE67 : Fr [h] [1100] S65 S65 := Fr.rf _ _ _
              have kq64 : sK S65 q64 = 7 := by rw [eS65, kN, if_pos rfl]
              have nq64 : sL S65 q64 = 0 := by rw [eS65, lNw, if_pos rfl]
              clear eS65
              refine lv_dup hx hb dX8_init_108 rfl ?_
              refine pc_INv (As := []) (rest := [.ref q64, .ref h]) F (b_X7_init l D cy A S65 (h :: ex) q64 hG kq64) ⟨va_cnB 0 hts gX8_init_X7_init_n38 rfl rfl rfl hZ.2.2.2.2.2.1 (hts (.initialized RX7) (by decide +kernel)) (by decide +kernel) ⟨Nat.le_of_ble_eq_true rfl, Nat.le_of_ble_eq_true rfl⟩, rfl, hts (.instanceMethod yX7_init) (by decide +kernel)⟩ hK hZ hA hW hS rfl hl.1 rfl (Nat.le_of_ble_eq_true rfl) dX8_init_109 ⟨Nat.le_of_ble_eq_true rfl, Nat.le_of_ble_eq_true rfl⟩ (fun T69 H locs p70 hW hS => ?_)
              obtain ⟨hG, hFc, p70⟩ := p70
              have hD : Dn [4, 3, 2, 1, 0] T69 h 8 := hD.F hFc hkh (by decide) (ni_c (ap_k hk nqq64_hF (by decide)) ni_0)
              have hkh : sK T69 h = 8 := hFc.k hkh (by decide)
              have k71 : sK T69 q64 = 7 := hFc.k kq64 (by decide)
              have n72 : sL T69 q64 = 0 := hFc.n kq64 (by decide) nq64
              have w73 : sI T69 h 10 = 0 := (hFc.ix (ni_c (ap_k hk nqq64_hF (by decide)) ni_0) (hF.k hk (by decide)) (by decide) (by decide)).trans w66
              have hF : Fr [h] [1100] S T69 := hF.trN (hFc.mono (by decide)) nqq64_hF
              have hE46 : Fr [h] [1100] T41 T69 := hE46.trN (hFc.mono (by decide)) nqq64_hE46
              have hE62 : Fr [h] [1100] S59 T69 := hE62.trN (hFc.mono (by decide)) nqq64_hE62
              have w74 : sI T69 q64 1 = 0 := p70
              have hE75 : Fr [h] [1100] T69 T69 := Fr.rf _ _ _
              refine pg_pr (ci := 8) (C := RX8) (T := TX8) (N := 18) hx hb hts wi8 tyX8 tyX8_ok nmX8 hown hK hW hS (hF.k hk (by decide)) (by decide) rfl 5 (by decide) (hts (.fieldLink RX8 39 "IceHall" "tape" "LIceHall$Tape;") (by decide +kernel)) (fun _ h9 => h9) rfl hnm rfl rfl rfl rfl dX8_init_112 (fun H locs hW hS => ?_)
              have kq77 : sK T69 h = 8 := (hF.k hk (by decide))
              have hbS76 := And.intro k71 n72
              obtain ⟨S76, eS76⟩ : ∃ T : St, T = stR T69 h 5 (some q64) := ⟨_, rfl⟩
              rw [← eS76] at hW
              have hD : Dn [5, 4, 3, 2, 1, 0] S76 h 8 := by rw [eS76]; exact hD.R (fun kd n ht => by cases ht; exact hbS76)
              have hG : Gx (h :: ex) S76 := by rw [eS76]; exact hG.Rh List.mem_cons_self kq77 (by decide)
              have hF : Fr [h] [1100] S S76 := by rw [eS76]; exact hF.Rh List.mem_cons_self
              have hE46 : Fr [h] [1100] T41 S76 := by rw [eS76]; exact hE46.Rh List.mem_cons_self
              have hE62 : Fr [h] [1100] S59 S76 := by rw [eS76]; exact hE62.Rh List.mem_cons_self
              have hE75 : Fr [h] [1100] T69 S76 := by rw [eS76]; exact hE75.Rh List.mem_cons_self
              have hkh : sK S76 h = 8 := hF.k hk (by decide)
              have w78 : sI S76 h 10 = 0 := by rw [eS76]; exact w73
              have w79 : sI S76 q64 1 = 0 := by rw [eS76]; exact w74
              have r80 : sR S76 h 5 = some q64 := by rw [eS76, rR, if_pos rfl, if_pos rfl]
              clear eS76 hbS76
              refine lv_aload_n hx hb dX8_init_115 rfl (lv_at hl 0 rfl) ?_
              refine pg_new (ci := 5) (C := RX5) (T := TX5) (N := 4) hx hb hts wi5 tyX5 tyX5_ok hown (hts (.classLink RX8 43 RX5) (by decide +kernel)) (hts (.instantiable RX5 4) (by decide +kernel)) (hts (.initialized RX5) (by decide +kernel)) hK hW hS hA (by decide) rfl df_5 (Nat.le_of_ble_eq_true rfl) (Nat.le_of_ble_eq_true rfl) dX8_init_116 (fun q81 H hq81 hW hS => ?_)
              have nqq81_hF : 20 ≤ sK S q81 := hF.new hq81
              have nqq81_hE46 : 20 ≤ sK T41 q81 := hE46.new hq81
              have nqq81_hE62 : 20 ≤ sK S59 q81 := hE62.new hq81
              have nqq81_hE75 : 20 ≤ sK T69 q81 := hE75.new hq81
              obtain ⟨S82, eS82⟩ : ∃ T : St, T = stN S76 q81 5 0 := ⟨_, rfl⟩
              rw [← eS82] at hW
              have hG : Gx (q81 :: h :: ex) S82 := by rw [eS82]; exact hG.N hq81
              have w83 : sI S82 h 10 = 0 := by rw [eS82]; rw [iN, if_neg (fun e9 => by have := (hF.k hk (by decide)); rw [e9] at this; omega)]; exact w78
              have w84 : sI S82 q64 1 = 0 := by rw [eS82]; rw [iN, if_neg (fun e9 => by have := (hE75.k k71 (by decide)); rw [e9] at this; omega)]; exact w79
              have r85 : sR S82 h 5 = some q64 := by rw [eS82]; rw [rN, if_neg (fun e9 => by have e8 := hkh; rw [e9] at e8; omega)]; exact r80
              have hF : Fr [h] [1100] S S82 := by rw [eS82]; exact hF.N hq81
              have hE46 : Fr [h] [1100] T41 S82 := by rw [eS82]; exact hE46.N hq81
              have hE62 : Fr [h] [1100] S59 S82 := by rw [eS82]; exact hE62.N hq81
              have hE75 : Fr [h] [1100] T69 S82 := by rw [eS82]; exact hE75.N hq81
              have hD : Dn [5, 4, 3, 2, 1, 0] S82 h 8 := by rw [eS82]; exact hD.F ((Fr.rf [] [] _).N hq81) hkh (by decide) List.not_mem_nil
              have hkh : sK S82 h = 8 := hF.k hk (by decide)
              have hE86 : Fr [h] [1100] S82 S82 := Fr.rf _ _ _
              have kq81 : sK S82 q81 = 5 := by rw [eS82, kN, if_pos rfl]
              have nq81 : sL S82 q81 = 0 := by rw [eS82, lNw, if_pos rfl]
              clear eS82
              refine lv_dup hx hb dX8_init_119 rfl ?_
              refine lv_aload_n hx hb dX8_init_120 rfl (lv_at hl 0 rfl) ?_
              obtain ⟨b87, rb87, kb87, nb87⟩ := hD 5 (by decide) 7 0 rfl
              refine pg_gr (b := b87) (ci := 8) (C := RX8) (T := TX8) (N := 18) hx hb hts wi8 hown hK hW (hF.k hk (by decide)) (by decide) rfl 5 (by decide) (hts (.fieldLink RX8 39 "IceHall" "tape" "LIceHall$Tape;") (by decide +kernel)) (fun _ h9 => h9) rfl rb87 dX8_init_121 ?_
              refine pc_Iv (As := [.ref b87]) (rest := [.ref q81, .ref h]) F (b_X5_init l D cy A S82 (h :: ex) q81 b87 hG kq81 kb87 nb87) (cwI 1 hts gX8_init_X5_init rfl rfl rfl (hts (.initialized RX5) (by decide +kernel)) (hts (.methodLink RX8 45 yX5_init) (by decide +kernel)) (hts (.instanceMethod yX5_init) (by decide +kernel)) rfl (by decide +kernel) ⟨Nat.le_of_ble_eq_true rfl, Nat.le_of_ble_eq_true rfl⟩) hK hZ hA hW hS rfl hl.1 rfl (Nat.le_of_ble_eq_true rfl) dX8_init_124 ⟨Nat.le_of_ble_eq_true rfl, Nat.le_of_ble_eq_true rfl⟩ (fun T89 H locs p90 hW hS => ?_)
              obtain ⟨hG, hFc, p90⟩ := p90
              have hD : Dn [5, 4, 3, 2, 1, 0] T89 h 8 := hD.F hFc hkh (by decide) (ni_c (ap_k hk nqq81_hF (by decide)) ni_0)
              have hkh : sK T89 h = 8 := hFc.k hkh (by decide)
              have k91 : sK T89 q81 = 5 := hFc.k kq81 (by decide)
              have n92 : sL T89 q81 = 0 := hFc.n kq81 (by decide) nq81
              have k93 : sK T89 b87 = 7 := hFc.k kb87 (by decide)
              have n94 : sL T89 b87 = 0 := hFc.n kb87 (by decide) nb87
              have w95 : sI T89 h 10 = 0 := (hFc.ix (ni_c (ap_k hk nqq81_hF (by decide)) ni_0) (hF.k hk (by decide)) (by decide) (by decide)).trans w83
              have w96 : sI T89 q64 1 = 0 := (hFc.ix (ni_c (fk_ne (hE75.k k71 (by decide)) kq81 (by decide)) ni_0) (hE75.k k71 (by decide)) (by decide) (by decide)).trans w84
              have r97 : sR T89 h 5 = some q64 := hFc.rx (ni_c (ap_k hk nqq81_hF (by decide)) ni_0) (hF.k hk (by decide)) (by decide) r85
              have hF : Fr [h] [1100] S T89 := hF.trN (hFc.mono (by decide)) nqq81_hF
              have hE46 : Fr [h] [1100] T41 T89 := hE46.trN (hFc.mono (by decide)) nqq81_hE46
              have hE62 : Fr [h] [1100] S59 T89 := hE62.trN (hFc.mono (by decide)) nqq81_hE62
              have hE75 : Fr [h] [1100] T69 T89 := hE75.trN (hFc.mono (by decide)) nqq81_hE75
              have hE98 : Fr [h] [1100] T89 T89 := Fr.rf _ _ _
              refine pg_pr (ci := 8) (C := RX8) (T := TX8) (N := 18) hx hb hts wi8 tyX8 tyX8_ok nmX8 hown hK hW hS (hF.k hk (by decide)) (by decide) rfl 6 (by decide) (hts (.fieldLink RX8 48 "IceHall" "reader" "LIceHall$RightsReader;") (by decide +kernel)) (fun _ h9 => h9) rfl hnm rfl rfl rfl rfl dX8_init_127 (fun H locs hW hS => ?_)
              have kq100 : sK T89 h = 8 := (hF.k hk (by decide))
              have hbS99 := And.intro k91 n92
              obtain ⟨S99, eS99⟩ : ∃ T : St, T = stR T89 h 6 (some q81) := ⟨_, rfl⟩
              rw [← eS99] at hW
              have hD : Dn [6, 5, 4, 3, 2, 1, 0] S99 h 8 := by rw [eS99]; exact hD.R (fun kd n ht => by cases ht; exact hbS99)
              have hG : Gx (h :: ex) S99 := by rw [eS99]; exact hG.Rh List.mem_cons_self kq100 (by decide)
              have hF : Fr [h] [1100] S S99 := by rw [eS99]; exact hF.Rh List.mem_cons_self
              have hE46 : Fr [h] [1100] T41 S99 := by rw [eS99]; exact hE46.Rh List.mem_cons_self
              have hE62 : Fr [h] [1100] S59 S99 := by rw [eS99]; exact hE62.Rh List.mem_cons_self
              have hE75 : Fr [h] [1100] T69 S99 := by rw [eS99]; exact hE75.Rh List.mem_cons_self
              have hE98 : Fr [h] [1100] T89 S99 := by rw [eS99]; exact hE98.Rh List.mem_cons_self
              have hkh : sK S99 h = 8 := hF.k hk (by decide)
              have w101 : sI S99 h 10 = 0 := by rw [eS99]; exact w95
              have w102 : sI S99 q64 1 = 0 := by rw [eS99]; exact w96
              have r103 : sR S99 h 5 = some q64 := by rw [eS99, rR, if_pos rfl, if_neg (by decide)]; exact r97
              clear eS99 hbS99
              clear hE98
              refine lv_aload_n hx hb dX8_init_130 rfl (lv_at hl 0 rfl) ?_
              refine pg_new (ci := 2) (C := RX2) (T := TX2) (N := 10) hx hb hts wi2 tyX2 tyX2_ok hown (hts (.classLink RX8 52 RX2) (by decide +kernel)) (hts (.instantiable RX2 10) (by decide +kernel)) (hts (.initialized RX2) (by decide +kernel)) hK hW hS hA (by decide) rfl df_2 (Nat.le_of_ble_eq_true rfl) (Nat.le_of_ble_eq_true rfl) dX8_init_131 (fun q104 H hq104 hW hS => ?_)
              have nqq104_hF : 20 ≤ sK S q104 := hF.new hq104
              have nqq104_hE46 : 20 ≤ sK T41 q104 := hE46.new hq104
              have nqq104_hE62 : 20 ≤ sK S59 q104 := hE62.new hq104
              have nqq104_hE75 : 20 ≤ sK T69 q104 := hE75.new hq104
              obtain ⟨S105, eS105⟩ : ∃ T : St, T = stN S99 q104 2 0 := ⟨_, rfl⟩
              rw [← eS105] at hW
              have hG : Gx (q104 :: h :: ex) S105 := by rw [eS105]; exact hG.N hq104
              have w106 : sI S105 h 10 = 0 := by rw [eS105]; rw [iN, if_neg (fun e9 => by have := (hF.k hk (by decide)); rw [e9] at this; omega)]; exact w101
              have w107 : sI S105 q64 1 = 0 := by rw [eS105]; rw [iN, if_neg (fun e9 => by have := (hE75.k k71 (by decide)); rw [e9] at this; omega)]; exact w102
              have r108 : sR S105 h 5 = some q64 := by rw [eS105]; rw [rN, if_neg (fun e9 => by have e8 := hkh; rw [e9] at e8; omega)]; exact r103
              have hF : Fr [h] [1100] S S105 := by rw [eS105]; exact hF.N hq104
              have hE46 : Fr [h] [1100] T41 S105 := by rw [eS105]; exact hE46.N hq104
              have hE62 : Fr [h] [1100] S59 S105 := by rw [eS105]; exact hE62.N hq104
              have hE75 : Fr [h] [1100] T69 S105 := by rw [eS105]; exact hE75.N hq104
              have hD : Dn [6, 5, 4, 3, 2, 1, 0] S105 h 8 := by rw [eS105]; exact hD.F ((Fr.rf [] [] _).N hq104) hkh (by decide) List.not_mem_nil
              have hkh : sK S105 h = 8 := hF.k hk (by decide)
              have hE109 : Fr [h] [1100] S105 S105 := Fr.rf _ _ _
              have kq104 : sK S105 q104 = 2 := by rw [eS105, kN, if_pos rfl]
              have nq104 : sL S105 q104 = 0 := by rw [eS105, lNw, if_pos rfl]
              clear eS105
              refine lv_dup hx hb dX8_init_134 rfl ?_
              refine lv_aload_n hx hb dX8_init_135 rfl (lv_at hl 0 rfl) ?_
              obtain ⟨b110, rb110, kb110, nb110⟩ := hD 0 (by decide) 1 0 rfl
              refine pg_gr (b := b110) (ci := 8) (C := RX8) (T := TX8) (N := 18) hx hb hts wi8 hown hK hW (hF.k hk (by decide)) (by decide) rfl 0 (by decide) (hts (.fieldLink RX8 10 "IceHall" "firstIce" "LIceHall$Ice;") (by decide +kernel)) (fun _ h9 => h9) rfl rb110 dX8_init_136 ?_
              refine lv_aload_n hx hb dX8_init_139 rfl (lv_at hl 0 rfl) ?_
              obtain ⟨b111, rb111, kb111, nb111⟩ := hD 1 (by decide) 1 0 rfl
              refine pg_gr (b := b111) (ci := 8) (C := RX8) (T := TX8) (N := 18) hx hb hts wi8 hown hK hW (hF.k hk (by decide)) (by decide) rfl 1 (by decide) (hts (.fieldLink RX8 16 "IceHall" "secondIce" "LIceHall$Ice;") (by decide +kernel)) (fun _ h9 => h9) rfl rb111 dX8_init_140 ?_
              refine pc_Iv (As := [.ref b110, .ref b111]) (rest := [.ref q104, .ref h]) F (b_X2_init l D cy A S105 (h :: ex) q104 b110 b111 hG kq104 kb110 kb111 nb110 nb111) (cwI 2 hts gX8_init_X2_init rfl rfl rfl (hts (.initialized RX2) (by decide +kernel)) (hts (.methodLink RX8 54 yX2_init) (by decide +kernel)) (hts (.instanceMethod yX2_init) (by decide +kernel)) rfl (by decide +kernel) ⟨Nat.le_of_ble_eq_true rfl, Nat.le_of_ble_eq_true rfl⟩) hK hZ hA hW hS rfl hl.1 rfl (Nat.le_of_ble_eq_true rfl) dX8_init_143 ⟨Nat.le_of_ble_eq_true rfl, Nat.le_of_ble_eq_true rfl⟩ (fun T113 H locs p114 hW hS => ?_)
              obtain ⟨hG, hFc, p114⟩ := p114
              have hD : Dn [6, 5, 4, 3, 2, 1, 0] T113 h 8 := hD.F hFc hkh (by decide) (ni_c (ap_k hk nqq104_hF (by decide)) ni_0)
              have hkh : sK T113 h = 8 := hFc.k hkh (by decide)
              have k115 : sK T113 q104 = 2 := hFc.k kq104 (by decide)
              have n116 : sL T113 q104 = 0 := hFc.n kq104 (by decide) nq104
              have k117 : sK T113 b110 = 1 := hFc.k kb110 (by decide)
              have n118 : sL T113 b110 = 0 := hFc.n kb110 (by decide) nb110
              have k119 : sK T113 b111 = 1 := hFc.k kb111 (by decide)
              have n120 : sL T113 b111 = 0 := hFc.n kb111 (by decide) nb111
              have w121 : sI T113 h 10 = 0 := (hFc.ix (ni_c (ap_k hk nqq104_hF (by decide)) ni_0) (hF.k hk (by decide)) (by decide) (by decide)).trans w106
              have w122 : sI T113 q64 1 = 0 := (hFc.ix (ni_c (fk_ne (hE75.k k71 (by decide)) kq104 (by decide)) ni_0) (hE75.k k71 (by decide)) (by decide) (by decide)).trans w107
              have r123 : sR T113 h 5 = some q64 := hFc.rx (ni_c (ap_k hk nqq104_hF (by decide)) ni_0) (hF.k hk (by decide)) (by decide) r108
              have hF : Fr [h] [1100] S T113 := hF.trN (hFc.mono (by decide)) nqq104_hF
              have hE46 : Fr [h] [1100] T41 T113 := hE46.trN (hFc.mono (by decide)) nqq104_hE46
              have hE62 : Fr [h] [1100] S59 T113 := hE62.trN (hFc.mono (by decide)) nqq104_hE62
              have hE75 : Fr [h] [1100] T69 T113 := hE75.trN (hFc.mono (by decide)) nqq104_hE75
              have hE124 : Fr [h] [1100] T113 T113 := Fr.rf _ _ _
              refine pg_pr (ci := 8) (C := RX8) (T := TX8) (N := 18) hx hb hts wi8 tyX8 tyX8_ok nmX8 hown hK hW hS (hF.k hk (by decide)) (by decide) rfl 7 (by decide) (hts (.fieldLink RX8 57 "IceHall" "mover" "LIceHall$Mover;") (by decide +kernel)) (fun _ h9 => h9) rfl hnm rfl rfl rfl rfl dX8_init_146 (fun H locs hW hS => ?_)
              have kq126 : sK T113 h = 8 := (hF.k hk (by decide))
              have hbS125 := And.intro k115 n116
              obtain ⟨S125, eS125⟩ : ∃ T : St, T = stR T113 h 7 (some q104) := ⟨_, rfl⟩
              rw [← eS125] at hW
              have hD : Dn [7, 6, 5, 4, 3, 2, 1, 0] S125 h 8 := by rw [eS125]; exact hD.R (fun kd n ht => by cases ht; exact hbS125)
              have hG : Gx (h :: ex) S125 := by rw [eS125]; exact hG.Rh List.mem_cons_self kq126 (by decide)
              have hF : Fr [h] [1100] S S125 := by rw [eS125]; exact hF.Rh List.mem_cons_self
              have hE46 : Fr [h] [1100] T41 S125 := by rw [eS125]; exact hE46.Rh List.mem_cons_self
              have hE62 : Fr [h] [1100] S59 S125 := by rw [eS125]; exact hE62.Rh List.mem_cons_self
              have hE75 : Fr [h] [1100] T69 S125 := by rw [eS125]; exact hE75.Rh List.mem_cons_self
              have hE124 : Fr [h] [1100] T113 S125 := by rw [eS125]; exact hE124.Rh List.mem_cons_self
              have hkh : sK S125 h = 8 := hF.k hk (by decide)
              have w127 : sI S125 h 10 = 0 := by rw [eS125]; exact w121
              have w128 : sI S125 q64 1 = 0 := by rw [eS125]; exact w122
              have r129 : sR S125 h 5 = some q64 := by rw [eS125, rR, if_pos rfl, if_neg (by decide)]; exact r123
              clear eS125 hbS125
              clear hE124
              refine lv_aload_n hx hb dX8_init_149 rfl (lv_at hl 0 rfl) ?_
              refine pg_new (ci := 3) (C := RX3) (T := TX3) (N := 9) hx hb hts wi3 tyX3 tyX3_ok hown (hts (.classLink RX8 61 RX3) (by decide +kernel)) (hts (.instantiable RX3 9) (by decide +kernel)) (hts (.initialized RX3) (by decide +kernel)) hK hW hS hA (by decide) rfl df_3 (Nat.le_of_ble_eq_true rfl) (Nat.le_of_ble_eq_true rfl) dX8_init_150 (fun q130 H hq130 hW hS => ?_)
              have nqq130_hF : 20 ≤ sK S q130 := hF.new hq130
              have nqq130_hE46 : 20 ≤ sK T41 q130 := hE46.new hq130
              have nqq130_hE62 : 20 ≤ sK S59 q130 := hE62.new hq130
              have nqq130_hE75 : 20 ≤ sK T69 q130 := hE75.new hq130
              obtain ⟨S131, eS131⟩ : ∃ T : St, T = stN S125 q130 3 0 := ⟨_, rfl⟩
              rw [← eS131] at hW
              have hG : Gx (q130 :: h :: ex) S131 := by rw [eS131]; exact hG.N hq130
              have w132 : sI S131 h 10 = 0 := by rw [eS131]; rw [iN, if_neg (fun e9 => by have := (hF.k hk (by decide)); rw [e9] at this; omega)]; exact w127
              have w133 : sI S131 q64 1 = 0 := by rw [eS131]; rw [iN, if_neg (fun e9 => by have := (hE75.k k71 (by decide)); rw [e9] at this; omega)]; exact w128
              have r134 : sR S131 h 5 = some q64 := by rw [eS131]; rw [rN, if_neg (fun e9 => by have e8 := hkh; rw [e9] at e8; omega)]; exact r129
              have hF : Fr [h] [1100] S S131 := by rw [eS131]; exact hF.N hq130
              have hE46 : Fr [h] [1100] T41 S131 := by rw [eS131]; exact hE46.N hq130
              have hE62 : Fr [h] [1100] S59 S131 := by rw [eS131]; exact hE62.N hq130
              have hE75 : Fr [h] [1100] T69 S131 := by rw [eS131]; exact hE75.N hq130
              have hD : Dn [7, 6, 5, 4, 3, 2, 1, 0] S131 h 8 := by rw [eS131]; exact hD.F ((Fr.rf [] [] _).N hq130) hkh (by decide) List.not_mem_nil
              have hkh : sK S131 h = 8 := hF.k hk (by decide)
              have hE135 : Fr [h] [1100] S131 S131 := Fr.rf _ _ _
              have kq130 : sK S131 q130 = 3 := by rw [eS131, kN, if_pos rfl]
              have nq130 : sL S131 q130 = 0 := by rw [eS131, lNw, if_pos rfl]
              clear eS131
              refine lv_dup hx hb dX8_init_153 rfl ?_
              refine pc_INv (As := []) (rest := [.ref q130, .ref h]) F (b_X3_init l D cy A S131 (h :: ex) q130 hG kq130) ⟨va_cnB 0 hts gX8_init_X3_init_n63 rfl rfl rfl hZ.2.2.2.2.2.2.1 (hts (.initialized RX3) (by decide +kernel)) (by decide +kernel) ⟨Nat.le_of_ble_eq_true rfl, Nat.le_of_ble_eq_true rfl⟩, rfl, hts (.instanceMethod yX3_init) (by decide +kernel)⟩ hK hZ hA hW hS rfl hl.1 rfl (Nat.le_of_ble_eq_true rfl) dX8_init_154 ⟨Nat.le_of_ble_eq_true rfl, Nat.le_of_ble_eq_true rfl⟩ (fun T137 H locs p138 hW hS => ?_)
              obtain ⟨hG, hFc, p138⟩ := p138
              have hD : Dn [7, 6, 5, 4, 3, 2, 1, 0] T137 h 8 := hD.F hFc hkh (by decide) (ni_c (ap_k hk nqq130_hF (by decide)) ni_0)
              have hkh : sK T137 h = 8 := hFc.k hkh (by decide)
              have k139 : sK T137 q130 = 3 := hFc.k kq130 (by decide)
              have n140 : sL T137 q130 = 0 := hFc.n kq130 (by decide) nq130
              have w141 : sI T137 h 10 = 0 := (hFc.ix (ni_c (ap_k hk nqq130_hF (by decide)) ni_0) (hF.k hk (by decide)) (by decide) (by decide)).trans w132
              have w142 : sI T137 q64 1 = 0 := (hFc.ix (ni_c (fk_ne (hE75.k k71 (by decide)) kq130 (by decide)) ni_0) (hE75.k k71 (by decide)) (by decide) (by decide)).trans w133
              have r143 : sR T137 h 5 = some q64 := hFc.rx (ni_c (ap_k hk nqq130_hF (by decide)) ni_0) (hF.k hk (by decide)) (by decide) r134
              have hF : Fr [h] [1100] S T137 := hF.trN (hFc.mono (by decide)) nqq130_hF
              have hE46 : Fr [h] [1100] T41 T137 := hE46.trN (hFc.mono (by decide)) nqq130_hE46
              have hE62 : Fr [h] [1100] S59 T137 := hE62.trN (hFc.mono (by decide)) nqq130_hE62
              have hE75 : Fr [h] [1100] T69 T137 := hE75.trN (hFc.mono (by decide)) nqq130_hE75
              have hE144 : Fr [h] [1100] T137 T137 := Fr.rf _ _ _
              refine pg_pr (ci := 8) (C := RX8) (T := TX8) (N := 18) hx hb hts wi8 tyX8 tyX8_ok nmX8 hown hK hW hS (hF.k hk (by decide)) (by decide) rfl 8 (by decide) (hts (.fieldLink RX8 64 "IceHall" "planner" "LIceHall$Planner;") (by decide +kernel)) (fun _ h9 => h9) rfl hnm rfl rfl rfl rfl dX8_init_157 (fun H locs hW hS => ?_)
              have kq146 : sK T137 h = 8 := (hF.k hk (by decide))
              have hbS145 := And.intro k139 n140
              obtain ⟨S145, eS145⟩ : ∃ T : St, T = stR T137 h 8 (some q130) := ⟨_, rfl⟩
              rw [← eS145] at hW
              have hD : Dn [8, 7, 6, 5, 4, 3, 2, 1, 0] S145 h 8 := by rw [eS145]; exact hD.R (fun kd n ht => by cases ht; exact hbS145)
              have hG : Gx (h :: ex) S145 := by rw [eS145]; exact hG.Rh List.mem_cons_self kq146 (by decide)
              have hF : Fr [h] [1100] S S145 := by rw [eS145]; exact hF.Rh List.mem_cons_self
              have hE46 : Fr [h] [1100] T41 S145 := by rw [eS145]; exact hE46.Rh List.mem_cons_self
              have hE62 : Fr [h] [1100] S59 S145 := by rw [eS145]; exact hE62.Rh List.mem_cons_self
              have hE75 : Fr [h] [1100] T69 S145 := by rw [eS145]; exact hE75.Rh List.mem_cons_self
              have hE144 : Fr [h] [1100] T137 S145 := by rw [eS145]; exact hE144.Rh List.mem_cons_self
              have hkh : sK S145 h = 8 := hF.k hk (by decide)
              have w147 : sI S145 h 10 = 0 := by rw [eS145]; exact w141
              have w148 : sI S145 q64 1 = 0 := by rw [eS145]; exact w142
              have r149 : sR S145 h 5 = some q64 := by rw [eS145, rR, if_pos rfl, if_neg (by decide)]; exact r143
              clear eS145 hbS145
              clear hE144
              refine lv_aload_n hx hb dX8_init_160 rfl (lv_at hl 0 rfl) ?_
              refine lv_sipush (v := 200) hx hb dX8_init_161 (by decide) ?_
              refine pg_pi (ci := 8) (C := RX8) (T := TX8) (N := 18) hx hb hts wi8 tyX8 tyX8_ok nmX8 hown hK hW hS (hF.k hk (by decide)) (by decide) rfl 11 (by decide) (hts (.fieldLink RX8 68 "IceHall" "store" "I") (by decide +kernel)) (fun _ h9 => h9) rfl rfl rfl dX8_init_164 (fun H locs hW hS => ?_)
              have kq150 : sK S145 h = 8 := (hF.k hk (by decide))
              obtain ⟨S151, eS151⟩ : ∃ T : St, T = stI S145 h 11 200 := ⟨_, rfl⟩
              rw [← eS151] at hW
              have hG : Gx (h :: ex) S151 := by rw [eS151]; exact hG.I kq150 (ok_fr (by decide))
              have w152 : sI S151 h 10 = 0 := by rw [eS151]; exact (iI_k (by decide)).trans w147
              have w153 : sI S151 q64 1 = 0 := by rw [eS151]; exact (iI_a (fk_ne (hE75.k k71 (by decide)) kq150 (by decide))).trans w148
              have r154 : sR S151 h 5 = some q64 := by rw [eS151]; exact r149
              have hF : Fr [h] [1100] S S151 := by rw [eS151]; exact hF.Ih List.mem_cons_self
              have hE46 : Fr [h] [1100] T41 S151 := by rw [eS151]; exact hE46.Ih List.mem_cons_self
              have hE62 : Fr [h] [1100] S59 S151 := by rw [eS151]; exact hE62.Ih List.mem_cons_self
              have hE75 : Fr [h] [1100] T69 S151 := by rw [eS151]; exact hE75.Ih List.mem_cons_self
              have hD : Dn [8, 7, 6, 5, 4, 3, 2, 1, 0] S151 h 8 := by rw [eS151]; exact hD
              have hkh : sK S151 h = 8 := hF.k hk (by decide)
              clear eS151
              refine lv_aload_n hx hb dX8_init_167 rfl (lv_at hl 0 rfl) ?_
              refine lv_sipush (v := 400) hx hb dX8_init_168 (by decide) ?_
              refine pg_pi (ci := 8) (C := RX8) (T := TX8) (N := 18) hx hb hts wi8 tyX8 tyX8_ok nmX8 hown hK hW hS (hF.k hk (by decide)) (by decide) rfl 12 (by decide) (hts (.fieldLink RX8 72 "IceHall" "storeMost" "I") (by decide +kernel)) (fun _ h9 => h9) rfl rfl rfl dX8_init_171 (fun H locs hW hS => ?_)
              have kq155 : sK S151 h = 8 := (hF.k hk (by decide))
              obtain ⟨S156, eS156⟩ : ∃ T : St, T = stI S151 h 12 400 := ⟨_, rfl⟩
              rw [← eS156] at hW
              have hG : Gx (h :: ex) S156 := by rw [eS156]; exact hG.I kq155 (ok_fr (by decide))
              have w157 : sI S156 h 10 = 0 := by rw [eS156]; exact (iI_k (by decide)).trans w152
              have w158 : sI S156 q64 1 = 0 := by rw [eS156]; exact (iI_a (fk_ne (hE75.k k71 (by decide)) kq155 (by decide))).trans w153
              have r159 : sR S156 h 5 = some q64 := by rw [eS156]; exact r154
              have hF : Fr [h] [1100] S S156 := by rw [eS156]; exact hF.Ih List.mem_cons_self
              have hE46 : Fr [h] [1100] T41 S156 := by rw [eS156]; exact hE46.Ih List.mem_cons_self
              have hE62 : Fr [h] [1100] S59 S156 := by rw [eS156]; exact hE62.Ih List.mem_cons_self
              have hE75 : Fr [h] [1100] T69 S156 := by rw [eS156]; exact hE75.Ih List.mem_cons_self
              have hD : Dn [8, 7, 6, 5, 4, 3, 2, 1, 0] S156 h 8 := by rw [eS156]; exact hD
              have hkh : sK S156 h = 8 := hF.k hk (by decide)
              clear eS156
              refine lv_aload_n hx hb dX8_init_174 rfl (lv_at hl 0 rfl) ?_
              refine lv_iconst (v := 3) hx hb dX8_init_175 (by decide) ?_
              refine pg_pi (ci := 8) (C := RX8) (T := TX8) (N := 18) hx hb hts wi8 tyX8 tyX8_ok nmX8 hown hK hW hS (hF.k hk (by decide)) (by decide) rfl 13 (by decide) (hts (.fieldLink RX8 75 "IceHall" "working" "I") (by decide +kernel)) (fun _ h9 => h9) rfl rfl rfl dX8_init_176 (fun H locs hW hS => ?_)
              have kq160 : sK S156 h = 8 := (hF.k hk (by decide))
              obtain ⟨S161, eS161⟩ : ∃ T : St, T = stI S156 h 13 3 := ⟨_, rfl⟩
              rw [← eS161] at hW
              have hG : Gx (h :: ex) S161 := by rw [eS161]; exact hG.I kq160 (ok_in 0 3 (by decide) (by decide))
              have w162 : sI S161 h 10 = 0 := by rw [eS161]; exact (iI_k (by decide)).trans w157
              have w163 : sI S161 q64 1 = 0 := by rw [eS161]; exact (iI_a (fk_ne (hE75.k k71 (by decide)) kq160 (by decide))).trans w158
              have r164 : sR S161 h 5 = some q64 := by rw [eS161]; exact r159
              have hF : Fr [h] [1100] S S161 := by rw [eS161]; exact hF.Ih List.mem_cons_self
              have hE46 : Fr [h] [1100] T41 S161 := by rw [eS161]; exact hE46.Ih List.mem_cons_self
              have hE62 : Fr [h] [1100] S59 S161 := by rw [eS161]; exact hE62.Ih List.mem_cons_self
              have hE75 : Fr [h] [1100] T69 S161 := by rw [eS161]; exact hE75.Ih List.mem_cons_self
              have hD : Dn [8, 7, 6, 5, 4, 3, 2, 1, 0] S161 h 8 := by rw [eS161]; exact hD
              have hkh : sK S161 h = 8 := hF.k hk (by decide)
              have w165 : sI S161 h 13 = 3 := by rw [eS161]; exact iI_s
              clear eS161
              refine lv_aload_n hx hb dX8_init_179 rfl (lv_at hl 0 rfl) ?_
              refine lv_iconst (v := 2) hx hb dX8_init_180 (by decide) ?_
              refine pg_pi (ci := 8) (C := RX8) (T := TX8) (N := 18) hx hb hts wi8 tyX8 tyX8_ok nmX8 hown hK hW hS (hF.k hk (by decide)) (by decide) rfl 14 (by decide) (hts (.fieldLink RX8 78 "IceHall" "restMost" "I") (by decide +kernel)) (fun _ h9 => h9) rfl rfl rfl dX8_init_181 (fun H locs hW hS => ?_)
              have kq166 : sK S161 h = 8 := (hF.k hk (by decide))
              obtain ⟨S167, eS167⟩ : ∃ T : St, T = stI S161 h 14 2 := ⟨_, rfl⟩
              rw [← eS167] at hW
              have hG : Gx (h :: ex) S167 := by rw [eS167]; exact hG.I kq166 (ok_fr (by decide))
              have w168 : sI S167 h 10 = 0 := by rw [eS167]; exact (iI_k (by decide)).trans w162
              have w169 : sI S167 q64 1 = 0 := by rw [eS167]; exact (iI_a (fk_ne (hE75.k k71 (by decide)) kq166 (by decide))).trans w163
              have w170 : sI S167 h 13 = 3 := by rw [eS167]; exact (iI_k (by decide)).trans w165
              have r171 : sR S167 h 5 = some q64 := by rw [eS167]; exact r164
              have hF : Fr [h] [1100] S S167 := by rw [eS167]; exact hF.Ih List.mem_cons_self
              have hE46 : Fr [h] [1100] T41 S167 := by rw [eS167]; exact hE46.Ih List.mem_cons_self
              have hE62 : Fr [h] [1100] S59 S167 := by rw [eS167]; exact hE62.Ih List.mem_cons_self
              have hE75 : Fr [h] [1100] T69 S167 := by rw [eS167]; exact hE75.Ih List.mem_cons_self
              have hD : Dn [8, 7, 6, 5, 4, 3, 2, 1, 0] S167 h 8 := by rw [eS167]; exact hD
              have hkh : sK S167 h = 8 := hF.k hk (by decide)
              clear eS167
              exact pc_vret (S := S167) hx hb hr hlk hK hZ hA hW hS (⟨hG.done (hF.k hk (by decide)) hD (rtk (by decide)), hF, ⟨w168, w170, q64, r171, (hE75.k k71 (by decide)), w169⟩⟩) dX8_init_184
            · have c63i : ¬ ((24 : Int) ≤ Int32.toInt y) := fun h9 => c63 ((i3_le _ _).mpr h9)
              refine lv_aload_n hx hb dX8_init_90 rfl (lv_at hl 0 rfl) ?_
              have hE173 : Fr [h] [1100] L84 L84 := Fr.rf _ _ _
              obtain ⟨b172, rb172, kb172, nb172⟩ := hD 4 (by decide) 11 24 rfl
              refine pg_gr (b := b172) (ci := 8) (C := RX8) (T := TX8) (N := 18) hx hb hts wi8 hown hK hW (hF.k hk (by decide)) (by decide) rfl 4 (by decide) (hts (.fieldLink RX8 32 "IceHall" "prices" "[I") (by decide +kernel)) (fun _ h9 => h9) rfl rb172 dX8_init_91 ?_
              refine lv_iload_n hx hb dX8_init_94 rfl (lv_at hl 2 rfl) ?_
              refine lv_bipush (v := 10) hx hb dX8_init_95 (by decide) ?_
              refine pg_iast hx hb hK hW hS kb172 (by decide) (by rw [show sL L84 b172 = 24 from nb172]; exact r_in (by omega)) dX8_init_97 (fun H locs hW hS => ?_)
              obtain ⟨S174, eS174⟩ : ∃ T : St, T = stI L84 b172 (Int32.toNatClampNeg y) 10 := ⟨_, rfl⟩
              rw [← eS174] at hW
              have hG : Gx (h :: ex) S174 := by rw [eS174]; exact hG.I kb172 (ok_frA (by decide) (by decide))
              have w175 : sI S174 h 10 = 0 := by rw [eS174]; exact (iI_a (fk_ne (hF.k hk (by decide)) kb172 (by decide))).trans z10b
              have hF : Fr [h] [1100] S S174 := by rw [eS174]; exact hF.IA kb172 (by decide) (by decide)
              have hE46 : Fr [h] [1100] T41 S174 := by rw [eS174]; exact hE46.IA kb172 (by decide) (by decide)
              have hE62 : Fr [h] [1100] S59 S174 := by rw [eS174]; exact hE62.IA kb172 (by decide) (by decide)
              have hE173 : Fr [h] [1100] L84 S174 := by rw [eS174]; exact hE173.IA kb172 (by decide) (by decide)
              have hD : Dn [4, 3, 2, 1, 0] S174 h 8 := by rw [eS174]; exact hD
              have hkh : sK S174 h = 8 := hF.k hk (by decide)
              clear eS174
              refine lv_iinc (v := y + 1) (lv' := [(2, .int (y + 1)), (0, .ref h), (1, .ref q36)]) hx hb dX8_init_98 hl (k := 2) rfl rfl (by decide) rfl (fun ls hl => ?_)
              have i176 : (y + 1).toInt = (y).toInt + 1 := i3_add rfl rfl (by omega) (by omega)
              refine lv_goto (tgt := 84) hx hb dX8_init_101 (by decide) ?_
              exact ih84 (y + 1) S174 _ _ ls hG hE62 hD (by omega) (w175) (by omega) hW hS (lv_cast (lv_sub hl [1, 2, 0] rfl) (rfl))
        exact loop84 _ 0 S59 _ _ ls hG hE62 hD (by decide) (w61) (Nat.lt_succ_self _) hW hS (lv_cast (lv_sub hl [1, 2, 0] rfl) (rfl))
      · have c47i : ¬ ((6 : Int) ≤ Int32.toInt y) := fun h9 => c47 ((i3_le _ _).mpr h9)
        refine lv_aload_n hx hb dX8_init_51 rfl (lv_at hl 0 rfl) ?_
        have hE178 : Fr [h] [1100] L45 L45 := Fr.rf _ _ _
        obtain ⟨b177, rb177, kb177, nb177⟩ := hD 2 (by decide) 14 6 rfl
        refine pg_gr (b := b177) (ci := 8) (C := RX8) (T := TX8) (N := 18) hx hb hts wi8 hown hK hW (hF.k hk (by decide)) (by decide) rfl 2 (by decide) (hts (.fieldLink RX8 21 "IceHall" "rightsInForce" "[LIceHall$Rights;") (by decide +kernel)) (fun _ h9 => h9) rfl rb177 dX8_init_52 ?_
        refine lv_iload_n hx hb dX8_init_55 rfl (lv_at hl 2 rfl) ?_
        refine lv_aload_n hx hb dX8_init_56 rfl (lv_at hl 1 rfl) ?_
        have kq179 : sK L45 q36 = 4 := (hE46.k k43 (by decide))
        refine pg_aast (t0 := 4) hx hb hK hW hS (by decide) kb177 kq179 (by decide) rfl rfl (by rw [show sL L45 b177 = 6 from nb177]; exact r_in (by omega)) dX8_init_57 (fun H locs hW hS => ?_)
        obtain ⟨S180, eS180⟩ : ∃ T : St, T = stR L45 b177 (Int32.toNatClampNeg y) (some q36) := ⟨_, rfl⟩
        rw [← eS180] at hW
        have hG : Gx (h :: ex) S180 := by rw [eS180]; exact hG.R kb177 kq179 (by decide)
        have w181 : sI S180 h 10 = 0 := by rw [eS180]; exact z10a
        have hF : Fr [h] [1100] S S180 := by rw [eS180]; exact hF.R kb177 (by decide)
        have hE46 : Fr [h] [1100] T41 S180 := by rw [eS180]; exact hE46.R kb177 (by decide)
        have hE178 : Fr [h] [1100] L45 S180 := by rw [eS180]; exact hE178.R kb177 (by decide)
        have hD : Dn [2, 1, 0] S180 h 8 := by rw [eS180]; exact hD.F ((Fr.rf [] [] _).R kb177 (by decide)) hkh (by decide) List.not_mem_nil
        have hkh : sK S180 h = 8 := hF.k hk (by decide)
        clear eS180
        refine lv_iinc (v := y + 1) (lv' := [(2, .int (y + 1)), (0, .ref h), (1, .ref q36)]) hx hb dX8_init_58 hl (k := 2) rfl rfl (by decide) rfl (fun ls hl => ?_)
        have i182 : (y + 1).toInt = (y).toInt + 1 := i3_add rfl rfl (by omega) (by omega)
        refine lv_goto (tgt := 45) hx hb dX8_init_61 (by decide) ?_
        exact ih45 (y + 1) S180 _ _ ls hG hE46 hD (by omega) (w181) (by omega) hW hS (lv_cast (lv_sub hl [1, 2, 0] rfl) (rfl))
  exact loop45 _ 0 T41 _ _ ls hG hE46 hD (by decide) (w45) (Nat.lt_succ_self _) hW hS (lv_cast (lv_sub hl [2, 1, 0] rfl) (rfl))
