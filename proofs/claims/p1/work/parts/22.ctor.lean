set_option maxHeartbeats 4000000 in
set_option maxRecDepth 100000 in
theorem c_X0_init (l : Launch) (D : va_G) (cy : Nat → ClassId) (A : Nat → Prop) (S : St) (h : Nat) (hk : sK S h = 0) : MV l yX0_init wsX0_init ({ frames := 1, cells := 1, slots := 32, locals := 60 } : Room) 1 32 D cy A [.ref h] S (fun S1 => Kx [h] S S1 ∧ ∃ w, 16 ≤ sK S w ∧ sK S1 h = 0 ∧ sR S1 h 0 = some w ∧ sK S1 w = 12 ∧ sL S1 w = 32 ∧ (∀ j, sJ S1 w j = 0)) := by
  refine mt_start (cc := cX0_init) (maxL := 1) (ret := none) (by decide) rfl (Nat.le_of_ble_eq_true rfl) ?_
  intro p e s m args below meth c hx hb hr hlk hml hown hnm hts hK hZ hA hW hS ls hl
  have hl : lv_has ls 1 [(0, .ref h)] := hl
  have hown : s.vm.findClass RX0 = some m.cls := hown
  have F : CallFix p m c cX0_init 1 s args wsX0_init RX0 := ⟨hx, hb, hml, hown, hts⟩
  have wi0 : ∀ w ∈ u_ws RX0 TX0 1, w ∈ wsX0_init := by decide +kernel
  have hX : Kx [h] S S := Kx.rf _ S
  refine lv_aload_n hx hb dX0_init_0 rfl (lv_at hl 0 rfl) ?_
  refine W.objInit hx hb hown (hts (.methodLink RX0 3 objectInit) (by decide +kernel)) (hts (.instanceMethod objectInit) (by decide +kernel)) (hts (.code objectInit ⟨#[0xb1]⟩ 1 none) (by decide +kernel)) rfl (by rw [hml]; exact hl.1) rfl dX0_init_1 (Nat.le_of_ble_eq_true rfl) (Nat.le_of_ble_eq_true rfl) ?_
  refine W.eq (g2 := F0 m 4 ls []) rfl ?_
  refine lv_aload_n hx hb dX0_init_4 rfl (lv_at hl 0 rfl) ?_
  refine lv_bipush (v := 32) hx hb dX0_init_5 (by decide) ?_
  refine pg_newa (atype := .long) (ty := .long) (kd := 12) (t0 := 2) (N' := 32) hx hb (hts (.arrayClass .long) (by decide +kernel)) rfl rfl (Or.inr (Or.inr (Or.inr rfl))) (by decide) hK hW hS hA (fun _ => rfl) (by decide) (by decide) (Nat.le_of_ble_eq_true rfl) (Nat.le_of_ble_eq_true rfl) (Nat.le_of_ble_eq_true rfl) dX0_init_7 (fun q1 H hq1 hW hS => ?_)
  have f3 : Ap h q1 := ap_k hk hq1 (by decide)
  have o4 : 16 ≤ sK S q1 := hX.old hq1 (ni_c (ap_s f3) ni_0)
  have hX : Kx [h] S (stN S q1 12 32) := hX.N hq1
  obtain ⟨S2, eS2⟩ : ∃ T : St, T = stN S q1 12 32 := ⟨_, rfl⟩
  rw [← eS2] at hW hX
  obtain ⟨k5, d6⟩ := fk_N (a := h) eS2 hk (by decide) hq1
  have w7 : ∀ j, sJ S2 q1 j = 0 := fun j => by rw [eS2, jN, if_pos rfl]
  have k8 : sK S2 q1 = 12 := by rw [eS2, kN, if_pos rfl]
  have n9 : sL S2 q1 = 32 := by rw [eS2, lNw, if_pos rfl]
  refine pg_pr (ci := 0) (C := RX0) (T := TX0) (N := 1) hx hb hts wi0 tyX0 tyX0_ok nmX0 hown hK hW hS k5 (by decide) rfl 0 (by decide) (hts (.fieldLink RX0 9 "IceHall$HourSet" "words" "[J") (by decide +kernel)) (fun _ h9 => h9) rfl hnm rfl rfl rfl rfl dX0_init_9 (fun H locs hW hS => ?_)
  have hX : Kx [h] S (stR S2 h 0 (some q1)) := hX.Rh List.mem_cons_self
  obtain ⟨S10, eS10⟩ : ∃ T : St, T = stR S2 h 0 (some q1) := ⟨_, rfl⟩
  rw [← eS10] at hW hX
  have k11 : sK S10 h = 0 := by rw [eS10]; exact k5
  have k12 : sK S10 q1 = 12 := by rw [eS10]; exact k8
  have n13 : sL S10 q1 = 32 := by rw [eS10]; exact n9
  have w14 : ∀ j, sJ S10 q1 j = 0 := fun j => by rw [eS10]; exact w7 j 
  have r15 : sR S10 h 0 = some q1 := by rw [eS10, rR, if_pos rfl, if_pos rfl]
  clear k5 k8 n9 w7
  exact pc_vret (S := S10) hx hb hr hlk hK hZ hA hW hS (⟨hX, q1, o4, k11, r15, k12, n13, w14⟩) dX0_init_12
set_option maxHeartbeats 4000000 in
set_option maxRecDepth 100000 in
theorem c_X1_init (l : Launch) (D : va_G) (cy : Nat → ClassId) (A : Nat → Prop) (S : St) (h : Nat) (hk : sK S h = 1) : MV l yX1_init wsX1_init ({ frames := 2, cells := 4, slots := 66, locals := 80 } : Room) 4 66 D cy A [.ref h] S (fun S1 => Kx [h] S S1 ∧ ∃ q1, 16 ≤ sK S q1 ∧ ∃ w1, 16 ≤ sK S w1 ∧ ∃ q2, 16 ≤ sK S q2 ∧ ∃ w2, 16 ≤ sK S w2 ∧ sK S1 h = 1 ∧ sR S1 h 0 = some q1 ∧ sK S1 q1 = 0 ∧ sR S1 q1 0 = some w1 ∧ sK S1 w1 = 12 ∧ sL S1 w1 = 32 ∧ (∀ j, sJ S1 w1 j = 0) ∧ sR S1 h 1 = some q2 ∧ sK S1 q2 = 0 ∧ sR S1 q2 0 = some w2 ∧ sK S1 w2 = 12 ∧ sL S1 w2 = 32 ∧ (∀ j, sJ S1 w2 j = 0) ∧ sI S1 h 2 = 0 ∧ sI S1 h 3 = 300 ∧ sI S1 h 4 = 0 ∧ sI S1 h 5 = 0 ∧ sI S1 h 6 = 0 ∧ sI S1 h 7 = 0 ∧ sI S1 h 8 = 0 ∧ sI S1 h 9 = 0) := by
  refine mt_start (cc := cX1_init) (maxL := 1) (ret := none) (by decide) rfl (Nat.le_of_ble_eq_true rfl) ?_
  intro p e s m args below meth c hx hb hr hlk hml hown hnm hts hK hZ hA hW hS ls hl
  have hl : lv_has ls 1 [(0, .ref h)] := hl
  have hown : s.vm.findClass RX1 = some m.cls := hown
  have F : CallFix p m c cX1_init 1 s args wsX1_init RX1 := ⟨hx, hb, hml, hown, hts⟩
  have wi0 : ∀ w ∈ u_ws RX0 TX0 1, w ∈ wsX1_init := by decide +kernel
  have wi1 : ∀ w ∈ u_ws RX1 TX1 10, w ∈ wsX1_init := by decide +kernel
  have hX : Kx [h] S S := Kx.rf _ S
  refine lv_aload_n hx hb dX1_init_0 rfl (lv_at hl 0 rfl) ?_
  refine W.objInit hx hb hown (hts (.methodLink RX1 3 objectInit) (by decide +kernel)) (hts (.instanceMethod objectInit) (by decide +kernel)) (hts (.code objectInit ⟨#[0xb1]⟩ 1 none) (by decide +kernel)) rfl (by rw [hml]; exact hl.1) rfl dX1_init_1 (Nat.le_of_ble_eq_true rfl) (Nat.le_of_ble_eq_true rfl) ?_
  refine W.eq (g2 := F0 m 4 ls []) rfl ?_
  refine lv_aload_n hx hb dX1_init_4 rfl (lv_at hl 0 rfl) ?_
  refine pg_new (ci := 0) (C := RX0) (T := TX0) (N := 1) hx hb hts wi0 tyX0 tyX0_ok hown (hts (.classLink RX1 9 RX0) (by decide +kernel)) (hts (.instantiable RX0 1) (by decide +kernel)) (hts (.initialized RX0) (by decide +kernel)) hK hW hS hA (by decide) rfl df_0 (Nat.le_of_ble_eq_true rfl) (Nat.le_of_ble_eq_true rfl) dX1_init_5 (fun q1 H hq1 hW hS => ?_)
  have f3 : Ap h q1 := ap_k hk hq1 (by decide)
  have o4 : 16 ≤ sK S q1 := hX.old hq1 (ni_c (ap_s f3) ni_0)
  have hX : Kx [h] S (stN S q1 0 0) := hX.N hq1
  obtain ⟨S2, eS2⟩ : ∃ T : St, T = stN S q1 0 0 := ⟨_, rfl⟩
  rw [← eS2] at hW hX
  obtain ⟨k5, d6⟩ := fk_N (a := h) eS2 hk (by decide) hq1
  have k7 : sK S2 q1 = 0 := by rw [eS2, kN, if_pos rfl]
  refine lv_dup hx hb dX1_init_8 rfl ?_
  refine pc_INv (As := []) (rest := [.ref q1, .ref h]) F (c_X0_init l D cy A S2 q1 k7) ⟨va_cnB 0 hts gX1_init_X0_init_n11 rfl rfl rfl hZ.2.2.2.2.2.2.2.1 (hts (.initialized RX0) (by decide +kernel)) (by decide +kernel) ⟨Nat.le_of_ble_eq_true rfl, Nat.le_of_ble_eq_true rfl⟩, rfl, hts (.instanceMethod yX0_init) (by decide +kernel)⟩ hK hZ hA hW hS rfl hl.1 rfl (Nat.le_of_ble_eq_true rfl) dX1_init_9 ⟨Nat.le_of_ble_eq_true rfl, Nat.le_of_ble_eq_true rfl⟩ (fun T9 H locs p10 hW hS => ?_)
  obtain ⟨kxT9, p10⟩ := p10
  have f11 := kxT9 h (ni_c d6 ni_0) (lt16 k5 (by decide))
  have f12 : sK T9 h = 1 := by rw [f11.1]; exact k5
  clear f11
  have hX0 := hX
  have hX : Kx [h] S T9 := hX.tr kxT9 (q1_ (Or.inl o4))
  obtain ⟨z13, hz13, p10⟩ := p10
  have f14 : Ap h z13 := ap_k k5 hz13 (by decide)
  have f15 : Ap q1 z13 := ap_k k7 hz13 (by decide)
  have o16 : 16 ≤ sK S z13 := hX0.old hz13 (ni_c (ap_s f14) ni_0)
  obtain ⟨y17, p10⟩ := p10
  obtain ⟨y18, p10⟩ := p10
  obtain ⟨y19, p10⟩ := p10
  obtain ⟨y20, p10⟩ := p10
  have y21 := p10
  clear k5 k7
  refine pg_pr (ci := 1) (C := RX1) (T := TX1) (N := 10) hx hb hts wi1 tyX1 tyX1_ok nmX1 hown hK hW hS f12 (by decide) rfl 0 (by decide) (hts (.fieldLink RX1 12 "IceHall$Ice" "taken" "LIceHall$HourSet;") (by decide +kernel)) (fun _ h9 => h9) rfl hnm rfl rfl rfl rfl dX1_init_12 (fun H locs hW hS => ?_)
  have hX : Kx [h] S (stR T9 h 0 (some q1)) := hX.Rh List.mem_cons_self
  obtain ⟨S22, eS22⟩ : ∃ T : St, T = stR T9 h 0 (some q1) := ⟨_, rfl⟩
  rw [← eS22] at hW hX
  have k23 : sK S22 h = 1 := by rw [eS22]; exact f12
  have k24 : sK S22 q1 = 0 := by rw [eS22]; exact y17
  have k25 : sK S22 z13 = 12 := by rw [eS22]; exact y19
  have r26 : sR S22 q1 0 = some z13 := by rw [eS22, rR, if_neg (fk_ne k24 k23 (by decide))]; exact y18
  have n27 : sL S22 z13 = 32 := by rw [eS22]; exact y20
  have w28 : ∀ j, sJ S22 z13 j = 0 := fun j => by rw [eS22]; exact y21 j 
  have r29 : sR S22 h 0 = some q1 := by rw [eS22, rR, if_pos rfl, if_pos rfl]
  clear f12 y17 y19 y18 y20 y21
  refine lv_aload_n hx hb dX1_init_15 rfl (lv_at hl 0 rfl) ?_
  refine pg_new (ci := 0) (C := RX0) (T := TX0) (N := 1) hx hb hts wi0 tyX0 tyX0_ok hown (hts (.classLink RX1 9 RX0) (by decide +kernel)) (hts (.instantiable RX0 1) (by decide +kernel)) (hts (.initialized RX0) (by decide +kernel)) hK hW hS hA (by decide) rfl df_0 (Nat.le_of_ble_eq_true rfl) (Nat.le_of_ble_eq_true rfl) dX1_init_16 (fun q30 H hq30 hW hS => ?_)
  have f32 : Ap h q30 := ap_k k23 hq30 (by decide)
  have o33 : 16 ≤ sK S q30 := hX.old hq30 (ni_c (ap_s f32) ni_0)
  have hX : Kx [h] S (stN S22 q30 0 0) := hX.N hq30
  obtain ⟨S31, eS31⟩ : ∃ T : St, T = stN S22 q30 0 0 := ⟨_, rfl⟩
  rw [← eS31] at hW hX
  obtain ⟨k34, d35⟩ := fk_N (a := h) eS31 k23 (by decide) hq30
  obtain ⟨k36, d37⟩ := fk_N (a := q1) eS31 k24 (by decide) hq30
  obtain ⟨k38, d39⟩ := fk_N (a := z13) eS31 k25 (by decide) hq30
  have r40 : sR S31 q1 0 = some z13 := by rw [eS31, rN, if_neg d37]; exact r26
  have r41 : sR S31 h 0 = some q1 := by rw [eS31, rN, if_neg d35]; exact r29
  have n42 : sL S31 z13 = 32 := by rw [eS31, lNw, if_neg d39]; exact n27
  have w43 : ∀ j, sJ S31 z13 j = 0 := fun j => by rw [eS31, jN, if_neg d39]; exact w28 j 
  have k44 : sK S31 q30 = 0 := by rw [eS31, kN, if_pos rfl]
  clear k23 k24 k25 r26 r29 n27 w28
  refine lv_dup hx hb dX1_init_19 rfl ?_
  refine pc_INv (As := []) (rest := [.ref q30, .ref h]) F (c_X0_init l D cy A S31 q30 k44) ⟨va_cnB 0 hts gX1_init_X0_init_n11 rfl rfl rfl hZ.2.2.2.2.2.2.2.1 (hts (.initialized RX0) (by decide +kernel)) (by decide +kernel) ⟨Nat.le_of_ble_eq_true rfl, Nat.le_of_ble_eq_true rfl⟩, rfl, hts (.instanceMethod yX0_init) (by decide +kernel)⟩ hK hZ hA hW hS rfl hl.1 rfl (Nat.le_of_ble_eq_true rfl) dX1_init_20 ⟨Nat.le_of_ble_eq_true rfl, Nat.le_of_ble_eq_true rfl⟩ (fun T46 H locs p47 hW hS => ?_)
  obtain ⟨kxT46, p47⟩ := p47
  have f48 := kxT46 h (ni_c d35 ni_0) (lt16 k34 (by decide))
  have f49 : sK T46 h = 1 := by rw [f48.1]; exact k34
  have f50 : sR T46 h 0 = some q1 := by rw [f48.2.2.1]; exact r41
  clear f48
  have f51 := kxT46 q1 (ni_c d37 ni_0) (lt16 k36 (by decide))
  have f52 : sK T46 q1 = 0 := by rw [f51.1]; exact k36
  have f53 : sR T46 q1 0 = some z13 := by rw [f51.2.2.1]; exact r40
  clear f51
  have f54 := kxT46 z13 (ni_c d39 ni_0) (lt16 k38 (by decide))
  have f55 : sK T46 z13 = 12 := by rw [f54.1]; exact k38
  have f56 : sL T46 z13 = 32 := by rw [f54.2.2.2.2]; exact n42
  have f57 : ∀ j, sJ T46 z13 j = 0 := fun j => by rw [f54.2.2.2.1]; exact w43 j 
  clear f54
  have hX0 := hX
  have hX : Kx [h] S T46 := hX.tr kxT46 (q1_ (Or.inl o33))
  obtain ⟨z58, hz58, p47⟩ := p47
  have f59 : Ap h z58 := ap_k k34 hz58 (by decide)
  have f60 : Ap q1 z58 := ap_k k36 hz58 (by decide)
  have f61 : Ap z13 z58 := ap_k k38 hz58 (by decide)
  have f62 : Ap q30 z58 := ap_k k44 hz58 (by decide)
  have o63 : 16 ≤ sK S z58 := hX0.old hz58 (ni_c (ap_s f59) ni_0)
  obtain ⟨y64, p47⟩ := p47
  obtain ⟨y65, p47⟩ := p47
  obtain ⟨y66, p47⟩ := p47
  obtain ⟨y67, p47⟩ := p47
  have y68 := p47
  clear k34 k36 k38 k44 r40 r41 n42 w43
  refine pg_pr (ci := 1) (C := RX1) (T := TX1) (N := 10) hx hb hts wi1 tyX1 tyX1_ok nmX1 hown hK hW hS f49 (by decide) rfl 1 (by decide) (hts (.fieldLink RX1 18 "IceHall$Ice" "closed" "LIceHall$HourSet;") (by decide +kernel)) (fun _ h9 => h9) rfl hnm rfl rfl rfl rfl dX1_init_23 (fun H locs hW hS => ?_)
  have hX : Kx [h] S (stR T46 h 1 (some q30)) := hX.Rh List.mem_cons_self
  obtain ⟨S69, eS69⟩ : ∃ T : St, T = stR T46 h 1 (some q30) := ⟨_, rfl⟩
  rw [← eS69] at hW hX
  have k70 : sK S69 h = 1 := by rw [eS69]; exact f49
  have k71 : sK S69 q1 = 0 := by rw [eS69]; exact f52
  have k72 : sK S69 z13 = 12 := by rw [eS69]; exact f55
  have k73 : sK S69 q30 = 0 := by rw [eS69]; exact y64
  have k74 : sK S69 z58 = 12 := by rw [eS69]; exact y66
  have r75 : sR S69 h 0 = some q1 := by rw [eS69, rR, if_pos rfl, if_neg (by decide)]; exact f50
  have r76 : sR S69 q1 0 = some z13 := by rw [eS69, rR, if_neg (fk_ne k71 k70 (by decide))]; exact f53
  have r77 : sR S69 q30 0 = some z58 := by rw [eS69, rR, if_neg (fk_ne k73 k70 (by decide))]; exact y65
  have n78 : sL S69 z13 = 32 := by rw [eS69]; exact f56
  have n79 : sL S69 z58 = 32 := by rw [eS69]; exact y67
  have w80 : ∀ j, sJ S69 z13 j = 0 := fun j => by rw [eS69]; exact f57 j 
  have w81 : ∀ j, sJ S69 z58 j = 0 := fun j => by rw [eS69]; exact y68 j 
  have r82 : sR S69 h 1 = some q30 := by rw [eS69, rR, if_pos rfl, if_pos rfl]
  clear f49 f52 f55 y64 y66 f50 f53 y65 f56 y67 f57 y68
  refine lv_aload_n hx hb dX1_init_26 rfl (lv_at hl 0 rfl) ?_
  refine lv_iconst (v := 0) hx hb dX1_init_27 (by decide) ?_
  refine pg_pi (ci := 1) (C := RX1) (T := TX1) (N := 10) hx hb hts wi1 tyX1 tyX1_ok nmX1 hown hK hW hS k70 (by decide) rfl 2 (by decide) (hts (.fieldLink RX1 21 "IceHall$Ice" "closings" "I") (by decide +kernel)) (fun _ h9 => h9) rfl rfl rfl dX1_init_28 (fun H locs hW hS => ?_)
  have hX : Kx [h] S (stI S69 h 2 0) := hX.Ih List.mem_cons_self
  have w83 : sI (stI S69 h 2 0) h 2 = 0 := iI_s
  refine lv_aload_n hx hb dX1_init_31 rfl (lv_at hl 0 rfl) ?_
  refine lv_sipush (v := 300) hx hb dX1_init_32 (by decide) ?_
  refine pg_pi (ci := 1) (C := RX1) (T := TX1) (N := 10) hx hb hts wi1 tyX1 tyX1_ok nmX1 hown hK hW hS k70 (by decide) rfl 3 (by decide) (hts (.fieldLink RX1 25 "IceHall$Ice" "thickness" "I") (by decide +kernel)) (fun _ h9 => h9) rfl rfl rfl dX1_init_35 (fun H locs hW hS => ?_)
  have hX : Kx [h] S (stI (stI S69 h 2 0) h 3 300) := hX.Ih List.mem_cons_self
  have w84 : sI (stI (stI S69 h 2 0) h 3 300) h 2 = 0 := (iI_k (by decide)).trans w83
  have w85 : sI (stI (stI S69 h 2 0) h 3 300) h 3 = 300 := iI_s
  clear w83
  refine lv_aload_n hx hb dX1_init_38 rfl (lv_at hl 0 rfl) ?_
  refine lv_iconst (v := 0) hx hb dX1_init_39 (by decide) ?_
  refine pg_pi (ci := 1) (C := RX1) (T := TX1) (N := 10) hx hb hts wi1 tyX1 tyX1_ok nmX1 hown hK hW hS k70 (by decide) rfl 4 (by decide) (hts (.fieldLink RX1 28 "IceHall$Ice" "ruts" "I") (by decide +kernel)) (fun _ h9 => h9) rfl rfl rfl dX1_init_40 (fun H locs hW hS => ?_)
  have hX : Kx [h] S (stI (stI (stI S69 h 2 0) h 3 300) h 4 0) := hX.Ih List.mem_cons_self
  have w86 : sI (stI (stI (stI S69 h 2 0) h 3 300) h 4 0) h 2 = 0 := (iI_k (by decide)).trans w84
  have w87 : sI (stI (stI (stI S69 h 2 0) h 3 300) h 4 0) h 3 = 300 := (iI_k (by decide)).trans w85
  have w88 : sI (stI (stI (stI S69 h 2 0) h 3 300) h 4 0) h 4 = 0 := iI_s
  clear w84 w85
  refine lv_aload_n hx hb dX1_init_43 rfl (lv_at hl 0 rfl) ?_
  refine lv_iconst (v := 0) hx hb dX1_init_44 (by decide) ?_
  refine pg_pi (ci := 1) (C := RX1) (T := TX1) (N := 10) hx hb hts wi1 tyX1 tyX1_ok nmX1 hown hK hW hS k70 (by decide) rfl 5 (by decide) (hts (.fieldLink RX1 31 "IceHall$Ice" "shaved" "I") (by decide +kernel)) (fun _ h9 => h9) rfl rfl rfl dX1_init_45 (fun H locs hW hS => ?_)
  have hX : Kx [h] S (stI (stI (stI (stI S69 h 2 0) h 3 300) h 4 0) h 5 0) := hX.Ih List.mem_cons_self
  have w89 : sI (stI (stI (stI (stI S69 h 2 0) h 3 300) h 4 0) h 5 0) h 2 = 0 := (iI_k (by decide)).trans w86
  have w90 : sI (stI (stI (stI (stI S69 h 2 0) h 3 300) h 4 0) h 5 0) h 3 = 300 := (iI_k (by decide)).trans w87
  have w91 : sI (stI (stI (stI (stI S69 h 2 0) h 3 300) h 4 0) h 5 0) h 4 = 0 := (iI_k (by decide)).trans w88
  have w92 : sI (stI (stI (stI (stI S69 h 2 0) h 3 300) h 4 0) h 5 0) h 5 = 0 := iI_s
  clear w86 w87 w88
  refine lv_aload_n hx hb dX1_init_48 rfl (lv_at hl 0 rfl) ?_
  refine lv_iconst (v := 0) hx hb dX1_init_49 (by decide) ?_
  refine pg_pi (ci := 1) (C := RX1) (T := TX1) (N := 10) hx hb hts wi1 tyX1 tyX1_ok nmX1 hown hK hW hS k70 (by decide) rfl 6 (by decide) (hts (.fieldLink RX1 34 "IceHall$Ice" "flooded" "I") (by decide +kernel)) (fun _ h9 => h9) rfl rfl rfl dX1_init_50 (fun H locs hW hS => ?_)
  have hX : Kx [h] S (stI (stI (stI (stI (stI S69 h 2 0) h 3 300) h 4 0) h 5 0) h 6 0) := hX.Ih List.mem_cons_self
  have w93 : sI (stI (stI (stI (stI (stI S69 h 2 0) h 3 300) h 4 0) h 5 0) h 6 0) h 2 = 0 := (iI_k (by decide)).trans w89
  have w94 : sI (stI (stI (stI (stI (stI S69 h 2 0) h 3 300) h 4 0) h 5 0) h 6 0) h 3 = 300 := (iI_k (by decide)).trans w90
  have w95 : sI (stI (stI (stI (stI (stI S69 h 2 0) h 3 300) h 4 0) h 5 0) h 6 0) h 4 = 0 := (iI_k (by decide)).trans w91
  have w96 : sI (stI (stI (stI (stI (stI S69 h 2 0) h 3 300) h 4 0) h 5 0) h 6 0) h 5 = 0 := (iI_k (by decide)).trans w92
  have w97 : sI (stI (stI (stI (stI (stI S69 h 2 0) h 3 300) h 4 0) h 5 0) h 6 0) h 6 = 0 := iI_s
  clear w89 w90 w91 w92
  refine lv_aload_n hx hb dX1_init_53 rfl (lv_at hl 0 rfl) ?_
  refine lv_iconst (v := 0) hx hb dX1_init_54 (by decide) ?_
  refine pg_pi (ci := 1) (C := RX1) (T := TX1) (N := 10) hx hb hts wi1 tyX1 tyX1_ok nmX1 hown hK hW hS k70 (by decide) rfl 7 (by decide) (hts (.fieldLink RX1 37 "IceHall$Ice" "melted" "I") (by decide +kernel)) (fun _ h9 => h9) rfl rfl rfl dX1_init_55 (fun H locs hW hS => ?_)
  have hX : Kx [h] S (stI (stI (stI (stI (stI (stI S69 h 2 0) h 3 300) h 4 0) h 5 0) h 6 0) h 7 0) := hX.Ih List.mem_cons_self
  have w98 : sI (stI (stI (stI (stI (stI (stI S69 h 2 0) h 3 300) h 4 0) h 5 0) h 6 0) h 7 0) h 2 = 0 := (iI_k (by decide)).trans w93
  have w99 : sI (stI (stI (stI (stI (stI (stI S69 h 2 0) h 3 300) h 4 0) h 5 0) h 6 0) h 7 0) h 3 = 300 := (iI_k (by decide)).trans w94
  have w100 : sI (stI (stI (stI (stI (stI (stI S69 h 2 0) h 3 300) h 4 0) h 5 0) h 6 0) h 7 0) h 4 = 0 := (iI_k (by decide)).trans w95
  have w101 : sI (stI (stI (stI (stI (stI (stI S69 h 2 0) h 3 300) h 4 0) h 5 0) h 6 0) h 7 0) h 5 = 0 := (iI_k (by decide)).trans w96
  have w102 : sI (stI (stI (stI (stI (stI (stI S69 h 2 0) h 3 300) h 4 0) h 5 0) h 6 0) h 7 0) h 6 = 0 := (iI_k (by decide)).trans w97
  have w103 : sI (stI (stI (stI (stI (stI (stI S69 h 2 0) h 3 300) h 4 0) h 5 0) h 6 0) h 7 0) h 7 = 0 := iI_s
  clear w93 w94 w95 w96 w97
  refine lv_aload_n hx hb dX1_init_58 rfl (lv_at hl 0 rfl) ?_
  refine lv_iconst (v := 0) hx hb dX1_init_59 (by decide) ?_
  refine pg_pi (ci := 1) (C := RX1) (T := TX1) (N := 10) hx hb hts wi1 tyX1 tyX1_ok nmX1 hown hK hW hS k70 (by decide) rfl 8 (by decide) (hts (.fieldLink RX1 40 "IceHall$Ice" "toShave" "I") (by decide +kernel)) (fun _ h9 => h9) rfl rfl rfl dX1_init_60 (fun H locs hW hS => ?_)
  have hX : Kx [h] S (stI (stI (stI (stI (stI (stI (stI S69 h 2 0) h 3 300) h 4 0) h 5 0) h 6 0) h 7 0) h 8 0) := hX.Ih List.mem_cons_self
  have w104 : sI (stI (stI (stI (stI (stI (stI (stI S69 h 2 0) h 3 300) h 4 0) h 5 0) h 6 0) h 7 0) h 8 0) h 2 = 0 := (iI_k (by decide)).trans w98
  have w105 : sI (stI (stI (stI (stI (stI (stI (stI S69 h 2 0) h 3 300) h 4 0) h 5 0) h 6 0) h 7 0) h 8 0) h 3 = 300 := (iI_k (by decide)).trans w99
  have w106 : sI (stI (stI (stI (stI (stI (stI (stI S69 h 2 0) h 3 300) h 4 0) h 5 0) h 6 0) h 7 0) h 8 0) h 4 = 0 := (iI_k (by decide)).trans w100
  have w107 : sI (stI (stI (stI (stI (stI (stI (stI S69 h 2 0) h 3 300) h 4 0) h 5 0) h 6 0) h 7 0) h 8 0) h 5 = 0 := (iI_k (by decide)).trans w101
  have w108 : sI (stI (stI (stI (stI (stI (stI (stI S69 h 2 0) h 3 300) h 4 0) h 5 0) h 6 0) h 7 0) h 8 0) h 6 = 0 := (iI_k (by decide)).trans w102
  have w109 : sI (stI (stI (stI (stI (stI (stI (stI S69 h 2 0) h 3 300) h 4 0) h 5 0) h 6 0) h 7 0) h 8 0) h 7 = 0 := (iI_k (by decide)).trans w103
  have w110 : sI (stI (stI (stI (stI (stI (stI (stI S69 h 2 0) h 3 300) h 4 0) h 5 0) h 6 0) h 7 0) h 8 0) h 8 = 0 := iI_s
  clear w98 w99 w100 w101 w102 w103
  refine lv_aload_n hx hb dX1_init_63 rfl (lv_at hl 0 rfl) ?_
  refine lv_iconst (v := 0) hx hb dX1_init_64 (by decide) ?_
  refine pg_pi (ci := 1) (C := RX1) (T := TX1) (N := 10) hx hb hts wi1 tyX1 tyX1_ok nmX1 hown hK hW hS k70 (by decide) rfl 9 (by decide) (hts (.fieldLink RX1 43 "IceHall$Ice" "toFlood" "I") (by decide +kernel)) (fun _ h9 => h9) rfl rfl rfl dX1_init_65 (fun H locs hW hS => ?_)
  have hX : Kx [h] S (stI (stI (stI (stI (stI (stI (stI (stI S69 h 2 0) h 3 300) h 4 0) h 5 0) h 6 0) h 7 0) h 8 0) h 9 0) := hX.Ih List.mem_cons_self
  have w111 : sI (stI (stI (stI (stI (stI (stI (stI (stI S69 h 2 0) h 3 300) h 4 0) h 5 0) h 6 0) h 7 0) h 8 0) h 9 0) h 2 = 0 := (iI_k (by decide)).trans w104
  have w112 : sI (stI (stI (stI (stI (stI (stI (stI (stI S69 h 2 0) h 3 300) h 4 0) h 5 0) h 6 0) h 7 0) h 8 0) h 9 0) h 3 = 300 := (iI_k (by decide)).trans w105
  have w113 : sI (stI (stI (stI (stI (stI (stI (stI (stI S69 h 2 0) h 3 300) h 4 0) h 5 0) h 6 0) h 7 0) h 8 0) h 9 0) h 4 = 0 := (iI_k (by decide)).trans w106
  have w114 : sI (stI (stI (stI (stI (stI (stI (stI (stI S69 h 2 0) h 3 300) h 4 0) h 5 0) h 6 0) h 7 0) h 8 0) h 9 0) h 5 = 0 := (iI_k (by decide)).trans w107
  have w115 : sI (stI (stI (stI (stI (stI (stI (stI (stI S69 h 2 0) h 3 300) h 4 0) h 5 0) h 6 0) h 7 0) h 8 0) h 9 0) h 6 = 0 := (iI_k (by decide)).trans w108
  have w116 : sI (stI (stI (stI (stI (stI (stI (stI (stI S69 h 2 0) h 3 300) h 4 0) h 5 0) h 6 0) h 7 0) h 8 0) h 9 0) h 7 = 0 := (iI_k (by decide)).trans w109
  have w117 : sI (stI (stI (stI (stI (stI (stI (stI (stI S69 h 2 0) h 3 300) h 4 0) h 5 0) h 6 0) h 7 0) h 8 0) h 9 0) h 8 = 0 := (iI_k (by decide)).trans w110
  have w118 : sI (stI (stI (stI (stI (stI (stI (stI (stI S69 h 2 0) h 3 300) h 4 0) h 5 0) h 6 0) h 7 0) h 8 0) h 9 0) h 9 = 0 := iI_s
  clear w104 w105 w106 w107 w108 w109 w110
  exact pc_vret (S := stI (stI (stI (stI (stI (stI (stI (stI S69 h 2 0) h 3 300) h 4 0) h 5 0) h 6 0) h 7 0) h 8 0) h 9 0) hx hb hr hlk hK hZ hA hW hS (⟨hX, q1, o4, z13, o16, q30, o33, z58, o63, k70, r75, k71, r76, k72, n78, w80, r82, k73, r77, k74, n79, w81, w111, w112, w113, w114, w115, w116, w117, w118⟩) dX1_init_68
set_option maxHeartbeats 4000000 in
set_option maxRecDepth 100000 in
theorem c_X4_init (l : Launch) (D : va_G) (cy : Nat → ClassId) (A : Nat → Prop) (S : St) (h : Nat) (hk : sK S h = 4) : MV l yX4_init wsX4_init ({ frames := 1, cells := 0, slots := 0, locals := 60 } : Room) 0 0 D cy A [.ref h] S (fun S1 => Kx [h] S S1 ∧ sK S1 h = 4 ∧ sI S1 h 0 = 16777215 ∧ sI S1 h 1 = 127 ∧ sI S1 h 2 = 15 ∧ sI S1 h 3 = 168 ∧ sI S1 h 4 = 100 ∧ sI S1 h 5 = 50) := by
  refine mt_start (cc := cX4_init) (maxL := 1) (ret := none) (by decide) rfl (Nat.le_of_ble_eq_true rfl) ?_
  intro p e s m args below meth c hx hb hr hlk hml hown hnm hts hK hZ hA hW hS ls hl
  have hl : lv_has ls 1 [(0, .ref h)] := hl
  have hown : s.vm.findClass RX4 = some m.cls := hown
  have F : CallFix p m c cX4_init 1 s args wsX4_init RX4 := ⟨hx, hb, hml, hown, hts⟩
  have wi4 : ∀ w ∈ u_ws RX4 TX4 6, w ∈ wsX4_init := by decide +kernel
  have hX : Kx [h] S S := Kx.rf _ S
  refine lv_aload_n hx hb dX4_init_0 rfl (lv_at hl 0 rfl) ?_
  refine W.objInit hx hb hown (hts (.methodLink RX4 3 objectInit) (by decide +kernel)) (hts (.instanceMethod objectInit) (by decide +kernel)) (hts (.code objectInit ⟨#[0xb1]⟩ 1 none) (by decide +kernel)) rfl (by rw [hml]; exact hl.1) rfl dX4_init_1 (Nat.le_of_ble_eq_true rfl) (Nat.le_of_ble_eq_true rfl) ?_
  refine W.eq (g2 := F0 m 4 ls []) rfl ?_
  refine lv_aload_n hx hb dX4_init_4 rfl (lv_at hl 0 rfl) ?_
  refine lv_ldc (v := (16777215)) hx hb hown (hts (.constant RX4 11 (16777215)) (by decide +kernel)) dX4_init_5 ?_
  refine pg_pi (ci := 4) (C := RX4) (T := TX4) (N := 6) hx hb hts wi4 tyX4 tyX4_ok nmX4 hown hK hW hS hk (by decide) rfl 0 (by decide) (hts (.fieldLink RX4 12 "IceHall$Rights" "clocks" "I") (by decide +kernel)) (fun _ h9 => h9) rfl rfl rfl dX4_init_7 (fun H locs hW hS => ?_)
  have hX : Kx [h] S (stI S h 0 ((16777215))) := hX.Ih List.mem_cons_self
  have w1 : sI (stI S h 0 ((16777215))) h 0 = (16777215) := iI_s
  refine lv_aload_n hx hb dX4_init_10 rfl (lv_at hl 0 rfl) ?_
  refine lv_bipush (v := 127) hx hb dX4_init_11 (by decide) ?_
  refine pg_pi (ci := 4) (C := RX4) (T := TX4) (N := 6) hx hb hts wi4 tyX4 tyX4_ok nmX4 hown hK hW hS hk (by decide) rfl 1 (by decide) (hts (.fieldLink RX4 16 "IceHall$Rights" "days" "I") (by decide +kernel)) (fun _ h9 => h9) rfl rfl rfl dX4_init_13 (fun H locs hW hS => ?_)
  have hX : Kx [h] S (stI (stI S h 0 ((16777215))) h 1 127) := hX.Ih List.mem_cons_self
  have w2 : sI (stI (stI S h 0 ((16777215))) h 1 127) h 0 = (16777215) := (iI_k (by decide)).trans w1
  have w3 : sI (stI (stI S h 0 ((16777215))) h 1 127) h 1 = 127 := iI_s
  clear w1
  refine lv_aload_n hx hb dX4_init_16 rfl (lv_at hl 0 rfl) ?_
  refine lv_bipush (v := 15) hx hb dX4_init_17 (by decide) ?_
  refine pg_pi (ci := 4) (C := RX4) (T := TX4) (N := 6) hx hb hts wi4 tyX4 tyX4_ok nmX4 hown hK hW hS hk (by decide) rfl 2 (by decide) (hts (.fieldLink RX4 19 "IceHall$Rights" "kinds" "I") (by decide +kernel)) (fun _ h9 => h9) rfl rfl rfl dX4_init_19 (fun H locs hW hS => ?_)
  have hX : Kx [h] S (stI (stI (stI S h 0 ((16777215))) h 1 127) h 2 15) := hX.Ih List.mem_cons_self
  have w4 : sI (stI (stI (stI S h 0 ((16777215))) h 1 127) h 2 15) h 0 = (16777215) := (iI_k (by decide)).trans w2
  have w5 : sI (stI (stI (stI S h 0 ((16777215))) h 1 127) h 2 15) h 1 = 127 := (iI_k (by decide)).trans w3
  have w6 : sI (stI (stI (stI S h 0 ((16777215))) h 1 127) h 2 15) h 2 = 15 := iI_s
  clear w2 w3
  refine lv_aload_n hx hb dX4_init_22 rfl (lv_at hl 0 rfl) ?_
  refine lv_sipush (v := 168) hx hb dX4_init_23 (by decide) ?_
  refine pg_pi (ci := 4) (C := RX4) (T := TX4) (N := 6) hx hb hts wi4 tyX4 tyX4_ok nmX4 hown hK hW hS hk (by decide) rfl 3 (by decide) (hts (.fieldLink RX4 22 "IceHall$Rights" "inWeek" "I") (by decide +kernel)) (fun _ h9 => h9) rfl rfl rfl dX4_init_26 (fun H locs hW hS => ?_)
  have hX : Kx [h] S (stI (stI (stI (stI S h 0 ((16777215))) h 1 127) h 2 15) h 3 168) := hX.Ih List.mem_cons_self
  have w7 : sI (stI (stI (stI (stI S h 0 ((16777215))) h 1 127) h 2 15) h 3 168) h 0 = (16777215) := (iI_k (by decide)).trans w4
  have w8 : sI (stI (stI (stI (stI S h 0 ((16777215))) h 1 127) h 2 15) h 3 168) h 1 = 127 := (iI_k (by decide)).trans w5
  have w9 : sI (stI (stI (stI (stI S h 0 ((16777215))) h 1 127) h 2 15) h 3 168) h 2 = 15 := (iI_k (by decide)).trans w6
  have w10 : sI (stI (stI (stI (stI S h 0 ((16777215))) h 1 127) h 2 15) h 3 168) h 3 = 168 := iI_s
  clear w4 w5 w6
  refine lv_aload_n hx hb dX4_init_29 rfl (lv_at hl 0 rfl) ?_
  refine lv_bipush (v := 100) hx hb dX4_init_30 (by decide) ?_
  refine pg_pi (ci := 4) (C := RX4) (T := TX4) (N := 6) hx hb hts wi4 tyX4 tyX4_ok nmX4 hown hK hW hS hk (by decide) rfl 4 (by decide) (hts (.fieldLink RX4 25 "IceHall$Rights" "fee" "I") (by decide +kernel)) (fun _ h9 => h9) rfl rfl rfl dX4_init_32 (fun H locs hW hS => ?_)
  have hX : Kx [h] S (stI (stI (stI (stI (stI S h 0 ((16777215))) h 1 127) h 2 15) h 3 168) h 4 100) := hX.Ih List.mem_cons_self
  have w11 : sI (stI (stI (stI (stI (stI S h 0 ((16777215))) h 1 127) h 2 15) h 3 168) h 4 100) h 0 = (16777215) := (iI_k (by decide)).trans w7
  have w12 : sI (stI (stI (stI (stI (stI S h 0 ((16777215))) h 1 127) h 2 15) h 3 168) h 4 100) h 1 = 127 := (iI_k (by decide)).trans w8
  have w13 : sI (stI (stI (stI (stI (stI S h 0 ((16777215))) h 1 127) h 2 15) h 3 168) h 4 100) h 2 = 15 := (iI_k (by decide)).trans w9
  have w14 : sI (stI (stI (stI (stI (stI S h 0 ((16777215))) h 1 127) h 2 15) h 3 168) h 4 100) h 3 = 168 := (iI_k (by decide)).trans w10
  have w15 : sI (stI (stI (stI (stI (stI S h 0 ((16777215))) h 1 127) h 2 15) h 3 168) h 4 100) h 4 = 100 := iI_s
  clear w7 w8 w9 w10
  refine lv_aload_n hx hb dX4_init_35 rfl (lv_at hl 0 rfl) ?_
  refine lv_bipush (v := 50) hx hb dX4_init_36 (by decide) ?_
  refine pg_pi (ci := 4) (C := RX4) (T := TX4) (N := 6) hx hb hts wi4 tyX4 tyX4_ok nmX4 hown hK hW hS hk (by decide) rfl 5 (by decide) (hts (.fieldLink RX4 28 "IceHall$Rights" "hundredths" "I") (by decide +kernel)) (fun _ h9 => h9) rfl rfl rfl dX4_init_38 (fun H locs hW hS => ?_)
  have hX : Kx [h] S (stI (stI (stI (stI (stI (stI S h 0 ((16777215))) h 1 127) h 2 15) h 3 168) h 4 100) h 5 50) := hX.Ih List.mem_cons_self
  have w16 : sI (stI (stI (stI (stI (stI (stI S h 0 ((16777215))) h 1 127) h 2 15) h 3 168) h 4 100) h 5 50) h 0 = (16777215) := (iI_k (by decide)).trans w11
  have w17 : sI (stI (stI (stI (stI (stI (stI S h 0 ((16777215))) h 1 127) h 2 15) h 3 168) h 4 100) h 5 50) h 1 = 127 := (iI_k (by decide)).trans w12
  have w18 : sI (stI (stI (stI (stI (stI (stI S h 0 ((16777215))) h 1 127) h 2 15) h 3 168) h 4 100) h 5 50) h 2 = 15 := (iI_k (by decide)).trans w13
  have w19 : sI (stI (stI (stI (stI (stI (stI S h 0 ((16777215))) h 1 127) h 2 15) h 3 168) h 4 100) h 5 50) h 3 = 168 := (iI_k (by decide)).trans w14
  have w20 : sI (stI (stI (stI (stI (stI (stI S h 0 ((16777215))) h 1 127) h 2 15) h 3 168) h 4 100) h 5 50) h 4 = 100 := (iI_k (by decide)).trans w15
  have w21 : sI (stI (stI (stI (stI (stI (stI S h 0 ((16777215))) h 1 127) h 2 15) h 3 168) h 4 100) h 5 50) h 5 = 50 := iI_s
  clear w11 w12 w13 w14 w15
  exact pc_vret (S := stI (stI (stI (stI (stI (stI S h 0 ((16777215))) h 1 127) h 2 15) h 3 168) h 4 100) h 5 50) hx hb hr hlk hK hZ hA hW hS (⟨hX, hk, w16, w17, w18, w19, w20, w21⟩) dX4_init_41
set_option maxHeartbeats 4000000 in
set_option maxRecDepth 100000 in
theorem c_X7_init (l : Launch) (D : va_G) (cy : Nat → ClassId) (A : Nat → Prop) (S : St) (h : Nat) (hk : sK S h = 7) : MV l yX7_init wsX7_init ({ frames := 1, cells := 1, slots := 80, locals := 60 } : Room) 1 80 D cy A [.ref h] S (fun S1 => Kx [h] S S1 ∧ ∃ w, 16 ≤ sK S w ∧ sK S1 h = 7 ∧ sR S1 h 0 = some w ∧ sK S1 w = 10 ∧ sL S1 w = 80 ∧ (∀ j, j < 80 → sI S1 w j = 0) ∧ sI S1 h 1 = 0) := by
  refine mt_start (cc := cX7_init) (maxL := 1) (ret := none) (by decide) rfl (Nat.le_of_ble_eq_true rfl) ?_
  intro p e s m args below meth c hx hb hr hlk hml hown hnm hts hK hZ hA hW hS ls hl
  have hl : lv_has ls 1 [(0, .ref h)] := hl
  have hown : s.vm.findClass RX7 = some m.cls := hown
  have F : CallFix p m c cX7_init 1 s args wsX7_init RX7 := ⟨hx, hb, hml, hown, hts⟩
  have wi7 : ∀ w ∈ u_ws RX7 TX7 2, w ∈ wsX7_init := by decide +kernel
  have hX : Kx [h] S S := Kx.rf _ S
  refine lv_aload_n hx hb dX7_init_0 rfl (lv_at hl 0 rfl) ?_
  refine W.objInit hx hb hown (hts (.methodLink RX7 3 objectInit) (by decide +kernel)) (hts (.instanceMethod objectInit) (by decide +kernel)) (hts (.code objectInit ⟨#[0xb1]⟩ 1 none) (by decide +kernel)) rfl (by rw [hml]; exact hl.1) rfl dX7_init_1 (Nat.le_of_ble_eq_true rfl) (Nat.le_of_ble_eq_true rfl) ?_
  refine W.eq (g2 := F0 m 4 ls []) rfl ?_
  refine lv_aload_n hx hb dX7_init_4 rfl (lv_at hl 0 rfl) ?_
  refine lv_bipush (v := 80) hx hb dX7_init_5 (by decide) ?_
  refine pg_newa (atype := .byte) (ty := .byte) (kd := 10) (t0 := 0) (N' := 80) hx hb (hts (.arrayClass .byte) (by decide +kernel)) rfl rfl (Or.inr (Or.inl rfl)) (by decide) hK hW hS hA (fun _ => rfl) (by decide) (by decide) (Nat.le_of_ble_eq_true rfl) (Nat.le_of_ble_eq_true rfl) (Nat.le_of_ble_eq_true rfl) dX7_init_7 (fun q1 H hq1 hW hS => ?_)
  have f3 : Ap h q1 := ap_k hk hq1 (by decide)
  have o4 : 16 ≤ sK S q1 := hX.old hq1 (ni_c (ap_s f3) ni_0)
  have hX : Kx [h] S (stN S q1 10 80) := hX.N hq1
  obtain ⟨S2, eS2⟩ : ∃ T : St, T = stN S q1 10 80 := ⟨_, rfl⟩
  rw [← eS2] at hW hX
  obtain ⟨k5, d6⟩ := fk_N (a := h) eS2 hk (by decide) hq1
  have w7 : ∀ j, j < 80 → sI S2 q1 j = 0 := fun j _ => by rw [eS2, iN, if_pos rfl]
  have k8 : sK S2 q1 = 10 := by rw [eS2, kN, if_pos rfl]
  have n9 : sL S2 q1 = 80 := by rw [eS2, lNw, if_pos rfl]
  refine pg_pr (ci := 7) (C := RX7) (T := TX7) (N := 2) hx hb hts wi7 tyX7 tyX7_ok nmX7 hown hK hW hS k5 (by decide) rfl 0 (by decide) (hts (.fieldLink RX7 9 "IceHall$Tape" "bytes" "[B") (by decide +kernel)) (fun _ h9 => h9) rfl hnm rfl rfl rfl rfl dX7_init_9 (fun H locs hW hS => ?_)
  have hX : Kx [h] S (stR S2 h 0 (some q1)) := hX.Rh List.mem_cons_self
  obtain ⟨S10, eS10⟩ : ∃ T : St, T = stR S2 h 0 (some q1) := ⟨_, rfl⟩
  rw [← eS10] at hW hX
  have k11 : sK S10 h = 7 := by rw [eS10]; exact k5
  have k12 : sK S10 q1 = 10 := by rw [eS10]; exact k8
  have n13 : sL S10 q1 = 80 := by rw [eS10]; exact n9
  have w14 : ∀ j, j < 80 → sI S10 q1 j = 0 := fun j hj => by rw [eS10]; exact w7 j hj 
  have r15 : sR S10 h 0 = some q1 := by rw [eS10, rR, if_pos rfl, if_pos rfl]
  clear k5 k8 n9 w7
  refine lv_aload_n hx hb dX7_init_12 rfl (lv_at hl 0 rfl) ?_
  refine lv_iconst (v := 0) hx hb dX7_init_13 (by decide) ?_
  refine pg_pi (ci := 7) (C := RX7) (T := TX7) (N := 2) hx hb hts wi7 tyX7 tyX7_ok nmX7 hown hK hW hS k11 (by decide) rfl 1 (by decide) (hts (.fieldLink RX7 15 "IceHall$Tape" "size" "I") (by decide +kernel)) (fun _ h9 => h9) rfl rfl rfl dX7_init_14 (fun H locs hW hS => ?_)
  have hX : Kx [h] S (stI S10 h 1 0) := hX.Ih List.mem_cons_self
  have w16 : sI (stI S10 h 1 0) h 1 = 0 := iI_s
  have w17 : ∀ j, j < 80 → sI (stI S10 h 1 0) q1 j = 0 := fun j hj => (iI_a (fk_ne k12 k11 (by decide))).trans (w14 j hj)
  clear w14
  exact pc_vret (S := stI S10 h 1 0) hx hb hr hlk hK hZ hA hW hS (⟨hX, q1, o4, k11, r15, k12, n13, w17, w16⟩) dX7_init_17
set_option maxHeartbeats 4000000 in
set_option maxRecDepth 100000 in
theorem c_X5_init (l : Launch) (D : va_G) (cy : Nat → ClassId) (A : Nat → Prop) (S : St) (h t : Nat) (hk : sK S h = 5) (ht : sK S t = 7) (z1 : sI S h 1 = 0) (z2 : sI S h 2 = 0) (z3 : sI S h 3 = 0) : MV l yX5_init wsX5_init ({ frames := 1, cells := 0, slots := 0, locals := 60 } : Room) 0 0 D cy A [.ref h, .ref t] S (fun S1 => Kx [h] S S1 ∧ sK S1 h = 5 ∧ sR S1 h 0 = some t ∧ sI S1 h 1 = 0 ∧ sI S1 h 2 = 0 ∧ sI S1 h 3 = 0) := by
  refine mt_start (cc := cX5_init) (maxL := 2) (ret := none) (by decide) rfl (Nat.le_of_ble_eq_true rfl) ?_
  intro p e s m args below meth c hx hb hr hlk hml hown hnm hts hK hZ hA hW hS ls hl
  have hl : lv_has ls 2 [(0, .ref h), (1, .ref t)] := hl
  have hown : s.vm.findClass RX5 = some m.cls := hown
  have F : CallFix p m c cX5_init 2 s args wsX5_init RX5 := ⟨hx, hb, hml, hown, hts⟩
  have wi5 : ∀ w ∈ u_ws RX5 TX5 4, w ∈ wsX5_init := by decide +kernel
  have hX : Kx [h] S S := Kx.rf _ S
  refine lv_aload_n hx hb dX5_init_0 rfl (lv_at hl 0 rfl) ?_
  refine W.objInit hx hb hown (hts (.methodLink RX5 3 objectInit) (by decide +kernel)) (hts (.instanceMethod objectInit) (by decide +kernel)) (hts (.code objectInit ⟨#[0xb1]⟩ 1 none) (by decide +kernel)) rfl (by rw [hml]; exact hl.1) rfl dX5_init_1 (Nat.le_of_ble_eq_true rfl) (Nat.le_of_ble_eq_true rfl) ?_
  refine W.eq (g2 := F0 m 4 ls []) rfl ?_
  refine lv_aload_n hx hb dX5_init_4 rfl (lv_at hl 0 rfl) ?_
  refine lv_aload_n hx hb dX5_init_5 rfl (lv_at hl 1 rfl) ?_
  refine pg_pr (ci := 5) (C := RX5) (T := TX5) (N := 4) hx hb hts wi5 tyX5 tyX5_ok nmX5 hown hK hW hS hk (by decide) rfl 0 (by decide) (hts (.fieldLink RX5 9 "IceHall$RightsReader" "tape" "LIceHall$Tape;") (by decide +kernel)) (fun _ h9 => h9) rfl hnm rfl rfl rfl rfl dX5_init_6 (fun H locs hW hS => ?_)
  have hX : Kx [h] S (stR S h 0 (some t)) := hX.Rh List.mem_cons_self
  obtain ⟨S1, eS1⟩ : ∃ T : St, T = stR S h 0 (some t) := ⟨_, rfl⟩
  rw [← eS1] at hW hX
  have k2 : sK S1 h = 5 := by rw [eS1]; exact hk
  have k3 : sK S1 t = 7 := by rw [eS1]; exact ht
  have w4 : sI S1 h 1 = 0 := by rw [eS1]; exact z1
  have w5 : sI S1 h 2 = 0 := by rw [eS1]; exact z2
  have w6 : sI S1 h 3 = 0 := by rw [eS1]; exact z3
  have r7 : sR S1 h 0 = some t := by rw [eS1, rR, if_pos rfl, if_pos rfl]
  exact pc_vret (S := S1) hx hb hr hlk hK hZ hA hW hS (⟨hX, k2, r7, w4, w5, w6⟩) dX5_init_9
set_option maxHeartbeats 4000000 in
set_option maxRecDepth 100000 in
theorem c_X2_init (l : Launch) (D : va_G) (cy : Nat → ClassId) (A : Nat → Prop) (S : St) (h f g : Nat) (hk : sK S h = 2) (hf : sK S f = 1) (hg : sK S g = 1) (z6 : sI S h 6 = 0) (z7 : sI S h 7 = 0) (z8 : sI S h 8 = 0) (z9 : sI S h 9 = 0) : MV l yX2_init wsX2_init ({ frames := 1, cells := 4, slots := 21, locals := 60 } : Room) 4 21 D cy A [.ref h, .ref f, .ref g] S (fun S1 => Kx [h] S S1 ∧ ∃ mv, 16 ≤ sK S mv ∧ ∃ rw_, 16 ≤ sK S rw_ ∧ ∃ br, 16 ≤ sK S br ∧ ∃ lf, 16 ≤ sK S lf ∧ sK S1 h = 2 ∧ sR S1 h 0 = some f ∧ sR S1 h 1 = some g ∧ sR S1 h 2 = some mv ∧ sK S1 mv = 15 ∧ sL S1 mv = 5 ∧ sR S1 h 3 = some rw_ ∧ sK S1 rw_ = 11 ∧ sL S1 rw_ = 5 ∧ sR S1 h 4 = some br ∧ sK S1 br = 11 ∧ sL S1 br = 5 ∧ sR S1 h 5 = some lf ∧ sK S1 lf = 11 ∧ sL S1 lf = 6 ∧ sI S1 h 6 = 0 ∧ sI S1 h 7 = 0 ∧ sI S1 h 8 = 0 ∧ sI S1 h 9 = 0) := by
  refine mt_start (cc := cX2_init) (maxL := 3) (ret := none) (by decide) rfl (Nat.le_of_ble_eq_true rfl) ?_
  intro p e s m args below meth c hx hb hr hlk hml hown hnm hts hK hZ hA hW hS ls hl
  have hl : lv_has ls 3 [(0, .ref h), (1, .ref f), (2, .ref g)] := hl
  have hown : s.vm.findClass RX2 = some m.cls := hown
  have F : CallFix p m c cX2_init 3 s args wsX2_init RX2 := ⟨hx, hb, hml, hown, hts⟩
  have wi2 : ∀ w ∈ u_ws RX2 TX2 10, w ∈ wsX2_init := by decide +kernel
  have hX : Kx [h] S S := Kx.rf _ S
  refine lv_aload_n hx hb dX2_init_0 rfl (lv_at hl 0 rfl) ?_
  refine W.objInit hx hb hown (hts (.methodLink RX2 3 objectInit) (by decide +kernel)) (hts (.instanceMethod objectInit) (by decide +kernel)) (hts (.code objectInit ⟨#[0xb1]⟩ 1 none) (by decide +kernel)) rfl (by rw [hml]; exact hl.1) rfl dX2_init_1 (Nat.le_of_ble_eq_true rfl) (Nat.le_of_ble_eq_true rfl) ?_
  refine W.eq (g2 := F0 m 4 ls []) rfl ?_
  refine lv_aload_n hx hb dX2_init_4 rfl (lv_at hl 0 rfl) ?_
  refine lv_iconst (v := 5) hx hb dX2_init_5 (by decide) ?_
  refine pg_newq (kd := 15) (t0 := 5) (N' := 5) hx hb hown (hts (.classLink RX2 9 RX6) (by decide +kernel)) hZ.2.2.2.2.2.2.2.2.2.2.2.2.2.2.2 rfl (by decide) hK hW hS hA (by decide) (by decide) (Nat.le_of_ble_eq_true rfl) (Nat.le_of_ble_eq_true rfl) (Nat.le_of_ble_eq_true rfl) dX2_init_6 (fun q1 H hq1 hW hS => ?_)
  have f3 : Ap h q1 := ap_k hk hq1 (by decide)
  have o4 : 16 ≤ sK S q1 := hX.old hq1 (ni_c (ap_s f3) ni_0)
  have hX : Kx [h] S (stN S q1 15 5) := hX.N hq1
  obtain ⟨S2, eS2⟩ : ∃ T : St, T = stN S q1 15 5 := ⟨_, rfl⟩
  rw [← eS2] at hW hX
  obtain ⟨k5, d6⟩ := fk_N (a := h) eS2 hk (by decide) hq1
  obtain ⟨k7, d8⟩ := fk_N (a := f) eS2 hf (by decide) hq1
  obtain ⟨k9, d10⟩ := fk_N (a := g) eS2 hg (by decide) hq1
  have w11 : sI S2 h 6 = 0 := by rw [eS2, iN, if_neg d6]; exact z6
  have w12 : sI S2 h 7 = 0 := by rw [eS2, iN, if_neg d6]; exact z7
  have w13 : sI S2 h 8 = 0 := by rw [eS2, iN, if_neg d6]; exact z8
  have w14 : sI S2 h 9 = 0 := by rw [eS2, iN, if_neg d6]; exact z9
  have w15 : ∀ j, j < 5 → sR S2 q1 j = none := fun j _ => by rw [eS2, rN, if_pos rfl]
  have k16 : sK S2 q1 = 15 := by rw [eS2, kN, if_pos rfl]
  have n17 : sL S2 q1 = 5 := by rw [eS2, lNw, if_pos rfl]
  refine pg_pr (ci := 2) (C := RX2) (T := TX2) (N := 10) hx hb hts wi2 tyX2 tyX2_ok nmX2 hown hK hW hS k5 (by decide) rfl 2 (by decide) (hts (.fieldLink RX2 11 "IceHall$Mover" "moved" "[LIceHall$Session;") (by decide +kernel)) (fun _ h9 => h9) rfl hnm rfl rfl rfl rfl dX2_init_9 (fun H locs hW hS => ?_)
  have hX : Kx [h] S (stR S2 h 2 (some q1)) := hX.Rh List.mem_cons_self
  obtain ⟨S18, eS18⟩ : ∃ T : St, T = stR S2 h 2 (some q1) := ⟨_, rfl⟩
  rw [← eS18] at hW hX
  have k19 : sK S18 h = 2 := by rw [eS18]; exact k5
  have k20 : sK S18 f = 1 := by rw [eS18]; exact k7
  have k21 : sK S18 g = 1 := by rw [eS18]; exact k9
  have k22 : sK S18 q1 = 15 := by rw [eS18]; exact k16
  have n23 : sL S18 q1 = 5 := by rw [eS18]; exact n17
  have w24 : sI S18 h 6 = 0 := by rw [eS18]; exact w11
  have w25 : sI S18 h 7 = 0 := by rw [eS18]; exact w12
  have w26 : sI S18 h 8 = 0 := by rw [eS18]; exact w13
  have w27 : sI S18 h 9 = 0 := by rw [eS18]; exact w14
  have w28 : ∀ j, j < 5 → sR S18 q1 j = none := fun j hj => by rw [eS18, rR, if_neg (fk_ne k22 k19 (by decide))]; exact w15 j hj 
  have r29 : sR S18 h 2 = some q1 := by rw [eS18, rR, if_pos rfl, if_pos rfl]
  clear k5 k7 k9 k16 n17 w11 w12 w13 w14 w15
  refine lv_aload_n hx hb dX2_init_12 rfl (lv_at hl 0 rfl) ?_
  refine lv_iconst (v := 5) hx hb dX2_init_13 (by decide) ?_
  refine pg_newa (atype := .int) (ty := .int) (kd := 11) (t0 := 1) (N' := 5) hx hb (hts (.arrayClass .int) (by decide +kernel)) rfl rfl (Or.inl rfl) (by decide) hK hW hS hA (fun _ => rfl) (by decide) (by decide) (Nat.le_of_ble_eq_true rfl) (Nat.le_of_ble_eq_true rfl) (Nat.le_of_ble_eq_true rfl) dX2_init_14 (fun q30 H hq30 hW hS => ?_)
  have f32 : Ap h q30 := ap_k k19 hq30 (by decide)
  have o33 : 16 ≤ sK S q30 := hX.old hq30 (ni_c (ap_s f32) ni_0)
  have hX : Kx [h] S (stN S18 q30 11 5) := hX.N hq30
  obtain ⟨S31, eS31⟩ : ∃ T : St, T = stN S18 q30 11 5 := ⟨_, rfl⟩
  rw [← eS31] at hW hX
  obtain ⟨k34, d35⟩ := fk_N (a := h) eS31 k19 (by decide) hq30
  obtain ⟨k36, d37⟩ := fk_N (a := f) eS31 k20 (by decide) hq30
  obtain ⟨k38, d39⟩ := fk_N (a := g) eS31 k21 (by decide) hq30
  obtain ⟨k40, d41⟩ := fk_N (a := q1) eS31 k22 (by decide) hq30
  have r42 : sR S31 h 2 = some q1 := by rw [eS31, rN, if_neg d35]; exact r29
  have n43 : sL S31 q1 = 5 := by rw [eS31, lNw, if_neg d41]; exact n23
  have w44 : sI S31 h 6 = 0 := by rw [eS31, iN, if_neg d35]; exact w24
  have w45 : sI S31 h 7 = 0 := by rw [eS31, iN, if_neg d35]; exact w25
  have w46 : sI S31 h 8 = 0 := by rw [eS31, iN, if_neg d35]; exact w26
  have w47 : sI S31 h 9 = 0 := by rw [eS31, iN, if_neg d35]; exact w27
  have w48 : ∀ j, j < 5 → sR S31 q1 j = none := fun j hj => by rw [eS31, rN, if_neg d41]; exact w28 j hj 
  have w49 : ∀ j, j < 5 → sI S31 q30 j = 0 := fun j _ => by rw [eS31, iN, if_pos rfl]
  have k50 : sK S31 q30 = 11 := by rw [eS31, kN, if_pos rfl]
  have n51 : sL S31 q30 = 5 := by rw [eS31, lNw, if_pos rfl]
  clear k19 k20 k21 k22 r29 n23 w24 w25 w26 w27 w28
  refine pg_pr (ci := 2) (C := RX2) (T := TX2) (N := 10) hx hb hts wi2 tyX2 tyX2_ok nmX2 hown hK hW hS k34 (by decide) rfl 3 (by decide) (hts (.fieldLink RX2 17 "IceHall$Mover" "row" "[I") (by decide +kernel)) (fun _ h9 => h9) rfl hnm rfl rfl rfl rfl dX2_init_16 (fun H locs hW hS => ?_)
  have hX : Kx [h] S (stR S31 h 3 (some q30)) := hX.Rh List.mem_cons_self
  obtain ⟨S52, eS52⟩ : ∃ T : St, T = stR S31 h 3 (some q30) := ⟨_, rfl⟩
  rw [← eS52] at hW hX
  have k53 : sK S52 h = 2 := by rw [eS52]; exact k34
  have k54 : sK S52 f = 1 := by rw [eS52]; exact k36
  have k55 : sK S52 g = 1 := by rw [eS52]; exact k38
  have k56 : sK S52 q1 = 15 := by rw [eS52]; exact k40
  have k57 : sK S52 q30 = 11 := by rw [eS52]; exact k50
  have r58 : sR S52 h 2 = some q1 := by rw [eS52, rR, if_pos rfl, if_neg (by decide)]; exact r42
  have n59 : sL S52 q1 = 5 := by rw [eS52]; exact n43
  have n60 : sL S52 q30 = 5 := by rw [eS52]; exact n51
  have w61 : sI S52 h 6 = 0 := by rw [eS52]; exact w44
  have w62 : sI S52 h 7 = 0 := by rw [eS52]; exact w45
  have w63 : sI S52 h 8 = 0 := by rw [eS52]; exact w46
  have w64 : sI S52 h 9 = 0 := by rw [eS52]; exact w47
  have w65 : ∀ j, j < 5 → sR S52 q1 j = none := fun j hj => by rw [eS52, rR, if_neg (fk_ne k56 k53 (by decide))]; exact w48 j hj 
  have w66 : ∀ j, j < 5 → sI S52 q30 j = 0 := fun j hj => by rw [eS52]; exact w49 j hj 
  have r67 : sR S52 h 3 = some q30 := by rw [eS52, rR, if_pos rfl, if_pos rfl]
  clear k34 k36 k38 k40 k50 r42 n43 n51 w44 w45 w46 w47 w48 w49
  refine lv_aload_n hx hb dX2_init_19 rfl (lv_at hl 0 rfl) ?_
  refine lv_iconst (v := 5) hx hb dX2_init_20 (by decide) ?_
  refine pg_newa (atype := .int) (ty := .int) (kd := 11) (t0 := 1) (N' := 5) hx hb (hts (.arrayClass .int) (by decide +kernel)) rfl rfl (Or.inl rfl) (by decide) hK hW hS hA (fun _ => rfl) (by decide) (by decide) (Nat.le_of_ble_eq_true rfl) (Nat.le_of_ble_eq_true rfl) (Nat.le_of_ble_eq_true rfl) dX2_init_21 (fun q68 H hq68 hW hS => ?_)
  have f70 : Ap h q68 := ap_k k53 hq68 (by decide)
  have o71 : 16 ≤ sK S q68 := hX.old hq68 (ni_c (ap_s f70) ni_0)
  have hX : Kx [h] S (stN S52 q68 11 5) := hX.N hq68
  obtain ⟨S69, eS69⟩ : ∃ T : St, T = stN S52 q68 11 5 := ⟨_, rfl⟩
  rw [← eS69] at hW hX
  obtain ⟨k72, d73⟩ := fk_N (a := h) eS69 k53 (by decide) hq68
  obtain ⟨k74, d75⟩ := fk_N (a := f) eS69 k54 (by decide) hq68
  obtain ⟨k76, d77⟩ := fk_N (a := g) eS69 k55 (by decide) hq68
  obtain ⟨k78, d79⟩ := fk_N (a := q1) eS69 k56 (by decide) hq68
  obtain ⟨k80, d81⟩ := fk_N (a := q30) eS69 k57 (by decide) hq68
  have r82 : sR S69 h 2 = some q1 := by rw [eS69, rN, if_neg d73]; exact r58
  have r83 : sR S69 h 3 = some q30 := by rw [eS69, rN, if_neg d73]; exact r67
  have n84 : sL S69 q1 = 5 := by rw [eS69, lNw, if_neg d79]; exact n59
  have n85 : sL S69 q30 = 5 := by rw [eS69, lNw, if_neg d81]; exact n60
  have w86 : sI S69 h 6 = 0 := by rw [eS69, iN, if_neg d73]; exact w61
  have w87 : sI S69 h 7 = 0 := by rw [eS69, iN, if_neg d73]; exact w62
  have w88 : sI S69 h 8 = 0 := by rw [eS69, iN, if_neg d73]; exact w63
  have w89 : sI S69 h 9 = 0 := by rw [eS69, iN, if_neg d73]; exact w64
  have w90 : ∀ j, j < 5 → sR S69 q1 j = none := fun j hj => by rw [eS69, rN, if_neg d79]; exact w65 j hj 
  have w91 : ∀ j, j < 5 → sI S69 q30 j = 0 := fun j hj => by rw [eS69, iN, if_neg d81]; exact w66 j hj 
  have w92 : ∀ j, j < 5 → sI S69 q68 j = 0 := fun j _ => by rw [eS69, iN, if_pos rfl]
  have k93 : sK S69 q68 = 11 := by rw [eS69, kN, if_pos rfl]
  have n94 : sL S69 q68 = 5 := by rw [eS69, lNw, if_pos rfl]
  clear k53 k54 k55 k56 k57 r58 r67 n59 n60 w61 w62 w63 w64 w65 w66
  refine pg_pr (ci := 2) (C := RX2) (T := TX2) (N := 10) hx hb hts wi2 tyX2 tyX2_ok nmX2 hown hK hW hS k72 (by decide) rfl 4 (by decide) (hts (.fieldLink RX2 21 "IceHall$Mover" "bestRow" "[I") (by decide +kernel)) (fun _ h9 => h9) rfl hnm rfl rfl rfl rfl dX2_init_23 (fun H locs hW hS => ?_)
  have hX : Kx [h] S (stR S69 h 4 (some q68)) := hX.Rh List.mem_cons_self
  obtain ⟨S95, eS95⟩ : ∃ T : St, T = stR S69 h 4 (some q68) := ⟨_, rfl⟩
  rw [← eS95] at hW hX
  have k96 : sK S95 h = 2 := by rw [eS95]; exact k72
  have k97 : sK S95 f = 1 := by rw [eS95]; exact k74
  have k98 : sK S95 g = 1 := by rw [eS95]; exact k76
  have k99 : sK S95 q1 = 15 := by rw [eS95]; exact k78
  have k100 : sK S95 q30 = 11 := by rw [eS95]; exact k80
  have k101 : sK S95 q68 = 11 := by rw [eS95]; exact k93
  have r102 : sR S95 h 2 = some q1 := by rw [eS95, rR, if_pos rfl, if_neg (by decide)]; exact r82
  have r103 : sR S95 h 3 = some q30 := by rw [eS95, rR, if_pos rfl, if_neg (by decide)]; exact r83
  have n104 : sL S95 q1 = 5 := by rw [eS95]; exact n84
  have n105 : sL S95 q30 = 5 := by rw [eS95]; exact n85
  have n106 : sL S95 q68 = 5 := by rw [eS95]; exact n94
  have w107 : sI S95 h 6 = 0 := by rw [eS95]; exact w86
  have w108 : sI S95 h 7 = 0 := by rw [eS95]; exact w87
  have w109 : sI S95 h 8 = 0 := by rw [eS95]; exact w88
  have w110 : sI S95 h 9 = 0 := by rw [eS95]; exact w89
  have w111 : ∀ j, j < 5 → sR S95 q1 j = none := fun j hj => by rw [eS95, rR, if_neg (fk_ne k99 k96 (by decide))]; exact w90 j hj 
  have w112 : ∀ j, j < 5 → sI S95 q30 j = 0 := fun j hj => by rw [eS95]; exact w91 j hj 
  have w113 : ∀ j, j < 5 → sI S95 q68 j = 0 := fun j hj => by rw [eS95]; exact w92 j hj 
  have r114 : sR S95 h 4 = some q68 := by rw [eS95, rR, if_pos rfl, if_pos rfl]
  clear k72 k74 k76 k78 k80 k93 r82 r83 n84 n85 n94 w86 w87 w88 w89 w90 w91 w92
  refine lv_aload_n hx hb dX2_init_26 rfl (lv_at hl 0 rfl) ?_
  refine lv_bipush (v := 6) hx hb dX2_init_27 (by decide) ?_
  refine pg_newa (atype := .int) (ty := .int) (kd := 11) (t0 := 1) (N' := 6) hx hb (hts (.arrayClass .int) (by decide +kernel)) rfl rfl (Or.inl rfl) (by decide) hK hW hS hA (fun _ => rfl) (by decide) (by decide) (Nat.le_of_ble_eq_true rfl) (Nat.le_of_ble_eq_true rfl) (Nat.le_of_ble_eq_true rfl) dX2_init_29 (fun q115 H hq115 hW hS => ?_)
  have f117 : Ap h q115 := ap_k k96 hq115 (by decide)
  have o118 : 16 ≤ sK S q115 := hX.old hq115 (ni_c (ap_s f117) ni_0)
  have hX : Kx [h] S (stN S95 q115 11 6) := hX.N hq115
  obtain ⟨S116, eS116⟩ : ∃ T : St, T = stN S95 q115 11 6 := ⟨_, rfl⟩
  rw [← eS116] at hW hX
  obtain ⟨k119, d120⟩ := fk_N (a := h) eS116 k96 (by decide) hq115
  obtain ⟨k121, d122⟩ := fk_N (a := f) eS116 k97 (by decide) hq115
  obtain ⟨k123, d124⟩ := fk_N (a := g) eS116 k98 (by decide) hq115
  obtain ⟨k125, d126⟩ := fk_N (a := q1) eS116 k99 (by decide) hq115
  obtain ⟨k127, d128⟩ := fk_N (a := q30) eS116 k100 (by decide) hq115
  obtain ⟨k129, d130⟩ := fk_N (a := q68) eS116 k101 (by decide) hq115
  have r131 : sR S116 h 2 = some q1 := by rw [eS116, rN, if_neg d120]; exact r102
  have r132 : sR S116 h 3 = some q30 := by rw [eS116, rN, if_neg d120]; exact r103
  have r133 : sR S116 h 4 = some q68 := by rw [eS116, rN, if_neg d120]; exact r114
  have n134 : sL S116 q1 = 5 := by rw [eS116, lNw, if_neg d126]; exact n104
  have n135 : sL S116 q30 = 5 := by rw [eS116, lNw, if_neg d128]; exact n105
  have n136 : sL S116 q68 = 5 := by rw [eS116, lNw, if_neg d130]; exact n106
  have w137 : sI S116 h 6 = 0 := by rw [eS116, iN, if_neg d120]; exact w107
  have w138 : sI S116 h 7 = 0 := by rw [eS116, iN, if_neg d120]; exact w108
  have w139 : sI S116 h 8 = 0 := by rw [eS116, iN, if_neg d120]; exact w109
  have w140 : sI S116 h 9 = 0 := by rw [eS116, iN, if_neg d120]; exact w110
  have w141 : ∀ j, j < 5 → sR S116 q1 j = none := fun j hj => by rw [eS116, rN, if_neg d126]; exact w111 j hj 
  have w142 : ∀ j, j < 5 → sI S116 q30 j = 0 := fun j hj => by rw [eS116, iN, if_neg d128]; exact w112 j hj 
  have w143 : ∀ j, j < 5 → sI S116 q68 j = 0 := fun j hj => by rw [eS116, iN, if_neg d130]; exact w113 j hj 
  have w144 : ∀ j, j < 6 → sI S116 q115 j = 0 := fun j _ => by rw [eS116, iN, if_pos rfl]
  have k145 : sK S116 q115 = 11 := by rw [eS116, kN, if_pos rfl]
  have n146 : sL S116 q115 = 6 := by rw [eS116, lNw, if_pos rfl]
  clear k96 k97 k98 k99 k100 k101 r102 r103 r114 n104 n105 n106 w107 w108 w109 w110 w111 w112 w113
  refine pg_pr (ci := 2) (C := RX2) (T := TX2) (N := 10) hx hb hts wi2 tyX2 tyX2_ok nmX2 hown hK hW hS k119 (by decide) rfl 5 (by decide) (hts (.fieldLink RX2 24 "IceHall$Mover" "leastFrom" "[I") (by decide +kernel)) (fun _ h9 => h9) rfl hnm rfl rfl rfl rfl dX2_init_31 (fun H locs hW hS => ?_)
  have hX : Kx [h] S (stR S116 h 5 (some q115)) := hX.Rh List.mem_cons_self
  obtain ⟨S147, eS147⟩ : ∃ T : St, T = stR S116 h 5 (some q115) := ⟨_, rfl⟩
  rw [← eS147] at hW hX
  have k148 : sK S147 h = 2 := by rw [eS147]; exact k119
  have k149 : sK S147 f = 1 := by rw [eS147]; exact k121
  have k150 : sK S147 g = 1 := by rw [eS147]; exact k123
  have k151 : sK S147 q1 = 15 := by rw [eS147]; exact k125
  have k152 : sK S147 q30 = 11 := by rw [eS147]; exact k127
  have k153 : sK S147 q68 = 11 := by rw [eS147]; exact k129
  have k154 : sK S147 q115 = 11 := by rw [eS147]; exact k145
  have r155 : sR S147 h 2 = some q1 := by rw [eS147, rR, if_pos rfl, if_neg (by decide)]; exact r131
  have r156 : sR S147 h 3 = some q30 := by rw [eS147, rR, if_pos rfl, if_neg (by decide)]; exact r132
  have r157 : sR S147 h 4 = some q68 := by rw [eS147, rR, if_pos rfl, if_neg (by decide)]; exact r133
  have n158 : sL S147 q1 = 5 := by rw [eS147]; exact n134
  have n159 : sL S147 q30 = 5 := by rw [eS147]; exact n135
  have n160 : sL S147 q68 = 5 := by rw [eS147]; exact n136
  have n161 : sL S147 q115 = 6 := by rw [eS147]; exact n146
  have w162 : sI S147 h 6 = 0 := by rw [eS147]; exact w137
  have w163 : sI S147 h 7 = 0 := by rw [eS147]; exact w138
  have w164 : sI S147 h 8 = 0 := by rw [eS147]; exact w139
  have w165 : sI S147 h 9 = 0 := by rw [eS147]; exact w140
  have w166 : ∀ j, j < 5 → sR S147 q1 j = none := fun j hj => by rw [eS147, rR, if_neg (fk_ne k151 k148 (by decide))]; exact w141 j hj 
  have w167 : ∀ j, j < 5 → sI S147 q30 j = 0 := fun j hj => by rw [eS147]; exact w142 j hj 
  have w168 : ∀ j, j < 5 → sI S147 q68 j = 0 := fun j hj => by rw [eS147]; exact w143 j hj 
  have w169 : ∀ j, j < 6 → sI S147 q115 j = 0 := fun j hj => by rw [eS147]; exact w144 j hj 
  have r170 : sR S147 h 5 = some q115 := by rw [eS147, rR, if_pos rfl, if_pos rfl]
  clear k119 k121 k123 k125 k127 k129 k145 r131 r132 r133 n134 n135 n136 n146 w137 w138 w139 w140 w141 w142 w143 w144
  refine lv_aload_n hx hb dX2_init_34 rfl (lv_at hl 0 rfl) ?_
  refine lv_aload_n hx hb dX2_init_35 rfl (lv_at hl 1 rfl) ?_
  refine pg_pr (ci := 2) (C := RX2) (T := TX2) (N := 10) hx hb hts wi2 tyX2 tyX2_ok nmX2 hown hK hW hS k148 (by decide) rfl 0 (by decide) (hts (.fieldLink RX2 27 "IceHall$Mover" "firstIce" "LIceHall$Ice;") (by decide +kernel)) (fun _ h9 => h9) rfl hnm rfl rfl rfl rfl dX2_init_36 (fun H locs hW hS => ?_)
  have hX : Kx [h] S (stR S147 h 0 (some f)) := hX.Rh List.mem_cons_self
  obtain ⟨S171, eS171⟩ : ∃ T : St, T = stR S147 h 0 (some f) := ⟨_, rfl⟩
  rw [← eS171] at hW hX
  have k172 : sK S171 h = 2 := by rw [eS171]; exact k148
  have k173 : sK S171 f = 1 := by rw [eS171]; exact k149
  have k174 : sK S171 g = 1 := by rw [eS171]; exact k150
  have k175 : sK S171 q1 = 15 := by rw [eS171]; exact k151
  have k176 : sK S171 q30 = 11 := by rw [eS171]; exact k152
  have k177 : sK S171 q68 = 11 := by rw [eS171]; exact k153
  have k178 : sK S171 q115 = 11 := by rw [eS171]; exact k154
  have r179 : sR S171 h 2 = some q1 := by rw [eS171, rR, if_pos rfl, if_neg (by decide)]; exact r155
  have r180 : sR S171 h 3 = some q30 := by rw [eS171, rR, if_pos rfl, if_neg (by decide)]; exact r156
  have r181 : sR S171 h 4 = some q68 := by rw [eS171, rR, if_pos rfl, if_neg (by decide)]; exact r157
  have r182 : sR S171 h 5 = some q115 := by rw [eS171, rR, if_pos rfl, if_neg (by decide)]; exact r170
  have n183 : sL S171 q1 = 5 := by rw [eS171]; exact n158
  have n184 : sL S171 q30 = 5 := by rw [eS171]; exact n159
  have n185 : sL S171 q68 = 5 := by rw [eS171]; exact n160
  have n186 : sL S171 q115 = 6 := by rw [eS171]; exact n161
  have w187 : sI S171 h 6 = 0 := by rw [eS171]; exact w162
  have w188 : sI S171 h 7 = 0 := by rw [eS171]; exact w163
  have w189 : sI S171 h 8 = 0 := by rw [eS171]; exact w164
  have w190 : sI S171 h 9 = 0 := by rw [eS171]; exact w165
  have w191 : ∀ j, j < 5 → sR S171 q1 j = none := fun j hj => by rw [eS171, rR, if_neg (fk_ne k175 k172 (by decide))]; exact w166 j hj 
  have w192 : ∀ j, j < 5 → sI S171 q30 j = 0 := fun j hj => by rw [eS171]; exact w167 j hj 
  have w193 : ∀ j, j < 5 → sI S171 q68 j = 0 := fun j hj => by rw [eS171]; exact w168 j hj 
  have w194 : ∀ j, j < 6 → sI S171 q115 j = 0 := fun j hj => by rw [eS171]; exact w169 j hj 
  have r195 : sR S171 h 0 = some f := by rw [eS171, rR, if_pos rfl, if_pos rfl]
  clear k148 k149 k150 k151 k152 k153 k154 r155 r156 r157 r170 n158 n159 n160 n161 w162 w163 w164 w165 w166 w167 w168 w169
  refine lv_aload_n hx hb dX2_init_39 rfl (lv_at hl 0 rfl) ?_
  refine lv_aload_n hx hb dX2_init_40 rfl (lv_at hl 2 rfl) ?_
  refine pg_pr (ci := 2) (C := RX2) (T := TX2) (N := 10) hx hb hts wi2 tyX2 tyX2_ok nmX2 hown hK hW hS k172 (by decide) rfl 1 (by decide) (hts (.fieldLink RX2 31 "IceHall$Mover" "secondIce" "LIceHall$Ice;") (by decide +kernel)) (fun _ h9 => h9) rfl hnm rfl rfl rfl rfl dX2_init_41 (fun H locs hW hS => ?_)
  have hX : Kx [h] S (stR S171 h 1 (some g)) := hX.Rh List.mem_cons_self
  obtain ⟨S196, eS196⟩ : ∃ T : St, T = stR S171 h 1 (some g) := ⟨_, rfl⟩
  rw [← eS196] at hW hX
  have k197 : sK S196 h = 2 := by rw [eS196]; exact k172
  have k198 : sK S196 f = 1 := by rw [eS196]; exact k173
  have k199 : sK S196 g = 1 := by rw [eS196]; exact k174
  have k200 : sK S196 q1 = 15 := by rw [eS196]; exact k175
  have k201 : sK S196 q30 = 11 := by rw [eS196]; exact k176
  have k202 : sK S196 q68 = 11 := by rw [eS196]; exact k177
  have k203 : sK S196 q115 = 11 := by rw [eS196]; exact k178
  have r204 : sR S196 h 2 = some q1 := by rw [eS196, rR, if_pos rfl, if_neg (by decide)]; exact r179
  have r205 : sR S196 h 3 = some q30 := by rw [eS196, rR, if_pos rfl, if_neg (by decide)]; exact r180
  have r206 : sR S196 h 4 = some q68 := by rw [eS196, rR, if_pos rfl, if_neg (by decide)]; exact r181
  have r207 : sR S196 h 5 = some q115 := by rw [eS196, rR, if_pos rfl, if_neg (by decide)]; exact r182
  have r208 : sR S196 h 0 = some f := by rw [eS196, rR, if_pos rfl, if_neg (by decide)]; exact r195
  have n209 : sL S196 q1 = 5 := by rw [eS196]; exact n183
  have n210 : sL S196 q30 = 5 := by rw [eS196]; exact n184
  have n211 : sL S196 q68 = 5 := by rw [eS196]; exact n185
  have n212 : sL S196 q115 = 6 := by rw [eS196]; exact n186
  have w213 : sI S196 h 6 = 0 := by rw [eS196]; exact w187
  have w214 : sI S196 h 7 = 0 := by rw [eS196]; exact w188
  have w215 : sI S196 h 8 = 0 := by rw [eS196]; exact w189
  have w216 : sI S196 h 9 = 0 := by rw [eS196]; exact w190
  have w217 : ∀ j, j < 5 → sR S196 q1 j = none := fun j hj => by rw [eS196, rR, if_neg (fk_ne k200 k197 (by decide))]; exact w191 j hj 
  have w218 : ∀ j, j < 5 → sI S196 q30 j = 0 := fun j hj => by rw [eS196]; exact w192 j hj 
  have w219 : ∀ j, j < 5 → sI S196 q68 j = 0 := fun j hj => by rw [eS196]; exact w193 j hj 
  have w220 : ∀ j, j < 6 → sI S196 q115 j = 0 := fun j hj => by rw [eS196]; exact w194 j hj 
  have r221 : sR S196 h 1 = some g := by rw [eS196, rR, if_pos rfl, if_pos rfl]
  clear k172 k173 k174 k175 k176 k177 k178 r179 r180 r181 r182 r195 n183 n184 n185 n186 w187 w188 w189 w190 w191 w192 w193 w194
  exact pc_vret (S := S196) hx hb hr hlk hK hZ hA hW hS (⟨hX, q1, o4, q30, o33, q68, o71, q115, o118, k197, r208, r221, r204, k200, n209, r205, k201, n210, r206, k202, n211, r207, k203, n212, w213, w214, w215, w216⟩) dX2_init_44
set_option maxHeartbeats 4000000 in
set_option maxRecDepth 100000 in
theorem c_X3_init (l : Launch) (D : va_G) (cy : Nat → ClassId) (A : Nat → Prop) (S : St) (h : Nat) (hk : sK S h = 3) (z4 : sI S h 4 = 0) (z5 : sI S h 5 = 0) (z6 : sI S h 6 = 0) (z7 : sI S h 7 = 0) (z8 : sI S h 8 = 0) : MV l yX3_init wsX3_init ({ frames := 1, cells := 4, slots := 250, locals := 60 } : Room) 4 250 D cy A [.ref h] S (fun S1 => Kx [h] S S1 ∧ ∃ wa, 16 ≤ sK S wa ∧ ∃ pi, 16 ≤ sK S pi ∧ ∃ be, 16 ≤ sK S be ∧ ∃ ro, 16 ≤ sK S ro ∧ sK S1 h = 3 ∧ sR S1 h 0 = some wa ∧ sK S1 wa = 11 ∧ sL S1 wa = 9 ∧ (∀ j, j < 9 → sI S1 wa j = 0) ∧ sR S1 h 1 = some pi ∧ sK S1 pi = 11 ∧ sL S1 pi = 8 ∧ sR S1 h 2 = some be ∧ sK S1 be = 11 ∧ sL S1 be = 225 ∧ sR S1 h 3 = some ro ∧ sK S1 ro = 11 ∧ sL S1 ro = 8 ∧ sI S1 h 4 = 0 ∧ sI S1 h 5 = 0 ∧ sI S1 h 6 = 0 ∧ sI S1 h 7 = 0 ∧ sI S1 h 8 = 0 ∧ Ap wa pi ∧ Ap wa be ∧ Ap pi be ∧ Ap be ro) := by
  refine mt_start (cc := cX3_init) (maxL := 1) (ret := none) (by decide) rfl (Nat.le_of_ble_eq_true rfl) ?_
  intro p e s m args below meth c hx hb hr hlk hml hown hnm hts hK hZ hA hW hS ls hl
  have hl : lv_has ls 1 [(0, .ref h)] := hl
  have hown : s.vm.findClass RX3 = some m.cls := hown
  have F : CallFix p m c cX3_init 1 s args wsX3_init RX3 := ⟨hx, hb, hml, hown, hts⟩
  have wi3 : ∀ w ∈ u_ws RX3 TX3 9, w ∈ wsX3_init := by decide +kernel
  have hX : Kx [h] S S := Kx.rf _ S
  refine lv_aload_n hx hb dX3_init_0 rfl (lv_at hl 0 rfl) ?_
  refine W.objInit hx hb hown (hts (.methodLink RX3 3 objectInit) (by decide +kernel)) (hts (.instanceMethod objectInit) (by decide +kernel)) (hts (.code objectInit ⟨#[0xb1]⟩ 1 none) (by decide +kernel)) rfl (by rw [hml]; exact hl.1) rfl dX3_init_1 (Nat.le_of_ble_eq_true rfl) (Nat.le_of_ble_eq_true rfl) ?_
  refine W.eq (g2 := F0 m 4 ls []) rfl ?_
  refine lv_aload_n hx hb dX3_init_4 rfl (lv_at hl 0 rfl) ?_
  refine lv_bipush (v := 9) hx hb dX3_init_5 (by decide) ?_
  refine pg_newa (atype := .int) (ty := .int) (kd := 11) (t0 := 1) (N' := 9) hx hb (hts (.arrayClass .int) (by decide +kernel)) rfl rfl (Or.inl rfl) (by decide) hK hW hS hA (fun _ => rfl) (by decide) (by decide) (Nat.le_of_ble_eq_true rfl) (Nat.le_of_ble_eq_true rfl) (Nat.le_of_ble_eq_true rfl) dX3_init_7 (fun q1 H hq1 hW hS => ?_)
  have f3 : Ap h q1 := ap_k hk hq1 (by decide)
  have o4 : 16 ≤ sK S q1 := hX.old hq1 (ni_c (ap_s f3) ni_0)
  have hX : Kx [h] S (stN S q1 11 9) := hX.N hq1
  obtain ⟨S2, eS2⟩ : ∃ T : St, T = stN S q1 11 9 := ⟨_, rfl⟩
  rw [← eS2] at hW hX
  obtain ⟨k5, d6⟩ := fk_N (a := h) eS2 hk (by decide) hq1
  have w7 : sI S2 h 4 = 0 := by rw [eS2, iN, if_neg d6]; exact z4
  have w8 : sI S2 h 5 = 0 := by rw [eS2, iN, if_neg d6]; exact z5
  have w9 : sI S2 h 6 = 0 := by rw [eS2, iN, if_neg d6]; exact z6
  have w10 : sI S2 h 7 = 0 := by rw [eS2, iN, if_neg d6]; exact z7
  have w11 : sI S2 h 8 = 0 := by rw [eS2, iN, if_neg d6]; exact z8
  have w12 : ∀ j, j < 9 → sI S2 q1 j = 0 := fun j _ => by rw [eS2, iN, if_pos rfl]
  have k13 : sK S2 q1 = 11 := by rw [eS2, kN, if_pos rfl]
  have n14 : sL S2 q1 = 9 := by rw [eS2, lNw, if_pos rfl]
  refine pg_pr (ci := 3) (C := RX3) (T := TX3) (N := 9) hx hb hts wi3 tyX3 tyX3_ok nmX3 hown hK hW hS k5 (by decide) rfl 0 (by decide) (hts (.fieldLink RX3 9 "IceHall$Planner" "wantedAhead" "[I") (by decide +kernel)) (fun _ h9 => h9) rfl hnm rfl rfl rfl rfl dX3_init_9 (fun H locs hW hS => ?_)
  have hX : Kx [h] S (stR S2 h 0 (some q1)) := hX.Rh List.mem_cons_self
  obtain ⟨S15, eS15⟩ : ∃ T : St, T = stR S2 h 0 (some q1) := ⟨_, rfl⟩
  rw [← eS15] at hW hX
  have k16 : sK S15 h = 3 := by rw [eS15]; exact k5
  have k17 : sK S15 q1 = 11 := by rw [eS15]; exact k13
  have n18 : sL S15 q1 = 9 := by rw [eS15]; exact n14
  have w19 : sI S15 h 4 = 0 := by rw [eS15]; exact w7
  have w20 : sI S15 h 5 = 0 := by rw [eS15]; exact w8
  have w21 : sI S15 h 6 = 0 := by rw [eS15]; exact w9
  have w22 : sI S15 h 7 = 0 := by rw [eS15]; exact w10
  have w23 : sI S15 h 8 = 0 := by rw [eS15]; exact w11
  have w24 : ∀ j, j < 9 → sI S15 q1 j = 0 := fun j hj => by rw [eS15]; exact w12 j hj 
  have r25 : sR S15 h 0 = some q1 := by rw [eS15, rR, if_pos rfl, if_pos rfl]
  clear k5 k13 n14 w7 w8 w9 w10 w11 w12
  refine lv_aload_n hx hb dX3_init_12 rfl (lv_at hl 0 rfl) ?_
  refine lv_bipush (v := 8) hx hb dX3_init_13 (by decide) ?_
  refine pg_newa (atype := .int) (ty := .int) (kd := 11) (t0 := 1) (N' := 8) hx hb (hts (.arrayClass .int) (by decide +kernel)) rfl rfl (Or.inl rfl) (by decide) hK hW hS hA (fun _ => rfl) (by decide) (by decide) (Nat.le_of_ble_eq_true rfl) (Nat.le_of_ble_eq_true rfl) (Nat.le_of_ble_eq_true rfl) dX3_init_15 (fun q26 H hq26 hW hS => ?_)
  have f28 : Ap h q26 := ap_k k16 hq26 (by decide)
  have o29 : 16 ≤ sK S q26 := hX.old hq26 (ni_c (ap_s f28) ni_0)
  have hX : Kx [h] S (stN S15 q26 11 8) := hX.N hq26
  obtain ⟨S27, eS27⟩ : ∃ T : St, T = stN S15 q26 11 8 := ⟨_, rfl⟩
  rw [← eS27] at hW hX
  obtain ⟨k30, d31⟩ := fk_N (a := h) eS27 k16 (by decide) hq26
  obtain ⟨k32, d33⟩ := fk_N (a := q1) eS27 k17 (by decide) hq26
  have r34 : sR S27 h 0 = some q1 := by rw [eS27, rN, if_neg d31]; exact r25
  have n35 : sL S27 q1 = 9 := by rw [eS27, lNw, if_neg d33]; exact n18
  have w36 : sI S27 h 4 = 0 := by rw [eS27, iN, if_neg d31]; exact w19
  have w37 : sI S27 h 5 = 0 := by rw [eS27, iN, if_neg d31]; exact w20
  have w38 : sI S27 h 6 = 0 := by rw [eS27, iN, if_neg d31]; exact w21
  have w39 : sI S27 h 7 = 0 := by rw [eS27, iN, if_neg d31]; exact w22
  have w40 : sI S27 h 8 = 0 := by rw [eS27, iN, if_neg d31]; exact w23
  have w41 : ∀ j, j < 9 → sI S27 q1 j = 0 := fun j hj => by rw [eS27, iN, if_neg d33]; exact w24 j hj 
  have w42 : ∀ j, j < 8 → sI S27 q26 j = 0 := fun j _ => by rw [eS27, iN, if_pos rfl]
  have k43 : sK S27 q26 = 11 := by rw [eS27, kN, if_pos rfl]
  have n44 : sL S27 q26 = 8 := by rw [eS27, lNw, if_pos rfl]
  clear k16 k17 r25 n18 w19 w20 w21 w22 w23 w24
  refine pg_pr (ci := 3) (C := RX3) (T := TX3) (N := 9) hx hb hts wi3 tyX3 tyX3_ok nmX3 hown hK hW hS k30 (by decide) rfl 1 (by decide) (hts (.fieldLink RX3 15 "IceHall$Planner" "priceIn" "[I") (by decide +kernel)) (fun _ h9 => h9) rfl hnm rfl rfl rfl rfl dX3_init_17 (fun H locs hW hS => ?_)
  have hX : Kx [h] S (stR S27 h 1 (some q26)) := hX.Rh List.mem_cons_self
  obtain ⟨S45, eS45⟩ : ∃ T : St, T = stR S27 h 1 (some q26) := ⟨_, rfl⟩
  rw [← eS45] at hW hX
  have k46 : sK S45 h = 3 := by rw [eS45]; exact k30
  have k47 : sK S45 q1 = 11 := by rw [eS45]; exact k32
  have k48 : sK S45 q26 = 11 := by rw [eS45]; exact k43
  have r49 : sR S45 h 0 = some q1 := by rw [eS45, rR, if_pos rfl, if_neg (by decide)]; exact r34
  have n50 : sL S45 q1 = 9 := by rw [eS45]; exact n35
  have n51 : sL S45 q26 = 8 := by rw [eS45]; exact n44
  have w52 : sI S45 h 4 = 0 := by rw [eS45]; exact w36
  have w53 : sI S45 h 5 = 0 := by rw [eS45]; exact w37
  have w54 : sI S45 h 6 = 0 := by rw [eS45]; exact w38
  have w55 : sI S45 h 7 = 0 := by rw [eS45]; exact w39
  have w56 : sI S45 h 8 = 0 := by rw [eS45]; exact w40
  have w57 : ∀ j, j < 9 → sI S45 q1 j = 0 := fun j hj => by rw [eS45]; exact w41 j hj 
  have w58 : ∀ j, j < 8 → sI S45 q26 j = 0 := fun j hj => by rw [eS45]; exact w42 j hj 
  have r59 : sR S45 h 1 = some q26 := by rw [eS45, rR, if_pos rfl, if_pos rfl]
  clear k30 k32 k43 r34 n35 n44 w36 w37 w38 w39 w40 w41 w42
  refine lv_aload_n hx hb dX3_init_20 rfl (lv_at hl 0 rfl) ?_
  refine lv_sipush (v := 225) hx hb dX3_init_21 (by decide) ?_
  refine pg_newa (atype := .int) (ty := .int) (kd := 11) (t0 := 1) (N' := 225) hx hb (hts (.arrayClass .int) (by decide +kernel)) rfl rfl (Or.inl rfl) (by decide) hK hW hS hA (fun _ => rfl) (by decide) (by decide) (Nat.le_of_ble_eq_true rfl) (Nat.le_of_ble_eq_true rfl) (Nat.le_of_ble_eq_true rfl) dX3_init_24 (fun q60 H hq60 hW hS => ?_)
  have f62 : Ap h q60 := ap_k k46 hq60 (by decide)
  have o63 : 16 ≤ sK S q60 := hX.old hq60 (ni_c (ap_s f62) ni_0)
  have hX : Kx [h] S (stN S45 q60 11 225) := hX.N hq60
  obtain ⟨S61, eS61⟩ : ∃ T : St, T = stN S45 q60 11 225 := ⟨_, rfl⟩
  rw [← eS61] at hW hX
  obtain ⟨k64, d65⟩ := fk_N (a := h) eS61 k46 (by decide) hq60
  obtain ⟨k66, d67⟩ := fk_N (a := q1) eS61 k47 (by decide) hq60
  obtain ⟨k68, d69⟩ := fk_N (a := q26) eS61 k48 (by decide) hq60
  have r70 : sR S61 h 0 = some q1 := by rw [eS61, rN, if_neg d65]; exact r49
  have r71 : sR S61 h 1 = some q26 := by rw [eS61, rN, if_neg d65]; exact r59
  have n72 : sL S61 q1 = 9 := by rw [eS61, lNw, if_neg d67]; exact n50
  have n73 : sL S61 q26 = 8 := by rw [eS61, lNw, if_neg d69]; exact n51
  have w74 : sI S61 h 4 = 0 := by rw [eS61, iN, if_neg d65]; exact w52
  have w75 : sI S61 h 5 = 0 := by rw [eS61, iN, if_neg d65]; exact w53
  have w76 : sI S61 h 6 = 0 := by rw [eS61, iN, if_neg d65]; exact w54
  have w77 : sI S61 h 7 = 0 := by rw [eS61, iN, if_neg d65]; exact w55
  have w78 : sI S61 h 8 = 0 := by rw [eS61, iN, if_neg d65]; exact w56
  have w79 : ∀ j, j < 9 → sI S61 q1 j = 0 := fun j hj => by rw [eS61, iN, if_neg d67]; exact w57 j hj 
  have w80 : ∀ j, j < 8 → sI S61 q26 j = 0 := fun j hj => by rw [eS61, iN, if_neg d69]; exact w58 j hj 
  have w81 : ∀ j, j < 225 → sI S61 q60 j = 0 := fun j _ => by rw [eS61, iN, if_pos rfl]
  have k82 : sK S61 q60 = 11 := by rw [eS61, kN, if_pos rfl]
  have n83 : sL S61 q60 = 225 := by rw [eS61, lNw, if_pos rfl]
  clear k46 k47 k48 r49 r59 n50 n51 w52 w53 w54 w55 w56 w57 w58
  refine pg_pr (ci := 3) (C := RX3) (T := TX3) (N := 9) hx hb hts wi3 tyX3 tyX3_ok nmX3 hown hK hW hS k64 (by decide) rfl 2 (by decide) (hts (.fieldLink RX3 18 "IceHall$Planner" "best" "[I") (by decide +kernel)) (fun _ h9 => h9) rfl hnm rfl rfl rfl rfl dX3_init_26 (fun H locs hW hS => ?_)
  have hX : Kx [h] S (stR S61 h 2 (some q60)) := hX.Rh List.mem_cons_self
  obtain ⟨S84, eS84⟩ : ∃ T : St, T = stR S61 h 2 (some q60) := ⟨_, rfl⟩
  rw [← eS84] at hW hX
  have k85 : sK S84 h = 3 := by rw [eS84]; exact k64
  have k86 : sK S84 q1 = 11 := by rw [eS84]; exact k66
  have k87 : sK S84 q26 = 11 := by rw [eS84]; exact k68
  have k88 : sK S84 q60 = 11 := by rw [eS84]; exact k82
  have r89 : sR S84 h 0 = some q1 := by rw [eS84, rR, if_pos rfl, if_neg (by decide)]; exact r70
  have r90 : sR S84 h 1 = some q26 := by rw [eS84, rR, if_pos rfl, if_neg (by decide)]; exact r71
  have n91 : sL S84 q1 = 9 := by rw [eS84]; exact n72
  have n92 : sL S84 q26 = 8 := by rw [eS84]; exact n73
  have n93 : sL S84 q60 = 225 := by rw [eS84]; exact n83
  have w94 : sI S84 h 4 = 0 := by rw [eS84]; exact w74
  have w95 : sI S84 h 5 = 0 := by rw [eS84]; exact w75
  have w96 : sI S84 h 6 = 0 := by rw [eS84]; exact w76
  have w97 : sI S84 h 7 = 0 := by rw [eS84]; exact w77
  have w98 : sI S84 h 8 = 0 := by rw [eS84]; exact w78
  have w99 : ∀ j, j < 9 → sI S84 q1 j = 0 := fun j hj => by rw [eS84]; exact w79 j hj 
  have w100 : ∀ j, j < 8 → sI S84 q26 j = 0 := fun j hj => by rw [eS84]; exact w80 j hj 
  have w101 : ∀ j, j < 225 → sI S84 q60 j = 0 := fun j hj => by rw [eS84]; exact w81 j hj 
  have r102 : sR S84 h 2 = some q60 := by rw [eS84, rR, if_pos rfl, if_pos rfl]
  clear k64 k66 k68 k82 r70 r71 n72 n73 n83 w74 w75 w76 w77 w78 w79 w80 w81
  refine lv_aload_n hx hb dX3_init_29 rfl (lv_at hl 0 rfl) ?_
  refine lv_bipush (v := 8) hx hb dX3_init_30 (by decide) ?_
  refine pg_newa (atype := .int) (ty := .int) (kd := 11) (t0 := 1) (N' := 8) hx hb (hts (.arrayClass .int) (by decide +kernel)) rfl rfl (Or.inl rfl) (by decide) hK hW hS hA (fun _ => rfl) (by decide) (by decide) (Nat.le_of_ble_eq_true rfl) (Nat.le_of_ble_eq_true rfl) (Nat.le_of_ble_eq_true rfl) dX3_init_32 (fun q103 H hq103 hW hS => ?_)
  have f105 : Ap h q103 := ap_k k85 hq103 (by decide)
  have o106 : 16 ≤ sK S q103 := hX.old hq103 (ni_c (ap_s f105) ni_0)
  have hX : Kx [h] S (stN S84 q103 11 8) := hX.N hq103
  obtain ⟨S104, eS104⟩ : ∃ T : St, T = stN S84 q103 11 8 := ⟨_, rfl⟩
  rw [← eS104] at hW hX
  obtain ⟨k107, d108⟩ := fk_N (a := h) eS104 k85 (by decide) hq103
  obtain ⟨k109, d110⟩ := fk_N (a := q1) eS104 k86 (by decide) hq103
  obtain ⟨k111, d112⟩ := fk_N (a := q26) eS104 k87 (by decide) hq103
  obtain ⟨k113, d114⟩ := fk_N (a := q60) eS104 k88 (by decide) hq103
  have r115 : sR S104 h 0 = some q1 := by rw [eS104, rN, if_neg d108]; exact r89
  have r116 : sR S104 h 1 = some q26 := by rw [eS104, rN, if_neg d108]; exact r90
  have r117 : sR S104 h 2 = some q60 := by rw [eS104, rN, if_neg d108]; exact r102
  have n118 : sL S104 q1 = 9 := by rw [eS104, lNw, if_neg d110]; exact n91
  have n119 : sL S104 q26 = 8 := by rw [eS104, lNw, if_neg d112]; exact n92
  have n120 : sL S104 q60 = 225 := by rw [eS104, lNw, if_neg d114]; exact n93
  have w121 : sI S104 h 4 = 0 := by rw [eS104, iN, if_neg d108]; exact w94
  have w122 : sI S104 h 5 = 0 := by rw [eS104, iN, if_neg d108]; exact w95
  have w123 : sI S104 h 6 = 0 := by rw [eS104, iN, if_neg d108]; exact w96
  have w124 : sI S104 h 7 = 0 := by rw [eS104, iN, if_neg d108]; exact w97
  have w125 : sI S104 h 8 = 0 := by rw [eS104, iN, if_neg d108]; exact w98
  have w126 : ∀ j, j < 9 → sI S104 q1 j = 0 := fun j hj => by rw [eS104, iN, if_neg d110]; exact w99 j hj 
  have w127 : ∀ j, j < 8 → sI S104 q26 j = 0 := fun j hj => by rw [eS104, iN, if_neg d112]; exact w100 j hj 
  have w128 : ∀ j, j < 225 → sI S104 q60 j = 0 := fun j hj => by rw [eS104, iN, if_neg d114]; exact w101 j hj 
  have w129 : ∀ j, j < 8 → sI S104 q103 j = 0 := fun j _ => by rw [eS104, iN, if_pos rfl]
  have k130 : sK S104 q103 = 11 := by rw [eS104, kN, if_pos rfl]
  have n131 : sL S104 q103 = 8 := by rw [eS104, lNw, if_pos rfl]
  clear k85 k86 k87 k88 r89 r90 r102 n91 n92 n93 w94 w95 w96 w97 w98 w99 w100 w101
  refine pg_pr (ci := 3) (C := RX3) (T := TX3) (N := 9) hx hb hts wi3 tyX3 tyX3_ok nmX3 hown hK hW hS k107 (by decide) rfl 3 (by decide) (hts (.fieldLink RX3 21 "IceHall$Planner" "row" "[I") (by decide +kernel)) (fun _ h9 => h9) rfl hnm rfl rfl rfl rfl dX3_init_34 (fun H locs hW hS => ?_)
  have hX : Kx [h] S (stR S104 h 3 (some q103)) := hX.Rh List.mem_cons_self
  obtain ⟨S132, eS132⟩ : ∃ T : St, T = stR S104 h 3 (some q103) := ⟨_, rfl⟩
  rw [← eS132] at hW hX
  have k133 : sK S132 h = 3 := by rw [eS132]; exact k107
  have k134 : sK S132 q1 = 11 := by rw [eS132]; exact k109
  have k135 : sK S132 q26 = 11 := by rw [eS132]; exact k111
  have k136 : sK S132 q60 = 11 := by rw [eS132]; exact k113
  have k137 : sK S132 q103 = 11 := by rw [eS132]; exact k130
  have r138 : sR S132 h 0 = some q1 := by rw [eS132, rR, if_pos rfl, if_neg (by decide)]; exact r115
  have r139 : sR S132 h 1 = some q26 := by rw [eS132, rR, if_pos rfl, if_neg (by decide)]; exact r116
  have r140 : sR S132 h 2 = some q60 := by rw [eS132, rR, if_pos rfl, if_neg (by decide)]; exact r117
  have n141 : sL S132 q1 = 9 := by rw [eS132]; exact n118
  have n142 : sL S132 q26 = 8 := by rw [eS132]; exact n119
  have n143 : sL S132 q60 = 225 := by rw [eS132]; exact n120
  have n144 : sL S132 q103 = 8 := by rw [eS132]; exact n131
  have w145 : sI S132 h 4 = 0 := by rw [eS132]; exact w121
  have w146 : sI S132 h 5 = 0 := by rw [eS132]; exact w122
  have w147 : sI S132 h 6 = 0 := by rw [eS132]; exact w123
  have w148 : sI S132 h 7 = 0 := by rw [eS132]; exact w124
  have w149 : sI S132 h 8 = 0 := by rw [eS132]; exact w125
  have w150 : ∀ j, j < 9 → sI S132 q1 j = 0 := fun j hj => by rw [eS132]; exact w126 j hj 
  have w151 : ∀ j, j < 8 → sI S132 q26 j = 0 := fun j hj => by rw [eS132]; exact w127 j hj 
  have w152 : ∀ j, j < 225 → sI S132 q60 j = 0 := fun j hj => by rw [eS132]; exact w128 j hj 
  have w153 : ∀ j, j < 8 → sI S132 q103 j = 0 := fun j hj => by rw [eS132]; exact w129 j hj 
  have r154 : sR S132 h 3 = some q103 := by rw [eS132, rR, if_pos rfl, if_pos rfl]
  clear k107 k109 k111 k113 k130 r115 r116 r117 n118 n119 n120 n131 w121 w122 w123 w124 w125 w126 w127 w128 w129
  refine lv_aload_n hx hb dX3_init_37 rfl (lv_at hl 0 rfl) ?_
  refine lv_iconst (v := 0) hx hb dX3_init_38 (by decide) ?_
  refine pg_pi (ci := 3) (C := RX3) (T := TX3) (N := 9) hx hb hts wi3 tyX3 tyX3_ok nmX3 hown hK hW hS k133 (by decide) rfl 4 (by decide) (hts (.fieldLink RX3 24 "IceHall$Planner" "rowSize" "I") (by decide +kernel)) (fun _ h9 => h9) rfl rfl rfl dX3_init_39 (fun H locs hW hS => ?_)
  have hX : Kx [h] S (stI S132 h 4 0) := hX.Ih List.mem_cons_self
  have w155 : sI (stI S132 h 4 0) h 5 = 0 := (iI_k (by decide)).trans w146
  have w156 : sI (stI S132 h 4 0) h 6 = 0 := (iI_k (by decide)).trans w147
  have w157 : sI (stI S132 h 4 0) h 7 = 0 := (iI_k (by decide)).trans w148
  have w158 : sI (stI S132 h 4 0) h 8 = 0 := (iI_k (by decide)).trans w149
  have w159 : sI (stI S132 h 4 0) h 4 = 0 := iI_s
  have w160 : ∀ j, j < 9 → sI (stI S132 h 4 0) q1 j = 0 := fun j hj => (iI_a (fk_ne k134 k133 (by decide))).trans (w150 j hj)
  have w161 : ∀ j, j < 8 → sI (stI S132 h 4 0) q26 j = 0 := fun j hj => (iI_a (fk_ne k135 k133 (by decide))).trans (w151 j hj)
  have w162 : ∀ j, j < 225 → sI (stI S132 h 4 0) q60 j = 0 := fun j hj => (iI_a (fk_ne k136 k133 (by decide))).trans (w152 j hj)
  have w163 : ∀ j, j < 8 → sI (stI S132 h 4 0) q103 j = 0 := fun j hj => (iI_a (fk_ne k137 k133 (by decide))).trans (w153 j hj)
  clear w145 w146 w147 w148 w149 w150 w151 w152 w153
  exact pc_vret (S := stI S132 h 4 0) hx hb hr hlk hK hZ hA hW hS (⟨hX, q1, o4, q26, o29, q60, o63, q103, o106, k133, r138, k134, n141, w160, r139, k135, n142, r140, k136, n143, r154, k137, n144, w159, w155, w156, w157, w158, d33, d67, d69, d114⟩) dX3_init_42
