set_option maxHeartbeats 4000000 in
set_option maxRecDepth 100000 in
theorem c_X8_init (l : Launch) (D : va_G) (cy : Nat → ClassId) (A : Nat → Prop) (S : St) (h : Nat) (hk : sK S h = 8) (z9 : sI S h 9 = 0) (z10 : sI S h 10 = 0) (z11 : sI S h 11 = 0) (z12 : sI S h 12 = 0) (z13 : sI S h 13 = 0) (z14 : sI S h 14 = 0) (z15 : sI S h 15 = 0) (z16 : sI S h 16 = 0) (z17 : sI S h 17 = 0) : MV l yX8_init wsX8_init ({ frames := 3, cells := 27, slots := 764, locals := 100 } : Room) 27 764 D cy A [.ref h] S (fun S1 => Kx [h] S S1 ∧ ∃ i1, 16 ≤ sK S i1 ∧ ∃ q1, 16 ≤ sK S q1 ∧ ∃ w1, 16 ≤ sK S w1 ∧ ∃ q2, 16 ≤ sK S q2 ∧ ∃ w2, 16 ≤ sK S w2 ∧ ∃ i2, 16 ≤ sK S i2 ∧ ∃ q3, 16 ≤ sK S q3 ∧ ∃ w3, 16 ≤ sK S w3 ∧ ∃ q4, 16 ≤ sK S q4 ∧ ∃ w4, 16 ≤ sK S w4 ∧ ∃ rif, 16 ≤ sK S rif ∧ ∃ rg, 16 ≤ sK S rg ∧ ∃ ses, 16 ≤ sK S ses ∧ ∃ pr, 16 ≤ sK S pr ∧ ∃ tp, 16 ≤ sK S tp ∧ ∃ by_, 16 ≤ sK S by_ ∧ ∃ rd, 16 ≤ sK S rd ∧ ∃ mo, 16 ≤ sK S mo ∧ ∃ mv, 16 ≤ sK S mv ∧ ∃ rw_, 16 ≤ sK S rw_ ∧ ∃ br, 16 ≤ sK S br ∧ ∃ lf, 16 ≤ sK S lf ∧ ∃ pl, 16 ≤ sK S pl ∧ ∃ wa, 16 ≤ sK S wa ∧ ∃ pi, 16 ≤ sK S pi ∧ ∃ be, 16 ≤ sK S be ∧ ∃ ro, 16 ≤ sK S ro ∧ sK S1 h = 8 ∧ sR S1 h 0 = some i1 ∧ sR S1 h 1 = some i2 ∧ sR S1 h 2 = some rif ∧ sR S1 h 3 = some ses ∧ sR S1 h 4 = some pr ∧ sR S1 h 5 = some tp ∧ sR S1 h 6 = some rd ∧ sR S1 h 7 = some mo ∧ sR S1 h 8 = some pl ∧ sK S1 i1 = 1 ∧ sR S1 i1 0 = some q1 ∧ sK S1 q1 = 0 ∧ sR S1 q1 0 = some w1 ∧ sK S1 w1 = 12 ∧ sL S1 w1 = 32 ∧ (∀ j, sJ S1 w1 j = 0) ∧ sR S1 i1 1 = some q2 ∧ sK S1 q2 = 0 ∧ sR S1 q2 0 = some w2 ∧ sK S1 w2 = 12 ∧ sL S1 w2 = 32 ∧ (∀ j, sJ S1 w2 j = 0) ∧ sI S1 i1 2 = 0 ∧ sI S1 i1 3 = 300 ∧ sI S1 i1 4 = 0 ∧ sI S1 i1 5 = 0 ∧ sI S1 i1 6 = 0 ∧ sI S1 i1 7 = 0 ∧ sI S1 i1 8 = 0 ∧ sI S1 i1 9 = 0 ∧ sK S1 i2 = 1 ∧ sR S1 i2 0 = some q3 ∧ sK S1 q3 = 0 ∧ sR S1 q3 0 = some w3 ∧ sK S1 w3 = 12 ∧ sL S1 w3 = 32 ∧ (∀ j, sJ S1 w3 j = 0) ∧ sR S1 i2 1 = some q4 ∧ sK S1 q4 = 0 ∧ sR S1 q4 0 = some w4 ∧ sK S1 w4 = 12 ∧ sL S1 w4 = 32 ∧ (∀ j, sJ S1 w4 j = 0) ∧ sI S1 i2 2 = 0 ∧ sI S1 i2 3 = 300 ∧ sI S1 i2 4 = 0 ∧ sI S1 i2 5 = 0 ∧ sI S1 i2 6 = 0 ∧ sI S1 i2 7 = 0 ∧ sI S1 i2 8 = 0 ∧ sI S1 i2 9 = 0 ∧ sK S1 rif = 14 ∧ sL S1 rif = 6 ∧ sK S1 ses = 15 ∧ sL S1 ses = 200 ∧ (∀ j, j < 200 → sR S1 ses j = none) ∧ sK S1 pr = 11 ∧ sL S1 pr = 24 ∧ (∀ j, j < 24 → sI S1 pr j = 10) ∧ sK S1 tp = 7 ∧ sR S1 tp 0 = some by_ ∧ sK S1 by_ = 10 ∧ sL S1 by_ = 80 ∧ sI S1 tp 1 = 0 ∧ sK S1 rd = 5 ∧ sR S1 rd 0 = some tp ∧ sK S1 mo = 2 ∧ sR S1 mo 0 = some i1 ∧ sR S1 mo 1 = some i2 ∧ sR S1 mo 2 = some mv ∧ sK S1 mv = 15 ∧ sL S1 mv = 5 ∧ sR S1 mo 3 = some rw_ ∧ sK S1 rw_ = 11 ∧ sL S1 rw_ = 5 ∧ sR S1 mo 4 = some br ∧ sK S1 br = 11 ∧ sL S1 br = 5 ∧ sR S1 mo 5 = some lf ∧ sK S1 lf = 11 ∧ sL S1 lf = 6 ∧ sI S1 mo 6 = 0 ∧ sI S1 mo 7 = 0 ∧ sI S1 mo 8 = 0 ∧ sI S1 mo 9 = 0 ∧ sK S1 pl = 3 ∧ sR S1 pl 0 = some wa ∧ sK S1 wa = 11 ∧ sL S1 wa = 9 ∧ (∀ j, j < 9 → sI S1 wa j = 0) ∧ sR S1 pl 1 = some pi ∧ sK S1 pi = 11 ∧ sL S1 pi = 8 ∧ sR S1 pl 2 = some be ∧ sK S1 be = 11 ∧ sL S1 be = 225 ∧ sR S1 pl 3 = some ro ∧ sK S1 ro = 11 ∧ sL S1 ro = 8 ∧ sI S1 pl 4 = 0 ∧ sI S1 pl 5 = 0 ∧ sI S1 pl 6 = 0 ∧ sI S1 pl 7 = 0 ∧ sI S1 pl 8 = 0 ∧ sK S1 rg = 4 ∧ sI S1 rg 0 = 16777215 ∧ sI S1 rg 1 = 127 ∧ sI S1 rg 2 = 15 ∧ sI S1 rg 3 = 168 ∧ sI S1 rg 4 = 100 ∧ sI S1 rg 5 = 50 ∧ (∀ j, j < 6 → sR S1 rif j = some rg) ∧ sI S1 h 9 = 0 ∧ sI S1 h 10 = 0 ∧ sI S1 h 11 = 200 ∧ sI S1 h 12 = 400 ∧ sI S1 h 13 = 3 ∧ sI S1 h 14 = 2 ∧ sI S1 h 15 = 0 ∧ sI S1 h 16 = 0 ∧ sI S1 h 17 = 0 ∧ Ap wa pi ∧ Ap wa be ∧ Ap pi be ∧ Ap be ro ∧ Ap pr wa ∧ Ap pr pi) := by
  refine mt_start (cc := cX8_init) (maxL := 3) (ret := none) (by decide) rfl (Nat.le_of_ble_eq_true rfl) ?_
  intro p e s m args below meth c hx hb hr hlk hml hown hnm hts hK hZ hA hW hS ls hl
  have hl : lv_has ls 3 [(0, .ref h)] := hl
  have hown : s.vm.findClass RX8 = some m.cls := hown
  have F : CallFix p m c cX8_init 3 s args wsX8_init RX8 := ⟨hx, hb, hml, hown, hts⟩
  have wi1 : ∀ w ∈ u_ws RX1 TX1 10, w ∈ wsX8_init := by decide +kernel
  have wi2 : ∀ w ∈ u_ws RX2 TX2 10, w ∈ wsX8_init := by decide +kernel
  have wi3 : ∀ w ∈ u_ws RX3 TX3 9, w ∈ wsX8_init := by decide +kernel
  have wi4 : ∀ w ∈ u_ws RX4 TX4 6, w ∈ wsX8_init := by decide +kernel
  have wi5 : ∀ w ∈ u_ws RX5 TX5 4, w ∈ wsX8_init := by decide +kernel
  have wi7 : ∀ w ∈ u_ws RX7 TX7 2, w ∈ wsX8_init := by decide +kernel
  have wi8 : ∀ w ∈ u_ws RX8 TX8 18, w ∈ wsX8_init := by decide +kernel
  have hX : Kx [h] S S := Kx.rf _ S
  refine lv_aload_n hx hb dX8_init_0 rfl (lv_at hl 0 rfl) ?_
  refine W.objInit hx hb hown (hts (.methodLink RX8 1 objectInit) (by decide +kernel)) (hts (.instanceMethod objectInit) (by decide +kernel)) (hts (.code objectInit ⟨#[0xb1]⟩ 1 none) (by decide +kernel)) rfl (by rw [hml]; exact hl.1) rfl dX8_init_1 (Nat.le_of_ble_eq_true rfl) (Nat.le_of_ble_eq_true rfl) ?_
  refine W.eq (g2 := F0 m 4 ls []) rfl ?_
  refine lv_aload_n hx hb dX8_init_4 rfl (lv_at hl 0 rfl) ?_
  refine pg_new (ci := 1) (C := RX1) (T := TX1) (N := 10) hx hb hts wi1 tyX1 tyX1_ok hown (hts (.classLink RX8 7 RX1) (by decide +kernel)) (hts (.instantiable RX1 10) (by decide +kernel)) (hts (.initialized RX1) (by decide +kernel)) hK hW hS hA (by decide) rfl df_1 (Nat.le_of_ble_eq_true rfl) (Nat.le_of_ble_eq_true rfl) dX8_init_5 (fun q1 H hq1 hW hS => ?_)
  have f3 : Ap h q1 := ap_k hk hq1 (by decide)
  have o4 : 16 ≤ sK S q1 := hX.old hq1 (ni_c (ap_s f3) ni_0)
  have hX : Kx [h] S (stN S q1 1 0) := hX.N hq1
  obtain ⟨S2, eS2⟩ : ∃ T : St, T = stN S q1 1 0 := ⟨_, rfl⟩
  rw [← eS2] at hW hX
  obtain ⟨k5, d6⟩ := fk_N (a := h) eS2 hk (by decide) hq1
  have w7 : sI S2 h 9 = 0 := by rw [eS2, iN, if_neg d6]; exact z9
  have w8 : sI S2 h 10 = 0 := by rw [eS2, iN, if_neg d6]; exact z10
  have w9 : sI S2 h 11 = 0 := by rw [eS2, iN, if_neg d6]; exact z11
  have w10 : sI S2 h 12 = 0 := by rw [eS2, iN, if_neg d6]; exact z12
  have w11 : sI S2 h 13 = 0 := by rw [eS2, iN, if_neg d6]; exact z13
  have w12 : sI S2 h 14 = 0 := by rw [eS2, iN, if_neg d6]; exact z14
  have w13 : sI S2 h 15 = 0 := by rw [eS2, iN, if_neg d6]; exact z15
  have w14 : sI S2 h 16 = 0 := by rw [eS2, iN, if_neg d6]; exact z16
  have w15 : sI S2 h 17 = 0 := by rw [eS2, iN, if_neg d6]; exact z17
  have w16 : sI S2 q1 2 = 0 := by rw [eS2, iN, if_pos rfl]
  have w17 : sI S2 q1 3 = 0 := by rw [eS2, iN, if_pos rfl]
  have w18 : sI S2 q1 4 = 0 := by rw [eS2, iN, if_pos rfl]
  have w19 : sI S2 q1 5 = 0 := by rw [eS2, iN, if_pos rfl]
  have w20 : sI S2 q1 6 = 0 := by rw [eS2, iN, if_pos rfl]
  have w21 : sI S2 q1 7 = 0 := by rw [eS2, iN, if_pos rfl]
  have w22 : sI S2 q1 8 = 0 := by rw [eS2, iN, if_pos rfl]
  have w23 : sI S2 q1 9 = 0 := by rw [eS2, iN, if_pos rfl]
  have k24 : sK S2 q1 = 1 := by rw [eS2, kN, if_pos rfl]
  refine lv_dup hx hb dX8_init_8 rfl ?_
  refine pc_INv (As := []) (rest := [.ref q1, .ref h]) F (c_X1_init l D cy A S2 q1 k24) ⟨va_cnB 0 hts gX8_init_X1_init_n9 rfl rfl rfl hZ.2.2.2.1 (hts (.initialized RX1) (by decide +kernel)) (by decide +kernel) ⟨Nat.le_of_ble_eq_true rfl, Nat.le_of_ble_eq_true rfl⟩, rfl, hts (.instanceMethod yX1_init) (by decide +kernel)⟩ hK hZ hA hW hS rfl hl.1 rfl (Nat.le_of_ble_eq_true rfl) dX8_init_9 ⟨Nat.le_of_ble_eq_true rfl, Nat.le_of_ble_eq_true rfl⟩ (fun T26 H locs p27 hW hS => ?_)
  obtain ⟨kxT26, p27⟩ := p27
  have f28 := kxT26 h (ni_c d6 ni_0) (lt16 k5 (by decide))
  have f29 : sK T26 h = 8 := by rw [f28.1]; exact k5
  have f30 : sI T26 h 9 = 0 := by rw [f28.2.1]; exact w7
  have f31 : sI T26 h 10 = 0 := by rw [f28.2.1]; exact w8
  have f32 : sI T26 h 11 = 0 := by rw [f28.2.1]; exact w9
  have f33 : sI T26 h 12 = 0 := by rw [f28.2.1]; exact w10
  have f34 : sI T26 h 13 = 0 := by rw [f28.2.1]; exact w11
  have f35 : sI T26 h 14 = 0 := by rw [f28.2.1]; exact w12
  have f36 : sI T26 h 15 = 0 := by rw [f28.2.1]; exact w13
  have f37 : sI T26 h 16 = 0 := by rw [f28.2.1]; exact w14
  have f38 : sI T26 h 17 = 0 := by rw [f28.2.1]; exact w15
  clear f28
  have hX0 := hX
  have hX : Kx [h] S T26 := hX.tr kxT26 (q1_ (Or.inl o4))
  obtain ⟨z39, hz39, p27⟩ := p27
  have f40 : Ap h z39 := ap_k k5 hz39 (by decide)
  have f41 : Ap q1 z39 := ap_k k24 hz39 (by decide)
  have o42 : 16 ≤ sK S z39 := hX0.old hz39 (ni_c (ap_s f40) ni_0)
  obtain ⟨z43, hz43, p27⟩ := p27
  have f44 : Ap h z43 := ap_k k5 hz43 (by decide)
  have f45 : Ap q1 z43 := ap_k k24 hz43 (by decide)
  have o46 : 16 ≤ sK S z43 := hX0.old hz43 (ni_c (ap_s f44) ni_0)
  obtain ⟨z47, hz47, p27⟩ := p27
  have f48 : Ap h z47 := ap_k k5 hz47 (by decide)
  have f49 : Ap q1 z47 := ap_k k24 hz47 (by decide)
  have o50 : 16 ≤ sK S z47 := hX0.old hz47 (ni_c (ap_s f48) ni_0)
  obtain ⟨z51, hz51, p27⟩ := p27
  have f52 : Ap h z51 := ap_k k5 hz51 (by decide)
  have f53 : Ap q1 z51 := ap_k k24 hz51 (by decide)
  have o54 : 16 ≤ sK S z51 := hX0.old hz51 (ni_c (ap_s f52) ni_0)
  obtain ⟨y55, p27⟩ := p27
  obtain ⟨y56, p27⟩ := p27
  obtain ⟨y57, p27⟩ := p27
  obtain ⟨y58, p27⟩ := p27
  obtain ⟨y59, p27⟩ := p27
  obtain ⟨y60, p27⟩ := p27
  obtain ⟨y61, p27⟩ := p27
  obtain ⟨y62, p27⟩ := p27
  obtain ⟨y63, p27⟩ := p27
  obtain ⟨y64, p27⟩ := p27
  obtain ⟨y65, p27⟩ := p27
  obtain ⟨y66, p27⟩ := p27
  obtain ⟨y67, p27⟩ := p27
  obtain ⟨y68, p27⟩ := p27
  obtain ⟨y69, p27⟩ := p27
  obtain ⟨y70, p27⟩ := p27
  obtain ⟨y71, p27⟩ := p27
  obtain ⟨y72, p27⟩ := p27
  obtain ⟨y73, p27⟩ := p27
  obtain ⟨y74, p27⟩ := p27
  have y75 := p27
  clear k5 k24 w7 w8 w9 w10 w11 w12 w13 w14 w15 w16 w17 w18 w19 w20 w21 w22 w23
  refine pg_pr (ci := 8) (C := RX8) (T := TX8) (N := 18) hx hb hts wi8 tyX8 tyX8_ok nmX8 hown hK hW hS f29 (by decide) rfl 0 (by decide) (hts (.fieldLink RX8 10 "IceHall" "firstIce" "LIceHall$Ice;") (by decide +kernel)) (fun _ h9 => h9) rfl hnm rfl rfl rfl rfl dX8_init_12 (fun H locs hW hS => ?_)
  have hX : Kx [h] S (stR T26 h 0 (some q1)) := hX.Rh List.mem_cons_self
  obtain ⟨S76, eS76⟩ : ∃ T : St, T = stR T26 h 0 (some q1) := ⟨_, rfl⟩
  rw [← eS76] at hW hX
  have k77 : sK S76 h = 8 := by rw [eS76]; exact f29
  have k78 : sK S76 q1 = 1 := by rw [eS76]; exact y55
  have k79 : sK S76 z39 = 0 := by rw [eS76]; exact y57
  have k80 : sK S76 z43 = 12 := by rw [eS76]; exact y59
  have k81 : sK S76 z47 = 0 := by rw [eS76]; exact y63
  have k82 : sK S76 z51 = 12 := by rw [eS76]; exact y65
  have r83 : sR S76 q1 0 = some z39 := by rw [eS76, rR, if_neg (fk_ne k78 k77 (by decide))]; exact y56
  have r84 : sR S76 z39 0 = some z43 := by rw [eS76, rR, if_neg (fk_ne k79 k77 (by decide))]; exact y58
  have r85 : sR S76 q1 1 = some z47 := by rw [eS76, rR, if_neg (fk_ne k78 k77 (by decide))]; exact y62
  have r86 : sR S76 z47 0 = some z51 := by rw [eS76, rR, if_neg (fk_ne k81 k77 (by decide))]; exact y64
  have n87 : sL S76 z43 = 32 := by rw [eS76]; exact y60
  have n88 : sL S76 z51 = 32 := by rw [eS76]; exact y66
  have w89 : sI S76 h 9 = 0 := by rw [eS76]; exact f30
  have w90 : sI S76 h 10 = 0 := by rw [eS76]; exact f31
  have w91 : sI S76 h 11 = 0 := by rw [eS76]; exact f32
  have w92 : sI S76 h 12 = 0 := by rw [eS76]; exact f33
  have w93 : sI S76 h 13 = 0 := by rw [eS76]; exact f34
  have w94 : sI S76 h 14 = 0 := by rw [eS76]; exact f35
  have w95 : sI S76 h 15 = 0 := by rw [eS76]; exact f36
  have w96 : sI S76 h 16 = 0 := by rw [eS76]; exact f37
  have w97 : sI S76 h 17 = 0 := by rw [eS76]; exact f38
  have w98 : sI S76 q1 2 = 0 := by rw [eS76]; exact y68
  have w99 : sI S76 q1 3 = 300 := by rw [eS76]; exact y69
  have w100 : sI S76 q1 4 = 0 := by rw [eS76]; exact y70
  have w101 : sI S76 q1 5 = 0 := by rw [eS76]; exact y71
  have w102 : sI S76 q1 6 = 0 := by rw [eS76]; exact y72
  have w103 : sI S76 q1 7 = 0 := by rw [eS76]; exact y73
  have w104 : sI S76 q1 8 = 0 := by rw [eS76]; exact y74
  have w105 : sI S76 q1 9 = 0 := by rw [eS76]; exact y75
  have w106 : ∀ j, sJ S76 z43 j = 0 := fun j => by rw [eS76]; exact y61 j 
  have w107 : ∀ j, sJ S76 z51 j = 0 := fun j => by rw [eS76]; exact y67 j 
  have r108 : sR S76 h 0 = some q1 := by rw [eS76, rR, if_pos rfl, if_pos rfl]
  clear f29 y55 y57 y59 y63 y65 y56 y58 y62 y64 y60 y66 f30 f31 f32 f33 f34 f35 f36 f37 f38 y68 y69 y70 y71 y72 y73 y74 y75 y61 y67
  refine lv_aload_n hx hb dX8_init_15 rfl (lv_at hl 0 rfl) ?_
  refine pg_new (ci := 1) (C := RX1) (T := TX1) (N := 10) hx hb hts wi1 tyX1 tyX1_ok hown (hts (.classLink RX8 7 RX1) (by decide +kernel)) (hts (.instantiable RX1 10) (by decide +kernel)) (hts (.initialized RX1) (by decide +kernel)) hK hW hS hA (by decide) rfl df_1 (Nat.le_of_ble_eq_true rfl) (Nat.le_of_ble_eq_true rfl) dX8_init_16 (fun q109 H hq109 hW hS => ?_)
  have f111 : Ap h q109 := ap_k k77 hq109 (by decide)
  have o112 : 16 ≤ sK S q109 := hX.old hq109 (ni_c (ap_s f111) ni_0)
  have hX : Kx [h] S (stN S76 q109 1 0) := hX.N hq109
  obtain ⟨S110, eS110⟩ : ∃ T : St, T = stN S76 q109 1 0 := ⟨_, rfl⟩
  rw [← eS110] at hW hX
  obtain ⟨k113, d114⟩ := fk_N (a := h) eS110 k77 (by decide) hq109
  obtain ⟨k115, d116⟩ := fk_N (a := q1) eS110 k78 (by decide) hq109
  obtain ⟨k117, d118⟩ := fk_N (a := z39) eS110 k79 (by decide) hq109
  obtain ⟨k119, d120⟩ := fk_N (a := z43) eS110 k80 (by decide) hq109
  obtain ⟨k121, d122⟩ := fk_N (a := z47) eS110 k81 (by decide) hq109
  obtain ⟨k123, d124⟩ := fk_N (a := z51) eS110 k82 (by decide) hq109
  have r125 : sR S110 q1 0 = some z39 := by rw [eS110, rN, if_neg d116]; exact r83
  have r126 : sR S110 z39 0 = some z43 := by rw [eS110, rN, if_neg d118]; exact r84
  have r127 : sR S110 q1 1 = some z47 := by rw [eS110, rN, if_neg d116]; exact r85
  have r128 : sR S110 z47 0 = some z51 := by rw [eS110, rN, if_neg d122]; exact r86
  have r129 : sR S110 h 0 = some q1 := by rw [eS110, rN, if_neg d114]; exact r108
  have n130 : sL S110 z43 = 32 := by rw [eS110, lNw, if_neg d120]; exact n87
  have n131 : sL S110 z51 = 32 := by rw [eS110, lNw, if_neg d124]; exact n88
  have w132 : sI S110 h 9 = 0 := by rw [eS110, iN, if_neg d114]; exact w89
  have w133 : sI S110 h 10 = 0 := by rw [eS110, iN, if_neg d114]; exact w90
  have w134 : sI S110 h 11 = 0 := by rw [eS110, iN, if_neg d114]; exact w91
  have w135 : sI S110 h 12 = 0 := by rw [eS110, iN, if_neg d114]; exact w92
  have w136 : sI S110 h 13 = 0 := by rw [eS110, iN, if_neg d114]; exact w93
  have w137 : sI S110 h 14 = 0 := by rw [eS110, iN, if_neg d114]; exact w94
  have w138 : sI S110 h 15 = 0 := by rw [eS110, iN, if_neg d114]; exact w95
  have w139 : sI S110 h 16 = 0 := by rw [eS110, iN, if_neg d114]; exact w96
  have w140 : sI S110 h 17 = 0 := by rw [eS110, iN, if_neg d114]; exact w97
  have w141 : sI S110 q1 2 = 0 := by rw [eS110, iN, if_neg d116]; exact w98
  have w142 : sI S110 q1 3 = 300 := by rw [eS110, iN, if_neg d116]; exact w99
  have w143 : sI S110 q1 4 = 0 := by rw [eS110, iN, if_neg d116]; exact w100
  have w144 : sI S110 q1 5 = 0 := by rw [eS110, iN, if_neg d116]; exact w101
  have w145 : sI S110 q1 6 = 0 := by rw [eS110, iN, if_neg d116]; exact w102
  have w146 : sI S110 q1 7 = 0 := by rw [eS110, iN, if_neg d116]; exact w103
  have w147 : sI S110 q1 8 = 0 := by rw [eS110, iN, if_neg d116]; exact w104
  have w148 : sI S110 q1 9 = 0 := by rw [eS110, iN, if_neg d116]; exact w105
  have w149 : ∀ j, sJ S110 z43 j = 0 := fun j => by rw [eS110, jN, if_neg d120]; exact w106 j 
  have w150 : ∀ j, sJ S110 z51 j = 0 := fun j => by rw [eS110, jN, if_neg d124]; exact w107 j 
  have w151 : sI S110 q109 2 = 0 := by rw [eS110, iN, if_pos rfl]
  have w152 : sI S110 q109 3 = 0 := by rw [eS110, iN, if_pos rfl]
  have w153 : sI S110 q109 4 = 0 := by rw [eS110, iN, if_pos rfl]
  have w154 : sI S110 q109 5 = 0 := by rw [eS110, iN, if_pos rfl]
  have w155 : sI S110 q109 6 = 0 := by rw [eS110, iN, if_pos rfl]
  have w156 : sI S110 q109 7 = 0 := by rw [eS110, iN, if_pos rfl]
  have w157 : sI S110 q109 8 = 0 := by rw [eS110, iN, if_pos rfl]
  have w158 : sI S110 q109 9 = 0 := by rw [eS110, iN, if_pos rfl]
  have k159 : sK S110 q109 = 1 := by rw [eS110, kN, if_pos rfl]
  clear k77 k78 k79 k80 k81 k82 r83 r84 r85 r86 r108 n87 n88 w89 w90 w91 w92 w93 w94 w95 w96 w97 w98 w99 w100 w101 w102 w103 w104 w105 w106 w107
  refine lv_dup hx hb dX8_init_19 rfl ?_
  refine pc_INv (As := []) (rest := [.ref q109, .ref h]) F (c_X1_init l D cy A S110 q109 k159) ⟨va_cnB 0 hts gX8_init_X1_init_n9 rfl rfl rfl hZ.2.2.2.1 (hts (.initialized RX1) (by decide +kernel)) (by decide +kernel) ⟨Nat.le_of_ble_eq_true rfl, Nat.le_of_ble_eq_true rfl⟩, rfl, hts (.instanceMethod yX1_init) (by decide +kernel)⟩ hK hZ hA hW hS rfl hl.1 rfl (Nat.le_of_ble_eq_true rfl) dX8_init_20 ⟨Nat.le_of_ble_eq_true rfl, Nat.le_of_ble_eq_true rfl⟩ (fun T161 H locs p162 hW hS => ?_)
  obtain ⟨kxT161, p162⟩ := p162
  have f163 := kxT161 h (ni_c d114 ni_0) (lt16 k113 (by decide))
  have f164 : sK T161 h = 8 := by rw [f163.1]; exact k113
  have f165 : sR T161 h 0 = some q1 := by rw [f163.2.2.1]; exact r129
  have f166 : sI T161 h 9 = 0 := by rw [f163.2.1]; exact w132
  have f167 : sI T161 h 10 = 0 := by rw [f163.2.1]; exact w133
  have f168 : sI T161 h 11 = 0 := by rw [f163.2.1]; exact w134
  have f169 : sI T161 h 12 = 0 := by rw [f163.2.1]; exact w135
  have f170 : sI T161 h 13 = 0 := by rw [f163.2.1]; exact w136
  have f171 : sI T161 h 14 = 0 := by rw [f163.2.1]; exact w137
  have f172 : sI T161 h 15 = 0 := by rw [f163.2.1]; exact w138
  have f173 : sI T161 h 16 = 0 := by rw [f163.2.1]; exact w139
  have f174 : sI T161 h 17 = 0 := by rw [f163.2.1]; exact w140
  clear f163
  have f175 := kxT161 q1 (ni_c d116 ni_0) (lt16 k115 (by decide))
  have f176 : sK T161 q1 = 1 := by rw [f175.1]; exact k115
  have f177 : sR T161 q1 0 = some z39 := by rw [f175.2.2.1]; exact r125
  have f178 : sR T161 q1 1 = some z47 := by rw [f175.2.2.1]; exact r127
  have f179 : sI T161 q1 2 = 0 := by rw [f175.2.1]; exact w141
  have f180 : sI T161 q1 3 = 300 := by rw [f175.2.1]; exact w142
  have f181 : sI T161 q1 4 = 0 := by rw [f175.2.1]; exact w143
  have f182 : sI T161 q1 5 = 0 := by rw [f175.2.1]; exact w144
  have f183 : sI T161 q1 6 = 0 := by rw [f175.2.1]; exact w145
  have f184 : sI T161 q1 7 = 0 := by rw [f175.2.1]; exact w146
  have f185 : sI T161 q1 8 = 0 := by rw [f175.2.1]; exact w147
  have f186 : sI T161 q1 9 = 0 := by rw [f175.2.1]; exact w148
  clear f175
  have f187 := kxT161 z39 (ni_c d118 ni_0) (lt16 k117 (by decide))
  have f188 : sK T161 z39 = 0 := by rw [f187.1]; exact k117
  have f189 : sR T161 z39 0 = some z43 := by rw [f187.2.2.1]; exact r126
  clear f187
  have f190 := kxT161 z43 (ni_c d120 ni_0) (lt16 k119 (by decide))
  have f191 : sK T161 z43 = 12 := by rw [f190.1]; exact k119
  have f192 : sL T161 z43 = 32 := by rw [f190.2.2.2.2]; exact n130
  have f193 : ∀ j, sJ T161 z43 j = 0 := fun j => by rw [f190.2.2.2.1]; exact w149 j 
  clear f190
  have f194 := kxT161 z47 (ni_c d122 ni_0) (lt16 k121 (by decide))
  have f195 : sK T161 z47 = 0 := by rw [f194.1]; exact k121
  have f196 : sR T161 z47 0 = some z51 := by rw [f194.2.2.1]; exact r128
  clear f194
  have f197 := kxT161 z51 (ni_c d124 ni_0) (lt16 k123 (by decide))
  have f198 : sK T161 z51 = 12 := by rw [f197.1]; exact k123
  have f199 : sL T161 z51 = 32 := by rw [f197.2.2.2.2]; exact n131
  have f200 : ∀ j, sJ T161 z51 j = 0 := fun j => by rw [f197.2.2.2.1]; exact w150 j 
  clear f197
  have hX0 := hX
  have hX : Kx [h] S T161 := hX.tr kxT161 (q1_ (Or.inl o112))
  obtain ⟨z201, hz201, p162⟩ := p162
  have f202 : Ap h z201 := ap_k k113 hz201 (by decide)
  have f203 : Ap q1 z201 := ap_k k115 hz201 (by decide)
  have f204 : Ap z39 z201 := ap_k k117 hz201 (by decide)
  have f205 : Ap z43 z201 := ap_k k119 hz201 (by decide)
  have f206 : Ap z47 z201 := ap_k k121 hz201 (by decide)
  have f207 : Ap z51 z201 := ap_k k123 hz201 (by decide)
  have f208 : Ap q109 z201 := ap_k k159 hz201 (by decide)
  have o209 : 16 ≤ sK S z201 := hX0.old hz201 (ni_c (ap_s f202) ni_0)
  obtain ⟨z210, hz210, p162⟩ := p162
  have f211 : Ap h z210 := ap_k k113 hz210 (by decide)
  have f212 : Ap q1 z210 := ap_k k115 hz210 (by decide)
  have f213 : Ap z39 z210 := ap_k k117 hz210 (by decide)
  have f214 : Ap z43 z210 := ap_k k119 hz210 (by decide)
  have f215 : Ap z47 z210 := ap_k k121 hz210 (by decide)
  have f216 : Ap z51 z210 := ap_k k123 hz210 (by decide)
  have f217 : Ap q109 z210 := ap_k k159 hz210 (by decide)
  have o218 : 16 ≤ sK S z210 := hX0.old hz210 (ni_c (ap_s f211) ni_0)
  obtain ⟨z219, hz219, p162⟩ := p162
  have f220 : Ap h z219 := ap_k k113 hz219 (by decide)
  have f221 : Ap q1 z219 := ap_k k115 hz219 (by decide)
  have f222 : Ap z39 z219 := ap_k k117 hz219 (by decide)
  have f223 : Ap z43 z219 := ap_k k119 hz219 (by decide)
  have f224 : Ap z47 z219 := ap_k k121 hz219 (by decide)
  have f225 : Ap z51 z219 := ap_k k123 hz219 (by decide)
  have f226 : Ap q109 z219 := ap_k k159 hz219 (by decide)
  have o227 : 16 ≤ sK S z219 := hX0.old hz219 (ni_c (ap_s f220) ni_0)
  obtain ⟨z228, hz228, p162⟩ := p162
  have f229 : Ap h z228 := ap_k k113 hz228 (by decide)
  have f230 : Ap q1 z228 := ap_k k115 hz228 (by decide)
  have f231 : Ap z39 z228 := ap_k k117 hz228 (by decide)
  have f232 : Ap z43 z228 := ap_k k119 hz228 (by decide)
  have f233 : Ap z47 z228 := ap_k k121 hz228 (by decide)
  have f234 : Ap z51 z228 := ap_k k123 hz228 (by decide)
  have f235 : Ap q109 z228 := ap_k k159 hz228 (by decide)
  have o236 : 16 ≤ sK S z228 := hX0.old hz228 (ni_c (ap_s f229) ni_0)
  obtain ⟨y237, p162⟩ := p162
  obtain ⟨y238, p162⟩ := p162
  obtain ⟨y239, p162⟩ := p162
  obtain ⟨y240, p162⟩ := p162
  obtain ⟨y241, p162⟩ := p162
  obtain ⟨y242, p162⟩ := p162
  obtain ⟨y243, p162⟩ := p162
  obtain ⟨y244, p162⟩ := p162
  obtain ⟨y245, p162⟩ := p162
  obtain ⟨y246, p162⟩ := p162
  obtain ⟨y247, p162⟩ := p162
  obtain ⟨y248, p162⟩ := p162
  obtain ⟨y249, p162⟩ := p162
  obtain ⟨y250, p162⟩ := p162
  obtain ⟨y251, p162⟩ := p162
  obtain ⟨y252, p162⟩ := p162
  obtain ⟨y253, p162⟩ := p162
  obtain ⟨y254, p162⟩ := p162
  obtain ⟨y255, p162⟩ := p162
  obtain ⟨y256, p162⟩ := p162
  have y257 := p162
  clear k113 k115 k117 k119 k121 k123 k159 r125 r126 r127 r128 r129 n130 n131 w132 w133 w134 w135 w136 w137 w138 w139 w140 w141 w142 w143 w144 w145 w146 w147 w148 w151 w152 w153 w154 w155 w156 w157 w158 w149 w150
  refine pg_pr (ci := 8) (C := RX8) (T := TX8) (N := 18) hx hb hts wi8 tyX8 tyX8_ok nmX8 hown hK hW hS f164 (by decide) rfl 1 (by decide) (hts (.fieldLink RX8 16 "IceHall" "secondIce" "LIceHall$Ice;") (by decide +kernel)) (fun _ h9 => h9) rfl hnm rfl rfl rfl rfl dX8_init_23 (fun H locs hW hS => ?_)
  have hX : Kx [h] S (stR T161 h 1 (some q109)) := hX.Rh List.mem_cons_self
  obtain ⟨S258, eS258⟩ : ∃ T : St, T = stR T161 h 1 (some q109) := ⟨_, rfl⟩
  rw [← eS258] at hW hX
  have k259 : sK S258 h = 8 := by rw [eS258]; exact f164
  have k260 : sK S258 q1 = 1 := by rw [eS258]; exact f176
  have k261 : sK S258 z39 = 0 := by rw [eS258]; exact f188
  have k262 : sK S258 z43 = 12 := by rw [eS258]; exact f191
  have k263 : sK S258 z47 = 0 := by rw [eS258]; exact f195
  have k264 : sK S258 z51 = 12 := by rw [eS258]; exact f198
  have k265 : sK S258 q109 = 1 := by rw [eS258]; exact y237
  have k266 : sK S258 z201 = 0 := by rw [eS258]; exact y239
  have k267 : sK S258 z210 = 12 := by rw [eS258]; exact y241
  have k268 : sK S258 z219 = 0 := by rw [eS258]; exact y245
  have k269 : sK S258 z228 = 12 := by rw [eS258]; exact y247
  have r270 : sR S258 h 0 = some q1 := by rw [eS258, rR, if_pos rfl, if_neg (by decide)]; exact f165
  have r271 : sR S258 q1 0 = some z39 := by rw [eS258, rR, if_neg (fk_ne k260 k259 (by decide))]; exact f177
  have r272 : sR S258 q1 1 = some z47 := by rw [eS258, rR, if_neg (fk_ne k260 k259 (by decide))]; exact f178
  have r273 : sR S258 z39 0 = some z43 := by rw [eS258, rR, if_neg (fk_ne k261 k259 (by decide))]; exact f189
  have r274 : sR S258 z47 0 = some z51 := by rw [eS258, rR, if_neg (fk_ne k263 k259 (by decide))]; exact f196
  have r275 : sR S258 q109 0 = some z201 := by rw [eS258, rR, if_neg (fk_ne k265 k259 (by decide))]; exact y238
  have r276 : sR S258 z201 0 = some z210 := by rw [eS258, rR, if_neg (fk_ne k266 k259 (by decide))]; exact y240
  have r277 : sR S258 q109 1 = some z219 := by rw [eS258, rR, if_neg (fk_ne k265 k259 (by decide))]; exact y244
  have r278 : sR S258 z219 0 = some z228 := by rw [eS258, rR, if_neg (fk_ne k268 k259 (by decide))]; exact y246
  have n279 : sL S258 z43 = 32 := by rw [eS258]; exact f192
  have n280 : sL S258 z51 = 32 := by rw [eS258]; exact f199
  have n281 : sL S258 z210 = 32 := by rw [eS258]; exact y242
  have n282 : sL S258 z228 = 32 := by rw [eS258]; exact y248
  have w283 : sI S258 h 9 = 0 := by rw [eS258]; exact f166
  have w284 : sI S258 h 10 = 0 := by rw [eS258]; exact f167
  have w285 : sI S258 h 11 = 0 := by rw [eS258]; exact f168
  have w286 : sI S258 h 12 = 0 := by rw [eS258]; exact f169
  have w287 : sI S258 h 13 = 0 := by rw [eS258]; exact f170
  have w288 : sI S258 h 14 = 0 := by rw [eS258]; exact f171
  have w289 : sI S258 h 15 = 0 := by rw [eS258]; exact f172
  have w290 : sI S258 h 16 = 0 := by rw [eS258]; exact f173
  have w291 : sI S258 h 17 = 0 := by rw [eS258]; exact f174
  have w292 : sI S258 q1 2 = 0 := by rw [eS258]; exact f179
  have w293 : sI S258 q1 3 = 300 := by rw [eS258]; exact f180
  have w294 : sI S258 q1 4 = 0 := by rw [eS258]; exact f181
  have w295 : sI S258 q1 5 = 0 := by rw [eS258]; exact f182
  have w296 : sI S258 q1 6 = 0 := by rw [eS258]; exact f183
  have w297 : sI S258 q1 7 = 0 := by rw [eS258]; exact f184
  have w298 : sI S258 q1 8 = 0 := by rw [eS258]; exact f185
  have w299 : sI S258 q1 9 = 0 := by rw [eS258]; exact f186
  have w300 : sI S258 q109 2 = 0 := by rw [eS258]; exact y250
  have w301 : sI S258 q109 3 = 300 := by rw [eS258]; exact y251
  have w302 : sI S258 q109 4 = 0 := by rw [eS258]; exact y252
  have w303 : sI S258 q109 5 = 0 := by rw [eS258]; exact y253
  have w304 : sI S258 q109 6 = 0 := by rw [eS258]; exact y254
  have w305 : sI S258 q109 7 = 0 := by rw [eS258]; exact y255
  have w306 : sI S258 q109 8 = 0 := by rw [eS258]; exact y256
  have w307 : sI S258 q109 9 = 0 := by rw [eS258]; exact y257
  have w308 : ∀ j, sJ S258 z43 j = 0 := fun j => by rw [eS258]; exact f193 j 
  have w309 : ∀ j, sJ S258 z51 j = 0 := fun j => by rw [eS258]; exact f200 j 
  have w310 : ∀ j, sJ S258 z210 j = 0 := fun j => by rw [eS258]; exact y243 j 
  have w311 : ∀ j, sJ S258 z228 j = 0 := fun j => by rw [eS258]; exact y249 j 
  have r312 : sR S258 h 1 = some q109 := by rw [eS258, rR, if_pos rfl, if_pos rfl]
  clear f164 f176 f188 f191 f195 f198 y237 y239 y241 y245 y247 f165 f177 f178 f189 f196 y238 y240 y244 y246 f192 f199 y242 y248 f166 f167 f168 f169 f170 f171 f172 f173 f174 f179 f180 f181 f182 f183 f184 f185 f186 y250 y251 y252 y253 y254 y255 y256 y257 f193 f200 y243 y249
  refine lv_aload_n hx hb dX8_init_26 rfl (lv_at hl 0 rfl) ?_
  refine lv_bipush (v := 6) hx hb dX8_init_27 (by decide) ?_
  refine pg_newq (kd := 14) (t0 := 4) (N' := 6) hx hb hown (hts (.classLink RX8 19 RX4) (by decide +kernel)) hZ.2.2.2.2.2.2.2.2.2.2.2.2.2.2.1 rfl (by decide) hK hW hS hA (by decide) (by decide) (Nat.le_of_ble_eq_true rfl) (Nat.le_of_ble_eq_true rfl) (Nat.le_of_ble_eq_true rfl) dX8_init_29 (fun q313 H hq313 hW hS => ?_)
  have f315 : Ap h q313 := ap_k k259 hq313 (by decide)
  have o316 : 16 ≤ sK S q313 := hX.old hq313 (ni_c (ap_s f315) ni_0)
  have hX : Kx [h] S (stN S258 q313 14 6) := hX.N hq313
  obtain ⟨S314, eS314⟩ : ∃ T : St, T = stN S258 q313 14 6 := ⟨_, rfl⟩
  rw [← eS314] at hW hX
  obtain ⟨k317, d318⟩ := fk_N (a := h) eS314 k259 (by decide) hq313
  obtain ⟨k319, d320⟩ := fk_N (a := q1) eS314 k260 (by decide) hq313
  obtain ⟨k321, d322⟩ := fk_N (a := z39) eS314 k261 (by decide) hq313
  obtain ⟨k323, d324⟩ := fk_N (a := z43) eS314 k262 (by decide) hq313
  obtain ⟨k325, d326⟩ := fk_N (a := z47) eS314 k263 (by decide) hq313
  obtain ⟨k327, d328⟩ := fk_N (a := z51) eS314 k264 (by decide) hq313
  obtain ⟨k329, d330⟩ := fk_N (a := q109) eS314 k265 (by decide) hq313
  obtain ⟨k331, d332⟩ := fk_N (a := z201) eS314 k266 (by decide) hq313
  obtain ⟨k333, d334⟩ := fk_N (a := z210) eS314 k267 (by decide) hq313
  obtain ⟨k335, d336⟩ := fk_N (a := z219) eS314 k268 (by decide) hq313
  obtain ⟨k337, d338⟩ := fk_N (a := z228) eS314 k269 (by decide) hq313
  have r339 : sR S314 h 0 = some q1 := by rw [eS314, rN, if_neg d318]; exact r270
  have r340 : sR S314 q1 0 = some z39 := by rw [eS314, rN, if_neg d320]; exact r271
  have r341 : sR S314 q1 1 = some z47 := by rw [eS314, rN, if_neg d320]; exact r272
  have r342 : sR S314 z39 0 = some z43 := by rw [eS314, rN, if_neg d322]; exact r273
  have r343 : sR S314 z47 0 = some z51 := by rw [eS314, rN, if_neg d326]; exact r274
  have r344 : sR S314 q109 0 = some z201 := by rw [eS314, rN, if_neg d330]; exact r275
  have r345 : sR S314 z201 0 = some z210 := by rw [eS314, rN, if_neg d332]; exact r276
  have r346 : sR S314 q109 1 = some z219 := by rw [eS314, rN, if_neg d330]; exact r277
  have r347 : sR S314 z219 0 = some z228 := by rw [eS314, rN, if_neg d336]; exact r278
  have r348 : sR S314 h 1 = some q109 := by rw [eS314, rN, if_neg d318]; exact r312
  have n349 : sL S314 z43 = 32 := by rw [eS314, lNw, if_neg d324]; exact n279
  have n350 : sL S314 z51 = 32 := by rw [eS314, lNw, if_neg d328]; exact n280
  have n351 : sL S314 z210 = 32 := by rw [eS314, lNw, if_neg d334]; exact n281
  have n352 : sL S314 z228 = 32 := by rw [eS314, lNw, if_neg d338]; exact n282
  have w353 : sI S314 h 9 = 0 := by rw [eS314, iN, if_neg d318]; exact w283
  have w354 : sI S314 h 10 = 0 := by rw [eS314, iN, if_neg d318]; exact w284
  have w355 : sI S314 h 11 = 0 := by rw [eS314, iN, if_neg d318]; exact w285
  have w356 : sI S314 h 12 = 0 := by rw [eS314, iN, if_neg d318]; exact w286
  have w357 : sI S314 h 13 = 0 := by rw [eS314, iN, if_neg d318]; exact w287
  have w358 : sI S314 h 14 = 0 := by rw [eS314, iN, if_neg d318]; exact w288
  have w359 : sI S314 h 15 = 0 := by rw [eS314, iN, if_neg d318]; exact w289
  have w360 : sI S314 h 16 = 0 := by rw [eS314, iN, if_neg d318]; exact w290
  have w361 : sI S314 h 17 = 0 := by rw [eS314, iN, if_neg d318]; exact w291
  have w362 : sI S314 q1 2 = 0 := by rw [eS314, iN, if_neg d320]; exact w292
  have w363 : sI S314 q1 3 = 300 := by rw [eS314, iN, if_neg d320]; exact w293
  have w364 : sI S314 q1 4 = 0 := by rw [eS314, iN, if_neg d320]; exact w294
  have w365 : sI S314 q1 5 = 0 := by rw [eS314, iN, if_neg d320]; exact w295
  have w366 : sI S314 q1 6 = 0 := by rw [eS314, iN, if_neg d320]; exact w296
  have w367 : sI S314 q1 7 = 0 := by rw [eS314, iN, if_neg d320]; exact w297
  have w368 : sI S314 q1 8 = 0 := by rw [eS314, iN, if_neg d320]; exact w298
  have w369 : sI S314 q1 9 = 0 := by rw [eS314, iN, if_neg d320]; exact w299
  have w370 : sI S314 q109 2 = 0 := by rw [eS314, iN, if_neg d330]; exact w300
  have w371 : sI S314 q109 3 = 300 := by rw [eS314, iN, if_neg d330]; exact w301
  have w372 : sI S314 q109 4 = 0 := by rw [eS314, iN, if_neg d330]; exact w302
  have w373 : sI S314 q109 5 = 0 := by rw [eS314, iN, if_neg d330]; exact w303
  have w374 : sI S314 q109 6 = 0 := by rw [eS314, iN, if_neg d330]; exact w304
  have w375 : sI S314 q109 7 = 0 := by rw [eS314, iN, if_neg d330]; exact w305
  have w376 : sI S314 q109 8 = 0 := by rw [eS314, iN, if_neg d330]; exact w306
  have w377 : sI S314 q109 9 = 0 := by rw [eS314, iN, if_neg d330]; exact w307
  have w378 : ∀ j, sJ S314 z43 j = 0 := fun j => by rw [eS314, jN, if_neg d324]; exact w308 j 
  have w379 : ∀ j, sJ S314 z51 j = 0 := fun j => by rw [eS314, jN, if_neg d328]; exact w309 j 
  have w380 : ∀ j, sJ S314 z210 j = 0 := fun j => by rw [eS314, jN, if_neg d334]; exact w310 j 
  have w381 : ∀ j, sJ S314 z228 j = 0 := fun j => by rw [eS314, jN, if_neg d338]; exact w311 j 
  have w382 : ∀ j, j < 6 → sR S314 q313 j = none := fun j _ => by rw [eS314, rN, if_pos rfl]
  have k383 : sK S314 q313 = 14 := by rw [eS314, kN, if_pos rfl]
  have n384 : sL S314 q313 = 6 := by rw [eS314, lNw, if_pos rfl]
  clear k259 k260 k261 k262 k263 k264 k265 k266 k267 k268 k269 r270 r271 r272 r273 r274 r275 r276 r277 r278 r312 n279 n280 n281 n282 w283 w284 w285 w286 w287 w288 w289 w290 w291 w292 w293 w294 w295 w296 w297 w298 w299 w300 w301 w302 w303 w304 w305 w306 w307 w308 w309 w310 w311
  refine pg_pr (ci := 8) (C := RX8) (T := TX8) (N := 18) hx hb hts wi8 tyX8 tyX8_ok nmX8 hown hK hW hS k317 (by decide) rfl 2 (by decide) (hts (.fieldLink RX8 21 "IceHall" "rightsInForce" "[LIceHall$Rights;") (by decide +kernel)) (fun _ h9 => h9) rfl hnm rfl rfl rfl rfl dX8_init_32 (fun H locs hW hS => ?_)
  have hX : Kx [h] S (stR S314 h 2 (some q313)) := hX.Rh List.mem_cons_self
  obtain ⟨S385, eS385⟩ : ∃ T : St, T = stR S314 h 2 (some q313) := ⟨_, rfl⟩
  rw [← eS385] at hW hX
  have k386 : sK S385 h = 8 := by rw [eS385]; exact k317
  have k387 : sK S385 q1 = 1 := by rw [eS385]; exact k319
  have k388 : sK S385 z39 = 0 := by rw [eS385]; exact k321
  have k389 : sK S385 z43 = 12 := by rw [eS385]; exact k323
  have k390 : sK S385 z47 = 0 := by rw [eS385]; exact k325
  have k391 : sK S385 z51 = 12 := by rw [eS385]; exact k327
  have k392 : sK S385 q109 = 1 := by rw [eS385]; exact k329
  have k393 : sK S385 z201 = 0 := by rw [eS385]; exact k331
  have k394 : sK S385 z210 = 12 := by rw [eS385]; exact k333
  have k395 : sK S385 z219 = 0 := by rw [eS385]; exact k335
  have k396 : sK S385 z228 = 12 := by rw [eS385]; exact k337
  have k397 : sK S385 q313 = 14 := by rw [eS385]; exact k383
  have r398 : sR S385 h 0 = some q1 := by rw [eS385, rR, if_pos rfl, if_neg (by decide)]; exact r339
  have r399 : sR S385 q1 0 = some z39 := by rw [eS385, rR, if_neg (fk_ne k387 k386 (by decide))]; exact r340
  have r400 : sR S385 q1 1 = some z47 := by rw [eS385, rR, if_neg (fk_ne k387 k386 (by decide))]; exact r341
  have r401 : sR S385 z39 0 = some z43 := by rw [eS385, rR, if_neg (fk_ne k388 k386 (by decide))]; exact r342
  have r402 : sR S385 z47 0 = some z51 := by rw [eS385, rR, if_neg (fk_ne k390 k386 (by decide))]; exact r343
  have r403 : sR S385 q109 0 = some z201 := by rw [eS385, rR, if_neg (fk_ne k392 k386 (by decide))]; exact r344
  have r404 : sR S385 z201 0 = some z210 := by rw [eS385, rR, if_neg (fk_ne k393 k386 (by decide))]; exact r345
  have r405 : sR S385 q109 1 = some z219 := by rw [eS385, rR, if_neg (fk_ne k392 k386 (by decide))]; exact r346
  have r406 : sR S385 z219 0 = some z228 := by rw [eS385, rR, if_neg (fk_ne k395 k386 (by decide))]; exact r347
  have r407 : sR S385 h 1 = some q109 := by rw [eS385, rR, if_pos rfl, if_neg (by decide)]; exact r348
  have n408 : sL S385 z43 = 32 := by rw [eS385]; exact n349
  have n409 : sL S385 z51 = 32 := by rw [eS385]; exact n350
  have n410 : sL S385 z210 = 32 := by rw [eS385]; exact n351
  have n411 : sL S385 z228 = 32 := by rw [eS385]; exact n352
  have n412 : sL S385 q313 = 6 := by rw [eS385]; exact n384
  have w413 : sI S385 h 9 = 0 := by rw [eS385]; exact w353
  have w414 : sI S385 h 10 = 0 := by rw [eS385]; exact w354
  have w415 : sI S385 h 11 = 0 := by rw [eS385]; exact w355
  have w416 : sI S385 h 12 = 0 := by rw [eS385]; exact w356
  have w417 : sI S385 h 13 = 0 := by rw [eS385]; exact w357
  have w418 : sI S385 h 14 = 0 := by rw [eS385]; exact w358
  have w419 : sI S385 h 15 = 0 := by rw [eS385]; exact w359
  have w420 : sI S385 h 16 = 0 := by rw [eS385]; exact w360
  have w421 : sI S385 h 17 = 0 := by rw [eS385]; exact w361
  have w422 : sI S385 q1 2 = 0 := by rw [eS385]; exact w362
  have w423 : sI S385 q1 3 = 300 := by rw [eS385]; exact w363
  have w424 : sI S385 q1 4 = 0 := by rw [eS385]; exact w364
  have w425 : sI S385 q1 5 = 0 := by rw [eS385]; exact w365
  have w426 : sI S385 q1 6 = 0 := by rw [eS385]; exact w366
  have w427 : sI S385 q1 7 = 0 := by rw [eS385]; exact w367
  have w428 : sI S385 q1 8 = 0 := by rw [eS385]; exact w368
  have w429 : sI S385 q1 9 = 0 := by rw [eS385]; exact w369
  have w430 : sI S385 q109 2 = 0 := by rw [eS385]; exact w370
  have w431 : sI S385 q109 3 = 300 := by rw [eS385]; exact w371
  have w432 : sI S385 q109 4 = 0 := by rw [eS385]; exact w372
  have w433 : sI S385 q109 5 = 0 := by rw [eS385]; exact w373
  have w434 : sI S385 q109 6 = 0 := by rw [eS385]; exact w374
  have w435 : sI S385 q109 7 = 0 := by rw [eS385]; exact w375
  have w436 : sI S385 q109 8 = 0 := by rw [eS385]; exact w376
  have w437 : sI S385 q109 9 = 0 := by rw [eS385]; exact w377
  have w438 : ∀ j, sJ S385 z43 j = 0 := fun j => by rw [eS385]; exact w378 j 
  have w439 : ∀ j, sJ S385 z51 j = 0 := fun j => by rw [eS385]; exact w379 j 
  have w440 : ∀ j, sJ S385 z210 j = 0 := fun j => by rw [eS385]; exact w380 j 
  have w441 : ∀ j, sJ S385 z228 j = 0 := fun j => by rw [eS385]; exact w381 j 
  have w442 : ∀ j, j < 6 → sR S385 q313 j = none := fun j hj => by rw [eS385, rR, if_neg (fk_ne k397 k386 (by decide))]; exact w382 j hj 
  have r443 : sR S385 h 2 = some q313 := by rw [eS385, rR, if_pos rfl, if_pos rfl]
  clear k317 k319 k321 k323 k325 k327 k329 k331 k333 k335 k337 k383 r339 r340 r341 r342 r343 r344 r345 r346 r347 r348 n349 n350 n351 n352 n384 w353 w354 w355 w356 w357 w358 w359 w360 w361 w362 w363 w364 w365 w366 w367 w368 w369 w370 w371 w372 w373 w374 w375 w376 w377 w378 w379 w380 w381 w382
  refine pg_new (ci := 4) (C := RX4) (T := TX4) (N := 6) hx hb hts wi4 tyX4 tyX4_ok hown (hts (.classLink RX8 19 RX4) (by decide +kernel)) (hts (.instantiable RX4 6) (by decide +kernel)) (hts (.initialized RX4) (by decide +kernel)) hK hW hS hA (by decide) rfl df_4 (Nat.le_of_ble_eq_true rfl) (Nat.le_of_ble_eq_true rfl) dX8_init_35 (fun q444 H hq444 hW hS => ?_)
  have f446 : Ap h q444 := ap_k k386 hq444 (by decide)
  have o447 : 16 ≤ sK S q444 := hX.old hq444 (ni_c (ap_s f446) ni_0)
  have hX : Kx [h] S (stN S385 q444 4 0) := hX.N hq444
  obtain ⟨S445, eS445⟩ : ∃ T : St, T = stN S385 q444 4 0 := ⟨_, rfl⟩
  rw [← eS445] at hW hX
  obtain ⟨k448, d449⟩ := fk_N (a := h) eS445 k386 (by decide) hq444
  obtain ⟨k450, d451⟩ := fk_N (a := q1) eS445 k387 (by decide) hq444
  obtain ⟨k452, d453⟩ := fk_N (a := z39) eS445 k388 (by decide) hq444
  obtain ⟨k454, d455⟩ := fk_N (a := z43) eS445 k389 (by decide) hq444
  obtain ⟨k456, d457⟩ := fk_N (a := z47) eS445 k390 (by decide) hq444
  obtain ⟨k458, d459⟩ := fk_N (a := z51) eS445 k391 (by decide) hq444
  obtain ⟨k460, d461⟩ := fk_N (a := q109) eS445 k392 (by decide) hq444
  obtain ⟨k462, d463⟩ := fk_N (a := z201) eS445 k393 (by decide) hq444
  obtain ⟨k464, d465⟩ := fk_N (a := z210) eS445 k394 (by decide) hq444
  obtain ⟨k466, d467⟩ := fk_N (a := z219) eS445 k395 (by decide) hq444
  obtain ⟨k468, d469⟩ := fk_N (a := z228) eS445 k396 (by decide) hq444
  obtain ⟨k470, d471⟩ := fk_N (a := q313) eS445 k397 (by decide) hq444
  have r472 : sR S445 h 0 = some q1 := by rw [eS445, rN, if_neg d449]; exact r398
  have r473 : sR S445 q1 0 = some z39 := by rw [eS445, rN, if_neg d451]; exact r399
  have r474 : sR S445 q1 1 = some z47 := by rw [eS445, rN, if_neg d451]; exact r400
  have r475 : sR S445 z39 0 = some z43 := by rw [eS445, rN, if_neg d453]; exact r401
  have r476 : sR S445 z47 0 = some z51 := by rw [eS445, rN, if_neg d457]; exact r402
  have r477 : sR S445 q109 0 = some z201 := by rw [eS445, rN, if_neg d461]; exact r403
  have r478 : sR S445 z201 0 = some z210 := by rw [eS445, rN, if_neg d463]; exact r404
  have r479 : sR S445 q109 1 = some z219 := by rw [eS445, rN, if_neg d461]; exact r405
  have r480 : sR S445 z219 0 = some z228 := by rw [eS445, rN, if_neg d467]; exact r406
  have r481 : sR S445 h 1 = some q109 := by rw [eS445, rN, if_neg d449]; exact r407
  have r482 : sR S445 h 2 = some q313 := by rw [eS445, rN, if_neg d449]; exact r443
  have n483 : sL S445 z43 = 32 := by rw [eS445, lNw, if_neg d455]; exact n408
  have n484 : sL S445 z51 = 32 := by rw [eS445, lNw, if_neg d459]; exact n409
  have n485 : sL S445 z210 = 32 := by rw [eS445, lNw, if_neg d465]; exact n410
  have n486 : sL S445 z228 = 32 := by rw [eS445, lNw, if_neg d469]; exact n411
  have n487 : sL S445 q313 = 6 := by rw [eS445, lNw, if_neg d471]; exact n412
  have w488 : sI S445 h 9 = 0 := by rw [eS445, iN, if_neg d449]; exact w413
  have w489 : sI S445 h 10 = 0 := by rw [eS445, iN, if_neg d449]; exact w414
  have w490 : sI S445 h 11 = 0 := by rw [eS445, iN, if_neg d449]; exact w415
  have w491 : sI S445 h 12 = 0 := by rw [eS445, iN, if_neg d449]; exact w416
  have w492 : sI S445 h 13 = 0 := by rw [eS445, iN, if_neg d449]; exact w417
  have w493 : sI S445 h 14 = 0 := by rw [eS445, iN, if_neg d449]; exact w418
  have w494 : sI S445 h 15 = 0 := by rw [eS445, iN, if_neg d449]; exact w419
  have w495 : sI S445 h 16 = 0 := by rw [eS445, iN, if_neg d449]; exact w420
  have w496 : sI S445 h 17 = 0 := by rw [eS445, iN, if_neg d449]; exact w421
  have w497 : sI S445 q1 2 = 0 := by rw [eS445, iN, if_neg d451]; exact w422
  have w498 : sI S445 q1 3 = 300 := by rw [eS445, iN, if_neg d451]; exact w423
  have w499 : sI S445 q1 4 = 0 := by rw [eS445, iN, if_neg d451]; exact w424
  have w500 : sI S445 q1 5 = 0 := by rw [eS445, iN, if_neg d451]; exact w425
  have w501 : sI S445 q1 6 = 0 := by rw [eS445, iN, if_neg d451]; exact w426
  have w502 : sI S445 q1 7 = 0 := by rw [eS445, iN, if_neg d451]; exact w427
  have w503 : sI S445 q1 8 = 0 := by rw [eS445, iN, if_neg d451]; exact w428
  have w504 : sI S445 q1 9 = 0 := by rw [eS445, iN, if_neg d451]; exact w429
  have w505 : sI S445 q109 2 = 0 := by rw [eS445, iN, if_neg d461]; exact w430
  have w506 : sI S445 q109 3 = 300 := by rw [eS445, iN, if_neg d461]; exact w431
  have w507 : sI S445 q109 4 = 0 := by rw [eS445, iN, if_neg d461]; exact w432
  have w508 : sI S445 q109 5 = 0 := by rw [eS445, iN, if_neg d461]; exact w433
  have w509 : sI S445 q109 6 = 0 := by rw [eS445, iN, if_neg d461]; exact w434
  have w510 : sI S445 q109 7 = 0 := by rw [eS445, iN, if_neg d461]; exact w435
  have w511 : sI S445 q109 8 = 0 := by rw [eS445, iN, if_neg d461]; exact w436
  have w512 : sI S445 q109 9 = 0 := by rw [eS445, iN, if_neg d461]; exact w437
  have w513 : ∀ j, sJ S445 z43 j = 0 := fun j => by rw [eS445, jN, if_neg d455]; exact w438 j 
  have w514 : ∀ j, sJ S445 z51 j = 0 := fun j => by rw [eS445, jN, if_neg d459]; exact w439 j 
  have w515 : ∀ j, sJ S445 z210 j = 0 := fun j => by rw [eS445, jN, if_neg d465]; exact w440 j 
  have w516 : ∀ j, sJ S445 z228 j = 0 := fun j => by rw [eS445, jN, if_neg d469]; exact w441 j 
  have w517 : ∀ j, j < 6 → sR S445 q313 j = none := fun j hj => by rw [eS445, rN, if_neg d471]; exact w442 j hj 
  have w518 : sI S445 q444 0 = 0 := by rw [eS445, iN, if_pos rfl]
  have w519 : sI S445 q444 1 = 0 := by rw [eS445, iN, if_pos rfl]
  have w520 : sI S445 q444 2 = 0 := by rw [eS445, iN, if_pos rfl]
  have w521 : sI S445 q444 3 = 0 := by rw [eS445, iN, if_pos rfl]
  have w522 : sI S445 q444 4 = 0 := by rw [eS445, iN, if_pos rfl]
  have w523 : sI S445 q444 5 = 0 := by rw [eS445, iN, if_pos rfl]
  have k524 : sK S445 q444 = 4 := by rw [eS445, kN, if_pos rfl]
  clear k386 k387 k388 k389 k390 k391 k392 k393 k394 k395 k396 k397 r398 r399 r400 r401 r402 r403 r404 r405 r406 r407 r443 n408 n409 n410 n411 n412 w413 w414 w415 w416 w417 w418 w419 w420 w421 w422 w423 w424 w425 w426 w427 w428 w429 w430 w431 w432 w433 w434 w435 w436 w437 w438 w439 w440 w441 w442
  refine lv_dup hx hb dX8_init_38 rfl ?_
  refine pc_INv (As := []) (rest := [.ref q444]) F (c_X4_init l D cy A S445 q444 k524) ⟨va_cnB 0 hts gX8_init_X4_init_n25 rfl rfl rfl hZ.2.2.2.2.1 (hts (.initialized RX4) (by decide +kernel)) (by decide +kernel) ⟨Nat.le_of_ble_eq_true rfl, Nat.le_of_ble_eq_true rfl⟩, rfl, hts (.instanceMethod yX4_init) (by decide +kernel)⟩ hK hZ hA hW hS rfl hl.1 rfl (Nat.le_of_ble_eq_true rfl) dX8_init_39 ⟨Nat.le_of_ble_eq_true rfl, Nat.le_of_ble_eq_true rfl⟩ (fun T526 H locs p527 hW hS => ?_)
  obtain ⟨kxT526, p527⟩ := p527
  have f528 := kxT526 h (ni_c d449 ni_0) (lt16 k448 (by decide))
  have f529 : sK T526 h = 8 := by rw [f528.1]; exact k448
  have f530 : sR T526 h 0 = some q1 := by rw [f528.2.2.1]; exact r472
  have f531 : sR T526 h 1 = some q109 := by rw [f528.2.2.1]; exact r481
  have f532 : sR T526 h 2 = some q313 := by rw [f528.2.2.1]; exact r482
  have f533 : sI T526 h 9 = 0 := by rw [f528.2.1]; exact w488
  have f534 : sI T526 h 10 = 0 := by rw [f528.2.1]; exact w489
  have f535 : sI T526 h 11 = 0 := by rw [f528.2.1]; exact w490
  have f536 : sI T526 h 12 = 0 := by rw [f528.2.1]; exact w491
  have f537 : sI T526 h 13 = 0 := by rw [f528.2.1]; exact w492
  have f538 : sI T526 h 14 = 0 := by rw [f528.2.1]; exact w493
  have f539 : sI T526 h 15 = 0 := by rw [f528.2.1]; exact w494
  have f540 : sI T526 h 16 = 0 := by rw [f528.2.1]; exact w495
  have f541 : sI T526 h 17 = 0 := by rw [f528.2.1]; exact w496
  clear f528
  have f542 := kxT526 q1 (ni_c d451 ni_0) (lt16 k450 (by decide))
  have f543 : sK T526 q1 = 1 := by rw [f542.1]; exact k450
  have f544 : sR T526 q1 0 = some z39 := by rw [f542.2.2.1]; exact r473
  have f545 : sR T526 q1 1 = some z47 := by rw [f542.2.2.1]; exact r474
  have f546 : sI T526 q1 2 = 0 := by rw [f542.2.1]; exact w497
  have f547 : sI T526 q1 3 = 300 := by rw [f542.2.1]; exact w498
  have f548 : sI T526 q1 4 = 0 := by rw [f542.2.1]; exact w499
  have f549 : sI T526 q1 5 = 0 := by rw [f542.2.1]; exact w500
  have f550 : sI T526 q1 6 = 0 := by rw [f542.2.1]; exact w501
  have f551 : sI T526 q1 7 = 0 := by rw [f542.2.1]; exact w502
  have f552 : sI T526 q1 8 = 0 := by rw [f542.2.1]; exact w503
  have f553 : sI T526 q1 9 = 0 := by rw [f542.2.1]; exact w504
  clear f542
  have f554 := kxT526 z39 (ni_c d453 ni_0) (lt16 k452 (by decide))
  have f555 : sK T526 z39 = 0 := by rw [f554.1]; exact k452
  have f556 : sR T526 z39 0 = some z43 := by rw [f554.2.2.1]; exact r475
  clear f554
  have f557 := kxT526 z43 (ni_c d455 ni_0) (lt16 k454 (by decide))
  have f558 : sK T526 z43 = 12 := by rw [f557.1]; exact k454
  have f559 : sL T526 z43 = 32 := by rw [f557.2.2.2.2]; exact n483
  have f560 : ∀ j, sJ T526 z43 j = 0 := fun j => by rw [f557.2.2.2.1]; exact w513 j 
  clear f557
  have f561 := kxT526 z47 (ni_c d457 ni_0) (lt16 k456 (by decide))
  have f562 : sK T526 z47 = 0 := by rw [f561.1]; exact k456
  have f563 : sR T526 z47 0 = some z51 := by rw [f561.2.2.1]; exact r476
  clear f561
  have f564 := kxT526 z51 (ni_c d459 ni_0) (lt16 k458 (by decide))
  have f565 : sK T526 z51 = 12 := by rw [f564.1]; exact k458
  have f566 : sL T526 z51 = 32 := by rw [f564.2.2.2.2]; exact n484
  have f567 : ∀ j, sJ T526 z51 j = 0 := fun j => by rw [f564.2.2.2.1]; exact w514 j 
  clear f564
  have f568 := kxT526 q109 (ni_c d461 ni_0) (lt16 k460 (by decide))
  have f569 : sK T526 q109 = 1 := by rw [f568.1]; exact k460
  have f570 : sR T526 q109 0 = some z201 := by rw [f568.2.2.1]; exact r477
  have f571 : sR T526 q109 1 = some z219 := by rw [f568.2.2.1]; exact r479
  have f572 : sI T526 q109 2 = 0 := by rw [f568.2.1]; exact w505
  have f573 : sI T526 q109 3 = 300 := by rw [f568.2.1]; exact w506
  have f574 : sI T526 q109 4 = 0 := by rw [f568.2.1]; exact w507
  have f575 : sI T526 q109 5 = 0 := by rw [f568.2.1]; exact w508
  have f576 : sI T526 q109 6 = 0 := by rw [f568.2.1]; exact w509
  have f577 : sI T526 q109 7 = 0 := by rw [f568.2.1]; exact w510
  have f578 : sI T526 q109 8 = 0 := by rw [f568.2.1]; exact w511
  have f579 : sI T526 q109 9 = 0 := by rw [f568.2.1]; exact w512
  clear f568
  have f580 := kxT526 z201 (ni_c d463 ni_0) (lt16 k462 (by decide))
  have f581 : sK T526 z201 = 0 := by rw [f580.1]; exact k462
  have f582 : sR T526 z201 0 = some z210 := by rw [f580.2.2.1]; exact r478
  clear f580
  have f583 := kxT526 z210 (ni_c d465 ni_0) (lt16 k464 (by decide))
  have f584 : sK T526 z210 = 12 := by rw [f583.1]; exact k464
  have f585 : sL T526 z210 = 32 := by rw [f583.2.2.2.2]; exact n485
  have f586 : ∀ j, sJ T526 z210 j = 0 := fun j => by rw [f583.2.2.2.1]; exact w515 j 
  clear f583
  have f587 := kxT526 z219 (ni_c d467 ni_0) (lt16 k466 (by decide))
  have f588 : sK T526 z219 = 0 := by rw [f587.1]; exact k466
  have f589 : sR T526 z219 0 = some z228 := by rw [f587.2.2.1]; exact r480
  clear f587
  have f590 := kxT526 z228 (ni_c d469 ni_0) (lt16 k468 (by decide))
  have f591 : sK T526 z228 = 12 := by rw [f590.1]; exact k468
  have f592 : sL T526 z228 = 32 := by rw [f590.2.2.2.2]; exact n486
  have f593 : ∀ j, sJ T526 z228 j = 0 := fun j => by rw [f590.2.2.2.1]; exact w516 j 
  clear f590
  have f594 := kxT526 q313 (ni_c d471 ni_0) (lt16 k470 (by decide))
  have f595 : sK T526 q313 = 14 := by rw [f594.1]; exact k470
  have f596 : sL T526 q313 = 6 := by rw [f594.2.2.2.2]; exact n487
  have f597 : ∀ j, j < 6 → sR T526 q313 j = none := fun j hj => by rw [f594.2.2.1]; exact w517 j hj 
  clear f594
  have hX0 := hX
  have hX : Kx [h] S T526 := hX.tr kxT526 (q1_ (Or.inl o447))
  obtain ⟨y598, p527⟩ := p527
  obtain ⟨y599, p527⟩ := p527
  obtain ⟨y600, p527⟩ := p527
  obtain ⟨y601, p527⟩ := p527
  obtain ⟨y602, p527⟩ := p527
  obtain ⟨y603, p527⟩ := p527
  have y604 := p527
  clear k448 k450 k452 k454 k456 k458 k460 k462 k464 k466 k468 k470 k524 r472 r473 r474 r475 r476 r477 r478 r479 r480 r481 r482 n483 n484 n485 n486 n487 w488 w489 w490 w491 w492 w493 w494 w495 w496 w497 w498 w499 w500 w501 w502 w503 w504 w505 w506 w507 w508 w509 w510 w511 w512 w518 w519 w520 w521 w522 w523 w513 w514 w515 w516 w517
  refine lv_astore_n (lv' := [(1, .ref q444), (0, .ref h)]) hx hb dX8_init_42 rfl hl (by decide) rfl (fun ls hl => ?_)
  refine lv_iconst (v := 0) hx hb dX8_init_43 (by decide) ?_
  refine lv_istore_n (lv' := [(2, .int 0), (1, .ref q444), (0, .ref h)]) hx hb dX8_init_44 rfl hl (by decide) rfl (fun ls hl => ?_)
  have loop605 : ∀ (n : Nat) (i : Nat) (T45 : St) (H : Heap) (locs : List Loc) (ls : Array Slot), (Kx [q313] T526 T45) → (sK T45 q313 = 14) → (sL T45 q313 = 6) → (i ≤ 6) → (∀ j, j < i → sR T45 q313 j = some q444) → 6 - i < n → PW D cy A T45 H → va_S A s.heap H locs → lv_has ls 3 [(0, .ref h), (1, .ref q444), (2, .int (nI i))] → W p l e ({ frames := 3, cells := 27, slots := 764, locals := 100 } : Room) s m args below meth c H locs 12 164 (MQ below (va_Qv (fun S1 => Kx [h] S S1 ∧ ∃ i1, 16 ≤ sK S i1 ∧ ∃ q1, 16 ≤ sK S q1 ∧ ∃ w1, 16 ≤ sK S w1 ∧ ∃ q2, 16 ≤ sK S q2 ∧ ∃ w2, 16 ≤ sK S w2 ∧ ∃ i2, 16 ≤ sK S i2 ∧ ∃ q3, 16 ≤ sK S q3 ∧ ∃ w3, 16 ≤ sK S w3 ∧ ∃ q4, 16 ≤ sK S q4 ∧ ∃ w4, 16 ≤ sK S w4 ∧ ∃ rif, 16 ≤ sK S rif ∧ ∃ rg, 16 ≤ sK S rg ∧ ∃ ses, 16 ≤ sK S ses ∧ ∃ pr, 16 ≤ sK S pr ∧ ∃ tp, 16 ≤ sK S tp ∧ ∃ by_, 16 ≤ sK S by_ ∧ ∃ rd, 16 ≤ sK S rd ∧ ∃ mo, 16 ≤ sK S mo ∧ ∃ mv, 16 ≤ sK S mv ∧ ∃ rw_, 16 ≤ sK S rw_ ∧ ∃ br, 16 ≤ sK S br ∧ ∃ lf, 16 ≤ sK S lf ∧ ∃ pl, 16 ≤ sK S pl ∧ ∃ wa, 16 ≤ sK S wa ∧ ∃ pi, 16 ≤ sK S pi ∧ ∃ be, 16 ≤ sK S be ∧ ∃ ro, 16 ≤ sK S ro ∧ sK S1 h = 8 ∧ sR S1 h 0 = some i1 ∧ sR S1 h 1 = some i2 ∧ sR S1 h 2 = some rif ∧ sR S1 h 3 = some ses ∧ sR S1 h 4 = some pr ∧ sR S1 h 5 = some tp ∧ sR S1 h 6 = some rd ∧ sR S1 h 7 = some mo ∧ sR S1 h 8 = some pl ∧ sK S1 i1 = 1 ∧ sR S1 i1 0 = some q1 ∧ sK S1 q1 = 0 ∧ sR S1 q1 0 = some w1 ∧ sK S1 w1 = 12 ∧ sL S1 w1 = 32 ∧ (∀ j, sJ S1 w1 j = 0) ∧ sR S1 i1 1 = some q2 ∧ sK S1 q2 = 0 ∧ sR S1 q2 0 = some w2 ∧ sK S1 w2 = 12 ∧ sL S1 w2 = 32 ∧ (∀ j, sJ S1 w2 j = 0) ∧ sI S1 i1 2 = 0 ∧ sI S1 i1 3 = 300 ∧ sI S1 i1 4 = 0 ∧ sI S1 i1 5 = 0 ∧ sI S1 i1 6 = 0 ∧ sI S1 i1 7 = 0 ∧ sI S1 i1 8 = 0 ∧ sI S1 i1 9 = 0 ∧ sK S1 i2 = 1 ∧ sR S1 i2 0 = some q3 ∧ sK S1 q3 = 0 ∧ sR S1 q3 0 = some w3 ∧ sK S1 w3 = 12 ∧ sL S1 w3 = 32 ∧ (∀ j, sJ S1 w3 j = 0) ∧ sR S1 i2 1 = some q4 ∧ sK S1 q4 = 0 ∧ sR S1 q4 0 = some w4 ∧ sK S1 w4 = 12 ∧ sL S1 w4 = 32 ∧ (∀ j, sJ S1 w4 j = 0) ∧ sI S1 i2 2 = 0 ∧ sI S1 i2 3 = 300 ∧ sI S1 i2 4 = 0 ∧ sI S1 i2 5 = 0 ∧ sI S1 i2 6 = 0 ∧ sI S1 i2 7 = 0 ∧ sI S1 i2 8 = 0 ∧ sI S1 i2 9 = 0 ∧ sK S1 rif = 14 ∧ sL S1 rif = 6 ∧ sK S1 ses = 15 ∧ sL S1 ses = 200 ∧ (∀ j, j < 200 → sR S1 ses j = none) ∧ sK S1 pr = 11 ∧ sL S1 pr = 24 ∧ (∀ j, j < 24 → sI S1 pr j = 10) ∧ sK S1 tp = 7 ∧ sR S1 tp 0 = some by_ ∧ sK S1 by_ = 10 ∧ sL S1 by_ = 80 ∧ sI S1 tp 1 = 0 ∧ sK S1 rd = 5 ∧ sR S1 rd 0 = some tp ∧ sK S1 mo = 2 ∧ sR S1 mo 0 = some i1 ∧ sR S1 mo 1 = some i2 ∧ sR S1 mo 2 = some mv ∧ sK S1 mv = 15 ∧ sL S1 mv = 5 ∧ sR S1 mo 3 = some rw_ ∧ sK S1 rw_ = 11 ∧ sL S1 rw_ = 5 ∧ sR S1 mo 4 = some br ∧ sK S1 br = 11 ∧ sL S1 br = 5 ∧ sR S1 mo 5 = some lf ∧ sK S1 lf = 11 ∧ sL S1 lf = 6 ∧ sI S1 mo 6 = 0 ∧ sI S1 mo 7 = 0 ∧ sI S1 mo 8 = 0 ∧ sI S1 mo 9 = 0 ∧ sK S1 pl = 3 ∧ sR S1 pl 0 = some wa ∧ sK S1 wa = 11 ∧ sL S1 wa = 9 ∧ (∀ j, j < 9 → sI S1 wa j = 0) ∧ sR S1 pl 1 = some pi ∧ sK S1 pi = 11 ∧ sL S1 pi = 8 ∧ sR S1 pl 2 = some be ∧ sK S1 be = 11 ∧ sL S1 be = 225 ∧ sR S1 pl 3 = some ro ∧ sK S1 ro = 11 ∧ sL S1 ro = 8 ∧ sI S1 pl 4 = 0 ∧ sI S1 pl 5 = 0 ∧ sI S1 pl 6 = 0 ∧ sI S1 pl 7 = 0 ∧ sI S1 pl 8 = 0 ∧ sK S1 rg = 4 ∧ sI S1 rg 0 = 16777215 ∧ sI S1 rg 1 = 127 ∧ sI S1 rg 2 = 15 ∧ sI S1 rg 3 = 168 ∧ sI S1 rg 4 = 100 ∧ sI S1 rg 5 = 50 ∧ (∀ j, j < 6 → sR S1 rif j = some rg) ∧ sI S1 h 9 = 0 ∧ sI S1 h 10 = 0 ∧ sI S1 h 11 = 200 ∧ sI S1 h 12 = 400 ∧ sI S1 h 13 = 3 ∧ sI S1 h 14 = 2 ∧ sI S1 h 15 = 0 ∧ sI S1 h 16 = 0 ∧ sI S1 h 17 = 0 ∧ Ap wa pi ∧ Ap wa be ∧ Ap pi be ∧ Ap be ro ∧ Ap pr wa ∧ Ap pr pi) (PU D cy A) A) args s 27 764 A) (F0 m 45 ls []) := by
    intro n
    induction n with
    | zero => intros; exact absurd (by assumption) (Nat.not_lt_zero _)
    | succ n ih =>
      intro i T45 H locs ls hkx45 hck45_0 hcn45_0 hle hel hme hW hS hl
      have f606 := hkx45 h (ni_c (fk_ne f529 f595 (by decide)) ni_0) (lt16 f529 (by decide))
      have f607 : sK T45 h = 8 := by rw [f606.1]; exact f529
      have f608 : sR T45 h 0 = some q1 := by rw [f606.2.2.1]; exact f530
      have f609 : sR T45 h 1 = some q109 := by rw [f606.2.2.1]; exact f531
      have f610 : sR T45 h 2 = some q313 := by rw [f606.2.2.1]; exact f532
      have f611 : sI T45 h 9 = 0 := by rw [f606.2.1]; exact f533
      have f612 : sI T45 h 10 = 0 := by rw [f606.2.1]; exact f534
      have f613 : sI T45 h 11 = 0 := by rw [f606.2.1]; exact f535
      have f614 : sI T45 h 12 = 0 := by rw [f606.2.1]; exact f536
      have f615 : sI T45 h 13 = 0 := by rw [f606.2.1]; exact f537
      have f616 : sI T45 h 14 = 0 := by rw [f606.2.1]; exact f538
      have f617 : sI T45 h 15 = 0 := by rw [f606.2.1]; exact f539
      have f618 : sI T45 h 16 = 0 := by rw [f606.2.1]; exact f540
      have f619 : sI T45 h 17 = 0 := by rw [f606.2.1]; exact f541
      clear f606
      have f620 := hkx45 q1 (ni_c (fk_ne f543 f595 (by decide)) ni_0) (lt16 f543 (by decide))
      have f621 : sK T45 q1 = 1 := by rw [f620.1]; exact f543
      have f622 : sR T45 q1 0 = some z39 := by rw [f620.2.2.1]; exact f544
      have f623 : sR T45 q1 1 = some z47 := by rw [f620.2.2.1]; exact f545
      have f624 : sI T45 q1 2 = 0 := by rw [f620.2.1]; exact f546
      have f625 : sI T45 q1 3 = 300 := by rw [f620.2.1]; exact f547
      have f626 : sI T45 q1 4 = 0 := by rw [f620.2.1]; exact f548
      have f627 : sI T45 q1 5 = 0 := by rw [f620.2.1]; exact f549
      have f628 : sI T45 q1 6 = 0 := by rw [f620.2.1]; exact f550
      have f629 : sI T45 q1 7 = 0 := by rw [f620.2.1]; exact f551
      have f630 : sI T45 q1 8 = 0 := by rw [f620.2.1]; exact f552
      have f631 : sI T45 q1 9 = 0 := by rw [f620.2.1]; exact f553
      clear f620
      have f632 := hkx45 z39 (ni_c (fk_ne f555 f595 (by decide)) ni_0) (lt16 f555 (by decide))
      have f633 : sK T45 z39 = 0 := by rw [f632.1]; exact f555
      have f634 : sR T45 z39 0 = some z43 := by rw [f632.2.2.1]; exact f556
      clear f632
      have f635 := hkx45 z43 (ni_c (fk_ne f558 f595 (by decide)) ni_0) (lt16 f558 (by decide))
      have f636 : sK T45 z43 = 12 := by rw [f635.1]; exact f558
      have f637 : sL T45 z43 = 32 := by rw [f635.2.2.2.2]; exact f559
      have f638 : ∀ j, sJ T45 z43 j = 0 := fun j => by rw [f635.2.2.2.1]; exact f560 j 
      clear f635
      have f639 := hkx45 z47 (ni_c (fk_ne f562 f595 (by decide)) ni_0) (lt16 f562 (by decide))
      have f640 : sK T45 z47 = 0 := by rw [f639.1]; exact f562
      have f641 : sR T45 z47 0 = some z51 := by rw [f639.2.2.1]; exact f563
      clear f639
      have f642 := hkx45 z51 (ni_c (fk_ne f565 f595 (by decide)) ni_0) (lt16 f565 (by decide))
      have f643 : sK T45 z51 = 12 := by rw [f642.1]; exact f565
      have f644 : sL T45 z51 = 32 := by rw [f642.2.2.2.2]; exact f566
      have f645 : ∀ j, sJ T45 z51 j = 0 := fun j => by rw [f642.2.2.2.1]; exact f567 j 
      clear f642
      have f646 := hkx45 q109 (ni_c (fk_ne f569 f595 (by decide)) ni_0) (lt16 f569 (by decide))
      have f647 : sK T45 q109 = 1 := by rw [f646.1]; exact f569
      have f648 : sR T45 q109 0 = some z201 := by rw [f646.2.2.1]; exact f570
      have f649 : sR T45 q109 1 = some z219 := by rw [f646.2.2.1]; exact f571
      have f650 : sI T45 q109 2 = 0 := by rw [f646.2.1]; exact f572
      have f651 : sI T45 q109 3 = 300 := by rw [f646.2.1]; exact f573
      have f652 : sI T45 q109 4 = 0 := by rw [f646.2.1]; exact f574
      have f653 : sI T45 q109 5 = 0 := by rw [f646.2.1]; exact f575
      have f654 : sI T45 q109 6 = 0 := by rw [f646.2.1]; exact f576
      have f655 : sI T45 q109 7 = 0 := by rw [f646.2.1]; exact f577
      have f656 : sI T45 q109 8 = 0 := by rw [f646.2.1]; exact f578
      have f657 : sI T45 q109 9 = 0 := by rw [f646.2.1]; exact f579
      clear f646
      have f658 := hkx45 z201 (ni_c (fk_ne f581 f595 (by decide)) ni_0) (lt16 f581 (by decide))
      have f659 : sK T45 z201 = 0 := by rw [f658.1]; exact f581
      have f660 : sR T45 z201 0 = some z210 := by rw [f658.2.2.1]; exact f582
      clear f658
      have f661 := hkx45 z210 (ni_c (fk_ne f584 f595 (by decide)) ni_0) (lt16 f584 (by decide))
      have f662 : sK T45 z210 = 12 := by rw [f661.1]; exact f584
      have f663 : sL T45 z210 = 32 := by rw [f661.2.2.2.2]; exact f585
      have f664 : ∀ j, sJ T45 z210 j = 0 := fun j => by rw [f661.2.2.2.1]; exact f586 j 
      clear f661
      have f665 := hkx45 z219 (ni_c (fk_ne f588 f595 (by decide)) ni_0) (lt16 f588 (by decide))
      have f666 : sK T45 z219 = 0 := by rw [f665.1]; exact f588
      have f667 : sR T45 z219 0 = some z228 := by rw [f665.2.2.1]; exact f589
      clear f665
      have f668 := hkx45 z228 (ni_c (fk_ne f591 f595 (by decide)) ni_0) (lt16 f591 (by decide))
      have f669 : sK T45 z228 = 12 := by rw [f668.1]; exact f591
      have f670 : sL T45 z228 = 32 := by rw [f668.2.2.2.2]; exact f592
      have f671 : ∀ j, sJ T45 z228 j = 0 := fun j => by rw [f668.2.2.2.1]; exact f593 j 
      clear f668
      have f672 := hkx45 q444 (ni_c (fk_ne y598 f595 (by decide)) ni_0) (lt16 y598 (by decide))
      have f673 : sK T45 q444 = 4 := by rw [f672.1]; exact y598
      have f674 : sI T45 q444 0 = 16777215 := by rw [f672.2.1]; exact y599
      have f675 : sI T45 q444 1 = 127 := by rw [f672.2.1]; exact y600
      have f676 : sI T45 q444 2 = 15 := by rw [f672.2.1]; exact y601
      have f677 : sI T45 q444 3 = 168 := by rw [f672.2.1]; exact y602
      have f678 : sI T45 q444 4 = 100 := by rw [f672.2.1]; exact y603
      have f679 : sI T45 q444 5 = 50 := by rw [f672.2.1]; exact y604
      clear f672
      have hX : Kx [h] S T45 := hX.tr hkx45 (q1_ (Or.inl o316))
      have hni : (nI i).toInt = (i : Int) := nI_toInt (by omega)
      refine lv_iload_n hx hb dX8_init_45 rfl (lv_at hl 2 rfl) ?_
      refine lv_bipush (v := 6) hx hb dX8_init_46 (by decide) ?_
      refine lv_icmp_ge (tgt := 64) hx hb dX8_init_48 (by decide) (fun c680 => ?_) (fun c680 => ?_)
      · have c680i : (6 : Int) ≤ Int32.toInt (nI i) := (i3_le _ _).mp c680
        have hi6 : i = 6 := by omega
        subst hi6
        refine lv_aload_n hx hb dX8_init_64 rfl (lv_at hl 0 rfl) ?_
        refine lv_sipush (v := 200) hx hb dX8_init_65 (by decide) ?_
        refine pg_newq (kd := 15) (t0 := 5) (N' := 200) hx hb hown (hts (.classLink RX8 26 RX6) (by decide +kernel)) hZ.2.2.2.2.2.2.2.2.2.2.2.2.2.2.2 rfl (by decide) hK hW hS hA (by decide) (by decide) (Nat.le_of_ble_eq_true rfl) (Nat.le_of_ble_eq_true rfl) (Nat.le_of_ble_eq_true rfl) dX8_init_68 (fun q681 H hq681 hW hS => ?_)
        have f683 : Ap h q681 := ap_k f607 hq681 (by decide)
        have o684 : 16 ≤ sK S q681 := hX.old hq681 (ni_c (ap_s f683) ni_0)
        have hX : Kx [h] S (stN T45 q681 15 200) := hX.N hq681
        obtain ⟨S682, eS682⟩ : ∃ T : St, T = stN T45 q681 15 200 := ⟨_, rfl⟩
        rw [← eS682] at hW hX
        obtain ⟨k685, d686⟩ := fk_N (a := h) eS682 f607 (by decide) hq681
        obtain ⟨k687, d688⟩ := fk_N (a := q1) eS682 f621 (by decide) hq681
        obtain ⟨k689, d690⟩ := fk_N (a := z39) eS682 f633 (by decide) hq681
        obtain ⟨k691, d692⟩ := fk_N (a := z43) eS682 f636 (by decide) hq681
        obtain ⟨k693, d694⟩ := fk_N (a := z47) eS682 f640 (by decide) hq681
        obtain ⟨k695, d696⟩ := fk_N (a := z51) eS682 f643 (by decide) hq681
        obtain ⟨k697, d698⟩ := fk_N (a := q109) eS682 f647 (by decide) hq681
        obtain ⟨k699, d700⟩ := fk_N (a := z201) eS682 f659 (by decide) hq681
        obtain ⟨k701, d702⟩ := fk_N (a := z210) eS682 f662 (by decide) hq681
        obtain ⟨k703, d704⟩ := fk_N (a := z219) eS682 f666 (by decide) hq681
        obtain ⟨k705, d706⟩ := fk_N (a := z228) eS682 f669 (by decide) hq681
        obtain ⟨k707, d708⟩ := fk_N (a := q444) eS682 f673 (by decide) hq681
        obtain ⟨k709, d710⟩ := fk_N (a := q313) eS682 hck45_0 (by decide) hq681
        have r711 : sR S682 h 0 = some q1 := by rw [eS682, rN, if_neg d686]; exact f608
        have r712 : sR S682 h 1 = some q109 := by rw [eS682, rN, if_neg d686]; exact f609
        have r713 : sR S682 h 2 = some q313 := by rw [eS682, rN, if_neg d686]; exact f610
        have r714 : sR S682 q1 0 = some z39 := by rw [eS682, rN, if_neg d688]; exact f622
        have r715 : sR S682 q1 1 = some z47 := by rw [eS682, rN, if_neg d688]; exact f623
        have r716 : sR S682 z39 0 = some z43 := by rw [eS682, rN, if_neg d690]; exact f634
        have r717 : sR S682 z47 0 = some z51 := by rw [eS682, rN, if_neg d694]; exact f641
        have r718 : sR S682 q109 0 = some z201 := by rw [eS682, rN, if_neg d698]; exact f648
        have r719 : sR S682 q109 1 = some z219 := by rw [eS682, rN, if_neg d698]; exact f649
        have r720 : sR S682 z201 0 = some z210 := by rw [eS682, rN, if_neg d700]; exact f660
        have r721 : sR S682 z219 0 = some z228 := by rw [eS682, rN, if_neg d704]; exact f667
        have n722 : sL S682 z43 = 32 := by rw [eS682, lNw, if_neg d692]; exact f637
        have n723 : sL S682 z51 = 32 := by rw [eS682, lNw, if_neg d696]; exact f644
        have n724 : sL S682 z210 = 32 := by rw [eS682, lNw, if_neg d702]; exact f663
        have n725 : sL S682 z228 = 32 := by rw [eS682, lNw, if_neg d706]; exact f670
        have n726 : sL S682 q313 = 6 := by rw [eS682, lNw, if_neg d710]; exact hcn45_0
        have w727 : sI S682 h 9 = 0 := by rw [eS682, iN, if_neg d686]; exact f611
        have w728 : sI S682 h 10 = 0 := by rw [eS682, iN, if_neg d686]; exact f612
        have w729 : sI S682 h 11 = 0 := by rw [eS682, iN, if_neg d686]; exact f613
        have w730 : sI S682 h 12 = 0 := by rw [eS682, iN, if_neg d686]; exact f614
        have w731 : sI S682 h 13 = 0 := by rw [eS682, iN, if_neg d686]; exact f615
        have w732 : sI S682 h 14 = 0 := by rw [eS682, iN, if_neg d686]; exact f616
        have w733 : sI S682 h 15 = 0 := by rw [eS682, iN, if_neg d686]; exact f617
        have w734 : sI S682 h 16 = 0 := by rw [eS682, iN, if_neg d686]; exact f618
        have w735 : sI S682 h 17 = 0 := by rw [eS682, iN, if_neg d686]; exact f619
        have w736 : sI S682 q1 2 = 0 := by rw [eS682, iN, if_neg d688]; exact f624
        have w737 : sI S682 q1 3 = 300 := by rw [eS682, iN, if_neg d688]; exact f625
        have w738 : sI S682 q1 4 = 0 := by rw [eS682, iN, if_neg d688]; exact f626
        have w739 : sI S682 q1 5 = 0 := by rw [eS682, iN, if_neg d688]; exact f627
        have w740 : sI S682 q1 6 = 0 := by rw [eS682, iN, if_neg d688]; exact f628
        have w741 : sI S682 q1 7 = 0 := by rw [eS682, iN, if_neg d688]; exact f629
        have w742 : sI S682 q1 8 = 0 := by rw [eS682, iN, if_neg d688]; exact f630
        have w743 : sI S682 q1 9 = 0 := by rw [eS682, iN, if_neg d688]; exact f631
        have w744 : sI S682 q109 2 = 0 := by rw [eS682, iN, if_neg d698]; exact f650
        have w745 : sI S682 q109 3 = 300 := by rw [eS682, iN, if_neg d698]; exact f651
        have w746 : sI S682 q109 4 = 0 := by rw [eS682, iN, if_neg d698]; exact f652
        have w747 : sI S682 q109 5 = 0 := by rw [eS682, iN, if_neg d698]; exact f653
        have w748 : sI S682 q109 6 = 0 := by rw [eS682, iN, if_neg d698]; exact f654
        have w749 : sI S682 q109 7 = 0 := by rw [eS682, iN, if_neg d698]; exact f655
        have w750 : sI S682 q109 8 = 0 := by rw [eS682, iN, if_neg d698]; exact f656
        have w751 : sI S682 q109 9 = 0 := by rw [eS682, iN, if_neg d698]; exact f657
        have w752 : sI S682 q444 0 = 16777215 := by rw [eS682, iN, if_neg d708]; exact f674
        have w753 : sI S682 q444 1 = 127 := by rw [eS682, iN, if_neg d708]; exact f675
        have w754 : sI S682 q444 2 = 15 := by rw [eS682, iN, if_neg d708]; exact f676
        have w755 : sI S682 q444 3 = 168 := by rw [eS682, iN, if_neg d708]; exact f677
        have w756 : sI S682 q444 4 = 100 := by rw [eS682, iN, if_neg d708]; exact f678
        have w757 : sI S682 q444 5 = 50 := by rw [eS682, iN, if_neg d708]; exact f679
        have w758 : ∀ j, sJ S682 z43 j = 0 := fun j => by rw [eS682, jN, if_neg d692]; exact f638 j 
        have w759 : ∀ j, sJ S682 z51 j = 0 := fun j => by rw [eS682, jN, if_neg d696]; exact f645 j 
        have w760 : ∀ j, sJ S682 z210 j = 0 := fun j => by rw [eS682, jN, if_neg d702]; exact f664 j 
        have w761 : ∀ j, sJ S682 z228 j = 0 := fun j => by rw [eS682, jN, if_neg d706]; exact f671 j 
        have w762 : ∀ j, j < 6 → sR S682 q313 j = some q444 := fun j hj => by rw [eS682, rN, if_neg d710]; exact hel j hj 
        have w763 : ∀ j, j < 200 → sR S682 q681 j = none := fun j _ => by rw [eS682, rN, if_pos rfl]
        have k764 : sK S682 q681 = 15 := by rw [eS682, kN, if_pos rfl]
        have n765 : sL S682 q681 = 200 := by rw [eS682, lNw, if_pos rfl]
        clear f607 f621 f633 f636 f640 f643 f647 f659 f662 f666 f669 f673 f608 f609 f610 f622 f623 f634 f641 f648 f649 f660 f667 f637 f644 f663 f670 f611 f612 f613 f614 f615 f616 f617 f618 f619 f624 f625 f626 f627 f628 f629 f630 f631 f650 f651 f652 f653 f654 f655 f656 f657 f674 f675 f676 f677 f678 f679 f638 f645 f664 f671
        refine pg_pr (ci := 8) (C := RX8) (T := TX8) (N := 18) hx hb hts wi8 tyX8 tyX8_ok nmX8 hown hK hW hS k685 (by decide) rfl 3 (by decide) (hts (.fieldLink RX8 28 "IceHall" "sessions" "[LIceHall$Session;") (by decide +kernel)) (fun _ h9 => h9) rfl hnm rfl rfl rfl rfl dX8_init_71 (fun H locs hW hS => ?_)
        have hX : Kx [h] S (stR S682 h 3 (some q681)) := hX.Rh List.mem_cons_self
        obtain ⟨S766, eS766⟩ : ∃ T : St, T = stR S682 h 3 (some q681) := ⟨_, rfl⟩
        rw [← eS766] at hW hX
        have k767 : sK S766 h = 8 := by rw [eS766]; exact k685
        have k768 : sK S766 q1 = 1 := by rw [eS766]; exact k687
        have k769 : sK S766 z39 = 0 := by rw [eS766]; exact k689
        have k770 : sK S766 z43 = 12 := by rw [eS766]; exact k691
        have k771 : sK S766 z47 = 0 := by rw [eS766]; exact k693
        have k772 : sK S766 z51 = 12 := by rw [eS766]; exact k695
        have k773 : sK S766 q109 = 1 := by rw [eS766]; exact k697
        have k774 : sK S766 z201 = 0 := by rw [eS766]; exact k699
        have k775 : sK S766 z210 = 12 := by rw [eS766]; exact k701
        have k776 : sK S766 z219 = 0 := by rw [eS766]; exact k703
        have k777 : sK S766 z228 = 12 := by rw [eS766]; exact k705
        have k778 : sK S766 q444 = 4 := by rw [eS766]; exact k707
        have k779 : sK S766 q313 = 14 := by rw [eS766]; exact k709
        have k780 : sK S766 q681 = 15 := by rw [eS766]; exact k764
        have r781 : sR S766 h 0 = some q1 := by rw [eS766, rR, if_pos rfl, if_neg (by decide)]; exact r711
        have r782 : sR S766 h 1 = some q109 := by rw [eS766, rR, if_pos rfl, if_neg (by decide)]; exact r712
        have r783 : sR S766 h 2 = some q313 := by rw [eS766, rR, if_pos rfl, if_neg (by decide)]; exact r713
        have r784 : sR S766 q1 0 = some z39 := by rw [eS766, rR, if_neg (fk_ne k768 k767 (by decide))]; exact r714
        have r785 : sR S766 q1 1 = some z47 := by rw [eS766, rR, if_neg (fk_ne k768 k767 (by decide))]; exact r715
        have r786 : sR S766 z39 0 = some z43 := by rw [eS766, rR, if_neg (fk_ne k769 k767 (by decide))]; exact r716
        have r787 : sR S766 z47 0 = some z51 := by rw [eS766, rR, if_neg (fk_ne k771 k767 (by decide))]; exact r717
        have r788 : sR S766 q109 0 = some z201 := by rw [eS766, rR, if_neg (fk_ne k773 k767 (by decide))]; exact r718
        have r789 : sR S766 q109 1 = some z219 := by rw [eS766, rR, if_neg (fk_ne k773 k767 (by decide))]; exact r719
        have r790 : sR S766 z201 0 = some z210 := by rw [eS766, rR, if_neg (fk_ne k774 k767 (by decide))]; exact r720
        have r791 : sR S766 z219 0 = some z228 := by rw [eS766, rR, if_neg (fk_ne k776 k767 (by decide))]; exact r721
        have n792 : sL S766 z43 = 32 := by rw [eS766]; exact n722
        have n793 : sL S766 z51 = 32 := by rw [eS766]; exact n723
        have n794 : sL S766 z210 = 32 := by rw [eS766]; exact n724
        have n795 : sL S766 z228 = 32 := by rw [eS766]; exact n725
        have n796 : sL S766 q313 = 6 := by rw [eS766]; exact n726
        have n797 : sL S766 q681 = 200 := by rw [eS766]; exact n765
        have w798 : sI S766 h 9 = 0 := by rw [eS766]; exact w727
        have w799 : sI S766 h 10 = 0 := by rw [eS766]; exact w728
        have w800 : sI S766 h 11 = 0 := by rw [eS766]; exact w729
        have w801 : sI S766 h 12 = 0 := by rw [eS766]; exact w730
        have w802 : sI S766 h 13 = 0 := by rw [eS766]; exact w731
        have w803 : sI S766 h 14 = 0 := by rw [eS766]; exact w732
        have w804 : sI S766 h 15 = 0 := by rw [eS766]; exact w733
        have w805 : sI S766 h 16 = 0 := by rw [eS766]; exact w734
        have w806 : sI S766 h 17 = 0 := by rw [eS766]; exact w735
        have w807 : sI S766 q1 2 = 0 := by rw [eS766]; exact w736
        have w808 : sI S766 q1 3 = 300 := by rw [eS766]; exact w737
        have w809 : sI S766 q1 4 = 0 := by rw [eS766]; exact w738
        have w810 : sI S766 q1 5 = 0 := by rw [eS766]; exact w739
        have w811 : sI S766 q1 6 = 0 := by rw [eS766]; exact w740
        have w812 : sI S766 q1 7 = 0 := by rw [eS766]; exact w741
        have w813 : sI S766 q1 8 = 0 := by rw [eS766]; exact w742
        have w814 : sI S766 q1 9 = 0 := by rw [eS766]; exact w743
        have w815 : sI S766 q109 2 = 0 := by rw [eS766]; exact w744
        have w816 : sI S766 q109 3 = 300 := by rw [eS766]; exact w745
        have w817 : sI S766 q109 4 = 0 := by rw [eS766]; exact w746
        have w818 : sI S766 q109 5 = 0 := by rw [eS766]; exact w747
        have w819 : sI S766 q109 6 = 0 := by rw [eS766]; exact w748
        have w820 : sI S766 q109 7 = 0 := by rw [eS766]; exact w749
        have w821 : sI S766 q109 8 = 0 := by rw [eS766]; exact w750
        have w822 : sI S766 q109 9 = 0 := by rw [eS766]; exact w751
        have w823 : sI S766 q444 0 = 16777215 := by rw [eS766]; exact w752
        have w824 : sI S766 q444 1 = 127 := by rw [eS766]; exact w753
        have w825 : sI S766 q444 2 = 15 := by rw [eS766]; exact w754
        have w826 : sI S766 q444 3 = 168 := by rw [eS766]; exact w755
        have w827 : sI S766 q444 4 = 100 := by rw [eS766]; exact w756
        have w828 : sI S766 q444 5 = 50 := by rw [eS766]; exact w757
        have w829 : ∀ j, sJ S766 z43 j = 0 := fun j => by rw [eS766]; exact w758 j 
        have w830 : ∀ j, sJ S766 z51 j = 0 := fun j => by rw [eS766]; exact w759 j 
        have w831 : ∀ j, sJ S766 z210 j = 0 := fun j => by rw [eS766]; exact w760 j 
        have w832 : ∀ j, sJ S766 z228 j = 0 := fun j => by rw [eS766]; exact w761 j 
        have w833 : ∀ j, j < 6 → sR S766 q313 j = some q444 := fun j hj => by rw [eS766, rR, if_neg (fk_ne k779 k767 (by decide))]; exact w762 j hj 
        have w834 : ∀ j, j < 200 → sR S766 q681 j = none := fun j hj => by rw [eS766, rR, if_neg (fk_ne k780 k767 (by decide))]; exact w763 j hj 
        have r835 : sR S766 h 3 = some q681 := by rw [eS766, rR, if_pos rfl, if_pos rfl]
        clear k685 k687 k689 k691 k693 k695 k697 k699 k701 k703 k705 k707 k709 k764 r711 r712 r713 r714 r715 r716 r717 r718 r719 r720 r721 n722 n723 n724 n725 n726 n765 w727 w728 w729 w730 w731 w732 w733 w734 w735 w736 w737 w738 w739 w740 w741 w742 w743 w744 w745 w746 w747 w748 w749 w750 w751 w752 w753 w754 w755 w756 w757 w758 w759 w760 w761 w762 w763
        refine lv_aload_n hx hb dX8_init_74 rfl (lv_at hl 0 rfl) ?_
        refine lv_bipush (v := 24) hx hb dX8_init_75 (by decide) ?_
        refine pg_newa (atype := .int) (ty := .int) (kd := 11) (t0 := 1) (N' := 24) hx hb (hts (.arrayClass .int) (by decide +kernel)) rfl rfl (Or.inl rfl) (by decide) hK hW hS hA (fun _ => rfl) (by decide) (by decide) (Nat.le_of_ble_eq_true rfl) (Nat.le_of_ble_eq_true rfl) (Nat.le_of_ble_eq_true rfl) dX8_init_77 (fun q836 H hq836 hW hS => ?_)
        have f838 : Ap h q836 := ap_k k767 hq836 (by decide)
        have o839 : 16 ≤ sK S q836 := hX.old hq836 (ni_c (ap_s f838) ni_0)
        have hX : Kx [h] S (stN S766 q836 11 24) := hX.N hq836
        obtain ⟨S837, eS837⟩ : ∃ T : St, T = stN S766 q836 11 24 := ⟨_, rfl⟩
        rw [← eS837] at hW hX
        obtain ⟨k840, d841⟩ := fk_N (a := h) eS837 k767 (by decide) hq836
        obtain ⟨k842, d843⟩ := fk_N (a := q1) eS837 k768 (by decide) hq836
        obtain ⟨k844, d845⟩ := fk_N (a := z39) eS837 k769 (by decide) hq836
        obtain ⟨k846, d847⟩ := fk_N (a := z43) eS837 k770 (by decide) hq836
        obtain ⟨k848, d849⟩ := fk_N (a := z47) eS837 k771 (by decide) hq836
        obtain ⟨k850, d851⟩ := fk_N (a := z51) eS837 k772 (by decide) hq836
        obtain ⟨k852, d853⟩ := fk_N (a := q109) eS837 k773 (by decide) hq836
        obtain ⟨k854, d855⟩ := fk_N (a := z201) eS837 k774 (by decide) hq836
        obtain ⟨k856, d857⟩ := fk_N (a := z210) eS837 k775 (by decide) hq836
        obtain ⟨k858, d859⟩ := fk_N (a := z219) eS837 k776 (by decide) hq836
        obtain ⟨k860, d861⟩ := fk_N (a := z228) eS837 k777 (by decide) hq836
        obtain ⟨k862, d863⟩ := fk_N (a := q444) eS837 k778 (by decide) hq836
        obtain ⟨k864, d865⟩ := fk_N (a := q313) eS837 k779 (by decide) hq836
        obtain ⟨k866, d867⟩ := fk_N (a := q681) eS837 k780 (by decide) hq836
        have r868 : sR S837 h 0 = some q1 := by rw [eS837, rN, if_neg d841]; exact r781
        have r869 : sR S837 h 1 = some q109 := by rw [eS837, rN, if_neg d841]; exact r782
        have r870 : sR S837 h 2 = some q313 := by rw [eS837, rN, if_neg d841]; exact r783
        have r871 : sR S837 q1 0 = some z39 := by rw [eS837, rN, if_neg d843]; exact r784
        have r872 : sR S837 q1 1 = some z47 := by rw [eS837, rN, if_neg d843]; exact r785
        have r873 : sR S837 z39 0 = some z43 := by rw [eS837, rN, if_neg d845]; exact r786
        have r874 : sR S837 z47 0 = some z51 := by rw [eS837, rN, if_neg d849]; exact r787
        have r875 : sR S837 q109 0 = some z201 := by rw [eS837, rN, if_neg d853]; exact r788
        have r876 : sR S837 q109 1 = some z219 := by rw [eS837, rN, if_neg d853]; exact r789
        have r877 : sR S837 z201 0 = some z210 := by rw [eS837, rN, if_neg d855]; exact r790
        have r878 : sR S837 z219 0 = some z228 := by rw [eS837, rN, if_neg d859]; exact r791
        have r879 : sR S837 h 3 = some q681 := by rw [eS837, rN, if_neg d841]; exact r835
        have n880 : sL S837 z43 = 32 := by rw [eS837, lNw, if_neg d847]; exact n792
        have n881 : sL S837 z51 = 32 := by rw [eS837, lNw, if_neg d851]; exact n793
        have n882 : sL S837 z210 = 32 := by rw [eS837, lNw, if_neg d857]; exact n794
        have n883 : sL S837 z228 = 32 := by rw [eS837, lNw, if_neg d861]; exact n795
        have n884 : sL S837 q313 = 6 := by rw [eS837, lNw, if_neg d865]; exact n796
        have n885 : sL S837 q681 = 200 := by rw [eS837, lNw, if_neg d867]; exact n797
        have w886 : sI S837 h 9 = 0 := by rw [eS837, iN, if_neg d841]; exact w798
        have w887 : sI S837 h 10 = 0 := by rw [eS837, iN, if_neg d841]; exact w799
        have w888 : sI S837 h 11 = 0 := by rw [eS837, iN, if_neg d841]; exact w800
        have w889 : sI S837 h 12 = 0 := by rw [eS837, iN, if_neg d841]; exact w801
        have w890 : sI S837 h 13 = 0 := by rw [eS837, iN, if_neg d841]; exact w802
        have w891 : sI S837 h 14 = 0 := by rw [eS837, iN, if_neg d841]; exact w803
        have w892 : sI S837 h 15 = 0 := by rw [eS837, iN, if_neg d841]; exact w804
        have w893 : sI S837 h 16 = 0 := by rw [eS837, iN, if_neg d841]; exact w805
        have w894 : sI S837 h 17 = 0 := by rw [eS837, iN, if_neg d841]; exact w806
        have w895 : sI S837 q1 2 = 0 := by rw [eS837, iN, if_neg d843]; exact w807
        have w896 : sI S837 q1 3 = 300 := by rw [eS837, iN, if_neg d843]; exact w808
        have w897 : sI S837 q1 4 = 0 := by rw [eS837, iN, if_neg d843]; exact w809
        have w898 : sI S837 q1 5 = 0 := by rw [eS837, iN, if_neg d843]; exact w810
        have w899 : sI S837 q1 6 = 0 := by rw [eS837, iN, if_neg d843]; exact w811
        have w900 : sI S837 q1 7 = 0 := by rw [eS837, iN, if_neg d843]; exact w812
        have w901 : sI S837 q1 8 = 0 := by rw [eS837, iN, if_neg d843]; exact w813
        have w902 : sI S837 q1 9 = 0 := by rw [eS837, iN, if_neg d843]; exact w814
        have w903 : sI S837 q109 2 = 0 := by rw [eS837, iN, if_neg d853]; exact w815
        have w904 : sI S837 q109 3 = 300 := by rw [eS837, iN, if_neg d853]; exact w816
        have w905 : sI S837 q109 4 = 0 := by rw [eS837, iN, if_neg d853]; exact w817
        have w906 : sI S837 q109 5 = 0 := by rw [eS837, iN, if_neg d853]; exact w818
        have w907 : sI S837 q109 6 = 0 := by rw [eS837, iN, if_neg d853]; exact w819
        have w908 : sI S837 q109 7 = 0 := by rw [eS837, iN, if_neg d853]; exact w820
        have w909 : sI S837 q109 8 = 0 := by rw [eS837, iN, if_neg d853]; exact w821
        have w910 : sI S837 q109 9 = 0 := by rw [eS837, iN, if_neg d853]; exact w822
        have w911 : sI S837 q444 0 = 16777215 := by rw [eS837, iN, if_neg d863]; exact w823
        have w912 : sI S837 q444 1 = 127 := by rw [eS837, iN, if_neg d863]; exact w824
        have w913 : sI S837 q444 2 = 15 := by rw [eS837, iN, if_neg d863]; exact w825
        have w914 : sI S837 q444 3 = 168 := by rw [eS837, iN, if_neg d863]; exact w826
        have w915 : sI S837 q444 4 = 100 := by rw [eS837, iN, if_neg d863]; exact w827
        have w916 : sI S837 q444 5 = 50 := by rw [eS837, iN, if_neg d863]; exact w828
        have w917 : ∀ j, sJ S837 z43 j = 0 := fun j => by rw [eS837, jN, if_neg d847]; exact w829 j 
        have w918 : ∀ j, sJ S837 z51 j = 0 := fun j => by rw [eS837, jN, if_neg d851]; exact w830 j 
        have w919 : ∀ j, sJ S837 z210 j = 0 := fun j => by rw [eS837, jN, if_neg d857]; exact w831 j 
        have w920 : ∀ j, sJ S837 z228 j = 0 := fun j => by rw [eS837, jN, if_neg d861]; exact w832 j 
        have w921 : ∀ j, j < 6 → sR S837 q313 j = some q444 := fun j hj => by rw [eS837, rN, if_neg d865]; exact w833 j hj 
        have w922 : ∀ j, j < 200 → sR S837 q681 j = none := fun j hj => by rw [eS837, rN, if_neg d867]; exact w834 j hj 
        have w923 : ∀ j, j < 24 → sI S837 q836 j = 0 := fun j _ => by rw [eS837, iN, if_pos rfl]
        have k924 : sK S837 q836 = 11 := by rw [eS837, kN, if_pos rfl]
        have n925 : sL S837 q836 = 24 := by rw [eS837, lNw, if_pos rfl]
        clear k767 k768 k769 k770 k771 k772 k773 k774 k775 k776 k777 k778 k779 k780 r781 r782 r783 r784 r785 r786 r787 r788 r789 r790 r791 r835 n792 n793 n794 n795 n796 n797 w798 w799 w800 w801 w802 w803 w804 w805 w806 w807 w808 w809 w810 w811 w812 w813 w814 w815 w816 w817 w818 w819 w820 w821 w822 w823 w824 w825 w826 w827 w828 w829 w830 w831 w832 w833 w834
        refine pg_pr (ci := 8) (C := RX8) (T := TX8) (N := 18) hx hb hts wi8 tyX8 tyX8_ok nmX8 hown hK hW hS k840 (by decide) rfl 4 (by decide) (hts (.fieldLink RX8 32 "IceHall" "prices" "[I") (by decide +kernel)) (fun _ h9 => h9) rfl hnm rfl rfl rfl rfl dX8_init_79 (fun H locs hW hS => ?_)
        have hX : Kx [h] S (stR S837 h 4 (some q836)) := hX.Rh List.mem_cons_self
        obtain ⟨S926, eS926⟩ : ∃ T : St, T = stR S837 h 4 (some q836) := ⟨_, rfl⟩
        rw [← eS926] at hW hX
        have k927 : sK S926 h = 8 := by rw [eS926]; exact k840
        have k928 : sK S926 q1 = 1 := by rw [eS926]; exact k842
        have k929 : sK S926 z39 = 0 := by rw [eS926]; exact k844
        have k930 : sK S926 z43 = 12 := by rw [eS926]; exact k846
        have k931 : sK S926 z47 = 0 := by rw [eS926]; exact k848
        have k932 : sK S926 z51 = 12 := by rw [eS926]; exact k850
        have k933 : sK S926 q109 = 1 := by rw [eS926]; exact k852
        have k934 : sK S926 z201 = 0 := by rw [eS926]; exact k854
        have k935 : sK S926 z210 = 12 := by rw [eS926]; exact k856
        have k936 : sK S926 z219 = 0 := by rw [eS926]; exact k858
        have k937 : sK S926 z228 = 12 := by rw [eS926]; exact k860
        have k938 : sK S926 q444 = 4 := by rw [eS926]; exact k862
        have k939 : sK S926 q313 = 14 := by rw [eS926]; exact k864
        have k940 : sK S926 q681 = 15 := by rw [eS926]; exact k866
        have k941 : sK S926 q836 = 11 := by rw [eS926]; exact k924
        have r942 : sR S926 h 0 = some q1 := by rw [eS926, rR, if_pos rfl, if_neg (by decide)]; exact r868
        have r943 : sR S926 h 1 = some q109 := by rw [eS926, rR, if_pos rfl, if_neg (by decide)]; exact r869
        have r944 : sR S926 h 2 = some q313 := by rw [eS926, rR, if_pos rfl, if_neg (by decide)]; exact r870
        have r945 : sR S926 q1 0 = some z39 := by rw [eS926, rR, if_neg (fk_ne k928 k927 (by decide))]; exact r871
        have r946 : sR S926 q1 1 = some z47 := by rw [eS926, rR, if_neg (fk_ne k928 k927 (by decide))]; exact r872
        have r947 : sR S926 z39 0 = some z43 := by rw [eS926, rR, if_neg (fk_ne k929 k927 (by decide))]; exact r873
        have r948 : sR S926 z47 0 = some z51 := by rw [eS926, rR, if_neg (fk_ne k931 k927 (by decide))]; exact r874
        have r949 : sR S926 q109 0 = some z201 := by rw [eS926, rR, if_neg (fk_ne k933 k927 (by decide))]; exact r875
        have r950 : sR S926 q109 1 = some z219 := by rw [eS926, rR, if_neg (fk_ne k933 k927 (by decide))]; exact r876
        have r951 : sR S926 z201 0 = some z210 := by rw [eS926, rR, if_neg (fk_ne k934 k927 (by decide))]; exact r877
        have r952 : sR S926 z219 0 = some z228 := by rw [eS926, rR, if_neg (fk_ne k936 k927 (by decide))]; exact r878
        have r953 : sR S926 h 3 = some q681 := by rw [eS926, rR, if_pos rfl, if_neg (by decide)]; exact r879
        have n954 : sL S926 z43 = 32 := by rw [eS926]; exact n880
        have n955 : sL S926 z51 = 32 := by rw [eS926]; exact n881
        have n956 : sL S926 z210 = 32 := by rw [eS926]; exact n882
        have n957 : sL S926 z228 = 32 := by rw [eS926]; exact n883
        have n958 : sL S926 q313 = 6 := by rw [eS926]; exact n884
        have n959 : sL S926 q681 = 200 := by rw [eS926]; exact n885
        have n960 : sL S926 q836 = 24 := by rw [eS926]; exact n925
        have w961 : sI S926 h 9 = 0 := by rw [eS926]; exact w886
        have w962 : sI S926 h 10 = 0 := by rw [eS926]; exact w887
        have w963 : sI S926 h 11 = 0 := by rw [eS926]; exact w888
        have w964 : sI S926 h 12 = 0 := by rw [eS926]; exact w889
        have w965 : sI S926 h 13 = 0 := by rw [eS926]; exact w890
        have w966 : sI S926 h 14 = 0 := by rw [eS926]; exact w891
        have w967 : sI S926 h 15 = 0 := by rw [eS926]; exact w892
        have w968 : sI S926 h 16 = 0 := by rw [eS926]; exact w893
        have w969 : sI S926 h 17 = 0 := by rw [eS926]; exact w894
        have w970 : sI S926 q1 2 = 0 := by rw [eS926]; exact w895
        have w971 : sI S926 q1 3 = 300 := by rw [eS926]; exact w896
        have w972 : sI S926 q1 4 = 0 := by rw [eS926]; exact w897
        have w973 : sI S926 q1 5 = 0 := by rw [eS926]; exact w898
        have w974 : sI S926 q1 6 = 0 := by rw [eS926]; exact w899
        have w975 : sI S926 q1 7 = 0 := by rw [eS926]; exact w900
        have w976 : sI S926 q1 8 = 0 := by rw [eS926]; exact w901
        have w977 : sI S926 q1 9 = 0 := by rw [eS926]; exact w902
        have w978 : sI S926 q109 2 = 0 := by rw [eS926]; exact w903
        have w979 : sI S926 q109 3 = 300 := by rw [eS926]; exact w904
        have w980 : sI S926 q109 4 = 0 := by rw [eS926]; exact w905
        have w981 : sI S926 q109 5 = 0 := by rw [eS926]; exact w906
        have w982 : sI S926 q109 6 = 0 := by rw [eS926]; exact w907
        have w983 : sI S926 q109 7 = 0 := by rw [eS926]; exact w908
        have w984 : sI S926 q109 8 = 0 := by rw [eS926]; exact w909
        have w985 : sI S926 q109 9 = 0 := by rw [eS926]; exact w910
        have w986 : sI S926 q444 0 = 16777215 := by rw [eS926]; exact w911
        have w987 : sI S926 q444 1 = 127 := by rw [eS926]; exact w912
        have w988 : sI S926 q444 2 = 15 := by rw [eS926]; exact w913
        have w989 : sI S926 q444 3 = 168 := by rw [eS926]; exact w914
        have w990 : sI S926 q444 4 = 100 := by rw [eS926]; exact w915
        have w991 : sI S926 q444 5 = 50 := by rw [eS926]; exact w916
        have w992 : ∀ j, sJ S926 z43 j = 0 := fun j => by rw [eS926]; exact w917 j 
        have w993 : ∀ j, sJ S926 z51 j = 0 := fun j => by rw [eS926]; exact w918 j 
        have w994 : ∀ j, sJ S926 z210 j = 0 := fun j => by rw [eS926]; exact w919 j 
        have w995 : ∀ j, sJ S926 z228 j = 0 := fun j => by rw [eS926]; exact w920 j 
        have w996 : ∀ j, j < 6 → sR S926 q313 j = some q444 := fun j hj => by rw [eS926, rR, if_neg (fk_ne k939 k927 (by decide))]; exact w921 j hj 
        have w997 : ∀ j, j < 200 → sR S926 q681 j = none := fun j hj => by rw [eS926, rR, if_neg (fk_ne k940 k927 (by decide))]; exact w922 j hj 
        have w998 : ∀ j, j < 24 → sI S926 q836 j = 0 := fun j hj => by rw [eS926]; exact w923 j hj 
        have r999 : sR S926 h 4 = some q836 := by rw [eS926, rR, if_pos rfl, if_pos rfl]
        clear k840 k842 k844 k846 k848 k850 k852 k854 k856 k858 k860 k862 k864 k866 k924 r868 r869 r870 r871 r872 r873 r874 r875 r876 r877 r878 r879 n880 n881 n882 n883 n884 n885 n925 w886 w887 w888 w889 w890 w891 w892 w893 w894 w895 w896 w897 w898 w899 w900 w901 w902 w903 w904 w905 w906 w907 w908 w909 w910 w911 w912 w913 w914 w915 w916 w917 w918 w919 w920 w921 w922 w923
        refine lv_iconst (v := 0) hx hb dX8_init_82 (by decide) ?_
        refine lv_istore_n (lv' := [(2, .int 0), (0, .ref h), (1, .ref q444)]) hx hb dX8_init_83 rfl hl (by decide) rfl (fun ls hl => ?_)
        have loop1000 : ∀ (n : Nat) (i : Nat) (T84 : St) (H : Heap) (locs : List Loc) (ls : Array Slot), (Kx [q836] S926 T84) → (sK T84 q836 = 11) → (sL T84 q836 = 24) → (i ≤ 24) → (∀ j, j < i → sI T84 q836 j = 10) → 24 - i < n → PW D cy A T84 H → va_S A s.heap H locs → lv_has ls 3 [(0, .ref h), (1, .ref q444), (2, .int (nI i))] → W p l e ({ frames := 3, cells := 27, slots := 764, locals := 100 } : Room) s m args below meth c H locs 14 388 (MQ below (va_Qv (fun S1 => Kx [h] S S1 ∧ ∃ i1, 16 ≤ sK S i1 ∧ ∃ q1, 16 ≤ sK S q1 ∧ ∃ w1, 16 ≤ sK S w1 ∧ ∃ q2, 16 ≤ sK S q2 ∧ ∃ w2, 16 ≤ sK S w2 ∧ ∃ i2, 16 ≤ sK S i2 ∧ ∃ q3, 16 ≤ sK S q3 ∧ ∃ w3, 16 ≤ sK S w3 ∧ ∃ q4, 16 ≤ sK S q4 ∧ ∃ w4, 16 ≤ sK S w4 ∧ ∃ rif, 16 ≤ sK S rif ∧ ∃ rg, 16 ≤ sK S rg ∧ ∃ ses, 16 ≤ sK S ses ∧ ∃ pr, 16 ≤ sK S pr ∧ ∃ tp, 16 ≤ sK S tp ∧ ∃ by_, 16 ≤ sK S by_ ∧ ∃ rd, 16 ≤ sK S rd ∧ ∃ mo, 16 ≤ sK S mo ∧ ∃ mv, 16 ≤ sK S mv ∧ ∃ rw_, 16 ≤ sK S rw_ ∧ ∃ br, 16 ≤ sK S br ∧ ∃ lf, 16 ≤ sK S lf ∧ ∃ pl, 16 ≤ sK S pl ∧ ∃ wa, 16 ≤ sK S wa ∧ ∃ pi, 16 ≤ sK S pi ∧ ∃ be, 16 ≤ sK S be ∧ ∃ ro, 16 ≤ sK S ro ∧ sK S1 h = 8 ∧ sR S1 h 0 = some i1 ∧ sR S1 h 1 = some i2 ∧ sR S1 h 2 = some rif ∧ sR S1 h 3 = some ses ∧ sR S1 h 4 = some pr ∧ sR S1 h 5 = some tp ∧ sR S1 h 6 = some rd ∧ sR S1 h 7 = some mo ∧ sR S1 h 8 = some pl ∧ sK S1 i1 = 1 ∧ sR S1 i1 0 = some q1 ∧ sK S1 q1 = 0 ∧ sR S1 q1 0 = some w1 ∧ sK S1 w1 = 12 ∧ sL S1 w1 = 32 ∧ (∀ j, sJ S1 w1 j = 0) ∧ sR S1 i1 1 = some q2 ∧ sK S1 q2 = 0 ∧ sR S1 q2 0 = some w2 ∧ sK S1 w2 = 12 ∧ sL S1 w2 = 32 ∧ (∀ j, sJ S1 w2 j = 0) ∧ sI S1 i1 2 = 0 ∧ sI S1 i1 3 = 300 ∧ sI S1 i1 4 = 0 ∧ sI S1 i1 5 = 0 ∧ sI S1 i1 6 = 0 ∧ sI S1 i1 7 = 0 ∧ sI S1 i1 8 = 0 ∧ sI S1 i1 9 = 0 ∧ sK S1 i2 = 1 ∧ sR S1 i2 0 = some q3 ∧ sK S1 q3 = 0 ∧ sR S1 q3 0 = some w3 ∧ sK S1 w3 = 12 ∧ sL S1 w3 = 32 ∧ (∀ j, sJ S1 w3 j = 0) ∧ sR S1 i2 1 = some q4 ∧ sK S1 q4 = 0 ∧ sR S1 q4 0 = some w4 ∧ sK S1 w4 = 12 ∧ sL S1 w4 = 32 ∧ (∀ j, sJ S1 w4 j = 0) ∧ sI S1 i2 2 = 0 ∧ sI S1 i2 3 = 300 ∧ sI S1 i2 4 = 0 ∧ sI S1 i2 5 = 0 ∧ sI S1 i2 6 = 0 ∧ sI S1 i2 7 = 0 ∧ sI S1 i2 8 = 0 ∧ sI S1 i2 9 = 0 ∧ sK S1 rif = 14 ∧ sL S1 rif = 6 ∧ sK S1 ses = 15 ∧ sL S1 ses = 200 ∧ (∀ j, j < 200 → sR S1 ses j = none) ∧ sK S1 pr = 11 ∧ sL S1 pr = 24 ∧ (∀ j, j < 24 → sI S1 pr j = 10) ∧ sK S1 tp = 7 ∧ sR S1 tp 0 = some by_ ∧ sK S1 by_ = 10 ∧ sL S1 by_ = 80 ∧ sI S1 tp 1 = 0 ∧ sK S1 rd = 5 ∧ sR S1 rd 0 = some tp ∧ sK S1 mo = 2 ∧ sR S1 mo 0 = some i1 ∧ sR S1 mo 1 = some i2 ∧ sR S1 mo 2 = some mv ∧ sK S1 mv = 15 ∧ sL S1 mv = 5 ∧ sR S1 mo 3 = some rw_ ∧ sK S1 rw_ = 11 ∧ sL S1 rw_ = 5 ∧ sR S1 mo 4 = some br ∧ sK S1 br = 11 ∧ sL S1 br = 5 ∧ sR S1 mo 5 = some lf ∧ sK S1 lf = 11 ∧ sL S1 lf = 6 ∧ sI S1 mo 6 = 0 ∧ sI S1 mo 7 = 0 ∧ sI S1 mo 8 = 0 ∧ sI S1 mo 9 = 0 ∧ sK S1 pl = 3 ∧ sR S1 pl 0 = some wa ∧ sK S1 wa = 11 ∧ sL S1 wa = 9 ∧ (∀ j, j < 9 → sI S1 wa j = 0) ∧ sR S1 pl 1 = some pi ∧ sK S1 pi = 11 ∧ sL S1 pi = 8 ∧ sR S1 pl 2 = some be ∧ sK S1 be = 11 ∧ sL S1 be = 225 ∧ sR S1 pl 3 = some ro ∧ sK S1 ro = 11 ∧ sL S1 ro = 8 ∧ sI S1 pl 4 = 0 ∧ sI S1 pl 5 = 0 ∧ sI S1 pl 6 = 0 ∧ sI S1 pl 7 = 0 ∧ sI S1 pl 8 = 0 ∧ sK S1 rg = 4 ∧ sI S1 rg 0 = 16777215 ∧ sI S1 rg 1 = 127 ∧ sI S1 rg 2 = 15 ∧ sI S1 rg 3 = 168 ∧ sI S1 rg 4 = 100 ∧ sI S1 rg 5 = 50 ∧ (∀ j, j < 6 → sR S1 rif j = some rg) ∧ sI S1 h 9 = 0 ∧ sI S1 h 10 = 0 ∧ sI S1 h 11 = 200 ∧ sI S1 h 12 = 400 ∧ sI S1 h 13 = 3 ∧ sI S1 h 14 = 2 ∧ sI S1 h 15 = 0 ∧ sI S1 h 16 = 0 ∧ sI S1 h 17 = 0 ∧ Ap wa pi ∧ Ap wa be ∧ Ap pi be ∧ Ap be ro ∧ Ap pr wa ∧ Ap pr pi) (PU D cy A) A) args s 27 764 A) (F0 m 84 ls []) := by
          intro n
          induction n with
          | zero => intros; exact absurd (by assumption) (Nat.not_lt_zero _)
          | succ n ih84 =>
            intro i T84 H locs ls hkx84 hck84_0 hcn84_0 hle2 hel2 hme hW hS hl
            have f1001 := hkx84 h (ni_c (fk_ne k927 k941 (by decide)) ni_0) (lt16 k927 (by decide))
            have f1002 : sK T84 h = 8 := by rw [f1001.1]; exact k927
            have f1003 : sR T84 h 0 = some q1 := by rw [f1001.2.2.1]; exact r942
            have f1004 : sR T84 h 1 = some q109 := by rw [f1001.2.2.1]; exact r943
            have f1005 : sR T84 h 2 = some q313 := by rw [f1001.2.2.1]; exact r944
            have f1006 : sR T84 h 3 = some q681 := by rw [f1001.2.2.1]; exact r953
            have f1007 : sR T84 h 4 = some q836 := by rw [f1001.2.2.1]; exact r999
            have f1008 : sI T84 h 9 = 0 := by rw [f1001.2.1]; exact w961
            have f1009 : sI T84 h 10 = 0 := by rw [f1001.2.1]; exact w962
            have f1010 : sI T84 h 11 = 0 := by rw [f1001.2.1]; exact w963
            have f1011 : sI T84 h 12 = 0 := by rw [f1001.2.1]; exact w964
            have f1012 : sI T84 h 13 = 0 := by rw [f1001.2.1]; exact w965
            have f1013 : sI T84 h 14 = 0 := by rw [f1001.2.1]; exact w966
            have f1014 : sI T84 h 15 = 0 := by rw [f1001.2.1]; exact w967
            have f1015 : sI T84 h 16 = 0 := by rw [f1001.2.1]; exact w968
            have f1016 : sI T84 h 17 = 0 := by rw [f1001.2.1]; exact w969
            clear f1001
            have f1017 := hkx84 q1 (ni_c (fk_ne k928 k941 (by decide)) ni_0) (lt16 k928 (by decide))
            have f1018 : sK T84 q1 = 1 := by rw [f1017.1]; exact k928
            have f1019 : sR T84 q1 0 = some z39 := by rw [f1017.2.2.1]; exact r945
            have f1020 : sR T84 q1 1 = some z47 := by rw [f1017.2.2.1]; exact r946
            have f1021 : sI T84 q1 2 = 0 := by rw [f1017.2.1]; exact w970
            have f1022 : sI T84 q1 3 = 300 := by rw [f1017.2.1]; exact w971
            have f1023 : sI T84 q1 4 = 0 := by rw [f1017.2.1]; exact w972
            have f1024 : sI T84 q1 5 = 0 := by rw [f1017.2.1]; exact w973
            have f1025 : sI T84 q1 6 = 0 := by rw [f1017.2.1]; exact w974
            have f1026 : sI T84 q1 7 = 0 := by rw [f1017.2.1]; exact w975
            have f1027 : sI T84 q1 8 = 0 := by rw [f1017.2.1]; exact w976
            have f1028 : sI T84 q1 9 = 0 := by rw [f1017.2.1]; exact w977
            clear f1017
            have f1029 := hkx84 z39 (ni_c (fk_ne k929 k941 (by decide)) ni_0) (lt16 k929 (by decide))
            have f1030 : sK T84 z39 = 0 := by rw [f1029.1]; exact k929
            have f1031 : sR T84 z39 0 = some z43 := by rw [f1029.2.2.1]; exact r947
            clear f1029
            have f1032 := hkx84 z43 (ni_c (fk_ne k930 k941 (by decide)) ni_0) (lt16 k930 (by decide))
            have f1033 : sK T84 z43 = 12 := by rw [f1032.1]; exact k930
            have f1034 : sL T84 z43 = 32 := by rw [f1032.2.2.2.2]; exact n954
            have f1035 : ∀ j, sJ T84 z43 j = 0 := fun j => by rw [f1032.2.2.2.1]; exact w992 j 
            clear f1032
            have f1036 := hkx84 z47 (ni_c (fk_ne k931 k941 (by decide)) ni_0) (lt16 k931 (by decide))
            have f1037 : sK T84 z47 = 0 := by rw [f1036.1]; exact k931
            have f1038 : sR T84 z47 0 = some z51 := by rw [f1036.2.2.1]; exact r948
            clear f1036
            have f1039 := hkx84 z51 (ni_c (fk_ne k932 k941 (by decide)) ni_0) (lt16 k932 (by decide))
            have f1040 : sK T84 z51 = 12 := by rw [f1039.1]; exact k932
            have f1041 : sL T84 z51 = 32 := by rw [f1039.2.2.2.2]; exact n955
            have f1042 : ∀ j, sJ T84 z51 j = 0 := fun j => by rw [f1039.2.2.2.1]; exact w993 j 
            clear f1039
            have f1043 := hkx84 q109 (ni_c (fk_ne k933 k941 (by decide)) ni_0) (lt16 k933 (by decide))
            have f1044 : sK T84 q109 = 1 := by rw [f1043.1]; exact k933
            have f1045 : sR T84 q109 0 = some z201 := by rw [f1043.2.2.1]; exact r949
            have f1046 : sR T84 q109 1 = some z219 := by rw [f1043.2.2.1]; exact r950
            have f1047 : sI T84 q109 2 = 0 := by rw [f1043.2.1]; exact w978
            have f1048 : sI T84 q109 3 = 300 := by rw [f1043.2.1]; exact w979
            have f1049 : sI T84 q109 4 = 0 := by rw [f1043.2.1]; exact w980
            have f1050 : sI T84 q109 5 = 0 := by rw [f1043.2.1]; exact w981
            have f1051 : sI T84 q109 6 = 0 := by rw [f1043.2.1]; exact w982
            have f1052 : sI T84 q109 7 = 0 := by rw [f1043.2.1]; exact w983
            have f1053 : sI T84 q109 8 = 0 := by rw [f1043.2.1]; exact w984
            have f1054 : sI T84 q109 9 = 0 := by rw [f1043.2.1]; exact w985
            clear f1043
            have f1055 := hkx84 z201 (ni_c (fk_ne k934 k941 (by decide)) ni_0) (lt16 k934 (by decide))
            have f1056 : sK T84 z201 = 0 := by rw [f1055.1]; exact k934
            have f1057 : sR T84 z201 0 = some z210 := by rw [f1055.2.2.1]; exact r951
            clear f1055
            have f1058 := hkx84 z210 (ni_c (fk_ne k935 k941 (by decide)) ni_0) (lt16 k935 (by decide))
            have f1059 : sK T84 z210 = 12 := by rw [f1058.1]; exact k935
            have f1060 : sL T84 z210 = 32 := by rw [f1058.2.2.2.2]; exact n956
            have f1061 : ∀ j, sJ T84 z210 j = 0 := fun j => by rw [f1058.2.2.2.1]; exact w994 j 
            clear f1058
            have f1062 := hkx84 z219 (ni_c (fk_ne k936 k941 (by decide)) ni_0) (lt16 k936 (by decide))
            have f1063 : sK T84 z219 = 0 := by rw [f1062.1]; exact k936
            have f1064 : sR T84 z219 0 = some z228 := by rw [f1062.2.2.1]; exact r952
            clear f1062
            have f1065 := hkx84 z228 (ni_c (fk_ne k937 k941 (by decide)) ni_0) (lt16 k937 (by decide))
            have f1066 : sK T84 z228 = 12 := by rw [f1065.1]; exact k937
            have f1067 : sL T84 z228 = 32 := by rw [f1065.2.2.2.2]; exact n957
            have f1068 : ∀ j, sJ T84 z228 j = 0 := fun j => by rw [f1065.2.2.2.1]; exact w995 j 
            clear f1065
            have f1069 := hkx84 q444 (ni_c (fk_ne k938 k941 (by decide)) ni_0) (lt16 k938 (by decide))
            have f1070 : sK T84 q444 = 4 := by rw [f1069.1]; exact k938
            have f1071 : sI T84 q444 0 = 16777215 := by rw [f1069.2.1]; exact w986
            have f1072 : sI T84 q444 1 = 127 := by rw [f1069.2.1]; exact w987
            have f1073 : sI T84 q444 2 = 15 := by rw [f1069.2.1]; exact w988
            have f1074 : sI T84 q444 3 = 168 := by rw [f1069.2.1]; exact w989
            have f1075 : sI T84 q444 4 = 100 := by rw [f1069.2.1]; exact w990
            have f1076 : sI T84 q444 5 = 50 := by rw [f1069.2.1]; exact w991
            clear f1069
            have f1077 := hkx84 q313 (ni_c (fk_ne k939 k941 (by decide)) ni_0) (lt16 k939 (by decide))
            have f1078 : sK T84 q313 = 14 := by rw [f1077.1]; exact k939
            have f1079 : sL T84 q313 = 6 := by rw [f1077.2.2.2.2]; exact n958
            have f1080 : ∀ j, j < 6 → sR T84 q313 j = some q444 := fun j hj => by rw [f1077.2.2.1]; exact w996 j hj 
            clear f1077
            have f1081 := hkx84 q681 (ni_c (fk_ne k940 k941 (by decide)) ni_0) (lt16 k940 (by decide))
            have f1082 : sK T84 q681 = 15 := by rw [f1081.1]; exact k940
            have f1083 : sL T84 q681 = 200 := by rw [f1081.2.2.2.2]; exact n959
            have f1084 : ∀ j, j < 200 → sR T84 q681 j = none := fun j hj => by rw [f1081.2.2.1]; exact w997 j hj 
            clear f1081
            have hX : Kx [h] S T84 := hX.tr hkx84 (q1_ (Or.inl o839))
            have hni : (nI i).toInt = (i : Int) := nI_toInt (by omega)
            refine lv_iload_n hx hb dX8_init_84 rfl (lv_at hl 2 rfl) ?_
            refine lv_bipush (v := 24) hx hb dX8_init_85 (by decide) ?_
            refine lv_icmp_ge (tgt := 104) hx hb dX8_init_87 (by decide) (fun c1085 => ?_) (fun c1085 => ?_)
            · have c1085i : (24 : Int) ≤ Int32.toInt (nI i) := (i3_le _ _).mp c1085
              have hi6 : i = 24 := by omega
              subst hi6
              refine lv_aload_n hx hb dX8_init_104 rfl (lv_at hl 0 rfl) ?_
              refine pg_new (ci := 7) (C := RX7) (T := TX7) (N := 2) hx hb hts wi7 tyX7 tyX7_ok hown (hts (.classLink RX8 36 RX7) (by decide +kernel)) (hts (.instantiable RX7 2) (by decide +kernel)) (hts (.initialized RX7) (by decide +kernel)) hK hW hS hA (by decide) rfl df_7 (Nat.le_of_ble_eq_true rfl) (Nat.le_of_ble_eq_true rfl) dX8_init_105 (fun q1086 H hq1086 hW hS => ?_)
              have f1088 : Ap h q1086 := ap_k f1002 hq1086 (by decide)
              have o1089 : 16 ≤ sK S q1086 := hX.old hq1086 (ni_c (ap_s f1088) ni_0)
              have hX : Kx [h] S (stN T84 q1086 7 0) := hX.N hq1086
              obtain ⟨S1087, eS1087⟩ : ∃ T : St, T = stN T84 q1086 7 0 := ⟨_, rfl⟩
              rw [← eS1087] at hW hX
              obtain ⟨k1090, d1091⟩ := fk_N (a := h) eS1087 f1002 (by decide) hq1086
              obtain ⟨k1092, d1093⟩ := fk_N (a := q1) eS1087 f1018 (by decide) hq1086
              obtain ⟨k1094, d1095⟩ := fk_N (a := z39) eS1087 f1030 (by decide) hq1086
              obtain ⟨k1096, d1097⟩ := fk_N (a := z43) eS1087 f1033 (by decide) hq1086
              obtain ⟨k1098, d1099⟩ := fk_N (a := z47) eS1087 f1037 (by decide) hq1086
              obtain ⟨k1100, d1101⟩ := fk_N (a := z51) eS1087 f1040 (by decide) hq1086
              obtain ⟨k1102, d1103⟩ := fk_N (a := q109) eS1087 f1044 (by decide) hq1086
              obtain ⟨k1104, d1105⟩ := fk_N (a := z201) eS1087 f1056 (by decide) hq1086
              obtain ⟨k1106, d1107⟩ := fk_N (a := z210) eS1087 f1059 (by decide) hq1086
              obtain ⟨k1108, d1109⟩ := fk_N (a := z219) eS1087 f1063 (by decide) hq1086
              obtain ⟨k1110, d1111⟩ := fk_N (a := z228) eS1087 f1066 (by decide) hq1086
              obtain ⟨k1112, d1113⟩ := fk_N (a := q444) eS1087 f1070 (by decide) hq1086
              obtain ⟨k1114, d1115⟩ := fk_N (a := q313) eS1087 f1078 (by decide) hq1086
              obtain ⟨k1116, d1117⟩ := fk_N (a := q681) eS1087 f1082 (by decide) hq1086
              obtain ⟨k1118, d1119⟩ := fk_N (a := q836) eS1087 hck84_0 (by decide) hq1086
              have r1120 : sR S1087 h 0 = some q1 := by rw [eS1087, rN, if_neg d1091]; exact f1003
              have r1121 : sR S1087 h 1 = some q109 := by rw [eS1087, rN, if_neg d1091]; exact f1004
              have r1122 : sR S1087 h 2 = some q313 := by rw [eS1087, rN, if_neg d1091]; exact f1005
              have r1123 : sR S1087 h 3 = some q681 := by rw [eS1087, rN, if_neg d1091]; exact f1006
              have r1124 : sR S1087 h 4 = some q836 := by rw [eS1087, rN, if_neg d1091]; exact f1007
              have r1125 : sR S1087 q1 0 = some z39 := by rw [eS1087, rN, if_neg d1093]; exact f1019
              have r1126 : sR S1087 q1 1 = some z47 := by rw [eS1087, rN, if_neg d1093]; exact f1020
              have r1127 : sR S1087 z39 0 = some z43 := by rw [eS1087, rN, if_neg d1095]; exact f1031
              have r1128 : sR S1087 z47 0 = some z51 := by rw [eS1087, rN, if_neg d1099]; exact f1038
              have r1129 : sR S1087 q109 0 = some z201 := by rw [eS1087, rN, if_neg d1103]; exact f1045
              have r1130 : sR S1087 q109 1 = some z219 := by rw [eS1087, rN, if_neg d1103]; exact f1046
              have r1131 : sR S1087 z201 0 = some z210 := by rw [eS1087, rN, if_neg d1105]; exact f1057
              have r1132 : sR S1087 z219 0 = some z228 := by rw [eS1087, rN, if_neg d1109]; exact f1064
              have n1133 : sL S1087 z43 = 32 := by rw [eS1087, lNw, if_neg d1097]; exact f1034
              have n1134 : sL S1087 z51 = 32 := by rw [eS1087, lNw, if_neg d1101]; exact f1041
              have n1135 : sL S1087 z210 = 32 := by rw [eS1087, lNw, if_neg d1107]; exact f1060
              have n1136 : sL S1087 z228 = 32 := by rw [eS1087, lNw, if_neg d1111]; exact f1067
              have n1137 : sL S1087 q313 = 6 := by rw [eS1087, lNw, if_neg d1115]; exact f1079
              have n1138 : sL S1087 q681 = 200 := by rw [eS1087, lNw, if_neg d1117]; exact f1083
              have n1139 : sL S1087 q836 = 24 := by rw [eS1087, lNw, if_neg d1119]; exact hcn84_0
              have w1140 : sI S1087 h 9 = 0 := by rw [eS1087, iN, if_neg d1091]; exact f1008
              have w1141 : sI S1087 h 10 = 0 := by rw [eS1087, iN, if_neg d1091]; exact f1009
              have w1142 : sI S1087 h 11 = 0 := by rw [eS1087, iN, if_neg d1091]; exact f1010
              have w1143 : sI S1087 h 12 = 0 := by rw [eS1087, iN, if_neg d1091]; exact f1011
              have w1144 : sI S1087 h 13 = 0 := by rw [eS1087, iN, if_neg d1091]; exact f1012
              have w1145 : sI S1087 h 14 = 0 := by rw [eS1087, iN, if_neg d1091]; exact f1013
              have w1146 : sI S1087 h 15 = 0 := by rw [eS1087, iN, if_neg d1091]; exact f1014
              have w1147 : sI S1087 h 16 = 0 := by rw [eS1087, iN, if_neg d1091]; exact f1015
              have w1148 : sI S1087 h 17 = 0 := by rw [eS1087, iN, if_neg d1091]; exact f1016
              have w1149 : sI S1087 q1 2 = 0 := by rw [eS1087, iN, if_neg d1093]; exact f1021
              have w1150 : sI S1087 q1 3 = 300 := by rw [eS1087, iN, if_neg d1093]; exact f1022
              have w1151 : sI S1087 q1 4 = 0 := by rw [eS1087, iN, if_neg d1093]; exact f1023
              have w1152 : sI S1087 q1 5 = 0 := by rw [eS1087, iN, if_neg d1093]; exact f1024
              have w1153 : sI S1087 q1 6 = 0 := by rw [eS1087, iN, if_neg d1093]; exact f1025
              have w1154 : sI S1087 q1 7 = 0 := by rw [eS1087, iN, if_neg d1093]; exact f1026
              have w1155 : sI S1087 q1 8 = 0 := by rw [eS1087, iN, if_neg d1093]; exact f1027
              have w1156 : sI S1087 q1 9 = 0 := by rw [eS1087, iN, if_neg d1093]; exact f1028
              have w1157 : sI S1087 q109 2 = 0 := by rw [eS1087, iN, if_neg d1103]; exact f1047
              have w1158 : sI S1087 q109 3 = 300 := by rw [eS1087, iN, if_neg d1103]; exact f1048
              have w1159 : sI S1087 q109 4 = 0 := by rw [eS1087, iN, if_neg d1103]; exact f1049
              have w1160 : sI S1087 q109 5 = 0 := by rw [eS1087, iN, if_neg d1103]; exact f1050
              have w1161 : sI S1087 q109 6 = 0 := by rw [eS1087, iN, if_neg d1103]; exact f1051
              have w1162 : sI S1087 q109 7 = 0 := by rw [eS1087, iN, if_neg d1103]; exact f1052
              have w1163 : sI S1087 q109 8 = 0 := by rw [eS1087, iN, if_neg d1103]; exact f1053
              have w1164 : sI S1087 q109 9 = 0 := by rw [eS1087, iN, if_neg d1103]; exact f1054
              have w1165 : sI S1087 q444 0 = 16777215 := by rw [eS1087, iN, if_neg d1113]; exact f1071
              have w1166 : sI S1087 q444 1 = 127 := by rw [eS1087, iN, if_neg d1113]; exact f1072
              have w1167 : sI S1087 q444 2 = 15 := by rw [eS1087, iN, if_neg d1113]; exact f1073
              have w1168 : sI S1087 q444 3 = 168 := by rw [eS1087, iN, if_neg d1113]; exact f1074
              have w1169 : sI S1087 q444 4 = 100 := by rw [eS1087, iN, if_neg d1113]; exact f1075
              have w1170 : sI S1087 q444 5 = 50 := by rw [eS1087, iN, if_neg d1113]; exact f1076
              have w1171 : ∀ j, sJ S1087 z43 j = 0 := fun j => by rw [eS1087, jN, if_neg d1097]; exact f1035 j 
              have w1172 : ∀ j, sJ S1087 z51 j = 0 := fun j => by rw [eS1087, jN, if_neg d1101]; exact f1042 j 
              have w1173 : ∀ j, sJ S1087 z210 j = 0 := fun j => by rw [eS1087, jN, if_neg d1107]; exact f1061 j 
              have w1174 : ∀ j, sJ S1087 z228 j = 0 := fun j => by rw [eS1087, jN, if_neg d1111]; exact f1068 j 
              have w1175 : ∀ j, j < 6 → sR S1087 q313 j = some q444 := fun j hj => by rw [eS1087, rN, if_neg d1115]; exact f1080 j hj 
              have w1176 : ∀ j, j < 200 → sR S1087 q681 j = none := fun j hj => by rw [eS1087, rN, if_neg d1117]; exact f1084 j hj 
              have w1177 : ∀ j, j < 24 → sI S1087 q836 j = 10 := fun j hj => by rw [eS1087, iN, if_neg d1119]; exact hel2 j hj 
              have w1178 : sI S1087 q1086 1 = 0 := by rw [eS1087, iN, if_pos rfl]
              have k1179 : sK S1087 q1086 = 7 := by rw [eS1087, kN, if_pos rfl]
              clear f1002 f1018 f1030 f1033 f1037 f1040 f1044 f1056 f1059 f1063 f1066 f1070 f1078 f1082 f1003 f1004 f1005 f1006 f1007 f1019 f1020 f1031 f1038 f1045 f1046 f1057 f1064 f1034 f1041 f1060 f1067 f1079 f1083 f1008 f1009 f1010 f1011 f1012 f1013 f1014 f1015 f1016 f1021 f1022 f1023 f1024 f1025 f1026 f1027 f1028 f1047 f1048 f1049 f1050 f1051 f1052 f1053 f1054 f1071 f1072 f1073 f1074 f1075 f1076 f1035 f1042 f1061 f1068 f1080 f1084 hel2
              refine lv_dup hx hb dX8_init_108 rfl ?_
              refine pc_INv (As := []) (rest := [.ref q1086, .ref h]) F (c_X7_init l D cy A S1087 q1086 k1179) ⟨va_cnB 0 hts gX8_init_X7_init_n38 rfl rfl rfl hZ.2.2.2.2.2.1 (hts (.initialized RX7) (by decide +kernel)) (by decide +kernel) ⟨Nat.le_of_ble_eq_true rfl, Nat.le_of_ble_eq_true rfl⟩, rfl, hts (.instanceMethod yX7_init) (by decide +kernel)⟩ hK hZ hA hW hS rfl hl.1 rfl (Nat.le_of_ble_eq_true rfl) dX8_init_109 ⟨Nat.le_of_ble_eq_true rfl, Nat.le_of_ble_eq_true rfl⟩ (fun T1181 H locs p1182 hW hS => ?_)
              obtain ⟨kxT1181, p1182⟩ := p1182
              have f1183 := kxT1181 h (ni_c d1091 ni_0) (lt16 k1090 (by decide))
              have f1184 : sK T1181 h = 8 := by rw [f1183.1]; exact k1090
              have f1185 : sR T1181 h 0 = some q1 := by rw [f1183.2.2.1]; exact r1120
              have f1186 : sR T1181 h 1 = some q109 := by rw [f1183.2.2.1]; exact r1121
              have f1187 : sR T1181 h 2 = some q313 := by rw [f1183.2.2.1]; exact r1122
              have f1188 : sR T1181 h 3 = some q681 := by rw [f1183.2.2.1]; exact r1123
              have f1189 : sR T1181 h 4 = some q836 := by rw [f1183.2.2.1]; exact r1124
              have f1190 : sI T1181 h 9 = 0 := by rw [f1183.2.1]; exact w1140
              have f1191 : sI T1181 h 10 = 0 := by rw [f1183.2.1]; exact w1141
              have f1192 : sI T1181 h 11 = 0 := by rw [f1183.2.1]; exact w1142
              have f1193 : sI T1181 h 12 = 0 := by rw [f1183.2.1]; exact w1143
              have f1194 : sI T1181 h 13 = 0 := by rw [f1183.2.1]; exact w1144
              have f1195 : sI T1181 h 14 = 0 := by rw [f1183.2.1]; exact w1145
              have f1196 : sI T1181 h 15 = 0 := by rw [f1183.2.1]; exact w1146
              have f1197 : sI T1181 h 16 = 0 := by rw [f1183.2.1]; exact w1147
              have f1198 : sI T1181 h 17 = 0 := by rw [f1183.2.1]; exact w1148
              clear f1183
              have f1199 := kxT1181 q1 (ni_c d1093 ni_0) (lt16 k1092 (by decide))
              have f1200 : sK T1181 q1 = 1 := by rw [f1199.1]; exact k1092
              have f1201 : sR T1181 q1 0 = some z39 := by rw [f1199.2.2.1]; exact r1125
              have f1202 : sR T1181 q1 1 = some z47 := by rw [f1199.2.2.1]; exact r1126
              have f1203 : sI T1181 q1 2 = 0 := by rw [f1199.2.1]; exact w1149
              have f1204 : sI T1181 q1 3 = 300 := by rw [f1199.2.1]; exact w1150
              have f1205 : sI T1181 q1 4 = 0 := by rw [f1199.2.1]; exact w1151
              have f1206 : sI T1181 q1 5 = 0 := by rw [f1199.2.1]; exact w1152
              have f1207 : sI T1181 q1 6 = 0 := by rw [f1199.2.1]; exact w1153
              have f1208 : sI T1181 q1 7 = 0 := by rw [f1199.2.1]; exact w1154
              have f1209 : sI T1181 q1 8 = 0 := by rw [f1199.2.1]; exact w1155
              have f1210 : sI T1181 q1 9 = 0 := by rw [f1199.2.1]; exact w1156
              clear f1199
              have f1211 := kxT1181 z39 (ni_c d1095 ni_0) (lt16 k1094 (by decide))
              have f1212 : sK T1181 z39 = 0 := by rw [f1211.1]; exact k1094
              have f1213 : sR T1181 z39 0 = some z43 := by rw [f1211.2.2.1]; exact r1127
              clear f1211
              have f1214 := kxT1181 z43 (ni_c d1097 ni_0) (lt16 k1096 (by decide))
              have f1215 : sK T1181 z43 = 12 := by rw [f1214.1]; exact k1096
              have f1216 : sL T1181 z43 = 32 := by rw [f1214.2.2.2.2]; exact n1133
              have f1217 : ∀ j, sJ T1181 z43 j = 0 := fun j => by rw [f1214.2.2.2.1]; exact w1171 j 
              clear f1214
              have f1218 := kxT1181 z47 (ni_c d1099 ni_0) (lt16 k1098 (by decide))
              have f1219 : sK T1181 z47 = 0 := by rw [f1218.1]; exact k1098
              have f1220 : sR T1181 z47 0 = some z51 := by rw [f1218.2.2.1]; exact r1128
              clear f1218
              have f1221 := kxT1181 z51 (ni_c d1101 ni_0) (lt16 k1100 (by decide))
              have f1222 : sK T1181 z51 = 12 := by rw [f1221.1]; exact k1100
              have f1223 : sL T1181 z51 = 32 := by rw [f1221.2.2.2.2]; exact n1134
              have f1224 : ∀ j, sJ T1181 z51 j = 0 := fun j => by rw [f1221.2.2.2.1]; exact w1172 j 
              clear f1221
              have f1225 := kxT1181 q109 (ni_c d1103 ni_0) (lt16 k1102 (by decide))
              have f1226 : sK T1181 q109 = 1 := by rw [f1225.1]; exact k1102
              have f1227 : sR T1181 q109 0 = some z201 := by rw [f1225.2.2.1]; exact r1129
              have f1228 : sR T1181 q109 1 = some z219 := by rw [f1225.2.2.1]; exact r1130
              have f1229 : sI T1181 q109 2 = 0 := by rw [f1225.2.1]; exact w1157
              have f1230 : sI T1181 q109 3 = 300 := by rw [f1225.2.1]; exact w1158
              have f1231 : sI T1181 q109 4 = 0 := by rw [f1225.2.1]; exact w1159
              have f1232 : sI T1181 q109 5 = 0 := by rw [f1225.2.1]; exact w1160
              have f1233 : sI T1181 q109 6 = 0 := by rw [f1225.2.1]; exact w1161
              have f1234 : sI T1181 q109 7 = 0 := by rw [f1225.2.1]; exact w1162
              have f1235 : sI T1181 q109 8 = 0 := by rw [f1225.2.1]; exact w1163
              have f1236 : sI T1181 q109 9 = 0 := by rw [f1225.2.1]; exact w1164
              clear f1225
              have f1237 := kxT1181 z201 (ni_c d1105 ni_0) (lt16 k1104 (by decide))
              have f1238 : sK T1181 z201 = 0 := by rw [f1237.1]; exact k1104
              have f1239 : sR T1181 z201 0 = some z210 := by rw [f1237.2.2.1]; exact r1131
              clear f1237
              have f1240 := kxT1181 z210 (ni_c d1107 ni_0) (lt16 k1106 (by decide))
              have f1241 : sK T1181 z210 = 12 := by rw [f1240.1]; exact k1106
              have f1242 : sL T1181 z210 = 32 := by rw [f1240.2.2.2.2]; exact n1135
              have f1243 : ∀ j, sJ T1181 z210 j = 0 := fun j => by rw [f1240.2.2.2.1]; exact w1173 j 
              clear f1240
              have f1244 := kxT1181 z219 (ni_c d1109 ni_0) (lt16 k1108 (by decide))
              have f1245 : sK T1181 z219 = 0 := by rw [f1244.1]; exact k1108
              have f1246 : sR T1181 z219 0 = some z228 := by rw [f1244.2.2.1]; exact r1132
              clear f1244
              have f1247 := kxT1181 z228 (ni_c d1111 ni_0) (lt16 k1110 (by decide))
              have f1248 : sK T1181 z228 = 12 := by rw [f1247.1]; exact k1110
              have f1249 : sL T1181 z228 = 32 := by rw [f1247.2.2.2.2]; exact n1136
              have f1250 : ∀ j, sJ T1181 z228 j = 0 := fun j => by rw [f1247.2.2.2.1]; exact w1174 j 
              clear f1247
              have f1251 := kxT1181 q444 (ni_c d1113 ni_0) (lt16 k1112 (by decide))
              have f1252 : sK T1181 q444 = 4 := by rw [f1251.1]; exact k1112
              have f1253 : sI T1181 q444 0 = 16777215 := by rw [f1251.2.1]; exact w1165
              have f1254 : sI T1181 q444 1 = 127 := by rw [f1251.2.1]; exact w1166
              have f1255 : sI T1181 q444 2 = 15 := by rw [f1251.2.1]; exact w1167
              have f1256 : sI T1181 q444 3 = 168 := by rw [f1251.2.1]; exact w1168
              have f1257 : sI T1181 q444 4 = 100 := by rw [f1251.2.1]; exact w1169
              have f1258 : sI T1181 q444 5 = 50 := by rw [f1251.2.1]; exact w1170
              clear f1251
              have f1259 := kxT1181 q313 (ni_c d1115 ni_0) (lt16 k1114 (by decide))
              have f1260 : sK T1181 q313 = 14 := by rw [f1259.1]; exact k1114
              have f1261 : sL T1181 q313 = 6 := by rw [f1259.2.2.2.2]; exact n1137
              have f1262 : ∀ j, j < 6 → sR T1181 q313 j = some q444 := fun j hj => by rw [f1259.2.2.1]; exact w1175 j hj 
              clear f1259
              have f1263 := kxT1181 q681 (ni_c d1117 ni_0) (lt16 k1116 (by decide))
              have f1264 : sK T1181 q681 = 15 := by rw [f1263.1]; exact k1116
              have f1265 : sL T1181 q681 = 200 := by rw [f1263.2.2.2.2]; exact n1138
              have f1266 : ∀ j, j < 200 → sR T1181 q681 j = none := fun j hj => by rw [f1263.2.2.1]; exact w1176 j hj 
              clear f1263
              have f1267 := kxT1181 q836 (ni_c d1119 ni_0) (lt16 k1118 (by decide))
              have f1268 : sK T1181 q836 = 11 := by rw [f1267.1]; exact k1118
              have f1269 : sL T1181 q836 = 24 := by rw [f1267.2.2.2.2]; exact n1139
              have f1270 : ∀ j, j < 24 → sI T1181 q836 j = 10 := fun j hj => by rw [f1267.2.1]; exact w1177 j hj 
              clear f1267
              have hX0 := hX
              have hX : Kx [h] S T1181 := hX.tr kxT1181 (q1_ (Or.inl o1089))
              obtain ⟨z1271, hz1271, p1182⟩ := p1182
              have f1272 : Ap h z1271 := ap_k k1090 hz1271 (by decide)
              have f1273 : Ap q1 z1271 := ap_k k1092 hz1271 (by decide)
              have f1274 : Ap z39 z1271 := ap_k k1094 hz1271 (by decide)
              have f1275 : Ap z43 z1271 := ap_k k1096 hz1271 (by decide)
              have f1276 : Ap z47 z1271 := ap_k k1098 hz1271 (by decide)
              have f1277 : Ap z51 z1271 := ap_k k1100 hz1271 (by decide)
              have f1278 : Ap q109 z1271 := ap_k k1102 hz1271 (by decide)
              have f1279 : Ap z201 z1271 := ap_k k1104 hz1271 (by decide)
              have f1280 : Ap z210 z1271 := ap_k k1106 hz1271 (by decide)
              have f1281 : Ap z219 z1271 := ap_k k1108 hz1271 (by decide)
              have f1282 : Ap z228 z1271 := ap_k k1110 hz1271 (by decide)
              have f1283 : Ap q444 z1271 := ap_k k1112 hz1271 (by decide)
              have f1284 : Ap q313 z1271 := ap_k k1114 hz1271 (by decide)
              have f1285 : Ap q681 z1271 := ap_k k1116 hz1271 (by decide)
              have f1286 : Ap q836 z1271 := ap_k k1118 hz1271 (by decide)
              have f1287 : Ap q1086 z1271 := ap_k k1179 hz1271 (by decide)
              have o1288 : 16 ≤ sK S z1271 := hX0.old hz1271 (ni_c (ap_s f1272) ni_0)
              obtain ⟨y1289, p1182⟩ := p1182
              obtain ⟨y1290, p1182⟩ := p1182
              obtain ⟨y1291, p1182⟩ := p1182
              obtain ⟨y1292, p1182⟩ := p1182
              obtain ⟨y1293, p1182⟩ := p1182
              have y1294 := p1182
              clear k1090 k1092 k1094 k1096 k1098 k1100 k1102 k1104 k1106 k1108 k1110 k1112 k1114 k1116 k1118 k1179 r1120 r1121 r1122 r1123 r1124 r1125 r1126 r1127 r1128 r1129 r1130 r1131 r1132 n1133 n1134 n1135 n1136 n1137 n1138 n1139 w1140 w1141 w1142 w1143 w1144 w1145 w1146 w1147 w1148 w1149 w1150 w1151 w1152 w1153 w1154 w1155 w1156 w1157 w1158 w1159 w1160 w1161 w1162 w1163 w1164 w1165 w1166 w1167 w1168 w1169 w1170 w1178 w1171 w1172 w1173 w1174 w1175 w1176 w1177
              refine pg_pr (ci := 8) (C := RX8) (T := TX8) (N := 18) hx hb hts wi8 tyX8 tyX8_ok nmX8 hown hK hW hS f1184 (by decide) rfl 5 (by decide) (hts (.fieldLink RX8 39 "IceHall" "tape" "LIceHall$Tape;") (by decide +kernel)) (fun _ h9 => h9) rfl hnm rfl rfl rfl rfl dX8_init_112 (fun H locs hW hS => ?_)
              have hX : Kx [h] S (stR T1181 h 5 (some q1086)) := hX.Rh List.mem_cons_self
              obtain ⟨S1295, eS1295⟩ : ∃ T : St, T = stR T1181 h 5 (some q1086) := ⟨_, rfl⟩
              rw [← eS1295] at hW hX
              have k1296 : sK S1295 h = 8 := by rw [eS1295]; exact f1184
              have k1297 : sK S1295 q1 = 1 := by rw [eS1295]; exact f1200
              have k1298 : sK S1295 z39 = 0 := by rw [eS1295]; exact f1212
              have k1299 : sK S1295 z43 = 12 := by rw [eS1295]; exact f1215
              have k1300 : sK S1295 z47 = 0 := by rw [eS1295]; exact f1219
              have k1301 : sK S1295 z51 = 12 := by rw [eS1295]; exact f1222
              have k1302 : sK S1295 q109 = 1 := by rw [eS1295]; exact f1226
              have k1303 : sK S1295 z201 = 0 := by rw [eS1295]; exact f1238
              have k1304 : sK S1295 z210 = 12 := by rw [eS1295]; exact f1241
              have k1305 : sK S1295 z219 = 0 := by rw [eS1295]; exact f1245
              have k1306 : sK S1295 z228 = 12 := by rw [eS1295]; exact f1248
              have k1307 : sK S1295 q444 = 4 := by rw [eS1295]; exact f1252
              have k1308 : sK S1295 q313 = 14 := by rw [eS1295]; exact f1260
              have k1309 : sK S1295 q681 = 15 := by rw [eS1295]; exact f1264
              have k1310 : sK S1295 q836 = 11 := by rw [eS1295]; exact f1268
              have k1311 : sK S1295 q1086 = 7 := by rw [eS1295]; exact y1289
              have k1312 : sK S1295 z1271 = 10 := by rw [eS1295]; exact y1291
              have r1313 : sR S1295 h 0 = some q1 := by rw [eS1295, rR, if_pos rfl, if_neg (by decide)]; exact f1185
              have r1314 : sR S1295 h 1 = some q109 := by rw [eS1295, rR, if_pos rfl, if_neg (by decide)]; exact f1186
              have r1315 : sR S1295 h 2 = some q313 := by rw [eS1295, rR, if_pos rfl, if_neg (by decide)]; exact f1187
              have r1316 : sR S1295 h 3 = some q681 := by rw [eS1295, rR, if_pos rfl, if_neg (by decide)]; exact f1188
              have r1317 : sR S1295 h 4 = some q836 := by rw [eS1295, rR, if_pos rfl, if_neg (by decide)]; exact f1189
              have r1318 : sR S1295 q1 0 = some z39 := by rw [eS1295, rR, if_neg (fk_ne k1297 k1296 (by decide))]; exact f1201
              have r1319 : sR S1295 q1 1 = some z47 := by rw [eS1295, rR, if_neg (fk_ne k1297 k1296 (by decide))]; exact f1202
              have r1320 : sR S1295 z39 0 = some z43 := by rw [eS1295, rR, if_neg (fk_ne k1298 k1296 (by decide))]; exact f1213
              have r1321 : sR S1295 z47 0 = some z51 := by rw [eS1295, rR, if_neg (fk_ne k1300 k1296 (by decide))]; exact f1220
              have r1322 : sR S1295 q109 0 = some z201 := by rw [eS1295, rR, if_neg (fk_ne k1302 k1296 (by decide))]; exact f1227
              have r1323 : sR S1295 q109 1 = some z219 := by rw [eS1295, rR, if_neg (fk_ne k1302 k1296 (by decide))]; exact f1228
              have r1324 : sR S1295 z201 0 = some z210 := by rw [eS1295, rR, if_neg (fk_ne k1303 k1296 (by decide))]; exact f1239
              have r1325 : sR S1295 z219 0 = some z228 := by rw [eS1295, rR, if_neg (fk_ne k1305 k1296 (by decide))]; exact f1246
              have r1326 : sR S1295 q1086 0 = some z1271 := by rw [eS1295, rR, if_neg (fk_ne k1311 k1296 (by decide))]; exact y1290
              have n1327 : sL S1295 z43 = 32 := by rw [eS1295]; exact f1216
              have n1328 : sL S1295 z51 = 32 := by rw [eS1295]; exact f1223
              have n1329 : sL S1295 z210 = 32 := by rw [eS1295]; exact f1242
              have n1330 : sL S1295 z228 = 32 := by rw [eS1295]; exact f1249
              have n1331 : sL S1295 q313 = 6 := by rw [eS1295]; exact f1261
              have n1332 : sL S1295 q681 = 200 := by rw [eS1295]; exact f1265
              have n1333 : sL S1295 q836 = 24 := by rw [eS1295]; exact f1269
              have n1334 : sL S1295 z1271 = 80 := by rw [eS1295]; exact y1292
              have w1335 : sI S1295 h 9 = 0 := by rw [eS1295]; exact f1190
              have w1336 : sI S1295 h 10 = 0 := by rw [eS1295]; exact f1191
              have w1337 : sI S1295 h 11 = 0 := by rw [eS1295]; exact f1192
              have w1338 : sI S1295 h 12 = 0 := by rw [eS1295]; exact f1193
              have w1339 : sI S1295 h 13 = 0 := by rw [eS1295]; exact f1194
              have w1340 : sI S1295 h 14 = 0 := by rw [eS1295]; exact f1195
              have w1341 : sI S1295 h 15 = 0 := by rw [eS1295]; exact f1196
              have w1342 : sI S1295 h 16 = 0 := by rw [eS1295]; exact f1197
              have w1343 : sI S1295 h 17 = 0 := by rw [eS1295]; exact f1198
              have w1344 : sI S1295 q1 2 = 0 := by rw [eS1295]; exact f1203
              have w1345 : sI S1295 q1 3 = 300 := by rw [eS1295]; exact f1204
              have w1346 : sI S1295 q1 4 = 0 := by rw [eS1295]; exact f1205
              have w1347 : sI S1295 q1 5 = 0 := by rw [eS1295]; exact f1206
              have w1348 : sI S1295 q1 6 = 0 := by rw [eS1295]; exact f1207
              have w1349 : sI S1295 q1 7 = 0 := by rw [eS1295]; exact f1208
              have w1350 : sI S1295 q1 8 = 0 := by rw [eS1295]; exact f1209
              have w1351 : sI S1295 q1 9 = 0 := by rw [eS1295]; exact f1210
              have w1352 : sI S1295 q109 2 = 0 := by rw [eS1295]; exact f1229
              have w1353 : sI S1295 q109 3 = 300 := by rw [eS1295]; exact f1230
              have w1354 : sI S1295 q109 4 = 0 := by rw [eS1295]; exact f1231
              have w1355 : sI S1295 q109 5 = 0 := by rw [eS1295]; exact f1232
              have w1356 : sI S1295 q109 6 = 0 := by rw [eS1295]; exact f1233
              have w1357 : sI S1295 q109 7 = 0 := by rw [eS1295]; exact f1234
              have w1358 : sI S1295 q109 8 = 0 := by rw [eS1295]; exact f1235
              have w1359 : sI S1295 q109 9 = 0 := by rw [eS1295]; exact f1236
              have w1360 : sI S1295 q444 0 = 16777215 := by rw [eS1295]; exact f1253
              have w1361 : sI S1295 q444 1 = 127 := by rw [eS1295]; exact f1254
              have w1362 : sI S1295 q444 2 = 15 := by rw [eS1295]; exact f1255
              have w1363 : sI S1295 q444 3 = 168 := by rw [eS1295]; exact f1256
              have w1364 : sI S1295 q444 4 = 100 := by rw [eS1295]; exact f1257
              have w1365 : sI S1295 q444 5 = 50 := by rw [eS1295]; exact f1258
              have w1366 : sI S1295 q1086 1 = 0 := by rw [eS1295]; exact y1294
              have w1367 : ∀ j, sJ S1295 z43 j = 0 := fun j => by rw [eS1295]; exact f1217 j 
              have w1368 : ∀ j, sJ S1295 z51 j = 0 := fun j => by rw [eS1295]; exact f1224 j 
              have w1369 : ∀ j, sJ S1295 z210 j = 0 := fun j => by rw [eS1295]; exact f1243 j 
              have w1370 : ∀ j, sJ S1295 z228 j = 0 := fun j => by rw [eS1295]; exact f1250 j 
              have w1371 : ∀ j, j < 6 → sR S1295 q313 j = some q444 := fun j hj => by rw [eS1295, rR, if_neg (fk_ne k1308 k1296 (by decide))]; exact f1262 j hj 
              have w1372 : ∀ j, j < 200 → sR S1295 q681 j = none := fun j hj => by rw [eS1295, rR, if_neg (fk_ne k1309 k1296 (by decide))]; exact f1266 j hj 
              have w1373 : ∀ j, j < 24 → sI S1295 q836 j = 10 := fun j hj => by rw [eS1295]; exact f1270 j hj 
              have w1374 : ∀ j, j < 80 → sI S1295 z1271 j = 0 := fun j hj => by rw [eS1295]; exact y1293 j hj 
              have r1375 : sR S1295 h 5 = some q1086 := by rw [eS1295, rR, if_pos rfl, if_pos rfl]
              clear f1184 f1200 f1212 f1215 f1219 f1222 f1226 f1238 f1241 f1245 f1248 f1252 f1260 f1264 f1268 y1289 y1291 f1185 f1186 f1187 f1188 f1189 f1201 f1202 f1213 f1220 f1227 f1228 f1239 f1246 y1290 f1216 f1223 f1242 f1249 f1261 f1265 f1269 y1292 f1190 f1191 f1192 f1193 f1194 f1195 f1196 f1197 f1198 f1203 f1204 f1205 f1206 f1207 f1208 f1209 f1210 f1229 f1230 f1231 f1232 f1233 f1234 f1235 f1236 f1253 f1254 f1255 f1256 f1257 f1258 y1294 f1217 f1224 f1243 f1250 f1262 f1266 f1270 y1293
              refine lv_aload_n hx hb dX8_init_115 rfl (lv_at hl 0 rfl) ?_
              refine pg_new (ci := 5) (C := RX5) (T := TX5) (N := 4) hx hb hts wi5 tyX5 tyX5_ok hown (hts (.classLink RX8 43 RX5) (by decide +kernel)) (hts (.instantiable RX5 4) (by decide +kernel)) (hts (.initialized RX5) (by decide +kernel)) hK hW hS hA (by decide) rfl df_5 (Nat.le_of_ble_eq_true rfl) (Nat.le_of_ble_eq_true rfl) dX8_init_116 (fun q1376 H hq1376 hW hS => ?_)
              have f1378 : Ap h q1376 := ap_k k1296 hq1376 (by decide)
              have o1379 : 16 ≤ sK S q1376 := hX.old hq1376 (ni_c (ap_s f1378) ni_0)
              have hX : Kx [h] S (stN S1295 q1376 5 0) := hX.N hq1376
              obtain ⟨S1377, eS1377⟩ : ∃ T : St, T = stN S1295 q1376 5 0 := ⟨_, rfl⟩
              rw [← eS1377] at hW hX
              obtain ⟨k1380, d1381⟩ := fk_N (a := h) eS1377 k1296 (by decide) hq1376
              obtain ⟨k1382, d1383⟩ := fk_N (a := q1) eS1377 k1297 (by decide) hq1376
              obtain ⟨k1384, d1385⟩ := fk_N (a := z39) eS1377 k1298 (by decide) hq1376
              obtain ⟨k1386, d1387⟩ := fk_N (a := z43) eS1377 k1299 (by decide) hq1376
              obtain ⟨k1388, d1389⟩ := fk_N (a := z47) eS1377 k1300 (by decide) hq1376
              obtain ⟨k1390, d1391⟩ := fk_N (a := z51) eS1377 k1301 (by decide) hq1376
              obtain ⟨k1392, d1393⟩ := fk_N (a := q109) eS1377 k1302 (by decide) hq1376
              obtain ⟨k1394, d1395⟩ := fk_N (a := z201) eS1377 k1303 (by decide) hq1376
              obtain ⟨k1396, d1397⟩ := fk_N (a := z210) eS1377 k1304 (by decide) hq1376
              obtain ⟨k1398, d1399⟩ := fk_N (a := z219) eS1377 k1305 (by decide) hq1376
              obtain ⟨k1400, d1401⟩ := fk_N (a := z228) eS1377 k1306 (by decide) hq1376
              obtain ⟨k1402, d1403⟩ := fk_N (a := q444) eS1377 k1307 (by decide) hq1376
              obtain ⟨k1404, d1405⟩ := fk_N (a := q313) eS1377 k1308 (by decide) hq1376
              obtain ⟨k1406, d1407⟩ := fk_N (a := q681) eS1377 k1309 (by decide) hq1376
              obtain ⟨k1408, d1409⟩ := fk_N (a := q836) eS1377 k1310 (by decide) hq1376
              obtain ⟨k1410, d1411⟩ := fk_N (a := q1086) eS1377 k1311 (by decide) hq1376
              obtain ⟨k1412, d1413⟩ := fk_N (a := z1271) eS1377 k1312 (by decide) hq1376
              have r1414 : sR S1377 h 0 = some q1 := by rw [eS1377, rN, if_neg d1381]; exact r1313
              have r1415 : sR S1377 h 1 = some q109 := by rw [eS1377, rN, if_neg d1381]; exact r1314
              have r1416 : sR S1377 h 2 = some q313 := by rw [eS1377, rN, if_neg d1381]; exact r1315
              have r1417 : sR S1377 h 3 = some q681 := by rw [eS1377, rN, if_neg d1381]; exact r1316
              have r1418 : sR S1377 h 4 = some q836 := by rw [eS1377, rN, if_neg d1381]; exact r1317
              have r1419 : sR S1377 q1 0 = some z39 := by rw [eS1377, rN, if_neg d1383]; exact r1318
              have r1420 : sR S1377 q1 1 = some z47 := by rw [eS1377, rN, if_neg d1383]; exact r1319
              have r1421 : sR S1377 z39 0 = some z43 := by rw [eS1377, rN, if_neg d1385]; exact r1320
              have r1422 : sR S1377 z47 0 = some z51 := by rw [eS1377, rN, if_neg d1389]; exact r1321
              have r1423 : sR S1377 q109 0 = some z201 := by rw [eS1377, rN, if_neg d1393]; exact r1322
              have r1424 : sR S1377 q109 1 = some z219 := by rw [eS1377, rN, if_neg d1393]; exact r1323
              have r1425 : sR S1377 z201 0 = some z210 := by rw [eS1377, rN, if_neg d1395]; exact r1324
              have r1426 : sR S1377 z219 0 = some z228 := by rw [eS1377, rN, if_neg d1399]; exact r1325
              have r1427 : sR S1377 q1086 0 = some z1271 := by rw [eS1377, rN, if_neg d1411]; exact r1326
              have r1428 : sR S1377 h 5 = some q1086 := by rw [eS1377, rN, if_neg d1381]; exact r1375
              have n1429 : sL S1377 z43 = 32 := by rw [eS1377, lNw, if_neg d1387]; exact n1327
              have n1430 : sL S1377 z51 = 32 := by rw [eS1377, lNw, if_neg d1391]; exact n1328
              have n1431 : sL S1377 z210 = 32 := by rw [eS1377, lNw, if_neg d1397]; exact n1329
              have n1432 : sL S1377 z228 = 32 := by rw [eS1377, lNw, if_neg d1401]; exact n1330
              have n1433 : sL S1377 q313 = 6 := by rw [eS1377, lNw, if_neg d1405]; exact n1331
              have n1434 : sL S1377 q681 = 200 := by rw [eS1377, lNw, if_neg d1407]; exact n1332
              have n1435 : sL S1377 q836 = 24 := by rw [eS1377, lNw, if_neg d1409]; exact n1333
              have n1436 : sL S1377 z1271 = 80 := by rw [eS1377, lNw, if_neg d1413]; exact n1334
              have w1437 : sI S1377 h 9 = 0 := by rw [eS1377, iN, if_neg d1381]; exact w1335
              have w1438 : sI S1377 h 10 = 0 := by rw [eS1377, iN, if_neg d1381]; exact w1336
              have w1439 : sI S1377 h 11 = 0 := by rw [eS1377, iN, if_neg d1381]; exact w1337
              have w1440 : sI S1377 h 12 = 0 := by rw [eS1377, iN, if_neg d1381]; exact w1338
              have w1441 : sI S1377 h 13 = 0 := by rw [eS1377, iN, if_neg d1381]; exact w1339
              have w1442 : sI S1377 h 14 = 0 := by rw [eS1377, iN, if_neg d1381]; exact w1340
              have w1443 : sI S1377 h 15 = 0 := by rw [eS1377, iN, if_neg d1381]; exact w1341
              have w1444 : sI S1377 h 16 = 0 := by rw [eS1377, iN, if_neg d1381]; exact w1342
              have w1445 : sI S1377 h 17 = 0 := by rw [eS1377, iN, if_neg d1381]; exact w1343
              have w1446 : sI S1377 q1 2 = 0 := by rw [eS1377, iN, if_neg d1383]; exact w1344
              have w1447 : sI S1377 q1 3 = 300 := by rw [eS1377, iN, if_neg d1383]; exact w1345
              have w1448 : sI S1377 q1 4 = 0 := by rw [eS1377, iN, if_neg d1383]; exact w1346
              have w1449 : sI S1377 q1 5 = 0 := by rw [eS1377, iN, if_neg d1383]; exact w1347
              have w1450 : sI S1377 q1 6 = 0 := by rw [eS1377, iN, if_neg d1383]; exact w1348
              have w1451 : sI S1377 q1 7 = 0 := by rw [eS1377, iN, if_neg d1383]; exact w1349
              have w1452 : sI S1377 q1 8 = 0 := by rw [eS1377, iN, if_neg d1383]; exact w1350
              have w1453 : sI S1377 q1 9 = 0 := by rw [eS1377, iN, if_neg d1383]; exact w1351
              have w1454 : sI S1377 q109 2 = 0 := by rw [eS1377, iN, if_neg d1393]; exact w1352
              have w1455 : sI S1377 q109 3 = 300 := by rw [eS1377, iN, if_neg d1393]; exact w1353
              have w1456 : sI S1377 q109 4 = 0 := by rw [eS1377, iN, if_neg d1393]; exact w1354
              have w1457 : sI S1377 q109 5 = 0 := by rw [eS1377, iN, if_neg d1393]; exact w1355
              have w1458 : sI S1377 q109 6 = 0 := by rw [eS1377, iN, if_neg d1393]; exact w1356
              have w1459 : sI S1377 q109 7 = 0 := by rw [eS1377, iN, if_neg d1393]; exact w1357
              have w1460 : sI S1377 q109 8 = 0 := by rw [eS1377, iN, if_neg d1393]; exact w1358
              have w1461 : sI S1377 q109 9 = 0 := by rw [eS1377, iN, if_neg d1393]; exact w1359
              have w1462 : sI S1377 q444 0 = 16777215 := by rw [eS1377, iN, if_neg d1403]; exact w1360
              have w1463 : sI S1377 q444 1 = 127 := by rw [eS1377, iN, if_neg d1403]; exact w1361
              have w1464 : sI S1377 q444 2 = 15 := by rw [eS1377, iN, if_neg d1403]; exact w1362
              have w1465 : sI S1377 q444 3 = 168 := by rw [eS1377, iN, if_neg d1403]; exact w1363
              have w1466 : sI S1377 q444 4 = 100 := by rw [eS1377, iN, if_neg d1403]; exact w1364
              have w1467 : sI S1377 q444 5 = 50 := by rw [eS1377, iN, if_neg d1403]; exact w1365
              have w1468 : sI S1377 q1086 1 = 0 := by rw [eS1377, iN, if_neg d1411]; exact w1366
              have w1469 : ∀ j, sJ S1377 z43 j = 0 := fun j => by rw [eS1377, jN, if_neg d1387]; exact w1367 j 
              have w1470 : ∀ j, sJ S1377 z51 j = 0 := fun j => by rw [eS1377, jN, if_neg d1391]; exact w1368 j 
              have w1471 : ∀ j, sJ S1377 z210 j = 0 := fun j => by rw [eS1377, jN, if_neg d1397]; exact w1369 j 
              have w1472 : ∀ j, sJ S1377 z228 j = 0 := fun j => by rw [eS1377, jN, if_neg d1401]; exact w1370 j 
              have w1473 : ∀ j, j < 6 → sR S1377 q313 j = some q444 := fun j hj => by rw [eS1377, rN, if_neg d1405]; exact w1371 j hj 
              have w1474 : ∀ j, j < 200 → sR S1377 q681 j = none := fun j hj => by rw [eS1377, rN, if_neg d1407]; exact w1372 j hj 
              have w1475 : ∀ j, j < 24 → sI S1377 q836 j = 10 := fun j hj => by rw [eS1377, iN, if_neg d1409]; exact w1373 j hj 
              have w1476 : ∀ j, j < 80 → sI S1377 z1271 j = 0 := fun j hj => by rw [eS1377, iN, if_neg d1413]; exact w1374 j hj 
              have w1477 : sI S1377 q1376 1 = 0 := by rw [eS1377, iN, if_pos rfl]
              have w1478 : sI S1377 q1376 2 = 0 := by rw [eS1377, iN, if_pos rfl]
              have w1479 : sI S1377 q1376 3 = 0 := by rw [eS1377, iN, if_pos rfl]
              have k1480 : sK S1377 q1376 = 5 := by rw [eS1377, kN, if_pos rfl]
              clear k1296 k1297 k1298 k1299 k1300 k1301 k1302 k1303 k1304 k1305 k1306 k1307 k1308 k1309 k1310 k1311 k1312 r1313 r1314 r1315 r1316 r1317 r1318 r1319 r1320 r1321 r1322 r1323 r1324 r1325 r1326 r1375 n1327 n1328 n1329 n1330 n1331 n1332 n1333 n1334 w1335 w1336 w1337 w1338 w1339 w1340 w1341 w1342 w1343 w1344 w1345 w1346 w1347 w1348 w1349 w1350 w1351 w1352 w1353 w1354 w1355 w1356 w1357 w1358 w1359 w1360 w1361 w1362 w1363 w1364 w1365 w1366 w1367 w1368 w1369 w1370 w1371 w1372 w1373 w1374
              refine lv_dup hx hb dX8_init_119 rfl ?_
              refine lv_aload_n hx hb dX8_init_120 rfl (lv_at hl 0 rfl) ?_
              refine pg_gr (b := q1086) (ci := 8) (C := RX8) (T := TX8) (N := 18) hx hb hts wi8 hown hK hW k1380 (by decide) rfl 5 (by decide) (hts (.fieldLink RX8 39 "IceHall" "tape" "LIceHall$Tape;") (by decide +kernel)) (fun _ h9 => h9) rfl r1428 dX8_init_121 ?_
              refine pc_Iv (As := [.ref q1086]) (rest := [.ref q1376, .ref h]) F (c_X5_init l D cy A S1377 q1376 q1086 k1480 k1410 w1477 w1478 w1479) (cwI 1 hts gX8_init_X5_init rfl rfl rfl (hts (.initialized RX5) (by decide +kernel)) (hts (.methodLink RX8 45 yX5_init) (by decide +kernel)) (hts (.instanceMethod yX5_init) (by decide +kernel)) rfl (by decide +kernel) ⟨Nat.le_of_ble_eq_true rfl, Nat.le_of_ble_eq_true rfl⟩) hK hZ hA hW hS rfl hl.1 rfl (Nat.le_of_ble_eq_true rfl) dX8_init_124 ⟨Nat.le_of_ble_eq_true rfl, Nat.le_of_ble_eq_true rfl⟩ (fun T1482 H locs p1483 hW hS => ?_)
              obtain ⟨kxT1482, p1483⟩ := p1483
              have f1484 := kxT1482 h (ni_c d1381 ni_0) (lt16 k1380 (by decide))
              have f1485 : sK T1482 h = 8 := by rw [f1484.1]; exact k1380
              have f1486 : sR T1482 h 0 = some q1 := by rw [f1484.2.2.1]; exact r1414
              have f1487 : sR T1482 h 1 = some q109 := by rw [f1484.2.2.1]; exact r1415
              have f1488 : sR T1482 h 2 = some q313 := by rw [f1484.2.2.1]; exact r1416
              have f1489 : sR T1482 h 3 = some q681 := by rw [f1484.2.2.1]; exact r1417
              have f1490 : sR T1482 h 4 = some q836 := by rw [f1484.2.2.1]; exact r1418
              have f1491 : sR T1482 h 5 = some q1086 := by rw [f1484.2.2.1]; exact r1428
              have f1492 : sI T1482 h 9 = 0 := by rw [f1484.2.1]; exact w1437
              have f1493 : sI T1482 h 10 = 0 := by rw [f1484.2.1]; exact w1438
              have f1494 : sI T1482 h 11 = 0 := by rw [f1484.2.1]; exact w1439
              have f1495 : sI T1482 h 12 = 0 := by rw [f1484.2.1]; exact w1440
              have f1496 : sI T1482 h 13 = 0 := by rw [f1484.2.1]; exact w1441
              have f1497 : sI T1482 h 14 = 0 := by rw [f1484.2.1]; exact w1442
              have f1498 : sI T1482 h 15 = 0 := by rw [f1484.2.1]; exact w1443
              have f1499 : sI T1482 h 16 = 0 := by rw [f1484.2.1]; exact w1444
              have f1500 : sI T1482 h 17 = 0 := by rw [f1484.2.1]; exact w1445
              clear f1484
              have f1501 := kxT1482 q1 (ni_c d1383 ni_0) (lt16 k1382 (by decide))
              have f1502 : sK T1482 q1 = 1 := by rw [f1501.1]; exact k1382
              have f1503 : sR T1482 q1 0 = some z39 := by rw [f1501.2.2.1]; exact r1419
              have f1504 : sR T1482 q1 1 = some z47 := by rw [f1501.2.2.1]; exact r1420
              have f1505 : sI T1482 q1 2 = 0 := by rw [f1501.2.1]; exact w1446
              have f1506 : sI T1482 q1 3 = 300 := by rw [f1501.2.1]; exact w1447
              have f1507 : sI T1482 q1 4 = 0 := by rw [f1501.2.1]; exact w1448
              have f1508 : sI T1482 q1 5 = 0 := by rw [f1501.2.1]; exact w1449
              have f1509 : sI T1482 q1 6 = 0 := by rw [f1501.2.1]; exact w1450
              have f1510 : sI T1482 q1 7 = 0 := by rw [f1501.2.1]; exact w1451
              have f1511 : sI T1482 q1 8 = 0 := by rw [f1501.2.1]; exact w1452
              have f1512 : sI T1482 q1 9 = 0 := by rw [f1501.2.1]; exact w1453
              clear f1501
              have f1513 := kxT1482 z39 (ni_c d1385 ni_0) (lt16 k1384 (by decide))
              have f1514 : sK T1482 z39 = 0 := by rw [f1513.1]; exact k1384
              have f1515 : sR T1482 z39 0 = some z43 := by rw [f1513.2.2.1]; exact r1421
              clear f1513
              have f1516 := kxT1482 z43 (ni_c d1387 ni_0) (lt16 k1386 (by decide))
              have f1517 : sK T1482 z43 = 12 := by rw [f1516.1]; exact k1386
              have f1518 : sL T1482 z43 = 32 := by rw [f1516.2.2.2.2]; exact n1429
              have f1519 : ∀ j, sJ T1482 z43 j = 0 := fun j => by rw [f1516.2.2.2.1]; exact w1469 j 
              clear f1516
              have f1520 := kxT1482 z47 (ni_c d1389 ni_0) (lt16 k1388 (by decide))
              have f1521 : sK T1482 z47 = 0 := by rw [f1520.1]; exact k1388
              have f1522 : sR T1482 z47 0 = some z51 := by rw [f1520.2.2.1]; exact r1422
              clear f1520
              have f1523 := kxT1482 z51 (ni_c d1391 ni_0) (lt16 k1390 (by decide))
              have f1524 : sK T1482 z51 = 12 := by rw [f1523.1]; exact k1390
              have f1525 : sL T1482 z51 = 32 := by rw [f1523.2.2.2.2]; exact n1430
              have f1526 : ∀ j, sJ T1482 z51 j = 0 := fun j => by rw [f1523.2.2.2.1]; exact w1470 j 
              clear f1523
              have f1527 := kxT1482 q109 (ni_c d1393 ni_0) (lt16 k1392 (by decide))
              have f1528 : sK T1482 q109 = 1 := by rw [f1527.1]; exact k1392
              have f1529 : sR T1482 q109 0 = some z201 := by rw [f1527.2.2.1]; exact r1423
              have f1530 : sR T1482 q109 1 = some z219 := by rw [f1527.2.2.1]; exact r1424
              have f1531 : sI T1482 q109 2 = 0 := by rw [f1527.2.1]; exact w1454
              have f1532 : sI T1482 q109 3 = 300 := by rw [f1527.2.1]; exact w1455
              have f1533 : sI T1482 q109 4 = 0 := by rw [f1527.2.1]; exact w1456
              have f1534 : sI T1482 q109 5 = 0 := by rw [f1527.2.1]; exact w1457
              have f1535 : sI T1482 q109 6 = 0 := by rw [f1527.2.1]; exact w1458
              have f1536 : sI T1482 q109 7 = 0 := by rw [f1527.2.1]; exact w1459
              have f1537 : sI T1482 q109 8 = 0 := by rw [f1527.2.1]; exact w1460
              have f1538 : sI T1482 q109 9 = 0 := by rw [f1527.2.1]; exact w1461
              clear f1527
              have f1539 := kxT1482 z201 (ni_c d1395 ni_0) (lt16 k1394 (by decide))
              have f1540 : sK T1482 z201 = 0 := by rw [f1539.1]; exact k1394
              have f1541 : sR T1482 z201 0 = some z210 := by rw [f1539.2.2.1]; exact r1425
              clear f1539
              have f1542 := kxT1482 z210 (ni_c d1397 ni_0) (lt16 k1396 (by decide))
              have f1543 : sK T1482 z210 = 12 := by rw [f1542.1]; exact k1396
              have f1544 : sL T1482 z210 = 32 := by rw [f1542.2.2.2.2]; exact n1431
              have f1545 : ∀ j, sJ T1482 z210 j = 0 := fun j => by rw [f1542.2.2.2.1]; exact w1471 j 
              clear f1542
              have f1546 := kxT1482 z219 (ni_c d1399 ni_0) (lt16 k1398 (by decide))
              have f1547 : sK T1482 z219 = 0 := by rw [f1546.1]; exact k1398
              have f1548 : sR T1482 z219 0 = some z228 := by rw [f1546.2.2.1]; exact r1426
              clear f1546
              have f1549 := kxT1482 z228 (ni_c d1401 ni_0) (lt16 k1400 (by decide))
              have f1550 : sK T1482 z228 = 12 := by rw [f1549.1]; exact k1400
              have f1551 : sL T1482 z228 = 32 := by rw [f1549.2.2.2.2]; exact n1432
              have f1552 : ∀ j, sJ T1482 z228 j = 0 := fun j => by rw [f1549.2.2.2.1]; exact w1472 j 
              clear f1549
              have f1553 := kxT1482 q444 (ni_c d1403 ni_0) (lt16 k1402 (by decide))
              have f1554 : sK T1482 q444 = 4 := by rw [f1553.1]; exact k1402
              have f1555 : sI T1482 q444 0 = 16777215 := by rw [f1553.2.1]; exact w1462
              have f1556 : sI T1482 q444 1 = 127 := by rw [f1553.2.1]; exact w1463
              have f1557 : sI T1482 q444 2 = 15 := by rw [f1553.2.1]; exact w1464
              have f1558 : sI T1482 q444 3 = 168 := by rw [f1553.2.1]; exact w1465
              have f1559 : sI T1482 q444 4 = 100 := by rw [f1553.2.1]; exact w1466
              have f1560 : sI T1482 q444 5 = 50 := by rw [f1553.2.1]; exact w1467
              clear f1553
              have f1561 := kxT1482 q313 (ni_c d1405 ni_0) (lt16 k1404 (by decide))
              have f1562 : sK T1482 q313 = 14 := by rw [f1561.1]; exact k1404
              have f1563 : sL T1482 q313 = 6 := by rw [f1561.2.2.2.2]; exact n1433
              have f1564 : ∀ j, j < 6 → sR T1482 q313 j = some q444 := fun j hj => by rw [f1561.2.2.1]; exact w1473 j hj 
              clear f1561
              have f1565 := kxT1482 q681 (ni_c d1407 ni_0) (lt16 k1406 (by decide))
              have f1566 : sK T1482 q681 = 15 := by rw [f1565.1]; exact k1406
              have f1567 : sL T1482 q681 = 200 := by rw [f1565.2.2.2.2]; exact n1434
              have f1568 : ∀ j, j < 200 → sR T1482 q681 j = none := fun j hj => by rw [f1565.2.2.1]; exact w1474 j hj 
              clear f1565
              have f1569 := kxT1482 q836 (ni_c d1409 ni_0) (lt16 k1408 (by decide))
              have f1570 : sK T1482 q836 = 11 := by rw [f1569.1]; exact k1408
              have f1571 : sL T1482 q836 = 24 := by rw [f1569.2.2.2.2]; exact n1435
              have f1572 : ∀ j, j < 24 → sI T1482 q836 j = 10 := fun j hj => by rw [f1569.2.1]; exact w1475 j hj 
              clear f1569
              have f1573 := kxT1482 q1086 (ni_c d1411 ni_0) (lt16 k1410 (by decide))
              have f1574 : sK T1482 q1086 = 7 := by rw [f1573.1]; exact k1410
              have f1575 : sR T1482 q1086 0 = some z1271 := by rw [f1573.2.2.1]; exact r1427
              have f1576 : sI T1482 q1086 1 = 0 := by rw [f1573.2.1]; exact w1468
              clear f1573
              have f1577 := kxT1482 z1271 (ni_c d1413 ni_0) (lt16 k1412 (by decide))
              have f1578 : sK T1482 z1271 = 10 := by rw [f1577.1]; exact k1412
              have f1579 : sL T1482 z1271 = 80 := by rw [f1577.2.2.2.2]; exact n1436
              have f1580 : ∀ j, j < 80 → sI T1482 z1271 j = 0 := fun j hj => by rw [f1577.2.1]; exact w1476 j hj 
              clear f1577
              have hX0 := hX
              have hX : Kx [h] S T1482 := hX.tr kxT1482 (q1_ (Or.inl o1379))
              obtain ⟨y1581, p1483⟩ := p1483
              obtain ⟨y1582, p1483⟩ := p1483
              obtain ⟨y1583, p1483⟩ := p1483
              obtain ⟨y1584, p1483⟩ := p1483
              have y1585 := p1483
              clear k1380 k1382 k1384 k1386 k1388 k1390 k1392 k1394 k1396 k1398 k1400 k1402 k1404 k1406 k1408 k1410 k1412 k1480 r1414 r1415 r1416 r1417 r1418 r1419 r1420 r1421 r1422 r1423 r1424 r1425 r1426 r1427 r1428 n1429 n1430 n1431 n1432 n1433 n1434 n1435 n1436 w1437 w1438 w1439 w1440 w1441 w1442 w1443 w1444 w1445 w1446 w1447 w1448 w1449 w1450 w1451 w1452 w1453 w1454 w1455 w1456 w1457 w1458 w1459 w1460 w1461 w1462 w1463 w1464 w1465 w1466 w1467 w1468 w1477 w1478 w1479 w1469 w1470 w1471 w1472 w1473 w1474 w1475 w1476
              refine pg_pr (ci := 8) (C := RX8) (T := TX8) (N := 18) hx hb hts wi8 tyX8 tyX8_ok nmX8 hown hK hW hS f1485 (by decide) rfl 6 (by decide) (hts (.fieldLink RX8 48 "IceHall" "reader" "LIceHall$RightsReader;") (by decide +kernel)) (fun _ h9 => h9) rfl hnm rfl rfl rfl rfl dX8_init_127 (fun H locs hW hS => ?_)
              have hX : Kx [h] S (stR T1482 h 6 (some q1376)) := hX.Rh List.mem_cons_self
              obtain ⟨S1586, eS1586⟩ : ∃ T : St, T = stR T1482 h 6 (some q1376) := ⟨_, rfl⟩
              rw [← eS1586] at hW hX
              have k1587 : sK S1586 h = 8 := by rw [eS1586]; exact f1485
              have k1588 : sK S1586 q1 = 1 := by rw [eS1586]; exact f1502
              have k1589 : sK S1586 z39 = 0 := by rw [eS1586]; exact f1514
              have k1590 : sK S1586 z43 = 12 := by rw [eS1586]; exact f1517
              have k1591 : sK S1586 z47 = 0 := by rw [eS1586]; exact f1521
              have k1592 : sK S1586 z51 = 12 := by rw [eS1586]; exact f1524
              have k1593 : sK S1586 q109 = 1 := by rw [eS1586]; exact f1528
              have k1594 : sK S1586 z201 = 0 := by rw [eS1586]; exact f1540
              have k1595 : sK S1586 z210 = 12 := by rw [eS1586]; exact f1543
              have k1596 : sK S1586 z219 = 0 := by rw [eS1586]; exact f1547
              have k1597 : sK S1586 z228 = 12 := by rw [eS1586]; exact f1550
              have k1598 : sK S1586 q444 = 4 := by rw [eS1586]; exact f1554
              have k1599 : sK S1586 q313 = 14 := by rw [eS1586]; exact f1562
              have k1600 : sK S1586 q681 = 15 := by rw [eS1586]; exact f1566
              have k1601 : sK S1586 q836 = 11 := by rw [eS1586]; exact f1570
              have k1602 : sK S1586 q1086 = 7 := by rw [eS1586]; exact f1574
              have k1603 : sK S1586 z1271 = 10 := by rw [eS1586]; exact f1578
              have k1604 : sK S1586 q1376 = 5 := by rw [eS1586]; exact y1581
              have r1605 : sR S1586 h 0 = some q1 := by rw [eS1586, rR, if_pos rfl, if_neg (by decide)]; exact f1486
              have r1606 : sR S1586 h 1 = some q109 := by rw [eS1586, rR, if_pos rfl, if_neg (by decide)]; exact f1487
              have r1607 : sR S1586 h 2 = some q313 := by rw [eS1586, rR, if_pos rfl, if_neg (by decide)]; exact f1488
              have r1608 : sR S1586 h 3 = some q681 := by rw [eS1586, rR, if_pos rfl, if_neg (by decide)]; exact f1489
              have r1609 : sR S1586 h 4 = some q836 := by rw [eS1586, rR, if_pos rfl, if_neg (by decide)]; exact f1490
              have r1610 : sR S1586 h 5 = some q1086 := by rw [eS1586, rR, if_pos rfl, if_neg (by decide)]; exact f1491
              have r1611 : sR S1586 q1 0 = some z39 := by rw [eS1586, rR, if_neg (fk_ne k1588 k1587 (by decide))]; exact f1503
              have r1612 : sR S1586 q1 1 = some z47 := by rw [eS1586, rR, if_neg (fk_ne k1588 k1587 (by decide))]; exact f1504
              have r1613 : sR S1586 z39 0 = some z43 := by rw [eS1586, rR, if_neg (fk_ne k1589 k1587 (by decide))]; exact f1515
              have r1614 : sR S1586 z47 0 = some z51 := by rw [eS1586, rR, if_neg (fk_ne k1591 k1587 (by decide))]; exact f1522
              have r1615 : sR S1586 q109 0 = some z201 := by rw [eS1586, rR, if_neg (fk_ne k1593 k1587 (by decide))]; exact f1529
              have r1616 : sR S1586 q109 1 = some z219 := by rw [eS1586, rR, if_neg (fk_ne k1593 k1587 (by decide))]; exact f1530
              have r1617 : sR S1586 z201 0 = some z210 := by rw [eS1586, rR, if_neg (fk_ne k1594 k1587 (by decide))]; exact f1541
              have r1618 : sR S1586 z219 0 = some z228 := by rw [eS1586, rR, if_neg (fk_ne k1596 k1587 (by decide))]; exact f1548
              have r1619 : sR S1586 q1086 0 = some z1271 := by rw [eS1586, rR, if_neg (fk_ne k1602 k1587 (by decide))]; exact f1575
              have r1620 : sR S1586 q1376 0 = some q1086 := by rw [eS1586, rR, if_neg (fk_ne k1604 k1587 (by decide))]; exact y1582
              have n1621 : sL S1586 z43 = 32 := by rw [eS1586]; exact f1518
              have n1622 : sL S1586 z51 = 32 := by rw [eS1586]; exact f1525
              have n1623 : sL S1586 z210 = 32 := by rw [eS1586]; exact f1544
              have n1624 : sL S1586 z228 = 32 := by rw [eS1586]; exact f1551
              have n1625 : sL S1586 q313 = 6 := by rw [eS1586]; exact f1563
              have n1626 : sL S1586 q681 = 200 := by rw [eS1586]; exact f1567
              have n1627 : sL S1586 q836 = 24 := by rw [eS1586]; exact f1571
              have n1628 : sL S1586 z1271 = 80 := by rw [eS1586]; exact f1579
              have w1629 : sI S1586 h 9 = 0 := by rw [eS1586]; exact f1492
              have w1630 : sI S1586 h 10 = 0 := by rw [eS1586]; exact f1493
              have w1631 : sI S1586 h 11 = 0 := by rw [eS1586]; exact f1494
              have w1632 : sI S1586 h 12 = 0 := by rw [eS1586]; exact f1495
              have w1633 : sI S1586 h 13 = 0 := by rw [eS1586]; exact f1496
              have w1634 : sI S1586 h 14 = 0 := by rw [eS1586]; exact f1497
              have w1635 : sI S1586 h 15 = 0 := by rw [eS1586]; exact f1498
              have w1636 : sI S1586 h 16 = 0 := by rw [eS1586]; exact f1499
              have w1637 : sI S1586 h 17 = 0 := by rw [eS1586]; exact f1500
              have w1638 : sI S1586 q1 2 = 0 := by rw [eS1586]; exact f1505
              have w1639 : sI S1586 q1 3 = 300 := by rw [eS1586]; exact f1506
              have w1640 : sI S1586 q1 4 = 0 := by rw [eS1586]; exact f1507
              have w1641 : sI S1586 q1 5 = 0 := by rw [eS1586]; exact f1508
              have w1642 : sI S1586 q1 6 = 0 := by rw [eS1586]; exact f1509
              have w1643 : sI S1586 q1 7 = 0 := by rw [eS1586]; exact f1510
              have w1644 : sI S1586 q1 8 = 0 := by rw [eS1586]; exact f1511
              have w1645 : sI S1586 q1 9 = 0 := by rw [eS1586]; exact f1512
              have w1646 : sI S1586 q109 2 = 0 := by rw [eS1586]; exact f1531
              have w1647 : sI S1586 q109 3 = 300 := by rw [eS1586]; exact f1532
              have w1648 : sI S1586 q109 4 = 0 := by rw [eS1586]; exact f1533
              have w1649 : sI S1586 q109 5 = 0 := by rw [eS1586]; exact f1534
              have w1650 : sI S1586 q109 6 = 0 := by rw [eS1586]; exact f1535
              have w1651 : sI S1586 q109 7 = 0 := by rw [eS1586]; exact f1536
              have w1652 : sI S1586 q109 8 = 0 := by rw [eS1586]; exact f1537
              have w1653 : sI S1586 q109 9 = 0 := by rw [eS1586]; exact f1538
              have w1654 : sI S1586 q444 0 = 16777215 := by rw [eS1586]; exact f1555
              have w1655 : sI S1586 q444 1 = 127 := by rw [eS1586]; exact f1556
              have w1656 : sI S1586 q444 2 = 15 := by rw [eS1586]; exact f1557
              have w1657 : sI S1586 q444 3 = 168 := by rw [eS1586]; exact f1558
              have w1658 : sI S1586 q444 4 = 100 := by rw [eS1586]; exact f1559
              have w1659 : sI S1586 q444 5 = 50 := by rw [eS1586]; exact f1560
              have w1660 : sI S1586 q1086 1 = 0 := by rw [eS1586]; exact f1576
              have w1661 : sI S1586 q1376 1 = 0 := by rw [eS1586]; exact y1583
              have w1662 : sI S1586 q1376 2 = 0 := by rw [eS1586]; exact y1584
              have w1663 : sI S1586 q1376 3 = 0 := by rw [eS1586]; exact y1585
              have w1664 : ∀ j, sJ S1586 z43 j = 0 := fun j => by rw [eS1586]; exact f1519 j 
              have w1665 : ∀ j, sJ S1586 z51 j = 0 := fun j => by rw [eS1586]; exact f1526 j 
              have w1666 : ∀ j, sJ S1586 z210 j = 0 := fun j => by rw [eS1586]; exact f1545 j 
              have w1667 : ∀ j, sJ S1586 z228 j = 0 := fun j => by rw [eS1586]; exact f1552 j 
              have w1668 : ∀ j, j < 6 → sR S1586 q313 j = some q444 := fun j hj => by rw [eS1586, rR, if_neg (fk_ne k1599 k1587 (by decide))]; exact f1564 j hj 
              have w1669 : ∀ j, j < 200 → sR S1586 q681 j = none := fun j hj => by rw [eS1586, rR, if_neg (fk_ne k1600 k1587 (by decide))]; exact f1568 j hj 
              have w1670 : ∀ j, j < 24 → sI S1586 q836 j = 10 := fun j hj => by rw [eS1586]; exact f1572 j hj 
              have w1671 : ∀ j, j < 80 → sI S1586 z1271 j = 0 := fun j hj => by rw [eS1586]; exact f1580 j hj 
              have r1672 : sR S1586 h 6 = some q1376 := by rw [eS1586, rR, if_pos rfl, if_pos rfl]
              clear f1485 f1502 f1514 f1517 f1521 f1524 f1528 f1540 f1543 f1547 f1550 f1554 f1562 f1566 f1570 f1574 f1578 y1581 f1486 f1487 f1488 f1489 f1490 f1491 f1503 f1504 f1515 f1522 f1529 f1530 f1541 f1548 f1575 y1582 f1518 f1525 f1544 f1551 f1563 f1567 f1571 f1579 f1492 f1493 f1494 f1495 f1496 f1497 f1498 f1499 f1500 f1505 f1506 f1507 f1508 f1509 f1510 f1511 f1512 f1531 f1532 f1533 f1534 f1535 f1536 f1537 f1538 f1555 f1556 f1557 f1558 f1559 f1560 f1576 y1583 y1584 y1585 f1519 f1526 f1545 f1552 f1564 f1568 f1572 f1580
              refine lv_aload_n hx hb dX8_init_130 rfl (lv_at hl 0 rfl) ?_
              refine pg_new (ci := 2) (C := RX2) (T := TX2) (N := 10) hx hb hts wi2 tyX2 tyX2_ok hown (hts (.classLink RX8 52 RX2) (by decide +kernel)) (hts (.instantiable RX2 10) (by decide +kernel)) (hts (.initialized RX2) (by decide +kernel)) hK hW hS hA (by decide) rfl df_2 (Nat.le_of_ble_eq_true rfl) (Nat.le_of_ble_eq_true rfl) dX8_init_131 (fun q1673 H hq1673 hW hS => ?_)
              have f1675 : Ap h q1673 := ap_k k1587 hq1673 (by decide)
              have o1676 : 16 ≤ sK S q1673 := hX.old hq1673 (ni_c (ap_s f1675) ni_0)
              have hX : Kx [h] S (stN S1586 q1673 2 0) := hX.N hq1673
              obtain ⟨S1674, eS1674⟩ : ∃ T : St, T = stN S1586 q1673 2 0 := ⟨_, rfl⟩
              rw [← eS1674] at hW hX
              obtain ⟨k1677, d1678⟩ := fk_N (a := h) eS1674 k1587 (by decide) hq1673
              obtain ⟨k1679, d1680⟩ := fk_N (a := q1) eS1674 k1588 (by decide) hq1673
              obtain ⟨k1681, d1682⟩ := fk_N (a := z39) eS1674 k1589 (by decide) hq1673
              obtain ⟨k1683, d1684⟩ := fk_N (a := z43) eS1674 k1590 (by decide) hq1673
              obtain ⟨k1685, d1686⟩ := fk_N (a := z47) eS1674 k1591 (by decide) hq1673
              obtain ⟨k1687, d1688⟩ := fk_N (a := z51) eS1674 k1592 (by decide) hq1673
              obtain ⟨k1689, d1690⟩ := fk_N (a := q109) eS1674 k1593 (by decide) hq1673
              obtain ⟨k1691, d1692⟩ := fk_N (a := z201) eS1674 k1594 (by decide) hq1673
              obtain ⟨k1693, d1694⟩ := fk_N (a := z210) eS1674 k1595 (by decide) hq1673
              obtain ⟨k1695, d1696⟩ := fk_N (a := z219) eS1674 k1596 (by decide) hq1673
              obtain ⟨k1697, d1698⟩ := fk_N (a := z228) eS1674 k1597 (by decide) hq1673
              obtain ⟨k1699, d1700⟩ := fk_N (a := q444) eS1674 k1598 (by decide) hq1673
              obtain ⟨k1701, d1702⟩ := fk_N (a := q313) eS1674 k1599 (by decide) hq1673
              obtain ⟨k1703, d1704⟩ := fk_N (a := q681) eS1674 k1600 (by decide) hq1673
              obtain ⟨k1705, d1706⟩ := fk_N (a := q836) eS1674 k1601 (by decide) hq1673
              obtain ⟨k1707, d1708⟩ := fk_N (a := q1086) eS1674 k1602 (by decide) hq1673
              obtain ⟨k1709, d1710⟩ := fk_N (a := z1271) eS1674 k1603 (by decide) hq1673
              obtain ⟨k1711, d1712⟩ := fk_N (a := q1376) eS1674 k1604 (by decide) hq1673
              have r1713 : sR S1674 h 0 = some q1 := by rw [eS1674, rN, if_neg d1678]; exact r1605
              have r1714 : sR S1674 h 1 = some q109 := by rw [eS1674, rN, if_neg d1678]; exact r1606
              have r1715 : sR S1674 h 2 = some q313 := by rw [eS1674, rN, if_neg d1678]; exact r1607
              have r1716 : sR S1674 h 3 = some q681 := by rw [eS1674, rN, if_neg d1678]; exact r1608
              have r1717 : sR S1674 h 4 = some q836 := by rw [eS1674, rN, if_neg d1678]; exact r1609
              have r1718 : sR S1674 h 5 = some q1086 := by rw [eS1674, rN, if_neg d1678]; exact r1610
              have r1719 : sR S1674 q1 0 = some z39 := by rw [eS1674, rN, if_neg d1680]; exact r1611
              have r1720 : sR S1674 q1 1 = some z47 := by rw [eS1674, rN, if_neg d1680]; exact r1612
              have r1721 : sR S1674 z39 0 = some z43 := by rw [eS1674, rN, if_neg d1682]; exact r1613
              have r1722 : sR S1674 z47 0 = some z51 := by rw [eS1674, rN, if_neg d1686]; exact r1614
              have r1723 : sR S1674 q109 0 = some z201 := by rw [eS1674, rN, if_neg d1690]; exact r1615
              have r1724 : sR S1674 q109 1 = some z219 := by rw [eS1674, rN, if_neg d1690]; exact r1616
              have r1725 : sR S1674 z201 0 = some z210 := by rw [eS1674, rN, if_neg d1692]; exact r1617
              have r1726 : sR S1674 z219 0 = some z228 := by rw [eS1674, rN, if_neg d1696]; exact r1618
              have r1727 : sR S1674 q1086 0 = some z1271 := by rw [eS1674, rN, if_neg d1708]; exact r1619
              have r1728 : sR S1674 q1376 0 = some q1086 := by rw [eS1674, rN, if_neg d1712]; exact r1620
              have r1729 : sR S1674 h 6 = some q1376 := by rw [eS1674, rN, if_neg d1678]; exact r1672
              have n1730 : sL S1674 z43 = 32 := by rw [eS1674, lNw, if_neg d1684]; exact n1621
              have n1731 : sL S1674 z51 = 32 := by rw [eS1674, lNw, if_neg d1688]; exact n1622
              have n1732 : sL S1674 z210 = 32 := by rw [eS1674, lNw, if_neg d1694]; exact n1623
              have n1733 : sL S1674 z228 = 32 := by rw [eS1674, lNw, if_neg d1698]; exact n1624
              have n1734 : sL S1674 q313 = 6 := by rw [eS1674, lNw, if_neg d1702]; exact n1625
              have n1735 : sL S1674 q681 = 200 := by rw [eS1674, lNw, if_neg d1704]; exact n1626
              have n1736 : sL S1674 q836 = 24 := by rw [eS1674, lNw, if_neg d1706]; exact n1627
              have n1737 : sL S1674 z1271 = 80 := by rw [eS1674, lNw, if_neg d1710]; exact n1628
              have w1738 : sI S1674 h 9 = 0 := by rw [eS1674, iN, if_neg d1678]; exact w1629
              have w1739 : sI S1674 h 10 = 0 := by rw [eS1674, iN, if_neg d1678]; exact w1630
              have w1740 : sI S1674 h 11 = 0 := by rw [eS1674, iN, if_neg d1678]; exact w1631
              have w1741 : sI S1674 h 12 = 0 := by rw [eS1674, iN, if_neg d1678]; exact w1632
              have w1742 : sI S1674 h 13 = 0 := by rw [eS1674, iN, if_neg d1678]; exact w1633
              have w1743 : sI S1674 h 14 = 0 := by rw [eS1674, iN, if_neg d1678]; exact w1634
              have w1744 : sI S1674 h 15 = 0 := by rw [eS1674, iN, if_neg d1678]; exact w1635
              have w1745 : sI S1674 h 16 = 0 := by rw [eS1674, iN, if_neg d1678]; exact w1636
              have w1746 : sI S1674 h 17 = 0 := by rw [eS1674, iN, if_neg d1678]; exact w1637
              have w1747 : sI S1674 q1 2 = 0 := by rw [eS1674, iN, if_neg d1680]; exact w1638
              have w1748 : sI S1674 q1 3 = 300 := by rw [eS1674, iN, if_neg d1680]; exact w1639
              have w1749 : sI S1674 q1 4 = 0 := by rw [eS1674, iN, if_neg d1680]; exact w1640
              have w1750 : sI S1674 q1 5 = 0 := by rw [eS1674, iN, if_neg d1680]; exact w1641
              have w1751 : sI S1674 q1 6 = 0 := by rw [eS1674, iN, if_neg d1680]; exact w1642
              have w1752 : sI S1674 q1 7 = 0 := by rw [eS1674, iN, if_neg d1680]; exact w1643
              have w1753 : sI S1674 q1 8 = 0 := by rw [eS1674, iN, if_neg d1680]; exact w1644
              have w1754 : sI S1674 q1 9 = 0 := by rw [eS1674, iN, if_neg d1680]; exact w1645
              have w1755 : sI S1674 q109 2 = 0 := by rw [eS1674, iN, if_neg d1690]; exact w1646
              have w1756 : sI S1674 q109 3 = 300 := by rw [eS1674, iN, if_neg d1690]; exact w1647
              have w1757 : sI S1674 q109 4 = 0 := by rw [eS1674, iN, if_neg d1690]; exact w1648
              have w1758 : sI S1674 q109 5 = 0 := by rw [eS1674, iN, if_neg d1690]; exact w1649
              have w1759 : sI S1674 q109 6 = 0 := by rw [eS1674, iN, if_neg d1690]; exact w1650
              have w1760 : sI S1674 q109 7 = 0 := by rw [eS1674, iN, if_neg d1690]; exact w1651
              have w1761 : sI S1674 q109 8 = 0 := by rw [eS1674, iN, if_neg d1690]; exact w1652
              have w1762 : sI S1674 q109 9 = 0 := by rw [eS1674, iN, if_neg d1690]; exact w1653
              have w1763 : sI S1674 q444 0 = 16777215 := by rw [eS1674, iN, if_neg d1700]; exact w1654
              have w1764 : sI S1674 q444 1 = 127 := by rw [eS1674, iN, if_neg d1700]; exact w1655
              have w1765 : sI S1674 q444 2 = 15 := by rw [eS1674, iN, if_neg d1700]; exact w1656
              have w1766 : sI S1674 q444 3 = 168 := by rw [eS1674, iN, if_neg d1700]; exact w1657
              have w1767 : sI S1674 q444 4 = 100 := by rw [eS1674, iN, if_neg d1700]; exact w1658
              have w1768 : sI S1674 q444 5 = 50 := by rw [eS1674, iN, if_neg d1700]; exact w1659
              have w1769 : sI S1674 q1086 1 = 0 := by rw [eS1674, iN, if_neg d1708]; exact w1660
              have w1770 : sI S1674 q1376 1 = 0 := by rw [eS1674, iN, if_neg d1712]; exact w1661
              have w1771 : sI S1674 q1376 2 = 0 := by rw [eS1674, iN, if_neg d1712]; exact w1662
              have w1772 : sI S1674 q1376 3 = 0 := by rw [eS1674, iN, if_neg d1712]; exact w1663
              have w1773 : ∀ j, sJ S1674 z43 j = 0 := fun j => by rw [eS1674, jN, if_neg d1684]; exact w1664 j 
              have w1774 : ∀ j, sJ S1674 z51 j = 0 := fun j => by rw [eS1674, jN, if_neg d1688]; exact w1665 j 
              have w1775 : ∀ j, sJ S1674 z210 j = 0 := fun j => by rw [eS1674, jN, if_neg d1694]; exact w1666 j 
              have w1776 : ∀ j, sJ S1674 z228 j = 0 := fun j => by rw [eS1674, jN, if_neg d1698]; exact w1667 j 
              have w1777 : ∀ j, j < 6 → sR S1674 q313 j = some q444 := fun j hj => by rw [eS1674, rN, if_neg d1702]; exact w1668 j hj 
              have w1778 : ∀ j, j < 200 → sR S1674 q681 j = none := fun j hj => by rw [eS1674, rN, if_neg d1704]; exact w1669 j hj 
              have w1779 : ∀ j, j < 24 → sI S1674 q836 j = 10 := fun j hj => by rw [eS1674, iN, if_neg d1706]; exact w1670 j hj 
              have w1780 : ∀ j, j < 80 → sI S1674 z1271 j = 0 := fun j hj => by rw [eS1674, iN, if_neg d1710]; exact w1671 j hj 
              have w1781 : sI S1674 q1673 6 = 0 := by rw [eS1674, iN, if_pos rfl]
              have w1782 : sI S1674 q1673 7 = 0 := by rw [eS1674, iN, if_pos rfl]
              have w1783 : sI S1674 q1673 8 = 0 := by rw [eS1674, iN, if_pos rfl]
              have w1784 : sI S1674 q1673 9 = 0 := by rw [eS1674, iN, if_pos rfl]
              have k1785 : sK S1674 q1673 = 2 := by rw [eS1674, kN, if_pos rfl]
              clear k1587 k1588 k1589 k1590 k1591 k1592 k1593 k1594 k1595 k1596 k1597 k1598 k1599 k1600 k1601 k1602 k1603 k1604 r1605 r1606 r1607 r1608 r1609 r1610 r1611 r1612 r1613 r1614 r1615 r1616 r1617 r1618 r1619 r1620 r1672 n1621 n1622 n1623 n1624 n1625 n1626 n1627 n1628 w1629 w1630 w1631 w1632 w1633 w1634 w1635 w1636 w1637 w1638 w1639 w1640 w1641 w1642 w1643 w1644 w1645 w1646 w1647 w1648 w1649 w1650 w1651 w1652 w1653 w1654 w1655 w1656 w1657 w1658 w1659 w1660 w1661 w1662 w1663 w1664 w1665 w1666 w1667 w1668 w1669 w1670 w1671
              refine lv_dup hx hb dX8_init_134 rfl ?_
              refine lv_aload_n hx hb dX8_init_135 rfl (lv_at hl 0 rfl) ?_
              refine pg_gr (b := q1) (ci := 8) (C := RX8) (T := TX8) (N := 18) hx hb hts wi8 hown hK hW k1677 (by decide) rfl 0 (by decide) (hts (.fieldLink RX8 10 "IceHall" "firstIce" "LIceHall$Ice;") (by decide +kernel)) (fun _ h9 => h9) rfl r1713 dX8_init_136 ?_
              refine lv_aload_n hx hb dX8_init_139 rfl (lv_at hl 0 rfl) ?_
              refine pg_gr (b := q109) (ci := 8) (C := RX8) (T := TX8) (N := 18) hx hb hts wi8 hown hK hW k1677 (by decide) rfl 1 (by decide) (hts (.fieldLink RX8 16 "IceHall" "secondIce" "LIceHall$Ice;") (by decide +kernel)) (fun _ h9 => h9) rfl r1714 dX8_init_140 ?_
              refine pc_Iv (As := [.ref q1, .ref q109]) (rest := [.ref q1673, .ref h]) F (c_X2_init l D cy A S1674 q1673 q1 q109 k1785 k1679 k1689 w1781 w1782 w1783 w1784) (cwI 2 hts gX8_init_X2_init rfl rfl rfl (hts (.initialized RX2) (by decide +kernel)) (hts (.methodLink RX8 54 yX2_init) (by decide +kernel)) (hts (.instanceMethod yX2_init) (by decide +kernel)) rfl (by decide +kernel) ⟨Nat.le_of_ble_eq_true rfl, Nat.le_of_ble_eq_true rfl⟩) hK hZ hA hW hS rfl hl.1 rfl (Nat.le_of_ble_eq_true rfl) dX8_init_143 ⟨Nat.le_of_ble_eq_true rfl, Nat.le_of_ble_eq_true rfl⟩ (fun T1787 H locs p1788 hW hS => ?_)
              obtain ⟨kxT1787, p1788⟩ := p1788
              have f1789 := kxT1787 h (ni_c d1678 ni_0) (lt16 k1677 (by decide))
              have f1790 : sK T1787 h = 8 := by rw [f1789.1]; exact k1677
              have f1791 : sR T1787 h 0 = some q1 := by rw [f1789.2.2.1]; exact r1713
              have f1792 : sR T1787 h 1 = some q109 := by rw [f1789.2.2.1]; exact r1714
              have f1793 : sR T1787 h 2 = some q313 := by rw [f1789.2.2.1]; exact r1715
              have f1794 : sR T1787 h 3 = some q681 := by rw [f1789.2.2.1]; exact r1716
              have f1795 : sR T1787 h 4 = some q836 := by rw [f1789.2.2.1]; exact r1717
              have f1796 : sR T1787 h 5 = some q1086 := by rw [f1789.2.2.1]; exact r1718
              have f1797 : sR T1787 h 6 = some q1376 := by rw [f1789.2.2.1]; exact r1729
              have f1798 : sI T1787 h 9 = 0 := by rw [f1789.2.1]; exact w1738
              have f1799 : sI T1787 h 10 = 0 := by rw [f1789.2.1]; exact w1739
              have f1800 : sI T1787 h 11 = 0 := by rw [f1789.2.1]; exact w1740
              have f1801 : sI T1787 h 12 = 0 := by rw [f1789.2.1]; exact w1741
              have f1802 : sI T1787 h 13 = 0 := by rw [f1789.2.1]; exact w1742
              have f1803 : sI T1787 h 14 = 0 := by rw [f1789.2.1]; exact w1743
              have f1804 : sI T1787 h 15 = 0 := by rw [f1789.2.1]; exact w1744
              have f1805 : sI T1787 h 16 = 0 := by rw [f1789.2.1]; exact w1745
              have f1806 : sI T1787 h 17 = 0 := by rw [f1789.2.1]; exact w1746
              clear f1789
              have f1807 := kxT1787 q1 (ni_c d1680 ni_0) (lt16 k1679 (by decide))
              have f1808 : sK T1787 q1 = 1 := by rw [f1807.1]; exact k1679
              have f1809 : sR T1787 q1 0 = some z39 := by rw [f1807.2.2.1]; exact r1719
              have f1810 : sR T1787 q1 1 = some z47 := by rw [f1807.2.2.1]; exact r1720
              have f1811 : sI T1787 q1 2 = 0 := by rw [f1807.2.1]; exact w1747
              have f1812 : sI T1787 q1 3 = 300 := by rw [f1807.2.1]; exact w1748
              have f1813 : sI T1787 q1 4 = 0 := by rw [f1807.2.1]; exact w1749
              have f1814 : sI T1787 q1 5 = 0 := by rw [f1807.2.1]; exact w1750
              have f1815 : sI T1787 q1 6 = 0 := by rw [f1807.2.1]; exact w1751
              have f1816 : sI T1787 q1 7 = 0 := by rw [f1807.2.1]; exact w1752
              have f1817 : sI T1787 q1 8 = 0 := by rw [f1807.2.1]; exact w1753
              have f1818 : sI T1787 q1 9 = 0 := by rw [f1807.2.1]; exact w1754
              clear f1807
              have f1819 := kxT1787 z39 (ni_c d1682 ni_0) (lt16 k1681 (by decide))
              have f1820 : sK T1787 z39 = 0 := by rw [f1819.1]; exact k1681
              have f1821 : sR T1787 z39 0 = some z43 := by rw [f1819.2.2.1]; exact r1721
              clear f1819
              have f1822 := kxT1787 z43 (ni_c d1684 ni_0) (lt16 k1683 (by decide))
              have f1823 : sK T1787 z43 = 12 := by rw [f1822.1]; exact k1683
              have f1824 : sL T1787 z43 = 32 := by rw [f1822.2.2.2.2]; exact n1730
              have f1825 : ∀ j, sJ T1787 z43 j = 0 := fun j => by rw [f1822.2.2.2.1]; exact w1773 j 
              clear f1822
              have f1826 := kxT1787 z47 (ni_c d1686 ni_0) (lt16 k1685 (by decide))
              have f1827 : sK T1787 z47 = 0 := by rw [f1826.1]; exact k1685
              have f1828 : sR T1787 z47 0 = some z51 := by rw [f1826.2.2.1]; exact r1722
              clear f1826
              have f1829 := kxT1787 z51 (ni_c d1688 ni_0) (lt16 k1687 (by decide))
              have f1830 : sK T1787 z51 = 12 := by rw [f1829.1]; exact k1687
              have f1831 : sL T1787 z51 = 32 := by rw [f1829.2.2.2.2]; exact n1731
              have f1832 : ∀ j, sJ T1787 z51 j = 0 := fun j => by rw [f1829.2.2.2.1]; exact w1774 j 
              clear f1829
              have f1833 := kxT1787 q109 (ni_c d1690 ni_0) (lt16 k1689 (by decide))
              have f1834 : sK T1787 q109 = 1 := by rw [f1833.1]; exact k1689
              have f1835 : sR T1787 q109 0 = some z201 := by rw [f1833.2.2.1]; exact r1723
              have f1836 : sR T1787 q109 1 = some z219 := by rw [f1833.2.2.1]; exact r1724
              have f1837 : sI T1787 q109 2 = 0 := by rw [f1833.2.1]; exact w1755
              have f1838 : sI T1787 q109 3 = 300 := by rw [f1833.2.1]; exact w1756
              have f1839 : sI T1787 q109 4 = 0 := by rw [f1833.2.1]; exact w1757
              have f1840 : sI T1787 q109 5 = 0 := by rw [f1833.2.1]; exact w1758
              have f1841 : sI T1787 q109 6 = 0 := by rw [f1833.2.1]; exact w1759
              have f1842 : sI T1787 q109 7 = 0 := by rw [f1833.2.1]; exact w1760
              have f1843 : sI T1787 q109 8 = 0 := by rw [f1833.2.1]; exact w1761
              have f1844 : sI T1787 q109 9 = 0 := by rw [f1833.2.1]; exact w1762
              clear f1833
              have f1845 := kxT1787 z201 (ni_c d1692 ni_0) (lt16 k1691 (by decide))
              have f1846 : sK T1787 z201 = 0 := by rw [f1845.1]; exact k1691
              have f1847 : sR T1787 z201 0 = some z210 := by rw [f1845.2.2.1]; exact r1725
              clear f1845
              have f1848 := kxT1787 z210 (ni_c d1694 ni_0) (lt16 k1693 (by decide))
              have f1849 : sK T1787 z210 = 12 := by rw [f1848.1]; exact k1693
              have f1850 : sL T1787 z210 = 32 := by rw [f1848.2.2.2.2]; exact n1732
              have f1851 : ∀ j, sJ T1787 z210 j = 0 := fun j => by rw [f1848.2.2.2.1]; exact w1775 j 
              clear f1848
              have f1852 := kxT1787 z219 (ni_c d1696 ni_0) (lt16 k1695 (by decide))
              have f1853 : sK T1787 z219 = 0 := by rw [f1852.1]; exact k1695
              have f1854 : sR T1787 z219 0 = some z228 := by rw [f1852.2.2.1]; exact r1726
              clear f1852
              have f1855 := kxT1787 z228 (ni_c d1698 ni_0) (lt16 k1697 (by decide))
              have f1856 : sK T1787 z228 = 12 := by rw [f1855.1]; exact k1697
              have f1857 : sL T1787 z228 = 32 := by rw [f1855.2.2.2.2]; exact n1733
              have f1858 : ∀ j, sJ T1787 z228 j = 0 := fun j => by rw [f1855.2.2.2.1]; exact w1776 j 
              clear f1855
              have f1859 := kxT1787 q444 (ni_c d1700 ni_0) (lt16 k1699 (by decide))
              have f1860 : sK T1787 q444 = 4 := by rw [f1859.1]; exact k1699
              have f1861 : sI T1787 q444 0 = 16777215 := by rw [f1859.2.1]; exact w1763
              have f1862 : sI T1787 q444 1 = 127 := by rw [f1859.2.1]; exact w1764
              have f1863 : sI T1787 q444 2 = 15 := by rw [f1859.2.1]; exact w1765
              have f1864 : sI T1787 q444 3 = 168 := by rw [f1859.2.1]; exact w1766
              have f1865 : sI T1787 q444 4 = 100 := by rw [f1859.2.1]; exact w1767
              have f1866 : sI T1787 q444 5 = 50 := by rw [f1859.2.1]; exact w1768
              clear f1859
              have f1867 := kxT1787 q313 (ni_c d1702 ni_0) (lt16 k1701 (by decide))
              have f1868 : sK T1787 q313 = 14 := by rw [f1867.1]; exact k1701
              have f1869 : sL T1787 q313 = 6 := by rw [f1867.2.2.2.2]; exact n1734
              have f1870 : ∀ j, j < 6 → sR T1787 q313 j = some q444 := fun j hj => by rw [f1867.2.2.1]; exact w1777 j hj 
              clear f1867
              have f1871 := kxT1787 q681 (ni_c d1704 ni_0) (lt16 k1703 (by decide))
              have f1872 : sK T1787 q681 = 15 := by rw [f1871.1]; exact k1703
              have f1873 : sL T1787 q681 = 200 := by rw [f1871.2.2.2.2]; exact n1735
              have f1874 : ∀ j, j < 200 → sR T1787 q681 j = none := fun j hj => by rw [f1871.2.2.1]; exact w1778 j hj 
              clear f1871
              have f1875 := kxT1787 q836 (ni_c d1706 ni_0) (lt16 k1705 (by decide))
              have f1876 : sK T1787 q836 = 11 := by rw [f1875.1]; exact k1705
              have f1877 : sL T1787 q836 = 24 := by rw [f1875.2.2.2.2]; exact n1736
              have f1878 : ∀ j, j < 24 → sI T1787 q836 j = 10 := fun j hj => by rw [f1875.2.1]; exact w1779 j hj 
              clear f1875
              have f1879 := kxT1787 q1086 (ni_c d1708 ni_0) (lt16 k1707 (by decide))
              have f1880 : sK T1787 q1086 = 7 := by rw [f1879.1]; exact k1707
              have f1881 : sR T1787 q1086 0 = some z1271 := by rw [f1879.2.2.1]; exact r1727
              have f1882 : sI T1787 q1086 1 = 0 := by rw [f1879.2.1]; exact w1769
              clear f1879
              have f1883 := kxT1787 z1271 (ni_c d1710 ni_0) (lt16 k1709 (by decide))
              have f1884 : sK T1787 z1271 = 10 := by rw [f1883.1]; exact k1709
              have f1885 : sL T1787 z1271 = 80 := by rw [f1883.2.2.2.2]; exact n1737
              have f1886 : ∀ j, j < 80 → sI T1787 z1271 j = 0 := fun j hj => by rw [f1883.2.1]; exact w1780 j hj 
              clear f1883
              have f1887 := kxT1787 q1376 (ni_c d1712 ni_0) (lt16 k1711 (by decide))
              have f1888 : sK T1787 q1376 = 5 := by rw [f1887.1]; exact k1711
              have f1889 : sR T1787 q1376 0 = some q1086 := by rw [f1887.2.2.1]; exact r1728
              have f1890 : sI T1787 q1376 1 = 0 := by rw [f1887.2.1]; exact w1770
              have f1891 : sI T1787 q1376 2 = 0 := by rw [f1887.2.1]; exact w1771
              have f1892 : sI T1787 q1376 3 = 0 := by rw [f1887.2.1]; exact w1772
              clear f1887
              have hX0 := hX
              have hX : Kx [h] S T1787 := hX.tr kxT1787 (q1_ (Or.inl o1676))
              obtain ⟨z1893, hz1893, p1788⟩ := p1788
              have f1894 : Ap h z1893 := ap_k k1677 hz1893 (by decide)
              have f1895 : Ap q1 z1893 := ap_k k1679 hz1893 (by decide)
              have f1896 : Ap z39 z1893 := ap_k k1681 hz1893 (by decide)
              have f1897 : Ap z43 z1893 := ap_k k1683 hz1893 (by decide)
              have f1898 : Ap z47 z1893 := ap_k k1685 hz1893 (by decide)
              have f1899 : Ap z51 z1893 := ap_k k1687 hz1893 (by decide)
              have f1900 : Ap q109 z1893 := ap_k k1689 hz1893 (by decide)
              have f1901 : Ap z201 z1893 := ap_k k1691 hz1893 (by decide)
              have f1902 : Ap z210 z1893 := ap_k k1693 hz1893 (by decide)
              have f1903 : Ap z219 z1893 := ap_k k1695 hz1893 (by decide)
              have f1904 : Ap z228 z1893 := ap_k k1697 hz1893 (by decide)
              have f1905 : Ap q444 z1893 := ap_k k1699 hz1893 (by decide)
              have f1906 : Ap q313 z1893 := ap_k k1701 hz1893 (by decide)
              have f1907 : Ap q681 z1893 := ap_k k1703 hz1893 (by decide)
              have f1908 : Ap q836 z1893 := ap_k k1705 hz1893 (by decide)
              have f1909 : Ap q1086 z1893 := ap_k k1707 hz1893 (by decide)
              have f1910 : Ap z1271 z1893 := ap_k k1709 hz1893 (by decide)
              have f1911 : Ap q1376 z1893 := ap_k k1711 hz1893 (by decide)
              have f1912 : Ap q1673 z1893 := ap_k k1785 hz1893 (by decide)
              have o1913 : 16 ≤ sK S z1893 := hX0.old hz1893 (ni_c (ap_s f1894) ni_0)
              obtain ⟨z1914, hz1914, p1788⟩ := p1788
              have f1915 : Ap h z1914 := ap_k k1677 hz1914 (by decide)
              have f1916 : Ap q1 z1914 := ap_k k1679 hz1914 (by decide)
              have f1917 : Ap z39 z1914 := ap_k k1681 hz1914 (by decide)
              have f1918 : Ap z43 z1914 := ap_k k1683 hz1914 (by decide)
              have f1919 : Ap z47 z1914 := ap_k k1685 hz1914 (by decide)
              have f1920 : Ap z51 z1914 := ap_k k1687 hz1914 (by decide)
              have f1921 : Ap q109 z1914 := ap_k k1689 hz1914 (by decide)
              have f1922 : Ap z201 z1914 := ap_k k1691 hz1914 (by decide)
              have f1923 : Ap z210 z1914 := ap_k k1693 hz1914 (by decide)
              have f1924 : Ap z219 z1914 := ap_k k1695 hz1914 (by decide)
              have f1925 : Ap z228 z1914 := ap_k k1697 hz1914 (by decide)
              have f1926 : Ap q444 z1914 := ap_k k1699 hz1914 (by decide)
              have f1927 : Ap q313 z1914 := ap_k k1701 hz1914 (by decide)
              have f1928 : Ap q681 z1914 := ap_k k1703 hz1914 (by decide)
              have f1929 : Ap q836 z1914 := ap_k k1705 hz1914 (by decide)
              have f1930 : Ap q1086 z1914 := ap_k k1707 hz1914 (by decide)
              have f1931 : Ap z1271 z1914 := ap_k k1709 hz1914 (by decide)
              have f1932 : Ap q1376 z1914 := ap_k k1711 hz1914 (by decide)
              have f1933 : Ap q1673 z1914 := ap_k k1785 hz1914 (by decide)
              have o1934 : 16 ≤ sK S z1914 := hX0.old hz1914 (ni_c (ap_s f1915) ni_0)
              obtain ⟨z1935, hz1935, p1788⟩ := p1788
              have f1936 : Ap h z1935 := ap_k k1677 hz1935 (by decide)
              have f1937 : Ap q1 z1935 := ap_k k1679 hz1935 (by decide)
              have f1938 : Ap z39 z1935 := ap_k k1681 hz1935 (by decide)
              have f1939 : Ap z43 z1935 := ap_k k1683 hz1935 (by decide)
              have f1940 : Ap z47 z1935 := ap_k k1685 hz1935 (by decide)
              have f1941 : Ap z51 z1935 := ap_k k1687 hz1935 (by decide)
              have f1942 : Ap q109 z1935 := ap_k k1689 hz1935 (by decide)
              have f1943 : Ap z201 z1935 := ap_k k1691 hz1935 (by decide)
              have f1944 : Ap z210 z1935 := ap_k k1693 hz1935 (by decide)
              have f1945 : Ap z219 z1935 := ap_k k1695 hz1935 (by decide)
              have f1946 : Ap z228 z1935 := ap_k k1697 hz1935 (by decide)
              have f1947 : Ap q444 z1935 := ap_k k1699 hz1935 (by decide)
              have f1948 : Ap q313 z1935 := ap_k k1701 hz1935 (by decide)
              have f1949 : Ap q681 z1935 := ap_k k1703 hz1935 (by decide)
              have f1950 : Ap q836 z1935 := ap_k k1705 hz1935 (by decide)
              have f1951 : Ap q1086 z1935 := ap_k k1707 hz1935 (by decide)
              have f1952 : Ap z1271 z1935 := ap_k k1709 hz1935 (by decide)
              have f1953 : Ap q1376 z1935 := ap_k k1711 hz1935 (by decide)
              have f1954 : Ap q1673 z1935 := ap_k k1785 hz1935 (by decide)
              have o1955 : 16 ≤ sK S z1935 := hX0.old hz1935 (ni_c (ap_s f1936) ni_0)
              obtain ⟨z1956, hz1956, p1788⟩ := p1788
              have f1957 : Ap h z1956 := ap_k k1677 hz1956 (by decide)
              have f1958 : Ap q1 z1956 := ap_k k1679 hz1956 (by decide)
              have f1959 : Ap z39 z1956 := ap_k k1681 hz1956 (by decide)
              have f1960 : Ap z43 z1956 := ap_k k1683 hz1956 (by decide)
              have f1961 : Ap z47 z1956 := ap_k k1685 hz1956 (by decide)
              have f1962 : Ap z51 z1956 := ap_k k1687 hz1956 (by decide)
              have f1963 : Ap q109 z1956 := ap_k k1689 hz1956 (by decide)
              have f1964 : Ap z201 z1956 := ap_k k1691 hz1956 (by decide)
              have f1965 : Ap z210 z1956 := ap_k k1693 hz1956 (by decide)
              have f1966 : Ap z219 z1956 := ap_k k1695 hz1956 (by decide)
              have f1967 : Ap z228 z1956 := ap_k k1697 hz1956 (by decide)
              have f1968 : Ap q444 z1956 := ap_k k1699 hz1956 (by decide)
              have f1969 : Ap q313 z1956 := ap_k k1701 hz1956 (by decide)
              have f1970 : Ap q681 z1956 := ap_k k1703 hz1956 (by decide)
              have f1971 : Ap q836 z1956 := ap_k k1705 hz1956 (by decide)
              have f1972 : Ap q1086 z1956 := ap_k k1707 hz1956 (by decide)
              have f1973 : Ap z1271 z1956 := ap_k k1709 hz1956 (by decide)
              have f1974 : Ap q1376 z1956 := ap_k k1711 hz1956 (by decide)
              have f1975 : Ap q1673 z1956 := ap_k k1785 hz1956 (by decide)
              have o1976 : 16 ≤ sK S z1956 := hX0.old hz1956 (ni_c (ap_s f1957) ni_0)
              obtain ⟨y1977, p1788⟩ := p1788
              obtain ⟨y1978, p1788⟩ := p1788
              obtain ⟨y1979, p1788⟩ := p1788
              obtain ⟨y1980, p1788⟩ := p1788
              obtain ⟨y1981, p1788⟩ := p1788
              obtain ⟨y1982, p1788⟩ := p1788
              obtain ⟨y1983, p1788⟩ := p1788
              obtain ⟨y1984, p1788⟩ := p1788
              obtain ⟨y1985, p1788⟩ := p1788
              obtain ⟨y1986, p1788⟩ := p1788
              obtain ⟨y1987, p1788⟩ := p1788
              obtain ⟨y1988, p1788⟩ := p1788
              obtain ⟨y1989, p1788⟩ := p1788
              obtain ⟨y1990, p1788⟩ := p1788
              obtain ⟨y1991, p1788⟩ := p1788
              obtain ⟨y1992, p1788⟩ := p1788
              obtain ⟨y1993, p1788⟩ := p1788
              obtain ⟨y1994, p1788⟩ := p1788
              have y1995 := p1788
              clear k1677 k1679 k1681 k1683 k1685 k1687 k1689 k1691 k1693 k1695 k1697 k1699 k1701 k1703 k1705 k1707 k1709 k1711 k1785 r1713 r1714 r1715 r1716 r1717 r1718 r1719 r1720 r1721 r1722 r1723 r1724 r1725 r1726 r1727 r1728 r1729 n1730 n1731 n1732 n1733 n1734 n1735 n1736 n1737 w1738 w1739 w1740 w1741 w1742 w1743 w1744 w1745 w1746 w1747 w1748 w1749 w1750 w1751 w1752 w1753 w1754 w1755 w1756 w1757 w1758 w1759 w1760 w1761 w1762 w1763 w1764 w1765 w1766 w1767 w1768 w1769 w1770 w1771 w1772 w1781 w1782 w1783 w1784 w1773 w1774 w1775 w1776 w1777 w1778 w1779 w1780
              refine pg_pr (ci := 8) (C := RX8) (T := TX8) (N := 18) hx hb hts wi8 tyX8 tyX8_ok nmX8 hown hK hW hS f1790 (by decide) rfl 7 (by decide) (hts (.fieldLink RX8 57 "IceHall" "mover" "LIceHall$Mover;") (by decide +kernel)) (fun _ h9 => h9) rfl hnm rfl rfl rfl rfl dX8_init_146 (fun H locs hW hS => ?_)
              have hX : Kx [h] S (stR T1787 h 7 (some q1673)) := hX.Rh List.mem_cons_self
              obtain ⟨S1996, eS1996⟩ : ∃ T : St, T = stR T1787 h 7 (some q1673) := ⟨_, rfl⟩
              rw [← eS1996] at hW hX
              have k1997 : sK S1996 h = 8 := by rw [eS1996]; exact f1790
              have k1998 : sK S1996 q1 = 1 := by rw [eS1996]; exact f1808
              have k1999 : sK S1996 z39 = 0 := by rw [eS1996]; exact f1820
              have k2000 : sK S1996 z43 = 12 := by rw [eS1996]; exact f1823
              have k2001 : sK S1996 z47 = 0 := by rw [eS1996]; exact f1827
              have k2002 : sK S1996 z51 = 12 := by rw [eS1996]; exact f1830
              have k2003 : sK S1996 q109 = 1 := by rw [eS1996]; exact f1834
              have k2004 : sK S1996 z201 = 0 := by rw [eS1996]; exact f1846
              have k2005 : sK S1996 z210 = 12 := by rw [eS1996]; exact f1849
              have k2006 : sK S1996 z219 = 0 := by rw [eS1996]; exact f1853
              have k2007 : sK S1996 z228 = 12 := by rw [eS1996]; exact f1856
              have k2008 : sK S1996 q444 = 4 := by rw [eS1996]; exact f1860
              have k2009 : sK S1996 q313 = 14 := by rw [eS1996]; exact f1868
              have k2010 : sK S1996 q681 = 15 := by rw [eS1996]; exact f1872
              have k2011 : sK S1996 q836 = 11 := by rw [eS1996]; exact f1876
              have k2012 : sK S1996 q1086 = 7 := by rw [eS1996]; exact f1880
              have k2013 : sK S1996 z1271 = 10 := by rw [eS1996]; exact f1884
              have k2014 : sK S1996 q1376 = 5 := by rw [eS1996]; exact f1888
              have k2015 : sK S1996 q1673 = 2 := by rw [eS1996]; exact y1977
              have k2016 : sK S1996 z1893 = 15 := by rw [eS1996]; exact y1981
              have k2017 : sK S1996 z1914 = 11 := by rw [eS1996]; exact y1984
              have k2018 : sK S1996 z1935 = 11 := by rw [eS1996]; exact y1987
              have k2019 : sK S1996 z1956 = 11 := by rw [eS1996]; exact y1990
              have r2020 : sR S1996 h 0 = some q1 := by rw [eS1996, rR, if_pos rfl, if_neg (by decide)]; exact f1791
              have r2021 : sR S1996 h 1 = some q109 := by rw [eS1996, rR, if_pos rfl, if_neg (by decide)]; exact f1792
              have r2022 : sR S1996 h 2 = some q313 := by rw [eS1996, rR, if_pos rfl, if_neg (by decide)]; exact f1793
              have r2023 : sR S1996 h 3 = some q681 := by rw [eS1996, rR, if_pos rfl, if_neg (by decide)]; exact f1794
              have r2024 : sR S1996 h 4 = some q836 := by rw [eS1996, rR, if_pos rfl, if_neg (by decide)]; exact f1795
              have r2025 : sR S1996 h 5 = some q1086 := by rw [eS1996, rR, if_pos rfl, if_neg (by decide)]; exact f1796
              have r2026 : sR S1996 h 6 = some q1376 := by rw [eS1996, rR, if_pos rfl, if_neg (by decide)]; exact f1797
              have r2027 : sR S1996 q1 0 = some z39 := by rw [eS1996, rR, if_neg (fk_ne k1998 k1997 (by decide))]; exact f1809
              have r2028 : sR S1996 q1 1 = some z47 := by rw [eS1996, rR, if_neg (fk_ne k1998 k1997 (by decide))]; exact f1810
              have r2029 : sR S1996 z39 0 = some z43 := by rw [eS1996, rR, if_neg (fk_ne k1999 k1997 (by decide))]; exact f1821
              have r2030 : sR S1996 z47 0 = some z51 := by rw [eS1996, rR, if_neg (fk_ne k2001 k1997 (by decide))]; exact f1828
              have r2031 : sR S1996 q109 0 = some z201 := by rw [eS1996, rR, if_neg (fk_ne k2003 k1997 (by decide))]; exact f1835
              have r2032 : sR S1996 q109 1 = some z219 := by rw [eS1996, rR, if_neg (fk_ne k2003 k1997 (by decide))]; exact f1836
              have r2033 : sR S1996 z201 0 = some z210 := by rw [eS1996, rR, if_neg (fk_ne k2004 k1997 (by decide))]; exact f1847
              have r2034 : sR S1996 z219 0 = some z228 := by rw [eS1996, rR, if_neg (fk_ne k2006 k1997 (by decide))]; exact f1854
              have r2035 : sR S1996 q1086 0 = some z1271 := by rw [eS1996, rR, if_neg (fk_ne k2012 k1997 (by decide))]; exact f1881
              have r2036 : sR S1996 q1376 0 = some q1086 := by rw [eS1996, rR, if_neg (fk_ne k2014 k1997 (by decide))]; exact f1889
              have r2037 : sR S1996 q1673 0 = some q1 := by rw [eS1996, rR, if_neg (fk_ne k2015 k1997 (by decide))]; exact y1978
              have r2038 : sR S1996 q1673 1 = some q109 := by rw [eS1996, rR, if_neg (fk_ne k2015 k1997 (by decide))]; exact y1979
              have r2039 : sR S1996 q1673 2 = some z1893 := by rw [eS1996, rR, if_neg (fk_ne k2015 k1997 (by decide))]; exact y1980
              have r2040 : sR S1996 q1673 3 = some z1914 := by rw [eS1996, rR, if_neg (fk_ne k2015 k1997 (by decide))]; exact y1983
              have r2041 : sR S1996 q1673 4 = some z1935 := by rw [eS1996, rR, if_neg (fk_ne k2015 k1997 (by decide))]; exact y1986
              have r2042 : sR S1996 q1673 5 = some z1956 := by rw [eS1996, rR, if_neg (fk_ne k2015 k1997 (by decide))]; exact y1989
              have n2043 : sL S1996 z43 = 32 := by rw [eS1996]; exact f1824
              have n2044 : sL S1996 z51 = 32 := by rw [eS1996]; exact f1831
              have n2045 : sL S1996 z210 = 32 := by rw [eS1996]; exact f1850
              have n2046 : sL S1996 z228 = 32 := by rw [eS1996]; exact f1857
              have n2047 : sL S1996 q313 = 6 := by rw [eS1996]; exact f1869
              have n2048 : sL S1996 q681 = 200 := by rw [eS1996]; exact f1873
              have n2049 : sL S1996 q836 = 24 := by rw [eS1996]; exact f1877
              have n2050 : sL S1996 z1271 = 80 := by rw [eS1996]; exact f1885
              have n2051 : sL S1996 z1893 = 5 := by rw [eS1996]; exact y1982
              have n2052 : sL S1996 z1914 = 5 := by rw [eS1996]; exact y1985
              have n2053 : sL S1996 z1935 = 5 := by rw [eS1996]; exact y1988
              have n2054 : sL S1996 z1956 = 6 := by rw [eS1996]; exact y1991
              have w2055 : sI S1996 h 9 = 0 := by rw [eS1996]; exact f1798
              have w2056 : sI S1996 h 10 = 0 := by rw [eS1996]; exact f1799
              have w2057 : sI S1996 h 11 = 0 := by rw [eS1996]; exact f1800
              have w2058 : sI S1996 h 12 = 0 := by rw [eS1996]; exact f1801
              have w2059 : sI S1996 h 13 = 0 := by rw [eS1996]; exact f1802
              have w2060 : sI S1996 h 14 = 0 := by rw [eS1996]; exact f1803
              have w2061 : sI S1996 h 15 = 0 := by rw [eS1996]; exact f1804
              have w2062 : sI S1996 h 16 = 0 := by rw [eS1996]; exact f1805
              have w2063 : sI S1996 h 17 = 0 := by rw [eS1996]; exact f1806
              have w2064 : sI S1996 q1 2 = 0 := by rw [eS1996]; exact f1811
              have w2065 : sI S1996 q1 3 = 300 := by rw [eS1996]; exact f1812
              have w2066 : sI S1996 q1 4 = 0 := by rw [eS1996]; exact f1813
              have w2067 : sI S1996 q1 5 = 0 := by rw [eS1996]; exact f1814
              have w2068 : sI S1996 q1 6 = 0 := by rw [eS1996]; exact f1815
              have w2069 : sI S1996 q1 7 = 0 := by rw [eS1996]; exact f1816
              have w2070 : sI S1996 q1 8 = 0 := by rw [eS1996]; exact f1817
              have w2071 : sI S1996 q1 9 = 0 := by rw [eS1996]; exact f1818
              have w2072 : sI S1996 q109 2 = 0 := by rw [eS1996]; exact f1837
              have w2073 : sI S1996 q109 3 = 300 := by rw [eS1996]; exact f1838
              have w2074 : sI S1996 q109 4 = 0 := by rw [eS1996]; exact f1839
              have w2075 : sI S1996 q109 5 = 0 := by rw [eS1996]; exact f1840
              have w2076 : sI S1996 q109 6 = 0 := by rw [eS1996]; exact f1841
              have w2077 : sI S1996 q109 7 = 0 := by rw [eS1996]; exact f1842
              have w2078 : sI S1996 q109 8 = 0 := by rw [eS1996]; exact f1843
              have w2079 : sI S1996 q109 9 = 0 := by rw [eS1996]; exact f1844
              have w2080 : sI S1996 q444 0 = 16777215 := by rw [eS1996]; exact f1861
              have w2081 : sI S1996 q444 1 = 127 := by rw [eS1996]; exact f1862
              have w2082 : sI S1996 q444 2 = 15 := by rw [eS1996]; exact f1863
              have w2083 : sI S1996 q444 3 = 168 := by rw [eS1996]; exact f1864
              have w2084 : sI S1996 q444 4 = 100 := by rw [eS1996]; exact f1865
              have w2085 : sI S1996 q444 5 = 50 := by rw [eS1996]; exact f1866
              have w2086 : sI S1996 q1086 1 = 0 := by rw [eS1996]; exact f1882
              have w2087 : sI S1996 q1376 1 = 0 := by rw [eS1996]; exact f1890
              have w2088 : sI S1996 q1376 2 = 0 := by rw [eS1996]; exact f1891
              have w2089 : sI S1996 q1376 3 = 0 := by rw [eS1996]; exact f1892
              have w2090 : sI S1996 q1673 6 = 0 := by rw [eS1996]; exact y1992
              have w2091 : sI S1996 q1673 7 = 0 := by rw [eS1996]; exact y1993
              have w2092 : sI S1996 q1673 8 = 0 := by rw [eS1996]; exact y1994
              have w2093 : sI S1996 q1673 9 = 0 := by rw [eS1996]; exact y1995
              have w2094 : ∀ j, sJ S1996 z43 j = 0 := fun j => by rw [eS1996]; exact f1825 j 
              have w2095 : ∀ j, sJ S1996 z51 j = 0 := fun j => by rw [eS1996]; exact f1832 j 
              have w2096 : ∀ j, sJ S1996 z210 j = 0 := fun j => by rw [eS1996]; exact f1851 j 
              have w2097 : ∀ j, sJ S1996 z228 j = 0 := fun j => by rw [eS1996]; exact f1858 j 
              have w2098 : ∀ j, j < 6 → sR S1996 q313 j = some q444 := fun j hj => by rw [eS1996, rR, if_neg (fk_ne k2009 k1997 (by decide))]; exact f1870 j hj 
              have w2099 : ∀ j, j < 200 → sR S1996 q681 j = none := fun j hj => by rw [eS1996, rR, if_neg (fk_ne k2010 k1997 (by decide))]; exact f1874 j hj 
              have w2100 : ∀ j, j < 24 → sI S1996 q836 j = 10 := fun j hj => by rw [eS1996]; exact f1878 j hj 
              have w2101 : ∀ j, j < 80 → sI S1996 z1271 j = 0 := fun j hj => by rw [eS1996]; exact f1886 j hj 
              have r2102 : sR S1996 h 7 = some q1673 := by rw [eS1996, rR, if_pos rfl, if_pos rfl]
              clear f1790 f1808 f1820 f1823 f1827 f1830 f1834 f1846 f1849 f1853 f1856 f1860 f1868 f1872 f1876 f1880 f1884 f1888 y1977 y1981 y1984 y1987 y1990 f1791 f1792 f1793 f1794 f1795 f1796 f1797 f1809 f1810 f1821 f1828 f1835 f1836 f1847 f1854 f1881 f1889 y1978 y1979 y1980 y1983 y1986 y1989 f1824 f1831 f1850 f1857 f1869 f1873 f1877 f1885 y1982 y1985 y1988 y1991 f1798 f1799 f1800 f1801 f1802 f1803 f1804 f1805 f1806 f1811 f1812 f1813 f1814 f1815 f1816 f1817 f1818 f1837 f1838 f1839 f1840 f1841 f1842 f1843 f1844 f1861 f1862 f1863 f1864 f1865 f1866 f1882 f1890 f1891 f1892 y1992 y1993 y1994 y1995 f1825 f1832 f1851 f1858 f1870 f1874 f1878 f1886
              refine lv_aload_n hx hb dX8_init_149 rfl (lv_at hl 0 rfl) ?_
              refine pg_new (ci := 3) (C := RX3) (T := TX3) (N := 9) hx hb hts wi3 tyX3 tyX3_ok hown (hts (.classLink RX8 61 RX3) (by decide +kernel)) (hts (.instantiable RX3 9) (by decide +kernel)) (hts (.initialized RX3) (by decide +kernel)) hK hW hS hA (by decide) rfl df_3 (Nat.le_of_ble_eq_true rfl) (Nat.le_of_ble_eq_true rfl) dX8_init_150 (fun q2103 H hq2103 hW hS => ?_)
              have f2105 : Ap h q2103 := ap_k k1997 hq2103 (by decide)
              have o2106 : 16 ≤ sK S q2103 := hX.old hq2103 (ni_c (ap_s f2105) ni_0)
              have hX : Kx [h] S (stN S1996 q2103 3 0) := hX.N hq2103
              obtain ⟨S2104, eS2104⟩ : ∃ T : St, T = stN S1996 q2103 3 0 := ⟨_, rfl⟩
              rw [← eS2104] at hW hX
              obtain ⟨k2107, d2108⟩ := fk_N (a := h) eS2104 k1997 (by decide) hq2103
              obtain ⟨k2109, d2110⟩ := fk_N (a := q1) eS2104 k1998 (by decide) hq2103
              obtain ⟨k2111, d2112⟩ := fk_N (a := z39) eS2104 k1999 (by decide) hq2103
              obtain ⟨k2113, d2114⟩ := fk_N (a := z43) eS2104 k2000 (by decide) hq2103
              obtain ⟨k2115, d2116⟩ := fk_N (a := z47) eS2104 k2001 (by decide) hq2103
              obtain ⟨k2117, d2118⟩ := fk_N (a := z51) eS2104 k2002 (by decide) hq2103
              obtain ⟨k2119, d2120⟩ := fk_N (a := q109) eS2104 k2003 (by decide) hq2103
              obtain ⟨k2121, d2122⟩ := fk_N (a := z201) eS2104 k2004 (by decide) hq2103
              obtain ⟨k2123, d2124⟩ := fk_N (a := z210) eS2104 k2005 (by decide) hq2103
              obtain ⟨k2125, d2126⟩ := fk_N (a := z219) eS2104 k2006 (by decide) hq2103
              obtain ⟨k2127, d2128⟩ := fk_N (a := z228) eS2104 k2007 (by decide) hq2103
              obtain ⟨k2129, d2130⟩ := fk_N (a := q444) eS2104 k2008 (by decide) hq2103
              obtain ⟨k2131, d2132⟩ := fk_N (a := q313) eS2104 k2009 (by decide) hq2103
              obtain ⟨k2133, d2134⟩ := fk_N (a := q681) eS2104 k2010 (by decide) hq2103
              obtain ⟨k2135, d2136⟩ := fk_N (a := q836) eS2104 k2011 (by decide) hq2103
              obtain ⟨k2137, d2138⟩ := fk_N (a := q1086) eS2104 k2012 (by decide) hq2103
              obtain ⟨k2139, d2140⟩ := fk_N (a := z1271) eS2104 k2013 (by decide) hq2103
              obtain ⟨k2141, d2142⟩ := fk_N (a := q1376) eS2104 k2014 (by decide) hq2103
              obtain ⟨k2143, d2144⟩ := fk_N (a := q1673) eS2104 k2015 (by decide) hq2103
              obtain ⟨k2145, d2146⟩ := fk_N (a := z1893) eS2104 k2016 (by decide) hq2103
              obtain ⟨k2147, d2148⟩ := fk_N (a := z1914) eS2104 k2017 (by decide) hq2103
              obtain ⟨k2149, d2150⟩ := fk_N (a := z1935) eS2104 k2018 (by decide) hq2103
              obtain ⟨k2151, d2152⟩ := fk_N (a := z1956) eS2104 k2019 (by decide) hq2103
              have r2153 : sR S2104 h 0 = some q1 := by rw [eS2104, rN, if_neg d2108]; exact r2020
              have r2154 : sR S2104 h 1 = some q109 := by rw [eS2104, rN, if_neg d2108]; exact r2021
              have r2155 : sR S2104 h 2 = some q313 := by rw [eS2104, rN, if_neg d2108]; exact r2022
              have r2156 : sR S2104 h 3 = some q681 := by rw [eS2104, rN, if_neg d2108]; exact r2023
              have r2157 : sR S2104 h 4 = some q836 := by rw [eS2104, rN, if_neg d2108]; exact r2024
              have r2158 : sR S2104 h 5 = some q1086 := by rw [eS2104, rN, if_neg d2108]; exact r2025
              have r2159 : sR S2104 h 6 = some q1376 := by rw [eS2104, rN, if_neg d2108]; exact r2026
              have r2160 : sR S2104 q1 0 = some z39 := by rw [eS2104, rN, if_neg d2110]; exact r2027
              have r2161 : sR S2104 q1 1 = some z47 := by rw [eS2104, rN, if_neg d2110]; exact r2028
              have r2162 : sR S2104 z39 0 = some z43 := by rw [eS2104, rN, if_neg d2112]; exact r2029
              have r2163 : sR S2104 z47 0 = some z51 := by rw [eS2104, rN, if_neg d2116]; exact r2030
              have r2164 : sR S2104 q109 0 = some z201 := by rw [eS2104, rN, if_neg d2120]; exact r2031
              have r2165 : sR S2104 q109 1 = some z219 := by rw [eS2104, rN, if_neg d2120]; exact r2032
              have r2166 : sR S2104 z201 0 = some z210 := by rw [eS2104, rN, if_neg d2122]; exact r2033
              have r2167 : sR S2104 z219 0 = some z228 := by rw [eS2104, rN, if_neg d2126]; exact r2034
              have r2168 : sR S2104 q1086 0 = some z1271 := by rw [eS2104, rN, if_neg d2138]; exact r2035
              have r2169 : sR S2104 q1376 0 = some q1086 := by rw [eS2104, rN, if_neg d2142]; exact r2036
              have r2170 : sR S2104 q1673 0 = some q1 := by rw [eS2104, rN, if_neg d2144]; exact r2037
              have r2171 : sR S2104 q1673 1 = some q109 := by rw [eS2104, rN, if_neg d2144]; exact r2038
              have r2172 : sR S2104 q1673 2 = some z1893 := by rw [eS2104, rN, if_neg d2144]; exact r2039
              have r2173 : sR S2104 q1673 3 = some z1914 := by rw [eS2104, rN, if_neg d2144]; exact r2040
              have r2174 : sR S2104 q1673 4 = some z1935 := by rw [eS2104, rN, if_neg d2144]; exact r2041
              have r2175 : sR S2104 q1673 5 = some z1956 := by rw [eS2104, rN, if_neg d2144]; exact r2042
              have r2176 : sR S2104 h 7 = some q1673 := by rw [eS2104, rN, if_neg d2108]; exact r2102
              have n2177 : sL S2104 z43 = 32 := by rw [eS2104, lNw, if_neg d2114]; exact n2043
              have n2178 : sL S2104 z51 = 32 := by rw [eS2104, lNw, if_neg d2118]; exact n2044
              have n2179 : sL S2104 z210 = 32 := by rw [eS2104, lNw, if_neg d2124]; exact n2045
              have n2180 : sL S2104 z228 = 32 := by rw [eS2104, lNw, if_neg d2128]; exact n2046
              have n2181 : sL S2104 q313 = 6 := by rw [eS2104, lNw, if_neg d2132]; exact n2047
              have n2182 : sL S2104 q681 = 200 := by rw [eS2104, lNw, if_neg d2134]; exact n2048
              have n2183 : sL S2104 q836 = 24 := by rw [eS2104, lNw, if_neg d2136]; exact n2049
              have n2184 : sL S2104 z1271 = 80 := by rw [eS2104, lNw, if_neg d2140]; exact n2050
              have n2185 : sL S2104 z1893 = 5 := by rw [eS2104, lNw, if_neg d2146]; exact n2051
              have n2186 : sL S2104 z1914 = 5 := by rw [eS2104, lNw, if_neg d2148]; exact n2052
              have n2187 : sL S2104 z1935 = 5 := by rw [eS2104, lNw, if_neg d2150]; exact n2053
              have n2188 : sL S2104 z1956 = 6 := by rw [eS2104, lNw, if_neg d2152]; exact n2054
              have w2189 : sI S2104 h 9 = 0 := by rw [eS2104, iN, if_neg d2108]; exact w2055
              have w2190 : sI S2104 h 10 = 0 := by rw [eS2104, iN, if_neg d2108]; exact w2056
              have w2191 : sI S2104 h 11 = 0 := by rw [eS2104, iN, if_neg d2108]; exact w2057
              have w2192 : sI S2104 h 12 = 0 := by rw [eS2104, iN, if_neg d2108]; exact w2058
              have w2193 : sI S2104 h 13 = 0 := by rw [eS2104, iN, if_neg d2108]; exact w2059
              have w2194 : sI S2104 h 14 = 0 := by rw [eS2104, iN, if_neg d2108]; exact w2060
              have w2195 : sI S2104 h 15 = 0 := by rw [eS2104, iN, if_neg d2108]; exact w2061
              have w2196 : sI S2104 h 16 = 0 := by rw [eS2104, iN, if_neg d2108]; exact w2062
              have w2197 : sI S2104 h 17 = 0 := by rw [eS2104, iN, if_neg d2108]; exact w2063
              have w2198 : sI S2104 q1 2 = 0 := by rw [eS2104, iN, if_neg d2110]; exact w2064
              have w2199 : sI S2104 q1 3 = 300 := by rw [eS2104, iN, if_neg d2110]; exact w2065
              have w2200 : sI S2104 q1 4 = 0 := by rw [eS2104, iN, if_neg d2110]; exact w2066
              have w2201 : sI S2104 q1 5 = 0 := by rw [eS2104, iN, if_neg d2110]; exact w2067
              have w2202 : sI S2104 q1 6 = 0 := by rw [eS2104, iN, if_neg d2110]; exact w2068
              have w2203 : sI S2104 q1 7 = 0 := by rw [eS2104, iN, if_neg d2110]; exact w2069
              have w2204 : sI S2104 q1 8 = 0 := by rw [eS2104, iN, if_neg d2110]; exact w2070
              have w2205 : sI S2104 q1 9 = 0 := by rw [eS2104, iN, if_neg d2110]; exact w2071
              have w2206 : sI S2104 q109 2 = 0 := by rw [eS2104, iN, if_neg d2120]; exact w2072
              have w2207 : sI S2104 q109 3 = 300 := by rw [eS2104, iN, if_neg d2120]; exact w2073
              have w2208 : sI S2104 q109 4 = 0 := by rw [eS2104, iN, if_neg d2120]; exact w2074
              have w2209 : sI S2104 q109 5 = 0 := by rw [eS2104, iN, if_neg d2120]; exact w2075
              have w2210 : sI S2104 q109 6 = 0 := by rw [eS2104, iN, if_neg d2120]; exact w2076
              have w2211 : sI S2104 q109 7 = 0 := by rw [eS2104, iN, if_neg d2120]; exact w2077
              have w2212 : sI S2104 q109 8 = 0 := by rw [eS2104, iN, if_neg d2120]; exact w2078
              have w2213 : sI S2104 q109 9 = 0 := by rw [eS2104, iN, if_neg d2120]; exact w2079
              have w2214 : sI S2104 q444 0 = 16777215 := by rw [eS2104, iN, if_neg d2130]; exact w2080
              have w2215 : sI S2104 q444 1 = 127 := by rw [eS2104, iN, if_neg d2130]; exact w2081
              have w2216 : sI S2104 q444 2 = 15 := by rw [eS2104, iN, if_neg d2130]; exact w2082
              have w2217 : sI S2104 q444 3 = 168 := by rw [eS2104, iN, if_neg d2130]; exact w2083
              have w2218 : sI S2104 q444 4 = 100 := by rw [eS2104, iN, if_neg d2130]; exact w2084
              have w2219 : sI S2104 q444 5 = 50 := by rw [eS2104, iN, if_neg d2130]; exact w2085
              have w2220 : sI S2104 q1086 1 = 0 := by rw [eS2104, iN, if_neg d2138]; exact w2086
              have w2221 : sI S2104 q1376 1 = 0 := by rw [eS2104, iN, if_neg d2142]; exact w2087
              have w2222 : sI S2104 q1376 2 = 0 := by rw [eS2104, iN, if_neg d2142]; exact w2088
              have w2223 : sI S2104 q1376 3 = 0 := by rw [eS2104, iN, if_neg d2142]; exact w2089
              have w2224 : sI S2104 q1673 6 = 0 := by rw [eS2104, iN, if_neg d2144]; exact w2090
              have w2225 : sI S2104 q1673 7 = 0 := by rw [eS2104, iN, if_neg d2144]; exact w2091
              have w2226 : sI S2104 q1673 8 = 0 := by rw [eS2104, iN, if_neg d2144]; exact w2092
              have w2227 : sI S2104 q1673 9 = 0 := by rw [eS2104, iN, if_neg d2144]; exact w2093
              have w2228 : ∀ j, sJ S2104 z43 j = 0 := fun j => by rw [eS2104, jN, if_neg d2114]; exact w2094 j 
              have w2229 : ∀ j, sJ S2104 z51 j = 0 := fun j => by rw [eS2104, jN, if_neg d2118]; exact w2095 j 
              have w2230 : ∀ j, sJ S2104 z210 j = 0 := fun j => by rw [eS2104, jN, if_neg d2124]; exact w2096 j 
              have w2231 : ∀ j, sJ S2104 z228 j = 0 := fun j => by rw [eS2104, jN, if_neg d2128]; exact w2097 j 
              have w2232 : ∀ j, j < 6 → sR S2104 q313 j = some q444 := fun j hj => by rw [eS2104, rN, if_neg d2132]; exact w2098 j hj 
              have w2233 : ∀ j, j < 200 → sR S2104 q681 j = none := fun j hj => by rw [eS2104, rN, if_neg d2134]; exact w2099 j hj 
              have w2234 : ∀ j, j < 24 → sI S2104 q836 j = 10 := fun j hj => by rw [eS2104, iN, if_neg d2136]; exact w2100 j hj 
              have w2235 : ∀ j, j < 80 → sI S2104 z1271 j = 0 := fun j hj => by rw [eS2104, iN, if_neg d2140]; exact w2101 j hj 
              have w2236 : sI S2104 q2103 4 = 0 := by rw [eS2104, iN, if_pos rfl]
              have w2237 : sI S2104 q2103 5 = 0 := by rw [eS2104, iN, if_pos rfl]
              have w2238 : sI S2104 q2103 6 = 0 := by rw [eS2104, iN, if_pos rfl]
              have w2239 : sI S2104 q2103 7 = 0 := by rw [eS2104, iN, if_pos rfl]
              have w2240 : sI S2104 q2103 8 = 0 := by rw [eS2104, iN, if_pos rfl]
              have k2241 : sK S2104 q2103 = 3 := by rw [eS2104, kN, if_pos rfl]
              clear k1997 k1998 k1999 k2000 k2001 k2002 k2003 k2004 k2005 k2006 k2007 k2008 k2009 k2010 k2011 k2012 k2013 k2014 k2015 k2016 k2017 k2018 k2019 r2020 r2021 r2022 r2023 r2024 r2025 r2026 r2027 r2028 r2029 r2030 r2031 r2032 r2033 r2034 r2035 r2036 r2037 r2038 r2039 r2040 r2041 r2042 r2102 n2043 n2044 n2045 n2046 n2047 n2048 n2049 n2050 n2051 n2052 n2053 n2054 w2055 w2056 w2057 w2058 w2059 w2060 w2061 w2062 w2063 w2064 w2065 w2066 w2067 w2068 w2069 w2070 w2071 w2072 w2073 w2074 w2075 w2076 w2077 w2078 w2079 w2080 w2081 w2082 w2083 w2084 w2085 w2086 w2087 w2088 w2089 w2090 w2091 w2092 w2093 w2094 w2095 w2096 w2097 w2098 w2099 w2100 w2101
              refine lv_dup hx hb dX8_init_153 rfl ?_
              refine pc_INv (As := []) (rest := [.ref q2103, .ref h]) F (c_X3_init l D cy A S2104 q2103 k2241 w2236 w2237 w2238 w2239 w2240) ⟨va_cnB 0 hts gX8_init_X3_init_n63 rfl rfl rfl hZ.2.2.2.2.2.2.1 (hts (.initialized RX3) (by decide +kernel)) (by decide +kernel) ⟨Nat.le_of_ble_eq_true rfl, Nat.le_of_ble_eq_true rfl⟩, rfl, hts (.instanceMethod yX3_init) (by decide +kernel)⟩ hK hZ hA hW hS rfl hl.1 rfl (Nat.le_of_ble_eq_true rfl) dX8_init_154 ⟨Nat.le_of_ble_eq_true rfl, Nat.le_of_ble_eq_true rfl⟩ (fun T2243 H locs p2244 hW hS => ?_)
              obtain ⟨kxT2243, p2244⟩ := p2244
              have f2245 := kxT2243 h (ni_c d2108 ni_0) (lt16 k2107 (by decide))
              have f2246 : sK T2243 h = 8 := by rw [f2245.1]; exact k2107
              have f2247 : sR T2243 h 0 = some q1 := by rw [f2245.2.2.1]; exact r2153
              have f2248 : sR T2243 h 1 = some q109 := by rw [f2245.2.2.1]; exact r2154
              have f2249 : sR T2243 h 2 = some q313 := by rw [f2245.2.2.1]; exact r2155
              have f2250 : sR T2243 h 3 = some q681 := by rw [f2245.2.2.1]; exact r2156
              have f2251 : sR T2243 h 4 = some q836 := by rw [f2245.2.2.1]; exact r2157
              have f2252 : sR T2243 h 5 = some q1086 := by rw [f2245.2.2.1]; exact r2158
              have f2253 : sR T2243 h 6 = some q1376 := by rw [f2245.2.2.1]; exact r2159
              have f2254 : sR T2243 h 7 = some q1673 := by rw [f2245.2.2.1]; exact r2176
              have f2255 : sI T2243 h 9 = 0 := by rw [f2245.2.1]; exact w2189
              have f2256 : sI T2243 h 10 = 0 := by rw [f2245.2.1]; exact w2190
              have f2257 : sI T2243 h 11 = 0 := by rw [f2245.2.1]; exact w2191
              have f2258 : sI T2243 h 12 = 0 := by rw [f2245.2.1]; exact w2192
              have f2259 : sI T2243 h 13 = 0 := by rw [f2245.2.1]; exact w2193
              have f2260 : sI T2243 h 14 = 0 := by rw [f2245.2.1]; exact w2194
              have f2261 : sI T2243 h 15 = 0 := by rw [f2245.2.1]; exact w2195
              have f2262 : sI T2243 h 16 = 0 := by rw [f2245.2.1]; exact w2196
              have f2263 : sI T2243 h 17 = 0 := by rw [f2245.2.1]; exact w2197
              clear f2245
              have f2264 := kxT2243 q1 (ni_c d2110 ni_0) (lt16 k2109 (by decide))
              have f2265 : sK T2243 q1 = 1 := by rw [f2264.1]; exact k2109
              have f2266 : sR T2243 q1 0 = some z39 := by rw [f2264.2.2.1]; exact r2160
              have f2267 : sR T2243 q1 1 = some z47 := by rw [f2264.2.2.1]; exact r2161
              have f2268 : sI T2243 q1 2 = 0 := by rw [f2264.2.1]; exact w2198
              have f2269 : sI T2243 q1 3 = 300 := by rw [f2264.2.1]; exact w2199
              have f2270 : sI T2243 q1 4 = 0 := by rw [f2264.2.1]; exact w2200
              have f2271 : sI T2243 q1 5 = 0 := by rw [f2264.2.1]; exact w2201
              have f2272 : sI T2243 q1 6 = 0 := by rw [f2264.2.1]; exact w2202
              have f2273 : sI T2243 q1 7 = 0 := by rw [f2264.2.1]; exact w2203
              have f2274 : sI T2243 q1 8 = 0 := by rw [f2264.2.1]; exact w2204
              have f2275 : sI T2243 q1 9 = 0 := by rw [f2264.2.1]; exact w2205
              clear f2264
              have f2276 := kxT2243 z39 (ni_c d2112 ni_0) (lt16 k2111 (by decide))
              have f2277 : sK T2243 z39 = 0 := by rw [f2276.1]; exact k2111
              have f2278 : sR T2243 z39 0 = some z43 := by rw [f2276.2.2.1]; exact r2162
              clear f2276
              have f2279 := kxT2243 z43 (ni_c d2114 ni_0) (lt16 k2113 (by decide))
              have f2280 : sK T2243 z43 = 12 := by rw [f2279.1]; exact k2113
              have f2281 : sL T2243 z43 = 32 := by rw [f2279.2.2.2.2]; exact n2177
              have f2282 : ∀ j, sJ T2243 z43 j = 0 := fun j => by rw [f2279.2.2.2.1]; exact w2228 j 
              clear f2279
              have f2283 := kxT2243 z47 (ni_c d2116 ni_0) (lt16 k2115 (by decide))
              have f2284 : sK T2243 z47 = 0 := by rw [f2283.1]; exact k2115
              have f2285 : sR T2243 z47 0 = some z51 := by rw [f2283.2.2.1]; exact r2163
              clear f2283
              have f2286 := kxT2243 z51 (ni_c d2118 ni_0) (lt16 k2117 (by decide))
              have f2287 : sK T2243 z51 = 12 := by rw [f2286.1]; exact k2117
              have f2288 : sL T2243 z51 = 32 := by rw [f2286.2.2.2.2]; exact n2178
              have f2289 : ∀ j, sJ T2243 z51 j = 0 := fun j => by rw [f2286.2.2.2.1]; exact w2229 j 
              clear f2286
              have f2290 := kxT2243 q109 (ni_c d2120 ni_0) (lt16 k2119 (by decide))
              have f2291 : sK T2243 q109 = 1 := by rw [f2290.1]; exact k2119
              have f2292 : sR T2243 q109 0 = some z201 := by rw [f2290.2.2.1]; exact r2164
              have f2293 : sR T2243 q109 1 = some z219 := by rw [f2290.2.2.1]; exact r2165
              have f2294 : sI T2243 q109 2 = 0 := by rw [f2290.2.1]; exact w2206
              have f2295 : sI T2243 q109 3 = 300 := by rw [f2290.2.1]; exact w2207
              have f2296 : sI T2243 q109 4 = 0 := by rw [f2290.2.1]; exact w2208
              have f2297 : sI T2243 q109 5 = 0 := by rw [f2290.2.1]; exact w2209
              have f2298 : sI T2243 q109 6 = 0 := by rw [f2290.2.1]; exact w2210
              have f2299 : sI T2243 q109 7 = 0 := by rw [f2290.2.1]; exact w2211
              have f2300 : sI T2243 q109 8 = 0 := by rw [f2290.2.1]; exact w2212
              have f2301 : sI T2243 q109 9 = 0 := by rw [f2290.2.1]; exact w2213
              clear f2290
              have f2302 := kxT2243 z201 (ni_c d2122 ni_0) (lt16 k2121 (by decide))
              have f2303 : sK T2243 z201 = 0 := by rw [f2302.1]; exact k2121
              have f2304 : sR T2243 z201 0 = some z210 := by rw [f2302.2.2.1]; exact r2166
              clear f2302
              have f2305 := kxT2243 z210 (ni_c d2124 ni_0) (lt16 k2123 (by decide))
              have f2306 : sK T2243 z210 = 12 := by rw [f2305.1]; exact k2123
              have f2307 : sL T2243 z210 = 32 := by rw [f2305.2.2.2.2]; exact n2179
              have f2308 : ∀ j, sJ T2243 z210 j = 0 := fun j => by rw [f2305.2.2.2.1]; exact w2230 j 
              clear f2305
              have f2309 := kxT2243 z219 (ni_c d2126 ni_0) (lt16 k2125 (by decide))
              have f2310 : sK T2243 z219 = 0 := by rw [f2309.1]; exact k2125
              have f2311 : sR T2243 z219 0 = some z228 := by rw [f2309.2.2.1]; exact r2167
              clear f2309
              have f2312 := kxT2243 z228 (ni_c d2128 ni_0) (lt16 k2127 (by decide))
              have f2313 : sK T2243 z228 = 12 := by rw [f2312.1]; exact k2127
              have f2314 : sL T2243 z228 = 32 := by rw [f2312.2.2.2.2]; exact n2180
              have f2315 : ∀ j, sJ T2243 z228 j = 0 := fun j => by rw [f2312.2.2.2.1]; exact w2231 j 
              clear f2312
              have f2316 := kxT2243 q444 (ni_c d2130 ni_0) (lt16 k2129 (by decide))
              have f2317 : sK T2243 q444 = 4 := by rw [f2316.1]; exact k2129
              have f2318 : sI T2243 q444 0 = 16777215 := by rw [f2316.2.1]; exact w2214
              have f2319 : sI T2243 q444 1 = 127 := by rw [f2316.2.1]; exact w2215
              have f2320 : sI T2243 q444 2 = 15 := by rw [f2316.2.1]; exact w2216
              have f2321 : sI T2243 q444 3 = 168 := by rw [f2316.2.1]; exact w2217
              have f2322 : sI T2243 q444 4 = 100 := by rw [f2316.2.1]; exact w2218
              have f2323 : sI T2243 q444 5 = 50 := by rw [f2316.2.1]; exact w2219
              clear f2316
              have f2324 := kxT2243 q313 (ni_c d2132 ni_0) (lt16 k2131 (by decide))
              have f2325 : sK T2243 q313 = 14 := by rw [f2324.1]; exact k2131
              have f2326 : sL T2243 q313 = 6 := by rw [f2324.2.2.2.2]; exact n2181
              have f2327 : ∀ j, j < 6 → sR T2243 q313 j = some q444 := fun j hj => by rw [f2324.2.2.1]; exact w2232 j hj 
              clear f2324
              have f2328 := kxT2243 q681 (ni_c d2134 ni_0) (lt16 k2133 (by decide))
              have f2329 : sK T2243 q681 = 15 := by rw [f2328.1]; exact k2133
              have f2330 : sL T2243 q681 = 200 := by rw [f2328.2.2.2.2]; exact n2182
              have f2331 : ∀ j, j < 200 → sR T2243 q681 j = none := fun j hj => by rw [f2328.2.2.1]; exact w2233 j hj 
              clear f2328
              have f2332 := kxT2243 q836 (ni_c d2136 ni_0) (lt16 k2135 (by decide))
              have f2333 : sK T2243 q836 = 11 := by rw [f2332.1]; exact k2135
              have f2334 : sL T2243 q836 = 24 := by rw [f2332.2.2.2.2]; exact n2183
              have f2335 : ∀ j, j < 24 → sI T2243 q836 j = 10 := fun j hj => by rw [f2332.2.1]; exact w2234 j hj 
              clear f2332
              have f2336 := kxT2243 q1086 (ni_c d2138 ni_0) (lt16 k2137 (by decide))
              have f2337 : sK T2243 q1086 = 7 := by rw [f2336.1]; exact k2137
              have f2338 : sR T2243 q1086 0 = some z1271 := by rw [f2336.2.2.1]; exact r2168
              have f2339 : sI T2243 q1086 1 = 0 := by rw [f2336.2.1]; exact w2220
              clear f2336
              have f2340 := kxT2243 z1271 (ni_c d2140 ni_0) (lt16 k2139 (by decide))
              have f2341 : sK T2243 z1271 = 10 := by rw [f2340.1]; exact k2139
              have f2342 : sL T2243 z1271 = 80 := by rw [f2340.2.2.2.2]; exact n2184
              have f2343 : ∀ j, j < 80 → sI T2243 z1271 j = 0 := fun j hj => by rw [f2340.2.1]; exact w2235 j hj 
              clear f2340
              have f2344 := kxT2243 q1376 (ni_c d2142 ni_0) (lt16 k2141 (by decide))
              have f2345 : sK T2243 q1376 = 5 := by rw [f2344.1]; exact k2141
              have f2346 : sR T2243 q1376 0 = some q1086 := by rw [f2344.2.2.1]; exact r2169
              have f2347 : sI T2243 q1376 1 = 0 := by rw [f2344.2.1]; exact w2221
              have f2348 : sI T2243 q1376 2 = 0 := by rw [f2344.2.1]; exact w2222
              have f2349 : sI T2243 q1376 3 = 0 := by rw [f2344.2.1]; exact w2223
              clear f2344
              have f2350 := kxT2243 q1673 (ni_c d2144 ni_0) (lt16 k2143 (by decide))
              have f2351 : sK T2243 q1673 = 2 := by rw [f2350.1]; exact k2143
              have f2352 : sR T2243 q1673 0 = some q1 := by rw [f2350.2.2.1]; exact r2170
              have f2353 : sR T2243 q1673 1 = some q109 := by rw [f2350.2.2.1]; exact r2171
              have f2354 : sR T2243 q1673 2 = some z1893 := by rw [f2350.2.2.1]; exact r2172
              have f2355 : sR T2243 q1673 3 = some z1914 := by rw [f2350.2.2.1]; exact r2173
              have f2356 : sR T2243 q1673 4 = some z1935 := by rw [f2350.2.2.1]; exact r2174
              have f2357 : sR T2243 q1673 5 = some z1956 := by rw [f2350.2.2.1]; exact r2175
              have f2358 : sI T2243 q1673 6 = 0 := by rw [f2350.2.1]; exact w2224
              have f2359 : sI T2243 q1673 7 = 0 := by rw [f2350.2.1]; exact w2225
              have f2360 : sI T2243 q1673 8 = 0 := by rw [f2350.2.1]; exact w2226
              have f2361 : sI T2243 q1673 9 = 0 := by rw [f2350.2.1]; exact w2227
              clear f2350
              have f2362 := kxT2243 z1893 (ni_c d2146 ni_0) (lt16 k2145 (by decide))
              have f2363 : sK T2243 z1893 = 15 := by rw [f2362.1]; exact k2145
              have f2364 : sL T2243 z1893 = 5 := by rw [f2362.2.2.2.2]; exact n2185
              clear f2362
              have f2365 := kxT2243 z1914 (ni_c d2148 ni_0) (lt16 k2147 (by decide))
              have f2366 : sK T2243 z1914 = 11 := by rw [f2365.1]; exact k2147
              have f2367 : sL T2243 z1914 = 5 := by rw [f2365.2.2.2.2]; exact n2186
              clear f2365
              have f2368 := kxT2243 z1935 (ni_c d2150 ni_0) (lt16 k2149 (by decide))
              have f2369 : sK T2243 z1935 = 11 := by rw [f2368.1]; exact k2149
              have f2370 : sL T2243 z1935 = 5 := by rw [f2368.2.2.2.2]; exact n2187
              clear f2368
              have f2371 := kxT2243 z1956 (ni_c d2152 ni_0) (lt16 k2151 (by decide))
              have f2372 : sK T2243 z1956 = 11 := by rw [f2371.1]; exact k2151
              have f2373 : sL T2243 z1956 = 6 := by rw [f2371.2.2.2.2]; exact n2188
              clear f2371
              have hX0 := hX
              have hX : Kx [h] S T2243 := hX.tr kxT2243 (q1_ (Or.inl o2106))
              obtain ⟨z2374, hz2374, p2244⟩ := p2244
              have f2375 : Ap h z2374 := ap_k k2107 hz2374 (by decide)
              have f2376 : Ap q1 z2374 := ap_k k2109 hz2374 (by decide)
              have f2377 : Ap z39 z2374 := ap_k k2111 hz2374 (by decide)
              have f2378 : Ap z43 z2374 := ap_k k2113 hz2374 (by decide)
              have f2379 : Ap z47 z2374 := ap_k k2115 hz2374 (by decide)
              have f2380 : Ap z51 z2374 := ap_k k2117 hz2374 (by decide)
              have f2381 : Ap q109 z2374 := ap_k k2119 hz2374 (by decide)
              have f2382 : Ap z201 z2374 := ap_k k2121 hz2374 (by decide)
              have f2383 : Ap z210 z2374 := ap_k k2123 hz2374 (by decide)
              have f2384 : Ap z219 z2374 := ap_k k2125 hz2374 (by decide)
              have f2385 : Ap z228 z2374 := ap_k k2127 hz2374 (by decide)
              have f2386 : Ap q444 z2374 := ap_k k2129 hz2374 (by decide)
              have f2387 : Ap q313 z2374 := ap_k k2131 hz2374 (by decide)
              have f2388 : Ap q681 z2374 := ap_k k2133 hz2374 (by decide)
              have f2389 : Ap q836 z2374 := ap_k k2135 hz2374 (by decide)
              have f2390 : Ap q1086 z2374 := ap_k k2137 hz2374 (by decide)
              have f2391 : Ap z1271 z2374 := ap_k k2139 hz2374 (by decide)
              have f2392 : Ap q1376 z2374 := ap_k k2141 hz2374 (by decide)
              have f2393 : Ap q1673 z2374 := ap_k k2143 hz2374 (by decide)
              have f2394 : Ap z1893 z2374 := ap_k k2145 hz2374 (by decide)
              have f2395 : Ap z1914 z2374 := ap_k k2147 hz2374 (by decide)
              have f2396 : Ap z1935 z2374 := ap_k k2149 hz2374 (by decide)
              have f2397 : Ap z1956 z2374 := ap_k k2151 hz2374 (by decide)
              have f2398 : Ap q2103 z2374 := ap_k k2241 hz2374 (by decide)
              have o2399 : 16 ≤ sK S z2374 := hX0.old hz2374 (ni_c (ap_s f2375) ni_0)
              obtain ⟨z2400, hz2400, p2244⟩ := p2244
              have f2401 : Ap h z2400 := ap_k k2107 hz2400 (by decide)
              have f2402 : Ap q1 z2400 := ap_k k2109 hz2400 (by decide)
              have f2403 : Ap z39 z2400 := ap_k k2111 hz2400 (by decide)
              have f2404 : Ap z43 z2400 := ap_k k2113 hz2400 (by decide)
              have f2405 : Ap z47 z2400 := ap_k k2115 hz2400 (by decide)
              have f2406 : Ap z51 z2400 := ap_k k2117 hz2400 (by decide)
              have f2407 : Ap q109 z2400 := ap_k k2119 hz2400 (by decide)
              have f2408 : Ap z201 z2400 := ap_k k2121 hz2400 (by decide)
              have f2409 : Ap z210 z2400 := ap_k k2123 hz2400 (by decide)
              have f2410 : Ap z219 z2400 := ap_k k2125 hz2400 (by decide)
              have f2411 : Ap z228 z2400 := ap_k k2127 hz2400 (by decide)
              have f2412 : Ap q444 z2400 := ap_k k2129 hz2400 (by decide)
              have f2413 : Ap q313 z2400 := ap_k k2131 hz2400 (by decide)
              have f2414 : Ap q681 z2400 := ap_k k2133 hz2400 (by decide)
              have f2415 : Ap q836 z2400 := ap_k k2135 hz2400 (by decide)
              have f2416 : Ap q1086 z2400 := ap_k k2137 hz2400 (by decide)
              have f2417 : Ap z1271 z2400 := ap_k k2139 hz2400 (by decide)
              have f2418 : Ap q1376 z2400 := ap_k k2141 hz2400 (by decide)
              have f2419 : Ap q1673 z2400 := ap_k k2143 hz2400 (by decide)
              have f2420 : Ap z1893 z2400 := ap_k k2145 hz2400 (by decide)
              have f2421 : Ap z1914 z2400 := ap_k k2147 hz2400 (by decide)
              have f2422 : Ap z1935 z2400 := ap_k k2149 hz2400 (by decide)
              have f2423 : Ap z1956 z2400 := ap_k k2151 hz2400 (by decide)
              have f2424 : Ap q2103 z2400 := ap_k k2241 hz2400 (by decide)
              have o2425 : 16 ≤ sK S z2400 := hX0.old hz2400 (ni_c (ap_s f2401) ni_0)
              obtain ⟨z2426, hz2426, p2244⟩ := p2244
              have f2427 : Ap h z2426 := ap_k k2107 hz2426 (by decide)
              have f2428 : Ap q1 z2426 := ap_k k2109 hz2426 (by decide)
              have f2429 : Ap z39 z2426 := ap_k k2111 hz2426 (by decide)
              have f2430 : Ap z43 z2426 := ap_k k2113 hz2426 (by decide)
              have f2431 : Ap z47 z2426 := ap_k k2115 hz2426 (by decide)
              have f2432 : Ap z51 z2426 := ap_k k2117 hz2426 (by decide)
              have f2433 : Ap q109 z2426 := ap_k k2119 hz2426 (by decide)
              have f2434 : Ap z201 z2426 := ap_k k2121 hz2426 (by decide)
              have f2435 : Ap z210 z2426 := ap_k k2123 hz2426 (by decide)
              have f2436 : Ap z219 z2426 := ap_k k2125 hz2426 (by decide)
              have f2437 : Ap z228 z2426 := ap_k k2127 hz2426 (by decide)
              have f2438 : Ap q444 z2426 := ap_k k2129 hz2426 (by decide)
              have f2439 : Ap q313 z2426 := ap_k k2131 hz2426 (by decide)
              have f2440 : Ap q681 z2426 := ap_k k2133 hz2426 (by decide)
              have f2441 : Ap q836 z2426 := ap_k k2135 hz2426 (by decide)
              have f2442 : Ap q1086 z2426 := ap_k k2137 hz2426 (by decide)
              have f2443 : Ap z1271 z2426 := ap_k k2139 hz2426 (by decide)
              have f2444 : Ap q1376 z2426 := ap_k k2141 hz2426 (by decide)
              have f2445 : Ap q1673 z2426 := ap_k k2143 hz2426 (by decide)
              have f2446 : Ap z1893 z2426 := ap_k k2145 hz2426 (by decide)
              have f2447 : Ap z1914 z2426 := ap_k k2147 hz2426 (by decide)
              have f2448 : Ap z1935 z2426 := ap_k k2149 hz2426 (by decide)
              have f2449 : Ap z1956 z2426 := ap_k k2151 hz2426 (by decide)
              have f2450 : Ap q2103 z2426 := ap_k k2241 hz2426 (by decide)
              have o2451 : 16 ≤ sK S z2426 := hX0.old hz2426 (ni_c (ap_s f2427) ni_0)
              obtain ⟨z2452, hz2452, p2244⟩ := p2244
              have f2453 : Ap h z2452 := ap_k k2107 hz2452 (by decide)
              have f2454 : Ap q1 z2452 := ap_k k2109 hz2452 (by decide)
              have f2455 : Ap z39 z2452 := ap_k k2111 hz2452 (by decide)
              have f2456 : Ap z43 z2452 := ap_k k2113 hz2452 (by decide)
              have f2457 : Ap z47 z2452 := ap_k k2115 hz2452 (by decide)
              have f2458 : Ap z51 z2452 := ap_k k2117 hz2452 (by decide)
              have f2459 : Ap q109 z2452 := ap_k k2119 hz2452 (by decide)
              have f2460 : Ap z201 z2452 := ap_k k2121 hz2452 (by decide)
              have f2461 : Ap z210 z2452 := ap_k k2123 hz2452 (by decide)
              have f2462 : Ap z219 z2452 := ap_k k2125 hz2452 (by decide)
              have f2463 : Ap z228 z2452 := ap_k k2127 hz2452 (by decide)
              have f2464 : Ap q444 z2452 := ap_k k2129 hz2452 (by decide)
              have f2465 : Ap q313 z2452 := ap_k k2131 hz2452 (by decide)
              have f2466 : Ap q681 z2452 := ap_k k2133 hz2452 (by decide)
              have f2467 : Ap q836 z2452 := ap_k k2135 hz2452 (by decide)
              have f2468 : Ap q1086 z2452 := ap_k k2137 hz2452 (by decide)
              have f2469 : Ap z1271 z2452 := ap_k k2139 hz2452 (by decide)
              have f2470 : Ap q1376 z2452 := ap_k k2141 hz2452 (by decide)
              have f2471 : Ap q1673 z2452 := ap_k k2143 hz2452 (by decide)
              have f2472 : Ap z1893 z2452 := ap_k k2145 hz2452 (by decide)
              have f2473 : Ap z1914 z2452 := ap_k k2147 hz2452 (by decide)
              have f2474 : Ap z1935 z2452 := ap_k k2149 hz2452 (by decide)
              have f2475 : Ap z1956 z2452 := ap_k k2151 hz2452 (by decide)
              have f2476 : Ap q2103 z2452 := ap_k k2241 hz2452 (by decide)
              have o2477 : 16 ≤ sK S z2452 := hX0.old hz2452 (ni_c (ap_s f2453) ni_0)
              obtain ⟨y2478, p2244⟩ := p2244
              obtain ⟨y2479, p2244⟩ := p2244
              obtain ⟨y2480, p2244⟩ := p2244
              obtain ⟨y2481, p2244⟩ := p2244
              obtain ⟨y2482, p2244⟩ := p2244
              obtain ⟨y2483, p2244⟩ := p2244
              obtain ⟨y2484, p2244⟩ := p2244
              obtain ⟨y2485, p2244⟩ := p2244
              obtain ⟨y2486, p2244⟩ := p2244
              obtain ⟨y2487, p2244⟩ := p2244
              obtain ⟨y2488, p2244⟩ := p2244
              obtain ⟨y2489, p2244⟩ := p2244
              obtain ⟨y2490, p2244⟩ := p2244
              obtain ⟨y2491, p2244⟩ := p2244
              obtain ⟨y2492, p2244⟩ := p2244
              obtain ⟨y2493, p2244⟩ := p2244
              obtain ⟨y2494, p2244⟩ := p2244
              obtain ⟨y2495, p2244⟩ := p2244
              obtain ⟨y2496, p2244⟩ := p2244
              obtain ⟨y2497, p2244⟩ := p2244
              obtain ⟨y2498, p2244⟩ := p2244
              obtain ⟨y2499, p2244⟩ := p2244
              have y2500 := p2244
              clear k2107 k2109 k2111 k2113 k2115 k2117 k2119 k2121 k2123 k2125 k2127 k2129 k2131 k2133 k2135 k2137 k2139 k2141 k2143 k2145 k2147 k2149 k2151 k2241 r2153 r2154 r2155 r2156 r2157 r2158 r2159 r2160 r2161 r2162 r2163 r2164 r2165 r2166 r2167 r2168 r2169 r2170 r2171 r2172 r2173 r2174 r2175 r2176 n2177 n2178 n2179 n2180 n2181 n2182 n2183 n2184 n2185 n2186 n2187 n2188 w2189 w2190 w2191 w2192 w2193 w2194 w2195 w2196 w2197 w2198 w2199 w2200 w2201 w2202 w2203 w2204 w2205 w2206 w2207 w2208 w2209 w2210 w2211 w2212 w2213 w2214 w2215 w2216 w2217 w2218 w2219 w2220 w2221 w2222 w2223 w2224 w2225 w2226 w2227 w2236 w2237 w2238 w2239 w2240 w2228 w2229 w2230 w2231 w2232 w2233 w2234 w2235
              refine pg_pr (ci := 8) (C := RX8) (T := TX8) (N := 18) hx hb hts wi8 tyX8 tyX8_ok nmX8 hown hK hW hS f2246 (by decide) rfl 8 (by decide) (hts (.fieldLink RX8 64 "IceHall" "planner" "LIceHall$Planner;") (by decide +kernel)) (fun _ h9 => h9) rfl hnm rfl rfl rfl rfl dX8_init_157 (fun H locs hW hS => ?_)
              have hX : Kx [h] S (stR T2243 h 8 (some q2103)) := hX.Rh List.mem_cons_self
              obtain ⟨S2501, eS2501⟩ : ∃ T : St, T = stR T2243 h 8 (some q2103) := ⟨_, rfl⟩
              rw [← eS2501] at hW hX
              have k2502 : sK S2501 h = 8 := by rw [eS2501]; exact f2246
              have k2503 : sK S2501 q1 = 1 := by rw [eS2501]; exact f2265
              have k2504 : sK S2501 z39 = 0 := by rw [eS2501]; exact f2277
              have k2505 : sK S2501 z43 = 12 := by rw [eS2501]; exact f2280
              have k2506 : sK S2501 z47 = 0 := by rw [eS2501]; exact f2284
              have k2507 : sK S2501 z51 = 12 := by rw [eS2501]; exact f2287
              have k2508 : sK S2501 q109 = 1 := by rw [eS2501]; exact f2291
              have k2509 : sK S2501 z201 = 0 := by rw [eS2501]; exact f2303
              have k2510 : sK S2501 z210 = 12 := by rw [eS2501]; exact f2306
              have k2511 : sK S2501 z219 = 0 := by rw [eS2501]; exact f2310
              have k2512 : sK S2501 z228 = 12 := by rw [eS2501]; exact f2313
              have k2513 : sK S2501 q444 = 4 := by rw [eS2501]; exact f2317
              have k2514 : sK S2501 q313 = 14 := by rw [eS2501]; exact f2325
              have k2515 : sK S2501 q681 = 15 := by rw [eS2501]; exact f2329
              have k2516 : sK S2501 q836 = 11 := by rw [eS2501]; exact f2333
              have k2517 : sK S2501 q1086 = 7 := by rw [eS2501]; exact f2337
              have k2518 : sK S2501 z1271 = 10 := by rw [eS2501]; exact f2341
              have k2519 : sK S2501 q1376 = 5 := by rw [eS2501]; exact f2345
              have k2520 : sK S2501 q1673 = 2 := by rw [eS2501]; exact f2351
              have k2521 : sK S2501 z1893 = 15 := by rw [eS2501]; exact f2363
              have k2522 : sK S2501 z1914 = 11 := by rw [eS2501]; exact f2366
              have k2523 : sK S2501 z1935 = 11 := by rw [eS2501]; exact f2369
              have k2524 : sK S2501 z1956 = 11 := by rw [eS2501]; exact f2372
              have k2525 : sK S2501 q2103 = 3 := by rw [eS2501]; exact y2478
              have k2526 : sK S2501 z2374 = 11 := by rw [eS2501]; exact y2480
              have k2527 : sK S2501 z2400 = 11 := by rw [eS2501]; exact y2484
              have k2528 : sK S2501 z2426 = 11 := by rw [eS2501]; exact y2487
              have k2529 : sK S2501 z2452 = 11 := by rw [eS2501]; exact y2490
              have r2530 : sR S2501 h 0 = some q1 := by rw [eS2501, rR, if_pos rfl, if_neg (by decide)]; exact f2247
              have r2531 : sR S2501 h 1 = some q109 := by rw [eS2501, rR, if_pos rfl, if_neg (by decide)]; exact f2248
              have r2532 : sR S2501 h 2 = some q313 := by rw [eS2501, rR, if_pos rfl, if_neg (by decide)]; exact f2249
              have r2533 : sR S2501 h 3 = some q681 := by rw [eS2501, rR, if_pos rfl, if_neg (by decide)]; exact f2250
              have r2534 : sR S2501 h 4 = some q836 := by rw [eS2501, rR, if_pos rfl, if_neg (by decide)]; exact f2251
              have r2535 : sR S2501 h 5 = some q1086 := by rw [eS2501, rR, if_pos rfl, if_neg (by decide)]; exact f2252
              have r2536 : sR S2501 h 6 = some q1376 := by rw [eS2501, rR, if_pos rfl, if_neg (by decide)]; exact f2253
              have r2537 : sR S2501 h 7 = some q1673 := by rw [eS2501, rR, if_pos rfl, if_neg (by decide)]; exact f2254
              have r2538 : sR S2501 q1 0 = some z39 := by rw [eS2501, rR, if_neg (fk_ne k2503 k2502 (by decide))]; exact f2266
              have r2539 : sR S2501 q1 1 = some z47 := by rw [eS2501, rR, if_neg (fk_ne k2503 k2502 (by decide))]; exact f2267
              have r2540 : sR S2501 z39 0 = some z43 := by rw [eS2501, rR, if_neg (fk_ne k2504 k2502 (by decide))]; exact f2278
              have r2541 : sR S2501 z47 0 = some z51 := by rw [eS2501, rR, if_neg (fk_ne k2506 k2502 (by decide))]; exact f2285
              have r2542 : sR S2501 q109 0 = some z201 := by rw [eS2501, rR, if_neg (fk_ne k2508 k2502 (by decide))]; exact f2292
              have r2543 : sR S2501 q109 1 = some z219 := by rw [eS2501, rR, if_neg (fk_ne k2508 k2502 (by decide))]; exact f2293
              have r2544 : sR S2501 z201 0 = some z210 := by rw [eS2501, rR, if_neg (fk_ne k2509 k2502 (by decide))]; exact f2304
              have r2545 : sR S2501 z219 0 = some z228 := by rw [eS2501, rR, if_neg (fk_ne k2511 k2502 (by decide))]; exact f2311
              have r2546 : sR S2501 q1086 0 = some z1271 := by rw [eS2501, rR, if_neg (fk_ne k2517 k2502 (by decide))]; exact f2338
              have r2547 : sR S2501 q1376 0 = some q1086 := by rw [eS2501, rR, if_neg (fk_ne k2519 k2502 (by decide))]; exact f2346
              have r2548 : sR S2501 q1673 0 = some q1 := by rw [eS2501, rR, if_neg (fk_ne k2520 k2502 (by decide))]; exact f2352
              have r2549 : sR S2501 q1673 1 = some q109 := by rw [eS2501, rR, if_neg (fk_ne k2520 k2502 (by decide))]; exact f2353
              have r2550 : sR S2501 q1673 2 = some z1893 := by rw [eS2501, rR, if_neg (fk_ne k2520 k2502 (by decide))]; exact f2354
              have r2551 : sR S2501 q1673 3 = some z1914 := by rw [eS2501, rR, if_neg (fk_ne k2520 k2502 (by decide))]; exact f2355
              have r2552 : sR S2501 q1673 4 = some z1935 := by rw [eS2501, rR, if_neg (fk_ne k2520 k2502 (by decide))]; exact f2356
              have r2553 : sR S2501 q1673 5 = some z1956 := by rw [eS2501, rR, if_neg (fk_ne k2520 k2502 (by decide))]; exact f2357
              have r2554 : sR S2501 q2103 0 = some z2374 := by rw [eS2501, rR, if_neg (fk_ne k2525 k2502 (by decide))]; exact y2479
              have r2555 : sR S2501 q2103 1 = some z2400 := by rw [eS2501, rR, if_neg (fk_ne k2525 k2502 (by decide))]; exact y2483
              have r2556 : sR S2501 q2103 2 = some z2426 := by rw [eS2501, rR, if_neg (fk_ne k2525 k2502 (by decide))]; exact y2486
              have r2557 : sR S2501 q2103 3 = some z2452 := by rw [eS2501, rR, if_neg (fk_ne k2525 k2502 (by decide))]; exact y2489
              have n2558 : sL S2501 z43 = 32 := by rw [eS2501]; exact f2281
              have n2559 : sL S2501 z51 = 32 := by rw [eS2501]; exact f2288
              have n2560 : sL S2501 z210 = 32 := by rw [eS2501]; exact f2307
              have n2561 : sL S2501 z228 = 32 := by rw [eS2501]; exact f2314
              have n2562 : sL S2501 q313 = 6 := by rw [eS2501]; exact f2326
              have n2563 : sL S2501 q681 = 200 := by rw [eS2501]; exact f2330
              have n2564 : sL S2501 q836 = 24 := by rw [eS2501]; exact f2334
              have n2565 : sL S2501 z1271 = 80 := by rw [eS2501]; exact f2342
              have n2566 : sL S2501 z1893 = 5 := by rw [eS2501]; exact f2364
              have n2567 : sL S2501 z1914 = 5 := by rw [eS2501]; exact f2367
              have n2568 : sL S2501 z1935 = 5 := by rw [eS2501]; exact f2370
              have n2569 : sL S2501 z1956 = 6 := by rw [eS2501]; exact f2373
              have n2570 : sL S2501 z2374 = 9 := by rw [eS2501]; exact y2481
              have n2571 : sL S2501 z2400 = 8 := by rw [eS2501]; exact y2485
              have n2572 : sL S2501 z2426 = 225 := by rw [eS2501]; exact y2488
              have n2573 : sL S2501 z2452 = 8 := by rw [eS2501]; exact y2491
              have w2574 : sI S2501 h 9 = 0 := by rw [eS2501]; exact f2255
              have w2575 : sI S2501 h 10 = 0 := by rw [eS2501]; exact f2256
              have w2576 : sI S2501 h 11 = 0 := by rw [eS2501]; exact f2257
              have w2577 : sI S2501 h 12 = 0 := by rw [eS2501]; exact f2258
              have w2578 : sI S2501 h 13 = 0 := by rw [eS2501]; exact f2259
              have w2579 : sI S2501 h 14 = 0 := by rw [eS2501]; exact f2260
              have w2580 : sI S2501 h 15 = 0 := by rw [eS2501]; exact f2261
              have w2581 : sI S2501 h 16 = 0 := by rw [eS2501]; exact f2262
              have w2582 : sI S2501 h 17 = 0 := by rw [eS2501]; exact f2263
              have w2583 : sI S2501 q1 2 = 0 := by rw [eS2501]; exact f2268
              have w2584 : sI S2501 q1 3 = 300 := by rw [eS2501]; exact f2269
              have w2585 : sI S2501 q1 4 = 0 := by rw [eS2501]; exact f2270
              have w2586 : sI S2501 q1 5 = 0 := by rw [eS2501]; exact f2271
              have w2587 : sI S2501 q1 6 = 0 := by rw [eS2501]; exact f2272
              have w2588 : sI S2501 q1 7 = 0 := by rw [eS2501]; exact f2273
              have w2589 : sI S2501 q1 8 = 0 := by rw [eS2501]; exact f2274
              have w2590 : sI S2501 q1 9 = 0 := by rw [eS2501]; exact f2275
              have w2591 : sI S2501 q109 2 = 0 := by rw [eS2501]; exact f2294
              have w2592 : sI S2501 q109 3 = 300 := by rw [eS2501]; exact f2295
              have w2593 : sI S2501 q109 4 = 0 := by rw [eS2501]; exact f2296
              have w2594 : sI S2501 q109 5 = 0 := by rw [eS2501]; exact f2297
              have w2595 : sI S2501 q109 6 = 0 := by rw [eS2501]; exact f2298
              have w2596 : sI S2501 q109 7 = 0 := by rw [eS2501]; exact f2299
              have w2597 : sI S2501 q109 8 = 0 := by rw [eS2501]; exact f2300
              have w2598 : sI S2501 q109 9 = 0 := by rw [eS2501]; exact f2301
              have w2599 : sI S2501 q444 0 = 16777215 := by rw [eS2501]; exact f2318
              have w2600 : sI S2501 q444 1 = 127 := by rw [eS2501]; exact f2319
              have w2601 : sI S2501 q444 2 = 15 := by rw [eS2501]; exact f2320
              have w2602 : sI S2501 q444 3 = 168 := by rw [eS2501]; exact f2321
              have w2603 : sI S2501 q444 4 = 100 := by rw [eS2501]; exact f2322
              have w2604 : sI S2501 q444 5 = 50 := by rw [eS2501]; exact f2323
              have w2605 : sI S2501 q1086 1 = 0 := by rw [eS2501]; exact f2339
              have w2606 : sI S2501 q1376 1 = 0 := by rw [eS2501]; exact f2347
              have w2607 : sI S2501 q1376 2 = 0 := by rw [eS2501]; exact f2348
              have w2608 : sI S2501 q1376 3 = 0 := by rw [eS2501]; exact f2349
              have w2609 : sI S2501 q1673 6 = 0 := by rw [eS2501]; exact f2358
              have w2610 : sI S2501 q1673 7 = 0 := by rw [eS2501]; exact f2359
              have w2611 : sI S2501 q1673 8 = 0 := by rw [eS2501]; exact f2360
              have w2612 : sI S2501 q1673 9 = 0 := by rw [eS2501]; exact f2361
              have w2613 : sI S2501 q2103 4 = 0 := by rw [eS2501]; exact y2492
              have w2614 : sI S2501 q2103 5 = 0 := by rw [eS2501]; exact y2493
              have w2615 : sI S2501 q2103 6 = 0 := by rw [eS2501]; exact y2494
              have w2616 : sI S2501 q2103 7 = 0 := by rw [eS2501]; exact y2495
              have w2617 : sI S2501 q2103 8 = 0 := by rw [eS2501]; exact y2496
              have w2618 : ∀ j, sJ S2501 z43 j = 0 := fun j => by rw [eS2501]; exact f2282 j 
              have w2619 : ∀ j, sJ S2501 z51 j = 0 := fun j => by rw [eS2501]; exact f2289 j 
              have w2620 : ∀ j, sJ S2501 z210 j = 0 := fun j => by rw [eS2501]; exact f2308 j 
              have w2621 : ∀ j, sJ S2501 z228 j = 0 := fun j => by rw [eS2501]; exact f2315 j 
              have w2622 : ∀ j, j < 6 → sR S2501 q313 j = some q444 := fun j hj => by rw [eS2501, rR, if_neg (fk_ne k2514 k2502 (by decide))]; exact f2327 j hj 
              have w2623 : ∀ j, j < 200 → sR S2501 q681 j = none := fun j hj => by rw [eS2501, rR, if_neg (fk_ne k2515 k2502 (by decide))]; exact f2331 j hj 
              have w2624 : ∀ j, j < 24 → sI S2501 q836 j = 10 := fun j hj => by rw [eS2501]; exact f2335 j hj 
              have w2625 : ∀ j, j < 80 → sI S2501 z1271 j = 0 := fun j hj => by rw [eS2501]; exact f2343 j hj 
              have w2626 : ∀ j, j < 9 → sI S2501 z2374 j = 0 := fun j hj => by rw [eS2501]; exact y2482 j hj 
              have r2627 : sR S2501 h 8 = some q2103 := by rw [eS2501, rR, if_pos rfl, if_pos rfl]
              clear f2246 f2265 f2277 f2280 f2284 f2287 f2291 f2303 f2306 f2310 f2313 f2317 f2325 f2329 f2333 f2337 f2341 f2345 f2351 f2363 f2366 f2369 f2372 y2478 y2480 y2484 y2487 y2490 f2247 f2248 f2249 f2250 f2251 f2252 f2253 f2254 f2266 f2267 f2278 f2285 f2292 f2293 f2304 f2311 f2338 f2346 f2352 f2353 f2354 f2355 f2356 f2357 y2479 y2483 y2486 y2489 f2281 f2288 f2307 f2314 f2326 f2330 f2334 f2342 f2364 f2367 f2370 f2373 y2481 y2485 y2488 y2491 f2255 f2256 f2257 f2258 f2259 f2260 f2261 f2262 f2263 f2268 f2269 f2270 f2271 f2272 f2273 f2274 f2275 f2294 f2295 f2296 f2297 f2298 f2299 f2300 f2301 f2318 f2319 f2320 f2321 f2322 f2323 f2339 f2347 f2348 f2349 f2358 f2359 f2360 f2361 y2492 y2493 y2494 y2495 y2496 f2282 f2289 f2308 f2315 f2327 f2331 f2335 f2343 y2482
              refine lv_aload_n hx hb dX8_init_160 rfl (lv_at hl 0 rfl) ?_
              refine lv_sipush (v := 200) hx hb dX8_init_161 (by decide) ?_
              refine pg_pi (ci := 8) (C := RX8) (T := TX8) (N := 18) hx hb hts wi8 tyX8 tyX8_ok nmX8 hown hK hW hS k2502 (by decide) rfl 11 (by decide) (hts (.fieldLink RX8 68 "IceHall" "store" "I") (by decide +kernel)) (fun _ h9 => h9) rfl rfl rfl dX8_init_164 (fun H locs hW hS => ?_)
              have hX : Kx [h] S (stI S2501 h 11 200) := hX.Ih List.mem_cons_self
              have w2628 : sI (stI S2501 h 11 200) h 9 = 0 := (iI_k (by decide)).trans w2574
              have w2629 : sI (stI S2501 h 11 200) h 10 = 0 := (iI_k (by decide)).trans w2575
              have w2630 : sI (stI S2501 h 11 200) h 12 = 0 := (iI_k (by decide)).trans w2577
              have w2631 : sI (stI S2501 h 11 200) h 13 = 0 := (iI_k (by decide)).trans w2578
              have w2632 : sI (stI S2501 h 11 200) h 14 = 0 := (iI_k (by decide)).trans w2579
              have w2633 : sI (stI S2501 h 11 200) h 15 = 0 := (iI_k (by decide)).trans w2580
              have w2634 : sI (stI S2501 h 11 200) h 16 = 0 := (iI_k (by decide)).trans w2581
              have w2635 : sI (stI S2501 h 11 200) h 17 = 0 := (iI_k (by decide)).trans w2582
              have w2636 : sI (stI S2501 h 11 200) q1 2 = 0 := (iI_k (by decide)).trans w2583
              have w2637 : sI (stI S2501 h 11 200) q1 3 = 300 := (iI_k (by decide)).trans w2584
              have w2638 : sI (stI S2501 h 11 200) q1 4 = 0 := (iI_k (by decide)).trans w2585
              have w2639 : sI (stI S2501 h 11 200) q1 5 = 0 := (iI_k (by decide)).trans w2586
              have w2640 : sI (stI S2501 h 11 200) q1 6 = 0 := (iI_k (by decide)).trans w2587
              have w2641 : sI (stI S2501 h 11 200) q1 7 = 0 := (iI_k (by decide)).trans w2588
              have w2642 : sI (stI S2501 h 11 200) q1 8 = 0 := (iI_k (by decide)).trans w2589
              have w2643 : sI (stI S2501 h 11 200) q1 9 = 0 := (iI_k (by decide)).trans w2590
              have w2644 : sI (stI S2501 h 11 200) q109 2 = 0 := (iI_k (by decide)).trans w2591
              have w2645 : sI (stI S2501 h 11 200) q109 3 = 300 := (iI_k (by decide)).trans w2592
              have w2646 : sI (stI S2501 h 11 200) q109 4 = 0 := (iI_k (by decide)).trans w2593
              have w2647 : sI (stI S2501 h 11 200) q109 5 = 0 := (iI_k (by decide)).trans w2594
              have w2648 : sI (stI S2501 h 11 200) q109 6 = 0 := (iI_k (by decide)).trans w2595
              have w2649 : sI (stI S2501 h 11 200) q109 7 = 0 := (iI_k (by decide)).trans w2596
              have w2650 : sI (stI S2501 h 11 200) q109 8 = 0 := (iI_k (by decide)).trans w2597
              have w2651 : sI (stI S2501 h 11 200) q109 9 = 0 := (iI_k (by decide)).trans w2598
              have w2652 : sI (stI S2501 h 11 200) q444 0 = 16777215 := (iI_k (by decide)).trans w2599
              have w2653 : sI (stI S2501 h 11 200) q444 1 = 127 := (iI_k (by decide)).trans w2600
              have w2654 : sI (stI S2501 h 11 200) q444 2 = 15 := (iI_k (by decide)).trans w2601
              have w2655 : sI (stI S2501 h 11 200) q444 3 = 168 := (iI_k (by decide)).trans w2602
              have w2656 : sI (stI S2501 h 11 200) q444 4 = 100 := (iI_k (by decide)).trans w2603
              have w2657 : sI (stI S2501 h 11 200) q444 5 = 50 := (iI_k (by decide)).trans w2604
              have w2658 : sI (stI S2501 h 11 200) q1086 1 = 0 := (iI_k (by decide)).trans w2605
              have w2659 : sI (stI S2501 h 11 200) q1376 1 = 0 := (iI_k (by decide)).trans w2606
              have w2660 : sI (stI S2501 h 11 200) q1376 2 = 0 := (iI_k (by decide)).trans w2607
              have w2661 : sI (stI S2501 h 11 200) q1376 3 = 0 := (iI_k (by decide)).trans w2608
              have w2662 : sI (stI S2501 h 11 200) q1673 6 = 0 := (iI_k (by decide)).trans w2609
              have w2663 : sI (stI S2501 h 11 200) q1673 7 = 0 := (iI_k (by decide)).trans w2610
              have w2664 : sI (stI S2501 h 11 200) q1673 8 = 0 := (iI_k (by decide)).trans w2611
              have w2665 : sI (stI S2501 h 11 200) q1673 9 = 0 := (iI_k (by decide)).trans w2612
              have w2666 : sI (stI S2501 h 11 200) q2103 4 = 0 := (iI_k (by decide)).trans w2613
              have w2667 : sI (stI S2501 h 11 200) q2103 5 = 0 := (iI_k (by decide)).trans w2614
              have w2668 : sI (stI S2501 h 11 200) q2103 6 = 0 := (iI_k (by decide)).trans w2615
              have w2669 : sI (stI S2501 h 11 200) q2103 7 = 0 := (iI_k (by decide)).trans w2616
              have w2670 : sI (stI S2501 h 11 200) q2103 8 = 0 := (iI_k (by decide)).trans w2617
              have w2671 : sI (stI S2501 h 11 200) h 11 = 200 := iI_s
              have w2672 : ∀ j, j < 24 → sI (stI S2501 h 11 200) q836 j = 10 := fun j hj => (iI_a (fk_ne k2516 k2502 (by decide))).trans (w2624 j hj)
              have w2673 : ∀ j, j < 80 → sI (stI S2501 h 11 200) z1271 j = 0 := fun j hj => (iI_a (fk_ne k2518 k2502 (by decide))).trans (w2625 j hj)
              have w2674 : ∀ j, j < 9 → sI (stI S2501 h 11 200) z2374 j = 0 := fun j hj => (iI_a (fk_ne k2526 k2502 (by decide))).trans (w2626 j hj)
              clear w2574 w2575 w2576 w2577 w2578 w2579 w2580 w2581 w2582 w2583 w2584 w2585 w2586 w2587 w2588 w2589 w2590 w2591 w2592 w2593 w2594 w2595 w2596 w2597 w2598 w2599 w2600 w2601 w2602 w2603 w2604 w2605 w2606 w2607 w2608 w2609 w2610 w2611 w2612 w2613 w2614 w2615 w2616 w2617 w2624 w2625 w2626
              refine lv_aload_n hx hb dX8_init_167 rfl (lv_at hl 0 rfl) ?_
              refine lv_sipush (v := 400) hx hb dX8_init_168 (by decide) ?_
              refine pg_pi (ci := 8) (C := RX8) (T := TX8) (N := 18) hx hb hts wi8 tyX8 tyX8_ok nmX8 hown hK hW hS k2502 (by decide) rfl 12 (by decide) (hts (.fieldLink RX8 72 "IceHall" "storeMost" "I") (by decide +kernel)) (fun _ h9 => h9) rfl rfl rfl dX8_init_171 (fun H locs hW hS => ?_)
              have hX : Kx [h] S (stI (stI S2501 h 11 200) h 12 400) := hX.Ih List.mem_cons_self
              have w2675 : sI (stI (stI S2501 h 11 200) h 12 400) h 9 = 0 := (iI_k (by decide)).trans w2628
              have w2676 : sI (stI (stI S2501 h 11 200) h 12 400) h 10 = 0 := (iI_k (by decide)).trans w2629
              have w2677 : sI (stI (stI S2501 h 11 200) h 12 400) h 13 = 0 := (iI_k (by decide)).trans w2631
              have w2678 : sI (stI (stI S2501 h 11 200) h 12 400) h 14 = 0 := (iI_k (by decide)).trans w2632
              have w2679 : sI (stI (stI S2501 h 11 200) h 12 400) h 15 = 0 := (iI_k (by decide)).trans w2633
              have w2680 : sI (stI (stI S2501 h 11 200) h 12 400) h 16 = 0 := (iI_k (by decide)).trans w2634
              have w2681 : sI (stI (stI S2501 h 11 200) h 12 400) h 17 = 0 := (iI_k (by decide)).trans w2635
              have w2682 : sI (stI (stI S2501 h 11 200) h 12 400) q1 2 = 0 := (iI_k (by decide)).trans w2636
              have w2683 : sI (stI (stI S2501 h 11 200) h 12 400) q1 3 = 300 := (iI_k (by decide)).trans w2637
              have w2684 : sI (stI (stI S2501 h 11 200) h 12 400) q1 4 = 0 := (iI_k (by decide)).trans w2638
              have w2685 : sI (stI (stI S2501 h 11 200) h 12 400) q1 5 = 0 := (iI_k (by decide)).trans w2639
              have w2686 : sI (stI (stI S2501 h 11 200) h 12 400) q1 6 = 0 := (iI_k (by decide)).trans w2640
              have w2687 : sI (stI (stI S2501 h 11 200) h 12 400) q1 7 = 0 := (iI_k (by decide)).trans w2641
              have w2688 : sI (stI (stI S2501 h 11 200) h 12 400) q1 8 = 0 := (iI_k (by decide)).trans w2642
              have w2689 : sI (stI (stI S2501 h 11 200) h 12 400) q1 9 = 0 := (iI_k (by decide)).trans w2643
              have w2690 : sI (stI (stI S2501 h 11 200) h 12 400) q109 2 = 0 := (iI_k (by decide)).trans w2644
              have w2691 : sI (stI (stI S2501 h 11 200) h 12 400) q109 3 = 300 := (iI_k (by decide)).trans w2645
              have w2692 : sI (stI (stI S2501 h 11 200) h 12 400) q109 4 = 0 := (iI_k (by decide)).trans w2646
              have w2693 : sI (stI (stI S2501 h 11 200) h 12 400) q109 5 = 0 := (iI_k (by decide)).trans w2647
              have w2694 : sI (stI (stI S2501 h 11 200) h 12 400) q109 6 = 0 := (iI_k (by decide)).trans w2648
              have w2695 : sI (stI (stI S2501 h 11 200) h 12 400) q109 7 = 0 := (iI_k (by decide)).trans w2649
              have w2696 : sI (stI (stI S2501 h 11 200) h 12 400) q109 8 = 0 := (iI_k (by decide)).trans w2650
              have w2697 : sI (stI (stI S2501 h 11 200) h 12 400) q109 9 = 0 := (iI_k (by decide)).trans w2651
              have w2698 : sI (stI (stI S2501 h 11 200) h 12 400) q444 0 = 16777215 := (iI_k (by decide)).trans w2652
              have w2699 : sI (stI (stI S2501 h 11 200) h 12 400) q444 1 = 127 := (iI_k (by decide)).trans w2653
              have w2700 : sI (stI (stI S2501 h 11 200) h 12 400) q444 2 = 15 := (iI_k (by decide)).trans w2654
              have w2701 : sI (stI (stI S2501 h 11 200) h 12 400) q444 3 = 168 := (iI_k (by decide)).trans w2655
              have w2702 : sI (stI (stI S2501 h 11 200) h 12 400) q444 4 = 100 := (iI_k (by decide)).trans w2656
              have w2703 : sI (stI (stI S2501 h 11 200) h 12 400) q444 5 = 50 := (iI_k (by decide)).trans w2657
              have w2704 : sI (stI (stI S2501 h 11 200) h 12 400) q1086 1 = 0 := (iI_k (by decide)).trans w2658
              have w2705 : sI (stI (stI S2501 h 11 200) h 12 400) q1376 1 = 0 := (iI_k (by decide)).trans w2659
              have w2706 : sI (stI (stI S2501 h 11 200) h 12 400) q1376 2 = 0 := (iI_k (by decide)).trans w2660
              have w2707 : sI (stI (stI S2501 h 11 200) h 12 400) q1376 3 = 0 := (iI_k (by decide)).trans w2661
              have w2708 : sI (stI (stI S2501 h 11 200) h 12 400) q1673 6 = 0 := (iI_k (by decide)).trans w2662
              have w2709 : sI (stI (stI S2501 h 11 200) h 12 400) q1673 7 = 0 := (iI_k (by decide)).trans w2663
              have w2710 : sI (stI (stI S2501 h 11 200) h 12 400) q1673 8 = 0 := (iI_k (by decide)).trans w2664
              have w2711 : sI (stI (stI S2501 h 11 200) h 12 400) q1673 9 = 0 := (iI_k (by decide)).trans w2665
              have w2712 : sI (stI (stI S2501 h 11 200) h 12 400) q2103 4 = 0 := (iI_k (by decide)).trans w2666
              have w2713 : sI (stI (stI S2501 h 11 200) h 12 400) q2103 5 = 0 := (iI_k (by decide)).trans w2667
              have w2714 : sI (stI (stI S2501 h 11 200) h 12 400) q2103 6 = 0 := (iI_k (by decide)).trans w2668
              have w2715 : sI (stI (stI S2501 h 11 200) h 12 400) q2103 7 = 0 := (iI_k (by decide)).trans w2669
              have w2716 : sI (stI (stI S2501 h 11 200) h 12 400) q2103 8 = 0 := (iI_k (by decide)).trans w2670
              have w2717 : sI (stI (stI S2501 h 11 200) h 12 400) h 11 = 200 := (iI_k (by decide)).trans w2671
              have w2718 : sI (stI (stI S2501 h 11 200) h 12 400) h 12 = 400 := iI_s
              have w2719 : ∀ j, j < 24 → sI (stI (stI S2501 h 11 200) h 12 400) q836 j = 10 := fun j hj => (iI_a (fk_ne k2516 k2502 (by decide))).trans (w2672 j hj)
              have w2720 : ∀ j, j < 80 → sI (stI (stI S2501 h 11 200) h 12 400) z1271 j = 0 := fun j hj => (iI_a (fk_ne k2518 k2502 (by decide))).trans (w2673 j hj)
              have w2721 : ∀ j, j < 9 → sI (stI (stI S2501 h 11 200) h 12 400) z2374 j = 0 := fun j hj => (iI_a (fk_ne k2526 k2502 (by decide))).trans (w2674 j hj)
              clear w2628 w2629 w2630 w2631 w2632 w2633 w2634 w2635 w2636 w2637 w2638 w2639 w2640 w2641 w2642 w2643 w2644 w2645 w2646 w2647 w2648 w2649 w2650 w2651 w2652 w2653 w2654 w2655 w2656 w2657 w2658 w2659 w2660 w2661 w2662 w2663 w2664 w2665 w2666 w2667 w2668 w2669 w2670 w2671 w2672 w2673 w2674
              refine lv_aload_n hx hb dX8_init_174 rfl (lv_at hl 0 rfl) ?_
              refine lv_iconst (v := 3) hx hb dX8_init_175 (by decide) ?_
              refine pg_pi (ci := 8) (C := RX8) (T := TX8) (N := 18) hx hb hts wi8 tyX8 tyX8_ok nmX8 hown hK hW hS k2502 (by decide) rfl 13 (by decide) (hts (.fieldLink RX8 75 "IceHall" "working" "I") (by decide +kernel)) (fun _ h9 => h9) rfl rfl rfl dX8_init_176 (fun H locs hW hS => ?_)
              have hX : Kx [h] S (stI (stI (stI S2501 h 11 200) h 12 400) h 13 3) := hX.Ih List.mem_cons_self
              have w2722 : sI (stI (stI (stI S2501 h 11 200) h 12 400) h 13 3) h 9 = 0 := (iI_k (by decide)).trans w2675
              have w2723 : sI (stI (stI (stI S2501 h 11 200) h 12 400) h 13 3) h 10 = 0 := (iI_k (by decide)).trans w2676
              have w2724 : sI (stI (stI (stI S2501 h 11 200) h 12 400) h 13 3) h 14 = 0 := (iI_k (by decide)).trans w2678
              have w2725 : sI (stI (stI (stI S2501 h 11 200) h 12 400) h 13 3) h 15 = 0 := (iI_k (by decide)).trans w2679
              have w2726 : sI (stI (stI (stI S2501 h 11 200) h 12 400) h 13 3) h 16 = 0 := (iI_k (by decide)).trans w2680
              have w2727 : sI (stI (stI (stI S2501 h 11 200) h 12 400) h 13 3) h 17 = 0 := (iI_k (by decide)).trans w2681
              have w2728 : sI (stI (stI (stI S2501 h 11 200) h 12 400) h 13 3) q1 2 = 0 := (iI_k (by decide)).trans w2682
              have w2729 : sI (stI (stI (stI S2501 h 11 200) h 12 400) h 13 3) q1 3 = 300 := (iI_k (by decide)).trans w2683
              have w2730 : sI (stI (stI (stI S2501 h 11 200) h 12 400) h 13 3) q1 4 = 0 := (iI_k (by decide)).trans w2684
              have w2731 : sI (stI (stI (stI S2501 h 11 200) h 12 400) h 13 3) q1 5 = 0 := (iI_k (by decide)).trans w2685
              have w2732 : sI (stI (stI (stI S2501 h 11 200) h 12 400) h 13 3) q1 6 = 0 := (iI_k (by decide)).trans w2686
              have w2733 : sI (stI (stI (stI S2501 h 11 200) h 12 400) h 13 3) q1 7 = 0 := (iI_k (by decide)).trans w2687
              have w2734 : sI (stI (stI (stI S2501 h 11 200) h 12 400) h 13 3) q1 8 = 0 := (iI_k (by decide)).trans w2688
              have w2735 : sI (stI (stI (stI S2501 h 11 200) h 12 400) h 13 3) q1 9 = 0 := (iI_k (by decide)).trans w2689
              have w2736 : sI (stI (stI (stI S2501 h 11 200) h 12 400) h 13 3) q109 2 = 0 := (iI_k (by decide)).trans w2690
              have w2737 : sI (stI (stI (stI S2501 h 11 200) h 12 400) h 13 3) q109 3 = 300 := (iI_k (by decide)).trans w2691
              have w2738 : sI (stI (stI (stI S2501 h 11 200) h 12 400) h 13 3) q109 4 = 0 := (iI_k (by decide)).trans w2692
              have w2739 : sI (stI (stI (stI S2501 h 11 200) h 12 400) h 13 3) q109 5 = 0 := (iI_k (by decide)).trans w2693
              have w2740 : sI (stI (stI (stI S2501 h 11 200) h 12 400) h 13 3) q109 6 = 0 := (iI_k (by decide)).trans w2694
              have w2741 : sI (stI (stI (stI S2501 h 11 200) h 12 400) h 13 3) q109 7 = 0 := (iI_k (by decide)).trans w2695
              have w2742 : sI (stI (stI (stI S2501 h 11 200) h 12 400) h 13 3) q109 8 = 0 := (iI_k (by decide)).trans w2696
              have w2743 : sI (stI (stI (stI S2501 h 11 200) h 12 400) h 13 3) q109 9 = 0 := (iI_k (by decide)).trans w2697
              have w2744 : sI (stI (stI (stI S2501 h 11 200) h 12 400) h 13 3) q444 0 = 16777215 := (iI_k (by decide)).trans w2698
              have w2745 : sI (stI (stI (stI S2501 h 11 200) h 12 400) h 13 3) q444 1 = 127 := (iI_k (by decide)).trans w2699
              have w2746 : sI (stI (stI (stI S2501 h 11 200) h 12 400) h 13 3) q444 2 = 15 := (iI_k (by decide)).trans w2700
              have w2747 : sI (stI (stI (stI S2501 h 11 200) h 12 400) h 13 3) q444 3 = 168 := (iI_k (by decide)).trans w2701
              have w2748 : sI (stI (stI (stI S2501 h 11 200) h 12 400) h 13 3) q444 4 = 100 := (iI_k (by decide)).trans w2702
              have w2749 : sI (stI (stI (stI S2501 h 11 200) h 12 400) h 13 3) q444 5 = 50 := (iI_k (by decide)).trans w2703
              have w2750 : sI (stI (stI (stI S2501 h 11 200) h 12 400) h 13 3) q1086 1 = 0 := (iI_k (by decide)).trans w2704
              have w2751 : sI (stI (stI (stI S2501 h 11 200) h 12 400) h 13 3) q1376 1 = 0 := (iI_k (by decide)).trans w2705
              have w2752 : sI (stI (stI (stI S2501 h 11 200) h 12 400) h 13 3) q1376 2 = 0 := (iI_k (by decide)).trans w2706
              have w2753 : sI (stI (stI (stI S2501 h 11 200) h 12 400) h 13 3) q1376 3 = 0 := (iI_k (by decide)).trans w2707
              have w2754 : sI (stI (stI (stI S2501 h 11 200) h 12 400) h 13 3) q1673 6 = 0 := (iI_k (by decide)).trans w2708
              have w2755 : sI (stI (stI (stI S2501 h 11 200) h 12 400) h 13 3) q1673 7 = 0 := (iI_k (by decide)).trans w2709
              have w2756 : sI (stI (stI (stI S2501 h 11 200) h 12 400) h 13 3) q1673 8 = 0 := (iI_k (by decide)).trans w2710
              have w2757 : sI (stI (stI (stI S2501 h 11 200) h 12 400) h 13 3) q1673 9 = 0 := (iI_k (by decide)).trans w2711
              have w2758 : sI (stI (stI (stI S2501 h 11 200) h 12 400) h 13 3) q2103 4 = 0 := (iI_k (by decide)).trans w2712
              have w2759 : sI (stI (stI (stI S2501 h 11 200) h 12 400) h 13 3) q2103 5 = 0 := (iI_k (by decide)).trans w2713
              have w2760 : sI (stI (stI (stI S2501 h 11 200) h 12 400) h 13 3) q2103 6 = 0 := (iI_k (by decide)).trans w2714
              have w2761 : sI (stI (stI (stI S2501 h 11 200) h 12 400) h 13 3) q2103 7 = 0 := (iI_k (by decide)).trans w2715
              have w2762 : sI (stI (stI (stI S2501 h 11 200) h 12 400) h 13 3) q2103 8 = 0 := (iI_k (by decide)).trans w2716
              have w2763 : sI (stI (stI (stI S2501 h 11 200) h 12 400) h 13 3) h 11 = 200 := (iI_k (by decide)).trans w2717
              have w2764 : sI (stI (stI (stI S2501 h 11 200) h 12 400) h 13 3) h 12 = 400 := (iI_k (by decide)).trans w2718
              have w2765 : sI (stI (stI (stI S2501 h 11 200) h 12 400) h 13 3) h 13 = 3 := iI_s
              have w2766 : ∀ j, j < 24 → sI (stI (stI (stI S2501 h 11 200) h 12 400) h 13 3) q836 j = 10 := fun j hj => (iI_a (fk_ne k2516 k2502 (by decide))).trans (w2719 j hj)
              have w2767 : ∀ j, j < 80 → sI (stI (stI (stI S2501 h 11 200) h 12 400) h 13 3) z1271 j = 0 := fun j hj => (iI_a (fk_ne k2518 k2502 (by decide))).trans (w2720 j hj)
              have w2768 : ∀ j, j < 9 → sI (stI (stI (stI S2501 h 11 200) h 12 400) h 13 3) z2374 j = 0 := fun j hj => (iI_a (fk_ne k2526 k2502 (by decide))).trans (w2721 j hj)
              clear w2675 w2676 w2677 w2678 w2679 w2680 w2681 w2682 w2683 w2684 w2685 w2686 w2687 w2688 w2689 w2690 w2691 w2692 w2693 w2694 w2695 w2696 w2697 w2698 w2699 w2700 w2701 w2702 w2703 w2704 w2705 w2706 w2707 w2708 w2709 w2710 w2711 w2712 w2713 w2714 w2715 w2716 w2717 w2718 w2719 w2720 w2721
              refine lv_aload_n hx hb dX8_init_179 rfl (lv_at hl 0 rfl) ?_
              refine lv_iconst (v := 2) hx hb dX8_init_180 (by decide) ?_
              refine pg_pi (ci := 8) (C := RX8) (T := TX8) (N := 18) hx hb hts wi8 tyX8 tyX8_ok nmX8 hown hK hW hS k2502 (by decide) rfl 14 (by decide) (hts (.fieldLink RX8 78 "IceHall" "restMost" "I") (by decide +kernel)) (fun _ h9 => h9) rfl rfl rfl dX8_init_181 (fun H locs hW hS => ?_)
              have hX : Kx [h] S (stI (stI (stI (stI S2501 h 11 200) h 12 400) h 13 3) h 14 2) := hX.Ih List.mem_cons_self
              have w2769 : sI (stI (stI (stI (stI S2501 h 11 200) h 12 400) h 13 3) h 14 2) h 9 = 0 := (iI_k (by decide)).trans w2722
              have w2770 : sI (stI (stI (stI (stI S2501 h 11 200) h 12 400) h 13 3) h 14 2) h 10 = 0 := (iI_k (by decide)).trans w2723
              have w2771 : sI (stI (stI (stI (stI S2501 h 11 200) h 12 400) h 13 3) h 14 2) h 15 = 0 := (iI_k (by decide)).trans w2725
              have w2772 : sI (stI (stI (stI (stI S2501 h 11 200) h 12 400) h 13 3) h 14 2) h 16 = 0 := (iI_k (by decide)).trans w2726
              have w2773 : sI (stI (stI (stI (stI S2501 h 11 200) h 12 400) h 13 3) h 14 2) h 17 = 0 := (iI_k (by decide)).trans w2727
              have w2774 : sI (stI (stI (stI (stI S2501 h 11 200) h 12 400) h 13 3) h 14 2) q1 2 = 0 := (iI_k (by decide)).trans w2728
              have w2775 : sI (stI (stI (stI (stI S2501 h 11 200) h 12 400) h 13 3) h 14 2) q1 3 = 300 := (iI_k (by decide)).trans w2729
              have w2776 : sI (stI (stI (stI (stI S2501 h 11 200) h 12 400) h 13 3) h 14 2) q1 4 = 0 := (iI_k (by decide)).trans w2730
              have w2777 : sI (stI (stI (stI (stI S2501 h 11 200) h 12 400) h 13 3) h 14 2) q1 5 = 0 := (iI_k (by decide)).trans w2731
              have w2778 : sI (stI (stI (stI (stI S2501 h 11 200) h 12 400) h 13 3) h 14 2) q1 6 = 0 := (iI_k (by decide)).trans w2732
              have w2779 : sI (stI (stI (stI (stI S2501 h 11 200) h 12 400) h 13 3) h 14 2) q1 7 = 0 := (iI_k (by decide)).trans w2733
              have w2780 : sI (stI (stI (stI (stI S2501 h 11 200) h 12 400) h 13 3) h 14 2) q1 8 = 0 := (iI_k (by decide)).trans w2734
              have w2781 : sI (stI (stI (stI (stI S2501 h 11 200) h 12 400) h 13 3) h 14 2) q1 9 = 0 := (iI_k (by decide)).trans w2735
              have w2782 : sI (stI (stI (stI (stI S2501 h 11 200) h 12 400) h 13 3) h 14 2) q109 2 = 0 := (iI_k (by decide)).trans w2736
              have w2783 : sI (stI (stI (stI (stI S2501 h 11 200) h 12 400) h 13 3) h 14 2) q109 3 = 300 := (iI_k (by decide)).trans w2737
              have w2784 : sI (stI (stI (stI (stI S2501 h 11 200) h 12 400) h 13 3) h 14 2) q109 4 = 0 := (iI_k (by decide)).trans w2738
              have w2785 : sI (stI (stI (stI (stI S2501 h 11 200) h 12 400) h 13 3) h 14 2) q109 5 = 0 := (iI_k (by decide)).trans w2739
              have w2786 : sI (stI (stI (stI (stI S2501 h 11 200) h 12 400) h 13 3) h 14 2) q109 6 = 0 := (iI_k (by decide)).trans w2740
              have w2787 : sI (stI (stI (stI (stI S2501 h 11 200) h 12 400) h 13 3) h 14 2) q109 7 = 0 := (iI_k (by decide)).trans w2741
              have w2788 : sI (stI (stI (stI (stI S2501 h 11 200) h 12 400) h 13 3) h 14 2) q109 8 = 0 := (iI_k (by decide)).trans w2742
              have w2789 : sI (stI (stI (stI (stI S2501 h 11 200) h 12 400) h 13 3) h 14 2) q109 9 = 0 := (iI_k (by decide)).trans w2743
              have w2790 : sI (stI (stI (stI (stI S2501 h 11 200) h 12 400) h 13 3) h 14 2) q444 0 = 16777215 := (iI_k (by decide)).trans w2744
              have w2791 : sI (stI (stI (stI (stI S2501 h 11 200) h 12 400) h 13 3) h 14 2) q444 1 = 127 := (iI_k (by decide)).trans w2745
              have w2792 : sI (stI (stI (stI (stI S2501 h 11 200) h 12 400) h 13 3) h 14 2) q444 2 = 15 := (iI_k (by decide)).trans w2746
              have w2793 : sI (stI (stI (stI (stI S2501 h 11 200) h 12 400) h 13 3) h 14 2) q444 3 = 168 := (iI_k (by decide)).trans w2747
              have w2794 : sI (stI (stI (stI (stI S2501 h 11 200) h 12 400) h 13 3) h 14 2) q444 4 = 100 := (iI_k (by decide)).trans w2748
              have w2795 : sI (stI (stI (stI (stI S2501 h 11 200) h 12 400) h 13 3) h 14 2) q444 5 = 50 := (iI_k (by decide)).trans w2749
              have w2796 : sI (stI (stI (stI (stI S2501 h 11 200) h 12 400) h 13 3) h 14 2) q1086 1 = 0 := (iI_k (by decide)).trans w2750
              have w2797 : sI (stI (stI (stI (stI S2501 h 11 200) h 12 400) h 13 3) h 14 2) q1376 1 = 0 := (iI_k (by decide)).trans w2751
              have w2798 : sI (stI (stI (stI (stI S2501 h 11 200) h 12 400) h 13 3) h 14 2) q1376 2 = 0 := (iI_k (by decide)).trans w2752
              have w2799 : sI (stI (stI (stI (stI S2501 h 11 200) h 12 400) h 13 3) h 14 2) q1376 3 = 0 := (iI_k (by decide)).trans w2753
              have w2800 : sI (stI (stI (stI (stI S2501 h 11 200) h 12 400) h 13 3) h 14 2) q1673 6 = 0 := (iI_k (by decide)).trans w2754
              have w2801 : sI (stI (stI (stI (stI S2501 h 11 200) h 12 400) h 13 3) h 14 2) q1673 7 = 0 := (iI_k (by decide)).trans w2755
              have w2802 : sI (stI (stI (stI (stI S2501 h 11 200) h 12 400) h 13 3) h 14 2) q1673 8 = 0 := (iI_k (by decide)).trans w2756
              have w2803 : sI (stI (stI (stI (stI S2501 h 11 200) h 12 400) h 13 3) h 14 2) q1673 9 = 0 := (iI_k (by decide)).trans w2757
              have w2804 : sI (stI (stI (stI (stI S2501 h 11 200) h 12 400) h 13 3) h 14 2) q2103 4 = 0 := (iI_k (by decide)).trans w2758
              have w2805 : sI (stI (stI (stI (stI S2501 h 11 200) h 12 400) h 13 3) h 14 2) q2103 5 = 0 := (iI_k (by decide)).trans w2759
              have w2806 : sI (stI (stI (stI (stI S2501 h 11 200) h 12 400) h 13 3) h 14 2) q2103 6 = 0 := (iI_k (by decide)).trans w2760
              have w2807 : sI (stI (stI (stI (stI S2501 h 11 200) h 12 400) h 13 3) h 14 2) q2103 7 = 0 := (iI_k (by decide)).trans w2761
              have w2808 : sI (stI (stI (stI (stI S2501 h 11 200) h 12 400) h 13 3) h 14 2) q2103 8 = 0 := (iI_k (by decide)).trans w2762
              have w2809 : sI (stI (stI (stI (stI S2501 h 11 200) h 12 400) h 13 3) h 14 2) h 11 = 200 := (iI_k (by decide)).trans w2763
              have w2810 : sI (stI (stI (stI (stI S2501 h 11 200) h 12 400) h 13 3) h 14 2) h 12 = 400 := (iI_k (by decide)).trans w2764
              have w2811 : sI (stI (stI (stI (stI S2501 h 11 200) h 12 400) h 13 3) h 14 2) h 13 = 3 := (iI_k (by decide)).trans w2765
              have w2812 : sI (stI (stI (stI (stI S2501 h 11 200) h 12 400) h 13 3) h 14 2) h 14 = 2 := iI_s
              have w2813 : ∀ j, j < 24 → sI (stI (stI (stI (stI S2501 h 11 200) h 12 400) h 13 3) h 14 2) q836 j = 10 := fun j hj => (iI_a (fk_ne k2516 k2502 (by decide))).trans (w2766 j hj)
              have w2814 : ∀ j, j < 80 → sI (stI (stI (stI (stI S2501 h 11 200) h 12 400) h 13 3) h 14 2) z1271 j = 0 := fun j hj => (iI_a (fk_ne k2518 k2502 (by decide))).trans (w2767 j hj)
              have w2815 : ∀ j, j < 9 → sI (stI (stI (stI (stI S2501 h 11 200) h 12 400) h 13 3) h 14 2) z2374 j = 0 := fun j hj => (iI_a (fk_ne k2526 k2502 (by decide))).trans (w2768 j hj)
              clear w2722 w2723 w2724 w2725 w2726 w2727 w2728 w2729 w2730 w2731 w2732 w2733 w2734 w2735 w2736 w2737 w2738 w2739 w2740 w2741 w2742 w2743 w2744 w2745 w2746 w2747 w2748 w2749 w2750 w2751 w2752 w2753 w2754 w2755 w2756 w2757 w2758 w2759 w2760 w2761 w2762 w2763 w2764 w2765 w2766 w2767 w2768
              exact pc_vret (S := stI (stI (stI (stI S2501 h 11 200) h 12 400) h 13 3) h 14 2) hx hb hr hlk hK hZ hA hW hS (⟨hX, q1, o4, z39, o42, z43, o46, z47, o50, z51, o54, q109, o112, z201, o209, z210, o218, z219, o227, z228, o236, q313, o316, q444, o447, q681, o684, q836, o839, q1086, o1089, z1271, o1288, q1376, o1379, q1673, o1676, z1893, o1913, z1914, o1934, z1935, o1955, z1956, o1976, q2103, o2106, z2374, o2399, z2400, o2425, z2426, o2451, z2452, o2477, k2502, r2530, r2531, r2532, r2533, r2534, r2535, r2536, r2537, r2627, k2503, r2538, k2504, r2540, k2505, n2558, w2618, r2539, k2506, r2541, k2507, n2559, w2619, w2774, w2775, w2776, w2777, w2778, w2779, w2780, w2781, k2508, r2542, k2509, r2544, k2510, n2560, w2620, r2543, k2511, r2545, k2512, n2561, w2621, w2782, w2783, w2784, w2785, w2786, w2787, w2788, w2789, k2514, n2562, k2515, n2563, w2623, k2516, n2564, w2813, k2517, r2546, k2518, n2565, w2796, k2519, r2547, k2520, r2548, r2549, r2550, k2521, n2566, r2551, k2522, n2567, r2552, k2523, n2568, r2553, k2524, n2569, w2800, w2801, w2802, w2803, k2525, r2554, k2526, n2570, w2815, r2555, k2527, n2571, r2556, k2528, n2572, r2557, k2529, n2573, w2804, w2805, w2806, w2807, w2808, k2513, w2790, w2791, w2792, w2793, w2794, w2795, w2622, w2769, w2770, w2809, w2810, w2811, w2812, w2771, w2772, w2773, y2497, y2498, y2499, y2500, f2389, f2415⟩) dX8_init_184
            · have c1085i : ¬ ((24 : Int) ≤ Int32.toInt (nI i)) := fun h9 => c1085 ((i3_le _ _).mpr h9)
              refine lv_aload_n hx hb dX8_init_90 rfl (lv_at hl 0 rfl) ?_
              refine pg_gr (b := q836) (ci := 8) (C := RX8) (T := TX8) (N := 18) hx hb hts wi8 hown hK hW f1002 (by decide) rfl 4 (by decide) (hts (.fieldLink RX8 32 "IceHall" "prices" "[I") (by decide +kernel)) (fun _ h9 => h9) rfl f1007 dX8_init_91 ?_
              refine lv_iload_n hx hb dX8_init_94 rfl (lv_at hl 2 rfl) ?_
              refine lv_bipush (v := 10) hx hb dX8_init_95 (by decide) ?_
              refine pg_iast hx hb hK hW hS hck84_0 (by rw [hcn84_0]; exact vp_in_nI (by omega) (by decide)) dX8_init_97 (fun H locs hW hS => ?_)
              have hX : Kx [h] S (stI T84 q836 (Int32.toNatClampNeg (nI i)) 10) := hX.In o839
              have w2816 : sI (stI T84 q836 (Int32.toNatClampNeg (nI i)) 10) h 9 = 0 := (iI_a (fk_ne f1002 hck84_0 (by decide))).trans f1008
              have w2817 : sI (stI T84 q836 (Int32.toNatClampNeg (nI i)) 10) h 10 = 0 := (iI_a (fk_ne f1002 hck84_0 (by decide))).trans f1009
              have w2818 : sI (stI T84 q836 (Int32.toNatClampNeg (nI i)) 10) h 11 = 0 := (iI_a (fk_ne f1002 hck84_0 (by decide))).trans f1010
              have w2819 : sI (stI T84 q836 (Int32.toNatClampNeg (nI i)) 10) h 12 = 0 := (iI_a (fk_ne f1002 hck84_0 (by decide))).trans f1011
              have w2820 : sI (stI T84 q836 (Int32.toNatClampNeg (nI i)) 10) h 13 = 0 := (iI_a (fk_ne f1002 hck84_0 (by decide))).trans f1012
              have w2821 : sI (stI T84 q836 (Int32.toNatClampNeg (nI i)) 10) h 14 = 0 := (iI_a (fk_ne f1002 hck84_0 (by decide))).trans f1013
              have w2822 : sI (stI T84 q836 (Int32.toNatClampNeg (nI i)) 10) h 15 = 0 := (iI_a (fk_ne f1002 hck84_0 (by decide))).trans f1014
              have w2823 : sI (stI T84 q836 (Int32.toNatClampNeg (nI i)) 10) h 16 = 0 := (iI_a (fk_ne f1002 hck84_0 (by decide))).trans f1015
              have w2824 : sI (stI T84 q836 (Int32.toNatClampNeg (nI i)) 10) h 17 = 0 := (iI_a (fk_ne f1002 hck84_0 (by decide))).trans f1016
              have w2825 : sI (stI T84 q836 (Int32.toNatClampNeg (nI i)) 10) q1 2 = 0 := (iI_a (fk_ne f1018 hck84_0 (by decide))).trans f1021
              have w2826 : sI (stI T84 q836 (Int32.toNatClampNeg (nI i)) 10) q1 3 = 300 := (iI_a (fk_ne f1018 hck84_0 (by decide))).trans f1022
              have w2827 : sI (stI T84 q836 (Int32.toNatClampNeg (nI i)) 10) q1 4 = 0 := (iI_a (fk_ne f1018 hck84_0 (by decide))).trans f1023
              have w2828 : sI (stI T84 q836 (Int32.toNatClampNeg (nI i)) 10) q1 5 = 0 := (iI_a (fk_ne f1018 hck84_0 (by decide))).trans f1024
              have w2829 : sI (stI T84 q836 (Int32.toNatClampNeg (nI i)) 10) q1 6 = 0 := (iI_a (fk_ne f1018 hck84_0 (by decide))).trans f1025
              have w2830 : sI (stI T84 q836 (Int32.toNatClampNeg (nI i)) 10) q1 7 = 0 := (iI_a (fk_ne f1018 hck84_0 (by decide))).trans f1026
              have w2831 : sI (stI T84 q836 (Int32.toNatClampNeg (nI i)) 10) q1 8 = 0 := (iI_a (fk_ne f1018 hck84_0 (by decide))).trans f1027
              have w2832 : sI (stI T84 q836 (Int32.toNatClampNeg (nI i)) 10) q1 9 = 0 := (iI_a (fk_ne f1018 hck84_0 (by decide))).trans f1028
              have w2833 : sI (stI T84 q836 (Int32.toNatClampNeg (nI i)) 10) q109 2 = 0 := (iI_a (fk_ne f1044 hck84_0 (by decide))).trans f1047
              have w2834 : sI (stI T84 q836 (Int32.toNatClampNeg (nI i)) 10) q109 3 = 300 := (iI_a (fk_ne f1044 hck84_0 (by decide))).trans f1048
              have w2835 : sI (stI T84 q836 (Int32.toNatClampNeg (nI i)) 10) q109 4 = 0 := (iI_a (fk_ne f1044 hck84_0 (by decide))).trans f1049
              have w2836 : sI (stI T84 q836 (Int32.toNatClampNeg (nI i)) 10) q109 5 = 0 := (iI_a (fk_ne f1044 hck84_0 (by decide))).trans f1050
              have w2837 : sI (stI T84 q836 (Int32.toNatClampNeg (nI i)) 10) q109 6 = 0 := (iI_a (fk_ne f1044 hck84_0 (by decide))).trans f1051
              have w2838 : sI (stI T84 q836 (Int32.toNatClampNeg (nI i)) 10) q109 7 = 0 := (iI_a (fk_ne f1044 hck84_0 (by decide))).trans f1052
              have w2839 : sI (stI T84 q836 (Int32.toNatClampNeg (nI i)) 10) q109 8 = 0 := (iI_a (fk_ne f1044 hck84_0 (by decide))).trans f1053
              have w2840 : sI (stI T84 q836 (Int32.toNatClampNeg (nI i)) 10) q109 9 = 0 := (iI_a (fk_ne f1044 hck84_0 (by decide))).trans f1054
              have w2841 : sI (stI T84 q836 (Int32.toNatClampNeg (nI i)) 10) q444 0 = 16777215 := (iI_a (fk_ne f1070 hck84_0 (by decide))).trans f1071
              have w2842 : sI (stI T84 q836 (Int32.toNatClampNeg (nI i)) 10) q444 1 = 127 := (iI_a (fk_ne f1070 hck84_0 (by decide))).trans f1072
              have w2843 : sI (stI T84 q836 (Int32.toNatClampNeg (nI i)) 10) q444 2 = 15 := (iI_a (fk_ne f1070 hck84_0 (by decide))).trans f1073
              have w2844 : sI (stI T84 q836 (Int32.toNatClampNeg (nI i)) 10) q444 3 = 168 := (iI_a (fk_ne f1070 hck84_0 (by decide))).trans f1074
              have w2845 : sI (stI T84 q836 (Int32.toNatClampNeg (nI i)) 10) q444 4 = 100 := (iI_a (fk_ne f1070 hck84_0 (by decide))).trans f1075
              have w2846 : sI (stI T84 q836 (Int32.toNatClampNeg (nI i)) 10) q444 5 = 50 := (iI_a (fk_ne f1070 hck84_0 (by decide))).trans f1076
              clear f1008 f1009 f1010 f1011 f1012 f1013 f1014 f1015 f1016 f1021 f1022 f1023 f1024 f1025 f1026 f1027 f1028 f1047 f1048 f1049 f1050 f1051 f1052 f1053 f1054 f1071 f1072 f1073 f1074 f1075 f1076
              refine lv_iinc (v := nI i + 1) (lv' := [(2, .int (nI i + 1)), (0, .ref h), (1, .ref q444)]) hx hb dX8_init_98 hl (k := 2) rfl rfl (by decide) rfl (fun ls hl => ?_)
              refine lv_goto (tgt := 84) hx hb dX8_init_101 (by decide) ?_
              exact ih84 (i + 1) (stI T84 q836 (Int32.toNatClampNeg (nI i)) 10) H locs ls (hkx84.Ih List.mem_cons_self) (hck84_0) (hcn84_0) (by omega) (fun j hj => by rw [iI, if_pos rfl, nI_clamp (by omega)]; exact ite_up (fun _ => rfl) (fun h8 => hel2 j (by omega))) (by omega) hW hS (lv_cast (lv_sub hl [1, 2, 0] rfl) (by rw [nI_1]; rfl))
        exact loop1000 _ 0 S926 H locs ls (Kx.rf _ _) (k941) (n960) (Nat.zero_le _) (fun j hj => absurd hj (Nat.not_lt_zero _)) (Nat.lt_succ_self _) hW hS (lv_cast (lv_sub hl [1, 2, 0] rfl) (rfl))
      · have c680i : ¬ ((6 : Int) ≤ Int32.toInt (nI i)) := fun h9 => c680 ((i3_le _ _).mpr h9)
        refine lv_aload_n hx hb dX8_init_51 rfl (lv_at hl 0 rfl) ?_
        refine pg_gr (b := q313) (ci := 8) (C := RX8) (T := TX8) (N := 18) hx hb hts wi8 hown hK hW f607 (by decide) rfl 2 (by decide) (hts (.fieldLink RX8 21 "IceHall" "rightsInForce" "[LIceHall$Rights;") (by decide +kernel)) (fun _ h9 => h9) rfl f610 dX8_init_52 ?_
        refine lv_iload_n hx hb dX8_init_55 rfl (lv_at hl 2 rfl) ?_
        refine lv_aload_n hx hb dX8_init_56 rfl (lv_at hl 1 rfl) ?_
        refine pg_aast (t0 := 4) hx hb hK hW hS (by decide) hck45_0 f673 (by decide) rfl rfl (by rw [hcn45_0]; exact vp_in_nI (by omega) (by decide)) dX8_init_57 (fun H locs hW hS => ?_)
        have hX : Kx [h] S (stR T45 q313 (Int32.toNatClampNeg (nI i)) (some q444)) := hX.Rn o316
        obtain ⟨S2847, eS2847⟩ : ∃ T : St, T = stR T45 q313 (Int32.toNatClampNeg (nI i)) (some q444) := ⟨_, rfl⟩
        rw [← eS2847] at hW hX
        have k2848 : sK S2847 h = 8 := by rw [eS2847]; exact f607
        have k2849 : sK S2847 q1 = 1 := by rw [eS2847]; exact f621
        have k2850 : sK S2847 z39 = 0 := by rw [eS2847]; exact f633
        have k2851 : sK S2847 z43 = 12 := by rw [eS2847]; exact f636
        have k2852 : sK S2847 z47 = 0 := by rw [eS2847]; exact f640
        have k2853 : sK S2847 z51 = 12 := by rw [eS2847]; exact f643
        have k2854 : sK S2847 q109 = 1 := by rw [eS2847]; exact f647
        have k2855 : sK S2847 z201 = 0 := by rw [eS2847]; exact f659
        have k2856 : sK S2847 z210 = 12 := by rw [eS2847]; exact f662
        have k2857 : sK S2847 z219 = 0 := by rw [eS2847]; exact f666
        have k2858 : sK S2847 z228 = 12 := by rw [eS2847]; exact f669
        have k2859 : sK S2847 q444 = 4 := by rw [eS2847]; exact f673
        have k2860 : sK S2847 q313 = 14 := by rw [eS2847]; exact hck45_0
        have r2861 : sR S2847 h 0 = some q1 := by rw [eS2847, rR, if_neg (fk_ne k2848 k2860 (by decide))]; exact f608
        have r2862 : sR S2847 h 1 = some q109 := by rw [eS2847, rR, if_neg (fk_ne k2848 k2860 (by decide))]; exact f609
        have r2863 : sR S2847 h 2 = some q313 := by rw [eS2847, rR, if_neg (fk_ne k2848 k2860 (by decide))]; exact f610
        have r2864 : sR S2847 q1 0 = some z39 := by rw [eS2847, rR, if_neg (fk_ne k2849 k2860 (by decide))]; exact f622
        have r2865 : sR S2847 q1 1 = some z47 := by rw [eS2847, rR, if_neg (fk_ne k2849 k2860 (by decide))]; exact f623
        have r2866 : sR S2847 z39 0 = some z43 := by rw [eS2847, rR, if_neg (fk_ne k2850 k2860 (by decide))]; exact f634
        have r2867 : sR S2847 z47 0 = some z51 := by rw [eS2847, rR, if_neg (fk_ne k2852 k2860 (by decide))]; exact f641
        have r2868 : sR S2847 q109 0 = some z201 := by rw [eS2847, rR, if_neg (fk_ne k2854 k2860 (by decide))]; exact f648
        have r2869 : sR S2847 q109 1 = some z219 := by rw [eS2847, rR, if_neg (fk_ne k2854 k2860 (by decide))]; exact f649
        have r2870 : sR S2847 z201 0 = some z210 := by rw [eS2847, rR, if_neg (fk_ne k2855 k2860 (by decide))]; exact f660
        have r2871 : sR S2847 z219 0 = some z228 := by rw [eS2847, rR, if_neg (fk_ne k2857 k2860 (by decide))]; exact f667
        have n2872 : sL S2847 z43 = 32 := by rw [eS2847]; exact f637
        have n2873 : sL S2847 z51 = 32 := by rw [eS2847]; exact f644
        have n2874 : sL S2847 z210 = 32 := by rw [eS2847]; exact f663
        have n2875 : sL S2847 z228 = 32 := by rw [eS2847]; exact f670
        have n2876 : sL S2847 q313 = 6 := by rw [eS2847]; exact hcn45_0
        have w2877 : sI S2847 h 9 = 0 := by rw [eS2847]; exact f611
        have w2878 : sI S2847 h 10 = 0 := by rw [eS2847]; exact f612
        have w2879 : sI S2847 h 11 = 0 := by rw [eS2847]; exact f613
        have w2880 : sI S2847 h 12 = 0 := by rw [eS2847]; exact f614
        have w2881 : sI S2847 h 13 = 0 := by rw [eS2847]; exact f615
        have w2882 : sI S2847 h 14 = 0 := by rw [eS2847]; exact f616
        have w2883 : sI S2847 h 15 = 0 := by rw [eS2847]; exact f617
        have w2884 : sI S2847 h 16 = 0 := by rw [eS2847]; exact f618
        have w2885 : sI S2847 h 17 = 0 := by rw [eS2847]; exact f619
        have w2886 : sI S2847 q1 2 = 0 := by rw [eS2847]; exact f624
        have w2887 : sI S2847 q1 3 = 300 := by rw [eS2847]; exact f625
        have w2888 : sI S2847 q1 4 = 0 := by rw [eS2847]; exact f626
        have w2889 : sI S2847 q1 5 = 0 := by rw [eS2847]; exact f627
        have w2890 : sI S2847 q1 6 = 0 := by rw [eS2847]; exact f628
        have w2891 : sI S2847 q1 7 = 0 := by rw [eS2847]; exact f629
        have w2892 : sI S2847 q1 8 = 0 := by rw [eS2847]; exact f630
        have w2893 : sI S2847 q1 9 = 0 := by rw [eS2847]; exact f631
        have w2894 : sI S2847 q109 2 = 0 := by rw [eS2847]; exact f650
        have w2895 : sI S2847 q109 3 = 300 := by rw [eS2847]; exact f651
        have w2896 : sI S2847 q109 4 = 0 := by rw [eS2847]; exact f652
        have w2897 : sI S2847 q109 5 = 0 := by rw [eS2847]; exact f653
        have w2898 : sI S2847 q109 6 = 0 := by rw [eS2847]; exact f654
        have w2899 : sI S2847 q109 7 = 0 := by rw [eS2847]; exact f655
        have w2900 : sI S2847 q109 8 = 0 := by rw [eS2847]; exact f656
        have w2901 : sI S2847 q109 9 = 0 := by rw [eS2847]; exact f657
        have w2902 : sI S2847 q444 0 = 16777215 := by rw [eS2847]; exact f674
        have w2903 : sI S2847 q444 1 = 127 := by rw [eS2847]; exact f675
        have w2904 : sI S2847 q444 2 = 15 := by rw [eS2847]; exact f676
        have w2905 : sI S2847 q444 3 = 168 := by rw [eS2847]; exact f677
        have w2906 : sI S2847 q444 4 = 100 := by rw [eS2847]; exact f678
        have w2907 : sI S2847 q444 5 = 50 := by rw [eS2847]; exact f679
        have w2908 : ∀ j, sJ S2847 z43 j = 0 := fun j => by rw [eS2847]; exact f638 j 
        have w2909 : ∀ j, sJ S2847 z51 j = 0 := fun j => by rw [eS2847]; exact f645 j 
        have w2910 : ∀ j, sJ S2847 z210 j = 0 := fun j => by rw [eS2847]; exact f664 j 
        have w2911 : ∀ j, sJ S2847 z228 j = 0 := fun j => by rw [eS2847]; exact f671 j 
        clear f607 f621 f633 f636 f640 f643 f647 f659 f662 f666 f669 f673 f608 f609 f610 f622 f623 f634 f641 f648 f649 f660 f667 f637 f644 f663 f670 f611 f612 f613 f614 f615 f616 f617 f618 f619 f624 f625 f626 f627 f628 f629 f630 f631 f650 f651 f652 f653 f654 f655 f656 f657 f674 f675 f676 f677 f678 f679 f638 f645 f664 f671
        refine lv_iinc (v := nI i + 1) (lv' := [(2, .int (nI i + 1)), (0, .ref h), (1, .ref q444)]) hx hb dX8_init_58 hl (k := 2) rfl rfl (by decide) rfl (fun ls hl => ?_)
        refine lv_goto (tgt := 45) hx hb dX8_init_61 (by decide) ?_
        exact ih (i + 1) S2847 H locs ls (by rw [eS2847]; exact hkx45.Rh List.mem_cons_self) (k2860) (n2876) (by omega) (fun j hj => by rw [eS2847, rR, if_pos rfl, nI_clamp (by omega)]; exact ite_up (fun _ => rfl) (fun h8 => hel j (by omega))) (by omega) hW hS (lv_cast (lv_sub hl [1, 2, 0] rfl) (by rw [nI_1]; rfl))
  exact loop605 _ 0 T526 H locs ls (Kx.rf _ _) (f595) (f596) (Nat.zero_le _) (fun j hj => absurd hj (Nat.not_lt_zero _)) (Nat.lt_succ_self _) hW hS (lv_cast (lv_sub hl [2, 1, 0] rfl) (rfl))
