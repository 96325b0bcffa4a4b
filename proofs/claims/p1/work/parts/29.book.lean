set_option maxHeartbeats 4000000 in
set_option maxRecDepth 100000 in
theorem c_X6_init (l : Launch) (D : va_G) (cy : Nat → ClassId) (A : Nat → Prop) (S : St) (h g : Nat) (a k t x : Int32) (hk : sK S h = 6) (hg : sK S g = 4) : MV l yX6_init wsX6_init ({ frames := 1, cells := 0, slots := 0, locals := 60 } : Room) 0 0 D cy A [.ref h, .int a, .int k, .int t, .int x, .ref g] S (fun S1 => Kx [h] S S1 ∧ sK S1 h = 6) := by
  refine mt_start (cc := cX6_init) (maxL := 6) (ret := none) (by decide) rfl (Nat.le_of_ble_eq_true rfl) ?_
  intro p e s m args below meth c hx hb hr hlk hml hown hnm hts hK hZ hA hW hS ls hl
  have hl : lv_has ls 6 [(0, .ref h), (1, .int a), (2, .int k), (3, .int t), (4, .int x), (5, .ref g)] := hl
  have hown : s.vm.findClass RX6 = some m.cls := hown
  have F : CallFix p m c cX6_init 6 s args wsX6_init RX6 := ⟨hx, hb, hml, hown, hts⟩
  have wi4 : ∀ w ∈ u_ws RX4 TX4 6, w ∈ wsX6_init := by decide +kernel
  have wi6 : ∀ w ∈ u_ws RX6 TX6 10, w ∈ wsX6_init := by decide +kernel
  have hX : Kx [h] S S := Kx.rf _ S
  refine lv_aload_n hx hb dX6_init_0 rfl (lv_at hl 0 rfl) ?_
  refine W.objInit hx hb hown (hts (.methodLink RX6 3 objectInit) (by decide +kernel)) (hts (.instanceMethod objectInit) (by decide +kernel)) (hts (.code objectInit ⟨#[0xb1]⟩ 1 none) (by decide +kernel)) rfl (by rw [hml]; exact hl.1) rfl dX6_init_1 (Nat.le_of_ble_eq_true rfl) (Nat.le_of_ble_eq_true rfl) ?_
  refine W.eq (g2 := F0 m 4 ls []) rfl ?_
  refine lv_aload_n hx hb dX6_init_4 rfl (lv_at hl 0 rfl) ?_
  refine lv_iconst (v := 0) hx hb dX6_init_5 (by decide) ?_
  refine pg_pi (ci := 6) (C := RX6) (T := TX6) (N := 10) hx hb hts wi6 tyX6 tyX6_ok nmX6 hown hK hW hS hk (by decide) rfl 6 (by decide) (hts (.fieldLink RX6 9 "IceHall$Session" "state" "I") (by decide +kernel)) (fun _ h9 => h9) rfl rfl rfl dX6_init_6 (fun H locs hW hS => ?_)
  have hX : Kx [h] S (stI S h 6 0) := hX.Ih List.mem_cons_self
  have w1 : sI (stI S h 6 0) h 6 = 0 := iI_s
  refine lv_aload_n hx hb dX6_init_9 rfl (lv_at hl 0 rfl) ?_
  refine lv_iconst (v := 0) hx hb dX6_init_10 (by decide) ?_
  refine pg_pi (ci := 6) (C := RX6) (T := TX6) (N := 10) hx hb hts wi6 tyX6 tyX6_ok nmX6 hown hK hW hS hk (by decide) rfl 7 (by decide) (hts (.fieldLink RX6 15 "IceHall$Session" "whyLost" "I") (by decide +kernel)) (fun _ h9 => h9) rfl rfl rfl dX6_init_11 (fun H locs hW hS => ?_)
  have hX : Kx [h] S (stI (stI S h 6 0) h 7 0) := hX.Ih List.mem_cons_self
  have w2 : sI (stI (stI S h 6 0) h 7 0) h 6 = 0 := (iI_k (by decide)).trans w1
  have w3 : sI (stI (stI S h 6 0) h 7 0) h 7 = 0 := iI_s
  clear w1
  refine lv_aload_n hx hb dX6_init_14 rfl (lv_at hl 0 rfl) ?_
  refine lv_iconst (v := 0) hx hb dX6_init_15 (by decide) ?_
  refine pg_pi (ci := 6) (C := RX6) (T := TX6) (N := 10) hx hb hts wi6 tyX6 tyX6_ok nmX6 hown hK hW hS hk (by decide) rfl 8 (by decide) (hts (.fieldLink RX6 18 "IceHall$Session" "owes" "I") (by decide +kernel)) (fun _ h9 => h9) rfl rfl rfl dX6_init_16 (fun H locs hW hS => ?_)
  have hX : Kx [h] S (stI (stI (stI S h 6 0) h 7 0) h 8 0) := hX.Ih List.mem_cons_self
  have w4 : sI (stI (stI (stI S h 6 0) h 7 0) h 8 0) h 6 = 0 := (iI_k (by decide)).trans w2
  have w5 : sI (stI (stI (stI S h 6 0) h 7 0) h 8 0) h 7 = 0 := (iI_k (by decide)).trans w3
  have w6 : sI (stI (stI (stI S h 6 0) h 7 0) h 8 0) h 8 = 0 := iI_s
  clear w2 w3
  refine lv_aload_n hx hb dX6_init_19 rfl (lv_at hl 0 rfl) ?_
  refine lv_iconst (v := 0) hx hb dX6_init_20 (by decide) ?_
  refine pg_pi (ci := 6) (C := RX6) (T := TX6) (N := 10) hx hb hts wi6 tyX6 tyX6_ok nmX6 hown hK hW hS hk (by decide) rfl 9 (by decide) (hts (.fieldLink RX6 21 "IceHall$Session" "timesMoved" "I") (by decide +kernel)) (fun _ h9 => h9) rfl rfl rfl dX6_init_21 (fun H locs hW hS => ?_)
  have hX : Kx [h] S (stI (stI (stI (stI S h 6 0) h 7 0) h 8 0) h 9 0) := hX.Ih List.mem_cons_self
  have w7 : sI (stI (stI (stI (stI S h 6 0) h 7 0) h 8 0) h 9 0) h 6 = 0 := (iI_k (by decide)).trans w4
  have w8 : sI (stI (stI (stI (stI S h 6 0) h 7 0) h 8 0) h 9 0) h 7 = 0 := (iI_k (by decide)).trans w5
  have w9 : sI (stI (stI (stI (stI S h 6 0) h 7 0) h 8 0) h 9 0) h 8 = 0 := (iI_k (by decide)).trans w6
  have w10 : sI (stI (stI (stI (stI S h 6 0) h 7 0) h 8 0) h 9 0) h 9 = 0 := iI_s
  clear w4 w5 w6
  refine lv_aload_n hx hb dX6_init_24 rfl (lv_at hl 0 rfl) ?_
  refine lv_iload_n hx hb dX6_init_25 rfl (lv_at hl 1 rfl) ?_
  refine pg_pf (ci := 6) (C := RX6) (T := TX6) (N := 10) hx hb hts wi6 tyX6 tyX6_ok nmX6 hown hK hW hS hk (by decide) rfl 0 (by decide) (hts (.fieldLink RX6 24 "IceHall$Session" "byClub" "I") (by decide +kernel)) (fun _ h9 => h9) rfl hnm rfl rfl rfl dX6_init_26 (fun H locs hW hS => ?_)
  have hX : Kx [h] S (stI (stI (stI (stI (stI S h 6 0) h 7 0) h 8 0) h 9 0) h 0 a) := hX.Ih List.mem_cons_self
  have w11 : sI (stI (stI (stI (stI (stI S h 6 0) h 7 0) h 8 0) h 9 0) h 0 a) h 6 = 0 := (iI_k (by decide)).trans w7
  have w12 : sI (stI (stI (stI (stI (stI S h 6 0) h 7 0) h 8 0) h 9 0) h 0 a) h 7 = 0 := (iI_k (by decide)).trans w8
  have w13 : sI (stI (stI (stI (stI (stI S h 6 0) h 7 0) h 8 0) h 9 0) h 0 a) h 8 = 0 := (iI_k (by decide)).trans w9
  have w14 : sI (stI (stI (stI (stI (stI S h 6 0) h 7 0) h 8 0) h 9 0) h 0 a) h 9 = 0 := (iI_k (by decide)).trans w10
  have w15 : sI (stI (stI (stI (stI (stI S h 6 0) h 7 0) h 8 0) h 9 0) h 0 a) h 0 = a := iI_s
  clear w7 w8 w9 w10
  refine lv_aload_n hx hb dX6_init_29 rfl (lv_at hl 0 rfl) ?_
  refine lv_iload_n hx hb dX6_init_30 rfl (lv_at hl 2 rfl) ?_
  refine pg_pf (ci := 6) (C := RX6) (T := TX6) (N := 10) hx hb hts wi6 tyX6 tyX6_ok nmX6 hown hK hW hS hk (by decide) rfl 1 (by decide) (hts (.fieldLink RX6 27 "IceHall$Session" "kind" "I") (by decide +kernel)) (fun _ h9 => h9) rfl hnm rfl rfl rfl dX6_init_31 (fun H locs hW hS => ?_)
  have hX : Kx [h] S (stI (stI (stI (stI (stI (stI S h 6 0) h 7 0) h 8 0) h 9 0) h 0 a) h 1 k) := hX.Ih List.mem_cons_self
  have w16 : sI (stI (stI (stI (stI (stI (stI S h 6 0) h 7 0) h 8 0) h 9 0) h 0 a) h 1 k) h 6 = 0 := (iI_k (by decide)).trans w11
  have w17 : sI (stI (stI (stI (stI (stI (stI S h 6 0) h 7 0) h 8 0) h 9 0) h 0 a) h 1 k) h 7 = 0 := (iI_k (by decide)).trans w12
  have w18 : sI (stI (stI (stI (stI (stI (stI S h 6 0) h 7 0) h 8 0) h 9 0) h 0 a) h 1 k) h 8 = 0 := (iI_k (by decide)).trans w13
  have w19 : sI (stI (stI (stI (stI (stI (stI S h 6 0) h 7 0) h 8 0) h 9 0) h 0 a) h 1 k) h 9 = 0 := (iI_k (by decide)).trans w14
  have w20 : sI (stI (stI (stI (stI (stI (stI S h 6 0) h 7 0) h 8 0) h 9 0) h 0 a) h 1 k) h 0 = a := (iI_k (by decide)).trans w15
  have w21 : sI (stI (stI (stI (stI (stI (stI S h 6 0) h 7 0) h 8 0) h 9 0) h 0 a) h 1 k) h 1 = k := iI_s
  clear w11 w12 w13 w14 w15
  refine lv_aload_n hx hb dX6_init_34 rfl (lv_at hl 0 rfl) ?_
  refine lv_iload_n hx hb dX6_init_35 rfl (lv_at hl 3 rfl) ?_
  refine pg_pi (ci := 6) (C := RX6) (T := TX6) (N := 10) hx hb hts wi6 tyX6 tyX6_ok nmX6 hown hK hW hS hk (by decide) rfl 4 (by decide) (hts (.fieldLink RX6 30 "IceHall$Session" "onSheet" "I") (by decide +kernel)) (fun _ h9 => h9) rfl rfl rfl dX6_init_36 (fun H locs hW hS => ?_)
  have hX : Kx [h] S (stI (stI (stI (stI (stI (stI (stI S h 6 0) h 7 0) h 8 0) h 9 0) h 0 a) h 1 k) h 4 t) := hX.Ih List.mem_cons_self
  have w22 : sI (stI (stI (stI (stI (stI (stI (stI S h 6 0) h 7 0) h 8 0) h 9 0) h 0 a) h 1 k) h 4 t) h 6 = 0 := (iI_k (by decide)).trans w16
  have w23 : sI (stI (stI (stI (stI (stI (stI (stI S h 6 0) h 7 0) h 8 0) h 9 0) h 0 a) h 1 k) h 4 t) h 7 = 0 := (iI_k (by decide)).trans w17
  have w24 : sI (stI (stI (stI (stI (stI (stI (stI S h 6 0) h 7 0) h 8 0) h 9 0) h 0 a) h 1 k) h 4 t) h 8 = 0 := (iI_k (by decide)).trans w18
  have w25 : sI (stI (stI (stI (stI (stI (stI (stI S h 6 0) h 7 0) h 8 0) h 9 0) h 0 a) h 1 k) h 4 t) h 9 = 0 := (iI_k (by decide)).trans w19
  have w26 : sI (stI (stI (stI (stI (stI (stI (stI S h 6 0) h 7 0) h 8 0) h 9 0) h 0 a) h 1 k) h 4 t) h 0 = a := (iI_k (by decide)).trans w20
  have w27 : sI (stI (stI (stI (stI (stI (stI (stI S h 6 0) h 7 0) h 8 0) h 9 0) h 0 a) h 1 k) h 4 t) h 1 = k := (iI_k (by decide)).trans w21
  have w28 : sI (stI (stI (stI (stI (stI (stI (stI S h 6 0) h 7 0) h 8 0) h 9 0) h 0 a) h 1 k) h 4 t) h 4 = t := iI_s
  clear w16 w17 w18 w19 w20 w21
  refine lv_aload_n hx hb dX6_init_39 rfl (lv_at hl 0 rfl) ?_
  refine lv_iload hx hb dX6_init_40 (lv_at hl 4 rfl) ?_
  refine pg_pi (ci := 6) (C := RX6) (T := TX6) (N := 10) hx hb hts wi6 tyX6 tyX6_ok nmX6 hown hK hW hS hk (by decide) rfl 5 (by decide) (hts (.fieldLink RX6 33 "IceHall$Session" "hour" "I") (by decide +kernel)) (fun _ h9 => h9) rfl rfl rfl dX6_init_42 (fun H locs hW hS => ?_)
  have hX : Kx [h] S (stI (stI (stI (stI (stI (stI (stI (stI S h 6 0) h 7 0) h 8 0) h 9 0) h 0 a) h 1 k) h 4 t) h 5 x) := hX.Ih List.mem_cons_self
  have w29 : sI (stI (stI (stI (stI (stI (stI (stI (stI S h 6 0) h 7 0) h 8 0) h 9 0) h 0 a) h 1 k) h 4 t) h 5 x) h 6 = 0 := (iI_k (by decide)).trans w22
  have w30 : sI (stI (stI (stI (stI (stI (stI (stI (stI S h 6 0) h 7 0) h 8 0) h 9 0) h 0 a) h 1 k) h 4 t) h 5 x) h 7 = 0 := (iI_k (by decide)).trans w23
  have w31 : sI (stI (stI (stI (stI (stI (stI (stI (stI S h 6 0) h 7 0) h 8 0) h 9 0) h 0 a) h 1 k) h 4 t) h 5 x) h 8 = 0 := (iI_k (by decide)).trans w24
  have w32 : sI (stI (stI (stI (stI (stI (stI (stI (stI S h 6 0) h 7 0) h 8 0) h 9 0) h 0 a) h 1 k) h 4 t) h 5 x) h 9 = 0 := (iI_k (by decide)).trans w25
  have w33 : sI (stI (stI (stI (stI (stI (stI (stI (stI S h 6 0) h 7 0) h 8 0) h 9 0) h 0 a) h 1 k) h 4 t) h 5 x) h 0 = a := (iI_k (by decide)).trans w26
  have w34 : sI (stI (stI (stI (stI (stI (stI (stI (stI S h 6 0) h 7 0) h 8 0) h 9 0) h 0 a) h 1 k) h 4 t) h 5 x) h 1 = k := (iI_k (by decide)).trans w27
  have w35 : sI (stI (stI (stI (stI (stI (stI (stI (stI S h 6 0) h 7 0) h 8 0) h 9 0) h 0 a) h 1 k) h 4 t) h 5 x) h 4 = t := (iI_k (by decide)).trans w28
  have w36 : sI (stI (stI (stI (stI (stI (stI (stI (stI S h 6 0) h 7 0) h 8 0) h 9 0) h 0 a) h 1 k) h 4 t) h 5 x) h 5 = x := iI_s
  clear w22 w23 w24 w25 w26 w27 w28
  refine lv_aload_n hx hb dX6_init_45 rfl (lv_at hl 0 rfl) ?_
  refine lv_aload hx hb dX6_init_46 (lv_at hl 5 rfl) ?_
  refine lv_ifnonnull (tgt := 55) hx hb dX6_init_48 (by decide) ?_
  refine lv_aload hx hb dX6_init_55 (lv_at hl 5 rfl) ?_
  refine pg_gi (ci := 4) (C := RX4) (T := TX4) (N := 6) hx hb hts wi4 hown hK hW hg (by decide) rfl 4 (by decide) (hts (.fieldLink RX6 36 "IceHall$Rights" "fee" "I") (by decide +kernel)) (fun _ h9 => h9) rfl dX6_init_57 ?_
  refine pg_pf (ci := 6) (C := RX6) (T := TX6) (N := 10) hx hb hts wi6 tyX6 tyX6_ok nmX6 hown hK hW hS hk (by decide) rfl 2 (by decide) (hts (.fieldLink RX6 41 "IceHall$Session" "fee" "I") (by decide +kernel)) (fun _ h9 => h9) rfl hnm rfl rfl rfl dX6_init_60 (fun H locs hW hS => ?_)
  have hX : Kx [h] S (stI (stI (stI (stI (stI (stI (stI (stI (stI S h 6 0) h 7 0) h 8 0) h 9 0) h 0 a) h 1 k) h 4 t) h 5 x) h 2 (sI (stI (stI (stI (stI (stI (stI (stI (stI S h 6 0) h 7 0) h 8 0) h 9 0) h 0 a) h 1 k) h 4 t) h 5 x) g 4)) := hX.Ih List.mem_cons_self
  have w37 : sI (stI (stI (stI (stI (stI (stI (stI (stI (stI S h 6 0) h 7 0) h 8 0) h 9 0) h 0 a) h 1 k) h 4 t) h 5 x) h 2 (sI (stI (stI (stI (stI (stI (stI (stI (stI S h 6 0) h 7 0) h 8 0) h 9 0) h 0 a) h 1 k) h 4 t) h 5 x) g 4)) h 6 = 0 := (iI_k (by decide)).trans w29
  have w38 : sI (stI (stI (stI (stI (stI (stI (stI (stI (stI S h 6 0) h 7 0) h 8 0) h 9 0) h 0 a) h 1 k) h 4 t) h 5 x) h 2 (sI (stI (stI (stI (stI (stI (stI (stI (stI S h 6 0) h 7 0) h 8 0) h 9 0) h 0 a) h 1 k) h 4 t) h 5 x) g 4)) h 7 = 0 := (iI_k (by decide)).trans w30
  have w39 : sI (stI (stI (stI (stI (stI (stI (stI (stI (stI S h 6 0) h 7 0) h 8 0) h 9 0) h 0 a) h 1 k) h 4 t) h 5 x) h 2 (sI (stI (stI (stI (stI (stI (stI (stI (stI S h 6 0) h 7 0) h 8 0) h 9 0) h 0 a) h 1 k) h 4 t) h 5 x) g 4)) h 8 = 0 := (iI_k (by decide)).trans w31
  have w40 : sI (stI (stI (stI (stI (stI (stI (stI (stI (stI S h 6 0) h 7 0) h 8 0) h 9 0) h 0 a) h 1 k) h 4 t) h 5 x) h 2 (sI (stI (stI (stI (stI (stI (stI (stI (stI S h 6 0) h 7 0) h 8 0) h 9 0) h 0 a) h 1 k) h 4 t) h 5 x) g 4)) h 9 = 0 := (iI_k (by decide)).trans w32
  have w41 : sI (stI (stI (stI (stI (stI (stI (stI (stI (stI S h 6 0) h 7 0) h 8 0) h 9 0) h 0 a) h 1 k) h 4 t) h 5 x) h 2 (sI (stI (stI (stI (stI (stI (stI (stI (stI S h 6 0) h 7 0) h 8 0) h 9 0) h 0 a) h 1 k) h 4 t) h 5 x) g 4)) h 0 = a := (iI_k (by decide)).trans w33
  have w42 : sI (stI (stI (stI (stI (stI (stI (stI (stI (stI S h 6 0) h 7 0) h 8 0) h 9 0) h 0 a) h 1 k) h 4 t) h 5 x) h 2 (sI (stI (stI (stI (stI (stI (stI (stI (stI S h 6 0) h 7 0) h 8 0) h 9 0) h 0 a) h 1 k) h 4 t) h 5 x) g 4)) h 1 = k := (iI_k (by decide)).trans w34
  have w43 : sI (stI (stI (stI (stI (stI (stI (stI (stI (stI S h 6 0) h 7 0) h 8 0) h 9 0) h 0 a) h 1 k) h 4 t) h 5 x) h 2 (sI (stI (stI (stI (stI (stI (stI (stI (stI S h 6 0) h 7 0) h 8 0) h 9 0) h 0 a) h 1 k) h 4 t) h 5 x) g 4)) h 4 = t := (iI_k (by decide)).trans w35
  have w44 : sI (stI (stI (stI (stI (stI (stI (stI (stI (stI S h 6 0) h 7 0) h 8 0) h 9 0) h 0 a) h 1 k) h 4 t) h 5 x) h 2 (sI (stI (stI (stI (stI (stI (stI (stI (stI S h 6 0) h 7 0) h 8 0) h 9 0) h 0 a) h 1 k) h 4 t) h 5 x) g 4)) h 5 = x := (iI_k (by decide)).trans w36
  have w45 : sI (stI (stI (stI (stI (stI (stI (stI (stI (stI S h 6 0) h 7 0) h 8 0) h 9 0) h 0 a) h 1 k) h 4 t) h 5 x) h 2 (sI (stI (stI (stI (stI (stI (stI (stI (stI S h 6 0) h 7 0) h 8 0) h 9 0) h 0 a) h 1 k) h 4 t) h 5 x) g 4)) h 2 = sI (stI (stI (stI (stI (stI (stI (stI (stI S h 6 0) h 7 0) h 8 0) h 9 0) h 0 a) h 1 k) h 4 t) h 5 x) g 4 := iI_s
  clear w29 w30 w31 w32 w33 w34 w35 w36
  refine lv_aload_n hx hb dX6_init_63 rfl (lv_at hl 0 rfl) ?_
  refine lv_aload hx hb dX6_init_64 (lv_at hl 5 rfl) ?_
  refine lv_ifnonnull (tgt := 73) hx hb dX6_init_66 (by decide) ?_
  refine lv_aload hx hb dX6_init_73 (lv_at hl 5 rfl) ?_
  refine pg_gi (ci := 4) (C := RX4) (T := TX4) (N := 6) hx hb hts wi4 hown hK hW hg (by decide) rfl 5 (by decide) (hts (.fieldLink RX6 42 "IceHall$Rights" "hundredths" "I") (by decide +kernel)) (fun _ h9 => h9) rfl dX6_init_75 ?_
  refine pg_pf (ci := 6) (C := RX6) (T := TX6) (N := 10) hx hb hts wi6 tyX6 tyX6_ok nmX6 hown hK hW hS hk (by decide) rfl 3 (by decide) (hts (.fieldLink RX6 45 "IceHall$Session" "hundredths" "I") (by decide +kernel)) (fun _ h9 => h9) rfl hnm rfl rfl rfl dX6_init_78 (fun H locs hW hS => ?_)
  have hX : Kx [h] S (stI (stI (stI (stI (stI (stI (stI (stI (stI (stI S h 6 0) h 7 0) h 8 0) h 9 0) h 0 a) h 1 k) h 4 t) h 5 x) h 2 (sI (stI (stI (stI (stI (stI (stI (stI (stI S h 6 0) h 7 0) h 8 0) h 9 0) h 0 a) h 1 k) h 4 t) h 5 x) g 4)) h 3 (sI (stI (stI (stI (stI (stI (stI (stI (stI (stI S h 6 0) h 7 0) h 8 0) h 9 0) h 0 a) h 1 k) h 4 t) h 5 x) h 2 (sI (stI (stI (stI (stI (stI (stI (stI (stI S h 6 0) h 7 0) h 8 0) h 9 0) h 0 a) h 1 k) h 4 t) h 5 x) g 4)) g 5)) := hX.Ih List.mem_cons_self
  have w46 : sI (stI (stI (stI (stI (stI (stI (stI (stI (stI (stI S h 6 0) h 7 0) h 8 0) h 9 0) h 0 a) h 1 k) h 4 t) h 5 x) h 2 (sI (stI (stI (stI (stI (stI (stI (stI (stI S h 6 0) h 7 0) h 8 0) h 9 0) h 0 a) h 1 k) h 4 t) h 5 x) g 4)) h 3 (sI (stI (stI (stI (stI (stI (stI (stI (stI (stI S h 6 0) h 7 0) h 8 0) h 9 0) h 0 a) h 1 k) h 4 t) h 5 x) h 2 (sI (stI (stI (stI (stI (stI (stI (stI (stI S h 6 0) h 7 0) h 8 0) h 9 0) h 0 a) h 1 k) h 4 t) h 5 x) g 4)) g 5)) h 6 = 0 := (iI_k (by decide)).trans w37
  have w47 : sI (stI (stI (stI (stI (stI (stI (stI (stI (stI (stI S h 6 0) h 7 0) h 8 0) h 9 0) h 0 a) h 1 k) h 4 t) h 5 x) h 2 (sI (stI (stI (stI (stI (stI (stI (stI (stI S h 6 0) h 7 0) h 8 0) h 9 0) h 0 a) h 1 k) h 4 t) h 5 x) g 4)) h 3 (sI (stI (stI (stI (stI (stI (stI (stI (stI (stI S h 6 0) h 7 0) h 8 0) h 9 0) h 0 a) h 1 k) h 4 t) h 5 x) h 2 (sI (stI (stI (stI (stI (stI (stI (stI (stI S h 6 0) h 7 0) h 8 0) h 9 0) h 0 a) h 1 k) h 4 t) h 5 x) g 4)) g 5)) h 7 = 0 := (iI_k (by decide)).trans w38
  have w48 : sI (stI (stI (stI (stI (stI (stI (stI (stI (stI (stI S h 6 0) h 7 0) h 8 0) h 9 0) h 0 a) h 1 k) h 4 t) h 5 x) h 2 (sI (stI (stI (stI (stI (stI (stI (stI (stI S h 6 0) h 7 0) h 8 0) h 9 0) h 0 a) h 1 k) h 4 t) h 5 x) g 4)) h 3 (sI (stI (stI (stI (stI (stI (stI (stI (stI (stI S h 6 0) h 7 0) h 8 0) h 9 0) h 0 a) h 1 k) h 4 t) h 5 x) h 2 (sI (stI (stI (stI (stI (stI (stI (stI (stI S h 6 0) h 7 0) h 8 0) h 9 0) h 0 a) h 1 k) h 4 t) h 5 x) g 4)) g 5)) h 8 = 0 := (iI_k (by decide)).trans w39
  have w49 : sI (stI (stI (stI (stI (stI (stI (stI (stI (stI (stI S h 6 0) h 7 0) h 8 0) h 9 0) h 0 a) h 1 k) h 4 t) h 5 x) h 2 (sI (stI (stI (stI (stI (stI (stI (stI (stI S h 6 0) h 7 0) h 8 0) h 9 0) h 0 a) h 1 k) h 4 t) h 5 x) g 4)) h 3 (sI (stI (stI (stI (stI (stI (stI (stI (stI (stI S h 6 0) h 7 0) h 8 0) h 9 0) h 0 a) h 1 k) h 4 t) h 5 x) h 2 (sI (stI (stI (stI (stI (stI (stI (stI (stI S h 6 0) h 7 0) h 8 0) h 9 0) h 0 a) h 1 k) h 4 t) h 5 x) g 4)) g 5)) h 9 = 0 := (iI_k (by decide)).trans w40
  have w50 : sI (stI (stI (stI (stI (stI (stI (stI (stI (stI (stI S h 6 0) h 7 0) h 8 0) h 9 0) h 0 a) h 1 k) h 4 t) h 5 x) h 2 (sI (stI (stI (stI (stI (stI (stI (stI (stI S h 6 0) h 7 0) h 8 0) h 9 0) h 0 a) h 1 k) h 4 t) h 5 x) g 4)) h 3 (sI (stI (stI (stI (stI (stI (stI (stI (stI (stI S h 6 0) h 7 0) h 8 0) h 9 0) h 0 a) h 1 k) h 4 t) h 5 x) h 2 (sI (stI (stI (stI (stI (stI (stI (stI (stI S h 6 0) h 7 0) h 8 0) h 9 0) h 0 a) h 1 k) h 4 t) h 5 x) g 4)) g 5)) h 0 = a := (iI_k (by decide)).trans w41
  have w51 : sI (stI (stI (stI (stI (stI (stI (stI (stI (stI (stI S h 6 0) h 7 0) h 8 0) h 9 0) h 0 a) h 1 k) h 4 t) h 5 x) h 2 (sI (stI (stI (stI (stI (stI (stI (stI (stI S h 6 0) h 7 0) h 8 0) h 9 0) h 0 a) h 1 k) h 4 t) h 5 x) g 4)) h 3 (sI (stI (stI (stI (stI (stI (stI (stI (stI (stI S h 6 0) h 7 0) h 8 0) h 9 0) h 0 a) h 1 k) h 4 t) h 5 x) h 2 (sI (stI (stI (stI (stI (stI (stI (stI (stI S h 6 0) h 7 0) h 8 0) h 9 0) h 0 a) h 1 k) h 4 t) h 5 x) g 4)) g 5)) h 1 = k := (iI_k (by decide)).trans w42
  have w52 : sI (stI (stI (stI (stI (stI (stI (stI (stI (stI (stI S h 6 0) h 7 0) h 8 0) h 9 0) h 0 a) h 1 k) h 4 t) h 5 x) h 2 (sI (stI (stI (stI (stI (stI (stI (stI (stI S h 6 0) h 7 0) h 8 0) h 9 0) h 0 a) h 1 k) h 4 t) h 5 x) g 4)) h 3 (sI (stI (stI (stI (stI (stI (stI (stI (stI (stI S h 6 0) h 7 0) h 8 0) h 9 0) h 0 a) h 1 k) h 4 t) h 5 x) h 2 (sI (stI (stI (stI (stI (stI (stI (stI (stI S h 6 0) h 7 0) h 8 0) h 9 0) h 0 a) h 1 k) h 4 t) h 5 x) g 4)) g 5)) h 4 = t := (iI_k (by decide)).trans w43
  have w53 : sI (stI (stI (stI (stI (stI (stI (stI (stI (stI (stI S h 6 0) h 7 0) h 8 0) h 9 0) h 0 a) h 1 k) h 4 t) h 5 x) h 2 (sI (stI (stI (stI (stI (stI (stI (stI (stI S h 6 0) h 7 0) h 8 0) h 9 0) h 0 a) h 1 k) h 4 t) h 5 x) g 4)) h 3 (sI (stI (stI (stI (stI (stI (stI (stI (stI (stI S h 6 0) h 7 0) h 8 0) h 9 0) h 0 a) h 1 k) h 4 t) h 5 x) h 2 (sI (stI (stI (stI (stI (stI (stI (stI (stI S h 6 0) h 7 0) h 8 0) h 9 0) h 0 a) h 1 k) h 4 t) h 5 x) g 4)) g 5)) h 5 = x := (iI_k (by decide)).trans w44
  have w54 : sI (stI (stI (stI (stI (stI (stI (stI (stI (stI (stI S h 6 0) h 7 0) h 8 0) h 9 0) h 0 a) h 1 k) h 4 t) h 5 x) h 2 (sI (stI (stI (stI (stI (stI (stI (stI (stI S h 6 0) h 7 0) h 8 0) h 9 0) h 0 a) h 1 k) h 4 t) h 5 x) g 4)) h 3 (sI (stI (stI (stI (stI (stI (stI (stI (stI (stI S h 6 0) h 7 0) h 8 0) h 9 0) h 0 a) h 1 k) h 4 t) h 5 x) h 2 (sI (stI (stI (stI (stI (stI (stI (stI (stI S h 6 0) h 7 0) h 8 0) h 9 0) h 0 a) h 1 k) h 4 t) h 5 x) g 4)) g 5)) h 2 = sI (stI (stI (stI (stI (stI (stI (stI (stI S h 6 0) h 7 0) h 8 0) h 9 0) h 0 a) h 1 k) h 4 t) h 5 x) g 4 := (iI_k (by decide)).trans w45
  have w55 : sI (stI (stI (stI (stI (stI (stI (stI (stI (stI (stI S h 6 0) h 7 0) h 8 0) h 9 0) h 0 a) h 1 k) h 4 t) h 5 x) h 2 (sI (stI (stI (stI (stI (stI (stI (stI (stI S h 6 0) h 7 0) h 8 0) h 9 0) h 0 a) h 1 k) h 4 t) h 5 x) g 4)) h 3 (sI (stI (stI (stI (stI (stI (stI (stI (stI (stI S h 6 0) h 7 0) h 8 0) h 9 0) h 0 a) h 1 k) h 4 t) h 5 x) h 2 (sI (stI (stI (stI (stI (stI (stI (stI (stI S h 6 0) h 7 0) h 8 0) h 9 0) h 0 a) h 1 k) h 4 t) h 5 x) g 4)) g 5)) h 3 = sI (stI (stI (stI (stI (stI (stI (stI (stI (stI S h 6 0) h 7 0) h 8 0) h 9 0) h 0 a) h 1 k) h 4 t) h 5 x) h 2 (sI (stI (stI (stI (stI (stI (stI (stI (stI S h 6 0) h 7 0) h 8 0) h 9 0) h 0 a) h 1 k) h 4 t) h 5 x) g 4)) g 5 := iI_s
  clear w37 w38 w39 w40 w41 w42 w43 w44 w45
  exact pc_vret (S := stI (stI (stI (stI (stI (stI (stI (stI (stI (stI S h 6 0) h 7 0) h 8 0) h 9 0) h 0 a) h 1 k) h 4 t) h 5 x) h 2 (sI (stI (stI (stI (stI (stI (stI (stI (stI S h 6 0) h 7 0) h 8 0) h 9 0) h 0 a) h 1 k) h 4 t) h 5 x) g 4)) h 3 (sI (stI (stI (stI (stI (stI (stI (stI (stI (stI S h 6 0) h 7 0) h 8 0) h 9 0) h 0 a) h 1 k) h 4 t) h 5 x) h 2 (sI (stI (stI (stI (stI (stI (stI (stI (stI S h 6 0) h 7 0) h 8 0) h 9 0) h 0 a) h 1 k) h 4 t) h 5 x) g 4)) g 5)) hx hb hr hlk hK hZ hA hW hS (⟨hX, hk⟩) dX6_init_81
set_option maxHeartbeats 4000000 in
set_option maxRecDepth 100000 in
theorem c_X8_book (l : Launch) (D : va_G) (cy : Nat → ClassId) (A : Nat → Prop) (S : St) (h i1 i2 q1 w1 q2 w2 q3 w3 q4 w4 rif rg ses : Nat) (a k t x : Int32) (a_0 : sK S h = 8) (a_1 : sR S h 0 = some i1) (a_2 : sR S h 1 = some i2) (a_3 : sR S h 2 = some rif) (a_4 : sR S h 3 = some ses) (a_10 : sK S i1 = 1) (a_11 : sR S i1 0 = some q1) (a_12 : sK S q1 = 0) (a_13 : sR S q1 0 = some w1) (a_14 : sK S w1 = 12) (a_15 : sL S w1 = 32) (a_16 : ∀ j, sJ S w1 j = 0) (a_17 : sR S i1 1 = some q2) (a_18 : sK S q2 = 0) (a_19 : sR S q2 0 = some w2) (a_20 : sK S w2 = 12) (a_21 : sL S w2 = 32) (a_22 : ∀ j, sJ S w2 j = 0) (a_23 : sI S i1 2 = 0) (a_24 : sI S i1 3 = 300) (a_25 : sI S i1 4 = 0) (a_26 : sI S i1 5 = 0) (a_27 : sI S i1 6 = 0) (a_28 : sI S i1 7 = 0) (a_29 : sI S i1 8 = 0) (a_30 : sI S i1 9 = 0) (a_31 : sK S i2 = 1) (a_32 : sR S i2 0 = some q3) (a_33 : sK S q3 = 0) (a_34 : sR S q3 0 = some w3) (a_35 : sK S w3 = 12) (a_36 : sL S w3 = 32) (a_37 : ∀ j, sJ S w3 j = 0) (a_38 : sR S i2 1 = some q4) (a_39 : sK S q4 = 0) (a_40 : sR S q4 0 = some w4) (a_41 : sK S w4 = 12) (a_42 : sL S w4 = 32) (a_43 : ∀ j, sJ S w4 j = 0) (a_44 : sI S i2 2 = 0) (a_45 : sI S i2 3 = 300) (a_46 : sI S i2 4 = 0) (a_47 : sI S i2 5 = 0) (a_48 : sI S i2 6 = 0) (a_49 : sI S i2 7 = 0) (a_50 : sI S i2 8 = 0) (a_51 : sI S i2 9 = 0) (a_52 : sK S rif = 14) (a_53 : sL S rif = 6) (a_54 : sK S ses = 15) (a_55 : sL S ses = 200) (a_56 : ∀ j, j < 200 → sR S ses j = none) (a_105 : sK S rg = 4) (a_106 : sI S rg 0 = 16777215) (a_107 : sI S rg 1 = 127) (a_108 : sI S rg 2 = 15) (a_109 : sI S rg 3 = 168) (a_110 : sI S rg 4 = 100) (a_111 : sI S rg 5 = 50) (a_112 : ∀ j, j < 6 → sR S rif j = some rg) (a_113 : sI S h 9 = 0) (a_114 : sI S h 10 = 0) (a_115 : sI S h 11 = 200) (a_116 : sI S h 12 = 400) (a_117 : sI S h 13 = 3) (a_118 : sI S h 14 = 2) (a_119 : sI S h 15 = 0) (a_120 : sI S h 16 = 0) (a_121 : sI S h 17 = 0) : MI l yX8_book wsX8_book ({ frames := 3, cells := 1, slots := 10, locals := 85 } : Room) 1 10 D cy A [.ref h, .int a, .int k, .int t, .int x] S (fun r S1 => (r = 0 ∧ 0 ≤ a.toInt ∧ a.toInt < 6 ∧ 0 ≤ k.toInt ∧ k.toInt < 4 ∧ 0 ≤ t.toInt ∧ t.toInt < 2 ∧ 0 ≤ x.toInt ∧ x.toInt ≤ 999) ∨ (r = (-1) ∧ ¬ (0 ≤ a.toInt ∧ a.toInt < 6 ∧ 0 ≤ k.toInt ∧ k.toInt < 4 ∧ 0 ≤ t.toInt ∧ t.toInt < 2 ∧ 0 ≤ x.toInt ∧ x.toInt ≤ 999))) := by
  refine mt_start (cc := cX8_book) (maxL := 7) (ret := (some .int)) (by decide) rfl (Nat.le_of_ble_eq_true rfl) ?_
  intro p e s m args below meth c hx hb hr hlk hml hown hnm hts hK hZ hA hW hS ls hl
  have hl : lv_has ls 7 [(0, .ref h), (1, .int a), (2, .int k), (3, .int t), (4, .int x)] := hl
  have hown : s.vm.findClass RX8 = some m.cls := hown
  have F : CallFix p m c cX8_book 7 s args wsX8_book RX8 := ⟨hx, hb, hml, hown, hts⟩
  have wi1 : ∀ w ∈ u_ws RX1 TX1 10, w ∈ wsX8_book := by decide +kernel
  have wi4 : ∀ w ∈ u_ws RX4 TX4 6, w ∈ wsX8_book := by decide +kernel
  have wi6 : ∀ w ∈ u_ws RX6 TX6 10, w ∈ wsX8_book := by decide +kernel
  have wi8 : ∀ w ∈ u_ws RX8 TX8 18, w ∈ wsX8_book := by decide +kernel
  refine lv_iload_n hx hb dX8_book_0 rfl (lv_at hl 1 rfl) ?_
  refine lv_bipush (v := 6) hx hb dX8_book_1 (by decide) ?_
  refine pc_Si (As := [.int a, .int 6]) (rest := []) F (c_X8_isBelow l D cy A S a 6 ) (va_cwS 2 hts gX8_book_X8_isBelow rfl rfl rfl (by decide +kernel) ⟨Nat.le_of_ble_eq_true rfl, Nat.le_of_ble_eq_true rfl⟩) hK hZ hA hW hS rfl hl.1 rfl (Nat.le_of_ble_eq_true rfl) dX8_book_3 ⟨Nat.le_of_ble_eq_true rfl, Nat.le_of_ble_eq_true rfl⟩ (fun v1 T2 H locs p3 hW hS => ?_)
  obtain ⟨eT2, p3⟩ := p3
  rw [eT2] at hW
  have p3 := isb_lit (n := 6) rfl p3
  refine lv_if_eq (tgt := 25) hx hb dX8_book_6 (by decide) (fun c4 => ?_) (fun c4 => ?_)
  · have c4i : Int32.toInt v1 = (0 : Int) := (i3_eq _ _).mp c4
    refine lv_iconst (v := (-1)) hx hb dX8_book_25 (by decide) ?_
    refine W.widen (k := 1) (n := 10) (by decide) (by decide) ?_
    exact pc_iret (v := (-1)) (S := S) hx hb hr hlk hK hZ hA hW hS (Or.inr ⟨rfl, by omega⟩) dX8_book_26
  · have c4i : ¬ (Int32.toInt v1 = (0 : Int)) := fun h9 => c4 ((i3_eq _ _).mpr h9)
    refine lv_iload_n hx hb dX8_book_9 rfl (lv_at hl 2 rfl) ?_
    refine lv_iconst (v := 4) hx hb dX8_book_10 (by decide) ?_
    refine pc_Si (As := [.int k, .int 4]) (rest := []) F (c_X8_isBelow l D cy A S k 4 ) (va_cwS 2 hts gX8_book_X8_isBelow rfl rfl rfl (by decide +kernel) ⟨Nat.le_of_ble_eq_true rfl, Nat.le_of_ble_eq_true rfl⟩) hK hZ hA hW hS rfl hl.1 rfl (Nat.le_of_ble_eq_true rfl) dX8_book_11 ⟨Nat.le_of_ble_eq_true rfl, Nat.le_of_ble_eq_true rfl⟩ (fun v5 T6 H locs p7 hW hS => ?_)
    obtain ⟨eT6, p7⟩ := p7
    rw [eT6] at hW
    have p7 := isb_lit (n := 4) rfl p7
    refine lv_if_eq (tgt := 25) hx hb dX8_book_14 (by decide) (fun c8 => ?_) (fun c8 => ?_)
    · have c8i : Int32.toInt v5 = (0 : Int) := (i3_eq _ _).mp c8
      refine lv_iconst (v := (-1)) hx hb dX8_book_25 (by decide) ?_
      refine W.widen (k := 1) (n := 10) (by decide) (by decide) ?_
      exact pc_iret (v := (-1)) (S := S) hx hb hr hlk hK hZ hA hW hS (Or.inr ⟨rfl, by omega⟩) dX8_book_26
    · have c8i : ¬ (Int32.toInt v5 = (0 : Int)) := fun h9 => c8 ((i3_eq _ _).mpr h9)
      refine lv_iload_n hx hb dX8_book_17 rfl (lv_at hl 3 rfl) ?_
      refine lv_iconst (v := 2) hx hb dX8_book_18 (by decide) ?_
      refine pc_Si (As := [.int t, .int 2]) (rest := []) F (c_X8_isBelow l D cy A S t 2 ) (va_cwS 2 hts gX8_book_X8_isBelow rfl rfl rfl (by decide +kernel) ⟨Nat.le_of_ble_eq_true rfl, Nat.le_of_ble_eq_true rfl⟩) hK hZ hA hW hS rfl hl.1 rfl (Nat.le_of_ble_eq_true rfl) dX8_book_19 ⟨Nat.le_of_ble_eq_true rfl, Nat.le_of_ble_eq_true rfl⟩ (fun v9 T10 H locs p11 hW hS => ?_)
      obtain ⟨eT10, p11⟩ := p11
      rw [eT10] at hW
      have p11 := isb_lit (n := 2) rfl p11
      refine lv_if_ne (tgt := 27) hx hb dX8_book_22 (by decide) (fun c12 => ?_) (fun c12 => ?_)
      · have c12i : ¬ (Int32.toInt v9 = (0 : Int)) := fun h9 => c12 ((i3_eq _ _).mpr h9)
        refine lv_iload hx hb dX8_book_27 (lv_at hl 4 rfl) ?_
        refine lv_aload_n hx hb dX8_book_29 rfl (lv_at hl 0 rfl) ?_
        refine pg_gi (ci := 8) (C := RX8) (T := TX8) (N := 18) hx hb hts wi8 hown hK hW a_0 (by decide) rfl 10 (by decide) (hts (.fieldLink RX8 96 "IceHall" "now" "I") (by decide +kernel)) (fun _ h9 => h9) rfl dX8_book_30 ?_
        rw [show sI S h 10 = 0 from a_114]
        refine lv_icmp_lt (tgt := 59) hx hb dX8_book_33 (by decide) (fun c13 => ?_) (fun c13 => ?_)
        · have c13i : Int32.toInt x < (0 : Int) := (i3_lt _ _).mp c13
          refine lv_iconst (v := (-1)) hx hb dX8_book_59 (by decide) ?_
          refine W.widen (k := 1) (n := 10) (by decide) (by decide) ?_
          exact pc_iret (v := (-1)) (S := S) hx hb hr hlk hK hZ hA hW hS (Or.inr ⟨rfl, by omega⟩) dX8_book_60
        · have c13i : ¬ (Int32.toInt x < (0 : Int)) := fun h9 => c13 ((i3_lt _ _).mpr h9)
          refine lv_iload hx hb dX8_book_36 (lv_at hl 4 rfl) ?_
          refine lv_aload_n hx hb dX8_book_38 rfl (lv_at hl 0 rfl) ?_
          refine pg_gi (ci := 8) (C := RX8) (T := TX8) (N := 18) hx hb hts wi8 hown hK hW a_0 (by decide) rfl 10 (by decide) (hts (.fieldLink RX8 96 "IceHall" "now" "I") (by decide +kernel)) (fun _ h9 => h9) rfl dX8_book_39 ?_
          rw [show sI S h 10 = 0 from a_114]
          refine lv_sipush (v := 999) hx hb dX8_book_42 (by decide) ?_
          refine lv_iadd hx hb dX8_book_45 ?_
          rw [show (0 + 999 : Int32) = 999 from by decide]
          refine lv_icmp_gt (tgt := 59) hx hb dX8_book_46 (by decide) (fun c14 => ?_) (fun c14 => ?_)
          · have c14i : (999 : Int) < Int32.toInt x := (i3_lt _ _).mp c14
            refine lv_iconst (v := (-1)) hx hb dX8_book_59 (by decide) ?_
            refine W.widen (k := 1) (n := 10) (by decide) (by decide) ?_
            exact pc_iret (v := (-1)) (S := S) hx hb hr hlk hK hZ hA hW hS (Or.inr ⟨rfl, by omega⟩) dX8_book_60
          · have c14i : ¬ ((999 : Int) < Int32.toInt x) := fun h9 => c14 ((i3_lt _ _).mpr h9)
            refine lv_aload_n hx hb dX8_book_49 rfl (lv_at hl 0 rfl) ?_
            refine pg_gi (ci := 8) (C := RX8) (T := TX8) (N := 18) hx hb hts wi8 hown hK hW a_0 (by decide) rfl 9 (by decide) (hts (.fieldLink RX8 99 "IceHall" "everBooked" "I") (by decide +kernel)) (fun _ h9 => h9) rfl dX8_book_50 ?_
            rw [show sI S h 9 = 0 from a_113]
            refine lv_sipush (v := 200) hx hb dX8_book_53 (by decide) ?_
            refine lv_icmp_lt (tgt := 61) hx hb dX8_book_56 (by decide) (fun c15 => ?_) (fun c15 => absurd (by decide) c15)
            refine lv_aload_n hx hb dX8_book_61 rfl (lv_at hl 0 rfl) ?_
            refine pg_gr (b := rif) (ci := 8) (C := RX8) (T := TX8) (N := 18) hx hb hts wi8 hown hK hW a_0 (by decide) rfl 2 (by decide) (hts (.fieldLink RX8 21 "IceHall" "rightsInForce" "[LIceHall$Rights;") (by decide +kernel)) (fun _ h9 => h9) rfl a_3 dX8_book_62 ?_
            refine lv_iload_n hx hb dX8_book_65 rfl (lv_at hl 1 rfl) ?_
            refine pg_aaldR hx hb hK hW a_52 (by rw [show sL S rif = 6 from a_53]; exact r_in (by omega)) dX8_book_66 ?_
            rw [show sR S rif (Int32.toNatClampNeg a) = some rg from a_112 _ (cl_lt (by omega) (by omega))]
            refine lv_astore (lv' := [(5, .ref rg), (0, .ref h), (1, .int a), (2, .int k), (3, .int t), (4, .int x)]) hx hb dX8_book_67 hl (by decide) rfl (fun ls hl => ?_)
            refine lv_aload hx hb dX8_book_69 (lv_at hl 0 rfl) ?_
            refine lv_ifnull hx hb dX8_book_71 ?_
            refine lv_aload hx hb dX8_book_74 (lv_at hl 0 rfl) ?_
            refine lv_iload_n hx hb dX8_book_76 rfl (lv_at hl 3 rfl) ?_
            refine lv_iload hx hb dX8_book_77 (lv_at hl 5 rfl) ?_
            refine pc_Vi (As := [.int k, .int x]) (rest := []) F (c_X4_let l D cy A S rg k x a_105 a_106 a_107 a_108 a_109 a_110 a_111 (by omega) (by omega) (by omega)) (cwV 2 hts gX8_book_X4_let rfl rfl rfl (by decide +kernel) ⟨Nat.le_of_ble_eq_true rfl, Nat.le_of_ble_eq_true rfl⟩) hK hZ hA hW hS a_105 (by decide) rfl rfl hl.1 rfl (Nat.le_of_ble_eq_true rfl) dX8_book_79 ⟨Nat.le_of_ble_eq_true rfl, Nat.le_of_ble_eq_true rfl⟩ (fun v18 T19 H locs p20 hW hS => ?_)
            obtain ⟨eT19, p20⟩ := p20
            rw [eT19] at hW
            rw [show v18 = 1 from p20]
            refine lv_if_ne (tgt := 87) hx hb dX8_book_82 (by decide) (fun c21 => ?_) (fun c21 => absurd c21 (by decide))
            refine lv_aload_n hx hb dX8_book_87 rfl (lv_at hl 1 rfl) ?_
            refine lv_iload_n hx hb dX8_book_88 rfl (lv_at hl 2 rfl) ?_
            refine lv_iload hx hb dX8_book_89 (lv_at hl 5 rfl) ?_
            refine lv_sipush (v := 168) hx hb dX8_book_91 (by decide) ?_
            refine lv_idiv hx hb dX8_book_94 (by decide) ?_
            refine pc_Vi (As := [.int a, .int (x / 168)]) (rest := []) F (c_X8_countInWeek l D cy A S h a (x / 168) a_0 a_113) (cwV 2 hts gX8_book_X8_countInWeek rfl rfl rfl (by decide +kernel) ⟨Nat.le_of_ble_eq_true rfl, Nat.le_of_ble_eq_true rfl⟩) hK hZ hA hW hS a_0 (by decide) rfl rfl hl.1 rfl (Nat.le_of_ble_eq_true rfl) dX8_book_95 ⟨Nat.le_of_ble_eq_true rfl, Nat.le_of_ble_eq_true rfl⟩ (fun v22 T23 H locs p24 hW hS => ?_)
            obtain ⟨eT23, p24⟩ := p24
            rw [eT23] at hW
            rw [show v22 = 0 from p24]
            refine lv_aload hx hb dX8_book_98 (lv_at hl 0 rfl) ?_
            refine pg_gi (ci := 4) (C := RX4) (T := TX4) (N := 6) hx hb hts wi4 hown hK hW a_105 (by decide) rfl 3 (by decide) (hts (.fieldLink RX8 109 "IceHall$Rights" "inWeek" "I") (by decide +kernel)) (fun _ h9 => h9) rfl dX8_book_100 ?_
            rw [show sI S rg 3 = 168 from a_109]
            refine lv_icmp_lt (tgt := 108) hx hb dX8_book_103 (by decide) (fun c25 => ?_) (fun c25 => absurd (by decide) c25)
            refine lv_aload_n hx hb dX8_book_108 rfl (lv_at hl 1 rfl) ?_
            refine lv_iload_n hx hb dX8_book_109 rfl (lv_at hl 4 rfl) ?_
            refine pc_Vq (As := [.int t]) (rest := []) F (c_X8_iceOf l D cy A S h i1 i2 t a_0 a_1 a_2) (cwV 1 hts gX8_book_X8_iceOf rfl rfl rfl (by decide +kernel) ⟨Nat.le_of_ble_eq_true rfl, Nat.le_of_ble_eq_true rfl⟩) hK hZ hA hW hS a_0 (by decide) rfl rfl hl.1 rfl (Nat.le_of_ble_eq_true rfl) dX8_book_110 ⟨Nat.le_of_ble_eq_true rfl, Nat.le_of_ble_eq_true rfl⟩ (fun v26 T27 H locs p28 hW hS => ?_)
            obtain ⟨eT27, p28⟩ := p28
            rw [eT27] at hW
            by_cases c29 : t = 0
            · rw [show v26 = some i1 from by rw [p28, if_pos c29]]
              refine lv_astore (lv' := [(6, .ref i1), (5, .ref rg), (0, .ref h), (1, .int a), (2, .int k), (3, .int t), (4, .int x)]) hx hb dX8_book_113 hl (by decide) rfl (fun ls hl => ?_)
              refine lv_aload hx hb dX8_book_115 (lv_at hl 0 rfl) ?_
              refine lv_iload hx hb dX8_book_117 (lv_at hl 6 rfl) ?_
              refine lv_aload_n hx hb dX8_book_119 rfl (lv_at hl 2 rfl) ?_
              refine pg_gi (ci := 8) (C := RX8) (T := TX8) (N := 18) hx hb hts wi8 hown hK hW a_0 (by decide) rfl 14 (by decide) (hts (.fieldLink RX8 78 "IceHall" "restMost" "I") (by decide +kernel)) (fun _ h9 => h9) rfl dX8_book_120 ?_
              rw [show sI S h 14 = 2 from a_118]
              refine pc_Vi (As := [.int x, .int 2]) (rest := []) F (c_X1_hasRoom l D cy A S i1 q1 w1 q2 w2 x a_10 a_11 a_12 a_13 a_14 a_15 a_16 a_17 a_18 a_19 a_20 a_21 a_22) (cwV 2 hts gX8_book_X1_hasRoom rfl rfl rfl (by decide +kernel) ⟨Nat.le_of_ble_eq_true rfl, Nat.le_of_ble_eq_true rfl⟩) hK hZ hA hW hS a_10 (by decide) rfl rfl hl.1 rfl (Nat.le_of_ble_eq_true rfl) dX8_book_123 ⟨Nat.le_of_ble_eq_true rfl, Nat.le_of_ble_eq_true rfl⟩ (fun v30 T31 H locs p32 hW hS => ?_)
              obtain ⟨eT31, p32⟩ := p32
              rw [eT31] at hW
              rw [show v30 = 1 from p32]
              refine lv_if_ne (tgt := 131) hx hb dX8_book_126 (by decide) (fun c33 => ?_) (fun c33 => absurd c33 (by decide))
              refine lv_aload hx hb dX8_book_131 (lv_at hl 0 rfl) ?_
              refine pg_gr (b := q1) (ci := 1) (C := RX1) (T := TX1) (N := 10) hx hb hts wi1 hown hK hW a_10 (by decide) rfl 0 (by decide) (hts (.fieldLink RX8 119 "IceHall$Ice" "taken" "LIceHall$HourSet;") (by decide +kernel)) (fun _ h9 => h9) rfl a_11 dX8_book_133 ?_
              refine lv_iload hx hb dX8_book_136 (lv_at hl 6 rfl) ?_
              refine pc_Vv (As := [.int x]) (rest := []) F (c_X0_put l D cy A S q1 w1 x a_12 a_13 a_14 a_15) (cwV 1 hts gX8_book_X0_put rfl rfl rfl (by decide +kernel) ⟨Nat.le_of_ble_eq_true rfl, Nat.le_of_ble_eq_true rfl⟩) hK hZ hA hW hS a_12 (by decide) rfl rfl hl.1 rfl (Nat.le_of_ble_eq_true rfl) dX8_book_138 ⟨Nat.le_of_ble_eq_true rfl, Nat.le_of_ble_eq_true rfl⟩ (fun T35 H locs p36 hW hS => ?_)
              obtain ⟨ekT35, erT35, elT35, eiT35⟩ := p36
              have f37 : sK T35 h = 8 := by rw [ekT35]; exact a_0
              have f38 : sK T35 i1 = 1 := by rw [ekT35]; exact a_10
              have f39 : sK T35 q1 = 0 := by rw [ekT35]; exact a_12
              have f40 : sK T35 w1 = 12 := by rw [ekT35]; exact a_14
              have f41 : sK T35 q2 = 0 := by rw [ekT35]; exact a_18
              have f42 : sK T35 w2 = 12 := by rw [ekT35]; exact a_20
              have f43 : sK T35 i2 = 1 := by rw [ekT35]; exact a_31
              have f44 : sK T35 q3 = 0 := by rw [ekT35]; exact a_33
              have f45 : sK T35 w3 = 12 := by rw [ekT35]; exact a_35
              have f46 : sK T35 q4 = 0 := by rw [ekT35]; exact a_39
              have f47 : sK T35 w4 = 12 := by rw [ekT35]; exact a_41
              have f48 : sK T35 rif = 14 := by rw [ekT35]; exact a_52
              have f49 : sK T35 ses = 15 := by rw [ekT35]; exact a_54
              have f50 : sK T35 rg = 4 := by rw [ekT35]; exact a_105
              have f51 : sL T35 w1 = 32 := by rw [elT35]; exact a_15
              have f52 : sL T35 w2 = 32 := by rw [elT35]; exact a_21
              have f53 : sL T35 w3 = 32 := by rw [elT35]; exact a_36
              have f54 : sL T35 w4 = 32 := by rw [elT35]; exact a_42
              have f55 : sL T35 rif = 6 := by rw [elT35]; exact a_53
              have f56 : sL T35 ses = 200 := by rw [elT35]; exact a_55
              have f57 : sR T35 h 0 = some i1 := by rw [erT35]; exact a_1
              have f58 : sR T35 h 1 = some i2 := by rw [erT35]; exact a_2
              have f59 : sR T35 h 2 = some rif := by rw [erT35]; exact a_3
              have f60 : sR T35 h 3 = some ses := by rw [erT35]; exact a_4
              have f61 : sR T35 i1 0 = some q1 := by rw [erT35]; exact a_11
              have f62 : sR T35 q1 0 = some w1 := by rw [erT35]; exact a_13
              have f63 : sR T35 i1 1 = some q2 := by rw [erT35]; exact a_17
              have f64 : sR T35 q2 0 = some w2 := by rw [erT35]; exact a_19
              have f65 : sR T35 i2 0 = some q3 := by rw [erT35]; exact a_32
              have f66 : sR T35 q3 0 = some w3 := by rw [erT35]; exact a_34
              have f67 : sR T35 i2 1 = some q4 := by rw [erT35]; exact a_38
              have f68 : sR T35 q4 0 = some w4 := by rw [erT35]; exact a_40
              have f69 : sI T35 i1 2 = 0 := by rw [eiT35]; exact a_23
              have f70 : sI T35 i1 3 = 300 := by rw [eiT35]; exact a_24
              have f71 : sI T35 i1 4 = 0 := by rw [eiT35]; exact a_25
              have f72 : sI T35 i1 5 = 0 := by rw [eiT35]; exact a_26
              have f73 : sI T35 i1 6 = 0 := by rw [eiT35]; exact a_27
              have f74 : sI T35 i1 7 = 0 := by rw [eiT35]; exact a_28
              have f75 : sI T35 i1 8 = 0 := by rw [eiT35]; exact a_29
              have f76 : sI T35 i1 9 = 0 := by rw [eiT35]; exact a_30
              have f77 : sI T35 i2 2 = 0 := by rw [eiT35]; exact a_44
              have f78 : sI T35 i2 3 = 300 := by rw [eiT35]; exact a_45
              have f79 : sI T35 i2 4 = 0 := by rw [eiT35]; exact a_46
              have f80 : sI T35 i2 5 = 0 := by rw [eiT35]; exact a_47
              have f81 : sI T35 i2 6 = 0 := by rw [eiT35]; exact a_48
              have f82 : sI T35 i2 7 = 0 := by rw [eiT35]; exact a_49
              have f83 : sI T35 i2 8 = 0 := by rw [eiT35]; exact a_50
              have f84 : sI T35 i2 9 = 0 := by rw [eiT35]; exact a_51
              have f85 : sI T35 rg 0 = 16777215 := by rw [eiT35]; exact a_106
              have f86 : sI T35 rg 1 = 127 := by rw [eiT35]; exact a_107
              have f87 : sI T35 rg 2 = 15 := by rw [eiT35]; exact a_108
              have f88 : sI T35 rg 3 = 168 := by rw [eiT35]; exact a_109
              have f89 : sI T35 rg 4 = 100 := by rw [eiT35]; exact a_110
              have f90 : sI T35 rg 5 = 50 := by rw [eiT35]; exact a_111
              have f91 : sI T35 h 9 = 0 := by rw [eiT35]; exact a_113
              have f92 : sI T35 h 10 = 0 := by rw [eiT35]; exact a_114
              have f93 : sI T35 h 11 = 200 := by rw [eiT35]; exact a_115
              have f94 : sI T35 h 12 = 400 := by rw [eiT35]; exact a_116
              have f95 : sI T35 h 13 = 3 := by rw [eiT35]; exact a_117
              have f96 : sI T35 h 14 = 2 := by rw [eiT35]; exact a_118
              have f97 : sI T35 h 15 = 0 := by rw [eiT35]; exact a_119
              have f98 : sI T35 h 16 = 0 := by rw [eiT35]; exact a_120
              have f99 : sI T35 h 17 = 0 := by rw [eiT35]; exact a_121
              have f100 : ∀ j, j < 200 → sR T35 ses j = none := fun j hj => by rw [erT35]; exact a_56 j hj
              have f101 : ∀ j, j < 6 → sR T35 rif j = some rg := fun j hj => by rw [erT35]; exact a_112 j hj
              refine lv_aload_n hx hb dX8_book_141 rfl (lv_at hl 2 rfl) ?_
              refine pg_gr (b := ses) (ci := 8) (C := RX8) (T := TX8) (N := 18) hx hb hts wi8 hown hK hW f37 (by decide) rfl 3 (by decide) (hts (.fieldLink RX8 28 "IceHall" "sessions" "[LIceHall$Session;") (by decide +kernel)) (fun _ h9 => h9) rfl f60 dX8_book_142 ?_
              refine lv_aload_n hx hb dX8_book_145 rfl (lv_at hl 2 rfl) ?_
              refine pg_gi (ci := 8) (C := RX8) (T := TX8) (N := 18) hx hb hts wi8 hown hK hW f37 (by decide) rfl 9 (by decide) (hts (.fieldLink RX8 99 "IceHall" "everBooked" "I") (by decide +kernel)) (fun _ h9 => h9) rfl dX8_book_146 ?_
              rw [show sI T35 h 9 = 0 from f91]
              refine pg_new (ci := 6) (C := RX6) (T := TX6) (N := 10) hx hb hts wi6 tyX6 tyX6_ok hown (hts (.classLink RX8 26 RX6) (by decide +kernel)) (hts (.instantiable RX6 10) (by decide +kernel)) (hts (.initialized RX6) (by decide +kernel)) hK hW hS hA (by decide) rfl df_6 (Nat.le_of_ble_eq_true rfl) (Nat.le_of_ble_eq_true rfl) dX8_book_149 (fun q102 H hq102 hW hS => ?_)
              obtain ⟨S103, eS103⟩ : ∃ T : St, T = stN T35 q102 6 0 := ⟨_, rfl⟩
              rw [← eS103] at hW
              obtain ⟨k104, d105⟩ := fk_N (a := h) eS103 f37 (by decide) hq102
              obtain ⟨k106, d107⟩ := fk_N (a := i1) eS103 f38 (by decide) hq102
              obtain ⟨k108, d109⟩ := fk_N (a := q1) eS103 f39 (by decide) hq102
              obtain ⟨k110, d111⟩ := fk_N (a := w1) eS103 f40 (by decide) hq102
              obtain ⟨k112, d113⟩ := fk_N (a := q2) eS103 f41 (by decide) hq102
              obtain ⟨k114, d115⟩ := fk_N (a := w2) eS103 f42 (by decide) hq102
              obtain ⟨k116, d117⟩ := fk_N (a := i2) eS103 f43 (by decide) hq102
              obtain ⟨k118, d119⟩ := fk_N (a := q3) eS103 f44 (by decide) hq102
              obtain ⟨k120, d121⟩ := fk_N (a := w3) eS103 f45 (by decide) hq102
              obtain ⟨k122, d123⟩ := fk_N (a := q4) eS103 f46 (by decide) hq102
              obtain ⟨k124, d125⟩ := fk_N (a := w4) eS103 f47 (by decide) hq102
              obtain ⟨k126, d127⟩ := fk_N (a := rif) eS103 f48 (by decide) hq102
              obtain ⟨k128, d129⟩ := fk_N (a := ses) eS103 f49 (by decide) hq102
              obtain ⟨k130, d131⟩ := fk_N (a := rg) eS103 f50 (by decide) hq102
              have r132 : sR S103 h 0 = some i1 := by rw [eS103, rN, if_neg d105]; exact f57
              have r133 : sR S103 h 1 = some i2 := by rw [eS103, rN, if_neg d105]; exact f58
              have r134 : sR S103 h 2 = some rif := by rw [eS103, rN, if_neg d105]; exact f59
              have r135 : sR S103 h 3 = some ses := by rw [eS103, rN, if_neg d105]; exact f60
              have r136 : sR S103 i1 0 = some q1 := by rw [eS103, rN, if_neg d107]; exact f61
              have r137 : sR S103 q1 0 = some w1 := by rw [eS103, rN, if_neg d109]; exact f62
              have r138 : sR S103 i1 1 = some q2 := by rw [eS103, rN, if_neg d107]; exact f63
              have r139 : sR S103 q2 0 = some w2 := by rw [eS103, rN, if_neg d113]; exact f64
              have r140 : sR S103 i2 0 = some q3 := by rw [eS103, rN, if_neg d117]; exact f65
              have r141 : sR S103 q3 0 = some w3 := by rw [eS103, rN, if_neg d119]; exact f66
              have r142 : sR S103 i2 1 = some q4 := by rw [eS103, rN, if_neg d117]; exact f67
              have r143 : sR S103 q4 0 = some w4 := by rw [eS103, rN, if_neg d123]; exact f68
              have n144 : sL S103 w1 = 32 := by rw [eS103, lNw, if_neg d111]; exact f51
              have n145 : sL S103 w2 = 32 := by rw [eS103, lNw, if_neg d115]; exact f52
              have n146 : sL S103 w3 = 32 := by rw [eS103, lNw, if_neg d121]; exact f53
              have n147 : sL S103 w4 = 32 := by rw [eS103, lNw, if_neg d125]; exact f54
              have n148 : sL S103 rif = 6 := by rw [eS103, lNw, if_neg d127]; exact f55
              have n149 : sL S103 ses = 200 := by rw [eS103, lNw, if_neg d129]; exact f56
              have w150 : sI S103 i1 2 = 0 := by rw [eS103, iN, if_neg d107]; exact f69
              have w151 : sI S103 i1 3 = 300 := by rw [eS103, iN, if_neg d107]; exact f70
              have w152 : sI S103 i1 4 = 0 := by rw [eS103, iN, if_neg d107]; exact f71
              have w153 : sI S103 i1 5 = 0 := by rw [eS103, iN, if_neg d107]; exact f72
              have w154 : sI S103 i1 6 = 0 := by rw [eS103, iN, if_neg d107]; exact f73
              have w155 : sI S103 i1 7 = 0 := by rw [eS103, iN, if_neg d107]; exact f74
              have w156 : sI S103 i1 8 = 0 := by rw [eS103, iN, if_neg d107]; exact f75
              have w157 : sI S103 i1 9 = 0 := by rw [eS103, iN, if_neg d107]; exact f76
              have w158 : sI S103 i2 2 = 0 := by rw [eS103, iN, if_neg d117]; exact f77
              have w159 : sI S103 i2 3 = 300 := by rw [eS103, iN, if_neg d117]; exact f78
              have w160 : sI S103 i2 4 = 0 := by rw [eS103, iN, if_neg d117]; exact f79
              have w161 : sI S103 i2 5 = 0 := by rw [eS103, iN, if_neg d117]; exact f80
              have w162 : sI S103 i2 6 = 0 := by rw [eS103, iN, if_neg d117]; exact f81
              have w163 : sI S103 i2 7 = 0 := by rw [eS103, iN, if_neg d117]; exact f82
              have w164 : sI S103 i2 8 = 0 := by rw [eS103, iN, if_neg d117]; exact f83
              have w165 : sI S103 i2 9 = 0 := by rw [eS103, iN, if_neg d117]; exact f84
              have w166 : sI S103 rg 0 = 16777215 := by rw [eS103, iN, if_neg d131]; exact f85
              have w167 : sI S103 rg 1 = 127 := by rw [eS103, iN, if_neg d131]; exact f86
              have w168 : sI S103 rg 2 = 15 := by rw [eS103, iN, if_neg d131]; exact f87
              have w169 : sI S103 rg 3 = 168 := by rw [eS103, iN, if_neg d131]; exact f88
              have w170 : sI S103 rg 4 = 100 := by rw [eS103, iN, if_neg d131]; exact f89
              have w171 : sI S103 rg 5 = 50 := by rw [eS103, iN, if_neg d131]; exact f90
              have w172 : sI S103 h 9 = 0 := by rw [eS103, iN, if_neg d105]; exact f91
              have w173 : sI S103 h 10 = 0 := by rw [eS103, iN, if_neg d105]; exact f92
              have w174 : sI S103 h 11 = 200 := by rw [eS103, iN, if_neg d105]; exact f93
              have w175 : sI S103 h 12 = 400 := by rw [eS103, iN, if_neg d105]; exact f94
              have w176 : sI S103 h 13 = 3 := by rw [eS103, iN, if_neg d105]; exact f95
              have w177 : sI S103 h 14 = 2 := by rw [eS103, iN, if_neg d105]; exact f96
              have w178 : sI S103 h 15 = 0 := by rw [eS103, iN, if_neg d105]; exact f97
              have w179 : sI S103 h 16 = 0 := by rw [eS103, iN, if_neg d105]; exact f98
              have w180 : sI S103 h 17 = 0 := by rw [eS103, iN, if_neg d105]; exact f99
              have w181 : ∀ j, j < 200 → sR S103 ses j = none := fun j hj => by rw [eS103, rN, if_neg d129]; exact f100 j hj 
              have w182 : ∀ j, j < 6 → sR S103 rif j = some rg := fun j hj => by rw [eS103, rN, if_neg d127]; exact f101 j hj 
              have w183 : sI S103 q102 0 = 0 := by rw [eS103, iN, if_pos rfl]
              have w184 : sI S103 q102 1 = 0 := by rw [eS103, iN, if_pos rfl]
              have w185 : sI S103 q102 2 = 0 := by rw [eS103, iN, if_pos rfl]
              have w186 : sI S103 q102 3 = 0 := by rw [eS103, iN, if_pos rfl]
              have w187 : sI S103 q102 4 = 0 := by rw [eS103, iN, if_pos rfl]
              have w188 : sI S103 q102 5 = 0 := by rw [eS103, iN, if_pos rfl]
              have w189 : sI S103 q102 6 = 0 := by rw [eS103, iN, if_pos rfl]
              have w190 : sI S103 q102 7 = 0 := by rw [eS103, iN, if_pos rfl]
              have w191 : sI S103 q102 8 = 0 := by rw [eS103, iN, if_pos rfl]
              have w192 : sI S103 q102 9 = 0 := by rw [eS103, iN, if_pos rfl]
              have k193 : sK S103 q102 = 6 := by rw [eS103, kN, if_pos rfl]
              clear f37 f38 f39 f40 f41 f42 f43 f44 f45 f46 f47 f48 f49 f50 f57 f58 f59 f60 f61 f62 f63 f64 f65 f66 f67 f68 f51 f52 f53 f54 f55 f56 f69 f70 f71 f72 f73 f74 f75 f76 f77 f78 f79 f80 f81 f82 f83 f84 f85 f86 f87 f88 f89 f90 f91 f92 f93 f94 f95 f96 f97 f98 f99 f100 f101
              refine lv_dup hx hb dX8_book_152 rfl ?_
              refine lv_iload_n hx hb dX8_book_153 rfl (lv_at hl 3 rfl) ?_
              refine lv_iload_n hx hb dX8_book_154 rfl (lv_at hl 4 rfl) ?_
              refine lv_iload_n hx hb dX8_book_155 rfl (lv_at hl 5 rfl) ?_
              refine lv_iload hx hb dX8_book_156 (lv_at hl 6 rfl) ?_
              refine lv_aload hx hb dX8_book_158 (lv_at hl 1 rfl) ?_
              refine pc_Iv (As := [.int a, .int k, .int t, .int x, .ref rg]) (rest := [.ref q102, .int 0, .ref ses]) F (c_X6_init l D cy A S103 q102 rg a k t x k193 k130) (cwI 5 hts gX8_book_X6_init rfl rfl rfl (hts (.initialized RX6) (by decide +kernel)) (hts (.methodLink RX8 128 yX6_init) (by decide +kernel)) (hts (.instanceMethod yX6_init) (by decide +kernel)) rfl (by decide +kernel) ⟨Nat.le_of_ble_eq_true rfl, Nat.le_of_ble_eq_true rfl⟩) hK hZ hA hW hS rfl hl.1 rfl (Nat.le_of_ble_eq_true rfl) dX8_book_160 ⟨Nat.le_of_ble_eq_true rfl, Nat.le_of_ble_eq_true rfl⟩ (fun T195 H locs p196 hW hS => ?_)
              obtain ⟨kxT195, p196⟩ := p196
              have f197 := kxT195 h (ni_c d105 ni_0) (lt16 k104 (by decide))
              have f198 : sK T195 h = 8 := by rw [f197.1]; exact k104
              have f199 : sR T195 h 0 = some i1 := by rw [f197.2.2.1]; exact r132
              have f200 : sR T195 h 1 = some i2 := by rw [f197.2.2.1]; exact r133
              have f201 : sR T195 h 2 = some rif := by rw [f197.2.2.1]; exact r134
              have f202 : sR T195 h 3 = some ses := by rw [f197.2.2.1]; exact r135
              have f203 : sI T195 h 9 = 0 := by rw [f197.2.1]; exact w172
              have f204 : sI T195 h 10 = 0 := by rw [f197.2.1]; exact w173
              have f205 : sI T195 h 11 = 200 := by rw [f197.2.1]; exact w174
              have f206 : sI T195 h 12 = 400 := by rw [f197.2.1]; exact w175
              have f207 : sI T195 h 13 = 3 := by rw [f197.2.1]; exact w176
              have f208 : sI T195 h 14 = 2 := by rw [f197.2.1]; exact w177
              have f209 : sI T195 h 15 = 0 := by rw [f197.2.1]; exact w178
              have f210 : sI T195 h 16 = 0 := by rw [f197.2.1]; exact w179
              have f211 : sI T195 h 17 = 0 := by rw [f197.2.1]; exact w180
              clear f197
              have f212 := kxT195 i1 (ni_c d107 ni_0) (lt16 k106 (by decide))
              have f213 : sK T195 i1 = 1 := by rw [f212.1]; exact k106
              have f214 : sR T195 i1 0 = some q1 := by rw [f212.2.2.1]; exact r136
              have f215 : sR T195 i1 1 = some q2 := by rw [f212.2.2.1]; exact r138
              have f216 : sI T195 i1 2 = 0 := by rw [f212.2.1]; exact w150
              have f217 : sI T195 i1 3 = 300 := by rw [f212.2.1]; exact w151
              have f218 : sI T195 i1 4 = 0 := by rw [f212.2.1]; exact w152
              have f219 : sI T195 i1 5 = 0 := by rw [f212.2.1]; exact w153
              have f220 : sI T195 i1 6 = 0 := by rw [f212.2.1]; exact w154
              have f221 : sI T195 i1 7 = 0 := by rw [f212.2.1]; exact w155
              have f222 : sI T195 i1 8 = 0 := by rw [f212.2.1]; exact w156
              have f223 : sI T195 i1 9 = 0 := by rw [f212.2.1]; exact w157
              clear f212
              have f224 := kxT195 q1 (ni_c d109 ni_0) (lt16 k108 (by decide))
              have f225 : sK T195 q1 = 0 := by rw [f224.1]; exact k108
              have f226 : sR T195 q1 0 = some w1 := by rw [f224.2.2.1]; exact r137
              clear f224
              have f227 := kxT195 w1 (ni_c d111 ni_0) (lt16 k110 (by decide))
              have f228 : sK T195 w1 = 12 := by rw [f227.1]; exact k110
              have f229 : sL T195 w1 = 32 := by rw [f227.2.2.2.2]; exact n144
              clear f227
              have f230 := kxT195 q2 (ni_c d113 ni_0) (lt16 k112 (by decide))
              have f231 : sK T195 q2 = 0 := by rw [f230.1]; exact k112
              have f232 : sR T195 q2 0 = some w2 := by rw [f230.2.2.1]; exact r139
              clear f230
              have f233 := kxT195 w2 (ni_c d115 ni_0) (lt16 k114 (by decide))
              have f234 : sK T195 w2 = 12 := by rw [f233.1]; exact k114
              have f235 : sL T195 w2 = 32 := by rw [f233.2.2.2.2]; exact n145
              clear f233
              have f236 := kxT195 i2 (ni_c d117 ni_0) (lt16 k116 (by decide))
              have f237 : sK T195 i2 = 1 := by rw [f236.1]; exact k116
              have f238 : sR T195 i2 0 = some q3 := by rw [f236.2.2.1]; exact r140
              have f239 : sR T195 i2 1 = some q4 := by rw [f236.2.2.1]; exact r142
              have f240 : sI T195 i2 2 = 0 := by rw [f236.2.1]; exact w158
              have f241 : sI T195 i2 3 = 300 := by rw [f236.2.1]; exact w159
              have f242 : sI T195 i2 4 = 0 := by rw [f236.2.1]; exact w160
              have f243 : sI T195 i2 5 = 0 := by rw [f236.2.1]; exact w161
              have f244 : sI T195 i2 6 = 0 := by rw [f236.2.1]; exact w162
              have f245 : sI T195 i2 7 = 0 := by rw [f236.2.1]; exact w163
              have f246 : sI T195 i2 8 = 0 := by rw [f236.2.1]; exact w164
              have f247 : sI T195 i2 9 = 0 := by rw [f236.2.1]; exact w165
              clear f236
              have f248 := kxT195 q3 (ni_c d119 ni_0) (lt16 k118 (by decide))
              have f249 : sK T195 q3 = 0 := by rw [f248.1]; exact k118
              have f250 : sR T195 q3 0 = some w3 := by rw [f248.2.2.1]; exact r141
              clear f248
              have f251 := kxT195 w3 (ni_c d121 ni_0) (lt16 k120 (by decide))
              have f252 : sK T195 w3 = 12 := by rw [f251.1]; exact k120
              have f253 : sL T195 w3 = 32 := by rw [f251.2.2.2.2]; exact n146
              clear f251
              have f254 := kxT195 q4 (ni_c d123 ni_0) (lt16 k122 (by decide))
              have f255 : sK T195 q4 = 0 := by rw [f254.1]; exact k122
              have f256 : sR T195 q4 0 = some w4 := by rw [f254.2.2.1]; exact r143
              clear f254
              have f257 := kxT195 w4 (ni_c d125 ni_0) (lt16 k124 (by decide))
              have f258 : sK T195 w4 = 12 := by rw [f257.1]; exact k124
              have f259 : sL T195 w4 = 32 := by rw [f257.2.2.2.2]; exact n147
              clear f257
              have f260 := kxT195 rif (ni_c d127 ni_0) (lt16 k126 (by decide))
              have f261 : sK T195 rif = 14 := by rw [f260.1]; exact k126
              have f262 : sL T195 rif = 6 := by rw [f260.2.2.2.2]; exact n148
              have f263 : ∀ j, j < 6 → sR T195 rif j = some rg := fun j hj => by rw [f260.2.2.1]; exact w182 j hj 
              clear f260
              have f264 := kxT195 ses (ni_c d129 ni_0) (lt16 k128 (by decide))
              have f265 : sK T195 ses = 15 := by rw [f264.1]; exact k128
              have f266 : sL T195 ses = 200 := by rw [f264.2.2.2.2]; exact n149
              have f267 : ∀ j, j < 200 → sR T195 ses j = none := fun j hj => by rw [f264.2.2.1]; exact w181 j hj 
              clear f264
              have f268 := kxT195 rg (ni_c d131 ni_0) (lt16 k130 (by decide))
              have f269 : sK T195 rg = 4 := by rw [f268.1]; exact k130
              have f270 : sI T195 rg 0 = 16777215 := by rw [f268.2.1]; exact w166
              have f271 : sI T195 rg 1 = 127 := by rw [f268.2.1]; exact w167
              have f272 : sI T195 rg 2 = 15 := by rw [f268.2.1]; exact w168
              have f273 : sI T195 rg 3 = 168 := by rw [f268.2.1]; exact w169
              have f274 : sI T195 rg 4 = 100 := by rw [f268.2.1]; exact w170
              have f275 : sI T195 rg 5 = 50 := by rw [f268.2.1]; exact w171
              clear f268
              have y276 := p196
              clear k104 k106 k108 k110 k112 k114 k116 k118 k120 k122 k124 k126 k128 k130 k193 r132 r133 r134 r135 r136 r137 r138 r139 r140 r141 r142 r143 n144 n145 n146 n147 n148 n149 w150 w151 w152 w153 w154 w155 w156 w157 w158 w159 w160 w161 w162 w163 w164 w165 w166 w167 w168 w169 w170 w171 w172 w173 w174 w175 w176 w177 w178 w179 w180 w183 w184 w185 w186 w187 w188 w189 w190 w191 w192 w181 w182
              refine pg_aast (t0 := 5) hx hb hK hW hS (by decide) f265 y276 (by decide) rfl rfl (by rw [show sL T195 ses = 200 from f266]; exact vp_in_nI (n := 0) (by decide) (by decide)) dX8_book_163 (fun H locs hW hS => ?_)
              obtain ⟨S277, eS277⟩ : ∃ T : St, T = stR T195 ses (Int32.toNatClampNeg 0) (some q102) := ⟨_, rfl⟩
              rw [← eS277] at hW
              have k278 : sK S277 h = 8 := by rw [eS277]; exact f198
              have k279 : sK S277 i1 = 1 := by rw [eS277]; exact f213
              have k280 : sK S277 q1 = 0 := by rw [eS277]; exact f225
              have k281 : sK S277 w1 = 12 := by rw [eS277]; exact f228
              have k282 : sK S277 q2 = 0 := by rw [eS277]; exact f231
              have k283 : sK S277 w2 = 12 := by rw [eS277]; exact f234
              have k284 : sK S277 i2 = 1 := by rw [eS277]; exact f237
              have k285 : sK S277 q3 = 0 := by rw [eS277]; exact f249
              have k286 : sK S277 w3 = 12 := by rw [eS277]; exact f252
              have k287 : sK S277 q4 = 0 := by rw [eS277]; exact f255
              have k288 : sK S277 w4 = 12 := by rw [eS277]; exact f258
              have k289 : sK S277 rif = 14 := by rw [eS277]; exact f261
              have k290 : sK S277 ses = 15 := by rw [eS277]; exact f265
              have k291 : sK S277 rg = 4 := by rw [eS277]; exact f269
              have k292 : sK S277 q102 = 6 := by rw [eS277]; exact y276
              have r293 : sR S277 h 0 = some i1 := by rw [eS277, rR, if_neg (fk_ne k278 k290 (by decide))]; exact f199
              have r294 : sR S277 h 1 = some i2 := by rw [eS277, rR, if_neg (fk_ne k278 k290 (by decide))]; exact f200
              have r295 : sR S277 h 2 = some rif := by rw [eS277, rR, if_neg (fk_ne k278 k290 (by decide))]; exact f201
              have r296 : sR S277 h 3 = some ses := by rw [eS277, rR, if_neg (fk_ne k278 k290 (by decide))]; exact f202
              have r297 : sR S277 i1 0 = some q1 := by rw [eS277, rR, if_neg (fk_ne k279 k290 (by decide))]; exact f214
              have r298 : sR S277 i1 1 = some q2 := by rw [eS277, rR, if_neg (fk_ne k279 k290 (by decide))]; exact f215
              have r299 : sR S277 q1 0 = some w1 := by rw [eS277, rR, if_neg (fk_ne k280 k290 (by decide))]; exact f226
              have r300 : sR S277 q2 0 = some w2 := by rw [eS277, rR, if_neg (fk_ne k282 k290 (by decide))]; exact f232
              have r301 : sR S277 i2 0 = some q3 := by rw [eS277, rR, if_neg (fk_ne k284 k290 (by decide))]; exact f238
              have r302 : sR S277 i2 1 = some q4 := by rw [eS277, rR, if_neg (fk_ne k284 k290 (by decide))]; exact f239
              have r303 : sR S277 q3 0 = some w3 := by rw [eS277, rR, if_neg (fk_ne k285 k290 (by decide))]; exact f250
              have r304 : sR S277 q4 0 = some w4 := by rw [eS277, rR, if_neg (fk_ne k287 k290 (by decide))]; exact f256
              have n305 : sL S277 w1 = 32 := by rw [eS277]; exact f229
              have n306 : sL S277 w2 = 32 := by rw [eS277]; exact f235
              have n307 : sL S277 w3 = 32 := by rw [eS277]; exact f253
              have n308 : sL S277 w4 = 32 := by rw [eS277]; exact f259
              have n309 : sL S277 rif = 6 := by rw [eS277]; exact f262
              have n310 : sL S277 ses = 200 := by rw [eS277]; exact f266
              have w311 : sI S277 h 9 = 0 := by rw [eS277]; exact f203
              have w312 : sI S277 h 10 = 0 := by rw [eS277]; exact f204
              have w313 : sI S277 h 11 = 200 := by rw [eS277]; exact f205
              have w314 : sI S277 h 12 = 400 := by rw [eS277]; exact f206
              have w315 : sI S277 h 13 = 3 := by rw [eS277]; exact f207
              have w316 : sI S277 h 14 = 2 := by rw [eS277]; exact f208
              have w317 : sI S277 h 15 = 0 := by rw [eS277]; exact f209
              have w318 : sI S277 h 16 = 0 := by rw [eS277]; exact f210
              have w319 : sI S277 h 17 = 0 := by rw [eS277]; exact f211
              have w320 : sI S277 i1 2 = 0 := by rw [eS277]; exact f216
              have w321 : sI S277 i1 3 = 300 := by rw [eS277]; exact f217
              have w322 : sI S277 i1 4 = 0 := by rw [eS277]; exact f218
              have w323 : sI S277 i1 5 = 0 := by rw [eS277]; exact f219
              have w324 : sI S277 i1 6 = 0 := by rw [eS277]; exact f220
              have w325 : sI S277 i1 7 = 0 := by rw [eS277]; exact f221
              have w326 : sI S277 i1 8 = 0 := by rw [eS277]; exact f222
              have w327 : sI S277 i1 9 = 0 := by rw [eS277]; exact f223
              have w328 : sI S277 i2 2 = 0 := by rw [eS277]; exact f240
              have w329 : sI S277 i2 3 = 300 := by rw [eS277]; exact f241
              have w330 : sI S277 i2 4 = 0 := by rw [eS277]; exact f242
              have w331 : sI S277 i2 5 = 0 := by rw [eS277]; exact f243
              have w332 : sI S277 i2 6 = 0 := by rw [eS277]; exact f244
              have w333 : sI S277 i2 7 = 0 := by rw [eS277]; exact f245
              have w334 : sI S277 i2 8 = 0 := by rw [eS277]; exact f246
              have w335 : sI S277 i2 9 = 0 := by rw [eS277]; exact f247
              have w336 : sI S277 rg 0 = 16777215 := by rw [eS277]; exact f270
              have w337 : sI S277 rg 1 = 127 := by rw [eS277]; exact f271
              have w338 : sI S277 rg 2 = 15 := by rw [eS277]; exact f272
              have w339 : sI S277 rg 3 = 168 := by rw [eS277]; exact f273
              have w340 : sI S277 rg 4 = 100 := by rw [eS277]; exact f274
              have w341 : sI S277 rg 5 = 50 := by rw [eS277]; exact f275
              have w342 : ∀ j, j < 6 → sR S277 rif j = some rg := fun j hj => by rw [eS277, rR, if_neg (fk_ne k289 k290 (by decide))]; exact f263 j hj 
              clear f198 f213 f225 f228 f231 f234 f237 f249 f252 f255 f258 f261 f265 f269 y276 f199 f200 f201 f202 f214 f215 f226 f232 f238 f239 f250 f256 f229 f235 f253 f259 f262 f266 f203 f204 f205 f206 f207 f208 f209 f210 f211 f216 f217 f218 f219 f220 f221 f222 f223 f240 f241 f242 f243 f244 f245 f246 f247 f270 f271 f272 f273 f274 f275 f263 f267
              refine lv_aload_n hx hb dX8_book_164 rfl (lv_at hl 2 rfl) ?_
              refine lv_dup hx hb dX8_book_165 rfl ?_
              refine pg_gi (ci := 8) (C := RX8) (T := TX8) (N := 18) hx hb hts wi8 hown hK hW k278 (by decide) rfl 9 (by decide) (hts (.fieldLink RX8 99 "IceHall" "everBooked" "I") (by decide +kernel)) (fun _ h9 => h9) rfl dX8_book_166 ?_
              rw [show sI S277 h 9 = 0 from w311]
              refine lv_iconst (v := 1) hx hb dX8_book_169 (by decide) ?_
              refine lv_iadd hx hb dX8_book_170 ?_
              rw [show (0 + 1 : Int32) = 1 from by decide]
              refine pg_pi (ci := 8) (C := RX8) (T := TX8) (N := 18) hx hb hts wi8 tyX8 tyX8_ok nmX8 hown hK hW hS k278 (by decide) rfl 9 (by decide) (hts (.fieldLink RX8 99 "IceHall" "everBooked" "I") (by decide +kernel)) (fun _ h9 => h9) rfl rfl rfl dX8_book_171 (fun H locs hW hS => ?_)
              have w344 : sI (stI S277 h 9 1) h 10 = 0 := (iI_k (by decide)).trans w312
              have w345 : sI (stI S277 h 9 1) h 11 = 200 := (iI_k (by decide)).trans w313
              have w346 : sI (stI S277 h 9 1) h 12 = 400 := (iI_k (by decide)).trans w314
              have w347 : sI (stI S277 h 9 1) h 13 = 3 := (iI_k (by decide)).trans w315
              have w348 : sI (stI S277 h 9 1) h 14 = 2 := (iI_k (by decide)).trans w316
              have w349 : sI (stI S277 h 9 1) h 15 = 0 := (iI_k (by decide)).trans w317
              have w350 : sI (stI S277 h 9 1) h 16 = 0 := (iI_k (by decide)).trans w318
              have w351 : sI (stI S277 h 9 1) h 17 = 0 := (iI_k (by decide)).trans w319
              have w352 : sI (stI S277 h 9 1) i1 2 = 0 := (iI_k (by decide)).trans w320
              have w353 : sI (stI S277 h 9 1) i1 3 = 300 := (iI_k (by decide)).trans w321
              have w354 : sI (stI S277 h 9 1) i1 4 = 0 := (iI_k (by decide)).trans w322
              have w355 : sI (stI S277 h 9 1) i1 5 = 0 := (iI_k (by decide)).trans w323
              have w356 : sI (stI S277 h 9 1) i1 6 = 0 := (iI_k (by decide)).trans w324
              have w357 : sI (stI S277 h 9 1) i1 7 = 0 := (iI_k (by decide)).trans w325
              have w358 : sI (stI S277 h 9 1) i1 8 = 0 := (iI_k (by decide)).trans w326
              have w359 : sI (stI S277 h 9 1) i1 9 = 0 := (iI_a (fk_ne k279 k278 (by decide))).trans w327
              have w360 : sI (stI S277 h 9 1) i2 2 = 0 := (iI_k (by decide)).trans w328
              have w361 : sI (stI S277 h 9 1) i2 3 = 300 := (iI_k (by decide)).trans w329
              have w362 : sI (stI S277 h 9 1) i2 4 = 0 := (iI_k (by decide)).trans w330
              have w363 : sI (stI S277 h 9 1) i2 5 = 0 := (iI_k (by decide)).trans w331
              have w364 : sI (stI S277 h 9 1) i2 6 = 0 := (iI_k (by decide)).trans w332
              have w365 : sI (stI S277 h 9 1) i2 7 = 0 := (iI_k (by decide)).trans w333
              have w366 : sI (stI S277 h 9 1) i2 8 = 0 := (iI_k (by decide)).trans w334
              have w367 : sI (stI S277 h 9 1) i2 9 = 0 := (iI_a (fk_ne k284 k278 (by decide))).trans w335
              have w368 : sI (stI S277 h 9 1) rg 0 = 16777215 := (iI_k (by decide)).trans w336
              have w369 : sI (stI S277 h 9 1) rg 1 = 127 := (iI_k (by decide)).trans w337
              have w370 : sI (stI S277 h 9 1) rg 2 = 15 := (iI_k (by decide)).trans w338
              have w371 : sI (stI S277 h 9 1) rg 3 = 168 := (iI_k (by decide)).trans w339
              have w372 : sI (stI S277 h 9 1) rg 4 = 100 := (iI_k (by decide)).trans w340
              have w373 : sI (stI S277 h 9 1) rg 5 = 50 := (iI_k (by decide)).trans w341
              have w374 : sI (stI S277 h 9 1) h 9 = 1 := iI_s
              clear w311 w312 w313 w314 w315 w316 w317 w318 w319 w320 w321 w322 w323 w324 w325 w326 w327 w328 w329 w330 w331 w332 w333 w334 w335 w336 w337 w338 w339 w340 w341
              refine lv_aload_n hx hb dX8_book_174 rfl (lv_at hl 2 rfl) ?_
              refine pg_gi (ci := 8) (C := RX8) (T := TX8) (N := 18) hx hb hts wi8 hown hK hW k278 (by decide) rfl 9 (by decide) (hts (.fieldLink RX8 99 "IceHall" "everBooked" "I") (by decide +kernel)) (fun _ h9 => h9) rfl dX8_book_175 ?_
              rw [show sI (stI S277 h 9 1) h 9 = 1 from w374]
              refine lv_iconst (v := 1) hx hb dX8_book_178 (by decide) ?_
              refine lv_isub hx hb dX8_book_179 ?_
              rw [show (1 - 1 : Int32) = 0 from by decide]
              exact pc_iret (v := 0) (S := stI S277 h 9 1) hx hb hr hlk hK hZ hA hW hS (Or.inl ⟨rfl, by omega⟩) dX8_book_180
            · rw [show v26 = some i2 from by rw [p28, if_neg c29]]
              refine lv_astore (lv' := [(6, .ref i2), (5, .ref rg), (0, .ref h), (1, .int a), (2, .int k), (3, .int t), (4, .int x)]) hx hb dX8_book_113 hl (by decide) rfl (fun ls hl => ?_)
              refine lv_aload hx hb dX8_book_115 (lv_at hl 0 rfl) ?_
              refine lv_iload hx hb dX8_book_117 (lv_at hl 6 rfl) ?_
              refine lv_aload_n hx hb dX8_book_119 rfl (lv_at hl 2 rfl) ?_
              refine pg_gi (ci := 8) (C := RX8) (T := TX8) (N := 18) hx hb hts wi8 hown hK hW a_0 (by decide) rfl 14 (by decide) (hts (.fieldLink RX8 78 "IceHall" "restMost" "I") (by decide +kernel)) (fun _ h9 => h9) rfl dX8_book_120 ?_
              rw [show sI S h 14 = 2 from a_118]
              refine pc_Vi (As := [.int x, .int 2]) (rest := []) F (c_X1_hasRoom l D cy A S i2 q3 w3 q4 w4 x a_31 a_32 a_33 a_34 a_35 a_36 a_37 a_38 a_39 a_40 a_41 a_42 a_43) (cwV 2 hts gX8_book_X1_hasRoom rfl rfl rfl (by decide +kernel) ⟨Nat.le_of_ble_eq_true rfl, Nat.le_of_ble_eq_true rfl⟩) hK hZ hA hW hS a_31 (by decide) rfl rfl hl.1 rfl (Nat.le_of_ble_eq_true rfl) dX8_book_123 ⟨Nat.le_of_ble_eq_true rfl, Nat.le_of_ble_eq_true rfl⟩ (fun v375 T376 H locs p377 hW hS => ?_)
              obtain ⟨eT376, p377⟩ := p377
              rw [eT376] at hW
              rw [show v375 = 1 from p377]
              refine lv_if_ne (tgt := 131) hx hb dX8_book_126 (by decide) (fun c378 => ?_) (fun c378 => absurd c378 (by decide))
              refine lv_aload hx hb dX8_book_131 (lv_at hl 0 rfl) ?_
              refine pg_gr (b := q3) (ci := 1) (C := RX1) (T := TX1) (N := 10) hx hb hts wi1 hown hK hW a_31 (by decide) rfl 0 (by decide) (hts (.fieldLink RX8 119 "IceHall$Ice" "taken" "LIceHall$HourSet;") (by decide +kernel)) (fun _ h9 => h9) rfl a_32 dX8_book_133 ?_
              refine lv_iload hx hb dX8_book_136 (lv_at hl 6 rfl) ?_
              refine pc_Vv (As := [.int x]) (rest := []) F (c_X0_put l D cy A S q3 w3 x a_33 a_34 a_35 a_36) (cwV 1 hts gX8_book_X0_put rfl rfl rfl (by decide +kernel) ⟨Nat.le_of_ble_eq_true rfl, Nat.le_of_ble_eq_true rfl⟩) hK hZ hA hW hS a_33 (by decide) rfl rfl hl.1 rfl (Nat.le_of_ble_eq_true rfl) dX8_book_138 ⟨Nat.le_of_ble_eq_true rfl, Nat.le_of_ble_eq_true rfl⟩ (fun T380 H locs p381 hW hS => ?_)
              obtain ⟨ekT380, erT380, elT380, eiT380⟩ := p381
              have f382 : sK T380 h = 8 := by rw [ekT380]; exact a_0
              have f383 : sK T380 i1 = 1 := by rw [ekT380]; exact a_10
              have f384 : sK T380 q1 = 0 := by rw [ekT380]; exact a_12
              have f385 : sK T380 w1 = 12 := by rw [ekT380]; exact a_14
              have f386 : sK T380 q2 = 0 := by rw [ekT380]; exact a_18
              have f387 : sK T380 w2 = 12 := by rw [ekT380]; exact a_20
              have f388 : sK T380 i2 = 1 := by rw [ekT380]; exact a_31
              have f389 : sK T380 q3 = 0 := by rw [ekT380]; exact a_33
              have f390 : sK T380 w3 = 12 := by rw [ekT380]; exact a_35
              have f391 : sK T380 q4 = 0 := by rw [ekT380]; exact a_39
              have f392 : sK T380 w4 = 12 := by rw [ekT380]; exact a_41
              have f393 : sK T380 rif = 14 := by rw [ekT380]; exact a_52
              have f394 : sK T380 ses = 15 := by rw [ekT380]; exact a_54
              have f395 : sK T380 rg = 4 := by rw [ekT380]; exact a_105
              have f396 : sL T380 w1 = 32 := by rw [elT380]; exact a_15
              have f397 : sL T380 w2 = 32 := by rw [elT380]; exact a_21
              have f398 : sL T380 w3 = 32 := by rw [elT380]; exact a_36
              have f399 : sL T380 w4 = 32 := by rw [elT380]; exact a_42
              have f400 : sL T380 rif = 6 := by rw [elT380]; exact a_53
              have f401 : sL T380 ses = 200 := by rw [elT380]; exact a_55
              have f402 : sR T380 h 0 = some i1 := by rw [erT380]; exact a_1
              have f403 : sR T380 h 1 = some i2 := by rw [erT380]; exact a_2
              have f404 : sR T380 h 2 = some rif := by rw [erT380]; exact a_3
              have f405 : sR T380 h 3 = some ses := by rw [erT380]; exact a_4
              have f406 : sR T380 i1 0 = some q1 := by rw [erT380]; exact a_11
              have f407 : sR T380 q1 0 = some w1 := by rw [erT380]; exact a_13
              have f408 : sR T380 i1 1 = some q2 := by rw [erT380]; exact a_17
              have f409 : sR T380 q2 0 = some w2 := by rw [erT380]; exact a_19
              have f410 : sR T380 i2 0 = some q3 := by rw [erT380]; exact a_32
              have f411 : sR T380 q3 0 = some w3 := by rw [erT380]; exact a_34
              have f412 : sR T380 i2 1 = some q4 := by rw [erT380]; exact a_38
              have f413 : sR T380 q4 0 = some w4 := by rw [erT380]; exact a_40
              have f414 : sI T380 i1 2 = 0 := by rw [eiT380]; exact a_23
              have f415 : sI T380 i1 3 = 300 := by rw [eiT380]; exact a_24
              have f416 : sI T380 i1 4 = 0 := by rw [eiT380]; exact a_25
              have f417 : sI T380 i1 5 = 0 := by rw [eiT380]; exact a_26
              have f418 : sI T380 i1 6 = 0 := by rw [eiT380]; exact a_27
              have f419 : sI T380 i1 7 = 0 := by rw [eiT380]; exact a_28
              have f420 : sI T380 i1 8 = 0 := by rw [eiT380]; exact a_29
              have f421 : sI T380 i1 9 = 0 := by rw [eiT380]; exact a_30
              have f422 : sI T380 i2 2 = 0 := by rw [eiT380]; exact a_44
              have f423 : sI T380 i2 3 = 300 := by rw [eiT380]; exact a_45
              have f424 : sI T380 i2 4 = 0 := by rw [eiT380]; exact a_46
              have f425 : sI T380 i2 5 = 0 := by rw [eiT380]; exact a_47
              have f426 : sI T380 i2 6 = 0 := by rw [eiT380]; exact a_48
              have f427 : sI T380 i2 7 = 0 := by rw [eiT380]; exact a_49
              have f428 : sI T380 i2 8 = 0 := by rw [eiT380]; exact a_50
              have f429 : sI T380 i2 9 = 0 := by rw [eiT380]; exact a_51
              have f430 : sI T380 rg 0 = 16777215 := by rw [eiT380]; exact a_106
              have f431 : sI T380 rg 1 = 127 := by rw [eiT380]; exact a_107
              have f432 : sI T380 rg 2 = 15 := by rw [eiT380]; exact a_108
              have f433 : sI T380 rg 3 = 168 := by rw [eiT380]; exact a_109
              have f434 : sI T380 rg 4 = 100 := by rw [eiT380]; exact a_110
              have f435 : sI T380 rg 5 = 50 := by rw [eiT380]; exact a_111
              have f436 : sI T380 h 9 = 0 := by rw [eiT380]; exact a_113
              have f437 : sI T380 h 10 = 0 := by rw [eiT380]; exact a_114
              have f438 : sI T380 h 11 = 200 := by rw [eiT380]; exact a_115
              have f439 : sI T380 h 12 = 400 := by rw [eiT380]; exact a_116
              have f440 : sI T380 h 13 = 3 := by rw [eiT380]; exact a_117
              have f441 : sI T380 h 14 = 2 := by rw [eiT380]; exact a_118
              have f442 : sI T380 h 15 = 0 := by rw [eiT380]; exact a_119
              have f443 : sI T380 h 16 = 0 := by rw [eiT380]; exact a_120
              have f444 : sI T380 h 17 = 0 := by rw [eiT380]; exact a_121
              have f445 : ∀ j, j < 200 → sR T380 ses j = none := fun j hj => by rw [erT380]; exact a_56 j hj
              have f446 : ∀ j, j < 6 → sR T380 rif j = some rg := fun j hj => by rw [erT380]; exact a_112 j hj
              refine lv_aload_n hx hb dX8_book_141 rfl (lv_at hl 2 rfl) ?_
              refine pg_gr (b := ses) (ci := 8) (C := RX8) (T := TX8) (N := 18) hx hb hts wi8 hown hK hW f382 (by decide) rfl 3 (by decide) (hts (.fieldLink RX8 28 "IceHall" "sessions" "[LIceHall$Session;") (by decide +kernel)) (fun _ h9 => h9) rfl f405 dX8_book_142 ?_
              refine lv_aload_n hx hb dX8_book_145 rfl (lv_at hl 2 rfl) ?_
              refine pg_gi (ci := 8) (C := RX8) (T := TX8) (N := 18) hx hb hts wi8 hown hK hW f382 (by decide) rfl 9 (by decide) (hts (.fieldLink RX8 99 "IceHall" "everBooked" "I") (by decide +kernel)) (fun _ h9 => h9) rfl dX8_book_146 ?_
              rw [show sI T380 h 9 = 0 from f436]
              refine pg_new (ci := 6) (C := RX6) (T := TX6) (N := 10) hx hb hts wi6 tyX6 tyX6_ok hown (hts (.classLink RX8 26 RX6) (by decide +kernel)) (hts (.instantiable RX6 10) (by decide +kernel)) (hts (.initialized RX6) (by decide +kernel)) hK hW hS hA (by decide) rfl df_6 (Nat.le_of_ble_eq_true rfl) (Nat.le_of_ble_eq_true rfl) dX8_book_149 (fun q447 H hq447 hW hS => ?_)
              obtain ⟨S448, eS448⟩ : ∃ T : St, T = stN T380 q447 6 0 := ⟨_, rfl⟩
              rw [← eS448] at hW
              obtain ⟨k449, d450⟩ := fk_N (a := h) eS448 f382 (by decide) hq447
              obtain ⟨k451, d452⟩ := fk_N (a := i1) eS448 f383 (by decide) hq447
              obtain ⟨k453, d454⟩ := fk_N (a := q1) eS448 f384 (by decide) hq447
              obtain ⟨k455, d456⟩ := fk_N (a := w1) eS448 f385 (by decide) hq447
              obtain ⟨k457, d458⟩ := fk_N (a := q2) eS448 f386 (by decide) hq447
              obtain ⟨k459, d460⟩ := fk_N (a := w2) eS448 f387 (by decide) hq447
              obtain ⟨k461, d462⟩ := fk_N (a := i2) eS448 f388 (by decide) hq447
              obtain ⟨k463, d464⟩ := fk_N (a := q3) eS448 f389 (by decide) hq447
              obtain ⟨k465, d466⟩ := fk_N (a := w3) eS448 f390 (by decide) hq447
              obtain ⟨k467, d468⟩ := fk_N (a := q4) eS448 f391 (by decide) hq447
              obtain ⟨k469, d470⟩ := fk_N (a := w4) eS448 f392 (by decide) hq447
              obtain ⟨k471, d472⟩ := fk_N (a := rif) eS448 f393 (by decide) hq447
              obtain ⟨k473, d474⟩ := fk_N (a := ses) eS448 f394 (by decide) hq447
              obtain ⟨k475, d476⟩ := fk_N (a := rg) eS448 f395 (by decide) hq447
              have r477 : sR S448 h 0 = some i1 := by rw [eS448, rN, if_neg d450]; exact f402
              have r478 : sR S448 h 1 = some i2 := by rw [eS448, rN, if_neg d450]; exact f403
              have r479 : sR S448 h 2 = some rif := by rw [eS448, rN, if_neg d450]; exact f404
              have r480 : sR S448 h 3 = some ses := by rw [eS448, rN, if_neg d450]; exact f405
              have r481 : sR S448 i1 0 = some q1 := by rw [eS448, rN, if_neg d452]; exact f406
              have r482 : sR S448 q1 0 = some w1 := by rw [eS448, rN, if_neg d454]; exact f407
              have r483 : sR S448 i1 1 = some q2 := by rw [eS448, rN, if_neg d452]; exact f408
              have r484 : sR S448 q2 0 = some w2 := by rw [eS448, rN, if_neg d458]; exact f409
              have r485 : sR S448 i2 0 = some q3 := by rw [eS448, rN, if_neg d462]; exact f410
              have r486 : sR S448 q3 0 = some w3 := by rw [eS448, rN, if_neg d464]; exact f411
              have r487 : sR S448 i2 1 = some q4 := by rw [eS448, rN, if_neg d462]; exact f412
              have r488 : sR S448 q4 0 = some w4 := by rw [eS448, rN, if_neg d468]; exact f413
              have n489 : sL S448 w1 = 32 := by rw [eS448, lNw, if_neg d456]; exact f396
              have n490 : sL S448 w2 = 32 := by rw [eS448, lNw, if_neg d460]; exact f397
              have n491 : sL S448 w3 = 32 := by rw [eS448, lNw, if_neg d466]; exact f398
              have n492 : sL S448 w4 = 32 := by rw [eS448, lNw, if_neg d470]; exact f399
              have n493 : sL S448 rif = 6 := by rw [eS448, lNw, if_neg d472]; exact f400
              have n494 : sL S448 ses = 200 := by rw [eS448, lNw, if_neg d474]; exact f401
              have w495 : sI S448 i1 2 = 0 := by rw [eS448, iN, if_neg d452]; exact f414
              have w496 : sI S448 i1 3 = 300 := by rw [eS448, iN, if_neg d452]; exact f415
              have w497 : sI S448 i1 4 = 0 := by rw [eS448, iN, if_neg d452]; exact f416
              have w498 : sI S448 i1 5 = 0 := by rw [eS448, iN, if_neg d452]; exact f417
              have w499 : sI S448 i1 6 = 0 := by rw [eS448, iN, if_neg d452]; exact f418
              have w500 : sI S448 i1 7 = 0 := by rw [eS448, iN, if_neg d452]; exact f419
              have w501 : sI S448 i1 8 = 0 := by rw [eS448, iN, if_neg d452]; exact f420
              have w502 : sI S448 i1 9 = 0 := by rw [eS448, iN, if_neg d452]; exact f421
              have w503 : sI S448 i2 2 = 0 := by rw [eS448, iN, if_neg d462]; exact f422
              have w504 : sI S448 i2 3 = 300 := by rw [eS448, iN, if_neg d462]; exact f423
              have w505 : sI S448 i2 4 = 0 := by rw [eS448, iN, if_neg d462]; exact f424
              have w506 : sI S448 i2 5 = 0 := by rw [eS448, iN, if_neg d462]; exact f425
              have w507 : sI S448 i2 6 = 0 := by rw [eS448, iN, if_neg d462]; exact f426
              have w508 : sI S448 i2 7 = 0 := by rw [eS448, iN, if_neg d462]; exact f427
              have w509 : sI S448 i2 8 = 0 := by rw [eS448, iN, if_neg d462]; exact f428
              have w510 : sI S448 i2 9 = 0 := by rw [eS448, iN, if_neg d462]; exact f429
              have w511 : sI S448 rg 0 = 16777215 := by rw [eS448, iN, if_neg d476]; exact f430
              have w512 : sI S448 rg 1 = 127 := by rw [eS448, iN, if_neg d476]; exact f431
              have w513 : sI S448 rg 2 = 15 := by rw [eS448, iN, if_neg d476]; exact f432
              have w514 : sI S448 rg 3 = 168 := by rw [eS448, iN, if_neg d476]; exact f433
              have w515 : sI S448 rg 4 = 100 := by rw [eS448, iN, if_neg d476]; exact f434
              have w516 : sI S448 rg 5 = 50 := by rw [eS448, iN, if_neg d476]; exact f435
              have w517 : sI S448 h 9 = 0 := by rw [eS448, iN, if_neg d450]; exact f436
              have w518 : sI S448 h 10 = 0 := by rw [eS448, iN, if_neg d450]; exact f437
              have w519 : sI S448 h 11 = 200 := by rw [eS448, iN, if_neg d450]; exact f438
              have w520 : sI S448 h 12 = 400 := by rw [eS448, iN, if_neg d450]; exact f439
              have w521 : sI S448 h 13 = 3 := by rw [eS448, iN, if_neg d450]; exact f440
              have w522 : sI S448 h 14 = 2 := by rw [eS448, iN, if_neg d450]; exact f441
              have w523 : sI S448 h 15 = 0 := by rw [eS448, iN, if_neg d450]; exact f442
              have w524 : sI S448 h 16 = 0 := by rw [eS448, iN, if_neg d450]; exact f443
              have w525 : sI S448 h 17 = 0 := by rw [eS448, iN, if_neg d450]; exact f444
              have w526 : ∀ j, j < 200 → sR S448 ses j = none := fun j hj => by rw [eS448, rN, if_neg d474]; exact f445 j hj 
              have w527 : ∀ j, j < 6 → sR S448 rif j = some rg := fun j hj => by rw [eS448, rN, if_neg d472]; exact f446 j hj 
              have w528 : sI S448 q447 0 = 0 := by rw [eS448, iN, if_pos rfl]
              have w529 : sI S448 q447 1 = 0 := by rw [eS448, iN, if_pos rfl]
              have w530 : sI S448 q447 2 = 0 := by rw [eS448, iN, if_pos rfl]
              have w531 : sI S448 q447 3 = 0 := by rw [eS448, iN, if_pos rfl]
              have w532 : sI S448 q447 4 = 0 := by rw [eS448, iN, if_pos rfl]
              have w533 : sI S448 q447 5 = 0 := by rw [eS448, iN, if_pos rfl]
              have w534 : sI S448 q447 6 = 0 := by rw [eS448, iN, if_pos rfl]
              have w535 : sI S448 q447 7 = 0 := by rw [eS448, iN, if_pos rfl]
              have w536 : sI S448 q447 8 = 0 := by rw [eS448, iN, if_pos rfl]
              have w537 : sI S448 q447 9 = 0 := by rw [eS448, iN, if_pos rfl]
              have k538 : sK S448 q447 = 6 := by rw [eS448, kN, if_pos rfl]
              clear f382 f383 f384 f385 f386 f387 f388 f389 f390 f391 f392 f393 f394 f395 f402 f403 f404 f405 f406 f407 f408 f409 f410 f411 f412 f413 f396 f397 f398 f399 f400 f401 f414 f415 f416 f417 f418 f419 f420 f421 f422 f423 f424 f425 f426 f427 f428 f429 f430 f431 f432 f433 f434 f435 f436 f437 f438 f439 f440 f441 f442 f443 f444 f445 f446
              refine lv_dup hx hb dX8_book_152 rfl ?_
              refine lv_iload_n hx hb dX8_book_153 rfl (lv_at hl 3 rfl) ?_
              refine lv_iload_n hx hb dX8_book_154 rfl (lv_at hl 4 rfl) ?_
              refine lv_iload_n hx hb dX8_book_155 rfl (lv_at hl 5 rfl) ?_
              refine lv_iload hx hb dX8_book_156 (lv_at hl 6 rfl) ?_
              refine lv_aload hx hb dX8_book_158 (lv_at hl 1 rfl) ?_
              refine pc_Iv (As := [.int a, .int k, .int t, .int x, .ref rg]) (rest := [.ref q447, .int 0, .ref ses]) F (c_X6_init l D cy A S448 q447 rg a k t x k538 k475) (cwI 5 hts gX8_book_X6_init rfl rfl rfl (hts (.initialized RX6) (by decide +kernel)) (hts (.methodLink RX8 128 yX6_init) (by decide +kernel)) (hts (.instanceMethod yX6_init) (by decide +kernel)) rfl (by decide +kernel) ⟨Nat.le_of_ble_eq_true rfl, Nat.le_of_ble_eq_true rfl⟩) hK hZ hA hW hS rfl hl.1 rfl (Nat.le_of_ble_eq_true rfl) dX8_book_160 ⟨Nat.le_of_ble_eq_true rfl, Nat.le_of_ble_eq_true rfl⟩ (fun T540 H locs p541 hW hS => ?_)
              obtain ⟨kxT540, p541⟩ := p541
              have f542 := kxT540 h (ni_c d450 ni_0) (lt16 k449 (by decide))
              have f543 : sK T540 h = 8 := by rw [f542.1]; exact k449
              have f544 : sR T540 h 0 = some i1 := by rw [f542.2.2.1]; exact r477
              have f545 : sR T540 h 1 = some i2 := by rw [f542.2.2.1]; exact r478
              have f546 : sR T540 h 2 = some rif := by rw [f542.2.2.1]; exact r479
              have f547 : sR T540 h 3 = some ses := by rw [f542.2.2.1]; exact r480
              have f548 : sI T540 h 9 = 0 := by rw [f542.2.1]; exact w517
              have f549 : sI T540 h 10 = 0 := by rw [f542.2.1]; exact w518
              have f550 : sI T540 h 11 = 200 := by rw [f542.2.1]; exact w519
              have f551 : sI T540 h 12 = 400 := by rw [f542.2.1]; exact w520
              have f552 : sI T540 h 13 = 3 := by rw [f542.2.1]; exact w521
              have f553 : sI T540 h 14 = 2 := by rw [f542.2.1]; exact w522
              have f554 : sI T540 h 15 = 0 := by rw [f542.2.1]; exact w523
              have f555 : sI T540 h 16 = 0 := by rw [f542.2.1]; exact w524
              have f556 : sI T540 h 17 = 0 := by rw [f542.2.1]; exact w525
              clear f542
              have f557 := kxT540 i1 (ni_c d452 ni_0) (lt16 k451 (by decide))
              have f558 : sK T540 i1 = 1 := by rw [f557.1]; exact k451
              have f559 : sR T540 i1 0 = some q1 := by rw [f557.2.2.1]; exact r481
              have f560 : sR T540 i1 1 = some q2 := by rw [f557.2.2.1]; exact r483
              have f561 : sI T540 i1 2 = 0 := by rw [f557.2.1]; exact w495
              have f562 : sI T540 i1 3 = 300 := by rw [f557.2.1]; exact w496
              have f563 : sI T540 i1 4 = 0 := by rw [f557.2.1]; exact w497
              have f564 : sI T540 i1 5 = 0 := by rw [f557.2.1]; exact w498
              have f565 : sI T540 i1 6 = 0 := by rw [f557.2.1]; exact w499
              have f566 : sI T540 i1 7 = 0 := by rw [f557.2.1]; exact w500
              have f567 : sI T540 i1 8 = 0 := by rw [f557.2.1]; exact w501
              have f568 : sI T540 i1 9 = 0 := by rw [f557.2.1]; exact w502
              clear f557
              have f569 := kxT540 q1 (ni_c d454 ni_0) (lt16 k453 (by decide))
              have f570 : sK T540 q1 = 0 := by rw [f569.1]; exact k453
              have f571 : sR T540 q1 0 = some w1 := by rw [f569.2.2.1]; exact r482
              clear f569
              have f572 := kxT540 w1 (ni_c d456 ni_0) (lt16 k455 (by decide))
              have f573 : sK T540 w1 = 12 := by rw [f572.1]; exact k455
              have f574 : sL T540 w1 = 32 := by rw [f572.2.2.2.2]; exact n489
              clear f572
              have f575 := kxT540 q2 (ni_c d458 ni_0) (lt16 k457 (by decide))
              have f576 : sK T540 q2 = 0 := by rw [f575.1]; exact k457
              have f577 : sR T540 q2 0 = some w2 := by rw [f575.2.2.1]; exact r484
              clear f575
              have f578 := kxT540 w2 (ni_c d460 ni_0) (lt16 k459 (by decide))
              have f579 : sK T540 w2 = 12 := by rw [f578.1]; exact k459
              have f580 : sL T540 w2 = 32 := by rw [f578.2.2.2.2]; exact n490
              clear f578
              have f581 := kxT540 i2 (ni_c d462 ni_0) (lt16 k461 (by decide))
              have f582 : sK T540 i2 = 1 := by rw [f581.1]; exact k461
              have f583 : sR T540 i2 0 = some q3 := by rw [f581.2.2.1]; exact r485
              have f584 : sR T540 i2 1 = some q4 := by rw [f581.2.2.1]; exact r487
              have f585 : sI T540 i2 2 = 0 := by rw [f581.2.1]; exact w503
              have f586 : sI T540 i2 3 = 300 := by rw [f581.2.1]; exact w504
              have f587 : sI T540 i2 4 = 0 := by rw [f581.2.1]; exact w505
              have f588 : sI T540 i2 5 = 0 := by rw [f581.2.1]; exact w506
              have f589 : sI T540 i2 6 = 0 := by rw [f581.2.1]; exact w507
              have f590 : sI T540 i2 7 = 0 := by rw [f581.2.1]; exact w508
              have f591 : sI T540 i2 8 = 0 := by rw [f581.2.1]; exact w509
              have f592 : sI T540 i2 9 = 0 := by rw [f581.2.1]; exact w510
              clear f581
              have f593 := kxT540 q3 (ni_c d464 ni_0) (lt16 k463 (by decide))
              have f594 : sK T540 q3 = 0 := by rw [f593.1]; exact k463
              have f595 : sR T540 q3 0 = some w3 := by rw [f593.2.2.1]; exact r486
              clear f593
              have f596 := kxT540 w3 (ni_c d466 ni_0) (lt16 k465 (by decide))
              have f597 : sK T540 w3 = 12 := by rw [f596.1]; exact k465
              have f598 : sL T540 w3 = 32 := by rw [f596.2.2.2.2]; exact n491
              clear f596
              have f599 := kxT540 q4 (ni_c d468 ni_0) (lt16 k467 (by decide))
              have f600 : sK T540 q4 = 0 := by rw [f599.1]; exact k467
              have f601 : sR T540 q4 0 = some w4 := by rw [f599.2.2.1]; exact r488
              clear f599
              have f602 := kxT540 w4 (ni_c d470 ni_0) (lt16 k469 (by decide))
              have f603 : sK T540 w4 = 12 := by rw [f602.1]; exact k469
              have f604 : sL T540 w4 = 32 := by rw [f602.2.2.2.2]; exact n492
              clear f602
              have f605 := kxT540 rif (ni_c d472 ni_0) (lt16 k471 (by decide))
              have f606 : sK T540 rif = 14 := by rw [f605.1]; exact k471
              have f607 : sL T540 rif = 6 := by rw [f605.2.2.2.2]; exact n493
              have f608 : ∀ j, j < 6 → sR T540 rif j = some rg := fun j hj => by rw [f605.2.2.1]; exact w527 j hj 
              clear f605
              have f609 := kxT540 ses (ni_c d474 ni_0) (lt16 k473 (by decide))
              have f610 : sK T540 ses = 15 := by rw [f609.1]; exact k473
              have f611 : sL T540 ses = 200 := by rw [f609.2.2.2.2]; exact n494
              have f612 : ∀ j, j < 200 → sR T540 ses j = none := fun j hj => by rw [f609.2.2.1]; exact w526 j hj 
              clear f609
              have f613 := kxT540 rg (ni_c d476 ni_0) (lt16 k475 (by decide))
              have f614 : sK T540 rg = 4 := by rw [f613.1]; exact k475
              have f615 : sI T540 rg 0 = 16777215 := by rw [f613.2.1]; exact w511
              have f616 : sI T540 rg 1 = 127 := by rw [f613.2.1]; exact w512
              have f617 : sI T540 rg 2 = 15 := by rw [f613.2.1]; exact w513
              have f618 : sI T540 rg 3 = 168 := by rw [f613.2.1]; exact w514
              have f619 : sI T540 rg 4 = 100 := by rw [f613.2.1]; exact w515
              have f620 : sI T540 rg 5 = 50 := by rw [f613.2.1]; exact w516
              clear f613
              have y621 := p541
              clear k449 k451 k453 k455 k457 k459 k461 k463 k465 k467 k469 k471 k473 k475 k538 r477 r478 r479 r480 r481 r482 r483 r484 r485 r486 r487 r488 n489 n490 n491 n492 n493 n494 w495 w496 w497 w498 w499 w500 w501 w502 w503 w504 w505 w506 w507 w508 w509 w510 w511 w512 w513 w514 w515 w516 w517 w518 w519 w520 w521 w522 w523 w524 w525 w528 w529 w530 w531 w532 w533 w534 w535 w536 w537 w526 w527
              refine pg_aast (t0 := 5) hx hb hK hW hS (by decide) f610 y621 (by decide) rfl rfl (by rw [show sL T540 ses = 200 from f611]; exact vp_in_nI (n := 0) (by decide) (by decide)) dX8_book_163 (fun H locs hW hS => ?_)
              obtain ⟨S622, eS622⟩ : ∃ T : St, T = stR T540 ses (Int32.toNatClampNeg 0) (some q447) := ⟨_, rfl⟩
              rw [← eS622] at hW
              have k623 : sK S622 h = 8 := by rw [eS622]; exact f543
              have k624 : sK S622 i1 = 1 := by rw [eS622]; exact f558
              have k625 : sK S622 q1 = 0 := by rw [eS622]; exact f570
              have k626 : sK S622 w1 = 12 := by rw [eS622]; exact f573
              have k627 : sK S622 q2 = 0 := by rw [eS622]; exact f576
              have k628 : sK S622 w2 = 12 := by rw [eS622]; exact f579
              have k629 : sK S622 i2 = 1 := by rw [eS622]; exact f582
              have k630 : sK S622 q3 = 0 := by rw [eS622]; exact f594
              have k631 : sK S622 w3 = 12 := by rw [eS622]; exact f597
              have k632 : sK S622 q4 = 0 := by rw [eS622]; exact f600
              have k633 : sK S622 w4 = 12 := by rw [eS622]; exact f603
              have k634 : sK S622 rif = 14 := by rw [eS622]; exact f606
              have k635 : sK S622 ses = 15 := by rw [eS622]; exact f610
              have k636 : sK S622 rg = 4 := by rw [eS622]; exact f614
              have k637 : sK S622 q447 = 6 := by rw [eS622]; exact y621
              have r638 : sR S622 h 0 = some i1 := by rw [eS622, rR, if_neg (fk_ne k623 k635 (by decide))]; exact f544
              have r639 : sR S622 h 1 = some i2 := by rw [eS622, rR, if_neg (fk_ne k623 k635 (by decide))]; exact f545
              have r640 : sR S622 h 2 = some rif := by rw [eS622, rR, if_neg (fk_ne k623 k635 (by decide))]; exact f546
              have r641 : sR S622 h 3 = some ses := by rw [eS622, rR, if_neg (fk_ne k623 k635 (by decide))]; exact f547
              have r642 : sR S622 i1 0 = some q1 := by rw [eS622, rR, if_neg (fk_ne k624 k635 (by decide))]; exact f559
              have r643 : sR S622 i1 1 = some q2 := by rw [eS622, rR, if_neg (fk_ne k624 k635 (by decide))]; exact f560
              have r644 : sR S622 q1 0 = some w1 := by rw [eS622, rR, if_neg (fk_ne k625 k635 (by decide))]; exact f571
              have r645 : sR S622 q2 0 = some w2 := by rw [eS622, rR, if_neg (fk_ne k627 k635 (by decide))]; exact f577
              have r646 : sR S622 i2 0 = some q3 := by rw [eS622, rR, if_neg (fk_ne k629 k635 (by decide))]; exact f583
              have r647 : sR S622 i2 1 = some q4 := by rw [eS622, rR, if_neg (fk_ne k629 k635 (by decide))]; exact f584
              have r648 : sR S622 q3 0 = some w3 := by rw [eS622, rR, if_neg (fk_ne k630 k635 (by decide))]; exact f595
              have r649 : sR S622 q4 0 = some w4 := by rw [eS622, rR, if_neg (fk_ne k632 k635 (by decide))]; exact f601
              have n650 : sL S622 w1 = 32 := by rw [eS622]; exact f574
              have n651 : sL S622 w2 = 32 := by rw [eS622]; exact f580
              have n652 : sL S622 w3 = 32 := by rw [eS622]; exact f598
              have n653 : sL S622 w4 = 32 := by rw [eS622]; exact f604
              have n654 : sL S622 rif = 6 := by rw [eS622]; exact f607
              have n655 : sL S622 ses = 200 := by rw [eS622]; exact f611
              have w656 : sI S622 h 9 = 0 := by rw [eS622]; exact f548
              have w657 : sI S622 h 10 = 0 := by rw [eS622]; exact f549
              have w658 : sI S622 h 11 = 200 := by rw [eS622]; exact f550
              have w659 : sI S622 h 12 = 400 := by rw [eS622]; exact f551
              have w660 : sI S622 h 13 = 3 := by rw [eS622]; exact f552
              have w661 : sI S622 h 14 = 2 := by rw [eS622]; exact f553
              have w662 : sI S622 h 15 = 0 := by rw [eS622]; exact f554
              have w663 : sI S622 h 16 = 0 := by rw [eS622]; exact f555
              have w664 : sI S622 h 17 = 0 := by rw [eS622]; exact f556
              have w665 : sI S622 i1 2 = 0 := by rw [eS622]; exact f561
              have w666 : sI S622 i1 3 = 300 := by rw [eS622]; exact f562
              have w667 : sI S622 i1 4 = 0 := by rw [eS622]; exact f563
              have w668 : sI S622 i1 5 = 0 := by rw [eS622]; exact f564
              have w669 : sI S622 i1 6 = 0 := by rw [eS622]; exact f565
              have w670 : sI S622 i1 7 = 0 := by rw [eS622]; exact f566
              have w671 : sI S622 i1 8 = 0 := by rw [eS622]; exact f567
              have w672 : sI S622 i1 9 = 0 := by rw [eS622]; exact f568
              have w673 : sI S622 i2 2 = 0 := by rw [eS622]; exact f585
              have w674 : sI S622 i2 3 = 300 := by rw [eS622]; exact f586
              have w675 : sI S622 i2 4 = 0 := by rw [eS622]; exact f587
              have w676 : sI S622 i2 5 = 0 := by rw [eS622]; exact f588
              have w677 : sI S622 i2 6 = 0 := by rw [eS622]; exact f589
              have w678 : sI S622 i2 7 = 0 := by rw [eS622]; exact f590
              have w679 : sI S622 i2 8 = 0 := by rw [eS622]; exact f591
              have w680 : sI S622 i2 9 = 0 := by rw [eS622]; exact f592
              have w681 : sI S622 rg 0 = 16777215 := by rw [eS622]; exact f615
              have w682 : sI S622 rg 1 = 127 := by rw [eS622]; exact f616
              have w683 : sI S622 rg 2 = 15 := by rw [eS622]; exact f617
              have w684 : sI S622 rg 3 = 168 := by rw [eS622]; exact f618
              have w685 : sI S622 rg 4 = 100 := by rw [eS622]; exact f619
              have w686 : sI S622 rg 5 = 50 := by rw [eS622]; exact f620
              have w687 : ∀ j, j < 6 → sR S622 rif j = some rg := fun j hj => by rw [eS622, rR, if_neg (fk_ne k634 k635 (by decide))]; exact f608 j hj 
              clear f543 f558 f570 f573 f576 f579 f582 f594 f597 f600 f603 f606 f610 f614 y621 f544 f545 f546 f547 f559 f560 f571 f577 f583 f584 f595 f601 f574 f580 f598 f604 f607 f611 f548 f549 f550 f551 f552 f553 f554 f555 f556 f561 f562 f563 f564 f565 f566 f567 f568 f585 f586 f587 f588 f589 f590 f591 f592 f615 f616 f617 f618 f619 f620 f608 f612
              refine lv_aload_n hx hb dX8_book_164 rfl (lv_at hl 2 rfl) ?_
              refine lv_dup hx hb dX8_book_165 rfl ?_
              refine pg_gi (ci := 8) (C := RX8) (T := TX8) (N := 18) hx hb hts wi8 hown hK hW k623 (by decide) rfl 9 (by decide) (hts (.fieldLink RX8 99 "IceHall" "everBooked" "I") (by decide +kernel)) (fun _ h9 => h9) rfl dX8_book_166 ?_
              rw [show sI S622 h 9 = 0 from w656]
              refine lv_iconst (v := 1) hx hb dX8_book_169 (by decide) ?_
              refine lv_iadd hx hb dX8_book_170 ?_
              rw [show (0 + 1 : Int32) = 1 from by decide]
              refine pg_pi (ci := 8) (C := RX8) (T := TX8) (N := 18) hx hb hts wi8 tyX8 tyX8_ok nmX8 hown hK hW hS k623 (by decide) rfl 9 (by decide) (hts (.fieldLink RX8 99 "IceHall" "everBooked" "I") (by decide +kernel)) (fun _ h9 => h9) rfl rfl rfl dX8_book_171 (fun H locs hW hS => ?_)
              have w689 : sI (stI S622 h 9 1) h 10 = 0 := (iI_k (by decide)).trans w657
              have w690 : sI (stI S622 h 9 1) h 11 = 200 := (iI_k (by decide)).trans w658
              have w691 : sI (stI S622 h 9 1) h 12 = 400 := (iI_k (by decide)).trans w659
              have w692 : sI (stI S622 h 9 1) h 13 = 3 := (iI_k (by decide)).trans w660
              have w693 : sI (stI S622 h 9 1) h 14 = 2 := (iI_k (by decide)).trans w661
              have w694 : sI (stI S622 h 9 1) h 15 = 0 := (iI_k (by decide)).trans w662
              have w695 : sI (stI S622 h 9 1) h 16 = 0 := (iI_k (by decide)).trans w663
              have w696 : sI (stI S622 h 9 1) h 17 = 0 := (iI_k (by decide)).trans w664
              have w697 : sI (stI S622 h 9 1) i1 2 = 0 := (iI_k (by decide)).trans w665
              have w698 : sI (stI S622 h 9 1) i1 3 = 300 := (iI_k (by decide)).trans w666
              have w699 : sI (stI S622 h 9 1) i1 4 = 0 := (iI_k (by decide)).trans w667
              have w700 : sI (stI S622 h 9 1) i1 5 = 0 := (iI_k (by decide)).trans w668
              have w701 : sI (stI S622 h 9 1) i1 6 = 0 := (iI_k (by decide)).trans w669
              have w702 : sI (stI S622 h 9 1) i1 7 = 0 := (iI_k (by decide)).trans w670
              have w703 : sI (stI S622 h 9 1) i1 8 = 0 := (iI_k (by decide)).trans w671
              have w704 : sI (stI S622 h 9 1) i1 9 = 0 := (iI_a (fk_ne k624 k623 (by decide))).trans w672
              have w705 : sI (stI S622 h 9 1) i2 2 = 0 := (iI_k (by decide)).trans w673
              have w706 : sI (stI S622 h 9 1) i2 3 = 300 := (iI_k (by decide)).trans w674
              have w707 : sI (stI S622 h 9 1) i2 4 = 0 := (iI_k (by decide)).trans w675
              have w708 : sI (stI S622 h 9 1) i2 5 = 0 := (iI_k (by decide)).trans w676
              have w709 : sI (stI S622 h 9 1) i2 6 = 0 := (iI_k (by decide)).trans w677
              have w710 : sI (stI S622 h 9 1) i2 7 = 0 := (iI_k (by decide)).trans w678
              have w711 : sI (stI S622 h 9 1) i2 8 = 0 := (iI_k (by decide)).trans w679
              have w712 : sI (stI S622 h 9 1) i2 9 = 0 := (iI_a (fk_ne k629 k623 (by decide))).trans w680
              have w713 : sI (stI S622 h 9 1) rg 0 = 16777215 := (iI_k (by decide)).trans w681
              have w714 : sI (stI S622 h 9 1) rg 1 = 127 := (iI_k (by decide)).trans w682
              have w715 : sI (stI S622 h 9 1) rg 2 = 15 := (iI_k (by decide)).trans w683
              have w716 : sI (stI S622 h 9 1) rg 3 = 168 := (iI_k (by decide)).trans w684
              have w717 : sI (stI S622 h 9 1) rg 4 = 100 := (iI_k (by decide)).trans w685
              have w718 : sI (stI S622 h 9 1) rg 5 = 50 := (iI_k (by decide)).trans w686
              have w719 : sI (stI S622 h 9 1) h 9 = 1 := iI_s
              clear w656 w657 w658 w659 w660 w661 w662 w663 w664 w665 w666 w667 w668 w669 w670 w671 w672 w673 w674 w675 w676 w677 w678 w679 w680 w681 w682 w683 w684 w685 w686
              refine lv_aload_n hx hb dX8_book_174 rfl (lv_at hl 2 rfl) ?_
              refine pg_gi (ci := 8) (C := RX8) (T := TX8) (N := 18) hx hb hts wi8 hown hK hW k623 (by decide) rfl 9 (by decide) (hts (.fieldLink RX8 99 "IceHall" "everBooked" "I") (by decide +kernel)) (fun _ h9 => h9) rfl dX8_book_175 ?_
              rw [show sI (stI S622 h 9 1) h 9 = 1 from w719]
              refine lv_iconst (v := 1) hx hb dX8_book_178 (by decide) ?_
              refine lv_isub hx hb dX8_book_179 ?_
              rw [show (1 - 1 : Int32) = 0 from by decide]
              exact pc_iret (v := 0) (S := stI S622 h 9 1) hx hb hr hlk hK hZ hA hW hS (Or.inl ⟨rfl, by omega⟩) dX8_book_180
      · have c12i : Int32.toInt v9 = (0 : Int) := (i3_eq _ _).mp c12
        refine lv_iconst (v := (-1)) hx hb dX8_book_25 (by decide) ?_
        refine W.widen (k := 1) (n := 10) (by decide) (by decide) ?_
        exact pc_iret (v := (-1)) (S := S) hx hb hr hlk hK hZ hA hW hS (Or.inr ⟨rfl, by omega⟩) dX8_book_26
