set_option maxHeartbeats 4000000 in
set_option maxRecDepth 100000 in
theorem c_X2_begin (l : Launch) (D : va_G) (cy : Nat → ClassId) (A : Nat → Prop) (S : St) (h : Nat) (hk : sK S h = 2) : MV l yX2_begin wsX2_begin ({ frames := 0, cells := 0, slots := 0, locals := 0 } : Room) 0 0 D cy A [.ref h] S (fun S1 => S1 = stI S h 6 0) := by
  refine mt_start (cc := cX2_begin) (maxL := 1) (ret := none) (by decide) rfl (Nat.le_of_ble_eq_true rfl) ?_
  intro p e s m args below meth c hx hb hr hlk hml hown hnm hts hK hZ hA hW hS ls hl
  have hl : lv_has ls 1 [(0, .ref h)] := hl
  have hown : s.vm.findClass RX2 = some m.cls := hown
  have F : CallFix p m c cX2_begin 1 s args wsX2_begin RX2 := ⟨hx, hb, hml, hown, hts⟩
  have wi2 : ∀ w ∈ u_ws RX2 TX2 10, w ∈ wsX2_begin := by decide +kernel
  refine lv_aload_n hx hb dX2_begin_0 rfl (lv_at hl 0 rfl) ?_
  refine lv_iconst (v := 0) hx hb dX2_begin_1 (by decide) ?_
  refine pg_pi (ci := 2) (C := RX2) (T := TX2) (N := 10) hx hb hts wi2 tyX2 tyX2_ok nmX2 hown hK hW hS hk (by decide) rfl 6 (by decide) (hts (.fieldLink RX2 34 "IceHall$Mover" "size" "I") (by decide +kernel)) (fun _ h9 => h9) rfl rfl rfl dX2_begin_2 (fun H locs hW hS => ?_)
  have w1 : sI (stI S h 6 0) h 6 = 0 := iI_s
  exact pc_vret (S := stI S h 6 0) hx hb hr hlk hK hZ hA hW hS (rfl) dX2_begin_5
set_option maxHeartbeats 4000000 in
set_option maxRecDepth 100000 in
theorem c_X8_gatherSessions (l : Launch) (D : va_G) (cy : Nat → ClassId) (A : Nat → Prop) (S : St) (h mo : Nat) (a x y : Int32) (a_0 : sK S h = 8) (a_8 : sR S h 7 = some mo) (a_67 : sK S mo = 2) (a_82 : sI S mo 6 = 0) (a_83 : sI S mo 7 = 0) (a_84 : sI S mo 8 = 0) (a_85 : sI S mo 9 = 0) (a_113 : sI S h 9 = 0) (a_114 : sI S h 10 = 0) (a_115 : sI S h 11 = 200) (a_116 : sI S h 12 = 400) (a_117 : sI S h 13 = 3) (a_118 : sI S h 14 = 2) (a_119 : sI S h 15 = 0) (a_120 : sI S h 16 = 0) (a_121 : sI S h 17 = 0) : MI l yX8_gatherSessions wsX8_gatherSessions ({ frames := 1, cells := 0, slots := 0, locals := 21 } : Room) 0 0 D cy A [.ref h, .int a, .int x, .int y] S (fun r S1 => (sK S1 = sK S ∧ sR S1 = sR S ∧ sL S1 = sL S) ∧ sI S1 mo 6 = 0 ∧ r = 1) := by
  refine mt_start (cc := cX8_gatherSessions) (maxL := 6) (ret := (some .boolean)) (by decide) rfl (Nat.le_of_ble_eq_true rfl) ?_
  intro p e s m args below meth c hx hb hr hlk hml hown hnm hts hK hZ hA hW hS ls hl
  have hl : lv_has ls 6 [(0, .ref h), (1, .int a), (2, .int x), (3, .int y)] := hl
  have hown : s.vm.findClass RX8 = some m.cls := hown
  have F : CallFix p m c cX8_gatherSessions 6 s args wsX8_gatherSessions RX8 := ⟨hx, hb, hml, hown, hts⟩
  have wi8 : ∀ w ∈ u_ws RX8 TX8 18, w ∈ wsX8_gatherSessions := by decide +kernel
  refine lv_aload_n hx hb dX8_gatherSessions_0 rfl (lv_at hl 0 rfl) ?_
  refine pg_gr (b := mo) (ci := 8) (C := RX8) (T := TX8) (N := 18) hx hb hts wi8 hown hK hW a_0 (by decide) rfl 7 (by decide) (hts (.fieldLink RX8 57 "IceHall" "mover" "LIceHall$Mover;") (by decide +kernel)) (fun _ h9 => h9) rfl a_8 dX8_gatherSessions_1 ?_
  refine pc_Vv (As := []) (rest := []) F (c_X2_begin l D cy A S mo a_67) (cwV 0 hts gX8_gatherSessions_X2_begin rfl rfl rfl (by decide +kernel) ⟨Nat.le_of_ble_eq_true rfl, Nat.le_of_ble_eq_true rfl⟩) hK hZ hA hW hS a_67 (by decide) rfl rfl hl.1 rfl (Nat.le_of_ble_eq_true rfl) dX8_gatherSessions_4 ⟨Nat.le_of_ble_eq_true rfl, Nat.le_of_ble_eq_true rfl⟩ (fun T2 H locs p3 hW hS => ?_)
  rw [p3] at hW
  have w4 : sI (stI S mo 6 0) mo 7 = 0 := (iI_k (by decide)).trans a_83
  have w5 : sI (stI S mo 6 0) mo 8 = 0 := (iI_k (by decide)).trans a_84
  have w6 : sI (stI S mo 6 0) mo 9 = 0 := (iI_k (by decide)).trans a_85
  have w7 : sI (stI S mo 6 0) h 9 = 0 := (iI_k (by decide)).trans a_113
  have w8 : sI (stI S mo 6 0) h 10 = 0 := (iI_k (by decide)).trans a_114
  have w9 : sI (stI S mo 6 0) h 11 = 200 := (iI_k (by decide)).trans a_115
  have w10 : sI (stI S mo 6 0) h 12 = 400 := (iI_k (by decide)).trans a_116
  have w11 : sI (stI S mo 6 0) h 13 = 3 := (iI_k (by decide)).trans a_117
  have w12 : sI (stI S mo 6 0) h 14 = 2 := (iI_k (by decide)).trans a_118
  have w13 : sI (stI S mo 6 0) h 15 = 0 := (iI_k (by decide)).trans a_119
  have w14 : sI (stI S mo 6 0) h 16 = 0 := (iI_k (by decide)).trans a_120
  have w15 : sI (stI S mo 6 0) h 17 = 0 := (iI_k (by decide)).trans a_121
  have w16 : sI (stI S mo 6 0) mo 6 = 0 := iI_s
  refine lv_iconst (v := 0) hx hb dX8_gatherSessions_7 (by decide) ?_
  refine lv_istore (lv' := [(4, .int 0), (0, .ref h), (1, .int a), (2, .int x), (3, .int y)]) hx hb dX8_gatherSessions_8 hl (by decide) rfl (fun ls hl => ?_)
  refine lv_iload hx hb dX8_gatherSessions_10 (lv_at hl 0 rfl) ?_
  refine lv_aload_n hx hb dX8_gatherSessions_12 rfl (lv_at hl 1 rfl) ?_
  refine pg_gi (ci := 8) (C := RX8) (T := TX8) (N := 18) hx hb hts wi8 hown hK hW a_0 (by decide) rfl 9 (by decide) (hts (.fieldLink RX8 99 "IceHall" "everBooked" "I") (by decide +kernel)) (fun _ h9 => h9) rfl dX8_gatherSessions_13 ?_
  rw [show sI (stI S mo 6 0) h 9 = 0 from w7]
  refine lv_icmp_ge (tgt := 87) hx hb dX8_gatherSessions_16 (by decide) (fun c17 => ?_) (fun c17 => absurd (by decide) c17)
  refine lv_iconst (v := 1) hx hb dX8_gatherSessions_87 (by decide) ?_
  exact pc_zret (v := 1) (S := stI S mo 6 0) hx hb hr hlk hK hZ hA hW hS (by decide) (⟨⟨rfl, rfl, rfl⟩, iI_s, rfl⟩) dX8_gatherSessions_88
set_option maxHeartbeats 4000000 in
set_option maxRecDepth 100000 in
theorem c_X2_keepBest (l : Launch) (D : va_G) (cy : Nat → ClassId) (A : Nat → Prop) (S : St) (h mv rw_ br lf : Nat) (hk : sK S h = 2) (m70 : sR S h 2 = some mv) (m71 : sK S mv = 15) (m72 : sL S mv = 5) (m73 : sR S h 3 = some rw_) (m74 : sK S rw_ = 11) (m75 : sL S rw_ = 5) (m76 : sR S h 4 = some br) (m77 : sK S br = 11) (m78 : sL S br = 5) (m79 : sR S h 5 = some lf) (m80 : sK S lf = 11) (m81 : sL S lf = 6) (s6 : sI S h 6 = 0) (s7 : sI S h 7 = 600) : MV l yX2_keepBest wsX2_keepBest ({ frames := 1, cells := 0, slots := 0, locals := 60 } : Room) 0 0 D cy A [.ref h, .int 0] S (fun S1 => (sK S1 = sK S ∧ sR S1 = sR S ∧ sL S1 = sL S) ∧ sI S1 h 6 = 0 ∧ True) := by
  refine mt_start (cc := cX2_keepBest) (maxL := 2) (ret := none) (by decide) rfl (Nat.le_of_ble_eq_true rfl) ?_
  intro p e s m args below meth c hx hb hr hlk hml hown hnm hts hK hZ hA hW hS ls hl
  have hl : lv_has ls 2 [(0, .ref h), (1, .int 0)] := hl
  have hown : s.vm.findClass RX2 = some m.cls := hown
  have F : CallFix p m c cX2_keepBest 2 s args wsX2_keepBest RX2 := ⟨hx, hb, hml, hown, hts⟩
  have wi2 : ∀ w ∈ u_ws RX2 TX2 10, w ∈ wsX2_keepBest := by decide +kernel
  refine lv_iload_n hx hb dX2_keepBest_0 rfl (lv_at hl 1 rfl) ?_
  refine lv_aload_n hx hb dX2_keepBest_1 rfl (lv_at hl 0 rfl) ?_
  refine pg_gi (ci := 2) (C := RX2) (T := TX2) (N := 10) hx hb hts wi2 hown hK hW hk (by decide) rfl 7 (by decide) (hts (.fieldLink RX2 48 "IceHall$Mover" "bestCost" "I") (by decide +kernel)) (fun _ h9 => h9) rfl dX2_keepBest_2 ?_
  rw [show sI S h 7 = 600 from s7]
  refine lv_icmp_ge (tgt := 27) hx hb dX2_keepBest_5 (by decide) (fun c1 => absurd c1 (by decide)) (fun c1 => ?_)
  refine lv_aload_n hx hb dX2_keepBest_8 rfl (lv_at hl 0 rfl) ?_
  refine lv_iload_n hx hb dX2_keepBest_9 rfl (lv_at hl 1 rfl) ?_
  refine pg_pi (ci := 2) (C := RX2) (T := TX2) (N := 10) hx hb hts wi2 tyX2 tyX2_ok nmX2 hown hK hW hS hk (by decide) rfl 7 (by decide) (hts (.fieldLink RX2 48 "IceHall$Mover" "bestCost" "I") (by decide +kernel)) (fun _ h9 => h9) rfl rfl rfl dX2_keepBest_10 (fun H locs hW hS => ?_)
  have w2 : sI (stI S h 7 0) h 6 = 0 := (iI_k (by decide)).trans s6
  have w3 : sI (stI S h 7 0) h 7 = 0 := iI_s
  clear s6 s7
  refine lv_aload_n hx hb dX2_keepBest_13 rfl (lv_at hl 0 rfl) ?_
  refine pg_gr (b := rw_) (ci := 2) (C := RX2) (T := TX2) (N := 10) hx hb hts wi2 hown hK hW hk (by decide) rfl 3 (by decide) (hts (.fieldLink RX2 17 "IceHall$Mover" "row" "[I") (by decide +kernel)) (fun _ h9 => h9) rfl m73 dX2_keepBest_14 ?_
  refine lv_iconst (v := 0) hx hb dX2_keepBest_17 (by decide) ?_
  refine lv_aload_n hx hb dX2_keepBest_18 rfl (lv_at hl 0 rfl) ?_
  refine pg_gr (b := br) (ci := 2) (C := RX2) (T := TX2) (N := 10) hx hb hts wi2 hown hK hW hk (by decide) rfl 4 (by decide) (hts (.fieldLink RX2 21 "IceHall$Mover" "bestRow" "[I") (by decide +kernel)) (fun _ h9 => h9) rfl m76 dX2_keepBest_19 ?_
  refine lv_iconst (v := 0) hx hb dX2_keepBest_22 (by decide) ?_
  refine lv_iconst (v := 5) hx hb dX2_keepBest_23 (by decide) ?_
  refine pg_copyi hx hb (by rw [hml]; exact hl.1.symm) hown (hts (.methodLink RX2 98 arraycopyName) (by decide +kernel)) (hts (.native arraycopyName) (by decide +kernel)) (hts (.static arraycopyName) (by decide +kernel)) (hts (.initialized "java/lang/System") (by decide +kernel)) hK hW hS m74 m77 (by decide) (by decide) (by decide) (by rw [show sL (stI S h 7 0) rw_ = 5 from m75]; decide) (by rw [show sL (stI S h 7 0) br = 5 from m78]; decide) (Nat.le_of_ble_eq_true rfl) (Nat.le_of_ble_eq_true rfl) dX2_keepBest_24 (fun f9 H locs hW hS => ?_)
  have w4 : sI (stW (stI S h 7 0) br f9) h 6 = 0 := (iW_a (fk_ne hk m77 (by decide))).trans w2
  have w5 : sI (stW (stI S h 7 0) br f9) h 7 = 0 := (iW_a (fk_ne hk m77 (by decide))).trans w3
  exact pc_vret (S := stW (stI S h 7 0) br f9) hx hb hr hlk hK hZ hA hW hS (⟨⟨rfl, rfl, rfl⟩, w4, trivial⟩) dX2_keepBest_27
set_option maxHeartbeats 4000000 in
set_option maxRecDepth 100000 in
theorem c_X2_searchFrom (l : Launch) (D : va_G) (cy : Nat → ClassId) (A : Nat → Prop) (S : St) (h mv rw_ br lf : Nat) (hk : sK S h = 2) (m70 : sR S h 2 = some mv) (m71 : sK S mv = 15) (m72 : sL S mv = 5) (m73 : sR S h 3 = some rw_) (m74 : sK S rw_ = 11) (m75 : sL S rw_ = 5) (m76 : sR S h 4 = some br) (m77 : sK S br = 11) (m78 : sL S br = 5) (m79 : sR S h 5 = some lf) (m80 : sK S lf = 11) (m81 : sL S lf = 6) (s6 : sI S h 6 = 0) (s7 : sI S h 7 = 600) : MV l yX2_searchFrom wsX2_searchFrom ({ frames := 2, cells := 0, slots := 0, locals := 81 } : Room) 0 0 D cy A [.ref h, .int 0, .int 0] S (fun S1 => (sK S1 = sK S ∧ sR S1 = sR S ∧ sL S1 = sL S) ∧ sI S1 h 6 = 0 ∧ True) := by
  refine mt_start (cc := cX2_searchFrom) (maxL := 7) (ret := none) (by decide) rfl (Nat.le_of_ble_eq_true rfl) ?_
  intro p e s m args below meth c hx hb hr hlk hml hown hnm hts hK hZ hA hW hS ls hl
  have hl : lv_has ls 7 [(0, .ref h), (1, .int 0), (2, .int 0)] := hl
  have hown : s.vm.findClass RX2 = some m.cls := hown
  have F : CallFix p m c cX2_searchFrom 7 s args wsX2_searchFrom RX2 := ⟨hx, hb, hml, hown, hts⟩
  have wi2 : ∀ w ∈ u_ws RX2 TX2 10, w ∈ wsX2_searchFrom := by decide +kernel
  refine lv_iload_n hx hb dX2_searchFrom_0 rfl (lv_at hl 1 rfl) ?_
  refine lv_aload_n hx hb dX2_searchFrom_1 rfl (lv_at hl 0 rfl) ?_
  refine pg_gi (ci := 2) (C := RX2) (T := TX2) (N := 10) hx hb hts wi2 hown hK hW hk (by decide) rfl 6 (by decide) (hts (.fieldLink RX2 34 "IceHall$Mover" "size" "I") (by decide +kernel)) (fun _ h9 => h9) rfl dX2_searchFrom_2 ?_
  rw [show sI S h 6 = 0 from s6]
  refine lv_icmp_ge (tgt := 13) hx hb dX2_searchFrom_5 (by decide) (fun c1 => ?_) (fun c1 => absurd (by decide) c1)
  refine lv_aload_n hx hb dX2_searchFrom_13 rfl (lv_at hl 0 rfl) ?_
  refine lv_iload_n hx hb dX2_searchFrom_14 rfl (lv_at hl 2 rfl) ?_
  refine pc_Vv (As := [.int 0]) (rest := []) F (c_X2_keepBest l D cy A S h mv rw_ br lf hk m70 m71 m72 m73 m74 m75 m76 m77 m78 m79 m80 m81 s6 s7) (cwV 1 hts gX2_searchFrom_X2_keepBest rfl rfl rfl (by decide +kernel) ⟨Nat.le_of_ble_eq_true rfl, Nat.le_of_ble_eq_true rfl⟩) hK hZ hA hW hS hk (by decide) rfl rfl hl.1 rfl (Nat.le_of_ble_eq_true rfl) dX2_searchFrom_15 ⟨Nat.le_of_ble_eq_true rfl, Nat.le_of_ble_eq_true rfl⟩ (fun T3 H locs p4 hW hS => ?_)
  obtain ⟨⟨ekT3, erT3, elT3⟩, p4⟩ := p4
  have f5 : sK T3 h = 2 := by rw [ekT3]; exact hk
  have f6 : sK T3 mv = 15 := by rw [ekT3]; exact m71
  have f7 : sK T3 rw_ = 11 := by rw [ekT3]; exact m74
  have f8 : sK T3 br = 11 := by rw [ekT3]; exact m77
  have f9 : sK T3 lf = 11 := by rw [ekT3]; exact m80
  have f10 : sL T3 mv = 5 := by rw [elT3]; exact m72
  have f11 : sL T3 rw_ = 5 := by rw [elT3]; exact m75
  have f12 : sL T3 br = 5 := by rw [elT3]; exact m78
  have f13 : sL T3 lf = 6 := by rw [elT3]; exact m81
  have f14 : sR T3 h 2 = some mv := by rw [erT3]; exact m70
  have f15 : sR T3 h 3 = some rw_ := by rw [erT3]; exact m73
  have f16 : sR T3 h 4 = some br := by rw [erT3]; exact m76
  have f17 : sR T3 h 5 = some lf := by rw [erT3]; exact m79
  obtain ⟨y18, p4⟩ := p4
  exact pc_vret (S := T3) hx hb hr hlk hK hZ hA hW hS (⟨⟨ekT3, erT3, elT3⟩, y18, trivial⟩) dX2_searchFrom_18
set_option maxHeartbeats 4000000 in
set_option maxRecDepth 100000 in
theorem c_X2_search (l : Launch) (D : va_G) (cy : Nat → ClassId) (A : Nat → Prop) (S : St) (h mv rw_ br lf : Nat) (a b : Int32) (hk : sK S h = 2) (m70 : sR S h 2 = some mv) (m71 : sK S mv = 15) (m72 : sL S mv = 5) (m73 : sR S h 3 = some rw_) (m74 : sK S rw_ = 11) (m75 : sL S rw_ = 5) (m76 : sR S h 4 = some br) (m77 : sK S br = 11) (m78 : sL S br = 5) (m79 : sR S h 5 = some lf) (m80 : sK S lf = 11) (m81 : sL S lf = 6) (s6 : sI S h 6 = 0) : MV l yX2_search wsX2_search ({ frames := 3, cells := 0, slots := 0, locals := 107 } : Room) 0 0 D cy A [.ref h, .int a, .int b] S (fun S1 => (sK S1 = sK S ∧ sR S1 = sR S ∧ sL S1 = sL S) ∧ sI S1 h 6 = 0 ∧ True) := by
  refine mt_start (cc := cX2_search) (maxL := 5) (ret := none) (by decide) rfl (Nat.le_of_ble_eq_true rfl) ?_
  intro p e s m args below meth c hx hb hr hlk hml hown hnm hts hK hZ hA hW hS ls hl
  have hl : lv_has ls 5 [(0, .ref h), (1, .int a), (2, .int b)] := hl
  have hown : s.vm.findClass RX2 = some m.cls := hown
  have F : CallFix p m c cX2_search 5 s args wsX2_search RX2 := ⟨hx, hb, hml, hown, hts⟩
  have wi2 : ∀ w ∈ u_ws RX2 TX2 10, w ∈ wsX2_search := by decide +kernel
  refine lv_aload_n hx hb dX2_search_0 rfl (lv_at hl 0 rfl) ?_
  refine lv_iload_n hx hb dX2_search_1 rfl (lv_at hl 1 rfl) ?_
  refine pg_pi (ci := 2) (C := RX2) (T := TX2) (N := 10) hx hb hts wi2 tyX2 tyX2_ok nmX2 hown hK hW hS hk (by decide) rfl 8 (by decide) (hts (.fieldLink RX2 42 "IceHall$Mover" "earliest" "I") (by decide +kernel)) (fun _ h9 => h9) rfl rfl rfl dX2_search_2 (fun H locs hW hS => ?_)
  have w1 : sI (stI S h 8 a) h 6 = 0 := (iI_k (by decide)).trans s6
  have w2 : sI (stI S h 8 a) h 8 = a := iI_s
  clear s6
  refine lv_aload_n hx hb dX2_search_5 rfl (lv_at hl 0 rfl) ?_
  refine lv_iload_n hx hb dX2_search_6 rfl (lv_at hl 2 rfl) ?_
  refine pg_pi (ci := 2) (C := RX2) (T := TX2) (N := 10) hx hb hts wi2 tyX2 tyX2_ok nmX2 hown hK hW hS hk (by decide) rfl 9 (by decide) (hts (.fieldLink RX2 45 "IceHall$Mover" "restMost" "I") (by decide +kernel)) (fun _ h9 => h9) rfl rfl rfl dX2_search_7 (fun H locs hW hS => ?_)
  have w3 : sI (stI (stI S h 8 a) h 9 b) h 6 = 0 := (iI_k (by decide)).trans w1
  have w4 : sI (stI (stI S h 8 a) h 9 b) h 8 = a := (iI_k (by decide)).trans w2
  have w5 : sI (stI (stI S h 8 a) h 9 b) h 9 = b := iI_s
  clear w1 w2
  refine lv_aload_n hx hb dX2_search_10 rfl (lv_at hl 0 rfl) ?_
  refine lv_sipush (v := 600) hx hb dX2_search_11 (by decide) ?_
  refine pg_pi (ci := 2) (C := RX2) (T := TX2) (N := 10) hx hb hts wi2 tyX2 tyX2_ok nmX2 hown hK hW hS hk (by decide) rfl 7 (by decide) (hts (.fieldLink RX2 48 "IceHall$Mover" "bestCost" "I") (by decide +kernel)) (fun _ h9 => h9) rfl rfl rfl dX2_search_14 (fun H locs hW hS => ?_)
  have w6 : sI (stI (stI (stI S h 8 a) h 9 b) h 7 600) h 6 = 0 := (iI_k (by decide)).trans w3
  have w7 : sI (stI (stI (stI S h 8 a) h 9 b) h 7 600) h 8 = a := (iI_k (by decide)).trans w4
  have w8 : sI (stI (stI (stI S h 8 a) h 9 b) h 7 600) h 9 = b := (iI_k (by decide)).trans w5
  have w9 : sI (stI (stI (stI S h 8 a) h 9 b) h 7 600) h 7 = 600 := iI_s
  clear w3 w4 w5
  refine lv_iconst (v := 0) hx hb dX2_search_17 (by decide) ?_
  refine lv_istore_n (lv' := [(3, .int 0), (0, .ref h), (1, .int a), (2, .int b)]) hx hb dX2_search_18 rfl hl (by decide) rfl (fun ls hl => ?_)
  refine lv_iconst (v := 5) hx hb dX2_search_19 (by decide) ?_
  refine lv_istore (lv' := [(4, .int 5), (3, .int 0), (0, .ref h), (1, .int a), (2, .int b)]) hx hb dX2_search_20 hl (by decide) rfl (fun ls hl => ?_)
  refine lv_iload hx hb dX2_search_22 (lv_at hl 0 rfl) ?_
  refine lv_if_lt (tgt := 63) hx hb dX2_search_24 (by decide) (fun c10 => absurd c10 (by decide)) (fun c10 => ?_)
  refine lv_iload_n hx hb dX2_search_27 rfl (lv_at hl 1 rfl) ?_
  refine lv_iload hx hb dX2_search_28 (lv_at hl 0 rfl) ?_
  refine lv_aload_n hx hb dX2_search_30 rfl (lv_at hl 2 rfl) ?_
  refine pg_gi (ci := 2) (C := RX2) (T := TX2) (N := 10) hx hb hts wi2 hown hK hW hk (by decide) rfl 6 (by decide) (hts (.fieldLink RX2 34 "IceHall$Mover" "size" "I") (by decide +kernel)) (fun _ h9 => h9) rfl dX2_search_31 ?_
  rw [show sI (stI (stI (stI S h 8 a) h 9 b) h 7 600) h 6 = 0 from w6]
  refine lv_icmp_ge (tgt := 46) hx hb dX2_search_34 (by decide) (fun c11 => ?_) (fun c11 => absurd (by decide) c11)
  refine lv_iconst (v := 0) hx hb dX2_search_46 (by decide) ?_
  refine lv_iadd hx hb dX2_search_47 ?_
  rw [show (0 + 0 : Int32) = 0 from by decide]
  refine lv_istore_n (lv' := [(3, .int 0), (4, .int 5), (0, .ref h), (1, .int a), (2, .int b)]) hx hb dX2_search_48 rfl hl (by decide) rfl (fun ls hl => ?_)
  refine lv_aload_n hx hb dX2_search_49 rfl (lv_at hl 2 rfl) ?_
  refine pg_gr (b := lf) (ci := 2) (C := RX2) (T := TX2) (N := 10) hx hb hts wi2 hown hK hW hk (by decide) rfl 5 (by decide) (hts (.fieldLink RX2 24 "IceHall$Mover" "leastFrom" "[I") (by decide +kernel)) (fun _ h9 => h9) rfl m79 dX2_search_50 ?_
  refine lv_iload hx hb dX2_search_53 (lv_at hl 1 rfl) ?_
  refine lv_iload_n hx hb dX2_search_55 rfl (lv_at hl 0 rfl) ?_
  refine pg_iast hx hb hK hW hS m80 (by rw [show sL (stI (stI (stI S h 8 a) h 9 b) h 7 600) lf = 6 from m81]; exact vp_in_nI (n := 5) (by decide) (by decide)) dX2_search_56 (fun H locs hW hS => ?_)
  have w12 : sI (stI (stI (stI (stI S h 8 a) h 9 b) h 7 600) lf (Int32.toNatClampNeg 5) 0) h 6 = 0 := (iI_a (fk_ne hk m80 (by decide))).trans w6
  have w13 : sI (stI (stI (stI (stI S h 8 a) h 9 b) h 7 600) lf (Int32.toNatClampNeg 5) 0) h 8 = a := (iI_a (fk_ne hk m80 (by decide))).trans w7
  have w14 : sI (stI (stI (stI (stI S h 8 a) h 9 b) h 7 600) lf (Int32.toNatClampNeg 5) 0) h 9 = b := (iI_a (fk_ne hk m80 (by decide))).trans w8
  have w15 : sI (stI (stI (stI (stI S h 8 a) h 9 b) h 7 600) lf (Int32.toNatClampNeg 5) 0) h 7 = 600 := (iI_a (fk_ne hk m80 (by decide))).trans w9
  clear w6 w7 w8 w9
  refine lv_iinc (v := 4) (lv' := [(4, .int 4), (3, .int 0), (0, .ref h), (1, .int a), (2, .int b)]) hx hb dX2_search_57 hl (k := 1) rfl (by decide) (by decide) rfl (fun ls hl => ?_)
  refine lv_goto (tgt := 22) hx hb dX2_search_60 (by decide) ?_
  refine lv_iload hx hb dX2_search_22 (lv_at hl 0 rfl) ?_
  refine lv_if_lt (tgt := 63) hx hb dX2_search_24 (by decide) (fun c16 => absurd c16 (by decide)) (fun c16 => ?_)
  refine lv_iload_n hx hb dX2_search_27 rfl (lv_at hl 1 rfl) ?_
  refine lv_iload hx hb dX2_search_28 (lv_at hl 0 rfl) ?_
  refine lv_aload_n hx hb dX2_search_30 rfl (lv_at hl 2 rfl) ?_
  refine pg_gi (ci := 2) (C := RX2) (T := TX2) (N := 10) hx hb hts wi2 hown hK hW hk (by decide) rfl 6 (by decide) (hts (.fieldLink RX2 34 "IceHall$Mover" "size" "I") (by decide +kernel)) (fun _ h9 => h9) rfl dX2_search_31 ?_
  rw [show sI (stI (stI (stI (stI S h 8 a) h 9 b) h 7 600) lf (Int32.toNatClampNeg 5) 0) h 6 = 0 from w12]
  refine lv_icmp_ge (tgt := 46) hx hb dX2_search_34 (by decide) (fun c17 => ?_) (fun c17 => absurd (by decide) c17)
  refine lv_iconst (v := 0) hx hb dX2_search_46 (by decide) ?_
  refine lv_iadd hx hb dX2_search_47 ?_
  rw [show (0 + 0 : Int32) = 0 from by decide]
  refine lv_istore_n (lv' := [(3, .int 0), (4, .int 4), (0, .ref h), (1, .int a), (2, .int b)]) hx hb dX2_search_48 rfl hl (by decide) rfl (fun ls hl => ?_)
  refine lv_aload_n hx hb dX2_search_49 rfl (lv_at hl 2 rfl) ?_
  refine pg_gr (b := lf) (ci := 2) (C := RX2) (T := TX2) (N := 10) hx hb hts wi2 hown hK hW hk (by decide) rfl 5 (by decide) (hts (.fieldLink RX2 24 "IceHall$Mover" "leastFrom" "[I") (by decide +kernel)) (fun _ h9 => h9) rfl m79 dX2_search_50 ?_
  refine lv_iload hx hb dX2_search_53 (lv_at hl 1 rfl) ?_
  refine lv_iload_n hx hb dX2_search_55 rfl (lv_at hl 0 rfl) ?_
  refine pg_iast hx hb hK hW hS m80 (by rw [show sL (stI (stI (stI (stI S h 8 a) h 9 b) h 7 600) lf (Int32.toNatClampNeg 5) 0) lf = 6 from m81]; exact vp_in_nI (n := 4) (by decide) (by decide)) dX2_search_56 (fun H locs hW hS => ?_)
  have w18 : sI (stI (stI (stI (stI (stI S h 8 a) h 9 b) h 7 600) lf (Int32.toNatClampNeg 5) 0) lf (Int32.toNatClampNeg 4) 0) h 6 = 0 := (iI_a (fk_ne hk m80 (by decide))).trans w12
  have w19 : sI (stI (stI (stI (stI (stI S h 8 a) h 9 b) h 7 600) lf (Int32.toNatClampNeg 5) 0) lf (Int32.toNatClampNeg 4) 0) h 8 = a := (iI_a (fk_ne hk m80 (by decide))).trans w13
  have w20 : sI (stI (stI (stI (stI (stI S h 8 a) h 9 b) h 7 600) lf (Int32.toNatClampNeg 5) 0) lf (Int32.toNatClampNeg 4) 0) h 9 = b := (iI_a (fk_ne hk m80 (by decide))).trans w14
  have w21 : sI (stI (stI (stI (stI (stI S h 8 a) h 9 b) h 7 600) lf (Int32.toNatClampNeg 5) 0) lf (Int32.toNatClampNeg 4) 0) h 7 = 600 := (iI_a (fk_ne hk m80 (by decide))).trans w15
  clear w12 w13 w14 w15
  refine lv_iinc (v := 3) (lv' := [(4, .int 3), (3, .int 0), (0, .ref h), (1, .int a), (2, .int b)]) hx hb dX2_search_57 hl (k := 1) rfl (by decide) (by decide) rfl (fun ls hl => ?_)
  refine lv_goto (tgt := 22) hx hb dX2_search_60 (by decide) ?_
  refine lv_iload hx hb dX2_search_22 (lv_at hl 0 rfl) ?_
  refine lv_if_lt (tgt := 63) hx hb dX2_search_24 (by decide) (fun c22 => absurd c22 (by decide)) (fun c22 => ?_)
  refine lv_iload_n hx hb dX2_search_27 rfl (lv_at hl 1 rfl) ?_
  refine lv_iload hx hb dX2_search_28 (lv_at hl 0 rfl) ?_
  refine lv_aload_n hx hb dX2_search_30 rfl (lv_at hl 2 rfl) ?_
  refine pg_gi (ci := 2) (C := RX2) (T := TX2) (N := 10) hx hb hts wi2 hown hK hW hk (by decide) rfl 6 (by decide) (hts (.fieldLink RX2 34 "IceHall$Mover" "size" "I") (by decide +kernel)) (fun _ h9 => h9) rfl dX2_search_31 ?_
  rw [show sI (stI (stI (stI (stI (stI S h 8 a) h 9 b) h 7 600) lf (Int32.toNatClampNeg 5) 0) lf (Int32.toNatClampNeg 4) 0) h 6 = 0 from w18]
  refine lv_icmp_ge (tgt := 46) hx hb dX2_search_34 (by decide) (fun c23 => ?_) (fun c23 => absurd (by decide) c23)
  refine lv_iconst (v := 0) hx hb dX2_search_46 (by decide) ?_
  refine lv_iadd hx hb dX2_search_47 ?_
  rw [show (0 + 0 : Int32) = 0 from by decide]
  refine lv_istore_n (lv' := [(3, .int 0), (4, .int 3), (0, .ref h), (1, .int a), (2, .int b)]) hx hb dX2_search_48 rfl hl (by decide) rfl (fun ls hl => ?_)
  refine lv_aload_n hx hb dX2_search_49 rfl (lv_at hl 2 rfl) ?_
  refine pg_gr (b := lf) (ci := 2) (C := RX2) (T := TX2) (N := 10) hx hb hts wi2 hown hK hW hk (by decide) rfl 5 (by decide) (hts (.fieldLink RX2 24 "IceHall$Mover" "leastFrom" "[I") (by decide +kernel)) (fun _ h9 => h9) rfl m79 dX2_search_50 ?_
  refine lv_iload hx hb dX2_search_53 (lv_at hl 1 rfl) ?_
  refine lv_iload_n hx hb dX2_search_55 rfl (lv_at hl 0 rfl) ?_
  refine pg_iast hx hb hK hW hS m80 (by rw [show sL (stI (stI (stI (stI (stI S h 8 a) h 9 b) h 7 600) lf (Int32.toNatClampNeg 5) 0) lf (Int32.toNatClampNeg 4) 0) lf = 6 from m81]; exact vp_in_nI (n := 3) (by decide) (by decide)) dX2_search_56 (fun H locs hW hS => ?_)
  have w24 : sI (stI (stI (stI (stI (stI (stI S h 8 a) h 9 b) h 7 600) lf (Int32.toNatClampNeg 5) 0) lf (Int32.toNatClampNeg 4) 0) lf (Int32.toNatClampNeg 3) 0) h 6 = 0 := (iI_a (fk_ne hk m80 (by decide))).trans w18
  have w25 : sI (stI (stI (stI (stI (stI (stI S h 8 a) h 9 b) h 7 600) lf (Int32.toNatClampNeg 5) 0) lf (Int32.toNatClampNeg 4) 0) lf (Int32.toNatClampNeg 3) 0) h 8 = a := (iI_a (fk_ne hk m80 (by decide))).trans w19
  have w26 : sI (stI (stI (stI (stI (stI (stI S h 8 a) h 9 b) h 7 600) lf (Int32.toNatClampNeg 5) 0) lf (Int32.toNatClampNeg 4) 0) lf (Int32.toNatClampNeg 3) 0) h 9 = b := (iI_a (fk_ne hk m80 (by decide))).trans w20
  have w27 : sI (stI (stI (stI (stI (stI (stI S h 8 a) h 9 b) h 7 600) lf (Int32.toNatClampNeg 5) 0) lf (Int32.toNatClampNeg 4) 0) lf (Int32.toNatClampNeg 3) 0) h 7 = 600 := (iI_a (fk_ne hk m80 (by decide))).trans w21
  clear w18 w19 w20 w21
  refine lv_iinc (v := 2) (lv' := [(4, .int 2), (3, .int 0), (0, .ref h), (1, .int a), (2, .int b)]) hx hb dX2_search_57 hl (k := 1) rfl (by decide) (by decide) rfl (fun ls hl => ?_)
  refine lv_goto (tgt := 22) hx hb dX2_search_60 (by decide) ?_
  refine lv_iload hx hb dX2_search_22 (lv_at hl 0 rfl) ?_
  refine lv_if_lt (tgt := 63) hx hb dX2_search_24 (by decide) (fun c28 => absurd c28 (by decide)) (fun c28 => ?_)
  refine lv_iload_n hx hb dX2_search_27 rfl (lv_at hl 1 rfl) ?_
  refine lv_iload hx hb dX2_search_28 (lv_at hl 0 rfl) ?_
  refine lv_aload_n hx hb dX2_search_30 rfl (lv_at hl 2 rfl) ?_
  refine pg_gi (ci := 2) (C := RX2) (T := TX2) (N := 10) hx hb hts wi2 hown hK hW hk (by decide) rfl 6 (by decide) (hts (.fieldLink RX2 34 "IceHall$Mover" "size" "I") (by decide +kernel)) (fun _ h9 => h9) rfl dX2_search_31 ?_
  rw [show sI (stI (stI (stI (stI (stI (stI S h 8 a) h 9 b) h 7 600) lf (Int32.toNatClampNeg 5) 0) lf (Int32.toNatClampNeg 4) 0) lf (Int32.toNatClampNeg 3) 0) h 6 = 0 from w24]
  refine lv_icmp_ge (tgt := 46) hx hb dX2_search_34 (by decide) (fun c29 => ?_) (fun c29 => absurd (by decide) c29)
  refine lv_iconst (v := 0) hx hb dX2_search_46 (by decide) ?_
  refine lv_iadd hx hb dX2_search_47 ?_
  rw [show (0 + 0 : Int32) = 0 from by decide]
  refine lv_istore_n (lv' := [(3, .int 0), (4, .int 2), (0, .ref h), (1, .int a), (2, .int b)]) hx hb dX2_search_48 rfl hl (by decide) rfl (fun ls hl => ?_)
  refine lv_aload_n hx hb dX2_search_49 rfl (lv_at hl 2 rfl) ?_
  refine pg_gr (b := lf) (ci := 2) (C := RX2) (T := TX2) (N := 10) hx hb hts wi2 hown hK hW hk (by decide) rfl 5 (by decide) (hts (.fieldLink RX2 24 "IceHall$Mover" "leastFrom" "[I") (by decide +kernel)) (fun _ h9 => h9) rfl m79 dX2_search_50 ?_
  refine lv_iload hx hb dX2_search_53 (lv_at hl 1 rfl) ?_
  refine lv_iload_n hx hb dX2_search_55 rfl (lv_at hl 0 rfl) ?_
  refine pg_iast hx hb hK hW hS m80 (by rw [show sL (stI (stI (stI (stI (stI (stI S h 8 a) h 9 b) h 7 600) lf (Int32.toNatClampNeg 5) 0) lf (Int32.toNatClampNeg 4) 0) lf (Int32.toNatClampNeg 3) 0) lf = 6 from m81]; exact vp_in_nI (n := 2) (by decide) (by decide)) dX2_search_56 (fun H locs hW hS => ?_)
  have w30 : sI (stI (stI (stI (stI (stI (stI (stI S h 8 a) h 9 b) h 7 600) lf (Int32.toNatClampNeg 5) 0) lf (Int32.toNatClampNeg 4) 0) lf (Int32.toNatClampNeg 3) 0) lf (Int32.toNatClampNeg 2) 0) h 6 = 0 := (iI_a (fk_ne hk m80 (by decide))).trans w24
  have w31 : sI (stI (stI (stI (stI (stI (stI (stI S h 8 a) h 9 b) h 7 600) lf (Int32.toNatClampNeg 5) 0) lf (Int32.toNatClampNeg 4) 0) lf (Int32.toNatClampNeg 3) 0) lf (Int32.toNatClampNeg 2) 0) h 8 = a := (iI_a (fk_ne hk m80 (by decide))).trans w25
  have w32 : sI (stI (stI (stI (stI (stI (stI (stI S h 8 a) h 9 b) h 7 600) lf (Int32.toNatClampNeg 5) 0) lf (Int32.toNatClampNeg 4) 0) lf (Int32.toNatClampNeg 3) 0) lf (Int32.toNatClampNeg 2) 0) h 9 = b := (iI_a (fk_ne hk m80 (by decide))).trans w26
  have w33 : sI (stI (stI (stI (stI (stI (stI (stI S h 8 a) h 9 b) h 7 600) lf (Int32.toNatClampNeg 5) 0) lf (Int32.toNatClampNeg 4) 0) lf (Int32.toNatClampNeg 3) 0) lf (Int32.toNatClampNeg 2) 0) h 7 = 600 := (iI_a (fk_ne hk m80 (by decide))).trans w27
  clear w24 w25 w26 w27
  refine lv_iinc (v := 1) (lv' := [(4, .int 1), (3, .int 0), (0, .ref h), (1, .int a), (2, .int b)]) hx hb dX2_search_57 hl (k := 1) rfl (by decide) (by decide) rfl (fun ls hl => ?_)
  refine lv_goto (tgt := 22) hx hb dX2_search_60 (by decide) ?_
  refine lv_iload hx hb dX2_search_22 (lv_at hl 0 rfl) ?_
  refine lv_if_lt (tgt := 63) hx hb dX2_search_24 (by decide) (fun c34 => absurd c34 (by decide)) (fun c34 => ?_)
  refine lv_iload_n hx hb dX2_search_27 rfl (lv_at hl 1 rfl) ?_
  refine lv_iload hx hb dX2_search_28 (lv_at hl 0 rfl) ?_
  refine lv_aload_n hx hb dX2_search_30 rfl (lv_at hl 2 rfl) ?_
  refine pg_gi (ci := 2) (C := RX2) (T := TX2) (N := 10) hx hb hts wi2 hown hK hW hk (by decide) rfl 6 (by decide) (hts (.fieldLink RX2 34 "IceHall$Mover" "size" "I") (by decide +kernel)) (fun _ h9 => h9) rfl dX2_search_31 ?_
  rw [show sI (stI (stI (stI (stI (stI (stI (stI S h 8 a) h 9 b) h 7 600) lf (Int32.toNatClampNeg 5) 0) lf (Int32.toNatClampNeg 4) 0) lf (Int32.toNatClampNeg 3) 0) lf (Int32.toNatClampNeg 2) 0) h 6 = 0 from w30]
  refine lv_icmp_ge (tgt := 46) hx hb dX2_search_34 (by decide) (fun c35 => ?_) (fun c35 => absurd (by decide) c35)
  refine lv_iconst (v := 0) hx hb dX2_search_46 (by decide) ?_
  refine lv_iadd hx hb dX2_search_47 ?_
  rw [show (0 + 0 : Int32) = 0 from by decide]
  refine lv_istore_n (lv' := [(3, .int 0), (4, .int 1), (0, .ref h), (1, .int a), (2, .int b)]) hx hb dX2_search_48 rfl hl (by decide) rfl (fun ls hl => ?_)
  refine lv_aload_n hx hb dX2_search_49 rfl (lv_at hl 2 rfl) ?_
  refine pg_gr (b := lf) (ci := 2) (C := RX2) (T := TX2) (N := 10) hx hb hts wi2 hown hK hW hk (by decide) rfl 5 (by decide) (hts (.fieldLink RX2 24 "IceHall$Mover" "leastFrom" "[I") (by decide +kernel)) (fun _ h9 => h9) rfl m79 dX2_search_50 ?_
  refine lv_iload hx hb dX2_search_53 (lv_at hl 1 rfl) ?_
  refine lv_iload_n hx hb dX2_search_55 rfl (lv_at hl 0 rfl) ?_
  refine pg_iast hx hb hK hW hS m80 (by rw [show sL (stI (stI (stI (stI (stI (stI (stI S h 8 a) h 9 b) h 7 600) lf (Int32.toNatClampNeg 5) 0) lf (Int32.toNatClampNeg 4) 0) lf (Int32.toNatClampNeg 3) 0) lf (Int32.toNatClampNeg 2) 0) lf = 6 from m81]; exact vp_in_nI (n := 1) (by decide) (by decide)) dX2_search_56 (fun H locs hW hS => ?_)
  have w36 : sI (stI (stI (stI (stI (stI (stI (stI (stI S h 8 a) h 9 b) h 7 600) lf (Int32.toNatClampNeg 5) 0) lf (Int32.toNatClampNeg 4) 0) lf (Int32.toNatClampNeg 3) 0) lf (Int32.toNatClampNeg 2) 0) lf (Int32.toNatClampNeg 1) 0) h 6 = 0 := (iI_a (fk_ne hk m80 (by decide))).trans w30
  have w37 : sI (stI (stI (stI (stI (stI (stI (stI (stI S h 8 a) h 9 b) h 7 600) lf (Int32.toNatClampNeg 5) 0) lf (Int32.toNatClampNeg 4) 0) lf (Int32.toNatClampNeg 3) 0) lf (Int32.toNatClampNeg 2) 0) lf (Int32.toNatClampNeg 1) 0) h 8 = a := (iI_a (fk_ne hk m80 (by decide))).trans w31
  have w38 : sI (stI (stI (stI (stI (stI (stI (stI (stI S h 8 a) h 9 b) h 7 600) lf (Int32.toNatClampNeg 5) 0) lf (Int32.toNatClampNeg 4) 0) lf (Int32.toNatClampNeg 3) 0) lf (Int32.toNatClampNeg 2) 0) lf (Int32.toNatClampNeg 1) 0) h 9 = b := (iI_a (fk_ne hk m80 (by decide))).trans w32
  have w39 : sI (stI (stI (stI (stI (stI (stI (stI (stI S h 8 a) h 9 b) h 7 600) lf (Int32.toNatClampNeg 5) 0) lf (Int32.toNatClampNeg 4) 0) lf (Int32.toNatClampNeg 3) 0) lf (Int32.toNatClampNeg 2) 0) lf (Int32.toNatClampNeg 1) 0) h 7 = 600 := (iI_a (fk_ne hk m80 (by decide))).trans w33
  clear w30 w31 w32 w33
  refine lv_iinc (v := 0) (lv' := [(4, .int 0), (3, .int 0), (0, .ref h), (1, .int a), (2, .int b)]) hx hb dX2_search_57 hl (k := 1) rfl (by decide) (by decide) rfl (fun ls hl => ?_)
  refine lv_goto (tgt := 22) hx hb dX2_search_60 (by decide) ?_
  refine lv_iload hx hb dX2_search_22 (lv_at hl 0 rfl) ?_
  refine lv_if_lt (tgt := 63) hx hb dX2_search_24 (by decide) (fun c40 => absurd c40 (by decide)) (fun c40 => ?_)
  refine lv_iload_n hx hb dX2_search_27 rfl (lv_at hl 1 rfl) ?_
  refine lv_iload hx hb dX2_search_28 (lv_at hl 0 rfl) ?_
  refine lv_aload_n hx hb dX2_search_30 rfl (lv_at hl 2 rfl) ?_
  refine pg_gi (ci := 2) (C := RX2) (T := TX2) (N := 10) hx hb hts wi2 hown hK hW hk (by decide) rfl 6 (by decide) (hts (.fieldLink RX2 34 "IceHall$Mover" "size" "I") (by decide +kernel)) (fun _ h9 => h9) rfl dX2_search_31 ?_
  rw [show sI (stI (stI (stI (stI (stI (stI (stI (stI S h 8 a) h 9 b) h 7 600) lf (Int32.toNatClampNeg 5) 0) lf (Int32.toNatClampNeg 4) 0) lf (Int32.toNatClampNeg 3) 0) lf (Int32.toNatClampNeg 2) 0) lf (Int32.toNatClampNeg 1) 0) h 6 = 0 from w36]
  refine lv_icmp_ge (tgt := 46) hx hb dX2_search_34 (by decide) (fun c41 => ?_) (fun c41 => absurd (by decide) c41)
  refine lv_iconst (v := 0) hx hb dX2_search_46 (by decide) ?_
  refine lv_iadd hx hb dX2_search_47 ?_
  rw [show (0 + 0 : Int32) = 0 from by decide]
  refine lv_istore_n (lv' := [(3, .int 0), (4, .int 0), (0, .ref h), (1, .int a), (2, .int b)]) hx hb dX2_search_48 rfl hl (by decide) rfl (fun ls hl => ?_)
  refine lv_aload_n hx hb dX2_search_49 rfl (lv_at hl 2 rfl) ?_
  refine pg_gr (b := lf) (ci := 2) (C := RX2) (T := TX2) (N := 10) hx hb hts wi2 hown hK hW hk (by decide) rfl 5 (by decide) (hts (.fieldLink RX2 24 "IceHall$Mover" "leastFrom" "[I") (by decide +kernel)) (fun _ h9 => h9) rfl m79 dX2_search_50 ?_
  refine lv_iload hx hb dX2_search_53 (lv_at hl 1 rfl) ?_
  refine lv_iload_n hx hb dX2_search_55 rfl (lv_at hl 0 rfl) ?_
  refine pg_iast hx hb hK hW hS m80 (by rw [show sL (stI (stI (stI (stI (stI (stI (stI (stI S h 8 a) h 9 b) h 7 600) lf (Int32.toNatClampNeg 5) 0) lf (Int32.toNatClampNeg 4) 0) lf (Int32.toNatClampNeg 3) 0) lf (Int32.toNatClampNeg 2) 0) lf (Int32.toNatClampNeg 1) 0) lf = 6 from m81]; exact vp_in_nI (n := 0) (by decide) (by decide)) dX2_search_56 (fun H locs hW hS => ?_)
  have w42 : sI (stI (stI (stI (stI (stI (stI (stI (stI (stI S h 8 a) h 9 b) h 7 600) lf (Int32.toNatClampNeg 5) 0) lf (Int32.toNatClampNeg 4) 0) lf (Int32.toNatClampNeg 3) 0) lf (Int32.toNatClampNeg 2) 0) lf (Int32.toNatClampNeg 1) 0) lf (Int32.toNatClampNeg 0) 0) h 6 = 0 := (iI_a (fk_ne hk m80 (by decide))).trans w36
  have w43 : sI (stI (stI (stI (stI (stI (stI (stI (stI (stI S h 8 a) h 9 b) h 7 600) lf (Int32.toNatClampNeg 5) 0) lf (Int32.toNatClampNeg 4) 0) lf (Int32.toNatClampNeg 3) 0) lf (Int32.toNatClampNeg 2) 0) lf (Int32.toNatClampNeg 1) 0) lf (Int32.toNatClampNeg 0) 0) h 8 = a := (iI_a (fk_ne hk m80 (by decide))).trans w37
  have w44 : sI (stI (stI (stI (stI (stI (stI (stI (stI (stI S h 8 a) h 9 b) h 7 600) lf (Int32.toNatClampNeg 5) 0) lf (Int32.toNatClampNeg 4) 0) lf (Int32.toNatClampNeg 3) 0) lf (Int32.toNatClampNeg 2) 0) lf (Int32.toNatClampNeg 1) 0) lf (Int32.toNatClampNeg 0) 0) h 9 = b := (iI_a (fk_ne hk m80 (by decide))).trans w38
  have w45 : sI (stI (stI (stI (stI (stI (stI (stI (stI (stI S h 8 a) h 9 b) h 7 600) lf (Int32.toNatClampNeg 5) 0) lf (Int32.toNatClampNeg 4) 0) lf (Int32.toNatClampNeg 3) 0) lf (Int32.toNatClampNeg 2) 0) lf (Int32.toNatClampNeg 1) 0) lf (Int32.toNatClampNeg 0) 0) h 7 = 600 := (iI_a (fk_ne hk m80 (by decide))).trans w39
  clear w36 w37 w38 w39
  refine lv_iinc (v := (-1)) (lv' := [(4, .int ((-1))), (3, .int 0), (0, .ref h), (1, .int a), (2, .int b)]) hx hb dX2_search_57 hl (k := 1) rfl (by decide) (by decide) rfl (fun ls hl => ?_)
  refine lv_goto (tgt := 22) hx hb dX2_search_60 (by decide) ?_
  refine lv_iload hx hb dX2_search_22 (lv_at hl 0 rfl) ?_
  refine lv_if_lt (tgt := 63) hx hb dX2_search_24 (by decide) (fun c46 => ?_) (fun c46 => absurd (by decide) c46)
  refine lv_aload_n hx hb dX2_search_63 rfl (lv_at hl 2 rfl) ?_
  refine lv_iconst (v := 0) hx hb dX2_search_64 (by decide) ?_
  refine lv_iconst (v := 0) hx hb dX2_search_65 (by decide) ?_
  refine pc_Sv (As := [.ref h, .int 0, .int 0]) (rest := []) F (c_X2_searchFrom l D cy A (stI (stI (stI (stI (stI (stI (stI (stI (stI S h 8 a) h 9 b) h 7 600) lf (Int32.toNatClampNeg 5) 0) lf (Int32.toNatClampNeg 4) 0) lf (Int32.toNatClampNeg 3) 0) lf (Int32.toNatClampNeg 2) 0) lf (Int32.toNatClampNeg 1) 0) lf (Int32.toNatClampNeg 0) 0) h mv rw_ br lf hk m70 m71 m72 m73 m74 m75 m76 m77 m78 m79 m80 m81 w42 w45) (va_cwS 3 hts gX2_search_X2_searchFrom rfl rfl rfl (by decide +kernel) ⟨Nat.le_of_ble_eq_true rfl, Nat.le_of_ble_eq_true rfl⟩) hK hZ hA hW hS rfl hl.1 rfl (Nat.le_of_ble_eq_true rfl) dX2_search_66 ⟨Nat.le_of_ble_eq_true rfl, Nat.le_of_ble_eq_true rfl⟩ (fun T48 H locs p49 hW hS => ?_)
  obtain ⟨⟨ekT48, erT48, elT48⟩, p49⟩ := p49
  have f50 : sK T48 h = 2 := by rw [ekT48]; exact hk
  have f51 : sK T48 mv = 15 := by rw [ekT48]; exact m71
  have f52 : sK T48 rw_ = 11 := by rw [ekT48]; exact m74
  have f53 : sK T48 br = 11 := by rw [ekT48]; exact m77
  have f54 : sK T48 lf = 11 := by rw [ekT48]; exact m80
  have f55 : sL T48 mv = 5 := by rw [elT48]; exact m72
  have f56 : sL T48 rw_ = 5 := by rw [elT48]; exact m75
  have f57 : sL T48 br = 5 := by rw [elT48]; exact m78
  have f58 : sL T48 lf = 6 := by rw [elT48]; exact m81
  have f59 : sR T48 h 2 = some mv := by rw [erT48]; exact m70
  have f60 : sR T48 h 3 = some rw_ := by rw [erT48]; exact m73
  have f61 : sR T48 h 4 = some br := by rw [erT48]; exact m76
  have f62 : sR T48 h 5 = some lf := by rw [erT48]; exact m79
  obtain ⟨y63, p49⟩ := p49
  exact pc_vret (S := T48) hx hb hr hlk hK hZ hA hW hS (⟨⟨ekT48, erT48, elT48⟩, y63, trivial⟩) dX2_search_69
set_option maxHeartbeats 4000000 in
set_option maxRecDepth 100000 in
theorem c_X2_carryOut (l : Launch) (D : va_G) (cy : Nat → ClassId) (A : Nat → Prop) (S : St) (h : Nat) (hk : sK S h = 2) (s6 : sI S h 6 = 0) : MI l yX2_carryOut wsX2_carryOut ({ frames := 1, cells := 0, slots := 0, locals := 21 } : Room) 0 0 D cy A [.ref h] S (fun r S1 => S1 = S ∧ r = 0) := by
  refine mt_start (cc := cX2_carryOut) (maxL := 5) (ret := (some .int)) (by decide) rfl (Nat.le_of_ble_eq_true rfl) ?_
  intro p e s m args below meth c hx hb hr hlk hml hown hnm hts hK hZ hA hW hS ls hl
  have hl : lv_has ls 5 [(0, .ref h)] := hl
  have hown : s.vm.findClass RX2 = some m.cls := hown
  have F : CallFix p m c cX2_carryOut 5 s args wsX2_carryOut RX2 := ⟨hx, hb, hml, hown, hts⟩
  have wi2 : ∀ w ∈ u_ws RX2 TX2 10, w ∈ wsX2_carryOut := by decide +kernel
  refine lv_iconst (v := 0) hx hb dX2_carryOut_0 (by decide) ?_
  refine lv_istore_n (lv' := [(1, .int 0), (0, .ref h)]) hx hb dX2_carryOut_1 rfl hl (by decide) rfl (fun ls hl => ?_)
  refine lv_iconst (v := 0) hx hb dX2_carryOut_2 (by decide) ?_
  refine lv_istore_n (lv' := [(2, .int 0), (1, .int 0), (0, .ref h)]) hx hb dX2_carryOut_3 rfl hl (by decide) rfl (fun ls hl => ?_)
  refine lv_iload_n hx hb dX2_carryOut_4 rfl (lv_at hl 0 rfl) ?_
  refine lv_aload_n hx hb dX2_carryOut_5 rfl (lv_at hl 2 rfl) ?_
  refine pg_gi (ci := 2) (C := RX2) (T := TX2) (N := 10) hx hb hts wi2 hown hK hW hk (by decide) rfl 6 (by decide) (hts (.fieldLink RX2 34 "IceHall$Mover" "size" "I") (by decide +kernel)) (fun _ h9 => h9) rfl dX2_carryOut_6 ?_
  rw [show sI S h 6 = 0 from s6]
  refine lv_icmp_ge (tgt := 105) hx hb dX2_carryOut_9 (by decide) (fun c1 => ?_) (fun c1 => absurd (by decide) c1)
  refine lv_iload_n hx hb dX2_carryOut_105 rfl (lv_at hl 1 rfl) ?_
  exact pc_iret (v := 0) (S := S) hx hb hr hlk hK hZ hA hW hS (⟨rfl, rfl⟩) dX2_carryOut_106
set_option maxHeartbeats 4000000 in
set_option maxRecDepth 100000 in
theorem c_X8_close (l : Launch) (D : va_G) (cy : Nat → ClassId) (A : Nat → Prop) (S : St) (h i1 i2 q1 w1 q2 w2 q3 w3 q4 w4 mo mv rw_ br lf : Nat) (t x y : Int32) (a_0 : sK S h = 8) (a_1 : sR S h 0 = some i1) (a_2 : sR S h 1 = some i2) (a_8 : sR S h 7 = some mo) (a_10 : sK S i1 = 1) (a_11 : sR S i1 0 = some q1) (a_12 : sK S q1 = 0) (a_13 : sR S q1 0 = some w1) (a_14 : sK S w1 = 12) (a_15 : sL S w1 = 32) (a_16 : ∀ j, sJ S w1 j = 0) (a_17 : sR S i1 1 = some q2) (a_18 : sK S q2 = 0) (a_19 : sR S q2 0 = some w2) (a_20 : sK S w2 = 12) (a_21 : sL S w2 = 32) (a_22 : ∀ j, sJ S w2 j = 0) (a_23 : sI S i1 2 = 0) (a_24 : sI S i1 3 = 300) (a_25 : sI S i1 4 = 0) (a_26 : sI S i1 5 = 0) (a_27 : sI S i1 6 = 0) (a_28 : sI S i1 7 = 0) (a_29 : sI S i1 8 = 0) (a_30 : sI S i1 9 = 0) (a_31 : sK S i2 = 1) (a_32 : sR S i2 0 = some q3) (a_33 : sK S q3 = 0) (a_34 : sR S q3 0 = some w3) (a_35 : sK S w3 = 12) (a_36 : sL S w3 = 32) (a_37 : ∀ j, sJ S w3 j = 0) (a_38 : sR S i2 1 = some q4) (a_39 : sK S q4 = 0) (a_40 : sR S q4 0 = some w4) (a_41 : sK S w4 = 12) (a_42 : sL S w4 = 32) (a_43 : ∀ j, sJ S w4 j = 0) (a_44 : sI S i2 2 = 0) (a_45 : sI S i2 3 = 300) (a_46 : sI S i2 4 = 0) (a_47 : sI S i2 5 = 0) (a_48 : sI S i2 6 = 0) (a_49 : sI S i2 7 = 0) (a_50 : sI S i2 8 = 0) (a_51 : sI S i2 9 = 0) (a_67 : sK S mo = 2) (a_68 : sR S mo 0 = some i1) (a_69 : sR S mo 1 = some i2) (a_70 : sR S mo 2 = some mv) (a_71 : sK S mv = 15) (a_72 : sL S mv = 5) (a_73 : sR S mo 3 = some rw_) (a_74 : sK S rw_ = 11) (a_75 : sL S rw_ = 5) (a_76 : sR S mo 4 = some br) (a_77 : sK S br = 11) (a_78 : sL S br = 5) (a_79 : sR S mo 5 = some lf) (a_80 : sK S lf = 11) (a_81 : sL S lf = 6) (a_82 : sI S mo 6 = 0) (a_83 : sI S mo 7 = 0) (a_84 : sI S mo 8 = 0) (a_85 : sI S mo 9 = 0) (a_113 : sI S h 9 = 0) (a_114 : sI S h 10 = 0) (a_115 : sI S h 11 = 200) (a_116 : sI S h 12 = 400) (a_117 : sI S h 13 = 3) (a_118 : sI S h 14 = 2) (a_119 : sI S h 15 = 0) (a_120 : sI S h 16 = 0) (a_121 : sI S h 17 = 0) : MI l yX8_close wsX8_close ({ frames := 4, cells := 0, slots := 0, locals := 131 } : Room) 0 0 D cy A [.ref h, .int t, .int x, .int y] S (fun r S1 => (r = 0 ∧ 0 ≤ t.toInt ∧ t.toInt < 2 ∧ 0 ≤ x.toInt ∧ x.toInt < y.toInt ∧ y.toInt ≤ 1000 ∧ y.toInt - x.toInt ≤ 100) ∨ (r = (-1) ∧ ¬ (0 ≤ t.toInt ∧ t.toInt < 2 ∧ 0 ≤ x.toInt ∧ x.toInt < y.toInt ∧ y.toInt ≤ 1000 ∧ y.toInt - x.toInt ≤ 100))) := by
  refine mt_start (cc := cX8_close) (maxL := 6) (ret := (some .int)) (by decide) rfl (Nat.le_of_ble_eq_true rfl) ?_
  intro p e s m args below meth c hx hb hr hlk hml hown hnm hts hK hZ hA hW hS ls hl
  have hl : lv_has ls 6 [(0, .ref h), (1, .int t), (2, .int x), (3, .int y)] := hl
  have hown : s.vm.findClass RX8 = some m.cls := hown
  have F : CallFix p m c cX8_close 6 s args wsX8_close RX8 := ⟨hx, hb, hml, hown, hts⟩
  have wi1 : ∀ w ∈ u_ws RX1 TX1 10, w ∈ wsX8_close := by decide +kernel
  have wi8 : ∀ w ∈ u_ws RX8 TX8 18, w ∈ wsX8_close := by decide +kernel
  refine lv_iload_n hx hb dX8_close_0 rfl (lv_at hl 1 rfl) ?_
  refine lv_iconst (v := 2) hx hb dX8_close_1 (by decide) ?_
  refine pc_Si (As := [.int t, .int 2]) (rest := []) F (c_X8_isBelow l D cy A S t 2 ) (va_cwS 2 hts gX8_close_X8_isBelow rfl rfl rfl (by decide +kernel) ⟨Nat.le_of_ble_eq_true rfl, Nat.le_of_ble_eq_true rfl⟩) hK hZ hA hW hS rfl hl.1 rfl (Nat.le_of_ble_eq_true rfl) dX8_close_2 ⟨Nat.le_of_ble_eq_true rfl, Nat.le_of_ble_eq_true rfl⟩ (fun v1 T2 H locs p3 hW hS => ?_)
  obtain ⟨eT2, p3⟩ := p3
  rw [eT2] at hW
  have p3 := isb_lit (n := 2) rfl p3
  refine lv_if_eq (tgt := 33) hx hb dX8_close_5 (by decide) (fun c4 => ?_) (fun c4 => ?_)
  · have c4i : Int32.toInt v1 = (0 : Int) := (i3_eq _ _).mp c4
    refine lv_iconst (v := (-1)) hx hb dX8_close_33 (by decide) ?_
    exact pc_iret (v := (-1)) (S := S) hx hb hr hlk hK hZ hA hW hS (Or.inr ⟨rfl, by omega⟩) dX8_close_34
  · have c4i : ¬ (Int32.toInt v1 = (0 : Int)) := fun h9 => c4 ((i3_eq _ _).mpr h9)
    refine lv_iload_n hx hb dX8_close_8 rfl (lv_at hl 2 rfl) ?_
    refine lv_aload_n hx hb dX8_close_9 rfl (lv_at hl 0 rfl) ?_
    refine pg_gi (ci := 8) (C := RX8) (T := TX8) (N := 18) hx hb hts wi8 hown hK hW a_0 (by decide) rfl 10 (by decide) (hts (.fieldLink RX8 96 "IceHall" "now" "I") (by decide +kernel)) (fun _ h9 => h9) rfl dX8_close_10 ?_
    rw [show sI S h 10 = 0 from a_114]
    refine lv_icmp_lt (tgt := 33) hx hb dX8_close_13 (by decide) (fun c5 => ?_) (fun c5 => ?_)
    · have c5i : Int32.toInt x < (0 : Int) := (i3_lt _ _).mp c5
      refine lv_iconst (v := (-1)) hx hb dX8_close_33 (by decide) ?_
      exact pc_iret (v := (-1)) (S := S) hx hb hr hlk hK hZ hA hW hS (Or.inr ⟨rfl, by omega⟩) dX8_close_34
    · have c5i : ¬ (Int32.toInt x < (0 : Int)) := fun h9 => c5 ((i3_lt _ _).mpr h9)
      refine lv_iload_n hx hb dX8_close_16 rfl (lv_at hl 3 rfl) ?_
      refine lv_iload_n hx hb dX8_close_17 rfl (lv_at hl 2 rfl) ?_
      refine lv_icmp_le (tgt := 33) hx hb dX8_close_18 (by decide) (fun c6 => ?_) (fun c6 => ?_)
      · have c6i : Int32.toInt y ≤ Int32.toInt x := (i3_le _ _).mp c6
        refine lv_iconst (v := (-1)) hx hb dX8_close_33 (by decide) ?_
        exact pc_iret (v := (-1)) (S := S) hx hb hr hlk hK hZ hA hW hS (Or.inr ⟨rfl, by omega⟩) dX8_close_34
      · have c6i : ¬ (Int32.toInt y ≤ Int32.toInt x) := fun h9 => c6 ((i3_le _ _).mpr h9)
        refine lv_iload_n hx hb dX8_close_21 rfl (lv_at hl 3 rfl) ?_
        refine lv_aload_n hx hb dX8_close_22 rfl (lv_at hl 0 rfl) ?_
        refine pg_gi (ci := 8) (C := RX8) (T := TX8) (N := 18) hx hb hts wi8 hown hK hW a_0 (by decide) rfl 10 (by decide) (hts (.fieldLink RX8 96 "IceHall" "now" "I") (by decide +kernel)) (fun _ h9 => h9) rfl dX8_close_23 ?_
        rw [show sI S h 10 = 0 from a_114]
        refine lv_sipush (v := 1000) hx hb dX8_close_26 (by decide) ?_
        refine lv_iadd hx hb dX8_close_29 ?_
        rw [show (0 + 1000 : Int32) = 1000 from by decide]
        refine lv_icmp_le (tgt := 35) hx hb dX8_close_30 (by decide) (fun c7 => ?_) (fun c7 => ?_)
        · have c7i : Int32.toInt y ≤ (1000 : Int) := (i3_le _ _).mp c7
          refine lv_aload_n hx hb dX8_close_35 rfl (lv_at hl 0 rfl) ?_
          refine lv_iload_n hx hb dX8_close_36 rfl (lv_at hl 1 rfl) ?_
          refine pc_Vq (As := [.int t]) (rest := []) F (c_X8_iceOf l D cy A S h i1 i2 t a_0 a_1 a_2) (cwV 1 hts gX8_close_X8_iceOf rfl rfl rfl (by decide +kernel) ⟨Nat.le_of_ble_eq_true rfl, Nat.le_of_ble_eq_true rfl⟩) hK hZ hA hW hS a_0 (by decide) rfl rfl hl.1 rfl (Nat.le_of_ble_eq_true rfl) dX8_close_37 ⟨Nat.le_of_ble_eq_true rfl, Nat.le_of_ble_eq_true rfl⟩ (fun v8 T9 H locs p10 hW hS => ?_)
          obtain ⟨eT9, p10⟩ := p10
          rw [eT9] at hW
          by_cases c11 : t = 0
          · rw [show v8 = some i1 from by rw [p10, if_pos c11]]
            refine lv_astore (lv' := [(4, .ref i1), (0, .ref h), (1, .int t), (2, .int x), (3, .int y)]) hx hb dX8_close_40 hl (by decide) rfl (fun ls hl => ?_)
            refine lv_iload_n hx hb dX8_close_42 rfl (lv_at hl 4 rfl) ?_
            refine lv_iload_n hx hb dX8_close_43 rfl (lv_at hl 3 rfl) ?_
            refine lv_isub hx hb dX8_close_44 ?_
            have hsub : (y - x).toInt = y.toInt - x.toInt := i3_sub rfl rfl (by omega) (by omega)
            refine lv_bipush (v := 100) hx hb dX8_close_45 (by decide) ?_
            refine lv_icmp_gt (tgt := 60) hx hb dX8_close_47 (by decide) (fun c12 => ?_) (fun c12 => ?_)
            · have c12i : (100 : Int) < Int32.toInt (y - x) := (i3_lt _ _).mp c12
              refine lv_iconst (v := (-1)) hx hb dX8_close_60 (by decide) ?_
              exact pc_iret (v := (-1)) (S := S) hx hb hr hlk hK hZ hA hW hS (Or.inr ⟨rfl, by omega⟩) dX8_close_61
            · have c12i : ¬ ((100 : Int) < Int32.toInt (y - x)) := fun h9 => c12 ((i3_lt _ _).mpr h9)
              refine lv_aload hx hb dX8_close_50 (lv_at hl 0 rfl) ?_
              refine pg_gi (ci := 1) (C := RX1) (T := TX1) (N := 10) hx hb hts wi1 hown hK hW a_10 (by decide) rfl 2 (by decide) (hts (.fieldLink RX8 164 "IceHall$Ice" "closings" "I") (by decide +kernel)) (fun _ h9 => h9) rfl dX8_close_52 ?_
              rw [show sI S i1 2 = 0 from a_23]
              refine lv_bipush (v := 10) hx hb dX8_close_55 (by decide) ?_
              refine lv_icmp_lt (tgt := 62) hx hb dX8_close_57 (by decide) (fun c13 => ?_) (fun c13 => absurd (by decide) c13)
              refine lv_aload_n hx hb dX8_close_62 rfl (lv_at hl 1 rfl) ?_
              refine lv_iload_n hx hb dX8_close_63 rfl (lv_at hl 2 rfl) ?_
              refine lv_iload_n hx hb dX8_close_64 rfl (lv_at hl 3 rfl) ?_
              refine lv_iload_n hx hb dX8_close_65 rfl (lv_at hl 4 rfl) ?_
              refine pc_Vi (As := [.int t, .int x, .int y]) (rest := []) F (c_X8_gatherSessions l D cy A S h mo t x y a_0 a_8 a_67 a_82 a_83 a_84 a_85 a_113 a_114 a_115 a_116 a_117 a_118 a_119 a_120 a_121) (cwV 3 hts gX8_close_X8_gatherSessions rfl rfl rfl (by decide +kernel) ⟨Nat.le_of_ble_eq_true rfl, Nat.le_of_ble_eq_true rfl⟩) hK hZ hA hW hS a_0 (by decide) rfl rfl hl.1 rfl (Nat.le_of_ble_eq_true rfl) dX8_close_66 ⟨Nat.le_of_ble_eq_true rfl, Nat.le_of_ble_eq_true rfl⟩ (fun v14 T15 H locs p16 hW hS => ?_)
              obtain ⟨⟨ekT15, erT15, elT15⟩, p16⟩ := p16
              have f17 : sK T15 h = 8 := by rw [ekT15]; exact a_0
              have f18 : sK T15 i1 = 1 := by rw [ekT15]; exact a_10
              have f19 : sK T15 q1 = 0 := by rw [ekT15]; exact a_12
              have f20 : sK T15 w1 = 12 := by rw [ekT15]; exact a_14
              have f21 : sK T15 q2 = 0 := by rw [ekT15]; exact a_18
              have f22 : sK T15 w2 = 12 := by rw [ekT15]; exact a_20
              have f23 : sK T15 i2 = 1 := by rw [ekT15]; exact a_31
              have f24 : sK T15 q3 = 0 := by rw [ekT15]; exact a_33
              have f25 : sK T15 w3 = 12 := by rw [ekT15]; exact a_35
              have f26 : sK T15 q4 = 0 := by rw [ekT15]; exact a_39
              have f27 : sK T15 w4 = 12 := by rw [ekT15]; exact a_41
              have f28 : sK T15 mo = 2 := by rw [ekT15]; exact a_67
              have f29 : sK T15 mv = 15 := by rw [ekT15]; exact a_71
              have f30 : sK T15 rw_ = 11 := by rw [ekT15]; exact a_74
              have f31 : sK T15 br = 11 := by rw [ekT15]; exact a_77
              have f32 : sK T15 lf = 11 := by rw [ekT15]; exact a_80
              have f33 : sL T15 w1 = 32 := by rw [elT15]; exact a_15
              have f34 : sL T15 w2 = 32 := by rw [elT15]; exact a_21
              have f35 : sL T15 w3 = 32 := by rw [elT15]; exact a_36
              have f36 : sL T15 w4 = 32 := by rw [elT15]; exact a_42
              have f37 : sL T15 mv = 5 := by rw [elT15]; exact a_72
              have f38 : sL T15 rw_ = 5 := by rw [elT15]; exact a_75
              have f39 : sL T15 br = 5 := by rw [elT15]; exact a_78
              have f40 : sL T15 lf = 6 := by rw [elT15]; exact a_81
              have f41 : sR T15 h 0 = some i1 := by rw [erT15]; exact a_1
              have f42 : sR T15 h 1 = some i2 := by rw [erT15]; exact a_2
              have f43 : sR T15 h 7 = some mo := by rw [erT15]; exact a_8
              have f44 : sR T15 i1 0 = some q1 := by rw [erT15]; exact a_11
              have f45 : sR T15 q1 0 = some w1 := by rw [erT15]; exact a_13
              have f46 : sR T15 i1 1 = some q2 := by rw [erT15]; exact a_17
              have f47 : sR T15 q2 0 = some w2 := by rw [erT15]; exact a_19
              have f48 : sR T15 i2 0 = some q3 := by rw [erT15]; exact a_32
              have f49 : sR T15 q3 0 = some w3 := by rw [erT15]; exact a_34
              have f50 : sR T15 i2 1 = some q4 := by rw [erT15]; exact a_38
              have f51 : sR T15 q4 0 = some w4 := by rw [erT15]; exact a_40
              have f52 : sR T15 mo 0 = some i1 := by rw [erT15]; exact a_68
              have f53 : sR T15 mo 1 = some i2 := by rw [erT15]; exact a_69
              have f54 : sR T15 mo 2 = some mv := by rw [erT15]; exact a_70
              have f55 : sR T15 mo 3 = some rw_ := by rw [erT15]; exact a_73
              have f56 : sR T15 mo 4 = some br := by rw [erT15]; exact a_76
              have f57 : sR T15 mo 5 = some lf := by rw [erT15]; exact a_79
              obtain ⟨y58, p16⟩ := p16
              rw [show v14 = 1 from p16]
              refine lv_if_ne (tgt := 74) hx hb dX8_close_69 (by decide) (fun c59 => ?_) (fun c59 => absurd c59 (by decide))
              refine lv_aload hx hb dX8_close_74 (lv_at hl 0 rfl) ?_
              refine lv_dup hx hb dX8_close_76 rfl ?_
              refine pg_gi (ci := 1) (C := RX1) (T := TX1) (N := 10) hx hb hts wi1 hown hK hW f18 (by decide) rfl 2 (by decide) (hts (.fieldLink RX8 164 "IceHall$Ice" "closings" "I") (by decide +kernel)) (fun _ h9 => h9) rfl dX8_close_77 ?_
              refine lv_iconst (v := 1) hx hb dX8_close_80 (by decide) ?_
              refine lv_iadd hx hb dX8_close_81 ?_
              refine pg_pi (ci := 1) (C := RX1) (T := TX1) (N := 10) hx hb hts wi1 tyX1 tyX1_ok nmX1 hown hK hW hS f18 (by decide) rfl 2 (by decide) (hts (.fieldLink RX8 164 "IceHall$Ice" "closings" "I") (by decide +kernel)) (fun _ h9 => h9) rfl rfl rfl dX8_close_82 (fun H locs hW hS => ?_)
              have w60 : sI (stI T15 i1 2 ((sI T15 i1 2) + 1)) mo 6 = 0 := (iI_k (by decide)).trans y58
              have w61 : sI (stI T15 i1 2 ((sI T15 i1 2) + 1)) i1 2 = (sI T15 i1 2) + 1 := iI_s
              clear y58
              refine lv_iload_n hx hb dX8_close_85 rfl (lv_at hl 3 rfl) ?_
              refine lv_istore (lv' := [(5, .int x), (4, .ref i1), (0, .ref h), (1, .int t), (2, .int x), (3, .int y)]) hx hb dX8_close_86 hl (by decide) rfl (fun ls hl => ?_)
              have loop62 : ∀ (n : Nat) (u : Int32) (T88 : St) (H : Heap) (locs : List Loc) (ls : Array Slot), (sK T88 = sK (stI T15 i1 2 ((sI T15 i1 2) + 1))) → (sR T88 = sR (stI T15 i1 2 ((sI T15 i1 2) + 1))) → (sL T88 = sL (stI T15 i1 2 ((sI T15 i1 2) + 1))) → (sI T88 mo 6 = 0) → (y.toInt - u.toInt).toNat < n → PW D cy A T88 H → va_S A s.heap H locs → lv_has ls 6 [(0, .ref h), (1, .int t), (2, .int x), (3, .int y), (4, .ref i1), (5, .int u)] → W p l e ({ frames := 4, cells := 0, slots := 0, locals := 131 } : Room) s m args below meth c H locs 0 0 (MQ below (va_Qi (fun r S1 => (r = 0 ∧ 0 ≤ t.toInt ∧ t.toInt < 2 ∧ 0 ≤ x.toInt ∧ x.toInt < y.toInt ∧ y.toInt ≤ 1000 ∧ y.toInt - x.toInt ≤ 100) ∨ (r = (-1) ∧ ¬ (0 ≤ t.toInt ∧ t.toInt < 2 ∧ 0 ≤ x.toInt ∧ x.toInt < y.toInt ∧ y.toInt ≤ 1000 ∧ y.toInt - x.toInt ≤ 100))) (PU D cy A) A) args s 0 0 A) (F0 m 88 ls []) := by
                intro n
                induction n with
                | zero => intros; exact absurd (by assumption) (Nat.not_lt_zero _)
                | succ n ih =>
                  intro u T88 H locs ls ek er el him hme hW hS hl
                  have f63 : sK T88 h = 8 := by rw [ek]; exact f17
                  have f64 : sK T88 i1 = 1 := by rw [ek]; exact f18
                  have f65 : sK T88 q1 = 0 := by rw [ek]; exact f19
                  have f66 : sK T88 w1 = 12 := by rw [ek]; exact f20
                  have f67 : sK T88 q2 = 0 := by rw [ek]; exact f21
                  have f68 : sK T88 w2 = 12 := by rw [ek]; exact f22
                  have f69 : sK T88 i2 = 1 := by rw [ek]; exact f23
                  have f70 : sK T88 q3 = 0 := by rw [ek]; exact f24
                  have f71 : sK T88 w3 = 12 := by rw [ek]; exact f25
                  have f72 : sK T88 q4 = 0 := by rw [ek]; exact f26
                  have f73 : sK T88 w4 = 12 := by rw [ek]; exact f27
                  have f74 : sK T88 mo = 2 := by rw [ek]; exact f28
                  have f75 : sK T88 mv = 15 := by rw [ek]; exact f29
                  have f76 : sK T88 rw_ = 11 := by rw [ek]; exact f30
                  have f77 : sK T88 br = 11 := by rw [ek]; exact f31
                  have f78 : sK T88 lf = 11 := by rw [ek]; exact f32
                  have f79 : sL T88 w1 = 32 := by rw [el]; exact f33
                  have f80 : sL T88 w2 = 32 := by rw [el]; exact f34
                  have f81 : sL T88 w3 = 32 := by rw [el]; exact f35
                  have f82 : sL T88 w4 = 32 := by rw [el]; exact f36
                  have f83 : sL T88 mv = 5 := by rw [el]; exact f37
                  have f84 : sL T88 rw_ = 5 := by rw [el]; exact f38
                  have f85 : sL T88 br = 5 := by rw [el]; exact f39
                  have f86 : sL T88 lf = 6 := by rw [el]; exact f40
                  have f87 : sR T88 h 0 = some i1 := by rw [er]; exact f41
                  have f88 : sR T88 h 1 = some i2 := by rw [er]; exact f42
                  have f89 : sR T88 h 7 = some mo := by rw [er]; exact f43
                  have f90 : sR T88 i1 0 = some q1 := by rw [er]; exact f44
                  have f91 : sR T88 q1 0 = some w1 := by rw [er]; exact f45
                  have f92 : sR T88 i1 1 = some q2 := by rw [er]; exact f46
                  have f93 : sR T88 q2 0 = some w2 := by rw [er]; exact f47
                  have f94 : sR T88 i2 0 = some q3 := by rw [er]; exact f48
                  have f95 : sR T88 q3 0 = some w3 := by rw [er]; exact f49
                  have f96 : sR T88 i2 1 = some q4 := by rw [er]; exact f50
                  have f97 : sR T88 q4 0 = some w4 := by rw [er]; exact f51
                  have f98 : sR T88 mo 0 = some i1 := by rw [er]; exact f52
                  have f99 : sR T88 mo 1 = some i2 := by rw [er]; exact f53
                  have f100 : sR T88 mo 2 = some mv := by rw [er]; exact f54
                  have f101 : sR T88 mo 3 = some rw_ := by rw [er]; exact f55
                  have f102 : sR T88 mo 4 = some br := by rw [er]; exact f56
                  have f103 : sR T88 mo 5 = some lf := by rw [er]; exact f57
                  refine lv_iload hx hb dX8_close_88 (lv_at hl 5 rfl) ?_
                  refine lv_iload_n hx hb dX8_close_90 rfl (lv_at hl 3 rfl) ?_
                  refine lv_icmp_ge (tgt := 120) hx hb dX8_close_91 (by decide) (fun c104 => ?_) (fun c104 => ?_)
                  · have c104i : Int32.toInt y ≤ Int32.toInt u := (i3_le _ _).mp c104
                    refine lv_aload_n hx hb dX8_close_120 rfl (lv_at hl 0 rfl) ?_
                    refine pg_gr (b := mo) (ci := 8) (C := RX8) (T := TX8) (N := 18) hx hb hts wi8 hown hK hW f63 (by decide) rfl 7 (by decide) (hts (.fieldLink RX8 57 "IceHall" "mover" "LIceHall$Mover;") (by decide +kernel)) (fun _ h9 => h9) rfl f89 dX8_close_121 ?_
                    refine lv_aload_n hx hb dX8_close_124 rfl (lv_at hl 0 rfl) ?_
                    refine pg_gi (ci := 8) (C := RX8) (T := TX8) (N := 18) hx hb hts wi8 hown hK hW f63 (by decide) rfl 10 (by decide) (hts (.fieldLink RX8 96 "IceHall" "now" "I") (by decide +kernel)) (fun _ h9 => h9) rfl dX8_close_125 ?_
                    refine lv_aload_n hx hb dX8_close_128 rfl (lv_at hl 0 rfl) ?_
                    refine pg_gi (ci := 8) (C := RX8) (T := TX8) (N := 18) hx hb hts wi8 hown hK hW f63 (by decide) rfl 14 (by decide) (hts (.fieldLink RX8 78 "IceHall" "restMost" "I") (by decide +kernel)) (fun _ h9 => h9) rfl dX8_close_129 ?_
                    refine pc_Vv (As := [.int (sI T88 h 10), .int (sI T88 h 14)]) (rest := []) F (c_X2_search l D cy A T88 mo mv rw_ br lf (sI T88 h 10) (sI T88 h 14) f74 f100 f75 f83 f101 f76 f84 f102 f77 f85 f103 f78 f86 him) (cwV 2 hts gX8_close_X2_search rfl rfl rfl (by decide +kernel) ⟨Nat.le_of_ble_eq_true rfl, Nat.le_of_ble_eq_true rfl⟩) hK hZ hA hW hS f74 (by decide) rfl rfl hl.1 rfl (Nat.le_of_ble_eq_true rfl) dX8_close_132 ⟨Nat.le_of_ble_eq_true rfl, Nat.le_of_ble_eq_true rfl⟩ (fun T106 H locs p107 hW hS => ?_)
                    obtain ⟨⟨ekT106, erT106, elT106⟩, p107⟩ := p107
                    have f108 : sK T106 h = 8 := by rw [ekT106]; exact f63
                    have f109 : sK T106 i1 = 1 := by rw [ekT106]; exact f64
                    have f110 : sK T106 q1 = 0 := by rw [ekT106]; exact f65
                    have f111 : sK T106 w1 = 12 := by rw [ekT106]; exact f66
                    have f112 : sK T106 q2 = 0 := by rw [ekT106]; exact f67
                    have f113 : sK T106 w2 = 12 := by rw [ekT106]; exact f68
                    have f114 : sK T106 i2 = 1 := by rw [ekT106]; exact f69
                    have f115 : sK T106 q3 = 0 := by rw [ekT106]; exact f70
                    have f116 : sK T106 w3 = 12 := by rw [ekT106]; exact f71
                    have f117 : sK T106 q4 = 0 := by rw [ekT106]; exact f72
                    have f118 : sK T106 w4 = 12 := by rw [ekT106]; exact f73
                    have f119 : sK T106 mo = 2 := by rw [ekT106]; exact f74
                    have f120 : sK T106 mv = 15 := by rw [ekT106]; exact f75
                    have f121 : sK T106 rw_ = 11 := by rw [ekT106]; exact f76
                    have f122 : sK T106 br = 11 := by rw [ekT106]; exact f77
                    have f123 : sK T106 lf = 11 := by rw [ekT106]; exact f78
                    have f124 : sL T106 w1 = 32 := by rw [elT106]; exact f79
                    have f125 : sL T106 w2 = 32 := by rw [elT106]; exact f80
                    have f126 : sL T106 w3 = 32 := by rw [elT106]; exact f81
                    have f127 : sL T106 w4 = 32 := by rw [elT106]; exact f82
                    have f128 : sL T106 mv = 5 := by rw [elT106]; exact f83
                    have f129 : sL T106 rw_ = 5 := by rw [elT106]; exact f84
                    have f130 : sL T106 br = 5 := by rw [elT106]; exact f85
                    have f131 : sL T106 lf = 6 := by rw [elT106]; exact f86
                    have f132 : sR T106 h 0 = some i1 := by rw [erT106]; exact f87
                    have f133 : sR T106 h 1 = some i2 := by rw [erT106]; exact f88
                    have f134 : sR T106 h 7 = some mo := by rw [erT106]; exact f89
                    have f135 : sR T106 i1 0 = some q1 := by rw [erT106]; exact f90
                    have f136 : sR T106 q1 0 = some w1 := by rw [erT106]; exact f91
                    have f137 : sR T106 i1 1 = some q2 := by rw [erT106]; exact f92
                    have f138 : sR T106 q2 0 = some w2 := by rw [erT106]; exact f93
                    have f139 : sR T106 i2 0 = some q3 := by rw [erT106]; exact f94
                    have f140 : sR T106 q3 0 = some w3 := by rw [erT106]; exact f95
                    have f141 : sR T106 i2 1 = some q4 := by rw [erT106]; exact f96
                    have f142 : sR T106 q4 0 = some w4 := by rw [erT106]; exact f97
                    have f143 : sR T106 mo 0 = some i1 := by rw [erT106]; exact f98
                    have f144 : sR T106 mo 1 = some i2 := by rw [erT106]; exact f99
                    have f145 : sR T106 mo 2 = some mv := by rw [erT106]; exact f100
                    have f146 : sR T106 mo 3 = some rw_ := by rw [erT106]; exact f101
                    have f147 : sR T106 mo 4 = some br := by rw [erT106]; exact f102
                    have f148 : sR T106 mo 5 = some lf := by rw [erT106]; exact f103
                    obtain ⟨y149, p107⟩ := p107
                    refine lv_aload_n hx hb dX8_close_135 rfl (lv_at hl 0 rfl) ?_
                    refine pg_gr (b := mo) (ci := 8) (C := RX8) (T := TX8) (N := 18) hx hb hts wi8 hown hK hW f108 (by decide) rfl 7 (by decide) (hts (.fieldLink RX8 57 "IceHall" "mover" "LIceHall$Mover;") (by decide +kernel)) (fun _ h9 => h9) rfl f134 dX8_close_136 ?_
                    refine pc_Vi (As := []) (rest := []) F (c_X2_carryOut l D cy A T106 mo f119 y149) (cwV 0 hts gX8_close_X2_carryOut rfl rfl rfl (by decide +kernel) ⟨Nat.le_of_ble_eq_true rfl, Nat.le_of_ble_eq_true rfl⟩) hK hZ hA hW hS f119 (by decide) rfl rfl hl.1 rfl (Nat.le_of_ble_eq_true rfl) dX8_close_139 ⟨Nat.le_of_ble_eq_true rfl, Nat.le_of_ble_eq_true rfl⟩ (fun v150 T151 H locs p152 hW hS => ?_)
                    obtain ⟨eT151, p152⟩ := p152
                    rw [eT151] at hW
                    rw [show v150 = 0 from p152]
                    exact pc_iret (v := 0) (S := T106) hx hb hr hlk hK hZ hA hW hS (Or.inl ⟨rfl, by omega⟩) dX8_close_142
                  · have c104i : ¬ (Int32.toInt y ≤ Int32.toInt u) := fun h9 => c104 ((i3_le _ _).mpr h9)
                    refine lv_aload hx hb dX8_close_94 (lv_at hl 4 rfl) ?_
                    refine pg_gr (b := q1) (ci := 1) (C := RX1) (T := TX1) (N := 10) hx hb hts wi1 hown hK hW f64 (by decide) rfl 0 (by decide) (hts (.fieldLink RX8 119 "IceHall$Ice" "taken" "LIceHall$HourSet;") (by decide +kernel)) (fun _ h9 => h9) rfl f90 dX8_close_96 ?_
                    refine lv_iload hx hb dX8_close_99 (lv_at hl 5 rfl) ?_
                    refine pc_Vv (As := [.int u]) (rest := []) F (c_X0_drop l D cy A T88 q1 w1 u f65 f91 f66 f79) (cwV 1 hts gX8_close_X0_drop rfl rfl rfl (by decide +kernel) ⟨Nat.le_of_ble_eq_true rfl, Nat.le_of_ble_eq_true rfl⟩) hK hZ hA hW hS f65 (by decide) rfl rfl hl.1 rfl (Nat.le_of_ble_eq_true rfl) dX8_close_101 ⟨Nat.le_of_ble_eq_true rfl, Nat.le_of_ble_eq_true rfl⟩ (fun T154 H locs p155 hW hS => ?_)
                    obtain ⟨ekT154, erT154, elT154, eiT154⟩ := p155
                    have f156 : sK T154 h = 8 := by rw [ekT154]; exact f63
                    have f157 : sK T154 i1 = 1 := by rw [ekT154]; exact f64
                    have f158 : sK T154 q1 = 0 := by rw [ekT154]; exact f65
                    have f159 : sK T154 w1 = 12 := by rw [ekT154]; exact f66
                    have f160 : sK T154 q2 = 0 := by rw [ekT154]; exact f67
                    have f161 : sK T154 w2 = 12 := by rw [ekT154]; exact f68
                    have f162 : sK T154 i2 = 1 := by rw [ekT154]; exact f69
                    have f163 : sK T154 q3 = 0 := by rw [ekT154]; exact f70
                    have f164 : sK T154 w3 = 12 := by rw [ekT154]; exact f71
                    have f165 : sK T154 q4 = 0 := by rw [ekT154]; exact f72
                    have f166 : sK T154 w4 = 12 := by rw [ekT154]; exact f73
                    have f167 : sK T154 mo = 2 := by rw [ekT154]; exact f74
                    have f168 : sK T154 mv = 15 := by rw [ekT154]; exact f75
                    have f169 : sK T154 rw_ = 11 := by rw [ekT154]; exact f76
                    have f170 : sK T154 br = 11 := by rw [ekT154]; exact f77
                    have f171 : sK T154 lf = 11 := by rw [ekT154]; exact f78
                    have f172 : sL T154 w1 = 32 := by rw [elT154]; exact f79
                    have f173 : sL T154 w2 = 32 := by rw [elT154]; exact f80
                    have f174 : sL T154 w3 = 32 := by rw [elT154]; exact f81
                    have f175 : sL T154 w4 = 32 := by rw [elT154]; exact f82
                    have f176 : sL T154 mv = 5 := by rw [elT154]; exact f83
                    have f177 : sL T154 rw_ = 5 := by rw [elT154]; exact f84
                    have f178 : sL T154 br = 5 := by rw [elT154]; exact f85
                    have f179 : sL T154 lf = 6 := by rw [elT154]; exact f86
                    have f180 : sR T154 h 0 = some i1 := by rw [erT154]; exact f87
                    have f181 : sR T154 h 1 = some i2 := by rw [erT154]; exact f88
                    have f182 : sR T154 h 7 = some mo := by rw [erT154]; exact f89
                    have f183 : sR T154 i1 0 = some q1 := by rw [erT154]; exact f90
                    have f184 : sR T154 q1 0 = some w1 := by rw [erT154]; exact f91
                    have f185 : sR T154 i1 1 = some q2 := by rw [erT154]; exact f92
                    have f186 : sR T154 q2 0 = some w2 := by rw [erT154]; exact f93
                    have f187 : sR T154 i2 0 = some q3 := by rw [erT154]; exact f94
                    have f188 : sR T154 q3 0 = some w3 := by rw [erT154]; exact f95
                    have f189 : sR T154 i2 1 = some q4 := by rw [erT154]; exact f96
                    have f190 : sR T154 q4 0 = some w4 := by rw [erT154]; exact f97
                    have f191 : sR T154 mo 0 = some i1 := by rw [erT154]; exact f98
                    have f192 : sR T154 mo 1 = some i2 := by rw [erT154]; exact f99
                    have f193 : sR T154 mo 2 = some mv := by rw [erT154]; exact f100
                    have f194 : sR T154 mo 3 = some rw_ := by rw [erT154]; exact f101
                    have f195 : sR T154 mo 4 = some br := by rw [erT154]; exact f102
                    have f196 : sR T154 mo 5 = some lf := by rw [erT154]; exact f103
                    have f197 : sI T154 mo 6 = 0 := by rw [eiT154]; exact him
                    clear f63 f64 f65 f66 f67 f68 f69 f70 f71 f72 f73 f74 f75 f76 f77 f78 f87 f88 f89 f90 f91 f92 f93 f94 f95 f96 f97 f98 f99 f100 f101 f102 f103 f79 f80 f81 f82 f83 f84 f85 f86
                    refine lv_aload hx hb dX8_close_104 (lv_at hl 4 rfl) ?_
                    refine pg_gr (b := q2) (ci := 1) (C := RX1) (T := TX1) (N := 10) hx hb hts wi1 hown hK hW f157 (by decide) rfl 1 (by decide) (hts (.fieldLink RX8 171 "IceHall$Ice" "closed" "LIceHall$HourSet;") (by decide +kernel)) (fun _ h9 => h9) rfl f185 dX8_close_106 ?_
                    refine lv_iload hx hb dX8_close_109 (lv_at hl 5 rfl) ?_
                    refine pc_Vv (As := [.int u]) (rest := []) F (c_X0_put l D cy A T154 q2 w2 u f160 f186 f161 f173) (cwV 1 hts gX8_close_X0_put rfl rfl rfl (by decide +kernel) ⟨Nat.le_of_ble_eq_true rfl, Nat.le_of_ble_eq_true rfl⟩) hK hZ hA hW hS f160 (by decide) rfl rfl hl.1 rfl (Nat.le_of_ble_eq_true rfl) dX8_close_111 ⟨Nat.le_of_ble_eq_true rfl, Nat.le_of_ble_eq_true rfl⟩ (fun T199 H locs p200 hW hS => ?_)
                    obtain ⟨ekT199, erT199, elT199, eiT199⟩ := p200
                    have f201 : sK T199 h = 8 := by rw [ekT199]; exact f156
                    have f202 : sK T199 i1 = 1 := by rw [ekT199]; exact f157
                    have f203 : sK T199 q1 = 0 := by rw [ekT199]; exact f158
                    have f204 : sK T199 w1 = 12 := by rw [ekT199]; exact f159
                    have f205 : sK T199 q2 = 0 := by rw [ekT199]; exact f160
                    have f206 : sK T199 w2 = 12 := by rw [ekT199]; exact f161
                    have f207 : sK T199 i2 = 1 := by rw [ekT199]; exact f162
                    have f208 : sK T199 q3 = 0 := by rw [ekT199]; exact f163
                    have f209 : sK T199 w3 = 12 := by rw [ekT199]; exact f164
                    have f210 : sK T199 q4 = 0 := by rw [ekT199]; exact f165
                    have f211 : sK T199 w4 = 12 := by rw [ekT199]; exact f166
                    have f212 : sK T199 mo = 2 := by rw [ekT199]; exact f167
                    have f213 : sK T199 mv = 15 := by rw [ekT199]; exact f168
                    have f214 : sK T199 rw_ = 11 := by rw [ekT199]; exact f169
                    have f215 : sK T199 br = 11 := by rw [ekT199]; exact f170
                    have f216 : sK T199 lf = 11 := by rw [ekT199]; exact f171
                    have f217 : sL T199 w1 = 32 := by rw [elT199]; exact f172
                    have f218 : sL T199 w2 = 32 := by rw [elT199]; exact f173
                    have f219 : sL T199 w3 = 32 := by rw [elT199]; exact f174
                    have f220 : sL T199 w4 = 32 := by rw [elT199]; exact f175
                    have f221 : sL T199 mv = 5 := by rw [elT199]; exact f176
                    have f222 : sL T199 rw_ = 5 := by rw [elT199]; exact f177
                    have f223 : sL T199 br = 5 := by rw [elT199]; exact f178
                    have f224 : sL T199 lf = 6 := by rw [elT199]; exact f179
                    have f225 : sR T199 h 0 = some i1 := by rw [erT199]; exact f180
                    have f226 : sR T199 h 1 = some i2 := by rw [erT199]; exact f181
                    have f227 : sR T199 h 7 = some mo := by rw [erT199]; exact f182
                    have f228 : sR T199 i1 0 = some q1 := by rw [erT199]; exact f183
                    have f229 : sR T199 q1 0 = some w1 := by rw [erT199]; exact f184
                    have f230 : sR T199 i1 1 = some q2 := by rw [erT199]; exact f185
                    have f231 : sR T199 q2 0 = some w2 := by rw [erT199]; exact f186
                    have f232 : sR T199 i2 0 = some q3 := by rw [erT199]; exact f187
                    have f233 : sR T199 q3 0 = some w3 := by rw [erT199]; exact f188
                    have f234 : sR T199 i2 1 = some q4 := by rw [erT199]; exact f189
                    have f235 : sR T199 q4 0 = some w4 := by rw [erT199]; exact f190
                    have f236 : sR T199 mo 0 = some i1 := by rw [erT199]; exact f191
                    have f237 : sR T199 mo 1 = some i2 := by rw [erT199]; exact f192
                    have f238 : sR T199 mo 2 = some mv := by rw [erT199]; exact f193
                    have f239 : sR T199 mo 3 = some rw_ := by rw [erT199]; exact f194
                    have f240 : sR T199 mo 4 = some br := by rw [erT199]; exact f195
                    have f241 : sR T199 mo 5 = some lf := by rw [erT199]; exact f196
                    have f242 : sI T199 mo 6 = 0 := by rw [eiT199]; exact f197
                    clear f156 f157 f158 f159 f160 f161 f162 f163 f164 f165 f166 f167 f168 f169 f170 f171 f180 f181 f182 f183 f184 f185 f186 f187 f188 f189 f190 f191 f192 f193 f194 f195 f196 f172 f173 f174 f175 f176 f177 f178 f179 f197
                    refine lv_iinc (v := u + 1) (lv' := [(5, .int (u + 1)), (0, .ref h), (1, .int t), (2, .int x), (3, .int y), (4, .ref i1)]) hx hb dX8_close_114 hl (k := 5) rfl rfl (by decide) rfl (fun ls hl => ?_)
                    refine lv_goto (tgt := 88) hx hb dX8_close_117 (by decide) ?_
                    exact ih (u + 1) T199 H locs ls (ekT199.trans (ekT154.trans (ek))) (erT199.trans (erT154.trans (er))) (elT199.trans (elT154.trans (el))) (f242) (by have h8 : (u + 1).toInt = u.toInt + 1 := i3_add rfl rfl (by have := (i3_bd u); omega) (by have := i3_bd y; omega); omega) hW hS (lv_cast (lv_sub hl [1, 2, 3, 4, 5, 0] rfl) (rfl))
              exact loop62 _ x (stI T15 i1 2 ((sI T15 i1 2) + 1)) H locs ls (rfl) (rfl) (rfl) (w60) (Nat.lt_succ_self _) hW hS (lv_cast (lv_sub hl [2, 3, 4, 5, 1, 0] rfl) (rfl))
          · rw [show v8 = some i2 from by rw [p10, if_neg c11]]
            refine lv_astore (lv' := [(4, .ref i2), (0, .ref h), (1, .int t), (2, .int x), (3, .int y)]) hx hb dX8_close_40 hl (by decide) rfl (fun ls hl => ?_)
            refine lv_iload_n hx hb dX8_close_42 rfl (lv_at hl 4 rfl) ?_
            refine lv_iload_n hx hb dX8_close_43 rfl (lv_at hl 3 rfl) ?_
            refine lv_isub hx hb dX8_close_44 ?_
            have hsub : (y - x).toInt = y.toInt - x.toInt := i3_sub rfl rfl (by omega) (by omega)
            refine lv_bipush (v := 100) hx hb dX8_close_45 (by decide) ?_
            refine lv_icmp_gt (tgt := 60) hx hb dX8_close_47 (by decide) (fun c243 => ?_) (fun c243 => ?_)
            · have c243i : (100 : Int) < Int32.toInt (y - x) := (i3_lt _ _).mp c243
              refine lv_iconst (v := (-1)) hx hb dX8_close_60 (by decide) ?_
              exact pc_iret (v := (-1)) (S := S) hx hb hr hlk hK hZ hA hW hS (Or.inr ⟨rfl, by omega⟩) dX8_close_61
            · have c243i : ¬ ((100 : Int) < Int32.toInt (y - x)) := fun h9 => c243 ((i3_lt _ _).mpr h9)
              refine lv_aload hx hb dX8_close_50 (lv_at hl 0 rfl) ?_
              refine pg_gi (ci := 1) (C := RX1) (T := TX1) (N := 10) hx hb hts wi1 hown hK hW a_31 (by decide) rfl 2 (by decide) (hts (.fieldLink RX8 164 "IceHall$Ice" "closings" "I") (by decide +kernel)) (fun _ h9 => h9) rfl dX8_close_52 ?_
              rw [show sI S i2 2 = 0 from a_44]
              refine lv_bipush (v := 10) hx hb dX8_close_55 (by decide) ?_
              refine lv_icmp_lt (tgt := 62) hx hb dX8_close_57 (by decide) (fun c244 => ?_) (fun c244 => absurd (by decide) c244)
              refine lv_aload_n hx hb dX8_close_62 rfl (lv_at hl 1 rfl) ?_
              refine lv_iload_n hx hb dX8_close_63 rfl (lv_at hl 2 rfl) ?_
              refine lv_iload_n hx hb dX8_close_64 rfl (lv_at hl 3 rfl) ?_
              refine lv_iload_n hx hb dX8_close_65 rfl (lv_at hl 4 rfl) ?_
              refine pc_Vi (As := [.int t, .int x, .int y]) (rest := []) F (c_X8_gatherSessions l D cy A S h mo t x y a_0 a_8 a_67 a_82 a_83 a_84 a_85 a_113 a_114 a_115 a_116 a_117 a_118 a_119 a_120 a_121) (cwV 3 hts gX8_close_X8_gatherSessions rfl rfl rfl (by decide +kernel) ⟨Nat.le_of_ble_eq_true rfl, Nat.le_of_ble_eq_true rfl⟩) hK hZ hA hW hS a_0 (by decide) rfl rfl hl.1 rfl (Nat.le_of_ble_eq_true rfl) dX8_close_66 ⟨Nat.le_of_ble_eq_true rfl, Nat.le_of_ble_eq_true rfl⟩ (fun v245 T246 H locs p247 hW hS => ?_)
              obtain ⟨⟨ekT246, erT246, elT246⟩, p247⟩ := p247
              have f248 : sK T246 h = 8 := by rw [ekT246]; exact a_0
              have f249 : sK T246 i1 = 1 := by rw [ekT246]; exact a_10
              have f250 : sK T246 q1 = 0 := by rw [ekT246]; exact a_12
              have f251 : sK T246 w1 = 12 := by rw [ekT246]; exact a_14
              have f252 : sK T246 q2 = 0 := by rw [ekT246]; exact a_18
              have f253 : sK T246 w2 = 12 := by rw [ekT246]; exact a_20
              have f254 : sK T246 i2 = 1 := by rw [ekT246]; exact a_31
              have f255 : sK T246 q3 = 0 := by rw [ekT246]; exact a_33
              have f256 : sK T246 w3 = 12 := by rw [ekT246]; exact a_35
              have f257 : sK T246 q4 = 0 := by rw [ekT246]; exact a_39
              have f258 : sK T246 w4 = 12 := by rw [ekT246]; exact a_41
              have f259 : sK T246 mo = 2 := by rw [ekT246]; exact a_67
              have f260 : sK T246 mv = 15 := by rw [ekT246]; exact a_71
              have f261 : sK T246 rw_ = 11 := by rw [ekT246]; exact a_74
              have f262 : sK T246 br = 11 := by rw [ekT246]; exact a_77
              have f263 : sK T246 lf = 11 := by rw [ekT246]; exact a_80
              have f264 : sL T246 w1 = 32 := by rw [elT246]; exact a_15
              have f265 : sL T246 w2 = 32 := by rw [elT246]; exact a_21
              have f266 : sL T246 w3 = 32 := by rw [elT246]; exact a_36
              have f267 : sL T246 w4 = 32 := by rw [elT246]; exact a_42
              have f268 : sL T246 mv = 5 := by rw [elT246]; exact a_72
              have f269 : sL T246 rw_ = 5 := by rw [elT246]; exact a_75
              have f270 : sL T246 br = 5 := by rw [elT246]; exact a_78
              have f271 : sL T246 lf = 6 := by rw [elT246]; exact a_81
              have f272 : sR T246 h 0 = some i1 := by rw [erT246]; exact a_1
              have f273 : sR T246 h 1 = some i2 := by rw [erT246]; exact a_2
              have f274 : sR T246 h 7 = some mo := by rw [erT246]; exact a_8
              have f275 : sR T246 i1 0 = some q1 := by rw [erT246]; exact a_11
              have f276 : sR T246 q1 0 = some w1 := by rw [erT246]; exact a_13
              have f277 : sR T246 i1 1 = some q2 := by rw [erT246]; exact a_17
              have f278 : sR T246 q2 0 = some w2 := by rw [erT246]; exact a_19
              have f279 : sR T246 i2 0 = some q3 := by rw [erT246]; exact a_32
              have f280 : sR T246 q3 0 = some w3 := by rw [erT246]; exact a_34
              have f281 : sR T246 i2 1 = some q4 := by rw [erT246]; exact a_38
              have f282 : sR T246 q4 0 = some w4 := by rw [erT246]; exact a_40
              have f283 : sR T246 mo 0 = some i1 := by rw [erT246]; exact a_68
              have f284 : sR T246 mo 1 = some i2 := by rw [erT246]; exact a_69
              have f285 : sR T246 mo 2 = some mv := by rw [erT246]; exact a_70
              have f286 : sR T246 mo 3 = some rw_ := by rw [erT246]; exact a_73
              have f287 : sR T246 mo 4 = some br := by rw [erT246]; exact a_76
              have f288 : sR T246 mo 5 = some lf := by rw [erT246]; exact a_79
              obtain ⟨y289, p247⟩ := p247
              rw [show v245 = 1 from p247]
              refine lv_if_ne (tgt := 74) hx hb dX8_close_69 (by decide) (fun c290 => ?_) (fun c290 => absurd c290 (by decide))
              refine lv_aload hx hb dX8_close_74 (lv_at hl 0 rfl) ?_
              refine lv_dup hx hb dX8_close_76 rfl ?_
              refine pg_gi (ci := 1) (C := RX1) (T := TX1) (N := 10) hx hb hts wi1 hown hK hW f254 (by decide) rfl 2 (by decide) (hts (.fieldLink RX8 164 "IceHall$Ice" "closings" "I") (by decide +kernel)) (fun _ h9 => h9) rfl dX8_close_77 ?_
              refine lv_iconst (v := 1) hx hb dX8_close_80 (by decide) ?_
              refine lv_iadd hx hb dX8_close_81 ?_
              refine pg_pi (ci := 1) (C := RX1) (T := TX1) (N := 10) hx hb hts wi1 tyX1 tyX1_ok nmX1 hown hK hW hS f254 (by decide) rfl 2 (by decide) (hts (.fieldLink RX8 164 "IceHall$Ice" "closings" "I") (by decide +kernel)) (fun _ h9 => h9) rfl rfl rfl dX8_close_82 (fun H locs hW hS => ?_)
              have w291 : sI (stI T246 i2 2 ((sI T246 i2 2) + 1)) mo 6 = 0 := (iI_k (by decide)).trans y289
              have w292 : sI (stI T246 i2 2 ((sI T246 i2 2) + 1)) i2 2 = (sI T246 i2 2) + 1 := iI_s
              clear y289
              refine lv_iload_n hx hb dX8_close_85 rfl (lv_at hl 3 rfl) ?_
              refine lv_istore (lv' := [(5, .int x), (4, .ref i2), (0, .ref h), (1, .int t), (2, .int x), (3, .int y)]) hx hb dX8_close_86 hl (by decide) rfl (fun ls hl => ?_)
              have loop293 : ∀ (n : Nat) (u : Int32) (T88 : St) (H : Heap) (locs : List Loc) (ls : Array Slot), (sK T88 = sK (stI T246 i2 2 ((sI T246 i2 2) + 1))) → (sR T88 = sR (stI T246 i2 2 ((sI T246 i2 2) + 1))) → (sL T88 = sL (stI T246 i2 2 ((sI T246 i2 2) + 1))) → (sI T88 mo 6 = 0) → (y.toInt - u.toInt).toNat < n → PW D cy A T88 H → va_S A s.heap H locs → lv_has ls 6 [(0, .ref h), (1, .int t), (2, .int x), (3, .int y), (4, .ref i2), (5, .int u)] → W p l e ({ frames := 4, cells := 0, slots := 0, locals := 131 } : Room) s m args below meth c H locs 0 0 (MQ below (va_Qi (fun r S1 => (r = 0 ∧ 0 ≤ t.toInt ∧ t.toInt < 2 ∧ 0 ≤ x.toInt ∧ x.toInt < y.toInt ∧ y.toInt ≤ 1000 ∧ y.toInt - x.toInt ≤ 100) ∨ (r = (-1) ∧ ¬ (0 ≤ t.toInt ∧ t.toInt < 2 ∧ 0 ≤ x.toInt ∧ x.toInt < y.toInt ∧ y.toInt ≤ 1000 ∧ y.toInt - x.toInt ≤ 100))) (PU D cy A) A) args s 0 0 A) (F0 m 88 ls []) := by
                intro n
                induction n with
                | zero => intros; exact absurd (by assumption) (Nat.not_lt_zero _)
                | succ n ih =>
                  intro u T88 H locs ls ek er el him hme hW hS hl
                  have f294 : sK T88 h = 8 := by rw [ek]; exact f248
                  have f295 : sK T88 i1 = 1 := by rw [ek]; exact f249
                  have f296 : sK T88 q1 = 0 := by rw [ek]; exact f250
                  have f297 : sK T88 w1 = 12 := by rw [ek]; exact f251
                  have f298 : sK T88 q2 = 0 := by rw [ek]; exact f252
                  have f299 : sK T88 w2 = 12 := by rw [ek]; exact f253
                  have f300 : sK T88 i2 = 1 := by rw [ek]; exact f254
                  have f301 : sK T88 q3 = 0 := by rw [ek]; exact f255
                  have f302 : sK T88 w3 = 12 := by rw [ek]; exact f256
                  have f303 : sK T88 q4 = 0 := by rw [ek]; exact f257
                  have f304 : sK T88 w4 = 12 := by rw [ek]; exact f258
                  have f305 : sK T88 mo = 2 := by rw [ek]; exact f259
                  have f306 : sK T88 mv = 15 := by rw [ek]; exact f260
                  have f307 : sK T88 rw_ = 11 := by rw [ek]; exact f261
                  have f308 : sK T88 br = 11 := by rw [ek]; exact f262
                  have f309 : sK T88 lf = 11 := by rw [ek]; exact f263
                  have f310 : sL T88 w1 = 32 := by rw [el]; exact f264
                  have f311 : sL T88 w2 = 32 := by rw [el]; exact f265
                  have f312 : sL T88 w3 = 32 := by rw [el]; exact f266
                  have f313 : sL T88 w4 = 32 := by rw [el]; exact f267
                  have f314 : sL T88 mv = 5 := by rw [el]; exact f268
                  have f315 : sL T88 rw_ = 5 := by rw [el]; exact f269
                  have f316 : sL T88 br = 5 := by rw [el]; exact f270
                  have f317 : sL T88 lf = 6 := by rw [el]; exact f271
                  have f318 : sR T88 h 0 = some i1 := by rw [er]; exact f272
                  have f319 : sR T88 h 1 = some i2 := by rw [er]; exact f273
                  have f320 : sR T88 h 7 = some mo := by rw [er]; exact f274
                  have f321 : sR T88 i1 0 = some q1 := by rw [er]; exact f275
                  have f322 : sR T88 q1 0 = some w1 := by rw [er]; exact f276
                  have f323 : sR T88 i1 1 = some q2 := by rw [er]; exact f277
                  have f324 : sR T88 q2 0 = some w2 := by rw [er]; exact f278
                  have f325 : sR T88 i2 0 = some q3 := by rw [er]; exact f279
                  have f326 : sR T88 q3 0 = some w3 := by rw [er]; exact f280
                  have f327 : sR T88 i2 1 = some q4 := by rw [er]; exact f281
                  have f328 : sR T88 q4 0 = some w4 := by rw [er]; exact f282
                  have f329 : sR T88 mo 0 = some i1 := by rw [er]; exact f283
                  have f330 : sR T88 mo 1 = some i2 := by rw [er]; exact f284
                  have f331 : sR T88 mo 2 = some mv := by rw [er]; exact f285
                  have f332 : sR T88 mo 3 = some rw_ := by rw [er]; exact f286
                  have f333 : sR T88 mo 4 = some br := by rw [er]; exact f287
                  have f334 : sR T88 mo 5 = some lf := by rw [er]; exact f288
                  refine lv_iload hx hb dX8_close_88 (lv_at hl 5 rfl) ?_
                  refine lv_iload_n hx hb dX8_close_90 rfl (lv_at hl 3 rfl) ?_
                  refine lv_icmp_ge (tgt := 120) hx hb dX8_close_91 (by decide) (fun c335 => ?_) (fun c335 => ?_)
                  · have c335i : Int32.toInt y ≤ Int32.toInt u := (i3_le _ _).mp c335
                    refine lv_aload_n hx hb dX8_close_120 rfl (lv_at hl 0 rfl) ?_
                    refine pg_gr (b := mo) (ci := 8) (C := RX8) (T := TX8) (N := 18) hx hb hts wi8 hown hK hW f294 (by decide) rfl 7 (by decide) (hts (.fieldLink RX8 57 "IceHall" "mover" "LIceHall$Mover;") (by decide +kernel)) (fun _ h9 => h9) rfl f320 dX8_close_121 ?_
                    refine lv_aload_n hx hb dX8_close_124 rfl (lv_at hl 0 rfl) ?_
                    refine pg_gi (ci := 8) (C := RX8) (T := TX8) (N := 18) hx hb hts wi8 hown hK hW f294 (by decide) rfl 10 (by decide) (hts (.fieldLink RX8 96 "IceHall" "now" "I") (by decide +kernel)) (fun _ h9 => h9) rfl dX8_close_125 ?_
                    refine lv_aload_n hx hb dX8_close_128 rfl (lv_at hl 0 rfl) ?_
                    refine pg_gi (ci := 8) (C := RX8) (T := TX8) (N := 18) hx hb hts wi8 hown hK hW f294 (by decide) rfl 14 (by decide) (hts (.fieldLink RX8 78 "IceHall" "restMost" "I") (by decide +kernel)) (fun _ h9 => h9) rfl dX8_close_129 ?_
                    refine pc_Vv (As := [.int (sI T88 h 10), .int (sI T88 h 14)]) (rest := []) F (c_X2_search l D cy A T88 mo mv rw_ br lf (sI T88 h 10) (sI T88 h 14) f305 f331 f306 f314 f332 f307 f315 f333 f308 f316 f334 f309 f317 him) (cwV 2 hts gX8_close_X2_search rfl rfl rfl (by decide +kernel) ⟨Nat.le_of_ble_eq_true rfl, Nat.le_of_ble_eq_true rfl⟩) hK hZ hA hW hS f305 (by decide) rfl rfl hl.1 rfl (Nat.le_of_ble_eq_true rfl) dX8_close_132 ⟨Nat.le_of_ble_eq_true rfl, Nat.le_of_ble_eq_true rfl⟩ (fun T337 H locs p338 hW hS => ?_)
                    obtain ⟨⟨ekT337, erT337, elT337⟩, p338⟩ := p338
                    have f339 : sK T337 h = 8 := by rw [ekT337]; exact f294
                    have f340 : sK T337 i1 = 1 := by rw [ekT337]; exact f295
                    have f341 : sK T337 q1 = 0 := by rw [ekT337]; exact f296
                    have f342 : sK T337 w1 = 12 := by rw [ekT337]; exact f297
                    have f343 : sK T337 q2 = 0 := by rw [ekT337]; exact f298
                    have f344 : sK T337 w2 = 12 := by rw [ekT337]; exact f299
                    have f345 : sK T337 i2 = 1 := by rw [ekT337]; exact f300
                    have f346 : sK T337 q3 = 0 := by rw [ekT337]; exact f301
                    have f347 : sK T337 w3 = 12 := by rw [ekT337]; exact f302
                    have f348 : sK T337 q4 = 0 := by rw [ekT337]; exact f303
                    have f349 : sK T337 w4 = 12 := by rw [ekT337]; exact f304
                    have f350 : sK T337 mo = 2 := by rw [ekT337]; exact f305
                    have f351 : sK T337 mv = 15 := by rw [ekT337]; exact f306
                    have f352 : sK T337 rw_ = 11 := by rw [ekT337]; exact f307
                    have f353 : sK T337 br = 11 := by rw [ekT337]; exact f308
                    have f354 : sK T337 lf = 11 := by rw [ekT337]; exact f309
                    have f355 : sL T337 w1 = 32 := by rw [elT337]; exact f310
                    have f356 : sL T337 w2 = 32 := by rw [elT337]; exact f311
                    have f357 : sL T337 w3 = 32 := by rw [elT337]; exact f312
                    have f358 : sL T337 w4 = 32 := by rw [elT337]; exact f313
                    have f359 : sL T337 mv = 5 := by rw [elT337]; exact f314
                    have f360 : sL T337 rw_ = 5 := by rw [elT337]; exact f315
                    have f361 : sL T337 br = 5 := by rw [elT337]; exact f316
                    have f362 : sL T337 lf = 6 := by rw [elT337]; exact f317
                    have f363 : sR T337 h 0 = some i1 := by rw [erT337]; exact f318
                    have f364 : sR T337 h 1 = some i2 := by rw [erT337]; exact f319
                    have f365 : sR T337 h 7 = some mo := by rw [erT337]; exact f320
                    have f366 : sR T337 i1 0 = some q1 := by rw [erT337]; exact f321
                    have f367 : sR T337 q1 0 = some w1 := by rw [erT337]; exact f322
                    have f368 : sR T337 i1 1 = some q2 := by rw [erT337]; exact f323
                    have f369 : sR T337 q2 0 = some w2 := by rw [erT337]; exact f324
                    have f370 : sR T337 i2 0 = some q3 := by rw [erT337]; exact f325
                    have f371 : sR T337 q3 0 = some w3 := by rw [erT337]; exact f326
                    have f372 : sR T337 i2 1 = some q4 := by rw [erT337]; exact f327
                    have f373 : sR T337 q4 0 = some w4 := by rw [erT337]; exact f328
                    have f374 : sR T337 mo 0 = some i1 := by rw [erT337]; exact f329
                    have f375 : sR T337 mo 1 = some i2 := by rw [erT337]; exact f330
                    have f376 : sR T337 mo 2 = some mv := by rw [erT337]; exact f331
                    have f377 : sR T337 mo 3 = some rw_ := by rw [erT337]; exact f332
                    have f378 : sR T337 mo 4 = some br := by rw [erT337]; exact f333
                    have f379 : sR T337 mo 5 = some lf := by rw [erT337]; exact f334
                    obtain ⟨y380, p338⟩ := p338
                    refine lv_aload_n hx hb dX8_close_135 rfl (lv_at hl 0 rfl) ?_
                    refine pg_gr (b := mo) (ci := 8) (C := RX8) (T := TX8) (N := 18) hx hb hts wi8 hown hK hW f339 (by decide) rfl 7 (by decide) (hts (.fieldLink RX8 57 "IceHall" "mover" "LIceHall$Mover;") (by decide +kernel)) (fun _ h9 => h9) rfl f365 dX8_close_136 ?_
                    refine pc_Vi (As := []) (rest := []) F (c_X2_carryOut l D cy A T337 mo f350 y380) (cwV 0 hts gX8_close_X2_carryOut rfl rfl rfl (by decide +kernel) ⟨Nat.le_of_ble_eq_true rfl, Nat.le_of_ble_eq_true rfl⟩) hK hZ hA hW hS f350 (by decide) rfl rfl hl.1 rfl (Nat.le_of_ble_eq_true rfl) dX8_close_139 ⟨Nat.le_of_ble_eq_true rfl, Nat.le_of_ble_eq_true rfl⟩ (fun v381 T382 H locs p383 hW hS => ?_)
                    obtain ⟨eT382, p383⟩ := p383
                    rw [eT382] at hW
                    rw [show v381 = 0 from p383]
                    exact pc_iret (v := 0) (S := T337) hx hb hr hlk hK hZ hA hW hS (Or.inl ⟨rfl, by omega⟩) dX8_close_142
                  · have c335i : ¬ (Int32.toInt y ≤ Int32.toInt u) := fun h9 => c335 ((i3_le _ _).mpr h9)
                    refine lv_aload hx hb dX8_close_94 (lv_at hl 4 rfl) ?_
                    refine pg_gr (b := q3) (ci := 1) (C := RX1) (T := TX1) (N := 10) hx hb hts wi1 hown hK hW f300 (by decide) rfl 0 (by decide) (hts (.fieldLink RX8 119 "IceHall$Ice" "taken" "LIceHall$HourSet;") (by decide +kernel)) (fun _ h9 => h9) rfl f325 dX8_close_96 ?_
                    refine lv_iload hx hb dX8_close_99 (lv_at hl 5 rfl) ?_
                    refine pc_Vv (As := [.int u]) (rest := []) F (c_X0_drop l D cy A T88 q3 w3 u f301 f326 f302 f312) (cwV 1 hts gX8_close_X0_drop rfl rfl rfl (by decide +kernel) ⟨Nat.le_of_ble_eq_true rfl, Nat.le_of_ble_eq_true rfl⟩) hK hZ hA hW hS f301 (by decide) rfl rfl hl.1 rfl (Nat.le_of_ble_eq_true rfl) dX8_close_101 ⟨Nat.le_of_ble_eq_true rfl, Nat.le_of_ble_eq_true rfl⟩ (fun T385 H locs p386 hW hS => ?_)
                    obtain ⟨ekT385, erT385, elT385, eiT385⟩ := p386
                    have f387 : sK T385 h = 8 := by rw [ekT385]; exact f294
                    have f388 : sK T385 i1 = 1 := by rw [ekT385]; exact f295
                    have f389 : sK T385 q1 = 0 := by rw [ekT385]; exact f296
                    have f390 : sK T385 w1 = 12 := by rw [ekT385]; exact f297
                    have f391 : sK T385 q2 = 0 := by rw [ekT385]; exact f298
                    have f392 : sK T385 w2 = 12 := by rw [ekT385]; exact f299
                    have f393 : sK T385 i2 = 1 := by rw [ekT385]; exact f300
                    have f394 : sK T385 q3 = 0 := by rw [ekT385]; exact f301
                    have f395 : sK T385 w3 = 12 := by rw [ekT385]; exact f302
                    have f396 : sK T385 q4 = 0 := by rw [ekT385]; exact f303
                    have f397 : sK T385 w4 = 12 := by rw [ekT385]; exact f304
                    have f398 : sK T385 mo = 2 := by rw [ekT385]; exact f305
                    have f399 : sK T385 mv = 15 := by rw [ekT385]; exact f306
                    have f400 : sK T385 rw_ = 11 := by rw [ekT385]; exact f307
                    have f401 : sK T385 br = 11 := by rw [ekT385]; exact f308
                    have f402 : sK T385 lf = 11 := by rw [ekT385]; exact f309
                    have f403 : sL T385 w1 = 32 := by rw [elT385]; exact f310
                    have f404 : sL T385 w2 = 32 := by rw [elT385]; exact f311
                    have f405 : sL T385 w3 = 32 := by rw [elT385]; exact f312
                    have f406 : sL T385 w4 = 32 := by rw [elT385]; exact f313
                    have f407 : sL T385 mv = 5 := by rw [elT385]; exact f314
                    have f408 : sL T385 rw_ = 5 := by rw [elT385]; exact f315
                    have f409 : sL T385 br = 5 := by rw [elT385]; exact f316
                    have f410 : sL T385 lf = 6 := by rw [elT385]; exact f317
                    have f411 : sR T385 h 0 = some i1 := by rw [erT385]; exact f318
                    have f412 : sR T385 h 1 = some i2 := by rw [erT385]; exact f319
                    have f413 : sR T385 h 7 = some mo := by rw [erT385]; exact f320
                    have f414 : sR T385 i1 0 = some q1 := by rw [erT385]; exact f321
                    have f415 : sR T385 q1 0 = some w1 := by rw [erT385]; exact f322
                    have f416 : sR T385 i1 1 = some q2 := by rw [erT385]; exact f323
                    have f417 : sR T385 q2 0 = some w2 := by rw [erT385]; exact f324
                    have f418 : sR T385 i2 0 = some q3 := by rw [erT385]; exact f325
                    have f419 : sR T385 q3 0 = some w3 := by rw [erT385]; exact f326
                    have f420 : sR T385 i2 1 = some q4 := by rw [erT385]; exact f327
                    have f421 : sR T385 q4 0 = some w4 := by rw [erT385]; exact f328
                    have f422 : sR T385 mo 0 = some i1 := by rw [erT385]; exact f329
                    have f423 : sR T385 mo 1 = some i2 := by rw [erT385]; exact f330
                    have f424 : sR T385 mo 2 = some mv := by rw [erT385]; exact f331
                    have f425 : sR T385 mo 3 = some rw_ := by rw [erT385]; exact f332
                    have f426 : sR T385 mo 4 = some br := by rw [erT385]; exact f333
                    have f427 : sR T385 mo 5 = some lf := by rw [erT385]; exact f334
                    have f428 : sI T385 mo 6 = 0 := by rw [eiT385]; exact him
                    clear f294 f295 f296 f297 f298 f299 f300 f301 f302 f303 f304 f305 f306 f307 f308 f309 f318 f319 f320 f321 f322 f323 f324 f325 f326 f327 f328 f329 f330 f331 f332 f333 f334 f310 f311 f312 f313 f314 f315 f316 f317
                    refine lv_aload hx hb dX8_close_104 (lv_at hl 4 rfl) ?_
                    refine pg_gr (b := q4) (ci := 1) (C := RX1) (T := TX1) (N := 10) hx hb hts wi1 hown hK hW f393 (by decide) rfl 1 (by decide) (hts (.fieldLink RX8 171 "IceHall$Ice" "closed" "LIceHall$HourSet;") (by decide +kernel)) (fun _ h9 => h9) rfl f420 dX8_close_106 ?_
                    refine lv_iload hx hb dX8_close_109 (lv_at hl 5 rfl) ?_
                    refine pc_Vv (As := [.int u]) (rest := []) F (c_X0_put l D cy A T385 q4 w4 u f396 f421 f397 f406) (cwV 1 hts gX8_close_X0_put rfl rfl rfl (by decide +kernel) ⟨Nat.le_of_ble_eq_true rfl, Nat.le_of_ble_eq_true rfl⟩) hK hZ hA hW hS f396 (by decide) rfl rfl hl.1 rfl (Nat.le_of_ble_eq_true rfl) dX8_close_111 ⟨Nat.le_of_ble_eq_true rfl, Nat.le_of_ble_eq_true rfl⟩ (fun T430 H locs p431 hW hS => ?_)
                    obtain ⟨ekT430, erT430, elT430, eiT430⟩ := p431
                    have f432 : sK T430 h = 8 := by rw [ekT430]; exact f387
                    have f433 : sK T430 i1 = 1 := by rw [ekT430]; exact f388
                    have f434 : sK T430 q1 = 0 := by rw [ekT430]; exact f389
                    have f435 : sK T430 w1 = 12 := by rw [ekT430]; exact f390
                    have f436 : sK T430 q2 = 0 := by rw [ekT430]; exact f391
                    have f437 : sK T430 w2 = 12 := by rw [ekT430]; exact f392
                    have f438 : sK T430 i2 = 1 := by rw [ekT430]; exact f393
                    have f439 : sK T430 q3 = 0 := by rw [ekT430]; exact f394
                    have f440 : sK T430 w3 = 12 := by rw [ekT430]; exact f395
                    have f441 : sK T430 q4 = 0 := by rw [ekT430]; exact f396
                    have f442 : sK T430 w4 = 12 := by rw [ekT430]; exact f397
                    have f443 : sK T430 mo = 2 := by rw [ekT430]; exact f398
                    have f444 : sK T430 mv = 15 := by rw [ekT430]; exact f399
                    have f445 : sK T430 rw_ = 11 := by rw [ekT430]; exact f400
                    have f446 : sK T430 br = 11 := by rw [ekT430]; exact f401
                    have f447 : sK T430 lf = 11 := by rw [ekT430]; exact f402
                    have f448 : sL T430 w1 = 32 := by rw [elT430]; exact f403
                    have f449 : sL T430 w2 = 32 := by rw [elT430]; exact f404
                    have f450 : sL T430 w3 = 32 := by rw [elT430]; exact f405
                    have f451 : sL T430 w4 = 32 := by rw [elT430]; exact f406
                    have f452 : sL T430 mv = 5 := by rw [elT430]; exact f407
                    have f453 : sL T430 rw_ = 5 := by rw [elT430]; exact f408
                    have f454 : sL T430 br = 5 := by rw [elT430]; exact f409
                    have f455 : sL T430 lf = 6 := by rw [elT430]; exact f410
                    have f456 : sR T430 h 0 = some i1 := by rw [erT430]; exact f411
                    have f457 : sR T430 h 1 = some i2 := by rw [erT430]; exact f412
                    have f458 : sR T430 h 7 = some mo := by rw [erT430]; exact f413
                    have f459 : sR T430 i1 0 = some q1 := by rw [erT430]; exact f414
                    have f460 : sR T430 q1 0 = some w1 := by rw [erT430]; exact f415
                    have f461 : sR T430 i1 1 = some q2 := by rw [erT430]; exact f416
                    have f462 : sR T430 q2 0 = some w2 := by rw [erT430]; exact f417
                    have f463 : sR T430 i2 0 = some q3 := by rw [erT430]; exact f418
                    have f464 : sR T430 q3 0 = some w3 := by rw [erT430]; exact f419
                    have f465 : sR T430 i2 1 = some q4 := by rw [erT430]; exact f420
                    have f466 : sR T430 q4 0 = some w4 := by rw [erT430]; exact f421
                    have f467 : sR T430 mo 0 = some i1 := by rw [erT430]; exact f422
                    have f468 : sR T430 mo 1 = some i2 := by rw [erT430]; exact f423
                    have f469 : sR T430 mo 2 = some mv := by rw [erT430]; exact f424
                    have f470 : sR T430 mo 3 = some rw_ := by rw [erT430]; exact f425
                    have f471 : sR T430 mo 4 = some br := by rw [erT430]; exact f426
                    have f472 : sR T430 mo 5 = some lf := by rw [erT430]; exact f427
                    have f473 : sI T430 mo 6 = 0 := by rw [eiT430]; exact f428
                    clear f387 f388 f389 f390 f391 f392 f393 f394 f395 f396 f397 f398 f399 f400 f401 f402 f411 f412 f413 f414 f415 f416 f417 f418 f419 f420 f421 f422 f423 f424 f425 f426 f427 f403 f404 f405 f406 f407 f408 f409 f410 f428
                    refine lv_iinc (v := u + 1) (lv' := [(5, .int (u + 1)), (0, .ref h), (1, .int t), (2, .int x), (3, .int y), (4, .ref i2)]) hx hb dX8_close_114 hl (k := 5) rfl rfl (by decide) rfl (fun ls hl => ?_)
                    refine lv_goto (tgt := 88) hx hb dX8_close_117 (by decide) ?_
                    exact ih (u + 1) T430 H locs ls (ekT430.trans (ekT385.trans (ek))) (erT430.trans (erT385.trans (er))) (elT430.trans (elT385.trans (el))) (f473) (by have h8 : (u + 1).toInt = u.toInt + 1 := i3_add rfl rfl (by have := (i3_bd u); omega) (by have := i3_bd y; omega); omega) hW hS (lv_cast (lv_sub hl [1, 2, 3, 4, 5, 0] rfl) (rfl))
              exact loop293 _ x (stI T246 i2 2 ((sI T246 i2 2) + 1)) H locs ls (rfl) (rfl) (rfl) (w291) (Nat.lt_succ_self _) hW hS (lv_cast (lv_sub hl [2, 3, 4, 5, 1, 0] rfl) (rfl))
        · have c7i : ¬ (Int32.toInt y ≤ (1000 : Int)) := fun h9 => c7 ((i3_le _ _).mpr h9)
          refine lv_iconst (v := (-1)) hx hb dX8_close_33 (by decide) ?_
          exact pc_iret (v := (-1)) (S := S) hx hb hr hlk hK hZ hA hW hS (Or.inr ⟨rfl, by omega⟩) dX8_close_34
