set_option maxHeartbeats 4000000 in
set_option maxRecDepth 100000 in
theorem b_X9_most (l : Launch) (D : va_G) (cy : Nat → ClassId) (A : Nat → Prop) (S : St) (h : Nat) (a : Int32) (hG0 : G S) (hk : sK S h = 9) : MI l yX9_most wsX9_most ({ frames := 0, cells := 0, slots := 0, locals := 0 } : Room) 0 0 D cy A [.ref h, .int a] S (fun r S1 => G S1 ∧ Fr [] [923] S S1 ∧ ((r.toInt = 1 ∧ 1 ≤ a.toInt ∧ a.toInt ≤ 2000) ∨ (r.toInt = 0 ∧ ¬ (1 ≤ a.toInt ∧ a.toInt ≤ 2000)))) := by
  refine mt_start (cc := cX9_most) (maxL := 2) (ret := (some .boolean)) (by decide) rfl (Nat.le_of_ble_eq_true rfl) ?_
  intro p e s m args below meth c hx hb hr hlk hml hown hnm hts hK hZ hA hW hS ls hl
  have hl : lv_has ls 2 [(0, .ref h), (1, .int a)] := hl
  have hown : s.vm.findClass RX9 = some m.cls := hown
  have F : CallFix p m c cX9_most 2 s args wsX9_most RX9 := ⟨hx, hb, hml, hown, hts⟩
  have wi9 : ∀ w ∈ u_ws RX9 TX9 63, w ∈ wsX9_most := by decide +kernel
  have hG := hG0
  have hF : Fr [] [923] S S := Fr.rf _ _ _
  refine lv_iload_n hx hb dX9_most_0 rfl (lv_at hl 1 rfl) ?_
  refine lv_iconst (v := 1) hx hb dX9_most_1 (by decide) ?_
  refine lv_icmp_lt (tgt := 12) hx hb dX9_most_2 (by decide) (fun c1 => ?_) (fun c1 => ?_)
  · have c1i : Int32.toInt a < (1 : Int) := (i3_lt _ _).mp c1
    refine lv_iconst (v := 0) hx hb dX9_most_12 (by decide) ?_
    exact pc_zret (v := 0) (S := S) hx hb hr hlk hK hZ hA hW hS (by decide) (⟨hG, hF, Or.inr ⟨rfl, by omega⟩⟩) dX9_most_13
  · have c1i : ¬ (Int32.toInt a < (1 : Int)) := fun h9 => c1 ((i3_lt _ _).mpr h9)
    refine lv_iload_n hx hb dX9_most_5 rfl (lv_at hl 1 rfl) ?_
    refine lv_sipush (v := 2000) hx hb dX9_most_6 (by decide) ?_
    refine lv_icmp_le (tgt := 14) hx hb dX9_most_9 (by decide) (fun c2 => ?_) (fun c2 => ?_)
    · have c2i : Int32.toInt a ≤ (2000 : Int) := (i3_le _ _).mp c2
      refine lv_aload_n hx hb dX9_most_14 rfl (lv_at hl 0 rfl) ?_
      refine lv_iload_n hx hb dX9_most_15 rfl (lv_at hl 1 rfl) ?_
      refine pg_pi (ci := 9) (C := RX9) (T := TX9) (N := 63) hx hb hts wi9 tyX9 tyX9_ok nmX9 hown hK hW hS hk (by decide) rfl 23 (by decide) (hts (.fieldLink RX9 36 "IceHallModel" "mostOf" "I") (by decide +kernel)) (fun _ h9 => h9) rfl rfl rfl dX9_most_16 (fun H locs hW hS => ?_)
      obtain ⟨S3, eS3⟩ : ∃ T : St, T = stI S h 23 a := ⟨_, rfl⟩
      rw [← eS3] at hW
      have hG : G S3 := by rw [eS3]; exact hG.I hk (ok_fr (by decide))
      have hF : Fr [] [923] S S3 := by rw [eS3]; exact hF.I hk (by decide)
      clear eS3
      refine lv_iconst (v := 1) hx hb dX9_most_19 (by decide) ?_
      exact pc_zret (v := 1) (S := S3) hx hb hr hlk hK hZ hA hW hS (by decide) (⟨hG, hF, Or.inl ⟨rfl, by omega⟩⟩) dX9_most_20
    · have c2i : ¬ (Int32.toInt a ≤ (2000 : Int)) := fun h9 => c2 ((i3_le _ _).mpr h9)
      refine lv_iconst (v := 0) hx hb dX9_most_12 (by decide) ?_
      exact pc_zret (v := 0) (S := S) hx hb hr hlk hK hZ hA hW hS (by decide) (⟨hG, hF, Or.inr ⟨rfl, by omega⟩⟩) dX9_most_13
set_option maxHeartbeats 4000000 in
set_option maxRecDepth 100000 in
theorem b_X9_price (l : Launch) (D : va_G) (cy : Nat → ClassId) (A : Nat → Prop) (S : St) (h : Nat) (a b : Int32) (hG0 : G S) (hk : sK S h = 9) : MI l yX9_price wsX9_price ({ frames := 0, cells := 0, slots := 0, locals := 0 } : Room) 0 0 D cy A [.ref h, .int a, .int b] S (fun r S1 => G S1 ∧ Fr [] [1100] S S1 ∧ ((r.toInt = 1 ∧ 0 ≤ a.toInt ∧ a.toInt < 24 ∧ 0 ≤ b.toInt ∧ b.toInt ≤ 99) ∨ (r.toInt = 0 ∧ ¬ (0 ≤ a.toInt ∧ a.toInt < 24 ∧ 0 ≤ b.toInt ∧ b.toInt ≤ 99)))) := by
  refine mt_start (cc := cX9_price) (maxL := 3) (ret := (some .boolean)) (by decide) rfl (Nat.le_of_ble_eq_true rfl) ?_
  intro p e s m args below meth c hx hb hr hlk hml hown hnm hts hK hZ hA hW hS ls hl
  have hl : lv_has ls 3 [(0, .ref h), (1, .int a), (2, .int b)] := hl
  have hown : s.vm.findClass RX9 = some m.cls := hown
  have F : CallFix p m c cX9_price 3 s args wsX9_price RX9 := ⟨hx, hb, hml, hown, hts⟩
  have wi9 : ∀ w ∈ u_ws RX9 TX9 63, w ∈ wsX9_price := by decide +kernel
  have hG := hG0
  have hF : Fr [] [1100] S S := Fr.rf _ _ _
  refine lv_iload_n hx hb dX9_price_0 rfl (lv_at hl 1 rfl) ?_
  refine lv_if_lt (tgt := 20) hx hb dX9_price_1 (by decide) (fun c1 => ?_) (fun c1 => ?_)
  · have c1i : Int32.toInt a < (0 : Int) := (i3_lt _ _).mp c1
    refine lv_iconst (v := 0) hx hb dX9_price_20 (by decide) ?_
    exact pc_zret (v := 0) (S := S) hx hb hr hlk hK hZ hA hW hS (by decide) (⟨hG, hF, Or.inr ⟨rfl, by omega⟩⟩) dX9_price_21
  · have c1i : ¬ (Int32.toInt a < (0 : Int)) := fun h9 => c1 ((i3_lt _ _).mpr h9)
    refine lv_iload_n hx hb dX9_price_4 rfl (lv_at hl 1 rfl) ?_
    refine lv_bipush (v := 23) hx hb dX9_price_5 (by decide) ?_
    refine lv_icmp_gt (tgt := 20) hx hb dX9_price_7 (by decide) (fun c2 => ?_) (fun c2 => ?_)
    · have c2i : (23 : Int) < Int32.toInt a := (i3_lt _ _).mp c2
      refine lv_iconst (v := 0) hx hb dX9_price_20 (by decide) ?_
      exact pc_zret (v := 0) (S := S) hx hb hr hlk hK hZ hA hW hS (by decide) (⟨hG, hF, Or.inr ⟨rfl, by omega⟩⟩) dX9_price_21
    · have c2i : ¬ ((23 : Int) < Int32.toInt a) := fun h9 => c2 ((i3_lt _ _).mpr h9)
      refine lv_iload_n hx hb dX9_price_10 rfl (lv_at hl 2 rfl) ?_
      refine lv_if_lt (tgt := 20) hx hb dX9_price_11 (by decide) (fun c3 => ?_) (fun c3 => ?_)
      · have c3i : Int32.toInt b < (0 : Int) := (i3_lt _ _).mp c3
        refine lv_iconst (v := 0) hx hb dX9_price_20 (by decide) ?_
        exact pc_zret (v := 0) (S := S) hx hb hr hlk hK hZ hA hW hS (by decide) (⟨hG, hF, Or.inr ⟨rfl, by omega⟩⟩) dX9_price_21
      · have c3i : ¬ (Int32.toInt b < (0 : Int)) := fun h9 => c3 ((i3_lt _ _).mpr h9)
        refine lv_iload_n hx hb dX9_price_14 rfl (lv_at hl 2 rfl) ?_
        refine lv_bipush (v := 99) hx hb dX9_price_15 (by decide) ?_
        refine lv_icmp_le (tgt := 22) hx hb dX9_price_17 (by decide) (fun c4 => ?_) (fun c4 => ?_)
        · have c4i : Int32.toInt b ≤ (99 : Int) := (i3_le _ _).mp c4
          refine lv_aload_n hx hb dX9_price_22 rfl (lv_at hl 0 rfl) ?_
          obtain ⟨b5, rb5, kb5, nb5⟩ := hG0.r hk List.not_mem_nil 26 (show rty 9 26 = some (11, 24) from rfl)
          refine pg_gr (b := b5) (ci := 9) (C := RX9) (T := TX9) (N := 63) hx hb hts wi9 hown hK hW hk (by decide) rfl 26 (by decide) (hts (.fieldLink RX9 45 "IceHallModel" "priceOf" "[I") (by decide +kernel)) (fun _ h9 => h9) rfl rb5 dX9_price_23 ?_
          refine lv_iload_n hx hb dX9_price_26 rfl (lv_at hl 1 rfl) ?_
          refine lv_iload_n hx hb dX9_price_27 rfl (lv_at hl 2 rfl) ?_
          refine pg_iast hx hb hK hW hS kb5 (by decide) (by rw [show sL S b5 = 24 from nb5]; exact r_in (by omega)) dX9_price_28 (fun H locs hW hS => ?_)
          obtain ⟨S6, eS6⟩ : ∃ T : St, T = stI S b5 (Int32.toNatClampNeg a) b := ⟨_, rfl⟩
          rw [← eS6] at hW
          have hG : G S6 := by rw [eS6]; exact hG.I kb5 (ok_frA (by decide) (by decide))
          have hF : Fr [] [1100] S S6 := by rw [eS6]; exact hF.IA kb5 (by decide) (by decide)
          clear eS6
          refine lv_iconst (v := 1) hx hb dX9_price_29 (by decide) ?_
          exact pc_zret (v := 1) (S := S6) hx hb hr hlk hK hZ hA hW hS (by decide) (⟨hG, hF, Or.inl ⟨rfl, by omega⟩⟩) dX9_price_30
        · have c4i : ¬ (Int32.toInt b ≤ (99 : Int)) := fun h9 => c4 ((i3_le _ _).mpr h9)
          refine lv_iconst (v := 0) hx hb dX9_price_20 (by decide) ?_
          exact pc_zret (v := 0) (S := S) hx hb hr hlk hK hZ hA hW hS (by decide) (⟨hG, hF, Or.inr ⟨rfl, by omega⟩⟩) dX9_price_21
set_option maxHeartbeats 4000000 in
set_option maxRecDepth 100000 in
theorem b_X9_rest (l : Launch) (D : va_G) (cy : Nat → ClassId) (A : Nat → Prop) (S : St) (h : Nat) (a : Int32) (hG0 : G S) (hk : sK S h = 9) : MI l yX9_rest wsX9_rest ({ frames := 0, cells := 0, slots := 0, locals := 0 } : Room) 0 0 D cy A [.ref h, .int a] S (fun r S1 => G S1 ∧ Fr [] [925] S S1 ∧ ((r.toInt = 1 ∧ 1 ≤ a.toInt ∧ a.toInt ≤ 12) ∨ (r.toInt = 0 ∧ ¬ (1 ≤ a.toInt ∧ a.toInt ≤ 12)))) := by
  refine mt_start (cc := cX9_rest) (maxL := 2) (ret := (some .boolean)) (by decide) rfl (Nat.le_of_ble_eq_true rfl) ?_
  intro p e s m args below meth c hx hb hr hlk hml hown hnm hts hK hZ hA hW hS ls hl
  have hl : lv_has ls 2 [(0, .ref h), (1, .int a)] := hl
  have hown : s.vm.findClass RX9 = some m.cls := hown
  have F : CallFix p m c cX9_rest 2 s args wsX9_rest RX9 := ⟨hx, hb, hml, hown, hts⟩
  have wi9 : ∀ w ∈ u_ws RX9 TX9 63, w ∈ wsX9_rest := by decide +kernel
  have hG := hG0
  have hF : Fr [] [925] S S := Fr.rf _ _ _
  refine lv_iload_n hx hb dX9_rest_0 rfl (lv_at hl 1 rfl) ?_
  refine lv_iconst (v := 1) hx hb dX9_rest_1 (by decide) ?_
  refine lv_icmp_lt (tgt := 11) hx hb dX9_rest_2 (by decide) (fun c1 => ?_) (fun c1 => ?_)
  · have c1i : Int32.toInt a < (1 : Int) := (i3_lt _ _).mp c1
    refine lv_iconst (v := 0) hx hb dX9_rest_11 (by decide) ?_
    exact pc_zret (v := 0) (S := S) hx hb hr hlk hK hZ hA hW hS (by decide) (⟨hG, hF, Or.inr ⟨rfl, by omega⟩⟩) dX9_rest_12
  · have c1i : ¬ (Int32.toInt a < (1 : Int)) := fun h9 => c1 ((i3_lt _ _).mpr h9)
    refine lv_iload_n hx hb dX9_rest_5 rfl (lv_at hl 1 rfl) ?_
    refine lv_bipush (v := 12) hx hb dX9_rest_6 (by decide) ?_
    refine lv_icmp_le (tgt := 13) hx hb dX9_rest_8 (by decide) (fun c2 => ?_) (fun c2 => ?_)
    · have c2i : Int32.toInt a ≤ (12 : Int) := (i3_le _ _).mp c2
      refine lv_aload_n hx hb dX9_rest_13 rfl (lv_at hl 0 rfl) ?_
      refine lv_iload_n hx hb dX9_rest_14 rfl (lv_at hl 1 rfl) ?_
      refine pg_pi (ci := 9) (C := RX9) (T := TX9) (N := 63) hx hb hts wi9 tyX9 tyX9_ok nmX9 hown hK hW hS hk (by decide) rfl 25 (by decide) (hts (.fieldLink RX9 42 "IceHallModel" "restOf" "I") (by decide +kernel)) (fun _ h9 => h9) rfl rfl rfl dX9_rest_15 (fun H locs hW hS => ?_)
      obtain ⟨S3, eS3⟩ : ∃ T : St, T = stI S h 25 a := ⟨_, rfl⟩
      rw [← eS3] at hW
      have hG : G S3 := by rw [eS3]; exact hG.I hk (ok_fr (by decide))
      have hF : Fr [] [925] S S3 := by rw [eS3]; exact hF.I hk (by decide)
      clear eS3
      refine lv_iconst (v := 1) hx hb dX9_rest_18 (by decide) ?_
      exact pc_zret (v := 1) (S := S3) hx hb hr hlk hK hZ hA hW hS (by decide) (⟨hG, hF, Or.inl ⟨rfl, by omega⟩⟩) dX9_rest_19
    · have c2i : ¬ (Int32.toInt a ≤ (12 : Int)) := fun h9 => c2 ((i3_le _ _).mpr h9)
      refine lv_iconst (v := 0) hx hb dX9_rest_11 (by decide) ?_
      exact pc_zret (v := 0) (S := S) hx hb hr hlk hK hZ hA hW hS (by decide) (⟨hG, hF, Or.inr ⟨rfl, by omega⟩⟩) dX9_rest_12
set_option maxHeartbeats 4000000 in
set_option maxRecDepth 100000 in
theorem b_X9_cut (l : Launch) (D : va_G) (cy : Nat → ClassId) (A : Nat → Prop) (S : St) (h : Nat) (a b d : Int32) (hG0 : G S) (hk : sK S h = 9) : MI l yX9_cut wsX9_cut ({ frames := 1, cells := 0, slots := 0, locals := 20 } : Room) 0 0 D cy A [.ref h, .int a, .int b, .int d] S (fun r S1 => G S1 ∧ Fr [] [1100, 1300] S S1 ∧ ((r.toInt = 1 ∧ 0 ≤ a.toInt ∧ a.toInt < 2 ∧ 0 ≤ b.toInt ∧ b.toInt ≤ 20 ∧ 0 ≤ d.toInt ∧ d.toInt ≤ 20) ∨ (r.toInt = 0 ∧ ¬ (0 ≤ a.toInt ∧ a.toInt < 2 ∧ 0 ≤ b.toInt ∧ b.toInt ≤ 20 ∧ 0 ≤ d.toInt ∧ d.toInt ≤ 20)))) := by
  refine mt_start (cc := cX9_cut) (maxL := 4) (ret := (some .boolean)) (by decide) rfl (Nat.le_of_ble_eq_true rfl) ?_
  intro p e s m args below meth c hx hb hr hlk hml hown hnm hts hK hZ hA hW hS ls hl
  have hl : lv_has ls 4 [(0, .ref h), (1, .int a), (2, .int b), (3, .int d)] := hl
  have hown : s.vm.findClass RX9 = some m.cls := hown
  have F : CallFix p m c cX9_cut 4 s args wsX9_cut RX9 := ⟨hx, hb, hml, hown, hts⟩
  have wi9 : ∀ w ∈ u_ws RX9 TX9 63, w ∈ wsX9_cut := by decide +kernel
  have hG := hG0
  have hF : Fr [] [1100, 1300] S S := Fr.rf _ _ _
  refine lv_iload_n hx hb dX9_cut_0 rfl (lv_at hl 1 rfl) ?_
  refine pc_Si (As := [.int a]) (rest := []) F (b_X9_isSheet l D cy A S a ) (va_cwS 1 hts gX9_cut_X9_isSheet rfl rfl rfl (by decide +kernel) ⟨Nat.le_of_ble_eq_true rfl, Nat.le_of_ble_eq_true rfl⟩) hK hZ hA hW hS rfl hl.1 rfl (Nat.le_of_ble_eq_true rfl) dX9_cut_1 ⟨Nat.le_of_ble_eq_true rfl, Nat.le_of_ble_eq_true rfl⟩ (fun v1 T2 H locs p3 hW hS => ?_)
  obtain ⟨eT2, p3⟩ := p3
  rw [eT2] at hW
  clear eT2
  refine lv_if_eq (tgt := 27) hx hb dX9_cut_4 (by decide) (fun c4 => ?_) (fun c4 => ?_)
  · have c4i : Int32.toInt v1 = (0 : Int) := (i3_eq _ _).mp c4
    refine lv_iconst (v := 0) hx hb dX9_cut_27 (by decide) ?_
    exact pc_zret (v := 0) (S := S) hx hb hr hlk hK hZ hA hW hS (by decide) (⟨hG, hF, Or.inr ⟨rfl, by omega⟩⟩) dX9_cut_28
  · have c4i : ¬ (Int32.toInt v1 = (0 : Int)) := fun h9 => c4 ((i3_eq _ _).mpr h9)
    refine lv_iload_n hx hb dX9_cut_7 rfl (lv_at hl 2 rfl) ?_
    refine lv_if_lt (tgt := 27) hx hb dX9_cut_8 (by decide) (fun c5 => ?_) (fun c5 => ?_)
    · have c5i : Int32.toInt b < (0 : Int) := (i3_lt _ _).mp c5
      refine lv_iconst (v := 0) hx hb dX9_cut_27 (by decide) ?_
      exact pc_zret (v := 0) (S := S) hx hb hr hlk hK hZ hA hW hS (by decide) (⟨hG, hF, Or.inr ⟨rfl, by omega⟩⟩) dX9_cut_28
    · have c5i : ¬ (Int32.toInt b < (0 : Int)) := fun h9 => c5 ((i3_lt _ _).mpr h9)
      refine lv_iload_n hx hb dX9_cut_11 rfl (lv_at hl 2 rfl) ?_
      refine lv_bipush (v := 20) hx hb dX9_cut_12 (by decide) ?_
      refine lv_icmp_gt (tgt := 27) hx hb dX9_cut_14 (by decide) (fun c6 => ?_) (fun c6 => ?_)
      · have c6i : (20 : Int) < Int32.toInt b := (i3_lt _ _).mp c6
        refine lv_iconst (v := 0) hx hb dX9_cut_27 (by decide) ?_
        exact pc_zret (v := 0) (S := S) hx hb hr hlk hK hZ hA hW hS (by decide) (⟨hG, hF, Or.inr ⟨rfl, by omega⟩⟩) dX9_cut_28
      · have c6i : ¬ ((20 : Int) < Int32.toInt b) := fun h9 => c6 ((i3_lt _ _).mpr h9)
        refine lv_iload_n hx hb dX9_cut_17 rfl (lv_at hl 3 rfl) ?_
        refine lv_if_lt (tgt := 27) hx hb dX9_cut_18 (by decide) (fun c7 => ?_) (fun c7 => ?_)
        · have c7i : Int32.toInt d < (0 : Int) := (i3_lt _ _).mp c7
          refine lv_iconst (v := 0) hx hb dX9_cut_27 (by decide) ?_
          exact pc_zret (v := 0) (S := S) hx hb hr hlk hK hZ hA hW hS (by decide) (⟨hG, hF, Or.inr ⟨rfl, by omega⟩⟩) dX9_cut_28
        · have c7i : ¬ (Int32.toInt d < (0 : Int)) := fun h9 => c7 ((i3_lt _ _).mpr h9)
          refine lv_iload_n hx hb dX9_cut_21 rfl (lv_at hl 3 rfl) ?_
          refine lv_bipush (v := 20) hx hb dX9_cut_22 (by decide) ?_
          refine lv_icmp_le (tgt := 29) hx hb dX9_cut_24 (by decide) (fun c8 => ?_) (fun c8 => ?_)
          · have c8i : Int32.toInt d ≤ (20 : Int) := (i3_le _ _).mp c8
            refine lv_aload_n hx hb dX9_cut_29 rfl (lv_at hl 0 rfl) ?_
            obtain ⟨b9, rb9, kb9, nb9⟩ := hG0.r hk List.not_mem_nil 34 (show rty 9 34 = some (13, 2) from rfl)
            refine pg_gr (b := b9) (ci := 9) (C := RX9) (T := TX9) (N := 63) hx hb hts wi9 hown hK hW hk (by decide) rfl 34 (by decide) (hts (.fieldLink RX9 69 "IceHallModel" "hasCut" "[Z") (by decide +kernel)) (fun _ h9 => h9) rfl rb9 dX9_cut_30 ?_
            refine lv_iload_n hx hb dX9_cut_33 rfl (lv_at hl 1 rfl) ?_
            refine lv_iconst (v := 1) hx hb dX9_cut_34 (by decide) ?_
            refine pg_zast hx hb hK hW hS kb9 (by rw [show sL S b9 = 2 from nb9]; exact r_in (by omega)) dX9_cut_35 (fun H locs hW hS => ?_)
            obtain ⟨S10, eS10⟩ : ∃ T : St, T = stI S b9 (Int32.toNatClampNeg a) (vp_nar .boolean 1) := ⟨_, rfl⟩
            rw [← eS10] at hW
            have hG : G S10 := by rw [eS10]; exact hG.I kb9 (ok_frA (by decide) (by decide))
            have hF : Fr [] [1100, 1300] S S10 := by rw [eS10]; exact hF.IA kb9 (by decide) (by decide)
            clear eS10
            refine lv_aload_n hx hb dX9_cut_36 rfl (lv_at hl 0 rfl) ?_
            obtain ⟨b11, rb11, kb11, nb11⟩ := hG0.r hk List.not_mem_nil 32 (show rty 9 32 = some (11, 2) from rfl)
            refine pg_gr (b := b11) (ci := 9) (C := RX9) (T := TX9) (N := 63) hx hb hts wi9 hown hK hW (hF.k hk (by decide)) (by decide) rfl 32 (by decide) (hts (.fieldLink RX9 63 "IceHallModel" "cutShave" "[I") (by decide +kernel)) (fun _ h9 => h9) rfl (hF.r hk (by decide) rb11) dX9_cut_37 ?_
            refine lv_iload_n hx hb dX9_cut_40 rfl (lv_at hl 1 rfl) ?_
            refine lv_iload_n hx hb dX9_cut_41 rfl (lv_at hl 2 rfl) ?_
            refine pg_iast hx hb hK hW hS (hF.k kb11 (by decide)) (by decide) (by rw [show sL S10 b11 = 2 from (hF.n kb11 (by decide) nb11)]; exact r_in (by omega)) dX9_cut_42 (fun H locs hW hS => ?_)
            have kq12 : sK S10 b11 = 11 := (hF.k kb11 (by decide))
            obtain ⟨S13, eS13⟩ : ∃ T : St, T = stI S10 b11 (Int32.toNatClampNeg a) b := ⟨_, rfl⟩
            rw [← eS13] at hW
            have hG : G S13 := by rw [eS13]; exact hG.I kq12 (ok_frA (by decide) (by decide))
            have hF : Fr [] [1100, 1300] S S13 := by rw [eS13]; exact hF.IA kq12 (by decide) (by decide)
            clear eS13
            refine lv_aload_n hx hb dX9_cut_43 rfl (lv_at hl 0 rfl) ?_
            obtain ⟨b14, rb14, kb14, nb14⟩ := hG0.r hk List.not_mem_nil 33 (show rty 9 33 = some (11, 2) from rfl)
            refine pg_gr (b := b14) (ci := 9) (C := RX9) (T := TX9) (N := 63) hx hb hts wi9 hown hK hW (hF.k hk (by decide)) (by decide) rfl 33 (by decide) (hts (.fieldLink RX9 66 "IceHallModel" "cutFlood" "[I") (by decide +kernel)) (fun _ h9 => h9) rfl (hF.r hk (by decide) rb14) dX9_cut_44 ?_
            refine lv_iload_n hx hb dX9_cut_47 rfl (lv_at hl 1 rfl) ?_
            refine lv_iload_n hx hb dX9_cut_48 rfl (lv_at hl 3 rfl) ?_
            refine pg_iast hx hb hK hW hS (hF.k kb14 (by decide)) (by decide) (by rw [show sL S13 b14 = 2 from (hF.n kb14 (by decide) nb14)]; exact r_in (by omega)) dX9_cut_49 (fun H locs hW hS => ?_)
            have kq15 : sK S13 b14 = 11 := (hF.k kb14 (by decide))
            obtain ⟨S16, eS16⟩ : ∃ T : St, T = stI S13 b14 (Int32.toNatClampNeg a) d := ⟨_, rfl⟩
            rw [← eS16] at hW
            have hG : G S16 := by rw [eS16]; exact hG.I kq15 (ok_frA (by decide) (by decide))
            have hF : Fr [] [1100, 1300] S S16 := by rw [eS16]; exact hF.IA kq15 (by decide) (by decide)
            clear eS16
            refine lv_iconst (v := 1) hx hb dX9_cut_50 (by decide) ?_
            exact pc_zret (v := 1) (S := S16) hx hb hr hlk hK hZ hA hW hS (by decide) (⟨hG, hF, Or.inl ⟨rfl, by omega⟩⟩) dX9_cut_51
          · have c8i : ¬ (Int32.toInt d ≤ (20 : Int)) := fun h9 => c8 ((i3_le _ _).mpr h9)
            refine lv_iconst (v := 0) hx hb dX9_cut_27 (by decide) ?_
            exact pc_zret (v := 0) (S := S) hx hb hr hlk hK hZ hA hW hS (by decide) (⟨hG, hF, Or.inr ⟨rfl, by omega⟩⟩) dX9_cut_28
set_option maxHeartbeats 4000000 in
set_option maxRecDepth 100000 in
theorem b_X9_compressors (l : Launch) (D : va_G) (cy : Nat → ClassId) (A : Nat → Prop) (S : St) (h : Nat) (a : Int32) (hG0 : G S) (hk : sK S h = 9) : MI l yX9_compressors wsX9_compressors ({ frames := 0, cells := 0, slots := 0, locals := 0 } : Room) 0 0 D cy A [.ref h, .int a] S (fun r S1 => G S1 ∧ Fr [] [924] S S1 ∧ ((r.toInt = 1 ∧ (0 ≤ a.toInt ∧ a.toInt ≤ 3) ∧ sI S1 h 24 = a) ∨ (r.toInt = 0 ∧ ¬ (0 ≤ a.toInt ∧ a.toInt ≤ 3) ∧ sI S1 h 24 = sI S h 24))) := by
  refine mt_start (cc := cX9_compressors) (maxL := 2) (ret := (some .boolean)) (by decide) rfl (Nat.le_of_ble_eq_true rfl) ?_
  intro p e s m args below meth c hx hb hr hlk hml hown hnm hts hK hZ hA hW hS ls hl
  have hl : lv_has ls 2 [(0, .ref h), (1, .int a)] := hl
  have hown : s.vm.findClass RX9 = some m.cls := hown
  have F : CallFix p m c cX9_compressors 2 s args wsX9_compressors RX9 := ⟨hx, hb, hml, hown, hts⟩
  have wi9 : ∀ w ∈ u_ws RX9 TX9 63, w ∈ wsX9_compressors := by decide +kernel
  have hG := hG0
  have hF : Fr [] [924] S S := Fr.rf _ _ _
  refine lv_iload_n hx hb dX9_compressors_0 rfl (lv_at hl 1 rfl) ?_
  refine lv_if_lt (tgt := 9) hx hb dX9_compressors_1 (by decide) (fun c1 => ?_) (fun c1 => ?_)
  · have c1i : Int32.toInt a < (0 : Int) := (i3_lt _ _).mp c1
    refine lv_iconst (v := 0) hx hb dX9_compressors_9 (by decide) ?_
    exact pc_zret (v := 0) (S := S) hx hb hr hlk hK hZ hA hW hS (by decide) (⟨hG, hF, Or.inr ⟨rfl, by omega, rfl⟩⟩) dX9_compressors_10
  · have c1i : ¬ (Int32.toInt a < (0 : Int)) := fun h9 => c1 ((i3_lt _ _).mpr h9)
    refine lv_iload_n hx hb dX9_compressors_4 rfl (lv_at hl 1 rfl) ?_
    refine lv_iconst (v := 3) hx hb dX9_compressors_5 (by decide) ?_
    refine lv_icmp_le (tgt := 11) hx hb dX9_compressors_6 (by decide) (fun c2 => ?_) (fun c2 => ?_)
    · have c2i : Int32.toInt a ≤ (3 : Int) := (i3_le _ _).mp c2
      refine lv_aload_n hx hb dX9_compressors_11 rfl (lv_at hl 0 rfl) ?_
      refine lv_iload_n hx hb dX9_compressors_12 rfl (lv_at hl 1 rfl) ?_
      refine pg_pi (ci := 9) (C := RX9) (T := TX9) (N := 63) hx hb hts wi9 tyX9 tyX9_ok nmX9 hown hK hW hS hk (by decide) rfl 24 (by decide) (hts (.fieldLink RX9 39 "IceHallModel" "working" "I") (by decide +kernel)) (fun _ h9 => h9) rfl rfl rfl dX9_compressors_13 (fun H locs hW hS => ?_)
      obtain ⟨S3, eS3⟩ : ∃ T : St, T = stI S h 24 a := ⟨_, rfl⟩
      rw [← eS3] at hW
      have hG : G S3 := by rw [eS3]; exact hG.I hk (ok_in 0 3 (by decide) (⟨by omega, by omega⟩))
      have hF : Fr [] [924] S S3 := by rw [eS3]; exact hF.I hk (by decide)
      have w4 : sI S3 h 24 = a := by rw [eS3]; exact iI_s
      clear eS3
      refine lv_iconst (v := 1) hx hb dX9_compressors_16 (by decide) ?_
      exact pc_zret (v := 1) (S := S3) hx hb hr hlk hK hZ hA hW hS (by decide) (⟨hG, hF, Or.inl ⟨rfl, by omega, w4⟩⟩) dX9_compressors_17
    · have c2i : ¬ (Int32.toInt a ≤ (3 : Int)) := fun h9 => c2 ((i3_le _ _).mpr h9)
      refine lv_iconst (v := 0) hx hb dX9_compressors_9 (by decide) ?_
      exact pc_zret (v := 0) (S := S) hx hb hr hlk hK hZ hA hW hS (by decide) (⟨hG, hF, Or.inr ⟨rfl, by omega, rfl⟩⟩) dX9_compressors_10
set_option maxHeartbeats 4000000 in
set_option maxRecDepth 100000 in
theorem b_X9_isClosed (l : Launch) (D : va_G) (cy : Nat → ClassId) (A : Nat → Prop) (S : St) (h : Nat) (a b : Int32) (hG0 : G S) (hk : sK S h = 9) : MI l yX9_isClosed wsX9_isClosed ({ frames := 0, cells := 0, slots := 0, locals := 0 } : Room) 0 0 D cy A [.ref h, .int a, .int b] S (fun r S1 => S1 = S ∧ True) := by
  refine mt_start (cc := cX9_isClosed) (maxL := 4) (ret := (some .boolean)) (by decide) rfl (Nat.le_of_ble_eq_true rfl) ?_
  intro p e s m args below meth c hx hb hr hlk hml hown hnm hts hK hZ hA hW hS ls hl
  have hl : lv_has ls 4 [(0, .ref h), (1, .int a), (2, .int b)] := hl
  have hown : s.vm.findClass RX9 = some m.cls := hown
  have F : CallFix p m c cX9_isClosed 4 s args wsX9_isClosed RX9 := ⟨hx, hb, hml, hown, hts⟩
  have wi9 : ∀ w ∈ u_ws RX9 TX9 63, w ∈ wsX9_isClosed := by decide +kernel
  have hG := hG0
  refine lv_iconst (v := 0) hx hb dX9_isClosed_0 (by decide) ?_
  refine lv_istore_n (lv' := [(3, .int 0), (0, .ref h), (1, .int a), (2, .int b)]) hx hb dX9_isClosed_1 rfl hl (by decide) rfl (fun ls hl => ?_)
  have loop2 : ∀ (zn : Nat) (y : Int32) (H : Heap) (locs : List Loc) (ls : Array Slot), (0 ≤ y.toInt) → (10 - y.toInt).toNat < zn → PW D cy A S H → va_S A s.heap H locs → lv_has ls 4 [(0, .ref h), (1, .int a), (2, .int b), (3, .int y)] → W p l e ({ frames := 0, cells := 0, slots := 0, locals := 0 } : Room) s m args below meth c H locs 0 0 (MQ below (va_Qi (fun r S1 => S1 = S ∧ True) (PU D cy A) A) args s 0 0 A) (F0 m 2 ls []) := by
    intro zn
    induction zn with
    | zero => intros; exact absurd (by assumption) (Nat.not_lt_zero _)
    | succ zn ih2 =>
      intro y H locs ls hy0 hme2 hW hS hl
      refine lv_iload_n hx hb dX9_isClosed_2 rfl (lv_at hl 3 rfl) ?_
      refine lv_aload_n hx hb dX9_isClosed_3 rfl (lv_at hl 0 rfl) ?_
      refine pg_gi (ci := 9) (C := RX9) (T := TX9) (N := 63) hx hb hts wi9 hown hK hW hk (by decide) rfl 36 (by decide) (hts (.fieldLink RX9 202 "IceHallModel" "closings" "I") (by decide +kernel)) (fun _ h9 => h9) rfl dX9_isClosed_4 ?_
      have g1 : (0 : Int) ≤ (sI S h 36).toInt ∧ (sI S h 36).toInt ≤ 10 := hG.i hk (by decide) 36 (by decide)
      refine lv_icmp_ge (tgt := 48) hx hb dX9_isClosed_7 (by decide) (fun c2 => ?_) (fun c2 => ?_)
      · have c2i : Int32.toInt (sI S h 36) ≤ Int32.toInt y := (i3_le _ _).mp c2
        refine lv_iconst (v := 0) hx hb dX9_isClosed_48 (by decide) ?_
        exact pc_zret (v := 0) (S := S) hx hb hr hlk hK hZ hA hW hS (by decide) (⟨rfl, trivial⟩) dX9_isClosed_49
      · have c2i : ¬ (Int32.toInt (sI S h 36) ≤ Int32.toInt y) := fun h9 => c2 ((i3_le _ _).mpr h9)
        refine lv_aload_n hx hb dX9_isClosed_10 rfl (lv_at hl 0 rfl) ?_
        obtain ⟨b3, rb3, kb3, nb3⟩ := hG0.r hk List.not_mem_nil 46 (show rty 9 46 = some (11, 10) from rfl)
        refine pg_gr (b := b3) (ci := 9) (C := RX9) (T := TX9) (N := 63) hx hb hts wi9 hown hK hW hk (by decide) rfl 46 (by decide) (hts (.fieldLink RX9 100 "IceHallModel" "closedSheet" "[I") (by decide +kernel)) (fun _ h9 => h9) rfl rb3 dX9_isClosed_11 ?_
        refine lv_iload_n hx hb dX9_isClosed_14 rfl (lv_at hl 3 rfl) ?_
        refine pg_iald hx hb hK hW kb3 (by decide) (by rw [show sL S b3 = 10 from nb3]; exact r_in (by omega)) dX9_isClosed_15 ?_
        refine lv_iload_n hx hb dX9_isClosed_16 rfl (lv_at hl 1 rfl) ?_
        refine lv_icmp_ne (tgt := 42) hx hb dX9_isClosed_17 (by decide) (fun c4 => ?_) (fun c4 => ?_)
        · have c4i : ¬ (Int32.toInt (sI S b3 (Int32.toNatClampNeg y)) = Int32.toInt a) := fun h9 => c4 ((i3_eq _ _).mpr h9)
          refine lv_iinc (v := y + 1) (lv' := [(3, .int (y + 1)), (0, .ref h), (1, .int a), (2, .int b)]) hx hb dX9_isClosed_42 hl (k := 3) rfl rfl (by decide) rfl (fun ls hl => ?_)
          have i5 : (y + 1).toInt = (y).toInt + 1 := i3_add rfl rfl (by omega) (by omega)
          refine lv_goto (tgt := 2) hx hb dX9_isClosed_45 (by decide) ?_
          exact ih2 (y + 1) _ _ ls (by omega) (by omega) hW hS (lv_cast (lv_sub hl [1, 2, 3, 0] rfl) (rfl))
        · have c4i : Int32.toInt (sI S b3 (Int32.toNatClampNeg y)) = Int32.toInt a := (i3_eq _ _).mp c4
          refine lv_iload_n hx hb dX9_isClosed_20 rfl (lv_at hl 2 rfl) ?_
          refine lv_aload_n hx hb dX9_isClosed_21 rfl (lv_at hl 0 rfl) ?_
          obtain ⟨b6, rb6, kb6, nb6⟩ := hG0.r hk List.not_mem_nil 47 (show rty 9 47 = some (11, 10) from rfl)
          refine pg_gr (b := b6) (ci := 9) (C := RX9) (T := TX9) (N := 63) hx hb hts wi9 hown hK hW hk (by decide) rfl 47 (by decide) (hts (.fieldLink RX9 103 "IceHallModel" "closedFrom" "[I") (by decide +kernel)) (fun _ h9 => h9) rfl rb6 dX9_isClosed_22 ?_
          refine lv_iload_n hx hb dX9_isClosed_25 rfl (lv_at hl 3 rfl) ?_
          refine pg_iald hx hb hK hW kb6 (by decide) (by rw [show sL S b6 = 10 from nb6]; exact r_in (by omega)) dX9_isClosed_26 ?_
          refine lv_icmp_lt (tgt := 42) hx hb dX9_isClosed_27 (by decide) (fun c7 => ?_) (fun c7 => ?_)
          · have c7i : Int32.toInt b < Int32.toInt (sI S b6 (Int32.toNatClampNeg y)) := (i3_lt _ _).mp c7
            refine lv_iinc (v := y + 1) (lv' := [(3, .int (y + 1)), (0, .ref h), (1, .int a), (2, .int b)]) hx hb dX9_isClosed_42 hl (k := 3) rfl rfl (by decide) rfl (fun ls hl => ?_)
            have i8 : (y + 1).toInt = (y).toInt + 1 := i3_add rfl rfl (by omega) (by omega)
            refine lv_goto (tgt := 2) hx hb dX9_isClosed_45 (by decide) ?_
            exact ih2 (y + 1) _ _ ls (by omega) (by omega) hW hS (lv_cast (lv_sub hl [1, 2, 3, 0] rfl) (rfl))
          · have c7i : ¬ (Int32.toInt b < Int32.toInt (sI S b6 (Int32.toNatClampNeg y))) := fun h9 => c7 ((i3_lt _ _).mpr h9)
            refine lv_iload_n hx hb dX9_isClosed_30 rfl (lv_at hl 2 rfl) ?_
            refine lv_aload_n hx hb dX9_isClosed_31 rfl (lv_at hl 0 rfl) ?_
            obtain ⟨b9, rb9, kb9, nb9⟩ := hG0.r hk List.not_mem_nil 48 (show rty 9 48 = some (11, 10) from rfl)
            refine pg_gr (b := b9) (ci := 9) (C := RX9) (T := TX9) (N := 63) hx hb hts wi9 hown hK hW hk (by decide) rfl 48 (by decide) (hts (.fieldLink RX9 106 "IceHallModel" "closedTo" "[I") (by decide +kernel)) (fun _ h9 => h9) rfl rb9 dX9_isClosed_32 ?_
            refine lv_iload_n hx hb dX9_isClosed_35 rfl (lv_at hl 3 rfl) ?_
            refine pg_iald hx hb hK hW kb9 (by decide) (by rw [show sL S b9 = 10 from nb9]; exact r_in (by omega)) dX9_isClosed_36 ?_
            refine lv_icmp_ge (tgt := 42) hx hb dX9_isClosed_37 (by decide) (fun c10 => ?_) (fun c10 => ?_)
            · have c10i : Int32.toInt (sI S b9 (Int32.toNatClampNeg y)) ≤ Int32.toInt b := (i3_le _ _).mp c10
              refine lv_iinc (v := y + 1) (lv' := [(3, .int (y + 1)), (0, .ref h), (1, .int a), (2, .int b)]) hx hb dX9_isClosed_42 hl (k := 3) rfl rfl (by decide) rfl (fun ls hl => ?_)
              have i11 : (y + 1).toInt = (y).toInt + 1 := i3_add rfl rfl (by omega) (by omega)
              refine lv_goto (tgt := 2) hx hb dX9_isClosed_45 (by decide) ?_
              exact ih2 (y + 1) _ _ ls (by omega) (by omega) hW hS (lv_cast (lv_sub hl [1, 2, 3, 0] rfl) (rfl))
            · have c10i : ¬ (Int32.toInt (sI S b9 (Int32.toNatClampNeg y)) ≤ Int32.toInt b) := fun h9 => c10 ((i3_le _ _).mpr h9)
              refine lv_iconst (v := 1) hx hb dX9_isClosed_40 (by decide) ?_
              exact pc_zret (v := 1) (S := S) hx hb hr hlk hK hZ hA hW hS (by decide) (⟨rfl, trivial⟩) dX9_isClosed_41
  exact loop2 _ 0 _ _ ls (by decide) (Nat.lt_succ_self _) hW hS (lv_cast (lv_sub hl [1, 2, 3, 0] rfl) (rfl))
set_option maxHeartbeats 4000000 in
set_option maxRecDepth 100000 in
theorem b_X9_standing (l : Launch) (D : va_G) (cy : Nat → ClassId) (A : Nat → Prop) (S : St) (h : Nat) (a b : Int32) (hG0 : G S) (hk : sK S h = 9) : MI l yX9_standing wsX9_standing ({ frames := 0, cells := 0, slots := 0, locals := 0 } : Room) 0 0 D cy A [.ref h, .int a, .int b] S (fun r S1 => S1 = S ∧ ((r.toInt = -1) ∨ (0 ≤ r.toInt ∧ r.toInt < 200 ∧ -10 ≤ b.toInt ∧ b.toInt ≤ 2000))) := by
  refine mt_start (cc := cX9_standing) (maxL := 4) (ret := (some .int)) (by decide) rfl (Nat.le_of_ble_eq_true rfl) ?_
  intro p e s m args below meth c hx hb hr hlk hml hown hnm hts hK hZ hA hW hS ls hl
  have hl : lv_has ls 4 [(0, .ref h), (1, .int a), (2, .int b)] := hl
  have hown : s.vm.findClass RX9 = some m.cls := hown
  have F : CallFix p m c cX9_standing 4 s args wsX9_standing RX9 := ⟨hx, hb, hml, hown, hts⟩
  have wi9 : ∀ w ∈ u_ws RX9 TX9 63, w ∈ wsX9_standing := by decide +kernel
  have hG := hG0
  refine lv_iconst (v := 0) hx hb dX9_standing_0 (by decide) ?_
  refine lv_istore_n (lv' := [(3, .int 0), (0, .ref h), (1, .int a), (2, .int b)]) hx hb dX9_standing_1 rfl hl (by decide) rfl (fun ls hl => ?_)
  have loop2 : ∀ (zn : Nat) (y : Int32) (H : Heap) (locs : List Loc) (ls : Array Slot), (0 ≤ y.toInt) → (200 - y.toInt).toNat < zn → PW D cy A S H → va_S A s.heap H locs → lv_has ls 4 [(0, .ref h), (1, .int a), (2, .int b), (3, .int y)] → W p l e ({ frames := 0, cells := 0, slots := 0, locals := 0 } : Room) s m args below meth c H locs 0 0 (MQ below (va_Qi (fun r S1 => S1 = S ∧ ((r.toInt = -1) ∨ (0 ≤ r.toInt ∧ r.toInt < 200 ∧ -10 ≤ b.toInt ∧ b.toInt ≤ 2000))) (PU D cy A) A) args s 0 0 A) (F0 m 2 ls []) := by
    intro zn
    induction zn with
    | zero => intros; exact absurd (by assumption) (Nat.not_lt_zero _)
    | succ zn ih2 =>
      intro y H locs ls hy0 hme2 hW hS hl
      refine lv_iload_n hx hb dX9_standing_2 rfl (lv_at hl 3 rfl) ?_
      refine lv_aload_n hx hb dX9_standing_3 rfl (lv_at hl 0 rfl) ?_
      refine pg_gi (ci := 9) (C := RX9) (T := TX9) (N := 63) hx hb hts wi9 hown hK hW hk (by decide) rfl 35 (by decide) (hts (.fieldLink RX9 205 "IceHallModel" "sessions" "I") (by decide +kernel)) (fun _ h9 => h9) rfl dX9_standing_4 ?_
      have g1 : (0 : Int) ≤ (sI S h 35).toInt ∧ (sI S h 35).toInt ≤ 200 := hG.i hk (by decide) 35 (by decide)
      refine lv_icmp_ge (tgt := 48) hx hb dX9_standing_7 (by decide) (fun c2 => ?_) (fun c2 => ?_)
      · have c2i : Int32.toInt (sI S h 35) ≤ Int32.toInt y := (i3_le _ _).mp c2
        refine lv_iconst (v := (-1)) hx hb dX9_standing_48 (by decide) ?_
        exact pc_iret (v := (-1)) (S := S) hx hb hr hlk hK hZ hA hW hS (⟨rfl, Or.inl rfl⟩) dX9_standing_49
      · have c2i : ¬ (Int32.toInt (sI S h 35) ≤ Int32.toInt y) := fun h9 => c2 ((i3_le _ _).mpr h9)
        refine lv_aload_n hx hb dX9_standing_10 rfl (lv_at hl 0 rfl) ?_
        obtain ⟨b3, rb3, kb3, nb3⟩ := hG0.r hk List.not_mem_nil 41 (show rty 9 41 = some (11, 200) from rfl)
        refine pg_gr (b := b3) (ci := 9) (C := RX9) (T := TX9) (N := 63) hx hb hts wi9 hown hK hW hk (by decide) rfl 41 (by decide) (hts (.fieldLink RX9 85 "IceHallModel" "state" "[I") (by decide +kernel)) (fun _ h9 => h9) rfl rb3 dX9_standing_11 ?_
        refine lv_iload_n hx hb dX9_standing_14 rfl (lv_at hl 3 rfl) ?_
        refine pg_iald hx hb hK hW kb3 (by decide) (by rw [show sL S b3 = 200 from nb3]; exact r_in (by omega)) dX9_standing_15 ?_
        refine lv_iconst (v := 2) hx hb dX9_standing_16 (by decide) ?_
        refine lv_icmp_gt (tgt := 42) hx hb dX9_standing_17 (by decide) (fun c4 => ?_) (fun c4 => ?_)
        · have c4i : (2 : Int) < Int32.toInt (sI S b3 (Int32.toNatClampNeg y)) := (i3_lt _ _).mp c4
          refine lv_iinc (v := y + 1) (lv' := [(3, .int (y + 1)), (0, .ref h), (1, .int a), (2, .int b)]) hx hb dX9_standing_42 hl (k := 3) rfl rfl (by decide) rfl (fun ls hl => ?_)
          have i5 : (y + 1).toInt = (y).toInt + 1 := i3_add rfl rfl (by omega) (by omega)
          refine lv_goto (tgt := 2) hx hb dX9_standing_45 (by decide) ?_
          exact ih2 (y + 1) _ _ ls (by omega) (by omega) hW hS (lv_cast (lv_sub hl [1, 2, 3, 0] rfl) (rfl))
        · have c4i : ¬ ((2 : Int) < Int32.toInt (sI S b3 (Int32.toNatClampNeg y))) := fun h9 => c4 ((i3_lt _ _).mpr h9)
          refine lv_aload_n hx hb dX9_standing_20 rfl (lv_at hl 0 rfl) ?_
          obtain ⟨b6, rb6, kb6, nb6⟩ := hG0.r hk List.not_mem_nil 39 (show rty 9 39 = some (11, 200) from rfl)
          refine pg_gr (b := b6) (ci := 9) (C := RX9) (T := TX9) (N := 63) hx hb hts wi9 hown hK hW hk (by decide) rfl 39 (by decide) (hts (.fieldLink RX9 79 "IceHallModel" "sheetOf" "[I") (by decide +kernel)) (fun _ h9 => h9) rfl rb6 dX9_standing_21 ?_
          refine lv_iload_n hx hb dX9_standing_24 rfl (lv_at hl 3 rfl) ?_
          refine pg_iald hx hb hK hW kb6 (by decide) (by rw [show sL S b6 = 200 from nb6]; exact r_in (by omega)) dX9_standing_25 ?_
          refine lv_iload_n hx hb dX9_standing_26 rfl (lv_at hl 1 rfl) ?_
          refine lv_icmp_ne (tgt := 42) hx hb dX9_standing_27 (by decide) (fun c7 => ?_) (fun c7 => ?_)
          · have c7i : ¬ (Int32.toInt (sI S b6 (Int32.toNatClampNeg y)) = Int32.toInt a) := fun h9 => c7 ((i3_eq _ _).mpr h9)
            refine lv_iinc (v := y + 1) (lv' := [(3, .int (y + 1)), (0, .ref h), (1, .int a), (2, .int b)]) hx hb dX9_standing_42 hl (k := 3) rfl rfl (by decide) rfl (fun ls hl => ?_)
            have i8 : (y + 1).toInt = (y).toInt + 1 := i3_add rfl rfl (by omega) (by omega)
            refine lv_goto (tgt := 2) hx hb dX9_standing_45 (by decide) ?_
            exact ih2 (y + 1) _ _ ls (by omega) (by omega) hW hS (lv_cast (lv_sub hl [1, 2, 3, 0] rfl) (rfl))
          · have c7i : Int32.toInt (sI S b6 (Int32.toNatClampNeg y)) = Int32.toInt a := (i3_eq _ _).mp c7
            refine lv_aload_n hx hb dX9_standing_30 rfl (lv_at hl 0 rfl) ?_
            obtain ⟨b9, rb9, kb9, nb9⟩ := hG0.r hk List.not_mem_nil 40 (show rty 9 40 = some (16, 200) from rfl)
            refine pg_gr (b := b9) (ci := 9) (C := RX9) (T := TX9) (N := 63) hx hb hts wi9 hown hK hW hk (by decide) rfl 40 (by decide) (hts (.fieldLink RX9 82 "IceHallModel" "hourOf" "[I") (by decide +kernel)) (fun _ h9 => h9) rfl rb9 dX9_standing_31 ?_
            refine lv_iload_n hx hb dX9_standing_34 rfl (lv_at hl 3 rfl) ?_
            refine pg_iald hx hb hK hW kb9 (by decide) (by rw [show sL S b9 = 200 from nb9]; exact r_in (by omega)) dX9_standing_35 ?_
            have g10 : (-10 : Int) ≤ (sI S b9 (Int32.toNatClampNeg y)).toInt ∧ (sI S b9 (Int32.toNatClampNeg y)).toInt ≤ 2000 := hG.iA kb9 (by decide) (by decide) (Int32.toNatClampNeg y) (by decide)
            refine lv_iload_n hx hb dX9_standing_36 rfl (lv_at hl 2 rfl) ?_
            refine lv_icmp_ne (tgt := 42) hx hb dX9_standing_37 (by decide) (fun c11 => ?_) (fun c11 => ?_)
            · have c11i : ¬ (Int32.toInt (sI S b9 (Int32.toNatClampNeg y)) = Int32.toInt b) := fun h9 => c11 ((i3_eq _ _).mpr h9)
              refine lv_iinc (v := y + 1) (lv' := [(3, .int (y + 1)), (0, .ref h), (1, .int a), (2, .int b)]) hx hb dX9_standing_42 hl (k := 3) rfl rfl (by decide) rfl (fun ls hl => ?_)
              have i12 : (y + 1).toInt = (y).toInt + 1 := i3_add rfl rfl (by omega) (by omega)
              refine lv_goto (tgt := 2) hx hb dX9_standing_45 (by decide) ?_
              exact ih2 (y + 1) _ _ ls (by omega) (by omega) hW hS (lv_cast (lv_sub hl [1, 2, 3, 0] rfl) (rfl))
            · have c11i : Int32.toInt (sI S b9 (Int32.toNatClampNeg y)) = Int32.toInt b := (i3_eq _ _).mp c11
              refine lv_iload_n hx hb dX9_standing_40 rfl (lv_at hl 3 rfl) ?_
              exact pc_iret (v := y) (S := S) hx hb hr hlk hK hZ hA hW hS (⟨rfl, by omega⟩) dX9_standing_41
  exact loop2 _ 0 _ _ ls (by decide) (Nat.lt_succ_self _) hW hS (lv_cast (lv_sub hl [1, 2, 3, 0] rfl) (rfl))
set_option maxHeartbeats 4000000 in
set_option maxRecDepth 100000 in
theorem b_X9_inRow (l : Launch) (D : va_G) (cy : Nat → ClassId) (A : Nat → Prop) (S : St) (h : Nat) (a b : Int32) (hG0 : G S) (hk : sK S h = 9) (hb0 : -10 ≤ b.toInt) (hb2 : b.toInt ≤ 2000) : MI l yX9_inRow wsX9_inRow ({ frames := 1, cells := 0, slots := 0, locals := 23 } : Room) 0 0 D cy A [.ref h, .int a, .int b] S (fun r S1 => S1 = S ∧ True) := by
  refine mt_start (cc := cX9_inRow) (maxL := 5) (ret := (some .int)) (by decide) rfl (Nat.le_of_ble_eq_true rfl) ?_
  intro p e s m args below meth c hx hb hr hlk hml hown hnm hts hK hZ hA hW hS ls hl
  have hl : lv_has ls 5 [(0, .ref h), (1, .int a), (2, .int b)] := hl
  have hown : s.vm.findClass RX9 = some m.cls := hown
  have F : CallFix p m c cX9_inRow 5 s args wsX9_inRow RX9 := ⟨hx, hb, hml, hown, hts⟩
  have hG := hG0
  refine lv_iconst (v := 1) hx hb dX9_inRow_0 (by decide) ?_
  refine lv_istore_n (lv' := [(3, .int 1), (0, .ref h), (1, .int a), (2, .int b)]) hx hb dX9_inRow_1 rfl hl (by decide) rfl (fun ls hl => ?_)
  refine lv_iload_n hx hb dX9_inRow_2 rfl (lv_at hl 3 rfl) ?_
  refine lv_iconst (v := 1) hx hb dX9_inRow_3 (by decide) ?_
  refine lv_isub hx hb dX9_inRow_4 ?_
  have l1 : (b - 1).toInt = Int32.toInt b - (1 : Int) := i3_sub rfl rfl (by omega) (by omega)
  refine lv_istore (lv' := [(4, .int (b - 1)), (3, .int 1), (0, .ref h), (1, .int a), (2, .int b)]) hx hb dX9_inRow_5 hl (by decide) rfl (fun ls hl => ?_)
  have loop7 : ∀ (zn : Nat) (z : Int32) (y : Int32) (H : Heap) (locs : List Loc) (ls : Array Slot), (-12 ≤ y.toInt ∧ y.toInt ≤ 2000) → (y.toInt + 13).toNat < zn → PW D cy A S H → va_S A s.heap H locs → lv_has ls 5 [(0, .ref h), (1, .int a), (2, .int b), (3, .int z), (4, .int y)] → W p l e ({ frames := 1, cells := 0, slots := 0, locals := 23 } : Room) s m args below meth c H locs 0 0 (MQ below (va_Qi (fun r S1 => S1 = S ∧ True) (PU D cy A) A) args s 0 0 A) (F0 m 7 ls []) := by
    intro zn
    induction zn with
    | zero => intros; exact absurd (by assumption) (Nat.not_lt_zero _)
    | succ zn ih7 =>
      intro z y H locs ls hy hme7 hW hS hl
      refine lv_aload_n hx hb dX9_inRow_7 rfl (lv_at hl 0 rfl) ?_
      refine lv_iload_n hx hb dX9_inRow_8 rfl (lv_at hl 1 rfl) ?_
      refine lv_iload hx hb dX9_inRow_9 (lv_at hl 4 rfl) ?_
      refine pc_Vi (As := [.int a, .int y]) (rest := []) F (b_X9_standing l D cy A S h a y hG hk) (cwV 2 hts gX9_inRow_X9_standing rfl rfl rfl (by decide +kernel) ⟨Nat.le_of_ble_eq_true rfl, Nat.le_of_ble_eq_true rfl⟩) hK hZ hA hW hS hk (by decide) rfl rfl hl.1 rfl (Nat.le_of_ble_eq_true rfl) dX9_inRow_11 ⟨Nat.le_of_ble_eq_true rfl, Nat.le_of_ble_eq_true rfl⟩ (fun v2 T3 H locs p4 hW hS => ?_)
      obtain ⟨eT3, p4⟩ := p4
      rw [eT3] at hW
      clear eT3
      refine lv_iconst (v := (-1)) hx hb dX9_inRow_14 (by decide) ?_
      refine lv_icmp_eq (tgt := 31) hx hb dX9_inRow_15 (by decide) (fun c5 => ?_) (fun c5 => ?_)
      · have c5i : Int32.toInt v2 = (-1 : Int) := (i3_eq _ _).mp c5
        refine lv_iload_n hx hb dX9_inRow_31 rfl (lv_at hl 2 rfl) ?_
        refine lv_iconst (v := 1) hx hb dX9_inRow_32 (by decide) ?_
        refine lv_iadd hx hb dX9_inRow_33 ?_
        have l6 : (b + 1).toInt = Int32.toInt b + (1 : Int) := i3_add rfl rfl (by omega) (by omega)
        refine lv_istore (lv' := [(4, .int (b + 1)), (0, .ref h), (1, .int a), (2, .int b), (3, .int z)]) hx hb dX9_inRow_34 hl (by decide) rfl (fun ls hl => ?_)
        have loop36 : ∀ (zn : Nat) (z : Int32) (y : Int32) (H : Heap) (locs : List Loc) (ls : Array Slot), (-12 ≤ y.toInt ∧ y.toInt ≤ 2002) → (2003 - y.toInt).toNat < zn → PW D cy A S H → va_S A s.heap H locs → lv_has ls 5 [(0, .ref h), (1, .int a), (2, .int b), (3, .int z), (4, .int y)] → W p l e ({ frames := 1, cells := 0, slots := 0, locals := 23 } : Room) s m args below meth c H locs 0 0 (MQ below (va_Qi (fun r S1 => S1 = S ∧ True) (PU D cy A) A) args s 0 0 A) (F0 m 36 ls []) := by
          intro zn
          induction zn with
          | zero => intros; exact absurd (by assumption) (Nat.not_lt_zero _)
          | succ zn ih36 =>
            intro z y H locs ls hy hme36 hW hS hl
            refine lv_aload_n hx hb dX9_inRow_36 rfl (lv_at hl 0 rfl) ?_
            refine lv_iload_n hx hb dX9_inRow_37 rfl (lv_at hl 1 rfl) ?_
            refine lv_iload hx hb dX9_inRow_38 (lv_at hl 4 rfl) ?_
            refine pc_Vi (As := [.int a, .int y]) (rest := []) F (b_X9_standing l D cy A S h a y hG hk) (cwV 2 hts gX9_inRow_X9_standing rfl rfl rfl (by decide +kernel) ⟨Nat.le_of_ble_eq_true rfl, Nat.le_of_ble_eq_true rfl⟩) hK hZ hA hW hS hk (by decide) rfl rfl hl.1 rfl (Nat.le_of_ble_eq_true rfl) dX9_inRow_40 ⟨Nat.le_of_ble_eq_true rfl, Nat.le_of_ble_eq_true rfl⟩ (fun v7 T8 H locs p9 hW hS => ?_)
            obtain ⟨eT8, p9⟩ := p9
            rw [eT8] at hW
            clear eT8
            refine lv_iconst (v := (-1)) hx hb dX9_inRow_43 (by decide) ?_
            refine lv_icmp_eq (tgt := 60) hx hb dX9_inRow_44 (by decide) (fun c10 => ?_) (fun c10 => ?_)
            · have c10i : Int32.toInt v7 = (-1 : Int) := (i3_eq _ _).mp c10
              refine lv_iload_n hx hb dX9_inRow_60 rfl (lv_at hl 3 rfl) ?_
              exact pc_iret (v := z) (S := S) hx hb hr hlk hK hZ hA hW hS (⟨rfl, trivial⟩) dX9_inRow_61
            · have c10i : ¬ (Int32.toInt v7 = (-1 : Int)) := fun h9 => c10 ((i3_eq _ _).mpr h9)
              refine lv_iload_n hx hb dX9_inRow_47 rfl (lv_at hl 3 rfl) ?_
              refine lv_iconst (v := 1) hx hb dX9_inRow_48 (by decide) ?_
              refine lv_iadd hx hb dX9_inRow_49 ?_
              refine lv_istore_n (lv' := [(3, .int (z + 1)), (0, .ref h), (1, .int a), (2, .int b), (4, .int y)]) hx hb dX9_inRow_50 rfl hl (by decide) rfl (fun ls hl => ?_)
              refine lv_iload hx hb dX9_inRow_51 (lv_at hl 4 rfl) ?_
              refine lv_iconst (v := 1) hx hb dX9_inRow_53 (by decide) ?_
              refine lv_iadd hx hb dX9_inRow_54 ?_
              have l11 : (y + 1).toInt = Int32.toInt y + (1 : Int) := i3_add rfl rfl (by omega) (by omega)
              refine lv_istore (lv' := [(4, .int (y + 1)), (3, .int (z + 1)), (0, .ref h), (1, .int a), (2, .int b)]) hx hb dX9_inRow_55 hl (by decide) rfl (fun ls hl => ?_)
              refine lv_goto (tgt := 36) hx hb dX9_inRow_57 (by decide) ?_
              exact ih36 (z + 1) (y + 1) _ _ ls (by omega) (by omega) hW hS (lv_cast (lv_sub hl [2, 3, 4, 1, 0] rfl) (rfl))
        exact loop36 _ z (b + 1) _ _ ls (by omega) (Nat.lt_succ_self _) hW hS (lv_cast (lv_sub hl [1, 2, 3, 4, 0] rfl) (rfl))
      · have c5i : ¬ (Int32.toInt v2 = (-1 : Int)) := fun h9 => c5 ((i3_eq _ _).mpr h9)
        refine lv_iload_n hx hb dX9_inRow_18 rfl (lv_at hl 3 rfl) ?_
        refine lv_iconst (v := 1) hx hb dX9_inRow_19 (by decide) ?_
        refine lv_iadd hx hb dX9_inRow_20 ?_
        refine lv_istore_n (lv' := [(3, .int (z + 1)), (0, .ref h), (1, .int a), (2, .int b), (4, .int y)]) hx hb dX9_inRow_21 rfl hl (by decide) rfl (fun ls hl => ?_)
        refine lv_iload hx hb dX9_inRow_22 (lv_at hl 4 rfl) ?_
        refine lv_iconst (v := 1) hx hb dX9_inRow_24 (by decide) ?_
        refine lv_isub hx hb dX9_inRow_25 ?_
        have l12 : (y - 1).toInt = Int32.toInt y - (1 : Int) := i3_sub rfl rfl (by omega) (by omega)
        refine lv_istore (lv' := [(4, .int (y - 1)), (3, .int (z + 1)), (0, .ref h), (1, .int a), (2, .int b)]) hx hb dX9_inRow_26 hl (by decide) rfl (fun ls hl => ?_)
        refine lv_goto (tgt := 7) hx hb dX9_inRow_28 (by decide) ?_
        exact ih7 (z + 1) (y - 1) _ _ ls (by omega) (by omega) hW hS (lv_cast (lv_sub hl [2, 3, 4, 1, 0] rfl) (rfl))
  exact loop7 _ 1 (b - 1) _ _ ls (by omega) (Nat.lt_succ_self _) hW hS (lv_cast (lv_sub hl [2, 3, 4, 1, 0] rfl) (rfl))
set_option maxHeartbeats 4000000 in
set_option maxRecDepth 100000 in
theorem b_X9_inWeek (l : Launch) (D : va_G) (cy : Nat → ClassId) (A : Nat → Prop) (S : St) (h : Nat) (a b : Int32) (hG0 : G S) (hk : sK S h = 9) : MI l yX9_inWeek wsX9_inWeek ({ frames := 0, cells := 0, slots := 0, locals := 0 } : Room) 0 0 D cy A [.ref h, .int a, .int b] S (fun r S1 => S1 = S ∧ True) := by
  refine mt_start (cc := cX9_inWeek) (maxL := 5) (ret := (some .int)) (by decide) rfl (Nat.le_of_ble_eq_true rfl) ?_
  intro p e s m args below meth c hx hb hr hlk hml hown hnm hts hK hZ hA hW hS ls hl
  have hl : lv_has ls 5 [(0, .ref h), (1, .int a), (2, .int b)] := hl
  have hown : s.vm.findClass RX9 = some m.cls := hown
  have F : CallFix p m c cX9_inWeek 5 s args wsX9_inWeek RX9 := ⟨hx, hb, hml, hown, hts⟩
  have wi9 : ∀ w ∈ u_ws RX9 TX9 63, w ∈ wsX9_inWeek := by decide +kernel
  have hG := hG0
  refine lv_iconst (v := 0) hx hb dX9_inWeek_0 (by decide) ?_
  refine lv_istore_n (lv' := [(3, .int 0), (0, .ref h), (1, .int a), (2, .int b)]) hx hb dX9_inWeek_1 rfl hl (by decide) rfl (fun ls hl => ?_)
  refine lv_iconst (v := 0) hx hb dX9_inWeek_2 (by decide) ?_
  refine lv_istore (lv' := [(4, .int 0), (3, .int 0), (0, .ref h), (1, .int a), (2, .int b)]) hx hb dX9_inWeek_3 hl (by decide) rfl (fun ls hl => ?_)
  have loop5 : ∀ (zn : Nat) (y : Int32) (z : Int32) (H : Heap) (locs : List Loc) (ls : Array Slot), (0 ≤ y.toInt) → (200 - y.toInt).toNat < zn → PW D cy A S H → va_S A s.heap H locs → lv_has ls 5 [(0, .ref h), (1, .int a), (2, .int b), (3, .int z), (4, .int y)] → W p l e ({ frames := 0, cells := 0, slots := 0, locals := 0 } : Room) s m args below meth c H locs 0 0 (MQ below (va_Qi (fun r S1 => S1 = S ∧ True) (PU D cy A) A) args s 0 0 A) (F0 m 5 ls []) := by
    intro zn
    induction zn with
    | zero => intros; exact absurd (by assumption) (Nat.not_lt_zero _)
    | succ zn ih5 =>
      intro y z H locs ls hy0 hme5 hW hS hl
      refine lv_iload hx hb dX9_inWeek_5 (lv_at hl 4 rfl) ?_
      refine lv_aload_n hx hb dX9_inWeek_7 rfl (lv_at hl 0 rfl) ?_
      refine pg_gi (ci := 9) (C := RX9) (T := TX9) (N := 63) hx hb hts wi9 hown hK hW hk (by decide) rfl 35 (by decide) (hts (.fieldLink RX9 205 "IceHallModel" "sessions" "I") (by decide +kernel)) (fun _ h9 => h9) rfl dX9_inWeek_8 ?_
      have g1 : (0 : Int) ≤ (sI S h 35).toInt ∧ (sI S h 35).toInt ≤ 200 := hG.i hk (by decide) 35 (by decide)
      refine lv_icmp_ge (tgt := 65) hx hb dX9_inWeek_11 (by decide) (fun c2 => ?_) (fun c2 => ?_)
      · have c2i : Int32.toInt (sI S h 35) ≤ Int32.toInt y := (i3_le _ _).mp c2
        refine lv_iload_n hx hb dX9_inWeek_65 rfl (lv_at hl 3 rfl) ?_
        exact pc_iret (v := z) (S := S) hx hb hr hlk hK hZ hA hW hS (⟨rfl, trivial⟩) dX9_inWeek_66
      · have c2i : ¬ (Int32.toInt (sI S h 35) ≤ Int32.toInt y) := fun h9 => c2 ((i3_le _ _).mpr h9)
        refine lv_iload_n hx hb dX9_inWeek_14 rfl (lv_at hl 3 rfl) ?_
        have join57 : ∀ (v57 : Int32) (H : Heap) (locs : List Loc), PW D cy A S H → va_S A s.heap H locs → W p l e ({ frames := 0, cells := 0, slots := 0, locals := 0 } : Room) s m args below meth c H locs 0 0 (MQ below (va_Qi (fun r S1 => S1 = S ∧ True) (PU D cy A) A) args s 0 0 A) (F0 m 57 ls [.int v57, .int z]) := by
          intro v57 H locs hW hS
          refine lv_iadd hx hb dX9_inWeek_57 ?_
          refine lv_istore_n (lv' := [(3, .int (z + v57)), (0, .ref h), (1, .int a), (2, .int b), (4, .int y)]) hx hb dX9_inWeek_58 rfl hl (by decide) rfl (fun ls hl => ?_)
          refine lv_iinc (v := y + 1) (lv' := [(4, .int (y + 1)), (3, .int (z + v57)), (0, .ref h), (1, .int a), (2, .int b)]) hx hb dX9_inWeek_59 hl (k := 4) rfl rfl (by decide) rfl (fun ls hl => ?_)
          have i3 : (y + 1).toInt = (y).toInt + 1 := i3_add rfl rfl (by omega) (by omega)
          refine lv_goto (tgt := 5) hx hb dX9_inWeek_62 (by decide) ?_
          exact ih5 (y + 1) (z + v57) _ _ ls (by omega) (by omega) hW hS (lv_cast (lv_sub hl [2, 3, 4, 1, 0] rfl) (rfl))
        refine lv_aload_n hx hb dX9_inWeek_15 rfl (lv_at hl 0 rfl) ?_
        obtain ⟨b4, rb4, kb4, nb4⟩ := hG0.r hk List.not_mem_nil 37 (show rty 9 37 = some (11, 200) from rfl)
        refine pg_gr (b := b4) (ci := 9) (C := RX9) (T := TX9) (N := 63) hx hb hts wi9 hown hK hW hk (by decide) rfl 37 (by decide) (hts (.fieldLink RX9 73 "IceHallModel" "clubOf" "[I") (by decide +kernel)) (fun _ h9 => h9) rfl rb4 dX9_inWeek_16 ?_
        refine lv_iload hx hb dX9_inWeek_19 (lv_at hl 4 rfl) ?_
        refine pg_iald hx hb hK hW kb4 (by decide) (by rw [show sL S b4 = 200 from nb4]; exact r_in (by omega)) dX9_inWeek_21 ?_
        refine lv_iload_n hx hb dX9_inWeek_22 rfl (lv_at hl 1 rfl) ?_
        refine lv_icmp_ne (tgt := 56) hx hb dX9_inWeek_23 (by decide) (fun c5 => ?_) (fun c5 => ?_)
        · have c5i : ¬ (Int32.toInt (sI S b4 (Int32.toNatClampNeg y)) = Int32.toInt a) := fun h9 => c5 ((i3_eq _ _).mpr h9)
          refine lv_iconst (v := 0) hx hb dX9_inWeek_56 (by decide) ?_
          exact join57 0 _ _  hW hS
        · have c5i : Int32.toInt (sI S b4 (Int32.toNatClampNeg y)) = Int32.toInt a := (i3_eq _ _).mp c5
          refine lv_aload_n hx hb dX9_inWeek_26 rfl (lv_at hl 0 rfl) ?_
          obtain ⟨b6, rb6, kb6, nb6⟩ := hG0.r hk List.not_mem_nil 41 (show rty 9 41 = some (11, 200) from rfl)
          refine pg_gr (b := b6) (ci := 9) (C := RX9) (T := TX9) (N := 63) hx hb hts wi9 hown hK hW hk (by decide) rfl 41 (by decide) (hts (.fieldLink RX9 85 "IceHallModel" "state" "[I") (by decide +kernel)) (fun _ h9 => h9) rfl rb6 dX9_inWeek_27 ?_
          refine lv_iload hx hb dX9_inWeek_30 (lv_at hl 4 rfl) ?_
          refine pg_iald hx hb hK hW kb6 (by decide) (by rw [show sL S b6 = 200 from nb6]; exact r_in (by omega)) dX9_inWeek_32 ?_
          refine lv_iconst (v := 2) hx hb dX9_inWeek_33 (by decide) ?_
          refine lv_icmp_gt (tgt := 56) hx hb dX9_inWeek_34 (by decide) (fun c7 => ?_) (fun c7 => ?_)
          · have c7i : (2 : Int) < Int32.toInt (sI S b6 (Int32.toNatClampNeg y)) := (i3_lt _ _).mp c7
            refine lv_iconst (v := 0) hx hb dX9_inWeek_56 (by decide) ?_
            exact join57 0 _ _  hW hS
          · have c7i : ¬ ((2 : Int) < Int32.toInt (sI S b6 (Int32.toNatClampNeg y))) := fun h9 => c7 ((i3_lt _ _).mpr h9)
            refine lv_aload_n hx hb dX9_inWeek_37 rfl (lv_at hl 0 rfl) ?_
            obtain ⟨b8, rb8, kb8, nb8⟩ := hG0.r hk List.not_mem_nil 40 (show rty 9 40 = some (16, 200) from rfl)
            refine pg_gr (b := b8) (ci := 9) (C := RX9) (T := TX9) (N := 63) hx hb hts wi9 hown hK hW hk (by decide) rfl 40 (by decide) (hts (.fieldLink RX9 82 "IceHallModel" "hourOf" "[I") (by decide +kernel)) (fun _ h9 => h9) rfl rb8 dX9_inWeek_38 ?_
            refine lv_iload hx hb dX9_inWeek_41 (lv_at hl 4 rfl) ?_
            refine pg_iald hx hb hK hW kb8 (by decide) (by rw [show sL S b8 = 200 from nb8]; exact r_in (by omega)) dX9_inWeek_43 ?_
            have g9 : (-10 : Int) ≤ (sI S b8 (Int32.toNatClampNeg y)).toInt ∧ (sI S b8 (Int32.toNatClampNeg y)).toInt ≤ 2000 := hG.iA kb8 (by decide) (by decide) (Int32.toNatClampNeg y) (by decide)
            refine lv_sipush (v := 168) hx hb dX9_inWeek_44 (by decide) ?_
            refine lv_idiv hx hb dX9_inWeek_47 (by decide) ?_
            refine lv_iload_n hx hb dX9_inWeek_48 rfl (lv_at hl 2 rfl) ?_
            refine lv_icmp_ne (tgt := 56) hx hb dX9_inWeek_49 (by decide) (fun c10 => ?_) (fun c10 => ?_)
            · have c10i : ¬ (Int32.toInt ((sI S b8 (Int32.toNatClampNeg y)) / 168) = Int32.toInt b) := fun h9 => c10 ((i3_eq _ _).mpr h9)
              refine lv_iconst (v := 0) hx hb dX9_inWeek_56 (by decide) ?_
              exact join57 0 _ _  hW hS
            · have c10i : Int32.toInt ((sI S b8 (Int32.toNatClampNeg y)) / 168) = Int32.toInt b := (i3_eq _ _).mp c10
              refine lv_iconst (v := 1) hx hb dX9_inWeek_52 (by decide) ?_
              refine lv_goto (tgt := 57) hx hb dX9_inWeek_53 (by decide) ?_
              exact join57 1 _ _  hW hS
  exact loop5 _ 0 0 _ _ ls (by decide) (Nat.lt_succ_self _) hW hS (lv_cast (lv_sub hl [2, 3, 4, 1, 0] rfl) (rfl))
set_option maxHeartbeats 4000000 in
set_option maxRecDepth 100000 in
theorem b_X9_inState (l : Launch) (D : va_G) (cy : Nat → ClassId) (A : Nat → Prop) (S : St) (h : Nat) (a b : Int32) (hG0 : G S) (hk : sK S h = 9) : MI l yX9_inState wsX9_inState ({ frames := 0, cells := 0, slots := 0, locals := 0 } : Room) 0 0 D cy A [.ref h, .int a, .int b] S (fun r S1 => S1 = S ∧ True) := by
  refine mt_start (cc := cX9_inState) (maxL := 5) (ret := (some .int)) (by decide) rfl (Nat.le_of_ble_eq_true rfl) ?_
  intro p e s m args below meth c hx hb hr hlk hml hown hnm hts hK hZ hA hW hS ls hl
  have hl : lv_has ls 5 [(0, .ref h), (1, .int a), (2, .int b)] := hl
  have hown : s.vm.findClass RX9 = some m.cls := hown
  have F : CallFix p m c cX9_inState 5 s args wsX9_inState RX9 := ⟨hx, hb, hml, hown, hts⟩
  have wi9 : ∀ w ∈ u_ws RX9 TX9 63, w ∈ wsX9_inState := by decide +kernel
  have hG := hG0
  refine lv_iconst (v := 0) hx hb dX9_inState_0 (by decide) ?_
  refine lv_istore_n (lv' := [(3, .int 0), (0, .ref h), (1, .int a), (2, .int b)]) hx hb dX9_inState_1 rfl hl (by decide) rfl (fun ls hl => ?_)
  refine lv_iconst (v := 0) hx hb dX9_inState_2 (by decide) ?_
  refine lv_istore (lv' := [(4, .int 0), (3, .int 0), (0, .ref h), (1, .int a), (2, .int b)]) hx hb dX9_inState_3 hl (by decide) rfl (fun ls hl => ?_)
  have loop5 : ∀ (zn : Nat) (y : Int32) (z : Int32) (H : Heap) (locs : List Loc) (ls : Array Slot), (0 ≤ y.toInt) → (200 - y.toInt).toNat < zn → PW D cy A S H → va_S A s.heap H locs → lv_has ls 5 [(0, .ref h), (1, .int a), (2, .int b), (3, .int z), (4, .int y)] → W p l e ({ frames := 0, cells := 0, slots := 0, locals := 0 } : Room) s m args below meth c H locs 0 0 (MQ below (va_Qi (fun r S1 => S1 = S ∧ True) (PU D cy A) A) args s 0 0 A) (F0 m 5 ls []) := by
    intro zn
    induction zn with
    | zero => intros; exact absurd (by assumption) (Nat.not_lt_zero _)
    | succ zn ih5 =>
      intro y z H locs ls hy0 hme5 hW hS hl
      refine lv_iload hx hb dX9_inState_5 (lv_at hl 4 rfl) ?_
      refine lv_aload_n hx hb dX9_inState_7 rfl (lv_at hl 0 rfl) ?_
      refine pg_gi (ci := 9) (C := RX9) (T := TX9) (N := 63) hx hb hts wi9 hown hK hW hk (by decide) rfl 35 (by decide) (hts (.fieldLink RX9 205 "IceHallModel" "sessions" "I") (by decide +kernel)) (fun _ h9 => h9) rfl dX9_inState_8 ?_
      have g1 : (0 : Int) ≤ (sI S h 35).toInt ∧ (sI S h 35).toInt ≤ 200 := hG.i hk (by decide) 35 (by decide)
      refine lv_icmp_ge (tgt := 50) hx hb dX9_inState_11 (by decide) (fun c2 => ?_) (fun c2 => ?_)
      · have c2i : Int32.toInt (sI S h 35) ≤ Int32.toInt y := (i3_le _ _).mp c2
        refine lv_iload_n hx hb dX9_inState_50 rfl (lv_at hl 3 rfl) ?_
        exact pc_iret (v := z) (S := S) hx hb hr hlk hK hZ hA hW hS (⟨rfl, trivial⟩) dX9_inState_51
      · have c2i : ¬ (Int32.toInt (sI S h 35) ≤ Int32.toInt y) := fun h9 => c2 ((i3_le _ _).mpr h9)
        refine lv_iload_n hx hb dX9_inState_14 rfl (lv_at hl 3 rfl) ?_
        have join42 : ∀ (v42 : Int32) (H : Heap) (locs : List Loc), PW D cy A S H → va_S A s.heap H locs → W p l e ({ frames := 0, cells := 0, slots := 0, locals := 0 } : Room) s m args below meth c H locs 0 0 (MQ below (va_Qi (fun r S1 => S1 = S ∧ True) (PU D cy A) A) args s 0 0 A) (F0 m 42 ls [.int v42, .int z]) := by
          intro v42 H locs hW hS
          refine lv_iadd hx hb dX9_inState_42 ?_
          refine lv_istore_n (lv' := [(3, .int (z + v42)), (0, .ref h), (1, .int a), (2, .int b), (4, .int y)]) hx hb dX9_inState_43 rfl hl (by decide) rfl (fun ls hl => ?_)
          refine lv_iinc (v := y + 1) (lv' := [(4, .int (y + 1)), (3, .int (z + v42)), (0, .ref h), (1, .int a), (2, .int b)]) hx hb dX9_inState_44 hl (k := 4) rfl rfl (by decide) rfl (fun ls hl => ?_)
          have i3 : (y + 1).toInt = (y).toInt + 1 := i3_add rfl rfl (by omega) (by omega)
          refine lv_goto (tgt := 5) hx hb dX9_inState_47 (by decide) ?_
          exact ih5 (y + 1) (z + v42) _ _ ls (by omega) (by omega) hW hS (lv_cast (lv_sub hl [2, 3, 4, 1, 0] rfl) (rfl))
        refine lv_aload_n hx hb dX9_inState_15 rfl (lv_at hl 0 rfl) ?_
        obtain ⟨b4, rb4, kb4, nb4⟩ := hG0.r hk List.not_mem_nil 37 (show rty 9 37 = some (11, 200) from rfl)
        refine pg_gr (b := b4) (ci := 9) (C := RX9) (T := TX9) (N := 63) hx hb hts wi9 hown hK hW hk (by decide) rfl 37 (by decide) (hts (.fieldLink RX9 73 "IceHallModel" "clubOf" "[I") (by decide +kernel)) (fun _ h9 => h9) rfl rb4 dX9_inState_16 ?_
        refine lv_iload hx hb dX9_inState_19 (lv_at hl 4 rfl) ?_
        refine pg_iald hx hb hK hW kb4 (by decide) (by rw [show sL S b4 = 200 from nb4]; exact r_in (by omega)) dX9_inState_21 ?_
        refine lv_iload_n hx hb dX9_inState_22 rfl (lv_at hl 1 rfl) ?_
        refine lv_icmp_ne (tgt := 41) hx hb dX9_inState_23 (by decide) (fun c5 => ?_) (fun c5 => ?_)
        · have c5i : ¬ (Int32.toInt (sI S b4 (Int32.toNatClampNeg y)) = Int32.toInt a) := fun h9 => c5 ((i3_eq _ _).mpr h9)
          refine lv_iconst (v := 0) hx hb dX9_inState_41 (by decide) ?_
          exact join42 0 _ _  hW hS
        · have c5i : Int32.toInt (sI S b4 (Int32.toNatClampNeg y)) = Int32.toInt a := (i3_eq _ _).mp c5
          refine lv_aload_n hx hb dX9_inState_26 rfl (lv_at hl 0 rfl) ?_
          obtain ⟨b6, rb6, kb6, nb6⟩ := hG0.r hk List.not_mem_nil 41 (show rty 9 41 = some (11, 200) from rfl)
          refine pg_gr (b := b6) (ci := 9) (C := RX9) (T := TX9) (N := 63) hx hb hts wi9 hown hK hW hk (by decide) rfl 41 (by decide) (hts (.fieldLink RX9 85 "IceHallModel" "state" "[I") (by decide +kernel)) (fun _ h9 => h9) rfl rb6 dX9_inState_27 ?_
          refine lv_iload hx hb dX9_inState_30 (lv_at hl 4 rfl) ?_
          refine pg_iald hx hb hK hW kb6 (by decide) (by rw [show sL S b6 = 200 from nb6]; exact r_in (by omega)) dX9_inState_32 ?_
          refine lv_iload_n hx hb dX9_inState_33 rfl (lv_at hl 2 rfl) ?_
          refine lv_icmp_ne (tgt := 41) hx hb dX9_inState_34 (by decide) (fun c7 => ?_) (fun c7 => ?_)
          · have c7i : ¬ (Int32.toInt (sI S b6 (Int32.toNatClampNeg y)) = Int32.toInt b) := fun h9 => c7 ((i3_eq _ _).mpr h9)
            refine lv_iconst (v := 0) hx hb dX9_inState_41 (by decide) ?_
            exact join42 0 _ _  hW hS
          · have c7i : Int32.toInt (sI S b6 (Int32.toNatClampNeg y)) = Int32.toInt b := (i3_eq _ _).mp c7
            refine lv_iconst (v := 1) hx hb dX9_inState_37 (by decide) ?_
            refine lv_goto (tgt := 42) hx hb dX9_inState_38 (by decide) ?_
            exact join42 1 _ _  hW hS
  exact loop5 _ 0 0 _ _ ls (by decide) (Nat.lt_succ_self _) hW hS (lv_cast (lv_sub hl [2, 3, 4, 1, 0] rfl) (rfl))
set_option maxHeartbeats 4000000 in
set_option maxRecDepth 100000 in
theorem b_X9_isSession (l : Launch) (D : va_G) (cy : Nat → ClassId) (A : Nat → Prop) (S : St) (h : Nat) (a : Int32) (hG0 : G S) (hk : sK S h = 9) : MI l yX9_isSession wsX9_isSession ({ frames := 0, cells := 0, slots := 0, locals := 0 } : Room) 0 0 D cy A [.ref h, .int a] S (fun r S1 => S1 = S ∧ ((r.toInt = 1 ∧ 0 ≤ a.toInt ∧ a.toInt < 200) ∨ r.toInt = 0)) := by
  refine mt_start (cc := cX9_isSession) (maxL := 2) (ret := (some .boolean)) (by decide) rfl (Nat.le_of_ble_eq_true rfl) ?_
  intro p e s m args below meth c hx hb hr hlk hml hown hnm hts hK hZ hA hW hS ls hl
  have hl : lv_has ls 2 [(0, .ref h), (1, .int a)] := hl
  have hown : s.vm.findClass RX9 = some m.cls := hown
  have F : CallFix p m c cX9_isSession 2 s args wsX9_isSession RX9 := ⟨hx, hb, hml, hown, hts⟩
  have wi9 : ∀ w ∈ u_ws RX9 TX9 63, w ∈ wsX9_isSession := by decide +kernel
  have hG := hG0
  refine lv_iload_n hx hb dX9_isSession_0 rfl (lv_at hl 1 rfl) ?_
  refine lv_if_lt (tgt := 16) hx hb dX9_isSession_1 (by decide) (fun c1 => ?_) (fun c1 => ?_)
  · have c1i : Int32.toInt a < (0 : Int) := (i3_lt _ _).mp c1
    refine lv_iconst (v := 0) hx hb dX9_isSession_16 (by decide) ?_
    exact pc_zret (v := 0) (S := S) hx hb hr hlk hK hZ hA hW hS (by decide) (⟨rfl, Or.inr rfl⟩) dX9_isSession_17
  · have c1i : ¬ (Int32.toInt a < (0 : Int)) := fun h9 => c1 ((i3_lt _ _).mpr h9)
    refine lv_iload_n hx hb dX9_isSession_4 rfl (lv_at hl 1 rfl) ?_
    refine lv_aload_n hx hb dX9_isSession_5 rfl (lv_at hl 0 rfl) ?_
    refine pg_gi (ci := 9) (C := RX9) (T := TX9) (N := 63) hx hb hts wi9 hown hK hW hk (by decide) rfl 35 (by decide) (hts (.fieldLink RX9 205 "IceHallModel" "sessions" "I") (by decide +kernel)) (fun _ h9 => h9) rfl dX9_isSession_6 ?_
    have g2 : (0 : Int) ≤ (sI S h 35).toInt ∧ (sI S h 35).toInt ≤ 200 := hG.i hk (by decide) 35 (by decide)
    refine lv_icmp_ge (tgt := 16) hx hb dX9_isSession_9 (by decide) (fun c3 => ?_) (fun c3 => ?_)
    · have c3i : Int32.toInt (sI S h 35) ≤ Int32.toInt a := (i3_le _ _).mp c3
      refine lv_iconst (v := 0) hx hb dX9_isSession_16 (by decide) ?_
      exact pc_zret (v := 0) (S := S) hx hb hr hlk hK hZ hA hW hS (by decide) (⟨rfl, Or.inr rfl⟩) dX9_isSession_17
    · have c3i : ¬ (Int32.toInt (sI S h 35) ≤ Int32.toInt a) := fun h9 => c3 ((i3_le _ _).mpr h9)
      refine lv_iconst (v := 1) hx hb dX9_isSession_12 (by decide) ?_
      refine lv_goto (tgt := 17) hx hb dX9_isSession_13 (by decide) ?_
      exact pc_zret (v := 1) (S := S) hx hb hr hlk hK hZ hA hW hS (by decide) (⟨rfl, Or.inl ⟨rfl, by omega⟩⟩) dX9_isSession_17
set_option maxHeartbeats 4000000 in
set_option maxRecDepth 100000 in
theorem b_X9_cancel (l : Launch) (D : va_G) (cy : Nat → ClassId) (A : Nat → Prop) (S : St) (h : Nat) (a : Int32) (hG0 : G S) (hk : sK S h = 9) : MI l yX9_cancel wsX9_cancel ({ frames := 1, cells := 0, slots := 0, locals := 21 } : Room) 0 0 D cy A [.ref h, .int a] S (fun r S1 => G S1 ∧ Fr [] [1100] S S1 ∧ True) := by
  refine mt_start (cc := cX9_cancel) (maxL := 2) (ret := (some .boolean)) (by decide) rfl (Nat.le_of_ble_eq_true rfl) ?_
  intro p e s m args below meth c hx hb hr hlk hml hown hnm hts hK hZ hA hW hS ls hl
  have hl : lv_has ls 2 [(0, .ref h), (1, .int a)] := hl
  have hown : s.vm.findClass RX9 = some m.cls := hown
  have F : CallFix p m c cX9_cancel 2 s args wsX9_cancel RX9 := ⟨hx, hb, hml, hown, hts⟩
  have wi9 : ∀ w ∈ u_ws RX9 TX9 63, w ∈ wsX9_cancel := by decide +kernel
  have hG := hG0
  have hF : Fr [] [1100] S S := Fr.rf _ _ _
  refine lv_aload_n hx hb dX9_cancel_0 rfl (lv_at hl 0 rfl) ?_
  refine lv_iload_n hx hb dX9_cancel_1 rfl (lv_at hl 1 rfl) ?_
  refine pc_Vi (As := [.int a]) (rest := []) F (b_X9_isSession l D cy A S h a hG hk) (cwV 1 hts gX9_cancel_X9_isSession rfl rfl rfl (by decide +kernel) ⟨Nat.le_of_ble_eq_true rfl, Nat.le_of_ble_eq_true rfl⟩) hK hZ hA hW hS hk (by decide) rfl rfl hl.1 rfl (Nat.le_of_ble_eq_true rfl) dX9_cancel_2 ⟨Nat.le_of_ble_eq_true rfl, Nat.le_of_ble_eq_true rfl⟩ (fun v1 T2 H locs p3 hW hS => ?_)
  obtain ⟨eT2, p3⟩ := p3
  rw [eT2] at hW
  clear eT2
  refine lv_if_eq (tgt := 17) hx hb dX9_cancel_5 (by decide) (fun c4 => ?_) (fun c4 => ?_)
  · have c4i : Int32.toInt v1 = (0 : Int) := (i3_eq _ _).mp c4
    refine lv_iconst (v := 0) hx hb dX9_cancel_17 (by decide) ?_
    exact pc_zret (v := 0) (S := S) hx hb hr hlk hK hZ hA hW hS (by decide) (⟨hG, hF, trivial⟩) dX9_cancel_18
  · have c4i : ¬ (Int32.toInt v1 = (0 : Int)) := fun h9 => c4 ((i3_eq _ _).mpr h9)
    refine lv_aload_n hx hb dX9_cancel_8 rfl (lv_at hl 0 rfl) ?_
    obtain ⟨b5, rb5, kb5, nb5⟩ := hG0.r hk List.not_mem_nil 41 (show rty 9 41 = some (11, 200) from rfl)
    refine pg_gr (b := b5) (ci := 9) (C := RX9) (T := TX9) (N := 63) hx hb hts wi9 hown hK hW hk (by decide) rfl 41 (by decide) (hts (.fieldLink RX9 85 "IceHallModel" "state" "[I") (by decide +kernel)) (fun _ h9 => h9) rfl rb5 dX9_cancel_9 ?_
    refine lv_iload_n hx hb dX9_cancel_12 rfl (lv_at hl 1 rfl) ?_
    refine pg_iald hx hb hK hW kb5 (by decide) (by rw [show sL S b5 = 200 from nb5]; exact r_in (by omega)) dX9_cancel_13 ?_
    refine lv_if_eq (tgt := 19) hx hb dX9_cancel_14 (by decide) (fun c6 => ?_) (fun c6 => ?_)
    · have c6i : Int32.toInt (sI S b5 (Int32.toNatClampNeg a)) = (0 : Int) := (i3_eq _ _).mp c6
      refine lv_aload_n hx hb dX9_cancel_19 rfl (lv_at hl 0 rfl) ?_
      refine pg_gr (b := b5) (ci := 9) (C := RX9) (T := TX9) (N := 63) hx hb hts wi9 hown hK hW hk (by decide) rfl 41 (by decide) (hts (.fieldLink RX9 85 "IceHallModel" "state" "[I") (by decide +kernel)) (fun _ h9 => h9) rfl rb5 dX9_cancel_20 ?_
      refine lv_iload_n hx hb dX9_cancel_23 rfl (lv_at hl 1 rfl) ?_
      refine lv_iconst (v := 3) hx hb dX9_cancel_24 (by decide) ?_
      refine pg_iast hx hb hK hW hS kb5 (by decide) (by rw [show sL S b5 = 200 from nb5]; exact r_in (by omega)) dX9_cancel_25 (fun H locs hW hS => ?_)
      obtain ⟨S7, eS7⟩ : ∃ T : St, T = stI S b5 (Int32.toNatClampNeg a) 3 := ⟨_, rfl⟩
      rw [← eS7] at hW
      have hG : G S7 := by rw [eS7]; exact hG.I kb5 (ok_frA (by decide) (by decide))
      have hF : Fr [] [1100] S S7 := by rw [eS7]; exact hF.IA kb5 (by decide) (by decide)
      clear eS7
      refine lv_iconst (v := 1) hx hb dX9_cancel_26 (by decide) ?_
      exact pc_zret (v := 1) (S := S7) hx hb hr hlk hK hZ hA hW hS (by decide) (⟨hG, hF, trivial⟩) dX9_cancel_27
    · have c6i : ¬ (Int32.toInt (sI S b5 (Int32.toNatClampNeg a)) = (0 : Int)) := fun h9 => c6 ((i3_eq _ _).mpr h9)
      refine lv_iconst (v := 0) hx hb dX9_cancel_17 (by decide) ?_
      exact pc_zret (v := 0) (S := S) hx hb hr hlk hK hZ hA hW hS (by decide) (⟨hG, hF, trivial⟩) dX9_cancel_18
set_option maxHeartbeats 4000000 in
set_option maxRecDepth 100000 in
theorem b_X9_owes (l : Launch) (D : va_G) (cy : Nat → ClassId) (A : Nat → Prop) (S : St) (h : Nat) (a : Int32) (hG0 : G S) (hk : sK S h = 9) (ha : 0 ≤ a.toInt) (ha2 : a.toInt < 200) : MI l yX9_owes wsX9_owes ({ frames := 0, cells := 0, slots := 0, locals := 0 } : Room) 0 0 D cy A [.ref h, .int a] S (fun r S1 => S1 = S ∧ True) := by
  refine mt_start (cc := cX9_owes) (maxL := 2) (ret := (some .int)) (by decide) rfl (Nat.le_of_ble_eq_true rfl) ?_
  intro p e s m args below meth c hx hb hr hlk hml hown hnm hts hK hZ hA hW hS ls hl
  have hl : lv_has ls 2 [(0, .ref h), (1, .int a)] := hl
  have hown : s.vm.findClass RX9 = some m.cls := hown
  have F : CallFix p m c cX9_owes 2 s args wsX9_owes RX9 := ⟨hx, hb, hml, hown, hts⟩
  have wi9 : ∀ w ∈ u_ws RX9 TX9 63, w ∈ wsX9_owes := by decide +kernel
  have hG := hG0
  refine lv_aload_n hx hb dX9_owes_0 rfl (lv_at hl 0 rfl) ?_
  obtain ⟨b1, rb1, kb1, nb1⟩ := hG0.r hk List.not_mem_nil 41 (show rty 9 41 = some (11, 200) from rfl)
  refine pg_gr (b := b1) (ci := 9) (C := RX9) (T := TX9) (N := 63) hx hb hts wi9 hown hK hW hk (by decide) rfl 41 (by decide) (hts (.fieldLink RX9 85 "IceHallModel" "state" "[I") (by decide +kernel)) (fun _ h9 => h9) rfl rb1 dX9_owes_1 ?_
  refine lv_iload_n hx hb dX9_owes_4 rfl (lv_at hl 1 rfl) ?_
  refine pg_iald hx hb hK hW kb1 (by decide) (by rw [show sL S b1 = 200 from nb1]; exact r_in (by omega)) dX9_owes_5 ?_
  refine lv_iconst (v := 1) hx hb dX9_owes_6 (by decide) ?_
  refine lv_icmp_ne (tgt := 19) hx hb dX9_owes_7 (by decide) (fun c2 => ?_) (fun c2 => ?_)
  · have c2i : ¬ (Int32.toInt (sI S b1 (Int32.toNatClampNeg a)) = (1 : Int)) := fun h9 => c2 ((i3_eq _ _).mpr h9)
    refine lv_aload_n hx hb dX9_owes_19 rfl (lv_at hl 0 rfl) ?_
    refine pg_gr (b := b1) (ci := 9) (C := RX9) (T := TX9) (N := 63) hx hb hts wi9 hown hK hW hk (by decide) rfl 41 (by decide) (hts (.fieldLink RX9 85 "IceHallModel" "state" "[I") (by decide +kernel)) (fun _ h9 => h9) rfl rb1 dX9_owes_20 ?_
    refine lv_iload_n hx hb dX9_owes_23 rfl (lv_at hl 1 rfl) ?_
    refine pg_iald hx hb hK hW kb1 (by decide) (by rw [show sL S b1 = 200 from nb1]; exact r_in (by omega)) dX9_owes_24 ?_
    refine lv_iconst (v := 3) hx hb dX9_owes_25 (by decide) ?_
    refine lv_icmp_ne (tgt := 48) hx hb dX9_owes_26 (by decide) (fun c3 => ?_) (fun c3 => ?_)
    · have c3i : ¬ (Int32.toInt (sI S b1 (Int32.toNatClampNeg a)) = (3 : Int)) := fun h9 => c3 ((i3_eq _ _).mpr h9)
      refine lv_iconst (v := 0) hx hb dX9_owes_48 (by decide) ?_
      exact pc_iret (v := 0) (S := S) hx hb hr hlk hK hZ hA hW hS (⟨rfl, trivial⟩) dX9_owes_49
    · have c3i : Int32.toInt (sI S b1 (Int32.toNatClampNeg a)) = (3 : Int) := (i3_eq _ _).mp c3
      refine lv_aload_n hx hb dX9_owes_29 rfl (lv_at hl 0 rfl) ?_
      obtain ⟨b4, rb4, kb4, nb4⟩ := hG0.r hk List.not_mem_nil 43 (show rty 9 43 = some (11, 200) from rfl)
      refine pg_gr (b := b4) (ci := 9) (C := RX9) (T := TX9) (N := 63) hx hb hts wi9 hown hK hW hk (by decide) rfl 43 (by decide) (hts (.fieldLink RX9 91 "IceHallModel" "feeOf" "[I") (by decide +kernel)) (fun _ h9 => h9) rfl rb4 dX9_owes_30 ?_
      refine lv_iload_n hx hb dX9_owes_33 rfl (lv_at hl 1 rfl) ?_
      refine pg_iald hx hb hK hW kb4 (by decide) (by rw [show sL S b4 = 200 from nb4]; exact r_in (by omega)) dX9_owes_34 ?_
      refine lv_aload_n hx hb dX9_owes_35 rfl (lv_at hl 0 rfl) ?_
      obtain ⟨b5, rb5, kb5, nb5⟩ := hG0.r hk List.not_mem_nil 44 (show rty 9 44 = some (11, 200) from rfl)
      refine pg_gr (b := b5) (ci := 9) (C := RX9) (T := TX9) (N := 63) hx hb hts wi9 hown hK hW hk (by decide) rfl 44 (by decide) (hts (.fieldLink RX9 94 "IceHallModel" "partOf" "[I") (by decide +kernel)) (fun _ h9 => h9) rfl rb5 dX9_owes_36 ?_
      refine lv_iload_n hx hb dX9_owes_39 rfl (lv_at hl 1 rfl) ?_
      refine pg_iald hx hb hK hW kb5 (by decide) (by rw [show sL S b5 = 200 from nb5]; exact r_in (by omega)) dX9_owes_40 ?_
      refine lv_imul hx hb dX9_owes_41 ?_
      refine lv_bipush (v := 100) hx hb dX9_owes_42 (by decide) ?_
      refine lv_idiv hx hb dX9_owes_44 (by decide) ?_
      refine lv_goto (tgt := 49) hx hb dX9_owes_45 (by decide) ?_
      exact pc_iret (v := ((sI S b4 (Int32.toNatClampNeg a)) * (sI S b5 (Int32.toNatClampNeg a))) / 100) (S := S) hx hb hr hlk hK hZ hA hW hS (⟨rfl, trivial⟩) dX9_owes_49
  · have c2i : Int32.toInt (sI S b1 (Int32.toNatClampNeg a)) = (1 : Int) := (i3_eq _ _).mp c2
    refine lv_aload_n hx hb dX9_owes_10 rfl (lv_at hl 0 rfl) ?_
    obtain ⟨b6, rb6, kb6, nb6⟩ := hG0.r hk List.not_mem_nil 43 (show rty 9 43 = some (11, 200) from rfl)
    refine pg_gr (b := b6) (ci := 9) (C := RX9) (T := TX9) (N := 63) hx hb hts wi9 hown hK hW hk (by decide) rfl 43 (by decide) (hts (.fieldLink RX9 91 "IceHallModel" "feeOf" "[I") (by decide +kernel)) (fun _ h9 => h9) rfl rb6 dX9_owes_11 ?_
    refine lv_iload_n hx hb dX9_owes_14 rfl (lv_at hl 1 rfl) ?_
    refine pg_iald hx hb hK hW kb6 (by decide) (by rw [show sL S b6 = 200 from nb6]; exact r_in (by omega)) dX9_owes_15 ?_
    refine lv_goto (tgt := 49) hx hb dX9_owes_16 (by decide) ?_
    exact pc_iret (v := sI S b6 (Int32.toNatClampNeg a)) (S := S) hx hb hr hlk hK hZ hA hW hS (⟨rfl, trivial⟩) dX9_owes_49
set_option maxHeartbeats 4000000 in
set_option maxRecDepth 100000 in
theorem b_X9_book (l : Launch) (D : va_G) (cy : Nat → ClassId) (A : Nat → Prop) (S : St) (h : Nat) (a b d e2 : Int32) (hG0 : G S) (hk : sK S h = 9) : MI l yX9_book wsX9_book ({ frames := 2, cells := 0, slots := 0, locals := 47 } : Room) 0 0 D cy A [.ref h, .int a, .int b, .int d, .int e2] S (fun r S1 => G S1 ∧ Fr [] [935, 1100, 1600] S S1 ∧ True) := by
  refine mt_start (cc := cX9_book) (maxL := 6) (ret := (some .int)) (by decide) rfl (Nat.le_of_ble_eq_true rfl) ?_
  intro p e s m args below meth c hx hb hr hlk hml hown hnm hts hK hZ hA hW hS ls hl
  have hl : lv_has ls 6 [(0, .ref h), (1, .int a), (2, .int b), (3, .int d), (4, .int e2)] := hl
  have hown : s.vm.findClass RX9 = some m.cls := hown
  have F : CallFix p m c cX9_book 6 s args wsX9_book RX9 := ⟨hx, hb, hml, hown, hts⟩
  have wi9 : ∀ w ∈ u_ws RX9 TX9 63, w ∈ wsX9_book := by decide +kernel
  have hG := hG0
  have hF : Fr [] [935, 1100, 1600] S S := Fr.rf _ _ _
  have g1 : (0 : Int) ≤ (sI S h 35).toInt ∧ (sI S h 35).toInt ≤ 200 := hG0.i hk (by decide) 35 (by decide)
  refine lv_iload_n hx hb dX9_book_0 rfl (lv_at hl 1 rfl) ?_
  refine pc_Si (As := [.int a]) (rest := []) F (b_X9_isClub l D cy A S a ) (va_cwS 1 hts gX9_book_X9_isClub rfl rfl rfl (by decide +kernel) ⟨Nat.le_of_ble_eq_true rfl, Nat.le_of_ble_eq_true rfl⟩) hK hZ hA hW hS rfl hl.1 rfl (Nat.le_of_ble_eq_true rfl) dX9_book_1 ⟨Nat.le_of_ble_eq_true rfl, Nat.le_of_ble_eq_true rfl⟩ (fun v2 T3 H locs p4 hW hS => ?_)
  obtain ⟨eT3, p4⟩ := p4
  rw [eT3] at hW
  clear eT3
  refine lv_if_eq (tgt := 55) hx hb dX9_book_4 (by decide) (fun c5 => ?_) (fun c5 => ?_)
  · have c5i : Int32.toInt v2 = (0 : Int) := (i3_eq _ _).mp c5
    refine lv_iconst (v := (-1)) hx hb dX9_book_55 (by decide) ?_
    exact pc_iret (v := (-1)) (S := S) hx hb hr hlk hK hZ hA hW hS (⟨hG, hF, trivial⟩) dX9_book_56
  · have c5i : ¬ (Int32.toInt v2 = (0 : Int)) := fun h9 => c5 ((i3_eq _ _).mpr h9)
    refine lv_iload_n hx hb dX9_book_7 rfl (lv_at hl 2 rfl) ?_
    refine lv_if_lt (tgt := 55) hx hb dX9_book_8 (by decide) (fun c6 => ?_) (fun c6 => ?_)
    · have c6i : Int32.toInt b < (0 : Int) := (i3_lt _ _).mp c6
      refine lv_iconst (v := (-1)) hx hb dX9_book_55 (by decide) ?_
      exact pc_iret (v := (-1)) (S := S) hx hb hr hlk hK hZ hA hW hS (⟨hG, hF, trivial⟩) dX9_book_56
    · have c6i : ¬ (Int32.toInt b < (0 : Int)) := fun h9 => c6 ((i3_lt _ _).mpr h9)
      refine lv_iload_n hx hb dX9_book_11 rfl (lv_at hl 2 rfl) ?_
      refine lv_iconst (v := 3) hx hb dX9_book_12 (by decide) ?_
      refine lv_icmp_gt (tgt := 55) hx hb dX9_book_13 (by decide) (fun c7 => ?_) (fun c7 => ?_)
      · have c7i : (3 : Int) < Int32.toInt b := (i3_lt _ _).mp c7
        refine lv_iconst (v := (-1)) hx hb dX9_book_55 (by decide) ?_
        exact pc_iret (v := (-1)) (S := S) hx hb hr hlk hK hZ hA hW hS (⟨hG, hF, trivial⟩) dX9_book_56
      · have c7i : ¬ ((3 : Int) < Int32.toInt b) := fun h9 => c7 ((i3_lt _ _).mpr h9)
        refine lv_iload_n hx hb dX9_book_16 rfl (lv_at hl 3 rfl) ?_
        refine pc_Si (As := [.int d]) (rest := []) F (b_X9_isSheet l D cy A S d ) (va_cwS 1 hts gX9_book_X9_isSheet rfl rfl rfl (by decide +kernel) ⟨Nat.le_of_ble_eq_true rfl, Nat.le_of_ble_eq_true rfl⟩) hK hZ hA hW hS rfl hl.1 rfl (Nat.le_of_ble_eq_true rfl) dX9_book_17 ⟨Nat.le_of_ble_eq_true rfl, Nat.le_of_ble_eq_true rfl⟩ (fun v8 T9 H locs p10 hW hS => ?_)
        obtain ⟨eT9, p10⟩ := p10
        rw [eT9] at hW
        clear eT9
        refine lv_if_eq (tgt := 55) hx hb dX9_book_20 (by decide) (fun c11 => ?_) (fun c11 => ?_)
        · have c11i : Int32.toInt v8 = (0 : Int) := (i3_eq _ _).mp c11
          refine lv_iconst (v := (-1)) hx hb dX9_book_55 (by decide) ?_
          exact pc_iret (v := (-1)) (S := S) hx hb hr hlk hK hZ hA hW hS (⟨hG, hF, trivial⟩) dX9_book_56
        · have c11i : ¬ (Int32.toInt v8 = (0 : Int)) := fun h9 => c11 ((i3_eq _ _).mpr h9)
          refine lv_iload hx hb dX9_book_23 (lv_at hl 4 rfl) ?_
          refine lv_aload_n hx hb dX9_book_25 rfl (lv_at hl 0 rfl) ?_
          refine pg_gi (ci := 9) (C := RX9) (T := TX9) (N := 63) hx hb hts wi9 hown hK hW hk (by decide) rfl 18 (by decide) (hts (.fieldLink RX9 219 "IceHallModel" "now" "I") (by decide +kernel)) (fun _ h9 => h9) rfl dX9_book_26 ?_
          have g12 : (0 : Int) ≤ (sI S h 18).toInt ∧ (sI S h 18).toInt ≤ 990 := hG.i hk (by decide) 18 (by decide)
          refine lv_icmp_lt (tgt := 55) hx hb dX9_book_29 (by decide) (fun c13 => ?_) (fun c13 => ?_)
          · have c13i : Int32.toInt e2 < Int32.toInt (sI S h 18) := (i3_lt _ _).mp c13
            refine lv_iconst (v := (-1)) hx hb dX9_book_55 (by decide) ?_
            exact pc_iret (v := (-1)) (S := S) hx hb hr hlk hK hZ hA hW hS (⟨hG, hF, trivial⟩) dX9_book_56
          · have c13i : ¬ (Int32.toInt e2 < Int32.toInt (sI S h 18)) := fun h9 => c13 ((i3_lt _ _).mpr h9)
            refine lv_iload hx hb dX9_book_32 (lv_at hl 4 rfl) ?_
            refine lv_aload_n hx hb dX9_book_34 rfl (lv_at hl 0 rfl) ?_
            refine pg_gi (ci := 9) (C := RX9) (T := TX9) (N := 63) hx hb hts wi9 hown hK hW hk (by decide) rfl 18 (by decide) (hts (.fieldLink RX9 219 "IceHallModel" "now" "I") (by decide +kernel)) (fun _ h9 => h9) rfl dX9_book_35 ?_
            have g14 : (0 : Int) ≤ (sI S h 18).toInt ∧ (sI S h 18).toInt ≤ 990 := hG.i hk (by decide) 18 (by decide)
            refine lv_sipush (v := 999) hx hb dX9_book_38 (by decide) ?_
            refine lv_iadd hx hb dX9_book_41 ?_
            have l15 : ((sI S h 18) + 999).toInt = Int32.toInt (sI S h 18) + (999 : Int) := i3_add rfl rfl (by omega) (by omega)
            refine lv_icmp_gt (tgt := 55) hx hb dX9_book_42 (by decide) (fun c16 => ?_) (fun c16 => ?_)
            · have c16i : Int32.toInt ((sI S h 18) + 999) < Int32.toInt e2 := (i3_lt _ _).mp c16
              refine lv_iconst (v := (-1)) hx hb dX9_book_55 (by decide) ?_
              exact pc_iret (v := (-1)) (S := S) hx hb hr hlk hK hZ hA hW hS (⟨hG, hF, trivial⟩) dX9_book_56
            · have c16i : ¬ (Int32.toInt ((sI S h 18) + 999) < Int32.toInt e2) := fun h9 => c16 ((i3_lt _ _).mpr h9)
              refine lv_aload_n hx hb dX9_book_45 rfl (lv_at hl 0 rfl) ?_
              refine pg_gi (ci := 9) (C := RX9) (T := TX9) (N := 63) hx hb hts wi9 hown hK hW hk (by decide) rfl 35 (by decide) (hts (.fieldLink RX9 205 "IceHallModel" "sessions" "I") (by decide +kernel)) (fun _ h9 => h9) rfl dX9_book_46 ?_
              rw [show sI S h 35 = sI S h 35 from rfl]
              refine lv_sipush (v := 200) hx hb dX9_book_49 (by decide) ?_
              refine lv_icmp_ne (tgt := 57) hx hb dX9_book_52 (by decide) (fun c17 => ?_) (fun c17 => ?_)
              · have c17i : ¬ (Int32.toInt (sI S h 35) = (200 : Int)) := fun h9 => c17 ((i3_eq _ _).mpr h9)
                refine lv_aload_n hx hb dX9_book_57 rfl (lv_at hl 0 rfl) ?_
                refine lv_iload_n hx hb dX9_book_58 rfl (lv_at hl 3 rfl) ?_
                refine lv_iload hx hb dX9_book_59 (lv_at hl 4 rfl) ?_
                refine pc_Vi (As := [.int d, .int e2]) (rest := []) F (b_X9_standing l D cy A S h d e2 hG hk) (cwV 2 hts gX9_book_X9_standing rfl rfl rfl (by decide +kernel) ⟨Nat.le_of_ble_eq_true rfl, Nat.le_of_ble_eq_true rfl⟩) hK hZ hA hW hS hk (by decide) rfl rfl hl.1 rfl (Nat.le_of_ble_eq_true rfl) dX9_book_61 ⟨Nat.le_of_ble_eq_true rfl, Nat.le_of_ble_eq_true rfl⟩ (fun v18 T19 H locs p20 hW hS => ?_)
                obtain ⟨eT19, p20⟩ := p20
                rw [eT19] at hW
                clear eT19
                refine lv_iconst (v := (-1)) hx hb dX9_book_64 (by decide) ?_
                refine lv_icmp_ne (tgt := 78) hx hb dX9_book_65 (by decide) (fun c21 => ?_) (fun c21 => ?_)
                · have c21i : ¬ (Int32.toInt v18 = (-1 : Int)) := fun h9 => c21 ((i3_eq _ _).mpr h9)
                  refine lv_iconst (v := (-1)) hx hb dX9_book_78 (by decide) ?_
                  exact pc_iret (v := (-1)) (S := S) hx hb hr hlk hK hZ hA hW hS (⟨hG, hF, trivial⟩) dX9_book_79
                · have c21i : Int32.toInt v18 = (-1 : Int) := (i3_eq _ _).mp c21
                  refine lv_aload_n hx hb dX9_book_68 rfl (lv_at hl 0 rfl) ?_
                  refine lv_iload_n hx hb dX9_book_69 rfl (lv_at hl 3 rfl) ?_
                  refine lv_iload hx hb dX9_book_70 (lv_at hl 4 rfl) ?_
                  refine pc_Vi (As := [.int d, .int e2]) (rest := []) F (b_X9_isClosed l D cy A S h d e2 hG hk) (cwV 2 hts gX9_book_X9_isClosed rfl rfl rfl (by decide +kernel) ⟨Nat.le_of_ble_eq_true rfl, Nat.le_of_ble_eq_true rfl⟩) hK hZ hA hW hS hk (by decide) rfl rfl hl.1 rfl (Nat.le_of_ble_eq_true rfl) dX9_book_72 ⟨Nat.le_of_ble_eq_true rfl, Nat.le_of_ble_eq_true rfl⟩ (fun v22 T23 H locs p24 hW hS => ?_)
                  obtain ⟨eT23, p24⟩ := p24
                  rw [eT23] at hW
                  clear eT23
                  refine lv_if_eq (tgt := 80) hx hb dX9_book_75 (by decide) (fun c25 => ?_) (fun c25 => ?_)
                  · have c25i : Int32.toInt v22 = (0 : Int) := (i3_eq _ _).mp c25
                    have join158 : ∀ (v158 : Int32) (H : Heap) (locs : List Loc), PW D cy A S H → va_S A s.heap H locs → W p l e ({ frames := 2, cells := 0, slots := 0, locals := 47 } : Room) s m args below meth c H locs 0 0 (MQ below (va_Qi (fun r S1 => G S1 ∧ Fr [] [935, 1100, 1600] S S1 ∧ True) (PU D cy A) A) args s 0 0 A) (F0 m 158 ls [.int v158]) := by
                      intro v158 H locs hW hS
                      refine lv_istore (lv' := [(5, .int v158), (0, .ref h), (1, .int a), (2, .int b), (3, .int d), (4, .int e2)]) hx hb dX9_book_158 hl (by decide) rfl (fun ls hl => ?_)
                      refine lv_iload hx hb dX9_book_160 (lv_at hl 0 rfl) ?_
                      refine lv_if_eq (tgt := 179) hx hb dX9_book_162 (by decide) (fun c26 => ?_) (fun c26 => ?_)
                      · have c26i : Int32.toInt v158 = (0 : Int) := (i3_eq _ _).mp c26
                        refine lv_iconst (v := (-1)) hx hb dX9_book_179 (by decide) ?_
                        exact pc_iret (v := (-1)) (S := S) hx hb hr hlk hK hZ hA hW hS (⟨hG, hF, trivial⟩) dX9_book_180
                      · have c26i : ¬ (Int32.toInt v158 = (0 : Int)) := fun h9 => c26 ((i3_eq _ _).mpr h9)
                        refine lv_aload_n hx hb dX9_book_165 rfl (lv_at hl 1 rfl) ?_
                        refine lv_iload_n hx hb dX9_book_166 rfl (lv_at hl 4 rfl) ?_
                        refine lv_iload hx hb dX9_book_167 (lv_at hl 5 rfl) ?_
                        refine pc_Vi (As := [.int d, .int e2]) (rest := []) F (b_X9_inRow l D cy A S h d e2 hG hk (by omega) (by omega)) (cwV 2 hts gX9_book_X9_inRow rfl rfl rfl (by decide +kernel) ⟨Nat.le_of_ble_eq_true rfl, Nat.le_of_ble_eq_true rfl⟩) hK hZ hA hW hS hk (by decide) rfl rfl hl.1 rfl (Nat.le_of_ble_eq_true rfl) dX9_book_169 ⟨Nat.le_of_ble_eq_true rfl, Nat.le_of_ble_eq_true rfl⟩ (fun v27 T28 H locs p29 hW hS => ?_)
                        obtain ⟨eT28, p29⟩ := p29
                        rw [eT28] at hW
                        clear eT28
                        refine lv_aload_n hx hb dX9_book_172 rfl (lv_at hl 1 rfl) ?_
                        refine pg_gi (ci := 9) (C := RX9) (T := TX9) (N := 63) hx hb hts wi9 hown hK hW hk (by decide) rfl 25 (by decide) (hts (.fieldLink RX9 42 "IceHallModel" "restOf" "I") (by decide +kernel)) (fun _ h9 => h9) rfl dX9_book_173 ?_
                        refine lv_icmp_le (tgt := 181) hx hb dX9_book_176 (by decide) (fun c30 => ?_) (fun c30 => ?_)
                        · have c30i : Int32.toInt v27 ≤ Int32.toInt (sI S h 25) := (i3_le _ _).mp c30
                          refine lv_aload_n hx hb dX9_book_181 rfl (lv_at hl 1 rfl) ?_
                          obtain ⟨b31, rb31, kb31, nb31⟩ := hG0.r hk List.not_mem_nil 37 (show rty 9 37 = some (11, 200) from rfl)
                          refine pg_gr (b := b31) (ci := 9) (C := RX9) (T := TX9) (N := 63) hx hb hts wi9 hown hK hW hk (by decide) rfl 37 (by decide) (hts (.fieldLink RX9 73 "IceHallModel" "clubOf" "[I") (by decide +kernel)) (fun _ h9 => h9) rfl rb31 dX9_book_182 ?_
                          refine lv_aload_n hx hb dX9_book_185 rfl (lv_at hl 1 rfl) ?_
                          refine pg_gi (ci := 9) (C := RX9) (T := TX9) (N := 63) hx hb hts wi9 hown hK hW hk (by decide) rfl 35 (by decide) (hts (.fieldLink RX9 205 "IceHallModel" "sessions" "I") (by decide +kernel)) (fun _ h9 => h9) rfl dX9_book_186 ?_
                          rw [show sI S h 35 = sI S h 35 from rfl]
                          refine lv_iload_n hx hb dX9_book_189 rfl (lv_at hl 2 rfl) ?_
                          refine pg_iast hx hb hK hW hS kb31 (by decide) (by rw [show sL S b31 = 200 from nb31]; exact r_in (by omega)) dX9_book_190 (fun H locs hW hS => ?_)
                          obtain ⟨S32, eS32⟩ : ∃ T : St, T = stI S b31 (Int32.toNatClampNeg (sI S h 35)) a := ⟨_, rfl⟩
                          rw [← eS32] at hW
                          have hG : G S32 := by rw [eS32]; exact hG.I kb31 (ok_frA (by decide) (by decide))
                          have w33 : sI S32 h 35 = sI S h 35 := by rw [eS32]; exact (iI_a (fk_ne hk kb31 (by decide))).trans rfl
                          have hF : Fr [] [935, 1100, 1600] S S32 := by rw [eS32]; exact hF.IA kb31 (by decide) (by decide)
                          clear eS32
                          refine lv_aload_n hx hb dX9_book_191 rfl (lv_at hl 1 rfl) ?_
                          obtain ⟨b34, rb34, kb34, nb34⟩ := hG0.r hk List.not_mem_nil 38 (show rty 9 38 = some (11, 200) from rfl)
                          refine pg_gr (b := b34) (ci := 9) (C := RX9) (T := TX9) (N := 63) hx hb hts wi9 hown hK hW (hF.k hk (by decide)) (by decide) rfl 38 (by decide) (hts (.fieldLink RX9 76 "IceHallModel" "kindOf" "[I") (by decide +kernel)) (fun _ h9 => h9) rfl (hF.r hk (by decide) rb34) dX9_book_192 ?_
                          refine lv_aload_n hx hb dX9_book_195 rfl (lv_at hl 1 rfl) ?_
                          refine pg_gi (ci := 9) (C := RX9) (T := TX9) (N := 63) hx hb hts wi9 hown hK hW (hF.k hk (by decide)) (by decide) rfl 35 (by decide) (hts (.fieldLink RX9 205 "IceHallModel" "sessions" "I") (by decide +kernel)) (fun _ h9 => h9) rfl dX9_book_196 ?_
                          rw [show sI S32 h 35 = sI S h 35 from w33]
                          refine lv_iload_n hx hb dX9_book_199 rfl (lv_at hl 3 rfl) ?_
                          refine pg_iast hx hb hK hW hS (hF.k kb34 (by decide)) (by decide) (by rw [show sL S32 b34 = 200 from (hF.n kb34 (by decide) nb34)]; exact r_in (by omega)) dX9_book_200 (fun H locs hW hS => ?_)
                          have kq35 : sK S32 b34 = 11 := (hF.k kb34 (by decide))
                          obtain ⟨S36, eS36⟩ : ∃ T : St, T = stI S32 b34 (Int32.toNatClampNeg (sI S h 35)) b := ⟨_, rfl⟩
                          rw [← eS36] at hW
                          have hG : G S36 := by rw [eS36]; exact hG.I kq35 (ok_frA (by decide) (by decide))
                          have w37 : sI S36 h 35 = sI S h 35 := by rw [eS36]; exact (iI_a (fk_ne (hF.k hk (by decide)) kq35 (by decide))).trans w33
                          have hF : Fr [] [935, 1100, 1600] S S36 := by rw [eS36]; exact hF.IA kq35 (by decide) (by decide)
                          clear eS36
                          refine lv_aload_n hx hb dX9_book_201 rfl (lv_at hl 1 rfl) ?_
                          obtain ⟨b38, rb38, kb38, nb38⟩ := hG0.r hk List.not_mem_nil 39 (show rty 9 39 = some (11, 200) from rfl)
                          refine pg_gr (b := b38) (ci := 9) (C := RX9) (T := TX9) (N := 63) hx hb hts wi9 hown hK hW (hF.k hk (by decide)) (by decide) rfl 39 (by decide) (hts (.fieldLink RX9 79 "IceHallModel" "sheetOf" "[I") (by decide +kernel)) (fun _ h9 => h9) rfl (hF.r hk (by decide) rb38) dX9_book_202 ?_
                          refine lv_aload_n hx hb dX9_book_205 rfl (lv_at hl 1 rfl) ?_
                          refine pg_gi (ci := 9) (C := RX9) (T := TX9) (N := 63) hx hb hts wi9 hown hK hW (hF.k hk (by decide)) (by decide) rfl 35 (by decide) (hts (.fieldLink RX9 205 "IceHallModel" "sessions" "I") (by decide +kernel)) (fun _ h9 => h9) rfl dX9_book_206 ?_
                          rw [show sI S36 h 35 = sI S h 35 from w37]
                          refine lv_iload_n hx hb dX9_book_209 rfl (lv_at hl 4 rfl) ?_
                          refine pg_iast hx hb hK hW hS (hF.k kb38 (by decide)) (by decide) (by rw [show sL S36 b38 = 200 from (hF.n kb38 (by decide) nb38)]; exact r_in (by omega)) dX9_book_210 (fun H locs hW hS => ?_)
                          have kq39 : sK S36 b38 = 11 := (hF.k kb38 (by decide))
                          obtain ⟨S40, eS40⟩ : ∃ T : St, T = stI S36 b38 (Int32.toNatClampNeg (sI S h 35)) d := ⟨_, rfl⟩
                          rw [← eS40] at hW
                          have hG : G S40 := by rw [eS40]; exact hG.I kq39 (ok_frA (by decide) (by decide))
                          have w41 : sI S40 h 35 = sI S h 35 := by rw [eS40]; exact (iI_a (fk_ne (hF.k hk (by decide)) kq39 (by decide))).trans w37
                          have hF : Fr [] [935, 1100, 1600] S S40 := by rw [eS40]; exact hF.IA kq39 (by decide) (by decide)
                          clear eS40
                          refine lv_aload_n hx hb dX9_book_211 rfl (lv_at hl 1 rfl) ?_
                          obtain ⟨b42, rb42, kb42, nb42⟩ := hG0.r hk List.not_mem_nil 40 (show rty 9 40 = some (16, 200) from rfl)
                          refine pg_gr (b := b42) (ci := 9) (C := RX9) (T := TX9) (N := 63) hx hb hts wi9 hown hK hW (hF.k hk (by decide)) (by decide) rfl 40 (by decide) (hts (.fieldLink RX9 82 "IceHallModel" "hourOf" "[I") (by decide +kernel)) (fun _ h9 => h9) rfl (hF.r hk (by decide) rb42) dX9_book_212 ?_
                          refine lv_aload_n hx hb dX9_book_215 rfl (lv_at hl 1 rfl) ?_
                          refine pg_gi (ci := 9) (C := RX9) (T := TX9) (N := 63) hx hb hts wi9 hown hK hW (hF.k hk (by decide)) (by decide) rfl 35 (by decide) (hts (.fieldLink RX9 205 "IceHallModel" "sessions" "I") (by decide +kernel)) (fun _ h9 => h9) rfl dX9_book_216 ?_
                          rw [show sI S40 h 35 = sI S h 35 from w41]
                          refine lv_iload hx hb dX9_book_219 (lv_at hl 5 rfl) ?_
                          refine pg_iast hx hb hK hW hS (hF.k kb42 (by decide)) (by decide) (by rw [show sL S40 b42 = 200 from (hF.n kb42 (by decide) nb42)]; exact r_in (by omega)) dX9_book_221 (fun H locs hW hS => ?_)
                          have kq43 : sK S40 b42 = 16 := (hF.k kb42 (by decide))
                          obtain ⟨S44, eS44⟩ : ∃ T : St, T = stI S40 b42 (Int32.toNatClampNeg (sI S h 35)) e2 := ⟨_, rfl⟩
                          rw [← eS44] at hW
                          have hG : G S44 := by rw [eS44]; exact hG.I kq43 (ok_inA (by decide) (-10) 2000 (by decide) (⟨by omega, by omega⟩))
                          have w45 : sI S44 h 35 = sI S h 35 := by rw [eS44]; exact (iI_a (fk_ne (hF.k hk (by decide)) kq43 (by decide))).trans w41
                          have hF : Fr [] [935, 1100, 1600] S S44 := by rw [eS44]; exact hF.IA kq43 (by decide) (by decide)
                          clear eS44
                          refine lv_aload_n hx hb dX9_book_222 rfl (lv_at hl 1 rfl) ?_
                          obtain ⟨b46, rb46, kb46, nb46⟩ := hG0.r hk List.not_mem_nil 41 (show rty 9 41 = some (11, 200) from rfl)
                          refine pg_gr (b := b46) (ci := 9) (C := RX9) (T := TX9) (N := 63) hx hb hts wi9 hown hK hW (hF.k hk (by decide)) (by decide) rfl 41 (by decide) (hts (.fieldLink RX9 85 "IceHallModel" "state" "[I") (by decide +kernel)) (fun _ h9 => h9) rfl (hF.r hk (by decide) rb46) dX9_book_223 ?_
                          refine lv_aload_n hx hb dX9_book_226 rfl (lv_at hl 1 rfl) ?_
                          refine pg_gi (ci := 9) (C := RX9) (T := TX9) (N := 63) hx hb hts wi9 hown hK hW (hF.k hk (by decide)) (by decide) rfl 35 (by decide) (hts (.fieldLink RX9 205 "IceHallModel" "sessions" "I") (by decide +kernel)) (fun _ h9 => h9) rfl dX9_book_227 ?_
                          rw [show sI S44 h 35 = sI S h 35 from w45]
                          refine lv_iconst (v := 0) hx hb dX9_book_230 (by decide) ?_
                          refine pg_iast hx hb hK hW hS (hF.k kb46 (by decide)) (by decide) (by rw [show sL S44 b46 = 200 from (hF.n kb46 (by decide) nb46)]; exact r_in (by omega)) dX9_book_231 (fun H locs hW hS => ?_)
                          have kq47 : sK S44 b46 = 11 := (hF.k kb46 (by decide))
                          obtain ⟨S48, eS48⟩ : ∃ T : St, T = stI S44 b46 (Int32.toNatClampNeg (sI S h 35)) 0 := ⟨_, rfl⟩
                          rw [← eS48] at hW
                          have hG : G S48 := by rw [eS48]; exact hG.I kq47 (ok_frA (by decide) (by decide))
                          have w49 : sI S48 h 35 = sI S h 35 := by rw [eS48]; exact (iI_a (fk_ne (hF.k hk (by decide)) kq47 (by decide))).trans w45
                          have hF : Fr [] [935, 1100, 1600] S S48 := by rw [eS48]; exact hF.IA kq47 (by decide) (by decide)
                          clear eS48
                          refine lv_aload_n hx hb dX9_book_232 rfl (lv_at hl 1 rfl) ?_
                          obtain ⟨b50, rb50, kb50, nb50⟩ := hG0.r hk List.not_mem_nil 42 (show rty 9 42 = some (11, 200) from rfl)
                          refine pg_gr (b := b50) (ci := 9) (C := RX9) (T := TX9) (N := 63) hx hb hts wi9 hown hK hW (hF.k hk (by decide)) (by decide) rfl 42 (by decide) (hts (.fieldLink RX9 88 "IceHallModel" "why" "[I") (by decide +kernel)) (fun _ h9 => h9) rfl (hF.r hk (by decide) rb50) dX9_book_233 ?_
                          refine lv_aload_n hx hb dX9_book_236 rfl (lv_at hl 1 rfl) ?_
                          refine pg_gi (ci := 9) (C := RX9) (T := TX9) (N := 63) hx hb hts wi9 hown hK hW (hF.k hk (by decide)) (by decide) rfl 35 (by decide) (hts (.fieldLink RX9 205 "IceHallModel" "sessions" "I") (by decide +kernel)) (fun _ h9 => h9) rfl dX9_book_237 ?_
                          rw [show sI S48 h 35 = sI S h 35 from w49]
                          refine lv_iconst (v := 0) hx hb dX9_book_240 (by decide) ?_
                          refine pg_iast hx hb hK hW hS (hF.k kb50 (by decide)) (by decide) (by rw [show sL S48 b50 = 200 from (hF.n kb50 (by decide) nb50)]; exact r_in (by omega)) dX9_book_241 (fun H locs hW hS => ?_)
                          have kq51 : sK S48 b50 = 11 := (hF.k kb50 (by decide))
                          obtain ⟨S52, eS52⟩ : ∃ T : St, T = stI S48 b50 (Int32.toNatClampNeg (sI S h 35)) 0 := ⟨_, rfl⟩
                          rw [← eS52] at hW
                          have hG : G S52 := by rw [eS52]; exact hG.I kq51 (ok_frA (by decide) (by decide))
                          have w53 : sI S52 h 35 = sI S h 35 := by rw [eS52]; exact (iI_a (fk_ne (hF.k hk (by decide)) kq51 (by decide))).trans w49
                          have hF : Fr [] [935, 1100, 1600] S S52 := by rw [eS52]; exact hF.IA kq51 (by decide) (by decide)
                          clear eS52
                          refine lv_aload_n hx hb dX9_book_242 rfl (lv_at hl 1 rfl) ?_
                          obtain ⟨b54, rb54, kb54, nb54⟩ := hG0.r hk List.not_mem_nil 43 (show rty 9 43 = some (11, 200) from rfl)
                          refine pg_gr (b := b54) (ci := 9) (C := RX9) (T := TX9) (N := 63) hx hb hts wi9 hown hK hW (hF.k hk (by decide)) (by decide) rfl 43 (by decide) (hts (.fieldLink RX9 91 "IceHallModel" "feeOf" "[I") (by decide +kernel)) (fun _ h9 => h9) rfl (hF.r hk (by decide) rb54) dX9_book_243 ?_
                          refine lv_aload_n hx hb dX9_book_246 rfl (lv_at hl 1 rfl) ?_
                          refine pg_gi (ci := 9) (C := RX9) (T := TX9) (N := 63) hx hb hts wi9 hown hK hW (hF.k hk (by decide)) (by decide) rfl 35 (by decide) (hts (.fieldLink RX9 205 "IceHallModel" "sessions" "I") (by decide +kernel)) (fun _ h9 => h9) rfl dX9_book_247 ?_
                          rw [show sI S52 h 35 = sI S h 35 from w53]
                          refine lv_aload_n hx hb dX9_book_250 rfl (lv_at hl 1 rfl) ?_
                          obtain ⟨b55, rb55, kb55, nb55⟩ := hG0.r hk List.not_mem_nil 9 (show rty 9 9 = some (11, 6) from rfl)
                          refine pg_gr (b := b55) (ci := 9) (C := RX9) (T := TX9) (N := 63) hx hb hts wi9 hown hK hW (hF.k hk (by decide)) (by decide) rfl 9 (by decide) (hts (.fieldLink RX9 26 "IceHallModel" "fee" "[I") (by decide +kernel)) (fun _ h9 => h9) rfl (hF.r hk (by decide) rb55) dX9_book_251 ?_
                          refine lv_iload_n hx hb dX9_book_254 rfl (lv_at hl 2 rfl) ?_
                          refine pg_iald hx hb hK hW (hF.k kb55 (by decide)) (by decide) (by rw [show sL S52 b55 = 6 from (hF.n kb55 (by decide) nb55)]; exact r_in (by omega)) dX9_book_255 ?_
                          refine pg_iast hx hb hK hW hS (hF.k kb54 (by decide)) (by decide) (by rw [show sL S52 b54 = 200 from (hF.n kb54 (by decide) nb54)]; exact r_in (by omega)) dX9_book_256 (fun H locs hW hS => ?_)
                          have kq56 : sK S52 b54 = 11 := (hF.k kb54 (by decide))
                          obtain ⟨S57, eS57⟩ : ∃ T : St, T = stI S52 b54 (Int32.toNatClampNeg (sI S h 35)) (sI S52 b55 (Int32.toNatClampNeg a)) := ⟨_, rfl⟩
                          rw [← eS57] at hW
                          have hG : G S57 := by rw [eS57]; exact hG.I kq56 (ok_frA (by decide) (by decide))
                          have w58 : sI S57 h 35 = sI S h 35 := by rw [eS57]; exact (iI_a (fk_ne (hF.k hk (by decide)) kq56 (by decide))).trans w53
                          have hF : Fr [] [935, 1100, 1600] S S57 := by rw [eS57]; exact hF.IA kq56 (by decide) (by decide)
                          clear eS57
                          refine lv_aload_n hx hb dX9_book_257 rfl (lv_at hl 1 rfl) ?_
                          obtain ⟨b59, rb59, kb59, nb59⟩ := hG0.r hk List.not_mem_nil 44 (show rty 9 44 = some (11, 200) from rfl)
                          refine pg_gr (b := b59) (ci := 9) (C := RX9) (T := TX9) (N := 63) hx hb hts wi9 hown hK hW (hF.k hk (by decide)) (by decide) rfl 44 (by decide) (hts (.fieldLink RX9 94 "IceHallModel" "partOf" "[I") (by decide +kernel)) (fun _ h9 => h9) rfl (hF.r hk (by decide) rb59) dX9_book_258 ?_
                          refine lv_aload_n hx hb dX9_book_261 rfl (lv_at hl 1 rfl) ?_
                          refine pg_gi (ci := 9) (C := RX9) (T := TX9) (N := 63) hx hb hts wi9 hown hK hW (hF.k hk (by decide)) (by decide) rfl 35 (by decide) (hts (.fieldLink RX9 205 "IceHallModel" "sessions" "I") (by decide +kernel)) (fun _ h9 => h9) rfl dX9_book_262 ?_
                          rw [show sI S57 h 35 = sI S h 35 from w58]
                          refine lv_aload_n hx hb dX9_book_265 rfl (lv_at hl 1 rfl) ?_
                          obtain ⟨b60, rb60, kb60, nb60⟩ := hG0.r hk List.not_mem_nil 10 (show rty 9 10 = some (11, 6) from rfl)
                          refine pg_gr (b := b60) (ci := 9) (C := RX9) (T := TX9) (N := 63) hx hb hts wi9 hown hK hW (hF.k hk (by decide)) (by decide) rfl 10 (by decide) (hts (.fieldLink RX9 29 "IceHallModel" "hundredths" "[I") (by decide +kernel)) (fun _ h9 => h9) rfl (hF.r hk (by decide) rb60) dX9_book_266 ?_
                          refine lv_iload_n hx hb dX9_book_269 rfl (lv_at hl 2 rfl) ?_
                          refine pg_iald hx hb hK hW (hF.k kb60 (by decide)) (by decide) (by rw [show sL S57 b60 = 6 from (hF.n kb60 (by decide) nb60)]; exact r_in (by omega)) dX9_book_270 ?_
                          refine pg_iast hx hb hK hW hS (hF.k kb59 (by decide)) (by decide) (by rw [show sL S57 b59 = 200 from (hF.n kb59 (by decide) nb59)]; exact r_in (by omega)) dX9_book_271 (fun H locs hW hS => ?_)
                          have kq61 : sK S57 b59 = 11 := (hF.k kb59 (by decide))
                          obtain ⟨S62, eS62⟩ : ∃ T : St, T = stI S57 b59 (Int32.toNatClampNeg (sI S h 35)) (sI S57 b60 (Int32.toNatClampNeg a)) := ⟨_, rfl⟩
                          rw [← eS62] at hW
                          have hG : G S62 := by rw [eS62]; exact hG.I kq61 (ok_frA (by decide) (by decide))
                          have w63 : sI S62 h 35 = sI S h 35 := by rw [eS62]; exact (iI_a (fk_ne (hF.k hk (by decide)) kq61 (by decide))).trans w58
                          have hF : Fr [] [935, 1100, 1600] S S62 := by rw [eS62]; exact hF.IA kq61 (by decide) (by decide)
                          clear eS62
                          refine lv_aload_n hx hb dX9_book_272 rfl (lv_at hl 1 rfl) ?_
                          obtain ⟨b64, rb64, kb64, nb64⟩ := hG0.r hk List.not_mem_nil 45 (show rty 9 45 = some (11, 200) from rfl)
                          refine pg_gr (b := b64) (ci := 9) (C := RX9) (T := TX9) (N := 63) hx hb hts wi9 hown hK hW (hF.k hk (by decide)) (by decide) rfl 45 (by decide) (hts (.fieldLink RX9 97 "IceHallModel" "moved" "[I") (by decide +kernel)) (fun _ h9 => h9) rfl (hF.r hk (by decide) rb64) dX9_book_273 ?_
                          refine lv_aload_n hx hb dX9_book_276 rfl (lv_at hl 1 rfl) ?_
                          refine pg_gi (ci := 9) (C := RX9) (T := TX9) (N := 63) hx hb hts wi9 hown hK hW (hF.k hk (by decide)) (by decide) rfl 35 (by decide) (hts (.fieldLink RX9 205 "IceHallModel" "sessions" "I") (by decide +kernel)) (fun _ h9 => h9) rfl dX9_book_277 ?_
                          rw [show sI S62 h 35 = sI S h 35 from w63]
                          refine lv_iconst (v := 0) hx hb dX9_book_280 (by decide) ?_
                          refine pg_iast hx hb hK hW hS (hF.k kb64 (by decide)) (by decide) (by rw [show sL S62 b64 = 200 from (hF.n kb64 (by decide) nb64)]; exact r_in (by omega)) dX9_book_281 (fun H locs hW hS => ?_)
                          have kq65 : sK S62 b64 = 11 := (hF.k kb64 (by decide))
                          obtain ⟨S66, eS66⟩ : ∃ T : St, T = stI S62 b64 (Int32.toNatClampNeg (sI S h 35)) 0 := ⟨_, rfl⟩
                          rw [← eS66] at hW
                          have hG : G S66 := by rw [eS66]; exact hG.I kq65 (ok_frA (by decide) (by decide))
                          have w67 : sI S66 h 35 = sI S h 35 := by rw [eS66]; exact (iI_a (fk_ne (hF.k hk (by decide)) kq65 (by decide))).trans w63
                          have hF : Fr [] [935, 1100, 1600] S S66 := by rw [eS66]; exact hF.IA kq65 (by decide) (by decide)
                          clear eS66
                          refine lv_aload_n hx hb dX9_book_282 rfl (lv_at hl 1 rfl) ?_
                          refine lv_aload_n hx hb dX9_book_283 rfl (lv_at hl 1 rfl) ?_
                          refine pg_gi (ci := 9) (C := RX9) (T := TX9) (N := 63) hx hb hts wi9 hown hK hW (hF.k hk (by decide)) (by decide) rfl 35 (by decide) (hts (.fieldLink RX9 205 "IceHallModel" "sessions" "I") (by decide +kernel)) (fun _ h9 => h9) rfl dX9_book_284 ?_
                          rw [show sI S66 h 35 = sI S h 35 from w67]
                          refine lv_iconst (v := 1) hx hb dX9_book_287 (by decide) ?_
                          refine lv_iadd hx hb dX9_book_288 ?_
                          have l68 : ((sI S h 35) + 1).toInt = Int32.toInt (sI S h 35) + (1 : Int) := i3_add rfl rfl (by omega) (by omega)
                          refine pg_pi (ci := 9) (C := RX9) (T := TX9) (N := 63) hx hb hts wi9 tyX9 tyX9_ok nmX9 hown hK hW hS (hF.k hk (by decide)) (by decide) rfl 35 (by decide) (hts (.fieldLink RX9 205 "IceHallModel" "sessions" "I") (by decide +kernel)) (fun _ h9 => h9) rfl rfl rfl dX9_book_289 (fun H locs hW hS => ?_)
                          have kq69 : sK S66 h = 9 := (hF.k hk (by decide))
                          obtain ⟨S70, eS70⟩ : ∃ T : St, T = stI S66 h 35 ((sI S h 35) + 1) := ⟨_, rfl⟩
                          rw [← eS70] at hW
                          have hG : G S70 := by rw [eS70]; exact hG.I kq69 (ok_in 0 200 (by decide) (⟨by omega, by omega⟩))
                          have hF : Fr [] [935, 1100, 1600] S S70 := by rw [eS70]; exact hF.I kq69 (by decide)
                          have w71 : sI S70 h 35 = (sI S h 35) + 1 := by rw [eS70]; exact iI_s
                          clear eS70
                          refine lv_aload_n hx hb dX9_book_292 rfl (lv_at hl 1 rfl) ?_
                          refine pg_gi (ci := 9) (C := RX9) (T := TX9) (N := 63) hx hb hts wi9 hown hK hW (hF.k hk (by decide)) (by decide) rfl 35 (by decide) (hts (.fieldLink RX9 205 "IceHallModel" "sessions" "I") (by decide +kernel)) (fun _ h9 => h9) rfl dX9_book_293 ?_
                          rw [show sI S70 h 35 = (sI S h 35) + 1 from w71]
                          refine lv_iconst (v := 1) hx hb dX9_book_296 (by decide) ?_
                          refine lv_isub hx hb dX9_book_297 ?_
                          exact pc_iret (v := ((sI S h 35) + 1) - 1) (S := S70) hx hb hr hlk hK hZ hA hW hS (⟨hG, hF, trivial⟩) dX9_book_298
                        · have c30i : ¬ (Int32.toInt v27 ≤ Int32.toInt (sI S h 25)) := fun h9 => c30 ((i3_le _ _).mpr h9)
                          refine lv_iconst (v := (-1)) hx hb dX9_book_179 (by decide) ?_
                          exact pc_iret (v := (-1)) (S := S) hx hb hr hlk hK hZ hA hW hS (⟨hG, hF, trivial⟩) dX9_book_180
                    refine lv_aload_n hx hb dX9_book_80 rfl (lv_at hl 0 rfl) ?_
                    obtain ⟨b72, rb72, kb72, nb72⟩ := hG0.r hk List.not_mem_nil 5 (show rty 9 5 = some (11, 6) from rfl)
                    refine pg_gr (b := b72) (ci := 9) (C := RX9) (T := TX9) (N := 63) hx hb hts wi9 hown hK hW hk (by decide) rfl 5 (by decide) (hts (.fieldLink RX9 13 "IceHallModel" "clocks" "[I") (by decide +kernel)) (fun _ h9 => h9) rfl rb72 dX9_book_81 ?_
                    refine lv_iload_n hx hb dX9_book_84 rfl (lv_at hl 1 rfl) ?_
                    refine pg_iald hx hb hK hW kb72 (by decide) (by rw [show sL S b72 = 6 from nb72]; exact r_in (by omega)) dX9_book_85 ?_
                    refine lv_iload hx hb dX9_book_86 (lv_at hl 4 rfl) ?_
                    refine lv_bipush (v := 24) hx hb dX9_book_88 (by decide) ?_
                    refine lv_irem hx hb dX9_book_90 (by decide) ?_
                    refine lv_ishr hx hb dX9_book_91 ?_
                    refine lv_iconst (v := 1) hx hb dX9_book_92 (by decide) ?_
                    refine lv_iand hx hb dX9_book_93 ?_
                    refine lv_iconst (v := 1) hx hb dX9_book_94 (by decide) ?_
                    refine lv_icmp_ne (tgt := 157) hx hb dX9_book_95 (by decide) (fun c73 => ?_) (fun c73 => ?_)
                    · have c73i : ¬ (Int32.toInt (((sI S b72 (Int32.toNatClampNeg a)) >>> ((e2 - e2 / 24 * 24) &&& 31)) &&& 1) = (1 : Int)) := fun h9 => c73 ((i3_eq _ _).mpr h9)
                      refine lv_iconst (v := 0) hx hb dX9_book_157 (by decide) ?_
                      exact join158 0 _ _  hW hS
                    · have c73i : Int32.toInt (((sI S b72 (Int32.toNatClampNeg a)) >>> ((e2 - e2 / 24 * 24) &&& 31)) &&& 1) = (1 : Int) := (i3_eq _ _).mp c73
                      refine lv_aload_n hx hb dX9_book_98 rfl (lv_at hl 0 rfl) ?_
                      obtain ⟨b74, rb74, kb74, nb74⟩ := hG0.r hk List.not_mem_nil 6 (show rty 9 6 = some (11, 6) from rfl)
                      refine pg_gr (b := b74) (ci := 9) (C := RX9) (T := TX9) (N := 63) hx hb hts wi9 hown hK hW hk (by decide) rfl 6 (by decide) (hts (.fieldLink RX9 17 "IceHallModel" "daysOf" "[I") (by decide +kernel)) (fun _ h9 => h9) rfl rb74 dX9_book_99 ?_
                      refine lv_iload_n hx hb dX9_book_102 rfl (lv_at hl 1 rfl) ?_
                      refine pg_iald hx hb hK hW kb74 (by decide) (by rw [show sL S b74 = 6 from nb74]; exact r_in (by omega)) dX9_book_103 ?_
                      refine lv_iload hx hb dX9_book_104 (lv_at hl 4 rfl) ?_
                      refine lv_bipush (v := 24) hx hb dX9_book_106 (by decide) ?_
                      refine lv_idiv hx hb dX9_book_108 (by decide) ?_
                      refine lv_bipush (v := 7) hx hb dX9_book_109 (by decide) ?_
                      refine lv_irem hx hb dX9_book_111 (by decide) ?_
                      refine lv_ishr hx hb dX9_book_112 ?_
                      refine lv_iconst (v := 1) hx hb dX9_book_113 (by decide) ?_
                      refine lv_iand hx hb dX9_book_114 ?_
                      refine lv_iconst (v := 1) hx hb dX9_book_115 (by decide) ?_
                      refine lv_icmp_ne (tgt := 157) hx hb dX9_book_116 (by decide) (fun c75 => ?_) (fun c75 => ?_)
                      · have c75i : ¬ (Int32.toInt (((sI S b74 (Int32.toNatClampNeg a)) >>> (((e2 / 24) - (e2 / 24) / 7 * 7) &&& 31)) &&& 1) = (1 : Int)) := fun h9 => c75 ((i3_eq _ _).mpr h9)
                        refine lv_iconst (v := 0) hx hb dX9_book_157 (by decide) ?_
                        exact join158 0 _ _  hW hS
                      · have c75i : Int32.toInt (((sI S b74 (Int32.toNatClampNeg a)) >>> (((e2 / 24) - (e2 / 24) / 7 * 7) &&& 31)) &&& 1) = (1 : Int) := (i3_eq _ _).mp c75
                        refine lv_aload_n hx hb dX9_book_119 rfl (lv_at hl 0 rfl) ?_
                        obtain ⟨b76, rb76, kb76, nb76⟩ := hG0.r hk List.not_mem_nil 7 (show rty 9 7 = some (11, 6) from rfl)
                        refine pg_gr (b := b76) (ci := 9) (C := RX9) (T := TX9) (N := 63) hx hb hts wi9 hown hK hW hk (by decide) rfl 7 (by decide) (hts (.fieldLink RX9 20 "IceHallModel" "kinds" "[I") (by decide +kernel)) (fun _ h9 => h9) rfl rb76 dX9_book_120 ?_
                        refine lv_iload_n hx hb dX9_book_123 rfl (lv_at hl 1 rfl) ?_
                        refine pg_iald hx hb hK hW kb76 (by decide) (by rw [show sL S b76 = 6 from nb76]; exact r_in (by omega)) dX9_book_124 ?_
                        refine lv_iload_n hx hb dX9_book_125 rfl (lv_at hl 2 rfl) ?_
                        refine lv_ishr hx hb dX9_book_126 ?_
                        refine lv_iconst (v := 1) hx hb dX9_book_127 (by decide) ?_
                        refine lv_iand hx hb dX9_book_128 ?_
                        refine lv_iconst (v := 1) hx hb dX9_book_129 (by decide) ?_
                        refine lv_icmp_ne (tgt := 157) hx hb dX9_book_130 (by decide) (fun c77 => ?_) (fun c77 => ?_)
                        · have c77i : ¬ (Int32.toInt (((sI S b76 (Int32.toNatClampNeg a)) >>> (b &&& 31)) &&& 1) = (1 : Int)) := fun h9 => c77 ((i3_eq _ _).mpr h9)
                          refine lv_iconst (v := 0) hx hb dX9_book_157 (by decide) ?_
                          exact join158 0 _ _  hW hS
                        · have c77i : Int32.toInt (((sI S b76 (Int32.toNatClampNeg a)) >>> (b &&& 31)) &&& 1) = (1 : Int) := (i3_eq _ _).mp c77
                          refine lv_aload_n hx hb dX9_book_133 rfl (lv_at hl 0 rfl) ?_
                          refine lv_iload_n hx hb dX9_book_134 rfl (lv_at hl 1 rfl) ?_
                          refine lv_iload hx hb dX9_book_135 (lv_at hl 4 rfl) ?_
                          refine lv_sipush (v := 168) hx hb dX9_book_137 (by decide) ?_
                          refine lv_idiv hx hb dX9_book_140 (by decide) ?_
                          refine pc_Vi (As := [.int a, .int (e2 / 168)]) (rest := []) F (b_X9_inWeek l D cy A S h a (e2 / 168) hG hk) (cwV 2 hts gX9_book_X9_inWeek rfl rfl rfl (by decide +kernel) ⟨Nat.le_of_ble_eq_true rfl, Nat.le_of_ble_eq_true rfl⟩) hK hZ hA hW hS hk (by decide) rfl rfl hl.1 rfl (Nat.le_of_ble_eq_true rfl) dX9_book_141 ⟨Nat.le_of_ble_eq_true rfl, Nat.le_of_ble_eq_true rfl⟩ (fun v78 T79 H locs p80 hW hS => ?_)
                          obtain ⟨eT79, p80⟩ := p80
                          rw [eT79] at hW
                          clear eT79
                          refine lv_aload_n hx hb dX9_book_144 rfl (lv_at hl 0 rfl) ?_
                          obtain ⟨b81, rb81, kb81, nb81⟩ := hG0.r hk List.not_mem_nil 8 (show rty 9 8 = some (11, 6) from rfl)
                          refine pg_gr (b := b81) (ci := 9) (C := RX9) (T := TX9) (N := 63) hx hb hts wi9 hown hK hW hk (by decide) rfl 8 (by decide) (hts (.fieldLink RX9 23 "IceHallModel" "limit" "[I") (by decide +kernel)) (fun _ h9 => h9) rfl rb81 dX9_book_145 ?_
                          refine lv_iload_n hx hb dX9_book_148 rfl (lv_at hl 1 rfl) ?_
                          refine pg_iald hx hb hK hW kb81 (by decide) (by rw [show sL S b81 = 6 from nb81]; exact r_in (by omega)) dX9_book_149 ?_
                          refine lv_icmp_ge (tgt := 157) hx hb dX9_book_150 (by decide) (fun c82 => ?_) (fun c82 => ?_)
                          · have c82i : Int32.toInt (sI S b81 (Int32.toNatClampNeg a)) ≤ Int32.toInt v78 := (i3_le _ _).mp c82
                            refine lv_iconst (v := 0) hx hb dX9_book_157 (by decide) ?_
                            exact join158 0 _ _  hW hS
                          · have c82i : ¬ (Int32.toInt (sI S b81 (Int32.toNatClampNeg a)) ≤ Int32.toInt v78) := fun h9 => c82 ((i3_le _ _).mpr h9)
                            refine lv_iconst (v := 1) hx hb dX9_book_153 (by decide) ?_
                            refine lv_goto (tgt := 158) hx hb dX9_book_154 (by decide) ?_
                            exact join158 1 _ _  hW hS
                  · have c25i : ¬ (Int32.toInt v22 = (0 : Int)) := fun h9 => c25 ((i3_eq _ _).mpr h9)
                    refine lv_iconst (v := (-1)) hx hb dX9_book_78 (by decide) ?_
                    exact pc_iret (v := (-1)) (S := S) hx hb hr hlk hK hZ hA hW hS (⟨hG, hF, trivial⟩) dX9_book_79
              · have c17i : Int32.toInt (sI S h 35) = (200 : Int) := (i3_eq _ _).mp c17
                refine lv_iconst (v := (-1)) hx hb dX9_book_55 (by decide) ?_
                exact pc_iret (v := (-1)) (S := S) hx hb hr hlk hK hZ hA hW hS (⟨hG, hF, trivial⟩) dX9_book_56
