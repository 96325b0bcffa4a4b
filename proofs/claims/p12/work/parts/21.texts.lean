set_option maxHeartbeats 4000000 in
set_option maxRecDepth 100000 in
theorem b_X5_peek (l : Launch) (D : va_G) (cy : Nat → ClassId) (A : Nat → Prop) (S : St) (h : Nat) (hG0 : G S) (hk : sK S h = 5) : MI l yX5_peek wsX5_peek ({ frames := 0, cells := 0, slots := 0, locals := 0 } : Room) 0 0 D cy A [.ref h] S (fun r S1 => S1 = S ∧ True) := by
  refine mt_start (cc := cX5_peek) (maxL := 1) (ret := (some .int)) (by decide) rfl (Nat.le_of_ble_eq_true rfl) ?_
  intro p e s m args below meth c hx hb hr hlk hml hown hnm hts hK hZ hA hW hS ls hl
  have hl : lv_has ls 1 [(0, .ref h)] := hl
  have hown : s.vm.findClass RX5 = some m.cls := hown
  have F : CallFix p m c cX5_peek 1 s args wsX5_peek RX5 := ⟨hx, hb, hml, hown, hts⟩
  have wi5 : ∀ w ∈ u_ws RX5 TX5 4, w ∈ wsX5_peek := by decide +kernel
  have wi7 : ∀ w ∈ u_ws RX7 TX7 2, w ∈ wsX5_peek := by decide +kernel
  have hG := hG0
  refine lv_aload_n hx hb dX5_peek_0 rfl (lv_at hl 0 rfl) ?_
  refine pg_gi (ci := 5) (C := RX5) (T := TX5) (N := 4) hx hb hts wi5 hown hK hW hk (by decide) rfl 2 (by decide) (hts (.fieldLink RX5 19 "IceHall$RightsReader" "place" "I") (by decide +kernel)) (fun _ h9 => h9) rfl dX5_peek_1 ?_
  refine lv_if_lt (tgt := 46) hx hb dX5_peek_4 (by decide) (fun c1 => ?_) (fun c1 => ?_)
  · have c1i : Int32.toInt (sI S h 2) < (0 : Int) := (i3_lt _ _).mp c1
    refine lv_iconst (v := (-1)) hx hb dX5_peek_46 (by decide) ?_
    exact pc_iret (v := (-1)) (S := S) hx hb hr hlk hK hZ hA hW hS (⟨rfl, trivial⟩) dX5_peek_47
  · have c1i : ¬ (Int32.toInt (sI S h 2) < (0 : Int)) := fun h9 => c1 ((i3_lt _ _).mpr h9)
    refine lv_aload_n hx hb dX5_peek_7 rfl (lv_at hl 0 rfl) ?_
    refine pg_gi (ci := 5) (C := RX5) (T := TX5) (N := 4) hx hb hts wi5 hown hK hW hk (by decide) rfl 2 (by decide) (hts (.fieldLink RX5 19 "IceHall$RightsReader" "place" "I") (by decide +kernel)) (fun _ h9 => h9) rfl dX5_peek_8 ?_
    refine lv_aload_n hx hb dX5_peek_11 rfl (lv_at hl 0 rfl) ?_
    refine pg_gi (ci := 5) (C := RX5) (T := TX5) (N := 4) hx hb hts wi5 hown hK hW hk (by decide) rfl 1 (by decide) (hts (.fieldLink RX5 15 "IceHall$RightsReader" "end" "I") (by decide +kernel)) (fun _ h9 => h9) rfl dX5_peek_12 ?_
    refine lv_icmp_ge (tgt := 46) hx hb dX5_peek_15 (by decide) (fun c2 => ?_) (fun c2 => ?_)
    · have c2i : Int32.toInt (sI S h 1) ≤ Int32.toInt (sI S h 2) := (i3_le _ _).mp c2
      refine lv_iconst (v := (-1)) hx hb dX5_peek_46 (by decide) ?_
      exact pc_iret (v := (-1)) (S := S) hx hb hr hlk hK hZ hA hW hS (⟨rfl, trivial⟩) dX5_peek_47
    · have c2i : ¬ (Int32.toInt (sI S h 1) ≤ Int32.toInt (sI S h 2)) := fun h9 => c2 ((i3_le _ _).mpr h9)
      refine lv_aload_n hx hb dX5_peek_18 rfl (lv_at hl 0 rfl) ?_
      refine pg_gi (ci := 5) (C := RX5) (T := TX5) (N := 4) hx hb hts wi5 hown hK hW hk (by decide) rfl 2 (by decide) (hts (.fieldLink RX5 19 "IceHall$RightsReader" "place" "I") (by decide +kernel)) (fun _ h9 => h9) rfl dX5_peek_19 ?_
      refine lv_bipush (v := 80) hx hb dX5_peek_22 (by decide) ?_
      refine lv_icmp_ge (tgt := 46) hx hb dX5_peek_24 (by decide) (fun c3 => ?_) (fun c3 => ?_)
      · have c3i : (80 : Int) ≤ Int32.toInt (sI S h 2) := (i3_le _ _).mp c3
        refine lv_iconst (v := (-1)) hx hb dX5_peek_46 (by decide) ?_
        exact pc_iret (v := (-1)) (S := S) hx hb hr hlk hK hZ hA hW hS (⟨rfl, trivial⟩) dX5_peek_47
      · have c3i : ¬ ((80 : Int) ≤ Int32.toInt (sI S h 2)) := fun h9 => c3 ((i3_le _ _).mpr h9)
        refine lv_aload_n hx hb dX5_peek_27 rfl (lv_at hl 0 rfl) ?_
        obtain ⟨b4, rb4, kb4, nb4⟩ := hG0.r hk List.not_mem_nil 0 (show rty 5 0 = some (7, 0) from rfl)
        refine pg_gr (b := b4) (ci := 5) (C := RX5) (T := TX5) (N := 4) hx hb hts wi5 hown hK hW hk (by decide) rfl 0 (by decide) (hts (.fieldLink RX5 9 "IceHall$RightsReader" "tape" "LIceHall$Tape;") (by decide +kernel)) (fun _ h9 => h9) rfl rb4 dX5_peek_28 ?_
        obtain ⟨b5, rb5, kb5, nb5⟩ := hG0.r kb4 List.not_mem_nil 0 (show rty 7 0 = some (10, 80) from rfl)
        refine pg_gr (b := b5) (ci := 7) (C := RX7) (T := TX7) (N := 2) hx hb hts wi7 hown hK hW kb4 (by decide) rfl 0 (by decide) (hts (.fieldLink RX5 74 "IceHall$Tape" "bytes" "[B") (by decide +kernel)) (fun _ h9 => h9) rfl rb5 dX5_peek_31 ?_
        refine lv_aload_n hx hb dX5_peek_34 rfl (lv_at hl 0 rfl) ?_
        refine pg_gi (ci := 5) (C := RX5) (T := TX5) (N := 4) hx hb hts wi5 hown hK hW hk (by decide) rfl 2 (by decide) (hts (.fieldLink RX5 19 "IceHall$RightsReader" "place" "I") (by decide +kernel)) (fun _ h9 => h9) rfl dX5_peek_35 ?_
        refine pg_bald hx hb hK hW kb5 (by rw [show sL S b5 = 80 from nb5]; exact r_in (by omega)) dX5_peek_38 ?_
        refine lv_sipush (v := 255) hx hb dX5_peek_39 (by decide) ?_
        refine lv_iand hx hb dX5_peek_42 ?_
        refine lv_goto (tgt := 47) hx hb dX5_peek_43 (by decide) ?_
        exact pc_iret (v := (sI S b5 (Int32.toNatClampNeg (sI S h 2))) &&& 255) (S := S) hx hb hr hlk hK hZ hA hW hS (⟨rfl, trivial⟩) dX5_peek_47
set_option maxHeartbeats 4000000 in
set_option maxRecDepth 100000 in
theorem b_X5_fail (l : Launch) (D : va_G) (cy : Nat → ClassId) (A : Nat → Prop) (S : St) (h : Nat) (a b : Int32) (hG0 : G S) (hk : sK S h = 5) : MV l yX5_fail wsX5_fail ({ frames := 0, cells := 0, slots := 0, locals := 0 } : Room) 0 0 D cy A [.ref h, .int a, .int b] S (fun S1 => G S1 ∧ Fr [] [503] S S1 ∧ True) := by
  refine mt_start (cc := cX5_fail) (maxL := 3) (ret := none) (by decide) rfl (Nat.le_of_ble_eq_true rfl) ?_
  intro p e s m args below meth c hx hb hr hlk hml hown hnm hts hK hZ hA hW hS ls hl
  have hl : lv_has ls 3 [(0, .ref h), (1, .int a), (2, .int b)] := hl
  have hown : s.vm.findClass RX5 = some m.cls := hown
  have F : CallFix p m c cX5_fail 3 s args wsX5_fail RX5 := ⟨hx, hb, hml, hown, hts⟩
  have wi5 : ∀ w ∈ u_ws RX5 TX5 4, w ∈ wsX5_fail := by decide +kernel
  have hG := hG0
  have hF : Fr [] [503] S S := Fr.rf _ _ _
  refine lv_aload_n hx hb dX5_fail_0 rfl (lv_at hl 0 rfl) ?_
  refine lv_bipush (v := 100) hx hb dX5_fail_1 (by decide) ?_
  refine lv_iload_n hx hb dX5_fail_3 rfl (lv_at hl 1 rfl) ?_
  refine lv_imul hx hb dX5_fail_4 ?_
  refine lv_iload_n hx hb dX5_fail_5 rfl (lv_at hl 2 rfl) ?_
  refine lv_iadd hx hb dX5_fail_6 ?_
  refine pg_pi (ci := 5) (C := RX5) (T := TX5) (N := 4) hx hb hts wi5 tyX5 tyX5_ok nmX5 hown hK hW hS hk (by decide) rfl 3 (by decide) (hts (.fieldLink RX5 22 "IceHall$RightsReader" "fault" "I") (by decide +kernel)) (fun _ h9 => h9) rfl rfl rfl dX5_fail_7 (fun H locs hW hS => ?_)
  obtain ⟨S1, eS1⟩ : ∃ T : St, T = stI S h 3 ((100 * a) + b) := ⟨_, rfl⟩
  rw [← eS1] at hW
  have hG : G S1 := by rw [eS1]; exact hG.I hk (ok_fr (by decide))
  have hF : Fr [] [503] S S1 := by rw [eS1]; exact hF.I hk (by decide)
  clear eS1
  exact pc_vret (S := S1) hx hb hr hlk hK hZ hA hW hS (⟨hG, hF, trivial⟩) dX5_fail_10
set_option maxHeartbeats 4000000 in
set_option maxRecDepth 100000 in
theorem b_X5_isDigit (l : Launch) (D : va_G) (cy : Nat → ClassId) (A : Nat → Prop) (S : St) (h : Nat) (hG0 : G S) (hk : sK S h = 5) : MI l yX5_isDigit wsX5_isDigit ({ frames := 1, cells := 0, slots := 0, locals := 20 } : Room) 0 0 D cy A [.ref h] S (fun r S1 => S1 = S ∧ True) := by
  refine mt_start (cc := cX5_isDigit) (maxL := 2) (ret := (some .boolean)) (by decide) rfl (Nat.le_of_ble_eq_true rfl) ?_
  intro p e s m args below meth c hx hb hr hlk hml hown hnm hts hK hZ hA hW hS ls hl
  have hl : lv_has ls 2 [(0, .ref h)] := hl
  have hown : s.vm.findClass RX5 = some m.cls := hown
  have F : CallFix p m c cX5_isDigit 2 s args wsX5_isDigit RX5 := ⟨hx, hb, hml, hown, hts⟩
  have hG := hG0
  refine lv_aload_n hx hb dX5_isDigit_0 rfl (lv_at hl 0 rfl) ?_
  refine pc_Vi (As := []) (rest := []) F (b_X5_peek l D cy A S h hG hk) (cwV 0 hts gX5_isDigit_X5_peek rfl rfl rfl (by decide +kernel) ⟨Nat.le_of_ble_eq_true rfl, Nat.le_of_ble_eq_true rfl⟩) hK hZ hA hW hS hk (by decide) rfl rfl hl.1 rfl (Nat.le_of_ble_eq_true rfl) dX5_isDigit_1 ⟨Nat.le_of_ble_eq_true rfl, Nat.le_of_ble_eq_true rfl⟩ (fun v1 T2 H locs p3 hW hS => ?_)
  obtain ⟨eT2, p3⟩ := p3
  rw [eT2] at hW
  clear eT2
  refine lv_istore_n (lv' := [(1, .int v1), (0, .ref h)]) hx hb dX5_isDigit_4 rfl hl (by decide) rfl (fun ls hl => ?_)
  refine lv_iload_n hx hb dX5_isDigit_5 rfl (lv_at hl 0 rfl) ?_
  refine lv_bipush (v := 48) hx hb dX5_isDigit_6 (by decide) ?_
  refine lv_icmp_lt (tgt := 21) hx hb dX5_isDigit_8 (by decide) (fun c4 => ?_) (fun c4 => ?_)
  · have c4i : Int32.toInt v1 < (48 : Int) := (i3_lt _ _).mp c4
    refine lv_iconst (v := 0) hx hb dX5_isDigit_21 (by decide) ?_
    exact pc_zret (v := 0) (S := S) hx hb hr hlk hK hZ hA hW hS (by decide) (⟨rfl, trivial⟩) dX5_isDigit_22
  · have c4i : ¬ (Int32.toInt v1 < (48 : Int)) := fun h9 => c4 ((i3_lt _ _).mpr h9)
    refine lv_iload_n hx hb dX5_isDigit_11 rfl (lv_at hl 0 rfl) ?_
    refine lv_bipush (v := 57) hx hb dX5_isDigit_12 (by decide) ?_
    refine lv_icmp_gt (tgt := 21) hx hb dX5_isDigit_14 (by decide) (fun c5 => ?_) (fun c5 => ?_)
    · have c5i : (57 : Int) < Int32.toInt v1 := (i3_lt _ _).mp c5
      refine lv_iconst (v := 0) hx hb dX5_isDigit_21 (by decide) ?_
      exact pc_zret (v := 0) (S := S) hx hb hr hlk hK hZ hA hW hS (by decide) (⟨rfl, trivial⟩) dX5_isDigit_22
    · have c5i : ¬ ((57 : Int) < Int32.toInt v1) := fun h9 => c5 ((i3_lt _ _).mpr h9)
      refine lv_iconst (v := 1) hx hb dX5_isDigit_17 (by decide) ?_
      refine lv_goto (tgt := 22) hx hb dX5_isDigit_18 (by decide) ?_
      exact pc_zret (v := 1) (S := S) hx hb hr hlk hK hZ hA hW hS (by decide) (⟨rfl, trivial⟩) dX5_isDigit_22
set_option maxHeartbeats 4000000 in
set_option maxRecDepth 100000 in
theorem b_X5_readDigits (l : Launch) (D : va_G) (cy : Nat → ClassId) (A : Nat → Prop) (S : St) (h : Nat) (a b : Int32) (hG0 : G S) (hk : sK S h = 5) : MI l yX5_readDigits wsX5_readDigits ({ frames := 2, cells := 0, slots := 0, locals := 41 } : Room) 0 0 D cy A [.ref h, .int a, .int b] S (fun r S1 => G S1 ∧ Fr [] [502, 503] S S1 ∧ True) := by
  refine mt_start (cc := cX5_readDigits) (maxL := 7) (ret := (some .int)) (by decide) rfl (Nat.le_of_ble_eq_true rfl) ?_
  intro p e s m args below meth c hx hb hr hlk hml hown hnm hts hK hZ hA hW hS ls hl
  have hl : lv_has ls 7 [(0, .ref h), (1, .int a), (2, .int b)] := hl
  have hown : s.vm.findClass RX5 = some m.cls := hown
  have F : CallFix p m c cX5_readDigits 7 s args wsX5_readDigits RX5 := ⟨hx, hb, hml, hown, hts⟩
  have wi5 : ∀ w ∈ u_ws RX5 TX5 4, w ∈ wsX5_readDigits := by decide +kernel
  have hG := hG0
  have hF : Fr [] [502, 503] S S := Fr.rf _ _ _
  refine lv_iconst (v := 0) hx hb dX5_readDigits_0 (by decide) ?_
  refine lv_istore_n (lv' := [(3, .int 0), (0, .ref h), (1, .int a), (2, .int b)]) hx hb dX5_readDigits_1 rfl hl (by decide) rfl (fun ls hl => ?_)
  refine lv_aload_n hx hb dX5_readDigits_2 rfl (lv_at hl 1 rfl) ?_
  refine pg_gi (ci := 5) (C := RX5) (T := TX5) (N := 4) hx hb hts wi5 hown hK hW hk (by decide) rfl 2 (by decide) (hts (.fieldLink RX5 19 "IceHall$RightsReader" "place" "I") (by decide +kernel)) (fun _ h9 => h9) rfl dX5_readDigits_3 ?_
  refine lv_istore (lv' := [(4, .int (sI S h 2)), (3, .int 0), (0, .ref h), (1, .int a), (2, .int b)]) hx hb dX5_readDigits_6 hl (by decide) rfl (fun ls hl => ?_)
  refine lv_iconst (v := 0) hx hb dX5_readDigits_8 (by decide) ?_
  refine lv_istore (lv' := [(5, .int 0), (4, .int (sI S h 2)), (3, .int 0), (0, .ref h), (1, .int a), (2, .int b)]) hx hb dX5_readDigits_9 hl (by decide) rfl (fun ls hl => ?_)
  have loop11 : ∀ (zn : Nat) (z : Int32) (y : Int32) (L11 : St) (H : Heap) (locs : List Loc) (ls : Array Slot), (G L11) → (Fr [] [502, 503] S L11) → (0 ≤ y.toInt) → (2147483647 - y.toInt).toNat < zn → PW D cy A L11 H → va_S A s.heap H locs → lv_has ls 7 [(0, .ref h), (1, .int a), (2, .int b), (3, .int z), (4, .int (sI S h 2)), (5, .int y)] → W p l e ({ frames := 2, cells := 0, slots := 0, locals := 41 } : Room) s m args below meth c H locs 0 0 (MQ below (va_Qi (fun r S1 => G S1 ∧ Fr [] [502, 503] S S1 ∧ True) (PU D cy A) A) args s 0 0 A) (F0 m 11 ls []) := by
    intro zn
    induction zn with
    | zero => intros; exact absurd (by assumption) (Nat.not_lt_zero _)
    | succ zn ih11 =>
      intro z y L11 H locs ls hG hL11 hy0 hme11 hW hS hl
      have hF := hL11
      have hb9 := i3_bd b
      refine lv_iload hx hb dX5_readDigits_11 (lv_at hl 5 rfl) ?_
      refine lv_iload_n hx hb dX5_readDigits_13 rfl (lv_at hl 2 rfl) ?_
      refine lv_icmp_ge (tgt := 73) hx hb dX5_readDigits_14 (by decide) (fun c1 => ?_) (fun c1 => ?_)
      · have c1i : Int32.toInt b ≤ Int32.toInt y := (i3_le _ _).mp c1
        refine lv_aload_n hx hb dX5_readDigits_73 rfl (lv_at hl 0 rfl) ?_
        refine pg_gi (ci := 5) (C := RX5) (T := TX5) (N := 4) hx hb hts wi5 hown hK hW (hF.k hk (by decide)) (by decide) rfl 2 (by decide) (hts (.fieldLink RX5 19 "IceHall$RightsReader" "place" "I") (by decide +kernel)) (fun _ h9 => h9) rfl dX5_readDigits_74 ?_
        refine lv_iload hx hb dX5_readDigits_77 (lv_at hl 4 rfl) ?_
        refine lv_icmp_eq (tgt := 89) hx hb dX5_readDigits_79 (by decide) (fun c2 => ?_) (fun c2 => ?_)
        · have c2i : Int32.toInt (sI L11 h 2) = Int32.toInt (sI S h 2) := (i3_eq _ _).mp c2
          refine lv_aload_n hx hb dX5_readDigits_89 rfl (lv_at hl 0 rfl) ?_
          refine lv_iconst (v := 1) hx hb dX5_readDigits_90 (by decide) ?_
          refine lv_aload_n hx hb dX5_readDigits_91 rfl (lv_at hl 0 rfl) ?_
          refine pg_gi (ci := 5) (C := RX5) (T := TX5) (N := 4) hx hb hts wi5 hown hK hW (hF.k hk (by decide)) (by decide) rfl 2 (by decide) (hts (.fieldLink RX5 19 "IceHall$RightsReader" "place" "I") (by decide +kernel)) (fun _ h9 => h9) rfl dX5_readDigits_92 ?_
          refine pc_Vv (As := [.int 1, .int (sI L11 h 2)]) (rest := []) F (b_X5_fail l D cy A L11 h 1 (sI L11 h 2) hG (hF.k hk (by decide))) (cwV 2 hts gX5_readDigits_X5_fail rfl rfl rfl (by decide +kernel) ⟨Nat.le_of_ble_eq_true rfl, Nat.le_of_ble_eq_true rfl⟩) hK hZ hA hW hS (hF.k hk (by decide)) (by decide) rfl rfl hl.1 rfl (Nat.le_of_ble_eq_true rfl) dX5_readDigits_95 ⟨Nat.le_of_ble_eq_true rfl, Nat.le_of_ble_eq_true rfl⟩ (fun T4 H locs p5 hW hS => ?_)
          obtain ⟨hG, hFc, p5⟩ := p5
          have hF : Fr [] [502, 503] S T4 := hF.tr (hFc.mono (by decide))
          refine lv_iload_n hx hb dX5_readDigits_98 rfl (lv_at hl 3 rfl) ?_
          exact pc_iret (v := z) (S := T4) hx hb hr hlk hK hZ hA hW hS (⟨hG, hF, trivial⟩) dX5_readDigits_99
        · have c2i : ¬ (Int32.toInt (sI L11 h 2) = Int32.toInt (sI S h 2)) := fun h9 => c2 ((i3_eq _ _).mpr h9)
          refine lv_aload_n hx hb dX5_readDigits_82 rfl (lv_at hl 0 rfl) ?_
          refine pc_Vi (As := []) (rest := []) F (b_X5_isDigit l D cy A L11 h hG (hF.k hk (by decide))) (cwV 0 hts gX5_readDigits_X5_isDigit rfl rfl rfl (by decide +kernel) ⟨Nat.le_of_ble_eq_true rfl, Nat.le_of_ble_eq_true rfl⟩) hK hZ hA hW hS (hF.k hk (by decide)) (by decide) rfl rfl hl.1 rfl (Nat.le_of_ble_eq_true rfl) dX5_readDigits_83 ⟨Nat.le_of_ble_eq_true rfl, Nat.le_of_ble_eq_true rfl⟩ (fun v6 T7 H locs p8 hW hS => ?_)
          obtain ⟨eT7, p8⟩ := p8
          rw [eT7] at hW
          clear eT7
          refine lv_if_eq (tgt := 98) hx hb dX5_readDigits_86 (by decide) (fun c9 => ?_) (fun c9 => ?_)
          · have c9i : Int32.toInt v6 = (0 : Int) := (i3_eq _ _).mp c9
            refine lv_iload_n hx hb dX5_readDigits_98 rfl (lv_at hl 3 rfl) ?_
            exact pc_iret (v := z) (S := L11) hx hb hr hlk hK hZ hA hW hS (⟨hG, hF, trivial⟩) dX5_readDigits_99
          · have c9i : ¬ (Int32.toInt v6 = (0 : Int)) := fun h9 => c9 ((i3_eq _ _).mpr h9)
            refine lv_aload_n hx hb dX5_readDigits_89 rfl (lv_at hl 0 rfl) ?_
            refine lv_iconst (v := 1) hx hb dX5_readDigits_90 (by decide) ?_
            refine lv_aload_n hx hb dX5_readDigits_91 rfl (lv_at hl 0 rfl) ?_
            refine pg_gi (ci := 5) (C := RX5) (T := TX5) (N := 4) hx hb hts wi5 hown hK hW (hF.k hk (by decide)) (by decide) rfl 2 (by decide) (hts (.fieldLink RX5 19 "IceHall$RightsReader" "place" "I") (by decide +kernel)) (fun _ h9 => h9) rfl dX5_readDigits_92 ?_
            refine pc_Vv (As := [.int 1, .int (sI L11 h 2)]) (rest := []) F (b_X5_fail l D cy A L11 h 1 (sI L11 h 2) hG (hF.k hk (by decide))) (cwV 2 hts gX5_readDigits_X5_fail rfl rfl rfl (by decide +kernel) ⟨Nat.le_of_ble_eq_true rfl, Nat.le_of_ble_eq_true rfl⟩) hK hZ hA hW hS (hF.k hk (by decide)) (by decide) rfl rfl hl.1 rfl (Nat.le_of_ble_eq_true rfl) dX5_readDigits_95 ⟨Nat.le_of_ble_eq_true rfl, Nat.le_of_ble_eq_true rfl⟩ (fun T11 H locs p12 hW hS => ?_)
            obtain ⟨hG, hFc, p12⟩ := p12
            have hF : Fr [] [502, 503] S T11 := hF.tr (hFc.mono (by decide))
            refine lv_iload_n hx hb dX5_readDigits_98 rfl (lv_at hl 3 rfl) ?_
            exact pc_iret (v := z) (S := T11) hx hb hr hlk hK hZ hA hW hS (⟨hG, hF, trivial⟩) dX5_readDigits_99
      · have c1i : ¬ (Int32.toInt b ≤ Int32.toInt y) := fun h9 => c1 ((i3_le _ _).mpr h9)
        refine lv_aload_n hx hb dX5_readDigits_17 rfl (lv_at hl 0 rfl) ?_
        refine pc_Vi (As := []) (rest := []) F (b_X5_isDigit l D cy A L11 h hG (hF.k hk (by decide))) (cwV 0 hts gX5_readDigits_X5_isDigit rfl rfl rfl (by decide +kernel) ⟨Nat.le_of_ble_eq_true rfl, Nat.le_of_ble_eq_true rfl⟩) hK hZ hA hW hS (hF.k hk (by decide)) (by decide) rfl rfl hl.1 rfl (Nat.le_of_ble_eq_true rfl) dX5_readDigits_18 ⟨Nat.le_of_ble_eq_true rfl, Nat.le_of_ble_eq_true rfl⟩ (fun v13 T14 H locs p15 hW hS => ?_)
        obtain ⟨eT14, p15⟩ := p15
        rw [eT14] at hW
        clear eT14
        refine lv_if_eq (tgt := 73) hx hb dX5_readDigits_21 (by decide) (fun c16 => ?_) (fun c16 => ?_)
        · have c16i : Int32.toInt v13 = (0 : Int) := (i3_eq _ _).mp c16
          refine lv_aload_n hx hb dX5_readDigits_73 rfl (lv_at hl 0 rfl) ?_
          refine pg_gi (ci := 5) (C := RX5) (T := TX5) (N := 4) hx hb hts wi5 hown hK hW (hF.k hk (by decide)) (by decide) rfl 2 (by decide) (hts (.fieldLink RX5 19 "IceHall$RightsReader" "place" "I") (by decide +kernel)) (fun _ h9 => h9) rfl dX5_readDigits_74 ?_
          refine lv_iload hx hb dX5_readDigits_77 (lv_at hl 4 rfl) ?_
          refine lv_icmp_eq (tgt := 89) hx hb dX5_readDigits_79 (by decide) (fun c17 => ?_) (fun c17 => ?_)
          · have c17i : Int32.toInt (sI L11 h 2) = Int32.toInt (sI S h 2) := (i3_eq _ _).mp c17
            refine lv_aload_n hx hb dX5_readDigits_89 rfl (lv_at hl 0 rfl) ?_
            refine lv_iconst (v := 1) hx hb dX5_readDigits_90 (by decide) ?_
            refine lv_aload_n hx hb dX5_readDigits_91 rfl (lv_at hl 0 rfl) ?_
            refine pg_gi (ci := 5) (C := RX5) (T := TX5) (N := 4) hx hb hts wi5 hown hK hW (hF.k hk (by decide)) (by decide) rfl 2 (by decide) (hts (.fieldLink RX5 19 "IceHall$RightsReader" "place" "I") (by decide +kernel)) (fun _ h9 => h9) rfl dX5_readDigits_92 ?_
            refine pc_Vv (As := [.int 1, .int (sI L11 h 2)]) (rest := []) F (b_X5_fail l D cy A L11 h 1 (sI L11 h 2) hG (hF.k hk (by decide))) (cwV 2 hts gX5_readDigits_X5_fail rfl rfl rfl (by decide +kernel) ⟨Nat.le_of_ble_eq_true rfl, Nat.le_of_ble_eq_true rfl⟩) hK hZ hA hW hS (hF.k hk (by decide)) (by decide) rfl rfl hl.1 rfl (Nat.le_of_ble_eq_true rfl) dX5_readDigits_95 ⟨Nat.le_of_ble_eq_true rfl, Nat.le_of_ble_eq_true rfl⟩ (fun T19 H locs p20 hW hS => ?_)
            obtain ⟨hG, hFc, p20⟩ := p20
            have hF : Fr [] [502, 503] S T19 := hF.tr (hFc.mono (by decide))
            refine lv_iload_n hx hb dX5_readDigits_98 rfl (lv_at hl 3 rfl) ?_
            exact pc_iret (v := z) (S := T19) hx hb hr hlk hK hZ hA hW hS (⟨hG, hF, trivial⟩) dX5_readDigits_99
          · have c17i : ¬ (Int32.toInt (sI L11 h 2) = Int32.toInt (sI S h 2)) := fun h9 => c17 ((i3_eq _ _).mpr h9)
            refine lv_aload_n hx hb dX5_readDigits_82 rfl (lv_at hl 0 rfl) ?_
            refine pc_Vi (As := []) (rest := []) F (b_X5_isDigit l D cy A L11 h hG (hF.k hk (by decide))) (cwV 0 hts gX5_readDigits_X5_isDigit rfl rfl rfl (by decide +kernel) ⟨Nat.le_of_ble_eq_true rfl, Nat.le_of_ble_eq_true rfl⟩) hK hZ hA hW hS (hF.k hk (by decide)) (by decide) rfl rfl hl.1 rfl (Nat.le_of_ble_eq_true rfl) dX5_readDigits_83 ⟨Nat.le_of_ble_eq_true rfl, Nat.le_of_ble_eq_true rfl⟩ (fun v21 T22 H locs p23 hW hS => ?_)
            obtain ⟨eT22, p23⟩ := p23
            rw [eT22] at hW
            clear eT22
            refine lv_if_eq (tgt := 98) hx hb dX5_readDigits_86 (by decide) (fun c24 => ?_) (fun c24 => ?_)
            · have c24i : Int32.toInt v21 = (0 : Int) := (i3_eq _ _).mp c24
              refine lv_iload_n hx hb dX5_readDigits_98 rfl (lv_at hl 3 rfl) ?_
              exact pc_iret (v := z) (S := L11) hx hb hr hlk hK hZ hA hW hS (⟨hG, hF, trivial⟩) dX5_readDigits_99
            · have c24i : ¬ (Int32.toInt v21 = (0 : Int)) := fun h9 => c24 ((i3_eq _ _).mpr h9)
              refine lv_aload_n hx hb dX5_readDigits_89 rfl (lv_at hl 0 rfl) ?_
              refine lv_iconst (v := 1) hx hb dX5_readDigits_90 (by decide) ?_
              refine lv_aload_n hx hb dX5_readDigits_91 rfl (lv_at hl 0 rfl) ?_
              refine pg_gi (ci := 5) (C := RX5) (T := TX5) (N := 4) hx hb hts wi5 hown hK hW (hF.k hk (by decide)) (by decide) rfl 2 (by decide) (hts (.fieldLink RX5 19 "IceHall$RightsReader" "place" "I") (by decide +kernel)) (fun _ h9 => h9) rfl dX5_readDigits_92 ?_
              refine pc_Vv (As := [.int 1, .int (sI L11 h 2)]) (rest := []) F (b_X5_fail l D cy A L11 h 1 (sI L11 h 2) hG (hF.k hk (by decide))) (cwV 2 hts gX5_readDigits_X5_fail rfl rfl rfl (by decide +kernel) ⟨Nat.le_of_ble_eq_true rfl, Nat.le_of_ble_eq_true rfl⟩) hK hZ hA hW hS (hF.k hk (by decide)) (by decide) rfl rfl hl.1 rfl (Nat.le_of_ble_eq_true rfl) dX5_readDigits_95 ⟨Nat.le_of_ble_eq_true rfl, Nat.le_of_ble_eq_true rfl⟩ (fun T26 H locs p27 hW hS => ?_)
              obtain ⟨hG, hFc, p27⟩ := p27
              have hF : Fr [] [502, 503] S T26 := hF.tr (hFc.mono (by decide))
              refine lv_iload_n hx hb dX5_readDigits_98 rfl (lv_at hl 3 rfl) ?_
              exact pc_iret (v := z) (S := T26) hx hb hr hlk hK hZ hA hW hS (⟨hG, hF, trivial⟩) dX5_readDigits_99
        · have c16i : ¬ (Int32.toInt v13 = (0 : Int)) := fun h9 => c16 ((i3_eq _ _).mpr h9)
          refine lv_aload_n hx hb dX5_readDigits_24 rfl (lv_at hl 0 rfl) ?_
          refine pc_Vi (As := []) (rest := []) F (b_X5_peek l D cy A L11 h hG (hF.k hk (by decide))) (cwV 0 hts gX5_readDigits_X5_peek rfl rfl rfl (by decide +kernel) ⟨Nat.le_of_ble_eq_true rfl, Nat.le_of_ble_eq_true rfl⟩) hK hZ hA hW hS (hF.k hk (by decide)) (by decide) rfl rfl hl.1 rfl (Nat.le_of_ble_eq_true rfl) dX5_readDigits_25 ⟨Nat.le_of_ble_eq_true rfl, Nat.le_of_ble_eq_true rfl⟩ (fun v28 T29 H locs p30 hW hS => ?_)
          obtain ⟨eT29, p30⟩ := p30
          rw [eT29] at hW
          clear eT29
          refine lv_bipush (v := 48) hx hb dX5_readDigits_28 (by decide) ?_
          refine lv_isub hx hb dX5_readDigits_30 ?_
          refine lv_istore (lv' := [(6, .int (v28 - 48)), (0, .ref h), (1, .int a), (2, .int b), (3, .int z), (4, .int (sI S h 2)), (5, .int y)]) hx hb dX5_readDigits_31 hl (by decide) rfl (fun ls hl => ?_)
          refine lv_iload hx hb dX5_readDigits_33 (lv_at hl 0 rfl) ?_
          refine lv_iload_n hx hb dX5_readDigits_35 rfl (lv_at hl 2 rfl) ?_
          refine lv_icmp_le (tgt := 50) hx hb dX5_readDigits_36 (by decide) (fun c31 => ?_) (fun c31 => ?_)
          · have c31i : Int32.toInt (v28 - 48) ≤ Int32.toInt a := (i3_le _ _).mp c31
            refine lv_iload_n hx hb dX5_readDigits_50 rfl (lv_at hl 4 rfl) ?_
            refine lv_iconst (v := 1) hx hb dX5_readDigits_51 (by decide) ?_
            refine lv_iload hx hb dX5_readDigits_52 (lv_at hl 0 rfl) ?_
            refine lv_ishl hx hb dX5_readDigits_54 ?_
            refine lv_ior hx hb dX5_readDigits_55 ?_
            refine lv_istore_n (lv' := [(3, .int (z ||| (1 <<< ((v28 - 48) &&& 31)))), (6, .int (v28 - 48)), (0, .ref h), (1, .int a), (2, .int b), (4, .int (sI S h 2)), (5, .int y)]) hx hb dX5_readDigits_56 rfl hl (by decide) rfl (fun ls hl => ?_)
            refine lv_aload_n hx hb dX5_readDigits_57 rfl (lv_at hl 2 rfl) ?_
            refine lv_dup hx hb dX5_readDigits_58 rfl ?_
            refine pg_gi (ci := 5) (C := RX5) (T := TX5) (N := 4) hx hb hts wi5 hown hK hW (hF.k hk (by decide)) (by decide) rfl 2 (by decide) (hts (.fieldLink RX5 19 "IceHall$RightsReader" "place" "I") (by decide +kernel)) (fun _ h9 => h9) rfl dX5_readDigits_59 ?_
            refine lv_iconst (v := 1) hx hb dX5_readDigits_62 (by decide) ?_
            refine lv_iadd hx hb dX5_readDigits_63 ?_
            refine pg_pi (ci := 5) (C := RX5) (T := TX5) (N := 4) hx hb hts wi5 tyX5 tyX5_ok nmX5 hown hK hW hS (hF.k hk (by decide)) (by decide) rfl 2 (by decide) (hts (.fieldLink RX5 19 "IceHall$RightsReader" "place" "I") (by decide +kernel)) (fun _ h9 => h9) rfl rfl rfl dX5_readDigits_64 (fun H locs hW hS => ?_)
            have kq32 : sK L11 h = 5 := (hF.k hk (by decide))
            obtain ⟨S33, eS33⟩ : ∃ T : St, T = stI L11 h 2 ((sI L11 h 2) + 1) := ⟨_, rfl⟩
            rw [← eS33] at hW
            have hG : G S33 := by rw [eS33]; exact hG.I kq32 (ok_fr (by decide))
            have hF : Fr [] [502, 503] S S33 := by rw [eS33]; exact hF.I kq32 (by decide)
            clear eS33
            refine lv_iinc (v := y + 1) (lv' := [(5, .int (y + 1)), (3, .int (z ||| (1 <<< ((v28 - 48) &&& 31)))), (6, .int (v28 - 48)), (0, .ref h), (1, .int a), (2, .int b), (4, .int (sI S h 2))]) hx hb dX5_readDigits_67 hl (k := 6) rfl rfl (by decide) rfl (fun ls hl => ?_)
            have i34 : (y + 1).toInt = (y).toInt + 1 := i3_add rfl rfl (by omega) (by omega)
            refine lv_goto (tgt := 11) hx hb dX5_readDigits_70 (by decide) ?_
            exact ih11 (z ||| (1 <<< ((v28 - 48) &&& 31))) (y + 1) S33 _ _ ls hG hF (by omega) (by omega) hW hS (lv_cast (lv_sub hl [3, 4, 5, 1, 6, 0] rfl) (rfl))
          · have c31i : ¬ (Int32.toInt (v28 - 48) ≤ Int32.toInt a) := fun h9 => c31 ((i3_le _ _).mpr h9)
            refine lv_aload_n hx hb dX5_readDigits_39 rfl (lv_at hl 1 rfl) ?_
            refine lv_iconst (v := 2) hx hb dX5_readDigits_40 (by decide) ?_
            refine lv_aload_n hx hb dX5_readDigits_41 rfl (lv_at hl 1 rfl) ?_
            refine pg_gi (ci := 5) (C := RX5) (T := TX5) (N := 4) hx hb hts wi5 hown hK hW (hF.k hk (by decide)) (by decide) rfl 2 (by decide) (hts (.fieldLink RX5 19 "IceHall$RightsReader" "place" "I") (by decide +kernel)) (fun _ h9 => h9) rfl dX5_readDigits_42 ?_
            refine pc_Vv (As := [.int 2, .int (sI L11 h 2)]) (rest := []) F (b_X5_fail l D cy A L11 h 2 (sI L11 h 2) hG (hF.k hk (by decide))) (cwV 2 hts gX5_readDigits_X5_fail rfl rfl rfl (by decide +kernel) ⟨Nat.le_of_ble_eq_true rfl, Nat.le_of_ble_eq_true rfl⟩) hK hZ hA hW hS (hF.k hk (by decide)) (by decide) rfl rfl hl.1 rfl (Nat.le_of_ble_eq_true rfl) dX5_readDigits_45 ⟨Nat.le_of_ble_eq_true rfl, Nat.le_of_ble_eq_true rfl⟩ (fun T36 H locs p37 hW hS => ?_)
            obtain ⟨hG, hFc, p37⟩ := p37
            have hF : Fr [] [502, 503] S T36 := hF.tr (hFc.mono (by decide))
            refine lv_iload_n hx hb dX5_readDigits_48 rfl (lv_at hl 4 rfl) ?_
            exact pc_iret (v := z) (S := T36) hx hb hr hlk hK hZ hA hW hS (⟨hG, hF, trivial⟩) dX5_readDigits_49
  exact loop11 _ 0 0 S _ _ ls hG hF (by decide) (Nat.lt_succ_self _) hW hS (lv_cast (lv_sub hl [3, 4, 5, 2, 1, 0] rfl) (rfl))
set_option maxHeartbeats 4000000 in
set_option maxRecDepth 100000 in
theorem b_X5_readNumber (l : Launch) (D : va_G) (cy : Nat → ClassId) (A : Nat → Prop) (S : St) (h : Nat) (a b : Int32) (hG0 : G S) (hk : sK S h = 5) : MI l yX5_readNumber wsX5_readNumber ({ frames := 2, cells := 0, slots := 0, locals := 41 } : Room) 0 0 D cy A [.ref h, .int a, .int b] S (fun r S1 => G S1 ∧ Fr [] [502, 503] S S1 ∧ True) := by
  refine mt_start (cc := cX5_readNumber) (maxL := 6) (ret := (some .int)) (by decide) rfl (Nat.le_of_ble_eq_true rfl) ?_
  intro p e s m args below meth c hx hb hr hlk hml hown hnm hts hK hZ hA hW hS ls hl
  have hl : lv_has ls 6 [(0, .ref h), (1, .int a), (2, .int b)] := hl
  have hown : s.vm.findClass RX5 = some m.cls := hown
  have F : CallFix p m c cX5_readNumber 6 s args wsX5_readNumber RX5 := ⟨hx, hb, hml, hown, hts⟩
  have wi5 : ∀ w ∈ u_ws RX5 TX5 4, w ∈ wsX5_readNumber := by decide +kernel
  have hG := hG0
  have hF : Fr [] [502, 503] S S := Fr.rf _ _ _
  refine lv_iconst (v := 0) hx hb dX5_readNumber_0 (by decide) ?_
  refine lv_istore_n (lv' := [(3, .int 0), (0, .ref h), (1, .int a), (2, .int b)]) hx hb dX5_readNumber_1 rfl hl (by decide) rfl (fun ls hl => ?_)
  refine lv_aload_n hx hb dX5_readNumber_2 rfl (lv_at hl 1 rfl) ?_
  refine pg_gi (ci := 5) (C := RX5) (T := TX5) (N := 4) hx hb hts wi5 hown hK hW hk (by decide) rfl 2 (by decide) (hts (.fieldLink RX5 19 "IceHall$RightsReader" "place" "I") (by decide +kernel)) (fun _ h9 => h9) rfl dX5_readNumber_3 ?_
  refine lv_istore (lv' := [(4, .int (sI S h 2)), (3, .int 0), (0, .ref h), (1, .int a), (2, .int b)]) hx hb dX5_readNumber_6 hl (by decide) rfl (fun ls hl => ?_)
  refine lv_iconst (v := 0) hx hb dX5_readNumber_8 (by decide) ?_
  refine lv_istore (lv' := [(5, .int 0), (4, .int (sI S h 2)), (3, .int 0), (0, .ref h), (1, .int a), (2, .int b)]) hx hb dX5_readNumber_9 hl (by decide) rfl (fun ls hl => ?_)
  have loop11 : ∀ (zn : Nat) (z : Int32) (y : Int32) (L11 : St) (H : Heap) (locs : List Loc) (ls : Array Slot), (G L11) → (Fr [] [502, 503] S L11) → (0 ≤ y.toInt) → (2147483647 - y.toInt).toNat < zn → PW D cy A L11 H → va_S A s.heap H locs → lv_has ls 6 [(0, .ref h), (1, .int a), (2, .int b), (3, .int z), (4, .int (sI S h 2)), (5, .int y)] → W p l e ({ frames := 2, cells := 0, slots := 0, locals := 41 } : Room) s m args below meth c H locs 0 0 (MQ below (va_Qi (fun r S1 => G S1 ∧ Fr [] [502, 503] S S1 ∧ True) (PU D cy A) A) args s 0 0 A) (F0 m 11 ls []) := by
    intro zn
    induction zn with
    | zero => intros; exact absurd (by assumption) (Nat.not_lt_zero _)
    | succ zn ih11 =>
      intro z y L11 H locs ls hG hL11 hy0 hme11 hW hS hl
      have hF := hL11
      have hb9 := i3_bd y
      refine lv_iload hx hb dX5_readNumber_11 (lv_at hl 5 rfl) ?_
      refine lv_iconst (v := 4) hx hb dX5_readNumber_13 (by decide) ?_
      refine lv_icmp_ge (tgt := 53) hx hb dX5_readNumber_14 (by decide) (fun c1 => ?_) (fun c1 => ?_)
      · have c1i : (4 : Int) ≤ Int32.toInt y := (i3_le _ _).mp c1
        refine lv_aload_n hx hb dX5_readNumber_53 rfl (lv_at hl 0 rfl) ?_
        refine pg_gi (ci := 5) (C := RX5) (T := TX5) (N := 4) hx hb hts wi5 hown hK hW (hF.k hk (by decide)) (by decide) rfl 2 (by decide) (hts (.fieldLink RX5 19 "IceHall$RightsReader" "place" "I") (by decide +kernel)) (fun _ h9 => h9) rfl dX5_readNumber_54 ?_
        refine lv_iload hx hb dX5_readNumber_57 (lv_at hl 4 rfl) ?_
        refine lv_icmp_eq (tgt := 69) hx hb dX5_readNumber_59 (by decide) (fun c2 => ?_) (fun c2 => ?_)
        · have c2i : Int32.toInt (sI L11 h 2) = Int32.toInt (sI S h 2) := (i3_eq _ _).mp c2
          refine lv_aload_n hx hb dX5_readNumber_69 rfl (lv_at hl 0 rfl) ?_
          refine lv_iconst (v := 1) hx hb dX5_readNumber_70 (by decide) ?_
          refine lv_aload_n hx hb dX5_readNumber_71 rfl (lv_at hl 0 rfl) ?_
          refine pg_gi (ci := 5) (C := RX5) (T := TX5) (N := 4) hx hb hts wi5 hown hK hW (hF.k hk (by decide)) (by decide) rfl 2 (by decide) (hts (.fieldLink RX5 19 "IceHall$RightsReader" "place" "I") (by decide +kernel)) (fun _ h9 => h9) rfl dX5_readNumber_72 ?_
          refine pc_Vv (As := [.int 1, .int (sI L11 h 2)]) (rest := []) F (b_X5_fail l D cy A L11 h 1 (sI L11 h 2) hG (hF.k hk (by decide))) (cwV 2 hts gX5_readNumber_X5_fail rfl rfl rfl (by decide +kernel) ⟨Nat.le_of_ble_eq_true rfl, Nat.le_of_ble_eq_true rfl⟩) hK hZ hA hW hS (hF.k hk (by decide)) (by decide) rfl rfl hl.1 rfl (Nat.le_of_ble_eq_true rfl) dX5_readNumber_75 ⟨Nat.le_of_ble_eq_true rfl, Nat.le_of_ble_eq_true rfl⟩ (fun T4 H locs p5 hW hS => ?_)
          obtain ⟨hG, hFc, p5⟩ := p5
          have hF : Fr [] [502, 503] S T4 := hF.tr (hFc.mono (by decide))
          refine lv_goto (tgt := 98) hx hb dX5_readNumber_78 (by decide) ?_
          refine lv_iload_n hx hb dX5_readNumber_98 rfl (lv_at hl 3 rfl) ?_
          exact pc_iret (v := z) (S := T4) hx hb hr hlk hK hZ hA hW hS (⟨hG, hF, trivial⟩) dX5_readNumber_99
        · have c2i : ¬ (Int32.toInt (sI L11 h 2) = Int32.toInt (sI S h 2)) := fun h9 => c2 ((i3_eq _ _).mpr h9)
          refine lv_aload_n hx hb dX5_readNumber_62 rfl (lv_at hl 0 rfl) ?_
          refine pc_Vi (As := []) (rest := []) F (b_X5_isDigit l D cy A L11 h hG (hF.k hk (by decide))) (cwV 0 hts gX5_readNumber_X5_isDigit rfl rfl rfl (by decide +kernel) ⟨Nat.le_of_ble_eq_true rfl, Nat.le_of_ble_eq_true rfl⟩) hK hZ hA hW hS (hF.k hk (by decide)) (by decide) rfl rfl hl.1 rfl (Nat.le_of_ble_eq_true rfl) dX5_readNumber_63 ⟨Nat.le_of_ble_eq_true rfl, Nat.le_of_ble_eq_true rfl⟩ (fun v6 T7 H locs p8 hW hS => ?_)
          obtain ⟨eT7, p8⟩ := p8
          rw [eT7] at hW
          clear eT7
          refine lv_if_eq (tgt := 81) hx hb dX5_readNumber_66 (by decide) (fun c9 => ?_) (fun c9 => ?_)
          · have c9i : Int32.toInt v6 = (0 : Int) := (i3_eq _ _).mp c9
            refine lv_iload_n hx hb dX5_readNumber_81 rfl (lv_at hl 3 rfl) ?_
            refine lv_iload_n hx hb dX5_readNumber_82 rfl (lv_at hl 1 rfl) ?_
            refine lv_icmp_lt (tgt := 91) hx hb dX5_readNumber_83 (by decide) (fun c10 => ?_) (fun c10 => ?_)
            · have c10i : Int32.toInt z < Int32.toInt a := (i3_lt _ _).mp c10
              refine lv_aload_n hx hb dX5_readNumber_91 rfl (lv_at hl 0 rfl) ?_
              refine lv_iconst (v := 2) hx hb dX5_readNumber_92 (by decide) ?_
              refine lv_iload hx hb dX5_readNumber_93 (lv_at hl 4 rfl) ?_
              refine pc_Vv (As := [.int 2, .int (sI S h 2)]) (rest := []) F (b_X5_fail l D cy A L11 h 2 (sI S h 2) hG (hF.k hk (by decide))) (cwV 2 hts gX5_readNumber_X5_fail rfl rfl rfl (by decide +kernel) ⟨Nat.le_of_ble_eq_true rfl, Nat.le_of_ble_eq_true rfl⟩) hK hZ hA hW hS (hF.k hk (by decide)) (by decide) rfl rfl hl.1 rfl (Nat.le_of_ble_eq_true rfl) dX5_readNumber_95 ⟨Nat.le_of_ble_eq_true rfl, Nat.le_of_ble_eq_true rfl⟩ (fun T12 H locs p13 hW hS => ?_)
              obtain ⟨hG, hFc, p13⟩ := p13
              have hF : Fr [] [502, 503] S T12 := hF.tr (hFc.mono (by decide))
              refine lv_iload_n hx hb dX5_readNumber_98 rfl (lv_at hl 3 rfl) ?_
              exact pc_iret (v := z) (S := T12) hx hb hr hlk hK hZ hA hW hS (⟨hG, hF, trivial⟩) dX5_readNumber_99
            · have c10i : ¬ (Int32.toInt z < Int32.toInt a) := fun h9 => c10 ((i3_lt _ _).mpr h9)
              refine lv_iload_n hx hb dX5_readNumber_86 rfl (lv_at hl 3 rfl) ?_
              refine lv_iload_n hx hb dX5_readNumber_87 rfl (lv_at hl 2 rfl) ?_
              refine lv_icmp_le (tgt := 98) hx hb dX5_readNumber_88 (by decide) (fun c14 => ?_) (fun c14 => ?_)
              · have c14i : Int32.toInt z ≤ Int32.toInt b := (i3_le _ _).mp c14
                refine lv_iload_n hx hb dX5_readNumber_98 rfl (lv_at hl 3 rfl) ?_
                exact pc_iret (v := z) (S := L11) hx hb hr hlk hK hZ hA hW hS (⟨hG, hF, trivial⟩) dX5_readNumber_99
              · have c14i : ¬ (Int32.toInt z ≤ Int32.toInt b) := fun h9 => c14 ((i3_le _ _).mpr h9)
                refine lv_aload_n hx hb dX5_readNumber_91 rfl (lv_at hl 0 rfl) ?_
                refine lv_iconst (v := 2) hx hb dX5_readNumber_92 (by decide) ?_
                refine lv_iload hx hb dX5_readNumber_93 (lv_at hl 4 rfl) ?_
                refine pc_Vv (As := [.int 2, .int (sI S h 2)]) (rest := []) F (b_X5_fail l D cy A L11 h 2 (sI S h 2) hG (hF.k hk (by decide))) (cwV 2 hts gX5_readNumber_X5_fail rfl rfl rfl (by decide +kernel) ⟨Nat.le_of_ble_eq_true rfl, Nat.le_of_ble_eq_true rfl⟩) hK hZ hA hW hS (hF.k hk (by decide)) (by decide) rfl rfl hl.1 rfl (Nat.le_of_ble_eq_true rfl) dX5_readNumber_95 ⟨Nat.le_of_ble_eq_true rfl, Nat.le_of_ble_eq_true rfl⟩ (fun T16 H locs p17 hW hS => ?_)
                obtain ⟨hG, hFc, p17⟩ := p17
                have hF : Fr [] [502, 503] S T16 := hF.tr (hFc.mono (by decide))
                refine lv_iload_n hx hb dX5_readNumber_98 rfl (lv_at hl 3 rfl) ?_
                exact pc_iret (v := z) (S := T16) hx hb hr hlk hK hZ hA hW hS (⟨hG, hF, trivial⟩) dX5_readNumber_99
          · have c9i : ¬ (Int32.toInt v6 = (0 : Int)) := fun h9 => c9 ((i3_eq _ _).mpr h9)
            refine lv_aload_n hx hb dX5_readNumber_69 rfl (lv_at hl 0 rfl) ?_
            refine lv_iconst (v := 1) hx hb dX5_readNumber_70 (by decide) ?_
            refine lv_aload_n hx hb dX5_readNumber_71 rfl (lv_at hl 0 rfl) ?_
            refine pg_gi (ci := 5) (C := RX5) (T := TX5) (N := 4) hx hb hts wi5 hown hK hW (hF.k hk (by decide)) (by decide) rfl 2 (by decide) (hts (.fieldLink RX5 19 "IceHall$RightsReader" "place" "I") (by decide +kernel)) (fun _ h9 => h9) rfl dX5_readNumber_72 ?_
            refine pc_Vv (As := [.int 1, .int (sI L11 h 2)]) (rest := []) F (b_X5_fail l D cy A L11 h 1 (sI L11 h 2) hG (hF.k hk (by decide))) (cwV 2 hts gX5_readNumber_X5_fail rfl rfl rfl (by decide +kernel) ⟨Nat.le_of_ble_eq_true rfl, Nat.le_of_ble_eq_true rfl⟩) hK hZ hA hW hS (hF.k hk (by decide)) (by decide) rfl rfl hl.1 rfl (Nat.le_of_ble_eq_true rfl) dX5_readNumber_75 ⟨Nat.le_of_ble_eq_true rfl, Nat.le_of_ble_eq_true rfl⟩ (fun T19 H locs p20 hW hS => ?_)
            obtain ⟨hG, hFc, p20⟩ := p20
            have hF : Fr [] [502, 503] S T19 := hF.tr (hFc.mono (by decide))
            refine lv_goto (tgt := 98) hx hb dX5_readNumber_78 (by decide) ?_
            refine lv_iload_n hx hb dX5_readNumber_98 rfl (lv_at hl 3 rfl) ?_
            exact pc_iret (v := z) (S := T19) hx hb hr hlk hK hZ hA hW hS (⟨hG, hF, trivial⟩) dX5_readNumber_99
      · have c1i : ¬ ((4 : Int) ≤ Int32.toInt y) := fun h9 => c1 ((i3_le _ _).mpr h9)
        refine lv_aload_n hx hb dX5_readNumber_17 rfl (lv_at hl 0 rfl) ?_
        refine pc_Vi (As := []) (rest := []) F (b_X5_isDigit l D cy A L11 h hG (hF.k hk (by decide))) (cwV 0 hts gX5_readNumber_X5_isDigit rfl rfl rfl (by decide +kernel) ⟨Nat.le_of_ble_eq_true rfl, Nat.le_of_ble_eq_true rfl⟩) hK hZ hA hW hS (hF.k hk (by decide)) (by decide) rfl rfl hl.1 rfl (Nat.le_of_ble_eq_true rfl) dX5_readNumber_18 ⟨Nat.le_of_ble_eq_true rfl, Nat.le_of_ble_eq_true rfl⟩ (fun v21 T22 H locs p23 hW hS => ?_)
        obtain ⟨eT22, p23⟩ := p23
        rw [eT22] at hW
        clear eT22
        refine lv_if_eq (tgt := 53) hx hb dX5_readNumber_21 (by decide) (fun c24 => ?_) (fun c24 => ?_)
        · have c24i : Int32.toInt v21 = (0 : Int) := (i3_eq _ _).mp c24
          refine lv_aload_n hx hb dX5_readNumber_53 rfl (lv_at hl 0 rfl) ?_
          refine pg_gi (ci := 5) (C := RX5) (T := TX5) (N := 4) hx hb hts wi5 hown hK hW (hF.k hk (by decide)) (by decide) rfl 2 (by decide) (hts (.fieldLink RX5 19 "IceHall$RightsReader" "place" "I") (by decide +kernel)) (fun _ h9 => h9) rfl dX5_readNumber_54 ?_
          refine lv_iload hx hb dX5_readNumber_57 (lv_at hl 4 rfl) ?_
          refine lv_icmp_eq (tgt := 69) hx hb dX5_readNumber_59 (by decide) (fun c25 => ?_) (fun c25 => ?_)
          · have c25i : Int32.toInt (sI L11 h 2) = Int32.toInt (sI S h 2) := (i3_eq _ _).mp c25
            refine lv_aload_n hx hb dX5_readNumber_69 rfl (lv_at hl 0 rfl) ?_
            refine lv_iconst (v := 1) hx hb dX5_readNumber_70 (by decide) ?_
            refine lv_aload_n hx hb dX5_readNumber_71 rfl (lv_at hl 0 rfl) ?_
            refine pg_gi (ci := 5) (C := RX5) (T := TX5) (N := 4) hx hb hts wi5 hown hK hW (hF.k hk (by decide)) (by decide) rfl 2 (by decide) (hts (.fieldLink RX5 19 "IceHall$RightsReader" "place" "I") (by decide +kernel)) (fun _ h9 => h9) rfl dX5_readNumber_72 ?_
            refine pc_Vv (As := [.int 1, .int (sI L11 h 2)]) (rest := []) F (b_X5_fail l D cy A L11 h 1 (sI L11 h 2) hG (hF.k hk (by decide))) (cwV 2 hts gX5_readNumber_X5_fail rfl rfl rfl (by decide +kernel) ⟨Nat.le_of_ble_eq_true rfl, Nat.le_of_ble_eq_true rfl⟩) hK hZ hA hW hS (hF.k hk (by decide)) (by decide) rfl rfl hl.1 rfl (Nat.le_of_ble_eq_true rfl) dX5_readNumber_75 ⟨Nat.le_of_ble_eq_true rfl, Nat.le_of_ble_eq_true rfl⟩ (fun T27 H locs p28 hW hS => ?_)
            obtain ⟨hG, hFc, p28⟩ := p28
            have hF : Fr [] [502, 503] S T27 := hF.tr (hFc.mono (by decide))
            refine lv_goto (tgt := 98) hx hb dX5_readNumber_78 (by decide) ?_
            refine lv_iload_n hx hb dX5_readNumber_98 rfl (lv_at hl 3 rfl) ?_
            exact pc_iret (v := z) (S := T27) hx hb hr hlk hK hZ hA hW hS (⟨hG, hF, trivial⟩) dX5_readNumber_99
          · have c25i : ¬ (Int32.toInt (sI L11 h 2) = Int32.toInt (sI S h 2)) := fun h9 => c25 ((i3_eq _ _).mpr h9)
            refine lv_aload_n hx hb dX5_readNumber_62 rfl (lv_at hl 0 rfl) ?_
            refine pc_Vi (As := []) (rest := []) F (b_X5_isDigit l D cy A L11 h hG (hF.k hk (by decide))) (cwV 0 hts gX5_readNumber_X5_isDigit rfl rfl rfl (by decide +kernel) ⟨Nat.le_of_ble_eq_true rfl, Nat.le_of_ble_eq_true rfl⟩) hK hZ hA hW hS (hF.k hk (by decide)) (by decide) rfl rfl hl.1 rfl (Nat.le_of_ble_eq_true rfl) dX5_readNumber_63 ⟨Nat.le_of_ble_eq_true rfl, Nat.le_of_ble_eq_true rfl⟩ (fun v29 T30 H locs p31 hW hS => ?_)
            obtain ⟨eT30, p31⟩ := p31
            rw [eT30] at hW
            clear eT30
            refine lv_if_eq (tgt := 81) hx hb dX5_readNumber_66 (by decide) (fun c32 => ?_) (fun c32 => ?_)
            · have c32i : Int32.toInt v29 = (0 : Int) := (i3_eq _ _).mp c32
              refine lv_iload_n hx hb dX5_readNumber_81 rfl (lv_at hl 3 rfl) ?_
              refine lv_iload_n hx hb dX5_readNumber_82 rfl (lv_at hl 1 rfl) ?_
              refine lv_icmp_lt (tgt := 91) hx hb dX5_readNumber_83 (by decide) (fun c33 => ?_) (fun c33 => ?_)
              · have c33i : Int32.toInt z < Int32.toInt a := (i3_lt _ _).mp c33
                refine lv_aload_n hx hb dX5_readNumber_91 rfl (lv_at hl 0 rfl) ?_
                refine lv_iconst (v := 2) hx hb dX5_readNumber_92 (by decide) ?_
                refine lv_iload hx hb dX5_readNumber_93 (lv_at hl 4 rfl) ?_
                refine pc_Vv (As := [.int 2, .int (sI S h 2)]) (rest := []) F (b_X5_fail l D cy A L11 h 2 (sI S h 2) hG (hF.k hk (by decide))) (cwV 2 hts gX5_readNumber_X5_fail rfl rfl rfl (by decide +kernel) ⟨Nat.le_of_ble_eq_true rfl, Nat.le_of_ble_eq_true rfl⟩) hK hZ hA hW hS (hF.k hk (by decide)) (by decide) rfl rfl hl.1 rfl (Nat.le_of_ble_eq_true rfl) dX5_readNumber_95 ⟨Nat.le_of_ble_eq_true rfl, Nat.le_of_ble_eq_true rfl⟩ (fun T35 H locs p36 hW hS => ?_)
                obtain ⟨hG, hFc, p36⟩ := p36
                have hF : Fr [] [502, 503] S T35 := hF.tr (hFc.mono (by decide))
                refine lv_iload_n hx hb dX5_readNumber_98 rfl (lv_at hl 3 rfl) ?_
                exact pc_iret (v := z) (S := T35) hx hb hr hlk hK hZ hA hW hS (⟨hG, hF, trivial⟩) dX5_readNumber_99
              · have c33i : ¬ (Int32.toInt z < Int32.toInt a) := fun h9 => c33 ((i3_lt _ _).mpr h9)
                refine lv_iload_n hx hb dX5_readNumber_86 rfl (lv_at hl 3 rfl) ?_
                refine lv_iload_n hx hb dX5_readNumber_87 rfl (lv_at hl 2 rfl) ?_
                refine lv_icmp_le (tgt := 98) hx hb dX5_readNumber_88 (by decide) (fun c37 => ?_) (fun c37 => ?_)
                · have c37i : Int32.toInt z ≤ Int32.toInt b := (i3_le _ _).mp c37
                  refine lv_iload_n hx hb dX5_readNumber_98 rfl (lv_at hl 3 rfl) ?_
                  exact pc_iret (v := z) (S := L11) hx hb hr hlk hK hZ hA hW hS (⟨hG, hF, trivial⟩) dX5_readNumber_99
                · have c37i : ¬ (Int32.toInt z ≤ Int32.toInt b) := fun h9 => c37 ((i3_le _ _).mpr h9)
                  refine lv_aload_n hx hb dX5_readNumber_91 rfl (lv_at hl 0 rfl) ?_
                  refine lv_iconst (v := 2) hx hb dX5_readNumber_92 (by decide) ?_
                  refine lv_iload hx hb dX5_readNumber_93 (lv_at hl 4 rfl) ?_
                  refine pc_Vv (As := [.int 2, .int (sI S h 2)]) (rest := []) F (b_X5_fail l D cy A L11 h 2 (sI S h 2) hG (hF.k hk (by decide))) (cwV 2 hts gX5_readNumber_X5_fail rfl rfl rfl (by decide +kernel) ⟨Nat.le_of_ble_eq_true rfl, Nat.le_of_ble_eq_true rfl⟩) hK hZ hA hW hS (hF.k hk (by decide)) (by decide) rfl rfl hl.1 rfl (Nat.le_of_ble_eq_true rfl) dX5_readNumber_95 ⟨Nat.le_of_ble_eq_true rfl, Nat.le_of_ble_eq_true rfl⟩ (fun T39 H locs p40 hW hS => ?_)
                  obtain ⟨hG, hFc, p40⟩ := p40
                  have hF : Fr [] [502, 503] S T39 := hF.tr (hFc.mono (by decide))
                  refine lv_iload_n hx hb dX5_readNumber_98 rfl (lv_at hl 3 rfl) ?_
                  exact pc_iret (v := z) (S := T39) hx hb hr hlk hK hZ hA hW hS (⟨hG, hF, trivial⟩) dX5_readNumber_99
            · have c32i : ¬ (Int32.toInt v29 = (0 : Int)) := fun h9 => c32 ((i3_eq _ _).mpr h9)
              refine lv_aload_n hx hb dX5_readNumber_69 rfl (lv_at hl 0 rfl) ?_
              refine lv_iconst (v := 1) hx hb dX5_readNumber_70 (by decide) ?_
              refine lv_aload_n hx hb dX5_readNumber_71 rfl (lv_at hl 0 rfl) ?_
              refine pg_gi (ci := 5) (C := RX5) (T := TX5) (N := 4) hx hb hts wi5 hown hK hW (hF.k hk (by decide)) (by decide) rfl 2 (by decide) (hts (.fieldLink RX5 19 "IceHall$RightsReader" "place" "I") (by decide +kernel)) (fun _ h9 => h9) rfl dX5_readNumber_72 ?_
              refine pc_Vv (As := [.int 1, .int (sI L11 h 2)]) (rest := []) F (b_X5_fail l D cy A L11 h 1 (sI L11 h 2) hG (hF.k hk (by decide))) (cwV 2 hts gX5_readNumber_X5_fail rfl rfl rfl (by decide +kernel) ⟨Nat.le_of_ble_eq_true rfl, Nat.le_of_ble_eq_true rfl⟩) hK hZ hA hW hS (hF.k hk (by decide)) (by decide) rfl rfl hl.1 rfl (Nat.le_of_ble_eq_true rfl) dX5_readNumber_75 ⟨Nat.le_of_ble_eq_true rfl, Nat.le_of_ble_eq_true rfl⟩ (fun T42 H locs p43 hW hS => ?_)
              obtain ⟨hG, hFc, p43⟩ := p43
              have hF : Fr [] [502, 503] S T42 := hF.tr (hFc.mono (by decide))
              refine lv_goto (tgt := 98) hx hb dX5_readNumber_78 (by decide) ?_
              refine lv_iload_n hx hb dX5_readNumber_98 rfl (lv_at hl 3 rfl) ?_
              exact pc_iret (v := z) (S := T42) hx hb hr hlk hK hZ hA hW hS (⟨hG, hF, trivial⟩) dX5_readNumber_99
        · have c24i : ¬ (Int32.toInt v21 = (0 : Int)) := fun h9 => c24 ((i3_eq _ _).mpr h9)
          refine lv_iload_n hx hb dX5_readNumber_24 rfl (lv_at hl 3 rfl) ?_
          refine lv_bipush (v := 10) hx hb dX5_readNumber_25 (by decide) ?_
          refine lv_imul hx hb dX5_readNumber_27 ?_
          refine lv_aload_n hx hb dX5_readNumber_28 rfl (lv_at hl 0 rfl) ?_
          refine pc_Vi (As := []) (rest := [.int (z * 10)]) F (b_X5_peek l D cy A L11 h hG (hF.k hk (by decide))) (cwV 0 hts gX5_readNumber_X5_peek rfl rfl rfl (by decide +kernel) ⟨Nat.le_of_ble_eq_true rfl, Nat.le_of_ble_eq_true rfl⟩) hK hZ hA hW hS (hF.k hk (by decide)) (by decide) rfl rfl hl.1 rfl (Nat.le_of_ble_eq_true rfl) dX5_readNumber_29 ⟨Nat.le_of_ble_eq_true rfl, Nat.le_of_ble_eq_true rfl⟩ (fun v44 T45 H locs p46 hW hS => ?_)
          obtain ⟨eT45, p46⟩ := p46
          rw [eT45] at hW
          clear eT45
          refine lv_iadd hx hb dX5_readNumber_32 ?_
          refine lv_bipush (v := 48) hx hb dX5_readNumber_33 (by decide) ?_
          refine lv_isub hx hb dX5_readNumber_35 ?_
          refine lv_istore_n (lv' := [(3, .int (((z * 10) + v44) - 48)), (0, .ref h), (1, .int a), (2, .int b), (4, .int (sI S h 2)), (5, .int y)]) hx hb dX5_readNumber_36 rfl hl (by decide) rfl (fun ls hl => ?_)
          refine lv_aload_n hx hb dX5_readNumber_37 rfl (lv_at hl 1 rfl) ?_
          refine lv_dup hx hb dX5_readNumber_38 rfl ?_
          refine pg_gi (ci := 5) (C := RX5) (T := TX5) (N := 4) hx hb hts wi5 hown hK hW (hF.k hk (by decide)) (by decide) rfl 2 (by decide) (hts (.fieldLink RX5 19 "IceHall$RightsReader" "place" "I") (by decide +kernel)) (fun _ h9 => h9) rfl dX5_readNumber_39 ?_
          refine lv_iconst (v := 1) hx hb dX5_readNumber_42 (by decide) ?_
          refine lv_iadd hx hb dX5_readNumber_43 ?_
          refine pg_pi (ci := 5) (C := RX5) (T := TX5) (N := 4) hx hb hts wi5 tyX5 tyX5_ok nmX5 hown hK hW hS (hF.k hk (by decide)) (by decide) rfl 2 (by decide) (hts (.fieldLink RX5 19 "IceHall$RightsReader" "place" "I") (by decide +kernel)) (fun _ h9 => h9) rfl rfl rfl dX5_readNumber_44 (fun H locs hW hS => ?_)
          have kq47 : sK L11 h = 5 := (hF.k hk (by decide))
          obtain ⟨S48, eS48⟩ : ∃ T : St, T = stI L11 h 2 ((sI L11 h 2) + 1) := ⟨_, rfl⟩
          rw [← eS48] at hW
          have hG : G S48 := by rw [eS48]; exact hG.I kq47 (ok_fr (by decide))
          have hF : Fr [] [502, 503] S S48 := by rw [eS48]; exact hF.I kq47 (by decide)
          clear eS48
          refine lv_iinc (v := y + 1) (lv' := [(5, .int (y + 1)), (3, .int (((z * 10) + v44) - 48)), (0, .ref h), (1, .int a), (2, .int b), (4, .int (sI S h 2))]) hx hb dX5_readNumber_47 hl (k := 5) rfl rfl (by decide) rfl (fun ls hl => ?_)
          have i49 : (y + 1).toInt = (y).toInt + 1 := i3_add rfl rfl (by omega) (by omega)
          refine lv_goto (tgt := 11) hx hb dX5_readNumber_50 (by decide) ?_
          exact ih11 (((z * 10) + v44) - 48) (y + 1) S48 _ _ ls hG hF (by omega) (by omega) hW hS (lv_cast (lv_sub hl [2, 3, 4, 1, 5, 0] rfl) (rfl))
  exact loop11 _ 0 0 S _ _ ls hG hF (by decide) (Nat.lt_succ_self _) hW hS (lv_cast (lv_sub hl [3, 4, 5, 2, 1, 0] rfl) (rfl))
set_option maxHeartbeats 4000000 in
set_option maxRecDepth 100000 in
theorem b_X5_readOn (l : Launch) (D : va_G) (cy : Nat → ClassId) (A : Nat → Prop) (S : St) (h : Nat) (hG0 : G S) (hk : sK S h = 5) : MI l yX5_readOn wsX5_readOn ({ frames := 1, cells := 0, slots := 0, locals := 22 } : Room) 0 0 D cy A [.ref h] S (fun r S1 => G S1 ∧ Fr [] [502, 503] S S1 ∧ True) := by
  refine mt_start (cc := cX5_readOn) (maxL := 2) (ret := (some .boolean)) (by decide) rfl (Nat.le_of_ble_eq_true rfl) ?_
  intro p e s m args below meth c hx hb hr hlk hml hown hnm hts hK hZ hA hW hS ls hl
  have hl : lv_has ls 2 [(0, .ref h)] := hl
  have hown : s.vm.findClass RX5 = some m.cls := hown
  have F : CallFix p m c cX5_readOn 2 s args wsX5_readOn RX5 := ⟨hx, hb, hml, hown, hts⟩
  have wi5 : ∀ w ∈ u_ws RX5 TX5 4, w ∈ wsX5_readOn := by decide +kernel
  have hG := hG0
  have hF : Fr [] [502, 503] S S := Fr.rf _ _ _
  refine lv_aload_n hx hb dX5_readOn_0 rfl (lv_at hl 0 rfl) ?_
  refine pc_Vi (As := []) (rest := []) F (b_X5_peek l D cy A S h hG hk) (cwV 0 hts gX5_readOn_X5_peek rfl rfl rfl (by decide +kernel) ⟨Nat.le_of_ble_eq_true rfl, Nat.le_of_ble_eq_true rfl⟩) hK hZ hA hW hS hk (by decide) rfl rfl hl.1 rfl (Nat.le_of_ble_eq_true rfl) dX5_readOn_1 ⟨Nat.le_of_ble_eq_true rfl, Nat.le_of_ble_eq_true rfl⟩ (fun v1 T2 H locs p3 hW hS => ?_)
  obtain ⟨eT2, p3⟩ := p3
  rw [eT2] at hW
  clear eT2
  refine lv_istore_n (lv' := [(1, .int v1), (0, .ref h)]) hx hb dX5_readOn_4 rfl hl (by decide) rfl (fun ls hl => ?_)
  refine lv_iload_n hx hb dX5_readOn_5 rfl (lv_at hl 0 rfl) ?_
  refine lv_iconst (v := (-1)) hx hb dX5_readOn_6 (by decide) ?_
  refine lv_icmp_ne (tgt := 12) hx hb dX5_readOn_7 (by decide) (fun c4 => ?_) (fun c4 => ?_)
  · have c4i : ¬ (Int32.toInt v1 = (-1 : Int)) := fun h9 => c4 ((i3_eq _ _).mpr h9)
    refine lv_iload_n hx hb dX5_readOn_12 rfl (lv_at hl 0 rfl) ?_
    refine lv_bipush (v := 59) hx hb dX5_readOn_13 (by decide) ?_
    refine lv_icmp_eq (tgt := 29) hx hb dX5_readOn_15 (by decide) (fun c5 => ?_) (fun c5 => ?_)
    · have c5i : Int32.toInt v1 = (59 : Int) := (i3_eq _ _).mp c5
      refine lv_aload_n hx hb dX5_readOn_29 rfl (lv_at hl 1 rfl) ?_
      refine lv_dup hx hb dX5_readOn_30 rfl ?_
      refine pg_gi (ci := 5) (C := RX5) (T := TX5) (N := 4) hx hb hts wi5 hown hK hW hk (by decide) rfl 2 (by decide) (hts (.fieldLink RX5 19 "IceHall$RightsReader" "place" "I") (by decide +kernel)) (fun _ h9 => h9) rfl dX5_readOn_31 ?_
      refine lv_iconst (v := 1) hx hb dX5_readOn_34 (by decide) ?_
      refine lv_iadd hx hb dX5_readOn_35 ?_
      refine pg_pi (ci := 5) (C := RX5) (T := TX5) (N := 4) hx hb hts wi5 tyX5 tyX5_ok nmX5 hown hK hW hS hk (by decide) rfl 2 (by decide) (hts (.fieldLink RX5 19 "IceHall$RightsReader" "place" "I") (by decide +kernel)) (fun _ h9 => h9) rfl rfl rfl dX5_readOn_36 (fun H locs hW hS => ?_)
      obtain ⟨S6, eS6⟩ : ∃ T : St, T = stI S h 2 ((sI S h 2) + 1) := ⟨_, rfl⟩
      rw [← eS6] at hW
      have hG : G S6 := by rw [eS6]; exact hG.I hk (ok_fr (by decide))
      have hF : Fr [] [502, 503] S S6 := by rw [eS6]; exact hF.I hk (by decide)
      clear eS6
      refine lv_iconst (v := 1) hx hb dX5_readOn_39 (by decide) ?_
      exact pc_zret (v := 1) (S := S6) hx hb hr hlk hK hZ hA hW hS (by decide) (⟨hG, hF, trivial⟩) dX5_readOn_40
    · have c5i : ¬ (Int32.toInt v1 = (59 : Int)) := fun h9 => c5 ((i3_eq _ _).mpr h9)
      refine lv_aload_n hx hb dX5_readOn_18 rfl (lv_at hl 1 rfl) ?_
      refine lv_iconst (v := 1) hx hb dX5_readOn_19 (by decide) ?_
      refine lv_aload_n hx hb dX5_readOn_20 rfl (lv_at hl 1 rfl) ?_
      refine pg_gi (ci := 5) (C := RX5) (T := TX5) (N := 4) hx hb hts wi5 hown hK hW hk (by decide) rfl 2 (by decide) (hts (.fieldLink RX5 19 "IceHall$RightsReader" "place" "I") (by decide +kernel)) (fun _ h9 => h9) rfl dX5_readOn_21 ?_
      refine pc_Vv (As := [.int 1, .int (sI S h 2)]) (rest := []) F (b_X5_fail l D cy A S h 1 (sI S h 2) hG hk) (cwV 2 hts gX5_readOn_X5_fail rfl rfl rfl (by decide +kernel) ⟨Nat.le_of_ble_eq_true rfl, Nat.le_of_ble_eq_true rfl⟩) hK hZ hA hW hS hk (by decide) rfl rfl hl.1 rfl (Nat.le_of_ble_eq_true rfl) dX5_readOn_24 ⟨Nat.le_of_ble_eq_true rfl, Nat.le_of_ble_eq_true rfl⟩ (fun T8 H locs p9 hW hS => ?_)
      obtain ⟨hG, hFc, p9⟩ := p9
      have hF : Fr [] [502, 503] S T8 := hF.tr (hFc.mono (by decide))
      refine lv_iconst (v := 0) hx hb dX5_readOn_27 (by decide) ?_
      exact pc_zret (v := 0) (S := T8) hx hb hr hlk hK hZ hA hW hS (by decide) (⟨hG, hF, trivial⟩) dX5_readOn_28
  · have c4i : Int32.toInt v1 = (-1 : Int) := (i3_eq _ _).mp c4
    refine lv_iconst (v := 0) hx hb dX5_readOn_10 (by decide) ?_
    exact pc_zret (v := 0) (S := S) hx hb hr hlk hK hZ hA hW hS (by decide) (⟨hG, hF, trivial⟩) dX5_readOn_11
set_option maxHeartbeats 4000000 in
set_option maxRecDepth 100000 in
theorem b_X5_readWindow (l : Launch) (D : va_G) (cy : Nat → ClassId) (A : Nat → Prop) (S : St) (h : Nat) (hG0 : G S) (hk : sK S h = 5) : MI l yX5_readWindow wsX5_readWindow ({ frames := 3, cells := 0, slots := 0, locals := 66 } : Room) 0 0 D cy A [.ref h] S (fun r S1 => G S1 ∧ Fr [] [502, 503] S S1 ∧ True) := by
  refine mt_start (cc := cX5_readWindow) (maxL := 3) (ret := (some .int)) (by decide) rfl (Nat.le_of_ble_eq_true rfl) ?_
  intro p e s m args below meth c hx hb hr hlk hml hown hnm hts hK hZ hA hW hS ls hl
  have hl : lv_has ls 3 [(0, .ref h)] := hl
  have hown : s.vm.findClass RX5 = some m.cls := hown
  have F : CallFix p m c cX5_readWindow 3 s args wsX5_readWindow RX5 := ⟨hx, hb, hml, hown, hts⟩
  have wi5 : ∀ w ∈ u_ws RX5 TX5 4, w ∈ wsX5_readWindow := by decide +kernel
  have hG := hG0
  have hF : Fr [] [502, 503] S S := Fr.rf _ _ _
  refine lv_aload_n hx hb dX5_readWindow_0 rfl (lv_at hl 0 rfl) ?_
  refine lv_iconst (v := 0) hx hb dX5_readWindow_1 (by decide) ?_
  refine lv_bipush (v := 23) hx hb dX5_readWindow_2 (by decide) ?_
  refine pc_Vi (As := [.int 0, .int 23]) (rest := []) F (b_X5_readNumber l D cy A S h 0 23 hG hk) (cwV 2 hts gX5_readWindow_X5_readNumber rfl rfl rfl (by decide +kernel) ⟨Nat.le_of_ble_eq_true rfl, Nat.le_of_ble_eq_true rfl⟩) hK hZ hA hW hS hk (by decide) rfl rfl hl.1 rfl (Nat.le_of_ble_eq_true rfl) dX5_readWindow_4 ⟨Nat.le_of_ble_eq_true rfl, Nat.le_of_ble_eq_true rfl⟩ (fun v1 T2 H locs p3 hW hS => ?_)
  obtain ⟨hG, hFc, p3⟩ := p3
  have hF : Fr [] [502, 503] S T2 := hF.tr (hFc.mono (by decide))
  refine lv_istore_n (lv' := [(1, .int v1), (0, .ref h)]) hx hb dX5_readWindow_7 rfl hl (by decide) rfl (fun ls hl => ?_)
  refine lv_aload_n hx hb dX5_readWindow_8 rfl (lv_at hl 1 rfl) ?_
  refine pg_gi (ci := 5) (C := RX5) (T := TX5) (N := 4) hx hb hts wi5 hown hK hW (hF.k hk (by decide)) (by decide) rfl 3 (by decide) (hts (.fieldLink RX5 22 "IceHall$RightsReader" "fault" "I") (by decide +kernel)) (fun _ h9 => h9) rfl dX5_readWindow_9 ?_
  refine lv_if_eq (tgt := 17) hx hb dX5_readWindow_12 (by decide) (fun c4 => ?_) (fun c4 => ?_)
  · have c4i : Int32.toInt (sI T2 h 3) = (0 : Int) := (i3_eq _ _).mp c4
    refine lv_aload_n hx hb dX5_readWindow_17 rfl (lv_at hl 1 rfl) ?_
    refine pc_Vi (As := []) (rest := []) F (b_X5_peek l D cy A T2 h hG (hF.k hk (by decide))) (cwV 0 hts gX5_readWindow_X5_peek rfl rfl rfl (by decide +kernel) ⟨Nat.le_of_ble_eq_true rfl, Nat.le_of_ble_eq_true rfl⟩) hK hZ hA hW hS (hF.k hk (by decide)) (by decide) rfl rfl hl.1 rfl (Nat.le_of_ble_eq_true rfl) dX5_readWindow_18 ⟨Nat.le_of_ble_eq_true rfl, Nat.le_of_ble_eq_true rfl⟩ (fun v5 T6 H locs p7 hW hS => ?_)
    obtain ⟨eT6, p7⟩ := p7
    rw [eT6] at hW
    clear eT6
    refine lv_bipush (v := 45) hx hb dX5_readWindow_21 (by decide) ?_
    refine lv_icmp_eq (tgt := 37) hx hb dX5_readWindow_23 (by decide) (fun c8 => ?_) (fun c8 => ?_)
    · have c8i : Int32.toInt v5 = (45 : Int) := (i3_eq _ _).mp c8
      refine lv_aload_n hx hb dX5_readWindow_37 rfl (lv_at hl 1 rfl) ?_
      refine lv_dup hx hb dX5_readWindow_38 rfl ?_
      refine pg_gi (ci := 5) (C := RX5) (T := TX5) (N := 4) hx hb hts wi5 hown hK hW (hF.k hk (by decide)) (by decide) rfl 2 (by decide) (hts (.fieldLink RX5 19 "IceHall$RightsReader" "place" "I") (by decide +kernel)) (fun _ h9 => h9) rfl dX5_readWindow_39 ?_
      refine lv_iconst (v := 1) hx hb dX5_readWindow_42 (by decide) ?_
      refine lv_iadd hx hb dX5_readWindow_43 ?_
      refine pg_pi (ci := 5) (C := RX5) (T := TX5) (N := 4) hx hb hts wi5 tyX5 tyX5_ok nmX5 hown hK hW hS (hF.k hk (by decide)) (by decide) rfl 2 (by decide) (hts (.fieldLink RX5 19 "IceHall$RightsReader" "place" "I") (by decide +kernel)) (fun _ h9 => h9) rfl rfl rfl dX5_readWindow_44 (fun H locs hW hS => ?_)
      have kq9 : sK T2 h = 5 := (hF.k hk (by decide))
      obtain ⟨S10, eS10⟩ : ∃ T : St, T = stI T2 h 2 ((sI T2 h 2) + 1) := ⟨_, rfl⟩
      rw [← eS10] at hW
      have hG : G S10 := by rw [eS10]; exact hG.I kq9 (ok_fr (by decide))
      have hF : Fr [] [502, 503] S S10 := by rw [eS10]; exact hF.I kq9 (by decide)
      clear eS10
      refine lv_aload_n hx hb dX5_readWindow_47 rfl (lv_at hl 1 rfl) ?_
      refine lv_iload_n hx hb dX5_readWindow_48 rfl (lv_at hl 0 rfl) ?_
      refine lv_iconst (v := 1) hx hb dX5_readWindow_49 (by decide) ?_
      refine lv_iadd hx hb dX5_readWindow_50 ?_
      refine lv_bipush (v := 24) hx hb dX5_readWindow_51 (by decide) ?_
      refine pc_Vi (As := [.int (v1 + 1), .int 24]) (rest := []) F (b_X5_readNumber l D cy A S10 h (v1 + 1) 24 hG (hF.k hk (by decide))) (cwV 2 hts gX5_readWindow_X5_readNumber rfl rfl rfl (by decide +kernel) ⟨Nat.le_of_ble_eq_true rfl, Nat.le_of_ble_eq_true rfl⟩) hK hZ hA hW hS (hF.k hk (by decide)) (by decide) rfl rfl hl.1 rfl (Nat.le_of_ble_eq_true rfl) dX5_readWindow_53 ⟨Nat.le_of_ble_eq_true rfl, Nat.le_of_ble_eq_true rfl⟩ (fun v11 T12 H locs p13 hW hS => ?_)
      obtain ⟨hG, hFc, p13⟩ := p13
      have hF : Fr [] [502, 503] S T12 := hF.tr (hFc.mono (by decide))
      refine lv_istore_n (lv' := [(2, .int v11), (1, .int v1), (0, .ref h)]) hx hb dX5_readWindow_56 rfl hl (by decide) rfl (fun ls hl => ?_)
      refine lv_aload_n hx hb dX5_readWindow_57 rfl (lv_at hl 2 rfl) ?_
      refine pg_gi (ci := 5) (C := RX5) (T := TX5) (N := 4) hx hb hts wi5 hown hK hW (hF.k hk (by decide)) (by decide) rfl 3 (by decide) (hts (.fieldLink RX5 22 "IceHall$RightsReader" "fault" "I") (by decide +kernel)) (fun _ h9 => h9) rfl dX5_readWindow_58 ?_
      refine lv_if_ne (tgt := 74) hx hb dX5_readWindow_61 (by decide) (fun c14 => ?_) (fun c14 => ?_)
      · have c14i : ¬ (Int32.toInt (sI T12 h 3) = (0 : Int)) := fun h9 => c14 ((i3_eq _ _).mpr h9)
        refine lv_iconst (v := 0) hx hb dX5_readWindow_74 (by decide) ?_
        exact pc_iret (v := 0) (S := T12) hx hb hr hlk hK hZ hA hW hS (⟨hG, hF, trivial⟩) dX5_readWindow_75
      · have c14i : Int32.toInt (sI T12 h 3) = (0 : Int) := (i3_eq _ _).mp c14
        refine lv_iconst (v := 1) hx hb dX5_readWindow_64 (by decide) ?_
        refine lv_iload_n hx hb dX5_readWindow_65 rfl (lv_at hl 0 rfl) ?_
        refine lv_ishl hx hb dX5_readWindow_66 ?_
        refine lv_iconst (v := 1) hx hb dX5_readWindow_67 (by decide) ?_
        refine lv_iload_n hx hb dX5_readWindow_68 rfl (lv_at hl 1 rfl) ?_
        refine lv_ishl hx hb dX5_readWindow_69 ?_
        refine lv_isub hx hb dX5_readWindow_70 ?_
        refine lv_goto (tgt := 75) hx hb dX5_readWindow_71 (by decide) ?_
        exact pc_iret (v := (1 <<< (v11 &&& 31)) - (1 <<< (v1 &&& 31))) (S := T12) hx hb hr hlk hK hZ hA hW hS (⟨hG, hF, trivial⟩) dX5_readWindow_75
    · have c8i : ¬ (Int32.toInt v5 = (45 : Int)) := fun h9 => c8 ((i3_eq _ _).mpr h9)
      refine lv_aload_n hx hb dX5_readWindow_26 rfl (lv_at hl 1 rfl) ?_
      refine lv_iconst (v := 1) hx hb dX5_readWindow_27 (by decide) ?_
      refine lv_aload_n hx hb dX5_readWindow_28 rfl (lv_at hl 1 rfl) ?_
      refine pg_gi (ci := 5) (C := RX5) (T := TX5) (N := 4) hx hb hts wi5 hown hK hW (hF.k hk (by decide)) (by decide) rfl 2 (by decide) (hts (.fieldLink RX5 19 "IceHall$RightsReader" "place" "I") (by decide +kernel)) (fun _ h9 => h9) rfl dX5_readWindow_29 ?_
      refine pc_Vv (As := [.int 1, .int (sI T2 h 2)]) (rest := []) F (b_X5_fail l D cy A T2 h 1 (sI T2 h 2) hG (hF.k hk (by decide))) (cwV 2 hts gX5_readWindow_X5_fail rfl rfl rfl (by decide +kernel) ⟨Nat.le_of_ble_eq_true rfl, Nat.le_of_ble_eq_true rfl⟩) hK hZ hA hW hS (hF.k hk (by decide)) (by decide) rfl rfl hl.1 rfl (Nat.le_of_ble_eq_true rfl) dX5_readWindow_32 ⟨Nat.le_of_ble_eq_true rfl, Nat.le_of_ble_eq_true rfl⟩ (fun T16 H locs p17 hW hS => ?_)
      obtain ⟨hG, hFc, p17⟩ := p17
      have hF : Fr [] [502, 503] S T16 := hF.tr (hFc.mono (by decide))
      refine lv_iconst (v := 0) hx hb dX5_readWindow_35 (by decide) ?_
      exact pc_iret (v := 0) (S := T16) hx hb hr hlk hK hZ hA hW hS (⟨hG, hF, trivial⟩) dX5_readWindow_36
  · have c4i : ¬ (Int32.toInt (sI T2 h 3) = (0 : Int)) := fun h9 => c4 ((i3_eq _ _).mpr h9)
    refine lv_iconst (v := 0) hx hb dX5_readWindow_15 (by decide) ?_
    exact pc_iret (v := 0) (S := T2) hx hb hr hlk hK hZ hA hW hS (⟨hG, hF, trivial⟩) dX5_readWindow_16
set_option maxHeartbeats 4000000 in
set_option maxRecDepth 100000 in
theorem b_X5_readClause (l : Launch) (D : va_G) (cy : Nat → ClassId) (A : Nat → Prop) (S : St) (h a : Nat) (hG0 : G S) (hk : sK S h = 5) (hka : sK S a = 4) : MI l yX5_readClause wsX5_readClause ({ frames := 4, cells := 0, slots := 0, locals := 88 } : Room) 0 0 D cy A [.ref h, .ref a] S (fun r S1 => G S1 ∧ Fr [] [401, 402, 403, 404, 405, 502, 503] S S1 ∧ True) := by
  refine mt_start (cc := cX5_readClause) (maxL := 3) (ret := (some .int)) (by decide) rfl (Nat.le_of_ble_eq_true rfl) ?_
  intro p e s m args below meth c hx hb hr hlk hml hown hnm hts hK hZ hA hW hS ls hl
  have hl : lv_has ls 3 [(0, .ref h), (1, .ref a)] := hl
  have hown : s.vm.findClass RX5 = some m.cls := hown
  have F : CallFix p m c cX5_readClause 3 s args wsX5_readClause RX5 := ⟨hx, hb, hml, hown, hts⟩
  have wi4 : ∀ w ∈ u_ws RX4 TX4 6, w ∈ wsX5_readClause := by decide +kernel
  have wi5 : ∀ w ∈ u_ws RX5 TX5 4, w ∈ wsX5_readClause := by decide +kernel
  have hG := hG0
  have hF : Fr [] [401, 402, 403, 404, 405, 502, 503] S S := Fr.rf _ _ _
  refine lv_aload_n hx hb dX5_readClause_0 rfl (lv_at hl 0 rfl) ?_
  refine pc_Vi (As := []) (rest := []) F (b_X5_peek l D cy A S h hG hk) (cwV 0 hts gX5_readClause_X5_peek rfl rfl rfl (by decide +kernel) ⟨Nat.le_of_ble_eq_true rfl, Nat.le_of_ble_eq_true rfl⟩) hK hZ hA hW hS hk (by decide) rfl rfl hl.1 rfl (Nat.le_of_ble_eq_true rfl) dX5_readClause_1 ⟨Nat.le_of_ble_eq_true rfl, Nat.le_of_ble_eq_true rfl⟩ (fun v1 T2 H locs p3 hW hS => ?_)
  obtain ⟨eT2, p3⟩ := p3
  rw [eT2] at hW
  clear eT2
  refine lv_istore_n (lv' := [(2, .int v1), (0, .ref h), (1, .ref a)]) hx hb dX5_readClause_4 rfl hl (by decide) rfl (fun ls hl => ?_)
  refine lv_aload_n hx hb dX5_readClause_5 rfl (lv_at hl 1 rfl) ?_
  refine lv_dup hx hb dX5_readClause_6 rfl ?_
  refine pg_gi (ci := 5) (C := RX5) (T := TX5) (N := 4) hx hb hts wi5 hown hK hW hk (by decide) rfl 2 (by decide) (hts (.fieldLink RX5 19 "IceHall$RightsReader" "place" "I") (by decide +kernel)) (fun _ h9 => h9) rfl dX5_readClause_7 ?_
  refine lv_iconst (v := 1) hx hb dX5_readClause_10 (by decide) ?_
  refine lv_iadd hx hb dX5_readClause_11 ?_
  refine pg_pi (ci := 5) (C := RX5) (T := TX5) (N := 4) hx hb hts wi5 tyX5 tyX5_ok nmX5 hown hK hW hS hk (by decide) rfl 2 (by decide) (hts (.fieldLink RX5 19 "IceHall$RightsReader" "place" "I") (by decide +kernel)) (fun _ h9 => h9) rfl rfl rfl dX5_readClause_12 (fun H locs hW hS => ?_)
  obtain ⟨S4, eS4⟩ : ∃ T : St, T = stI S h 2 ((sI S h 2) + 1) := ⟨_, rfl⟩
  rw [← eS4] at hW
  have hG : G S4 := by rw [eS4]; exact hG.I hk (ok_fr (by decide))
  have hF : Fr [] [401, 402, 403, 404, 405, 502, 503] S S4 := by rw [eS4]; exact hF.I hk (by decide)
  clear eS4
  refine lv_iload_n hx hb dX5_readClause_15 rfl (lv_at hl 0 rfl) ?_
  by_cases c5 : v1 = 99
  · refine lv_lookup (off := 119) (tgt := 135) hx hb dX5_readClause_16 (by decide) (by rw [c5]; decide) (by decide) ?_
    refine lv_aload_n hx hb dX5_readClause_135 rfl (lv_at hl 2 rfl) ?_
    refine lv_aload_n hx hb dX5_readClause_136 rfl (lv_at hl 1 rfl) ?_
    refine lv_iconst (v := 0) hx hb dX5_readClause_137 (by decide) ?_
    refine lv_bipush (v := 100) hx hb dX5_readClause_138 (by decide) ?_
    refine pc_Vi (As := [.int 0, .int 100]) (rest := [.ref a]) F (b_X5_readNumber l D cy A S4 h 0 100 hG (hF.k hk (by decide))) (cwV 2 hts gX5_readClause_X5_readNumber rfl rfl rfl (by decide +kernel) ⟨Nat.le_of_ble_eq_true rfl, Nat.le_of_ble_eq_true rfl⟩) hK hZ hA hW hS (hF.k hk (by decide)) (by decide) rfl rfl hl.1 rfl (Nat.le_of_ble_eq_true rfl) dX5_readClause_140 ⟨Nat.le_of_ble_eq_true rfl, Nat.le_of_ble_eq_true rfl⟩ (fun v6 T7 H locs p8 hW hS => ?_)
    obtain ⟨hG, hFc, p8⟩ := p8
    have hF : Fr [] [401, 402, 403, 404, 405, 502, 503] S T7 := hF.tr (hFc.mono (by decide))
    refine pg_pi (ci := 4) (C := RX4) (T := TX4) (N := 6) hx hb hts wi4 tyX4 tyX4_ok nmX4 hown hK hW hS (hF.k hka (by decide)) (by decide) rfl 5 (by decide) (hts (.fieldLink RX5 64 "IceHall$Rights" "hundredths" "I") (by decide +kernel)) (fun _ h9 => h9) rfl rfl rfl dX5_readClause_143 (fun H locs hW hS => ?_)
    have kq9 : sK T7 a = 4 := (hF.k hka (by decide))
    obtain ⟨S10, eS10⟩ : ∃ T : St, T = stI T7 a 5 v6 := ⟨_, rfl⟩
    rw [← eS10] at hW
    have hG : G S10 := by rw [eS10]; exact hG.I kq9 (ok_fr (by decide))
    have hF : Fr [] [401, 402, 403, 404, 405, 502, 503] S S10 := by rw [eS10]; exact hF.I kq9 (by decide)
    clear eS10
    refine lv_iconst (v := 0) hx hb dX5_readClause_146 (by decide) ?_
    exact pc_iret (v := 0) (S := S10) hx hb hr hlk hK hZ hA hW hS (⟨hG, hF, trivial⟩) dX5_readClause_147
  by_cases c11 : v1 = 100
  · refine lv_lookup (off := 65) (tgt := 81) hx hb dX5_readClause_16 (by decide) (by rw [c11]; decide) (by decide) ?_
    refine lv_aload_n hx hb dX5_readClause_81 rfl (lv_at hl 2 rfl) ?_
    refine lv_aload_n hx hb dX5_readClause_82 rfl (lv_at hl 1 rfl) ?_
    refine lv_bipush (v := 6) hx hb dX5_readClause_83 (by decide) ?_
    refine lv_bipush (v := 7) hx hb dX5_readClause_85 (by decide) ?_
    refine pc_Vi (As := [.int 6, .int 7]) (rest := [.ref a]) F (b_X5_readDigits l D cy A S4 h 6 7 hG (hF.k hk (by decide))) (cwV 2 hts gX5_readClause_X5_readDigits rfl rfl rfl (by decide +kernel) ⟨Nat.le_of_ble_eq_true rfl, Nat.le_of_ble_eq_true rfl⟩) hK hZ hA hW hS (hF.k hk (by decide)) (by decide) rfl rfl hl.1 rfl (Nat.le_of_ble_eq_true rfl) dX5_readClause_87 ⟨Nat.le_of_ble_eq_true rfl, Nat.le_of_ble_eq_true rfl⟩ (fun v12 T13 H locs p14 hW hS => ?_)
    obtain ⟨hG, hFc, p14⟩ := p14
    have hF : Fr [] [401, 402, 403, 404, 405, 502, 503] S T13 := hF.tr (hFc.mono (by decide))
    refine pg_pi (ci := 4) (C := RX4) (T := TX4) (N := 6) hx hb hts wi4 tyX4 tyX4_ok nmX4 hown hK hW hS (hF.k hka (by decide)) (by decide) rfl 1 (by decide) (hts (.fieldLink RX5 49 "IceHall$Rights" "days" "I") (by decide +kernel)) (fun _ h9 => h9) rfl rfl rfl dX5_readClause_90 (fun H locs hW hS => ?_)
    have kq15 : sK T13 a = 4 := (hF.k hka (by decide))
    obtain ⟨S16, eS16⟩ : ∃ T : St, T = stI T13 a 1 v12 := ⟨_, rfl⟩
    rw [← eS16] at hW
    have hG : G S16 := by rw [eS16]; exact hG.I kq15 (ok_fr (by decide))
    have hF : Fr [] [401, 402, 403, 404, 405, 502, 503] S S16 := by rw [eS16]; exact hF.I kq15 (by decide)
    clear eS16
    refine lv_iconst (v := 0) hx hb dX5_readClause_93 (by decide) ?_
    exact pc_iret (v := 0) (S := S16) hx hb hr hlk hK hZ hA hW hS (⟨hG, hF, trivial⟩) dX5_readClause_94
  by_cases c17 : v1 = 102
  · refine lv_lookup (off := 105) (tgt := 121) hx hb dX5_readClause_16 (by decide) (by rw [c17]; decide) (by decide) ?_
    refine lv_aload_n hx hb dX5_readClause_121 rfl (lv_at hl 2 rfl) ?_
    refine lv_aload_n hx hb dX5_readClause_122 rfl (lv_at hl 1 rfl) ?_
    refine lv_iconst (v := 0) hx hb dX5_readClause_123 (by decide) ?_
    refine lv_sipush (v := 9999) hx hb dX5_readClause_124 (by decide) ?_
    refine pc_Vi (As := [.int 0, .int 9999]) (rest := [.ref a]) F (b_X5_readNumber l D cy A S4 h 0 9999 hG (hF.k hk (by decide))) (cwV 2 hts gX5_readClause_X5_readNumber rfl rfl rfl (by decide +kernel) ⟨Nat.le_of_ble_eq_true rfl, Nat.le_of_ble_eq_true rfl⟩) hK hZ hA hW hS (hF.k hk (by decide)) (by decide) rfl rfl hl.1 rfl (Nat.le_of_ble_eq_true rfl) dX5_readClause_127 ⟨Nat.le_of_ble_eq_true rfl, Nat.le_of_ble_eq_true rfl⟩ (fun v18 T19 H locs p20 hW hS => ?_)
    obtain ⟨hG, hFc, p20⟩ := p20
    have hF : Fr [] [401, 402, 403, 404, 405, 502, 503] S T19 := hF.tr (hFc.mono (by decide))
    refine pg_pi (ci := 4) (C := RX4) (T := TX4) (N := 6) hx hb hts wi4 tyX4 tyX4_ok nmX4 hown hK hW hS (hF.k hka (by decide)) (by decide) rfl 4 (by decide) (hts (.fieldLink RX5 61 "IceHall$Rights" "fee" "I") (by decide +kernel)) (fun _ h9 => h9) rfl rfl rfl dX5_readClause_130 (fun H locs hW hS => ?_)
    have kq21 : sK T19 a = 4 := (hF.k hka (by decide))
    obtain ⟨S22, eS22⟩ : ∃ T : St, T = stI T19 a 4 v18 := ⟨_, rfl⟩
    rw [← eS22] at hW
    have hG : G S22 := by rw [eS22]; exact hG.I kq21 (ok_fr (by decide))
    have hF : Fr [] [401, 402, 403, 404, 405, 502, 503] S S22 := by rw [eS22]; exact hF.I kq21 (by decide)
    clear eS22
    refine lv_iconst (v := 0) hx hb dX5_readClause_133 (by decide) ?_
    exact pc_iret (v := 0) (S := S22) hx hb hr hlk hK hZ hA hW hS (⟨hG, hF, trivial⟩) dX5_readClause_134
  by_cases c23 : v1 = 107
  · refine lv_lookup (off := 79) (tgt := 95) hx hb dX5_readClause_16 (by decide) (by rw [c23]; decide) (by decide) ?_
    refine lv_aload_n hx hb dX5_readClause_95 rfl (lv_at hl 2 rfl) ?_
    refine lv_aload_n hx hb dX5_readClause_96 rfl (lv_at hl 1 rfl) ?_
    refine lv_iconst (v := 3) hx hb dX5_readClause_97 (by decide) ?_
    refine lv_iconst (v := 4) hx hb dX5_readClause_98 (by decide) ?_
    refine pc_Vi (As := [.int 3, .int 4]) (rest := [.ref a]) F (b_X5_readDigits l D cy A S4 h 3 4 hG (hF.k hk (by decide))) (cwV 2 hts gX5_readClause_X5_readDigits rfl rfl rfl (by decide +kernel) ⟨Nat.le_of_ble_eq_true rfl, Nat.le_of_ble_eq_true rfl⟩) hK hZ hA hW hS (hF.k hk (by decide)) (by decide) rfl rfl hl.1 rfl (Nat.le_of_ble_eq_true rfl) dX5_readClause_99 ⟨Nat.le_of_ble_eq_true rfl, Nat.le_of_ble_eq_true rfl⟩ (fun v24 T25 H locs p26 hW hS => ?_)
    obtain ⟨hG, hFc, p26⟩ := p26
    have hF : Fr [] [401, 402, 403, 404, 405, 502, 503] S T25 := hF.tr (hFc.mono (by decide))
    refine pg_pi (ci := 4) (C := RX4) (T := TX4) (N := 6) hx hb hts wi4 tyX4 tyX4_ok nmX4 hown hK hW hS (hF.k hka (by decide)) (by decide) rfl 2 (by decide) (hts (.fieldLink RX5 52 "IceHall$Rights" "kinds" "I") (by decide +kernel)) (fun _ h9 => h9) rfl rfl rfl dX5_readClause_102 (fun H locs hW hS => ?_)
    have kq27 : sK T25 a = 4 := (hF.k hka (by decide))
    obtain ⟨S28, eS28⟩ : ∃ T : St, T = stI T25 a 2 v24 := ⟨_, rfl⟩
    rw [← eS28] at hW
    have hG : G S28 := by rw [eS28]; exact hG.I kq27 (ok_fr (by decide))
    have hF : Fr [] [401, 402, 403, 404, 405, 502, 503] S S28 := by rw [eS28]; exact hF.I kq27 (by decide)
    clear eS28
    refine lv_iconst (v := 0) hx hb dX5_readClause_105 (by decide) ?_
    exact pc_iret (v := 0) (S := S28) hx hb hr hlk hK hZ hA hW hS (⟨hG, hF, trivial⟩) dX5_readClause_106
  by_cases c29 : v1 = 110
  · refine lv_lookup (off := 91) (tgt := 107) hx hb dX5_readClause_16 (by decide) (by rw [c29]; decide) (by decide) ?_
    refine lv_aload_n hx hb dX5_readClause_107 rfl (lv_at hl 2 rfl) ?_
    refine lv_aload_n hx hb dX5_readClause_108 rfl (lv_at hl 1 rfl) ?_
    refine lv_iconst (v := 0) hx hb dX5_readClause_109 (by decide) ?_
    refine lv_sipush (v := 999) hx hb dX5_readClause_110 (by decide) ?_
    refine pc_Vi (As := [.int 0, .int 999]) (rest := [.ref a]) F (b_X5_readNumber l D cy A S4 h 0 999 hG (hF.k hk (by decide))) (cwV 2 hts gX5_readClause_X5_readNumber rfl rfl rfl (by decide +kernel) ⟨Nat.le_of_ble_eq_true rfl, Nat.le_of_ble_eq_true rfl⟩) hK hZ hA hW hS (hF.k hk (by decide)) (by decide) rfl rfl hl.1 rfl (Nat.le_of_ble_eq_true rfl) dX5_readClause_113 ⟨Nat.le_of_ble_eq_true rfl, Nat.le_of_ble_eq_true rfl⟩ (fun v30 T31 H locs p32 hW hS => ?_)
    obtain ⟨hG, hFc, p32⟩ := p32
    have hF : Fr [] [401, 402, 403, 404, 405, 502, 503] S T31 := hF.tr (hFc.mono (by decide))
    refine pg_pi (ci := 4) (C := RX4) (T := TX4) (N := 6) hx hb hts wi4 tyX4 tyX4_ok nmX4 hown hK hW hS (hF.k hka (by decide)) (by decide) rfl 3 (by decide) (hts (.fieldLink RX5 58 "IceHall$Rights" "inWeek" "I") (by decide +kernel)) (fun _ h9 => h9) rfl rfl rfl dX5_readClause_116 (fun H locs hW hS => ?_)
    have kq33 : sK T31 a = 4 := (hF.k hka (by decide))
    obtain ⟨S34, eS34⟩ : ∃ T : St, T = stI T31 a 3 v30 := ⟨_, rfl⟩
    rw [← eS34] at hW
    have hG : G S34 := by rw [eS34]; exact hG.I kq33 (ok_fr (by decide))
    have hF : Fr [] [401, 402, 403, 404, 405, 502, 503] S S34 := by rw [eS34]; exact hF.I kq33 (by decide)
    clear eS34
    refine lv_iconst (v := 0) hx hb dX5_readClause_119 (by decide) ?_
    exact pc_iret (v := 0) (S := S34) hx hb hr hlk hK hZ hA hW hS (⟨hG, hF, trivial⟩) dX5_readClause_120
  by_cases c35 : v1 = 119
  · refine lv_lookup (off := 60) (tgt := 76) hx hb dX5_readClause_16 (by decide) (by rw [c35]; decide) (by decide) ?_
    refine lv_aload_n hx hb dX5_readClause_76 rfl (lv_at hl 1 rfl) ?_
    refine pc_Vi (As := []) (rest := []) F (b_X5_readWindow l D cy A S4 h hG (hF.k hk (by decide))) (cwV 0 hts gX5_readClause_X5_readWindow rfl rfl rfl (by decide +kernel) ⟨Nat.le_of_ble_eq_true rfl, Nat.le_of_ble_eq_true rfl⟩) hK hZ hA hW hS (hF.k hk (by decide)) (by decide) rfl rfl hl.1 rfl (Nat.le_of_ble_eq_true rfl) dX5_readClause_77 ⟨Nat.le_of_ble_eq_true rfl, Nat.le_of_ble_eq_true rfl⟩ (fun v36 T37 H locs p38 hW hS => ?_)
    obtain ⟨hG, hFc, p38⟩ := p38
    have hF : Fr [] [401, 402, 403, 404, 405, 502, 503] S T37 := hF.tr (hFc.mono (by decide))
    exact pc_iret (v := v36) (S := T37) hx hb hr hlk hK hZ hA hW hS (⟨hG, hF, trivial⟩) dX5_readClause_80
  refine lv_lookup (off := 132) (tgt := 148) hx hb dX5_readClause_16 (by decide) (by have qc5 : ¬ (99 : Int) = Int32.toInt v1 := fun h9 => lv_neT c5 (a := 99) rfl h9.symm; have qc11 : ¬ (100 : Int) = Int32.toInt v1 := fun h9 => lv_neT c11 (a := 100) rfl h9.symm; have qc17 : ¬ (102 : Int) = Int32.toInt v1 := fun h9 => lv_neT c17 (a := 102) rfl h9.symm; have qc23 : ¬ (107 : Int) = Int32.toInt v1 := fun h9 => lv_neT c23 (a := 107) rfl h9.symm; have qc29 : ¬ (110 : Int) = Int32.toInt v1 := fun h9 => lv_neT c29 (a := 110) rfl h9.symm; have qc35 : ¬ (119 : Int) = Int32.toInt v1 := fun h9 => lv_neT c35 (a := 119) rfl h9.symm; show (if (99 : Int) = Int32.toInt v1 then (119 : Int) else if (100 : Int) = Int32.toInt v1 then (65 : Int) else if (102 : Int) = Int32.toInt v1 then (105 : Int) else if (107 : Int) = Int32.toInt v1 then (79 : Int) else if (110 : Int) = Int32.toInt v1 then (91 : Int) else if (119 : Int) = Int32.toInt v1 then (60 : Int) else (132 : Int)) = _; rw [if_neg qc5, if_neg qc11, if_neg qc17, if_neg qc23, if_neg qc29, if_neg qc35]) (by decide) ?_
  refine lv_aload_n hx hb dX5_readClause_148 rfl (lv_at hl 1 rfl) ?_
  refine lv_iconst (v := 1) hx hb dX5_readClause_149 (by decide) ?_
  refine lv_aload_n hx hb dX5_readClause_150 rfl (lv_at hl 1 rfl) ?_
  refine pg_gi (ci := 5) (C := RX5) (T := TX5) (N := 4) hx hb hts wi5 hown hK hW (hF.k hk (by decide)) (by decide) rfl 2 (by decide) (hts (.fieldLink RX5 19 "IceHall$RightsReader" "place" "I") (by decide +kernel)) (fun _ h9 => h9) rfl dX5_readClause_151 ?_
  refine lv_iconst (v := 1) hx hb dX5_readClause_154 (by decide) ?_
  refine lv_isub hx hb dX5_readClause_155 ?_
  refine pc_Vv (As := [.int 1, .int ((sI S4 h 2) - 1)]) (rest := []) F (b_X5_fail l D cy A S4 h 1 ((sI S4 h 2) - 1) hG (hF.k hk (by decide))) (cwV 2 hts gX5_readClause_X5_fail rfl rfl rfl (by decide +kernel) ⟨Nat.le_of_ble_eq_true rfl, Nat.le_of_ble_eq_true rfl⟩) hK hZ hA hW hS (hF.k hk (by decide)) (by decide) rfl rfl hl.1 rfl (Nat.le_of_ble_eq_true rfl) dX5_readClause_156 ⟨Nat.le_of_ble_eq_true rfl, Nat.le_of_ble_eq_true rfl⟩ (fun T40 H locs p41 hW hS => ?_)
  obtain ⟨hG, hFc, p41⟩ := p41
  have hF : Fr [] [401, 402, 403, 404, 405, 502, 503] S T40 := hF.tr (hFc.mono (by decide))
  refine lv_iconst (v := 0) hx hb dX5_readClause_159 (by decide) ?_
  exact pc_iret (v := 0) (S := T40) hx hb hr hlk hK hZ hA hW hS (⟨hG, hF, trivial⟩) dX5_readClause_160
set_option maxHeartbeats 4000000 in
set_option maxRecDepth 100000 in
theorem b_X5_readInto (l : Launch) (D : va_G) (cy : Nat → ClassId) (A : Nat → Prop) (S : St) (h a : Nat) (b : Int32) (hG0 : G S) (hk : sK S h = 5) (hka : sK S a = 4) : MI l yX5_readInto wsX5_readInto ({ frames := 5, cells := 0, slots := 0, locals := 110 } : Room) 0 0 D cy A [.ref h, .ref a, .int b] S (fun r S1 => G S1 ∧ Fr [] [400, 401, 402, 403, 404, 405, 501, 502, 503] S S1 ∧ True) := by
  refine mt_start (cc := cX5_readInto) (maxL := 6) (ret := (some .int)) (by decide) rfl (Nat.le_of_ble_eq_true rfl) ?_
  intro p e s m args below meth c hx hb hr hlk hml hown hnm hts hK hZ hA hW hS ls hl
  have hl : lv_has ls 6 [(0, .ref h), (1, .ref a), (2, .int b)] := hl
  have hown : s.vm.findClass RX5 = some m.cls := hown
  have F : CallFix p m c cX5_readInto 6 s args wsX5_readInto RX5 := ⟨hx, hb, hml, hown, hts⟩
  have wi4 : ∀ w ∈ u_ws RX4 TX4 6, w ∈ wsX5_readInto := by decide +kernel
  have wi5 : ∀ w ∈ u_ws RX5 TX5 4, w ∈ wsX5_readInto := by decide +kernel
  have hG := hG0
  have hF : Fr [] [400, 401, 402, 403, 404, 405, 501, 502, 503] S S := Fr.rf _ _ _
  refine lv_aload_n hx hb dX5_readInto_0 rfl (lv_at hl 0 rfl) ?_
  refine lv_iload_n hx hb dX5_readInto_1 rfl (lv_at hl 2 rfl) ?_
  refine pg_pi (ci := 5) (C := RX5) (T := TX5) (N := 4) hx hb hts wi5 tyX5 tyX5_ok nmX5 hown hK hW hS hk (by decide) rfl 1 (by decide) (hts (.fieldLink RX5 15 "IceHall$RightsReader" "end" "I") (by decide +kernel)) (fun _ h9 => h9) rfl rfl rfl dX5_readInto_2 (fun H locs hW hS => ?_)
  obtain ⟨S1, eS1⟩ : ∃ T : St, T = stI S h 1 b := ⟨_, rfl⟩
  rw [← eS1] at hW
  have hG : G S1 := by rw [eS1]; exact hG.I hk (ok_fr (by decide))
  have hF : Fr [] [400, 401, 402, 403, 404, 405, 501, 502, 503] S S1 := by rw [eS1]; exact hF.I hk (by decide)
  clear eS1
  refine lv_aload_n hx hb dX5_readInto_5 rfl (lv_at hl 0 rfl) ?_
  refine lv_iconst (v := 0) hx hb dX5_readInto_6 (by decide) ?_
  refine pg_pi (ci := 5) (C := RX5) (T := TX5) (N := 4) hx hb hts wi5 tyX5 tyX5_ok nmX5 hown hK hW hS (hF.k hk (by decide)) (by decide) rfl 2 (by decide) (hts (.fieldLink RX5 19 "IceHall$RightsReader" "place" "I") (by decide +kernel)) (fun _ h9 => h9) rfl rfl rfl dX5_readInto_7 (fun H locs hW hS => ?_)
  have kq2 : sK S1 h = 5 := (hF.k hk (by decide))
  obtain ⟨S3, eS3⟩ : ∃ T : St, T = stI S1 h 2 0 := ⟨_, rfl⟩
  rw [← eS3] at hW
  have hG : G S3 := by rw [eS3]; exact hG.I kq2 (ok_fr (by decide))
  have hF : Fr [] [400, 401, 402, 403, 404, 405, 501, 502, 503] S S3 := by rw [eS3]; exact hF.I kq2 (by decide)
  clear eS3
  refine lv_aload_n hx hb dX5_readInto_10 rfl (lv_at hl 0 rfl) ?_
  refine lv_iconst (v := 0) hx hb dX5_readInto_11 (by decide) ?_
  refine pg_pi (ci := 5) (C := RX5) (T := TX5) (N := 4) hx hb hts wi5 tyX5 tyX5_ok nmX5 hown hK hW hS (hF.k hk (by decide)) (by decide) rfl 3 (by decide) (hts (.fieldLink RX5 22 "IceHall$RightsReader" "fault" "I") (by decide +kernel)) (fun _ h9 => h9) rfl rfl rfl dX5_readInto_12 (fun H locs hW hS => ?_)
  have kq4 : sK S3 h = 5 := (hF.k hk (by decide))
  obtain ⟨S5, eS5⟩ : ∃ T : St, T = stI S3 h 3 0 := ⟨_, rfl⟩
  rw [← eS5] at hW
  have hG : G S5 := by rw [eS5]; exact hG.I kq4 (ok_fr (by decide))
  have hF : Fr [] [400, 401, 402, 403, 404, 405, 501, 502, 503] S S5 := by rw [eS5]; exact hF.I kq4 (by decide)
  clear eS5
  refine lv_iconst (v := 0) hx hb dX5_readInto_15 (by decide) ?_
  refine lv_istore_n (lv' := [(3, .int 0), (0, .ref h), (1, .ref a), (2, .int b)]) hx hb dX5_readInto_16 rfl hl (by decide) rfl (fun ls hl => ?_)
  refine lv_iconst (v := 1) hx hb dX5_readInto_17 (by decide) ?_
  refine lv_istore (lv' := [(4, .int 1), (3, .int 0), (0, .ref h), (1, .ref a), (2, .int b)]) hx hb dX5_readInto_18 hl (by decide) rfl (fun ls hl => ?_)
  refine lv_iconst (v := 0) hx hb dX5_readInto_20 (by decide) ?_
  refine lv_istore (lv' := [(5, .int 0), (4, .int 1), (3, .int 0), (0, .ref h), (1, .ref a), (2, .int b)]) hx hb dX5_readInto_21 hl (by decide) rfl (fun ls hl => ?_)
  have hE6 : Fr [] [400, 401, 402, 403, 404, 405, 501, 502, 503] S5 S5 := Fr.rf _ _ _
  have loop23 : ∀ (zn : Nat) (z : Int32) (w : Int32) (y : Int32) (L23 : St) (H : Heap) (locs : List Loc) (ls : Array Slot), (G L23) → (Fr [] [400, 401, 402, 403, 404, 405, 501, 502, 503] S5 L23) → (0 ≤ y.toInt) → (81 - y.toInt).toNat < zn → PW D cy A L23 H → va_S A s.heap H locs → lv_has ls 6 [(0, .ref h), (1, .ref a), (2, .int b), (3, .int z), (4, .int w), (5, .int y)] → W p l e ({ frames := 5, cells := 0, slots := 0, locals := 110 } : Room) s m args below meth c H locs 0 0 (MQ below (va_Qi (fun r S1 => G S1 ∧ Fr [] [400, 401, 402, 403, 404, 405, 501, 502, 503] S S1 ∧ True) (PU D cy A) A) args s 0 0 A) (F0 m 23 ls []) := by
    intro zn
    induction zn with
    | zero => intros; exact absurd (by assumption) (Nat.not_lt_zero _)
    | succ zn ih23 =>
      intro z w y L23 H locs ls hG hL23 hy0 hme23 hW hS hl
      have hF : Fr [] [400, 401, 402, 403, 404, 405, 501, 502, 503] S L23 := hF.tr hL23
      have hE6 := hL23
      refine lv_iload hx hb dX5_readInto_23 (lv_at hl 5 rfl) ?_
      refine lv_bipush (v := 80) hx hb dX5_readInto_25 (by decide) ?_
      refine lv_icmp_gt (tgt := 70) hx hb dX5_readInto_27 (by decide) (fun c7 => ?_) (fun c7 => ?_)
      · have c7i : (80 : Int) < Int32.toInt y := (i3_lt _ _).mp c7
        refine lv_iload_n hx hb dX5_readInto_70 rfl (lv_at hl 3 rfl) ?_
        refine lv_if_eq (tgt := 79) hx hb dX5_readInto_71 (by decide) (fun c8 => ?_) (fun c8 => ?_)
        · have c8i : Int32.toInt z = (0 : Int) := (i3_eq _ _).mp c8
          refine lv_aload_n hx hb dX5_readInto_79 rfl (lv_at hl 0 rfl) ?_
          refine pg_gi (ci := 5) (C := RX5) (T := TX5) (N := 4) hx hb hts wi5 hown hK hW (hF.k hk (by decide)) (by decide) rfl 3 (by decide) (hts (.fieldLink RX5 22 "IceHall$RightsReader" "fault" "I") (by decide +kernel)) (fun _ h9 => h9) rfl dX5_readInto_80 ?_
          exact pc_iret (v := sI L23 h 3) (S := L23) hx hb hr hlk hK hZ hA hW hS (⟨hG, hF, trivial⟩) dX5_readInto_83
        · have c8i : ¬ (Int32.toInt z = (0 : Int)) := fun h9 => c8 ((i3_eq _ _).mpr h9)
          refine lv_aload_n hx hb dX5_readInto_74 rfl (lv_at hl 1 rfl) ?_
          refine lv_iload_n hx hb dX5_readInto_75 rfl (lv_at hl 3 rfl) ?_
          refine pg_pi (ci := 4) (C := RX4) (T := TX4) (N := 6) hx hb hts wi4 tyX4 tyX4_ok nmX4 hown hK hW hS (hF.k hka (by decide)) (by decide) rfl 0 (by decide) (hts (.fieldLink RX5 33 "IceHall$Rights" "clocks" "I") (by decide +kernel)) (fun _ h9 => h9) rfl rfl rfl dX5_readInto_76 (fun H locs hW hS => ?_)
          have kq9 : sK L23 a = 4 := (hF.k hka (by decide))
          obtain ⟨S10, eS10⟩ : ∃ T : St, T = stI L23 a 0 z := ⟨_, rfl⟩
          rw [← eS10] at hW
          have hG : G S10 := by rw [eS10]; exact hG.I kq9 (ok_fr (by decide))
          have hF : Fr [] [400, 401, 402, 403, 404, 405, 501, 502, 503] S S10 := by rw [eS10]; exact hF.I kq9 (by decide)
          have hE6 : Fr [] [400, 401, 402, 403, 404, 405, 501, 502, 503] S5 S10 := by rw [eS10]; exact hE6.I kq9 (by decide)
          clear eS10
          refine lv_aload_n hx hb dX5_readInto_79 rfl (lv_at hl 0 rfl) ?_
          refine pg_gi (ci := 5) (C := RX5) (T := TX5) (N := 4) hx hb hts wi5 hown hK hW (hF.k hk (by decide)) (by decide) rfl 3 (by decide) (hts (.fieldLink RX5 22 "IceHall$RightsReader" "fault" "I") (by decide +kernel)) (fun _ h9 => h9) rfl dX5_readInto_80 ?_
          exact pc_iret (v := sI S10 h 3) (S := S10) hx hb hr hlk hK hZ hA hW hS (⟨hG, hF, trivial⟩) dX5_readInto_83
      · have c7i : ¬ ((80 : Int) < Int32.toInt y) := fun h9 => c7 ((i3_lt _ _).mpr h9)
        refine lv_iload hx hb dX5_readInto_30 (lv_at hl 4 rfl) ?_
        refine lv_if_eq (tgt := 70) hx hb dX5_readInto_32 (by decide) (fun c11 => ?_) (fun c11 => ?_)
        · have c11i : Int32.toInt w = (0 : Int) := (i3_eq _ _).mp c11
          refine lv_iload_n hx hb dX5_readInto_70 rfl (lv_at hl 3 rfl) ?_
          refine lv_if_eq (tgt := 79) hx hb dX5_readInto_71 (by decide) (fun c12 => ?_) (fun c12 => ?_)
          · have c12i : Int32.toInt z = (0 : Int) := (i3_eq _ _).mp c12
            refine lv_aload_n hx hb dX5_readInto_79 rfl (lv_at hl 0 rfl) ?_
            refine pg_gi (ci := 5) (C := RX5) (T := TX5) (N := 4) hx hb hts wi5 hown hK hW (hF.k hk (by decide)) (by decide) rfl 3 (by decide) (hts (.fieldLink RX5 22 "IceHall$RightsReader" "fault" "I") (by decide +kernel)) (fun _ h9 => h9) rfl dX5_readInto_80 ?_
            exact pc_iret (v := sI L23 h 3) (S := L23) hx hb hr hlk hK hZ hA hW hS (⟨hG, hF, trivial⟩) dX5_readInto_83
          · have c12i : ¬ (Int32.toInt z = (0 : Int)) := fun h9 => c12 ((i3_eq _ _).mpr h9)
            refine lv_aload_n hx hb dX5_readInto_74 rfl (lv_at hl 1 rfl) ?_
            refine lv_iload_n hx hb dX5_readInto_75 rfl (lv_at hl 3 rfl) ?_
            refine pg_pi (ci := 4) (C := RX4) (T := TX4) (N := 6) hx hb hts wi4 tyX4 tyX4_ok nmX4 hown hK hW hS (hF.k hka (by decide)) (by decide) rfl 0 (by decide) (hts (.fieldLink RX5 33 "IceHall$Rights" "clocks" "I") (by decide +kernel)) (fun _ h9 => h9) rfl rfl rfl dX5_readInto_76 (fun H locs hW hS => ?_)
            have kq13 : sK L23 a = 4 := (hF.k hka (by decide))
            obtain ⟨S14, eS14⟩ : ∃ T : St, T = stI L23 a 0 z := ⟨_, rfl⟩
            rw [← eS14] at hW
            have hG : G S14 := by rw [eS14]; exact hG.I kq13 (ok_fr (by decide))
            have hF : Fr [] [400, 401, 402, 403, 404, 405, 501, 502, 503] S S14 := by rw [eS14]; exact hF.I kq13 (by decide)
            have hE6 : Fr [] [400, 401, 402, 403, 404, 405, 501, 502, 503] S5 S14 := by rw [eS14]; exact hE6.I kq13 (by decide)
            clear eS14
            refine lv_aload_n hx hb dX5_readInto_79 rfl (lv_at hl 0 rfl) ?_
            refine pg_gi (ci := 5) (C := RX5) (T := TX5) (N := 4) hx hb hts wi5 hown hK hW (hF.k hk (by decide)) (by decide) rfl 3 (by decide) (hts (.fieldLink RX5 22 "IceHall$RightsReader" "fault" "I") (by decide +kernel)) (fun _ h9 => h9) rfl dX5_readInto_80 ?_
            exact pc_iret (v := sI S14 h 3) (S := S14) hx hb hr hlk hK hZ hA hW hS (⟨hG, hF, trivial⟩) dX5_readInto_83
        · have c11i : ¬ (Int32.toInt w = (0 : Int)) := fun h9 => c11 ((i3_eq _ _).mpr h9)
          refine lv_iload_n hx hb dX5_readInto_35 rfl (lv_at hl 3 rfl) ?_
          refine lv_aload_n hx hb dX5_readInto_36 rfl (lv_at hl 0 rfl) ?_
          refine lv_aload_n hx hb dX5_readInto_37 rfl (lv_at hl 1 rfl) ?_
          refine pc_Vi (As := [.ref a]) (rest := [.int z]) F (b_X5_readClause l D cy A L23 h a hG (hF.k hk (by decide)) (hF.k hka (by decide))) (cwV 1 hts gX5_readInto_X5_readClause rfl rfl rfl (by decide +kernel) ⟨Nat.le_of_ble_eq_true rfl, Nat.le_of_ble_eq_true rfl⟩) hK hZ hA hW hS (hF.k hk (by decide)) (by decide) rfl rfl hl.1 rfl (Nat.le_of_ble_eq_true rfl) dX5_readInto_38 ⟨Nat.le_of_ble_eq_true rfl, Nat.le_of_ble_eq_true rfl⟩ (fun v15 T16 H locs p17 hW hS => ?_)
          obtain ⟨hG, hFc, p17⟩ := p17
          have hF : Fr [] [400, 401, 402, 403, 404, 405, 501, 502, 503] S T16 := hF.tr (hFc.mono (by decide))
          have hE6 : Fr [] [400, 401, 402, 403, 404, 405, 501, 502, 503] S5 T16 := hE6.tr (hFc.mono (by decide))
          refine lv_ior hx hb dX5_readInto_41 ?_
          refine lv_istore_n (lv' := [(3, .int (z ||| v15)), (0, .ref h), (1, .ref a), (2, .int b), (4, .int w), (5, .int y)]) hx hb dX5_readInto_42 rfl hl (by decide) rfl (fun ls hl => ?_)
          refine lv_aload_n hx hb dX5_readInto_43 rfl (lv_at hl 1 rfl) ?_
          refine pg_gi (ci := 5) (C := RX5) (T := TX5) (N := 4) hx hb hts wi5 hown hK hW (hF.k hk (by decide)) (by decide) rfl 3 (by decide) (hts (.fieldLink RX5 22 "IceHall$RightsReader" "fault" "I") (by decide +kernel)) (fun _ h9 => h9) rfl dX5_readInto_44 ?_
          refine lv_if_ne (tgt := 61) hx hb dX5_readInto_47 (by decide) (fun c18 => ?_) (fun c18 => ?_)
          · have c18i : ¬ (Int32.toInt (sI T16 h 3) = (0 : Int)) := fun h9 => c18 ((i3_eq _ _).mpr h9)
            refine lv_iconst (v := 0) hx hb dX5_readInto_61 (by decide) ?_
            refine lv_istore (lv' := [(4, .int 0), (3, .int (z ||| v15)), (0, .ref h), (1, .ref a), (2, .int b), (5, .int y)]) hx hb dX5_readInto_62 hl (by decide) rfl (fun ls hl => ?_)
            refine lv_iinc (v := y + 1) (lv' := [(5, .int (y + 1)), (4, .int 0), (3, .int (z ||| v15)), (0, .ref h), (1, .ref a), (2, .int b)]) hx hb dX5_readInto_64 hl (k := 5) rfl rfl (by decide) rfl (fun ls hl => ?_)
            have i19 : (y + 1).toInt = (y).toInt + 1 := i3_add rfl rfl (by omega) (by omega)
            refine lv_goto (tgt := 23) hx hb dX5_readInto_67 (by decide) ?_
            exact ih23 (z ||| v15) 0 (y + 1) T16 _ _ ls hG hE6 (by omega) (by omega) hW hS (lv_cast (lv_sub hl [3, 4, 5, 2, 1, 0] rfl) (rfl))
          · have c18i : Int32.toInt (sI T16 h 3) = (0 : Int) := (i3_eq _ _).mp c18
            refine lv_aload_n hx hb dX5_readInto_50 rfl (lv_at hl 1 rfl) ?_
            refine pc_Vi (As := []) (rest := []) F (b_X5_readOn l D cy A T16 h hG (hF.k hk (by decide))) (cwV 0 hts gX5_readInto_X5_readOn rfl rfl rfl (by decide +kernel) ⟨Nat.le_of_ble_eq_true rfl, Nat.le_of_ble_eq_true rfl⟩) hK hZ hA hW hS (hF.k hk (by decide)) (by decide) rfl rfl hl.1 rfl (Nat.le_of_ble_eq_true rfl) dX5_readInto_51 ⟨Nat.le_of_ble_eq_true rfl, Nat.le_of_ble_eq_true rfl⟩ (fun v20 T21 H locs p22 hW hS => ?_)
            obtain ⟨hG, hFc, p22⟩ := p22
            have hF : Fr [] [400, 401, 402, 403, 404, 405, 501, 502, 503] S T21 := hF.tr (hFc.mono (by decide))
            have hE6 : Fr [] [400, 401, 402, 403, 404, 405, 501, 502, 503] S5 T21 := hE6.tr (hFc.mono (by decide))
            refine lv_if_eq (tgt := 61) hx hb dX5_readInto_54 (by decide) (fun c23 => ?_) (fun c23 => ?_)
            · have c23i : Int32.toInt v20 = (0 : Int) := (i3_eq _ _).mp c23
              refine lv_iconst (v := 0) hx hb dX5_readInto_61 (by decide) ?_
              refine lv_istore (lv' := [(4, .int 0), (3, .int (z ||| v15)), (0, .ref h), (1, .ref a), (2, .int b), (5, .int y)]) hx hb dX5_readInto_62 hl (by decide) rfl (fun ls hl => ?_)
              refine lv_iinc (v := y + 1) (lv' := [(5, .int (y + 1)), (4, .int 0), (3, .int (z ||| v15)), (0, .ref h), (1, .ref a), (2, .int b)]) hx hb dX5_readInto_64 hl (k := 5) rfl rfl (by decide) rfl (fun ls hl => ?_)
              have i24 : (y + 1).toInt = (y).toInt + 1 := i3_add rfl rfl (by omega) (by omega)
              refine lv_goto (tgt := 23) hx hb dX5_readInto_67 (by decide) ?_
              exact ih23 (z ||| v15) 0 (y + 1) T21 _ _ ls hG hE6 (by omega) (by omega) hW hS (lv_cast (lv_sub hl [3, 4, 5, 2, 1, 0] rfl) (rfl))
            · have c23i : ¬ (Int32.toInt v20 = (0 : Int)) := fun h9 => c23 ((i3_eq _ _).mpr h9)
              refine lv_iconst (v := 1) hx hb dX5_readInto_57 (by decide) ?_
              refine lv_goto (tgt := 62) hx hb dX5_readInto_58 (by decide) ?_
              refine lv_istore (lv' := [(4, .int 1), (3, .int (z ||| v15)), (0, .ref h), (1, .ref a), (2, .int b), (5, .int y)]) hx hb dX5_readInto_62 hl (by decide) rfl (fun ls hl => ?_)
              refine lv_iinc (v := y + 1) (lv' := [(5, .int (y + 1)), (4, .int 1), (3, .int (z ||| v15)), (0, .ref h), (1, .ref a), (2, .int b)]) hx hb dX5_readInto_64 hl (k := 5) rfl rfl (by decide) rfl (fun ls hl => ?_)
              have i25 : (y + 1).toInt = (y).toInt + 1 := i3_add rfl rfl (by omega) (by omega)
              refine lv_goto (tgt := 23) hx hb dX5_readInto_67 (by decide) ?_
              exact ih23 (z ||| v15) 1 (y + 1) T21 _ _ ls hG hE6 (by omega) (by omega) hW hS (lv_cast (lv_sub hl [3, 4, 5, 2, 1, 0] rfl) (rfl))
  exact loop23 _ 0 1 0 S5 _ _ ls hG hE6 (by decide) (Nat.lt_succ_self _) hW hS (lv_cast (lv_sub hl [3, 4, 5, 2, 1, 0] rfl) (rfl))
set_option maxHeartbeats 4000000 in
set_option maxRecDepth 100000 in
theorem b_X7_addWord (l : Launch) (D : va_G) (cy : Nat → ClassId) (A : Nat → Prop) (S : St) (h : Nat) (a : Int32) (hG0 : G S) (hk : sK S h = 7) (hs : (sI S h 1).toInt ≤ 76) : MV l yX7_addWord wsX7_addWord ({ frames := 1, cells := 0, slots := 0, locals := 21 } : Room) 0 0 D cy A [.ref h, .int a] S (fun S1 => G S1 ∧ Fr [] [701, 1000] S S1 ∧ ((sI S1 h 1).toInt = (sI S h 1).toInt + 4)) := by
  refine mt_start (cc := cX7_addWord) (maxL := 3) (ret := none) (by decide) rfl (Nat.le_of_ble_eq_true rfl) ?_
  intro p e s m args below meth c hx hb hr hlk hml hown hnm hts hK hZ hA hW hS ls hl
  have hl : lv_has ls 3 [(0, .ref h), (1, .int a)] := hl
  have hown : s.vm.findClass RX7 = some m.cls := hown
  have F : CallFix p m c cX7_addWord 3 s args wsX7_addWord RX7 := ⟨hx, hb, hml, hown, hts⟩
  have wi7 : ∀ w ∈ u_ws RX7 TX7 2, w ∈ wsX7_addWord := by decide +kernel
  have hG := hG0
  have hF : Fr [] [701, 1000] S S := Fr.rf _ _ _
  have g1 : (0 : Int) ≤ (sI S h 1).toInt ∧ (sI S h 1).toInt ≤ 80 := hG0.i hk (by decide) 1 (by decide)
  refine lv_bipush (v := 24) hx hb dX7_addWord_0 (by decide) ?_
  refine lv_istore_n (lv' := [(2, .int 24), (0, .ref h), (1, .int a)]) hx hb dX7_addWord_2 rfl hl (by decide) rfl (fun ls hl => ?_)
  refine lv_iload_n hx hb dX7_addWord_3 rfl (lv_at hl 0 rfl) ?_
  refine lv_if_lt (tgt := 48) hx hb dX7_addWord_4 (by decide) (fun c2 => absurd c2 (by decide)) (fun c2 => ?_)
  refine lv_aload_n hx hb dX7_addWord_7 rfl (lv_at hl 1 rfl) ?_
  refine pg_gi (ci := 7) (C := RX7) (T := TX7) (N := 2) hx hb hts wi7 hown hK hW hk (by decide) rfl 1 (by decide) (hts (.fieldLink RX7 15 "IceHall$Tape" "size" "I") (by decide +kernel)) (fun _ h9 => h9) rfl dX7_addWord_8 ?_
  rw [show sI S h 1 = sI S h 1 from rfl]
  refine lv_bipush (v := 80) hx hb dX7_addWord_11 (by decide) ?_
  refine pc_Ni (As := [.int (sI S h 1), .int 80]) (rest := []) F (b_X8_isBelow l D cy A S (sI S h 1) 80 ) ⟨va_cnB 2 hts gX7_addWord_X8_isBelow_n19 rfl rfl rfl hZ.2.2.2.2.2.2.2.2.2.2.2.1 (hts (.initialized RX8) (by decide +kernel)) (by decide +kernel) ⟨Nat.le_of_ble_eq_true rfl, Nat.le_of_ble_eq_true rfl⟩, hts (.static yX8_isBelow) (by decide +kernel), trivial⟩ hK hZ hA hW hS rfl hl.1 rfl (Nat.le_of_ble_eq_true rfl) dX7_addWord_13 ⟨Nat.le_of_ble_eq_true rfl, Nat.le_of_ble_eq_true rfl⟩ (fun v3 T4 H locs p5 hW hS => ?_)
  obtain ⟨eT4, p5⟩ := p5
  rw [eT4] at hW
  clear eT4
  have p5 := isb_lit (n := 80) rfl p5
  refine lv_if_eq (tgt := 42) hx hb dX7_addWord_16 (by decide) (fun c6 => absurd c6 (by intro h9; have h8 : v3.toInt = (0 : Int) := (i3_eq _ _).mp h9; omega)) (fun c6 => ?_)
  refine lv_aload_n hx hb dX7_addWord_19 rfl (lv_at hl 1 rfl) ?_
  obtain ⟨b7, rb7, kb7, nb7⟩ := hG0.r hk List.not_mem_nil 0 (show rty 7 0 = some (10, 80) from rfl)
  refine pg_gr (b := b7) (ci := 7) (C := RX7) (T := TX7) (N := 2) hx hb hts wi7 hown hK hW hk (by decide) rfl 0 (by decide) (hts (.fieldLink RX7 9 "IceHall$Tape" "bytes" "[B") (by decide +kernel)) (fun _ h9 => h9) rfl rb7 dX7_addWord_20 ?_
  refine lv_aload_n hx hb dX7_addWord_23 rfl (lv_at hl 1 rfl) ?_
  refine pg_gi (ci := 7) (C := RX7) (T := TX7) (N := 2) hx hb hts wi7 hown hK hW hk (by decide) rfl 1 (by decide) (hts (.fieldLink RX7 15 "IceHall$Tape" "size" "I") (by decide +kernel)) (fun _ h9 => h9) rfl dX7_addWord_24 ?_
  rw [show sI S h 1 = sI S h 1 from rfl]
  refine lv_iload_n hx hb dX7_addWord_27 rfl (lv_at hl 2 rfl) ?_
  refine lv_iload_n hx hb dX7_addWord_28 rfl (lv_at hl 0 rfl) ?_
  refine lv_ishr hx hb dX7_addWord_29 ?_
  refine lv_i2b (v := Int8.toInt32 (Int32.toInt8 (a >>> (24 &&& 31)))) hx hb dX7_addWord_30 rfl ?_
  refine pg_bast hx hb hK hW hS kb7 (by rw [show sL S b7 = 80 from nb7]; exact r_in (by omega)) dX7_addWord_31 (fun H locs hW hS => ?_)
  obtain ⟨S8, eS8⟩ : ∃ T : St, T = stI S b7 (Int32.toNatClampNeg (sI S h 1)) (vp_nar .byte (Int8.toInt32 (Int32.toInt8 (a >>> (24 &&& 31))))) := ⟨_, rfl⟩
  rw [← eS8] at hW
  have hG : G S8 := by rw [eS8]; exact hG.I kb7 (ok_frA (by decide) (by decide))
  have w9 : sI S8 h 1 = sI S h 1 := by rw [eS8]; exact (iI_a (fk_ne hk kb7 (by decide))).trans rfl
  have hF : Fr [] [701, 1000] S S8 := by rw [eS8]; exact hF.IA kb7 (by decide) (by decide)
  clear eS8
  refine lv_aload_n hx hb dX7_addWord_32 rfl (lv_at hl 1 rfl) ?_
  refine lv_dup hx hb dX7_addWord_33 rfl ?_
  refine pg_gi (ci := 7) (C := RX7) (T := TX7) (N := 2) hx hb hts wi7 hown hK hW (hF.k hk (by decide)) (by decide) rfl 1 (by decide) (hts (.fieldLink RX7 15 "IceHall$Tape" "size" "I") (by decide +kernel)) (fun _ h9 => h9) rfl dX7_addWord_34 ?_
  rw [show sI S8 h 1 = sI S h 1 from w9]
  refine lv_iconst (v := 1) hx hb dX7_addWord_37 (by decide) ?_
  refine lv_iadd hx hb dX7_addWord_38 ?_
  have l10 : ((sI S h 1) + 1).toInt = Int32.toInt (sI S h 1) + (1 : Int) := i3_add rfl rfl (by omega) (by omega)
  refine pg_pi (ci := 7) (C := RX7) (T := TX7) (N := 2) hx hb hts wi7 tyX7 tyX7_ok nmX7 hown hK hW hS (hF.k hk (by decide)) (by decide) rfl 1 (by decide) (hts (.fieldLink RX7 15 "IceHall$Tape" "size" "I") (by decide +kernel)) (fun _ h9 => h9) rfl rfl rfl dX7_addWord_39 (fun H locs hW hS => ?_)
  have kq11 : sK S8 h = 7 := (hF.k hk (by decide))
  obtain ⟨S12, eS12⟩ : ∃ T : St, T = stI S8 h 1 ((sI S h 1) + 1) := ⟨_, rfl⟩
  rw [← eS12] at hW
  have hG : G S12 := by rw [eS12]; exact hG.I kq11 (ok_in 0 80 (by decide) (⟨by omega, by omega⟩))
  have hF : Fr [] [701, 1000] S S12 := by rw [eS12]; exact hF.I kq11 (by decide)
  have w13 : sI S12 h 1 = (sI S h 1) + 1 := by rw [eS12]; exact iI_s
  clear eS12
  refine lv_iinc (v := 16) (lv' := [(2, .int 16), (0, .ref h), (1, .int a)]) hx hb dX7_addWord_42 hl (k := 0) rfl (by decide) (by decide) rfl (fun ls hl => ?_)
  refine lv_goto (tgt := 3) hx hb dX7_addWord_45 (by decide) ?_
  refine lv_iload_n hx hb dX7_addWord_3 rfl (lv_at hl 0 rfl) ?_
  refine lv_if_lt (tgt := 48) hx hb dX7_addWord_4 (by decide) (fun c14 => absurd c14 (by decide)) (fun c14 => ?_)
  refine lv_aload_n hx hb dX7_addWord_7 rfl (lv_at hl 1 rfl) ?_
  refine pg_gi (ci := 7) (C := RX7) (T := TX7) (N := 2) hx hb hts wi7 hown hK hW (hF.k hk (by decide)) (by decide) rfl 1 (by decide) (hts (.fieldLink RX7 15 "IceHall$Tape" "size" "I") (by decide +kernel)) (fun _ h9 => h9) rfl dX7_addWord_8 ?_
  rw [show sI S12 h 1 = (sI S h 1) + 1 from w13]
  refine lv_bipush (v := 80) hx hb dX7_addWord_11 (by decide) ?_
  have lk15 : (sI S12 h 1).toInt = ((sI S h 1) + 1).toInt := by rw [show sI S12 h 1 = (sI S h 1) + 1 from w13]
  refine pc_Ni (As := [.int ((sI S h 1) + 1), .int 80]) (rest := []) F (b_X8_isBelow l D cy A S12 ((sI S h 1) + 1) 80 ) ⟨va_cnB 2 hts gX7_addWord_X8_isBelow_n19 rfl rfl rfl hZ.2.2.2.2.2.2.2.2.2.2.2.1 (hts (.initialized RX8) (by decide +kernel)) (by decide +kernel) ⟨Nat.le_of_ble_eq_true rfl, Nat.le_of_ble_eq_true rfl⟩, hts (.static yX8_isBelow) (by decide +kernel), trivial⟩ hK hZ hA hW hS rfl hl.1 rfl (Nat.le_of_ble_eq_true rfl) dX7_addWord_13 ⟨Nat.le_of_ble_eq_true rfl, Nat.le_of_ble_eq_true rfl⟩ (fun v16 T17 H locs p18 hW hS => ?_)
  obtain ⟨eT17, p18⟩ := p18
  rw [eT17] at hW
  clear eT17
  have p18 := isb_lit (n := 80) rfl p18
  refine lv_if_eq (tgt := 42) hx hb dX7_addWord_16 (by decide) (fun c19 => absurd c19 (by intro h9; have h8 : v16.toInt = (0 : Int) := (i3_eq _ _).mp h9; omega)) (fun c19 => ?_)
  refine lv_aload_n hx hb dX7_addWord_19 rfl (lv_at hl 1 rfl) ?_
  refine pg_gr (b := b7) (ci := 7) (C := RX7) (T := TX7) (N := 2) hx hb hts wi7 hown hK hW (hF.k hk (by decide)) (by decide) rfl 0 (by decide) (hts (.fieldLink RX7 9 "IceHall$Tape" "bytes" "[B") (by decide +kernel)) (fun _ h9 => h9) rfl (hF.r hk (by decide) rb7) dX7_addWord_20 ?_
  refine lv_aload_n hx hb dX7_addWord_23 rfl (lv_at hl 1 rfl) ?_
  refine pg_gi (ci := 7) (C := RX7) (T := TX7) (N := 2) hx hb hts wi7 hown hK hW (hF.k hk (by decide)) (by decide) rfl 1 (by decide) (hts (.fieldLink RX7 15 "IceHall$Tape" "size" "I") (by decide +kernel)) (fun _ h9 => h9) rfl dX7_addWord_24 ?_
  rw [show sI S12 h 1 = (sI S h 1) + 1 from w13]
  refine lv_iload_n hx hb dX7_addWord_27 rfl (lv_at hl 2 rfl) ?_
  refine lv_iload_n hx hb dX7_addWord_28 rfl (lv_at hl 0 rfl) ?_
  refine lv_ishr hx hb dX7_addWord_29 ?_
  refine lv_i2b (v := Int8.toInt32 (Int32.toInt8 (a >>> (16 &&& 31)))) hx hb dX7_addWord_30 rfl ?_
  refine pg_bast hx hb hK hW hS (hF.k kb7 (by decide)) (by rw [show sL S12 b7 = 80 from (hF.n kb7 (by decide) nb7)]; exact r_in (by omega)) dX7_addWord_31 (fun H locs hW hS => ?_)
  have kq20 : sK S12 b7 = 10 := (hF.k kb7 (by decide))
  obtain ⟨S21, eS21⟩ : ∃ T : St, T = stI S12 b7 (Int32.toNatClampNeg ((sI S h 1) + 1)) (vp_nar .byte (Int8.toInt32 (Int32.toInt8 (a >>> (16 &&& 31))))) := ⟨_, rfl⟩
  rw [← eS21] at hW
  have hG : G S21 := by rw [eS21]; exact hG.I kq20 (ok_frA (by decide) (by decide))
  have w22 : sI S21 h 1 = (sI S h 1) + 1 := by rw [eS21]; exact (iI_a (fk_ne (hF.k hk (by decide)) kq20 (by decide))).trans w13
  have hF : Fr [] [701, 1000] S S21 := by rw [eS21]; exact hF.IA kq20 (by decide) (by decide)
  clear eS21
  refine lv_aload_n hx hb dX7_addWord_32 rfl (lv_at hl 1 rfl) ?_
  refine lv_dup hx hb dX7_addWord_33 rfl ?_
  refine pg_gi (ci := 7) (C := RX7) (T := TX7) (N := 2) hx hb hts wi7 hown hK hW (hF.k hk (by decide)) (by decide) rfl 1 (by decide) (hts (.fieldLink RX7 15 "IceHall$Tape" "size" "I") (by decide +kernel)) (fun _ h9 => h9) rfl dX7_addWord_34 ?_
  rw [show sI S21 h 1 = (sI S h 1) + 1 from w22]
  refine lv_iconst (v := 1) hx hb dX7_addWord_37 (by decide) ?_
  refine lv_iadd hx hb dX7_addWord_38 ?_
  have l23 : (((sI S h 1) + 1) + 1).toInt = Int32.toInt ((sI S h 1) + 1) + (1 : Int) := i3_add rfl rfl (by omega) (by omega)
  refine pg_pi (ci := 7) (C := RX7) (T := TX7) (N := 2) hx hb hts wi7 tyX7 tyX7_ok nmX7 hown hK hW hS (hF.k hk (by decide)) (by decide) rfl 1 (by decide) (hts (.fieldLink RX7 15 "IceHall$Tape" "size" "I") (by decide +kernel)) (fun _ h9 => h9) rfl rfl rfl dX7_addWord_39 (fun H locs hW hS => ?_)
  have kq24 : sK S21 h = 7 := (hF.k hk (by decide))
  obtain ⟨S25, eS25⟩ : ∃ T : St, T = stI S21 h 1 (((sI S h 1) + 1) + 1) := ⟨_, rfl⟩
  rw [← eS25] at hW
  have hG : G S25 := by rw [eS25]; exact hG.I kq24 (ok_in 0 80 (by decide) (⟨by omega, by omega⟩))
  have hF : Fr [] [701, 1000] S S25 := by rw [eS25]; exact hF.I kq24 (by decide)
  have w26 : sI S25 h 1 = ((sI S h 1) + 1) + 1 := by rw [eS25]; exact iI_s
  clear eS25
  refine lv_iinc (v := 8) (lv' := [(2, .int 8), (0, .ref h), (1, .int a)]) hx hb dX7_addWord_42 hl (k := 0) rfl (by decide) (by decide) rfl (fun ls hl => ?_)
  refine lv_goto (tgt := 3) hx hb dX7_addWord_45 (by decide) ?_
  refine lv_iload_n hx hb dX7_addWord_3 rfl (lv_at hl 0 rfl) ?_
  refine lv_if_lt (tgt := 48) hx hb dX7_addWord_4 (by decide) (fun c27 => absurd c27 (by decide)) (fun c27 => ?_)
  refine lv_aload_n hx hb dX7_addWord_7 rfl (lv_at hl 1 rfl) ?_
  refine pg_gi (ci := 7) (C := RX7) (T := TX7) (N := 2) hx hb hts wi7 hown hK hW (hF.k hk (by decide)) (by decide) rfl 1 (by decide) (hts (.fieldLink RX7 15 "IceHall$Tape" "size" "I") (by decide +kernel)) (fun _ h9 => h9) rfl dX7_addWord_8 ?_
  rw [show sI S25 h 1 = ((sI S h 1) + 1) + 1 from w26]
  refine lv_bipush (v := 80) hx hb dX7_addWord_11 (by decide) ?_
  have lk28 : (sI S25 h 1).toInt = (((sI S h 1) + 1) + 1).toInt := by rw [show sI S25 h 1 = ((sI S h 1) + 1) + 1 from w26]
  refine pc_Ni (As := [.int (((sI S h 1) + 1) + 1), .int 80]) (rest := []) F (b_X8_isBelow l D cy A S25 (((sI S h 1) + 1) + 1) 80 ) ⟨va_cnB 2 hts gX7_addWord_X8_isBelow_n19 rfl rfl rfl hZ.2.2.2.2.2.2.2.2.2.2.2.1 (hts (.initialized RX8) (by decide +kernel)) (by decide +kernel) ⟨Nat.le_of_ble_eq_true rfl, Nat.le_of_ble_eq_true rfl⟩, hts (.static yX8_isBelow) (by decide +kernel), trivial⟩ hK hZ hA hW hS rfl hl.1 rfl (Nat.le_of_ble_eq_true rfl) dX7_addWord_13 ⟨Nat.le_of_ble_eq_true rfl, Nat.le_of_ble_eq_true rfl⟩ (fun v29 T30 H locs p31 hW hS => ?_)
  obtain ⟨eT30, p31⟩ := p31
  rw [eT30] at hW
  clear eT30
  have p31 := isb_lit (n := 80) rfl p31
  refine lv_if_eq (tgt := 42) hx hb dX7_addWord_16 (by decide) (fun c32 => absurd c32 (by intro h9; have h8 : v29.toInt = (0 : Int) := (i3_eq _ _).mp h9; omega)) (fun c32 => ?_)
  refine lv_aload_n hx hb dX7_addWord_19 rfl (lv_at hl 1 rfl) ?_
  refine pg_gr (b := b7) (ci := 7) (C := RX7) (T := TX7) (N := 2) hx hb hts wi7 hown hK hW (hF.k hk (by decide)) (by decide) rfl 0 (by decide) (hts (.fieldLink RX7 9 "IceHall$Tape" "bytes" "[B") (by decide +kernel)) (fun _ h9 => h9) rfl (hF.r hk (by decide) rb7) dX7_addWord_20 ?_
  refine lv_aload_n hx hb dX7_addWord_23 rfl (lv_at hl 1 rfl) ?_
  refine pg_gi (ci := 7) (C := RX7) (T := TX7) (N := 2) hx hb hts wi7 hown hK hW (hF.k hk (by decide)) (by decide) rfl 1 (by decide) (hts (.fieldLink RX7 15 "IceHall$Tape" "size" "I") (by decide +kernel)) (fun _ h9 => h9) rfl dX7_addWord_24 ?_
  rw [show sI S25 h 1 = ((sI S h 1) + 1) + 1 from w26]
  refine lv_iload_n hx hb dX7_addWord_27 rfl (lv_at hl 2 rfl) ?_
  refine lv_iload_n hx hb dX7_addWord_28 rfl (lv_at hl 0 rfl) ?_
  refine lv_ishr hx hb dX7_addWord_29 ?_
  refine lv_i2b (v := Int8.toInt32 (Int32.toInt8 (a >>> (8 &&& 31)))) hx hb dX7_addWord_30 rfl ?_
  refine pg_bast hx hb hK hW hS (hF.k kb7 (by decide)) (by rw [show sL S25 b7 = 80 from (hF.n kb7 (by decide) nb7)]; exact r_in (by omega)) dX7_addWord_31 (fun H locs hW hS => ?_)
  have kq33 : sK S25 b7 = 10 := (hF.k kb7 (by decide))
  obtain ⟨S34, eS34⟩ : ∃ T : St, T = stI S25 b7 (Int32.toNatClampNeg (((sI S h 1) + 1) + 1)) (vp_nar .byte (Int8.toInt32 (Int32.toInt8 (a >>> (8 &&& 31))))) := ⟨_, rfl⟩
  rw [← eS34] at hW
  have hG : G S34 := by rw [eS34]; exact hG.I kq33 (ok_frA (by decide) (by decide))
  have w35 : sI S34 h 1 = ((sI S h 1) + 1) + 1 := by rw [eS34]; exact (iI_a (fk_ne (hF.k hk (by decide)) kq33 (by decide))).trans w26
  have hF : Fr [] [701, 1000] S S34 := by rw [eS34]; exact hF.IA kq33 (by decide) (by decide)
  clear eS34
  refine lv_aload_n hx hb dX7_addWord_32 rfl (lv_at hl 1 rfl) ?_
  refine lv_dup hx hb dX7_addWord_33 rfl ?_
  refine pg_gi (ci := 7) (C := RX7) (T := TX7) (N := 2) hx hb hts wi7 hown hK hW (hF.k hk (by decide)) (by decide) rfl 1 (by decide) (hts (.fieldLink RX7 15 "IceHall$Tape" "size" "I") (by decide +kernel)) (fun _ h9 => h9) rfl dX7_addWord_34 ?_
  rw [show sI S34 h 1 = ((sI S h 1) + 1) + 1 from w35]
  refine lv_iconst (v := 1) hx hb dX7_addWord_37 (by decide) ?_
  refine lv_iadd hx hb dX7_addWord_38 ?_
  have l36 : ((((sI S h 1) + 1) + 1) + 1).toInt = Int32.toInt (((sI S h 1) + 1) + 1) + (1 : Int) := i3_add rfl rfl (by omega) (by omega)
  refine pg_pi (ci := 7) (C := RX7) (T := TX7) (N := 2) hx hb hts wi7 tyX7 tyX7_ok nmX7 hown hK hW hS (hF.k hk (by decide)) (by decide) rfl 1 (by decide) (hts (.fieldLink RX7 15 "IceHall$Tape" "size" "I") (by decide +kernel)) (fun _ h9 => h9) rfl rfl rfl dX7_addWord_39 (fun H locs hW hS => ?_)
  have kq37 : sK S34 h = 7 := (hF.k hk (by decide))
  obtain ⟨S38, eS38⟩ : ∃ T : St, T = stI S34 h 1 ((((sI S h 1) + 1) + 1) + 1) := ⟨_, rfl⟩
  rw [← eS38] at hW
  have hG : G S38 := by rw [eS38]; exact hG.I kq37 (ok_in 0 80 (by decide) (⟨by omega, by omega⟩))
  have hF : Fr [] [701, 1000] S S38 := by rw [eS38]; exact hF.I kq37 (by decide)
  have w39 : sI S38 h 1 = (((sI S h 1) + 1) + 1) + 1 := by rw [eS38]; exact iI_s
  clear eS38
  refine lv_iinc (v := 0) (lv' := [(2, .int 0), (0, .ref h), (1, .int a)]) hx hb dX7_addWord_42 hl (k := 0) rfl (by decide) (by decide) rfl (fun ls hl => ?_)
  refine lv_goto (tgt := 3) hx hb dX7_addWord_45 (by decide) ?_
  refine lv_iload_n hx hb dX7_addWord_3 rfl (lv_at hl 0 rfl) ?_
  refine lv_if_lt (tgt := 48) hx hb dX7_addWord_4 (by decide) (fun c40 => absurd c40 (by decide)) (fun c40 => ?_)
  refine lv_aload_n hx hb dX7_addWord_7 rfl (lv_at hl 1 rfl) ?_
  refine pg_gi (ci := 7) (C := RX7) (T := TX7) (N := 2) hx hb hts wi7 hown hK hW (hF.k hk (by decide)) (by decide) rfl 1 (by decide) (hts (.fieldLink RX7 15 "IceHall$Tape" "size" "I") (by decide +kernel)) (fun _ h9 => h9) rfl dX7_addWord_8 ?_
  rw [show sI S38 h 1 = (((sI S h 1) + 1) + 1) + 1 from w39]
  refine lv_bipush (v := 80) hx hb dX7_addWord_11 (by decide) ?_
  have lk41 : (sI S38 h 1).toInt = ((((sI S h 1) + 1) + 1) + 1).toInt := by rw [show sI S38 h 1 = (((sI S h 1) + 1) + 1) + 1 from w39]
  refine pc_Ni (As := [.int ((((sI S h 1) + 1) + 1) + 1), .int 80]) (rest := []) F (b_X8_isBelow l D cy A S38 ((((sI S h 1) + 1) + 1) + 1) 80 ) ⟨va_cnB 2 hts gX7_addWord_X8_isBelow_n19 rfl rfl rfl hZ.2.2.2.2.2.2.2.2.2.2.2.1 (hts (.initialized RX8) (by decide +kernel)) (by decide +kernel) ⟨Nat.le_of_ble_eq_true rfl, Nat.le_of_ble_eq_true rfl⟩, hts (.static yX8_isBelow) (by decide +kernel), trivial⟩ hK hZ hA hW hS rfl hl.1 rfl (Nat.le_of_ble_eq_true rfl) dX7_addWord_13 ⟨Nat.le_of_ble_eq_true rfl, Nat.le_of_ble_eq_true rfl⟩ (fun v42 T43 H locs p44 hW hS => ?_)
  obtain ⟨eT43, p44⟩ := p44
  rw [eT43] at hW
  clear eT43
  have p44 := isb_lit (n := 80) rfl p44
  refine lv_if_eq (tgt := 42) hx hb dX7_addWord_16 (by decide) (fun c45 => absurd c45 (by intro h9; have h8 : v42.toInt = (0 : Int) := (i3_eq _ _).mp h9; omega)) (fun c45 => ?_)
  refine lv_aload_n hx hb dX7_addWord_19 rfl (lv_at hl 1 rfl) ?_
  refine pg_gr (b := b7) (ci := 7) (C := RX7) (T := TX7) (N := 2) hx hb hts wi7 hown hK hW (hF.k hk (by decide)) (by decide) rfl 0 (by decide) (hts (.fieldLink RX7 9 "IceHall$Tape" "bytes" "[B") (by decide +kernel)) (fun _ h9 => h9) rfl (hF.r hk (by decide) rb7) dX7_addWord_20 ?_
  refine lv_aload_n hx hb dX7_addWord_23 rfl (lv_at hl 1 rfl) ?_
  refine pg_gi (ci := 7) (C := RX7) (T := TX7) (N := 2) hx hb hts wi7 hown hK hW (hF.k hk (by decide)) (by decide) rfl 1 (by decide) (hts (.fieldLink RX7 15 "IceHall$Tape" "size" "I") (by decide +kernel)) (fun _ h9 => h9) rfl dX7_addWord_24 ?_
  rw [show sI S38 h 1 = (((sI S h 1) + 1) + 1) + 1 from w39]
  refine lv_iload_n hx hb dX7_addWord_27 rfl (lv_at hl 2 rfl) ?_
  refine lv_iload_n hx hb dX7_addWord_28 rfl (lv_at hl 0 rfl) ?_
  refine lv_ishr hx hb dX7_addWord_29 ?_
  refine lv_i2b (v := Int8.toInt32 (Int32.toInt8 (a >>> (0 &&& 31)))) hx hb dX7_addWord_30 rfl ?_
  refine pg_bast hx hb hK hW hS (hF.k kb7 (by decide)) (by rw [show sL S38 b7 = 80 from (hF.n kb7 (by decide) nb7)]; exact r_in (by omega)) dX7_addWord_31 (fun H locs hW hS => ?_)
  have kq46 : sK S38 b7 = 10 := (hF.k kb7 (by decide))
  obtain ⟨S47, eS47⟩ : ∃ T : St, T = stI S38 b7 (Int32.toNatClampNeg ((((sI S h 1) + 1) + 1) + 1)) (vp_nar .byte (Int8.toInt32 (Int32.toInt8 (a >>> (0 &&& 31))))) := ⟨_, rfl⟩
  rw [← eS47] at hW
  have hG : G S47 := by rw [eS47]; exact hG.I kq46 (ok_frA (by decide) (by decide))
  have w48 : sI S47 h 1 = (((sI S h 1) + 1) + 1) + 1 := by rw [eS47]; exact (iI_a (fk_ne (hF.k hk (by decide)) kq46 (by decide))).trans w39
  have hF : Fr [] [701, 1000] S S47 := by rw [eS47]; exact hF.IA kq46 (by decide) (by decide)
  clear eS47
  refine lv_aload_n hx hb dX7_addWord_32 rfl (lv_at hl 1 rfl) ?_
  refine lv_dup hx hb dX7_addWord_33 rfl ?_
  refine pg_gi (ci := 7) (C := RX7) (T := TX7) (N := 2) hx hb hts wi7 hown hK hW (hF.k hk (by decide)) (by decide) rfl 1 (by decide) (hts (.fieldLink RX7 15 "IceHall$Tape" "size" "I") (by decide +kernel)) (fun _ h9 => h9) rfl dX7_addWord_34 ?_
  rw [show sI S47 h 1 = (((sI S h 1) + 1) + 1) + 1 from w48]
  refine lv_iconst (v := 1) hx hb dX7_addWord_37 (by decide) ?_
  refine lv_iadd hx hb dX7_addWord_38 ?_
  have l49 : (((((sI S h 1) + 1) + 1) + 1) + 1).toInt = Int32.toInt ((((sI S h 1) + 1) + 1) + 1) + (1 : Int) := i3_add rfl rfl (by omega) (by omega)
  refine pg_pi (ci := 7) (C := RX7) (T := TX7) (N := 2) hx hb hts wi7 tyX7 tyX7_ok nmX7 hown hK hW hS (hF.k hk (by decide)) (by decide) rfl 1 (by decide) (hts (.fieldLink RX7 15 "IceHall$Tape" "size" "I") (by decide +kernel)) (fun _ h9 => h9) rfl rfl rfl dX7_addWord_39 (fun H locs hW hS => ?_)
  have kq50 : sK S47 h = 7 := (hF.k hk (by decide))
  obtain ⟨S51, eS51⟩ : ∃ T : St, T = stI S47 h 1 (((((sI S h 1) + 1) + 1) + 1) + 1) := ⟨_, rfl⟩
  rw [← eS51] at hW
  have hG : G S51 := by rw [eS51]; exact hG.I kq50 (ok_in 0 80 (by decide) (⟨by omega, by omega⟩))
  have hF : Fr [] [701, 1000] S S51 := by rw [eS51]; exact hF.I kq50 (by decide)
  have w52 : sI S51 h 1 = ((((sI S h 1) + 1) + 1) + 1) + 1 := by rw [eS51]; exact iI_s
  clear eS51
  refine lv_iinc (v := (-8)) (lv' := [(2, .int ((-8))), (0, .ref h), (1, .int a)]) hx hb dX7_addWord_42 hl (k := 0) rfl (by decide) (by decide) rfl (fun ls hl => ?_)
  refine lv_goto (tgt := 3) hx hb dX7_addWord_45 (by decide) ?_
  refine lv_iload_n hx hb dX7_addWord_3 rfl (lv_at hl 0 rfl) ?_
  refine lv_if_lt (tgt := 48) hx hb dX7_addWord_4 (by decide) (fun c53 => ?_) (fun c53 => absurd (by decide) c53)
  have lk54 : (sI S51 h 1).toInt = (((((sI S h 1) + 1) + 1) + 1) + 1).toInt := by rw [show sI S51 h 1 = ((((sI S h 1) + 1) + 1) + 1) + 1 from w52]
  exact pc_vret (S := S51) hx hb hr hlk hK hZ hA hW hS (⟨hG, hF, by omega⟩) dX7_addWord_48
