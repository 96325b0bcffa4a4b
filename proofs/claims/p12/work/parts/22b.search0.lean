set_option maxHeartbeats 4000000 in
set_option maxRecDepth 100000 in
theorem b_X2_searchFrom_0 (l : Launch) (D : va_G) (cy : Nat → ClassId) (A : Nat → Prop) (S : St) (h : Nat) (a b : Int32) (hG0 : G S) (hk : sK S h = 2) (ha : 5 ≤ a.toInt) (ha5 : a.toInt ≤ 5) : MV l yX2_searchFrom wsX2_searchFrom ({ frames := 4, cells := 0, slots := 0, locals := 89 } : Room) 0 0 D cy A [.ref h, .int a, .int b] S (fun S1 => G S1 ∧ Fr [] [207, 1100] S S1 ∧ True) := by
  refine mt_start (cc := cX2_searchFrom) (maxL := 7) (ret := none) (by decide) rfl (Nat.le_of_ble_eq_true rfl) ?_
  intro p e s m args below meth c hx hb hr hlk hml hown hnm hts hK hZ hA hW hS ls hl
  have hl : lv_has ls 7 [(0, .ref h), (1, .int a), (2, .int b)] := hl
  have hown : s.vm.findClass RX2 = some m.cls := hown
  have F : CallFix p m c cX2_searchFrom 7 s args wsX2_searchFrom RX2 := ⟨hx, hb, hml, hown, hts⟩
  have wi2 : ∀ w ∈ u_ws RX2 TX2 10, w ∈ wsX2_searchFrom := by decide +kernel
  have hG := hG0
  have hF : Fr [] [207, 1100] S S := Fr.rf _ _ _
  refine lv_iload_n hx hb dX2_searchFrom_0 rfl (lv_at hl 1 rfl) ?_
  refine lv_aload_n hx hb dX2_searchFrom_1 rfl (lv_at hl 0 rfl) ?_
  refine pg_gi (ci := 2) (C := RX2) (T := TX2) (N := 10) hx hb hts wi2 hown hK hW hk (by decide) rfl 6 (by decide) (hts (.fieldLink RX2 34 "IceHall$Mover" "size" "I") (by decide +kernel)) (fun _ h9 => h9) rfl dX2_searchFrom_2 ?_
  refine lv_icmp_ge (tgt := 13) hx hb dX2_searchFrom_5 (by decide) (fun c1 => ?_) (fun c1 => ?_)
  · have c1i : Int32.toInt (sI S h 6) ≤ Int32.toInt a := (i3_le _ _).mp c1
    refine lv_aload_n hx hb dX2_searchFrom_13 rfl (lv_at hl 0 rfl) ?_
    refine lv_iload_n hx hb dX2_searchFrom_14 rfl (lv_at hl 2 rfl) ?_
    refine pc_Vv (As := [.int b]) (rest := []) F (b_X2_keepBest l D cy A S h b hG hk) (cwV 1 hts gX2_searchFrom_X2_keepBest rfl rfl rfl (by decide +kernel) ⟨Nat.le_of_ble_eq_true rfl, Nat.le_of_ble_eq_true rfl⟩) hK hZ hA hW hS hk (by decide) rfl rfl hl.1 rfl (Nat.le_of_ble_eq_true rfl) dX2_searchFrom_15 ⟨Nat.le_of_ble_eq_true rfl, Nat.le_of_ble_eq_true rfl⟩ (fun T3 H locs p4 hW hS => ?_)
    obtain ⟨hG, hFc, p4⟩ := p4
    have hF : Fr [] [207, 1100] S T3 := hF.tr (hFc.mono (by decide))
    exact pc_vret (S := T3) hx hb hr hlk hK hZ hA hW hS (⟨hG, hF, trivial⟩) dX2_searchFrom_18
  · have c1i : ¬ (Int32.toInt (sI S h 6) ≤ Int32.toInt a) := fun h9 => c1 ((i3_le _ _).mpr h9)
    refine lv_iload_n hx hb dX2_searchFrom_8 rfl (lv_at hl 1 rfl) ?_
    refine lv_iconst (v := 5) hx hb dX2_searchFrom_9 (by decide) ?_
    refine lv_icmp_lt (tgt := 19) hx hb dX2_searchFrom_10 (by decide) (fun c5 => absurd c5 (by intro h9; have h8 : a.toInt < (5 : Int) := (i3_lt _ _).mp h9; omega)) (fun c5 => ?_)
    refine lv_aload_n hx hb dX2_searchFrom_13 rfl (lv_at hl 0 rfl) ?_
    refine lv_iload_n hx hb dX2_searchFrom_14 rfl (lv_at hl 2 rfl) ?_
    refine pc_Vv (As := [.int b]) (rest := []) F (b_X2_keepBest l D cy A S h b hG hk) (cwV 1 hts gX2_searchFrom_X2_keepBest rfl rfl rfl (by decide +kernel) ⟨Nat.le_of_ble_eq_true rfl, Nat.le_of_ble_eq_true rfl⟩) hK hZ hA hW hS hk (by decide) rfl rfl hl.1 rfl (Nat.le_of_ble_eq_true rfl) dX2_searchFrom_15 ⟨Nat.le_of_ble_eq_true rfl, Nat.le_of_ble_eq_true rfl⟩ (fun T7 H locs p8 hW hS => ?_)
    obtain ⟨hG, hFc, p8⟩ := p8
    have hF : Fr [] [207, 1100] S T7 := hF.tr (hFc.mono (by decide))
    exact pc_vret (S := T7) hx hb hr hlk hK hZ hA hW hS (⟨hG, hF, trivial⟩) dX2_searchFrom_18
set_option maxHeartbeats 4000000 in
set_option maxRecDepth 100000 in
theorem b_X2_searchFrom_1 (l : Launch) (D : va_G) (cy : Nat → ClassId) (A : Nat → Prop) (S : St) (h : Nat) (a b : Int32) (hG0 : G S) (hk : sK S h = 2) (ha : 4 ≤ a.toInt) (ha5 : a.toInt ≤ 5) : MV l yX2_searchFrom wsX2_searchFrom ({ frames := 5, cells := 0, slots := 0, locals := 115 } : Room) 0 0 D cy A [.ref h, .int a, .int b] S (fun S1 => G S1 ∧ Fr [] [207, 1100] S S1 ∧ True) := by
  refine mt_start (cc := cX2_searchFrom) (maxL := 7) (ret := none) (by decide) rfl (Nat.le_of_ble_eq_true rfl) ?_
  intro p e s m args below meth c hx hb hr hlk hml hown hnm hts hK hZ hA hW hS ls hl
  have hl : lv_has ls 7 [(0, .ref h), (1, .int a), (2, .int b)] := hl
  have hown : s.vm.findClass RX2 = some m.cls := hown
  have F : CallFix p m c cX2_searchFrom 7 s args wsX2_searchFrom RX2 := ⟨hx, hb, hml, hown, hts⟩
  have wi1 : ∀ w ∈ u_ws RX1 TX1 10, w ∈ wsX2_searchFrom := by decide +kernel
  have wi2 : ∀ w ∈ u_ws RX2 TX2 10, w ∈ wsX2_searchFrom := by decide +kernel
  have hG := hG0
  have hF : Fr [] [207, 1100] S S := Fr.rf _ _ _
  refine lv_iload_n hx hb dX2_searchFrom_0 rfl (lv_at hl 1 rfl) ?_
  refine lv_aload_n hx hb dX2_searchFrom_1 rfl (lv_at hl 0 rfl) ?_
  refine pg_gi (ci := 2) (C := RX2) (T := TX2) (N := 10) hx hb hts wi2 hown hK hW hk (by decide) rfl 6 (by decide) (hts (.fieldLink RX2 34 "IceHall$Mover" "size" "I") (by decide +kernel)) (fun _ h9 => h9) rfl dX2_searchFrom_2 ?_
  refine lv_icmp_ge (tgt := 13) hx hb dX2_searchFrom_5 (by decide) (fun c1 => ?_) (fun c1 => ?_)
  · have c1i : Int32.toInt (sI S h 6) ≤ Int32.toInt a := (i3_le _ _).mp c1
    refine lv_aload_n hx hb dX2_searchFrom_13 rfl (lv_at hl 0 rfl) ?_
    refine lv_iload_n hx hb dX2_searchFrom_14 rfl (lv_at hl 2 rfl) ?_
    refine pc_Vv (As := [.int b]) (rest := []) F (b_X2_keepBest l D cy A S h b hG hk) (cwV 1 hts gX2_searchFrom_X2_keepBest rfl rfl rfl (by decide +kernel) ⟨Nat.le_of_ble_eq_true rfl, Nat.le_of_ble_eq_true rfl⟩) hK hZ hA hW hS hk (by decide) rfl rfl hl.1 rfl (Nat.le_of_ble_eq_true rfl) dX2_searchFrom_15 ⟨Nat.le_of_ble_eq_true rfl, Nat.le_of_ble_eq_true rfl⟩ (fun T3 H locs p4 hW hS => ?_)
    obtain ⟨hG, hFc, p4⟩ := p4
    have hF : Fr [] [207, 1100] S T3 := hF.tr (hFc.mono (by decide))
    exact pc_vret (S := T3) hx hb hr hlk hK hZ hA hW hS (⟨hG, hF, trivial⟩) dX2_searchFrom_18
  · have c1i : ¬ (Int32.toInt (sI S h 6) ≤ Int32.toInt a) := fun h9 => c1 ((i3_le _ _).mpr h9)
    refine lv_iload_n hx hb dX2_searchFrom_8 rfl (lv_at hl 1 rfl) ?_
    refine lv_iconst (v := 5) hx hb dX2_searchFrom_9 (by decide) ?_
    refine lv_icmp_lt (tgt := 19) hx hb dX2_searchFrom_10 (by decide) (fun c5 => ?_) (fun c5 => ?_)
    · have c5i : Int32.toInt a < (5 : Int) := (i3_lt _ _).mp c5
      refine lv_iconst (v := 0) hx hb dX2_searchFrom_19 (by decide) ?_
      refine lv_istore_n (lv' := [(3, .int 0), (0, .ref h), (1, .int a), (2, .int b)]) hx hb dX2_searchFrom_20 rfl hl (by decide) rfl (fun ls hl => ?_)
      have loop21 : ∀ (zn : Nat) (y : Int32) (L21 : St) (H : Heap) (locs : List Loc) (ls : Array Slot), (G L21) → (Fr [] [207, 1100] S L21) → (0 ≤ y.toInt) → (15 - y.toInt).toNat < zn → PW D cy A L21 H → va_S A s.heap H locs → lv_has ls 7 [(0, .ref h), (1, .int a), (2, .int b), (3, .int y)] → W p l e ({ frames := 5, cells := 0, slots := 0, locals := 115 } : Room) s m args below meth c H locs 0 0 (MQ below (va_Qv (fun S1 => G S1 ∧ Fr [] [207, 1100] S S1 ∧ True) (PU D cy A) A) args s 0 0 A) (F0 m 21 ls []) := by
        intro zn
        induction zn with
        | zero => intros; exact absurd (by assumption) (Nat.not_lt_zero _)
        | succ zn ih21 =>
          intro y L21 H locs ls hG hL21 hy0 hme21 hW hS hl
          have hF := hL21
          refine lv_iload_n hx hb dX2_searchFrom_21 rfl (lv_at hl 3 rfl) ?_
          refine lv_bipush (v := 14) hx hb dX2_searchFrom_22 (by decide) ?_
          refine lv_icmp_gt (tgt := 135) hx hb dX2_searchFrom_24 (by decide) (fun c6 => ?_) (fun c6 => ?_)
          · have c6i : (14 : Int) < Int32.toInt y := (i3_lt _ _).mp c6
            exact pc_vret (S := L21) hx hb hr hlk hK hZ hA hW hS (⟨hG, hF, trivial⟩) dX2_searchFrom_135
          · have c6i : ¬ ((14 : Int) < Int32.toInt y) := fun h9 => c6 ((i3_lt _ _).mpr h9)
            refine lv_iload_n hx hb dX2_searchFrom_27 rfl (lv_at hl 2 rfl) ?_
            refine lv_iload_n hx hb dX2_searchFrom_28 rfl (lv_at hl 3 rfl) ?_
            refine pc_Si (As := [.int y]) (rest := [.int b]) F (b_X2_costOf l D cy A L21 y ) (va_cwS 1 hts gX2_searchFrom_X2_costOf rfl rfl rfl (by decide +kernel) ⟨Nat.le_of_ble_eq_true rfl, Nat.le_of_ble_eq_true rfl⟩) hK hZ hA hW hS rfl hl.1 rfl (Nat.le_of_ble_eq_true rfl) dX2_searchFrom_29 ⟨Nat.le_of_ble_eq_true rfl, Nat.le_of_ble_eq_true rfl⟩ (fun v7 T8 H locs p9 hW hS => ?_)
            obtain ⟨eT8, p9⟩ := p9
            rw [eT8] at hW
            clear eT8
            refine lv_iadd hx hb dX2_searchFrom_32 ?_
            refine lv_istore (lv' := [(4, .int (b + v7)), (0, .ref h), (1, .int a), (2, .int b), (3, .int y)]) hx hb dX2_searchFrom_33 hl (by decide) rfl (fun ls hl => ?_)
            refine lv_iload hx hb dX2_searchFrom_35 (lv_at hl 0 rfl) ?_
            refine lv_aload_n hx hb dX2_searchFrom_37 rfl (lv_at hl 1 rfl) ?_
            obtain ⟨b10, rb10, kb10, nb10⟩ := hG0.r hk List.not_mem_nil 5 (show rty 2 5 = some (11, 6) from rfl)
            refine pg_gr (b := b10) (ci := 2) (C := RX2) (T := TX2) (N := 10) hx hb hts wi2 hown hK hW (hF.k hk (by decide)) (by decide) rfl 5 (by decide) (hts (.fieldLink RX2 24 "IceHall$Mover" "leastFrom" "[I") (by decide +kernel)) (fun _ h9 => h9) rfl (hF.r hk (by decide) rb10) dX2_searchFrom_38 ?_
            refine lv_iload_n hx hb dX2_searchFrom_41 rfl (lv_at hl 2 rfl) ?_
            refine lv_iconst (v := 1) hx hb dX2_searchFrom_42 (by decide) ?_
            refine lv_iadd hx hb dX2_searchFrom_43 ?_
            have ha1 : (a + 1).toInt = a.toInt + 1 := i3_add rfl rfl (by omega) (by omega)
            refine pg_iald hx hb hK hW (hF.k kb10 (by decide)) (by decide) (by rw [show sL L21 b10 = 6 from (hF.n kb10 (by decide) nb10)]; exact r_in (by omega)) dX2_searchFrom_44 ?_
            refine lv_iadd hx hb dX2_searchFrom_45 ?_
            refine lv_aload_n hx hb dX2_searchFrom_46 rfl (lv_at hl 1 rfl) ?_
            refine pg_gi (ci := 2) (C := RX2) (T := TX2) (N := 10) hx hb hts wi2 hown hK hW (hF.k hk (by decide)) (by decide) rfl 7 (by decide) (hts (.fieldLink RX2 48 "IceHall$Mover" "bestCost" "I") (by decide +kernel)) (fun _ h9 => h9) rfl dX2_searchFrom_47 ?_
            refine lv_icmp_lt (tgt := 54) hx hb dX2_searchFrom_50 (by decide) (fun c11 => ?_) (fun c11 => ?_)
            · have c11i : Int32.toInt ((b + v7) + (sI L21 b10 (Int32.toNatClampNeg (a + 1)))) < Int32.toInt (sI L21 h 7) := (i3_lt _ _).mp c11
              refine lv_aload_n hx hb dX2_searchFrom_54 rfl (lv_at hl 1 rfl) ?_
              obtain ⟨b12, rb12, kb12, nb12⟩ := hG0.r hk List.not_mem_nil 3 (show rty 2 3 = some (11, 5) from rfl)
              refine pg_gr (b := b12) (ci := 2) (C := RX2) (T := TX2) (N := 10) hx hb hts wi2 hown hK hW (hF.k hk (by decide)) (by decide) rfl 3 (by decide) (hts (.fieldLink RX2 17 "IceHall$Mover" "row" "[I") (by decide +kernel)) (fun _ h9 => h9) rfl (hF.r hk (by decide) rb12) dX2_searchFrom_55 ?_
              refine lv_iload_n hx hb dX2_searchFrom_58 rfl (lv_at hl 2 rfl) ?_
              refine lv_iload_n hx hb dX2_searchFrom_59 rfl (lv_at hl 4 rfl) ?_
              refine pg_iast hx hb hK hW hS (hF.k kb12 (by decide)) (by decide) (by rw [show sL L21 b12 = 5 from (hF.n kb12 (by decide) nb12)]; exact r_in (by omega)) dX2_searchFrom_60 (fun H locs hW hS => ?_)
              have kq13 : sK L21 b12 = 11 := (hF.k kb12 (by decide))
              obtain ⟨S14, eS14⟩ : ∃ T : St, T = stI L21 b12 (Int32.toNatClampNeg a) y := ⟨_, rfl⟩
              rw [← eS14] at hW
              have hG : G S14 := by rw [eS14]; exact hG.I kq13 (ok_frA (by decide) (by decide))
              have hF : Fr [] [207, 1100] S S14 := by rw [eS14]; exact hF.IA kq13 (by decide) (by decide)
              clear eS14
              refine lv_iload_n hx hb dX2_searchFrom_61 rfl (lv_at hl 4 rfl) ?_
              refine lv_bipush (v := 14) hx hb dX2_searchFrom_62 (by decide) ?_
              refine lv_icmp_ne (tgt := 79) hx hb dX2_searchFrom_64 (by decide) (fun c15 => ?_) (fun c15 => ?_)
              · have c15i : ¬ (Int32.toInt y = (14 : Int)) := fun h9 => c15 ((i3_eq _ _).mpr h9)
                refine lv_aload_n hx hb dX2_searchFrom_79 rfl (lv_at hl 1 rfl) ?_
                refine lv_iload_n hx hb dX2_searchFrom_80 rfl (lv_at hl 2 rfl) ?_
                refine lv_iload_n hx hb dX2_searchFrom_81 rfl (lv_at hl 4 rfl) ?_
                refine pc_Vi (As := [.int a, .int y]) (rest := []) F (b_X2_canGo l D cy A S14 h a y hG (hF.k hk (by decide))) (cwV 2 hts gX2_searchFrom_X2_canGo rfl rfl rfl (by decide +kernel) ⟨Nat.le_of_ble_eq_true rfl, Nat.le_of_ble_eq_true rfl⟩) hK hZ hA hW hS (hF.k hk (by decide)) (by decide) rfl rfl hl.1 rfl (Nat.le_of_ble_eq_true rfl) dX2_searchFrom_82 ⟨Nat.le_of_ble_eq_true rfl, Nat.le_of_ble_eq_true rfl⟩ (fun v16 T17 H locs p18 hW hS => ?_)
                obtain ⟨eT17, p18⟩ := p18
                rw [eT17] at hW
                clear eT17
                refine lv_if_eq (tgt := 129) hx hb dX2_searchFrom_85 (by decide) (fun c19 => ?_) (fun c19 => ?_)
                · have c19i : Int32.toInt v16 = (0 : Int) := (i3_eq _ _).mp c19
                  refine lv_iinc (v := y + 1) (lv' := [(3, .int (y + 1)), (4, .int (b + v7)), (0, .ref h), (1, .int a), (2, .int b)]) hx hb dX2_searchFrom_129 hl (k := 4) rfl rfl (by decide) rfl (fun ls hl => ?_)
                  have i20 : (y + 1).toInt = (y).toInt + 1 := i3_add rfl rfl (by omega) (by omega)
                  refine lv_goto (tgt := 21) hx hb dX2_searchFrom_132 (by decide) ?_
                  exact ih21 (y + 1) S14 _ _ ls hG hF (by omega) (by omega) hW hS (lv_cast (lv_sub hl [2, 3, 4, 0] rfl) (rfl))
                · have c19i : ¬ (Int32.toInt v16 = (0 : Int)) := fun h9 => c19 ((i3_eq _ _).mpr h9)
                  refine lv_aload_n hx hb dX2_searchFrom_88 rfl (lv_at hl 1 rfl) ?_
                  refine lv_iload_n hx hb dX2_searchFrom_89 rfl (lv_at hl 4 rfl) ?_
                  refine pc_Vq (As := [.int y]) (rest := []) F (b_X2_iceOfWay l D cy A S14 h y hG (hF.k hk (by decide))) (cwV 1 hts gX2_searchFrom_X2_iceOfWay rfl rfl rfl (by decide +kernel) ⟨Nat.le_of_ble_eq_true rfl, Nat.le_of_ble_eq_true rfl⟩) hK hZ hA hW hS (hF.k hk (by decide)) (by decide) rfl rfl hl.1 rfl (Nat.le_of_ble_eq_true rfl) dX2_searchFrom_90 ⟨Nat.le_of_ble_eq_true rfl, Nat.le_of_ble_eq_true rfl⟩ (fun v21 T22 H locs p23 hW hS => ?_)
                  obtain ⟨eT22, p23⟩ := p23
                  rw [eT22] at hW
                  have hE25 : Fr [] [207, 1100] S14 S14 := Fr.rf _ _ _
                  obtain ⟨b24, erb24, kb24⟩ := p23
                  rw [erb24]
                  obtain ⟨b26, rb26, kb26, nb26⟩ := hG.r kb24 List.not_mem_nil 0 (show rty 1 0 = some (0, 0) from rfl)
                  refine pg_gr (b := b26) (ci := 1) (C := RX1) (T := TX1) (N := 10) hx hb hts wi1 hown hK hW kb24 (by decide) rfl 0 (by decide) (hts (.fieldLink RX2 70 "IceHall$Ice" "taken" "LIceHall$HourSet;") (by decide +kernel)) (fun _ h9 => h9) rfl rb26 dX2_searchFrom_93 ?_
                  refine lv_astore (lv' := [(5, .ref b26), (4, .int (b + v7)), (0, .ref h), (1, .int a), (2, .int b), (3, .int y)]) hx hb dX2_searchFrom_96 hl (by decide) rfl (fun ls hl => ?_)
                  refine lv_aload_n hx hb dX2_searchFrom_98 rfl (lv_at hl 2 rfl) ?_
                  refine lv_iload_n hx hb dX2_searchFrom_99 rfl (lv_at hl 3 rfl) ?_
                  refine lv_iload_n hx hb dX2_searchFrom_100 rfl (lv_at hl 5 rfl) ?_
                  refine pc_Vi (As := [.int a, .int y]) (rest := []) F (b_X2_hourOf l D cy A S14 h a y hG (hF.k hk (by decide))) (cwV 2 hts gX2_searchFrom_X2_hourOf rfl rfl rfl (by decide +kernel) ⟨Nat.le_of_ble_eq_true rfl, Nat.le_of_ble_eq_true rfl⟩) hK hZ hA hW hS (hF.k hk (by decide)) (by decide) rfl rfl hl.1 rfl (Nat.le_of_ble_eq_true rfl) dX2_searchFrom_101 ⟨Nat.le_of_ble_eq_true rfl, Nat.le_of_ble_eq_true rfl⟩ (fun v27 T28 H locs p29 hW hS => ?_)
                  obtain ⟨eT28, p29⟩ := p29
                  rw [eT28] at hW
                  clear eT28
                  refine lv_istore (lv' := [(6, .int v27), (5, .ref b26), (4, .int (b + v7)), (0, .ref h), (1, .int a), (2, .int b), (3, .int y)]) hx hb dX2_searchFrom_104 hl (by decide) rfl (fun ls hl => ?_)
                  refine lv_aload hx hb dX2_searchFrom_106 (lv_at hl 1 rfl) ?_
                  refine lv_iload hx hb dX2_searchFrom_108 (lv_at hl 0 rfl) ?_
                  refine pc_Vv (As := [.int v27]) (rest := []) F (b_X0_put l D cy A S14 b26 v27 hG kb26) (cwV 1 hts gX2_searchFrom_X0_put rfl rfl rfl (by decide +kernel) ⟨Nat.le_of_ble_eq_true rfl, Nat.le_of_ble_eq_true rfl⟩) hK hZ hA hW hS kb26 (by decide) rfl rfl hl.1 rfl (Nat.le_of_ble_eq_true rfl) dX2_searchFrom_110 ⟨Nat.le_of_ble_eq_true rfl, Nat.le_of_ble_eq_true rfl⟩ (fun T31 H locs p32 hW hS => ?_)
                  obtain ⟨hG, hFc, p32⟩ := p32
                  have hF : Fr [] [207, 1100] S T31 := hF.tr (hFc.mono (by decide))
                  have hE25 : Fr [] [207, 1100] S14 T31 := hE25.tr (hFc.mono (by decide))
                  refine lv_aload_n hx hb dX2_searchFrom_113 rfl (lv_at hl 3 rfl) ?_
                  refine lv_iload_n hx hb dX2_searchFrom_114 rfl (lv_at hl 4 rfl) ?_
                  refine lv_iconst (v := 1) hx hb dX2_searchFrom_115 (by decide) ?_
                  refine lv_iadd hx hb dX2_searchFrom_116 ?_
                  refine lv_iload hx hb dX2_searchFrom_117 (lv_at hl 2 rfl) ?_
                  refine pc_Sv (As := [.ref h, .int (a + 1), .int (b + v7)]) (rest := []) F (b_X2_searchFrom_0 l D cy A T31 h (a + 1) (b + v7) hG (hF.k hk (by decide)) (by omega) (by omega)) (va_cwS 3 hts gX2_searchFrom_X2_searchFrom rfl rfl rfl (by decide +kernel) ⟨Nat.le_of_ble_eq_true rfl, Nat.le_of_ble_eq_true rfl⟩) hK hZ hA hW hS rfl hl.1 rfl (Nat.le_of_ble_eq_true rfl) dX2_searchFrom_119 ⟨Nat.le_of_ble_eq_true rfl, Nat.le_of_ble_eq_true rfl⟩ (fun T34 H locs p35 hW hS => ?_)
                  obtain ⟨hG, hFc, p35⟩ := p35
                  have hF : Fr [] [207, 1100] S T34 := hF.tr (hFc.mono (by decide))
                  have hE25 : Fr [] [207, 1100] S14 T34 := hE25.tr (hFc.mono (by decide))
                  refine lv_aload hx hb dX2_searchFrom_122 (lv_at hl 1 rfl) ?_
                  refine lv_iload hx hb dX2_searchFrom_124 (lv_at hl 0 rfl) ?_
                  refine pc_Vv (As := [.int v27]) (rest := []) F (b_X0_drop l D cy A T34 b26 v27 hG (hE25.k kb26 (by decide))) (cwV 1 hts gX2_searchFrom_X0_drop rfl rfl rfl (by decide +kernel) ⟨Nat.le_of_ble_eq_true rfl, Nat.le_of_ble_eq_true rfl⟩) hK hZ hA hW hS (hE25.k kb26 (by decide)) (by decide) rfl rfl hl.1 rfl (Nat.le_of_ble_eq_true rfl) dX2_searchFrom_126 ⟨Nat.le_of_ble_eq_true rfl, Nat.le_of_ble_eq_true rfl⟩ (fun T37 H locs p38 hW hS => ?_)
                  obtain ⟨hG, hFc, p38⟩ := p38
                  have hF : Fr [] [207, 1100] S T37 := hF.tr (hFc.mono (by decide))
                  have hE25 : Fr [] [207, 1100] S14 T37 := hE25.tr (hFc.mono (by decide))
                  refine lv_iinc (v := y + 1) (lv' := [(3, .int (y + 1)), (6, .int v27), (5, .ref b26), (4, .int (b + v7)), (0, .ref h), (1, .int a), (2, .int b)]) hx hb dX2_searchFrom_129 hl (k := 6) rfl rfl (by decide) rfl (fun ls hl => ?_)
                  have i39 : (y + 1).toInt = (y).toInt + 1 := i3_add rfl rfl (by omega) (by omega)
                  refine lv_goto (tgt := 21) hx hb dX2_searchFrom_132 (by decide) ?_
                  exact ih21 (y + 1) T37 _ _ ls hG hF (by omega) (by omega) hW hS (lv_cast (lv_sub hl [4, 5, 6, 0] rfl) (rfl))
              · have c15i : Int32.toInt y = (14 : Int) := (i3_eq _ _).mp c15
                refine lv_aload_n hx hb dX2_searchFrom_67 rfl (lv_at hl 1 rfl) ?_
                refine lv_iload_n hx hb dX2_searchFrom_68 rfl (lv_at hl 2 rfl) ?_
                refine lv_iconst (v := 1) hx hb dX2_searchFrom_69 (by decide) ?_
                refine lv_iadd hx hb dX2_searchFrom_70 ?_
                refine lv_iload hx hb dX2_searchFrom_71 (lv_at hl 0 rfl) ?_
                refine pc_Sv (As := [.ref h, .int (a + 1), .int (b + v7)]) (rest := []) F (b_X2_searchFrom_0 l D cy A S14 h (a + 1) (b + v7) hG (hF.k hk (by decide)) (by omega) (by omega)) (va_cwS 3 hts gX2_searchFrom_X2_searchFrom rfl rfl rfl (by decide +kernel) ⟨Nat.le_of_ble_eq_true rfl, Nat.le_of_ble_eq_true rfl⟩) hK hZ hA hW hS rfl hl.1 rfl (Nat.le_of_ble_eq_true rfl) dX2_searchFrom_73 ⟨Nat.le_of_ble_eq_true rfl, Nat.le_of_ble_eq_true rfl⟩ (fun T41 H locs p42 hW hS => ?_)
                obtain ⟨hG, hFc, p42⟩ := p42
                have hF : Fr [] [207, 1100] S T41 := hF.tr (hFc.mono (by decide))
                refine lv_goto (tgt := 129) hx hb dX2_searchFrom_76 (by decide) ?_
                refine lv_iinc (v := y + 1) (lv' := [(3, .int (y + 1)), (4, .int (b + v7)), (0, .ref h), (1, .int a), (2, .int b)]) hx hb dX2_searchFrom_129 hl (k := 4) rfl rfl (by decide) rfl (fun ls hl => ?_)
                have i43 : (y + 1).toInt = (y).toInt + 1 := i3_add rfl rfl (by omega) (by omega)
                refine lv_goto (tgt := 21) hx hb dX2_searchFrom_132 (by decide) ?_
                exact ih21 (y + 1) T41 _ _ ls hG hF (by omega) (by omega) hW hS (lv_cast (lv_sub hl [2, 3, 4, 0] rfl) (rfl))
            · have c11i : ¬ (Int32.toInt ((b + v7) + (sI L21 b10 (Int32.toNatClampNeg (a + 1)))) < Int32.toInt (sI L21 h 7)) := fun h9 => c11 ((i3_lt _ _).mpr h9)
              exact pc_vret (S := L21) hx hb hr hlk hK hZ hA hW hS (⟨hG, hF, trivial⟩) dX2_searchFrom_53
      exact loop21 _ 0 S _ _ ls hG hF (by decide) (Nat.lt_succ_self _) hW hS (lv_cast (lv_sub hl [1, 2, 3, 0] rfl) (rfl))
    · have c5i : ¬ (Int32.toInt a < (5 : Int)) := fun h9 => c5 ((i3_lt _ _).mpr h9)
      refine lv_aload_n hx hb dX2_searchFrom_13 rfl (lv_at hl 0 rfl) ?_
      refine lv_iload_n hx hb dX2_searchFrom_14 rfl (lv_at hl 2 rfl) ?_
      refine pc_Vv (As := [.int b]) (rest := []) F (b_X2_keepBest l D cy A S h b hG hk) (cwV 1 hts gX2_searchFrom_X2_keepBest rfl rfl rfl (by decide +kernel) ⟨Nat.le_of_ble_eq_true rfl, Nat.le_of_ble_eq_true rfl⟩) hK hZ hA hW hS hk (by decide) rfl rfl hl.1 rfl (Nat.le_of_ble_eq_true rfl) dX2_searchFrom_15 ⟨Nat.le_of_ble_eq_true rfl, Nat.le_of_ble_eq_true rfl⟩ (fun T45 H locs p46 hW hS => ?_)
      obtain ⟨hG, hFc, p46⟩ := p46
      have hF : Fr [] [207, 1100] S T45 := hF.tr (hFc.mono (by decide))
      exact pc_vret (S := T45) hx hb hr hlk hK hZ hA hW hS (⟨hG, hF, trivial⟩) dX2_searchFrom_18
