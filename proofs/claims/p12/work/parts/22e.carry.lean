set_option maxHeartbeats 4000000 in
set_option maxRecDepth 100000 in
theorem b_X2_search (l : Launch) (D : va_G) (cy : Nat → ClassId) (A : Nat → Prop) (S : St) (h : Nat) (a b : Int32) (hG0 : G S) (hk : sK S h = 2) : MV l yX2_search wsX2_search ({ frames := 10, cells := 0, slots := 0, locals := 245 } : Room) 0 0 D cy A [.ref h, .int a, .int b] S (fun S1 => G S1 ∧ Fr [] [207, 208, 209, 1100] S S1 ∧ True) := by
  refine mt_start (cc := cX2_search) (maxL := 5) (ret := none) (by decide) rfl (Nat.le_of_ble_eq_true rfl) ?_
  intro p e s m args below meth c hx hb hr hlk hml hown hnm hts hK hZ hA hW hS ls hl
  have hl : lv_has ls 5 [(0, .ref h), (1, .int a), (2, .int b)] := hl
  have hown : s.vm.findClass RX2 = some m.cls := hown
  have F : CallFix p m c cX2_search 5 s args wsX2_search RX2 := ⟨hx, hb, hml, hown, hts⟩
  have wi2 : ∀ w ∈ u_ws RX2 TX2 10, w ∈ wsX2_search := by decide +kernel
  have hG := hG0
  have hF : Fr [] [207, 208, 209, 1100] S S := Fr.rf _ _ _
  refine lv_aload_n hx hb dX2_search_0 rfl (lv_at hl 0 rfl) ?_
  refine lv_iload_n hx hb dX2_search_1 rfl (lv_at hl 1 rfl) ?_
  refine pg_pi (ci := 2) (C := RX2) (T := TX2) (N := 10) hx hb hts wi2 tyX2 tyX2_ok nmX2 hown hK hW hS hk (by decide) rfl 8 (by decide) (hts (.fieldLink RX2 42 "IceHall$Mover" "earliest" "I") (by decide +kernel)) (fun _ h9 => h9) rfl rfl rfl dX2_search_2 (fun H locs hW hS => ?_)
  obtain ⟨S1, eS1⟩ : ∃ T : St, T = stI S h 8 a := ⟨_, rfl⟩
  rw [← eS1] at hW
  have hG : G S1 := by rw [eS1]; exact hG.I hk (ok_fr (by decide))
  have hF : Fr [] [207, 208, 209, 1100] S S1 := by rw [eS1]; exact hF.I hk (by decide)
  clear eS1
  refine lv_aload_n hx hb dX2_search_5 rfl (lv_at hl 0 rfl) ?_
  refine lv_iload_n hx hb dX2_search_6 rfl (lv_at hl 2 rfl) ?_
  refine pg_pi (ci := 2) (C := RX2) (T := TX2) (N := 10) hx hb hts wi2 tyX2 tyX2_ok nmX2 hown hK hW hS (hF.k hk (by decide)) (by decide) rfl 9 (by decide) (hts (.fieldLink RX2 45 "IceHall$Mover" "restMost" "I") (by decide +kernel)) (fun _ h9 => h9) rfl rfl rfl dX2_search_7 (fun H locs hW hS => ?_)
  have kq2 : sK S1 h = 2 := (hF.k hk (by decide))
  obtain ⟨S3, eS3⟩ : ∃ T : St, T = stI S1 h 9 b := ⟨_, rfl⟩
  rw [← eS3] at hW
  have hG : G S3 := by rw [eS3]; exact hG.I kq2 (ok_fr (by decide))
  have hF : Fr [] [207, 208, 209, 1100] S S3 := by rw [eS3]; exact hF.I kq2 (by decide)
  clear eS3
  refine lv_aload_n hx hb dX2_search_10 rfl (lv_at hl 0 rfl) ?_
  refine lv_sipush (v := 600) hx hb dX2_search_11 (by decide) ?_
  refine pg_pi (ci := 2) (C := RX2) (T := TX2) (N := 10) hx hb hts wi2 tyX2 tyX2_ok nmX2 hown hK hW hS (hF.k hk (by decide)) (by decide) rfl 7 (by decide) (hts (.fieldLink RX2 48 "IceHall$Mover" "bestCost" "I") (by decide +kernel)) (fun _ h9 => h9) rfl rfl rfl dX2_search_14 (fun H locs hW hS => ?_)
  have kq4 : sK S3 h = 2 := (hF.k hk (by decide))
  obtain ⟨S5, eS5⟩ : ∃ T : St, T = stI S3 h 7 600 := ⟨_, rfl⟩
  rw [← eS5] at hW
  have hG : G S5 := by rw [eS5]; exact hG.I kq4 (ok_fr (by decide))
  have hF : Fr [] [207, 208, 209, 1100] S S5 := by rw [eS5]; exact hF.I kq4 (by decide)
  clear eS5
  refine lv_iconst (v := 0) hx hb dX2_search_17 (by decide) ?_
  refine lv_istore_n (lv' := [(3, .int 0), (0, .ref h), (1, .int a), (2, .int b)]) hx hb dX2_search_18 rfl hl (by decide) rfl (fun ls hl => ?_)
  refine lv_iconst (v := 5) hx hb dX2_search_19 (by decide) ?_
  refine lv_istore (lv' := [(4, .int 5), (3, .int 0), (0, .ref h), (1, .int a), (2, .int b)]) hx hb dX2_search_20 hl (by decide) rfl (fun ls hl => ?_)
  have hE6 : Fr [] [207, 208, 209, 1100] S5 S5 := Fr.rf _ _ _
  have loop22 : ∀ (zn : Nat) (z : Int32) (y : Int32) (L22 : St) (H : Heap) (locs : List Loc) (ls : Array Slot), (G L22) → (Fr [] [207, 208, 209, 1100] S5 L22) → (y.toInt ≤ 5) → (y.toInt + 1).toNat < zn → PW D cy A L22 H → va_S A s.heap H locs → lv_has ls 5 [(0, .ref h), (1, .int a), (2, .int b), (3, .int z), (4, .int y)] → W p l e ({ frames := 10, cells := 0, slots := 0, locals := 245 } : Room) s m args below meth c H locs 0 0 (MQ below (va_Qv (fun S1 => G S1 ∧ Fr [] [207, 208, 209, 1100] S S1 ∧ True) (PU D cy A) A) args s 0 0 A) (F0 m 22 ls []) := by
    intro zn
    induction zn with
    | zero => intros; exact absurd (by assumption) (Nat.not_lt_zero _)
    | succ zn ih22 =>
      intro z y L22 H locs ls hG hL22 hy5 hme22 hW hS hl
      have hF : Fr [] [207, 208, 209, 1100] S L22 := hF.tr hL22
      have hE6 := hL22
      refine lv_iload hx hb dX2_search_22 (lv_at hl 4 rfl) ?_
      refine lv_if_lt (tgt := 63) hx hb dX2_search_24 (by decide) (fun c7 => ?_) (fun c7 => ?_)
      · have c7i : Int32.toInt y < (0 : Int) := (i3_lt _ _).mp c7
        refine lv_aload_n hx hb dX2_search_63 rfl (lv_at hl 0 rfl) ?_
        refine lv_iconst (v := 0) hx hb dX2_search_64 (by decide) ?_
        refine lv_iconst (v := 0) hx hb dX2_search_65 (by decide) ?_
        refine pc_Sv (As := [.ref h, .int 0, .int 0]) (rest := []) F (b_X2_searchFrom_5 l D cy A L22 h 0 0 hG (hF.k hk (by decide)) (by decide) (by decide)) (va_cwS 3 hts gX2_search_X2_searchFrom rfl rfl rfl (by decide +kernel) ⟨Nat.le_of_ble_eq_true rfl, Nat.le_of_ble_eq_true rfl⟩) hK hZ hA hW hS rfl hl.1 rfl (Nat.le_of_ble_eq_true rfl) dX2_search_66 ⟨Nat.le_of_ble_eq_true rfl, Nat.le_of_ble_eq_true rfl⟩ (fun T9 H locs p10 hW hS => ?_)
        obtain ⟨hG, hFc, p10⟩ := p10
        have hF : Fr [] [207, 208, 209, 1100] S T9 := hF.tr (hFc.mono (by decide))
        have hE6 : Fr [] [207, 208, 209, 1100] S5 T9 := hE6.tr (hFc.mono (by decide))
        exact pc_vret (S := T9) hx hb hr hlk hK hZ hA hW hS (⟨hG, hF, trivial⟩) dX2_search_69
      · have c7i : ¬ (Int32.toInt y < (0 : Int)) := fun h9 => c7 ((i3_lt _ _).mpr h9)
        refine lv_iload_n hx hb dX2_search_27 rfl (lv_at hl 3 rfl) ?_
        refine lv_iload hx hb dX2_search_28 (lv_at hl 4 rfl) ?_
        refine lv_aload_n hx hb dX2_search_30 rfl (lv_at hl 0 rfl) ?_
        refine pg_gi (ci := 2) (C := RX2) (T := TX2) (N := 10) hx hb hts wi2 hown hK hW (hF.k hk (by decide)) (by decide) rfl 6 (by decide) (hts (.fieldLink RX2 34 "IceHall$Mover" "size" "I") (by decide +kernel)) (fun _ h9 => h9) rfl dX2_search_31 ?_
        refine lv_icmp_ge (tgt := 46) hx hb dX2_search_34 (by decide) (fun c11 => ?_) (fun c11 => ?_)
        · have c11i : Int32.toInt (sI L22 h 6) ≤ Int32.toInt y := (i3_le _ _).mp c11
          refine lv_iconst (v := 0) hx hb dX2_search_46 (by decide) ?_
          refine lv_iadd hx hb dX2_search_47 ?_
          refine lv_istore_n (lv' := [(3, .int (z + 0)), (0, .ref h), (1, .int a), (2, .int b), (4, .int y)]) hx hb dX2_search_48 rfl hl (by decide) rfl (fun ls hl => ?_)
          refine lv_aload_n hx hb dX2_search_49 rfl (lv_at hl 1 rfl) ?_
          obtain ⟨b12, rb12, kb12, nb12⟩ := hG0.r hk List.not_mem_nil 5 (show rty 2 5 = some (11, 6) from rfl)
          refine pg_gr (b := b12) (ci := 2) (C := RX2) (T := TX2) (N := 10) hx hb hts wi2 hown hK hW (hF.k hk (by decide)) (by decide) rfl 5 (by decide) (hts (.fieldLink RX2 24 "IceHall$Mover" "leastFrom" "[I") (by decide +kernel)) (fun _ h9 => h9) rfl (hF.r hk (by decide) rb12) dX2_search_50 ?_
          refine lv_iload hx hb dX2_search_53 (lv_at hl 4 rfl) ?_
          refine lv_iload_n hx hb dX2_search_55 rfl (lv_at hl 0 rfl) ?_
          refine pg_iast hx hb hK hW hS (hF.k kb12 (by decide)) (by decide) (by rw [show sL L22 b12 = 6 from (hF.n kb12 (by decide) nb12)]; exact r_in (by omega)) dX2_search_56 (fun H locs hW hS => ?_)
          have kq13 : sK L22 b12 = 11 := (hF.k kb12 (by decide))
          obtain ⟨S14, eS14⟩ : ∃ T : St, T = stI L22 b12 (Int32.toNatClampNeg y) (z + 0) := ⟨_, rfl⟩
          rw [← eS14] at hW
          have hG : G S14 := by rw [eS14]; exact hG.I kq13 (ok_frA (by decide) (by decide))
          have hF : Fr [] [207, 208, 209, 1100] S S14 := by rw [eS14]; exact hF.IA kq13 (by decide) (by decide)
          have hE6 : Fr [] [207, 208, 209, 1100] S5 S14 := by rw [eS14]; exact hE6.IA kq13 (by decide) (by decide)
          clear eS14
          refine lv_iinc (v := y + (-1)) (lv' := [(4, .int (y + (-1))), (3, .int (z + 0)), (0, .ref h), (1, .int a), (2, .int b)]) hx hb dX2_search_57 hl (k := 4) rfl rfl (by decide) rfl (fun ls hl => ?_)
          have i15 : (y + (-1)).toInt = (y).toInt - 1 := i3_dec (by omega)
          refine lv_goto (tgt := 22) hx hb dX2_search_60 (by decide) ?_
          exact ih22 (z + 0) (y + (-1)) S14 _ _ ls hG hE6 (bk_le i15 hy5) (bk_dn i15 (by assumption) hme22) hW hS (lv_cast (lv_sub hl [2, 3, 4, 1, 0] rfl) (rfl))
        · have c11i : ¬ (Int32.toInt (sI L22 h 6) ≤ Int32.toInt y) := fun h9 => c11 ((i3_le _ _).mpr h9)
          refine lv_aload_n hx hb dX2_search_37 rfl (lv_at hl 0 rfl) ?_
          refine lv_iload hx hb dX2_search_38 (lv_at hl 4 rfl) ?_
          refine pc_Vi (As := [.int y]) (rest := [.int z]) F (b_X2_leastAlone l D cy A L22 h y hG (hF.k hk (by decide))) (cwV 1 hts gX2_search_X2_leastAlone rfl rfl rfl (by decide +kernel) ⟨Nat.le_of_ble_eq_true rfl, Nat.le_of_ble_eq_true rfl⟩) hK hZ hA hW hS (hF.k hk (by decide)) (by decide) rfl rfl hl.1 rfl (Nat.le_of_ble_eq_true rfl) dX2_search_40 ⟨Nat.le_of_ble_eq_true rfl, Nat.le_of_ble_eq_true rfl⟩ (fun v16 T17 H locs p18 hW hS => ?_)
          obtain ⟨eT17, p18⟩ := p18
          rw [eT17] at hW
          clear eT17
          refine lv_goto (tgt := 47) hx hb dX2_search_43 (by decide) ?_
          refine lv_iadd hx hb dX2_search_47 ?_
          refine lv_istore_n (lv' := [(3, .int (z + v16)), (0, .ref h), (1, .int a), (2, .int b), (4, .int y)]) hx hb dX2_search_48 rfl hl (by decide) rfl (fun ls hl => ?_)
          refine lv_aload_n hx hb dX2_search_49 rfl (lv_at hl 1 rfl) ?_
          obtain ⟨b19, rb19, kb19, nb19⟩ := hG0.r hk List.not_mem_nil 5 (show rty 2 5 = some (11, 6) from rfl)
          refine pg_gr (b := b19) (ci := 2) (C := RX2) (T := TX2) (N := 10) hx hb hts wi2 hown hK hW (hF.k hk (by decide)) (by decide) rfl 5 (by decide) (hts (.fieldLink RX2 24 "IceHall$Mover" "leastFrom" "[I") (by decide +kernel)) (fun _ h9 => h9) rfl (hF.r hk (by decide) rb19) dX2_search_50 ?_
          refine lv_iload hx hb dX2_search_53 (lv_at hl 4 rfl) ?_
          refine lv_iload_n hx hb dX2_search_55 rfl (lv_at hl 0 rfl) ?_
          refine pg_iast hx hb hK hW hS (hF.k kb19 (by decide)) (by decide) (by rw [show sL L22 b19 = 6 from (hF.n kb19 (by decide) nb19)]; exact r_in (by omega)) dX2_search_56 (fun H locs hW hS => ?_)
          have kq20 : sK L22 b19 = 11 := (hF.k kb19 (by decide))
          obtain ⟨S21, eS21⟩ : ∃ T : St, T = stI L22 b19 (Int32.toNatClampNeg y) (z + v16) := ⟨_, rfl⟩
          rw [← eS21] at hW
          have hG : G S21 := by rw [eS21]; exact hG.I kq20 (ok_frA (by decide) (by decide))
          have hF : Fr [] [207, 208, 209, 1100] S S21 := by rw [eS21]; exact hF.IA kq20 (by decide) (by decide)
          have hE6 : Fr [] [207, 208, 209, 1100] S5 S21 := by rw [eS21]; exact hE6.IA kq20 (by decide) (by decide)
          clear eS21
          refine lv_iinc (v := y + (-1)) (lv' := [(4, .int (y + (-1))), (3, .int (z + v16)), (0, .ref h), (1, .int a), (2, .int b)]) hx hb dX2_search_57 hl (k := 4) rfl rfl (by decide) rfl (fun ls hl => ?_)
          have i22 : (y + (-1)).toInt = (y).toInt - 1 := i3_dec (by omega)
          refine lv_goto (tgt := 22) hx hb dX2_search_60 (by decide) ?_
          exact ih22 (z + v16) (y + (-1)) S21 _ _ ls hG hE6 (bk_le i22 hy5) (bk_dn i22 (by assumption) hme22) hW hS (lv_cast (lv_sub hl [2, 3, 4, 1, 0] rfl) (rfl))
  exact loop22 _ 0 5 S5 _ _ ls hG hE6 (by decide) (Nat.lt_succ_self _) hW hS (lv_cast (lv_sub hl [2, 3, 4, 1, 0] rfl) (rfl))
set_option maxHeartbeats 4000000 in
set_option maxRecDepth 100000 in
theorem b_X2_carryOut (l : Launch) (D : va_G) (cy : Nat → ClassId) (A : Nat → Prop) (S : St) (h : Nat) (hG0 : G S) (hk : sK S h = 2) : MI l yX2_carryOut wsX2_carryOut ({ frames := 3, cells := 0, slots := 0, locals := 65 } : Room) 0 0 D cy A [.ref h] S (fun r S1 => G S1 ∧ Fr [] [604, 605, 606, 609] S S1 ∧ True) := by
  refine mt_start (cc := cX2_carryOut) (maxL := 5) (ret := (some .int)) (by decide) rfl (Nat.le_of_ble_eq_true rfl) ?_
  intro p e s m args below meth c hx hb hr hlk hml hown hnm hts hK hZ hA hW hS ls hl
  have hl : lv_has ls 5 [(0, .ref h)] := hl
  have hown : s.vm.findClass RX2 = some m.cls := hown
  have F : CallFix p m c cX2_carryOut 5 s args wsX2_carryOut RX2 := ⟨hx, hb, hml, hown, hts⟩
  have wi1 : ∀ w ∈ u_ws RX1 TX1 10, w ∈ wsX2_carryOut := by decide +kernel
  have wi2 : ∀ w ∈ u_ws RX2 TX2 10, w ∈ wsX2_carryOut := by decide +kernel
  have wi6 : ∀ w ∈ u_ws RX6 TX6 10, w ∈ wsX2_carryOut := by decide +kernel
  have hG := hG0
  have hF : Fr [] [604, 605, 606, 609] S S := Fr.rf _ _ _
  refine lv_iconst (v := 0) hx hb dX2_carryOut_0 (by decide) ?_
  refine lv_istore_n (lv' := [(1, .int 0), (0, .ref h)]) hx hb dX2_carryOut_1 rfl hl (by decide) rfl (fun ls hl => ?_)
  refine lv_iconst (v := 0) hx hb dX2_carryOut_2 (by decide) ?_
  refine lv_istore_n (lv' := [(2, .int 0), (1, .int 0), (0, .ref h)]) hx hb dX2_carryOut_3 rfl hl (by decide) rfl (fun ls hl => ?_)
  have loop4 : ∀ (zn : Nat) (z : Int32) (y : Int32) (L4 : St) (H : Heap) (locs : List Loc) (ls : Array Slot), (G L4) → (Fr [] [604, 605, 606, 609] S L4) → (0 ≤ y.toInt) → (5 - y.toInt).toNat < zn → PW D cy A L4 H → va_S A s.heap H locs → lv_has ls 5 [(0, .ref h), (1, .int z), (2, .int y)] → W p l e ({ frames := 3, cells := 0, slots := 0, locals := 65 } : Room) s m args below meth c H locs 0 0 (MQ below (va_Qi (fun r S1 => G S1 ∧ Fr [] [604, 605, 606, 609] S S1 ∧ True) (PU D cy A) A) args s 0 0 A) (F0 m 4 ls []) := by
    intro zn
    induction zn with
    | zero => intros; exact absurd (by assumption) (Nat.not_lt_zero _)
    | succ zn ih4 =>
      intro z y L4 H locs ls hG hL4 hy0 hme4 hW hS hl
      have hF := hL4
      refine lv_iload_n hx hb dX2_carryOut_4 rfl (lv_at hl 2 rfl) ?_
      refine lv_aload_n hx hb dX2_carryOut_5 rfl (lv_at hl 0 rfl) ?_
      refine pg_gi (ci := 2) (C := RX2) (T := TX2) (N := 10) hx hb hts wi2 hown hK hW (hF.k hk (by decide)) (by decide) rfl 6 (by decide) (hts (.fieldLink RX2 34 "IceHall$Mover" "size" "I") (by decide +kernel)) (fun _ h9 => h9) rfl dX2_carryOut_6 ?_
      refine lv_icmp_ge (tgt := 105) hx hb dX2_carryOut_9 (by decide) (fun c1 => ?_) (fun c1 => ?_)
      · have c1i : Int32.toInt (sI L4 h 6) ≤ Int32.toInt y := (i3_le _ _).mp c1
        refine lv_iload_n hx hb dX2_carryOut_105 rfl (lv_at hl 1 rfl) ?_
        exact pc_iret (v := z) (S := L4) hx hb hr hlk hK hZ hA hW hS (⟨hG, hF, trivial⟩) dX2_carryOut_106
      · have c1i : ¬ (Int32.toInt (sI L4 h 6) ≤ Int32.toInt y) := fun h9 => c1 ((i3_le _ _).mpr h9)
        refine lv_iload_n hx hb dX2_carryOut_12 rfl (lv_at hl 2 rfl) ?_
        refine lv_iconst (v := 5) hx hb dX2_carryOut_13 (by decide) ?_
        refine lv_icmp_ge (tgt := 105) hx hb dX2_carryOut_14 (by decide) (fun c2 => ?_) (fun c2 => ?_)
        · have c2i : (5 : Int) ≤ Int32.toInt y := (i3_le _ _).mp c2
          refine lv_iload_n hx hb dX2_carryOut_105 rfl (lv_at hl 1 rfl) ?_
          exact pc_iret (v := z) (S := L4) hx hb hr hlk hK hZ hA hW hS (⟨hG, hF, trivial⟩) dX2_carryOut_106
        · have c2i : ¬ ((5 : Int) ≤ Int32.toInt y) := fun h9 => c2 ((i3_le _ _).mpr h9)
          refine lv_aload_n hx hb dX2_carryOut_17 rfl (lv_at hl 0 rfl) ?_
          obtain ⟨b3, rb3, kb3, nb3⟩ := hG0.r hk List.not_mem_nil 2 (show rty 2 2 = some (15, 5) from rfl)
          refine pg_gr (b := b3) (ci := 2) (C := RX2) (T := TX2) (N := 10) hx hb hts wi2 hown hK hW (hF.k hk (by decide)) (by decide) rfl 2 (by decide) (hts (.fieldLink RX2 11 "IceHall$Mover" "moved" "[LIceHall$Session;") (by decide +kernel)) (fun _ h9 => h9) rfl (hF.r hk (by decide) rb3) dX2_carryOut_18 ?_
          refine lv_iload_n hx hb dX2_carryOut_21 rfl (lv_at hl 2 rfl) ?_
          refine pg_aaldS hx hb hK hW (hF.k kb3 (by decide)) (by rw [show sL L4 b3 = 5 from (hF.n kb3 (by decide) nb3)]; exact r_in (by omega)) dX2_carryOut_22 ?_
          have hE6 : Fr [] [604, 605, 606, 609] L4 L4 := Fr.rf _ _ _
          rcases o4 : sR L4 b3 (Int32.toNatClampNeg y) with _ | b5
          · refine lv_astore_nN (lv' := [(3, .null), (0, .ref h), (1, .int z), (2, .int y)]) hx hb dX2_carryOut_23 rfl hl (by decide) rfl (fun ls hl => ?_)
            refine lv_aload_nN hx hb dX2_carryOut_24 rfl (lv_at hl 0 rfl) ?_
            refine lv_ifnullN (tgt := 50) hx hb dX2_carryOut_25 (by decide) ?_
            refine lv_aload_nN hx hb dX2_carryOut_50 rfl (lv_at hl 0 rfl) ?_
            refine lv_ifnullN (tgt := 99) hx hb dX2_carryOut_51 (by decide) ?_
            refine lv_iinc (v := y + 1) (lv' := [(2, .int (y + 1)), (3, .null), (0, .ref h), (1, .int z)]) hx hb dX2_carryOut_99 hl (k := 3) rfl rfl (by decide) rfl (fun ls hl => ?_)
            have i7 : (y + 1).toInt = (y).toInt + 1 := i3_add rfl rfl (by omega) (by omega)
            refine lv_goto (tgt := 4) hx hb dX2_carryOut_102 (by decide) ?_
            exact ih4 z (y + 1) L4 _ _ ls hG hF (by omega) (by omega) hW hS (lv_cast (lv_sub hl [2, 3, 0] rfl) (rfl))
          · have kb5 : sK L4 b5 = 6 := hG.2.2.1 _ _ _ (hF.k kb3 (by decide)) o4
            refine lv_astore_n (lv' := [(3, .ref b5), (0, .ref h), (1, .int z), (2, .int y)]) hx hb dX2_carryOut_23 rfl hl (by decide) rfl (fun ls hl => ?_)
            refine lv_aload_n hx hb dX2_carryOut_24 rfl (lv_at hl 0 rfl) ?_
            refine lv_ifnull hx hb dX2_carryOut_25 ?_
            refine lv_aload_n hx hb dX2_carryOut_28 rfl (lv_at hl 1 rfl) ?_
            obtain ⟨b8, rb8, kb8, nb8⟩ := hG0.r hk List.not_mem_nil 4 (show rty 2 4 = some (11, 5) from rfl)
            refine pg_gr (b := b8) (ci := 2) (C := RX2) (T := TX2) (N := 10) hx hb hts wi2 hown hK hW (hF.k hk (by decide)) (by decide) rfl 4 (by decide) (hts (.fieldLink RX2 21 "IceHall$Mover" "bestRow" "[I") (by decide +kernel)) (fun _ h9 => h9) rfl (hF.r hk (by decide) rb8) dX2_carryOut_29 ?_
            refine lv_iload_n hx hb dX2_carryOut_32 rfl (lv_at hl 3 rfl) ?_
            refine pg_iald hx hb hK hW (hF.k kb8 (by decide)) (by decide) (by rw [show sL L4 b8 = 5 from (hF.n kb8 (by decide) nb8)]; exact r_in (by omega)) dX2_carryOut_33 ?_
            refine lv_bipush (v := 14) hx hb dX2_carryOut_34 (by decide) ?_
            refine lv_icmp_ne (tgt := 50) hx hb dX2_carryOut_36 (by decide) (fun c9 => ?_) (fun c9 => ?_)
            · have c9i : ¬ (Int32.toInt (sI L4 b8 (Int32.toNatClampNeg y)) = (14 : Int)) := fun h9 => c9 ((i3_eq _ _).mpr h9)
              refine lv_aload_n hx hb dX2_carryOut_50 rfl (lv_at hl 0 rfl) ?_
              refine lv_ifnull hx hb dX2_carryOut_51 ?_
              refine lv_aload_n hx hb dX2_carryOut_54 rfl (lv_at hl 1 rfl) ?_
              refine lv_iload_n hx hb dX2_carryOut_55 rfl (lv_at hl 3 rfl) ?_
              refine lv_aload_n hx hb dX2_carryOut_56 rfl (lv_at hl 1 rfl) ?_
              refine pg_gr (b := b8) (ci := 2) (C := RX2) (T := TX2) (N := 10) hx hb hts wi2 hown hK hW (hF.k hk (by decide)) (by decide) rfl 4 (by decide) (hts (.fieldLink RX2 21 "IceHall$Mover" "bestRow" "[I") (by decide +kernel)) (fun _ h9 => h9) rfl (hF.r hk (by decide) rb8) dX2_carryOut_57 ?_
              refine lv_iload_n hx hb dX2_carryOut_60 rfl (lv_at hl 3 rfl) ?_
              refine pg_iald hx hb hK hW (hF.k kb8 (by decide)) (by decide) (by rw [show sL L4 b8 = 5 from (hF.n kb8 (by decide) nb8)]; exact r_in (by omega)) dX2_carryOut_61 ?_
              refine pc_Vi (As := [.int y, .int (sI L4 b8 (Int32.toNatClampNeg y))]) (rest := []) F (b_X2_hourOf l D cy A L4 h y (sI L4 b8 (Int32.toNatClampNeg y)) hG (hF.k hk (by decide))) (cwV 2 hts gX2_carryOut_X2_hourOf rfl rfl rfl (by decide +kernel) ⟨Nat.le_of_ble_eq_true rfl, Nat.le_of_ble_eq_true rfl⟩) hK hZ hA hW hS (hF.k hk (by decide)) (by decide) rfl rfl hl.1 rfl (Nat.le_of_ble_eq_true rfl) dX2_carryOut_62 ⟨Nat.le_of_ble_eq_true rfl, Nat.le_of_ble_eq_true rfl⟩ (fun v10 T11 H locs p12 hW hS => ?_)
              obtain ⟨eT11, p12⟩ := p12
              rw [eT11] at hW
              clear eT11
              refine lv_istore (lv' := [(4, .int v10), (3, .ref b5), (0, .ref h), (1, .int z), (2, .int y)]) hx hb dX2_carryOut_65 hl (by decide) rfl (fun ls hl => ?_)
              refine lv_aload_n hx hb dX2_carryOut_67 rfl (lv_at hl 2 rfl) ?_
              refine lv_aload_n hx hb dX2_carryOut_68 rfl (lv_at hl 2 rfl) ?_
              refine pg_gr (b := b8) (ci := 2) (C := RX2) (T := TX2) (N := 10) hx hb hts wi2 hown hK hW (hF.k hk (by decide)) (by decide) rfl 4 (by decide) (hts (.fieldLink RX2 21 "IceHall$Mover" "bestRow" "[I") (by decide +kernel)) (fun _ h9 => h9) rfl (hF.r hk (by decide) rb8) dX2_carryOut_69 ?_
              refine lv_iload_n hx hb dX2_carryOut_72 rfl (lv_at hl 4 rfl) ?_
              refine pg_iald hx hb hK hW (hF.k kb8 (by decide)) (by decide) (by rw [show sL L4 b8 = 5 from (hF.n kb8 (by decide) nb8)]; exact r_in (by omega)) dX2_carryOut_73 ?_
              refine pc_Vq (As := [.int (sI L4 b8 (Int32.toNatClampNeg y))]) (rest := []) F (b_X2_iceOfWay l D cy A L4 h (sI L4 b8 (Int32.toNatClampNeg y)) hG (hF.k hk (by decide))) (cwV 1 hts gX2_carryOut_X2_iceOfWay rfl rfl rfl (by decide +kernel) ⟨Nat.le_of_ble_eq_true rfl, Nat.le_of_ble_eq_true rfl⟩) hK hZ hA hW hS (hF.k hk (by decide)) (by decide) rfl rfl hl.1 rfl (Nat.le_of_ble_eq_true rfl) dX2_carryOut_74 ⟨Nat.le_of_ble_eq_true rfl, Nat.le_of_ble_eq_true rfl⟩ (fun v13 T14 H locs p15 hW hS => ?_)
              obtain ⟨eT14, p15⟩ := p15
              rw [eT14] at hW
              obtain ⟨b16, erb16, kb16⟩ := p15
              rw [erb16]
              obtain ⟨b17, rb17, kb17, nb17⟩ := hG.r kb16 List.not_mem_nil 0 (show rty 1 0 = some (0, 0) from rfl)
              refine pg_gr (b := b17) (ci := 1) (C := RX1) (T := TX1) (N := 10) hx hb hts wi1 hown hK hW kb16 (by decide) rfl 0 (by decide) (hts (.fieldLink RX2 70 "IceHall$Ice" "taken" "LIceHall$HourSet;") (by decide +kernel)) (fun _ h9 => h9) rfl rb17 dX2_carryOut_77 ?_
              refine lv_iload hx hb dX2_carryOut_80 (lv_at hl 0 rfl) ?_
              refine pc_Vv (As := [.int v10]) (rest := []) F (b_X0_put l D cy A L4 b17 v10 hG kb17) (cwV 1 hts gX2_carryOut_X0_put rfl rfl rfl (by decide +kernel) ⟨Nat.le_of_ble_eq_true rfl, Nat.le_of_ble_eq_true rfl⟩) hK hZ hA hW hS kb17 (by decide) rfl rfl hl.1 rfl (Nat.le_of_ble_eq_true rfl) dX2_carryOut_82 ⟨Nat.le_of_ble_eq_true rfl, Nat.le_of_ble_eq_true rfl⟩ (fun T19 H locs p20 hW hS => ?_)
              obtain ⟨hG, hFc, p20⟩ := p20
              have hF : Fr [] [604, 605, 606, 609] S T19 := hF.tr (hFc.mono (by decide))
              have hE6 : Fr [] [604, 605, 606, 609] L4 T19 := hE6.tr (hFc.mono (by decide))
              refine lv_aload_n hx hb dX2_carryOut_85 rfl (lv_at hl 1 rfl) ?_
              refine lv_aload_n hx hb dX2_carryOut_86 rfl (lv_at hl 2 rfl) ?_
              refine pg_gr (b := b8) (ci := 2) (C := RX2) (T := TX2) (N := 10) hx hb hts wi2 hown hK hW (hF.k hk (by decide)) (by decide) rfl 4 (by decide) (hts (.fieldLink RX2 21 "IceHall$Mover" "bestRow" "[I") (by decide +kernel)) (fun _ h9 => h9) rfl (hF.r hk (by decide) rb8) dX2_carryOut_87 ?_
              refine lv_iload_n hx hb dX2_carryOut_90 rfl (lv_at hl 4 rfl) ?_
              refine pg_iald hx hb hK hW (hF.k kb8 (by decide)) (by decide) (by rw [show sL T19 b8 = 5 from (hF.n kb8 (by decide) nb8)]; exact r_in (by omega)) dX2_carryOut_91 ?_
              refine lv_iconst (v := 2) hx hb dX2_carryOut_92 (by decide) ?_
              refine lv_irem hx hb dX2_carryOut_93 (by decide) ?_
              refine lv_iload hx hb dX2_carryOut_94 (lv_at hl 0 rfl) ?_
              refine pc_Vv (As := [.int ((sI T19 b8 (Int32.toNatClampNeg y)) - (sI T19 b8 (Int32.toNatClampNeg y)) / 2 * 2), .int v10]) (rest := []) F (b_X6_moveTo l D cy A T19 b5 ((sI T19 b8 (Int32.toNatClampNeg y)) - (sI T19 b8 (Int32.toNatClampNeg y)) / 2 * 2) v10 hG (hE6.k kb5 (by decide))) (cwV 2 hts gX2_carryOut_X6_moveTo rfl rfl rfl (by decide +kernel) ⟨Nat.le_of_ble_eq_true rfl, Nat.le_of_ble_eq_true rfl⟩) hK hZ hA hW hS (hE6.k kb5 (by decide)) (by decide) rfl rfl hl.1 rfl (Nat.le_of_ble_eq_true rfl) dX2_carryOut_96 ⟨Nat.le_of_ble_eq_true rfl, Nat.le_of_ble_eq_true rfl⟩ (fun T22 H locs p23 hW hS => ?_)
              obtain ⟨hG, hFc, p23⟩ := p23
              have hF : Fr [] [604, 605, 606, 609] S T22 := hF.tr (hFc.mono (by decide))
              have hE6 : Fr [] [604, 605, 606, 609] L4 T22 := hE6.tr (hFc.mono (by decide))
              refine lv_iinc (v := y + 1) (lv' := [(2, .int (y + 1)), (4, .int v10), (3, .ref b5), (0, .ref h), (1, .int z)]) hx hb dX2_carryOut_99 hl (k := 4) rfl rfl (by decide) rfl (fun ls hl => ?_)
              have i24 : (y + 1).toInt = (y).toInt + 1 := i3_add rfl rfl (by omega) (by omega)
              refine lv_goto (tgt := 4) hx hb dX2_carryOut_102 (by decide) ?_
              exact ih4 z (y + 1) T22 _ _ ls hG hF (by omega) (by omega) hW hS (lv_cast (lv_sub hl [3, 4, 0] rfl) (rfl))
            · have c9i : Int32.toInt (sI L4 b8 (Int32.toNatClampNeg y)) = (14 : Int) := (i3_eq _ _).mp c9
              refine lv_aload_n hx hb dX2_carryOut_39 rfl (lv_at hl 0 rfl) ?_
              refine lv_iconst (v := 4) hx hb dX2_carryOut_40 (by decide) ?_
              refine pg_pi (ci := 6) (C := RX6) (T := TX6) (N := 10) hx hb hts wi6 tyX6 tyX6_ok nmX6 hown hK hW hS kb5 (by decide) rfl 6 (by decide) (hts (.fieldLink RX2 59 "IceHall$Session" "state" "I") (by decide +kernel)) (fun _ h9 => h9) rfl rfl rfl dX2_carryOut_41 (fun H locs hW hS => ?_)
              obtain ⟨S25, eS25⟩ : ∃ T : St, T = stI L4 b5 6 4 := ⟨_, rfl⟩
              rw [← eS25] at hW
              have hG : G S25 := by rw [eS25]; exact hG.I kb5 (ok_fr (by decide))
              have hF : Fr [] [604, 605, 606, 609] S S25 := by rw [eS25]; exact hF.I kb5 (by decide)
              have hE6 : Fr [] [604, 605, 606, 609] L4 S25 := by rw [eS25]; exact hE6.I kb5 (by decide)
              clear eS25
              refine lv_iinc (v := z + 1) (lv' := [(1, .int (z + 1)), (3, .ref b5), (0, .ref h), (2, .int y)]) hx hb dX2_carryOut_44 hl (k := 2) rfl rfl (by decide) rfl (fun ls hl => ?_)
              refine lv_goto (tgt := 99) hx hb dX2_carryOut_47 (by decide) ?_
              refine lv_iinc (v := y + 1) (lv' := [(2, .int (y + 1)), (1, .int (z + 1)), (3, .ref b5), (0, .ref h)]) hx hb dX2_carryOut_99 hl (k := 3) rfl rfl (by decide) rfl (fun ls hl => ?_)
              have i26 : (y + 1).toInt = (y).toInt + 1 := i3_add rfl rfl (by omega) (by omega)
              refine lv_goto (tgt := 4) hx hb dX2_carryOut_102 (by decide) ?_
              exact ih4 (z + 1) (y + 1) S25 _ _ ls hG hF (by omega) (by omega) hW hS (lv_cast (lv_sub hl [3, 1, 0] rfl) (rfl))
  exact loop4 _ 0 0 S _ _ ls hG hF (by decide) (Nat.lt_succ_self _) hW hS (lv_cast (lv_sub hl [2, 1, 0] rfl) (rfl))
