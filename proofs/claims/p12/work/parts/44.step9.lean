set_option maxHeartbeats 4000000 in
set_option maxRecDepth 100000 in
theorem b_X9_melts (l : Launch) (D : va_G) (cy : Nat → ClassId) (A : Nat → Prop) (S : St) (h : Nat) (a b : Int32) (hG0 : G S) (hk : sK S h = 9) (ha0 : 0 ≤ a.toInt) (ha2 : a.toInt < 2) : MV l yX9_melts wsX9_melts ({ frames := 0, cells := 0, slots := 0, locals := 0 } : Room) 0 0 D cy A [.ref h, .int a, .int b] S (fun S1 => G S1 ∧ Fr [] [919, 1100] S S1 ∧ True) := by
  refine mt_start (cc := cX9_melts) (maxL := 6) (ret := none) (by decide) rfl (Nat.le_of_ble_eq_true rfl) ?_
  intro p e s m args below meth c hx hb hr hlk hml hown hnm hts hK hZ hA hW hS ls hl
  have hl : lv_has ls 6 [(0, .ref h), (1, .int a), (2, .int b)] := hl
  have hown : s.vm.findClass RX9 = some m.cls := hown
  have F : CallFix p m c cX9_melts 6 s args wsX9_melts RX9 := ⟨hx, hb, hml, hown, hts⟩
  have wi9 : ∀ w ∈ u_ws RX9 TX9 63, w ∈ wsX9_melts := by decide +kernel
  have hG := hG0
  have hF : Fr [] [919, 1100] S S := Fr.rf _ _ _
  have join16 : ∀ (v16 : Int32) (H : Heap) (locs : List Loc), PW D cy A S H → va_S A s.heap H locs → W p l e ({ frames := 0, cells := 0, slots := 0, locals := 0 } : Room) s m args below meth c H locs 0 0 (MQ below (va_Qv (fun S1 => G S1 ∧ Fr [] [919, 1100] S S1 ∧ True) (PU D cy A) A) args s 0 0 A) (F0 m 16 ls [.int v16]) := by
    intro v16 H locs hW hS
    refine lv_istore_n (lv' := [(3, .int v16), (0, .ref h), (1, .int a), (2, .int b)]) hx hb dX9_melts_16 rfl hl (by decide) rfl (fun ls hl => ?_)
    refine lv_aload_n hx hb dX9_melts_17 rfl (lv_at hl 1 rfl) ?_
    refine lv_aload_n hx hb dX9_melts_18 rfl (lv_at hl 1 rfl) ?_
    refine pg_gi (ci := 9) (C := RX9) (T := TX9) (N := 63) hx hb hts wi9 hown hK hW hk (by decide) rfl 19 (by decide) (hts (.fieldLink RX9 32 "IceHallModel" "store" "I") (by decide +kernel)) (fun _ h9 => h9) rfl dX9_melts_19 ?_
    refine lv_iload_n hx hb dX9_melts_22 rfl (lv_at hl 0 rfl) ?_
    refine lv_isub hx hb dX9_melts_23 ?_
    refine pg_pi (ci := 9) (C := RX9) (T := TX9) (N := 63) hx hb hts wi9 tyX9 tyX9_ok nmX9 hown hK hW hS hk (by decide) rfl 19 (by decide) (hts (.fieldLink RX9 32 "IceHallModel" "store" "I") (by decide +kernel)) (fun _ h9 => h9) rfl rfl rfl dX9_melts_24 (fun H locs hW hS => ?_)
    obtain ⟨S1, eS1⟩ : ∃ T : St, T = stI S h 19 ((sI S h 19) - v16) := ⟨_, rfl⟩
    rw [← eS1] at hW
    have hG : G S1 := by rw [eS1]; exact hG.I hk (ok_fr (by decide))
    have hF : Fr [] [919, 1100] S S1 := by rw [eS1]; exact hF.I hk (by decide)
    clear eS1
    refine lv_iload_n hx hb dX9_melts_27 rfl (lv_at hl 3 rfl) ?_
    refine lv_iload_n hx hb dX9_melts_28 rfl (lv_at hl 0 rfl) ?_
    refine lv_isub hx hb dX9_melts_29 ?_
    refine lv_istore (lv' := [(4, .int (b - v16)), (3, .int v16), (0, .ref h), (1, .int a), (2, .int b)]) hx hb dX9_melts_30 hl (by decide) rfl (fun ls hl => ?_)
    have join54 : ∀ (v54 : Int32) (H : Heap) (locs : List Loc), PW D cy A S1 H → va_S A s.heap H locs → W p l e ({ frames := 0, cells := 0, slots := 0, locals := 0 } : Room) s m args below meth c H locs 0 0 (MQ below (va_Qv (fun S1 => G S1 ∧ Fr [] [919, 1100] S S1 ∧ True) (PU D cy A) A) args s 0 0 A) (F0 m 54 ls [.int v54]) := by
      intro v54 H locs hW hS
      refine lv_istore (lv' := [(5, .int v54), (4, .int (b - v16)), (3, .int v16), (0, .ref h), (1, .int a), (2, .int b)]) hx hb dX9_melts_54 hl (by decide) rfl (fun ls hl => ?_)
      refine lv_aload_n hx hb dX9_melts_56 rfl (lv_at hl 3 rfl) ?_
      obtain ⟨b2, rb2, kb2, nb2⟩ := hG0.r hk List.not_mem_nil 27 (show rty 9 27 = some (11, 2) from rfl)
      refine pg_gr (b := b2) (ci := 9) (C := RX9) (T := TX9) (N := 63) hx hb hts wi9 hown hK hW (hF.k hk (by decide)) (by decide) rfl 27 (by decide) (hts (.fieldLink RX9 48 "IceHallModel" "thick" "[I") (by decide +kernel)) (fun _ h9 => h9) rfl (hF.r hk (by decide) rb2) dX9_melts_57 ?_
      refine lv_iload_n hx hb dX9_melts_60 rfl (lv_at hl 4 rfl) ?_
      refine lv_aload_n hx hb dX9_melts_61 rfl (lv_at hl 3 rfl) ?_
      refine pg_gr (b := b2) (ci := 9) (C := RX9) (T := TX9) (N := 63) hx hb hts wi9 hown hK hW (hF.k hk (by decide)) (by decide) rfl 27 (by decide) (hts (.fieldLink RX9 48 "IceHallModel" "thick" "[I") (by decide +kernel)) (fun _ h9 => h9) rfl (hF.r hk (by decide) rb2) dX9_melts_62 ?_
      refine lv_iload_n hx hb dX9_melts_65 rfl (lv_at hl 4 rfl) ?_
      refine pg_iald hx hb hK hW (hF.k kb2 (by decide)) (by decide) (by rw [show sL S1 b2 = 2 from (hF.n kb2 (by decide) nb2)]; exact r_in (by omega)) dX9_melts_66 ?_
      refine lv_iload hx hb dX9_melts_67 (lv_at hl 0 rfl) ?_
      refine lv_isub hx hb dX9_melts_69 ?_
      refine pg_iast hx hb hK hW hS (hF.k kb2 (by decide)) (by decide) (by rw [show sL S1 b2 = 2 from (hF.n kb2 (by decide) nb2)]; exact r_in (by omega)) dX9_melts_70 (fun H locs hW hS => ?_)
      have kq3 : sK S1 b2 = 11 := (hF.k kb2 (by decide))
      obtain ⟨S4, eS4⟩ : ∃ T : St, T = stI S1 b2 (Int32.toNatClampNeg a) ((sI S1 b2 (Int32.toNatClampNeg a)) - v54) := ⟨_, rfl⟩
      rw [← eS4] at hW
      have hG : G S4 := by rw [eS4]; exact hG.I kq3 (ok_frA (by decide) (by decide))
      have hF : Fr [] [919, 1100] S S4 := by rw [eS4]; exact hF.IA kq3 (by decide) (by decide)
      clear eS4
      refine lv_aload_n hx hb dX9_melts_71 rfl (lv_at hl 3 rfl) ?_
      obtain ⟨b5, rb5, kb5, nb5⟩ := hG0.r hk List.not_mem_nil 31 (show rty 9 31 = some (11, 2) from rfl)
      refine pg_gr (b := b5) (ci := 9) (C := RX9) (T := TX9) (N := 63) hx hb hts wi9 hown hK hW (hF.k hk (by decide)) (by decide) rfl 31 (by decide) (hts (.fieldLink RX9 60 "IceHallModel" "melted" "[I") (by decide +kernel)) (fun _ h9 => h9) rfl (hF.r hk (by decide) rb5) dX9_melts_72 ?_
      refine lv_iload_n hx hb dX9_melts_75 rfl (lv_at hl 4 rfl) ?_
      refine lv_aload_n hx hb dX9_melts_76 rfl (lv_at hl 3 rfl) ?_
      refine pg_gr (b := b5) (ci := 9) (C := RX9) (T := TX9) (N := 63) hx hb hts wi9 hown hK hW (hF.k hk (by decide)) (by decide) rfl 31 (by decide) (hts (.fieldLink RX9 60 "IceHallModel" "melted" "[I") (by decide +kernel)) (fun _ h9 => h9) rfl (hF.r hk (by decide) rb5) dX9_melts_77 ?_
      refine lv_iload_n hx hb dX9_melts_80 rfl (lv_at hl 4 rfl) ?_
      refine pg_iald hx hb hK hW (hF.k kb5 (by decide)) (by decide) (by rw [show sL S4 b5 = 2 from (hF.n kb5 (by decide) nb5)]; exact r_in (by omega)) dX9_melts_81 ?_
      refine lv_iload hx hb dX9_melts_82 (lv_at hl 0 rfl) ?_
      refine lv_iadd hx hb dX9_melts_84 ?_
      refine pg_iast hx hb hK hW hS (hF.k kb5 (by decide)) (by decide) (by rw [show sL S4 b5 = 2 from (hF.n kb5 (by decide) nb5)]; exact r_in (by omega)) dX9_melts_85 (fun H locs hW hS => ?_)
      have kq6 : sK S4 b5 = 11 := (hF.k kb5 (by decide))
      obtain ⟨S7, eS7⟩ : ∃ T : St, T = stI S4 b5 (Int32.toNatClampNeg a) ((sI S4 b5 (Int32.toNatClampNeg a)) + v54) := ⟨_, rfl⟩
      rw [← eS7] at hW
      have hG : G S7 := by rw [eS7]; exact hG.I kq6 (ok_frA (by decide) (by decide))
      have hF : Fr [] [919, 1100] S S7 := by rw [eS7]; exact hF.IA kq6 (by decide) (by decide)
      clear eS7
      exact pc_vret (S := S7) hx hb hr hlk hK hZ hA hW hS (⟨hG, hF, trivial⟩) dX9_melts_86
    refine lv_iload hx hb dX9_melts_32 (lv_at hl 0 rfl) ?_
    refine lv_aload_n hx hb dX9_melts_34 rfl (lv_at hl 2 rfl) ?_
    obtain ⟨b8, rb8, kb8, nb8⟩ := hG0.r hk List.not_mem_nil 27 (show rty 9 27 = some (11, 2) from rfl)
    refine pg_gr (b := b8) (ci := 9) (C := RX9) (T := TX9) (N := 63) hx hb hts wi9 hown hK hW (hF.k hk (by decide)) (by decide) rfl 27 (by decide) (hts (.fieldLink RX9 48 "IceHallModel" "thick" "[I") (by decide +kernel)) (fun _ h9 => h9) rfl (hF.r hk (by decide) rb8) dX9_melts_35 ?_
    refine lv_iload_n hx hb dX9_melts_38 rfl (lv_at hl 3 rfl) ?_
    refine pg_iald hx hb hK hW (hF.k kb8 (by decide)) (by decide) (by rw [show sL S1 b8 = 2 from (hF.n kb8 (by decide) nb8)]; exact r_in (by omega)) dX9_melts_39 ?_
    refine lv_icmp_ge (tgt := 48) hx hb dX9_melts_40 (by decide) (fun c9 => ?_) (fun c9 => ?_)
    · have c9i : Int32.toInt (sI S1 b8 (Int32.toNatClampNeg a)) ≤ Int32.toInt (b - v16) := (i3_le _ _).mp c9
      refine lv_aload_n hx hb dX9_melts_48 rfl (lv_at hl 2 rfl) ?_
      refine pg_gr (b := b8) (ci := 9) (C := RX9) (T := TX9) (N := 63) hx hb hts wi9 hown hK hW (hF.k hk (by decide)) (by decide) rfl 27 (by decide) (hts (.fieldLink RX9 48 "IceHallModel" "thick" "[I") (by decide +kernel)) (fun _ h9 => h9) rfl (hF.r hk (by decide) rb8) dX9_melts_49 ?_
      refine lv_iload_n hx hb dX9_melts_52 rfl (lv_at hl 3 rfl) ?_
      refine pg_iald hx hb hK hW (hF.k kb8 (by decide)) (by decide) (by rw [show sL S1 b8 = 2 from (hF.n kb8 (by decide) nb8)]; exact r_in (by omega)) dX9_melts_53 ?_
      exact join54 (sI S1 b8 (Int32.toNatClampNeg a)) _ _  hW hS
    · have c9i : ¬ (Int32.toInt (sI S1 b8 (Int32.toNatClampNeg a)) ≤ Int32.toInt (b - v16)) := fun h9 => c9 ((i3_le _ _).mpr h9)
      refine lv_iload hx hb dX9_melts_43 (lv_at hl 0 rfl) ?_
      refine lv_goto (tgt := 54) hx hb dX9_melts_45 (by decide) ?_
      exact join54 (b - v16) _ _  hW hS
  refine lv_iload_n hx hb dX9_melts_0 rfl (lv_at hl 2 rfl) ?_
  refine lv_aload_n hx hb dX9_melts_1 rfl (lv_at hl 0 rfl) ?_
  refine pg_gi (ci := 9) (C := RX9) (T := TX9) (N := 63) hx hb hts wi9 hown hK hW hk (by decide) rfl 19 (by decide) (hts (.fieldLink RX9 32 "IceHallModel" "store" "I") (by decide +kernel)) (fun _ h9 => h9) rfl dX9_melts_2 ?_
  refine lv_icmp_ge (tgt := 12) hx hb dX9_melts_5 (by decide) (fun c10 => ?_) (fun c10 => ?_)
  · have c10i : Int32.toInt (sI S h 19) ≤ Int32.toInt b := (i3_le _ _).mp c10
    refine lv_aload_n hx hb dX9_melts_12 rfl (lv_at hl 0 rfl) ?_
    refine pg_gi (ci := 9) (C := RX9) (T := TX9) (N := 63) hx hb hts wi9 hown hK hW hk (by decide) rfl 19 (by decide) (hts (.fieldLink RX9 32 "IceHallModel" "store" "I") (by decide +kernel)) (fun _ h9 => h9) rfl dX9_melts_13 ?_
    exact join16 (sI S h 19) _ _  hW hS
  · have c10i : ¬ (Int32.toInt (sI S h 19) ≤ Int32.toInt b) := fun h9 => c10 ((i3_le _ _).mpr h9)
    refine lv_iload_n hx hb dX9_melts_8 rfl (lv_at hl 2 rfl) ?_
    refine lv_goto (tgt := 16) hx hb dX9_melts_9 (by decide) ?_
    exact join16 b _ _  hW hS
set_option maxHeartbeats 4000000 in
set_option maxRecDepth 100000 in
theorem b_X9_holds (l : Launch) (D : va_G) (cy : Nat → ClassId) (A : Nat → Prop) (S : St) (h : Nat) (a b : Int32) (hG0 : G S) (hk : sK S h = 9) (ha0 : 0 ≤ a.toInt) (ha2 : a.toInt < 2) (hb0 : 0 ≤ b.toInt) (hb2 : b.toInt < 200) : MV l yX9_holds wsX9_holds ({ frames := 1, cells := 0, slots := 0, locals := 20 } : Room) 0 0 D cy A [.ref h, .int a, .int b] S (fun S1 => G S1 ∧ Fr [] [1100] S S1 ∧ True) := by
  refine mt_start (cc := cX9_holds) (maxL := 3) (ret := none) (by decide) rfl (Nat.le_of_ble_eq_true rfl) ?_
  intro p e s m args below meth c hx hb hr hlk hml hown hnm hts hK hZ hA hW hS ls hl
  have hl : lv_has ls 3 [(0, .ref h), (1, .int a), (2, .int b)] := hl
  have hown : s.vm.findClass RX9 = some m.cls := hown
  have F : CallFix p m c cX9_holds 3 s args wsX9_holds RX9 := ⟨hx, hb, hml, hown, hts⟩
  have wi9 : ∀ w ∈ u_ws RX9 TX9 63, w ∈ wsX9_holds := by decide +kernel
  have hG := hG0
  have hF : Fr [] [1100] S S := Fr.rf _ _ _
  refine lv_aload_n hx hb dX9_holds_0 rfl (lv_at hl 0 rfl) ?_
  obtain ⟨b1, rb1, kb1, nb1⟩ := hG0.r hk List.not_mem_nil 42 (show rty 9 42 = some (11, 200) from rfl)
  refine pg_gr (b := b1) (ci := 9) (C := RX9) (T := TX9) (N := 63) hx hb hts wi9 hown hK hW hk (by decide) rfl 42 (by decide) (hts (.fieldLink RX9 88 "IceHallModel" "why" "[I") (by decide +kernel)) (fun _ h9 => h9) rfl rb1 dX9_holds_1 ?_
  refine lv_iload_n hx hb dX9_holds_4 rfl (lv_at hl 2 rfl) ?_
  have join53 : ∀ (v53 : Int32) (H : Heap) (locs : List Loc), PW D cy A S H → va_S A s.heap H locs → W p l e ({ frames := 1, cells := 0, slots := 0, locals := 20 } : Room) s m args below meth c H locs 0 0 (MQ below (va_Qv (fun S1 => G S1 ∧ Fr [] [1100] S S1 ∧ True) (PU D cy A) A) args s 0 0 A) (F0 m 53 ls [.int v53, .int b, .ref b1]) := by
    intro v53 H locs hW hS
    refine pg_iast hx hb hK hW hS kb1 (by decide) (by rw [show sL S b1 = 200 from nb1]; exact r_in (by omega)) dX9_holds_53 (fun H locs hW hS => ?_)
    obtain ⟨S2, eS2⟩ : ∃ T : St, T = stI S b1 (Int32.toNatClampNeg b) v53 := ⟨_, rfl⟩
    rw [← eS2] at hW
    have hG : G S2 := by rw [eS2]; exact hG.I kb1 (ok_frA (by decide) (by decide))
    have hF : Fr [] [1100] S S2 := by rw [eS2]; exact hF.IA kb1 (by decide) (by decide)
    clear eS2
    refine lv_aload_n hx hb dX9_holds_54 rfl (lv_at hl 0 rfl) ?_
    obtain ⟨b3, rb3, kb3, nb3⟩ := hG0.r hk List.not_mem_nil 41 (show rty 9 41 = some (11, 200) from rfl)
    refine pg_gr (b := b3) (ci := 9) (C := RX9) (T := TX9) (N := 63) hx hb hts wi9 hown hK hW (hF.k hk (by decide)) (by decide) rfl 41 (by decide) (hts (.fieldLink RX9 85 "IceHallModel" "state" "[I") (by decide +kernel)) (fun _ h9 => h9) rfl (hF.r hk (by decide) rb3) dX9_holds_55 ?_
    refine lv_iload_n hx hb dX9_holds_58 rfl (lv_at hl 2 rfl) ?_
    have join73 : ∀ (v73 : Int32) (H : Heap) (locs : List Loc), PW D cy A S2 H → va_S A s.heap H locs → W p l e ({ frames := 1, cells := 0, slots := 0, locals := 20 } : Room) s m args below meth c H locs 0 0 (MQ below (va_Qv (fun S1 => G S1 ∧ Fr [] [1100] S S1 ∧ True) (PU D cy A) A) args s 0 0 A) (F0 m 73 ls [.int v73, .int b, .ref b3]) := by
      intro v73 H locs hW hS
      refine pg_iast hx hb hK hW hS (hF.k kb3 (by decide)) (by decide) (by rw [show sL S2 b3 = 200 from (hF.n kb3 (by decide) nb3)]; exact r_in (by omega)) dX9_holds_73 (fun H locs hW hS => ?_)
      have kq4 : sK S2 b3 = 11 := (hF.k kb3 (by decide))
      obtain ⟨S5, eS5⟩ : ∃ T : St, T = stI S2 b3 (Int32.toNatClampNeg b) v73 := ⟨_, rfl⟩
      rw [← eS5] at hW
      have hG : G S5 := by rw [eS5]; exact hG.I kq4 (ok_frA (by decide) (by decide))
      have hF : Fr [] [1100] S S5 := by rw [eS5]; exact hF.IA kq4 (by decide) (by decide)
      clear eS5
      refine lv_aload_n hx hb dX9_holds_74 rfl (lv_at hl 0 rfl) ?_
      refine pg_gr (b := b1) (ci := 9) (C := RX9) (T := TX9) (N := 63) hx hb hts wi9 hown hK hW (hF.k hk (by decide)) (by decide) rfl 42 (by decide) (hts (.fieldLink RX9 88 "IceHallModel" "why" "[I") (by decide +kernel)) (fun _ h9 => h9) rfl (hF.r hk (by decide) rb1) dX9_holds_75 ?_
      refine lv_iload_n hx hb dX9_holds_78 rfl (lv_at hl 2 rfl) ?_
      refine pg_iald hx hb hK hW (hF.k kb1 (by decide)) (by decide) (by rw [show sL S5 b1 = 200 from (hF.n kb1 (by decide) nb1)]; exact r_in (by omega)) dX9_holds_79 ?_
      refine lv_if_ne (tgt := 105) hx hb dX9_holds_80 (by decide) (fun c6 => ?_) (fun c6 => ?_)
      · have c6i : ¬ (Int32.toInt (sI S5 b1 (Int32.toNatClampNeg b)) = (0 : Int)) := fun h9 => c6 ((i3_eq _ _).mpr h9)
        exact pc_vret (S := S5) hx hb hr hlk hK hZ hA hW hS (⟨hG, hF, trivial⟩) dX9_holds_105
      · have c6i : Int32.toInt (sI S5 b1 (Int32.toNatClampNeg b)) = (0 : Int) := (i3_eq _ _).mp c6
        refine lv_aload_n hx hb dX9_holds_83 rfl (lv_at hl 0 rfl) ?_
        obtain ⟨b7, rb7, kb7, nb7⟩ := hG0.r hk List.not_mem_nil 28 (show rty 9 28 = some (11, 2) from rfl)
        refine pg_gr (b := b7) (ci := 9) (C := RX9) (T := TX9) (N := 63) hx hb hts wi9 hown hK hW (hF.k hk (by decide)) (by decide) rfl 28 (by decide) (hts (.fieldLink RX9 51 "IceHallModel" "ruts" "[I") (by decide +kernel)) (fun _ h9 => h9) rfl (hF.r hk (by decide) rb7) dX9_holds_84 ?_
        refine lv_iload_n hx hb dX9_holds_87 rfl (lv_at hl 1 rfl) ?_
        refine lv_aload_n hx hb dX9_holds_88 rfl (lv_at hl 0 rfl) ?_
        refine pg_gr (b := b7) (ci := 9) (C := RX9) (T := TX9) (N := 63) hx hb hts wi9 hown hK hW (hF.k hk (by decide)) (by decide) rfl 28 (by decide) (hts (.fieldLink RX9 51 "IceHallModel" "ruts" "[I") (by decide +kernel)) (fun _ h9 => h9) rfl (hF.r hk (by decide) rb7) dX9_holds_89 ?_
        refine lv_iload_n hx hb dX9_holds_92 rfl (lv_at hl 1 rfl) ?_
        refine pg_iald hx hb hK hW (hF.k kb7 (by decide)) (by decide) (by rw [show sL S5 b7 = 2 from (hF.n kb7 (by decide) nb7)]; exact r_in (by omega)) dX9_holds_93 ?_
        refine lv_aload_n hx hb dX9_holds_94 rfl (lv_at hl 0 rfl) ?_
        obtain ⟨b8, rb8, kb8, nb8⟩ := hG0.r hk List.not_mem_nil 38 (show rty 9 38 = some (11, 200) from rfl)
        refine pg_gr (b := b8) (ci := 9) (C := RX9) (T := TX9) (N := 63) hx hb hts wi9 hown hK hW (hF.k hk (by decide)) (by decide) rfl 38 (by decide) (hts (.fieldLink RX9 76 "IceHallModel" "kindOf" "[I") (by decide +kernel)) (fun _ h9 => h9) rfl (hF.r hk (by decide) rb8) dX9_holds_95 ?_
        refine lv_iload_n hx hb dX9_holds_98 rfl (lv_at hl 2 rfl) ?_
        refine pg_iald hx hb hK hW (hF.k kb8 (by decide)) (by decide) (by rw [show sL S5 b8 = 200 from (hF.n kb8 (by decide) nb8)]; exact r_in (by omega)) dX9_holds_99 ?_
        refine pc_Si (As := [.int (sI S5 b8 (Int32.toNatClampNeg b))]) (rest := [.int (sI S5 b7 (Int32.toNatClampNeg a)), .int a, .ref b7]) F (b_X9_rutsOf l D cy A S5 (sI S5 b8 (Int32.toNatClampNeg b)) ) (va_cwS 1 hts gX9_holds_X9_rutsOf rfl rfl rfl (by decide +kernel) ⟨Nat.le_of_ble_eq_true rfl, Nat.le_of_ble_eq_true rfl⟩) hK hZ hA hW hS rfl hl.1 rfl (Nat.le_of_ble_eq_true rfl) dX9_holds_100 ⟨Nat.le_of_ble_eq_true rfl, Nat.le_of_ble_eq_true rfl⟩ (fun v9 T10 H locs p11 hW hS => ?_)
        obtain ⟨eT10, p11⟩ := p11
        rw [eT10] at hW
        clear eT10
        refine lv_iadd hx hb dX9_holds_103 ?_
        refine pg_iast hx hb hK hW hS (hF.k kb7 (by decide)) (by decide) (by rw [show sL S5 b7 = 2 from (hF.n kb7 (by decide) nb7)]; exact r_in (by omega)) dX9_holds_104 (fun H locs hW hS => ?_)
        have kq12 : sK S5 b7 = 11 := (hF.k kb7 (by decide))
        obtain ⟨S13, eS13⟩ : ∃ T : St, T = stI S5 b7 (Int32.toNatClampNeg a) ((sI S5 b7 (Int32.toNatClampNeg a)) + v9) := ⟨_, rfl⟩
        rw [← eS13] at hW
        have hG : G S13 := by rw [eS13]; exact hG.I kq12 (ok_frA (by decide) (by decide))
        have hF : Fr [] [1100] S S13 := by rw [eS13]; exact hF.IA kq12 (by decide) (by decide)
        clear eS13
        exact pc_vret (S := S13) hx hb hr hlk hK hZ hA hW hS (⟨hG, hF, trivial⟩) dX9_holds_105
    refine lv_aload_n hx hb dX9_holds_59 rfl (lv_at hl 0 rfl) ?_
    refine pg_gr (b := b1) (ci := 9) (C := RX9) (T := TX9) (N := 63) hx hb hts wi9 hown hK hW (hF.k hk (by decide)) (by decide) rfl 42 (by decide) (hts (.fieldLink RX9 88 "IceHallModel" "why" "[I") (by decide +kernel)) (fun _ h9 => h9) rfl (hF.r hk (by decide) rb1) dX9_holds_60 ?_
    refine lv_iload_n hx hb dX9_holds_63 rfl (lv_at hl 2 rfl) ?_
    refine pg_iald hx hb hK hW (hF.k kb1 (by decide)) (by decide) (by rw [show sL S2 b1 = 200 from (hF.n kb1 (by decide) nb1)]; exact r_in (by omega)) dX9_holds_64 ?_
    refine lv_if_ne (tgt := 72) hx hb dX9_holds_65 (by decide) (fun c14 => ?_) (fun c14 => ?_)
    · have c14i : ¬ (Int32.toInt (sI S2 b1 (Int32.toNatClampNeg b)) = (0 : Int)) := fun h9 => c14 ((i3_eq _ _).mpr h9)
      refine lv_iconst (v := 2) hx hb dX9_holds_72 (by decide) ?_
      exact join73 2 _ _  hW hS
    · have c14i : Int32.toInt (sI S2 b1 (Int32.toNatClampNeg b)) = (0 : Int) := (i3_eq _ _).mp c14
      refine lv_iconst (v := 1) hx hb dX9_holds_68 (by decide) ?_
      refine lv_goto (tgt := 73) hx hb dX9_holds_69 (by decide) ?_
      exact join73 1 _ _  hW hS
  refine lv_aload_n hx hb dX9_holds_5 rfl (lv_at hl 0 rfl) ?_
  obtain ⟨b15, rb15, kb15, nb15⟩ := hG0.r hk List.not_mem_nil 27 (show rty 9 27 = some (11, 2) from rfl)
  refine pg_gr (b := b15) (ci := 9) (C := RX9) (T := TX9) (N := 63) hx hb hts wi9 hown hK hW hk (by decide) rfl 27 (by decide) (hts (.fieldLink RX9 48 "IceHallModel" "thick" "[I") (by decide +kernel)) (fun _ h9 => h9) rfl rb15 dX9_holds_6 ?_
  refine lv_iload_n hx hb dX9_holds_9 rfl (lv_at hl 1 rfl) ?_
  refine pg_iald hx hb hK hW kb15 (by decide) (by rw [show sL S b15 = 2 from nb15]; exact r_in (by omega)) dX9_holds_10 ?_
  refine lv_sipush (v := 200) hx hb dX9_holds_11 (by decide) ?_
  refine lv_icmp_ge (tgt := 21) hx hb dX9_holds_14 (by decide) (fun c16 => ?_) (fun c16 => ?_)
  · have c16i : (200 : Int) ≤ Int32.toInt (sI S b15 (Int32.toNatClampNeg a)) := (i3_le _ _).mp c16
    refine lv_aload_n hx hb dX9_holds_21 rfl (lv_at hl 0 rfl) ?_
    refine pg_gr (b := b15) (ci := 9) (C := RX9) (T := TX9) (N := 63) hx hb hts wi9 hown hK hW hk (by decide) rfl 27 (by decide) (hts (.fieldLink RX9 48 "IceHallModel" "thick" "[I") (by decide +kernel)) (fun _ h9 => h9) rfl rb15 dX9_holds_22 ?_
    refine lv_iload_n hx hb dX9_holds_25 rfl (lv_at hl 1 rfl) ?_
    refine pg_iald hx hb hK hW kb15 (by decide) (by rw [show sL S b15 = 2 from nb15]; exact r_in (by omega)) dX9_holds_26 ?_
    refine lv_sipush (v := 450) hx hb dX9_holds_27 (by decide) ?_
    refine lv_icmp_le (tgt := 37) hx hb dX9_holds_30 (by decide) (fun c17 => ?_) (fun c17 => ?_)
    · have c17i : Int32.toInt (sI S b15 (Int32.toNatClampNeg a)) ≤ (450 : Int) := (i3_le _ _).mp c17
      refine lv_aload_n hx hb dX9_holds_37 rfl (lv_at hl 0 rfl) ?_
      obtain ⟨b18, rb18, kb18, nb18⟩ := hG0.r hk List.not_mem_nil 28 (show rty 9 28 = some (11, 2) from rfl)
      refine pg_gr (b := b18) (ci := 9) (C := RX9) (T := TX9) (N := 63) hx hb hts wi9 hown hK hW hk (by decide) rfl 28 (by decide) (hts (.fieldLink RX9 51 "IceHallModel" "ruts" "[I") (by decide +kernel)) (fun _ h9 => h9) rfl rb18 dX9_holds_38 ?_
      refine lv_iload_n hx hb dX9_holds_41 rfl (lv_at hl 1 rfl) ?_
      refine pg_iald hx hb hK hW kb18 (by decide) (by rw [show sL S b18 = 2 from nb18]; exact r_in (by omega)) dX9_holds_42 ?_
      refine lv_bipush (v := 60) hx hb dX9_holds_43 (by decide) ?_
      refine lv_icmp_le (tgt := 52) hx hb dX9_holds_45 (by decide) (fun c19 => ?_) (fun c19 => ?_)
      · have c19i : Int32.toInt (sI S b18 (Int32.toNatClampNeg a)) ≤ (60 : Int) := (i3_le _ _).mp c19
        refine lv_iconst (v := 0) hx hb dX9_holds_52 (by decide) ?_
        exact join53 0 _ _  hW hS
      · have c19i : ¬ (Int32.toInt (sI S b18 (Int32.toNatClampNeg a)) ≤ (60 : Int)) := fun h9 => c19 ((i3_le _ _).mpr h9)
        refine lv_iconst (v := 3) hx hb dX9_holds_48 (by decide) ?_
        refine lv_goto (tgt := 53) hx hb dX9_holds_49 (by decide) ?_
        exact join53 3 _ _  hW hS
    · have c17i : ¬ (Int32.toInt (sI S b15 (Int32.toNatClampNeg a)) ≤ (450 : Int)) := fun h9 => c17 ((i3_le _ _).mpr h9)
      refine lv_iconst (v := 2) hx hb dX9_holds_33 (by decide) ?_
      refine lv_goto (tgt := 53) hx hb dX9_holds_34 (by decide) ?_
      exact join53 2 _ _  hW hS
  · have c16i : ¬ ((200 : Int) ≤ Int32.toInt (sI S b15 (Int32.toNatClampNeg a))) := fun h9 => c16 ((i3_le _ _).mpr h9)
    refine lv_iconst (v := 1) hx hb dX9_holds_17 (by decide) ?_
    refine lv_goto (tgt := 53) hx hb dX9_holds_18 (by decide) ?_
    exact join53 1 _ _  hW hS
set_option maxHeartbeats 4000000 in
set_option maxRecDepth 100000 in
theorem b_X9_cuts (l : Launch) (D : va_G) (cy : Nat → ClassId) (A : Nat → Prop) (S : St) (h : Nat) (a : Int32) (hG0 : G S) (hk : sK S h = 9) (ha0 : 0 ≤ a.toInt) (ha2 : a.toInt < 2) : MV l yX9_cuts wsX9_cuts ({ frames := 0, cells := 0, slots := 0, locals := 0 } : Room) 0 0 D cy A [.ref h, .int a] S (fun S1 => G S1 ∧ Fr [] [919, 922, 1100, 1300] S S1 ∧ True) := by
  refine mt_start (cc := cX9_cuts) (maxL := 4) (ret := none) (by decide) rfl (Nat.le_of_ble_eq_true rfl) ?_
  intro p e s m args below meth c hx hb hr hlk hml hown hnm hts hK hZ hA hW hS ls hl
  have hl : lv_has ls 4 [(0, .ref h), (1, .int a)] := hl
  have hown : s.vm.findClass RX9 = some m.cls := hown
  have F : CallFix p m c cX9_cuts 4 s args wsX9_cuts RX9 := ⟨hx, hb, hml, hown, hts⟩
  have wi9 : ∀ w ∈ u_ws RX9 TX9 63, w ∈ wsX9_cuts := by decide +kernel
  have hG := hG0
  have hF : Fr [] [919, 922, 1100, 1300] S S := Fr.rf _ _ _
  refine lv_aload_n hx hb dX9_cuts_0 rfl (lv_at hl 0 rfl) ?_
  obtain ⟨b1, rb1, kb1, nb1⟩ := hG0.r hk List.not_mem_nil 34 (show rty 9 34 = some (13, 2) from rfl)
  refine pg_gr (b := b1) (ci := 9) (C := RX9) (T := TX9) (N := 63) hx hb hts wi9 hown hK hW hk (by decide) rfl 34 (by decide) (hts (.fieldLink RX9 69 "IceHallModel" "hasCut" "[Z") (by decide +kernel)) (fun _ h9 => h9) rfl rb1 dX9_cuts_1 ?_
  refine lv_iload_n hx hb dX9_cuts_4 rfl (lv_at hl 1 rfl) ?_
  refine lv_iconst (v := 0) hx hb dX9_cuts_5 (by decide) ?_
  refine pg_zast hx hb hK hW hS kb1 (by rw [show sL S b1 = 2 from nb1]; exact r_in (by omega)) dX9_cuts_6 (fun H locs hW hS => ?_)
  obtain ⟨S2, eS2⟩ : ∃ T : St, T = stI S b1 (Int32.toNatClampNeg a) (vp_nar .boolean 0) := ⟨_, rfl⟩
  rw [← eS2] at hW
  have hG : G S2 := by rw [eS2]; exact hG.I kb1 (ok_frA (by decide) (by decide))
  have hF : Fr [] [919, 922, 1100, 1300] S S2 := by rw [eS2]; exact hF.IA kb1 (by decide) (by decide)
  clear eS2
  have join37 : ∀ (v37 : Int32) (H : Heap) (locs : List Loc), PW D cy A S2 H → va_S A s.heap H locs → W p l e ({ frames := 0, cells := 0, slots := 0, locals := 0 } : Room) s m args below meth c H locs 0 0 (MQ below (va_Qv (fun S1 => G S1 ∧ Fr [] [919, 922, 1100, 1300] S S1 ∧ True) (PU D cy A) A) args s 0 0 A) (F0 m 37 ls [.int v37]) := by
    intro v37 H locs hW hS
    refine lv_istore_n (lv' := [(2, .int v37), (0, .ref h), (1, .int a)]) hx hb dX9_cuts_37 rfl hl (by decide) rfl (fun ls hl => ?_)
    refine lv_aload_n hx hb dX9_cuts_38 rfl (lv_at hl 1 rfl) ?_
    obtain ⟨b3, rb3, kb3, nb3⟩ := hG0.r hk List.not_mem_nil 27 (show rty 9 27 = some (11, 2) from rfl)
    refine pg_gr (b := b3) (ci := 9) (C := RX9) (T := TX9) (N := 63) hx hb hts wi9 hown hK hW (hF.k hk (by decide)) (by decide) rfl 27 (by decide) (hts (.fieldLink RX9 48 "IceHallModel" "thick" "[I") (by decide +kernel)) (fun _ h9 => h9) rfl (hF.r hk (by decide) rb3) dX9_cuts_39 ?_
    refine lv_iload_n hx hb dX9_cuts_42 rfl (lv_at hl 2 rfl) ?_
    refine lv_aload_n hx hb dX9_cuts_43 rfl (lv_at hl 1 rfl) ?_
    refine pg_gr (b := b3) (ci := 9) (C := RX9) (T := TX9) (N := 63) hx hb hts wi9 hown hK hW (hF.k hk (by decide)) (by decide) rfl 27 (by decide) (hts (.fieldLink RX9 48 "IceHallModel" "thick" "[I") (by decide +kernel)) (fun _ h9 => h9) rfl (hF.r hk (by decide) rb3) dX9_cuts_44 ?_
    refine lv_iload_n hx hb dX9_cuts_47 rfl (lv_at hl 2 rfl) ?_
    refine pg_iald hx hb hK hW (hF.k kb3 (by decide)) (by decide) (by rw [show sL S2 b3 = 2 from (hF.n kb3 (by decide) nb3)]; exact r_in (by omega)) dX9_cuts_48 ?_
    refine lv_iload_n hx hb dX9_cuts_49 rfl (lv_at hl 0 rfl) ?_
    refine lv_isub hx hb dX9_cuts_50 ?_
    refine pg_iast hx hb hK hW hS (hF.k kb3 (by decide)) (by decide) (by rw [show sL S2 b3 = 2 from (hF.n kb3 (by decide) nb3)]; exact r_in (by omega)) dX9_cuts_51 (fun H locs hW hS => ?_)
    have kq4 : sK S2 b3 = 11 := (hF.k kb3 (by decide))
    obtain ⟨S5, eS5⟩ : ∃ T : St, T = stI S2 b3 (Int32.toNatClampNeg a) ((sI S2 b3 (Int32.toNatClampNeg a)) - v37) := ⟨_, rfl⟩
    rw [← eS5] at hW
    have hG : G S5 := by rw [eS5]; exact hG.I kq4 (ok_frA (by decide) (by decide))
    have hF : Fr [] [919, 922, 1100, 1300] S S5 := by rw [eS5]; exact hF.IA kq4 (by decide) (by decide)
    clear eS5
    refine lv_aload_n hx hb dX9_cuts_52 rfl (lv_at hl 1 rfl) ?_
    obtain ⟨b6, rb6, kb6, nb6⟩ := hG0.r hk List.not_mem_nil 29 (show rty 9 29 = some (11, 2) from rfl)
    refine pg_gr (b := b6) (ci := 9) (C := RX9) (T := TX9) (N := 63) hx hb hts wi9 hown hK hW (hF.k hk (by decide)) (by decide) rfl 29 (by decide) (hts (.fieldLink RX9 54 "IceHallModel" "shaved" "[I") (by decide +kernel)) (fun _ h9 => h9) rfl (hF.r hk (by decide) rb6) dX9_cuts_53 ?_
    refine lv_iload_n hx hb dX9_cuts_56 rfl (lv_at hl 2 rfl) ?_
    refine lv_aload_n hx hb dX9_cuts_57 rfl (lv_at hl 1 rfl) ?_
    refine pg_gr (b := b6) (ci := 9) (C := RX9) (T := TX9) (N := 63) hx hb hts wi9 hown hK hW (hF.k hk (by decide)) (by decide) rfl 29 (by decide) (hts (.fieldLink RX9 54 "IceHallModel" "shaved" "[I") (by decide +kernel)) (fun _ h9 => h9) rfl (hF.r hk (by decide) rb6) dX9_cuts_58 ?_
    refine lv_iload_n hx hb dX9_cuts_61 rfl (lv_at hl 2 rfl) ?_
    refine pg_iald hx hb hK hW (hF.k kb6 (by decide)) (by decide) (by rw [show sL S5 b6 = 2 from (hF.n kb6 (by decide) nb6)]; exact r_in (by omega)) dX9_cuts_62 ?_
    refine lv_iload_n hx hb dX9_cuts_63 rfl (lv_at hl 0 rfl) ?_
    refine lv_iadd hx hb dX9_cuts_64 ?_
    refine pg_iast hx hb hK hW hS (hF.k kb6 (by decide)) (by decide) (by rw [show sL S5 b6 = 2 from (hF.n kb6 (by decide) nb6)]; exact r_in (by omega)) dX9_cuts_65 (fun H locs hW hS => ?_)
    have kq7 : sK S5 b6 = 11 := (hF.k kb6 (by decide))
    obtain ⟨S8, eS8⟩ : ∃ T : St, T = stI S5 b6 (Int32.toNatClampNeg a) ((sI S5 b6 (Int32.toNatClampNeg a)) + v37) := ⟨_, rfl⟩
    rw [← eS8] at hW
    have hG : G S8 := by rw [eS8]; exact hG.I kq7 (ok_frA (by decide) (by decide))
    have hF : Fr [] [919, 922, 1100, 1300] S S8 := by rw [eS8]; exact hF.IA kq7 (by decide) (by decide)
    clear eS8
    refine lv_aload_n hx hb dX9_cuts_66 rfl (lv_at hl 1 rfl) ?_
    obtain ⟨b9, rb9, kb9, nb9⟩ := hG0.r hk List.not_mem_nil 28 (show rty 9 28 = some (11, 2) from rfl)
    refine pg_gr (b := b9) (ci := 9) (C := RX9) (T := TX9) (N := 63) hx hb hts wi9 hown hK hW (hF.k hk (by decide)) (by decide) rfl 28 (by decide) (hts (.fieldLink RX9 51 "IceHallModel" "ruts" "[I") (by decide +kernel)) (fun _ h9 => h9) rfl (hF.r hk (by decide) rb9) dX9_cuts_67 ?_
    refine lv_iload_n hx hb dX9_cuts_70 rfl (lv_at hl 2 rfl) ?_
    have join99 : ∀ (v99 : Int32) (H : Heap) (locs : List Loc), PW D cy A S8 H → va_S A s.heap H locs → W p l e ({ frames := 0, cells := 0, slots := 0, locals := 0 } : Room) s m args below meth c H locs 0 0 (MQ below (va_Qv (fun S1 => G S1 ∧ Fr [] [919, 922, 1100, 1300] S S1 ∧ True) (PU D cy A) A) args s 0 0 A) (F0 m 99 ls [.int v99, .int a, .ref b9]) := by
      intro v99 H locs hW hS
      refine pg_iast hx hb hK hW hS (hF.k kb9 (by decide)) (by decide) (by rw [show sL S8 b9 = 2 from (hF.n kb9 (by decide) nb9)]; exact r_in (by omega)) dX9_cuts_99 (fun H locs hW hS => ?_)
      have kq10 : sK S8 b9 = 11 := (hF.k kb9 (by decide))
      obtain ⟨S11, eS11⟩ : ∃ T : St, T = stI S8 b9 (Int32.toNatClampNeg a) v99 := ⟨_, rfl⟩
      rw [← eS11] at hW
      have hG : G S11 := by rw [eS11]; exact hG.I kq10 (ok_frA (by decide) (by decide))
      have hF : Fr [] [919, 922, 1100, 1300] S S11 := by rw [eS11]; exact hF.IA kq10 (by decide) (by decide)
      clear eS11
      have join130 : ∀ (v130 : Int32) (H : Heap) (locs : List Loc), PW D cy A S11 H → va_S A s.heap H locs → W p l e ({ frames := 0, cells := 0, slots := 0, locals := 0 } : Room) s m args below meth c H locs 0 0 (MQ below (va_Qv (fun S1 => G S1 ∧ Fr [] [919, 922, 1100, 1300] S S1 ∧ True) (PU D cy A) A) args s 0 0 A) (F0 m 130 ls [.int v130]) := by
        intro v130 H locs hW hS
        refine lv_istore_n (lv' := [(3, .int v130), (2, .int v37), (0, .ref h), (1, .int a)]) hx hb dX9_cuts_130 rfl hl (by decide) rfl (fun ls hl => ?_)
        refine lv_aload_n hx hb dX9_cuts_131 rfl (lv_at hl 2 rfl) ?_
        refine lv_aload_n hx hb dX9_cuts_132 rfl (lv_at hl 2 rfl) ?_
        refine pg_gi (ci := 9) (C := RX9) (T := TX9) (N := 63) hx hb hts wi9 hown hK hW (hF.k hk (by decide)) (by decide) rfl 19 (by decide) (hts (.fieldLink RX9 32 "IceHallModel" "store" "I") (by decide +kernel)) (fun _ h9 => h9) rfl dX9_cuts_133 ?_
        refine lv_iconst (v := 3) hx hb dX9_cuts_136 (by decide) ?_
        refine lv_iload_n hx hb dX9_cuts_137 rfl (lv_at hl 0 rfl) ?_
        refine lv_imul hx hb dX9_cuts_138 ?_
        refine lv_isub hx hb dX9_cuts_139 ?_
        refine pg_pi (ci := 9) (C := RX9) (T := TX9) (N := 63) hx hb hts wi9 tyX9 tyX9_ok nmX9 hown hK hW hS (hF.k hk (by decide)) (by decide) rfl 19 (by decide) (hts (.fieldLink RX9 32 "IceHallModel" "store" "I") (by decide +kernel)) (fun _ h9 => h9) rfl rfl rfl dX9_cuts_140 (fun H locs hW hS => ?_)
        have kq12 : sK S11 h = 9 := (hF.k hk (by decide))
        obtain ⟨S13, eS13⟩ : ∃ T : St, T = stI S11 h 19 ((sI S11 h 19) - (3 * v130)) := ⟨_, rfl⟩
        rw [← eS13] at hW
        have hG : G S13 := by rw [eS13]; exact hG.I kq12 (ok_fr (by decide))
        have hF : Fr [] [919, 922, 1100, 1300] S S13 := by rw [eS13]; exact hF.I kq12 (by decide)
        clear eS13
        refine lv_aload_n hx hb dX9_cuts_143 rfl (lv_at hl 2 rfl) ?_
        refine pg_gr (b := b3) (ci := 9) (C := RX9) (T := TX9) (N := 63) hx hb hts wi9 hown hK hW (hF.k hk (by decide)) (by decide) rfl 27 (by decide) (hts (.fieldLink RX9 48 "IceHallModel" "thick" "[I") (by decide +kernel)) (fun _ h9 => h9) rfl (hF.r hk (by decide) rb3) dX9_cuts_144 ?_
        refine lv_iload_n hx hb dX9_cuts_147 rfl (lv_at hl 3 rfl) ?_
        refine lv_aload_n hx hb dX9_cuts_148 rfl (lv_at hl 2 rfl) ?_
        refine pg_gr (b := b3) (ci := 9) (C := RX9) (T := TX9) (N := 63) hx hb hts wi9 hown hK hW (hF.k hk (by decide)) (by decide) rfl 27 (by decide) (hts (.fieldLink RX9 48 "IceHallModel" "thick" "[I") (by decide +kernel)) (fun _ h9 => h9) rfl (hF.r hk (by decide) rb3) dX9_cuts_149 ?_
        refine lv_iload_n hx hb dX9_cuts_152 rfl (lv_at hl 3 rfl) ?_
        refine pg_iald hx hb hK hW (hF.k kb3 (by decide)) (by decide) (by rw [show sL S13 b3 = 2 from (hF.n kb3 (by decide) nb3)]; exact r_in (by omega)) dX9_cuts_153 ?_
        refine lv_iload_n hx hb dX9_cuts_154 rfl (lv_at hl 0 rfl) ?_
        refine lv_iadd hx hb dX9_cuts_155 ?_
        refine pg_iast hx hb hK hW hS (hF.k kb3 (by decide)) (by decide) (by rw [show sL S13 b3 = 2 from (hF.n kb3 (by decide) nb3)]; exact r_in (by omega)) dX9_cuts_156 (fun H locs hW hS => ?_)
        have kq14 : sK S13 b3 = 11 := (hF.k kb3 (by decide))
        obtain ⟨S15, eS15⟩ : ∃ T : St, T = stI S13 b3 (Int32.toNatClampNeg a) ((sI S13 b3 (Int32.toNatClampNeg a)) + v130) := ⟨_, rfl⟩
        rw [← eS15] at hW
        have hG : G S15 := by rw [eS15]; exact hG.I kq14 (ok_frA (by decide) (by decide))
        have hF : Fr [] [919, 922, 1100, 1300] S S15 := by rw [eS15]; exact hF.IA kq14 (by decide) (by decide)
        clear eS15
        refine lv_aload_n hx hb dX9_cuts_157 rfl (lv_at hl 2 rfl) ?_
        obtain ⟨b16, rb16, kb16, nb16⟩ := hG0.r hk List.not_mem_nil 30 (show rty 9 30 = some (11, 2) from rfl)
        refine pg_gr (b := b16) (ci := 9) (C := RX9) (T := TX9) (N := 63) hx hb hts wi9 hown hK hW (hF.k hk (by decide)) (by decide) rfl 30 (by decide) (hts (.fieldLink RX9 57 "IceHallModel" "flooded" "[I") (by decide +kernel)) (fun _ h9 => h9) rfl (hF.r hk (by decide) rb16) dX9_cuts_158 ?_
        refine lv_iload_n hx hb dX9_cuts_161 rfl (lv_at hl 3 rfl) ?_
        refine lv_aload_n hx hb dX9_cuts_162 rfl (lv_at hl 2 rfl) ?_
        refine pg_gr (b := b16) (ci := 9) (C := RX9) (T := TX9) (N := 63) hx hb hts wi9 hown hK hW (hF.k hk (by decide)) (by decide) rfl 30 (by decide) (hts (.fieldLink RX9 57 "IceHallModel" "flooded" "[I") (by decide +kernel)) (fun _ h9 => h9) rfl (hF.r hk (by decide) rb16) dX9_cuts_163 ?_
        refine lv_iload_n hx hb dX9_cuts_166 rfl (lv_at hl 3 rfl) ?_
        refine pg_iald hx hb hK hW (hF.k kb16 (by decide)) (by decide) (by rw [show sL S15 b16 = 2 from (hF.n kb16 (by decide) nb16)]; exact r_in (by omega)) dX9_cuts_167 ?_
        refine lv_iload_n hx hb dX9_cuts_168 rfl (lv_at hl 0 rfl) ?_
        refine lv_iadd hx hb dX9_cuts_169 ?_
        refine pg_iast hx hb hK hW hS (hF.k kb16 (by decide)) (by decide) (by rw [show sL S15 b16 = 2 from (hF.n kb16 (by decide) nb16)]; exact r_in (by omega)) dX9_cuts_170 (fun H locs hW hS => ?_)
        have kq17 : sK S15 b16 = 11 := (hF.k kb16 (by decide))
        obtain ⟨S18, eS18⟩ : ∃ T : St, T = stI S15 b16 (Int32.toNatClampNeg a) ((sI S15 b16 (Int32.toNatClampNeg a)) + v130) := ⟨_, rfl⟩
        rw [← eS18] at hW
        have hG : G S18 := by rw [eS18]; exact hG.I kq17 (ok_frA (by decide) (by decide))
        have hF : Fr [] [919, 922, 1100, 1300] S S18 := by rw [eS18]; exact hF.IA kq17 (by decide) (by decide)
        clear eS18
        refine lv_aload_n hx hb dX9_cuts_171 rfl (lv_at hl 2 rfl) ?_
        refine lv_aload_n hx hb dX9_cuts_172 rfl (lv_at hl 2 rfl) ?_
        refine pg_gi (ci := 9) (C := RX9) (T := TX9) (N := 63) hx hb hts wi9 hown hK hW (hF.k hk (by decide)) (by decide) rfl 22 (by decide) (hts (.fieldLink RX9 259 "IceHallModel" "waste" "I") (by decide +kernel)) (fun _ h9 => h9) rfl dX9_cuts_173 ?_
        refine lv_aload_n hx hb dX9_cuts_176 rfl (lv_at hl 2 rfl) ?_
        obtain ⟨b19, rb19, kb19, nb19⟩ := hG0.r hk List.not_mem_nil 33 (show rty 9 33 = some (11, 2) from rfl)
        refine pg_gr (b := b19) (ci := 9) (C := RX9) (T := TX9) (N := 63) hx hb hts wi9 hown hK hW (hF.k hk (by decide)) (by decide) rfl 33 (by decide) (hts (.fieldLink RX9 66 "IceHallModel" "cutFlood" "[I") (by decide +kernel)) (fun _ h9 => h9) rfl (hF.r hk (by decide) rb19) dX9_cuts_177 ?_
        refine lv_iload_n hx hb dX9_cuts_180 rfl (lv_at hl 3 rfl) ?_
        refine pg_iald hx hb hK hW (hF.k kb19 (by decide)) (by decide) (by rw [show sL S18 b19 = 2 from (hF.n kb19 (by decide) nb19)]; exact r_in (by omega)) dX9_cuts_181 ?_
        refine lv_iadd hx hb dX9_cuts_182 ?_
        refine lv_iload_n hx hb dX9_cuts_183 rfl (lv_at hl 0 rfl) ?_
        refine lv_isub hx hb dX9_cuts_184 ?_
        refine pg_pi (ci := 9) (C := RX9) (T := TX9) (N := 63) hx hb hts wi9 tyX9 tyX9_ok nmX9 hown hK hW hS (hF.k hk (by decide)) (by decide) rfl 22 (by decide) (hts (.fieldLink RX9 259 "IceHallModel" "waste" "I") (by decide +kernel)) (fun _ h9 => h9) rfl rfl rfl dX9_cuts_185 (fun H locs hW hS => ?_)
        have kq20 : sK S18 h = 9 := (hF.k hk (by decide))
        obtain ⟨S21, eS21⟩ : ∃ T : St, T = stI S18 h 22 (((sI S18 h 22) + (sI S18 b19 (Int32.toNatClampNeg a))) - v130) := ⟨_, rfl⟩
        rw [← eS21] at hW
        have hG : G S21 := by rw [eS21]; exact hG.I kq20 (ok_fr (by decide))
        have hF : Fr [] [919, 922, 1100, 1300] S S21 := by rw [eS21]; exact hF.I kq20 (by decide)
        clear eS21
        exact pc_vret (S := S21) hx hb hr hlk hK hZ hA hW hS (⟨hG, hF, trivial⟩) dX9_cuts_188
      refine lv_aload_n hx hb dX9_cuts_100 rfl (lv_at hl 1 rfl) ?_
      obtain ⟨b22, rb22, kb22, nb22⟩ := hG0.r hk List.not_mem_nil 33 (show rty 9 33 = some (11, 2) from rfl)
      refine pg_gr (b := b22) (ci := 9) (C := RX9) (T := TX9) (N := 63) hx hb hts wi9 hown hK hW (hF.k hk (by decide)) (by decide) rfl 33 (by decide) (hts (.fieldLink RX9 66 "IceHallModel" "cutFlood" "[I") (by decide +kernel)) (fun _ h9 => h9) rfl (hF.r hk (by decide) rb22) dX9_cuts_101 ?_
      refine lv_iload_n hx hb dX9_cuts_104 rfl (lv_at hl 2 rfl) ?_
      refine pg_iald hx hb hK hW (hF.k kb22 (by decide)) (by decide) (by rw [show sL S11 b22 = 2 from (hF.n kb22 (by decide) nb22)]; exact r_in (by omega)) dX9_cuts_105 ?_
      refine lv_aload_n hx hb dX9_cuts_106 rfl (lv_at hl 1 rfl) ?_
      refine pg_gi (ci := 9) (C := RX9) (T := TX9) (N := 63) hx hb hts wi9 hown hK hW (hF.k hk (by decide)) (by decide) rfl 19 (by decide) (hts (.fieldLink RX9 32 "IceHallModel" "store" "I") (by decide +kernel)) (fun _ h9 => h9) rfl dX9_cuts_107 ?_
      refine lv_iconst (v := 3) hx hb dX9_cuts_110 (by decide) ?_
      refine lv_idiv hx hb dX9_cuts_111 (by decide) ?_
      refine lv_icmp_ge (tgt := 124) hx hb dX9_cuts_112 (by decide) (fun c23 => ?_) (fun c23 => ?_)
      · have c23i : Int32.toInt ((sI S11 h 19) / 3) ≤ Int32.toInt (sI S11 b22 (Int32.toNatClampNeg a)) := (i3_le _ _).mp c23
        refine lv_aload_n hx hb dX9_cuts_124 rfl (lv_at hl 1 rfl) ?_
        refine pg_gi (ci := 9) (C := RX9) (T := TX9) (N := 63) hx hb hts wi9 hown hK hW (hF.k hk (by decide)) (by decide) rfl 19 (by decide) (hts (.fieldLink RX9 32 "IceHallModel" "store" "I") (by decide +kernel)) (fun _ h9 => h9) rfl dX9_cuts_125 ?_
        refine lv_iconst (v := 3) hx hb dX9_cuts_128 (by decide) ?_
        refine lv_idiv hx hb dX9_cuts_129 (by decide) ?_
        exact join130 ((sI S11 h 19) / 3) _ _  hW hS
      · have c23i : ¬ (Int32.toInt ((sI S11 h 19) / 3) ≤ Int32.toInt (sI S11 b22 (Int32.toNatClampNeg a))) := fun h9 => c23 ((i3_le _ _).mpr h9)
        refine lv_aload_n hx hb dX9_cuts_115 rfl (lv_at hl 1 rfl) ?_
        refine pg_gr (b := b22) (ci := 9) (C := RX9) (T := TX9) (N := 63) hx hb hts wi9 hown hK hW (hF.k hk (by decide)) (by decide) rfl 33 (by decide) (hts (.fieldLink RX9 66 "IceHallModel" "cutFlood" "[I") (by decide +kernel)) (fun _ h9 => h9) rfl (hF.r hk (by decide) rb22) dX9_cuts_116 ?_
        refine lv_iload_n hx hb dX9_cuts_119 rfl (lv_at hl 2 rfl) ?_
        refine pg_iald hx hb hK hW (hF.k kb22 (by decide)) (by decide) (by rw [show sL S11 b22 = 2 from (hF.n kb22 (by decide) nb22)]; exact r_in (by omega)) dX9_cuts_120 ?_
        refine lv_goto (tgt := 130) hx hb dX9_cuts_121 (by decide) ?_
        exact join130 (sI S11 b22 (Int32.toNatClampNeg a)) _ _  hW hS
    refine lv_aload_n hx hb dX9_cuts_71 rfl (lv_at hl 1 rfl) ?_
    refine pg_gr (b := b9) (ci := 9) (C := RX9) (T := TX9) (N := 63) hx hb hts wi9 hown hK hW (hF.k hk (by decide)) (by decide) rfl 28 (by decide) (hts (.fieldLink RX9 51 "IceHallModel" "ruts" "[I") (by decide +kernel)) (fun _ h9 => h9) rfl (hF.r hk (by decide) rb9) dX9_cuts_72 ?_
    refine lv_iload_n hx hb dX9_cuts_75 rfl (lv_at hl 2 rfl) ?_
    refine pg_iald hx hb hK hW (hF.k kb9 (by decide)) (by decide) (by rw [show sL S8 b9 = 2 from (hF.n kb9 (by decide) nb9)]; exact r_in (by omega)) dX9_cuts_76 ?_
    refine lv_bipush (v := 10) hx hb dX9_cuts_77 (by decide) ?_
    refine lv_iload_n hx hb dX9_cuts_79 rfl (lv_at hl 0 rfl) ?_
    refine lv_imul hx hb dX9_cuts_80 ?_
    refine lv_icmp_le (tgt := 98) hx hb dX9_cuts_81 (by decide) (fun c24 => ?_) (fun c24 => ?_)
    · have c24i : Int32.toInt (sI S8 b9 (Int32.toNatClampNeg a)) ≤ Int32.toInt (10 * v37) := (i3_le _ _).mp c24
      refine lv_iconst (v := 0) hx hb dX9_cuts_98 (by decide) ?_
      exact join99 0 _ _  hW hS
    · have c24i : ¬ (Int32.toInt (sI S8 b9 (Int32.toNatClampNeg a)) ≤ Int32.toInt (10 * v37)) := fun h9 => c24 ((i3_le _ _).mpr h9)
      refine lv_aload_n hx hb dX9_cuts_84 rfl (lv_at hl 1 rfl) ?_
      refine pg_gr (b := b9) (ci := 9) (C := RX9) (T := TX9) (N := 63) hx hb hts wi9 hown hK hW (hF.k hk (by decide)) (by decide) rfl 28 (by decide) (hts (.fieldLink RX9 51 "IceHallModel" "ruts" "[I") (by decide +kernel)) (fun _ h9 => h9) rfl (hF.r hk (by decide) rb9) dX9_cuts_85 ?_
      refine lv_iload_n hx hb dX9_cuts_88 rfl (lv_at hl 2 rfl) ?_
      refine pg_iald hx hb hK hW (hF.k kb9 (by decide)) (by decide) (by rw [show sL S8 b9 = 2 from (hF.n kb9 (by decide) nb9)]; exact r_in (by omega)) dX9_cuts_89 ?_
      refine lv_bipush (v := 10) hx hb dX9_cuts_90 (by decide) ?_
      refine lv_iload_n hx hb dX9_cuts_92 rfl (lv_at hl 0 rfl) ?_
      refine lv_imul hx hb dX9_cuts_93 ?_
      refine lv_isub hx hb dX9_cuts_94 ?_
      refine lv_goto (tgt := 99) hx hb dX9_cuts_95 (by decide) ?_
      exact join99 ((sI S8 b9 (Int32.toNatClampNeg a)) - (10 * v37)) _ _  hW hS
  refine lv_aload_n hx hb dX9_cuts_7 rfl (lv_at hl 0 rfl) ?_
  obtain ⟨b25, rb25, kb25, nb25⟩ := hG0.r hk List.not_mem_nil 32 (show rty 9 32 = some (11, 2) from rfl)
  refine pg_gr (b := b25) (ci := 9) (C := RX9) (T := TX9) (N := 63) hx hb hts wi9 hown hK hW (hF.k hk (by decide)) (by decide) rfl 32 (by decide) (hts (.fieldLink RX9 63 "IceHallModel" "cutShave" "[I") (by decide +kernel)) (fun _ h9 => h9) rfl (hF.r hk (by decide) rb25) dX9_cuts_8 ?_
  refine lv_iload_n hx hb dX9_cuts_11 rfl (lv_at hl 1 rfl) ?_
  refine pg_iald hx hb hK hW (hF.k kb25 (by decide)) (by decide) (by rw [show sL S2 b25 = 2 from (hF.n kb25 (by decide) nb25)]; exact r_in (by omega)) dX9_cuts_12 ?_
  refine lv_aload_n hx hb dX9_cuts_13 rfl (lv_at hl 0 rfl) ?_
  obtain ⟨b26, rb26, kb26, nb26⟩ := hG0.r hk List.not_mem_nil 27 (show rty 9 27 = some (11, 2) from rfl)
  refine pg_gr (b := b26) (ci := 9) (C := RX9) (T := TX9) (N := 63) hx hb hts wi9 hown hK hW (hF.k hk (by decide)) (by decide) rfl 27 (by decide) (hts (.fieldLink RX9 48 "IceHallModel" "thick" "[I") (by decide +kernel)) (fun _ h9 => h9) rfl (hF.r hk (by decide) rb26) dX9_cuts_14 ?_
  refine lv_iload_n hx hb dX9_cuts_17 rfl (lv_at hl 1 rfl) ?_
  refine pg_iald hx hb hK hW (hF.k kb26 (by decide)) (by decide) (by rw [show sL S2 b26 = 2 from (hF.n kb26 (by decide) nb26)]; exact r_in (by omega)) dX9_cuts_18 ?_
  refine lv_icmp_ge (tgt := 31) hx hb dX9_cuts_19 (by decide) (fun c27 => ?_) (fun c27 => ?_)
  · have c27i : Int32.toInt (sI S2 b26 (Int32.toNatClampNeg a)) ≤ Int32.toInt (sI S2 b25 (Int32.toNatClampNeg a)) := (i3_le _ _).mp c27
    refine lv_aload_n hx hb dX9_cuts_31 rfl (lv_at hl 0 rfl) ?_
    refine pg_gr (b := b26) (ci := 9) (C := RX9) (T := TX9) (N := 63) hx hb hts wi9 hown hK hW (hF.k hk (by decide)) (by decide) rfl 27 (by decide) (hts (.fieldLink RX9 48 "IceHallModel" "thick" "[I") (by decide +kernel)) (fun _ h9 => h9) rfl (hF.r hk (by decide) rb26) dX9_cuts_32 ?_
    refine lv_iload_n hx hb dX9_cuts_35 rfl (lv_at hl 1 rfl) ?_
    refine pg_iald hx hb hK hW (hF.k kb26 (by decide)) (by decide) (by rw [show sL S2 b26 = 2 from (hF.n kb26 (by decide) nb26)]; exact r_in (by omega)) dX9_cuts_36 ?_
    exact join37 (sI S2 b26 (Int32.toNatClampNeg a)) _ _  hW hS
  · have c27i : ¬ (Int32.toInt (sI S2 b26 (Int32.toNatClampNeg a)) ≤ Int32.toInt (sI S2 b25 (Int32.toNatClampNeg a))) := fun h9 => c27 ((i3_le _ _).mpr h9)
    refine lv_aload_n hx hb dX9_cuts_22 rfl (lv_at hl 0 rfl) ?_
    refine pg_gr (b := b25) (ci := 9) (C := RX9) (T := TX9) (N := 63) hx hb hts wi9 hown hK hW (hF.k hk (by decide)) (by decide) rfl 32 (by decide) (hts (.fieldLink RX9 63 "IceHallModel" "cutShave" "[I") (by decide +kernel)) (fun _ h9 => h9) rfl (hF.r hk (by decide) rb25) dX9_cuts_23 ?_
    refine lv_iload_n hx hb dX9_cuts_26 rfl (lv_at hl 1 rfl) ?_
    refine pg_iald hx hb hK hW (hF.k kb25 (by decide)) (by decide) (by rw [show sL S2 b25 = 2 from (hF.n kb25 (by decide) nb25)]; exact r_in (by omega)) dX9_cuts_27 ?_
    refine lv_goto (tgt := 37) hx hb dX9_cuts_28 (by decide) ?_
    exact join37 (sI S2 b25 (Int32.toNatClampNeg a)) _ _  hW hS
set_option maxHeartbeats 4000000 in
set_option maxRecDepth 100000 in
theorem b_X9_step (l : Launch) (D : va_G) (cy : Nat → ClassId) (A : Nat → Prop) (S : St) (h : Nat) (a b : Int32) (hG0 : G S) (hk : sK S h = 9) : MI l yX9_step wsX9_step ({ frames := 2, cells := 0, slots := 0, locals := 42 } : Room) 0 0 D cy A [.ref h, .int a, .int b] S (fun r S1 => G S1 ∧ Fr [] [918, 919, 920, 921, 922, 1100, 1300] S S1 ∧ (((-20 ≤ a.toInt ∧ a.toInt ≤ 40 ∧ 0 ≤ b.toInt ∧ b.toInt ≤ (sI S h 24).toInt ∧ (sI S h 18).toInt < 990) → r = sI S1 h 18 ∧ (sI S1 h 18).toInt = (sI S h 18).toInt + 1) ∧ (¬ (-20 ≤ a.toInt ∧ a.toInt ≤ 40 ∧ 0 ≤ b.toInt ∧ b.toInt ≤ (sI S h 24).toInt ∧ (sI S h 18).toInt < 990) → r = (-1) ∧ sI S1 h 18 = sI S h 18))) := by
  refine mt_start (cc := cX9_step) (maxL := 5) (ret := (some .int)) (by decide) rfl (Nat.le_of_ble_eq_true rfl) ?_
  intro p e s m args below meth c hx hb hr hlk hml hown hnm hts hK hZ hA hW hS ls hl
  have hl : lv_has ls 5 [(0, .ref h), (1, .int a), (2, .int b)] := hl
  have hown : s.vm.findClass RX9 = some m.cls := hown
  have F : CallFix p m c cX9_step 5 s args wsX9_step RX9 := ⟨hx, hb, hml, hown, hts⟩
  have wi9 : ∀ w ∈ u_ws RX9 TX9 63, w ∈ wsX9_step := by decide +kernel
  have hG := hG0
  have hF : Fr [] [918, 919, 920, 921, 922, 1100, 1300] S S := Fr.rf _ _ _
  have g1 : (0 : Int) ≤ (sI S h 18).toInt ∧ (sI S h 18).toInt ≤ 990 := hG0.i hk (by decide) 18 (by decide)
  refine lv_iload_n hx hb dX9_step_0 rfl (lv_at hl 1 rfl) ?_
  refine lv_bipush (v := (-20)) hx hb dX9_step_1 (by decide) ?_
  refine lv_icmp_lt (tgt := 34) hx hb dX9_step_3 (by decide) (fun c2 => ?_) (fun c2 => ?_)
  · have c2i : Int32.toInt a < (-20 : Int) := (i3_lt _ _).mp c2
    refine lv_iconst (v := (-1)) hx hb dX9_step_34 (by decide) ?_
    exact pc_iret (v := (-1)) (S := S) hx hb hr hlk hK hZ hA hW hS (⟨hG, hF, ⟨fun h9 => absurd h9 (by omega), fun _ => ⟨rfl, rfl⟩⟩⟩) dX9_step_35
  · have c2i : ¬ (Int32.toInt a < (-20 : Int)) := fun h9 => c2 ((i3_lt _ _).mpr h9)
    refine lv_iload_n hx hb dX9_step_6 rfl (lv_at hl 1 rfl) ?_
    refine lv_bipush (v := 40) hx hb dX9_step_7 (by decide) ?_
    refine lv_icmp_gt (tgt := 34) hx hb dX9_step_9 (by decide) (fun c3 => ?_) (fun c3 => ?_)
    · have c3i : (40 : Int) < Int32.toInt a := (i3_lt _ _).mp c3
      refine lv_iconst (v := (-1)) hx hb dX9_step_34 (by decide) ?_
      exact pc_iret (v := (-1)) (S := S) hx hb hr hlk hK hZ hA hW hS (⟨hG, hF, ⟨fun h9 => absurd h9 (by omega), fun _ => ⟨rfl, rfl⟩⟩⟩) dX9_step_35
    · have c3i : ¬ ((40 : Int) < Int32.toInt a) := fun h9 => c3 ((i3_lt _ _).mpr h9)
      refine lv_iload_n hx hb dX9_step_12 rfl (lv_at hl 2 rfl) ?_
      refine lv_if_lt (tgt := 34) hx hb dX9_step_13 (by decide) (fun c4 => ?_) (fun c4 => ?_)
      · have c4i : Int32.toInt b < (0 : Int) := (i3_lt _ _).mp c4
        refine lv_iconst (v := (-1)) hx hb dX9_step_34 (by decide) ?_
        exact pc_iret (v := (-1)) (S := S) hx hb hr hlk hK hZ hA hW hS (⟨hG, hF, ⟨fun h9 => absurd h9 (by omega), fun _ => ⟨rfl, rfl⟩⟩⟩) dX9_step_35
      · have c4i : ¬ (Int32.toInt b < (0 : Int)) := fun h9 => c4 ((i3_lt _ _).mpr h9)
        refine lv_iload_n hx hb dX9_step_16 rfl (lv_at hl 2 rfl) ?_
        refine lv_aload_n hx hb dX9_step_17 rfl (lv_at hl 0 rfl) ?_
        refine pg_gi (ci := 9) (C := RX9) (T := TX9) (N := 63) hx hb hts wi9 hown hK hW hk (by decide) rfl 24 (by decide) (hts (.fieldLink RX9 39 "IceHallModel" "working" "I") (by decide +kernel)) (fun _ h9 => h9) rfl dX9_step_18 ?_
        have g5 : (0 : Int) ≤ (sI S h 24).toInt ∧ (sI S h 24).toInt ≤ 3 := hG.i hk (by decide) 24 (by decide)
        refine lv_icmp_gt (tgt := 34) hx hb dX9_step_21 (by decide) (fun c6 => ?_) (fun c6 => ?_)
        · have c6i : Int32.toInt (sI S h 24) < Int32.toInt b := (i3_lt _ _).mp c6
          refine lv_iconst (v := (-1)) hx hb dX9_step_34 (by decide) ?_
          exact pc_iret (v := (-1)) (S := S) hx hb hr hlk hK hZ hA hW hS (⟨hG, hF, ⟨fun h9 => absurd h9 (by omega), fun _ => ⟨rfl, rfl⟩⟩⟩) dX9_step_35
        · have c6i : ¬ (Int32.toInt (sI S h 24) < Int32.toInt b) := fun h9 => c6 ((i3_lt _ _).mpr h9)
          refine lv_aload_n hx hb dX9_step_24 rfl (lv_at hl 0 rfl) ?_
          refine pg_gi (ci := 9) (C := RX9) (T := TX9) (N := 63) hx hb hts wi9 hown hK hW hk (by decide) rfl 18 (by decide) (hts (.fieldLink RX9 219 "IceHallModel" "now" "I") (by decide +kernel)) (fun _ h9 => h9) rfl dX9_step_25 ?_
          rw [show sI S h 18 = sI S h 18 from rfl]
          refine lv_sipush (v := 990) hx hb dX9_step_28 (by decide) ?_
          refine lv_icmp_ne (tgt := 36) hx hb dX9_step_31 (by decide) (fun c7 => ?_) (fun c7 => ?_)
          · have c7i : ¬ (Int32.toInt (sI S h 18) = (990 : Int)) := fun h9 => c7 ((i3_eq _ _).mpr h9)
            refine lv_aload_n hx hb dX9_step_36 rfl (lv_at hl 0 rfl) ?_
            refine lv_aload_n hx hb dX9_step_37 rfl (lv_at hl 0 rfl) ?_
            refine pg_gi (ci := 9) (C := RX9) (T := TX9) (N := 63) hx hb hts wi9 hown hK hW hk (by decide) rfl 19 (by decide) (hts (.fieldLink RX9 32 "IceHallModel" "store" "I") (by decide +kernel)) (fun _ h9 => h9) rfl dX9_step_38 ?_
            refine lv_bipush (v := 20) hx hb dX9_step_41 (by decide) ?_
            refine lv_iload_n hx hb dX9_step_43 rfl (lv_at hl 2 rfl) ?_
            refine lv_imul hx hb dX9_step_44 ?_
            refine lv_iadd hx hb dX9_step_45 ?_
            refine pg_pi (ci := 9) (C := RX9) (T := TX9) (N := 63) hx hb hts wi9 tyX9 tyX9_ok nmX9 hown hK hW hS hk (by decide) rfl 19 (by decide) (hts (.fieldLink RX9 32 "IceHallModel" "store" "I") (by decide +kernel)) (fun _ h9 => h9) rfl rfl rfl dX9_step_46 (fun H locs hW hS => ?_)
            obtain ⟨S8, eS8⟩ : ∃ T : St, T = stI S h 19 ((sI S h 19) + (20 * b)) := ⟨_, rfl⟩
            rw [← eS8] at hW
            have hG : G S8 := by rw [eS8]; exact hG.I hk (ok_fr (by decide))
            have w9 : sI S8 h 18 = sI S h 18 := by rw [eS8]; exact (iI_k (by decide)).trans rfl
            have hF : Fr [] [918, 919, 920, 921, 922, 1100, 1300] S S8 := by rw [eS8]; exact hF.I hk (by decide)
            clear eS8
            refine lv_aload_n hx hb dX9_step_49 rfl (lv_at hl 0 rfl) ?_
            refine lv_aload_n hx hb dX9_step_50 rfl (lv_at hl 0 rfl) ?_
            refine pg_gi (ci := 9) (C := RX9) (T := TX9) (N := 63) hx hb hts wi9 hown hK hW (hF.k hk (by decide)) (by decide) rfl 21 (by decide) (hts (.fieldLink RX9 262 "IceHallModel" "cost" "I") (by decide +kernel)) (fun _ h9 => h9) rfl dX9_step_51 ?_
            refine lv_iload_n hx hb dX9_step_54 rfl (lv_at hl 2 rfl) ?_
            refine lv_aload_n hx hb dX9_step_55 rfl (lv_at hl 0 rfl) ?_
            obtain ⟨b10, rb10, kb10, nb10⟩ := hG0.r hk List.not_mem_nil 26 (show rty 9 26 = some (11, 24) from rfl)
            refine pg_gr (b := b10) (ci := 9) (C := RX9) (T := TX9) (N := 63) hx hb hts wi9 hown hK hW (hF.k hk (by decide)) (by decide) rfl 26 (by decide) (hts (.fieldLink RX9 45 "IceHallModel" "priceOf" "[I") (by decide +kernel)) (fun _ h9 => h9) rfl (hF.r hk (by decide) rb10) dX9_step_56 ?_
            refine lv_aload_n hx hb dX9_step_59 rfl (lv_at hl 0 rfl) ?_
            refine pg_gi (ci := 9) (C := RX9) (T := TX9) (N := 63) hx hb hts wi9 hown hK hW (hF.k hk (by decide)) (by decide) rfl 18 (by decide) (hts (.fieldLink RX9 219 "IceHallModel" "now" "I") (by decide +kernel)) (fun _ h9 => h9) rfl dX9_step_60 ?_
            rw [show sI S8 h 18 = sI S h 18 from w9]
            refine lv_bipush (v := 24) hx hb dX9_step_63 (by decide) ?_
            refine lv_irem hx hb dX9_step_65 (by decide) ?_
            have hr24 := rem24 (x := sI S h 18) (by omega)
            refine pg_iald hx hb hK hW (hF.k kb10 (by decide)) (by decide) (by rw [show sL S8 b10 = 24 from (hF.n kb10 (by decide) nb10)]; exact r_in (by omega)) dX9_step_66 ?_
            refine lv_imul hx hb dX9_step_67 ?_
            refine lv_iadd hx hb dX9_step_68 ?_
            refine pg_pi (ci := 9) (C := RX9) (T := TX9) (N := 63) hx hb hts wi9 tyX9 tyX9_ok nmX9 hown hK hW hS (hF.k hk (by decide)) (by decide) rfl 21 (by decide) (hts (.fieldLink RX9 262 "IceHallModel" "cost" "I") (by decide +kernel)) (fun _ h9 => h9) rfl rfl rfl dX9_step_69 (fun H locs hW hS => ?_)
            have kq11 : sK S8 h = 9 := (hF.k hk (by decide))
            obtain ⟨S12, eS12⟩ : ∃ T : St, T = stI S8 h 21 ((sI S8 h 21) + (b * (sI S8 b10 (Int32.toNatClampNeg ((sI S h 18) - (sI S h 18) / 24 * 24))))) := ⟨_, rfl⟩
            rw [← eS12] at hW
            have hG : G S12 := by rw [eS12]; exact hG.I kq11 (ok_fr (by decide))
            have w13 : sI S12 h 18 = sI S h 18 := by rw [eS12]; exact (iI_k (by decide)).trans w9
            have hF : Fr [] [918, 919, 920, 921, 922, 1100, 1300] S S12 := by rw [eS12]; exact hF.I kq11 (by decide)
            clear eS12
            refine lv_aload_n hx hb dX9_step_72 rfl (lv_at hl 0 rfl) ?_
            refine pg_gi (ci := 9) (C := RX9) (T := TX9) (N := 63) hx hb hts wi9 hown hK hW (hF.k hk (by decide)) (by decide) rfl 19 (by decide) (hts (.fieldLink RX9 32 "IceHallModel" "store" "I") (by decide +kernel)) (fun _ h9 => h9) rfl dX9_step_73 ?_
            refine lv_aload_n hx hb dX9_step_76 rfl (lv_at hl 0 rfl) ?_
            refine pg_gi (ci := 9) (C := RX9) (T := TX9) (N := 63) hx hb hts wi9 hown hK hW (hF.k hk (by decide)) (by decide) rfl 23 (by decide) (hts (.fieldLink RX9 36 "IceHallModel" "mostOf" "I") (by decide +kernel)) (fun _ h9 => h9) rfl dX9_step_77 ?_
            refine lv_icmp_le (tgt := 109) hx hb dX9_step_80 (by decide) (fun c14 => ?_) (fun c14 => ?_)
            · have c14i : Int32.toInt (sI S12 h 19) ≤ Int32.toInt (sI S12 h 23) := (i3_le _ _).mp c14
              refine lv_iconst (v := 0) hx hb dX9_step_109 (by decide) ?_
              refine lv_istore_n (lv' := [(3, .int 0), (0, .ref h), (1, .int a), (2, .int b)]) hx hb dX9_step_110 rfl hl (by decide) rfl (fun ls hl => ?_)
              have hE15 : Fr [] [918, 919, 920, 921, 922, 1100, 1300] S12 S12 := Fr.rf _ _ _
              have loop111 : ∀ (zn : Nat) (y : Int32) (L111 : St) (H : Heap) (locs : List Loc) (ls : Array Slot), (G L111) → (Fr [] [918, 919, 920, 921, 922, 1100, 1300] S12 L111) → (0 ≤ y.toInt) → (sI L111 h 18 = sI S h 18) → (2 - y.toInt).toNat < zn → PW D cy A L111 H → va_S A s.heap H locs → lv_has ls 5 [(0, .ref h), (1, .int a), (2, .int b), (3, .int y)] → W p l e ({ frames := 2, cells := 0, slots := 0, locals := 42 } : Room) s m args below meth c H locs 0 0 (MQ below (va_Qi (fun r S1 => G S1 ∧ Fr [] [918, 919, 920, 921, 922, 1100, 1300] S S1 ∧ (((-20 ≤ a.toInt ∧ a.toInt ≤ 40 ∧ 0 ≤ b.toInt ∧ b.toInt ≤ (sI S h 24).toInt ∧ (sI S h 18).toInt < 990) → r = sI S1 h 18 ∧ (sI S1 h 18).toInt = (sI S h 18).toInt + 1) ∧ (¬ (-20 ≤ a.toInt ∧ a.toInt ≤ 40 ∧ 0 ≤ b.toInt ∧ b.toInt ≤ (sI S h 24).toInt ∧ (sI S h 18).toInt < 990) → r = (-1) ∧ sI S1 h 18 = sI S h 18))) (PU D cy A) A) args s 0 0 A) (F0 m 111 ls []) := by
                intro zn
                induction zn with
                | zero => intros; exact absurd (by assumption) (Nat.not_lt_zero _)
                | succ zn ih111 =>
                  intro y L111 H locs ls hG hL111 hy0 h18 hme111 hW hS hl
                  have hF : Fr [] [918, 919, 920, 921, 922, 1100, 1300] S L111 := hF.tr hL111
                  have hE15 := hL111
                  have g16 : (0 : Int) ≤ (sI L111 h 18).toInt ∧ (sI L111 h 18).toInt ≤ 990 := hG.i (hF.k hk (by decide)) (by decide) 18 (by decide)
                  refine lv_iload_n hx hb dX9_step_111 rfl (lv_at hl 3 rfl) ?_
                  refine lv_iconst (v := 2) hx hb dX9_step_112 (by decide) ?_
                  refine lv_icmp_ge (tgt := 205) hx hb dX9_step_113 (by decide) (fun c17 => ?_) (fun c17 => ?_)
                  · have c17i : (2 : Int) ≤ Int32.toInt y := (i3_le _ _).mp c17
                    refine lv_aload_n hx hb dX9_step_205 rfl (lv_at hl 0 rfl) ?_
                    refine lv_aload_n hx hb dX9_step_206 rfl (lv_at hl 0 rfl) ?_
                    refine pg_gi (ci := 9) (C := RX9) (T := TX9) (N := 63) hx hb hts wi9 hown hK hW (hF.k hk (by decide)) (by decide) rfl 18 (by decide) (hts (.fieldLink RX9 219 "IceHallModel" "now" "I") (by decide +kernel)) (fun _ h9 => h9) rfl dX9_step_207 ?_
                    rw [show sI L111 h 18 = sI S h 18 from h18]
                    refine lv_iconst (v := 1) hx hb dX9_step_210 (by decide) ?_
                    refine lv_iadd hx hb dX9_step_211 ?_
                    have l18 : ((sI S h 18) + 1).toInt = Int32.toInt (sI S h 18) + (1 : Int) := i3_add rfl rfl (by omega) (by omega)
                    refine pg_pi (ci := 9) (C := RX9) (T := TX9) (N := 63) hx hb hts wi9 tyX9 tyX9_ok nmX9 hown hK hW hS (hF.k hk (by decide)) (by decide) rfl 18 (by decide) (hts (.fieldLink RX9 219 "IceHallModel" "now" "I") (by decide +kernel)) (fun _ h9 => h9) rfl rfl rfl dX9_step_212 (fun H locs hW hS => ?_)
                    have kq19 : sK L111 h = 9 := (hF.k hk (by decide))
                    obtain ⟨S20, eS20⟩ : ∃ T : St, T = stI L111 h 18 ((sI S h 18) + 1) := ⟨_, rfl⟩
                    rw [← eS20] at hW
                    have hG : G S20 := by rw [eS20]; exact hG.I kq19 (ok_in 0 990 (by decide) (⟨by omega, by omega⟩))
                    have hF : Fr [] [918, 919, 920, 921, 922, 1100, 1300] S S20 := by rw [eS20]; exact hF.I kq19 (by decide)
                    have hE15 : Fr [] [918, 919, 920, 921, 922, 1100, 1300] S12 S20 := by rw [eS20]; exact hE15.I kq19 (by decide)
                    have w21 : sI S20 h 18 = (sI S h 18) + 1 := by rw [eS20]; exact iI_s
                    clear eS20
                    refine lv_aload_n hx hb dX9_step_215 rfl (lv_at hl 0 rfl) ?_
                    refine pg_gi (ci := 9) (C := RX9) (T := TX9) (N := 63) hx hb hts wi9 hown hK hW (hF.k hk (by decide)) (by decide) rfl 18 (by decide) (hts (.fieldLink RX9 219 "IceHallModel" "now" "I") (by decide +kernel)) (fun _ h9 => h9) rfl dX9_step_216 ?_
                    rw [show sI S20 h 18 = (sI S h 18) + 1 from w21]
                    have lk22 : (sI S20 h 18).toInt = ((sI S h 18) + 1).toInt := by rw [show sI S20 h 18 = (sI S h 18) + 1 from w21]
                    exact pc_iret (v := (sI S h 18) + 1) (S := S20) hx hb hr hlk hK hZ hA hW hS (⟨hG, hF, ⟨fun _ => ⟨w21.symm, by rw [w21]; omega⟩, fun h9 => absurd h9 (fun h8 => h8 (by omega))⟩⟩) dX9_step_219
                  · have c17i : ¬ ((2 : Int) ≤ Int32.toInt y) := fun h9 => c17 ((i3_le _ _).mpr h9)
                    refine lv_aload_n hx hb dX9_step_116 rfl (lv_at hl 0 rfl) ?_
                    refine lv_iload_n hx hb dX9_step_117 rfl (lv_at hl 3 rfl) ?_
                    refine lv_aload_n hx hb dX9_step_118 rfl (lv_at hl 0 rfl) ?_
                    refine pg_gi (ci := 9) (C := RX9) (T := TX9) (N := 63) hx hb hts wi9 hown hK hW (hF.k hk (by decide)) (by decide) rfl 18 (by decide) (hts (.fieldLink RX9 219 "IceHallModel" "now" "I") (by decide +kernel)) (fun _ h9 => h9) rfl dX9_step_119 ?_
                    rw [show sI L111 h 18 = sI S h 18 from h18]
                    have lk23 : (sI L111 h 18).toInt = (sI S h 18).toInt := by rw [show sI L111 h 18 = sI S h 18 from h18]
                    refine pc_Vi (As := [.int y, .int (sI S h 18)]) (rest := []) F (b_X9_standing l D cy A L111 h y (sI S h 18) hG (hF.k hk (by decide))) (cwV 2 hts gX9_step_X9_standing rfl rfl rfl (by decide +kernel) ⟨Nat.le_of_ble_eq_true rfl, Nat.le_of_ble_eq_true rfl⟩) hK hZ hA hW hS (hF.k hk (by decide)) (by decide) rfl rfl hl.1 rfl (Nat.le_of_ble_eq_true rfl) dX9_step_122 ⟨Nat.le_of_ble_eq_true rfl, Nat.le_of_ble_eq_true rfl⟩ (fun v24 T25 H locs p26 hW hS => ?_)
                    obtain ⟨eT25, p26⟩ := p26
                    rw [eT25] at hW
                    clear eT25
                    refine lv_istore (lv' := [(4, .int v24), (0, .ref h), (1, .int a), (2, .int b), (3, .int y)]) hx hb dX9_step_125 hl (by decide) rfl (fun ls hl => ?_)
                    refine lv_aload_n hx hb dX9_step_127 rfl (lv_at hl 1 rfl) ?_
                    refine lv_iload_n hx hb dX9_step_128 rfl (lv_at hl 4 rfl) ?_
                    refine lv_iload_n hx hb dX9_step_129 rfl (lv_at hl 2 rfl) ?_
                    have lk27 : (sI L111 h 18).toInt = (sI S h 18).toInt := by rw [show sI L111 h 18 = sI S h 18 from h18]
                    refine pc_Si (As := [.int a]) (rest := [.int y, .ref h]) F (b_X9_halfOf l D cy A L111 a ) (va_cwS 1 hts gX9_step_X9_halfOf rfl rfl rfl (by decide +kernel) ⟨Nat.le_of_ble_eq_true rfl, Nat.le_of_ble_eq_true rfl⟩) hK hZ hA hW hS rfl hl.1 rfl (Nat.le_of_ble_eq_true rfl) dX9_step_130 ⟨Nat.le_of_ble_eq_true rfl, Nat.le_of_ble_eq_true rfl⟩ (fun v28 T29 H locs p30 hW hS => ?_)
                    obtain ⟨eT29, p30⟩ := p30
                    rw [eT29] at hW
                    clear eT29
                    have join153 : ∀ (v153 : Int32) (H : Heap) (locs : List Loc), PW D cy A L111 H → va_S A s.heap H locs → W p l e ({ frames := 2, cells := 0, slots := 0, locals := 42 } : Room) s m args below meth c H locs 0 0 (MQ below (va_Qi (fun r S1 => G S1 ∧ Fr [] [918, 919, 920, 921, 922, 1100, 1300] S S1 ∧ (((-20 ≤ a.toInt ∧ a.toInt ≤ 40 ∧ 0 ≤ b.toInt ∧ b.toInt ≤ (sI S h 24).toInt ∧ (sI S h 18).toInt < 990) → r = sI S1 h 18 ∧ (sI S1 h 18).toInt = (sI S h 18).toInt + 1) ∧ (¬ (-20 ≤ a.toInt ∧ a.toInt ≤ 40 ∧ 0 ≤ b.toInt ∧ b.toInt ≤ (sI S h 24).toInt ∧ (sI S h 18).toInt < 990) → r = (-1) ∧ sI S1 h 18 = sI S h 18))) (PU D cy A) A) args s 0 0 A) (F0 m 153 ls [.int v153, .int v28, .int y, .ref h]) := by
                      intro v153 H locs hW hS
                      refine lv_iadd hx hb dX9_step_153 ?_
                      have lk31 : (sI L111 h 18).toInt = (sI S h 18).toInt := by rw [show sI L111 h 18 = sI S h 18 from h18]
                      refine pc_Vv (As := [.int y, .int (v28 + v153)]) (rest := []) F (b_X9_melts l D cy A L111 h y (v28 + v153) hG (hF.k hk (by decide)) (by omega) (by omega)) (cwV 2 hts gX9_step_X9_melts rfl rfl rfl (by decide +kernel) ⟨Nat.le_of_ble_eq_true rfl, Nat.le_of_ble_eq_true rfl⟩) hK hZ hA hW hS (hF.k hk (by decide)) (by decide) rfl rfl hl.1 rfl (Nat.le_of_ble_eq_true rfl) dX9_step_154 ⟨Nat.le_of_ble_eq_true rfl, Nat.le_of_ble_eq_true rfl⟩ (fun T33 H locs p34 hW hS => ?_)
                      obtain ⟨hG, hFc, p34⟩ := p34
                      have w35 : sI T33 h 18 = sI S h 18 := (hFc.i (hF.k hk (by decide)) (by decide) (by decide)).trans h18
                      have hF : Fr [] [918, 919, 920, 921, 922, 1100, 1300] S T33 := hF.tr (hFc.mono (by decide))
                      have hE15 : Fr [] [918, 919, 920, 921, 922, 1100, 1300] S12 T33 := hE15.tr (hFc.mono (by decide))
                      refine lv_iload hx hb dX9_step_157 (lv_at hl 0 rfl) ?_
                      refine lv_iconst (v := (-1)) hx hb dX9_step_159 (by decide) ?_
                      refine lv_icmp_eq (tgt := 173) hx hb dX9_step_160 (by decide) (fun c36 => ?_) (fun c36 => ?_)
                      · have c36i : Int32.toInt v24 = (-1 : Int) := (i3_eq _ _).mp c36
                        refine lv_aload_n hx hb dX9_step_173 rfl (lv_at hl 1 rfl) ?_
                        obtain ⟨b37, rb37, kb37, nb37⟩ := hG0.r hk List.not_mem_nil 34 (show rty 9 34 = some (13, 2) from rfl)
                        refine pg_gr (b := b37) (ci := 9) (C := RX9) (T := TX9) (N := 63) hx hb hts wi9 hown hK hW (hF.k hk (by decide)) (by decide) rfl 34 (by decide) (hts (.fieldLink RX9 69 "IceHallModel" "hasCut" "[Z") (by decide +kernel)) (fun _ h9 => h9) rfl (hF.r hk (by decide) rb37) dX9_step_174 ?_
                        refine lv_iload_n hx hb dX9_step_177 rfl (lv_at hl 4 rfl) ?_
                        refine pg_zald hx hb hK hW (hF.k kb37 (by decide)) (by rw [show sL T33 b37 = 2 from (hF.n kb37 (by decide) nb37)]; exact r_in (by omega)) dX9_step_178 ?_
                        refine lv_if_eq (tgt := 199) hx hb dX9_step_179 (by decide) (fun c38 => ?_) (fun c38 => ?_)
                        · have c38i : Int32.toInt (sI T33 b37 (Int32.toNatClampNeg y)) = (0 : Int) := (i3_eq _ _).mp c38
                          refine lv_iinc (v := y + 1) (lv' := [(3, .int (y + 1)), (4, .int v24), (0, .ref h), (1, .int a), (2, .int b)]) hx hb dX9_step_199 hl (k := 4) rfl rfl (by decide) rfl (fun ls hl => ?_)
                          have i39 : (y + 1).toInt = (y).toInt + 1 := i3_add rfl rfl (by omega) (by omega)
                          refine lv_goto (tgt := 111) hx hb dX9_step_202 (by decide) ?_
                          have lk40 : (sI T33 h 18).toInt = (sI S h 18).toInt := by rw [show sI T33 h 18 = sI S h 18 from w35]
                          exact ih111 (y + 1) T33 _ _ ls hG hE15 (by omega) (w35) (by omega) hW hS (lv_cast (lv_sub hl [2, 3, 4, 0] rfl) (rfl))
                        · have c38i : ¬ (Int32.toInt (sI T33 b37 (Int32.toNatClampNeg y)) = (0 : Int)) := fun h9 => c38 ((i3_eq _ _).mpr h9)
                          refine lv_aload_n hx hb dX9_step_182 rfl (lv_at hl 1 rfl) ?_
                          refine lv_iload_n hx hb dX9_step_183 rfl (lv_at hl 4 rfl) ?_
                          refine lv_aload_n hx hb dX9_step_184 rfl (lv_at hl 1 rfl) ?_
                          refine pg_gi (ci := 9) (C := RX9) (T := TX9) (N := 63) hx hb hts wi9 hown hK hW (hF.k hk (by decide)) (by decide) rfl 18 (by decide) (hts (.fieldLink RX9 219 "IceHallModel" "now" "I") (by decide +kernel)) (fun _ h9 => h9) rfl dX9_step_185 ?_
                          rw [show sI T33 h 18 = sI S h 18 from w35]
                          have lk41 : (sI T33 h 18).toInt = (sI S h 18).toInt := by rw [show sI T33 h 18 = sI S h 18 from w35]
                          refine pc_Vi (As := [.int y, .int (sI S h 18)]) (rest := []) F (b_X9_isClosed l D cy A T33 h y (sI S h 18) hG (hF.k hk (by decide))) (cwV 2 hts gX9_step_X9_isClosed rfl rfl rfl (by decide +kernel) ⟨Nat.le_of_ble_eq_true rfl, Nat.le_of_ble_eq_true rfl⟩) hK hZ hA hW hS (hF.k hk (by decide)) (by decide) rfl rfl hl.1 rfl (Nat.le_of_ble_eq_true rfl) dX9_step_188 ⟨Nat.le_of_ble_eq_true rfl, Nat.le_of_ble_eq_true rfl⟩ (fun v42 T43 H locs p44 hW hS => ?_)
                          obtain ⟨eT43, p44⟩ := p44
                          rw [eT43] at hW
                          clear eT43
                          refine lv_if_ne (tgt := 199) hx hb dX9_step_191 (by decide) (fun c45 => ?_) (fun c45 => ?_)
                          · have c45i : ¬ (Int32.toInt v42 = (0 : Int)) := fun h9 => c45 ((i3_eq _ _).mpr h9)
                            refine lv_iinc (v := y + 1) (lv' := [(3, .int (y + 1)), (4, .int v24), (0, .ref h), (1, .int a), (2, .int b)]) hx hb dX9_step_199 hl (k := 4) rfl rfl (by decide) rfl (fun ls hl => ?_)
                            have i46 : (y + 1).toInt = (y).toInt + 1 := i3_add rfl rfl (by omega) (by omega)
                            refine lv_goto (tgt := 111) hx hb dX9_step_202 (by decide) ?_
                            have lk47 : (sI T33 h 18).toInt = (sI S h 18).toInt := by rw [show sI T33 h 18 = sI S h 18 from w35]
                            exact ih111 (y + 1) T33 _ _ ls hG hE15 (by omega) (w35) (by omega) hW hS (lv_cast (lv_sub hl [2, 3, 4, 0] rfl) (rfl))
                          · have c45i : Int32.toInt v42 = (0 : Int) := (i3_eq _ _).mp c45
                            refine lv_aload_n hx hb dX9_step_194 rfl (lv_at hl 1 rfl) ?_
                            refine lv_iload_n hx hb dX9_step_195 rfl (lv_at hl 4 rfl) ?_
                            have lk48 : (sI T33 h 18).toInt = (sI S h 18).toInt := by rw [show sI T33 h 18 = sI S h 18 from w35]
                            refine pc_Vv (As := [.int y]) (rest := []) F (b_X9_cuts l D cy A T33 h y hG (hF.k hk (by decide)) (by omega) (by omega)) (cwV 1 hts gX9_step_X9_cuts rfl rfl rfl (by decide +kernel) ⟨Nat.le_of_ble_eq_true rfl, Nat.le_of_ble_eq_true rfl⟩) hK hZ hA hW hS (hF.k hk (by decide)) (by decide) rfl rfl hl.1 rfl (Nat.le_of_ble_eq_true rfl) dX9_step_196 ⟨Nat.le_of_ble_eq_true rfl, Nat.le_of_ble_eq_true rfl⟩ (fun T50 H locs p51 hW hS => ?_)
                            obtain ⟨hG, hFc, p51⟩ := p51
                            have w52 : sI T50 h 18 = sI S h 18 := (hFc.i (hF.k hk (by decide)) (by decide) (by decide)).trans w35
                            have hF : Fr [] [918, 919, 920, 921, 922, 1100, 1300] S T50 := hF.tr (hFc.mono (by decide))
                            have hE15 : Fr [] [918, 919, 920, 921, 922, 1100, 1300] S12 T50 := hE15.tr (hFc.mono (by decide))
                            refine lv_iinc (v := y + 1) (lv' := [(3, .int (y + 1)), (4, .int v24), (0, .ref h), (1, .int a), (2, .int b)]) hx hb dX9_step_199 hl (k := 4) rfl rfl (by decide) rfl (fun ls hl => ?_)
                            have i53 : (y + 1).toInt = (y).toInt + 1 := i3_add rfl rfl (by omega) (by omega)
                            refine lv_goto (tgt := 111) hx hb dX9_step_202 (by decide) ?_
                            have lk54 : (sI T50 h 18).toInt = (sI S h 18).toInt := by rw [show sI T50 h 18 = sI S h 18 from w52]
                            exact ih111 (y + 1) T50 _ _ ls hG hE15 (by omega) (w52) (by omega) hW hS (lv_cast (lv_sub hl [2, 3, 4, 0] rfl) (rfl))
                      · have c36i : ¬ (Int32.toInt v24 = (-1 : Int)) := fun h9 => c36 ((i3_eq _ _).mpr h9)
                        refine lv_aload_n hx hb dX9_step_163 rfl (lv_at hl 1 rfl) ?_
                        refine lv_iload_n hx hb dX9_step_164 rfl (lv_at hl 4 rfl) ?_
                        refine lv_iload hx hb dX9_step_165 (lv_at hl 0 rfl) ?_
                        have lk55 : (sI T33 h 18).toInt = (sI S h 18).toInt := by rw [show sI T33 h 18 = sI S h 18 from w35]
                        refine pc_Vv (As := [.int y, .int v24]) (rest := []) F (b_X9_holds l D cy A T33 h y v24 hG (hF.k hk (by decide)) (by omega) (by omega) (by omega) (by omega)) (cwV 2 hts gX9_step_X9_holds rfl rfl rfl (by decide +kernel) ⟨Nat.le_of_ble_eq_true rfl, Nat.le_of_ble_eq_true rfl⟩) hK hZ hA hW hS (hF.k hk (by decide)) (by decide) rfl rfl hl.1 rfl (Nat.le_of_ble_eq_true rfl) dX9_step_167 ⟨Nat.le_of_ble_eq_true rfl, Nat.le_of_ble_eq_true rfl⟩ (fun T57 H locs p58 hW hS => ?_)
                        obtain ⟨hG, hFc, p58⟩ := p58
                        have w59 : sI T57 h 18 = sI S h 18 := (hFc.i (hF.k hk (by decide)) (by decide) (by decide)).trans w35
                        have hF : Fr [] [918, 919, 920, 921, 922, 1100, 1300] S T57 := hF.tr (hFc.mono (by decide))
                        have hE15 : Fr [] [918, 919, 920, 921, 922, 1100, 1300] S12 T57 := hE15.tr (hFc.mono (by decide))
                        refine lv_goto (tgt := 199) hx hb dX9_step_170 (by decide) ?_
                        refine lv_iinc (v := y + 1) (lv' := [(3, .int (y + 1)), (4, .int v24), (0, .ref h), (1, .int a), (2, .int b)]) hx hb dX9_step_199 hl (k := 4) rfl rfl (by decide) rfl (fun ls hl => ?_)
                        have i60 : (y + 1).toInt = (y).toInt + 1 := i3_add rfl rfl (by omega) (by omega)
                        refine lv_goto (tgt := 111) hx hb dX9_step_202 (by decide) ?_
                        have lk61 : (sI T57 h 18).toInt = (sI S h 18).toInt := by rw [show sI T57 h 18 = sI S h 18 from w59]
                        exact ih111 (y + 1) T57 _ _ ls hG hE15 (by omega) (w59) (by omega) hW hS (lv_cast (lv_sub hl [2, 3, 4, 0] rfl) (rfl))
                    refine lv_iload hx hb dX9_step_133 (lv_at hl 0 rfl) ?_
                    refine lv_iconst (v := (-1)) hx hb dX9_step_135 (by decide) ?_
                    refine lv_icmp_ne (tgt := 143) hx hb dX9_step_136 (by decide) (fun c62 => ?_) (fun c62 => ?_)
                    · have c62i : ¬ (Int32.toInt v24 = (-1 : Int)) := fun h9 => c62 ((i3_eq _ _).mpr h9)
                      refine lv_aload_n hx hb dX9_step_143 rfl (lv_at hl 1 rfl) ?_
                      obtain ⟨b63, rb63, kb63, nb63⟩ := hG0.r hk List.not_mem_nil 38 (show rty 9 38 = some (11, 200) from rfl)
                      refine pg_gr (b := b63) (ci := 9) (C := RX9) (T := TX9) (N := 63) hx hb hts wi9 hown hK hW (hF.k hk (by decide)) (by decide) rfl 38 (by decide) (hts (.fieldLink RX9 76 "IceHallModel" "kindOf" "[I") (by decide +kernel)) (fun _ h9 => h9) rfl (hF.r hk (by decide) rb63) dX9_step_144 ?_
                      refine lv_iload hx hb dX9_step_147 (lv_at hl 0 rfl) ?_
                      refine pg_iald hx hb hK hW (hF.k kb63 (by decide)) (by decide) (by rw [show sL L111 b63 = 200 from (hF.n kb63 (by decide) nb63)]; exact r_in (by omega)) dX9_step_149 ?_
                      have lk64 : (sI L111 h 18).toInt = (sI S h 18).toInt := by rw [show sI L111 h 18 = sI S h 18 from h18]
                      refine pc_Si (As := [.int (sI L111 b63 (Int32.toNatClampNeg v24))]) (rest := [.int v28, .int y, .ref h]) F (b_X9_heatOf l D cy A L111 (sI L111 b63 (Int32.toNatClampNeg v24)) ) (va_cwS 1 hts gX9_step_X9_heatOf rfl rfl rfl (by decide +kernel) ⟨Nat.le_of_ble_eq_true rfl, Nat.le_of_ble_eq_true rfl⟩) hK hZ hA hW hS rfl hl.1 rfl (Nat.le_of_ble_eq_true rfl) dX9_step_150 ⟨Nat.le_of_ble_eq_true rfl, Nat.le_of_ble_eq_true rfl⟩ (fun v65 T66 H locs p67 hW hS => ?_)
                      obtain ⟨eT66, p67⟩ := p67
                      rw [eT66] at hW
                      clear eT66
                      exact join153 v65 _ _  hW hS
                    · have c62i : Int32.toInt v24 = (-1 : Int) := (i3_eq _ _).mp c62
                      refine lv_iconst (v := 0) hx hb dX9_step_139 (by decide) ?_
                      refine lv_goto (tgt := 153) hx hb dX9_step_140 (by decide) ?_
                      exact join153 0 _ _  hW hS
              have lk68 : (sI S12 h 18).toInt = (sI S h 18).toInt := by rw [show sI S12 h 18 = sI S h 18 from w13]
              exact loop111 _ 0 S12 _ _ ls hG hE15 (by decide) (w13) (Nat.lt_succ_self _) hW hS (lv_cast (lv_sub hl [1, 2, 3, 0] rfl) (rfl))
            · have c14i : ¬ (Int32.toInt (sI S12 h 19) ≤ Int32.toInt (sI S12 h 23)) := fun h9 => c14 ((i3_le _ _).mpr h9)
              refine lv_aload_n hx hb dX9_step_83 rfl (lv_at hl 0 rfl) ?_
              refine lv_aload_n hx hb dX9_step_84 rfl (lv_at hl 0 rfl) ?_
              refine pg_gi (ci := 9) (C := RX9) (T := TX9) (N := 63) hx hb hts wi9 hown hK hW (hF.k hk (by decide)) (by decide) rfl 20 (by decide) (hts (.fieldLink RX9 265 "IceHallModel" "spilt" "I") (by decide +kernel)) (fun _ h9 => h9) rfl dX9_step_85 ?_
              refine lv_aload_n hx hb dX9_step_88 rfl (lv_at hl 0 rfl) ?_
              refine pg_gi (ci := 9) (C := RX9) (T := TX9) (N := 63) hx hb hts wi9 hown hK hW (hF.k hk (by decide)) (by decide) rfl 19 (by decide) (hts (.fieldLink RX9 32 "IceHallModel" "store" "I") (by decide +kernel)) (fun _ h9 => h9) rfl dX9_step_89 ?_
              refine lv_iadd hx hb dX9_step_92 ?_
              refine lv_aload_n hx hb dX9_step_93 rfl (lv_at hl 0 rfl) ?_
              refine pg_gi (ci := 9) (C := RX9) (T := TX9) (N := 63) hx hb hts wi9 hown hK hW (hF.k hk (by decide)) (by decide) rfl 23 (by decide) (hts (.fieldLink RX9 36 "IceHallModel" "mostOf" "I") (by decide +kernel)) (fun _ h9 => h9) rfl dX9_step_94 ?_
              refine lv_isub hx hb dX9_step_97 ?_
              refine pg_pi (ci := 9) (C := RX9) (T := TX9) (N := 63) hx hb hts wi9 tyX9 tyX9_ok nmX9 hown hK hW hS (hF.k hk (by decide)) (by decide) rfl 20 (by decide) (hts (.fieldLink RX9 265 "IceHallModel" "spilt" "I") (by decide +kernel)) (fun _ h9 => h9) rfl rfl rfl dX9_step_98 (fun H locs hW hS => ?_)
              have kq69 : sK S12 h = 9 := (hF.k hk (by decide))
              obtain ⟨S70, eS70⟩ : ∃ T : St, T = stI S12 h 20 (((sI S12 h 20) + (sI S12 h 19)) - (sI S12 h 23)) := ⟨_, rfl⟩
              rw [← eS70] at hW
              have hG : G S70 := by rw [eS70]; exact hG.I kq69 (ok_fr (by decide))
              have w71 : sI S70 h 18 = sI S h 18 := by rw [eS70]; exact (iI_k (by decide)).trans w13
              have hF : Fr [] [918, 919, 920, 921, 922, 1100, 1300] S S70 := by rw [eS70]; exact hF.I kq69 (by decide)
              clear eS70
              refine lv_aload_n hx hb dX9_step_101 rfl (lv_at hl 0 rfl) ?_
              refine lv_aload_n hx hb dX9_step_102 rfl (lv_at hl 0 rfl) ?_
              refine pg_gi (ci := 9) (C := RX9) (T := TX9) (N := 63) hx hb hts wi9 hown hK hW (hF.k hk (by decide)) (by decide) rfl 23 (by decide) (hts (.fieldLink RX9 36 "IceHallModel" "mostOf" "I") (by decide +kernel)) (fun _ h9 => h9) rfl dX9_step_103 ?_
              refine pg_pi (ci := 9) (C := RX9) (T := TX9) (N := 63) hx hb hts wi9 tyX9 tyX9_ok nmX9 hown hK hW hS (hF.k hk (by decide)) (by decide) rfl 19 (by decide) (hts (.fieldLink RX9 32 "IceHallModel" "store" "I") (by decide +kernel)) (fun _ h9 => h9) rfl rfl rfl dX9_step_106 (fun H locs hW hS => ?_)
              have kq72 : sK S70 h = 9 := (hF.k hk (by decide))
              obtain ⟨S73, eS73⟩ : ∃ T : St, T = stI S70 h 19 (sI S70 h 23) := ⟨_, rfl⟩
              rw [← eS73] at hW
              have hG : G S73 := by rw [eS73]; exact hG.I kq72 (ok_fr (by decide))
              have w74 : sI S73 h 18 = sI S h 18 := by rw [eS73]; exact (iI_k (by decide)).trans w71
              have hF : Fr [] [918, 919, 920, 921, 922, 1100, 1300] S S73 := by rw [eS73]; exact hF.I kq72 (by decide)
              clear eS73
              refine lv_iconst (v := 0) hx hb dX9_step_109 (by decide) ?_
              refine lv_istore_n (lv' := [(3, .int 0), (0, .ref h), (1, .int a), (2, .int b)]) hx hb dX9_step_110 rfl hl (by decide) rfl (fun ls hl => ?_)
              have hE75 : Fr [] [918, 919, 920, 921, 922, 1100, 1300] S73 S73 := Fr.rf _ _ _
              have loop111 : ∀ (zn : Nat) (y : Int32) (L111 : St) (H : Heap) (locs : List Loc) (ls : Array Slot), (G L111) → (Fr [] [918, 919, 920, 921, 922, 1100, 1300] S73 L111) → (0 ≤ y.toInt) → (sI L111 h 18 = sI S h 18) → (2 - y.toInt).toNat < zn → PW D cy A L111 H → va_S A s.heap H locs → lv_has ls 5 [(0, .ref h), (1, .int a), (2, .int b), (3, .int y)] → W p l e ({ frames := 2, cells := 0, slots := 0, locals := 42 } : Room) s m args below meth c H locs 0 0 (MQ below (va_Qi (fun r S1 => G S1 ∧ Fr [] [918, 919, 920, 921, 922, 1100, 1300] S S1 ∧ (((-20 ≤ a.toInt ∧ a.toInt ≤ 40 ∧ 0 ≤ b.toInt ∧ b.toInt ≤ (sI S h 24).toInt ∧ (sI S h 18).toInt < 990) → r = sI S1 h 18 ∧ (sI S1 h 18).toInt = (sI S h 18).toInt + 1) ∧ (¬ (-20 ≤ a.toInt ∧ a.toInt ≤ 40 ∧ 0 ≤ b.toInt ∧ b.toInt ≤ (sI S h 24).toInt ∧ (sI S h 18).toInt < 990) → r = (-1) ∧ sI S1 h 18 = sI S h 18))) (PU D cy A) A) args s 0 0 A) (F0 m 111 ls []) := by
                intro zn
                induction zn with
                | zero => intros; exact absurd (by assumption) (Nat.not_lt_zero _)
                | succ zn ih111 =>
                  intro y L111 H locs ls hG hL111 hy0 h18 hme111 hW hS hl
                  have hF : Fr [] [918, 919, 920, 921, 922, 1100, 1300] S L111 := hF.tr hL111
                  have hE75 := hL111
                  have g76 : (0 : Int) ≤ (sI L111 h 18).toInt ∧ (sI L111 h 18).toInt ≤ 990 := hG.i (hF.k hk (by decide)) (by decide) 18 (by decide)
                  refine lv_iload_n hx hb dX9_step_111 rfl (lv_at hl 3 rfl) ?_
                  refine lv_iconst (v := 2) hx hb dX9_step_112 (by decide) ?_
                  refine lv_icmp_ge (tgt := 205) hx hb dX9_step_113 (by decide) (fun c77 => ?_) (fun c77 => ?_)
                  · have c77i : (2 : Int) ≤ Int32.toInt y := (i3_le _ _).mp c77
                    refine lv_aload_n hx hb dX9_step_205 rfl (lv_at hl 0 rfl) ?_
                    refine lv_aload_n hx hb dX9_step_206 rfl (lv_at hl 0 rfl) ?_
                    refine pg_gi (ci := 9) (C := RX9) (T := TX9) (N := 63) hx hb hts wi9 hown hK hW (hF.k hk (by decide)) (by decide) rfl 18 (by decide) (hts (.fieldLink RX9 219 "IceHallModel" "now" "I") (by decide +kernel)) (fun _ h9 => h9) rfl dX9_step_207 ?_
                    rw [show sI L111 h 18 = sI S h 18 from h18]
                    refine lv_iconst (v := 1) hx hb dX9_step_210 (by decide) ?_
                    refine lv_iadd hx hb dX9_step_211 ?_
                    have l78 : ((sI S h 18) + 1).toInt = Int32.toInt (sI S h 18) + (1 : Int) := i3_add rfl rfl (by omega) (by omega)
                    refine pg_pi (ci := 9) (C := RX9) (T := TX9) (N := 63) hx hb hts wi9 tyX9 tyX9_ok nmX9 hown hK hW hS (hF.k hk (by decide)) (by decide) rfl 18 (by decide) (hts (.fieldLink RX9 219 "IceHallModel" "now" "I") (by decide +kernel)) (fun _ h9 => h9) rfl rfl rfl dX9_step_212 (fun H locs hW hS => ?_)
                    have kq79 : sK L111 h = 9 := (hF.k hk (by decide))
                    obtain ⟨S80, eS80⟩ : ∃ T : St, T = stI L111 h 18 ((sI S h 18) + 1) := ⟨_, rfl⟩
                    rw [← eS80] at hW
                    have hG : G S80 := by rw [eS80]; exact hG.I kq79 (ok_in 0 990 (by decide) (⟨by omega, by omega⟩))
                    have hF : Fr [] [918, 919, 920, 921, 922, 1100, 1300] S S80 := by rw [eS80]; exact hF.I kq79 (by decide)
                    have hE75 : Fr [] [918, 919, 920, 921, 922, 1100, 1300] S73 S80 := by rw [eS80]; exact hE75.I kq79 (by decide)
                    have w81 : sI S80 h 18 = (sI S h 18) + 1 := by rw [eS80]; exact iI_s
                    clear eS80
                    refine lv_aload_n hx hb dX9_step_215 rfl (lv_at hl 0 rfl) ?_
                    refine pg_gi (ci := 9) (C := RX9) (T := TX9) (N := 63) hx hb hts wi9 hown hK hW (hF.k hk (by decide)) (by decide) rfl 18 (by decide) (hts (.fieldLink RX9 219 "IceHallModel" "now" "I") (by decide +kernel)) (fun _ h9 => h9) rfl dX9_step_216 ?_
                    rw [show sI S80 h 18 = (sI S h 18) + 1 from w81]
                    have lk82 : (sI S80 h 18).toInt = ((sI S h 18) + 1).toInt := by rw [show sI S80 h 18 = (sI S h 18) + 1 from w81]
                    exact pc_iret (v := (sI S h 18) + 1) (S := S80) hx hb hr hlk hK hZ hA hW hS (⟨hG, hF, ⟨fun _ => ⟨w81.symm, by rw [w81]; omega⟩, fun h9 => absurd h9 (fun h8 => h8 (by omega))⟩⟩) dX9_step_219
                  · have c77i : ¬ ((2 : Int) ≤ Int32.toInt y) := fun h9 => c77 ((i3_le _ _).mpr h9)
                    refine lv_aload_n hx hb dX9_step_116 rfl (lv_at hl 0 rfl) ?_
                    refine lv_iload_n hx hb dX9_step_117 rfl (lv_at hl 3 rfl) ?_
                    refine lv_aload_n hx hb dX9_step_118 rfl (lv_at hl 0 rfl) ?_
                    refine pg_gi (ci := 9) (C := RX9) (T := TX9) (N := 63) hx hb hts wi9 hown hK hW (hF.k hk (by decide)) (by decide) rfl 18 (by decide) (hts (.fieldLink RX9 219 "IceHallModel" "now" "I") (by decide +kernel)) (fun _ h9 => h9) rfl dX9_step_119 ?_
                    rw [show sI L111 h 18 = sI S h 18 from h18]
                    have lk83 : (sI L111 h 18).toInt = (sI S h 18).toInt := by rw [show sI L111 h 18 = sI S h 18 from h18]
                    refine pc_Vi (As := [.int y, .int (sI S h 18)]) (rest := []) F (b_X9_standing l D cy A L111 h y (sI S h 18) hG (hF.k hk (by decide))) (cwV 2 hts gX9_step_X9_standing rfl rfl rfl (by decide +kernel) ⟨Nat.le_of_ble_eq_true rfl, Nat.le_of_ble_eq_true rfl⟩) hK hZ hA hW hS (hF.k hk (by decide)) (by decide) rfl rfl hl.1 rfl (Nat.le_of_ble_eq_true rfl) dX9_step_122 ⟨Nat.le_of_ble_eq_true rfl, Nat.le_of_ble_eq_true rfl⟩ (fun v84 T85 H locs p86 hW hS => ?_)
                    obtain ⟨eT85, p86⟩ := p86
                    rw [eT85] at hW
                    clear eT85
                    refine lv_istore (lv' := [(4, .int v84), (0, .ref h), (1, .int a), (2, .int b), (3, .int y)]) hx hb dX9_step_125 hl (by decide) rfl (fun ls hl => ?_)
                    refine lv_aload_n hx hb dX9_step_127 rfl (lv_at hl 1 rfl) ?_
                    refine lv_iload_n hx hb dX9_step_128 rfl (lv_at hl 4 rfl) ?_
                    refine lv_iload_n hx hb dX9_step_129 rfl (lv_at hl 2 rfl) ?_
                    have lk87 : (sI L111 h 18).toInt = (sI S h 18).toInt := by rw [show sI L111 h 18 = sI S h 18 from h18]
                    refine pc_Si (As := [.int a]) (rest := [.int y, .ref h]) F (b_X9_halfOf l D cy A L111 a ) (va_cwS 1 hts gX9_step_X9_halfOf rfl rfl rfl (by decide +kernel) ⟨Nat.le_of_ble_eq_true rfl, Nat.le_of_ble_eq_true rfl⟩) hK hZ hA hW hS rfl hl.1 rfl (Nat.le_of_ble_eq_true rfl) dX9_step_130 ⟨Nat.le_of_ble_eq_true rfl, Nat.le_of_ble_eq_true rfl⟩ (fun v88 T89 H locs p90 hW hS => ?_)
                    obtain ⟨eT89, p90⟩ := p90
                    rw [eT89] at hW
                    clear eT89
                    have join153 : ∀ (v153 : Int32) (H : Heap) (locs : List Loc), PW D cy A L111 H → va_S A s.heap H locs → W p l e ({ frames := 2, cells := 0, slots := 0, locals := 42 } : Room) s m args below meth c H locs 0 0 (MQ below (va_Qi (fun r S1 => G S1 ∧ Fr [] [918, 919, 920, 921, 922, 1100, 1300] S S1 ∧ (((-20 ≤ a.toInt ∧ a.toInt ≤ 40 ∧ 0 ≤ b.toInt ∧ b.toInt ≤ (sI S h 24).toInt ∧ (sI S h 18).toInt < 990) → r = sI S1 h 18 ∧ (sI S1 h 18).toInt = (sI S h 18).toInt + 1) ∧ (¬ (-20 ≤ a.toInt ∧ a.toInt ≤ 40 ∧ 0 ≤ b.toInt ∧ b.toInt ≤ (sI S h 24).toInt ∧ (sI S h 18).toInt < 990) → r = (-1) ∧ sI S1 h 18 = sI S h 18))) (PU D cy A) A) args s 0 0 A) (F0 m 153 ls [.int v153, .int v88, .int y, .ref h]) := by
                      intro v153 H locs hW hS
                      refine lv_iadd hx hb dX9_step_153 ?_
                      have lk91 : (sI L111 h 18).toInt = (sI S h 18).toInt := by rw [show sI L111 h 18 = sI S h 18 from h18]
                      refine pc_Vv (As := [.int y, .int (v88 + v153)]) (rest := []) F (b_X9_melts l D cy A L111 h y (v88 + v153) hG (hF.k hk (by decide)) (by omega) (by omega)) (cwV 2 hts gX9_step_X9_melts rfl rfl rfl (by decide +kernel) ⟨Nat.le_of_ble_eq_true rfl, Nat.le_of_ble_eq_true rfl⟩) hK hZ hA hW hS (hF.k hk (by decide)) (by decide) rfl rfl hl.1 rfl (Nat.le_of_ble_eq_true rfl) dX9_step_154 ⟨Nat.le_of_ble_eq_true rfl, Nat.le_of_ble_eq_true rfl⟩ (fun T93 H locs p94 hW hS => ?_)
                      obtain ⟨hG, hFc, p94⟩ := p94
                      have w95 : sI T93 h 18 = sI S h 18 := (hFc.i (hF.k hk (by decide)) (by decide) (by decide)).trans h18
                      have hF : Fr [] [918, 919, 920, 921, 922, 1100, 1300] S T93 := hF.tr (hFc.mono (by decide))
                      have hE75 : Fr [] [918, 919, 920, 921, 922, 1100, 1300] S73 T93 := hE75.tr (hFc.mono (by decide))
                      refine lv_iload hx hb dX9_step_157 (lv_at hl 0 rfl) ?_
                      refine lv_iconst (v := (-1)) hx hb dX9_step_159 (by decide) ?_
                      refine lv_icmp_eq (tgt := 173) hx hb dX9_step_160 (by decide) (fun c96 => ?_) (fun c96 => ?_)
                      · have c96i : Int32.toInt v84 = (-1 : Int) := (i3_eq _ _).mp c96
                        refine lv_aload_n hx hb dX9_step_173 rfl (lv_at hl 1 rfl) ?_
                        obtain ⟨b97, rb97, kb97, nb97⟩ := hG0.r hk List.not_mem_nil 34 (show rty 9 34 = some (13, 2) from rfl)
                        refine pg_gr (b := b97) (ci := 9) (C := RX9) (T := TX9) (N := 63) hx hb hts wi9 hown hK hW (hF.k hk (by decide)) (by decide) rfl 34 (by decide) (hts (.fieldLink RX9 69 "IceHallModel" "hasCut" "[Z") (by decide +kernel)) (fun _ h9 => h9) rfl (hF.r hk (by decide) rb97) dX9_step_174 ?_
                        refine lv_iload_n hx hb dX9_step_177 rfl (lv_at hl 4 rfl) ?_
                        refine pg_zald hx hb hK hW (hF.k kb97 (by decide)) (by rw [show sL T93 b97 = 2 from (hF.n kb97 (by decide) nb97)]; exact r_in (by omega)) dX9_step_178 ?_
                        refine lv_if_eq (tgt := 199) hx hb dX9_step_179 (by decide) (fun c98 => ?_) (fun c98 => ?_)
                        · have c98i : Int32.toInt (sI T93 b97 (Int32.toNatClampNeg y)) = (0 : Int) := (i3_eq _ _).mp c98
                          refine lv_iinc (v := y + 1) (lv' := [(3, .int (y + 1)), (4, .int v84), (0, .ref h), (1, .int a), (2, .int b)]) hx hb dX9_step_199 hl (k := 4) rfl rfl (by decide) rfl (fun ls hl => ?_)
                          have i99 : (y + 1).toInt = (y).toInt + 1 := i3_add rfl rfl (by omega) (by omega)
                          refine lv_goto (tgt := 111) hx hb dX9_step_202 (by decide) ?_
                          have lk100 : (sI T93 h 18).toInt = (sI S h 18).toInt := by rw [show sI T93 h 18 = sI S h 18 from w95]
                          exact ih111 (y + 1) T93 _ _ ls hG hE75 (by omega) (w95) (by omega) hW hS (lv_cast (lv_sub hl [2, 3, 4, 0] rfl) (rfl))
                        · have c98i : ¬ (Int32.toInt (sI T93 b97 (Int32.toNatClampNeg y)) = (0 : Int)) := fun h9 => c98 ((i3_eq _ _).mpr h9)
                          refine lv_aload_n hx hb dX9_step_182 rfl (lv_at hl 1 rfl) ?_
                          refine lv_iload_n hx hb dX9_step_183 rfl (lv_at hl 4 rfl) ?_
                          refine lv_aload_n hx hb dX9_step_184 rfl (lv_at hl 1 rfl) ?_
                          refine pg_gi (ci := 9) (C := RX9) (T := TX9) (N := 63) hx hb hts wi9 hown hK hW (hF.k hk (by decide)) (by decide) rfl 18 (by decide) (hts (.fieldLink RX9 219 "IceHallModel" "now" "I") (by decide +kernel)) (fun _ h9 => h9) rfl dX9_step_185 ?_
                          rw [show sI T93 h 18 = sI S h 18 from w95]
                          have lk101 : (sI T93 h 18).toInt = (sI S h 18).toInt := by rw [show sI T93 h 18 = sI S h 18 from w95]
                          refine pc_Vi (As := [.int y, .int (sI S h 18)]) (rest := []) F (b_X9_isClosed l D cy A T93 h y (sI S h 18) hG (hF.k hk (by decide))) (cwV 2 hts gX9_step_X9_isClosed rfl rfl rfl (by decide +kernel) ⟨Nat.le_of_ble_eq_true rfl, Nat.le_of_ble_eq_true rfl⟩) hK hZ hA hW hS (hF.k hk (by decide)) (by decide) rfl rfl hl.1 rfl (Nat.le_of_ble_eq_true rfl) dX9_step_188 ⟨Nat.le_of_ble_eq_true rfl, Nat.le_of_ble_eq_true rfl⟩ (fun v102 T103 H locs p104 hW hS => ?_)
                          obtain ⟨eT103, p104⟩ := p104
                          rw [eT103] at hW
                          clear eT103
                          refine lv_if_ne (tgt := 199) hx hb dX9_step_191 (by decide) (fun c105 => ?_) (fun c105 => ?_)
                          · have c105i : ¬ (Int32.toInt v102 = (0 : Int)) := fun h9 => c105 ((i3_eq _ _).mpr h9)
                            refine lv_iinc (v := y + 1) (lv' := [(3, .int (y + 1)), (4, .int v84), (0, .ref h), (1, .int a), (2, .int b)]) hx hb dX9_step_199 hl (k := 4) rfl rfl (by decide) rfl (fun ls hl => ?_)
                            have i106 : (y + 1).toInt = (y).toInt + 1 := i3_add rfl rfl (by omega) (by omega)
                            refine lv_goto (tgt := 111) hx hb dX9_step_202 (by decide) ?_
                            have lk107 : (sI T93 h 18).toInt = (sI S h 18).toInt := by rw [show sI T93 h 18 = sI S h 18 from w95]
                            exact ih111 (y + 1) T93 _ _ ls hG hE75 (by omega) (w95) (by omega) hW hS (lv_cast (lv_sub hl [2, 3, 4, 0] rfl) (rfl))
                          · have c105i : Int32.toInt v102 = (0 : Int) := (i3_eq _ _).mp c105
                            refine lv_aload_n hx hb dX9_step_194 rfl (lv_at hl 1 rfl) ?_
                            refine lv_iload_n hx hb dX9_step_195 rfl (lv_at hl 4 rfl) ?_
                            have lk108 : (sI T93 h 18).toInt = (sI S h 18).toInt := by rw [show sI T93 h 18 = sI S h 18 from w95]
                            refine pc_Vv (As := [.int y]) (rest := []) F (b_X9_cuts l D cy A T93 h y hG (hF.k hk (by decide)) (by omega) (by omega)) (cwV 1 hts gX9_step_X9_cuts rfl rfl rfl (by decide +kernel) ⟨Nat.le_of_ble_eq_true rfl, Nat.le_of_ble_eq_true rfl⟩) hK hZ hA hW hS (hF.k hk (by decide)) (by decide) rfl rfl hl.1 rfl (Nat.le_of_ble_eq_true rfl) dX9_step_196 ⟨Nat.le_of_ble_eq_true rfl, Nat.le_of_ble_eq_true rfl⟩ (fun T110 H locs p111 hW hS => ?_)
                            obtain ⟨hG, hFc, p111⟩ := p111
                            have w112 : sI T110 h 18 = sI S h 18 := (hFc.i (hF.k hk (by decide)) (by decide) (by decide)).trans w95
                            have hF : Fr [] [918, 919, 920, 921, 922, 1100, 1300] S T110 := hF.tr (hFc.mono (by decide))
                            have hE75 : Fr [] [918, 919, 920, 921, 922, 1100, 1300] S73 T110 := hE75.tr (hFc.mono (by decide))
                            refine lv_iinc (v := y + 1) (lv' := [(3, .int (y + 1)), (4, .int v84), (0, .ref h), (1, .int a), (2, .int b)]) hx hb dX9_step_199 hl (k := 4) rfl rfl (by decide) rfl (fun ls hl => ?_)
                            have i113 : (y + 1).toInt = (y).toInt + 1 := i3_add rfl rfl (by omega) (by omega)
                            refine lv_goto (tgt := 111) hx hb dX9_step_202 (by decide) ?_
                            have lk114 : (sI T110 h 18).toInt = (sI S h 18).toInt := by rw [show sI T110 h 18 = sI S h 18 from w112]
                            exact ih111 (y + 1) T110 _ _ ls hG hE75 (by omega) (w112) (by omega) hW hS (lv_cast (lv_sub hl [2, 3, 4, 0] rfl) (rfl))
                      · have c96i : ¬ (Int32.toInt v84 = (-1 : Int)) := fun h9 => c96 ((i3_eq _ _).mpr h9)
                        refine lv_aload_n hx hb dX9_step_163 rfl (lv_at hl 1 rfl) ?_
                        refine lv_iload_n hx hb dX9_step_164 rfl (lv_at hl 4 rfl) ?_
                        refine lv_iload hx hb dX9_step_165 (lv_at hl 0 rfl) ?_
                        have lk115 : (sI T93 h 18).toInt = (sI S h 18).toInt := by rw [show sI T93 h 18 = sI S h 18 from w95]
                        refine pc_Vv (As := [.int y, .int v84]) (rest := []) F (b_X9_holds l D cy A T93 h y v84 hG (hF.k hk (by decide)) (by omega) (by omega) (by omega) (by omega)) (cwV 2 hts gX9_step_X9_holds rfl rfl rfl (by decide +kernel) ⟨Nat.le_of_ble_eq_true rfl, Nat.le_of_ble_eq_true rfl⟩) hK hZ hA hW hS (hF.k hk (by decide)) (by decide) rfl rfl hl.1 rfl (Nat.le_of_ble_eq_true rfl) dX9_step_167 ⟨Nat.le_of_ble_eq_true rfl, Nat.le_of_ble_eq_true rfl⟩ (fun T117 H locs p118 hW hS => ?_)
                        obtain ⟨hG, hFc, p118⟩ := p118
                        have w119 : sI T117 h 18 = sI S h 18 := (hFc.i (hF.k hk (by decide)) (by decide) (by decide)).trans w95
                        have hF : Fr [] [918, 919, 920, 921, 922, 1100, 1300] S T117 := hF.tr (hFc.mono (by decide))
                        have hE75 : Fr [] [918, 919, 920, 921, 922, 1100, 1300] S73 T117 := hE75.tr (hFc.mono (by decide))
                        refine lv_goto (tgt := 199) hx hb dX9_step_170 (by decide) ?_
                        refine lv_iinc (v := y + 1) (lv' := [(3, .int (y + 1)), (4, .int v84), (0, .ref h), (1, .int a), (2, .int b)]) hx hb dX9_step_199 hl (k := 4) rfl rfl (by decide) rfl (fun ls hl => ?_)
                        have i120 : (y + 1).toInt = (y).toInt + 1 := i3_add rfl rfl (by omega) (by omega)
                        refine lv_goto (tgt := 111) hx hb dX9_step_202 (by decide) ?_
                        have lk121 : (sI T117 h 18).toInt = (sI S h 18).toInt := by rw [show sI T117 h 18 = sI S h 18 from w119]
                        exact ih111 (y + 1) T117 _ _ ls hG hE75 (by omega) (w119) (by omega) hW hS (lv_cast (lv_sub hl [2, 3, 4, 0] rfl) (rfl))
                    refine lv_iload hx hb dX9_step_133 (lv_at hl 0 rfl) ?_
                    refine lv_iconst (v := (-1)) hx hb dX9_step_135 (by decide) ?_
                    refine lv_icmp_ne (tgt := 143) hx hb dX9_step_136 (by decide) (fun c122 => ?_) (fun c122 => ?_)
                    · have c122i : ¬ (Int32.toInt v84 = (-1 : Int)) := fun h9 => c122 ((i3_eq _ _).mpr h9)
                      refine lv_aload_n hx hb dX9_step_143 rfl (lv_at hl 1 rfl) ?_
                      obtain ⟨b123, rb123, kb123, nb123⟩ := hG0.r hk List.not_mem_nil 38 (show rty 9 38 = some (11, 200) from rfl)
                      refine pg_gr (b := b123) (ci := 9) (C := RX9) (T := TX9) (N := 63) hx hb hts wi9 hown hK hW (hF.k hk (by decide)) (by decide) rfl 38 (by decide) (hts (.fieldLink RX9 76 "IceHallModel" "kindOf" "[I") (by decide +kernel)) (fun _ h9 => h9) rfl (hF.r hk (by decide) rb123) dX9_step_144 ?_
                      refine lv_iload hx hb dX9_step_147 (lv_at hl 0 rfl) ?_
                      refine pg_iald hx hb hK hW (hF.k kb123 (by decide)) (by decide) (by rw [show sL L111 b123 = 200 from (hF.n kb123 (by decide) nb123)]; exact r_in (by omega)) dX9_step_149 ?_
                      have lk124 : (sI L111 h 18).toInt = (sI S h 18).toInt := by rw [show sI L111 h 18 = sI S h 18 from h18]
                      refine pc_Si (As := [.int (sI L111 b123 (Int32.toNatClampNeg v84))]) (rest := [.int v88, .int y, .ref h]) F (b_X9_heatOf l D cy A L111 (sI L111 b123 (Int32.toNatClampNeg v84)) ) (va_cwS 1 hts gX9_step_X9_heatOf rfl rfl rfl (by decide +kernel) ⟨Nat.le_of_ble_eq_true rfl, Nat.le_of_ble_eq_true rfl⟩) hK hZ hA hW hS rfl hl.1 rfl (Nat.le_of_ble_eq_true rfl) dX9_step_150 ⟨Nat.le_of_ble_eq_true rfl, Nat.le_of_ble_eq_true rfl⟩ (fun v125 T126 H locs p127 hW hS => ?_)
                      obtain ⟨eT126, p127⟩ := p127
                      rw [eT126] at hW
                      clear eT126
                      exact join153 v125 _ _  hW hS
                    · have c122i : Int32.toInt v84 = (-1 : Int) := (i3_eq _ _).mp c122
                      refine lv_iconst (v := 0) hx hb dX9_step_139 (by decide) ?_
                      refine lv_goto (tgt := 153) hx hb dX9_step_140 (by decide) ?_
                      exact join153 0 _ _  hW hS
              have lk128 : (sI S73 h 18).toInt = (sI S h 18).toInt := by rw [show sI S73 h 18 = sI S h 18 from w74]
              exact loop111 _ 0 S73 _ _ ls hG hE75 (by decide) (w74) (Nat.lt_succ_self _) hW hS (lv_cast (lv_sub hl [1, 2, 3, 0] rfl) (rfl))
          · have c7i : Int32.toInt (sI S h 18) = (990 : Int) := (i3_eq _ _).mp c7
            refine lv_iconst (v := (-1)) hx hb dX9_step_34 (by decide) ?_
            exact pc_iret (v := (-1)) (S := S) hx hb hr hlk hK hZ hA hW hS (⟨hG, hF, ⟨fun h9 => absurd h9 (by omega), fun _ => ⟨rfl, rfl⟩⟩⟩) dX9_step_35
set_option maxHeartbeats 4000000 in
set_option maxRecDepth 100000 in
theorem b_X9_planned (l : Launch) (D : va_G) (cy : Nat → ClassId) (A : Nat → Prop) (S : St) (h : Nat) (a : Int32) (hG0 : G S) (hk : sK S h = 9) : MI l yX9_planned wsX9_planned ({ frames := 0, cells := 0, slots := 0, locals := 0 } : Room) 0 0 D cy A [.ref h, .int a] S (fun r S1 => S1 = S ∧ True) := by
  refine mt_start (cc := cX9_planned) (maxL := 2) (ret := (some .int)) (by decide) rfl (Nat.le_of_ble_eq_true rfl) ?_
  intro p e s m args below meth c hx hb hr hlk hml hown hnm hts hK hZ hA hW hS ls hl
  have hl : lv_has ls 2 [(0, .ref h), (1, .int a)] := hl
  have hown : s.vm.findClass RX9 = some m.cls := hown
  have F : CallFix p m c cX9_planned 2 s args wsX9_planned RX9 := ⟨hx, hb, hml, hown, hts⟩
  have wi9 : ∀ w ∈ u_ws RX9 TX9 63, w ∈ wsX9_planned := by decide +kernel
  have hG := hG0
  refine lv_iload_n hx hb dX9_planned_0 rfl (lv_at hl 1 rfl) ?_
  refine lv_if_lt (tgt := 21) hx hb dX9_planned_1 (by decide) (fun c1 => ?_) (fun c1 => ?_)
  · have c1i : Int32.toInt a < (0 : Int) := (i3_lt _ _).mp c1
    refine lv_iconst (v := (-1)) hx hb dX9_planned_21 (by decide) ?_
    exact pc_iret (v := (-1)) (S := S) hx hb hr hlk hK hZ hA hW hS (⟨rfl, trivial⟩) dX9_planned_22
  · have c1i : ¬ (Int32.toInt a < (0 : Int)) := fun h9 => c1 ((i3_lt _ _).mpr h9)
    refine lv_iload_n hx hb dX9_planned_4 rfl (lv_at hl 1 rfl) ?_
    refine lv_aload_n hx hb dX9_planned_5 rfl (lv_at hl 0 rfl) ?_
    refine pg_gi (ci := 9) (C := RX9) (T := TX9) (N := 63) hx hb hts wi9 hown hK hW hk (by decide) rfl 60 (by decide) (hts (.fieldLink RX9 284 "IceHallModel" "toldMany" "I") (by decide +kernel)) (fun _ h9 => h9) rfl dX9_planned_6 ?_
    have g2 : (0 : Int) ≤ (sI S h 60).toInt ∧ (sI S h 60).toInt ≤ 8 := hG.i hk (by decide) 60 (by decide)
    refine lv_icmp_ge (tgt := 21) hx hb dX9_planned_9 (by decide) (fun c3 => ?_) (fun c3 => ?_)
    · have c3i : Int32.toInt (sI S h 60) ≤ Int32.toInt a := (i3_le _ _).mp c3
      refine lv_iconst (v := (-1)) hx hb dX9_planned_21 (by decide) ?_
      exact pc_iret (v := (-1)) (S := S) hx hb hr hlk hK hZ hA hW hS (⟨rfl, trivial⟩) dX9_planned_22
    · have c3i : ¬ (Int32.toInt (sI S h 60) ≤ Int32.toInt a) := fun h9 => c3 ((i3_le _ _).mpr h9)
      refine lv_aload_n hx hb dX9_planned_12 rfl (lv_at hl 0 rfl) ?_
      obtain ⟨b4, rb4, kb4, nb4⟩ := hG0.r hk List.not_mem_nil 59 (show rty 9 59 = some (11, 8) from rfl)
      refine pg_gr (b := b4) (ci := 9) (C := RX9) (T := TX9) (N := 63) hx hb hts wi9 hown hK hW hk (by decide) rfl 59 (by decide) (hts (.fieldLink RX9 130 "IceHallModel" "told" "[I") (by decide +kernel)) (fun _ h9 => h9) rfl rb4 dX9_planned_13 ?_
      refine lv_iload_n hx hb dX9_planned_16 rfl (lv_at hl 1 rfl) ?_
      refine pg_iald hx hb hK hW kb4 (by decide) (by rw [show sL S b4 = 8 from nb4]; exact r_in (by omega)) dX9_planned_17 ?_
      refine lv_goto (tgt := 22) hx hb dX9_planned_18 (by decide) ?_
      exact pc_iret (v := sI S b4 (Int32.toNatClampNeg a)) (S := S) hx hb hr hlk hK hZ hA hW hS (⟨rfl, trivial⟩) dX9_planned_22
