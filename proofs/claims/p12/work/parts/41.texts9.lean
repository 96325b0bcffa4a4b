set_option maxHeartbeats 4000000 in
set_option maxRecDepth 100000 in
theorem b_X9_reads (l : Launch) (D : va_G) (cy : Nat → ClassId) (A : Nat → Prop) (S : St) (h : Nat) (a b : Int32) (hG0 : G S) (hk : sK S h = 9) (hp : (sI S h 2).toInt ≤ (sI S h 3).toInt) : MI l yX9_reads wsX9_reads ({ frames := 2, cells := 0, slots := 0, locals := 40 } : Room) 0 0 D cy A [.ref h, .int a, .int b] S (fun r S1 => G S1 ∧ Fr [] [902, 904, 917] S S1 ∧ ((sI S1 h 2).toInt ≤ (sI S h 3).toInt ∧ (sI S h 2).toInt ≤ (sI S1 h 2).toInt)) := by
  refine mt_start (cc := cX9_reads) (maxL := 4) (ret := (some .boolean)) (by decide) rfl (Nat.le_of_ble_eq_true rfl) ?_
  intro p e s m args below meth c hx hb hr hlk hml hown hnm hts hK hZ hA hW hS ls hl
  have hl : lv_has ls 4 [(0, .ref h), (1, .int a), (2, .int b)] := hl
  have hown : s.vm.findClass RX9 = some m.cls := hown
  have F : CallFix p m c cX9_reads 4 s args wsX9_reads RX9 := ⟨hx, hb, hml, hown, hts⟩
  have wi9 : ∀ w ∈ u_ws RX9 TX9 63, w ∈ wsX9_reads := by decide +kernel
  have hG := hG0
  have hF : Fr [] [902, 904, 917] S S := Fr.rf _ _ _
  have g1 : (0 : Int) ≤ (sI S h 2).toInt ∧ (sI S h 2).toInt ≤ 100 := hG0.i hk (by decide) 2 (by decide)
  have g2 : (0 : Int) ≤ (sI S h 3).toInt ∧ (sI S h 3).toInt ≤ 80 := hG0.i hk (by decide) 3 (by decide)
  refine lv_aload_n hx hb dX9_reads_0 rfl (lv_at hl 0 rfl) ?_
  refine pg_gi (ci := 9) (C := RX9) (T := TX9) (N := 63) hx hb hts wi9 hown hK hW hk (by decide) rfl 2 (by decide) (hts (.fieldLink RX9 148 "IceHallModel" "place" "I") (by decide +kernel)) (fun _ h9 => h9) rfl dX9_reads_1 ?_
  rw [show sI S h 2 = sI S h 2 from rfl]
  refine lv_istore_n (lv' := [(3, .int (sI S h 2)), (0, .ref h), (1, .int a), (2, .int b)]) hx hb dX9_reads_4 rfl hl (by decide) rfl (fun ls hl => ?_)
  refine lv_aload_n hx hb dX9_reads_5 rfl (lv_at hl 1 rfl) ?_
  refine lv_iconst (v := 0) hx hb dX9_reads_6 (by decide) ?_
  refine pg_pi (ci := 9) (C := RX9) (T := TX9) (N := 63) hx hb hts wi9 tyX9 tyX9_ok nmX9 hown hK hW hS hk (by decide) rfl 17 (by decide) (hts (.fieldLink RX9 161 "IceHallModel" "number" "I") (by decide +kernel)) (fun _ h9 => h9) rfl rfl rfl dX9_reads_7 (fun H locs hW hS => ?_)
  obtain ⟨S3, eS3⟩ : ∃ T : St, T = stI S h 17 0 := ⟨_, rfl⟩
  rw [← eS3] at hW
  have hG : G S3 := by rw [eS3]; exact hG.I hk (ok_fr (by decide))
  have w4 : sI S3 h 2 = sI S h 2 := by rw [eS3]; exact (iI_k (by decide)).trans rfl
  have hF : Fr [] [902, 904, 917] S S3 := by rw [eS3]; exact hF.I hk (by decide)
  clear eS3
  have hE5 : Fr [] [902, 904, 917] S3 S3 := Fr.rf _ _ _
  have loop10 : ∀ (zn : Nat)  (L10 : St) (H : Heap) (locs : List Loc) (ls : Array Slot), (G L10) → (Fr [] [902, 904, 917] S3 L10) → ((sI S h 2).toInt ≤ (sI L10 h 2).toInt ∧ (sI L10 h 2).toInt ≤ (sI S h 3).toInt) → (100 - (sI L10 h 2).toInt).toNat < zn → PW D cy A L10 H → va_S A s.heap H locs → lv_has ls 4 [(0, .ref h), (1, .int a), (2, .int b), (3, .int (sI S h 2))] → W p l e ({ frames := 2, cells := 0, slots := 0, locals := 40 } : Room) s m args below meth c H locs 0 0 (MQ below (va_Qi (fun r S1 => G S1 ∧ Fr [] [902, 904, 917] S S1 ∧ ((sI S1 h 2).toInt ≤ (sI S h 3).toInt ∧ (sI S h 2).toInt ≤ (sI S1 h 2).toInt)) (PU D cy A) A) args s 0 0 A) (F0 m 10 ls []) := by
    intro zn
    induction zn with
    | zero => intros; exact absurd (by assumption) (Nat.not_lt_zero _)
    | succ zn ih10 =>
      intro  L10 H locs ls hG hL10 hpl hme10 hW hS hl
      have hF : Fr [] [902, 904, 917] S L10 := hF.tr hL10
      have hE5 := hL10
      have g6 : (0 : Int) ≤ (sI L10 h 2).toInt ∧ (sI L10 h 2).toInt ≤ 100 := hG.i (hF.k hk (by decide)) (by decide) 2 (by decide)
      have lk7 : (sI L10 h 3).toInt = (sI S h 3).toInt := by rw [hF.i hk (by decide) (by decide)]
      refine lv_aload_n hx hb dX9_reads_10 rfl (lv_at hl 0 rfl) ?_
      have lk8 : (sI L10 h 3).toInt = (sI S h 3).toInt := by rw [hF.i hk (by decide) (by decide)]
      refine pc_Vi (As := []) (rest := []) F (b_X9_isDigit l D cy A L10 h hG (hF.k hk (by decide))) (cwV 0 hts gX9_reads_X9_isDigit rfl rfl rfl (by decide +kernel) ⟨Nat.le_of_ble_eq_true rfl, Nat.le_of_ble_eq_true rfl⟩) hK hZ hA hW hS (hF.k hk (by decide)) (by decide) rfl rfl hl.1 rfl (Nat.le_of_ble_eq_true rfl) dX9_reads_11 ⟨Nat.le_of_ble_eq_true rfl, Nat.le_of_ble_eq_true rfl⟩ (fun v9 T10 H locs p11 hW hS => ?_)
      obtain ⟨eT10, p11⟩ := p11
      rw [eT10] at hW
      clear eT10
      refine lv_if_eq (tgt := 69) hx hb dX9_reads_14 (by decide) (fun c12 => ?_) (fun c12 => ?_)
      · have c12i : Int32.toInt v9 = (0 : Int) := (i3_eq _ _).mp c12
        refine lv_aload_n hx hb dX9_reads_69 rfl (lv_at hl 0 rfl) ?_
        refine pg_gi (ci := 9) (C := RX9) (T := TX9) (N := 63) hx hb hts wi9 hown hK hW (hF.k hk (by decide)) (by decide) rfl 2 (by decide) (hts (.fieldLink RX9 148 "IceHallModel" "place" "I") (by decide +kernel)) (fun _ h9 => h9) rfl dX9_reads_70 ?_
        rw [show sI L10 h 2 = sI L10 h 2 from rfl]
        refine lv_iload_n hx hb dX9_reads_73 rfl (lv_at hl 3 rfl) ?_
        refine lv_icmp_ne (tgt := 87) hx hb dX9_reads_74 (by decide) (fun c13 => ?_) (fun c13 => ?_)
        · have c13i : ¬ (Int32.toInt (sI L10 h 2) = Int32.toInt (sI S h 2)) := fun h9 => c13 ((i3_eq _ _).mpr h9)
          refine lv_aload_n hx hb dX9_reads_87 rfl (lv_at hl 0 rfl) ?_
          refine pg_gi (ci := 9) (C := RX9) (T := TX9) (N := 63) hx hb hts wi9 hown hK hW (hF.k hk (by decide)) (by decide) rfl 17 (by decide) (hts (.fieldLink RX9 161 "IceHallModel" "number" "I") (by decide +kernel)) (fun _ h9 => h9) rfl dX9_reads_88 ?_
          refine lv_iload_n hx hb dX9_reads_91 rfl (lv_at hl 1 rfl) ?_
          refine lv_icmp_lt (tgt := 103) hx hb dX9_reads_92 (by decide) (fun c14 => ?_) (fun c14 => ?_)
          · have c14i : Int32.toInt (sI L10 h 17) < Int32.toInt a := (i3_lt _ _).mp c14
            refine lv_aload_n hx hb dX9_reads_103 rfl (lv_at hl 0 rfl) ?_
            refine lv_iconst (v := 2) hx hb dX9_reads_104 (by decide) ?_
            refine lv_iload_n hx hb dX9_reads_105 rfl (lv_at hl 3 rfl) ?_
            have lk15 : (sI L10 h 3).toInt = (sI S h 3).toInt := by rw [hF.i hk (by decide) (by decide)]
            refine pc_Vi (As := [.int 2, .int (sI S h 2)]) (rest := []) F (b_X9_wrong l D cy A L10 h 2 (sI S h 2) hG (hF.k hk (by decide))) (cwV 2 hts gX9_reads_X9_wrong rfl rfl rfl (by decide +kernel) ⟨Nat.le_of_ble_eq_true rfl, Nat.le_of_ble_eq_true rfl⟩) hK hZ hA hW hS (hF.k hk (by decide)) (by decide) rfl rfl hl.1 rfl (Nat.le_of_ble_eq_true rfl) dX9_reads_106 ⟨Nat.le_of_ble_eq_true rfl, Nat.le_of_ble_eq_true rfl⟩ (fun v16 T17 H locs p18 hW hS => ?_)
            obtain ⟨hG, hFc, p18⟩ := p18
            have w19 : sI T17 h 2 = sI L10 h 2 := (hFc.i (hF.k hk (by decide)) (by decide) (by decide)).trans rfl
            have hF : Fr [] [902, 904, 917] S T17 := hF.tr (hFc.mono (by decide))
            have hE5 : Fr [] [902, 904, 917] S3 T17 := hE5.tr (hFc.mono (by decide))
            rw [show v16 = 0 from p18]
            refine lv_if_eq (tgt := 116) hx hb dX9_reads_109 (by decide) (fun c20 => ?_) (fun c20 => absurd (by decide) c20)
            refine lv_iconst (v := 0) hx hb dX9_reads_116 (by decide) ?_
            have lk21 : (sI T17 h 2).toInt = (sI L10 h 2).toInt := by rw [show sI T17 h 2 = sI L10 h 2 from w19]
            have lk22 : (sI T17 h 3).toInt = (sI S h 3).toInt := by rw [hF.i hk (by decide) (by decide)]
            exact pc_zret (v := 0) (S := T17) hx hb hr hlk hK hZ hA hW hS (by decide) (⟨hG, hF, by omega⟩) dX9_reads_117
          · have c14i : ¬ (Int32.toInt (sI L10 h 17) < Int32.toInt a) := fun h9 => c14 ((i3_lt _ _).mpr h9)
            refine lv_aload_n hx hb dX9_reads_95 rfl (lv_at hl 0 rfl) ?_
            refine pg_gi (ci := 9) (C := RX9) (T := TX9) (N := 63) hx hb hts wi9 hown hK hW (hF.k hk (by decide)) (by decide) rfl 17 (by decide) (hts (.fieldLink RX9 161 "IceHallModel" "number" "I") (by decide +kernel)) (fun _ h9 => h9) rfl dX9_reads_96 ?_
            refine lv_iload_n hx hb dX9_reads_99 rfl (lv_at hl 2 rfl) ?_
            refine lv_icmp_le (tgt := 112) hx hb dX9_reads_100 (by decide) (fun c23 => ?_) (fun c23 => ?_)
            · have c23i : Int32.toInt (sI L10 h 17) ≤ Int32.toInt b := (i3_le _ _).mp c23
              refine lv_iconst (v := 1) hx hb dX9_reads_112 (by decide) ?_
              refine lv_goto (tgt := 117) hx hb dX9_reads_113 (by decide) ?_
              have lk24 : (sI L10 h 3).toInt = (sI S h 3).toInt := by rw [hF.i hk (by decide) (by decide)]
              exact pc_zret (v := 1) (S := L10) hx hb hr hlk hK hZ hA hW hS (by decide) (⟨hG, hF, by omega⟩) dX9_reads_117
            · have c23i : ¬ (Int32.toInt (sI L10 h 17) ≤ Int32.toInt b) := fun h9 => c23 ((i3_le _ _).mpr h9)
              refine lv_aload_n hx hb dX9_reads_103 rfl (lv_at hl 0 rfl) ?_
              refine lv_iconst (v := 2) hx hb dX9_reads_104 (by decide) ?_
              refine lv_iload_n hx hb dX9_reads_105 rfl (lv_at hl 3 rfl) ?_
              have lk25 : (sI L10 h 3).toInt = (sI S h 3).toInt := by rw [hF.i hk (by decide) (by decide)]
              refine pc_Vi (As := [.int 2, .int (sI S h 2)]) (rest := []) F (b_X9_wrong l D cy A L10 h 2 (sI S h 2) hG (hF.k hk (by decide))) (cwV 2 hts gX9_reads_X9_wrong rfl rfl rfl (by decide +kernel) ⟨Nat.le_of_ble_eq_true rfl, Nat.le_of_ble_eq_true rfl⟩) hK hZ hA hW hS (hF.k hk (by decide)) (by decide) rfl rfl hl.1 rfl (Nat.le_of_ble_eq_true rfl) dX9_reads_106 ⟨Nat.le_of_ble_eq_true rfl, Nat.le_of_ble_eq_true rfl⟩ (fun v26 T27 H locs p28 hW hS => ?_)
              obtain ⟨hG, hFc, p28⟩ := p28
              have w29 : sI T27 h 2 = sI L10 h 2 := (hFc.i (hF.k hk (by decide)) (by decide) (by decide)).trans rfl
              have hF : Fr [] [902, 904, 917] S T27 := hF.tr (hFc.mono (by decide))
              have hE5 : Fr [] [902, 904, 917] S3 T27 := hE5.tr (hFc.mono (by decide))
              rw [show v26 = 0 from p28]
              refine lv_if_eq (tgt := 116) hx hb dX9_reads_109 (by decide) (fun c30 => ?_) (fun c30 => absurd (by decide) c30)
              refine lv_iconst (v := 0) hx hb dX9_reads_116 (by decide) ?_
              have lk31 : (sI T27 h 2).toInt = (sI L10 h 2).toInt := by rw [show sI T27 h 2 = sI L10 h 2 from w29]
              have lk32 : (sI T27 h 3).toInt = (sI S h 3).toInt := by rw [hF.i hk (by decide) (by decide)]
              exact pc_zret (v := 0) (S := T27) hx hb hr hlk hK hZ hA hW hS (by decide) (⟨hG, hF, by omega⟩) dX9_reads_117
        · have c13i : Int32.toInt (sI L10 h 2) = Int32.toInt (sI S h 2) := (i3_eq _ _).mp c13
          refine lv_aload_n hx hb dX9_reads_77 rfl (lv_at hl 0 rfl) ?_
          refine lv_iconst (v := 1) hx hb dX9_reads_78 (by decide) ?_
          refine lv_aload_n hx hb dX9_reads_79 rfl (lv_at hl 0 rfl) ?_
          refine pg_gi (ci := 9) (C := RX9) (T := TX9) (N := 63) hx hb hts wi9 hown hK hW (hF.k hk (by decide)) (by decide) rfl 2 (by decide) (hts (.fieldLink RX9 148 "IceHallModel" "place" "I") (by decide +kernel)) (fun _ h9 => h9) rfl dX9_reads_80 ?_
          rw [show sI L10 h 2 = sI L10 h 2 from rfl]
          have lk33 : (sI L10 h 3).toInt = (sI S h 3).toInt := by rw [hF.i hk (by decide) (by decide)]
          refine pc_Vi (As := [.int 1, .int (sI L10 h 2)]) (rest := []) F (b_X9_wrong l D cy A L10 h 1 (sI L10 h 2) hG (hF.k hk (by decide))) (cwV 2 hts gX9_reads_X9_wrong rfl rfl rfl (by decide +kernel) ⟨Nat.le_of_ble_eq_true rfl, Nat.le_of_ble_eq_true rfl⟩) hK hZ hA hW hS (hF.k hk (by decide)) (by decide) rfl rfl hl.1 rfl (Nat.le_of_ble_eq_true rfl) dX9_reads_83 ⟨Nat.le_of_ble_eq_true rfl, Nat.le_of_ble_eq_true rfl⟩ (fun v34 T35 H locs p36 hW hS => ?_)
          obtain ⟨hG, hFc, p36⟩ := p36
          have w37 : sI T35 h 2 = sI L10 h 2 := (hFc.i (hF.k hk (by decide)) (by decide) (by decide)).trans rfl
          have hF : Fr [] [902, 904, 917] S T35 := hF.tr (hFc.mono (by decide))
          have hE5 : Fr [] [902, 904, 917] S3 T35 := hE5.tr (hFc.mono (by decide))
          rw [show v34 = 0 from p36]
          have lk38 : (sI T35 h 2).toInt = (sI L10 h 2).toInt := by rw [show sI T35 h 2 = sI L10 h 2 from w37]
          have lk39 : (sI T35 h 3).toInt = (sI S h 3).toInt := by rw [hF.i hk (by decide) (by decide)]
          exact pc_zret (v := 0) (S := T35) hx hb hr hlk hK hZ hA hW hS (by decide) (⟨hG, hF, by omega⟩) dX9_reads_86
      · have c12i : ¬ (Int32.toInt v9 = (0 : Int)) := fun h9 => c12 ((i3_eq _ _).mpr h9)
        refine lv_aload_n hx hb dX9_reads_17 rfl (lv_at hl 0 rfl) ?_
        refine pg_gi (ci := 9) (C := RX9) (T := TX9) (N := 63) hx hb hts wi9 hown hK hW (hF.k hk (by decide)) (by decide) rfl 2 (by decide) (hts (.fieldLink RX9 148 "IceHallModel" "place" "I") (by decide +kernel)) (fun _ h9 => h9) rfl dX9_reads_18 ?_
        rw [show sI L10 h 2 = sI L10 h 2 from rfl]
        refine lv_iload_n hx hb dX9_reads_21 rfl (lv_at hl 3 rfl) ?_
        refine lv_iconst (v := 4) hx hb dX9_reads_22 (by decide) ?_
        refine lv_iadd hx hb dX9_reads_23 ?_
        refine lv_icmp_ne (tgt := 37) hx hb dX9_reads_24 (by decide) (fun c40 => ?_) (fun c40 => ?_)
        · have c40i : ¬ (Int32.toInt (sI L10 h 2) = Int32.toInt ((sI S h 2) + 4)) := fun h9 => c40 ((i3_eq _ _).mpr h9)
          refine lv_aload_n hx hb dX9_reads_37 rfl (lv_at hl 0 rfl) ?_
          refine lv_bipush (v := 10) hx hb dX9_reads_38 (by decide) ?_
          refine lv_aload_n hx hb dX9_reads_40 rfl (lv_at hl 0 rfl) ?_
          refine pg_gi (ci := 9) (C := RX9) (T := TX9) (N := 63) hx hb hts wi9 hown hK hW (hF.k hk (by decide)) (by decide) rfl 17 (by decide) (hts (.fieldLink RX9 161 "IceHallModel" "number" "I") (by decide +kernel)) (fun _ h9 => h9) rfl dX9_reads_41 ?_
          refine lv_imul hx hb dX9_reads_44 ?_
          refine lv_aload_n hx hb dX9_reads_45 rfl (lv_at hl 0 rfl) ?_
          have lk41 : (sI L10 h 3).toInt = (sI S h 3).toInt := by rw [hF.i hk (by decide) (by decide)]
          refine pc_Vi (As := []) (rest := [.int (10 * (sI L10 h 17)), .ref h]) F (b_X9_here l D cy A L10 h hG (hF.k hk (by decide))) (cwV 0 hts gX9_reads_X9_here rfl rfl rfl (by decide +kernel) ⟨Nat.le_of_ble_eq_true rfl, Nat.le_of_ble_eq_true rfl⟩) hK hZ hA hW hS (hF.k hk (by decide)) (by decide) rfl rfl hl.1 rfl (Nat.le_of_ble_eq_true rfl) dX9_reads_46 ⟨Nat.le_of_ble_eq_true rfl, Nat.le_of_ble_eq_true rfl⟩ (fun v42 T43 H locs p44 hW hS => ?_)
          obtain ⟨eT43, p44⟩ := p44
          rw [eT43] at hW
          clear eT43
          refine lv_iadd hx hb dX9_reads_49 ?_
          refine lv_bipush (v := 48) hx hb dX9_reads_50 (by decide) ?_
          refine lv_isub hx hb dX9_reads_52 ?_
          refine pg_pi (ci := 9) (C := RX9) (T := TX9) (N := 63) hx hb hts wi9 tyX9 tyX9_ok nmX9 hown hK hW hS (hF.k hk (by decide)) (by decide) rfl 17 (by decide) (hts (.fieldLink RX9 161 "IceHallModel" "number" "I") (by decide +kernel)) (fun _ h9 => h9) rfl rfl rfl dX9_reads_53 (fun H locs hW hS => ?_)
          have kq45 : sK L10 h = 9 := (hF.k hk (by decide))
          obtain ⟨S46, eS46⟩ : ∃ T : St, T = stI L10 h 17 (((10 * (sI L10 h 17)) + v42) - 48) := ⟨_, rfl⟩
          rw [← eS46] at hW
          have hG : G S46 := by rw [eS46]; exact hG.I kq45 (ok_fr (by decide))
          have w47 : sI S46 h 2 = sI L10 h 2 := by rw [eS46]; exact (iI_k (by decide)).trans rfl
          have hF : Fr [] [902, 904, 917] S S46 := by rw [eS46]; exact hF.I kq45 (by decide)
          have hE5 : Fr [] [902, 904, 917] S3 S46 := by rw [eS46]; exact hE5.I kq45 (by decide)
          clear eS46
          refine lv_aload_n hx hb dX9_reads_56 rfl (lv_at hl 0 rfl) ?_
          refine lv_aload_n hx hb dX9_reads_57 rfl (lv_at hl 0 rfl) ?_
          refine pg_gi (ci := 9) (C := RX9) (T := TX9) (N := 63) hx hb hts wi9 hown hK hW (hF.k hk (by decide)) (by decide) rfl 2 (by decide) (hts (.fieldLink RX9 148 "IceHallModel" "place" "I") (by decide +kernel)) (fun _ h9 => h9) rfl dX9_reads_58 ?_
          rw [show sI S46 h 2 = sI L10 h 2 from w47]
          refine lv_iconst (v := 1) hx hb dX9_reads_61 (by decide) ?_
          refine lv_iadd hx hb dX9_reads_62 ?_
          have l48 : ((sI L10 h 2) + 1).toInt = Int32.toInt (sI L10 h 2) + (1 : Int) := i3_add rfl rfl (by omega) (by omega)
          refine pg_pi (ci := 9) (C := RX9) (T := TX9) (N := 63) hx hb hts wi9 tyX9 tyX9_ok nmX9 hown hK hW hS (hF.k hk (by decide)) (by decide) rfl 2 (by decide) (hts (.fieldLink RX9 148 "IceHallModel" "place" "I") (by decide +kernel)) (fun _ h9 => h9) rfl rfl rfl dX9_reads_63 (fun H locs hW hS => ?_)
          have kq49 : sK S46 h = 9 := (hF.k hk (by decide))
          obtain ⟨S50, eS50⟩ : ∃ T : St, T = stI S46 h 2 ((sI L10 h 2) + 1) := ⟨_, rfl⟩
          rw [← eS50] at hW
          have hG : G S50 := by rw [eS50]; exact hG.I kq49 (ok_in 0 100 (by decide) (⟨by omega, by omega⟩))
          have hF : Fr [] [902, 904, 917] S S50 := by rw [eS50]; exact hF.I kq49 (by decide)
          have hE5 : Fr [] [902, 904, 917] S3 S50 := by rw [eS50]; exact hE5.I kq49 (by decide)
          have w51 : sI S50 h 2 = (sI L10 h 2) + 1 := by rw [eS50]; exact iI_s
          clear eS50
          refine lv_goto (tgt := 10) hx hb dX9_reads_66 (by decide) ?_
          have lk52 : (sI S50 h 2).toInt = ((sI L10 h 2) + 1).toInt := by rw [show sI S50 h 2 = (sI L10 h 2) + 1 from w51]
          have lk53 : (sI S50 h 3).toInt = (sI S h 3).toInt := by rw [hF.i hk (by decide) (by decide)]
          exact ih10  S50 _ _ ls hG hE5 (by omega) (by omega) hW hS (lv_cast (lv_sub hl [0, 1, 2, 3] rfl) (rfl))
        · have c40i : Int32.toInt (sI L10 h 2) = Int32.toInt ((sI S h 2) + 4) := (i3_eq _ _).mp c40
          refine lv_aload_n hx hb dX9_reads_27 rfl (lv_at hl 0 rfl) ?_
          refine lv_iconst (v := 1) hx hb dX9_reads_28 (by decide) ?_
          refine lv_aload_n hx hb dX9_reads_29 rfl (lv_at hl 0 rfl) ?_
          refine pg_gi (ci := 9) (C := RX9) (T := TX9) (N := 63) hx hb hts wi9 hown hK hW (hF.k hk (by decide)) (by decide) rfl 2 (by decide) (hts (.fieldLink RX9 148 "IceHallModel" "place" "I") (by decide +kernel)) (fun _ h9 => h9) rfl dX9_reads_30 ?_
          rw [show sI L10 h 2 = sI L10 h 2 from rfl]
          have lk54 : (sI L10 h 3).toInt = (sI S h 3).toInt := by rw [hF.i hk (by decide) (by decide)]
          refine pc_Vi (As := [.int 1, .int (sI L10 h 2)]) (rest := []) F (b_X9_wrong l D cy A L10 h 1 (sI L10 h 2) hG (hF.k hk (by decide))) (cwV 2 hts gX9_reads_X9_wrong rfl rfl rfl (by decide +kernel) ⟨Nat.le_of_ble_eq_true rfl, Nat.le_of_ble_eq_true rfl⟩) hK hZ hA hW hS (hF.k hk (by decide)) (by decide) rfl rfl hl.1 rfl (Nat.le_of_ble_eq_true rfl) dX9_reads_33 ⟨Nat.le_of_ble_eq_true rfl, Nat.le_of_ble_eq_true rfl⟩ (fun v55 T56 H locs p57 hW hS => ?_)
          obtain ⟨hG, hFc, p57⟩ := p57
          have w58 : sI T56 h 2 = sI L10 h 2 := (hFc.i (hF.k hk (by decide)) (by decide) (by decide)).trans rfl
          have hF : Fr [] [902, 904, 917] S T56 := hF.tr (hFc.mono (by decide))
          have hE5 : Fr [] [902, 904, 917] S3 T56 := hE5.tr (hFc.mono (by decide))
          rw [show v55 = 0 from p57]
          have lk59 : (sI T56 h 2).toInt = (sI L10 h 2).toInt := by rw [show sI T56 h 2 = sI L10 h 2 from w58]
          have lk60 : (sI T56 h 3).toInt = (sI S h 3).toInt := by rw [hF.i hk (by decide) (by decide)]
          exact pc_zret (v := 0) (S := T56) hx hb hr hlk hK hZ hA hW hS (by decide) (⟨hG, hF, by omega⟩) dX9_reads_36
  have lk61 : (sI S3 h 2).toInt = (sI S h 2).toInt := by rw [show sI S3 h 2 = sI S h 2 from w4]
  have lk62 : (sI S3 h 3).toInt = (sI S h 3).toInt := by rw [hF.i hk (by decide) (by decide)]
  exact loop10 _  S3 _ _ ls hG hE5 (by omega) (Nat.lt_succ_self _) hW hS (lv_cast (lv_sub hl [1, 2, 3, 0] rfl) (rfl))
set_option maxHeartbeats 4000000 in
set_option maxRecDepth 100000 in
theorem b_X9_readsSet (l : Launch) (D : va_G) (cy : Nat → ClassId) (A : Nat → Prop) (S : St) (h : Nat) (a b : Int32) (hG0 : G S) (hk : sK S h = 9) (hp : (sI S h 2).toInt ≤ (sI S h 3).toInt) : MI l yX9_readsSet wsX9_readsSet ({ frames := 2, cells := 0, slots := 0, locals := 40 } : Room) 0 0 D cy A [.ref h, .int a, .int b] S (fun r S1 => G S1 ∧ Fr [] [902, 904, 917] S S1 ∧ ((sI S1 h 2).toInt ≤ (sI S h 3).toInt ∧ (sI S h 2).toInt ≤ (sI S1 h 2).toInt)) := by
  refine mt_start (cc := cX9_readsSet) (maxL := 4) (ret := (some .boolean)) (by decide) rfl (Nat.le_of_ble_eq_true rfl) ?_
  intro p e s m args below meth c hx hb hr hlk hml hown hnm hts hK hZ hA hW hS ls hl
  have hl : lv_has ls 4 [(0, .ref h), (1, .int a), (2, .int b)] := hl
  have hown : s.vm.findClass RX9 = some m.cls := hown
  have F : CallFix p m c cX9_readsSet 4 s args wsX9_readsSet RX9 := ⟨hx, hb, hml, hown, hts⟩
  have wi9 : ∀ w ∈ u_ws RX9 TX9 63, w ∈ wsX9_readsSet := by decide +kernel
  have hG := hG0
  have hF : Fr [] [902, 904, 917] S S := Fr.rf _ _ _
  have g1 : (0 : Int) ≤ (sI S h 2).toInt ∧ (sI S h 2).toInt ≤ 100 := hG0.i hk (by decide) 2 (by decide)
  have g2 : (0 : Int) ≤ (sI S h 3).toInt ∧ (sI S h 3).toInt ≤ 80 := hG0.i hk (by decide) 3 (by decide)
  refine lv_aload_n hx hb dX9_readsSet_0 rfl (lv_at hl 0 rfl) ?_
  refine lv_iconst (v := 0) hx hb dX9_readsSet_1 (by decide) ?_
  refine pg_pi (ci := 9) (C := RX9) (T := TX9) (N := 63) hx hb hts wi9 tyX9 tyX9_ok nmX9 hown hK hW hS hk (by decide) rfl 17 (by decide) (hts (.fieldLink RX9 161 "IceHallModel" "number" "I") (by decide +kernel)) (fun _ h9 => h9) rfl rfl rfl dX9_readsSet_2 (fun H locs hW hS => ?_)
  obtain ⟨S3, eS3⟩ : ∃ T : St, T = stI S h 17 0 := ⟨_, rfl⟩
  rw [← eS3] at hW
  have hG : G S3 := by rw [eS3]; exact hG.I hk (ok_fr (by decide))
  have w4 : sI S3 h 2 = sI S h 2 := by rw [eS3]; exact (iI_k (by decide)).trans rfl
  have hF : Fr [] [902, 904, 917] S S3 := by rw [eS3]; exact hF.I hk (by decide)
  clear eS3
  refine lv_aload_n hx hb dX9_readsSet_5 rfl (lv_at hl 0 rfl) ?_
  refine pg_gi (ci := 9) (C := RX9) (T := TX9) (N := 63) hx hb hts wi9 hown hK hW (hF.k hk (by decide)) (by decide) rfl 2 (by decide) (hts (.fieldLink RX9 148 "IceHallModel" "place" "I") (by decide +kernel)) (fun _ h9 => h9) rfl dX9_readsSet_6 ?_
  rw [show sI S3 h 2 = sI S h 2 from w4]
  refine lv_istore_n (lv' := [(3, .int (sI S h 2)), (0, .ref h), (1, .int a), (2, .int b)]) hx hb dX9_readsSet_9 rfl hl (by decide) rfl (fun ls hl => ?_)
  have hE5 : Fr [] [902, 904, 917] S3 S3 := Fr.rf _ _ _
  have loop10 : ∀ (zn : Nat)  (L10 : St) (H : Heap) (locs : List Loc) (ls : Array Slot), (G L10) → (Fr [] [902, 904, 917] S3 L10) → ((sI S h 2).toInt ≤ (sI L10 h 2).toInt ∧ (sI L10 h 2).toInt ≤ (sI S h 3).toInt) → (100 - (sI L10 h 2).toInt).toNat < zn → PW D cy A L10 H → va_S A s.heap H locs → lv_has ls 4 [(0, .ref h), (1, .int a), (2, .int b), (3, .int (sI S h 2))] → W p l e ({ frames := 2, cells := 0, slots := 0, locals := 40 } : Room) s m args below meth c H locs 0 0 (MQ below (va_Qi (fun r S1 => G S1 ∧ Fr [] [902, 904, 917] S S1 ∧ ((sI S1 h 2).toInt ≤ (sI S h 3).toInt ∧ (sI S h 2).toInt ≤ (sI S1 h 2).toInt)) (PU D cy A) A) args s 0 0 A) (F0 m 10 ls []) := by
    intro zn
    induction zn with
    | zero => intros; exact absurd (by assumption) (Nat.not_lt_zero _)
    | succ zn ih10 =>
      intro  L10 H locs ls hG hL10 hpl hme10 hW hS hl
      have hF : Fr [] [902, 904, 917] S L10 := hF.tr hL10
      have hE5 := hL10
      have g6 : (0 : Int) ≤ (sI L10 h 2).toInt ∧ (sI L10 h 2).toInt ≤ 100 := hG.i (hF.k hk (by decide)) (by decide) 2 (by decide)
      have lk7 : (sI L10 h 3).toInt = (sI S h 3).toInt := by rw [hF.i hk (by decide) (by decide)]
      refine lv_aload_n hx hb dX9_readsSet_10 rfl (lv_at hl 0 rfl) ?_
      have lk8 : (sI L10 h 3).toInt = (sI S h 3).toInt := by rw [hF.i hk (by decide) (by decide)]
      refine pc_Vi (As := []) (rest := []) F (b_X9_isDigit l D cy A L10 h hG (hF.k hk (by decide))) (cwV 0 hts gX9_readsSet_X9_isDigit rfl rfl rfl (by decide +kernel) ⟨Nat.le_of_ble_eq_true rfl, Nat.le_of_ble_eq_true rfl⟩) hK hZ hA hW hS (hF.k hk (by decide)) (by decide) rfl rfl hl.1 rfl (Nat.le_of_ble_eq_true rfl) dX9_readsSet_11 ⟨Nat.le_of_ble_eq_true rfl, Nat.le_of_ble_eq_true rfl⟩ (fun v9 T10 H locs p11 hW hS => ?_)
      obtain ⟨eT10, p11⟩ := p11
      rw [eT10] at hW
      clear eT10
      refine lv_if_eq (tgt := 89) hx hb dX9_readsSet_14 (by decide) (fun c12 => ?_) (fun c12 => ?_)
      · have c12i : Int32.toInt v9 = (0 : Int) := (i3_eq _ _).mp c12
        refine lv_aload_n hx hb dX9_readsSet_89 rfl (lv_at hl 0 rfl) ?_
        refine pg_gi (ci := 9) (C := RX9) (T := TX9) (N := 63) hx hb hts wi9 hown hK hW (hF.k hk (by decide)) (by decide) rfl 2 (by decide) (hts (.fieldLink RX9 148 "IceHallModel" "place" "I") (by decide +kernel)) (fun _ h9 => h9) rfl dX9_readsSet_90 ?_
        rw [show sI L10 h 2 = sI L10 h 2 from rfl]
        refine lv_iload_n hx hb dX9_readsSet_93 rfl (lv_at hl 3 rfl) ?_
        refine lv_icmp_gt (tgt := 109) hx hb dX9_readsSet_94 (by decide) (fun c13 => ?_) (fun c13 => ?_)
        · have c13i : Int32.toInt (sI S h 2) < Int32.toInt (sI L10 h 2) := (i3_lt _ _).mp c13
          refine lv_iconst (v := 1) hx hb dX9_readsSet_109 (by decide) ?_
          refine lv_goto (tgt := 114) hx hb dX9_readsSet_110 (by decide) ?_
          have lk14 : (sI L10 h 3).toInt = (sI S h 3).toInt := by rw [hF.i hk (by decide) (by decide)]
          exact pc_zret (v := 1) (S := L10) hx hb hr hlk hK hZ hA hW hS (by decide) (⟨hG, hF, by omega⟩) dX9_readsSet_114
        · have c13i : ¬ (Int32.toInt (sI S h 2) < Int32.toInt (sI L10 h 2)) := fun h9 => c13 ((i3_lt _ _).mpr h9)
          refine lv_aload_n hx hb dX9_readsSet_97 rfl (lv_at hl 0 rfl) ?_
          refine lv_iconst (v := 1) hx hb dX9_readsSet_98 (by decide) ?_
          refine lv_aload_n hx hb dX9_readsSet_99 rfl (lv_at hl 0 rfl) ?_
          refine pg_gi (ci := 9) (C := RX9) (T := TX9) (N := 63) hx hb hts wi9 hown hK hW (hF.k hk (by decide)) (by decide) rfl 2 (by decide) (hts (.fieldLink RX9 148 "IceHallModel" "place" "I") (by decide +kernel)) (fun _ h9 => h9) rfl dX9_readsSet_100 ?_
          rw [show sI L10 h 2 = sI L10 h 2 from rfl]
          have lk15 : (sI L10 h 3).toInt = (sI S h 3).toInt := by rw [hF.i hk (by decide) (by decide)]
          refine pc_Vi (As := [.int 1, .int (sI L10 h 2)]) (rest := []) F (b_X9_wrong l D cy A L10 h 1 (sI L10 h 2) hG (hF.k hk (by decide))) (cwV 2 hts gX9_readsSet_X9_wrong rfl rfl rfl (by decide +kernel) ⟨Nat.le_of_ble_eq_true rfl, Nat.le_of_ble_eq_true rfl⟩) hK hZ hA hW hS (hF.k hk (by decide)) (by decide) rfl rfl hl.1 rfl (Nat.le_of_ble_eq_true rfl) dX9_readsSet_103 ⟨Nat.le_of_ble_eq_true rfl, Nat.le_of_ble_eq_true rfl⟩ (fun v16 T17 H locs p18 hW hS => ?_)
          obtain ⟨hG, hFc, p18⟩ := p18
          have w19 : sI T17 h 2 = sI L10 h 2 := (hFc.i (hF.k hk (by decide)) (by decide) (by decide)).trans rfl
          have hF : Fr [] [902, 904, 917] S T17 := hF.tr (hFc.mono (by decide))
          have hE5 : Fr [] [902, 904, 917] S3 T17 := hE5.tr (hFc.mono (by decide))
          rw [show v16 = 0 from p18]
          refine lv_if_eq (tgt := 113) hx hb dX9_readsSet_106 (by decide) (fun c20 => ?_) (fun c20 => absurd (by decide) c20)
          refine lv_iconst (v := 0) hx hb dX9_readsSet_113 (by decide) ?_
          have lk21 : (sI T17 h 2).toInt = (sI L10 h 2).toInt := by rw [show sI T17 h 2 = sI L10 h 2 from w19]
          have lk22 : (sI T17 h 3).toInt = (sI S h 3).toInt := by rw [hF.i hk (by decide) (by decide)]
          exact pc_zret (v := 0) (S := T17) hx hb hr hlk hK hZ hA hW hS (by decide) (⟨hG, hF, by omega⟩) dX9_readsSet_114
      · have c12i : ¬ (Int32.toInt v9 = (0 : Int)) := fun h9 => c12 ((i3_eq _ _).mpr h9)
        refine lv_aload_n hx hb dX9_readsSet_17 rfl (lv_at hl 0 rfl) ?_
        refine pg_gi (ci := 9) (C := RX9) (T := TX9) (N := 63) hx hb hts wi9 hown hK hW (hF.k hk (by decide)) (by decide) rfl 2 (by decide) (hts (.fieldLink RX9 148 "IceHallModel" "place" "I") (by decide +kernel)) (fun _ h9 => h9) rfl dX9_readsSet_18 ?_
        rw [show sI L10 h 2 = sI L10 h 2 from rfl]
        refine lv_iload_n hx hb dX9_readsSet_21 rfl (lv_at hl 3 rfl) ?_
        refine lv_iload_n hx hb dX9_readsSet_22 rfl (lv_at hl 1 rfl) ?_
        refine lv_iadd hx hb dX9_readsSet_23 ?_
        refine lv_icmp_ne (tgt := 37) hx hb dX9_readsSet_24 (by decide) (fun c23 => ?_) (fun c23 => ?_)
        · have c23i : ¬ (Int32.toInt (sI L10 h 2) = Int32.toInt ((sI S h 2) + a)) := fun h9 => c23 ((i3_eq _ _).mpr h9)
          refine lv_aload_n hx hb dX9_readsSet_37 rfl (lv_at hl 0 rfl) ?_
          have lk24 : (sI L10 h 3).toInt = (sI S h 3).toInt := by rw [hF.i hk (by decide) (by decide)]
          refine pc_Vi (As := []) (rest := []) F (b_X9_here l D cy A L10 h hG (hF.k hk (by decide))) (cwV 0 hts gX9_readsSet_X9_here rfl rfl rfl (by decide +kernel) ⟨Nat.le_of_ble_eq_true rfl, Nat.le_of_ble_eq_true rfl⟩) hK hZ hA hW hS (hF.k hk (by decide)) (by decide) rfl rfl hl.1 rfl (Nat.le_of_ble_eq_true rfl) dX9_readsSet_38 ⟨Nat.le_of_ble_eq_true rfl, Nat.le_of_ble_eq_true rfl⟩ (fun v25 T26 H locs p27 hW hS => ?_)
          obtain ⟨eT26, p27⟩ := p27
          rw [eT26] at hW
          clear eT26
          refine lv_bipush (v := 48) hx hb dX9_readsSet_41 (by decide) ?_
          refine lv_isub hx hb dX9_readsSet_43 ?_
          refine lv_iload_n hx hb dX9_readsSet_44 rfl (lv_at hl 2 rfl) ?_
          refine lv_icmp_lt (tgt := 58) hx hb dX9_readsSet_45 (by decide) (fun c28 => ?_) (fun c28 => ?_)
          · have c28i : Int32.toInt (v25 - 48) < Int32.toInt b := (i3_lt _ _).mp c28
            refine lv_aload_n hx hb dX9_readsSet_58 rfl (lv_at hl 0 rfl) ?_
            refine lv_aload_n hx hb dX9_readsSet_59 rfl (lv_at hl 0 rfl) ?_
            refine pg_gi (ci := 9) (C := RX9) (T := TX9) (N := 63) hx hb hts wi9 hown hK hW (hF.k hk (by decide)) (by decide) rfl 17 (by decide) (hts (.fieldLink RX9 161 "IceHallModel" "number" "I") (by decide +kernel)) (fun _ h9 => h9) rfl dX9_readsSet_60 ?_
            refine lv_iconst (v := 1) hx hb dX9_readsSet_63 (by decide) ?_
            refine lv_aload_n hx hb dX9_readsSet_64 rfl (lv_at hl 0 rfl) ?_
            have lk29 : (sI L10 h 3).toInt = (sI S h 3).toInt := by rw [hF.i hk (by decide) (by decide)]
            refine pc_Vi (As := []) (rest := [.int 1, .int (sI L10 h 17), .ref h]) F (b_X9_here l D cy A L10 h hG (hF.k hk (by decide))) (cwV 0 hts gX9_readsSet_X9_here rfl rfl rfl (by decide +kernel) ⟨Nat.le_of_ble_eq_true rfl, Nat.le_of_ble_eq_true rfl⟩) hK hZ hA hW hS (hF.k hk (by decide)) (by decide) rfl rfl hl.1 rfl (Nat.le_of_ble_eq_true rfl) dX9_readsSet_65 ⟨Nat.le_of_ble_eq_true rfl, Nat.le_of_ble_eq_true rfl⟩ (fun v30 T31 H locs p32 hW hS => ?_)
            obtain ⟨eT31, p32⟩ := p32
            rw [eT31] at hW
            clear eT31
            refine lv_bipush (v := 48) hx hb dX9_readsSet_68 (by decide) ?_
            refine lv_isub hx hb dX9_readsSet_70 ?_
            refine lv_ishl hx hb dX9_readsSet_71 ?_
            refine lv_ior hx hb dX9_readsSet_72 ?_
            refine pg_pi (ci := 9) (C := RX9) (T := TX9) (N := 63) hx hb hts wi9 tyX9 tyX9_ok nmX9 hown hK hW hS (hF.k hk (by decide)) (by decide) rfl 17 (by decide) (hts (.fieldLink RX9 161 "IceHallModel" "number" "I") (by decide +kernel)) (fun _ h9 => h9) rfl rfl rfl dX9_readsSet_73 (fun H locs hW hS => ?_)
            have kq33 : sK L10 h = 9 := (hF.k hk (by decide))
            obtain ⟨S34, eS34⟩ : ∃ T : St, T = stI L10 h 17 ((sI L10 h 17) ||| (1 <<< ((v30 - 48) &&& 31))) := ⟨_, rfl⟩
            rw [← eS34] at hW
            have hG : G S34 := by rw [eS34]; exact hG.I kq33 (ok_fr (by decide))
            have w35 : sI S34 h 2 = sI L10 h 2 := by rw [eS34]; exact (iI_k (by decide)).trans rfl
            have hF : Fr [] [902, 904, 917] S S34 := by rw [eS34]; exact hF.I kq33 (by decide)
            have hE5 : Fr [] [902, 904, 917] S3 S34 := by rw [eS34]; exact hE5.I kq33 (by decide)
            clear eS34
            refine lv_aload_n hx hb dX9_readsSet_76 rfl (lv_at hl 0 rfl) ?_
            refine lv_aload_n hx hb dX9_readsSet_77 rfl (lv_at hl 0 rfl) ?_
            refine pg_gi (ci := 9) (C := RX9) (T := TX9) (N := 63) hx hb hts wi9 hown hK hW (hF.k hk (by decide)) (by decide) rfl 2 (by decide) (hts (.fieldLink RX9 148 "IceHallModel" "place" "I") (by decide +kernel)) (fun _ h9 => h9) rfl dX9_readsSet_78 ?_
            rw [show sI S34 h 2 = sI L10 h 2 from w35]
            refine lv_iconst (v := 1) hx hb dX9_readsSet_81 (by decide) ?_
            refine lv_iadd hx hb dX9_readsSet_82 ?_
            have l36 : ((sI L10 h 2) + 1).toInt = Int32.toInt (sI L10 h 2) + (1 : Int) := i3_add rfl rfl (by omega) (by omega)
            refine pg_pi (ci := 9) (C := RX9) (T := TX9) (N := 63) hx hb hts wi9 tyX9 tyX9_ok nmX9 hown hK hW hS (hF.k hk (by decide)) (by decide) rfl 2 (by decide) (hts (.fieldLink RX9 148 "IceHallModel" "place" "I") (by decide +kernel)) (fun _ h9 => h9) rfl rfl rfl dX9_readsSet_83 (fun H locs hW hS => ?_)
            have kq37 : sK S34 h = 9 := (hF.k hk (by decide))
            obtain ⟨S38, eS38⟩ : ∃ T : St, T = stI S34 h 2 ((sI L10 h 2) + 1) := ⟨_, rfl⟩
            rw [← eS38] at hW
            have hG : G S38 := by rw [eS38]; exact hG.I kq37 (ok_in 0 100 (by decide) (⟨by omega, by omega⟩))
            have hF : Fr [] [902, 904, 917] S S38 := by rw [eS38]; exact hF.I kq37 (by decide)
            have hE5 : Fr [] [902, 904, 917] S3 S38 := by rw [eS38]; exact hE5.I kq37 (by decide)
            have w39 : sI S38 h 2 = (sI L10 h 2) + 1 := by rw [eS38]; exact iI_s
            clear eS38
            refine lv_goto (tgt := 10) hx hb dX9_readsSet_86 (by decide) ?_
            have lk40 : (sI S38 h 2).toInt = ((sI L10 h 2) + 1).toInt := by rw [show sI S38 h 2 = (sI L10 h 2) + 1 from w39]
            have lk41 : (sI S38 h 3).toInt = (sI S h 3).toInt := by rw [hF.i hk (by decide) (by decide)]
            exact ih10  S38 _ _ ls hG hE5 (by omega) (by omega) hW hS (lv_cast (lv_sub hl [0, 1, 2, 3] rfl) (rfl))
          · have c28i : ¬ (Int32.toInt (v25 - 48) < Int32.toInt b) := fun h9 => c28 ((i3_lt _ _).mpr h9)
            refine lv_aload_n hx hb dX9_readsSet_48 rfl (lv_at hl 0 rfl) ?_
            refine lv_iconst (v := 2) hx hb dX9_readsSet_49 (by decide) ?_
            refine lv_aload_n hx hb dX9_readsSet_50 rfl (lv_at hl 0 rfl) ?_
            refine pg_gi (ci := 9) (C := RX9) (T := TX9) (N := 63) hx hb hts wi9 hown hK hW (hF.k hk (by decide)) (by decide) rfl 2 (by decide) (hts (.fieldLink RX9 148 "IceHallModel" "place" "I") (by decide +kernel)) (fun _ h9 => h9) rfl dX9_readsSet_51 ?_
            rw [show sI L10 h 2 = sI L10 h 2 from rfl]
            have lk42 : (sI L10 h 3).toInt = (sI S h 3).toInt := by rw [hF.i hk (by decide) (by decide)]
            refine pc_Vi (As := [.int 2, .int (sI L10 h 2)]) (rest := []) F (b_X9_wrong l D cy A L10 h 2 (sI L10 h 2) hG (hF.k hk (by decide))) (cwV 2 hts gX9_readsSet_X9_wrong rfl rfl rfl (by decide +kernel) ⟨Nat.le_of_ble_eq_true rfl, Nat.le_of_ble_eq_true rfl⟩) hK hZ hA hW hS (hF.k hk (by decide)) (by decide) rfl rfl hl.1 rfl (Nat.le_of_ble_eq_true rfl) dX9_readsSet_54 ⟨Nat.le_of_ble_eq_true rfl, Nat.le_of_ble_eq_true rfl⟩ (fun v43 T44 H locs p45 hW hS => ?_)
            obtain ⟨hG, hFc, p45⟩ := p45
            have w46 : sI T44 h 2 = sI L10 h 2 := (hFc.i (hF.k hk (by decide)) (by decide) (by decide)).trans rfl
            have hF : Fr [] [902, 904, 917] S T44 := hF.tr (hFc.mono (by decide))
            have hE5 : Fr [] [902, 904, 917] S3 T44 := hE5.tr (hFc.mono (by decide))
            rw [show v43 = 0 from p45]
            have lk47 : (sI T44 h 2).toInt = (sI L10 h 2).toInt := by rw [show sI T44 h 2 = sI L10 h 2 from w46]
            have lk48 : (sI T44 h 3).toInt = (sI S h 3).toInt := by rw [hF.i hk (by decide) (by decide)]
            exact pc_zret (v := 0) (S := T44) hx hb hr hlk hK hZ hA hW hS (by decide) (⟨hG, hF, by omega⟩) dX9_readsSet_57
        · have c23i : Int32.toInt (sI L10 h 2) = Int32.toInt ((sI S h 2) + a) := (i3_eq _ _).mp c23
          refine lv_aload_n hx hb dX9_readsSet_27 rfl (lv_at hl 0 rfl) ?_
          refine lv_iconst (v := 1) hx hb dX9_readsSet_28 (by decide) ?_
          refine lv_aload_n hx hb dX9_readsSet_29 rfl (lv_at hl 0 rfl) ?_
          refine pg_gi (ci := 9) (C := RX9) (T := TX9) (N := 63) hx hb hts wi9 hown hK hW (hF.k hk (by decide)) (by decide) rfl 2 (by decide) (hts (.fieldLink RX9 148 "IceHallModel" "place" "I") (by decide +kernel)) (fun _ h9 => h9) rfl dX9_readsSet_30 ?_
          rw [show sI L10 h 2 = sI L10 h 2 from rfl]
          have lk49 : (sI L10 h 3).toInt = (sI S h 3).toInt := by rw [hF.i hk (by decide) (by decide)]
          refine pc_Vi (As := [.int 1, .int (sI L10 h 2)]) (rest := []) F (b_X9_wrong l D cy A L10 h 1 (sI L10 h 2) hG (hF.k hk (by decide))) (cwV 2 hts gX9_readsSet_X9_wrong rfl rfl rfl (by decide +kernel) ⟨Nat.le_of_ble_eq_true rfl, Nat.le_of_ble_eq_true rfl⟩) hK hZ hA hW hS (hF.k hk (by decide)) (by decide) rfl rfl hl.1 rfl (Nat.le_of_ble_eq_true rfl) dX9_readsSet_33 ⟨Nat.le_of_ble_eq_true rfl, Nat.le_of_ble_eq_true rfl⟩ (fun v50 T51 H locs p52 hW hS => ?_)
          obtain ⟨hG, hFc, p52⟩ := p52
          have w53 : sI T51 h 2 = sI L10 h 2 := (hFc.i (hF.k hk (by decide)) (by decide) (by decide)).trans rfl
          have hF : Fr [] [902, 904, 917] S T51 := hF.tr (hFc.mono (by decide))
          have hE5 : Fr [] [902, 904, 917] S3 T51 := hE5.tr (hFc.mono (by decide))
          rw [show v50 = 0 from p52]
          have lk54 : (sI T51 h 2).toInt = (sI L10 h 2).toInt := by rw [show sI T51 h 2 = sI L10 h 2 from w53]
          have lk55 : (sI T51 h 3).toInt = (sI S h 3).toInt := by rw [hF.i hk (by decide) (by decide)]
          exact pc_zret (v := 0) (S := T51) hx hb hr hlk hK hZ hA hW hS (by decide) (⟨hG, hF, by omega⟩) dX9_readsSet_36
  have lk56 : (sI S3 h 2).toInt = (sI S h 2).toInt := by rw [show sI S3 h 2 = sI S h 2 from w4]
  have lk57 : (sI S3 h 3).toInt = (sI S h 3).toInt := by rw [hF.i hk (by decide) (by decide)]
  exact loop10 _  S3 _ _ ls hG hE5 (by omega) (Nat.lt_succ_self _) hW hS (lv_cast (lv_sub hl [1, 2, 3, 0] rfl) (rfl))
set_option maxHeartbeats 4000000 in
set_option maxRecDepth 100000 in
theorem b_X9_readsClause (l : Launch) (D : va_G) (cy : Nat → ClassId) (A : Nat → Prop) (S : St) (h : Nat) (hG0 : G S) (hk : sK S h = 9) (hp : (sI S h 2).toInt ≤ (sI S h 3).toInt) : MI l yX9_readsClause wsX9_readsClause ({ frames := 3, cells := 0, slots := 0, locals := 63 } : Room) 0 0 D cy A [.ref h] S (fun r S1 => G S1 ∧ Fr [] [902, 904, 911, 912, 913, 914, 915, 916, 917] S S1 ∧ ((sI S1 h 2).toInt ≤ (sI S h 3).toInt ∧ (sI S h 2).toInt ≤ (sI S1 h 2).toInt)) := by
  refine mt_start (cc := cX9_readsClause) (maxL := 4) (ret := (some .boolean)) (by decide) rfl (Nat.le_of_ble_eq_true rfl) ?_
  intro p e s m args below meth c hx hb hr hlk hml hown hnm hts hK hZ hA hW hS ls hl
  have hl : lv_has ls 4 [(0, .ref h)] := hl
  have hown : s.vm.findClass RX9 = some m.cls := hown
  have F : CallFix p m c cX9_readsClause 4 s args wsX9_readsClause RX9 := ⟨hx, hb, hml, hown, hts⟩
  have wi9 : ∀ w ∈ u_ws RX9 TX9 63, w ∈ wsX9_readsClause := by decide +kernel
  have hG := hG0
  have hF : Fr [] [902, 904, 911, 912, 913, 914, 915, 916, 917] S S := Fr.rf _ _ _
  have g1 : (0 : Int) ≤ (sI S h 2).toInt ∧ (sI S h 2).toInt ≤ 100 := hG0.i hk (by decide) 2 (by decide)
  have g2 : (0 : Int) ≤ (sI S h 3).toInt ∧ (sI S h 3).toInt ≤ 80 := hG0.i hk (by decide) 3 (by decide)
  refine lv_aload_n hx hb dX9_readsClause_0 rfl (lv_at hl 0 rfl) ?_
  refine pc_Vi (As := []) (rest := []) F (b_X9_here l D cy A S h hG hk) (cwV 0 hts gX9_readsClause_X9_here rfl rfl rfl (by decide +kernel) ⟨Nat.le_of_ble_eq_true rfl, Nat.le_of_ble_eq_true rfl⟩) hK hZ hA hW hS hk (by decide) rfl rfl hl.1 rfl (Nat.le_of_ble_eq_true rfl) dX9_readsClause_1 ⟨Nat.le_of_ble_eq_true rfl, Nat.le_of_ble_eq_true rfl⟩ (fun v3 T4 H locs p5 hW hS => ?_)
  obtain ⟨eT4, p5⟩ := p5
  rw [eT4] at hW
  clear eT4
  refine lv_istore_n (lv' := [(1, .int v3), (0, .ref h)]) hx hb dX9_readsClause_4 rfl hl (by decide) rfl (fun ls hl => ?_)
  have join51 : ∀ (H : Heap) (locs : List Loc), ((sI S h 2).toInt < (sI S h 3).toInt) → PW D cy A S H → va_S A s.heap H locs → W p l e ({ frames := 3, cells := 0, slots := 0, locals := 63 } : Room) s m args below meth c H locs 0 0 (MQ below (va_Qi (fun r S1 => G S1 ∧ Fr [] [902, 904, 911, 912, 913, 914, 915, 916, 917] S S1 ∧ ((sI S1 h 2).toInt ≤ (sI S h 3).toInt ∧ (sI S h 2).toInt ≤ (sI S1 h 2).toInt)) (PU D cy A) A) args s 0 0 A) (F0 m 51 ls []) := by
    intro H locs hc51 hW hS
    refine lv_aload_n hx hb dX9_readsClause_51 rfl (lv_at hl 1 rfl) ?_
    refine lv_aload_n hx hb dX9_readsClause_52 rfl (lv_at hl 1 rfl) ?_
    refine pg_gi (ci := 9) (C := RX9) (T := TX9) (N := 63) hx hb hts wi9 hown hK hW hk (by decide) rfl 2 (by decide) (hts (.fieldLink RX9 148 "IceHallModel" "place" "I") (by decide +kernel)) (fun _ h9 => h9) rfl dX9_readsClause_53 ?_
    rw [show sI S h 2 = sI S h 2 from rfl]
    refine lv_iconst (v := 1) hx hb dX9_readsClause_56 (by decide) ?_
    refine lv_iadd hx hb dX9_readsClause_57 ?_
    have l6 : ((sI S h 2) + 1).toInt = Int32.toInt (sI S h 2) + (1 : Int) := i3_add rfl rfl (by omega) (by omega)
    refine pg_pi (ci := 9) (C := RX9) (T := TX9) (N := 63) hx hb hts wi9 tyX9 tyX9_ok nmX9 hown hK hW hS hk (by decide) rfl 2 (by decide) (hts (.fieldLink RX9 148 "IceHallModel" "place" "I") (by decide +kernel)) (fun _ h9 => h9) rfl rfl rfl dX9_readsClause_58 (fun H locs hW hS => ?_)
    obtain ⟨S7, eS7⟩ : ∃ T : St, T = stI S h 2 ((sI S h 2) + 1) := ⟨_, rfl⟩
    rw [← eS7] at hW
    have hG : G S7 := by rw [eS7]; exact hG.I hk (ok_in 0 100 (by decide) (⟨by omega, by omega⟩))
    have hF : Fr [] [902, 904, 911, 912, 913, 914, 915, 916, 917] S S7 := by rw [eS7]; exact hF.I hk (by decide)
    have w8 : sI S7 h 2 = (sI S h 2) + 1 := by rw [eS7]; exact iI_s
    clear eS7
    refine lv_iload_n hx hb dX9_readsClause_61 rfl (lv_at hl 0 rfl) ?_
    by_cases c9 : v3 = 100
    · refine lv_lookup (off := 140) (tgt := 202) hx hb dX9_readsClause_62 (by decide) (by rw [c9]; decide) (by decide) ?_
      refine lv_aload_n hx hb dX9_readsClause_202 rfl (lv_at hl 1 rfl) ?_
      refine lv_bipush (v := 7) hx hb dX9_readsClause_203 (by decide) ?_
      refine lv_bipush (v := 7) hx hb dX9_readsClause_205 (by decide) ?_
      have lk10 : (sI S7 h 2).toInt = ((sI S h 2) + 1).toInt := by rw [show sI S7 h 2 = (sI S h 2) + 1 from w8]
      have lk11 : (sI S7 h 3).toInt = (sI S h 3).toInt := by rw [hF.i hk (by decide) (by decide)]
      refine pc_Vi (As := [.int 7, .int 7]) (rest := []) F (b_X9_readsSet l D cy A S7 h 7 7 hG (hF.k hk (by decide)) (by omega)) (cwV 2 hts gX9_readsClause_X9_readsSet rfl rfl rfl (by decide +kernel) ⟨Nat.le_of_ble_eq_true rfl, Nat.le_of_ble_eq_true rfl⟩) hK hZ hA hW hS (hF.k hk (by decide)) (by decide) rfl rfl hl.1 rfl (Nat.le_of_ble_eq_true rfl) dX9_readsClause_207 ⟨Nat.le_of_ble_eq_true rfl, Nat.le_of_ble_eq_true rfl⟩ (fun v12 T13 H locs p14 hW hS => ?_)
      obtain ⟨hG, hFc, p14⟩ := p14
      have hF : Fr [] [902, 904, 911, 912, 913, 914, 915, 916, 917] S T13 := hF.tr (hFc.mono (by decide))
      have g15 : (0 : Int) ≤ (sI T13 h 2).toInt ∧ (sI T13 h 2).toInt ≤ 100 := hG.i (hF.k hk (by decide)) (by decide) 2 (by decide)
      refine lv_if_ne (tgt := 215) hx hb dX9_readsClause_210 (by decide) (fun c16 => ?_) (fun c16 => ?_)
      · have c16i : ¬ (Int32.toInt v12 = (0 : Int)) := fun h9 => c16 ((i3_eq _ _).mpr h9)
        refine lv_aload_n hx hb dX9_readsClause_215 rfl (lv_at hl 1 rfl) ?_
        refine lv_aload_n hx hb dX9_readsClause_216 rfl (lv_at hl 1 rfl) ?_
        refine pg_gi (ci := 9) (C := RX9) (T := TX9) (N := 63) hx hb hts wi9 hown hK hW (hF.k hk (by decide)) (by decide) rfl 17 (by decide) (hts (.fieldLink RX9 161 "IceHallModel" "number" "I") (by decide +kernel)) (fun _ h9 => h9) rfl dX9_readsClause_217 ?_
        refine pg_pi (ci := 9) (C := RX9) (T := TX9) (N := 63) hx hb hts wi9 tyX9 tyX9_ok nmX9 hown hK hW hS (hF.k hk (by decide)) (by decide) rfl 12 (by decide) (hts (.fieldLink RX9 181 "IceHallModel" "saidDays" "I") (by decide +kernel)) (fun _ h9 => h9) rfl rfl rfl dX9_readsClause_220 (fun H locs hW hS => ?_)
        have kq17 : sK T13 h = 9 := (hF.k hk (by decide))
        obtain ⟨S18, eS18⟩ : ∃ T : St, T = stI T13 h 12 (sI T13 h 17) := ⟨_, rfl⟩
        rw [← eS18] at hW
        have hG : G S18 := by rw [eS18]; exact hG.I kq17 (ok_fr (by decide))
        have w19 : sI S18 h 2 = sI T13 h 2 := by rw [eS18]; exact (iI_k (by decide)).trans rfl
        have hF : Fr [] [902, 904, 911, 912, 913, 914, 915, 916, 917] S S18 := by rw [eS18]; exact hF.I kq17 (by decide)
        clear eS18
        refine lv_iconst (v := 1) hx hb dX9_readsClause_223 (by decide) ?_
        have lk20 : (sI S18 h 2).toInt = (sI T13 h 2).toInt := by rw [show sI S18 h 2 = sI T13 h 2 from w19]
        have lk21 : (sI S18 h 3).toInt = (sI S h 3).toInt := by rw [hF.i hk (by decide) (by decide)]
        exact pc_zret (v := 1) (S := S18) hx hb hr hlk hK hZ hA hW hS (by decide) (⟨hG, hF, by omega⟩) dX9_readsClause_224
      · have c16i : Int32.toInt v12 = (0 : Int) := (i3_eq _ _).mp c16
        refine lv_iconst (v := 0) hx hb dX9_readsClause_213 (by decide) ?_
        have lk22 : (sI T13 h 3).toInt = (sI S h 3).toInt := by rw [hF.i hk (by decide) (by decide)]
        exact pc_zret (v := 0) (S := T13) hx hb hr hlk hK hZ hA hW hS (by decide) (⟨hG, hF, by omega⟩) dX9_readsClause_214
    by_cases c23 : v3 = 102
    · refine lv_lookup (off := 207) (tgt := 269) hx hb dX9_readsClause_62 (by decide) (by rw [c23]; decide) (by decide) ?_
      refine lv_aload_n hx hb dX9_readsClause_269 rfl (lv_at hl 1 rfl) ?_
      refine lv_iconst (v := 0) hx hb dX9_readsClause_270 (by decide) ?_
      refine lv_sipush (v := 9999) hx hb dX9_readsClause_271 (by decide) ?_
      have lk24 : (sI S7 h 2).toInt = ((sI S h 2) + 1).toInt := by rw [show sI S7 h 2 = (sI S h 2) + 1 from w8]
      have lk25 : (sI S7 h 3).toInt = (sI S h 3).toInt := by rw [hF.i hk (by decide) (by decide)]
      refine pc_Vi (As := [.int 0, .int 9999]) (rest := []) F (b_X9_reads l D cy A S7 h 0 9999 hG (hF.k hk (by decide)) (by omega)) (cwV 2 hts gX9_readsClause_X9_reads rfl rfl rfl (by decide +kernel) ⟨Nat.le_of_ble_eq_true rfl, Nat.le_of_ble_eq_true rfl⟩) hK hZ hA hW hS (hF.k hk (by decide)) (by decide) rfl rfl hl.1 rfl (Nat.le_of_ble_eq_true rfl) dX9_readsClause_274 ⟨Nat.le_of_ble_eq_true rfl, Nat.le_of_ble_eq_true rfl⟩ (fun v26 T27 H locs p28 hW hS => ?_)
      obtain ⟨hG, hFc, p28⟩ := p28
      have hF : Fr [] [902, 904, 911, 912, 913, 914, 915, 916, 917] S T27 := hF.tr (hFc.mono (by decide))
      have g29 : (0 : Int) ≤ (sI T27 h 2).toInt ∧ (sI T27 h 2).toInt ≤ 100 := hG.i (hF.k hk (by decide)) (by decide) 2 (by decide)
      refine lv_if_ne (tgt := 282) hx hb dX9_readsClause_277 (by decide) (fun c30 => ?_) (fun c30 => ?_)
      · have c30i : ¬ (Int32.toInt v26 = (0 : Int)) := fun h9 => c30 ((i3_eq _ _).mpr h9)
        refine lv_aload_n hx hb dX9_readsClause_282 rfl (lv_at hl 1 rfl) ?_
        refine lv_aload_n hx hb dX9_readsClause_283 rfl (lv_at hl 1 rfl) ?_
        refine pg_gi (ci := 9) (C := RX9) (T := TX9) (N := 63) hx hb hts wi9 hown hK hW (hF.k hk (by decide)) (by decide) rfl 17 (by decide) (hts (.fieldLink RX9 161 "IceHallModel" "number" "I") (by decide +kernel)) (fun _ h9 => h9) rfl dX9_readsClause_284 ?_
        refine pg_pi (ci := 9) (C := RX9) (T := TX9) (N := 63) hx hb hts wi9 tyX9 tyX9_ok nmX9 hown hK hW hS (hF.k hk (by decide)) (by decide) rfl 15 (by decide) (hts (.fieldLink RX9 190 "IceHallModel" "saidFee" "I") (by decide +kernel)) (fun _ h9 => h9) rfl rfl rfl dX9_readsClause_287 (fun H locs hW hS => ?_)
        have kq31 : sK T27 h = 9 := (hF.k hk (by decide))
        obtain ⟨S32, eS32⟩ : ∃ T : St, T = stI T27 h 15 (sI T27 h 17) := ⟨_, rfl⟩
        rw [← eS32] at hW
        have hG : G S32 := by rw [eS32]; exact hG.I kq31 (ok_fr (by decide))
        have w33 : sI S32 h 2 = sI T27 h 2 := by rw [eS32]; exact (iI_k (by decide)).trans rfl
        have hF : Fr [] [902, 904, 911, 912, 913, 914, 915, 916, 917] S S32 := by rw [eS32]; exact hF.I kq31 (by decide)
        clear eS32
        refine lv_iconst (v := 1) hx hb dX9_readsClause_290 (by decide) ?_
        have lk34 : (sI S32 h 2).toInt = (sI T27 h 2).toInt := by rw [show sI S32 h 2 = sI T27 h 2 from w33]
        have lk35 : (sI S32 h 3).toInt = (sI S h 3).toInt := by rw [hF.i hk (by decide) (by decide)]
        exact pc_zret (v := 1) (S := S32) hx hb hr hlk hK hZ hA hW hS (by decide) (⟨hG, hF, by omega⟩) dX9_readsClause_291
      · have c30i : Int32.toInt v26 = (0 : Int) := (i3_eq _ _).mp c30
        refine lv_iconst (v := 0) hx hb dX9_readsClause_280 (by decide) ?_
        have lk36 : (sI T27 h 3).toInt = (sI S h 3).toInt := by rw [hF.i hk (by decide) (by decide)]
        exact pc_zret (v := 0) (S := T27) hx hb hr hlk hK hZ hA hW hS (by decide) (⟨hG, hF, by omega⟩) dX9_readsClause_281
    by_cases c37 : v3 = 107
    · refine lv_lookup (off := 163) (tgt := 225) hx hb dX9_readsClause_62 (by decide) (by rw [c37]; decide) (by decide) ?_
      refine lv_aload_n hx hb dX9_readsClause_225 rfl (lv_at hl 1 rfl) ?_
      refine lv_iconst (v := 4) hx hb dX9_readsClause_226 (by decide) ?_
      refine lv_iconst (v := 4) hx hb dX9_readsClause_227 (by decide) ?_
      have lk38 : (sI S7 h 2).toInt = ((sI S h 2) + 1).toInt := by rw [show sI S7 h 2 = (sI S h 2) + 1 from w8]
      have lk39 : (sI S7 h 3).toInt = (sI S h 3).toInt := by rw [hF.i hk (by decide) (by decide)]
      refine pc_Vi (As := [.int 4, .int 4]) (rest := []) F (b_X9_readsSet l D cy A S7 h 4 4 hG (hF.k hk (by decide)) (by omega)) (cwV 2 hts gX9_readsClause_X9_readsSet rfl rfl rfl (by decide +kernel) ⟨Nat.le_of_ble_eq_true rfl, Nat.le_of_ble_eq_true rfl⟩) hK hZ hA hW hS (hF.k hk (by decide)) (by decide) rfl rfl hl.1 rfl (Nat.le_of_ble_eq_true rfl) dX9_readsClause_228 ⟨Nat.le_of_ble_eq_true rfl, Nat.le_of_ble_eq_true rfl⟩ (fun v40 T41 H locs p42 hW hS => ?_)
      obtain ⟨hG, hFc, p42⟩ := p42
      have hF : Fr [] [902, 904, 911, 912, 913, 914, 915, 916, 917] S T41 := hF.tr (hFc.mono (by decide))
      have g43 : (0 : Int) ≤ (sI T41 h 2).toInt ∧ (sI T41 h 2).toInt ≤ 100 := hG.i (hF.k hk (by decide)) (by decide) 2 (by decide)
      refine lv_if_ne (tgt := 236) hx hb dX9_readsClause_231 (by decide) (fun c44 => ?_) (fun c44 => ?_)
      · have c44i : ¬ (Int32.toInt v40 = (0 : Int)) := fun h9 => c44 ((i3_eq _ _).mpr h9)
        refine lv_aload_n hx hb dX9_readsClause_236 rfl (lv_at hl 1 rfl) ?_
        refine lv_aload_n hx hb dX9_readsClause_237 rfl (lv_at hl 1 rfl) ?_
        refine pg_gi (ci := 9) (C := RX9) (T := TX9) (N := 63) hx hb hts wi9 hown hK hW (hF.k hk (by decide)) (by decide) rfl 17 (by decide) (hts (.fieldLink RX9 161 "IceHallModel" "number" "I") (by decide +kernel)) (fun _ h9 => h9) rfl dX9_readsClause_238 ?_
        refine pg_pi (ci := 9) (C := RX9) (T := TX9) (N := 63) hx hb hts wi9 tyX9 tyX9_ok nmX9 hown hK hW hS (hF.k hk (by decide)) (by decide) rfl 13 (by decide) (hts (.fieldLink RX9 184 "IceHallModel" "saidKinds" "I") (by decide +kernel)) (fun _ h9 => h9) rfl rfl rfl dX9_readsClause_241 (fun H locs hW hS => ?_)
        have kq45 : sK T41 h = 9 := (hF.k hk (by decide))
        obtain ⟨S46, eS46⟩ : ∃ T : St, T = stI T41 h 13 (sI T41 h 17) := ⟨_, rfl⟩
        rw [← eS46] at hW
        have hG : G S46 := by rw [eS46]; exact hG.I kq45 (ok_fr (by decide))
        have w47 : sI S46 h 2 = sI T41 h 2 := by rw [eS46]; exact (iI_k (by decide)).trans rfl
        have hF : Fr [] [902, 904, 911, 912, 913, 914, 915, 916, 917] S S46 := by rw [eS46]; exact hF.I kq45 (by decide)
        clear eS46
        refine lv_iconst (v := 1) hx hb dX9_readsClause_244 (by decide) ?_
        have lk48 : (sI S46 h 2).toInt = (sI T41 h 2).toInt := by rw [show sI S46 h 2 = sI T41 h 2 from w47]
        have lk49 : (sI S46 h 3).toInt = (sI S h 3).toInt := by rw [hF.i hk (by decide) (by decide)]
        exact pc_zret (v := 1) (S := S46) hx hb hr hlk hK hZ hA hW hS (by decide) (⟨hG, hF, by omega⟩) dX9_readsClause_245
      · have c44i : Int32.toInt v40 = (0 : Int) := (i3_eq _ _).mp c44
        refine lv_iconst (v := 0) hx hb dX9_readsClause_234 (by decide) ?_
        have lk50 : (sI T41 h 3).toInt = (sI S h 3).toInt := by rw [hF.i hk (by decide) (by decide)]
        exact pc_zret (v := 0) (S := T41) hx hb hr hlk hK hZ hA hW hS (by decide) (⟨hG, hF, by omega⟩) dX9_readsClause_235
    by_cases c51 : v3 = 110
    · refine lv_lookup (off := 184) (tgt := 246) hx hb dX9_readsClause_62 (by decide) (by rw [c51]; decide) (by decide) ?_
      refine lv_aload_n hx hb dX9_readsClause_246 rfl (lv_at hl 1 rfl) ?_
      refine lv_iconst (v := 0) hx hb dX9_readsClause_247 (by decide) ?_
      refine lv_sipush (v := 999) hx hb dX9_readsClause_248 (by decide) ?_
      have lk52 : (sI S7 h 2).toInt = ((sI S h 2) + 1).toInt := by rw [show sI S7 h 2 = (sI S h 2) + 1 from w8]
      have lk53 : (sI S7 h 3).toInt = (sI S h 3).toInt := by rw [hF.i hk (by decide) (by decide)]
      refine pc_Vi (As := [.int 0, .int 999]) (rest := []) F (b_X9_reads l D cy A S7 h 0 999 hG (hF.k hk (by decide)) (by omega)) (cwV 2 hts gX9_readsClause_X9_reads rfl rfl rfl (by decide +kernel) ⟨Nat.le_of_ble_eq_true rfl, Nat.le_of_ble_eq_true rfl⟩) hK hZ hA hW hS (hF.k hk (by decide)) (by decide) rfl rfl hl.1 rfl (Nat.le_of_ble_eq_true rfl) dX9_readsClause_251 ⟨Nat.le_of_ble_eq_true rfl, Nat.le_of_ble_eq_true rfl⟩ (fun v54 T55 H locs p56 hW hS => ?_)
      obtain ⟨hG, hFc, p56⟩ := p56
      have hF : Fr [] [902, 904, 911, 912, 913, 914, 915, 916, 917] S T55 := hF.tr (hFc.mono (by decide))
      have g57 : (0 : Int) ≤ (sI T55 h 2).toInt ∧ (sI T55 h 2).toInt ≤ 100 := hG.i (hF.k hk (by decide)) (by decide) 2 (by decide)
      refine lv_if_ne (tgt := 259) hx hb dX9_readsClause_254 (by decide) (fun c58 => ?_) (fun c58 => ?_)
      · have c58i : ¬ (Int32.toInt v54 = (0 : Int)) := fun h9 => c58 ((i3_eq _ _).mpr h9)
        refine lv_aload_n hx hb dX9_readsClause_259 rfl (lv_at hl 1 rfl) ?_
        refine lv_aload_n hx hb dX9_readsClause_260 rfl (lv_at hl 1 rfl) ?_
        refine pg_gi (ci := 9) (C := RX9) (T := TX9) (N := 63) hx hb hts wi9 hown hK hW (hF.k hk (by decide)) (by decide) rfl 17 (by decide) (hts (.fieldLink RX9 161 "IceHallModel" "number" "I") (by decide +kernel)) (fun _ h9 => h9) rfl dX9_readsClause_261 ?_
        refine pg_pi (ci := 9) (C := RX9) (T := TX9) (N := 63) hx hb hts wi9 tyX9 tyX9_ok nmX9 hown hK hW hS (hF.k hk (by decide)) (by decide) rfl 14 (by decide) (hts (.fieldLink RX9 187 "IceHallModel" "saidLimit" "I") (by decide +kernel)) (fun _ h9 => h9) rfl rfl rfl dX9_readsClause_264 (fun H locs hW hS => ?_)
        have kq59 : sK T55 h = 9 := (hF.k hk (by decide))
        obtain ⟨S60, eS60⟩ : ∃ T : St, T = stI T55 h 14 (sI T55 h 17) := ⟨_, rfl⟩
        rw [← eS60] at hW
        have hG : G S60 := by rw [eS60]; exact hG.I kq59 (ok_fr (by decide))
        have w61 : sI S60 h 2 = sI T55 h 2 := by rw [eS60]; exact (iI_k (by decide)).trans rfl
        have hF : Fr [] [902, 904, 911, 912, 913, 914, 915, 916, 917] S S60 := by rw [eS60]; exact hF.I kq59 (by decide)
        clear eS60
        refine lv_iconst (v := 1) hx hb dX9_readsClause_267 (by decide) ?_
        have lk62 : (sI S60 h 2).toInt = (sI T55 h 2).toInt := by rw [show sI S60 h 2 = sI T55 h 2 from w61]
        have lk63 : (sI S60 h 3).toInt = (sI S h 3).toInt := by rw [hF.i hk (by decide) (by decide)]
        exact pc_zret (v := 1) (S := S60) hx hb hr hlk hK hZ hA hW hS (by decide) (⟨hG, hF, by omega⟩) dX9_readsClause_268
      · have c58i : Int32.toInt v54 = (0 : Int) := (i3_eq _ _).mp c58
        refine lv_iconst (v := 0) hx hb dX9_readsClause_257 (by decide) ?_
        have lk64 : (sI T55 h 3).toInt = (sI S h 3).toInt := by rw [hF.i hk (by decide) (by decide)]
        exact pc_zret (v := 0) (S := T55) hx hb hr hlk hK hZ hA hW hS (by decide) (⟨hG, hF, by omega⟩) dX9_readsClause_258
    by_cases c65 : v3 = 119
    · refine lv_lookup (off := 50) (tgt := 112) hx hb dX9_readsClause_62 (by decide) (by rw [c65]; decide) (by decide) ?_
      refine lv_aload_n hx hb dX9_readsClause_112 rfl (lv_at hl 1 rfl) ?_
      refine lv_iconst (v := 0) hx hb dX9_readsClause_113 (by decide) ?_
      refine lv_bipush (v := 23) hx hb dX9_readsClause_114 (by decide) ?_
      have lk66 : (sI S7 h 2).toInt = ((sI S h 2) + 1).toInt := by rw [show sI S7 h 2 = (sI S h 2) + 1 from w8]
      have lk67 : (sI S7 h 3).toInt = (sI S h 3).toInt := by rw [hF.i hk (by decide) (by decide)]
      refine pc_Vi (As := [.int 0, .int 23]) (rest := []) F (b_X9_reads l D cy A S7 h 0 23 hG (hF.k hk (by decide)) (by omega)) (cwV 2 hts gX9_readsClause_X9_reads rfl rfl rfl (by decide +kernel) ⟨Nat.le_of_ble_eq_true rfl, Nat.le_of_ble_eq_true rfl⟩) hK hZ hA hW hS (hF.k hk (by decide)) (by decide) rfl rfl hl.1 rfl (Nat.le_of_ble_eq_true rfl) dX9_readsClause_116 ⟨Nat.le_of_ble_eq_true rfl, Nat.le_of_ble_eq_true rfl⟩ (fun v68 T69 H locs p70 hW hS => ?_)
      obtain ⟨hG, hFc, p70⟩ := p70
      have hF : Fr [] [902, 904, 911, 912, 913, 914, 915, 916, 917] S T69 := hF.tr (hFc.mono (by decide))
      have g71 : (0 : Int) ≤ (sI T69 h 2).toInt ∧ (sI T69 h 2).toInt ≤ 100 := hG.i (hF.k hk (by decide)) (by decide) 2 (by decide)
      refine lv_if_ne (tgt := 124) hx hb dX9_readsClause_119 (by decide) (fun c72 => ?_) (fun c72 => ?_)
      · have c72i : ¬ (Int32.toInt v68 = (0 : Int)) := fun h9 => c72 ((i3_eq _ _).mpr h9)
        refine lv_aload_n hx hb dX9_readsClause_124 rfl (lv_at hl 1 rfl) ?_
        refine pg_gi (ci := 9) (C := RX9) (T := TX9) (N := 63) hx hb hts wi9 hown hK hW (hF.k hk (by decide)) (by decide) rfl 17 (by decide) (hts (.fieldLink RX9 161 "IceHallModel" "number" "I") (by decide +kernel)) (fun _ h9 => h9) rfl dX9_readsClause_125 ?_
        refine lv_istore_n (lv' := [(2, .int (sI T69 h 17)), (1, .int v3), (0, .ref h)]) hx hb dX9_readsClause_128 rfl hl (by decide) rfl (fun ls hl => ?_)
        refine lv_aload_n hx hb dX9_readsClause_129 rfl (lv_at hl 2 rfl) ?_
        have lk73 : (sI T69 h 3).toInt = (sI S h 3).toInt := by rw [hF.i hk (by decide) (by decide)]
        refine pc_Vi (As := []) (rest := []) F (b_X9_here l D cy A T69 h hG (hF.k hk (by decide))) (cwV 0 hts gX9_readsClause_X9_here rfl rfl rfl (by decide +kernel) ⟨Nat.le_of_ble_eq_true rfl, Nat.le_of_ble_eq_true rfl⟩) hK hZ hA hW hS (hF.k hk (by decide)) (by decide) rfl rfl hl.1 rfl (Nat.le_of_ble_eq_true rfl) dX9_readsClause_130 ⟨Nat.le_of_ble_eq_true rfl, Nat.le_of_ble_eq_true rfl⟩ (fun v74 T75 H locs p76 hW hS => ?_)
        obtain ⟨eT75, p76⟩ := p76
        rw [eT75] at hW
        clear eT75
        refine lv_bipush (v := 45) hx hb dX9_readsClause_133 (by decide) ?_
        refine lv_icmp_eq (tgt := 148) hx hb dX9_readsClause_135 (by decide) (fun c77 => ?_) (fun c77 => ?_)
        · have c77i : Int32.toInt v74 = (45 : Int) := (i3_eq _ _).mp c77
          refine lv_aload_n hx hb dX9_readsClause_148 rfl (lv_at hl 2 rfl) ?_
          refine lv_aload_n hx hb dX9_readsClause_149 rfl (lv_at hl 2 rfl) ?_
          refine pg_gi (ci := 9) (C := RX9) (T := TX9) (N := 63) hx hb hts wi9 hown hK hW (hF.k hk (by decide)) (by decide) rfl 2 (by decide) (hts (.fieldLink RX9 148 "IceHallModel" "place" "I") (by decide +kernel)) (fun _ h9 => h9) rfl dX9_readsClause_150 ?_
          rw [show sI T69 h 2 = sI T69 h 2 from rfl]
          refine lv_iconst (v := 1) hx hb dX9_readsClause_153 (by decide) ?_
          refine lv_iadd hx hb dX9_readsClause_154 ?_
          have l78 : ((sI T69 h 2) + 1).toInt = Int32.toInt (sI T69 h 2) + (1 : Int) := i3_add rfl rfl (by omega) (by omega)
          refine pg_pi (ci := 9) (C := RX9) (T := TX9) (N := 63) hx hb hts wi9 tyX9 tyX9_ok nmX9 hown hK hW hS (hF.k hk (by decide)) (by decide) rfl 2 (by decide) (hts (.fieldLink RX9 148 "IceHallModel" "place" "I") (by decide +kernel)) (fun _ h9 => h9) rfl rfl rfl dX9_readsClause_155 (fun H locs hW hS => ?_)
          have kq79 : sK T69 h = 9 := (hF.k hk (by decide))
          obtain ⟨S80, eS80⟩ : ∃ T : St, T = stI T69 h 2 ((sI T69 h 2) + 1) := ⟨_, rfl⟩
          rw [← eS80] at hW
          have hG : G S80 := by rw [eS80]; exact hG.I kq79 (ok_in 0 100 (by decide) (⟨by omega, by omega⟩))
          have hF : Fr [] [902, 904, 911, 912, 913, 914, 915, 916, 917] S S80 := by rw [eS80]; exact hF.I kq79 (by decide)
          have w81 : sI S80 h 2 = (sI T69 h 2) + 1 := by rw [eS80]; exact iI_s
          clear eS80
          refine lv_aload_n hx hb dX9_readsClause_158 rfl (lv_at hl 2 rfl) ?_
          refine lv_iload_n hx hb dX9_readsClause_159 rfl (lv_at hl 0 rfl) ?_
          refine lv_iconst (v := 1) hx hb dX9_readsClause_160 (by decide) ?_
          refine lv_iadd hx hb dX9_readsClause_161 ?_
          refine lv_bipush (v := 24) hx hb dX9_readsClause_162 (by decide) ?_
          have lk82 : (sI S80 h 2).toInt = ((sI T69 h 2) + 1).toInt := by rw [show sI S80 h 2 = (sI T69 h 2) + 1 from w81]
          have lk83 : (sI S80 h 3).toInt = (sI S h 3).toInt := by rw [hF.i hk (by decide) (by decide)]
          refine pc_Vi (As := [.int ((sI T69 h 17) + 1), .int 24]) (rest := []) F (b_X9_reads l D cy A S80 h ((sI T69 h 17) + 1) 24 hG (hF.k hk (by decide)) (by omega)) (cwV 2 hts gX9_readsClause_X9_reads rfl rfl rfl (by decide +kernel) ⟨Nat.le_of_ble_eq_true rfl, Nat.le_of_ble_eq_true rfl⟩) hK hZ hA hW hS (hF.k hk (by decide)) (by decide) rfl rfl hl.1 rfl (Nat.le_of_ble_eq_true rfl) dX9_readsClause_164 ⟨Nat.le_of_ble_eq_true rfl, Nat.le_of_ble_eq_true rfl⟩ (fun v84 T85 H locs p86 hW hS => ?_)
          obtain ⟨hG, hFc, p86⟩ := p86
          have hF : Fr [] [902, 904, 911, 912, 913, 914, 915, 916, 917] S T85 := hF.tr (hFc.mono (by decide))
          have g87 : (0 : Int) ≤ (sI T85 h 2).toInt ∧ (sI T85 h 2).toInt ≤ 100 := hG.i (hF.k hk (by decide)) (by decide) 2 (by decide)
          refine lv_if_ne (tgt := 172) hx hb dX9_readsClause_167 (by decide) (fun c88 => ?_) (fun c88 => ?_)
          · have c88i : ¬ (Int32.toInt v84 = (0 : Int)) := fun h9 => c88 ((i3_eq _ _).mpr h9)
            refine lv_iload_n hx hb dX9_readsClause_172 rfl (lv_at hl 0 rfl) ?_
            refine lv_istore_n (lv' := [(3, .int (sI T69 h 17)), (2, .int (sI T69 h 17)), (1, .int v3), (0, .ref h)]) hx hb dX9_readsClause_173 rfl hl (by decide) rfl (fun ls hl => ?_)
            have hE89 : Fr [] [902, 904, 911, 912, 913, 914, 915, 916, 917] T85 T85 := Fr.rf _ _ _
            have loop174 : ∀ (zn : Nat) (y : Int32) (L174 : St) (H : Heap) (locs : List Loc) (ls : Array Slot), (G L174) → (Fr [] [902, 904, 911, 912, 913, 914, 915, 916, 917] T85 L174) → ((sI S h 2).toInt ≤ (sI L174 h 2).toInt ∧ (sI L174 h 2).toInt ≤ (sI S h 3).toInt) → (2147483647 - y.toInt).toNat < zn → PW D cy A L174 H → va_S A s.heap H locs → lv_has ls 4 [(0, .ref h), (1, .int v3), (2, .int (sI T69 h 17)), (3, .int y)] → W p l e ({ frames := 3, cells := 0, slots := 0, locals := 63 } : Room) s m args below meth c H locs 0 0 (MQ below (va_Qi (fun r S1 => G S1 ∧ Fr [] [902, 904, 911, 912, 913, 914, 915, 916, 917] S S1 ∧ ((sI S1 h 2).toInt ≤ (sI S h 3).toInt ∧ (sI S h 2).toInt ≤ (sI S1 h 2).toInt)) (PU D cy A) A) args s 0 0 A) (F0 m 174 ls []) := by
              intro zn
              induction zn with
              | zero => intros; exact absurd (by assumption) (Nat.not_lt_zero _)
              | succ zn ih174 =>
                intro y L174 H locs ls hG hL174 hpl hme174 hW hS hl
                have hF : Fr [] [902, 904, 911, 912, 913, 914, 915, 916, 917] S L174 := hF.tr hL174
                have hE89 := hL174
                have g90 : (0 : Int) ≤ (sI L174 h 2).toInt ∧ (sI L174 h 2).toInt ≤ 100 := hG.i (hF.k hk (by decide)) (by decide) 2 (by decide)
                have lk91 : (sI L174 h 3).toInt = (sI S h 3).toInt := by rw [hF.i hk (by decide) (by decide)]
                have hb9 := i3_bd y
                have hb7 := i3_bd (sI L174 h 17)
                refine lv_iload_n hx hb dX9_readsClause_174 rfl (lv_at hl 3 rfl) ?_
                refine lv_aload_n hx hb dX9_readsClause_175 rfl (lv_at hl 0 rfl) ?_
                refine pg_gi (ci := 9) (C := RX9) (T := TX9) (N := 63) hx hb hts wi9 hown hK hW (hF.k hk (by decide)) (by decide) rfl 17 (by decide) (hts (.fieldLink RX9 161 "IceHallModel" "number" "I") (by decide +kernel)) (fun _ h9 => h9) rfl dX9_readsClause_176 ?_
                refine lv_icmp_ge (tgt := 200) hx hb dX9_readsClause_179 (by decide) (fun c92 => ?_) (fun c92 => ?_)
                · have c92i : Int32.toInt (sI L174 h 17) ≤ Int32.toInt y := (i3_le _ _).mp c92
                  refine lv_iconst (v := 1) hx hb dX9_readsClause_200 (by decide) ?_
                  have lk93 : (sI L174 h 3).toInt = (sI S h 3).toInt := by rw [hF.i hk (by decide) (by decide)]
                  exact pc_zret (v := 1) (S := L174) hx hb hr hlk hK hZ hA hW hS (by decide) (⟨hG, hF, by omega⟩) dX9_readsClause_201
                · have c92i : ¬ (Int32.toInt (sI L174 h 17) ≤ Int32.toInt y) := fun h9 => c92 ((i3_le _ _).mpr h9)
                  refine lv_aload_n hx hb dX9_readsClause_182 rfl (lv_at hl 0 rfl) ?_
                  refine lv_aload_n hx hb dX9_readsClause_183 rfl (lv_at hl 0 rfl) ?_
                  refine pg_gi (ci := 9) (C := RX9) (T := TX9) (N := 63) hx hb hts wi9 hown hK hW (hF.k hk (by decide)) (by decide) rfl 11 (by decide) (hts (.fieldLink RX9 175 "IceHallModel" "saidClocks" "I") (by decide +kernel)) (fun _ h9 => h9) rfl dX9_readsClause_184 ?_
                  refine lv_iconst (v := 1) hx hb dX9_readsClause_187 (by decide) ?_
                  refine lv_iload_n hx hb dX9_readsClause_188 rfl (lv_at hl 3 rfl) ?_
                  refine lv_ishl hx hb dX9_readsClause_189 ?_
                  refine lv_ior hx hb dX9_readsClause_190 ?_
                  refine pg_pi (ci := 9) (C := RX9) (T := TX9) (N := 63) hx hb hts wi9 tyX9 tyX9_ok nmX9 hown hK hW hS (hF.k hk (by decide)) (by decide) rfl 11 (by decide) (hts (.fieldLink RX9 175 "IceHallModel" "saidClocks" "I") (by decide +kernel)) (fun _ h9 => h9) rfl rfl rfl dX9_readsClause_191 (fun H locs hW hS => ?_)
                  have kq94 : sK L174 h = 9 := (hF.k hk (by decide))
                  obtain ⟨S95, eS95⟩ : ∃ T : St, T = stI L174 h 11 ((sI L174 h 11) ||| (1 <<< (y &&& 31))) := ⟨_, rfl⟩
                  rw [← eS95] at hW
                  have hG : G S95 := by rw [eS95]; exact hG.I kq94 (ok_fr (by decide))
                  have w96 : sI S95 h 2 = sI L174 h 2 := by rw [eS95]; exact (iI_k (by decide)).trans rfl
                  have hF : Fr [] [902, 904, 911, 912, 913, 914, 915, 916, 917] S S95 := by rw [eS95]; exact hF.I kq94 (by decide)
                  have hE89 : Fr [] [902, 904, 911, 912, 913, 914, 915, 916, 917] T85 S95 := by rw [eS95]; exact hE89.I kq94 (by decide)
                  clear eS95
                  refine lv_iinc (v := y + 1) (lv' := [(3, .int (y + 1)), (0, .ref h), (1, .int v3), (2, .int (sI T69 h 17))]) hx hb dX9_readsClause_194 hl (k := 3) rfl rfl (by decide) rfl (fun ls hl => ?_)
                  have i97 : (y + 1).toInt = (y).toInt + 1 := i3_add rfl rfl (by omega) (by omega)
                  refine lv_goto (tgt := 174) hx hb dX9_readsClause_197 (by decide) ?_
                  have lk98 : (sI S95 h 2).toInt = (sI L174 h 2).toInt := by rw [show sI S95 h 2 = sI L174 h 2 from w96]
                  have lk99 : (sI S95 h 3).toInt = (sI S h 3).toInt := by rw [hF.i hk (by decide) (by decide)]
                  exact ih174 (y + 1) S95 _ _ ls hG hE89 (by omega) (by omega) hW hS (lv_cast (lv_sub hl [1, 2, 3, 0] rfl) (rfl))
            have lk100 : (sI T85 h 3).toInt = (sI S h 3).toInt := by rw [hF.i hk (by decide) (by decide)]
            exact loop174 _ (sI T69 h 17) T85 _ _ ls hG hE89 (by omega) (Nat.lt_succ_self _) hW hS (lv_cast (lv_sub hl [3, 2, 1, 0] rfl) (rfl))
          · have c88i : Int32.toInt v84 = (0 : Int) := (i3_eq _ _).mp c88
            refine lv_iconst (v := 0) hx hb dX9_readsClause_170 (by decide) ?_
            have lk101 : (sI T85 h 3).toInt = (sI S h 3).toInt := by rw [hF.i hk (by decide) (by decide)]
            exact pc_zret (v := 0) (S := T85) hx hb hr hlk hK hZ hA hW hS (by decide) (⟨hG, hF, by omega⟩) dX9_readsClause_171
        · have c77i : ¬ (Int32.toInt v74 = (45 : Int)) := fun h9 => c77 ((i3_eq _ _).mpr h9)
          refine lv_aload_n hx hb dX9_readsClause_138 rfl (lv_at hl 2 rfl) ?_
          refine lv_iconst (v := 1) hx hb dX9_readsClause_139 (by decide) ?_
          refine lv_aload_n hx hb dX9_readsClause_140 rfl (lv_at hl 2 rfl) ?_
          refine pg_gi (ci := 9) (C := RX9) (T := TX9) (N := 63) hx hb hts wi9 hown hK hW (hF.k hk (by decide)) (by decide) rfl 2 (by decide) (hts (.fieldLink RX9 148 "IceHallModel" "place" "I") (by decide +kernel)) (fun _ h9 => h9) rfl dX9_readsClause_141 ?_
          rw [show sI T69 h 2 = sI T69 h 2 from rfl]
          have lk102 : (sI T69 h 3).toInt = (sI S h 3).toInt := by rw [hF.i hk (by decide) (by decide)]
          refine pc_Vi (As := [.int 1, .int (sI T69 h 2)]) (rest := []) F (b_X9_wrong l D cy A T69 h 1 (sI T69 h 2) hG (hF.k hk (by decide))) (cwV 2 hts gX9_readsClause_X9_wrong rfl rfl rfl (by decide +kernel) ⟨Nat.le_of_ble_eq_true rfl, Nat.le_of_ble_eq_true rfl⟩) hK hZ hA hW hS (hF.k hk (by decide)) (by decide) rfl rfl hl.1 rfl (Nat.le_of_ble_eq_true rfl) dX9_readsClause_144 ⟨Nat.le_of_ble_eq_true rfl, Nat.le_of_ble_eq_true rfl⟩ (fun v103 T104 H locs p105 hW hS => ?_)
          obtain ⟨hG, hFc, p105⟩ := p105
          have w106 : sI T104 h 2 = sI T69 h 2 := (hFc.i (hF.k hk (by decide)) (by decide) (by decide)).trans rfl
          have hF : Fr [] [902, 904, 911, 912, 913, 914, 915, 916, 917] S T104 := hF.tr (hFc.mono (by decide))
          rw [show v103 = 0 from p105]
          have lk107 : (sI T104 h 2).toInt = (sI T69 h 2).toInt := by rw [show sI T104 h 2 = sI T69 h 2 from w106]
          have lk108 : (sI T104 h 3).toInt = (sI S h 3).toInt := by rw [hF.i hk (by decide) (by decide)]
          exact pc_zret (v := 0) (S := T104) hx hb hr hlk hK hZ hA hW hS (by decide) (⟨hG, hF, by omega⟩) dX9_readsClause_147
      · have c72i : Int32.toInt v68 = (0 : Int) := (i3_eq _ _).mp c72
        refine lv_iconst (v := 0) hx hb dX9_readsClause_122 (by decide) ?_
        have lk109 : (sI T69 h 3).toInt = (sI S h 3).toInt := by rw [hF.i hk (by decide) (by decide)]
        exact pc_zret (v := 0) (S := T69) hx hb hr hlk hK hZ hA hW hS (by decide) (⟨hG, hF, by omega⟩) dX9_readsClause_123
    refine lv_lookup (off := 230) (tgt := 292) hx hb dX9_readsClause_62 (by decide) (by have qc9 : ¬ (100 : Int) = Int32.toInt v3 := fun h9 => lv_neT c9 (a := 100) rfl h9.symm; have qc23 : ¬ (102 : Int) = Int32.toInt v3 := fun h9 => lv_neT c23 (a := 102) rfl h9.symm; have qc37 : ¬ (107 : Int) = Int32.toInt v3 := fun h9 => lv_neT c37 (a := 107) rfl h9.symm; have qc51 : ¬ (110 : Int) = Int32.toInt v3 := fun h9 => lv_neT c51 (a := 110) rfl h9.symm; have qc65 : ¬ (119 : Int) = Int32.toInt v3 := fun h9 => lv_neT c65 (a := 119) rfl h9.symm; show (if (100 : Int) = Int32.toInt v3 then (140 : Int) else if (102 : Int) = Int32.toInt v3 then (207 : Int) else if (107 : Int) = Int32.toInt v3 then (163 : Int) else if (110 : Int) = Int32.toInt v3 then (184 : Int) else if (119 : Int) = Int32.toInt v3 then (50 : Int) else (230 : Int)) = _; rw [if_neg qc9, if_neg qc23, if_neg qc37, if_neg qc51, if_neg qc65]) (by decide) ?_
    refine lv_aload_n hx hb dX9_readsClause_292 rfl (lv_at hl 1 rfl) ?_
    refine lv_iconst (v := 0) hx hb dX9_readsClause_293 (by decide) ?_
    refine lv_bipush (v := 100) hx hb dX9_readsClause_294 (by decide) ?_
    have lk110 : (sI S7 h 2).toInt = ((sI S h 2) + 1).toInt := by rw [show sI S7 h 2 = (sI S h 2) + 1 from w8]
    have lk111 : (sI S7 h 3).toInt = (sI S h 3).toInt := by rw [hF.i hk (by decide) (by decide)]
    refine pc_Vi (As := [.int 0, .int 100]) (rest := []) F (b_X9_reads l D cy A S7 h 0 100 hG (hF.k hk (by decide)) (by omega)) (cwV 2 hts gX9_readsClause_X9_reads rfl rfl rfl (by decide +kernel) ⟨Nat.le_of_ble_eq_true rfl, Nat.le_of_ble_eq_true rfl⟩) hK hZ hA hW hS (hF.k hk (by decide)) (by decide) rfl rfl hl.1 rfl (Nat.le_of_ble_eq_true rfl) dX9_readsClause_296 ⟨Nat.le_of_ble_eq_true rfl, Nat.le_of_ble_eq_true rfl⟩ (fun v112 T113 H locs p114 hW hS => ?_)
    obtain ⟨hG, hFc, p114⟩ := p114
    have hF : Fr [] [902, 904, 911, 912, 913, 914, 915, 916, 917] S T113 := hF.tr (hFc.mono (by decide))
    have g115 : (0 : Int) ≤ (sI T113 h 2).toInt ∧ (sI T113 h 2).toInt ≤ 100 := hG.i (hF.k hk (by decide)) (by decide) 2 (by decide)
    refine lv_if_ne (tgt := 304) hx hb dX9_readsClause_299 (by decide) (fun c116 => ?_) (fun c116 => ?_)
    · have c116i : ¬ (Int32.toInt v112 = (0 : Int)) := fun h9 => c116 ((i3_eq _ _).mpr h9)
      refine lv_aload_n hx hb dX9_readsClause_304 rfl (lv_at hl 1 rfl) ?_
      refine lv_aload_n hx hb dX9_readsClause_305 rfl (lv_at hl 1 rfl) ?_
      refine pg_gi (ci := 9) (C := RX9) (T := TX9) (N := 63) hx hb hts wi9 hown hK hW (hF.k hk (by decide)) (by decide) rfl 17 (by decide) (hts (.fieldLink RX9 161 "IceHallModel" "number" "I") (by decide +kernel)) (fun _ h9 => h9) rfl dX9_readsClause_306 ?_
      refine pg_pi (ci := 9) (C := RX9) (T := TX9) (N := 63) hx hb hts wi9 tyX9 tyX9_ok nmX9 hown hK hW hS (hF.k hk (by decide)) (by decide) rfl 16 (by decide) (hts (.fieldLink RX9 193 "IceHallModel" "saidHundredths" "I") (by decide +kernel)) (fun _ h9 => h9) rfl rfl rfl dX9_readsClause_309 (fun H locs hW hS => ?_)
      have kq117 : sK T113 h = 9 := (hF.k hk (by decide))
      obtain ⟨S118, eS118⟩ : ∃ T : St, T = stI T113 h 16 (sI T113 h 17) := ⟨_, rfl⟩
      rw [← eS118] at hW
      have hG : G S118 := by rw [eS118]; exact hG.I kq117 (ok_fr (by decide))
      have w119 : sI S118 h 2 = sI T113 h 2 := by rw [eS118]; exact (iI_k (by decide)).trans rfl
      have hF : Fr [] [902, 904, 911, 912, 913, 914, 915, 916, 917] S S118 := by rw [eS118]; exact hF.I kq117 (by decide)
      clear eS118
      refine lv_iconst (v := 1) hx hb dX9_readsClause_312 (by decide) ?_
      have lk120 : (sI S118 h 2).toInt = (sI T113 h 2).toInt := by rw [show sI S118 h 2 = sI T113 h 2 from w119]
      have lk121 : (sI S118 h 3).toInt = (sI S h 3).toInt := by rw [hF.i hk (by decide) (by decide)]
      exact pc_zret (v := 1) (S := S118) hx hb hr hlk hK hZ hA hW hS (by decide) (⟨hG, hF, by omega⟩) dX9_readsClause_313
    · have c116i : Int32.toInt v112 = (0 : Int) := (i3_eq _ _).mp c116
      refine lv_iconst (v := 0) hx hb dX9_readsClause_302 (by decide) ?_
      have lk122 : (sI T113 h 3).toInt = (sI S h 3).toInt := by rw [hF.i hk (by decide) (by decide)]
      exact pc_zret (v := 0) (S := T113) hx hb hr hlk hK hZ hA hW hS (by decide) (⟨hG, hF, by omega⟩) dX9_readsClause_303
  refine lv_iload_n hx hb dX9_readsClause_5 rfl (lv_at hl 0 rfl) ?_
  refine lv_bipush (v := 119) hx hb dX9_readsClause_6 (by decide) ?_
  refine lv_icmp_eq (tgt := 51) hx hb dX9_readsClause_8 (by decide) (fun c123 => ?_) (fun c123 => ?_)
  · have c123i : Int32.toInt v3 = (119 : Int) := (i3_eq _ _).mp c123
    exact join51 _ _ (by omega) hW hS
  · have c123i : ¬ (Int32.toInt v3 = (119 : Int)) := fun h9 => c123 ((i3_eq _ _).mpr h9)
    refine lv_iload_n hx hb dX9_readsClause_11 rfl (lv_at hl 0 rfl) ?_
    refine lv_bipush (v := 100) hx hb dX9_readsClause_12 (by decide) ?_
    refine lv_icmp_eq (tgt := 51) hx hb dX9_readsClause_14 (by decide) (fun c124 => ?_) (fun c124 => ?_)
    · have c124i : Int32.toInt v3 = (100 : Int) := (i3_eq _ _).mp c124
      exact join51 _ _ (by omega) hW hS
    · have c124i : ¬ (Int32.toInt v3 = (100 : Int)) := fun h9 => c124 ((i3_eq _ _).mpr h9)
      refine lv_iload_n hx hb dX9_readsClause_17 rfl (lv_at hl 0 rfl) ?_
      refine lv_bipush (v := 107) hx hb dX9_readsClause_18 (by decide) ?_
      refine lv_icmp_eq (tgt := 51) hx hb dX9_readsClause_20 (by decide) (fun c125 => ?_) (fun c125 => ?_)
      · have c125i : Int32.toInt v3 = (107 : Int) := (i3_eq _ _).mp c125
        exact join51 _ _ (by omega) hW hS
      · have c125i : ¬ (Int32.toInt v3 = (107 : Int)) := fun h9 => c125 ((i3_eq _ _).mpr h9)
        refine lv_iload_n hx hb dX9_readsClause_23 rfl (lv_at hl 0 rfl) ?_
        refine lv_bipush (v := 110) hx hb dX9_readsClause_24 (by decide) ?_
        refine lv_icmp_eq (tgt := 51) hx hb dX9_readsClause_26 (by decide) (fun c126 => ?_) (fun c126 => ?_)
        · have c126i : Int32.toInt v3 = (110 : Int) := (i3_eq _ _).mp c126
          exact join51 _ _ (by omega) hW hS
        · have c126i : ¬ (Int32.toInt v3 = (110 : Int)) := fun h9 => c126 ((i3_eq _ _).mpr h9)
          refine lv_iload_n hx hb dX9_readsClause_29 rfl (lv_at hl 0 rfl) ?_
          refine lv_bipush (v := 102) hx hb dX9_readsClause_30 (by decide) ?_
          refine lv_icmp_eq (tgt := 51) hx hb dX9_readsClause_32 (by decide) (fun c127 => ?_) (fun c127 => ?_)
          · have c127i : Int32.toInt v3 = (102 : Int) := (i3_eq _ _).mp c127
            exact join51 _ _ (by omega) hW hS
          · have c127i : ¬ (Int32.toInt v3 = (102 : Int)) := fun h9 => c127 ((i3_eq _ _).mpr h9)
            refine lv_iload_n hx hb dX9_readsClause_35 rfl (lv_at hl 0 rfl) ?_
            refine lv_bipush (v := 99) hx hb dX9_readsClause_36 (by decide) ?_
            refine lv_icmp_eq (tgt := 51) hx hb dX9_readsClause_38 (by decide) (fun c128 => ?_) (fun c128 => ?_)
            · have c128i : Int32.toInt v3 = (99 : Int) := (i3_eq _ _).mp c128
              exact join51 _ _ (by omega) hW hS
            · have c128i : ¬ (Int32.toInt v3 = (99 : Int)) := fun h9 => c128 ((i3_eq _ _).mpr h9)
              refine lv_aload_n hx hb dX9_readsClause_41 rfl (lv_at hl 1 rfl) ?_
              refine lv_iconst (v := 1) hx hb dX9_readsClause_42 (by decide) ?_
              refine lv_aload_n hx hb dX9_readsClause_43 rfl (lv_at hl 1 rfl) ?_
              refine pg_gi (ci := 9) (C := RX9) (T := TX9) (N := 63) hx hb hts wi9 hown hK hW hk (by decide) rfl 2 (by decide) (hts (.fieldLink RX9 148 "IceHallModel" "place" "I") (by decide +kernel)) (fun _ h9 => h9) rfl dX9_readsClause_44 ?_
              rw [show sI S h 2 = sI S h 2 from rfl]
              refine pc_Vi (As := [.int 1, .int (sI S h 2)]) (rest := []) F (b_X9_wrong l D cy A S h 1 (sI S h 2) hG hk) (cwV 2 hts gX9_readsClause_X9_wrong rfl rfl rfl (by decide +kernel) ⟨Nat.le_of_ble_eq_true rfl, Nat.le_of_ble_eq_true rfl⟩) hK hZ hA hW hS hk (by decide) rfl rfl hl.1 rfl (Nat.le_of_ble_eq_true rfl) dX9_readsClause_47 ⟨Nat.le_of_ble_eq_true rfl, Nat.le_of_ble_eq_true rfl⟩ (fun v129 T130 H locs p131 hW hS => ?_)
              obtain ⟨hG, hFc, p131⟩ := p131
              have w132 : sI T130 h 2 = sI S h 2 := (hFc.i hk (by decide) (by decide)).trans rfl
              have hF : Fr [] [902, 904, 911, 912, 913, 914, 915, 916, 917] S T130 := hF.tr (hFc.mono (by decide))
              rw [show v129 = 0 from p131]
              have lk133 : (sI T130 h 2).toInt = (sI S h 2).toInt := by rw [show sI T130 h 2 = sI S h 2 from w132]
              have lk134 : (sI T130 h 3).toInt = (sI S h 3).toInt := by rw [hF.i hk (by decide) (by decide)]
              exact pc_zret (v := 0) (S := T130) hx hb hr hlk hK hZ hA hW hS (by decide) (⟨hG, hF, by omega⟩) dX9_readsClause_50
set_option maxHeartbeats 4000000 in
set_option maxRecDepth 100000 in
theorem b_X9_readsText (l : Launch) (D : va_G) (cy : Nat → ClassId) (A : Nat → Prop) (S : St) (h : Nat) (hG0 : G S) (hk : sK S h = 9) (hp : (sI S h 2).toInt ≤ (sI S h 3).toInt) : MI l yX9_readsText wsX9_readsText ({ frames := 4, cells := 0, slots := 0, locals := 86 } : Room) 0 0 D cy A [.ref h] S (fun r S1 => G S1 ∧ Fr [] [902, 904, 911, 912, 913, 914, 915, 916, 917] S S1 ∧ ((sI S h 2).toInt ≤ (sI S1 h 2).toInt)) := by
  refine mt_start (cc := cX9_readsText) (maxL := 2) (ret := (some .boolean)) (by decide) rfl (Nat.le_of_ble_eq_true rfl) ?_
  intro p e s m args below meth c hx hb hr hlk hml hown hnm hts hK hZ hA hW hS ls hl
  have hl : lv_has ls 2 [(0, .ref h)] := hl
  have hown : s.vm.findClass RX9 = some m.cls := hown
  have F : CallFix p m c cX9_readsText 2 s args wsX9_readsText RX9 := ⟨hx, hb, hml, hown, hts⟩
  have wi9 : ∀ w ∈ u_ws RX9 TX9 63, w ∈ wsX9_readsText := by decide +kernel
  have hG := hG0
  have hF : Fr [] [902, 904, 911, 912, 913, 914, 915, 916, 917] S S := Fr.rf _ _ _
  have g1 : (0 : Int) ≤ (sI S h 2).toInt ∧ (sI S h 2).toInt ≤ 100 := hG0.i hk (by decide) 2 (by decide)
  have g2 : (0 : Int) ≤ (sI S h 3).toInt ∧ (sI S h 3).toInt ≤ 80 := hG0.i hk (by decide) 3 (by decide)
  refine lv_iconst (v := 1) hx hb dX9_readsText_0 (by decide) ?_
  refine lv_istore_n (lv' := [(1, .int 1), (0, .ref h)]) hx hb dX9_readsText_1 rfl hl (by decide) rfl (fun ls hl => ?_)
  have loop2 : ∀ (zn : Nat) (mo : Int32) (L2 : St) (H : Heap) (locs : List Loc) (ls : Array Slot), (G L2) → (Fr [] [902, 904, 911, 912, 913, 914, 915, 916, 917] S L2) → ((sI S h 2).toInt ≤ (sI L2 h 2).toInt ∧ (¬ mo.toInt = 0 → (sI L2 h 2).toInt ≤ (sI S h 3).toInt)) → (100 - (sI L2 h 2).toInt).toNat < zn → PW D cy A L2 H → va_S A s.heap H locs → lv_has ls 2 [(0, .ref h), (1, .int mo)] → W p l e ({ frames := 4, cells := 0, slots := 0, locals := 86 } : Room) s m args below meth c H locs 0 0 (MQ below (va_Qi (fun r S1 => G S1 ∧ Fr [] [902, 904, 911, 912, 913, 914, 915, 916, 917] S S1 ∧ ((sI S h 2).toInt ≤ (sI S1 h 2).toInt)) (PU D cy A) A) args s 0 0 A) (F0 m 2 ls []) := by
    intro zn
    induction zn with
    | zero => intros; exact absurd (by assumption) (Nat.not_lt_zero _)
    | succ zn ih2 =>
      intro mo L2 H locs ls hG hL2 hpl hme2 hW hS hl
      have hF := hL2
      have g3 : (0 : Int) ≤ (sI L2 h 2).toInt ∧ (sI L2 h 2).toInt ≤ 100 := hG.i (hF.k hk (by decide)) (by decide) 2 (by decide)
      have lk4 : (sI L2 h 3).toInt = (sI S h 3).toInt := by rw [hF.i hk (by decide) (by decide)]
      refine lv_iload_n hx hb dX9_readsText_2 rfl (lv_at hl 1 rfl) ?_
      refine lv_if_eq (tgt := 68) hx hb dX9_readsText_3 (by decide) (fun c5 => ?_) (fun c5 => ?_)
      · have c5i : Int32.toInt mo = (0 : Int) := (i3_eq _ _).mp c5
        refine lv_iconst (v := 1) hx hb dX9_readsText_68 (by decide) ?_
        have lk6 : (sI L2 h 3).toInt = (sI S h 3).toInt := by rw [hF.i hk (by decide) (by decide)]
        exact pc_zret (v := 1) (S := L2) hx hb hr hlk hK hZ hA hW hS (by decide) (⟨hG, hF, by omega⟩) dX9_readsText_69
      · have c5i : ¬ (Int32.toInt mo = (0 : Int)) := fun h9 => c5 ((i3_eq _ _).mpr h9)
        refine lv_aload_n hx hb dX9_readsText_6 rfl (lv_at hl 0 rfl) ?_
        have lk7 : (sI L2 h 3).toInt = (sI S h 3).toInt := by rw [hF.i hk (by decide) (by decide)]
        refine pc_Vi (As := []) (rest := []) F (b_X9_readsClause l D cy A L2 h hG (hF.k hk (by decide)) (by omega)) (cwV 0 hts gX9_readsText_X9_readsClause rfl rfl rfl (by decide +kernel) ⟨Nat.le_of_ble_eq_true rfl, Nat.le_of_ble_eq_true rfl⟩) hK hZ hA hW hS (hF.k hk (by decide)) (by decide) rfl rfl hl.1 rfl (Nat.le_of_ble_eq_true rfl) dX9_readsText_7 ⟨Nat.le_of_ble_eq_true rfl, Nat.le_of_ble_eq_true rfl⟩ (fun v8 T9 H locs p10 hW hS => ?_)
        obtain ⟨hG, hFc, p10⟩ := p10
        have hF : Fr [] [902, 904, 911, 912, 913, 914, 915, 916, 917] S T9 := hF.tr (hFc.mono (by decide))
        have g11 : (0 : Int) ≤ (sI T9 h 2).toInt ∧ (sI T9 h 2).toInt ≤ 100 := hG.i (hF.k hk (by decide)) (by decide) 2 (by decide)
        refine lv_if_ne (tgt := 15) hx hb dX9_readsText_10 (by decide) (fun c12 => ?_) (fun c12 => ?_)
        · have c12i : ¬ (Int32.toInt v8 = (0 : Int)) := fun h9 => c12 ((i3_eq _ _).mpr h9)
          refine lv_aload_n hx hb dX9_readsText_15 rfl (lv_at hl 0 rfl) ?_
          refine pg_gi (ci := 9) (C := RX9) (T := TX9) (N := 63) hx hb hts wi9 hown hK hW (hF.k hk (by decide)) (by decide) rfl 2 (by decide) (hts (.fieldLink RX9 148 "IceHallModel" "place" "I") (by decide +kernel)) (fun _ h9 => h9) rfl dX9_readsText_16 ?_
          rw [show sI T9 h 2 = sI T9 h 2 from rfl]
          refine lv_aload_n hx hb dX9_readsText_19 rfl (lv_at hl 0 rfl) ?_
          refine pg_gi (ci := 9) (C := RX9) (T := TX9) (N := 63) hx hb hts wi9 hown hK hW (hF.k hk (by decide)) (by decide) rfl 3 (by decide) (hts (.fieldLink RX9 151 "IceHallModel" "size" "I") (by decide +kernel)) (fun _ h9 => h9) rfl dX9_readsText_20 ?_
          have g13 : (0 : Int) ≤ (sI T9 h 3).toInt ∧ (sI T9 h 3).toInt ≤ 80 := hG.i (hF.k hk (by decide)) (by decide) 3 (by decide)
          refine lv_icmp_ge (tgt := 30) hx hb dX9_readsText_23 (by decide) (fun c14 => ?_) (fun c14 => ?_)
          · have c14i : Int32.toInt (sI T9 h 3) ≤ Int32.toInt (sI T9 h 2) := (i3_le _ _).mp c14
            refine lv_iconst (v := 0) hx hb dX9_readsText_30 (by decide) ?_
            refine lv_istore_n (lv' := [(1, .int 0), (0, .ref h)]) hx hb dX9_readsText_31 rfl hl (by decide) rfl (fun ls hl => ?_)
            refine lv_iload_n hx hb dX9_readsText_32 rfl (lv_at hl 0 rfl) ?_
            refine lv_if_eq (tgt := 55) hx hb dX9_readsText_33 (by decide) (fun c15 => ?_) (fun c15 => absurd (by decide) c15)
            refine lv_aload_n hx hb dX9_readsText_55 rfl (lv_at hl 1 rfl) ?_
            refine lv_aload_n hx hb dX9_readsText_56 rfl (lv_at hl 1 rfl) ?_
            refine pg_gi (ci := 9) (C := RX9) (T := TX9) (N := 63) hx hb hts wi9 hown hK hW (hF.k hk (by decide)) (by decide) rfl 2 (by decide) (hts (.fieldLink RX9 148 "IceHallModel" "place" "I") (by decide +kernel)) (fun _ h9 => h9) rfl dX9_readsText_57 ?_
            rw [show sI T9 h 2 = sI T9 h 2 from rfl]
            refine lv_iconst (v := 1) hx hb dX9_readsText_60 (by decide) ?_
            refine lv_iadd hx hb dX9_readsText_61 ?_
            have l16 : ((sI T9 h 2) + 1).toInt = Int32.toInt (sI T9 h 2) + (1 : Int) := i3_add rfl rfl (by omega) (by omega)
            refine pg_pi (ci := 9) (C := RX9) (T := TX9) (N := 63) hx hb hts wi9 tyX9 tyX9_ok nmX9 hown hK hW hS (hF.k hk (by decide)) (by decide) rfl 2 (by decide) (hts (.fieldLink RX9 148 "IceHallModel" "place" "I") (by decide +kernel)) (fun _ h9 => h9) rfl rfl rfl dX9_readsText_62 (fun H locs hW hS => ?_)
            have kq17 : sK T9 h = 9 := (hF.k hk (by decide))
            obtain ⟨S18, eS18⟩ : ∃ T : St, T = stI T9 h 2 ((sI T9 h 2) + 1) := ⟨_, rfl⟩
            rw [← eS18] at hW
            have hG : G S18 := by rw [eS18]; exact hG.I kq17 (ok_in 0 100 (by decide) (⟨by omega, by omega⟩))
            have hF : Fr [] [902, 904, 911, 912, 913, 914, 915, 916, 917] S S18 := by rw [eS18]; exact hF.I kq17 (by decide)
            have w19 : sI S18 h 2 = (sI T9 h 2) + 1 := by rw [eS18]; exact iI_s
            clear eS18
            refine lv_goto (tgt := 2) hx hb dX9_readsText_65 (by decide) ?_
            have lk20 : (sI S18 h 2).toInt = ((sI T9 h 2) + 1).toInt := by rw [show sI S18 h 2 = (sI T9 h 2) + 1 from w19]
            have lk21 : (sI S18 h 3).toInt = (sI S h 3).toInt := by rw [hF.i hk (by decide) (by decide)]
            exact ih2 0 S18 _ _ ls hG hF (by have h1_ : (1 : Int32).toInt = 1 := rfl; have h0_ : (0 : Int32).toInt = 0 := rfl; omega) (by omega) hW hS (lv_cast (lv_sub hl [1, 0] rfl) (rfl))
          · have c14i : ¬ (Int32.toInt (sI T9 h 3) ≤ Int32.toInt (sI T9 h 2)) := fun h9 => c14 ((i3_le _ _).mpr h9)
            refine lv_iconst (v := 1) hx hb dX9_readsText_26 (by decide) ?_
            refine lv_goto (tgt := 31) hx hb dX9_readsText_27 (by decide) ?_
            refine lv_istore_n (lv' := [(1, .int 1), (0, .ref h)]) hx hb dX9_readsText_31 rfl hl (by decide) rfl (fun ls hl => ?_)
            refine lv_iload_n hx hb dX9_readsText_32 rfl (lv_at hl 0 rfl) ?_
            refine lv_if_eq (tgt := 55) hx hb dX9_readsText_33 (by decide) (fun c22 => absurd c22 (by decide)) (fun c22 => ?_)
            refine lv_aload_n hx hb dX9_readsText_36 rfl (lv_at hl 1 rfl) ?_
            have lk23 : (sI T9 h 3).toInt = (sI S h 3).toInt := by rw [hF.i hk (by decide) (by decide)]
            refine pc_Vi (As := []) (rest := []) F (b_X9_here l D cy A T9 h hG (hF.k hk (by decide))) (cwV 0 hts gX9_readsText_X9_here rfl rfl rfl (by decide +kernel) ⟨Nat.le_of_ble_eq_true rfl, Nat.le_of_ble_eq_true rfl⟩) hK hZ hA hW hS (hF.k hk (by decide)) (by decide) rfl rfl hl.1 rfl (Nat.le_of_ble_eq_true rfl) dX9_readsText_37 ⟨Nat.le_of_ble_eq_true rfl, Nat.le_of_ble_eq_true rfl⟩ (fun v24 T25 H locs p26 hW hS => ?_)
            obtain ⟨eT25, p26⟩ := p26
            rw [eT25] at hW
            clear eT25
            refine lv_bipush (v := 59) hx hb dX9_readsText_40 (by decide) ?_
            refine lv_icmp_eq (tgt := 55) hx hb dX9_readsText_42 (by decide) (fun c27 => ?_) (fun c27 => ?_)
            · have c27i : Int32.toInt v24 = (59 : Int) := (i3_eq _ _).mp c27
              refine lv_aload_n hx hb dX9_readsText_55 rfl (lv_at hl 1 rfl) ?_
              refine lv_aload_n hx hb dX9_readsText_56 rfl (lv_at hl 1 rfl) ?_
              refine pg_gi (ci := 9) (C := RX9) (T := TX9) (N := 63) hx hb hts wi9 hown hK hW (hF.k hk (by decide)) (by decide) rfl 2 (by decide) (hts (.fieldLink RX9 148 "IceHallModel" "place" "I") (by decide +kernel)) (fun _ h9 => h9) rfl dX9_readsText_57 ?_
              rw [show sI T9 h 2 = sI T9 h 2 from rfl]
              refine lv_iconst (v := 1) hx hb dX9_readsText_60 (by decide) ?_
              refine lv_iadd hx hb dX9_readsText_61 ?_
              have l28 : ((sI T9 h 2) + 1).toInt = Int32.toInt (sI T9 h 2) + (1 : Int) := i3_add rfl rfl (by omega) (by omega)
              refine pg_pi (ci := 9) (C := RX9) (T := TX9) (N := 63) hx hb hts wi9 tyX9 tyX9_ok nmX9 hown hK hW hS (hF.k hk (by decide)) (by decide) rfl 2 (by decide) (hts (.fieldLink RX9 148 "IceHallModel" "place" "I") (by decide +kernel)) (fun _ h9 => h9) rfl rfl rfl dX9_readsText_62 (fun H locs hW hS => ?_)
              have kq29 : sK T9 h = 9 := (hF.k hk (by decide))
              obtain ⟨S30, eS30⟩ : ∃ T : St, T = stI T9 h 2 ((sI T9 h 2) + 1) := ⟨_, rfl⟩
              rw [← eS30] at hW
              have hG : G S30 := by rw [eS30]; exact hG.I kq29 (ok_in 0 100 (by decide) (⟨by omega, by omega⟩))
              have hF : Fr [] [902, 904, 911, 912, 913, 914, 915, 916, 917] S S30 := by rw [eS30]; exact hF.I kq29 (by decide)
              have w31 : sI S30 h 2 = (sI T9 h 2) + 1 := by rw [eS30]; exact iI_s
              clear eS30
              refine lv_goto (tgt := 2) hx hb dX9_readsText_65 (by decide) ?_
              have lk32 : (sI S30 h 2).toInt = ((sI T9 h 2) + 1).toInt := by rw [show sI S30 h 2 = (sI T9 h 2) + 1 from w31]
              have lk33 : (sI S30 h 3).toInt = (sI S h 3).toInt := by rw [hF.i hk (by decide) (by decide)]
              exact ih2 1 S30 _ _ ls hG hF (by have h1_ : (1 : Int32).toInt = 1 := rfl; have h0_ : (0 : Int32).toInt = 0 := rfl; omega) (by omega) hW hS (lv_cast (lv_sub hl [1, 0] rfl) (rfl))
            · have c27i : ¬ (Int32.toInt v24 = (59 : Int)) := fun h9 => c27 ((i3_eq _ _).mpr h9)
              refine lv_aload_n hx hb dX9_readsText_45 rfl (lv_at hl 1 rfl) ?_
              refine lv_iconst (v := 1) hx hb dX9_readsText_46 (by decide) ?_
              refine lv_aload_n hx hb dX9_readsText_47 rfl (lv_at hl 1 rfl) ?_
              refine pg_gi (ci := 9) (C := RX9) (T := TX9) (N := 63) hx hb hts wi9 hown hK hW (hF.k hk (by decide)) (by decide) rfl 2 (by decide) (hts (.fieldLink RX9 148 "IceHallModel" "place" "I") (by decide +kernel)) (fun _ h9 => h9) rfl dX9_readsText_48 ?_
              rw [show sI T9 h 2 = sI T9 h 2 from rfl]
              have lk34 : (sI T9 h 3).toInt = (sI S h 3).toInt := by rw [hF.i hk (by decide) (by decide)]
              refine pc_Vi (As := [.int 1, .int (sI T9 h 2)]) (rest := []) F (b_X9_wrong l D cy A T9 h 1 (sI T9 h 2) hG (hF.k hk (by decide))) (cwV 2 hts gX9_readsText_X9_wrong rfl rfl rfl (by decide +kernel) ⟨Nat.le_of_ble_eq_true rfl, Nat.le_of_ble_eq_true rfl⟩) hK hZ hA hW hS (hF.k hk (by decide)) (by decide) rfl rfl hl.1 rfl (Nat.le_of_ble_eq_true rfl) dX9_readsText_51 ⟨Nat.le_of_ble_eq_true rfl, Nat.le_of_ble_eq_true rfl⟩ (fun v35 T36 H locs p37 hW hS => ?_)
              obtain ⟨hG, hFc, p37⟩ := p37
              have w38 : sI T36 h 2 = sI T9 h 2 := (hFc.i (hF.k hk (by decide)) (by decide) (by decide)).trans rfl
              have hF : Fr [] [902, 904, 911, 912, 913, 914, 915, 916, 917] S T36 := hF.tr (hFc.mono (by decide))
              rw [show v35 = 0 from p37]
              have lk39 : (sI T36 h 2).toInt = (sI T9 h 2).toInt := by rw [show sI T36 h 2 = sI T9 h 2 from w38]
              have lk40 : (sI T36 h 3).toInt = (sI S h 3).toInt := by rw [hF.i hk (by decide) (by decide)]
              exact pc_zret (v := 0) (S := T36) hx hb hr hlk hK hZ hA hW hS (by decide) (⟨hG, hF, by omega⟩) dX9_readsText_54
        · have c12i : Int32.toInt v8 = (0 : Int) := (i3_eq _ _).mp c12
          refine lv_iconst (v := 0) hx hb dX9_readsText_13 (by decide) ?_
          have lk41 : (sI T9 h 3).toInt = (sI S h 3).toInt := by rw [hF.i hk (by decide) (by decide)]
          exact pc_zret (v := 0) (S := T9) hx hb hr hlk hK hZ hA hW hS (by decide) (⟨hG, hF, by omega⟩) dX9_readsText_14
  exact loop2 _ 1 S _ _ ls hG hF (by omega) (Nat.lt_succ_self _) hW hS (lv_cast (lv_sub hl [1, 0] rfl) (rfl))
set_option maxHeartbeats 4000000 in
set_option maxRecDepth 100000 in
theorem b_X9_rights (l : Launch) (D : va_G) (cy : Nat → ClassId) (A : Nat → Prop) (S : St) (h : Nat) (a b : Int32) (hG0 : G S) (hk : sK S h = 9) : MI l yX9_rights wsX9_rights ({ frames := 5, cells := 0, slots := 0, locals := 107 } : Room) 0 0 D cy A [.ref h, .int a, .int b] S (fun r S1 => G S1 ∧ Fr [] [901, 902, 903, 904, 911, 912, 913, 914, 915, 916, 917, 1100] S S1 ∧ (((0 ≤ a.toInt ∧ a.toInt < 6 ∧ 0 ≤ b.toInt ∧ b.toInt ≤ (sI S h 1).toInt) → sI S1 h 1 = 0) ∧ (¬ (0 ≤ a.toInt ∧ a.toInt < 6 ∧ 0 ≤ b.toInt ∧ b.toInt ≤ (sI S h 1).toInt) → sI S1 h 1 = sI S h 1))) := by
  refine mt_start (cc := cX9_rights) (maxL := 4) (ret := (some .int)) (by decide) rfl (Nat.le_of_ble_eq_true rfl) ?_
  intro p e s m args below meth c hx hb hr hlk hml hown hnm hts hK hZ hA hW hS ls hl
  have hl : lv_has ls 4 [(0, .ref h), (1, .int a), (2, .int b)] := hl
  have hown : s.vm.findClass RX9 = some m.cls := hown
  have F : CallFix p m c cX9_rights 4 s args wsX9_rights RX9 := ⟨hx, hb, hml, hown, hts⟩
  have wi9 : ∀ w ∈ u_ws RX9 TX9 63, w ∈ wsX9_rights := by decide +kernel
  have hG := hG0
  have hF : Fr [] [901, 902, 903, 904, 911, 912, 913, 914, 915, 916, 917, 1100] S S := Fr.rf _ _ _
  refine lv_iload_n hx hb dX9_rights_0 rfl (lv_at hl 1 rfl) ?_
  refine lv_if_lt (tgt := 22) hx hb dX9_rights_1 (by decide) (fun c1 => ?_) (fun c1 => ?_)
  · have c1i : Int32.toInt a < (0 : Int) := (i3_lt _ _).mp c1
    refine lv_iconst (v := (-1)) hx hb dX9_rights_22 (by decide) ?_
    exact pc_iret (v := (-1)) (S := S) hx hb hr hlk hK hZ hA hW hS (⟨hG, hF, ⟨fun h9 => absurd h9 (by omega), fun _ => rfl⟩⟩) dX9_rights_23
  · have c1i : ¬ (Int32.toInt a < (0 : Int)) := fun h9 => c1 ((i3_lt _ _).mpr h9)
    refine lv_iload_n hx hb dX9_rights_4 rfl (lv_at hl 1 rfl) ?_
    refine lv_bipush (v := 6) hx hb dX9_rights_5 (by decide) ?_
    refine lv_icmp_ge (tgt := 22) hx hb dX9_rights_7 (by decide) (fun c2 => ?_) (fun c2 => ?_)
    · have c2i : (6 : Int) ≤ Int32.toInt a := (i3_le _ _).mp c2
      refine lv_iconst (v := (-1)) hx hb dX9_rights_22 (by decide) ?_
      exact pc_iret (v := (-1)) (S := S) hx hb hr hlk hK hZ hA hW hS (⟨hG, hF, ⟨fun h9 => absurd h9 (by omega), fun _ => rfl⟩⟩) dX9_rights_23
    · have c2i : ¬ ((6 : Int) ≤ Int32.toInt a) := fun h9 => c2 ((i3_le _ _).mpr h9)
      refine lv_iload_n hx hb dX9_rights_10 rfl (lv_at hl 2 rfl) ?_
      refine lv_if_lt (tgt := 22) hx hb dX9_rights_11 (by decide) (fun c3 => ?_) (fun c3 => ?_)
      · have c3i : Int32.toInt b < (0 : Int) := (i3_lt _ _).mp c3
        refine lv_iconst (v := (-1)) hx hb dX9_rights_22 (by decide) ?_
        exact pc_iret (v := (-1)) (S := S) hx hb hr hlk hK hZ hA hW hS (⟨hG, hF, ⟨fun h9 => absurd h9 (by omega), fun _ => rfl⟩⟩) dX9_rights_23
      · have c3i : ¬ (Int32.toInt b < (0 : Int)) := fun h9 => c3 ((i3_lt _ _).mpr h9)
        refine lv_iload_n hx hb dX9_rights_14 rfl (lv_at hl 2 rfl) ?_
        refine lv_aload_n hx hb dX9_rights_15 rfl (lv_at hl 0 rfl) ?_
        refine pg_gi (ci := 9) (C := RX9) (T := TX9) (N := 63) hx hb hts wi9 hown hK hW hk (by decide) rfl 1 (by decide) (hts (.fieldLink RX9 141 "IceHallModel" "taped" "I") (by decide +kernel)) (fun _ h9 => h9) rfl dX9_rights_16 ?_
        have g4 : (0 : Int) ≤ (sI S h 1).toInt ∧ (sI S h 1).toInt ≤ 80 := hG.i hk (by decide) 1 (by decide)
        refine lv_icmp_le (tgt := 24) hx hb dX9_rights_19 (by decide) (fun c5 => ?_) (fun c5 => ?_)
        · have c5i : Int32.toInt b ≤ Int32.toInt (sI S h 1) := (i3_le _ _).mp c5
          refine lv_aload_n hx hb dX9_rights_24 rfl (lv_at hl 0 rfl) ?_
          refine lv_iconst (v := 0) hx hb dX9_rights_25 (by decide) ?_
          refine pg_pi (ci := 9) (C := RX9) (T := TX9) (N := 63) hx hb hts wi9 tyX9 tyX9_ok nmX9 hown hK hW hS hk (by decide) rfl 2 (by decide) (hts (.fieldLink RX9 148 "IceHallModel" "place" "I") (by decide +kernel)) (fun _ h9 => h9) rfl rfl rfl dX9_rights_26 (fun H locs hW hS => ?_)
          obtain ⟨S6, eS6⟩ : ∃ T : St, T = stI S h 2 0 := ⟨_, rfl⟩
          rw [← eS6] at hW
          have hG : G S6 := by rw [eS6]; exact hG.I hk (ok_in 0 100 (by decide) (by decide))
          have hF : Fr [] [901, 902, 903, 904, 911, 912, 913, 914, 915, 916, 917, 1100] S S6 := by rw [eS6]; exact hF.I hk (by decide)
          have w7 : sI S6 h 2 = 0 := by rw [eS6]; exact iI_s
          clear eS6
          refine lv_aload_n hx hb dX9_rights_29 rfl (lv_at hl 0 rfl) ?_
          refine lv_iload_n hx hb dX9_rights_30 rfl (lv_at hl 2 rfl) ?_
          refine pg_pi (ci := 9) (C := RX9) (T := TX9) (N := 63) hx hb hts wi9 tyX9 tyX9_ok nmX9 hown hK hW hS (hF.k hk (by decide)) (by decide) rfl 3 (by decide) (hts (.fieldLink RX9 151 "IceHallModel" "size" "I") (by decide +kernel)) (fun _ h9 => h9) rfl rfl rfl dX9_rights_31 (fun H locs hW hS => ?_)
          have kq8 : sK S6 h = 9 := (hF.k hk (by decide))
          obtain ⟨S9, eS9⟩ : ∃ T : St, T = stI S6 h 3 b := ⟨_, rfl⟩
          rw [← eS9] at hW
          have hG : G S9 := by rw [eS9]; exact hG.I kq8 (ok_in 0 80 (by decide) (⟨by omega, by omega⟩))
          have w10 : sI S9 h 2 = 0 := by rw [eS9]; exact (iI_k (by decide)).trans w7
          have hF : Fr [] [901, 902, 903, 904, 911, 912, 913, 914, 915, 916, 917, 1100] S S9 := by rw [eS9]; exact hF.I kq8 (by decide)
          have w11 : sI S9 h 3 = b := by rw [eS9]; exact iI_s
          clear eS9
          refine lv_aload_n hx hb dX9_rights_34 rfl (lv_at hl 0 rfl) ?_
          refine lv_iconst (v := 0) hx hb dX9_rights_35 (by decide) ?_
          refine pg_pi (ci := 9) (C := RX9) (T := TX9) (N := 63) hx hb hts wi9 tyX9 tyX9_ok nmX9 hown hK hW hS (hF.k hk (by decide)) (by decide) rfl 4 (by decide) (hts (.fieldLink RX9 158 "IceHallModel" "fault" "I") (by decide +kernel)) (fun _ h9 => h9) rfl rfl rfl dX9_rights_36 (fun H locs hW hS => ?_)
          have kq12 : sK S9 h = 9 := (hF.k hk (by decide))
          obtain ⟨S13, eS13⟩ : ∃ T : St, T = stI S9 h 4 0 := ⟨_, rfl⟩
          rw [← eS13] at hW
          have hG : G S13 := by rw [eS13]; exact hG.I kq12 (ok_fr (by decide))
          have w14 : sI S13 h 2 = 0 := by rw [eS13]; exact (iI_k (by decide)).trans w10
          have w15 : sI S13 h 3 = b := by rw [eS13]; exact (iI_k (by decide)).trans w11
          have hF : Fr [] [901, 902, 903, 904, 911, 912, 913, 914, 915, 916, 917, 1100] S S13 := by rw [eS13]; exact hF.I kq12 (by decide)
          clear eS13
          refine lv_aload_n hx hb dX9_rights_39 rfl (lv_at hl 0 rfl) ?_
          refine lv_iconst (v := 0) hx hb dX9_rights_40 (by decide) ?_
          refine pg_pi (ci := 9) (C := RX9) (T := TX9) (N := 63) hx hb hts wi9 tyX9 tyX9_ok nmX9 hown hK hW hS (hF.k hk (by decide)) (by decide) rfl 11 (by decide) (hts (.fieldLink RX9 175 "IceHallModel" "saidClocks" "I") (by decide +kernel)) (fun _ h9 => h9) rfl rfl rfl dX9_rights_41 (fun H locs hW hS => ?_)
          have kq16 : sK S13 h = 9 := (hF.k hk (by decide))
          obtain ⟨S17, eS17⟩ : ∃ T : St, T = stI S13 h 11 0 := ⟨_, rfl⟩
          rw [← eS17] at hW
          have hG : G S17 := by rw [eS17]; exact hG.I kq16 (ok_fr (by decide))
          have w18 : sI S17 h 2 = 0 := by rw [eS17]; exact (iI_k (by decide)).trans w14
          have w19 : sI S17 h 3 = b := by rw [eS17]; exact (iI_k (by decide)).trans w15
          have hF : Fr [] [901, 902, 903, 904, 911, 912, 913, 914, 915, 916, 917, 1100] S S17 := by rw [eS17]; exact hF.I kq16 (by decide)
          clear eS17
          refine lv_aload_n hx hb dX9_rights_44 rfl (lv_at hl 0 rfl) ?_
          refine lv_bipush (v := 127) hx hb dX9_rights_45 (by decide) ?_
          refine pg_pi (ci := 9) (C := RX9) (T := TX9) (N := 63) hx hb hts wi9 tyX9 tyX9_ok nmX9 hown hK hW hS (hF.k hk (by decide)) (by decide) rfl 12 (by decide) (hts (.fieldLink RX9 181 "IceHallModel" "saidDays" "I") (by decide +kernel)) (fun _ h9 => h9) rfl rfl rfl dX9_rights_47 (fun H locs hW hS => ?_)
          have kq20 : sK S17 h = 9 := (hF.k hk (by decide))
          obtain ⟨S21, eS21⟩ : ∃ T : St, T = stI S17 h 12 127 := ⟨_, rfl⟩
          rw [← eS21] at hW
          have hG : G S21 := by rw [eS21]; exact hG.I kq20 (ok_fr (by decide))
          have w22 : sI S21 h 2 = 0 := by rw [eS21]; exact (iI_k (by decide)).trans w18
          have w23 : sI S21 h 3 = b := by rw [eS21]; exact (iI_k (by decide)).trans w19
          have hF : Fr [] [901, 902, 903, 904, 911, 912, 913, 914, 915, 916, 917, 1100] S S21 := by rw [eS21]; exact hF.I kq20 (by decide)
          clear eS21
          refine lv_aload_n hx hb dX9_rights_50 rfl (lv_at hl 0 rfl) ?_
          refine lv_bipush (v := 15) hx hb dX9_rights_51 (by decide) ?_
          refine pg_pi (ci := 9) (C := RX9) (T := TX9) (N := 63) hx hb hts wi9 tyX9 tyX9_ok nmX9 hown hK hW hS (hF.k hk (by decide)) (by decide) rfl 13 (by decide) (hts (.fieldLink RX9 184 "IceHallModel" "saidKinds" "I") (by decide +kernel)) (fun _ h9 => h9) rfl rfl rfl dX9_rights_53 (fun H locs hW hS => ?_)
          have kq24 : sK S21 h = 9 := (hF.k hk (by decide))
          obtain ⟨S25, eS25⟩ : ∃ T : St, T = stI S21 h 13 15 := ⟨_, rfl⟩
          rw [← eS25] at hW
          have hG : G S25 := by rw [eS25]; exact hG.I kq24 (ok_fr (by decide))
          have w26 : sI S25 h 2 = 0 := by rw [eS25]; exact (iI_k (by decide)).trans w22
          have w27 : sI S25 h 3 = b := by rw [eS25]; exact (iI_k (by decide)).trans w23
          have hF : Fr [] [901, 902, 903, 904, 911, 912, 913, 914, 915, 916, 917, 1100] S S25 := by rw [eS25]; exact hF.I kq24 (by decide)
          clear eS25
          refine lv_aload_n hx hb dX9_rights_56 rfl (lv_at hl 0 rfl) ?_
          refine lv_sipush (v := 168) hx hb dX9_rights_57 (by decide) ?_
          refine pg_pi (ci := 9) (C := RX9) (T := TX9) (N := 63) hx hb hts wi9 tyX9 tyX9_ok nmX9 hown hK hW hS (hF.k hk (by decide)) (by decide) rfl 14 (by decide) (hts (.fieldLink RX9 187 "IceHallModel" "saidLimit" "I") (by decide +kernel)) (fun _ h9 => h9) rfl rfl rfl dX9_rights_60 (fun H locs hW hS => ?_)
          have kq28 : sK S25 h = 9 := (hF.k hk (by decide))
          obtain ⟨S29, eS29⟩ : ∃ T : St, T = stI S25 h 14 168 := ⟨_, rfl⟩
          rw [← eS29] at hW
          have hG : G S29 := by rw [eS29]; exact hG.I kq28 (ok_fr (by decide))
          have w30 : sI S29 h 2 = 0 := by rw [eS29]; exact (iI_k (by decide)).trans w26
          have w31 : sI S29 h 3 = b := by rw [eS29]; exact (iI_k (by decide)).trans w27
          have hF : Fr [] [901, 902, 903, 904, 911, 912, 913, 914, 915, 916, 917, 1100] S S29 := by rw [eS29]; exact hF.I kq28 (by decide)
          clear eS29
          refine lv_aload_n hx hb dX9_rights_63 rfl (lv_at hl 0 rfl) ?_
          refine lv_bipush (v := 100) hx hb dX9_rights_64 (by decide) ?_
          refine pg_pi (ci := 9) (C := RX9) (T := TX9) (N := 63) hx hb hts wi9 tyX9 tyX9_ok nmX9 hown hK hW hS (hF.k hk (by decide)) (by decide) rfl 15 (by decide) (hts (.fieldLink RX9 190 "IceHallModel" "saidFee" "I") (by decide +kernel)) (fun _ h9 => h9) rfl rfl rfl dX9_rights_66 (fun H locs hW hS => ?_)
          have kq32 : sK S29 h = 9 := (hF.k hk (by decide))
          obtain ⟨S33, eS33⟩ : ∃ T : St, T = stI S29 h 15 100 := ⟨_, rfl⟩
          rw [← eS33] at hW
          have hG : G S33 := by rw [eS33]; exact hG.I kq32 (ok_fr (by decide))
          have w34 : sI S33 h 2 = 0 := by rw [eS33]; exact (iI_k (by decide)).trans w30
          have w35 : sI S33 h 3 = b := by rw [eS33]; exact (iI_k (by decide)).trans w31
          have hF : Fr [] [901, 902, 903, 904, 911, 912, 913, 914, 915, 916, 917, 1100] S S33 := by rw [eS33]; exact hF.I kq32 (by decide)
          clear eS33
          refine lv_aload_n hx hb dX9_rights_69 rfl (lv_at hl 0 rfl) ?_
          refine lv_bipush (v := 50) hx hb dX9_rights_70 (by decide) ?_
          refine pg_pi (ci := 9) (C := RX9) (T := TX9) (N := 63) hx hb hts wi9 tyX9 tyX9_ok nmX9 hown hK hW hS (hF.k hk (by decide)) (by decide) rfl 16 (by decide) (hts (.fieldLink RX9 193 "IceHallModel" "saidHundredths" "I") (by decide +kernel)) (fun _ h9 => h9) rfl rfl rfl dX9_rights_72 (fun H locs hW hS => ?_)
          have kq36 : sK S33 h = 9 := (hF.k hk (by decide))
          obtain ⟨S37, eS37⟩ : ∃ T : St, T = stI S33 h 16 50 := ⟨_, rfl⟩
          rw [← eS37] at hW
          have hG : G S37 := by rw [eS37]; exact hG.I kq36 (ok_fr (by decide))
          have w38 : sI S37 h 2 = 0 := by rw [eS37]; exact (iI_k (by decide)).trans w34
          have w39 : sI S37 h 3 = b := by rw [eS37]; exact (iI_k (by decide)).trans w35
          have hF : Fr [] [901, 902, 903, 904, 911, 912, 913, 914, 915, 916, 917, 1100] S S37 := by rw [eS37]; exact hF.I kq36 (by decide)
          clear eS37
          refine lv_aload_n hx hb dX9_rights_75 rfl (lv_at hl 0 rfl) ?_
          refine pc_Vi (As := []) (rest := []) F (b_X9_readsText l D cy A S37 h hG (hF.k hk (by decide)) (by rw [w38, w39]; have h0_ : (0 : Int32).toInt = 0 := rfl; omega)) (cwV 0 hts gX9_rights_X9_readsText rfl rfl rfl (by decide +kernel) ⟨Nat.le_of_ble_eq_true rfl, Nat.le_of_ble_eq_true rfl⟩) hK hZ hA hW hS (hF.k hk (by decide)) (by decide) rfl rfl hl.1 rfl (Nat.le_of_ble_eq_true rfl) dX9_rights_76 ⟨Nat.le_of_ble_eq_true rfl, Nat.le_of_ble_eq_true rfl⟩ (fun v40 T41 H locs p42 hW hS => ?_)
          obtain ⟨hG, hFc, p42⟩ := p42
          have w43 : sI T41 h 3 = b := (hFc.i (hF.k hk (by decide)) (by decide) (by decide)).trans w39
          have hF : Fr [] [901, 902, 903, 904, 911, 912, 913, 914, 915, 916, 917, 1100] S T41 := hF.tr (hFc.mono (by decide))
          refine lv_istore_n (lv' := [(3, .int v40), (0, .ref h), (1, .int a), (2, .int b)]) hx hb dX9_rights_79 rfl hl (by decide) rfl (fun ls hl => ?_)
          refine lv_aload_n hx hb dX9_rights_80 rfl (lv_at hl 1 rfl) ?_
          refine lv_iconst (v := 0) hx hb dX9_rights_81 (by decide) ?_
          refine pg_pi (ci := 9) (C := RX9) (T := TX9) (N := 63) hx hb hts wi9 tyX9 tyX9_ok nmX9 hown hK hW hS (hF.k hk (by decide)) (by decide) rfl 1 (by decide) (hts (.fieldLink RX9 141 "IceHallModel" "taped" "I") (by decide +kernel)) (fun _ h9 => h9) rfl rfl rfl dX9_rights_82 (fun H locs hW hS => ?_)
          have kq44 : sK T41 h = 9 := (hF.k hk (by decide))
          obtain ⟨S45, eS45⟩ : ∃ T : St, T = stI T41 h 1 0 := ⟨_, rfl⟩
          rw [← eS45] at hW
          have hG : G S45 := by rw [eS45]; exact hG.I kq44 (ok_in 0 80 (by decide) (by decide))
          have w46 : sI S45 h 3 = b := by rw [eS45]; exact (iI_k (by decide)).trans w43
          have hF : Fr [] [901, 902, 903, 904, 911, 912, 913, 914, 915, 916, 917, 1100] S S45 := by rw [eS45]; exact hF.I kq44 (by decide)
          have w47 : sI S45 h 1 = 0 := by rw [eS45]; exact iI_s
          clear eS45
          refine lv_iload_n hx hb dX9_rights_85 rfl (lv_at hl 0 rfl) ?_
          refine lv_if_ne (tgt := 94) hx hb dX9_rights_86 (by decide) (fun c48 => ?_) (fun c48 => ?_)
          · have c48i : ¬ (Int32.toInt v40 = (0 : Int)) := fun h9 => c48 ((i3_eq _ _).mpr h9)
            refine lv_aload_n hx hb dX9_rights_94 rfl (lv_at hl 1 rfl) ?_
            obtain ⟨b49, rb49, kb49, nb49⟩ := hG0.r hk List.not_mem_nil 5 (show rty 9 5 = some (11, 6) from rfl)
            refine pg_gr (b := b49) (ci := 9) (C := RX9) (T := TX9) (N := 63) hx hb hts wi9 hown hK hW (hF.k hk (by decide)) (by decide) rfl 5 (by decide) (hts (.fieldLink RX9 13 "IceHallModel" "clocks" "[I") (by decide +kernel)) (fun _ h9 => h9) rfl (hF.r hk (by decide) rb49) dX9_rights_95 ?_
            refine lv_iload_n hx hb dX9_rights_98 rfl (lv_at hl 2 rfl) ?_
            have join115 : ∀ (v115 : Int32) (H : Heap) (locs : List Loc), PW D cy A S45 H → va_S A s.heap H locs → W p l e ({ frames := 5, cells := 0, slots := 0, locals := 107 } : Room) s m args below meth c H locs 0 0 (MQ below (va_Qi (fun r S1 => G S1 ∧ Fr [] [901, 902, 903, 904, 911, 912, 913, 914, 915, 916, 917, 1100] S S1 ∧ (((0 ≤ a.toInt ∧ a.toInt < 6 ∧ 0 ≤ b.toInt ∧ b.toInt ≤ (sI S h 1).toInt) → sI S1 h 1 = 0) ∧ (¬ (0 ≤ a.toInt ∧ a.toInt < 6 ∧ 0 ≤ b.toInt ∧ b.toInt ≤ (sI S h 1).toInt) → sI S1 h 1 = sI S h 1))) (PU D cy A) A) args s 0 0 A) (F0 m 115 ls [.int v115, .int a, .ref b49]) := by
              intro v115 H locs hW hS
              refine pg_iast hx hb hK hW hS (hF.k kb49 (by decide)) (by decide) (by rw [show sL S45 b49 = 6 from (hF.n kb49 (by decide) nb49)]; exact r_in (by omega)) dX9_rights_115 (fun H locs hW hS => ?_)
              have kq50 : sK S45 b49 = 11 := (hF.k kb49 (by decide))
              obtain ⟨S51, eS51⟩ : ∃ T : St, T = stI S45 b49 (Int32.toNatClampNeg a) v115 := ⟨_, rfl⟩
              rw [← eS51] at hW
              have hG : G S51 := by rw [eS51]; exact hG.I kq50 (ok_frA (by decide) (by decide))
              have w52 : sI S51 h 3 = b := by rw [eS51]; exact (iI_a (fk_ne (hF.k hk (by decide)) kq50 (by decide))).trans w46
              have w53 : sI S51 h 1 = 0 := by rw [eS51]; exact (iI_a (fk_ne (hF.k hk (by decide)) kq50 (by decide))).trans w47
              have hF : Fr [] [901, 902, 903, 904, 911, 912, 913, 914, 915, 916, 917, 1100] S S51 := by rw [eS51]; exact hF.IA kq50 (by decide) (by decide)
              clear eS51
              refine lv_aload_n hx hb dX9_rights_116 rfl (lv_at hl 1 rfl) ?_
              obtain ⟨b54, rb54, kb54, nb54⟩ := hG0.r hk List.not_mem_nil 6 (show rty 9 6 = some (11, 6) from rfl)
              refine pg_gr (b := b54) (ci := 9) (C := RX9) (T := TX9) (N := 63) hx hb hts wi9 hown hK hW (hF.k hk (by decide)) (by decide) rfl 6 (by decide) (hts (.fieldLink RX9 17 "IceHallModel" "daysOf" "[I") (by decide +kernel)) (fun _ h9 => h9) rfl (hF.r hk (by decide) rb54) dX9_rights_117 ?_
              refine lv_iload_n hx hb dX9_rights_120 rfl (lv_at hl 2 rfl) ?_
              refine lv_aload_n hx hb dX9_rights_121 rfl (lv_at hl 1 rfl) ?_
              refine pg_gi (ci := 9) (C := RX9) (T := TX9) (N := 63) hx hb hts wi9 hown hK hW (hF.k hk (by decide)) (by decide) rfl 12 (by decide) (hts (.fieldLink RX9 181 "IceHallModel" "saidDays" "I") (by decide +kernel)) (fun _ h9 => h9) rfl dX9_rights_122 ?_
              refine pg_iast hx hb hK hW hS (hF.k kb54 (by decide)) (by decide) (by rw [show sL S51 b54 = 6 from (hF.n kb54 (by decide) nb54)]; exact r_in (by omega)) dX9_rights_125 (fun H locs hW hS => ?_)
              have kq55 : sK S51 b54 = 11 := (hF.k kb54 (by decide))
              obtain ⟨S56, eS56⟩ : ∃ T : St, T = stI S51 b54 (Int32.toNatClampNeg a) (sI S51 h 12) := ⟨_, rfl⟩
              rw [← eS56] at hW
              have hG : G S56 := by rw [eS56]; exact hG.I kq55 (ok_frA (by decide) (by decide))
              have w57 : sI S56 h 3 = b := by rw [eS56]; exact (iI_a (fk_ne (hF.k hk (by decide)) kq55 (by decide))).trans w52
              have w58 : sI S56 h 1 = 0 := by rw [eS56]; exact (iI_a (fk_ne (hF.k hk (by decide)) kq55 (by decide))).trans w53
              have hF : Fr [] [901, 902, 903, 904, 911, 912, 913, 914, 915, 916, 917, 1100] S S56 := by rw [eS56]; exact hF.IA kq55 (by decide) (by decide)
              clear eS56
              refine lv_aload_n hx hb dX9_rights_126 rfl (lv_at hl 1 rfl) ?_
              obtain ⟨b59, rb59, kb59, nb59⟩ := hG0.r hk List.not_mem_nil 7 (show rty 9 7 = some (11, 6) from rfl)
              refine pg_gr (b := b59) (ci := 9) (C := RX9) (T := TX9) (N := 63) hx hb hts wi9 hown hK hW (hF.k hk (by decide)) (by decide) rfl 7 (by decide) (hts (.fieldLink RX9 20 "IceHallModel" "kinds" "[I") (by decide +kernel)) (fun _ h9 => h9) rfl (hF.r hk (by decide) rb59) dX9_rights_127 ?_
              refine lv_iload_n hx hb dX9_rights_130 rfl (lv_at hl 2 rfl) ?_
              refine lv_aload_n hx hb dX9_rights_131 rfl (lv_at hl 1 rfl) ?_
              refine pg_gi (ci := 9) (C := RX9) (T := TX9) (N := 63) hx hb hts wi9 hown hK hW (hF.k hk (by decide)) (by decide) rfl 13 (by decide) (hts (.fieldLink RX9 184 "IceHallModel" "saidKinds" "I") (by decide +kernel)) (fun _ h9 => h9) rfl dX9_rights_132 ?_
              refine pg_iast hx hb hK hW hS (hF.k kb59 (by decide)) (by decide) (by rw [show sL S56 b59 = 6 from (hF.n kb59 (by decide) nb59)]; exact r_in (by omega)) dX9_rights_135 (fun H locs hW hS => ?_)
              have kq60 : sK S56 b59 = 11 := (hF.k kb59 (by decide))
              obtain ⟨S61, eS61⟩ : ∃ T : St, T = stI S56 b59 (Int32.toNatClampNeg a) (sI S56 h 13) := ⟨_, rfl⟩
              rw [← eS61] at hW
              have hG : G S61 := by rw [eS61]; exact hG.I kq60 (ok_frA (by decide) (by decide))
              have w62 : sI S61 h 3 = b := by rw [eS61]; exact (iI_a (fk_ne (hF.k hk (by decide)) kq60 (by decide))).trans w57
              have w63 : sI S61 h 1 = 0 := by rw [eS61]; exact (iI_a (fk_ne (hF.k hk (by decide)) kq60 (by decide))).trans w58
              have hF : Fr [] [901, 902, 903, 904, 911, 912, 913, 914, 915, 916, 917, 1100] S S61 := by rw [eS61]; exact hF.IA kq60 (by decide) (by decide)
              clear eS61
              refine lv_aload_n hx hb dX9_rights_136 rfl (lv_at hl 1 rfl) ?_
              obtain ⟨b64, rb64, kb64, nb64⟩ := hG0.r hk List.not_mem_nil 8 (show rty 9 8 = some (11, 6) from rfl)
              refine pg_gr (b := b64) (ci := 9) (C := RX9) (T := TX9) (N := 63) hx hb hts wi9 hown hK hW (hF.k hk (by decide)) (by decide) rfl 8 (by decide) (hts (.fieldLink RX9 23 "IceHallModel" "limit" "[I") (by decide +kernel)) (fun _ h9 => h9) rfl (hF.r hk (by decide) rb64) dX9_rights_137 ?_
              refine lv_iload_n hx hb dX9_rights_140 rfl (lv_at hl 2 rfl) ?_
              refine lv_aload_n hx hb dX9_rights_141 rfl (lv_at hl 1 rfl) ?_
              refine pg_gi (ci := 9) (C := RX9) (T := TX9) (N := 63) hx hb hts wi9 hown hK hW (hF.k hk (by decide)) (by decide) rfl 14 (by decide) (hts (.fieldLink RX9 187 "IceHallModel" "saidLimit" "I") (by decide +kernel)) (fun _ h9 => h9) rfl dX9_rights_142 ?_
              refine pg_iast hx hb hK hW hS (hF.k kb64 (by decide)) (by decide) (by rw [show sL S61 b64 = 6 from (hF.n kb64 (by decide) nb64)]; exact r_in (by omega)) dX9_rights_145 (fun H locs hW hS => ?_)
              have kq65 : sK S61 b64 = 11 := (hF.k kb64 (by decide))
              obtain ⟨S66, eS66⟩ : ∃ T : St, T = stI S61 b64 (Int32.toNatClampNeg a) (sI S61 h 14) := ⟨_, rfl⟩
              rw [← eS66] at hW
              have hG : G S66 := by rw [eS66]; exact hG.I kq65 (ok_frA (by decide) (by decide))
              have w67 : sI S66 h 3 = b := by rw [eS66]; exact (iI_a (fk_ne (hF.k hk (by decide)) kq65 (by decide))).trans w62
              have w68 : sI S66 h 1 = 0 := by rw [eS66]; exact (iI_a (fk_ne (hF.k hk (by decide)) kq65 (by decide))).trans w63
              have hF : Fr [] [901, 902, 903, 904, 911, 912, 913, 914, 915, 916, 917, 1100] S S66 := by rw [eS66]; exact hF.IA kq65 (by decide) (by decide)
              clear eS66
              refine lv_aload_n hx hb dX9_rights_146 rfl (lv_at hl 1 rfl) ?_
              obtain ⟨b69, rb69, kb69, nb69⟩ := hG0.r hk List.not_mem_nil 9 (show rty 9 9 = some (11, 6) from rfl)
              refine pg_gr (b := b69) (ci := 9) (C := RX9) (T := TX9) (N := 63) hx hb hts wi9 hown hK hW (hF.k hk (by decide)) (by decide) rfl 9 (by decide) (hts (.fieldLink RX9 26 "IceHallModel" "fee" "[I") (by decide +kernel)) (fun _ h9 => h9) rfl (hF.r hk (by decide) rb69) dX9_rights_147 ?_
              refine lv_iload_n hx hb dX9_rights_150 rfl (lv_at hl 2 rfl) ?_
              refine lv_aload_n hx hb dX9_rights_151 rfl (lv_at hl 1 rfl) ?_
              refine pg_gi (ci := 9) (C := RX9) (T := TX9) (N := 63) hx hb hts wi9 hown hK hW (hF.k hk (by decide)) (by decide) rfl 15 (by decide) (hts (.fieldLink RX9 190 "IceHallModel" "saidFee" "I") (by decide +kernel)) (fun _ h9 => h9) rfl dX9_rights_152 ?_
              refine pg_iast hx hb hK hW hS (hF.k kb69 (by decide)) (by decide) (by rw [show sL S66 b69 = 6 from (hF.n kb69 (by decide) nb69)]; exact r_in (by omega)) dX9_rights_155 (fun H locs hW hS => ?_)
              have kq70 : sK S66 b69 = 11 := (hF.k kb69 (by decide))
              obtain ⟨S71, eS71⟩ : ∃ T : St, T = stI S66 b69 (Int32.toNatClampNeg a) (sI S66 h 15) := ⟨_, rfl⟩
              rw [← eS71] at hW
              have hG : G S71 := by rw [eS71]; exact hG.I kq70 (ok_frA (by decide) (by decide))
              have w72 : sI S71 h 3 = b := by rw [eS71]; exact (iI_a (fk_ne (hF.k hk (by decide)) kq70 (by decide))).trans w67
              have w73 : sI S71 h 1 = 0 := by rw [eS71]; exact (iI_a (fk_ne (hF.k hk (by decide)) kq70 (by decide))).trans w68
              have hF : Fr [] [901, 902, 903, 904, 911, 912, 913, 914, 915, 916, 917, 1100] S S71 := by rw [eS71]; exact hF.IA kq70 (by decide) (by decide)
              clear eS71
              refine lv_aload_n hx hb dX9_rights_156 rfl (lv_at hl 1 rfl) ?_
              obtain ⟨b74, rb74, kb74, nb74⟩ := hG0.r hk List.not_mem_nil 10 (show rty 9 10 = some (11, 6) from rfl)
              refine pg_gr (b := b74) (ci := 9) (C := RX9) (T := TX9) (N := 63) hx hb hts wi9 hown hK hW (hF.k hk (by decide)) (by decide) rfl 10 (by decide) (hts (.fieldLink RX9 29 "IceHallModel" "hundredths" "[I") (by decide +kernel)) (fun _ h9 => h9) rfl (hF.r hk (by decide) rb74) dX9_rights_157 ?_
              refine lv_iload_n hx hb dX9_rights_160 rfl (lv_at hl 2 rfl) ?_
              refine lv_aload_n hx hb dX9_rights_161 rfl (lv_at hl 1 rfl) ?_
              refine pg_gi (ci := 9) (C := RX9) (T := TX9) (N := 63) hx hb hts wi9 hown hK hW (hF.k hk (by decide)) (by decide) rfl 16 (by decide) (hts (.fieldLink RX9 193 "IceHallModel" "saidHundredths" "I") (by decide +kernel)) (fun _ h9 => h9) rfl dX9_rights_162 ?_
              refine pg_iast hx hb hK hW hS (hF.k kb74 (by decide)) (by decide) (by rw [show sL S71 b74 = 6 from (hF.n kb74 (by decide) nb74)]; exact r_in (by omega)) dX9_rights_165 (fun H locs hW hS => ?_)
              have kq75 : sK S71 b74 = 11 := (hF.k kb74 (by decide))
              obtain ⟨S76, eS76⟩ : ∃ T : St, T = stI S71 b74 (Int32.toNatClampNeg a) (sI S71 h 16) := ⟨_, rfl⟩
              rw [← eS76] at hW
              have hG : G S76 := by rw [eS76]; exact hG.I kq75 (ok_frA (by decide) (by decide))
              have w77 : sI S76 h 3 = b := by rw [eS76]; exact (iI_a (fk_ne (hF.k hk (by decide)) kq75 (by decide))).trans w72
              have w78 : sI S76 h 1 = 0 := by rw [eS76]; exact (iI_a (fk_ne (hF.k hk (by decide)) kq75 (by decide))).trans w73
              have hF : Fr [] [901, 902, 903, 904, 911, 912, 913, 914, 915, 916, 917, 1100] S S76 := by rw [eS76]; exact hF.IA kq75 (by decide) (by decide)
              clear eS76
              refine lv_iconst (v := 0) hx hb dX9_rights_166 (by decide) ?_
              exact pc_iret (v := 0) (S := S76) hx hb hr hlk hK hZ hA hW hS (⟨hG, hF, ⟨fun _ => w78, fun h9 => absurd h9 (fun h8 => h8 (by omega))⟩⟩) dX9_rights_167
            refine lv_aload_n hx hb dX9_rights_99 rfl (lv_at hl 1 rfl) ?_
            refine pg_gi (ci := 9) (C := RX9) (T := TX9) (N := 63) hx hb hts wi9 hown hK hW (hF.k hk (by decide)) (by decide) rfl 11 (by decide) (hts (.fieldLink RX9 175 "IceHallModel" "saidClocks" "I") (by decide +kernel)) (fun _ h9 => h9) rfl dX9_rights_100 ?_
            refine lv_if_ne (tgt := 111) hx hb dX9_rights_103 (by decide) (fun c79 => ?_) (fun c79 => ?_)
            · have c79i : ¬ (Int32.toInt (sI S45 h 11) = (0 : Int)) := fun h9 => c79 ((i3_eq _ _).mpr h9)
              refine lv_aload_n hx hb dX9_rights_111 rfl (lv_at hl 1 rfl) ?_
              refine pg_gi (ci := 9) (C := RX9) (T := TX9) (N := 63) hx hb hts wi9 hown hK hW (hF.k hk (by decide)) (by decide) rfl 11 (by decide) (hts (.fieldLink RX9 175 "IceHallModel" "saidClocks" "I") (by decide +kernel)) (fun _ h9 => h9) rfl dX9_rights_112 ?_
              exact join115 (sI S45 h 11) _ _  hW hS
            · have c79i : Int32.toInt (sI S45 h 11) = (0 : Int) := (i3_eq _ _).mp c79
              refine lv_ldc (v := (16777215)) hx hb hown (hts (.constant RX9 140 (16777215)) (by decide +kernel)) dX9_rights_106 ?_
              refine lv_goto (tgt := 115) hx hb dX9_rights_108 (by decide) ?_
              exact join115 ((16777215)) _ _  hW hS
          · have c48i : Int32.toInt v40 = (0 : Int) := (i3_eq _ _).mp c48
            refine lv_aload_n hx hb dX9_rights_89 rfl (lv_at hl 1 rfl) ?_
            refine pg_gi (ci := 9) (C := RX9) (T := TX9) (N := 63) hx hb hts wi9 hown hK hW (hF.k hk (by decide)) (by decide) rfl 4 (by decide) (hts (.fieldLink RX9 158 "IceHallModel" "fault" "I") (by decide +kernel)) (fun _ h9 => h9) rfl dX9_rights_90 ?_
            exact pc_iret (v := sI S45 h 4) (S := S45) hx hb hr hlk hK hZ hA hW hS (⟨hG, hF, ⟨fun _ => w47, fun h9 => absurd h9 (fun h8 => h8 (by omega))⟩⟩) dX9_rights_93
        · have c5i : ¬ (Int32.toInt b ≤ Int32.toInt (sI S h 1)) := fun h9 => c5 ((i3_le _ _).mpr h9)
          refine lv_iconst (v := (-1)) hx hb dX9_rights_22 (by decide) ?_
          exact pc_iret (v := (-1)) (S := S) hx hb hr hlk hK hZ hA hW hS (⟨hG, hF, ⟨fun h9 => absurd h9 (by omega), fun _ => rfl⟩⟩) dX9_rights_23
