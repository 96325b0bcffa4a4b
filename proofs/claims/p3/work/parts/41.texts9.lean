set_option maxHeartbeats 4000000 in
set_option maxRecDepth 100000 in
theorem b_X9_reads (l : Launch) (D : va_G) (cy : Nat → ClassId) (A : Nat → Prop) (S : St) (h bt : Nat) (f : Nat → Int32) (n : Int) (a b : Int32) (hG0 : G S) (hk : sK S h = 9) (hr0 : sR S h 0 = some bt) (hkb : sK S bt = 10) (hlb : sL S bt = 80) (hn : (sI S h 3).toInt = n) (hf : ∀ j : Nat, (j : Int) < n → sI S bt j = f j) (hp : (sI S h 2).toInt ≤ (sI S h 3).toInt) (hft : (sI S h 4).toInt = 0) : MI l yX9_reads wsX9_reads ({ frames := 2, cells := 0, slots := 0, locals := 40 } : Room) 0 0 D cy A [.ref h, .int a, .int b] S (fun r S1 => G S1 ∧ Fr [] [902, 904, 917] S S1 ∧ (NR f n a.toInt b.toInt ((sI S h 2).toInt) (sI S1 h 17).toInt (sI S1 h 2).toInt (sI S1 h 4).toInt ∧ ((r.toInt = 1 ∧ (sI S1 h 4).toInt = 0) ∨ (r.toInt = 0 ∧ ¬ (sI S1 h 4).toInt = 0)) ∧ ((sI S1 h 2).toInt ≤ (sI S h 3).toInt ∧ (sI S h 2).toInt ≤ (sI S1 h 2).toInt))) := by
  refine mt_start (cc := cX9_reads) (maxL := 4) (ret := (some .boolean)) (by decide) rfl (Nat.le_of_ble_eq_true rfl) ?_
  intro p e s m args below meth c hx hb hr hlk hml hown hnm hts hK hZ hA hW hS ls hl
  have hl : lv_has ls 4 [(0, .ref h), (1, .int a), (2, .int b)] := hl
  have hown : s.vm.findClass RX9 = some m.cls := hown
  have F : CallFix p m c cX9_reads 4 s args wsX9_reads RX9 := ⟨hx, hb, hml, hown, hts⟩
  have wi9 : ∀ w ∈ u_ws RX9 TX9 63, w ∈ wsX9_reads := by decide +kernel
  have hG := hG0
  have hF : Fr [] [902, 904, 917] S S := Fr.rf _ _ _
  have h0_ : (0 : Int32).toInt = 0 := rfl
  have h1_ : (1 : Int32).toInt = 1 := rfl
  have h2_ : (2 : Int32).toInt = 2 := rfl
  have g1 : (0 : Int) ≤ (sI S h 2).toInt ∧ (sI S h 2).toInt ≤ 100 := hG0.i hk (by decide) 2 (by decide)
  have g2 : (0 : Int) ≤ (sI S h 3).toInt ∧ (sI S h 3).toInt ≤ 80 := hG0.i hk (by decide) 3 (by decide)
  refine lv_aload_n hx hb dX9_reads_0 rfl (lv_at hl 0 rfl) ?_
  refine pg_gi (ci := 9) (C := RX9) (T := TX9) (N := 63) hx hb hts wi9 hown hK hW hk (by decide) rfl 2 (by decide) (hts (.fieldLink RX9 148 "IceHallModel" "place" "I") (by decide +kernel)) (fun _ h9 => h9) rfl dX9_reads_1 ?_
  rw [show sI S h 2 = sI S h 2 from rfl]
  refine lv_istore_n (lv' := [(3, .int (sI S h 2)), (0, .ref h), (1, .int a), (2, .int b)]) hx hb dX9_reads_4 rfl hl (by decide) rfl (fun ls hl => ?_)
  refine lv_aload_n hx hb dX9_reads_5 rfl (lv_at hl 1 rfl) ?_
  refine lv_iconst (v := 0) hx hb dX9_reads_6 (by decide) ?_
  refine pg_pi (ci := 9) (C := RX9) (T := TX9) (N := 63) hx hb hts wi9 tyX9 tyX9_ok nmX9 hown hK hW hS hk (by decide) rfl 17 (by decide) (hts (.fieldLink RX9 161 "IceHallModel" "number" "I") (by decide +kernel)) (fun _ h9 => h9) rfl rfl rfl dX9_reads_7 (fun H locs hW hS => ?_)
  obtain ⟨S3, eS3⟩ : ∃ T : St, T = stI S h 17 0 := ⟨_, rfl⟩
  rw [← eS3] at hW
  have hG : G S3 := by rw [eS3]; exact hG.I hk (ok_fr (by decide))
  have w4 : sI S3 h 2 = sI S h 2 := by rw [eS3]; exact (iI_k (by decide)).trans rfl
  have w5 : sI S3 h 4 = sI S h 4 := by rw [eS3]; exact (iI_k (by decide)).trans rfl
  have hF : Fr [] [902, 904, 917] S S3 := by rw [eS3]; exact hF.I hk (by decide)
  have w6 : sI S3 h 17 = 0 := by rw [eS3]; exact iI_s
  clear eS3
  have hE7 : Fr [] [902, 904, 917] S3 S3 := Fr.rf _ _ _
  have loop10 : ∀ (zn : Nat)  (L10 : St) (H : Heap) (locs : List Loc) (ls : Array Slot), (G L10) → (Fr [] [902, 904, 917] S3 L10) → ((sI S h 2).toInt ≤ (sI L10 h 2).toInt ∧ (sI L10 h 2).toInt ≤ (sI S h 3).toInt) → (DR f n (sI S h 2).toInt (sI L10 h 2).toInt (sI L10 h 17).toInt) → ((sI L10 h 2).toInt ≤ (sI S h 2).toInt + 4) → ((sI L10 h 4).toInt = 0) → (100 - (sI L10 h 2).toInt).toNat < zn → PW D cy A L10 H → va_S A s.heap H locs → lv_has ls 4 [(0, .ref h), (1, .int a), (2, .int b), (3, .int (sI S h 2))] → W p l e ({ frames := 2, cells := 0, slots := 0, locals := 40 } : Room) s m args below meth c H locs 0 0 (MQ below (va_Qi (fun r S1 => G S1 ∧ Fr [] [902, 904, 917] S S1 ∧ (NR f n a.toInt b.toInt ((sI S h 2).toInt) (sI S1 h 17).toInt (sI S1 h 2).toInt (sI S1 h 4).toInt ∧ ((r.toInt = 1 ∧ (sI S1 h 4).toInt = 0) ∨ (r.toInt = 0 ∧ ¬ (sI S1 h 4).toInt = 0)) ∧ ((sI S1 h 2).toInt ≤ (sI S h 3).toInt ∧ (sI S h 2).toInt ≤ (sI S1 h 2).toInt))) (PU D cy A) A) args s 0 0 A) (F0 m 10 ls []) := by
    intro zn
    induction zn with
    | zero => intros; exact absurd (by assumption) (Nat.not_lt_zero _)
    | succ zn ih10 =>
      intro  L10 H locs ls hG hL10 hpl hDR hp4 hf0 hme10 hW hS hl
      have hF : Fr [] [902, 904, 917] S L10 := hF.tr hL10
      have hE7 := hL10
      have g8 : (0 : Int) ≤ (sI L10 h 2).toInt ∧ (sI L10 h 2).toInt ≤ 100 := hG.i (hF.k hk (by decide)) (by decide) 2 (by decide)
      have lk9 : (sI L10 h 3).toInt = (sI S h 3).toInt := by rw [hF.i hk (by decide) (by decide)]
      have hzb := hDR.b4 (by omega)
      refine lv_aload_n hx hb dX9_reads_10 rfl (lv_at hl 0 rfl) ?_
      have lk10 : (sI L10 h 3).toInt = (sI S h 3).toInt := by rw [hF.i hk (by decide) (by decide)]
      refine pc_Vi (As := []) (rest := []) F (b_X9_isDigit l D cy A L10 h bt f n hG (hF.k hk (by decide)) (hF.r hk (by decide) hr0) (hF.k hkb (by decide)) (hF.n hkb (by decide) hlb) (by omega) (fun j hj => (hF.iA hkb (by decide) (by decide) (by decide)).trans (hf j hj))) (cwV 0 hts gX9_reads_X9_isDigit rfl rfl rfl (by decide +kernel) ⟨Nat.le_of_ble_eq_true rfl, Nat.le_of_ble_eq_true rfl⟩) hK hZ hA hW hS (hF.k hk (by decide)) (by decide) rfl rfl hl.1 rfl (Nat.le_of_ble_eq_true rfl) dX9_reads_11 ⟨Nat.le_of_ble_eq_true rfl, Nat.le_of_ble_eq_true rfl⟩ (fun v11 T12 H locs p13 hW hS => ?_)
      obtain ⟨eT12, p13⟩ := p13
      rw [eT12] at hW
      clear eT12
      refine lv_if_eq (tgt := 69) hx hb dX9_reads_14 (by decide) (fun c14 => ?_) (fun c14 => ?_)
      · have c14i : Int32.toInt v11 = (0 : Int) := (i3_eq _ _).mp c14
        refine lv_aload_n hx hb dX9_reads_69 rfl (lv_at hl 0 rfl) ?_
        refine pg_gi (ci := 9) (C := RX9) (T := TX9) (N := 63) hx hb hts wi9 hown hK hW (hF.k hk (by decide)) (by decide) rfl 2 (by decide) (hts (.fieldLink RX9 148 "IceHallModel" "place" "I") (by decide +kernel)) (fun _ h9 => h9) rfl dX9_reads_70 ?_
        rw [show sI L10 h 2 = sI L10 h 2 from rfl]
        refine lv_iload_n hx hb dX9_reads_73 rfl (lv_at hl 3 rfl) ?_
        refine lv_icmp_ne (tgt := 87) hx hb dX9_reads_74 (by decide) (fun c15 => ?_) (fun c15 => ?_)
        · have c15i : ¬ (Int32.toInt (sI L10 h 2) = Int32.toInt (sI S h 2)) := fun h9 => c15 ((i3_eq _ _).mpr h9)
          refine lv_aload_n hx hb dX9_reads_87 rfl (lv_at hl 0 rfl) ?_
          refine pg_gi (ci := 9) (C := RX9) (T := TX9) (N := 63) hx hb hts wi9 hown hK hW (hF.k hk (by decide)) (by decide) rfl 17 (by decide) (hts (.fieldLink RX9 161 "IceHallModel" "number" "I") (by decide +kernel)) (fun _ h9 => h9) rfl dX9_reads_88 ?_
          rw [show sI L10 h 17 = sI L10 h 17 from rfl]
          refine lv_iload_n hx hb dX9_reads_91 rfl (lv_at hl 1 rfl) ?_
          refine lv_icmp_lt (tgt := 103) hx hb dX9_reads_92 (by decide) (fun c16 => ?_) (fun c16 => ?_)
          · have c16i : Int32.toInt (sI L10 h 17) < Int32.toInt a := (i3_lt _ _).mp c16
            refine lv_aload_n hx hb dX9_reads_103 rfl (lv_at hl 0 rfl) ?_
            refine lv_iconst (v := 2) hx hb dX9_reads_104 (by decide) ?_
            refine lv_iload_n hx hb dX9_reads_105 rfl (lv_at hl 3 rfl) ?_
            have lk17 : (sI L10 h 3).toInt = (sI S h 3).toInt := by rw [hF.i hk (by decide) (by decide)]
            refine pc_Vi (As := [.int 2, .int (sI S h 2)]) (rest := []) F (b_X9_wrong l D cy A L10 h 2 (sI S h 2) hG (hF.k hk (by decide)) (by omega) (by omega) (by omega) (by omega)) (cwV 2 hts gX9_reads_X9_wrong rfl rfl rfl (by decide +kernel) ⟨Nat.le_of_ble_eq_true rfl, Nat.le_of_ble_eq_true rfl⟩) hK hZ hA hW hS (hF.k hk (by decide)) (by decide) rfl rfl hl.1 rfl (Nat.le_of_ble_eq_true rfl) dX9_reads_106 ⟨Nat.le_of_ble_eq_true rfl, Nat.le_of_ble_eq_true rfl⟩ (fun v18 T19 H locs p20 hW hS => ?_)
            obtain ⟨hG, hFc, p20⟩ := p20
            have w21 : sI T19 h 2 = sI L10 h 2 := (hFc.i (hF.k hk (by decide)) (by decide) (by decide)).trans rfl
            have w22 : sI T19 h 17 = sI L10 h 17 := (hFc.i (hF.k hk (by decide)) (by decide) (by decide)).trans rfl
            have hF : Fr [] [902, 904, 917] S T19 := hF.tr (hFc.mono (by decide))
            have hE7 : Fr [] [902, 904, 917] S3 T19 := hE7.tr (hFc.mono (by decide))
            rw [show v18 = 0 from p20.1]
            refine lv_if_eq (tgt := 116) hx hb dX9_reads_109 (by decide) (fun c23 => ?_) (fun c23 => absurd (by decide) c23)
            refine lv_iconst (v := 0) hx hb dX9_reads_116 (by decide) ?_
            have lk24 : (sI T19 h 2).toInt = (sI L10 h 2).toInt := by rw [show sI T19 h 2 = sI L10 h 2 from w21]
            have lk25 : (sI T19 h 17).toInt = (sI L10 h 17).toInt := by rw [show sI T19 h 17 = sI L10 h 17 from w22]
            have lk26 : (sI T19 h 3).toInt = (sI S h 3).toInt := by rw [hF.i hk (by decide) (by decide)]
            exact pc_zret (v := 0) (S := T19) hx hb hr hlk hK hZ hA hW hS (by decide) (⟨hG, hF, ⟨NR.c (p := (sI L10 h 2).toInt) (v := (sI L10 h 17).toInt) ⟨hDR, by omega, by omega⟩ rfl rfl rfl (by omega) (by omega) rfl, by omega, by omega⟩⟩) dX9_reads_117
          · have c16i : ¬ (Int32.toInt (sI L10 h 17) < Int32.toInt a) := fun h9 => c16 ((i3_lt _ _).mpr h9)
            refine lv_aload_n hx hb dX9_reads_95 rfl (lv_at hl 0 rfl) ?_
            refine pg_gi (ci := 9) (C := RX9) (T := TX9) (N := 63) hx hb hts wi9 hown hK hW (hF.k hk (by decide)) (by decide) rfl 17 (by decide) (hts (.fieldLink RX9 161 "IceHallModel" "number" "I") (by decide +kernel)) (fun _ h9 => h9) rfl dX9_reads_96 ?_
            rw [show sI L10 h 17 = sI L10 h 17 from rfl]
            refine lv_iload_n hx hb dX9_reads_99 rfl (lv_at hl 2 rfl) ?_
            refine lv_icmp_le (tgt := 112) hx hb dX9_reads_100 (by decide) (fun c27 => ?_) (fun c27 => ?_)
            · have c27i : Int32.toInt (sI L10 h 17) ≤ Int32.toInt b := (i3_le _ _).mp c27
              refine lv_iconst (v := 1) hx hb dX9_reads_112 (by decide) ?_
              refine lv_goto (tgt := 117) hx hb dX9_reads_113 (by decide) ?_
              have lk28 : (sI L10 h 3).toInt = (sI S h 3).toInt := by rw [hF.i hk (by decide) (by decide)]
              exact pc_zret (v := 1) (S := L10) hx hb hr hlk hK hZ hA hW hS (by decide) (⟨hG, hF, ⟨NR.c (p := (sI L10 h 2).toInt) (v := (sI L10 h 17).toInt) ⟨hDR, by omega, by omega⟩ rfl rfl rfl (by omega) (by omega) rfl, by omega, by omega⟩⟩) dX9_reads_117
            · have c27i : ¬ (Int32.toInt (sI L10 h 17) ≤ Int32.toInt b) := fun h9 => c27 ((i3_le _ _).mpr h9)
              refine lv_aload_n hx hb dX9_reads_103 rfl (lv_at hl 0 rfl) ?_
              refine lv_iconst (v := 2) hx hb dX9_reads_104 (by decide) ?_
              refine lv_iload_n hx hb dX9_reads_105 rfl (lv_at hl 3 rfl) ?_
              have lk29 : (sI L10 h 3).toInt = (sI S h 3).toInt := by rw [hF.i hk (by decide) (by decide)]
              refine pc_Vi (As := [.int 2, .int (sI S h 2)]) (rest := []) F (b_X9_wrong l D cy A L10 h 2 (sI S h 2) hG (hF.k hk (by decide)) (by omega) (by omega) (by omega) (by omega)) (cwV 2 hts gX9_reads_X9_wrong rfl rfl rfl (by decide +kernel) ⟨Nat.le_of_ble_eq_true rfl, Nat.le_of_ble_eq_true rfl⟩) hK hZ hA hW hS (hF.k hk (by decide)) (by decide) rfl rfl hl.1 rfl (Nat.le_of_ble_eq_true rfl) dX9_reads_106 ⟨Nat.le_of_ble_eq_true rfl, Nat.le_of_ble_eq_true rfl⟩ (fun v30 T31 H locs p32 hW hS => ?_)
              obtain ⟨hG, hFc, p32⟩ := p32
              have w33 : sI T31 h 2 = sI L10 h 2 := (hFc.i (hF.k hk (by decide)) (by decide) (by decide)).trans rfl
              have w34 : sI T31 h 17 = sI L10 h 17 := (hFc.i (hF.k hk (by decide)) (by decide) (by decide)).trans rfl
              have hF : Fr [] [902, 904, 917] S T31 := hF.tr (hFc.mono (by decide))
              have hE7 : Fr [] [902, 904, 917] S3 T31 := hE7.tr (hFc.mono (by decide))
              rw [show v30 = 0 from p32.1]
              refine lv_if_eq (tgt := 116) hx hb dX9_reads_109 (by decide) (fun c35 => ?_) (fun c35 => absurd (by decide) c35)
              refine lv_iconst (v := 0) hx hb dX9_reads_116 (by decide) ?_
              have lk36 : (sI T31 h 2).toInt = (sI L10 h 2).toInt := by rw [show sI T31 h 2 = sI L10 h 2 from w33]
              have lk37 : (sI T31 h 17).toInt = (sI L10 h 17).toInt := by rw [show sI T31 h 17 = sI L10 h 17 from w34]
              have lk38 : (sI T31 h 3).toInt = (sI S h 3).toInt := by rw [hF.i hk (by decide) (by decide)]
              exact pc_zret (v := 0) (S := T31) hx hb hr hlk hK hZ hA hW hS (by decide) (⟨hG, hF, ⟨NR.c (p := (sI L10 h 2).toInt) (v := (sI L10 h 17).toInt) ⟨hDR, by omega, by omega⟩ rfl rfl rfl (by omega) (by omega) rfl, by omega, by omega⟩⟩) dX9_reads_117
        · have c15i : Int32.toInt (sI L10 h 2) = Int32.toInt (sI S h 2) := (i3_eq _ _).mp c15
          refine lv_aload_n hx hb dX9_reads_77 rfl (lv_at hl 0 rfl) ?_
          refine lv_iconst (v := 1) hx hb dX9_reads_78 (by decide) ?_
          refine lv_aload_n hx hb dX9_reads_79 rfl (lv_at hl 0 rfl) ?_
          refine pg_gi (ci := 9) (C := RX9) (T := TX9) (N := 63) hx hb hts wi9 hown hK hW (hF.k hk (by decide)) (by decide) rfl 2 (by decide) (hts (.fieldLink RX9 148 "IceHallModel" "place" "I") (by decide +kernel)) (fun _ h9 => h9) rfl dX9_reads_80 ?_
          rw [show sI L10 h 2 = sI L10 h 2 from rfl]
          have lk39 : (sI L10 h 3).toInt = (sI S h 3).toInt := by rw [hF.i hk (by decide) (by decide)]
          refine pc_Vi (As := [.int 1, .int (sI L10 h 2)]) (rest := []) F (b_X9_wrong l D cy A L10 h 1 (sI L10 h 2) hG (hF.k hk (by decide)) (by omega) (by omega) (by omega) (by omega)) (cwV 2 hts gX9_reads_X9_wrong rfl rfl rfl (by decide +kernel) ⟨Nat.le_of_ble_eq_true rfl, Nat.le_of_ble_eq_true rfl⟩) hK hZ hA hW hS (hF.k hk (by decide)) (by decide) rfl rfl hl.1 rfl (Nat.le_of_ble_eq_true rfl) dX9_reads_83 ⟨Nat.le_of_ble_eq_true rfl, Nat.le_of_ble_eq_true rfl⟩ (fun v40 T41 H locs p42 hW hS => ?_)
          obtain ⟨hG, hFc, p42⟩ := p42
          have w43 : sI T41 h 2 = sI L10 h 2 := (hFc.i (hF.k hk (by decide)) (by decide) (by decide)).trans rfl
          have w44 : sI T41 h 17 = sI L10 h 17 := (hFc.i (hF.k hk (by decide)) (by decide) (by decide)).trans rfl
          have hF : Fr [] [902, 904, 917] S T41 := hF.tr (hFc.mono (by decide))
          have hE7 : Fr [] [902, 904, 917] S3 T41 := hE7.tr (hFc.mono (by decide))
          rw [show v40 = 0 from p42.1]
          have lk45 : (sI T41 h 2).toInt = (sI L10 h 2).toInt := by rw [show sI T41 h 2 = sI L10 h 2 from w43]
          have lk46 : (sI T41 h 17).toInt = (sI L10 h 17).toInt := by rw [show sI T41 h 17 = sI L10 h 17 from w44]
          have lk47 : (sI T41 h 3).toInt = (sI S h 3).toInt := by rw [hF.i hk (by decide) (by decide)]
          exact pc_zret (v := 0) (S := T41) hx hb hr hlk hK hZ hA hW hS (by decide) (⟨hG, hF, ⟨NR.c (p := (sI L10 h 2).toInt) (v := (sI L10 h 17).toInt) ⟨hDR, by omega, by omega⟩ rfl rfl rfl (by omega) (by omega) rfl, by omega, by omega⟩⟩) dX9_reads_86
      · have c14i : ¬ (Int32.toInt v11 = (0 : Int)) := fun h9 => c14 ((i3_eq _ _).mpr h9)
        refine lv_aload_n hx hb dX9_reads_17 rfl (lv_at hl 0 rfl) ?_
        refine pg_gi (ci := 9) (C := RX9) (T := TX9) (N := 63) hx hb hts wi9 hown hK hW (hF.k hk (by decide)) (by decide) rfl 2 (by decide) (hts (.fieldLink RX9 148 "IceHallModel" "place" "I") (by decide +kernel)) (fun _ h9 => h9) rfl dX9_reads_18 ?_
        rw [show sI L10 h 2 = sI L10 h 2 from rfl]
        refine lv_iload_n hx hb dX9_reads_21 rfl (lv_at hl 3 rfl) ?_
        refine lv_iconst (v := 4) hx hb dX9_reads_22 (by decide) ?_
        refine lv_iadd hx hb dX9_reads_23 ?_
        have l48 : ((sI S h 2) + 4).toInt = Int32.toInt (sI S h 2) + (4 : Int) := i3_add rfl rfl (by omega) (by omega)
        refine lv_icmp_ne (tgt := 37) hx hb dX9_reads_24 (by decide) (fun c49 => ?_) (fun c49 => ?_)
        · have c49i : ¬ (Int32.toInt (sI L10 h 2) = Int32.toInt ((sI S h 2) + 4)) := fun h9 => c49 ((i3_eq _ _).mpr h9)
          refine lv_aload_n hx hb dX9_reads_37 rfl (lv_at hl 0 rfl) ?_
          refine lv_bipush (v := 10) hx hb dX9_reads_38 (by decide) ?_
          refine lv_aload_n hx hb dX9_reads_40 rfl (lv_at hl 0 rfl) ?_
          refine pg_gi (ci := 9) (C := RX9) (T := TX9) (N := 63) hx hb hts wi9 hown hK hW (hF.k hk (by decide)) (by decide) rfl 17 (by decide) (hts (.fieldLink RX9 161 "IceHallModel" "number" "I") (by decide +kernel)) (fun _ h9 => h9) rfl dX9_reads_41 ?_
          rw [show sI L10 h 17 = sI L10 h 17 from rfl]
          refine lv_imul hx hb dX9_reads_44 ?_
          have l50 : (10 * (sI L10 h 17)).toInt = (10 : Int) * Int32.toInt (sI L10 h 17) := i3_mul rfl rfl (by omega) (by omega)
          refine lv_aload_n hx hb dX9_reads_45 rfl (lv_at hl 0 rfl) ?_
          have lk51 : (sI L10 h 3).toInt = (sI S h 3).toInt := by rw [hF.i hk (by decide) (by decide)]
          refine pc_Vi (As := []) (rest := [.int (10 * (sI L10 h 17)), .ref h]) F (b_X9_here l D cy A L10 h bt f n hG (hF.k hk (by decide)) (hF.r hk (by decide) hr0) (hF.k hkb (by decide)) (hF.n hkb (by decide) hlb) (by omega) (fun j hj => (hF.iA hkb (by decide) (by decide) (by decide)).trans (hf j hj))) (cwV 0 hts gX9_reads_X9_here rfl rfl rfl (by decide +kernel) ⟨Nat.le_of_ble_eq_true rfl, Nat.le_of_ble_eq_true rfl⟩) hK hZ hA hW hS (hF.k hk (by decide)) (by decide) rfl rfl hl.1 rfl (Nat.le_of_ble_eq_true rfl) dX9_reads_46 ⟨Nat.le_of_ble_eq_true rfl, Nat.le_of_ble_eq_true rfl⟩ (fun v52 T53 H locs p54 hW hS => ?_)
          obtain ⟨eT53, p54⟩ := p54
          rw [eT53] at hW
          clear eT53
          refine lv_iadd hx hb dX9_reads_49 ?_
          have l55 : ((10 * (sI L10 h 17)) + v52).toInt = Int32.toInt (10 * (sI L10 h 17)) + Int32.toInt v52 := i3_add rfl rfl (by omega) (by omega)
          refine lv_bipush (v := 48) hx hb dX9_reads_50 (by decide) ?_
          refine lv_isub hx hb dX9_reads_52 ?_
          have l56 : (((10 * (sI L10 h 17)) + v52) - 48).toInt = Int32.toInt ((10 * (sI L10 h 17)) + v52) - (48 : Int) := i3_sub rfl rfl (by omega) (by omega)
          refine pg_pi (ci := 9) (C := RX9) (T := TX9) (N := 63) hx hb hts wi9 tyX9 tyX9_ok nmX9 hown hK hW hS (hF.k hk (by decide)) (by decide) rfl 17 (by decide) (hts (.fieldLink RX9 161 "IceHallModel" "number" "I") (by decide +kernel)) (fun _ h9 => h9) rfl rfl rfl dX9_reads_53 (fun H locs hW hS => ?_)
          have kq57 : sK L10 h = 9 := (hF.k hk (by decide))
          obtain ⟨S58, eS58⟩ : ∃ T : St, T = stI L10 h 17 (((10 * (sI L10 h 17)) + v52) - 48) := ⟨_, rfl⟩
          rw [← eS58] at hW
          have hG : G S58 := by rw [eS58]; exact hG.I kq57 (ok_fr (by decide))
          have w59 : sI S58 h 2 = sI L10 h 2 := by rw [eS58]; exact (iI_k (by decide)).trans rfl
          have w60 : sI S58 h 4 = sI L10 h 4 := by rw [eS58]; exact (iI_k (by decide)).trans rfl
          have hF : Fr [] [902, 904, 917] S S58 := by rw [eS58]; exact hF.I kq57 (by decide)
          have hE7 : Fr [] [902, 904, 917] S3 S58 := by rw [eS58]; exact hE7.I kq57 (by decide)
          have w61 : sI S58 h 17 = ((10 * (sI L10 h 17)) + v52) - 48 := by rw [eS58]; exact iI_s
          clear eS58
          refine lv_aload_n hx hb dX9_reads_56 rfl (lv_at hl 0 rfl) ?_
          refine lv_aload_n hx hb dX9_reads_57 rfl (lv_at hl 0 rfl) ?_
          refine pg_gi (ci := 9) (C := RX9) (T := TX9) (N := 63) hx hb hts wi9 hown hK hW (hF.k hk (by decide)) (by decide) rfl 2 (by decide) (hts (.fieldLink RX9 148 "IceHallModel" "place" "I") (by decide +kernel)) (fun _ h9 => h9) rfl dX9_reads_58 ?_
          rw [show sI S58 h 2 = sI L10 h 2 from w59]
          refine lv_iconst (v := 1) hx hb dX9_reads_61 (by decide) ?_
          refine lv_iadd hx hb dX9_reads_62 ?_
          have l62 : ((sI L10 h 2) + 1).toInt = Int32.toInt (sI L10 h 2) + (1 : Int) := i3_add rfl rfl (by omega) (by omega)
          refine pg_pi (ci := 9) (C := RX9) (T := TX9) (N := 63) hx hb hts wi9 tyX9 tyX9_ok nmX9 hown hK hW hS (hF.k hk (by decide)) (by decide) rfl 2 (by decide) (hts (.fieldLink RX9 148 "IceHallModel" "place" "I") (by decide +kernel)) (fun _ h9 => h9) rfl rfl rfl dX9_reads_63 (fun H locs hW hS => ?_)
          have kq63 : sK S58 h = 9 := (hF.k hk (by decide))
          obtain ⟨S64, eS64⟩ : ∃ T : St, T = stI S58 h 2 ((sI L10 h 2) + 1) := ⟨_, rfl⟩
          rw [← eS64] at hW
          have hG : G S64 := by rw [eS64]; exact hG.I kq63 (ok_in 0 100 (by decide) (⟨by omega, by omega⟩))
          have w65 : sI S64 h 4 = sI L10 h 4 := by rw [eS64]; exact (iI_k (by decide)).trans w60
          have w66 : sI S64 h 17 = ((10 * (sI L10 h 17)) + v52) - 48 := by rw [eS64]; exact (iI_k (by decide)).trans w61
          have hF : Fr [] [902, 904, 917] S S64 := by rw [eS64]; exact hF.I kq63 (by decide)
          have hE7 : Fr [] [902, 904, 917] S3 S64 := by rw [eS64]; exact hE7.I kq63 (by decide)
          have w67 : sI S64 h 2 = (sI L10 h 2) + 1 := by rw [eS64]; exact iI_s
          clear eS64
          refine lv_goto (tgt := 10) hx hb dX9_reads_66 (by decide) ?_
          have lk68 : (sI S64 h 2).toInt = ((sI L10 h 2) + 1).toInt := by rw [show sI S64 h 2 = (sI L10 h 2) + 1 from w67]
          have lk69 : (sI S64 h 17).toInt = (((10 * (sI L10 h 17)) + v52) - 48).toInt := by rw [show sI S64 h 17 = ((10 * (sI L10 h 17)) + v52) - 48 from w66]
          have lk70 : (sI S64 h 4).toInt = (sI L10 h 4).toInt := by rw [show sI S64 h 4 = sI L10 h 4 from w65]
          have lk71 : (sI S64 h 3).toInt = (sI S h 3).toInt := by rw [hF.i hk (by decide) (by decide)]
          exact ih10  S64 _ _ ls hG hE7 (by omega) (hDR.s (by omega) (by omega) (by omega)) (by omega) (by omega) (by omega) hW hS (lv_cast (lv_sub hl [0, 1, 2, 3] rfl) (rfl))
        · have c49i : Int32.toInt (sI L10 h 2) = Int32.toInt ((sI S h 2) + 4) := (i3_eq _ _).mp c49
          refine lv_aload_n hx hb dX9_reads_27 rfl (lv_at hl 0 rfl) ?_
          refine lv_iconst (v := 1) hx hb dX9_reads_28 (by decide) ?_
          refine lv_aload_n hx hb dX9_reads_29 rfl (lv_at hl 0 rfl) ?_
          refine pg_gi (ci := 9) (C := RX9) (T := TX9) (N := 63) hx hb hts wi9 hown hK hW (hF.k hk (by decide)) (by decide) rfl 2 (by decide) (hts (.fieldLink RX9 148 "IceHallModel" "place" "I") (by decide +kernel)) (fun _ h9 => h9) rfl dX9_reads_30 ?_
          rw [show sI L10 h 2 = sI L10 h 2 from rfl]
          have lk72 : (sI L10 h 3).toInt = (sI S h 3).toInt := by rw [hF.i hk (by decide) (by decide)]
          refine pc_Vi (As := [.int 1, .int (sI L10 h 2)]) (rest := []) F (b_X9_wrong l D cy A L10 h 1 (sI L10 h 2) hG (hF.k hk (by decide)) (by omega) (by omega) (by omega) (by omega)) (cwV 2 hts gX9_reads_X9_wrong rfl rfl rfl (by decide +kernel) ⟨Nat.le_of_ble_eq_true rfl, Nat.le_of_ble_eq_true rfl⟩) hK hZ hA hW hS (hF.k hk (by decide)) (by decide) rfl rfl hl.1 rfl (Nat.le_of_ble_eq_true rfl) dX9_reads_33 ⟨Nat.le_of_ble_eq_true rfl, Nat.le_of_ble_eq_true rfl⟩ (fun v73 T74 H locs p75 hW hS => ?_)
          obtain ⟨hG, hFc, p75⟩ := p75
          have w76 : sI T74 h 2 = sI L10 h 2 := (hFc.i (hF.k hk (by decide)) (by decide) (by decide)).trans rfl
          have w77 : sI T74 h 17 = sI L10 h 17 := (hFc.i (hF.k hk (by decide)) (by decide) (by decide)).trans rfl
          have hF : Fr [] [902, 904, 917] S T74 := hF.tr (hFc.mono (by decide))
          have hE7 : Fr [] [902, 904, 917] S3 T74 := hE7.tr (hFc.mono (by decide))
          rw [show v73 = 0 from p75.1]
          have lk78 : (sI T74 h 2).toInt = (sI L10 h 2).toInt := by rw [show sI T74 h 2 = sI L10 h 2 from w76]
          have lk79 : (sI T74 h 17).toInt = (sI L10 h 17).toInt := by rw [show sI T74 h 17 = sI L10 h 17 from w77]
          have lk80 : (sI T74 h 3).toInt = (sI S h 3).toInt := by rw [hF.i hk (by decide) (by decide)]
          exact pc_zret (v := 0) (S := T74) hx hb hr hlk hK hZ hA hW hS (by decide) (⟨hG, hF, ⟨NR.c (p := (sI L10 h 2).toInt) (v := (sI L10 h 17).toInt) ⟨hDR, by omega, by omega⟩ rfl rfl rfl (by omega) (by omega) rfl, by omega, by omega⟩⟩) dX9_reads_36
  have lk81 : (sI S3 h 2).toInt = (sI S h 2).toInt := by rw [show sI S3 h 2 = sI S h 2 from w4]
  have lk82 : (sI S3 h 17).toInt = (0 : Int) := by rw [show sI S3 h 17 = 0 from w6]; rfl
  have lk83 : (sI S3 h 4).toInt = (sI S h 4).toInt := by rw [show sI S3 h 4 = sI S h 4 from w5]
  have lk84 : (sI S3 h 3).toInt = (sI S h 3).toInt := by rw [hF.i hk (by decide) (by decide)]
  exact loop10 _  S3 _ _ ls hG hE7 (by omega) (DR.z (by omega) (by omega)) (by omega) (by omega) (Nat.lt_succ_self _) hW hS (lv_cast (lv_sub hl [1, 2, 3, 0] rfl) (rfl))
set_option maxHeartbeats 4000000 in
set_option maxRecDepth 100000 in
theorem b_X9_readsSet (l : Launch) (D : va_G) (cy : Nat → ClassId) (A : Nat → Prop) (S : St) (h bt : Nat) (f : Nat → Int32) (n : Int) (a b : Int32) (hG0 : G S) (hk : sK S h = 9) (hr0 : sR S h 0 = some bt) (hkb : sK S bt = 10) (hlb : sL S bt = 80) (hn : (sI S h 3).toInt = n) (hf : ∀ j : Nat, (j : Int) < n → sI S bt j = f j) (hp : (sI S h 2).toInt ≤ (sI S h 3).toInt) (hft : (sI S h 4).toInt = 0) (ha1 : 1 ≤ a.toInt) (ha7 : a.toInt ≤ 7) (hb1 : 1 ≤ b.toInt) (hb7 : b.toInt ≤ 10) : MI l yX9_readsSet wsX9_readsSet ({ frames := 2, cells := 0, slots := 0, locals := 40 } : Room) 0 0 D cy A [.ref h, .int a, .int b] S (fun r S1 => G S1 ∧ Fr [] [902, 904, 917] S S1 ∧ (SR f n a.toInt b.toInt ((sI S h 2).toInt) (sI S1 h 2).toInt (sI S1 h 4).toInt ∧ ((r.toInt = 1 ∧ (sI S1 h 4).toInt = 0) ∨ (r.toInt = 0 ∧ ¬ (sI S1 h 4).toInt = 0)) ∧ ((sI S1 h 2).toInt ≤ (sI S h 3).toInt ∧ (sI S h 2).toInt ≤ (sI S1 h 2).toInt))) := by
  refine mt_start (cc := cX9_readsSet) (maxL := 4) (ret := (some .boolean)) (by decide) rfl (Nat.le_of_ble_eq_true rfl) ?_
  intro p e s m args below meth c hx hb hr hlk hml hown hnm hts hK hZ hA hW hS ls hl
  have hl : lv_has ls 4 [(0, .ref h), (1, .int a), (2, .int b)] := hl
  have hown : s.vm.findClass RX9 = some m.cls := hown
  have F : CallFix p m c cX9_readsSet 4 s args wsX9_readsSet RX9 := ⟨hx, hb, hml, hown, hts⟩
  have wi9 : ∀ w ∈ u_ws RX9 TX9 63, w ∈ wsX9_readsSet := by decide +kernel
  have hG := hG0
  have hF : Fr [] [902, 904, 917] S S := Fr.rf _ _ _
  have h0_ : (0 : Int32).toInt = 0 := rfl
  have h1_ : (1 : Int32).toInt = 1 := rfl
  have h2_ : (2 : Int32).toInt = 2 := rfl
  have g1 : (0 : Int) ≤ (sI S h 2).toInt ∧ (sI S h 2).toInt ≤ 100 := hG0.i hk (by decide) 2 (by decide)
  have g2 : (0 : Int) ≤ (sI S h 3).toInt ∧ (sI S h 3).toInt ≤ 80 := hG0.i hk (by decide) 3 (by decide)
  refine lv_aload_n hx hb dX9_readsSet_0 rfl (lv_at hl 0 rfl) ?_
  refine lv_iconst (v := 0) hx hb dX9_readsSet_1 (by decide) ?_
  refine pg_pi (ci := 9) (C := RX9) (T := TX9) (N := 63) hx hb hts wi9 tyX9 tyX9_ok nmX9 hown hK hW hS hk (by decide) rfl 17 (by decide) (hts (.fieldLink RX9 161 "IceHallModel" "number" "I") (by decide +kernel)) (fun _ h9 => h9) rfl rfl rfl dX9_readsSet_2 (fun H locs hW hS => ?_)
  obtain ⟨S3, eS3⟩ : ∃ T : St, T = stI S h 17 0 := ⟨_, rfl⟩
  rw [← eS3] at hW
  have hG : G S3 := by rw [eS3]; exact hG.I hk (ok_fr (by decide))
  have w4 : sI S3 h 2 = sI S h 2 := by rw [eS3]; exact (iI_k (by decide)).trans rfl
  have w5 : sI S3 h 4 = sI S h 4 := by rw [eS3]; exact (iI_k (by decide)).trans rfl
  have hF : Fr [] [902, 904, 917] S S3 := by rw [eS3]; exact hF.I hk (by decide)
  clear eS3
  refine lv_aload_n hx hb dX9_readsSet_5 rfl (lv_at hl 0 rfl) ?_
  refine pg_gi (ci := 9) (C := RX9) (T := TX9) (N := 63) hx hb hts wi9 hown hK hW (hF.k hk (by decide)) (by decide) rfl 2 (by decide) (hts (.fieldLink RX9 148 "IceHallModel" "place" "I") (by decide +kernel)) (fun _ h9 => h9) rfl dX9_readsSet_6 ?_
  rw [show sI S3 h 2 = sI S h 2 from w4]
  refine lv_istore_n (lv' := [(3, .int (sI S h 2)), (0, .ref h), (1, .int a), (2, .int b)]) hx hb dX9_readsSet_9 rfl hl (by decide) rfl (fun ls hl => ?_)
  have hE6 : Fr [] [902, 904, 917] S3 S3 := Fr.rf _ _ _
  have loop10 : ∀ (zn : Nat)  (L10 : St) (H : Heap) (locs : List Loc) (ls : Array Slot), (G L10) → (Fr [] [902, 904, 917] S3 L10) → ((sI S h 2).toInt ≤ (sI L10 h 2).toInt ∧ (sI L10 h 2).toInt ≤ (sI S h 3).toInt) → (DS f n b.toInt (sI S h 2).toInt (sI L10 h 2).toInt) → ((sI L10 h 2).toInt ≤ (sI S h 2).toInt + a.toInt) → ((sI L10 h 4).toInt = 0) → (100 - (sI L10 h 2).toInt).toNat < zn → PW D cy A L10 H → va_S A s.heap H locs → lv_has ls 4 [(0, .ref h), (1, .int a), (2, .int b), (3, .int (sI S h 2))] → W p l e ({ frames := 2, cells := 0, slots := 0, locals := 40 } : Room) s m args below meth c H locs 0 0 (MQ below (va_Qi (fun r S1 => G S1 ∧ Fr [] [902, 904, 917] S S1 ∧ (SR f n a.toInt b.toInt ((sI S h 2).toInt) (sI S1 h 2).toInt (sI S1 h 4).toInt ∧ ((r.toInt = 1 ∧ (sI S1 h 4).toInt = 0) ∨ (r.toInt = 0 ∧ ¬ (sI S1 h 4).toInt = 0)) ∧ ((sI S1 h 2).toInt ≤ (sI S h 3).toInt ∧ (sI S h 2).toInt ≤ (sI S1 h 2).toInt))) (PU D cy A) A) args s 0 0 A) (F0 m 10 ls []) := by
    intro zn
    induction zn with
    | zero => intros; exact absurd (by assumption) (Nat.not_lt_zero _)
    | succ zn ih10 =>
      intro  L10 H locs ls hG hL10 hpl hDS hp4 hf0 hme10 hW hS hl
      have hF : Fr [] [902, 904, 917] S L10 := hF.tr hL10
      have hE6 := hL10
      have g7 : (0 : Int) ≤ (sI L10 h 2).toInt ∧ (sI L10 h 2).toInt ≤ 100 := hG.i (hF.k hk (by decide)) (by decide) 2 (by decide)
      have lk8 : (sI L10 h 3).toInt = (sI S h 3).toInt := by rw [hF.i hk (by decide) (by decide)]
      refine lv_aload_n hx hb dX9_readsSet_10 rfl (lv_at hl 0 rfl) ?_
      have lk9 : (sI L10 h 3).toInt = (sI S h 3).toInt := by rw [hF.i hk (by decide) (by decide)]
      refine pc_Vi (As := []) (rest := []) F (b_X9_isDigit l D cy A L10 h bt f n hG (hF.k hk (by decide)) (hF.r hk (by decide) hr0) (hF.k hkb (by decide)) (hF.n hkb (by decide) hlb) (by omega) (fun j hj => (hF.iA hkb (by decide) (by decide) (by decide)).trans (hf j hj))) (cwV 0 hts gX9_readsSet_X9_isDigit rfl rfl rfl (by decide +kernel) ⟨Nat.le_of_ble_eq_true rfl, Nat.le_of_ble_eq_true rfl⟩) hK hZ hA hW hS (hF.k hk (by decide)) (by decide) rfl rfl hl.1 rfl (Nat.le_of_ble_eq_true rfl) dX9_readsSet_11 ⟨Nat.le_of_ble_eq_true rfl, Nat.le_of_ble_eq_true rfl⟩ (fun v10 T11 H locs p12 hW hS => ?_)
      obtain ⟨eT11, p12⟩ := p12
      rw [eT11] at hW
      clear eT11
      refine lv_if_eq (tgt := 89) hx hb dX9_readsSet_14 (by decide) (fun c13 => ?_) (fun c13 => ?_)
      · have c13i : Int32.toInt v10 = (0 : Int) := (i3_eq _ _).mp c13
        refine lv_aload_n hx hb dX9_readsSet_89 rfl (lv_at hl 0 rfl) ?_
        refine pg_gi (ci := 9) (C := RX9) (T := TX9) (N := 63) hx hb hts wi9 hown hK hW (hF.k hk (by decide)) (by decide) rfl 2 (by decide) (hts (.fieldLink RX9 148 "IceHallModel" "place" "I") (by decide +kernel)) (fun _ h9 => h9) rfl dX9_readsSet_90 ?_
        rw [show sI L10 h 2 = sI L10 h 2 from rfl]
        refine lv_iload_n hx hb dX9_readsSet_93 rfl (lv_at hl 3 rfl) ?_
        refine lv_icmp_gt (tgt := 109) hx hb dX9_readsSet_94 (by decide) (fun c14 => ?_) (fun c14 => ?_)
        · have c14i : Int32.toInt (sI S h 2) < Int32.toInt (sI L10 h 2) := (i3_lt _ _).mp c14
          refine lv_iconst (v := 1) hx hb dX9_readsSet_109 (by decide) ?_
          refine lv_goto (tgt := 114) hx hb dX9_readsSet_110 (by decide) ?_
          have lk15 : (sI L10 h 3).toInt = (sI S h 3).toInt := by rw [hF.i hk (by decide) (by decide)]
          exact pc_zret (v := 1) (S := L10) hx hb hr hlk hK hZ hA hW hS (by decide) (⟨hG, hF, ⟨SR.c (p := (sI L10 h 2).toInt) ⟨hDS, by omega, by omega⟩ rfl rfl rfl (by omega) rfl, by omega, by omega⟩⟩) dX9_readsSet_114
        · have c14i : ¬ (Int32.toInt (sI S h 2) < Int32.toInt (sI L10 h 2)) := fun h9 => c14 ((i3_lt _ _).mpr h9)
          refine lv_aload_n hx hb dX9_readsSet_97 rfl (lv_at hl 0 rfl) ?_
          refine lv_iconst (v := 1) hx hb dX9_readsSet_98 (by decide) ?_
          refine lv_aload_n hx hb dX9_readsSet_99 rfl (lv_at hl 0 rfl) ?_
          refine pg_gi (ci := 9) (C := RX9) (T := TX9) (N := 63) hx hb hts wi9 hown hK hW (hF.k hk (by decide)) (by decide) rfl 2 (by decide) (hts (.fieldLink RX9 148 "IceHallModel" "place" "I") (by decide +kernel)) (fun _ h9 => h9) rfl dX9_readsSet_100 ?_
          rw [show sI L10 h 2 = sI L10 h 2 from rfl]
          have lk16 : (sI L10 h 3).toInt = (sI S h 3).toInt := by rw [hF.i hk (by decide) (by decide)]
          refine pc_Vi (As := [.int 1, .int (sI L10 h 2)]) (rest := []) F (b_X9_wrong l D cy A L10 h 1 (sI L10 h 2) hG (hF.k hk (by decide)) (by omega) (by omega) (by omega) (by omega)) (cwV 2 hts gX9_readsSet_X9_wrong rfl rfl rfl (by decide +kernel) ⟨Nat.le_of_ble_eq_true rfl, Nat.le_of_ble_eq_true rfl⟩) hK hZ hA hW hS (hF.k hk (by decide)) (by decide) rfl rfl hl.1 rfl (Nat.le_of_ble_eq_true rfl) dX9_readsSet_103 ⟨Nat.le_of_ble_eq_true rfl, Nat.le_of_ble_eq_true rfl⟩ (fun v17 T18 H locs p19 hW hS => ?_)
          obtain ⟨hG, hFc, p19⟩ := p19
          have w20 : sI T18 h 2 = sI L10 h 2 := (hFc.i (hF.k hk (by decide)) (by decide) (by decide)).trans rfl
          have hF : Fr [] [902, 904, 917] S T18 := hF.tr (hFc.mono (by decide))
          have hE6 : Fr [] [902, 904, 917] S3 T18 := hE6.tr (hFc.mono (by decide))
          rw [show v17 = 0 from p19.1]
          refine lv_if_eq (tgt := 113) hx hb dX9_readsSet_106 (by decide) (fun c21 => ?_) (fun c21 => absurd (by decide) c21)
          refine lv_iconst (v := 0) hx hb dX9_readsSet_113 (by decide) ?_
          have lk22 : (sI T18 h 2).toInt = (sI L10 h 2).toInt := by rw [show sI T18 h 2 = sI L10 h 2 from w20]
          have lk23 : (sI T18 h 3).toInt = (sI S h 3).toInt := by rw [hF.i hk (by decide) (by decide)]
          exact pc_zret (v := 0) (S := T18) hx hb hr hlk hK hZ hA hW hS (by decide) (⟨hG, hF, ⟨SR.c (p := (sI L10 h 2).toInt) ⟨hDS, by omega, by omega⟩ rfl rfl rfl (by omega) rfl, by omega, by omega⟩⟩) dX9_readsSet_114
      · have c13i : ¬ (Int32.toInt v10 = (0 : Int)) := fun h9 => c13 ((i3_eq _ _).mpr h9)
        refine lv_aload_n hx hb dX9_readsSet_17 rfl (lv_at hl 0 rfl) ?_
        refine pg_gi (ci := 9) (C := RX9) (T := TX9) (N := 63) hx hb hts wi9 hown hK hW (hF.k hk (by decide)) (by decide) rfl 2 (by decide) (hts (.fieldLink RX9 148 "IceHallModel" "place" "I") (by decide +kernel)) (fun _ h9 => h9) rfl dX9_readsSet_18 ?_
        rw [show sI L10 h 2 = sI L10 h 2 from rfl]
        refine lv_iload_n hx hb dX9_readsSet_21 rfl (lv_at hl 3 rfl) ?_
        refine lv_iload_n hx hb dX9_readsSet_22 rfl (lv_at hl 1 rfl) ?_
        refine lv_iadd hx hb dX9_readsSet_23 ?_
        have l24 : ((sI S h 2) + a).toInt = Int32.toInt (sI S h 2) + Int32.toInt a := i3_add rfl rfl (by omega) (by omega)
        refine lv_icmp_ne (tgt := 37) hx hb dX9_readsSet_24 (by decide) (fun c25 => ?_) (fun c25 => ?_)
        · have c25i : ¬ (Int32.toInt (sI L10 h 2) = Int32.toInt ((sI S h 2) + a)) := fun h9 => c25 ((i3_eq _ _).mpr h9)
          refine lv_aload_n hx hb dX9_readsSet_37 rfl (lv_at hl 0 rfl) ?_
          have lk26 : (sI L10 h 3).toInt = (sI S h 3).toInt := by rw [hF.i hk (by decide) (by decide)]
          refine pc_Vi (As := []) (rest := []) F (b_X9_here l D cy A L10 h bt f n hG (hF.k hk (by decide)) (hF.r hk (by decide) hr0) (hF.k hkb (by decide)) (hF.n hkb (by decide) hlb) (by omega) (fun j hj => (hF.iA hkb (by decide) (by decide) (by decide)).trans (hf j hj))) (cwV 0 hts gX9_readsSet_X9_here rfl rfl rfl (by decide +kernel) ⟨Nat.le_of_ble_eq_true rfl, Nat.le_of_ble_eq_true rfl⟩) hK hZ hA hW hS (hF.k hk (by decide)) (by decide) rfl rfl hl.1 rfl (Nat.le_of_ble_eq_true rfl) dX9_readsSet_38 ⟨Nat.le_of_ble_eq_true rfl, Nat.le_of_ble_eq_true rfl⟩ (fun v27 T28 H locs p29 hW hS => ?_)
          obtain ⟨eT28, p29⟩ := p29
          rw [eT28] at hW
          clear eT28
          refine lv_bipush (v := 48) hx hb dX9_readsSet_41 (by decide) ?_
          refine lv_isub hx hb dX9_readsSet_43 ?_
          have l30 : (v27 - 48).toInt = Int32.toInt v27 - (48 : Int) := i3_sub rfl rfl (by omega) (by omega)
          refine lv_iload_n hx hb dX9_readsSet_44 rfl (lv_at hl 2 rfl) ?_
          refine lv_icmp_lt (tgt := 58) hx hb dX9_readsSet_45 (by decide) (fun c31 => ?_) (fun c31 => ?_)
          · have c31i : Int32.toInt (v27 - 48) < Int32.toInt b := (i3_lt _ _).mp c31
            refine lv_aload_n hx hb dX9_readsSet_58 rfl (lv_at hl 0 rfl) ?_
            refine lv_aload_n hx hb dX9_readsSet_59 rfl (lv_at hl 0 rfl) ?_
            refine pg_gi (ci := 9) (C := RX9) (T := TX9) (N := 63) hx hb hts wi9 hown hK hW (hF.k hk (by decide)) (by decide) rfl 17 (by decide) (hts (.fieldLink RX9 161 "IceHallModel" "number" "I") (by decide +kernel)) (fun _ h9 => h9) rfl dX9_readsSet_60 ?_
            refine lv_iconst (v := 1) hx hb dX9_readsSet_63 (by decide) ?_
            refine lv_aload_n hx hb dX9_readsSet_64 rfl (lv_at hl 0 rfl) ?_
            have lk32 : (sI L10 h 3).toInt = (sI S h 3).toInt := by rw [hF.i hk (by decide) (by decide)]
            refine pc_Vi (As := []) (rest := [.int 1, .int (sI L10 h 17), .ref h]) F (b_X9_here l D cy A L10 h bt f n hG (hF.k hk (by decide)) (hF.r hk (by decide) hr0) (hF.k hkb (by decide)) (hF.n hkb (by decide) hlb) (by omega) (fun j hj => (hF.iA hkb (by decide) (by decide) (by decide)).trans (hf j hj))) (cwV 0 hts gX9_readsSet_X9_here rfl rfl rfl (by decide +kernel) ⟨Nat.le_of_ble_eq_true rfl, Nat.le_of_ble_eq_true rfl⟩) hK hZ hA hW hS (hF.k hk (by decide)) (by decide) rfl rfl hl.1 rfl (Nat.le_of_ble_eq_true rfl) dX9_readsSet_65 ⟨Nat.le_of_ble_eq_true rfl, Nat.le_of_ble_eq_true rfl⟩ (fun v33 T34 H locs p35 hW hS => ?_)
            obtain ⟨eT34, p35⟩ := p35
            rw [eT34] at hW
            clear eT34
            refine lv_bipush (v := 48) hx hb dX9_readsSet_68 (by decide) ?_
            refine lv_isub hx hb dX9_readsSet_70 ?_
            refine lv_ishl hx hb dX9_readsSet_71 ?_
            refine lv_ior hx hb dX9_readsSet_72 ?_
            refine pg_pi (ci := 9) (C := RX9) (T := TX9) (N := 63) hx hb hts wi9 tyX9 tyX9_ok nmX9 hown hK hW hS (hF.k hk (by decide)) (by decide) rfl 17 (by decide) (hts (.fieldLink RX9 161 "IceHallModel" "number" "I") (by decide +kernel)) (fun _ h9 => h9) rfl rfl rfl dX9_readsSet_73 (fun H locs hW hS => ?_)
            have kq36 : sK L10 h = 9 := (hF.k hk (by decide))
            obtain ⟨S37, eS37⟩ : ∃ T : St, T = stI L10 h 17 ((sI L10 h 17) ||| (1 <<< ((v33 - 48) &&& 31))) := ⟨_, rfl⟩
            rw [← eS37] at hW
            have hG : G S37 := by rw [eS37]; exact hG.I kq36 (ok_fr (by decide))
            have w38 : sI S37 h 2 = sI L10 h 2 := by rw [eS37]; exact (iI_k (by decide)).trans rfl
            have w39 : sI S37 h 4 = sI L10 h 4 := by rw [eS37]; exact (iI_k (by decide)).trans rfl
            have hF : Fr [] [902, 904, 917] S S37 := by rw [eS37]; exact hF.I kq36 (by decide)
            have hE6 : Fr [] [902, 904, 917] S3 S37 := by rw [eS37]; exact hE6.I kq36 (by decide)
            clear eS37
            refine lv_aload_n hx hb dX9_readsSet_76 rfl (lv_at hl 0 rfl) ?_
            refine lv_aload_n hx hb dX9_readsSet_77 rfl (lv_at hl 0 rfl) ?_
            refine pg_gi (ci := 9) (C := RX9) (T := TX9) (N := 63) hx hb hts wi9 hown hK hW (hF.k hk (by decide)) (by decide) rfl 2 (by decide) (hts (.fieldLink RX9 148 "IceHallModel" "place" "I") (by decide +kernel)) (fun _ h9 => h9) rfl dX9_readsSet_78 ?_
            rw [show sI S37 h 2 = sI L10 h 2 from w38]
            refine lv_iconst (v := 1) hx hb dX9_readsSet_81 (by decide) ?_
            refine lv_iadd hx hb dX9_readsSet_82 ?_
            have l40 : ((sI L10 h 2) + 1).toInt = Int32.toInt (sI L10 h 2) + (1 : Int) := i3_add rfl rfl (by omega) (by omega)
            refine pg_pi (ci := 9) (C := RX9) (T := TX9) (N := 63) hx hb hts wi9 tyX9 tyX9_ok nmX9 hown hK hW hS (hF.k hk (by decide)) (by decide) rfl 2 (by decide) (hts (.fieldLink RX9 148 "IceHallModel" "place" "I") (by decide +kernel)) (fun _ h9 => h9) rfl rfl rfl dX9_readsSet_83 (fun H locs hW hS => ?_)
            have kq41 : sK S37 h = 9 := (hF.k hk (by decide))
            obtain ⟨S42, eS42⟩ : ∃ T : St, T = stI S37 h 2 ((sI L10 h 2) + 1) := ⟨_, rfl⟩
            rw [← eS42] at hW
            have hG : G S42 := by rw [eS42]; exact hG.I kq41 (ok_in 0 100 (by decide) (⟨by omega, by omega⟩))
            have w43 : sI S42 h 4 = sI L10 h 4 := by rw [eS42]; exact (iI_k (by decide)).trans w39
            have hF : Fr [] [902, 904, 917] S S42 := by rw [eS42]; exact hF.I kq41 (by decide)
            have hE6 : Fr [] [902, 904, 917] S3 S42 := by rw [eS42]; exact hE6.I kq41 (by decide)
            have w44 : sI S42 h 2 = (sI L10 h 2) + 1 := by rw [eS42]; exact iI_s
            clear eS42
            refine lv_goto (tgt := 10) hx hb dX9_readsSet_86 (by decide) ?_
            have lk45 : (sI S42 h 2).toInt = ((sI L10 h 2) + 1).toInt := by rw [show sI S42 h 2 = (sI L10 h 2) + 1 from w44]
            have lk46 : (sI S42 h 4).toInt = (sI L10 h 4).toInt := by rw [show sI S42 h 4 = sI L10 h 4 from w43]
            have lk47 : (sI S42 h 3).toInt = (sI S h 3).toInt := by rw [hF.i hk (by decide) (by decide)]
            exact ih10  S42 _ _ ls hG hE6 (by omega) (hDS.s (by omega) (by omega) (by omega)) (by omega) (by omega) (by omega) hW hS (lv_cast (lv_sub hl [0, 1, 2, 3] rfl) (rfl))
          · have c31i : ¬ (Int32.toInt (v27 - 48) < Int32.toInt b) := fun h9 => c31 ((i3_lt _ _).mpr h9)
            refine lv_aload_n hx hb dX9_readsSet_48 rfl (lv_at hl 0 rfl) ?_
            refine lv_iconst (v := 2) hx hb dX9_readsSet_49 (by decide) ?_
            refine lv_aload_n hx hb dX9_readsSet_50 rfl (lv_at hl 0 rfl) ?_
            refine pg_gi (ci := 9) (C := RX9) (T := TX9) (N := 63) hx hb hts wi9 hown hK hW (hF.k hk (by decide)) (by decide) rfl 2 (by decide) (hts (.fieldLink RX9 148 "IceHallModel" "place" "I") (by decide +kernel)) (fun _ h9 => h9) rfl dX9_readsSet_51 ?_
            rw [show sI L10 h 2 = sI L10 h 2 from rfl]
            have lk48 : (sI L10 h 3).toInt = (sI S h 3).toInt := by rw [hF.i hk (by decide) (by decide)]
            refine pc_Vi (As := [.int 2, .int (sI L10 h 2)]) (rest := []) F (b_X9_wrong l D cy A L10 h 2 (sI L10 h 2) hG (hF.k hk (by decide)) (by omega) (by omega) (by omega) (by omega)) (cwV 2 hts gX9_readsSet_X9_wrong rfl rfl rfl (by decide +kernel) ⟨Nat.le_of_ble_eq_true rfl, Nat.le_of_ble_eq_true rfl⟩) hK hZ hA hW hS (hF.k hk (by decide)) (by decide) rfl rfl hl.1 rfl (Nat.le_of_ble_eq_true rfl) dX9_readsSet_54 ⟨Nat.le_of_ble_eq_true rfl, Nat.le_of_ble_eq_true rfl⟩ (fun v49 T50 H locs p51 hW hS => ?_)
            obtain ⟨hG, hFc, p51⟩ := p51
            have w52 : sI T50 h 2 = sI L10 h 2 := (hFc.i (hF.k hk (by decide)) (by decide) (by decide)).trans rfl
            have hF : Fr [] [902, 904, 917] S T50 := hF.tr (hFc.mono (by decide))
            have hE6 : Fr [] [902, 904, 917] S3 T50 := hE6.tr (hFc.mono (by decide))
            rw [show v49 = 0 from p51.1]
            have lk53 : (sI T50 h 2).toInt = (sI L10 h 2).toInt := by rw [show sI T50 h 2 = sI L10 h 2 from w52]
            have lk54 : (sI T50 h 3).toInt = (sI S h 3).toInt := by rw [hF.i hk (by decide) (by decide)]
            exact pc_zret (v := 0) (S := T50) hx hb hr hlk hK hZ hA hW hS (by decide) (⟨hG, hF, ⟨SR.c (p := (sI L10 h 2).toInt) ⟨hDS, by omega, by omega⟩ rfl rfl rfl (by omega) rfl, by omega, by omega⟩⟩) dX9_readsSet_57
        · have c25i : Int32.toInt (sI L10 h 2) = Int32.toInt ((sI S h 2) + a) := (i3_eq _ _).mp c25
          refine lv_aload_n hx hb dX9_readsSet_27 rfl (lv_at hl 0 rfl) ?_
          refine lv_iconst (v := 1) hx hb dX9_readsSet_28 (by decide) ?_
          refine lv_aload_n hx hb dX9_readsSet_29 rfl (lv_at hl 0 rfl) ?_
          refine pg_gi (ci := 9) (C := RX9) (T := TX9) (N := 63) hx hb hts wi9 hown hK hW (hF.k hk (by decide)) (by decide) rfl 2 (by decide) (hts (.fieldLink RX9 148 "IceHallModel" "place" "I") (by decide +kernel)) (fun _ h9 => h9) rfl dX9_readsSet_30 ?_
          rw [show sI L10 h 2 = sI L10 h 2 from rfl]
          have lk55 : (sI L10 h 3).toInt = (sI S h 3).toInt := by rw [hF.i hk (by decide) (by decide)]
          refine pc_Vi (As := [.int 1, .int (sI L10 h 2)]) (rest := []) F (b_X9_wrong l D cy A L10 h 1 (sI L10 h 2) hG (hF.k hk (by decide)) (by omega) (by omega) (by omega) (by omega)) (cwV 2 hts gX9_readsSet_X9_wrong rfl rfl rfl (by decide +kernel) ⟨Nat.le_of_ble_eq_true rfl, Nat.le_of_ble_eq_true rfl⟩) hK hZ hA hW hS (hF.k hk (by decide)) (by decide) rfl rfl hl.1 rfl (Nat.le_of_ble_eq_true rfl) dX9_readsSet_33 ⟨Nat.le_of_ble_eq_true rfl, Nat.le_of_ble_eq_true rfl⟩ (fun v56 T57 H locs p58 hW hS => ?_)
          obtain ⟨hG, hFc, p58⟩ := p58
          have w59 : sI T57 h 2 = sI L10 h 2 := (hFc.i (hF.k hk (by decide)) (by decide) (by decide)).trans rfl
          have hF : Fr [] [902, 904, 917] S T57 := hF.tr (hFc.mono (by decide))
          have hE6 : Fr [] [902, 904, 917] S3 T57 := hE6.tr (hFc.mono (by decide))
          rw [show v56 = 0 from p58.1]
          have lk60 : (sI T57 h 2).toInt = (sI L10 h 2).toInt := by rw [show sI T57 h 2 = sI L10 h 2 from w59]
          have lk61 : (sI T57 h 3).toInt = (sI S h 3).toInt := by rw [hF.i hk (by decide) (by decide)]
          exact pc_zret (v := 0) (S := T57) hx hb hr hlk hK hZ hA hW hS (by decide) (⟨hG, hF, ⟨SR.c (p := (sI L10 h 2).toInt) ⟨hDS, by omega, by omega⟩ rfl rfl rfl (by omega) rfl, by omega, by omega⟩⟩) dX9_readsSet_36
  have lk62 : (sI S3 h 2).toInt = (sI S h 2).toInt := by rw [show sI S3 h 2 = sI S h 2 from w4]
  have lk63 : (sI S3 h 4).toInt = (sI S h 4).toInt := by rw [show sI S3 h 4 = sI S h 4 from w5]
  have lk64 : (sI S3 h 3).toInt = (sI S h 3).toInt := by rw [hF.i hk (by decide) (by decide)]
  exact loop10 _  S3 _ _ ls hG hE6 (by omega) (DS.z (by omega)) (by omega) (by omega) (Nat.lt_succ_self _) hW hS (lv_cast (lv_sub hl [1, 2, 3, 0] rfl) (rfl))
set_option maxHeartbeats 4000000 in
set_option maxRecDepth 100000 in
theorem b_X9_readsClause (l : Launch) (D : va_G) (cy : Nat → ClassId) (A : Nat → Prop) (S : St) (h bt : Nat) (f : Nat → Int32) (n : Int) (hG0 : G S) (hk : sK S h = 9) (hr0 : sR S h 0 = some bt) (hkb : sK S bt = 10) (hlb : sL S bt = 80) (hn : (sI S h 3).toInt = n) (hf : ∀ j : Nat, (j : Int) < n → sI S bt j = f j) (hp : (sI S h 2).toInt ≤ (sI S h 3).toInt) (hft : (sI S h 4).toInt = 0) : MI l yX9_readsClause wsX9_readsClause ({ frames := 3, cells := 0, slots := 0, locals := 63 } : Room) 0 0 D cy A [.ref h] S (fun r S1 => G S1 ∧ Fr [] [902, 904, 911, 912, 913, 914, 915, 916, 917] S S1 ∧ (CR f n ((sI S h 2).toInt) (sI S1 h 2).toInt (sI S1 h 4).toInt ∧ ((r.toInt = 1 ∧ (sI S1 h 4).toInt = 0) ∨ (r.toInt = 0 ∧ ¬ (sI S1 h 4).toInt = 0)) ∧ ((sI S1 h 2).toInt ≤ (sI S h 3).toInt ∧ (sI S h 2).toInt ≤ (sI S1 h 2).toInt))) := by
  refine mt_start (cc := cX9_readsClause) (maxL := 4) (ret := (some .boolean)) (by decide) rfl (Nat.le_of_ble_eq_true rfl) ?_
  intro p e s m args below meth c hx hb hr hlk hml hown hnm hts hK hZ hA hW hS ls hl
  have hl : lv_has ls 4 [(0, .ref h)] := hl
  have hown : s.vm.findClass RX9 = some m.cls := hown
  have F : CallFix p m c cX9_readsClause 4 s args wsX9_readsClause RX9 := ⟨hx, hb, hml, hown, hts⟩
  have wi9 : ∀ w ∈ u_ws RX9 TX9 63, w ∈ wsX9_readsClause := by decide +kernel
  have hG := hG0
  have hF : Fr [] [902, 904, 911, 912, 913, 914, 915, 916, 917] S S := Fr.rf _ _ _
  have h0_ : (0 : Int32).toInt = 0 := rfl
  have h1_ : (1 : Int32).toInt = 1 := rfl
  have h2_ : (2 : Int32).toInt = 2 := rfl
  have h3_ : (3 : Int32).toInt = 3 := rfl
  have h4_ : (4 : Int32).toInt = 4 := rfl
  have h6_ : (6 : Int32).toInt = 6 := rfl
  have h7_ : (7 : Int32).toInt = 7 := rfl
  have h100_ : (100 : Int32).toInt = 100 := rfl
  have h999_ : (999 : Int32).toInt = 999 := rfl
  have h9999_ : (9999 : Int32).toInt = 9999 := rfl
  have h23_ : (23 : Int32).toInt = 23 := rfl
  have h24_ : (24 : Int32).toInt = 24 := rfl
  have g1 : (0 : Int) ≤ (sI S h 2).toInt ∧ (sI S h 2).toInt ≤ 100 := hG0.i hk (by decide) 2 (by decide)
  have g2 : (0 : Int) ≤ (sI S h 3).toInt ∧ (sI S h 3).toInt ≤ 80 := hG0.i hk (by decide) 3 (by decide)
  refine lv_aload_n hx hb dX9_readsClause_0 rfl (lv_at hl 0 rfl) ?_
  refine pc_Vi (As := []) (rest := []) F (b_X9_here l D cy A S h bt f n hG hk hr0 hkb hlb (by omega) hf) (cwV 0 hts gX9_readsClause_X9_here rfl rfl rfl (by decide +kernel) ⟨Nat.le_of_ble_eq_true rfl, Nat.le_of_ble_eq_true rfl⟩) hK hZ hA hW hS hk (by decide) rfl rfl hl.1 rfl (Nat.le_of_ble_eq_true rfl) dX9_readsClause_1 ⟨Nat.le_of_ble_eq_true rfl, Nat.le_of_ble_eq_true rfl⟩ (fun v3 T4 H locs p5 hW hS => ?_)
  obtain ⟨eT4, p5⟩ := p5
  rw [eT4] at hW
  clear eT4
  refine lv_istore_n (lv' := [(1, .int v3), (0, .ref h)]) hx hb dX9_readsClause_4 rfl hl (by decide) rfl (fun ls hl => ?_)
  have join51 : ∀ (H : Heap) (locs : List Loc), ((sI S h 2).toInt < n ∧ (Int32.toInt v3 = 119 ∨ Int32.toInt v3 = 100 ∨ Int32.toInt v3 = 107 ∨ Int32.toInt v3 = 110 ∨ Int32.toInt v3 = 102 ∨ Int32.toInt v3 = 99)) → PW D cy A S H → va_S A s.heap H locs → W p l e ({ frames := 3, cells := 0, slots := 0, locals := 63 } : Room) s m args below meth c H locs 0 0 (MQ below (va_Qi (fun r S1 => G S1 ∧ Fr [] [902, 904, 911, 912, 913, 914, 915, 916, 917] S S1 ∧ (CR f n ((sI S h 2).toInt) (sI S1 h 2).toInt (sI S1 h 4).toInt ∧ ((r.toInt = 1 ∧ (sI S1 h 4).toInt = 0) ∨ (r.toInt = 0 ∧ ¬ (sI S1 h 4).toInt = 0)) ∧ ((sI S1 h 2).toInt ≤ (sI S h 3).toInt ∧ (sI S h 2).toInt ≤ (sI S1 h 2).toInt))) (PU D cy A) A) args s 0 0 A) (F0 m 51 ls []) := by
    intro H locs hc51 hW hS
    refine lv_aload_n hx hb dX9_readsClause_51 rfl (lv_at hl 1 rfl) ?_
    refine lv_aload_n hx hb dX9_readsClause_52 rfl (lv_at hl 1 rfl) ?_
    refine pg_gi (ci := 9) (C := RX9) (T := TX9) (N := 63) hx hb hts wi9 hown hK hW hk (by decide) rfl 2 (by decide) (hts (.fieldLink RX9 148 "IceHallModel" "place" "I") (by decide +kernel)) (fun _ h9 => h9) rfl dX9_readsClause_53 ?_
    rw [show sI S h 2 = sI S h 2 from rfl]
    refine lv_iconst (v := 1) hx hb dX9_readsClause_56 (by decide) ?_
    refine lv_iadd hx hb dX9_readsClause_57 ?_
    have l6 : ((sI S h 2) + 1).toInt = Int32.toInt (sI S h 2) + (1 : Int) := i3_add rfl rfl (by omega) (by omega)
    refine pg_pi (ci := 9) (C := RX9) (T := TX9) (N := 63) hx hb hts wi9 tyX9 tyX9_ok nmX9 hown hK hW hS hk (by decide) rfl 2 (by decide) (hts (.fieldLink RX9 148 "IceHallModel" "place" "I") (by decide +kernel)) (fun _ h9 => h9) rfl rfl rfl dX9_readsClause_58 (fun H locs hW hS => ?_)
    obtain ⟨S7, eS7⟩ : ∃ T : St, T = stI S h 2 ((sI S h 2) + 1) := ⟨_, rfl⟩
    rw [← eS7] at hW
    have hG : G S7 := by rw [eS7]; exact hG.I hk (ok_in 0 100 (by decide) (⟨by omega, by omega⟩))
    have w8 : sI S7 h 17 = sI S h 17 := by rw [eS7]; exact (iI_k (by decide)).trans rfl
    have w9 : sI S7 h 4 = sI S h 4 := by rw [eS7]; exact (iI_k (by decide)).trans rfl
    have hF : Fr [] [902, 904, 911, 912, 913, 914, 915, 916, 917] S S7 := by rw [eS7]; exact hF.I hk (by decide)
    have w10 : sI S7 h 2 = (sI S h 2) + 1 := by rw [eS7]; exact iI_s
    clear eS7
    refine lv_iload_n hx hb dX9_readsClause_61 rfl (lv_at hl 0 rfl) ?_
    by_cases c11 : v3 = 100
    · refine lv_lookup (off := 140) (tgt := 202) hx hb dX9_readsClause_62 (by decide) (by rw [c11]; decide) (by decide) ?_
      have c11i : Int32.toInt v3 = 100 := by rw [c11]; rfl
      refine lv_aload_n hx hb dX9_readsClause_202 rfl (lv_at hl 1 rfl) ?_
      refine lv_bipush (v := 7) hx hb dX9_readsClause_203 (by decide) ?_
      refine lv_bipush (v := 7) hx hb dX9_readsClause_205 (by decide) ?_
      have lk12 : (sI S7 h 2).toInt = ((sI S h 2) + 1).toInt := by rw [show sI S7 h 2 = (sI S h 2) + 1 from w10]
      have lk13 : (sI S7 h 17).toInt = (sI S h 17).toInt := by rw [show sI S7 h 17 = sI S h 17 from w8]
      have lk14 : (sI S7 h 4).toInt = (sI S h 4).toInt := by rw [show sI S7 h 4 = sI S h 4 from w9]
      have lk15 : (sI S7 h 3).toInt = (sI S h 3).toInt := by rw [hF.i hk (by decide) (by decide)]
      refine pc_Vi (As := [.int 7, .int 7]) (rest := []) F (b_X9_readsSet l D cy A S7 h bt f n 7 7 hG (hF.k hk (by decide)) (hF.r hk (by decide) hr0) (hF.k hkb (by decide)) (hF.n hkb (by decide) hlb) (by omega) (fun j hj => (hF.iA hkb (by decide) (by decide) (by decide)).trans (hf j hj)) (by omega) (by omega) (by omega) (by omega) (by omega) (by omega)) (cwV 2 hts gX9_readsClause_X9_readsSet rfl rfl rfl (by decide +kernel) ⟨Nat.le_of_ble_eq_true rfl, Nat.le_of_ble_eq_true rfl⟩) hK hZ hA hW hS (hF.k hk (by decide)) (by decide) rfl rfl hl.1 rfl (Nat.le_of_ble_eq_true rfl) dX9_readsClause_207 ⟨Nat.le_of_ble_eq_true rfl, Nat.le_of_ble_eq_true rfl⟩ (fun v16 T17 H locs p18 hW hS => ?_)
      obtain ⟨hG, hFc, p18⟩ := p18
      have hF : Fr [] [902, 904, 911, 912, 913, 914, 915, 916, 917] S T17 := hF.tr (hFc.mono (by decide))
      have g19 : (0 : Int) ≤ (sI T17 h 2).toInt ∧ (sI T17 h 2).toInt ≤ 100 := hG.i (hF.k hk (by decide)) (by decide) 2 (by decide)
      refine lv_if_ne (tgt := 215) hx hb dX9_readsClause_210 (by decide) (fun c20 => ?_) (fun c20 => ?_)
      · have c20i : ¬ (Int32.toInt v16 = (0 : Int)) := fun h9 => c20 ((i3_eq _ _).mpr h9)
        refine lv_aload_n hx hb dX9_readsClause_215 rfl (lv_at hl 1 rfl) ?_
        refine lv_aload_n hx hb dX9_readsClause_216 rfl (lv_at hl 1 rfl) ?_
        refine pg_gi (ci := 9) (C := RX9) (T := TX9) (N := 63) hx hb hts wi9 hown hK hW (hF.k hk (by decide)) (by decide) rfl 17 (by decide) (hts (.fieldLink RX9 161 "IceHallModel" "number" "I") (by decide +kernel)) (fun _ h9 => h9) rfl dX9_readsClause_217 ?_
        rw [show sI T17 h 17 = sI T17 h 17 from rfl]
        refine pg_pi (ci := 9) (C := RX9) (T := TX9) (N := 63) hx hb hts wi9 tyX9 tyX9_ok nmX9 hown hK hW hS (hF.k hk (by decide)) (by decide) rfl 12 (by decide) (hts (.fieldLink RX9 181 "IceHallModel" "saidDays" "I") (by decide +kernel)) (fun _ h9 => h9) rfl rfl rfl dX9_readsClause_220 (fun H locs hW hS => ?_)
        have kq21 : sK T17 h = 9 := (hF.k hk (by decide))
        obtain ⟨S22, eS22⟩ : ∃ T : St, T = stI T17 h 12 (sI T17 h 17) := ⟨_, rfl⟩
        rw [← eS22] at hW
        have hG : G S22 := by rw [eS22]; exact hG.I kq21 (ok_fr (by decide))
        have w23 : sI S22 h 2 = sI T17 h 2 := by rw [eS22]; exact (iI_k (by decide)).trans rfl
        have w24 : sI S22 h 17 = sI T17 h 17 := by rw [eS22]; exact (iI_k (by decide)).trans rfl
        have w25 : sI S22 h 4 = sI T17 h 4 := by rw [eS22]; exact (iI_k (by decide)).trans rfl
        have hF : Fr [] [902, 904, 911, 912, 913, 914, 915, 916, 917] S S22 := by rw [eS22]; exact hF.I kq21 (by decide)
        clear eS22
        refine lv_iconst (v := 1) hx hb dX9_readsClause_223 (by decide) ?_
        have lk26 : (sI S22 h 2).toInt = (sI T17 h 2).toInt := by rw [show sI S22 h 2 = sI T17 h 2 from w23]
        have lk27 : (sI S22 h 17).toInt = (sI T17 h 17).toInt := by rw [show sI S22 h 17 = sI T17 h 17 from w24]
        have lk28 : (sI S22 h 4).toInt = (sI T17 h 4).toInt := by rw [show sI S22 h 4 = sI T17 h 4 from w25]
        have lk29 : (sI S22 h 3).toInt = (sI S h 3).toInt := by rw [hF.i hk (by decide) (by decide)]
        exact pc_zret (v := 1) (S := S22) hx hb hr hlk hK hZ hA hW hS (by decide) (⟨hG, hF, ⟨Or.inr ⟨by omega, Or.inr (Or.inl ⟨by omega, p18.1.c (by omega) (by omega) (by omega) (by omega) (by omega)⟩)⟩, by omega, by omega⟩⟩) dX9_readsClause_224
      · have c20i : Int32.toInt v16 = (0 : Int) := (i3_eq _ _).mp c20
        refine lv_iconst (v := 0) hx hb dX9_readsClause_213 (by decide) ?_
        have lk30 : (sI T17 h 3).toInt = (sI S h 3).toInt := by rw [hF.i hk (by decide) (by decide)]
        exact pc_zret (v := 0) (S := T17) hx hb hr hlk hK hZ hA hW hS (by decide) (⟨hG, hF, ⟨Or.inr ⟨by omega, Or.inr (Or.inl ⟨by omega, p18.1.c (by omega) (by omega) (by omega) (by omega) (by omega)⟩)⟩, by omega, by omega⟩⟩) dX9_readsClause_214
    by_cases c31 : v3 = 102
    · refine lv_lookup (off := 207) (tgt := 269) hx hb dX9_readsClause_62 (by decide) (by rw [c31]; decide) (by decide) ?_
      have c31i : Int32.toInt v3 = 102 := by rw [c31]; rfl
      refine lv_aload_n hx hb dX9_readsClause_269 rfl (lv_at hl 1 rfl) ?_
      refine lv_iconst (v := 0) hx hb dX9_readsClause_270 (by decide) ?_
      refine lv_sipush (v := 9999) hx hb dX9_readsClause_271 (by decide) ?_
      have lk32 : (sI S7 h 2).toInt = ((sI S h 2) + 1).toInt := by rw [show sI S7 h 2 = (sI S h 2) + 1 from w10]
      have lk33 : (sI S7 h 17).toInt = (sI S h 17).toInt := by rw [show sI S7 h 17 = sI S h 17 from w8]
      have lk34 : (sI S7 h 4).toInt = (sI S h 4).toInt := by rw [show sI S7 h 4 = sI S h 4 from w9]
      have lk35 : (sI S7 h 3).toInt = (sI S h 3).toInt := by rw [hF.i hk (by decide) (by decide)]
      refine pc_Vi (As := [.int 0, .int 9999]) (rest := []) F (b_X9_reads l D cy A S7 h bt f n 0 9999 hG (hF.k hk (by decide)) (hF.r hk (by decide) hr0) (hF.k hkb (by decide)) (hF.n hkb (by decide) hlb) (by omega) (fun j hj => (hF.iA hkb (by decide) (by decide) (by decide)).trans (hf j hj)) (by omega) (by omega)) (cwV 2 hts gX9_readsClause_X9_reads rfl rfl rfl (by decide +kernel) ⟨Nat.le_of_ble_eq_true rfl, Nat.le_of_ble_eq_true rfl⟩) hK hZ hA hW hS (hF.k hk (by decide)) (by decide) rfl rfl hl.1 rfl (Nat.le_of_ble_eq_true rfl) dX9_readsClause_274 ⟨Nat.le_of_ble_eq_true rfl, Nat.le_of_ble_eq_true rfl⟩ (fun v36 T37 H locs p38 hW hS => ?_)
      obtain ⟨hG, hFc, p38⟩ := p38
      have hF : Fr [] [902, 904, 911, 912, 913, 914, 915, 916, 917] S T37 := hF.tr (hFc.mono (by decide))
      have g39 : (0 : Int) ≤ (sI T37 h 2).toInt ∧ (sI T37 h 2).toInt ≤ 100 := hG.i (hF.k hk (by decide)) (by decide) 2 (by decide)
      refine lv_if_ne (tgt := 282) hx hb dX9_readsClause_277 (by decide) (fun c40 => ?_) (fun c40 => ?_)
      · have c40i : ¬ (Int32.toInt v36 = (0 : Int)) := fun h9 => c40 ((i3_eq _ _).mpr h9)
        refine lv_aload_n hx hb dX9_readsClause_282 rfl (lv_at hl 1 rfl) ?_
        refine lv_aload_n hx hb dX9_readsClause_283 rfl (lv_at hl 1 rfl) ?_
        refine pg_gi (ci := 9) (C := RX9) (T := TX9) (N := 63) hx hb hts wi9 hown hK hW (hF.k hk (by decide)) (by decide) rfl 17 (by decide) (hts (.fieldLink RX9 161 "IceHallModel" "number" "I") (by decide +kernel)) (fun _ h9 => h9) rfl dX9_readsClause_284 ?_
        rw [show sI T37 h 17 = sI T37 h 17 from rfl]
        refine pg_pi (ci := 9) (C := RX9) (T := TX9) (N := 63) hx hb hts wi9 tyX9 tyX9_ok nmX9 hown hK hW hS (hF.k hk (by decide)) (by decide) rfl 15 (by decide) (hts (.fieldLink RX9 190 "IceHallModel" "saidFee" "I") (by decide +kernel)) (fun _ h9 => h9) rfl rfl rfl dX9_readsClause_287 (fun H locs hW hS => ?_)
        have kq41 : sK T37 h = 9 := (hF.k hk (by decide))
        obtain ⟨S42, eS42⟩ : ∃ T : St, T = stI T37 h 15 (sI T37 h 17) := ⟨_, rfl⟩
        rw [← eS42] at hW
        have hG : G S42 := by rw [eS42]; exact hG.I kq41 (ok_fr (by decide))
        have w43 : sI S42 h 2 = sI T37 h 2 := by rw [eS42]; exact (iI_k (by decide)).trans rfl
        have w44 : sI S42 h 17 = sI T37 h 17 := by rw [eS42]; exact (iI_k (by decide)).trans rfl
        have w45 : sI S42 h 4 = sI T37 h 4 := by rw [eS42]; exact (iI_k (by decide)).trans rfl
        have hF : Fr [] [902, 904, 911, 912, 913, 914, 915, 916, 917] S S42 := by rw [eS42]; exact hF.I kq41 (by decide)
        clear eS42
        refine lv_iconst (v := 1) hx hb dX9_readsClause_290 (by decide) ?_
        have lk46 : (sI S42 h 2).toInt = (sI T37 h 2).toInt := by rw [show sI S42 h 2 = sI T37 h 2 from w43]
        have lk47 : (sI S42 h 17).toInt = (sI T37 h 17).toInt := by rw [show sI S42 h 17 = sI T37 h 17 from w44]
        have lk48 : (sI S42 h 4).toInt = (sI T37 h 4).toInt := by rw [show sI S42 h 4 = sI T37 h 4 from w45]
        have lk49 : (sI S42 h 3).toInt = (sI S h 3).toInt := by rw [hF.i hk (by decide) (by decide)]
        exact pc_zret (v := 1) (S := S42) hx hb hr hlk hK hZ hA hW hS (by decide) (⟨hG, hF, ⟨Or.inr ⟨by omega, Or.inr (Or.inr (Or.inr (Or.inr (Or.inl ⟨by omega, ⟨_, p38.1.c (by omega) (by omega) (by omega) rfl (by omega) (by omega)⟩⟩))))⟩, by omega, by omega⟩⟩) dX9_readsClause_291
      · have c40i : Int32.toInt v36 = (0 : Int) := (i3_eq _ _).mp c40
        refine lv_iconst (v := 0) hx hb dX9_readsClause_280 (by decide) ?_
        have lk50 : (sI T37 h 3).toInt = (sI S h 3).toInt := by rw [hF.i hk (by decide) (by decide)]
        exact pc_zret (v := 0) (S := T37) hx hb hr hlk hK hZ hA hW hS (by decide) (⟨hG, hF, ⟨Or.inr ⟨by omega, Or.inr (Or.inr (Or.inr (Or.inr (Or.inl ⟨by omega, ⟨_, p38.1.c (by omega) (by omega) (by omega) rfl (by omega) (by omega)⟩⟩))))⟩, by omega, by omega⟩⟩) dX9_readsClause_281
    by_cases c51 : v3 = 107
    · refine lv_lookup (off := 163) (tgt := 225) hx hb dX9_readsClause_62 (by decide) (by rw [c51]; decide) (by decide) ?_
      have c51i : Int32.toInt v3 = 107 := by rw [c51]; rfl
      refine lv_aload_n hx hb dX9_readsClause_225 rfl (lv_at hl 1 rfl) ?_
      refine lv_iconst (v := 4) hx hb dX9_readsClause_226 (by decide) ?_
      refine lv_iconst (v := 4) hx hb dX9_readsClause_227 (by decide) ?_
      have lk52 : (sI S7 h 2).toInt = ((sI S h 2) + 1).toInt := by rw [show sI S7 h 2 = (sI S h 2) + 1 from w10]
      have lk53 : (sI S7 h 17).toInt = (sI S h 17).toInt := by rw [show sI S7 h 17 = sI S h 17 from w8]
      have lk54 : (sI S7 h 4).toInt = (sI S h 4).toInt := by rw [show sI S7 h 4 = sI S h 4 from w9]
      have lk55 : (sI S7 h 3).toInt = (sI S h 3).toInt := by rw [hF.i hk (by decide) (by decide)]
      refine pc_Vi (As := [.int 4, .int 4]) (rest := []) F (b_X9_readsSet l D cy A S7 h bt f n 4 4 hG (hF.k hk (by decide)) (hF.r hk (by decide) hr0) (hF.k hkb (by decide)) (hF.n hkb (by decide) hlb) (by omega) (fun j hj => (hF.iA hkb (by decide) (by decide) (by decide)).trans (hf j hj)) (by omega) (by omega) (by omega) (by omega) (by omega) (by omega)) (cwV 2 hts gX9_readsClause_X9_readsSet rfl rfl rfl (by decide +kernel) ⟨Nat.le_of_ble_eq_true rfl, Nat.le_of_ble_eq_true rfl⟩) hK hZ hA hW hS (hF.k hk (by decide)) (by decide) rfl rfl hl.1 rfl (Nat.le_of_ble_eq_true rfl) dX9_readsClause_228 ⟨Nat.le_of_ble_eq_true rfl, Nat.le_of_ble_eq_true rfl⟩ (fun v56 T57 H locs p58 hW hS => ?_)
      obtain ⟨hG, hFc, p58⟩ := p58
      have hF : Fr [] [902, 904, 911, 912, 913, 914, 915, 916, 917] S T57 := hF.tr (hFc.mono (by decide))
      have g59 : (0 : Int) ≤ (sI T57 h 2).toInt ∧ (sI T57 h 2).toInt ≤ 100 := hG.i (hF.k hk (by decide)) (by decide) 2 (by decide)
      refine lv_if_ne (tgt := 236) hx hb dX9_readsClause_231 (by decide) (fun c60 => ?_) (fun c60 => ?_)
      · have c60i : ¬ (Int32.toInt v56 = (0 : Int)) := fun h9 => c60 ((i3_eq _ _).mpr h9)
        refine lv_aload_n hx hb dX9_readsClause_236 rfl (lv_at hl 1 rfl) ?_
        refine lv_aload_n hx hb dX9_readsClause_237 rfl (lv_at hl 1 rfl) ?_
        refine pg_gi (ci := 9) (C := RX9) (T := TX9) (N := 63) hx hb hts wi9 hown hK hW (hF.k hk (by decide)) (by decide) rfl 17 (by decide) (hts (.fieldLink RX9 161 "IceHallModel" "number" "I") (by decide +kernel)) (fun _ h9 => h9) rfl dX9_readsClause_238 ?_
        rw [show sI T57 h 17 = sI T57 h 17 from rfl]
        refine pg_pi (ci := 9) (C := RX9) (T := TX9) (N := 63) hx hb hts wi9 tyX9 tyX9_ok nmX9 hown hK hW hS (hF.k hk (by decide)) (by decide) rfl 13 (by decide) (hts (.fieldLink RX9 184 "IceHallModel" "saidKinds" "I") (by decide +kernel)) (fun _ h9 => h9) rfl rfl rfl dX9_readsClause_241 (fun H locs hW hS => ?_)
        have kq61 : sK T57 h = 9 := (hF.k hk (by decide))
        obtain ⟨S62, eS62⟩ : ∃ T : St, T = stI T57 h 13 (sI T57 h 17) := ⟨_, rfl⟩
        rw [← eS62] at hW
        have hG : G S62 := by rw [eS62]; exact hG.I kq61 (ok_fr (by decide))
        have w63 : sI S62 h 2 = sI T57 h 2 := by rw [eS62]; exact (iI_k (by decide)).trans rfl
        have w64 : sI S62 h 17 = sI T57 h 17 := by rw [eS62]; exact (iI_k (by decide)).trans rfl
        have w65 : sI S62 h 4 = sI T57 h 4 := by rw [eS62]; exact (iI_k (by decide)).trans rfl
        have hF : Fr [] [902, 904, 911, 912, 913, 914, 915, 916, 917] S S62 := by rw [eS62]; exact hF.I kq61 (by decide)
        clear eS62
        refine lv_iconst (v := 1) hx hb dX9_readsClause_244 (by decide) ?_
        have lk66 : (sI S62 h 2).toInt = (sI T57 h 2).toInt := by rw [show sI S62 h 2 = sI T57 h 2 from w63]
        have lk67 : (sI S62 h 17).toInt = (sI T57 h 17).toInt := by rw [show sI S62 h 17 = sI T57 h 17 from w64]
        have lk68 : (sI S62 h 4).toInt = (sI T57 h 4).toInt := by rw [show sI S62 h 4 = sI T57 h 4 from w65]
        have lk69 : (sI S62 h 3).toInt = (sI S h 3).toInt := by rw [hF.i hk (by decide) (by decide)]
        exact pc_zret (v := 1) (S := S62) hx hb hr hlk hK hZ hA hW hS (by decide) (⟨hG, hF, ⟨Or.inr ⟨by omega, Or.inr (Or.inr (Or.inl ⟨by omega, p58.1.c (by omega) (by omega) (by omega) (by omega) (by omega)⟩))⟩, by omega, by omega⟩⟩) dX9_readsClause_245
      · have c60i : Int32.toInt v56 = (0 : Int) := (i3_eq _ _).mp c60
        refine lv_iconst (v := 0) hx hb dX9_readsClause_234 (by decide) ?_
        have lk70 : (sI T57 h 3).toInt = (sI S h 3).toInt := by rw [hF.i hk (by decide) (by decide)]
        exact pc_zret (v := 0) (S := T57) hx hb hr hlk hK hZ hA hW hS (by decide) (⟨hG, hF, ⟨Or.inr ⟨by omega, Or.inr (Or.inr (Or.inl ⟨by omega, p58.1.c (by omega) (by omega) (by omega) (by omega) (by omega)⟩))⟩, by omega, by omega⟩⟩) dX9_readsClause_235
    by_cases c71 : v3 = 110
    · refine lv_lookup (off := 184) (tgt := 246) hx hb dX9_readsClause_62 (by decide) (by rw [c71]; decide) (by decide) ?_
      have c71i : Int32.toInt v3 = 110 := by rw [c71]; rfl
      refine lv_aload_n hx hb dX9_readsClause_246 rfl (lv_at hl 1 rfl) ?_
      refine lv_iconst (v := 0) hx hb dX9_readsClause_247 (by decide) ?_
      refine lv_sipush (v := 999) hx hb dX9_readsClause_248 (by decide) ?_
      have lk72 : (sI S7 h 2).toInt = ((sI S h 2) + 1).toInt := by rw [show sI S7 h 2 = (sI S h 2) + 1 from w10]
      have lk73 : (sI S7 h 17).toInt = (sI S h 17).toInt := by rw [show sI S7 h 17 = sI S h 17 from w8]
      have lk74 : (sI S7 h 4).toInt = (sI S h 4).toInt := by rw [show sI S7 h 4 = sI S h 4 from w9]
      have lk75 : (sI S7 h 3).toInt = (sI S h 3).toInt := by rw [hF.i hk (by decide) (by decide)]
      refine pc_Vi (As := [.int 0, .int 999]) (rest := []) F (b_X9_reads l D cy A S7 h bt f n 0 999 hG (hF.k hk (by decide)) (hF.r hk (by decide) hr0) (hF.k hkb (by decide)) (hF.n hkb (by decide) hlb) (by omega) (fun j hj => (hF.iA hkb (by decide) (by decide) (by decide)).trans (hf j hj)) (by omega) (by omega)) (cwV 2 hts gX9_readsClause_X9_reads rfl rfl rfl (by decide +kernel) ⟨Nat.le_of_ble_eq_true rfl, Nat.le_of_ble_eq_true rfl⟩) hK hZ hA hW hS (hF.k hk (by decide)) (by decide) rfl rfl hl.1 rfl (Nat.le_of_ble_eq_true rfl) dX9_readsClause_251 ⟨Nat.le_of_ble_eq_true rfl, Nat.le_of_ble_eq_true rfl⟩ (fun v76 T77 H locs p78 hW hS => ?_)
      obtain ⟨hG, hFc, p78⟩ := p78
      have hF : Fr [] [902, 904, 911, 912, 913, 914, 915, 916, 917] S T77 := hF.tr (hFc.mono (by decide))
      have g79 : (0 : Int) ≤ (sI T77 h 2).toInt ∧ (sI T77 h 2).toInt ≤ 100 := hG.i (hF.k hk (by decide)) (by decide) 2 (by decide)
      refine lv_if_ne (tgt := 259) hx hb dX9_readsClause_254 (by decide) (fun c80 => ?_) (fun c80 => ?_)
      · have c80i : ¬ (Int32.toInt v76 = (0 : Int)) := fun h9 => c80 ((i3_eq _ _).mpr h9)
        refine lv_aload_n hx hb dX9_readsClause_259 rfl (lv_at hl 1 rfl) ?_
        refine lv_aload_n hx hb dX9_readsClause_260 rfl (lv_at hl 1 rfl) ?_
        refine pg_gi (ci := 9) (C := RX9) (T := TX9) (N := 63) hx hb hts wi9 hown hK hW (hF.k hk (by decide)) (by decide) rfl 17 (by decide) (hts (.fieldLink RX9 161 "IceHallModel" "number" "I") (by decide +kernel)) (fun _ h9 => h9) rfl dX9_readsClause_261 ?_
        rw [show sI T77 h 17 = sI T77 h 17 from rfl]
        refine pg_pi (ci := 9) (C := RX9) (T := TX9) (N := 63) hx hb hts wi9 tyX9 tyX9_ok nmX9 hown hK hW hS (hF.k hk (by decide)) (by decide) rfl 14 (by decide) (hts (.fieldLink RX9 187 "IceHallModel" "saidLimit" "I") (by decide +kernel)) (fun _ h9 => h9) rfl rfl rfl dX9_readsClause_264 (fun H locs hW hS => ?_)
        have kq81 : sK T77 h = 9 := (hF.k hk (by decide))
        obtain ⟨S82, eS82⟩ : ∃ T : St, T = stI T77 h 14 (sI T77 h 17) := ⟨_, rfl⟩
        rw [← eS82] at hW
        have hG : G S82 := by rw [eS82]; exact hG.I kq81 (ok_fr (by decide))
        have w83 : sI S82 h 2 = sI T77 h 2 := by rw [eS82]; exact (iI_k (by decide)).trans rfl
        have w84 : sI S82 h 17 = sI T77 h 17 := by rw [eS82]; exact (iI_k (by decide)).trans rfl
        have w85 : sI S82 h 4 = sI T77 h 4 := by rw [eS82]; exact (iI_k (by decide)).trans rfl
        have hF : Fr [] [902, 904, 911, 912, 913, 914, 915, 916, 917] S S82 := by rw [eS82]; exact hF.I kq81 (by decide)
        clear eS82
        refine lv_iconst (v := 1) hx hb dX9_readsClause_267 (by decide) ?_
        have lk86 : (sI S82 h 2).toInt = (sI T77 h 2).toInt := by rw [show sI S82 h 2 = sI T77 h 2 from w83]
        have lk87 : (sI S82 h 17).toInt = (sI T77 h 17).toInt := by rw [show sI S82 h 17 = sI T77 h 17 from w84]
        have lk88 : (sI S82 h 4).toInt = (sI T77 h 4).toInt := by rw [show sI S82 h 4 = sI T77 h 4 from w85]
        have lk89 : (sI S82 h 3).toInt = (sI S h 3).toInt := by rw [hF.i hk (by decide) (by decide)]
        exact pc_zret (v := 1) (S := S82) hx hb hr hlk hK hZ hA hW hS (by decide) (⟨hG, hF, ⟨Or.inr ⟨by omega, Or.inr (Or.inr (Or.inr (Or.inl ⟨by omega, ⟨_, p78.1.c (by omega) (by omega) (by omega) rfl (by omega) (by omega)⟩⟩)))⟩, by omega, by omega⟩⟩) dX9_readsClause_268
      · have c80i : Int32.toInt v76 = (0 : Int) := (i3_eq _ _).mp c80
        refine lv_iconst (v := 0) hx hb dX9_readsClause_257 (by decide) ?_
        have lk90 : (sI T77 h 3).toInt = (sI S h 3).toInt := by rw [hF.i hk (by decide) (by decide)]
        exact pc_zret (v := 0) (S := T77) hx hb hr hlk hK hZ hA hW hS (by decide) (⟨hG, hF, ⟨Or.inr ⟨by omega, Or.inr (Or.inr (Or.inr (Or.inl ⟨by omega, ⟨_, p78.1.c (by omega) (by omega) (by omega) rfl (by omega) (by omega)⟩⟩)))⟩, by omega, by omega⟩⟩) dX9_readsClause_258
    by_cases c91 : v3 = 119
    · refine lv_lookup (off := 50) (tgt := 112) hx hb dX9_readsClause_62 (by decide) (by rw [c91]; decide) (by decide) ?_
      have c91i : Int32.toInt v3 = 119 := by rw [c91]; rfl
      refine lv_aload_n hx hb dX9_readsClause_112 rfl (lv_at hl 1 rfl) ?_
      refine lv_iconst (v := 0) hx hb dX9_readsClause_113 (by decide) ?_
      refine lv_bipush (v := 23) hx hb dX9_readsClause_114 (by decide) ?_
      have lk92 : (sI S7 h 2).toInt = ((sI S h 2) + 1).toInt := by rw [show sI S7 h 2 = (sI S h 2) + 1 from w10]
      have lk93 : (sI S7 h 17).toInt = (sI S h 17).toInt := by rw [show sI S7 h 17 = sI S h 17 from w8]
      have lk94 : (sI S7 h 4).toInt = (sI S h 4).toInt := by rw [show sI S7 h 4 = sI S h 4 from w9]
      have lk95 : (sI S7 h 3).toInt = (sI S h 3).toInt := by rw [hF.i hk (by decide) (by decide)]
      refine pc_Vi (As := [.int 0, .int 23]) (rest := []) F (b_X9_reads l D cy A S7 h bt f n 0 23 hG (hF.k hk (by decide)) (hF.r hk (by decide) hr0) (hF.k hkb (by decide)) (hF.n hkb (by decide) hlb) (by omega) (fun j hj => (hF.iA hkb (by decide) (by decide) (by decide)).trans (hf j hj)) (by omega) (by omega)) (cwV 2 hts gX9_readsClause_X9_reads rfl rfl rfl (by decide +kernel) ⟨Nat.le_of_ble_eq_true rfl, Nat.le_of_ble_eq_true rfl⟩) hK hZ hA hW hS (hF.k hk (by decide)) (by decide) rfl rfl hl.1 rfl (Nat.le_of_ble_eq_true rfl) dX9_readsClause_116 ⟨Nat.le_of_ble_eq_true rfl, Nat.le_of_ble_eq_true rfl⟩ (fun v96 T97 H locs p98 hW hS => ?_)
      obtain ⟨hG, hFc, p98⟩ := p98
      have hF : Fr [] [902, 904, 911, 912, 913, 914, 915, 916, 917] S T97 := hF.tr (hFc.mono (by decide))
      have g99 : (0 : Int) ≤ (sI T97 h 2).toInt ∧ (sI T97 h 2).toInt ≤ 100 := hG.i (hF.k hk (by decide)) (by decide) 2 (by decide)
      have hN1 : NR f n 0 23 ((sI S h 2).toInt + 1) (sI T97 h 17).toInt (sI T97 h 2).toInt (sI T97 h 4).toInt := p98.1.c rfl rfl (by omega) rfl rfl rfl
      have hN1v := hN1.v
      have hN1p := hN1.p
      refine lv_if_ne (tgt := 124) hx hb dX9_readsClause_119 (by decide) (fun c100 => ?_) (fun c100 => ?_)
      · have c100i : ¬ (Int32.toInt v96 = (0 : Int)) := fun h9 => c100 ((i3_eq _ _).mpr h9)
        refine lv_aload_n hx hb dX9_readsClause_124 rfl (lv_at hl 1 rfl) ?_
        refine pg_gi (ci := 9) (C := RX9) (T := TX9) (N := 63) hx hb hts wi9 hown hK hW (hF.k hk (by decide)) (by decide) rfl 17 (by decide) (hts (.fieldLink RX9 161 "IceHallModel" "number" "I") (by decide +kernel)) (fun _ h9 => h9) rfl dX9_readsClause_125 ?_
        rw [show sI T97 h 17 = sI T97 h 17 from rfl]
        refine lv_istore_n (lv' := [(2, .int (sI T97 h 17)), (1, .int v3), (0, .ref h)]) hx hb dX9_readsClause_128 rfl hl (by decide) rfl (fun ls hl => ?_)
        refine lv_aload_n hx hb dX9_readsClause_129 rfl (lv_at hl 2 rfl) ?_
        have lk101 : (sI T97 h 3).toInt = (sI S h 3).toInt := by rw [hF.i hk (by decide) (by decide)]
        refine pc_Vi (As := []) (rest := []) F (b_X9_here l D cy A T97 h bt f n hG (hF.k hk (by decide)) (hF.r hk (by decide) hr0) (hF.k hkb (by decide)) (hF.n hkb (by decide) hlb) (by omega) (fun j hj => (hF.iA hkb (by decide) (by decide) (by decide)).trans (hf j hj))) (cwV 0 hts gX9_readsClause_X9_here rfl rfl rfl (by decide +kernel) ⟨Nat.le_of_ble_eq_true rfl, Nat.le_of_ble_eq_true rfl⟩) hK hZ hA hW hS (hF.k hk (by decide)) (by decide) rfl rfl hl.1 rfl (Nat.le_of_ble_eq_true rfl) dX9_readsClause_130 ⟨Nat.le_of_ble_eq_true rfl, Nat.le_of_ble_eq_true rfl⟩ (fun v102 T103 H locs p104 hW hS => ?_)
        obtain ⟨eT103, p104⟩ := p104
        rw [eT103] at hW
        clear eT103
        refine lv_bipush (v := 45) hx hb dX9_readsClause_133 (by decide) ?_
        refine lv_icmp_eq (tgt := 148) hx hb dX9_readsClause_135 (by decide) (fun c105 => ?_) (fun c105 => ?_)
        · have c105i : Int32.toInt v102 = (45 : Int) := (i3_eq _ _).mp c105
          refine lv_aload_n hx hb dX9_readsClause_148 rfl (lv_at hl 2 rfl) ?_
          refine lv_aload_n hx hb dX9_readsClause_149 rfl (lv_at hl 2 rfl) ?_
          refine pg_gi (ci := 9) (C := RX9) (T := TX9) (N := 63) hx hb hts wi9 hown hK hW (hF.k hk (by decide)) (by decide) rfl 2 (by decide) (hts (.fieldLink RX9 148 "IceHallModel" "place" "I") (by decide +kernel)) (fun _ h9 => h9) rfl dX9_readsClause_150 ?_
          rw [show sI T97 h 2 = sI T97 h 2 from rfl]
          refine lv_iconst (v := 1) hx hb dX9_readsClause_153 (by decide) ?_
          refine lv_iadd hx hb dX9_readsClause_154 ?_
          have l106 : ((sI T97 h 2) + 1).toInt = Int32.toInt (sI T97 h 2) + (1 : Int) := i3_add rfl rfl (by omega) (by omega)
          refine pg_pi (ci := 9) (C := RX9) (T := TX9) (N := 63) hx hb hts wi9 tyX9 tyX9_ok nmX9 hown hK hW hS (hF.k hk (by decide)) (by decide) rfl 2 (by decide) (hts (.fieldLink RX9 148 "IceHallModel" "place" "I") (by decide +kernel)) (fun _ h9 => h9) rfl rfl rfl dX9_readsClause_155 (fun H locs hW hS => ?_)
          have kq107 : sK T97 h = 9 := (hF.k hk (by decide))
          obtain ⟨S108, eS108⟩ : ∃ T : St, T = stI T97 h 2 ((sI T97 h 2) + 1) := ⟨_, rfl⟩
          rw [← eS108] at hW
          have hG : G S108 := by rw [eS108]; exact hG.I kq107 (ok_in 0 100 (by decide) (⟨by omega, by omega⟩))
          have w109 : sI S108 h 17 = sI T97 h 17 := by rw [eS108]; exact (iI_k (by decide)).trans rfl
          have w110 : sI S108 h 4 = sI T97 h 4 := by rw [eS108]; exact (iI_k (by decide)).trans rfl
          have hF : Fr [] [902, 904, 911, 912, 913, 914, 915, 916, 917] S S108 := by rw [eS108]; exact hF.I kq107 (by decide)
          have w111 : sI S108 h 2 = (sI T97 h 2) + 1 := by rw [eS108]; exact iI_s
          clear eS108
          refine lv_aload_n hx hb dX9_readsClause_158 rfl (lv_at hl 2 rfl) ?_
          refine lv_iload_n hx hb dX9_readsClause_159 rfl (lv_at hl 0 rfl) ?_
          refine lv_iconst (v := 1) hx hb dX9_readsClause_160 (by decide) ?_
          refine lv_iadd hx hb dX9_readsClause_161 ?_
          have l112 : ((sI T97 h 17) + 1).toInt = Int32.toInt (sI T97 h 17) + (1 : Int) := i3_add rfl rfl (by omega) (by omega)
          refine lv_bipush (v := 24) hx hb dX9_readsClause_162 (by decide) ?_
          have lk113 : (sI S108 h 2).toInt = ((sI T97 h 2) + 1).toInt := by rw [show sI S108 h 2 = (sI T97 h 2) + 1 from w111]
          have lk114 : (sI S108 h 17).toInt = (sI T97 h 17).toInt := by rw [show sI S108 h 17 = sI T97 h 17 from w109]
          have lk115 : (sI S108 h 4).toInt = (sI T97 h 4).toInt := by rw [show sI S108 h 4 = sI T97 h 4 from w110]
          have lk116 : (sI S108 h 3).toInt = (sI S h 3).toInt := by rw [hF.i hk (by decide) (by decide)]
          refine pc_Vi (As := [.int ((sI T97 h 17) + 1), .int 24]) (rest := []) F (b_X9_reads l D cy A S108 h bt f n ((sI T97 h 17) + 1) 24 hG (hF.k hk (by decide)) (hF.r hk (by decide) hr0) (hF.k hkb (by decide)) (hF.n hkb (by decide) hlb) (by omega) (fun j hj => (hF.iA hkb (by decide) (by decide) (by decide)).trans (hf j hj)) (by omega) (by omega)) (cwV 2 hts gX9_readsClause_X9_reads rfl rfl rfl (by decide +kernel) ⟨Nat.le_of_ble_eq_true rfl, Nat.le_of_ble_eq_true rfl⟩) hK hZ hA hW hS (hF.k hk (by decide)) (by decide) rfl rfl hl.1 rfl (Nat.le_of_ble_eq_true rfl) dX9_readsClause_164 ⟨Nat.le_of_ble_eq_true rfl, Nat.le_of_ble_eq_true rfl⟩ (fun v117 T118 H locs p119 hW hS => ?_)
          obtain ⟨hG, hFc, p119⟩ := p119
          have hF : Fr [] [902, 904, 911, 912, 913, 914, 915, 916, 917] S T118 := hF.tr (hFc.mono (by decide))
          have g120 : (0 : Int) ≤ (sI T118 h 2).toInt ∧ (sI T118 h 2).toInt ≤ 100 := hG.i (hF.k hk (by decide)) (by decide) 2 (by decide)
          have hN2 : NR f n ((sI T97 h 17).toInt + 1) 24 ((sI T97 h 2).toInt + 1) (sI T118 h 17).toInt (sI T118 h 2).toInt (sI T118 h 4).toInt := p119.1.c (by omega) rfl (by omega) rfl rfl rfl
          have hN2v := hN2.v
          refine lv_if_ne (tgt := 172) hx hb dX9_readsClause_167 (by decide) (fun c121 => ?_) (fun c121 => ?_)
          · have c121i : ¬ (Int32.toInt v117 = (0 : Int)) := fun h9 => c121 ((i3_eq _ _).mpr h9)
            refine lv_iload_n hx hb dX9_readsClause_172 rfl (lv_at hl 0 rfl) ?_
            refine lv_istore_n (lv' := [(3, .int (sI T97 h 17)), (2, .int (sI T97 h 17)), (1, .int v3), (0, .ref h)]) hx hb dX9_readsClause_173 rfl hl (by decide) rfl (fun ls hl => ?_)
            have hE122 : Fr [] [902, 904, 911, 912, 913, 914, 915, 916, 917] T118 T118 := Fr.rf _ _ _
            have loop174 : ∀ (zn : Nat) (y : Int32) (L174 : St) (H : Heap) (locs : List Loc) (ls : Array Slot), (G L174) → (Fr [] [902, 904, 911, 912, 913, 914, 915, 916, 917] T118 L174) → ((sI L174 h 2).toInt = (sI T118 h 2).toInt ∧ (sI L174 h 4).toInt = 0 ∧ (sI L174 h 3).toInt = (sI S h 3).toInt) → (2147483647 - y.toInt).toNat < zn → PW D cy A L174 H → va_S A s.heap H locs → lv_has ls 4 [(0, .ref h), (1, .int v3), (2, .int (sI T97 h 17)), (3, .int y)] → W p l e ({ frames := 3, cells := 0, slots := 0, locals := 63 } : Room) s m args below meth c H locs 0 0 (MQ below (va_Qi (fun r S1 => G S1 ∧ Fr [] [902, 904, 911, 912, 913, 914, 915, 916, 917] S S1 ∧ (CR f n ((sI S h 2).toInt) (sI S1 h 2).toInt (sI S1 h 4).toInt ∧ ((r.toInt = 1 ∧ (sI S1 h 4).toInt = 0) ∨ (r.toInt = 0 ∧ ¬ (sI S1 h 4).toInt = 0)) ∧ ((sI S1 h 2).toInt ≤ (sI S h 3).toInt ∧ (sI S h 2).toInt ≤ (sI S1 h 2).toInt))) (PU D cy A) A) args s 0 0 A) (F0 m 174 ls []) := by
              intro zn
              induction zn with
              | zero => intros; exact absurd (by assumption) (Nat.not_lt_zero _)
              | succ zn ih174 =>
                intro y L174 H locs ls hG hL174 hpl hme174 hW hS hl
                have hF : Fr [] [902, 904, 911, 912, 913, 914, 915, 916, 917] S L174 := hF.tr hL174
                have hE122 := hL174
                have g123 : (0 : Int) ≤ (sI L174 h 2).toInt ∧ (sI L174 h 2).toInt ≤ 100 := hG.i (hF.k hk (by decide)) (by decide) 2 (by decide)
                have lk124 : (sI L174 h 3).toInt = (sI S h 3).toInt := by rw [hF.i hk (by decide) (by decide)]
                have hb9 := i3_bd y
                have hb7 := i3_bd (sI L174 h 17)
                refine lv_iload_n hx hb dX9_readsClause_174 rfl (lv_at hl 3 rfl) ?_
                refine lv_aload_n hx hb dX9_readsClause_175 rfl (lv_at hl 0 rfl) ?_
                refine pg_gi (ci := 9) (C := RX9) (T := TX9) (N := 63) hx hb hts wi9 hown hK hW (hF.k hk (by decide)) (by decide) rfl 17 (by decide) (hts (.fieldLink RX9 161 "IceHallModel" "number" "I") (by decide +kernel)) (fun _ h9 => h9) rfl dX9_readsClause_176 ?_
                rw [show sI L174 h 17 = sI L174 h 17 from rfl]
                refine lv_icmp_ge (tgt := 200) hx hb dX9_readsClause_179 (by decide) (fun c125 => ?_) (fun c125 => ?_)
                · have c125i : Int32.toInt (sI L174 h 17) ≤ Int32.toInt y := (i3_le _ _).mp c125
                  refine lv_iconst (v := 1) hx hb dX9_readsClause_200 (by decide) ?_
                  have lk126 : (sI L174 h 3).toInt = (sI S h 3).toInt := by rw [hF.i hk (by decide) (by decide)]
                  exact pc_zret (v := 1) (S := L174) hx hb hr hlk hK hZ hA hW hS (by decide) (⟨hG, hF, ⟨Or.inr ⟨by omega, Or.inl ⟨by omega, ⟨_, _, _, hN1, Or.inr (Or.inr ⟨by omega, by omega, _, hN2.c rfl rfl rfl rfl (by omega) (by omega)⟩)⟩⟩⟩, by omega, by omega⟩⟩) dX9_readsClause_201
                · have c125i : ¬ (Int32.toInt (sI L174 h 17) ≤ Int32.toInt y) := fun h9 => c125 ((i3_le _ _).mpr h9)
                  refine lv_aload_n hx hb dX9_readsClause_182 rfl (lv_at hl 0 rfl) ?_
                  refine lv_aload_n hx hb dX9_readsClause_183 rfl (lv_at hl 0 rfl) ?_
                  refine pg_gi (ci := 9) (C := RX9) (T := TX9) (N := 63) hx hb hts wi9 hown hK hW (hF.k hk (by decide)) (by decide) rfl 11 (by decide) (hts (.fieldLink RX9 175 "IceHallModel" "saidClocks" "I") (by decide +kernel)) (fun _ h9 => h9) rfl dX9_readsClause_184 ?_
                  refine lv_iconst (v := 1) hx hb dX9_readsClause_187 (by decide) ?_
                  refine lv_iload_n hx hb dX9_readsClause_188 rfl (lv_at hl 3 rfl) ?_
                  refine lv_ishl hx hb dX9_readsClause_189 ?_
                  refine lv_ior hx hb dX9_readsClause_190 ?_
                  refine pg_pi (ci := 9) (C := RX9) (T := TX9) (N := 63) hx hb hts wi9 tyX9 tyX9_ok nmX9 hown hK hW hS (hF.k hk (by decide)) (by decide) rfl 11 (by decide) (hts (.fieldLink RX9 175 "IceHallModel" "saidClocks" "I") (by decide +kernel)) (fun _ h9 => h9) rfl rfl rfl dX9_readsClause_191 (fun H locs hW hS => ?_)
                  have kq127 : sK L174 h = 9 := (hF.k hk (by decide))
                  obtain ⟨S128, eS128⟩ : ∃ T : St, T = stI L174 h 11 ((sI L174 h 11) ||| (1 <<< (y &&& 31))) := ⟨_, rfl⟩
                  rw [← eS128] at hW
                  have hG : G S128 := by rw [eS128]; exact hG.I kq127 (ok_fr (by decide))
                  have w129 : sI S128 h 2 = sI L174 h 2 := by rw [eS128]; exact (iI_k (by decide)).trans rfl
                  have w130 : sI S128 h 17 = sI L174 h 17 := by rw [eS128]; exact (iI_k (by decide)).trans rfl
                  have w131 : sI S128 h 4 = sI L174 h 4 := by rw [eS128]; exact (iI_k (by decide)).trans rfl
                  have hF : Fr [] [902, 904, 911, 912, 913, 914, 915, 916, 917] S S128 := by rw [eS128]; exact hF.I kq127 (by decide)
                  have hE122 : Fr [] [902, 904, 911, 912, 913, 914, 915, 916, 917] T118 S128 := by rw [eS128]; exact hE122.I kq127 (by decide)
                  clear eS128
                  refine lv_iinc (v := y + 1) (lv' := [(3, .int (y + 1)), (0, .ref h), (1, .int v3), (2, .int (sI T97 h 17))]) hx hb dX9_readsClause_194 hl (k := 3) rfl rfl (by decide) rfl (fun ls hl => ?_)
                  have i132 : (y + 1).toInt = (y).toInt + 1 := i3_add rfl rfl (by omega) (by omega)
                  refine lv_goto (tgt := 174) hx hb dX9_readsClause_197 (by decide) ?_
                  have lk133 : (sI S128 h 2).toInt = (sI L174 h 2).toInt := by rw [show sI S128 h 2 = sI L174 h 2 from w129]
                  have lk134 : (sI S128 h 17).toInt = (sI L174 h 17).toInt := by rw [show sI S128 h 17 = sI L174 h 17 from w130]
                  have lk135 : (sI S128 h 4).toInt = (sI L174 h 4).toInt := by rw [show sI S128 h 4 = sI L174 h 4 from w131]
                  have lk136 : (sI S128 h 3).toInt = (sI S h 3).toInt := by rw [hF.i hk (by decide) (by decide)]
                  exact ih174 (y + 1) S128 _ _ ls hG hE122 (by omega) (by omega) hW hS (lv_cast (lv_sub hl [1, 2, 3, 0] rfl) (rfl))
            have lk137 : (sI T118 h 3).toInt = (sI S h 3).toInt := by rw [hF.i hk (by decide) (by decide)]
            exact loop174 _ (sI T97 h 17) T118 _ _ ls hG hE122 (by omega) (Nat.lt_succ_self _) hW hS (lv_cast (lv_sub hl [3, 2, 1, 0] rfl) (rfl))
          · have c121i : Int32.toInt v117 = (0 : Int) := (i3_eq _ _).mp c121
            refine lv_iconst (v := 0) hx hb dX9_readsClause_170 (by decide) ?_
            have lk138 : (sI T118 h 3).toInt = (sI S h 3).toInt := by rw [hF.i hk (by decide) (by decide)]
            exact pc_zret (v := 0) (S := T118) hx hb hr hlk hK hZ hA hW hS (by decide) (⟨hG, hF, ⟨Or.inr ⟨by omega, Or.inl ⟨by omega, ⟨_, _, _, hN1, Or.inr (Or.inr ⟨by omega, by omega, _, hN2⟩)⟩⟩⟩, by omega, by omega⟩⟩) dX9_readsClause_171
        · have c105i : ¬ (Int32.toInt v102 = (45 : Int)) := fun h9 => c105 ((i3_eq _ _).mpr h9)
          refine lv_aload_n hx hb dX9_readsClause_138 rfl (lv_at hl 2 rfl) ?_
          refine lv_iconst (v := 1) hx hb dX9_readsClause_139 (by decide) ?_
          refine lv_aload_n hx hb dX9_readsClause_140 rfl (lv_at hl 2 rfl) ?_
          refine pg_gi (ci := 9) (C := RX9) (T := TX9) (N := 63) hx hb hts wi9 hown hK hW (hF.k hk (by decide)) (by decide) rfl 2 (by decide) (hts (.fieldLink RX9 148 "IceHallModel" "place" "I") (by decide +kernel)) (fun _ h9 => h9) rfl dX9_readsClause_141 ?_
          rw [show sI T97 h 2 = sI T97 h 2 from rfl]
          have lk139 : (sI T97 h 3).toInt = (sI S h 3).toInt := by rw [hF.i hk (by decide) (by decide)]
          refine pc_Vi (As := [.int 1, .int (sI T97 h 2)]) (rest := []) F (b_X9_wrong l D cy A T97 h 1 (sI T97 h 2) hG (hF.k hk (by decide)) (by omega) (by omega) (by omega) (by omega)) (cwV 2 hts gX9_readsClause_X9_wrong rfl rfl rfl (by decide +kernel) ⟨Nat.le_of_ble_eq_true rfl, Nat.le_of_ble_eq_true rfl⟩) hK hZ hA hW hS (hF.k hk (by decide)) (by decide) rfl rfl hl.1 rfl (Nat.le_of_ble_eq_true rfl) dX9_readsClause_144 ⟨Nat.le_of_ble_eq_true rfl, Nat.le_of_ble_eq_true rfl⟩ (fun v140 T141 H locs p142 hW hS => ?_)
          obtain ⟨hG, hFc, p142⟩ := p142
          have w143 : sI T141 h 2 = sI T97 h 2 := (hFc.i (hF.k hk (by decide)) (by decide) (by decide)).trans rfl
          have w144 : sI T141 h 17 = sI T97 h 17 := (hFc.i (hF.k hk (by decide)) (by decide) (by decide)).trans rfl
          have hF : Fr [] [902, 904, 911, 912, 913, 914, 915, 916, 917] S T141 := hF.tr (hFc.mono (by decide))
          rw [show v140 = 0 from p142.1]
          have lk145 : (sI T141 h 2).toInt = (sI T97 h 2).toInt := by rw [show sI T141 h 2 = sI T97 h 2 from w143]
          have lk146 : (sI T141 h 17).toInt = (sI T97 h 17).toInt := by rw [show sI T141 h 17 = sI T97 h 17 from w144]
          have lk147 : (sI T141 h 3).toInt = (sI S h 3).toInt := by rw [hF.i hk (by decide) (by decide)]
          exact pc_zret (v := 0) (S := T141) hx hb hr hlk hK hZ hA hW hS (by decide) (⟨hG, hF, ⟨Or.inr ⟨by omega, Or.inl ⟨by omega, ⟨_, _, _, hN1, Or.inr (Or.inl ⟨by omega, by omega, by omega, by omega⟩)⟩⟩⟩, by omega, by omega⟩⟩) dX9_readsClause_147
      · have c100i : Int32.toInt v96 = (0 : Int) := (i3_eq _ _).mp c100
        refine lv_iconst (v := 0) hx hb dX9_readsClause_122 (by decide) ?_
        have lk148 : (sI T97 h 3).toInt = (sI S h 3).toInt := by rw [hF.i hk (by decide) (by decide)]
        exact pc_zret (v := 0) (S := T97) hx hb hr hlk hK hZ hA hW hS (by decide) (⟨hG, hF, ⟨Or.inr ⟨by omega, Or.inl ⟨by omega, ⟨_, _, _, hN1, Or.inl ⟨by omega, by omega, by omega⟩⟩⟩⟩, by omega, by omega⟩⟩) dX9_readsClause_123
    have c11i : ¬ Int32.toInt v3 = 100 := lv_neT c11 rfl
    have c31i : ¬ Int32.toInt v3 = 102 := lv_neT c31 rfl
    have c51i : ¬ Int32.toInt v3 = 107 := lv_neT c51 rfl
    have c71i : ¬ Int32.toInt v3 = 110 := lv_neT c71 rfl
    have c91i : ¬ Int32.toInt v3 = 119 := lv_neT c91 rfl
    refine lv_lookup (off := 230) (tgt := 292) hx hb dX9_readsClause_62 (by decide) (by have qc11 : ¬ (100 : Int) = Int32.toInt v3 := fun h9 => lv_neT c11 (a := 100) rfl h9.symm; have qc31 : ¬ (102 : Int) = Int32.toInt v3 := fun h9 => lv_neT c31 (a := 102) rfl h9.symm; have qc51 : ¬ (107 : Int) = Int32.toInt v3 := fun h9 => lv_neT c51 (a := 107) rfl h9.symm; have qc71 : ¬ (110 : Int) = Int32.toInt v3 := fun h9 => lv_neT c71 (a := 110) rfl h9.symm; have qc91 : ¬ (119 : Int) = Int32.toInt v3 := fun h9 => lv_neT c91 (a := 119) rfl h9.symm; show (if (100 : Int) = Int32.toInt v3 then (140 : Int) else if (102 : Int) = Int32.toInt v3 then (207 : Int) else if (107 : Int) = Int32.toInt v3 then (163 : Int) else if (110 : Int) = Int32.toInt v3 then (184 : Int) else if (119 : Int) = Int32.toInt v3 then (50 : Int) else (230 : Int)) = _; rw [if_neg qc11, if_neg qc31, if_neg qc51, if_neg qc71, if_neg qc91]) (by decide) ?_
    refine lv_aload_n hx hb dX9_readsClause_292 rfl (lv_at hl 1 rfl) ?_
    refine lv_iconst (v := 0) hx hb dX9_readsClause_293 (by decide) ?_
    refine lv_bipush (v := 100) hx hb dX9_readsClause_294 (by decide) ?_
    have lk149 : (sI S7 h 2).toInt = ((sI S h 2) + 1).toInt := by rw [show sI S7 h 2 = (sI S h 2) + 1 from w10]
    have lk150 : (sI S7 h 17).toInt = (sI S h 17).toInt := by rw [show sI S7 h 17 = sI S h 17 from w8]
    have lk151 : (sI S7 h 4).toInt = (sI S h 4).toInt := by rw [show sI S7 h 4 = sI S h 4 from w9]
    have lk152 : (sI S7 h 3).toInt = (sI S h 3).toInt := by rw [hF.i hk (by decide) (by decide)]
    refine pc_Vi (As := [.int 0, .int 100]) (rest := []) F (b_X9_reads l D cy A S7 h bt f n 0 100 hG (hF.k hk (by decide)) (hF.r hk (by decide) hr0) (hF.k hkb (by decide)) (hF.n hkb (by decide) hlb) (by omega) (fun j hj => (hF.iA hkb (by decide) (by decide) (by decide)).trans (hf j hj)) (by omega) (by omega)) (cwV 2 hts gX9_readsClause_X9_reads rfl rfl rfl (by decide +kernel) ⟨Nat.le_of_ble_eq_true rfl, Nat.le_of_ble_eq_true rfl⟩) hK hZ hA hW hS (hF.k hk (by decide)) (by decide) rfl rfl hl.1 rfl (Nat.le_of_ble_eq_true rfl) dX9_readsClause_296 ⟨Nat.le_of_ble_eq_true rfl, Nat.le_of_ble_eq_true rfl⟩ (fun v153 T154 H locs p155 hW hS => ?_)
    obtain ⟨hG, hFc, p155⟩ := p155
    have hF : Fr [] [902, 904, 911, 912, 913, 914, 915, 916, 917] S T154 := hF.tr (hFc.mono (by decide))
    have g156 : (0 : Int) ≤ (sI T154 h 2).toInt ∧ (sI T154 h 2).toInt ≤ 100 := hG.i (hF.k hk (by decide)) (by decide) 2 (by decide)
    refine lv_if_ne (tgt := 304) hx hb dX9_readsClause_299 (by decide) (fun c157 => ?_) (fun c157 => ?_)
    · have c157i : ¬ (Int32.toInt v153 = (0 : Int)) := fun h9 => c157 ((i3_eq _ _).mpr h9)
      refine lv_aload_n hx hb dX9_readsClause_304 rfl (lv_at hl 1 rfl) ?_
      refine lv_aload_n hx hb dX9_readsClause_305 rfl (lv_at hl 1 rfl) ?_
      refine pg_gi (ci := 9) (C := RX9) (T := TX9) (N := 63) hx hb hts wi9 hown hK hW (hF.k hk (by decide)) (by decide) rfl 17 (by decide) (hts (.fieldLink RX9 161 "IceHallModel" "number" "I") (by decide +kernel)) (fun _ h9 => h9) rfl dX9_readsClause_306 ?_
      rw [show sI T154 h 17 = sI T154 h 17 from rfl]
      refine pg_pi (ci := 9) (C := RX9) (T := TX9) (N := 63) hx hb hts wi9 tyX9 tyX9_ok nmX9 hown hK hW hS (hF.k hk (by decide)) (by decide) rfl 16 (by decide) (hts (.fieldLink RX9 193 "IceHallModel" "saidHundredths" "I") (by decide +kernel)) (fun _ h9 => h9) rfl rfl rfl dX9_readsClause_309 (fun H locs hW hS => ?_)
      have kq158 : sK T154 h = 9 := (hF.k hk (by decide))
      obtain ⟨S159, eS159⟩ : ∃ T : St, T = stI T154 h 16 (sI T154 h 17) := ⟨_, rfl⟩
      rw [← eS159] at hW
      have hG : G S159 := by rw [eS159]; exact hG.I kq158 (ok_fr (by decide))
      have w160 : sI S159 h 2 = sI T154 h 2 := by rw [eS159]; exact (iI_k (by decide)).trans rfl
      have w161 : sI S159 h 17 = sI T154 h 17 := by rw [eS159]; exact (iI_k (by decide)).trans rfl
      have w162 : sI S159 h 4 = sI T154 h 4 := by rw [eS159]; exact (iI_k (by decide)).trans rfl
      have hF : Fr [] [902, 904, 911, 912, 913, 914, 915, 916, 917] S S159 := by rw [eS159]; exact hF.I kq158 (by decide)
      clear eS159
      refine lv_iconst (v := 1) hx hb dX9_readsClause_312 (by decide) ?_
      have lk163 : (sI S159 h 2).toInt = (sI T154 h 2).toInt := by rw [show sI S159 h 2 = sI T154 h 2 from w160]
      have lk164 : (sI S159 h 17).toInt = (sI T154 h 17).toInt := by rw [show sI S159 h 17 = sI T154 h 17 from w161]
      have lk165 : (sI S159 h 4).toInt = (sI T154 h 4).toInt := by rw [show sI S159 h 4 = sI T154 h 4 from w162]
      have lk166 : (sI S159 h 3).toInt = (sI S h 3).toInt := by rw [hF.i hk (by decide) (by decide)]
      exact pc_zret (v := 1) (S := S159) hx hb hr hlk hK hZ hA hW hS (by decide) (⟨hG, hF, ⟨Or.inr ⟨by omega, Or.inr (Or.inr (Or.inr (Or.inr (Or.inr (⟨by omega, ⟨_, p155.1.c (by omega) (by omega) (by omega) rfl (by omega) (by omega)⟩⟩)))))⟩, by omega, by omega⟩⟩) dX9_readsClause_313
    · have c157i : Int32.toInt v153 = (0 : Int) := (i3_eq _ _).mp c157
      refine lv_iconst (v := 0) hx hb dX9_readsClause_302 (by decide) ?_
      have lk167 : (sI T154 h 3).toInt = (sI S h 3).toInt := by rw [hF.i hk (by decide) (by decide)]
      exact pc_zret (v := 0) (S := T154) hx hb hr hlk hK hZ hA hW hS (by decide) (⟨hG, hF, ⟨Or.inr ⟨by omega, Or.inr (Or.inr (Or.inr (Or.inr (Or.inr (⟨by omega, ⟨_, p155.1.c (by omega) (by omega) (by omega) rfl (by omega) (by omega)⟩⟩)))))⟩, by omega, by omega⟩⟩) dX9_readsClause_303
  refine lv_iload_n hx hb dX9_readsClause_5 rfl (lv_at hl 0 rfl) ?_
  refine lv_bipush (v := 119) hx hb dX9_readsClause_6 (by decide) ?_
  refine lv_icmp_eq (tgt := 51) hx hb dX9_readsClause_8 (by decide) (fun c168 => ?_) (fun c168 => ?_)
  · have c168i : Int32.toInt v3 = (119 : Int) := (i3_eq _ _).mp c168
    exact join51 _ _ (by omega) hW hS
  · have c168i : ¬ (Int32.toInt v3 = (119 : Int)) := fun h9 => c168 ((i3_eq _ _).mpr h9)
    refine lv_iload_n hx hb dX9_readsClause_11 rfl (lv_at hl 0 rfl) ?_
    refine lv_bipush (v := 100) hx hb dX9_readsClause_12 (by decide) ?_
    refine lv_icmp_eq (tgt := 51) hx hb dX9_readsClause_14 (by decide) (fun c169 => ?_) (fun c169 => ?_)
    · have c169i : Int32.toInt v3 = (100 : Int) := (i3_eq _ _).mp c169
      exact join51 _ _ (by omega) hW hS
    · have c169i : ¬ (Int32.toInt v3 = (100 : Int)) := fun h9 => c169 ((i3_eq _ _).mpr h9)
      refine lv_iload_n hx hb dX9_readsClause_17 rfl (lv_at hl 0 rfl) ?_
      refine lv_bipush (v := 107) hx hb dX9_readsClause_18 (by decide) ?_
      refine lv_icmp_eq (tgt := 51) hx hb dX9_readsClause_20 (by decide) (fun c170 => ?_) (fun c170 => ?_)
      · have c170i : Int32.toInt v3 = (107 : Int) := (i3_eq _ _).mp c170
        exact join51 _ _ (by omega) hW hS
      · have c170i : ¬ (Int32.toInt v3 = (107 : Int)) := fun h9 => c170 ((i3_eq _ _).mpr h9)
        refine lv_iload_n hx hb dX9_readsClause_23 rfl (lv_at hl 0 rfl) ?_
        refine lv_bipush (v := 110) hx hb dX9_readsClause_24 (by decide) ?_
        refine lv_icmp_eq (tgt := 51) hx hb dX9_readsClause_26 (by decide) (fun c171 => ?_) (fun c171 => ?_)
        · have c171i : Int32.toInt v3 = (110 : Int) := (i3_eq _ _).mp c171
          exact join51 _ _ (by omega) hW hS
        · have c171i : ¬ (Int32.toInt v3 = (110 : Int)) := fun h9 => c171 ((i3_eq _ _).mpr h9)
          refine lv_iload_n hx hb dX9_readsClause_29 rfl (lv_at hl 0 rfl) ?_
          refine lv_bipush (v := 102) hx hb dX9_readsClause_30 (by decide) ?_
          refine lv_icmp_eq (tgt := 51) hx hb dX9_readsClause_32 (by decide) (fun c172 => ?_) (fun c172 => ?_)
          · have c172i : Int32.toInt v3 = (102 : Int) := (i3_eq _ _).mp c172
            exact join51 _ _ (by omega) hW hS
          · have c172i : ¬ (Int32.toInt v3 = (102 : Int)) := fun h9 => c172 ((i3_eq _ _).mpr h9)
            refine lv_iload_n hx hb dX9_readsClause_35 rfl (lv_at hl 0 rfl) ?_
            refine lv_bipush (v := 99) hx hb dX9_readsClause_36 (by decide) ?_
            refine lv_icmp_eq (tgt := 51) hx hb dX9_readsClause_38 (by decide) (fun c173 => ?_) (fun c173 => ?_)
            · have c173i : Int32.toInt v3 = (99 : Int) := (i3_eq _ _).mp c173
              exact join51 _ _ (by omega) hW hS
            · have c173i : ¬ (Int32.toInt v3 = (99 : Int)) := fun h9 => c173 ((i3_eq _ _).mpr h9)
              refine lv_aload_n hx hb dX9_readsClause_41 rfl (lv_at hl 1 rfl) ?_
              refine lv_iconst (v := 1) hx hb dX9_readsClause_42 (by decide) ?_
              refine lv_aload_n hx hb dX9_readsClause_43 rfl (lv_at hl 1 rfl) ?_
              refine pg_gi (ci := 9) (C := RX9) (T := TX9) (N := 63) hx hb hts wi9 hown hK hW hk (by decide) rfl 2 (by decide) (hts (.fieldLink RX9 148 "IceHallModel" "place" "I") (by decide +kernel)) (fun _ h9 => h9) rfl dX9_readsClause_44 ?_
              rw [show sI S h 2 = sI S h 2 from rfl]
              refine pc_Vi (As := [.int 1, .int (sI S h 2)]) (rest := []) F (b_X9_wrong l D cy A S h 1 (sI S h 2) hG hk (by omega) (by omega) (by omega) (by omega)) (cwV 2 hts gX9_readsClause_X9_wrong rfl rfl rfl (by decide +kernel) ⟨Nat.le_of_ble_eq_true rfl, Nat.le_of_ble_eq_true rfl⟩) hK hZ hA hW hS hk (by decide) rfl rfl hl.1 rfl (Nat.le_of_ble_eq_true rfl) dX9_readsClause_47 ⟨Nat.le_of_ble_eq_true rfl, Nat.le_of_ble_eq_true rfl⟩ (fun v174 T175 H locs p176 hW hS => ?_)
              obtain ⟨hG, hFc, p176⟩ := p176
              have w177 : sI T175 h 2 = sI S h 2 := (hFc.i hk (by decide) (by decide)).trans rfl
              have w178 : sI T175 h 17 = sI S h 17 := (hFc.i hk (by decide) (by decide)).trans rfl
              have hF : Fr [] [902, 904, 911, 912, 913, 914, 915, 916, 917] S T175 := hF.tr (hFc.mono (by decide))
              rw [show v174 = 0 from p176.1]
              have lk179 : (sI T175 h 2).toInt = (sI S h 2).toInt := by rw [show sI T175 h 2 = sI S h 2 from w177]
              have lk180 : (sI T175 h 17).toInt = (sI S h 17).toInt := by rw [show sI T175 h 17 = sI S h 17 from w178]
              have lk181 : (sI T175 h 3).toInt = (sI S h 3).toInt := by rw [hF.i hk (by decide) (by decide)]
              exact pc_zret (v := 0) (S := T175) hx hb hr hlk hK hZ hA hW hS (by decide) (⟨hG, hF, ⟨Or.inl ⟨by omega, by omega⟩, by omega, by omega⟩⟩) dX9_readsClause_50
set_option maxHeartbeats 4000000 in
set_option maxRecDepth 100000 in
theorem b_X9_readsText (l : Launch) (D : va_G) (cy : Nat → ClassId) (A : Nat → Prop) (S : St) (h bt : Nat) (f : Nat → Int32) (n : Int) (hG0 : G S) (hk : sK S h = 9) (hr0 : sR S h 0 = some bt) (hkb : sK S bt = 10) (hlb : sL S bt = 80) (hn : (sI S h 3).toInt = n) (hf : ∀ j : Nat, (j : Int) < n → sI S bt j = f j) (hp : (sI S h 2).toInt ≤ (sI S h 3).toInt) (hft : (sI S h 4).toInt = 0) : MI l yX9_readsText wsX9_readsText ({ frames := 4, cells := 0, slots := 0, locals := 86 } : Room) 0 0 D cy A [.ref h] S (fun r S1 => G S1 ∧ Fr [] [902, 904, 911, 912, 913, 914, 915, 916, 917] S S1 ∧ (TX f n ((sI S h 2).toInt) (sI S1 h 4).toInt ∧ ((r.toInt = 1 ∧ (sI S1 h 4).toInt = 0) ∨ (r.toInt = 0 ∧ ¬ (sI S1 h 4).toInt = 0)))) := by
  refine mt_start (cc := cX9_readsText) (maxL := 2) (ret := (some .boolean)) (by decide) rfl (Nat.le_of_ble_eq_true rfl) ?_
  intro p e s m args below meth c hx hb hr hlk hml hown hnm hts hK hZ hA hW hS ls hl
  have hl : lv_has ls 2 [(0, .ref h)] := hl
  have hown : s.vm.findClass RX9 = some m.cls := hown
  have F : CallFix p m c cX9_readsText 2 s args wsX9_readsText RX9 := ⟨hx, hb, hml, hown, hts⟩
  have wi9 : ∀ w ∈ u_ws RX9 TX9 63, w ∈ wsX9_readsText := by decide +kernel
  have hG := hG0
  have hF : Fr [] [902, 904, 911, 912, 913, 914, 915, 916, 917] S S := Fr.rf _ _ _
  have h0_ : (0 : Int32).toInt = 0 := rfl
  have h1_ : (1 : Int32).toInt = 1 := rfl
  have h2_ : (2 : Int32).toInt = 2 := rfl
  have g1 : (0 : Int) ≤ (sI S h 2).toInt ∧ (sI S h 2).toInt ≤ 100 := hG0.i hk (by decide) 2 (by decide)
  have g2 : (0 : Int) ≤ (sI S h 3).toInt ∧ (sI S h 3).toInt ≤ 80 := hG0.i hk (by decide) 3 (by decide)
  refine lv_iconst (v := 1) hx hb dX9_readsText_0 (by decide) ?_
  refine lv_istore_n (lv' := [(1, .int 1), (0, .ref h)]) hx hb dX9_readsText_1 rfl hl (by decide) rfl (fun ls hl => ?_)
  have loop2 : ∀ (zn : Nat) (mo : Int32) (L2 : St) (H : Heap) (locs : List Loc) (ls : Array Slot), (G L2) → (Fr [] [902, 904, 911, 912, 913, 914, 915, 916, 917] S L2) → ((sI S h 2).toInt ≤ (sI L2 h 2).toInt) → ((sI L2 h 4).toInt = 0) → ((¬ mo.toInt = 0 ∧ (sI L2 h 2).toInt ≤ (sI S h 3).toInt ∧ ∀ r : Int, TX f n (sI L2 h 2).toInt r → TX f n (sI S h 2).toInt r) ∨ (mo.toInt = 0 ∧ TX f n (sI S h 2).toInt 0)) → (100 - (sI L2 h 2).toInt).toNat < zn → PW D cy A L2 H → va_S A s.heap H locs → lv_has ls 2 [(0, .ref h), (1, .int mo)] → W p l e ({ frames := 4, cells := 0, slots := 0, locals := 86 } : Room) s m args below meth c H locs 0 0 (MQ below (va_Qi (fun r S1 => G S1 ∧ Fr [] [902, 904, 911, 912, 913, 914, 915, 916, 917] S S1 ∧ (TX f n ((sI S h 2).toInt) (sI S1 h 4).toInt ∧ ((r.toInt = 1 ∧ (sI S1 h 4).toInt = 0) ∨ (r.toInt = 0 ∧ ¬ (sI S1 h 4).toInt = 0)))) (PU D cy A) A) args s 0 0 A) (F0 m 2 ls []) := by
    intro zn
    induction zn with
    | zero => intros; exact absurd (by assumption) (Nat.not_lt_zero _)
    | succ zn ih2 =>
      intro mo L2 H locs ls hG hL2 hp0 hf0 hst hme2 hW hS hl
      have hF := hL2
      have g3 : (0 : Int) ≤ (sI L2 h 2).toInt ∧ (sI L2 h 2).toInt ≤ 100 := hG.i (hF.k hk (by decide)) (by decide) 2 (by decide)
      have lk4 : (sI L2 h 3).toInt = (sI S h 3).toInt := by rw [hF.i hk (by decide) (by decide)]
      refine lv_iload_n hx hb dX9_readsText_2 rfl (lv_at hl 1 rfl) ?_
      refine lv_if_eq (tgt := 68) hx hb dX9_readsText_3 (by decide) (fun c5 => ?_) (fun c5 => ?_)
      · have c5i : Int32.toInt mo = (0 : Int) := (i3_eq _ _).mp c5
        refine lv_iconst (v := 1) hx hb dX9_readsText_68 (by decide) ?_
        have lk6 : (sI L2 h 3).toInt = (sI S h 3).toInt := by rw [hF.i hk (by decide) (by decide)]
        exact pc_zret (v := 1) (S := L2) hx hb hr hlk hK hZ hA hW hS (by decide) (⟨hG, hF, ⟨(hst.resolve_left (fun h9 => by have h8 := h9.1; omega)).2.c rfl (by omega), by omega⟩⟩) dX9_readsText_69
      · have c5i : ¬ (Int32.toInt mo = (0 : Int)) := fun h9 => c5 ((i3_eq _ _).mpr h9)
        obtain ⟨hmo, hpn, hcont⟩ := hst.resolve_right (fun h9 => by have h8 := h9.1; omega)
        refine lv_aload_n hx hb dX9_readsText_6 rfl (lv_at hl 0 rfl) ?_
        have lk7 : (sI L2 h 3).toInt = (sI S h 3).toInt := by rw [hF.i hk (by decide) (by decide)]
        refine pc_Vi (As := []) (rest := []) F (b_X9_readsClause l D cy A L2 h bt f n hG (hF.k hk (by decide)) (hF.r hk (by decide) hr0) (hF.k hkb (by decide)) (hF.n hkb (by decide) hlb) (by omega) (fun j hj => (hF.iA hkb (by decide) (by decide) (by decide)).trans (hf j hj)) (by omega) (by omega)) (cwV 0 hts gX9_readsText_X9_readsClause rfl rfl rfl (by decide +kernel) ⟨Nat.le_of_ble_eq_true rfl, Nat.le_of_ble_eq_true rfl⟩) hK hZ hA hW hS (hF.k hk (by decide)) (by decide) rfl rfl hl.1 rfl (Nat.le_of_ble_eq_true rfl) dX9_readsText_7 ⟨Nat.le_of_ble_eq_true rfl, Nat.le_of_ble_eq_true rfl⟩ (fun v8 T9 H locs p10 hW hS => ?_)
        obtain ⟨hG, hFc, p10⟩ := p10
        have hF : Fr [] [902, 904, 911, 912, 913, 914, 915, 916, 917] S T9 := hF.tr (hFc.mono (by decide))
        have g11 : (0 : Int) ≤ (sI T9 h 2).toInt ∧ (sI T9 h 2).toInt ≤ 100 := hG.i (hF.k hk (by decide)) (by decide) 2 (by decide)
        have hC := p10.1
        refine lv_if_ne (tgt := 15) hx hb dX9_readsText_10 (by decide) (fun c12 => ?_) (fun c12 => ?_)
        · have c12i : ¬ (Int32.toInt v8 = (0 : Int)) := fun h9 => c12 ((i3_eq _ _).mpr h9)
          refine lv_aload_n hx hb dX9_readsText_15 rfl (lv_at hl 0 rfl) ?_
          refine pg_gi (ci := 9) (C := RX9) (T := TX9) (N := 63) hx hb hts wi9 hown hK hW (hF.k hk (by decide)) (by decide) rfl 2 (by decide) (hts (.fieldLink RX9 148 "IceHallModel" "place" "I") (by decide +kernel)) (fun _ h9 => h9) rfl dX9_readsText_16 ?_
          rw [show sI T9 h 2 = sI T9 h 2 from rfl]
          refine lv_aload_n hx hb dX9_readsText_19 rfl (lv_at hl 0 rfl) ?_
          refine pg_gi (ci := 9) (C := RX9) (T := TX9) (N := 63) hx hb hts wi9 hown hK hW (hF.k hk (by decide)) (by decide) rfl 3 (by decide) (hts (.fieldLink RX9 151 "IceHallModel" "size" "I") (by decide +kernel)) (fun _ h9 => h9) rfl dX9_readsText_20 ?_
          have g13 : (0 : Int) ≤ (sI T9 h 3).toInt ∧ (sI T9 h 3).toInt ≤ 80 := hG.i (hF.k hk (by decide)) (by decide) 3 (by decide)
          have lk14 : (sI T9 h 3).toInt = (sI S h 3).toInt := by rw [hF.i hk (by decide) (by decide)]
          refine lv_icmp_ge (tgt := 30) hx hb dX9_readsText_23 (by decide) (fun c15 => ?_) (fun c15 => ?_)
          · have c15i : Int32.toInt (sI T9 h 3) ≤ Int32.toInt (sI T9 h 2) := (i3_le _ _).mp c15
            refine lv_iconst (v := 0) hx hb dX9_readsText_30 (by decide) ?_
            refine lv_istore_n (lv' := [(1, .int 0), (0, .ref h)]) hx hb dX9_readsText_31 rfl hl (by decide) rfl (fun ls hl => ?_)
            refine lv_iload_n hx hb dX9_readsText_32 rfl (lv_at hl 0 rfl) ?_
            refine lv_if_eq (tgt := 55) hx hb dX9_readsText_33 (by decide) (fun c16 => ?_) (fun c16 => absurd (by decide) c16)
            refine lv_aload_n hx hb dX9_readsText_55 rfl (lv_at hl 1 rfl) ?_
            refine lv_aload_n hx hb dX9_readsText_56 rfl (lv_at hl 1 rfl) ?_
            refine pg_gi (ci := 9) (C := RX9) (T := TX9) (N := 63) hx hb hts wi9 hown hK hW (hF.k hk (by decide)) (by decide) rfl 2 (by decide) (hts (.fieldLink RX9 148 "IceHallModel" "place" "I") (by decide +kernel)) (fun _ h9 => h9) rfl dX9_readsText_57 ?_
            rw [show sI T9 h 2 = sI T9 h 2 from rfl]
            refine lv_iconst (v := 1) hx hb dX9_readsText_60 (by decide) ?_
            refine lv_iadd hx hb dX9_readsText_61 ?_
            have l17 : ((sI T9 h 2) + 1).toInt = Int32.toInt (sI T9 h 2) + (1 : Int) := i3_add rfl rfl (by omega) (by omega)
            refine pg_pi (ci := 9) (C := RX9) (T := TX9) (N := 63) hx hb hts wi9 tyX9 tyX9_ok nmX9 hown hK hW hS (hF.k hk (by decide)) (by decide) rfl 2 (by decide) (hts (.fieldLink RX9 148 "IceHallModel" "place" "I") (by decide +kernel)) (fun _ h9 => h9) rfl rfl rfl dX9_readsText_62 (fun H locs hW hS => ?_)
            have kq18 : sK T9 h = 9 := (hF.k hk (by decide))
            obtain ⟨S19, eS19⟩ : ∃ T : St, T = stI T9 h 2 ((sI T9 h 2) + 1) := ⟨_, rfl⟩
            rw [← eS19] at hW
            have hG : G S19 := by rw [eS19]; exact hG.I kq18 (ok_in 0 100 (by decide) (⟨by omega, by omega⟩))
            have w20 : sI S19 h 4 = sI T9 h 4 := by rw [eS19]; exact (iI_k (by decide)).trans rfl
            have hF : Fr [] [902, 904, 911, 912, 913, 914, 915, 916, 917] S S19 := by rw [eS19]; exact hF.I kq18 (by decide)
            have w21 : sI S19 h 2 = (sI T9 h 2) + 1 := by rw [eS19]; exact iI_s
            clear eS19
            refine lv_goto (tgt := 2) hx hb dX9_readsText_65 (by decide) ?_
            have lk22 : (sI S19 h 2).toInt = ((sI T9 h 2) + 1).toInt := by rw [show sI S19 h 2 = (sI T9 h 2) + 1 from w21]
            have lk23 : (sI S19 h 4).toInt = (sI T9 h 4).toInt := by rw [show sI S19 h 4 = sI T9 h 4 from w20]
            have lk24 : (sI S19 h 3).toInt = (sI S h 3).toInt := by rw [hF.i hk (by decide) (by decide)]
            exact ih2 0 S19 _ _ ls hG hF (by omega) (by omega) (Or.inr ⟨rfl, hcont _ (TX.fin hC (by omega) (by omega) rfl)⟩) (by omega) hW hS (lv_cast (lv_sub hl [1, 0] rfl) (rfl))
          · have c15i : ¬ (Int32.toInt (sI T9 h 3) ≤ Int32.toInt (sI T9 h 2)) := fun h9 => c15 ((i3_le _ _).mpr h9)
            refine lv_iconst (v := 1) hx hb dX9_readsText_26 (by decide) ?_
            refine lv_goto (tgt := 31) hx hb dX9_readsText_27 (by decide) ?_
            refine lv_istore_n (lv' := [(1, .int 1), (0, .ref h)]) hx hb dX9_readsText_31 rfl hl (by decide) rfl (fun ls hl => ?_)
            refine lv_iload_n hx hb dX9_readsText_32 rfl (lv_at hl 0 rfl) ?_
            refine lv_if_eq (tgt := 55) hx hb dX9_readsText_33 (by decide) (fun c25 => absurd c25 (by decide)) (fun c25 => ?_)
            refine lv_aload_n hx hb dX9_readsText_36 rfl (lv_at hl 1 rfl) ?_
            have lk26 : (sI T9 h 3).toInt = (sI S h 3).toInt := by rw [hF.i hk (by decide) (by decide)]
            refine pc_Vi (As := []) (rest := []) F (b_X9_here l D cy A T9 h bt f n hG (hF.k hk (by decide)) (hF.r hk (by decide) hr0) (hF.k hkb (by decide)) (hF.n hkb (by decide) hlb) (by omega) (fun j hj => (hF.iA hkb (by decide) (by decide) (by decide)).trans (hf j hj))) (cwV 0 hts gX9_readsText_X9_here rfl rfl rfl (by decide +kernel) ⟨Nat.le_of_ble_eq_true rfl, Nat.le_of_ble_eq_true rfl⟩) hK hZ hA hW hS (hF.k hk (by decide)) (by decide) rfl rfl hl.1 rfl (Nat.le_of_ble_eq_true rfl) dX9_readsText_37 ⟨Nat.le_of_ble_eq_true rfl, Nat.le_of_ble_eq_true rfl⟩ (fun v27 T28 H locs p29 hW hS => ?_)
            obtain ⟨eT28, p29⟩ := p29
            rw [eT28] at hW
            clear eT28
            refine lv_bipush (v := 59) hx hb dX9_readsText_40 (by decide) ?_
            refine lv_icmp_eq (tgt := 55) hx hb dX9_readsText_42 (by decide) (fun c30 => ?_) (fun c30 => ?_)
            · have c30i : Int32.toInt v27 = (59 : Int) := (i3_eq _ _).mp c30
              refine lv_aload_n hx hb dX9_readsText_55 rfl (lv_at hl 1 rfl) ?_
              refine lv_aload_n hx hb dX9_readsText_56 rfl (lv_at hl 1 rfl) ?_
              refine pg_gi (ci := 9) (C := RX9) (T := TX9) (N := 63) hx hb hts wi9 hown hK hW (hF.k hk (by decide)) (by decide) rfl 2 (by decide) (hts (.fieldLink RX9 148 "IceHallModel" "place" "I") (by decide +kernel)) (fun _ h9 => h9) rfl dX9_readsText_57 ?_
              rw [show sI T9 h 2 = sI T9 h 2 from rfl]
              refine lv_iconst (v := 1) hx hb dX9_readsText_60 (by decide) ?_
              refine lv_iadd hx hb dX9_readsText_61 ?_
              have l31 : ((sI T9 h 2) + 1).toInt = Int32.toInt (sI T9 h 2) + (1 : Int) := i3_add rfl rfl (by omega) (by omega)
              refine pg_pi (ci := 9) (C := RX9) (T := TX9) (N := 63) hx hb hts wi9 tyX9 tyX9_ok nmX9 hown hK hW hS (hF.k hk (by decide)) (by decide) rfl 2 (by decide) (hts (.fieldLink RX9 148 "IceHallModel" "place" "I") (by decide +kernel)) (fun _ h9 => h9) rfl rfl rfl dX9_readsText_62 (fun H locs hW hS => ?_)
              have kq32 : sK T9 h = 9 := (hF.k hk (by decide))
              obtain ⟨S33, eS33⟩ : ∃ T : St, T = stI T9 h 2 ((sI T9 h 2) + 1) := ⟨_, rfl⟩
              rw [← eS33] at hW
              have hG : G S33 := by rw [eS33]; exact hG.I kq32 (ok_in 0 100 (by decide) (⟨by omega, by omega⟩))
              have w34 : sI S33 h 4 = sI T9 h 4 := by rw [eS33]; exact (iI_k (by decide)).trans rfl
              have hF : Fr [] [902, 904, 911, 912, 913, 914, 915, 916, 917] S S33 := by rw [eS33]; exact hF.I kq32 (by decide)
              have w35 : sI S33 h 2 = (sI T9 h 2) + 1 := by rw [eS33]; exact iI_s
              clear eS33
              refine lv_goto (tgt := 2) hx hb dX9_readsText_65 (by decide) ?_
              have lk36 : (sI S33 h 2).toInt = ((sI T9 h 2) + 1).toInt := by rw [show sI S33 h 2 = (sI T9 h 2) + 1 from w35]
              have lk37 : (sI S33 h 4).toInt = (sI T9 h 4).toInt := by rw [show sI S33 h 4 = sI T9 h 4 from w34]
              have lk38 : (sI S33 h 3).toInt = (sI S h 3).toInt := by rw [hF.i hk (by decide) (by decide)]
              exact ih2 1 S33 _ _ ls hG hF (by omega) (by omega) (Or.inl ⟨by decide, by omega, fun r9 h9 => hcont r9 (TX.on hC (by omega) (by omega) (by omega) (by omega) h9)⟩) (by omega) hW hS (lv_cast (lv_sub hl [1, 0] rfl) (rfl))
            · have c30i : ¬ (Int32.toInt v27 = (59 : Int)) := fun h9 => c30 ((i3_eq _ _).mpr h9)
              refine lv_aload_n hx hb dX9_readsText_45 rfl (lv_at hl 1 rfl) ?_
              refine lv_iconst (v := 1) hx hb dX9_readsText_46 (by decide) ?_
              refine lv_aload_n hx hb dX9_readsText_47 rfl (lv_at hl 1 rfl) ?_
              refine pg_gi (ci := 9) (C := RX9) (T := TX9) (N := 63) hx hb hts wi9 hown hK hW (hF.k hk (by decide)) (by decide) rfl 2 (by decide) (hts (.fieldLink RX9 148 "IceHallModel" "place" "I") (by decide +kernel)) (fun _ h9 => h9) rfl dX9_readsText_48 ?_
              rw [show sI T9 h 2 = sI T9 h 2 from rfl]
              have lk39 : (sI T9 h 3).toInt = (sI S h 3).toInt := by rw [hF.i hk (by decide) (by decide)]
              refine pc_Vi (As := [.int 1, .int (sI T9 h 2)]) (rest := []) F (b_X9_wrong l D cy A T9 h 1 (sI T9 h 2) hG (hF.k hk (by decide)) (by omega) (by omega) (by omega) (by omega)) (cwV 2 hts gX9_readsText_X9_wrong rfl rfl rfl (by decide +kernel) ⟨Nat.le_of_ble_eq_true rfl, Nat.le_of_ble_eq_true rfl⟩) hK hZ hA hW hS (hF.k hk (by decide)) (by decide) rfl rfl hl.1 rfl (Nat.le_of_ble_eq_true rfl) dX9_readsText_51 ⟨Nat.le_of_ble_eq_true rfl, Nat.le_of_ble_eq_true rfl⟩ (fun v40 T41 H locs p42 hW hS => ?_)
              obtain ⟨hG, hFc, p42⟩ := p42
              have w43 : sI T41 h 2 = sI T9 h 2 := (hFc.i (hF.k hk (by decide)) (by decide) (by decide)).trans rfl
              have hF : Fr [] [902, 904, 911, 912, 913, 914, 915, 916, 917] S T41 := hF.tr (hFc.mono (by decide))
              rw [show v40 = 0 from p42.1]
              have lk44 : (sI T41 h 2).toInt = (sI T9 h 2).toInt := by rw [show sI T41 h 2 = sI T9 h 2 from w43]
              have lk45 : (sI T41 h 3).toInt = (sI S h 3).toInt := by rw [hF.i hk (by decide) (by decide)]
              exact pc_zret (v := 0) (S := T41) hx hb hr hlk hK hZ hA hW hS (by decide) (⟨hG, hF, ⟨hcont _ (TX.stop hC (by omega) (by omega) (by omega) (by omega)), by omega⟩⟩) dX9_readsText_54
        · have c12i : Int32.toInt v8 = (0 : Int) := (i3_eq _ _).mp c12
          refine lv_iconst (v := 0) hx hb dX9_readsText_13 (by decide) ?_
          have lk46 : (sI T9 h 3).toInt = (sI S h 3).toInt := by rw [hF.i hk (by decide) (by decide)]
          exact pc_zret (v := 0) (S := T9) hx hb hr hlk hK hZ hA hW hS (by decide) (⟨hG, hF, ⟨hcont _ (TX.bad hC (by omega)), by omega⟩⟩) dX9_readsText_14
  exact loop2 _ 1 S _ _ ls hG hF (by omega) (hft) (Or.inl ⟨by decide, by omega, fun r9 h9 => h9⟩) (Nat.lt_succ_self _) hW hS (lv_cast (lv_sub hl [1, 0] rfl) (rfl))
set_option maxHeartbeats 4000000 in
set_option maxRecDepth 100000 in
theorem b_X9_rights (l : Launch) (D : va_G) (cy : Nat → ClassId) (A : Nat → Prop) (S : St) (h bt : Nat) (f : Nat → Int32) (a b : Int32) (hG0 : G S) (hk : sK S h = 9) (hr0 : sR S h 0 = some bt) (hkb : sK S bt = 10) (hlb : sL S bt = 80) (hf : ∀ j : Nat, (j : Int) < (sI S h 1).toInt → sI S bt j = f j) : MI l yX9_rights wsX9_rights ({ frames := 5, cells := 0, slots := 0, locals := 107 } : Room) 0 0 D cy A [.ref h, .int a, .int b] S (fun r S1 => G S1 ∧ Fr [] [901, 902, 903, 904, 911, 912, 913, 914, 915, 916, 917, 1100] S S1 ∧ ((((0 ≤ a.toInt ∧ a.toInt < 6 ∧ 0 ≤ b.toInt ∧ b.toInt ≤ (sI S h 1).toInt) → sI S1 h 1 = 0) ∧ (¬ (0 ≤ a.toInt ∧ a.toInt < 6 ∧ 0 ≤ b.toInt ∧ b.toInt ≤ (sI S h 1).toInt) → sI S1 h 1 = sI S h 1)) ∧ ((0 ≤ a.toInt ∧ a.toInt < 6 ∧ 0 ≤ b.toInt ∧ b.toInt ≤ (sI S h 1).toInt) → TX f b.toInt 0 r.toInt) ∧ (¬ (0 ≤ a.toInt ∧ a.toInt < 6 ∧ 0 ≤ b.toInt ∧ b.toInt ≤ (sI S h 1).toInt) → r = (-1)))) := by
  refine mt_start (cc := cX9_rights) (maxL := 4) (ret := (some .int)) (by decide) rfl (Nat.le_of_ble_eq_true rfl) ?_
  intro p e s m args below meth c hx hb hr hlk hml hown hnm hts hK hZ hA hW hS ls hl
  have hl : lv_has ls 4 [(0, .ref h), (1, .int a), (2, .int b)] := hl
  have hown : s.vm.findClass RX9 = some m.cls := hown
  have F : CallFix p m c cX9_rights 4 s args wsX9_rights RX9 := ⟨hx, hb, hml, hown, hts⟩
  have wi9 : ∀ w ∈ u_ws RX9 TX9 63, w ∈ wsX9_rights := by decide +kernel
  have hG := hG0
  have hF : Fr [] [901, 902, 903, 904, 911, 912, 913, 914, 915, 916, 917, 1100] S S := Fr.rf _ _ _
  have h0_ : (0 : Int32).toInt = 0 := rfl
  have h1_ : (1 : Int32).toInt = 1 := rfl
  have h2_ : (2 : Int32).toInt = 2 := rfl
  refine lv_iload_n hx hb dX9_rights_0 rfl (lv_at hl 1 rfl) ?_
  refine lv_if_lt (tgt := 22) hx hb dX9_rights_1 (by decide) (fun c1 => ?_) (fun c1 => ?_)
  · have c1i : Int32.toInt a < (0 : Int) := (i3_lt _ _).mp c1
    refine lv_iconst (v := (-1)) hx hb dX9_rights_22 (by decide) ?_
    exact pc_iret (v := (-1)) (S := S) hx hb hr hlk hK hZ hA hW hS (⟨hG, hF, ⟨⟨fun h9 => absurd h9 (by omega), fun _ => rfl⟩, fun h9 => absurd h9 (by omega), fun _ => rfl⟩⟩) dX9_rights_23
  · have c1i : ¬ (Int32.toInt a < (0 : Int)) := fun h9 => c1 ((i3_lt _ _).mpr h9)
    refine lv_iload_n hx hb dX9_rights_4 rfl (lv_at hl 1 rfl) ?_
    refine lv_bipush (v := 6) hx hb dX9_rights_5 (by decide) ?_
    refine lv_icmp_ge (tgt := 22) hx hb dX9_rights_7 (by decide) (fun c2 => ?_) (fun c2 => ?_)
    · have c2i : (6 : Int) ≤ Int32.toInt a := (i3_le _ _).mp c2
      refine lv_iconst (v := (-1)) hx hb dX9_rights_22 (by decide) ?_
      exact pc_iret (v := (-1)) (S := S) hx hb hr hlk hK hZ hA hW hS (⟨hG, hF, ⟨⟨fun h9 => absurd h9 (by omega), fun _ => rfl⟩, fun h9 => absurd h9 (by omega), fun _ => rfl⟩⟩) dX9_rights_23
    · have c2i : ¬ ((6 : Int) ≤ Int32.toInt a) := fun h9 => c2 ((i3_le _ _).mpr h9)
      refine lv_iload_n hx hb dX9_rights_10 rfl (lv_at hl 2 rfl) ?_
      refine lv_if_lt (tgt := 22) hx hb dX9_rights_11 (by decide) (fun c3 => ?_) (fun c3 => ?_)
      · have c3i : Int32.toInt b < (0 : Int) := (i3_lt _ _).mp c3
        refine lv_iconst (v := (-1)) hx hb dX9_rights_22 (by decide) ?_
        exact pc_iret (v := (-1)) (S := S) hx hb hr hlk hK hZ hA hW hS (⟨hG, hF, ⟨⟨fun h9 => absurd h9 (by omega), fun _ => rfl⟩, fun h9 => absurd h9 (by omega), fun _ => rfl⟩⟩) dX9_rights_23
      · have c3i : ¬ (Int32.toInt b < (0 : Int)) := fun h9 => c3 ((i3_lt _ _).mpr h9)
        refine lv_iload_n hx hb dX9_rights_14 rfl (lv_at hl 2 rfl) ?_
        refine lv_aload_n hx hb dX9_rights_15 rfl (lv_at hl 0 rfl) ?_
        refine pg_gi (ci := 9) (C := RX9) (T := TX9) (N := 63) hx hb hts wi9 hown hK hW hk (by decide) rfl 1 (by decide) (hts (.fieldLink RX9 141 "IceHallModel" "taped" "I") (by decide +kernel)) (fun _ h9 => h9) rfl dX9_rights_16 ?_
        have g4 : (0 : Int) ≤ (sI S h 1).toInt ∧ (sI S h 1).toInt ≤ 80 := hG.i hk (by decide) 1 (by decide)
        refine lv_icmp_le (tgt := 24) hx hb dX9_rights_19 (by decide) (fun c5 => ?_) (fun c5 => ?_)
        · have c5i : Int32.toInt b ≤ Int32.toInt (sI S h 1) := (i3_le _ _).mp c5
          refine lv_aload_n hx hb dX9_rights_24 rfl (lv_at hl 0 rfl) ?_
          refine lv_iconst (v := 0) hx hb dX9_rights_25 (by decide) ?_
          refine pg_pi (ci := 9) (C := RX9) (T := TX9) (N := 63) hx hb hts wi9 tyX9 tyX9_ok nmX9 hown hK hW hS hk (by decide) rfl 2 (by decide) (hts (.fieldLink RX9 148 "IceHallModel" "place" "I") (by decide +kernel)) (fun _ h9 => h9) rfl rfl rfl dX9_rights_26 (fun H locs hW hS => ?_)
          obtain ⟨S6, eS6⟩ : ∃ T : St, T = stI S h 2 0 := ⟨_, rfl⟩
          rw [← eS6] at hW
          have hG : G S6 := by rw [eS6]; exact hG.I hk (ok_in 0 100 (by decide) (by decide))
          have w7 : sI S6 h 4 = sI S h 4 := by rw [eS6]; exact (iI_k (by decide)).trans rfl
          have hF : Fr [] [901, 902, 903, 904, 911, 912, 913, 914, 915, 916, 917, 1100] S S6 := by rw [eS6]; exact hF.I hk (by decide)
          have w8 : sI S6 h 2 = 0 := by rw [eS6]; exact iI_s
          clear eS6
          refine lv_aload_n hx hb dX9_rights_29 rfl (lv_at hl 0 rfl) ?_
          refine lv_iload_n hx hb dX9_rights_30 rfl (lv_at hl 2 rfl) ?_
          refine pg_pi (ci := 9) (C := RX9) (T := TX9) (N := 63) hx hb hts wi9 tyX9 tyX9_ok nmX9 hown hK hW hS (hF.k hk (by decide)) (by decide) rfl 3 (by decide) (hts (.fieldLink RX9 151 "IceHallModel" "size" "I") (by decide +kernel)) (fun _ h9 => h9) rfl rfl rfl dX9_rights_31 (fun H locs hW hS => ?_)
          have kq9 : sK S6 h = 9 := (hF.k hk (by decide))
          obtain ⟨S10, eS10⟩ : ∃ T : St, T = stI S6 h 3 b := ⟨_, rfl⟩
          rw [← eS10] at hW
          have hG : G S10 := by rw [eS10]; exact hG.I kq9 (ok_in 0 80 (by decide) (⟨by omega, by omega⟩))
          have w11 : sI S10 h 4 = sI S h 4 := by rw [eS10]; exact (iI_k (by decide)).trans w7
          have w12 : sI S10 h 2 = 0 := by rw [eS10]; exact (iI_k (by decide)).trans w8
          have hF : Fr [] [901, 902, 903, 904, 911, 912, 913, 914, 915, 916, 917, 1100] S S10 := by rw [eS10]; exact hF.I kq9 (by decide)
          have w13 : sI S10 h 3 = b := by rw [eS10]; exact iI_s
          clear eS10
          refine lv_aload_n hx hb dX9_rights_34 rfl (lv_at hl 0 rfl) ?_
          refine lv_iconst (v := 0) hx hb dX9_rights_35 (by decide) ?_
          refine pg_pi (ci := 9) (C := RX9) (T := TX9) (N := 63) hx hb hts wi9 tyX9 tyX9_ok nmX9 hown hK hW hS (hF.k hk (by decide)) (by decide) rfl 4 (by decide) (hts (.fieldLink RX9 158 "IceHallModel" "fault" "I") (by decide +kernel)) (fun _ h9 => h9) rfl rfl rfl dX9_rights_36 (fun H locs hW hS => ?_)
          have kq14 : sK S10 h = 9 := (hF.k hk (by decide))
          obtain ⟨S15, eS15⟩ : ∃ T : St, T = stI S10 h 4 0 := ⟨_, rfl⟩
          rw [← eS15] at hW
          have hG : G S15 := by rw [eS15]; exact hG.I kq14 (ok_fr (by decide))
          have w16 : sI S15 h 2 = 0 := by rw [eS15]; exact (iI_k (by decide)).trans w12
          have w17 : sI S15 h 3 = b := by rw [eS15]; exact (iI_k (by decide)).trans w13
          have hF : Fr [] [901, 902, 903, 904, 911, 912, 913, 914, 915, 916, 917, 1100] S S15 := by rw [eS15]; exact hF.I kq14 (by decide)
          have w18 : sI S15 h 4 = 0 := by rw [eS15]; exact iI_s
          clear eS15
          refine lv_aload_n hx hb dX9_rights_39 rfl (lv_at hl 0 rfl) ?_
          refine lv_iconst (v := 0) hx hb dX9_rights_40 (by decide) ?_
          refine pg_pi (ci := 9) (C := RX9) (T := TX9) (N := 63) hx hb hts wi9 tyX9 tyX9_ok nmX9 hown hK hW hS (hF.k hk (by decide)) (by decide) rfl 11 (by decide) (hts (.fieldLink RX9 175 "IceHallModel" "saidClocks" "I") (by decide +kernel)) (fun _ h9 => h9) rfl rfl rfl dX9_rights_41 (fun H locs hW hS => ?_)
          have kq19 : sK S15 h = 9 := (hF.k hk (by decide))
          obtain ⟨S20, eS20⟩ : ∃ T : St, T = stI S15 h 11 0 := ⟨_, rfl⟩
          rw [← eS20] at hW
          have hG : G S20 := by rw [eS20]; exact hG.I kq19 (ok_fr (by decide))
          have w21 : sI S20 h 2 = 0 := by rw [eS20]; exact (iI_k (by decide)).trans w16
          have w22 : sI S20 h 3 = b := by rw [eS20]; exact (iI_k (by decide)).trans w17
          have w23 : sI S20 h 4 = 0 := by rw [eS20]; exact (iI_k (by decide)).trans w18
          have hF : Fr [] [901, 902, 903, 904, 911, 912, 913, 914, 915, 916, 917, 1100] S S20 := by rw [eS20]; exact hF.I kq19 (by decide)
          clear eS20
          refine lv_aload_n hx hb dX9_rights_44 rfl (lv_at hl 0 rfl) ?_
          refine lv_bipush (v := 127) hx hb dX9_rights_45 (by decide) ?_
          refine pg_pi (ci := 9) (C := RX9) (T := TX9) (N := 63) hx hb hts wi9 tyX9 tyX9_ok nmX9 hown hK hW hS (hF.k hk (by decide)) (by decide) rfl 12 (by decide) (hts (.fieldLink RX9 181 "IceHallModel" "saidDays" "I") (by decide +kernel)) (fun _ h9 => h9) rfl rfl rfl dX9_rights_47 (fun H locs hW hS => ?_)
          have kq24 : sK S20 h = 9 := (hF.k hk (by decide))
          obtain ⟨S25, eS25⟩ : ∃ T : St, T = stI S20 h 12 127 := ⟨_, rfl⟩
          rw [← eS25] at hW
          have hG : G S25 := by rw [eS25]; exact hG.I kq24 (ok_fr (by decide))
          have w26 : sI S25 h 2 = 0 := by rw [eS25]; exact (iI_k (by decide)).trans w21
          have w27 : sI S25 h 3 = b := by rw [eS25]; exact (iI_k (by decide)).trans w22
          have w28 : sI S25 h 4 = 0 := by rw [eS25]; exact (iI_k (by decide)).trans w23
          have hF : Fr [] [901, 902, 903, 904, 911, 912, 913, 914, 915, 916, 917, 1100] S S25 := by rw [eS25]; exact hF.I kq24 (by decide)
          clear eS25
          refine lv_aload_n hx hb dX9_rights_50 rfl (lv_at hl 0 rfl) ?_
          refine lv_bipush (v := 15) hx hb dX9_rights_51 (by decide) ?_
          refine pg_pi (ci := 9) (C := RX9) (T := TX9) (N := 63) hx hb hts wi9 tyX9 tyX9_ok nmX9 hown hK hW hS (hF.k hk (by decide)) (by decide) rfl 13 (by decide) (hts (.fieldLink RX9 184 "IceHallModel" "saidKinds" "I") (by decide +kernel)) (fun _ h9 => h9) rfl rfl rfl dX9_rights_53 (fun H locs hW hS => ?_)
          have kq29 : sK S25 h = 9 := (hF.k hk (by decide))
          obtain ⟨S30, eS30⟩ : ∃ T : St, T = stI S25 h 13 15 := ⟨_, rfl⟩
          rw [← eS30] at hW
          have hG : G S30 := by rw [eS30]; exact hG.I kq29 (ok_fr (by decide))
          have w31 : sI S30 h 2 = 0 := by rw [eS30]; exact (iI_k (by decide)).trans w26
          have w32 : sI S30 h 3 = b := by rw [eS30]; exact (iI_k (by decide)).trans w27
          have w33 : sI S30 h 4 = 0 := by rw [eS30]; exact (iI_k (by decide)).trans w28
          have hF : Fr [] [901, 902, 903, 904, 911, 912, 913, 914, 915, 916, 917, 1100] S S30 := by rw [eS30]; exact hF.I kq29 (by decide)
          clear eS30
          refine lv_aload_n hx hb dX9_rights_56 rfl (lv_at hl 0 rfl) ?_
          refine lv_sipush (v := 168) hx hb dX9_rights_57 (by decide) ?_
          refine pg_pi (ci := 9) (C := RX9) (T := TX9) (N := 63) hx hb hts wi9 tyX9 tyX9_ok nmX9 hown hK hW hS (hF.k hk (by decide)) (by decide) rfl 14 (by decide) (hts (.fieldLink RX9 187 "IceHallModel" "saidLimit" "I") (by decide +kernel)) (fun _ h9 => h9) rfl rfl rfl dX9_rights_60 (fun H locs hW hS => ?_)
          have kq34 : sK S30 h = 9 := (hF.k hk (by decide))
          obtain ⟨S35, eS35⟩ : ∃ T : St, T = stI S30 h 14 168 := ⟨_, rfl⟩
          rw [← eS35] at hW
          have hG : G S35 := by rw [eS35]; exact hG.I kq34 (ok_fr (by decide))
          have w36 : sI S35 h 2 = 0 := by rw [eS35]; exact (iI_k (by decide)).trans w31
          have w37 : sI S35 h 3 = b := by rw [eS35]; exact (iI_k (by decide)).trans w32
          have w38 : sI S35 h 4 = 0 := by rw [eS35]; exact (iI_k (by decide)).trans w33
          have hF : Fr [] [901, 902, 903, 904, 911, 912, 913, 914, 915, 916, 917, 1100] S S35 := by rw [eS35]; exact hF.I kq34 (by decide)
          clear eS35
          refine lv_aload_n hx hb dX9_rights_63 rfl (lv_at hl 0 rfl) ?_
          refine lv_bipush (v := 100) hx hb dX9_rights_64 (by decide) ?_
          refine pg_pi (ci := 9) (C := RX9) (T := TX9) (N := 63) hx hb hts wi9 tyX9 tyX9_ok nmX9 hown hK hW hS (hF.k hk (by decide)) (by decide) rfl 15 (by decide) (hts (.fieldLink RX9 190 "IceHallModel" "saidFee" "I") (by decide +kernel)) (fun _ h9 => h9) rfl rfl rfl dX9_rights_66 (fun H locs hW hS => ?_)
          have kq39 : sK S35 h = 9 := (hF.k hk (by decide))
          obtain ⟨S40, eS40⟩ : ∃ T : St, T = stI S35 h 15 100 := ⟨_, rfl⟩
          rw [← eS40] at hW
          have hG : G S40 := by rw [eS40]; exact hG.I kq39 (ok_fr (by decide))
          have w41 : sI S40 h 2 = 0 := by rw [eS40]; exact (iI_k (by decide)).trans w36
          have w42 : sI S40 h 3 = b := by rw [eS40]; exact (iI_k (by decide)).trans w37
          have w43 : sI S40 h 4 = 0 := by rw [eS40]; exact (iI_k (by decide)).trans w38
          have hF : Fr [] [901, 902, 903, 904, 911, 912, 913, 914, 915, 916, 917, 1100] S S40 := by rw [eS40]; exact hF.I kq39 (by decide)
          clear eS40
          refine lv_aload_n hx hb dX9_rights_69 rfl (lv_at hl 0 rfl) ?_
          refine lv_bipush (v := 50) hx hb dX9_rights_70 (by decide) ?_
          refine pg_pi (ci := 9) (C := RX9) (T := TX9) (N := 63) hx hb hts wi9 tyX9 tyX9_ok nmX9 hown hK hW hS (hF.k hk (by decide)) (by decide) rfl 16 (by decide) (hts (.fieldLink RX9 193 "IceHallModel" "saidHundredths" "I") (by decide +kernel)) (fun _ h9 => h9) rfl rfl rfl dX9_rights_72 (fun H locs hW hS => ?_)
          have kq44 : sK S40 h = 9 := (hF.k hk (by decide))
          obtain ⟨S45, eS45⟩ : ∃ T : St, T = stI S40 h 16 50 := ⟨_, rfl⟩
          rw [← eS45] at hW
          have hG : G S45 := by rw [eS45]; exact hG.I kq44 (ok_fr (by decide))
          have w46 : sI S45 h 2 = 0 := by rw [eS45]; exact (iI_k (by decide)).trans w41
          have w47 : sI S45 h 3 = b := by rw [eS45]; exact (iI_k (by decide)).trans w42
          have w48 : sI S45 h 4 = 0 := by rw [eS45]; exact (iI_k (by decide)).trans w43
          have hF : Fr [] [901, 902, 903, 904, 911, 912, 913, 914, 915, 916, 917, 1100] S S45 := by rw [eS45]; exact hF.I kq44 (by decide)
          clear eS45
          refine lv_aload_n hx hb dX9_rights_75 rfl (lv_at hl 0 rfl) ?_
          have lk49 : (sI S45 h 4).toInt = (0 : Int) := by rw [show sI S45 h 4 = 0 from w48]; rfl
          refine pc_Vi (As := []) (rest := []) F (b_X9_readsText l D cy A S45 h bt f b.toInt hG (hF.k hk (by decide)) (hF.r hk (by decide) hr0) (hF.k hkb (by decide)) (hF.n hkb (by decide) hlb) (by rw [w47]) (fun j hj => (hF.iA hkb (by decide) (by decide) (by decide)).trans (hf j (by omega))) (by rw [w46, w47]; omega) (by rw [w48]; rfl)) (cwV 0 hts gX9_rights_X9_readsText rfl rfl rfl (by decide +kernel) ⟨Nat.le_of_ble_eq_true rfl, Nat.le_of_ble_eq_true rfl⟩) hK hZ hA hW hS (hF.k hk (by decide)) (by decide) rfl rfl hl.1 rfl (Nat.le_of_ble_eq_true rfl) dX9_rights_76 ⟨Nat.le_of_ble_eq_true rfl, Nat.le_of_ble_eq_true rfl⟩ (fun v50 T51 H locs p52 hW hS => ?_)
          obtain ⟨hG, hFc, p52⟩ := p52
          have w53 : sI T51 h 3 = b := (hFc.i (hF.k hk (by decide)) (by decide) (by decide)).trans w47
          have hF : Fr [] [901, 902, 903, 904, 911, 912, 913, 914, 915, 916, 917, 1100] S T51 := hF.tr (hFc.mono (by decide))
          have hTX : TX f b.toInt 0 (sI T51 h 4).toInt := p52.1.c (by rw [w46]; rfl) rfl
          refine lv_istore_n (lv' := [(3, .int v50), (0, .ref h), (1, .int a), (2, .int b)]) hx hb dX9_rights_79 rfl hl (by decide) rfl (fun ls hl => ?_)
          refine lv_aload_n hx hb dX9_rights_80 rfl (lv_at hl 1 rfl) ?_
          refine lv_iconst (v := 0) hx hb dX9_rights_81 (by decide) ?_
          refine pg_pi (ci := 9) (C := RX9) (T := TX9) (N := 63) hx hb hts wi9 tyX9 tyX9_ok nmX9 hown hK hW hS (hF.k hk (by decide)) (by decide) rfl 1 (by decide) (hts (.fieldLink RX9 141 "IceHallModel" "taped" "I") (by decide +kernel)) (fun _ h9 => h9) rfl rfl rfl dX9_rights_82 (fun H locs hW hS => ?_)
          have kq54 : sK T51 h = 9 := (hF.k hk (by decide))
          obtain ⟨S55, eS55⟩ : ∃ T : St, T = stI T51 h 1 0 := ⟨_, rfl⟩
          rw [← eS55] at hW
          have hG : G S55 := by rw [eS55]; exact hG.I kq54 (ok_in 0 80 (by decide) (by decide))
          have w56 : sI S55 h 3 = b := by rw [eS55]; exact (iI_k (by decide)).trans w53
          have w57 : sI S55 h 4 = sI T51 h 4 := by rw [eS55]; exact (iI_k (by decide)).trans rfl
          have hF : Fr [] [901, 902, 903, 904, 911, 912, 913, 914, 915, 916, 917, 1100] S S55 := by rw [eS55]; exact hF.I kq54 (by decide)
          have w58 : sI S55 h 1 = 0 := by rw [eS55]; exact iI_s
          clear eS55
          refine lv_iload_n hx hb dX9_rights_85 rfl (lv_at hl 0 rfl) ?_
          refine lv_if_ne (tgt := 94) hx hb dX9_rights_86 (by decide) (fun c59 => ?_) (fun c59 => ?_)
          · have c59i : ¬ (Int32.toInt v50 = (0 : Int)) := fun h9 => c59 ((i3_eq _ _).mpr h9)
            refine lv_aload_n hx hb dX9_rights_94 rfl (lv_at hl 1 rfl) ?_
            obtain ⟨b60, rb60, kb60, nb60⟩ := hG0.r hk List.not_mem_nil 5 (show rty 9 5 = some (11, 6) from rfl)
            refine pg_gr (b := b60) (ci := 9) (C := RX9) (T := TX9) (N := 63) hx hb hts wi9 hown hK hW (hF.k hk (by decide)) (by decide) rfl 5 (by decide) (hts (.fieldLink RX9 13 "IceHallModel" "clocks" "[I") (by decide +kernel)) (fun _ h9 => h9) rfl (hF.r hk (by decide) rb60) dX9_rights_95 ?_
            refine lv_iload_n hx hb dX9_rights_98 rfl (lv_at hl 2 rfl) ?_
            have join115 : ∀ (v115 : Int32) (H : Heap) (locs : List Loc), PW D cy A S55 H → va_S A s.heap H locs → W p l e ({ frames := 5, cells := 0, slots := 0, locals := 107 } : Room) s m args below meth c H locs 0 0 (MQ below (va_Qi (fun r S1 => G S1 ∧ Fr [] [901, 902, 903, 904, 911, 912, 913, 914, 915, 916, 917, 1100] S S1 ∧ ((((0 ≤ a.toInt ∧ a.toInt < 6 ∧ 0 ≤ b.toInt ∧ b.toInt ≤ (sI S h 1).toInt) → sI S1 h 1 = 0) ∧ (¬ (0 ≤ a.toInt ∧ a.toInt < 6 ∧ 0 ≤ b.toInt ∧ b.toInt ≤ (sI S h 1).toInt) → sI S1 h 1 = sI S h 1)) ∧ ((0 ≤ a.toInt ∧ a.toInt < 6 ∧ 0 ≤ b.toInt ∧ b.toInt ≤ (sI S h 1).toInt) → TX f b.toInt 0 r.toInt) ∧ (¬ (0 ≤ a.toInt ∧ a.toInt < 6 ∧ 0 ≤ b.toInt ∧ b.toInt ≤ (sI S h 1).toInt) → r = (-1)))) (PU D cy A) A) args s 0 0 A) (F0 m 115 ls [.int v115, .int a, .ref b60]) := by
              intro v115 H locs hW hS
              refine pg_iast hx hb hK hW hS (hF.k kb60 (by decide)) (by decide) (by rw [show sL S55 b60 = 6 from (hF.n kb60 (by decide) nb60)]; exact r_in (by omega)) dX9_rights_115 (fun H locs hW hS => ?_)
              have kq61 : sK S55 b60 = 11 := (hF.k kb60 (by decide))
              obtain ⟨S62, eS62⟩ : ∃ T : St, T = stI S55 b60 (Int32.toNatClampNeg a) v115 := ⟨_, rfl⟩
              rw [← eS62] at hW
              have hG : G S62 := by rw [eS62]; exact hG.I kq61 (ok_frA (by decide) (by decide))
              have w63 : sI S62 h 3 = b := by rw [eS62]; exact (iI_a (fk_ne (hF.k hk (by decide)) kq61 (by decide))).trans w56
              have w64 : sI S62 h 4 = sI T51 h 4 := by rw [eS62]; exact (iI_a (fk_ne (hF.k hk (by decide)) kq61 (by decide))).trans w57
              have w65 : sI S62 h 1 = 0 := by rw [eS62]; exact (iI_a (fk_ne (hF.k hk (by decide)) kq61 (by decide))).trans w58
              have hF : Fr [] [901, 902, 903, 904, 911, 912, 913, 914, 915, 916, 917, 1100] S S62 := by rw [eS62]; exact hF.IA kq61 (by decide) (by decide)
              clear eS62
              refine lv_aload_n hx hb dX9_rights_116 rfl (lv_at hl 1 rfl) ?_
              obtain ⟨b66, rb66, kb66, nb66⟩ := hG0.r hk List.not_mem_nil 6 (show rty 9 6 = some (11, 6) from rfl)
              refine pg_gr (b := b66) (ci := 9) (C := RX9) (T := TX9) (N := 63) hx hb hts wi9 hown hK hW (hF.k hk (by decide)) (by decide) rfl 6 (by decide) (hts (.fieldLink RX9 17 "IceHallModel" "daysOf" "[I") (by decide +kernel)) (fun _ h9 => h9) rfl (hF.r hk (by decide) rb66) dX9_rights_117 ?_
              refine lv_iload_n hx hb dX9_rights_120 rfl (lv_at hl 2 rfl) ?_
              refine lv_aload_n hx hb dX9_rights_121 rfl (lv_at hl 1 rfl) ?_
              refine pg_gi (ci := 9) (C := RX9) (T := TX9) (N := 63) hx hb hts wi9 hown hK hW (hF.k hk (by decide)) (by decide) rfl 12 (by decide) (hts (.fieldLink RX9 181 "IceHallModel" "saidDays" "I") (by decide +kernel)) (fun _ h9 => h9) rfl dX9_rights_122 ?_
              refine pg_iast hx hb hK hW hS (hF.k kb66 (by decide)) (by decide) (by rw [show sL S62 b66 = 6 from (hF.n kb66 (by decide) nb66)]; exact r_in (by omega)) dX9_rights_125 (fun H locs hW hS => ?_)
              have kq67 : sK S62 b66 = 11 := (hF.k kb66 (by decide))
              obtain ⟨S68, eS68⟩ : ∃ T : St, T = stI S62 b66 (Int32.toNatClampNeg a) (sI S62 h 12) := ⟨_, rfl⟩
              rw [← eS68] at hW
              have hG : G S68 := by rw [eS68]; exact hG.I kq67 (ok_frA (by decide) (by decide))
              have w69 : sI S68 h 3 = b := by rw [eS68]; exact (iI_a (fk_ne (hF.k hk (by decide)) kq67 (by decide))).trans w63
              have w70 : sI S68 h 4 = sI T51 h 4 := by rw [eS68]; exact (iI_a (fk_ne (hF.k hk (by decide)) kq67 (by decide))).trans w64
              have w71 : sI S68 h 1 = 0 := by rw [eS68]; exact (iI_a (fk_ne (hF.k hk (by decide)) kq67 (by decide))).trans w65
              have hF : Fr [] [901, 902, 903, 904, 911, 912, 913, 914, 915, 916, 917, 1100] S S68 := by rw [eS68]; exact hF.IA kq67 (by decide) (by decide)
              clear eS68
              refine lv_aload_n hx hb dX9_rights_126 rfl (lv_at hl 1 rfl) ?_
              obtain ⟨b72, rb72, kb72, nb72⟩ := hG0.r hk List.not_mem_nil 7 (show rty 9 7 = some (11, 6) from rfl)
              refine pg_gr (b := b72) (ci := 9) (C := RX9) (T := TX9) (N := 63) hx hb hts wi9 hown hK hW (hF.k hk (by decide)) (by decide) rfl 7 (by decide) (hts (.fieldLink RX9 20 "IceHallModel" "kinds" "[I") (by decide +kernel)) (fun _ h9 => h9) rfl (hF.r hk (by decide) rb72) dX9_rights_127 ?_
              refine lv_iload_n hx hb dX9_rights_130 rfl (lv_at hl 2 rfl) ?_
              refine lv_aload_n hx hb dX9_rights_131 rfl (lv_at hl 1 rfl) ?_
              refine pg_gi (ci := 9) (C := RX9) (T := TX9) (N := 63) hx hb hts wi9 hown hK hW (hF.k hk (by decide)) (by decide) rfl 13 (by decide) (hts (.fieldLink RX9 184 "IceHallModel" "saidKinds" "I") (by decide +kernel)) (fun _ h9 => h9) rfl dX9_rights_132 ?_
              refine pg_iast hx hb hK hW hS (hF.k kb72 (by decide)) (by decide) (by rw [show sL S68 b72 = 6 from (hF.n kb72 (by decide) nb72)]; exact r_in (by omega)) dX9_rights_135 (fun H locs hW hS => ?_)
              have kq73 : sK S68 b72 = 11 := (hF.k kb72 (by decide))
              obtain ⟨S74, eS74⟩ : ∃ T : St, T = stI S68 b72 (Int32.toNatClampNeg a) (sI S68 h 13) := ⟨_, rfl⟩
              rw [← eS74] at hW
              have hG : G S74 := by rw [eS74]; exact hG.I kq73 (ok_frA (by decide) (by decide))
              have w75 : sI S74 h 3 = b := by rw [eS74]; exact (iI_a (fk_ne (hF.k hk (by decide)) kq73 (by decide))).trans w69
              have w76 : sI S74 h 4 = sI T51 h 4 := by rw [eS74]; exact (iI_a (fk_ne (hF.k hk (by decide)) kq73 (by decide))).trans w70
              have w77 : sI S74 h 1 = 0 := by rw [eS74]; exact (iI_a (fk_ne (hF.k hk (by decide)) kq73 (by decide))).trans w71
              have hF : Fr [] [901, 902, 903, 904, 911, 912, 913, 914, 915, 916, 917, 1100] S S74 := by rw [eS74]; exact hF.IA kq73 (by decide) (by decide)
              clear eS74
              refine lv_aload_n hx hb dX9_rights_136 rfl (lv_at hl 1 rfl) ?_
              obtain ⟨b78, rb78, kb78, nb78⟩ := hG0.r hk List.not_mem_nil 8 (show rty 9 8 = some (11, 6) from rfl)
              refine pg_gr (b := b78) (ci := 9) (C := RX9) (T := TX9) (N := 63) hx hb hts wi9 hown hK hW (hF.k hk (by decide)) (by decide) rfl 8 (by decide) (hts (.fieldLink RX9 23 "IceHallModel" "limit" "[I") (by decide +kernel)) (fun _ h9 => h9) rfl (hF.r hk (by decide) rb78) dX9_rights_137 ?_
              refine lv_iload_n hx hb dX9_rights_140 rfl (lv_at hl 2 rfl) ?_
              refine lv_aload_n hx hb dX9_rights_141 rfl (lv_at hl 1 rfl) ?_
              refine pg_gi (ci := 9) (C := RX9) (T := TX9) (N := 63) hx hb hts wi9 hown hK hW (hF.k hk (by decide)) (by decide) rfl 14 (by decide) (hts (.fieldLink RX9 187 "IceHallModel" "saidLimit" "I") (by decide +kernel)) (fun _ h9 => h9) rfl dX9_rights_142 ?_
              refine pg_iast hx hb hK hW hS (hF.k kb78 (by decide)) (by decide) (by rw [show sL S74 b78 = 6 from (hF.n kb78 (by decide) nb78)]; exact r_in (by omega)) dX9_rights_145 (fun H locs hW hS => ?_)
              have kq79 : sK S74 b78 = 11 := (hF.k kb78 (by decide))
              obtain ⟨S80, eS80⟩ : ∃ T : St, T = stI S74 b78 (Int32.toNatClampNeg a) (sI S74 h 14) := ⟨_, rfl⟩
              rw [← eS80] at hW
              have hG : G S80 := by rw [eS80]; exact hG.I kq79 (ok_frA (by decide) (by decide))
              have w81 : sI S80 h 3 = b := by rw [eS80]; exact (iI_a (fk_ne (hF.k hk (by decide)) kq79 (by decide))).trans w75
              have w82 : sI S80 h 4 = sI T51 h 4 := by rw [eS80]; exact (iI_a (fk_ne (hF.k hk (by decide)) kq79 (by decide))).trans w76
              have w83 : sI S80 h 1 = 0 := by rw [eS80]; exact (iI_a (fk_ne (hF.k hk (by decide)) kq79 (by decide))).trans w77
              have hF : Fr [] [901, 902, 903, 904, 911, 912, 913, 914, 915, 916, 917, 1100] S S80 := by rw [eS80]; exact hF.IA kq79 (by decide) (by decide)
              clear eS80
              refine lv_aload_n hx hb dX9_rights_146 rfl (lv_at hl 1 rfl) ?_
              obtain ⟨b84, rb84, kb84, nb84⟩ := hG0.r hk List.not_mem_nil 9 (show rty 9 9 = some (11, 6) from rfl)
              refine pg_gr (b := b84) (ci := 9) (C := RX9) (T := TX9) (N := 63) hx hb hts wi9 hown hK hW (hF.k hk (by decide)) (by decide) rfl 9 (by decide) (hts (.fieldLink RX9 26 "IceHallModel" "fee" "[I") (by decide +kernel)) (fun _ h9 => h9) rfl (hF.r hk (by decide) rb84) dX9_rights_147 ?_
              refine lv_iload_n hx hb dX9_rights_150 rfl (lv_at hl 2 rfl) ?_
              refine lv_aload_n hx hb dX9_rights_151 rfl (lv_at hl 1 rfl) ?_
              refine pg_gi (ci := 9) (C := RX9) (T := TX9) (N := 63) hx hb hts wi9 hown hK hW (hF.k hk (by decide)) (by decide) rfl 15 (by decide) (hts (.fieldLink RX9 190 "IceHallModel" "saidFee" "I") (by decide +kernel)) (fun _ h9 => h9) rfl dX9_rights_152 ?_
              refine pg_iast hx hb hK hW hS (hF.k kb84 (by decide)) (by decide) (by rw [show sL S80 b84 = 6 from (hF.n kb84 (by decide) nb84)]; exact r_in (by omega)) dX9_rights_155 (fun H locs hW hS => ?_)
              have kq85 : sK S80 b84 = 11 := (hF.k kb84 (by decide))
              obtain ⟨S86, eS86⟩ : ∃ T : St, T = stI S80 b84 (Int32.toNatClampNeg a) (sI S80 h 15) := ⟨_, rfl⟩
              rw [← eS86] at hW
              have hG : G S86 := by rw [eS86]; exact hG.I kq85 (ok_frA (by decide) (by decide))
              have w87 : sI S86 h 3 = b := by rw [eS86]; exact (iI_a (fk_ne (hF.k hk (by decide)) kq85 (by decide))).trans w81
              have w88 : sI S86 h 4 = sI T51 h 4 := by rw [eS86]; exact (iI_a (fk_ne (hF.k hk (by decide)) kq85 (by decide))).trans w82
              have w89 : sI S86 h 1 = 0 := by rw [eS86]; exact (iI_a (fk_ne (hF.k hk (by decide)) kq85 (by decide))).trans w83
              have hF : Fr [] [901, 902, 903, 904, 911, 912, 913, 914, 915, 916, 917, 1100] S S86 := by rw [eS86]; exact hF.IA kq85 (by decide) (by decide)
              clear eS86
              refine lv_aload_n hx hb dX9_rights_156 rfl (lv_at hl 1 rfl) ?_
              obtain ⟨b90, rb90, kb90, nb90⟩ := hG0.r hk List.not_mem_nil 10 (show rty 9 10 = some (11, 6) from rfl)
              refine pg_gr (b := b90) (ci := 9) (C := RX9) (T := TX9) (N := 63) hx hb hts wi9 hown hK hW (hF.k hk (by decide)) (by decide) rfl 10 (by decide) (hts (.fieldLink RX9 29 "IceHallModel" "hundredths" "[I") (by decide +kernel)) (fun _ h9 => h9) rfl (hF.r hk (by decide) rb90) dX9_rights_157 ?_
              refine lv_iload_n hx hb dX9_rights_160 rfl (lv_at hl 2 rfl) ?_
              refine lv_aload_n hx hb dX9_rights_161 rfl (lv_at hl 1 rfl) ?_
              refine pg_gi (ci := 9) (C := RX9) (T := TX9) (N := 63) hx hb hts wi9 hown hK hW (hF.k hk (by decide)) (by decide) rfl 16 (by decide) (hts (.fieldLink RX9 193 "IceHallModel" "saidHundredths" "I") (by decide +kernel)) (fun _ h9 => h9) rfl dX9_rights_162 ?_
              refine pg_iast hx hb hK hW hS (hF.k kb90 (by decide)) (by decide) (by rw [show sL S86 b90 = 6 from (hF.n kb90 (by decide) nb90)]; exact r_in (by omega)) dX9_rights_165 (fun H locs hW hS => ?_)
              have kq91 : sK S86 b90 = 11 := (hF.k kb90 (by decide))
              obtain ⟨S92, eS92⟩ : ∃ T : St, T = stI S86 b90 (Int32.toNatClampNeg a) (sI S86 h 16) := ⟨_, rfl⟩
              rw [← eS92] at hW
              have hG : G S92 := by rw [eS92]; exact hG.I kq91 (ok_frA (by decide) (by decide))
              have w93 : sI S92 h 3 = b := by rw [eS92]; exact (iI_a (fk_ne (hF.k hk (by decide)) kq91 (by decide))).trans w87
              have w94 : sI S92 h 4 = sI T51 h 4 := by rw [eS92]; exact (iI_a (fk_ne (hF.k hk (by decide)) kq91 (by decide))).trans w88
              have w95 : sI S92 h 1 = 0 := by rw [eS92]; exact (iI_a (fk_ne (hF.k hk (by decide)) kq91 (by decide))).trans w89
              have hF : Fr [] [901, 902, 903, 904, 911, 912, 913, 914, 915, 916, 917, 1100] S S92 := by rw [eS92]; exact hF.IA kq91 (by decide) (by decide)
              clear eS92
              refine lv_iconst (v := 0) hx hb dX9_rights_166 (by decide) ?_
              have lk96 : (sI S92 h 4).toInt = (sI T51 h 4).toInt := by rw [show sI S92 h 4 = sI T51 h 4 from w94]
              exact pc_iret (v := 0) (S := S92) hx hb hr hlk hK hZ hA hW hS (⟨hG, hF, ⟨⟨fun _ => w95, fun h9 => absurd h9 (fun h8 => h8 (by omega))⟩, fun _ => hTX.c rfl (by omega), fun h9 => absurd h9 (fun h8 => h8 (by omega))⟩⟩) dX9_rights_167
            refine lv_aload_n hx hb dX9_rights_99 rfl (lv_at hl 1 rfl) ?_
            refine pg_gi (ci := 9) (C := RX9) (T := TX9) (N := 63) hx hb hts wi9 hown hK hW (hF.k hk (by decide)) (by decide) rfl 11 (by decide) (hts (.fieldLink RX9 175 "IceHallModel" "saidClocks" "I") (by decide +kernel)) (fun _ h9 => h9) rfl dX9_rights_100 ?_
            refine lv_if_ne (tgt := 111) hx hb dX9_rights_103 (by decide) (fun c97 => ?_) (fun c97 => ?_)
            · have c97i : ¬ (Int32.toInt (sI S55 h 11) = (0 : Int)) := fun h9 => c97 ((i3_eq _ _).mpr h9)
              refine lv_aload_n hx hb dX9_rights_111 rfl (lv_at hl 1 rfl) ?_
              refine pg_gi (ci := 9) (C := RX9) (T := TX9) (N := 63) hx hb hts wi9 hown hK hW (hF.k hk (by decide)) (by decide) rfl 11 (by decide) (hts (.fieldLink RX9 175 "IceHallModel" "saidClocks" "I") (by decide +kernel)) (fun _ h9 => h9) rfl dX9_rights_112 ?_
              exact join115 (sI S55 h 11) _ _  hW hS
            · have c97i : Int32.toInt (sI S55 h 11) = (0 : Int) := (i3_eq _ _).mp c97
              refine lv_ldc (v := (16777215)) hx hb hown (hts (.constant RX9 140 (16777215)) (by decide +kernel)) dX9_rights_106 ?_
              refine lv_goto (tgt := 115) hx hb dX9_rights_108 (by decide) ?_
              exact join115 ((16777215)) _ _  hW hS
          · have c59i : Int32.toInt v50 = (0 : Int) := (i3_eq _ _).mp c59
            refine lv_aload_n hx hb dX9_rights_89 rfl (lv_at hl 1 rfl) ?_
            refine pg_gi (ci := 9) (C := RX9) (T := TX9) (N := 63) hx hb hts wi9 hown hK hW (hF.k hk (by decide)) (by decide) rfl 4 (by decide) (hts (.fieldLink RX9 158 "IceHallModel" "fault" "I") (by decide +kernel)) (fun _ h9 => h9) rfl dX9_rights_90 ?_
            rw [show sI S55 h 4 = sI T51 h 4 from w57]
            have lk98 : (sI S55 h 4).toInt = (sI T51 h 4).toInt := by rw [show sI S55 h 4 = sI T51 h 4 from w57]
            exact pc_iret (v := sI T51 h 4) (S := S55) hx hb hr hlk hK hZ hA hW hS (⟨hG, hF, ⟨⟨fun _ => w58, fun h9 => absurd h9 (fun h8 => h8 (by omega))⟩, fun _ => hTX, fun h9 => absurd h9 (fun h8 => h8 (by omega))⟩⟩) dX9_rights_93
        · have c5i : ¬ (Int32.toInt b ≤ Int32.toInt (sI S h 1)) := fun h9 => c5 ((i3_le _ _).mpr h9)
          refine lv_iconst (v := (-1)) hx hb dX9_rights_22 (by decide) ?_
          exact pc_iret (v := (-1)) (S := S) hx hb hr hlk hK hZ hA hW hS (⟨hG, hF, ⟨⟨fun h9 => absurd h9 (by omega), fun _ => rfl⟩, fun h9 => absurd h9 (by omega), fun _ => rfl⟩⟩) dX9_rights_23
