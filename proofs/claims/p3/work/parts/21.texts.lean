set_option maxHeartbeats 4000000 in
set_option maxRecDepth 100000 in
theorem b_X5_peek (l : Launch) (D : va_G) (cy : Nat → ClassId) (A : Nat → Prop) (S : St) (h t bt : Nat) (f : Nat → Int32) (n : Int) (hG0 : G S) (hk : sK S h = 5) (hr0 : sR S h 0 = some t) (hkt : sK S t = 7) (hr1 : sR S t 0 = some bt) (hkb : sK S bt = 10) (hlb : sL S bt = 80) (hn : (sI S h 1).toInt = n) (hn8 : n ≤ 80) (hf : ∀ j : Nat, (j : Int) < n → sI S bt j = f j) (hp0 : 0 ≤ (sI S h 2).toInt) (hp1 : (sI S h 2).toInt ≤ 100) : MI l yX5_peek wsX5_peek ({ frames := 0, cells := 0, slots := 0, locals := 0 } : Room) 0 0 D cy A [.ref h] S (fun r S1 => S1 = S ∧ ((((sI S h 2).toInt < n ∧ r.toInt = ch f ((sI S h 2).toInt) ∧ 0 ≤ r.toInt) ∨ (¬ (sI S h 2).toInt < n ∧ r.toInt = -1)) ∧ -1 ≤ r.toInt ∧ r.toInt ≤ 255)) := by
  refine mt_start (cc := cX5_peek) (maxL := 1) (ret := (some .int)) (by decide) rfl (Nat.le_of_ble_eq_true rfl) ?_
  intro p e s m args below meth c hx hb hr hlk hml hown hnm hts hK hZ hA hW hS ls hl
  have hl : lv_has ls 1 [(0, .ref h)] := hl
  have hown : s.vm.findClass RX5 = some m.cls := hown
  have F : CallFix p m c cX5_peek 1 s args wsX5_peek RX5 := ⟨hx, hb, hml, hown, hts⟩
  have wi5 : ∀ w ∈ u_ws RX5 TX5 4, w ∈ wsX5_peek := by decide +kernel
  have wi7 : ∀ w ∈ u_ws RX7 TX7 2, w ∈ wsX5_peek := by decide +kernel
  have hG := hG0
  have h0_ : (0 : Int32).toInt = 0 := rfl
  have h1_ : (1 : Int32).toInt = 1 := rfl
  have h2_ : (2 : Int32).toInt = 2 := rfl
  refine lv_aload_n hx hb dX5_peek_0 rfl (lv_at hl 0 rfl) ?_
  refine pg_gi (ci := 5) (C := RX5) (T := TX5) (N := 4) hx hb hts wi5 hown hK hW hk (by decide) rfl 2 (by decide) (hts (.fieldLink RX5 19 "IceHall$RightsReader" "place" "I") (by decide +kernel)) (fun _ h9 => h9) rfl dX5_peek_1 ?_
  refine lv_if_lt (tgt := 46) hx hb dX5_peek_4 (by decide) (fun c1 => ?_) (fun c1 => ?_)
  · have c1i : Int32.toInt (sI S h 2) < (0 : Int) := (i3_lt _ _).mp c1
    refine lv_iconst (v := (-1)) hx hb dX5_peek_46 (by decide) ?_
    exact pc_iret (v := (-1)) (S := S) hx hb hr hlk hK hZ hA hW hS (⟨rfl, ⟨Or.inr ⟨by omega, rfl⟩, by decide, by decide⟩⟩) dX5_peek_47
  · have c1i : ¬ (Int32.toInt (sI S h 2) < (0 : Int)) := fun h9 => c1 ((i3_lt _ _).mpr h9)
    refine lv_aload_n hx hb dX5_peek_7 rfl (lv_at hl 0 rfl) ?_
    refine pg_gi (ci := 5) (C := RX5) (T := TX5) (N := 4) hx hb hts wi5 hown hK hW hk (by decide) rfl 2 (by decide) (hts (.fieldLink RX5 19 "IceHall$RightsReader" "place" "I") (by decide +kernel)) (fun _ h9 => h9) rfl dX5_peek_8 ?_
    refine lv_aload_n hx hb dX5_peek_11 rfl (lv_at hl 0 rfl) ?_
    refine pg_gi (ci := 5) (C := RX5) (T := TX5) (N := 4) hx hb hts wi5 hown hK hW hk (by decide) rfl 1 (by decide) (hts (.fieldLink RX5 15 "IceHall$RightsReader" "end" "I") (by decide +kernel)) (fun _ h9 => h9) rfl dX5_peek_12 ?_
    refine lv_icmp_ge (tgt := 46) hx hb dX5_peek_15 (by decide) (fun c2 => ?_) (fun c2 => ?_)
    · have c2i : Int32.toInt (sI S h 1) ≤ Int32.toInt (sI S h 2) := (i3_le _ _).mp c2
      refine lv_iconst (v := (-1)) hx hb dX5_peek_46 (by decide) ?_
      exact pc_iret (v := (-1)) (S := S) hx hb hr hlk hK hZ hA hW hS (⟨rfl, ⟨Or.inr ⟨by omega, rfl⟩, by decide, by decide⟩⟩) dX5_peek_47
    · have c2i : ¬ (Int32.toInt (sI S h 1) ≤ Int32.toInt (sI S h 2)) := fun h9 => c2 ((i3_le _ _).mpr h9)
      refine lv_aload_n hx hb dX5_peek_18 rfl (lv_at hl 0 rfl) ?_
      refine pg_gi (ci := 5) (C := RX5) (T := TX5) (N := 4) hx hb hts wi5 hown hK hW hk (by decide) rfl 2 (by decide) (hts (.fieldLink RX5 19 "IceHall$RightsReader" "place" "I") (by decide +kernel)) (fun _ h9 => h9) rfl dX5_peek_19 ?_
      refine lv_bipush (v := 80) hx hb dX5_peek_22 (by decide) ?_
      refine lv_icmp_ge (tgt := 46) hx hb dX5_peek_24 (by decide) (fun c3 => ?_) (fun c3 => ?_)
      · have c3i : (80 : Int) ≤ Int32.toInt (sI S h 2) := (i3_le _ _).mp c3
        refine lv_iconst (v := (-1)) hx hb dX5_peek_46 (by decide) ?_
        exact pc_iret (v := (-1)) (S := S) hx hb hr hlk hK hZ hA hW hS (⟨rfl, ⟨Or.inr ⟨by omega, rfl⟩, by decide, by decide⟩⟩) dX5_peek_47
      · have c3i : ¬ ((80 : Int) ≤ Int32.toInt (sI S h 2)) := fun h9 => c3 ((i3_le _ _).mpr h9)
        refine lv_aload_n hx hb dX5_peek_27 rfl (lv_at hl 0 rfl) ?_
        refine pg_gr (b := t) (ci := 5) (C := RX5) (T := TX5) (N := 4) hx hb hts wi5 hown hK hW hk (by decide) rfl 0 (by decide) (hts (.fieldLink RX5 9 "IceHall$RightsReader" "tape" "LIceHall$Tape;") (by decide +kernel)) (fun _ h9 => h9) rfl hr0 dX5_peek_28 ?_
        refine pg_gr (b := bt) (ci := 7) (C := RX7) (T := TX7) (N := 2) hx hb hts wi7 hown hK hW hkt (by decide) rfl 0 (by decide) (hts (.fieldLink RX5 74 "IceHall$Tape" "bytes" "[B") (by decide +kernel)) (fun _ h9 => h9) rfl hr1 dX5_peek_31 ?_
        refine lv_aload_n hx hb dX5_peek_34 rfl (lv_at hl 0 rfl) ?_
        refine pg_gi (ci := 5) (C := RX5) (T := TX5) (N := 4) hx hb hts wi5 hown hK hW hk (by decide) rfl 2 (by decide) (hts (.fieldLink RX5 19 "IceHall$RightsReader" "place" "I") (by decide +kernel)) (fun _ h9 => h9) rfl dX5_peek_35 ?_
        refine pg_bald hx hb hK hW hkb (by rw [show sL S bt = 80 from hlb]; exact r_in (by omega)) dX5_peek_38 ?_
        refine lv_sipush (v := 255) hx hb dX5_peek_39 (by decide) ?_
        refine lv_iand hx hb dX5_peek_42 ?_
        refine lv_goto (tgt := 47) hx hb dX5_peek_43 (by decide) ?_
        exact pc_iret (v := (sI S bt (Int32.toNatClampNeg (sI S h 2))) &&& 255) (S := S) hx hb hr hlk hK hZ hA hW hS (⟨rfl, ⟨Or.inl ⟨by omega, pk_E hf hp0 (by omega), (a255 _).1⟩, by have h9 := a255 (sI S bt (Int32.toNatClampNeg (sI S h 2))); omega, by have h9 := a255 (sI S bt (Int32.toNatClampNeg (sI S h 2))); omega⟩⟩) dX5_peek_47
set_option maxHeartbeats 4000000 in
set_option maxRecDepth 100000 in
theorem b_X5_fail (l : Launch) (D : va_G) (cy : Nat → ClassId) (A : Nat → Prop) (S : St) (h : Nat) (a b : Int32) (hG0 : G S) (hk : sK S h = 5) (ha1 : 1 ≤ a.toInt) (ha2 : a.toInt ≤ 2) (hb0 : 0 ≤ b.toInt) (hb1 : b.toInt ≤ 100) : MV l yX5_fail wsX5_fail ({ frames := 0, cells := 0, slots := 0, locals := 0 } : Room) 0 0 D cy A [.ref h, .int a, .int b] S (fun S1 => G S1 ∧ Fr [] [503] S S1 ∧ ((sI S1 h 3).toInt = 100 * a.toInt + b.toInt)) := by
  refine mt_start (cc := cX5_fail) (maxL := 3) (ret := none) (by decide) rfl (Nat.le_of_ble_eq_true rfl) ?_
  intro p e s m args below meth c hx hb hr hlk hml hown hnm hts hK hZ hA hW hS ls hl
  have hl : lv_has ls 3 [(0, .ref h), (1, .int a), (2, .int b)] := hl
  have hown : s.vm.findClass RX5 = some m.cls := hown
  have F : CallFix p m c cX5_fail 3 s args wsX5_fail RX5 := ⟨hx, hb, hml, hown, hts⟩
  have wi5 : ∀ w ∈ u_ws RX5 TX5 4, w ∈ wsX5_fail := by decide +kernel
  have hG := hG0
  have hF : Fr [] [503] S S := Fr.rf _ _ _
  refine lv_aload_n hx hb dX5_fail_0 rfl (lv_at hl 0 rfl) ?_
  refine lv_bipush (v := 100) hx hb dX5_fail_1 (by decide) ?_
  refine lv_iload_n hx hb dX5_fail_3 rfl (lv_at hl 1 rfl) ?_
  refine lv_imul hx hb dX5_fail_4 ?_
  have l1 : (100 * a).toInt = (100 : Int) * Int32.toInt a := i3_mul rfl rfl (by omega) (by omega)
  refine lv_iload_n hx hb dX5_fail_5 rfl (lv_at hl 2 rfl) ?_
  refine lv_iadd hx hb dX5_fail_6 ?_
  have l2 : ((100 * a) + b).toInt = Int32.toInt (100 * a) + Int32.toInt b := i3_add rfl rfl (by omega) (by omega)
  refine pg_pi (ci := 5) (C := RX5) (T := TX5) (N := 4) hx hb hts wi5 tyX5 tyX5_ok nmX5 hown hK hW hS hk (by decide) rfl 3 (by decide) (hts (.fieldLink RX5 22 "IceHall$RightsReader" "fault" "I") (by decide +kernel)) (fun _ h9 => h9) rfl rfl rfl dX5_fail_7 (fun H locs hW hS => ?_)
  obtain ⟨S3, eS3⟩ : ∃ T : St, T = stI S h 3 ((100 * a) + b) := ⟨_, rfl⟩
  rw [← eS3] at hW
  have hG : G S3 := by rw [eS3]; exact hG.I hk (ok_fr (by decide))
  have hF : Fr [] [503] S S3 := by rw [eS3]; exact hF.I hk (by decide)
  have w4 : sI S3 h 3 = (100 * a) + b := by rw [eS3]; exact iI_s
  clear eS3
  have lk5 : (sI S3 h 3).toInt = ((100 * a) + b).toInt := by rw [show sI S3 h 3 = (100 * a) + b from w4]
  exact pc_vret (S := S3) hx hb hr hlk hK hZ hA hW hS (⟨hG, hF, by omega⟩) dX5_fail_10
set_option maxHeartbeats 4000000 in
set_option maxRecDepth 100000 in
theorem b_X5_isDigit (l : Launch) (D : va_G) (cy : Nat → ClassId) (A : Nat → Prop) (S : St) (h t bt : Nat) (f : Nat → Int32) (n : Int) (hG0 : G S) (hk : sK S h = 5) (hr0 : sR S h 0 = some t) (hkt : sK S t = 7) (hr1 : sR S t 0 = some bt) (hkb : sK S bt = 10) (hlb : sL S bt = 80) (hn : (sI S h 1).toInt = n) (hn8 : n ≤ 80) (hf : ∀ j : Nat, (j : Int) < n → sI S bt j = f j) (hp0 : 0 ≤ (sI S h 2).toInt) (hp1 : (sI S h 2).toInt ≤ 100) : MI l yX5_isDigit wsX5_isDigit ({ frames := 1, cells := 0, slots := 0, locals := 20 } : Room) 0 0 D cy A [.ref h] S (fun r S1 => S1 = S ∧ ((r.toInt = 1 ∧ ((sI S h 2).toInt < n ∧ 48 ≤ ch f ((sI S h 2).toInt) ∧ ch f ((sI S h 2).toInt) ≤ 57)) ∨ (r.toInt = 0 ∧ ¬ ((sI S h 2).toInt < n ∧ 48 ≤ ch f ((sI S h 2).toInt) ∧ ch f ((sI S h 2).toInt) ≤ 57)))) := by
  refine mt_start (cc := cX5_isDigit) (maxL := 2) (ret := (some .boolean)) (by decide) rfl (Nat.le_of_ble_eq_true rfl) ?_
  intro p e s m args below meth c hx hb hr hlk hml hown hnm hts hK hZ hA hW hS ls hl
  have hl : lv_has ls 2 [(0, .ref h)] := hl
  have hown : s.vm.findClass RX5 = some m.cls := hown
  have F : CallFix p m c cX5_isDigit 2 s args wsX5_isDigit RX5 := ⟨hx, hb, hml, hown, hts⟩
  have hG := hG0
  have h0_ : (0 : Int32).toInt = 0 := rfl
  have h1_ : (1 : Int32).toInt = 1 := rfl
  have h2_ : (2 : Int32).toInt = 2 := rfl
  refine lv_aload_n hx hb dX5_isDigit_0 rfl (lv_at hl 0 rfl) ?_
  refine pc_Vi (As := []) (rest := []) F (b_X5_peek l D cy A S h t bt f n hG hk hr0 hkt hr1 hkb hlb (by omega) (by omega) hf (by omega) (by omega)) (cwV 0 hts gX5_isDigit_X5_peek rfl rfl rfl (by decide +kernel) ⟨Nat.le_of_ble_eq_true rfl, Nat.le_of_ble_eq_true rfl⟩) hK hZ hA hW hS hk (by decide) rfl rfl hl.1 rfl (Nat.le_of_ble_eq_true rfl) dX5_isDigit_1 ⟨Nat.le_of_ble_eq_true rfl, Nat.le_of_ble_eq_true rfl⟩ (fun v1 T2 H locs p3 hW hS => ?_)
  obtain ⟨eT2, p3⟩ := p3
  rw [eT2] at hW
  clear eT2
  refine lv_istore_n (lv' := [(1, .int v1), (0, .ref h)]) hx hb dX5_isDigit_4 rfl hl (by decide) rfl (fun ls hl => ?_)
  refine lv_iload_n hx hb dX5_isDigit_5 rfl (lv_at hl 0 rfl) ?_
  refine lv_bipush (v := 48) hx hb dX5_isDigit_6 (by decide) ?_
  refine lv_icmp_lt (tgt := 21) hx hb dX5_isDigit_8 (by decide) (fun c4 => ?_) (fun c4 => ?_)
  · have c4i : Int32.toInt v1 < (48 : Int) := (i3_lt _ _).mp c4
    refine lv_iconst (v := 0) hx hb dX5_isDigit_21 (by decide) ?_
    exact pc_zret (v := 0) (S := S) hx hb hr hlk hK hZ hA hW hS (by decide) (⟨rfl, Or.inr ⟨rfl, by omega⟩⟩) dX5_isDigit_22
  · have c4i : ¬ (Int32.toInt v1 < (48 : Int)) := fun h9 => c4 ((i3_lt _ _).mpr h9)
    refine lv_iload_n hx hb dX5_isDigit_11 rfl (lv_at hl 0 rfl) ?_
    refine lv_bipush (v := 57) hx hb dX5_isDigit_12 (by decide) ?_
    refine lv_icmp_gt (tgt := 21) hx hb dX5_isDigit_14 (by decide) (fun c5 => ?_) (fun c5 => ?_)
    · have c5i : (57 : Int) < Int32.toInt v1 := (i3_lt _ _).mp c5
      refine lv_iconst (v := 0) hx hb dX5_isDigit_21 (by decide) ?_
      exact pc_zret (v := 0) (S := S) hx hb hr hlk hK hZ hA hW hS (by decide) (⟨rfl, Or.inr ⟨rfl, by omega⟩⟩) dX5_isDigit_22
    · have c5i : ¬ ((57 : Int) < Int32.toInt v1) := fun h9 => c5 ((i3_lt _ _).mpr h9)
      refine lv_iconst (v := 1) hx hb dX5_isDigit_17 (by decide) ?_
      refine lv_goto (tgt := 22) hx hb dX5_isDigit_18 (by decide) ?_
      exact pc_zret (v := 1) (S := S) hx hb hr hlk hK hZ hA hW hS (by decide) (⟨rfl, Or.inl ⟨rfl, by omega⟩⟩) dX5_isDigit_22
set_option maxHeartbeats 4000000 in
set_option maxRecDepth 100000 in
theorem b_X5_readDigits (l : Launch) (D : va_G) (cy : Nat → ClassId) (A : Nat → Prop) (S : St) (h t bt : Nat) (f : Nat → Int32) (n : Int) (a b : Int32) (hG0 : G S) (hk : sK S h = 5) (hr0 : sR S h 0 = some t) (hkt : sK S t = 7) (hr1 : sR S t 0 = some bt) (hkb : sK S bt = 10) (hlb : sL S bt = 80) (hn : (sI S h 1).toInt = n) (hn8 : n ≤ 80) (hf : ∀ j : Nat, (j : Int) < n → sI S bt j = f j) (hp0 : 0 ≤ (sI S h 2).toInt) (hp1 : (sI S h 2).toInt ≤ 90) (hft : (sI S h 3).toInt = 0) (ha0 : 0 ≤ a.toInt) (ha9 : a.toInt ≤ 9) (hb1 : 1 ≤ b.toInt) (hb7 : b.toInt ≤ 7) : MI l yX5_readDigits wsX5_readDigits ({ frames := 2, cells := 0, slots := 0, locals := 41 } : Room) 0 0 D cy A [.ref h, .int a, .int b] S (fun r S1 => G S1 ∧ Fr [] [502, 503] S S1 ∧ (SR f n b.toInt (a.toInt + 1) ((sI S h 2).toInt) (sI S1 h 2).toInt (sI S1 h 3).toInt)) := by
  refine mt_start (cc := cX5_readDigits) (maxL := 7) (ret := (some .int)) (by decide) rfl (Nat.le_of_ble_eq_true rfl) ?_
  intro p e s m args below meth c hx hb hr hlk hml hown hnm hts hK hZ hA hW hS ls hl
  have hl : lv_has ls 7 [(0, .ref h), (1, .int a), (2, .int b)] := hl
  have hown : s.vm.findClass RX5 = some m.cls := hown
  have F : CallFix p m c cX5_readDigits 7 s args wsX5_readDigits RX5 := ⟨hx, hb, hml, hown, hts⟩
  have wi5 : ∀ w ∈ u_ws RX5 TX5 4, w ∈ wsX5_readDigits := by decide +kernel
  have hG := hG0
  have hF : Fr [] [502, 503] S S := Fr.rf _ _ _
  have h0_ : (0 : Int32).toInt = 0 := rfl
  have h1_ : (1 : Int32).toInt = 1 := rfl
  have h2_ : (2 : Int32).toInt = 2 := rfl
  refine lv_iconst (v := 0) hx hb dX5_readDigits_0 (by decide) ?_
  refine lv_istore_n (lv' := [(3, .int 0), (0, .ref h), (1, .int a), (2, .int b)]) hx hb dX5_readDigits_1 rfl hl (by decide) rfl (fun ls hl => ?_)
  refine lv_aload_n hx hb dX5_readDigits_2 rfl (lv_at hl 1 rfl) ?_
  refine pg_gi (ci := 5) (C := RX5) (T := TX5) (N := 4) hx hb hts wi5 hown hK hW hk (by decide) rfl 2 (by decide) (hts (.fieldLink RX5 19 "IceHall$RightsReader" "place" "I") (by decide +kernel)) (fun _ h9 => h9) rfl dX5_readDigits_3 ?_
  rw [show sI S h 2 = sI S h 2 from rfl]
  refine lv_istore (lv' := [(4, .int (sI S h 2)), (3, .int 0), (0, .ref h), (1, .int a), (2, .int b)]) hx hb dX5_readDigits_6 hl (by decide) rfl (fun ls hl => ?_)
  refine lv_iconst (v := 0) hx hb dX5_readDigits_8 (by decide) ?_
  refine lv_istore (lv' := [(5, .int 0), (4, .int (sI S h 2)), (3, .int 0), (0, .ref h), (1, .int a), (2, .int b)]) hx hb dX5_readDigits_9 hl (by decide) rfl (fun ls hl => ?_)
  have loop11 : ∀ (zn : Nat) (z : Int32) (y : Int32) (L11 : St) (H : Heap) (locs : List Loc) (ls : Array Slot), (G L11) → (Fr [] [502, 503] S L11) → (0 ≤ y.toInt ∧ y.toInt ≤ b.toInt) → (DS f n (a.toInt + 1) (sI S h 2).toInt (sI L11 h 2).toInt) → ((sI L11 h 2).toInt = (sI S h 2).toInt + y.toInt) → ((sI L11 h 3).toInt = 0) → (b.toInt - y.toInt).toNat < zn → PW D cy A L11 H → va_S A s.heap H locs → lv_has ls 7 [(0, .ref h), (1, .int a), (2, .int b), (3, .int z), (4, .int (sI S h 2)), (5, .int y)] → W p l e ({ frames := 2, cells := 0, slots := 0, locals := 41 } : Room) s m args below meth c H locs 0 0 (MQ below (va_Qi (fun r S1 => G S1 ∧ Fr [] [502, 503] S S1 ∧ (SR f n b.toInt (a.toInt + 1) ((sI S h 2).toInt) (sI S1 h 2).toInt (sI S1 h 3).toInt)) (PU D cy A) A) args s 0 0 A) (F0 m 11 ls []) := by
    intro zn
    induction zn with
    | zero => intros; exact absurd (by assumption) (Nat.not_lt_zero _)
    | succ zn ih11 =>
      intro z y L11 H locs ls hG hL11 hy hDS hpy hf0 hme11 hW hS hl
      have hF := hL11
      have lk1 : (sI L11 h 1).toInt = (sI S h 1).toInt := by rw [hF.i hk (by decide) (by decide)]
      refine lv_iload hx hb dX5_readDigits_11 (lv_at hl 5 rfl) ?_
      refine lv_iload_n hx hb dX5_readDigits_13 rfl (lv_at hl 2 rfl) ?_
      refine lv_icmp_ge (tgt := 73) hx hb dX5_readDigits_14 (by decide) (fun c2 => ?_) (fun c2 => ?_)
      · have c2i : Int32.toInt b ≤ Int32.toInt y := (i3_le _ _).mp c2
        refine lv_aload_n hx hb dX5_readDigits_73 rfl (lv_at hl 0 rfl) ?_
        refine pg_gi (ci := 5) (C := RX5) (T := TX5) (N := 4) hx hb hts wi5 hown hK hW (hF.k hk (by decide)) (by decide) rfl 2 (by decide) (hts (.fieldLink RX5 19 "IceHall$RightsReader" "place" "I") (by decide +kernel)) (fun _ h9 => h9) rfl dX5_readDigits_74 ?_
        rw [show sI L11 h 2 = sI L11 h 2 from rfl]
        refine lv_iload hx hb dX5_readDigits_77 (lv_at hl 4 rfl) ?_
        refine lv_icmp_eq (tgt := 89) hx hb dX5_readDigits_79 (by decide) (fun c3 => ?_) (fun c3 => ?_)
        · have c3i : Int32.toInt (sI L11 h 2) = Int32.toInt (sI S h 2) := (i3_eq _ _).mp c3
          refine lv_aload_n hx hb dX5_readDigits_89 rfl (lv_at hl 0 rfl) ?_
          refine lv_iconst (v := 1) hx hb dX5_readDigits_90 (by decide) ?_
          refine lv_aload_n hx hb dX5_readDigits_91 rfl (lv_at hl 0 rfl) ?_
          refine pg_gi (ci := 5) (C := RX5) (T := TX5) (N := 4) hx hb hts wi5 hown hK hW (hF.k hk (by decide)) (by decide) rfl 2 (by decide) (hts (.fieldLink RX5 19 "IceHall$RightsReader" "place" "I") (by decide +kernel)) (fun _ h9 => h9) rfl dX5_readDigits_92 ?_
          rw [show sI L11 h 2 = sI L11 h 2 from rfl]
          have lk4 : (sI L11 h 1).toInt = (sI S h 1).toInt := by rw [hF.i hk (by decide) (by decide)]
          refine pc_Vv (As := [.int 1, .int (sI L11 h 2)]) (rest := []) F (b_X5_fail l D cy A L11 h 1 (sI L11 h 2) hG (hF.k hk (by decide)) (by omega) (by omega) (by omega) (by omega)) (cwV 2 hts gX5_readDigits_X5_fail rfl rfl rfl (by decide +kernel) ⟨Nat.le_of_ble_eq_true rfl, Nat.le_of_ble_eq_true rfl⟩) hK hZ hA hW hS (hF.k hk (by decide)) (by decide) rfl rfl hl.1 rfl (Nat.le_of_ble_eq_true rfl) dX5_readDigits_95 ⟨Nat.le_of_ble_eq_true rfl, Nat.le_of_ble_eq_true rfl⟩ (fun T6 H locs p7 hW hS => ?_)
          obtain ⟨hG, hFc, p7⟩ := p7
          have w8 : sI T6 h 2 = sI L11 h 2 := (hFc.i (hF.k hk (by decide)) (by decide) (by decide)).trans rfl
          have hF : Fr [] [502, 503] S T6 := hF.tr (hFc.mono (by decide))
          refine lv_iload_n hx hb dX5_readDigits_98 rfl (lv_at hl 3 rfl) ?_
          have lk9 : (sI T6 h 2).toInt = (sI L11 h 2).toInt := by rw [show sI T6 h 2 = sI L11 h 2 from w8]
          have lk10 : (sI T6 h 1).toInt = (sI S h 1).toInt := by rw [hF.i hk (by decide) (by decide)]
          exact pc_iret (v := z) (S := T6) hx hb hr hlk hK hZ hA hW hS (⟨hG, hF, SR.c (p := (sI L11 h 2).toInt) ⟨hDS, by omega, by omega⟩ rfl rfl rfl (by omega) rfl⟩) dX5_readDigits_99
        · have c3i : ¬ (Int32.toInt (sI L11 h 2) = Int32.toInt (sI S h 2)) := fun h9 => c3 ((i3_eq _ _).mpr h9)
          refine lv_aload_n hx hb dX5_readDigits_82 rfl (lv_at hl 0 rfl) ?_
          have lk11 : (sI L11 h 1).toInt = (sI S h 1).toInt := by rw [hF.i hk (by decide) (by decide)]
          refine pc_Vi (As := []) (rest := []) F (b_X5_isDigit l D cy A L11 h t bt f n hG (hF.k hk (by decide)) (hF.r hk (by decide) hr0) (hF.k hkt (by decide)) (hF.r hkt (by decide) hr1) (hF.k hkb (by decide)) (hF.n hkb (by decide) hlb) (by omega) (by omega) (fun j hj => (hF.iA hkb (by decide) (by decide) (by decide)).trans (hf j hj)) (by omega) (by omega)) (cwV 0 hts gX5_readDigits_X5_isDigit rfl rfl rfl (by decide +kernel) ⟨Nat.le_of_ble_eq_true rfl, Nat.le_of_ble_eq_true rfl⟩) hK hZ hA hW hS (hF.k hk (by decide)) (by decide) rfl rfl hl.1 rfl (Nat.le_of_ble_eq_true rfl) dX5_readDigits_83 ⟨Nat.le_of_ble_eq_true rfl, Nat.le_of_ble_eq_true rfl⟩ (fun v12 T13 H locs p14 hW hS => ?_)
          obtain ⟨eT13, p14⟩ := p14
          rw [eT13] at hW
          clear eT13
          refine lv_if_eq (tgt := 98) hx hb dX5_readDigits_86 (by decide) (fun c15 => ?_) (fun c15 => ?_)
          · have c15i : Int32.toInt v12 = (0 : Int) := (i3_eq _ _).mp c15
            refine lv_iload_n hx hb dX5_readDigits_98 rfl (lv_at hl 3 rfl) ?_
            have lk16 : (sI L11 h 1).toInt = (sI S h 1).toInt := by rw [hF.i hk (by decide) (by decide)]
            exact pc_iret (v := z) (S := L11) hx hb hr hlk hK hZ hA hW hS (⟨hG, hF, SR.c (p := (sI L11 h 2).toInt) ⟨hDS, by omega, by omega⟩ rfl rfl rfl (by omega) rfl⟩) dX5_readDigits_99
          · have c15i : ¬ (Int32.toInt v12 = (0 : Int)) := fun h9 => c15 ((i3_eq _ _).mpr h9)
            refine lv_aload_n hx hb dX5_readDigits_89 rfl (lv_at hl 0 rfl) ?_
            refine lv_iconst (v := 1) hx hb dX5_readDigits_90 (by decide) ?_
            refine lv_aload_n hx hb dX5_readDigits_91 rfl (lv_at hl 0 rfl) ?_
            refine pg_gi (ci := 5) (C := RX5) (T := TX5) (N := 4) hx hb hts wi5 hown hK hW (hF.k hk (by decide)) (by decide) rfl 2 (by decide) (hts (.fieldLink RX5 19 "IceHall$RightsReader" "place" "I") (by decide +kernel)) (fun _ h9 => h9) rfl dX5_readDigits_92 ?_
            rw [show sI L11 h 2 = sI L11 h 2 from rfl]
            have lk17 : (sI L11 h 1).toInt = (sI S h 1).toInt := by rw [hF.i hk (by decide) (by decide)]
            refine pc_Vv (As := [.int 1, .int (sI L11 h 2)]) (rest := []) F (b_X5_fail l D cy A L11 h 1 (sI L11 h 2) hG (hF.k hk (by decide)) (by omega) (by omega) (by omega) (by omega)) (cwV 2 hts gX5_readDigits_X5_fail rfl rfl rfl (by decide +kernel) ⟨Nat.le_of_ble_eq_true rfl, Nat.le_of_ble_eq_true rfl⟩) hK hZ hA hW hS (hF.k hk (by decide)) (by decide) rfl rfl hl.1 rfl (Nat.le_of_ble_eq_true rfl) dX5_readDigits_95 ⟨Nat.le_of_ble_eq_true rfl, Nat.le_of_ble_eq_true rfl⟩ (fun T19 H locs p20 hW hS => ?_)
            obtain ⟨hG, hFc, p20⟩ := p20
            have w21 : sI T19 h 2 = sI L11 h 2 := (hFc.i (hF.k hk (by decide)) (by decide) (by decide)).trans rfl
            have hF : Fr [] [502, 503] S T19 := hF.tr (hFc.mono (by decide))
            refine lv_iload_n hx hb dX5_readDigits_98 rfl (lv_at hl 3 rfl) ?_
            have lk22 : (sI T19 h 2).toInt = (sI L11 h 2).toInt := by rw [show sI T19 h 2 = sI L11 h 2 from w21]
            have lk23 : (sI T19 h 1).toInt = (sI S h 1).toInt := by rw [hF.i hk (by decide) (by decide)]
            exact pc_iret (v := z) (S := T19) hx hb hr hlk hK hZ hA hW hS (⟨hG, hF, SR.c (p := (sI L11 h 2).toInt) ⟨hDS, by omega, by omega⟩ rfl rfl rfl (by omega) rfl⟩) dX5_readDigits_99
      · have c2i : ¬ (Int32.toInt b ≤ Int32.toInt y) := fun h9 => c2 ((i3_le _ _).mpr h9)
        refine lv_aload_n hx hb dX5_readDigits_17 rfl (lv_at hl 0 rfl) ?_
        have lk24 : (sI L11 h 1).toInt = (sI S h 1).toInt := by rw [hF.i hk (by decide) (by decide)]
        refine pc_Vi (As := []) (rest := []) F (b_X5_isDigit l D cy A L11 h t bt f n hG (hF.k hk (by decide)) (hF.r hk (by decide) hr0) (hF.k hkt (by decide)) (hF.r hkt (by decide) hr1) (hF.k hkb (by decide)) (hF.n hkb (by decide) hlb) (by omega) (by omega) (fun j hj => (hF.iA hkb (by decide) (by decide) (by decide)).trans (hf j hj)) (by omega) (by omega)) (cwV 0 hts gX5_readDigits_X5_isDigit rfl rfl rfl (by decide +kernel) ⟨Nat.le_of_ble_eq_true rfl, Nat.le_of_ble_eq_true rfl⟩) hK hZ hA hW hS (hF.k hk (by decide)) (by decide) rfl rfl hl.1 rfl (Nat.le_of_ble_eq_true rfl) dX5_readDigits_18 ⟨Nat.le_of_ble_eq_true rfl, Nat.le_of_ble_eq_true rfl⟩ (fun v25 T26 H locs p27 hW hS => ?_)
        obtain ⟨eT26, p27⟩ := p27
        rw [eT26] at hW
        clear eT26
        refine lv_if_eq (tgt := 73) hx hb dX5_readDigits_21 (by decide) (fun c28 => ?_) (fun c28 => ?_)
        · have c28i : Int32.toInt v25 = (0 : Int) := (i3_eq _ _).mp c28
          refine lv_aload_n hx hb dX5_readDigits_73 rfl (lv_at hl 0 rfl) ?_
          refine pg_gi (ci := 5) (C := RX5) (T := TX5) (N := 4) hx hb hts wi5 hown hK hW (hF.k hk (by decide)) (by decide) rfl 2 (by decide) (hts (.fieldLink RX5 19 "IceHall$RightsReader" "place" "I") (by decide +kernel)) (fun _ h9 => h9) rfl dX5_readDigits_74 ?_
          rw [show sI L11 h 2 = sI L11 h 2 from rfl]
          refine lv_iload hx hb dX5_readDigits_77 (lv_at hl 4 rfl) ?_
          refine lv_icmp_eq (tgt := 89) hx hb dX5_readDigits_79 (by decide) (fun c29 => ?_) (fun c29 => ?_)
          · have c29i : Int32.toInt (sI L11 h 2) = Int32.toInt (sI S h 2) := (i3_eq _ _).mp c29
            refine lv_aload_n hx hb dX5_readDigits_89 rfl (lv_at hl 0 rfl) ?_
            refine lv_iconst (v := 1) hx hb dX5_readDigits_90 (by decide) ?_
            refine lv_aload_n hx hb dX5_readDigits_91 rfl (lv_at hl 0 rfl) ?_
            refine pg_gi (ci := 5) (C := RX5) (T := TX5) (N := 4) hx hb hts wi5 hown hK hW (hF.k hk (by decide)) (by decide) rfl 2 (by decide) (hts (.fieldLink RX5 19 "IceHall$RightsReader" "place" "I") (by decide +kernel)) (fun _ h9 => h9) rfl dX5_readDigits_92 ?_
            rw [show sI L11 h 2 = sI L11 h 2 from rfl]
            have lk30 : (sI L11 h 1).toInt = (sI S h 1).toInt := by rw [hF.i hk (by decide) (by decide)]
            refine pc_Vv (As := [.int 1, .int (sI L11 h 2)]) (rest := []) F (b_X5_fail l D cy A L11 h 1 (sI L11 h 2) hG (hF.k hk (by decide)) (by omega) (by omega) (by omega) (by omega)) (cwV 2 hts gX5_readDigits_X5_fail rfl rfl rfl (by decide +kernel) ⟨Nat.le_of_ble_eq_true rfl, Nat.le_of_ble_eq_true rfl⟩) hK hZ hA hW hS (hF.k hk (by decide)) (by decide) rfl rfl hl.1 rfl (Nat.le_of_ble_eq_true rfl) dX5_readDigits_95 ⟨Nat.le_of_ble_eq_true rfl, Nat.le_of_ble_eq_true rfl⟩ (fun T32 H locs p33 hW hS => ?_)
            obtain ⟨hG, hFc, p33⟩ := p33
            have w34 : sI T32 h 2 = sI L11 h 2 := (hFc.i (hF.k hk (by decide)) (by decide) (by decide)).trans rfl
            have hF : Fr [] [502, 503] S T32 := hF.tr (hFc.mono (by decide))
            refine lv_iload_n hx hb dX5_readDigits_98 rfl (lv_at hl 3 rfl) ?_
            have lk35 : (sI T32 h 2).toInt = (sI L11 h 2).toInt := by rw [show sI T32 h 2 = sI L11 h 2 from w34]
            have lk36 : (sI T32 h 1).toInt = (sI S h 1).toInt := by rw [hF.i hk (by decide) (by decide)]
            exact pc_iret (v := z) (S := T32) hx hb hr hlk hK hZ hA hW hS (⟨hG, hF, SR.c (p := (sI L11 h 2).toInt) ⟨hDS, by omega, by omega⟩ rfl rfl rfl (by omega) rfl⟩) dX5_readDigits_99
          · have c29i : ¬ (Int32.toInt (sI L11 h 2) = Int32.toInt (sI S h 2)) := fun h9 => c29 ((i3_eq _ _).mpr h9)
            refine lv_aload_n hx hb dX5_readDigits_82 rfl (lv_at hl 0 rfl) ?_
            have lk37 : (sI L11 h 1).toInt = (sI S h 1).toInt := by rw [hF.i hk (by decide) (by decide)]
            refine pc_Vi (As := []) (rest := []) F (b_X5_isDigit l D cy A L11 h t bt f n hG (hF.k hk (by decide)) (hF.r hk (by decide) hr0) (hF.k hkt (by decide)) (hF.r hkt (by decide) hr1) (hF.k hkb (by decide)) (hF.n hkb (by decide) hlb) (by omega) (by omega) (fun j hj => (hF.iA hkb (by decide) (by decide) (by decide)).trans (hf j hj)) (by omega) (by omega)) (cwV 0 hts gX5_readDigits_X5_isDigit rfl rfl rfl (by decide +kernel) ⟨Nat.le_of_ble_eq_true rfl, Nat.le_of_ble_eq_true rfl⟩) hK hZ hA hW hS (hF.k hk (by decide)) (by decide) rfl rfl hl.1 rfl (Nat.le_of_ble_eq_true rfl) dX5_readDigits_83 ⟨Nat.le_of_ble_eq_true rfl, Nat.le_of_ble_eq_true rfl⟩ (fun v38 T39 H locs p40 hW hS => ?_)
            obtain ⟨eT39, p40⟩ := p40
            rw [eT39] at hW
            clear eT39
            refine lv_if_eq (tgt := 98) hx hb dX5_readDigits_86 (by decide) (fun c41 => ?_) (fun c41 => ?_)
            · have c41i : Int32.toInt v38 = (0 : Int) := (i3_eq _ _).mp c41
              refine lv_iload_n hx hb dX5_readDigits_98 rfl (lv_at hl 3 rfl) ?_
              have lk42 : (sI L11 h 1).toInt = (sI S h 1).toInt := by rw [hF.i hk (by decide) (by decide)]
              exact pc_iret (v := z) (S := L11) hx hb hr hlk hK hZ hA hW hS (⟨hG, hF, SR.c (p := (sI L11 h 2).toInt) ⟨hDS, by omega, by omega⟩ rfl rfl rfl (by omega) rfl⟩) dX5_readDigits_99
            · have c41i : ¬ (Int32.toInt v38 = (0 : Int)) := fun h9 => c41 ((i3_eq _ _).mpr h9)
              refine lv_aload_n hx hb dX5_readDigits_89 rfl (lv_at hl 0 rfl) ?_
              refine lv_iconst (v := 1) hx hb dX5_readDigits_90 (by decide) ?_
              refine lv_aload_n hx hb dX5_readDigits_91 rfl (lv_at hl 0 rfl) ?_
              refine pg_gi (ci := 5) (C := RX5) (T := TX5) (N := 4) hx hb hts wi5 hown hK hW (hF.k hk (by decide)) (by decide) rfl 2 (by decide) (hts (.fieldLink RX5 19 "IceHall$RightsReader" "place" "I") (by decide +kernel)) (fun _ h9 => h9) rfl dX5_readDigits_92 ?_
              rw [show sI L11 h 2 = sI L11 h 2 from rfl]
              have lk43 : (sI L11 h 1).toInt = (sI S h 1).toInt := by rw [hF.i hk (by decide) (by decide)]
              refine pc_Vv (As := [.int 1, .int (sI L11 h 2)]) (rest := []) F (b_X5_fail l D cy A L11 h 1 (sI L11 h 2) hG (hF.k hk (by decide)) (by omega) (by omega) (by omega) (by omega)) (cwV 2 hts gX5_readDigits_X5_fail rfl rfl rfl (by decide +kernel) ⟨Nat.le_of_ble_eq_true rfl, Nat.le_of_ble_eq_true rfl⟩) hK hZ hA hW hS (hF.k hk (by decide)) (by decide) rfl rfl hl.1 rfl (Nat.le_of_ble_eq_true rfl) dX5_readDigits_95 ⟨Nat.le_of_ble_eq_true rfl, Nat.le_of_ble_eq_true rfl⟩ (fun T45 H locs p46 hW hS => ?_)
              obtain ⟨hG, hFc, p46⟩ := p46
              have w47 : sI T45 h 2 = sI L11 h 2 := (hFc.i (hF.k hk (by decide)) (by decide) (by decide)).trans rfl
              have hF : Fr [] [502, 503] S T45 := hF.tr (hFc.mono (by decide))
              refine lv_iload_n hx hb dX5_readDigits_98 rfl (lv_at hl 3 rfl) ?_
              have lk48 : (sI T45 h 2).toInt = (sI L11 h 2).toInt := by rw [show sI T45 h 2 = sI L11 h 2 from w47]
              have lk49 : (sI T45 h 1).toInt = (sI S h 1).toInt := by rw [hF.i hk (by decide) (by decide)]
              exact pc_iret (v := z) (S := T45) hx hb hr hlk hK hZ hA hW hS (⟨hG, hF, SR.c (p := (sI L11 h 2).toInt) ⟨hDS, by omega, by omega⟩ rfl rfl rfl (by omega) rfl⟩) dX5_readDigits_99
        · have c28i : ¬ (Int32.toInt v25 = (0 : Int)) := fun h9 => c28 ((i3_eq _ _).mpr h9)
          refine lv_aload_n hx hb dX5_readDigits_24 rfl (lv_at hl 0 rfl) ?_
          have lk50 : (sI L11 h 1).toInt = (sI S h 1).toInt := by rw [hF.i hk (by decide) (by decide)]
          refine pc_Vi (As := []) (rest := []) F (b_X5_peek l D cy A L11 h t bt f n hG (hF.k hk (by decide)) (hF.r hk (by decide) hr0) (hF.k hkt (by decide)) (hF.r hkt (by decide) hr1) (hF.k hkb (by decide)) (hF.n hkb (by decide) hlb) (by omega) (by omega) (fun j hj => (hF.iA hkb (by decide) (by decide) (by decide)).trans (hf j hj)) (by omega) (by omega)) (cwV 0 hts gX5_readDigits_X5_peek rfl rfl rfl (by decide +kernel) ⟨Nat.le_of_ble_eq_true rfl, Nat.le_of_ble_eq_true rfl⟩) hK hZ hA hW hS (hF.k hk (by decide)) (by decide) rfl rfl hl.1 rfl (Nat.le_of_ble_eq_true rfl) dX5_readDigits_25 ⟨Nat.le_of_ble_eq_true rfl, Nat.le_of_ble_eq_true rfl⟩ (fun v51 T52 H locs p53 hW hS => ?_)
          obtain ⟨eT52, p53⟩ := p53
          rw [eT52] at hW
          clear eT52
          refine lv_bipush (v := 48) hx hb dX5_readDigits_28 (by decide) ?_
          refine lv_isub hx hb dX5_readDigits_30 ?_
          have l54 : (v51 - 48).toInt = Int32.toInt v51 - (48 : Int) := i3_sub rfl rfl (by omega) (by omega)
          refine lv_istore (lv' := [(6, .int (v51 - 48)), (0, .ref h), (1, .int a), (2, .int b), (3, .int z), (4, .int (sI S h 2)), (5, .int y)]) hx hb dX5_readDigits_31 hl (by decide) rfl (fun ls hl => ?_)
          refine lv_iload hx hb dX5_readDigits_33 (lv_at hl 0 rfl) ?_
          refine lv_iload_n hx hb dX5_readDigits_35 rfl (lv_at hl 2 rfl) ?_
          refine lv_icmp_le (tgt := 50) hx hb dX5_readDigits_36 (by decide) (fun c55 => ?_) (fun c55 => ?_)
          · have c55i : Int32.toInt (v51 - 48) ≤ Int32.toInt a := (i3_le _ _).mp c55
            refine lv_iload_n hx hb dX5_readDigits_50 rfl (lv_at hl 4 rfl) ?_
            refine lv_iconst (v := 1) hx hb dX5_readDigits_51 (by decide) ?_
            refine lv_iload hx hb dX5_readDigits_52 (lv_at hl 0 rfl) ?_
            refine lv_ishl hx hb dX5_readDigits_54 ?_
            refine lv_ior hx hb dX5_readDigits_55 ?_
            refine lv_istore_n (lv' := [(3, .int (z ||| (1 <<< ((v51 - 48) &&& 31)))), (6, .int (v51 - 48)), (0, .ref h), (1, .int a), (2, .int b), (4, .int (sI S h 2)), (5, .int y)]) hx hb dX5_readDigits_56 rfl hl (by decide) rfl (fun ls hl => ?_)
            refine lv_aload_n hx hb dX5_readDigits_57 rfl (lv_at hl 2 rfl) ?_
            refine lv_dup hx hb dX5_readDigits_58 rfl ?_
            refine pg_gi (ci := 5) (C := RX5) (T := TX5) (N := 4) hx hb hts wi5 hown hK hW (hF.k hk (by decide)) (by decide) rfl 2 (by decide) (hts (.fieldLink RX5 19 "IceHall$RightsReader" "place" "I") (by decide +kernel)) (fun _ h9 => h9) rfl dX5_readDigits_59 ?_
            rw [show sI L11 h 2 = sI L11 h 2 from rfl]
            refine lv_iconst (v := 1) hx hb dX5_readDigits_62 (by decide) ?_
            refine lv_iadd hx hb dX5_readDigits_63 ?_
            have l56 : ((sI L11 h 2) + 1).toInt = Int32.toInt (sI L11 h 2) + (1 : Int) := i3_add rfl rfl (by omega) (by omega)
            refine pg_pi (ci := 5) (C := RX5) (T := TX5) (N := 4) hx hb hts wi5 tyX5 tyX5_ok nmX5 hown hK hW hS (hF.k hk (by decide)) (by decide) rfl 2 (by decide) (hts (.fieldLink RX5 19 "IceHall$RightsReader" "place" "I") (by decide +kernel)) (fun _ h9 => h9) rfl rfl rfl dX5_readDigits_64 (fun H locs hW hS => ?_)
            have kq57 : sK L11 h = 5 := (hF.k hk (by decide))
            obtain ⟨S58, eS58⟩ : ∃ T : St, T = stI L11 h 2 ((sI L11 h 2) + 1) := ⟨_, rfl⟩
            rw [← eS58] at hW
            have hG : G S58 := by rw [eS58]; exact hG.I kq57 (ok_fr (by decide))
            have w59 : sI S58 h 3 = sI L11 h 3 := by rw [eS58]; exact (iI_k (by decide)).trans rfl
            have hF : Fr [] [502, 503] S S58 := by rw [eS58]; exact hF.I kq57 (by decide)
            have w60 : sI S58 h 2 = (sI L11 h 2) + 1 := by rw [eS58]; exact iI_s
            clear eS58
            refine lv_iinc (v := y + 1) (lv' := [(5, .int (y + 1)), (3, .int (z ||| (1 <<< ((v51 - 48) &&& 31)))), (6, .int (v51 - 48)), (0, .ref h), (1, .int a), (2, .int b), (4, .int (sI S h 2))]) hx hb dX5_readDigits_67 hl (k := 6) rfl rfl (by decide) rfl (fun ls hl => ?_)
            have i61 : (y + 1).toInt = (y).toInt + 1 := i3_add rfl rfl (by omega) (by omega)
            refine lv_goto (tgt := 11) hx hb dX5_readDigits_70 (by decide) ?_
            have lk62 : (sI S58 h 2).toInt = ((sI L11 h 2) + 1).toInt := by rw [show sI S58 h 2 = (sI L11 h 2) + 1 from w60]
            have lk63 : (sI S58 h 3).toInt = (sI L11 h 3).toInt := by rw [show sI S58 h 3 = sI L11 h 3 from w59]
            have lk64 : (sI S58 h 1).toInt = (sI S h 1).toInt := by rw [hF.i hk (by decide) (by decide)]
            exact ih11 (z ||| (1 <<< ((v51 - 48) &&& 31))) (y + 1) S58 _ _ ls hG hF (by omega) (hDS.s (by omega) (by omega) (by omega)) (by omega) (by omega) (by omega) hW hS (lv_cast (lv_sub hl [3, 4, 5, 1, 6, 0] rfl) (rfl))
          · have c55i : ¬ (Int32.toInt (v51 - 48) ≤ Int32.toInt a) := fun h9 => c55 ((i3_le _ _).mpr h9)
            refine lv_aload_n hx hb dX5_readDigits_39 rfl (lv_at hl 1 rfl) ?_
            refine lv_iconst (v := 2) hx hb dX5_readDigits_40 (by decide) ?_
            refine lv_aload_n hx hb dX5_readDigits_41 rfl (lv_at hl 1 rfl) ?_
            refine pg_gi (ci := 5) (C := RX5) (T := TX5) (N := 4) hx hb hts wi5 hown hK hW (hF.k hk (by decide)) (by decide) rfl 2 (by decide) (hts (.fieldLink RX5 19 "IceHall$RightsReader" "place" "I") (by decide +kernel)) (fun _ h9 => h9) rfl dX5_readDigits_42 ?_
            rw [show sI L11 h 2 = sI L11 h 2 from rfl]
            have lk65 : (sI L11 h 1).toInt = (sI S h 1).toInt := by rw [hF.i hk (by decide) (by decide)]
            refine pc_Vv (As := [.int 2, .int (sI L11 h 2)]) (rest := []) F (b_X5_fail l D cy A L11 h 2 (sI L11 h 2) hG (hF.k hk (by decide)) (by omega) (by omega) (by omega) (by omega)) (cwV 2 hts gX5_readDigits_X5_fail rfl rfl rfl (by decide +kernel) ⟨Nat.le_of_ble_eq_true rfl, Nat.le_of_ble_eq_true rfl⟩) hK hZ hA hW hS (hF.k hk (by decide)) (by decide) rfl rfl hl.1 rfl (Nat.le_of_ble_eq_true rfl) dX5_readDigits_45 ⟨Nat.le_of_ble_eq_true rfl, Nat.le_of_ble_eq_true rfl⟩ (fun T67 H locs p68 hW hS => ?_)
            obtain ⟨hG, hFc, p68⟩ := p68
            have w69 : sI T67 h 2 = sI L11 h 2 := (hFc.i (hF.k hk (by decide)) (by decide) (by decide)).trans rfl
            have hF : Fr [] [502, 503] S T67 := hF.tr (hFc.mono (by decide))
            refine lv_iload_n hx hb dX5_readDigits_48 rfl (lv_at hl 4 rfl) ?_
            have lk70 : (sI T67 h 2).toInt = (sI L11 h 2).toInt := by rw [show sI T67 h 2 = sI L11 h 2 from w69]
            have lk71 : (sI T67 h 1).toInt = (sI S h 1).toInt := by rw [hF.i hk (by decide) (by decide)]
            exact pc_iret (v := z) (S := T67) hx hb hr hlk hK hZ hA hW hS (⟨hG, hF, SR.c (p := (sI L11 h 2).toInt) ⟨hDS, by omega, by omega⟩ rfl rfl rfl (by omega) rfl⟩) dX5_readDigits_49
  exact loop11 _ 0 0 S _ _ ls hG hF (by omega) (DS.z rfl) (by omega) (hft) (Nat.lt_succ_self _) hW hS (lv_cast (lv_sub hl [3, 4, 5, 2, 1, 0] rfl) (rfl))
set_option maxHeartbeats 4000000 in
set_option maxRecDepth 100000 in
theorem b_X5_readNumber (l : Launch) (D : va_G) (cy : Nat → ClassId) (A : Nat → Prop) (S : St) (h t bt : Nat) (f : Nat → Int32) (n : Int) (a b : Int32) (hG0 : G S) (hk : sK S h = 5) (hr0 : sR S h 0 = some t) (hkt : sK S t = 7) (hr1 : sR S t 0 = some bt) (hkb : sK S bt = 10) (hlb : sL S bt = 80) (hn : (sI S h 1).toInt = n) (hn8 : n ≤ 80) (hf : ∀ j : Nat, (j : Int) < n → sI S bt j = f j) (hp0 : 0 ≤ (sI S h 2).toInt) (hp1 : (sI S h 2).toInt ≤ 90) (hft : (sI S h 3).toInt = 0) : MI l yX5_readNumber wsX5_readNumber ({ frames := 2, cells := 0, slots := 0, locals := 41 } : Room) 0 0 D cy A [.ref h, .int a, .int b] S (fun r S1 => G S1 ∧ Fr [] [502, 503] S S1 ∧ (NR f n a.toInt b.toInt ((sI S h 2).toInt) r.toInt (sI S1 h 2).toInt (sI S1 h 3).toInt)) := by
  refine mt_start (cc := cX5_readNumber) (maxL := 6) (ret := (some .int)) (by decide) rfl (Nat.le_of_ble_eq_true rfl) ?_
  intro p e s m args below meth c hx hb hr hlk hml hown hnm hts hK hZ hA hW hS ls hl
  have hl : lv_has ls 6 [(0, .ref h), (1, .int a), (2, .int b)] := hl
  have hown : s.vm.findClass RX5 = some m.cls := hown
  have F : CallFix p m c cX5_readNumber 6 s args wsX5_readNumber RX5 := ⟨hx, hb, hml, hown, hts⟩
  have wi5 : ∀ w ∈ u_ws RX5 TX5 4, w ∈ wsX5_readNumber := by decide +kernel
  have hG := hG0
  have hF : Fr [] [502, 503] S S := Fr.rf _ _ _
  have h0_ : (0 : Int32).toInt = 0 := rfl
  have h1_ : (1 : Int32).toInt = 1 := rfl
  have h2_ : (2 : Int32).toInt = 2 := rfl
  refine lv_iconst (v := 0) hx hb dX5_readNumber_0 (by decide) ?_
  refine lv_istore_n (lv' := [(3, .int 0), (0, .ref h), (1, .int a), (2, .int b)]) hx hb dX5_readNumber_1 rfl hl (by decide) rfl (fun ls hl => ?_)
  refine lv_aload_n hx hb dX5_readNumber_2 rfl (lv_at hl 1 rfl) ?_
  refine pg_gi (ci := 5) (C := RX5) (T := TX5) (N := 4) hx hb hts wi5 hown hK hW hk (by decide) rfl 2 (by decide) (hts (.fieldLink RX5 19 "IceHall$RightsReader" "place" "I") (by decide +kernel)) (fun _ h9 => h9) rfl dX5_readNumber_3 ?_
  rw [show sI S h 2 = sI S h 2 from rfl]
  refine lv_istore (lv' := [(4, .int (sI S h 2)), (3, .int 0), (0, .ref h), (1, .int a), (2, .int b)]) hx hb dX5_readNumber_6 hl (by decide) rfl (fun ls hl => ?_)
  refine lv_iconst (v := 0) hx hb dX5_readNumber_8 (by decide) ?_
  refine lv_istore (lv' := [(5, .int 0), (4, .int (sI S h 2)), (3, .int 0), (0, .ref h), (1, .int a), (2, .int b)]) hx hb dX5_readNumber_9 hl (by decide) rfl (fun ls hl => ?_)
  have loop11 : ∀ (zn : Nat) (z : Int32) (y : Int32) (L11 : St) (H : Heap) (locs : List Loc) (ls : Array Slot), (G L11) → (Fr [] [502, 503] S L11) → (0 ≤ y.toInt ∧ y.toInt ≤ 4) → (DR f n (sI S h 2).toInt (sI L11 h 2).toInt z.toInt) → ((sI L11 h 2).toInt = (sI S h 2).toInt + y.toInt) → ((sI L11 h 3).toInt = 0) → (4 - y.toInt).toNat < zn → PW D cy A L11 H → va_S A s.heap H locs → lv_has ls 6 [(0, .ref h), (1, .int a), (2, .int b), (3, .int z), (4, .int (sI S h 2)), (5, .int y)] → W p l e ({ frames := 2, cells := 0, slots := 0, locals := 41 } : Room) s m args below meth c H locs 0 0 (MQ below (va_Qi (fun r S1 => G S1 ∧ Fr [] [502, 503] S S1 ∧ (NR f n a.toInt b.toInt ((sI S h 2).toInt) r.toInt (sI S1 h 2).toInt (sI S1 h 3).toInt)) (PU D cy A) A) args s 0 0 A) (F0 m 11 ls []) := by
    intro zn
    induction zn with
    | zero => intros; exact absurd (by assumption) (Nat.not_lt_zero _)
    | succ zn ih11 =>
      intro z y L11 H locs ls hG hL11 hy hDR hpy hf0 hme11 hW hS hl
      have hF := hL11
      have lk1 : (sI L11 h 1).toInt = (sI S h 1).toInt := by rw [hF.i hk (by decide) (by decide)]
      have hzb := hDR.b4 (by omega)
      refine lv_iload hx hb dX5_readNumber_11 (lv_at hl 5 rfl) ?_
      refine lv_iconst (v := 4) hx hb dX5_readNumber_13 (by decide) ?_
      refine lv_icmp_ge (tgt := 53) hx hb dX5_readNumber_14 (by decide) (fun c2 => ?_) (fun c2 => ?_)
      · have c2i : (4 : Int) ≤ Int32.toInt y := (i3_le _ _).mp c2
        refine lv_aload_n hx hb dX5_readNumber_53 rfl (lv_at hl 0 rfl) ?_
        refine pg_gi (ci := 5) (C := RX5) (T := TX5) (N := 4) hx hb hts wi5 hown hK hW (hF.k hk (by decide)) (by decide) rfl 2 (by decide) (hts (.fieldLink RX5 19 "IceHall$RightsReader" "place" "I") (by decide +kernel)) (fun _ h9 => h9) rfl dX5_readNumber_54 ?_
        rw [show sI L11 h 2 = sI L11 h 2 from rfl]
        refine lv_iload hx hb dX5_readNumber_57 (lv_at hl 4 rfl) ?_
        refine lv_icmp_eq (tgt := 69) hx hb dX5_readNumber_59 (by decide) (fun c3 => ?_) (fun c3 => ?_)
        · have c3i : Int32.toInt (sI L11 h 2) = Int32.toInt (sI S h 2) := (i3_eq _ _).mp c3
          refine lv_aload_n hx hb dX5_readNumber_69 rfl (lv_at hl 0 rfl) ?_
          refine lv_iconst (v := 1) hx hb dX5_readNumber_70 (by decide) ?_
          refine lv_aload_n hx hb dX5_readNumber_71 rfl (lv_at hl 0 rfl) ?_
          refine pg_gi (ci := 5) (C := RX5) (T := TX5) (N := 4) hx hb hts wi5 hown hK hW (hF.k hk (by decide)) (by decide) rfl 2 (by decide) (hts (.fieldLink RX5 19 "IceHall$RightsReader" "place" "I") (by decide +kernel)) (fun _ h9 => h9) rfl dX5_readNumber_72 ?_
          rw [show sI L11 h 2 = sI L11 h 2 from rfl]
          have lk4 : (sI L11 h 1).toInt = (sI S h 1).toInt := by rw [hF.i hk (by decide) (by decide)]
          refine pc_Vv (As := [.int 1, .int (sI L11 h 2)]) (rest := []) F (b_X5_fail l D cy A L11 h 1 (sI L11 h 2) hG (hF.k hk (by decide)) (by omega) (by omega) (by omega) (by omega)) (cwV 2 hts gX5_readNumber_X5_fail rfl rfl rfl (by decide +kernel) ⟨Nat.le_of_ble_eq_true rfl, Nat.le_of_ble_eq_true rfl⟩) hK hZ hA hW hS (hF.k hk (by decide)) (by decide) rfl rfl hl.1 rfl (Nat.le_of_ble_eq_true rfl) dX5_readNumber_75 ⟨Nat.le_of_ble_eq_true rfl, Nat.le_of_ble_eq_true rfl⟩ (fun T6 H locs p7 hW hS => ?_)
          obtain ⟨hG, hFc, p7⟩ := p7
          have w8 : sI T6 h 2 = sI L11 h 2 := (hFc.i (hF.k hk (by decide)) (by decide) (by decide)).trans rfl
          have hF : Fr [] [502, 503] S T6 := hF.tr (hFc.mono (by decide))
          refine lv_goto (tgt := 98) hx hb dX5_readNumber_78 (by decide) ?_
          refine lv_iload_n hx hb dX5_readNumber_98 rfl (lv_at hl 3 rfl) ?_
          have lk9 : (sI T6 h 2).toInt = (sI L11 h 2).toInt := by rw [show sI T6 h 2 = sI L11 h 2 from w8]
          have lk10 : (sI T6 h 1).toInt = (sI S h 1).toInt := by rw [hF.i hk (by decide) (by decide)]
          exact pc_iret (v := z) (S := T6) hx hb hr hlk hK hZ hA hW hS (⟨hG, hF, NR.c (p := (sI L11 h 2).toInt) ⟨hDR, by omega, by omega⟩ rfl rfl rfl rfl (by omega) rfl⟩) dX5_readNumber_99
        · have c3i : ¬ (Int32.toInt (sI L11 h 2) = Int32.toInt (sI S h 2)) := fun h9 => c3 ((i3_eq _ _).mpr h9)
          refine lv_aload_n hx hb dX5_readNumber_62 rfl (lv_at hl 0 rfl) ?_
          have lk11 : (sI L11 h 1).toInt = (sI S h 1).toInt := by rw [hF.i hk (by decide) (by decide)]
          refine pc_Vi (As := []) (rest := []) F (b_X5_isDigit l D cy A L11 h t bt f n hG (hF.k hk (by decide)) (hF.r hk (by decide) hr0) (hF.k hkt (by decide)) (hF.r hkt (by decide) hr1) (hF.k hkb (by decide)) (hF.n hkb (by decide) hlb) (by omega) (by omega) (fun j hj => (hF.iA hkb (by decide) (by decide) (by decide)).trans (hf j hj)) (by omega) (by omega)) (cwV 0 hts gX5_readNumber_X5_isDigit rfl rfl rfl (by decide +kernel) ⟨Nat.le_of_ble_eq_true rfl, Nat.le_of_ble_eq_true rfl⟩) hK hZ hA hW hS (hF.k hk (by decide)) (by decide) rfl rfl hl.1 rfl (Nat.le_of_ble_eq_true rfl) dX5_readNumber_63 ⟨Nat.le_of_ble_eq_true rfl, Nat.le_of_ble_eq_true rfl⟩ (fun v12 T13 H locs p14 hW hS => ?_)
          obtain ⟨eT13, p14⟩ := p14
          rw [eT13] at hW
          clear eT13
          refine lv_if_eq (tgt := 81) hx hb dX5_readNumber_66 (by decide) (fun c15 => ?_) (fun c15 => ?_)
          · have c15i : Int32.toInt v12 = (0 : Int) := (i3_eq _ _).mp c15
            refine lv_iload_n hx hb dX5_readNumber_81 rfl (lv_at hl 3 rfl) ?_
            refine lv_iload_n hx hb dX5_readNumber_82 rfl (lv_at hl 1 rfl) ?_
            refine lv_icmp_lt (tgt := 91) hx hb dX5_readNumber_83 (by decide) (fun c16 => ?_) (fun c16 => ?_)
            · have c16i : Int32.toInt z < Int32.toInt a := (i3_lt _ _).mp c16
              refine lv_aload_n hx hb dX5_readNumber_91 rfl (lv_at hl 0 rfl) ?_
              refine lv_iconst (v := 2) hx hb dX5_readNumber_92 (by decide) ?_
              refine lv_iload hx hb dX5_readNumber_93 (lv_at hl 4 rfl) ?_
              have lk17 : (sI L11 h 1).toInt = (sI S h 1).toInt := by rw [hF.i hk (by decide) (by decide)]
              refine pc_Vv (As := [.int 2, .int (sI S h 2)]) (rest := []) F (b_X5_fail l D cy A L11 h 2 (sI S h 2) hG (hF.k hk (by decide)) (by omega) (by omega) (by omega) (by omega)) (cwV 2 hts gX5_readNumber_X5_fail rfl rfl rfl (by decide +kernel) ⟨Nat.le_of_ble_eq_true rfl, Nat.le_of_ble_eq_true rfl⟩) hK hZ hA hW hS (hF.k hk (by decide)) (by decide) rfl rfl hl.1 rfl (Nat.le_of_ble_eq_true rfl) dX5_readNumber_95 ⟨Nat.le_of_ble_eq_true rfl, Nat.le_of_ble_eq_true rfl⟩ (fun T19 H locs p20 hW hS => ?_)
              obtain ⟨hG, hFc, p20⟩ := p20
              have w21 : sI T19 h 2 = sI L11 h 2 := (hFc.i (hF.k hk (by decide)) (by decide) (by decide)).trans rfl
              have hF : Fr [] [502, 503] S T19 := hF.tr (hFc.mono (by decide))
              refine lv_iload_n hx hb dX5_readNumber_98 rfl (lv_at hl 3 rfl) ?_
              have lk22 : (sI T19 h 2).toInt = (sI L11 h 2).toInt := by rw [show sI T19 h 2 = sI L11 h 2 from w21]
              have lk23 : (sI T19 h 1).toInt = (sI S h 1).toInt := by rw [hF.i hk (by decide) (by decide)]
              exact pc_iret (v := z) (S := T19) hx hb hr hlk hK hZ hA hW hS (⟨hG, hF, NR.c (p := (sI L11 h 2).toInt) ⟨hDR, by omega, by omega⟩ rfl rfl rfl rfl (by omega) rfl⟩) dX5_readNumber_99
            · have c16i : ¬ (Int32.toInt z < Int32.toInt a) := fun h9 => c16 ((i3_lt _ _).mpr h9)
              refine lv_iload_n hx hb dX5_readNumber_86 rfl (lv_at hl 3 rfl) ?_
              refine lv_iload_n hx hb dX5_readNumber_87 rfl (lv_at hl 2 rfl) ?_
              refine lv_icmp_le (tgt := 98) hx hb dX5_readNumber_88 (by decide) (fun c24 => ?_) (fun c24 => ?_)
              · have c24i : Int32.toInt z ≤ Int32.toInt b := (i3_le _ _).mp c24
                refine lv_iload_n hx hb dX5_readNumber_98 rfl (lv_at hl 3 rfl) ?_
                have lk25 : (sI L11 h 1).toInt = (sI S h 1).toInt := by rw [hF.i hk (by decide) (by decide)]
                exact pc_iret (v := z) (S := L11) hx hb hr hlk hK hZ hA hW hS (⟨hG, hF, NR.c (p := (sI L11 h 2).toInt) ⟨hDR, by omega, by omega⟩ rfl rfl rfl rfl (by omega) rfl⟩) dX5_readNumber_99
              · have c24i : ¬ (Int32.toInt z ≤ Int32.toInt b) := fun h9 => c24 ((i3_le _ _).mpr h9)
                refine lv_aload_n hx hb dX5_readNumber_91 rfl (lv_at hl 0 rfl) ?_
                refine lv_iconst (v := 2) hx hb dX5_readNumber_92 (by decide) ?_
                refine lv_iload hx hb dX5_readNumber_93 (lv_at hl 4 rfl) ?_
                have lk26 : (sI L11 h 1).toInt = (sI S h 1).toInt := by rw [hF.i hk (by decide) (by decide)]
                refine pc_Vv (As := [.int 2, .int (sI S h 2)]) (rest := []) F (b_X5_fail l D cy A L11 h 2 (sI S h 2) hG (hF.k hk (by decide)) (by omega) (by omega) (by omega) (by omega)) (cwV 2 hts gX5_readNumber_X5_fail rfl rfl rfl (by decide +kernel) ⟨Nat.le_of_ble_eq_true rfl, Nat.le_of_ble_eq_true rfl⟩) hK hZ hA hW hS (hF.k hk (by decide)) (by decide) rfl rfl hl.1 rfl (Nat.le_of_ble_eq_true rfl) dX5_readNumber_95 ⟨Nat.le_of_ble_eq_true rfl, Nat.le_of_ble_eq_true rfl⟩ (fun T28 H locs p29 hW hS => ?_)
                obtain ⟨hG, hFc, p29⟩ := p29
                have w30 : sI T28 h 2 = sI L11 h 2 := (hFc.i (hF.k hk (by decide)) (by decide) (by decide)).trans rfl
                have hF : Fr [] [502, 503] S T28 := hF.tr (hFc.mono (by decide))
                refine lv_iload_n hx hb dX5_readNumber_98 rfl (lv_at hl 3 rfl) ?_
                have lk31 : (sI T28 h 2).toInt = (sI L11 h 2).toInt := by rw [show sI T28 h 2 = sI L11 h 2 from w30]
                have lk32 : (sI T28 h 1).toInt = (sI S h 1).toInt := by rw [hF.i hk (by decide) (by decide)]
                exact pc_iret (v := z) (S := T28) hx hb hr hlk hK hZ hA hW hS (⟨hG, hF, NR.c (p := (sI L11 h 2).toInt) ⟨hDR, by omega, by omega⟩ rfl rfl rfl rfl (by omega) rfl⟩) dX5_readNumber_99
          · have c15i : ¬ (Int32.toInt v12 = (0 : Int)) := fun h9 => c15 ((i3_eq _ _).mpr h9)
            refine lv_aload_n hx hb dX5_readNumber_69 rfl (lv_at hl 0 rfl) ?_
            refine lv_iconst (v := 1) hx hb dX5_readNumber_70 (by decide) ?_
            refine lv_aload_n hx hb dX5_readNumber_71 rfl (lv_at hl 0 rfl) ?_
            refine pg_gi (ci := 5) (C := RX5) (T := TX5) (N := 4) hx hb hts wi5 hown hK hW (hF.k hk (by decide)) (by decide) rfl 2 (by decide) (hts (.fieldLink RX5 19 "IceHall$RightsReader" "place" "I") (by decide +kernel)) (fun _ h9 => h9) rfl dX5_readNumber_72 ?_
            rw [show sI L11 h 2 = sI L11 h 2 from rfl]
            have lk33 : (sI L11 h 1).toInt = (sI S h 1).toInt := by rw [hF.i hk (by decide) (by decide)]
            refine pc_Vv (As := [.int 1, .int (sI L11 h 2)]) (rest := []) F (b_X5_fail l D cy A L11 h 1 (sI L11 h 2) hG (hF.k hk (by decide)) (by omega) (by omega) (by omega) (by omega)) (cwV 2 hts gX5_readNumber_X5_fail rfl rfl rfl (by decide +kernel) ⟨Nat.le_of_ble_eq_true rfl, Nat.le_of_ble_eq_true rfl⟩) hK hZ hA hW hS (hF.k hk (by decide)) (by decide) rfl rfl hl.1 rfl (Nat.le_of_ble_eq_true rfl) dX5_readNumber_75 ⟨Nat.le_of_ble_eq_true rfl, Nat.le_of_ble_eq_true rfl⟩ (fun T35 H locs p36 hW hS => ?_)
            obtain ⟨hG, hFc, p36⟩ := p36
            have w37 : sI T35 h 2 = sI L11 h 2 := (hFc.i (hF.k hk (by decide)) (by decide) (by decide)).trans rfl
            have hF : Fr [] [502, 503] S T35 := hF.tr (hFc.mono (by decide))
            refine lv_goto (tgt := 98) hx hb dX5_readNumber_78 (by decide) ?_
            refine lv_iload_n hx hb dX5_readNumber_98 rfl (lv_at hl 3 rfl) ?_
            have lk38 : (sI T35 h 2).toInt = (sI L11 h 2).toInt := by rw [show sI T35 h 2 = sI L11 h 2 from w37]
            have lk39 : (sI T35 h 1).toInt = (sI S h 1).toInt := by rw [hF.i hk (by decide) (by decide)]
            exact pc_iret (v := z) (S := T35) hx hb hr hlk hK hZ hA hW hS (⟨hG, hF, NR.c (p := (sI L11 h 2).toInt) ⟨hDR, by omega, by omega⟩ rfl rfl rfl rfl (by omega) rfl⟩) dX5_readNumber_99
      · have c2i : ¬ ((4 : Int) ≤ Int32.toInt y) := fun h9 => c2 ((i3_le _ _).mpr h9)
        refine lv_aload_n hx hb dX5_readNumber_17 rfl (lv_at hl 0 rfl) ?_
        have lk40 : (sI L11 h 1).toInt = (sI S h 1).toInt := by rw [hF.i hk (by decide) (by decide)]
        refine pc_Vi (As := []) (rest := []) F (b_X5_isDigit l D cy A L11 h t bt f n hG (hF.k hk (by decide)) (hF.r hk (by decide) hr0) (hF.k hkt (by decide)) (hF.r hkt (by decide) hr1) (hF.k hkb (by decide)) (hF.n hkb (by decide) hlb) (by omega) (by omega) (fun j hj => (hF.iA hkb (by decide) (by decide) (by decide)).trans (hf j hj)) (by omega) (by omega)) (cwV 0 hts gX5_readNumber_X5_isDigit rfl rfl rfl (by decide +kernel) ⟨Nat.le_of_ble_eq_true rfl, Nat.le_of_ble_eq_true rfl⟩) hK hZ hA hW hS (hF.k hk (by decide)) (by decide) rfl rfl hl.1 rfl (Nat.le_of_ble_eq_true rfl) dX5_readNumber_18 ⟨Nat.le_of_ble_eq_true rfl, Nat.le_of_ble_eq_true rfl⟩ (fun v41 T42 H locs p43 hW hS => ?_)
        obtain ⟨eT42, p43⟩ := p43
        rw [eT42] at hW
        clear eT42
        refine lv_if_eq (tgt := 53) hx hb dX5_readNumber_21 (by decide) (fun c44 => ?_) (fun c44 => ?_)
        · have c44i : Int32.toInt v41 = (0 : Int) := (i3_eq _ _).mp c44
          refine lv_aload_n hx hb dX5_readNumber_53 rfl (lv_at hl 0 rfl) ?_
          refine pg_gi (ci := 5) (C := RX5) (T := TX5) (N := 4) hx hb hts wi5 hown hK hW (hF.k hk (by decide)) (by decide) rfl 2 (by decide) (hts (.fieldLink RX5 19 "IceHall$RightsReader" "place" "I") (by decide +kernel)) (fun _ h9 => h9) rfl dX5_readNumber_54 ?_
          rw [show sI L11 h 2 = sI L11 h 2 from rfl]
          refine lv_iload hx hb dX5_readNumber_57 (lv_at hl 4 rfl) ?_
          refine lv_icmp_eq (tgt := 69) hx hb dX5_readNumber_59 (by decide) (fun c45 => ?_) (fun c45 => ?_)
          · have c45i : Int32.toInt (sI L11 h 2) = Int32.toInt (sI S h 2) := (i3_eq _ _).mp c45
            refine lv_aload_n hx hb dX5_readNumber_69 rfl (lv_at hl 0 rfl) ?_
            refine lv_iconst (v := 1) hx hb dX5_readNumber_70 (by decide) ?_
            refine lv_aload_n hx hb dX5_readNumber_71 rfl (lv_at hl 0 rfl) ?_
            refine pg_gi (ci := 5) (C := RX5) (T := TX5) (N := 4) hx hb hts wi5 hown hK hW (hF.k hk (by decide)) (by decide) rfl 2 (by decide) (hts (.fieldLink RX5 19 "IceHall$RightsReader" "place" "I") (by decide +kernel)) (fun _ h9 => h9) rfl dX5_readNumber_72 ?_
            rw [show sI L11 h 2 = sI L11 h 2 from rfl]
            have lk46 : (sI L11 h 1).toInt = (sI S h 1).toInt := by rw [hF.i hk (by decide) (by decide)]
            refine pc_Vv (As := [.int 1, .int (sI L11 h 2)]) (rest := []) F (b_X5_fail l D cy A L11 h 1 (sI L11 h 2) hG (hF.k hk (by decide)) (by omega) (by omega) (by omega) (by omega)) (cwV 2 hts gX5_readNumber_X5_fail rfl rfl rfl (by decide +kernel) ⟨Nat.le_of_ble_eq_true rfl, Nat.le_of_ble_eq_true rfl⟩) hK hZ hA hW hS (hF.k hk (by decide)) (by decide) rfl rfl hl.1 rfl (Nat.le_of_ble_eq_true rfl) dX5_readNumber_75 ⟨Nat.le_of_ble_eq_true rfl, Nat.le_of_ble_eq_true rfl⟩ (fun T48 H locs p49 hW hS => ?_)
            obtain ⟨hG, hFc, p49⟩ := p49
            have w50 : sI T48 h 2 = sI L11 h 2 := (hFc.i (hF.k hk (by decide)) (by decide) (by decide)).trans rfl
            have hF : Fr [] [502, 503] S T48 := hF.tr (hFc.mono (by decide))
            refine lv_goto (tgt := 98) hx hb dX5_readNumber_78 (by decide) ?_
            refine lv_iload_n hx hb dX5_readNumber_98 rfl (lv_at hl 3 rfl) ?_
            have lk51 : (sI T48 h 2).toInt = (sI L11 h 2).toInt := by rw [show sI T48 h 2 = sI L11 h 2 from w50]
            have lk52 : (sI T48 h 1).toInt = (sI S h 1).toInt := by rw [hF.i hk (by decide) (by decide)]
            exact pc_iret (v := z) (S := T48) hx hb hr hlk hK hZ hA hW hS (⟨hG, hF, NR.c (p := (sI L11 h 2).toInt) ⟨hDR, by omega, by omega⟩ rfl rfl rfl rfl (by omega) rfl⟩) dX5_readNumber_99
          · have c45i : ¬ (Int32.toInt (sI L11 h 2) = Int32.toInt (sI S h 2)) := fun h9 => c45 ((i3_eq _ _).mpr h9)
            refine lv_aload_n hx hb dX5_readNumber_62 rfl (lv_at hl 0 rfl) ?_
            have lk53 : (sI L11 h 1).toInt = (sI S h 1).toInt := by rw [hF.i hk (by decide) (by decide)]
            refine pc_Vi (As := []) (rest := []) F (b_X5_isDigit l D cy A L11 h t bt f n hG (hF.k hk (by decide)) (hF.r hk (by decide) hr0) (hF.k hkt (by decide)) (hF.r hkt (by decide) hr1) (hF.k hkb (by decide)) (hF.n hkb (by decide) hlb) (by omega) (by omega) (fun j hj => (hF.iA hkb (by decide) (by decide) (by decide)).trans (hf j hj)) (by omega) (by omega)) (cwV 0 hts gX5_readNumber_X5_isDigit rfl rfl rfl (by decide +kernel) ⟨Nat.le_of_ble_eq_true rfl, Nat.le_of_ble_eq_true rfl⟩) hK hZ hA hW hS (hF.k hk (by decide)) (by decide) rfl rfl hl.1 rfl (Nat.le_of_ble_eq_true rfl) dX5_readNumber_63 ⟨Nat.le_of_ble_eq_true rfl, Nat.le_of_ble_eq_true rfl⟩ (fun v54 T55 H locs p56 hW hS => ?_)
            obtain ⟨eT55, p56⟩ := p56
            rw [eT55] at hW
            clear eT55
            refine lv_if_eq (tgt := 81) hx hb dX5_readNumber_66 (by decide) (fun c57 => ?_) (fun c57 => ?_)
            · have c57i : Int32.toInt v54 = (0 : Int) := (i3_eq _ _).mp c57
              refine lv_iload_n hx hb dX5_readNumber_81 rfl (lv_at hl 3 rfl) ?_
              refine lv_iload_n hx hb dX5_readNumber_82 rfl (lv_at hl 1 rfl) ?_
              refine lv_icmp_lt (tgt := 91) hx hb dX5_readNumber_83 (by decide) (fun c58 => ?_) (fun c58 => ?_)
              · have c58i : Int32.toInt z < Int32.toInt a := (i3_lt _ _).mp c58
                refine lv_aload_n hx hb dX5_readNumber_91 rfl (lv_at hl 0 rfl) ?_
                refine lv_iconst (v := 2) hx hb dX5_readNumber_92 (by decide) ?_
                refine lv_iload hx hb dX5_readNumber_93 (lv_at hl 4 rfl) ?_
                have lk59 : (sI L11 h 1).toInt = (sI S h 1).toInt := by rw [hF.i hk (by decide) (by decide)]
                refine pc_Vv (As := [.int 2, .int (sI S h 2)]) (rest := []) F (b_X5_fail l D cy A L11 h 2 (sI S h 2) hG (hF.k hk (by decide)) (by omega) (by omega) (by omega) (by omega)) (cwV 2 hts gX5_readNumber_X5_fail rfl rfl rfl (by decide +kernel) ⟨Nat.le_of_ble_eq_true rfl, Nat.le_of_ble_eq_true rfl⟩) hK hZ hA hW hS (hF.k hk (by decide)) (by decide) rfl rfl hl.1 rfl (Nat.le_of_ble_eq_true rfl) dX5_readNumber_95 ⟨Nat.le_of_ble_eq_true rfl, Nat.le_of_ble_eq_true rfl⟩ (fun T61 H locs p62 hW hS => ?_)
                obtain ⟨hG, hFc, p62⟩ := p62
                have w63 : sI T61 h 2 = sI L11 h 2 := (hFc.i (hF.k hk (by decide)) (by decide) (by decide)).trans rfl
                have hF : Fr [] [502, 503] S T61 := hF.tr (hFc.mono (by decide))
                refine lv_iload_n hx hb dX5_readNumber_98 rfl (lv_at hl 3 rfl) ?_
                have lk64 : (sI T61 h 2).toInt = (sI L11 h 2).toInt := by rw [show sI T61 h 2 = sI L11 h 2 from w63]
                have lk65 : (sI T61 h 1).toInt = (sI S h 1).toInt := by rw [hF.i hk (by decide) (by decide)]
                exact pc_iret (v := z) (S := T61) hx hb hr hlk hK hZ hA hW hS (⟨hG, hF, NR.c (p := (sI L11 h 2).toInt) ⟨hDR, by omega, by omega⟩ rfl rfl rfl rfl (by omega) rfl⟩) dX5_readNumber_99
              · have c58i : ¬ (Int32.toInt z < Int32.toInt a) := fun h9 => c58 ((i3_lt _ _).mpr h9)
                refine lv_iload_n hx hb dX5_readNumber_86 rfl (lv_at hl 3 rfl) ?_
                refine lv_iload_n hx hb dX5_readNumber_87 rfl (lv_at hl 2 rfl) ?_
                refine lv_icmp_le (tgt := 98) hx hb dX5_readNumber_88 (by decide) (fun c66 => ?_) (fun c66 => ?_)
                · have c66i : Int32.toInt z ≤ Int32.toInt b := (i3_le _ _).mp c66
                  refine lv_iload_n hx hb dX5_readNumber_98 rfl (lv_at hl 3 rfl) ?_
                  have lk67 : (sI L11 h 1).toInt = (sI S h 1).toInt := by rw [hF.i hk (by decide) (by decide)]
                  exact pc_iret (v := z) (S := L11) hx hb hr hlk hK hZ hA hW hS (⟨hG, hF, NR.c (p := (sI L11 h 2).toInt) ⟨hDR, by omega, by omega⟩ rfl rfl rfl rfl (by omega) rfl⟩) dX5_readNumber_99
                · have c66i : ¬ (Int32.toInt z ≤ Int32.toInt b) := fun h9 => c66 ((i3_le _ _).mpr h9)
                  refine lv_aload_n hx hb dX5_readNumber_91 rfl (lv_at hl 0 rfl) ?_
                  refine lv_iconst (v := 2) hx hb dX5_readNumber_92 (by decide) ?_
                  refine lv_iload hx hb dX5_readNumber_93 (lv_at hl 4 rfl) ?_
                  have lk68 : (sI L11 h 1).toInt = (sI S h 1).toInt := by rw [hF.i hk (by decide) (by decide)]
                  refine pc_Vv (As := [.int 2, .int (sI S h 2)]) (rest := []) F (b_X5_fail l D cy A L11 h 2 (sI S h 2) hG (hF.k hk (by decide)) (by omega) (by omega) (by omega) (by omega)) (cwV 2 hts gX5_readNumber_X5_fail rfl rfl rfl (by decide +kernel) ⟨Nat.le_of_ble_eq_true rfl, Nat.le_of_ble_eq_true rfl⟩) hK hZ hA hW hS (hF.k hk (by decide)) (by decide) rfl rfl hl.1 rfl (Nat.le_of_ble_eq_true rfl) dX5_readNumber_95 ⟨Nat.le_of_ble_eq_true rfl, Nat.le_of_ble_eq_true rfl⟩ (fun T70 H locs p71 hW hS => ?_)
                  obtain ⟨hG, hFc, p71⟩ := p71
                  have w72 : sI T70 h 2 = sI L11 h 2 := (hFc.i (hF.k hk (by decide)) (by decide) (by decide)).trans rfl
                  have hF : Fr [] [502, 503] S T70 := hF.tr (hFc.mono (by decide))
                  refine lv_iload_n hx hb dX5_readNumber_98 rfl (lv_at hl 3 rfl) ?_
                  have lk73 : (sI T70 h 2).toInt = (sI L11 h 2).toInt := by rw [show sI T70 h 2 = sI L11 h 2 from w72]
                  have lk74 : (sI T70 h 1).toInt = (sI S h 1).toInt := by rw [hF.i hk (by decide) (by decide)]
                  exact pc_iret (v := z) (S := T70) hx hb hr hlk hK hZ hA hW hS (⟨hG, hF, NR.c (p := (sI L11 h 2).toInt) ⟨hDR, by omega, by omega⟩ rfl rfl rfl rfl (by omega) rfl⟩) dX5_readNumber_99
            · have c57i : ¬ (Int32.toInt v54 = (0 : Int)) := fun h9 => c57 ((i3_eq _ _).mpr h9)
              refine lv_aload_n hx hb dX5_readNumber_69 rfl (lv_at hl 0 rfl) ?_
              refine lv_iconst (v := 1) hx hb dX5_readNumber_70 (by decide) ?_
              refine lv_aload_n hx hb dX5_readNumber_71 rfl (lv_at hl 0 rfl) ?_
              refine pg_gi (ci := 5) (C := RX5) (T := TX5) (N := 4) hx hb hts wi5 hown hK hW (hF.k hk (by decide)) (by decide) rfl 2 (by decide) (hts (.fieldLink RX5 19 "IceHall$RightsReader" "place" "I") (by decide +kernel)) (fun _ h9 => h9) rfl dX5_readNumber_72 ?_
              rw [show sI L11 h 2 = sI L11 h 2 from rfl]
              have lk75 : (sI L11 h 1).toInt = (sI S h 1).toInt := by rw [hF.i hk (by decide) (by decide)]
              refine pc_Vv (As := [.int 1, .int (sI L11 h 2)]) (rest := []) F (b_X5_fail l D cy A L11 h 1 (sI L11 h 2) hG (hF.k hk (by decide)) (by omega) (by omega) (by omega) (by omega)) (cwV 2 hts gX5_readNumber_X5_fail rfl rfl rfl (by decide +kernel) ⟨Nat.le_of_ble_eq_true rfl, Nat.le_of_ble_eq_true rfl⟩) hK hZ hA hW hS (hF.k hk (by decide)) (by decide) rfl rfl hl.1 rfl (Nat.le_of_ble_eq_true rfl) dX5_readNumber_75 ⟨Nat.le_of_ble_eq_true rfl, Nat.le_of_ble_eq_true rfl⟩ (fun T77 H locs p78 hW hS => ?_)
              obtain ⟨hG, hFc, p78⟩ := p78
              have w79 : sI T77 h 2 = sI L11 h 2 := (hFc.i (hF.k hk (by decide)) (by decide) (by decide)).trans rfl
              have hF : Fr [] [502, 503] S T77 := hF.tr (hFc.mono (by decide))
              refine lv_goto (tgt := 98) hx hb dX5_readNumber_78 (by decide) ?_
              refine lv_iload_n hx hb dX5_readNumber_98 rfl (lv_at hl 3 rfl) ?_
              have lk80 : (sI T77 h 2).toInt = (sI L11 h 2).toInt := by rw [show sI T77 h 2 = sI L11 h 2 from w79]
              have lk81 : (sI T77 h 1).toInt = (sI S h 1).toInt := by rw [hF.i hk (by decide) (by decide)]
              exact pc_iret (v := z) (S := T77) hx hb hr hlk hK hZ hA hW hS (⟨hG, hF, NR.c (p := (sI L11 h 2).toInt) ⟨hDR, by omega, by omega⟩ rfl rfl rfl rfl (by omega) rfl⟩) dX5_readNumber_99
        · have c44i : ¬ (Int32.toInt v41 = (0 : Int)) := fun h9 => c44 ((i3_eq _ _).mpr h9)
          refine lv_iload_n hx hb dX5_readNumber_24 rfl (lv_at hl 3 rfl) ?_
          refine lv_bipush (v := 10) hx hb dX5_readNumber_25 (by decide) ?_
          refine lv_imul hx hb dX5_readNumber_27 ?_
          have l82 : (z * 10).toInt = Int32.toInt z * (10 : Int) := i3_mul rfl rfl (by omega) (by omega)
          refine lv_aload_n hx hb dX5_readNumber_28 rfl (lv_at hl 0 rfl) ?_
          have lk83 : (sI L11 h 1).toInt = (sI S h 1).toInt := by rw [hF.i hk (by decide) (by decide)]
          refine pc_Vi (As := []) (rest := [.int (z * 10)]) F (b_X5_peek l D cy A L11 h t bt f n hG (hF.k hk (by decide)) (hF.r hk (by decide) hr0) (hF.k hkt (by decide)) (hF.r hkt (by decide) hr1) (hF.k hkb (by decide)) (hF.n hkb (by decide) hlb) (by omega) (by omega) (fun j hj => (hF.iA hkb (by decide) (by decide) (by decide)).trans (hf j hj)) (by omega) (by omega)) (cwV 0 hts gX5_readNumber_X5_peek rfl rfl rfl (by decide +kernel) ⟨Nat.le_of_ble_eq_true rfl, Nat.le_of_ble_eq_true rfl⟩) hK hZ hA hW hS (hF.k hk (by decide)) (by decide) rfl rfl hl.1 rfl (Nat.le_of_ble_eq_true rfl) dX5_readNumber_29 ⟨Nat.le_of_ble_eq_true rfl, Nat.le_of_ble_eq_true rfl⟩ (fun v84 T85 H locs p86 hW hS => ?_)
          obtain ⟨eT85, p86⟩ := p86
          rw [eT85] at hW
          clear eT85
          refine lv_iadd hx hb dX5_readNumber_32 ?_
          have l87 : ((z * 10) + v84).toInt = Int32.toInt (z * 10) + Int32.toInt v84 := i3_add rfl rfl (by omega) (by omega)
          refine lv_bipush (v := 48) hx hb dX5_readNumber_33 (by decide) ?_
          refine lv_isub hx hb dX5_readNumber_35 ?_
          have l88 : (((z * 10) + v84) - 48).toInt = Int32.toInt ((z * 10) + v84) - (48 : Int) := i3_sub rfl rfl (by omega) (by omega)
          refine lv_istore_n (lv' := [(3, .int (((z * 10) + v84) - 48)), (0, .ref h), (1, .int a), (2, .int b), (4, .int (sI S h 2)), (5, .int y)]) hx hb dX5_readNumber_36 rfl hl (by decide) rfl (fun ls hl => ?_)
          refine lv_aload_n hx hb dX5_readNumber_37 rfl (lv_at hl 1 rfl) ?_
          refine lv_dup hx hb dX5_readNumber_38 rfl ?_
          refine pg_gi (ci := 5) (C := RX5) (T := TX5) (N := 4) hx hb hts wi5 hown hK hW (hF.k hk (by decide)) (by decide) rfl 2 (by decide) (hts (.fieldLink RX5 19 "IceHall$RightsReader" "place" "I") (by decide +kernel)) (fun _ h9 => h9) rfl dX5_readNumber_39 ?_
          rw [show sI L11 h 2 = sI L11 h 2 from rfl]
          refine lv_iconst (v := 1) hx hb dX5_readNumber_42 (by decide) ?_
          refine lv_iadd hx hb dX5_readNumber_43 ?_
          have l89 : ((sI L11 h 2) + 1).toInt = Int32.toInt (sI L11 h 2) + (1 : Int) := i3_add rfl rfl (by omega) (by omega)
          refine pg_pi (ci := 5) (C := RX5) (T := TX5) (N := 4) hx hb hts wi5 tyX5 tyX5_ok nmX5 hown hK hW hS (hF.k hk (by decide)) (by decide) rfl 2 (by decide) (hts (.fieldLink RX5 19 "IceHall$RightsReader" "place" "I") (by decide +kernel)) (fun _ h9 => h9) rfl rfl rfl dX5_readNumber_44 (fun H locs hW hS => ?_)
          have kq90 : sK L11 h = 5 := (hF.k hk (by decide))
          obtain ⟨S91, eS91⟩ : ∃ T : St, T = stI L11 h 2 ((sI L11 h 2) + 1) := ⟨_, rfl⟩
          rw [← eS91] at hW
          have hG : G S91 := by rw [eS91]; exact hG.I kq90 (ok_fr (by decide))
          have w92 : sI S91 h 3 = sI L11 h 3 := by rw [eS91]; exact (iI_k (by decide)).trans rfl
          have hF : Fr [] [502, 503] S S91 := by rw [eS91]; exact hF.I kq90 (by decide)
          have w93 : sI S91 h 2 = (sI L11 h 2) + 1 := by rw [eS91]; exact iI_s
          clear eS91
          refine lv_iinc (v := y + 1) (lv' := [(5, .int (y + 1)), (3, .int (((z * 10) + v84) - 48)), (0, .ref h), (1, .int a), (2, .int b), (4, .int (sI S h 2))]) hx hb dX5_readNumber_47 hl (k := 5) rfl rfl (by decide) rfl (fun ls hl => ?_)
          have i94 : (y + 1).toInt = (y).toInt + 1 := i3_add rfl rfl (by omega) (by omega)
          refine lv_goto (tgt := 11) hx hb dX5_readNumber_50 (by decide) ?_
          have lk95 : (sI S91 h 2).toInt = ((sI L11 h 2) + 1).toInt := by rw [show sI S91 h 2 = (sI L11 h 2) + 1 from w93]
          have lk96 : (sI S91 h 3).toInt = (sI L11 h 3).toInt := by rw [show sI S91 h 3 = sI L11 h 3 from w92]
          have lk97 : (sI S91 h 1).toInt = (sI S h 1).toInt := by rw [hF.i hk (by decide) (by decide)]
          exact ih11 (((z * 10) + v84) - 48) (y + 1) S91 _ _ ls hG hF (by omega) (hDR.s (by omega) (by omega) (by omega)) (by omega) (by omega) (by omega) hW hS (lv_cast (lv_sub hl [2, 3, 4, 1, 5, 0] rfl) (rfl))
  exact loop11 _ 0 0 S _ _ ls hG hF (by decide) (DR.z rfl rfl) (by omega) (hft) (Nat.lt_succ_self _) hW hS (lv_cast (lv_sub hl [3, 4, 5, 2, 1, 0] rfl) (rfl))
set_option maxHeartbeats 4000000 in
set_option maxRecDepth 100000 in
theorem b_X5_readOn (l : Launch) (D : va_G) (cy : Nat → ClassId) (A : Nat → Prop) (S : St) (h t bt : Nat) (f : Nat → Int32) (n : Int) (hG0 : G S) (hk : sK S h = 5) (hr0 : sR S h 0 = some t) (hkt : sK S t = 7) (hr1 : sR S t 0 = some bt) (hkb : sK S bt = 10) (hlb : sL S bt = 80) (hn : (sI S h 1).toInt = n) (hn8 : n ≤ 80) (hf : ∀ j : Nat, (j : Int) < n → sI S bt j = f j) (hp0 : 0 ≤ (sI S h 2).toInt) (hp1 : (sI S h 2).toInt ≤ 90) (hft : (sI S h 3).toInt = 0) : MI l yX5_readOn wsX5_readOn ({ frames := 1, cells := 0, slots := 0, locals := 22 } : Room) 0 0 D cy A [.ref h] S (fun r S1 => G S1 ∧ Fr [] [502, 503] S S1 ∧ ((r.toInt = 0 ∧ n ≤ (sI S h 2).toInt ∧ (sI S1 h 3).toInt = 0) ∨ (r.toInt = 0 ∧ (sI S h 2).toInt < n ∧ ¬ ch f ((sI S h 2).toInt) = 59 ∧ (sI S1 h 3).toInt = 100 + (sI S h 2).toInt) ∨ (r.toInt = 1 ∧ (sI S h 2).toInt < n ∧ ch f ((sI S h 2).toInt) = 59 ∧ (sI S1 h 3).toInt = 0 ∧ (sI S1 h 2).toInt = (sI S h 2).toInt + 1))) := by
  refine mt_start (cc := cX5_readOn) (maxL := 2) (ret := (some .boolean)) (by decide) rfl (Nat.le_of_ble_eq_true rfl) ?_
  intro p e s m args below meth c hx hb hr hlk hml hown hnm hts hK hZ hA hW hS ls hl
  have hl : lv_has ls 2 [(0, .ref h)] := hl
  have hown : s.vm.findClass RX5 = some m.cls := hown
  have F : CallFix p m c cX5_readOn 2 s args wsX5_readOn RX5 := ⟨hx, hb, hml, hown, hts⟩
  have wi5 : ∀ w ∈ u_ws RX5 TX5 4, w ∈ wsX5_readOn := by decide +kernel
  have hG := hG0
  have hF : Fr [] [502, 503] S S := Fr.rf _ _ _
  have h0_ : (0 : Int32).toInt = 0 := rfl
  have h1_ : (1 : Int32).toInt = 1 := rfl
  have h2_ : (2 : Int32).toInt = 2 := rfl
  refine lv_aload_n hx hb dX5_readOn_0 rfl (lv_at hl 0 rfl) ?_
  refine pc_Vi (As := []) (rest := []) F (b_X5_peek l D cy A S h t bt f n hG hk hr0 hkt hr1 hkb hlb (by omega) (by omega) hf (by omega) (by omega)) (cwV 0 hts gX5_readOn_X5_peek rfl rfl rfl (by decide +kernel) ⟨Nat.le_of_ble_eq_true rfl, Nat.le_of_ble_eq_true rfl⟩) hK hZ hA hW hS hk (by decide) rfl rfl hl.1 rfl (Nat.le_of_ble_eq_true rfl) dX5_readOn_1 ⟨Nat.le_of_ble_eq_true rfl, Nat.le_of_ble_eq_true rfl⟩ (fun v1 T2 H locs p3 hW hS => ?_)
  obtain ⟨eT2, p3⟩ := p3
  rw [eT2] at hW
  clear eT2
  refine lv_istore_n (lv' := [(1, .int v1), (0, .ref h)]) hx hb dX5_readOn_4 rfl hl (by decide) rfl (fun ls hl => ?_)
  refine lv_iload_n hx hb dX5_readOn_5 rfl (lv_at hl 0 rfl) ?_
  refine lv_iconst (v := (-1)) hx hb dX5_readOn_6 (by decide) ?_
  refine lv_icmp_ne (tgt := 12) hx hb dX5_readOn_7 (by decide) (fun c4 => ?_) (fun c4 => ?_)
  · have c4i : ¬ (Int32.toInt v1 = (-1 : Int)) := fun h9 => c4 ((i3_eq _ _).mpr h9)
    refine lv_iload_n hx hb dX5_readOn_12 rfl (lv_at hl 0 rfl) ?_
    refine lv_bipush (v := 59) hx hb dX5_readOn_13 (by decide) ?_
    refine lv_icmp_eq (tgt := 29) hx hb dX5_readOn_15 (by decide) (fun c5 => ?_) (fun c5 => ?_)
    · have c5i : Int32.toInt v1 = (59 : Int) := (i3_eq _ _).mp c5
      refine lv_aload_n hx hb dX5_readOn_29 rfl (lv_at hl 1 rfl) ?_
      refine lv_dup hx hb dX5_readOn_30 rfl ?_
      refine pg_gi (ci := 5) (C := RX5) (T := TX5) (N := 4) hx hb hts wi5 hown hK hW hk (by decide) rfl 2 (by decide) (hts (.fieldLink RX5 19 "IceHall$RightsReader" "place" "I") (by decide +kernel)) (fun _ h9 => h9) rfl dX5_readOn_31 ?_
      rw [show sI S h 2 = sI S h 2 from rfl]
      refine lv_iconst (v := 1) hx hb dX5_readOn_34 (by decide) ?_
      refine lv_iadd hx hb dX5_readOn_35 ?_
      have l6 : ((sI S h 2) + 1).toInt = Int32.toInt (sI S h 2) + (1 : Int) := i3_add rfl rfl (by omega) (by omega)
      refine pg_pi (ci := 5) (C := RX5) (T := TX5) (N := 4) hx hb hts wi5 tyX5 tyX5_ok nmX5 hown hK hW hS hk (by decide) rfl 2 (by decide) (hts (.fieldLink RX5 19 "IceHall$RightsReader" "place" "I") (by decide +kernel)) (fun _ h9 => h9) rfl rfl rfl dX5_readOn_36 (fun H locs hW hS => ?_)
      obtain ⟨S7, eS7⟩ : ∃ T : St, T = stI S h 2 ((sI S h 2) + 1) := ⟨_, rfl⟩
      rw [← eS7] at hW
      have hG : G S7 := by rw [eS7]; exact hG.I hk (ok_fr (by decide))
      have w8 : sI S7 h 3 = sI S h 3 := by rw [eS7]; exact (iI_k (by decide)).trans rfl
      have hF : Fr [] [502, 503] S S7 := by rw [eS7]; exact hF.I hk (by decide)
      have w9 : sI S7 h 2 = (sI S h 2) + 1 := by rw [eS7]; exact iI_s
      clear eS7
      refine lv_iconst (v := 1) hx hb dX5_readOn_39 (by decide) ?_
      have lk10 : (sI S7 h 2).toInt = ((sI S h 2) + 1).toInt := by rw [show sI S7 h 2 = (sI S h 2) + 1 from w9]
      have lk11 : (sI S7 h 3).toInt = (sI S h 3).toInt := by rw [show sI S7 h 3 = sI S h 3 from w8]
      have lk12 : (sI S7 h 1).toInt = (sI S h 1).toInt := by rw [hF.i hk (by decide) (by decide)]
      exact pc_zret (v := 1) (S := S7) hx hb hr hlk hK hZ hA hW hS (by decide) (⟨hG, hF, by omega⟩) dX5_readOn_40
    · have c5i : ¬ (Int32.toInt v1 = (59 : Int)) := fun h9 => c5 ((i3_eq _ _).mpr h9)
      refine lv_aload_n hx hb dX5_readOn_18 rfl (lv_at hl 1 rfl) ?_
      refine lv_iconst (v := 1) hx hb dX5_readOn_19 (by decide) ?_
      refine lv_aload_n hx hb dX5_readOn_20 rfl (lv_at hl 1 rfl) ?_
      refine pg_gi (ci := 5) (C := RX5) (T := TX5) (N := 4) hx hb hts wi5 hown hK hW hk (by decide) rfl 2 (by decide) (hts (.fieldLink RX5 19 "IceHall$RightsReader" "place" "I") (by decide +kernel)) (fun _ h9 => h9) rfl dX5_readOn_21 ?_
      rw [show sI S h 2 = sI S h 2 from rfl]
      refine pc_Vv (As := [.int 1, .int (sI S h 2)]) (rest := []) F (b_X5_fail l D cy A S h 1 (sI S h 2) hG hk (by omega) (by omega) (by omega) (by omega)) (cwV 2 hts gX5_readOn_X5_fail rfl rfl rfl (by decide +kernel) ⟨Nat.le_of_ble_eq_true rfl, Nat.le_of_ble_eq_true rfl⟩) hK hZ hA hW hS hk (by decide) rfl rfl hl.1 rfl (Nat.le_of_ble_eq_true rfl) dX5_readOn_24 ⟨Nat.le_of_ble_eq_true rfl, Nat.le_of_ble_eq_true rfl⟩ (fun T14 H locs p15 hW hS => ?_)
      obtain ⟨hG, hFc, p15⟩ := p15
      have w16 : sI T14 h 2 = sI S h 2 := (hFc.i hk (by decide) (by decide)).trans rfl
      have hF : Fr [] [502, 503] S T14 := hF.tr (hFc.mono (by decide))
      refine lv_iconst (v := 0) hx hb dX5_readOn_27 (by decide) ?_
      have lk17 : (sI T14 h 2).toInt = (sI S h 2).toInt := by rw [show sI T14 h 2 = sI S h 2 from w16]
      have lk18 : (sI T14 h 1).toInt = (sI S h 1).toInt := by rw [hF.i hk (by decide) (by decide)]
      exact pc_zret (v := 0) (S := T14) hx hb hr hlk hK hZ hA hW hS (by decide) (⟨hG, hF, by omega⟩) dX5_readOn_28
  · have c4i : Int32.toInt v1 = (-1 : Int) := (i3_eq _ _).mp c4
    refine lv_iconst (v := 0) hx hb dX5_readOn_10 (by decide) ?_
    exact pc_zret (v := 0) (S := S) hx hb hr hlk hK hZ hA hW hS (by decide) (⟨hG, hF, by omega⟩) dX5_readOn_11
set_option maxHeartbeats 4000000 in
set_option maxRecDepth 100000 in
theorem b_X5_readWindow (l : Launch) (D : va_G) (cy : Nat → ClassId) (A : Nat → Prop) (S : St) (h t bt : Nat) (f : Nat → Int32) (n : Int) (hG0 : G S) (hk : sK S h = 5) (hr0 : sR S h 0 = some t) (hkt : sK S t = 7) (hr1 : sR S t 0 = some bt) (hkb : sK S bt = 10) (hlb : sL S bt = 80) (hn : (sI S h 1).toInt = n) (hn8 : n ≤ 80) (hf : ∀ j : Nat, (j : Int) < n → sI S bt j = f j) (hp0 : 0 ≤ (sI S h 2).toInt) (hp1 : (sI S h 2).toInt ≤ 85) (hft : (sI S h 3).toInt = 0) : MI l yX5_readWindow wsX5_readWindow ({ frames := 3, cells := 0, slots := 0, locals := 66 } : Room) 0 0 D cy A [.ref h] S (fun r S1 => G S1 ∧ Fr [] [502, 503] S S1 ∧ (WR f n ((sI S h 2).toInt) (sI S1 h 2).toInt (sI S1 h 3).toInt)) := by
  refine mt_start (cc := cX5_readWindow) (maxL := 3) (ret := (some .int)) (by decide) rfl (Nat.le_of_ble_eq_true rfl) ?_
  intro p e s m args below meth c hx hb hr hlk hml hown hnm hts hK hZ hA hW hS ls hl
  have hl : lv_has ls 3 [(0, .ref h)] := hl
  have hown : s.vm.findClass RX5 = some m.cls := hown
  have F : CallFix p m c cX5_readWindow 3 s args wsX5_readWindow RX5 := ⟨hx, hb, hml, hown, hts⟩
  have wi5 : ∀ w ∈ u_ws RX5 TX5 4, w ∈ wsX5_readWindow := by decide +kernel
  have hG := hG0
  have hF : Fr [] [502, 503] S S := Fr.rf _ _ _
  have h0_ : (0 : Int32).toInt = 0 := rfl
  have h1_ : (1 : Int32).toInt = 1 := rfl
  have h2_ : (2 : Int32).toInt = 2 := rfl
  refine lv_aload_n hx hb dX5_readWindow_0 rfl (lv_at hl 0 rfl) ?_
  refine lv_iconst (v := 0) hx hb dX5_readWindow_1 (by decide) ?_
  refine lv_bipush (v := 23) hx hb dX5_readWindow_2 (by decide) ?_
  refine pc_Vi (As := [.int 0, .int 23]) (rest := []) F (b_X5_readNumber l D cy A S h t bt f n 0 23 hG hk hr0 hkt hr1 hkb hlb (by omega) (by omega) hf (by omega) (by omega) (by omega)) (cwV 2 hts gX5_readWindow_X5_readNumber rfl rfl rfl (by decide +kernel) ⟨Nat.le_of_ble_eq_true rfl, Nat.le_of_ble_eq_true rfl⟩) hK hZ hA hW hS hk (by decide) rfl rfl hl.1 rfl (Nat.le_of_ble_eq_true rfl) dX5_readWindow_4 ⟨Nat.le_of_ble_eq_true rfl, Nat.le_of_ble_eq_true rfl⟩ (fun v1 T2 H locs p3 hW hS => ?_)
  obtain ⟨hG, hFc, p3⟩ := p3
  have hF : Fr [] [502, 503] S T2 := hF.tr (hFc.mono (by decide))
  have hN1 : NR f n 0 23 (sI S h 2).toInt (v1).toInt (sI T2 h 2).toInt (sI T2 h 3).toInt := p3.c rfl rfl rfl rfl rfl rfl
  have hN1v := hN1.v
  have hN1p := hN1.p
  refine lv_istore_n (lv' := [(1, .int v1), (0, .ref h)]) hx hb dX5_readWindow_7 rfl hl (by decide) rfl (fun ls hl => ?_)
  refine lv_aload_n hx hb dX5_readWindow_8 rfl (lv_at hl 1 rfl) ?_
  refine pg_gi (ci := 5) (C := RX5) (T := TX5) (N := 4) hx hb hts wi5 hown hK hW (hF.k hk (by decide)) (by decide) rfl 3 (by decide) (hts (.fieldLink RX5 22 "IceHall$RightsReader" "fault" "I") (by decide +kernel)) (fun _ h9 => h9) rfl dX5_readWindow_9 ?_
  rw [show sI T2 h 3 = sI T2 h 3 from rfl]
  refine lv_if_eq (tgt := 17) hx hb dX5_readWindow_12 (by decide) (fun c4 => ?_) (fun c4 => ?_)
  · have c4i : Int32.toInt (sI T2 h 3) = (0 : Int) := (i3_eq _ _).mp c4
    refine lv_aload_n hx hb dX5_readWindow_17 rfl (lv_at hl 1 rfl) ?_
    have lk5 : (sI T2 h 1).toInt = (sI S h 1).toInt := by rw [hF.i hk (by decide) (by decide)]
    refine pc_Vi (As := []) (rest := []) F (b_X5_peek l D cy A T2 h t bt f n hG (hF.k hk (by decide)) (hF.r hk (by decide) hr0) (hF.k hkt (by decide)) (hF.r hkt (by decide) hr1) (hF.k hkb (by decide)) (hF.n hkb (by decide) hlb) (by omega) (by omega) (fun j hj => (hF.iA hkb (by decide) (by decide) (by decide)).trans (hf j hj)) (by omega) (by omega)) (cwV 0 hts gX5_readWindow_X5_peek rfl rfl rfl (by decide +kernel) ⟨Nat.le_of_ble_eq_true rfl, Nat.le_of_ble_eq_true rfl⟩) hK hZ hA hW hS (hF.k hk (by decide)) (by decide) rfl rfl hl.1 rfl (Nat.le_of_ble_eq_true rfl) dX5_readWindow_18 ⟨Nat.le_of_ble_eq_true rfl, Nat.le_of_ble_eq_true rfl⟩ (fun v6 T7 H locs p8 hW hS => ?_)
    obtain ⟨eT7, p8⟩ := p8
    rw [eT7] at hW
    clear eT7
    refine lv_bipush (v := 45) hx hb dX5_readWindow_21 (by decide) ?_
    refine lv_icmp_eq (tgt := 37) hx hb dX5_readWindow_23 (by decide) (fun c9 => ?_) (fun c9 => ?_)
    · have c9i : Int32.toInt v6 = (45 : Int) := (i3_eq _ _).mp c9
      refine lv_aload_n hx hb dX5_readWindow_37 rfl (lv_at hl 1 rfl) ?_
      refine lv_dup hx hb dX5_readWindow_38 rfl ?_
      refine pg_gi (ci := 5) (C := RX5) (T := TX5) (N := 4) hx hb hts wi5 hown hK hW (hF.k hk (by decide)) (by decide) rfl 2 (by decide) (hts (.fieldLink RX5 19 "IceHall$RightsReader" "place" "I") (by decide +kernel)) (fun _ h9 => h9) rfl dX5_readWindow_39 ?_
      rw [show sI T2 h 2 = sI T2 h 2 from rfl]
      refine lv_iconst (v := 1) hx hb dX5_readWindow_42 (by decide) ?_
      refine lv_iadd hx hb dX5_readWindow_43 ?_
      have l10 : ((sI T2 h 2) + 1).toInt = Int32.toInt (sI T2 h 2) + (1 : Int) := i3_add rfl rfl (by omega) (by omega)
      refine pg_pi (ci := 5) (C := RX5) (T := TX5) (N := 4) hx hb hts wi5 tyX5 tyX5_ok nmX5 hown hK hW hS (hF.k hk (by decide)) (by decide) rfl 2 (by decide) (hts (.fieldLink RX5 19 "IceHall$RightsReader" "place" "I") (by decide +kernel)) (fun _ h9 => h9) rfl rfl rfl dX5_readWindow_44 (fun H locs hW hS => ?_)
      have kq11 : sK T2 h = 5 := (hF.k hk (by decide))
      obtain ⟨S12, eS12⟩ : ∃ T : St, T = stI T2 h 2 ((sI T2 h 2) + 1) := ⟨_, rfl⟩
      rw [← eS12] at hW
      have hG : G S12 := by rw [eS12]; exact hG.I kq11 (ok_fr (by decide))
      have w13 : sI S12 h 3 = sI T2 h 3 := by rw [eS12]; exact (iI_k (by decide)).trans rfl
      have hF : Fr [] [502, 503] S S12 := by rw [eS12]; exact hF.I kq11 (by decide)
      have w14 : sI S12 h 2 = (sI T2 h 2) + 1 := by rw [eS12]; exact iI_s
      clear eS12
      refine lv_aload_n hx hb dX5_readWindow_47 rfl (lv_at hl 1 rfl) ?_
      refine lv_iload_n hx hb dX5_readWindow_48 rfl (lv_at hl 0 rfl) ?_
      refine lv_iconst (v := 1) hx hb dX5_readWindow_49 (by decide) ?_
      refine lv_iadd hx hb dX5_readWindow_50 ?_
      have l15 : (v1 + 1).toInt = Int32.toInt v1 + (1 : Int) := i3_add rfl rfl (by omega) (by omega)
      refine lv_bipush (v := 24) hx hb dX5_readWindow_51 (by decide) ?_
      have lk16 : (sI S12 h 2).toInt = ((sI T2 h 2) + 1).toInt := by rw [show sI S12 h 2 = (sI T2 h 2) + 1 from w14]
      have lk17 : (sI S12 h 3).toInt = (sI T2 h 3).toInt := by rw [show sI S12 h 3 = sI T2 h 3 from w13]
      have lk18 : (sI S12 h 1).toInt = (sI S h 1).toInt := by rw [hF.i hk (by decide) (by decide)]
      refine pc_Vi (As := [.int (v1 + 1), .int 24]) (rest := []) F (b_X5_readNumber l D cy A S12 h t bt f n (v1 + 1) 24 hG (hF.k hk (by decide)) (hF.r hk (by decide) hr0) (hF.k hkt (by decide)) (hF.r hkt (by decide) hr1) (hF.k hkb (by decide)) (hF.n hkb (by decide) hlb) (by omega) (by omega) (fun j hj => (hF.iA hkb (by decide) (by decide) (by decide)).trans (hf j hj)) (by omega) (by omega) (by omega)) (cwV 2 hts gX5_readWindow_X5_readNumber rfl rfl rfl (by decide +kernel) ⟨Nat.le_of_ble_eq_true rfl, Nat.le_of_ble_eq_true rfl⟩) hK hZ hA hW hS (hF.k hk (by decide)) (by decide) rfl rfl hl.1 rfl (Nat.le_of_ble_eq_true rfl) dX5_readWindow_53 ⟨Nat.le_of_ble_eq_true rfl, Nat.le_of_ble_eq_true rfl⟩ (fun v19 T20 H locs p21 hW hS => ?_)
      obtain ⟨hG, hFc, p21⟩ := p21
      have hF : Fr [] [502, 503] S T20 := hF.tr (hFc.mono (by decide))
      have hN2 : NR f n ((v1).toInt + 1) 24 ((sI T2 h 2).toInt + 1) (v19).toInt (sI T20 h 2).toInt (sI T20 h 3).toInt := p21.c (by omega) rfl (by omega) rfl rfl rfl
      refine lv_istore_n (lv' := [(2, .int v19), (1, .int v1), (0, .ref h)]) hx hb dX5_readWindow_56 rfl hl (by decide) rfl (fun ls hl => ?_)
      refine lv_aload_n hx hb dX5_readWindow_57 rfl (lv_at hl 2 rfl) ?_
      refine pg_gi (ci := 5) (C := RX5) (T := TX5) (N := 4) hx hb hts wi5 hown hK hW (hF.k hk (by decide)) (by decide) rfl 3 (by decide) (hts (.fieldLink RX5 22 "IceHall$RightsReader" "fault" "I") (by decide +kernel)) (fun _ h9 => h9) rfl dX5_readWindow_58 ?_
      rw [show sI T20 h 3 = sI T20 h 3 from rfl]
      refine lv_if_ne (tgt := 74) hx hb dX5_readWindow_61 (by decide) (fun c22 => ?_) (fun c22 => ?_)
      · have c22i : ¬ (Int32.toInt (sI T20 h 3) = (0 : Int)) := fun h9 => c22 ((i3_eq _ _).mpr h9)
        refine lv_iconst (v := 0) hx hb dX5_readWindow_74 (by decide) ?_
        have lk23 : (sI T20 h 1).toInt = (sI S h 1).toInt := by rw [hF.i hk (by decide) (by decide)]
        exact pc_iret (v := 0) (S := T20) hx hb hr hlk hK hZ hA hW hS (⟨hG, hF, ⟨_, _, _, hN1, Or.inr (Or.inr ⟨by omega, by omega, _, hN2⟩)⟩⟩) dX5_readWindow_75
      · have c22i : Int32.toInt (sI T20 h 3) = (0 : Int) := (i3_eq _ _).mp c22
        refine lv_iconst (v := 1) hx hb dX5_readWindow_64 (by decide) ?_
        refine lv_iload_n hx hb dX5_readWindow_65 rfl (lv_at hl 0 rfl) ?_
        refine lv_ishl hx hb dX5_readWindow_66 ?_
        refine lv_iconst (v := 1) hx hb dX5_readWindow_67 (by decide) ?_
        refine lv_iload_n hx hb dX5_readWindow_68 rfl (lv_at hl 1 rfl) ?_
        refine lv_ishl hx hb dX5_readWindow_69 ?_
        refine lv_isub hx hb dX5_readWindow_70 ?_
        refine lv_goto (tgt := 75) hx hb dX5_readWindow_71 (by decide) ?_
        have lk24 : (sI T20 h 1).toInt = (sI S h 1).toInt := by rw [hF.i hk (by decide) (by decide)]
        exact pc_iret (v := (1 <<< (v19 &&& 31)) - (1 <<< (v1 &&& 31))) (S := T20) hx hb hr hlk hK hZ hA hW hS (⟨hG, hF, ⟨_, _, _, hN1, Or.inr (Or.inr ⟨by omega, by omega, _, hN2⟩)⟩⟩) dX5_readWindow_75
    · have c9i : ¬ (Int32.toInt v6 = (45 : Int)) := fun h9 => c9 ((i3_eq _ _).mpr h9)
      refine lv_aload_n hx hb dX5_readWindow_26 rfl (lv_at hl 1 rfl) ?_
      refine lv_iconst (v := 1) hx hb dX5_readWindow_27 (by decide) ?_
      refine lv_aload_n hx hb dX5_readWindow_28 rfl (lv_at hl 1 rfl) ?_
      refine pg_gi (ci := 5) (C := RX5) (T := TX5) (N := 4) hx hb hts wi5 hown hK hW (hF.k hk (by decide)) (by decide) rfl 2 (by decide) (hts (.fieldLink RX5 19 "IceHall$RightsReader" "place" "I") (by decide +kernel)) (fun _ h9 => h9) rfl dX5_readWindow_29 ?_
      rw [show sI T2 h 2 = sI T2 h 2 from rfl]
      have lk25 : (sI T2 h 1).toInt = (sI S h 1).toInt := by rw [hF.i hk (by decide) (by decide)]
      refine pc_Vv (As := [.int 1, .int (sI T2 h 2)]) (rest := []) F (b_X5_fail l D cy A T2 h 1 (sI T2 h 2) hG (hF.k hk (by decide)) (by omega) (by omega) (by omega) (by omega)) (cwV 2 hts gX5_readWindow_X5_fail rfl rfl rfl (by decide +kernel) ⟨Nat.le_of_ble_eq_true rfl, Nat.le_of_ble_eq_true rfl⟩) hK hZ hA hW hS (hF.k hk (by decide)) (by decide) rfl rfl hl.1 rfl (Nat.le_of_ble_eq_true rfl) dX5_readWindow_32 ⟨Nat.le_of_ble_eq_true rfl, Nat.le_of_ble_eq_true rfl⟩ (fun T27 H locs p28 hW hS => ?_)
      obtain ⟨hG, hFc, p28⟩ := p28
      have w29 : sI T27 h 2 = sI T2 h 2 := (hFc.i (hF.k hk (by decide)) (by decide) (by decide)).trans rfl
      have hF : Fr [] [502, 503] S T27 := hF.tr (hFc.mono (by decide))
      refine lv_iconst (v := 0) hx hb dX5_readWindow_35 (by decide) ?_
      have lk30 : (sI T27 h 2).toInt = (sI T2 h 2).toInt := by rw [show sI T27 h 2 = sI T2 h 2 from w29]
      have lk31 : (sI T27 h 1).toInt = (sI S h 1).toInt := by rw [hF.i hk (by decide) (by decide)]
      exact pc_iret (v := 0) (S := T27) hx hb hr hlk hK hZ hA hW hS (⟨hG, hF, ⟨_, _, _, hN1, Or.inr (Or.inl ⟨by omega, by omega, by omega, by omega⟩)⟩⟩) dX5_readWindow_36
  · have c4i : ¬ (Int32.toInt (sI T2 h 3) = (0 : Int)) := fun h9 => c4 ((i3_eq _ _).mpr h9)
    refine lv_iconst (v := 0) hx hb dX5_readWindow_15 (by decide) ?_
    have lk32 : (sI T2 h 1).toInt = (sI S h 1).toInt := by rw [hF.i hk (by decide) (by decide)]
    exact pc_iret (v := 0) (S := T2) hx hb hr hlk hK hZ hA hW hS (⟨hG, hF, ⟨_, _, _, hN1, Or.inl ⟨by omega, rfl, rfl⟩⟩⟩) dX5_readWindow_16
set_option maxHeartbeats 4000000 in
set_option maxRecDepth 100000 in
theorem b_X5_readClause (l : Launch) (D : va_G) (cy : Nat → ClassId) (A : Nat → Prop) (S : St) (h x t bt : Nat) (f : Nat → Int32) (n : Int) (hG0 : G S) (hk : sK S h = 5) (hkx : sK S x = 4) (hr0 : sR S h 0 = some t) (hkt : sK S t = 7) (hr1 : sR S t 0 = some bt) (hkb : sK S bt = 10) (hlb : sL S bt = 80) (hn : (sI S h 1).toInt = n) (hn8 : n ≤ 80) (hf : ∀ j : Nat, (j : Int) < n → sI S bt j = f j) (hp0 : 0 ≤ (sI S h 2).toInt) (hp1 : (sI S h 2).toInt ≤ 80) (hft : (sI S h 3).toInt = 0) : MI l yX5_readClause wsX5_readClause ({ frames := 4, cells := 0, slots := 0, locals := 88 } : Room) 0 0 D cy A [.ref h, .ref x] S (fun r S1 => G S1 ∧ Fr [] [401, 402, 403, 404, 405, 502, 503] S S1 ∧ (CR f n ((sI S h 2).toInt) (sI S1 h 2).toInt (sI S1 h 3).toInt)) := by
  refine mt_start (cc := cX5_readClause) (maxL := 3) (ret := (some .int)) (by decide) rfl (Nat.le_of_ble_eq_true rfl) ?_
  intro p e s m args below meth c hx hb hr hlk hml hown hnm hts hK hZ hA hW hS ls hl
  have hl : lv_has ls 3 [(0, .ref h), (1, .ref x)] := hl
  have hown : s.vm.findClass RX5 = some m.cls := hown
  have F : CallFix p m c cX5_readClause 3 s args wsX5_readClause RX5 := ⟨hx, hb, hml, hown, hts⟩
  have wi4 : ∀ w ∈ u_ws RX4 TX4 6, w ∈ wsX5_readClause := by decide +kernel
  have wi5 : ∀ w ∈ u_ws RX5 TX5 4, w ∈ wsX5_readClause := by decide +kernel
  have hG := hG0
  have hF : Fr [] [401, 402, 403, 404, 405, 502, 503] S S := Fr.rf _ _ _
  have h0_ : (0 : Int32).toInt = 0 := rfl
  have h1_ : (1 : Int32).toInt = 1 := rfl
  have h2_ : (2 : Int32).toInt = 2 := rfl
  have h3_ : (3 : Int32).toInt = 3 := rfl
  have h4_ : (4 : Int32).toInt = 4 := rfl
  have h6_ : (6 : Int32).toInt = 6 := rfl
  have h7_ : (7 : Int32).toInt = 7 := rfl
  have h100_ : (100 : Int32).toInt = 100 := rfl
  have h999_ : (999 : Int32).toInt = 999 := rfl
  have h9999_ : (9999 : Int32).toInt = 9999 := rfl
  refine lv_aload_n hx hb dX5_readClause_0 rfl (lv_at hl 0 rfl) ?_
  refine pc_Vi (As := []) (rest := []) F (b_X5_peek l D cy A S h t bt f n hG hk hr0 hkt hr1 hkb hlb (by omega) (by omega) hf (by omega) (by omega)) (cwV 0 hts gX5_readClause_X5_peek rfl rfl rfl (by decide +kernel) ⟨Nat.le_of_ble_eq_true rfl, Nat.le_of_ble_eq_true rfl⟩) hK hZ hA hW hS hk (by decide) rfl rfl hl.1 rfl (Nat.le_of_ble_eq_true rfl) dX5_readClause_1 ⟨Nat.le_of_ble_eq_true rfl, Nat.le_of_ble_eq_true rfl⟩ (fun v1 T2 H locs p3 hW hS => ?_)
  obtain ⟨eT2, p3⟩ := p3
  rw [eT2] at hW
  clear eT2
  refine lv_istore_n (lv' := [(2, .int v1), (0, .ref h), (1, .ref x)]) hx hb dX5_readClause_4 rfl hl (by decide) rfl (fun ls hl => ?_)
  refine lv_aload_n hx hb dX5_readClause_5 rfl (lv_at hl 1 rfl) ?_
  refine lv_dup hx hb dX5_readClause_6 rfl ?_
  refine pg_gi (ci := 5) (C := RX5) (T := TX5) (N := 4) hx hb hts wi5 hown hK hW hk (by decide) rfl 2 (by decide) (hts (.fieldLink RX5 19 "IceHall$RightsReader" "place" "I") (by decide +kernel)) (fun _ h9 => h9) rfl dX5_readClause_7 ?_
  rw [show sI S h 2 = sI S h 2 from rfl]
  refine lv_iconst (v := 1) hx hb dX5_readClause_10 (by decide) ?_
  refine lv_iadd hx hb dX5_readClause_11 ?_
  have l4 : ((sI S h 2) + 1).toInt = Int32.toInt (sI S h 2) + (1 : Int) := i3_add rfl rfl (by omega) (by omega)
  refine pg_pi (ci := 5) (C := RX5) (T := TX5) (N := 4) hx hb hts wi5 tyX5 tyX5_ok nmX5 hown hK hW hS hk (by decide) rfl 2 (by decide) (hts (.fieldLink RX5 19 "IceHall$RightsReader" "place" "I") (by decide +kernel)) (fun _ h9 => h9) rfl rfl rfl dX5_readClause_12 (fun H locs hW hS => ?_)
  obtain ⟨S5, eS5⟩ : ∃ T : St, T = stI S h 2 ((sI S h 2) + 1) := ⟨_, rfl⟩
  rw [← eS5] at hW
  have hG : G S5 := by rw [eS5]; exact hG.I hk (ok_fr (by decide))
  have w6 : sI S5 h 3 = sI S h 3 := by rw [eS5]; exact (iI_k (by decide)).trans rfl
  have hF : Fr [] [401, 402, 403, 404, 405, 502, 503] S S5 := by rw [eS5]; exact hF.I hk (by decide)
  have w7 : sI S5 h 2 = (sI S h 2) + 1 := by rw [eS5]; exact iI_s
  clear eS5
  refine lv_iload_n hx hb dX5_readClause_15 rfl (lv_at hl 0 rfl) ?_
  by_cases c8 : v1 = 99
  · refine lv_lookup (off := 119) (tgt := 135) hx hb dX5_readClause_16 (by decide) (by rw [c8]; decide) (by decide) ?_
    have c8i : Int32.toInt v1 = 99 := by rw [c8]; rfl
    refine lv_aload_n hx hb dX5_readClause_135 rfl (lv_at hl 2 rfl) ?_
    refine lv_aload_n hx hb dX5_readClause_136 rfl (lv_at hl 1 rfl) ?_
    refine lv_iconst (v := 0) hx hb dX5_readClause_137 (by decide) ?_
    refine lv_bipush (v := 100) hx hb dX5_readClause_138 (by decide) ?_
    have lk9 : (sI S5 h 2).toInt = ((sI S h 2) + 1).toInt := by rw [show sI S5 h 2 = (sI S h 2) + 1 from w7]
    have lk10 : (sI S5 h 3).toInt = (sI S h 3).toInt := by rw [show sI S5 h 3 = sI S h 3 from w6]
    have lk11 : (sI S5 h 1).toInt = (sI S h 1).toInt := by rw [hF.i hk (by decide) (by decide)]
    refine pc_Vi (As := [.int 0, .int 100]) (rest := [.ref x]) F (b_X5_readNumber l D cy A S5 h t bt f n 0 100 hG (hF.k hk (by decide)) (hF.r hk (by decide) hr0) (hF.k hkt (by decide)) (hF.r hkt (by decide) hr1) (hF.k hkb (by decide)) (hF.n hkb (by decide) hlb) (by omega) (by omega) (fun j hj => (hF.iA hkb (by decide) (by decide) (by decide)).trans (hf j hj)) (by omega) (by omega) (by omega)) (cwV 2 hts gX5_readClause_X5_readNumber rfl rfl rfl (by decide +kernel) ⟨Nat.le_of_ble_eq_true rfl, Nat.le_of_ble_eq_true rfl⟩) hK hZ hA hW hS (hF.k hk (by decide)) (by decide) rfl rfl hl.1 rfl (Nat.le_of_ble_eq_true rfl) dX5_readClause_140 ⟨Nat.le_of_ble_eq_true rfl, Nat.le_of_ble_eq_true rfl⟩ (fun v12 T13 H locs p14 hW hS => ?_)
    obtain ⟨hG, hFc, p14⟩ := p14
    have hF : Fr [] [401, 402, 403, 404, 405, 502, 503] S T13 := hF.tr (hFc.mono (by decide))
    refine pg_pi (ci := 4) (C := RX4) (T := TX4) (N := 6) hx hb hts wi4 tyX4 tyX4_ok nmX4 hown hK hW hS (hF.k hkx (by decide)) (by decide) rfl 5 (by decide) (hts (.fieldLink RX5 64 "IceHall$Rights" "hundredths" "I") (by decide +kernel)) (fun _ h9 => h9) rfl rfl rfl dX5_readClause_143 (fun H locs hW hS => ?_)
    have kq15 : sK T13 x = 4 := (hF.k hkx (by decide))
    obtain ⟨S16, eS16⟩ : ∃ T : St, T = stI T13 x 5 v12 := ⟨_, rfl⟩
    rw [← eS16] at hW
    have hG : G S16 := by rw [eS16]; exact hG.I kq15 (ok_fr (by decide))
    have w17 : sI S16 h 2 = sI T13 h 2 := by rw [eS16]; exact (iI_a (fk_ne (hF.k hk (by decide)) kq15 (by decide))).trans rfl
    have w18 : sI S16 h 3 = sI T13 h 3 := by rw [eS16]; exact (iI_a (fk_ne (hF.k hk (by decide)) kq15 (by decide))).trans rfl
    have hF : Fr [] [401, 402, 403, 404, 405, 502, 503] S S16 := by rw [eS16]; exact hF.I kq15 (by decide)
    clear eS16
    refine lv_iconst (v := 0) hx hb dX5_readClause_146 (by decide) ?_
    have lk19 : (sI S16 h 2).toInt = (sI T13 h 2).toInt := by rw [show sI S16 h 2 = sI T13 h 2 from w17]
    have lk20 : (sI S16 h 3).toInt = (sI T13 h 3).toInt := by rw [show sI S16 h 3 = sI T13 h 3 from w18]
    have lk21 : (sI S16 h 1).toInt = (sI S h 1).toInt := by rw [hF.i hk (by decide) (by decide)]
    exact pc_iret (v := 0) (S := S16) hx hb hr hlk hK hZ hA hW hS (⟨hG, hF, Or.inr ⟨by omega, Or.inr (Or.inr (Or.inr (Or.inr (Or.inr (⟨by omega, ⟨_, p14.c (by omega) (by omega) (by omega) rfl (by omega) (by omega)⟩⟩)))))⟩⟩) dX5_readClause_147
  by_cases c22 : v1 = 100
  · refine lv_lookup (off := 65) (tgt := 81) hx hb dX5_readClause_16 (by decide) (by rw [c22]; decide) (by decide) ?_
    have c22i : Int32.toInt v1 = 100 := by rw [c22]; rfl
    refine lv_aload_n hx hb dX5_readClause_81 rfl (lv_at hl 2 rfl) ?_
    refine lv_aload_n hx hb dX5_readClause_82 rfl (lv_at hl 1 rfl) ?_
    refine lv_bipush (v := 6) hx hb dX5_readClause_83 (by decide) ?_
    refine lv_bipush (v := 7) hx hb dX5_readClause_85 (by decide) ?_
    have lk23 : (sI S5 h 2).toInt = ((sI S h 2) + 1).toInt := by rw [show sI S5 h 2 = (sI S h 2) + 1 from w7]
    have lk24 : (sI S5 h 3).toInt = (sI S h 3).toInt := by rw [show sI S5 h 3 = sI S h 3 from w6]
    have lk25 : (sI S5 h 1).toInt = (sI S h 1).toInt := by rw [hF.i hk (by decide) (by decide)]
    refine pc_Vi (As := [.int 6, .int 7]) (rest := [.ref x]) F (b_X5_readDigits l D cy A S5 h t bt f n 6 7 hG (hF.k hk (by decide)) (hF.r hk (by decide) hr0) (hF.k hkt (by decide)) (hF.r hkt (by decide) hr1) (hF.k hkb (by decide)) (hF.n hkb (by decide) hlb) (by omega) (by omega) (fun j hj => (hF.iA hkb (by decide) (by decide) (by decide)).trans (hf j hj)) (by omega) (by omega) (by omega) (by omega) (by omega) (by omega) (by omega)) (cwV 2 hts gX5_readClause_X5_readDigits rfl rfl rfl (by decide +kernel) ⟨Nat.le_of_ble_eq_true rfl, Nat.le_of_ble_eq_true rfl⟩) hK hZ hA hW hS (hF.k hk (by decide)) (by decide) rfl rfl hl.1 rfl (Nat.le_of_ble_eq_true rfl) dX5_readClause_87 ⟨Nat.le_of_ble_eq_true rfl, Nat.le_of_ble_eq_true rfl⟩ (fun v26 T27 H locs p28 hW hS => ?_)
    obtain ⟨hG, hFc, p28⟩ := p28
    have hF : Fr [] [401, 402, 403, 404, 405, 502, 503] S T27 := hF.tr (hFc.mono (by decide))
    refine pg_pi (ci := 4) (C := RX4) (T := TX4) (N := 6) hx hb hts wi4 tyX4 tyX4_ok nmX4 hown hK hW hS (hF.k hkx (by decide)) (by decide) rfl 1 (by decide) (hts (.fieldLink RX5 49 "IceHall$Rights" "days" "I") (by decide +kernel)) (fun _ h9 => h9) rfl rfl rfl dX5_readClause_90 (fun H locs hW hS => ?_)
    have kq29 : sK T27 x = 4 := (hF.k hkx (by decide))
    obtain ⟨S30, eS30⟩ : ∃ T : St, T = stI T27 x 1 v26 := ⟨_, rfl⟩
    rw [← eS30] at hW
    have hG : G S30 := by rw [eS30]; exact hG.I kq29 (ok_fr (by decide))
    have w31 : sI S30 h 2 = sI T27 h 2 := by rw [eS30]; exact (iI_a (fk_ne (hF.k hk (by decide)) kq29 (by decide))).trans rfl
    have w32 : sI S30 h 3 = sI T27 h 3 := by rw [eS30]; exact (iI_a (fk_ne (hF.k hk (by decide)) kq29 (by decide))).trans rfl
    have hF : Fr [] [401, 402, 403, 404, 405, 502, 503] S S30 := by rw [eS30]; exact hF.I kq29 (by decide)
    clear eS30
    refine lv_iconst (v := 0) hx hb dX5_readClause_93 (by decide) ?_
    have lk33 : (sI S30 h 2).toInt = (sI T27 h 2).toInt := by rw [show sI S30 h 2 = sI T27 h 2 from w31]
    have lk34 : (sI S30 h 3).toInt = (sI T27 h 3).toInt := by rw [show sI S30 h 3 = sI T27 h 3 from w32]
    have lk35 : (sI S30 h 1).toInt = (sI S h 1).toInt := by rw [hF.i hk (by decide) (by decide)]
    exact pc_iret (v := 0) (S := S30) hx hb hr hlk hK hZ hA hW hS (⟨hG, hF, Or.inr ⟨by omega, Or.inr (Or.inl ⟨by omega, p28.c (by omega) (by omega) (by omega) (by omega) (by omega)⟩)⟩⟩) dX5_readClause_94
  by_cases c36 : v1 = 102
  · refine lv_lookup (off := 105) (tgt := 121) hx hb dX5_readClause_16 (by decide) (by rw [c36]; decide) (by decide) ?_
    have c36i : Int32.toInt v1 = 102 := by rw [c36]; rfl
    refine lv_aload_n hx hb dX5_readClause_121 rfl (lv_at hl 2 rfl) ?_
    refine lv_aload_n hx hb dX5_readClause_122 rfl (lv_at hl 1 rfl) ?_
    refine lv_iconst (v := 0) hx hb dX5_readClause_123 (by decide) ?_
    refine lv_sipush (v := 9999) hx hb dX5_readClause_124 (by decide) ?_
    have lk37 : (sI S5 h 2).toInt = ((sI S h 2) + 1).toInt := by rw [show sI S5 h 2 = (sI S h 2) + 1 from w7]
    have lk38 : (sI S5 h 3).toInt = (sI S h 3).toInt := by rw [show sI S5 h 3 = sI S h 3 from w6]
    have lk39 : (sI S5 h 1).toInt = (sI S h 1).toInt := by rw [hF.i hk (by decide) (by decide)]
    refine pc_Vi (As := [.int 0, .int 9999]) (rest := [.ref x]) F (b_X5_readNumber l D cy A S5 h t bt f n 0 9999 hG (hF.k hk (by decide)) (hF.r hk (by decide) hr0) (hF.k hkt (by decide)) (hF.r hkt (by decide) hr1) (hF.k hkb (by decide)) (hF.n hkb (by decide) hlb) (by omega) (by omega) (fun j hj => (hF.iA hkb (by decide) (by decide) (by decide)).trans (hf j hj)) (by omega) (by omega) (by omega)) (cwV 2 hts gX5_readClause_X5_readNumber rfl rfl rfl (by decide +kernel) ⟨Nat.le_of_ble_eq_true rfl, Nat.le_of_ble_eq_true rfl⟩) hK hZ hA hW hS (hF.k hk (by decide)) (by decide) rfl rfl hl.1 rfl (Nat.le_of_ble_eq_true rfl) dX5_readClause_127 ⟨Nat.le_of_ble_eq_true rfl, Nat.le_of_ble_eq_true rfl⟩ (fun v40 T41 H locs p42 hW hS => ?_)
    obtain ⟨hG, hFc, p42⟩ := p42
    have hF : Fr [] [401, 402, 403, 404, 405, 502, 503] S T41 := hF.tr (hFc.mono (by decide))
    refine pg_pi (ci := 4) (C := RX4) (T := TX4) (N := 6) hx hb hts wi4 tyX4 tyX4_ok nmX4 hown hK hW hS (hF.k hkx (by decide)) (by decide) rfl 4 (by decide) (hts (.fieldLink RX5 61 "IceHall$Rights" "fee" "I") (by decide +kernel)) (fun _ h9 => h9) rfl rfl rfl dX5_readClause_130 (fun H locs hW hS => ?_)
    have kq43 : sK T41 x = 4 := (hF.k hkx (by decide))
    obtain ⟨S44, eS44⟩ : ∃ T : St, T = stI T41 x 4 v40 := ⟨_, rfl⟩
    rw [← eS44] at hW
    have hG : G S44 := by rw [eS44]; exact hG.I kq43 (ok_fr (by decide))
    have w45 : sI S44 h 2 = sI T41 h 2 := by rw [eS44]; exact (iI_a (fk_ne (hF.k hk (by decide)) kq43 (by decide))).trans rfl
    have w46 : sI S44 h 3 = sI T41 h 3 := by rw [eS44]; exact (iI_a (fk_ne (hF.k hk (by decide)) kq43 (by decide))).trans rfl
    have hF : Fr [] [401, 402, 403, 404, 405, 502, 503] S S44 := by rw [eS44]; exact hF.I kq43 (by decide)
    clear eS44
    refine lv_iconst (v := 0) hx hb dX5_readClause_133 (by decide) ?_
    have lk47 : (sI S44 h 2).toInt = (sI T41 h 2).toInt := by rw [show sI S44 h 2 = sI T41 h 2 from w45]
    have lk48 : (sI S44 h 3).toInt = (sI T41 h 3).toInt := by rw [show sI S44 h 3 = sI T41 h 3 from w46]
    have lk49 : (sI S44 h 1).toInt = (sI S h 1).toInt := by rw [hF.i hk (by decide) (by decide)]
    exact pc_iret (v := 0) (S := S44) hx hb hr hlk hK hZ hA hW hS (⟨hG, hF, Or.inr ⟨by omega, Or.inr (Or.inr (Or.inr (Or.inr (Or.inl ⟨by omega, ⟨_, p42.c (by omega) (by omega) (by omega) rfl (by omega) (by omega)⟩⟩))))⟩⟩) dX5_readClause_134
  by_cases c50 : v1 = 107
  · refine lv_lookup (off := 79) (tgt := 95) hx hb dX5_readClause_16 (by decide) (by rw [c50]; decide) (by decide) ?_
    have c50i : Int32.toInt v1 = 107 := by rw [c50]; rfl
    refine lv_aload_n hx hb dX5_readClause_95 rfl (lv_at hl 2 rfl) ?_
    refine lv_aload_n hx hb dX5_readClause_96 rfl (lv_at hl 1 rfl) ?_
    refine lv_iconst (v := 3) hx hb dX5_readClause_97 (by decide) ?_
    refine lv_iconst (v := 4) hx hb dX5_readClause_98 (by decide) ?_
    have lk51 : (sI S5 h 2).toInt = ((sI S h 2) + 1).toInt := by rw [show sI S5 h 2 = (sI S h 2) + 1 from w7]
    have lk52 : (sI S5 h 3).toInt = (sI S h 3).toInt := by rw [show sI S5 h 3 = sI S h 3 from w6]
    have lk53 : (sI S5 h 1).toInt = (sI S h 1).toInt := by rw [hF.i hk (by decide) (by decide)]
    refine pc_Vi (As := [.int 3, .int 4]) (rest := [.ref x]) F (b_X5_readDigits l D cy A S5 h t bt f n 3 4 hG (hF.k hk (by decide)) (hF.r hk (by decide) hr0) (hF.k hkt (by decide)) (hF.r hkt (by decide) hr1) (hF.k hkb (by decide)) (hF.n hkb (by decide) hlb) (by omega) (by omega) (fun j hj => (hF.iA hkb (by decide) (by decide) (by decide)).trans (hf j hj)) (by omega) (by omega) (by omega) (by omega) (by omega) (by omega) (by omega)) (cwV 2 hts gX5_readClause_X5_readDigits rfl rfl rfl (by decide +kernel) ⟨Nat.le_of_ble_eq_true rfl, Nat.le_of_ble_eq_true rfl⟩) hK hZ hA hW hS (hF.k hk (by decide)) (by decide) rfl rfl hl.1 rfl (Nat.le_of_ble_eq_true rfl) dX5_readClause_99 ⟨Nat.le_of_ble_eq_true rfl, Nat.le_of_ble_eq_true rfl⟩ (fun v54 T55 H locs p56 hW hS => ?_)
    obtain ⟨hG, hFc, p56⟩ := p56
    have hF : Fr [] [401, 402, 403, 404, 405, 502, 503] S T55 := hF.tr (hFc.mono (by decide))
    refine pg_pi (ci := 4) (C := RX4) (T := TX4) (N := 6) hx hb hts wi4 tyX4 tyX4_ok nmX4 hown hK hW hS (hF.k hkx (by decide)) (by decide) rfl 2 (by decide) (hts (.fieldLink RX5 52 "IceHall$Rights" "kinds" "I") (by decide +kernel)) (fun _ h9 => h9) rfl rfl rfl dX5_readClause_102 (fun H locs hW hS => ?_)
    have kq57 : sK T55 x = 4 := (hF.k hkx (by decide))
    obtain ⟨S58, eS58⟩ : ∃ T : St, T = stI T55 x 2 v54 := ⟨_, rfl⟩
    rw [← eS58] at hW
    have hG : G S58 := by rw [eS58]; exact hG.I kq57 (ok_fr (by decide))
    have w59 : sI S58 h 2 = sI T55 h 2 := by rw [eS58]; exact (iI_a (fk_ne (hF.k hk (by decide)) kq57 (by decide))).trans rfl
    have w60 : sI S58 h 3 = sI T55 h 3 := by rw [eS58]; exact (iI_a (fk_ne (hF.k hk (by decide)) kq57 (by decide))).trans rfl
    have hF : Fr [] [401, 402, 403, 404, 405, 502, 503] S S58 := by rw [eS58]; exact hF.I kq57 (by decide)
    clear eS58
    refine lv_iconst (v := 0) hx hb dX5_readClause_105 (by decide) ?_
    have lk61 : (sI S58 h 2).toInt = (sI T55 h 2).toInt := by rw [show sI S58 h 2 = sI T55 h 2 from w59]
    have lk62 : (sI S58 h 3).toInt = (sI T55 h 3).toInt := by rw [show sI S58 h 3 = sI T55 h 3 from w60]
    have lk63 : (sI S58 h 1).toInt = (sI S h 1).toInt := by rw [hF.i hk (by decide) (by decide)]
    exact pc_iret (v := 0) (S := S58) hx hb hr hlk hK hZ hA hW hS (⟨hG, hF, Or.inr ⟨by omega, Or.inr (Or.inr (Or.inl ⟨by omega, p56.c (by omega) (by omega) (by omega) (by omega) (by omega)⟩))⟩⟩) dX5_readClause_106
  by_cases c64 : v1 = 110
  · refine lv_lookup (off := 91) (tgt := 107) hx hb dX5_readClause_16 (by decide) (by rw [c64]; decide) (by decide) ?_
    have c64i : Int32.toInt v1 = 110 := by rw [c64]; rfl
    refine lv_aload_n hx hb dX5_readClause_107 rfl (lv_at hl 2 rfl) ?_
    refine lv_aload_n hx hb dX5_readClause_108 rfl (lv_at hl 1 rfl) ?_
    refine lv_iconst (v := 0) hx hb dX5_readClause_109 (by decide) ?_
    refine lv_sipush (v := 999) hx hb dX5_readClause_110 (by decide) ?_
    have lk65 : (sI S5 h 2).toInt = ((sI S h 2) + 1).toInt := by rw [show sI S5 h 2 = (sI S h 2) + 1 from w7]
    have lk66 : (sI S5 h 3).toInt = (sI S h 3).toInt := by rw [show sI S5 h 3 = sI S h 3 from w6]
    have lk67 : (sI S5 h 1).toInt = (sI S h 1).toInt := by rw [hF.i hk (by decide) (by decide)]
    refine pc_Vi (As := [.int 0, .int 999]) (rest := [.ref x]) F (b_X5_readNumber l D cy A S5 h t bt f n 0 999 hG (hF.k hk (by decide)) (hF.r hk (by decide) hr0) (hF.k hkt (by decide)) (hF.r hkt (by decide) hr1) (hF.k hkb (by decide)) (hF.n hkb (by decide) hlb) (by omega) (by omega) (fun j hj => (hF.iA hkb (by decide) (by decide) (by decide)).trans (hf j hj)) (by omega) (by omega) (by omega)) (cwV 2 hts gX5_readClause_X5_readNumber rfl rfl rfl (by decide +kernel) ⟨Nat.le_of_ble_eq_true rfl, Nat.le_of_ble_eq_true rfl⟩) hK hZ hA hW hS (hF.k hk (by decide)) (by decide) rfl rfl hl.1 rfl (Nat.le_of_ble_eq_true rfl) dX5_readClause_113 ⟨Nat.le_of_ble_eq_true rfl, Nat.le_of_ble_eq_true rfl⟩ (fun v68 T69 H locs p70 hW hS => ?_)
    obtain ⟨hG, hFc, p70⟩ := p70
    have hF : Fr [] [401, 402, 403, 404, 405, 502, 503] S T69 := hF.tr (hFc.mono (by decide))
    refine pg_pi (ci := 4) (C := RX4) (T := TX4) (N := 6) hx hb hts wi4 tyX4 tyX4_ok nmX4 hown hK hW hS (hF.k hkx (by decide)) (by decide) rfl 3 (by decide) (hts (.fieldLink RX5 58 "IceHall$Rights" "inWeek" "I") (by decide +kernel)) (fun _ h9 => h9) rfl rfl rfl dX5_readClause_116 (fun H locs hW hS => ?_)
    have kq71 : sK T69 x = 4 := (hF.k hkx (by decide))
    obtain ⟨S72, eS72⟩ : ∃ T : St, T = stI T69 x 3 v68 := ⟨_, rfl⟩
    rw [← eS72] at hW
    have hG : G S72 := by rw [eS72]; exact hG.I kq71 (ok_fr (by decide))
    have w73 : sI S72 h 2 = sI T69 h 2 := by rw [eS72]; exact (iI_a (fk_ne (hF.k hk (by decide)) kq71 (by decide))).trans rfl
    have w74 : sI S72 h 3 = sI T69 h 3 := by rw [eS72]; exact (iI_a (fk_ne (hF.k hk (by decide)) kq71 (by decide))).trans rfl
    have hF : Fr [] [401, 402, 403, 404, 405, 502, 503] S S72 := by rw [eS72]; exact hF.I kq71 (by decide)
    clear eS72
    refine lv_iconst (v := 0) hx hb dX5_readClause_119 (by decide) ?_
    have lk75 : (sI S72 h 2).toInt = (sI T69 h 2).toInt := by rw [show sI S72 h 2 = sI T69 h 2 from w73]
    have lk76 : (sI S72 h 3).toInt = (sI T69 h 3).toInt := by rw [show sI S72 h 3 = sI T69 h 3 from w74]
    have lk77 : (sI S72 h 1).toInt = (sI S h 1).toInt := by rw [hF.i hk (by decide) (by decide)]
    exact pc_iret (v := 0) (S := S72) hx hb hr hlk hK hZ hA hW hS (⟨hG, hF, Or.inr ⟨by omega, Or.inr (Or.inr (Or.inr (Or.inl ⟨by omega, ⟨_, p70.c (by omega) (by omega) (by omega) rfl (by omega) (by omega)⟩⟩)))⟩⟩) dX5_readClause_120
  by_cases c78 : v1 = 119
  · refine lv_lookup (off := 60) (tgt := 76) hx hb dX5_readClause_16 (by decide) (by rw [c78]; decide) (by decide) ?_
    have c78i : Int32.toInt v1 = 119 := by rw [c78]; rfl
    refine lv_aload_n hx hb dX5_readClause_76 rfl (lv_at hl 1 rfl) ?_
    have lk79 : (sI S5 h 2).toInt = ((sI S h 2) + 1).toInt := by rw [show sI S5 h 2 = (sI S h 2) + 1 from w7]
    have lk80 : (sI S5 h 3).toInt = (sI S h 3).toInt := by rw [show sI S5 h 3 = sI S h 3 from w6]
    have lk81 : (sI S5 h 1).toInt = (sI S h 1).toInt := by rw [hF.i hk (by decide) (by decide)]
    refine pc_Vi (As := []) (rest := []) F (b_X5_readWindow l D cy A S5 h t bt f n hG (hF.k hk (by decide)) (hF.r hk (by decide) hr0) (hF.k hkt (by decide)) (hF.r hkt (by decide) hr1) (hF.k hkb (by decide)) (hF.n hkb (by decide) hlb) (by omega) (by omega) (fun j hj => (hF.iA hkb (by decide) (by decide) (by decide)).trans (hf j hj)) (by omega) (by omega) (by omega)) (cwV 0 hts gX5_readClause_X5_readWindow rfl rfl rfl (by decide +kernel) ⟨Nat.le_of_ble_eq_true rfl, Nat.le_of_ble_eq_true rfl⟩) hK hZ hA hW hS (hF.k hk (by decide)) (by decide) rfl rfl hl.1 rfl (Nat.le_of_ble_eq_true rfl) dX5_readClause_77 ⟨Nat.le_of_ble_eq_true rfl, Nat.le_of_ble_eq_true rfl⟩ (fun v82 T83 H locs p84 hW hS => ?_)
    obtain ⟨hG, hFc, p84⟩ := p84
    have hF : Fr [] [401, 402, 403, 404, 405, 502, 503] S T83 := hF.tr (hFc.mono (by decide))
    have lk85 : (sI T83 h 1).toInt = (sI S h 1).toInt := by rw [hF.i hk (by decide) (by decide)]
    exact pc_iret (v := v82) (S := T83) hx hb hr hlk hK hZ hA hW hS (⟨hG, hF, Or.inr ⟨by omega, Or.inl ⟨by omega, p84.c (by omega) rfl rfl⟩⟩⟩) dX5_readClause_80
  have c8i : ¬ Int32.toInt v1 = 99 := lv_neT c8 rfl
  have c22i : ¬ Int32.toInt v1 = 100 := lv_neT c22 rfl
  have c36i : ¬ Int32.toInt v1 = 102 := lv_neT c36 rfl
  have c50i : ¬ Int32.toInt v1 = 107 := lv_neT c50 rfl
  have c64i : ¬ Int32.toInt v1 = 110 := lv_neT c64 rfl
  have c78i : ¬ Int32.toInt v1 = 119 := lv_neT c78 rfl
  refine lv_lookup (off := 132) (tgt := 148) hx hb dX5_readClause_16 (by decide) (by have qc8 : ¬ (99 : Int) = Int32.toInt v1 := fun h9 => lv_neT c8 (a := 99) rfl h9.symm; have qc22 : ¬ (100 : Int) = Int32.toInt v1 := fun h9 => lv_neT c22 (a := 100) rfl h9.symm; have qc36 : ¬ (102 : Int) = Int32.toInt v1 := fun h9 => lv_neT c36 (a := 102) rfl h9.symm; have qc50 : ¬ (107 : Int) = Int32.toInt v1 := fun h9 => lv_neT c50 (a := 107) rfl h9.symm; have qc64 : ¬ (110 : Int) = Int32.toInt v1 := fun h9 => lv_neT c64 (a := 110) rfl h9.symm; have qc78 : ¬ (119 : Int) = Int32.toInt v1 := fun h9 => lv_neT c78 (a := 119) rfl h9.symm; show (if (99 : Int) = Int32.toInt v1 then (119 : Int) else if (100 : Int) = Int32.toInt v1 then (65 : Int) else if (102 : Int) = Int32.toInt v1 then (105 : Int) else if (107 : Int) = Int32.toInt v1 then (79 : Int) else if (110 : Int) = Int32.toInt v1 then (91 : Int) else if (119 : Int) = Int32.toInt v1 then (60 : Int) else (132 : Int)) = _; rw [if_neg qc8, if_neg qc22, if_neg qc36, if_neg qc50, if_neg qc64, if_neg qc78]) (by decide) ?_
  refine lv_aload_n hx hb dX5_readClause_148 rfl (lv_at hl 1 rfl) ?_
  refine lv_iconst (v := 1) hx hb dX5_readClause_149 (by decide) ?_
  refine lv_aload_n hx hb dX5_readClause_150 rfl (lv_at hl 1 rfl) ?_
  refine pg_gi (ci := 5) (C := RX5) (T := TX5) (N := 4) hx hb hts wi5 hown hK hW (hF.k hk (by decide)) (by decide) rfl 2 (by decide) (hts (.fieldLink RX5 19 "IceHall$RightsReader" "place" "I") (by decide +kernel)) (fun _ h9 => h9) rfl dX5_readClause_151 ?_
  rw [show sI S5 h 2 = (sI S h 2) + 1 from w7]
  refine lv_iconst (v := 1) hx hb dX5_readClause_154 (by decide) ?_
  refine lv_isub hx hb dX5_readClause_155 ?_
  have l86 : (((sI S h 2) + 1) - 1).toInt = Int32.toInt ((sI S h 2) + 1) - (1 : Int) := i3_sub rfl rfl (by omega) (by omega)
  have lk87 : (sI S5 h 2).toInt = ((sI S h 2) + 1).toInt := by rw [show sI S5 h 2 = (sI S h 2) + 1 from w7]
  have lk88 : (sI S5 h 3).toInt = (sI S h 3).toInt := by rw [show sI S5 h 3 = sI S h 3 from w6]
  have lk89 : (sI S5 h 1).toInt = (sI S h 1).toInt := by rw [hF.i hk (by decide) (by decide)]
  refine pc_Vv (As := [.int 1, .int (((sI S h 2) + 1) - 1)]) (rest := []) F (b_X5_fail l D cy A S5 h 1 (((sI S h 2) + 1) - 1) hG (hF.k hk (by decide)) (by omega) (by omega) (by omega) (by omega)) (cwV 2 hts gX5_readClause_X5_fail rfl rfl rfl (by decide +kernel) ⟨Nat.le_of_ble_eq_true rfl, Nat.le_of_ble_eq_true rfl⟩) hK hZ hA hW hS (hF.k hk (by decide)) (by decide) rfl rfl hl.1 rfl (Nat.le_of_ble_eq_true rfl) dX5_readClause_156 ⟨Nat.le_of_ble_eq_true rfl, Nat.le_of_ble_eq_true rfl⟩ (fun T91 H locs p92 hW hS => ?_)
  obtain ⟨hG, hFc, p92⟩ := p92
  have w93 : sI T91 h 2 = (sI S h 2) + 1 := (hFc.i (hF.k hk (by decide)) (by decide) (by decide)).trans w7
  have hF : Fr [] [401, 402, 403, 404, 405, 502, 503] S T91 := hF.tr (hFc.mono (by decide))
  refine lv_iconst (v := 0) hx hb dX5_readClause_159 (by decide) ?_
  have lk94 : (sI T91 h 2).toInt = ((sI S h 2) + 1).toInt := by rw [show sI T91 h 2 = (sI S h 2) + 1 from w93]
  have lk95 : (sI T91 h 1).toInt = (sI S h 1).toInt := by rw [hF.i hk (by decide) (by decide)]
  exact pc_iret (v := 0) (S := T91) hx hb hr hlk hK hZ hA hW hS (⟨hG, hF, Or.inl ⟨by omega, by omega⟩⟩) dX5_readClause_160
set_option maxHeartbeats 4000000 in
set_option maxRecDepth 100000 in
theorem b_X5_readInto (l : Launch) (D : va_G) (cy : Nat → ClassId) (A : Nat → Prop) (S : St) (h x t bt : Nat) (f : Nat → Int32) (n : Int) (b : Int32) (hG0 : G S) (hk : sK S h = 5) (hkx : sK S x = 4) (hr0 : sR S h 0 = some t) (hkt : sK S t = 7) (hr1 : sR S t 0 = some bt) (hkb : sK S bt = 10) (hlb : sL S bt = 80) (hbn : b.toInt = n) (hn0 : 0 ≤ n) (hn8 : n ≤ 80) (hf : ∀ j : Nat, (j : Int) < n → sI S bt j = f j) : MI l yX5_readInto wsX5_readInto ({ frames := 5, cells := 0, slots := 0, locals := 110 } : Room) 0 0 D cy A [.ref h, .ref x, .int b] S (fun r S1 => G S1 ∧ Fr [] [400, 401, 402, 403, 404, 405, 501, 502, 503] S S1 ∧ (TX f n 0 r.toInt)) := by
  refine mt_start (cc := cX5_readInto) (maxL := 6) (ret := (some .int)) (by decide) rfl (Nat.le_of_ble_eq_true rfl) ?_
  intro p e s m args below meth c hx hb hr hlk hml hown hnm hts hK hZ hA hW hS ls hl
  have hl : lv_has ls 6 [(0, .ref h), (1, .ref x), (2, .int b)] := hl
  have hown : s.vm.findClass RX5 = some m.cls := hown
  have F : CallFix p m c cX5_readInto 6 s args wsX5_readInto RX5 := ⟨hx, hb, hml, hown, hts⟩
  have wi4 : ∀ w ∈ u_ws RX4 TX4 6, w ∈ wsX5_readInto := by decide +kernel
  have wi5 : ∀ w ∈ u_ws RX5 TX5 4, w ∈ wsX5_readInto := by decide +kernel
  have hG := hG0
  have hF : Fr [] [400, 401, 402, 403, 404, 405, 501, 502, 503] S S := Fr.rf _ _ _
  have h0_ : (0 : Int32).toInt = 0 := rfl
  have h1_ : (1 : Int32).toInt = 1 := rfl
  have h2_ : (2 : Int32).toInt = 2 := rfl
  refine lv_aload_n hx hb dX5_readInto_0 rfl (lv_at hl 0 rfl) ?_
  refine lv_iload_n hx hb dX5_readInto_1 rfl (lv_at hl 2 rfl) ?_
  refine pg_pi (ci := 5) (C := RX5) (T := TX5) (N := 4) hx hb hts wi5 tyX5 tyX5_ok nmX5 hown hK hW hS hk (by decide) rfl 1 (by decide) (hts (.fieldLink RX5 15 "IceHall$RightsReader" "end" "I") (by decide +kernel)) (fun _ h9 => h9) rfl rfl rfl dX5_readInto_2 (fun H locs hW hS => ?_)
  obtain ⟨S1, eS1⟩ : ∃ T : St, T = stI S h 1 b := ⟨_, rfl⟩
  rw [← eS1] at hW
  have hG : G S1 := by rw [eS1]; exact hG.I hk (ok_fr (by decide))
  have w2 : sI S1 h 2 = sI S h 2 := by rw [eS1]; exact (iI_k (by decide)).trans rfl
  have w3 : sI S1 h 3 = sI S h 3 := by rw [eS1]; exact (iI_k (by decide)).trans rfl
  have hF : Fr [] [400, 401, 402, 403, 404, 405, 501, 502, 503] S S1 := by rw [eS1]; exact hF.I hk (by decide)
  have w4 : sI S1 h 1 = b := by rw [eS1]; exact iI_s
  clear eS1
  refine lv_aload_n hx hb dX5_readInto_5 rfl (lv_at hl 0 rfl) ?_
  refine lv_iconst (v := 0) hx hb dX5_readInto_6 (by decide) ?_
  refine pg_pi (ci := 5) (C := RX5) (T := TX5) (N := 4) hx hb hts wi5 tyX5 tyX5_ok nmX5 hown hK hW hS (hF.k hk (by decide)) (by decide) rfl 2 (by decide) (hts (.fieldLink RX5 19 "IceHall$RightsReader" "place" "I") (by decide +kernel)) (fun _ h9 => h9) rfl rfl rfl dX5_readInto_7 (fun H locs hW hS => ?_)
  have kq5 : sK S1 h = 5 := (hF.k hk (by decide))
  obtain ⟨S6, eS6⟩ : ∃ T : St, T = stI S1 h 2 0 := ⟨_, rfl⟩
  rw [← eS6] at hW
  have hG : G S6 := by rw [eS6]; exact hG.I kq5 (ok_fr (by decide))
  have w7 : sI S6 h 3 = sI S h 3 := by rw [eS6]; exact (iI_k (by decide)).trans w3
  have w8 : sI S6 h 1 = b := by rw [eS6]; exact (iI_k (by decide)).trans w4
  have hF : Fr [] [400, 401, 402, 403, 404, 405, 501, 502, 503] S S6 := by rw [eS6]; exact hF.I kq5 (by decide)
  have w9 : sI S6 h 2 = 0 := by rw [eS6]; exact iI_s
  clear eS6
  refine lv_aload_n hx hb dX5_readInto_10 rfl (lv_at hl 0 rfl) ?_
  refine lv_iconst (v := 0) hx hb dX5_readInto_11 (by decide) ?_
  refine pg_pi (ci := 5) (C := RX5) (T := TX5) (N := 4) hx hb hts wi5 tyX5 tyX5_ok nmX5 hown hK hW hS (hF.k hk (by decide)) (by decide) rfl 3 (by decide) (hts (.fieldLink RX5 22 "IceHall$RightsReader" "fault" "I") (by decide +kernel)) (fun _ h9 => h9) rfl rfl rfl dX5_readInto_12 (fun H locs hW hS => ?_)
  have kq10 : sK S6 h = 5 := (hF.k hk (by decide))
  obtain ⟨S11, eS11⟩ : ∃ T : St, T = stI S6 h 3 0 := ⟨_, rfl⟩
  rw [← eS11] at hW
  have hG : G S11 := by rw [eS11]; exact hG.I kq10 (ok_fr (by decide))
  have w12 : sI S11 h 1 = b := by rw [eS11]; exact (iI_k (by decide)).trans w8
  have w13 : sI S11 h 2 = 0 := by rw [eS11]; exact (iI_k (by decide)).trans w9
  have hF : Fr [] [400, 401, 402, 403, 404, 405, 501, 502, 503] S S11 := by rw [eS11]; exact hF.I kq10 (by decide)
  have w14 : sI S11 h 3 = 0 := by rw [eS11]; exact iI_s
  clear eS11
  refine lv_iconst (v := 0) hx hb dX5_readInto_15 (by decide) ?_
  refine lv_istore_n (lv' := [(3, .int 0), (0, .ref h), (1, .ref x), (2, .int b)]) hx hb dX5_readInto_16 rfl hl (by decide) rfl (fun ls hl => ?_)
  refine lv_iconst (v := 1) hx hb dX5_readInto_17 (by decide) ?_
  refine lv_istore (lv' := [(4, .int 1), (3, .int 0), (0, .ref h), (1, .ref x), (2, .int b)]) hx hb dX5_readInto_18 hl (by decide) rfl (fun ls hl => ?_)
  refine lv_iconst (v := 0) hx hb dX5_readInto_20 (by decide) ?_
  refine lv_istore (lv' := [(5, .int 0), (4, .int 1), (3, .int 0), (0, .ref h), (1, .ref x), (2, .int b)]) hx hb dX5_readInto_21 hl (by decide) rfl (fun ls hl => ?_)
  have hE15 : Fr [] [400, 401, 402, 403, 404, 405, 501, 502, 503] S11 S11 := Fr.rf _ _ _
  have loop23 : ∀ (zn : Nat) (z : Int32) (w : Int32) (y : Int32) (L23 : St) (H : Heap) (locs : List Loc) (ls : Array Slot), (G L23) → (Fr [] [400, 401, 402, 403, 404, 405, 501, 502, 503] S11 L23) → (0 ≤ y.toInt ∧ y.toInt ≤ 81) → ((sI L23 h 1).toInt = n) → ((¬ w.toInt = 0 ∧ y.toInt ≤ (sI L23 h 2).toInt ∧ (sI L23 h 2).toInt ≤ n ∧ (sI L23 h 3).toInt = 0 ∧ ∀ r : Int, TX f n (sI L23 h 2).toInt r → TX f n 0 r) ∨ (w.toInt = 0 ∧ TX f n 0 (sI L23 h 3).toInt)) → (81 - y.toInt).toNat < zn → PW D cy A L23 H → va_S A s.heap H locs → lv_has ls 6 [(0, .ref h), (1, .ref x), (2, .int b), (3, .int z), (4, .int w), (5, .int y)] → W p l e ({ frames := 5, cells := 0, slots := 0, locals := 110 } : Room) s m args below meth c H locs 0 0 (MQ below (va_Qi (fun r S1 => G S1 ∧ Fr [] [400, 401, 402, 403, 404, 405, 501, 502, 503] S S1 ∧ (TX f n 0 r.toInt)) (PU D cy A) A) args s 0 0 A) (F0 m 23 ls []) := by
    intro zn
    induction zn with
    | zero => intros; exact absurd (by assumption) (Nat.not_lt_zero _)
    | succ zn ih23 =>
      intro z w y L23 H locs ls hG hL23 hy he hst hme23 hW hS hl
      have hF : Fr [] [400, 401, 402, 403, 404, 405, 501, 502, 503] S L23 := hF.tr hL23
      have hE15 := hL23
      refine lv_iload hx hb dX5_readInto_23 (lv_at hl 5 rfl) ?_
      refine lv_bipush (v := 80) hx hb dX5_readInto_25 (by decide) ?_
      refine lv_icmp_gt (tgt := 70) hx hb dX5_readInto_27 (by decide) (fun c16 => ?_) (fun c16 => ?_)
      · have c16i : (80 : Int) < Int32.toInt y := (i3_lt _ _).mp c16
        refine lv_iload_n hx hb dX5_readInto_70 rfl (lv_at hl 3 rfl) ?_
        refine lv_if_eq (tgt := 79) hx hb dX5_readInto_71 (by decide) (fun c17 => ?_) (fun c17 => ?_)
        · have c17i : Int32.toInt z = (0 : Int) := (i3_eq _ _).mp c17
          refine lv_aload_n hx hb dX5_readInto_79 rfl (lv_at hl 0 rfl) ?_
          refine pg_gi (ci := 5) (C := RX5) (T := TX5) (N := 4) hx hb hts wi5 hown hK hW (hF.k hk (by decide)) (by decide) rfl 3 (by decide) (hts (.fieldLink RX5 22 "IceHall$RightsReader" "fault" "I") (by decide +kernel)) (fun _ h9 => h9) rfl dX5_readInto_80 ?_
          rw [show sI L23 h 3 = sI L23 h 3 from rfl]
          exact pc_iret (v := sI L23 h 3) (S := L23) hx hb hr hlk hK hZ hA hW hS (⟨hG, hF, (hst.resolve_left (fun h9 => by have h8 := h9.1; have h7 := h9.2.1; have h6 := h9.2.2.1; omega)).2.c rfl (by first | rfl | omega)⟩) dX5_readInto_83
        · have c17i : ¬ (Int32.toInt z = (0 : Int)) := fun h9 => c17 ((i3_eq _ _).mpr h9)
          refine lv_aload_n hx hb dX5_readInto_74 rfl (lv_at hl 1 rfl) ?_
          refine lv_iload_n hx hb dX5_readInto_75 rfl (lv_at hl 3 rfl) ?_
          refine pg_pi (ci := 4) (C := RX4) (T := TX4) (N := 6) hx hb hts wi4 tyX4 tyX4_ok nmX4 hown hK hW hS (hF.k hkx (by decide)) (by decide) rfl 0 (by decide) (hts (.fieldLink RX5 33 "IceHall$Rights" "clocks" "I") (by decide +kernel)) (fun _ h9 => h9) rfl rfl rfl dX5_readInto_76 (fun H locs hW hS => ?_)
          have kq18 : sK L23 x = 4 := (hF.k hkx (by decide))
          obtain ⟨S19, eS19⟩ : ∃ T : St, T = stI L23 x 0 z := ⟨_, rfl⟩
          rw [← eS19] at hW
          have hG : G S19 := by rw [eS19]; exact hG.I kq18 (ok_fr (by decide))
          have w20 : sI S19 h 1 = sI L23 h 1 := by rw [eS19]; exact (iI_a (fk_ne (hF.k hk (by decide)) kq18 (by decide))).trans rfl
          have w21 : sI S19 h 2 = sI L23 h 2 := by rw [eS19]; exact (iI_a (fk_ne (hF.k hk (by decide)) kq18 (by decide))).trans rfl
          have w22 : sI S19 h 3 = sI L23 h 3 := by rw [eS19]; exact (iI_a (fk_ne (hF.k hk (by decide)) kq18 (by decide))).trans rfl
          have hF : Fr [] [400, 401, 402, 403, 404, 405, 501, 502, 503] S S19 := by rw [eS19]; exact hF.I kq18 (by decide)
          have hE15 : Fr [] [400, 401, 402, 403, 404, 405, 501, 502, 503] S11 S19 := by rw [eS19]; exact hE15.I kq18 (by decide)
          clear eS19
          refine lv_aload_n hx hb dX5_readInto_79 rfl (lv_at hl 0 rfl) ?_
          refine pg_gi (ci := 5) (C := RX5) (T := TX5) (N := 4) hx hb hts wi5 hown hK hW (hF.k hk (by decide)) (by decide) rfl 3 (by decide) (hts (.fieldLink RX5 22 "IceHall$RightsReader" "fault" "I") (by decide +kernel)) (fun _ h9 => h9) rfl dX5_readInto_80 ?_
          rw [show sI S19 h 3 = sI L23 h 3 from w22]
          have lk23 : (sI S19 h 1).toInt = (sI L23 h 1).toInt := by rw [show sI S19 h 1 = sI L23 h 1 from w20]
          have lk24 : (sI S19 h 2).toInt = (sI L23 h 2).toInt := by rw [show sI S19 h 2 = sI L23 h 2 from w21]
          have lk25 : (sI S19 h 3).toInt = (sI L23 h 3).toInt := by rw [show sI S19 h 3 = sI L23 h 3 from w22]
          exact pc_iret (v := sI L23 h 3) (S := S19) hx hb hr hlk hK hZ hA hW hS (⟨hG, hF, (hst.resolve_left (fun h9 => by have h8 := h9.1; have h7 := h9.2.1; have h6 := h9.2.2.1; omega)).2.c rfl (by first | rfl | omega)⟩) dX5_readInto_83
      · have c16i : ¬ ((80 : Int) < Int32.toInt y) := fun h9 => c16 ((i3_lt _ _).mpr h9)
        refine lv_iload hx hb dX5_readInto_30 (lv_at hl 4 rfl) ?_
        refine lv_if_eq (tgt := 70) hx hb dX5_readInto_32 (by decide) (fun c26 => ?_) (fun c26 => ?_)
        · have c26i : Int32.toInt w = (0 : Int) := (i3_eq _ _).mp c26
          refine lv_iload_n hx hb dX5_readInto_70 rfl (lv_at hl 3 rfl) ?_
          refine lv_if_eq (tgt := 79) hx hb dX5_readInto_71 (by decide) (fun c27 => ?_) (fun c27 => ?_)
          · have c27i : Int32.toInt z = (0 : Int) := (i3_eq _ _).mp c27
            refine lv_aload_n hx hb dX5_readInto_79 rfl (lv_at hl 0 rfl) ?_
            refine pg_gi (ci := 5) (C := RX5) (T := TX5) (N := 4) hx hb hts wi5 hown hK hW (hF.k hk (by decide)) (by decide) rfl 3 (by decide) (hts (.fieldLink RX5 22 "IceHall$RightsReader" "fault" "I") (by decide +kernel)) (fun _ h9 => h9) rfl dX5_readInto_80 ?_
            rw [show sI L23 h 3 = sI L23 h 3 from rfl]
            exact pc_iret (v := sI L23 h 3) (S := L23) hx hb hr hlk hK hZ hA hW hS (⟨hG, hF, (hst.resolve_left (fun h9 => by have h8 := h9.1; have h7 := h9.2.1; have h6 := h9.2.2.1; omega)).2.c rfl (by first | rfl | omega)⟩) dX5_readInto_83
          · have c27i : ¬ (Int32.toInt z = (0 : Int)) := fun h9 => c27 ((i3_eq _ _).mpr h9)
            refine lv_aload_n hx hb dX5_readInto_74 rfl (lv_at hl 1 rfl) ?_
            refine lv_iload_n hx hb dX5_readInto_75 rfl (lv_at hl 3 rfl) ?_
            refine pg_pi (ci := 4) (C := RX4) (T := TX4) (N := 6) hx hb hts wi4 tyX4 tyX4_ok nmX4 hown hK hW hS (hF.k hkx (by decide)) (by decide) rfl 0 (by decide) (hts (.fieldLink RX5 33 "IceHall$Rights" "clocks" "I") (by decide +kernel)) (fun _ h9 => h9) rfl rfl rfl dX5_readInto_76 (fun H locs hW hS => ?_)
            have kq28 : sK L23 x = 4 := (hF.k hkx (by decide))
            obtain ⟨S29, eS29⟩ : ∃ T : St, T = stI L23 x 0 z := ⟨_, rfl⟩
            rw [← eS29] at hW
            have hG : G S29 := by rw [eS29]; exact hG.I kq28 (ok_fr (by decide))
            have w30 : sI S29 h 1 = sI L23 h 1 := by rw [eS29]; exact (iI_a (fk_ne (hF.k hk (by decide)) kq28 (by decide))).trans rfl
            have w31 : sI S29 h 2 = sI L23 h 2 := by rw [eS29]; exact (iI_a (fk_ne (hF.k hk (by decide)) kq28 (by decide))).trans rfl
            have w32 : sI S29 h 3 = sI L23 h 3 := by rw [eS29]; exact (iI_a (fk_ne (hF.k hk (by decide)) kq28 (by decide))).trans rfl
            have hF : Fr [] [400, 401, 402, 403, 404, 405, 501, 502, 503] S S29 := by rw [eS29]; exact hF.I kq28 (by decide)
            have hE15 : Fr [] [400, 401, 402, 403, 404, 405, 501, 502, 503] S11 S29 := by rw [eS29]; exact hE15.I kq28 (by decide)
            clear eS29
            refine lv_aload_n hx hb dX5_readInto_79 rfl (lv_at hl 0 rfl) ?_
            refine pg_gi (ci := 5) (C := RX5) (T := TX5) (N := 4) hx hb hts wi5 hown hK hW (hF.k hk (by decide)) (by decide) rfl 3 (by decide) (hts (.fieldLink RX5 22 "IceHall$RightsReader" "fault" "I") (by decide +kernel)) (fun _ h9 => h9) rfl dX5_readInto_80 ?_
            rw [show sI S29 h 3 = sI L23 h 3 from w32]
            have lk33 : (sI S29 h 1).toInt = (sI L23 h 1).toInt := by rw [show sI S29 h 1 = sI L23 h 1 from w30]
            have lk34 : (sI S29 h 2).toInt = (sI L23 h 2).toInt := by rw [show sI S29 h 2 = sI L23 h 2 from w31]
            have lk35 : (sI S29 h 3).toInt = (sI L23 h 3).toInt := by rw [show sI S29 h 3 = sI L23 h 3 from w32]
            exact pc_iret (v := sI L23 h 3) (S := S29) hx hb hr hlk hK hZ hA hW hS (⟨hG, hF, (hst.resolve_left (fun h9 => by have h8 := h9.1; have h7 := h9.2.1; have h6 := h9.2.2.1; omega)).2.c rfl (by first | rfl | omega)⟩) dX5_readInto_83
        · have c26i : ¬ (Int32.toInt w = (0 : Int)) := fun h9 => c26 ((i3_eq _ _).mpr h9)
          obtain ⟨hw, hyp, hpn, hf0, hcont⟩ := hst.resolve_right (fun h9 => by have h8 := h9.1; omega)
          refine lv_iload_n hx hb dX5_readInto_35 rfl (lv_at hl 3 rfl) ?_
          refine lv_aload_n hx hb dX5_readInto_36 rfl (lv_at hl 0 rfl) ?_
          refine lv_aload_n hx hb dX5_readInto_37 rfl (lv_at hl 1 rfl) ?_
          refine pc_Vi (As := [.ref x]) (rest := [.int z]) F (b_X5_readClause l D cy A L23 h x t bt f n hG (hF.k hk (by decide)) (hF.k hkx (by decide)) (hF.r hk (by decide) hr0) (hF.k hkt (by decide)) (hF.r hkt (by decide) hr1) (hF.k hkb (by decide)) (hF.n hkb (by decide) hlb) (by omega) (by omega) (fun j hj => (hF.iA hkb (by decide) (by decide) (by decide)).trans (hf j hj)) (by omega) (by omega) (by omega)) (cwV 1 hts gX5_readInto_X5_readClause rfl rfl rfl (by decide +kernel) ⟨Nat.le_of_ble_eq_true rfl, Nat.le_of_ble_eq_true rfl⟩) hK hZ hA hW hS (hF.k hk (by decide)) (by decide) rfl rfl hl.1 rfl (Nat.le_of_ble_eq_true rfl) dX5_readInto_38 ⟨Nat.le_of_ble_eq_true rfl, Nat.le_of_ble_eq_true rfl⟩ (fun v36 T37 H locs p38 hW hS => ?_)
          obtain ⟨hG, hFc, p38⟩ := p38
          have w39 : sI T37 h 1 = sI L23 h 1 := (hFc.i (hF.k hk (by decide)) (by decide) (by decide)).trans rfl
          have hF : Fr [] [400, 401, 402, 403, 404, 405, 501, 502, 503] S T37 := hF.tr (hFc.mono (by decide))
          have hE15 : Fr [] [400, 401, 402, 403, 404, 405, 501, 502, 503] S11 T37 := hE15.tr (hFc.mono (by decide))
          have hC := p38
          have hCk := fun h9 => hC.ok h9 (by omega)
          have hCk2 : ¬ (sI T37 h 3).toInt = 0 ∨ (sI T37 h 2).toInt ≤ n ∧ (sI L23 h 2).toInt < (sI T37 h 2).toInt := (Decidable.em ((sI T37 h 3).toInt = 0)).elim (fun h9 => Or.inr (hCk h9)) Or.inl
          refine lv_ior hx hb dX5_readInto_41 ?_
          refine lv_istore_n (lv' := [(3, .int (z ||| v36)), (0, .ref h), (1, .ref x), (2, .int b), (4, .int w), (5, .int y)]) hx hb dX5_readInto_42 rfl hl (by decide) rfl (fun ls hl => ?_)
          refine lv_aload_n hx hb dX5_readInto_43 rfl (lv_at hl 1 rfl) ?_
          refine pg_gi (ci := 5) (C := RX5) (T := TX5) (N := 4) hx hb hts wi5 hown hK hW (hF.k hk (by decide)) (by decide) rfl 3 (by decide) (hts (.fieldLink RX5 22 "IceHall$RightsReader" "fault" "I") (by decide +kernel)) (fun _ h9 => h9) rfl dX5_readInto_44 ?_
          rw [show sI T37 h 3 = sI T37 h 3 from rfl]
          refine lv_if_ne (tgt := 61) hx hb dX5_readInto_47 (by decide) (fun c40 => ?_) (fun c40 => ?_)
          · have c40i : ¬ (Int32.toInt (sI T37 h 3) = (0 : Int)) := fun h9 => c40 ((i3_eq _ _).mpr h9)
            refine lv_iconst (v := 0) hx hb dX5_readInto_61 (by decide) ?_
            refine lv_istore (lv' := [(4, .int 0), (3, .int (z ||| v36)), (0, .ref h), (1, .ref x), (2, .int b), (5, .int y)]) hx hb dX5_readInto_62 hl (by decide) rfl (fun ls hl => ?_)
            refine lv_iinc (v := y + 1) (lv' := [(5, .int (y + 1)), (4, .int 0), (3, .int (z ||| v36)), (0, .ref h), (1, .ref x), (2, .int b)]) hx hb dX5_readInto_64 hl (k := 5) rfl rfl (by decide) rfl (fun ls hl => ?_)
            have i41 : (y + 1).toInt = (y).toInt + 1 := i3_add rfl rfl (by omega) (by omega)
            refine lv_goto (tgt := 23) hx hb dX5_readInto_67 (by decide) ?_
            have lk42 : (sI T37 h 1).toInt = (sI L23 h 1).toInt := by rw [show sI T37 h 1 = sI L23 h 1 from w39]
            exact ih23 (z ||| v36) 0 (y + 1) T37 _ _ ls hG hE15 (by omega) (by omega) (Or.inr ⟨rfl, hcont _ ((TX.bad hC (by omega)).c rfl (by omega))⟩) (by omega) hW hS (lv_cast (lv_sub hl [3, 4, 5, 2, 1, 0] rfl) (rfl))
          · have c40i : Int32.toInt (sI T37 h 3) = (0 : Int) := (i3_eq _ _).mp c40
            refine lv_aload_n hx hb dX5_readInto_50 rfl (lv_at hl 1 rfl) ?_
            have lk43 : (sI T37 h 1).toInt = (sI L23 h 1).toInt := by rw [show sI T37 h 1 = sI L23 h 1 from w39]
            refine pc_Vi (As := []) (rest := []) F (b_X5_readOn l D cy A T37 h t bt f n hG (hF.k hk (by decide)) (hF.r hk (by decide) hr0) (hF.k hkt (by decide)) (hF.r hkt (by decide) hr1) (hF.k hkb (by decide)) (hF.n hkb (by decide) hlb) (by omega) (by omega) (fun j hj => (hF.iA hkb (by decide) (by decide) (by decide)).trans (hf j hj)) (by omega) (by omega) (by omega)) (cwV 0 hts gX5_readInto_X5_readOn rfl rfl rfl (by decide +kernel) ⟨Nat.le_of_ble_eq_true rfl, Nat.le_of_ble_eq_true rfl⟩) hK hZ hA hW hS (hF.k hk (by decide)) (by decide) rfl rfl hl.1 rfl (Nat.le_of_ble_eq_true rfl) dX5_readInto_51 ⟨Nat.le_of_ble_eq_true rfl, Nat.le_of_ble_eq_true rfl⟩ (fun v44 T45 H locs p46 hW hS => ?_)
            obtain ⟨hG, hFc, p46⟩ := p46
            have w47 : sI T45 h 1 = sI L23 h 1 := (hFc.i (hF.k hk (by decide)) (by decide) (by decide)).trans w39
            have hF : Fr [] [400, 401, 402, 403, 404, 405, 501, 502, 503] S T45 := hF.tr (hFc.mono (by decide))
            have hE15 : Fr [] [400, 401, 402, 403, 404, 405, 501, 502, 503] S11 T45 := hE15.tr (hFc.mono (by decide))
            refine lv_if_eq (tgt := 61) hx hb dX5_readInto_54 (by decide) (fun c48 => ?_) (fun c48 => ?_)
            · have c48i : Int32.toInt v44 = (0 : Int) := (i3_eq _ _).mp c48
              refine lv_iconst (v := 0) hx hb dX5_readInto_61 (by decide) ?_
              refine lv_istore (lv' := [(4, .int 0), (3, .int (z ||| v36)), (0, .ref h), (1, .ref x), (2, .int b), (5, .int y)]) hx hb dX5_readInto_62 hl (by decide) rfl (fun ls hl => ?_)
              refine lv_iinc (v := y + 1) (lv' := [(5, .int (y + 1)), (4, .int 0), (3, .int (z ||| v36)), (0, .ref h), (1, .ref x), (2, .int b)]) hx hb dX5_readInto_64 hl (k := 5) rfl rfl (by decide) rfl (fun ls hl => ?_)
              have i49 : (y + 1).toInt = (y).toInt + 1 := i3_add rfl rfl (by omega) (by omega)
              refine lv_goto (tgt := 23) hx hb dX5_readInto_67 (by decide) ?_
              have lk50 : (sI T45 h 1).toInt = (sI L23 h 1).toInt := by rw [show sI T45 h 1 = sI L23 h 1 from w47]
              exact ih23 (z ||| v36) 0 (y + 1) T45 _ _ ls hG hE15 (by omega) (by omega) (Or.inr ⟨rfl, hcont _ (by rcases p46 with h9 | h9 | h9; exact TX.fin hC (by omega) (by omega) (by omega); exact TX.stop hC (by omega) (by omega) (by omega) (by omega); exact absurd h9.1 (by omega))⟩) (by omega) hW hS (lv_cast (lv_sub hl [3, 4, 5, 2, 1, 0] rfl) (rfl))
            · have c48i : ¬ (Int32.toInt v44 = (0 : Int)) := fun h9 => c48 ((i3_eq _ _).mpr h9)
              refine lv_iconst (v := 1) hx hb dX5_readInto_57 (by decide) ?_
              refine lv_goto (tgt := 62) hx hb dX5_readInto_58 (by decide) ?_
              refine lv_istore (lv' := [(4, .int 1), (3, .int (z ||| v36)), (0, .ref h), (1, .ref x), (2, .int b), (5, .int y)]) hx hb dX5_readInto_62 hl (by decide) rfl (fun ls hl => ?_)
              refine lv_iinc (v := y + 1) (lv' := [(5, .int (y + 1)), (4, .int 1), (3, .int (z ||| v36)), (0, .ref h), (1, .ref x), (2, .int b)]) hx hb dX5_readInto_64 hl (k := 5) rfl rfl (by decide) rfl (fun ls hl => ?_)
              have i51 : (y + 1).toInt = (y).toInt + 1 := i3_add rfl rfl (by omega) (by omega)
              refine lv_goto (tgt := 23) hx hb dX5_readInto_67 (by decide) ?_
              have lk52 : (sI T45 h 1).toInt = (sI L23 h 1).toInt := by rw [show sI T45 h 1 = sI L23 h 1 from w47]
              exact ih23 (z ||| v36) 1 (y + 1) T45 _ _ ls hG hE15 (by omega) (by omega) (Or.inl ⟨by decide, by omega, by omega, by omega, fun r9 h9 => hcont r9 (TX.on hC (by omega) (by omega) (by omega) (by omega) h9)⟩) (by omega) hW hS (lv_cast (lv_sub hl [3, 4, 5, 2, 1, 0] rfl) (rfl))
  have lk53 : (sI S11 h 1).toInt = (b).toInt := by rw [show sI S11 h 1 = b from w12]
  have lk54 : (sI S11 h 2).toInt = (0 : Int) := by rw [show sI S11 h 2 = 0 from w13]; rfl
  have lk55 : (sI S11 h 3).toInt = (0 : Int) := by rw [show sI S11 h 3 = 0 from w14]; rfl
  exact loop23 _ 0 1 0 S11 _ _ ls hG hE15 (by decide) (by omega) (Or.inl ⟨by decide, by omega, by omega, by omega, fun r9 h9 => h9.c (by omega) rfl⟩) (Nat.lt_succ_self _) hW hS (lv_cast (lv_sub hl [3, 4, 5, 2, 1, 0] rfl) (rfl))
set_option maxHeartbeats 4000000 in
set_option maxRecDepth 100000 in
theorem b_X7_addWord (l : Launch) (D : va_G) (cy : Nat → ClassId) (A : Nat → Prop) (S : St) (h bt : Nat) (a : Int32) (hG0 : G S) (hk : sK S h = 7) (hr1 : sR S h 0 = some bt) (hkb : sK S bt = 10) (hlb : sL S bt = 80) (hs : (sI S h 1).toInt ≤ 76) : MV l yX7_addWord wsX7_addWord ({ frames := 1, cells := 0, slots := 0, locals := 21 } : Room) 0 0 D cy A [.ref h, .int a] S (fun S1 => G S1 ∧ Fr [] [701, 1000] S S1 ∧ ((sI S1 h 1).toInt = (sI S h 1).toInt + 4 ∧ sI S1 bt = pw4 (sI S bt) (sI S h 1).toInt.toNat a)) := by
  refine mt_start (cc := cX7_addWord) (maxL := 3) (ret := none) (by decide) rfl (Nat.le_of_ble_eq_true rfl) ?_
  intro p e s m args below meth c hx hb hr hlk hml hown hnm hts hK hZ hA hW hS ls hl
  have hl : lv_has ls 3 [(0, .ref h), (1, .int a)] := hl
  have hown : s.vm.findClass RX7 = some m.cls := hown
  have F : CallFix p m c cX7_addWord 3 s args wsX7_addWord RX7 := ⟨hx, hb, hml, hown, hts⟩
  have wi7 : ∀ w ∈ u_ws RX7 TX7 2, w ∈ wsX7_addWord := by decide +kernel
  have hG := hG0
  have hF : Fr [] [701, 1000] S S := Fr.rf _ _ _
  have hC : sI S bt = sI S bt := rfl
  have g1 : (0 : Int) ≤ (sI S h 1).toInt ∧ (sI S h 1).toInt ≤ 80 := hG0.i hk (by decide) 1 (by decide)
  refine lv_bipush (v := 24) hx hb dX7_addWord_0 (by decide) ?_
  refine lv_istore_n (lv' := [(2, .int 24), (0, .ref h), (1, .int a)]) hx hb dX7_addWord_2 rfl hl (by decide) rfl (fun ls hl => ?_)
  refine lv_iload_n hx hb dX7_addWord_3 rfl (lv_at hl 0 rfl) ?_
  refine lv_if_lt (tgt := 48) hx hb dX7_addWord_4 (by decide) (fun c2 => absurd c2 (by decide)) (fun c2 => ?_)
  refine lv_aload_n hx hb dX7_addWord_7 rfl (lv_at hl 1 rfl) ?_
  refine pg_gi (ci := 7) (C := RX7) (T := TX7) (N := 2) hx hb hts wi7 hown hK hW hk (by decide) rfl 1 (by decide) (hts (.fieldLink RX7 15 "IceHall$Tape" "size" "I") (by decide +kernel)) (fun _ h9 => h9) rfl dX7_addWord_8 ?_
  rw [show sI S h 1 = sI S h 1 from rfl]
  refine lv_bipush (v := 80) hx hb dX7_addWord_11 (by decide) ?_
  refine pc_Ni (As := [.int (sI S h 1), .int 80]) (rest := []) F (b_X8_isBelow l D cy A S (sI S h 1) 80 ) ⟨va_cnB 2 hts gX7_addWord_X8_isBelow_n19 rfl rfl rfl hZ.2.2.2.2.2.2.2.2.2.2.2.1 (hts (.initialized RX8) (by decide +kernel)) (by decide +kernel) ⟨Nat.le_of_ble_eq_true rfl, Nat.le_of_ble_eq_true rfl⟩, hts (.static yX8_isBelow) (by decide +kernel), trivial⟩ hK hZ hA hW hS rfl hl.1 rfl (Nat.le_of_ble_eq_true rfl) dX7_addWord_13 ⟨Nat.le_of_ble_eq_true rfl, Nat.le_of_ble_eq_true rfl⟩ (fun v3 T4 H locs p5 hW hS => ?_)
  obtain ⟨eT4, p5⟩ := p5
  rw [eT4] at hW
  clear eT4
  have p5 := isb_lit (n := 80) rfl p5
  refine lv_if_eq (tgt := 42) hx hb dX7_addWord_16 (by decide) (fun c6 => absurd c6 (by intro h9; have h8 : v3.toInt = (0 : Int) := (i3_eq _ _).mp h9; omega)) (fun c6 => ?_)
  refine lv_aload_n hx hb dX7_addWord_19 rfl (lv_at hl 1 rfl) ?_
  refine pg_gr (b := bt) (ci := 7) (C := RX7) (T := TX7) (N := 2) hx hb hts wi7 hown hK hW hk (by decide) rfl 0 (by decide) (hts (.fieldLink RX7 9 "IceHall$Tape" "bytes" "[B") (by decide +kernel)) (fun _ h9 => h9) rfl hr1 dX7_addWord_20 ?_
  refine lv_aload_n hx hb dX7_addWord_23 rfl (lv_at hl 1 rfl) ?_
  refine pg_gi (ci := 7) (C := RX7) (T := TX7) (N := 2) hx hb hts wi7 hown hK hW hk (by decide) rfl 1 (by decide) (hts (.fieldLink RX7 15 "IceHall$Tape" "size" "I") (by decide +kernel)) (fun _ h9 => h9) rfl dX7_addWord_24 ?_
  rw [show sI S h 1 = sI S h 1 from rfl]
  refine lv_iload_n hx hb dX7_addWord_27 rfl (lv_at hl 2 rfl) ?_
  refine lv_iload_n hx hb dX7_addWord_28 rfl (lv_at hl 0 rfl) ?_
  refine lv_ishr hx hb dX7_addWord_29 ?_
  refine lv_i2b (v := Int8.toInt32 (Int32.toInt8 (a >>> (24 &&& 31)))) hx hb dX7_addWord_30 rfl ?_
  refine pg_bast hx hb hK hW hS hkb (by rw [show sL S bt = 80 from hlb]; exact r_in (by omega)) dX7_addWord_31 (fun H locs hW hS => ?_)
  obtain ⟨S7, eS7⟩ : ∃ T : St, T = stI S bt (Int32.toNatClampNeg (sI S h 1)) (vp_nar .byte (Int8.toInt32 (Int32.toInt8 (a >>> (24 &&& 31))))) := ⟨_, rfl⟩
  rw [← eS7] at hW
  have hG : G S7 := by rw [eS7]; exact hG.I hkb (ok_frA (by decide) (by decide))
  have w8 : sI S7 h 1 = sI S h 1 := by rw [eS7]; exact (iI_a (fk_ne hk hkb (by decide))).trans rfl
  have hC : sI S7 bt = up (sI S bt) (Int32.toNatClampNeg (sI S h 1)) (vp_nar .byte (Int8.toInt32 (Int32.toInt8 (a >>> (24 &&& 31))))) := by rw [eS7, cI_s, hC]
  have hF : Fr [] [701, 1000] S S7 := by rw [eS7]; exact hF.IA hkb (by decide) (by decide)
  clear eS7
  refine lv_aload_n hx hb dX7_addWord_32 rfl (lv_at hl 1 rfl) ?_
  refine lv_dup hx hb dX7_addWord_33 rfl ?_
  refine pg_gi (ci := 7) (C := RX7) (T := TX7) (N := 2) hx hb hts wi7 hown hK hW (hF.k hk (by decide)) (by decide) rfl 1 (by decide) (hts (.fieldLink RX7 15 "IceHall$Tape" "size" "I") (by decide +kernel)) (fun _ h9 => h9) rfl dX7_addWord_34 ?_
  rw [show sI S7 h 1 = sI S h 1 from w8]
  refine lv_iconst (v := 1) hx hb dX7_addWord_37 (by decide) ?_
  refine lv_iadd hx hb dX7_addWord_38 ?_
  have l9 : ((sI S h 1) + 1).toInt = Int32.toInt (sI S h 1) + (1 : Int) := i3_add rfl rfl (by omega) (by omega)
  refine pg_pi (ci := 7) (C := RX7) (T := TX7) (N := 2) hx hb hts wi7 tyX7 tyX7_ok nmX7 hown hK hW hS (hF.k hk (by decide)) (by decide) rfl 1 (by decide) (hts (.fieldLink RX7 15 "IceHall$Tape" "size" "I") (by decide +kernel)) (fun _ h9 => h9) rfl rfl rfl dX7_addWord_39 (fun H locs hW hS => ?_)
  have kq10 : sK S7 h = 7 := (hF.k hk (by decide))
  obtain ⟨S11, eS11⟩ : ∃ T : St, T = stI S7 h 1 ((sI S h 1) + 1) := ⟨_, rfl⟩
  rw [← eS11] at hW
  have hG : G S11 := by rw [eS11]; exact hG.I kq10 (ok_in 0 80 (by decide) (⟨by omega, by omega⟩))
  have hC : sI S11 bt = up (sI S bt) (Int32.toNatClampNeg (sI S h 1)) (vp_nar .byte (Int8.toInt32 (Int32.toInt8 (a >>> (24 &&& 31))))) := by rw [eS11]; exact (cI_a (fk_ne (hF.k hkb (by decide)) (hF.k hk (by decide)) (by decide))).trans hC
  have hF : Fr [] [701, 1000] S S11 := by rw [eS11]; exact hF.I kq10 (by decide)
  have w12 : sI S11 h 1 = (sI S h 1) + 1 := by rw [eS11]; exact iI_s
  clear eS11
  refine lv_iinc (v := 16) (lv' := [(2, .int 16), (0, .ref h), (1, .int a)]) hx hb dX7_addWord_42 hl (k := 0) rfl (by decide) (by decide) rfl (fun ls hl => ?_)
  refine lv_goto (tgt := 3) hx hb dX7_addWord_45 (by decide) ?_
  refine lv_iload_n hx hb dX7_addWord_3 rfl (lv_at hl 0 rfl) ?_
  refine lv_if_lt (tgt := 48) hx hb dX7_addWord_4 (by decide) (fun c13 => absurd c13 (by decide)) (fun c13 => ?_)
  refine lv_aload_n hx hb dX7_addWord_7 rfl (lv_at hl 1 rfl) ?_
  refine pg_gi (ci := 7) (C := RX7) (T := TX7) (N := 2) hx hb hts wi7 hown hK hW (hF.k hk (by decide)) (by decide) rfl 1 (by decide) (hts (.fieldLink RX7 15 "IceHall$Tape" "size" "I") (by decide +kernel)) (fun _ h9 => h9) rfl dX7_addWord_8 ?_
  rw [show sI S11 h 1 = (sI S h 1) + 1 from w12]
  refine lv_bipush (v := 80) hx hb dX7_addWord_11 (by decide) ?_
  have lk14 : (sI S11 h 1).toInt = ((sI S h 1) + 1).toInt := by rw [show sI S11 h 1 = (sI S h 1) + 1 from w12]
  refine pc_Ni (As := [.int ((sI S h 1) + 1), .int 80]) (rest := []) F (b_X8_isBelow l D cy A S11 ((sI S h 1) + 1) 80 ) ⟨va_cnB 2 hts gX7_addWord_X8_isBelow_n19 rfl rfl rfl hZ.2.2.2.2.2.2.2.2.2.2.2.1 (hts (.initialized RX8) (by decide +kernel)) (by decide +kernel) ⟨Nat.le_of_ble_eq_true rfl, Nat.le_of_ble_eq_true rfl⟩, hts (.static yX8_isBelow) (by decide +kernel), trivial⟩ hK hZ hA hW hS rfl hl.1 rfl (Nat.le_of_ble_eq_true rfl) dX7_addWord_13 ⟨Nat.le_of_ble_eq_true rfl, Nat.le_of_ble_eq_true rfl⟩ (fun v15 T16 H locs p17 hW hS => ?_)
  obtain ⟨eT16, p17⟩ := p17
  rw [eT16] at hW
  clear eT16
  have p17 := isb_lit (n := 80) rfl p17
  refine lv_if_eq (tgt := 42) hx hb dX7_addWord_16 (by decide) (fun c18 => absurd c18 (by intro h9; have h8 : v15.toInt = (0 : Int) := (i3_eq _ _).mp h9; omega)) (fun c18 => ?_)
  refine lv_aload_n hx hb dX7_addWord_19 rfl (lv_at hl 1 rfl) ?_
  refine pg_gr (b := bt) (ci := 7) (C := RX7) (T := TX7) (N := 2) hx hb hts wi7 hown hK hW (hF.k hk (by decide)) (by decide) rfl 0 (by decide) (hts (.fieldLink RX7 9 "IceHall$Tape" "bytes" "[B") (by decide +kernel)) (fun _ h9 => h9) rfl (hF.r hk (by decide) hr1) dX7_addWord_20 ?_
  refine lv_aload_n hx hb dX7_addWord_23 rfl (lv_at hl 1 rfl) ?_
  refine pg_gi (ci := 7) (C := RX7) (T := TX7) (N := 2) hx hb hts wi7 hown hK hW (hF.k hk (by decide)) (by decide) rfl 1 (by decide) (hts (.fieldLink RX7 15 "IceHall$Tape" "size" "I") (by decide +kernel)) (fun _ h9 => h9) rfl dX7_addWord_24 ?_
  rw [show sI S11 h 1 = (sI S h 1) + 1 from w12]
  refine lv_iload_n hx hb dX7_addWord_27 rfl (lv_at hl 2 rfl) ?_
  refine lv_iload_n hx hb dX7_addWord_28 rfl (lv_at hl 0 rfl) ?_
  refine lv_ishr hx hb dX7_addWord_29 ?_
  refine lv_i2b (v := Int8.toInt32 (Int32.toInt8 (a >>> (16 &&& 31)))) hx hb dX7_addWord_30 rfl ?_
  refine pg_bast hx hb hK hW hS (hF.k hkb (by decide)) (by rw [show sL S11 bt = 80 from (hF.n hkb (by decide) hlb)]; exact r_in (by omega)) dX7_addWord_31 (fun H locs hW hS => ?_)
  have kq19 : sK S11 bt = 10 := (hF.k hkb (by decide))
  obtain ⟨S20, eS20⟩ : ∃ T : St, T = stI S11 bt (Int32.toNatClampNeg ((sI S h 1) + 1)) (vp_nar .byte (Int8.toInt32 (Int32.toInt8 (a >>> (16 &&& 31))))) := ⟨_, rfl⟩
  rw [← eS20] at hW
  have hG : G S20 := by rw [eS20]; exact hG.I kq19 (ok_frA (by decide) (by decide))
  have w21 : sI S20 h 1 = (sI S h 1) + 1 := by rw [eS20]; exact (iI_a (fk_ne (hF.k hk (by decide)) kq19 (by decide))).trans w12
  have hC : sI S20 bt = up (up (sI S bt) (Int32.toNatClampNeg (sI S h 1)) (vp_nar .byte (Int8.toInt32 (Int32.toInt8 (a >>> (24 &&& 31)))))) (Int32.toNatClampNeg ((sI S h 1) + 1)) (vp_nar .byte (Int8.toInt32 (Int32.toInt8 (a >>> (16 &&& 31))))) := by rw [eS20, cI_s, hC]
  have hF : Fr [] [701, 1000] S S20 := by rw [eS20]; exact hF.IA kq19 (by decide) (by decide)
  clear eS20
  refine lv_aload_n hx hb dX7_addWord_32 rfl (lv_at hl 1 rfl) ?_
  refine lv_dup hx hb dX7_addWord_33 rfl ?_
  refine pg_gi (ci := 7) (C := RX7) (T := TX7) (N := 2) hx hb hts wi7 hown hK hW (hF.k hk (by decide)) (by decide) rfl 1 (by decide) (hts (.fieldLink RX7 15 "IceHall$Tape" "size" "I") (by decide +kernel)) (fun _ h9 => h9) rfl dX7_addWord_34 ?_
  rw [show sI S20 h 1 = (sI S h 1) + 1 from w21]
  refine lv_iconst (v := 1) hx hb dX7_addWord_37 (by decide) ?_
  refine lv_iadd hx hb dX7_addWord_38 ?_
  have l22 : (((sI S h 1) + 1) + 1).toInt = Int32.toInt ((sI S h 1) + 1) + (1 : Int) := i3_add rfl rfl (by omega) (by omega)
  refine pg_pi (ci := 7) (C := RX7) (T := TX7) (N := 2) hx hb hts wi7 tyX7 tyX7_ok nmX7 hown hK hW hS (hF.k hk (by decide)) (by decide) rfl 1 (by decide) (hts (.fieldLink RX7 15 "IceHall$Tape" "size" "I") (by decide +kernel)) (fun _ h9 => h9) rfl rfl rfl dX7_addWord_39 (fun H locs hW hS => ?_)
  have kq23 : sK S20 h = 7 := (hF.k hk (by decide))
  obtain ⟨S24, eS24⟩ : ∃ T : St, T = stI S20 h 1 (((sI S h 1) + 1) + 1) := ⟨_, rfl⟩
  rw [← eS24] at hW
  have hG : G S24 := by rw [eS24]; exact hG.I kq23 (ok_in 0 80 (by decide) (⟨by omega, by omega⟩))
  have hC : sI S24 bt = up (up (sI S bt) (Int32.toNatClampNeg (sI S h 1)) (vp_nar .byte (Int8.toInt32 (Int32.toInt8 (a >>> (24 &&& 31)))))) (Int32.toNatClampNeg ((sI S h 1) + 1)) (vp_nar .byte (Int8.toInt32 (Int32.toInt8 (a >>> (16 &&& 31))))) := by rw [eS24]; exact (cI_a (fk_ne (hF.k hkb (by decide)) (hF.k hk (by decide)) (by decide))).trans hC
  have hF : Fr [] [701, 1000] S S24 := by rw [eS24]; exact hF.I kq23 (by decide)
  have w25 : sI S24 h 1 = ((sI S h 1) + 1) + 1 := by rw [eS24]; exact iI_s
  clear eS24
  refine lv_iinc (v := 8) (lv' := [(2, .int 8), (0, .ref h), (1, .int a)]) hx hb dX7_addWord_42 hl (k := 0) rfl (by decide) (by decide) rfl (fun ls hl => ?_)
  refine lv_goto (tgt := 3) hx hb dX7_addWord_45 (by decide) ?_
  refine lv_iload_n hx hb dX7_addWord_3 rfl (lv_at hl 0 rfl) ?_
  refine lv_if_lt (tgt := 48) hx hb dX7_addWord_4 (by decide) (fun c26 => absurd c26 (by decide)) (fun c26 => ?_)
  refine lv_aload_n hx hb dX7_addWord_7 rfl (lv_at hl 1 rfl) ?_
  refine pg_gi (ci := 7) (C := RX7) (T := TX7) (N := 2) hx hb hts wi7 hown hK hW (hF.k hk (by decide)) (by decide) rfl 1 (by decide) (hts (.fieldLink RX7 15 "IceHall$Tape" "size" "I") (by decide +kernel)) (fun _ h9 => h9) rfl dX7_addWord_8 ?_
  rw [show sI S24 h 1 = ((sI S h 1) + 1) + 1 from w25]
  refine lv_bipush (v := 80) hx hb dX7_addWord_11 (by decide) ?_
  have lk27 : (sI S24 h 1).toInt = (((sI S h 1) + 1) + 1).toInt := by rw [show sI S24 h 1 = ((sI S h 1) + 1) + 1 from w25]
  refine pc_Ni (As := [.int (((sI S h 1) + 1) + 1), .int 80]) (rest := []) F (b_X8_isBelow l D cy A S24 (((sI S h 1) + 1) + 1) 80 ) ⟨va_cnB 2 hts gX7_addWord_X8_isBelow_n19 rfl rfl rfl hZ.2.2.2.2.2.2.2.2.2.2.2.1 (hts (.initialized RX8) (by decide +kernel)) (by decide +kernel) ⟨Nat.le_of_ble_eq_true rfl, Nat.le_of_ble_eq_true rfl⟩, hts (.static yX8_isBelow) (by decide +kernel), trivial⟩ hK hZ hA hW hS rfl hl.1 rfl (Nat.le_of_ble_eq_true rfl) dX7_addWord_13 ⟨Nat.le_of_ble_eq_true rfl, Nat.le_of_ble_eq_true rfl⟩ (fun v28 T29 H locs p30 hW hS => ?_)
  obtain ⟨eT29, p30⟩ := p30
  rw [eT29] at hW
  clear eT29
  have p30 := isb_lit (n := 80) rfl p30
  refine lv_if_eq (tgt := 42) hx hb dX7_addWord_16 (by decide) (fun c31 => absurd c31 (by intro h9; have h8 : v28.toInt = (0 : Int) := (i3_eq _ _).mp h9; omega)) (fun c31 => ?_)
  refine lv_aload_n hx hb dX7_addWord_19 rfl (lv_at hl 1 rfl) ?_
  refine pg_gr (b := bt) (ci := 7) (C := RX7) (T := TX7) (N := 2) hx hb hts wi7 hown hK hW (hF.k hk (by decide)) (by decide) rfl 0 (by decide) (hts (.fieldLink RX7 9 "IceHall$Tape" "bytes" "[B") (by decide +kernel)) (fun _ h9 => h9) rfl (hF.r hk (by decide) hr1) dX7_addWord_20 ?_
  refine lv_aload_n hx hb dX7_addWord_23 rfl (lv_at hl 1 rfl) ?_
  refine pg_gi (ci := 7) (C := RX7) (T := TX7) (N := 2) hx hb hts wi7 hown hK hW (hF.k hk (by decide)) (by decide) rfl 1 (by decide) (hts (.fieldLink RX7 15 "IceHall$Tape" "size" "I") (by decide +kernel)) (fun _ h9 => h9) rfl dX7_addWord_24 ?_
  rw [show sI S24 h 1 = ((sI S h 1) + 1) + 1 from w25]
  refine lv_iload_n hx hb dX7_addWord_27 rfl (lv_at hl 2 rfl) ?_
  refine lv_iload_n hx hb dX7_addWord_28 rfl (lv_at hl 0 rfl) ?_
  refine lv_ishr hx hb dX7_addWord_29 ?_
  refine lv_i2b (v := Int8.toInt32 (Int32.toInt8 (a >>> (8 &&& 31)))) hx hb dX7_addWord_30 rfl ?_
  refine pg_bast hx hb hK hW hS (hF.k hkb (by decide)) (by rw [show sL S24 bt = 80 from (hF.n hkb (by decide) hlb)]; exact r_in (by omega)) dX7_addWord_31 (fun H locs hW hS => ?_)
  have kq32 : sK S24 bt = 10 := (hF.k hkb (by decide))
  obtain ⟨S33, eS33⟩ : ∃ T : St, T = stI S24 bt (Int32.toNatClampNeg (((sI S h 1) + 1) + 1)) (vp_nar .byte (Int8.toInt32 (Int32.toInt8 (a >>> (8 &&& 31))))) := ⟨_, rfl⟩
  rw [← eS33] at hW
  have hG : G S33 := by rw [eS33]; exact hG.I kq32 (ok_frA (by decide) (by decide))
  have w34 : sI S33 h 1 = ((sI S h 1) + 1) + 1 := by rw [eS33]; exact (iI_a (fk_ne (hF.k hk (by decide)) kq32 (by decide))).trans w25
  have hC : sI S33 bt = up (up (up (sI S bt) (Int32.toNatClampNeg (sI S h 1)) (vp_nar .byte (Int8.toInt32 (Int32.toInt8 (a >>> (24 &&& 31)))))) (Int32.toNatClampNeg ((sI S h 1) + 1)) (vp_nar .byte (Int8.toInt32 (Int32.toInt8 (a >>> (16 &&& 31)))))) (Int32.toNatClampNeg (((sI S h 1) + 1) + 1)) (vp_nar .byte (Int8.toInt32 (Int32.toInt8 (a >>> (8 &&& 31))))) := by rw [eS33, cI_s, hC]
  have hF : Fr [] [701, 1000] S S33 := by rw [eS33]; exact hF.IA kq32 (by decide) (by decide)
  clear eS33
  refine lv_aload_n hx hb dX7_addWord_32 rfl (lv_at hl 1 rfl) ?_
  refine lv_dup hx hb dX7_addWord_33 rfl ?_
  refine pg_gi (ci := 7) (C := RX7) (T := TX7) (N := 2) hx hb hts wi7 hown hK hW (hF.k hk (by decide)) (by decide) rfl 1 (by decide) (hts (.fieldLink RX7 15 "IceHall$Tape" "size" "I") (by decide +kernel)) (fun _ h9 => h9) rfl dX7_addWord_34 ?_
  rw [show sI S33 h 1 = ((sI S h 1) + 1) + 1 from w34]
  refine lv_iconst (v := 1) hx hb dX7_addWord_37 (by decide) ?_
  refine lv_iadd hx hb dX7_addWord_38 ?_
  have l35 : ((((sI S h 1) + 1) + 1) + 1).toInt = Int32.toInt (((sI S h 1) + 1) + 1) + (1 : Int) := i3_add rfl rfl (by omega) (by omega)
  refine pg_pi (ci := 7) (C := RX7) (T := TX7) (N := 2) hx hb hts wi7 tyX7 tyX7_ok nmX7 hown hK hW hS (hF.k hk (by decide)) (by decide) rfl 1 (by decide) (hts (.fieldLink RX7 15 "IceHall$Tape" "size" "I") (by decide +kernel)) (fun _ h9 => h9) rfl rfl rfl dX7_addWord_39 (fun H locs hW hS => ?_)
  have kq36 : sK S33 h = 7 := (hF.k hk (by decide))
  obtain ⟨S37, eS37⟩ : ∃ T : St, T = stI S33 h 1 ((((sI S h 1) + 1) + 1) + 1) := ⟨_, rfl⟩
  rw [← eS37] at hW
  have hG : G S37 := by rw [eS37]; exact hG.I kq36 (ok_in 0 80 (by decide) (⟨by omega, by omega⟩))
  have hC : sI S37 bt = up (up (up (sI S bt) (Int32.toNatClampNeg (sI S h 1)) (vp_nar .byte (Int8.toInt32 (Int32.toInt8 (a >>> (24 &&& 31)))))) (Int32.toNatClampNeg ((sI S h 1) + 1)) (vp_nar .byte (Int8.toInt32 (Int32.toInt8 (a >>> (16 &&& 31)))))) (Int32.toNatClampNeg (((sI S h 1) + 1) + 1)) (vp_nar .byte (Int8.toInt32 (Int32.toInt8 (a >>> (8 &&& 31))))) := by rw [eS37]; exact (cI_a (fk_ne (hF.k hkb (by decide)) (hF.k hk (by decide)) (by decide))).trans hC
  have hF : Fr [] [701, 1000] S S37 := by rw [eS37]; exact hF.I kq36 (by decide)
  have w38 : sI S37 h 1 = (((sI S h 1) + 1) + 1) + 1 := by rw [eS37]; exact iI_s
  clear eS37
  refine lv_iinc (v := 0) (lv' := [(2, .int 0), (0, .ref h), (1, .int a)]) hx hb dX7_addWord_42 hl (k := 0) rfl (by decide) (by decide) rfl (fun ls hl => ?_)
  refine lv_goto (tgt := 3) hx hb dX7_addWord_45 (by decide) ?_
  refine lv_iload_n hx hb dX7_addWord_3 rfl (lv_at hl 0 rfl) ?_
  refine lv_if_lt (tgt := 48) hx hb dX7_addWord_4 (by decide) (fun c39 => absurd c39 (by decide)) (fun c39 => ?_)
  refine lv_aload_n hx hb dX7_addWord_7 rfl (lv_at hl 1 rfl) ?_
  refine pg_gi (ci := 7) (C := RX7) (T := TX7) (N := 2) hx hb hts wi7 hown hK hW (hF.k hk (by decide)) (by decide) rfl 1 (by decide) (hts (.fieldLink RX7 15 "IceHall$Tape" "size" "I") (by decide +kernel)) (fun _ h9 => h9) rfl dX7_addWord_8 ?_
  rw [show sI S37 h 1 = (((sI S h 1) + 1) + 1) + 1 from w38]
  refine lv_bipush (v := 80) hx hb dX7_addWord_11 (by decide) ?_
  have lk40 : (sI S37 h 1).toInt = ((((sI S h 1) + 1) + 1) + 1).toInt := by rw [show sI S37 h 1 = (((sI S h 1) + 1) + 1) + 1 from w38]
  refine pc_Ni (As := [.int ((((sI S h 1) + 1) + 1) + 1), .int 80]) (rest := []) F (b_X8_isBelow l D cy A S37 ((((sI S h 1) + 1) + 1) + 1) 80 ) ⟨va_cnB 2 hts gX7_addWord_X8_isBelow_n19 rfl rfl rfl hZ.2.2.2.2.2.2.2.2.2.2.2.1 (hts (.initialized RX8) (by decide +kernel)) (by decide +kernel) ⟨Nat.le_of_ble_eq_true rfl, Nat.le_of_ble_eq_true rfl⟩, hts (.static yX8_isBelow) (by decide +kernel), trivial⟩ hK hZ hA hW hS rfl hl.1 rfl (Nat.le_of_ble_eq_true rfl) dX7_addWord_13 ⟨Nat.le_of_ble_eq_true rfl, Nat.le_of_ble_eq_true rfl⟩ (fun v41 T42 H locs p43 hW hS => ?_)
  obtain ⟨eT42, p43⟩ := p43
  rw [eT42] at hW
  clear eT42
  have p43 := isb_lit (n := 80) rfl p43
  refine lv_if_eq (tgt := 42) hx hb dX7_addWord_16 (by decide) (fun c44 => absurd c44 (by intro h9; have h8 : v41.toInt = (0 : Int) := (i3_eq _ _).mp h9; omega)) (fun c44 => ?_)
  refine lv_aload_n hx hb dX7_addWord_19 rfl (lv_at hl 1 rfl) ?_
  refine pg_gr (b := bt) (ci := 7) (C := RX7) (T := TX7) (N := 2) hx hb hts wi7 hown hK hW (hF.k hk (by decide)) (by decide) rfl 0 (by decide) (hts (.fieldLink RX7 9 "IceHall$Tape" "bytes" "[B") (by decide +kernel)) (fun _ h9 => h9) rfl (hF.r hk (by decide) hr1) dX7_addWord_20 ?_
  refine lv_aload_n hx hb dX7_addWord_23 rfl (lv_at hl 1 rfl) ?_
  refine pg_gi (ci := 7) (C := RX7) (T := TX7) (N := 2) hx hb hts wi7 hown hK hW (hF.k hk (by decide)) (by decide) rfl 1 (by decide) (hts (.fieldLink RX7 15 "IceHall$Tape" "size" "I") (by decide +kernel)) (fun _ h9 => h9) rfl dX7_addWord_24 ?_
  rw [show sI S37 h 1 = (((sI S h 1) + 1) + 1) + 1 from w38]
  refine lv_iload_n hx hb dX7_addWord_27 rfl (lv_at hl 2 rfl) ?_
  refine lv_iload_n hx hb dX7_addWord_28 rfl (lv_at hl 0 rfl) ?_
  refine lv_ishr hx hb dX7_addWord_29 ?_
  refine lv_i2b (v := Int8.toInt32 (Int32.toInt8 (a >>> (0 &&& 31)))) hx hb dX7_addWord_30 rfl ?_
  refine pg_bast hx hb hK hW hS (hF.k hkb (by decide)) (by rw [show sL S37 bt = 80 from (hF.n hkb (by decide) hlb)]; exact r_in (by omega)) dX7_addWord_31 (fun H locs hW hS => ?_)
  have kq45 : sK S37 bt = 10 := (hF.k hkb (by decide))
  obtain ⟨S46, eS46⟩ : ∃ T : St, T = stI S37 bt (Int32.toNatClampNeg ((((sI S h 1) + 1) + 1) + 1)) (vp_nar .byte (Int8.toInt32 (Int32.toInt8 (a >>> (0 &&& 31))))) := ⟨_, rfl⟩
  rw [← eS46] at hW
  have hG : G S46 := by rw [eS46]; exact hG.I kq45 (ok_frA (by decide) (by decide))
  have w47 : sI S46 h 1 = (((sI S h 1) + 1) + 1) + 1 := by rw [eS46]; exact (iI_a (fk_ne (hF.k hk (by decide)) kq45 (by decide))).trans w38
  have hC : sI S46 bt = up (up (up (up (sI S bt) (Int32.toNatClampNeg (sI S h 1)) (vp_nar .byte (Int8.toInt32 (Int32.toInt8 (a >>> (24 &&& 31)))))) (Int32.toNatClampNeg ((sI S h 1) + 1)) (vp_nar .byte (Int8.toInt32 (Int32.toInt8 (a >>> (16 &&& 31)))))) (Int32.toNatClampNeg (((sI S h 1) + 1) + 1)) (vp_nar .byte (Int8.toInt32 (Int32.toInt8 (a >>> (8 &&& 31)))))) (Int32.toNatClampNeg ((((sI S h 1) + 1) + 1) + 1)) (vp_nar .byte (Int8.toInt32 (Int32.toInt8 (a >>> (0 &&& 31))))) := by rw [eS46, cI_s, hC]
  have hF : Fr [] [701, 1000] S S46 := by rw [eS46]; exact hF.IA kq45 (by decide) (by decide)
  clear eS46
  refine lv_aload_n hx hb dX7_addWord_32 rfl (lv_at hl 1 rfl) ?_
  refine lv_dup hx hb dX7_addWord_33 rfl ?_
  refine pg_gi (ci := 7) (C := RX7) (T := TX7) (N := 2) hx hb hts wi7 hown hK hW (hF.k hk (by decide)) (by decide) rfl 1 (by decide) (hts (.fieldLink RX7 15 "IceHall$Tape" "size" "I") (by decide +kernel)) (fun _ h9 => h9) rfl dX7_addWord_34 ?_
  rw [show sI S46 h 1 = (((sI S h 1) + 1) + 1) + 1 from w47]
  refine lv_iconst (v := 1) hx hb dX7_addWord_37 (by decide) ?_
  refine lv_iadd hx hb dX7_addWord_38 ?_
  have l48 : (((((sI S h 1) + 1) + 1) + 1) + 1).toInt = Int32.toInt ((((sI S h 1) + 1) + 1) + 1) + (1 : Int) := i3_add rfl rfl (by omega) (by omega)
  refine pg_pi (ci := 7) (C := RX7) (T := TX7) (N := 2) hx hb hts wi7 tyX7 tyX7_ok nmX7 hown hK hW hS (hF.k hk (by decide)) (by decide) rfl 1 (by decide) (hts (.fieldLink RX7 15 "IceHall$Tape" "size" "I") (by decide +kernel)) (fun _ h9 => h9) rfl rfl rfl dX7_addWord_39 (fun H locs hW hS => ?_)
  have kq49 : sK S46 h = 7 := (hF.k hk (by decide))
  obtain ⟨S50, eS50⟩ : ∃ T : St, T = stI S46 h 1 (((((sI S h 1) + 1) + 1) + 1) + 1) := ⟨_, rfl⟩
  rw [← eS50] at hW
  have hG : G S50 := by rw [eS50]; exact hG.I kq49 (ok_in 0 80 (by decide) (⟨by omega, by omega⟩))
  have hC : sI S50 bt = up (up (up (up (sI S bt) (Int32.toNatClampNeg (sI S h 1)) (vp_nar .byte (Int8.toInt32 (Int32.toInt8 (a >>> (24 &&& 31)))))) (Int32.toNatClampNeg ((sI S h 1) + 1)) (vp_nar .byte (Int8.toInt32 (Int32.toInt8 (a >>> (16 &&& 31)))))) (Int32.toNatClampNeg (((sI S h 1) + 1) + 1)) (vp_nar .byte (Int8.toInt32 (Int32.toInt8 (a >>> (8 &&& 31)))))) (Int32.toNatClampNeg ((((sI S h 1) + 1) + 1) + 1)) (vp_nar .byte (Int8.toInt32 (Int32.toInt8 (a >>> (0 &&& 31))))) := by rw [eS50]; exact (cI_a (fk_ne (hF.k hkb (by decide)) (hF.k hk (by decide)) (by decide))).trans hC
  have hF : Fr [] [701, 1000] S S50 := by rw [eS50]; exact hF.I kq49 (by decide)
  have w51 : sI S50 h 1 = ((((sI S h 1) + 1) + 1) + 1) + 1 := by rw [eS50]; exact iI_s
  clear eS50
  refine lv_iinc (v := (-8)) (lv' := [(2, .int ((-8))), (0, .ref h), (1, .int a)]) hx hb dX7_addWord_42 hl (k := 0) rfl (by decide) (by decide) rfl (fun ls hl => ?_)
  refine lv_goto (tgt := 3) hx hb dX7_addWord_45 (by decide) ?_
  refine lv_iload_n hx hb dX7_addWord_3 rfl (lv_at hl 0 rfl) ?_
  refine lv_if_lt (tgt := 48) hx hb dX7_addWord_4 (by decide) (fun c52 => ?_) (fun c52 => absurd (by decide) c52)
  have lk53 : (sI S50 h 1).toInt = (((((sI S h 1) + 1) + 1) + 1) + 1).toInt := by rw [show sI S50 h 1 = ((((sI S h 1) + 1) + 1) + 1) + 1 from w51]
  exact pc_vret (S := S50) hx hb hr hlk hK hZ hA hW hS (⟨hG, hF, ⟨by omega, by rw [hC]; exact pw4_of (i3_cl (by omega)) (i3_cl (by omega)) (i3_cl (by omega)) (i3_cl (by omega))⟩⟩) dX7_addWord_48
