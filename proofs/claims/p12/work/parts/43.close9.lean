set_option maxHeartbeats 4000000 in
set_option maxRecDepth 100000 in
theorem b_X9_isLess (l : Launch) (D : va_G) (cy : Nat → ClassId) (A : Nat → Prop) (S : St) (h : Nat) (hG0 : G S) (hk : sK S h = 9) : MI l yX9_isLess wsX9_isLess ({ frames := 0, cells := 0, slots := 0, locals := 0 } : Room) 0 0 D cy A [.ref h] S (fun r S1 => S1 = S ∧ True) := by
  refine mt_start (cc := cX9_isLess) (maxL := 2) (ret := (some .boolean)) (by decide) rfl (Nat.le_of_ble_eq_true rfl) ?_
  intro p e s m args below meth c hx hb hr hlk hml hown hnm hts hK hZ hA hW hS ls hl
  have hl : lv_has ls 2 [(0, .ref h)] := hl
  have hown : s.vm.findClass RX9 = some m.cls := hown
  have F : CallFix p m c cX9_isLess 2 s args wsX9_isLess RX9 := ⟨hx, hb, hml, hown, hts⟩
  have wi9 : ∀ w ∈ u_ws RX9 TX9 63, w ∈ wsX9_isLess := by decide +kernel
  have hG := hG0
  refine lv_iconst (v := 0) hx hb dX9_isLess_0 (by decide) ?_
  refine lv_istore_n (lv' := [(1, .int 0), (0, .ref h)]) hx hb dX9_isLess_1 rfl hl (by decide) rfl (fun ls hl => ?_)
  have loop2 : ∀ (zn : Nat) (y : Int32) (H : Heap) (locs : List Loc) (ls : Array Slot), (0 ≤ y.toInt) → (5 - y.toInt).toNat < zn → PW D cy A S H → va_S A s.heap H locs → lv_has ls 2 [(0, .ref h), (1, .int y)] → W p l e ({ frames := 0, cells := 0, slots := 0, locals := 0 } : Room) s m args below meth c H locs 0 0 (MQ below (va_Qi (fun r S1 => S1 = S ∧ True) (PU D cy A) A) args s 0 0 A) (F0 m 2 ls []) := by
    intro zn
    induction zn with
    | zero => intros; exact absurd (by assumption) (Nat.not_lt_zero _)
    | succ zn ih2 =>
      intro y H locs ls hy0 hme2 hW hS hl
      refine lv_iload_n hx hb dX9_isLess_2 rfl (lv_at hl 1 rfl) ?_
      refine lv_aload_n hx hb dX9_isLess_3 rfl (lv_at hl 0 rfl) ?_
      refine pg_gi (ci := 9) (C := RX9) (T := TX9) (N := 63) hx hb hts wi9 hown hK hW hk (by decide) rfl 53 (by decide) (hts (.fieldLink RX9 234 "IceHallModel" "outs" "I") (by decide +kernel)) (fun _ h9 => h9) rfl dX9_isLess_4 ?_
      have g1 : (0 : Int) ≤ (sI S h 53).toInt ∧ (sI S h 53).toInt ≤ 5 := hG.i hk (by decide) 53 (by decide)
      refine lv_icmp_ge (tgt := 52) hx hb dX9_isLess_7 (by decide) (fun c2 => ?_) (fun c2 => ?_)
      · have c2i : Int32.toInt (sI S h 53) ≤ Int32.toInt y := (i3_le _ _).mp c2
        refine lv_iconst (v := 0) hx hb dX9_isLess_52 (by decide) ?_
        exact pc_zret (v := 0) (S := S) hx hb hr hlk hK hZ hA hW hS (by decide) (⟨rfl, trivial⟩) dX9_isLess_53
      · have c2i : ¬ (Int32.toInt (sI S h 53) ≤ Int32.toInt y) := fun h9 => c2 ((i3_le _ _).mpr h9)
        refine lv_aload_n hx hb dX9_isLess_10 rfl (lv_at hl 0 rfl) ?_
        obtain ⟨b3, rb3, kb3, nb3⟩ := hG0.r hk List.not_mem_nil 50 (show rty 9 50 = some (19, 5) from rfl)
        refine pg_gr (b := b3) (ci := 9) (C := RX9) (T := TX9) (N := 63) hx hb hts wi9 hown hK hW hk (by decide) rfl 50 (by decide) (hts (.fieldLink RX9 112 "IceHallModel" "way" "[I") (by decide +kernel)) (fun _ h9 => h9) rfl rb3 dX9_isLess_11 ?_
        refine lv_iload_n hx hb dX9_isLess_14 rfl (lv_at hl 1 rfl) ?_
        refine pg_iald hx hb hK hW kb3 (by decide) (by rw [show sL S b3 = 5 from nb3]; exact r_in (by omega)) dX9_isLess_15 ?_
        have g4 : (0 : Int) ≤ (sI S b3 (Int32.toNatClampNeg y)).toInt ∧ (sI S b3 (Int32.toNatClampNeg y)).toInt ≤ 14 := hG.iA kb3 (by decide) (by decide) (Int32.toNatClampNeg y) (by decide)
        refine lv_aload_n hx hb dX9_isLess_16 rfl (lv_at hl 0 rfl) ?_
        obtain ⟨b5, rb5, kb5, nb5⟩ := hG0.r hk List.not_mem_nil 51 (show rty 9 51 = some (19, 5) from rfl)
        refine pg_gr (b := b5) (ci := 9) (C := RX9) (T := TX9) (N := 63) hx hb hts wi9 hown hK hW hk (by decide) rfl 51 (by decide) (hts (.fieldLink RX9 115 "IceHallModel" "best" "[I") (by decide +kernel)) (fun _ h9 => h9) rfl rb5 dX9_isLess_17 ?_
        refine lv_iload_n hx hb dX9_isLess_20 rfl (lv_at hl 1 rfl) ?_
        refine pg_iald hx hb hK hW kb5 (by decide) (by rw [show sL S b5 = 5 from nb5]; exact r_in (by omega)) dX9_isLess_21 ?_
        have g6 : (0 : Int) ≤ (sI S b5 (Int32.toNatClampNeg y)).toInt ∧ (sI S b5 (Int32.toNatClampNeg y)).toInt ≤ 14 := hG.iA kb5 (by decide) (by decide) (Int32.toNatClampNeg y) (by decide)
        refine lv_icmp_eq (tgt := 46) hx hb dX9_isLess_22 (by decide) (fun c7 => ?_) (fun c7 => ?_)
        · have c7i : Int32.toInt (sI S b3 (Int32.toNatClampNeg y)) = Int32.toInt (sI S b5 (Int32.toNatClampNeg y)) := (i3_eq _ _).mp c7
          refine lv_iinc (v := y + 1) (lv' := [(1, .int (y + 1)), (0, .ref h)]) hx hb dX9_isLess_46 hl (k := 1) rfl rfl (by decide) rfl (fun ls hl => ?_)
          have i8 : (y + 1).toInt = (y).toInt + 1 := i3_add rfl rfl (by omega) (by omega)
          refine lv_goto (tgt := 2) hx hb dX9_isLess_49 (by decide) ?_
          exact ih2 (y + 1) _ _ ls (by omega) (by omega) hW hS (lv_cast (lv_sub hl [1, 0] rfl) (rfl))
        · have c7i : ¬ (Int32.toInt (sI S b3 (Int32.toNatClampNeg y)) = Int32.toInt (sI S b5 (Int32.toNatClampNeg y))) := fun h9 => c7 ((i3_eq _ _).mpr h9)
          refine lv_aload_n hx hb dX9_isLess_25 rfl (lv_at hl 0 rfl) ?_
          refine pg_gr (b := b3) (ci := 9) (C := RX9) (T := TX9) (N := 63) hx hb hts wi9 hown hK hW hk (by decide) rfl 50 (by decide) (hts (.fieldLink RX9 112 "IceHallModel" "way" "[I") (by decide +kernel)) (fun _ h9 => h9) rfl rb3 dX9_isLess_26 ?_
          refine lv_iload_n hx hb dX9_isLess_29 rfl (lv_at hl 1 rfl) ?_
          refine pg_iald hx hb hK hW kb3 (by decide) (by rw [show sL S b3 = 5 from nb3]; exact r_in (by omega)) dX9_isLess_30 ?_
          have g9 : (0 : Int) ≤ (sI S b3 (Int32.toNatClampNeg y)).toInt ∧ (sI S b3 (Int32.toNatClampNeg y)).toInt ≤ 14 := hG.iA kb3 (by decide) (by decide) (Int32.toNatClampNeg y) (by decide)
          refine lv_aload_n hx hb dX9_isLess_31 rfl (lv_at hl 0 rfl) ?_
          refine pg_gr (b := b5) (ci := 9) (C := RX9) (T := TX9) (N := 63) hx hb hts wi9 hown hK hW hk (by decide) rfl 51 (by decide) (hts (.fieldLink RX9 115 "IceHallModel" "best" "[I") (by decide +kernel)) (fun _ h9 => h9) rfl rb5 dX9_isLess_32 ?_
          refine lv_iload_n hx hb dX9_isLess_35 rfl (lv_at hl 1 rfl) ?_
          refine pg_iald hx hb hK hW kb5 (by decide) (by rw [show sL S b5 = 5 from nb5]; exact r_in (by omega)) dX9_isLess_36 ?_
          have g10 : (0 : Int) ≤ (sI S b5 (Int32.toNatClampNeg y)).toInt ∧ (sI S b5 (Int32.toNatClampNeg y)).toInt ≤ 14 := hG.iA kb5 (by decide) (by decide) (Int32.toNatClampNeg y) (by decide)
          refine lv_icmp_ge (tgt := 44) hx hb dX9_isLess_37 (by decide) (fun c11 => ?_) (fun c11 => ?_)
          · have c11i : Int32.toInt (sI S b5 (Int32.toNatClampNeg y)) ≤ Int32.toInt (sI S b3 (Int32.toNatClampNeg y)) := (i3_le _ _).mp c11
            refine lv_iconst (v := 0) hx hb dX9_isLess_44 (by decide) ?_
            exact pc_zret (v := 0) (S := S) hx hb hr hlk hK hZ hA hW hS (by decide) (⟨rfl, trivial⟩) dX9_isLess_45
          · have c11i : ¬ (Int32.toInt (sI S b5 (Int32.toNatClampNeg y)) ≤ Int32.toInt (sI S b3 (Int32.toNatClampNeg y))) := fun h9 => c11 ((i3_le _ _).mpr h9)
            refine lv_iconst (v := 1) hx hb dX9_isLess_40 (by decide) ?_
            refine lv_goto (tgt := 45) hx hb dX9_isLess_41 (by decide) ?_
            exact pc_zret (v := 1) (S := S) hx hb hr hlk hK hZ hA hW hS (by decide) (⟨rfl, trivial⟩) dX9_isLess_45
  exact loop2 _ 0 _ _ ls (by decide) (Nat.lt_succ_self _) hW hS (lv_cast (lv_sub hl [1, 0] rfl) (rfl))
set_option maxHeartbeats 4000000 in
set_option maxRecDepth 100000 in
theorem b_X9_stands (l : Launch) (D : va_G) (cy : Nat → ClassId) (A : Nat → Prop) (S : St) (h : Nat) (hG0 : G S) (hk : sK S h = 9) : MI l yX9_stands wsX9_stands ({ frames := 2, cells := 0, slots := 0, locals := 47 } : Room) 0 0 D cy A [.ref h] S (fun r S1 => G S1 ∧ Fr [] [1100, 1600] S S1 ∧ True) := by
  refine mt_start (cc := cX9_stands) (maxL := 5) (ret := (some .boolean)) (by decide) rfl (Nat.le_of_ble_eq_true rfl) ?_
  intro p e s m args below meth c hx hb hr hlk hml hown hnm hts hK hZ hA hW hS ls hl
  have hl : lv_has ls 5 [(0, .ref h)] := hl
  have hown : s.vm.findClass RX9 = some m.cls := hown
  have F : CallFix p m c cX9_stands 5 s args wsX9_stands RX9 := ⟨hx, hb, hml, hown, hts⟩
  have wi9 : ∀ w ∈ u_ws RX9 TX9 63, w ∈ wsX9_stands := by decide +kernel
  have hG := hG0
  have hF : Fr [] [1100, 1600] S S := Fr.rf _ _ _
  have g1 : (0 : Int) ≤ (sI S h 53).toInt ∧ (sI S h 53).toInt ≤ 5 := hG0.i hk (by decide) 53 (by decide)
  refine lv_iconst (v := 1) hx hb dX9_stands_0 (by decide) ?_
  refine lv_istore_n (lv' := [(1, .int 1), (0, .ref h)]) hx hb dX9_stands_1 rfl hl (by decide) rfl (fun ls hl => ?_)
  refine lv_iconst (v := 0) hx hb dX9_stands_2 (by decide) ?_
  refine lv_istore_n (lv' := [(2, .int 0), (1, .int 1), (0, .ref h)]) hx hb dX9_stands_3 rfl hl (by decide) rfl (fun ls hl => ?_)
  have loop4 : ∀ (zn : Nat) (gd : Int32) (pu : Int32) (L4 : St) (H : Heap) (locs : List Loc) (ls : Array Slot), (G L4) → (Fr [] [1100, 1600] S L4) → (gd = 0 ∨ gd = 1) → (0 ≤ pu.toInt ∧ pu.toInt ≤ (sI S h 53).toInt) → (2 * ((sI S h 53).toInt - pu.toInt) + gd.toInt).toNat < zn → PW D cy A L4 H → va_S A s.heap H locs → lv_has ls 5 [(0, .ref h), (1, .int gd), (2, .int pu)] → W p l e ({ frames := 2, cells := 0, slots := 0, locals := 47 } : Room) s m args below meth c H locs 0 0 (MQ below (va_Qi (fun r S1 => G S1 ∧ Fr [] [1100, 1600] S S1 ∧ True) (PU D cy A) A) args s 0 0 A) (F0 m 4 ls []) := by
    intro zn
    induction zn with
    | zero => intros; exact absurd (by assumption) (Nat.not_lt_zero _)
    | succ zn ih4 =>
      intro gd pu L4 H locs ls hG hL4 hgd hpu hme4 hW hS hl
      have hF := hL4
      have lk2 : (sI L4 h 53).toInt = (sI S h 53).toInt := by rw [hF.i hk (by decide) (by decide)]
      have hgdi : gd.toInt = 0 ∨ gd.toInt = 1 := hgd.elim (fun h9 => Or.inl (by rw [h9]; rfl)) (fun h9 => Or.inr (by rw [h9]; rfl))
      refine lv_iload_n hx hb dX9_stands_4 rfl (lv_at hl 1 rfl) ?_
      refine lv_if_eq (tgt := 144) hx hb dX9_stands_5 (by decide) (fun c3 => ?_) (fun c3 => ?_)
      · have c3i : Int32.toInt gd = (0 : Int) := (i3_eq _ _).mp c3
        refine lv_iconst (v := 0) hx hb dX9_stands_144 (by decide) ?_
        refine lv_istore_n (lv' := [(3, .int 0), (0, .ref h), (1, .int gd), (2, .int pu)]) hx hb dX9_stands_145 rfl hl (by decide) rfl (fun ls hl => ?_)
        have hE4 : Fr [] [1100, 1600] L4 L4 := Fr.rf _ _ _
        have loop146 : ∀ (zn : Nat) (gd : Int32) (y : Int32) (L146 : St) (H : Heap) (locs : List Loc) (ls : Array Slot), (G L146) → (Fr [] [1100, 1600] L4 L146) → (gd = 0 ∨ gd = 1) → (0 ≤ y.toInt) → (5 - y.toInt).toNat < zn → PW D cy A L146 H → va_S A s.heap H locs → lv_has ls 5 [(0, .ref h), (1, .int gd), (2, .int pu), (3, .int y)] → W p l e ({ frames := 2, cells := 0, slots := 0, locals := 47 } : Room) s m args below meth c H locs 0 0 (MQ below (va_Qi (fun r S1 => G S1 ∧ Fr [] [1100, 1600] S S1 ∧ True) (PU D cy A) A) args s 0 0 A) (F0 m 146 ls []) := by
          intro zn
          induction zn with
          | zero => intros; exact absurd (by assumption) (Nat.not_lt_zero _)
          | succ zn ih146 =>
            intro gd y L146 H locs ls hG hL146 hgd hy0 hme146 hW hS hl
            have hF : Fr [] [1100, 1600] S L146 := hF.tr hL146
            have hE4 := hL146
            have lk5 : (sI L146 h 53).toInt = (sI S h 53).toInt := by rw [hF.i hk (by decide) (by decide)]
            refine lv_iload_n hx hb dX9_stands_146 rfl (lv_at hl 3 rfl) ?_
            refine lv_iload_n hx hb dX9_stands_147 rfl (lv_at hl 2 rfl) ?_
            refine lv_icmp_ge (tgt := 211) hx hb dX9_stands_148 (by decide) (fun c6 => ?_) (fun c6 => ?_)
            · have c6i : Int32.toInt pu ≤ Int32.toInt y := (i3_le _ _).mp c6
              refine lv_iconst (v := 0) hx hb dX9_stands_211 (by decide) ?_
              refine lv_istore_n (lv' := [(3, .int 0), (0, .ref h), (1, .int gd), (2, .int pu)]) hx hb dX9_stands_212 rfl hl (by decide) rfl (fun ls hl => ?_)
              have hE7 : Fr [] [1100, 1600] L146 L146 := Fr.rf _ _ _
              have loop213 : ∀ (zn : Nat) (y : Int32) (L213 : St) (H : Heap) (locs : List Loc) (ls : Array Slot), (G L213) → (Fr [] [1100, 1600] L146 L213) → (0 ≤ y.toInt) → (5 - y.toInt).toNat < zn → PW D cy A L213 H → va_S A s.heap H locs → lv_has ls 5 [(0, .ref h), (1, .int gd), (2, .int pu), (3, .int y)] → W p l e ({ frames := 2, cells := 0, slots := 0, locals := 47 } : Room) s m args below meth c H locs 0 0 (MQ below (va_Qi (fun r S1 => G S1 ∧ Fr [] [1100, 1600] S S1 ∧ True) (PU D cy A) A) args s 0 0 A) (F0 m 213 ls []) := by
                intro zn
                induction zn with
                | zero => intros; exact absurd (by assumption) (Nat.not_lt_zero _)
                | succ zn ih213 =>
                  intro y L213 H locs ls hG hL213 hy0 hme213 hW hS hl
                  have hF : Fr [] [1100, 1600] S L213 := hF.tr hL213
                  have hE4 : Fr [] [1100, 1600] L4 L213 := hE4.tr hL213
                  have hE7 := hL213
                  have lk8 : (sI L213 h 53).toInt = (sI S h 53).toInt := by rw [hF.i hk (by decide) (by decide)]
                  refine lv_iload_n hx hb dX9_stands_213 rfl (lv_at hl 3 rfl) ?_
                  refine lv_aload_n hx hb dX9_stands_214 rfl (lv_at hl 0 rfl) ?_
                  refine pg_gi (ci := 9) (C := RX9) (T := TX9) (N := 63) hx hb hts wi9 hown hK hW (hF.k hk (by decide)) (by decide) rfl 53 (by decide) (hts (.fieldLink RX9 234 "IceHallModel" "outs" "I") (by decide +kernel)) (fun _ h9 => h9) rfl dX9_stands_215 ?_
                  have g9 : (0 : Int) ≤ (sI L213 h 53).toInt ∧ (sI L213 h 53).toInt ≤ 5 := hG.i (hF.k hk (by decide)) (by decide) 53 (by decide)
                  refine lv_icmp_ge (tgt := 239) hx hb dX9_stands_218 (by decide) (fun c10 => ?_) (fun c10 => ?_)
                  · have c10i : Int32.toInt (sI L213 h 53) ≤ Int32.toInt y := (i3_le _ _).mp c10
                    refine lv_iload_n hx hb dX9_stands_239 rfl (lv_at hl 1 rfl) ?_
                    exact pc_zret (v := gd) (S := L213) hx hb hr hlk hK hZ hA hW hS (by first | assumption | decide) (⟨hG, hF, trivial⟩) dX9_stands_240
                  · have c10i : ¬ (Int32.toInt (sI L213 h 53) ≤ Int32.toInt y) := fun h9 => c10 ((i3_le _ _).mpr h9)
                    refine lv_aload_n hx hb dX9_stands_221 rfl (lv_at hl 0 rfl) ?_
                    obtain ⟨b11, rb11, kb11, nb11⟩ := hG0.r hk List.not_mem_nil 41 (show rty 9 41 = some (11, 200) from rfl)
                    refine pg_gr (b := b11) (ci := 9) (C := RX9) (T := TX9) (N := 63) hx hb hts wi9 hown hK hW (hF.k hk (by decide)) (by decide) rfl 41 (by decide) (hts (.fieldLink RX9 85 "IceHallModel" "state" "[I") (by decide +kernel)) (fun _ h9 => h9) rfl (hF.r hk (by decide) rb11) dX9_stands_222 ?_
                    refine lv_aload_n hx hb dX9_stands_225 rfl (lv_at hl 0 rfl) ?_
                    obtain ⟨b12, rb12, kb12, nb12⟩ := hG0.r hk List.not_mem_nil 49 (show rty 9 49 = some (17, 5) from rfl)
                    refine pg_gr (b := b12) (ci := 9) (C := RX9) (T := TX9) (N := 63) hx hb hts wi9 hown hK hW (hF.k hk (by decide)) (by decide) rfl 49 (by decide) (hts (.fieldLink RX9 109 "IceHallModel" "out" "[I") (by decide +kernel)) (fun _ h9 => h9) rfl (hF.r hk (by decide) rb12) dX9_stands_226 ?_
                    refine lv_iload_n hx hb dX9_stands_229 rfl (lv_at hl 3 rfl) ?_
                    refine pg_iald hx hb hK hW (hF.k kb12 (by decide)) (by decide) (by rw [show sL L213 b12 = 5 from (hF.n kb12 (by decide) nb12)]; exact r_in (by omega)) dX9_stands_230 ?_
                    have g13 : (0 : Int) ≤ (sI L213 b12 (Int32.toNatClampNeg y)).toInt ∧ (sI L213 b12 (Int32.toNatClampNeg y)).toInt ≤ 199 := hG.iA (hF.k kb12 (by decide)) (by decide) (by decide) (Int32.toNatClampNeg y) (by decide)
                    refine lv_iconst (v := 4) hx hb dX9_stands_231 (by decide) ?_
                    refine pg_iast hx hb hK hW hS (hF.k kb11 (by decide)) (by decide) (by rw [show sL L213 b11 = 200 from (hF.n kb11 (by decide) nb11)]; exact r_in (by omega)) dX9_stands_232 (fun H locs hW hS => ?_)
                    have kq14 : sK L213 b11 = 11 := (hF.k kb11 (by decide))
                    obtain ⟨S15, eS15⟩ : ∃ T : St, T = stI L213 b11 (Int32.toNatClampNeg (sI L213 b12 (Int32.toNatClampNeg y))) 4 := ⟨_, rfl⟩
                    rw [← eS15] at hW
                    have hG : G S15 := by rw [eS15]; exact hG.I kq14 (ok_frA (by decide) (by decide))
                    have hF : Fr [] [1100, 1600] S S15 := by rw [eS15]; exact hF.IA kq14 (by decide) (by decide)
                    have hE4 : Fr [] [1100, 1600] L4 S15 := by rw [eS15]; exact hE4.IA kq14 (by decide) (by decide)
                    have hE7 : Fr [] [1100, 1600] L146 S15 := by rw [eS15]; exact hE7.IA kq14 (by decide) (by decide)
                    clear eS15
                    refine lv_iinc (v := y + 1) (lv' := [(3, .int (y + 1)), (0, .ref h), (1, .int gd), (2, .int pu)]) hx hb dX9_stands_233 hl (k := 3) rfl rfl (by decide) rfl (fun ls hl => ?_)
                    have i16 : (y + 1).toInt = (y).toInt + 1 := i3_add rfl rfl (by omega) (by omega)
                    refine lv_goto (tgt := 213) hx hb dX9_stands_236 (by decide) ?_
                    have lk17 : (sI S15 h 53).toInt = (sI S h 53).toInt := by rw [hF.i hk (by decide) (by decide)]
                    exact ih213 (y + 1) S15 _ _ ls hG hE7 (by omega) (by omega) hW hS (lv_cast (lv_sub hl [1, 2, 3, 0] rfl) (rfl))
              have lk18 : (sI L146 h 53).toInt = (sI S h 53).toInt := by rw [hF.i hk (by decide) (by decide)]
              exact loop213 _ 0 L146 _ _ ls hG hE7 (by decide) (Nat.lt_succ_self _) hW hS (lv_cast (lv_sub hl [1, 2, 3, 0] rfl) (rfl))
            · have c6i : ¬ (Int32.toInt pu ≤ Int32.toInt y) := fun h9 => c6 ((i3_le _ _).mpr h9)
              refine lv_iload_n hx hb dX9_stands_151 rfl (lv_at hl 1 rfl) ?_
              refine lv_if_eq (tgt := 211) hx hb dX9_stands_152 (by decide) (fun c19 => ?_) (fun c19 => ?_)
              · have c19i : Int32.toInt gd = (0 : Int) := (i3_eq _ _).mp c19
                refine lv_iconst (v := 0) hx hb dX9_stands_211 (by decide) ?_
                refine lv_istore_n (lv' := [(3, .int 0), (0, .ref h), (1, .int gd), (2, .int pu)]) hx hb dX9_stands_212 rfl hl (by decide) rfl (fun ls hl => ?_)
                have hE20 : Fr [] [1100, 1600] L146 L146 := Fr.rf _ _ _
                have loop213 : ∀ (zn : Nat) (y : Int32) (L213 : St) (H : Heap) (locs : List Loc) (ls : Array Slot), (G L213) → (Fr [] [1100, 1600] L146 L213) → (0 ≤ y.toInt) → (5 - y.toInt).toNat < zn → PW D cy A L213 H → va_S A s.heap H locs → lv_has ls 5 [(0, .ref h), (1, .int gd), (2, .int pu), (3, .int y)] → W p l e ({ frames := 2, cells := 0, slots := 0, locals := 47 } : Room) s m args below meth c H locs 0 0 (MQ below (va_Qi (fun r S1 => G S1 ∧ Fr [] [1100, 1600] S S1 ∧ True) (PU D cy A) A) args s 0 0 A) (F0 m 213 ls []) := by
                  intro zn
                  induction zn with
                  | zero => intros; exact absurd (by assumption) (Nat.not_lt_zero _)
                  | succ zn ih213 =>
                    intro y L213 H locs ls hG hL213 hy0 hme213 hW hS hl
                    have hF : Fr [] [1100, 1600] S L213 := hF.tr hL213
                    have hE4 : Fr [] [1100, 1600] L4 L213 := hE4.tr hL213
                    have hE20 := hL213
                    have lk21 : (sI L213 h 53).toInt = (sI S h 53).toInt := by rw [hF.i hk (by decide) (by decide)]
                    refine lv_iload_n hx hb dX9_stands_213 rfl (lv_at hl 3 rfl) ?_
                    refine lv_aload_n hx hb dX9_stands_214 rfl (lv_at hl 0 rfl) ?_
                    refine pg_gi (ci := 9) (C := RX9) (T := TX9) (N := 63) hx hb hts wi9 hown hK hW (hF.k hk (by decide)) (by decide) rfl 53 (by decide) (hts (.fieldLink RX9 234 "IceHallModel" "outs" "I") (by decide +kernel)) (fun _ h9 => h9) rfl dX9_stands_215 ?_
                    have g22 : (0 : Int) ≤ (sI L213 h 53).toInt ∧ (sI L213 h 53).toInt ≤ 5 := hG.i (hF.k hk (by decide)) (by decide) 53 (by decide)
                    refine lv_icmp_ge (tgt := 239) hx hb dX9_stands_218 (by decide) (fun c23 => ?_) (fun c23 => ?_)
                    · have c23i : Int32.toInt (sI L213 h 53) ≤ Int32.toInt y := (i3_le _ _).mp c23
                      refine lv_iload_n hx hb dX9_stands_239 rfl (lv_at hl 1 rfl) ?_
                      exact pc_zret (v := gd) (S := L213) hx hb hr hlk hK hZ hA hW hS (by first | assumption | decide) (⟨hG, hF, trivial⟩) dX9_stands_240
                    · have c23i : ¬ (Int32.toInt (sI L213 h 53) ≤ Int32.toInt y) := fun h9 => c23 ((i3_le _ _).mpr h9)
                      refine lv_aload_n hx hb dX9_stands_221 rfl (lv_at hl 0 rfl) ?_
                      obtain ⟨b24, rb24, kb24, nb24⟩ := hG0.r hk List.not_mem_nil 41 (show rty 9 41 = some (11, 200) from rfl)
                      refine pg_gr (b := b24) (ci := 9) (C := RX9) (T := TX9) (N := 63) hx hb hts wi9 hown hK hW (hF.k hk (by decide)) (by decide) rfl 41 (by decide) (hts (.fieldLink RX9 85 "IceHallModel" "state" "[I") (by decide +kernel)) (fun _ h9 => h9) rfl (hF.r hk (by decide) rb24) dX9_stands_222 ?_
                      refine lv_aload_n hx hb dX9_stands_225 rfl (lv_at hl 0 rfl) ?_
                      obtain ⟨b25, rb25, kb25, nb25⟩ := hG0.r hk List.not_mem_nil 49 (show rty 9 49 = some (17, 5) from rfl)
                      refine pg_gr (b := b25) (ci := 9) (C := RX9) (T := TX9) (N := 63) hx hb hts wi9 hown hK hW (hF.k hk (by decide)) (by decide) rfl 49 (by decide) (hts (.fieldLink RX9 109 "IceHallModel" "out" "[I") (by decide +kernel)) (fun _ h9 => h9) rfl (hF.r hk (by decide) rb25) dX9_stands_226 ?_
                      refine lv_iload_n hx hb dX9_stands_229 rfl (lv_at hl 3 rfl) ?_
                      refine pg_iald hx hb hK hW (hF.k kb25 (by decide)) (by decide) (by rw [show sL L213 b25 = 5 from (hF.n kb25 (by decide) nb25)]; exact r_in (by omega)) dX9_stands_230 ?_
                      have g26 : (0 : Int) ≤ (sI L213 b25 (Int32.toNatClampNeg y)).toInt ∧ (sI L213 b25 (Int32.toNatClampNeg y)).toInt ≤ 199 := hG.iA (hF.k kb25 (by decide)) (by decide) (by decide) (Int32.toNatClampNeg y) (by decide)
                      refine lv_iconst (v := 4) hx hb dX9_stands_231 (by decide) ?_
                      refine pg_iast hx hb hK hW hS (hF.k kb24 (by decide)) (by decide) (by rw [show sL L213 b24 = 200 from (hF.n kb24 (by decide) nb24)]; exact r_in (by omega)) dX9_stands_232 (fun H locs hW hS => ?_)
                      have kq27 : sK L213 b24 = 11 := (hF.k kb24 (by decide))
                      obtain ⟨S28, eS28⟩ : ∃ T : St, T = stI L213 b24 (Int32.toNatClampNeg (sI L213 b25 (Int32.toNatClampNeg y))) 4 := ⟨_, rfl⟩
                      rw [← eS28] at hW
                      have hG : G S28 := by rw [eS28]; exact hG.I kq27 (ok_frA (by decide) (by decide))
                      have hF : Fr [] [1100, 1600] S S28 := by rw [eS28]; exact hF.IA kq27 (by decide) (by decide)
                      have hE4 : Fr [] [1100, 1600] L4 S28 := by rw [eS28]; exact hE4.IA kq27 (by decide) (by decide)
                      have hE20 : Fr [] [1100, 1600] L146 S28 := by rw [eS28]; exact hE20.IA kq27 (by decide) (by decide)
                      clear eS28
                      refine lv_iinc (v := y + 1) (lv' := [(3, .int (y + 1)), (0, .ref h), (1, .int gd), (2, .int pu)]) hx hb dX9_stands_233 hl (k := 3) rfl rfl (by decide) rfl (fun ls hl => ?_)
                      have i29 : (y + 1).toInt = (y).toInt + 1 := i3_add rfl rfl (by omega) (by omega)
                      refine lv_goto (tgt := 213) hx hb dX9_stands_236 (by decide) ?_
                      have lk30 : (sI S28 h 53).toInt = (sI S h 53).toInt := by rw [hF.i hk (by decide) (by decide)]
                      exact ih213 (y + 1) S28 _ _ ls hG hE20 (by omega) (by omega) hW hS (lv_cast (lv_sub hl [1, 2, 3, 0] rfl) (rfl))
                have lk31 : (sI L146 h 53).toInt = (sI S h 53).toInt := by rw [hF.i hk (by decide) (by decide)]
                exact loop213 _ 0 L146 _ _ ls hG hE20 (by decide) (Nat.lt_succ_self _) hW hS (lv_cast (lv_sub hl [1, 2, 3, 0] rfl) (rfl))
              · have c19i : ¬ (Int32.toInt gd = (0 : Int)) := fun h9 => c19 ((i3_eq _ _).mpr h9)
                have join204 : ∀ (v204 : Int32) (H : Heap) (locs : List Loc), (v204 = 0 ∨ v204 = 1) → PW D cy A L146 H → va_S A s.heap H locs → W p l e ({ frames := 2, cells := 0, slots := 0, locals := 47 } : Room) s m args below meth c H locs 0 0 (MQ below (va_Qi (fun r S1 => G S1 ∧ Fr [] [1100, 1600] S S1 ∧ True) (PU D cy A) A) args s 0 0 A) (F0 m 204 ls [.int v204]) := by
                  intro v204 H locs hv204 hW hS
                  refine lv_istore_n (lv' := [(1, .int v204), (0, .ref h), (2, .int pu), (3, .int y)]) hx hb dX9_stands_204 rfl hl (by decide) rfl (fun ls hl => ?_)
                  refine lv_iinc (v := y + 1) (lv' := [(3, .int (y + 1)), (1, .int v204), (0, .ref h), (2, .int pu)]) hx hb dX9_stands_205 hl (k := 3) rfl rfl (by decide) rfl (fun ls hl => ?_)
                  have i32 : (y + 1).toInt = (y).toInt + 1 := i3_add rfl rfl (by omega) (by omega)
                  refine lv_goto (tgt := 146) hx hb dX9_stands_208 (by decide) ?_
                  have lk33 : (sI L146 h 53).toInt = (sI S h 53).toInt := by rw [hF.i hk (by decide) (by decide)]
                  exact ih146 v204 (y + 1) L146 _ _ ls hG hE4 (by first | assumption | decide) (by omega) (by omega) hW hS (lv_cast (lv_sub hl [2, 1, 3, 0] rfl) (rfl))
                refine lv_aload_n hx hb dX9_stands_155 rfl (lv_at hl 0 rfl) ?_
                obtain ⟨b34, rb34, kb34, nb34⟩ := hG0.r hk List.not_mem_nil 50 (show rty 9 50 = some (19, 5) from rfl)
                refine pg_gr (b := b34) (ci := 9) (C := RX9) (T := TX9) (N := 63) hx hb hts wi9 hown hK hW (hF.k hk (by decide)) (by decide) rfl 50 (by decide) (hts (.fieldLink RX9 112 "IceHallModel" "way" "[I") (by decide +kernel)) (fun _ h9 => h9) rfl (hF.r hk (by decide) rb34) dX9_stands_156 ?_
                refine lv_iload_n hx hb dX9_stands_159 rfl (lv_at hl 3 rfl) ?_
                refine pg_iald hx hb hK hW (hF.k kb34 (by decide)) (by decide) (by rw [show sL L146 b34 = 5 from (hF.n kb34 (by decide) nb34)]; exact r_in (by omega)) dX9_stands_160 ?_
                have g35 : (0 : Int) ≤ (sI L146 b34 (Int32.toNatClampNeg y)).toInt ∧ (sI L146 b34 (Int32.toNatClampNeg y)).toInt ≤ 14 := hG.iA (hF.k kb34 (by decide)) (by decide) (by decide) (Int32.toNatClampNeg y) (by decide)
                refine lv_bipush (v := 14) hx hb dX9_stands_161 (by decide) ?_
                refine lv_icmp_eq (tgt := 199) hx hb dX9_stands_163 (by decide) (fun c36 => ?_) (fun c36 => ?_)
                · have c36i : Int32.toInt (sI L146 b34 (Int32.toNatClampNeg y)) = (14 : Int) := (i3_eq _ _).mp c36
                  refine lv_iconst (v := 1) hx hb dX9_stands_199 (by decide) ?_
                  refine lv_goto (tgt := 204) hx hb dX9_stands_200 (by decide) ?_
                  exact join204 1 _ _ (by decide) hW hS
                · have c36i : ¬ (Int32.toInt (sI L146 b34 (Int32.toNatClampNeg y)) = (14 : Int)) := fun h9 => c36 ((i3_eq _ _).mpr h9)
                  refine lv_aload_n hx hb dX9_stands_166 rfl (lv_at hl 0 rfl) ?_
                  refine lv_aload_n hx hb dX9_stands_167 rfl (lv_at hl 0 rfl) ?_
                  obtain ⟨b37, rb37, kb37, nb37⟩ := hG0.r hk List.not_mem_nil 39 (show rty 9 39 = some (11, 200) from rfl)
                  refine pg_gr (b := b37) (ci := 9) (C := RX9) (T := TX9) (N := 63) hx hb hts wi9 hown hK hW (hF.k hk (by decide)) (by decide) rfl 39 (by decide) (hts (.fieldLink RX9 79 "IceHallModel" "sheetOf" "[I") (by decide +kernel)) (fun _ h9 => h9) rfl (hF.r hk (by decide) rb37) dX9_stands_168 ?_
                  refine lv_aload_n hx hb dX9_stands_171 rfl (lv_at hl 0 rfl) ?_
                  obtain ⟨b38, rb38, kb38, nb38⟩ := hG0.r hk List.not_mem_nil 49 (show rty 9 49 = some (17, 5) from rfl)
                  refine pg_gr (b := b38) (ci := 9) (C := RX9) (T := TX9) (N := 63) hx hb hts wi9 hown hK hW (hF.k hk (by decide)) (by decide) rfl 49 (by decide) (hts (.fieldLink RX9 109 "IceHallModel" "out" "[I") (by decide +kernel)) (fun _ h9 => h9) rfl (hF.r hk (by decide) rb38) dX9_stands_172 ?_
                  refine lv_iload_n hx hb dX9_stands_175 rfl (lv_at hl 3 rfl) ?_
                  refine pg_iald hx hb hK hW (hF.k kb38 (by decide)) (by decide) (by rw [show sL L146 b38 = 5 from (hF.n kb38 (by decide) nb38)]; exact r_in (by omega)) dX9_stands_176 ?_
                  have g39 : (0 : Int) ≤ (sI L146 b38 (Int32.toNatClampNeg y)).toInt ∧ (sI L146 b38 (Int32.toNatClampNeg y)).toInt ≤ 199 := hG.iA (hF.k kb38 (by decide)) (by decide) (by decide) (Int32.toNatClampNeg y) (by decide)
                  refine pg_iald hx hb hK hW (hF.k kb37 (by decide)) (by decide) (by rw [show sL L146 b37 = 200 from (hF.n kb37 (by decide) nb37)]; exact r_in (by omega)) dX9_stands_177 ?_
                  refine lv_aload_n hx hb dX9_stands_178 rfl (lv_at hl 0 rfl) ?_
                  obtain ⟨b40, rb40, kb40, nb40⟩ := hG0.r hk List.not_mem_nil 40 (show rty 9 40 = some (16, 200) from rfl)
                  refine pg_gr (b := b40) (ci := 9) (C := RX9) (T := TX9) (N := 63) hx hb hts wi9 hown hK hW (hF.k hk (by decide)) (by decide) rfl 40 (by decide) (hts (.fieldLink RX9 82 "IceHallModel" "hourOf" "[I") (by decide +kernel)) (fun _ h9 => h9) rfl (hF.r hk (by decide) rb40) dX9_stands_179 ?_
                  refine lv_aload_n hx hb dX9_stands_182 rfl (lv_at hl 0 rfl) ?_
                  refine pg_gr (b := b38) (ci := 9) (C := RX9) (T := TX9) (N := 63) hx hb hts wi9 hown hK hW (hF.k hk (by decide)) (by decide) rfl 49 (by decide) (hts (.fieldLink RX9 109 "IceHallModel" "out" "[I") (by decide +kernel)) (fun _ h9 => h9) rfl (hF.r hk (by decide) rb38) dX9_stands_183 ?_
                  refine lv_iload_n hx hb dX9_stands_186 rfl (lv_at hl 3 rfl) ?_
                  refine pg_iald hx hb hK hW (hF.k kb38 (by decide)) (by decide) (by rw [show sL L146 b38 = 5 from (hF.n kb38 (by decide) nb38)]; exact r_in (by omega)) dX9_stands_187 ?_
                  have g41 : (0 : Int) ≤ (sI L146 b38 (Int32.toNatClampNeg y)).toInt ∧ (sI L146 b38 (Int32.toNatClampNeg y)).toInt ≤ 199 := hG.iA (hF.k kb38 (by decide)) (by decide) (by decide) (Int32.toNatClampNeg y) (by decide)
                  refine pg_iald hx hb hK hW (hF.k kb40 (by decide)) (by decide) (by rw [show sL L146 b40 = 200 from (hF.n kb40 (by decide) nb40)]; exact r_in (by omega)) dX9_stands_188 ?_
                  have g42 : (-10 : Int) ≤ (sI L146 b40 (Int32.toNatClampNeg (sI L146 b38 (Int32.toNatClampNeg y)))).toInt ∧ (sI L146 b40 (Int32.toNatClampNeg (sI L146 b38 (Int32.toNatClampNeg y)))).toInt ≤ 2000 := hG.iA (hF.k kb40 (by decide)) (by decide) (by decide) (Int32.toNatClampNeg (sI L146 b38 (Int32.toNatClampNeg y))) (by decide)
                  have lk43 : (sI L146 h 53).toInt = (sI S h 53).toInt := by rw [hF.i hk (by decide) (by decide)]
                  refine pc_Vi (As := [.int (sI L146 b37 (Int32.toNatClampNeg (sI L146 b38 (Int32.toNatClampNeg y)))), .int (sI L146 b40 (Int32.toNatClampNeg (sI L146 b38 (Int32.toNatClampNeg y))))]) (rest := []) F (b_X9_inRow l D cy A L146 h (sI L146 b37 (Int32.toNatClampNeg (sI L146 b38 (Int32.toNatClampNeg y)))) (sI L146 b40 (Int32.toNatClampNeg (sI L146 b38 (Int32.toNatClampNeg y)))) hG (hF.k hk (by decide)) (by omega) (by omega)) (cwV 2 hts gX9_stands_X9_inRow rfl rfl rfl (by decide +kernel) ⟨Nat.le_of_ble_eq_true rfl, Nat.le_of_ble_eq_true rfl⟩) hK hZ hA hW hS (hF.k hk (by decide)) (by decide) rfl rfl hl.1 rfl (Nat.le_of_ble_eq_true rfl) dX9_stands_189 ⟨Nat.le_of_ble_eq_true rfl, Nat.le_of_ble_eq_true rfl⟩ (fun v44 T45 H locs p46 hW hS => ?_)
                  obtain ⟨eT45, p46⟩ := p46
                  rw [eT45] at hW
                  clear eT45
                  refine lv_aload_n hx hb dX9_stands_192 rfl (lv_at hl 0 rfl) ?_
                  refine pg_gi (ci := 9) (C := RX9) (T := TX9) (N := 63) hx hb hts wi9 hown hK hW (hF.k hk (by decide)) (by decide) rfl 25 (by decide) (hts (.fieldLink RX9 42 "IceHallModel" "restOf" "I") (by decide +kernel)) (fun _ h9 => h9) rfl dX9_stands_193 ?_
                  refine lv_icmp_gt (tgt := 203) hx hb dX9_stands_196 (by decide) (fun c47 => ?_) (fun c47 => ?_)
                  · have c47i : Int32.toInt (sI L146 h 25) < Int32.toInt v44 := (i3_lt _ _).mp c47
                    refine lv_iconst (v := 0) hx hb dX9_stands_203 (by decide) ?_
                    exact join204 0 _ _ (by decide) hW hS
                  · have c47i : ¬ (Int32.toInt (sI L146 h 25) < Int32.toInt v44) := fun h9 => c47 ((i3_lt _ _).mpr h9)
                    refine lv_iconst (v := 1) hx hb dX9_stands_199 (by decide) ?_
                    refine lv_goto (tgt := 204) hx hb dX9_stands_200 (by decide) ?_
                    exact join204 1 _ _ (by decide) hW hS
        have lk48 : (sI L4 h 53).toInt = (sI S h 53).toInt := by rw [hF.i hk (by decide) (by decide)]
        exact loop146 _ gd 0 L4 _ _ ls hG hE4 (by first | assumption | decide) (by decide) (Nat.lt_succ_self _) hW hS (lv_cast (lv_sub hl [1, 2, 3, 0] rfl) (rfl))
      · have c3i : ¬ (Int32.toInt gd = (0 : Int)) := fun h9 => c3 ((i3_eq _ _).mpr h9)
        refine lv_iload_n hx hb dX9_stands_8 rfl (lv_at hl 2 rfl) ?_
        refine lv_aload_n hx hb dX9_stands_9 rfl (lv_at hl 0 rfl) ?_
        refine pg_gi (ci := 9) (C := RX9) (T := TX9) (N := 63) hx hb hts wi9 hown hK hW (hF.k hk (by decide)) (by decide) rfl 53 (by decide) (hts (.fieldLink RX9 234 "IceHallModel" "outs" "I") (by decide +kernel)) (fun _ h9 => h9) rfl dX9_stands_10 ?_
        have g49 : (0 : Int) ≤ (sI L4 h 53).toInt ∧ (sI L4 h 53).toInt ≤ 5 := hG.i (hF.k hk (by decide)) (by decide) 53 (by decide)
        refine lv_icmp_ge (tgt := 144) hx hb dX9_stands_13 (by decide) (fun c50 => ?_) (fun c50 => ?_)
        · have c50i : Int32.toInt (sI L4 h 53) ≤ Int32.toInt pu := (i3_le _ _).mp c50
          refine lv_iconst (v := 0) hx hb dX9_stands_144 (by decide) ?_
          refine lv_istore_n (lv' := [(3, .int 0), (0, .ref h), (1, .int gd), (2, .int pu)]) hx hb dX9_stands_145 rfl hl (by decide) rfl (fun ls hl => ?_)
          have hE51 : Fr [] [1100, 1600] L4 L4 := Fr.rf _ _ _
          have loop146 : ∀ (zn : Nat) (gd : Int32) (y : Int32) (L146 : St) (H : Heap) (locs : List Loc) (ls : Array Slot), (G L146) → (Fr [] [1100, 1600] L4 L146) → (gd = 0 ∨ gd = 1) → (0 ≤ y.toInt) → (5 - y.toInt).toNat < zn → PW D cy A L146 H → va_S A s.heap H locs → lv_has ls 5 [(0, .ref h), (1, .int gd), (2, .int pu), (3, .int y)] → W p l e ({ frames := 2, cells := 0, slots := 0, locals := 47 } : Room) s m args below meth c H locs 0 0 (MQ below (va_Qi (fun r S1 => G S1 ∧ Fr [] [1100, 1600] S S1 ∧ True) (PU D cy A) A) args s 0 0 A) (F0 m 146 ls []) := by
            intro zn
            induction zn with
            | zero => intros; exact absurd (by assumption) (Nat.not_lt_zero _)
            | succ zn ih146 =>
              intro gd y L146 H locs ls hG hL146 hgd hy0 hme146 hW hS hl
              have hF : Fr [] [1100, 1600] S L146 := hF.tr hL146
              have hE51 := hL146
              have lk52 : (sI L146 h 53).toInt = (sI S h 53).toInt := by rw [hF.i hk (by decide) (by decide)]
              refine lv_iload_n hx hb dX9_stands_146 rfl (lv_at hl 3 rfl) ?_
              refine lv_iload_n hx hb dX9_stands_147 rfl (lv_at hl 2 rfl) ?_
              refine lv_icmp_ge (tgt := 211) hx hb dX9_stands_148 (by decide) (fun c53 => ?_) (fun c53 => ?_)
              · have c53i : Int32.toInt pu ≤ Int32.toInt y := (i3_le _ _).mp c53
                refine lv_iconst (v := 0) hx hb dX9_stands_211 (by decide) ?_
                refine lv_istore_n (lv' := [(3, .int 0), (0, .ref h), (1, .int gd), (2, .int pu)]) hx hb dX9_stands_212 rfl hl (by decide) rfl (fun ls hl => ?_)
                have hE54 : Fr [] [1100, 1600] L146 L146 := Fr.rf _ _ _
                have loop213 : ∀ (zn : Nat) (y : Int32) (L213 : St) (H : Heap) (locs : List Loc) (ls : Array Slot), (G L213) → (Fr [] [1100, 1600] L146 L213) → (0 ≤ y.toInt) → (5 - y.toInt).toNat < zn → PW D cy A L213 H → va_S A s.heap H locs → lv_has ls 5 [(0, .ref h), (1, .int gd), (2, .int pu), (3, .int y)] → W p l e ({ frames := 2, cells := 0, slots := 0, locals := 47 } : Room) s m args below meth c H locs 0 0 (MQ below (va_Qi (fun r S1 => G S1 ∧ Fr [] [1100, 1600] S S1 ∧ True) (PU D cy A) A) args s 0 0 A) (F0 m 213 ls []) := by
                  intro zn
                  induction zn with
                  | zero => intros; exact absurd (by assumption) (Nat.not_lt_zero _)
                  | succ zn ih213 =>
                    intro y L213 H locs ls hG hL213 hy0 hme213 hW hS hl
                    have hF : Fr [] [1100, 1600] S L213 := hF.tr hL213
                    have hE51 : Fr [] [1100, 1600] L4 L213 := hE51.tr hL213
                    have hE54 := hL213
                    have lk55 : (sI L213 h 53).toInt = (sI S h 53).toInt := by rw [hF.i hk (by decide) (by decide)]
                    refine lv_iload_n hx hb dX9_stands_213 rfl (lv_at hl 3 rfl) ?_
                    refine lv_aload_n hx hb dX9_stands_214 rfl (lv_at hl 0 rfl) ?_
                    refine pg_gi (ci := 9) (C := RX9) (T := TX9) (N := 63) hx hb hts wi9 hown hK hW (hF.k hk (by decide)) (by decide) rfl 53 (by decide) (hts (.fieldLink RX9 234 "IceHallModel" "outs" "I") (by decide +kernel)) (fun _ h9 => h9) rfl dX9_stands_215 ?_
                    have g56 : (0 : Int) ≤ (sI L213 h 53).toInt ∧ (sI L213 h 53).toInt ≤ 5 := hG.i (hF.k hk (by decide)) (by decide) 53 (by decide)
                    refine lv_icmp_ge (tgt := 239) hx hb dX9_stands_218 (by decide) (fun c57 => ?_) (fun c57 => ?_)
                    · have c57i : Int32.toInt (sI L213 h 53) ≤ Int32.toInt y := (i3_le _ _).mp c57
                      refine lv_iload_n hx hb dX9_stands_239 rfl (lv_at hl 1 rfl) ?_
                      exact pc_zret (v := gd) (S := L213) hx hb hr hlk hK hZ hA hW hS (by first | assumption | decide) (⟨hG, hF, trivial⟩) dX9_stands_240
                    · have c57i : ¬ (Int32.toInt (sI L213 h 53) ≤ Int32.toInt y) := fun h9 => c57 ((i3_le _ _).mpr h9)
                      refine lv_aload_n hx hb dX9_stands_221 rfl (lv_at hl 0 rfl) ?_
                      obtain ⟨b58, rb58, kb58, nb58⟩ := hG0.r hk List.not_mem_nil 41 (show rty 9 41 = some (11, 200) from rfl)
                      refine pg_gr (b := b58) (ci := 9) (C := RX9) (T := TX9) (N := 63) hx hb hts wi9 hown hK hW (hF.k hk (by decide)) (by decide) rfl 41 (by decide) (hts (.fieldLink RX9 85 "IceHallModel" "state" "[I") (by decide +kernel)) (fun _ h9 => h9) rfl (hF.r hk (by decide) rb58) dX9_stands_222 ?_
                      refine lv_aload_n hx hb dX9_stands_225 rfl (lv_at hl 0 rfl) ?_
                      obtain ⟨b59, rb59, kb59, nb59⟩ := hG0.r hk List.not_mem_nil 49 (show rty 9 49 = some (17, 5) from rfl)
                      refine pg_gr (b := b59) (ci := 9) (C := RX9) (T := TX9) (N := 63) hx hb hts wi9 hown hK hW (hF.k hk (by decide)) (by decide) rfl 49 (by decide) (hts (.fieldLink RX9 109 "IceHallModel" "out" "[I") (by decide +kernel)) (fun _ h9 => h9) rfl (hF.r hk (by decide) rb59) dX9_stands_226 ?_
                      refine lv_iload_n hx hb dX9_stands_229 rfl (lv_at hl 3 rfl) ?_
                      refine pg_iald hx hb hK hW (hF.k kb59 (by decide)) (by decide) (by rw [show sL L213 b59 = 5 from (hF.n kb59 (by decide) nb59)]; exact r_in (by omega)) dX9_stands_230 ?_
                      have g60 : (0 : Int) ≤ (sI L213 b59 (Int32.toNatClampNeg y)).toInt ∧ (sI L213 b59 (Int32.toNatClampNeg y)).toInt ≤ 199 := hG.iA (hF.k kb59 (by decide)) (by decide) (by decide) (Int32.toNatClampNeg y) (by decide)
                      refine lv_iconst (v := 4) hx hb dX9_stands_231 (by decide) ?_
                      refine pg_iast hx hb hK hW hS (hF.k kb58 (by decide)) (by decide) (by rw [show sL L213 b58 = 200 from (hF.n kb58 (by decide) nb58)]; exact r_in (by omega)) dX9_stands_232 (fun H locs hW hS => ?_)
                      have kq61 : sK L213 b58 = 11 := (hF.k kb58 (by decide))
                      obtain ⟨S62, eS62⟩ : ∃ T : St, T = stI L213 b58 (Int32.toNatClampNeg (sI L213 b59 (Int32.toNatClampNeg y))) 4 := ⟨_, rfl⟩
                      rw [← eS62] at hW
                      have hG : G S62 := by rw [eS62]; exact hG.I kq61 (ok_frA (by decide) (by decide))
                      have hF : Fr [] [1100, 1600] S S62 := by rw [eS62]; exact hF.IA kq61 (by decide) (by decide)
                      have hE51 : Fr [] [1100, 1600] L4 S62 := by rw [eS62]; exact hE51.IA kq61 (by decide) (by decide)
                      have hE54 : Fr [] [1100, 1600] L146 S62 := by rw [eS62]; exact hE54.IA kq61 (by decide) (by decide)
                      clear eS62
                      refine lv_iinc (v := y + 1) (lv' := [(3, .int (y + 1)), (0, .ref h), (1, .int gd), (2, .int pu)]) hx hb dX9_stands_233 hl (k := 3) rfl rfl (by decide) rfl (fun ls hl => ?_)
                      have i63 : (y + 1).toInt = (y).toInt + 1 := i3_add rfl rfl (by omega) (by omega)
                      refine lv_goto (tgt := 213) hx hb dX9_stands_236 (by decide) ?_
                      have lk64 : (sI S62 h 53).toInt = (sI S h 53).toInt := by rw [hF.i hk (by decide) (by decide)]
                      exact ih213 (y + 1) S62 _ _ ls hG hE54 (by omega) (by omega) hW hS (lv_cast (lv_sub hl [1, 2, 3, 0] rfl) (rfl))
                have lk65 : (sI L146 h 53).toInt = (sI S h 53).toInt := by rw [hF.i hk (by decide) (by decide)]
                exact loop213 _ 0 L146 _ _ ls hG hE54 (by decide) (Nat.lt_succ_self _) hW hS (lv_cast (lv_sub hl [1, 2, 3, 0] rfl) (rfl))
              · have c53i : ¬ (Int32.toInt pu ≤ Int32.toInt y) := fun h9 => c53 ((i3_le _ _).mpr h9)
                refine lv_iload_n hx hb dX9_stands_151 rfl (lv_at hl 1 rfl) ?_
                refine lv_if_eq (tgt := 211) hx hb dX9_stands_152 (by decide) (fun c66 => ?_) (fun c66 => ?_)
                · have c66i : Int32.toInt gd = (0 : Int) := (i3_eq _ _).mp c66
                  refine lv_iconst (v := 0) hx hb dX9_stands_211 (by decide) ?_
                  refine lv_istore_n (lv' := [(3, .int 0), (0, .ref h), (1, .int gd), (2, .int pu)]) hx hb dX9_stands_212 rfl hl (by decide) rfl (fun ls hl => ?_)
                  have hE67 : Fr [] [1100, 1600] L146 L146 := Fr.rf _ _ _
                  have loop213 : ∀ (zn : Nat) (y : Int32) (L213 : St) (H : Heap) (locs : List Loc) (ls : Array Slot), (G L213) → (Fr [] [1100, 1600] L146 L213) → (0 ≤ y.toInt) → (5 - y.toInt).toNat < zn → PW D cy A L213 H → va_S A s.heap H locs → lv_has ls 5 [(0, .ref h), (1, .int gd), (2, .int pu), (3, .int y)] → W p l e ({ frames := 2, cells := 0, slots := 0, locals := 47 } : Room) s m args below meth c H locs 0 0 (MQ below (va_Qi (fun r S1 => G S1 ∧ Fr [] [1100, 1600] S S1 ∧ True) (PU D cy A) A) args s 0 0 A) (F0 m 213 ls []) := by
                    intro zn
                    induction zn with
                    | zero => intros; exact absurd (by assumption) (Nat.not_lt_zero _)
                    | succ zn ih213 =>
                      intro y L213 H locs ls hG hL213 hy0 hme213 hW hS hl
                      have hF : Fr [] [1100, 1600] S L213 := hF.tr hL213
                      have hE51 : Fr [] [1100, 1600] L4 L213 := hE51.tr hL213
                      have hE67 := hL213
                      have lk68 : (sI L213 h 53).toInt = (sI S h 53).toInt := by rw [hF.i hk (by decide) (by decide)]
                      refine lv_iload_n hx hb dX9_stands_213 rfl (lv_at hl 3 rfl) ?_
                      refine lv_aload_n hx hb dX9_stands_214 rfl (lv_at hl 0 rfl) ?_
                      refine pg_gi (ci := 9) (C := RX9) (T := TX9) (N := 63) hx hb hts wi9 hown hK hW (hF.k hk (by decide)) (by decide) rfl 53 (by decide) (hts (.fieldLink RX9 234 "IceHallModel" "outs" "I") (by decide +kernel)) (fun _ h9 => h9) rfl dX9_stands_215 ?_
                      have g69 : (0 : Int) ≤ (sI L213 h 53).toInt ∧ (sI L213 h 53).toInt ≤ 5 := hG.i (hF.k hk (by decide)) (by decide) 53 (by decide)
                      refine lv_icmp_ge (tgt := 239) hx hb dX9_stands_218 (by decide) (fun c70 => ?_) (fun c70 => ?_)
                      · have c70i : Int32.toInt (sI L213 h 53) ≤ Int32.toInt y := (i3_le _ _).mp c70
                        refine lv_iload_n hx hb dX9_stands_239 rfl (lv_at hl 1 rfl) ?_
                        exact pc_zret (v := gd) (S := L213) hx hb hr hlk hK hZ hA hW hS (by first | assumption | decide) (⟨hG, hF, trivial⟩) dX9_stands_240
                      · have c70i : ¬ (Int32.toInt (sI L213 h 53) ≤ Int32.toInt y) := fun h9 => c70 ((i3_le _ _).mpr h9)
                        refine lv_aload_n hx hb dX9_stands_221 rfl (lv_at hl 0 rfl) ?_
                        obtain ⟨b71, rb71, kb71, nb71⟩ := hG0.r hk List.not_mem_nil 41 (show rty 9 41 = some (11, 200) from rfl)
                        refine pg_gr (b := b71) (ci := 9) (C := RX9) (T := TX9) (N := 63) hx hb hts wi9 hown hK hW (hF.k hk (by decide)) (by decide) rfl 41 (by decide) (hts (.fieldLink RX9 85 "IceHallModel" "state" "[I") (by decide +kernel)) (fun _ h9 => h9) rfl (hF.r hk (by decide) rb71) dX9_stands_222 ?_
                        refine lv_aload_n hx hb dX9_stands_225 rfl (lv_at hl 0 rfl) ?_
                        obtain ⟨b72, rb72, kb72, nb72⟩ := hG0.r hk List.not_mem_nil 49 (show rty 9 49 = some (17, 5) from rfl)
                        refine pg_gr (b := b72) (ci := 9) (C := RX9) (T := TX9) (N := 63) hx hb hts wi9 hown hK hW (hF.k hk (by decide)) (by decide) rfl 49 (by decide) (hts (.fieldLink RX9 109 "IceHallModel" "out" "[I") (by decide +kernel)) (fun _ h9 => h9) rfl (hF.r hk (by decide) rb72) dX9_stands_226 ?_
                        refine lv_iload_n hx hb dX9_stands_229 rfl (lv_at hl 3 rfl) ?_
                        refine pg_iald hx hb hK hW (hF.k kb72 (by decide)) (by decide) (by rw [show sL L213 b72 = 5 from (hF.n kb72 (by decide) nb72)]; exact r_in (by omega)) dX9_stands_230 ?_
                        have g73 : (0 : Int) ≤ (sI L213 b72 (Int32.toNatClampNeg y)).toInt ∧ (sI L213 b72 (Int32.toNatClampNeg y)).toInt ≤ 199 := hG.iA (hF.k kb72 (by decide)) (by decide) (by decide) (Int32.toNatClampNeg y) (by decide)
                        refine lv_iconst (v := 4) hx hb dX9_stands_231 (by decide) ?_
                        refine pg_iast hx hb hK hW hS (hF.k kb71 (by decide)) (by decide) (by rw [show sL L213 b71 = 200 from (hF.n kb71 (by decide) nb71)]; exact r_in (by omega)) dX9_stands_232 (fun H locs hW hS => ?_)
                        have kq74 : sK L213 b71 = 11 := (hF.k kb71 (by decide))
                        obtain ⟨S75, eS75⟩ : ∃ T : St, T = stI L213 b71 (Int32.toNatClampNeg (sI L213 b72 (Int32.toNatClampNeg y))) 4 := ⟨_, rfl⟩
                        rw [← eS75] at hW
                        have hG : G S75 := by rw [eS75]; exact hG.I kq74 (ok_frA (by decide) (by decide))
                        have hF : Fr [] [1100, 1600] S S75 := by rw [eS75]; exact hF.IA kq74 (by decide) (by decide)
                        have hE51 : Fr [] [1100, 1600] L4 S75 := by rw [eS75]; exact hE51.IA kq74 (by decide) (by decide)
                        have hE67 : Fr [] [1100, 1600] L146 S75 := by rw [eS75]; exact hE67.IA kq74 (by decide) (by decide)
                        clear eS75
                        refine lv_iinc (v := y + 1) (lv' := [(3, .int (y + 1)), (0, .ref h), (1, .int gd), (2, .int pu)]) hx hb dX9_stands_233 hl (k := 3) rfl rfl (by decide) rfl (fun ls hl => ?_)
                        have i76 : (y + 1).toInt = (y).toInt + 1 := i3_add rfl rfl (by omega) (by omega)
                        refine lv_goto (tgt := 213) hx hb dX9_stands_236 (by decide) ?_
                        have lk77 : (sI S75 h 53).toInt = (sI S h 53).toInt := by rw [hF.i hk (by decide) (by decide)]
                        exact ih213 (y + 1) S75 _ _ ls hG hE67 (by omega) (by omega) hW hS (lv_cast (lv_sub hl [1, 2, 3, 0] rfl) (rfl))
                  have lk78 : (sI L146 h 53).toInt = (sI S h 53).toInt := by rw [hF.i hk (by decide) (by decide)]
                  exact loop213 _ 0 L146 _ _ ls hG hE67 (by decide) (Nat.lt_succ_self _) hW hS (lv_cast (lv_sub hl [1, 2, 3, 0] rfl) (rfl))
                · have c66i : ¬ (Int32.toInt gd = (0 : Int)) := fun h9 => c66 ((i3_eq _ _).mpr h9)
                  have join204 : ∀ (v204 : Int32) (H : Heap) (locs : List Loc), (v204 = 0 ∨ v204 = 1) → PW D cy A L146 H → va_S A s.heap H locs → W p l e ({ frames := 2, cells := 0, slots := 0, locals := 47 } : Room) s m args below meth c H locs 0 0 (MQ below (va_Qi (fun r S1 => G S1 ∧ Fr [] [1100, 1600] S S1 ∧ True) (PU D cy A) A) args s 0 0 A) (F0 m 204 ls [.int v204]) := by
                    intro v204 H locs hv204 hW hS
                    refine lv_istore_n (lv' := [(1, .int v204), (0, .ref h), (2, .int pu), (3, .int y)]) hx hb dX9_stands_204 rfl hl (by decide) rfl (fun ls hl => ?_)
                    refine lv_iinc (v := y + 1) (lv' := [(3, .int (y + 1)), (1, .int v204), (0, .ref h), (2, .int pu)]) hx hb dX9_stands_205 hl (k := 3) rfl rfl (by decide) rfl (fun ls hl => ?_)
                    have i79 : (y + 1).toInt = (y).toInt + 1 := i3_add rfl rfl (by omega) (by omega)
                    refine lv_goto (tgt := 146) hx hb dX9_stands_208 (by decide) ?_
                    have lk80 : (sI L146 h 53).toInt = (sI S h 53).toInt := by rw [hF.i hk (by decide) (by decide)]
                    exact ih146 v204 (y + 1) L146 _ _ ls hG hE51 (by first | assumption | decide) (by omega) (by omega) hW hS (lv_cast (lv_sub hl [2, 1, 3, 0] rfl) (rfl))
                  refine lv_aload_n hx hb dX9_stands_155 rfl (lv_at hl 0 rfl) ?_
                  obtain ⟨b81, rb81, kb81, nb81⟩ := hG0.r hk List.not_mem_nil 50 (show rty 9 50 = some (19, 5) from rfl)
                  refine pg_gr (b := b81) (ci := 9) (C := RX9) (T := TX9) (N := 63) hx hb hts wi9 hown hK hW (hF.k hk (by decide)) (by decide) rfl 50 (by decide) (hts (.fieldLink RX9 112 "IceHallModel" "way" "[I") (by decide +kernel)) (fun _ h9 => h9) rfl (hF.r hk (by decide) rb81) dX9_stands_156 ?_
                  refine lv_iload_n hx hb dX9_stands_159 rfl (lv_at hl 3 rfl) ?_
                  refine pg_iald hx hb hK hW (hF.k kb81 (by decide)) (by decide) (by rw [show sL L146 b81 = 5 from (hF.n kb81 (by decide) nb81)]; exact r_in (by omega)) dX9_stands_160 ?_
                  have g82 : (0 : Int) ≤ (sI L146 b81 (Int32.toNatClampNeg y)).toInt ∧ (sI L146 b81 (Int32.toNatClampNeg y)).toInt ≤ 14 := hG.iA (hF.k kb81 (by decide)) (by decide) (by decide) (Int32.toNatClampNeg y) (by decide)
                  refine lv_bipush (v := 14) hx hb dX9_stands_161 (by decide) ?_
                  refine lv_icmp_eq (tgt := 199) hx hb dX9_stands_163 (by decide) (fun c83 => ?_) (fun c83 => ?_)
                  · have c83i : Int32.toInt (sI L146 b81 (Int32.toNatClampNeg y)) = (14 : Int) := (i3_eq _ _).mp c83
                    refine lv_iconst (v := 1) hx hb dX9_stands_199 (by decide) ?_
                    refine lv_goto (tgt := 204) hx hb dX9_stands_200 (by decide) ?_
                    exact join204 1 _ _ (by decide) hW hS
                  · have c83i : ¬ (Int32.toInt (sI L146 b81 (Int32.toNatClampNeg y)) = (14 : Int)) := fun h9 => c83 ((i3_eq _ _).mpr h9)
                    refine lv_aload_n hx hb dX9_stands_166 rfl (lv_at hl 0 rfl) ?_
                    refine lv_aload_n hx hb dX9_stands_167 rfl (lv_at hl 0 rfl) ?_
                    obtain ⟨b84, rb84, kb84, nb84⟩ := hG0.r hk List.not_mem_nil 39 (show rty 9 39 = some (11, 200) from rfl)
                    refine pg_gr (b := b84) (ci := 9) (C := RX9) (T := TX9) (N := 63) hx hb hts wi9 hown hK hW (hF.k hk (by decide)) (by decide) rfl 39 (by decide) (hts (.fieldLink RX9 79 "IceHallModel" "sheetOf" "[I") (by decide +kernel)) (fun _ h9 => h9) rfl (hF.r hk (by decide) rb84) dX9_stands_168 ?_
                    refine lv_aload_n hx hb dX9_stands_171 rfl (lv_at hl 0 rfl) ?_
                    obtain ⟨b85, rb85, kb85, nb85⟩ := hG0.r hk List.not_mem_nil 49 (show rty 9 49 = some (17, 5) from rfl)
                    refine pg_gr (b := b85) (ci := 9) (C := RX9) (T := TX9) (N := 63) hx hb hts wi9 hown hK hW (hF.k hk (by decide)) (by decide) rfl 49 (by decide) (hts (.fieldLink RX9 109 "IceHallModel" "out" "[I") (by decide +kernel)) (fun _ h9 => h9) rfl (hF.r hk (by decide) rb85) dX9_stands_172 ?_
                    refine lv_iload_n hx hb dX9_stands_175 rfl (lv_at hl 3 rfl) ?_
                    refine pg_iald hx hb hK hW (hF.k kb85 (by decide)) (by decide) (by rw [show sL L146 b85 = 5 from (hF.n kb85 (by decide) nb85)]; exact r_in (by omega)) dX9_stands_176 ?_
                    have g86 : (0 : Int) ≤ (sI L146 b85 (Int32.toNatClampNeg y)).toInt ∧ (sI L146 b85 (Int32.toNatClampNeg y)).toInt ≤ 199 := hG.iA (hF.k kb85 (by decide)) (by decide) (by decide) (Int32.toNatClampNeg y) (by decide)
                    refine pg_iald hx hb hK hW (hF.k kb84 (by decide)) (by decide) (by rw [show sL L146 b84 = 200 from (hF.n kb84 (by decide) nb84)]; exact r_in (by omega)) dX9_stands_177 ?_
                    refine lv_aload_n hx hb dX9_stands_178 rfl (lv_at hl 0 rfl) ?_
                    obtain ⟨b87, rb87, kb87, nb87⟩ := hG0.r hk List.not_mem_nil 40 (show rty 9 40 = some (16, 200) from rfl)
                    refine pg_gr (b := b87) (ci := 9) (C := RX9) (T := TX9) (N := 63) hx hb hts wi9 hown hK hW (hF.k hk (by decide)) (by decide) rfl 40 (by decide) (hts (.fieldLink RX9 82 "IceHallModel" "hourOf" "[I") (by decide +kernel)) (fun _ h9 => h9) rfl (hF.r hk (by decide) rb87) dX9_stands_179 ?_
                    refine lv_aload_n hx hb dX9_stands_182 rfl (lv_at hl 0 rfl) ?_
                    refine pg_gr (b := b85) (ci := 9) (C := RX9) (T := TX9) (N := 63) hx hb hts wi9 hown hK hW (hF.k hk (by decide)) (by decide) rfl 49 (by decide) (hts (.fieldLink RX9 109 "IceHallModel" "out" "[I") (by decide +kernel)) (fun _ h9 => h9) rfl (hF.r hk (by decide) rb85) dX9_stands_183 ?_
                    refine lv_iload_n hx hb dX9_stands_186 rfl (lv_at hl 3 rfl) ?_
                    refine pg_iald hx hb hK hW (hF.k kb85 (by decide)) (by decide) (by rw [show sL L146 b85 = 5 from (hF.n kb85 (by decide) nb85)]; exact r_in (by omega)) dX9_stands_187 ?_
                    have g88 : (0 : Int) ≤ (sI L146 b85 (Int32.toNatClampNeg y)).toInt ∧ (sI L146 b85 (Int32.toNatClampNeg y)).toInt ≤ 199 := hG.iA (hF.k kb85 (by decide)) (by decide) (by decide) (Int32.toNatClampNeg y) (by decide)
                    refine pg_iald hx hb hK hW (hF.k kb87 (by decide)) (by decide) (by rw [show sL L146 b87 = 200 from (hF.n kb87 (by decide) nb87)]; exact r_in (by omega)) dX9_stands_188 ?_
                    have g89 : (-10 : Int) ≤ (sI L146 b87 (Int32.toNatClampNeg (sI L146 b85 (Int32.toNatClampNeg y)))).toInt ∧ (sI L146 b87 (Int32.toNatClampNeg (sI L146 b85 (Int32.toNatClampNeg y)))).toInt ≤ 2000 := hG.iA (hF.k kb87 (by decide)) (by decide) (by decide) (Int32.toNatClampNeg (sI L146 b85 (Int32.toNatClampNeg y))) (by decide)
                    have lk90 : (sI L146 h 53).toInt = (sI S h 53).toInt := by rw [hF.i hk (by decide) (by decide)]
                    refine pc_Vi (As := [.int (sI L146 b84 (Int32.toNatClampNeg (sI L146 b85 (Int32.toNatClampNeg y)))), .int (sI L146 b87 (Int32.toNatClampNeg (sI L146 b85 (Int32.toNatClampNeg y))))]) (rest := []) F (b_X9_inRow l D cy A L146 h (sI L146 b84 (Int32.toNatClampNeg (sI L146 b85 (Int32.toNatClampNeg y)))) (sI L146 b87 (Int32.toNatClampNeg (sI L146 b85 (Int32.toNatClampNeg y)))) hG (hF.k hk (by decide)) (by omega) (by omega)) (cwV 2 hts gX9_stands_X9_inRow rfl rfl rfl (by decide +kernel) ⟨Nat.le_of_ble_eq_true rfl, Nat.le_of_ble_eq_true rfl⟩) hK hZ hA hW hS (hF.k hk (by decide)) (by decide) rfl rfl hl.1 rfl (Nat.le_of_ble_eq_true rfl) dX9_stands_189 ⟨Nat.le_of_ble_eq_true rfl, Nat.le_of_ble_eq_true rfl⟩ (fun v91 T92 H locs p93 hW hS => ?_)
                    obtain ⟨eT92, p93⟩ := p93
                    rw [eT92] at hW
                    clear eT92
                    refine lv_aload_n hx hb dX9_stands_192 rfl (lv_at hl 0 rfl) ?_
                    refine pg_gi (ci := 9) (C := RX9) (T := TX9) (N := 63) hx hb hts wi9 hown hK hW (hF.k hk (by decide)) (by decide) rfl 25 (by decide) (hts (.fieldLink RX9 42 "IceHallModel" "restOf" "I") (by decide +kernel)) (fun _ h9 => h9) rfl dX9_stands_193 ?_
                    refine lv_icmp_gt (tgt := 203) hx hb dX9_stands_196 (by decide) (fun c94 => ?_) (fun c94 => ?_)
                    · have c94i : Int32.toInt (sI L146 h 25) < Int32.toInt v91 := (i3_lt _ _).mp c94
                      refine lv_iconst (v := 0) hx hb dX9_stands_203 (by decide) ?_
                      exact join204 0 _ _ (by decide) hW hS
                    · have c94i : ¬ (Int32.toInt (sI L146 h 25) < Int32.toInt v91) := fun h9 => c94 ((i3_lt _ _).mpr h9)
                      refine lv_iconst (v := 1) hx hb dX9_stands_199 (by decide) ?_
                      refine lv_goto (tgt := 204) hx hb dX9_stands_200 (by decide) ?_
                      exact join204 1 _ _ (by decide) hW hS
          have lk95 : (sI L4 h 53).toInt = (sI S h 53).toInt := by rw [hF.i hk (by decide) (by decide)]
          exact loop146 _ gd 0 L4 _ _ ls hG hE51 (by first | assumption | decide) (by decide) (Nat.lt_succ_self _) hW hS (lv_cast (lv_sub hl [1, 2, 3, 0] rfl) (rfl))
        · have c50i : ¬ (Int32.toInt (sI L4 h 53) ≤ Int32.toInt pu) := fun h9 => c50 ((i3_le _ _).mpr h9)
          refine lv_aload_n hx hb dX9_stands_16 rfl (lv_at hl 0 rfl) ?_
          obtain ⟨b96, rb96, kb96, nb96⟩ := hG0.r hk List.not_mem_nil 50 (show rty 9 50 = some (19, 5) from rfl)
          refine pg_gr (b := b96) (ci := 9) (C := RX9) (T := TX9) (N := 63) hx hb hts wi9 hown hK hW (hF.k hk (by decide)) (by decide) rfl 50 (by decide) (hts (.fieldLink RX9 112 "IceHallModel" "way" "[I") (by decide +kernel)) (fun _ h9 => h9) rfl (hF.r hk (by decide) rb96) dX9_stands_17 ?_
          refine lv_iload_n hx hb dX9_stands_20 rfl (lv_at hl 2 rfl) ?_
          refine pg_iald hx hb hK hW (hF.k kb96 (by decide)) (by decide) (by rw [show sL L4 b96 = 5 from (hF.n kb96 (by decide) nb96)]; exact r_in (by omega)) dX9_stands_21 ?_
          have g97 : (0 : Int) ≤ (sI L4 b96 (Int32.toNatClampNeg pu)).toInt ∧ (sI L4 b96 (Int32.toNatClampNeg pu)).toInt ≤ 14 := hG.iA (hF.k kb96 (by decide)) (by decide) (by decide) (Int32.toNatClampNeg pu) (by decide)
          refine lv_bipush (v := 14) hx hb dX9_stands_22 (by decide) ?_
          refine lv_icmp_eq (tgt := 133) hx hb dX9_stands_24 (by decide) (fun c98 => ?_) (fun c98 => ?_)
          · have c98i : Int32.toInt (sI L4 b96 (Int32.toNatClampNeg pu)) = (14 : Int) := (i3_eq _ _).mp c98
            refine lv_iload_n hx hb dX9_stands_133 rfl (lv_at hl 1 rfl) ?_
            refine lv_if_eq (tgt := 4) hx hb dX9_stands_134 (by decide) (fun c99 => ?_) (fun c99 => ?_)
            · have c99i : Int32.toInt gd = (0 : Int) := (i3_eq _ _).mp c99
              have lk100 : (sI L4 h 53).toInt = (sI S h 53).toInt := by rw [hF.i hk (by decide) (by decide)]
              exact ih4 gd pu L4 _ _ ls hG hF (by first | assumption | decide) (by omega) (by omega) hW hS (lv_cast (lv_sub hl [0, 1, 2] rfl) (rfl))
            · have c99i : ¬ (Int32.toInt gd = (0 : Int)) := fun h9 => c99 ((i3_eq _ _).mpr h9)
              refine lv_iload_n hx hb dX9_stands_137 rfl (lv_at hl 2 rfl) ?_
              refine lv_iconst (v := 1) hx hb dX9_stands_138 (by decide) ?_
              refine lv_iadd hx hb dX9_stands_139 ?_
              have l101 : (pu + 1).toInt = Int32.toInt pu + (1 : Int) := i3_add rfl rfl (by omega) (by omega)
              refine lv_istore_n (lv' := [(2, .int (pu + 1)), (0, .ref h), (1, .int gd)]) hx hb dX9_stands_140 rfl hl (by decide) rfl (fun ls hl => ?_)
              refine lv_goto (tgt := 4) hx hb dX9_stands_141 (by decide) ?_
              have lk102 : (sI L4 h 53).toInt = (sI S h 53).toInt := by rw [hF.i hk (by decide) (by decide)]
              exact ih4 gd (pu + 1) L4 _ _ ls hG hF (by first | assumption | decide) (by omega) (by omega) hW hS (lv_cast (lv_sub hl [1, 2, 0] rfl) (rfl))
          · have c98i : ¬ (Int32.toInt (sI L4 b96 (Int32.toNatClampNeg pu)) = (14 : Int)) := fun h9 => c98 ((i3_eq _ _).mpr h9)
            refine lv_aload_n hx hb dX9_stands_27 rfl (lv_at hl 0 rfl) ?_
            refine pg_gr (b := b96) (ci := 9) (C := RX9) (T := TX9) (N := 63) hx hb hts wi9 hown hK hW (hF.k hk (by decide)) (by decide) rfl 50 (by decide) (hts (.fieldLink RX9 112 "IceHallModel" "way" "[I") (by decide +kernel)) (fun _ h9 => h9) rfl (hF.r hk (by decide) rb96) dX9_stands_28 ?_
            refine lv_iload_n hx hb dX9_stands_31 rfl (lv_at hl 2 rfl) ?_
            refine pg_iald hx hb hK hW (hF.k kb96 (by decide)) (by decide) (by rw [show sL L4 b96 = 5 from (hF.n kb96 (by decide) nb96)]; exact r_in (by omega)) dX9_stands_32 ?_
            have g103 : (0 : Int) ≤ (sI L4 b96 (Int32.toNatClampNeg pu)).toInt ∧ (sI L4 b96 (Int32.toNatClampNeg pu)).toInt ≤ 14 := hG.iA (hF.k kb96 (by decide)) (by decide) (by decide) (Int32.toNatClampNeg pu) (by decide)
            refine lv_iconst (v := 2) hx hb dX9_stands_33 (by decide) ?_
            refine lv_irem hx hb dX9_stands_34 (by decide) ?_
            refine lv_istore_n (lv' := [(3, .int ((sI L4 b96 (Int32.toNatClampNeg pu)) - (sI L4 b96 (Int32.toNatClampNeg pu)) / 2 * 2)), (0, .ref h), (1, .int gd), (2, .int pu)]) hx hb dX9_stands_35 rfl hl (by decide) rfl (fun ls hl => ?_)
            refine lv_aload_n hx hb dX9_stands_36 rfl (lv_at hl 1 rfl) ?_
            obtain ⟨b104, rb104, kb104, nb104⟩ := hG0.r hk List.not_mem_nil 52 (show rty 9 52 = some (18, 5) from rfl)
            refine pg_gr (b := b104) (ci := 9) (C := RX9) (T := TX9) (N := 63) hx hb hts wi9 hown hK hW (hF.k hk (by decide)) (by decide) rfl 52 (by decide) (hts (.fieldLink RX9 118 "IceHallModel" "wayHour" "[I") (by decide +kernel)) (fun _ h9 => h9) rfl (hF.r hk (by decide) rb104) dX9_stands_37 ?_
            refine lv_iload_n hx hb dX9_stands_40 rfl (lv_at hl 3 rfl) ?_
            refine pg_iald hx hb hK hW (hF.k kb104 (by decide)) (by decide) (by rw [show sL L4 b104 = 5 from (hF.n kb104 (by decide) nb104)]; exact r_in (by omega)) dX9_stands_41 ?_
            have g105 : (0 : Int) ≤ (sI L4 b104 (Int32.toNatClampNeg pu)).toInt ∧ (sI L4 b104 (Int32.toNatClampNeg pu)).toInt ≤ 1990 := hG.iA (hF.k kb104 (by decide)) (by decide) (by decide) (Int32.toNatClampNeg pu) (by decide)
            refine lv_aload_n hx hb dX9_stands_42 rfl (lv_at hl 1 rfl) ?_
            refine pg_gr (b := b96) (ci := 9) (C := RX9) (T := TX9) (N := 63) hx hb hts wi9 hown hK hW (hF.k hk (by decide)) (by decide) rfl 50 (by decide) (hts (.fieldLink RX9 112 "IceHallModel" "way" "[I") (by decide +kernel)) (fun _ h9 => h9) rfl (hF.r hk (by decide) rb96) dX9_stands_43 ?_
            refine lv_iload_n hx hb dX9_stands_46 rfl (lv_at hl 3 rfl) ?_
            refine pg_iald hx hb hK hW (hF.k kb96 (by decide)) (by decide) (by rw [show sL L4 b96 = 5 from (hF.n kb96 (by decide) nb96)]; exact r_in (by omega)) dX9_stands_47 ?_
            have g106 : (0 : Int) ≤ (sI L4 b96 (Int32.toNatClampNeg pu)).toInt ∧ (sI L4 b96 (Int32.toNatClampNeg pu)).toInt ≤ 14 := hG.iA (hF.k kb96 (by decide)) (by decide) (by decide) (Int32.toNatClampNeg pu) (by decide)
            refine lv_iconst (v := 2) hx hb dX9_stands_48 (by decide) ?_
            refine lv_idiv hx hb dX9_stands_49 (by decide) ?_
            have h7107 := hf_7 (a := sI L4 b96 (Int32.toNatClampNeg pu)) (by omega) (by omega)
            have lk108 : (sI L4 h 53).toInt = (sI S h 53).toInt := by rw [hF.i hk (by decide) (by decide)]
            refine pc_Si (As := [.int ((sI L4 b96 (Int32.toNatClampNeg pu)) / 2)]) (rest := [.int (sI L4 b104 (Int32.toNatClampNeg pu))]) F (b_X9_behind l D cy A L4 ((sI L4 b96 (Int32.toNatClampNeg pu)) / 2) (by omega) (by omega)) (va_cwS 1 hts gX9_stands_X9_behind rfl rfl rfl (by decide +kernel) ⟨Nat.le_of_ble_eq_true rfl, Nat.le_of_ble_eq_true rfl⟩) hK hZ hA hW hS rfl hl.1 rfl (Nat.le_of_ble_eq_true rfl) dX9_stands_50 ⟨Nat.le_of_ble_eq_true rfl, Nat.le_of_ble_eq_true rfl⟩ (fun v109 T110 H locs p111 hW hS => ?_)
            obtain ⟨eT110, p111⟩ := p111
            rw [eT110] at hW
            clear eT110
            refine lv_iadd hx hb dX9_stands_53 ?_
            have l112 : ((sI L4 b104 (Int32.toNatClampNeg pu)) + v109).toInt = Int32.toInt (sI L4 b104 (Int32.toNatClampNeg pu)) + Int32.toInt v109 := i3_add rfl rfl (by omega) (by omega)
            refine lv_istore (lv' := [(4, .int ((sI L4 b104 (Int32.toNatClampNeg pu)) + v109)), (3, .int ((sI L4 b96 (Int32.toNatClampNeg pu)) - (sI L4 b96 (Int32.toNatClampNeg pu)) / 2 * 2)), (0, .ref h), (1, .int gd), (2, .int pu)]) hx hb dX9_stands_54 hl (by decide) rfl (fun ls hl => ?_)
            have join91 : ∀ (v91 : Int32) (H : Heap) (locs : List Loc), (v91 = 0 ∨ v91 = 1) → PW D cy A L4 H → va_S A s.heap H locs → W p l e ({ frames := 2, cells := 0, slots := 0, locals := 47 } : Room) s m args below meth c H locs 0 0 (MQ below (va_Qi (fun r S1 => G S1 ∧ Fr [] [1100, 1600] S S1 ∧ True) (PU D cy A) A) args s 0 0 A) (F0 m 91 ls [.int v91]) := by
              intro v91 H locs hv91 hW hS
              have hv91i : v91.toInt = 0 ∨ v91.toInt = 1 := hv91.elim (fun h9 => Or.inl (by rw [h9]; rfl)) (fun h9 => Or.inr (by rw [h9]; rfl))
              refine lv_istore_n (lv' := [(1, .int v91), (4, .int ((sI L4 b104 (Int32.toNatClampNeg pu)) + v109)), (3, .int ((sI L4 b96 (Int32.toNatClampNeg pu)) - (sI L4 b96 (Int32.toNatClampNeg pu)) / 2 * 2)), (0, .ref h), (2, .int pu)]) hx hb dX9_stands_91 rfl hl (by decide) rfl (fun ls hl => ?_)
              refine lv_iload_n hx hb dX9_stands_92 rfl (lv_at hl 0 rfl) ?_
              refine lv_if_eq (tgt := 133) hx hb dX9_stands_93 (by decide) (fun c113 => ?_) (fun c113 => ?_)
              · have c113i : Int32.toInt v91 = (0 : Int) := (i3_eq _ _).mp c113
                refine lv_iload_n hx hb dX9_stands_133 rfl (lv_at hl 0 rfl) ?_
                refine lv_if_eq (tgt := 4) hx hb dX9_stands_134 (by decide) (fun c114 => ?_) (fun c114 => ?_)
                · have c114i : Int32.toInt v91 = (0 : Int) := (i3_eq _ _).mp c114
                  have lk115 : (sI L4 h 53).toInt = (sI S h 53).toInt := by rw [hF.i hk (by decide) (by decide)]
                  exact ih4 v91 pu L4 _ _ ls hG hF (by first | assumption | decide) (by omega) (by omega) hW hS (lv_cast (lv_sub hl [3, 0, 4] rfl) (rfl))
                · have c114i : ¬ (Int32.toInt v91 = (0 : Int)) := fun h9 => c114 ((i3_eq _ _).mpr h9)
                  refine lv_iload_n hx hb dX9_stands_137 rfl (lv_at hl 4 rfl) ?_
                  refine lv_iconst (v := 1) hx hb dX9_stands_138 (by decide) ?_
                  refine lv_iadd hx hb dX9_stands_139 ?_
                  have l116 : (pu + 1).toInt = Int32.toInt pu + (1 : Int) := i3_add rfl rfl (by omega) (by omega)
                  refine lv_istore_n (lv' := [(2, .int (pu + 1)), (1, .int v91), (4, .int ((sI L4 b104 (Int32.toNatClampNeg pu)) + v109)), (3, .int ((sI L4 b96 (Int32.toNatClampNeg pu)) - (sI L4 b96 (Int32.toNatClampNeg pu)) / 2 * 2)), (0, .ref h)]) hx hb dX9_stands_140 rfl hl (by decide) rfl (fun ls hl => ?_)
                  refine lv_goto (tgt := 4) hx hb dX9_stands_141 (by decide) ?_
                  have lk117 : (sI L4 h 53).toInt = (sI S h 53).toInt := by rw [hF.i hk (by decide) (by decide)]
                  exact ih4 v91 (pu + 1) L4 _ _ ls hG hF (by first | assumption | decide) (by omega) (by omega) hW hS (lv_cast (lv_sub hl [4, 1, 0] rfl) (rfl))
              · have c113i : ¬ (Int32.toInt v91 = (0 : Int)) := fun h9 => c113 ((i3_eq _ _).mpr h9)
                refine lv_aload_n hx hb dX9_stands_96 rfl (lv_at hl 3 rfl) ?_
                obtain ⟨b118, rb118, kb118, nb118⟩ := hG0.r hk List.not_mem_nil 41 (show rty 9 41 = some (11, 200) from rfl)
                refine pg_gr (b := b118) (ci := 9) (C := RX9) (T := TX9) (N := 63) hx hb hts wi9 hown hK hW (hF.k hk (by decide)) (by decide) rfl 41 (by decide) (hts (.fieldLink RX9 85 "IceHallModel" "state" "[I") (by decide +kernel)) (fun _ h9 => h9) rfl (hF.r hk (by decide) rb118) dX9_stands_97 ?_
                refine lv_aload_n hx hb dX9_stands_100 rfl (lv_at hl 3 rfl) ?_
                obtain ⟨b119, rb119, kb119, nb119⟩ := hG0.r hk List.not_mem_nil 49 (show rty 9 49 = some (17, 5) from rfl)
                refine pg_gr (b := b119) (ci := 9) (C := RX9) (T := TX9) (N := 63) hx hb hts wi9 hown hK hW (hF.k hk (by decide)) (by decide) rfl 49 (by decide) (hts (.fieldLink RX9 109 "IceHallModel" "out" "[I") (by decide +kernel)) (fun _ h9 => h9) rfl (hF.r hk (by decide) rb119) dX9_stands_101 ?_
                refine lv_iload_n hx hb dX9_stands_104 rfl (lv_at hl 4 rfl) ?_
                refine pg_iald hx hb hK hW (hF.k kb119 (by decide)) (by decide) (by rw [show sL L4 b119 = 5 from (hF.n kb119 (by decide) nb119)]; exact r_in (by omega)) dX9_stands_105 ?_
                have g120 : (0 : Int) ≤ (sI L4 b119 (Int32.toNatClampNeg pu)).toInt ∧ (sI L4 b119 (Int32.toNatClampNeg pu)).toInt ≤ 199 := hG.iA (hF.k kb119 (by decide)) (by decide) (by decide) (Int32.toNatClampNeg pu) (by decide)
                refine lv_iconst (v := 0) hx hb dX9_stands_106 (by decide) ?_
                refine pg_iast hx hb hK hW hS (hF.k kb118 (by decide)) (by decide) (by rw [show sL L4 b118 = 200 from (hF.n kb118 (by decide) nb118)]; exact r_in (by omega)) dX9_stands_107 (fun H locs hW hS => ?_)
                have kq121 : sK L4 b118 = 11 := (hF.k kb118 (by decide))
                obtain ⟨S122, eS122⟩ : ∃ T : St, T = stI L4 b118 (Int32.toNatClampNeg (sI L4 b119 (Int32.toNatClampNeg pu))) 0 := ⟨_, rfl⟩
                rw [← eS122] at hW
                have hG : G S122 := by rw [eS122]; exact hG.I kq121 (ok_frA (by decide) (by decide))
                have hF : Fr [] [1100, 1600] S S122 := by rw [eS122]; exact hF.IA kq121 (by decide) (by decide)
                clear eS122
                refine lv_aload_n hx hb dX9_stands_108 rfl (lv_at hl 3 rfl) ?_
                obtain ⟨b123, rb123, kb123, nb123⟩ := hG0.r hk List.not_mem_nil 39 (show rty 9 39 = some (11, 200) from rfl)
                refine pg_gr (b := b123) (ci := 9) (C := RX9) (T := TX9) (N := 63) hx hb hts wi9 hown hK hW (hF.k hk (by decide)) (by decide) rfl 39 (by decide) (hts (.fieldLink RX9 79 "IceHallModel" "sheetOf" "[I") (by decide +kernel)) (fun _ h9 => h9) rfl (hF.r hk (by decide) rb123) dX9_stands_109 ?_
                refine lv_aload_n hx hb dX9_stands_112 rfl (lv_at hl 3 rfl) ?_
                refine pg_gr (b := b119) (ci := 9) (C := RX9) (T := TX9) (N := 63) hx hb hts wi9 hown hK hW (hF.k hk (by decide)) (by decide) rfl 49 (by decide) (hts (.fieldLink RX9 109 "IceHallModel" "out" "[I") (by decide +kernel)) (fun _ h9 => h9) rfl (hF.r hk (by decide) rb119) dX9_stands_113 ?_
                refine lv_iload_n hx hb dX9_stands_116 rfl (lv_at hl 4 rfl) ?_
                refine pg_iald hx hb hK hW (hF.k kb119 (by decide)) (by decide) (by rw [show sL S122 b119 = 5 from (hF.n kb119 (by decide) nb119)]; exact r_in (by omega)) dX9_stands_117 ?_
                have g124 : (0 : Int) ≤ (sI S122 b119 (Int32.toNatClampNeg pu)).toInt ∧ (sI S122 b119 (Int32.toNatClampNeg pu)).toInt ≤ 199 := hG.iA (hF.k kb119 (by decide)) (by decide) (by decide) (Int32.toNatClampNeg pu) (by decide)
                refine lv_iload_n hx hb dX9_stands_118 rfl (lv_at hl 2 rfl) ?_
                refine pg_iast hx hb hK hW hS (hF.k kb123 (by decide)) (by decide) (by rw [show sL S122 b123 = 200 from (hF.n kb123 (by decide) nb123)]; exact r_in (by omega)) dX9_stands_119 (fun H locs hW hS => ?_)
                have kq125 : sK S122 b123 = 11 := (hF.k kb123 (by decide))
                obtain ⟨S126, eS126⟩ : ∃ T : St, T = stI S122 b123 (Int32.toNatClampNeg (sI S122 b119 (Int32.toNatClampNeg pu))) ((sI L4 b96 (Int32.toNatClampNeg pu)) - (sI L4 b96 (Int32.toNatClampNeg pu)) / 2 * 2) := ⟨_, rfl⟩
                rw [← eS126] at hW
                have hG : G S126 := by rw [eS126]; exact hG.I kq125 (ok_frA (by decide) (by decide))
                have hF : Fr [] [1100, 1600] S S126 := by rw [eS126]; exact hF.IA kq125 (by decide) (by decide)
                clear eS126
                refine lv_aload_n hx hb dX9_stands_120 rfl (lv_at hl 3 rfl) ?_
                obtain ⟨b127, rb127, kb127, nb127⟩ := hG0.r hk List.not_mem_nil 40 (show rty 9 40 = some (16, 200) from rfl)
                refine pg_gr (b := b127) (ci := 9) (C := RX9) (T := TX9) (N := 63) hx hb hts wi9 hown hK hW (hF.k hk (by decide)) (by decide) rfl 40 (by decide) (hts (.fieldLink RX9 82 "IceHallModel" "hourOf" "[I") (by decide +kernel)) (fun _ h9 => h9) rfl (hF.r hk (by decide) rb127) dX9_stands_121 ?_
                refine lv_aload_n hx hb dX9_stands_124 rfl (lv_at hl 3 rfl) ?_
                refine pg_gr (b := b119) (ci := 9) (C := RX9) (T := TX9) (N := 63) hx hb hts wi9 hown hK hW (hF.k hk (by decide)) (by decide) rfl 49 (by decide) (hts (.fieldLink RX9 109 "IceHallModel" "out" "[I") (by decide +kernel)) (fun _ h9 => h9) rfl (hF.r hk (by decide) rb119) dX9_stands_125 ?_
                refine lv_iload_n hx hb dX9_stands_128 rfl (lv_at hl 4 rfl) ?_
                refine pg_iald hx hb hK hW (hF.k kb119 (by decide)) (by decide) (by rw [show sL S126 b119 = 5 from (hF.n kb119 (by decide) nb119)]; exact r_in (by omega)) dX9_stands_129 ?_
                have g128 : (0 : Int) ≤ (sI S126 b119 (Int32.toNatClampNeg pu)).toInt ∧ (sI S126 b119 (Int32.toNatClampNeg pu)).toInt ≤ 199 := hG.iA (hF.k kb119 (by decide)) (by decide) (by decide) (Int32.toNatClampNeg pu) (by decide)
                refine lv_iload hx hb dX9_stands_130 (lv_at hl 1 rfl) ?_
                refine pg_iast hx hb hK hW hS (hF.k kb127 (by decide)) (by decide) (by rw [show sL S126 b127 = 200 from (hF.n kb127 (by decide) nb127)]; exact r_in (by omega)) dX9_stands_132 (fun H locs hW hS => ?_)
                have kq129 : sK S126 b127 = 16 := (hF.k kb127 (by decide))
                obtain ⟨S130, eS130⟩ : ∃ T : St, T = stI S126 b127 (Int32.toNatClampNeg (sI S126 b119 (Int32.toNatClampNeg pu))) ((sI L4 b104 (Int32.toNatClampNeg pu)) + v109) := ⟨_, rfl⟩
                rw [← eS130] at hW
                have hG : G S130 := by rw [eS130]; exact hG.I kq129 (ok_inA (by decide) (-10) 2000 (by decide) (⟨by omega, by omega⟩))
                have hF : Fr [] [1100, 1600] S S130 := by rw [eS130]; exact hF.IA kq129 (by decide) (by decide)
                clear eS130
                refine lv_iload_n hx hb dX9_stands_133 rfl (lv_at hl 0 rfl) ?_
                refine lv_if_eq (tgt := 4) hx hb dX9_stands_134 (by decide) (fun c131 => ?_) (fun c131 => ?_)
                · have c131i : Int32.toInt v91 = (0 : Int) := (i3_eq _ _).mp c131
                  have lk132 : (sI S130 h 53).toInt = (sI S h 53).toInt := by rw [hF.i hk (by decide) (by decide)]
                  exact ih4 v91 pu S130 _ _ ls hG hF (by first | assumption | decide) (by omega) (by omega) hW hS (lv_cast (lv_sub hl [3, 0, 4] rfl) (rfl))
                · have c131i : ¬ (Int32.toInt v91 = (0 : Int)) := fun h9 => c131 ((i3_eq _ _).mpr h9)
                  refine lv_iload_n hx hb dX9_stands_137 rfl (lv_at hl 4 rfl) ?_
                  refine lv_iconst (v := 1) hx hb dX9_stands_138 (by decide) ?_
                  refine lv_iadd hx hb dX9_stands_139 ?_
                  have l133 : (pu + 1).toInt = Int32.toInt pu + (1 : Int) := i3_add rfl rfl (by omega) (by omega)
                  refine lv_istore_n (lv' := [(2, .int (pu + 1)), (1, .int v91), (4, .int ((sI L4 b104 (Int32.toNatClampNeg pu)) + v109)), (3, .int ((sI L4 b96 (Int32.toNatClampNeg pu)) - (sI L4 b96 (Int32.toNatClampNeg pu)) / 2 * 2)), (0, .ref h)]) hx hb dX9_stands_140 rfl hl (by decide) rfl (fun ls hl => ?_)
                  refine lv_goto (tgt := 4) hx hb dX9_stands_141 (by decide) ?_
                  have lk134 : (sI S130 h 53).toInt = (sI S h 53).toInt := by rw [hF.i hk (by decide) (by decide)]
                  exact ih4 v91 (pu + 1) S130 _ _ ls hG hF (by first | assumption | decide) (by omega) (by omega) hW hS (lv_cast (lv_sub hl [4, 1, 0] rfl) (rfl))
            refine lv_iload hx hb dX9_stands_56 (lv_at hl 0 rfl) ?_
            refine lv_aload_n hx hb dX9_stands_58 rfl (lv_at hl 2 rfl) ?_
            refine pg_gi (ci := 9) (C := RX9) (T := TX9) (N := 63) hx hb hts wi9 hown hK hW (hF.k hk (by decide)) (by decide) rfl 18 (by decide) (hts (.fieldLink RX9 219 "IceHallModel" "now" "I") (by decide +kernel)) (fun _ h9 => h9) rfl dX9_stands_59 ?_
            have g135 : (0 : Int) ≤ (sI L4 h 18).toInt ∧ (sI L4 h 18).toInt ≤ 990 := hG.i (hF.k hk (by decide)) (by decide) 18 (by decide)
            refine lv_icmp_lt (tgt := 90) hx hb dX9_stands_62 (by decide) (fun c136 => ?_) (fun c136 => ?_)
            · have c136i : Int32.toInt ((sI L4 b104 (Int32.toNatClampNeg pu)) + v109) < Int32.toInt (sI L4 h 18) := (i3_lt _ _).mp c136
              refine lv_iconst (v := 0) hx hb dX9_stands_90 (by decide) ?_
              exact join91 0 _ _ (by decide) hW hS
            · have c136i : ¬ (Int32.toInt ((sI L4 b104 (Int32.toNatClampNeg pu)) + v109) < Int32.toInt (sI L4 h 18)) := fun h9 => c136 ((i3_lt _ _).mpr h9)
              refine lv_aload_n hx hb dX9_stands_65 rfl (lv_at hl 2 rfl) ?_
              refine lv_iload_n hx hb dX9_stands_66 rfl (lv_at hl 1 rfl) ?_
              refine lv_iload hx hb dX9_stands_67 (lv_at hl 0 rfl) ?_
              have lk137 : (sI L4 h 53).toInt = (sI S h 53).toInt := by rw [hF.i hk (by decide) (by decide)]
              refine pc_Vi (As := [.int ((sI L4 b96 (Int32.toNatClampNeg pu)) - (sI L4 b96 (Int32.toNatClampNeg pu)) / 2 * 2), .int ((sI L4 b104 (Int32.toNatClampNeg pu)) + v109)]) (rest := []) F (b_X9_isClosed l D cy A L4 h ((sI L4 b96 (Int32.toNatClampNeg pu)) - (sI L4 b96 (Int32.toNatClampNeg pu)) / 2 * 2) ((sI L4 b104 (Int32.toNatClampNeg pu)) + v109) hG (hF.k hk (by decide))) (cwV 2 hts gX9_stands_X9_isClosed rfl rfl rfl (by decide +kernel) ⟨Nat.le_of_ble_eq_true rfl, Nat.le_of_ble_eq_true rfl⟩) hK hZ hA hW hS (hF.k hk (by decide)) (by decide) rfl rfl hl.1 rfl (Nat.le_of_ble_eq_true rfl) dX9_stands_69 ⟨Nat.le_of_ble_eq_true rfl, Nat.le_of_ble_eq_true rfl⟩ (fun v138 T139 H locs p140 hW hS => ?_)
              obtain ⟨eT139, p140⟩ := p140
              rw [eT139] at hW
              clear eT139
              refine lv_if_ne (tgt := 90) hx hb dX9_stands_72 (by decide) (fun c141 => ?_) (fun c141 => ?_)
              · have c141i : ¬ (Int32.toInt v138 = (0 : Int)) := fun h9 => c141 ((i3_eq _ _).mpr h9)
                refine lv_iconst (v := 0) hx hb dX9_stands_90 (by decide) ?_
                exact join91 0 _ _ (by decide) hW hS
              · have c141i : Int32.toInt v138 = (0 : Int) := (i3_eq _ _).mp c141
                refine lv_aload_n hx hb dX9_stands_75 rfl (lv_at hl 2 rfl) ?_
                refine lv_iload_n hx hb dX9_stands_76 rfl (lv_at hl 1 rfl) ?_
                refine lv_iload hx hb dX9_stands_77 (lv_at hl 0 rfl) ?_
                have lk142 : (sI L4 h 53).toInt = (sI S h 53).toInt := by rw [hF.i hk (by decide) (by decide)]
                refine pc_Vi (As := [.int ((sI L4 b96 (Int32.toNatClampNeg pu)) - (sI L4 b96 (Int32.toNatClampNeg pu)) / 2 * 2), .int ((sI L4 b104 (Int32.toNatClampNeg pu)) + v109)]) (rest := []) F (b_X9_standing l D cy A L4 h ((sI L4 b96 (Int32.toNatClampNeg pu)) - (sI L4 b96 (Int32.toNatClampNeg pu)) / 2 * 2) ((sI L4 b104 (Int32.toNatClampNeg pu)) + v109) hG (hF.k hk (by decide))) (cwV 2 hts gX9_stands_X9_standing rfl rfl rfl (by decide +kernel) ⟨Nat.le_of_ble_eq_true rfl, Nat.le_of_ble_eq_true rfl⟩) hK hZ hA hW hS (hF.k hk (by decide)) (by decide) rfl rfl hl.1 rfl (Nat.le_of_ble_eq_true rfl) dX9_stands_79 ⟨Nat.le_of_ble_eq_true rfl, Nat.le_of_ble_eq_true rfl⟩ (fun v143 T144 H locs p145 hW hS => ?_)
                obtain ⟨eT144, p145⟩ := p145
                rw [eT144] at hW
                clear eT144
                refine lv_iconst (v := (-1)) hx hb dX9_stands_82 (by decide) ?_
                refine lv_icmp_ne (tgt := 90) hx hb dX9_stands_83 (by decide) (fun c146 => ?_) (fun c146 => ?_)
                · have c146i : ¬ (Int32.toInt v143 = (-1 : Int)) := fun h9 => c146 ((i3_eq _ _).mpr h9)
                  refine lv_iconst (v := 0) hx hb dX9_stands_90 (by decide) ?_
                  exact join91 0 _ _ (by decide) hW hS
                · have c146i : Int32.toInt v143 = (-1 : Int) := (i3_eq _ _).mp c146
                  refine lv_iconst (v := 1) hx hb dX9_stands_86 (by decide) ?_
                  refine lv_goto (tgt := 91) hx hb dX9_stands_87 (by decide) ?_
                  exact join91 1 _ _ (by decide) hW hS
  exact loop4 _ 1 0 S _ _ ls hG hF (by decide) (by have h0_ : (0 : Int32).toInt = 0 := rfl; omega) (Nat.lt_succ_self _) hW hS (lv_cast (lv_sub hl [2, 1, 0] rfl) (rfl))
set_option maxHeartbeats 4000000 in
set_option maxRecDepth 100000 in
theorem b_X9_tries (l : Launch) (D : va_G) (cy : Nat → ClassId) (A : Nat → Prop) (S : St) (h : Nat) (hG0 : G S) (hk : sK S h = 9) : MV l yX9_tries wsX9_tries ({ frames := 3, cells := 0, slots := 0, locals := 71 } : Room) 0 0 D cy A [.ref h] S (fun S1 => G S1 ∧ Fr [] [954, 955, 1100, 1600, 1900] S S1 ∧ True) := by
  refine mt_start (cc := cX9_tries) (maxL := 5) (ret := none) (by decide) rfl (Nat.le_of_ble_eq_true rfl) ?_
  intro p e s m args below meth c hx hb hr hlk hml hown hnm hts hK hZ hA hW hS ls hl
  have hl : lv_has ls 5 [(0, .ref h)] := hl
  have hown : s.vm.findClass RX9 = some m.cls := hown
  have F : CallFix p m c cX9_tries 5 s args wsX9_tries RX9 := ⟨hx, hb, hml, hown, hts⟩
  have wi9 : ∀ w ∈ u_ws RX9 TX9 63, w ∈ wsX9_tries := by decide +kernel
  have hG := hG0
  have hF : Fr [] [954, 955, 1100, 1600, 1900] S S := Fr.rf _ _ _
  have g1 : (0 : Int) ≤ (sI S h 53).toInt ∧ (sI S h 53).toInt ≤ 5 := hG0.i hk (by decide) 53 (by decide)
  refine lv_iconst (v := 0) hx hb dX9_tries_0 (by decide) ?_
  refine lv_istore_n (lv' := [(1, .int 0), (0, .ref h)]) hx hb dX9_tries_1 rfl hl (by decide) rfl (fun ls hl => ?_)
  refine lv_iconst (v := 0) hx hb dX9_tries_2 (by decide) ?_
  refine lv_istore_n (lv' := [(2, .int 0), (1, .int 0), (0, .ref h)]) hx hb dX9_tries_3 rfl hl (by decide) rfl (fun ls hl => ?_)
  refine lv_iconst (v := 0) hx hb dX9_tries_4 (by decide) ?_
  refine lv_istore_n (lv' := [(3, .int 0), (2, .int 0), (1, .int 0), (0, .ref h)]) hx hb dX9_tries_5 rfl hl (by decide) rfl (fun ls hl => ?_)
  have loop6 : ∀ (zn : Nat) (z : Int32) (w : Int32) (y : Int32) (L6 : St) (H : Heap) (locs : List Loc) (ls : Array Slot), (G L6) → (Fr [] [954, 955, 1100, 1600, 1900] S L6) → (0 ≤ y.toInt) → (5 - y.toInt).toNat < zn → PW D cy A L6 H → va_S A s.heap H locs → lv_has ls 5 [(0, .ref h), (1, .int z), (2, .int w), (3, .int y)] → W p l e ({ frames := 3, cells := 0, slots := 0, locals := 71 } : Room) s m args below meth c H locs 0 0 (MQ below (va_Qv (fun S1 => G S1 ∧ Fr [] [954, 955, 1100, 1600, 1900] S S1 ∧ True) (PU D cy A) A) args s 0 0 A) (F0 m 6 ls []) := by
    intro zn
    induction zn with
    | zero => intros; exact absurd (by assumption) (Nat.not_lt_zero _)
    | succ zn ih6 =>
      intro z w y L6 H locs ls hG hL6 hy0 hme6 hW hS hl
      have hF := hL6
      have lk2 : (sI L6 h 53).toInt = (sI S h 53).toInt := by rw [hF.i hk (by decide) (by decide)]
      refine lv_iload_n hx hb dX9_tries_6 rfl (lv_at hl 3 rfl) ?_
      refine lv_aload_n hx hb dX9_tries_7 rfl (lv_at hl 0 rfl) ?_
      refine pg_gi (ci := 9) (C := RX9) (T := TX9) (N := 63) hx hb hts wi9 hown hK hW (hF.k hk (by decide)) (by decide) rfl 53 (by decide) (hts (.fieldLink RX9 234 "IceHallModel" "outs" "I") (by decide +kernel)) (fun _ h9 => h9) rfl dX9_tries_8 ?_
      have g3 : (0 : Int) ≤ (sI L6 h 53).toInt ∧ (sI L6 h 53).toInt ≤ 5 := hG.i (hF.k hk (by decide)) (by decide) 53 (by decide)
      refine lv_icmp_ge (tgt := 83) hx hb dX9_tries_11 (by decide) (fun c4 => ?_) (fun c4 => ?_)
      · have c4i : Int32.toInt (sI L6 h 53) ≤ Int32.toInt y := (i3_le _ _).mp c4
        have join135 : ∀ (v135 : Int32) (H : Heap) (locs : List Loc), PW D cy A L6 H → va_S A s.heap H locs → W p l e ({ frames := 3, cells := 0, slots := 0, locals := 71 } : Room) s m args below meth c H locs 0 0 (MQ below (va_Qv (fun S1 => G S1 ∧ Fr [] [954, 955, 1100, 1600, 1900] S S1 ∧ True) (PU D cy A) A) args s 0 0 A) (F0 m 135 ls [.int v135]) := by
          intro v135 H locs hW hS
          refine lv_istore_n (lv' := [(3, .int v135), (0, .ref h), (1, .int z), (2, .int w)]) hx hb dX9_tries_135 rfl hl (by decide) rfl (fun ls hl => ?_)
          refine lv_iload_n hx hb dX9_tries_136 rfl (lv_at hl 0 rfl) ?_
          refine lv_if_eq (tgt := 147) hx hb dX9_tries_137 (by decide) (fun c5 => ?_) (fun c5 => ?_)
          · have c5i : Int32.toInt v135 = (0 : Int) := (i3_eq _ _).mp c5
            exact pc_vret (S := L6) hx hb hr hlk hK hZ hA hW hS (⟨hG, hF, trivial⟩) dX9_tries_147
          · have c5i : ¬ (Int32.toInt v135 = (0 : Int)) := fun h9 => c5 ((i3_eq _ _).mpr h9)
            refine lv_aload_n hx hb dX9_tries_140 rfl (lv_at hl 1 rfl) ?_
            have lk6 : (sI L6 h 53).toInt = (sI S h 53).toInt := by rw [hF.i hk (by decide) (by decide)]
            refine pc_Vi (As := []) (rest := []) F (b_X9_stands l D cy A L6 h hG (hF.k hk (by decide))) (cwV 0 hts gX9_tries_X9_stands rfl rfl rfl (by decide +kernel) ⟨Nat.le_of_ble_eq_true rfl, Nat.le_of_ble_eq_true rfl⟩) hK hZ hA hW hS (hF.k hk (by decide)) (by decide) rfl rfl hl.1 rfl (Nat.le_of_ble_eq_true rfl) dX9_tries_141 ⟨Nat.le_of_ble_eq_true rfl, Nat.le_of_ble_eq_true rfl⟩ (fun v7 T8 H locs p9 hW hS => ?_)
            obtain ⟨hG, hFc, p9⟩ := p9
            have hF : Fr [] [954, 955, 1100, 1600, 1900] S T8 := hF.tr (hFc.mono (by decide))
            refine lv_if_ne (tgt := 148) hx hb dX9_tries_144 (by decide) (fun c10 => ?_) (fun c10 => ?_)
            · have c10i : ¬ (Int32.toInt v7 = (0 : Int)) := fun h9 => c10 ((i3_eq _ _).mpr h9)
              refine lv_aload_n hx hb dX9_tries_148 rfl (lv_at hl 1 rfl) ?_
              refine lv_iload_n hx hb dX9_tries_149 rfl (lv_at hl 2 rfl) ?_
              refine pg_pi (ci := 9) (C := RX9) (T := TX9) (N := 63) hx hb hts wi9 tyX9 tyX9_ok nmX9 hown hK hW hS (hF.k hk (by decide)) (by decide) rfl 54 (by decide) (hts (.fieldLink RX9 241 "IceHallModel" "bestLeft" "I") (by decide +kernel)) (fun _ h9 => h9) rfl rfl rfl dX9_tries_150 (fun H locs hW hS => ?_)
              have kq11 : sK T8 h = 9 := (hF.k hk (by decide))
              obtain ⟨S12, eS12⟩ : ∃ T : St, T = stI T8 h 54 z := ⟨_, rfl⟩
              rw [← eS12] at hW
              have hG : G S12 := by rw [eS12]; exact hG.I kq11 (ok_fr (by decide))
              have hF : Fr [] [954, 955, 1100, 1600, 1900] S S12 := by rw [eS12]; exact hF.I kq11 (by decide)
              clear eS12
              refine lv_aload_n hx hb dX9_tries_153 rfl (lv_at hl 1 rfl) ?_
              refine lv_iload_n hx hb dX9_tries_154 rfl (lv_at hl 3 rfl) ?_
              refine pg_pi (ci := 9) (C := RX9) (T := TX9) (N := 63) hx hb hts wi9 tyX9 tyX9_ok nmX9 hown hK hW hS (hF.k hk (by decide)) (by decide) rfl 55 (by decide) (hts (.fieldLink RX9 244 "IceHallModel" "bestHours" "I") (by decide +kernel)) (fun _ h9 => h9) rfl rfl rfl dX9_tries_155 (fun H locs hW hS => ?_)
              have kq13 : sK S12 h = 9 := (hF.k hk (by decide))
              obtain ⟨S14, eS14⟩ : ∃ T : St, T = stI S12 h 55 w := ⟨_, rfl⟩
              rw [← eS14] at hW
              have hG : G S14 := by rw [eS14]; exact hG.I kq13 (ok_fr (by decide))
              have hF : Fr [] [954, 955, 1100, 1600, 1900] S S14 := by rw [eS14]; exact hF.I kq13 (by decide)
              clear eS14
              refine lv_iconst (v := 0) hx hb dX9_tries_158 (by decide) ?_
              refine lv_istore (lv' := [(4, .int 0), (3, .int v135), (0, .ref h), (1, .int z), (2, .int w)]) hx hb dX9_tries_159 hl (by decide) rfl (fun ls hl => ?_)
              have hE15 : Fr [] [954, 955, 1100, 1600, 1900] S14 S14 := Fr.rf _ _ _
              have loop161 : ∀ (zn : Nat) (y : Int32) (L161 : St) (H : Heap) (locs : List Loc) (ls : Array Slot), (G L161) → (Fr [] [954, 955, 1100, 1600, 1900] S14 L161) → (0 ≤ y.toInt) → (5 - y.toInt).toNat < zn → PW D cy A L161 H → va_S A s.heap H locs → lv_has ls 5 [(0, .ref h), (1, .int z), (2, .int w), (3, .int v135), (4, .int y)] → W p l e ({ frames := 3, cells := 0, slots := 0, locals := 71 } : Room) s m args below meth c H locs 0 0 (MQ below (va_Qv (fun S1 => G S1 ∧ Fr [] [954, 955, 1100, 1600, 1900] S S1 ∧ True) (PU D cy A) A) args s 0 0 A) (F0 m 161 ls []) := by
                intro zn
                induction zn with
                | zero => intros; exact absurd (by assumption) (Nat.not_lt_zero _)
                | succ zn ih161 =>
                  intro y L161 H locs ls hG hL161 hy0 hme161 hW hS hl
                  have hF : Fr [] [954, 955, 1100, 1600, 1900] S L161 := hF.tr hL161
                  have hE15 := hL161
                  have lk16 : (sI L161 h 53).toInt = (sI S h 53).toInt := by rw [hF.i hk (by decide) (by decide)]
                  refine lv_iload hx hb dX9_tries_161 (lv_at hl 4 rfl) ?_
                  refine lv_aload_n hx hb dX9_tries_163 rfl (lv_at hl 0 rfl) ?_
                  refine pg_gi (ci := 9) (C := RX9) (T := TX9) (N := 63) hx hb hts wi9 hown hK hW (hF.k hk (by decide)) (by decide) rfl 53 (by decide) (hts (.fieldLink RX9 234 "IceHallModel" "outs" "I") (by decide +kernel)) (fun _ h9 => h9) rfl dX9_tries_164 ?_
                  have g17 : (0 : Int) ≤ (sI L161 h 53).toInt ∧ (sI L161 h 53).toInt ≤ 5 := hG.i (hF.k hk (by decide)) (by decide) 53 (by decide)
                  refine lv_icmp_ge (tgt := 190) hx hb dX9_tries_167 (by decide) (fun c18 => ?_) (fun c18 => ?_)
                  · have c18i : Int32.toInt (sI L161 h 53) ≤ Int32.toInt y := (i3_le _ _).mp c18
                    exact pc_vret (S := L161) hx hb hr hlk hK hZ hA hW hS (⟨hG, hF, trivial⟩) dX9_tries_190
                  · have c18i : ¬ (Int32.toInt (sI L161 h 53) ≤ Int32.toInt y) := fun h9 => c18 ((i3_le _ _).mpr h9)
                    refine lv_aload_n hx hb dX9_tries_170 rfl (lv_at hl 0 rfl) ?_
                    obtain ⟨b19, rb19, kb19, nb19⟩ := hG0.r hk List.not_mem_nil 51 (show rty 9 51 = some (19, 5) from rfl)
                    refine pg_gr (b := b19) (ci := 9) (C := RX9) (T := TX9) (N := 63) hx hb hts wi9 hown hK hW (hF.k hk (by decide)) (by decide) rfl 51 (by decide) (hts (.fieldLink RX9 115 "IceHallModel" "best" "[I") (by decide +kernel)) (fun _ h9 => h9) rfl (hF.r hk (by decide) rb19) dX9_tries_171 ?_
                    refine lv_iload hx hb dX9_tries_174 (lv_at hl 4 rfl) ?_
                    refine lv_aload_n hx hb dX9_tries_176 rfl (lv_at hl 0 rfl) ?_
                    obtain ⟨b20, rb20, kb20, nb20⟩ := hG0.r hk List.not_mem_nil 50 (show rty 9 50 = some (19, 5) from rfl)
                    refine pg_gr (b := b20) (ci := 9) (C := RX9) (T := TX9) (N := 63) hx hb hts wi9 hown hK hW (hF.k hk (by decide)) (by decide) rfl 50 (by decide) (hts (.fieldLink RX9 112 "IceHallModel" "way" "[I") (by decide +kernel)) (fun _ h9 => h9) rfl (hF.r hk (by decide) rb20) dX9_tries_177 ?_
                    refine lv_iload hx hb dX9_tries_180 (lv_at hl 4 rfl) ?_
                    refine pg_iald hx hb hK hW (hF.k kb20 (by decide)) (by decide) (by rw [show sL L161 b20 = 5 from (hF.n kb20 (by decide) nb20)]; exact r_in (by omega)) dX9_tries_182 ?_
                    have g21 : (0 : Int) ≤ (sI L161 b20 (Int32.toNatClampNeg y)).toInt ∧ (sI L161 b20 (Int32.toNatClampNeg y)).toInt ≤ 14 := hG.iA (hF.k kb20 (by decide)) (by decide) (by decide) (Int32.toNatClampNeg y) (by decide)
                    refine pg_iast hx hb hK hW hS (hF.k kb19 (by decide)) (by decide) (by rw [show sL L161 b19 = 5 from (hF.n kb19 (by decide) nb19)]; exact r_in (by omega)) dX9_tries_183 (fun H locs hW hS => ?_)
                    have kq22 : sK L161 b19 = 19 := (hF.k kb19 (by decide))
                    obtain ⟨S23, eS23⟩ : ∃ T : St, T = stI L161 b19 (Int32.toNatClampNeg y) (sI L161 b20 (Int32.toNatClampNeg y)) := ⟨_, rfl⟩
                    rw [← eS23] at hW
                    have hG : G S23 := by rw [eS23]; exact hG.I kq22 (ok_inA (by decide) 0 14 (by decide) (⟨by omega, by omega⟩))
                    have hF : Fr [] [954, 955, 1100, 1600, 1900] S S23 := by rw [eS23]; exact hF.IA kq22 (by decide) (by decide)
                    have hE15 : Fr [] [954, 955, 1100, 1600, 1900] S14 S23 := by rw [eS23]; exact hE15.IA kq22 (by decide) (by decide)
                    clear eS23
                    refine lv_iinc (v := y + 1) (lv' := [(4, .int (y + 1)), (0, .ref h), (1, .int z), (2, .int w), (3, .int v135)]) hx hb dX9_tries_184 hl (k := 4) rfl rfl (by decide) rfl (fun ls hl => ?_)
                    have i24 : (y + 1).toInt = (y).toInt + 1 := i3_add rfl rfl (by omega) (by omega)
                    refine lv_goto (tgt := 161) hx hb dX9_tries_187 (by decide) ?_
                    have lk25 : (sI S23 h 53).toInt = (sI S h 53).toInt := by rw [hF.i hk (by decide) (by decide)]
                    exact ih161 (y + 1) S23 _ _ ls hG hE15 (by omega) (by omega) hW hS (lv_cast (lv_sub hl [1, 2, 3, 4, 0] rfl) (rfl))
              have lk26 : (sI S14 h 53).toInt = (sI S h 53).toInt := by rw [hF.i hk (by decide) (by decide)]
              exact loop161 _ 0 S14 _ _ ls hG hE15 (by decide) (Nat.lt_succ_self _) hW hS (lv_cast (lv_sub hl [2, 3, 4, 1, 0] rfl) (rfl))
            · have c10i : Int32.toInt v7 = (0 : Int) := (i3_eq _ _).mp c10
              exact pc_vret (S := T8) hx hb hr hlk hK hZ hA hW hS (⟨hG, hF, trivial⟩) dX9_tries_147
        refine lv_aload_n hx hb dX9_tries_83 rfl (lv_at hl 0 rfl) ?_
        refine pg_gi (ci := 9) (C := RX9) (T := TX9) (N := 63) hx hb hts wi9 hown hK hW (hF.k hk (by decide)) (by decide) rfl 54 (by decide) (hts (.fieldLink RX9 241 "IceHallModel" "bestLeft" "I") (by decide +kernel)) (fun _ h9 => h9) rfl dX9_tries_84 ?_
        refine lv_iconst (v := (-1)) hx hb dX9_tries_87 (by decide) ?_
        refine lv_icmp_eq (tgt := 130) hx hb dX9_tries_88 (by decide) (fun c27 => ?_) (fun c27 => ?_)
        · have c27i : Int32.toInt (sI L6 h 54) = (-1 : Int) := (i3_eq _ _).mp c27
          refine lv_iconst (v := 1) hx hb dX9_tries_130 (by decide) ?_
          refine lv_goto (tgt := 135) hx hb dX9_tries_131 (by decide) ?_
          exact join135 1 _ _  hW hS
        · have c27i : ¬ (Int32.toInt (sI L6 h 54) = (-1 : Int)) := fun h9 => c27 ((i3_eq _ _).mpr h9)
          refine lv_iload_n hx hb dX9_tries_91 rfl (lv_at hl 1 rfl) ?_
          refine lv_aload_n hx hb dX9_tries_92 rfl (lv_at hl 0 rfl) ?_
          refine pg_gi (ci := 9) (C := RX9) (T := TX9) (N := 63) hx hb hts wi9 hown hK hW (hF.k hk (by decide)) (by decide) rfl 54 (by decide) (hts (.fieldLink RX9 241 "IceHallModel" "bestLeft" "I") (by decide +kernel)) (fun _ h9 => h9) rfl dX9_tries_93 ?_
          refine lv_icmp_lt (tgt := 130) hx hb dX9_tries_96 (by decide) (fun c28 => ?_) (fun c28 => ?_)
          · have c28i : Int32.toInt z < Int32.toInt (sI L6 h 54) := (i3_lt _ _).mp c28
            refine lv_iconst (v := 1) hx hb dX9_tries_130 (by decide) ?_
            refine lv_goto (tgt := 135) hx hb dX9_tries_131 (by decide) ?_
            exact join135 1 _ _  hW hS
          · have c28i : ¬ (Int32.toInt z < Int32.toInt (sI L6 h 54)) := fun h9 => c28 ((i3_lt _ _).mpr h9)
            refine lv_iload_n hx hb dX9_tries_99 rfl (lv_at hl 1 rfl) ?_
            refine lv_aload_n hx hb dX9_tries_100 rfl (lv_at hl 0 rfl) ?_
            refine pg_gi (ci := 9) (C := RX9) (T := TX9) (N := 63) hx hb hts wi9 hown hK hW (hF.k hk (by decide)) (by decide) rfl 54 (by decide) (hts (.fieldLink RX9 241 "IceHallModel" "bestLeft" "I") (by decide +kernel)) (fun _ h9 => h9) rfl dX9_tries_101 ?_
            refine lv_icmp_ne (tgt := 134) hx hb dX9_tries_104 (by decide) (fun c29 => ?_) (fun c29 => ?_)
            · have c29i : ¬ (Int32.toInt z = Int32.toInt (sI L6 h 54)) := fun h9 => c29 ((i3_eq _ _).mpr h9)
              refine lv_iconst (v := 0) hx hb dX9_tries_134 (by decide) ?_
              exact join135 0 _ _  hW hS
            · have c29i : Int32.toInt z = Int32.toInt (sI L6 h 54) := (i3_eq _ _).mp c29
              refine lv_iload_n hx hb dX9_tries_107 rfl (lv_at hl 2 rfl) ?_
              refine lv_aload_n hx hb dX9_tries_108 rfl (lv_at hl 0 rfl) ?_
              refine pg_gi (ci := 9) (C := RX9) (T := TX9) (N := 63) hx hb hts wi9 hown hK hW (hF.k hk (by decide)) (by decide) rfl 55 (by decide) (hts (.fieldLink RX9 244 "IceHallModel" "bestHours" "I") (by decide +kernel)) (fun _ h9 => h9) rfl dX9_tries_109 ?_
              refine lv_icmp_lt (tgt := 130) hx hb dX9_tries_112 (by decide) (fun c30 => ?_) (fun c30 => ?_)
              · have c30i : Int32.toInt w < Int32.toInt (sI L6 h 55) := (i3_lt _ _).mp c30
                refine lv_iconst (v := 1) hx hb dX9_tries_130 (by decide) ?_
                refine lv_goto (tgt := 135) hx hb dX9_tries_131 (by decide) ?_
                exact join135 1 _ _  hW hS
              · have c30i : ¬ (Int32.toInt w < Int32.toInt (sI L6 h 55)) := fun h9 => c30 ((i3_lt _ _).mpr h9)
                refine lv_iload_n hx hb dX9_tries_115 rfl (lv_at hl 2 rfl) ?_
                refine lv_aload_n hx hb dX9_tries_116 rfl (lv_at hl 0 rfl) ?_
                refine pg_gi (ci := 9) (C := RX9) (T := TX9) (N := 63) hx hb hts wi9 hown hK hW (hF.k hk (by decide)) (by decide) rfl 55 (by decide) (hts (.fieldLink RX9 244 "IceHallModel" "bestHours" "I") (by decide +kernel)) (fun _ h9 => h9) rfl dX9_tries_117 ?_
                refine lv_icmp_ne (tgt := 134) hx hb dX9_tries_120 (by decide) (fun c31 => ?_) (fun c31 => ?_)
                · have c31i : ¬ (Int32.toInt w = Int32.toInt (sI L6 h 55)) := fun h9 => c31 ((i3_eq _ _).mpr h9)
                  refine lv_iconst (v := 0) hx hb dX9_tries_134 (by decide) ?_
                  exact join135 0 _ _  hW hS
                · have c31i : Int32.toInt w = Int32.toInt (sI L6 h 55) := (i3_eq _ _).mp c31
                  refine lv_aload_n hx hb dX9_tries_123 rfl (lv_at hl 0 rfl) ?_
                  have lk32 : (sI L6 h 53).toInt = (sI S h 53).toInt := by rw [hF.i hk (by decide) (by decide)]
                  refine pc_Vi (As := []) (rest := []) F (b_X9_isLess l D cy A L6 h hG (hF.k hk (by decide))) (cwV 0 hts gX9_tries_X9_isLess rfl rfl rfl (by decide +kernel) ⟨Nat.le_of_ble_eq_true rfl, Nat.le_of_ble_eq_true rfl⟩) hK hZ hA hW hS (hF.k hk (by decide)) (by decide) rfl rfl hl.1 rfl (Nat.le_of_ble_eq_true rfl) dX9_tries_124 ⟨Nat.le_of_ble_eq_true rfl, Nat.le_of_ble_eq_true rfl⟩ (fun v33 T34 H locs p35 hW hS => ?_)
                  obtain ⟨eT34, p35⟩ := p35
                  rw [eT34] at hW
                  clear eT34
                  refine lv_if_eq (tgt := 134) hx hb dX9_tries_127 (by decide) (fun c36 => ?_) (fun c36 => ?_)
                  · have c36i : Int32.toInt v33 = (0 : Int) := (i3_eq _ _).mp c36
                    refine lv_iconst (v := 0) hx hb dX9_tries_134 (by decide) ?_
                    exact join135 0 _ _  hW hS
                  · have c36i : ¬ (Int32.toInt v33 = (0 : Int)) := fun h9 => c36 ((i3_eq _ _).mpr h9)
                    refine lv_iconst (v := 1) hx hb dX9_tries_130 (by decide) ?_
                    refine lv_goto (tgt := 135) hx hb dX9_tries_131 (by decide) ?_
                    exact join135 1 _ _  hW hS
      · have c4i : ¬ (Int32.toInt (sI L6 h 53) ≤ Int32.toInt y) := fun h9 => c4 ((i3_le _ _).mpr h9)
        refine lv_aload_n hx hb dX9_tries_14 rfl (lv_at hl 0 rfl) ?_
        obtain ⟨b37, rb37, kb37, nb37⟩ := hG0.r hk List.not_mem_nil 50 (show rty 9 50 = some (19, 5) from rfl)
        refine pg_gr (b := b37) (ci := 9) (C := RX9) (T := TX9) (N := 63) hx hb hts wi9 hown hK hW (hF.k hk (by decide)) (by decide) rfl 50 (by decide) (hts (.fieldLink RX9 112 "IceHallModel" "way" "[I") (by decide +kernel)) (fun _ h9 => h9) rfl (hF.r hk (by decide) rb37) dX9_tries_15 ?_
        refine lv_iload_n hx hb dX9_tries_18 rfl (lv_at hl 3 rfl) ?_
        refine pg_iald hx hb hK hW (hF.k kb37 (by decide)) (by decide) (by rw [show sL L6 b37 = 5 from (hF.n kb37 (by decide) nb37)]; exact r_in (by omega)) dX9_tries_19 ?_
        have g38 : (0 : Int) ≤ (sI L6 b37 (Int32.toNatClampNeg y)).toInt ∧ (sI L6 b37 (Int32.toNatClampNeg y)).toInt ≤ 14 := hG.iA (hF.k kb37 (by decide)) (by decide) (by decide) (Int32.toNatClampNeg y) (by decide)
        refine lv_iconst (v := 2) hx hb dX9_tries_20 (by decide) ?_
        refine lv_idiv hx hb dX9_tries_21 (by decide) ?_
        have h739 := hf_7 (a := sI L6 b37 (Int32.toNatClampNeg y)) (by omega) (by omega)
        have lk40 : (sI L6 h 53).toInt = (sI S h 53).toInt := by rw [hF.i hk (by decide) (by decide)]
        refine pc_Si (As := [.int ((sI L6 b37 (Int32.toNatClampNeg y)) / 2)]) (rest := []) F (b_X9_behind l D cy A L6 ((sI L6 b37 (Int32.toNatClampNeg y)) / 2) (by omega) (by omega)) (va_cwS 1 hts gX9_tries_X9_behind rfl rfl rfl (by decide +kernel) ⟨Nat.le_of_ble_eq_true rfl, Nat.le_of_ble_eq_true rfl⟩) hK hZ hA hW hS rfl hl.1 rfl (Nat.le_of_ble_eq_true rfl) dX9_tries_22 ⟨Nat.le_of_ble_eq_true rfl, Nat.le_of_ble_eq_true rfl⟩ (fun v41 T42 H locs p43 hW hS => ?_)
        obtain ⟨eT42, p43⟩ := p43
        rw [eT42] at hW
        clear eT42
        refine lv_istore (lv' := [(4, .int v41), (0, .ref h), (1, .int z), (2, .int w), (3, .int y)]) hx hb dX9_tries_25 hl (by decide) rfl (fun ls hl => ?_)
        refine lv_iload_n hx hb dX9_tries_27 rfl (lv_at hl 2 rfl) ?_
        have join44 : ∀ (v44 : Int32) (H : Heap) (locs : List Loc), PW D cy A L6 H → va_S A s.heap H locs → W p l e ({ frames := 3, cells := 0, slots := 0, locals := 71 } : Room) s m args below meth c H locs 0 0 (MQ below (va_Qv (fun S1 => G S1 ∧ Fr [] [954, 955, 1100, 1600, 1900] S S1 ∧ True) (PU D cy A) A) args s 0 0 A) (F0 m 44 ls [.int v44, .int z]) := by
          intro v44 H locs hW hS
          refine lv_iadd hx hb dX9_tries_44 ?_
          refine lv_istore_n (lv' := [(1, .int (z + v44)), (4, .int v41), (0, .ref h), (2, .int w), (3, .int y)]) hx hb dX9_tries_45 rfl hl (by decide) rfl (fun ls hl => ?_)
          refine lv_iload_n hx hb dX9_tries_46 rfl (lv_at hl 3 rfl) ?_
          have join75 : ∀ (v75 : Int32) (H : Heap) (locs : List Loc), PW D cy A L6 H → va_S A s.heap H locs → W p l e ({ frames := 3, cells := 0, slots := 0, locals := 71 } : Room) s m args below meth c H locs 0 0 (MQ below (va_Qv (fun S1 => G S1 ∧ Fr [] [954, 955, 1100, 1600, 1900] S S1 ∧ True) (PU D cy A) A) args s 0 0 A) (F0 m 75 ls [.int v75, .int w]) := by
            intro v75 H locs hW hS
            refine lv_iadd hx hb dX9_tries_75 ?_
            refine lv_istore_n (lv' := [(2, .int (w + v75)), (1, .int (z + v44)), (4, .int v41), (0, .ref h), (3, .int y)]) hx hb dX9_tries_76 rfl hl (by decide) rfl (fun ls hl => ?_)
            refine lv_iinc (v := y + 1) (lv' := [(3, .int (y + 1)), (2, .int (w + v75)), (1, .int (z + v44)), (4, .int v41), (0, .ref h)]) hx hb dX9_tries_77 hl (k := 4) rfl rfl (by decide) rfl (fun ls hl => ?_)
            have i44 : (y + 1).toInt = (y).toInt + 1 := i3_add rfl rfl (by omega) (by omega)
            refine lv_goto (tgt := 6) hx hb dX9_tries_80 (by decide) ?_
            have lk45 : (sI L6 h 53).toInt = (sI S h 53).toInt := by rw [hF.i hk (by decide) (by decide)]
            exact ih6 (z + v44) (w + v75) (y + 1) L6 _ _ ls hG hF (by omega) (by omega) hW hS (lv_cast (lv_sub hl [4, 2, 1, 0] rfl) (rfl))
          refine lv_aload_n hx hb dX9_tries_47 rfl (lv_at hl 2 rfl) ?_
          refine pg_gr (b := b37) (ci := 9) (C := RX9) (T := TX9) (N := 63) hx hb hts wi9 hown hK hW (hF.k hk (by decide)) (by decide) rfl 50 (by decide) (hts (.fieldLink RX9 112 "IceHallModel" "way" "[I") (by decide +kernel)) (fun _ h9 => h9) rfl (hF.r hk (by decide) rb37) dX9_tries_48 ?_
          refine lv_iload_n hx hb dX9_tries_51 rfl (lv_at hl 4 rfl) ?_
          refine pg_iald hx hb hK hW (hF.k kb37 (by decide)) (by decide) (by rw [show sL L6 b37 = 5 from (hF.n kb37 (by decide) nb37)]; exact r_in (by omega)) dX9_tries_52 ?_
          have g46 : (0 : Int) ≤ (sI L6 b37 (Int32.toNatClampNeg y)).toInt ∧ (sI L6 b37 (Int32.toNatClampNeg y)).toInt ≤ 14 := hG.iA (hF.k kb37 (by decide)) (by decide) (by decide) (Int32.toNatClampNeg y) (by decide)
          refine lv_bipush (v := 14) hx hb dX9_tries_53 (by decide) ?_
          refine lv_icmp_ne (tgt := 62) hx hb dX9_tries_55 (by decide) (fun c47 => ?_) (fun c47 => ?_)
          · have c47i : ¬ (Int32.toInt (sI L6 b37 (Int32.toNatClampNeg y)) = (14 : Int)) := fun h9 => c47 ((i3_eq _ _).mpr h9)
            refine lv_iload hx hb dX9_tries_62 (lv_at hl 1 rfl) ?_
            refine lv_if_ge (tgt := 73) hx hb dX9_tries_64 (by decide) (fun c48 => ?_) (fun c48 => ?_)
            · have c48i : (0 : Int) ≤ Int32.toInt v41 := (i3_le _ _).mp c48
              refine lv_iload hx hb dX9_tries_73 (lv_at hl 1 rfl) ?_
              exact join75 v41 _ _  hW hS
            · have c48i : ¬ ((0 : Int) ≤ Int32.toInt v41) := fun h9 => c48 ((i3_le _ _).mpr h9)
              refine lv_iload hx hb dX9_tries_67 (lv_at hl 1 rfl) ?_
              refine lv_ineg hx hb dX9_tries_69 ?_
              refine lv_goto (tgt := 75) hx hb dX9_tries_70 (by decide) ?_
              exact join75 (-v41) _ _  hW hS
          · have c47i : Int32.toInt (sI L6 b37 (Int32.toNatClampNeg y)) = (14 : Int) := (i3_eq _ _).mp c47
            refine lv_iconst (v := 0) hx hb dX9_tries_58 (by decide) ?_
            refine lv_goto (tgt := 75) hx hb dX9_tries_59 (by decide) ?_
            exact join75 0 _ _  hW hS
        refine lv_aload_n hx hb dX9_tries_28 rfl (lv_at hl 1 rfl) ?_
        refine pg_gr (b := b37) (ci := 9) (C := RX9) (T := TX9) (N := 63) hx hb hts wi9 hown hK hW (hF.k hk (by decide)) (by decide) rfl 50 (by decide) (hts (.fieldLink RX9 112 "IceHallModel" "way" "[I") (by decide +kernel)) (fun _ h9 => h9) rfl (hF.r hk (by decide) rb37) dX9_tries_29 ?_
        refine lv_iload_n hx hb dX9_tries_32 rfl (lv_at hl 4 rfl) ?_
        refine pg_iald hx hb hK hW (hF.k kb37 (by decide)) (by decide) (by rw [show sL L6 b37 = 5 from (hF.n kb37 (by decide) nb37)]; exact r_in (by omega)) dX9_tries_33 ?_
        have g49 : (0 : Int) ≤ (sI L6 b37 (Int32.toNatClampNeg y)).toInt ∧ (sI L6 b37 (Int32.toNatClampNeg y)).toInt ≤ 14 := hG.iA (hF.k kb37 (by decide)) (by decide) (by decide) (Int32.toNatClampNeg y) (by decide)
        refine lv_bipush (v := 14) hx hb dX9_tries_34 (by decide) ?_
        refine lv_icmp_ne (tgt := 43) hx hb dX9_tries_36 (by decide) (fun c50 => ?_) (fun c50 => ?_)
        · have c50i : ¬ (Int32.toInt (sI L6 b37 (Int32.toNatClampNeg y)) = (14 : Int)) := fun h9 => c50 ((i3_eq _ _).mpr h9)
          refine lv_iconst (v := 0) hx hb dX9_tries_43 (by decide) ?_
          exact join44 0 _ _  hW hS
        · have c50i : Int32.toInt (sI L6 b37 (Int32.toNatClampNeg y)) = (14 : Int) := (i3_eq _ _).mp c50
          refine lv_iconst (v := 1) hx hb dX9_tries_39 (by decide) ?_
          refine lv_goto (tgt := 44) hx hb dX9_tries_40 (by decide) ?_
          exact join44 1 _ _  hW hS
  exact loop6 _ 0 0 0 S _ _ ls hG hF (by decide) (Nat.lt_succ_self _) hW hS (lv_cast (lv_sub hl [3, 2, 1, 0] rfl) (rfl))
set_option maxHeartbeats 4000000 in
set_option maxRecDepth 100000 in
theorem b_X9_close (l : Launch) (D : va_G) (cy : Nat → ClassId) (A : Nat → Prop) (S : St) (h : Nat) (a b d : Int32) (hG0 : G S) (hk : sK S h = 9) : MI l yX9_close wsX9_close ({ frames := 4, cells := 0, slots := 0, locals := 95 } : Room) 0 0 D cy A [.ref h, .int a, .int b, .int d] S (fun r S1 => G S1 ∧ Fr [] [936, 953, 954, 955, 1100, 1600, 1700, 1800, 1900] S S1 ∧ True) := by
  refine mt_start (cc := cX9_close) (maxL := 8) (ret := (some .int)) (by decide) rfl (Nat.le_of_ble_eq_true rfl) ?_
  intro p e s m args below meth c hx hb hr hlk hml hown hnm hts hK hZ hA hW hS ls hl
  have hl : lv_has ls 8 [(0, .ref h), (1, .int a), (2, .int b), (3, .int d)] := hl
  have hown : s.vm.findClass RX9 = some m.cls := hown
  have F : CallFix p m c cX9_close 8 s args wsX9_close RX9 := ⟨hx, hb, hml, hown, hts⟩
  have wi9 : ∀ w ∈ u_ws RX9 TX9 63, w ∈ wsX9_close := by decide +kernel
  have hG := hG0
  have hF : Fr [] [936, 953, 954, 955, 1100, 1600, 1700, 1800, 1900] S S := Fr.rf _ _ _
  have g1 : (0 : Int) ≤ (sI S h 36).toInt ∧ (sI S h 36).toInt ≤ 10 := hG0.i hk (by decide) 36 (by decide)
  have g2 : (0 : Int) ≤ (sI S h 53).toInt ∧ (sI S h 53).toInt ≤ 5 := hG0.i hk (by decide) 53 (by decide)
  refine lv_iload_n hx hb dX9_close_0 rfl (lv_at hl 1 rfl) ?_
  refine pc_Si (As := [.int a]) (rest := []) F (b_X9_isSheet l D cy A S a ) (va_cwS 1 hts gX9_close_X9_isSheet rfl rfl rfl (by decide +kernel) ⟨Nat.le_of_ble_eq_true rfl, Nat.le_of_ble_eq_true rfl⟩) hK hZ hA hW hS rfl hl.1 rfl (Nat.le_of_ble_eq_true rfl) dX9_close_1 ⟨Nat.le_of_ble_eq_true rfl, Nat.le_of_ble_eq_true rfl⟩ (fun v3 T4 H locs p5 hW hS => ?_)
  obtain ⟨eT4, p5⟩ := p5
  rw [eT4] at hW
  clear eT4
  refine lv_if_eq (tgt := 49) hx hb dX9_close_4 (by decide) (fun c6 => ?_) (fun c6 => ?_)
  · have c6i : Int32.toInt v3 = (0 : Int) := (i3_eq _ _).mp c6
    refine lv_iconst (v := (-1)) hx hb dX9_close_49 (by decide) ?_
    exact pc_iret (v := (-1)) (S := S) hx hb hr hlk hK hZ hA hW hS (⟨hG, hF, trivial⟩) dX9_close_50
  · have c6i : ¬ (Int32.toInt v3 = (0 : Int)) := fun h9 => c6 ((i3_eq _ _).mpr h9)
    refine lv_iload_n hx hb dX9_close_7 rfl (lv_at hl 2 rfl) ?_
    refine lv_aload_n hx hb dX9_close_8 rfl (lv_at hl 0 rfl) ?_
    refine pg_gi (ci := 9) (C := RX9) (T := TX9) (N := 63) hx hb hts wi9 hown hK hW hk (by decide) rfl 18 (by decide) (hts (.fieldLink RX9 219 "IceHallModel" "now" "I") (by decide +kernel)) (fun _ h9 => h9) rfl dX9_close_9 ?_
    have g7 : (0 : Int) ≤ (sI S h 18).toInt ∧ (sI S h 18).toInt ≤ 990 := hG.i hk (by decide) 18 (by decide)
    refine lv_icmp_lt (tgt := 49) hx hb dX9_close_12 (by decide) (fun c8 => ?_) (fun c8 => ?_)
    · have c8i : Int32.toInt b < Int32.toInt (sI S h 18) := (i3_lt _ _).mp c8
      refine lv_iconst (v := (-1)) hx hb dX9_close_49 (by decide) ?_
      exact pc_iret (v := (-1)) (S := S) hx hb hr hlk hK hZ hA hW hS (⟨hG, hF, trivial⟩) dX9_close_50
    · have c8i : ¬ (Int32.toInt b < Int32.toInt (sI S h 18)) := fun h9 => c8 ((i3_lt _ _).mpr h9)
      refine lv_iload_n hx hb dX9_close_15 rfl (lv_at hl 3 rfl) ?_
      refine lv_iload_n hx hb dX9_close_16 rfl (lv_at hl 2 rfl) ?_
      refine lv_icmp_le (tgt := 49) hx hb dX9_close_17 (by decide) (fun c9 => ?_) (fun c9 => ?_)
      · have c9i : Int32.toInt d ≤ Int32.toInt b := (i3_le _ _).mp c9
        refine lv_iconst (v := (-1)) hx hb dX9_close_49 (by decide) ?_
        exact pc_iret (v := (-1)) (S := S) hx hb hr hlk hK hZ hA hW hS (⟨hG, hF, trivial⟩) dX9_close_50
      · have c9i : ¬ (Int32.toInt d ≤ Int32.toInt b) := fun h9 => c9 ((i3_le _ _).mpr h9)
        refine lv_iload_n hx hb dX9_close_20 rfl (lv_at hl 3 rfl) ?_
        refine lv_aload_n hx hb dX9_close_21 rfl (lv_at hl 0 rfl) ?_
        refine pg_gi (ci := 9) (C := RX9) (T := TX9) (N := 63) hx hb hts wi9 hown hK hW hk (by decide) rfl 18 (by decide) (hts (.fieldLink RX9 219 "IceHallModel" "now" "I") (by decide +kernel)) (fun _ h9 => h9) rfl dX9_close_22 ?_
        have g10 : (0 : Int) ≤ (sI S h 18).toInt ∧ (sI S h 18).toInt ≤ 990 := hG.i hk (by decide) 18 (by decide)
        refine lv_sipush (v := 1000) hx hb dX9_close_25 (by decide) ?_
        refine lv_iadd hx hb dX9_close_28 ?_
        have l11 : ((sI S h 18) + 1000).toInt = Int32.toInt (sI S h 18) + (1000 : Int) := i3_add rfl rfl (by omega) (by omega)
        refine lv_icmp_gt (tgt := 49) hx hb dX9_close_29 (by decide) (fun c12 => ?_) (fun c12 => ?_)
        · have c12i : Int32.toInt ((sI S h 18) + 1000) < Int32.toInt d := (i3_lt _ _).mp c12
          refine lv_iconst (v := (-1)) hx hb dX9_close_49 (by decide) ?_
          exact pc_iret (v := (-1)) (S := S) hx hb hr hlk hK hZ hA hW hS (⟨hG, hF, trivial⟩) dX9_close_50
        · have c12i : ¬ (Int32.toInt ((sI S h 18) + 1000) < Int32.toInt d) := fun h9 => c12 ((i3_lt _ _).mpr h9)
          refine lv_iload_n hx hb dX9_close_32 rfl (lv_at hl 3 rfl) ?_
          refine lv_iload_n hx hb dX9_close_33 rfl (lv_at hl 2 rfl) ?_
          refine lv_isub hx hb dX9_close_34 ?_
          have l13 : (d - b).toInt = Int32.toInt d - Int32.toInt b := i3_sub rfl rfl (by omega) (by omega)
          refine lv_bipush (v := 100) hx hb dX9_close_35 (by decide) ?_
          refine lv_icmp_gt (tgt := 49) hx hb dX9_close_37 (by decide) (fun c14 => ?_) (fun c14 => ?_)
          · have c14i : (100 : Int) < Int32.toInt (d - b) := (i3_lt _ _).mp c14
            refine lv_iconst (v := (-1)) hx hb dX9_close_49 (by decide) ?_
            exact pc_iret (v := (-1)) (S := S) hx hb hr hlk hK hZ hA hW hS (⟨hG, hF, trivial⟩) dX9_close_50
          · have c14i : ¬ ((100 : Int) < Int32.toInt (d - b)) := fun h9 => c14 ((i3_lt _ _).mpr h9)
            refine lv_aload_n hx hb dX9_close_40 rfl (lv_at hl 0 rfl) ?_
            refine pg_gi (ci := 9) (C := RX9) (T := TX9) (N := 63) hx hb hts wi9 hown hK hW hk (by decide) rfl 36 (by decide) (hts (.fieldLink RX9 202 "IceHallModel" "closings" "I") (by decide +kernel)) (fun _ h9 => h9) rfl dX9_close_41 ?_
            rw [show sI S h 36 = sI S h 36 from rfl]
            refine lv_bipush (v := 10) hx hb dX9_close_44 (by decide) ?_
            refine lv_icmp_ne (tgt := 51) hx hb dX9_close_46 (by decide) (fun c15 => ?_) (fun c15 => ?_)
            · have c15i : ¬ (Int32.toInt (sI S h 36) = (10 : Int)) := fun h9 => c15 ((i3_eq _ _).mpr h9)
              refine lv_aload_n hx hb dX9_close_51 rfl (lv_at hl 0 rfl) ?_
              refine lv_iconst (v := 0) hx hb dX9_close_52 (by decide) ?_
              refine pg_pi (ci := 9) (C := RX9) (T := TX9) (N := 63) hx hb hts wi9 tyX9 tyX9_ok nmX9 hown hK hW hS hk (by decide) rfl 53 (by decide) (hts (.fieldLink RX9 234 "IceHallModel" "outs" "I") (by decide +kernel)) (fun _ h9 => h9) rfl rfl rfl dX9_close_53 (fun H locs hW hS => ?_)
              obtain ⟨S16, eS16⟩ : ∃ T : St, T = stI S h 53 0 := ⟨_, rfl⟩
              rw [← eS16] at hW
              have hG : G S16 := by rw [eS16]; exact hG.I hk (ok_in 0 5 (by decide) (by decide))
              have w17 : sI S16 h 36 = sI S h 36 := by rw [eS16]; exact (iI_k (by decide)).trans rfl
              have hF : Fr [] [936, 953, 954, 955, 1100, 1600, 1700, 1800, 1900] S S16 := by rw [eS16]; exact hF.I hk (by decide)
              have w18 : sI S16 h 53 = 0 := by rw [eS16]; exact iI_s
              clear eS16
              refine lv_iconst (v := 0) hx hb dX9_close_56 (by decide) ?_
              refine lv_istore (lv' := [(4, .int 0), (0, .ref h), (1, .int a), (2, .int b), (3, .int d)]) hx hb dX9_close_57 hl (by decide) rfl (fun ls hl => ?_)
              have hE19 : Fr [] [936, 953, 954, 955, 1100, 1600, 1700, 1800, 1900] S16 S16 := Fr.rf _ _ _
              have loop59 : ∀ (zn : Nat) (y : Int32) (L59 : St) (H : Heap) (locs : List Loc) (ls : Array Slot), (G L59) → (Fr [] [936, 953, 954, 955, 1100, 1600, 1700, 1800, 1900] S16 L59) → (0 ≤ y.toInt) → (sI L59 h 36 = sI S h 36) → (200 - y.toInt).toNat < zn → PW D cy A L59 H → va_S A s.heap H locs → lv_has ls 8 [(0, .ref h), (1, .int a), (2, .int b), (3, .int d), (4, .int y)] → W p l e ({ frames := 4, cells := 0, slots := 0, locals := 95 } : Room) s m args below meth c H locs 0 0 (MQ below (va_Qi (fun r S1 => G S1 ∧ Fr [] [936, 953, 954, 955, 1100, 1600, 1700, 1800, 1900] S S1 ∧ True) (PU D cy A) A) args s 0 0 A) (F0 m 59 ls []) := by
                intro zn
                induction zn with
                | zero => intros; exact absurd (by assumption) (Nat.not_lt_zero _)
                | succ zn ih59 =>
                  intro y L59 H locs ls hG hL59 hy0 h36 hme59 hW hS hl
                  have hF : Fr [] [936, 953, 954, 955, 1100, 1600, 1700, 1800, 1900] S L59 := hF.tr hL59
                  have hE19 := hL59
                  have g20 : (0 : Int) ≤ (sI L59 h 36).toInt ∧ (sI L59 h 36).toInt ≤ 10 := hG.i (hF.k hk (by decide)) (by decide) 36 (by decide)
                  have g21 : (0 : Int) ≤ (sI L59 h 53).toInt ∧ (sI L59 h 53).toInt ≤ 5 := hG.i (hF.k hk (by decide)) (by decide) 53 (by decide)
                  refine lv_iload hx hb dX9_close_59 (lv_at hl 4 rfl) ?_
                  refine lv_aload_n hx hb dX9_close_61 rfl (lv_at hl 0 rfl) ?_
                  refine pg_gi (ci := 9) (C := RX9) (T := TX9) (N := 63) hx hb hts wi9 hown hK hW (hF.k hk (by decide)) (by decide) rfl 35 (by decide) (hts (.fieldLink RX9 205 "IceHallModel" "sessions" "I") (by decide +kernel)) (fun _ h9 => h9) rfl dX9_close_62 ?_
                  have g22 : (0 : Int) ≤ (sI L59 h 35).toInt ∧ (sI L59 h 35).toInt ≤ 200 := hG.i (hF.k hk (by decide)) (by decide) 35 (by decide)
                  refine lv_icmp_ge (tgt := 167) hx hb dX9_close_65 (by decide) (fun c23 => ?_) (fun c23 => ?_)
                  · have c23i : Int32.toInt (sI L59 h 35) ≤ Int32.toInt y := (i3_le _ _).mp c23
                    refine lv_aload_n hx hb dX9_close_167 rfl (lv_at hl 0 rfl) ?_
                    obtain ⟨b24, rb24, kb24, nb24⟩ := hG0.r hk List.not_mem_nil 46 (show rty 9 46 = some (11, 10) from rfl)
                    refine pg_gr (b := b24) (ci := 9) (C := RX9) (T := TX9) (N := 63) hx hb hts wi9 hown hK hW (hF.k hk (by decide)) (by decide) rfl 46 (by decide) (hts (.fieldLink RX9 100 "IceHallModel" "closedSheet" "[I") (by decide +kernel)) (fun _ h9 => h9) rfl (hF.r hk (by decide) rb24) dX9_close_168 ?_
                    refine lv_aload_n hx hb dX9_close_171 rfl (lv_at hl 0 rfl) ?_
                    refine pg_gi (ci := 9) (C := RX9) (T := TX9) (N := 63) hx hb hts wi9 hown hK hW (hF.k hk (by decide)) (by decide) rfl 36 (by decide) (hts (.fieldLink RX9 202 "IceHallModel" "closings" "I") (by decide +kernel)) (fun _ h9 => h9) rfl dX9_close_172 ?_
                    rw [show sI L59 h 36 = sI S h 36 from h36]
                    refine lv_iload_n hx hb dX9_close_175 rfl (lv_at hl 1 rfl) ?_
                    refine pg_iast hx hb hK hW hS (hF.k kb24 (by decide)) (by decide) (by rw [show sL L59 b24 = 10 from (hF.n kb24 (by decide) nb24)]; exact r_in (by omega)) dX9_close_176 (fun H locs hW hS => ?_)
                    have kq25 : sK L59 b24 = 11 := (hF.k kb24 (by decide))
                    obtain ⟨S26, eS26⟩ : ∃ T : St, T = stI L59 b24 (Int32.toNatClampNeg (sI S h 36)) a := ⟨_, rfl⟩
                    rw [← eS26] at hW
                    have hG : G S26 := by rw [eS26]; exact hG.I kq25 (ok_frA (by decide) (by decide))
                    have w27 : sI S26 h 36 = sI S h 36 := by rw [eS26]; exact (iI_a (fk_ne (hF.k hk (by decide)) kq25 (by decide))).trans h36
                    have w28 : sI S26 h 53 = sI L59 h 53 := by rw [eS26]; exact (iI_a (fk_ne (hF.k hk (by decide)) kq25 (by decide))).trans rfl
                    have hF : Fr [] [936, 953, 954, 955, 1100, 1600, 1700, 1800, 1900] S S26 := by rw [eS26]; exact hF.IA kq25 (by decide) (by decide)
                    have hE19 : Fr [] [936, 953, 954, 955, 1100, 1600, 1700, 1800, 1900] S16 S26 := by rw [eS26]; exact hE19.IA kq25 (by decide) (by decide)
                    clear eS26
                    refine lv_aload_n hx hb dX9_close_177 rfl (lv_at hl 0 rfl) ?_
                    obtain ⟨b29, rb29, kb29, nb29⟩ := hG0.r hk List.not_mem_nil 47 (show rty 9 47 = some (11, 10) from rfl)
                    refine pg_gr (b := b29) (ci := 9) (C := RX9) (T := TX9) (N := 63) hx hb hts wi9 hown hK hW (hF.k hk (by decide)) (by decide) rfl 47 (by decide) (hts (.fieldLink RX9 103 "IceHallModel" "closedFrom" "[I") (by decide +kernel)) (fun _ h9 => h9) rfl (hF.r hk (by decide) rb29) dX9_close_178 ?_
                    refine lv_aload_n hx hb dX9_close_181 rfl (lv_at hl 0 rfl) ?_
                    refine pg_gi (ci := 9) (C := RX9) (T := TX9) (N := 63) hx hb hts wi9 hown hK hW (hF.k hk (by decide)) (by decide) rfl 36 (by decide) (hts (.fieldLink RX9 202 "IceHallModel" "closings" "I") (by decide +kernel)) (fun _ h9 => h9) rfl dX9_close_182 ?_
                    rw [show sI S26 h 36 = sI S h 36 from w27]
                    refine lv_iload_n hx hb dX9_close_185 rfl (lv_at hl 2 rfl) ?_
                    refine pg_iast hx hb hK hW hS (hF.k kb29 (by decide)) (by decide) (by rw [show sL S26 b29 = 10 from (hF.n kb29 (by decide) nb29)]; exact r_in (by omega)) dX9_close_186 (fun H locs hW hS => ?_)
                    have kq30 : sK S26 b29 = 11 := (hF.k kb29 (by decide))
                    obtain ⟨S31, eS31⟩ : ∃ T : St, T = stI S26 b29 (Int32.toNatClampNeg (sI S h 36)) b := ⟨_, rfl⟩
                    rw [← eS31] at hW
                    have hG : G S31 := by rw [eS31]; exact hG.I kq30 (ok_frA (by decide) (by decide))
                    have w32 : sI S31 h 36 = sI S h 36 := by rw [eS31]; exact (iI_a (fk_ne (hF.k hk (by decide)) kq30 (by decide))).trans w27
                    have w33 : sI S31 h 53 = sI L59 h 53 := by rw [eS31]; exact (iI_a (fk_ne (hF.k hk (by decide)) kq30 (by decide))).trans w28
                    have hF : Fr [] [936, 953, 954, 955, 1100, 1600, 1700, 1800, 1900] S S31 := by rw [eS31]; exact hF.IA kq30 (by decide) (by decide)
                    have hE19 : Fr [] [936, 953, 954, 955, 1100, 1600, 1700, 1800, 1900] S16 S31 := by rw [eS31]; exact hE19.IA kq30 (by decide) (by decide)
                    clear eS31
                    refine lv_aload_n hx hb dX9_close_187 rfl (lv_at hl 0 rfl) ?_
                    obtain ⟨b34, rb34, kb34, nb34⟩ := hG0.r hk List.not_mem_nil 48 (show rty 9 48 = some (11, 10) from rfl)
                    refine pg_gr (b := b34) (ci := 9) (C := RX9) (T := TX9) (N := 63) hx hb hts wi9 hown hK hW (hF.k hk (by decide)) (by decide) rfl 48 (by decide) (hts (.fieldLink RX9 106 "IceHallModel" "closedTo" "[I") (by decide +kernel)) (fun _ h9 => h9) rfl (hF.r hk (by decide) rb34) dX9_close_188 ?_
                    refine lv_aload_n hx hb dX9_close_191 rfl (lv_at hl 0 rfl) ?_
                    refine pg_gi (ci := 9) (C := RX9) (T := TX9) (N := 63) hx hb hts wi9 hown hK hW (hF.k hk (by decide)) (by decide) rfl 36 (by decide) (hts (.fieldLink RX9 202 "IceHallModel" "closings" "I") (by decide +kernel)) (fun _ h9 => h9) rfl dX9_close_192 ?_
                    rw [show sI S31 h 36 = sI S h 36 from w32]
                    refine lv_iload_n hx hb dX9_close_195 rfl (lv_at hl 3 rfl) ?_
                    refine pg_iast hx hb hK hW hS (hF.k kb34 (by decide)) (by decide) (by rw [show sL S31 b34 = 10 from (hF.n kb34 (by decide) nb34)]; exact r_in (by omega)) dX9_close_196 (fun H locs hW hS => ?_)
                    have kq35 : sK S31 b34 = 11 := (hF.k kb34 (by decide))
                    obtain ⟨S36, eS36⟩ : ∃ T : St, T = stI S31 b34 (Int32.toNatClampNeg (sI S h 36)) d := ⟨_, rfl⟩
                    rw [← eS36] at hW
                    have hG : G S36 := by rw [eS36]; exact hG.I kq35 (ok_frA (by decide) (by decide))
                    have w37 : sI S36 h 36 = sI S h 36 := by rw [eS36]; exact (iI_a (fk_ne (hF.k hk (by decide)) kq35 (by decide))).trans w32
                    have w38 : sI S36 h 53 = sI L59 h 53 := by rw [eS36]; exact (iI_a (fk_ne (hF.k hk (by decide)) kq35 (by decide))).trans w33
                    have hF : Fr [] [936, 953, 954, 955, 1100, 1600, 1700, 1800, 1900] S S36 := by rw [eS36]; exact hF.IA kq35 (by decide) (by decide)
                    have hE19 : Fr [] [936, 953, 954, 955, 1100, 1600, 1700, 1800, 1900] S16 S36 := by rw [eS36]; exact hE19.IA kq35 (by decide) (by decide)
                    clear eS36
                    refine lv_aload_n hx hb dX9_close_197 rfl (lv_at hl 0 rfl) ?_
                    refine lv_aload_n hx hb dX9_close_198 rfl (lv_at hl 0 rfl) ?_
                    refine pg_gi (ci := 9) (C := RX9) (T := TX9) (N := 63) hx hb hts wi9 hown hK hW (hF.k hk (by decide)) (by decide) rfl 36 (by decide) (hts (.fieldLink RX9 202 "IceHallModel" "closings" "I") (by decide +kernel)) (fun _ h9 => h9) rfl dX9_close_199 ?_
                    rw [show sI S36 h 36 = sI S h 36 from w37]
                    refine lv_iconst (v := 1) hx hb dX9_close_202 (by decide) ?_
                    refine lv_iadd hx hb dX9_close_203 ?_
                    have l39 : ((sI S h 36) + 1).toInt = Int32.toInt (sI S h 36) + (1 : Int) := i3_add rfl rfl (by omega) (by omega)
                    refine pg_pi (ci := 9) (C := RX9) (T := TX9) (N := 63) hx hb hts wi9 tyX9 tyX9_ok nmX9 hown hK hW hS (hF.k hk (by decide)) (by decide) rfl 36 (by decide) (hts (.fieldLink RX9 202 "IceHallModel" "closings" "I") (by decide +kernel)) (fun _ h9 => h9) rfl rfl rfl dX9_close_204 (fun H locs hW hS => ?_)
                    have kq40 : sK S36 h = 9 := (hF.k hk (by decide))
                    obtain ⟨S41, eS41⟩ : ∃ T : St, T = stI S36 h 36 ((sI S h 36) + 1) := ⟨_, rfl⟩
                    rw [← eS41] at hW
                    have hG : G S41 := by rw [eS41]; exact hG.I kq40 (ok_in 0 10 (by decide) (⟨by omega, by omega⟩))
                    have w42 : sI S41 h 53 = sI L59 h 53 := by rw [eS41]; exact (iI_k (by decide)).trans w38
                    have hF : Fr [] [936, 953, 954, 955, 1100, 1600, 1700, 1800, 1900] S S41 := by rw [eS41]; exact hF.I kq40 (by decide)
                    have hE19 : Fr [] [936, 953, 954, 955, 1100, 1600, 1700, 1800, 1900] S16 S41 := by rw [eS41]; exact hE19.I kq40 (by decide)
                    have w43 : sI S41 h 36 = (sI S h 36) + 1 := by rw [eS41]; exact iI_s
                    clear eS41
                    refine lv_iconst (v := 1) hx hb dX9_close_207 (by decide) ?_
                    refine lv_istore (lv' := [(4, .int 1), (0, .ref h), (1, .int a), (2, .int b), (3, .int d)]) hx hb dX9_close_208 hl (by decide) rfl (fun ls hl => ?_)
                    refine lv_iconst (v := 0) hx hb dX9_close_210 (by decide) ?_
                    refine lv_istore (lv' := [(5, .int 0), (4, .int 1), (0, .ref h), (1, .int a), (2, .int b), (3, .int d)]) hx hb dX9_close_211 hl (by decide) rfl (fun ls hl => ?_)
                    have hE44 : Fr [] [936, 953, 954, 955, 1100, 1600, 1700, 1800, 1900] S41 S41 := Fr.rf _ _ _
                    have loop213 : ∀ (zn : Nat) (z : Int32) (y : Int32) (L213 : St) (H : Heap) (locs : List Loc) (ls : Array Slot), (G L213) → (Fr [] [936, 953, 954, 955, 1100, 1600, 1700, 1800, 1900] S41 L213) → (0 ≤ y.toInt) → (5 - y.toInt).toNat < zn → PW D cy A L213 H → va_S A s.heap H locs → lv_has ls 8 [(0, .ref h), (1, .int a), (2, .int b), (3, .int d), (4, .int z), (5, .int y)] → W p l e ({ frames := 4, cells := 0, slots := 0, locals := 95 } : Room) s m args below meth c H locs 0 0 (MQ below (va_Qi (fun r S1 => G S1 ∧ Fr [] [936, 953, 954, 955, 1100, 1600, 1700, 1800, 1900] S S1 ∧ True) (PU D cy A) A) args s 0 0 A) (F0 m 213 ls []) := by
                      intro zn
                      induction zn with
                      | zero => intros; exact absurd (by assumption) (Nat.not_lt_zero _)
                      | succ zn ih213 =>
                        intro z y L213 H locs ls hG hL213 hy0 hme213 hW hS hl
                        have hF : Fr [] [936, 953, 954, 955, 1100, 1600, 1700, 1800, 1900] S L213 := hF.tr hL213
                        have hE19 : Fr [] [936, 953, 954, 955, 1100, 1600, 1700, 1800, 1900] S16 L213 := hE19.tr hL213
                        have hE44 := hL213
                        have g45 : (0 : Int) ≤ (sI L213 h 36).toInt ∧ (sI L213 h 36).toInt ≤ 10 := hG.i (hF.k hk (by decide)) (by decide) 36 (by decide)
                        have g46 : (0 : Int) ≤ (sI L213 h 53).toInt ∧ (sI L213 h 53).toInt ≤ 5 := hG.i (hF.k hk (by decide)) (by decide) 53 (by decide)
                        refine lv_iload hx hb dX9_close_213 (lv_at hl 5 rfl) ?_
                        refine lv_aload_n hx hb dX9_close_215 rfl (lv_at hl 0 rfl) ?_
                        refine pg_gi (ci := 9) (C := RX9) (T := TX9) (N := 63) hx hb hts wi9 hown hK hW (hF.k hk (by decide)) (by decide) rfl 53 (by decide) (hts (.fieldLink RX9 234 "IceHallModel" "outs" "I") (by decide +kernel)) (fun _ h9 => h9) rfl dX9_close_216 ?_
                        rw [show sI L213 h 53 = sI L213 h 53 from rfl]
                        refine lv_icmp_ge (tgt := 248) hx hb dX9_close_219 (by decide) (fun c47 => ?_) (fun c47 => ?_)
                        · have c47i : Int32.toInt (sI L213 h 53) ≤ Int32.toInt y := (i3_le _ _).mp c47
                          refine lv_aload_n hx hb dX9_close_248 rfl (lv_at hl 0 rfl) ?_
                          refine lv_iconst (v := (-1)) hx hb dX9_close_249 (by decide) ?_
                          refine pg_pi (ci := 9) (C := RX9) (T := TX9) (N := 63) hx hb hts wi9 tyX9 tyX9_ok nmX9 hown hK hW hS (hF.k hk (by decide)) (by decide) rfl 54 (by decide) (hts (.fieldLink RX9 241 "IceHallModel" "bestLeft" "I") (by decide +kernel)) (fun _ h9 => h9) rfl rfl rfl dX9_close_250 (fun H locs hW hS => ?_)
                          have kq48 : sK L213 h = 9 := (hF.k hk (by decide))
                          obtain ⟨S49, eS49⟩ : ∃ T : St, T = stI L213 h 54 ((-1)) := ⟨_, rfl⟩
                          rw [← eS49] at hW
                          have hG : G S49 := by rw [eS49]; exact hG.I kq48 (ok_fr (by decide))
                          have w50 : sI S49 h 36 = sI L213 h 36 := by rw [eS49]; exact (iI_k (by decide)).trans rfl
                          have w51 : sI S49 h 53 = sI L213 h 53 := by rw [eS49]; exact (iI_k (by decide)).trans rfl
                          have hF : Fr [] [936, 953, 954, 955, 1100, 1600, 1700, 1800, 1900] S S49 := by rw [eS49]; exact hF.I kq48 (by decide)
                          have hE19 : Fr [] [936, 953, 954, 955, 1100, 1600, 1700, 1800, 1900] S16 S49 := by rw [eS49]; exact hE19.I kq48 (by decide)
                          have hE44 : Fr [] [936, 953, 954, 955, 1100, 1600, 1700, 1800, 1900] S41 S49 := by rw [eS49]; exact hE44.I kq48 (by decide)
                          clear eS49
                          refine lv_iconst (v := 0) hx hb dX9_close_253 (by decide) ?_
                          refine lv_istore (lv' := [(5, .int 0), (0, .ref h), (1, .int a), (2, .int b), (3, .int d), (4, .int z)]) hx hb dX9_close_254 hl (by decide) rfl (fun ls hl => ?_)
                          have hE52 : Fr [] [936, 953, 954, 955, 1100, 1600, 1700, 1800, 1900] S49 S49 := Fr.rf _ _ _
                          have loop256 : ∀ (zn : Nat) (y : Int32) (L256 : St) (H : Heap) (locs : List Loc) (ls : Array Slot), (G L256) → (Fr [] [936, 953, 954, 955, 1100, 1600, 1700, 1800, 1900] S49 L256) → (0 ≤ y.toInt) → (z.toInt - y.toInt).toNat < zn → PW D cy A L256 H → va_S A s.heap H locs → lv_has ls 8 [(0, .ref h), (1, .int a), (2, .int b), (3, .int d), (4, .int z), (5, .int y)] → W p l e ({ frames := 4, cells := 0, slots := 0, locals := 95 } : Room) s m args below meth c H locs 0 0 (MQ below (va_Qi (fun r S1 => G S1 ∧ Fr [] [936, 953, 954, 955, 1100, 1600, 1700, 1800, 1900] S S1 ∧ True) (PU D cy A) A) args s 0 0 A) (F0 m 256 ls []) := by
                            intro zn
                            induction zn with
                            | zero => intros; exact absurd (by assumption) (Nat.not_lt_zero _)
                            | succ zn ih256 =>
                              intro y L256 H locs ls hG hL256 hy0 hme256 hW hS hl
                              have hF : Fr [] [936, 953, 954, 955, 1100, 1600, 1700, 1800, 1900] S L256 := hF.tr hL256
                              have hE19 : Fr [] [936, 953, 954, 955, 1100, 1600, 1700, 1800, 1900] S16 L256 := hE19.tr hL256
                              have hE44 : Fr [] [936, 953, 954, 955, 1100, 1600, 1700, 1800, 1900] S41 L256 := hE44.tr hL256
                              have hE52 := hL256
                              have g53 : (0 : Int) ≤ (sI L256 h 36).toInt ∧ (sI L256 h 36).toInt ≤ 10 := hG.i (hF.k hk (by decide)) (by decide) 36 (by decide)
                              have g54 : (0 : Int) ≤ (sI L256 h 53).toInt ∧ (sI L256 h 53).toInt ≤ 5 := hG.i (hF.k hk (by decide)) (by decide) 53 (by decide)
                              have hb9 := i3_bd z
                              refine lv_iload hx hb dX9_close_256 (lv_at hl 5 rfl) ?_
                              refine lv_iload hx hb dX9_close_258 (lv_at hl 4 rfl) ?_
                              refine lv_icmp_ge (tgt := 315) hx hb dX9_close_260 (by decide) (fun c55 => ?_) (fun c55 => ?_)
                              · have c55i : Int32.toInt z ≤ Int32.toInt y := (i3_le _ _).mp c55
                                refine lv_iconst (v := 0) hx hb dX9_close_315 (by decide) ?_
                                refine lv_istore (lv' := [(5, .int 0), (0, .ref h), (1, .int a), (2, .int b), (3, .int d), (4, .int z)]) hx hb dX9_close_316 hl (by decide) rfl (fun ls hl => ?_)
                                have hE56 : Fr [] [936, 953, 954, 955, 1100, 1600, 1700, 1800, 1900] L256 L256 := Fr.rf _ _ _
                                have loop318 : ∀ (zn : Nat) (y : Int32) (L318 : St) (H : Heap) (locs : List Loc) (ls : Array Slot), (G L318) → (Fr [] [936, 953, 954, 955, 1100, 1600, 1700, 1800, 1900] L256 L318) → (0 ≤ y.toInt) → (5 - y.toInt).toNat < zn → PW D cy A L318 H → va_S A s.heap H locs → lv_has ls 8 [(0, .ref h), (1, .int a), (2, .int b), (3, .int d), (4, .int z), (5, .int y)] → W p l e ({ frames := 4, cells := 0, slots := 0, locals := 95 } : Room) s m args below meth c H locs 0 0 (MQ below (va_Qi (fun r S1 => G S1 ∧ Fr [] [936, 953, 954, 955, 1100, 1600, 1700, 1800, 1900] S S1 ∧ True) (PU D cy A) A) args s 0 0 A) (F0 m 318 ls []) := by
                                  intro zn
                                  induction zn with
                                  | zero => intros; exact absurd (by assumption) (Nat.not_lt_zero _)
                                  | succ zn ih318 =>
                                    intro y L318 H locs ls hG hL318 hy0 hme318 hW hS hl
                                    have hF : Fr [] [936, 953, 954, 955, 1100, 1600, 1700, 1800, 1900] S L318 := hF.tr hL318
                                    have hE19 : Fr [] [936, 953, 954, 955, 1100, 1600, 1700, 1800, 1900] S16 L318 := hE19.tr hL318
                                    have hE44 : Fr [] [936, 953, 954, 955, 1100, 1600, 1700, 1800, 1900] S41 L318 := hE44.tr hL318
                                    have hE52 : Fr [] [936, 953, 954, 955, 1100, 1600, 1700, 1800, 1900] S49 L318 := hE52.tr hL318
                                    have hE56 := hL318
                                    have g57 : (0 : Int) ≤ (sI L318 h 36).toInt ∧ (sI L318 h 36).toInt ≤ 10 := hG.i (hF.k hk (by decide)) (by decide) 36 (by decide)
                                    have g58 : (0 : Int) ≤ (sI L318 h 53).toInt ∧ (sI L318 h 53).toInt ≤ 5 := hG.i (hF.k hk (by decide)) (by decide) 53 (by decide)
                                    refine lv_iload hx hb dX9_close_318 (lv_at hl 5 rfl) ?_
                                    refine lv_aload_n hx hb dX9_close_320 rfl (lv_at hl 0 rfl) ?_
                                    refine pg_gi (ci := 9) (C := RX9) (T := TX9) (N := 63) hx hb hts wi9 hown hK hW (hF.k hk (by decide)) (by decide) rfl 53 (by decide) (hts (.fieldLink RX9 234 "IceHallModel" "outs" "I") (by decide +kernel)) (fun _ h9 => h9) rfl dX9_close_321 ?_
                                    rw [show sI L318 h 53 = sI L318 h 53 from rfl]
                                    refine lv_icmp_ge (tgt := 495) hx hb dX9_close_324 (by decide) (fun c59 => ?_) (fun c59 => ?_)
                                    · have c59i : Int32.toInt (sI L318 h 53) ≤ Int32.toInt y := (i3_le _ _).mp c59
                                      refine lv_aload_n hx hb dX9_close_495 rfl (lv_at hl 0 rfl) ?_
                                      refine pg_gi (ci := 9) (C := RX9) (T := TX9) (N := 63) hx hb hts wi9 hown hK hW (hF.k hk (by decide)) (by decide) rfl 53 (by decide) (hts (.fieldLink RX9 234 "IceHallModel" "outs" "I") (by decide +kernel)) (fun _ h9 => h9) rfl dX9_close_496 ?_
                                      rw [show sI L318 h 53 = sI L318 h 53 from rfl]
                                      refine lv_if_ne (tgt := 506) hx hb dX9_close_499 (by decide) (fun c60 => ?_) (fun c60 => ?_)
                                      · have c60i : ¬ (Int32.toInt (sI L318 h 53) = (0 : Int)) := fun h9 => c60 ((i3_eq _ _).mpr h9)
                                        refine lv_aload_n hx hb dX9_close_506 rfl (lv_at hl 0 rfl) ?_
                                        refine pg_gi (ci := 9) (C := RX9) (T := TX9) (N := 63) hx hb hts wi9 hown hK hW (hF.k hk (by decide)) (by decide) rfl 54 (by decide) (hts (.fieldLink RX9 241 "IceHallModel" "bestLeft" "I") (by decide +kernel)) (fun _ h9 => h9) rfl dX9_close_507 ?_
                                        exact pc_iret (v := sI L318 h 54) (S := L318) hx hb hr hlk hK hZ hA hW hS (⟨hG, hF, trivial⟩) dX9_close_510
                                      · have c60i : Int32.toInt (sI L318 h 53) = (0 : Int) := (i3_eq _ _).mp c60
                                        refine lv_iconst (v := 0) hx hb dX9_close_502 (by decide) ?_
                                        refine lv_goto (tgt := 510) hx hb dX9_close_503 (by decide) ?_
                                        exact pc_iret (v := 0) (S := L318) hx hb hr hlk hK hZ hA hW hS (⟨hG, hF, trivial⟩) dX9_close_510
                                    · have c59i : ¬ (Int32.toInt (sI L318 h 53) ≤ Int32.toInt y) := fun h9 => c59 ((i3_le _ _).mpr h9)
                                      refine lv_aload_n hx hb dX9_close_327 rfl (lv_at hl 0 rfl) ?_
                                      obtain ⟨b61, rb61, kb61, nb61⟩ := hG0.r hk List.not_mem_nil 39 (show rty 9 39 = some (11, 200) from rfl)
                                      refine pg_gr (b := b61) (ci := 9) (C := RX9) (T := TX9) (N := 63) hx hb hts wi9 hown hK hW (hF.k hk (by decide)) (by decide) rfl 39 (by decide) (hts (.fieldLink RX9 79 "IceHallModel" "sheetOf" "[I") (by decide +kernel)) (fun _ h9 => h9) rfl (hF.r hk (by decide) rb61) dX9_close_328 ?_
                                      refine lv_aload_n hx hb dX9_close_331 rfl (lv_at hl 0 rfl) ?_
                                      obtain ⟨b62, rb62, kb62, nb62⟩ := hG0.r hk List.not_mem_nil 49 (show rty 9 49 = some (17, 5) from rfl)
                                      refine pg_gr (b := b62) (ci := 9) (C := RX9) (T := TX9) (N := 63) hx hb hts wi9 hown hK hW (hF.k hk (by decide)) (by decide) rfl 49 (by decide) (hts (.fieldLink RX9 109 "IceHallModel" "out" "[I") (by decide +kernel)) (fun _ h9 => h9) rfl (hF.r hk (by decide) rb62) dX9_close_332 ?_
                                      refine lv_iload hx hb dX9_close_335 (lv_at hl 5 rfl) ?_
                                      refine pg_iald hx hb hK hW (hF.k kb62 (by decide)) (by decide) (by rw [show sL L318 b62 = 5 from (hF.n kb62 (by decide) nb62)]; exact r_in (by omega)) dX9_close_337 ?_
                                      have g63 : (0 : Int) ≤ (sI L318 b62 (Int32.toNatClampNeg y)).toInt ∧ (sI L318 b62 (Int32.toNatClampNeg y)).toInt ≤ 199 := hG.iA (hF.k kb62 (by decide)) (by decide) (by decide) (Int32.toNatClampNeg y) (by decide)
                                      have join363 : ∀ (v363 : Int32) (H : Heap) (locs : List Loc), PW D cy A L318 H → va_S A s.heap H locs → W p l e ({ frames := 4, cells := 0, slots := 0, locals := 95 } : Room) s m args below meth c H locs 0 0 (MQ below (va_Qi (fun r S1 => G S1 ∧ Fr [] [936, 953, 954, 955, 1100, 1600, 1700, 1800, 1900] S S1 ∧ True) (PU D cy A) A) args s 0 0 A) (F0 m 363 ls [.int v363, .int (sI L318 b62 (Int32.toNatClampNeg y)), .ref b61]) := by
                                        intro v363 H locs hW hS
                                        refine pg_iast hx hb hK hW hS (hF.k kb61 (by decide)) (by decide) (by rw [show sL L318 b61 = 200 from (hF.n kb61 (by decide) nb61)]; exact r_in (by omega)) dX9_close_363 (fun H locs hW hS => ?_)
                                        have kq64 : sK L318 b61 = 11 := (hF.k kb61 (by decide))
                                        obtain ⟨S65, eS65⟩ : ∃ T : St, T = stI L318 b61 (Int32.toNatClampNeg (sI L318 b62 (Int32.toNatClampNeg y))) v363 := ⟨_, rfl⟩
                                        rw [← eS65] at hW
                                        have hG : G S65 := by rw [eS65]; exact hG.I kq64 (ok_frA (by decide) (by decide))
                                        have w66 : sI S65 h 36 = sI L318 h 36 := by rw [eS65]; exact (iI_a (fk_ne (hF.k hk (by decide)) kq64 (by decide))).trans rfl
                                        have w67 : sI S65 h 53 = sI L318 h 53 := by rw [eS65]; exact (iI_a (fk_ne (hF.k hk (by decide)) kq64 (by decide))).trans rfl
                                        have hF : Fr [] [936, 953, 954, 955, 1100, 1600, 1700, 1800, 1900] S S65 := by rw [eS65]; exact hF.IA kq64 (by decide) (by decide)
                                        have hE19 : Fr [] [936, 953, 954, 955, 1100, 1600, 1700, 1800, 1900] S16 S65 := by rw [eS65]; exact hE19.IA kq64 (by decide) (by decide)
                                        have hE44 : Fr [] [936, 953, 954, 955, 1100, 1600, 1700, 1800, 1900] S41 S65 := by rw [eS65]; exact hE44.IA kq64 (by decide) (by decide)
                                        have hE52 : Fr [] [936, 953, 954, 955, 1100, 1600, 1700, 1800, 1900] S49 S65 := by rw [eS65]; exact hE52.IA kq64 (by decide) (by decide)
                                        have hE56 : Fr [] [936, 953, 954, 955, 1100, 1600, 1700, 1800, 1900] L256 S65 := by rw [eS65]; exact hE56.IA kq64 (by decide) (by decide)
                                        clear eS65
                                        refine lv_aload_n hx hb dX9_close_364 rfl (lv_at hl 0 rfl) ?_
                                        obtain ⟨b68, rb68, kb68, nb68⟩ := hG0.r hk List.not_mem_nil 40 (show rty 9 40 = some (16, 200) from rfl)
                                        refine pg_gr (b := b68) (ci := 9) (C := RX9) (T := TX9) (N := 63) hx hb hts wi9 hown hK hW (hF.k hk (by decide)) (by decide) rfl 40 (by decide) (hts (.fieldLink RX9 82 "IceHallModel" "hourOf" "[I") (by decide +kernel)) (fun _ h9 => h9) rfl (hF.r hk (by decide) rb68) dX9_close_365 ?_
                                        refine lv_aload_n hx hb dX9_close_368 rfl (lv_at hl 0 rfl) ?_
                                        refine pg_gr (b := b62) (ci := 9) (C := RX9) (T := TX9) (N := 63) hx hb hts wi9 hown hK hW (hF.k hk (by decide)) (by decide) rfl 49 (by decide) (hts (.fieldLink RX9 109 "IceHallModel" "out" "[I") (by decide +kernel)) (fun _ h9 => h9) rfl (hF.r hk (by decide) rb62) dX9_close_369 ?_
                                        refine lv_iload hx hb dX9_close_372 (lv_at hl 5 rfl) ?_
                                        refine pg_iald hx hb hK hW (hF.k kb62 (by decide)) (by decide) (by rw [show sL S65 b62 = 5 from (hF.n kb62 (by decide) nb62)]; exact r_in (by omega)) dX9_close_374 ?_
                                        have g69 : (0 : Int) ≤ (sI S65 b62 (Int32.toNatClampNeg y)).toInt ∧ (sI S65 b62 (Int32.toNatClampNeg y)).toInt ≤ 199 := hG.iA (hF.k kb62 (by decide)) (by decide) (by decide) (Int32.toNatClampNeg y) (by decide)
                                        have join417 : ∀ (v417 : Int32) (H : Heap) (locs : List Loc), (-10 ≤ v417.toInt ∧ v417.toInt ≤ 2000) → PW D cy A S65 H → va_S A s.heap H locs → W p l e ({ frames := 4, cells := 0, slots := 0, locals := 95 } : Room) s m args below meth c H locs 0 0 (MQ below (va_Qi (fun r S1 => G S1 ∧ Fr [] [936, 953, 954, 955, 1100, 1600, 1700, 1800, 1900] S S1 ∧ True) (PU D cy A) A) args s 0 0 A) (F0 m 417 ls [.int v417, .int (sI S65 b62 (Int32.toNatClampNeg y)), .ref b68]) := by
                                          intro v417 H locs hv417 hW hS
                                          refine pg_iast hx hb hK hW hS (hF.k kb68 (by decide)) (by decide) (by rw [show sL S65 b68 = 200 from (hF.n kb68 (by decide) nb68)]; exact r_in (by omega)) dX9_close_417 (fun H locs hW hS => ?_)
                                          have kq70 : sK S65 b68 = 16 := (hF.k kb68 (by decide))
                                          obtain ⟨S71, eS71⟩ : ∃ T : St, T = stI S65 b68 (Int32.toNatClampNeg (sI S65 b62 (Int32.toNatClampNeg y))) v417 := ⟨_, rfl⟩
                                          rw [← eS71] at hW
                                          have hG : G S71 := by rw [eS71]; exact hG.I kq70 (ok_inA (by decide) (-10) 2000 (by decide) (⟨by omega, by omega⟩))
                                          have w72 : sI S71 h 36 = sI L318 h 36 := by rw [eS71]; exact (iI_a (fk_ne (hF.k hk (by decide)) kq70 (by decide))).trans w66
                                          have w73 : sI S71 h 53 = sI L318 h 53 := by rw [eS71]; exact (iI_a (fk_ne (hF.k hk (by decide)) kq70 (by decide))).trans w67
                                          have hF : Fr [] [936, 953, 954, 955, 1100, 1600, 1700, 1800, 1900] S S71 := by rw [eS71]; exact hF.IA kq70 (by decide) (by decide)
                                          have hE19 : Fr [] [936, 953, 954, 955, 1100, 1600, 1700, 1800, 1900] S16 S71 := by rw [eS71]; exact hE19.IA kq70 (by decide) (by decide)
                                          have hE44 : Fr [] [936, 953, 954, 955, 1100, 1600, 1700, 1800, 1900] S41 S71 := by rw [eS71]; exact hE44.IA kq70 (by decide) (by decide)
                                          have hE52 : Fr [] [936, 953, 954, 955, 1100, 1600, 1700, 1800, 1900] S49 S71 := by rw [eS71]; exact hE52.IA kq70 (by decide) (by decide)
                                          have hE56 : Fr [] [936, 953, 954, 955, 1100, 1600, 1700, 1800, 1900] L256 S71 := by rw [eS71]; exact hE56.IA kq70 (by decide) (by decide)
                                          clear eS71
                                          refine lv_aload_n hx hb dX9_close_418 rfl (lv_at hl 0 rfl) ?_
                                          obtain ⟨b74, rb74, kb74, nb74⟩ := hG0.r hk List.not_mem_nil 41 (show rty 9 41 = some (11, 200) from rfl)
                                          refine pg_gr (b := b74) (ci := 9) (C := RX9) (T := TX9) (N := 63) hx hb hts wi9 hown hK hW (hF.k hk (by decide)) (by decide) rfl 41 (by decide) (hts (.fieldLink RX9 85 "IceHallModel" "state" "[I") (by decide +kernel)) (fun _ h9 => h9) rfl (hF.r hk (by decide) rb74) dX9_close_419 ?_
                                          refine lv_aload_n hx hb dX9_close_422 rfl (lv_at hl 0 rfl) ?_
                                          refine pg_gr (b := b62) (ci := 9) (C := RX9) (T := TX9) (N := 63) hx hb hts wi9 hown hK hW (hF.k hk (by decide)) (by decide) rfl 49 (by decide) (hts (.fieldLink RX9 109 "IceHallModel" "out" "[I") (by decide +kernel)) (fun _ h9 => h9) rfl (hF.r hk (by decide) rb62) dX9_close_423 ?_
                                          refine lv_iload hx hb dX9_close_426 (lv_at hl 5 rfl) ?_
                                          refine pg_iald hx hb hK hW (hF.k kb62 (by decide)) (by decide) (by rw [show sL S71 b62 = 5 from (hF.n kb62 (by decide) nb62)]; exact r_in (by omega)) dX9_close_428 ?_
                                          have g75 : (0 : Int) ≤ (sI S71 b62 (Int32.toNatClampNeg y)).toInt ∧ (sI S71 b62 (Int32.toNatClampNeg y)).toInt ≤ 199 := hG.iA (hF.k kb62 (by decide)) (by decide) (by decide) (Int32.toNatClampNeg y) (by decide)
                                          have join446 : ∀ (v446 : Int32) (H : Heap) (locs : List Loc), PW D cy A S71 H → va_S A s.heap H locs → W p l e ({ frames := 4, cells := 0, slots := 0, locals := 95 } : Room) s m args below meth c H locs 0 0 (MQ below (va_Qi (fun r S1 => G S1 ∧ Fr [] [936, 953, 954, 955, 1100, 1600, 1700, 1800, 1900] S S1 ∧ True) (PU D cy A) A) args s 0 0 A) (F0 m 446 ls [.int v446, .int (sI S71 b62 (Int32.toNatClampNeg y)), .ref b74]) := by
                                            intro v446 H locs hW hS
                                            refine pg_iast hx hb hK hW hS (hF.k kb74 (by decide)) (by decide) (by rw [show sL S71 b74 = 200 from (hF.n kb74 (by decide) nb74)]; exact r_in (by omega)) dX9_close_446 (fun H locs hW hS => ?_)
                                            have kq76 : sK S71 b74 = 11 := (hF.k kb74 (by decide))
                                            obtain ⟨S77, eS77⟩ : ∃ T : St, T = stI S71 b74 (Int32.toNatClampNeg (sI S71 b62 (Int32.toNatClampNeg y))) v446 := ⟨_, rfl⟩
                                            rw [← eS77] at hW
                                            have hG : G S77 := by rw [eS77]; exact hG.I kq76 (ok_frA (by decide) (by decide))
                                            have w78 : sI S77 h 36 = sI L318 h 36 := by rw [eS77]; exact (iI_a (fk_ne (hF.k hk (by decide)) kq76 (by decide))).trans w72
                                            have w79 : sI S77 h 53 = sI L318 h 53 := by rw [eS77]; exact (iI_a (fk_ne (hF.k hk (by decide)) kq76 (by decide))).trans w73
                                            have hF : Fr [] [936, 953, 954, 955, 1100, 1600, 1700, 1800, 1900] S S77 := by rw [eS77]; exact hF.IA kq76 (by decide) (by decide)
                                            have hE19 : Fr [] [936, 953, 954, 955, 1100, 1600, 1700, 1800, 1900] S16 S77 := by rw [eS77]; exact hE19.IA kq76 (by decide) (by decide)
                                            have hE44 : Fr [] [936, 953, 954, 955, 1100, 1600, 1700, 1800, 1900] S41 S77 := by rw [eS77]; exact hE44.IA kq76 (by decide) (by decide)
                                            have hE52 : Fr [] [936, 953, 954, 955, 1100, 1600, 1700, 1800, 1900] S49 S77 := by rw [eS77]; exact hE52.IA kq76 (by decide) (by decide)
                                            have hE56 : Fr [] [936, 953, 954, 955, 1100, 1600, 1700, 1800, 1900] L256 S77 := by rw [eS77]; exact hE56.IA kq76 (by decide) (by decide)
                                            clear eS77
                                            refine lv_aload_n hx hb dX9_close_447 rfl (lv_at hl 0 rfl) ?_
                                            obtain ⟨b80, rb80, kb80, nb80⟩ := hG0.r hk List.not_mem_nil 45 (show rty 9 45 = some (11, 200) from rfl)
                                            refine pg_gr (b := b80) (ci := 9) (C := RX9) (T := TX9) (N := 63) hx hb hts wi9 hown hK hW (hF.k hk (by decide)) (by decide) rfl 45 (by decide) (hts (.fieldLink RX9 97 "IceHallModel" "moved" "[I") (by decide +kernel)) (fun _ h9 => h9) rfl (hF.r hk (by decide) rb80) dX9_close_448 ?_
                                            refine lv_aload_n hx hb dX9_close_451 rfl (lv_at hl 0 rfl) ?_
                                            refine pg_gr (b := b62) (ci := 9) (C := RX9) (T := TX9) (N := 63) hx hb hts wi9 hown hK hW (hF.k hk (by decide)) (by decide) rfl 49 (by decide) (hts (.fieldLink RX9 109 "IceHallModel" "out" "[I") (by decide +kernel)) (fun _ h9 => h9) rfl (hF.r hk (by decide) rb62) dX9_close_452 ?_
                                            refine lv_iload hx hb dX9_close_455 (lv_at hl 5 rfl) ?_
                                            refine pg_iald hx hb hK hW (hF.k kb62 (by decide)) (by decide) (by rw [show sL S77 b62 = 5 from (hF.n kb62 (by decide) nb62)]; exact r_in (by omega)) dX9_close_457 ?_
                                            have g81 : (0 : Int) ≤ (sI S77 b62 (Int32.toNatClampNeg y)).toInt ∧ (sI S77 b62 (Int32.toNatClampNeg y)).toInt ≤ 199 := hG.iA (hF.k kb62 (by decide)) (by decide) (by decide) (Int32.toNatClampNeg y) (by decide)
                                            refine lv_aload_n hx hb dX9_close_458 rfl (lv_at hl 0 rfl) ?_
                                            refine pg_gr (b := b80) (ci := 9) (C := RX9) (T := TX9) (N := 63) hx hb hts wi9 hown hK hW (hF.k hk (by decide)) (by decide) rfl 45 (by decide) (hts (.fieldLink RX9 97 "IceHallModel" "moved" "[I") (by decide +kernel)) (fun _ h9 => h9) rfl (hF.r hk (by decide) rb80) dX9_close_459 ?_
                                            refine lv_aload_n hx hb dX9_close_462 rfl (lv_at hl 0 rfl) ?_
                                            refine pg_gr (b := b62) (ci := 9) (C := RX9) (T := TX9) (N := 63) hx hb hts wi9 hown hK hW (hF.k hk (by decide)) (by decide) rfl 49 (by decide) (hts (.fieldLink RX9 109 "IceHallModel" "out" "[I") (by decide +kernel)) (fun _ h9 => h9) rfl (hF.r hk (by decide) rb62) dX9_close_463 ?_
                                            refine lv_iload hx hb dX9_close_466 (lv_at hl 5 rfl) ?_
                                            refine pg_iald hx hb hK hW (hF.k kb62 (by decide)) (by decide) (by rw [show sL S77 b62 = 5 from (hF.n kb62 (by decide) nb62)]; exact r_in (by omega)) dX9_close_468 ?_
                                            have g82 : (0 : Int) ≤ (sI S77 b62 (Int32.toNatClampNeg y)).toInt ∧ (sI S77 b62 (Int32.toNatClampNeg y)).toInt ≤ 199 := hG.iA (hF.k kb62 (by decide)) (by decide) (by decide) (Int32.toNatClampNeg y) (by decide)
                                            refine pg_iald hx hb hK hW (hF.k kb80 (by decide)) (by decide) (by rw [show sL S77 b80 = 200 from (hF.n kb80 (by decide) nb80)]; exact r_in (by omega)) dX9_close_469 ?_
                                            have join487 : ∀ (v487 : Int32) (H : Heap) (locs : List Loc), PW D cy A S77 H → va_S A s.heap H locs → W p l e ({ frames := 4, cells := 0, slots := 0, locals := 95 } : Room) s m args below meth c H locs 0 0 (MQ below (va_Qi (fun r S1 => G S1 ∧ Fr [] [936, 953, 954, 955, 1100, 1600, 1700, 1800, 1900] S S1 ∧ True) (PU D cy A) A) args s 0 0 A) (F0 m 487 ls [.int v487, .int (sI S77 b80 (Int32.toNatClampNeg (sI S77 b62 (Int32.toNatClampNeg y)))), .int (sI S77 b62 (Int32.toNatClampNeg y)), .ref b80]) := by
                                              intro v487 H locs hW hS
                                              refine lv_iadd hx hb dX9_close_487 ?_
                                              refine pg_iast hx hb hK hW hS (hF.k kb80 (by decide)) (by decide) (by rw [show sL S77 b80 = 200 from (hF.n kb80 (by decide) nb80)]; exact r_in (by omega)) dX9_close_488 (fun H locs hW hS => ?_)
                                              have kq83 : sK S77 b80 = 11 := (hF.k kb80 (by decide))
                                              obtain ⟨S84, eS84⟩ : ∃ T : St, T = stI S77 b80 (Int32.toNatClampNeg (sI S77 b62 (Int32.toNatClampNeg y))) ((sI S77 b80 (Int32.toNatClampNeg (sI S77 b62 (Int32.toNatClampNeg y)))) + v487) := ⟨_, rfl⟩
                                              rw [← eS84] at hW
                                              have hG : G S84 := by rw [eS84]; exact hG.I kq83 (ok_frA (by decide) (by decide))
                                              have w85 : sI S84 h 36 = sI L318 h 36 := by rw [eS84]; exact (iI_a (fk_ne (hF.k hk (by decide)) kq83 (by decide))).trans w78
                                              have w86 : sI S84 h 53 = sI L318 h 53 := by rw [eS84]; exact (iI_a (fk_ne (hF.k hk (by decide)) kq83 (by decide))).trans w79
                                              have hF : Fr [] [936, 953, 954, 955, 1100, 1600, 1700, 1800, 1900] S S84 := by rw [eS84]; exact hF.IA kq83 (by decide) (by decide)
                                              have hE19 : Fr [] [936, 953, 954, 955, 1100, 1600, 1700, 1800, 1900] S16 S84 := by rw [eS84]; exact hE19.IA kq83 (by decide) (by decide)
                                              have hE44 : Fr [] [936, 953, 954, 955, 1100, 1600, 1700, 1800, 1900] S41 S84 := by rw [eS84]; exact hE44.IA kq83 (by decide) (by decide)
                                              have hE52 : Fr [] [936, 953, 954, 955, 1100, 1600, 1700, 1800, 1900] S49 S84 := by rw [eS84]; exact hE52.IA kq83 (by decide) (by decide)
                                              have hE56 : Fr [] [936, 953, 954, 955, 1100, 1600, 1700, 1800, 1900] L256 S84 := by rw [eS84]; exact hE56.IA kq83 (by decide) (by decide)
                                              clear eS84
                                              refine lv_iinc (v := y + 1) (lv' := [(5, .int (y + 1)), (0, .ref h), (1, .int a), (2, .int b), (3, .int d), (4, .int z)]) hx hb dX9_close_489 hl (k := 5) rfl rfl (by decide) rfl (fun ls hl => ?_)
                                              have i87 : (y + 1).toInt = (y).toInt + 1 := i3_add rfl rfl (by omega) (by omega)
                                              refine lv_goto (tgt := 318) hx hb dX9_close_492 (by decide) ?_
                                              have lk88 : (sI S84 h 36).toInt = (sI L318 h 36).toInt := by rw [show sI S84 h 36 = sI L318 h 36 from w85]
                                              have lk89 : (sI S84 h 53).toInt = (sI L318 h 53).toInt := by rw [show sI S84 h 53 = sI L318 h 53 from w86]
                                              exact ih318 (y + 1) S84 _ _ ls hG hE56 (by omega) (by omega) hW hS (lv_cast (lv_sub hl [1, 2, 3, 4, 5, 0] rfl) (rfl))
                                            refine lv_aload_n hx hb dX9_close_470 rfl (lv_at hl 0 rfl) ?_
                                            obtain ⟨b90, rb90, kb90, nb90⟩ := hG0.r hk List.not_mem_nil 51 (show rty 9 51 = some (19, 5) from rfl)
                                            refine pg_gr (b := b90) (ci := 9) (C := RX9) (T := TX9) (N := 63) hx hb hts wi9 hown hK hW (hF.k hk (by decide)) (by decide) rfl 51 (by decide) (hts (.fieldLink RX9 115 "IceHallModel" "best" "[I") (by decide +kernel)) (fun _ h9 => h9) rfl (hF.r hk (by decide) rb90) dX9_close_471 ?_
                                            refine lv_iload hx hb dX9_close_474 (lv_at hl 5 rfl) ?_
                                            refine pg_iald hx hb hK hW (hF.k kb90 (by decide)) (by decide) (by rw [show sL S77 b90 = 5 from (hF.n kb90 (by decide) nb90)]; exact r_in (by omega)) dX9_close_476 ?_
                                            have g91 : (0 : Int) ≤ (sI S77 b90 (Int32.toNatClampNeg y)).toInt ∧ (sI S77 b90 (Int32.toNatClampNeg y)).toInt ≤ 14 := hG.iA (hF.k kb90 (by decide)) (by decide) (by decide) (Int32.toNatClampNeg y) (by decide)
                                            refine lv_bipush (v := 14) hx hb dX9_close_477 (by decide) ?_
                                            refine lv_icmp_ne (tgt := 486) hx hb dX9_close_479 (by decide) (fun c92 => ?_) (fun c92 => ?_)
                                            · have c92i : ¬ (Int32.toInt (sI S77 b90 (Int32.toNatClampNeg y)) = (14 : Int)) := fun h9 => c92 ((i3_eq _ _).mpr h9)
                                              refine lv_iconst (v := 1) hx hb dX9_close_486 (by decide) ?_
                                              exact join487 1 _ _  hW hS
                                            · have c92i : Int32.toInt (sI S77 b90 (Int32.toNatClampNeg y)) = (14 : Int) := (i3_eq _ _).mp c92
                                              refine lv_iconst (v := 0) hx hb dX9_close_482 (by decide) ?_
                                              refine lv_goto (tgt := 487) hx hb dX9_close_483 (by decide) ?_
                                              exact join487 0 _ _  hW hS
                                          refine lv_aload_n hx hb dX9_close_429 rfl (lv_at hl 0 rfl) ?_
                                          obtain ⟨b93, rb93, kb93, nb93⟩ := hG0.r hk List.not_mem_nil 51 (show rty 9 51 = some (19, 5) from rfl)
                                          refine pg_gr (b := b93) (ci := 9) (C := RX9) (T := TX9) (N := 63) hx hb hts wi9 hown hK hW (hF.k hk (by decide)) (by decide) rfl 51 (by decide) (hts (.fieldLink RX9 115 "IceHallModel" "best" "[I") (by decide +kernel)) (fun _ h9 => h9) rfl (hF.r hk (by decide) rb93) dX9_close_430 ?_
                                          refine lv_iload hx hb dX9_close_433 (lv_at hl 5 rfl) ?_
                                          refine pg_iald hx hb hK hW (hF.k kb93 (by decide)) (by decide) (by rw [show sL S71 b93 = 5 from (hF.n kb93 (by decide) nb93)]; exact r_in (by omega)) dX9_close_435 ?_
                                          have g94 : (0 : Int) ≤ (sI S71 b93 (Int32.toNatClampNeg y)).toInt ∧ (sI S71 b93 (Int32.toNatClampNeg y)).toInt ≤ 14 := hG.iA (hF.k kb93 (by decide)) (by decide) (by decide) (Int32.toNatClampNeg y) (by decide)
                                          refine lv_bipush (v := 14) hx hb dX9_close_436 (by decide) ?_
                                          refine lv_icmp_ne (tgt := 445) hx hb dX9_close_438 (by decide) (fun c95 => ?_) (fun c95 => ?_)
                                          · have c95i : ¬ (Int32.toInt (sI S71 b93 (Int32.toNatClampNeg y)) = (14 : Int)) := fun h9 => c95 ((i3_eq _ _).mpr h9)
                                            refine lv_iconst (v := 0) hx hb dX9_close_445 (by decide) ?_
                                            exact join446 0 _ _  hW hS
                                          · have c95i : Int32.toInt (sI S71 b93 (Int32.toNatClampNeg y)) = (14 : Int) := (i3_eq _ _).mp c95
                                            refine lv_iconst (v := 4) hx hb dX9_close_441 (by decide) ?_
                                            refine lv_goto (tgt := 446) hx hb dX9_close_442 (by decide) ?_
                                            exact join446 4 _ _  hW hS
                                        refine lv_aload_n hx hb dX9_close_375 rfl (lv_at hl 0 rfl) ?_
                                        obtain ⟨b96, rb96, kb96, nb96⟩ := hG0.r hk List.not_mem_nil 51 (show rty 9 51 = some (19, 5) from rfl)
                                        refine pg_gr (b := b96) (ci := 9) (C := RX9) (T := TX9) (N := 63) hx hb hts wi9 hown hK hW (hF.k hk (by decide)) (by decide) rfl 51 (by decide) (hts (.fieldLink RX9 115 "IceHallModel" "best" "[I") (by decide +kernel)) (fun _ h9 => h9) rfl (hF.r hk (by decide) rb96) dX9_close_376 ?_
                                        refine lv_iload hx hb dX9_close_379 (lv_at hl 5 rfl) ?_
                                        refine pg_iald hx hb hK hW (hF.k kb96 (by decide)) (by decide) (by rw [show sL S65 b96 = 5 from (hF.n kb96 (by decide) nb96)]; exact r_in (by omega)) dX9_close_381 ?_
                                        have g97 : (0 : Int) ≤ (sI S65 b96 (Int32.toNatClampNeg y)).toInt ∧ (sI S65 b96 (Int32.toNatClampNeg y)).toInt ≤ 14 := hG.iA (hF.k kb96 (by decide)) (by decide) (by decide) (Int32.toNatClampNeg y) (by decide)
                                        refine lv_bipush (v := 14) hx hb dX9_close_382 (by decide) ?_
                                        refine lv_icmp_ne (tgt := 397) hx hb dX9_close_384 (by decide) (fun c98 => ?_) (fun c98 => ?_)
                                        · have c98i : ¬ (Int32.toInt (sI S65 b96 (Int32.toNatClampNeg y)) = (14 : Int)) := fun h9 => c98 ((i3_eq _ _).mpr h9)
                                          refine lv_aload_n hx hb dX9_close_397 rfl (lv_at hl 0 rfl) ?_
                                          obtain ⟨b99, rb99, kb99, nb99⟩ := hG0.r hk List.not_mem_nil 52 (show rty 9 52 = some (18, 5) from rfl)
                                          refine pg_gr (b := b99) (ci := 9) (C := RX9) (T := TX9) (N := 63) hx hb hts wi9 hown hK hW (hF.k hk (by decide)) (by decide) rfl 52 (by decide) (hts (.fieldLink RX9 118 "IceHallModel" "wayHour" "[I") (by decide +kernel)) (fun _ h9 => h9) rfl (hF.r hk (by decide) rb99) dX9_close_398 ?_
                                          refine lv_iload hx hb dX9_close_401 (lv_at hl 5 rfl) ?_
                                          refine pg_iald hx hb hK hW (hF.k kb99 (by decide)) (by decide) (by rw [show sL S65 b99 = 5 from (hF.n kb99 (by decide) nb99)]; exact r_in (by omega)) dX9_close_403 ?_
                                          have g100 : (0 : Int) ≤ (sI S65 b99 (Int32.toNatClampNeg y)).toInt ∧ (sI S65 b99 (Int32.toNatClampNeg y)).toInt ≤ 1990 := hG.iA (hF.k kb99 (by decide)) (by decide) (by decide) (Int32.toNatClampNeg y) (by decide)
                                          refine lv_aload_n hx hb dX9_close_404 rfl (lv_at hl 0 rfl) ?_
                                          refine pg_gr (b := b96) (ci := 9) (C := RX9) (T := TX9) (N := 63) hx hb hts wi9 hown hK hW (hF.k hk (by decide)) (by decide) rfl 51 (by decide) (hts (.fieldLink RX9 115 "IceHallModel" "best" "[I") (by decide +kernel)) (fun _ h9 => h9) rfl (hF.r hk (by decide) rb96) dX9_close_405 ?_
                                          refine lv_iload hx hb dX9_close_408 (lv_at hl 5 rfl) ?_
                                          refine pg_iald hx hb hK hW (hF.k kb96 (by decide)) (by decide) (by rw [show sL S65 b96 = 5 from (hF.n kb96 (by decide) nb96)]; exact r_in (by omega)) dX9_close_410 ?_
                                          have g101 : (0 : Int) ≤ (sI S65 b96 (Int32.toNatClampNeg y)).toInt ∧ (sI S65 b96 (Int32.toNatClampNeg y)).toInt ≤ 14 := hG.iA (hF.k kb96 (by decide)) (by decide) (by decide) (Int32.toNatClampNeg y) (by decide)
                                          refine lv_iconst (v := 2) hx hb dX9_close_411 (by decide) ?_
                                          refine lv_idiv hx hb dX9_close_412 (by decide) ?_
                                          have h7102 := hf_7 (a := sI S65 b96 (Int32.toNatClampNeg y)) (by omega) (by omega)
                                          have lk103 : (sI S65 h 36).toInt = (sI L318 h 36).toInt := by rw [show sI S65 h 36 = sI L318 h 36 from w66]
                                          have lk104 : (sI S65 h 53).toInt = (sI L318 h 53).toInt := by rw [show sI S65 h 53 = sI L318 h 53 from w67]
                                          refine pc_Si (As := [.int ((sI S65 b96 (Int32.toNatClampNeg y)) / 2)]) (rest := [.int (sI S65 b99 (Int32.toNatClampNeg y)), .int (sI S65 b62 (Int32.toNatClampNeg y)), .ref b68]) F (b_X9_behind l D cy A S65 ((sI S65 b96 (Int32.toNatClampNeg y)) / 2) (by omega) (by omega)) (va_cwS 1 hts gX9_close_X9_behind rfl rfl rfl (by decide +kernel) ⟨Nat.le_of_ble_eq_true rfl, Nat.le_of_ble_eq_true rfl⟩) hK hZ hA hW hS rfl hl.1 rfl (Nat.le_of_ble_eq_true rfl) dX9_close_413 ⟨Nat.le_of_ble_eq_true rfl, Nat.le_of_ble_eq_true rfl⟩ (fun v105 T106 H locs p107 hW hS => ?_)
                                          obtain ⟨eT106, p107⟩ := p107
                                          rw [eT106] at hW
                                          clear eT106
                                          refine lv_iadd hx hb dX9_close_416 ?_
                                          have l108 : ((sI S65 b99 (Int32.toNatClampNeg y)) + v105).toInt = Int32.toInt (sI S65 b99 (Int32.toNatClampNeg y)) + Int32.toInt v105 := i3_add rfl rfl (by omega) (by omega)
                                          exact join417 ((sI S65 b99 (Int32.toNatClampNeg y)) + v105) _ _ (by omega) hW hS
                                        · have c98i : Int32.toInt (sI S65 b96 (Int32.toNatClampNeg y)) = (14 : Int) := (i3_eq _ _).mp c98
                                          refine lv_aload_n hx hb dX9_close_387 rfl (lv_at hl 0 rfl) ?_
                                          obtain ⟨b109, rb109, kb109, nb109⟩ := hG0.r hk List.not_mem_nil 52 (show rty 9 52 = some (18, 5) from rfl)
                                          refine pg_gr (b := b109) (ci := 9) (C := RX9) (T := TX9) (N := 63) hx hb hts wi9 hown hK hW (hF.k hk (by decide)) (by decide) rfl 52 (by decide) (hts (.fieldLink RX9 118 "IceHallModel" "wayHour" "[I") (by decide +kernel)) (fun _ h9 => h9) rfl (hF.r hk (by decide) rb109) dX9_close_388 ?_
                                          refine lv_iload hx hb dX9_close_391 (lv_at hl 5 rfl) ?_
                                          refine pg_iald hx hb hK hW (hF.k kb109 (by decide)) (by decide) (by rw [show sL S65 b109 = 5 from (hF.n kb109 (by decide) nb109)]; exact r_in (by omega)) dX9_close_393 ?_
                                          have g110 : (0 : Int) ≤ (sI S65 b109 (Int32.toNatClampNeg y)).toInt ∧ (sI S65 b109 (Int32.toNatClampNeg y)).toInt ≤ 1990 := hG.iA (hF.k kb109 (by decide)) (by decide) (by decide) (Int32.toNatClampNeg y) (by decide)
                                          refine lv_goto (tgt := 417) hx hb dX9_close_394 (by decide) ?_
                                          exact join417 (sI S65 b109 (Int32.toNatClampNeg y)) _ _ (by omega) hW hS
                                      refine lv_aload_n hx hb dX9_close_338 rfl (lv_at hl 0 rfl) ?_
                                      obtain ⟨b111, rb111, kb111, nb111⟩ := hG0.r hk List.not_mem_nil 51 (show rty 9 51 = some (19, 5) from rfl)
                                      refine pg_gr (b := b111) (ci := 9) (C := RX9) (T := TX9) (N := 63) hx hb hts wi9 hown hK hW (hF.k hk (by decide)) (by decide) rfl 51 (by decide) (hts (.fieldLink RX9 115 "IceHallModel" "best" "[I") (by decide +kernel)) (fun _ h9 => h9) rfl (hF.r hk (by decide) rb111) dX9_close_339 ?_
                                      refine lv_iload hx hb dX9_close_342 (lv_at hl 5 rfl) ?_
                                      refine pg_iald hx hb hK hW (hF.k kb111 (by decide)) (by decide) (by rw [show sL L318 b111 = 5 from (hF.n kb111 (by decide) nb111)]; exact r_in (by omega)) dX9_close_344 ?_
                                      have g112 : (0 : Int) ≤ (sI L318 b111 (Int32.toNatClampNeg y)).toInt ∧ (sI L318 b111 (Int32.toNatClampNeg y)).toInt ≤ 14 := hG.iA (hF.k kb111 (by decide)) (by decide) (by decide) (Int32.toNatClampNeg y) (by decide)
                                      refine lv_bipush (v := 14) hx hb dX9_close_345 (by decide) ?_
                                      refine lv_icmp_ne (tgt := 354) hx hb dX9_close_347 (by decide) (fun c113 => ?_) (fun c113 => ?_)
                                      · have c113i : ¬ (Int32.toInt (sI L318 b111 (Int32.toNatClampNeg y)) = (14 : Int)) := fun h9 => c113 ((i3_eq _ _).mpr h9)
                                        refine lv_aload_n hx hb dX9_close_354 rfl (lv_at hl 0 rfl) ?_
                                        refine pg_gr (b := b111) (ci := 9) (C := RX9) (T := TX9) (N := 63) hx hb hts wi9 hown hK hW (hF.k hk (by decide)) (by decide) rfl 51 (by decide) (hts (.fieldLink RX9 115 "IceHallModel" "best" "[I") (by decide +kernel)) (fun _ h9 => h9) rfl (hF.r hk (by decide) rb111) dX9_close_355 ?_
                                        refine lv_iload hx hb dX9_close_358 (lv_at hl 5 rfl) ?_
                                        refine pg_iald hx hb hK hW (hF.k kb111 (by decide)) (by decide) (by rw [show sL L318 b111 = 5 from (hF.n kb111 (by decide) nb111)]; exact r_in (by omega)) dX9_close_360 ?_
                                        have g114 : (0 : Int) ≤ (sI L318 b111 (Int32.toNatClampNeg y)).toInt ∧ (sI L318 b111 (Int32.toNatClampNeg y)).toInt ≤ 14 := hG.iA (hF.k kb111 (by decide)) (by decide) (by decide) (Int32.toNatClampNeg y) (by decide)
                                        refine lv_iconst (v := 2) hx hb dX9_close_361 (by decide) ?_
                                        refine lv_irem hx hb dX9_close_362 (by decide) ?_
                                        exact join363 ((sI L318 b111 (Int32.toNatClampNeg y)) - (sI L318 b111 (Int32.toNatClampNeg y)) / 2 * 2) _ _  hW hS
                                      · have c113i : Int32.toInt (sI L318 b111 (Int32.toNatClampNeg y)) = (14 : Int) := (i3_eq _ _).mp c113
                                        refine lv_iload_n hx hb dX9_close_350 rfl (lv_at hl 1 rfl) ?_
                                        refine lv_goto (tgt := 363) hx hb dX9_close_351 (by decide) ?_
                                        exact join363 a _ _  hW hS
                                exact loop318 _ 0 L256 _ _ ls hG hE56 (by decide) (Nat.lt_succ_self _) hW hS (lv_cast (lv_sub hl [1, 2, 3, 4, 5, 0] rfl) (rfl))
                              · have c55i : ¬ (Int32.toInt z ≤ Int32.toInt y) := fun h9 => c55 ((i3_le _ _).mpr h9)
                                refine lv_iload hx hb dX9_close_263 (lv_at hl 5 rfl) ?_
                                refine lv_istore (lv' := [(6, .int y), (0, .ref h), (1, .int a), (2, .int b), (3, .int d), (4, .int z), (5, .int y)]) hx hb dX9_close_265 hl (by decide) rfl (fun ls hl => ?_)
                                refine lv_aload_n hx hb dX9_close_267 rfl (lv_at hl 1 rfl) ?_
                                refine pg_gi (ci := 9) (C := RX9) (T := TX9) (N := 63) hx hb hts wi9 hown hK hW (hF.k hk (by decide)) (by decide) rfl 53 (by decide) (hts (.fieldLink RX9 234 "IceHallModel" "outs" "I") (by decide +kernel)) (fun _ h9 => h9) rfl dX9_close_268 ?_
                                rw [show sI L256 h 53 = sI L256 h 53 from rfl]
                                refine lv_iconst (v := 1) hx hb dX9_close_271 (by decide) ?_
                                refine lv_isub hx hb dX9_close_272 ?_
                                have l115 : ((sI L256 h 53) - 1).toInt = Int32.toInt (sI L256 h 53) - (1 : Int) := i3_sub rfl rfl (by omega) (by omega)
                                refine lv_istore (lv' := [(7, .int ((sI L256 h 53) - 1)), (6, .int y), (0, .ref h), (1, .int a), (2, .int b), (3, .int d), (4, .int z), (5, .int y)]) hx hb dX9_close_273 hl (by decide) rfl (fun ls hl => ?_)
                                have hE116 : Fr [] [936, 953, 954, 955, 1100, 1600, 1700, 1800, 1900] L256 L256 := Fr.rf _ _ _
                                have loop275 : ∀ (zn : Nat) (w : Int32) (u : Int32) (L275 : St) (H : Heap) (locs : List Loc) (ls : Array Slot), (G L275) → (Fr [] [936, 953, 954, 955, 1100, 1600, 1700, 1800, 1900] L256 L275) → (0 ≤ w.toInt) → (u.toInt < 5) → (u.toInt + 1).toNat < zn → PW D cy A L275 H → va_S A s.heap H locs → lv_has ls 8 [(0, .ref h), (1, .int a), (2, .int b), (3, .int d), (4, .int z), (5, .int y), (6, .int w), (7, .int u)] → W p l e ({ frames := 4, cells := 0, slots := 0, locals := 95 } : Room) s m args below meth c H locs 0 0 (MQ below (va_Qi (fun r S1 => G S1 ∧ Fr [] [936, 953, 954, 955, 1100, 1600, 1700, 1800, 1900] S S1 ∧ True) (PU D cy A) A) args s 0 0 A) (F0 m 275 ls []) := by
                                  intro zn
                                  induction zn with
                                  | zero => intros; exact absurd (by assumption) (Nat.not_lt_zero _)
                                  | succ zn ih275 =>
                                    intro w u L275 H locs ls hG hL275 hw0 hu5 hme275 hW hS hl
                                    have hF : Fr [] [936, 953, 954, 955, 1100, 1600, 1700, 1800, 1900] S L275 := hF.tr hL275
                                    have hE19 : Fr [] [936, 953, 954, 955, 1100, 1600, 1700, 1800, 1900] S16 L275 := hE19.tr hL275
                                    have hE44 : Fr [] [936, 953, 954, 955, 1100, 1600, 1700, 1800, 1900] S41 L275 := hE44.tr hL275
                                    have hE52 : Fr [] [936, 953, 954, 955, 1100, 1600, 1700, 1800, 1900] S49 L275 := hE52.tr hL275
                                    have hE116 := hL275
                                    have g117 : (0 : Int) ≤ (sI L275 h 36).toInt ∧ (sI L275 h 36).toInt ≤ 10 := hG.i (hF.k hk (by decide)) (by decide) 36 (by decide)
                                    have g118 : (0 : Int) ≤ (sI L275 h 53).toInt ∧ (sI L275 h 53).toInt ≤ 5 := hG.i (hF.k hk (by decide)) (by decide) 53 (by decide)
                                    refine lv_iload hx hb dX9_close_275 (lv_at hl 7 rfl) ?_
                                    refine lv_if_lt (tgt := 305) hx hb dX9_close_277 (by decide) (fun c119 => ?_) (fun c119 => ?_)
                                    · have c119i : Int32.toInt u < (0 : Int) := (i3_lt _ _).mp c119
                                      refine lv_aload_n hx hb dX9_close_305 rfl (lv_at hl 0 rfl) ?_
                                      refine pc_Vv (As := []) (rest := []) F (b_X9_tries l D cy A L275 h hG (hF.k hk (by decide))) (cwV 0 hts gX9_close_X9_tries rfl rfl rfl (by decide +kernel) ⟨Nat.le_of_ble_eq_true rfl, Nat.le_of_ble_eq_true rfl⟩) hK hZ hA hW hS (hF.k hk (by decide)) (by decide) rfl rfl hl.1 rfl (Nat.le_of_ble_eq_true rfl) dX9_close_306 ⟨Nat.le_of_ble_eq_true rfl, Nat.le_of_ble_eq_true rfl⟩ (fun T121 H locs p122 hW hS => ?_)
                                      obtain ⟨hG, hFc, p122⟩ := p122
                                      have w123 : sI T121 h 36 = sI L275 h 36 := (hFc.i (hF.k hk (by decide)) (by decide) (by decide)).trans rfl
                                      have w124 : sI T121 h 53 = sI L275 h 53 := (hFc.i (hF.k hk (by decide)) (by decide) (by decide)).trans rfl
                                      have hF : Fr [] [936, 953, 954, 955, 1100, 1600, 1700, 1800, 1900] S T121 := hF.tr (hFc.mono (by decide))
                                      have hE19 : Fr [] [936, 953, 954, 955, 1100, 1600, 1700, 1800, 1900] S16 T121 := hE19.tr (hFc.mono (by decide))
                                      have hE44 : Fr [] [936, 953, 954, 955, 1100, 1600, 1700, 1800, 1900] S41 T121 := hE44.tr (hFc.mono (by decide))
                                      have hE52 : Fr [] [936, 953, 954, 955, 1100, 1600, 1700, 1800, 1900] S49 T121 := hE52.tr (hFc.mono (by decide))
                                      have hE116 : Fr [] [936, 953, 954, 955, 1100, 1600, 1700, 1800, 1900] L256 T121 := hE116.tr (hFc.mono (by decide))
                                      refine lv_iinc (v := y + 1) (lv' := [(5, .int (y + 1)), (0, .ref h), (1, .int a), (2, .int b), (3, .int d), (4, .int z), (6, .int w), (7, .int u)]) hx hb dX9_close_309 hl (k := 5) rfl rfl (by decide) rfl (fun ls hl => ?_)
                                      have i125 : (y + 1).toInt = (y).toInt + 1 := i3_add rfl rfl (by omega) (by omega)
                                      refine lv_goto (tgt := 256) hx hb dX9_close_312 (by decide) ?_
                                      have lk126 : (sI T121 h 36).toInt = (sI L275 h 36).toInt := by rw [show sI T121 h 36 = sI L275 h 36 from w123]
                                      have lk127 : (sI T121 h 53).toInt = (sI L275 h 53).toInt := by rw [show sI T121 h 53 = sI L275 h 53 from w124]
                                      exact ih256 (y + 1) T121 _ _ ls hG hE52 (by omega) (by omega) hW hS (lv_cast (lv_sub hl [1, 2, 3, 4, 5, 0] rfl) (rfl))
                                    · have c119i : ¬ (Int32.toInt u < (0 : Int)) := fun h9 => c119 ((i3_lt _ _).mpr h9)
                                      refine lv_aload_n hx hb dX9_close_280 rfl (lv_at hl 0 rfl) ?_
                                      obtain ⟨b128, rb128, kb128, nb128⟩ := hG0.r hk List.not_mem_nil 50 (show rty 9 50 = some (19, 5) from rfl)
                                      refine pg_gr (b := b128) (ci := 9) (C := RX9) (T := TX9) (N := 63) hx hb hts wi9 hown hK hW (hF.k hk (by decide)) (by decide) rfl 50 (by decide) (hts (.fieldLink RX9 112 "IceHallModel" "way" "[I") (by decide +kernel)) (fun _ h9 => h9) rfl (hF.r hk (by decide) rb128) dX9_close_281 ?_
                                      refine lv_iload hx hb dX9_close_284 (lv_at hl 7 rfl) ?_
                                      refine lv_iload hx hb dX9_close_286 (lv_at hl 6 rfl) ?_
                                      refine lv_bipush (v := 15) hx hb dX9_close_288 (by decide) ?_
                                      refine lv_irem hx hb dX9_close_290 (by decide) ?_
                                      have hr15 := rem15 (x := w) (by omega)
                                      refine pg_iast hx hb hK hW hS (hF.k kb128 (by decide)) (by decide) (by rw [show sL L275 b128 = 5 from (hF.n kb128 (by decide) nb128)]; exact r_in (by omega)) dX9_close_291 (fun H locs hW hS => ?_)
                                      have kq129 : sK L275 b128 = 19 := (hF.k kb128 (by decide))
                                      obtain ⟨S130, eS130⟩ : ∃ T : St, T = stI L275 b128 (Int32.toNatClampNeg u) (w - w / 15 * 15) := ⟨_, rfl⟩
                                      rw [← eS130] at hW
                                      have hG : G S130 := by rw [eS130]; exact hG.I kq129 (ok_inA (by decide) 0 14 (by decide) (⟨by omega, by omega⟩))
                                      have w131 : sI S130 h 36 = sI L275 h 36 := by rw [eS130]; exact (iI_a (fk_ne (hF.k hk (by decide)) kq129 (by decide))).trans rfl
                                      have w132 : sI S130 h 53 = sI L275 h 53 := by rw [eS130]; exact (iI_a (fk_ne (hF.k hk (by decide)) kq129 (by decide))).trans rfl
                                      have hF : Fr [] [936, 953, 954, 955, 1100, 1600, 1700, 1800, 1900] S S130 := by rw [eS130]; exact hF.IA kq129 (by decide) (by decide)
                                      have hE19 : Fr [] [936, 953, 954, 955, 1100, 1600, 1700, 1800, 1900] S16 S130 := by rw [eS130]; exact hE19.IA kq129 (by decide) (by decide)
                                      have hE44 : Fr [] [936, 953, 954, 955, 1100, 1600, 1700, 1800, 1900] S41 S130 := by rw [eS130]; exact hE44.IA kq129 (by decide) (by decide)
                                      have hE52 : Fr [] [936, 953, 954, 955, 1100, 1600, 1700, 1800, 1900] S49 S130 := by rw [eS130]; exact hE52.IA kq129 (by decide) (by decide)
                                      have hE116 : Fr [] [936, 953, 954, 955, 1100, 1600, 1700, 1800, 1900] L256 S130 := by rw [eS130]; exact hE116.IA kq129 (by decide) (by decide)
                                      clear eS130
                                      refine lv_iload hx hb dX9_close_292 (lv_at hl 6 rfl) ?_
                                      refine lv_bipush (v := 15) hx hb dX9_close_294 (by decide) ?_
                                      refine lv_idiv hx hb dX9_close_296 (by decide) ?_
                                      have hd15 := div15 (x := w) (by omega)
                                      refine lv_istore (lv' := [(6, .int (w / 15)), (0, .ref h), (1, .int a), (2, .int b), (3, .int d), (4, .int z), (5, .int y), (7, .int u)]) hx hb dX9_close_297 hl (by decide) rfl (fun ls hl => ?_)
                                      refine lv_iinc (v := u + (-1)) (lv' := [(7, .int (u + (-1))), (6, .int (w / 15)), (0, .ref h), (1, .int a), (2, .int b), (3, .int d), (4, .int z), (5, .int y)]) hx hb dX9_close_299 hl (k := 7) rfl rfl (by decide) rfl (fun ls hl => ?_)
                                      have i133 : (u + (-1)).toInt = (u).toInt - 1 := i3_dec (by omega)
                                      refine lv_goto (tgt := 275) hx hb dX9_close_302 (by decide) ?_
                                      have lk134 : (sI S130 h 36).toInt = (sI L275 h 36).toInt := by rw [show sI S130 h 36 = sI L275 h 36 from w131]
                                      have lk135 : (sI S130 h 53).toInt = (sI L275 h 53).toInt := by rw [show sI S130 h 53 = sI L275 h 53 from w132]
                                      exact ih275 (w / 15) (u + (-1)) S130 _ _ ls hG hE116 (by omega) (bk_lt i133 hu5) (bk_dn i133 (by assumption) hme275) hW hS (lv_cast (lv_sub hl [2, 3, 4, 5, 6, 7, 1, 0] rfl) (rfl))
                                exact loop275 _ y ((sI L256 h 53) - 1) L256 _ _ ls hG hE116 (by omega) (by omega) (Nat.lt_succ_self _) hW hS (lv_cast (lv_sub hl [2, 3, 4, 5, 6, 7, 1, 0] rfl) (rfl))
                          have lk136 : (sI S49 h 36).toInt = (sI L213 h 36).toInt := by rw [show sI S49 h 36 = sI L213 h 36 from w50]
                          have lk137 : (sI S49 h 53).toInt = (sI L213 h 53).toInt := by rw [show sI S49 h 53 = sI L213 h 53 from w51]
                          exact loop256 _ 0 S49 _ _ ls hG hE52 (by decide) (Nat.lt_succ_self _) hW hS (lv_cast (lv_sub hl [1, 2, 3, 4, 5, 0] rfl) (rfl))
                        · have c47i : ¬ (Int32.toInt (sI L213 h 53) ≤ Int32.toInt y) := fun h9 => c47 ((i3_le _ _).mpr h9)
                          refine lv_aload_n hx hb dX9_close_222 rfl (lv_at hl 0 rfl) ?_
                          obtain ⟨b138, rb138, kb138, nb138⟩ := hG0.r hk List.not_mem_nil 41 (show rty 9 41 = some (11, 200) from rfl)
                          refine pg_gr (b := b138) (ci := 9) (C := RX9) (T := TX9) (N := 63) hx hb hts wi9 hown hK hW (hF.k hk (by decide)) (by decide) rfl 41 (by decide) (hts (.fieldLink RX9 85 "IceHallModel" "state" "[I") (by decide +kernel)) (fun _ h9 => h9) rfl (hF.r hk (by decide) rb138) dX9_close_223 ?_
                          refine lv_aload_n hx hb dX9_close_226 rfl (lv_at hl 0 rfl) ?_
                          obtain ⟨b139, rb139, kb139, nb139⟩ := hG0.r hk List.not_mem_nil 49 (show rty 9 49 = some (17, 5) from rfl)
                          refine pg_gr (b := b139) (ci := 9) (C := RX9) (T := TX9) (N := 63) hx hb hts wi9 hown hK hW (hF.k hk (by decide)) (by decide) rfl 49 (by decide) (hts (.fieldLink RX9 109 "IceHallModel" "out" "[I") (by decide +kernel)) (fun _ h9 => h9) rfl (hF.r hk (by decide) rb139) dX9_close_227 ?_
                          refine lv_iload hx hb dX9_close_230 (lv_at hl 5 rfl) ?_
                          refine pg_iald hx hb hK hW (hF.k kb139 (by decide)) (by decide) (by rw [show sL L213 b139 = 5 from (hF.n kb139 (by decide) nb139)]; exact r_in (by omega)) dX9_close_232 ?_
                          have g140 : (0 : Int) ≤ (sI L213 b139 (Int32.toNatClampNeg y)).toInt ∧ (sI L213 b139 (Int32.toNatClampNeg y)).toInt ≤ 199 := hG.iA (hF.k kb139 (by decide)) (by decide) (by decide) (Int32.toNatClampNeg y) (by decide)
                          refine lv_iconst (v := 4) hx hb dX9_close_233 (by decide) ?_
                          refine pg_iast hx hb hK hW hS (hF.k kb138 (by decide)) (by decide) (by rw [show sL L213 b138 = 200 from (hF.n kb138 (by decide) nb138)]; exact r_in (by omega)) dX9_close_234 (fun H locs hW hS => ?_)
                          have kq141 : sK L213 b138 = 11 := (hF.k kb138 (by decide))
                          obtain ⟨S142, eS142⟩ : ∃ T : St, T = stI L213 b138 (Int32.toNatClampNeg (sI L213 b139 (Int32.toNatClampNeg y))) 4 := ⟨_, rfl⟩
                          rw [← eS142] at hW
                          have hG : G S142 := by rw [eS142]; exact hG.I kq141 (ok_frA (by decide) (by decide))
                          have w143 : sI S142 h 36 = sI L213 h 36 := by rw [eS142]; exact (iI_a (fk_ne (hF.k hk (by decide)) kq141 (by decide))).trans rfl
                          have w144 : sI S142 h 53 = sI L213 h 53 := by rw [eS142]; exact (iI_a (fk_ne (hF.k hk (by decide)) kq141 (by decide))).trans rfl
                          have hF : Fr [] [936, 953, 954, 955, 1100, 1600, 1700, 1800, 1900] S S142 := by rw [eS142]; exact hF.IA kq141 (by decide) (by decide)
                          have hE19 : Fr [] [936, 953, 954, 955, 1100, 1600, 1700, 1800, 1900] S16 S142 := by rw [eS142]; exact hE19.IA kq141 (by decide) (by decide)
                          have hE44 : Fr [] [936, 953, 954, 955, 1100, 1600, 1700, 1800, 1900] S41 S142 := by rw [eS142]; exact hE44.IA kq141 (by decide) (by decide)
                          clear eS142
                          refine lv_bipush (v := 15) hx hb dX9_close_235 (by decide) ?_
                          refine lv_iload hx hb dX9_close_237 (lv_at hl 4 rfl) ?_
                          refine lv_imul hx hb dX9_close_239 ?_
                          refine lv_istore (lv' := [(4, .int (15 * z)), (0, .ref h), (1, .int a), (2, .int b), (3, .int d), (5, .int y)]) hx hb dX9_close_240 hl (by decide) rfl (fun ls hl => ?_)
                          refine lv_iinc (v := y + 1) (lv' := [(5, .int (y + 1)), (4, .int (15 * z)), (0, .ref h), (1, .int a), (2, .int b), (3, .int d)]) hx hb dX9_close_242 hl (k := 5) rfl rfl (by decide) rfl (fun ls hl => ?_)
                          have i145 : (y + 1).toInt = (y).toInt + 1 := i3_add rfl rfl (by omega) (by omega)
                          refine lv_goto (tgt := 213) hx hb dX9_close_245 (by decide) ?_
                          have lk146 : (sI S142 h 36).toInt = (sI L213 h 36).toInt := by rw [show sI S142 h 36 = sI L213 h 36 from w143]
                          have lk147 : (sI S142 h 53).toInt = (sI L213 h 53).toInt := by rw [show sI S142 h 53 = sI L213 h 53 from w144]
                          exact ih213 (15 * z) (y + 1) S142 _ _ ls hG hE44 (by omega) (by omega) hW hS (lv_cast (lv_sub hl [2, 3, 4, 5, 1, 0] rfl) (rfl))
                    have lk148 : (sI S41 h 36).toInt = ((sI S h 36) + 1).toInt := by rw [show sI S41 h 36 = (sI S h 36) + 1 from w43]
                    have lk149 : (sI S41 h 53).toInt = (sI L59 h 53).toInt := by rw [show sI S41 h 53 = sI L59 h 53 from w42]
                    exact loop213 _ 1 0 S41 _ _ ls hG hE44 (by decide) (Nat.lt_succ_self _) hW hS (lv_cast (lv_sub hl [2, 3, 4, 5, 1, 0] rfl) (rfl))
                  · have c23i : ¬ (Int32.toInt (sI L59 h 35) ≤ Int32.toInt y) := fun h9 => c23 ((i3_le _ _).mpr h9)
                    refine lv_aload_n hx hb dX9_close_68 rfl (lv_at hl 0 rfl) ?_
                    obtain ⟨b150, rb150, kb150, nb150⟩ := hG0.r hk List.not_mem_nil 41 (show rty 9 41 = some (11, 200) from rfl)
                    refine pg_gr (b := b150) (ci := 9) (C := RX9) (T := TX9) (N := 63) hx hb hts wi9 hown hK hW (hF.k hk (by decide)) (by decide) rfl 41 (by decide) (hts (.fieldLink RX9 85 "IceHallModel" "state" "[I") (by decide +kernel)) (fun _ h9 => h9) rfl (hF.r hk (by decide) rb150) dX9_close_69 ?_
                    refine lv_iload hx hb dX9_close_72 (lv_at hl 4 rfl) ?_
                    refine pg_iald hx hb hK hW (hF.k kb150 (by decide)) (by decide) (by rw [show sL L59 b150 = 200 from (hF.n kb150 (by decide) nb150)]; exact r_in (by omega)) dX9_close_74 ?_
                    refine lv_if_ne (tgt := 161) hx hb dX9_close_75 (by decide) (fun c151 => ?_) (fun c151 => ?_)
                    · have c151i : ¬ (Int32.toInt (sI L59 b150 (Int32.toNatClampNeg y)) = (0 : Int)) := fun h9 => c151 ((i3_eq _ _).mpr h9)
                      refine lv_iinc (v := y + 1) (lv' := [(4, .int (y + 1)), (0, .ref h), (1, .int a), (2, .int b), (3, .int d)]) hx hb dX9_close_161 hl (k := 4) rfl rfl (by decide) rfl (fun ls hl => ?_)
                      have i152 : (y + 1).toInt = (y).toInt + 1 := i3_add rfl rfl (by omega) (by omega)
                      refine lv_goto (tgt := 59) hx hb dX9_close_164 (by decide) ?_
                      have lk153 : (sI L59 h 36).toInt = (sI S h 36).toInt := by rw [show sI L59 h 36 = sI S h 36 from h36]
                      exact ih59 (y + 1) L59 _ _ ls hG hE19 (by omega) (h36) (by omega) hW hS (lv_cast (lv_sub hl [1, 2, 3, 4, 0] rfl) (rfl))
                    · have c151i : Int32.toInt (sI L59 b150 (Int32.toNatClampNeg y)) = (0 : Int) := (i3_eq _ _).mp c151
                      refine lv_aload_n hx hb dX9_close_78 rfl (lv_at hl 0 rfl) ?_
                      obtain ⟨b154, rb154, kb154, nb154⟩ := hG0.r hk List.not_mem_nil 39 (show rty 9 39 = some (11, 200) from rfl)
                      refine pg_gr (b := b154) (ci := 9) (C := RX9) (T := TX9) (N := 63) hx hb hts wi9 hown hK hW (hF.k hk (by decide)) (by decide) rfl 39 (by decide) (hts (.fieldLink RX9 79 "IceHallModel" "sheetOf" "[I") (by decide +kernel)) (fun _ h9 => h9) rfl (hF.r hk (by decide) rb154) dX9_close_79 ?_
                      refine lv_iload hx hb dX9_close_82 (lv_at hl 4 rfl) ?_
                      refine pg_iald hx hb hK hW (hF.k kb154 (by decide)) (by decide) (by rw [show sL L59 b154 = 200 from (hF.n kb154 (by decide) nb154)]; exact r_in (by omega)) dX9_close_84 ?_
                      refine lv_iload_n hx hb dX9_close_85 rfl (lv_at hl 1 rfl) ?_
                      refine lv_icmp_ne (tgt := 161) hx hb dX9_close_86 (by decide) (fun c155 => ?_) (fun c155 => ?_)
                      · have c155i : ¬ (Int32.toInt (sI L59 b154 (Int32.toNatClampNeg y)) = Int32.toInt a) := fun h9 => c155 ((i3_eq _ _).mpr h9)
                        refine lv_iinc (v := y + 1) (lv' := [(4, .int (y + 1)), (0, .ref h), (1, .int a), (2, .int b), (3, .int d)]) hx hb dX9_close_161 hl (k := 4) rfl rfl (by decide) rfl (fun ls hl => ?_)
                        have i156 : (y + 1).toInt = (y).toInt + 1 := i3_add rfl rfl (by omega) (by omega)
                        refine lv_goto (tgt := 59) hx hb dX9_close_164 (by decide) ?_
                        have lk157 : (sI L59 h 36).toInt = (sI S h 36).toInt := by rw [show sI L59 h 36 = sI S h 36 from h36]
                        exact ih59 (y + 1) L59 _ _ ls hG hE19 (by omega) (h36) (by omega) hW hS (lv_cast (lv_sub hl [1, 2, 3, 4, 0] rfl) (rfl))
                      · have c155i : Int32.toInt (sI L59 b154 (Int32.toNatClampNeg y)) = Int32.toInt a := (i3_eq _ _).mp c155
                        refine lv_aload_n hx hb dX9_close_89 rfl (lv_at hl 0 rfl) ?_
                        obtain ⟨b158, rb158, kb158, nb158⟩ := hG0.r hk List.not_mem_nil 40 (show rty 9 40 = some (16, 200) from rfl)
                        refine pg_gr (b := b158) (ci := 9) (C := RX9) (T := TX9) (N := 63) hx hb hts wi9 hown hK hW (hF.k hk (by decide)) (by decide) rfl 40 (by decide) (hts (.fieldLink RX9 82 "IceHallModel" "hourOf" "[I") (by decide +kernel)) (fun _ h9 => h9) rfl (hF.r hk (by decide) rb158) dX9_close_90 ?_
                        refine lv_iload hx hb dX9_close_93 (lv_at hl 4 rfl) ?_
                        refine pg_iald hx hb hK hW (hF.k kb158 (by decide)) (by decide) (by rw [show sL L59 b158 = 200 from (hF.n kb158 (by decide) nb158)]; exact r_in (by omega)) dX9_close_95 ?_
                        have g159 : (-10 : Int) ≤ (sI L59 b158 (Int32.toNatClampNeg y)).toInt ∧ (sI L59 b158 (Int32.toNatClampNeg y)).toInt ≤ 2000 := hG.iA (hF.k kb158 (by decide)) (by decide) (by decide) (Int32.toNatClampNeg y) (by decide)
                        refine lv_iload_n hx hb dX9_close_96 rfl (lv_at hl 2 rfl) ?_
                        refine lv_icmp_lt (tgt := 161) hx hb dX9_close_97 (by decide) (fun c160 => ?_) (fun c160 => ?_)
                        · have c160i : Int32.toInt (sI L59 b158 (Int32.toNatClampNeg y)) < Int32.toInt b := (i3_lt _ _).mp c160
                          refine lv_iinc (v := y + 1) (lv' := [(4, .int (y + 1)), (0, .ref h), (1, .int a), (2, .int b), (3, .int d)]) hx hb dX9_close_161 hl (k := 4) rfl rfl (by decide) rfl (fun ls hl => ?_)
                          have i161 : (y + 1).toInt = (y).toInt + 1 := i3_add rfl rfl (by omega) (by omega)
                          refine lv_goto (tgt := 59) hx hb dX9_close_164 (by decide) ?_
                          have lk162 : (sI L59 h 36).toInt = (sI S h 36).toInt := by rw [show sI L59 h 36 = sI S h 36 from h36]
                          exact ih59 (y + 1) L59 _ _ ls hG hE19 (by omega) (h36) (by omega) hW hS (lv_cast (lv_sub hl [1, 2, 3, 4, 0] rfl) (rfl))
                        · have c160i : ¬ (Int32.toInt (sI L59 b158 (Int32.toNatClampNeg y)) < Int32.toInt b) := fun h9 => c160 ((i3_lt _ _).mpr h9)
                          refine lv_aload_n hx hb dX9_close_100 rfl (lv_at hl 0 rfl) ?_
                          refine pg_gr (b := b158) (ci := 9) (C := RX9) (T := TX9) (N := 63) hx hb hts wi9 hown hK hW (hF.k hk (by decide)) (by decide) rfl 40 (by decide) (hts (.fieldLink RX9 82 "IceHallModel" "hourOf" "[I") (by decide +kernel)) (fun _ h9 => h9) rfl (hF.r hk (by decide) rb158) dX9_close_101 ?_
                          refine lv_iload hx hb dX9_close_104 (lv_at hl 4 rfl) ?_
                          refine pg_iald hx hb hK hW (hF.k kb158 (by decide)) (by decide) (by rw [show sL L59 b158 = 200 from (hF.n kb158 (by decide) nb158)]; exact r_in (by omega)) dX9_close_106 ?_
                          have g163 : (-10 : Int) ≤ (sI L59 b158 (Int32.toNatClampNeg y)).toInt ∧ (sI L59 b158 (Int32.toNatClampNeg y)).toInt ≤ 2000 := hG.iA (hF.k kb158 (by decide)) (by decide) (by decide) (Int32.toNatClampNeg y) (by decide)
                          refine lv_iload_n hx hb dX9_close_107 rfl (lv_at hl 3 rfl) ?_
                          refine lv_icmp_lt (tgt := 114) hx hb dX9_close_108 (by decide) (fun c164 => ?_) (fun c164 => ?_)
                          · have c164i : Int32.toInt (sI L59 b158 (Int32.toNatClampNeg y)) < Int32.toInt d := (i3_lt _ _).mp c164
                            refine lv_aload_n hx hb dX9_close_114 rfl (lv_at hl 0 rfl) ?_
                            refine pg_gi (ci := 9) (C := RX9) (T := TX9) (N := 63) hx hb hts wi9 hown hK hW (hF.k hk (by decide)) (by decide) rfl 53 (by decide) (hts (.fieldLink RX9 234 "IceHallModel" "outs" "I") (by decide +kernel)) (fun _ h9 => h9) rfl dX9_close_115 ?_
                            rw [show sI L59 h 53 = sI L59 h 53 from rfl]
                            refine lv_iconst (v := 5) hx hb dX9_close_118 (by decide) ?_
                            refine lv_icmp_ne (tgt := 124) hx hb dX9_close_119 (by decide) (fun c165 => ?_) (fun c165 => ?_)
                            · have c165i : ¬ (Int32.toInt (sI L59 h 53) = (5 : Int)) := fun h9 => c165 ((i3_eq _ _).mpr h9)
                              refine lv_aload_n hx hb dX9_close_124 rfl (lv_at hl 0 rfl) ?_
                              obtain ⟨b166, rb166, kb166, nb166⟩ := hG0.r hk List.not_mem_nil 49 (show rty 9 49 = some (17, 5) from rfl)
                              refine pg_gr (b := b166) (ci := 9) (C := RX9) (T := TX9) (N := 63) hx hb hts wi9 hown hK hW (hF.k hk (by decide)) (by decide) rfl 49 (by decide) (hts (.fieldLink RX9 109 "IceHallModel" "out" "[I") (by decide +kernel)) (fun _ h9 => h9) rfl (hF.r hk (by decide) rb166) dX9_close_125 ?_
                              refine lv_aload_n hx hb dX9_close_128 rfl (lv_at hl 0 rfl) ?_
                              refine pg_gi (ci := 9) (C := RX9) (T := TX9) (N := 63) hx hb hts wi9 hown hK hW (hF.k hk (by decide)) (by decide) rfl 53 (by decide) (hts (.fieldLink RX9 234 "IceHallModel" "outs" "I") (by decide +kernel)) (fun _ h9 => h9) rfl dX9_close_129 ?_
                              rw [show sI L59 h 53 = sI L59 h 53 from rfl]
                              refine lv_iload hx hb dX9_close_132 (lv_at hl 4 rfl) ?_
                              refine pg_iast hx hb hK hW hS (hF.k kb166 (by decide)) (by decide) (by rw [show sL L59 b166 = 5 from (hF.n kb166 (by decide) nb166)]; exact r_in (by omega)) dX9_close_134 (fun H locs hW hS => ?_)
                              have kq167 : sK L59 b166 = 17 := (hF.k kb166 (by decide))
                              obtain ⟨S168, eS168⟩ : ∃ T : St, T = stI L59 b166 (Int32.toNatClampNeg (sI L59 h 53)) y := ⟨_, rfl⟩
                              rw [← eS168] at hW
                              have hG : G S168 := by rw [eS168]; exact hG.I kq167 (ok_inA (by decide) 0 199 (by decide) (⟨by omega, by omega⟩))
                              have w169 : sI S168 h 36 = sI S h 36 := by rw [eS168]; exact (iI_a (fk_ne (hF.k hk (by decide)) kq167 (by decide))).trans h36
                              have w170 : sI S168 h 53 = sI L59 h 53 := by rw [eS168]; exact (iI_a (fk_ne (hF.k hk (by decide)) kq167 (by decide))).trans rfl
                              have hF : Fr [] [936, 953, 954, 955, 1100, 1600, 1700, 1800, 1900] S S168 := by rw [eS168]; exact hF.IA kq167 (by decide) (by decide)
                              have hE19 : Fr [] [936, 953, 954, 955, 1100, 1600, 1700, 1800, 1900] S16 S168 := by rw [eS168]; exact hE19.IA kq167 (by decide) (by decide)
                              refine lv_aload_n hx hb dX9_close_135 rfl (lv_at hl 0 rfl) ?_
                              obtain ⟨b171, rb171, kb171, nb171⟩ := hG0.r hk List.not_mem_nil 52 (show rty 9 52 = some (18, 5) from rfl)
                              refine pg_gr (b := b171) (ci := 9) (C := RX9) (T := TX9) (N := 63) hx hb hts wi9 hown hK hW (hF.k hk (by decide)) (by decide) rfl 52 (by decide) (hts (.fieldLink RX9 118 "IceHallModel" "wayHour" "[I") (by decide +kernel)) (fun _ h9 => h9) rfl (hF.r hk (by decide) rb171) dX9_close_136 ?_
                              refine lv_aload_n hx hb dX9_close_139 rfl (lv_at hl 0 rfl) ?_
                              refine pg_gi (ci := 9) (C := RX9) (T := TX9) (N := 63) hx hb hts wi9 hown hK hW (hF.k hk (by decide)) (by decide) rfl 53 (by decide) (hts (.fieldLink RX9 234 "IceHallModel" "outs" "I") (by decide +kernel)) (fun _ h9 => h9) rfl dX9_close_140 ?_
                              rw [show sI S168 h 53 = sI L59 h 53 from w170]
                              refine lv_aload_n hx hb dX9_close_143 rfl (lv_at hl 0 rfl) ?_
                              refine pg_gr (b := b158) (ci := 9) (C := RX9) (T := TX9) (N := 63) hx hb hts wi9 hown hK hW (hF.k hk (by decide)) (by decide) rfl 40 (by decide) (hts (.fieldLink RX9 82 "IceHallModel" "hourOf" "[I") (by decide +kernel)) (fun _ h9 => h9) rfl (hF.r hk (by decide) rb158) dX9_close_144 ?_
                              refine lv_iload hx hb dX9_close_147 (lv_at hl 4 rfl) ?_
                              refine pg_iald hx hb hK hW (hF.k kb158 (by decide)) (by decide) (by rw [show sL S168 b158 = 200 from (hF.n kb158 (by decide) nb158)]; exact r_in (by omega)) dX9_close_149 ?_
                              have g172 : (-10 : Int) ≤ (sI S168 b158 (Int32.toNatClampNeg y)).toInt ∧ (sI S168 b158 (Int32.toNatClampNeg y)).toInt ≤ 2000 := hG.iA (hF.k kb158 (by decide)) (by decide) (by decide) (Int32.toNatClampNeg y) (by decide)
                              rw [show sI S168 b158 (Int32.toNatClampNeg y) = sI L59 b158 (Int32.toNatClampNeg y) from by rw [eS168]; exact iI_a (fk_ne kb158 kb166 (by decide))]
                              refine pg_iast hx hb hK hW hS (hF.k kb171 (by decide)) (by decide) (by rw [show sL S168 b171 = 5 from (hF.n kb171 (by decide) nb171)]; exact r_in (by omega)) dX9_close_150 (fun H locs hW hS => ?_)
                              have kq173 : sK S168 b171 = 18 := (hF.k kb171 (by decide))
                              obtain ⟨S174, eS174⟩ : ∃ T : St, T = stI S168 b171 (Int32.toNatClampNeg (sI L59 h 53)) (sI L59 b158 (Int32.toNatClampNeg y)) := ⟨_, rfl⟩
                              rw [← eS174] at hW
                              have hG : G S174 := by rw [eS174]; exact hG.I kq173 (ok_inA (by decide) 0 1990 (by decide) (⟨by omega, by omega⟩))
                              have w175 : sI S174 h 36 = sI S h 36 := by rw [eS174]; exact (iI_a (fk_ne (hF.k hk (by decide)) kq173 (by decide))).trans w169
                              have w176 : sI S174 h 53 = sI L59 h 53 := by rw [eS174]; exact (iI_a (fk_ne (hF.k hk (by decide)) kq173 (by decide))).trans w170
                              have hF : Fr [] [936, 953, 954, 955, 1100, 1600, 1700, 1800, 1900] S S174 := by rw [eS174]; exact hF.IA kq173 (by decide) (by decide)
                              have hE19 : Fr [] [936, 953, 954, 955, 1100, 1600, 1700, 1800, 1900] S16 S174 := by rw [eS174]; exact hE19.IA kq173 (by decide) (by decide)
                              clear eS174
                              refine lv_aload_n hx hb dX9_close_151 rfl (lv_at hl 0 rfl) ?_
                              refine lv_aload_n hx hb dX9_close_152 rfl (lv_at hl 0 rfl) ?_
                              refine pg_gi (ci := 9) (C := RX9) (T := TX9) (N := 63) hx hb hts wi9 hown hK hW (hF.k hk (by decide)) (by decide) rfl 53 (by decide) (hts (.fieldLink RX9 234 "IceHallModel" "outs" "I") (by decide +kernel)) (fun _ h9 => h9) rfl dX9_close_153 ?_
                              rw [show sI S174 h 53 = sI L59 h 53 from w176]
                              refine lv_iconst (v := 1) hx hb dX9_close_156 (by decide) ?_
                              refine lv_iadd hx hb dX9_close_157 ?_
                              have l177 : ((sI L59 h 53) + 1).toInt = Int32.toInt (sI L59 h 53) + (1 : Int) := i3_add rfl rfl (by omega) (by omega)
                              refine pg_pi (ci := 9) (C := RX9) (T := TX9) (N := 63) hx hb hts wi9 tyX9 tyX9_ok nmX9 hown hK hW hS (hF.k hk (by decide)) (by decide) rfl 53 (by decide) (hts (.fieldLink RX9 234 "IceHallModel" "outs" "I") (by decide +kernel)) (fun _ h9 => h9) rfl rfl rfl dX9_close_158 (fun H locs hW hS => ?_)
                              have kq178 : sK S174 h = 9 := (hF.k hk (by decide))
                              obtain ⟨S179, eS179⟩ : ∃ T : St, T = stI S174 h 53 ((sI L59 h 53) + 1) := ⟨_, rfl⟩
                              rw [← eS179] at hW
                              have hG : G S179 := by rw [eS179]; exact hG.I kq178 (ok_in 0 5 (by decide) (⟨by omega, by omega⟩))
                              have w180 : sI S179 h 36 = sI S h 36 := by rw [eS179]; exact (iI_k (by decide)).trans w175
                              have hF : Fr [] [936, 953, 954, 955, 1100, 1600, 1700, 1800, 1900] S S179 := by rw [eS179]; exact hF.I kq178 (by decide)
                              have hE19 : Fr [] [936, 953, 954, 955, 1100, 1600, 1700, 1800, 1900] S16 S179 := by rw [eS179]; exact hE19.I kq178 (by decide)
                              have w181 : sI S179 h 53 = (sI L59 h 53) + 1 := by rw [eS179]; exact iI_s
                              clear eS179
                              refine lv_iinc (v := y + 1) (lv' := [(4, .int (y + 1)), (0, .ref h), (1, .int a), (2, .int b), (3, .int d)]) hx hb dX9_close_161 hl (k := 4) rfl rfl (by decide) rfl (fun ls hl => ?_)
                              have i182 : (y + 1).toInt = (y).toInt + 1 := i3_add rfl rfl (by omega) (by omega)
                              refine lv_goto (tgt := 59) hx hb dX9_close_164 (by decide) ?_
                              have lk183 : (sI S179 h 36).toInt = (sI S h 36).toInt := by rw [show sI S179 h 36 = sI S h 36 from w180]
                              have lk184 : (sI S179 h 53).toInt = ((sI L59 h 53) + 1).toInt := by rw [show sI S179 h 53 = (sI L59 h 53) + 1 from w181]
                              exact ih59 (y + 1) S179 _ _ ls hG hE19 (by omega) (w180) (by omega) hW hS (lv_cast (lv_sub hl [1, 2, 3, 4, 0] rfl) (rfl))
                            · have c165i : Int32.toInt (sI L59 h 53) = (5 : Int) := (i3_eq _ _).mp c165
                              refine lv_iconst (v := (-1)) hx hb dX9_close_122 (by decide) ?_
                              exact pc_iret (v := (-1)) (S := L59) hx hb hr hlk hK hZ hA hW hS (⟨hG, hF, trivial⟩) dX9_close_123
                          · have c164i : ¬ (Int32.toInt (sI L59 b158 (Int32.toNatClampNeg y)) < Int32.toInt d) := fun h9 => c164 ((i3_lt _ _).mpr h9)
                            refine lv_goto (tgt := 161) hx hb dX9_close_111 (by decide) ?_
                            refine lv_iinc (v := y + 1) (lv' := [(4, .int (y + 1)), (0, .ref h), (1, .int a), (2, .int b), (3, .int d)]) hx hb dX9_close_161 hl (k := 4) rfl rfl (by decide) rfl (fun ls hl => ?_)
                            have i185 : (y + 1).toInt = (y).toInt + 1 := i3_add rfl rfl (by omega) (by omega)
                            refine lv_goto (tgt := 59) hx hb dX9_close_164 (by decide) ?_
                            have lk186 : (sI L59 h 36).toInt = (sI S h 36).toInt := by rw [show sI L59 h 36 = sI S h 36 from h36]
                            exact ih59 (y + 1) L59 _ _ ls hG hE19 (by omega) (h36) (by omega) hW hS (lv_cast (lv_sub hl [1, 2, 3, 4, 0] rfl) (rfl))
              have lk187 : (sI S16 h 36).toInt = (sI S h 36).toInt := by rw [show sI S16 h 36 = sI S h 36 from w17]
              have lk188 : (sI S16 h 53).toInt = (0 : Int) := by rw [show sI S16 h 53 = 0 from w18]; rfl
              exact loop59 _ 0 S16 _ _ ls hG hE19 (by decide) (w17) (Nat.lt_succ_self _) hW hS (lv_cast (lv_sub hl [1, 2, 3, 4, 0] rfl) (rfl))
            · have c15i : Int32.toInt (sI S h 36) = (10 : Int) := (i3_eq _ _).mp c15
              refine lv_iconst (v := (-1)) hx hb dX9_close_49 (by decide) ?_
              exact pc_iret (v := (-1)) (S := S) hx hb hr hlk hK hZ hA hW hS (⟨hG, hF, trivial⟩) dX9_close_50
