set_option maxHeartbeats 4000000 in
set_option maxRecDepth 100000 in
theorem b_X9_plan (l : Launch) (D : va_G) (cy : Nat → ClassId) (A : Nat → Prop) (S : St) (h : Nat) (a b : Int32) (hG0 : G S) (hk : sK S h = 9) : MI l yX9_plan wsX9_plan ({ frames := 1, cells := 0, slots := 0, locals := 23 } : Room) 0 0 D cy A [.ref h, .int a, .int b] S (fun r S1 => G S1 ∧ Fr [] [960, 1100] S S1 ∧ True) := by
  refine mt_start (cc := cX9_plan) (maxL := 13) (ret := (some .int)) (by decide) rfl (Nat.le_of_ble_eq_true rfl) ?_
  intro p e s m args below meth c hx hb hr hlk hml hown hnm hts hK hZ hA hW hS ls hl
  have hl : lv_has ls 13 [(0, .ref h), (1, .int a), (2, .int b)] := hl
  have hown : s.vm.findClass RX9 = some m.cls := hown
  have F : CallFix p m c cX9_plan 13 s args wsX9_plan RX9 := ⟨hx, hb, hml, hown, hts⟩
  have wi9 : ∀ w ∈ u_ws RX9 TX9 63, w ∈ wsX9_plan := by decide +kernel
  have hG := hG0
  have hF : Fr [] [960, 1100] S S := Fr.rf _ _ _
  refine lv_iload_n hx hb dX9_plan_0 rfl (lv_at hl 1 rfl) ?_
  refine lv_iconst (v := 1) hx hb dX9_plan_1 (by decide) ?_
  refine lv_icmp_lt (tgt := 23) hx hb dX9_plan_2 (by decide) (fun c1 => ?_) (fun c1 => ?_)
  · have c1i : Int32.toInt a < (1 : Int) := (i3_lt _ _).mp c1
    refine lv_iconst (v := (-1)) hx hb dX9_plan_23 (by decide) ?_
    exact pc_iret (v := (-1)) (S := S) hx hb hr hlk hK hZ hA hW hS (⟨hG, hF, trivial⟩) dX9_plan_24
  · have c1i : ¬ (Int32.toInt a < (1 : Int)) := fun h9 => c1 ((i3_lt _ _).mpr h9)
    refine lv_iload_n hx hb dX9_plan_5 rfl (lv_at hl 1 rfl) ?_
    refine lv_bipush (v := 8) hx hb dX9_plan_6 (by decide) ?_
    refine lv_icmp_gt (tgt := 23) hx hb dX9_plan_8 (by decide) (fun c2 => ?_) (fun c2 => ?_)
    · have c2i : (8 : Int) < Int32.toInt a := (i3_lt _ _).mp c2
      refine lv_iconst (v := (-1)) hx hb dX9_plan_23 (by decide) ?_
      exact pc_iret (v := (-1)) (S := S) hx hb hr hlk hK hZ hA hW hS (⟨hG, hF, trivial⟩) dX9_plan_24
    · have c2i : ¬ ((8 : Int) < Int32.toInt a) := fun h9 => c2 ((i3_lt _ _).mpr h9)
      refine lv_iload_n hx hb dX9_plan_11 rfl (lv_at hl 2 rfl) ?_
      refine lv_bipush (v := (-20)) hx hb dX9_plan_12 (by decide) ?_
      refine lv_icmp_lt (tgt := 23) hx hb dX9_plan_14 (by decide) (fun c3 => ?_) (fun c3 => ?_)
      · have c3i : Int32.toInt b < (-20 : Int) := (i3_lt _ _).mp c3
        refine lv_iconst (v := (-1)) hx hb dX9_plan_23 (by decide) ?_
        exact pc_iret (v := (-1)) (S := S) hx hb hr hlk hK hZ hA hW hS (⟨hG, hF, trivial⟩) dX9_plan_24
      · have c3i : ¬ (Int32.toInt b < (-20 : Int)) := fun h9 => c3 ((i3_lt _ _).mpr h9)
        refine lv_iload_n hx hb dX9_plan_17 rfl (lv_at hl 2 rfl) ?_
        refine lv_bipush (v := 40) hx hb dX9_plan_18 (by decide) ?_
        refine lv_icmp_le (tgt := 25) hx hb dX9_plan_20 (by decide) (fun c4 => ?_) (fun c4 => ?_)
        · have c4i : Int32.toInt b ≤ (40 : Int) := (i3_le _ _).mp c4
          refine lv_iconst (v := 1) hx hb dX9_plan_25 (by decide) ?_
          refine lv_istore_n (lv' := [(3, .int 1), (0, .ref h), (1, .int a), (2, .int b)]) hx hb dX9_plan_26 rfl hl (by decide) rfl (fun ls hl => ?_)
          refine lv_iconst (v := 0) hx hb dX9_plan_27 (by decide) ?_
          refine lv_istore (lv' := [(4, .int 0), (3, .int 1), (0, .ref h), (1, .int a), (2, .int b)]) hx hb dX9_plan_28 hl (by decide) rfl (fun ls hl => ?_)
          have loop30 : ∀ (zn : Nat) (z : Int32) (y : Int32) (L30 : St) (H : Heap) (locs : List Loc) (ls : Array Slot), (G L30) → (Fr [] [960, 1100] S L30) → (0 ≤ y.toInt) → (8 - y.toInt).toNat < zn → PW D cy A L30 H → va_S A s.heap H locs → lv_has ls 13 [(0, .ref h), (1, .int a), (2, .int b), (3, .int z), (4, .int y)] → W p l e ({ frames := 1, cells := 0, slots := 0, locals := 23 } : Room) s m args below meth c H locs 0 0 (MQ below (va_Qi (fun r S1 => G S1 ∧ Fr [] [960, 1100] S S1 ∧ True) (PU D cy A) A) args s 0 0 A) (F0 m 30 ls []) := by
            intro zn
            induction zn with
            | zero => intros; exact absurd (by assumption) (Nat.not_lt_zero _)
            | succ zn ih30 =>
              intro z y L30 H locs ls hG hL30 hy0 hme30 hW hS hl
              have hF := hL30
              refine lv_iload hx hb dX9_plan_30 (lv_at hl 4 rfl) ?_
              refine lv_iload_n hx hb dX9_plan_32 rfl (lv_at hl 1 rfl) ?_
              refine lv_icmp_ge (tgt := 124) hx hb dX9_plan_33 (by decide) (fun c5 => ?_) (fun c5 => ?_)
              · have c5i : Int32.toInt a ≤ Int32.toInt y := (i3_le _ _).mp c5
                refine lv_iconst (v := (-1)) hx hb dX9_plan_124 (by decide) ?_
                refine lv_istore (lv' := [(4, .int ((-1))), (0, .ref h), (1, .int a), (2, .int b), (3, .int z)]) hx hb dX9_plan_125 hl (by decide) rfl (fun ls hl => ?_)
                refine lv_iconst (v := 0) hx hb dX9_plan_127 (by decide) ?_
                refine lv_istore (lv' := [(5, .int 0), (4, .int ((-1))), (0, .ref h), (1, .int a), (2, .int b), (3, .int z)]) hx hb dX9_plan_128 hl (by decide) rfl (fun ls hl => ?_)
                refine lv_iconst (v := 0) hx hb dX9_plan_130 (by decide) ?_
                refine lv_istore (lv' := [(6, .int 0), (5, .int 0), (4, .int ((-1))), (0, .ref h), (1, .int a), (2, .int b), (3, .int z)]) hx hb dX9_plan_131 hl (by decide) rfl (fun ls hl => ?_)
                have hE6 : Fr [] [960, 1100] L30 L30 := Fr.rf _ _ _
                have loop133 : ∀ (zn : Nat) (bc : Int32) (bo : Int32) (c6 : Int32) (L133 : St) (H : Heap) (locs : List Loc) (ls : Array Slot), (G L133) → (Fr [] [960, 1100] L30 L133) → (0 ≤ c6.toInt) → (z.toInt - c6.toInt).toNat < zn → PW D cy A L133 H → va_S A s.heap H locs → lv_has ls 13 [(0, .ref h), (1, .int a), (2, .int b), (3, .int z), (4, .int bc), (5, .int bo), (6, .int c6)] → W p l e ({ frames := 1, cells := 0, slots := 0, locals := 23 } : Room) s m args below meth c H locs 0 0 (MQ below (va_Qi (fun r S1 => G S1 ∧ Fr [] [960, 1100] S S1 ∧ True) (PU D cy A) A) args s 0 0 A) (F0 m 133 ls []) := by
                  intro zn
                  induction zn with
                  | zero => intros; exact absurd (by assumption) (Nat.not_lt_zero _)
                  | succ zn ih133 =>
                    intro bc bo c6 L133 H locs ls hG hL133 hc0 hme133 hW hS hl
                    have hF : Fr [] [960, 1100] S L133 := hF.tr hL133
                    have hE6 := hL133
                    have hb9 := i3_bd z
                    refine lv_iload hx hb dX9_plan_133 (lv_at hl 6 rfl) ?_
                    refine lv_iload_n hx hb dX9_plan_135 rfl (lv_at hl 3 rfl) ?_
                    refine lv_icmp_ge (tgt := 398) hx hb dX9_plan_136 (by decide) (fun c7 => ?_) (fun c7 => ?_)
                    · have c7i : Int32.toInt z ≤ Int32.toInt c6 := (i3_le _ _).mp c7
                      refine lv_iload hx hb dX9_plan_398 (lv_at hl 4 rfl) ?_
                      refine lv_iconst (v := (-1)) hx hb dX9_plan_400 (by decide) ?_
                      refine lv_icmp_ne (tgt := 406) hx hb dX9_plan_401 (by decide) (fun c8 => ?_) (fun c8 => ?_)
                      · have c8i : ¬ (Int32.toInt bc = (-1 : Int)) := fun h9 => c8 ((i3_eq _ _).mpr h9)
                        refine lv_aload_n hx hb dX9_plan_406 rfl (lv_at hl 0 rfl) ?_
                        refine lv_iload_n hx hb dX9_plan_407 rfl (lv_at hl 1 rfl) ?_
                        refine pg_pi (ci := 9) (C := RX9) (T := TX9) (N := 63) hx hb hts wi9 tyX9 tyX9_ok nmX9 hown hK hW hS (hF.k hk (by decide)) (by decide) rfl 60 (by decide) (hts (.fieldLink RX9 284 "IceHallModel" "toldMany" "I") (by decide +kernel)) (fun _ h9 => h9) rfl rfl rfl dX9_plan_408 (fun H locs hW hS => ?_)
                        have kq9 : sK L133 h = 9 := (hF.k hk (by decide))
                        obtain ⟨S10, eS10⟩ : ∃ T : St, T = stI L133 h 60 a := ⟨_, rfl⟩
                        rw [← eS10] at hW
                        have hG : G S10 := by rw [eS10]; exact hG.I kq9 (ok_in 0 8 (by decide) (⟨by omega, by omega⟩))
                        have hF : Fr [] [960, 1100] S S10 := by rw [eS10]; exact hF.I kq9 (by decide)
                        have hE6 : Fr [] [960, 1100] L30 S10 := by rw [eS10]; exact hE6.I kq9 (by decide)
                        clear eS10
                        refine lv_iconst (v := 0) hx hb dX9_plan_411 (by decide) ?_
                        refine lv_istore (lv' := [(6, .int 0), (0, .ref h), (1, .int a), (2, .int b), (3, .int z), (4, .int bc), (5, .int bo)]) hx hb dX9_plan_412 hl (by decide) rfl (fun ls hl => ?_)
                        have hE11 : Fr [] [960, 1100] S10 S10 := Fr.rf _ _ _
                        have loop414 : ∀ (zn : Nat) (x : Int32) (L414 : St) (H : Heap) (locs : List Loc) (ls : Array Slot), (G L414) → (Fr [] [960, 1100] S10 L414) → (0 ≤ x.toInt) → (8 - x.toInt).toNat < zn → PW D cy A L414 H → va_S A s.heap H locs → lv_has ls 13 [(0, .ref h), (1, .int a), (2, .int b), (3, .int z), (4, .int bc), (5, .int bo), (6, .int x)] → W p l e ({ frames := 1, cells := 0, slots := 0, locals := 23 } : Room) s m args below meth c H locs 0 0 (MQ below (va_Qi (fun r S1 => G S1 ∧ Fr [] [960, 1100] S S1 ∧ True) (PU D cy A) A) args s 0 0 A) (F0 m 414 ls []) := by
                          intro zn
                          induction zn with
                          | zero => intros; exact absurd (by assumption) (Nat.not_lt_zero _)
                          | succ zn ih414 =>
                            intro x L414 H locs ls hG hL414 hx0 hme414 hW hS hl
                            have hF : Fr [] [960, 1100] S L414 := hF.tr hL414
                            have hE6 : Fr [] [960, 1100] L30 L414 := hE6.tr hL414
                            have hE11 := hL414
                            refine lv_iload hx hb dX9_plan_414 (lv_at hl 6 rfl) ?_
                            refine lv_iload_n hx hb dX9_plan_416 rfl (lv_at hl 1 rfl) ?_
                            refine lv_icmp_ge (tgt := 440) hx hb dX9_plan_417 (by decide) (fun c12 => ?_) (fun c12 => ?_)
                            · have c12i : Int32.toInt a ≤ Int32.toInt x := (i3_le _ _).mp c12
                              refine lv_iload hx hb dX9_plan_440 (lv_at hl 4 rfl) ?_
                              exact pc_iret (v := bc) (S := L414) hx hb hr hlk hK hZ hA hW hS (⟨hG, hF, trivial⟩) dX9_plan_442
                            · have c12i : ¬ (Int32.toInt a ≤ Int32.toInt x) := fun h9 => c12 ((i3_le _ _).mpr h9)
                              refine lv_aload_n hx hb dX9_plan_420 rfl (lv_at hl 0 rfl) ?_
                              obtain ⟨b13, rb13, kb13, nb13⟩ := hG0.r hk List.not_mem_nil 59 (show rty 9 59 = some (11, 8) from rfl)
                              refine pg_gr (b := b13) (ci := 9) (C := RX9) (T := TX9) (N := 63) hx hb hts wi9 hown hK hW (hF.k hk (by decide)) (by decide) rfl 59 (by decide) (hts (.fieldLink RX9 130 "IceHallModel" "told" "[I") (by decide +kernel)) (fun _ h9 => h9) rfl (hF.r hk (by decide) rb13) dX9_plan_421 ?_
                              refine lv_iload hx hb dX9_plan_424 (lv_at hl 6 rfl) ?_
                              refine lv_aload_n hx hb dX9_plan_426 rfl (lv_at hl 0 rfl) ?_
                              obtain ⟨b14, rb14, kb14, nb14⟩ := hG0.r hk List.not_mem_nil 58 (show rty 9 58 = some (11, 8) from rfl)
                              refine pg_gr (b := b14) (ci := 9) (C := RX9) (T := TX9) (N := 63) hx hb hts wi9 hown hK hW (hF.k hk (by decide)) (by decide) rfl 58 (by decide) (hts (.fieldLink RX9 127 "IceHallModel" "bestRow" "[I") (by decide +kernel)) (fun _ h9 => h9) rfl (hF.r hk (by decide) rb14) dX9_plan_427 ?_
                              refine lv_iload hx hb dX9_plan_430 (lv_at hl 6 rfl) ?_
                              refine pg_iald hx hb hK hW (hF.k kb14 (by decide)) (by decide) (by rw [show sL L414 b14 = 8 from (hF.n kb14 (by decide) nb14)]; exact r_in (by omega)) dX9_plan_432 ?_
                              refine pg_iast hx hb hK hW hS (hF.k kb13 (by decide)) (by decide) (by rw [show sL L414 b13 = 8 from (hF.n kb13 (by decide) nb13)]; exact r_in (by omega)) dX9_plan_433 (fun H locs hW hS => ?_)
                              have kq15 : sK L414 b13 = 11 := (hF.k kb13 (by decide))
                              obtain ⟨S16, eS16⟩ : ∃ T : St, T = stI L414 b13 (Int32.toNatClampNeg x) (sI L414 b14 (Int32.toNatClampNeg x)) := ⟨_, rfl⟩
                              rw [← eS16] at hW
                              have hG : G S16 := by rw [eS16]; exact hG.I kq15 (ok_frA (by decide) (by decide))
                              have hF : Fr [] [960, 1100] S S16 := by rw [eS16]; exact hF.IA kq15 (by decide) (by decide)
                              have hE6 : Fr [] [960, 1100] L30 S16 := by rw [eS16]; exact hE6.IA kq15 (by decide) (by decide)
                              have hE11 : Fr [] [960, 1100] S10 S16 := by rw [eS16]; exact hE11.IA kq15 (by decide) (by decide)
                              clear eS16
                              refine lv_iinc (v := x + 1) (lv' := [(6, .int (x + 1)), (0, .ref h), (1, .int a), (2, .int b), (3, .int z), (4, .int bc), (5, .int bo)]) hx hb dX9_plan_434 hl (k := 6) rfl rfl (by decide) rfl (fun ls hl => ?_)
                              have i17 : (x + 1).toInt = (x).toInt + 1 := i3_add rfl rfl (by omega) (by omega)
                              refine lv_goto (tgt := 414) hx hb dX9_plan_437 (by decide) ?_
                              exact ih414 (x + 1) S16 _ _ ls hG hE11 (by omega) (by omega) hW hS (lv_cast (lv_sub hl [1, 2, 3, 4, 5, 6, 0] rfl) (rfl))
                        exact loop414 _ 0 S10 _ _ ls hG hE11 (by decide) (Nat.lt_succ_self _) hW hS (lv_cast (lv_sub hl [1, 2, 3, 4, 5, 6, 0] rfl) (rfl))
                      · have c8i : Int32.toInt bc = (-1 : Int) := (i3_eq _ _).mp c8
                        refine lv_iconst (v := (-1)) hx hb dX9_plan_404 (by decide) ?_
                        exact pc_iret (v := (-1)) (S := L133) hx hb hr hlk hK hZ hA hW hS (⟨hG, hF, trivial⟩) dX9_plan_405
                    · have c7i : ¬ (Int32.toInt z ≤ Int32.toInt c6) := fun h9 => c7 ((i3_le _ _).mpr h9)
                      refine lv_iload hx hb dX9_plan_139 (lv_at hl 6 rfl) ?_
                      refine lv_istore (lv' := [(7, .int c6), (0, .ref h), (1, .int a), (2, .int b), (3, .int z), (4, .int bc), (5, .int bo), (6, .int c6)]) hx hb dX9_plan_141 hl (by decide) rfl (fun ls hl => ?_)
                      refine lv_iload_n hx hb dX9_plan_143 rfl (lv_at hl 2 rfl) ?_
                      refine lv_iconst (v := 1) hx hb dX9_plan_144 (by decide) ?_
                      refine lv_isub hx hb dX9_plan_145 ?_
                      have l18 : (a - 1).toInt = Int32.toInt a - (1 : Int) := i3_sub rfl rfl (by omega) (by omega)
                      refine lv_istore (lv' := [(8, .int (a - 1)), (7, .int c6), (0, .ref h), (1, .int a), (2, .int b), (3, .int z), (4, .int bc), (5, .int bo), (6, .int c6)]) hx hb dX9_plan_146 hl (by decide) rfl (fun ls hl => ?_)
                      have hE19 : Fr [] [960, 1100] L133 L133 := Fr.rf _ _ _
                      have loop148 : ∀ (zn : Nat) (w : Int32) (u : Int32) (L148 : St) (H : Heap) (locs : List Loc) (ls : Array Slot), (G L148) → (Fr [] [960, 1100] L133 L148) → (u.toInt < 8) → (u.toInt + 1).toNat < zn → PW D cy A L148 H → va_S A s.heap H locs → lv_has ls 13 [(0, .ref h), (1, .int a), (2, .int b), (3, .int z), (4, .int bc), (5, .int bo), (6, .int c6), (7, .int w), (8, .int u)] → W p l e ({ frames := 1, cells := 0, slots := 0, locals := 23 } : Room) s m args below meth c H locs 0 0 (MQ below (va_Qi (fun r S1 => G S1 ∧ Fr [] [960, 1100] S S1 ∧ True) (PU D cy A) A) args s 0 0 A) (F0 m 148 ls []) := by
                        intro zn
                        induction zn with
                        | zero => intros; exact absurd (by assumption) (Nat.not_lt_zero _)
                        | succ zn ih148 =>
                          intro w u L148 H locs ls hG hL148 hu5 hme148 hW hS hl
                          have hF : Fr [] [960, 1100] S L148 := hF.tr hL148
                          have hE6 : Fr [] [960, 1100] L30 L148 := hE6.tr hL148
                          have hE19 := hL148
                          refine lv_iload hx hb dX9_plan_148 (lv_at hl 8 rfl) ?_
                          refine lv_if_lt (tgt := 176) hx hb dX9_plan_150 (by decide) (fun c20 => ?_) (fun c20 => ?_)
                          · have c20i : Int32.toInt u < (0 : Int) := (i3_lt _ _).mp c20
                            refine lv_aload_n hx hb dX9_plan_176 rfl (lv_at hl 0 rfl) ?_
                            refine pg_gi (ci := 9) (C := RX9) (T := TX9) (N := 63) hx hb hts wi9 hown hK hW (hF.k hk (by decide)) (by decide) rfl 19 (by decide) (hts (.fieldLink RX9 32 "IceHallModel" "store" "I") (by decide +kernel)) (fun _ h9 => h9) rfl dX9_plan_177 ?_
                            refine lv_istore (lv' := [(8, .int (sI L148 h 19)), (0, .ref h), (1, .int a), (2, .int b), (3, .int z), (4, .int bc), (5, .int bo), (6, .int c6), (7, .int w)]) hx hb dX9_plan_180 hl (by decide) rfl (fun ls hl => ?_)
                            refine lv_iconst (v := 0) hx hb dX9_plan_182 (by decide) ?_
                            refine lv_istore (lv' := [(9, .int 0), (8, .int (sI L148 h 19)), (0, .ref h), (1, .int a), (2, .int b), (3, .int z), (4, .int bc), (5, .int bo), (6, .int c6), (7, .int w)]) hx hb dX9_plan_183 hl (by decide) rfl (fun ls hl => ?_)
                            refine lv_iconst (v := 0) hx hb dX9_plan_185 (by decide) ?_
                            refine lv_istore (lv' := [(10, .int 0), (9, .int 0), (8, .int (sI L148 h 19)), (0, .ref h), (1, .int a), (2, .int b), (3, .int z), (4, .int bc), (5, .int bo), (6, .int c6), (7, .int w)]) hx hb dX9_plan_186 hl (by decide) rfl (fun ls hl => ?_)
                            refine lv_iconst (v := 1) hx hb dX9_plan_188 (by decide) ?_
                            refine lv_istore (lv' := [(11, .int 1), (10, .int 0), (9, .int 0), (8, .int (sI L148 h 19)), (0, .ref h), (1, .int a), (2, .int b), (3, .int z), (4, .int bc), (5, .int bo), (6, .int c6), (7, .int w)]) hx hb dX9_plan_189 hl (by decide) rfl (fun ls hl => ?_)
                            refine lv_iconst (v := 0) hx hb dX9_plan_191 (by decide) ?_
                            refine lv_istore (lv' := [(12, .int 0), (11, .int 1), (10, .int 0), (9, .int 0), (8, .int (sI L148 h 19)), (0, .ref h), (1, .int a), (2, .int b), (3, .int z), (4, .int bc), (5, .int bo), (6, .int c6), (7, .int w)]) hx hb dX9_plan_192 hl (by decide) rfl (fun ls hl => ?_)
                            have hE21 : Fr [] [960, 1100] L148 L148 := Fr.rf _ _ _
                            have loop194 : ∀ (zn : Nat) (h8_ : Int32) (pe : Int32) (ns : Int32) (gd : Int32) (k : Int32) (L194 : St) (H : Heap) (locs : List Loc) (ls : Array Slot), (G L194) → (Fr [] [960, 1100] L148 L194) → (0 ≤ k.toInt) → (8 - k.toInt).toNat < zn → PW D cy A L194 H → va_S A s.heap H locs → lv_has ls 13 [(0, .ref h), (1, .int a), (2, .int b), (3, .int z), (4, .int bc), (5, .int bo), (6, .int c6), (7, .int w), (8, .int h8_), (9, .int pe), (10, .int ns), (11, .int gd), (12, .int k)] → W p l e ({ frames := 1, cells := 0, slots := 0, locals := 23 } : Room) s m args below meth c H locs 0 0 (MQ below (va_Qi (fun r S1 => G S1 ∧ Fr [] [960, 1100] S S1 ∧ True) (PU D cy A) A) args s 0 0 A) (F0 m 194 ls []) := by
                              intro zn
                              induction zn with
                              | zero => intros; exact absurd (by assumption) (Nat.not_lt_zero _)
                              | succ zn ih194 =>
                                intro h8_ pe ns gd k L194 H locs ls hG hL194 hk0 hme194 hW hS hl
                                have hF : Fr [] [960, 1100] S L194 := hF.tr hL194
                                have hE6 : Fr [] [960, 1100] L30 L194 := hE6.tr hL194
                                have hE19 : Fr [] [960, 1100] L133 L194 := hE19.tr hL194
                                have hE21 := hL194
                                refine lv_iload hx hb dX9_plan_194 (lv_at hl 12 rfl) ?_
                                refine lv_iload_n hx hb dX9_plan_196 rfl (lv_at hl 1 rfl) ?_
                                refine lv_icmp_ge (tgt := 320) hx hb dX9_plan_197 (by decide) (fun c22 => ?_) (fun c22 => ?_)
                                · have c22i : Int32.toInt a ≤ Int32.toInt k := (i3_le _ _).mp c22
                                  refine lv_iload hx hb dX9_plan_320 (lv_at hl 11 rfl) ?_
                                  refine lv_if_eq (tgt := 392) hx hb dX9_plan_322 (by decide) (fun c23 => ?_) (fun c23 => ?_)
                                  · have c23i : Int32.toInt gd = (0 : Int) := (i3_eq _ _).mp c23
                                    refine lv_iinc (v := c6 + 1) (lv' := [(6, .int (c6 + 1)), (0, .ref h), (1, .int a), (2, .int b), (3, .int z), (4, .int bc), (5, .int bo), (7, .int w), (8, .int h8_), (9, .int pe), (10, .int ns), (11, .int gd), (12, .int k)]) hx hb dX9_plan_392 hl (k := 6) rfl rfl (by decide) rfl (fun ls hl => ?_)
                                    have i24 : (c6 + 1).toInt = (c6).toInt + 1 := i3_add rfl rfl (by omega) (by omega)
                                    refine lv_goto (tgt := 133) hx hb dX9_plan_395 (by decide) ?_
                                    exact ih133 bc bo (c6 + 1) L194 _ _ ls hG hE6 (by omega) (by omega) hW hS (lv_cast (lv_sub hl [1, 2, 3, 4, 5, 6, 0] rfl) (rfl))
                                  · have c23i : ¬ (Int32.toInt gd = (0 : Int)) := fun h9 => c23 ((i3_eq _ _).mpr h9)
                                    refine lv_iload hx hb dX9_plan_325 (lv_at hl 4 rfl) ?_
                                    refine lv_iconst (v := (-1)) hx hb dX9_plan_327 (by decide) ?_
                                    refine lv_icmp_eq (tgt := 355) hx hb dX9_plan_328 (by decide) (fun c25 => ?_) (fun c25 => ?_)
                                    · have c25i : Int32.toInt bc = (-1 : Int) := (i3_eq _ _).mp c25
                                      refine lv_iload hx hb dX9_plan_355 (lv_at hl 9 rfl) ?_
                                      refine lv_istore (lv' := [(4, .int pe), (0, .ref h), (1, .int a), (2, .int b), (3, .int z), (5, .int bo), (6, .int c6), (7, .int w), (8, .int h8_), (9, .int pe), (10, .int ns), (11, .int gd), (12, .int k)]) hx hb dX9_plan_357 hl (by decide) rfl (fun ls hl => ?_)
                                      refine lv_iload hx hb dX9_plan_359 (lv_at hl 10 rfl) ?_
                                      refine lv_istore (lv' := [(5, .int ns), (4, .int pe), (0, .ref h), (1, .int a), (2, .int b), (3, .int z), (6, .int c6), (7, .int w), (8, .int h8_), (9, .int pe), (10, .int ns), (11, .int gd), (12, .int k)]) hx hb dX9_plan_361 hl (by decide) rfl (fun ls hl => ?_)
                                      refine lv_iconst (v := 0) hx hb dX9_plan_363 (by decide) ?_
                                      refine lv_istore (lv' := [(12, .int 0), (5, .int ns), (4, .int pe), (0, .ref h), (1, .int a), (2, .int b), (3, .int z), (6, .int c6), (7, .int w), (8, .int h8_), (9, .int pe), (10, .int ns), (11, .int gd)]) hx hb dX9_plan_364 hl (by decide) rfl (fun ls hl => ?_)
                                      have hE26 : Fr [] [960, 1100] L194 L194 := Fr.rf _ _ _
                                      have loop366 : ∀ (zn : Nat) (x : Int32) (L366 : St) (H : Heap) (locs : List Loc) (ls : Array Slot), (G L366) → (Fr [] [960, 1100] L194 L366) → (0 ≤ x.toInt) → (8 - x.toInt).toNat < zn → PW D cy A L366 H → va_S A s.heap H locs → lv_has ls 13 [(0, .ref h), (1, .int a), (2, .int b), (3, .int z), (4, .int pe), (5, .int ns), (6, .int c6), (7, .int w), (8, .int h8_), (9, .int pe), (10, .int ns), (11, .int gd), (12, .int x)] → W p l e ({ frames := 1, cells := 0, slots := 0, locals := 23 } : Room) s m args below meth c H locs 0 0 (MQ below (va_Qi (fun r S1 => G S1 ∧ Fr [] [960, 1100] S S1 ∧ True) (PU D cy A) A) args s 0 0 A) (F0 m 366 ls []) := by
                                        intro zn
                                        induction zn with
                                        | zero => intros; exact absurd (by assumption) (Nat.not_lt_zero _)
                                        | succ zn ih366 =>
                                          intro x L366 H locs ls hG hL366 hx0 hme366 hW hS hl
                                          have hF : Fr [] [960, 1100] S L366 := hF.tr hL366
                                          have hE6 : Fr [] [960, 1100] L30 L366 := hE6.tr hL366
                                          have hE19 : Fr [] [960, 1100] L133 L366 := hE19.tr hL366
                                          have hE21 : Fr [] [960, 1100] L148 L366 := hE21.tr hL366
                                          have hE26 := hL366
                                          refine lv_iload hx hb dX9_plan_366 (lv_at hl 12 rfl) ?_
                                          refine lv_iload_n hx hb dX9_plan_368 rfl (lv_at hl 1 rfl) ?_
                                          refine lv_icmp_ge (tgt := 392) hx hb dX9_plan_369 (by decide) (fun c27 => ?_) (fun c27 => ?_)
                                          · have c27i : Int32.toInt a ≤ Int32.toInt x := (i3_le _ _).mp c27
                                            refine lv_iinc (v := c6 + 1) (lv' := [(6, .int (c6 + 1)), (0, .ref h), (1, .int a), (2, .int b), (3, .int z), (4, .int pe), (5, .int ns), (7, .int w), (8, .int h8_), (9, .int pe), (10, .int ns), (11, .int gd), (12, .int x)]) hx hb dX9_plan_392 hl (k := 6) rfl rfl (by decide) rfl (fun ls hl => ?_)
                                            have i28 : (c6 + 1).toInt = (c6).toInt + 1 := i3_add rfl rfl (by omega) (by omega)
                                            refine lv_goto (tgt := 133) hx hb dX9_plan_395 (by decide) ?_
                                            exact ih133 pe ns (c6 + 1) L366 _ _ ls hG hE6 (by omega) (by omega) hW hS (lv_cast (lv_sub hl [1, 2, 3, 4, 5, 6, 0] rfl) (rfl))
                                          · have c27i : ¬ (Int32.toInt a ≤ Int32.toInt x) := fun h9 => c27 ((i3_le _ _).mpr h9)
                                            refine lv_aload_n hx hb dX9_plan_372 rfl (lv_at hl 0 rfl) ?_
                                            obtain ⟨b29, rb29, kb29, nb29⟩ := hG0.r hk List.not_mem_nil 58 (show rty 9 58 = some (11, 8) from rfl)
                                            refine pg_gr (b := b29) (ci := 9) (C := RX9) (T := TX9) (N := 63) hx hb hts wi9 hown hK hW (hF.k hk (by decide)) (by decide) rfl 58 (by decide) (hts (.fieldLink RX9 127 "IceHallModel" "bestRow" "[I") (by decide +kernel)) (fun _ h9 => h9) rfl (hF.r hk (by decide) rb29) dX9_plan_373 ?_
                                            refine lv_iload hx hb dX9_plan_376 (lv_at hl 12 rfl) ?_
                                            refine lv_aload_n hx hb dX9_plan_378 rfl (lv_at hl 0 rfl) ?_
                                            obtain ⟨b30, rb30, kb30, nb30⟩ := hG0.r hk List.not_mem_nil 57 (show rty 9 57 = some (11, 8) from rfl)
                                            refine pg_gr (b := b30) (ci := 9) (C := RX9) (T := TX9) (N := 63) hx hb hts wi9 hown hK hW (hF.k hk (by decide)) (by decide) rfl 57 (by decide) (hts (.fieldLink RX9 124 "IceHallModel" "row" "[I") (by decide +kernel)) (fun _ h9 => h9) rfl (hF.r hk (by decide) rb30) dX9_plan_379 ?_
                                            refine lv_iload hx hb dX9_plan_382 (lv_at hl 12 rfl) ?_
                                            refine pg_iald hx hb hK hW (hF.k kb30 (by decide)) (by decide) (by rw [show sL L366 b30 = 8 from (hF.n kb30 (by decide) nb30)]; exact r_in (by omega)) dX9_plan_384 ?_
                                            refine pg_iast hx hb hK hW hS (hF.k kb29 (by decide)) (by decide) (by rw [show sL L366 b29 = 8 from (hF.n kb29 (by decide) nb29)]; exact r_in (by omega)) dX9_plan_385 (fun H locs hW hS => ?_)
                                            have kq31 : sK L366 b29 = 11 := (hF.k kb29 (by decide))
                                            obtain ⟨S32, eS32⟩ : ∃ T : St, T = stI L366 b29 (Int32.toNatClampNeg x) (sI L366 b30 (Int32.toNatClampNeg x)) := ⟨_, rfl⟩
                                            rw [← eS32] at hW
                                            have hG : G S32 := by rw [eS32]; exact hG.I kq31 (ok_frA (by decide) (by decide))
                                            have hF : Fr [] [960, 1100] S S32 := by rw [eS32]; exact hF.IA kq31 (by decide) (by decide)
                                            have hE6 : Fr [] [960, 1100] L30 S32 := by rw [eS32]; exact hE6.IA kq31 (by decide) (by decide)
                                            have hE19 : Fr [] [960, 1100] L133 S32 := by rw [eS32]; exact hE19.IA kq31 (by decide) (by decide)
                                            have hE21 : Fr [] [960, 1100] L148 S32 := by rw [eS32]; exact hE21.IA kq31 (by decide) (by decide)
                                            have hE26 : Fr [] [960, 1100] L194 S32 := by rw [eS32]; exact hE26.IA kq31 (by decide) (by decide)
                                            clear eS32
                                            refine lv_iinc (v := x + 1) (lv' := [(12, .int (x + 1)), (0, .ref h), (1, .int a), (2, .int b), (3, .int z), (4, .int pe), (5, .int ns), (6, .int c6), (7, .int w), (8, .int h8_), (9, .int pe), (10, .int ns), (11, .int gd)]) hx hb dX9_plan_386 hl (k := 12) rfl rfl (by decide) rfl (fun ls hl => ?_)
                                            have i33 : (x + 1).toInt = (x).toInt + 1 := i3_add rfl rfl (by omega) (by omega)
                                            refine lv_goto (tgt := 366) hx hb dX9_plan_389 (by decide) ?_
                                            exact ih366 (x + 1) S32 _ _ ls hG hE26 (by omega) (by omega) hW hS (lv_cast (lv_sub hl [1, 2, 3, 4, 5, 6, 7, 8, 9, 10, 11, 12, 0] rfl) (rfl))
                                      exact loop366 _ 0 L194 _ _ ls hG hE26 (by decide) (Nat.lt_succ_self _) hW hS (lv_cast (lv_sub hl [3, 4, 5, 6, 2, 1, 7, 8, 9, 10, 11, 12, 0] rfl) (rfl))
                                    · have c25i : ¬ (Int32.toInt bc = (-1 : Int)) := fun h9 => c25 ((i3_eq _ _).mpr h9)
                                      refine lv_iload hx hb dX9_plan_331 (lv_at hl 9 rfl) ?_
                                      refine lv_iload hx hb dX9_plan_333 (lv_at hl 4 rfl) ?_
                                      refine lv_icmp_gt (tgt := 392) hx hb dX9_plan_335 (by decide) (fun c34 => ?_) (fun c34 => ?_)
                                      · have c34i : Int32.toInt bc < Int32.toInt pe := (i3_lt _ _).mp c34
                                        refine lv_iinc (v := c6 + 1) (lv' := [(6, .int (c6 + 1)), (0, .ref h), (1, .int a), (2, .int b), (3, .int z), (4, .int bc), (5, .int bo), (7, .int w), (8, .int h8_), (9, .int pe), (10, .int ns), (11, .int gd), (12, .int k)]) hx hb dX9_plan_392 hl (k := 6) rfl rfl (by decide) rfl (fun ls hl => ?_)
                                        have i35 : (c6 + 1).toInt = (c6).toInt + 1 := i3_add rfl rfl (by omega) (by omega)
                                        refine lv_goto (tgt := 133) hx hb dX9_plan_395 (by decide) ?_
                                        exact ih133 bc bo (c6 + 1) L194 _ _ ls hG hE6 (by omega) (by omega) hW hS (lv_cast (lv_sub hl [1, 2, 3, 4, 5, 6, 0] rfl) (rfl))
                                      · have c34i : ¬ (Int32.toInt bc < Int32.toInt pe) := fun h9 => c34 ((i3_lt _ _).mpr h9)
                                        refine lv_iload hx hb dX9_plan_338 (lv_at hl 9 rfl) ?_
                                        refine lv_iload hx hb dX9_plan_340 (lv_at hl 4 rfl) ?_
                                        refine lv_icmp_ne (tgt := 355) hx hb dX9_plan_342 (by decide) (fun c36 => ?_) (fun c36 => ?_)
                                        · have c36i : ¬ (Int32.toInt pe = Int32.toInt bc) := fun h9 => c36 ((i3_eq _ _).mpr h9)
                                          refine lv_iload hx hb dX9_plan_355 (lv_at hl 9 rfl) ?_
                                          refine lv_istore (lv' := [(4, .int pe), (0, .ref h), (1, .int a), (2, .int b), (3, .int z), (5, .int bo), (6, .int c6), (7, .int w), (8, .int h8_), (9, .int pe), (10, .int ns), (11, .int gd), (12, .int k)]) hx hb dX9_plan_357 hl (by decide) rfl (fun ls hl => ?_)
                                          refine lv_iload hx hb dX9_plan_359 (lv_at hl 10 rfl) ?_
                                          refine lv_istore (lv' := [(5, .int ns), (4, .int pe), (0, .ref h), (1, .int a), (2, .int b), (3, .int z), (6, .int c6), (7, .int w), (8, .int h8_), (9, .int pe), (10, .int ns), (11, .int gd), (12, .int k)]) hx hb dX9_plan_361 hl (by decide) rfl (fun ls hl => ?_)
                                          refine lv_iconst (v := 0) hx hb dX9_plan_363 (by decide) ?_
                                          refine lv_istore (lv' := [(12, .int 0), (5, .int ns), (4, .int pe), (0, .ref h), (1, .int a), (2, .int b), (3, .int z), (6, .int c6), (7, .int w), (8, .int h8_), (9, .int pe), (10, .int ns), (11, .int gd)]) hx hb dX9_plan_364 hl (by decide) rfl (fun ls hl => ?_)
                                          have hE37 : Fr [] [960, 1100] L194 L194 := Fr.rf _ _ _
                                          have loop366 : ∀ (zn : Nat) (x : Int32) (L366 : St) (H : Heap) (locs : List Loc) (ls : Array Slot), (G L366) → (Fr [] [960, 1100] L194 L366) → (0 ≤ x.toInt) → (8 - x.toInt).toNat < zn → PW D cy A L366 H → va_S A s.heap H locs → lv_has ls 13 [(0, .ref h), (1, .int a), (2, .int b), (3, .int z), (4, .int pe), (5, .int ns), (6, .int c6), (7, .int w), (8, .int h8_), (9, .int pe), (10, .int ns), (11, .int gd), (12, .int x)] → W p l e ({ frames := 1, cells := 0, slots := 0, locals := 23 } : Room) s m args below meth c H locs 0 0 (MQ below (va_Qi (fun r S1 => G S1 ∧ Fr [] [960, 1100] S S1 ∧ True) (PU D cy A) A) args s 0 0 A) (F0 m 366 ls []) := by
                                            intro zn
                                            induction zn with
                                            | zero => intros; exact absurd (by assumption) (Nat.not_lt_zero _)
                                            | succ zn ih366 =>
                                              intro x L366 H locs ls hG hL366 hx0 hme366 hW hS hl
                                              have hF : Fr [] [960, 1100] S L366 := hF.tr hL366
                                              have hE6 : Fr [] [960, 1100] L30 L366 := hE6.tr hL366
                                              have hE19 : Fr [] [960, 1100] L133 L366 := hE19.tr hL366
                                              have hE21 : Fr [] [960, 1100] L148 L366 := hE21.tr hL366
                                              have hE37 := hL366
                                              refine lv_iload hx hb dX9_plan_366 (lv_at hl 12 rfl) ?_
                                              refine lv_iload_n hx hb dX9_plan_368 rfl (lv_at hl 1 rfl) ?_
                                              refine lv_icmp_ge (tgt := 392) hx hb dX9_plan_369 (by decide) (fun c38 => ?_) (fun c38 => ?_)
                                              · have c38i : Int32.toInt a ≤ Int32.toInt x := (i3_le _ _).mp c38
                                                refine lv_iinc (v := c6 + 1) (lv' := [(6, .int (c6 + 1)), (0, .ref h), (1, .int a), (2, .int b), (3, .int z), (4, .int pe), (5, .int ns), (7, .int w), (8, .int h8_), (9, .int pe), (10, .int ns), (11, .int gd), (12, .int x)]) hx hb dX9_plan_392 hl (k := 6) rfl rfl (by decide) rfl (fun ls hl => ?_)
                                                have i39 : (c6 + 1).toInt = (c6).toInt + 1 := i3_add rfl rfl (by omega) (by omega)
                                                refine lv_goto (tgt := 133) hx hb dX9_plan_395 (by decide) ?_
                                                exact ih133 pe ns (c6 + 1) L366 _ _ ls hG hE6 (by omega) (by omega) hW hS (lv_cast (lv_sub hl [1, 2, 3, 4, 5, 6, 0] rfl) (rfl))
                                              · have c38i : ¬ (Int32.toInt a ≤ Int32.toInt x) := fun h9 => c38 ((i3_le _ _).mpr h9)
                                                refine lv_aload_n hx hb dX9_plan_372 rfl (lv_at hl 0 rfl) ?_
                                                obtain ⟨b40, rb40, kb40, nb40⟩ := hG0.r hk List.not_mem_nil 58 (show rty 9 58 = some (11, 8) from rfl)
                                                refine pg_gr (b := b40) (ci := 9) (C := RX9) (T := TX9) (N := 63) hx hb hts wi9 hown hK hW (hF.k hk (by decide)) (by decide) rfl 58 (by decide) (hts (.fieldLink RX9 127 "IceHallModel" "bestRow" "[I") (by decide +kernel)) (fun _ h9 => h9) rfl (hF.r hk (by decide) rb40) dX9_plan_373 ?_
                                                refine lv_iload hx hb dX9_plan_376 (lv_at hl 12 rfl) ?_
                                                refine lv_aload_n hx hb dX9_plan_378 rfl (lv_at hl 0 rfl) ?_
                                                obtain ⟨b41, rb41, kb41, nb41⟩ := hG0.r hk List.not_mem_nil 57 (show rty 9 57 = some (11, 8) from rfl)
                                                refine pg_gr (b := b41) (ci := 9) (C := RX9) (T := TX9) (N := 63) hx hb hts wi9 hown hK hW (hF.k hk (by decide)) (by decide) rfl 57 (by decide) (hts (.fieldLink RX9 124 "IceHallModel" "row" "[I") (by decide +kernel)) (fun _ h9 => h9) rfl (hF.r hk (by decide) rb41) dX9_plan_379 ?_
                                                refine lv_iload hx hb dX9_plan_382 (lv_at hl 12 rfl) ?_
                                                refine pg_iald hx hb hK hW (hF.k kb41 (by decide)) (by decide) (by rw [show sL L366 b41 = 8 from (hF.n kb41 (by decide) nb41)]; exact r_in (by omega)) dX9_plan_384 ?_
                                                refine pg_iast hx hb hK hW hS (hF.k kb40 (by decide)) (by decide) (by rw [show sL L366 b40 = 8 from (hF.n kb40 (by decide) nb40)]; exact r_in (by omega)) dX9_plan_385 (fun H locs hW hS => ?_)
                                                have kq42 : sK L366 b40 = 11 := (hF.k kb40 (by decide))
                                                obtain ⟨S43, eS43⟩ : ∃ T : St, T = stI L366 b40 (Int32.toNatClampNeg x) (sI L366 b41 (Int32.toNatClampNeg x)) := ⟨_, rfl⟩
                                                rw [← eS43] at hW
                                                have hG : G S43 := by rw [eS43]; exact hG.I kq42 (ok_frA (by decide) (by decide))
                                                have hF : Fr [] [960, 1100] S S43 := by rw [eS43]; exact hF.IA kq42 (by decide) (by decide)
                                                have hE6 : Fr [] [960, 1100] L30 S43 := by rw [eS43]; exact hE6.IA kq42 (by decide) (by decide)
                                                have hE19 : Fr [] [960, 1100] L133 S43 := by rw [eS43]; exact hE19.IA kq42 (by decide) (by decide)
                                                have hE21 : Fr [] [960, 1100] L148 S43 := by rw [eS43]; exact hE21.IA kq42 (by decide) (by decide)
                                                have hE37 : Fr [] [960, 1100] L194 S43 := by rw [eS43]; exact hE37.IA kq42 (by decide) (by decide)
                                                clear eS43
                                                refine lv_iinc (v := x + 1) (lv' := [(12, .int (x + 1)), (0, .ref h), (1, .int a), (2, .int b), (3, .int z), (4, .int pe), (5, .int ns), (6, .int c6), (7, .int w), (8, .int h8_), (9, .int pe), (10, .int ns), (11, .int gd)]) hx hb dX9_plan_386 hl (k := 12) rfl rfl (by decide) rfl (fun ls hl => ?_)
                                                have i44 : (x + 1).toInt = (x).toInt + 1 := i3_add rfl rfl (by omega) (by omega)
                                                refine lv_goto (tgt := 366) hx hb dX9_plan_389 (by decide) ?_
                                                exact ih366 (x + 1) S43 _ _ ls hG hE37 (by omega) (by omega) hW hS (lv_cast (lv_sub hl [1, 2, 3, 4, 5, 6, 7, 8, 9, 10, 11, 12, 0] rfl) (rfl))
                                          exact loop366 _ 0 L194 _ _ ls hG hE37 (by decide) (Nat.lt_succ_self _) hW hS (lv_cast (lv_sub hl [3, 4, 5, 6, 2, 1, 7, 8, 9, 10, 11, 12, 0] rfl) (rfl))
                                        · have c36i : Int32.toInt pe = Int32.toInt bc := (i3_eq _ _).mp c36
                                          refine lv_iload hx hb dX9_plan_345 (lv_at hl 10 rfl) ?_
                                          refine lv_iload hx hb dX9_plan_347 (lv_at hl 5 rfl) ?_
                                          refine lv_icmp_lt (tgt := 355) hx hb dX9_plan_349 (by decide) (fun c45 => ?_) (fun c45 => ?_)
                                          · have c45i : Int32.toInt ns < Int32.toInt bo := (i3_lt _ _).mp c45
                                            refine lv_iload hx hb dX9_plan_355 (lv_at hl 9 rfl) ?_
                                            refine lv_istore (lv' := [(4, .int pe), (0, .ref h), (1, .int a), (2, .int b), (3, .int z), (5, .int bo), (6, .int c6), (7, .int w), (8, .int h8_), (9, .int pe), (10, .int ns), (11, .int gd), (12, .int k)]) hx hb dX9_plan_357 hl (by decide) rfl (fun ls hl => ?_)
                                            refine lv_iload hx hb dX9_plan_359 (lv_at hl 10 rfl) ?_
                                            refine lv_istore (lv' := [(5, .int ns), (4, .int pe), (0, .ref h), (1, .int a), (2, .int b), (3, .int z), (6, .int c6), (7, .int w), (8, .int h8_), (9, .int pe), (10, .int ns), (11, .int gd), (12, .int k)]) hx hb dX9_plan_361 hl (by decide) rfl (fun ls hl => ?_)
                                            refine lv_iconst (v := 0) hx hb dX9_plan_363 (by decide) ?_
                                            refine lv_istore (lv' := [(12, .int 0), (5, .int ns), (4, .int pe), (0, .ref h), (1, .int a), (2, .int b), (3, .int z), (6, .int c6), (7, .int w), (8, .int h8_), (9, .int pe), (10, .int ns), (11, .int gd)]) hx hb dX9_plan_364 hl (by decide) rfl (fun ls hl => ?_)
                                            have hE46 : Fr [] [960, 1100] L194 L194 := Fr.rf _ _ _
                                            have loop366 : ∀ (zn : Nat) (x : Int32) (L366 : St) (H : Heap) (locs : List Loc) (ls : Array Slot), (G L366) → (Fr [] [960, 1100] L194 L366) → (0 ≤ x.toInt) → (8 - x.toInt).toNat < zn → PW D cy A L366 H → va_S A s.heap H locs → lv_has ls 13 [(0, .ref h), (1, .int a), (2, .int b), (3, .int z), (4, .int pe), (5, .int ns), (6, .int c6), (7, .int w), (8, .int h8_), (9, .int pe), (10, .int ns), (11, .int gd), (12, .int x)] → W p l e ({ frames := 1, cells := 0, slots := 0, locals := 23 } : Room) s m args below meth c H locs 0 0 (MQ below (va_Qi (fun r S1 => G S1 ∧ Fr [] [960, 1100] S S1 ∧ True) (PU D cy A) A) args s 0 0 A) (F0 m 366 ls []) := by
                                              intro zn
                                              induction zn with
                                              | zero => intros; exact absurd (by assumption) (Nat.not_lt_zero _)
                                              | succ zn ih366 =>
                                                intro x L366 H locs ls hG hL366 hx0 hme366 hW hS hl
                                                have hF : Fr [] [960, 1100] S L366 := hF.tr hL366
                                                have hE6 : Fr [] [960, 1100] L30 L366 := hE6.tr hL366
                                                have hE19 : Fr [] [960, 1100] L133 L366 := hE19.tr hL366
                                                have hE21 : Fr [] [960, 1100] L148 L366 := hE21.tr hL366
                                                have hE46 := hL366
                                                refine lv_iload hx hb dX9_plan_366 (lv_at hl 12 rfl) ?_
                                                refine lv_iload_n hx hb dX9_plan_368 rfl (lv_at hl 1 rfl) ?_
                                                refine lv_icmp_ge (tgt := 392) hx hb dX9_plan_369 (by decide) (fun c47 => ?_) (fun c47 => ?_)
                                                · have c47i : Int32.toInt a ≤ Int32.toInt x := (i3_le _ _).mp c47
                                                  refine lv_iinc (v := c6 + 1) (lv' := [(6, .int (c6 + 1)), (0, .ref h), (1, .int a), (2, .int b), (3, .int z), (4, .int pe), (5, .int ns), (7, .int w), (8, .int h8_), (9, .int pe), (10, .int ns), (11, .int gd), (12, .int x)]) hx hb dX9_plan_392 hl (k := 6) rfl rfl (by decide) rfl (fun ls hl => ?_)
                                                  have i48 : (c6 + 1).toInt = (c6).toInt + 1 := i3_add rfl rfl (by omega) (by omega)
                                                  refine lv_goto (tgt := 133) hx hb dX9_plan_395 (by decide) ?_
                                                  exact ih133 pe ns (c6 + 1) L366 _ _ ls hG hE6 (by omega) (by omega) hW hS (lv_cast (lv_sub hl [1, 2, 3, 4, 5, 6, 0] rfl) (rfl))
                                                · have c47i : ¬ (Int32.toInt a ≤ Int32.toInt x) := fun h9 => c47 ((i3_le _ _).mpr h9)
                                                  refine lv_aload_n hx hb dX9_plan_372 rfl (lv_at hl 0 rfl) ?_
                                                  obtain ⟨b49, rb49, kb49, nb49⟩ := hG0.r hk List.not_mem_nil 58 (show rty 9 58 = some (11, 8) from rfl)
                                                  refine pg_gr (b := b49) (ci := 9) (C := RX9) (T := TX9) (N := 63) hx hb hts wi9 hown hK hW (hF.k hk (by decide)) (by decide) rfl 58 (by decide) (hts (.fieldLink RX9 127 "IceHallModel" "bestRow" "[I") (by decide +kernel)) (fun _ h9 => h9) rfl (hF.r hk (by decide) rb49) dX9_plan_373 ?_
                                                  refine lv_iload hx hb dX9_plan_376 (lv_at hl 12 rfl) ?_
                                                  refine lv_aload_n hx hb dX9_plan_378 rfl (lv_at hl 0 rfl) ?_
                                                  obtain ⟨b50, rb50, kb50, nb50⟩ := hG0.r hk List.not_mem_nil 57 (show rty 9 57 = some (11, 8) from rfl)
                                                  refine pg_gr (b := b50) (ci := 9) (C := RX9) (T := TX9) (N := 63) hx hb hts wi9 hown hK hW (hF.k hk (by decide)) (by decide) rfl 57 (by decide) (hts (.fieldLink RX9 124 "IceHallModel" "row" "[I") (by decide +kernel)) (fun _ h9 => h9) rfl (hF.r hk (by decide) rb50) dX9_plan_379 ?_
                                                  refine lv_iload hx hb dX9_plan_382 (lv_at hl 12 rfl) ?_
                                                  refine pg_iald hx hb hK hW (hF.k kb50 (by decide)) (by decide) (by rw [show sL L366 b50 = 8 from (hF.n kb50 (by decide) nb50)]; exact r_in (by omega)) dX9_plan_384 ?_
                                                  refine pg_iast hx hb hK hW hS (hF.k kb49 (by decide)) (by decide) (by rw [show sL L366 b49 = 8 from (hF.n kb49 (by decide) nb49)]; exact r_in (by omega)) dX9_plan_385 (fun H locs hW hS => ?_)
                                                  have kq51 : sK L366 b49 = 11 := (hF.k kb49 (by decide))
                                                  obtain ⟨S52, eS52⟩ : ∃ T : St, T = stI L366 b49 (Int32.toNatClampNeg x) (sI L366 b50 (Int32.toNatClampNeg x)) := ⟨_, rfl⟩
                                                  rw [← eS52] at hW
                                                  have hG : G S52 := by rw [eS52]; exact hG.I kq51 (ok_frA (by decide) (by decide))
                                                  have hF : Fr [] [960, 1100] S S52 := by rw [eS52]; exact hF.IA kq51 (by decide) (by decide)
                                                  have hE6 : Fr [] [960, 1100] L30 S52 := by rw [eS52]; exact hE6.IA kq51 (by decide) (by decide)
                                                  have hE19 : Fr [] [960, 1100] L133 S52 := by rw [eS52]; exact hE19.IA kq51 (by decide) (by decide)
                                                  have hE21 : Fr [] [960, 1100] L148 S52 := by rw [eS52]; exact hE21.IA kq51 (by decide) (by decide)
                                                  have hE46 : Fr [] [960, 1100] L194 S52 := by rw [eS52]; exact hE46.IA kq51 (by decide) (by decide)
                                                  clear eS52
                                                  refine lv_iinc (v := x + 1) (lv' := [(12, .int (x + 1)), (0, .ref h), (1, .int a), (2, .int b), (3, .int z), (4, .int pe), (5, .int ns), (6, .int c6), (7, .int w), (8, .int h8_), (9, .int pe), (10, .int ns), (11, .int gd)]) hx hb dX9_plan_386 hl (k := 12) rfl rfl (by decide) rfl (fun ls hl => ?_)
                                                  have i53 : (x + 1).toInt = (x).toInt + 1 := i3_add rfl rfl (by omega) (by omega)
                                                  refine lv_goto (tgt := 366) hx hb dX9_plan_389 (by decide) ?_
                                                  exact ih366 (x + 1) S52 _ _ ls hG hE46 (by omega) (by omega) hW hS (lv_cast (lv_sub hl [1, 2, 3, 4, 5, 6, 7, 8, 9, 10, 11, 12, 0] rfl) (rfl))
                                            exact loop366 _ 0 L194 _ _ ls hG hE46 (by decide) (Nat.lt_succ_self _) hW hS (lv_cast (lv_sub hl [3, 4, 5, 6, 2, 1, 7, 8, 9, 10, 11, 12, 0] rfl) (rfl))
                                          · have c45i : ¬ (Int32.toInt ns < Int32.toInt bo) := fun h9 => c45 ((i3_lt _ _).mpr h9)
                                            refine lv_goto (tgt := 392) hx hb dX9_plan_352 (by decide) ?_
                                            refine lv_iinc (v := c6 + 1) (lv' := [(6, .int (c6 + 1)), (0, .ref h), (1, .int a), (2, .int b), (3, .int z), (4, .int bc), (5, .int bo), (7, .int w), (8, .int h8_), (9, .int pe), (10, .int ns), (11, .int gd), (12, .int k)]) hx hb dX9_plan_392 hl (k := 6) rfl rfl (by decide) rfl (fun ls hl => ?_)
                                            have i54 : (c6 + 1).toInt = (c6).toInt + 1 := i3_add rfl rfl (by omega) (by omega)
                                            refine lv_goto (tgt := 133) hx hb dX9_plan_395 (by decide) ?_
                                            exact ih133 bc bo (c6 + 1) L194 _ _ ls hG hE6 (by omega) (by omega) hW hS (lv_cast (lv_sub hl [1, 2, 3, 4, 5, 6, 0] rfl) (rfl))
                                · have c22i : ¬ (Int32.toInt a ≤ Int32.toInt k) := fun h9 => c22 ((i3_le _ _).mpr h9)
                                  refine lv_iload hx hb dX9_plan_200 (lv_at hl 11 rfl) ?_
                                  refine lv_if_eq (tgt := 320) hx hb dX9_plan_202 (by decide) (fun c55 => ?_) (fun c55 => ?_)
                                  · have c55i : Int32.toInt gd = (0 : Int) := (i3_eq _ _).mp c55
                                    refine lv_iload hx hb dX9_plan_320 (lv_at hl 11 rfl) ?_
                                    refine lv_if_eq (tgt := 392) hx hb dX9_plan_322 (by decide) (fun c56 => ?_) (fun c56 => ?_)
                                    · have c56i : Int32.toInt gd = (0 : Int) := (i3_eq _ _).mp c56
                                      refine lv_iinc (v := c6 + 1) (lv' := [(6, .int (c6 + 1)), (0, .ref h), (1, .int a), (2, .int b), (3, .int z), (4, .int bc), (5, .int bo), (7, .int w), (8, .int h8_), (9, .int pe), (10, .int ns), (11, .int gd), (12, .int k)]) hx hb dX9_plan_392 hl (k := 6) rfl rfl (by decide) rfl (fun ls hl => ?_)
                                      have i57 : (c6 + 1).toInt = (c6).toInt + 1 := i3_add rfl rfl (by omega) (by omega)
                                      refine lv_goto (tgt := 133) hx hb dX9_plan_395 (by decide) ?_
                                      exact ih133 bc bo (c6 + 1) L194 _ _ ls hG hE6 (by omega) (by omega) hW hS (lv_cast (lv_sub hl [1, 2, 3, 4, 5, 6, 0] rfl) (rfl))
                                    · have c56i : ¬ (Int32.toInt gd = (0 : Int)) := fun h9 => c56 ((i3_eq _ _).mpr h9)
                                      refine lv_iload hx hb dX9_plan_325 (lv_at hl 4 rfl) ?_
                                      refine lv_iconst (v := (-1)) hx hb dX9_plan_327 (by decide) ?_
                                      refine lv_icmp_eq (tgt := 355) hx hb dX9_plan_328 (by decide) (fun c58 => ?_) (fun c58 => ?_)
                                      · have c58i : Int32.toInt bc = (-1 : Int) := (i3_eq _ _).mp c58
                                        refine lv_iload hx hb dX9_plan_355 (lv_at hl 9 rfl) ?_
                                        refine lv_istore (lv' := [(4, .int pe), (0, .ref h), (1, .int a), (2, .int b), (3, .int z), (5, .int bo), (6, .int c6), (7, .int w), (8, .int h8_), (9, .int pe), (10, .int ns), (11, .int gd), (12, .int k)]) hx hb dX9_plan_357 hl (by decide) rfl (fun ls hl => ?_)
                                        refine lv_iload hx hb dX9_plan_359 (lv_at hl 10 rfl) ?_
                                        refine lv_istore (lv' := [(5, .int ns), (4, .int pe), (0, .ref h), (1, .int a), (2, .int b), (3, .int z), (6, .int c6), (7, .int w), (8, .int h8_), (9, .int pe), (10, .int ns), (11, .int gd), (12, .int k)]) hx hb dX9_plan_361 hl (by decide) rfl (fun ls hl => ?_)
                                        refine lv_iconst (v := 0) hx hb dX9_plan_363 (by decide) ?_
                                        refine lv_istore (lv' := [(12, .int 0), (5, .int ns), (4, .int pe), (0, .ref h), (1, .int a), (2, .int b), (3, .int z), (6, .int c6), (7, .int w), (8, .int h8_), (9, .int pe), (10, .int ns), (11, .int gd)]) hx hb dX9_plan_364 hl (by decide) rfl (fun ls hl => ?_)
                                        have hE59 : Fr [] [960, 1100] L194 L194 := Fr.rf _ _ _
                                        have loop366 : ∀ (zn : Nat) (x : Int32) (L366 : St) (H : Heap) (locs : List Loc) (ls : Array Slot), (G L366) → (Fr [] [960, 1100] L194 L366) → (0 ≤ x.toInt) → (8 - x.toInt).toNat < zn → PW D cy A L366 H → va_S A s.heap H locs → lv_has ls 13 [(0, .ref h), (1, .int a), (2, .int b), (3, .int z), (4, .int pe), (5, .int ns), (6, .int c6), (7, .int w), (8, .int h8_), (9, .int pe), (10, .int ns), (11, .int gd), (12, .int x)] → W p l e ({ frames := 1, cells := 0, slots := 0, locals := 23 } : Room) s m args below meth c H locs 0 0 (MQ below (va_Qi (fun r S1 => G S1 ∧ Fr [] [960, 1100] S S1 ∧ True) (PU D cy A) A) args s 0 0 A) (F0 m 366 ls []) := by
                                          intro zn
                                          induction zn with
                                          | zero => intros; exact absurd (by assumption) (Nat.not_lt_zero _)
                                          | succ zn ih366 =>
                                            intro x L366 H locs ls hG hL366 hx0 hme366 hW hS hl
                                            have hF : Fr [] [960, 1100] S L366 := hF.tr hL366
                                            have hE6 : Fr [] [960, 1100] L30 L366 := hE6.tr hL366
                                            have hE19 : Fr [] [960, 1100] L133 L366 := hE19.tr hL366
                                            have hE21 : Fr [] [960, 1100] L148 L366 := hE21.tr hL366
                                            have hE59 := hL366
                                            refine lv_iload hx hb dX9_plan_366 (lv_at hl 12 rfl) ?_
                                            refine lv_iload_n hx hb dX9_plan_368 rfl (lv_at hl 1 rfl) ?_
                                            refine lv_icmp_ge (tgt := 392) hx hb dX9_plan_369 (by decide) (fun c60 => ?_) (fun c60 => ?_)
                                            · have c60i : Int32.toInt a ≤ Int32.toInt x := (i3_le _ _).mp c60
                                              refine lv_iinc (v := c6 + 1) (lv' := [(6, .int (c6 + 1)), (0, .ref h), (1, .int a), (2, .int b), (3, .int z), (4, .int pe), (5, .int ns), (7, .int w), (8, .int h8_), (9, .int pe), (10, .int ns), (11, .int gd), (12, .int x)]) hx hb dX9_plan_392 hl (k := 6) rfl rfl (by decide) rfl (fun ls hl => ?_)
                                              have i61 : (c6 + 1).toInt = (c6).toInt + 1 := i3_add rfl rfl (by omega) (by omega)
                                              refine lv_goto (tgt := 133) hx hb dX9_plan_395 (by decide) ?_
                                              exact ih133 pe ns (c6 + 1) L366 _ _ ls hG hE6 (by omega) (by omega) hW hS (lv_cast (lv_sub hl [1, 2, 3, 4, 5, 6, 0] rfl) (rfl))
                                            · have c60i : ¬ (Int32.toInt a ≤ Int32.toInt x) := fun h9 => c60 ((i3_le _ _).mpr h9)
                                              refine lv_aload_n hx hb dX9_plan_372 rfl (lv_at hl 0 rfl) ?_
                                              obtain ⟨b62, rb62, kb62, nb62⟩ := hG0.r hk List.not_mem_nil 58 (show rty 9 58 = some (11, 8) from rfl)
                                              refine pg_gr (b := b62) (ci := 9) (C := RX9) (T := TX9) (N := 63) hx hb hts wi9 hown hK hW (hF.k hk (by decide)) (by decide) rfl 58 (by decide) (hts (.fieldLink RX9 127 "IceHallModel" "bestRow" "[I") (by decide +kernel)) (fun _ h9 => h9) rfl (hF.r hk (by decide) rb62) dX9_plan_373 ?_
                                              refine lv_iload hx hb dX9_plan_376 (lv_at hl 12 rfl) ?_
                                              refine lv_aload_n hx hb dX9_plan_378 rfl (lv_at hl 0 rfl) ?_
                                              obtain ⟨b63, rb63, kb63, nb63⟩ := hG0.r hk List.not_mem_nil 57 (show rty 9 57 = some (11, 8) from rfl)
                                              refine pg_gr (b := b63) (ci := 9) (C := RX9) (T := TX9) (N := 63) hx hb hts wi9 hown hK hW (hF.k hk (by decide)) (by decide) rfl 57 (by decide) (hts (.fieldLink RX9 124 "IceHallModel" "row" "[I") (by decide +kernel)) (fun _ h9 => h9) rfl (hF.r hk (by decide) rb63) dX9_plan_379 ?_
                                              refine lv_iload hx hb dX9_plan_382 (lv_at hl 12 rfl) ?_
                                              refine pg_iald hx hb hK hW (hF.k kb63 (by decide)) (by decide) (by rw [show sL L366 b63 = 8 from (hF.n kb63 (by decide) nb63)]; exact r_in (by omega)) dX9_plan_384 ?_
                                              refine pg_iast hx hb hK hW hS (hF.k kb62 (by decide)) (by decide) (by rw [show sL L366 b62 = 8 from (hF.n kb62 (by decide) nb62)]; exact r_in (by omega)) dX9_plan_385 (fun H locs hW hS => ?_)
                                              have kq64 : sK L366 b62 = 11 := (hF.k kb62 (by decide))
                                              obtain ⟨S65, eS65⟩ : ∃ T : St, T = stI L366 b62 (Int32.toNatClampNeg x) (sI L366 b63 (Int32.toNatClampNeg x)) := ⟨_, rfl⟩
                                              rw [← eS65] at hW
                                              have hG : G S65 := by rw [eS65]; exact hG.I kq64 (ok_frA (by decide) (by decide))
                                              have hF : Fr [] [960, 1100] S S65 := by rw [eS65]; exact hF.IA kq64 (by decide) (by decide)
                                              have hE6 : Fr [] [960, 1100] L30 S65 := by rw [eS65]; exact hE6.IA kq64 (by decide) (by decide)
                                              have hE19 : Fr [] [960, 1100] L133 S65 := by rw [eS65]; exact hE19.IA kq64 (by decide) (by decide)
                                              have hE21 : Fr [] [960, 1100] L148 S65 := by rw [eS65]; exact hE21.IA kq64 (by decide) (by decide)
                                              have hE59 : Fr [] [960, 1100] L194 S65 := by rw [eS65]; exact hE59.IA kq64 (by decide) (by decide)
                                              clear eS65
                                              refine lv_iinc (v := x + 1) (lv' := [(12, .int (x + 1)), (0, .ref h), (1, .int a), (2, .int b), (3, .int z), (4, .int pe), (5, .int ns), (6, .int c6), (7, .int w), (8, .int h8_), (9, .int pe), (10, .int ns), (11, .int gd)]) hx hb dX9_plan_386 hl (k := 12) rfl rfl (by decide) rfl (fun ls hl => ?_)
                                              have i66 : (x + 1).toInt = (x).toInt + 1 := i3_add rfl rfl (by omega) (by omega)
                                              refine lv_goto (tgt := 366) hx hb dX9_plan_389 (by decide) ?_
                                              exact ih366 (x + 1) S65 _ _ ls hG hE59 (by omega) (by omega) hW hS (lv_cast (lv_sub hl [1, 2, 3, 4, 5, 6, 7, 8, 9, 10, 11, 12, 0] rfl) (rfl))
                                        exact loop366 _ 0 L194 _ _ ls hG hE59 (by decide) (Nat.lt_succ_self _) hW hS (lv_cast (lv_sub hl [3, 4, 5, 6, 2, 1, 7, 8, 9, 10, 11, 12, 0] rfl) (rfl))
                                      · have c58i : ¬ (Int32.toInt bc = (-1 : Int)) := fun h9 => c58 ((i3_eq _ _).mpr h9)
                                        refine lv_iload hx hb dX9_plan_331 (lv_at hl 9 rfl) ?_
                                        refine lv_iload hx hb dX9_plan_333 (lv_at hl 4 rfl) ?_
                                        refine lv_icmp_gt (tgt := 392) hx hb dX9_plan_335 (by decide) (fun c67 => ?_) (fun c67 => ?_)
                                        · have c67i : Int32.toInt bc < Int32.toInt pe := (i3_lt _ _).mp c67
                                          refine lv_iinc (v := c6 + 1) (lv' := [(6, .int (c6 + 1)), (0, .ref h), (1, .int a), (2, .int b), (3, .int z), (4, .int bc), (5, .int bo), (7, .int w), (8, .int h8_), (9, .int pe), (10, .int ns), (11, .int gd), (12, .int k)]) hx hb dX9_plan_392 hl (k := 6) rfl rfl (by decide) rfl (fun ls hl => ?_)
                                          have i68 : (c6 + 1).toInt = (c6).toInt + 1 := i3_add rfl rfl (by omega) (by omega)
                                          refine lv_goto (tgt := 133) hx hb dX9_plan_395 (by decide) ?_
                                          exact ih133 bc bo (c6 + 1) L194 _ _ ls hG hE6 (by omega) (by omega) hW hS (lv_cast (lv_sub hl [1, 2, 3, 4, 5, 6, 0] rfl) (rfl))
                                        · have c67i : ¬ (Int32.toInt bc < Int32.toInt pe) := fun h9 => c67 ((i3_lt _ _).mpr h9)
                                          refine lv_iload hx hb dX9_plan_338 (lv_at hl 9 rfl) ?_
                                          refine lv_iload hx hb dX9_plan_340 (lv_at hl 4 rfl) ?_
                                          refine lv_icmp_ne (tgt := 355) hx hb dX9_plan_342 (by decide) (fun c69 => ?_) (fun c69 => ?_)
                                          · have c69i : ¬ (Int32.toInt pe = Int32.toInt bc) := fun h9 => c69 ((i3_eq _ _).mpr h9)
                                            refine lv_iload hx hb dX9_plan_355 (lv_at hl 9 rfl) ?_
                                            refine lv_istore (lv' := [(4, .int pe), (0, .ref h), (1, .int a), (2, .int b), (3, .int z), (5, .int bo), (6, .int c6), (7, .int w), (8, .int h8_), (9, .int pe), (10, .int ns), (11, .int gd), (12, .int k)]) hx hb dX9_plan_357 hl (by decide) rfl (fun ls hl => ?_)
                                            refine lv_iload hx hb dX9_plan_359 (lv_at hl 10 rfl) ?_
                                            refine lv_istore (lv' := [(5, .int ns), (4, .int pe), (0, .ref h), (1, .int a), (2, .int b), (3, .int z), (6, .int c6), (7, .int w), (8, .int h8_), (9, .int pe), (10, .int ns), (11, .int gd), (12, .int k)]) hx hb dX9_plan_361 hl (by decide) rfl (fun ls hl => ?_)
                                            refine lv_iconst (v := 0) hx hb dX9_plan_363 (by decide) ?_
                                            refine lv_istore (lv' := [(12, .int 0), (5, .int ns), (4, .int pe), (0, .ref h), (1, .int a), (2, .int b), (3, .int z), (6, .int c6), (7, .int w), (8, .int h8_), (9, .int pe), (10, .int ns), (11, .int gd)]) hx hb dX9_plan_364 hl (by decide) rfl (fun ls hl => ?_)
                                            have hE70 : Fr [] [960, 1100] L194 L194 := Fr.rf _ _ _
                                            have loop366 : ∀ (zn : Nat) (x : Int32) (L366 : St) (H : Heap) (locs : List Loc) (ls : Array Slot), (G L366) → (Fr [] [960, 1100] L194 L366) → (0 ≤ x.toInt) → (8 - x.toInt).toNat < zn → PW D cy A L366 H → va_S A s.heap H locs → lv_has ls 13 [(0, .ref h), (1, .int a), (2, .int b), (3, .int z), (4, .int pe), (5, .int ns), (6, .int c6), (7, .int w), (8, .int h8_), (9, .int pe), (10, .int ns), (11, .int gd), (12, .int x)] → W p l e ({ frames := 1, cells := 0, slots := 0, locals := 23 } : Room) s m args below meth c H locs 0 0 (MQ below (va_Qi (fun r S1 => G S1 ∧ Fr [] [960, 1100] S S1 ∧ True) (PU D cy A) A) args s 0 0 A) (F0 m 366 ls []) := by
                                              intro zn
                                              induction zn with
                                              | zero => intros; exact absurd (by assumption) (Nat.not_lt_zero _)
                                              | succ zn ih366 =>
                                                intro x L366 H locs ls hG hL366 hx0 hme366 hW hS hl
                                                have hF : Fr [] [960, 1100] S L366 := hF.tr hL366
                                                have hE6 : Fr [] [960, 1100] L30 L366 := hE6.tr hL366
                                                have hE19 : Fr [] [960, 1100] L133 L366 := hE19.tr hL366
                                                have hE21 : Fr [] [960, 1100] L148 L366 := hE21.tr hL366
                                                have hE70 := hL366
                                                refine lv_iload hx hb dX9_plan_366 (lv_at hl 12 rfl) ?_
                                                refine lv_iload_n hx hb dX9_plan_368 rfl (lv_at hl 1 rfl) ?_
                                                refine lv_icmp_ge (tgt := 392) hx hb dX9_plan_369 (by decide) (fun c71 => ?_) (fun c71 => ?_)
                                                · have c71i : Int32.toInt a ≤ Int32.toInt x := (i3_le _ _).mp c71
                                                  refine lv_iinc (v := c6 + 1) (lv' := [(6, .int (c6 + 1)), (0, .ref h), (1, .int a), (2, .int b), (3, .int z), (4, .int pe), (5, .int ns), (7, .int w), (8, .int h8_), (9, .int pe), (10, .int ns), (11, .int gd), (12, .int x)]) hx hb dX9_plan_392 hl (k := 6) rfl rfl (by decide) rfl (fun ls hl => ?_)
                                                  have i72 : (c6 + 1).toInt = (c6).toInt + 1 := i3_add rfl rfl (by omega) (by omega)
                                                  refine lv_goto (tgt := 133) hx hb dX9_plan_395 (by decide) ?_
                                                  exact ih133 pe ns (c6 + 1) L366 _ _ ls hG hE6 (by omega) (by omega) hW hS (lv_cast (lv_sub hl [1, 2, 3, 4, 5, 6, 0] rfl) (rfl))
                                                · have c71i : ¬ (Int32.toInt a ≤ Int32.toInt x) := fun h9 => c71 ((i3_le _ _).mpr h9)
                                                  refine lv_aload_n hx hb dX9_plan_372 rfl (lv_at hl 0 rfl) ?_
                                                  obtain ⟨b73, rb73, kb73, nb73⟩ := hG0.r hk List.not_mem_nil 58 (show rty 9 58 = some (11, 8) from rfl)
                                                  refine pg_gr (b := b73) (ci := 9) (C := RX9) (T := TX9) (N := 63) hx hb hts wi9 hown hK hW (hF.k hk (by decide)) (by decide) rfl 58 (by decide) (hts (.fieldLink RX9 127 "IceHallModel" "bestRow" "[I") (by decide +kernel)) (fun _ h9 => h9) rfl (hF.r hk (by decide) rb73) dX9_plan_373 ?_
                                                  refine lv_iload hx hb dX9_plan_376 (lv_at hl 12 rfl) ?_
                                                  refine lv_aload_n hx hb dX9_plan_378 rfl (lv_at hl 0 rfl) ?_
                                                  obtain ⟨b74, rb74, kb74, nb74⟩ := hG0.r hk List.not_mem_nil 57 (show rty 9 57 = some (11, 8) from rfl)
                                                  refine pg_gr (b := b74) (ci := 9) (C := RX9) (T := TX9) (N := 63) hx hb hts wi9 hown hK hW (hF.k hk (by decide)) (by decide) rfl 57 (by decide) (hts (.fieldLink RX9 124 "IceHallModel" "row" "[I") (by decide +kernel)) (fun _ h9 => h9) rfl (hF.r hk (by decide) rb74) dX9_plan_379 ?_
                                                  refine lv_iload hx hb dX9_plan_382 (lv_at hl 12 rfl) ?_
                                                  refine pg_iald hx hb hK hW (hF.k kb74 (by decide)) (by decide) (by rw [show sL L366 b74 = 8 from (hF.n kb74 (by decide) nb74)]; exact r_in (by omega)) dX9_plan_384 ?_
                                                  refine pg_iast hx hb hK hW hS (hF.k kb73 (by decide)) (by decide) (by rw [show sL L366 b73 = 8 from (hF.n kb73 (by decide) nb73)]; exact r_in (by omega)) dX9_plan_385 (fun H locs hW hS => ?_)
                                                  have kq75 : sK L366 b73 = 11 := (hF.k kb73 (by decide))
                                                  obtain ⟨S76, eS76⟩ : ∃ T : St, T = stI L366 b73 (Int32.toNatClampNeg x) (sI L366 b74 (Int32.toNatClampNeg x)) := ⟨_, rfl⟩
                                                  rw [← eS76] at hW
                                                  have hG : G S76 := by rw [eS76]; exact hG.I kq75 (ok_frA (by decide) (by decide))
                                                  have hF : Fr [] [960, 1100] S S76 := by rw [eS76]; exact hF.IA kq75 (by decide) (by decide)
                                                  have hE6 : Fr [] [960, 1100] L30 S76 := by rw [eS76]; exact hE6.IA kq75 (by decide) (by decide)
                                                  have hE19 : Fr [] [960, 1100] L133 S76 := by rw [eS76]; exact hE19.IA kq75 (by decide) (by decide)
                                                  have hE21 : Fr [] [960, 1100] L148 S76 := by rw [eS76]; exact hE21.IA kq75 (by decide) (by decide)
                                                  have hE70 : Fr [] [960, 1100] L194 S76 := by rw [eS76]; exact hE70.IA kq75 (by decide) (by decide)
                                                  clear eS76
                                                  refine lv_iinc (v := x + 1) (lv' := [(12, .int (x + 1)), (0, .ref h), (1, .int a), (2, .int b), (3, .int z), (4, .int pe), (5, .int ns), (6, .int c6), (7, .int w), (8, .int h8_), (9, .int pe), (10, .int ns), (11, .int gd)]) hx hb dX9_plan_386 hl (k := 12) rfl rfl (by decide) rfl (fun ls hl => ?_)
                                                  have i77 : (x + 1).toInt = (x).toInt + 1 := i3_add rfl rfl (by omega) (by omega)
                                                  refine lv_goto (tgt := 366) hx hb dX9_plan_389 (by decide) ?_
                                                  exact ih366 (x + 1) S76 _ _ ls hG hE70 (by omega) (by omega) hW hS (lv_cast (lv_sub hl [1, 2, 3, 4, 5, 6, 7, 8, 9, 10, 11, 12, 0] rfl) (rfl))
                                            exact loop366 _ 0 L194 _ _ ls hG hE70 (by decide) (Nat.lt_succ_self _) hW hS (lv_cast (lv_sub hl [3, 4, 5, 6, 2, 1, 7, 8, 9, 10, 11, 12, 0] rfl) (rfl))
                                          · have c69i : Int32.toInt pe = Int32.toInt bc := (i3_eq _ _).mp c69
                                            refine lv_iload hx hb dX9_plan_345 (lv_at hl 10 rfl) ?_
                                            refine lv_iload hx hb dX9_plan_347 (lv_at hl 5 rfl) ?_
                                            refine lv_icmp_lt (tgt := 355) hx hb dX9_plan_349 (by decide) (fun c78 => ?_) (fun c78 => ?_)
                                            · have c78i : Int32.toInt ns < Int32.toInt bo := (i3_lt _ _).mp c78
                                              refine lv_iload hx hb dX9_plan_355 (lv_at hl 9 rfl) ?_
                                              refine lv_istore (lv' := [(4, .int pe), (0, .ref h), (1, .int a), (2, .int b), (3, .int z), (5, .int bo), (6, .int c6), (7, .int w), (8, .int h8_), (9, .int pe), (10, .int ns), (11, .int gd), (12, .int k)]) hx hb dX9_plan_357 hl (by decide) rfl (fun ls hl => ?_)
                                              refine lv_iload hx hb dX9_plan_359 (lv_at hl 10 rfl) ?_
                                              refine lv_istore (lv' := [(5, .int ns), (4, .int pe), (0, .ref h), (1, .int a), (2, .int b), (3, .int z), (6, .int c6), (7, .int w), (8, .int h8_), (9, .int pe), (10, .int ns), (11, .int gd), (12, .int k)]) hx hb dX9_plan_361 hl (by decide) rfl (fun ls hl => ?_)
                                              refine lv_iconst (v := 0) hx hb dX9_plan_363 (by decide) ?_
                                              refine lv_istore (lv' := [(12, .int 0), (5, .int ns), (4, .int pe), (0, .ref h), (1, .int a), (2, .int b), (3, .int z), (6, .int c6), (7, .int w), (8, .int h8_), (9, .int pe), (10, .int ns), (11, .int gd)]) hx hb dX9_plan_364 hl (by decide) rfl (fun ls hl => ?_)
                                              have hE79 : Fr [] [960, 1100] L194 L194 := Fr.rf _ _ _
                                              have loop366 : ∀ (zn : Nat) (x : Int32) (L366 : St) (H : Heap) (locs : List Loc) (ls : Array Slot), (G L366) → (Fr [] [960, 1100] L194 L366) → (0 ≤ x.toInt) → (8 - x.toInt).toNat < zn → PW D cy A L366 H → va_S A s.heap H locs → lv_has ls 13 [(0, .ref h), (1, .int a), (2, .int b), (3, .int z), (4, .int pe), (5, .int ns), (6, .int c6), (7, .int w), (8, .int h8_), (9, .int pe), (10, .int ns), (11, .int gd), (12, .int x)] → W p l e ({ frames := 1, cells := 0, slots := 0, locals := 23 } : Room) s m args below meth c H locs 0 0 (MQ below (va_Qi (fun r S1 => G S1 ∧ Fr [] [960, 1100] S S1 ∧ True) (PU D cy A) A) args s 0 0 A) (F0 m 366 ls []) := by
                                                intro zn
                                                induction zn with
                                                | zero => intros; exact absurd (by assumption) (Nat.not_lt_zero _)
                                                | succ zn ih366 =>
                                                  intro x L366 H locs ls hG hL366 hx0 hme366 hW hS hl
                                                  have hF : Fr [] [960, 1100] S L366 := hF.tr hL366
                                                  have hE6 : Fr [] [960, 1100] L30 L366 := hE6.tr hL366
                                                  have hE19 : Fr [] [960, 1100] L133 L366 := hE19.tr hL366
                                                  have hE21 : Fr [] [960, 1100] L148 L366 := hE21.tr hL366
                                                  have hE79 := hL366
                                                  refine lv_iload hx hb dX9_plan_366 (lv_at hl 12 rfl) ?_
                                                  refine lv_iload_n hx hb dX9_plan_368 rfl (lv_at hl 1 rfl) ?_
                                                  refine lv_icmp_ge (tgt := 392) hx hb dX9_plan_369 (by decide) (fun c80 => ?_) (fun c80 => ?_)
                                                  · have c80i : Int32.toInt a ≤ Int32.toInt x := (i3_le _ _).mp c80
                                                    refine lv_iinc (v := c6 + 1) (lv' := [(6, .int (c6 + 1)), (0, .ref h), (1, .int a), (2, .int b), (3, .int z), (4, .int pe), (5, .int ns), (7, .int w), (8, .int h8_), (9, .int pe), (10, .int ns), (11, .int gd), (12, .int x)]) hx hb dX9_plan_392 hl (k := 6) rfl rfl (by decide) rfl (fun ls hl => ?_)
                                                    have i81 : (c6 + 1).toInt = (c6).toInt + 1 := i3_add rfl rfl (by omega) (by omega)
                                                    refine lv_goto (tgt := 133) hx hb dX9_plan_395 (by decide) ?_
                                                    exact ih133 pe ns (c6 + 1) L366 _ _ ls hG hE6 (by omega) (by omega) hW hS (lv_cast (lv_sub hl [1, 2, 3, 4, 5, 6, 0] rfl) (rfl))
                                                  · have c80i : ¬ (Int32.toInt a ≤ Int32.toInt x) := fun h9 => c80 ((i3_le _ _).mpr h9)
                                                    refine lv_aload_n hx hb dX9_plan_372 rfl (lv_at hl 0 rfl) ?_
                                                    obtain ⟨b82, rb82, kb82, nb82⟩ := hG0.r hk List.not_mem_nil 58 (show rty 9 58 = some (11, 8) from rfl)
                                                    refine pg_gr (b := b82) (ci := 9) (C := RX9) (T := TX9) (N := 63) hx hb hts wi9 hown hK hW (hF.k hk (by decide)) (by decide) rfl 58 (by decide) (hts (.fieldLink RX9 127 "IceHallModel" "bestRow" "[I") (by decide +kernel)) (fun _ h9 => h9) rfl (hF.r hk (by decide) rb82) dX9_plan_373 ?_
                                                    refine lv_iload hx hb dX9_plan_376 (lv_at hl 12 rfl) ?_
                                                    refine lv_aload_n hx hb dX9_plan_378 rfl (lv_at hl 0 rfl) ?_
                                                    obtain ⟨b83, rb83, kb83, nb83⟩ := hG0.r hk List.not_mem_nil 57 (show rty 9 57 = some (11, 8) from rfl)
                                                    refine pg_gr (b := b83) (ci := 9) (C := RX9) (T := TX9) (N := 63) hx hb hts wi9 hown hK hW (hF.k hk (by decide)) (by decide) rfl 57 (by decide) (hts (.fieldLink RX9 124 "IceHallModel" "row" "[I") (by decide +kernel)) (fun _ h9 => h9) rfl (hF.r hk (by decide) rb83) dX9_plan_379 ?_
                                                    refine lv_iload hx hb dX9_plan_382 (lv_at hl 12 rfl) ?_
                                                    refine pg_iald hx hb hK hW (hF.k kb83 (by decide)) (by decide) (by rw [show sL L366 b83 = 8 from (hF.n kb83 (by decide) nb83)]; exact r_in (by omega)) dX9_plan_384 ?_
                                                    refine pg_iast hx hb hK hW hS (hF.k kb82 (by decide)) (by decide) (by rw [show sL L366 b82 = 8 from (hF.n kb82 (by decide) nb82)]; exact r_in (by omega)) dX9_plan_385 (fun H locs hW hS => ?_)
                                                    have kq84 : sK L366 b82 = 11 := (hF.k kb82 (by decide))
                                                    obtain ⟨S85, eS85⟩ : ∃ T : St, T = stI L366 b82 (Int32.toNatClampNeg x) (sI L366 b83 (Int32.toNatClampNeg x)) := ⟨_, rfl⟩
                                                    rw [← eS85] at hW
                                                    have hG : G S85 := by rw [eS85]; exact hG.I kq84 (ok_frA (by decide) (by decide))
                                                    have hF : Fr [] [960, 1100] S S85 := by rw [eS85]; exact hF.IA kq84 (by decide) (by decide)
                                                    have hE6 : Fr [] [960, 1100] L30 S85 := by rw [eS85]; exact hE6.IA kq84 (by decide) (by decide)
                                                    have hE19 : Fr [] [960, 1100] L133 S85 := by rw [eS85]; exact hE19.IA kq84 (by decide) (by decide)
                                                    have hE21 : Fr [] [960, 1100] L148 S85 := by rw [eS85]; exact hE21.IA kq84 (by decide) (by decide)
                                                    have hE79 : Fr [] [960, 1100] L194 S85 := by rw [eS85]; exact hE79.IA kq84 (by decide) (by decide)
                                                    clear eS85
                                                    refine lv_iinc (v := x + 1) (lv' := [(12, .int (x + 1)), (0, .ref h), (1, .int a), (2, .int b), (3, .int z), (4, .int pe), (5, .int ns), (6, .int c6), (7, .int w), (8, .int h8_), (9, .int pe), (10, .int ns), (11, .int gd)]) hx hb dX9_plan_386 hl (k := 12) rfl rfl (by decide) rfl (fun ls hl => ?_)
                                                    have i86 : (x + 1).toInt = (x).toInt + 1 := i3_add rfl rfl (by omega) (by omega)
                                                    refine lv_goto (tgt := 366) hx hb dX9_plan_389 (by decide) ?_
                                                    exact ih366 (x + 1) S85 _ _ ls hG hE79 (by omega) (by omega) hW hS (lv_cast (lv_sub hl [1, 2, 3, 4, 5, 6, 7, 8, 9, 10, 11, 12, 0] rfl) (rfl))
                                              exact loop366 _ 0 L194 _ _ ls hG hE79 (by decide) (Nat.lt_succ_self _) hW hS (lv_cast (lv_sub hl [3, 4, 5, 6, 2, 1, 7, 8, 9, 10, 11, 12, 0] rfl) (rfl))
                                            · have c78i : ¬ (Int32.toInt ns < Int32.toInt bo) := fun h9 => c78 ((i3_lt _ _).mpr h9)
                                              refine lv_goto (tgt := 392) hx hb dX9_plan_352 (by decide) ?_
                                              refine lv_iinc (v := c6 + 1) (lv' := [(6, .int (c6 + 1)), (0, .ref h), (1, .int a), (2, .int b), (3, .int z), (4, .int bc), (5, .int bo), (7, .int w), (8, .int h8_), (9, .int pe), (10, .int ns), (11, .int gd), (12, .int k)]) hx hb dX9_plan_392 hl (k := 6) rfl rfl (by decide) rfl (fun ls hl => ?_)
                                              have i87 : (c6 + 1).toInt = (c6).toInt + 1 := i3_add rfl rfl (by omega) (by omega)
                                              refine lv_goto (tgt := 133) hx hb dX9_plan_395 (by decide) ?_
                                              exact ih133 bc bo (c6 + 1) L194 _ _ ls hG hE6 (by omega) (by omega) hW hS (lv_cast (lv_sub hl [1, 2, 3, 4, 5, 6, 0] rfl) (rfl))
                                  · have c55i : ¬ (Int32.toInt gd = (0 : Int)) := fun h9 => c55 ((i3_eq _ _).mpr h9)
                                    refine lv_iload hx hb dX9_plan_205 (lv_at hl 8 rfl) ?_
                                    refine lv_bipush (v := 20) hx hb dX9_plan_207 (by decide) ?_
                                    refine lv_aload_n hx hb dX9_plan_209 rfl (lv_at hl 0 rfl) ?_
                                    obtain ⟨b88, rb88, kb88, nb88⟩ := hG0.r hk List.not_mem_nil 57 (show rty 9 57 = some (11, 8) from rfl)
                                    refine pg_gr (b := b88) (ci := 9) (C := RX9) (T := TX9) (N := 63) hx hb hts wi9 hown hK hW (hF.k hk (by decide)) (by decide) rfl 57 (by decide) (hts (.fieldLink RX9 124 "IceHallModel" "row" "[I") (by decide +kernel)) (fun _ h9 => h9) rfl (hF.r hk (by decide) rb88) dX9_plan_210 ?_
                                    refine lv_iload hx hb dX9_plan_213 (lv_at hl 12 rfl) ?_
                                    refine pg_iald hx hb hK hW (hF.k kb88 (by decide)) (by decide) (by rw [show sL L194 b88 = 8 from (hF.n kb88 (by decide) nb88)]; exact r_in (by omega)) dX9_plan_215 ?_
                                    refine lv_imul hx hb dX9_plan_216 ?_
                                    refine lv_iadd hx hb dX9_plan_217 ?_
                                    refine lv_istore (lv' := [(8, .int (h8_ + (20 * (sI L194 b88 (Int32.toNatClampNeg k))))), (0, .ref h), (1, .int a), (2, .int b), (3, .int z), (4, .int bc), (5, .int bo), (6, .int c6), (7, .int w), (9, .int pe), (10, .int ns), (11, .int gd), (12, .int k)]) hx hb dX9_plan_218 hl (by decide) rfl (fun ls hl => ?_)
                                    refine lv_iload hx hb dX9_plan_220 (lv_at hl 9 rfl) ?_
                                    refine lv_aload_n hx hb dX9_plan_222 rfl (lv_at hl 1 rfl) ?_
                                    refine pg_gr (b := b88) (ci := 9) (C := RX9) (T := TX9) (N := 63) hx hb hts wi9 hown hK hW (hF.k hk (by decide)) (by decide) rfl 57 (by decide) (hts (.fieldLink RX9 124 "IceHallModel" "row" "[I") (by decide +kernel)) (fun _ h9 => h9) rfl (hF.r hk (by decide) rb88) dX9_plan_223 ?_
                                    refine lv_iload hx hb dX9_plan_226 (lv_at hl 12 rfl) ?_
                                    refine pg_iald hx hb hK hW (hF.k kb88 (by decide)) (by decide) (by rw [show sL L194 b88 = 8 from (hF.n kb88 (by decide) nb88)]; exact r_in (by omega)) dX9_plan_228 ?_
                                    refine lv_aload_n hx hb dX9_plan_229 rfl (lv_at hl 1 rfl) ?_
                                    obtain ⟨b89, rb89, kb89, nb89⟩ := hG0.r hk List.not_mem_nil 26 (show rty 9 26 = some (11, 24) from rfl)
                                    refine pg_gr (b := b89) (ci := 9) (C := RX9) (T := TX9) (N := 63) hx hb hts wi9 hown hK hW (hF.k hk (by decide)) (by decide) rfl 26 (by decide) (hts (.fieldLink RX9 45 "IceHallModel" "priceOf" "[I") (by decide +kernel)) (fun _ h9 => h9) rfl (hF.r hk (by decide) rb89) dX9_plan_230 ?_
                                    refine lv_aload_n hx hb dX9_plan_233 rfl (lv_at hl 1 rfl) ?_
                                    refine pg_gi (ci := 9) (C := RX9) (T := TX9) (N := 63) hx hb hts wi9 hown hK hW (hF.k hk (by decide)) (by decide) rfl 18 (by decide) (hts (.fieldLink RX9 219 "IceHallModel" "now" "I") (by decide +kernel)) (fun _ h9 => h9) rfl dX9_plan_234 ?_
                                    have g90 : (0 : Int) ≤ (sI L194 h 18).toInt ∧ (sI L194 h 18).toInt ≤ 990 := hG.i (hF.k hk (by decide)) (by decide) 18 (by decide)
                                    refine lv_iload hx hb dX9_plan_237 (lv_at hl 12 rfl) ?_
                                    refine lv_iadd hx hb dX9_plan_239 ?_
                                    have l91 : ((sI L194 h 18) + k).toInt = Int32.toInt (sI L194 h 18) + Int32.toInt k := i3_add rfl rfl (by omega) (by omega)
                                    refine lv_bipush (v := 24) hx hb dX9_plan_240 (by decide) ?_
                                    refine lv_irem hx hb dX9_plan_242 (by decide) ?_
                                    have hr24 := rem24 (x := (sI L194 h 18) + k) (by omega)
                                    refine pg_iald hx hb hK hW (hF.k kb89 (by decide)) (by decide) (by rw [show sL L194 b89 = 24 from (hF.n kb89 (by decide) nb89)]; exact r_in (by omega)) dX9_plan_243 ?_
                                    refine lv_imul hx hb dX9_plan_244 ?_
                                    refine lv_iadd hx hb dX9_plan_245 ?_
                                    refine lv_istore (lv' := [(9, .int (pe + ((sI L194 b88 (Int32.toNatClampNeg k)) * (sI L194 b89 (Int32.toNatClampNeg (((sI L194 h 18) + k) - ((sI L194 h 18) + k) / 24 * 24)))))), (8, .int (h8_ + (20 * (sI L194 b88 (Int32.toNatClampNeg k))))), (0, .ref h), (1, .int a), (2, .int b), (3, .int z), (4, .int bc), (5, .int bo), (6, .int c6), (7, .int w), (10, .int ns), (11, .int gd), (12, .int k)]) hx hb dX9_plan_246 hl (by decide) rfl (fun ls hl => ?_)
                                    refine lv_iload hx hb dX9_plan_248 (lv_at hl 10 rfl) ?_
                                    refine lv_aload_n hx hb dX9_plan_250 rfl (lv_at hl 2 rfl) ?_
                                    refine pg_gr (b := b88) (ci := 9) (C := RX9) (T := TX9) (N := 63) hx hb hts wi9 hown hK hW (hF.k hk (by decide)) (by decide) rfl 57 (by decide) (hts (.fieldLink RX9 124 "IceHallModel" "row" "[I") (by decide +kernel)) (fun _ h9 => h9) rfl (hF.r hk (by decide) rb88) dX9_plan_251 ?_
                                    refine lv_iload hx hb dX9_plan_254 (lv_at hl 12 rfl) ?_
                                    refine pg_iald hx hb hK hW (hF.k kb88 (by decide)) (by decide) (by rw [show sL L194 b88 = 8 from (hF.n kb88 (by decide) nb88)]; exact r_in (by omega)) dX9_plan_256 ?_
                                    refine lv_iadd hx hb dX9_plan_257 ?_
                                    refine lv_istore (lv' := [(10, .int (ns + (sI L194 b88 (Int32.toNatClampNeg k)))), (9, .int (pe + ((sI L194 b88 (Int32.toNatClampNeg k)) * (sI L194 b89 (Int32.toNatClampNeg (((sI L194 h 18) + k) - ((sI L194 h 18) + k) / 24 * 24)))))), (8, .int (h8_ + (20 * (sI L194 b88 (Int32.toNatClampNeg k))))), (0, .ref h), (1, .int a), (2, .int b), (3, .int z), (4, .int bc), (5, .int bo), (6, .int c6), (7, .int w), (11, .int gd), (12, .int k)]) hx hb dX9_plan_258 hl (by decide) rfl (fun ls hl => ?_)
                                    have join300 : ∀ (v300 : Int32) (H : Heap) (locs : List Loc), PW D cy A L194 H → va_S A s.heap H locs → W p l e ({ frames := 1, cells := 0, slots := 0, locals := 23 } : Room) s m args below meth c H locs 0 0 (MQ below (va_Qi (fun r S1 => G S1 ∧ Fr [] [960, 1100] S S1 ∧ True) (PU D cy A) A) args s 0 0 A) (F0 m 300 ls [.int v300]) := by
                                      intro v300 H locs hW hS
                                      refine lv_istore (lv' := [(11, .int v300), (10, .int (ns + (sI L194 b88 (Int32.toNatClampNeg k)))), (9, .int (pe + ((sI L194 b88 (Int32.toNatClampNeg k)) * (sI L194 b89 (Int32.toNatClampNeg (((sI L194 h 18) + k) - ((sI L194 h 18) + k) / 24 * 24)))))), (8, .int (h8_ + (20 * (sI L194 b88 (Int32.toNatClampNeg k))))), (0, .ref h), (1, .int a), (2, .int b), (3, .int z), (4, .int bc), (5, .int bo), (6, .int c6), (7, .int w), (12, .int k)]) hx hb dX9_plan_300 hl (by decide) rfl (fun ls hl => ?_)
                                      refine lv_iload hx hb dX9_plan_302 (lv_at hl 3 rfl) ?_
                                      refine lv_aload_n hx hb dX9_plan_304 rfl (lv_at hl 4 rfl) ?_
                                      obtain ⟨b92, rb92, kb92, nb92⟩ := hG0.r hk List.not_mem_nil 56 (show rty 9 56 = some (11, 8) from rfl)
                                      refine pg_gr (b := b92) (ci := 9) (C := RX9) (T := TX9) (N := 63) hx hb hts wi9 hown hK hW (hF.k hk (by decide)) (by decide) rfl 56 (by decide) (hts (.fieldLink RX9 121 "IceHallModel" "wants" "[I") (by decide +kernel)) (fun _ h9 => h9) rfl (hF.r hk (by decide) rb92) dX9_plan_305 ?_
                                      refine lv_iload hx hb dX9_plan_308 (lv_at hl 12 rfl) ?_
                                      refine pg_iald hx hb hK hW (hF.k kb92 (by decide)) (by decide) (by rw [show sL L194 b92 = 8 from (hF.n kb92 (by decide) nb92)]; exact r_in (by omega)) dX9_plan_310 ?_
                                      refine lv_isub hx hb dX9_plan_311 ?_
                                      refine lv_istore (lv' := [(8, .int ((h8_ + (20 * (sI L194 b88 (Int32.toNatClampNeg k)))) - (sI L194 b92 (Int32.toNatClampNeg k)))), (11, .int v300), (10, .int (ns + (sI L194 b88 (Int32.toNatClampNeg k)))), (9, .int (pe + ((sI L194 b88 (Int32.toNatClampNeg k)) * (sI L194 b89 (Int32.toNatClampNeg (((sI L194 h 18) + k) - ((sI L194 h 18) + k) / 24 * 24)))))), (0, .ref h), (1, .int a), (2, .int b), (3, .int z), (4, .int bc), (5, .int bo), (6, .int c6), (7, .int w), (12, .int k)]) hx hb dX9_plan_312 hl (by decide) rfl (fun ls hl => ?_)
                                      refine lv_iinc (v := k + 1) (lv' := [(12, .int (k + 1)), (8, .int ((h8_ + (20 * (sI L194 b88 (Int32.toNatClampNeg k)))) - (sI L194 b92 (Int32.toNatClampNeg k)))), (11, .int v300), (10, .int (ns + (sI L194 b88 (Int32.toNatClampNeg k)))), (9, .int (pe + ((sI L194 b88 (Int32.toNatClampNeg k)) * (sI L194 b89 (Int32.toNatClampNeg (((sI L194 h 18) + k) - ((sI L194 h 18) + k) / 24 * 24)))))), (0, .ref h), (1, .int a), (2, .int b), (3, .int z), (4, .int bc), (5, .int bo), (6, .int c6), (7, .int w)]) hx hb dX9_plan_314 hl (k := 12) rfl rfl (by decide) rfl (fun ls hl => ?_)
                                      have i93 : (k + 1).toInt = (k).toInt + 1 := i3_add rfl rfl (by omega) (by omega)
                                      refine lv_goto (tgt := 194) hx hb dX9_plan_317 (by decide) ?_
                                      exact ih194 ((h8_ + (20 * (sI L194 b88 (Int32.toNatClampNeg k)))) - (sI L194 b92 (Int32.toNatClampNeg k))) (pe + ((sI L194 b88 (Int32.toNatClampNeg k)) * (sI L194 b89 (Int32.toNatClampNeg (((sI L194 h 18) + k) - ((sI L194 h 18) + k) / 24 * 24))))) (ns + (sI L194 b88 (Int32.toNatClampNeg k))) v300 (k + 1) L194 _ _ ls hG hE21 (by omega) (by omega) hW hS (lv_cast (lv_sub hl [5, 6, 7, 8, 9, 10, 11, 12, 1, 4, 3, 2, 0] rfl) (rfl))
                                    refine lv_aload_n hx hb dX9_plan_260 rfl (lv_at hl 3 rfl) ?_
                                    refine pg_gr (b := b88) (ci := 9) (C := RX9) (T := TX9) (N := 63) hx hb hts wi9 hown hK hW (hF.k hk (by decide)) (by decide) rfl 57 (by decide) (hts (.fieldLink RX9 124 "IceHallModel" "row" "[I") (by decide +kernel)) (fun _ h9 => h9) rfl (hF.r hk (by decide) rb88) dX9_plan_261 ?_
                                    refine lv_iload hx hb dX9_plan_264 (lv_at hl 12 rfl) ?_
                                    refine pg_iald hx hb hK hW (hF.k kb88 (by decide)) (by decide) (by rw [show sL L194 b88 = 8 from (hF.n kb88 (by decide) nb88)]; exact r_in (by omega)) dX9_plan_266 ?_
                                    refine lv_aload_n hx hb dX9_plan_267 rfl (lv_at hl 3 rfl) ?_
                                    refine pg_gi (ci := 9) (C := RX9) (T := TX9) (N := 63) hx hb hts wi9 hown hK hW (hF.k hk (by decide)) (by decide) rfl 24 (by decide) (hts (.fieldLink RX9 39 "IceHallModel" "working" "I") (by decide +kernel)) (fun _ h9 => h9) rfl dX9_plan_268 ?_
                                    have g94 : (0 : Int) ≤ (sI L194 h 24).toInt ∧ (sI L194 h 24).toInt ≤ 3 := hG.i (hF.k hk (by decide)) (by decide) 24 (by decide)
                                    refine lv_icmp_gt (tgt := 299) hx hb dX9_plan_271 (by decide) (fun c95 => ?_) (fun c95 => ?_)
                                    · have c95i : Int32.toInt (sI L194 h 24) < Int32.toInt (sI L194 b88 (Int32.toNatClampNeg k)) := (i3_lt _ _).mp c95
                                      refine lv_iconst (v := 0) hx hb dX9_plan_299 (by decide) ?_
                                      exact join300 0 _ _  hW hS
                                    · have c95i : ¬ (Int32.toInt (sI L194 h 24) < Int32.toInt (sI L194 b88 (Int32.toNatClampNeg k))) := fun h9 => c95 ((i3_lt _ _).mpr h9)
                                      refine lv_iload hx hb dX9_plan_274 (lv_at hl 2 rfl) ?_
                                      refine lv_aload_n hx hb dX9_plan_276 rfl (lv_at hl 3 rfl) ?_
                                      refine pg_gi (ci := 9) (C := RX9) (T := TX9) (N := 63) hx hb hts wi9 hown hK hW (hF.k hk (by decide)) (by decide) rfl 23 (by decide) (hts (.fieldLink RX9 36 "IceHallModel" "mostOf" "I") (by decide +kernel)) (fun _ h9 => h9) rfl dX9_plan_277 ?_
                                      refine lv_icmp_gt (tgt := 299) hx hb dX9_plan_280 (by decide) (fun c96 => ?_) (fun c96 => ?_)
                                      · have c96i : Int32.toInt (sI L194 h 23) < Int32.toInt (h8_ + (20 * (sI L194 b88 (Int32.toNatClampNeg k)))) := (i3_lt _ _).mp c96
                                        refine lv_iconst (v := 0) hx hb dX9_plan_299 (by decide) ?_
                                        exact join300 0 _ _  hW hS
                                      · have c96i : ¬ (Int32.toInt (sI L194 h 23) < Int32.toInt (h8_ + (20 * (sI L194 b88 (Int32.toNatClampNeg k))))) := fun h9 => c96 ((i3_lt _ _).mpr h9)
                                        refine lv_iload hx hb dX9_plan_283 (lv_at hl 2 rfl) ?_
                                        refine lv_aload_n hx hb dX9_plan_285 rfl (lv_at hl 3 rfl) ?_
                                        obtain ⟨b97, rb97, kb97, nb97⟩ := hG0.r hk List.not_mem_nil 56 (show rty 9 56 = some (11, 8) from rfl)
                                        refine pg_gr (b := b97) (ci := 9) (C := RX9) (T := TX9) (N := 63) hx hb hts wi9 hown hK hW (hF.k hk (by decide)) (by decide) rfl 56 (by decide) (hts (.fieldLink RX9 121 "IceHallModel" "wants" "[I") (by decide +kernel)) (fun _ h9 => h9) rfl (hF.r hk (by decide) rb97) dX9_plan_286 ?_
                                        refine lv_iload hx hb dX9_plan_289 (lv_at hl 12 rfl) ?_
                                        refine pg_iald hx hb hK hW (hF.k kb97 (by decide)) (by decide) (by rw [show sL L194 b97 = 8 from (hF.n kb97 (by decide) nb97)]; exact r_in (by omega)) dX9_plan_291 ?_
                                        refine lv_icmp_lt (tgt := 299) hx hb dX9_plan_292 (by decide) (fun c98 => ?_) (fun c98 => ?_)
                                        · have c98i : Int32.toInt (h8_ + (20 * (sI L194 b88 (Int32.toNatClampNeg k)))) < Int32.toInt (sI L194 b97 (Int32.toNatClampNeg k)) := (i3_lt _ _).mp c98
                                          refine lv_iconst (v := 0) hx hb dX9_plan_299 (by decide) ?_
                                          exact join300 0 _ _  hW hS
                                        · have c98i : ¬ (Int32.toInt (h8_ + (20 * (sI L194 b88 (Int32.toNatClampNeg k)))) < Int32.toInt (sI L194 b97 (Int32.toNatClampNeg k))) := fun h9 => c98 ((i3_lt _ _).mpr h9)
                                          refine lv_iconst (v := 1) hx hb dX9_plan_295 (by decide) ?_
                                          refine lv_goto (tgt := 300) hx hb dX9_plan_296 (by decide) ?_
                                          exact join300 1 _ _  hW hS
                            exact loop194 _ (sI L148 h 19) 0 0 1 0 L148 _ _ ls hG hE21 (by decide) (Nat.lt_succ_self _) hW hS (lv_cast (lv_sub hl [5, 6, 7, 8, 9, 10, 11, 12, 4, 3, 2, 1, 0] rfl) (rfl))
                          · have c20i : ¬ (Int32.toInt u < (0 : Int)) := fun h9 => c20 ((i3_lt _ _).mpr h9)
                            refine lv_aload_n hx hb dX9_plan_153 rfl (lv_at hl 0 rfl) ?_
                            obtain ⟨b99, rb99, kb99, nb99⟩ := hG0.r hk List.not_mem_nil 57 (show rty 9 57 = some (11, 8) from rfl)
                            refine pg_gr (b := b99) (ci := 9) (C := RX9) (T := TX9) (N := 63) hx hb hts wi9 hown hK hW (hF.k hk (by decide)) (by decide) rfl 57 (by decide) (hts (.fieldLink RX9 124 "IceHallModel" "row" "[I") (by decide +kernel)) (fun _ h9 => h9) rfl (hF.r hk (by decide) rb99) dX9_plan_154 ?_
                            refine lv_iload hx hb dX9_plan_157 (lv_at hl 8 rfl) ?_
                            refine lv_iload hx hb dX9_plan_159 (lv_at hl 7 rfl) ?_
                            refine lv_iconst (v := 4) hx hb dX9_plan_161 (by decide) ?_
                            refine lv_irem hx hb dX9_plan_162 (by decide) ?_
                            refine pg_iast hx hb hK hW hS (hF.k kb99 (by decide)) (by decide) (by rw [show sL L148 b99 = 8 from (hF.n kb99 (by decide) nb99)]; exact r_in (by omega)) dX9_plan_163 (fun H locs hW hS => ?_)
                            have kq100 : sK L148 b99 = 11 := (hF.k kb99 (by decide))
                            obtain ⟨S101, eS101⟩ : ∃ T : St, T = stI L148 b99 (Int32.toNatClampNeg u) (w - w / 4 * 4) := ⟨_, rfl⟩
                            rw [← eS101] at hW
                            have hG : G S101 := by rw [eS101]; exact hG.I kq100 (ok_frA (by decide) (by decide))
                            have hF : Fr [] [960, 1100] S S101 := by rw [eS101]; exact hF.IA kq100 (by decide) (by decide)
                            have hE6 : Fr [] [960, 1100] L30 S101 := by rw [eS101]; exact hE6.IA kq100 (by decide) (by decide)
                            have hE19 : Fr [] [960, 1100] L133 S101 := by rw [eS101]; exact hE19.IA kq100 (by decide) (by decide)
                            clear eS101
                            refine lv_iload hx hb dX9_plan_164 (lv_at hl 7 rfl) ?_
                            refine lv_iconst (v := 4) hx hb dX9_plan_166 (by decide) ?_
                            refine lv_idiv hx hb dX9_plan_167 (by decide) ?_
                            refine lv_istore (lv' := [(7, .int (w / 4)), (0, .ref h), (1, .int a), (2, .int b), (3, .int z), (4, .int bc), (5, .int bo), (6, .int c6), (8, .int u)]) hx hb dX9_plan_168 hl (by decide) rfl (fun ls hl => ?_)
                            refine lv_iinc (v := u + (-1)) (lv' := [(8, .int (u + (-1))), (7, .int (w / 4)), (0, .ref h), (1, .int a), (2, .int b), (3, .int z), (4, .int bc), (5, .int bo), (6, .int c6)]) hx hb dX9_plan_170 hl (k := 8) rfl rfl (by decide) rfl (fun ls hl => ?_)
                            have i102 : (u + (-1)).toInt = (u).toInt - 1 := i3_dec (by omega)
                            refine lv_goto (tgt := 148) hx hb dX9_plan_173 (by decide) ?_
                            exact ih148 (w / 4) (u + (-1)) S101 _ _ ls hG hE19 (bk_lt i102 hu5) (bk_dn i102 (by assumption) hme148) hW hS (lv_cast (lv_sub hl [2, 3, 4, 5, 6, 7, 8, 1, 0] rfl) (rfl))
                      exact loop148 _ c6 (a - 1) L133 _ _ ls hG hE19 (by omega) (Nat.lt_succ_self _) hW hS (lv_cast (lv_sub hl [2, 3, 4, 5, 6, 7, 8, 1, 0] rfl) (rfl))
                exact loop133 _ ((-1)) 0 0 L30 _ _ ls hG hE6 (by decide) (Nat.lt_succ_self _) hW hS (lv_cast (lv_sub hl [3, 4, 5, 6, 2, 1, 0] rfl) (rfl))
              · have c5i : ¬ (Int32.toInt a ≤ Int32.toInt y) := fun h9 => c5 ((i3_le _ _).mpr h9)
                refine lv_iconst (v := 4) hx hb dX9_plan_36 (by decide) ?_
                refine lv_iload_n hx hb dX9_plan_37 rfl (lv_at hl 3 rfl) ?_
                refine lv_imul hx hb dX9_plan_38 ?_
                refine lv_istore_n (lv' := [(3, .int (4 * z)), (0, .ref h), (1, .int a), (2, .int b), (4, .int y)]) hx hb dX9_plan_39 rfl hl (by decide) rfl (fun ls hl => ?_)
                refine lv_aload_n hx hb dX9_plan_40 rfl (lv_at hl 1 rfl) ?_
                obtain ⟨b103, rb103, kb103, nb103⟩ := hG0.r hk List.not_mem_nil 56 (show rty 9 56 = some (11, 8) from rfl)
                refine pg_gr (b := b103) (ci := 9) (C := RX9) (T := TX9) (N := 63) hx hb hts wi9 hown hK hW (hF.k hk (by decide)) (by decide) rfl 56 (by decide) (hts (.fieldLink RX9 121 "IceHallModel" "wants" "[I") (by decide +kernel)) (fun _ h9 => h9) rfl (hF.r hk (by decide) rb103) dX9_plan_41 ?_
                refine lv_iload hx hb dX9_plan_44 (lv_at hl 4 rfl) ?_
                refine lv_iconst (v := 2) hx hb dX9_plan_46 (by decide) ?_
                refine lv_iload_n hx hb dX9_plan_47 rfl (lv_at hl 3 rfl) ?_
                refine pc_Si (As := [.int b]) (rest := [.int 2, .int y, .ref b103]) F (b_X9_halfOf l D cy A L30 b ) (va_cwS 1 hts gX9_plan_X9_halfOf rfl rfl rfl (by decide +kernel) ⟨Nat.le_of_ble_eq_true rfl, Nat.le_of_ble_eq_true rfl⟩) hK hZ hA hW hS rfl hl.1 rfl (Nat.le_of_ble_eq_true rfl) dX9_plan_48 ⟨Nat.le_of_ble_eq_true rfl, Nat.le_of_ble_eq_true rfl⟩ (fun v104 T105 H locs p106 hW hS => ?_)
                obtain ⟨eT105, p106⟩ := p106
                rw [eT105] at hW
                clear eT105
                refine lv_imul hx hb dX9_plan_51 ?_
                refine pg_iast hx hb hK hW hS (hF.k kb103 (by decide)) (by decide) (by rw [show sL L30 b103 = 8 from (hF.n kb103 (by decide) nb103)]; exact r_in (by omega)) dX9_plan_52 (fun H locs hW hS => ?_)
                have kq107 : sK L30 b103 = 11 := (hF.k kb103 (by decide))
                obtain ⟨S108, eS108⟩ : ∃ T : St, T = stI L30 b103 (Int32.toNatClampNeg y) (2 * v104) := ⟨_, rfl⟩
                rw [← eS108] at hW
                have hG : G S108 := by rw [eS108]; exact hG.I kq107 (ok_frA (by decide) (by decide))
                have hF : Fr [] [960, 1100] S S108 := by rw [eS108]; exact hF.IA kq107 (by decide) (by decide)
                clear eS108
                refine lv_iconst (v := 0) hx hb dX9_plan_53 (by decide) ?_
                refine lv_istore (lv' := [(5, .int 0), (3, .int (4 * z)), (0, .ref h), (1, .int a), (2, .int b), (4, .int y)]) hx hb dX9_plan_54 hl (by decide) rfl (fun ls hl => ?_)
                have hE109 : Fr [] [960, 1100] S108 S108 := Fr.rf _ _ _
                have loop56 : ∀ (zn : Nat) (x : Int32) (L56 : St) (H : Heap) (locs : List Loc) (ls : Array Slot), (G L56) → (Fr [] [960, 1100] S108 L56) → (0 ≤ x.toInt) → (2 - x.toInt).toNat < zn → PW D cy A L56 H → va_S A s.heap H locs → lv_has ls 13 [(0, .ref h), (1, .int a), (2, .int b), (3, .int (4 * z)), (4, .int y), (5, .int x)] → W p l e ({ frames := 1, cells := 0, slots := 0, locals := 23 } : Room) s m args below meth c H locs 0 0 (MQ below (va_Qi (fun r S1 => G S1 ∧ Fr [] [960, 1100] S S1 ∧ True) (PU D cy A) A) args s 0 0 A) (F0 m 56 ls []) := by
                  intro zn
                  induction zn with
                  | zero => intros; exact absurd (by assumption) (Nat.not_lt_zero _)
                  | succ zn ih56 =>
                    intro x L56 H locs ls hG hL56 hx0 hme56 hW hS hl
                    have hF : Fr [] [960, 1100] S L56 := hF.tr hL56
                    have hE109 := hL56
                    refine lv_iload hx hb dX9_plan_56 (lv_at hl 5 rfl) ?_
                    refine lv_iconst (v := 2) hx hb dX9_plan_58 (by decide) ?_
                    refine lv_icmp_ge (tgt := 118) hx hb dX9_plan_59 (by decide) (fun c110 => ?_) (fun c110 => ?_)
                    · have c110i : (2 : Int) ≤ Int32.toInt x := (i3_le _ _).mp c110
                      refine lv_iinc (v := y + 1) (lv' := [(4, .int (y + 1)), (0, .ref h), (1, .int a), (2, .int b), (3, .int (4 * z)), (5, .int x)]) hx hb dX9_plan_118 hl (k := 4) rfl rfl (by decide) rfl (fun ls hl => ?_)
                      have i111 : (y + 1).toInt = (y).toInt + 1 := i3_add rfl rfl (by omega) (by omega)
                      refine lv_goto (tgt := 30) hx hb dX9_plan_121 (by decide) ?_
                      exact ih30 (4 * z) (y + 1) L56 _ _ ls hG hF (by omega) (by omega) hW hS (lv_cast (lv_sub hl [1, 2, 3, 4, 0] rfl) (rfl))
                    · have c110i : ¬ ((2 : Int) ≤ Int32.toInt x) := fun h9 => c110 ((i3_le _ _).mpr h9)
                      refine lv_aload_n hx hb dX9_plan_62 rfl (lv_at hl 0 rfl) ?_
                      refine lv_iload hx hb dX9_plan_63 (lv_at hl 5 rfl) ?_
                      refine lv_aload_n hx hb dX9_plan_65 rfl (lv_at hl 0 rfl) ?_
                      refine pg_gi (ci := 9) (C := RX9) (T := TX9) (N := 63) hx hb hts wi9 hown hK hW (hF.k hk (by decide)) (by decide) rfl 18 (by decide) (hts (.fieldLink RX9 219 "IceHallModel" "now" "I") (by decide +kernel)) (fun _ h9 => h9) rfl dX9_plan_66 ?_
                      have g112 : (0 : Int) ≤ (sI L56 h 18).toInt ∧ (sI L56 h 18).toInt ≤ 990 := hG.i (hF.k hk (by decide)) (by decide) 18 (by decide)
                      refine lv_iload hx hb dX9_plan_69 (lv_at hl 4 rfl) ?_
                      refine lv_iadd hx hb dX9_plan_71 ?_
                      have l113 : ((sI L56 h 18) + y).toInt = Int32.toInt (sI L56 h 18) + Int32.toInt y := i3_add rfl rfl (by omega) (by omega)
                      refine pc_Vi (As := [.int x, .int ((sI L56 h 18) + y)]) (rest := []) F (b_X9_standing l D cy A L56 h x ((sI L56 h 18) + y) hG (hF.k hk (by decide))) (cwV 2 hts gX9_plan_X9_standing rfl rfl rfl (by decide +kernel) ⟨Nat.le_of_ble_eq_true rfl, Nat.le_of_ble_eq_true rfl⟩) hK hZ hA hW hS (hF.k hk (by decide)) (by decide) rfl rfl hl.1 rfl (Nat.le_of_ble_eq_true rfl) dX9_plan_72 ⟨Nat.le_of_ble_eq_true rfl, Nat.le_of_ble_eq_true rfl⟩ (fun v114 T115 H locs p116 hW hS => ?_)
                      obtain ⟨eT115, p116⟩ := p116
                      rw [eT115] at hW
                      clear eT115
                      refine lv_istore (lv' := [(6, .int v114), (0, .ref h), (1, .int a), (2, .int b), (3, .int (4 * z)), (4, .int y), (5, .int x)]) hx hb dX9_plan_75 hl (by decide) rfl (fun ls hl => ?_)
                      refine lv_aload_n hx hb dX9_plan_77 rfl (lv_at hl 1 rfl) ?_
                      refine pg_gr (b := b103) (ci := 9) (C := RX9) (T := TX9) (N := 63) hx hb hts wi9 hown hK hW (hF.k hk (by decide)) (by decide) rfl 56 (by decide) (hts (.fieldLink RX9 121 "IceHallModel" "wants" "[I") (by decide +kernel)) (fun _ h9 => h9) rfl (hF.r hk (by decide) rb103) dX9_plan_78 ?_
                      refine lv_iload hx hb dX9_plan_81 (lv_at hl 5 rfl) ?_
                      refine lv_aload_n hx hb dX9_plan_83 rfl (lv_at hl 1 rfl) ?_
                      refine pg_gr (b := b103) (ci := 9) (C := RX9) (T := TX9) (N := 63) hx hb hts wi9 hown hK hW (hF.k hk (by decide)) (by decide) rfl 56 (by decide) (hts (.fieldLink RX9 121 "IceHallModel" "wants" "[I") (by decide +kernel)) (fun _ h9 => h9) rfl (hF.r hk (by decide) rb103) dX9_plan_84 ?_
                      refine lv_iload hx hb dX9_plan_87 (lv_at hl 5 rfl) ?_
                      refine pg_iald hx hb hK hW (hF.k kb103 (by decide)) (by decide) (by rw [show sL L56 b103 = 8 from (hF.n kb103 (by decide) nb103)]; exact r_in (by omega)) dX9_plan_89 ?_
                      have join110 : ∀ (v110 : Int32) (H : Heap) (locs : List Loc), PW D cy A L56 H → va_S A s.heap H locs → W p l e ({ frames := 1, cells := 0, slots := 0, locals := 23 } : Room) s m args below meth c H locs 0 0 (MQ below (va_Qi (fun r S1 => G S1 ∧ Fr [] [960, 1100] S S1 ∧ True) (PU D cy A) A) args s 0 0 A) (F0 m 110 ls [.int v110, .int (sI L56 b103 (Int32.toNatClampNeg y)), .int y, .ref b103]) := by
                        intro v110 H locs hW hS
                        refine lv_iadd hx hb dX9_plan_110 ?_
                        refine pg_iast hx hb hK hW hS (hF.k kb103 (by decide)) (by decide) (by rw [show sL L56 b103 = 8 from (hF.n kb103 (by decide) nb103)]; exact r_in (by omega)) dX9_plan_111 (fun H locs hW hS => ?_)
                        have kq117 : sK L56 b103 = 11 := (hF.k kb103 (by decide))
                        obtain ⟨S118, eS118⟩ : ∃ T : St, T = stI L56 b103 (Int32.toNatClampNeg y) ((sI L56 b103 (Int32.toNatClampNeg y)) + v110) := ⟨_, rfl⟩
                        rw [← eS118] at hW
                        have hG : G S118 := by rw [eS118]; exact hG.I kq117 (ok_frA (by decide) (by decide))
                        have hF : Fr [] [960, 1100] S S118 := by rw [eS118]; exact hF.IA kq117 (by decide) (by decide)
                        have hE109 : Fr [] [960, 1100] S108 S118 := by rw [eS118]; exact hE109.IA kq117 (by decide) (by decide)
                        clear eS118
                        refine lv_iinc (v := x + 1) (lv' := [(5, .int (x + 1)), (6, .int v114), (0, .ref h), (1, .int a), (2, .int b), (3, .int (4 * z)), (4, .int y)]) hx hb dX9_plan_112 hl (k := 6) rfl rfl (by decide) rfl (fun ls hl => ?_)
                        have i119 : (x + 1).toInt = (x).toInt + 1 := i3_add rfl rfl (by omega) (by omega)
                        refine lv_goto (tgt := 56) hx hb dX9_plan_115 (by decide) ?_
                        exact ih56 (x + 1) S118 _ _ ls hG hE109 (by omega) (by omega) hW hS (lv_cast (lv_sub hl [2, 3, 4, 5, 6, 0] rfl) (rfl))
                      refine lv_iload hx hb dX9_plan_90 (lv_at hl 0 rfl) ?_
                      refine lv_iconst (v := (-1)) hx hb dX9_plan_92 (by decide) ?_
                      refine lv_icmp_ne (tgt := 100) hx hb dX9_plan_93 (by decide) (fun c120 => ?_) (fun c120 => ?_)
                      · have c120i : ¬ (Int32.toInt v114 = (-1 : Int)) := fun h9 => c120 ((i3_eq _ _).mpr h9)
                        refine lv_aload_n hx hb dX9_plan_100 rfl (lv_at hl 1 rfl) ?_
                        obtain ⟨b121, rb121, kb121, nb121⟩ := hG0.r hk List.not_mem_nil 38 (show rty 9 38 = some (11, 200) from rfl)
                        refine pg_gr (b := b121) (ci := 9) (C := RX9) (T := TX9) (N := 63) hx hb hts wi9 hown hK hW (hF.k hk (by decide)) (by decide) rfl 38 (by decide) (hts (.fieldLink RX9 76 "IceHallModel" "kindOf" "[I") (by decide +kernel)) (fun _ h9 => h9) rfl (hF.r hk (by decide) rb121) dX9_plan_101 ?_
                        refine lv_iload hx hb dX9_plan_104 (lv_at hl 0 rfl) ?_
                        refine pg_iald hx hb hK hW (hF.k kb121 (by decide)) (by decide) (by rw [show sL L56 b121 = 200 from (hF.n kb121 (by decide) nb121)]; exact r_in (by omega)) dX9_plan_106 ?_
                        refine pc_Si (As := [.int (sI L56 b121 (Int32.toNatClampNeg v114))]) (rest := [.int (sI L56 b103 (Int32.toNatClampNeg y)), .int y, .ref b103]) F (b_X9_heatOf l D cy A L56 (sI L56 b121 (Int32.toNatClampNeg v114)) ) (va_cwS 1 hts gX9_plan_X9_heatOf rfl rfl rfl (by decide +kernel) ⟨Nat.le_of_ble_eq_true rfl, Nat.le_of_ble_eq_true rfl⟩) hK hZ hA hW hS rfl hl.1 rfl (Nat.le_of_ble_eq_true rfl) dX9_plan_107 ⟨Nat.le_of_ble_eq_true rfl, Nat.le_of_ble_eq_true rfl⟩ (fun v122 T123 H locs p124 hW hS => ?_)
                        obtain ⟨eT123, p124⟩ := p124
                        rw [eT123] at hW
                        clear eT123
                        exact join110 v122 _ _  hW hS
                      · have c120i : Int32.toInt v114 = (-1 : Int) := (i3_eq _ _).mp c120
                        refine lv_iconst (v := 0) hx hb dX9_plan_96 (by decide) ?_
                        refine lv_goto (tgt := 110) hx hb dX9_plan_97 (by decide) ?_
                        exact join110 0 _ _  hW hS
                exact loop56 _ 0 S108 _ _ ls hG hE109 (by decide) (Nat.lt_succ_self _) hW hS (lv_cast (lv_sub hl [2, 3, 4, 1, 5, 0] rfl) (rfl))
          exact loop30 _ 1 0 S _ _ ls hG hF (by decide) (Nat.lt_succ_self _) hW hS (lv_cast (lv_sub hl [2, 3, 4, 1, 0] rfl) (rfl))
        · have c4i : ¬ (Int32.toInt b ≤ (40 : Int)) := fun h9 => c4 ((i3_le _ _).mpr h9)
          refine lv_iconst (v := (-1)) hx hb dX9_plan_23 (by decide) ?_
          exact pc_iret (v := (-1)) (S := S) hx hb hr hlk hK hZ hA hW hS (⟨hG, hF, trivial⟩) dX9_plan_24
set_option maxHeartbeats 4000000 in
set_option maxRecDepth 100000 in
theorem b_X9_part (l : Launch) (D : va_G) (cy : Nat → ClassId) (A : Nat → Prop) (S : St) (h : Nat) (a b : Int32) (hG0 : G S) (hk : sK S h = 9) : MI l yX9_part wsX9_part ({ frames := 1, cells := 0, slots := 0, locals := 24 } : Room) 0 0 D cy A [.ref h, .int a, .int b] S (fun r S1 => G S1 ∧ Fr [] [1100] S S1 ∧ True) := by
  refine mt_start (cc := cX9_part) (maxL := 8) (ret := (some .int)) (by decide) rfl (Nat.le_of_ble_eq_true rfl) ?_
  intro p e s m args below meth c hx hb hr hlk hml hown hnm hts hK hZ hA hW hS ls hl
  have hl : lv_has ls 8 [(0, .ref h), (1, .int a), (2, .int b)] := hl
  have hown : s.vm.findClass RX9 = some m.cls := hown
  have F : CallFix p m c cX9_part 8 s args wsX9_part RX9 := ⟨hx, hb, hml, hown, hts⟩
  have wi9 : ∀ w ∈ u_ws RX9 TX9 63, w ∈ wsX9_part := by decide +kernel
  have hG := hG0
  have hF : Fr [] [1100] S S := Fr.rf _ _ _
  refine lv_iload_n hx hb dX9_part_0 rfl (lv_at hl 1 rfl) ?_
  refine pc_Si (As := [.int a]) (rest := []) F (b_X9_isClub l D cy A S a ) (va_cwS 1 hts gX9_part_X9_isClub rfl rfl rfl (by decide +kernel) ⟨Nat.le_of_ble_eq_true rfl, Nat.le_of_ble_eq_true rfl⟩) hK hZ hA hW hS rfl hl.1 rfl (Nat.le_of_ble_eq_true rfl) dX9_part_1 ⟨Nat.le_of_ble_eq_true rfl, Nat.le_of_ble_eq_true rfl⟩ (fun v1 T2 H locs p3 hW hS => ?_)
  obtain ⟨eT2, p3⟩ := p3
  rw [eT2] at hW
  clear eT2
  refine lv_if_eq (tgt := 18) hx hb dX9_part_4 (by decide) (fun c4 => ?_) (fun c4 => ?_)
  · have c4i : Int32.toInt v1 = (0 : Int) := (i3_eq _ _).mp c4
    refine lv_iconst (v := (-1)) hx hb dX9_part_18 (by decide) ?_
    exact pc_iret (v := (-1)) (S := S) hx hb hr hlk hK hZ hA hW hS (⟨hG, hF, trivial⟩) dX9_part_19
  · have c4i : ¬ (Int32.toInt v1 = (0 : Int)) := fun h9 => c4 ((i3_eq _ _).mpr h9)
    refine lv_iload_n hx hb dX9_part_7 rfl (lv_at hl 2 rfl) ?_
    refine lv_if_lt (tgt := 18) hx hb dX9_part_8 (by decide) (fun c5 => ?_) (fun c5 => ?_)
    · have c5i : Int32.toInt b < (0 : Int) := (i3_lt _ _).mp c5
      refine lv_iconst (v := (-1)) hx hb dX9_part_18 (by decide) ?_
      exact pc_iret (v := (-1)) (S := S) hx hb hr hlk hK hZ hA hW hS (⟨hG, hF, trivial⟩) dX9_part_19
    · have c5i : ¬ (Int32.toInt b < (0 : Int)) := fun h9 => c5 ((i3_lt _ _).mpr h9)
      refine lv_iload_n hx hb dX9_part_11 rfl (lv_at hl 2 rfl) ?_
      refine lv_ldcw (v := (100000)) hx hb hown (hts (.constant RX9 287 (100000)) (by decide +kernel)) dX9_part_12 ?_
      refine lv_icmp_le (tgt := 20) hx hb dX9_part_15 (by decide) (fun c6 => ?_) (fun c6 => ?_)
      · have c6i : Int32.toInt b ≤ (100000 : Int) := (i3_le _ _).mp c6
        refine lv_iconst (v := 0) hx hb dX9_part_20 (by decide) ?_
        refine lv_istore_n (lv' := [(3, .int 0), (0, .ref h), (1, .int a), (2, .int b)]) hx hb dX9_part_21 rfl hl (by decide) rfl (fun ls hl => ?_)
        refine lv_iconst (v := 0) hx hb dX9_part_22 (by decide) ?_
        refine lv_istore (lv' := [(4, .int 0), (3, .int 0), (0, .ref h), (1, .int a), (2, .int b)]) hx hb dX9_part_23 hl (by decide) rfl (fun ls hl => ?_)
        have loop25 : ∀ (zn : Nat) (z : Int32) (y : Int32) (L25 : St) (H : Heap) (locs : List Loc) (ls : Array Slot), (G L25) → (Fr [] [1100] S L25) → (0 ≤ y.toInt) → (6 - y.toInt).toNat < zn → PW D cy A L25 H → va_S A s.heap H locs → lv_has ls 8 [(0, .ref h), (1, .int a), (2, .int b), (3, .int z), (4, .int y)] → W p l e ({ frames := 1, cells := 0, slots := 0, locals := 24 } : Room) s m args below meth c H locs 0 0 (MQ below (va_Qi (fun r S1 => G S1 ∧ Fr [] [1100] S S1 ∧ True) (PU D cy A) A) args s 0 0 A) (F0 m 25 ls []) := by
          intro zn
          induction zn with
          | zero => intros; exact absurd (by assumption) (Nat.not_lt_zero _)
          | succ zn ih25 =>
            intro z y L25 H locs ls hG hL25 hy0 hme25 hW hS hl
            have hF := hL25
            refine lv_iload hx hb dX9_part_25 (lv_at hl 4 rfl) ?_
            refine lv_bipush (v := 6) hx hb dX9_part_27 (by decide) ?_
            refine lv_icmp_ge (tgt := 48) hx hb dX9_part_29 (by decide) (fun c7 => ?_) (fun c7 => ?_)
            · have c7i : (6 : Int) ≤ Int32.toInt y := (i3_le _ _).mp c7
              refine lv_iload_n hx hb dX9_part_48 rfl (lv_at hl 3 rfl) ?_
              refine lv_if_ne (tgt := 54) hx hb dX9_part_49 (by decide) (fun c8 => ?_) (fun c8 => ?_)
              · have c8i : ¬ (Int32.toInt z = (0 : Int)) := fun h9 => c8 ((i3_eq _ _).mpr h9)
                refine lv_iload_n hx hb dX9_part_54 rfl (lv_at hl 2 rfl) ?_
                refine lv_istore (lv' := [(4, .int b), (0, .ref h), (1, .int a), (2, .int b), (3, .int z)]) hx hb dX9_part_55 hl (by decide) rfl (fun ls hl => ?_)
                refine lv_iconst (v := 0) hx hb dX9_part_57 (by decide) ?_
                refine lv_istore (lv' := [(5, .int 0), (4, .int b), (0, .ref h), (1, .int a), (2, .int b), (3, .int z)]) hx hb dX9_part_58 hl (by decide) rfl (fun ls hl => ?_)
                have hE9 : Fr [] [1100] L25 L25 := Fr.rf _ _ _
                have loop60 : ∀ (zn : Nat) (w : Int32) (x : Int32) (L60 : St) (H : Heap) (locs : List Loc) (ls : Array Slot), (G L60) → (Fr [] [1100] L25 L60) → (0 ≤ x.toInt) → (6 - x.toInt).toNat < zn → PW D cy A L60 H → va_S A s.heap H locs → lv_has ls 8 [(0, .ref h), (1, .int a), (2, .int b), (3, .int z), (4, .int w), (5, .int x)] → W p l e ({ frames := 1, cells := 0, slots := 0, locals := 24 } : Room) s m args below meth c H locs 0 0 (MQ below (va_Qi (fun r S1 => G S1 ∧ Fr [] [1100] S S1 ∧ True) (PU D cy A) A) args s 0 0 A) (F0 m 60 ls []) := by
                  intro zn
                  induction zn with
                  | zero => intros; exact absurd (by assumption) (Nat.not_lt_zero _)
                  | succ zn ih60 =>
                    intro w x L60 H locs ls hG hL60 hx0 hme60 hW hS hl
                    have hF : Fr [] [1100] S L60 := hF.tr hL60
                    have hE9 := hL60
                    refine lv_iload hx hb dX9_part_60 (lv_at hl 5 rfl) ?_
                    refine lv_bipush (v := 6) hx hb dX9_part_62 (by decide) ?_
                    refine lv_icmp_ge (tgt := 123) hx hb dX9_part_64 (by decide) (fun c10 => ?_) (fun c10 => ?_)
                    · have c10i : (6 : Int) ≤ Int32.toInt x := (i3_le _ _).mp c10
                      have hE11 : Fr [] [1100] L60 L60 := Fr.rf _ _ _
                      have loop123 : ∀ (zn : Nat) (w : Int32) (L123 : St) (H : Heap) (locs : List Loc) (ls : Array Slot), (G L123) → (Fr [] [1100] L60 L123) → w.toInt.toNat < zn → PW D cy A L123 H → va_S A s.heap H locs → lv_has ls 8 [(0, .ref h), (1, .int a), (2, .int b), (3, .int z), (4, .int w)] → W p l e ({ frames := 1, cells := 0, slots := 0, locals := 24 } : Room) s m args below meth c H locs 0 0 (MQ below (va_Qi (fun r S1 => G S1 ∧ Fr [] [1100] S S1 ∧ True) (PU D cy A) A) args s 0 0 A) (F0 m 123 ls []) := by
                        intro zn
                        induction zn with
                        | zero => intros; exact absurd (by assumption) (Nat.not_lt_zero _)
                        | succ zn ih123 =>
                          intro w L123 H locs ls hG hL123 hme123 hW hS hl
                          have hF : Fr [] [1100] S L123 := hF.tr hL123
                          have hE9 : Fr [] [1100] L25 L123 := hE9.tr hL123
                          have hE11 := hL123
                          have hb9 := i3_bd w
                          refine lv_iload hx hb dX9_part_123 (lv_at hl 4 rfl) ?_
                          refine lv_if_le (tgt := 204) hx hb dX9_part_125 (by decide) (fun c12 => ?_) (fun c12 => ?_)
                          · have c12i : Int32.toInt w ≤ (0 : Int) := (i3_le _ _).mp c12
                            refine lv_aload_n hx hb dX9_part_204 rfl (lv_at hl 0 rfl) ?_
                            obtain ⟨b13, rb13, kb13, nb13⟩ := hG0.r hk List.not_mem_nil 61 (show rty 9 61 = some (11, 6) from rfl)
                            refine pg_gr (b := b13) (ci := 9) (C := RX9) (T := TX9) (N := 63) hx hb hts wi9 hown hK hW (hF.k hk (by decide)) (by decide) rfl 61 (by decide) (hts (.fieldLink RX9 133 "IceHallModel" "share" "[I") (by decide +kernel)) (fun _ h9 => h9) rfl (hF.r hk (by decide) rb13) dX9_part_205 ?_
                            refine lv_iload_n hx hb dX9_part_208 rfl (lv_at hl 1 rfl) ?_
                            refine pg_iald hx hb hK hW (hF.k kb13 (by decide)) (by decide) (by rw [show sL L123 b13 = 6 from (hF.n kb13 (by decide) nb13)]; exact r_in (by omega)) dX9_part_209 ?_
                            exact pc_iret (v := sI L123 b13 (Int32.toNatClampNeg a)) (S := L123) hx hb hr hlk hK hZ hA hW hS (⟨hG, hF, trivial⟩) dX9_part_210
                          · have c12i : ¬ (Int32.toInt w ≤ (0 : Int)) := fun h9 => c12 ((i3_le _ _).mpr h9)
                            refine lv_iconst (v := 0) hx hb dX9_part_128 (by decide) ?_
                            refine lv_istore (lv' := [(5, .int 0), (0, .ref h), (1, .int a), (2, .int b), (3, .int z), (4, .int w)]) hx hb dX9_part_129 hl (by decide) rfl (fun ls hl => ?_)
                            refine lv_iconst (v := 1) hx hb dX9_part_131 (by decide) ?_
                            refine lv_istore (lv' := [(6, .int 1), (5, .int 0), (0, .ref h), (1, .int a), (2, .int b), (3, .int z), (4, .int w)]) hx hb dX9_part_132 hl (by decide) rfl (fun ls hl => ?_)
                            have hE14 : Fr [] [1100] L123 L123 := Fr.rf _ _ _
                            have loop134 : ∀ (zn : Nat) (u : Int32) (x : Int32) (L134 : St) (H : Heap) (locs : List Loc) (ls : Array Slot), (G L134) → (Fr [] [1100] L123 L134) → (0 ≤ u.toInt ∧ u.toInt < 6) → (1 ≤ x.toInt) → (6 - x.toInt).toNat < zn → PW D cy A L134 H → va_S A s.heap H locs → lv_has ls 8 [(0, .ref h), (1, .int a), (2, .int b), (3, .int z), (4, .int w), (5, .int u), (6, .int x)] → W p l e ({ frames := 1, cells := 0, slots := 0, locals := 24 } : Room) s m args below meth c H locs 0 0 (MQ below (va_Qi (fun r S1 => G S1 ∧ Fr [] [1100] S S1 ∧ True) (PU D cy A) A) args s 0 0 A) (F0 m 134 ls []) := by
                              intro zn
                              induction zn with
                              | zero => intros; exact absurd (by assumption) (Nat.not_lt_zero _)
                              | succ zn ih134 =>
                                intro u x L134 H locs ls hG hL134 hu hx0 hme134 hW hS hl
                                have hF : Fr [] [1100] S L134 := hF.tr hL134
                                have hE9 : Fr [] [1100] L25 L134 := hE9.tr hL134
                                have hE11 : Fr [] [1100] L60 L134 := hE11.tr hL134
                                have hE14 := hL134
                                refine lv_iload hx hb dX9_part_134 (lv_at hl 6 rfl) ?_
                                refine lv_bipush (v := 6) hx hb dX9_part_136 (by decide) ?_
                                refine lv_icmp_ge (tgt := 169) hx hb dX9_part_138 (by decide) (fun c15 => ?_) (fun c15 => ?_)
                                · have c15i : (6 : Int) ≤ Int32.toInt x := (i3_le _ _).mp c15
                                  refine lv_aload_n hx hb dX9_part_169 rfl (lv_at hl 0 rfl) ?_
                                  obtain ⟨b16, rb16, kb16, nb16⟩ := hG0.r hk List.not_mem_nil 61 (show rty 9 61 = some (11, 6) from rfl)
                                  refine pg_gr (b := b16) (ci := 9) (C := RX9) (T := TX9) (N := 63) hx hb hts wi9 hown hK hW (hF.k hk (by decide)) (by decide) rfl 61 (by decide) (hts (.fieldLink RX9 133 "IceHallModel" "share" "[I") (by decide +kernel)) (fun _ h9 => h9) rfl (hF.r hk (by decide) rb16) dX9_part_170 ?_
                                  refine lv_iload hx hb dX9_part_173 (lv_at hl 5 rfl) ?_
                                  refine lv_aload_n hx hb dX9_part_175 rfl (lv_at hl 0 rfl) ?_
                                  refine pg_gr (b := b16) (ci := 9) (C := RX9) (T := TX9) (N := 63) hx hb hts wi9 hown hK hW (hF.k hk (by decide)) (by decide) rfl 61 (by decide) (hts (.fieldLink RX9 133 "IceHallModel" "share" "[I") (by decide +kernel)) (fun _ h9 => h9) rfl (hF.r hk (by decide) rb16) dX9_part_176 ?_
                                  refine lv_iload hx hb dX9_part_179 (lv_at hl 5 rfl) ?_
                                  refine pg_iald hx hb hK hW (hF.k kb16 (by decide)) (by decide) (by rw [show sL L134 b16 = 6 from (hF.n kb16 (by decide) nb16)]; exact r_in (by omega)) dX9_part_181 ?_
                                  refine lv_iconst (v := 1) hx hb dX9_part_182 (by decide) ?_
                                  refine lv_iadd hx hb dX9_part_183 ?_
                                  refine pg_iast hx hb hK hW hS (hF.k kb16 (by decide)) (by decide) (by rw [show sL L134 b16 = 6 from (hF.n kb16 (by decide) nb16)]; exact r_in (by omega)) dX9_part_184 (fun H locs hW hS => ?_)
                                  have kq17 : sK L134 b16 = 11 := (hF.k kb16 (by decide))
                                  obtain ⟨S18, eS18⟩ : ∃ T : St, T = stI L134 b16 (Int32.toNatClampNeg u) ((sI L134 b16 (Int32.toNatClampNeg u)) + 1) := ⟨_, rfl⟩
                                  rw [← eS18] at hW
                                  have hG : G S18 := by rw [eS18]; exact hG.I kq17 (ok_frA (by decide) (by decide))
                                  have hF : Fr [] [1100] S S18 := by rw [eS18]; exact hF.IA kq17 (by decide) (by decide)
                                  have hE9 : Fr [] [1100] L25 S18 := by rw [eS18]; exact hE9.IA kq17 (by decide) (by decide)
                                  have hE11 : Fr [] [1100] L60 S18 := by rw [eS18]; exact hE11.IA kq17 (by decide) (by decide)
                                  have hE14 : Fr [] [1100] L123 S18 := by rw [eS18]; exact hE14.IA kq17 (by decide) (by decide)
                                  clear eS18
                                  refine lv_aload_n hx hb dX9_part_185 rfl (lv_at hl 0 rfl) ?_
                                  obtain ⟨b19, rb19, kb19, nb19⟩ := hG0.r hk List.not_mem_nil 62 (show rty 9 62 = some (12, 6) from rfl)
                                  refine pg_gr (b := b19) (ci := 9) (C := RX9) (T := TX9) (N := 63) hx hb hts wi9 hown hK hW (hF.k hk (by decide)) (by decide) rfl 62 (by decide) (hts (.fieldLink RX9 136 "IceHallModel" "over" "[J") (by decide +kernel)) (fun _ h9 => h9) rfl (hF.r hk (by decide) rb19) dX9_part_186 ?_
                                  refine lv_iload hx hb dX9_part_189 (lv_at hl 5 rfl) ?_
                                  refine lv_ldc2 (v := (-1)) hx hb hown (hts (.constantLong RX9 291 (-1)) (by decide +kernel)) dX9_part_191 ?_
                                  refine pg_last hx hb hK hW hS (hF.k kb19 (by decide)) (by rw [show sL S18 b19 = 6 from (hF.n kb19 (by decide) nb19)]; exact r_in (by omega)) dX9_part_194 (fun H locs hW hS => ?_)
                                  obtain ⟨S20, eS20⟩ : ∃ T : St, T = stJ S18 b19 (Int32.toNatClampNeg u) ((-1)) := ⟨_, rfl⟩
                                  rw [← eS20] at hW
                                  have hG : G S20 := by rw [eS20]; exact hG.J
                                  have hF : Fr [] [1100] S S20 := by rw [eS20]; exact hF.J
                                  have hE9 : Fr [] [1100] L25 S20 := by rw [eS20]; exact hE9.J
                                  have hE11 : Fr [] [1100] L60 S20 := by rw [eS20]; exact hE11.J
                                  have hE14 : Fr [] [1100] L123 S20 := by rw [eS20]; exact hE14.J
                                  clear eS20
                                  refine lv_iload hx hb dX9_part_195 (lv_at hl 4 rfl) ?_
                                  refine lv_iconst (v := 1) hx hb dX9_part_197 (by decide) ?_
                                  refine lv_isub hx hb dX9_part_198 ?_
                                  have l21 : (w - 1).toInt = Int32.toInt w - (1 : Int) := i3_sub rfl rfl (by omega) (by omega)
                                  refine lv_istore (lv' := [(4, .int (w - 1)), (0, .ref h), (1, .int a), (2, .int b), (3, .int z), (5, .int u), (6, .int x)]) hx hb dX9_part_199 hl (by decide) rfl (fun ls hl => ?_)
                                  refine lv_goto (tgt := 123) hx hb dX9_part_201 (by decide) ?_
                                  exact ih123 (w - 1) S20 _ _ ls hG hE11 (by omega) hW hS (lv_cast (lv_sub hl [1, 2, 3, 4, 0] rfl) (rfl))
                                · have c15i : ¬ ((6 : Int) ≤ Int32.toInt x) := fun h9 => c15 ((i3_le _ _).mpr h9)
                                  refine lv_aload_n hx hb dX9_part_141 rfl (lv_at hl 0 rfl) ?_
                                  obtain ⟨b22, rb22, kb22, nb22⟩ := hG0.r hk List.not_mem_nil 62 (show rty 9 62 = some (12, 6) from rfl)
                                  refine pg_gr (b := b22) (ci := 9) (C := RX9) (T := TX9) (N := 63) hx hb hts wi9 hown hK hW (hF.k hk (by decide)) (by decide) rfl 62 (by decide) (hts (.fieldLink RX9 136 "IceHallModel" "over" "[J") (by decide +kernel)) (fun _ h9 => h9) rfl (hF.r hk (by decide) rb22) dX9_part_142 ?_
                                  refine lv_iload hx hb dX9_part_145 (lv_at hl 6 rfl) ?_
                                  refine pg_lald hx hb hK hW (hF.k kb22 (by decide)) (by rw [show sL L134 b22 = 6 from (hF.n kb22 (by decide) nb22)]; exact r_in (by omega)) dX9_part_147 ?_
                                  refine lv_aload_n hx hb dX9_part_148 rfl (lv_at hl 0 rfl) ?_
                                  refine pg_gr (b := b22) (ci := 9) (C := RX9) (T := TX9) (N := 63) hx hb hts wi9 hown hK hW (hF.k hk (by decide)) (by decide) rfl 62 (by decide) (hts (.fieldLink RX9 136 "IceHallModel" "over" "[J") (by decide +kernel)) (fun _ h9 => h9) rfl (hF.r hk (by decide) rb22) dX9_part_149 ?_
                                  refine lv_iload hx hb dX9_part_152 (lv_at hl 5 rfl) ?_
                                  refine pg_lald hx hb hK hW (hF.k kb22 (by decide)) (by rw [show sL L134 b22 = 6 from (hF.n kb22 (by decide) nb22)]; exact r_in (by omega)) dX9_part_154 ?_
                                  refine W.lcmp hx hb dX9_part_155 ?_
                                  refine lv_if_le (tgt := 163) hx hb dX9_part_156 (by decide) (fun c23 => ?_) (fun c23 => ?_)
                                  · have c23i : Int32.toInt (lg_cmp (sJ L134 b22 (Int32.toNatClampNeg x)) (sJ L134 b22 (Int32.toNatClampNeg u))) ≤ (0 : Int) := (i3_le _ _).mp c23
                                    refine lv_iinc (v := x + 1) (lv' := [(6, .int (x + 1)), (0, .ref h), (1, .int a), (2, .int b), (3, .int z), (4, .int w), (5, .int u)]) hx hb dX9_part_163 hl (k := 6) rfl rfl (by decide) rfl (fun ls hl => ?_)
                                    have i24 : (x + 1).toInt = (x).toInt + 1 := i3_add rfl rfl (by omega) (by omega)
                                    refine lv_goto (tgt := 134) hx hb dX9_part_166 (by decide) ?_
                                    exact ih134 u (x + 1) L134 _ _ ls hG hE14 (by omega) (by omega) (by omega) hW hS (lv_cast (lv_sub hl [1, 2, 3, 4, 5, 6, 0] rfl) (rfl))
                                  · have c23i : ¬ (Int32.toInt (lg_cmp (sJ L134 b22 (Int32.toNatClampNeg x)) (sJ L134 b22 (Int32.toNatClampNeg u))) ≤ (0 : Int)) := fun h9 => c23 ((i3_le _ _).mpr h9)
                                    refine lv_iload hx hb dX9_part_159 (lv_at hl 6 rfl) ?_
                                    refine lv_istore (lv' := [(5, .int x), (0, .ref h), (1, .int a), (2, .int b), (3, .int z), (4, .int w), (6, .int x)]) hx hb dX9_part_161 hl (by decide) rfl (fun ls hl => ?_)
                                    refine lv_iinc (v := x + 1) (lv' := [(6, .int (x + 1)), (5, .int x), (0, .ref h), (1, .int a), (2, .int b), (3, .int z), (4, .int w)]) hx hb dX9_part_163 hl (k := 6) rfl rfl (by decide) rfl (fun ls hl => ?_)
                                    have i25 : (x + 1).toInt = (x).toInt + 1 := i3_add rfl rfl (by omega) (by omega)
                                    refine lv_goto (tgt := 134) hx hb dX9_part_166 (by decide) ?_
                                    exact ih134 x (x + 1) L134 _ _ ls hG hE14 (by omega) (by omega) (by omega) hW hS (lv_cast (lv_sub hl [2, 3, 4, 5, 6, 1, 0] rfl) (rfl))
                            exact loop134 _ 0 1 L123 _ _ ls hG hE14 (by decide) (by decide) (Nat.lt_succ_self _) hW hS (lv_cast (lv_sub hl [2, 3, 4, 5, 6, 1, 0] rfl) (rfl))
                      exact loop123 _ w L60 _ _ ls hG hE11 (Nat.lt_succ_self _) hW hS (lv_cast (lv_sub hl [0, 1, 2, 3, 4] rfl) (rfl))
                    · have c10i : ¬ ((6 : Int) ≤ Int32.toInt x) := fun h9 => c10 ((i3_le _ _).mpr h9)
                      refine lv_iload_n hx hb dX9_part_67 rfl (lv_at hl 2 rfl) ?_
                      refine lv_i2l (v := Int32.toInt64 b) hx hb dX9_part_68 rfl ?_
                      refine lv_aload_n hx hb dX9_part_69 rfl (lv_at hl 0 rfl) ?_
                      refine lv_iload hx hb dX9_part_70 (lv_at hl 5 rfl) ?_
                      refine lv_iconst (v := 1) hx hb dX9_part_72 (by decide) ?_
                      refine pc_Vi (As := [.int x, .int 1]) (rest := [.long (Int32.toInt64 b)]) F (b_X9_inState l D cy A L60 h x 1 hG (hF.k hk (by decide))) (cwV 2 hts gX9_part_X9_inState rfl rfl rfl (by decide +kernel) ⟨Nat.le_of_ble_eq_true rfl, Nat.le_of_ble_eq_true rfl⟩) hK hZ hA hW hS (hF.k hk (by decide)) (by decide) rfl rfl hl.1 rfl (Nat.le_of_ble_eq_true rfl) dX9_part_73 ⟨Nat.le_of_ble_eq_true rfl, Nat.le_of_ble_eq_true rfl⟩ (fun v26 T27 H locs p28 hW hS => ?_)
                      obtain ⟨eT27, p28⟩ := p28
                      rw [eT27] at hW
                      clear eT27
                      refine lv_i2l (v := Int32.toInt64 v26) hx hb dX9_part_76 rfl ?_
                      refine lv_lmul hx hb dX9_part_77 ?_
                      refine lv_lstore (lv' := [(6, .long ((Int32.toInt64 b) * (Int32.toInt64 v26))), (0, .ref h), (1, .int a), (2, .int b), (3, .int z), (4, .int w), (5, .int x)]) hx hb dX9_part_78 hl (by decide) rfl (fun ls hl => ?_)
                      refine lv_aload_n hx hb dX9_part_80 rfl (lv_at hl 1 rfl) ?_
                      obtain ⟨b29, rb29, kb29, nb29⟩ := hG0.r hk List.not_mem_nil 61 (show rty 9 61 = some (11, 6) from rfl)
                      refine pg_gr (b := b29) (ci := 9) (C := RX9) (T := TX9) (N := 63) hx hb hts wi9 hown hK hW (hF.k hk (by decide)) (by decide) rfl 61 (by decide) (hts (.fieldLink RX9 133 "IceHallModel" "share" "[I") (by decide +kernel)) (fun _ h9 => h9) rfl (hF.r hk (by decide) rb29) dX9_part_81 ?_
                      refine lv_iload hx hb dX9_part_84 (lv_at hl 6 rfl) ?_
                      refine lv_lload hx hb dX9_part_86 (lv_at hl 0 rfl) ?_
                      refine lv_iload_n hx hb dX9_part_88 rfl (lv_at hl 4 rfl) ?_
                      refine lv_i2l (v := Int32.toInt64 z) hx hb dX9_part_89 rfl ?_
                      refine lv_ldiv hx hb dX9_part_90 (i64_ne (by omega)) ?_
                      refine lv_l2i (v := Int64.toInt32 (((Int32.toInt64 b) * (Int32.toInt64 v26)) / (Int32.toInt64 z))) hx hb dX9_part_91 rfl ?_
                      refine pg_iast hx hb hK hW hS (hF.k kb29 (by decide)) (by decide) (by rw [show sL L60 b29 = 6 from (hF.n kb29 (by decide) nb29)]; exact r_in (by omega)) dX9_part_92 (fun H locs hW hS => ?_)
                      have kq30 : sK L60 b29 = 11 := (hF.k kb29 (by decide))
                      obtain ⟨S31, eS31⟩ : ∃ T : St, T = stI L60 b29 (Int32.toNatClampNeg x) (Int64.toInt32 (((Int32.toInt64 b) * (Int32.toInt64 v26)) / (Int32.toInt64 z))) := ⟨_, rfl⟩
                      rw [← eS31] at hW
                      have hG : G S31 := by rw [eS31]; exact hG.I kq30 (ok_frA (by decide) (by decide))
                      have hF : Fr [] [1100] S S31 := by rw [eS31]; exact hF.IA kq30 (by decide) (by decide)
                      have hE9 : Fr [] [1100] L25 S31 := by rw [eS31]; exact hE9.IA kq30 (by decide) (by decide)
                      clear eS31
                      refine lv_aload_n hx hb dX9_part_93 rfl (lv_at hl 1 rfl) ?_
                      obtain ⟨b32, rb32, kb32, nb32⟩ := hG0.r hk List.not_mem_nil 62 (show rty 9 62 = some (12, 6) from rfl)
                      refine pg_gr (b := b32) (ci := 9) (C := RX9) (T := TX9) (N := 63) hx hb hts wi9 hown hK hW (hF.k hk (by decide)) (by decide) rfl 62 (by decide) (hts (.fieldLink RX9 136 "IceHallModel" "over" "[J") (by decide +kernel)) (fun _ h9 => h9) rfl (hF.r hk (by decide) rb32) dX9_part_94 ?_
                      refine lv_iload hx hb dX9_part_97 (lv_at hl 6 rfl) ?_
                      refine lv_lload hx hb dX9_part_99 (lv_at hl 0 rfl) ?_
                      refine lv_iload_n hx hb dX9_part_101 rfl (lv_at hl 4 rfl) ?_
                      refine lv_i2l (v := Int32.toInt64 z) hx hb dX9_part_102 rfl ?_
                      refine lv_lrem hx hb dX9_part_103 (i64_ne (by omega)) ?_
                      refine pg_last hx hb hK hW hS (hF.k kb32 (by decide)) (by rw [show sL S31 b32 = 6 from (hF.n kb32 (by decide) nb32)]; exact r_in (by omega)) dX9_part_104 (fun H locs hW hS => ?_)
                      obtain ⟨S33, eS33⟩ : ∃ T : St, T = stJ S31 b32 (Int32.toNatClampNeg x) (((Int32.toInt64 b) * (Int32.toInt64 v26)) - ((Int32.toInt64 b) * (Int32.toInt64 v26)) / (Int32.toInt64 z) * (Int32.toInt64 z)) := ⟨_, rfl⟩
                      rw [← eS33] at hW
                      have hG : G S33 := by rw [eS33]; exact hG.J
                      have hF : Fr [] [1100] S S33 := by rw [eS33]; exact hF.J
                      have hE9 : Fr [] [1100] L25 S33 := by rw [eS33]; exact hE9.J
                      clear eS33
                      refine lv_iload hx hb dX9_part_105 (lv_at hl 5 rfl) ?_
                      refine lv_aload_n hx hb dX9_part_107 rfl (lv_at hl 1 rfl) ?_
                      refine pg_gr (b := b29) (ci := 9) (C := RX9) (T := TX9) (N := 63) hx hb hts wi9 hown hK hW (hF.k hk (by decide)) (by decide) rfl 61 (by decide) (hts (.fieldLink RX9 133 "IceHallModel" "share" "[I") (by decide +kernel)) (fun _ h9 => h9) rfl (hF.r hk (by decide) rb29) dX9_part_108 ?_
                      refine lv_iload hx hb dX9_part_111 (lv_at hl 6 rfl) ?_
                      refine pg_iald hx hb hK hW (hF.k kb29 (by decide)) (by decide) (by rw [show sL S33 b29 = 6 from (hF.n kb29 (by decide) nb29)]; exact r_in (by omega)) dX9_part_113 ?_
                      refine lv_isub hx hb dX9_part_114 ?_
                      refine lv_istore (lv' := [(4, .int (w - (sI S33 b29 (Int32.toNatClampNeg x)))), (6, .long ((Int32.toInt64 b) * (Int32.toInt64 v26))), (0, .ref h), (1, .int a), (2, .int b), (3, .int z), (5, .int x)]) hx hb dX9_part_115 hl (by decide) rfl (fun ls hl => ?_)
                      refine lv_iinc (v := x + 1) (lv' := [(5, .int (x + 1)), (4, .int (w - (sI S33 b29 (Int32.toNatClampNeg x)))), (6, .long ((Int32.toInt64 b) * (Int32.toInt64 v26))), (0, .ref h), (1, .int a), (2, .int b), (3, .int z)]) hx hb dX9_part_117 hl (k := 6) rfl rfl (by decide) rfl (fun ls hl => ?_)
                      have i34 : (x + 1).toInt = (x).toInt + 1 := i3_add rfl rfl (by omega) (by omega)
                      refine lv_goto (tgt := 60) hx hb dX9_part_120 (by decide) ?_
                      exact ih60 (w - (sI S33 b29 (Int32.toNatClampNeg x))) (x + 1) S33 _ _ ls hG hE9 (by omega) (by omega) hW hS (lv_cast (lv_sub hl [3, 4, 5, 6, 1, 0] rfl) (rfl))
                exact loop60 _ b 0 L25 _ _ ls hG hE9 (by decide) (Nat.lt_succ_self _) hW hS (lv_cast (lv_sub hl [2, 3, 4, 5, 1, 0] rfl) (rfl))
              · have c8i : Int32.toInt z = (0 : Int) := (i3_eq _ _).mp c8
                refine lv_iconst (v := (-1)) hx hb dX9_part_52 (by decide) ?_
                exact pc_iret (v := (-1)) (S := L25) hx hb hr hlk hK hZ hA hW hS (⟨hG, hF, trivial⟩) dX9_part_53
            · have c7i : ¬ ((6 : Int) ≤ Int32.toInt y) := fun h9 => c7 ((i3_le _ _).mpr h9)
              refine lv_iload_n hx hb dX9_part_32 rfl (lv_at hl 3 rfl) ?_
              refine lv_aload_n hx hb dX9_part_33 rfl (lv_at hl 0 rfl) ?_
              refine lv_iload hx hb dX9_part_34 (lv_at hl 4 rfl) ?_
              refine lv_iconst (v := 1) hx hb dX9_part_36 (by decide) ?_
              refine pc_Vi (As := [.int y, .int 1]) (rest := [.int z]) F (b_X9_inState l D cy A L25 h y 1 hG (hF.k hk (by decide))) (cwV 2 hts gX9_part_X9_inState rfl rfl rfl (by decide +kernel) ⟨Nat.le_of_ble_eq_true rfl, Nat.le_of_ble_eq_true rfl⟩) hK hZ hA hW hS (hF.k hk (by decide)) (by decide) rfl rfl hl.1 rfl (Nat.le_of_ble_eq_true rfl) dX9_part_37 ⟨Nat.le_of_ble_eq_true rfl, Nat.le_of_ble_eq_true rfl⟩ (fun v35 T36 H locs p37 hW hS => ?_)
              obtain ⟨eT36, p37⟩ := p37
              rw [eT36] at hW
              clear eT36
              refine lv_iadd hx hb dX9_part_40 ?_
              refine lv_istore_n (lv' := [(3, .int (z + v35)), (0, .ref h), (1, .int a), (2, .int b), (4, .int y)]) hx hb dX9_part_41 rfl hl (by decide) rfl (fun ls hl => ?_)
              refine lv_iinc (v := y + 1) (lv' := [(4, .int (y + 1)), (3, .int (z + v35)), (0, .ref h), (1, .int a), (2, .int b)]) hx hb dX9_part_42 hl (k := 4) rfl rfl (by decide) rfl (fun ls hl => ?_)
              have i38 : (y + 1).toInt = (y).toInt + 1 := i3_add rfl rfl (by omega) (by omega)
              refine lv_goto (tgt := 25) hx hb dX9_part_45 (by decide) ?_
              exact ih25 (z + v35) (y + 1) L25 _ _ ls hG hF (by omega) (by omega) hW hS (lv_cast (lv_sub hl [2, 3, 4, 1, 0] rfl) (rfl))
        exact loop25 _ 0 0 S _ _ ls hG hF (by decide) (Nat.lt_succ_self _) hW hS (lv_cast (lv_sub hl [2, 3, 4, 1, 0] rfl) (rfl))
      · have c6i : ¬ (Int32.toInt b ≤ (100000 : Int)) := fun h9 => c6 ((i3_le _ _).mpr h9)
        refine lv_iconst (v := (-1)) hx hb dX9_part_18 (by decide) ?_
        exact pc_iret (v := (-1)) (S := S) hx hb hr hlk hK hZ hA hW hS (⟨hG, hF, trivial⟩) dX9_part_19
set_option maxHeartbeats 4000000 in
set_option maxRecDepth 100000 in
theorem b_X9_look (l : Launch) (D : va_G) (cy : Nat → ClassId) (A : Nat → Prop) (S : St) (h : Nat) (a b : Int32) (hG0 : G S) (hk : sK S h = 9) : MI l yX9_look wsX9_look ({ frames := 1, cells := 0, slots := 0, locals := 21 } : Room) 0 0 D cy A [.ref h, .int a, .int b] S (fun r S1 => S1 = S ∧ True) := by
  refine mt_start (cc := cX9_look) (maxL := 3) (ret := (some .int)) (by decide) rfl (Nat.le_of_ble_eq_true rfl) ?_
  intro p e s m args below meth c hx hb hr hlk hml hown hnm hts hK hZ hA hW hS ls hl
  have hl : lv_has ls 3 [(0, .ref h), (1, .int a), (2, .int b)] := hl
  have hown : s.vm.findClass RX9 = some m.cls := hown
  have F : CallFix p m c cX9_look 3 s args wsX9_look RX9 := ⟨hx, hb, hml, hown, hts⟩
  have wi9 : ∀ w ∈ u_ws RX9 TX9 63, w ∈ wsX9_look := by decide +kernel
  have hG := hG0
  refine lv_aload_n hx hb dX9_look_0 rfl (lv_at hl 0 rfl) ?_
  refine lv_iload_n hx hb dX9_look_1 rfl (lv_at hl 1 rfl) ?_
  refine pc_Vi (As := [.int a]) (rest := []) F (b_X9_isSession l D cy A S h a hG hk) (cwV 1 hts gX9_look_X9_isSession rfl rfl rfl (by decide +kernel) ⟨Nat.le_of_ble_eq_true rfl, Nat.le_of_ble_eq_true rfl⟩) hK hZ hA hW hS hk (by decide) rfl rfl hl.1 rfl (Nat.le_of_ble_eq_true rfl) dX9_look_2 ⟨Nat.le_of_ble_eq_true rfl, Nat.le_of_ble_eq_true rfl⟩ (fun v1 T2 H locs p3 hW hS => ?_)
  obtain ⟨eT2, p3⟩ := p3
  rw [eT2] at hW
  clear eT2
  refine lv_if_ne (tgt := 10) hx hb dX9_look_5 (by decide) (fun c4 => ?_) (fun c4 => ?_)
  · have c4i : ¬ (Int32.toInt v1 = (0 : Int)) := fun h9 => c4 ((i3_eq _ _).mpr h9)
    refine lv_iload_n hx hb dX9_look_10 rfl (lv_at hl 2 rfl) ?_
    by_cases c5 : b = 0
    · have c5i : Int32.toInt b = 0 := by rw [c5]; rfl
      refine lv_tableIn (off := 49) (tgt := 60) hx hb dX9_look_11 (by rw [c5]; decide) (by rw [c5]; decide) (by rw [c5]; rfl) (by decide) ?_
      refine lv_aload_n hx hb dX9_look_60 rfl (lv_at hl 0 rfl) ?_
      obtain ⟨b6, rb6, kb6, nb6⟩ := hG0.r hk List.not_mem_nil 37 (show rty 9 37 = some (11, 200) from rfl)
      refine pg_gr (b := b6) (ci := 9) (C := RX9) (T := TX9) (N := 63) hx hb hts wi9 hown hK hW hk (by decide) rfl 37 (by decide) (hts (.fieldLink RX9 73 "IceHallModel" "clubOf" "[I") (by decide +kernel)) (fun _ h9 => h9) rfl rb6 dX9_look_61 ?_
      refine lv_iload_n hx hb dX9_look_64 rfl (lv_at hl 1 rfl) ?_
      refine pg_iald hx hb hK hW kb6 (by decide) (by rw [show sL S b6 = 200 from nb6]; exact r_in (by omega)) dX9_look_65 ?_
      exact pc_iret (v := sI S b6 (Int32.toNatClampNeg a)) (S := S) hx hb hr hlk hK hZ hA hW hS (⟨rfl, trivial⟩) dX9_look_66
    by_cases c7 : b = 1
    · have c7i : Int32.toInt b = 1 := by rw [c7]; rfl
      refine lv_tableIn (off := 56) (tgt := 67) hx hb dX9_look_11 (by rw [c7]; decide) (by rw [c7]; decide) (by rw [c7]; rfl) (by decide) ?_
      refine lv_aload_n hx hb dX9_look_67 rfl (lv_at hl 0 rfl) ?_
      obtain ⟨b8, rb8, kb8, nb8⟩ := hG0.r hk List.not_mem_nil 38 (show rty 9 38 = some (11, 200) from rfl)
      refine pg_gr (b := b8) (ci := 9) (C := RX9) (T := TX9) (N := 63) hx hb hts wi9 hown hK hW hk (by decide) rfl 38 (by decide) (hts (.fieldLink RX9 76 "IceHallModel" "kindOf" "[I") (by decide +kernel)) (fun _ h9 => h9) rfl rb8 dX9_look_68 ?_
      refine lv_iload_n hx hb dX9_look_71 rfl (lv_at hl 1 rfl) ?_
      refine pg_iald hx hb hK hW kb8 (by decide) (by rw [show sL S b8 = 200 from nb8]; exact r_in (by omega)) dX9_look_72 ?_
      exact pc_iret (v := sI S b8 (Int32.toNatClampNeg a)) (S := S) hx hb hr hlk hK hZ hA hW hS (⟨rfl, trivial⟩) dX9_look_73
    by_cases c9 : b = 2
    · have c9i : Int32.toInt b = 2 := by rw [c9]; rfl
      refine lv_tableIn (off := 63) (tgt := 74) hx hb dX9_look_11 (by rw [c9]; decide) (by rw [c9]; decide) (by rw [c9]; rfl) (by decide) ?_
      refine lv_aload_n hx hb dX9_look_74 rfl (lv_at hl 0 rfl) ?_
      obtain ⟨b10, rb10, kb10, nb10⟩ := hG0.r hk List.not_mem_nil 39 (show rty 9 39 = some (11, 200) from rfl)
      refine pg_gr (b := b10) (ci := 9) (C := RX9) (T := TX9) (N := 63) hx hb hts wi9 hown hK hW hk (by decide) rfl 39 (by decide) (hts (.fieldLink RX9 79 "IceHallModel" "sheetOf" "[I") (by decide +kernel)) (fun _ h9 => h9) rfl rb10 dX9_look_75 ?_
      refine lv_iload_n hx hb dX9_look_78 rfl (lv_at hl 1 rfl) ?_
      refine pg_iald hx hb hK hW kb10 (by decide) (by rw [show sL S b10 = 200 from nb10]; exact r_in (by omega)) dX9_look_79 ?_
      exact pc_iret (v := sI S b10 (Int32.toNatClampNeg a)) (S := S) hx hb hr hlk hK hZ hA hW hS (⟨rfl, trivial⟩) dX9_look_80
    by_cases c11 : b = 3
    · have c11i : Int32.toInt b = 3 := by rw [c11]; rfl
      refine lv_tableIn (off := 70) (tgt := 81) hx hb dX9_look_11 (by rw [c11]; decide) (by rw [c11]; decide) (by rw [c11]; rfl) (by decide) ?_
      refine lv_aload_n hx hb dX9_look_81 rfl (lv_at hl 0 rfl) ?_
      obtain ⟨b12, rb12, kb12, nb12⟩ := hG0.r hk List.not_mem_nil 40 (show rty 9 40 = some (16, 200) from rfl)
      refine pg_gr (b := b12) (ci := 9) (C := RX9) (T := TX9) (N := 63) hx hb hts wi9 hown hK hW hk (by decide) rfl 40 (by decide) (hts (.fieldLink RX9 82 "IceHallModel" "hourOf" "[I") (by decide +kernel)) (fun _ h9 => h9) rfl rb12 dX9_look_82 ?_
      refine lv_iload_n hx hb dX9_look_85 rfl (lv_at hl 1 rfl) ?_
      refine pg_iald hx hb hK hW kb12 (by decide) (by rw [show sL S b12 = 200 from nb12]; exact r_in (by omega)) dX9_look_86 ?_
      have g13 : (-10 : Int) ≤ (sI S b12 (Int32.toNatClampNeg a)).toInt ∧ (sI S b12 (Int32.toNatClampNeg a)).toInt ≤ 2000 := hG.iA kb12 (by decide) (by decide) (Int32.toNatClampNeg a) (by decide)
      exact pc_iret (v := sI S b12 (Int32.toNatClampNeg a)) (S := S) hx hb hr hlk hK hZ hA hW hS (⟨rfl, trivial⟩) dX9_look_87
    by_cases c14 : b = 4
    · have c14i : Int32.toInt b = 4 := by rw [c14]; rfl
      refine lv_tableIn (off := 77) (tgt := 88) hx hb dX9_look_11 (by rw [c14]; decide) (by rw [c14]; decide) (by rw [c14]; rfl) (by decide) ?_
      refine lv_aload_n hx hb dX9_look_88 rfl (lv_at hl 0 rfl) ?_
      obtain ⟨b15, rb15, kb15, nb15⟩ := hG0.r hk List.not_mem_nil 41 (show rty 9 41 = some (11, 200) from rfl)
      refine pg_gr (b := b15) (ci := 9) (C := RX9) (T := TX9) (N := 63) hx hb hts wi9 hown hK hW hk (by decide) rfl 41 (by decide) (hts (.fieldLink RX9 85 "IceHallModel" "state" "[I") (by decide +kernel)) (fun _ h9 => h9) rfl rb15 dX9_look_89 ?_
      refine lv_iload_n hx hb dX9_look_92 rfl (lv_at hl 1 rfl) ?_
      refine pg_iald hx hb hK hW kb15 (by decide) (by rw [show sL S b15 = 200 from nb15]; exact r_in (by omega)) dX9_look_93 ?_
      exact pc_iret (v := sI S b15 (Int32.toNatClampNeg a)) (S := S) hx hb hr hlk hK hZ hA hW hS (⟨rfl, trivial⟩) dX9_look_94
    by_cases c16 : b = 5
    · have c16i : Int32.toInt b = 5 := by rw [c16]; rfl
      refine lv_tableIn (off := 84) (tgt := 95) hx hb dX9_look_11 (by rw [c16]; decide) (by rw [c16]; decide) (by rw [c16]; rfl) (by decide) ?_
      refine lv_aload_n hx hb dX9_look_95 rfl (lv_at hl 0 rfl) ?_
      obtain ⟨b17, rb17, kb17, nb17⟩ := hG0.r hk List.not_mem_nil 42 (show rty 9 42 = some (11, 200) from rfl)
      refine pg_gr (b := b17) (ci := 9) (C := RX9) (T := TX9) (N := 63) hx hb hts wi9 hown hK hW hk (by decide) rfl 42 (by decide) (hts (.fieldLink RX9 88 "IceHallModel" "why" "[I") (by decide +kernel)) (fun _ h9 => h9) rfl rb17 dX9_look_96 ?_
      refine lv_iload_n hx hb dX9_look_99 rfl (lv_at hl 1 rfl) ?_
      refine pg_iald hx hb hK hW kb17 (by decide) (by rw [show sL S b17 = 200 from nb17]; exact r_in (by omega)) dX9_look_100 ?_
      exact pc_iret (v := sI S b17 (Int32.toNatClampNeg a)) (S := S) hx hb hr hlk hK hZ hA hW hS (⟨rfl, trivial⟩) dX9_look_101
    by_cases c18 : b = 6
    · have c18i : Int32.toInt b = 6 := by rw [c18]; rfl
      refine lv_tableIn (off := 91) (tgt := 102) hx hb dX9_look_11 (by rw [c18]; decide) (by rw [c18]; decide) (by rw [c18]; rfl) (by decide) ?_
      refine lv_aload_n hx hb dX9_look_102 rfl (lv_at hl 0 rfl) ?_
      obtain ⟨b19, rb19, kb19, nb19⟩ := hG0.r hk List.not_mem_nil 43 (show rty 9 43 = some (11, 200) from rfl)
      refine pg_gr (b := b19) (ci := 9) (C := RX9) (T := TX9) (N := 63) hx hb hts wi9 hown hK hW hk (by decide) rfl 43 (by decide) (hts (.fieldLink RX9 91 "IceHallModel" "feeOf" "[I") (by decide +kernel)) (fun _ h9 => h9) rfl rb19 dX9_look_103 ?_
      refine lv_iload_n hx hb dX9_look_106 rfl (lv_at hl 1 rfl) ?_
      refine pg_iald hx hb hK hW kb19 (by decide) (by rw [show sL S b19 = 200 from nb19]; exact r_in (by omega)) dX9_look_107 ?_
      exact pc_iret (v := sI S b19 (Int32.toNatClampNeg a)) (S := S) hx hb hr hlk hK hZ hA hW hS (⟨rfl, trivial⟩) dX9_look_108
    by_cases c20 : b = 7
    · have c20i : Int32.toInt b = 7 := by rw [c20]; rfl
      refine lv_tableIn (off := 98) (tgt := 109) hx hb dX9_look_11 (by rw [c20]; decide) (by rw [c20]; decide) (by rw [c20]; rfl) (by decide) ?_
      refine lv_aload_n hx hb dX9_look_109 rfl (lv_at hl 0 rfl) ?_
      refine lv_iload_n hx hb dX9_look_110 rfl (lv_at hl 1 rfl) ?_
      refine pc_Vi (As := [.int a]) (rest := []) F (b_X9_owes l D cy A S h a hG hk (by omega) (by omega)) (cwV 1 hts gX9_look_X9_owes rfl rfl rfl (by decide +kernel) ⟨Nat.le_of_ble_eq_true rfl, Nat.le_of_ble_eq_true rfl⟩) hK hZ hA hW hS hk (by decide) rfl rfl hl.1 rfl (Nat.le_of_ble_eq_true rfl) dX9_look_111 ⟨Nat.le_of_ble_eq_true rfl, Nat.le_of_ble_eq_true rfl⟩ (fun v21 T22 H locs p23 hW hS => ?_)
      obtain ⟨eT22, p23⟩ := p23
      rw [eT22] at hW
      clear eT22
      exact pc_iret (v := v21) (S := S) hx hb hr hlk hK hZ hA hW hS (⟨rfl, trivial⟩) dX9_look_114
    by_cases c24 : b = 8
    · have c24i : Int32.toInt b = 8 := by rw [c24]; rfl
      refine lv_tableIn (off := 104) (tgt := 115) hx hb dX9_look_11 (by rw [c24]; decide) (by rw [c24]; decide) (by rw [c24]; rfl) (by decide) ?_
      refine lv_aload_n hx hb dX9_look_115 rfl (lv_at hl 0 rfl) ?_
      obtain ⟨b25, rb25, kb25, nb25⟩ := hG0.r hk List.not_mem_nil 45 (show rty 9 45 = some (11, 200) from rfl)
      refine pg_gr (b := b25) (ci := 9) (C := RX9) (T := TX9) (N := 63) hx hb hts wi9 hown hK hW hk (by decide) rfl 45 (by decide) (hts (.fieldLink RX9 97 "IceHallModel" "moved" "[I") (by decide +kernel)) (fun _ h9 => h9) rfl rb25 dX9_look_116 ?_
      refine lv_iload_n hx hb dX9_look_119 rfl (lv_at hl 1 rfl) ?_
      refine pg_iald hx hb hK hW kb25 (by decide) (by rw [show sL S b25 = 200 from nb25]; exact r_in (by omega)) dX9_look_120 ?_
      exact pc_iret (v := sI S b25 (Int32.toNatClampNeg a)) (S := S) hx hb hr hlk hK hZ hA hW hS (⟨rfl, trivial⟩) dX9_look_121
    have c5i : ¬ Int32.toInt b = 0 := lv_neT c5 rfl
    have c7i : ¬ Int32.toInt b = 1 := lv_neT c7 rfl
    have c9i : ¬ Int32.toInt b = 2 := lv_neT c9 rfl
    have c11i : ¬ Int32.toInt b = 3 := lv_neT c11 rfl
    have c14i : ¬ Int32.toInt b = 4 := lv_neT c14 rfl
    have c16i : ¬ Int32.toInt b = 5 := lv_neT c16 rfl
    have c18i : ¬ Int32.toInt b = 6 := lv_neT c18 rfl
    have c20i : ¬ Int32.toInt b = 7 := lv_neT c20 rfl
    have c24i : ¬ Int32.toInt b = 8 := lv_neT c24 rfl
    refine lv_tableOut (tgt := 122) hx hb dX9_look_11 (by have qc5 := lv_neT c5 (a := 0) rfl; have qc7 := lv_neT c7 (a := 1) rfl; have qc9 := lv_neT c9 (a := 2) rfl; have qc11 := lv_neT c11 (a := 3) rfl; have qc14 := lv_neT c14 (a := 4) rfl; have qc16 := lv_neT c16 (a := 5) rfl; have qc18 := lv_neT c18 (a := 6) rfl; have qc20 := lv_neT c20 (a := 7) rfl; have qc24 := lv_neT c24 (a := 8) rfl; omega) (by decide) ?_
    refine lv_iconst (v := (-1)) hx hb dX9_look_122 (by decide) ?_
    exact pc_iret (v := (-1)) (S := S) hx hb hr hlk hK hZ hA hW hS (⟨rfl, trivial⟩) dX9_look_123
  · have c4i : Int32.toInt v1 = (0 : Int) := (i3_eq _ _).mp c4
    refine lv_iconst (v := (-1)) hx hb dX9_look_8 (by decide) ?_
    exact pc_iret (v := (-1)) (S := S) hx hb hr hlk hK hZ hA hW hS (⟨rfl, trivial⟩) dX9_look_9
set_option maxHeartbeats 4000000 in
set_option maxRecDepth 100000 in
theorem b_X9_at (l : Launch) (D : va_G) (cy : Nat → ClassId) (A : Nat → Prop) (S : St) (h : Nat) (a b : Int32) (hG0 : G S) (hk : sK S h = 9) : MI l yX9_at wsX9_at ({ frames := 1, cells := 0, slots := 0, locals := 23 } : Room) 0 0 D cy A [.ref h, .int a, .int b] S (fun r S1 => S1 = S ∧ True) := by
  refine mt_start (cc := cX9_at) (maxL := 3) (ret := (some .int)) (by decide) rfl (Nat.le_of_ble_eq_true rfl) ?_
  intro p e s m args below meth c hx hb hr hlk hml hown hnm hts hK hZ hA hW hS ls hl
  have hl : lv_has ls 3 [(0, .ref h), (1, .int a), (2, .int b)] := hl
  have hown : s.vm.findClass RX9 = some m.cls := hown
  have F : CallFix p m c cX9_at 3 s args wsX9_at RX9 := ⟨hx, hb, hml, hown, hts⟩
  have hG := hG0
  refine lv_iload_n hx hb dX9_at_0 rfl (lv_at hl 1 rfl) ?_
  refine pc_Si (As := [.int a]) (rest := []) F (b_X9_isSheet l D cy A S a ) (va_cwS 1 hts gX9_at_X9_isSheet rfl rfl rfl (by decide +kernel) ⟨Nat.le_of_ble_eq_true rfl, Nat.le_of_ble_eq_true rfl⟩) hK hZ hA hW hS rfl hl.1 rfl (Nat.le_of_ble_eq_true rfl) dX9_at_1 ⟨Nat.le_of_ble_eq_true rfl, Nat.le_of_ble_eq_true rfl⟩ (fun v1 T2 H locs p3 hW hS => ?_)
  obtain ⟨eT2, p3⟩ := p3
  rw [eT2] at hW
  clear eT2
  refine lv_if_eq (tgt := 20) hx hb dX9_at_4 (by decide) (fun c4 => ?_) (fun c4 => ?_)
  · have c4i : Int32.toInt v1 = (0 : Int) := (i3_eq _ _).mp c4
    refine lv_iconst (v := (-1)) hx hb dX9_at_20 (by decide) ?_
    exact pc_iret (v := (-1)) (S := S) hx hb hr hlk hK hZ hA hW hS (⟨rfl, trivial⟩) dX9_at_21
  · have c4i : ¬ (Int32.toInt v1 = (0 : Int)) := fun h9 => c4 ((i3_eq _ _).mpr h9)
    refine lv_iload_n hx hb dX9_at_7 rfl (lv_at hl 2 rfl) ?_
    refine lv_if_lt (tgt := 20) hx hb dX9_at_8 (by decide) (fun c5 => ?_) (fun c5 => ?_)
    · have c5i : Int32.toInt b < (0 : Int) := (i3_lt _ _).mp c5
      refine lv_iconst (v := (-1)) hx hb dX9_at_20 (by decide) ?_
      exact pc_iret (v := (-1)) (S := S) hx hb hr hlk hK hZ hA hW hS (⟨rfl, trivial⟩) dX9_at_21
    · have c5i : ¬ (Int32.toInt b < (0 : Int)) := fun h9 => c5 ((i3_lt _ _).mpr h9)
      refine lv_aload_n hx hb dX9_at_11 rfl (lv_at hl 0 rfl) ?_
      refine lv_iload_n hx hb dX9_at_12 rfl (lv_at hl 1 rfl) ?_
      refine lv_iload_n hx hb dX9_at_13 rfl (lv_at hl 2 rfl) ?_
      refine pc_Vi (As := [.int a, .int b]) (rest := []) F (b_X9_standing l D cy A S h a b hG hk) (cwV 2 hts gX9_at_X9_standing rfl rfl rfl (by decide +kernel) ⟨Nat.le_of_ble_eq_true rfl, Nat.le_of_ble_eq_true rfl⟩) hK hZ hA hW hS hk (by decide) rfl rfl hl.1 rfl (Nat.le_of_ble_eq_true rfl) dX9_at_14 ⟨Nat.le_of_ble_eq_true rfl, Nat.le_of_ble_eq_true rfl⟩ (fun v6 T7 H locs p8 hW hS => ?_)
      obtain ⟨eT7, p8⟩ := p8
      rw [eT7] at hW
      clear eT7
      refine lv_goto (tgt := 21) hx hb dX9_at_17 (by decide) ?_
      exact pc_iret (v := v6) (S := S) hx hb hr hlk hK hZ hA hW hS (⟨rfl, trivial⟩) dX9_at_21
set_option maxHeartbeats 4000000 in
set_option maxRecDepth 100000 in
theorem b_X9_sheet (l : Launch) (D : va_G) (cy : Nat → ClassId) (A : Nat → Prop) (S : St) (h : Nat) (a b : Int32) (hG0 : G S) (hk : sK S h = 9) : MI l yX9_sheet wsX9_sheet ({ frames := 1, cells := 0, slots := 0, locals := 23 } : Room) 0 0 D cy A [.ref h, .int a, .int b] S (fun r S1 => S1 = S ∧ True) := by
  refine mt_start (cc := cX9_sheet) (maxL := 3) (ret := (some .int)) (by decide) rfl (Nat.le_of_ble_eq_true rfl) ?_
  intro p e s m args below meth c hx hb hr hlk hml hown hnm hts hK hZ hA hW hS ls hl
  have hl : lv_has ls 3 [(0, .ref h), (1, .int a), (2, .int b)] := hl
  have hown : s.vm.findClass RX9 = some m.cls := hown
  have F : CallFix p m c cX9_sheet 3 s args wsX9_sheet RX9 := ⟨hx, hb, hml, hown, hts⟩
  have wi9 : ∀ w ∈ u_ws RX9 TX9 63, w ∈ wsX9_sheet := by decide +kernel
  have hG := hG0
  refine lv_iload_n hx hb dX9_sheet_0 rfl (lv_at hl 1 rfl) ?_
  refine pc_Si (As := [.int a]) (rest := []) F (b_X9_isSheet l D cy A S a ) (va_cwS 1 hts gX9_sheet_X9_isSheet rfl rfl rfl (by decide +kernel) ⟨Nat.le_of_ble_eq_true rfl, Nat.le_of_ble_eq_true rfl⟩) hK hZ hA hW hS rfl hl.1 rfl (Nat.le_of_ble_eq_true rfl) dX9_sheet_1 ⟨Nat.le_of_ble_eq_true rfl, Nat.le_of_ble_eq_true rfl⟩ (fun v1 T2 H locs p3 hW hS => ?_)
  obtain ⟨eT2, p3⟩ := p3
  rw [eT2] at hW
  clear eT2
  refine lv_if_ne (tgt := 9) hx hb dX9_sheet_4 (by decide) (fun c4 => ?_) (fun c4 => ?_)
  · have c4i : ¬ (Int32.toInt v1 = (0 : Int)) := fun h9 => c4 ((i3_eq _ _).mpr h9)
    refine lv_iload_n hx hb dX9_sheet_9 rfl (lv_at hl 2 rfl) ?_
    by_cases c5 : b = 0
    · have c5i : Int32.toInt b = 0 := by rw [c5]; rfl
      refine lv_tableIn (off := 38) (tgt := 48) hx hb dX9_sheet_10 (by rw [c5]; decide) (by rw [c5]; decide) (by rw [c5]; rfl) (by decide) ?_
      refine lv_aload_n hx hb dX9_sheet_48 rfl (lv_at hl 0 rfl) ?_
      obtain ⟨b6, rb6, kb6, nb6⟩ := hG0.r hk List.not_mem_nil 27 (show rty 9 27 = some (11, 2) from rfl)
      refine pg_gr (b := b6) (ci := 9) (C := RX9) (T := TX9) (N := 63) hx hb hts wi9 hown hK hW hk (by decide) rfl 27 (by decide) (hts (.fieldLink RX9 48 "IceHallModel" "thick" "[I") (by decide +kernel)) (fun _ h9 => h9) rfl rb6 dX9_sheet_49 ?_
      refine lv_iload_n hx hb dX9_sheet_52 rfl (lv_at hl 1 rfl) ?_
      refine pg_iald hx hb hK hW kb6 (by decide) (by rw [show sL S b6 = 2 from nb6]; exact r_in (by omega)) dX9_sheet_53 ?_
      exact pc_iret (v := sI S b6 (Int32.toNatClampNeg a)) (S := S) hx hb hr hlk hK hZ hA hW hS (⟨rfl, trivial⟩) dX9_sheet_54
    by_cases c7 : b = 1
    · have c7i : Int32.toInt b = 1 := by rw [c7]; rfl
      refine lv_tableIn (off := 45) (tgt := 55) hx hb dX9_sheet_10 (by rw [c7]; decide) (by rw [c7]; decide) (by rw [c7]; rfl) (by decide) ?_
      refine lv_aload_n hx hb dX9_sheet_55 rfl (lv_at hl 0 rfl) ?_
      obtain ⟨b8, rb8, kb8, nb8⟩ := hG0.r hk List.not_mem_nil 28 (show rty 9 28 = some (11, 2) from rfl)
      refine pg_gr (b := b8) (ci := 9) (C := RX9) (T := TX9) (N := 63) hx hb hts wi9 hown hK hW hk (by decide) rfl 28 (by decide) (hts (.fieldLink RX9 51 "IceHallModel" "ruts" "[I") (by decide +kernel)) (fun _ h9 => h9) rfl rb8 dX9_sheet_56 ?_
      refine lv_iload_n hx hb dX9_sheet_59 rfl (lv_at hl 1 rfl) ?_
      refine pg_iald hx hb hK hW kb8 (by decide) (by rw [show sL S b8 = 2 from nb8]; exact r_in (by omega)) dX9_sheet_60 ?_
      exact pc_iret (v := sI S b8 (Int32.toNatClampNeg a)) (S := S) hx hb hr hlk hK hZ hA hW hS (⟨rfl, trivial⟩) dX9_sheet_61
    by_cases c9 : b = 2
    · have c9i : Int32.toInt b = 2 := by rw [c9]; rfl
      refine lv_tableIn (off := 52) (tgt := 62) hx hb dX9_sheet_10 (by rw [c9]; decide) (by rw [c9]; decide) (by rw [c9]; rfl) (by decide) ?_
      refine lv_aload_n hx hb dX9_sheet_62 rfl (lv_at hl 0 rfl) ?_
      obtain ⟨b10, rb10, kb10, nb10⟩ := hG0.r hk List.not_mem_nil 29 (show rty 9 29 = some (11, 2) from rfl)
      refine pg_gr (b := b10) (ci := 9) (C := RX9) (T := TX9) (N := 63) hx hb hts wi9 hown hK hW hk (by decide) rfl 29 (by decide) (hts (.fieldLink RX9 54 "IceHallModel" "shaved" "[I") (by decide +kernel)) (fun _ h9 => h9) rfl rb10 dX9_sheet_63 ?_
      refine lv_iload_n hx hb dX9_sheet_66 rfl (lv_at hl 1 rfl) ?_
      refine pg_iald hx hb hK hW kb10 (by decide) (by rw [show sL S b10 = 2 from nb10]; exact r_in (by omega)) dX9_sheet_67 ?_
      exact pc_iret (v := sI S b10 (Int32.toNatClampNeg a)) (S := S) hx hb hr hlk hK hZ hA hW hS (⟨rfl, trivial⟩) dX9_sheet_68
    by_cases c11 : b = 3
    · have c11i : Int32.toInt b = 3 := by rw [c11]; rfl
      refine lv_tableIn (off := 59) (tgt := 69) hx hb dX9_sheet_10 (by rw [c11]; decide) (by rw [c11]; decide) (by rw [c11]; rfl) (by decide) ?_
      refine lv_aload_n hx hb dX9_sheet_69 rfl (lv_at hl 0 rfl) ?_
      obtain ⟨b12, rb12, kb12, nb12⟩ := hG0.r hk List.not_mem_nil 30 (show rty 9 30 = some (11, 2) from rfl)
      refine pg_gr (b := b12) (ci := 9) (C := RX9) (T := TX9) (N := 63) hx hb hts wi9 hown hK hW hk (by decide) rfl 30 (by decide) (hts (.fieldLink RX9 57 "IceHallModel" "flooded" "[I") (by decide +kernel)) (fun _ h9 => h9) rfl rb12 dX9_sheet_70 ?_
      refine lv_iload_n hx hb dX9_sheet_73 rfl (lv_at hl 1 rfl) ?_
      refine pg_iald hx hb hK hW kb12 (by decide) (by rw [show sL S b12 = 2 from nb12]; exact r_in (by omega)) dX9_sheet_74 ?_
      exact pc_iret (v := sI S b12 (Int32.toNatClampNeg a)) (S := S) hx hb hr hlk hK hZ hA hW hS (⟨rfl, trivial⟩) dX9_sheet_75
    by_cases c13 : b = 4
    · have c13i : Int32.toInt b = 4 := by rw [c13]; rfl
      refine lv_tableIn (off := 66) (tgt := 76) hx hb dX9_sheet_10 (by rw [c13]; decide) (by rw [c13]; decide) (by rw [c13]; rfl) (by decide) ?_
      refine lv_aload_n hx hb dX9_sheet_76 rfl (lv_at hl 0 rfl) ?_
      obtain ⟨b14, rb14, kb14, nb14⟩ := hG0.r hk List.not_mem_nil 31 (show rty 9 31 = some (11, 2) from rfl)
      refine pg_gr (b := b14) (ci := 9) (C := RX9) (T := TX9) (N := 63) hx hb hts wi9 hown hK hW hk (by decide) rfl 31 (by decide) (hts (.fieldLink RX9 60 "IceHallModel" "melted" "[I") (by decide +kernel)) (fun _ h9 => h9) rfl rb14 dX9_sheet_77 ?_
      refine lv_iload_n hx hb dX9_sheet_80 rfl (lv_at hl 1 rfl) ?_
      refine pg_iald hx hb hK hW kb14 (by decide) (by rw [show sL S b14 = 2 from nb14]; exact r_in (by omega)) dX9_sheet_81 ?_
      exact pc_iret (v := sI S b14 (Int32.toNatClampNeg a)) (S := S) hx hb hr hlk hK hZ hA hW hS (⟨rfl, trivial⟩) dX9_sheet_82
    by_cases c15 : b = 5
    · have c15i : Int32.toInt b = 5 := by rw [c15]; rfl
      refine lv_tableIn (off := 73) (tgt := 83) hx hb dX9_sheet_10 (by rw [c15]; decide) (by rw [c15]; decide) (by rw [c15]; rfl) (by decide) ?_
      refine lv_aload_n hx hb dX9_sheet_83 rfl (lv_at hl 0 rfl) ?_
      refine lv_iload_n hx hb dX9_sheet_84 rfl (lv_at hl 1 rfl) ?_
      refine lv_aload_n hx hb dX9_sheet_85 rfl (lv_at hl 0 rfl) ?_
      refine pg_gi (ci := 9) (C := RX9) (T := TX9) (N := 63) hx hb hts wi9 hown hK hW hk (by decide) rfl 18 (by decide) (hts (.fieldLink RX9 219 "IceHallModel" "now" "I") (by decide +kernel)) (fun _ h9 => h9) rfl dX9_sheet_86 ?_
      have g16 : (0 : Int) ≤ (sI S h 18).toInt ∧ (sI S h 18).toInt ≤ 990 := hG.i hk (by decide) 18 (by decide)
      refine pc_Vi (As := [.int a, .int (sI S h 18)]) (rest := []) F (b_X9_isClosed l D cy A S h a (sI S h 18) hG hk) (cwV 2 hts gX9_sheet_X9_isClosed rfl rfl rfl (by decide +kernel) ⟨Nat.le_of_ble_eq_true rfl, Nat.le_of_ble_eq_true rfl⟩) hK hZ hA hW hS hk (by decide) rfl rfl hl.1 rfl (Nat.le_of_ble_eq_true rfl) dX9_sheet_89 ⟨Nat.le_of_ble_eq_true rfl, Nat.le_of_ble_eq_true rfl⟩ (fun v17 T18 H locs p19 hW hS => ?_)
      obtain ⟨eT18, p19⟩ := p19
      rw [eT18] at hW
      clear eT18
      refine lv_if_eq (tgt := 99) hx hb dX9_sheet_92 (by decide) (fun c20 => ?_) (fun c20 => ?_)
      · have c20i : Int32.toInt v17 = (0 : Int) := (i3_eq _ _).mp c20
        refine lv_iconst (v := 0) hx hb dX9_sheet_99 (by decide) ?_
        exact pc_iret (v := 0) (S := S) hx hb hr hlk hK hZ hA hW hS (⟨rfl, trivial⟩) dX9_sheet_100
      · have c20i : ¬ (Int32.toInt v17 = (0 : Int)) := fun h9 => c20 ((i3_eq _ _).mpr h9)
        refine lv_iconst (v := 1) hx hb dX9_sheet_95 (by decide) ?_
        refine lv_goto (tgt := 100) hx hb dX9_sheet_96 (by decide) ?_
        exact pc_iret (v := 1) (S := S) hx hb hr hlk hK hZ hA hW hS (⟨rfl, trivial⟩) dX9_sheet_100
    have c5i : ¬ Int32.toInt b = 0 := lv_neT c5 rfl
    have c7i : ¬ Int32.toInt b = 1 := lv_neT c7 rfl
    have c9i : ¬ Int32.toInt b = 2 := lv_neT c9 rfl
    have c11i : ¬ Int32.toInt b = 3 := lv_neT c11 rfl
    have c13i : ¬ Int32.toInt b = 4 := lv_neT c13 rfl
    have c15i : ¬ Int32.toInt b = 5 := lv_neT c15 rfl
    refine lv_tableOut (tgt := 101) hx hb dX9_sheet_10 (by have qc5 := lv_neT c5 (a := 0) rfl; have qc7 := lv_neT c7 (a := 1) rfl; have qc9 := lv_neT c9 (a := 2) rfl; have qc11 := lv_neT c11 (a := 3) rfl; have qc13 := lv_neT c13 (a := 4) rfl; have qc15 := lv_neT c15 (a := 5) rfl; omega) (by decide) ?_
    refine lv_iconst (v := (-1)) hx hb dX9_sheet_101 (by decide) ?_
    exact pc_iret (v := (-1)) (S := S) hx hb hr hlk hK hZ hA hW hS (⟨rfl, trivial⟩) dX9_sheet_102
  · have c4i : Int32.toInt v1 = (0 : Int) := (i3_eq _ _).mp c4
    refine lv_iconst (v := (-1)) hx hb dX9_sheet_7 (by decide) ?_
    exact pc_iret (v := (-1)) (S := S) hx hb hr hlk hK hZ hA hW hS (⟨rfl, trivial⟩) dX9_sheet_8
set_option maxHeartbeats 4000000 in
set_option maxRecDepth 100000 in
theorem b_X9_club (l : Launch) (D : va_G) (cy : Nat → ClassId) (A : Nat → Prop) (S : St) (h : Nat) (a b : Int32) (hG0 : G S) (hk : sK S h = 9) : MI l yX9_club wsX9_club ({ frames := 1, cells := 0, slots := 0, locals := 24 } : Room) 0 0 D cy A [.ref h, .int a, .int b] S (fun r S1 => S1 = S ∧ True) := by
  refine mt_start (cc := cX9_club) (maxL := 5) (ret := (some .int)) (by decide) rfl (Nat.le_of_ble_eq_true rfl) ?_
  intro p e s m args below meth c hx hb hr hlk hml hown hnm hts hK hZ hA hW hS ls hl
  have hl : lv_has ls 5 [(0, .ref h), (1, .int a), (2, .int b)] := hl
  have hown : s.vm.findClass RX9 = some m.cls := hown
  have F : CallFix p m c cX9_club 5 s args wsX9_club RX9 := ⟨hx, hb, hml, hown, hts⟩
  have wi9 : ∀ w ∈ u_ws RX9 TX9 63, w ∈ wsX9_club := by decide +kernel
  have hG := hG0
  refine lv_iload_n hx hb dX9_club_0 rfl (lv_at hl 1 rfl) ?_
  refine pc_Si (As := [.int a]) (rest := []) F (b_X9_isClub l D cy A S a ) (va_cwS 1 hts gX9_club_X9_isClub rfl rfl rfl (by decide +kernel) ⟨Nat.le_of_ble_eq_true rfl, Nat.le_of_ble_eq_true rfl⟩) hK hZ hA hW hS rfl hl.1 rfl (Nat.le_of_ble_eq_true rfl) dX9_club_1 ⟨Nat.le_of_ble_eq_true rfl, Nat.le_of_ble_eq_true rfl⟩ (fun v1 T2 H locs p3 hW hS => ?_)
  obtain ⟨eT2, p3⟩ := p3
  rw [eT2] at hW
  clear eT2
  refine lv_if_ne (tgt := 9) hx hb dX9_club_4 (by decide) (fun c4 => ?_) (fun c4 => ?_)
  · have c4i : ¬ (Int32.toInt v1 = (0 : Int)) := fun h9 => c4 ((i3_eq _ _).mpr h9)
    refine lv_iconst (v := 0) hx hb dX9_club_9 (by decide) ?_
    refine lv_istore_n (lv' := [(3, .int 0), (0, .ref h), (1, .int a), (2, .int b)]) hx hb dX9_club_10 rfl hl (by decide) rfl (fun ls hl => ?_)
    refine lv_iload_n hx hb dX9_club_11 rfl (lv_at hl 3 rfl) ?_
    by_cases c5 : b = 0
    · have c5i : Int32.toInt b = 0 := by rw [c5]; rfl
      refine lv_tableIn (off := 32) (tgt := 44) hx hb dX9_club_12 (by rw [c5]; decide) (by rw [c5]; decide) (by rw [c5]; rfl) (by decide) ?_
      refine lv_aload_n hx hb dX9_club_44 rfl (lv_at hl 1 rfl) ?_
      refine lv_iload_n hx hb dX9_club_45 rfl (lv_at hl 2 rfl) ?_
      refine lv_iconst (v := 1) hx hb dX9_club_46 (by decide) ?_
      refine pc_Vi (As := [.int a, .int 1]) (rest := []) F (b_X9_inState l D cy A S h a 1 hG hk) (cwV 2 hts gX9_club_X9_inState rfl rfl rfl (by decide +kernel) ⟨Nat.le_of_ble_eq_true rfl, Nat.le_of_ble_eq_true rfl⟩) hK hZ hA hW hS hk (by decide) rfl rfl hl.1 rfl (Nat.le_of_ble_eq_true rfl) dX9_club_47 ⟨Nat.le_of_ble_eq_true rfl, Nat.le_of_ble_eq_true rfl⟩ (fun v6 T7 H locs p8 hW hS => ?_)
      obtain ⟨eT7, p8⟩ := p8
      rw [eT7] at hW
      clear eT7
      exact pc_iret (v := v6) (S := S) hx hb hr hlk hK hZ hA hW hS (⟨rfl, trivial⟩) dX9_club_50
    by_cases c9 : b = 1
    · have c9i : Int32.toInt b = 1 := by rw [c9]; rfl
      refine lv_tableIn (off := 39) (tgt := 51) hx hb dX9_club_12 (by rw [c9]; decide) (by rw [c9]; decide) (by rw [c9]; rfl) (by decide) ?_
      refine lv_aload_n hx hb dX9_club_51 rfl (lv_at hl 1 rfl) ?_
      refine lv_iload_n hx hb dX9_club_52 rfl (lv_at hl 2 rfl) ?_
      refine lv_iconst (v := 2) hx hb dX9_club_53 (by decide) ?_
      refine pc_Vi (As := [.int a, .int 2]) (rest := []) F (b_X9_inState l D cy A S h a 2 hG hk) (cwV 2 hts gX9_club_X9_inState rfl rfl rfl (by decide +kernel) ⟨Nat.le_of_ble_eq_true rfl, Nat.le_of_ble_eq_true rfl⟩) hK hZ hA hW hS hk (by decide) rfl rfl hl.1 rfl (Nat.le_of_ble_eq_true rfl) dX9_club_54 ⟨Nat.le_of_ble_eq_true rfl, Nat.le_of_ble_eq_true rfl⟩ (fun v10 T11 H locs p12 hW hS => ?_)
      obtain ⟨eT11, p12⟩ := p12
      rw [eT11] at hW
      clear eT11
      exact pc_iret (v := v10) (S := S) hx hb hr hlk hK hZ hA hW hS (⟨rfl, trivial⟩) dX9_club_57
    by_cases c13 : b = 2
    · have c13i : Int32.toInt b = 2 := by rw [c13]; rfl
      refine lv_tableIn (off := 46) (tgt := 58) hx hb dX9_club_12 (by rw [c13]; decide) (by rw [c13]; decide) (by rw [c13]; rfl) (by decide) ?_
      refine lv_aload_n hx hb dX9_club_58 rfl (lv_at hl 1 rfl) ?_
      refine lv_iload_n hx hb dX9_club_59 rfl (lv_at hl 2 rfl) ?_
      refine lv_iconst (v := 0) hx hb dX9_club_60 (by decide) ?_
      refine pc_Vi (As := [.int a, .int 0]) (rest := []) F (b_X9_inState l D cy A S h a 0 hG hk) (cwV 2 hts gX9_club_X9_inState rfl rfl rfl (by decide +kernel) ⟨Nat.le_of_ble_eq_true rfl, Nat.le_of_ble_eq_true rfl⟩) hK hZ hA hW hS hk (by decide) rfl rfl hl.1 rfl (Nat.le_of_ble_eq_true rfl) dX9_club_61 ⟨Nat.le_of_ble_eq_true rfl, Nat.le_of_ble_eq_true rfl⟩ (fun v14 T15 H locs p16 hW hS => ?_)
      obtain ⟨eT15, p16⟩ := p16
      rw [eT15] at hW
      clear eT15
      exact pc_iret (v := v14) (S := S) hx hb hr hlk hK hZ hA hW hS (⟨rfl, trivial⟩) dX9_club_64
    by_cases c17 : b = 3
    · have c17i : Int32.toInt b = 3 := by rw [c17]; rfl
      refine lv_tableIn (off := 53) (tgt := 65) hx hb dX9_club_12 (by rw [c17]; decide) (by rw [c17]; decide) (by rw [c17]; rfl) (by decide) ?_
      refine lv_iconst (v := 0) hx hb dX9_club_65 (by decide) ?_
      refine lv_istore (lv' := [(4, .int 0), (3, .int 0), (0, .ref h), (1, .int a), (2, .int b)]) hx hb dX9_club_66 hl (by decide) rfl (fun ls hl => ?_)
      have loop68 : ∀ (zn : Nat) (z : Int32) (y : Int32) (H : Heap) (locs : List Loc) (ls : Array Slot), (0 ≤ y.toInt) → (200 - y.toInt).toNat < zn → PW D cy A S H → va_S A s.heap H locs → lv_has ls 5 [(0, .ref h), (1, .int a), (2, .int b), (3, .int z), (4, .int y)] → W p l e ({ frames := 1, cells := 0, slots := 0, locals := 24 } : Room) s m args below meth c H locs 0 0 (MQ below (va_Qi (fun r S1 => S1 = S ∧ True) (PU D cy A) A) args s 0 0 A) (F0 m 68 ls []) := by
        intro zn
        induction zn with
        | zero => intros; exact absurd (by assumption) (Nat.not_lt_zero _)
        | succ zn ih68 =>
          intro z y H locs ls hy0 hme68 hW hS hl
          refine lv_iload hx hb dX9_club_68 (lv_at hl 4 rfl) ?_
          refine lv_aload_n hx hb dX9_club_70 rfl (lv_at hl 0 rfl) ?_
          refine pg_gi (ci := 9) (C := RX9) (T := TX9) (N := 63) hx hb hts wi9 hown hK hW hk (by decide) rfl 35 (by decide) (hts (.fieldLink RX9 205 "IceHallModel" "sessions" "I") (by decide +kernel)) (fun _ h9 => h9) rfl dX9_club_71 ?_
          have g18 : (0 : Int) ≤ (sI S h 35).toInt ∧ (sI S h 35).toInt ≤ 200 := hG.i hk (by decide) 35 (by decide)
          refine lv_icmp_ge (tgt := 107) hx hb dX9_club_74 (by decide) (fun c19 => ?_) (fun c19 => ?_)
          · have c19i : Int32.toInt (sI S h 35) ≤ Int32.toInt y := (i3_le _ _).mp c19
            refine lv_iload_n hx hb dX9_club_107 rfl (lv_at hl 3 rfl) ?_
            exact pc_iret (v := z) (S := S) hx hb hr hlk hK hZ hA hW hS (⟨rfl, trivial⟩) dX9_club_108
          · have c19i : ¬ (Int32.toInt (sI S h 35) ≤ Int32.toInt y) := fun h9 => c19 ((i3_le _ _).mpr h9)
            refine lv_iload_n hx hb dX9_club_77 rfl (lv_at hl 3 rfl) ?_
            have join99 : ∀ (v99 : Int32) (H : Heap) (locs : List Loc), PW D cy A S H → va_S A s.heap H locs → W p l e ({ frames := 1, cells := 0, slots := 0, locals := 24 } : Room) s m args below meth c H locs 0 0 (MQ below (va_Qi (fun r S1 => S1 = S ∧ True) (PU D cy A) A) args s 0 0 A) (F0 m 99 ls [.int v99, .int z]) := by
              intro v99 H locs hW hS
              refine lv_iadd hx hb dX9_club_99 ?_
              refine lv_istore_n (lv' := [(3, .int (z + v99)), (0, .ref h), (1, .int a), (2, .int b), (4, .int y)]) hx hb dX9_club_100 rfl hl (by decide) rfl (fun ls hl => ?_)
              refine lv_iinc (v := y + 1) (lv' := [(4, .int (y + 1)), (3, .int (z + v99)), (0, .ref h), (1, .int a), (2, .int b)]) hx hb dX9_club_101 hl (k := 4) rfl rfl (by decide) rfl (fun ls hl => ?_)
              have i20 : (y + 1).toInt = (y).toInt + 1 := i3_add rfl rfl (by omega) (by omega)
              refine lv_goto (tgt := 68) hx hb dX9_club_104 (by decide) ?_
              exact ih68 (z + v99) (y + 1) _ _ ls (by omega) (by omega) hW hS (lv_cast (lv_sub hl [2, 3, 4, 1, 0] rfl) (rfl))
            refine lv_aload_n hx hb dX9_club_78 rfl (lv_at hl 0 rfl) ?_
            obtain ⟨b21, rb21, kb21, nb21⟩ := hG0.r hk List.not_mem_nil 37 (show rty 9 37 = some (11, 200) from rfl)
            refine pg_gr (b := b21) (ci := 9) (C := RX9) (T := TX9) (N := 63) hx hb hts wi9 hown hK hW hk (by decide) rfl 37 (by decide) (hts (.fieldLink RX9 73 "IceHallModel" "clubOf" "[I") (by decide +kernel)) (fun _ h9 => h9) rfl rb21 dX9_club_79 ?_
            refine lv_iload hx hb dX9_club_82 (lv_at hl 4 rfl) ?_
            refine pg_iald hx hb hK hW kb21 (by decide) (by rw [show sL S b21 = 200 from nb21]; exact r_in (by omega)) dX9_club_84 ?_
            refine lv_iload_n hx hb dX9_club_85 rfl (lv_at hl 1 rfl) ?_
            refine lv_icmp_ne (tgt := 98) hx hb dX9_club_86 (by decide) (fun c22 => ?_) (fun c22 => ?_)
            · have c22i : ¬ (Int32.toInt (sI S b21 (Int32.toNatClampNeg y)) = Int32.toInt a) := fun h9 => c22 ((i3_eq _ _).mpr h9)
              refine lv_iconst (v := 0) hx hb dX9_club_98 (by decide) ?_
              exact join99 0 _ _  hW hS
            · have c22i : Int32.toInt (sI S b21 (Int32.toNatClampNeg y)) = Int32.toInt a := (i3_eq _ _).mp c22
              refine lv_aload_n hx hb dX9_club_89 rfl (lv_at hl 0 rfl) ?_
              refine lv_iload hx hb dX9_club_90 (lv_at hl 4 rfl) ?_
              refine pc_Vi (As := [.int y]) (rest := [.int z]) F (b_X9_owes l D cy A S h y hG hk (by omega) (by omega)) (cwV 1 hts gX9_club_X9_owes rfl rfl rfl (by decide +kernel) ⟨Nat.le_of_ble_eq_true rfl, Nat.le_of_ble_eq_true rfl⟩) hK hZ hA hW hS hk (by decide) rfl rfl hl.1 rfl (Nat.le_of_ble_eq_true rfl) dX9_club_92 ⟨Nat.le_of_ble_eq_true rfl, Nat.le_of_ble_eq_true rfl⟩ (fun v23 T24 H locs p25 hW hS => ?_)
              obtain ⟨eT24, p25⟩ := p25
              rw [eT24] at hW
              clear eT24
              refine lv_goto (tgt := 99) hx hb dX9_club_95 (by decide) ?_
              exact join99 v23 _ _  hW hS
      exact loop68 _ 0 0 _ _ ls (by decide) (Nat.lt_succ_self _) hW hS (lv_cast (lv_sub hl [2, 3, 4, 1, 0] rfl) (rfl))
    have c5i : ¬ Int32.toInt b = 0 := lv_neT c5 rfl
    have c9i : ¬ Int32.toInt b = 1 := lv_neT c9 rfl
    have c13i : ¬ Int32.toInt b = 2 := lv_neT c13 rfl
    have c17i : ¬ Int32.toInt b = 3 := lv_neT c17 rfl
    refine lv_tableOut (tgt := 109) hx hb dX9_club_12 (by have qc5 := lv_neT c5 (a := 0) rfl; have qc9 := lv_neT c9 (a := 1) rfl; have qc13 := lv_neT c13 (a := 2) rfl; have qc17 := lv_neT c17 (a := 3) rfl; omega) (by decide) ?_
    refine lv_iconst (v := (-1)) hx hb dX9_club_109 (by decide) ?_
    exact pc_iret (v := (-1)) (S := S) hx hb hr hlk hK hZ hA hW hS (⟨rfl, trivial⟩) dX9_club_110
  · have c4i : Int32.toInt v1 = (0 : Int) := (i3_eq _ _).mp c4
    refine lv_iconst (v := (-1)) hx hb dX9_club_7 (by decide) ?_
    exact pc_iret (v := (-1)) (S := S) hx hb hr hlk hK hZ hA hW hS (⟨rfl, trivial⟩) dX9_club_8
set_option maxHeartbeats 4000000 in
set_option maxRecDepth 100000 in
theorem b_X9_count (l : Launch) (D : va_G) (cy : Nat → ClassId) (A : Nat → Prop) (S : St) (h : Nat) (a : Int32) (hG0 : G S) (hk : sK S h = 9) : MI l yX9_count wsX9_count ({ frames := 0, cells := 0, slots := 0, locals := 0 } : Room) 0 0 D cy A [.ref h, .int a] S (fun r S1 => S1 = S ∧ True) := by
  refine mt_start (cc := cX9_count) (maxL := 2) (ret := (some .int)) (by decide) rfl (Nat.le_of_ble_eq_true rfl) ?_
  intro p e s m args below meth c hx hb hr hlk hml hown hnm hts hK hZ hA hW hS ls hl
  have hl : lv_has ls 2 [(0, .ref h), (1, .int a)] := hl
  have hown : s.vm.findClass RX9 = some m.cls := hown
  have F : CallFix p m c cX9_count 2 s args wsX9_count RX9 := ⟨hx, hb, hml, hown, hts⟩
  have wi9 : ∀ w ∈ u_ws RX9 TX9 63, w ∈ wsX9_count := by decide +kernel
  have hG := hG0
  refine lv_iload_n hx hb dX9_count_0 rfl (lv_at hl 1 rfl) ?_
  by_cases c1 : a = 0
  · have c1i : Int32.toInt a = 0 := by rw [c1]; rfl
    refine lv_tableIn (off := 55) (tgt := 56) hx hb dX9_count_1 (by rw [c1]; decide) (by rw [c1]; decide) (by rw [c1]; rfl) (by decide) ?_
    refine lv_aload_n hx hb dX9_count_56 rfl (lv_at hl 0 rfl) ?_
    refine pg_gi (ci := 9) (C := RX9) (T := TX9) (N := 63) hx hb hts wi9 hown hK hW hk (by decide) rfl 18 (by decide) (hts (.fieldLink RX9 219 "IceHallModel" "now" "I") (by decide +kernel)) (fun _ h9 => h9) rfl dX9_count_57 ?_
    have g2 : (0 : Int) ≤ (sI S h 18).toInt ∧ (sI S h 18).toInt ≤ 990 := hG.i hk (by decide) 18 (by decide)
    exact pc_iret (v := sI S h 18) (S := S) hx hb hr hlk hK hZ hA hW hS (⟨rfl, trivial⟩) dX9_count_60
  by_cases c3 : a = 1
  · have c3i : Int32.toInt a = 1 := by rw [c3]; rfl
    refine lv_tableIn (off := 60) (tgt := 61) hx hb dX9_count_1 (by rw [c3]; decide) (by rw [c3]; decide) (by rw [c3]; rfl) (by decide) ?_
    refine lv_aload_n hx hb dX9_count_61 rfl (lv_at hl 0 rfl) ?_
    refine pg_gi (ci := 9) (C := RX9) (T := TX9) (N := 63) hx hb hts wi9 hown hK hW hk (by decide) rfl 19 (by decide) (hts (.fieldLink RX9 32 "IceHallModel" "store" "I") (by decide +kernel)) (fun _ h9 => h9) rfl dX9_count_62 ?_
    exact pc_iret (v := sI S h 19) (S := S) hx hb hr hlk hK hZ hA hW hS (⟨rfl, trivial⟩) dX9_count_65
  by_cases c4 : a = 2
  · have c4i : Int32.toInt a = 2 := by rw [c4]; rfl
    refine lv_tableIn (off := 65) (tgt := 66) hx hb dX9_count_1 (by rw [c4]; decide) (by rw [c4]; decide) (by rw [c4]; rfl) (by decide) ?_
    refine lv_aload_n hx hb dX9_count_66 rfl (lv_at hl 0 rfl) ?_
    refine pg_gi (ci := 9) (C := RX9) (T := TX9) (N := 63) hx hb hts wi9 hown hK hW hk (by decide) rfl 20 (by decide) (hts (.fieldLink RX9 265 "IceHallModel" "spilt" "I") (by decide +kernel)) (fun _ h9 => h9) rfl dX9_count_67 ?_
    exact pc_iret (v := sI S h 20) (S := S) hx hb hr hlk hK hZ hA hW hS (⟨rfl, trivial⟩) dX9_count_70
  by_cases c5 : a = 3
  · have c5i : Int32.toInt a = 3 := by rw [c5]; rfl
    refine lv_tableIn (off := 70) (tgt := 71) hx hb dX9_count_1 (by rw [c5]; decide) (by rw [c5]; decide) (by rw [c5]; rfl) (by decide) ?_
    refine lv_aload_n hx hb dX9_count_71 rfl (lv_at hl 0 rfl) ?_
    refine pg_gi (ci := 9) (C := RX9) (T := TX9) (N := 63) hx hb hts wi9 hown hK hW hk (by decide) rfl 21 (by decide) (hts (.fieldLink RX9 262 "IceHallModel" "cost" "I") (by decide +kernel)) (fun _ h9 => h9) rfl dX9_count_72 ?_
    exact pc_iret (v := sI S h 21) (S := S) hx hb hr hlk hK hZ hA hW hS (⟨rfl, trivial⟩) dX9_count_75
  by_cases c6 : a = 4
  · have c6i : Int32.toInt a = 4 := by rw [c6]; rfl
    refine lv_tableIn (off := 75) (tgt := 76) hx hb dX9_count_1 (by rw [c6]; decide) (by rw [c6]; decide) (by rw [c6]; rfl) (by decide) ?_
    refine lv_aload_n hx hb dX9_count_76 rfl (lv_at hl 0 rfl) ?_
    refine pg_gi (ci := 9) (C := RX9) (T := TX9) (N := 63) hx hb hts wi9 hown hK hW hk (by decide) rfl 22 (by decide) (hts (.fieldLink RX9 259 "IceHallModel" "waste" "I") (by decide +kernel)) (fun _ h9 => h9) rfl dX9_count_77 ?_
    exact pc_iret (v := sI S h 22) (S := S) hx hb hr hlk hK hZ hA hW hS (⟨rfl, trivial⟩) dX9_count_80
  by_cases c7 : a = 5
  · have c7i : Int32.toInt a = 5 := by rw [c7]; rfl
    refine lv_tableIn (off := 80) (tgt := 81) hx hb dX9_count_1 (by rw [c7]; decide) (by rw [c7]; decide) (by rw [c7]; rfl) (by decide) ?_
    refine lv_aload_n hx hb dX9_count_81 rfl (lv_at hl 0 rfl) ?_
    refine pg_gi (ci := 9) (C := RX9) (T := TX9) (N := 63) hx hb hts wi9 hown hK hW hk (by decide) rfl 35 (by decide) (hts (.fieldLink RX9 205 "IceHallModel" "sessions" "I") (by decide +kernel)) (fun _ h9 => h9) rfl dX9_count_82 ?_
    have g8 : (0 : Int) ≤ (sI S h 35).toInt ∧ (sI S h 35).toInt ≤ 200 := hG.i hk (by decide) 35 (by decide)
    exact pc_iret (v := sI S h 35) (S := S) hx hb hr hlk hK hZ hA hW hS (⟨rfl, trivial⟩) dX9_count_85
  by_cases c9 : a = 6
  · have c9i : Int32.toInt a = 6 := by rw [c9]; rfl
    refine lv_tableIn (off := 85) (tgt := 86) hx hb dX9_count_1 (by rw [c9]; decide) (by rw [c9]; decide) (by rw [c9]; rfl) (by decide) ?_
    refine lv_aload_n hx hb dX9_count_86 rfl (lv_at hl 0 rfl) ?_
    refine pg_gi (ci := 9) (C := RX9) (T := TX9) (N := 63) hx hb hts wi9 hown hK hW hk (by decide) rfl 23 (by decide) (hts (.fieldLink RX9 36 "IceHallModel" "mostOf" "I") (by decide +kernel)) (fun _ h9 => h9) rfl dX9_count_87 ?_
    exact pc_iret (v := sI S h 23) (S := S) hx hb hr hlk hK hZ hA hW hS (⟨rfl, trivial⟩) dX9_count_90
  by_cases c10 : a = 7
  · have c10i : Int32.toInt a = 7 := by rw [c10]; rfl
    refine lv_tableIn (off := 90) (tgt := 91) hx hb dX9_count_1 (by rw [c10]; decide) (by rw [c10]; decide) (by rw [c10]; rfl) (by decide) ?_
    refine lv_aload_n hx hb dX9_count_91 rfl (lv_at hl 0 rfl) ?_
    refine pg_gi (ci := 9) (C := RX9) (T := TX9) (N := 63) hx hb hts wi9 hown hK hW hk (by decide) rfl 24 (by decide) (hts (.fieldLink RX9 39 "IceHallModel" "working" "I") (by decide +kernel)) (fun _ h9 => h9) rfl dX9_count_92 ?_
    have g11 : (0 : Int) ≤ (sI S h 24).toInt ∧ (sI S h 24).toInt ≤ 3 := hG.i hk (by decide) 24 (by decide)
    exact pc_iret (v := sI S h 24) (S := S) hx hb hr hlk hK hZ hA hW hS (⟨rfl, trivial⟩) dX9_count_95
  by_cases c12 : a = 8
  · have c12i : Int32.toInt a = 8 := by rw [c12]; rfl
    refine lv_tableIn (off := 95) (tgt := 96) hx hb dX9_count_1 (by rw [c12]; decide) (by rw [c12]; decide) (by rw [c12]; rfl) (by decide) ?_
    refine lv_aload_n hx hb dX9_count_96 rfl (lv_at hl 0 rfl) ?_
    refine pg_gi (ci := 9) (C := RX9) (T := TX9) (N := 63) hx hb hts wi9 hown hK hW hk (by decide) rfl 25 (by decide) (hts (.fieldLink RX9 42 "IceHallModel" "restOf" "I") (by decide +kernel)) (fun _ h9 => h9) rfl dX9_count_97 ?_
    exact pc_iret (v := sI S h 25) (S := S) hx hb hr hlk hK hZ hA hW hS (⟨rfl, trivial⟩) dX9_count_100
  by_cases c13 : a = 9
  · have c13i : Int32.toInt a = 9 := by rw [c13]; rfl
    refine lv_tableIn (off := 100) (tgt := 101) hx hb dX9_count_1 (by rw [c13]; decide) (by rw [c13]; decide) (by rw [c13]; rfl) (by decide) ?_
    refine lv_aload_n hx hb dX9_count_101 rfl (lv_at hl 0 rfl) ?_
    refine pg_gi (ci := 9) (C := RX9) (T := TX9) (N := 63) hx hb hts wi9 hown hK hW hk (by decide) rfl 1 (by decide) (hts (.fieldLink RX9 141 "IceHallModel" "taped" "I") (by decide +kernel)) (fun _ h9 => h9) rfl dX9_count_102 ?_
    have g14 : (0 : Int) ≤ (sI S h 1).toInt ∧ (sI S h 1).toInt ≤ 80 := hG.i hk (by decide) 1 (by decide)
    exact pc_iret (v := sI S h 1) (S := S) hx hb hr hlk hK hZ hA hW hS (⟨rfl, trivial⟩) dX9_count_105
  have c1i : ¬ Int32.toInt a = 0 := lv_neT c1 rfl
  have c3i : ¬ Int32.toInt a = 1 := lv_neT c3 rfl
  have c4i : ¬ Int32.toInt a = 2 := lv_neT c4 rfl
  have c5i : ¬ Int32.toInt a = 3 := lv_neT c5 rfl
  have c6i : ¬ Int32.toInt a = 4 := lv_neT c6 rfl
  have c7i : ¬ Int32.toInt a = 5 := lv_neT c7 rfl
  have c9i : ¬ Int32.toInt a = 6 := lv_neT c9 rfl
  have c10i : ¬ Int32.toInt a = 7 := lv_neT c10 rfl
  have c12i : ¬ Int32.toInt a = 8 := lv_neT c12 rfl
  have c13i : ¬ Int32.toInt a = 9 := lv_neT c13 rfl
  refine lv_tableOut (tgt := 106) hx hb dX9_count_1 (by have qc1 := lv_neT c1 (a := 0) rfl; have qc3 := lv_neT c3 (a := 1) rfl; have qc4 := lv_neT c4 (a := 2) rfl; have qc5 := lv_neT c5 (a := 3) rfl; have qc6 := lv_neT c6 (a := 4) rfl; have qc7 := lv_neT c7 (a := 5) rfl; have qc9 := lv_neT c9 (a := 6) rfl; have qc10 := lv_neT c10 (a := 7) rfl; have qc12 := lv_neT c12 (a := 8) rfl; have qc13 := lv_neT c13 (a := 9) rfl; omega) (by decide) ?_
  refine lv_iload_n hx hb dX9_count_106 rfl (lv_at hl 1 rfl) ?_
  refine lv_bipush (v := 10) hx hb dX9_count_107 (by decide) ?_
  refine lv_icmp_lt (tgt := 130) hx hb dX9_count_109 (by decide) (fun c15 => ?_) (fun c15 => ?_)
  · have c15i : Int32.toInt a < (10 : Int) := (i3_lt _ _).mp c15
    refine lv_iconst (v := (-1)) hx hb dX9_count_130 (by decide) ?_
    exact pc_iret (v := (-1)) (S := S) hx hb hr hlk hK hZ hA hW hS (⟨rfl, trivial⟩) dX9_count_131
  · have c15i : ¬ (Int32.toInt a < (10 : Int)) := fun h9 => c15 ((i3_lt _ _).mpr h9)
    refine lv_iload_n hx hb dX9_count_112 rfl (lv_at hl 1 rfl) ?_
    refine lv_bipush (v := 34) hx hb dX9_count_113 (by decide) ?_
    refine lv_icmp_ge (tgt := 130) hx hb dX9_count_115 (by decide) (fun c16 => ?_) (fun c16 => ?_)
    · have c16i : (34 : Int) ≤ Int32.toInt a := (i3_le _ _).mp c16
      refine lv_iconst (v := (-1)) hx hb dX9_count_130 (by decide) ?_
      exact pc_iret (v := (-1)) (S := S) hx hb hr hlk hK hZ hA hW hS (⟨rfl, trivial⟩) dX9_count_131
    · have c16i : ¬ ((34 : Int) ≤ Int32.toInt a) := fun h9 => c16 ((i3_le _ _).mpr h9)
      refine lv_aload_n hx hb dX9_count_118 rfl (lv_at hl 0 rfl) ?_
      obtain ⟨b17, rb17, kb17, nb17⟩ := hG0.r hk List.not_mem_nil 26 (show rty 9 26 = some (11, 24) from rfl)
      refine pg_gr (b := b17) (ci := 9) (C := RX9) (T := TX9) (N := 63) hx hb hts wi9 hown hK hW hk (by decide) rfl 26 (by decide) (hts (.fieldLink RX9 45 "IceHallModel" "priceOf" "[I") (by decide +kernel)) (fun _ h9 => h9) rfl rb17 dX9_count_119 ?_
      refine lv_iload_n hx hb dX9_count_122 rfl (lv_at hl 1 rfl) ?_
      refine lv_bipush (v := 10) hx hb dX9_count_123 (by decide) ?_
      refine lv_isub hx hb dX9_count_125 ?_
      have l18 : (a - 10).toInt = Int32.toInt a - (10 : Int) := i3_sub rfl rfl (by omega) (by omega)
      refine pg_iald hx hb hK hW kb17 (by decide) (by rw [show sL S b17 = 24 from nb17]; exact r_in (by omega)) dX9_count_126 ?_
      refine lv_goto (tgt := 131) hx hb dX9_count_127 (by decide) ?_
      exact pc_iret (v := sI S b17 (Int32.toNatClampNeg (a - 10))) (S := S) hx hb hr hlk hK hZ hA hW hS (⟨rfl, trivial⟩) dX9_count_131
