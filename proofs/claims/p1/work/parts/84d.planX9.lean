set_option maxHeartbeats 4000000 in
set_option maxRecDepth 100000 in
theorem c_X9_plan (l : Launch) (D : va_G) (cy : Nat → ClassId) (A : Nat → Prop) (S : St) (h m_priceOf m_wants m_row m_bestRow m_told : Nat) (a b : Int32) (hk : sK S h = 9) (r_26 : sR S h 26 = some m_priceOf) (k_26 : sK S m_priceOf = 11) (n_26 : sL S m_priceOf = 24) (r_56 : sR S h 56 = some m_wants) (k_56 : sK S m_wants = 11) (n_56 : sL S m_wants = 8) (r_57 : sR S h 57 = some m_row) (k_57 : sK S m_row = 11) (n_57 : sL S m_row = 8) (r_58 : sR S h 58 = some m_bestRow) (k_58 : sK S m_bestRow = 11) (n_58 : sL S m_bestRow = 8) (r_59 : sR S h 59 = some m_told) (k_59 : sK S m_told = 11) (n_59 : sL S m_told = 8) (a_m_priceOf : ∀ j, j < 24 → sI S m_priceOf j = 10) (i_18 : sI S h 18 = 0) (i_19 : sI S h 19 = 200) (i_23 : sI S h 23 = 400) (i_24 : sI S h 24 = 3) (i_35 : sI S h 35 = 0) (ap_0 : Ap m_wants m_row) (ap_1 : Ap m_wants m_bestRow) (ap_2 : Ap m_row m_bestRow) (ap_3 : Ap m_priceOf m_wants) (ap_4 : Ap m_priceOf m_row) (ap_5 : Ap m_priceOf m_bestRow) : MI l yX9_plan wsX9_plan ({ frames := 1, cells := 0, slots := 0, locals := 23 } : Room) 0 0 D cy A [.ref h, .int a, .int b] S (fun r S1 => r = PL a b) := by
  refine mt_start (cc := cX9_plan) (maxL := 13) (ret := (some .int)) (by decide) rfl (Nat.le_of_ble_eq_true rfl) ?_
  intro p e s m args below meth c hx hb hr hlk hml hown hnm hts hK hZ hA hW hS ls hl
  have hl : lv_has ls 13 [(0, .ref h), (1, .int a), (2, .int b)] := hl
  have hown : s.vm.findClass RX9 = some m.cls := hown
  have F : CallFix p m c cX9_plan 13 s args wsX9_plan RX9 := ⟨hx, hb, hml, hown, hts⟩
  have wi9 : ∀ w ∈ u_ws RX9 TX9 63, w ∈ wsX9_plan := by decide +kernel
  refine lv_iload_n hx hb dX9_plan_0 rfl (lv_at hl 1 rfl) ?_
  refine lv_iconst (v := 1) hx hb dX9_plan_1 (by decide) ?_
  refine lv_icmp_lt (tgt := 23) hx hb dX9_plan_2 (by decide) (fun c1 => ?_) (fun c1 => ?_)
  · have c1i : Int32.toInt a < (1 : Int) := (i3_lt _ _).mp c1
    refine lv_iconst (v := (-1)) hx hb dX9_plan_23 (by decide) ?_
    exact pc_iret (v := (-1)) (S := S) hx hb hr hlk hK hZ hA hW hS (PL_no (by omega)) dX9_plan_24
  · have c1i : ¬ (Int32.toInt a < (1 : Int)) := fun h9 => c1 ((i3_lt _ _).mpr h9)
    refine lv_iload_n hx hb dX9_plan_5 rfl (lv_at hl 1 rfl) ?_
    refine lv_bipush (v := 8) hx hb dX9_plan_6 (by decide) ?_
    refine lv_icmp_gt (tgt := 23) hx hb dX9_plan_8 (by decide) (fun c2 => ?_) (fun c2 => ?_)
    · have c2i : (8 : Int) < Int32.toInt a := (i3_lt _ _).mp c2
      refine lv_iconst (v := (-1)) hx hb dX9_plan_23 (by decide) ?_
      exact pc_iret (v := (-1)) (S := S) hx hb hr hlk hK hZ hA hW hS (PL_no (by omega)) dX9_plan_24
    · have c2i : ¬ ((8 : Int) < Int32.toInt a) := fun h9 => c2 ((i3_lt _ _).mpr h9)
      refine lv_iload_n hx hb dX9_plan_11 rfl (lv_at hl 2 rfl) ?_
      refine lv_bipush (v := (-20)) hx hb dX9_plan_12 (by decide) ?_
      refine lv_icmp_lt (tgt := 23) hx hb dX9_plan_14 (by decide) (fun c3 => ?_) (fun c3 => ?_)
      · have c3i : Int32.toInt b < (-20 : Int) := (i3_lt _ _).mp c3
        refine lv_iconst (v := (-1)) hx hb dX9_plan_23 (by decide) ?_
        exact pc_iret (v := (-1)) (S := S) hx hb hr hlk hK hZ hA hW hS (PL_no (by omega)) dX9_plan_24
      · have c3i : ¬ (Int32.toInt b < (-20 : Int)) := fun h9 => c3 ((i3_lt _ _).mpr h9)
        refine lv_iload_n hx hb dX9_plan_17 rfl (lv_at hl 2 rfl) ?_
        refine lv_bipush (v := 40) hx hb dX9_plan_18 (by decide) ?_
        refine lv_icmp_le (tgt := 25) hx hb dX9_plan_20 (by decide) (fun c4 => ?_) (fun c4 => ?_)
        · have c4i : Int32.toInt b ≤ (40 : Int) := (i3_le _ _).mp c4
          have hva : 1 ≤ a.toInt ∧ a.toInt ≤ 8 ∧ -20 ≤ b.toInt ∧ b.toInt ≤ 40 := by omega
          obtain ⟨n, hnlt, ea⟩ := nn_of (x := a) (by omega)
          have hna : a.toInt = (n : Int) := by rw [ea]; exact nI_toInt hnlt
          have hn1 : 1 ≤ n := by omega
          have hn8 : n ≤ 8 := by omega
          obtain ⟨w, ew⟩ : ∃ w, w = 2 * (b.toInt.toNat / 2) := ⟨_, rfl⟩
          have hw40 : w ≤ 40 := by omega
          rw [ea] at hl
          have hnn : (nI n).toInt = (n : Int) := nI_toInt hnlt
          refine lv_iconst (v := 1) hx hb dX9_plan_25 (by decide) ?_
          refine lv_istore_n (lv' := [(3, .int 1), (0, .ref h), (1, .int (nI n)), (2, .int b)]) hx hb dX9_plan_26 rfl hl (by decide) rfl (fun ls hl => ?_)
          refine lv_iconst (v := 0) hx hb dX9_plan_27 (by decide) ?_
          refine lv_istore (lv' := [(4, .int 0), (3, .int 1), (0, .ref h), (1, .int (nI n)), (2, .int b)]) hx hb dX9_plan_28 hl (by decide) rfl (fun ls hl => ?_)
          have loop5 : ∀ (zn : Nat) (i : Nat) (T30 : St) (H : Heap) (locs : List Loc) (ls : Array Slot), (Md [m_wants] S T30) → (i ≤ n) → (∀ j, j < i → sI T30 m_wants j = nI w) → n - i < zn → PW D cy A T30 H → va_S A s.heap H locs → lv_has ls 13 [(0, .ref h), (1, .int (nI n)), (2, .int b), (3, .int (nI (4 ^ i))), (4, .int (nI i))] → W p l e ({ frames := 1, cells := 0, slots := 0, locals := 23 } : Room) s m args below meth c H locs 0 0 (MQ below (va_Qi (fun r S1 => r = PL a b) (PU D cy A) A) args s 0 0 A) (F0 m 30 ls []) := by
            intro zn
            induction zn with
            | zero => intros; exact absurd (by assumption) (Nat.not_lt_zero _)
            | succ zn ih =>
              intro i T30 H locs ls hmd30 hi hwn hme hW hS hl
              have f6 : sK T30 h = 9 := by rw [hmd30.1]; exact hk
              have f7 : sK T30 m_priceOf = 11 := by rw [hmd30.1]; exact k_26
              have f8 : sK T30 m_wants = 11 := by rw [hmd30.1]; exact k_56
              have f9 : sK T30 m_row = 11 := by rw [hmd30.1]; exact k_57
              have f10 : sK T30 m_bestRow = 11 := by rw [hmd30.1]; exact k_58
              have f11 : sK T30 m_told = 11 := by rw [hmd30.1]; exact k_59
              have f12 : sL T30 m_priceOf = 24 := by rw [hmd30.2.2.1]; exact n_26
              have f13 : sL T30 m_wants = 8 := by rw [hmd30.2.2.1]; exact n_56
              have f14 : sL T30 m_row = 8 := by rw [hmd30.2.2.1]; exact n_57
              have f15 : sL T30 m_bestRow = 8 := by rw [hmd30.2.2.1]; exact n_58
              have f16 : sL T30 m_told = 8 := by rw [hmd30.2.2.1]; exact n_59
              have f17 : sR T30 h 26 = some m_priceOf := by rw [hmd30.2.1]; exact r_26
              have f18 : sR T30 h 56 = some m_wants := by rw [hmd30.2.1]; exact r_56
              have f19 : sR T30 h 57 = some m_row := by rw [hmd30.2.1]; exact r_57
              have f20 : sR T30 h 58 = some m_bestRow := by rw [hmd30.2.1]; exact r_58
              have f21 : sR T30 h 59 = some m_told := by rw [hmd30.2.1]; exact r_59
              have f22 : sI T30 h 18 = 0 := by rw [(hmd30.2.2.2 h (ni_c (fk_ne hk k_56 (by decide)) ni_0)).1]; exact i_18
              have f23 : sI T30 h 19 = 200 := by rw [(hmd30.2.2.2 h (ni_c (fk_ne hk k_56 (by decide)) ni_0)).1]; exact i_19
              have f24 : sI T30 h 23 = 400 := by rw [(hmd30.2.2.2 h (ni_c (fk_ne hk k_56 (by decide)) ni_0)).1]; exact i_23
              have f25 : sI T30 h 24 = 3 := by rw [(hmd30.2.2.2 h (ni_c (fk_ne hk k_56 (by decide)) ni_0)).1]; exact i_24
              have f26 : sI T30 h 35 = 0 := by rw [(hmd30.2.2.2 h (ni_c (fk_ne hk k_56 (by decide)) ni_0)).1]; exact i_35
              have f27 : ∀ j, j < 24 → sI T30 m_priceOf j = 10 := fun j hj => by rw [(hmd30.2.2.2 m_priceOf (ni_c ap_3 ni_0)).1]; exact a_m_priceOf j hj 
              have hni : (nI i).toInt = (i : Int) := nI_toInt (by omega)
              refine lv_iload hx hb dX9_plan_30 (lv_at hl 4 rfl) ?_
              refine lv_iload_n hx hb dX9_plan_32 rfl (lv_at hl 1 rfl) ?_
              refine lv_icmp_ge (tgt := 124) hx hb dX9_plan_33 (by decide) (fun c28 => ?_) (fun c28 => ?_)
              · have c28i : Int32.toInt (nI n) ≤ Int32.toInt (nI i) := (i3_le _ _).mp c28
                have hin : n = i := by omega
                subst hin
                have hp4 : (nI (4 ^ n)).toInt = (4 ^ n : Nat) := nI_toInt (by have := pow4 hn8; omega)
                have hp5 := pow4 hn8
                refine lv_iconst (v := (-1)) hx hb dX9_plan_124 (by decide) ?_
                refine lv_istore (lv' := [(4, .int ((-1))), (0, .ref h), (1, .int (nI n)), (2, .int b), (3, .int (nI (4 ^ n)))]) hx hb dX9_plan_125 hl (by decide) rfl (fun ls hl => ?_)
                refine lv_iconst (v := 0) hx hb dX9_plan_127 (by decide) ?_
                refine lv_istore (lv' := [(5, .int 0), (4, .int ((-1))), (0, .ref h), (1, .int (nI n)), (2, .int b), (3, .int (nI (4 ^ n)))]) hx hb dX9_plan_128 hl (by decide) rfl (fun ls hl => ?_)
                refine lv_iconst (v := 0) hx hb dX9_plan_130 (by decide) ?_
                refine lv_istore (lv' := [(6, .int 0), (5, .int 0), (4, .int ((-1))), (0, .ref h), (1, .int (nI n)), (2, .int b), (3, .int (nI (4 ^ n)))]) hx hb dX9_plan_131 hl (by decide) rfl (fun ls hl => ?_)
                have loop29 : ∀ (zn : Nat) (bc : Int32) (bo : Int32) (cd : Nat) (T133 : St) (H : Heap) (locs : List Loc) (ls : Array Slot), (Md [m_row, m_bestRow] T30 T133) → (cd ≤ 4 ^ n) → (Bst (Bc w n cd) bc bo) → 4 ^ n - cd < zn → PW D cy A T133 H → va_S A s.heap H locs → lv_has ls 13 [(0, .ref h), (1, .int (nI n)), (2, .int b), (3, .int (nI (4 ^ n))), (4, .int bc), (5, .int bo), (6, .int (nI cd))] → W p l e ({ frames := 1, cells := 0, slots := 0, locals := 23 } : Room) s m args below meth c H locs 0 0 (MQ below (va_Qi (fun r S1 => r = PL a b) (PU D cy A) A) args s 0 0 A) (F0 m 133 ls []) := by
                  intro zn
                  induction zn with
                  | zero => intros; exact absurd (by assumption) (Nat.not_lt_zero _)
                  | succ zn ih133 =>
                    intro bc bo cd T133 H locs ls hmd133 hcd hbst hme hW hS hl
                    have f30 : sK T133 h = 9 := by rw [hmd133.1]; exact f6
                    have f31 : sK T133 m_priceOf = 11 := by rw [hmd133.1]; exact f7
                    have f32 : sK T133 m_wants = 11 := by rw [hmd133.1]; exact f8
                    have f33 : sK T133 m_row = 11 := by rw [hmd133.1]; exact f9
                    have f34 : sK T133 m_bestRow = 11 := by rw [hmd133.1]; exact f10
                    have f35 : sK T133 m_told = 11 := by rw [hmd133.1]; exact f11
                    have f36 : sL T133 m_priceOf = 24 := by rw [hmd133.2.2.1]; exact f12
                    have f37 : sL T133 m_wants = 8 := by rw [hmd133.2.2.1]; exact f13
                    have f38 : sL T133 m_row = 8 := by rw [hmd133.2.2.1]; exact f14
                    have f39 : sL T133 m_bestRow = 8 := by rw [hmd133.2.2.1]; exact f15
                    have f40 : sL T133 m_told = 8 := by rw [hmd133.2.2.1]; exact f16
                    have f41 : sR T133 h 26 = some m_priceOf := by rw [hmd133.2.1]; exact f17
                    have f42 : sR T133 h 56 = some m_wants := by rw [hmd133.2.1]; exact f18
                    have f43 : sR T133 h 57 = some m_row := by rw [hmd133.2.1]; exact f19
                    have f44 : sR T133 h 58 = some m_bestRow := by rw [hmd133.2.1]; exact f20
                    have f45 : sR T133 h 59 = some m_told := by rw [hmd133.2.1]; exact f21
                    have f46 : sI T133 h 18 = 0 := by rw [(hmd133.2.2.2 h (ni_c (fk_ne f6 f9 (by decide)) (ni_c (fk_ne f6 f10 (by decide)) ni_0))).1]; exact f22
                    have f47 : sI T133 h 19 = 200 := by rw [(hmd133.2.2.2 h (ni_c (fk_ne f6 f9 (by decide)) (ni_c (fk_ne f6 f10 (by decide)) ni_0))).1]; exact f23
                    have f48 : sI T133 h 23 = 400 := by rw [(hmd133.2.2.2 h (ni_c (fk_ne f6 f9 (by decide)) (ni_c (fk_ne f6 f10 (by decide)) ni_0))).1]; exact f24
                    have f49 : sI T133 h 24 = 3 := by rw [(hmd133.2.2.2 h (ni_c (fk_ne f6 f9 (by decide)) (ni_c (fk_ne f6 f10 (by decide)) ni_0))).1]; exact f25
                    have f50 : sI T133 h 35 = 0 := by rw [(hmd133.2.2.2 h (ni_c (fk_ne f6 f9 (by decide)) (ni_c (fk_ne f6 f10 (by decide)) ni_0))).1]; exact f26
                    have f51 : ∀ j, j < 24 → sI T133 m_priceOf j = 10 := fun j hj => by rw [(hmd133.2.2.2 m_priceOf (ni_c ap_4 (ni_c ap_5 ni_0))).1]; exact f27 j hj 
                    have g52 : ∀ j, j < n → sI T133 m_wants j = nI w := by rw [(hmd133.2.2.2 m_wants (ni_c ap_0 (ni_c ap_1 ni_0))).1]; exact hwn
                    have hnc : (nI cd).toInt = (cd : Int) := nI_toInt (by omega)
                    refine lv_iload hx hb dX9_plan_133 (lv_at hl 6 rfl) ?_
                    refine lv_iload_n hx hb dX9_plan_135 rfl (lv_at hl 3 rfl) ?_
                    refine lv_icmp_ge (tgt := 398) hx hb dX9_plan_136 (by decide) (fun c53 => ?_) (fun c53 => ?_)
                    · have c53i : Int32.toInt (nI (4 ^ n)) ≤ Int32.toInt (nI cd) := (i3_le _ _).mp c53
                      have hce : cd = 4 ^ n := by omega
                      refine lv_iload hx hb dX9_plan_398 (lv_at hl 4 rfl) ?_
                      refine lv_iconst (v := (-1)) hx hb dX9_plan_400 (by decide) ?_
                      refine lv_icmp_ne (tgt := 406) hx hb dX9_plan_401 (by decide) (fun c54 => ?_) (fun c54 => ?_)
                      · have c54i : ¬ (Int32.toInt bc = (-1 : Int)) := fun h9 => c54 ((i3_eq _ _).mpr h9)
                        refine lv_aload_n hx hb dX9_plan_406 rfl (lv_at hl 0 rfl) ?_
                        refine lv_iload_n hx hb dX9_plan_407 rfl (lv_at hl 1 rfl) ?_
                        refine pg_pi (ci := 9) (C := RX9) (T := TX9) (N := 63) hx hb hts wi9 tyX9 tyX9_ok nmX9 hown hK hW hS f30 (by decide) rfl 60 (by decide) (hts (.fieldLink RX9 284 "IceHallModel" "toldMany" "I") (by decide +kernel)) (fun _ h9 => h9) rfl rfl rfl dX9_plan_408 (fun H locs hW hS => ?_)
                        have w55 : sI (stI T133 h 60 (nI n)) h 18 = 0 := (iI_k (by decide)).trans f46
                        have w56 : sI (stI T133 h 60 (nI n)) h 19 = 200 := (iI_k (by decide)).trans f47
                        have w57 : sI (stI T133 h 60 (nI n)) h 23 = 400 := (iI_k (by decide)).trans f48
                        have w58 : sI (stI T133 h 60 (nI n)) h 24 = 3 := (iI_k (by decide)).trans f49
                        have w59 : sI (stI T133 h 60 (nI n)) h 35 = 0 := (iI_k (by decide)).trans f50
                        have w60 : sI (stI T133 h 60 (nI n)) h 60 = nI n := iI_s
                        have w61 : ∀ j, j < 24 → sI (stI T133 h 60 (nI n)) m_priceOf j = 10 := fun j hj => (iI_a (fk_ne f31 f30 (by decide))).trans (f51 j hj)
                        have g62 : ∀ j, j < n → sI (stI T133 h 60 (nI n)) m_wants j = nI w := by rw [iI_A (fk_ne f32 f30 (by decide))]; exact g52
                        clear f46 f47 f48 f49 f50 f51
                        refine lv_iconst (v := 0) hx hb dX9_plan_411 (by decide) ?_
                        refine lv_istore (lv' := [(6, .int 0), (0, .ref h), (1, .int (nI n)), (2, .int b), (3, .int (nI (4 ^ n))), (4, .int bc), (5, .int bo)]) hx hb dX9_plan_412 hl (by decide) rfl (fun ls hl => ?_)
                        have loop63 : ∀ (zn : Nat) (y : Nat) (T414 : St) (H : Heap) (locs : List Loc) (ls : Array Slot), (Md [m_told] (stI T133 h 60 (nI n)) T414) → (y ≤ n) → n - y < zn → PW D cy A T414 H → va_S A s.heap H locs → lv_has ls 13 [(0, .ref h), (1, .int (nI n)), (2, .int b), (3, .int (nI (4 ^ n))), (4, .int bc), (5, .int bo), (6, .int (nI y))] → W p l e ({ frames := 1, cells := 0, slots := 0, locals := 23 } : Room) s m args below meth c H locs 0 0 (MQ below (va_Qi (fun r S1 => r = PL a b) (PU D cy A) A) args s 0 0 A) (F0 m 414 ls []) := by
                          intro zn
                          induction zn with
                          | zero => intros; exact absurd (by assumption) (Nat.not_lt_zero _)
                          | succ zn ih414 =>
                            intro y T414 H locs ls hmd414 hy hme hW hS hl
                            have f64 : sK T414 h = 9 := by rw [hmd414.1]; exact f30
                            have f65 : sK T414 m_priceOf = 11 := by rw [hmd414.1]; exact f31
                            have f66 : sK T414 m_wants = 11 := by rw [hmd414.1]; exact f32
                            have f67 : sK T414 m_row = 11 := by rw [hmd414.1]; exact f33
                            have f68 : sK T414 m_bestRow = 11 := by rw [hmd414.1]; exact f34
                            have f69 : sK T414 m_told = 11 := by rw [hmd414.1]; exact f35
                            have f70 : sL T414 m_priceOf = 24 := by rw [hmd414.2.2.1]; exact f36
                            have f71 : sL T414 m_wants = 8 := by rw [hmd414.2.2.1]; exact f37
                            have f72 : sL T414 m_row = 8 := by rw [hmd414.2.2.1]; exact f38
                            have f73 : sL T414 m_bestRow = 8 := by rw [hmd414.2.2.1]; exact f39
                            have f74 : sL T414 m_told = 8 := by rw [hmd414.2.2.1]; exact f40
                            have f75 : sR T414 h 26 = some m_priceOf := by rw [hmd414.2.1]; exact f41
                            have f76 : sR T414 h 56 = some m_wants := by rw [hmd414.2.1]; exact f42
                            have f77 : sR T414 h 57 = some m_row := by rw [hmd414.2.1]; exact f43
                            have f78 : sR T414 h 58 = some m_bestRow := by rw [hmd414.2.1]; exact f44
                            have f79 : sR T414 h 59 = some m_told := by rw [hmd414.2.1]; exact f45
                            have f80 : sI T414 h 18 = 0 := by rw [(hmd414.2.2.2 h (ni_c (fk_ne f30 f35 (by decide)) ni_0)).1]; exact w55
                            have f81 : sI T414 h 19 = 200 := by rw [(hmd414.2.2.2 h (ni_c (fk_ne f30 f35 (by decide)) ni_0)).1]; exact w56
                            have f82 : sI T414 h 23 = 400 := by rw [(hmd414.2.2.2 h (ni_c (fk_ne f30 f35 (by decide)) ni_0)).1]; exact w57
                            have f83 : sI T414 h 24 = 3 := by rw [(hmd414.2.2.2 h (ni_c (fk_ne f30 f35 (by decide)) ni_0)).1]; exact w58
                            have f84 : sI T414 h 35 = 0 := by rw [(hmd414.2.2.2 h (ni_c (fk_ne f30 f35 (by decide)) ni_0)).1]; exact w59
                            have f85 : sI T414 h 60 = nI n := by rw [(hmd414.2.2.2 h (ni_c (fk_ne f30 f35 (by decide)) ni_0)).1]; exact w60
                            have hny : (nI y).toInt = (y : Int) := nI_toInt (by omega)
                            refine lv_iload hx hb dX9_plan_414 (lv_at hl 6 rfl) ?_
                            refine lv_iload_n hx hb dX9_plan_416 rfl (lv_at hl 1 rfl) ?_
                            refine lv_icmp_ge (tgt := 440) hx hb dX9_plan_417 (by decide) (fun c86 => ?_) (fun c86 => ?_)
                            · have c86i : Int32.toInt (nI n) ≤ Int32.toInt (nI y) := (i3_le _ _).mp c86
                              refine lv_iload hx hb dX9_plan_440 (lv_at hl 4 rfl) ?_
                              exact pc_iret (v := bc) (S := T414) hx hb hr hlk hK hZ hA hW hS ((Bst_end (by rw [← hce]; exact hbst)).trans (PL_yes hva (by omega) ew)) dX9_plan_442
                            · have c86i : ¬ (Int32.toInt (nI n) ≤ Int32.toInt (nI y)) := fun h9 => c86 ((i3_le _ _).mpr h9)
                              refine lv_aload_n hx hb dX9_plan_420 rfl (lv_at hl 0 rfl) ?_
                              refine pg_gr (b := m_told) (ci := 9) (C := RX9) (T := TX9) (N := 63) hx hb hts wi9 hown hK hW f64 (by decide) rfl 59 (by decide) (hts (.fieldLink RX9 130 "IceHallModel" "told" "[I") (by decide +kernel)) (fun _ h9 => h9) rfl f79 dX9_plan_421 ?_
                              refine lv_iload hx hb dX9_plan_424 (lv_at hl 6 rfl) ?_
                              refine lv_aload_n hx hb dX9_plan_426 rfl (lv_at hl 0 rfl) ?_
                              refine pg_gr (b := m_bestRow) (ci := 9) (C := RX9) (T := TX9) (N := 63) hx hb hts wi9 hown hK hW f64 (by decide) rfl 58 (by decide) (hts (.fieldLink RX9 127 "IceHallModel" "bestRow" "[I") (by decide +kernel)) (fun _ h9 => h9) rfl f78 dX9_plan_427 ?_
                              refine lv_iload hx hb dX9_plan_430 (lv_at hl 6 rfl) ?_
                              refine pg_iald hx hb hK hW f68 (by rw [show sL T414 m_bestRow = 8 from f73]; exact vp_in_nI (by omega) (by decide)) dX9_plan_432 ?_
                              refine pg_iast hx hb hK hW hS f69 (by rw [show sL T414 m_told = 8 from f74]; exact vp_in_nI (by omega) (by decide)) dX9_plan_433 (fun H locs hW hS => ?_)
                              have w87 : sI (stI T414 m_told (Int32.toNatClampNeg (nI y)) (sI T414 m_bestRow (Int32.toNatClampNeg (nI y)))) h 18 = 0 := (iI_a (fk_ne f64 f69 (by decide))).trans f80
                              have w88 : sI (stI T414 m_told (Int32.toNatClampNeg (nI y)) (sI T414 m_bestRow (Int32.toNatClampNeg (nI y)))) h 19 = 200 := (iI_a (fk_ne f64 f69 (by decide))).trans f81
                              have w89 : sI (stI T414 m_told (Int32.toNatClampNeg (nI y)) (sI T414 m_bestRow (Int32.toNatClampNeg (nI y)))) h 23 = 400 := (iI_a (fk_ne f64 f69 (by decide))).trans f82
                              have w90 : sI (stI T414 m_told (Int32.toNatClampNeg (nI y)) (sI T414 m_bestRow (Int32.toNatClampNeg (nI y)))) h 24 = 3 := (iI_a (fk_ne f64 f69 (by decide))).trans f83
                              have w91 : sI (stI T414 m_told (Int32.toNatClampNeg (nI y)) (sI T414 m_bestRow (Int32.toNatClampNeg (nI y)))) h 35 = 0 := (iI_a (fk_ne f64 f69 (by decide))).trans f84
                              have w92 : sI (stI T414 m_told (Int32.toNatClampNeg (nI y)) (sI T414 m_bestRow (Int32.toNatClampNeg (nI y)))) h 60 = nI n := (iI_a (fk_ne f64 f69 (by decide))).trans f85
                              clear f80 f81 f82 f83 f84 f85
                              refine lv_iinc (v := nI y + 1) (lv' := [(6, .int (nI y + 1)), (0, .ref h), (1, .int (nI n)), (2, .int b), (3, .int (nI (4 ^ n))), (4, .int bc), (5, .int bo)]) hx hb dX9_plan_434 hl (k := 6) rfl rfl (by decide) rfl (fun ls hl => ?_)
                              refine lv_goto (tgt := 414) hx hb dX9_plan_437 (by decide) ?_
                              exact ih414 (y + 1) (stI T414 m_told (Int32.toNatClampNeg (nI y)) (sI T414 m_bestRow (Int32.toNatClampNeg (nI y)))) H locs ls (hmd414.I List.mem_cons_self) (by omega) (by omega) hW hS (lv_cast (lv_sub hl [1, 2, 3, 4, 5, 6, 0] rfl) (by rw [nI_1]; rfl))
                        exact loop63 _ 0 (stI T133 h 60 (nI n)) _ _ ls (Md.rf _ _) (Nat.zero_le _) (Nat.lt_succ_self _) hW hS (lv_cast (lv_sub hl [1, 2, 3, 4, 5, 6, 0] rfl) (rfl))
                      · have c54i : Int32.toInt bc = (-1 : Int) := (i3_eq _ _).mp c54
                        refine lv_iconst (v := (-1)) hx hb dX9_plan_404 (by decide) ?_
                        exact pc_iret (v := (-1)) (S := T133) hx hb hr hlk hK hZ hA hW hS ((show (-1 : Int32) = bc from (by assumption : bc = -1).symm).trans ((Bst_end (by rw [← hce]; exact hbst)).trans (PL_yes hva (by omega) ew))) dX9_plan_405
                    · have c53i : ¬ (Int32.toInt (nI (4 ^ n)) ≤ Int32.toInt (nI cd)) := fun h9 => c53 ((i3_le _ _).mpr h9)
                      refine lv_iload hx hb dX9_plan_139 (lv_at hl 6 rfl) ?_
                      refine lv_istore (lv' := [(7, .int (nI cd)), (0, .ref h), (1, .int (nI n)), (2, .int b), (3, .int (nI (4 ^ n))), (4, .int bc), (5, .int bo), (6, .int (nI cd))]) hx hb dX9_plan_141 hl (by decide) rfl (fun ls hl => ?_)
                      refine lv_iload_n hx hb dX9_plan_143 rfl (lv_at hl 2 rfl) ?_
                      refine lv_iconst (v := 1) hx hb dX9_plan_144 (by decide) ?_
                      refine lv_isub hx hb dX9_plan_145 ?_
                      refine lv_istore (lv' := [(8, .int ((nI n) - 1)), (7, .int (nI cd)), (0, .ref h), (1, .int (nI n)), (2, .int b), (3, .int (nI (4 ^ n))), (4, .int bc), (5, .int bo), (6, .int (nI cd))]) hx hb dX9_plan_146 hl (by decide) rfl (fun ls hl => ?_)
                      have loop93 : ∀ (zn : Nat) (xc : Nat) (q : Nat) (T148 : St) (H : Heap) (locs : List Loc) (ls : Array Slot), (Md [m_row] T133 T148) → (q ≤ n) → (xc = cd / 4 ^ (n - q)) → (∀ j, q ≤ j → j < n → sI T148 m_row j = nI (cd / 4 ^ (n - 1 - j) % 4)) → q < zn → PW D cy A T148 H → va_S A s.heap H locs → lv_has ls 13 [(0, .ref h), (1, .int (nI n)), (2, .int b), (3, .int (nI (4 ^ n))), (4, .int bc), (5, .int bo), (6, .int (nI cd)), (7, .int (nI xc)), (8, .int (nI q - 1))] → W p l e ({ frames := 1, cells := 0, slots := 0, locals := 23 } : Room) s m args below meth c H locs 0 0 (MQ below (va_Qi (fun r S1 => r = PL a b) (PU D cy A) A) args s 0 0 A) (F0 m 148 ls []) := by
                        intro zn
                        induction zn with
                        | zero => intros; exact absurd (by assumption) (Nat.not_lt_zero _)
                        | succ zn ih148 =>
                          intro xc q T148 H locs ls hmd148 hq hxq hrow hme hW hS hl
                          have f94 : sK T148 h = 9 := by rw [hmd148.1]; exact f30
                          have f95 : sK T148 m_priceOf = 11 := by rw [hmd148.1]; exact f31
                          have f96 : sK T148 m_wants = 11 := by rw [hmd148.1]; exact f32
                          have f97 : sK T148 m_row = 11 := by rw [hmd148.1]; exact f33
                          have f98 : sK T148 m_bestRow = 11 := by rw [hmd148.1]; exact f34
                          have f99 : sK T148 m_told = 11 := by rw [hmd148.1]; exact f35
                          have f100 : sL T148 m_priceOf = 24 := by rw [hmd148.2.2.1]; exact f36
                          have f101 : sL T148 m_wants = 8 := by rw [hmd148.2.2.1]; exact f37
                          have f102 : sL T148 m_row = 8 := by rw [hmd148.2.2.1]; exact f38
                          have f103 : sL T148 m_bestRow = 8 := by rw [hmd148.2.2.1]; exact f39
                          have f104 : sL T148 m_told = 8 := by rw [hmd148.2.2.1]; exact f40
                          have f105 : sR T148 h 26 = some m_priceOf := by rw [hmd148.2.1]; exact f41
                          have f106 : sR T148 h 56 = some m_wants := by rw [hmd148.2.1]; exact f42
                          have f107 : sR T148 h 57 = some m_row := by rw [hmd148.2.1]; exact f43
                          have f108 : sR T148 h 58 = some m_bestRow := by rw [hmd148.2.1]; exact f44
                          have f109 : sR T148 h 59 = some m_told := by rw [hmd148.2.1]; exact f45
                          have f110 : sI T148 h 18 = 0 := by rw [(hmd148.2.2.2 h (ni_c (fk_ne f30 f33 (by decide)) ni_0)).1]; exact f46
                          have f111 : sI T148 h 19 = 200 := by rw [(hmd148.2.2.2 h (ni_c (fk_ne f30 f33 (by decide)) ni_0)).1]; exact f47
                          have f112 : sI T148 h 23 = 400 := by rw [(hmd148.2.2.2 h (ni_c (fk_ne f30 f33 (by decide)) ni_0)).1]; exact f48
                          have f113 : sI T148 h 24 = 3 := by rw [(hmd148.2.2.2 h (ni_c (fk_ne f30 f33 (by decide)) ni_0)).1]; exact f49
                          have f114 : sI T148 h 35 = 0 := by rw [(hmd148.2.2.2 h (ni_c (fk_ne f30 f33 (by decide)) ni_0)).1]; exact f50
                          have f115 : ∀ j, j < 24 → sI T148 m_priceOf j = 10 := fun j hj => by rw [(hmd148.2.2.2 m_priceOf (ni_c ap_4 ni_0)).1]; exact f51 j hj 
                          have g116 : ∀ j, j < n → sI T148 m_wants j = nI w := by rw [(hmd148.2.2.2 m_wants (ni_c ap_0 ni_0)).1]; exact g52
                          have hqi : (nI q - 1).toInt = (q : Int) - 1 := pk_sub_toInt (a := q) (b := 1) (by omega) (by decide)
                          have hxb : xc ≤ cd := by rw [hxq]; exact Nat.div_le_self _ _
                          have hcn : cd < 4 ^ n := by omega
                          refine lv_iload hx hb dX9_plan_148 (lv_at hl 8 rfl) ?_
                          refine lv_if_lt (tgt := 176) hx hb dX9_plan_150 (by decide) (fun c117 => ?_) (fun c117 => ?_)
                          · have c117i : Int32.toInt (nI q - 1) < (0 : Int) := (i3_lt _ _).mp c117
                            have hq0 : q = 0 := by omega
                            subst hq0
                            refine lv_aload_n hx hb dX9_plan_176 rfl (lv_at hl 0 rfl) ?_
                            refine pg_gi (ci := 9) (C := RX9) (T := TX9) (N := 63) hx hb hts wi9 hown hK hW f94 (by decide) rfl 19 (by decide) (hts (.fieldLink RX9 32 "IceHallModel" "store" "I") (by decide +kernel)) (fun _ h9 => h9) rfl dX9_plan_177 ?_
                            rw [show sI T148 h 19 = 200 from f111]
                            refine lv_istore (lv' := [(8, .int 200), (0, .ref h), (1, .int (nI n)), (2, .int b), (3, .int (nI (4 ^ n))), (4, .int bc), (5, .int bo), (6, .int (nI cd)), (7, .int (nI xc))]) hx hb dX9_plan_180 hl (by decide) rfl (fun ls hl => ?_)
                            refine lv_iconst (v := 0) hx hb dX9_plan_182 (by decide) ?_
                            refine lv_istore (lv' := [(9, .int 0), (8, .int 200), (0, .ref h), (1, .int (nI n)), (2, .int b), (3, .int (nI (4 ^ n))), (4, .int bc), (5, .int bo), (6, .int (nI cd)), (7, .int (nI xc))]) hx hb dX9_plan_183 hl (by decide) rfl (fun ls hl => ?_)
                            refine lv_iconst (v := 0) hx hb dX9_plan_185 (by decide) ?_
                            refine lv_istore (lv' := [(10, .int 0), (9, .int 0), (8, .int 200), (0, .ref h), (1, .int (nI n)), (2, .int b), (3, .int (nI (4 ^ n))), (4, .int bc), (5, .int bo), (6, .int (nI cd)), (7, .int (nI xc))]) hx hb dX9_plan_186 hl (by decide) rfl (fun ls hl => ?_)
                            refine lv_iconst (v := 1) hx hb dX9_plan_188 (by decide) ?_
                            refine lv_istore (lv' := [(11, .int 1), (10, .int 0), (9, .int 0), (8, .int 200), (0, .ref h), (1, .int (nI n)), (2, .int b), (3, .int (nI (4 ^ n))), (4, .int bc), (5, .int bo), (6, .int (nI cd)), (7, .int (nI xc))]) hx hb dX9_plan_189 hl (by decide) rfl (fun ls hl => ?_)
                            refine lv_iconst (v := 0) hx hb dX9_plan_191 (by decide) ?_
                            refine lv_istore (lv' := [(12, .int 0), (11, .int 1), (10, .int 0), (9, .int 0), (8, .int 200), (0, .ref h), (1, .int (nI n)), (2, .int b), (3, .int (nI (4 ^ n))), (4, .int bc), (5, .int bo), (6, .int (nI cd)), (7, .int (nI xc))]) hx hb dX9_plan_192 hl (by decide) rfl (fun ls hl => ?_)
                            have loop118 : ∀ (zn : Nat) (hs : Int32) (pe : Int32) (ns : Int32) (gd : Int32) (k : Nat) (H : Heap) (locs : List Loc) (ls : Array Slot), (k ≤ n) → (Sim w n cd k hs pe ns gd) → n - k < zn → PW D cy A T148 H → va_S A s.heap H locs → lv_has ls 13 [(0, .ref h), (1, .int (nI n)), (2, .int b), (3, .int (nI (4 ^ n))), (4, .int bc), (5, .int bo), (6, .int (nI cd)), (7, .int (nI xc)), (8, .int hs), (9, .int pe), (10, .int ns), (11, .int gd), (12, .int (nI k))] → W p l e ({ frames := 1, cells := 0, slots := 0, locals := 23 } : Room) s m args below meth c H locs 0 0 (MQ below (va_Qi (fun r S1 => r = PL a b) (PU D cy A) A) args s 0 0 A) (F0 m 194 ls []) := by
                              intro zn
                              induction zn with
                              | zero => intros; exact absurd (by assumption) (Nat.not_lt_zero _)
                              | succ zn ih194 =>
                                intro hs pe ns gd k H locs ls hk0 hsim hme hW hS hl
                                have hkk : (nI k).toInt = (k : Int) := nI_toInt (by omega)
                                refine lv_iload hx hb dX9_plan_194 (lv_at hl 12 rfl) ?_
                                refine lv_iload_n hx hb dX9_plan_196 rfl (lv_at hl 1 rfl) ?_
                                refine lv_icmp_ge (tgt := 320) hx hb dX9_plan_197 (by decide) (fun c119 => ?_) (fun c119 => ?_)
                                · have c119i : Int32.toInt (nI n) ≤ Int32.toInt (nI k) := (i3_le _ _).mp c119
                                  refine lv_iload hx hb dX9_plan_320 (lv_at hl 11 rfl) ?_
                                  refine lv_if_eq (tgt := 392) hx hb dX9_plan_322 (by decide) (fun c120 => ?_) (fun c120 => ?_)
                                  · have c120i : Int32.toInt gd = (0 : Int) := (i3_eq _ _).mp c120
                                    refine lv_iinc (v := nI cd + 1) (lv' := [(6, .int (nI cd + 1)), (0, .ref h), (1, .int (nI n)), (2, .int b), (3, .int (nI (4 ^ n))), (4, .int bc), (5, .int bo), (7, .int (nI xc)), (8, .int hs), (9, .int pe), (10, .int ns), (11, .int gd), (12, .int (nI k))]) hx hb dX9_plan_392 hl (k := 6) rfl rfl (by decide) rfl (fun ls hl => ?_)
                                    refine lv_goto (tgt := 133) hx hb dX9_plan_395 (by decide) ?_
                                    exact ih133 bc bo (cd + 1) T148 H locs ls (hmd133.tr (hmd148.sub (by simp))) (by omega) (Bst_inf hbst (Sim_bad hsim c120)) (by omega) hW hS (lv_cast (lv_sub hl [1, 2, 3, 4, 5, 6, 0] rfl) (by rw [nI_1]; rfl))
                                  · have c120i : ¬ (Int32.toInt gd = (0 : Int)) := fun h9 => c120 ((i3_eq _ _).mpr h9)
                                    have hkn : n = k := by omega
                                    subst hkn
                                    obtain ⟨u, hu24, hFu, rfl, rfl⟩ := Sim_end hn8 hsim c120
                                    refine lv_iload hx hb dX9_plan_325 (lv_at hl 4 rfl) ?_
                                    refine lv_iconst (v := (-1)) hx hb dX9_plan_327 (by decide) ?_
                                    refine lv_icmp_eq (tgt := 355) hx hb dX9_plan_328 (by decide) (fun c121 => ?_) (fun c121 => ?_)
                                    · have c121i : Int32.toInt bc = (-1 : Int) := (i3_eq _ _).mp c121
                                      refine lv_iload hx hb dX9_plan_355 (lv_at hl 9 rfl) ?_
                                      refine lv_istore (lv' := [(4, .int (nI (10 * u))), (0, .ref h), (1, .int (nI n)), (2, .int b), (3, .int (nI (4 ^ n))), (5, .int bo), (6, .int (nI cd)), (7, .int (nI xc)), (8, .int hs), (9, .int (nI (10 * u))), (10, .int (nI u)), (11, .int gd), (12, .int (nI n))]) hx hb dX9_plan_357 hl (by decide) rfl (fun ls hl => ?_)
                                      refine lv_iload hx hb dX9_plan_359 (lv_at hl 10 rfl) ?_
                                      refine lv_istore (lv' := [(5, .int (nI u)), (4, .int (nI (10 * u))), (0, .ref h), (1, .int (nI n)), (2, .int b), (3, .int (nI (4 ^ n))), (6, .int (nI cd)), (7, .int (nI xc)), (8, .int hs), (9, .int (nI (10 * u))), (10, .int (nI u)), (11, .int gd), (12, .int (nI n))]) hx hb dX9_plan_361 hl (by decide) rfl (fun ls hl => ?_)
                                      refine lv_iconst (v := 0) hx hb dX9_plan_363 (by decide) ?_
                                      refine lv_istore (lv' := [(12, .int 0), (5, .int (nI u)), (4, .int (nI (10 * u))), (0, .ref h), (1, .int (nI n)), (2, .int b), (3, .int (nI (4 ^ n))), (6, .int (nI cd)), (7, .int (nI xc)), (8, .int hs), (9, .int (nI (10 * u))), (10, .int (nI u)), (11, .int gd)]) hx hb dX9_plan_364 hl (by decide) rfl (fun ls hl => ?_)
                                      have loop122 : ∀ (zn : Nat) (y : Nat) (T366 : St) (H : Heap) (locs : List Loc) (ls : Array Slot), (Md [m_bestRow] T148 T366) → (y ≤ n) → n - y < zn → PW D cy A T366 H → va_S A s.heap H locs → lv_has ls 13 [(0, .ref h), (1, .int (nI n)), (2, .int b), (3, .int (nI (4 ^ n))), (4, .int (nI (10 * u))), (5, .int (nI u)), (6, .int (nI cd)), (7, .int (nI xc)), (8, .int hs), (9, .int (nI (10 * u))), (10, .int (nI u)), (11, .int gd), (12, .int (nI y))] → W p l e ({ frames := 1, cells := 0, slots := 0, locals := 23 } : Room) s m args below meth c H locs 0 0 (MQ below (va_Qi (fun r S1 => r = PL a b) (PU D cy A) A) args s 0 0 A) (F0 m 366 ls []) := by
                                        intro zn
                                        induction zn with
                                        | zero => intros; exact absurd (by assumption) (Nat.not_lt_zero _)
                                        | succ zn ih366 =>
                                          intro y T366 H locs ls hmd366 hy hme hW hS hl
                                          have f123 : sK T366 h = 9 := by rw [hmd366.1]; exact f94
                                          have f124 : sK T366 m_priceOf = 11 := by rw [hmd366.1]; exact f95
                                          have f125 : sK T366 m_wants = 11 := by rw [hmd366.1]; exact f96
                                          have f126 : sK T366 m_row = 11 := by rw [hmd366.1]; exact f97
                                          have f127 : sK T366 m_bestRow = 11 := by rw [hmd366.1]; exact f98
                                          have f128 : sK T366 m_told = 11 := by rw [hmd366.1]; exact f99
                                          have f129 : sL T366 m_priceOf = 24 := by rw [hmd366.2.2.1]; exact f100
                                          have f130 : sL T366 m_wants = 8 := by rw [hmd366.2.2.1]; exact f101
                                          have f131 : sL T366 m_row = 8 := by rw [hmd366.2.2.1]; exact f102
                                          have f132 : sL T366 m_bestRow = 8 := by rw [hmd366.2.2.1]; exact f103
                                          have f133 : sL T366 m_told = 8 := by rw [hmd366.2.2.1]; exact f104
                                          have f134 : sR T366 h 26 = some m_priceOf := by rw [hmd366.2.1]; exact f105
                                          have f135 : sR T366 h 56 = some m_wants := by rw [hmd366.2.1]; exact f106
                                          have f136 : sR T366 h 57 = some m_row := by rw [hmd366.2.1]; exact f107
                                          have f137 : sR T366 h 58 = some m_bestRow := by rw [hmd366.2.1]; exact f108
                                          have f138 : sR T366 h 59 = some m_told := by rw [hmd366.2.1]; exact f109
                                          have f139 : sI T366 h 18 = 0 := by rw [(hmd366.2.2.2 h (ni_c (fk_ne f94 f98 (by decide)) ni_0)).1]; exact f110
                                          have f140 : sI T366 h 19 = 200 := by rw [(hmd366.2.2.2 h (ni_c (fk_ne f94 f98 (by decide)) ni_0)).1]; exact f111
                                          have f141 : sI T366 h 23 = 400 := by rw [(hmd366.2.2.2 h (ni_c (fk_ne f94 f98 (by decide)) ni_0)).1]; exact f112
                                          have f142 : sI T366 h 24 = 3 := by rw [(hmd366.2.2.2 h (ni_c (fk_ne f94 f98 (by decide)) ni_0)).1]; exact f113
                                          have f143 : sI T366 h 35 = 0 := by rw [(hmd366.2.2.2 h (ni_c (fk_ne f94 f98 (by decide)) ni_0)).1]; exact f114
                                          have f144 : ∀ j, j < 24 → sI T366 m_priceOf j = 10 := fun j hj => by rw [(hmd366.2.2.2 m_priceOf (ni_c ap_5 ni_0)).1]; exact f115 j hj 
                                          have g145 : ∀ j, j < n → sI T366 m_wants j = nI w := by rw [(hmd366.2.2.2 m_wants (ni_c ap_1 ni_0)).1]; exact g116
                                          have hny : (nI y).toInt = (y : Int) := nI_toInt (by omega)
                                          refine lv_iload hx hb dX9_plan_366 (lv_at hl 12 rfl) ?_
                                          refine lv_iload_n hx hb dX9_plan_368 rfl (lv_at hl 1 rfl) ?_
                                          refine lv_icmp_ge (tgt := 392) hx hb dX9_plan_369 (by decide) (fun c146 => ?_) (fun c146 => ?_)
                                          · have c146i : Int32.toInt (nI n) ≤ Int32.toInt (nI y) := (i3_le _ _).mp c146
                                            refine lv_iinc (v := nI cd + 1) (lv' := [(6, .int (nI cd + 1)), (0, .ref h), (1, .int (nI n)), (2, .int b), (3, .int (nI (4 ^ n))), (4, .int (nI (10 * u))), (5, .int (nI u)), (7, .int (nI xc)), (8, .int hs), (9, .int (nI (10 * u))), (10, .int (nI u)), (11, .int gd), (12, .int (nI y))]) hx hb dX9_plan_392 hl (k := 6) rfl rfl (by decide) rfl (fun ls hl => ?_)
                                            refine lv_goto (tgt := 133) hx hb dX9_plan_395 (by decide) ?_
                                            exact ih133 (nI (10 * u)) (nI u) (cd + 1) T366 H locs ls ((hmd133.tr (hmd148.sub (by simp))).tr (hmd366.sub (by simp))) (by omega) (by show Bst (min (Bc w n cd) (Fc w n 0 0 cd)) (nI (10 * u)) (nI u); rw [hFu]; exact Bst_up hbst hu24 (by omega)) (by omega) hW hS (lv_cast (lv_sub hl [1, 2, 3, 4, 5, 6, 0] rfl) (by rw [nI_1]; rfl))
                                          · have c146i : ¬ (Int32.toInt (nI n) ≤ Int32.toInt (nI y)) := fun h9 => c146 ((i3_le _ _).mpr h9)
                                            refine lv_aload_n hx hb dX9_plan_372 rfl (lv_at hl 0 rfl) ?_
                                            refine pg_gr (b := m_bestRow) (ci := 9) (C := RX9) (T := TX9) (N := 63) hx hb hts wi9 hown hK hW f123 (by decide) rfl 58 (by decide) (hts (.fieldLink RX9 127 "IceHallModel" "bestRow" "[I") (by decide +kernel)) (fun _ h9 => h9) rfl f137 dX9_plan_373 ?_
                                            refine lv_iload hx hb dX9_plan_376 (lv_at hl 12 rfl) ?_
                                            refine lv_aload_n hx hb dX9_plan_378 rfl (lv_at hl 0 rfl) ?_
                                            refine pg_gr (b := m_row) (ci := 9) (C := RX9) (T := TX9) (N := 63) hx hb hts wi9 hown hK hW f123 (by decide) rfl 57 (by decide) (hts (.fieldLink RX9 124 "IceHallModel" "row" "[I") (by decide +kernel)) (fun _ h9 => h9) rfl f136 dX9_plan_379 ?_
                                            refine lv_iload hx hb dX9_plan_382 (lv_at hl 12 rfl) ?_
                                            refine pg_iald hx hb hK hW f126 (by rw [show sL T366 m_row = 8 from f131]; exact vp_in_nI (by omega) (by decide)) dX9_plan_384 ?_
                                            refine pg_iast hx hb hK hW hS f127 (by rw [show sL T366 m_bestRow = 8 from f132]; exact vp_in_nI (by omega) (by decide)) dX9_plan_385 (fun H locs hW hS => ?_)
                                            have w147 : sI (stI T366 m_bestRow (Int32.toNatClampNeg (nI y)) (sI T366 m_row (Int32.toNatClampNeg (nI y)))) h 18 = 0 := (iI_a (fk_ne f123 f127 (by decide))).trans f139
                                            have w148 : sI (stI T366 m_bestRow (Int32.toNatClampNeg (nI y)) (sI T366 m_row (Int32.toNatClampNeg (nI y)))) h 19 = 200 := (iI_a (fk_ne f123 f127 (by decide))).trans f140
                                            have w149 : sI (stI T366 m_bestRow (Int32.toNatClampNeg (nI y)) (sI T366 m_row (Int32.toNatClampNeg (nI y)))) h 23 = 400 := (iI_a (fk_ne f123 f127 (by decide))).trans f141
                                            have w150 : sI (stI T366 m_bestRow (Int32.toNatClampNeg (nI y)) (sI T366 m_row (Int32.toNatClampNeg (nI y)))) h 24 = 3 := (iI_a (fk_ne f123 f127 (by decide))).trans f142
                                            have w151 : sI (stI T366 m_bestRow (Int32.toNatClampNeg (nI y)) (sI T366 m_row (Int32.toNatClampNeg (nI y)))) h 35 = 0 := (iI_a (fk_ne f123 f127 (by decide))).trans f143
                                            have w152 : ∀ j, j < 24 → sI (stI T366 m_bestRow (Int32.toNatClampNeg (nI y)) (sI T366 m_row (Int32.toNatClampNeg (nI y)))) m_priceOf j = 10 := fun j hj => (iI_a ap_5).trans (f144 j hj)
                                            have g153 : ∀ j, j < n → sI (stI T366 m_bestRow (Int32.toNatClampNeg (nI y)) (sI T366 m_row (Int32.toNatClampNeg (nI y)))) m_wants j = nI w := by rw [iI_A ap_1]; exact g145
                                            clear f139 f140 f141 f142 f143 f144
                                            refine lv_iinc (v := nI y + 1) (lv' := [(12, .int (nI y + 1)), (0, .ref h), (1, .int (nI n)), (2, .int b), (3, .int (nI (4 ^ n))), (4, .int (nI (10 * u))), (5, .int (nI u)), (6, .int (nI cd)), (7, .int (nI xc)), (8, .int hs), (9, .int (nI (10 * u))), (10, .int (nI u)), (11, .int gd)]) hx hb dX9_plan_386 hl (k := 12) rfl rfl (by decide) rfl (fun ls hl => ?_)
                                            refine lv_goto (tgt := 366) hx hb dX9_plan_389 (by decide) ?_
                                            exact ih366 (y + 1) (stI T366 m_bestRow (Int32.toNatClampNeg (nI y)) (sI T366 m_row (Int32.toNatClampNeg (nI y)))) H locs ls (hmd366.I List.mem_cons_self) (by omega) (by omega) hW hS (lv_cast (lv_sub hl [1, 2, 3, 4, 5, 6, 7, 8, 9, 10, 11, 12, 0] rfl) (by rw [nI_1]; rfl))
                                      exact loop122 _ 0 T148 _ _ ls (Md.rf _ _) (Nat.zero_le _) (Nat.lt_succ_self _) hW hS (lv_cast (lv_sub hl [3, 4, 5, 6, 2, 1, 7, 8, 9, 10, 11, 12, 0] rfl) (rfl))
                                    · have c121i : ¬ (Int32.toInt bc = (-1 : Int)) := fun h9 => c121 ((i3_eq _ _).mpr h9)
                                      refine lv_iload hx hb dX9_plan_331 (lv_at hl 9 rfl) ?_
                                      refine lv_iload hx hb dX9_plan_333 (lv_at hl 4 rfl) ?_
                                      refine lv_icmp_gt (tgt := 392) hx hb dX9_plan_335 (by decide) (fun c154 => ?_) (fun c154 => ?_)
                                      · have c154i : Int32.toInt bc < Int32.toInt (nI (10 * u)) := (i3_lt _ _).mp c154
                                        refine lv_iinc (v := nI cd + 1) (lv' := [(6, .int (nI cd + 1)), (0, .ref h), (1, .int (nI n)), (2, .int b), (3, .int (nI (4 ^ n))), (4, .int bc), (5, .int bo), (7, .int (nI xc)), (8, .int hs), (9, .int (nI (10 * u))), (10, .int (nI u)), (11, .int gd), (12, .int (nI n))]) hx hb dX9_plan_392 hl (k := 6) rfl rfl (by decide) rfl (fun ls hl => ?_)
                                        refine lv_goto (tgt := 133) hx hb dX9_plan_395 (by decide) ?_
                                        exact ih133 bc bo (cd + 1) T148 H locs ls (hmd133.tr (hmd148.sub (by simp))) (by omega) (by show Bst (min (Bc w n cd) (Fc w n 0 0 cd)) bc bo; rw [hFu]; exact Bst_keep hbst hu24 (by omega) (by omega)) (by omega) hW hS (lv_cast (lv_sub hl [1, 2, 3, 4, 5, 6, 0] rfl) (by rw [nI_1]; rfl))
                                      · have c154i : ¬ (Int32.toInt bc < Int32.toInt (nI (10 * u))) := fun h9 => c154 ((i3_lt _ _).mpr h9)
                                        refine lv_iload hx hb dX9_plan_338 (lv_at hl 9 rfl) ?_
                                        refine lv_iload hx hb dX9_plan_340 (lv_at hl 4 rfl) ?_
                                        refine lv_icmp_ne (tgt := 355) hx hb dX9_plan_342 (by decide) (fun c155 => ?_) (fun c155 => ?_)
                                        · have c155i : ¬ (Int32.toInt (nI (10 * u)) = Int32.toInt bc) := fun h9 => c155 ((i3_eq _ _).mpr h9)
                                          refine lv_iload hx hb dX9_plan_355 (lv_at hl 9 rfl) ?_
                                          refine lv_istore (lv' := [(4, .int (nI (10 * u))), (0, .ref h), (1, .int (nI n)), (2, .int b), (3, .int (nI (4 ^ n))), (5, .int bo), (6, .int (nI cd)), (7, .int (nI xc)), (8, .int hs), (9, .int (nI (10 * u))), (10, .int (nI u)), (11, .int gd), (12, .int (nI n))]) hx hb dX9_plan_357 hl (by decide) rfl (fun ls hl => ?_)
                                          refine lv_iload hx hb dX9_plan_359 (lv_at hl 10 rfl) ?_
                                          refine lv_istore (lv' := [(5, .int (nI u)), (4, .int (nI (10 * u))), (0, .ref h), (1, .int (nI n)), (2, .int b), (3, .int (nI (4 ^ n))), (6, .int (nI cd)), (7, .int (nI xc)), (8, .int hs), (9, .int (nI (10 * u))), (10, .int (nI u)), (11, .int gd), (12, .int (nI n))]) hx hb dX9_plan_361 hl (by decide) rfl (fun ls hl => ?_)
                                          refine lv_iconst (v := 0) hx hb dX9_plan_363 (by decide) ?_
                                          refine lv_istore (lv' := [(12, .int 0), (5, .int (nI u)), (4, .int (nI (10 * u))), (0, .ref h), (1, .int (nI n)), (2, .int b), (3, .int (nI (4 ^ n))), (6, .int (nI cd)), (7, .int (nI xc)), (8, .int hs), (9, .int (nI (10 * u))), (10, .int (nI u)), (11, .int gd)]) hx hb dX9_plan_364 hl (by decide) rfl (fun ls hl => ?_)
                                          have loop156 : ∀ (zn : Nat) (y : Nat) (T366 : St) (H : Heap) (locs : List Loc) (ls : Array Slot), (Md [m_bestRow] T148 T366) → (y ≤ n) → n - y < zn → PW D cy A T366 H → va_S A s.heap H locs → lv_has ls 13 [(0, .ref h), (1, .int (nI n)), (2, .int b), (3, .int (nI (4 ^ n))), (4, .int (nI (10 * u))), (5, .int (nI u)), (6, .int (nI cd)), (7, .int (nI xc)), (8, .int hs), (9, .int (nI (10 * u))), (10, .int (nI u)), (11, .int gd), (12, .int (nI y))] → W p l e ({ frames := 1, cells := 0, slots := 0, locals := 23 } : Room) s m args below meth c H locs 0 0 (MQ below (va_Qi (fun r S1 => r = PL a b) (PU D cy A) A) args s 0 0 A) (F0 m 366 ls []) := by
                                            intro zn
                                            induction zn with
                                            | zero => intros; exact absurd (by assumption) (Nat.not_lt_zero _)
                                            | succ zn ih366 =>
                                              intro y T366 H locs ls hmd366 hy hme hW hS hl
                                              have f157 : sK T366 h = 9 := by rw [hmd366.1]; exact f94
                                              have f158 : sK T366 m_priceOf = 11 := by rw [hmd366.1]; exact f95
                                              have f159 : sK T366 m_wants = 11 := by rw [hmd366.1]; exact f96
                                              have f160 : sK T366 m_row = 11 := by rw [hmd366.1]; exact f97
                                              have f161 : sK T366 m_bestRow = 11 := by rw [hmd366.1]; exact f98
                                              have f162 : sK T366 m_told = 11 := by rw [hmd366.1]; exact f99
                                              have f163 : sL T366 m_priceOf = 24 := by rw [hmd366.2.2.1]; exact f100
                                              have f164 : sL T366 m_wants = 8 := by rw [hmd366.2.2.1]; exact f101
                                              have f165 : sL T366 m_row = 8 := by rw [hmd366.2.2.1]; exact f102
                                              have f166 : sL T366 m_bestRow = 8 := by rw [hmd366.2.2.1]; exact f103
                                              have f167 : sL T366 m_told = 8 := by rw [hmd366.2.2.1]; exact f104
                                              have f168 : sR T366 h 26 = some m_priceOf := by rw [hmd366.2.1]; exact f105
                                              have f169 : sR T366 h 56 = some m_wants := by rw [hmd366.2.1]; exact f106
                                              have f170 : sR T366 h 57 = some m_row := by rw [hmd366.2.1]; exact f107
                                              have f171 : sR T366 h 58 = some m_bestRow := by rw [hmd366.2.1]; exact f108
                                              have f172 : sR T366 h 59 = some m_told := by rw [hmd366.2.1]; exact f109
                                              have f173 : sI T366 h 18 = 0 := by rw [(hmd366.2.2.2 h (ni_c (fk_ne f94 f98 (by decide)) ni_0)).1]; exact f110
                                              have f174 : sI T366 h 19 = 200 := by rw [(hmd366.2.2.2 h (ni_c (fk_ne f94 f98 (by decide)) ni_0)).1]; exact f111
                                              have f175 : sI T366 h 23 = 400 := by rw [(hmd366.2.2.2 h (ni_c (fk_ne f94 f98 (by decide)) ni_0)).1]; exact f112
                                              have f176 : sI T366 h 24 = 3 := by rw [(hmd366.2.2.2 h (ni_c (fk_ne f94 f98 (by decide)) ni_0)).1]; exact f113
                                              have f177 : sI T366 h 35 = 0 := by rw [(hmd366.2.2.2 h (ni_c (fk_ne f94 f98 (by decide)) ni_0)).1]; exact f114
                                              have f178 : ∀ j, j < 24 → sI T366 m_priceOf j = 10 := fun j hj => by rw [(hmd366.2.2.2 m_priceOf (ni_c ap_5 ni_0)).1]; exact f115 j hj 
                                              have g179 : ∀ j, j < n → sI T366 m_wants j = nI w := by rw [(hmd366.2.2.2 m_wants (ni_c ap_1 ni_0)).1]; exact g116
                                              have hny : (nI y).toInt = (y : Int) := nI_toInt (by omega)
                                              refine lv_iload hx hb dX9_plan_366 (lv_at hl 12 rfl) ?_
                                              refine lv_iload_n hx hb dX9_plan_368 rfl (lv_at hl 1 rfl) ?_
                                              refine lv_icmp_ge (tgt := 392) hx hb dX9_plan_369 (by decide) (fun c180 => ?_) (fun c180 => ?_)
                                              · have c180i : Int32.toInt (nI n) ≤ Int32.toInt (nI y) := (i3_le _ _).mp c180
                                                refine lv_iinc (v := nI cd + 1) (lv' := [(6, .int (nI cd + 1)), (0, .ref h), (1, .int (nI n)), (2, .int b), (3, .int (nI (4 ^ n))), (4, .int (nI (10 * u))), (5, .int (nI u)), (7, .int (nI xc)), (8, .int hs), (9, .int (nI (10 * u))), (10, .int (nI u)), (11, .int gd), (12, .int (nI y))]) hx hb dX9_plan_392 hl (k := 6) rfl rfl (by decide) rfl (fun ls hl => ?_)
                                                refine lv_goto (tgt := 133) hx hb dX9_plan_395 (by decide) ?_
                                                exact ih133 (nI (10 * u)) (nI u) (cd + 1) T366 H locs ls ((hmd133.tr (hmd148.sub (by simp))).tr (hmd366.sub (by simp))) (by omega) (by show Bst (min (Bc w n cd) (Fc w n 0 0 cd)) (nI (10 * u)) (nI u); rw [hFu]; exact Bst_up hbst hu24 (by omega)) (by omega) hW hS (lv_cast (lv_sub hl [1, 2, 3, 4, 5, 6, 0] rfl) (by rw [nI_1]; rfl))
                                              · have c180i : ¬ (Int32.toInt (nI n) ≤ Int32.toInt (nI y)) := fun h9 => c180 ((i3_le _ _).mpr h9)
                                                refine lv_aload_n hx hb dX9_plan_372 rfl (lv_at hl 0 rfl) ?_
                                                refine pg_gr (b := m_bestRow) (ci := 9) (C := RX9) (T := TX9) (N := 63) hx hb hts wi9 hown hK hW f157 (by decide) rfl 58 (by decide) (hts (.fieldLink RX9 127 "IceHallModel" "bestRow" "[I") (by decide +kernel)) (fun _ h9 => h9) rfl f171 dX9_plan_373 ?_
                                                refine lv_iload hx hb dX9_plan_376 (lv_at hl 12 rfl) ?_
                                                refine lv_aload_n hx hb dX9_plan_378 rfl (lv_at hl 0 rfl) ?_
                                                refine pg_gr (b := m_row) (ci := 9) (C := RX9) (T := TX9) (N := 63) hx hb hts wi9 hown hK hW f157 (by decide) rfl 57 (by decide) (hts (.fieldLink RX9 124 "IceHallModel" "row" "[I") (by decide +kernel)) (fun _ h9 => h9) rfl f170 dX9_plan_379 ?_
                                                refine lv_iload hx hb dX9_plan_382 (lv_at hl 12 rfl) ?_
                                                refine pg_iald hx hb hK hW f160 (by rw [show sL T366 m_row = 8 from f165]; exact vp_in_nI (by omega) (by decide)) dX9_plan_384 ?_
                                                refine pg_iast hx hb hK hW hS f161 (by rw [show sL T366 m_bestRow = 8 from f166]; exact vp_in_nI (by omega) (by decide)) dX9_plan_385 (fun H locs hW hS => ?_)
                                                have w181 : sI (stI T366 m_bestRow (Int32.toNatClampNeg (nI y)) (sI T366 m_row (Int32.toNatClampNeg (nI y)))) h 18 = 0 := (iI_a (fk_ne f157 f161 (by decide))).trans f173
                                                have w182 : sI (stI T366 m_bestRow (Int32.toNatClampNeg (nI y)) (sI T366 m_row (Int32.toNatClampNeg (nI y)))) h 19 = 200 := (iI_a (fk_ne f157 f161 (by decide))).trans f174
                                                have w183 : sI (stI T366 m_bestRow (Int32.toNatClampNeg (nI y)) (sI T366 m_row (Int32.toNatClampNeg (nI y)))) h 23 = 400 := (iI_a (fk_ne f157 f161 (by decide))).trans f175
                                                have w184 : sI (stI T366 m_bestRow (Int32.toNatClampNeg (nI y)) (sI T366 m_row (Int32.toNatClampNeg (nI y)))) h 24 = 3 := (iI_a (fk_ne f157 f161 (by decide))).trans f176
                                                have w185 : sI (stI T366 m_bestRow (Int32.toNatClampNeg (nI y)) (sI T366 m_row (Int32.toNatClampNeg (nI y)))) h 35 = 0 := (iI_a (fk_ne f157 f161 (by decide))).trans f177
                                                have w186 : ∀ j, j < 24 → sI (stI T366 m_bestRow (Int32.toNatClampNeg (nI y)) (sI T366 m_row (Int32.toNatClampNeg (nI y)))) m_priceOf j = 10 := fun j hj => (iI_a ap_5).trans (f178 j hj)
                                                have g187 : ∀ j, j < n → sI (stI T366 m_bestRow (Int32.toNatClampNeg (nI y)) (sI T366 m_row (Int32.toNatClampNeg (nI y)))) m_wants j = nI w := by rw [iI_A ap_1]; exact g179
                                                clear f173 f174 f175 f176 f177 f178
                                                refine lv_iinc (v := nI y + 1) (lv' := [(12, .int (nI y + 1)), (0, .ref h), (1, .int (nI n)), (2, .int b), (3, .int (nI (4 ^ n))), (4, .int (nI (10 * u))), (5, .int (nI u)), (6, .int (nI cd)), (7, .int (nI xc)), (8, .int hs), (9, .int (nI (10 * u))), (10, .int (nI u)), (11, .int gd)]) hx hb dX9_plan_386 hl (k := 12) rfl rfl (by decide) rfl (fun ls hl => ?_)
                                                refine lv_goto (tgt := 366) hx hb dX9_plan_389 (by decide) ?_
                                                exact ih366 (y + 1) (stI T366 m_bestRow (Int32.toNatClampNeg (nI y)) (sI T366 m_row (Int32.toNatClampNeg (nI y)))) H locs ls (hmd366.I List.mem_cons_self) (by omega) (by omega) hW hS (lv_cast (lv_sub hl [1, 2, 3, 4, 5, 6, 7, 8, 9, 10, 11, 12, 0] rfl) (by rw [nI_1]; rfl))
                                          exact loop156 _ 0 T148 _ _ ls (Md.rf _ _) (Nat.zero_le _) (Nat.lt_succ_self _) hW hS (lv_cast (lv_sub hl [3, 4, 5, 6, 2, 1, 7, 8, 9, 10, 11, 12, 0] rfl) (rfl))
                                        · have c155i : Int32.toInt (nI (10 * u)) = Int32.toInt bc := (i3_eq _ _).mp c155
                                          refine lv_iload hx hb dX9_plan_345 (lv_at hl 10 rfl) ?_
                                          refine lv_iload hx hb dX9_plan_347 (lv_at hl 5 rfl) ?_
                                          refine lv_icmp_lt (tgt := 355) hx hb dX9_plan_349 (by decide) (fun c188 => ?_) (fun c188 => ?_)
                                          · have c188i : Int32.toInt (nI u) < Int32.toInt bo := (i3_lt _ _).mp c188
                                            refine lv_iload hx hb dX9_plan_355 (lv_at hl 9 rfl) ?_
                                            refine lv_istore (lv' := [(4, .int (nI (10 * u))), (0, .ref h), (1, .int (nI n)), (2, .int b), (3, .int (nI (4 ^ n))), (5, .int bo), (6, .int (nI cd)), (7, .int (nI xc)), (8, .int hs), (9, .int (nI (10 * u))), (10, .int (nI u)), (11, .int gd), (12, .int (nI n))]) hx hb dX9_plan_357 hl (by decide) rfl (fun ls hl => ?_)
                                            refine lv_iload hx hb dX9_plan_359 (lv_at hl 10 rfl) ?_
                                            refine lv_istore (lv' := [(5, .int (nI u)), (4, .int (nI (10 * u))), (0, .ref h), (1, .int (nI n)), (2, .int b), (3, .int (nI (4 ^ n))), (6, .int (nI cd)), (7, .int (nI xc)), (8, .int hs), (9, .int (nI (10 * u))), (10, .int (nI u)), (11, .int gd), (12, .int (nI n))]) hx hb dX9_plan_361 hl (by decide) rfl (fun ls hl => ?_)
                                            refine lv_iconst (v := 0) hx hb dX9_plan_363 (by decide) ?_
                                            refine lv_istore (lv' := [(12, .int 0), (5, .int (nI u)), (4, .int (nI (10 * u))), (0, .ref h), (1, .int (nI n)), (2, .int b), (3, .int (nI (4 ^ n))), (6, .int (nI cd)), (7, .int (nI xc)), (8, .int hs), (9, .int (nI (10 * u))), (10, .int (nI u)), (11, .int gd)]) hx hb dX9_plan_364 hl (by decide) rfl (fun ls hl => ?_)
                                            have loop189 : ∀ (zn : Nat) (y : Nat) (T366 : St) (H : Heap) (locs : List Loc) (ls : Array Slot), (Md [m_bestRow] T148 T366) → (y ≤ n) → n - y < zn → PW D cy A T366 H → va_S A s.heap H locs → lv_has ls 13 [(0, .ref h), (1, .int (nI n)), (2, .int b), (3, .int (nI (4 ^ n))), (4, .int (nI (10 * u))), (5, .int (nI u)), (6, .int (nI cd)), (7, .int (nI xc)), (8, .int hs), (9, .int (nI (10 * u))), (10, .int (nI u)), (11, .int gd), (12, .int (nI y))] → W p l e ({ frames := 1, cells := 0, slots := 0, locals := 23 } : Room) s m args below meth c H locs 0 0 (MQ below (va_Qi (fun r S1 => r = PL a b) (PU D cy A) A) args s 0 0 A) (F0 m 366 ls []) := by
                                              intro zn
                                              induction zn with
                                              | zero => intros; exact absurd (by assumption) (Nat.not_lt_zero _)
                                              | succ zn ih366 =>
                                                intro y T366 H locs ls hmd366 hy hme hW hS hl
                                                have f190 : sK T366 h = 9 := by rw [hmd366.1]; exact f94
                                                have f191 : sK T366 m_priceOf = 11 := by rw [hmd366.1]; exact f95
                                                have f192 : sK T366 m_wants = 11 := by rw [hmd366.1]; exact f96
                                                have f193 : sK T366 m_row = 11 := by rw [hmd366.1]; exact f97
                                                have f194 : sK T366 m_bestRow = 11 := by rw [hmd366.1]; exact f98
                                                have f195 : sK T366 m_told = 11 := by rw [hmd366.1]; exact f99
                                                have f196 : sL T366 m_priceOf = 24 := by rw [hmd366.2.2.1]; exact f100
                                                have f197 : sL T366 m_wants = 8 := by rw [hmd366.2.2.1]; exact f101
                                                have f198 : sL T366 m_row = 8 := by rw [hmd366.2.2.1]; exact f102
                                                have f199 : sL T366 m_bestRow = 8 := by rw [hmd366.2.2.1]; exact f103
                                                have f200 : sL T366 m_told = 8 := by rw [hmd366.2.2.1]; exact f104
                                                have f201 : sR T366 h 26 = some m_priceOf := by rw [hmd366.2.1]; exact f105
                                                have f202 : sR T366 h 56 = some m_wants := by rw [hmd366.2.1]; exact f106
                                                have f203 : sR T366 h 57 = some m_row := by rw [hmd366.2.1]; exact f107
                                                have f204 : sR T366 h 58 = some m_bestRow := by rw [hmd366.2.1]; exact f108
                                                have f205 : sR T366 h 59 = some m_told := by rw [hmd366.2.1]; exact f109
                                                have f206 : sI T366 h 18 = 0 := by rw [(hmd366.2.2.2 h (ni_c (fk_ne f94 f98 (by decide)) ni_0)).1]; exact f110
                                                have f207 : sI T366 h 19 = 200 := by rw [(hmd366.2.2.2 h (ni_c (fk_ne f94 f98 (by decide)) ni_0)).1]; exact f111
                                                have f208 : sI T366 h 23 = 400 := by rw [(hmd366.2.2.2 h (ni_c (fk_ne f94 f98 (by decide)) ni_0)).1]; exact f112
                                                have f209 : sI T366 h 24 = 3 := by rw [(hmd366.2.2.2 h (ni_c (fk_ne f94 f98 (by decide)) ni_0)).1]; exact f113
                                                have f210 : sI T366 h 35 = 0 := by rw [(hmd366.2.2.2 h (ni_c (fk_ne f94 f98 (by decide)) ni_0)).1]; exact f114
                                                have f211 : ∀ j, j < 24 → sI T366 m_priceOf j = 10 := fun j hj => by rw [(hmd366.2.2.2 m_priceOf (ni_c ap_5 ni_0)).1]; exact f115 j hj 
                                                have g212 : ∀ j, j < n → sI T366 m_wants j = nI w := by rw [(hmd366.2.2.2 m_wants (ni_c ap_1 ni_0)).1]; exact g116
                                                have hny : (nI y).toInt = (y : Int) := nI_toInt (by omega)
                                                refine lv_iload hx hb dX9_plan_366 (lv_at hl 12 rfl) ?_
                                                refine lv_iload_n hx hb dX9_plan_368 rfl (lv_at hl 1 rfl) ?_
                                                refine lv_icmp_ge (tgt := 392) hx hb dX9_plan_369 (by decide) (fun c213 => ?_) (fun c213 => ?_)
                                                · have c213i : Int32.toInt (nI n) ≤ Int32.toInt (nI y) := (i3_le _ _).mp c213
                                                  refine lv_iinc (v := nI cd + 1) (lv' := [(6, .int (nI cd + 1)), (0, .ref h), (1, .int (nI n)), (2, .int b), (3, .int (nI (4 ^ n))), (4, .int (nI (10 * u))), (5, .int (nI u)), (7, .int (nI xc)), (8, .int hs), (9, .int (nI (10 * u))), (10, .int (nI u)), (11, .int gd), (12, .int (nI y))]) hx hb dX9_plan_392 hl (k := 6) rfl rfl (by decide) rfl (fun ls hl => ?_)
                                                  refine lv_goto (tgt := 133) hx hb dX9_plan_395 (by decide) ?_
                                                  exact ih133 (nI (10 * u)) (nI u) (cd + 1) T366 H locs ls ((hmd133.tr (hmd148.sub (by simp))).tr (hmd366.sub (by simp))) (by omega) (by show Bst (min (Bc w n cd) (Fc w n 0 0 cd)) (nI (10 * u)) (nI u); rw [hFu]; exact Bst_up hbst hu24 (by omega)) (by omega) hW hS (lv_cast (lv_sub hl [1, 2, 3, 4, 5, 6, 0] rfl) (by rw [nI_1]; rfl))
                                                · have c213i : ¬ (Int32.toInt (nI n) ≤ Int32.toInt (nI y)) := fun h9 => c213 ((i3_le _ _).mpr h9)
                                                  refine lv_aload_n hx hb dX9_plan_372 rfl (lv_at hl 0 rfl) ?_
                                                  refine pg_gr (b := m_bestRow) (ci := 9) (C := RX9) (T := TX9) (N := 63) hx hb hts wi9 hown hK hW f190 (by decide) rfl 58 (by decide) (hts (.fieldLink RX9 127 "IceHallModel" "bestRow" "[I") (by decide +kernel)) (fun _ h9 => h9) rfl f204 dX9_plan_373 ?_
                                                  refine lv_iload hx hb dX9_plan_376 (lv_at hl 12 rfl) ?_
                                                  refine lv_aload_n hx hb dX9_plan_378 rfl (lv_at hl 0 rfl) ?_
                                                  refine pg_gr (b := m_row) (ci := 9) (C := RX9) (T := TX9) (N := 63) hx hb hts wi9 hown hK hW f190 (by decide) rfl 57 (by decide) (hts (.fieldLink RX9 124 "IceHallModel" "row" "[I") (by decide +kernel)) (fun _ h9 => h9) rfl f203 dX9_plan_379 ?_
                                                  refine lv_iload hx hb dX9_plan_382 (lv_at hl 12 rfl) ?_
                                                  refine pg_iald hx hb hK hW f193 (by rw [show sL T366 m_row = 8 from f198]; exact vp_in_nI (by omega) (by decide)) dX9_plan_384 ?_
                                                  refine pg_iast hx hb hK hW hS f194 (by rw [show sL T366 m_bestRow = 8 from f199]; exact vp_in_nI (by omega) (by decide)) dX9_plan_385 (fun H locs hW hS => ?_)
                                                  have w214 : sI (stI T366 m_bestRow (Int32.toNatClampNeg (nI y)) (sI T366 m_row (Int32.toNatClampNeg (nI y)))) h 18 = 0 := (iI_a (fk_ne f190 f194 (by decide))).trans f206
                                                  have w215 : sI (stI T366 m_bestRow (Int32.toNatClampNeg (nI y)) (sI T366 m_row (Int32.toNatClampNeg (nI y)))) h 19 = 200 := (iI_a (fk_ne f190 f194 (by decide))).trans f207
                                                  have w216 : sI (stI T366 m_bestRow (Int32.toNatClampNeg (nI y)) (sI T366 m_row (Int32.toNatClampNeg (nI y)))) h 23 = 400 := (iI_a (fk_ne f190 f194 (by decide))).trans f208
                                                  have w217 : sI (stI T366 m_bestRow (Int32.toNatClampNeg (nI y)) (sI T366 m_row (Int32.toNatClampNeg (nI y)))) h 24 = 3 := (iI_a (fk_ne f190 f194 (by decide))).trans f209
                                                  have w218 : sI (stI T366 m_bestRow (Int32.toNatClampNeg (nI y)) (sI T366 m_row (Int32.toNatClampNeg (nI y)))) h 35 = 0 := (iI_a (fk_ne f190 f194 (by decide))).trans f210
                                                  have w219 : ∀ j, j < 24 → sI (stI T366 m_bestRow (Int32.toNatClampNeg (nI y)) (sI T366 m_row (Int32.toNatClampNeg (nI y)))) m_priceOf j = 10 := fun j hj => (iI_a ap_5).trans (f211 j hj)
                                                  have g220 : ∀ j, j < n → sI (stI T366 m_bestRow (Int32.toNatClampNeg (nI y)) (sI T366 m_row (Int32.toNatClampNeg (nI y)))) m_wants j = nI w := by rw [iI_A ap_1]; exact g212
                                                  clear f206 f207 f208 f209 f210 f211
                                                  refine lv_iinc (v := nI y + 1) (lv' := [(12, .int (nI y + 1)), (0, .ref h), (1, .int (nI n)), (2, .int b), (3, .int (nI (4 ^ n))), (4, .int (nI (10 * u))), (5, .int (nI u)), (6, .int (nI cd)), (7, .int (nI xc)), (8, .int hs), (9, .int (nI (10 * u))), (10, .int (nI u)), (11, .int gd)]) hx hb dX9_plan_386 hl (k := 12) rfl rfl (by decide) rfl (fun ls hl => ?_)
                                                  refine lv_goto (tgt := 366) hx hb dX9_plan_389 (by decide) ?_
                                                  exact ih366 (y + 1) (stI T366 m_bestRow (Int32.toNatClampNeg (nI y)) (sI T366 m_row (Int32.toNatClampNeg (nI y)))) H locs ls (hmd366.I List.mem_cons_self) (by omega) (by omega) hW hS (lv_cast (lv_sub hl [1, 2, 3, 4, 5, 6, 7, 8, 9, 10, 11, 12, 0] rfl) (by rw [nI_1]; rfl))
                                            exact loop189 _ 0 T148 _ _ ls (Md.rf _ _) (Nat.zero_le _) (Nat.lt_succ_self _) hW hS (lv_cast (lv_sub hl [3, 4, 5, 6, 2, 1, 7, 8, 9, 10, 11, 12, 0] rfl) (rfl))
                                          · have c188i : ¬ (Int32.toInt (nI u) < Int32.toInt bo) := fun h9 => c188 ((i3_lt _ _).mpr h9)
                                            refine lv_goto (tgt := 392) hx hb dX9_plan_352 (by decide) ?_
                                            refine lv_iinc (v := nI cd + 1) (lv' := [(6, .int (nI cd + 1)), (0, .ref h), (1, .int (nI n)), (2, .int b), (3, .int (nI (4 ^ n))), (4, .int bc), (5, .int bo), (7, .int (nI xc)), (8, .int hs), (9, .int (nI (10 * u))), (10, .int (nI u)), (11, .int gd), (12, .int (nI n))]) hx hb dX9_plan_392 hl (k := 6) rfl rfl (by decide) rfl (fun ls hl => ?_)
                                            refine lv_goto (tgt := 133) hx hb dX9_plan_395 (by decide) ?_
                                            exact ih133 bc bo (cd + 1) T148 H locs ls (hmd133.tr (hmd148.sub (by simp))) (by omega) (by show Bst (min (Bc w n cd) (Fc w n 0 0 cd)) bc bo; rw [hFu]; exact Bst_keep hbst hu24 (by omega) (by omega)) (by omega) hW hS (lv_cast (lv_sub hl [1, 2, 3, 4, 5, 6, 0] rfl) (by rw [nI_1]; rfl))
                                · have c119i : ¬ (Int32.toInt (nI n) ≤ Int32.toInt (nI k)) := fun h9 => c119 ((i3_le _ _).mpr h9)
                                  refine lv_iload hx hb dX9_plan_200 (lv_at hl 11 rfl) ?_
                                  refine lv_if_eq (tgt := 320) hx hb dX9_plan_202 (by decide) (fun c221 => ?_) (fun c221 => ?_)
                                  · have c221i : Int32.toInt gd = (0 : Int) := (i3_eq _ _).mp c221
                                    refine lv_iload hx hb dX9_plan_320 (lv_at hl 11 rfl) ?_
                                    refine lv_if_eq (tgt := 392) hx hb dX9_plan_322 (by decide) (fun c222 => ?_) (fun c222 => absurd (c221) c222)
                                    refine lv_iinc (v := nI cd + 1) (lv' := [(6, .int (nI cd + 1)), (0, .ref h), (1, .int (nI n)), (2, .int b), (3, .int (nI (4 ^ n))), (4, .int bc), (5, .int bo), (7, .int (nI xc)), (8, .int hs), (9, .int pe), (10, .int ns), (11, .int gd), (12, .int (nI k))]) hx hb dX9_plan_392 hl (k := 6) rfl rfl (by decide) rfl (fun ls hl => ?_)
                                    refine lv_goto (tgt := 133) hx hb dX9_plan_395 (by decide) ?_
                                    exact ih133 bc bo (cd + 1) T148 H locs ls (hmd133.tr (hmd148.sub (by simp))) (by omega) (Bst_inf hbst (Sim_bad hsim c221)) (by omega) hW hS (lv_cast (lv_sub hl [1, 2, 3, 4, 5, 6, 0] rfl) (by rw [nI_1]; rfl))
                                  · have c221i : ¬ (Int32.toInt gd = (0 : Int)) := fun h9 => c221 ((i3_eq _ _).mpr h9)
                                    obtain ⟨u, x, hu, hxw, hx4, rfl, rfl, rfl, hT⟩ : ∃ u x, u ≤ 3 * k ∧ x + w * k = 200 + 20 * u ∧ x ≤ 400 ∧ hs = nI x ∧ pe = nI (10 * u) ∧ ns = nI u ∧ stp true (Fc w (n - k) k u (cd % 4 ^ (n - k))) u = Fc w n 0 0 cd := by rcases hsim with ⟨-, h9⟩ | ⟨h9, -⟩; exact h9; exact absurd h9 c221
                                    obtain ⟨dg, edg⟩ : ∃ dg, dg = cd / 4 ^ (n - 1 - k) % 4 := ⟨_, rfl⟩
                                    have hd4 : dg < 4 := by rw [edg]; exact Nat.mod_lt _ (by decide)
                                    have hdn : (nI dg).toInt = (dg : Int) := nI_toInt (by omega)
                                    have hxd : (nI (x + 20 * dg)).toInt = (x + 20 * dg : Nat) := nI_toInt (by omega)
                                    have hwn2 : (nI w).toInt = (w : Int) := nI_toInt (by omega)
                                    refine lv_iload hx hb dX9_plan_205 (lv_at hl 8 rfl) ?_
                                    refine lv_bipush (v := 20) hx hb dX9_plan_207 (by decide) ?_
                                    refine lv_aload_n hx hb dX9_plan_209 rfl (lv_at hl 0 rfl) ?_
                                    refine pg_gr (b := m_row) (ci := 9) (C := RX9) (T := TX9) (N := 63) hx hb hts wi9 hown hK hW f94 (by decide) rfl 57 (by decide) (hts (.fieldLink RX9 124 "IceHallModel" "row" "[I") (by decide +kernel)) (fun _ h9 => h9) rfl f107 dX9_plan_210 ?_
                                    refine lv_iload hx hb dX9_plan_213 (lv_at hl 12 rfl) ?_
                                    refine pg_iald hx hb hK hW f97 (by rw [show sL T148 m_row = 8 from f102]; exact vp_in_nI (by omega) (by decide)) dX9_plan_215 ?_
                                    rw [show sI T148 m_row (Int32.toNatClampNeg (nI k)) = nI dg from by rw [nI_clamp (by omega), edg]; exact hrow k (Nat.zero_le _) (by omega)]
                                    refine lv_imul hx hb dX9_plan_216 ?_
                                    rw [show (20 * (nI dg) : Int32) = nI (20 * dg) from pk_mul 20 dg]
                                    refine lv_iadd hx hb dX9_plan_217 ?_
                                    rw [show ((nI x) + (nI (20 * dg)) : Int32) = nI (x + 20 * dg) from nI_add x (20 * dg)]
                                    refine lv_istore (lv' := [(8, .int (nI (x + 20 * dg))), (0, .ref h), (1, .int (nI n)), (2, .int b), (3, .int (nI (4 ^ n))), (4, .int bc), (5, .int bo), (6, .int (nI cd)), (7, .int (nI xc)), (9, .int (nI (10 * u))), (10, .int (nI u)), (11, .int gd), (12, .int (nI k))]) hx hb dX9_plan_218 hl (by decide) rfl (fun ls hl => ?_)
                                    refine lv_iload hx hb dX9_plan_220 (lv_at hl 9 rfl) ?_
                                    refine lv_aload_n hx hb dX9_plan_222 rfl (lv_at hl 1 rfl) ?_
                                    refine pg_gr (b := m_row) (ci := 9) (C := RX9) (T := TX9) (N := 63) hx hb hts wi9 hown hK hW f94 (by decide) rfl 57 (by decide) (hts (.fieldLink RX9 124 "IceHallModel" "row" "[I") (by decide +kernel)) (fun _ h9 => h9) rfl f107 dX9_plan_223 ?_
                                    refine lv_iload hx hb dX9_plan_226 (lv_at hl 12 rfl) ?_
                                    refine pg_iald hx hb hK hW f97 (by rw [show sL T148 m_row = 8 from f102]; exact vp_in_nI (by omega) (by decide)) dX9_plan_228 ?_
                                    rw [show sI T148 m_row (Int32.toNatClampNeg (nI k)) = nI dg from by rw [nI_clamp (by omega), edg]; exact hrow k (Nat.zero_le _) (by omega)]
                                    refine lv_aload_n hx hb dX9_plan_229 rfl (lv_at hl 1 rfl) ?_
                                    refine pg_gr (b := m_priceOf) (ci := 9) (C := RX9) (T := TX9) (N := 63) hx hb hts wi9 hown hK hW f94 (by decide) rfl 26 (by decide) (hts (.fieldLink RX9 45 "IceHallModel" "priceOf" "[I") (by decide +kernel)) (fun _ h9 => h9) rfl f105 dX9_plan_230 ?_
                                    refine lv_aload_n hx hb dX9_plan_233 rfl (lv_at hl 1 rfl) ?_
                                    refine pg_gi (ci := 9) (C := RX9) (T := TX9) (N := 63) hx hb hts wi9 hown hK hW f94 (by decide) rfl 18 (by decide) (hts (.fieldLink RX9 219 "IceHallModel" "now" "I") (by decide +kernel)) (fun _ h9 => h9) rfl dX9_plan_234 ?_
                                    rw [show sI T148 h 18 = 0 from f110]
                                    refine lv_iload hx hb dX9_plan_237 (lv_at hl 12 rfl) ?_
                                    refine lv_iadd hx hb dX9_plan_239 ?_
                                    rw [show (0 + (nI k) : Int32) = nI (0 + k) from nI_add 0 k]
                                    refine lv_bipush (v := 24) hx hb dX9_plan_240 (by decide) ?_
                                    refine lv_irem hx hb dX9_plan_242 (by decide) ?_
                                    rw [show ((nI (0 + k)) - (nI (0 + k)) / 24 * 24 : Int32) = nI ((0 + k) % 24) from pk_rem (a := 0 + k) (d := 24) (by omega) (by decide) (by decide)]
                                    refine pg_iald hx hb hK hW f95 (by rw [show sL T148 m_priceOf = 24 from f100]; exact vp_in_nI (by omega) (by decide)) dX9_plan_243 ?_
                                    rw [show sI T148 m_priceOf (Int32.toNatClampNeg (nI ((0 + k) % 24))) = 10 from f115 _ (by rw [nI_clamp (by omega)]; omega)]
                                    refine lv_imul hx hb dX9_plan_244 ?_
                                    rw [show ((nI dg) * 10 : Int32) = nI (dg * 10) from pk_mul dg 10]
                                    refine lv_iadd hx hb dX9_plan_245 ?_
                                    rw [show ((nI (10 * u)) + (nI (dg * 10)) : Int32) = nI (10 * u + dg * 10) from nI_add (10 * u) (dg * 10)]
                                    refine lv_istore (lv' := [(9, .int (nI (10 * u + dg * 10))), (8, .int (nI (x + 20 * dg))), (0, .ref h), (1, .int (nI n)), (2, .int b), (3, .int (nI (4 ^ n))), (4, .int bc), (5, .int bo), (6, .int (nI cd)), (7, .int (nI xc)), (10, .int (nI u)), (11, .int gd), (12, .int (nI k))]) hx hb dX9_plan_246 hl (by decide) rfl (fun ls hl => ?_)
                                    refine lv_iload hx hb dX9_plan_248 (lv_at hl 10 rfl) ?_
                                    refine lv_aload_n hx hb dX9_plan_250 rfl (lv_at hl 2 rfl) ?_
                                    refine pg_gr (b := m_row) (ci := 9) (C := RX9) (T := TX9) (N := 63) hx hb hts wi9 hown hK hW f94 (by decide) rfl 57 (by decide) (hts (.fieldLink RX9 124 "IceHallModel" "row" "[I") (by decide +kernel)) (fun _ h9 => h9) rfl f107 dX9_plan_251 ?_
                                    refine lv_iload hx hb dX9_plan_254 (lv_at hl 12 rfl) ?_
                                    refine pg_iald hx hb hK hW f97 (by rw [show sL T148 m_row = 8 from f102]; exact vp_in_nI (by omega) (by decide)) dX9_plan_256 ?_
                                    rw [show sI T148 m_row (Int32.toNatClampNeg (nI k)) = nI dg from by rw [nI_clamp (by omega), edg]; exact hrow k (Nat.zero_le _) (by omega)]
                                    refine lv_iadd hx hb dX9_plan_257 ?_
                                    rw [show ((nI u) + (nI dg) : Int32) = nI (u + dg) from nI_add u dg]
                                    refine lv_istore (lv' := [(10, .int (nI (u + dg))), (9, .int (nI (10 * u + dg * 10))), (8, .int (nI (x + 20 * dg))), (0, .ref h), (1, .int (nI n)), (2, .int b), (3, .int (nI (4 ^ n))), (4, .int bc), (5, .int bo), (6, .int (nI cd)), (7, .int (nI xc)), (11, .int gd), (12, .int (nI k))]) hx hb dX9_plan_258 hl (by decide) rfl (fun ls hl => ?_)
                                    refine lv_aload_n hx hb dX9_plan_260 rfl (lv_at hl 3 rfl) ?_
                                    refine pg_gr (b := m_row) (ci := 9) (C := RX9) (T := TX9) (N := 63) hx hb hts wi9 hown hK hW f94 (by decide) rfl 57 (by decide) (hts (.fieldLink RX9 124 "IceHallModel" "row" "[I") (by decide +kernel)) (fun _ h9 => h9) rfl f107 dX9_plan_261 ?_
                                    refine lv_iload hx hb dX9_plan_264 (lv_at hl 12 rfl) ?_
                                    refine pg_iald hx hb hK hW f97 (by rw [show sL T148 m_row = 8 from f102]; exact vp_in_nI (by omega) (by decide)) dX9_plan_266 ?_
                                    rw [show sI T148 m_row (Int32.toNatClampNeg (nI k)) = nI dg from by rw [nI_clamp (by omega), edg]; exact hrow k (Nat.zero_le _) (by omega)]
                                    refine lv_aload_n hx hb dX9_plan_267 rfl (lv_at hl 3 rfl) ?_
                                    refine pg_gi (ci := 9) (C := RX9) (T := TX9) (N := 63) hx hb hts wi9 hown hK hW f94 (by decide) rfl 24 (by decide) (hts (.fieldLink RX9 39 "IceHallModel" "working" "I") (by decide +kernel)) (fun _ h9 => h9) rfl dX9_plan_268 ?_
                                    rw [show sI T148 h 24 = 3 from f113]
                                    refine lv_icmp_gt (tgt := 299) hx hb dX9_plan_271 (by decide) (fun c223 => absurd c223 (by intro h9; have h8 : (3 : Int) < Int32.toInt (nI dg) := (i3_lt _ _).mp h9; omega)) (fun c223 => ?_)
                                    refine lv_iload hx hb dX9_plan_274 (lv_at hl 2 rfl) ?_
                                    refine lv_aload_n hx hb dX9_plan_276 rfl (lv_at hl 3 rfl) ?_
                                    refine pg_gi (ci := 9) (C := RX9) (T := TX9) (N := 63) hx hb hts wi9 hown hK hW f94 (by decide) rfl 23 (by decide) (hts (.fieldLink RX9 36 "IceHallModel" "mostOf" "I") (by decide +kernel)) (fun _ h9 => h9) rfl dX9_plan_277 ?_
                                    rw [show sI T148 h 23 = 400 from f112]
                                    refine lv_icmp_gt (tgt := 299) hx hb dX9_plan_280 (by decide) (fun c224 => ?_) (fun c224 => ?_)
                                    · have c224i : (400 : Int) < Int32.toInt (nI (x + 20 * dg)) := (i3_lt _ _).mp c224
                                      refine lv_iconst (v := 0) hx hb dX9_plan_299 (by decide) ?_
                                      refine lv_istore (lv' := [(11, .int 0), (10, .int (nI (u + dg))), (9, .int (nI (10 * u + dg * 10))), (8, .int (nI (x + 20 * dg))), (0, .ref h), (1, .int (nI n)), (2, .int b), (3, .int (nI (4 ^ n))), (4, .int bc), (5, .int bo), (6, .int (nI cd)), (7, .int (nI xc)), (12, .int (nI k))]) hx hb dX9_plan_300 hl (by decide) rfl (fun ls hl => ?_)
                                      refine lv_iload hx hb dX9_plan_302 (lv_at hl 3 rfl) ?_
                                      refine lv_aload_n hx hb dX9_plan_304 rfl (lv_at hl 4 rfl) ?_
                                      refine pg_gr (b := m_wants) (ci := 9) (C := RX9) (T := TX9) (N := 63) hx hb hts wi9 hown hK hW f94 (by decide) rfl 56 (by decide) (hts (.fieldLink RX9 121 "IceHallModel" "wants" "[I") (by decide +kernel)) (fun _ h9 => h9) rfl f106 dX9_plan_305 ?_
                                      refine lv_iload hx hb dX9_plan_308 (lv_at hl 12 rfl) ?_
                                      refine pg_iald hx hb hK hW f96 (by rw [show sL T148 m_wants = 8 from f101]; exact vp_in_nI (by omega) (by decide)) dX9_plan_310 ?_
                                      rw [show sI T148 m_wants (Int32.toNatClampNeg (nI k)) = nI w from by rw [nI_clamp (by omega)]; exact g116 k (by omega)]
                                      refine lv_isub hx hb dX9_plan_311 ?_
                                      refine lv_istore (lv' := [(8, .int ((nI (x + 20 * dg)) - (nI w))), (11, .int 0), (10, .int (nI (u + dg))), (9, .int (nI (10 * u + dg * 10))), (0, .ref h), (1, .int (nI n)), (2, .int b), (3, .int (nI (4 ^ n))), (4, .int bc), (5, .int bo), (6, .int (nI cd)), (7, .int (nI xc)), (12, .int (nI k))]) hx hb dX9_plan_312 hl (by decide) rfl (fun ls hl => ?_)
                                      refine lv_iinc (v := nI k + 1) (lv' := [(12, .int (nI k + 1)), (8, .int ((nI (x + 20 * dg)) - (nI w))), (11, .int 0), (10, .int (nI (u + dg))), (9, .int (nI (10 * u + dg * 10))), (0, .ref h), (1, .int (nI n)), (2, .int b), (3, .int (nI (4 ^ n))), (4, .int bc), (5, .int bo), (6, .int (nI cd)), (7, .int (nI xc))]) hx hb dX9_plan_314 hl (k := 12) rfl rfl (by decide) rfl (fun ls hl => ?_)
                                      refine lv_goto (tgt := 194) hx hb dX9_plan_317 (by decide) ?_
                                      have hk1 : k < n := by omega
                                      exact ih194 ((nI (x + 20 * dg)) - (nI w)) (nI (10 * u + dg * 10)) (nI (u + dg)) 0 (k + 1) H locs ls (by omega) (Sim_no hk1 hxw hT edg (by omega)) (by omega) hW hS (lv_cast (lv_sub hl [5, 6, 7, 8, 9, 10, 11, 12, 1, 4, 3, 2, 0] rfl) (by rw [nI_1]; rfl))
                                    · have c224i : ¬ ((400 : Int) < Int32.toInt (nI (x + 20 * dg))) := fun h9 => c224 ((i3_lt _ _).mpr h9)
                                      refine lv_iload hx hb dX9_plan_283 (lv_at hl 2 rfl) ?_
                                      refine lv_aload_n hx hb dX9_plan_285 rfl (lv_at hl 3 rfl) ?_
                                      refine pg_gr (b := m_wants) (ci := 9) (C := RX9) (T := TX9) (N := 63) hx hb hts wi9 hown hK hW f94 (by decide) rfl 56 (by decide) (hts (.fieldLink RX9 121 "IceHallModel" "wants" "[I") (by decide +kernel)) (fun _ h9 => h9) rfl f106 dX9_plan_286 ?_
                                      refine lv_iload hx hb dX9_plan_289 (lv_at hl 12 rfl) ?_
                                      refine pg_iald hx hb hK hW f96 (by rw [show sL T148 m_wants = 8 from f101]; exact vp_in_nI (by omega) (by decide)) dX9_plan_291 ?_
                                      rw [show sI T148 m_wants (Int32.toNatClampNeg (nI k)) = nI w from by rw [nI_clamp (by omega)]; exact g116 k (by omega)]
                                      refine lv_icmp_lt (tgt := 299) hx hb dX9_plan_292 (by decide) (fun c225 => ?_) (fun c225 => ?_)
                                      · have c225i : Int32.toInt (nI (x + 20 * dg)) < Int32.toInt (nI w) := (i3_lt _ _).mp c225
                                        refine lv_iconst (v := 0) hx hb dX9_plan_299 (by decide) ?_
                                        refine lv_istore (lv' := [(11, .int 0), (10, .int (nI (u + dg))), (9, .int (nI (10 * u + dg * 10))), (8, .int (nI (x + 20 * dg))), (0, .ref h), (1, .int (nI n)), (2, .int b), (3, .int (nI (4 ^ n))), (4, .int bc), (5, .int bo), (6, .int (nI cd)), (7, .int (nI xc)), (12, .int (nI k))]) hx hb dX9_plan_300 hl (by decide) rfl (fun ls hl => ?_)
                                        refine lv_iload hx hb dX9_plan_302 (lv_at hl 3 rfl) ?_
                                        refine lv_aload_n hx hb dX9_plan_304 rfl (lv_at hl 4 rfl) ?_
                                        refine pg_gr (b := m_wants) (ci := 9) (C := RX9) (T := TX9) (N := 63) hx hb hts wi9 hown hK hW f94 (by decide) rfl 56 (by decide) (hts (.fieldLink RX9 121 "IceHallModel" "wants" "[I") (by decide +kernel)) (fun _ h9 => h9) rfl f106 dX9_plan_305 ?_
                                        refine lv_iload hx hb dX9_plan_308 (lv_at hl 12 rfl) ?_
                                        refine pg_iald hx hb hK hW f96 (by rw [show sL T148 m_wants = 8 from f101]; exact vp_in_nI (by omega) (by decide)) dX9_plan_310 ?_
                                        rw [show sI T148 m_wants (Int32.toNatClampNeg (nI k)) = nI w from by rw [nI_clamp (by omega)]; exact g116 k (by omega)]
                                        refine lv_isub hx hb dX9_plan_311 ?_
                                        refine lv_istore (lv' := [(8, .int ((nI (x + 20 * dg)) - (nI w))), (11, .int 0), (10, .int (nI (u + dg))), (9, .int (nI (10 * u + dg * 10))), (0, .ref h), (1, .int (nI n)), (2, .int b), (3, .int (nI (4 ^ n))), (4, .int bc), (5, .int bo), (6, .int (nI cd)), (7, .int (nI xc)), (12, .int (nI k))]) hx hb dX9_plan_312 hl (by decide) rfl (fun ls hl => ?_)
                                        refine lv_iinc (v := nI k + 1) (lv' := [(12, .int (nI k + 1)), (8, .int ((nI (x + 20 * dg)) - (nI w))), (11, .int 0), (10, .int (nI (u + dg))), (9, .int (nI (10 * u + dg * 10))), (0, .ref h), (1, .int (nI n)), (2, .int b), (3, .int (nI (4 ^ n))), (4, .int bc), (5, .int bo), (6, .int (nI cd)), (7, .int (nI xc))]) hx hb dX9_plan_314 hl (k := 12) rfl rfl (by decide) rfl (fun ls hl => ?_)
                                        refine lv_goto (tgt := 194) hx hb dX9_plan_317 (by decide) ?_
                                        have hk1 : k < n := by omega
                                        exact ih194 ((nI (x + 20 * dg)) - (nI w)) (nI (10 * u + dg * 10)) (nI (u + dg)) 0 (k + 1) H locs ls (by omega) (Sim_no hk1 hxw hT edg (by omega)) (by omega) hW hS (lv_cast (lv_sub hl [5, 6, 7, 8, 9, 10, 11, 12, 1, 4, 3, 2, 0] rfl) (by rw [nI_1]; rfl))
                                      · have c225i : ¬ (Int32.toInt (nI (x + 20 * dg)) < Int32.toInt (nI w)) := fun h9 => c225 ((i3_lt _ _).mpr h9)
                                        refine lv_iconst (v := 1) hx hb dX9_plan_295 (by decide) ?_
                                        refine lv_goto (tgt := 300) hx hb dX9_plan_296 (by decide) ?_
                                        refine lv_istore (lv' := [(11, .int 1), (10, .int (nI (u + dg))), (9, .int (nI (10 * u + dg * 10))), (8, .int (nI (x + 20 * dg))), (0, .ref h), (1, .int (nI n)), (2, .int b), (3, .int (nI (4 ^ n))), (4, .int bc), (5, .int bo), (6, .int (nI cd)), (7, .int (nI xc)), (12, .int (nI k))]) hx hb dX9_plan_300 hl (by decide) rfl (fun ls hl => ?_)
                                        refine lv_iload hx hb dX9_plan_302 (lv_at hl 3 rfl) ?_
                                        refine lv_aload_n hx hb dX9_plan_304 rfl (lv_at hl 4 rfl) ?_
                                        refine pg_gr (b := m_wants) (ci := 9) (C := RX9) (T := TX9) (N := 63) hx hb hts wi9 hown hK hW f94 (by decide) rfl 56 (by decide) (hts (.fieldLink RX9 121 "IceHallModel" "wants" "[I") (by decide +kernel)) (fun _ h9 => h9) rfl f106 dX9_plan_305 ?_
                                        refine lv_iload hx hb dX9_plan_308 (lv_at hl 12 rfl) ?_
                                        refine pg_iald hx hb hK hW f96 (by rw [show sL T148 m_wants = 8 from f101]; exact vp_in_nI (by omega) (by decide)) dX9_plan_310 ?_
                                        rw [show sI T148 m_wants (Int32.toNatClampNeg (nI k)) = nI w from by rw [nI_clamp (by omega)]; exact g116 k (by omega)]
                                        refine lv_isub hx hb dX9_plan_311 ?_
                                        refine lv_istore (lv' := [(8, .int ((nI (x + 20 * dg)) - (nI w))), (11, .int 1), (10, .int (nI (u + dg))), (9, .int (nI (10 * u + dg * 10))), (0, .ref h), (1, .int (nI n)), (2, .int b), (3, .int (nI (4 ^ n))), (4, .int bc), (5, .int bo), (6, .int (nI cd)), (7, .int (nI xc)), (12, .int (nI k))]) hx hb dX9_plan_312 hl (by decide) rfl (fun ls hl => ?_)
                                        refine lv_iinc (v := nI k + 1) (lv' := [(12, .int (nI k + 1)), (8, .int ((nI (x + 20 * dg)) - (nI w))), (11, .int 1), (10, .int (nI (u + dg))), (9, .int (nI (10 * u + dg * 10))), (0, .ref h), (1, .int (nI n)), (2, .int b), (3, .int (nI (4 ^ n))), (4, .int bc), (5, .int bo), (6, .int (nI cd)), (7, .int (nI xc))]) hx hb dX9_plan_314 hl (k := 12) rfl rfl (by decide) rfl (fun ls hl => ?_)
                                        refine lv_goto (tgt := 194) hx hb dX9_plan_317 (by decide) ?_
                                        have hk1 : k < n := by omega
                                        exact ih194 ((nI (x + 20 * dg)) - (nI w)) (nI (10 * u + dg * 10)) (nI (u + dg)) 1 (k + 1) H locs ls (by omega) (Sim_ok hk1 hu hxw hT edg (by omega) (by omega) rfl) (by omega) hW hS (lv_cast (lv_sub hl [5, 6, 7, 8, 9, 10, 11, 12, 1, 4, 3, 2, 0] rfl) (by rw [nI_1]; rfl))
                            exact loop118 _ 200 0 0 1 0 _ _ ls (Nat.zero_le _) (Sim_0 hcn) (Nat.lt_succ_self _) hW hS (lv_cast (lv_sub hl [5, 6, 7, 8, 9, 10, 11, 12, 4, 3, 2, 1, 0] rfl) (rfl))
                          · have c117i : ¬ (Int32.toInt (nI q - 1) < (0 : Int)) := fun h9 => c117 ((i3_lt _ _).mpr h9)
                            obtain ⟨z, rfl⟩ : ∃ z, q = z + 1 := ⟨q - 1, by omega⟩
                            rw [nI_pred] at hl
                            refine lv_aload_n hx hb dX9_plan_153 rfl (lv_at hl 0 rfl) ?_
                            refine pg_gr (b := m_row) (ci := 9) (C := RX9) (T := TX9) (N := 63) hx hb hts wi9 hown hK hW f94 (by decide) rfl 57 (by decide) (hts (.fieldLink RX9 124 "IceHallModel" "row" "[I") (by decide +kernel)) (fun _ h9 => h9) rfl f107 dX9_plan_154 ?_
                            refine lv_iload hx hb dX9_plan_157 (lv_at hl 8 rfl) ?_
                            refine lv_iload hx hb dX9_plan_159 (lv_at hl 7 rfl) ?_
                            refine lv_iconst (v := 4) hx hb dX9_plan_161 (by decide) ?_
                            refine lv_irem hx hb dX9_plan_162 (by decide) ?_
                            rw [show ((nI xc) - (nI xc) / 4 * 4 : Int32) = nI (xc % 4) from pk_rem (a := xc) (d := 4) (by omega) (by decide) (by decide)]
                            refine pg_iast hx hb hK hW hS f97 (by rw [show sL T148 m_row = 8 from f102]; exact vp_in_nI (by omega) (by decide)) dX9_plan_163 (fun H locs hW hS => ?_)
                            have w226 : sI (stI T148 m_row (Int32.toNatClampNeg (nI z)) (nI (xc % 4))) h 18 = 0 := (iI_a (fk_ne f94 f97 (by decide))).trans f110
                            have w227 : sI (stI T148 m_row (Int32.toNatClampNeg (nI z)) (nI (xc % 4))) h 19 = 200 := (iI_a (fk_ne f94 f97 (by decide))).trans f111
                            have w228 : sI (stI T148 m_row (Int32.toNatClampNeg (nI z)) (nI (xc % 4))) h 23 = 400 := (iI_a (fk_ne f94 f97 (by decide))).trans f112
                            have w229 : sI (stI T148 m_row (Int32.toNatClampNeg (nI z)) (nI (xc % 4))) h 24 = 3 := (iI_a (fk_ne f94 f97 (by decide))).trans f113
                            have w230 : sI (stI T148 m_row (Int32.toNatClampNeg (nI z)) (nI (xc % 4))) h 35 = 0 := (iI_a (fk_ne f94 f97 (by decide))).trans f114
                            have w231 : ∀ j, j < 24 → sI (stI T148 m_row (Int32.toNatClampNeg (nI z)) (nI (xc % 4))) m_priceOf j = 10 := fun j hj => (iI_a ap_4).trans (f115 j hj)
                            have g232 : ∀ j, j < n → sI (stI T148 m_row (Int32.toNatClampNeg (nI z)) (nI (xc % 4))) m_wants j = nI w := by rw [iI_A ap_0]; exact g116
                            clear f110 f111 f112 f113 f114 f115
                            refine lv_iload hx hb dX9_plan_164 (lv_at hl 7 rfl) ?_
                            refine lv_iconst (v := 4) hx hb dX9_plan_166 (by decide) ?_
                            refine lv_idiv hx hb dX9_plan_167 (by decide) ?_
                            rw [show ((nI xc) / 4 : Int32) = nI (xc / 4) from pk_div (a := xc) (d := 4) (by omega) (by decide) (by decide)]
                            refine lv_istore (lv' := [(7, .int (nI (xc / 4))), (0, .ref h), (1, .int (nI n)), (2, .int b), (3, .int (nI (4 ^ n))), (4, .int bc), (5, .int bo), (6, .int (nI cd)), (8, .int (nI z))]) hx hb dX9_plan_168 hl (by decide) rfl (fun ls hl => ?_)
                            refine lv_iinc (v := nI z + (-1)) (lv' := [(8, .int (nI z + (-1))), (7, .int (nI (xc / 4))), (0, .ref h), (1, .int (nI n)), (2, .int b), (3, .int (nI (4 ^ n))), (4, .int bc), (5, .int bo), (6, .int (nI cd))]) hx hb dX9_plan_170 hl (k := 8) rfl rfl (by decide) rfl (fun ls hl => ?_)
                            refine lv_goto (tgt := 148) hx hb dX9_plan_173 (by decide) ?_
                            exact ih148 (xc / 4) z (stI T148 m_row (Int32.toNatClampNeg (nI z)) (nI (xc % 4))) H locs ls (hmd148.I List.mem_cons_self) (by omega) (dg_next (by omega) hxq) (fun j h1 h2 => by rw [nI_clamp (by omega)]; exact be_up (fun h8 => by rw [hxq, h8, show n - 1 - z = n - (z + 1) from by omega]) (fun h8 => hrow j (by omega) h2)) (by omega) hW hS (lv_cast (lv_sub hl [2, 3, 4, 5, 6, 7, 8, 1, 0] rfl) (by rw [show nI z + (-1) = nI z - 1 from (Int32.sub_eq_add_neg _ _).symm]; rfl))
                      exact loop93 _ cd n T133 _ _ ls (Md.rf _ _) (Nat.le_refl _) (by rw [Nat.sub_self, Nat.pow_zero, Nat.div_one]) (fun j h1 h2 => absurd h2 (by omega)) (Nat.lt_succ_self _) hW hS (lv_cast (lv_sub hl [2, 3, 4, 5, 6, 7, 8, 1, 0] rfl) (rfl))
                exact loop29 _ ((-1)) 0 0 T30 _ _ ls (Md.rf _ _) (Nat.zero_le _) (Or.inl ⟨rfl, rfl⟩) (Nat.lt_succ_self _) hW hS (lv_cast (lv_sub hl [3, 4, 5, 6, 2, 1, 0] rfl) (rfl))
              · have c28i : ¬ (Int32.toInt (nI n) ≤ Int32.toInt (nI i)) := fun h9 => c28 ((i3_le _ _).mpr h9)
                refine lv_iconst (v := 4) hx hb dX9_plan_36 (by decide) ?_
                refine lv_iload_n hx hb dX9_plan_37 rfl (lv_at hl 3 rfl) ?_
                refine lv_imul hx hb dX9_plan_38 ?_
                rw [show (4 * (nI (4 ^ i)) : Int32) = nI (4 * (4 ^ i)) from pk_mul 4 (4 ^ i)]
                refine lv_istore_n (lv' := [(3, .int (nI (4 * (4 ^ i)))), (0, .ref h), (1, .int (nI n)), (2, .int b), (4, .int (nI i))]) hx hb dX9_plan_39 rfl hl (by decide) rfl (fun ls hl => ?_)
                refine lv_aload_n hx hb dX9_plan_40 rfl (lv_at hl 1 rfl) ?_
                refine pg_gr (b := m_wants) (ci := 9) (C := RX9) (T := TX9) (N := 63) hx hb hts wi9 hown hK hW f6 (by decide) rfl 56 (by decide) (hts (.fieldLink RX9 121 "IceHallModel" "wants" "[I") (by decide +kernel)) (fun _ h9 => h9) rfl f18 dX9_plan_41 ?_
                refine lv_iload hx hb dX9_plan_44 (lv_at hl 4 rfl) ?_
                refine lv_iconst (v := 2) hx hb dX9_plan_46 (by decide) ?_
                refine lv_iload_n hx hb dX9_plan_47 rfl (lv_at hl 3 rfl) ?_
                refine pc_Si (As := [.int b]) (rest := [.int 2, .int (nI i), .ref m_wants]) F (c_X9_halfOf l D cy A T30 b ) (va_cwS 1 hts gX9_plan_X9_halfOf rfl rfl rfl (by decide +kernel) ⟨Nat.le_of_ble_eq_true rfl, Nat.le_of_ble_eq_true rfl⟩) hK hZ hA hW hS rfl hl.1 rfl (Nat.le_of_ble_eq_true rfl) dX9_plan_48 ⟨Nat.le_of_ble_eq_true rfl, Nat.le_of_ble_eq_true rfl⟩ (fun v233 T234 H locs p235 hW hS => ?_)
                obtain ⟨eT234, p235⟩ := p235
                rw [eT234] at hW
                rw [show v233 = nI (b.toInt.toNat / 2) from half_b p235 (by omega)]
                refine lv_imul hx hb dX9_plan_51 ?_
                rw [show (2 * (nI (b.toInt.toNat / 2)) : Int32) = nI (2 * (b.toInt.toNat / 2)) from pk_mul 2 (b.toInt.toNat / 2)]
                refine pg_iast hx hb hK hW hS f8 (by rw [show sL T30 m_wants = 8 from f13]; exact vp_in_nI (by omega) (by decide)) dX9_plan_52 (fun H locs hW hS => ?_)
                have w236 : sI (stI T30 m_wants (Int32.toNatClampNeg (nI i)) (nI (2 * (b.toInt.toNat / 2)))) h 18 = 0 := (iI_a (fk_ne f6 f8 (by decide))).trans f22
                have w237 : sI (stI T30 m_wants (Int32.toNatClampNeg (nI i)) (nI (2 * (b.toInt.toNat / 2)))) h 19 = 200 := (iI_a (fk_ne f6 f8 (by decide))).trans f23
                have w238 : sI (stI T30 m_wants (Int32.toNatClampNeg (nI i)) (nI (2 * (b.toInt.toNat / 2)))) h 23 = 400 := (iI_a (fk_ne f6 f8 (by decide))).trans f24
                have w239 : sI (stI T30 m_wants (Int32.toNatClampNeg (nI i)) (nI (2 * (b.toInt.toNat / 2)))) h 24 = 3 := (iI_a (fk_ne f6 f8 (by decide))).trans f25
                have w240 : sI (stI T30 m_wants (Int32.toNatClampNeg (nI i)) (nI (2 * (b.toInt.toNat / 2)))) h 35 = 0 := (iI_a (fk_ne f6 f8 (by decide))).trans f26
                have w241 : ∀ j, j < 24 → sI (stI T30 m_wants (Int32.toNatClampNeg (nI i)) (nI (2 * (b.toInt.toNat / 2)))) m_priceOf j = 10 := fun j hj => (iI_a ap_3).trans (f27 j hj)
                clear f22 f23 f24 f25 f26 f27
                refine lv_iconst (v := 0) hx hb dX9_plan_53 (by decide) ?_
                refine lv_istore (lv' := [(5, .int 0), (3, .int (nI (4 * (4 ^ i)))), (0, .ref h), (1, .int (nI n)), (2, .int b), (4, .int (nI i))]) hx hb dX9_plan_54 hl (by decide) rfl (fun ls hl => ?_)
                refine lv_iload hx hb dX9_plan_56 (lv_at hl 0 rfl) ?_
                refine lv_iconst (v := 2) hx hb dX9_plan_58 (by decide) ?_
                refine lv_icmp_ge (tgt := 118) hx hb dX9_plan_59 (by decide) (fun c242 => absurd c242 (by decide)) (fun c242 => ?_)
                refine lv_aload_n hx hb dX9_plan_62 rfl (lv_at hl 2 rfl) ?_
                refine lv_iload hx hb dX9_plan_63 (lv_at hl 0 rfl) ?_
                refine lv_aload_n hx hb dX9_plan_65 rfl (lv_at hl 2 rfl) ?_
                refine pg_gi (ci := 9) (C := RX9) (T := TX9) (N := 63) hx hb hts wi9 hown hK hW f6 (by decide) rfl 18 (by decide) (hts (.fieldLink RX9 219 "IceHallModel" "now" "I") (by decide +kernel)) (fun _ h9 => h9) rfl dX9_plan_66 ?_
                rw [show sI (stI T30 m_wants (Int32.toNatClampNeg (nI i)) (nI (2 * (b.toInt.toNat / 2)))) h 18 = 0 from w236]
                refine lv_iload hx hb dX9_plan_69 (lv_at hl 5 rfl) ?_
                refine lv_iadd hx hb dX9_plan_71 ?_
                rw [show (0 + (nI i) : Int32) = nI (0 + i) from nI_add 0 i]
                refine pc_Vi (As := [.int 0, .int (nI (0 + i))]) (rest := []) F (c_X9_standing l D cy A (stI T30 m_wants (Int32.toNatClampNeg (nI i)) (nI (2 * (b.toInt.toNat / 2)))) h 0 (nI (0 + i)) f6 w240) (cwV 2 hts gX9_plan_X9_standing rfl rfl rfl (by decide +kernel) ⟨Nat.le_of_ble_eq_true rfl, Nat.le_of_ble_eq_true rfl⟩) hK hZ hA hW hS f6 (by decide) rfl rfl hl.1 rfl (Nat.le_of_ble_eq_true rfl) dX9_plan_72 ⟨Nat.le_of_ble_eq_true rfl, Nat.le_of_ble_eq_true rfl⟩ (fun v243 T244 H locs p245 hW hS => ?_)
                obtain ⟨eT244, p245⟩ := p245
                rw [eT244] at hW
                rw [show v243 = (-1) from p245]
                refine lv_istore (lv' := [(6, .int ((-1))), (5, .int 0), (3, .int (nI (4 * (4 ^ i)))), (0, .ref h), (1, .int (nI n)), (2, .int b), (4, .int (nI i))]) hx hb dX9_plan_75 hl (by decide) rfl (fun ls hl => ?_)
                refine lv_aload_n hx hb dX9_plan_77 rfl (lv_at hl 3 rfl) ?_
                refine pg_gr (b := m_wants) (ci := 9) (C := RX9) (T := TX9) (N := 63) hx hb hts wi9 hown hK hW f6 (by decide) rfl 56 (by decide) (hts (.fieldLink RX9 121 "IceHallModel" "wants" "[I") (by decide +kernel)) (fun _ h9 => h9) rfl f18 dX9_plan_78 ?_
                refine lv_iload hx hb dX9_plan_81 (lv_at hl 6 rfl) ?_
                refine lv_aload_n hx hb dX9_plan_83 rfl (lv_at hl 3 rfl) ?_
                refine pg_gr (b := m_wants) (ci := 9) (C := RX9) (T := TX9) (N := 63) hx hb hts wi9 hown hK hW f6 (by decide) rfl 56 (by decide) (hts (.fieldLink RX9 121 "IceHallModel" "wants" "[I") (by decide +kernel)) (fun _ h9 => h9) rfl f18 dX9_plan_84 ?_
                refine lv_iload hx hb dX9_plan_87 (lv_at hl 6 rfl) ?_
                refine pg_iald hx hb hK hW f8 (by rw [show sL (stI T30 m_wants (Int32.toNatClampNeg (nI i)) (nI (2 * (b.toInt.toNat / 2)))) m_wants = 8 from f13]; exact vp_in_nI (by omega) (by decide)) dX9_plan_89 ?_
                rw [show sI (stI T30 m_wants (Int32.toNatClampNeg (nI i)) (nI (2 * (b.toInt.toNat / 2)))) m_wants (Int32.toNatClampNeg (nI i)) = nI (2 * (b.toInt.toNat / 2)) from iI_s]
                refine lv_iload hx hb dX9_plan_90 (lv_at hl 0 rfl) ?_
                refine lv_iconst (v := (-1)) hx hb dX9_plan_92 (by decide) ?_
                refine lv_icmp_ne (tgt := 100) hx hb dX9_plan_93 (by decide) (fun c246 => absurd (by decide) c246) (fun c246 => ?_)
                refine lv_iconst (v := 0) hx hb dX9_plan_96 (by decide) ?_
                refine lv_goto (tgt := 110) hx hb dX9_plan_97 (by decide) ?_
                refine lv_iadd hx hb dX9_plan_110 ?_
                rw [show (nI (2 * (b.toInt.toNat / 2))) + 0 = nI ((2 * (b.toInt.toNat / 2)) + 0) from nI_add _ _]
                refine pg_iast hx hb hK hW hS f8 (by rw [show sL (stI T30 m_wants (Int32.toNatClampNeg (nI i)) (nI (2 * (b.toInt.toNat / 2)))) m_wants = 8 from f13]; exact vp_in_nI (by omega) (by decide)) dX9_plan_111 (fun H locs hW hS => ?_)
                have w247 : sI (stI (stI T30 m_wants (Int32.toNatClampNeg (nI i)) (nI (2 * (b.toInt.toNat / 2)))) m_wants (Int32.toNatClampNeg (nI i)) (nI ((2 * (b.toInt.toNat / 2)) + 0))) h 18 = 0 := (iI_a (fk_ne f6 f8 (by decide))).trans w236
                have w248 : sI (stI (stI T30 m_wants (Int32.toNatClampNeg (nI i)) (nI (2 * (b.toInt.toNat / 2)))) m_wants (Int32.toNatClampNeg (nI i)) (nI ((2 * (b.toInt.toNat / 2)) + 0))) h 19 = 200 := (iI_a (fk_ne f6 f8 (by decide))).trans w237
                have w249 : sI (stI (stI T30 m_wants (Int32.toNatClampNeg (nI i)) (nI (2 * (b.toInt.toNat / 2)))) m_wants (Int32.toNatClampNeg (nI i)) (nI ((2 * (b.toInt.toNat / 2)) + 0))) h 23 = 400 := (iI_a (fk_ne f6 f8 (by decide))).trans w238
                have w250 : sI (stI (stI T30 m_wants (Int32.toNatClampNeg (nI i)) (nI (2 * (b.toInt.toNat / 2)))) m_wants (Int32.toNatClampNeg (nI i)) (nI ((2 * (b.toInt.toNat / 2)) + 0))) h 24 = 3 := (iI_a (fk_ne f6 f8 (by decide))).trans w239
                have w251 : sI (stI (stI T30 m_wants (Int32.toNatClampNeg (nI i)) (nI (2 * (b.toInt.toNat / 2)))) m_wants (Int32.toNatClampNeg (nI i)) (nI ((2 * (b.toInt.toNat / 2)) + 0))) h 35 = 0 := (iI_a (fk_ne f6 f8 (by decide))).trans w240
                have w252 : ∀ j, j < 24 → sI (stI (stI T30 m_wants (Int32.toNatClampNeg (nI i)) (nI (2 * (b.toInt.toNat / 2)))) m_wants (Int32.toNatClampNeg (nI i)) (nI ((2 * (b.toInt.toNat / 2)) + 0))) m_priceOf j = 10 := fun j hj => (iI_a ap_3).trans (w241 j hj)
                clear w236 w237 w238 w239 w240 w241
                refine lv_iinc (v := 1) (lv' := [(5, .int 1), (6, .int ((-1))), (3, .int (nI (4 * (4 ^ i)))), (0, .ref h), (1, .int (nI n)), (2, .int b), (4, .int (nI i))]) hx hb dX9_plan_112 hl (k := 1) rfl (by decide) (by decide) rfl (fun ls hl => ?_)
                refine lv_goto (tgt := 56) hx hb dX9_plan_115 (by decide) ?_
                refine lv_iload hx hb dX9_plan_56 (lv_at hl 0 rfl) ?_
                refine lv_iconst (v := 2) hx hb dX9_plan_58 (by decide) ?_
                refine lv_icmp_ge (tgt := 118) hx hb dX9_plan_59 (by decide) (fun c253 => absurd c253 (by decide)) (fun c253 => ?_)
                refine lv_aload_n hx hb dX9_plan_62 rfl (lv_at hl 3 rfl) ?_
                refine lv_iload hx hb dX9_plan_63 (lv_at hl 0 rfl) ?_
                refine lv_aload_n hx hb dX9_plan_65 rfl (lv_at hl 3 rfl) ?_
                refine pg_gi (ci := 9) (C := RX9) (T := TX9) (N := 63) hx hb hts wi9 hown hK hW f6 (by decide) rfl 18 (by decide) (hts (.fieldLink RX9 219 "IceHallModel" "now" "I") (by decide +kernel)) (fun _ h9 => h9) rfl dX9_plan_66 ?_
                rw [show sI (stI (stI T30 m_wants (Int32.toNatClampNeg (nI i)) (nI (2 * (b.toInt.toNat / 2)))) m_wants (Int32.toNatClampNeg (nI i)) (nI ((2 * (b.toInt.toNat / 2)) + 0))) h 18 = 0 from w247]
                refine lv_iload hx hb dX9_plan_69 (lv_at hl 6 rfl) ?_
                refine lv_iadd hx hb dX9_plan_71 ?_
                rw [show (0 + (nI i) : Int32) = nI (0 + i) from nI_add 0 i]
                refine pc_Vi (As := [.int 1, .int (nI (0 + i))]) (rest := []) F (c_X9_standing l D cy A (stI (stI T30 m_wants (Int32.toNatClampNeg (nI i)) (nI (2 * (b.toInt.toNat / 2)))) m_wants (Int32.toNatClampNeg (nI i)) (nI ((2 * (b.toInt.toNat / 2)) + 0))) h 1 (nI (0 + i)) f6 w251) (cwV 2 hts gX9_plan_X9_standing rfl rfl rfl (by decide +kernel) ⟨Nat.le_of_ble_eq_true rfl, Nat.le_of_ble_eq_true rfl⟩) hK hZ hA hW hS f6 (by decide) rfl rfl hl.1 rfl (Nat.le_of_ble_eq_true rfl) dX9_plan_72 ⟨Nat.le_of_ble_eq_true rfl, Nat.le_of_ble_eq_true rfl⟩ (fun v254 T255 H locs p256 hW hS => ?_)
                obtain ⟨eT255, p256⟩ := p256
                rw [eT255] at hW
                rw [show v254 = (-1) from p256]
                refine lv_istore (lv' := [(6, .int ((-1))), (5, .int 1), (3, .int (nI (4 * (4 ^ i)))), (0, .ref h), (1, .int (nI n)), (2, .int b), (4, .int (nI i))]) hx hb dX9_plan_75 hl (by decide) rfl (fun ls hl => ?_)
                refine lv_aload_n hx hb dX9_plan_77 rfl (lv_at hl 3 rfl) ?_
                refine pg_gr (b := m_wants) (ci := 9) (C := RX9) (T := TX9) (N := 63) hx hb hts wi9 hown hK hW f6 (by decide) rfl 56 (by decide) (hts (.fieldLink RX9 121 "IceHallModel" "wants" "[I") (by decide +kernel)) (fun _ h9 => h9) rfl f18 dX9_plan_78 ?_
                refine lv_iload hx hb dX9_plan_81 (lv_at hl 6 rfl) ?_
                refine lv_aload_n hx hb dX9_plan_83 rfl (lv_at hl 3 rfl) ?_
                refine pg_gr (b := m_wants) (ci := 9) (C := RX9) (T := TX9) (N := 63) hx hb hts wi9 hown hK hW f6 (by decide) rfl 56 (by decide) (hts (.fieldLink RX9 121 "IceHallModel" "wants" "[I") (by decide +kernel)) (fun _ h9 => h9) rfl f18 dX9_plan_84 ?_
                refine lv_iload hx hb dX9_plan_87 (lv_at hl 6 rfl) ?_
                refine pg_iald hx hb hK hW f8 (by rw [show sL (stI (stI T30 m_wants (Int32.toNatClampNeg (nI i)) (nI (2 * (b.toInt.toNat / 2)))) m_wants (Int32.toNatClampNeg (nI i)) (nI ((2 * (b.toInt.toNat / 2)) + 0))) m_wants = 8 from f13]; exact vp_in_nI (by omega) (by decide)) dX9_plan_89 ?_
                rw [show sI (stI (stI T30 m_wants (Int32.toNatClampNeg (nI i)) (nI (2 * (b.toInt.toNat / 2)))) m_wants (Int32.toNatClampNeg (nI i)) (nI ((2 * (b.toInt.toNat / 2)) + 0))) m_wants (Int32.toNatClampNeg (nI i)) = nI ((2 * (b.toInt.toNat / 2)) + 0) from iI_s]
                refine lv_iload hx hb dX9_plan_90 (lv_at hl 0 rfl) ?_
                refine lv_iconst (v := (-1)) hx hb dX9_plan_92 (by decide) ?_
                refine lv_icmp_ne (tgt := 100) hx hb dX9_plan_93 (by decide) (fun c257 => absurd (by decide) c257) (fun c257 => ?_)
                refine lv_iconst (v := 0) hx hb dX9_plan_96 (by decide) ?_
                refine lv_goto (tgt := 110) hx hb dX9_plan_97 (by decide) ?_
                refine lv_iadd hx hb dX9_plan_110 ?_
                rw [show (nI ((2 * (b.toInt.toNat / 2)) + 0)) + 0 = nI (((2 * (b.toInt.toNat / 2)) + 0) + 0) from nI_add _ _]
                refine pg_iast hx hb hK hW hS f8 (by rw [show sL (stI (stI T30 m_wants (Int32.toNatClampNeg (nI i)) (nI (2 * (b.toInt.toNat / 2)))) m_wants (Int32.toNatClampNeg (nI i)) (nI ((2 * (b.toInt.toNat / 2)) + 0))) m_wants = 8 from f13]; exact vp_in_nI (by omega) (by decide)) dX9_plan_111 (fun H locs hW hS => ?_)
                have w258 : sI (stI (stI (stI T30 m_wants (Int32.toNatClampNeg (nI i)) (nI (2 * (b.toInt.toNat / 2)))) m_wants (Int32.toNatClampNeg (nI i)) (nI ((2 * (b.toInt.toNat / 2)) + 0))) m_wants (Int32.toNatClampNeg (nI i)) (nI (((2 * (b.toInt.toNat / 2)) + 0) + 0))) h 18 = 0 := (iI_a (fk_ne f6 f8 (by decide))).trans w247
                have w259 : sI (stI (stI (stI T30 m_wants (Int32.toNatClampNeg (nI i)) (nI (2 * (b.toInt.toNat / 2)))) m_wants (Int32.toNatClampNeg (nI i)) (nI ((2 * (b.toInt.toNat / 2)) + 0))) m_wants (Int32.toNatClampNeg (nI i)) (nI (((2 * (b.toInt.toNat / 2)) + 0) + 0))) h 19 = 200 := (iI_a (fk_ne f6 f8 (by decide))).trans w248
                have w260 : sI (stI (stI (stI T30 m_wants (Int32.toNatClampNeg (nI i)) (nI (2 * (b.toInt.toNat / 2)))) m_wants (Int32.toNatClampNeg (nI i)) (nI ((2 * (b.toInt.toNat / 2)) + 0))) m_wants (Int32.toNatClampNeg (nI i)) (nI (((2 * (b.toInt.toNat / 2)) + 0) + 0))) h 23 = 400 := (iI_a (fk_ne f6 f8 (by decide))).trans w249
                have w261 : sI (stI (stI (stI T30 m_wants (Int32.toNatClampNeg (nI i)) (nI (2 * (b.toInt.toNat / 2)))) m_wants (Int32.toNatClampNeg (nI i)) (nI ((2 * (b.toInt.toNat / 2)) + 0))) m_wants (Int32.toNatClampNeg (nI i)) (nI (((2 * (b.toInt.toNat / 2)) + 0) + 0))) h 24 = 3 := (iI_a (fk_ne f6 f8 (by decide))).trans w250
                have w262 : sI (stI (stI (stI T30 m_wants (Int32.toNatClampNeg (nI i)) (nI (2 * (b.toInt.toNat / 2)))) m_wants (Int32.toNatClampNeg (nI i)) (nI ((2 * (b.toInt.toNat / 2)) + 0))) m_wants (Int32.toNatClampNeg (nI i)) (nI (((2 * (b.toInt.toNat / 2)) + 0) + 0))) h 35 = 0 := (iI_a (fk_ne f6 f8 (by decide))).trans w251
                have w263 : ∀ j, j < 24 → sI (stI (stI (stI T30 m_wants (Int32.toNatClampNeg (nI i)) (nI (2 * (b.toInt.toNat / 2)))) m_wants (Int32.toNatClampNeg (nI i)) (nI ((2 * (b.toInt.toNat / 2)) + 0))) m_wants (Int32.toNatClampNeg (nI i)) (nI (((2 * (b.toInt.toNat / 2)) + 0) + 0))) m_priceOf j = 10 := fun j hj => (iI_a ap_3).trans (w252 j hj)
                clear w247 w248 w249 w250 w251 w252
                refine lv_iinc (v := 2) (lv' := [(5, .int 2), (6, .int ((-1))), (3, .int (nI (4 * (4 ^ i)))), (0, .ref h), (1, .int (nI n)), (2, .int b), (4, .int (nI i))]) hx hb dX9_plan_112 hl (k := 1) rfl (by decide) (by decide) rfl (fun ls hl => ?_)
                refine lv_goto (tgt := 56) hx hb dX9_plan_115 (by decide) ?_
                refine lv_iload hx hb dX9_plan_56 (lv_at hl 0 rfl) ?_
                refine lv_iconst (v := 2) hx hb dX9_plan_58 (by decide) ?_
                refine lv_icmp_ge (tgt := 118) hx hb dX9_plan_59 (by decide) (fun c264 => ?_) (fun c264 => absurd (by decide) c264)
                refine lv_iinc (v := nI i + 1) (lv' := [(4, .int (nI i + 1)), (5, .int 2), (6, .int ((-1))), (3, .int (nI (4 * (4 ^ i)))), (0, .ref h), (1, .int (nI n)), (2, .int b)]) hx hb dX9_plan_118 hl (k := 6) rfl rfl (by decide) rfl (fun ls hl => ?_)
                refine lv_goto (tgt := 30) hx hb dX9_plan_121 (by decide) ?_
                exact ih (i + 1) (stI (stI (stI T30 m_wants (Int32.toNatClampNeg (nI i)) (nI (2 * (b.toInt.toNat / 2)))) m_wants (Int32.toNatClampNeg (nI i)) (nI ((2 * (b.toInt.toNat / 2)) + 0))) m_wants (Int32.toNatClampNeg (nI i)) (nI (((2 * (b.toInt.toNat / 2)) + 0) + 0))) H locs ls (((hmd30.I List.mem_cons_self).I List.mem_cons_self).I List.mem_cons_self) (by omega) (fun j hj => by rw [nI_clamp (by omega)]; exact be_up (fun h8 => congrArg nI (by omega)) (fun h8 => be_up (fun h => absurd h h8) (fun _ => be_up (fun h => absurd h h8) (fun _ => hwn j (by omega))))) (by omega) hW hS (lv_cast (lv_sub hl [4, 5, 6, 3, 0] rfl) (by rw [nI_1, show 4 * 4 ^ i = 4 ^ (i + 1) from by rw [Nat.pow_succ, Nat.mul_comm]]; rfl))
          exact loop5 _ 0 S _ _ ls (Md.rf _ _) (Nat.zero_le _) (fun j hj => absurd hj (Nat.not_lt_zero _)) (Nat.lt_succ_self _) hW hS (lv_cast (lv_sub hl [2, 3, 4, 1, 0] rfl) (rfl))
        · have c4i : ¬ (Int32.toInt b ≤ (40 : Int)) := fun h9 => c4 ((i3_le _ _).mpr h9)
          refine lv_iconst (v := (-1)) hx hb dX9_plan_23 (by decide) ?_
          exact pc_iret (v := (-1)) (S := S) hx hb hr hlk hK hZ hA hW hS (PL_no (by omega)) dX9_plan_24
