set_option maxHeartbeats 4000000 in
set_option maxRecDepth 100000 in
theorem c_X3_weightWith_s (l : Launch) (D : va_G) (cy : Nat → ClassId) (A : Nat → Prop) (S : St) (h wa pi be ro : Nat) (i u k : Int32) (hk : sK S h = 3) (r0 : sR S h 0 = some wa) (kwa : sK S wa = 11) (nwa : sL S wa = 9) (r1 : sR S h 1 = some pi) (kpi : sK S pi = 11) (npi : sL S pi = 8) (r2 : sR S h 2 = some be) (kbe : sK S be = 11) (nbe : sL S be = 225) (r3 : sR S h 3 = some ro) (kro : sK S ro = 11) (nro : sL S ro = 8) (hi0 : 0 ≤ i.toInt) (hi8 : i.toInt < 8) : MI l yX3_weightWith wsX3_weightWith ({ frames := 1, cells := 0, slots := 0, locals := 21 } : Room) 0 0 D cy A [.ref h, .int i, .int u, .int k] S (fun r S1 => S1 = S ∧ True) := by
  refine mt_start (cc := cX3_weightWith) (maxL := 6) (ret := (some .int)) (by decide) rfl (Nat.le_of_ble_eq_true rfl) ?_
  intro p e s m args below meth c hx hb hr hlk hml hown hnm hts hK hZ hA hW hS ls hl
  have hl : lv_has ls 6 [(0, .ref h), (1, .int i), (2, .int u), (3, .int k)] := hl
  have hown : s.vm.findClass RX3 = some m.cls := hown
  have F : CallFix p m c cX3_weightWith 6 s args wsX3_weightWith RX3 := ⟨hx, hb, hml, hown, hts⟩
  have wi3 : ∀ w ∈ u_ws RX3 TX3 9, w ∈ wsX3_weightWith := by decide +kernel
  have hi1 : (i + 1).toInt = i.toInt + 1 := i3_add rfl rfl (by omega) (by omega)
  refine lv_aload_n hx hb dX3_weightWith_0 rfl (lv_at hl 0 rfl) ?_
  refine pg_gi (ci := 3) (C := RX3) (T := TX3) (N := 9) hx hb hts wi3 hown hK hW hk (by decide) rfl 6 (by decide) (hts (.fieldLink RX3 35 "IceHall$Planner" "store" "I") (by decide +kernel)) (fun _ h9 => h9) rfl dX3_weightWith_1 ?_
  refine lv_bipush (v := 20) hx hb dX3_weightWith_4 (by decide) ?_
  refine lv_iload_n hx hb dX3_weightWith_6 rfl (lv_at hl 2 rfl) ?_
  refine lv_iload_n hx hb dX3_weightWith_7 rfl (lv_at hl 3 rfl) ?_
  refine lv_iadd hx hb dX3_weightWith_8 ?_
  refine lv_imul hx hb dX3_weightWith_9 ?_
  refine lv_iadd hx hb dX3_weightWith_10 ?_
  refine lv_istore (lv' := [(4, .int ((sI S h 6) + (20 * (u + k)))), (0, .ref h), (1, .int i), (2, .int u), (3, .int k)]) hx hb dX3_weightWith_11 hl (by decide) rfl (fun ls hl => ?_)
  refine lv_iload_n hx hb dX3_weightWith_13 rfl (lv_at hl 2 rfl) ?_
  refine lv_iconst (v := 1) hx hb dX3_weightWith_14 (by decide) ?_
  refine lv_iadd hx hb dX3_weightWith_15 ?_
  refine lv_bipush (v := 25) hx hb dX3_weightWith_16 (by decide) ?_
  refine lv_imul hx hb dX3_weightWith_18 ?_
  refine lv_iload_n hx hb dX3_weightWith_19 rfl (lv_at hl 3 rfl) ?_
  refine lv_iadd hx hb dX3_weightWith_20 ?_
  refine lv_iload_n hx hb dX3_weightWith_21 rfl (lv_at hl 4 rfl) ?_
  refine lv_iadd hx hb dX3_weightWith_22 ?_
  refine lv_istore (lv' := [(5, .int ((((i + 1) * 25) + u) + k)), (4, .int ((sI S h 6) + (20 * (u + k)))), (0, .ref h), (1, .int i), (2, .int u), (3, .int k)]) hx hb dX3_weightWith_23 hl (by decide) rfl (fun ls hl => ?_)
  refine lv_iload hx hb dX3_weightWith_25 (lv_at hl 1 rfl) ?_
  refine lv_aload_n hx hb dX3_weightWith_27 rfl (lv_at hl 2 rfl) ?_
  refine pg_gr (b := wa) (ci := 3) (C := RX3) (T := TX3) (N := 9) hx hb hts wi3 hown hK hW hk (by decide) rfl 0 (by decide) (hts (.fieldLink RX3 9 "IceHall$Planner" "wantedAhead" "[I") (by decide +kernel)) (fun _ h9 => h9) rfl r0 dX3_weightWith_28 ?_
  refine lv_iload_n hx hb dX3_weightWith_31 rfl (lv_at hl 3 rfl) ?_
  refine pg_iald hx hb hK hW kwa (by rw [show sL S wa = 9 from nwa]; exact r_in (by omega)) dX3_weightWith_32 ?_
  refine lv_isub hx hb dX3_weightWith_33 ?_
  refine lv_aload_n hx hb dX3_weightWith_34 rfl (lv_at hl 2 rfl) ?_
  refine pg_gi (ci := 3) (C := RX3) (T := TX3) (N := 9) hx hb hts wi3 hown hK hW hk (by decide) rfl 7 (by decide) (hts (.fieldLink RX3 38 "IceHall$Planner" "storeMost" "I") (by decide +kernel)) (fun _ h9 => h9) rfl dX3_weightWith_35 ?_
  refine lv_icmp_gt (tgt := 55) hx hb dX3_weightWith_38 (by decide) (fun c1 => ?_) (fun c1 => ?_)
  · have c1i : Int32.toInt (sI S h 7) < Int32.toInt (((sI S h 6) + (20 * (u + k))) - (sI S wa (Int32.toNatClampNeg i))) := (i3_lt _ _).mp c1
    refine lv_ldc (v := (1000000000)) hx hb hown (hts (.constant RX3 48 (1000000000)) (by decide +kernel)) dX3_weightWith_55 ?_
    exact pc_iret (v := (1000000000)) (S := S) hx hb hr hlk hK hZ hA hW hS (⟨rfl, trivial⟩) dX3_weightWith_57
  · have c1i : ¬ (Int32.toInt (sI S h 7) < Int32.toInt (((sI S h 6) + (20 * (u + k))) - (sI S wa (Int32.toNatClampNeg i)))) := fun h9 => c1 ((i3_lt _ _).mpr h9)
    refine lv_iload hx hb dX3_weightWith_41 (lv_at hl 1 rfl) ?_
    refine lv_aload_n hx hb dX3_weightWith_43 rfl (lv_at hl 2 rfl) ?_
    refine pg_gr (b := wa) (ci := 3) (C := RX3) (T := TX3) (N := 9) hx hb hts wi3 hown hK hW hk (by decide) rfl 0 (by decide) (hts (.fieldLink RX3 9 "IceHall$Planner" "wantedAhead" "[I") (by decide +kernel)) (fun _ h9 => h9) rfl r0 dX3_weightWith_44 ?_
    refine lv_iload_n hx hb dX3_weightWith_47 rfl (lv_at hl 3 rfl) ?_
    refine lv_iconst (v := 1) hx hb dX3_weightWith_48 (by decide) ?_
    refine lv_iadd hx hb dX3_weightWith_49 ?_
    refine pg_iald hx hb hK hW kwa (by rw [show sL S wa = 9 from nwa]; exact r_in (by omega)) dX3_weightWith_50 ?_
    refine lv_isub hx hb dX3_weightWith_51 ?_
    refine lv_if_ge (tgt := 58) hx hb dX3_weightWith_52 (by decide) (fun c2 => ?_) (fun c2 => ?_)
    · have c2i : (0 : Int) ≤ Int32.toInt (((sI S h 6) + (20 * (u + k))) - (sI S wa (Int32.toNatClampNeg (i + 1)))) := (i3_le _ _).mp c2
      refine lv_iload hx hb dX3_weightWith_58 (lv_at hl 0 rfl) ?_
      refine lv_aload_n hx hb dX3_weightWith_60 rfl (lv_at hl 2 rfl) ?_
      refine pg_gr (b := be) (ci := 3) (C := RX3) (T := TX3) (N := 9) hx hb hts wi3 hown hK hW hk (by decide) rfl 2 (by decide) (hts (.fieldLink RX3 18 "IceHall$Planner" "best" "[I") (by decide +kernel)) (fun _ h9 => h9) rfl r2 dX3_weightWith_61 ?_
      refine pg_alen hx hb hK hW kbe dX3_weightWith_64 ?_
      rw [show nI (sL S be) = 225 from by rw [show sL S be = 225 from nbe]; rfl]
      refine pc_Ni (As := [.int ((((i + 1) * 25) + u) + k), .int 225]) (rest := []) F (c_X8_isBelow l D cy A S ((((i + 1) * 25) + u) + k) 225 ) ⟨va_cnB 2 hts gX3_weightWith_X8_isBelow_n31 rfl rfl rfl hZ.2.2.2.2.2.2.2.2.2.2.1 (hts (.initialized RX8) (by decide +kernel)) (by decide +kernel) ⟨Nat.le_of_ble_eq_true rfl, Nat.le_of_ble_eq_true rfl⟩, hts (.static yX8_isBelow) (by decide +kernel), trivial⟩ hK hZ hA hW hS rfl hl.1 rfl (Nat.le_of_ble_eq_true rfl) dX3_weightWith_65 ⟨Nat.le_of_ble_eq_true rfl, Nat.le_of_ble_eq_true rfl⟩ (fun v3 T4 H locs p5 hW hS => ?_)
      obtain ⟨eT4, p5⟩ := p5
      rw [eT4] at hW
      have p5 := isb_lit (n := 225) rfl p5
      refine lv_if_eq (tgt := 83) hx hb dX3_weightWith_68 (by decide) (fun c6 => ?_) (fun c6 => ?_)
      · have c6i : Int32.toInt v3 = (0 : Int) := (i3_eq _ _).mp c6
        refine lv_ldc (v := (1000000000)) hx hb hown (hts (.constant RX3 48 (1000000000)) (by decide +kernel)) dX3_weightWith_83 ?_
        exact pc_iret (v := (1000000000)) (S := S) hx hb hr hlk hK hZ hA hW hS (⟨rfl, trivial⟩) dX3_weightWith_85
      · have c6i : ¬ (Int32.toInt v3 = (0 : Int)) := fun h9 => c6 ((i3_eq _ _).mpr h9)
        refine lv_aload_n hx hb dX3_weightWith_71 rfl (lv_at hl 2 rfl) ?_
        refine pg_gr (b := be) (ci := 3) (C := RX3) (T := TX3) (N := 9) hx hb hts wi3 hown hK hW hk (by decide) rfl 2 (by decide) (hts (.fieldLink RX3 18 "IceHall$Planner" "best" "[I") (by decide +kernel)) (fun _ h9 => h9) rfl r2 dX3_weightWith_72 ?_
        refine lv_iload hx hb dX3_weightWith_75 (lv_at hl 0 rfl) ?_
        refine pg_iald hx hb hK hW kbe (by rw [show sL S be = 225 from nbe]; exact r_in (by omega)) dX3_weightWith_77 ?_
        refine lv_ldc (v := (1000000000)) hx hb hown (hts (.constant RX3 48 (1000000000)) (by decide +kernel)) dX3_weightWith_78 ?_
        refine lv_icmp_lt (tgt := 86) hx hb dX3_weightWith_80 (by decide) (fun c7 => ?_) (fun c7 => ?_)
        · have c7i : Int32.toInt (sI S be (Int32.toNatClampNeg ((((i + 1) * 25) + u) + k))) < (1000000000 : Int) := (i3_lt _ _).mp c7
          refine lv_aload_n hx hb dX3_weightWith_86 rfl (lv_at hl 2 rfl) ?_
          refine pg_gr (b := be) (ci := 3) (C := RX3) (T := TX3) (N := 9) hx hb hts wi3 hown hK hW hk (by decide) rfl 2 (by decide) (hts (.fieldLink RX3 18 "IceHall$Planner" "best" "[I") (by decide +kernel)) (fun _ h9 => h9) rfl r2 dX3_weightWith_87 ?_
          refine lv_iload hx hb dX3_weightWith_90 (lv_at hl 0 rfl) ?_
          refine pg_iald hx hb hK hW kbe (by rw [show sL S be = 225 from nbe]; exact r_in (by omega)) dX3_weightWith_92 ?_
          refine lv_iload_n hx hb dX3_weightWith_93 rfl (lv_at hl 5 rfl) ?_
          refine lv_aload_n hx hb dX3_weightWith_94 rfl (lv_at hl 2 rfl) ?_
          refine pg_gr (b := pi) (ci := 3) (C := RX3) (T := TX3) (N := 9) hx hb hts wi3 hown hK hW hk (by decide) rfl 1 (by decide) (hts (.fieldLink RX3 15 "IceHall$Planner" "priceIn" "[I") (by decide +kernel)) (fun _ h9 => h9) rfl r1 dX3_weightWith_95 ?_
          refine lv_iload_n hx hb dX3_weightWith_98 rfl (lv_at hl 3 rfl) ?_
          refine pg_iald hx hb hK hW kpi (by rw [show sL S pi = 8 from npi]; exact r_in (by omega)) dX3_weightWith_99 ?_
          refine lv_bipush (v := 100) hx hb dX3_weightWith_100 (by decide) ?_
          refine lv_imul hx hb dX3_weightWith_102 ?_
          refine lv_iconst (v := 1) hx hb dX3_weightWith_103 (by decide) ?_
          refine lv_iadd hx hb dX3_weightWith_104 ?_
          refine lv_imul hx hb dX3_weightWith_105 ?_
          refine lv_iadd hx hb dX3_weightWith_106 ?_
          exact pc_iret (v := (sI S be (Int32.toNatClampNeg ((((i + 1) * 25) + u) + k))) + (k * (((sI S pi (Int32.toNatClampNeg i)) * 100) + 1))) (S := S) hx hb hr hlk hK hZ hA hW hS (⟨rfl, trivial⟩) dX3_weightWith_107
        · have c7i : ¬ (Int32.toInt (sI S be (Int32.toNatClampNeg ((((i + 1) * 25) + u) + k))) < (1000000000 : Int)) := fun h9 => c7 ((i3_lt _ _).mpr h9)
          refine lv_ldc (v := (1000000000)) hx hb hown (hts (.constant RX3 48 (1000000000)) (by decide +kernel)) dX3_weightWith_83 ?_
          exact pc_iret (v := (1000000000)) (S := S) hx hb hr hlk hK hZ hA hW hS (⟨rfl, trivial⟩) dX3_weightWith_85
    · have c2i : ¬ ((0 : Int) ≤ Int32.toInt (((sI S h 6) + (20 * (u + k))) - (sI S wa (Int32.toNatClampNeg (i + 1))))) := fun h9 => c2 ((i3_le _ _).mpr h9)
      refine lv_ldc (v := (1000000000)) hx hb hown (hts (.constant RX3 48 (1000000000)) (by decide +kernel)) dX3_weightWith_55 ?_
      exact pc_iret (v := (1000000000)) (S := S) hx hb hr hlk hK hZ hA hW hS (⟨rfl, trivial⟩) dX3_weightWith_57
set_option maxHeartbeats 4000000 in
set_option maxRecDepth 100000 in
theorem c_X3_leastOver_s (l : Launch) (D : va_G) (cy : Nat → ClassId) (A : Nat → Prop) (S : St) (h wa pi be ro : Nat) (i u wk : Int32) (hk : sK S h = 3) (r0 : sR S h 0 = some wa) (kwa : sK S wa = 11) (nwa : sL S wa = 9) (r1 : sR S h 1 = some pi) (kpi : sK S pi = 11) (npi : sL S pi = 8) (r2 : sR S h 2 = some be) (kbe : sK S be = 11) (nbe : sL S be = 225) (r3 : sR S h 3 = some ro) (kro : sK S ro = 11) (nro : sL S ro = 8) (i8 : sI S h 8 = wk) (hi0 : 0 ≤ i.toInt) (hi8 : i.toInt < 8) (hw : wk.toInt ≤ 3) : MI l yX3_leastOver wsX3_leastOver ({ frames := 2, cells := 0, slots := 0, locals := 60 } : Room) 0 0 D cy A [.ref h, .int i, .int u] S (fun r S1 => S1 = S ∧ True) := by
  refine mt_start (cc := cX3_leastOver) (maxL := 5) (ret := (some .int)) (by decide) rfl (Nat.le_of_ble_eq_true rfl) ?_
  intro p e s m args below meth c hx hb hr hlk hml hown hnm hts hK hZ hA hW hS ls hl
  have hl : lv_has ls 5 [(0, .ref h), (1, .int i), (2, .int u)] := hl
  have hown : s.vm.findClass RX3 = some m.cls := hown
  have F : CallFix p m c cX3_leastOver 5 s args wsX3_leastOver RX3 := ⟨hx, hb, hml, hown, hts⟩
  have wi3 : ∀ w ∈ u_ws RX3 TX3 9, w ∈ wsX3_leastOver := by decide +kernel
  refine lv_ldc (v := (1000000000)) hx hb hown (hts (.constant RX3 48 (1000000000)) (by decide +kernel)) dX3_leastOver_0 ?_
  refine lv_istore_n (lv' := [(3, .int ((1000000000))), (0, .ref h), (1, .int i), (2, .int u)]) hx hb dX3_leastOver_2 rfl hl (by decide) rfl (fun ls hl => ?_)
  refine lv_iconst (v := 0) hx hb dX3_leastOver_3 (by decide) ?_
  refine lv_istore (lv' := [(4, .int 0), (3, .int ((1000000000))), (0, .ref h), (1, .int i), (2, .int u)]) hx hb dX3_leastOver_4 hl (by decide) rfl (fun ls hl => ?_)
  have loop1 : ∀ (zn : Nat) (z : Int32) (y : Int32) (H : Heap) (locs : List Loc) (ls : Array Slot), (0 ≤ y.toInt) → (y.toInt ≤ 4) → (4 - y.toInt).toNat < zn → PW D cy A S H → va_S A s.heap H locs → lv_has ls 5 [(0, .ref h), (1, .int i), (2, .int u), (3, .int z), (4, .int y)] → W p l e ({ frames := 2, cells := 0, slots := 0, locals := 60 } : Room) s m args below meth c H locs 0 0 (MQ below (va_Qi (fun r S1 => S1 = S ∧ True) (PU D cy A) A) args s 0 0 A) (F0 m 6 ls []) := by
    intro zn
    induction zn with
    | zero => intros; exact absurd (by assumption) (Nat.not_lt_zero _)
    | succ zn ih =>
      intro z y H locs ls hy0 hy4 hme hW hS hl
      refine lv_iload hx hb dX3_leastOver_6 (lv_at hl 4 rfl) ?_
      refine lv_aload_n hx hb dX3_leastOver_8 rfl (lv_at hl 0 rfl) ?_
      refine pg_gi (ci := 3) (C := RX3) (T := TX3) (N := 9) hx hb hts wi3 hown hK hW hk (by decide) rfl 8 (by decide) (hts (.fieldLink RX3 41 "IceHall$Planner" "working" "I") (by decide +kernel)) (fun _ h9 => h9) rfl dX3_leastOver_9 ?_
      rw [show sI S h 8 = wk from i8]
      refine lv_icmp_gt (tgt := 34) hx hb dX3_leastOver_12 (by decide) (fun c2 => ?_) (fun c2 => ?_)
      · have c2i : Int32.toInt wk < Int32.toInt y := (i3_lt _ _).mp c2
        refine lv_iload_n hx hb dX3_leastOver_34 rfl (lv_at hl 3 rfl) ?_
        exact pc_iret (v := z) (S := S) hx hb hr hlk hK hZ hA hW hS (⟨rfl, trivial⟩) dX3_leastOver_35
      · have c2i : ¬ (Int32.toInt wk < Int32.toInt y) := fun h9 => c2 ((i3_lt _ _).mpr h9)
        refine lv_iload_n hx hb dX3_leastOver_15 rfl (lv_at hl 3 rfl) ?_
        refine lv_aload_n hx hb dX3_leastOver_16 rfl (lv_at hl 0 rfl) ?_
        refine lv_iload_n hx hb dX3_leastOver_17 rfl (lv_at hl 1 rfl) ?_
        refine lv_iload_n hx hb dX3_leastOver_18 rfl (lv_at hl 2 rfl) ?_
        refine lv_iload hx hb dX3_leastOver_19 (lv_at hl 4 rfl) ?_
        refine pc_Vi (As := [.int i, .int u, .int y]) (rest := [.int z]) F (c_X3_weightWith_s l D cy A S h wa pi be ro i u y hk r0 kwa nwa r1 kpi npi r2 kbe nbe r3 kro nro (by omega) (by omega)) (cwV 3 hts gX3_leastOver_X3_weightWith rfl rfl rfl (by decide +kernel) ⟨Nat.le_of_ble_eq_true rfl, Nat.le_of_ble_eq_true rfl⟩) hK hZ hA hW hS hk (by decide) rfl rfl hl.1 rfl (Nat.le_of_ble_eq_true rfl) dX3_leastOver_21 ⟨Nat.le_of_ble_eq_true rfl, Nat.le_of_ble_eq_true rfl⟩ (fun v3 T4 H locs p5 hW hS => ?_)
        obtain ⟨eT4, p5⟩ := p5
        rw [eT4] at hW
        refine va_mmin hx hb (by rw [hml]; exact hl.1.symm) hown (hts (.methodLink RX3 56 Lib.Math.min.name) (by decide +kernel)) (hts (.static Lib.Math.min.name) (by decide +kernel)) (hts (.initialized "java/lang/Math") (by decide +kernel)) (hts (.code Lib.Math.min.name Lib.Math.min.code 2 (some .int)) (by decide +kernel)) (Nat.le_of_ble_eq_true rfl) (Nat.le_of_ble_eq_true rfl) (Nat.le_of_ble_eq_true rfl) (Nat.le_of_ble_eq_true rfl) dX3_leastOver_24 ?_
        refine lv_istore_n (lv' := [(3, .int (if v3 < z then v3 else z)), (0, .ref h), (1, .int i), (2, .int u), (4, .int y)]) hx hb dX3_leastOver_27 rfl hl (by decide) rfl (fun ls hl => ?_)
        refine lv_iinc (v := y + 1) (lv' := [(4, .int (y + 1)), (3, .int (if v3 < z then v3 else z)), (0, .ref h), (1, .int i), (2, .int u)]) hx hb dX3_leastOver_28 hl (k := 4) rfl rfl (by decide) rfl (fun ls hl => ?_)
        refine lv_goto (tgt := 6) hx hb dX3_leastOver_31 (by decide) ?_
        have hy1 : (y + 1).toInt = y.toInt + 1 := i3_add rfl rfl (by omega) (by omega)
        exact ih (if v3 < z then v3 else z) (y + 1) H locs ls (by omega) (by omega) (by omega) hW hS (lv_cast (lv_sub hl [2, 3, 4, 1, 0] rfl) (rfl))
  exact loop1 _ 1000000000 0 _ _ ls (by decide) (by decide) (Nat.lt_succ_self _) hW hS (lv_cast (lv_sub hl [2, 3, 4, 1, 0] rfl) (rfl))
set_option maxHeartbeats 4000000 in
set_option maxRecDepth 100000 in
theorem c_X3_leastOn_s (l : Launch) (D : va_G) (cy : Nat → ClassId) (A : Nat → Prop) (S : St) (h wa pi be ro : Nat) (i u wk : Int32) (hk : sK S h = 3) (r0 : sR S h 0 = some wa) (kwa : sK S wa = 11) (nwa : sL S wa = 9) (r1 : sR S h 1 = some pi) (kpi : sK S pi = 11) (npi : sL S pi = 8) (r2 : sR S h 2 = some be) (kbe : sK S be = 11) (nbe : sL S be = 225) (r3 : sR S h 3 = some ro) (kro : sK S ro = 11) (nro : sL S ro = 8) (i8 : sI S h 8 = wk) (hi0 : 0 ≤ i.toInt) (hi8 : i.toInt < 8) (hw : wk.toInt ≤ 3) : MI l yX3_leastOn wsX3_leastOn ({ frames := 3, cells := 0, slots := 0, locals := 84 } : Room) 0 0 D cy A [.ref h, .int i, .int u] S (fun r S1 => S1 = S ∧ True) := by
  refine mt_start (cc := cX3_leastOn) (maxL := 5) (ret := (some .int)) (by decide) rfl (Nat.le_of_ble_eq_true rfl) ?_
  intro p e s m args below meth c hx hb hr hlk hml hown hnm hts hK hZ hA hW hS ls hl
  have hl : lv_has ls 5 [(0, .ref h), (1, .int i), (2, .int u)] := hl
  have hown : s.vm.findClass RX3 = some m.cls := hown
  have F : CallFix p m c cX3_leastOn 5 s args wsX3_leastOn RX3 := ⟨hx, hb, hml, hown, hts⟩
  have wi3 : ∀ w ∈ u_ws RX3 TX3 9, w ∈ wsX3_leastOn := by decide +kernel
  refine lv_aload_n hx hb dX3_leastOn_0 rfl (lv_at hl 0 rfl) ?_
  refine lv_iload_n hx hb dX3_leastOn_1 rfl (lv_at hl 1 rfl) ?_
  refine lv_iload_n hx hb dX3_leastOn_2 rfl (lv_at hl 2 rfl) ?_
  refine pc_Vi (As := [.int i, .int u]) (rest := []) F (c_X3_leastOver_s l D cy A S h wa pi be ro i u wk hk r0 kwa nwa r1 kpi npi r2 kbe nbe r3 kro nro i8 (by omega) (by omega) (by omega)) (cwV 2 hts gX3_leastOn_X3_leastOver rfl rfl rfl (by decide +kernel) ⟨Nat.le_of_ble_eq_true rfl, Nat.le_of_ble_eq_true rfl⟩) hK hZ hA hW hS hk (by decide) rfl rfl hl.1 rfl (Nat.le_of_ble_eq_true rfl) dX3_leastOn_3 ⟨Nat.le_of_ble_eq_true rfl, Nat.le_of_ble_eq_true rfl⟩ (fun v1 T2 H locs p3 hW hS => ?_)
  obtain ⟨eT2, p3⟩ := p3
  rw [eT2] at hW
  refine lv_istore_n (lv' := [(3, .int v1), (0, .ref h), (1, .int i), (2, .int u)]) hx hb dX3_leastOn_6 rfl hl (by decide) rfl (fun ls hl => ?_)
  refine lv_iconst (v := 0) hx hb dX3_leastOn_7 (by decide) ?_
  refine lv_istore (lv' := [(4, .int 0), (3, .int v1), (0, .ref h), (1, .int i), (2, .int u)]) hx hb dX3_leastOn_8 hl (by decide) rfl (fun ls hl => ?_)
  have loop4 : ∀ (zn : Nat) (y : Int32) (H : Heap) (locs : List Loc) (ls : Array Slot), (0 ≤ y.toInt) → (y.toInt ≤ 4) → (4 - y.toInt).toNat < zn → PW D cy A S H → va_S A s.heap H locs → lv_has ls 5 [(0, .ref h), (1, .int i), (2, .int u), (3, .int v1), (4, .int y)] → W p l e ({ frames := 3, cells := 0, slots := 0, locals := 84 } : Room) s m args below meth c H locs 0 0 (MQ below (va_Qi (fun r S1 => S1 = S ∧ True) (PU D cy A) A) args s 0 0 A) (F0 m 10 ls []) := by
    intro zn
    induction zn with
    | zero => intros; exact absurd (by assumption) (Nat.not_lt_zero _)
    | succ zn ih =>
      intro y H locs ls hy0 hy4 hme hW hS hl
      refine lv_iload hx hb dX3_leastOn_10 (lv_at hl 4 rfl) ?_
      refine lv_aload_n hx hb dX3_leastOn_12 rfl (lv_at hl 0 rfl) ?_
      refine pg_gi (ci := 3) (C := RX3) (T := TX3) (N := 9) hx hb hts wi3 hown hK hW hk (by decide) rfl 8 (by decide) (hts (.fieldLink RX3 41 "IceHall$Planner" "working" "I") (by decide +kernel)) (fun _ h9 => h9) rfl dX3_leastOn_13 ?_
      rw [show sI S h 8 = wk from i8]
      refine lv_icmp_ge (tgt := 40) hx hb dX3_leastOn_16 (by decide) (fun c5 => ?_) (fun c5 => ?_)
      · have c5i : Int32.toInt wk ≤ Int32.toInt y := (i3_le _ _).mp c5
        refine lv_aload_n hx hb dX3_leastOn_40 rfl (lv_at hl 0 rfl) ?_
        refine pg_gi (ci := 3) (C := RX3) (T := TX3) (N := 9) hx hb hts wi3 hown hK hW hk (by decide) rfl 8 (by decide) (hts (.fieldLink RX3 41 "IceHall$Planner" "working" "I") (by decide +kernel)) (fun _ h9 => h9) rfl dX3_leastOn_41 ?_
        rw [show sI S h 8 = wk from i8]
        exact pc_iret (v := wk) (S := S) hx hb hr hlk hK hZ hA hW hS (⟨rfl, trivial⟩) dX3_leastOn_44
      · have c5i : ¬ (Int32.toInt wk ≤ Int32.toInt y) := fun h9 => c5 ((i3_le _ _).mpr h9)
        refine lv_aload_n hx hb dX3_leastOn_19 rfl (lv_at hl 0 rfl) ?_
        refine lv_iload_n hx hb dX3_leastOn_20 rfl (lv_at hl 1 rfl) ?_
        refine lv_iload_n hx hb dX3_leastOn_21 rfl (lv_at hl 2 rfl) ?_
        refine lv_iload hx hb dX3_leastOn_22 (lv_at hl 4 rfl) ?_
        refine pc_Vi (As := [.int i, .int u, .int y]) (rest := []) F (c_X3_weightWith_s l D cy A S h wa pi be ro i u y hk r0 kwa nwa r1 kpi npi r2 kbe nbe r3 kro nro (by omega) (by omega)) (cwV 3 hts gX3_leastOn_X3_weightWith rfl rfl rfl (by decide +kernel) ⟨Nat.le_of_ble_eq_true rfl, Nat.le_of_ble_eq_true rfl⟩) hK hZ hA hW hS hk (by decide) rfl rfl hl.1 rfl (Nat.le_of_ble_eq_true rfl) dX3_leastOn_24 ⟨Nat.le_of_ble_eq_true rfl, Nat.le_of_ble_eq_true rfl⟩ (fun v6 T7 H locs p8 hW hS => ?_)
        obtain ⟨eT7, p8⟩ := p8
        rw [eT7] at hW
        refine lv_iload_n hx hb dX3_leastOn_27 rfl (lv_at hl 3 rfl) ?_
        refine lv_icmp_ne (tgt := 34) hx hb dX3_leastOn_28 (by decide) (fun c9 => ?_) (fun c9 => ?_)
        · have c9i : ¬ (Int32.toInt v6 = Int32.toInt v1) := fun h9 => c9 ((i3_eq _ _).mpr h9)
          refine lv_iinc (v := y + 1) (lv' := [(4, .int (y + 1)), (0, .ref h), (1, .int i), (2, .int u), (3, .int v1)]) hx hb dX3_leastOn_34 hl (k := 4) rfl rfl (by decide) rfl (fun ls hl => ?_)
          refine lv_goto (tgt := 10) hx hb dX3_leastOn_37 (by decide) ?_
          have hy1 : (y + 1).toInt = y.toInt + 1 := i3_add rfl rfl (by omega) (by omega)
          exact ih (y + 1) H locs ls (by omega) (by omega) (by omega) hW hS (lv_cast (lv_sub hl [1, 2, 3, 4, 0] rfl) (rfl))
        · have c9i : Int32.toInt v6 = Int32.toInt v1 := (i3_eq _ _).mp c9
          refine lv_iload hx hb dX3_leastOn_31 (lv_at hl 4 rfl) ?_
          exact pc_iret (v := y) (S := S) hx hb hr hlk hK hZ hA hW hS (⟨rfl, trivial⟩) dX3_leastOn_33
  exact loop4 _ 0 _ _ ls (by decide) (by decide) (Nat.lt_succ_self _) hW hS (lv_cast (lv_sub hl [2, 3, 4, 1, 0] rfl) (rfl))
set_option maxHeartbeats 4000000 in
set_option maxRecDepth 100000 in
theorem c_X3_keepRow (l : Launch) (D : va_G) (cy : Nat → ClassId) (A : Nat → Prop) (S : St) (h wa pi be ro : Nat) (n : Nat) (wk : Int32) (hk : sK S h = 3) (r0 : sR S h 0 = some wa) (kwa : sK S wa = 11) (nwa : sL S wa = 9) (r1 : sR S h 1 = some pi) (kpi : sK S pi = 11) (npi : sL S pi = 8) (r2 : sR S h 2 = some be) (kbe : sK S be = 11) (nbe : sL S be = 225) (r3 : sR S h 3 = some ro) (kro : sK S ro = 11) (nro : sL S ro = 8) (i5 : sI S h 5 = nI n) (hn8 : n ≤ 8) (i8 : sI S h 8 = wk) (hw : wk.toInt ≤ 3) : MV l yX3_keepRow wsX3_keepRow ({ frames := 4, cells := 0, slots := 0, locals := 108 } : Room) 0 0 D cy A [.ref h] S (fun S1 => Md [h, ro] S S1) := by
  refine mt_start (cc := cX3_keepRow) (maxL := 4) (ret := none) (by decide) rfl (Nat.le_of_ble_eq_true rfl) ?_
  intro p e s m args below meth c hx hb hr hlk hml hown hnm hts hK hZ hA hW hS ls hl
  have hl : lv_has ls 4 [(0, .ref h)] := hl
  have hown : s.vm.findClass RX3 = some m.cls := hown
  have F : CallFix p m c cX3_keepRow 4 s args wsX3_keepRow RX3 := ⟨hx, hb, hml, hown, hts⟩
  have wi3 : ∀ w ∈ u_ws RX3 TX3 9, w ∈ wsX3_keepRow := by decide +kernel
  have hnn : (nI n).toInt = (n : Int) := nI_toInt (by omega)
  refine lv_aload_n hx hb dX3_keepRow_0 rfl (lv_at hl 0 rfl) ?_
  refine lv_aload_n hx hb dX3_keepRow_1 rfl (lv_at hl 0 rfl) ?_
  refine pg_gi (ci := 3) (C := RX3) (T := TX3) (N := 9) hx hb hts wi3 hown hK hW hk (by decide) rfl 5 (by decide) (hts (.fieldLink RX3 28 "IceHall$Planner" "size" "I") (by decide +kernel)) (fun _ h9 => h9) rfl dX3_keepRow_2 ?_
  rw [show sI S h 5 = nI n from i5]
  refine pg_pi (ci := 3) (C := RX3) (T := TX3) (N := 9) hx hb hts wi3 tyX3 tyX3_ok nmX3 hown hK hW hS hk (by decide) rfl 4 (by decide) (hts (.fieldLink RX3 24 "IceHall$Planner" "rowSize" "I") (by decide +kernel)) (fun _ h9 => h9) rfl rfl rfl dX3_keepRow_5 (fun H locs hW hS => ?_)
  have w1 : sI (stI S h 4 (nI n)) h 5 = nI n := (iI_k (by decide)).trans i5
  have w2 : sI (stI S h 4 (nI n)) h 8 = wk := (iI_k (by decide)).trans i8
  have w3 : sI (stI S h 4 (nI n)) h 4 = nI n := iI_s
  clear i5 i8
  refine lv_iconst (v := 0) hx hb dX3_keepRow_8 (by decide) ?_
  refine lv_istore_n (lv' := [(1, .int 0), (0, .ref h)]) hx hb dX3_keepRow_9 rfl hl (by decide) rfl (fun ls hl => ?_)
  refine lv_iconst (v := 0) hx hb dX3_keepRow_10 (by decide) ?_
  refine lv_istore_n (lv' := [(2, .int 0), (1, .int 0), (0, .ref h)]) hx hb dX3_keepRow_11 rfl hl (by decide) rfl (fun ls hl => ?_)
  have loop4 : ∀ (zn : Nat) (z : Int32) (y : Nat) (T12 : St) (H : Heap) (locs : List Loc) (ls : Array Slot), (Md [h, ro] (stI S h 4 (nI n)) T12) → (y ≤ n) → (sI T12 h 5 = nI n) → (sI T12 h 8 = wk) → n - y < zn → PW D cy A T12 H → va_S A s.heap H locs → lv_has ls 4 [(0, .ref h), (1, .int z), (2, .int (nI y))] → W p l e ({ frames := 4, cells := 0, slots := 0, locals := 108 } : Room) s m args below meth c H locs 0 0 (MQ below (va_Qv (fun S1 => Md [h, ro] S S1) (PU D cy A) A) args s 0 0 A) (F0 m 12 ls []) := by
    intro zn
    induction zn with
    | zero => intros; exact absurd (by assumption) (Nat.not_lt_zero _)
    | succ zn ih =>
      intro z y T12 H locs ls hmd12 hy hs5 hs8 hme hW hS hl
      have f5 : sK T12 h = 3 := by rw [hmd12.1]; exact hk
      have f6 : sK T12 wa = 11 := by rw [hmd12.1]; exact kwa
      have f7 : sK T12 pi = 11 := by rw [hmd12.1]; exact kpi
      have f8 : sK T12 be = 11 := by rw [hmd12.1]; exact kbe
      have f9 : sK T12 ro = 11 := by rw [hmd12.1]; exact kro
      have f10 : sL T12 wa = 9 := by rw [hmd12.2.2.1]; exact nwa
      have f11 : sL T12 pi = 8 := by rw [hmd12.2.2.1]; exact npi
      have f12 : sL T12 be = 225 := by rw [hmd12.2.2.1]; exact nbe
      have f13 : sL T12 ro = 8 := by rw [hmd12.2.2.1]; exact nro
      have f14 : sR T12 h 0 = some wa := by rw [hmd12.2.1]; exact r0
      have f15 : sR T12 h 1 = some pi := by rw [hmd12.2.1]; exact r1
      have f16 : sR T12 h 2 = some be := by rw [hmd12.2.1]; exact r2
      have f17 : sR T12 h 3 = some ro := by rw [hmd12.2.1]; exact r3
      have hni : (nI y).toInt = (y : Int) := nI_toInt (by omega)
      refine lv_iload_n hx hb dX3_keepRow_12 rfl (lv_at hl 2 rfl) ?_
      refine lv_aload_n hx hb dX3_keepRow_13 rfl (lv_at hl 0 rfl) ?_
      refine pg_gi (ci := 3) (C := RX3) (T := TX3) (N := 9) hx hb hts wi3 hown hK hW f5 (by decide) rfl 5 (by decide) (hts (.fieldLink RX3 28 "IceHall$Planner" "size" "I") (by decide +kernel)) (fun _ h9 => h9) rfl dX3_keepRow_14 ?_
      rw [show sI T12 h 5 = nI n from hs5]
      refine lv_icmp_ge (tgt := 44) hx hb dX3_keepRow_17 (by decide) (fun c18 => ?_) (fun c18 => ?_)
      · have c18i : Int32.toInt (nI n) ≤ Int32.toInt (nI y) := (i3_le _ _).mp c18
        exact pc_vret (S := T12) hx hb hr hlk hK hZ hA hW hS (((Md.rf [h, ro] S).I List.mem_cons_self).tr hmd12) dX3_keepRow_44
      · have c18i : ¬ (Int32.toInt (nI n) ≤ Int32.toInt (nI y)) := fun h9 => c18 ((i3_le _ _).mpr h9)
        refine lv_aload_n hx hb dX3_keepRow_20 rfl (lv_at hl 0 rfl) ?_
        refine lv_iload_n hx hb dX3_keepRow_21 rfl (lv_at hl 2 rfl) ?_
        refine lv_iload_n hx hb dX3_keepRow_22 rfl (lv_at hl 1 rfl) ?_
        refine pc_Vi (As := [.int (nI y), .int z]) (rest := []) F (c_X3_leastOn_s l D cy A T12 h wa pi be ro (nI y) z wk f5 f14 f6 f10 f15 f7 f11 f16 f8 f12 f17 f9 f13 hs8 (by omega) (by omega) (by omega)) (cwV 2 hts gX3_keepRow_X3_leastOn rfl rfl rfl (by decide +kernel) ⟨Nat.le_of_ble_eq_true rfl, Nat.le_of_ble_eq_true rfl⟩) hK hZ hA hW hS f5 (by decide) rfl rfl hl.1 rfl (Nat.le_of_ble_eq_true rfl) dX3_keepRow_23 ⟨Nat.le_of_ble_eq_true rfl, Nat.le_of_ble_eq_true rfl⟩ (fun v19 T20 H locs p21 hW hS => ?_)
        obtain ⟨eT20, p21⟩ := p21
        rw [eT20] at hW
        refine lv_istore_n (lv' := [(3, .int v19), (0, .ref h), (1, .int z), (2, .int (nI y))]) hx hb dX3_keepRow_26 rfl hl (by decide) rfl (fun ls hl => ?_)
        refine lv_aload_n hx hb dX3_keepRow_27 rfl (lv_at hl 1 rfl) ?_
        refine pg_gr (b := ro) (ci := 3) (C := RX3) (T := TX3) (N := 9) hx hb hts wi3 hown hK hW f5 (by decide) rfl 3 (by decide) (hts (.fieldLink RX3 21 "IceHall$Planner" "row" "[I") (by decide +kernel)) (fun _ h9 => h9) rfl f17 dX3_keepRow_28 ?_
        refine lv_iload_n hx hb dX3_keepRow_31 rfl (lv_at hl 3 rfl) ?_
        refine lv_iload_n hx hb dX3_keepRow_32 rfl (lv_at hl 0 rfl) ?_
        refine pg_iast hx hb hK hW hS f9 (by rw [show sL T12 ro = 8 from f13]; exact r_in (by omega)) dX3_keepRow_33 (fun H locs hW hS => ?_)
        have w22 : sI (stI T12 ro (Int32.toNatClampNeg (nI y)) v19) h 5 = nI n := (iI_a (fk_ne f5 f9 (by decide))).trans hs5
        have w23 : sI (stI T12 ro (Int32.toNatClampNeg (nI y)) v19) h 8 = wk := (iI_a (fk_ne f5 f9 (by decide))).trans hs8
        clear hs5 hs8
        refine lv_iload_n hx hb dX3_keepRow_34 rfl (lv_at hl 2 rfl) ?_
        refine lv_iload_n hx hb dX3_keepRow_35 rfl (lv_at hl 0 rfl) ?_
        refine lv_iadd hx hb dX3_keepRow_36 ?_
        refine lv_istore_n (lv' := [(1, .int (z + v19)), (3, .int v19), (0, .ref h), (2, .int (nI y))]) hx hb dX3_keepRow_37 rfl hl (by decide) rfl (fun ls hl => ?_)
        refine lv_iinc (v := nI y + 1) (lv' := [(2, .int (nI y + 1)), (1, .int (z + v19)), (3, .int v19), (0, .ref h)]) hx hb dX3_keepRow_38 hl (k := 3) rfl rfl (by decide) rfl (fun ls hl => ?_)
        refine lv_goto (tgt := 12) hx hb dX3_keepRow_41 (by decide) ?_
        exact ih (z + v19) (y + 1) (stI T12 ro (Int32.toNatClampNeg (nI y)) v19) H locs ls (hmd12.I (List.mem_cons_of_mem _ List.mem_cons_self)) (by omega) (w22) (w23) (by omega) hW hS (lv_cast (lv_sub hl [3, 1, 0] rfl) (by rw [nI_1]; rfl))
  exact loop4 _ 0 0 (stI S h 4 (nI n)) _ _ ls (Md.rf _ _) (Nat.zero_le _) (w1) (w2) (Nat.lt_succ_self _) hW hS (lv_cast (lv_sub hl [2, 1, 0] rfl) (rfl))
set_option maxHeartbeats 4000000 in
set_option maxRecDepth 100000 in
theorem c_X3_weightWith (l : Launch) (D : va_G) (cy : Nat → ClassId) (A : Nat → Prop) (S : St) (h wa pi be ro : Nat) (n w i u k : Nat) (hk : sK S h = 3) (r0 : sR S h 0 = some wa) (kwa : sK S wa = 11) (nwa : sL S wa = 9) (r1 : sR S h 1 = some pi) (kpi : sK S pi = 11) (npi : sL S pi = 8) (r2 : sR S h 2 = some be) (kbe : sK S be = 11) (nbe : sL S be = 225) (r3 : sR S h 3 = some ro) (kro : sK S ro = 11) (nro : sL S ro = 8) (i6 : sI S h 6 = 200) (i7 : sI S h 7 = 400) (i8 : sI S h 8 = 3) (hn8 : n ≤ 8) (hi : i < n) (hu : u ≤ 3 * i) (hw40 : w ≤ 40) (hk3 : k ≤ 3) (hwa : ∀ j, j ≤ n → sI S wa j = nI (w * j)) (hpi : ∀ j, j < n → sI S pi j = 10) (hbe : ∀ v, v ≤ 3 * (i + 1) → sI S be ((i + 1) * 25 + v) = SWv (Mn w (n - (i + 1)) (i + 1) v)) : MI l yX3_weightWith wsX3_weightWith ({ frames := 1, cells := 0, slots := 0, locals := 21 } : Room) 0 0 D cy A [.ref h, .int (nI i), .int (nI u), .int (nI k)] S (fun r S1 => S1 = S ∧ r = SWv (stp (okp w i (u + k)) (Mn w (n - (i + 1)) (i + 1) (u + k)) k)) := by
  refine mt_start (cc := cX3_weightWith) (maxL := 6) (ret := (some .int)) (by decide) rfl (Nat.le_of_ble_eq_true rfl) ?_
  intro p e s m args below meth c hx hb hr hlk hml hown hnm hts hK hZ hA hW hS ls hl
  have hl : lv_has ls 6 [(0, .ref h), (1, .int (nI i)), (2, .int (nI u)), (3, .int (nI k))] := hl
  have hown : s.vm.findClass RX3 = some m.cls := hown
  have F : CallFix p m c cX3_weightWith 6 s args wsX3_weightWith RX3 := ⟨hx, hb, hml, hown, hts⟩
  have wi3 : ∀ w ∈ u_ws RX3 TX3 9, w ∈ wsX3_weightWith := by decide +kernel
  have hwi : w * i ≤ 40 * 8 := Nat.mul_le_mul (by omega) (by omega)
  have hws : w * (i + 1) = w * i + w := Nat.mul_succ w i
  have hsm : Mn w (n - (i + 1)) (i + 1) (u + k) < INFp → Mn w (n - (i + 1)) (i + 1) (u + k) ≤ 24 := fun h9 => by have := Mn_bd w _ _ _ h9; omega
  have hsm2 : Sm (Mn w (n - (i + 1)) (i + 1) (u + k)) := fun h9 => by have := hsm h9; omega
  have hnx : (nI ((i + 1) * 25 + u + k)).toInt = ((i + 1) * 25 + u + k : Nat) := nI_toInt (by omega)
  have hbv : sI S be ((i + 1) * 25 + u + k) = SWv (Mn w (n - (i + 1)) (i + 1) (u + k)) := by rw [Nat.add_assoc]; exact hbe (u + k) (by omega)
  refine lv_aload_n hx hb dX3_weightWith_0 rfl (lv_at hl 0 rfl) ?_
  refine pg_gi (ci := 3) (C := RX3) (T := TX3) (N := 9) hx hb hts wi3 hown hK hW hk (by decide) rfl 6 (by decide) (hts (.fieldLink RX3 35 "IceHall$Planner" "store" "I") (by decide +kernel)) (fun _ h9 => h9) rfl dX3_weightWith_1 ?_
  rw [show sI S h 6 = 200 from i6]
  refine lv_bipush (v := 20) hx hb dX3_weightWith_4 (by decide) ?_
  refine lv_iload_n hx hb dX3_weightWith_6 rfl (lv_at hl 2 rfl) ?_
  refine lv_iload_n hx hb dX3_weightWith_7 rfl (lv_at hl 3 rfl) ?_
  refine lv_iadd hx hb dX3_weightWith_8 ?_
  rw [show ((nI u) + (nI k) : Int32) = nI (u + k) from nI_add u k]
  refine lv_imul hx hb dX3_weightWith_9 ?_
  rw [show (20 * (nI (u + k)) : Int32) = nI (20 * (u + k)) from pk_mul 20 (u + k)]
  refine lv_iadd hx hb dX3_weightWith_10 ?_
  rw [show (200 + (nI (20 * (u + k))) : Int32) = nI (200 + 20 * (u + k)) from nI_add 200 (20 * (u + k))]
  refine lv_istore (lv' := [(4, .int (nI (200 + 20 * (u + k)))), (0, .ref h), (1, .int (nI i)), (2, .int (nI u)), (3, .int (nI k))]) hx hb dX3_weightWith_11 hl (by decide) rfl (fun ls hl => ?_)
  refine lv_iload_n hx hb dX3_weightWith_13 rfl (lv_at hl 2 rfl) ?_
  refine lv_iconst (v := 1) hx hb dX3_weightWith_14 (by decide) ?_
  refine lv_iadd hx hb dX3_weightWith_15 ?_
  rw [show (nI i) + 1 = nI (i + 1) from nI_add _ _]
  refine lv_bipush (v := 25) hx hb dX3_weightWith_16 (by decide) ?_
  refine lv_imul hx hb dX3_weightWith_18 ?_
  rw [show ((nI (i + 1)) * 25 : Int32) = nI ((i + 1) * 25) from pk_mul (i + 1) 25]
  refine lv_iload_n hx hb dX3_weightWith_19 rfl (lv_at hl 3 rfl) ?_
  refine lv_iadd hx hb dX3_weightWith_20 ?_
  rw [show ((nI ((i + 1) * 25)) + (nI u) : Int32) = nI ((i + 1) * 25 + u) from nI_add ((i + 1) * 25) u]
  refine lv_iload_n hx hb dX3_weightWith_21 rfl (lv_at hl 4 rfl) ?_
  refine lv_iadd hx hb dX3_weightWith_22 ?_
  rw [show ((nI ((i + 1) * 25 + u)) + (nI k) : Int32) = nI ((i + 1) * 25 + u + k) from nI_add ((i + 1) * 25 + u) k]
  refine lv_istore (lv' := [(5, .int (nI ((i + 1) * 25 + u + k))), (4, .int (nI (200 + 20 * (u + k)))), (0, .ref h), (1, .int (nI i)), (2, .int (nI u)), (3, .int (nI k))]) hx hb dX3_weightWith_23 hl (by decide) rfl (fun ls hl => ?_)
  refine lv_iload hx hb dX3_weightWith_25 (lv_at hl 1 rfl) ?_
  refine lv_aload_n hx hb dX3_weightWith_27 rfl (lv_at hl 2 rfl) ?_
  refine pg_gr (b := wa) (ci := 3) (C := RX3) (T := TX3) (N := 9) hx hb hts wi3 hown hK hW hk (by decide) rfl 0 (by decide) (hts (.fieldLink RX3 9 "IceHall$Planner" "wantedAhead" "[I") (by decide +kernel)) (fun _ h9 => h9) rfl r0 dX3_weightWith_28 ?_
  refine lv_iload_n hx hb dX3_weightWith_31 rfl (lv_at hl 3 rfl) ?_
  refine pg_iald hx hb hK hW kwa (by rw [nwa]; exact vp_in_nI (by omega) (by decide)) dX3_weightWith_32 ?_
  rw [show sI S wa (Int32.toNatClampNeg (nI i)) = nI (w * i) from by rw [nI_clamp (by omega)]; exact hwa i (by omega)]
  refine lv_isub hx hb dX3_weightWith_33 ?_
  have e33 : (nI (200 + 20 * (u + k)) - nI (w * i)).toInt = ((200 + 20 * (u + k) : Nat) : Int) - (w * i : Nat) := pk_sub_toInt (by omega) (by omega)
  refine lv_aload_n hx hb dX3_weightWith_34 rfl (lv_at hl 2 rfl) ?_
  refine pg_gi (ci := 3) (C := RX3) (T := TX3) (N := 9) hx hb hts wi3 hown hK hW hk (by decide) rfl 7 (by decide) (hts (.fieldLink RX3 38 "IceHall$Planner" "storeMost" "I") (by decide +kernel)) (fun _ h9 => h9) rfl dX3_weightWith_35 ?_
  rw [show sI S h 7 = 400 from i7]
  refine lv_icmp_gt (tgt := 55) hx hb dX3_weightWith_38 (by decide) (fun c1 => ?_) (fun c1 => ?_)
  · have c1i : (400 : Int) < Int32.toInt ((nI (200 + 20 * (u + k))) - (nI (w * i))) := (i3_lt _ _).mp c1
    refine lv_ldc (v := (1000000000)) hx hb hown (hts (.constant RX3 48 (1000000000)) (by decide +kernel)) dX3_weightWith_55 ?_
    exact pc_iret (v := (1000000000)) (S := S) hx hb hr hlk hK hZ hA hW hS (⟨rfl, (stp_no (fun h9 => by have h8 := okp_iff.mp h9.1; omega)).symm⟩) dX3_weightWith_57
  · have c1i : ¬ ((400 : Int) < Int32.toInt ((nI (200 + 20 * (u + k))) - (nI (w * i)))) := fun h9 => c1 ((i3_lt _ _).mpr h9)
    refine lv_iload hx hb dX3_weightWith_41 (lv_at hl 1 rfl) ?_
    refine lv_aload_n hx hb dX3_weightWith_43 rfl (lv_at hl 2 rfl) ?_
    refine pg_gr (b := wa) (ci := 3) (C := RX3) (T := TX3) (N := 9) hx hb hts wi3 hown hK hW hk (by decide) rfl 0 (by decide) (hts (.fieldLink RX3 9 "IceHall$Planner" "wantedAhead" "[I") (by decide +kernel)) (fun _ h9 => h9) rfl r0 dX3_weightWith_44 ?_
    refine lv_iload_n hx hb dX3_weightWith_47 rfl (lv_at hl 3 rfl) ?_
    refine lv_iconst (v := 1) hx hb dX3_weightWith_48 (by decide) ?_
    refine lv_iadd hx hb dX3_weightWith_49 ?_
    rw [show (nI i) + 1 = nI (i + 1) from nI_add _ _]
    refine pg_iald hx hb hK hW kwa (by rw [nwa]; exact vp_in_nI (by omega) (by decide)) dX3_weightWith_50 ?_
    rw [show sI S wa (Int32.toNatClampNeg (nI (i + 1))) = nI (w * (i + 1)) from by rw [nI_clamp (by omega)]; exact hwa (i + 1) (by omega)]
    refine lv_isub hx hb dX3_weightWith_51 ?_
    have e51 : (nI (200 + 20 * (u + k)) - nI (w * (i + 1))).toInt = ((200 + 20 * (u + k) : Nat) : Int) - (w * (i + 1) : Nat) := pk_sub_toInt (by omega) (by omega)
    refine lv_if_ge (tgt := 58) hx hb dX3_weightWith_52 (by decide) (fun c2 => ?_) (fun c2 => ?_)
    · have c2i : (0 : Int) ≤ Int32.toInt ((nI (200 + 20 * (u + k))) - (nI (w * (i + 1)))) := (i3_le _ _).mp c2
      refine lv_iload hx hb dX3_weightWith_58 (lv_at hl 0 rfl) ?_
      refine lv_aload_n hx hb dX3_weightWith_60 rfl (lv_at hl 2 rfl) ?_
      refine pg_gr (b := be) (ci := 3) (C := RX3) (T := TX3) (N := 9) hx hb hts wi3 hown hK hW hk (by decide) rfl 2 (by decide) (hts (.fieldLink RX3 18 "IceHall$Planner" "best" "[I") (by decide +kernel)) (fun _ h9 => h9) rfl r2 dX3_weightWith_61 ?_
      refine pg_alen hx hb hK hW kbe dX3_weightWith_64 ?_
      rw [show nI (sL S be) = 225 from by rw [show sL S be = 225 from nbe]; rfl]
      refine pc_Ni (As := [.int (nI ((i + 1) * 25 + u + k)), .int 225]) (rest := []) F (c_X8_isBelow l D cy A S (nI ((i + 1) * 25 + u + k)) 225 ) ⟨va_cnB 2 hts gX3_weightWith_X8_isBelow_n31 rfl rfl rfl hZ.2.2.2.2.2.2.2.2.2.2.1 (hts (.initialized RX8) (by decide +kernel)) (by decide +kernel) ⟨Nat.le_of_ble_eq_true rfl, Nat.le_of_ble_eq_true rfl⟩, hts (.static yX8_isBelow) (by decide +kernel), trivial⟩ hK hZ hA hW hS rfl hl.1 rfl (Nat.le_of_ble_eq_true rfl) dX3_weightWith_65 ⟨Nat.le_of_ble_eq_true rfl, Nat.le_of_ble_eq_true rfl⟩ (fun v3 T4 H locs p5 hW hS => ?_)
      obtain ⟨eT4, p5⟩ := p5
      rw [eT4] at hW
      have p5 := isb_lit (n := 225) rfl p5
      refine lv_if_eq (tgt := 83) hx hb dX3_weightWith_68 (by decide) (fun c6 => absurd c6 (by intro h9; rw [h9] at p5; rcases p5 with p5 | p5; exact absurd p5.1 (by decide); exact p5.2 (by omega))) (fun c6 => ?_)
      refine lv_aload_n hx hb dX3_weightWith_71 rfl (lv_at hl 2 rfl) ?_
      refine pg_gr (b := be) (ci := 3) (C := RX3) (T := TX3) (N := 9) hx hb hts wi3 hown hK hW hk (by decide) rfl 2 (by decide) (hts (.fieldLink RX3 18 "IceHall$Planner" "best" "[I") (by decide +kernel)) (fun _ h9 => h9) rfl r2 dX3_weightWith_72 ?_
      refine lv_iload hx hb dX3_weightWith_75 (lv_at hl 0 rfl) ?_
      refine pg_iald hx hb hK hW kbe (by rw [nbe]; exact vp_in_nI (by omega) (by decide)) dX3_weightWith_77 ?_
      rw [show sI S be (Int32.toNatClampNeg (nI ((i + 1) * 25 + u + k))) = SWv (Mn w (n - (i + 1)) (i + 1) (u + k)) from by rw [nI_clamp (by omega)]; exact hbv]
      refine lv_ldc (v := (1000000000)) hx hb hown (hts (.constant RX3 48 (1000000000)) (by decide +kernel)) dX3_weightWith_78 ?_
      refine lv_icmp_lt (tgt := 86) hx hb dX3_weightWith_80 (by decide) (fun c7 => ?_) (fun c7 => ?_)
      · have c7i : Int32.toInt (SWv (Mn w (n - (i + 1)) (i + 1) (u + k))) < (1000000000 : Int) := (i3_lt _ _).mp c7
        refine lv_aload_n hx hb dX3_weightWith_86 rfl (lv_at hl 2 rfl) ?_
        refine pg_gr (b := be) (ci := 3) (C := RX3) (T := TX3) (N := 9) hx hb hts wi3 hown hK hW hk (by decide) rfl 2 (by decide) (hts (.fieldLink RX3 18 "IceHall$Planner" "best" "[I") (by decide +kernel)) (fun _ h9 => h9) rfl r2 dX3_weightWith_87 ?_
        refine lv_iload hx hb dX3_weightWith_90 (lv_at hl 0 rfl) ?_
        refine pg_iald hx hb hK hW kbe (by rw [nbe]; exact vp_in_nI (by omega) (by decide)) dX3_weightWith_92 ?_
        rw [show sI S be (Int32.toNatClampNeg (nI ((i + 1) * 25 + u + k))) = SWv (Mn w (n - (i + 1)) (i + 1) (u + k)) from by rw [nI_clamp (by omega)]; exact hbv]
        refine lv_iload_n hx hb dX3_weightWith_93 rfl (lv_at hl 5 rfl) ?_
        refine lv_aload_n hx hb dX3_weightWith_94 rfl (lv_at hl 2 rfl) ?_
        refine pg_gr (b := pi) (ci := 3) (C := RX3) (T := TX3) (N := 9) hx hb hts wi3 hown hK hW hk (by decide) rfl 1 (by decide) (hts (.fieldLink RX3 15 "IceHall$Planner" "priceIn" "[I") (by decide +kernel)) (fun _ h9 => h9) rfl r1 dX3_weightWith_95 ?_
        refine lv_iload_n hx hb dX3_weightWith_98 rfl (lv_at hl 3 rfl) ?_
        refine pg_iald hx hb hK hW kpi (by rw [npi]; exact vp_in_nI (by omega) (by decide)) dX3_weightWith_99 ?_
        rw [show sI S pi (Int32.toNatClampNeg (nI i)) = 10 from by rw [nI_clamp (by omega)]; exact hpi i (by omega)]
        refine lv_bipush (v := 100) hx hb dX3_weightWith_100 (by decide) ?_
        refine lv_imul hx hb dX3_weightWith_102 ?_
        rw [show (10 * 100 : Int32) = 1000 from by decide]
        refine lv_iconst (v := 1) hx hb dX3_weightWith_103 (by decide) ?_
        refine lv_iadd hx hb dX3_weightWith_104 ?_
        rw [show (1000 + 1 : Int32) = 1001 from by decide]
        refine lv_imul hx hb dX3_weightWith_105 ?_
        rw [show ((nI k) * 1001 : Int32) = nI (k * 1001) from pk_mul k 1001]
        refine lv_iadd hx hb dX3_weightWith_106 ?_
        exact pc_iret (v := (SWv (Mn w (n - (i + 1)) (i + 1) (u + k))) + (nI (k * 1001))) (S := S) hx hb hr hlk hK hZ hA hW hS (⟨rfl, stp_yes (okp_iff.mpr ⟨by omega, by omega⟩) ((SW_lt hsm2).mp c7) hsm2 hk3⟩) dX3_weightWith_107
      · have c7i : ¬ (Int32.toInt (SWv (Mn w (n - (i + 1)) (i + 1) (u + k))) < (1000000000 : Int)) := fun h9 => c7 ((i3_lt _ _).mpr h9)
        refine lv_ldc (v := (1000000000)) hx hb hown (hts (.constant RX3 48 (1000000000)) (by decide +kernel)) dX3_weightWith_83 ?_
        exact pc_iret (v := (1000000000)) (S := S) hx hb hr hlk hK hZ hA hW hS (⟨rfl, (stp_no (fun h9 => c7 ((SW_lt hsm2).mpr h9.2))).symm⟩) dX3_weightWith_85
    · have c2i : ¬ ((0 : Int) ≤ Int32.toInt ((nI (200 + 20 * (u + k))) - (nI (w * (i + 1))))) := fun h9 => c2 ((i3_le _ _).mpr h9)
      refine lv_ldc (v := (1000000000)) hx hb hown (hts (.constant RX3 48 (1000000000)) (by decide +kernel)) dX3_weightWith_55 ?_
      exact pc_iret (v := (1000000000)) (S := S) hx hb hr hlk hK hZ hA hW hS (⟨rfl, (stp_no (fun h9 => by have h8 := okp_iff.mp h9.1; omega)).symm⟩) dX3_weightWith_57
set_option maxHeartbeats 4000000 in
set_option maxRecDepth 100000 in
theorem c_X3_leastOver (l : Launch) (D : va_G) (cy : Nat → ClassId) (A : Nat → Prop) (S : St) (h wa pi be ro : Nat) (n w i u : Nat) (hk : sK S h = 3) (r0 : sR S h 0 = some wa) (kwa : sK S wa = 11) (nwa : sL S wa = 9) (r1 : sR S h 1 = some pi) (kpi : sK S pi = 11) (npi : sL S pi = 8) (r2 : sR S h 2 = some be) (kbe : sK S be = 11) (nbe : sL S be = 225) (r3 : sR S h 3 = some ro) (kro : sK S ro = 11) (nro : sL S ro = 8) (i6 : sI S h 6 = 200) (i7 : sI S h 7 = 400) (i8 : sI S h 8 = 3) (hn8 : n ≤ 8) (hi : i < n) (hu : u ≤ 3 * i) (hw40 : w ≤ 40) (hwa : ∀ j, j ≤ n → sI S wa j = nI (w * j)) (hpi : ∀ j, j < n → sI S pi j = 10) (hbe : ∀ v, v ≤ 3 * (i + 1) → sI S be ((i + 1) * 25 + v) = SWv (Mn w (n - (i + 1)) (i + 1) v)) : MI l yX3_leastOver wsX3_leastOver ({ frames := 2, cells := 0, slots := 0, locals := 60 } : Room) 0 0 D cy A [.ref h, .int (nI i), .int (nI u)] S (fun r S1 => S1 = S ∧ r = SWv (Mn w (n - i) i u)) := by
  refine mt_start (cc := cX3_leastOver) (maxL := 5) (ret := (some .int)) (by decide) rfl (Nat.le_of_ble_eq_true rfl) ?_
  intro p e s m args below meth c hx hb hr hlk hml hown hnm hts hK hZ hA hW hS ls hl
  have hl : lv_has ls 5 [(0, .ref h), (1, .int (nI i)), (2, .int (nI u))] := hl
  have hown : s.vm.findClass RX3 = some m.cls := hown
  have F : CallFix p m c cX3_leastOver 5 s args wsX3_leastOver RX3 := ⟨hx, hb, hml, hown, hts⟩
  have wi3 : ∀ w ∈ u_ws RX3 TX3 9, w ∈ wsX3_leastOver := by decide +kernel
  have hs0 : Sm (stp (okp w i (u + 0)) (Mn w (n - (i + 1)) (i + 1) (u + 0)) 0) := Sm_stp (fun h9 => by have := Mn_bd w _ _ _ h9; omega) (by decide)
  have hs1 : Sm (stp (okp w i (u + 1)) (Mn w (n - (i + 1)) (i + 1) (u + 1)) 1) := Sm_stp (fun h9 => by have := Mn_bd w _ _ _ h9; omega) (by decide)
  have hs2 : Sm (stp (okp w i (u + 2)) (Mn w (n - (i + 1)) (i + 1) (u + 2)) 2) := Sm_stp (fun h9 => by have := Mn_bd w _ _ _ h9; omega) (by decide)
  have hs3 : Sm (stp (okp w i (u + 3)) (Mn w (n - (i + 1)) (i + 1) (u + 3)) 3) := Sm_stp (fun h9 => by have := Mn_bd w _ _ _ h9; omega) (by decide)
  refine lv_ldc (v := (1000000000)) hx hb hown (hts (.constant RX3 48 (1000000000)) (by decide +kernel)) dX3_leastOver_0 ?_
  refine lv_istore_n (lv' := [(3, .int ((1000000000))), (0, .ref h), (1, .int (nI i)), (2, .int (nI u))]) hx hb dX3_leastOver_2 rfl hl (by decide) rfl (fun ls hl => ?_)
  refine lv_iconst (v := 0) hx hb dX3_leastOver_3 (by decide) ?_
  refine lv_istore (lv' := [(4, .int 0), (3, .int ((1000000000))), (0, .ref h), (1, .int (nI i)), (2, .int (nI u))]) hx hb dX3_leastOver_4 hl (by decide) rfl (fun ls hl => ?_)
  refine lv_iload hx hb dX3_leastOver_6 (lv_at hl 0 rfl) ?_
  refine lv_aload_n hx hb dX3_leastOver_8 rfl (lv_at hl 2 rfl) ?_
  refine pg_gi (ci := 3) (C := RX3) (T := TX3) (N := 9) hx hb hts wi3 hown hK hW hk (by decide) rfl 8 (by decide) (hts (.fieldLink RX3 41 "IceHall$Planner" "working" "I") (by decide +kernel)) (fun _ h9 => h9) rfl dX3_leastOver_9 ?_
  rw [show sI S h 8 = 3 from i8]
  refine lv_icmp_gt (tgt := 34) hx hb dX3_leastOver_12 (by decide) (fun c1 => absurd c1 (by decide)) (fun c1 => ?_)
  refine lv_iload_n hx hb dX3_leastOver_15 rfl (lv_at hl 1 rfl) ?_
  refine lv_aload_n hx hb dX3_leastOver_16 rfl (lv_at hl 2 rfl) ?_
  refine lv_iload_n hx hb dX3_leastOver_17 rfl (lv_at hl 3 rfl) ?_
  refine lv_iload_n hx hb dX3_leastOver_18 rfl (lv_at hl 4 rfl) ?_
  refine lv_iload hx hb dX3_leastOver_19 (lv_at hl 0 rfl) ?_
  refine pc_Vi (As := [.int (nI i), .int (nI u), .int 0]) (rest := [.int ((1000000000))]) F (c_X3_weightWith l D cy A S h wa pi be ro n w i u 0 hk r0 kwa nwa r1 kpi npi r2 kbe nbe r3 kro nro i6 i7 i8 (by omega) (by omega) (by omega) (by omega) (by omega) (hwa) (hpi) (hbe)) (cwV 3 hts gX3_leastOver_X3_weightWith rfl rfl rfl (by decide +kernel) ⟨Nat.le_of_ble_eq_true rfl, Nat.le_of_ble_eq_true rfl⟩) hK hZ hA hW hS hk (by decide) rfl rfl hl.1 rfl (Nat.le_of_ble_eq_true rfl) dX3_leastOver_21 ⟨Nat.le_of_ble_eq_true rfl, Nat.le_of_ble_eq_true rfl⟩ (fun v2 T3 H locs p4 hW hS => ?_)
  obtain ⟨eT3, p4⟩ := p4
  rw [eT3] at hW
  rw [show v2 = SWv (stp (okp w i (u + 0)) (Mn w (n - (i + 1)) (i + 1) (u + 0)) 0) from p4]
  refine va_mmin hx hb (by rw [hml]; exact hl.1.symm) hown (hts (.methodLink RX3 56 Lib.Math.min.name) (by decide +kernel)) (hts (.static Lib.Math.min.name) (by decide +kernel)) (hts (.initialized "java/lang/Math") (by decide +kernel)) (hts (.code Lib.Math.min.name Lib.Math.min.code 2 (some .int)) (by decide +kernel)) (Nat.le_of_ble_eq_true rfl) (Nat.le_of_ble_eq_true rfl) (Nat.le_of_ble_eq_true rfl) (Nat.le_of_ble_eq_true rfl) dX3_leastOver_24 ?_
  rw [show (if (SWv (stp (okp w i (u + 0)) (Mn w (n - (i + 1)) (i + 1) (u + 0)) 0)) < ((1000000000)) then SWv (stp (okp w i (u + 0)) (Mn w (n - (i + 1)) (i + 1) (u + 0)) 0) else (1000000000)) = SWv (stp (okp w i (u + 0)) (Mn w (n - (i + 1)) (i + 1) (u + 0)) 0) from SW_min0 hs0]
  refine lv_istore_n (lv' := [(3, .int (SWv (stp (okp w i (u + 0)) (Mn w (n - (i + 1)) (i + 1) (u + 0)) 0))), (4, .int 0), (0, .ref h), (1, .int (nI i)), (2, .int (nI u))]) hx hb dX3_leastOver_27 rfl hl (by decide) rfl (fun ls hl => ?_)
  refine lv_iinc (v := 1) (lv' := [(4, .int 1), (3, .int (SWv (stp (okp w i (u + 0)) (Mn w (n - (i + 1)) (i + 1) (u + 0)) 0))), (0, .ref h), (1, .int (nI i)), (2, .int (nI u))]) hx hb dX3_leastOver_28 hl (k := 1) rfl (by decide) (by decide) rfl (fun ls hl => ?_)
  refine lv_goto (tgt := 6) hx hb dX3_leastOver_31 (by decide) ?_
  refine lv_iload hx hb dX3_leastOver_6 (lv_at hl 0 rfl) ?_
  refine lv_aload_n hx hb dX3_leastOver_8 rfl (lv_at hl 2 rfl) ?_
  refine pg_gi (ci := 3) (C := RX3) (T := TX3) (N := 9) hx hb hts wi3 hown hK hW hk (by decide) rfl 8 (by decide) (hts (.fieldLink RX3 41 "IceHall$Planner" "working" "I") (by decide +kernel)) (fun _ h9 => h9) rfl dX3_leastOver_9 ?_
  rw [show sI S h 8 = 3 from i8]
  refine lv_icmp_gt (tgt := 34) hx hb dX3_leastOver_12 (by decide) (fun c5 => absurd c5 (by decide)) (fun c5 => ?_)
  refine lv_iload_n hx hb dX3_leastOver_15 rfl (lv_at hl 1 rfl) ?_
  refine lv_aload_n hx hb dX3_leastOver_16 rfl (lv_at hl 2 rfl) ?_
  refine lv_iload_n hx hb dX3_leastOver_17 rfl (lv_at hl 3 rfl) ?_
  refine lv_iload_n hx hb dX3_leastOver_18 rfl (lv_at hl 4 rfl) ?_
  refine lv_iload hx hb dX3_leastOver_19 (lv_at hl 0 rfl) ?_
  refine pc_Vi (As := [.int (nI i), .int (nI u), .int 1]) (rest := [.int (SWv (stp (okp w i (u + 0)) (Mn w (n - (i + 1)) (i + 1) (u + 0)) 0))]) F (c_X3_weightWith l D cy A S h wa pi be ro n w i u 1 hk r0 kwa nwa r1 kpi npi r2 kbe nbe r3 kro nro i6 i7 i8 (by omega) (by omega) (by omega) (by omega) (by omega) (hwa) (hpi) (hbe)) (cwV 3 hts gX3_leastOver_X3_weightWith rfl rfl rfl (by decide +kernel) ⟨Nat.le_of_ble_eq_true rfl, Nat.le_of_ble_eq_true rfl⟩) hK hZ hA hW hS hk (by decide) rfl rfl hl.1 rfl (Nat.le_of_ble_eq_true rfl) dX3_leastOver_21 ⟨Nat.le_of_ble_eq_true rfl, Nat.le_of_ble_eq_true rfl⟩ (fun v6 T7 H locs p8 hW hS => ?_)
  obtain ⟨eT7, p8⟩ := p8
  rw [eT7] at hW
  rw [show v6 = SWv (stp (okp w i (u + 1)) (Mn w (n - (i + 1)) (i + 1) (u + 1)) 1) from p8]
  refine va_mmin hx hb (by rw [hml]; exact hl.1.symm) hown (hts (.methodLink RX3 56 Lib.Math.min.name) (by decide +kernel)) (hts (.static Lib.Math.min.name) (by decide +kernel)) (hts (.initialized "java/lang/Math") (by decide +kernel)) (hts (.code Lib.Math.min.name Lib.Math.min.code 2 (some .int)) (by decide +kernel)) (Nat.le_of_ble_eq_true rfl) (Nat.le_of_ble_eq_true rfl) (Nat.le_of_ble_eq_true rfl) (Nat.le_of_ble_eq_true rfl) dX3_leastOver_24 ?_
  rw [show (if (SWv (stp (okp w i (u + 1)) (Mn w (n - (i + 1)) (i + 1) (u + 1)) 1)) < (SWv (stp (okp w i (u + 0)) (Mn w (n - (i + 1)) (i + 1) (u + 0)) 0)) then SWv (stp (okp w i (u + 1)) (Mn w (n - (i + 1)) (i + 1) (u + 1)) 1) else SWv (stp (okp w i (u + 0)) (Mn w (n - (i + 1)) (i + 1) (u + 0)) 0)) = SWv (min (stp (okp w i (u + 0)) (Mn w (n - (i + 1)) (i + 1) (u + 0)) 0) (stp (okp w i (u + 1)) (Mn w (n - (i + 1)) (i + 1) (u + 1)) 1)) from SW_min hs0 hs1]
  refine lv_istore_n (lv' := [(3, .int (SWv (min (stp (okp w i (u + 0)) (Mn w (n - (i + 1)) (i + 1) (u + 0)) 0) (stp (okp w i (u + 1)) (Mn w (n - (i + 1)) (i + 1) (u + 1)) 1)))), (4, .int 1), (0, .ref h), (1, .int (nI i)), (2, .int (nI u))]) hx hb dX3_leastOver_27 rfl hl (by decide) rfl (fun ls hl => ?_)
  refine lv_iinc (v := 2) (lv' := [(4, .int 2), (3, .int (SWv (min (stp (okp w i (u + 0)) (Mn w (n - (i + 1)) (i + 1) (u + 0)) 0) (stp (okp w i (u + 1)) (Mn w (n - (i + 1)) (i + 1) (u + 1)) 1)))), (0, .ref h), (1, .int (nI i)), (2, .int (nI u))]) hx hb dX3_leastOver_28 hl (k := 1) rfl (by decide) (by decide) rfl (fun ls hl => ?_)
  refine lv_goto (tgt := 6) hx hb dX3_leastOver_31 (by decide) ?_
  refine lv_iload hx hb dX3_leastOver_6 (lv_at hl 0 rfl) ?_
  refine lv_aload_n hx hb dX3_leastOver_8 rfl (lv_at hl 2 rfl) ?_
  refine pg_gi (ci := 3) (C := RX3) (T := TX3) (N := 9) hx hb hts wi3 hown hK hW hk (by decide) rfl 8 (by decide) (hts (.fieldLink RX3 41 "IceHall$Planner" "working" "I") (by decide +kernel)) (fun _ h9 => h9) rfl dX3_leastOver_9 ?_
  rw [show sI S h 8 = 3 from i8]
  refine lv_icmp_gt (tgt := 34) hx hb dX3_leastOver_12 (by decide) (fun c9 => absurd c9 (by decide)) (fun c9 => ?_)
  refine lv_iload_n hx hb dX3_leastOver_15 rfl (lv_at hl 1 rfl) ?_
  refine lv_aload_n hx hb dX3_leastOver_16 rfl (lv_at hl 2 rfl) ?_
  refine lv_iload_n hx hb dX3_leastOver_17 rfl (lv_at hl 3 rfl) ?_
  refine lv_iload_n hx hb dX3_leastOver_18 rfl (lv_at hl 4 rfl) ?_
  refine lv_iload hx hb dX3_leastOver_19 (lv_at hl 0 rfl) ?_
  refine pc_Vi (As := [.int (nI i), .int (nI u), .int 2]) (rest := [.int (SWv (min (stp (okp w i (u + 0)) (Mn w (n - (i + 1)) (i + 1) (u + 0)) 0) (stp (okp w i (u + 1)) (Mn w (n - (i + 1)) (i + 1) (u + 1)) 1)))]) F (c_X3_weightWith l D cy A S h wa pi be ro n w i u 2 hk r0 kwa nwa r1 kpi npi r2 kbe nbe r3 kro nro i6 i7 i8 (by omega) (by omega) (by omega) (by omega) (by omega) (hwa) (hpi) (hbe)) (cwV 3 hts gX3_leastOver_X3_weightWith rfl rfl rfl (by decide +kernel) ⟨Nat.le_of_ble_eq_true rfl, Nat.le_of_ble_eq_true rfl⟩) hK hZ hA hW hS hk (by decide) rfl rfl hl.1 rfl (Nat.le_of_ble_eq_true rfl) dX3_leastOver_21 ⟨Nat.le_of_ble_eq_true rfl, Nat.le_of_ble_eq_true rfl⟩ (fun v10 T11 H locs p12 hW hS => ?_)
  obtain ⟨eT11, p12⟩ := p12
  rw [eT11] at hW
  rw [show v10 = SWv (stp (okp w i (u + 2)) (Mn w (n - (i + 1)) (i + 1) (u + 2)) 2) from p12]
  refine va_mmin hx hb (by rw [hml]; exact hl.1.symm) hown (hts (.methodLink RX3 56 Lib.Math.min.name) (by decide +kernel)) (hts (.static Lib.Math.min.name) (by decide +kernel)) (hts (.initialized "java/lang/Math") (by decide +kernel)) (hts (.code Lib.Math.min.name Lib.Math.min.code 2 (some .int)) (by decide +kernel)) (Nat.le_of_ble_eq_true rfl) (Nat.le_of_ble_eq_true rfl) (Nat.le_of_ble_eq_true rfl) (Nat.le_of_ble_eq_true rfl) dX3_leastOver_24 ?_
  rw [show (if (SWv (stp (okp w i (u + 2)) (Mn w (n - (i + 1)) (i + 1) (u + 2)) 2)) < (SWv (min (stp (okp w i (u + 0)) (Mn w (n - (i + 1)) (i + 1) (u + 0)) 0) (stp (okp w i (u + 1)) (Mn w (n - (i + 1)) (i + 1) (u + 1)) 1))) then SWv (stp (okp w i (u + 2)) (Mn w (n - (i + 1)) (i + 1) (u + 2)) 2) else SWv (min (stp (okp w i (u + 0)) (Mn w (n - (i + 1)) (i + 1) (u + 0)) 0) (stp (okp w i (u + 1)) (Mn w (n - (i + 1)) (i + 1) (u + 1)) 1))) = SWv (min (min (stp (okp w i (u + 0)) (Mn w (n - (i + 1)) (i + 1) (u + 0)) 0) (stp (okp w i (u + 1)) (Mn w (n - (i + 1)) (i + 1) (u + 1)) 1)) (stp (okp w i (u + 2)) (Mn w (n - (i + 1)) (i + 1) (u + 2)) 2)) from SW_min (Sm_min hs0 hs1) hs2]
  refine lv_istore_n (lv' := [(3, .int (SWv (min (min (stp (okp w i (u + 0)) (Mn w (n - (i + 1)) (i + 1) (u + 0)) 0) (stp (okp w i (u + 1)) (Mn w (n - (i + 1)) (i + 1) (u + 1)) 1)) (stp (okp w i (u + 2)) (Mn w (n - (i + 1)) (i + 1) (u + 2)) 2)))), (4, .int 2), (0, .ref h), (1, .int (nI i)), (2, .int (nI u))]) hx hb dX3_leastOver_27 rfl hl (by decide) rfl (fun ls hl => ?_)
  refine lv_iinc (v := 3) (lv' := [(4, .int 3), (3, .int (SWv (min (min (stp (okp w i (u + 0)) (Mn w (n - (i + 1)) (i + 1) (u + 0)) 0) (stp (okp w i (u + 1)) (Mn w (n - (i + 1)) (i + 1) (u + 1)) 1)) (stp (okp w i (u + 2)) (Mn w (n - (i + 1)) (i + 1) (u + 2)) 2)))), (0, .ref h), (1, .int (nI i)), (2, .int (nI u))]) hx hb dX3_leastOver_28 hl (k := 1) rfl (by decide) (by decide) rfl (fun ls hl => ?_)
  refine lv_goto (tgt := 6) hx hb dX3_leastOver_31 (by decide) ?_
  refine lv_iload hx hb dX3_leastOver_6 (lv_at hl 0 rfl) ?_
  refine lv_aload_n hx hb dX3_leastOver_8 rfl (lv_at hl 2 rfl) ?_
  refine pg_gi (ci := 3) (C := RX3) (T := TX3) (N := 9) hx hb hts wi3 hown hK hW hk (by decide) rfl 8 (by decide) (hts (.fieldLink RX3 41 "IceHall$Planner" "working" "I") (by decide +kernel)) (fun _ h9 => h9) rfl dX3_leastOver_9 ?_
  rw [show sI S h 8 = 3 from i8]
  refine lv_icmp_gt (tgt := 34) hx hb dX3_leastOver_12 (by decide) (fun c13 => absurd c13 (by decide)) (fun c13 => ?_)
  refine lv_iload_n hx hb dX3_leastOver_15 rfl (lv_at hl 1 rfl) ?_
  refine lv_aload_n hx hb dX3_leastOver_16 rfl (lv_at hl 2 rfl) ?_
  refine lv_iload_n hx hb dX3_leastOver_17 rfl (lv_at hl 3 rfl) ?_
  refine lv_iload_n hx hb dX3_leastOver_18 rfl (lv_at hl 4 rfl) ?_
  refine lv_iload hx hb dX3_leastOver_19 (lv_at hl 0 rfl) ?_
  refine pc_Vi (As := [.int (nI i), .int (nI u), .int 3]) (rest := [.int (SWv (min (min (stp (okp w i (u + 0)) (Mn w (n - (i + 1)) (i + 1) (u + 0)) 0) (stp (okp w i (u + 1)) (Mn w (n - (i + 1)) (i + 1) (u + 1)) 1)) (stp (okp w i (u + 2)) (Mn w (n - (i + 1)) (i + 1) (u + 2)) 2)))]) F (c_X3_weightWith l D cy A S h wa pi be ro n w i u 3 hk r0 kwa nwa r1 kpi npi r2 kbe nbe r3 kro nro i6 i7 i8 (by omega) (by omega) (by omega) (by omega) (by omega) (hwa) (hpi) (hbe)) (cwV 3 hts gX3_leastOver_X3_weightWith rfl rfl rfl (by decide +kernel) ⟨Nat.le_of_ble_eq_true rfl, Nat.le_of_ble_eq_true rfl⟩) hK hZ hA hW hS hk (by decide) rfl rfl hl.1 rfl (Nat.le_of_ble_eq_true rfl) dX3_leastOver_21 ⟨Nat.le_of_ble_eq_true rfl, Nat.le_of_ble_eq_true rfl⟩ (fun v14 T15 H locs p16 hW hS => ?_)
  obtain ⟨eT15, p16⟩ := p16
  rw [eT15] at hW
  rw [show v14 = SWv (stp (okp w i (u + 3)) (Mn w (n - (i + 1)) (i + 1) (u + 3)) 3) from p16]
  refine va_mmin hx hb (by rw [hml]; exact hl.1.symm) hown (hts (.methodLink RX3 56 Lib.Math.min.name) (by decide +kernel)) (hts (.static Lib.Math.min.name) (by decide +kernel)) (hts (.initialized "java/lang/Math") (by decide +kernel)) (hts (.code Lib.Math.min.name Lib.Math.min.code 2 (some .int)) (by decide +kernel)) (Nat.le_of_ble_eq_true rfl) (Nat.le_of_ble_eq_true rfl) (Nat.le_of_ble_eq_true rfl) (Nat.le_of_ble_eq_true rfl) dX3_leastOver_24 ?_
  rw [show (if (SWv (stp (okp w i (u + 3)) (Mn w (n - (i + 1)) (i + 1) (u + 3)) 3)) < (SWv (min (min (stp (okp w i (u + 0)) (Mn w (n - (i + 1)) (i + 1) (u + 0)) 0) (stp (okp w i (u + 1)) (Mn w (n - (i + 1)) (i + 1) (u + 1)) 1)) (stp (okp w i (u + 2)) (Mn w (n - (i + 1)) (i + 1) (u + 2)) 2))) then SWv (stp (okp w i (u + 3)) (Mn w (n - (i + 1)) (i + 1) (u + 3)) 3) else SWv (min (min (stp (okp w i (u + 0)) (Mn w (n - (i + 1)) (i + 1) (u + 0)) 0) (stp (okp w i (u + 1)) (Mn w (n - (i + 1)) (i + 1) (u + 1)) 1)) (stp (okp w i (u + 2)) (Mn w (n - (i + 1)) (i + 1) (u + 2)) 2))) = SWv (min (min (min (stp (okp w i (u + 0)) (Mn w (n - (i + 1)) (i + 1) (u + 0)) 0) (stp (okp w i (u + 1)) (Mn w (n - (i + 1)) (i + 1) (u + 1)) 1)) (stp (okp w i (u + 2)) (Mn w (n - (i + 1)) (i + 1) (u + 2)) 2)) (stp (okp w i (u + 3)) (Mn w (n - (i + 1)) (i + 1) (u + 3)) 3)) from SW_min (Sm_min (Sm_min hs0 hs1) hs2) hs3]
  refine lv_istore_n (lv' := [(3, .int (SWv (min (min (min (stp (okp w i (u + 0)) (Mn w (n - (i + 1)) (i + 1) (u + 0)) 0) (stp (okp w i (u + 1)) (Mn w (n - (i + 1)) (i + 1) (u + 1)) 1)) (stp (okp w i (u + 2)) (Mn w (n - (i + 1)) (i + 1) (u + 2)) 2)) (stp (okp w i (u + 3)) (Mn w (n - (i + 1)) (i + 1) (u + 3)) 3)))), (4, .int 3), (0, .ref h), (1, .int (nI i)), (2, .int (nI u))]) hx hb dX3_leastOver_27 rfl hl (by decide) rfl (fun ls hl => ?_)
  refine lv_iinc (v := 4) (lv' := [(4, .int 4), (3, .int (SWv (min (min (min (stp (okp w i (u + 0)) (Mn w (n - (i + 1)) (i + 1) (u + 0)) 0) (stp (okp w i (u + 1)) (Mn w (n - (i + 1)) (i + 1) (u + 1)) 1)) (stp (okp w i (u + 2)) (Mn w (n - (i + 1)) (i + 1) (u + 2)) 2)) (stp (okp w i (u + 3)) (Mn w (n - (i + 1)) (i + 1) (u + 3)) 3)))), (0, .ref h), (1, .int (nI i)), (2, .int (nI u))]) hx hb dX3_leastOver_28 hl (k := 1) rfl (by decide) (by decide) rfl (fun ls hl => ?_)
  refine lv_goto (tgt := 6) hx hb dX3_leastOver_31 (by decide) ?_
  refine lv_iload hx hb dX3_leastOver_6 (lv_at hl 0 rfl) ?_
  refine lv_aload_n hx hb dX3_leastOver_8 rfl (lv_at hl 2 rfl) ?_
  refine pg_gi (ci := 3) (C := RX3) (T := TX3) (N := 9) hx hb hts wi3 hown hK hW hk (by decide) rfl 8 (by decide) (hts (.fieldLink RX3 41 "IceHall$Planner" "working" "I") (by decide +kernel)) (fun _ h9 => h9) rfl dX3_leastOver_9 ?_
  rw [show sI S h 8 = 3 from i8]
  refine lv_icmp_gt (tgt := 34) hx hb dX3_leastOver_12 (by decide) (fun c17 => ?_) (fun c17 => absurd (by decide) c17)
  refine lv_iload_n hx hb dX3_leastOver_34 rfl (lv_at hl 1 rfl) ?_
  exact pc_iret (v := SWv (min (min (min (stp (okp w i (u + 0)) (Mn w (n - (i + 1)) (i + 1) (u + 0)) 0) (stp (okp w i (u + 1)) (Mn w (n - (i + 1)) (i + 1) (u + 1)) 1)) (stp (okp w i (u + 2)) (Mn w (n - (i + 1)) (i + 1) (u + 2)) 2)) (stp (okp w i (u + 3)) (Mn w (n - (i + 1)) (i + 1) (u + 3)) 3))) (S := S) hx hb hr hlk hK hZ hA hW hS (⟨rfl, by rw [show n - i = (n - (i + 1)) + 1 from by omega]; exact congrArg SWv (Mn_4 w (n - (i + 1)) i u)⟩) dX3_leastOver_35
set_option maxHeartbeats 4000000 in
set_option maxRecDepth 100000 in
theorem c_X3_begin (l : Launch) (D : va_G) (cy : Nat → ClassId) (A : Nat → Prop) (S : St) (h : Nat) (hk : sK S h = 3) : MV l yX3_begin wsX3_begin ({ frames := 0, cells := 0, slots := 0, locals := 0 } : Room) 0 0 D cy A [.ref h] S (fun S1 => S1 = stI S h 5 0) := by
  refine mt_start (cc := cX3_begin) (maxL := 1) (ret := none) (by decide) rfl (Nat.le_of_ble_eq_true rfl) ?_
  intro p e s m args below meth c hx hb hr hlk hml hown hnm hts hK hZ hA hW hS ls hl
  have hl : lv_has ls 1 [(0, .ref h)] := hl
  have hown : s.vm.findClass RX3 = some m.cls := hown
  have F : CallFix p m c cX3_begin 1 s args wsX3_begin RX3 := ⟨hx, hb, hml, hown, hts⟩
  have wi3 : ∀ w ∈ u_ws RX3 TX3 9, w ∈ wsX3_begin := by decide +kernel
  refine lv_aload_n hx hb dX3_begin_0 rfl (lv_at hl 0 rfl) ?_
  refine lv_iconst (v := 0) hx hb dX3_begin_1 (by decide) ?_
  refine pg_pi (ci := 3) (C := RX3) (T := TX3) (N := 9) hx hb hts wi3 tyX3 tyX3_ok nmX3 hown hK hW hS hk (by decide) rfl 5 (by decide) (hts (.fieldLink RX3 28 "IceHall$Planner" "size" "I") (by decide +kernel)) (fun _ h9 => h9) rfl rfl rfl dX3_begin_2 (fun H locs hW hS => ?_)
  have w1 : sI (stI S h 5 0) h 5 = 0 := iI_s
  exact pc_vret (S := stI S h 5 0) hx hb hr hlk hK hZ hA hW hS (rfl) dX3_begin_5
set_option maxHeartbeats 4000000 in
set_option maxRecDepth 100000 in
theorem c_X3_addHour (l : Launch) (D : va_G) (cy : Nat → ClassId) (A : Nat → Prop) (S : St) (h wa pi n : Nat) (x y : Int32) (hk : sK S h = 3) (r0 : sR S h 0 = some wa) (kwa : sK S wa = 11) (nwa : sL S wa = 9) (r1 : sR S h 1 = some pi) (kpi : sK S pi = 11) (npi : sL S pi = 8) (hne : Ap wa pi) (i5 : sI S h 5 = nI n) (hn8 : n < 8) : MV l yX3_addHour wsX3_addHour ({ frames := 1, cells := 0, slots := 0, locals := 21 } : Room) 0 0 D cy A [.ref h, .int x, .int y] S (fun S1 => Md [h, wa, pi] S S1 ∧ sI S1 h 5 = nI (n + 1) ∧ sI S1 pi n = y ∧ sI S1 wa (n + 1) = sI S wa n + x ∧ (∀ j, j ≠ n → sI S1 pi j = sI S pi j) ∧ (∀ j, j ≠ n + 1 → sI S1 wa j = sI S wa j)) := by
  refine mt_start (cc := cX3_addHour) (maxL := 3) (ret := none) (by decide) rfl (Nat.le_of_ble_eq_true rfl) ?_
  intro p e s m args below meth c hx hb hr hlk hml hown hnm hts hK hZ hA hW hS ls hl
  have hl : lv_has ls 3 [(0, .ref h), (1, .int x), (2, .int y)] := hl
  have hown : s.vm.findClass RX3 = some m.cls := hown
  have F : CallFix p m c cX3_addHour 3 s args wsX3_addHour RX3 := ⟨hx, hb, hml, hown, hts⟩
  have wi3 : ∀ w ∈ u_ws RX3 TX3 9, w ∈ wsX3_addHour := by decide +kernel
  have hnn : (nI n).toInt = (n : Int) := nI_toInt (by omega)
  refine lv_aload_n hx hb dX3_addHour_0 rfl (lv_at hl 0 rfl) ?_
  refine pg_gi (ci := 3) (C := RX3) (T := TX3) (N := 9) hx hb hts wi3 hown hK hW hk (by decide) rfl 5 (by decide) (hts (.fieldLink RX3 28 "IceHall$Planner" "size" "I") (by decide +kernel)) (fun _ h9 => h9) rfl dX3_addHour_1 ?_
  rw [show sI S h 5 = nI n from i5]
  refine lv_bipush (v := 8) hx hb dX3_addHour_4 (by decide) ?_
  refine pc_Ni (As := [.int (nI n), .int 8]) (rest := []) F (c_X8_isBelow l D cy A S (nI n) 8 ) ⟨va_cnB 2 hts gX3_addHour_X8_isBelow_n31 rfl rfl rfl hZ.2.2.2.2.2.2.2.2.2.2.1 (hts (.initialized RX8) (by decide +kernel)) (by decide +kernel) ⟨Nat.le_of_ble_eq_true rfl, Nat.le_of_ble_eq_true rfl⟩, hts (.static yX8_isBelow) (by decide +kernel), trivial⟩ hK hZ hA hW hS rfl hl.1 rfl (Nat.le_of_ble_eq_true rfl) dX3_addHour_6 ⟨Nat.le_of_ble_eq_true rfl, Nat.le_of_ble_eq_true rfl⟩ (fun v1 T2 H locs p3 hW hS => ?_)
  obtain ⟨eT2, p3⟩ := p3
  rw [eT2] at hW
  have p3 := isb_lit (n := 8) rfl p3
  refine lv_if_eq (tgt := 54) hx hb dX3_addHour_9 (by decide) (fun c4 => absurd c4 (by intro h9; rw [h9] at p3; rcases p3 with p3 | p3; exact absurd p3.1 (by decide); exact p3.2 (by omega))) (fun c4 => ?_)
  refine lv_aload_n hx hb dX3_addHour_12 rfl (lv_at hl 0 rfl) ?_
  refine pg_gr (b := pi) (ci := 3) (C := RX3) (T := TX3) (N := 9) hx hb hts wi3 hown hK hW hk (by decide) rfl 1 (by decide) (hts (.fieldLink RX3 15 "IceHall$Planner" "priceIn" "[I") (by decide +kernel)) (fun _ h9 => h9) rfl r1 dX3_addHour_13 ?_
  refine lv_aload_n hx hb dX3_addHour_16 rfl (lv_at hl 0 rfl) ?_
  refine pg_gi (ci := 3) (C := RX3) (T := TX3) (N := 9) hx hb hts wi3 hown hK hW hk (by decide) rfl 5 (by decide) (hts (.fieldLink RX3 28 "IceHall$Planner" "size" "I") (by decide +kernel)) (fun _ h9 => h9) rfl dX3_addHour_17 ?_
  rw [show sI S h 5 = nI n from i5]
  refine lv_iload_n hx hb dX3_addHour_20 rfl (lv_at hl 2 rfl) ?_
  refine pg_iast hx hb hK hW hS kpi (by rw [show sL S pi = 8 from npi]; exact vp_in_nI (by omega) (by decide)) dX3_addHour_21 (fun H locs hW hS => ?_)
  have w5 : sI (stI S pi (Int32.toNatClampNeg (nI n)) y) h 5 = nI n := (iI_a (fk_ne hk kpi (by decide))).trans i5
  clear i5
  refine lv_aload_n hx hb dX3_addHour_22 rfl (lv_at hl 0 rfl) ?_
  refine pg_gr (b := wa) (ci := 3) (C := RX3) (T := TX3) (N := 9) hx hb hts wi3 hown hK hW hk (by decide) rfl 0 (by decide) (hts (.fieldLink RX3 9 "IceHall$Planner" "wantedAhead" "[I") (by decide +kernel)) (fun _ h9 => h9) rfl r0 dX3_addHour_23 ?_
  refine lv_aload_n hx hb dX3_addHour_26 rfl (lv_at hl 0 rfl) ?_
  refine pg_gi (ci := 3) (C := RX3) (T := TX3) (N := 9) hx hb hts wi3 hown hK hW hk (by decide) rfl 5 (by decide) (hts (.fieldLink RX3 28 "IceHall$Planner" "size" "I") (by decide +kernel)) (fun _ h9 => h9) rfl dX3_addHour_27 ?_
  rw [show sI (stI S pi (Int32.toNatClampNeg (nI n)) y) h 5 = nI n from w5]
  refine lv_iconst (v := 1) hx hb dX3_addHour_30 (by decide) ?_
  refine lv_iadd hx hb dX3_addHour_31 ?_
  rw [show (nI n) + 1 = nI (n + 1) from nI_add _ _]
  refine lv_aload_n hx hb dX3_addHour_32 rfl (lv_at hl 0 rfl) ?_
  refine pg_gr (b := wa) (ci := 3) (C := RX3) (T := TX3) (N := 9) hx hb hts wi3 hown hK hW hk (by decide) rfl 0 (by decide) (hts (.fieldLink RX3 9 "IceHall$Planner" "wantedAhead" "[I") (by decide +kernel)) (fun _ h9 => h9) rfl r0 dX3_addHour_33 ?_
  refine lv_aload_n hx hb dX3_addHour_36 rfl (lv_at hl 0 rfl) ?_
  refine pg_gi (ci := 3) (C := RX3) (T := TX3) (N := 9) hx hb hts wi3 hown hK hW hk (by decide) rfl 5 (by decide) (hts (.fieldLink RX3 28 "IceHall$Planner" "size" "I") (by decide +kernel)) (fun _ h9 => h9) rfl dX3_addHour_37 ?_
  rw [show sI (stI S pi (Int32.toNatClampNeg (nI n)) y) h 5 = nI n from w5]
  refine pg_iald hx hb hK hW kwa (by rw [show sL (stI S pi (Int32.toNatClampNeg (nI n)) y) wa = 9 from nwa]; exact vp_in_nI (by omega) (by decide)) dX3_addHour_40 ?_
  rw [show sI (stI S pi (Int32.toNatClampNeg (nI n)) y) wa (Int32.toNatClampNeg (nI n)) = sI S wa n from (iI_a hne).trans (congrArg (sI S wa) (nI_clamp (by omega)))]
  refine lv_iload_n hx hb dX3_addHour_41 rfl (lv_at hl 1 rfl) ?_
  refine lv_iadd hx hb dX3_addHour_42 ?_
  refine pg_iast hx hb hK hW hS kwa (by rw [show sL (stI S pi (Int32.toNatClampNeg (nI n)) y) wa = 9 from nwa]; exact vp_in_nI (by omega) (by decide)) dX3_addHour_43 (fun H locs hW hS => ?_)
  have w6 : sI (stI (stI S pi (Int32.toNatClampNeg (nI n)) y) wa (Int32.toNatClampNeg (nI (n + 1))) ((sI S wa n) + x)) h 5 = nI n := (iI_a (fk_ne hk kwa (by decide))).trans w5
  clear w5
  refine lv_aload_n hx hb dX3_addHour_44 rfl (lv_at hl 0 rfl) ?_
  refine lv_dup hx hb dX3_addHour_45 rfl ?_
  refine pg_gi (ci := 3) (C := RX3) (T := TX3) (N := 9) hx hb hts wi3 hown hK hW hk (by decide) rfl 5 (by decide) (hts (.fieldLink RX3 28 "IceHall$Planner" "size" "I") (by decide +kernel)) (fun _ h9 => h9) rfl dX3_addHour_46 ?_
  rw [show sI (stI (stI S pi (Int32.toNatClampNeg (nI n)) y) wa (Int32.toNatClampNeg (nI (n + 1))) ((sI S wa n) + x)) h 5 = nI n from w6]
  refine lv_iconst (v := 1) hx hb dX3_addHour_49 (by decide) ?_
  refine lv_iadd hx hb dX3_addHour_50 ?_
  rw [show (nI n) + 1 = nI (n + 1) from nI_add _ _]
  refine pg_pi (ci := 3) (C := RX3) (T := TX3) (N := 9) hx hb hts wi3 tyX3 tyX3_ok nmX3 hown hK hW hS hk (by decide) rfl 5 (by decide) (hts (.fieldLink RX3 28 "IceHall$Planner" "size" "I") (by decide +kernel)) (fun _ h9 => h9) rfl rfl rfl dX3_addHour_51 (fun H locs hW hS => ?_)
  have w7 : sI (stI (stI (stI S pi (Int32.toNatClampNeg (nI n)) y) wa (Int32.toNatClampNeg (nI (n + 1))) ((sI S wa n) + x)) h 5 (nI (n + 1))) h 5 = nI (n + 1) := iI_s
  clear w6
  exact pc_vret (S := stI (stI (stI S pi (Int32.toNatClampNeg (nI n)) y) wa (Int32.toNatClampNeg (nI (n + 1))) ((sI S wa n) + x)) h 5 (nI (n + 1))) hx hb hr hlk hK hZ hA hW hS (⟨(((Md.rf [h, wa, pi] S).I (by simp)).I (by simp)).I (by simp), w7, ah_post hk kwa kpi hne hn8⟩) dX3_addHour_54
set_option maxHeartbeats 4000000 in
set_option maxRecDepth 100000 in
theorem c_X3_solve (l : Launch) (D : va_G) (cy : Nat → ClassId) (A : Nat → Prop) (S : St) (h wa pi be ro : Nat) (n w : Nat) (hk : sK S h = 3) (r0 : sR S h 0 = some wa) (kwa : sK S wa = 11) (nwa : sL S wa = 9) (r1 : sR S h 1 = some pi) (kpi : sK S pi = 11) (npi : sL S pi = 8) (r2 : sR S h 2 = some be) (kbe : sK S be = 11) (nbe : sL S be = 225) (r3 : sR S h 3 = some ro) (kro : sK S ro = 11) (nro : sL S ro = 8) (n1 : Ap wa be) (n2 : Ap pi be) (n3 : Ap be ro) (i5 : sI S h 5 = nI n) (hn1 : 1 ≤ n) (hn8 : n ≤ 8) (hw40 : w ≤ 40) (hwa : ∀ j, j ≤ n → sI S wa j = nI (w * j)) (hpi : ∀ j, j < n → sI S pi j = 10) : MI l yX3_solve wsX3_solve ({ frames := 5, cells := 0, slots := 0, locals := 131 } : Room) 0 0 D cy A [.ref h, .int 200, .int 400, .int 3] S (fun r S1 => r = PLv w n) := by
  refine mt_start (cc := cX3_solve) (maxL := 6) (ret := (some .int)) (by decide) rfl (Nat.le_of_ble_eq_true rfl) ?_
  intro p e s m args below meth c hx hb hr hlk hml hown hnm hts hK hZ hA hW hS ls hl
  have hl : lv_has ls 6 [(0, .ref h), (1, .int 200), (2, .int 400), (3, .int 3)] := hl
  have hown : s.vm.findClass RX3 = some m.cls := hown
  have F : CallFix p m c cX3_solve 6 s args wsX3_solve RX3 := ⟨hx, hb, hml, hown, hts⟩
  have wi3 : ∀ w ∈ u_ws RX3 TX3 9, w ∈ wsX3_solve := by decide +kernel
  have hnn : (nI n).toInt = (n : Int) := nI_toInt (by omega)
  have hsm : Sm (Mn w n 0 0) := fun h9 => by have := Mn_bd w _ _ _ h9; omega
  refine lv_aload_n hx hb dX3_solve_0 rfl (lv_at hl 0 rfl) ?_
  refine lv_iload_n hx hb dX3_solve_1 rfl (lv_at hl 1 rfl) ?_
  refine pg_pi (ci := 3) (C := RX3) (T := TX3) (N := 9) hx hb hts wi3 tyX3 tyX3_ok nmX3 hown hK hW hS hk (by decide) rfl 6 (by decide) (hts (.fieldLink RX3 35 "IceHall$Planner" "store" "I") (by decide +kernel)) (fun _ h9 => h9) rfl rfl rfl dX3_solve_2 (fun H locs hW hS => ?_)
  have w1 : sI (stI S h 6 200) h 5 = nI n := (iI_k (by decide)).trans i5
  have w2 : sI (stI S h 6 200) h 6 = 200 := iI_s
  have w3 : ∀ j, j < n → sI (stI S h 6 200) pi j = 10 := fun j hj => (iI_a (fk_ne kpi hk (by decide))).trans (hpi j hj)
  have g4 : ∀ j, j ≤ n → sI (stI S h 6 200) wa j = nI (w * j) := by rw [iI_A (fk_ne kwa hk (by decide))]; exact hwa
  have g5 : ∀ j, j < n → sI (stI S h 6 200) pi j = 10 := by rw [iI_A (fk_ne kpi hk (by decide))]; exact hpi
  clear i5
  refine lv_aload_n hx hb dX3_solve_5 rfl (lv_at hl 0 rfl) ?_
  refine lv_iload_n hx hb dX3_solve_6 rfl (lv_at hl 2 rfl) ?_
  refine pg_pi (ci := 3) (C := RX3) (T := TX3) (N := 9) hx hb hts wi3 tyX3 tyX3_ok nmX3 hown hK hW hS hk (by decide) rfl 7 (by decide) (hts (.fieldLink RX3 38 "IceHall$Planner" "storeMost" "I") (by decide +kernel)) (fun _ h9 => h9) rfl rfl rfl dX3_solve_7 (fun H locs hW hS => ?_)
  have w6 : sI (stI (stI S h 6 200) h 7 400) h 5 = nI n := (iI_k (by decide)).trans w1
  have w7 : sI (stI (stI S h 6 200) h 7 400) h 6 = 200 := (iI_k (by decide)).trans w2
  have w8 : sI (stI (stI S h 6 200) h 7 400) h 7 = 400 := iI_s
  have w9 : ∀ j, j < n → sI (stI (stI S h 6 200) h 7 400) pi j = 10 := fun j hj => (iI_a (fk_ne kpi hk (by decide))).trans (w3 j hj)
  have g10 : ∀ j, j ≤ n → sI (stI (stI S h 6 200) h 7 400) wa j = nI (w * j) := by rw [iI_A (fk_ne kwa hk (by decide))]; exact g4
  have g11 : ∀ j, j < n → sI (stI (stI S h 6 200) h 7 400) pi j = 10 := by rw [iI_A (fk_ne kpi hk (by decide))]; exact g5
  clear w1 w2 w3
  refine lv_aload_n hx hb dX3_solve_10 rfl (lv_at hl 0 rfl) ?_
  refine lv_iload_n hx hb dX3_solve_11 rfl (lv_at hl 3 rfl) ?_
  refine pg_pi (ci := 3) (C := RX3) (T := TX3) (N := 9) hx hb hts wi3 tyX3 tyX3_ok nmX3 hown hK hW hS hk (by decide) rfl 8 (by decide) (hts (.fieldLink RX3 41 "IceHall$Planner" "working" "I") (by decide +kernel)) (fun _ h9 => h9) rfl rfl rfl dX3_solve_12 (fun H locs hW hS => ?_)
  have w12 : sI (stI (stI (stI S h 6 200) h 7 400) h 8 3) h 5 = nI n := (iI_k (by decide)).trans w6
  have w13 : sI (stI (stI (stI S h 6 200) h 7 400) h 8 3) h 6 = 200 := (iI_k (by decide)).trans w7
  have w14 : sI (stI (stI (stI S h 6 200) h 7 400) h 8 3) h 7 = 400 := (iI_k (by decide)).trans w8
  have w15 : sI (stI (stI (stI S h 6 200) h 7 400) h 8 3) h 8 = 3 := iI_s
  have w16 : ∀ j, j < n → sI (stI (stI (stI S h 6 200) h 7 400) h 8 3) pi j = 10 := fun j hj => (iI_a (fk_ne kpi hk (by decide))).trans (w9 j hj)
  have g17 : ∀ j, j ≤ n → sI (stI (stI (stI S h 6 200) h 7 400) h 8 3) wa j = nI (w * j) := by rw [iI_A (fk_ne kwa hk (by decide))]; exact g10
  have g18 : ∀ j, j < n → sI (stI (stI (stI S h 6 200) h 7 400) h 8 3) pi j = 10 := by rw [iI_A (fk_ne kpi hk (by decide))]; exact g11
  clear w6 w7 w8 w9
  refine lv_iconst (v := 0) hx hb dX3_solve_15 (by decide) ?_
  refine lv_istore (lv' := [(4, .int 0), (0, .ref h), (1, .int 200), (2, .int 400), (3, .int 3)]) hx hb dX3_solve_16 hl (by decide) rfl (fun ls hl => ?_)
  have loop19 : ∀ (zn : Nat) (v : Nat) (T18 : St) (H : Heap) (locs : List Loc) (ls : Array Slot), (Md [be] (stI (stI (stI S h 6 200) h 7 400) h 8 3) T18) → (v ≤ 25) → (∀ j, j < v → sI T18 be (n * 25 + j) = 0) → 25 - v < zn → PW D cy A T18 H → va_S A s.heap H locs → lv_has ls 6 [(0, .ref h), (1, .int 200), (2, .int 400), (3, .int 3), (4, .int (nI v))] → W p l e ({ frames := 5, cells := 0, slots := 0, locals := 131 } : Room) s m args below meth c H locs 0 0 (MQ below (va_Qi (fun r S1 => r = PLv w n) (PU D cy A) A) args s 0 0 A) (F0 m 18 ls []) := by
    intro zn
    induction zn with
    | zero => intros; exact absurd (by assumption) (Nat.not_lt_zero _)
    | succ zn ih =>
      intro v T18 H locs ls hmd18 hv hz hme hW hS hl
      have f20 : sK T18 h = 3 := by rw [hmd18.1]; exact hk
      have f21 : sK T18 wa = 11 := by rw [hmd18.1]; exact kwa
      have f22 : sK T18 pi = 11 := by rw [hmd18.1]; exact kpi
      have f23 : sK T18 be = 11 := by rw [hmd18.1]; exact kbe
      have f24 : sK T18 ro = 11 := by rw [hmd18.1]; exact kro
      have f25 : sL T18 wa = 9 := by rw [hmd18.2.2.1]; exact nwa
      have f26 : sL T18 pi = 8 := by rw [hmd18.2.2.1]; exact npi
      have f27 : sL T18 be = 225 := by rw [hmd18.2.2.1]; exact nbe
      have f28 : sL T18 ro = 8 := by rw [hmd18.2.2.1]; exact nro
      have f29 : sR T18 h 0 = some wa := by rw [hmd18.2.1]; exact r0
      have f30 : sR T18 h 1 = some pi := by rw [hmd18.2.1]; exact r1
      have f31 : sR T18 h 2 = some be := by rw [hmd18.2.1]; exact r2
      have f32 : sR T18 h 3 = some ro := by rw [hmd18.2.1]; exact r3
      have f33 : sI T18 h 5 = nI n := by rw [(hmd18.2.2.2 h (ni_c (fk_ne hk kbe (by decide)) ni_0)).1]; exact w12
      have f34 : sI T18 h 6 = 200 := by rw [(hmd18.2.2.2 h (ni_c (fk_ne hk kbe (by decide)) ni_0)).1]; exact w13
      have f35 : sI T18 h 7 = 400 := by rw [(hmd18.2.2.2 h (ni_c (fk_ne hk kbe (by decide)) ni_0)).1]; exact w14
      have f36 : sI T18 h 8 = 3 := by rw [(hmd18.2.2.2 h (ni_c (fk_ne hk kbe (by decide)) ni_0)).1]; exact w15
      have f37 : ∀ j, j < n → sI T18 pi j = 10 := fun j hj => by rw [(hmd18.2.2.2 pi (ni_c n2 ni_0)).1]; exact w16 j hj 
      have g38 : ∀ j, j ≤ n → sI T18 wa j = nI (w * j) := by rw [(hmd18.2.2.2 wa (ni_c n1 ni_0)).1]; exact g17
      have g39 : ∀ j, j < n → sI T18 pi j = 10 := by rw [(hmd18.2.2.2 pi (ni_c n2 ni_0)).1]; exact g18
      have hni : (nI v).toInt = (v : Int) := nI_toInt (by omega)
      refine lv_iload hx hb dX3_solve_18 (lv_at hl 4 rfl) ?_
      refine lv_bipush (v := 25) hx hb dX3_solve_20 (by decide) ?_
      refine lv_icmp_ge (tgt := 47) hx hb dX3_solve_22 (by decide) (fun c40 => ?_) (fun c40 => ?_)
      · have c40i : (25 : Int) ≤ Int32.toInt (nI v) := (i3_le _ _).mp c40
        refine lv_aload_n hx hb dX3_solve_47 rfl (lv_at hl 0 rfl) ?_
        refine pg_gi (ci := 3) (C := RX3) (T := TX3) (N := 9) hx hb hts wi3 hown hK hW f20 (by decide) rfl 5 (by decide) (hts (.fieldLink RX3 28 "IceHall$Planner" "size" "I") (by decide +kernel)) (fun _ h9 => h9) rfl dX3_solve_48 ?_
        rw [show sI T18 h 5 = nI n from f33]
        refine lv_iconst (v := 1) hx hb dX3_solve_51 (by decide) ?_
        refine lv_isub hx hb dX3_solve_52 ?_
        refine lv_istore (lv' := [(4, .int ((nI n) - 1)), (0, .ref h), (1, .int 200), (2, .int 400), (3, .int 3)]) hx hb dX3_solve_53 hl (by decide) rfl (fun ls hl => ?_)
        have loop41 : ∀ (zn : Nat) (q : Nat) (T55 : St) (H : Heap) (locs : List Loc) (ls : Array Slot), (Md [be] T18 T55) → (q ≤ n) → (∀ i', q ≤ i' → i' ≤ n → ∀ v, v ≤ 3 * i' → sI T55 be (i' * 25 + v) = SWv (Mn w (n - i') i' v)) → q < zn → PW D cy A T55 H → va_S A s.heap H locs → lv_has ls 6 [(0, .ref h), (1, .int 200), (2, .int 400), (3, .int 3), (4, .int (nI q - 1))] → W p l e ({ frames := 5, cells := 0, slots := 0, locals := 131 } : Room) s m args below meth c H locs 0 0 (MQ below (va_Qi (fun r S1 => r = PLv w n) (PU D cy A) A) args s 0 0 A) (F0 m 55 ls []) := by
          intro zn
          induction zn with
          | zero => intros; exact absurd (by assumption) (Nat.not_lt_zero _)
          | succ zn ih55 =>
            intro q T55 H locs ls hmd55 hq hbe hme hW hS hl
            have f42 : sK T55 h = 3 := by rw [hmd55.1]; exact f20
            have f43 : sK T55 wa = 11 := by rw [hmd55.1]; exact f21
            have f44 : sK T55 pi = 11 := by rw [hmd55.1]; exact f22
            have f45 : sK T55 be = 11 := by rw [hmd55.1]; exact f23
            have f46 : sK T55 ro = 11 := by rw [hmd55.1]; exact f24
            have f47 : sL T55 wa = 9 := by rw [hmd55.2.2.1]; exact f25
            have f48 : sL T55 pi = 8 := by rw [hmd55.2.2.1]; exact f26
            have f49 : sL T55 be = 225 := by rw [hmd55.2.2.1]; exact f27
            have f50 : sL T55 ro = 8 := by rw [hmd55.2.2.1]; exact f28
            have f51 : sR T55 h 0 = some wa := by rw [hmd55.2.1]; exact f29
            have f52 : sR T55 h 1 = some pi := by rw [hmd55.2.1]; exact f30
            have f53 : sR T55 h 2 = some be := by rw [hmd55.2.1]; exact f31
            have f54 : sR T55 h 3 = some ro := by rw [hmd55.2.1]; exact f32
            have f55 : sI T55 h 5 = nI n := by rw [(hmd55.2.2.2 h (ni_c (fk_ne f20 f23 (by decide)) ni_0)).1]; exact f33
            have f56 : sI T55 h 6 = 200 := by rw [(hmd55.2.2.2 h (ni_c (fk_ne f20 f23 (by decide)) ni_0)).1]; exact f34
            have f57 : sI T55 h 7 = 400 := by rw [(hmd55.2.2.2 h (ni_c (fk_ne f20 f23 (by decide)) ni_0)).1]; exact f35
            have f58 : sI T55 h 8 = 3 := by rw [(hmd55.2.2.2 h (ni_c (fk_ne f20 f23 (by decide)) ni_0)).1]; exact f36
            have f59 : ∀ j, j < n → sI T55 pi j = 10 := fun j hj => by rw [(hmd55.2.2.2 pi (ni_c n2 ni_0)).1]; exact f37 j hj 
            have g60 : ∀ j, j ≤ n → sI T55 wa j = nI (w * j) := by rw [(hmd55.2.2.2 wa (ni_c n1 ni_0)).1]; exact g38
            have g61 : ∀ j, j < n → sI T55 pi j = 10 := by rw [(hmd55.2.2.2 pi (ni_c n2 ni_0)).1]; exact g39
            have hqi : (nI q - 1).toInt = (q : Int) - 1 := pk_sub_toInt (a := q) (b := 1) (by omega) (by decide)
            refine lv_iload hx hb dX3_solve_55 (lv_at hl 4 rfl) ?_
            refine lv_if_lt (tgt := 105) hx hb dX3_solve_57 (by decide) (fun c62 => ?_) (fun c62 => ?_)
            · have c62i : Int32.toInt (nI q - 1) < (0 : Int) := (i3_lt _ _).mp c62
              have hq0 : q = 0 := by omega
              subst hq0
              have hb0 : sI T55 be 0 = SWv (Mn w n 0 0) := hbe 0 (by omega) (by omega) 0 (by omega)
              refine lv_aload_n hx hb dX3_solve_105 rfl (lv_at hl 0 rfl) ?_
              refine pg_gr (b := be) (ci := 3) (C := RX3) (T := TX3) (N := 9) hx hb hts wi3 hown hK hW f42 (by decide) rfl 2 (by decide) (hts (.fieldLink RX3 18 "IceHall$Planner" "best" "[I") (by decide +kernel)) (fun _ h9 => h9) rfl f53 dX3_solve_106 ?_
              refine lv_iconst (v := 0) hx hb dX3_solve_109 (by decide) ?_
              refine pg_iald hx hb hK hW f45 (by rw [show sL T55 be = 225 from f49]; exact vp_in_nI (n := 0) (by decide) (by decide)) dX3_solve_110 ?_
              rw [show sI T55 be (Int32.toNatClampNeg 0) = SWv (Mn w n 0 0) from hb0]
              refine lv_ldc (v := (1000000000)) hx hb hown (hts (.constant RX3 48 (1000000000)) (by decide +kernel)) dX3_solve_111 ?_
              refine lv_icmp_lt (tgt := 118) hx hb dX3_solve_113 (by decide) (fun c63 => ?_) (fun c63 => ?_)
              · have c63i : Int32.toInt (SWv (Mn w n 0 0)) < (1000000000 : Int) := (i3_lt _ _).mp c63
                refine lv_aload_n hx hb dX3_solve_118 rfl (lv_at hl 0 rfl) ?_
                refine pc_Vv (As := []) (rest := []) F (c_X3_keepRow l D cy A T55 h wa pi be ro n 3 f42 f51 f43 f47 f52 f44 f48 f53 f45 f49 f54 f46 f50 f55 (by first | omega | decide) f58 (by first | omega | decide)) (cwV 0 hts gX3_solve_X3_keepRow rfl rfl rfl (by decide +kernel) ⟨Nat.le_of_ble_eq_true rfl, Nat.le_of_ble_eq_true rfl⟩) hK hZ hA hW hS f42 (by decide) rfl rfl hl.1 rfl (Nat.le_of_ble_eq_true rfl) dX3_solve_119 ⟨Nat.le_of_ble_eq_true rfl, Nat.le_of_ble_eq_true rfl⟩ (fun T65 H locs p66 hW hS => ?_)
                have mdT65 := p66
                have f67 : sK T65 h = 3 := by rw [mdT65.1]; exact f42
                have f68 : sK T65 wa = 11 := by rw [mdT65.1]; exact f43
                have f69 : sK T65 pi = 11 := by rw [mdT65.1]; exact f44
                have f70 : sK T65 be = 11 := by rw [mdT65.1]; exact f45
                have f71 : sK T65 ro = 11 := by rw [mdT65.1]; exact f46
                have f72 : sL T65 wa = 9 := by rw [mdT65.2.2.1]; exact f47
                have f73 : sL T65 pi = 8 := by rw [mdT65.2.2.1]; exact f48
                have f74 : sL T65 be = 225 := by rw [mdT65.2.2.1]; exact f49
                have f75 : sL T65 ro = 8 := by rw [mdT65.2.2.1]; exact f50
                have f76 : sR T65 h 0 = some wa := by rw [mdT65.2.1]; exact f51
                have f77 : sR T65 h 1 = some pi := by rw [mdT65.2.1]; exact f52
                have f78 : sR T65 h 2 = some be := by rw [mdT65.2.1]; exact f53
                have f79 : sR T65 h 3 = some ro := by rw [mdT65.2.1]; exact f54
                have g80 : sI T65 be 0 = SWv (Mn w n 0 0) := by rw [(mdT65.2.2.2 be (ni_c (fk_ne f45 f42 (by decide)) (ni_c n3 ni_0))).1]; exact hb0
                refine lv_aload_n hx hb dX3_solve_122 rfl (lv_at hl 0 rfl) ?_
                refine pg_gr (b := be) (ci := 3) (C := RX3) (T := TX3) (N := 9) hx hb hts wi3 hown hK hW f67 (by decide) rfl 2 (by decide) (hts (.fieldLink RX3 18 "IceHall$Planner" "best" "[I") (by decide +kernel)) (fun _ h9 => h9) rfl f78 dX3_solve_123 ?_
                refine lv_iconst (v := 0) hx hb dX3_solve_126 (by decide) ?_
                refine pg_iald hx hb hK hW f70 (by rw [show sL T65 be = 225 from f74]; exact vp_in_nI (n := 0) (by decide) (by decide)) dX3_solve_127 ?_
                rw [show sI T65 be (Int32.toNatClampNeg 0) = SWv (Mn w n 0 0) from g80]
                refine lv_bipush (v := 100) hx hb dX3_solve_128 (by decide) ?_
                refine lv_idiv hx hb dX3_solve_130 (by decide) ?_
                exact pc_iret (v := (SWv (Mn w n 0 0)) / 100) (S := T65) hx hb hr hlk hK hZ hA hW hS (PLv_yes hsm c63) dX3_solve_131
              · have c63i : ¬ (Int32.toInt (SWv (Mn w n 0 0)) < (1000000000 : Int)) := fun h9 => c63 ((i3_lt _ _).mpr h9)
                refine lv_iconst (v := (-1)) hx hb dX3_solve_116 (by decide) ?_
                exact pc_iret (v := (-1)) (S := T55) hx hb hr hlk hK hZ hA hW hS (PLv_no hsm c63) dX3_solve_117
            · have c62i : ¬ (Int32.toInt (nI q - 1) < (0 : Int)) := fun h9 => c62 ((i3_lt _ _).mpr h9)
              obtain ⟨z, rfl⟩ : ∃ z, q = z + 1 := ⟨q - 1, by omega⟩
              rw [nI_pred] at hl
              have hz3 : (nI (z * 3)).toInt = (z * 3 : Nat) := nI_toInt (by omega)
              refine lv_iconst (v := 0) hx hb dX3_solve_60 (by decide) ?_
              refine lv_istore (lv' := [(5, .int 0), (0, .ref h), (1, .int 200), (2, .int 400), (3, .int 3), (4, .int (nI z))]) hx hb dX3_solve_61 hl (by decide) rfl (fun ls hl => ?_)
              have loop81 : ∀ (zn : Nat) (u : Nat) (T63 : St) (H : Heap) (locs : List Loc) (ls : Array Slot), (Md [be] T55 T63) → (u ≤ 3 * z + 1) → (∀ v, v < u → sI T63 be (z * 25 + v) = SWv (Mn w (n - z) z v)) → (∀ i', z + 1 ≤ i' → i' ≤ n → ∀ v, v ≤ 3 * i' → sI T63 be (i' * 25 + v) = SWv (Mn w (n - i') i' v)) → 3 * z + 1 - u < zn → PW D cy A T63 H → va_S A s.heap H locs → lv_has ls 6 [(0, .ref h), (1, .int 200), (2, .int 400), (3, .int 3), (4, .int (nI z)), (5, .int (nI u))] → W p l e ({ frames := 5, cells := 0, slots := 0, locals := 131 } : Room) s m args below meth c H locs 0 0 (MQ below (va_Qi (fun r S1 => r = PLv w n) (PU D cy A) A) args s 0 0 A) (F0 m 63 ls []) := by
                intro zn
                induction zn with
                | zero => intros; exact absurd (by assumption) (Nat.not_lt_zero _)
                | succ zn ih63 =>
                  intro u T63 H locs ls hmd63 hu hb2 hb3 hme hW hS hl
                  have f82 : sK T63 h = 3 := by rw [hmd63.1]; exact f42
                  have f83 : sK T63 wa = 11 := by rw [hmd63.1]; exact f43
                  have f84 : sK T63 pi = 11 := by rw [hmd63.1]; exact f44
                  have f85 : sK T63 be = 11 := by rw [hmd63.1]; exact f45
                  have f86 : sK T63 ro = 11 := by rw [hmd63.1]; exact f46
                  have f87 : sL T63 wa = 9 := by rw [hmd63.2.2.1]; exact f47
                  have f88 : sL T63 pi = 8 := by rw [hmd63.2.2.1]; exact f48
                  have f89 : sL T63 be = 225 := by rw [hmd63.2.2.1]; exact f49
                  have f90 : sL T63 ro = 8 := by rw [hmd63.2.2.1]; exact f50
                  have f91 : sR T63 h 0 = some wa := by rw [hmd63.2.1]; exact f51
                  have f92 : sR T63 h 1 = some pi := by rw [hmd63.2.1]; exact f52
                  have f93 : sR T63 h 2 = some be := by rw [hmd63.2.1]; exact f53
                  have f94 : sR T63 h 3 = some ro := by rw [hmd63.2.1]; exact f54
                  have f95 : sI T63 h 5 = nI n := by rw [(hmd63.2.2.2 h (ni_c (fk_ne f42 f45 (by decide)) ni_0)).1]; exact f55
                  have f96 : sI T63 h 6 = 200 := by rw [(hmd63.2.2.2 h (ni_c (fk_ne f42 f45 (by decide)) ni_0)).1]; exact f56
                  have f97 : sI T63 h 7 = 400 := by rw [(hmd63.2.2.2 h (ni_c (fk_ne f42 f45 (by decide)) ni_0)).1]; exact f57
                  have f98 : sI T63 h 8 = 3 := by rw [(hmd63.2.2.2 h (ni_c (fk_ne f42 f45 (by decide)) ni_0)).1]; exact f58
                  have f99 : ∀ j, j < n → sI T63 pi j = 10 := fun j hj => by rw [(hmd63.2.2.2 pi (ni_c n2 ni_0)).1]; exact f59 j hj 
                  have g100 : ∀ j, j ≤ n → sI T63 wa j = nI (w * j) := by rw [(hmd63.2.2.2 wa (ni_c n1 ni_0)).1]; exact g60
                  have g101 : ∀ j, j < n → sI T63 pi j = 10 := by rw [(hmd63.2.2.2 pi (ni_c n2 ni_0)).1]; exact g61
                  have hni : (nI u).toInt = (u : Int) := nI_toInt (by omega)
                  refine lv_iload hx hb dX3_solve_63 (lv_at hl 5 rfl) ?_
                  refine lv_iload hx hb dX3_solve_65 (lv_at hl 4 rfl) ?_
                  refine lv_iconst (v := 3) hx hb dX3_solve_67 (by decide) ?_
                  refine lv_imul hx hb dX3_solve_68 ?_
                  rw [show ((nI z) * 3 : Int32) = nI (z * 3) from pk_mul z 3]
                  refine lv_icmp_gt (tgt := 99) hx hb dX3_solve_69 (by decide) (fun c102 => ?_) (fun c102 => ?_)
                  · have c102i : Int32.toInt (nI (z * 3)) < Int32.toInt (nI u) := (i3_lt _ _).mp c102
                    refine lv_iinc (v := nI z + (-1)) (lv' := [(4, .int (nI z + (-1))), (0, .ref h), (1, .int 200), (2, .int 400), (3, .int 3), (5, .int (nI u))]) hx hb dX3_solve_99 hl (k := 4) rfl rfl (by decide) rfl (fun ls hl => ?_)
                    refine lv_goto (tgt := 55) hx hb dX3_solve_102 (by decide) ?_
                    exact ih55 z T63 H locs ls (hmd55.tr hmd63) (by omega) (fun i' h1 h2 v hv => by rcases Nat.lt_or_ge z i' with h3 | h3; exact hb3 i' h3 h2 v hv; have h4 : i' = z := (by omega); rw [h4] at hv ⊢; exact hb2 v (by omega)) (by omega) hW hS (lv_cast (lv_sub hl [1, 2, 3, 4, 0] rfl) (by rw [show nI z + (-1) = nI z - 1 from (Int32.sub_eq_add_neg _ _).symm]; rfl))
                  · have c102i : ¬ (Int32.toInt (nI (z * 3)) < Int32.toInt (nI u)) := fun h9 => c102 ((i3_lt _ _).mpr h9)
                    refine lv_aload_n hx hb dX3_solve_72 rfl (lv_at hl 0 rfl) ?_
                    refine pg_gr (b := be) (ci := 3) (C := RX3) (T := TX3) (N := 9) hx hb hts wi3 hown hK hW f82 (by decide) rfl 2 (by decide) (hts (.fieldLink RX3 18 "IceHall$Planner" "best" "[I") (by decide +kernel)) (fun _ h9 => h9) rfl f93 dX3_solve_73 ?_
                    refine lv_iload hx hb dX3_solve_76 (lv_at hl 4 rfl) ?_
                    refine lv_bipush (v := 25) hx hb dX3_solve_78 (by decide) ?_
                    refine lv_imul hx hb dX3_solve_80 ?_
                    rw [show ((nI z) * 25 : Int32) = nI (z * 25) from pk_mul z 25]
                    refine lv_iload hx hb dX3_solve_81 (lv_at hl 5 rfl) ?_
                    refine lv_iadd hx hb dX3_solve_83 ?_
                    rw [show ((nI (z * 25)) + (nI u) : Int32) = nI (z * 25 + u) from nI_add (z * 25) u]
                    refine lv_aload_n hx hb dX3_solve_84 rfl (lv_at hl 0 rfl) ?_
                    refine lv_iload hx hb dX3_solve_85 (lv_at hl 4 rfl) ?_
                    refine lv_iload hx hb dX3_solve_87 (lv_at hl 5 rfl) ?_
                    refine pc_Vi (As := [.int (nI z), .int (nI u)]) (rest := [.int (nI (z * 25 + u)), .ref be]) F (c_X3_leastOver l D cy A T63 h wa pi be ro n w z u f82 f91 f83 f87 f92 f84 f88 f93 f85 f89 f94 f86 f90 f96 f97 f98 (by omega) (by omega) (by omega) (by omega) g100 g101 (fun v hv => hb3 (z + 1) (Nat.le_refl _) (by omega) v hv)) (cwV 2 hts gX3_solve_X3_leastOver rfl rfl rfl (by decide +kernel) ⟨Nat.le_of_ble_eq_true rfl, Nat.le_of_ble_eq_true rfl⟩) hK hZ hA hW hS f82 (by decide) rfl rfl hl.1 rfl (Nat.le_of_ble_eq_true rfl) dX3_solve_89 ⟨Nat.le_of_ble_eq_true rfl, Nat.le_of_ble_eq_true rfl⟩ (fun v103 T104 H locs p105 hW hS => ?_)
                    obtain ⟨eT104, p105⟩ := p105
                    rw [eT104] at hW
                    rw [show v103 = SWv (Mn w (n - z) z u) from p105]
                    refine pg_iast hx hb hK hW hS f85 (by rw [show sL T63 be = 225 from f89]; exact vp_in_nI (by omega) (by decide)) dX3_solve_92 (fun H locs hW hS => ?_)
                    have w106 : sI (stI T63 be (Int32.toNatClampNeg (nI (z * 25 + u))) (SWv (Mn w (n - z) z u))) h 5 = nI n := (iI_a (fk_ne f82 f85 (by decide))).trans f95
                    have w107 : sI (stI T63 be (Int32.toNatClampNeg (nI (z * 25 + u))) (SWv (Mn w (n - z) z u))) h 6 = 200 := (iI_a (fk_ne f82 f85 (by decide))).trans f96
                    have w108 : sI (stI T63 be (Int32.toNatClampNeg (nI (z * 25 + u))) (SWv (Mn w (n - z) z u))) h 7 = 400 := (iI_a (fk_ne f82 f85 (by decide))).trans f97
                    have w109 : sI (stI T63 be (Int32.toNatClampNeg (nI (z * 25 + u))) (SWv (Mn w (n - z) z u))) h 8 = 3 := (iI_a (fk_ne f82 f85 (by decide))).trans f98
                    have w110 : ∀ j, j < n → sI (stI T63 be (Int32.toNatClampNeg (nI (z * 25 + u))) (SWv (Mn w (n - z) z u))) pi j = 10 := fun j hj => (iI_a n2).trans (f99 j hj)
                    have g111 : ∀ j, j ≤ n → sI (stI T63 be (Int32.toNatClampNeg (nI (z * 25 + u))) (SWv (Mn w (n - z) z u))) wa j = nI (w * j) := by rw [iI_A n1]; exact g100
                    have g112 : ∀ j, j < n → sI (stI T63 be (Int32.toNatClampNeg (nI (z * 25 + u))) (SWv (Mn w (n - z) z u))) pi j = 10 := by rw [iI_A n2]; exact g101
                    clear f95 f96 f97 f98 f99
                    refine lv_iinc (v := nI u + 1) (lv' := [(5, .int (nI u + 1)), (0, .ref h), (1, .int 200), (2, .int 400), (3, .int 3), (4, .int (nI z))]) hx hb dX3_solve_93 hl (k := 5) rfl rfl (by decide) rfl (fun ls hl => ?_)
                    refine lv_goto (tgt := 63) hx hb dX3_solve_96 (by decide) ?_
                    exact ih63 (u + 1) (stI T63 be (Int32.toNatClampNeg (nI (z * 25 + u))) (SWv (Mn w (n - z) z u))) H locs ls (hmd63.I List.mem_cons_self) (by omega) (fun v hv => by rw [nI_clamp (by omega)]; exact be_up (fun h8 => by rw [show v = u from by omega]) (fun h8 => hb2 v (by omega))) (fun i' h1 h2 v hv => by rw [nI_clamp (by omega)]; exact be_up (fun h8 => absurd h8 (by omega)) (fun h8 => hb3 i' h1 h2 v hv)) (by omega) hW hS (lv_cast (lv_sub hl [1, 2, 3, 4, 5, 0] rfl) (by rw [nI_1]; rfl))
              exact loop81 _ 0 T55 _ _ ls (Md.rf _ _) (Nat.zero_le _) (fun j hj => absurd hj (Nat.not_lt_zero _)) (hbe) (Nat.lt_succ_self _) hW hS (lv_cast (lv_sub hl [1, 2, 3, 4, 5, 0] rfl) (rfl))
        exact loop41 _ n T18 _ _ ls (Md.rf _ _) (Nat.le_refl _) (fun i' h1 h2 v hv => by have h3 : i' = n := (by omega); rw [h3] at hv ⊢; rw [Nat.sub_self]; exact (hz v (by omega)).trans SW_0.symm) (Nat.lt_succ_self _) hW hS (lv_cast (lv_sub hl [1, 2, 3, 4, 0] rfl) (rfl))
      · have c40i : ¬ ((25 : Int) ≤ Int32.toInt (nI v)) := fun h9 => c40 ((i3_le _ _).mpr h9)
        refine lv_aload_n hx hb dX3_solve_25 rfl (lv_at hl 0 rfl) ?_
        refine pg_gr (b := be) (ci := 3) (C := RX3) (T := TX3) (N := 9) hx hb hts wi3 hown hK hW f20 (by decide) rfl 2 (by decide) (hts (.fieldLink RX3 18 "IceHall$Planner" "best" "[I") (by decide +kernel)) (fun _ h9 => h9) rfl f31 dX3_solve_26 ?_
        refine lv_aload_n hx hb dX3_solve_29 rfl (lv_at hl 0 rfl) ?_
        refine pg_gi (ci := 3) (C := RX3) (T := TX3) (N := 9) hx hb hts wi3 hown hK hW f20 (by decide) rfl 5 (by decide) (hts (.fieldLink RX3 28 "IceHall$Planner" "size" "I") (by decide +kernel)) (fun _ h9 => h9) rfl dX3_solve_30 ?_
        rw [show sI T18 h 5 = nI n from f33]
        refine lv_bipush (v := 25) hx hb dX3_solve_33 (by decide) ?_
        refine lv_imul hx hb dX3_solve_35 ?_
        rw [show ((nI n) * 25 : Int32) = nI (n * 25) from pk_mul n 25]
        refine lv_iload hx hb dX3_solve_36 (lv_at hl 4 rfl) ?_
        refine lv_iadd hx hb dX3_solve_38 ?_
        rw [show ((nI (n * 25)) + (nI v) : Int32) = nI (n * 25 + v) from nI_add (n * 25) v]
        refine lv_iconst (v := 0) hx hb dX3_solve_39 (by decide) ?_
        refine pg_iast hx hb hK hW hS f23 (by rw [show sL T18 be = 225 from f27]; exact vp_in_nI (by omega) (by decide)) dX3_solve_40 (fun H locs hW hS => ?_)
        have w113 : sI (stI T18 be (Int32.toNatClampNeg (nI (n * 25 + v))) 0) h 5 = nI n := (iI_a (fk_ne f20 f23 (by decide))).trans f33
        have w114 : sI (stI T18 be (Int32.toNatClampNeg (nI (n * 25 + v))) 0) h 6 = 200 := (iI_a (fk_ne f20 f23 (by decide))).trans f34
        have w115 : sI (stI T18 be (Int32.toNatClampNeg (nI (n * 25 + v))) 0) h 7 = 400 := (iI_a (fk_ne f20 f23 (by decide))).trans f35
        have w116 : sI (stI T18 be (Int32.toNatClampNeg (nI (n * 25 + v))) 0) h 8 = 3 := (iI_a (fk_ne f20 f23 (by decide))).trans f36
        have w117 : ∀ j, j < n → sI (stI T18 be (Int32.toNatClampNeg (nI (n * 25 + v))) 0) pi j = 10 := fun j hj => (iI_a n2).trans (f37 j hj)
        have g118 : ∀ j, j ≤ n → sI (stI T18 be (Int32.toNatClampNeg (nI (n * 25 + v))) 0) wa j = nI (w * j) := by rw [iI_A n1]; exact g38
        have g119 : ∀ j, j < n → sI (stI T18 be (Int32.toNatClampNeg (nI (n * 25 + v))) 0) pi j = 10 := by rw [iI_A n2]; exact g39
        clear f33 f34 f35 f36 f37
        refine lv_iinc (v := nI v + 1) (lv' := [(4, .int (nI v + 1)), (0, .ref h), (1, .int 200), (2, .int 400), (3, .int 3)]) hx hb dX3_solve_41 hl (k := 4) rfl rfl (by decide) rfl (fun ls hl => ?_)
        refine lv_goto (tgt := 18) hx hb dX3_solve_44 (by decide) ?_
        exact ih (v + 1) (stI T18 be (Int32.toNatClampNeg (nI (n * 25 + v))) 0) H locs ls (hmd18.I List.mem_cons_self) (by omega) (fun j hj => by rw [nI_clamp (by omega)]; exact be_up (fun _ => rfl) (fun h8 => hz j (by omega))) (by omega) hW hS (lv_cast (lv_sub hl [1, 2, 3, 4, 0] rfl) (by rw [nI_1]; rfl))
  exact loop19 _ 0 (stI (stI (stI S h 6 200) h 7 400) h 8 3) _ _ ls (Md.rf _ _) (Nat.zero_le _) (fun j hj => absurd hj (Nat.not_lt_zero _)) (Nat.lt_succ_self _) hW hS (lv_cast (lv_sub hl [1, 2, 3, 4, 0] rfl) (rfl))
