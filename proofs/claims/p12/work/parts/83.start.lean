/-! the world at the law's entry -/
theorem ar_p {s : State} {args : Array Value} {ty : FieldType} (h : (Cond.arrayClass ty).before args s = true) : ∃ cA : ClassId, ArrOfT s cA ty ∧ s.vm.findClass ("[" ++ ty.toString) = some cA := by
  obtain ⟨cA, kA, comp, h1, h2, h3⟩ := Cond.arrayClass_spec h
  exact ⟨cA, fun n z => ⟨fun k h => (by cases h), kA, h2, comp, h3⟩, h1⟩
theorem ar_q {s : State} {args : Array Value} {C : String} (h : (Cond.arrayOver (.object C)).before args s = true) : ∃ cA : ClassId, ArrOfT s cA (.object C) ∧ va_RA s cA (.object C) := by
  obtain ⟨comp, cA, kA, h1, h2, h3, h4, h5⟩ := Cond.arrayOver_spec h
  exact ⟨cA, fun n z => ⟨fun k h => (by cases h), kA, h3, comp, h4⟩, kA, comp, h3, h4, h1, h5⟩
set_option maxRecDepth 20000 in
theorem st_K {s : State} {b : Nat} (hts : ∀ w ∈ lw_tbl, w.before #[Value.ref b] s = true) : ∃ (D : va_G) (cy : Nat → ClassId), va_K D vwCl (tysC cy) s := by
  obtain ⟨c0, i0, h0⟩ := u_known (C := RX0) (T := TX0) (N := 1) (n := 1) hts inX0 (hts (.instantiable RX0 1) (by decide +kernel))
  obtain ⟨c1, i1, h1⟩ := u_known (C := RX1) (T := TX1) (N := 10) (n := 10) hts inX1 (hts (.instantiable RX1 10) (by decide +kernel))
  obtain ⟨c2, i2, h2⟩ := u_known (C := RX2) (T := TX2) (N := 10) (n := 10) hts inX2 (hts (.instantiable RX2 10) (by decide +kernel))
  obtain ⟨c3, i3, h3⟩ := u_known (C := RX3) (T := TX3) (N := 9) (n := 9) hts inX3 (hts (.instantiable RX3 9) (by decide +kernel))
  obtain ⟨c4, i4, h4⟩ := u_known (C := RX4) (T := TX4) (N := 6) (n := 6) hts inX4 (hts (.instantiable RX4 6) (by decide +kernel))
  obtain ⟨c5, i5, h5⟩ := u_known (C := RX5) (T := TX5) (N := 4) (n := 4) hts inX5 (hts (.instantiable RX5 4) (by decide +kernel))
  obtain ⟨c6, i6, h6⟩ := u_known (C := RX6) (T := TX6) (N := 10) (n := 10) hts inX6 (hts (.instantiable RX6 10) (by decide +kernel))
  obtain ⟨c7, i7, h7⟩ := u_known (C := RX7) (T := TX7) (N := 2) (n := 2) hts inX7 (hts (.instantiable RX7 2) (by decide +kernel))
  obtain ⟨c8, i8, h8⟩ := u_known (C := RX8) (T := TX8) (N := 18) (n := 18) hts inX8 (hts (.instantiable RX8 18) (by decide +kernel))
  obtain ⟨c9, i9, h9⟩ := u_known (C := RX9) (T := TX9) (N := 63) (n := 63) hts inX9 (hts (.instantiable RX9 63) (by decide +kernel))
  obtain ⟨aB, b1, b2⟩ := ar_p (hts (.arrayClass .byte) (by decide +kernel))
  obtain ⟨aI, b3, b4⟩ := ar_p (hts (.arrayClass .int) (by decide +kernel))
  obtain ⟨aJ, b5, b6⟩ := ar_p (hts (.arrayClass .long) (by decide +kernel))
  obtain ⟨aZ, b7, b8⟩ := ar_p (hts (.arrayClass .boolean) (by decide +kernel))
  obtain ⟨aR, b9, b10⟩ := ar_q (hts (.arrayOver (.object "IceHall$Rights")) (by decide +kernel))
  obtain ⟨aS, b11, b12⟩ := ar_q (hts (.arrayOver (.object "IceHall$Session")) (by decide +kernel))
  refine ⟨(fun k => [c0, c1, c2, c3, c4, c5, c6, c7, c8, c9].getD k c0, fun k => [i0, i1, i2, i3, i4, i5, i6, i7, i8, i9].getD k i0), fun k => [aB, aI, aJ, aZ, aR, aS].getD (k - 10) aB, fun k q hq => ?_, fun k q hq => ?_⟩
  · match k, hq with
    | 0, hq => cases hq; exact h0
    | 1, hq => cases hq; exact h1
    | 2, hq => cases hq; exact h2
    | 3, hq => cases hq; exact h3
    | 4, hq => cases hq; exact h4
    | 5, hq => cases hq; exact h5
    | 6, hq => cases hq; exact h6
    | 7, hq => cases hq; exact h7
    | 8, hq => cases hq; exact h8
    | 9, hq => cases hq; exact h9
    | k + 10, hq => simp [vwCl] at hq
  · match k, hq with
    | 0, hq => cases hq; exact ⟨b1, b2⟩
    | 1, hq => cases hq; exact ⟨b3, b4⟩
    | 2, hq => cases hq; exact ⟨b5, b6⟩
    | 3, hq => cases hq; exact ⟨b7, b8⟩
    | 4, hq => cases hq; exact ⟨b9, b10⟩
    | 5, hq => cases hq; exact ⟨b11, b12⟩
    | k + 6, hq => simp [tysC] at hq
theorem lt4_ {P : Nat → Prop} (h0 : P 0) (h1 : P 1) (h2 : P 2) (h3 : P 3) : ∀ j, j < 4 → P j := fun j hj => by
  match j, hj with
  | 0, _ => exact h0
  | 1, _ => exact h1
  | 2, _ => exact h2
  | 3, _ => exact h3
theorem lt7_ {P : Nat → Prop} (h0 : P 0) (h1 : P 1) (h2 : P 2) (h3 : P 3) (h4 : P 4) (h5 : P 5) (h6 : P 6) : ∀ j, j < 7 → P j := fun j hj => by
  match j, hj with
  | 0, _ => exact h0
  | 1, _ => exact h1
  | 2, _ => exact h2
  | 3, _ => exact h3
  | 4, _ => exact h4
  | 5, _ => exact h5
  | 6, _ => exact h6
set_option maxRecDepth 20000 in
theorem st_Z {s : State} {b : Nat} (hts : ∀ w ∈ lw_tbl, w.before #[Value.ref b] s = true) (hgv : (Jvm.Cond.and given_1 narrow_1).before #[Value.ref b] s = true) : ZS (fun q : Nat => s.heap.size ≤ q) s := by
  have hs := flat_of_before _ hgv
  have hA : ∀ a : Nat, a < s.heap.size → ¬ (fun q : Nat => s.heap.size ≤ q) a := fun a h1 h2 => absurd h1 (Nat.not_lt.mpr h2)
  have hi := hts (.initialized "IceHall") (by decide +kernel)
  obtain ⟨tR, eR, TR⟩ := va_Tof (tm := (.static "IceHall" "RUTS_OF_KIND" "[I")) (ty := .int) (N := 4) (f := xsRuts) (A := fun q : Nat => s.heap.size ≤ q) (by decide) (hs (.arrayOf (.static "IceHall" "RUTS_OF_KIND" "[I") .int) (by decide +kernel)) (va_eqt (hs (.eq (.length (.static "IceHall" "RUTS_OF_KIND" "[I")) (.int 4)) (by decide +kernel))) (lt4_ (va_eqt (hs (.eq (.elem (.static "IceHall" "RUTS_OF_KIND" "[I") (.int 0)) (.int 10)) (by decide +kernel))) (va_eqt (hs (.eq (.elem (.static "IceHall" "RUTS_OF_KIND" "[I") (.int 1)) (.int 30)) (by decide +kernel))) (va_eqt (hs (.eq (.elem (.static "IceHall" "RUTS_OF_KIND" "[I") (.int 2)) (.int 20)) (by decide +kernel))) (va_eqt (hs (.eq (.elem (.static "IceHall" "RUTS_OF_KIND" "[I") (.int 3)) (.int 5)) (by decide +kernel)))) hA
  obtain ⟨tH, eH, TH⟩ := va_Tof (tm := (.static "IceHall" "HEAT_OF_KIND" "[I")) (ty := .int) (N := 4) (f := xsHeat) (A := fun q : Nat => s.heap.size ≤ q) (by decide) (hs (.arrayOf (.static "IceHall" "HEAT_OF_KIND" "[I") .int) (by decide +kernel)) (va_eqt (hs (.eq (.length (.static "IceHall" "HEAT_OF_KIND" "[I")) (.int 4)) (by decide +kernel))) (lt4_ (va_eqt (hs (.eq (.elem (.static "IceHall" "HEAT_OF_KIND" "[I") (.int 0)) (.int 4)) (by decide +kernel))) (va_eqt (hs (.eq (.elem (.static "IceHall" "HEAT_OF_KIND" "[I") (.int 1)) (.int 9)) (by decide +kernel))) (va_eqt (hs (.eq (.elem (.static "IceHall" "HEAT_OF_KIND" "[I") (.int 2)) (.int 6)) (by decide +kernel))) (va_eqt (hs (.eq (.elem (.static "IceHall" "HEAT_OF_KIND" "[I") (.int 3)) (.int 2)) (by decide +kernel)))) hA
  obtain ⟨tS, eS, TS⟩ := va_Tof (tm := (.static "IceHall" "SHIFT_OF_PLACE" "[I")) (ty := .int) (N := 7) (f := xsShift) (A := fun q : Nat => s.heap.size ≤ q) (by decide) (hs (.arrayOf (.static "IceHall" "SHIFT_OF_PLACE" "[I") .int) (by decide +kernel)) (va_eqt (hs (.eq (.length (.static "IceHall" "SHIFT_OF_PLACE" "[I")) (.int 7)) (by decide +kernel))) (lt7_ (va_eqt (hs (.eq (.elem (.static "IceHall" "SHIFT_OF_PLACE" "[I") (.int 0)) (.int 0)) (by decide +kernel))) (va_eqt (hs (.eq (.elem (.static "IceHall" "SHIFT_OF_PLACE" "[I") (.int 1)) (.int (-1))) (by decide +kernel))) (va_eqt (hs (.eq (.elem (.static "IceHall" "SHIFT_OF_PLACE" "[I") (.int 2)) (.int 1)) (by decide +kernel))) (va_eqt (hs (.eq (.elem (.static "IceHall" "SHIFT_OF_PLACE" "[I") (.int 3)) (.int (-2))) (by decide +kernel))) (va_eqt (hs (.eq (.elem (.static "IceHall" "SHIFT_OF_PLACE" "[I") (.int 4)) (.int 2)) (by decide +kernel))) (va_eqt (hs (.eq (.elem (.static "IceHall" "SHIFT_OF_PLACE" "[I") (.int 5)) (.int (-3))) (by decide +kernel))) (va_eqt (hs (.eq (.elem (.static "IceHall" "SHIFT_OF_PLACE" "[I") (.int 6)) (.int 3)) (by decide +kernel)))) hA
  exact ⟨⟨tR, va_Zref (hts (.laysStatic "IceHall" "RUTS_OF_KIND" "[I") (by decide +kernel)) hi eR hA, TR⟩, ⟨tH, va_Zref (hts (.laysStatic "IceHall" "HEAT_OF_KIND" "[I") (by decide +kernel)) hi eH hA, TH⟩, ⟨tS, va_Zref (hts (.laysStatic "IceHall" "SHIFT_OF_PLACE" "[I") (by decide +kernel)) hi eS hA, TS⟩, va_Nw.of rfl (hts (.methodLinkNest RX8 9 yX1_init "IceHall") (by decide +kernel)), va_Nw.of rfl (hts (.methodLinkNest RX8 25 yX4_init "IceHall") (by decide +kernel)), va_Nw.of rfl (hts (.methodLinkNest RX8 38 yX7_init "IceHall") (by decide +kernel)), va_Nw.of rfl (hts (.methodLinkNest RX8 63 yX3_init "IceHall") (by decide +kernel)), va_Nw.of rfl (hts (.methodLinkNest RX1 11 yX0_init "IceHall") (by decide +kernel)), va_Nw.of rfl (hts (.methodLinkNest RX1 76 yX8_ofKind "IceHall") (by decide +kernel)), va_Nw.of rfl (hts (.methodLinkNest RX2 38 yX8_isBelow "IceHall") (by decide +kernel)), va_Nw.of rfl (hts (.methodLinkNest RX3 31 yX8_isBelow "IceHall") (by decide +kernel)), va_Nw.of rfl (hts (.methodLinkNest RX7 19 yX8_isBelow "IceHall") (by decide +kernel)), va_Nw.of rfl (hts (.fieldLinkNest "IceHall$Ice" 69 "IceHall" "RUTS_OF_KIND" "[I" "IceHall") (by decide +kernel)), va_Nw.of rfl (hts (.fieldLinkNest "IceHall$Mover" 113 "IceHall" "SHIFT_OF_PLACE" "[I" "IceHall") (by decide +kernel)), va_AO.of (hts (.arrayOver (.object "IceHall$Rights")) (by decide +kernel)), va_AO.of (hts (.arrayOver (.object "IceHall$Session")) (by decide +kernel))⟩
