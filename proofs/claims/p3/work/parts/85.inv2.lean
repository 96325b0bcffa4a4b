/-! what the law's loop keeps -/
def Rl (S M : St) (tp bt qm tm : Nat) : Prop := sI S tp 1 = sI M qm 1 ∧ ∀ j : Nat, (j : Int) < (sI M qm 1).toInt → sI S bt j = sI M tm j
def Wx (S : St) (qx tp rd bt : Nat) : Prop := G S ∧ sK S qx = 8 ∧ sR S qx 5 = some tp ∧ sK S tp = 7 ∧ sR S qx 6 = some rd ∧ sK S rd = 5 ∧ sR S rd 0 = some tp ∧ sR S tp 0 = some bt ∧ sK S bt = 10 ∧ sL S bt = 80
def Wm (M : St) (qm tm : Nat) : Prop := G M ∧ sK M qm = 9 ∧ sR M qm 0 = some tm ∧ sK M tm = 10 ∧ sL M tm = 80
def Iv (S M : St) (qx tp qm rd bt tm : Nat) : Prop := Wx S qx tp rd bt ∧ Wm M qm tm ∧ Rl S M tp bt qm tm
theorem dj_s {S T : St} (h : Dj S T) : Dj T S := fun q h1 h2 => h q h2 h1
theorem Wx.F {S T : St} {qx tp rd bt : Nat} {ks : List Nat} (h : Wx S qx tp rd bt) (hG : G T) (hF : Fr [] ks S T) : Wx T qx tp rd bt := by
  obtain ⟨h1, h2, h3, h4, h5, h6, h7, h8, h9, h10⟩ := h
  exact ⟨hG, hF.k h2 (by decide), hF.r h2 (by decide) h3, hF.k h4 (by decide), hF.r h2 (by decide) h5, hF.k h6 (by decide), hF.r h6 (by decide) h7, hF.r h4 (by decide) h8, hF.k h9 (by decide), hF.n h9 (by decide) h10⟩
theorem Wm.F {S T : St} {qm tm : Nat} {ks : List Nat} (h : Wm S qm tm) (hG : G T) (hF : Fr [] ks S T) : Wm T qm tm := by
  obtain ⟨h1, h2, h3, h4, h5⟩ := h
  exact ⟨hG, hF.k h2 (by decide), hF.r h2 (by decide) h3, hF.k h4 (by decide), hF.n h4 (by decide) h5⟩
def Px (ks : List Nat) (S S1 : St) : Prop := G S1 ∧ Fr [] ks S S1
theorem Px.pu {S S1 : St} (h : S1 = S) (hG : G S) : Px [] S S1 := by rw [h]; exact ⟨hG, Fr.rf _ _ _⟩
theorem Iv.keep {S M S1 M1 : St} {qx tp qm rd bt tm : Nat} {ks ks' : List Nat} (h : Iv S M qx tp qm rd bt tm) (h1 : Px ks S S1) (h2 : Px ks' M M1) (n1 : cd 7 1 ∉ ks) (n2 : 10 * 100 ∉ ks) (m1 : cd 9 1 ∉ ks') (m2 : 10 * 100 ∉ ks') : Iv S1 M1 qx tp qm rd bt tm := by
  obtain ⟨hx, hm, r1, r2⟩ := h
  refine ⟨hx.F h1.1 h1.2, hm.F h2.1 h2.2, ?_, fun j hj => ?_⟩
  · rw [h1.2.i hx.2.2.2.1 (by decide) n1, h2.2.i hm.2.1 (by decide) m1]; exact r1
  · rw [h2.2.i hm.2.1 (by decide) m1] at hj
    rw [h1.2.iA hx.2.2.2.2.2.2.2.2.1 (by decide) (by decide) n2, h2.2.iA hm.2.2.2.1 (by decide) (by decide) m2]
    exact r2 j hj
theorem Iv.feed {S M S1 M1 : St} {qx tp qm rd bt tm : Nat} {ks ks' : List Nat} {u v a b d e w : Int32} (h : Iv S M qx tp qm rd bt tm) (h1 : Px ks S S1) (h2 : Px ks' M M1)
    (e1 : (((sI S tp 1).toInt ≤ 60 → u = sI S1 tp 1 ∧ (sI S1 tp 1).toInt = (sI S tp 1).toInt + 20) ∧ (60 < (sI S tp 1).toInt → u = (-1) ∧ sI S1 tp 1 = sI S tp 1)) ∧ ((sI S tp 1).toInt ≤ 60 → sI S1 bt = pw20 (sI S bt) (sI S tp 1).toInt.toNat a b d e w) ∧ (60 < (sI S tp 1).toInt → sI S1 bt = sI S bt))
    (e2 : (((sI M qm 1).toInt ≤ 60 → v = sI M1 qm 1 ∧ (sI M1 qm 1).toInt = (sI M qm 1).toInt + 20) ∧ (60 < (sI M qm 1).toInt → v = (-1) ∧ sI M1 qm 1 = sI M qm 1)) ∧ ((sI M qm 1).toInt ≤ 60 → sI M1 tm = pw20 (sI M tm) (sI M qm 1).toInt.toNat a b d e w) ∧ (60 < (sI M qm 1).toInt → sI M1 tm = sI M tm)) : Iv S1 M1 qx tp qm rd bt tm := by
  obtain ⟨hx, hm, r1, r2⟩ := h
  have hq : 0 ≤ (sI M qm 1).toInt ∧ (sI M qm 1).toInt ≤ 80 := hm.1.i hm.2.1 (by decide) 1 (by decide)
  rw [r1] at e1
  by_cases hc : (sI M qm 1).toInt ≤ 60
  · obtain ⟨a1, a2⟩ := e1.1.1 hc
    obtain ⟨b1, b2⟩ := e2.1.1 hc
    have q1 : sI S1 tp 1 = sI M1 qm 1 := (i3_eq _ _).mpr (by rw [a2, b2])
    refine ⟨hx.F h1.1 h1.2, hm.F h2.1 h2.2, q1, fun j hj => ?_⟩
    rw [e1.2.1 hc, e2.2.1 hc]
    exact pw20_ag (fun i hi => r2 i (by omega)) j (by omega)
  · obtain ⟨a1, a2⟩ := e1.1.2 (by omega)
    obtain ⟨b1, b2⟩ := e2.1.2 (by omega)
    refine ⟨hx.F h1.1 h1.2, hm.F h2.1 h2.2, by rw [a2, b2], fun j hj => ?_⟩
    rw [e1.2.2 (by omega), e2.2.2 (by omega)]
    rw [b2] at hj
    exact r2 j hj
theorem Iv.rights {S M S1 M1 : St} {qx tp qm rd bt tm : Nat} {ks ks' : List Nat} {a b u v : Int32} {f : Nat → Int32} (h : Iv S M qx tp qm rd bt tm) (h1 : Px ks S S1) (h2 : Px ks' M M1) (n2 : 10 * 100 ∉ ks) (m2 : 10 * 100 ∉ ks')
    (e1 : (((0 ≤ a.toInt ∧ a.toInt < 6 ∧ 0 ≤ b.toInt ∧ b.toInt ≤ (sI S tp 1).toInt) → sI S1 tp 1 = 0) ∧ (¬ (0 ≤ a.toInt ∧ a.toInt < 6 ∧ 0 ≤ b.toInt ∧ b.toInt ≤ (sI S tp 1).toInt) → sI S1 tp 1 = sI S tp 1)) ∧ ((0 ≤ a.toInt ∧ a.toInt < 6 ∧ 0 ≤ b.toInt ∧ b.toInt ≤ (sI S tp 1).toInt) → TX f b.toInt 0 u.toInt) ∧ (¬ (0 ≤ a.toInt ∧ a.toInt < 6 ∧ 0 ≤ b.toInt ∧ b.toInt ≤ (sI S tp 1).toInt) → u = (-1)))
    (e2 : (((0 ≤ a.toInt ∧ a.toInt < 6 ∧ 0 ≤ b.toInt ∧ b.toInt ≤ (sI M qm 1).toInt) → sI M1 qm 1 = 0) ∧ (¬ (0 ≤ a.toInt ∧ a.toInt < 6 ∧ 0 ≤ b.toInt ∧ b.toInt ≤ (sI M qm 1).toInt) → sI M1 qm 1 = sI M qm 1)) ∧ ((0 ≤ a.toInt ∧ a.toInt < 6 ∧ 0 ≤ b.toInt ∧ b.toInt ≤ (sI M qm 1).toInt) → TX f b.toInt 0 v.toInt) ∧ (¬ (0 ≤ a.toInt ∧ a.toInt < 6 ∧ 0 ≤ b.toInt ∧ b.toInt ≤ (sI M qm 1).toInt) → v = (-1))) : Iv S1 M1 qx tp qm rd bt tm ∧ u = v := by
  obtain ⟨hx, hm, r1, r2⟩ := h
  rw [r1] at e1
  by_cases hc : 0 ≤ a.toInt ∧ a.toInt < 6 ∧ 0 ≤ b.toInt ∧ b.toInt ≤ (sI M qm 1).toInt
  · refine ⟨⟨hx.F h1.1 h1.2, hm.F h2.1 h2.2, by rw [e1.1.1 hc, e2.1.1 hc], fun j hj => absurd hj (by rw [e2.1.1 hc, show (0 : Int32).toInt = 0 from rfl]; omega)⟩, (i3_eq _ _).mpr ((e1.2.1 hc).u (e2.2.1 hc) (Int.le_refl 0))⟩
  · refine ⟨⟨hx.F h1.1 h1.2, hm.F h2.1 h2.2, by rw [e1.1.2 hc, e2.1.2 hc], fun j hj => ?_⟩, by rw [e1.2.2 hc, e2.2.2 hc]⟩
    rw [e2.1.2 hc] at hj
    rw [h1.2.iA hx.2.2.2.2.2.2.2.2.1 (by decide) (by decide) n2, h2.2.iA hm.2.2.2.1 (by decide) (by decide) m2]
    exact r2 j hj
theorem G0_ : Gx [] S0_ := ⟨fun a _ k kd n h => by
  have h1 := (rty_lt h).2
  exact absurd h1 (by show ¬ (20 < 10); decide), fun a b j h => absurd h (by show ¬ (20 = 14); decide), fun a b j h => absurd h (by show ¬ (20 = 15); decide), fun a k h => absurd h (by show ¬ (20 < 20); decide)⟩
