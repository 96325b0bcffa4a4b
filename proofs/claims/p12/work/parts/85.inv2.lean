/-! what the law's loop keeps -/
def Rl (S M : St) (qx tp qm : Nat) : Prop := sI S tp 1 = sI M qm 1 ∧ sI S qx 10 = sI M qm 18 ∧ sI S qx 13 = sI M qm 24
def Wx (S : St) (qx tp : Nat) : Prop := G S ∧ sK S qx = 8 ∧ sR S qx 5 = some tp ∧ sK S tp = 7
def Wm (M : St) (qm : Nat) : Prop := G M ∧ sK M qm = 9
def Iv (S M : St) (qx tp qm : Nat) : Prop := Wx S qx tp ∧ Wm M qm ∧ Rl S M qx tp qm
theorem dj_s {S T : St} (h : Dj S T) : Dj T S := fun q h1 h2 => h q h2 h1
theorem Wx.F {S T : St} {qx tp : Nat} {ks : List Nat} (h : Wx S qx tp) (hG : G T) (hF : Fr [] ks S T) : Wx T qx tp := ⟨hG, hF.k h.2.1 (by decide), hF.r h.2.1 (by decide) h.2.2.1, hF.k h.2.2.2 (by decide)⟩
theorem Wm.F {S T : St} {qm : Nat} {ks : List Nat} (h : Wm S qm) (hG : G T) (hF : Fr [] ks S T) : Wm T qm := ⟨hG, hF.k h.2 (by decide)⟩
/-- what a call answers in the state behind it: it was written, or nothing was -/
def Px (ks : List Nat) (S S1 : St) : Prop := G S1 ∧ Fr [] ks S S1
theorem Px.pu {S S1 : St} (h : S1 = S) (hG : G S) : Px [] S S1 := by rw [h]; exact ⟨hG, Fr.rf _ _ _⟩
theorem Iv.keep {S M S1 M1 : St} {qx tp qm : Nat} {ks ks' : List Nat} (h : Iv S M qx tp qm) (h1 : Px ks S S1) (h2 : Px ks' M M1) (n1 : cd 7 1 ∉ ks) (n2 : cd 8 10 ∉ ks) (n3 : cd 8 13 ∉ ks) (m1 : cd 9 1 ∉ ks') (m2 : cd 9 18 ∉ ks') (m3 : cd 9 24 ∉ ks') : Iv S1 M1 qx tp qm := by
  obtain ⟨hx, hm, r1, r2, r3⟩ := h
  refine ⟨hx.F h1.1 h1.2, hm.F h2.1 h2.2, ?_, ?_, ?_⟩
  · rw [h1.2.i hx.2.2.2 (by decide) n1, h2.2.i hm.2 (by decide) m1]; exact r1
  · rw [h1.2.i hx.2.1 (by decide) n2, h2.2.i hm.2 (by decide) m2]; exact r2
  · rw [h1.2.i hx.2.1 (by decide) n3, h2.2.i hm.2 (by decide) m3]; exact r3
theorem Iv.feed {S M S1 M1 : St} {qx tp qm : Nat} {ks ks' : List Nat} {u v : Int32} (h : Iv S M qx tp qm) (h1 : Px ks S S1) (h2 : Px ks' M M1) (n2 : cd 8 10 ∉ ks) (n3 : cd 8 13 ∉ ks) (m2 : cd 9 18 ∉ ks') (m3 : cd 9 24 ∉ ks')
    (e1 : ((sI S tp 1).toInt ≤ 60 → u = sI S1 tp 1 ∧ (sI S1 tp 1).toInt = (sI S tp 1).toInt + 20) ∧ (60 < (sI S tp 1).toInt → u = (-1) ∧ sI S1 tp 1 = sI S tp 1))
    (e2 : ((sI M qm 1).toInt ≤ 60 → v = sI M1 qm 1 ∧ (sI M1 qm 1).toInt = (sI M qm 1).toInt + 20) ∧ (60 < (sI M qm 1).toInt → v = (-1) ∧ sI M1 qm 1 = sI M qm 1)) : Iv S1 M1 qx tp qm ∧ u = v := by
  obtain ⟨hx, hm, r1, r2, r3⟩ := h
  have q2 : sI S1 qx 10 = sI M1 qm 18 := by rw [h1.2.i hx.2.1 (by decide) n2, h2.2.i hm.2 (by decide) m2]; exact r2
  have q3 : sI S1 qx 13 = sI M1 qm 24 := by rw [h1.2.i hx.2.1 (by decide) n3, h2.2.i hm.2 (by decide) m3]; exact r3
  rw [r1] at e1
  by_cases hc : (sI M qm 1).toInt ≤ 60
  · obtain ⟨a1, a2⟩ := e1.1 hc
    obtain ⟨b1, b2⟩ := e2.1 hc
    have q1 : sI S1 tp 1 = sI M1 qm 1 := (i3_eq _ _).mpr (by rw [a2, b2])
    exact ⟨⟨hx.F h1.1 h1.2, hm.F h2.1 h2.2, q1, q2, q3⟩, by rw [a1, b1, q1]⟩
  · obtain ⟨a1, a2⟩ := e1.2 (by omega)
    obtain ⟨b1, b2⟩ := e2.2 (by omega)
    exact ⟨⟨hx.F h1.1 h1.2, hm.F h2.1 h2.2, by rw [a2, b2], q2, q3⟩, by rw [a1, b1]⟩
theorem Iv.rights {S M S1 M1 : St} {qx tp qm : Nat} {ks ks' : List Nat} {a b : Int32} (h : Iv S M qx tp qm) (h1 : Px ks S S1) (h2 : Px ks' M M1) (n2 : cd 8 10 ∉ ks) (n3 : cd 8 13 ∉ ks) (m2 : cd 9 18 ∉ ks') (m3 : cd 9 24 ∉ ks')
    (e1 : ((0 ≤ a.toInt ∧ a.toInt < 6 ∧ 0 ≤ b.toInt ∧ b.toInt ≤ (sI S tp 1).toInt) → sI S1 tp 1 = 0) ∧ (¬ (0 ≤ a.toInt ∧ a.toInt < 6 ∧ 0 ≤ b.toInt ∧ b.toInt ≤ (sI S tp 1).toInt) → sI S1 tp 1 = sI S tp 1))
    (e2 : ((0 ≤ a.toInt ∧ a.toInt < 6 ∧ 0 ≤ b.toInt ∧ b.toInt ≤ (sI M qm 1).toInt) → sI M1 qm 1 = 0) ∧ (¬ (0 ≤ a.toInt ∧ a.toInt < 6 ∧ 0 ≤ b.toInt ∧ b.toInt ≤ (sI M qm 1).toInt) → sI M1 qm 1 = sI M qm 1)) : Iv S1 M1 qx tp qm := by
  obtain ⟨hx, hm, r1, r2, r3⟩ := h
  have q2 : sI S1 qx 10 = sI M1 qm 18 := by rw [h1.2.i hx.2.1 (by decide) n2, h2.2.i hm.2 (by decide) m2]; exact r2
  have q3 : sI S1 qx 13 = sI M1 qm 24 := by rw [h1.2.i hx.2.1 (by decide) n3, h2.2.i hm.2 (by decide) m3]; exact r3
  rw [r1] at e1
  by_cases hc : 0 ≤ a.toInt ∧ a.toInt < 6 ∧ 0 ≤ b.toInt ∧ b.toInt ≤ (sI M qm 1).toInt
  · exact ⟨hx.F h1.1 h1.2, hm.F h2.1 h2.2, by rw [e1.1 hc, e2.1 hc], q2, q3⟩
  · exact ⟨hx.F h1.1 h1.2, hm.F h2.1 h2.2, by rw [e1.2 hc, e2.2 hc], q2, q3⟩
theorem Iv.comp {S M S1 M1 : St} {qx tp qm : Nat} {ks ks' : List Nat} {a u v : Int32} (h : Iv S M qx tp qm) (h1 : Px ks S S1) (h2 : Px ks' M M1) (n1 : cd 7 1 ∉ ks) (n2 : cd 8 10 ∉ ks) (m1 : cd 9 1 ∉ ks') (m2 : cd 9 18 ∉ ks')
    (e1 : (u.toInt = 1 ∧ (0 ≤ a.toInt ∧ a.toInt ≤ 3) ∧ sI S1 qx 13 = a) ∨ (u.toInt = 0 ∧ ¬ (0 ≤ a.toInt ∧ a.toInt ≤ 3) ∧ sI S1 qx 13 = sI S qx 13))
    (e2 : (v.toInt = 1 ∧ (0 ≤ a.toInt ∧ a.toInt ≤ 3) ∧ sI M1 qm 24 = a) ∨ (v.toInt = 0 ∧ ¬ (0 ≤ a.toInt ∧ a.toInt ≤ 3) ∧ sI M1 qm 24 = sI M qm 24)) : Iv S1 M1 qx tp qm ∧ u = v := by
  obtain ⟨hx, hm, r1, r2, r3⟩ := h
  have q1 : sI S1 tp 1 = sI M1 qm 1 := by rw [h1.2.i hx.2.2.2 (by decide) n1, h2.2.i hm.2 (by decide) m1]; exact r1
  have q2 : sI S1 qx 10 = sI M1 qm 18 := by rw [h1.2.i hx.2.1 (by decide) n2, h2.2.i hm.2 (by decide) m2]; exact r2
  rcases e1 with ⟨a1, a2, a3⟩ | ⟨a1, a2, a3⟩ <;> rcases e2 with ⟨b1, b2, b3⟩ | ⟨b1, b2, b3⟩
  · exact ⟨⟨hx.F h1.1 h1.2, hm.F h2.1 h2.2, q1, q2, by rw [a3, b3]⟩, (i3_eq _ _).mpr (by rw [a1, b1])⟩
  · exact absurd a2 b2
  · exact absurd b2 a2
  · exact ⟨⟨hx.F h1.1 h1.2, hm.F h2.1 h2.2, q1, q2, by rw [a3, b3]; exact r3⟩, (i3_eq _ _).mpr (by rw [a1, b1])⟩
theorem Iv.step {S M S1 M1 : St} {qx tp qm : Nat} {ks ks' : List Nat} {a b u v : Int32} (h : Iv S M qx tp qm) (h1 : Px ks S S1) (h2 : Px ks' M M1) (n1 : cd 7 1 ∉ ks) (n3 : cd 8 13 ∉ ks) (m1 : cd 9 1 ∉ ks') (m3 : cd 9 24 ∉ ks')
    (e1 : ((-20 ≤ a.toInt ∧ a.toInt ≤ 40 ∧ 0 ≤ b.toInt ∧ b.toInt ≤ (sI S qx 13).toInt ∧ (sI S qx 10).toInt < 990) → u = sI S1 qx 10 ∧ (sI S1 qx 10).toInt = (sI S qx 10).toInt + 1) ∧ (¬ (-20 ≤ a.toInt ∧ a.toInt ≤ 40 ∧ 0 ≤ b.toInt ∧ b.toInt ≤ (sI S qx 13).toInt ∧ (sI S qx 10).toInt < 990) → u = (-1) ∧ sI S1 qx 10 = sI S qx 10))
    (e2 : ((-20 ≤ a.toInt ∧ a.toInt ≤ 40 ∧ 0 ≤ b.toInt ∧ b.toInt ≤ (sI M qm 24).toInt ∧ (sI M qm 18).toInt < 990) → v = sI M1 qm 18 ∧ (sI M1 qm 18).toInt = (sI M qm 18).toInt + 1) ∧ (¬ (-20 ≤ a.toInt ∧ a.toInt ≤ 40 ∧ 0 ≤ b.toInt ∧ b.toInt ≤ (sI M qm 24).toInt ∧ (sI M qm 18).toInt < 990) → v = (-1) ∧ sI M1 qm 18 = sI M qm 18)) : Iv S1 M1 qx tp qm ∧ u = v := by
  obtain ⟨hx, hm, r1, r2, r3⟩ := h
  have q1 : sI S1 tp 1 = sI M1 qm 1 := by rw [h1.2.i hx.2.2.2 (by decide) n1, h2.2.i hm.2 (by decide) m1]; exact r1
  have q3 : sI S1 qx 13 = sI M1 qm 24 := by rw [h1.2.i hx.2.1 (by decide) n3, h2.2.i hm.2 (by decide) m3]; exact r3
  rw [r2, r3] at e1
  by_cases hc : -20 ≤ a.toInt ∧ a.toInt ≤ 40 ∧ 0 ≤ b.toInt ∧ b.toInt ≤ (sI M qm 24).toInt ∧ (sI M qm 18).toInt < 990
  · obtain ⟨a1, a2⟩ := e1.1 hc
    obtain ⟨b1, b2⟩ := e2.1 hc
    have q2 : sI S1 qx 10 = sI M1 qm 18 := (i3_eq _ _).mpr (by rw [a2, b2])
    exact ⟨⟨hx.F h1.1 h1.2, hm.F h2.1 h2.2, q1, q2, q3⟩, by rw [a1, b1, q2]⟩
  · obtain ⟨a1, a2⟩ := e1.2 hc
    obtain ⟨b1, b2⟩ := e2.2 hc
    exact ⟨⟨hx.F h1.1 h1.2, hm.F h2.1 h2.2, q1, by rw [a2, b2], q3⟩, by rw [a1, b1]⟩
theorem tw_b {P : Prop} {u v : Int32} (h1 : (u.toInt = 1 ∧ P) ∨ (u.toInt = 0 ∧ ¬ P)) (h2 : (v.toInt = 1 ∧ P) ∨ (v.toInt = 0 ∧ ¬ P)) : u = v := by
  refine (i3_eq _ _).mpr ?_
  rcases h1 with ⟨e1, h1⟩ | ⟨e1, h1⟩ <;> rcases h2 with ⟨e2, h2⟩ | ⟨e2, h2⟩
  · exact e1.trans e2.symm
  · exact absurd h1 h2
  · exact absurd h2 h1
  · exact e1.trans e2.symm
theorem G0_ : Gx [] S0_ := ⟨fun a _ k kd n h => by
  have h1 := (rty_lt h).2
  exact absurd h1 (by show ¬ (20 < 10); decide), fun a b j h => absurd h (by show ¬ (20 = 14); decide), fun a b j h => absurd h (by show ¬ (20 = 15); decide), fun a k h => absurd h (by show ¬ (20 < 20); decide)⟩
