/-! plan of the reference on the fresh object: the arithmetic of its loops -/
theorem half_b {b r : Int32} (h : r = (if 0 ≤ b then b / 2 else 0)) (hb : b.toInt ≤ 40) : r = nI (b.toInt.toNat / 2) := by
  rw [h]
  by_cases h1 : 0 ≤ b
  · rw [if_pos h1]
    have h2 : 0 ≤ b.toInt := (i3_le _ _).mp h1
    obtain ⟨j, hj, rfl⟩ := nn_of (x := b) (by omega)
    rw [nI_toInt hj, show (2 : Int32) = nI 2 from rfl, pk_div hj (by decide) (by decide)]
    rfl
  · rw [if_neg h1]
    have h2 : ¬ 0 ≤ b.toInt := fun q => h1 ((i3_le _ _).mpr q)
    rw [show b.toInt.toNat / 2 = 0 from by omega]
    rfl
theorem pow4 {n : Nat} (h : n ≤ 8) : 4 ^ n ≤ 65536 := Nat.pow_le_pow_right (n := 4) (by decide) h
theorem dg_next {cd n z x : Nat} (hz : z + 1 ≤ n) (hx : x = cd / 4 ^ (n - (z + 1))) : x / 4 = cd / 4 ^ (n - z) := by
  rw [hx, show n - z = (n - (z + 1)) + 1 from by omega, Nat.pow_succ, Nat.div_div_eq_div_mul]
theorem stp_t (t k : Nat) : stp true t k = if t + k < INFp then t + k else INFp := by
  unfold stp
  by_cases h : t + k < INFp
  · rw [if_pos ⟨rfl, h⟩, if_pos h]
  · rw [if_neg (fun q => h q.2), if_neg h]
theorem stp_tt (t d u : Nat) : stp true (stp true t d) u = stp true t (u + d) := by
  rw [stp_t t d, stp_t t (u + d), stp_t]
  by_cases h : t + d < INFp
  · rw [if_pos h]
    by_cases h2 : t + d + u < INFp
    · rw [if_pos h2, if_pos (by omega)]
      omega
    · rw [if_neg h2, if_neg (by omega)]
  · rw [if_neg h, if_neg (by omega), if_neg (by omega)]
theorem stp_f (t k : Nat) : stp false t k = INFp := by
  unfold stp
  rw [if_neg (fun q => absurd q.1 (by decide))]
theorem Fc_step {w n i u cd d : Nat} (hi : i < n) (hd : d = cd / 4 ^ (n - 1 - i) % 4) : Fc w (n - i) i u (cd % 4 ^ (n - i)) = stp (okp w i (u + d)) (Fc w (n - (i + 1)) (i + 1) (u + d) (cd % 4 ^ (n - (i + 1)))) d := by
  have e1 : n - i = (n - 1 - i) + 1 := by omega
  have e2 : n - (i + 1) = n - 1 - i := by omega
  rw [e1, e2]
  generalize n - 1 - i = r at hd
  have e3 : cd % 4 ^ (r + 1) / 4 ^ r = d := by
    rw [hd, Nat.pow_succ, Nat.mod_mul_right_div_self]
  have e4 : cd % 4 ^ (r + 1) % 4 ^ r = cd % 4 ^ r := Nat.mod_mod_of_dvd cd (by rw [Nat.pow_succ]; exact Nat.dvd_mul_right _ _)
  show stp (okp w i (u + cd % 4 ^ (r + 1) / 4 ^ r)) (Fc w r (i + 1) (u + cd % 4 ^ (r + 1) / 4 ^ r) (cd % 4 ^ (r + 1) % 4 ^ r)) (cd % 4 ^ (r + 1) / 4 ^ r) = _
  rw [e3, e4]
/-- the simulation of a code, i HOURS on -/
def Sim (w n cd i : Nat) (hs pe ns gd : Int32) : Prop := (gd = 1 ∧ ∃ u x, u ≤ 3 * i ∧ x + w * i = 200 + 20 * u ∧ x ≤ 400 ∧ hs = nI x ∧ pe = nI (10 * u) ∧ ns = nI u ∧ stp true (Fc w (n - i) i u (cd % 4 ^ (n - i))) u = Fc w n 0 0 cd) ∨ (gd = 0 ∧ Fc w n 0 0 cd = INFp)
theorem Sim_0 {w n cd : Nat} (hcd : cd < 4 ^ n) : Sim w n cd 0 200 0 0 1 := by
  refine Or.inl ⟨rfl, 0, 200, Nat.le_refl _, by omega, by omega, rfl, rfl, rfl, ?_⟩
  rw [Nat.sub_zero, Nat.mod_eq_of_lt hcd, stp_t]
  have := Fc_inf w n 0 0 cd
  by_cases h : Fc w n 0 0 cd + 0 < INFp
  · rw [if_pos h]; rfl
  · rw [if_neg h]; omega
theorem Sim_ok {w n cd i u x d : Nat} {v : Int32} (hi : i < n) (hu : u ≤ 3 * i) (hx : x + w * i = 200 + 20 * u) (hT : stp true (Fc w (n - i) i u (cd % 4 ^ (n - i))) u = Fc w n 0 0 cd) (hd : d = cd / 4 ^ (n - 1 - i) % 4) (h1 : x + 20 * d ≤ 400) (h2 : w ≤ x + 20 * d) (hv : v = nI (x + 20 * d) - nI w) : Sim w n cd (i + 1) v (nI (10 * u + d * 10)) (nI (u + d)) 1 := by
  have hd4 : d < 4 := by rw [hd]; exact Nat.mod_lt _ (by decide)
  have hs : w * (i + 1) = w * i + w := Nat.mul_succ w i
  refine Or.inl ⟨rfl, u + d, x + 20 * d - w, by omega, by omega, by omega, ?_, ?_, rfl, ?_⟩
  · rw [hv, pk_sub h2]
  · rw [show 10 * u + d * 10 = 10 * (u + d) from by omega]
  · rw [← hT, Fc_step hi hd, okp_iff.mpr ⟨by omega, by omega⟩, stp_tt]
theorem Sim_no {w n cd i u x d : Nat} {v p q : Int32} (hi : i < n) (hx : x + w * i = 200 + 20 * u) (hT : stp true (Fc w (n - i) i u (cd % 4 ^ (n - i))) u = Fc w n 0 0 cd) (hd : d = cd / 4 ^ (n - 1 - i) % 4) (h : ¬ (x + 20 * d ≤ 400 ∧ w ≤ x + 20 * d)) : Sim w n cd (i + 1) v p q 0 := by
  have hs : w * (i + 1) = w * i + w := Nat.mul_succ w i
  refine Or.inr ⟨rfl, ?_⟩
  have hf : okp w i (u + d) = false := by
    rcases hb : okp w i (u + d) with _ | _
    · rfl
    · have := okp_iff.mp hb
      exact absurd ⟨by omega, by omega⟩ h
  rw [← hT, Fc_step hi hd, hf, stp_f, stp_t, if_neg (by omega)]
theorem Sim_end {w n cd : Nat} {hs pe ns gd : Int32} (hn : n ≤ 8) (h : Sim w n cd n hs pe ns gd) (hg : ¬ gd = 0) : ∃ u, u ≤ 24 ∧ Fc w n 0 0 cd = u ∧ pe = nI (10 * u) ∧ ns = nI u := by
  rcases h with ⟨-, u, x, h1, -, -, -, h5, h6, h7⟩ | ⟨h, -⟩
  · refine ⟨u, by omega, ?_, h5, h6⟩
    rw [← h7, Nat.sub_self]
    show stp true 0 u = u
    rw [stp_t, if_pos (by show 0 + u < 1000000; omega), Nat.zero_add]
  · exact absurd h hg
/-- what the reference keeps of the best code -/
def Bst (t : Nat) (bc bo : Int32) : Prop := (t = INFp ∧ bc = -1) ∨ (t ≤ 24 ∧ bc = nI (10 * t) ∧ bo = nI t)
theorem Bst_up {t u : Nat} {bc bo : Int32} (h : Bst t bc bo) (hu : u ≤ 24) (hc : bc.toInt = -1 ∨ (¬ bc.toInt < (nI (10 * u)).toInt ∧ ¬ (nI (10 * u)).toInt = bc.toInt) ∨ (¬ bc.toInt = -1 ∧ (nI u).toInt < bo.toInt)) : Bst (min t u) (nI (10 * u)) (nI u) := by
  have e1 : (nI (10 * u)).toInt = (10 * u : Nat) := nI_toInt (by omega)
  have e2 : (nI u).toInt = (u : Nat) := nI_toInt (by omega)
  rw [e1, e2] at hc
  have hI : INFp = 1000000 := rfl
  rcases h with ⟨h1, h2⟩ | ⟨h1, h2, h3⟩
  · rw [Nat.min_eq_right (by omega)]
    exact Or.inr ⟨hu, rfl, rfl⟩
  · rw [h2, h3, nI_toInt (by omega), nI_toInt (by omega)] at hc
    rw [Nat.min_eq_right (by omega)]
    exact Or.inr ⟨hu, rfl, rfl⟩
theorem Bst_keep {t u : Nat} {bc bo : Int32} (h : Bst t bc bo) (hu : u ≤ 24) (h0 : ¬ bc.toInt = -1) (hc : bc.toInt < (nI (10 * u)).toInt ∨ ((nI (10 * u)).toInt = bc.toInt ∧ ¬ (nI u).toInt < bo.toInt)) : Bst (min t u) bc bo := by
  have e1 : (nI (10 * u)).toInt = (10 * u : Nat) := nI_toInt (by omega)
  have e2 : (nI u).toInt = (u : Nat) := nI_toInt (by omega)
  rw [e1, e2] at hc
  rcases h with ⟨h1, h2⟩ | ⟨h1, h2, h3⟩
  · exact absurd (by rw [h2]; rfl) h0
  · have hc2 := hc
    rw [h2, h3, nI_toInt (by omega), nI_toInt (by omega)] at hc2
    rw [Nat.min_eq_left (by omega)]
    exact Or.inr ⟨h1, h2, h3⟩
theorem Bst_inf {t f : Nat} {bc bo : Int32} (h : Bst t bc bo) (hf : f = INFp) : Bst (min t f) bc bo := by
  have hI : INFp = 1000000 := rfl
  have : min t f = t := by
    rcases h with h | h
    · omega
    · omega
  rw [this]; exact h
theorem Sim_bad {w n cd i : Nat} {hs pe ns gd : Int32} (h : Sim w n cd i hs pe ns gd) (hg : gd = 0) : Fc w n 0 0 cd = INFp := by
  rcases h with ⟨h, -⟩ | ⟨-, h⟩
  · rw [h] at hg; exact absurd hg (by decide)
  · exact h
theorem Bst_end {w n : Nat} {bc bo : Int32} (h : Bst (Bc w n (4 ^ n)) bc bo) : bc = PLv w n := by
  have hI : INFp = 1000000 := rfl
  rw [Bc_all] at h
  unfold PLv
  rcases h with ⟨h1, h2⟩ | ⟨h1, h2, -⟩
  · rw [if_neg (by omega)]; exact h2
  · rw [if_pos (by omega)]; exact h2
