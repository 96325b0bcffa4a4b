/-! the least number of HOURS of COMPRESSORS of a plan, on the fresh object: want w in every HOUR, 200 in store, 400 at most, three work -/
def INFp : Nat := 1000000
def okp (w i v : Nat) : Bool := decide (200 + 20 * v ≤ 400 + w * i) && decide (w * (i + 1) ≤ 200 + 20 * v)
def stp (ok : Bool) (t k : Nat) : Nat := if ok = true ∧ t + k < INFp then t + k else INFp
/-- r HOURS left, HOUR i, u used -/
def Mn (w : Nat) : Nat → Nat → Nat → Nat
  | 0, _, _ => 0
  | r + 1, i, u => min (min (stp (okp w i u) (Mn w r (i + 1) u) 0) (stp (okp w i (u + 1)) (Mn w r (i + 1) (u + 1)) 1)) (min (stp (okp w i (u + 2)) (Mn w r (i + 1) (u + 2)) 2) (stp (okp w i (u + 3)) (Mn w r (i + 1) (u + 3)) 3))
/-- what a code's digits (r of them, the highest first) use, or INFp -/
def Fc (w : Nat) : Nat → Nat → Nat → Nat → Nat
  | 0, _, _, _ => 0
  | r + 1, i, u, c => stp (okp w i (u + c / 4 ^ r)) (Fc w r (i + 1) (u + c / 4 ^ r) (c % 4 ^ r)) (c / 4 ^ r)
theorem stp_le (ok : Bool) (t k : Nat) : stp ok t k ≤ INFp := by
  unfold stp
  split
  · omega
  · exact Nat.le_refl _
theorem stp_mono {ok : Bool} {t u k : Nat} (h : t ≤ u) : stp ok t k ≤ stp ok u k := by
  unfold stp
  split
  · rename_i h1
    split
    · omega
    · omega
  · rename_i h1
    split
    · rename_i h2
      exact absurd ⟨h2.1, by omega⟩ h1
    · exact Nat.le_refl _
theorem dg_lt {r c : Nat} (h : c < 4 ^ (r + 1)) : c / 4 ^ r < 4 := by
  rw [Nat.div_lt_iff_lt_mul (Nat.pow_pos (by decide))]
  rw [Nat.pow_succ] at h
  omega
theorem Mn_le (w : Nat) : ∀ (r i u c : Nat), c < 4 ^ r → Mn w r i u ≤ Fc w r i u c := by
  intro r
  induction r with
  | zero => intro i u c _; exact Nat.le_refl _
  | succ r ih =>
    intro i u c hc
    have hk := dg_lt hc
    have hm : c % 4 ^ r < 4 ^ r := Nat.mod_lt _ (Nat.pow_pos (by decide))
    generalize hq : c / 4 ^ r = k at hk
    have h1 := stp_mono (ok := okp w i (u + k)) (k := k) (ih (i + 1) (u + k) (c % 4 ^ r) hm)
    show _ ≤ stp (okp w i (u + c / 4 ^ r)) (Fc w r (i + 1) (u + c / 4 ^ r) (c % 4 ^ r)) (c / 4 ^ r)
    rw [hq]
    refine Nat.le_trans ?_ h1
    show min (min _ _) (min _ _) ≤ _
    have h4 : k = 0 ∨ k = 1 ∨ k = 2 ∨ k = 3 := by omega
    rcases h4 with rfl | rfl | rfl | rfl
    · exact Nat.le_trans (Nat.min_le_left _ _) (Nat.min_le_left _ _)
    · exact Nat.le_trans (Nat.min_le_left _ _) (Nat.min_le_right _ _)
    · exact Nat.le_trans (Nat.min_le_right _ _) (Nat.min_le_left _ _)
    · exact Nat.le_trans (Nat.min_le_right _ _) (Nat.min_le_right _ _)
theorem min4 (a b c d : Nat) : min (min a b) (min c d) = a ∨ min (min a b) (min c d) = b ∨ min (min a b) (min c d) = c ∨ min (min a b) (min c d) = d := by omega
theorem Fc_k {w r i u k c : Nat} (hk : k < 4) (hc : c < 4 ^ r) : k * 4 ^ r + c < 4 ^ (r + 1) ∧ Fc w (r + 1) i u (k * 4 ^ r + c) = stp (okp w i (u + k)) (Fc w r (i + 1) (u + k) c) k := by
  have hp : 0 < 4 ^ r := Nat.pow_pos (by decide)
  have e1 : (k * 4 ^ r + c) / 4 ^ r = k := by
    rw [Nat.mul_comm, Nat.mul_add_div hp, Nat.div_eq_of_lt hc, Nat.add_zero]
  have e2 : (k * 4 ^ r + c) % 4 ^ r = c := by
    rw [Nat.mul_comm, Nat.mul_add_mod, Nat.mod_eq_of_lt hc]
  constructor
  · rw [Nat.pow_succ]
    have h3 : k * 4 ^ r ≤ 3 * 4 ^ r := Nat.mul_le_mul_right _ (by omega)
    omega
  · show stp (okp w i (u + (k * 4 ^ r + c) / 4 ^ r)) (Fc w r (i + 1) (u + (k * 4 ^ r + c) / 4 ^ r) ((k * 4 ^ r + c) % 4 ^ r)) ((k * 4 ^ r + c) / 4 ^ r) = _
    rw [e1, e2]
theorem Mn_ex (w : Nat) : ∀ (r i u : Nat), ∃ c, c < 4 ^ r ∧ Fc w r i u c = Mn w r i u := by
  intro r
  induction r with
  | zero => intro i u; exact ⟨0, by decide, rfl⟩
  | succ r ih =>
    intro i u
    have key : ∀ k, k < 4 → ∃ c, c < 4 ^ (r + 1) ∧ Fc w (r + 1) i u c = stp (okp w i (u + k)) (Mn w r (i + 1) (u + k)) k := fun k hk => by
      obtain ⟨c, h1, h2⟩ := ih (i + 1) (u + k)
      have h3 := Fc_k (w := w) (i := i) (u := u) hk h1
      exact ⟨k * 4 ^ r + c, h3.1, by rw [h3.2, h2]⟩
    have hM : Mn w (r + 1) i u = min (min (stp (okp w i (u + 0)) (Mn w r (i + 1) (u + 0)) 0) (stp (okp w i (u + 1)) (Mn w r (i + 1) (u + 1)) 1)) (min (stp (okp w i (u + 2)) (Mn w r (i + 1) (u + 2)) 2) (stp (okp w i (u + 3)) (Mn w r (i + 1) (u + 3)) 3)) := rfl
    rcases min4 (stp (okp w i (u + 0)) (Mn w r (i + 1) (u + 0)) 0) (stp (okp w i (u + 1)) (Mn w r (i + 1) (u + 1)) 1) (stp (okp w i (u + 2)) (Mn w r (i + 1) (u + 2)) 2) (stp (okp w i (u + 3)) (Mn w r (i + 1) (u + 3)) 3) with h | h | h | h
    · obtain ⟨c, h1, h2⟩ := key 0 (by decide); exact ⟨c, h1, by rw [hM, h, h2]⟩
    · obtain ⟨c, h1, h2⟩ := key 1 (by decide); exact ⟨c, h1, by rw [hM, h, h2]⟩
    · obtain ⟨c, h1, h2⟩ := key 2 (by decide); exact ⟨c, h1, by rw [hM, h, h2]⟩
    · obtain ⟨c, h1, h2⟩ := key 3 (by decide); exact ⟨c, h1, by rw [hM, h, h2]⟩
/-- the least of Fc over the codes below c, as the reference keeps it -/
def Bc (w n : Nat) : Nat → Nat
  | 0 => INFp
  | c + 1 => min (Bc w n c) (Fc w n 0 0 c)
theorem Bc_le (w n : Nat) : ∀ c d, d < c → Bc w n c ≤ Fc w n 0 0 d := by
  intro c
  induction c with
  | zero => intro d h; omega
  | succ c ih =>
    intro d h
    show min _ _ ≤ _
    rcases Nat.lt_or_ge d c with h1 | h1
    · exact Nat.le_trans (Nat.min_le_left _ _) (ih d h1)
    · have : d = c := by omega
      subst this
      exact Nat.min_le_right _ _
theorem Bc_ge (w n m : Nat) (hm : m ≤ INFp) : ∀ c, (∀ d, d < c → m ≤ Fc w n 0 0 d) → m ≤ Bc w n c := by
  intro c
  induction c with
  | zero => intro _; exact hm
  | succ c ih => intro h; exact Nat.le_min.mpr ⟨ih (fun d hd => h d (by omega)), h c (by omega)⟩
theorem Fc_inf (w : Nat) : ∀ r i u c, Fc w r i u c ≤ INFp := by
  intro r
  cases r with
  | zero => intro i u c; exact Nat.zero_le _
  | succ r => intro i u c; exact stp_le _ _ _
theorem Bc_all (w n : Nat) : Bc w n (4 ^ n) = Mn w n 0 0 := by
  obtain ⟨c, h1, h2⟩ := Mn_ex w n 0 0
  refine Nat.le_antisymm ?_ ?_
  · rw [← h2]; exact Bc_le w n _ c h1
  · exact Bc_ge w n _ (by rw [← h2]; exact Fc_inf w n 0 0 c) _ (fun d hd => Mn_le w n 0 0 d hd)
/-- what plan answers on the fresh object -/
def PL (a b : Int32) : Int32 := if 1 ≤ a.toInt ∧ a.toInt ≤ 8 ∧ -20 ≤ b.toInt ∧ b.toInt ≤ 40 then (if Mn (2 * (b.toInt.toNat / 2)) a.toInt.toNat 0 0 < INFp then nI (10 * Mn (2 * (b.toInt.toNat / 2)) a.toInt.toNat 0 0) else (-1)) else (-1)
