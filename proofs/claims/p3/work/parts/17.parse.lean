/-! the texts of RIGHTS: what reading them answers, told once for both sides -/
def ch (f : Nat → Int32) (p : Int) : Int := (f p.toNat &&& 255).toInt
def vv (f : Nat → Int32) (s : Int) : Nat → Int
  | 0 => 0
  | k + 1 => 10 * vv f s k + ch f (s + k) - 48
/-- from s up to p stand digits, of the number v -/
def DR (f : Nat → Int32) (n s p v : Int) : Prop := s ≤ p ∧ (∀ j, s ≤ j → j < p → j < n ∧ 48 ≤ ch f j ∧ ch f j ≤ 57) ∧ v = vv f s (p - s).toNat
theorem DR.z {f : Nat → Int32} {n s p v : Int} (h : p = s) (hv : v = 0) : DR f n s p v := by
  subst h; subst hv
  refine ⟨Int.le_refl _, fun j h1 h2 => absurd h1 (by omega), ?_⟩
  rw [show (p - p).toNat = 0 by omega]; rfl
theorem DR.s {f : Nat → Int32} {n s p v p2 v2 : Int} (h : DR f n s p v) (hd : p < n ∧ 48 ≤ ch f p ∧ ch f p ≤ 57) (hp : p2 = p + 1) (hv : v2 = 10 * v + ch f p - 48) : DR f n s p2 v2 := by
  subst hp
  obtain ⟨h1, h2, h3⟩ := h
  refine ⟨by omega, fun j a b => ?_, ?_⟩
  · by_cases e : j = p
    · rw [e]; exact hd
    · exact h2 j a (by omega)
  · rw [show (p + 1 - s).toNat = (p - s).toNat + 1 by omega, hv, h3]
    show _ = 10 * vv f s (p - s).toNat + ch f (s + ((p - s).toNat : Nat)) - 48
    rw [show s + (((p - s).toNat : Nat) : Int) = p by omega]
theorem DR.c {f : Nat → Int32} {n s p v p2 v2 : Int} (h : DR f n s p v) (hp : p2 = p) (hv : v2 = v) : DR f n s p2 v2 := by
  subst hp; subst hv; exact h
theorem vv_b {f : Nat → Int32} {s : Int} : ∀ k : Nat, (∀ j, s ≤ j → j < s + k → 48 ≤ ch f j ∧ ch f j ≤ 57) → 0 ≤ vv f s k ∧ vv f s k < 10 ^ k
  | 0, _ => by
    show (0 : Int) ≤ 0 ∧ (0 : Int) < 10 ^ 0
    decide
  | k + 1, h => by
    have h1 := vv_b k (fun j a b => h j a (by omega))
    have h2 := h (s + k) (by omega) (by omega)
    show 0 ≤ 10 * vv f s k + ch f (s + k) - 48 ∧ 10 * vv f s k + ch f (s + k) - 48 < 10 ^ (k + 1)
    rw [Int.pow_succ]
    omega
theorem DR.b {f : Nat → Int32} {n s p v : Int} (h : DR f n s p v) : 0 ≤ v ∧ v < 10 ^ (p - s).toNat := by
  obtain ⟨h1, h2, h3⟩ := h
  rw [h3]
  exact vv_b _ (fun j a b => (h2 j a (by omega)).2)
theorem DR.b3 {f : Nat → Int32} {n s p v : Int} (h : DR f n s p v) (hp : p < s + 4) : 0 ≤ v ∧ v ≤ 999 := by
  have h1 := h.b
  have h0 := h.1
  obtain ⟨k, hk⟩ : ∃ k : Nat, (p - s).toNat = k := ⟨_, rfl⟩
  rw [hk] at h1
  have hk4 : k < 4 := by omega
  match k, hk4, h1 with
  | 0, _, h1 => exact ⟨h1.1, by have := h1.2; omega⟩
  | 1, _, h1 => exact ⟨h1.1, by have := h1.2; omega⟩
  | 2, _, h1 => exact ⟨h1.1, by have := h1.2; omega⟩
  | 3, _, h1 => exact ⟨h1.1, by have := h1.2; omega⟩
theorem DR.b4 {f : Nat → Int32} {n s p v : Int} (h : DR f n s p v) (hp : p ≤ s + 4) : 0 ≤ v ∧ v ≤ 9999 := by
  have h1 := h.b
  have h0 := h.1
  obtain ⟨k, hk⟩ : ∃ k : Nat, (p - s).toNat = k := ⟨_, rfl⟩
  rw [hk] at h1
  have hk4 : k < 5 := by omega
  match k, hk4, h1 with
  | 0, _, h1 => exact ⟨h1.1, by have := h1.2; omega⟩
  | 1, _, h1 => exact ⟨h1.1, by have := h1.2; omega⟩
  | 2, _, h1 => exact ⟨h1.1, by have := h1.2; omega⟩
  | 3, _, h1 => exact ⟨h1.1, by have := h1.2; omega⟩
  | 4, _, h1 => exact ⟨h1.1, by have := h1.2; omega⟩
/-- a number from s on: its value, the place behind it, its FAULT (0: none) -/
def NR (f : Nat → Int32) (n lo hi s v p r : Int) : Prop := DR f n s p v ∧ p ≤ s + 4 ∧
  ((p = s + 4 ∧ (p < n ∧ 48 ≤ ch f p ∧ ch f p ≤ 57) ∧ r = 100 + p) ∨
   (¬ (p < n ∧ 48 ≤ ch f p ∧ ch f p ≤ 57) ∧ p = s ∧ r = 100 + p) ∨
   (¬ (p < n ∧ 48 ≤ ch f p ∧ ch f p ≤ 57) ∧ s < p ∧ (v < lo ∨ hi < v) ∧ r = 200 + s) ∨
   (¬ (p < n ∧ 48 ≤ ch f p ∧ ch f p ≤ 57) ∧ s < p ∧ lo ≤ v ∧ v ≤ hi ∧ r = 0))
theorem NR.u {f : Nat → Int32} {n lo hi s v p r v' p' r' : Int} (h : NR f n lo hi s v p r) (h' : NR f n lo hi s v' p' r') : v = v' ∧ p = p' ∧ r = r' := by
  obtain ⟨⟨a1, a2, a3⟩, a4, a5⟩ := h
  obtain ⟨⟨b1, b2, b3⟩, b4, b5⟩ := h'
  have e : p = p' := by
    rcases Int.lt_trichotomy p p' with h1 | h1 | h1
    · have := b2 p a1 h1; omega
    · exact h1
    · have := a2 p' b1 h1; omega
  subst e
  have e2 : v = v' := by rw [a3, b3]
  subst e2
  exact ⟨rfl, rfl, by omega⟩
theorem NR.p {f : Nat → Int32} {n lo hi s v p r : Int} (h : NR f n lo hi s v p r) : s ≤ p ∧ p ≤ s + 4 := ⟨h.1.1, h.2.1⟩
theorem NR.n {f : Nat → Int32} {n lo hi s v p r : Int} (h : NR f n lo hi s v p r) : p = s ∨ p ≤ n := by
  by_cases e : p = s
  · exact Or.inl e
  · have := (h.1.2.1 (p - 1) (by have := h.1.1; omega) (by omega)).1
    exact Or.inr (by omega)
theorem NR.v {f : Nat → Int32} {n lo hi s v p r : Int} (h : NR f n lo hi s v p r) : 0 ≤ v ∧ v ≤ 9999 := h.1.b4 h.2.1
theorem NR.ok {f : Nat → Int32} {n lo hi s v p r : Int} (h : NR f n lo hi s v p r) (hr : r = 0) (hs : 0 ≤ s) : lo ≤ v ∧ v ≤ hi ∧ p ≤ n ∧ s < p := by
  have h1 := h.n
  have h2 := h.2.2
  have h3 := h.1.1
  omega
theorem NR.r {f : Nat → Int32} {n lo hi s v p r : Int} (h : NR f n lo hi s v p r) : 0 ≤ s → 0 ≤ r ∧ r ≤ 200 + p := by
  have h2 := h.2.2
  have h3 := h.1.1
  intro h0
  omega
/-- from s up to p stand digits below b -/
def DS (f : Nat → Int32) (n b s p : Int) : Prop := s ≤ p ∧ (∀ j, s ≤ j → j < p → (j < n ∧ 48 ≤ ch f j ∧ ch f j ≤ 57) ∧ ch f j - 48 < b)
theorem DS.z {f : Nat → Int32} {n b s p : Int} (h : p = s) : DS f n b s p := by
  subst h
  exact ⟨Int.le_refl _, fun j h1 h2 => absurd h1 (by omega)⟩
theorem DS.s {f : Nat → Int32} {n b s p p2 : Int} (h : DS f n b s p) (hd : p < n ∧ 48 ≤ ch f p ∧ ch f p ≤ 57) (hb : ch f p - 48 < b) (hp : p2 = p + 1) : DS f n b s p2 := by
  subst hp
  obtain ⟨h1, h2⟩ := h
  refine ⟨by omega, fun j a c => ?_⟩
  by_cases e : j = p
  · rw [e]; exact ⟨hd, hb⟩
  · exact h2 j a (by omega)
theorem DS.c {f : Nat → Int32} {n b s p p2 : Int} (h : DS f n b s p) (hp : p2 = p) : DS f n b s p2 := by
  subst hp; exact h
/-- digits of a set from s on: the place behind them, the FAULT -/
def SR (f : Nat → Int32) (n m b s p r : Int) : Prop := DS f n b s p ∧ p ≤ s + m ∧
  ((p = s + m ∧ (p < n ∧ 48 ≤ ch f p ∧ ch f p ≤ 57) ∧ r = 100 + p) ∨
   (¬ (p < n ∧ 48 ≤ ch f p ∧ ch f p ≤ 57) ∧ p = s ∧ r = 100 + p) ∨
   (p < s + m ∧ (p < n ∧ 48 ≤ ch f p ∧ ch f p ≤ 57) ∧ b ≤ ch f p - 48 ∧ r = 200 + p) ∨
   (¬ (p < n ∧ 48 ≤ ch f p ∧ ch f p ≤ 57) ∧ s < p ∧ r = 0))
theorem SR.u {f : Nat → Int32} {n m b s p r p' r' : Int} (h : SR f n m b s p r) (h' : SR f n m b s p' r') : p = p' ∧ r = r' := by
  obtain ⟨⟨a1, a2⟩, a4, a5⟩ := h
  obtain ⟨⟨b1, b2⟩, b4, b5⟩ := h'
  have e : p = p' := by
    rcases Int.lt_trichotomy p p' with h1 | h1 | h1
    · have := b2 p a1 h1; omega
    · exact h1
    · have := a2 p' b1 h1; omega
  subst e
  exact ⟨rfl, by omega⟩
theorem SR.n {f : Nat → Int32} {n m b s p r : Int} (h : SR f n m b s p r) : p = s ∨ p ≤ n := by
  by_cases e : p = s
  · exact Or.inl e
  · have := (h.1.2 (p - 1) (by have := h.1.1; omega) (by omega)).1
    exact Or.inr (by omega)
theorem SR.p {f : Nat → Int32} {n m b s p r : Int} (h : SR f n m b s p r) : s ≤ p ∧ p ≤ s + m := ⟨h.1.1, h.2.1⟩
theorem SR.ok {f : Nat → Int32} {n m b s p r : Int} (h : SR f n m b s p r) (hr : r = 0) (hs : 0 ≤ s) : p ≤ n ∧ s < p := by
  have h1 := h.n
  have h2 := h.2.2
  have h3 := h.1.1
  omega
/-- what stands behind a w -/
def WR (f : Nat → Int32) (n s p r : Int) : Prop := ∃ v1 p1 r1, NR f n 0 23 s v1 p1 r1 ∧
  ((¬ r1 = 0 ∧ p = p1 ∧ r = r1) ∨ (r1 = 0 ∧ ¬ (p1 < n ∧ ch f p1 = 45) ∧ p = p1 ∧ r = 100 + p1) ∨ (r1 = 0 ∧ (p1 < n ∧ ch f p1 = 45) ∧ ∃ v2, NR f n (v1 + 1) 24 (p1 + 1) v2 p r))
theorem WR.u {f : Nat → Int32} {n s p r p' r' : Int} (h : WR f n s p r) (h' : WR f n s p' r') : p = p' ∧ r = r' := by
  obtain ⟨v1, p1, r1, a, h⟩ := h
  obtain ⟨v1', p1', r1', a', h'⟩ := h'
  obtain ⟨e1, e2, e3⟩ := a.u a'
  subst e1; subst e2; subst e3
  rcases h with h | h | ⟨h1, h2, v2, h3⟩ <;> rcases h' with h' | h' | ⟨h1', h2', v2', h3'⟩
  · omega
  · omega
  · exact absurd h1' h.1
  · omega
  · omega
  · exact absurd h2' h.2.1
  · exact absurd h1 h'.1
  · exact absurd h2 h'.2.1
  · exact (h3.u h3').2
theorem WR.ok {f : Nat → Int32} {n s p r : Int} (h : WR f n s p r) (hr : r = 0) (hs : 0 ≤ s) : p ≤ n ∧ s < p := by
  obtain ⟨v1, p1, r1, a, h⟩ := h
  have hp := a.p
  rcases h with h | h | ⟨h1, h2, v2, h3⟩
  · omega
  · omega
  · have h4 := a.ok h1 hs
    have h5 := h3.ok hr (by omega)
    omega
theorem WR.p {f : Nat → Int32} {n s p r : Int} (h : WR f n s p r) : s ≤ p ∧ p ≤ s + 9 := by
  obtain ⟨v1, p1, r1, a, h⟩ := h
  have hp := a.p
  rcases h with h | h | ⟨h1, h2, v2, h3⟩
  · omega
  · omega
  · have h4 := h3.p
    omega
/-- a CLAUSE from s on -/
def CR (f : Nat → Int32) (n s p r : Int) : Prop :=
  (¬ (s < n ∧ (ch f s = 119 ∨ ch f s = 100 ∨ ch f s = 107 ∨ ch f s = 110 ∨ ch f s = 102 ∨ ch f s = 99)) ∧ r = 100 + s) ∨
  (s < n ∧ ((ch f s = 119 ∧ WR f n (s + 1) p r) ∨ (ch f s = 100 ∧ SR f n 7 7 (s + 1) p r) ∨ (ch f s = 107 ∧ SR f n 4 4 (s + 1) p r) ∨
   (ch f s = 110 ∧ ∃ v, NR f n 0 999 (s + 1) v p r) ∨ (ch f s = 102 ∧ ∃ v, NR f n 0 9999 (s + 1) v p r) ∨ (ch f s = 99 ∧ ∃ v, NR f n 0 100 (s + 1) v p r)))
theorem CR.u {f : Nat → Int32} {n s p r p' r' : Int} (h : CR f n s p r) (h' : CR f n s p' r') (hs : 0 ≤ s) : r = r' ∧ (r = 0 → p = p') := by
  rcases h with h | ⟨hn, h⟩
  · rcases h' with h' | ⟨hn', h'⟩
    · exact ⟨by omega, fun e => absurd e (by omega)⟩
    · rcases h' with h' | h' | h' | h' | h' | h' <;> exact absurd ⟨hn', by have := h'.1; omega⟩ h.1
  · rcases h' with h' | ⟨hn', h'⟩
    · rcases h with h | h | h | h | h | h <;> exact absurd ⟨hn, by have := h.1; omega⟩ h'.1
    · rcases h with ⟨e, h⟩ | ⟨e, h⟩ | ⟨e, h⟩ | ⟨e, v, h⟩ | ⟨e, v, h⟩ | ⟨e, v, h⟩ <;> rcases h' with ⟨e', h'⟩ | ⟨e', h'⟩ | ⟨e', h'⟩ | ⟨e', v', h'⟩ | ⟨e', v', h'⟩ | ⟨e', v', h'⟩ <;>
        first
        | (exfalso; omega)
        | exact ⟨(h.u h').2, fun _ => (h.u h').1⟩
        | exact ⟨(h.u h').2.2, fun _ => (h.u h').2.1⟩
theorem CR.ok {f : Nat → Int32} {n s p r : Int} (h : CR f n s p r) (hr : r = 0) (hs : 0 ≤ s) : p ≤ n ∧ s < p := by
  rcases h with h | ⟨hn, h⟩
  · exact absurd h.2 (by omega)
  · rcases h with ⟨e, h⟩ | ⟨e, h⟩ | ⟨e, h⟩ | ⟨e, v, h⟩ | ⟨e, v, h⟩ | ⟨e, v, h⟩ <;> have h5 := h.ok hr (by omega) <;> omega
/-- the rest of a text from the CLAUSE at s on: what rights answers; k CLAUSES at most -/
def TK (f : Nat → Int32) (n : Int) : Nat → Int → Int → Prop
  | 0, _, _ => False
  | k + 1, s, r => ∃ p z, CR f n s p z ∧ ((¬ z = 0 ∧ r = z) ∨ (z = 0 ∧ n ≤ p ∧ r = 0) ∨ (z = 0 ∧ p < n ∧ ¬ ch f p = 59 ∧ r = 100 + p) ∨ (z = 0 ∧ p < n ∧ ch f p = 59 ∧ TK f n k (p + 1) r))
def TX (f : Nat → Int32) (n s r : Int) : Prop := ∃ k, TK f n k s r
theorem TX.bad {f : Nat → Int32} {n s p r : Int} (c : CR f n s p r) (hr : ¬ r = 0) : TX f n s r := ⟨1, p, r, c, Or.inl ⟨hr, rfl⟩⟩
theorem TX.fin {f : Nat → Int32} {n s p z r : Int} (c : CR f n s p z) (hz : z = 0) (hp : n ≤ p) (hr : r = 0) : TX f n s r := ⟨1, p, z, c, Or.inr (Or.inl ⟨hz, hp, hr⟩)⟩
theorem TX.stop {f : Nat → Int32} {n s p z r : Int} (c : CR f n s p z) (hz : z = 0) (hp : p < n) (hc : ¬ ch f p = 59) (hr : r = 100 + p) : TX f n s r := ⟨1, p, z, c, Or.inr (Or.inr (Or.inl ⟨hz, hp, hc, hr⟩))⟩
theorem TX.on {f : Nat → Int32} {n s p z q r : Int} (c : CR f n s p z) (hz : z = 0) (hp : p < n) (hc : ch f p = 59) (hq : q = p + 1) (h : TX f n q r) : TX f n s r := by
  obtain ⟨k, h⟩ := h
  rw [hq] at h
  exact ⟨k + 1, p, z, c, Or.inr (Or.inr (Or.inr ⟨hz, hp, hc, h⟩))⟩
theorem TK.u {f : Nat → Int32} {n : Int} : ∀ (k k' : Nat) {s r r' : Int}, 0 ≤ s → TK f n k s r → TK f n k' s r' → r = r'
  | 0, _, _, _, _, _, h, _ => h.elim
  | _ + 1, 0, _, _, _, _, _, h => h.elim
  | k + 1, k' + 1, s, r, r', hs, ⟨p, z, c, h⟩, ⟨p', z', c', h'⟩ => by
    have e := c.u c' hs
    have ez := e.1
    subst ez
    by_cases hz : z = 0
    · have ep := e.2 hz
      subst ep
      have hk := c.ok hz hs
      rcases h with h | h | h | ⟨h1, h2, h3, h4⟩ <;> rcases h' with h' | h' | h' | ⟨h1', h2', h3', h4'⟩ <;>
        first
        | (exfalso; omega)
        | omega
        | exact TK.u k k' (by omega) h4 h4'
    · rcases h with h | h | h | ⟨h1, h2, h3, h4⟩ <;> rcases h' with h' | h' | h' | ⟨h1', h2', h3', h4'⟩ <;>
        first
        | (exfalso; omega)
        | omega
theorem TX.u {f : Nat → Int32} {n s r r' : Int} (h : TX f n s r) (h' : TX f n s r') (hs : 0 ≤ s) : r = r' := by
  obtain ⟨k, h⟩ := h
  obtain ⟨k', h'⟩ := h'
  exact TK.u k k' hs h h'
/-- a byte is put into an array -/
def up (f : Nat → Int32) (i : Nat) (v : Int32) : Nat → Int32 := fun j => if j = i then v else f j
theorem up_ag {f g : Nat → Int32} {s : Nat} {v : Int32} (h : ∀ j, j < s → f j = g j) : ∀ j, j < s + 1 → up f s v j = up g s v j := fun j hj => by
  unfold up
  by_cases e : j = s
  · rw [if_pos e, if_pos e]
  · rw [if_neg e, if_neg e]; exact h j (by omega)
theorem NR.c {f : Nat → Int32} {n lo hi s v p r lo2 hi2 s2 v2 p2 r2 : Int} (h : NR f n lo hi s v p r) (h1 : lo2 = lo) (h2 : hi2 = hi) (h3 : s2 = s) (h4 : v2 = v) (h5 : p2 = p) (h6 : r2 = r) : NR f n lo2 hi2 s2 v2 p2 r2 := by
  subst h1; subst h2; subst h3; subst h4; subst h5; subst h6; exact h
theorem SR.c {f : Nat → Int32} {n m b s p r m2 b2 s2 p2 r2 : Int} (h : SR f n m b s p r) (h1 : m2 = m) (h2 : b2 = b) (h3 : s2 = s) (h5 : p2 = p) (h6 : r2 = r) : SR f n m2 b2 s2 p2 r2 := by
  subst h1; subst h2; subst h3; subst h5; subst h6; exact h
theorem WR.c {f : Nat → Int32} {n s p r s2 p2 r2 : Int} (h : WR f n s p r) (h3 : s2 = s) (h5 : p2 = p) (h6 : r2 = r) : WR f n s2 p2 r2 := by
  subst h3; subst h5; subst h6; exact h
theorem CR.c {f : Nat → Int32} {n s p r s2 p2 r2 : Int} (h : CR f n s p r) (h3 : s2 = s) (h5 : p2 = p) (h6 : r2 = r) : CR f n s2 p2 r2 := by
  subst h3; subst h5; subst h6; exact h
theorem TX.c {f : Nat → Int32} {n s r s2 r2 : Int} (h : TX f n s r) (h3 : s2 = s) (h6 : r2 = r) : TX f n s2 r2 := by
  subst h3; subst h6; exact h
theorem a255 (x : Int32) : 0 ≤ (x &&& 255).toInt ∧ (x &&& 255).toInt ≤ 255 := by
  rw [pk_and x (m := 255) 8 (by decide), nI_toInt (by have := Nat.mod_lt (x.toBitVec.toNat) (show 0 < 2 ^ 8 by decide); omega)]
  have := Nat.mod_lt (x.toBitVec.toNat) (show 0 < 2 ^ 8 by decide)
  omega
theorem pk_E {g f : Nat → Int32} {x : Int32} {n : Int} (hf : ∀ j : Nat, (j : Int) < n → g j = f j) (h0 : 0 ≤ x.toInt) (h : x.toInt < n) : (g x.toNatClampNeg &&& 255).toInt = ch f x.toInt := by
  have e : x.toNatClampNeg = x.toInt.toNat := i3_cl (by omega)
  unfold ch
  rw [e, hf _ (by omega)]
theorem cI_a {S : St} {a b k : Nat} {v : Int32} (h : b ≠ a) : sI (stI S a k v) b = sI S b := funext fun _ => iI_a h
theorem cI_s {S : St} {a k : Nat} {v : Int32} : sI (stI S a k v) a = up (sI S a) k v := funext fun j => by
  unfold up
  by_cases e : j = k
  · subst e; rw [if_pos rfl]; exact iI_s
  · rw [if_neg e]; exact iI_k e
/-- the byte of a word at a shift, as the tape has it -/
def bw (w k : Int32) : Int32 := vp_nar .byte (Int8.toInt32 (Int32.toInt8 (w >>> (k &&& 31))))
def pw4 (f : Nat → Int32) (s : Nat) (w : Int32) : Nat → Int32 := up (up (up (up f s (bw w 24)) (s + 1) (bw w 16)) (s + 2) (bw w 8)) (s + 3) (bw w 0)
theorem pw4_of {f : Nat → Int32} {s i0 i1 i2 i3 : Nat} {w : Int32} (h0 : i0 = s) (h1 : i1 = s + 1) (h2 : i2 = s + 2) (h3 : i3 = s + 3) : up (up (up (up f i0 (bw w 24)) i1 (bw w 16)) i2 (bw w 8)) i3 (bw w 0) = pw4 f s w := by
  subst h0; subst h1; subst h2; subst h3; rfl
theorem pw4_ag {f g : Nat → Int32} {s : Nat} {w : Int32} (h : ∀ j, j < s → f j = g j) : ∀ j, j < s + 4 → pw4 f s w j = pw4 g s w j := up_ag (up_ag (up_ag (up_ag h)))
def pw20 (f : Nat → Int32) (s : Nat) (a b d e u : Int32) : Nat → Int32 := pw4 (pw4 (pw4 (pw4 (pw4 f s a) (s + 4) b) (s + 8) d) (s + 12) e) (s + 16) u
theorem pw20_of {f : Nat → Int32} {s i0 i1 i2 i3 i4 : Nat} {a b d e u : Int32} (h0 : i0 = s) (h1 : i1 = s + 4) (h2 : i2 = s + 8) (h3 : i3 = s + 12) (h4 : i4 = s + 16) : pw4 (pw4 (pw4 (pw4 (pw4 f i0 a) i1 b) i2 d) i3 e) i4 u = pw20 f s a b d e u := by
  subst h0; subst h1; subst h2; subst h3; subst h4; rfl
theorem pw20_ag {f g : Nat → Int32} {s : Nat} {a b d e u : Int32} (h : ∀ j, j < s → f j = g j) : ∀ j, j < s + 20 → pw20 f s a b d e u j = pw20 g s a b d e u j := pw4_ag (pw4_ag (pw4_ag (pw4_ag (pw4_ag h))))
