/-! plan on the fresh object: the frame of int writes, the weights -/
/-- nothing but ints and longs of the cells cs has changed -/
def Md (cs : List Nat) (S T : St) : Prop := sK T = sK S ∧ sR T = sR S ∧ sL T = sL S ∧ ∀ a, a ∉ cs → sI T a = sI S a ∧ sJ T a = sJ S a
theorem Md.rf (cs : List Nat) (S : St) : Md cs S S := ⟨rfl, rfl, rfl, fun _ _ => ⟨rfl, rfl⟩⟩
theorem Md.tr {cs : List Nat} {S T U : St} (h : Md cs S T) (h2 : Md cs T U) : Md cs S U := ⟨h2.1.trans h.1, h2.2.1.trans h.2.1, h2.2.2.1.trans h.2.2.1, fun a ha => ⟨(h2.2.2.2 a ha).1.trans (h.2.2.2 a ha).1, (h2.2.2.2 a ha).2.trans (h.2.2.2 a ha).2⟩⟩
theorem iI_A {S : St} {a k b : Nat} {v : Int32} (h : b ≠ a) : sI (stI S a k v) b = sI S b := by funext j; exact iI_a h
theorem Md.I {cs : List Nat} {S T : St} (h : Md cs S T) {a k : Nat} {v : Int32} (hm : a ∈ cs) : Md cs S (stI T a k v) := ⟨h.1, h.2.1, h.2.2.1, fun b hb => ⟨(iI_A (fun e => hb (by rw [e]; exact hm))).trans (h.2.2.2 b hb).1, (h.2.2.2 b hb).2⟩⟩
theorem Md.sub {cs ds : List Nat} {S T : St} (h : Md cs S T) (hs : ∀ a, a ∈ cs → a ∈ ds) : Md ds S T := ⟨h.1, h.2.1, h.2.2.1, fun a ha => h.2.2.2 a (fun m => ha (hs a m))⟩
theorem Mn_bd (w : Nat) : ∀ r i u, Mn w r i u < INFp → Mn w r i u ≤ 3 * r := by
  intro r
  induction r with
  | zero => intro i u _; exact Nat.zero_le _
  | succ r ih =>
    intro i u h
    have key : ∀ ok k, k ≤ 3 → stp ok (Mn w r (i + 1) (u + k)) k < INFp → stp ok (Mn w r (i + 1) (u + k)) k ≤ 3 * (r + 1) := fun ok k hk h1 => by
      unfold stp at h1 ⊢
      split at h1
      · rename_i h2
        rw [if_pos h2]
        have := ih (i + 1) (u + k) (by omega)
        omega
      · omega
    have h0 := key (okp w i (u + 0)) 0 (by omega)
    have h1 := key (okp w i (u + 1)) 1 (by omega)
    have h2 := key (okp w i (u + 2)) 2 (by omega)
    have h3 := key (okp w i (u + 3)) 3 (by omega)
    have hM : Mn w (r + 1) i u = min (min (stp (okp w i (u + 0)) (Mn w r (i + 1) (u + 0)) 0) (stp (okp w i (u + 1)) (Mn w r (i + 1) (u + 1)) 1)) (min (stp (okp w i (u + 2)) (Mn w r (i + 1) (u + 2)) 2) (stp (okp w i (u + 3)) (Mn w r (i + 1) (u + 3)) 3)) := rfl
    rw [hM] at h ⊢
    generalize stp (okp w i (u + 0)) (Mn w r (i + 1) (u + 0)) 0 = x0 at *
    generalize stp (okp w i (u + 1)) (Mn w r (i + 1) (u + 1)) 1 = x1 at *
    generalize stp (okp w i (u + 2)) (Mn w r (i + 1) (u + 2)) 2 = x2 at *
    generalize stp (okp w i (u + 3)) (Mn w r (i + 1) (u + 3)) 3 = x3 at *
    omega
/-- the class's weight of t HOURS of COMPRESSORS -/
def SWv (t : Nat) : Int32 := if t < INFp then nI (1001 * t) else 1000000000
def Sm (t : Nat) : Prop := t < INFp → t ≤ 99
theorem SW_lt {t : Nat} (h : Sm t) : SWv t < 1000000000 ↔ t < INFp := by
  unfold SWv
  by_cases h1 : t < INFp
  · rw [if_pos h1]
    have h2 := h h1
    refine ⟨fun _ => h1, fun _ => ?_⟩
    rw [i3_lt, nI_toInt (by omega)]
    show (1001 * t : Nat) < (1000000000 : Int)
    omega
  · rw [if_neg h1]
    exact ⟨fun h2 => absurd h2 (by decide), fun h2 => absurd h2 h1⟩
theorem SW_inf : SWv INFp = 1000000000 := by decide
theorem okp_iff {w i v : Nat} : okp w i v = true ↔ 200 + 20 * v ≤ 400 + w * i ∧ w * (i + 1) ≤ 200 + 20 * v := by
  unfold okp
  rw [Bool.and_eq_true, decide_eq_true_iff, decide_eq_true_iff]
theorem stp_no {ok : Bool} {t k : Nat} (h : ¬ (ok = true ∧ t < INFp)) : SWv (stp ok t k) = 1000000000 := by
  unfold stp
  rw [if_neg (fun q => h ⟨q.1, by omega⟩)]
  exact SW_inf
theorem stp_yes {ok : Bool} {t k : Nat} (h1 : ok = true) (h2 : t < INFp) (h3 : Sm t) (hk : k ≤ 3) : SWv t + nI (k * 1001) = SWv (stp ok t k) := by
  have h4 := h3 h2
  have h5 : t + k < INFp := by show t + k < 1000000; omega
  unfold stp
  rw [if_pos ⟨h1, h5⟩]
  unfold SWv
  rw [if_pos h2, if_pos h5, nI_add]
  congr 1
  omega
theorem Sm_stp {ok : Bool} {t k : Nat} (h : t < INFp → t ≤ 90) (hk : k ≤ 3) : Sm (stp ok t k) := by
  intro h1
  unfold stp at h1 ⊢
  split at h1
  · rename_i h2
    rw [if_pos h2]
    have := h (by omega)
    omega
  · omega
theorem Sm_min {a b : Nat} (ha : Sm a) (hb : Sm b) : Sm (min a b) := by
  intro h
  have h1 : a < INFp → a ≤ 99 := ha
  have h2 : b < INFp → b ≤ 99 := hb
  omega
theorem SW_p {t : Nat} (h : t < INFp) : SWv t = nI (1001 * t) := if_pos h
theorem SW_n {t : Nat} (h : ¬ t < INFp) : SWv t = 1000000000 := if_neg h
theorem SW_min {a b : Nat} (ha : Sm a) (hb : Sm b) : (if SWv b < SWv a then SWv b else SWv a) = SWv (min a b) := by
  have h1 : a < INFp → a ≤ 99 := ha
  have h2 : b < INFp → b ≤ 99 := hb
  have hI : INFp = 1000000 := rfl
  by_cases ca : a < INFp
  · by_cases cb : b < INFp
    · have h3 := h1 ca
      have h4 := h2 cb
      have e1 : SWv b < SWv a ↔ b < a := by
        rw [SW_p ca, SW_p cb, nI_ltI (by omega) (by omega)]
        omega
      by_cases h : b < a
      · rw [if_pos (e1.mpr h), Nat.min_eq_right (by omega)]
      · rw [if_neg (fun q => h (e1.mp q)), Nat.min_eq_left (by omega)]
    · have e1 : ¬ SWv b < SWv a := fun q => by
        rw [SW_n cb] at q
        exact absurd ((SW_lt ha).mpr ca) (fun r => by have x1 := (i3_lt _ _).mp q; have x2 := (i3_lt _ _).mp r; omega)
      rw [if_neg e1, Nat.min_eq_left (by omega)]
  · by_cases cb : b < INFp
    · have e1 : SWv b < SWv a := by rw [SW_n ca]; exact (SW_lt hb).mpr cb
      rw [if_pos e1, Nat.min_eq_right (by omega)]
    · have e0 : SWv b = SWv a := by rw [SW_n ca, SW_n cb]
      have e1 : SWv (min a b) = SWv a := by rw [SW_n ca, SW_n (by omega)]
      rw [e0, e1]
      exact ite_self _
theorem SW_div {t : Nat} (h : t < INFp) (hs : Sm t) : SWv t / 100 = nI (10 * t) := by
  have h2 := hs h
  unfold SWv
  rw [if_pos h, show (100 : Int32) = nI 100 from rfl, pk_div (by omega) (by decide) (by decide)]
  congr 1
  omega
def PLv (w n : Nat) : Int32 := if Mn w n 0 0 < INFp then nI (10 * Mn w n 0 0) else (-1)
theorem SW_min0 {a : Nat} (ha : Sm a) : (if SWv a < 1000000000 then SWv a else 1000000000) = SWv a := by
  by_cases h : a < INFp
  · rw [if_pos ((SW_lt ha).mpr h)]
  · rw [if_neg (fun q => h ((SW_lt ha).mp q))]
    unfold SWv
    rw [if_neg h]
theorem Mn_4 (w r i u : Nat) : min (min (min (stp (okp w i (u + 0)) (Mn w r (i + 1) (u + 0)) 0) (stp (okp w i (u + 1)) (Mn w r (i + 1) (u + 1)) 1)) (stp (okp w i (u + 2)) (Mn w r (i + 1) (u + 2)) 2)) (stp (okp w i (u + 3)) (Mn w r (i + 1) (u + 3)) 3) = Mn w (r + 1) i u := by
  have hM : Mn w (r + 1) i u = min (min (stp (okp w i (u + 0)) (Mn w r (i + 1) (u + 0)) 0) (stp (okp w i (u + 1)) (Mn w r (i + 1) (u + 1)) 1)) (min (stp (okp w i (u + 2)) (Mn w r (i + 1) (u + 2)) 2) (stp (okp w i (u + 3)) (Mn w r (i + 1) (u + 3)) 3)) := rfl
  rw [hM, Nat.min_assoc]
theorem ah_post {S : St} {h wa pi n : Nat} {v y z : Int32} (hk : sK S h = 3) (kwa : sK S wa = 11) (kpi : sK S pi = 11) (hne : Ap wa pi) (hn : n < 8) : sI (stI (stI (stI S pi (nI n).toNatClampNeg y) wa (nI (n + 1)).toNatClampNeg v) h 5 z) pi n = y ∧ sI (stI (stI (stI S pi (nI n).toNatClampNeg y) wa (nI (n + 1)).toNatClampNeg v) h 5 z) wa (n + 1) = v ∧ (∀ j, j ≠ n → sI (stI (stI (stI S pi (nI n).toNatClampNeg y) wa (nI (n + 1)).toNatClampNeg v) h 5 z) pi j = sI S pi j) ∧ (∀ j, j ≠ n + 1 → sI (stI (stI (stI S pi (nI n).toNatClampNeg y) wa (nI (n + 1)).toNatClampNeg v) h 5 z) wa j = sI S wa j) := by
  have h1 : wa ≠ h := fk_ne kwa hk (by decide)
  have h2 : pi ≠ h := fk_ne kpi hk (by decide)
  have h3 : pi ≠ wa := fun e => hne e.symm
  have h4 : wa ≠ pi := hne
  rw [nI_clamp (n := n) (by omega), nI_clamp (n := n + 1) (by omega), iI_A h1, iI_A h2, iI_A h3]
  refine ⟨iI_s, iI_s, fun j hj => iI_k hj, fun j hj => ?_⟩
  rw [iI_k hj, iI_a h4]
theorem SW_0 : SWv 0 = 0 := by decide
/-- one cell of the table was written -/
theorem be_up {S : St} {be a b : Nat} {v x : Int32} (h1 : a = b → v = x) (h2 : a ≠ b → sI S be a = x) : sI (stI S be b v) be a = x := by
  rw [iI, if_pos rfl]
  exact ite_up h1 h2
theorem PLv_no {w n : Nat} (h : Sm (Mn w n 0 0)) (c : ¬ SWv (Mn w n 0 0) < 1000000000) : (-1 : Int32) = PLv w n := by
  unfold PLv
  rw [if_neg (fun q => c ((SW_lt h).mpr q))]
theorem PLv_yes {w n : Nat} (h : Sm (Mn w n 0 0)) (c : SWv (Mn w n 0 0) < 1000000000) : SWv (Mn w n 0 0) / 100 = PLv w n := by
  unfold PLv
  have h1 := (SW_lt h).mp c
  rw [if_pos h1, SW_div h1 h]
theorem want_b {b r : Int32} (h : r = (if b ≤ 0 then 0 else b / 2)) (hb : b.toInt ≤ 40) : r = nI (b.toInt.toNat / 2) := by
  rw [h]
  by_cases h1 : b ≤ 0
  · rw [if_pos h1]
    have h2 : b.toInt ≤ 0 := (i3_le _ _).mp h1
    rw [show b.toInt.toNat / 2 = 0 from by omega]
    rfl
  · rw [if_neg h1]
    have h2 : ¬ b.toInt ≤ 0 := fun q => h1 ((i3_le _ _).mpr q)
    obtain ⟨j, hj, rfl⟩ := nn_of (x := b) (by omega)
    rw [nI_toInt hj, show (2 : Int32) = nI 2 from rfl, pk_div hj (by decide) (by decide)]
    rfl
theorem PL_no {a b : Int32} (h : ¬ (1 ≤ a.toInt ∧ a.toInt ≤ 8 ∧ -20 ≤ b.toInt ∧ b.toInt ≤ 40)) : (-1 : Int32) = PL a b := by
  unfold PL
  rw [if_neg h]
theorem PL_yes {a b : Int32} {n w : Nat} (h : 1 ≤ a.toInt ∧ a.toInt ≤ 8 ∧ -20 ≤ b.toInt ∧ b.toInt ≤ 40) (hn : a.toInt.toNat = n) (hw : w = 2 * (b.toInt.toNat / 2)) : PLv w n = PL a b := by
  unfold PL PLv
  rw [if_pos h, hn, hw]
