/-! what holds of every cell between calls, and what a call leaves as it was -/
/-- kind and length of what a reference field of a class holds -/
def rty : Nat → Nat → Option (Nat × Nat)
  | 0, 0 => some (12, 32)
  | 1, 0 => some (0, 0)
  | 1, 1 => some (0, 0)
  | 2, 0 => some (1, 0)
  | 2, 1 => some (1, 0)
  | 2, 2 => some (15, 5)
  | 2, 3 => some (11, 5)
  | 2, 4 => some (11, 5)
  | 2, 5 => some (11, 6)
  | 3, 0 => some (11, 9)
  | 3, 1 => some (11, 8)
  | 3, 2 => some (11, 225)
  | 3, 3 => some (11, 8)
  | 5, 0 => some (7, 0)
  | 7, 0 => some (10, 80)
  | 8, 0 => some (1, 0)
  | 8, 1 => some (1, 0)
  | 8, 2 => some (14, 6)
  | 8, 3 => some (15, 200)
  | 8, 4 => some (11, 24)
  | 8, 5 => some (7, 0)
  | 8, 6 => some (5, 0)
  | 8, 7 => some (2, 0)
  | 8, 8 => some (3, 0)
  | 9, 0 => some (10, 80)
  | 9, 5 => some (11, 6)
  | 9, 6 => some (11, 6)
  | 9, 7 => some (11, 6)
  | 9, 8 => some (11, 6)
  | 9, 9 => some (11, 6)
  | 9, 10 => some (11, 6)
  | 9, 26 => some (11, 24)
  | 9, 27 => some (11, 2)
  | 9, 28 => some (11, 2)
  | 9, 29 => some (11, 2)
  | 9, 30 => some (11, 2)
  | 9, 31 => some (11, 2)
  | 9, 32 => some (11, 2)
  | 9, 33 => some (11, 2)
  | 9, 34 => some (13, 2)
  | 9, 37 => some (11, 200)
  | 9, 38 => some (11, 200)
  | 9, 39 => some (11, 200)
  | 9, 40 => some (16, 200)
  | 9, 41 => some (11, 200)
  | 9, 42 => some (11, 200)
  | 9, 43 => some (11, 200)
  | 9, 44 => some (11, 200)
  | 9, 45 => some (11, 200)
  | 9, 46 => some (11, 10)
  | 9, 47 => some (11, 10)
  | 9, 48 => some (11, 10)
  | 9, 49 => some (17, 5)
  | 9, 50 => some (19, 5)
  | 9, 51 => some (19, 5)
  | 9, 52 => some (18, 5)
  | 9, 56 => some (11, 8)
  | 9, 57 => some (11, 8)
  | 9, 58 => some (11, 8)
  | 9, 59 => some (11, 8)
  | 9, 61 => some (11, 6)
  | 9, 62 => some (12, 6)
  | _, _ => none
def cd (c k : Nat) : Nat := if c < 10 then c * 100 + k else c * 100
/-- ints that are held within limits: the code of the field, or of all elements of a kind -/
def lim : List (Nat × Int × Int) := [(809, 0, 200), (810, 0, 990), (813, 0, 3), (304, 0, 8), (305, 0, 8), (701, 0, 80), (901, 0, 80), (902, 0, 100), (903, 0, 80), (918, 0, 990), (924, 0, 3), (935, 0, 200), (936, 0, 10), (953, 0, 5), (960, 0, 8), (1600, -10, 2000), (1700, 0, 199), (1800, 0, 1990), (1900, 0, 14)]
def okI (c k : Nat) (v : Int) : Prop := ∀ x ∈ lim, x.1 = cd c k → x.2.1 ≤ v ∧ v ≤ x.2.2
theorem cd_A {c k : Nat} (h : 10 ≤ c) : cd c k = c * 100 := if_neg (Nat.not_lt.mpr h)
theorem ok_fr {c k : Nat} {v : Int} (h : ∀ x ∈ lim, x.1 ≠ cd c k) : okI c k v := fun x hx e => absurd e (h x hx)
theorem ok_frA {c k : Nat} {v : Int} (hc : 10 ≤ c) (h : ∀ x ∈ lim, x.1 ≠ c * 100) : okI c k v := fun x hx e => absurd (e.trans (cd_A hc)) (h x hx)
theorem ok_in {c k : Nat} {v : Int} (lo hi : Int) (hu : ∀ x ∈ lim, x.1 = cd c k → x.2.1 = lo ∧ x.2.2 = hi) (h : lo ≤ v ∧ v ≤ hi) : okI c k v := fun x hx e => by
  have h1 := hu x hx e
  rw [h1.1, h1.2]; exact h
theorem ok_inA {c k : Nat} {v : Int} (hc : 10 ≤ c) (lo hi : Int) (hu : ∀ x ∈ lim, x.1 = c * 100 → x.2.1 = lo ∧ x.2.2 = hi) (h : lo ≤ v ∧ v ≤ hi) : okI c k v := fun x hx e => by
  have h1 := hu x hx (e.trans (cd_A hc))
  rw [h1.1, h1.2]; exact h
/-- all cells but those of ex (they are being made) have their references; elements of arrays of references are of their class; ints are within limits -/
def Gx (ex : List Nat) (S : St) : Prop := (∀ a, a ∉ ex → ∀ k kd n, rty (sK S a) k = some (kd, n) → ∃ b, sR S a k = some b ∧ sK S b = kd ∧ sL S b = n) ∧ (∀ a b j, sK S a = 14 → sR S a j = some b → sK S b = 4) ∧ (∀ a b j, sK S a = 15 → sR S a j = some b → sK S b = 6) ∧ (∀ a k, sK S a < 20 → okI (sK S a) k (sI S a k).toInt)
abbrev G (S : St) : Prop := Gx [] S
theorem rty_lt {c k kd n : Nat} (h : rty c k = some (kd, n)) : kd < 20 ∧ c < 10 := by
  unfold rty at h
  split at h <;> first | (cases h; exact ⟨by decide, by decide⟩) | cases h
theorem Gx.r {ex : List Nat} {S : St} (h : Gx ex S) {a c : Nat} (hk : sK S a = c) (ha : a ∉ ex) (k : Nat) {kd n : Nat} (ht : rty c k = some (kd, n)) : ∃ b, sR S a k = some b ∧ sK S b = kd ∧ sL S b = n := h.1 a ha k kd n (by rw [hk]; exact ht)
theorem Gx.i {ex : List Nat} {S : St} (h : Gx ex S) {a c : Nat} (hk : sK S a = c) (hc : c < 20) (k : Nat) {lo hi : Int} (hm : (cd c k, lo, hi) ∈ lim) : lo ≤ (sI S a k).toInt ∧ (sI S a k).toInt ≤ hi := by
  have h1 := h.2.2.2 a k (by omega)
  rw [hk] at h1
  exact h1 _ hm rfl
theorem Gx.iA {ex : List Nat} {S : St} (h : Gx ex S) {a c : Nat} (hk : sK S a = c) (hc : c < 20) (h10 : 10 ≤ c) (k : Nat) {lo hi : Int} (hm : (c * 100, lo, hi) ∈ lim) : lo ≤ (sI S a k).toInt ∧ (sI S a k).toInt ≤ hi := h.i hk hc k (by rw [cd_A h10]; exact hm)
theorem Gx.I {ex : List Nat} {S : St} (h : Gx ex S) {a c k : Nat} {v : Int32} (hk : sK S a = c) (hv : okI c k v.toInt) : Gx ex (stI S a k v) := by
  refine ⟨h.1, h.2.1, h.2.2.1, fun b j hb => ?_⟩
  by_cases e : b = a
  · subst e
    by_cases e2 : j = k
    · subst e2
      rw [show sI (stI S b j v) b j = v from iI_s, show sK (stI S b j v) b = c from hk]
      exact hv
    · rw [show sI (stI S b k v) b j = sI S b j from iI_k e2]
      exact h.2.2.2 b j hb
  · rw [show sI (stI S a k v) b j = sI S b j from iI_a e]
    exact h.2.2.2 b j hb
theorem Gx.J {ex : List Nat} {S : St} (h : Gx ex S) {a k : Nat} {v : Int64} : Gx ex (stJ S a k v) := h
theorem Gx.W {ex : List Nat} {S : St} (h : Gx ex S) {a c : Nat} {f : Nat → Int32} (hk : sK S a = c) (hc : 10 ≤ c) (hf : ∀ x ∈ lim, x.1 ≠ c * 100) : Gx ex (stW S a f) := by
  refine ⟨h.1, h.2.1, h.2.2.1, fun b j hb => ?_⟩
  by_cases e : b = a
  · subst e
    rw [show sK (stW S b f) b = c from hk]
    exact ok_frA hc hf
  · rw [show sI (stW S a f) b j = sI S b j from iW_a e]
    exact h.2.2.2 b j hb
/-- an element of an array of references -/
theorem Gx.R {ex : List Nat} {S : St} (h : Gx ex S) {a b c kv k : Nat} (hk : sK S a = c) (hv : sK S b = kv) (hc : (c = 14 ∧ kv = 4) ∨ (c = 15 ∧ kv = 6)) : Gx ex (stR S a k (some b)) := by
  have key : ∀ d e j, sR (stR S a k (some b)) d j = some e → (d = a ∧ e = b) ∨ sR S d j = some e := fun d e j hr => by
    rw [rR] at hr
    by_cases h1 : d = a
    · rw [if_pos h1] at hr
      by_cases h2 : j = k
      · rw [if_pos h2] at hr
        exact Or.inl ⟨h1, (Option.some.inj hr).symm⟩
      · rw [if_neg h2] at hr
        exact Or.inr hr
    · rw [if_neg h1] at hr
      exact Or.inr hr
  refine ⟨fun d hd j kd n ht => ?_, fun d e j hd hr => ?_, fun d e j hd hr => ?_, h.2.2.2⟩
  · have hne : d ≠ a := fun e => by
      have h1 := (rty_lt ht).2
      rw [e] at h1
      have h2 : sK (stR S a k (some b)) a = c := hk
      rw [h2] at h1
      omega
    obtain ⟨e, h1, h2, h3⟩ := h.1 d hd j kd n ht
    exact ⟨e, by rw [rR, if_neg hne]; exact h1, h2, h3⟩
  · rcases key d e j hr with ⟨h1, h2⟩ | h1
    · have hd2 : sK S a = 14 := by rw [← h1]; exact hd
      rw [h2]
      show sK S b = 4
      omega
    · exact h.2.1 d e j hd h1
  · rcases key d e j hr with ⟨h1, h2⟩ | h1
    · have hd2 : sK S a = 15 := by rw [← h1]; exact hd
      rw [h2]
      show sK S b = 6
      omega
    · exact h.2.2.1 d e j hd h1
theorem ok_0 (c k : Nat) : okI c k 0 := by
  have h : ∀ x ∈ lim, x.2.1 ≤ 0 ∧ 0 ≤ x.2.2 := by decide
  exact fun x hx _ => h x hx
/-- a new cell: what it has no references for yet is of ex -/
theorem Gx.N {ex : List Nat} {S : St} (h : Gx ex S) {q kd n : Nat} (hq : 20 ≤ sK S q) : Gx (q :: ex) (stN S q kd n) := by
  refine ⟨fun a ha k kd' n' ht => ?_, fun a b j ha hr => ?_, fun a b j ha hr => ?_, fun a k ha => ?_⟩
  · have hne : a ≠ q := fun e => ha (by rw [e]; exact List.mem_cons_self)
    rw [kN, if_neg hne] at ht
    obtain ⟨b, h1, h2, h3⟩ := h.1 a (fun m => ha (List.mem_cons_of_mem _ m)) k kd' n' ht
    have hbq : b ≠ q := fun e => by
      have := (rty_lt ht).1
      rw [e] at h2; omega
    exact ⟨b, by rw [rN, if_neg hne]; exact h1, by rw [kN, if_neg hbq]; exact h2, by rw [lNw, if_neg hbq]; exact h3⟩
  · by_cases e : a = q
    · rw [rN, if_pos e] at hr; cases hr
    · rw [kN, if_neg e] at ha
      rw [rN, if_neg e] at hr
      have h1 := h.2.1 a b j ha hr
      have hbq : b ≠ q := fun e => by rw [e] at h1; omega
      rw [kN, if_neg hbq]; exact h1
  · by_cases e : a = q
    · rw [rN, if_pos e] at hr; cases hr
    · rw [kN, if_neg e] at ha
      rw [rN, if_neg e] at hr
      have h1 := h.2.2.1 a b j ha hr
      have hbq : b ≠ q := fun e => by rw [e] at h1; omega
      rw [kN, if_neg hbq]; exact h1
  · by_cases e : a = q
    · rw [iN, if_pos e]; exact ok_0 _ _
    · rw [kN, if_neg e] at ha ⊢
      rw [iN, if_neg e]
      exact h.2.2.2 a k ha
/-- a cell whose class has no references is done at once -/
theorem Gx.pl {ex : List Nat} {S : St} {q c : Nat} (h : Gx (q :: ex) S) (hk : sK S q = c) (hn : ∀ k, rty c k = none) : Gx ex S := by
  refine ⟨fun a ha k kd n ht => ?_, h.2⟩
  by_cases e : a = q
  · rw [e, hk, hn k] at ht; cases ht
  · exact h.1 a (fun m => (List.mem_cons.mp m).elim e ha) k kd n ht
/-- the fields ms of the cell a that is being made stand -/
def Dn (ms : List Nat) (S : St) (a c : Nat) : Prop := ∀ k ∈ ms, ∀ kd n, rty c k = some (kd, n) → ∃ b, sR S a k = some b ∧ sK S b = kd ∧ sL S b = n
theorem Dn.nil (S : St) (a c : Nat) : Dn [] S a c := fun _ h => absurd h List.not_mem_nil
theorem Gx.done {ex ms : List Nat} {S : St} {a c : Nat} (h : Gx (a :: ex) S) (hk : sK S a = c) (hd : Dn ms S a c) (hm : ∀ k kd n, rty c k = some (kd, n) → k ∈ ms) : Gx ex S := by
  refine ⟨fun b hb k kd n ht => ?_, h.2⟩
  by_cases e : b = a
  · rw [e, hk] at ht
    rw [e]
    exact hd k (hm k kd n ht) kd n ht
  · exact h.1 b (fun m => (List.mem_cons.mp m).elim e hb) k kd n ht
theorem Gx.Rh {ex : List Nat} {S : St} (h : Gx ex S) {a k c : Nat} {v : Option Nat} (ha : a ∈ ex) (hk : sK S a = c) (hc : c < 10) : Gx ex (stR S a k v) := by
  refine ⟨fun d hd j kd n ht => ?_, fun d e j hd hr => ?_, fun d e j hd hr => ?_, h.2.2.2⟩
  · have hne : d ≠ a := fun e => hd (by rw [e]; exact ha)
    obtain ⟨e, h1, h2, h3⟩ := h.1 d hd j kd n ht
    exact ⟨e, by rw [rR, if_neg hne]; exact h1, h2, h3⟩
  · have hne : d ≠ a := fun e2 => by
      rw [e2] at hd
      have h2 : sK (stR S a k v) a = c := hk
      rw [h2] at hd; omega
    rw [rR, if_neg hne] at hr
    exact h.2.1 d e j hd hr
  · have hne : d ≠ a := fun e2 => by
      rw [e2] at hd
      have h2 : sK (stR S a k v) a = c := hk
      rw [h2] at hd; omega
    rw [rR, if_neg hne] at hr
    exact h.2.2.1 d e j hd hr
theorem Dn.R {ms : List Nat} {S : St} {a c k b : Nat} (h : Dn ms S a c) (hb : ∀ kd n, rty c k = some (kd, n) → sK S b = kd ∧ sL S b = n) : Dn (k :: ms) (stR S a k (some b)) a c := by
  intro j hj kd n ht
  by_cases e : j = k
  · subst e
    exact ⟨b, by rw [rR, if_pos rfl, if_pos rfl], (hb kd n ht).1, (hb kd n ht).2⟩
  · have hj2 : j ∈ ms := (List.mem_cons.mp hj).elim (fun e2 => absurd e2 e) id
    obtain ⟨d, h1, h2, h3⟩ := h j hj2 kd n ht
    exact ⟨d, by rw [rR, if_pos rfl, if_neg e]; exact h1, h2, h3⟩
/-- what a call leaves: kinds, lengths, references of objects, and ints but those of the codes ks; hs: cells that it makes -/
def Fr (hs ks : List Nat) (S T : St) : Prop := ∀ a, sK S a < 20 → sK T a = sK S a ∧ sL T a = sL S a ∧ (a ∉ hs → (sK S a < 10 → sR T a = sR S a) ∧ ∀ k, cd (sK S a) k ∉ ks → sI T a k = sI S a k)
theorem Fr.rf (hs ks : List Nat) (S : St) : Fr hs ks S S := fun _ _ => ⟨rfl, rfl, fun _ => ⟨fun _ => rfl, fun _ _ => rfl⟩⟩
theorem Fr.k {hs ks : List Nat} {S T : St} (h : Fr hs ks S T) {a c : Nat} (hk : sK S a = c) (hc : c < 20) : sK T a = c := ((h a (by omega)).1).trans hk
theorem Fr.n {hs ks : List Nat} {S T : St} (h : Fr hs ks S T) {a c n : Nat} (hk : sK S a = c) (hc : c < 20) (hn : sL S a = n) : sL T a = n := ((h a (by omega)).2.1).trans hn
theorem Fr.r {ks : List Nat} {S T : St} (h : Fr [] ks S T) {a c k b : Nat} (hk : sK S a = c) (hc : c < 10) (hr : sR S a k = some b) : sR T a k = some b := by
  rw [((h a (by omega)).2.2 List.not_mem_nil).1 (by omega)]; exact hr
theorem Fr.rx {hs ks : List Nat} {S T : St} (h : Fr hs ks S T) {a c k b : Nat} (ha : a ∉ hs) (hk : sK S a = c) (hc : c < 10) (hr : sR S a k = some b) : sR T a k = some b := by
  rw [((h a (by omega)).2.2 ha).1 (by omega)]; exact hr
theorem Fr.i {ks : List Nat} {S T : St} (h : Fr [] ks S T) {a c k : Nat} (hk : sK S a = c) (hc : c < 20) (hn : cd c k ∉ ks) : sI T a k = sI S a k := ((h a (by omega)).2.2 List.not_mem_nil).2 k (by rw [hk]; exact hn)
theorem Fr.iA {ks : List Nat} {S T : St} (h : Fr [] ks S T) {a c k : Nat} (hk : sK S a = c) (hc : c < 20) (h10 : 10 ≤ c) (hn : c * 100 ∉ ks) : sI T a k = sI S a k := h.i hk hc (by rw [cd_A h10]; exact hn)
theorem Fr.ix {hs ks : List Nat} {S T : St} (h : Fr hs ks S T) {a c k : Nat} (ha : a ∉ hs) (hk : sK S a = c) (hc : c < 20) (hn : cd c k ∉ ks) : sI T a k = sI S a k := ((h a (by omega)).2.2 ha).2 k (by rw [hk]; exact hn)
theorem Fr.tr {hs ks : List Nat} {S T U : St} (h : Fr hs ks S T) (h2 : Fr hs ks T U) : Fr hs ks S U := fun a ha => by
  obtain ⟨a1, a2, a3⟩ := h a ha
  obtain ⟨b1, b2, b3⟩ := h2 a (by omega)
  refine ⟨b1.trans a1, b2.trans a2, fun hn => ⟨fun hc => ((b3 hn).1 (by omega)).trans ((a3 hn).1 hc), fun k hk => ((b3 hn).2 k (by rw [a1]; exact hk)).trans ((a3 hn).2 k hk)⟩⟩
theorem Fr.mono {hs ks ks' : List Nat} {S T : St} (h : Fr hs ks S T) (hm : ∀ x ∈ ks, x ∈ ks') : Fr hs ks' S T := fun a ha => by
  obtain ⟨a1, a2, a3⟩ := h a ha
  exact ⟨a1, a2, fun hn => ⟨(a3 hn).1, fun k hk => (a3 hn).2 k (fun m => hk (hm _ m))⟩⟩
/-- a call that made q, which is new since S -/
theorem Fr.trN {hs ks : List Nat} {S T U : St} {q : Nat} (h : Fr hs ks S T) (h2 : Fr [q] ks T U) (hq : 20 ≤ sK S q) : Fr hs ks S U := fun a ha => by
  obtain ⟨a1, a2, a3⟩ := h a ha
  obtain ⟨b1, b2, b3⟩ := h2 a (by omega)
  have hn2 : a ∉ [q] := fun m => by rw [List.mem_singleton.mp m] at ha; omega
  refine ⟨b1.trans a1, b2.trans a2, fun hn => ⟨fun hc => ((b3 hn2).1 (by omega)).trans ((a3 hn).1 hc), fun k hk => ((b3 hn2).2 k (by rw [a1]; exact hk)).trans ((a3 hn).2 k hk)⟩⟩
theorem Fr.I {hs ks : List Nat} {S T : St} (h : Fr hs ks S T) {a c k : Nat} {v : Int32} (hk : sK T a = c) (hm : cd c k ∈ ks) : Fr hs ks S (stI T a k v) := fun b hb => by
  obtain ⟨a1, a2, a3⟩ := h b hb
  refine ⟨a1, a2, fun hn => ⟨(a3 hn).1, fun j hj => ?_⟩⟩
  by_cases e : b = a
  · have hc : sK S b = c := by rw [← a1, e]; exact hk
    have e2 : j ≠ k := fun e2 => hj (by rw [hc, e2]; exact hm)
    rw [iI_k e2]; exact (a3 hn).2 j hj
  · rw [iI_a e]; exact (a3 hn).2 j hj
theorem Fr.IA {hs ks : List Nat} {S T : St} (h : Fr hs ks S T) {a c k : Nat} {v : Int32} (hk : sK T a = c) (hc : 10 ≤ c) (hm : c * 100 ∈ ks) : Fr hs ks S (stI T a k v) := h.I hk (by rw [cd_A hc]; exact hm)
theorem Fr.Ih {hs ks : List Nat} {S T : St} (h : Fr hs ks S T) {a k : Nat} {v : Int32} (hm : a ∈ hs) : Fr hs ks S (stI T a k v) := fun b hb => by
  obtain ⟨a1, a2, a3⟩ := h b hb
  refine ⟨a1, a2, fun hn => ⟨(a3 hn).1, fun j hj => ?_⟩⟩
  rw [iI_a (fun e => hn (by rw [e]; exact hm))]; exact (a3 hn).2 j hj
theorem Fr.J {hs ks : List Nat} {S T : St} (h : Fr hs ks S T) {a k : Nat} {v : Int64} : Fr hs ks S (stJ T a k v) := h
theorem Fr.W {hs ks : List Nat} {S T : St} (h : Fr hs ks S T) {a c : Nat} {f : Nat → Int32} (hk : sK T a = c) (hc : 10 ≤ c) (hm : c * 100 ∈ ks) : Fr hs ks S (stW T a f) := fun b hb => by
  obtain ⟨a1, a2, a3⟩ := h b hb
  refine ⟨a1, a2, fun hn => ⟨(a3 hn).1, fun j hj => ?_⟩⟩
  by_cases e : b = a
  · have hc2 : sK S b = c := by rw [← a1, e]; exact hk
    exact absurd (by rw [hc2, cd_A hc]; exact hm) hj
  · rw [iW_a e]; exact (a3 hn).2 j hj
theorem Fr.R {hs ks : List Nat} {S T : St} (h : Fr hs ks S T) {a c k : Nat} {v : Option Nat} (hk : sK T a = c) (hc : 10 ≤ c) : Fr hs ks S (stR T a k v) := fun b hb => by
  obtain ⟨a1, a2, a3⟩ := h b hb
  refine ⟨a1, a2, fun hn => ⟨fun h10 => ?_, (a3 hn).2⟩⟩
  have hne : b ≠ a := fun e => by rw [e] at a1 h10; omega
  rw [← (a3 hn).1 h10]
  funext j
  rw [rR, if_neg hne]
theorem Fr.Rh {hs ks : List Nat} {S T : St} (h : Fr hs ks S T) {a k : Nat} {v : Option Nat} (hm : a ∈ hs) : Fr hs ks S (stR T a k v) := fun b hb => by
  obtain ⟨a1, a2, a3⟩ := h b hb
  refine ⟨a1, a2, fun hn => ⟨fun h10 => ?_, (a3 hn).2⟩⟩
  rw [← (a3 hn).1 h10]
  funext j
  rw [rR, if_neg (fun e => hn (by rw [e]; exact hm))]
theorem Fr.N {hs ks : List Nat} {S T : St} (h : Fr hs ks S T) {q kd n : Nat} (hq : 20 ≤ sK T q) : Fr hs ks S (stN T q kd n) := fun b hb => by
  obtain ⟨a1, a2, a3⟩ := h b hb
  have hne : b ≠ q := fun e => by rw [e] at a1 hb; omega
  refine ⟨by rw [kN, if_neg hne]; exact a1, by rw [lNw, if_neg hne]; exact a2, fun hn => ⟨fun h10 => ?_, fun k hk => ?_⟩⟩
  · rw [← (a3 hn).1 h10]; funext j; rw [rN, if_neg hne]
  · rw [iN, if_neg hne]; exact (a3 hn).2 k hk
theorem Fr.new {hs ks : List Nat} {S T : St} (h : Fr hs ks S T) {q : Nat} (hq : 20 ≤ sK T q) : 20 ≤ sK S q := by
  rcases Nat.lt_or_ge (sK S q) 20 with h1 | h1
  · have := (h q h1).1; omega
  · exact h1
theorem Dn.F {hs ks ms : List Nat} {S T : St} {a c : Nat} (h : Dn ms S a c) (hf : Fr hs ks S T) (hk : sK S a = c) (hc : c < 10) (ha : a ∉ hs) : Dn ms T a c := fun k hkm kd n ht => by
  obtain ⟨b, h1, h2, h3⟩ := h k hkm kd n ht
  exact ⟨b, hf.rx ha hk hc h1, hf.k h2 (rty_lt ht).1, hf.n h2 (rty_lt ht).1 h3⟩
theorem rty_big (c k : Nat) (h : 70 ≤ k) : rty c k = none := by
  unfold rty
  split <;> first | rfl | exact absurd h (by decide)
theorem rtk {c : Nat} {ms : List Nat} (h : ∀ k, k < 70 → (rty c k).isSome = true → k ∈ ms) : ∀ k kd n, rty c k = some (kd, n) → k ∈ ms := fun k kd n e => by
  rcases Nat.lt_or_ge k 70 with h1 | h1
  · exact h k h1 (by rw [e]; rfl)
  · rw [rty_big c k h1] at e; cases e
theorem i3_inc {y x : Int32} (h : y.toInt < x.toInt) : (y + 1).toInt = y.toInt + 1 := i3_add rfl rfl (by have := i3_bd y; omega) (by have := i3_bd x; omega)
theorem i3_dec {y : Int32} (h : -2147483648 < y.toInt) : (y + (-1)).toInt = y.toInt - 1 := by
  have h1 : (y + (-1)).toInt = y.toInt + (-1) := i3_add rfl rfl (by omega) (by have := i3_bd y; omega)
  omega
