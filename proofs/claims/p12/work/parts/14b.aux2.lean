/-! small facts, second part -/
theorem isb_1 {a b v : Int32} (p : (v.toInt = 1 ∧ 0 ≤ a.toInt ∧ a.toInt < b.toInt) ∨ (v.toInt = 0 ∧ ¬ (0 ≤ a.toInt ∧ a.toInt < b.toInt))) (h : 0 ≤ a.toInt ∧ a.toInt < b.toInt) : v = 1 := (i3_eq _ _).mpr (by rcases p with p | p; exact p.1; exact absurd h p.2)
theorem r_in {a : Int32} {n : Nat} (h : 0 ≤ a.toInt ∧ a.toInt < n) : vp_in a n := vp_in_iff.mpr h
theorem cl_lt {a : Int32} {n : Nat} (h0 : 0 ≤ a.toInt) (h1 : a.toInt < n) : a.toNatClampNeg < n := by
  show a.toInt.toNat < n
  omega
/-- all bits of a mask of k ones, at a place below k -/
theorem in_24 {x : Int32} (h0 : 0 ≤ x.toInt) (h1 : x.toInt < 24) : ¬ ((16777215 : Int32) >>> (x &&& 31)) &&& 1 = 0 := by
  obtain ⟨j, hj, rfl⟩ := nI_of (x := x) (by rw [i3_lt]; show ¬ x.toInt < 0; omega)
  have h2 : j < 24 := by rw [nI_toInt hj] at h1; omega
  have hd : ∀ k, k < 24 → ¬ ((16777215 : Int32) >>> (nI k &&& 31)) &&& 1 = 0 := by decide +kernel
  exact hd j h2
theorem in_7 {x : Int32} (h0 : 0 ≤ x.toInt) (h1 : x.toInt < 7) : ¬ ((127 : Int32) >>> (x &&& 31)) &&& 1 = 0 := by
  obtain ⟨j, hj, rfl⟩ := nI_of (x := x) (by rw [i3_lt]; show ¬ x.toInt < 0; omega)
  have h2 : j < 7 := by rw [nI_toInt hj] at h1; omega
  have hd : ∀ k, k < 7 → ¬ ((127 : Int32) >>> (nI k &&& 31)) &&& 1 = 0 := by decide +kernel
  exact hd j h2
theorem in_4 {x : Int32} (h0 : 0 ≤ x.toInt) (h1 : x.toInt < 4) : ¬ ((15 : Int32) >>> (x &&& 31)) &&& 1 = 0 := by
  obtain ⟨j, hj, rfl⟩ := nI_of (x := x) (by rw [i3_lt]; show ¬ x.toInt < 0; omega)
  have h2 : j < 4 := by rw [nI_toInt hj] at h1; omega
  have hd : ∀ k, k < 4 → ¬ ((15 : Int32) >>> (nI k &&& 31)) &&& 1 = 0 := by decide +kernel
  exact hd j h2
theorem nn_of {x : Int32} (h : 0 ≤ x.toInt) : ∃ j : Nat, j < 2 ^ 31 ∧ x = nI j := nI_of (by rw [i3_lt]; show ¬ x.toInt < 0; omega)
theorem rem_t {x : Int32} (h : 0 ≤ x.toInt) {n : Nat} (h0 : 0 < n) (hn : n < 2 ^ 31) : 0 ≤ (x - x / nI n * nI n).toInt ∧ (x - x / nI n * nI n).toInt < n := by
  obtain ⟨j, hj, rfl⟩ := nn_of h
  have h1 := Nat.mod_lt j h0
  rw [pk_rem hj h0 hn, nI_toInt (by omega)]
  omega
theorem div_t {x : Int32} (h : 0 ≤ x.toInt) {n : Nat} (h0 : 0 < n) (hn : n < 2 ^ 31) : 0 ≤ (x / nI n).toInt := by
  obtain ⟨j, hj, rfl⟩ := nn_of h
  have h1 := Nat.div_le_self j n
  rw [pk_div hj h0 hn, nI_toInt (by omega)]
  exact Int.natCast_nonneg _
theorem rem24 {x : Int32} (h : 0 ≤ x.toInt) : 0 ≤ (x - x / 24 * 24).toInt ∧ (x - x / 24 * 24).toInt < 24 := rem_t h (n := 24) (by decide) (by decide)
theorem rem7 {x : Int32} (h : 0 ≤ x.toInt) : 0 ≤ (x - x / 7 * 7).toInt ∧ (x - x / 7 * 7).toInt < 7 := rem_t h (n := 7) (by decide) (by decide)
theorem div24 {x : Int32} (h : 0 ≤ x.toInt) : 0 ≤ (x / 24).toInt := div_t h (n := 24) (by decide) (by decide)
theorem isb_lit {a b v : Int32} {n : Int} (hn : b.toInt = n) (p : (v.toInt = 1 ∧ 0 ≤ a.toInt ∧ a.toInt < b.toInt) ∨ (v.toInt = 0 ∧ ¬ (0 ≤ a.toInt ∧ a.toInt < b.toInt))) : (v.toInt = 1 ∧ 0 ≤ a.toInt ∧ a.toInt < n) ∨ (v.toInt = 0 ∧ ¬ (0 ≤ a.toInt ∧ a.toInt < n)) := by
  rw [hn] at p; exact p
theorem iW_a {S : St} {a b j : Nat} {f : Nat → Int32} (h : b ≠ a) : sI (stW S a f) b j = sI S b j := by rw [iW, if_neg h]
theorem ct_W {cy : Nat → ClassId} {S : St} {a : Nat} {f : Nat → Int32} (hk : sK S a = 11) : ct cy (stW S a f) a = .inl (cy 11, sL S a, .inl f) := by
  rw [ct_int (S := stW S a f) hk (by omega)]
  have e1 : sI (stW S a f) a = f := by funext j; rw [iW, if_pos rfl]
  rw [e1]
  rfl
theorem ct_oW {cy : Nat → ClassId} {S : St} {a b : Nat} {f : Nat → Int32} (hb : b ≠ a) : ct cy (stW S a f) b = ct cy S b := by
  refine (ct_congr (S := S) (T := stW S a f) rfl ?_ rfl rfl rfl).symm
  funext j
  rw [iW, if_neg hb]
section PCP
variable {p : Program} {l : Launch} {e : Env} {R : Room} {s : State} {m : MethodId} {args : Array Value} {below : List Frame} {meth : Method} {c : Code} {H : Heap} {locs : List Loc} {cells slots : Nat} {Q : State → Prop}
variable {cc : ByteArray} {pc : Nat} {ls : Array Slot} {rest : List Value} {D : va_G} {cy : Nat → ClassId} {A : Nat → Prop} {a : Nat} {S : St} {H0 : Heap}
theorem pg_copyi (hx : p.tables.exec = Jvm.exec) (hb : c.code = cc) (hml : c.maxLocals = ls.size) {own : String} {index : Nat} (hown : s.vm.findClass own = some m.cls) (hlink : (Cond.methodLink own index arraycopyName).before args s = true) (hnat : (Cond.native arraycopyName).before args s = true) (hstat : (Cond.static arraycopyName).before args s = true) (hini : (Cond.initialized "java/lang/System").before args s = true)
    (hK : va_K D vwCl (tysC cy) s) (hW : PW D cy A S H) (hS : va_S A H0 H locs) {a0 : Nat} (hk0 : sK S a0 = 11) (hk : sK S a = 11) {sp dp n : Int32} (h1 : ¬ sp < 0) (h2 : ¬ dp < 0) (h3 : ¬ n < 0) (h4 : sp.toNatClampNeg + n.toNatClampNeg ≤ sL S a0) (h5 : dp.toNatClampNeg + n.toNatClampNeg ≤ sL S a)
    (hframes : 1 ≤ R.frames) (hlocals : (rest.map fun v => v.category).sum + (nativeFrameWords "java/lang/System" "arraycopy" 5 + 11) ≤ R.locals) (hdg : decode cc pc = .ok (.invokestatic index, 3))
    (kk : ∀ (f : Nat → Int32) (H1 : Heap) (locs1 : List Loc), PW D cy A (stW S a f) H1 → va_S A H0 H1 locs1 → W p l e R s m args below meth c H1 locs1 cells slots Q (F0 m (pc + 3) ls rest)) : W p l e R s m args below meth c H locs cells slots Q (F0 m pc ls (.int n :: .int dp :: .ref a :: .int sp :: .ref a0 :: rest)) := by
  obtain ⟨L, q, hL, hP, hD, ha, hq⟩ := hW.place (a := a) (by omega)
  obtain ⟨q0, hq0⟩ := va_pl_get (X := []) (f := ct cy S) ((hL a0).mpr (by omega))
  rw [ct_int hk0 (by omega)] at hq0
  have hq2 := hq
  rw [ct_int hk (by omega)] at hq2
  refine va_copyi hx hb hml hown hlink hnat hstat hini hK hP hD hS q0 q 1 1 hq0 hq2 rfl rfl rfl h1 h2 h3 h4 h5 (fun i _ => rfl) hframes hlocals hdg (fun H1 locs1 g1 g2 g3 => ?_)
  have hz := pw_set (T := stW S a (va_cpy (sI S a0) (sI S a) sp.toNatClampNeg dp.toNatClampNeg n.toNatClampNeg)) hD ha hq (ct_W hk) (fun b hb => ct_oW hb)
  exact kk _ H1 locs1 ⟨L, hL, hz ▸ g1, hz ▸ g2⟩ g3
end PCP
