theorem iW_a {S : St} {a b j : Nat} {f : Nat → Int32} (h : b ≠ a) : sI (stW S a f) b j = sI S b j := by rw [iW, if_neg h]
theorem ct_W {cy : Nat → ClassId} {S : St} {a : Nat} {f : Nat → Int32} (hk : sK S a = 11) : ct cy (stW S a f) a = .inl (cy 11, sL S a, .inl f) := by
  rw [ct_int (S := stW S a f) hk (by omega)]
  have e1 : sI (stW S a f) a = f := by funext j; rw [iW, if_pos rfl]
  rw [e1]
  rfl
theorem ct_oW {cy : Nat → ClassId} {S : St} {a b : Nat} {f : Nat → Int32} (hb : b ≠ a) : ct cy (stW S a f) b = ct cy S b := by
  refine (ct_congr (S := S) (T := stW S a f) rfl ?_ rfl rfl rfl).symm
  funext j
  rw [iW, if_neg hb]
section PCP
variable {p : Program} {l : Launch} {e : Env} {R : Room} {s : State} {m : MethodId} {args : Array Value} {below : List Frame} {meth : Method} {c : Code} {H : Heap} {locs : List Loc} {cells slots : Nat} {Q : State → Prop}
variable {cc : ByteArray} {pc : Nat} {ls : Array Slot} {rest : List Value} {D : va_G} {cy : Nat → ClassId} {A : Nat → Prop} {a : Nat} {S : St} {H0 : Heap}
theorem pg_copyi (hx : p.tables.exec = Jvm.exec) (hb : c.code = cc) (hml : c.maxLocals = ls.size) {own : String} {index : Nat} (hown : s.vm.findClass own = some m.cls) (hlink : (Cond.methodLink own index arraycopyName).before args s = true) (hnat : (Cond.native arraycopyName).before args s = true) (hstat : (Cond.static arraycopyName).before args s = true) (hini : (Cond.initialized "java/lang/System").before args s = true)
    (hK : va_K D vwCl (tysC cy) s) (hW : PW D cy A S H) (hS : va_S A H0 H locs) {a0 : Nat} (hk0 : sK S a0 = 11) (hk : sK S a = 11) {sp dp n : Int32} (h1 : ¬ sp < 0) (h2 : ¬ dp < 0) (h3 : ¬ n < 0) (h4 : sp.toNatClampNeg + n.toNatClampNeg ≤ sL S a0) (h5 : dp.toNatClampNeg + n.toNatClampNeg ≤ sL S a)
    (hframes : 1 ≤ R.frames) (hlocals : (rest.map fun v => v.category).sum + (nativeFrameWords "java/lang/System" "arraycopy" 5 + 11) ≤ R.locals) (hdg : decode cc pc = .ok (.invokestatic index, 3))
    (kk : ∀ (f : Nat → Int32) (H1 : Heap) (locs1 : List Loc), PW D cy A (stW S a f) H1 → va_S A H0 H1 locs1 → W p l e R s m args below meth c H1 locs1 cells slots Q (F0 m (pc + 3) ls rest)) : W p l e R s m args below meth c H locs cells slots Q (F0 m pc ls (.int n :: .int dp :: .ref a :: .int sp :: .ref a0 :: rest)) := by
  obtain ⟨L, q, hL, hP, hD, ha, hq⟩ := hW.place (a := a) (by omega)
  obtain ⟨q0, hq0⟩ := va_pl_get (X := []) (f := ct cy S) ((hL a0).mpr (by omega))
  rw [ct_int hk0 (by omega)] at hq0
  have hq2 := hq
  rw [ct_int hk (by omega)] at hq2
  refine va_copyi hx hb hml hown hlink hnat hstat hini hK hP hD hS q0 q 1 1 hq0 hq2 rfl rfl rfl h1 h2 h3 h4 h5 (fun i _ => rfl) hframes hlocals hdg (fun H1 locs1 g1 g2 g3 => ?_)
  have hz := pw_set (T := stW S a (va_cpy (sI S a0) (sI S a) sp.toNatClampNeg dp.toNatClampNeg n.toNatClampNeg)) hD ha hq (ct_W hk) (fun b hb => ct_oW hb)
  exact kk _ H1 locs1 ⟨L, hL, hz ▸ g1, hz ▸ g2⟩ g3
end PCP
