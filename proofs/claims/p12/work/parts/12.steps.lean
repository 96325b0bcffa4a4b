/-! rows of the machine over the pool -/
section PS
variable {p : Program} {l : Launch} {e : Env} {R : Room} {s : State} {m : MethodId} {args : Array Value} {below : List Frame} {meth : Method} {c : Code} {H : Heap} {locs : List Loc} {cells slots : Nat} {Q : State → Prop}
variable {cc : ByteArray} {pc : Nat} {ls : Array Slot} {rest : List Value} {D : va_G} {cy : Nat → ClassId} {A : Nat → Prop} {a : Nat} {S : St} {H0 : Heap}
theorem pg_gi (hx : p.tables.exec = Jvm.exec) (hb : c.code = cc) {own ref C : String} {T : u_T} {N ci index : Nat} {Ts : List Cond} (hts : ∀ w ∈ Ts, w.before args s = true) (hin : ∀ w ∈ u_ws C T N, w ∈ Ts) (hown : s.vm.findClass own = some m.cls) (hK : va_K D vwCl (tysC cy) s) (hW : PW D cy A S H) (hk : sK S a = ci) (hci : ci < 10) (hc : vwCl[ci]? = some (C, T, N)) (k : Nat) (hkN : k < N) (hlink : (Cond.fieldLink own index ref (T k).2.1 (T k).2.2.1).before args s = true) (hsame : ∀ x, s.fieldFound? (T k).1 (T k).2.1 (T k).2.2.1 = some x → s.fieldFound? ref (T k).2.1 (T k).2.2.1 = some x) (ht : (tb ci)[k]? = some false) (hdg : decode cc pc = .ok (.getfield index, 3))
    (kk : W p l e R s m args below meth c H locs cells slots Q (F0 m (pc + 3) ls (.int (sI S a k) :: rest))) : W p l e R s m args below meth c H locs cells slots Q (F0 m pc ls (.ref a :: rest)) := by
  obtain ⟨L, q, hL, hP, hD, ha, hq⟩ := hW.place (a := a) (by omega)
  rw [ct_obj hk hci] at hq
  exact va_get hx hb hts hin hown hK hP q hq hc k hkN hlink hsame (fv_i ht) hdg kk
theorem pg_gq (hx : p.tables.exec = Jvm.exec) (hb : c.code = cc) {own ref C : String} {T : u_T} {N ci index : Nat} {Ts : List Cond} (hts : ∀ w ∈ Ts, w.before args s = true) (hin : ∀ w ∈ u_ws C T N, w ∈ Ts) (hown : s.vm.findClass own = some m.cls) (hK : va_K D vwCl (tysC cy) s) (hW : PW D cy A S H) (hk : sK S a = ci) (hci : ci < 10) (hc : vwCl[ci]? = some (C, T, N)) (k : Nat) (hkN : k < N) (hlink : (Cond.fieldLink own index ref (T k).2.1 (T k).2.2.1).before args s = true) (hsame : ∀ x, s.fieldFound? (T k).1 (T k).2.1 (T k).2.2.1 = some x → s.fieldFound? ref (T k).2.1 (T k).2.2.1 = some x) (ht : (tb ci)[k]? = some true) (hdg : decode cc pc = .ok (.getfield index, 3))
    (kk : W p l e R s m args below meth c H locs cells slots Q (F0 m (pc + 3) ls (va_rf (sR S a k) :: rest))) : W p l e R s m args below meth c H locs cells slots Q (F0 m pc ls (.ref a :: rest)) := by
  obtain ⟨L, q, hL, hP, hD, ha, hq⟩ := hW.place (a := a) (by omega)
  rw [ct_obj hk hci] at hq
  exact va_get hx hb hts hin hown hK hP q hq hc k hkN hlink hsame (fv_r ht) hdg kk
theorem pg_gr (hx : p.tables.exec = Jvm.exec) (hb : c.code = cc) {own ref C : String} {T : u_T} {N ci index b : Nat} {Ts : List Cond} (hts : ∀ w ∈ Ts, w.before args s = true) (hin : ∀ w ∈ u_ws C T N, w ∈ Ts) (hown : s.vm.findClass own = some m.cls) (hK : va_K D vwCl (tysC cy) s) (hW : PW D cy A S H) (hk : sK S a = ci) (hci : ci < 10) (hc : vwCl[ci]? = some (C, T, N)) (k : Nat) (hkN : k < N) (hlink : (Cond.fieldLink own index ref (T k).2.1 (T k).2.2.1).before args s = true) (hsame : ∀ x, s.fieldFound? (T k).1 (T k).2.1 (T k).2.2.1 = some x → s.fieldFound? ref (T k).2.1 (T k).2.2.1 = some x) (ht : (tb ci)[k]? = some true) (hr : sR S a k = some b) (hdg : decode cc pc = .ok (.getfield index, 3))
    (kk : W p l e R s m args below meth c H locs cells slots Q (F0 m (pc + 3) ls (.ref b :: rest))) : W p l e R s m args below meth c H locs cells slots Q (F0 m pc ls (.ref a :: rest)) :=
  pg_gq hx hb hts hin hown hK hW hk hci hc k hkN hlink hsame ht hdg (by rw [hr]; exact kk)
theorem ct_stI {S : St} {a ci k : Nat} {v : Int32} (hk : sK S a = ci) (hci : ci < 10) (ht : (tb ci)[k]? = some false) : ct cy (stI S a k v) a = .inr (ci, (fv (tb ci) (sI S a) (sR S a)).set k (.int v)) := by
  rw [ct_obj (S := stI S a k v) hk hci, fv_si v ht]
  have h1 : sI (stI S a k v) a = fun j => if j = k then v else sI S a j := by funext j; rw [iI]; simp
  rw [h1]
  rfl
theorem ct_stR {S : St} {a ci k : Nat} {v : Option Nat} (hk : sK S a = ci) (hci : ci < 10) (ht : (tb ci)[k]? = some true) : ct cy (stR S a k v) a = .inr (ci, (fv (tb ci) (sI S a) (sR S a)).set k (va_rf v)) := by
  rw [ct_obj (S := stR S a k v) hk hci, fv_sr v ht]
  have h1 : sR (stR S a k v) a = fun j => if j = k then v else sR S a j := by funext j; rw [rR]; simp
  rw [h1]
  rfl
theorem ct_oI {S : St} {a k b : Nat} {v : Int32} (hb : b ≠ a) : ct cy (stI S a k v) b = ct cy S b := by
  refine (ct_congr (S := S) (T := stI S a k v) rfl ?_ rfl rfl rfl).symm
  funext j
  rw [iI, if_neg hb]
theorem ct_oR {S : St} {a k b : Nat} {v : Option Nat} (hb : b ≠ a) : ct cy (stR S a k v) b = ct cy S b := by
  refine (ct_congr (S := S) (T := stR S a k v) rfl rfl ?_ rfl rfl).symm
  funext j
  rw [rR, if_neg hb]
theorem ct_oJ {S : St} {a k b : Nat} {v : Int64} (hb : b ≠ a) : ct cy (stJ S a k v) b = ct cy S b := by
  refine (ct_congr (S := S) (T := stJ S a k v) rfl rfl rfl ?_ rfl).symm
  funext j
  rw [jJ, if_neg hb]
theorem pg_pi (hx : p.tables.exec = Jvm.exec) (hb : c.code = cc) {own ref C : String} {T : u_T} {N ci index : Nat} {Ts : List Cond} (hts : ∀ w ∈ Ts, w.before args s = true) (hin : ∀ w ∈ u_ws C T N, w ∈ Ts) (ty0 : Nat → FieldType) (hty : ∀ k, k < N → parseFieldDescriptor (T k).2.2.1 = some (ty0 k)) (hnm : ∀ a, a < N → ∀ b, b < N → a ≠ b → (T a).2.1 ≠ (T b).2.1) (hown : s.vm.findClass own = some m.cls) (hK : va_K D vwCl (tysC cy) s) (hW : PW D cy A S H) (hS : va_S A H0 H locs) (hk : sK S a = ci) (hci : ci < 10) (hc : vwCl[ci]? = some (C, T, N)) (k : Nat) (hkN : k < N) (hlink : (Cond.fieldLink own index ref (T k).2.1 (T k).2.2.1).before args s = true) (hsame : ∀ x, s.fieldFound? (T k).1 (T k).2.1 (T k).2.2.1 = some x → s.fieldFound? ref (T k).2.1 (T k).2.2.1 = some x) (hfin : (T k).2.2.2 = false) (hd : ty0 k = .int) (ht : (tb ci)[k]? = some false) {v : Int32} (hdg : decode cc pc = .ok (.putfield index, 3))
    (kk : ∀ (H1 : Heap) (locs1 : List Loc), PW D cy A (stI S a k v) H1 → va_S A H0 H1 locs1 → W p l e R s m args below meth c H1 locs1 cells slots Q (F0 m (pc + 3) ls rest)) : W p l e R s m args below meth c H locs cells slots Q (F0 m pc ls (.int v :: .ref a :: rest)) := by
  obtain ⟨L, q, hL, hP, hD, ha, hq⟩ := hW.place (a := a) (by omega)
  have hq2 := hq
  rw [ct_obj hk hci] at hq2
  refine va_put hx hb hts hin ty0 hty hnm hown hK hP hD hS q hq2 hc k hkN hlink hsame hfin (ty := .int) (by rw [hty k hkN, hd]) rfl rfl (by rw [fv_len]; exact (List.getElem?_eq_some_iff.mp ht).1) hdg (fun H1 locs1 h1 h2 h3 => kk H1 locs1 ⟨L, hL, ?_, ?_⟩ h3)
  · rw [← pw_set (T := stI S a k v) hD ha hq (ct_stI hk hci ht) (fun b hb => ct_oI hb)]; exact h1
  · rw [← pw_set (T := stI S a k v) hD ha hq (ct_stI hk hci ht) (fun b hb => ct_oI hb)]; exact h2
/-- a reference field; 'fits' of a reference is true -/
theorem pg_pr (hx : p.tables.exec = Jvm.exec) (hb : c.code = cc) {own ref C : String} {T : u_T} {N ci index : Nat} {Ts : List Cond} (hts : ∀ w ∈ Ts, w.before args s = true) (hin : ∀ w ∈ u_ws C T N, w ∈ Ts) (ty0 : Nat → FieldType) (hty : ∀ k, k < N → parseFieldDescriptor (T k).2.2.1 = some (ty0 k)) (hnm : ∀ a, a < N → ∀ b, b < N → a ≠ b → (T a).2.1 ≠ (T b).2.1) (hown : s.vm.findClass own = some m.cls) (hK : va_K D vwCl (tysC cy) s) (hW : PW D cy A S H) (hS : va_S A H0 H locs) (hk : sK S a = ci) (hci : ci < 10) (hc : vwCl[ci]? = some (C, T, N)) (k : Nat) (hkN : k < N) (hlink : (Cond.fieldLink own index ref (T k).2.1 (T k).2.2.1).before args s = true) (hsame : ∀ x, s.fieldFound? (T k).1 (T k).2.1 (T k).2.2.1 = some x → s.fieldFound? ref (T k).2.1 (T k).2.2.1 = some x) (hfin : (T k).2.2.2 = true) (hin2 : meth.name = "<init>") (hdecl : (T k).1 = own) {v : Nat} (hn : narrow (ty0 k) (.ref v) = .ref v) (hfit : fits (ty0 k) (.ref v) = true) (ht : (tb ci)[k]? = some true) (hdg : decode cc pc = .ok (.putfield index, 3))
    (kk : ∀ (H1 : Heap) (locs1 : List Loc), PW D cy A (stR S a k (some v)) H1 → va_S A H0 H1 locs1 → W p l e R s m args below meth c H1 locs1 cells slots Q (F0 m (pc + 3) ls rest)) : W p l e R s m args below meth c H locs cells slots Q (F0 m pc ls (.ref v :: .ref a :: rest)) := by
  obtain ⟨L, q, hL, hP, hD, ha, hq⟩ := hW.place (a := a) (by omega)
  have hq2 := hq
  rw [ct_obj hk hci] at hq2
  refine va_putF hx hb hts hin ty0 hty hnm hown hK hP hD hS q hq2 hc k hkN hlink hsame hfin hin2 hdecl (ty := ty0 k) (hty k hkN) hn hfit (by rw [fv_len]; exact (List.getElem?_eq_some_iff.mp ht).1) hdg (fun H1 locs1 h1 h2 h3 => kk H1 locs1 ⟨L, hL, ?_, ?_⟩ h3)
  · rw [← pw_set (T := stR S a k (some v)) hD ha hq (ct_stR hk hci ht) (fun b hb => ct_oR hb)]; exact h1
  · rw [← pw_set (T := stR S a k (some v)) hD ha hq (ct_stR hk hci ht) (fun b hb => ct_oR hb)]; exact h2
/-- a final int field, in a constructor -/
theorem pg_pf (hx : p.tables.exec = Jvm.exec) (hb : c.code = cc) {own ref C : String} {T : u_T} {N ci index : Nat} {Ts : List Cond} (hts : ∀ w ∈ Ts, w.before args s = true) (hin : ∀ w ∈ u_ws C T N, w ∈ Ts) (ty0 : Nat → FieldType) (hty : ∀ k, k < N → parseFieldDescriptor (T k).2.2.1 = some (ty0 k)) (hnm : ∀ a, a < N → ∀ b, b < N → a ≠ b → (T a).2.1 ≠ (T b).2.1) (hown : s.vm.findClass own = some m.cls) (hK : va_K D vwCl (tysC cy) s) (hW : PW D cy A S H) (hS : va_S A H0 H locs) (hk : sK S a = ci) (hci : ci < 10) (hc : vwCl[ci]? = some (C, T, N)) (k : Nat) (hkN : k < N) (hlink : (Cond.fieldLink own index ref (T k).2.1 (T k).2.2.1).before args s = true) (hsame : ∀ x, s.fieldFound? (T k).1 (T k).2.1 (T k).2.2.1 = some x → s.fieldFound? ref (T k).2.1 (T k).2.2.1 = some x) (hfin : (T k).2.2.2 = true) (hin2 : meth.name = "<init>") (hdecl : (T k).1 = own) (hd : ty0 k = .int) (ht : (tb ci)[k]? = some false) {v : Int32} (hdg : decode cc pc = .ok (.putfield index, 3))
    (kk : ∀ (H1 : Heap) (locs1 : List Loc), PW D cy A (stI S a k v) H1 → va_S A H0 H1 locs1 → W p l e R s m args below meth c H1 locs1 cells slots Q (F0 m (pc + 3) ls rest)) : W p l e R s m args below meth c H locs cells slots Q (F0 m pc ls (.int v :: .ref a :: rest)) := by
  obtain ⟨L, q, hL, hP, hD, ha, hq⟩ := hW.place (a := a) (by omega)
  have hq2 := hq
  rw [ct_obj hk hci] at hq2
  refine va_putF hx hb hts hin ty0 hty hnm hown hK hP hD hS q hq2 hc k hkN hlink hsame hfin hin2 hdecl (ty := .int) (by rw [hty k hkN, hd]) rfl rfl (by rw [fv_len]; exact (List.getElem?_eq_some_iff.mp ht).1) hdg (fun H1 locs1 h1 h2 h3 => kk H1 locs1 ⟨L, hL, ?_, ?_⟩ h3)
  · rw [← pw_set (T := stI S a k v) hD ha hq (ct_stI hk hci ht) (fun b hb => ct_oI hb)]; exact h1
  · rw [← pw_set (T := stI S a k v) hD ha hq (ct_stI hk hci ht) (fun b hb => ct_oI hb)]; exact h2
/-- arrays -/
theorem pg_iald (hx : p.tables.exec = Jvm.exec) (hb : c.code = cc) (hK : va_K D vwCl (tysC cy) s) (hW : PW D cy A S H) {ci : Nat} (hk : sK S a = ci) (hci : ci = 11 ∨ ci = 16 ∨ ci = 17 ∨ ci = 18 ∨ ci = 19) {i : Int32} (hin : vp_in i (sL S a)) (hdg : decode cc pc = .ok (.iaload, 1))
    (kk : W p l e R s m args below meth c H locs cells slots Q (F0 m (pc + 1) ls (.int (sI S a i.toNatClampNeg) :: rest))) : W p l e R s m args below meth c H locs cells slots Q (F0 m pc ls (.int i :: .ref a :: rest)) := by
  obtain ⟨L, q, hL, hP, hD, ha, hq⟩ := hW.place (a := a) (by omega)
  rcases hci with rfl | rfl | rfl | rfl | rfl <;> rw [ct_int hk (by omega)] at hq <;> exact va_iald hx hb hK hP q 1 hq rfl hin hdg kk
theorem pg_bald (hx : p.tables.exec = Jvm.exec) (hb : c.code = cc) (hK : va_K D vwCl (tysC cy) s) (hW : PW D cy A S H) (hk : sK S a = 10) {i : Int32} (hin : vp_in i (sL S a)) (hdg : decode cc pc = .ok (.baload, 1))
    (kk : W p l e R s m args below meth c H locs cells slots Q (F0 m (pc + 1) ls (.int (sI S a i.toNatClampNeg) :: rest))) : W p l e R s m args below meth c H locs cells slots Q (F0 m pc ls (.int i :: .ref a :: rest)) := by
  obtain ⟨L, q, hL, hP, hD, ha, hq⟩ := hW.place (a := a) (by omega)
  rw [ct_int hk (by omega)] at hq
  exact va_bald hx hb hK hP q 0 hq rfl hin hdg kk
theorem pg_zald (hx : p.tables.exec = Jvm.exec) (hb : c.code = cc) (hK : va_K D vwCl (tysC cy) s) (hW : PW D cy A S H) (hk : sK S a = 13) {i : Int32} (hin : vp_in i (sL S a)) (hdg : decode cc pc = .ok (.baload, 1))
    (kk : W p l e R s m args below meth c H locs cells slots Q (F0 m (pc + 1) ls (.int (sI S a i.toNatClampNeg) :: rest))) : W p l e R s m args below meth c H locs cells slots Q (F0 m pc ls (.int i :: .ref a :: rest)) := by
  obtain ⟨L, q, hL, hP, hD, ha, hq⟩ := hW.place (a := a) (by omega)
  rw [ct_int hk (by omega)] at hq
  exact va_zald hx hb hK hP q 3 hq rfl hin hdg kk
theorem pg_lald (hx : p.tables.exec = Jvm.exec) (hb : c.code = cc) (hK : va_K D vwCl (tysC cy) s) (hW : PW D cy A S H) (hk : sK S a = 12) {i : Int32} (hin : vp_in i (sL S a)) (hdg : decode cc pc = .ok (.laload, 1))
    (kk : W p l e R s m args below meth c H locs cells slots Q (F0 m (pc + 1) ls (.long (sJ S a i.toNatClampNeg) :: rest))) : W p l e R s m args below meth c H locs cells slots Q (F0 m pc ls (.int i :: .ref a :: rest)) := by
  obtain ⟨L, q, hL, hP, hD, ha, hq⟩ := hW.place (a := a) (by omega)
  rw [ct_long hk] at hq
  exact va_lald hx hb hK hP q 2 hq rfl hin hdg kk
theorem pg_aaldR (hx : p.tables.exec = Jvm.exec) (hb : c.code = cc) (hK : va_K D vwCl (tysC cy) s) (hW : PW D cy A S H) (hk : sK S a = 14) {i : Int32} (hin : vp_in i (sL S a)) (hdg : decode cc pc = .ok (.aaload, 1))
    (kk : W p l e R s m args below meth c H locs cells slots Q (F0 m (pc + 1) ls (va_rf (sR S a i.toNatClampNeg) :: rest))) : W p l e R s m args below meth c H locs cells slots Q (F0 m pc ls (.int i :: .ref a :: rest)) := by
  obtain ⟨L, q, hL, hP, hD, ha, hq⟩ := hW.place (a := a) (by omega)
  rw [ct_ref hk (by omega)] at hq
  exact va_aldq hx hb hK hP q 4 hq rfl hin hdg kk
theorem pg_aaldS (hx : p.tables.exec = Jvm.exec) (hb : c.code = cc) (hK : va_K D vwCl (tysC cy) s) (hW : PW D cy A S H) (hk : sK S a = 15) {i : Int32} (hin : vp_in i (sL S a)) (hdg : decode cc pc = .ok (.aaload, 1))
    (kk : W p l e R s m args below meth c H locs cells slots Q (F0 m (pc + 1) ls (va_rf (sR S a i.toNatClampNeg) :: rest))) : W p l e R s m args below meth c H locs cells slots Q (F0 m pc ls (.int i :: .ref a :: rest)) := by
  obtain ⟨L, q, hL, hP, hD, ha, hq⟩ := hW.place (a := a) (by omega)
  rw [ct_ref hk (by omega)] at hq
  exact va_aldq hx hb hK hP q 5 hq rfl hin hdg kk
theorem pg_alen (hx : p.tables.exec = Jvm.exec) (hb : c.code = cc) (hK : va_K D vwCl (tysC cy) s) (hW : PW D cy A S H) (hk : sK S a = 11) (hdg : decode cc pc = .ok (.arraylength, 1))
    (kk : W p l e R s m args below meth c H locs cells slots Q (F0 m (pc + 1) ls (.int (nI (sL S a)) :: rest))) : W p l e R s m args below meth c H locs cells slots Q (F0 m pc ls (.ref a :: rest)) := by
  obtain ⟨L, q, hL, hP, hD, ha, hq⟩ := hW.place (a := a) (by omega)
  rw [ct_int hk (by omega)] at hq
  exact va_alen hx hb hK hP q 1 hq rfl rfl hdg kk
theorem ct_aI {S : St} {a ci k : Nat} {v : Int32} (hk : sK S a = ci) (hci : ci = 10 ∨ ci = 11 ∨ ci = 13 ∨ ci = 16 ∨ ci = 17 ∨ ci = 18 ∨ ci = 19) : ct cy (stI S a k v) a = .inl (cy (ak ci), sL S a, .inl (upd (sI S a) k v)) := by
  rw [ct_int (S := stI S a k v) hk hci]
  have h1 : sI (stI S a k v) a = upd (sI S a) k v := by funext j; rw [iI]; simp [upd]
  rw [h1]
  rfl
theorem ct_aJ {S : St} {a k : Nat} {v : Int64} (hk : sK S a = 12) : ct cy (stJ S a k v) a = .inl (cy 12, sL S a, .inr (.inl (vp_updL (sJ S a) k v))) := by
  rw [ct_long (S := stJ S a k v) hk]
  have h1 : sJ (stJ S a k v) a = vp_updL (sJ S a) k v := by funext j; rw [jJ]; simp [vp_updL]
  rw [h1]
  rfl
theorem ct_aR {S : St} {a ci k : Nat} {v : Option Nat} (hk : sK S a = ci) (hci : ci = 14 ∨ ci = 15) : ct cy (stR S a k v) a = .inl (cy ci, sL S a, .inr (.inr (.inr (.inr (va_up (sR S a) k v))))) := by
  rw [ct_ref (S := stR S a k v) hk hci]
  have h1 : sR (stR S a k v) a = va_up (sR S a) k v := by funext j; rw [rR]; simp [va_up]
  rw [h1]
  rfl
theorem pg_iast (hx : p.tables.exec = Jvm.exec) (hb : c.code = cc) (hK : va_K D vwCl (tysC cy) s) (hW : PW D cy A S H) (hS : va_S A H0 H locs) {ci : Nat} (hk : sK S a = ci) (hci : ci = 11 ∨ ci = 16 ∨ ci = 17 ∨ ci = 18 ∨ ci = 19) {i x : Int32} (hin : vp_in i (sL S a)) (hdg : decode cc pc = .ok (.iastore, 1))
    (kk : ∀ (H1 : Heap) (locs1 : List Loc), PW D cy A (stI S a i.toNatClampNeg x) H1 → va_S A H0 H1 locs1 → W p l e R s m args below meth c H1 locs1 cells slots Q (F0 m (pc + 1) ls rest)) : W p l e R s m args below meth c H locs cells slots Q (F0 m pc ls (.int x :: .int i :: .ref a :: rest)) := by
  obtain ⟨L, q, hL, hP, hD, ha, hq⟩ := hW.place (a := a) (by omega)
  rcases hci with rfl | rfl | rfl | rfl | rfl
  · have hq2 := hq
    rw [ct_int hk (by omega)] at hq2
    have hz := pw_set (T := stI S a i.toNatClampNeg x) hD ha hq (ct_aI hk (by omega)) (fun b hb => ct_oI hb)
    refine va_iast hx hb hK hP hD hS q 1 hq2 rfl hin hdg (fun H1 locs1 h1 h2 h3 => kk H1 locs1 ⟨L, hL, hz ▸ h1, hz ▸ h2⟩ h3)
  · have hq2 := hq
    rw [ct_int hk (by omega)] at hq2
    have hz := pw_set (T := stI S a i.toNatClampNeg x) hD ha hq (ct_aI hk (by omega)) (fun b hb => ct_oI hb)
    refine va_iast hx hb hK hP hD hS q 1 hq2 rfl hin hdg (fun H1 locs1 h1 h2 h3 => kk H1 locs1 ⟨L, hL, hz ▸ h1, hz ▸ h2⟩ h3)
  · have hq2 := hq
    rw [ct_int hk (by omega)] at hq2
    have hz := pw_set (T := stI S a i.toNatClampNeg x) hD ha hq (ct_aI hk (by omega)) (fun b hb => ct_oI hb)
    refine va_iast hx hb hK hP hD hS q 1 hq2 rfl hin hdg (fun H1 locs1 h1 h2 h3 => kk H1 locs1 ⟨L, hL, hz ▸ h1, hz ▸ h2⟩ h3)
  · have hq2 := hq
    rw [ct_int hk (by omega)] at hq2
    have hz := pw_set (T := stI S a i.toNatClampNeg x) hD ha hq (ct_aI hk (by omega)) (fun b hb => ct_oI hb)
    refine va_iast hx hb hK hP hD hS q 1 hq2 rfl hin hdg (fun H1 locs1 h1 h2 h3 => kk H1 locs1 ⟨L, hL, hz ▸ h1, hz ▸ h2⟩ h3)
  · have hq2 := hq
    rw [ct_int hk (by omega)] at hq2
    have hz := pw_set (T := stI S a i.toNatClampNeg x) hD ha hq (ct_aI hk (by omega)) (fun b hb => ct_oI hb)
    refine va_iast hx hb hK hP hD hS q 1 hq2 rfl hin hdg (fun H1 locs1 h1 h2 h3 => kk H1 locs1 ⟨L, hL, hz ▸ h1, hz ▸ h2⟩ h3)
theorem pg_bast (hx : p.tables.exec = Jvm.exec) (hb : c.code = cc) (hK : va_K D vwCl (tysC cy) s) (hW : PW D cy A S H) (hS : va_S A H0 H locs) (hk : sK S a = 10) {i x : Int32} (hin : vp_in i (sL S a)) (hdg : decode cc pc = .ok (.bastore, 1))
    (kk : ∀ (H1 : Heap) (locs1 : List Loc), PW D cy A (stI S a i.toNatClampNeg (vp_nar .byte x)) H1 → va_S A H0 H1 locs1 → W p l e R s m args below meth c H1 locs1 cells slots Q (F0 m (pc + 1) ls rest)) : W p l e R s m args below meth c H locs cells slots Q (F0 m pc ls (.int x :: .int i :: .ref a :: rest)) := by
  obtain ⟨L, q, hL, hP, hD, ha, hq⟩ := hW.place (a := a) (by omega)
  have hq2 := hq
  rw [ct_int hk (by omega)] at hq2
  have hz := pw_set (T := stI S a i.toNatClampNeg (vp_nar .byte x)) hD ha hq (ct_aI hk (by omega)) (fun b hb => ct_oI hb)
  refine va_bast hx hb hK hP hD hS q 0 hq2 rfl hin hdg (fun H1 locs1 h1 h2 h3 => kk H1 locs1 ⟨L, hL, hz ▸ h1, hz ▸ h2⟩ h3)
theorem pg_zast (hx : p.tables.exec = Jvm.exec) (hb : c.code = cc) (hK : va_K D vwCl (tysC cy) s) (hW : PW D cy A S H) (hS : va_S A H0 H locs) (hk : sK S a = 13) {i x : Int32} (hin : vp_in i (sL S a)) (hdg : decode cc pc = .ok (.bastore, 1))
    (kk : ∀ (H1 : Heap) (locs1 : List Loc), PW D cy A (stI S a i.toNatClampNeg (vp_nar .boolean x)) H1 → va_S A H0 H1 locs1 → W p l e R s m args below meth c H1 locs1 cells slots Q (F0 m (pc + 1) ls rest)) : W p l e R s m args below meth c H locs cells slots Q (F0 m pc ls (.int x :: .int i :: .ref a :: rest)) := by
  obtain ⟨L, q, hL, hP, hD, ha, hq⟩ := hW.place (a := a) (by omega)
  have hq2 := hq
  rw [ct_int hk (by omega)] at hq2
  have hz := pw_set (T := stI S a i.toNatClampNeg (vp_nar .boolean x)) hD ha hq (ct_aI hk (by omega)) (fun b hb => ct_oI hb)
  refine va_zast hx hb hK hP hD hS q 3 hq2 rfl hin hdg (fun H1 locs1 h1 h2 h3 => kk H1 locs1 ⟨L, hL, hz ▸ h1, hz ▸ h2⟩ h3)
theorem pg_last (hx : p.tables.exec = Jvm.exec) (hb : c.code = cc) (hK : va_K D vwCl (tysC cy) s) (hW : PW D cy A S H) (hS : va_S A H0 H locs) (hk : sK S a = 12) {i : Int32} {x : Int64} (hin : vp_in i (sL S a)) (hdg : decode cc pc = .ok (.lastore, 1))
    (kk : ∀ (H1 : Heap) (locs1 : List Loc), PW D cy A (stJ S a i.toNatClampNeg x) H1 → va_S A H0 H1 locs1 → W p l e R s m args below meth c H1 locs1 cells slots Q (F0 m (pc + 1) ls rest)) : W p l e R s m args below meth c H locs cells slots Q (F0 m pc ls (.long x :: .int i :: .ref a :: rest)) := by
  obtain ⟨L, q, hL, hP, hD, ha, hq⟩ := hW.place (a := a) (by omega)
  have hq2 := hq
  rw [ct_long hk] at hq2
  have hz := pw_set (T := stJ S a i.toNatClampNeg x) hD ha hq (ct_aJ hk) (fun b hb => ct_oJ hb)
  refine va_last hx hb hK hP hD hS q 2 hq2 rfl hin hdg (fun H1 locs1 h1 h2 h3 => kk H1 locs1 ⟨L, hL, hz ▸ h1, hz ▸ h2⟩ h3)
theorem pg_aast (hx : p.tables.exec = Jvm.exec) (hb : c.code = cc) (hK : va_K D vwCl (tysC cy) s) (hW : PW D cy A S H) (hS : va_S A H0 H locs) {t0 ka ci : Nat} (hka : ka = 14 ∨ ka = 15) (hk : sK S a = ka) {v : Nat} (hkv : sK S v = ci) (hci : ci < 10) {r : vw_C} (hc : vwCl[ci]? = some r) (ht : (tysC cy)[t0]? = some (cy ka, .object r.1)) {i : Int32} (hin : vp_in i (sL S a)) (hdg : decode cc pc = .ok (.aastore, 1))
    (kk : ∀ (H1 : Heap) (locs1 : List Loc), PW D cy A (stR S a i.toNatClampNeg (some v)) H1 → va_S A H0 H1 locs1 → W p l e R s m args below meth c H1 locs1 cells slots Q (F0 m (pc + 1) ls rest)) : W p l e R s m args below meth c H locs cells slots Q (F0 m pc ls (.ref v :: .int i :: .ref a :: rest)) := by
  obtain ⟨L, q, hL, hP, hD, ha, hq⟩ := hW.place (a := a) (by omega)
  have hv : v ∈ L := (hL v).mpr (by omega)
  obtain ⟨qv, hqv⟩ := va_pl_get (X := []) (f := ct cy S) hv
  rw [ct_obj hkv hci] at hqv
  have hq2 := hq
  rw [ct_ref hk hka] at hq2
  have hz := pw_set (T := stR S a i.toNatClampNeg (some v)) hD ha hq (ct_aR hk hka) (fun b hb => ct_oR hb)
  refine va_astq hx hb hK hP hD hS q t0 qv ci hq2 ht hqv hc hin hdg (fun H1 locs1 h1 h2 h3 => kk H1 locs1 ⟨L, hL, hz ▸ h1, hz ▸ h2⟩ h3)
/-- new objects and arrays -/
theorem pg_new (hx : p.tables.exec = Jvm.exec) (hb : c.code = cc) {own C : String} {T : u_T} {N ci index : Nat} {Ts : List Cond} (hts : ∀ w ∈ Ts, w.before args s = true) (hin : ∀ w ∈ u_ws C T N, w ∈ Ts) (ty : Nat → FieldType) (hty : ∀ k, k < N → parseFieldDescriptor (T k).2.2.1 = some (ty k)) (hown : s.vm.findClass own = some m.cls) (hcl : (Cond.classLink own index C).before args s = true) (hinst : (Cond.instantiable C N).before args s = true) (hini : (Cond.initialized C).before args s = true)
    (hK : va_K D vwCl (tysC cy) s) (hW : PW D cy A S H) (hS : va_S A H0 H locs) (hA : ∀ q, H0.size ≤ q → A q) (hci : ci < 10) (hc : vwCl[ci]? = some (C, T, N)) (hfs : ∀ j, j < N → defaultValue (ty j) = vp_V (fv (tb ci) (fun _ => 0) (fun _ => none)) j) (hcells : cells + 1 ≤ R.cells) (hslots : slots + N ≤ R.slots) (hdg : decode cc pc = .ok (.new index, 3))
    (kk : ∀ (q : Nat) (H1 : Heap), 20 ≤ sK S q → PW D cy A (stN S q ci 0) H1 → va_S A H0 H1 locs → W p l e R s m args below meth c H1 locs (cells + 1) (slots + N) Q (F0 m (pc + 3) ls (.ref q :: rest))) : W p l e R s m args below meth c H locs cells slots Q (F0 m pc ls rest) := by
  obtain ⟨L, hL, hP, hD⟩ := hW
  refine va_new hx hb hts hin ty hty hown hcl hinst hini hK hP hD hS hA hc hfs hcells hslots hdg (fun q H1 h1 h2 h3 => ?_)
  have h4 := pw_push (kd := ci) (n := 0) (by omega) hL h1 h2 (by
    rw [ct_obj (S := stN S q ci 0) (a := q) (ci := ci) (by rw [kN, if_pos rfl]) hci]
    have e1 : sI (stN S q ci 0) q = fun _ => 0 := by funext j; rw [iN, if_pos rfl]
    have e2 : sR (stN S q ci 0) q = fun _ => none := by funext j; rw [rN, if_pos rfl]
    rw [e1, e2])
  exact kk q H1 h4.2 h4.1 h3
theorem pg_newa (hx : p.tables.exec = Jvm.exec) (hb : c.code = cc) {atype : ArrayType} (harr : (Cond.arrayClass (newarray.typeOf atype)).before args s = true) {ty : FieldType} (hty : newarray.typeOf atype = ty) {kd t0 : Nat} (ht : (tysC cy)[t0]? = some (cy (ak kd), ty)) (hprim : ty = .int ∨ ty = .byte ∨ ty = .boolean ∨ ty = .long) (hkd : kd = 10 ∨ kd = 11 ∨ kd = 12 ∨ kd = 13 ∨ kd = 16 ∨ kd = 17 ∨ kd = 18 ∨ kd = 19)
    (hK : va_K D vwCl (tysC cy) s) (hW : PW D cy A S H) (hS : va_S A H0 H locs) (hA : ∀ q, H0.size ≤ q → A q) {n : Int32} {N' : Nat} (ha : ∀ cA : ClassId, vp_cell cA (if kd = 12 then (N', .inr (.inl (fun _ => 0))) else (N', .inl (fun _ => 0))) = arrV cA N' (fun _ => defaultValue ty)) (hn : ¬ n < 0) (hN : n.toNatClampNeg = N') (hbytes : N' * componentBytes ty ≤ 536870912) (hcells : cells + 1 ≤ R.cells) (hslots : slots + N' ≤ R.slots) (hdg : decode cc pc = .ok (.newarray atype, 2))
    (kk : ∀ (q : Nat) (H1 : Heap), 20 ≤ sK S q → PW D cy A (stN S q kd N') H1 → va_S A H0 H1 locs → W p l e R s m args below meth c H1 locs (cells + 1) (slots + N') Q (F0 m (pc + 2) ls (.ref q :: rest))) : W p l e R s m args below meth c H locs cells slots Q (F0 m pc ls (.int n :: rest)) := by
  obtain ⟨L, hL, hP, hD⟩ := hW
  refine va_newa hx hb harr hty hK hP hD hS hA ha hn hN hbytes hcells hslots hdg (fun q cA H1 h0 h1 h2 h3 => ?_)
  have hc1 : va_RA s cA ty := (h0.2 6 (cA, ty) rfl).2
  have hc2 : va_RA s (cy (ak kd)) ty := (hK.2 t0 _ ht).2
  have hcA : cA = cy (ak kd) := by
    rcases hprim with rfl | rfl | rfl | rfl <;> exact Option.some.inj (hc1.symm.trans hc2)
  subst hcA
  have e1 : sI (stN S q kd N') q = fun _ => 0 := by funext j; rw [iN, if_pos rfl]
  have e2 : sJ (stN S q kd N') q = fun _ => 0 := by funext j; rw [jN, if_pos rfl]
  have e3 : sL (stN S q kd N') q = N' := by rw [lNw, if_pos rfl]
  have h4 := pw_push (kd := kd) (n := N') (by omega) hL h1 h2 (by
    rcases hkd with rfl | rfl | rfl | rfl | rfl | rfl | rfl | rfl
    · rw [ct_int (S := stN S q 10 N') (a := q) (ci := 10) (by rw [kN, if_pos rfl]) (by omega), e1, e3]; rfl
    · rw [ct_int (S := stN S q 11 N') (a := q) (ci := 11) (by rw [kN, if_pos rfl]) (by omega), e1, e3]; rfl
    · rw [ct_long (S := stN S q 12 N') (a := q) (by rw [kN, if_pos rfl]), e2, e3]; rfl
    · rw [ct_int (S := stN S q 13 N') (a := q) (ci := 13) (by rw [kN, if_pos rfl]) (by omega), e1, e3]; rfl
    · rw [ct_int (S := stN S q 16 N') (a := q) (ci := 16) (by rw [kN, if_pos rfl]) (by omega), e1, e3]; rfl
    · rw [ct_int (S := stN S q 17 N') (a := q) (ci := 17) (by rw [kN, if_pos rfl]) (by omega), e1, e3]; rfl
    · rw [ct_int (S := stN S q 18 N') (a := q) (ci := 18) (by rw [kN, if_pos rfl]) (by omega), e1, e3]; rfl
    · rw [ct_int (S := stN S q 19 N') (a := q) (ci := 19) (by rw [kN, if_pos rfl]) (by omega), e1, e3]; rfl)
  exact kk q H1 h4.2 h4.1 h3
theorem pg_newq (hx : p.tables.exec = Jvm.exec) (hb : c.code = cc) {own C : String} {index : Nat} (hown : s.vm.findClass own = some m.cls) (hclink : (Cond.classLink own index C).before args s = true) (hover : va_AO C s) {kd t0 : Nat} (ht : (tysC cy)[t0]? = some (cy kd, .object C)) (hkd : kd = 14 ∨ kd = 15) (hK : va_K D vwCl (tysC cy) s) (hW : PW D cy A S H) (hS : va_S A H0 H locs) (hA : ∀ q, H0.size ≤ q → A q)
    {n : Int32} {N' : Nat} (hn : ¬ n < 0) (hN : n.toNatClampNeg = N') (hbytes : N' * 4 ≤ 536870912) (hcells : cells + 1 ≤ R.cells) (hslots : slots + N' ≤ R.slots) (hdg : decode cc pc = .ok (.anewarray index, 3))
    (kk : ∀ (q : Nat) (H1 : Heap), 20 ≤ sK S q → PW D cy A (stN S q kd N') H1 → va_S A H0 H1 locs → W p l e R s m args below meth c H1 locs (cells + 1) (slots + N') Q (F0 m (pc + 3) ls (.ref q :: rest))) : W p l e R s m args below meth c H locs cells slots Q (F0 m pc ls (.int n :: rest)) := by
  obtain ⟨L, hL, hP, hD⟩ := hW
  refine va_newq hx hb hown hclink hover hK hP hD hS hA hn hN hbytes hcells hslots hdg (fun q cA H1 h0 h1 h2 h3 => ?_)
  obtain ⟨_, _, _, _, _, hc1⟩ := (h0.2 6 (cA, .object C) rfl).2
  obtain ⟨_, _, _, _, _, hc2⟩ := (hK.2 t0 _ ht).2
  have hcA : cA = cy kd := Option.some.inj (hc1.symm.trans hc2)
  subst hcA
  have e1 : sR (stN S q kd N') q = fun _ => none := by funext j; rw [rN, if_pos rfl]
  have e3 : sL (stN S q kd N') q = N' := by rw [lNw, if_pos rfl]
  have h4 := pw_push (kd := kd) (n := N') (by omega) hL h1 h2 (by
    rw [ct_ref (S := stN S q kd N') (a := q) (ci := kd) (by rw [kN, if_pos rfl]) hkd, e1, e3])
  exact kk q H1 h4.2 h4.1 h3
end PS
