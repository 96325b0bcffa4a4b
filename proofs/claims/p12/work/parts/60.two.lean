/-! two pools side by side: a call works in its own, the other stays -/
theorem PW.reg {D : va_G} {cy : Nat → ClassId} {A B : Nat → Prop} {S : St} {H : Heap} (h : PW D cy A S H) (hB : ∀ q, sK S q < 20 → A q → B q) : PW D cy B S H := by
  obtain ⟨L, hL, hP, hD⟩ := h
  refine ⟨L, hL, hP, hD.weaken (fun k q hk ha => hB q.1 ?_ ha)⟩
  have hm : q ∈ va_pl L (ct cy S) := List.mem_of_getElem? hk
  obtain ⟨a, ham, rfl⟩ := List.mem_map.mp hm
  exact (hL a).mp ham
theorem PW.inA {D : va_G} {cy : Nat → ClassId} {A : Nat → Prop} {S : St} {H : Heap} (h : PW D cy A S H) {q : Nat} (hq : sK S q < 20) : A q ∧ q < H.size := by
  obtain ⟨L, k, hL, hP, hD, ha, hk⟩ := h.place hq
  exact ⟨hD.2 k _ hk, (hP k _ hk).lt⟩
theorem PW.stay {D : va_G} {cy : Nat → ClassId} {A : Nat → Prop} {S : St} {H H1 : Heap} (h : PW D cy A S H) (hq : ∀ q, sK S q < 20 → H1[q]? = H[q]?) : PW D cy A S H1 := by
  obtain ⟨L, hL, hP, hD⟩ := h
  refine ⟨L, hL, hP.kept (fun k q hk => hq q.1 ?_), hD⟩
  have hm : q ∈ va_pl L (ct cy S) := List.mem_of_getElem? hk
  obtain ⟨a, ham, rfl⟩ := List.mem_map.mp hm
  exact (hL a).mp ham
theorem ZA.narrow {A B : Nat → Prop} {n : String} {L : Nat} {xs : Nat → Value} {U : State} (h : ZA A n L xs U) (hAB : ∀ q, B q → A q) : ZA B n L xs U := by
  obtain ⟨t, h1, h2⟩ := h
  exact ⟨t, h1.narrow hAB, h2.narrow hAB⟩
theorem ZS.narrow {A B : Nat → Prop} {U : State} (h : ZS A U) (hAB : ∀ q, B q → A q) : ZS B U := ⟨h.1.narrow hAB, h.2.1.narrow hAB, h.2.2.1.narrow hAB, h.2.2.2⟩
def Dj (S T : St) : Prop := ∀ q, sK S q < 20 → sK T q < 20 → False
section PL
variable {p : Program} {l : Launch} {e : Env} {R : Room} {s : State} {m : MethodId} {args : Array Value} {below : List Frame} {meth : Method} {c : Code} {H : Heap} {locs : List Loc} {cells slots : Nat} {Q : State → Prop}
variable {cc bytes : ByteArray} {pc nL maxL mc ms n index : Nat} {ls : Array Slot} {As rest st0 : List Value} {D : va_G} {cy : Nat → ClassId} {A : Nat → Prop} {b : Nat} {S T : St} {y : MethodName} {ret : Option FieldType} {ws Ts : List Cond} {rm : Room} {own C host : String}
theorem pl_in (hW : PW D cy A S H) (hA : ∀ q, s.heap.size ≤ q → A q) (hS : va_S A s.heap H locs) : ∀ q, (sK S q < 20 ∨ H.size ≤ q) → A q := fun q h => h.elim (fun h => (hW.inA h).1) (fun h => hA q (Nat.le_trans hS.1 h))
theorem pl_pu (hW : PW D cy A S H) (hK : va_K D vwCl (tysC cy) s) (hZ : ZS A s) (hA : ∀ q, s.heap.size ≤ q → A q) (hS : va_S A s.heap H locs) {U : State} (hU : U.heap = H) (hvm : s.WarmedH U.vm) : PU D cy (fun q => sK S q < 20 ∨ H.size ≤ q) S U := by
  refine ⟨?_, va_K.moved hvm.alike hK, (hZ.at hS hU hvm).narrow (pl_in hW hA hS), fun q h => Or.inr (by rw [← hU]; exact h)⟩
  rw [hU]
  exact hW.reg (fun q h _ => Or.inl h)
theorem pl_back {S1 : St} {H1 : Heap} (hW : PW D cy A S H) (hT : PW D cy A T H) (hd : Dj S T) (hin : ∀ q, (sK S q < 20 ∨ H.size ≤ q) → A q) (h1 : PW D cy (fun q => sK S q < 20 ∨ H.size ≤ q) S1 H1) (hk : ∀ q : Nat, q < H.size → ¬ (sK S q < 20 ∨ H.size ≤ q) → H1[q]? = H[q]?) : PW D cy A S1 H1 ∧ PW D cy A T H1 ∧ Dj S1 T := by
  refine ⟨h1.reg (fun q _ h => hin q h), hT.stay (fun q h => hk q (hT.inA h).2 (fun h2 => h2.elim (fun h3 => hd q h3 h) (fun h3 => absurd (hT.inA h).2 (Nat.not_lt.mpr h3)))), fun q h2 h3 => ?_⟩
  exact (h1.inA h2).1.elim (fun h4 => hd q h4 h3) (fun h4 => absurd (hT.inA h3).2 (Nat.not_lt.mpr h4))
theorem pl_Vi {post : Int32 → St → Prop} (F : CallFix p m c cc nL s args Ts own) (hM : ∀ A, MI l y ws rm mc ms D cy A (.ref b :: As) S post) (cw : CallW R s args own C index y bytes maxL ret ws rm mc ms n) (hK : va_K D vwCl (tysC cy) s) (hZ : ZS A s) (hA : ∀ q, s.heap.size ≤ q → A q) (hW : PW D cy A S H) (hT : PW D cy A T H) (hd : Dj S T) (hS : va_S A s.heap H locs) {ci N : Nat} {Tb : u_T} (hk : sK S b = ci) (hci : ci < 10) (hc : vwCl[ci]? = some (C, Tb, N)) (hn : As.length = n) (hsize : ls.size = nL) (hstack : st0 = As.reverse ++ .ref b :: rest) (hr : (rest.map fun v => v.category).sum ≤ 8) (hdg : decode cc pc = .ok (.invokevirtual index, 3)) (hf : cells + mc ≤ R.cells ∧ slots + ms ≤ R.slots)
    (kk : ∀ (r : Int32) (S1 : St) (H1 : Heap) (locs1 : List Loc), post r S1 → PW D cy A S1 H1 → PW D cy A T H1 → Dj S1 T → va_S A s.heap H1 locs1 → W p l e R s m args below meth c H1 locs1 (cells + mc) (slots + ms) Q (F0 m (pc + 3) ls (.int r :: rest))) : W p l e R s m args below meth c H locs cells slots Q (F0 m pc ls st0) :=
  va_calli (va_runV F (hM (fun q => sK S q < 20 ∨ H.size ≤ q)) cw ⟨PU.blind, pc_recv hK hW hk hci hc, fun _ hU hWm => ⟨rfl, pl_pu hW hK hZ hA hS hU hWm⟩⟩ rfl hn hsize hstack (lv_room hr) hdg hf) hS (fun q _ h => pl_in hW hA hS q h) (fun q h => pl_in hW hA hS q h) (fun r u t H1 locs1 ht _ hw hB _ hk1 hS1 => by
    have h3 := pl_back hW hT hd (pl_in hW hA hS) (ht ▸ hB.1) hk1
    exact kk r u H1 locs1 hw h3.1 h3.2.1 h3.2.2 hS1)
theorem pl_Iv {post : St → Prop} (F : CallFix p m c cc nL s args Ts own) (hM : ∀ A, MV l y ws rm mc ms D cy A (.ref b :: As) S post) (cw : CallB R s args own index y bytes maxL none ws rm mc ms n ∧ y.name = "<init>" ∧ (Cond.instanceMethod y).before args s = true) (hK : va_K D vwCl (tysC cy) s) (hZ : ZS A s) (hA : ∀ q, s.heap.size ≤ q → A q) (hW : PW D cy A S H) (hT : PW D cy A T H) (hd : Dj S T) (hS : va_S A s.heap H locs) (hn : As.length = n) (hsize : ls.size = nL) (hstack : st0 = As.reverse ++ .ref b :: rest) (hr : (rest.map fun v => v.category).sum ≤ 8) (hdg : decode cc pc = .ok (.invokespecial index, 3)) (hf : cells + mc ≤ R.cells ∧ slots + ms ≤ R.slots)
    (kk : ∀ (S1 : St) (H1 : Heap) (locs1 : List Loc), post S1 → PW D cy A S1 H1 → PW D cy A T H1 → Dj S1 T → va_S A s.heap H1 locs1 → W p l e R s m args below meth c H1 locs1 (cells + mc) (slots + ms) Q (F0 m (pc + 3) ls rest)) : W p l e R s m args below meth c H locs cells slots Q (F0 m pc ls st0) :=
  va_callv (va_runI F (hM (fun q => sK S q < 20 ∨ H.size ≤ q)) cw ⟨PU.blind, fun _ hU hWm => ⟨rfl, pl_pu hW hK hZ hA hS hU hWm⟩⟩ rfl hn hsize hstack (lv_room hr) hdg hf) hS (fun q _ h => pl_in hW hA hS q h) (fun q h => pl_in hW hA hS q h) (fun u t H1 locs1 ht _ hw hB _ hk1 hS1 => by
    have h3 := pl_back hW hT hd (pl_in hW hA hS) (ht ▸ hB.1) hk1
    exact kk u H1 locs1 hw h3.1 h3.2.1 h3.2.2 hS1)
/-- a new object in its own, empty pool, beside another -/
theorem pl_new (hx : p.tables.exec = Jvm.exec) (hb : c.code = cc) {Tb : u_T} {N ci : Nat} (hts : ∀ w ∈ Ts, w.before args s = true) (hin : ∀ w ∈ u_ws C Tb N, w ∈ Ts) (ty : Nat → FieldType) (hty : ∀ k, k < N → parseFieldDescriptor (Tb k).2.2.1 = some (ty k)) (hown : s.vm.findClass own = some m.cls) (hcl : (Cond.classLink own index C).before args s = true) (hinst : (Cond.instantiable C N).before args s = true) (hini : (Cond.initialized C).before args s = true)
    (hK : va_K D vwCl (tysC cy) s) (hW : PW D cy A S H) (hS0 : ∀ q, 20 ≤ sK S q) (hT : PW D cy A T H) (hS : va_S A s.heap H locs) (hA : ∀ q, s.heap.size ≤ q → A q) (hci : ci < 10) (hc : vwCl[ci]? = some (C, Tb, N)) (hfs : ∀ j, j < N → defaultValue (ty j) = vp_V (fv (tb ci) (fun _ => 0) (fun _ => none)) j) (hcells : cells + 1 ≤ R.cells) (hslots : slots + N ≤ R.slots) (hdg : decode cc pc = .ok (.new index, 3))
    (kk : ∀ (q : Nat) (H1 : Heap), PW D cy A (stN S q ci 0) H1 → PW D cy A T H1 → Dj (stN S q ci 0) T → va_S A s.heap H1 locs → W p l e R s m args below meth c H1 locs (cells + 1) (slots + N) Q (F0 m (pc + 3) ls (.ref q :: rest))) : W p l e R s m args below meth c H locs cells slots Q (F0 m pc ls rest) := by
  obtain ⟨L, hL, hP, hD⟩ := hT
  refine va_new hx hb hts hin ty hty hown hcl hinst hini hK hP hD hS hA hc hfs hcells hslots hdg (fun q H1 h1 h2 h3 => ?_)
  have hq : q ∉ L := va_pl_fresh2 (X := []) h2
  have hT1 : va_P D vwCl (va_pl L (ct cy T)) H1 := fun k x hk => h1 k x (by rw [List.getElem?_append_left (List.getElem?_eq_some_iff.mp hk).1]; exact hk)
  have hn1 : va_at D vwCl (q, .inr (ci, fv (tb ci) (fun _ => 0) (fun _ => none))) H1 := h1 (va_pl L (ct cy T)).length _ (by rw [List.getElem?_append_right (Nat.le_refl _)]; simp)
  have hAq : A q := h2.2 (va_pl L (ct cy T)).length (q, .inr (ci, fv (tb ci) (fun _ => 0) (fun _ => none))) (by rw [List.getElem?_append_right (Nat.le_refl _)]; simp)
  have e0 : ct cy (stN S q ci 0) q = .inr (ci, fv (tb ci) (fun _ => 0) (fun _ => none)) := by
    rw [ct_obj (S := stN S q ci 0) (a := q) (ci := ci) (by rw [kN, if_pos rfl]) hci]
    have e1 : sI (stN S q ci 0) q = fun _ => 0 := by funext j; rw [iN, if_pos rfl]
    have e2 : sR (stN S q ci 0) q = fun _ => none := by funext j; rw [rN, if_pos rfl]
    rw [e1, e2]
  have hone : ∀ a, sK (stN S q ci 0) a < 20 → a = q := fun a h => by
    rcases Nat.decEq a q with h9 | h9
    · rw [kN, if_neg h9] at h
      exact absurd h (Nat.not_lt.mpr (hS0 a))
    · exact h9
  refine kk q H1 ⟨[q], fun a => ⟨fun h => ?_, fun h => ?_⟩, fun k x hk => ?_, ⟨fun i j x z hi hj _ => ?_, fun k x hk => ?_⟩⟩ ⟨L, hL, hT1, ?_⟩ (fun a h4 h5 => ?_) h3
  · rw [List.mem_singleton.mp h, kN, if_pos rfl]; omega
  · exact List.mem_singleton.mpr (hone a h)
  · match k, hk with
    | 0, hk =>
      cases hk
      show va_at D vwCl (q, ct cy (stN S q ci 0) q) H1
      rw [e0]
      exact hn1
  · match i, hi, j, hj with
    | 0, _, 0, _ => rfl
  · match k, hk with
    | 0, hk => cases hk; exact hAq
  · exact hD
  · have h6 := hone a h4
    exact hq (h6 ▸ (hL a).mpr h5)
end PL
def S0_ : St := (fun _ => 20, fun _ _ => 0, fun _ _ => none, fun _ _ => 0, fun _ => 0)
theorem S0_k (q : Nat) : 20 ≤ sK S0_ q := Nat.le_refl 20
theorem pw_0 (D : va_G) (cy : Nat → ClassId) (A : Nat → Prop) (H : Heap) : PW D cy A S0_ H :=
  ⟨[], fun a => ⟨fun h => absurd h List.not_mem_nil, fun h => absurd h (Nat.not_lt.mpr (S0_k a))⟩, fun k q h => by simp [va_pl] at h, fun i j x z h => by simp [va_pl] at h, fun k q h => by simp [va_pl] at h⟩
theorem tw_ {P : Prop} {u v a b : Int32} (h1 : (u = a ∧ P) ∨ (u = b ∧ ¬ P)) (h2 : (v = a ∧ P) ∨ (v = b ∧ ¬ P)) : u = v := by
  rcases h1 with ⟨rfl, h1⟩ | ⟨rfl, h1⟩ <;> rcases h2 with ⟨rfl, h2⟩ | ⟨rfl, h2⟩ <;> first | rfl | exact absurd h1 h2 | exact absurd h2 h1
theorem tw_i {P : Prop} {u v : Int32} (h1 : (u.toInt = 1 ∧ P) ∨ (u.toInt = 0 ∧ ¬ P)) (h2 : (v.toInt = 1 ∧ P) ∨ (v.toInt = 0 ∧ ¬ P)) : u = v := by
  refine (i3_eq _ _).mpr ?_
  rcases h1 with ⟨e1, h1⟩ | ⟨e1, h1⟩ <;> rcases h2 with ⟨e2, h2⟩ | ⟨e2, h2⟩ <;> first | exact e1.trans e2.symm | exact absurd h1 h2 | exact absurd h2 h1
