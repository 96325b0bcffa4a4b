/-! calls that hand over an array of a static field -/
def PT (D : va_G) (cy : Nat → ClassId) (A : Nat → Prop) (S : St) (t : Nat) (xs : Nat → Value) (U : State) : Prop := PU D cy A S U ∧ va_T .int t 4 xs A U U.heap
theorem PT.blind {D : va_G} {cy : Nat → ClassId} {A : Nat → Prop} {S : St} {t : Nat} {xs : Nat → Value} {av : List Value} : FrameBlind (va_Pc av (PT D cy A S t xs)) := by
  intro a U g mk h
  obtain ⟨h1, hU, hT⟩ := h
  have hal : U.vm.Alike (U.calling g mk a).vm := Vm.Alike.refl U.vm
  exact ⟨h1, (PU.blind (av := av) a U g mk ⟨h1, hU⟩).2, va_T.moved (u := U) (U := U.calling g mk a) hal hT⟩
def MIT (l : Launch) (y : MethodName) (ws : List Cond) (rm : Room) (mc ms : Nat) (D : va_G) (cy : Nat → ClassId) (A : Nat → Prop) (av : List Value) (S : St) (t : Nat) (xs : Nat → Value) (post : Int32 → St → Prop) : Prop := Met l y ws rm (va_Pc av (PT D cy A S t xs)) (va_Qi post (PU D cy A) A) mc ms A
theorem PT.mk {D : va_G} {cy : Nat → ClassId} {A : Nat → Prop} {S : St} {t : Nat} {xs : Nat → Value} {s U : State} {H : Heap} {locs : List Loc} (h : PU D cy A S U) (hT : va_T .int t 4 xs A s s.heap) (hS : va_S A s.heap H locs) (hU : U.heap = H) (hvm : s.WarmedH U.vm) : PT D cy A S t xs U :=
  ⟨h, by rw [hU]; exact (hT.kept (fun a ha hn => hS.2.1 a ha hn)).moved hvm.alike⟩
section PCT
variable {p : Program} {l : Launch} {e : Env} {R : Room} {s : State} {m : MethodId} {args : Array Value} {below : List Frame} {meth : Method} {c : Code} {H : Heap} {locs : List Loc} {cells slots : Nat} {Q : State → Prop}
variable {cc bytes : ByteArray} {pc nL maxL mc ms n index : Nat} {ls : Array Slot} {As rest st0 : List Value} {D : va_G} {cy : Nat → ClassId} {A : Nat → Prop} {t : Nat} {xs : Nat → Value} {S : St} {y : MethodName} {ret : Option FieldType} {ws Ts : List Cond} {rm : Room} {own C host : String}
theorem pc_SiT {post : Int32 → St → Prop} (F : CallFix p m c cc nL s args Ts own) (hM : MIT l y ws rm mc ms D cy A As S t xs post) (cw : CallB R s args own index y bytes maxL ret ws rm mc ms n ∧ (Cond.static y).before args s = true) (hK : va_K D vwCl (tysC cy) s) (hZ : ZS A s) (hA : ∀ q, s.heap.size ≤ q → A q) (hW : PW D cy A S H) (hS : va_S A s.heap H locs) (hT : va_T .int t 4 xs A s s.heap) (hn : As.length = n) (hsize : ls.size = nL) (hstack : st0 = As.reverse ++ rest) (hr : (rest.map fun v => v.category).sum ≤ 8) (hdg : decode cc pc = .ok (.invokestatic index, 3)) (hf : cells + mc ≤ R.cells ∧ slots + ms ≤ R.slots)
    (kk : ∀ (r : Int32) (S1 : St) (H1 : Heap) (locs1 : List Loc), post r S1 → PW D cy A S1 H1 → va_S A s.heap H1 locs1 → W p l e R s m args below meth c H1 locs1 (cells + mc) (slots + ms) Q (F0 m (pc + 3) ls (.int r :: rest))) : W p l e R s m args below meth c H locs cells slots Q (F0 m pc ls st0) :=
  va_calli (va_runS F hM cw ⟨PT.blind, fun _ hU hWm => ⟨rfl, PT.mk (PU.mk hW hK hZ hA hS hU hWm) hT hS hU hWm⟩⟩ rfl hn hsize hstack (lv_room hr) hdg hf) hS (fun _ _ h => h) (fun _ h => h) (fun r u t H1 locs1 ht _ hw hB _ _ hS1 => kk r u H1 locs1 hw (ht ▸ hB.1) hS1)
theorem pc_NiT {post : Int32 → St → Prop} (F : CallFix p m c cc nL s args Ts own) (hM : MIT l y ws rm mc ms D cy A As S t xs post) (cw : va_CN R s args own index y host bytes maxL ret ws rm mc ms n ∧ (Cond.static y).before args s = true ∧ True) (hK : va_K D vwCl (tysC cy) s) (hZ : ZS A s) (hA : ∀ q, s.heap.size ≤ q → A q) (hW : PW D cy A S H) (hS : va_S A s.heap H locs) (hT : va_T .int t 4 xs A s s.heap) (hn : As.length = n) (hsize : ls.size = nL) (hstack : st0 = As.reverse ++ rest) (hr : (rest.map fun v => v.category).sum ≤ 8) (hdg : decode cc pc = .ok (.invokestatic index, 3)) (hf : cells + mc ≤ R.cells ∧ slots + ms ≤ R.slots)
    (kk : ∀ (r : Int32) (S1 : St) (H1 : Heap) (locs1 : List Loc), post r S1 → PW D cy A S1 H1 → va_S A s.heap H1 locs1 → W p l e R s m args below meth c H1 locs1 (cells + mc) (slots + ms) Q (F0 m (pc + 3) ls (.int r :: rest))) : W p l e R s m args below meth c H locs cells slots Q (F0 m pc ls st0) :=
  va_calli (va_runSN F hM cw ⟨PT.blind, fun _ hU hWm => ⟨rfl, PT.mk (PU.mk hW hK hZ hA hS hU hWm) hT hS hU hWm⟩⟩ rfl hn hsize hstack (lv_room hr) hdg hf) hS (fun _ _ h => h) (fun _ h => h) (fun r u t H1 locs1 ht _ hw hB _ _ hS1 => kk r u H1 locs1 hw (ht ▸ hB.1) hS1)
end PCT
theorem mt_startT {l : Launch} {y : MethodName} {ws ws' : List Cond} {rm : Room} {Qc : Array Value → State → Outcome → State → Prop} {mc ms : Nat} {free : Addr → Prop} {cc : ByteArray} {maxL : Nat} {ret : Option FieldType} {D : va_G} {cy : Nat → ClassId} {A : Nat → Prop} {av : List Value} {S : St} {t : Nat} {xs : Nat → Value} (hy : plainName y.cls = true) (hw : ws = Cond.code y cc maxL ret :: ws') (hav : (lg_sl av).length ≤ maxL)
    (body : ∀ (p : Program) (e : Env) (s : State) (m : MethodId) (args : Array Value) (below : List Frame) (meth : Method) (c : Code), p.tables.exec = Jvm.exec → c.code = cc → meth.sig.returnType = ret → meth.locks = false → c.maxLocals = maxL → s.vm.findClass y.cls = some m.cls → meth.name = y.name → (∀ w ∈ ws, w.before args s = true) → va_K D vwCl (tysC cy) s → ZS A s → (∀ q, s.heap.size ≤ q → A q) → PW D cy A S s.heap → va_S A s.heap s.heap [] → va_T .int t 4 xs A s s.heap → ∀ ls : Array Slot, lv_has ls maxL (lv_args 0 av) →
      W p l e rm s m args below meth c s.heap [] 0 0 (MQ below Qc args s mc ms free) (F0 m 0 ls [])) : Met l y ws rm (va_Pc av (PT D cy A S t xs)) Qc mc ms free := by
  refine Met.ofW (cc := cc) (maxL := maxL) (ret := ret) hy hw ?_
  intro p e s m args below meth c s₁ B hml hv
  obtain ⟨rfl, ⟨hW, hK, hZ, hA⟩, hT⟩ := hv
  have hl := lv_entry av (n := maxL) hav
  rw [lg_entry_eq]
  exact body p e s m _ below meth c B.exec B.bytes B.returns B.notSynchronized hml (findClass_of_methodNamed B.named) (name_of_methodNamed B.named B.method).1 (atoms_spec (ws := ws) B.pre) hK hZ hA hW va_S.rf hT _ hl
theorem rty_4 (k : Nat) : rty 4 k = none := rfl
theorem rty_6 (k : Nat) : rty 6 k = none := rfl
theorem rty_10 (k : Nat) : rty 10 k = none := rfl
theorem rty_11 (k : Nat) : rty 11 k = none := rfl
theorem rty_12 (k : Nat) : rty 12 k = none := rfl
theorem rty_13 (k : Nat) : rty 13 k = none := rfl
theorem rty_14 (k : Nat) : rty 14 k = none := rfl
theorem rty_15 (k : Nat) : rty 15 k = none := rfl
theorem rty_16 (k : Nat) : rty 16 k = none := rfl
theorem rty_17 (k : Nat) : rty 17 k = none := rfl
theorem rty_18 (k : Nat) : rty 18 k = none := rfl
theorem rty_19 (k : Nat) : rty 19 k = none := rfl
