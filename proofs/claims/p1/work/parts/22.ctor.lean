set_option maxHeartbeats 4000000 in
set_option maxRecDepth 100000 in
theorem c_X0_init (l : Launch) (D : va_G) (cy : Nat → ClassId) (A : Nat → Prop) (S : St) (h : Nat) (hk : sK S h = 0) : MV l yX0_init wsX0_init ({ frames := 1, cells := 1, slots := 32, locals := 60 } : Room) 1 32 D cy A [.ref h] S (fun S1 => Kx [h] S S1 ∧ ∃ w, 16 ≤ sK S w ∧ sK S1 h = 0 ∧ sR S1 h 0 = some w ∧ sK S1 w = 12 ∧ sL S1 w = 32 ∧ (∀ j, sJ S1 w j = 0)) := by
  refine mt_start (cc := cX0_init) (maxL := 1) (ret := none) (by decide) rfl (Nat.le_of_ble_eq_true rfl) ?_
  intro p e s m args below meth c hx hb hr hlk hml hown hnm hts hK hZ hA hW hS ls hl
  have hl : lv_has ls 1 [(0, .ref h)] := hl
  have hown : s.vm.findClass RX0 = some m.cls := hown
  have F : CallFix p m c cX0_init 1 s args wsX0_init RX0 := ⟨hx, hb, hml, hown, hts⟩
  have i0 : ∀ w ∈ u_ws RX0 TX0 1, w ∈ wsX0_init := by decide +kernel
  have hX : Kx [h] S S := Kx.rf _ S
  refine lv_aload_n hx hb dX0_init_0 rfl (lv_at hl 0 rfl) ?_
  refine W.objInit hx hb hown (hts (.methodLink RX0 3 objectInit) (by decide +kernel)) (hts (.instanceMethod objectInit) (by decide +kernel)) (hts (.code objectInit ⟨#[0xb1]⟩ 1 none) (by decide +kernel)) rfl (by rw [hml]; exact hl.1) rfl dX0_init_1 (Nat.le_of_ble_eq_true rfl) (Nat.le_of_ble_eq_true rfl) ?_
  refine W.eq (g2 := F0 m 4 ls []) rfl ?_
  refine lv_aload_n hx hb dX0_init_4 rfl (lv_at hl 0 rfl) ?_
  refine lv_bipush (v := 32) hx hb dX0_init_5 (by decide) ?_
  refine pg_newa (atype := .long) (ty := .long) (kd := 12) (t0 := 2) (N' := 32) hx hb (hts (.arrayClass .long) (by decide +kernel)) rfl rfl (Or.inr (Or.inr (Or.inr rfl))) (by decide) hK hW hS hA (fun _ => rfl) (by decide) (by decide) (Nat.le_of_ble_eq_true rfl) (Nat.le_of_ble_eq_true rfl) (Nat.le_of_ble_eq_true rfl) dX0_init_7 (fun q1 H hq1 hW hS => ?_)
  have f3 : h ≠ q1 := fun e9 => by have h8 := hq1; rw [← e9] at h8; have h7 := hk; omega
  have o4 : 16 ≤ sK S q1 := hX.old hq1 (ni_c (Ne.symm f3) ni_0)
  have hX : Kx [h] S (stN S q1 12 32) := hX.N hq1
  obtain ⟨S2, eS2⟩ : ∃ T : St, T = stN S q1 12 32 := ⟨_, rfl⟩
  rw [← eS2] at hW hX
  have k5 : sK S2 h = 0 ∧ h ≠ q1 := fk_N eS2 hk (by decide) hq1
  have w6 : ∀ j, sJ S2 q1 j = 0 := fun j => by rw [eS2, jN, if_pos rfl]
  have k7 : sK S2 q1 = 12 := by rw [eS2, kN, if_pos rfl]
  have n8 : sL S2 q1 = 32 := by rw [eS2, lNw, if_pos rfl]
  refine pg_pr (ci := 0) (C := RX0) (T := TX0) (N := 1) hx hb hts i0 tyX0 tyX0_ok nmX0 hown hK hW hS k5.1 (by decide) rfl 0 (by decide) (hts (.fieldLink RX0 9 "IceHall$HourSet" "words" "[J") (by decide +kernel)) (fun _ h9 => h9) rfl hnm rfl rfl rfl rfl dX0_init_9 (fun H locs hW hS => ?_)
  have hX : Kx [h] S (stR S2 h 0 (some q1)) := hX.Rh List.mem_cons_self
  obtain ⟨S9, eS9⟩ : ∃ T : St, T = stR S2 h 0 (some q1) := ⟨_, rfl⟩
  rw [← eS9] at hW hX
  have k10 : sK S9 h = 0 := by rw [eS9]; exact k5.1
  have k11 : sK S9 q1 = 12 := by rw [eS9]; exact k7
  have n12 : sL S9 q1 = 32 := by rw [eS9]; exact n8
  have w13 : ∀ j, sJ S9 q1 j = 0 := fun j => by rw [eS9]; exact w6 j 
  have r14 : sR S9 h 0 = some q1 := by rw [eS9, rR, if_pos rfl, if_pos rfl]
  exact pc_vret (S := S9) hx hb hr hlk hK hZ hA hW hS (⟨hX, q1, o4, k10, r14, k11, n12, w13⟩) dX0_init_12
