set_option maxHeartbeats 8000000 in
set_option maxRecDepth 100000 in
/-- THE LAW, from its entry -/
theorem whole_start {p : Program} {e : Env} {s : State} {m : MethodId} {below : List Frame} {meth : Method} {c : Code} (l : Launch) {b L : Nat} {xs : Nat → Int32} (hL : L ≤ 3072) (C0 : lw_At p s m meth c b L xs) : W p l e room_1 s m #[Value.ref b] below meth c s.heap [] 0 0 (lw_Z below #[Value.ref b] s) (entryFrame m ([Value.ref b] : List Value).toArray 4) := by
  obtain ⟨hx, hb, hr, hml, hown, hts0, hXs, hbl, hlocks, hgv⟩ := id C0
  have hts : ∀ w ∈ wsL_law, w.before #[Value.ref b] s = true := fun w h => hts0 w (wsL_law_in w h)
  obtain ⟨D, cy, hK⟩ := st_K hts0
  have hZ0 := st_Z hts0 hgv
  obtain ⟨A, eA⟩ : ∃ A : Nat → Prop, A = fun q : Nat => s.heap.size ≤ q := ⟨_, rfl⟩
  have hZ : ZS A s := by rw [eA]; exact hZ0
  have hA : ∀ q : Nat, s.heap.size ≤ q → A q := fun q h => by rw [eA]; exact h
  have hA2 : ∀ q : Nat, A q → s.heap.size ≤ q := fun q h => by rw [eA] at h; exact h
  have hbA : ¬ A b := fun h => absurd hbl (Nat.not_lt.mpr (hA2 b h))
  clear hZ0 eA
  have hb : c.code = cL_law := hb
  have hown : s.vm.findClass RL = some m.cls := hown
  have F : CallFix p m c cL_law 4 s #[Value.ref b] wsL_law RL := ⟨hx, hb, hml, hown, hts⟩
  have hS : va_S A s.heap s.heap [] := va_S.rf
  have hl := lv_entry ([.ref b]) (n := 4) (Nat.le_of_ble_eq_true rfl)
  rw [lg_entry_eq]
  generalize (lg_sl ([.ref b]) ++ List.replicate (4 - (lg_sl ([.ref b])).length) Slot.unset).toArray = ls at hl ⊢
  have hl : lv_has ls 4 [(0, .ref b)] := hl
  refine pg_new (S := S0_) (ci := 8) (C := RX8) (T := TX8) (N := 18) hx hb hts inlX8 tyX8 tyX8_ok hown (hts (.classLink RL 7 RX8) (by decide +kernel)) (hts (.instantiable RX8 18) (by decide +kernel)) (hts (.initialized RX8) (by decide +kernel)) hK (pw_0 D cy A s.heap) hS hA (by decide) rfl df_8 (Nat.le_of_ble_eq_true rfl) (Nat.le_of_ble_eq_true rfl) dL_law_0 (fun qx H hqx hW hS => ?_)
  refine lv_dup hx hb dL_law_3 rfl ?_
  have kqx : sK (stN S0_ qx 8 0) qx = 8 := by rw [kN, if_pos rfl]
  refine pc_Iv (As := []) (rest := [.ref qx]) F (b_X8_init l D cy A (stN S0_ qx 8 0) [] qx (G0_.N (S0_k qx)) kqx (by rw [iN, if_pos rfl])) (cwI 0 hts gL_law_X8_init rfl rfl rfl (hts (.initialized RX8) (by decide +kernel)) (hts (.methodLink RL 9 yX8_init) (by decide +kernel)) (hts (.instanceMethod yX8_init) (by decide +kernel)) rfl (by decide +kernel) ⟨Nat.le_of_ble_eq_true rfl, Nat.le_of_ble_eq_true rfl⟩) hK hZ hA hW hS rfl hl.1 rfl (Nat.le_of_ble_eq_true rfl) dL_law_4 ⟨Nat.le_of_ble_eq_true rfl, Nat.le_of_ble_eq_true rfl⟩ (fun S H locs hp hW hS => ?_)
  obtain ⟨hGx, hFx, x10, x13, tp, r5, ktp, x1⟩ := hp
  have kqx := hFx.k kqx (by decide)
  refine lv_astore_n (lv' := [(1, .ref qx), (0, .ref b)]) hx hb dL_law_7 rfl hl (by decide) rfl (fun ls hl => ?_)
  refine pl_new (S := S0_) (T := S) (ci := 9) (C := RX9) (Tb := TX9) (N := 63) hx hb hts inlX9 tyX9 tyX9_ok hown (hts (.classLink RL 10 RX9) (by decide +kernel)) (hts (.instantiable RX9 63) (by decide +kernel)) (hts (.initialized RX9) (by decide +kernel)) hK (pw_0 D cy A H) S0_k hW hS hA (by decide) rfl df_9 (Nat.le_of_ble_eq_true rfl) (Nat.le_of_ble_eq_true rfl) dL_law_8 (fun qm H hWm hWx hdj hS => ?_)
  refine lv_dup hx hb dL_law_11 rfl ?_
  have kqm : sK (stN S0_ qm 9 0) qm = 9 := by rw [kN, if_pos rfl]
  refine pl_Iv (S := stN S0_ qm 9 0) (T := S) (As := []) (rest := [.ref qm]) F (fun A => b_X9_init l D cy A (stN S0_ qm 9 0) [] qm (G0_.N (S0_k qm)) kqm (by rw [iN, if_pos rfl]) (by rw [iN, if_pos rfl])) (cwI 0 hts gL_law_X9_init rfl rfl rfl (hts (.initialized RX9) (by decide +kernel)) (hts (.methodLink RL 12 yX9_init) (by decide +kernel)) (hts (.instanceMethod yX9_init) (by decide +kernel)) rfl (by decide +kernel) ⟨Nat.le_of_ble_eq_true rfl, Nat.le_of_ble_eq_true rfl⟩) hK hZ hA hWm hWx hdj hS rfl hl.1 rfl (Nat.le_of_ble_eq_true rfl) dL_law_12 ⟨Nat.le_of_ble_eq_true rfl, Nat.le_of_ble_eq_true rfl⟩ (fun M H locs hp hWm hWx hdj hS => ?_)
  obtain ⟨hGm, hFm, m1, m18, m24⟩ := hp
  have kqm := hFm.k kqm (by decide)
  refine lv_astore_n (lv' := [(2, .ref qm), (1, .ref qx), (0, .ref b)]) hx hb dL_law_15 rfl hl (by decide) rfl (fun ls hl => ?_)
  refine lv_iconst (v := 0) hx hb dL_law_16 (by decide) ?_
  refine lv_istore_n (lv' := [(3, .int 0), (2, .ref qm), (1, .ref qx), (0, .ref b)]) hx hb dL_law_17 rfl hl (by decide) rfl (fun ls hl => ?_)
  have hiv : Iv S M qx tp qm := ⟨⟨hGx, kqx, r5, ktp⟩, ⟨hGm, kqm⟩, by rw [x1, m1], by rw [x10, m18], by rw [x13, m24]⟩
  clear hGx hFx x10 x13 r5 ktp x1 kqx hGm hFm m1 m18 m24 kqm hqx
  have hend : ∀ (H : Heap) (locs : List Loc) (ls : Array Slot) (cl sl : Nat), cl ≤ 600000 → sl ≤ 7302250 → va_S A s.heap H locs → W p l e room_1 s m #[Value.ref b] below meth c H locs cl sl (lw_Z below #[Value.ref b] s) (F0 m 767 ls []) := by
    intro H locs ls cl sl h1 h2 hS
    refine lv_iconst (v := 1) hx hb dL_law_767 (by decide) ?_
    refine va_forget (fun q hq => hA2 _ (hS.2.2 q hq)) ?_
    refine W.widen (k := 600000) (n := 7302250) h1 h2 ?_
    exact lw_ret hx hb hr hlocks dL_law_768
  have hloop : ∀ (zn j : Nat) (S M : St) (H : Heap) (locs : List Loc) (ls : Array Slot) (cl sl : Nat), j ≤ 512 → cl ≤ 67 + j → sl ≤ 2895 + 10 * j → Iv S M qx tp qm → 512 - j < zn → PW D cy A S H → PW D cy A M H → Dj S M → va_S A s.heap H locs → lv_has ls 4 [(3, .int (nI (6 * j))), (2, .ref qm), (1, .ref qx), (0, .ref b)] → W p l e room_1 s m #[Value.ref b] below meth c H locs cl sl (lw_Z below #[Value.ref b] s) (F0 m 18 ls []) := by
    intro zn
    induction zn with
    | zero => intros; exact absurd (by assumption) (Nat.not_lt_zero _)
    | succ zn ih =>
      intro j S M H locs ls cl sl hj hcl hsl hiv hme hWx hWm hdj hS hl
      have hx8 := hiv.1
      have hm9 := hiv.2.1
      refine lv_iload_n hx hb dL_law_18 rfl (lv_at hl 0 rfl) ?_
      refine lv_aload_n hx hb dL_law_19 rfl (lv_at hl 3 rfl) ?_
      refine va_slen hx hb hXs hbl hbA hS dL_law_20 ?_
      refine lv_bipush (v := 6) hx hb dL_law_21 (by decide) ?_
      refine lv_isub hx hb dL_law_23 ?_
      have eL : (Int32.ofNat L - 6).toInt = (L : Int) - 6 := pk_sub_toInt (a := L) (b := 6) (by omega) (by decide)
      have ej : (nI (6 * j)).toInt = (6 * j : Nat) := nI_toInt (by omega)
      rcases Nat.lt_or_ge L (6 * j + 6) with hL6 | hL6
      · exact lv_icmp_gt (tgt := 767) hx hb dL_law_24 (by decide) (fun _ => hend H locs ls cl sl (by omega) (by omega) hS) (fun c1 => absurd ((i3_lt _ _).mpr (by rw [eL, ej]; omega)) c1)
      refine lv_icmp_gt (tgt := 767) hx hb dL_law_24 (by decide) (fun c1 => absurd ((i3_lt _ _).mp c1) (by rw [eL, ej]; omega)) (fun _ => ?_)
      have htail : ∀ (S M : St) (H : Heap) (locs : List Loc) (ls : Array Slot) (cl sl : Nat), cl ≤ 67 + (j + 1) → sl ≤ 2895 + 10 * (j + 1) → Iv S M qx tp qm → PW D cy A S H → PW D cy A M H → Dj S M → va_S A s.heap H locs → lv_has ls 4 [(3, .int (nI (6 * j))), (2, .ref qm), (1, .ref qx), (0, .ref b)] → W p l e room_1 s m #[Value.ref b] below meth c H locs cl sl (lw_Z below #[Value.ref b] s) (F0 m 761 ls []) := by
        intro S M H locs ls cl sl h1 h2 hiv hWx hWm hdj hS hl
        refine lv_iinc (v := nI (6 * j) + 6) (lv' := [(3, .int (nI (6 * j) + 6)), (2, .ref qm), (1, .ref qx), (0, .ref b)]) hx hb dL_law_761 hl (k := 0) rfl rfl (by decide) rfl (fun ls hl => ?_)
        refine lv_goto (tgt := 18) hx hb dL_law_764 (by decide) ?_
        exact ih (j + 1) S M H locs ls cl sl (by omega) h1 h2 hiv (by omega) hWx hWm hdj hS (lv_cast hl (by rw [show nI (6 * j) + 6 = nI (6 * (j + 1)) from nI_add (6 * j) 6]))
      refine lv_aload_n hx hb dL_law_27 rfl (lv_at hl 3 rfl) ?_
      refine lv_iload_n hx hb dL_law_28 rfl (lv_at hl 0 rfl) ?_
      refine va_sld hx hb hXs hbl hbA hS (vp_in_nI (n := 6 * j) (by omega) (by omega)) dL_law_29 ?_
      refine lv_bipush (v := 31) hx hb dL_law_30 (by decide) ?_
      refine lv_iand hx hb dL_law_32 ?_
      refine lv_topi (fun op eop => ?_)
      by_cases k0 : op = 0
      · refine lv_tableIn (off := 91) (tgt := 124) hx hb dL_law_33 (by rw [k0]; decide) (by rw [k0]; decide) (by rw [k0]; rfl) (by decide) ?_
        refine lv_aload_n hx hb dL_law_124 rfl (lv_at hl 2 rfl) ?_
        refine lv_aload_n hx hb dL_law_125 rfl (lv_at hl 3 rfl) ?_
        refine lv_iload_n hx hb dL_law_126 rfl (lv_at hl 0 rfl) ?_
        refine lv_iconst (v := 1) hx hb dL_law_127 (by decide) ?_
        refine lv_iadd hx hb dL_law_128 ?_
        rw [show (nI (6 * j) + 1 : Int32) = nI (6 * j + 1) from nI_add (6 * j) 1]
        refine va_sld hx hb hXs hbl hbA hS (vp_in_nI (n := 6 * j + 1) (by omega) (by omega)) dL_law_129 ?_
        refine lv_topi (fun a1 ea1 => ?_)
        refine lv_aload_n hx hb dL_law_130 rfl (lv_at hl 3 rfl) ?_
        refine lv_iload_n hx hb dL_law_131 rfl (lv_at hl 0 rfl) ?_
        refine lv_iconst (v := 2) hx hb dL_law_132 (by decide) ?_
        refine lv_iadd hx hb dL_law_133 ?_
        rw [show (nI (6 * j) + 2 : Int32) = nI (6 * j + 2) from nI_add (6 * j) 2]
        refine va_sld hx hb hXs hbl hbA hS (vp_in_nI (n := 6 * j + 2) (by omega) (by omega)) dL_law_134 ?_
        refine lv_topi (fun a2 ea2 => ?_)
        refine lv_aload_n hx hb dL_law_135 rfl (lv_at hl 3 rfl) ?_
        refine lv_iload_n hx hb dL_law_136 rfl (lv_at hl 0 rfl) ?_
        refine lv_iconst (v := 3) hx hb dL_law_137 (by decide) ?_
        refine lv_iadd hx hb dL_law_138 ?_
        rw [show (nI (6 * j) + 3 : Int32) = nI (6 * j + 3) from nI_add (6 * j) 3]
        refine va_sld hx hb hXs hbl hbA hS (vp_in_nI (n := 6 * j + 3) (by omega) (by omega)) dL_law_139 ?_
        refine lv_topi (fun a3 ea3 => ?_)
        refine lv_aload_n hx hb dL_law_140 rfl (lv_at hl 3 rfl) ?_
        refine lv_iload_n hx hb dL_law_141 rfl (lv_at hl 0 rfl) ?_
        refine lv_iconst (v := 4) hx hb dL_law_142 (by decide) ?_
        refine lv_iadd hx hb dL_law_143 ?_
        rw [show (nI (6 * j) + 4 : Int32) = nI (6 * j + 4) from nI_add (6 * j) 4]
        refine va_sld hx hb hXs hbl hbA hS (vp_in_nI (n := 6 * j + 4) (by omega) (by omega)) dL_law_144 ?_
        refine lv_topi (fun a4 ea4 => ?_)
        refine lv_aload_n hx hb dL_law_145 rfl (lv_at hl 3 rfl) ?_
        refine lv_iload_n hx hb dL_law_146 rfl (lv_at hl 0 rfl) ?_
        refine lv_iconst (v := 5) hx hb dL_law_147 (by decide) ?_
        refine lv_iadd hx hb dL_law_148 ?_
        rw [show (nI (6 * j) + 5 : Int32) = nI (6 * j + 5) from nI_add (6 * j) 5]
        refine va_sld hx hb hXs hbl hbA hS (vp_in_nI (n := 6 * j + 5) (by omega) (by omega)) dL_law_149 ?_
        refine lv_topi (fun a5 ea5 => ?_)
        refine pl_Vi (S := S) (T := M) (As := [.int a1, .int a2, .int a3, .int a4, .int a5]) (rest := []) F (fun A => b_X8_feed l D cy A S qx tp a1 a2 a3 a4 a5 hx8.1 hx8.2.1 hx8.2.2.1 hx8.2.2.2) (cwV 5 hts gL_law_X8_feed rfl rfl rfl (by decide +kernel) ⟨Nat.le_of_ble_eq_true rfl, Nat.le_of_ble_eq_true rfl⟩) hK hZ hA hWx hWm hdj hS hx8.2.1 (by decide) rfl rfl hl.1 rfl (Nat.le_of_ble_eq_true rfl) dL_law_150 ⟨by show cl + 0 ≤ 600000; omega, by show sl + 0 ≤ 7302250; omega⟩ (fun r1 S1 H locs hp1 hWx hWm hdj hS => ?_)
        obtain ⟨hG1, hF1, hp1⟩ := hp1
        have px1 : Px [701, 1000] S S1 := ⟨hG1, hF1⟩
        refine lv_pop hx hb dL_law_153 rfl ?_
        refine lv_aload_n hx hb dL_law_154 rfl (lv_at hl 1 rfl) ?_
        refine lv_aload_n hx hb dL_law_155 rfl (lv_at hl 3 rfl) ?_
        refine lv_iload_n hx hb dL_law_156 rfl (lv_at hl 0 rfl) ?_
        refine lv_iconst (v := 1) hx hb dL_law_157 (by decide) ?_
        refine lv_iadd hx hb dL_law_158 ?_
        rw [show (nI (6 * j) + 1 : Int32) = nI (6 * j + 1) from nI_add (6 * j) 1]
        refine va_sld hx hb hXs hbl hbA hS (vp_in_nI (n := 6 * j + 1) (by omega) (by omega)) dL_law_159 ?_
        rw [← ea1]
        refine lv_aload_n hx hb dL_law_160 rfl (lv_at hl 3 rfl) ?_
        refine lv_iload_n hx hb dL_law_161 rfl (lv_at hl 0 rfl) ?_
        refine lv_iconst (v := 2) hx hb dL_law_162 (by decide) ?_
        refine lv_iadd hx hb dL_law_163 ?_
        rw [show (nI (6 * j) + 2 : Int32) = nI (6 * j + 2) from nI_add (6 * j) 2]
        refine va_sld hx hb hXs hbl hbA hS (vp_in_nI (n := 6 * j + 2) (by omega) (by omega)) dL_law_164 ?_
        rw [← ea2]
        refine lv_aload_n hx hb dL_law_165 rfl (lv_at hl 3 rfl) ?_
        refine lv_iload_n hx hb dL_law_166 rfl (lv_at hl 0 rfl) ?_
        refine lv_iconst (v := 3) hx hb dL_law_167 (by decide) ?_
        refine lv_iadd hx hb dL_law_168 ?_
        rw [show (nI (6 * j) + 3 : Int32) = nI (6 * j + 3) from nI_add (6 * j) 3]
        refine va_sld hx hb hXs hbl hbA hS (vp_in_nI (n := 6 * j + 3) (by omega) (by omega)) dL_law_169 ?_
        rw [← ea3]
        refine lv_aload_n hx hb dL_law_170 rfl (lv_at hl 3 rfl) ?_
        refine lv_iload_n hx hb dL_law_171 rfl (lv_at hl 0 rfl) ?_
        refine lv_iconst (v := 4) hx hb dL_law_172 (by decide) ?_
        refine lv_iadd hx hb dL_law_173 ?_
        rw [show (nI (6 * j) + 4 : Int32) = nI (6 * j + 4) from nI_add (6 * j) 4]
        refine va_sld hx hb hXs hbl hbA hS (vp_in_nI (n := 6 * j + 4) (by omega) (by omega)) dL_law_174 ?_
        rw [← ea4]
        refine lv_aload_n hx hb dL_law_175 rfl (lv_at hl 3 rfl) ?_
        refine lv_iload_n hx hb dL_law_176 rfl (lv_at hl 0 rfl) ?_
        refine lv_iconst (v := 5) hx hb dL_law_177 (by decide) ?_
        refine lv_iadd hx hb dL_law_178 ?_
        rw [show (nI (6 * j) + 5 : Int32) = nI (6 * j + 5) from nI_add (6 * j) 5]
        refine va_sld hx hb hXs hbl hbA hS (vp_in_nI (n := 6 * j + 5) (by omega) (by omega)) dL_law_179 ?_
        rw [← ea5]
        refine pl_Vi (S := M) (T := S1) (As := [.int a1, .int a2, .int a3, .int a4, .int a5]) (rest := []) F (fun A => b_X9_feed l D cy A M qm a1 a2 a3 a4 a5 hm9.1 hm9.2) (cwV 5 hts gL_law_X9_feed rfl rfl rfl (by decide +kernel) ⟨Nat.le_of_ble_eq_true rfl, Nat.le_of_ble_eq_true rfl⟩) hK hZ hA hWm hWx (dj_s hdj) hS hm9.2 (by decide) rfl rfl hl.1 rfl (Nat.le_of_ble_eq_true rfl) dL_law_180 ⟨by show cl + 0 + 0 ≤ 600000; omega, by show sl + 0 + 0 ≤ 7302250; omega⟩ (fun r2 M1 H locs hp2 hWm hWx hdj hS => ?_)
        obtain ⟨hG2, hF2, hp2⟩ := hp2
        have pm1 : Px [901, 1000] M M1 := ⟨hG2, hF2⟩
        have hiv1 : Iv S1 M1 qx tp qm := (Iv.feed hiv px1 pm1 (by decide) (by decide) (by decide) (by decide) hp1 hp2).1
        refine lv_pop hx hb dL_law_183 rfl ?_
        refine lv_goto (tgt := 761) hx hb dL_law_184 (by decide) ?_
        exact htail S1 M1 H locs ls _ _ (by omega) (by omega) hiv1 hWx hWm (dj_s hdj) hS hl
      by_cases k1 : op = 1
      · refine lv_tableIn (off := 154) (tgt := 187) hx hb dL_law_33 (by rw [k1]; decide) (by rw [k1]; decide) (by rw [k1]; rfl) (by decide) ?_
        refine lv_aload_n hx hb dL_law_187 rfl (lv_at hl 2 rfl) ?_
        refine lv_aload_n hx hb dL_law_188 rfl (lv_at hl 3 rfl) ?_
        refine lv_iload_n hx hb dL_law_189 rfl (lv_at hl 0 rfl) ?_
        refine lv_iconst (v := 1) hx hb dL_law_190 (by decide) ?_
        refine lv_iadd hx hb dL_law_191 ?_
        rw [show (nI (6 * j) + 1 : Int32) = nI (6 * j + 1) from nI_add (6 * j) 1]
        refine va_sld hx hb hXs hbl hbA hS (vp_in_nI (n := 6 * j + 1) (by omega) (by omega)) dL_law_192 ?_
        refine lv_topi (fun a1 ea1 => ?_)
        refine lv_aload_n hx hb dL_law_193 rfl (lv_at hl 3 rfl) ?_
        refine lv_iload_n hx hb dL_law_194 rfl (lv_at hl 0 rfl) ?_
        refine lv_iconst (v := 2) hx hb dL_law_195 (by decide) ?_
        refine lv_iadd hx hb dL_law_196 ?_
        rw [show (nI (6 * j) + 2 : Int32) = nI (6 * j + 2) from nI_add (6 * j) 2]
        refine va_sld hx hb hXs hbl hbA hS (vp_in_nI (n := 6 * j + 2) (by omega) (by omega)) dL_law_197 ?_
        refine lv_topi (fun a2 ea2 => ?_)
        refine pl_Vi (S := S) (T := M) (As := [.int a1, .int a2]) (rest := []) F (fun A => b_X8_rights l D cy A S qx tp a1 a2 hx8.1 hx8.2.1 hx8.2.2.1 hx8.2.2.2) (cwV 2 hts gL_law_X8_rights rfl rfl rfl (by decide +kernel) ⟨Nat.le_of_ble_eq_true rfl, Nat.le_of_ble_eq_true rfl⟩) hK hZ hA hWx hWm hdj hS hx8.2.1 (by decide) rfl rfl hl.1 rfl (Nat.le_of_ble_eq_true rfl) dL_law_198 ⟨by show cl + 1 ≤ 600000; omega, by show sl + 6 ≤ 7302250; omega⟩ (fun r1 S1 H locs hp1 hWx hWm hdj hS => ?_)
        obtain ⟨hG1, hF1, hp1⟩ := hp1
        have px1 : Px [400, 401, 402, 403, 404, 405, 501, 502, 503, 701] S S1 := ⟨hG1, hF1⟩
        refine lv_pop hx hb dL_law_201 rfl ?_
        refine lv_aload_n hx hb dL_law_202 rfl (lv_at hl 1 rfl) ?_
        refine lv_aload_n hx hb dL_law_203 rfl (lv_at hl 3 rfl) ?_
        refine lv_iload_n hx hb dL_law_204 rfl (lv_at hl 0 rfl) ?_
        refine lv_iconst (v := 1) hx hb dL_law_205 (by decide) ?_
        refine lv_iadd hx hb dL_law_206 ?_
        rw [show (nI (6 * j) + 1 : Int32) = nI (6 * j + 1) from nI_add (6 * j) 1]
        refine va_sld hx hb hXs hbl hbA hS (vp_in_nI (n := 6 * j + 1) (by omega) (by omega)) dL_law_207 ?_
        rw [← ea1]
        refine lv_aload_n hx hb dL_law_208 rfl (lv_at hl 3 rfl) ?_
        refine lv_iload_n hx hb dL_law_209 rfl (lv_at hl 0 rfl) ?_
        refine lv_iconst (v := 2) hx hb dL_law_210 (by decide) ?_
        refine lv_iadd hx hb dL_law_211 ?_
        rw [show (nI (6 * j) + 2 : Int32) = nI (6 * j + 2) from nI_add (6 * j) 2]
        refine va_sld hx hb hXs hbl hbA hS (vp_in_nI (n := 6 * j + 2) (by omega) (by omega)) dL_law_212 ?_
        rw [← ea2]
        refine pl_Vi (S := M) (T := S1) (As := [.int a1, .int a2]) (rest := []) F (fun A => b_X9_rights l D cy A M qm a1 a2 hm9.1 hm9.2) (cwV 2 hts gL_law_X9_rights rfl rfl rfl (by decide +kernel) ⟨Nat.le_of_ble_eq_true rfl, Nat.le_of_ble_eq_true rfl⟩) hK hZ hA hWm hWx (dj_s hdj) hS hm9.2 (by decide) rfl rfl hl.1 rfl (Nat.le_of_ble_eq_true rfl) dL_law_213 ⟨by show cl + 1 + 0 ≤ 600000; omega, by show sl + 6 + 0 ≤ 7302250; omega⟩ (fun r2 M1 H locs hp2 hWm hWx hdj hS => ?_)
        obtain ⟨hG2, hF2, hp2⟩ := hp2
        have pm1 : Px [901, 902, 903, 904, 911, 912, 913, 914, 915, 916, 917, 1100] M M1 := ⟨hG2, hF2⟩
        have hiv1 : Iv S1 M1 qx tp qm := (Iv.rights hiv px1 pm1 (by decide) (by decide) (by decide) (by decide) hp1 hp2)
        refine lv_pop hx hb dL_law_216 rfl ?_
        refine lv_goto (tgt := 761) hx hb dL_law_217 (by decide) ?_
        exact htail S1 M1 H locs ls _ _ (by omega) (by omega) hiv1 hWx hWm (dj_s hdj) hS hl
      by_cases k2 : op = 2
      · refine lv_tableIn (off := 187) (tgt := 220) hx hb dL_law_33 (by rw [k2]; decide) (by rw [k2]; decide) (by rw [k2]; rfl) (by decide) ?_
        refine lv_aload_n hx hb dL_law_220 rfl (lv_at hl 2 rfl) ?_
        refine lv_aload_n hx hb dL_law_221 rfl (lv_at hl 3 rfl) ?_
        refine lv_iload_n hx hb dL_law_222 rfl (lv_at hl 0 rfl) ?_
        refine lv_iconst (v := 1) hx hb dL_law_223 (by decide) ?_
        refine lv_iadd hx hb dL_law_224 ?_
        rw [show (nI (6 * j) + 1 : Int32) = nI (6 * j + 1) from nI_add (6 * j) 1]
        refine va_sld hx hb hXs hbl hbA hS (vp_in_nI (n := 6 * j + 1) (by omega) (by omega)) dL_law_225 ?_
        refine lv_topi (fun a1 ea1 => ?_)
        refine pl_Vi (S := S) (T := M) (As := [.int a1]) (rest := []) F (fun A => b_X8_most l D cy A S qx a1 hx8.1 hx8.2.1) (cwV 1 hts gL_law_X8_most rfl rfl rfl (by decide +kernel) ⟨Nat.le_of_ble_eq_true rfl, Nat.le_of_ble_eq_true rfl⟩) hK hZ hA hWx hWm hdj hS hx8.2.1 (by decide) rfl rfl hl.1 rfl (Nat.le_of_ble_eq_true rfl) dL_law_226 ⟨by show cl + 0 ≤ 600000; omega, by show sl + 0 ≤ 7302250; omega⟩ (fun r1 S1 H locs hp1 hWx hWm hdj hS => ?_)
        obtain ⟨hG1, hF1, hp1⟩ := hp1
        have px1 : Px [812] S S1 := ⟨hG1, hF1⟩
        refine lv_pop hx hb dL_law_229 rfl ?_
        refine lv_aload_n hx hb dL_law_230 rfl (lv_at hl 1 rfl) ?_
        refine lv_aload_n hx hb dL_law_231 rfl (lv_at hl 3 rfl) ?_
        refine lv_iload_n hx hb dL_law_232 rfl (lv_at hl 0 rfl) ?_
        refine lv_iconst (v := 1) hx hb dL_law_233 (by decide) ?_
        refine lv_iadd hx hb dL_law_234 ?_
        rw [show (nI (6 * j) + 1 : Int32) = nI (6 * j + 1) from nI_add (6 * j) 1]
        refine va_sld hx hb hXs hbl hbA hS (vp_in_nI (n := 6 * j + 1) (by omega) (by omega)) dL_law_235 ?_
        rw [← ea1]
        refine pl_Vi (S := M) (T := S1) (As := [.int a1]) (rest := []) F (fun A => b_X9_most l D cy A M qm a1 hm9.1 hm9.2) (cwV 1 hts gL_law_X9_most rfl rfl rfl (by decide +kernel) ⟨Nat.le_of_ble_eq_true rfl, Nat.le_of_ble_eq_true rfl⟩) hK hZ hA hWm hWx (dj_s hdj) hS hm9.2 (by decide) rfl rfl hl.1 rfl (Nat.le_of_ble_eq_true rfl) dL_law_236 ⟨by show cl + 0 + 0 ≤ 600000; omega, by show sl + 0 + 0 ≤ 7302250; omega⟩ (fun r2 M1 H locs hp2 hWm hWx hdj hS => ?_)
        obtain ⟨hG2, hF2, hp2⟩ := hp2
        have pm1 : Px [923] M M1 := ⟨hG2, hF2⟩
        have hiv1 : Iv S1 M1 qx tp qm := (Iv.keep hiv px1 pm1 (by decide) (by decide) (by decide) (by decide) (by decide) (by decide))
        refine lv_pop hx hb dL_law_239 rfl ?_
        refine lv_goto (tgt := 761) hx hb dL_law_240 (by decide) ?_
        exact htail S1 M1 H locs ls _ _ (by omega) (by omega) hiv1 hWx hWm (dj_s hdj) hS hl
      by_cases k3 : op = 3
      · refine lv_tableIn (off := 210) (tgt := 243) hx hb dL_law_33 (by rw [k3]; decide) (by rw [k3]; decide) (by rw [k3]; rfl) (by decide) ?_
        refine lv_aload_n hx hb dL_law_243 rfl (lv_at hl 2 rfl) ?_
        refine lv_aload_n hx hb dL_law_244 rfl (lv_at hl 3 rfl) ?_
        refine lv_iload_n hx hb dL_law_245 rfl (lv_at hl 0 rfl) ?_
        refine lv_iconst (v := 1) hx hb dL_law_246 (by decide) ?_
        refine lv_iadd hx hb dL_law_247 ?_
        rw [show (nI (6 * j) + 1 : Int32) = nI (6 * j + 1) from nI_add (6 * j) 1]
        refine va_sld hx hb hXs hbl hbA hS (vp_in_nI (n := 6 * j + 1) (by omega) (by omega)) dL_law_248 ?_
        refine lv_topi (fun a1 ea1 => ?_)
        refine pl_Vi (S := S) (T := M) (As := [.int a1]) (rest := []) F (fun A => b_X8_compressors l D cy A S qx a1 hx8.1 hx8.2.1) (cwV 1 hts gL_law_X8_compressors rfl rfl rfl (by decide +kernel) ⟨Nat.le_of_ble_eq_true rfl, Nat.le_of_ble_eq_true rfl⟩) hK hZ hA hWx hWm hdj hS hx8.2.1 (by decide) rfl rfl hl.1 rfl (Nat.le_of_ble_eq_true rfl) dL_law_249 ⟨by show cl + 0 ≤ 600000; omega, by show sl + 0 ≤ 7302250; omega⟩ (fun r1 S1 H locs hp1 hWx hWm hdj hS => ?_)
        obtain ⟨hG1, hF1, hp1⟩ := hp1
        have px1 : Px [813] S S1 := ⟨hG1, hF1⟩
        refine lv_pop hx hb dL_law_252 rfl ?_
        refine lv_aload_n hx hb dL_law_253 rfl (lv_at hl 1 rfl) ?_
        refine lv_aload_n hx hb dL_law_254 rfl (lv_at hl 3 rfl) ?_
        refine lv_iload_n hx hb dL_law_255 rfl (lv_at hl 0 rfl) ?_
        refine lv_iconst (v := 1) hx hb dL_law_256 (by decide) ?_
        refine lv_iadd hx hb dL_law_257 ?_
        rw [show (nI (6 * j) + 1 : Int32) = nI (6 * j + 1) from nI_add (6 * j) 1]
        refine va_sld hx hb hXs hbl hbA hS (vp_in_nI (n := 6 * j + 1) (by omega) (by omega)) dL_law_258 ?_
        rw [← ea1]
        refine pl_Vi (S := M) (T := S1) (As := [.int a1]) (rest := []) F (fun A => b_X9_compressors l D cy A M qm a1 hm9.1 hm9.2) (cwV 1 hts gL_law_X9_compressors rfl rfl rfl (by decide +kernel) ⟨Nat.le_of_ble_eq_true rfl, Nat.le_of_ble_eq_true rfl⟩) hK hZ hA hWm hWx (dj_s hdj) hS hm9.2 (by decide) rfl rfl hl.1 rfl (Nat.le_of_ble_eq_true rfl) dL_law_259 ⟨by show cl + 0 + 0 ≤ 600000; omega, by show sl + 0 + 0 ≤ 7302250; omega⟩ (fun r2 M1 H locs hp2 hWm hWx hdj hS => ?_)
        obtain ⟨hG2, hF2, hp2⟩ := hp2
        have pm1 : Px [924] M M1 := ⟨hG2, hF2⟩
        have hiv1 : Iv S1 M1 qx tp qm := (Iv.comp hiv px1 pm1 (by decide) (by decide) (by decide) (by decide) hp1 hp2).1
        refine lv_pop hx hb dL_law_262 rfl ?_
        refine lv_goto (tgt := 761) hx hb dL_law_263 (by decide) ?_
        exact htail S1 M1 H locs ls _ _ (by omega) (by omega) hiv1 hWx hWm (dj_s hdj) hS hl
      by_cases k4 : op = 4
      · refine lv_tableIn (off := 233) (tgt := 266) hx hb dL_law_33 (by rw [k4]; decide) (by rw [k4]; decide) (by rw [k4]; rfl) (by decide) ?_
        refine lv_aload_n hx hb dL_law_266 rfl (lv_at hl 2 rfl) ?_
        refine lv_aload_n hx hb dL_law_267 rfl (lv_at hl 3 rfl) ?_
        refine lv_iload_n hx hb dL_law_268 rfl (lv_at hl 0 rfl) ?_
        refine lv_iconst (v := 1) hx hb dL_law_269 (by decide) ?_
        refine lv_iadd hx hb dL_law_270 ?_
        rw [show (nI (6 * j) + 1 : Int32) = nI (6 * j + 1) from nI_add (6 * j) 1]
        refine va_sld hx hb hXs hbl hbA hS (vp_in_nI (n := 6 * j + 1) (by omega) (by omega)) dL_law_271 ?_
        refine lv_topi (fun a1 ea1 => ?_)
        refine lv_aload_n hx hb dL_law_272 rfl (lv_at hl 3 rfl) ?_
        refine lv_iload_n hx hb dL_law_273 rfl (lv_at hl 0 rfl) ?_
        refine lv_iconst (v := 2) hx hb dL_law_274 (by decide) ?_
        refine lv_iadd hx hb dL_law_275 ?_
        rw [show (nI (6 * j) + 2 : Int32) = nI (6 * j + 2) from nI_add (6 * j) 2]
        refine va_sld hx hb hXs hbl hbA hS (vp_in_nI (n := 6 * j + 2) (by omega) (by omega)) dL_law_276 ?_
        refine lv_topi (fun a2 ea2 => ?_)
        refine pl_Vi (S := S) (T := M) (As := [.int a1, .int a2]) (rest := []) F (fun A => b_X8_price l D cy A S qx a1 a2 hx8.1 hx8.2.1) (cwV 2 hts gL_law_X8_price rfl rfl rfl (by decide +kernel) ⟨Nat.le_of_ble_eq_true rfl, Nat.le_of_ble_eq_true rfl⟩) hK hZ hA hWx hWm hdj hS hx8.2.1 (by decide) rfl rfl hl.1 rfl (Nat.le_of_ble_eq_true rfl) dL_law_277 ⟨by show cl + 0 ≤ 600000; omega, by show sl + 0 ≤ 7302250; omega⟩ (fun r1 S1 H locs hp1 hWx hWm hdj hS => ?_)
        obtain ⟨hG1, hF1, hp1⟩ := hp1
        have px1 : Px [1100] S S1 := ⟨hG1, hF1⟩
        refine lv_pop hx hb dL_law_280 rfl ?_
        refine lv_aload_n hx hb dL_law_281 rfl (lv_at hl 1 rfl) ?_
        refine lv_aload_n hx hb dL_law_282 rfl (lv_at hl 3 rfl) ?_
        refine lv_iload_n hx hb dL_law_283 rfl (lv_at hl 0 rfl) ?_
        refine lv_iconst (v := 1) hx hb dL_law_284 (by decide) ?_
        refine lv_iadd hx hb dL_law_285 ?_
        rw [show (nI (6 * j) + 1 : Int32) = nI (6 * j + 1) from nI_add (6 * j) 1]
        refine va_sld hx hb hXs hbl hbA hS (vp_in_nI (n := 6 * j + 1) (by omega) (by omega)) dL_law_286 ?_
        rw [← ea1]
        refine lv_aload_n hx hb dL_law_287 rfl (lv_at hl 3 rfl) ?_
        refine lv_iload_n hx hb dL_law_288 rfl (lv_at hl 0 rfl) ?_
        refine lv_iconst (v := 2) hx hb dL_law_289 (by decide) ?_
        refine lv_iadd hx hb dL_law_290 ?_
        rw [show (nI (6 * j) + 2 : Int32) = nI (6 * j + 2) from nI_add (6 * j) 2]
        refine va_sld hx hb hXs hbl hbA hS (vp_in_nI (n := 6 * j + 2) (by omega) (by omega)) dL_law_291 ?_
        rw [← ea2]
        refine pl_Vi (S := M) (T := S1) (As := [.int a1, .int a2]) (rest := []) F (fun A => b_X9_price l D cy A M qm a1 a2 hm9.1 hm9.2) (cwV 2 hts gL_law_X9_price rfl rfl rfl (by decide +kernel) ⟨Nat.le_of_ble_eq_true rfl, Nat.le_of_ble_eq_true rfl⟩) hK hZ hA hWm hWx (dj_s hdj) hS hm9.2 (by decide) rfl rfl hl.1 rfl (Nat.le_of_ble_eq_true rfl) dL_law_292 ⟨by show cl + 0 + 0 ≤ 600000; omega, by show sl + 0 + 0 ≤ 7302250; omega⟩ (fun r2 M1 H locs hp2 hWm hWx hdj hS => ?_)
        obtain ⟨hG2, hF2, hp2⟩ := hp2
        have pm1 : Px [1100] M M1 := ⟨hG2, hF2⟩
        have hiv1 : Iv S1 M1 qx tp qm := (Iv.keep hiv px1 pm1 (by decide) (by decide) (by decide) (by decide) (by decide) (by decide))
        refine lv_pop hx hb dL_law_295 rfl ?_
        refine lv_goto (tgt := 761) hx hb dL_law_296 (by decide) ?_
        exact htail S1 M1 H locs ls _ _ (by omega) (by omega) hiv1 hWx hWm (dj_s hdj) hS hl
      by_cases k5 : op = 5
      · refine lv_tableIn (off := 266) (tgt := 299) hx hb dL_law_33 (by rw [k5]; decide) (by rw [k5]; decide) (by rw [k5]; rfl) (by decide) ?_
        refine lv_aload_n hx hb dL_law_299 rfl (lv_at hl 2 rfl) ?_
        refine lv_aload_n hx hb dL_law_300 rfl (lv_at hl 3 rfl) ?_
        refine lv_iload_n hx hb dL_law_301 rfl (lv_at hl 0 rfl) ?_
        refine lv_iconst (v := 1) hx hb dL_law_302 (by decide) ?_
        refine lv_iadd hx hb dL_law_303 ?_
        rw [show (nI (6 * j) + 1 : Int32) = nI (6 * j + 1) from nI_add (6 * j) 1]
        refine va_sld hx hb hXs hbl hbA hS (vp_in_nI (n := 6 * j + 1) (by omega) (by omega)) dL_law_304 ?_
        refine lv_topi (fun a1 ea1 => ?_)
        refine pl_Vi (S := S) (T := M) (As := [.int a1]) (rest := []) F (fun A => b_X8_rest l D cy A S qx a1 hx8.1 hx8.2.1) (cwV 1 hts gL_law_X8_rest rfl rfl rfl (by decide +kernel) ⟨Nat.le_of_ble_eq_true rfl, Nat.le_of_ble_eq_true rfl⟩) hK hZ hA hWx hWm hdj hS hx8.2.1 (by decide) rfl rfl hl.1 rfl (Nat.le_of_ble_eq_true rfl) dL_law_305 ⟨by show cl + 0 ≤ 600000; omega, by show sl + 0 ≤ 7302250; omega⟩ (fun r1 S1 H locs hp1 hWx hWm hdj hS => ?_)
        obtain ⟨hG1, hF1, hp1⟩ := hp1
        have px1 : Px [814] S S1 := ⟨hG1, hF1⟩
        refine lv_pop hx hb dL_law_308 rfl ?_
        refine lv_aload_n hx hb dL_law_309 rfl (lv_at hl 1 rfl) ?_
        refine lv_aload_n hx hb dL_law_310 rfl (lv_at hl 3 rfl) ?_
        refine lv_iload_n hx hb dL_law_311 rfl (lv_at hl 0 rfl) ?_
        refine lv_iconst (v := 1) hx hb dL_law_312 (by decide) ?_
        refine lv_iadd hx hb dL_law_313 ?_
        rw [show (nI (6 * j) + 1 : Int32) = nI (6 * j + 1) from nI_add (6 * j) 1]
        refine va_sld hx hb hXs hbl hbA hS (vp_in_nI (n := 6 * j + 1) (by omega) (by omega)) dL_law_314 ?_
        rw [← ea1]
        refine pl_Vi (S := M) (T := S1) (As := [.int a1]) (rest := []) F (fun A => b_X9_rest l D cy A M qm a1 hm9.1 hm9.2) (cwV 1 hts gL_law_X9_rest rfl rfl rfl (by decide +kernel) ⟨Nat.le_of_ble_eq_true rfl, Nat.le_of_ble_eq_true rfl⟩) hK hZ hA hWm hWx (dj_s hdj) hS hm9.2 (by decide) rfl rfl hl.1 rfl (Nat.le_of_ble_eq_true rfl) dL_law_315 ⟨by show cl + 0 + 0 ≤ 600000; omega, by show sl + 0 + 0 ≤ 7302250; omega⟩ (fun r2 M1 H locs hp2 hWm hWx hdj hS => ?_)
        obtain ⟨hG2, hF2, hp2⟩ := hp2
        have pm1 : Px [925] M M1 := ⟨hG2, hF2⟩
        have hiv1 : Iv S1 M1 qx tp qm := (Iv.keep hiv px1 pm1 (by decide) (by decide) (by decide) (by decide) (by decide) (by decide))
        refine lv_pop hx hb dL_law_318 rfl ?_
        refine lv_goto (tgt := 761) hx hb dL_law_319 (by decide) ?_
        exact htail S1 M1 H locs ls _ _ (by omega) (by omega) hiv1 hWx hWm (dj_s hdj) hS hl
      by_cases k6 : op = 6
      · refine lv_tableIn (off := 289) (tgt := 322) hx hb dL_law_33 (by rw [k6]; decide) (by rw [k6]; decide) (by rw [k6]; rfl) (by decide) ?_
        refine lv_aload_n hx hb dL_law_322 rfl (lv_at hl 2 rfl) ?_
        refine lv_aload_n hx hb dL_law_323 rfl (lv_at hl 3 rfl) ?_
        refine lv_iload_n hx hb dL_law_324 rfl (lv_at hl 0 rfl) ?_
        refine lv_iconst (v := 1) hx hb dL_law_325 (by decide) ?_
        refine lv_iadd hx hb dL_law_326 ?_
        rw [show (nI (6 * j) + 1 : Int32) = nI (6 * j + 1) from nI_add (6 * j) 1]
        refine va_sld hx hb hXs hbl hbA hS (vp_in_nI (n := 6 * j + 1) (by omega) (by omega)) dL_law_327 ?_
        refine lv_topi (fun a1 ea1 => ?_)
        refine lv_aload_n hx hb dL_law_328 rfl (lv_at hl 3 rfl) ?_
        refine lv_iload_n hx hb dL_law_329 rfl (lv_at hl 0 rfl) ?_
        refine lv_iconst (v := 2) hx hb dL_law_330 (by decide) ?_
        refine lv_iadd hx hb dL_law_331 ?_
        rw [show (nI (6 * j) + 2 : Int32) = nI (6 * j + 2) from nI_add (6 * j) 2]
        refine va_sld hx hb hXs hbl hbA hS (vp_in_nI (n := 6 * j + 2) (by omega) (by omega)) dL_law_332 ?_
        refine lv_topi (fun a2 ea2 => ?_)
        refine lv_aload_n hx hb dL_law_333 rfl (lv_at hl 3 rfl) ?_
        refine lv_iload_n hx hb dL_law_334 rfl (lv_at hl 0 rfl) ?_
        refine lv_iconst (v := 3) hx hb dL_law_335 (by decide) ?_
        refine lv_iadd hx hb dL_law_336 ?_
        rw [show (nI (6 * j) + 3 : Int32) = nI (6 * j + 3) from nI_add (6 * j) 3]
        refine va_sld hx hb hXs hbl hbA hS (vp_in_nI (n := 6 * j + 3) (by omega) (by omega)) dL_law_337 ?_
        refine lv_topi (fun a3 ea3 => ?_)
        refine lv_aload_n hx hb dL_law_338 rfl (lv_at hl 3 rfl) ?_
        refine lv_iload_n hx hb dL_law_339 rfl (lv_at hl 0 rfl) ?_
        refine lv_iconst (v := 4) hx hb dL_law_340 (by decide) ?_
        refine lv_iadd hx hb dL_law_341 ?_
        rw [show (nI (6 * j) + 4 : Int32) = nI (6 * j + 4) from nI_add (6 * j) 4]
        refine va_sld hx hb hXs hbl hbA hS (vp_in_nI (n := 6 * j + 4) (by omega) (by omega)) dL_law_342 ?_
        refine lv_topi (fun a4 ea4 => ?_)
        refine pl_Vi (S := S) (T := M) (As := [.int a1, .int a2, .int a3, .int a4]) (rest := []) F (fun A => b_X8_book l D cy A S qx a1 a2 a3 a4 hx8.1 hx8.2.1) (cwV 4 hts gL_law_X8_book rfl rfl rfl (by decide +kernel) ⟨Nat.le_of_ble_eq_true rfl, Nat.le_of_ble_eq_true rfl⟩) hK hZ hA hWx hWm hdj hS hx8.2.1 (by decide) rfl rfl hl.1 rfl (Nat.le_of_ble_eq_true rfl) dL_law_343 ⟨by show cl + 1 ≤ 600000; omega, by show sl + 10 ≤ 7302250; omega⟩ (fun r1 S1 H locs hp1 hWx hWm hdj hS => ?_)
        obtain ⟨hG1, hF1, hp1⟩ := hp1
        have px1 : Px [809] S S1 := ⟨hG1, hF1⟩
        refine lv_pop hx hb dL_law_346 rfl ?_
        refine lv_aload_n hx hb dL_law_347 rfl (lv_at hl 1 rfl) ?_
        refine lv_aload_n hx hb dL_law_348 rfl (lv_at hl 3 rfl) ?_
        refine lv_iload_n hx hb dL_law_349 rfl (lv_at hl 0 rfl) ?_
        refine lv_iconst (v := 1) hx hb dL_law_350 (by decide) ?_
        refine lv_iadd hx hb dL_law_351 ?_
        rw [show (nI (6 * j) + 1 : Int32) = nI (6 * j + 1) from nI_add (6 * j) 1]
        refine va_sld hx hb hXs hbl hbA hS (vp_in_nI (n := 6 * j + 1) (by omega) (by omega)) dL_law_352 ?_
        rw [← ea1]
        refine lv_aload_n hx hb dL_law_353 rfl (lv_at hl 3 rfl) ?_
        refine lv_iload_n hx hb dL_law_354 rfl (lv_at hl 0 rfl) ?_
        refine lv_iconst (v := 2) hx hb dL_law_355 (by decide) ?_
        refine lv_iadd hx hb dL_law_356 ?_
        rw [show (nI (6 * j) + 2 : Int32) = nI (6 * j + 2) from nI_add (6 * j) 2]
        refine va_sld hx hb hXs hbl hbA hS (vp_in_nI (n := 6 * j + 2) (by omega) (by omega)) dL_law_357 ?_
        rw [← ea2]
        refine lv_aload_n hx hb dL_law_358 rfl (lv_at hl 3 rfl) ?_
        refine lv_iload_n hx hb dL_law_359 rfl (lv_at hl 0 rfl) ?_
        refine lv_iconst (v := 3) hx hb dL_law_360 (by decide) ?_
        refine lv_iadd hx hb dL_law_361 ?_
        rw [show (nI (6 * j) + 3 : Int32) = nI (6 * j + 3) from nI_add (6 * j) 3]
        refine va_sld hx hb hXs hbl hbA hS (vp_in_nI (n := 6 * j + 3) (by omega) (by omega)) dL_law_362 ?_
        rw [← ea3]
        refine lv_aload_n hx hb dL_law_363 rfl (lv_at hl 3 rfl) ?_
        refine lv_iload_n hx hb dL_law_364 rfl (lv_at hl 0 rfl) ?_
        refine lv_iconst (v := 4) hx hb dL_law_365 (by decide) ?_
        refine lv_iadd hx hb dL_law_366 ?_
        rw [show (nI (6 * j) + 4 : Int32) = nI (6 * j + 4) from nI_add (6 * j) 4]
        refine va_sld hx hb hXs hbl hbA hS (vp_in_nI (n := 6 * j + 4) (by omega) (by omega)) dL_law_367 ?_
        rw [← ea4]
        refine pl_Vi (S := M) (T := S1) (As := [.int a1, .int a2, .int a3, .int a4]) (rest := []) F (fun A => b_X9_book l D cy A M qm a1 a2 a3 a4 hm9.1 hm9.2) (cwV 4 hts gL_law_X9_book rfl rfl rfl (by decide +kernel) ⟨Nat.le_of_ble_eq_true rfl, Nat.le_of_ble_eq_true rfl⟩) hK hZ hA hWm hWx (dj_s hdj) hS hm9.2 (by decide) rfl rfl hl.1 rfl (Nat.le_of_ble_eq_true rfl) dL_law_368 ⟨by show cl + 1 + 0 ≤ 600000; omega, by show sl + 10 + 0 ≤ 7302250; omega⟩ (fun r2 M1 H locs hp2 hWm hWx hdj hS => ?_)
        obtain ⟨hG2, hF2, hp2⟩ := hp2
        have pm1 : Px [935, 1100, 1600] M M1 := ⟨hG2, hF2⟩
        have hiv1 : Iv S1 M1 qx tp qm := (Iv.keep hiv px1 pm1 (by decide) (by decide) (by decide) (by decide) (by decide) (by decide))
        refine lv_pop hx hb dL_law_371 rfl ?_
        refine lv_goto (tgt := 761) hx hb dL_law_372 (by decide) ?_
        exact htail S1 M1 H locs ls _ _ (by omega) (by omega) hiv1 hWx hWm (dj_s hdj) hS hl
      by_cases k7 : op = 7
      · refine lv_tableIn (off := 342) (tgt := 375) hx hb dL_law_33 (by rw [k7]; decide) (by rw [k7]; decide) (by rw [k7]; rfl) (by decide) ?_
        refine lv_aload_n hx hb dL_law_375 rfl (lv_at hl 2 rfl) ?_
        refine lv_aload_n hx hb dL_law_376 rfl (lv_at hl 3 rfl) ?_
        refine lv_iload_n hx hb dL_law_377 rfl (lv_at hl 0 rfl) ?_
        refine lv_iconst (v := 1) hx hb dL_law_378 (by decide) ?_
        refine lv_iadd hx hb dL_law_379 ?_
        rw [show (nI (6 * j) + 1 : Int32) = nI (6 * j + 1) from nI_add (6 * j) 1]
        refine va_sld hx hb hXs hbl hbA hS (vp_in_nI (n := 6 * j + 1) (by omega) (by omega)) dL_law_380 ?_
        refine lv_topi (fun a1 ea1 => ?_)
        refine pl_Vi (S := S) (T := M) (As := [.int a1]) (rest := []) F (fun A => b_X8_cancel l D cy A S qx a1 hx8.1 hx8.2.1) (cwV 1 hts gL_law_X8_cancel rfl rfl rfl (by decide +kernel) ⟨Nat.le_of_ble_eq_true rfl, Nat.le_of_ble_eq_true rfl⟩) hK hZ hA hWx hWm hdj hS hx8.2.1 (by decide) rfl rfl hl.1 rfl (Nat.le_of_ble_eq_true rfl) dL_law_381 ⟨by show cl + 0 ≤ 600000; omega, by show sl + 0 ≤ 7302250; omega⟩ (fun r1 S1 H locs hp1 hWx hWm hdj hS => ?_)
        obtain ⟨hG1, hF1, hp1⟩ := hp1
        have px1 : Px [606, 608] S S1 := ⟨hG1, hF1⟩
        refine lv_pop hx hb dL_law_384 rfl ?_
        refine lv_aload_n hx hb dL_law_385 rfl (lv_at hl 1 rfl) ?_
        refine lv_aload_n hx hb dL_law_386 rfl (lv_at hl 3 rfl) ?_
        refine lv_iload_n hx hb dL_law_387 rfl (lv_at hl 0 rfl) ?_
        refine lv_iconst (v := 1) hx hb dL_law_388 (by decide) ?_
        refine lv_iadd hx hb dL_law_389 ?_
        rw [show (nI (6 * j) + 1 : Int32) = nI (6 * j + 1) from nI_add (6 * j) 1]
        refine va_sld hx hb hXs hbl hbA hS (vp_in_nI (n := 6 * j + 1) (by omega) (by omega)) dL_law_390 ?_
        rw [← ea1]
        refine pl_Vi (S := M) (T := S1) (As := [.int a1]) (rest := []) F (fun A => b_X9_cancel l D cy A M qm a1 hm9.1 hm9.2) (cwV 1 hts gL_law_X9_cancel rfl rfl rfl (by decide +kernel) ⟨Nat.le_of_ble_eq_true rfl, Nat.le_of_ble_eq_true rfl⟩) hK hZ hA hWm hWx (dj_s hdj) hS hm9.2 (by decide) rfl rfl hl.1 rfl (Nat.le_of_ble_eq_true rfl) dL_law_391 ⟨by show cl + 0 + 0 ≤ 600000; omega, by show sl + 0 + 0 ≤ 7302250; omega⟩ (fun r2 M1 H locs hp2 hWm hWx hdj hS => ?_)
        obtain ⟨hG2, hF2, hp2⟩ := hp2
        have pm1 : Px [1100] M M1 := ⟨hG2, hF2⟩
        have hiv1 : Iv S1 M1 qx tp qm := (Iv.keep hiv px1 pm1 (by decide) (by decide) (by decide) (by decide) (by decide) (by decide))
        refine lv_pop hx hb dL_law_394 rfl ?_
        refine lv_goto (tgt := 761) hx hb dL_law_395 (by decide) ?_
        exact htail S1 M1 H locs ls _ _ (by omega) (by omega) hiv1 hWx hWm (dj_s hdj) hS hl
      by_cases k8 : op = 8
      · refine lv_tableIn (off := 365) (tgt := 398) hx hb dL_law_33 (by rw [k8]; decide) (by rw [k8]; decide) (by rw [k8]; rfl) (by decide) ?_
        refine lv_aload_n hx hb dL_law_398 rfl (lv_at hl 2 rfl) ?_
        refine lv_aload_n hx hb dL_law_399 rfl (lv_at hl 3 rfl) ?_
        refine lv_iload_n hx hb dL_law_400 rfl (lv_at hl 0 rfl) ?_
        refine lv_iconst (v := 1) hx hb dL_law_401 (by decide) ?_
        refine lv_iadd hx hb dL_law_402 ?_
        rw [show (nI (6 * j) + 1 : Int32) = nI (6 * j + 1) from nI_add (6 * j) 1]
        refine va_sld hx hb hXs hbl hbA hS (vp_in_nI (n := 6 * j + 1) (by omega) (by omega)) dL_law_403 ?_
        refine lv_topi (fun a1 ea1 => ?_)
        refine lv_aload_n hx hb dL_law_404 rfl (lv_at hl 3 rfl) ?_
        refine lv_iload_n hx hb dL_law_405 rfl (lv_at hl 0 rfl) ?_
        refine lv_iconst (v := 2) hx hb dL_law_406 (by decide) ?_
        refine lv_iadd hx hb dL_law_407 ?_
        rw [show (nI (6 * j) + 2 : Int32) = nI (6 * j + 2) from nI_add (6 * j) 2]
        refine va_sld hx hb hXs hbl hbA hS (vp_in_nI (n := 6 * j + 2) (by omega) (by omega)) dL_law_408 ?_
        refine lv_topi (fun a2 ea2 => ?_)
        refine lv_aload_n hx hb dL_law_409 rfl (lv_at hl 3 rfl) ?_
        refine lv_iload_n hx hb dL_law_410 rfl (lv_at hl 0 rfl) ?_
        refine lv_iconst (v := 3) hx hb dL_law_411 (by decide) ?_
        refine lv_iadd hx hb dL_law_412 ?_
        rw [show (nI (6 * j) + 3 : Int32) = nI (6 * j + 3) from nI_add (6 * j) 3]
        refine va_sld hx hb hXs hbl hbA hS (vp_in_nI (n := 6 * j + 3) (by omega) (by omega)) dL_law_413 ?_
        refine lv_topi (fun a3 ea3 => ?_)
        refine pl_Vi (S := S) (T := M) (As := [.int a1, .int a2, .int a3]) (rest := []) F (fun A => b_X8_cut l D cy A S qx a1 a2 a3 hx8.1 hx8.2.1) (cwV 3 hts gL_law_X8_cut rfl rfl rfl (by decide +kernel) ⟨Nat.le_of_ble_eq_true rfl, Nat.le_of_ble_eq_true rfl⟩) hK hZ hA hWx hWm hdj hS hx8.2.1 (by decide) rfl rfl hl.1 rfl (Nat.le_of_ble_eq_true rfl) dL_law_414 ⟨by show cl + 0 ≤ 600000; omega, by show sl + 0 ≤ 7302250; omega⟩ (fun r1 S1 H locs hp1 hWx hWm hdj hS => ?_)
        obtain ⟨hG1, hF1, hp1⟩ := hp1
        have px1 : Px [108, 109] S S1 := ⟨hG1, hF1⟩
        refine lv_pop hx hb dL_law_417 rfl ?_
        refine lv_aload_n hx hb dL_law_418 rfl (lv_at hl 1 rfl) ?_
        refine lv_aload_n hx hb dL_law_419 rfl (lv_at hl 3 rfl) ?_
        refine lv_iload_n hx hb dL_law_420 rfl (lv_at hl 0 rfl) ?_
        refine lv_iconst (v := 1) hx hb dL_law_421 (by decide) ?_
        refine lv_iadd hx hb dL_law_422 ?_
        rw [show (nI (6 * j) + 1 : Int32) = nI (6 * j + 1) from nI_add (6 * j) 1]
        refine va_sld hx hb hXs hbl hbA hS (vp_in_nI (n := 6 * j + 1) (by omega) (by omega)) dL_law_423 ?_
        rw [← ea1]
        refine lv_aload_n hx hb dL_law_424 rfl (lv_at hl 3 rfl) ?_
        refine lv_iload_n hx hb dL_law_425 rfl (lv_at hl 0 rfl) ?_
        refine lv_iconst (v := 2) hx hb dL_law_426 (by decide) ?_
        refine lv_iadd hx hb dL_law_427 ?_
        rw [show (nI (6 * j) + 2 : Int32) = nI (6 * j + 2) from nI_add (6 * j) 2]
        refine va_sld hx hb hXs hbl hbA hS (vp_in_nI (n := 6 * j + 2) (by omega) (by omega)) dL_law_428 ?_
        rw [← ea2]
        refine lv_aload_n hx hb dL_law_429 rfl (lv_at hl 3 rfl) ?_
        refine lv_iload_n hx hb dL_law_430 rfl (lv_at hl 0 rfl) ?_
        refine lv_iconst (v := 3) hx hb dL_law_431 (by decide) ?_
        refine lv_iadd hx hb dL_law_432 ?_
        rw [show (nI (6 * j) + 3 : Int32) = nI (6 * j + 3) from nI_add (6 * j) 3]
        refine va_sld hx hb hXs hbl hbA hS (vp_in_nI (n := 6 * j + 3) (by omega) (by omega)) dL_law_433 ?_
        rw [← ea3]
        refine pl_Vi (S := M) (T := S1) (As := [.int a1, .int a2, .int a3]) (rest := []) F (fun A => b_X9_cut l D cy A M qm a1 a2 a3 hm9.1 hm9.2) (cwV 3 hts gL_law_X9_cut rfl rfl rfl (by decide +kernel) ⟨Nat.le_of_ble_eq_true rfl, Nat.le_of_ble_eq_true rfl⟩) hK hZ hA hWm hWx (dj_s hdj) hS hm9.2 (by decide) rfl rfl hl.1 rfl (Nat.le_of_ble_eq_true rfl) dL_law_434 ⟨by show cl + 0 + 0 ≤ 600000; omega, by show sl + 0 + 0 ≤ 7302250; omega⟩ (fun r2 M1 H locs hp2 hWm hWx hdj hS => ?_)
        obtain ⟨hG2, hF2, hp2⟩ := hp2
        have pm1 : Px [1100, 1300] M M1 := ⟨hG2, hF2⟩
        have hiv1 : Iv S1 M1 qx tp qm := (Iv.keep hiv px1 pm1 (by decide) (by decide) (by decide) (by decide) (by decide) (by decide))
        refine lv_pop hx hb dL_law_437 rfl ?_
        refine lv_goto (tgt := 761) hx hb dL_law_438 (by decide) ?_
        exact htail S1 M1 H locs ls _ _ (by omega) (by omega) hiv1 hWx hWm (dj_s hdj) hS hl
      by_cases k9 : op = 9
      · refine lv_tableIn (off := 408) (tgt := 441) hx hb dL_law_33 (by rw [k9]; decide) (by rw [k9]; decide) (by rw [k9]; rfl) (by decide) ?_
        refine lv_aload_n hx hb dL_law_441 rfl (lv_at hl 2 rfl) ?_
        refine lv_aload_n hx hb dL_law_442 rfl (lv_at hl 3 rfl) ?_
        refine lv_iload_n hx hb dL_law_443 rfl (lv_at hl 0 rfl) ?_
        refine lv_iconst (v := 1) hx hb dL_law_444 (by decide) ?_
        refine lv_iadd hx hb dL_law_445 ?_
        rw [show (nI (6 * j) + 1 : Int32) = nI (6 * j + 1) from nI_add (6 * j) 1]
        refine va_sld hx hb hXs hbl hbA hS (vp_in_nI (n := 6 * j + 1) (by omega) (by omega)) dL_law_446 ?_
        refine lv_topi (fun a1 ea1 => ?_)
        refine lv_aload_n hx hb dL_law_447 rfl (lv_at hl 3 rfl) ?_
        refine lv_iload_n hx hb dL_law_448 rfl (lv_at hl 0 rfl) ?_
        refine lv_iconst (v := 2) hx hb dL_law_449 (by decide) ?_
        refine lv_iadd hx hb dL_law_450 ?_
        rw [show (nI (6 * j) + 2 : Int32) = nI (6 * j + 2) from nI_add (6 * j) 2]
        refine va_sld hx hb hXs hbl hbA hS (vp_in_nI (n := 6 * j + 2) (by omega) (by omega)) dL_law_451 ?_
        refine lv_topi (fun a2 ea2 => ?_)
        refine lv_aload_n hx hb dL_law_452 rfl (lv_at hl 3 rfl) ?_
        refine lv_iload_n hx hb dL_law_453 rfl (lv_at hl 0 rfl) ?_
        refine lv_iconst (v := 3) hx hb dL_law_454 (by decide) ?_
        refine lv_iadd hx hb dL_law_455 ?_
        rw [show (nI (6 * j) + 3 : Int32) = nI (6 * j + 3) from nI_add (6 * j) 3]
        refine va_sld hx hb hXs hbl hbA hS (vp_in_nI (n := 6 * j + 3) (by omega) (by omega)) dL_law_456 ?_
        refine lv_topi (fun a3 ea3 => ?_)
        refine pl_Vi (S := S) (T := M) (As := [.int a1, .int a2, .int a3]) (rest := []) F (fun A => b_X8_close l D cy A S qx a1 a2 a3 hx8.1 hx8.2.1) (cwV 3 hts gL_law_X8_close rfl rfl rfl (by decide +kernel) ⟨Nat.le_of_ble_eq_true rfl, Nat.le_of_ble_eq_true rfl⟩) hK hZ hA hWx hWm hdj hS hx8.2.1 (by decide) rfl rfl hl.1 rfl (Nat.le_of_ble_eq_true rfl) dL_law_457 ⟨by show cl + 0 ≤ 600000; omega, by show sl + 0 ≤ 7302250; omega⟩ (fun r1 S1 H locs hp1 hWx hWm hdj hS => ?_)
        obtain ⟨hG1, hF1, hp1⟩ := hp1
        have px1 : Px [102, 206, 207, 208, 209, 604, 605, 606, 609, 1100] S S1 := ⟨hG1, hF1⟩
        refine lv_pop hx hb dL_law_460 rfl ?_
        refine lv_aload_n hx hb dL_law_461 rfl (lv_at hl 1 rfl) ?_
        refine lv_aload_n hx hb dL_law_462 rfl (lv_at hl 3 rfl) ?_
        refine lv_iload_n hx hb dL_law_463 rfl (lv_at hl 0 rfl) ?_
        refine lv_iconst (v := 1) hx hb dL_law_464 (by decide) ?_
        refine lv_iadd hx hb dL_law_465 ?_
        rw [show (nI (6 * j) + 1 : Int32) = nI (6 * j + 1) from nI_add (6 * j) 1]
        refine va_sld hx hb hXs hbl hbA hS (vp_in_nI (n := 6 * j + 1) (by omega) (by omega)) dL_law_466 ?_
        rw [← ea1]
        refine lv_aload_n hx hb dL_law_467 rfl (lv_at hl 3 rfl) ?_
        refine lv_iload_n hx hb dL_law_468 rfl (lv_at hl 0 rfl) ?_
        refine lv_iconst (v := 2) hx hb dL_law_469 (by decide) ?_
        refine lv_iadd hx hb dL_law_470 ?_
        rw [show (nI (6 * j) + 2 : Int32) = nI (6 * j + 2) from nI_add (6 * j) 2]
        refine va_sld hx hb hXs hbl hbA hS (vp_in_nI (n := 6 * j + 2) (by omega) (by omega)) dL_law_471 ?_
        rw [← ea2]
        refine lv_aload_n hx hb dL_law_472 rfl (lv_at hl 3 rfl) ?_
        refine lv_iload_n hx hb dL_law_473 rfl (lv_at hl 0 rfl) ?_
        refine lv_iconst (v := 3) hx hb dL_law_474 (by decide) ?_
        refine lv_iadd hx hb dL_law_475 ?_
        rw [show (nI (6 * j) + 3 : Int32) = nI (6 * j + 3) from nI_add (6 * j) 3]
        refine va_sld hx hb hXs hbl hbA hS (vp_in_nI (n := 6 * j + 3) (by omega) (by omega)) dL_law_476 ?_
        rw [← ea3]
        refine pl_Vi (S := M) (T := S1) (As := [.int a1, .int a2, .int a3]) (rest := []) F (fun A => b_X9_close l D cy A M qm a1 a2 a3 hm9.1 hm9.2) (cwV 3 hts gL_law_X9_close rfl rfl rfl (by decide +kernel) ⟨Nat.le_of_ble_eq_true rfl, Nat.le_of_ble_eq_true rfl⟩) hK hZ hA hWm hWx (dj_s hdj) hS hm9.2 (by decide) rfl rfl hl.1 rfl (Nat.le_of_ble_eq_true rfl) dL_law_477 ⟨by show cl + 0 + 0 ≤ 600000; omega, by show sl + 0 + 0 ≤ 7302250; omega⟩ (fun r2 M1 H locs hp2 hWm hWx hdj hS => ?_)
        obtain ⟨hG2, hF2, hp2⟩ := hp2
        have pm1 : Px [936, 953, 954, 955, 1100, 1600, 1700, 1800, 1900] M M1 := ⟨hG2, hF2⟩
        have hiv1 : Iv S1 M1 qx tp qm := (Iv.keep hiv px1 pm1 (by decide) (by decide) (by decide) (by decide) (by decide) (by decide))
        refine lv_pop hx hb dL_law_480 rfl ?_
        refine lv_goto (tgt := 761) hx hb dL_law_481 (by decide) ?_
        exact htail S1 M1 H locs ls _ _ (by omega) (by omega) hiv1 hWx hWm (dj_s hdj) hS hl
      by_cases k10 : op = 10
      · refine lv_tableIn (off := 451) (tgt := 484) hx hb dL_law_33 (by rw [k10]; decide) (by rw [k10]; decide) (by rw [k10]; rfl) (by decide) ?_
        refine lv_aload_n hx hb dL_law_484 rfl (lv_at hl 2 rfl) ?_
        refine lv_aload_n hx hb dL_law_485 rfl (lv_at hl 3 rfl) ?_
        refine lv_iload_n hx hb dL_law_486 rfl (lv_at hl 0 rfl) ?_
        refine lv_iconst (v := 1) hx hb dL_law_487 (by decide) ?_
        refine lv_iadd hx hb dL_law_488 ?_
        rw [show (nI (6 * j) + 1 : Int32) = nI (6 * j + 1) from nI_add (6 * j) 1]
        refine va_sld hx hb hXs hbl hbA hS (vp_in_nI (n := 6 * j + 1) (by omega) (by omega)) dL_law_489 ?_
        refine lv_topi (fun a1 ea1 => ?_)
        refine lv_aload_n hx hb dL_law_490 rfl (lv_at hl 3 rfl) ?_
        refine lv_iload_n hx hb dL_law_491 rfl (lv_at hl 0 rfl) ?_
        refine lv_iconst (v := 2) hx hb dL_law_492 (by decide) ?_
        refine lv_iadd hx hb dL_law_493 ?_
        rw [show (nI (6 * j) + 2 : Int32) = nI (6 * j + 2) from nI_add (6 * j) 2]
        refine va_sld hx hb hXs hbl hbA hS (vp_in_nI (n := 6 * j + 2) (by omega) (by omega)) dL_law_494 ?_
        refine lv_topi (fun a2 ea2 => ?_)
        refine pl_Vi (S := S) (T := M) (As := [.int a1, .int a2]) (rest := []) F (fun A => b_X8_step l D cy A S qx a1 a2 hx8.1 hx8.2.1) (cwV 2 hts gL_law_X8_step rfl rfl rfl (by decide +kernel) ⟨Nat.le_of_ble_eq_true rfl, Nat.le_of_ble_eq_true rfl⟩) hK hZ hA hWx hWm hdj hS hx8.2.1 (by decide) rfl rfl hl.1 rfl (Nat.le_of_ble_eq_true rfl) dL_law_495 ⟨by show cl + 0 ≤ 600000; omega, by show sl + 0 ≤ 7302250; omega⟩ (fun r1 S1 H locs hp1 hWx hWm hdj hS => ?_)
        obtain ⟨hG1, hF1, hp1⟩ := hp1
        have px1 : Px [103, 104, 105, 106, 107, 108, 109, 606, 607, 608, 810, 811, 815, 816, 817] S S1 := ⟨hG1, hF1⟩
        refine lv_aload_n hx hb dL_law_498 rfl (lv_at hl 1 rfl) ?_
        refine lv_aload_n hx hb dL_law_499 rfl (lv_at hl 3 rfl) ?_
        refine lv_iload_n hx hb dL_law_500 rfl (lv_at hl 0 rfl) ?_
        refine lv_iconst (v := 1) hx hb dL_law_501 (by decide) ?_
        refine lv_iadd hx hb dL_law_502 ?_
        rw [show (nI (6 * j) + 1 : Int32) = nI (6 * j + 1) from nI_add (6 * j) 1]
        refine va_sld hx hb hXs hbl hbA hS (vp_in_nI (n := 6 * j + 1) (by omega) (by omega)) dL_law_503 ?_
        rw [← ea1]
        refine lv_aload_n hx hb dL_law_504 rfl (lv_at hl 3 rfl) ?_
        refine lv_iload_n hx hb dL_law_505 rfl (lv_at hl 0 rfl) ?_
        refine lv_iconst (v := 2) hx hb dL_law_506 (by decide) ?_
        refine lv_iadd hx hb dL_law_507 ?_
        rw [show (nI (6 * j) + 2 : Int32) = nI (6 * j + 2) from nI_add (6 * j) 2]
        refine va_sld hx hb hXs hbl hbA hS (vp_in_nI (n := 6 * j + 2) (by omega) (by omega)) dL_law_508 ?_
        rw [← ea2]
        refine pl_Vi (S := M) (T := S1) (As := [.int a1, .int a2]) (rest := [.int r1]) F (fun A => b_X9_step l D cy A M qm a1 a2 hm9.1 hm9.2) (cwV 2 hts gL_law_X9_step rfl rfl rfl (by decide +kernel) ⟨Nat.le_of_ble_eq_true rfl, Nat.le_of_ble_eq_true rfl⟩) hK hZ hA hWm hWx (dj_s hdj) hS hm9.2 (by decide) rfl rfl hl.1 rfl (Nat.le_of_ble_eq_true rfl) dL_law_509 ⟨by show cl + 0 + 0 ≤ 600000; omega, by show sl + 0 + 0 ≤ 7302250; omega⟩ (fun r2 M1 H locs hp2 hWm hWx hdj hS => ?_)
        obtain ⟨hG2, hF2, hp2⟩ := hp2
        have pm1 : Px [918, 919, 920, 921, 922, 1100, 1300] M M1 := ⟨hG2, hF2⟩
        have hiv1 : Iv S1 M1 qx tp qm := (Iv.step hiv px1 pm1 (by decide) (by decide) (by decide) (by decide) hp1 hp2).1
        have heq : r1 = r2 := (Iv.step hiv px1 pm1 (by decide) (by decide) (by decide) (by decide) hp1 hp2).2
        exact lv_icmp_eq (tgt := 761) hx hb dL_law_512 (by decide) (fun _ => htail S1 M1 H locs ls _ _ (by omega) (by omega) hiv1 hWx hWm (dj_s hdj) hS hl) (fun c1 => absurd heq c1)
      by_cases k11 : op = 11
      · refine lv_tableIn (off := 484) (tgt := 517) hx hb dL_law_33 (by rw [k11]; decide) (by rw [k11]; decide) (by rw [k11]; rfl) (by decide) ?_
        refine lv_aload_n hx hb dL_law_517 rfl (lv_at hl 2 rfl) ?_
        refine lv_aload_n hx hb dL_law_518 rfl (lv_at hl 3 rfl) ?_
        refine lv_iload_n hx hb dL_law_519 rfl (lv_at hl 0 rfl) ?_
        refine lv_iconst (v := 1) hx hb dL_law_520 (by decide) ?_
        refine lv_iadd hx hb dL_law_521 ?_
        rw [show (nI (6 * j) + 1 : Int32) = nI (6 * j + 1) from nI_add (6 * j) 1]
        refine va_sld hx hb hXs hbl hbA hS (vp_in_nI (n := 6 * j + 1) (by omega) (by omega)) dL_law_522 ?_
        refine lv_topi (fun a1 ea1 => ?_)
        refine lv_aload_n hx hb dL_law_523 rfl (lv_at hl 3 rfl) ?_
        refine lv_iload_n hx hb dL_law_524 rfl (lv_at hl 0 rfl) ?_
        refine lv_iconst (v := 2) hx hb dL_law_525 (by decide) ?_
        refine lv_iadd hx hb dL_law_526 ?_
        rw [show (nI (6 * j) + 2 : Int32) = nI (6 * j + 2) from nI_add (6 * j) 2]
        refine va_sld hx hb hXs hbl hbA hS (vp_in_nI (n := 6 * j + 2) (by omega) (by omega)) dL_law_527 ?_
        refine lv_topi (fun a2 ea2 => ?_)
        refine pl_Vi (S := S) (T := M) (As := [.int a1, .int a2]) (rest := []) F (fun A => b_X8_plan l D cy A S qx a1 a2 hx8.1 hx8.2.1) (cwV 2 hts gL_law_X8_plan rfl rfl rfl (by decide +kernel) ⟨Nat.le_of_ble_eq_true rfl, Nat.le_of_ble_eq_true rfl⟩) hK hZ hA hWx hWm hdj hS hx8.2.1 (by decide) rfl rfl hl.1 rfl (Nat.le_of_ble_eq_true rfl) dL_law_528 ⟨by show cl + 0 ≤ 600000; omega, by show sl + 0 ≤ 7302250; omega⟩ (fun r1 S1 H locs hp1 hWx hWm hdj hS => ?_)
        obtain ⟨hG1, hF1, hp1⟩ := hp1
        have px1 : Px [304, 305, 306, 307, 308, 1100] S S1 := ⟨hG1, hF1⟩
        refine lv_pop hx hb dL_law_531 rfl ?_
        refine lv_aload_n hx hb dL_law_532 rfl (lv_at hl 1 rfl) ?_
        refine lv_aload_n hx hb dL_law_533 rfl (lv_at hl 3 rfl) ?_
        refine lv_iload_n hx hb dL_law_534 rfl (lv_at hl 0 rfl) ?_
        refine lv_iconst (v := 1) hx hb dL_law_535 (by decide) ?_
        refine lv_iadd hx hb dL_law_536 ?_
        rw [show (nI (6 * j) + 1 : Int32) = nI (6 * j + 1) from nI_add (6 * j) 1]
        refine va_sld hx hb hXs hbl hbA hS (vp_in_nI (n := 6 * j + 1) (by omega) (by omega)) dL_law_537 ?_
        rw [← ea1]
        refine lv_aload_n hx hb dL_law_538 rfl (lv_at hl 3 rfl) ?_
        refine lv_iload_n hx hb dL_law_539 rfl (lv_at hl 0 rfl) ?_
        refine lv_iconst (v := 2) hx hb dL_law_540 (by decide) ?_
        refine lv_iadd hx hb dL_law_541 ?_
        rw [show (nI (6 * j) + 2 : Int32) = nI (6 * j + 2) from nI_add (6 * j) 2]
        refine va_sld hx hb hXs hbl hbA hS (vp_in_nI (n := 6 * j + 2) (by omega) (by omega)) dL_law_542 ?_
        rw [← ea2]
        refine pl_Vi (S := M) (T := S1) (As := [.int a1, .int a2]) (rest := []) F (fun A => b_X9_plan l D cy A M qm a1 a2 hm9.1 hm9.2) (cwV 2 hts gL_law_X9_plan rfl rfl rfl (by decide +kernel) ⟨Nat.le_of_ble_eq_true rfl, Nat.le_of_ble_eq_true rfl⟩) hK hZ hA hWm hWx (dj_s hdj) hS hm9.2 (by decide) rfl rfl hl.1 rfl (Nat.le_of_ble_eq_true rfl) dL_law_543 ⟨by show cl + 0 + 0 ≤ 600000; omega, by show sl + 0 + 0 ≤ 7302250; omega⟩ (fun r2 M1 H locs hp2 hWm hWx hdj hS => ?_)
        obtain ⟨hG2, hF2, hp2⟩ := hp2
        have pm1 : Px [960, 1100] M M1 := ⟨hG2, hF2⟩
        have hiv1 : Iv S1 M1 qx tp qm := (Iv.keep hiv px1 pm1 (by decide) (by decide) (by decide) (by decide) (by decide) (by decide))
        refine lv_pop hx hb dL_law_546 rfl ?_
        refine lv_goto (tgt := 761) hx hb dL_law_547 (by decide) ?_
        exact htail S1 M1 H locs ls _ _ (by omega) (by omega) hiv1 hWx hWm (dj_s hdj) hS hl
      by_cases k12 : op = 12
      · refine lv_tableIn (off := 517) (tgt := 550) hx hb dL_law_33 (by rw [k12]; decide) (by rw [k12]; decide) (by rw [k12]; rfl) (by decide) ?_
        refine lv_aload_n hx hb dL_law_550 rfl (lv_at hl 2 rfl) ?_
        refine lv_aload_n hx hb dL_law_551 rfl (lv_at hl 3 rfl) ?_
        refine lv_iload_n hx hb dL_law_552 rfl (lv_at hl 0 rfl) ?_
        refine lv_iconst (v := 1) hx hb dL_law_553 (by decide) ?_
        refine lv_iadd hx hb dL_law_554 ?_
        rw [show (nI (6 * j) + 1 : Int32) = nI (6 * j + 1) from nI_add (6 * j) 1]
        refine va_sld hx hb hXs hbl hbA hS (vp_in_nI (n := 6 * j + 1) (by omega) (by omega)) dL_law_555 ?_
        refine lv_topi (fun a1 ea1 => ?_)
        refine pl_Vi (S := S) (T := M) (As := [.int a1]) (rest := []) F (fun A => b_X8_planned l D cy A S qx a1 hx8.1 hx8.2.1) (cwV 1 hts gL_law_X8_planned rfl rfl rfl (by decide +kernel) ⟨Nat.le_of_ble_eq_true rfl, Nat.le_of_ble_eq_true rfl⟩) hK hZ hA hWx hWm hdj hS hx8.2.1 (by decide) rfl rfl hl.1 rfl (Nat.le_of_ble_eq_true rfl) dL_law_556 ⟨by show cl + 0 ≤ 600000; omega, by show sl + 0 ≤ 7302250; omega⟩ (fun r1 S1 H locs hp1 hWx hWm hdj hS => ?_)
        obtain ⟨eS1, hp1⟩ := hp1
        have px1 := Px.pu eS1 hx8.1
        refine lv_pop hx hb dL_law_559 rfl ?_
        refine lv_aload_n hx hb dL_law_560 rfl (lv_at hl 1 rfl) ?_
        refine lv_aload_n hx hb dL_law_561 rfl (lv_at hl 3 rfl) ?_
        refine lv_iload_n hx hb dL_law_562 rfl (lv_at hl 0 rfl) ?_
        refine lv_iconst (v := 1) hx hb dL_law_563 (by decide) ?_
        refine lv_iadd hx hb dL_law_564 ?_
        rw [show (nI (6 * j) + 1 : Int32) = nI (6 * j + 1) from nI_add (6 * j) 1]
        refine va_sld hx hb hXs hbl hbA hS (vp_in_nI (n := 6 * j + 1) (by omega) (by omega)) dL_law_565 ?_
        rw [← ea1]
        refine pl_Vi (S := M) (T := S1) (As := [.int a1]) (rest := []) F (fun A => b_X9_planned l D cy A M qm a1 hm9.1 hm9.2) (cwV 1 hts gL_law_X9_planned rfl rfl rfl (by decide +kernel) ⟨Nat.le_of_ble_eq_true rfl, Nat.le_of_ble_eq_true rfl⟩) hK hZ hA hWm hWx (dj_s hdj) hS hm9.2 (by decide) rfl rfl hl.1 rfl (Nat.le_of_ble_eq_true rfl) dL_law_566 ⟨by show cl + 0 + 0 ≤ 600000; omega, by show sl + 0 + 0 ≤ 7302250; omega⟩ (fun r2 M1 H locs hp2 hWm hWx hdj hS => ?_)
        obtain ⟨eM1, hp2⟩ := hp2
        have pm1 := Px.pu eM1 hm9.1
        have hiv1 : Iv S1 M1 qx tp qm := (Iv.keep hiv px1 pm1 (by decide) (by decide) (by decide) (by decide) (by decide) (by decide))
        refine lv_pop hx hb dL_law_569 rfl ?_
        refine lv_goto (tgt := 761) hx hb dL_law_570 (by decide) ?_
        exact htail S1 M1 H locs ls _ _ (by omega) (by omega) hiv1 hWx hWm (dj_s hdj) hS hl
      by_cases k13 : op = 13
      · refine lv_tableIn (off := 540) (tgt := 573) hx hb dL_law_33 (by rw [k13]; decide) (by rw [k13]; decide) (by rw [k13]; rfl) (by decide) ?_
        refine lv_aload_n hx hb dL_law_573 rfl (lv_at hl 2 rfl) ?_
        refine lv_aload_n hx hb dL_law_574 rfl (lv_at hl 3 rfl) ?_
        refine lv_iload_n hx hb dL_law_575 rfl (lv_at hl 0 rfl) ?_
        refine lv_iconst (v := 1) hx hb dL_law_576 (by decide) ?_
        refine lv_iadd hx hb dL_law_577 ?_
        rw [show (nI (6 * j) + 1 : Int32) = nI (6 * j + 1) from nI_add (6 * j) 1]
        refine va_sld hx hb hXs hbl hbA hS (vp_in_nI (n := 6 * j + 1) (by omega) (by omega)) dL_law_578 ?_
        refine lv_topi (fun a1 ea1 => ?_)
        refine lv_aload_n hx hb dL_law_579 rfl (lv_at hl 3 rfl) ?_
        refine lv_iload_n hx hb dL_law_580 rfl (lv_at hl 0 rfl) ?_
        refine lv_iconst (v := 2) hx hb dL_law_581 (by decide) ?_
        refine lv_iadd hx hb dL_law_582 ?_
        rw [show (nI (6 * j) + 2 : Int32) = nI (6 * j + 2) from nI_add (6 * j) 2]
        refine va_sld hx hb hXs hbl hbA hS (vp_in_nI (n := 6 * j + 2) (by omega) (by omega)) dL_law_583 ?_
        refine lv_topi (fun a2 ea2 => ?_)
        refine pl_Vi (S := S) (T := M) (As := [.int a1, .int a2]) (rest := []) F (fun A => b_X8_part l D cy A S qx a1 a2 hx8.1 hx8.2.1) (cwV 2 hts gL_law_X8_part rfl rfl rfl (by decide +kernel) ⟨Nat.le_of_ble_eq_true rfl, Nat.le_of_ble_eq_true rfl⟩) hK hZ hA hWx hWm hdj hS hx8.2.1 (by decide) rfl rfl hl.1 rfl (Nat.le_of_ble_eq_true rfl) dL_law_584 ⟨by show cl + 0 ≤ 600000; omega, by show sl + 0 ≤ 7302250; omega⟩ (fun r1 S1 H locs hp1 hWx hWm hdj hS => ?_)
        obtain ⟨eS1, hp1⟩ := hp1
        have px1 := Px.pu eS1 hx8.1
        refine lv_pop hx hb dL_law_587 rfl ?_
        refine lv_aload_n hx hb dL_law_588 rfl (lv_at hl 1 rfl) ?_
        refine lv_aload_n hx hb dL_law_589 rfl (lv_at hl 3 rfl) ?_
        refine lv_iload_n hx hb dL_law_590 rfl (lv_at hl 0 rfl) ?_
        refine lv_iconst (v := 1) hx hb dL_law_591 (by decide) ?_
        refine lv_iadd hx hb dL_law_592 ?_
        rw [show (nI (6 * j) + 1 : Int32) = nI (6 * j + 1) from nI_add (6 * j) 1]
        refine va_sld hx hb hXs hbl hbA hS (vp_in_nI (n := 6 * j + 1) (by omega) (by omega)) dL_law_593 ?_
        rw [← ea1]
        refine lv_aload_n hx hb dL_law_594 rfl (lv_at hl 3 rfl) ?_
        refine lv_iload_n hx hb dL_law_595 rfl (lv_at hl 0 rfl) ?_
        refine lv_iconst (v := 2) hx hb dL_law_596 (by decide) ?_
        refine lv_iadd hx hb dL_law_597 ?_
        rw [show (nI (6 * j) + 2 : Int32) = nI (6 * j + 2) from nI_add (6 * j) 2]
        refine va_sld hx hb hXs hbl hbA hS (vp_in_nI (n := 6 * j + 2) (by omega) (by omega)) dL_law_598 ?_
        rw [← ea2]
        refine pl_Vi (S := M) (T := S1) (As := [.int a1, .int a2]) (rest := []) F (fun A => b_X9_part l D cy A M qm a1 a2 hm9.1 hm9.2) (cwV 2 hts gL_law_X9_part rfl rfl rfl (by decide +kernel) ⟨Nat.le_of_ble_eq_true rfl, Nat.le_of_ble_eq_true rfl⟩) hK hZ hA hWm hWx (dj_s hdj) hS hm9.2 (by decide) rfl rfl hl.1 rfl (Nat.le_of_ble_eq_true rfl) dL_law_599 ⟨by show cl + 0 + 0 ≤ 600000; omega, by show sl + 0 + 0 ≤ 7302250; omega⟩ (fun r2 M1 H locs hp2 hWm hWx hdj hS => ?_)
        obtain ⟨hG2, hF2, hp2⟩ := hp2
        have pm1 : Px [1100] M M1 := ⟨hG2, hF2⟩
        have hiv1 : Iv S1 M1 qx tp qm := (Iv.keep hiv px1 pm1 (by decide) (by decide) (by decide) (by decide) (by decide) (by decide))
        refine lv_pop hx hb dL_law_602 rfl ?_
        refine lv_goto (tgt := 761) hx hb dL_law_603 (by decide) ?_
        exact htail S1 M1 H locs ls _ _ (by omega) (by omega) hiv1 hWx hWm (dj_s hdj) hS hl
      by_cases k14 : op = 14
      · refine lv_tableIn (off := 573) (tgt := 606) hx hb dL_law_33 (by rw [k14]; decide) (by rw [k14]; decide) (by rw [k14]; rfl) (by decide) ?_
        refine lv_aload_n hx hb dL_law_606 rfl (lv_at hl 2 rfl) ?_
        refine lv_aload_n hx hb dL_law_607 rfl (lv_at hl 3 rfl) ?_
        refine lv_iload_n hx hb dL_law_608 rfl (lv_at hl 0 rfl) ?_
        refine lv_iconst (v := 1) hx hb dL_law_609 (by decide) ?_
        refine lv_iadd hx hb dL_law_610 ?_
        rw [show (nI (6 * j) + 1 : Int32) = nI (6 * j + 1) from nI_add (6 * j) 1]
        refine va_sld hx hb hXs hbl hbA hS (vp_in_nI (n := 6 * j + 1) (by omega) (by omega)) dL_law_611 ?_
        refine lv_topi (fun a1 ea1 => ?_)
        refine lv_aload_n hx hb dL_law_612 rfl (lv_at hl 3 rfl) ?_
        refine lv_iload_n hx hb dL_law_613 rfl (lv_at hl 0 rfl) ?_
        refine lv_iconst (v := 2) hx hb dL_law_614 (by decide) ?_
        refine lv_iadd hx hb dL_law_615 ?_
        rw [show (nI (6 * j) + 2 : Int32) = nI (6 * j + 2) from nI_add (6 * j) 2]
        refine va_sld hx hb hXs hbl hbA hS (vp_in_nI (n := 6 * j + 2) (by omega) (by omega)) dL_law_616 ?_
        refine lv_topi (fun a2 ea2 => ?_)
        refine pl_Vi (S := S) (T := M) (As := [.int a1, .int a2]) (rest := []) F (fun A => b_X8_look l D cy A S qx a1 a2 hx8.1 hx8.2.1) (cwV 2 hts gL_law_X8_look rfl rfl rfl (by decide +kernel) ⟨Nat.le_of_ble_eq_true rfl, Nat.le_of_ble_eq_true rfl⟩) hK hZ hA hWx hWm hdj hS hx8.2.1 (by decide) rfl rfl hl.1 rfl (Nat.le_of_ble_eq_true rfl) dL_law_617 ⟨by show cl + 0 ≤ 600000; omega, by show sl + 0 ≤ 7302250; omega⟩ (fun r1 S1 H locs hp1 hWx hWm hdj hS => ?_)
        obtain ⟨eS1, hp1⟩ := hp1
        have px1 := Px.pu eS1 hx8.1
        refine lv_pop hx hb dL_law_620 rfl ?_
        refine lv_aload_n hx hb dL_law_621 rfl (lv_at hl 1 rfl) ?_
        refine lv_aload_n hx hb dL_law_622 rfl (lv_at hl 3 rfl) ?_
        refine lv_iload_n hx hb dL_law_623 rfl (lv_at hl 0 rfl) ?_
        refine lv_iconst (v := 1) hx hb dL_law_624 (by decide) ?_
        refine lv_iadd hx hb dL_law_625 ?_
        rw [show (nI (6 * j) + 1 : Int32) = nI (6 * j + 1) from nI_add (6 * j) 1]
        refine va_sld hx hb hXs hbl hbA hS (vp_in_nI (n := 6 * j + 1) (by omega) (by omega)) dL_law_626 ?_
        rw [← ea1]
        refine lv_aload_n hx hb dL_law_627 rfl (lv_at hl 3 rfl) ?_
        refine lv_iload_n hx hb dL_law_628 rfl (lv_at hl 0 rfl) ?_
        refine lv_iconst (v := 2) hx hb dL_law_629 (by decide) ?_
        refine lv_iadd hx hb dL_law_630 ?_
        rw [show (nI (6 * j) + 2 : Int32) = nI (6 * j + 2) from nI_add (6 * j) 2]
        refine va_sld hx hb hXs hbl hbA hS (vp_in_nI (n := 6 * j + 2) (by omega) (by omega)) dL_law_631 ?_
        rw [← ea2]
        refine pl_Vi (S := M) (T := S1) (As := [.int a1, .int a2]) (rest := []) F (fun A => b_X9_look l D cy A M qm a1 a2 hm9.1 hm9.2) (cwV 2 hts gL_law_X9_look rfl rfl rfl (by decide +kernel) ⟨Nat.le_of_ble_eq_true rfl, Nat.le_of_ble_eq_true rfl⟩) hK hZ hA hWm hWx (dj_s hdj) hS hm9.2 (by decide) rfl rfl hl.1 rfl (Nat.le_of_ble_eq_true rfl) dL_law_632 ⟨by show cl + 0 + 0 ≤ 600000; omega, by show sl + 0 + 0 ≤ 7302250; omega⟩ (fun r2 M1 H locs hp2 hWm hWx hdj hS => ?_)
        obtain ⟨eM1, hp2⟩ := hp2
        have pm1 := Px.pu eM1 hm9.1
        have hiv1 : Iv S1 M1 qx tp qm := (Iv.keep hiv px1 pm1 (by decide) (by decide) (by decide) (by decide) (by decide) (by decide))
        refine lv_pop hx hb dL_law_635 rfl ?_
        refine lv_goto (tgt := 761) hx hb dL_law_636 (by decide) ?_
        exact htail S1 M1 H locs ls _ _ (by omega) (by omega) hiv1 hWx hWm (dj_s hdj) hS hl
      by_cases k15 : op = 15
      · refine lv_tableIn (off := 606) (tgt := 639) hx hb dL_law_33 (by rw [k15]; decide) (by rw [k15]; decide) (by rw [k15]; rfl) (by decide) ?_
        refine lv_aload_n hx hb dL_law_639 rfl (lv_at hl 2 rfl) ?_
        refine lv_aload_n hx hb dL_law_640 rfl (lv_at hl 3 rfl) ?_
        refine lv_iload_n hx hb dL_law_641 rfl (lv_at hl 0 rfl) ?_
        refine lv_iconst (v := 1) hx hb dL_law_642 (by decide) ?_
        refine lv_iadd hx hb dL_law_643 ?_
        rw [show (nI (6 * j) + 1 : Int32) = nI (6 * j + 1) from nI_add (6 * j) 1]
        refine va_sld hx hb hXs hbl hbA hS (vp_in_nI (n := 6 * j + 1) (by omega) (by omega)) dL_law_644 ?_
        refine lv_topi (fun a1 ea1 => ?_)
        refine lv_aload_n hx hb dL_law_645 rfl (lv_at hl 3 rfl) ?_
        refine lv_iload_n hx hb dL_law_646 rfl (lv_at hl 0 rfl) ?_
        refine lv_iconst (v := 2) hx hb dL_law_647 (by decide) ?_
        refine lv_iadd hx hb dL_law_648 ?_
        rw [show (nI (6 * j) + 2 : Int32) = nI (6 * j + 2) from nI_add (6 * j) 2]
        refine va_sld hx hb hXs hbl hbA hS (vp_in_nI (n := 6 * j + 2) (by omega) (by omega)) dL_law_649 ?_
        refine lv_topi (fun a2 ea2 => ?_)
        refine pl_Vi (S := S) (T := M) (As := [.int a1, .int a2]) (rest := []) F (fun A => b_X8_at l D cy A S qx a1 a2 hx8.1 hx8.2.1) (cwV 2 hts gL_law_X8_at rfl rfl rfl (by decide +kernel) ⟨Nat.le_of_ble_eq_true rfl, Nat.le_of_ble_eq_true rfl⟩) hK hZ hA hWx hWm hdj hS hx8.2.1 (by decide) rfl rfl hl.1 rfl (Nat.le_of_ble_eq_true rfl) dL_law_650 ⟨by show cl + 0 ≤ 600000; omega, by show sl + 0 ≤ 7302250; omega⟩ (fun r1 S1 H locs hp1 hWx hWm hdj hS => ?_)
        obtain ⟨eS1, hp1⟩ := hp1
        have px1 := Px.pu eS1 hx8.1
        refine lv_pop hx hb dL_law_653 rfl ?_
        refine lv_aload_n hx hb dL_law_654 rfl (lv_at hl 1 rfl) ?_
        refine lv_aload_n hx hb dL_law_655 rfl (lv_at hl 3 rfl) ?_
        refine lv_iload_n hx hb dL_law_656 rfl (lv_at hl 0 rfl) ?_
        refine lv_iconst (v := 1) hx hb dL_law_657 (by decide) ?_
        refine lv_iadd hx hb dL_law_658 ?_
        rw [show (nI (6 * j) + 1 : Int32) = nI (6 * j + 1) from nI_add (6 * j) 1]
        refine va_sld hx hb hXs hbl hbA hS (vp_in_nI (n := 6 * j + 1) (by omega) (by omega)) dL_law_659 ?_
        rw [← ea1]
        refine lv_aload_n hx hb dL_law_660 rfl (lv_at hl 3 rfl) ?_
        refine lv_iload_n hx hb dL_law_661 rfl (lv_at hl 0 rfl) ?_
        refine lv_iconst (v := 2) hx hb dL_law_662 (by decide) ?_
        refine lv_iadd hx hb dL_law_663 ?_
        rw [show (nI (6 * j) + 2 : Int32) = nI (6 * j + 2) from nI_add (6 * j) 2]
        refine va_sld hx hb hXs hbl hbA hS (vp_in_nI (n := 6 * j + 2) (by omega) (by omega)) dL_law_664 ?_
        rw [← ea2]
        refine pl_Vi (S := M) (T := S1) (As := [.int a1, .int a2]) (rest := []) F (fun A => b_X9_at l D cy A M qm a1 a2 hm9.1 hm9.2) (cwV 2 hts gL_law_X9_at rfl rfl rfl (by decide +kernel) ⟨Nat.le_of_ble_eq_true rfl, Nat.le_of_ble_eq_true rfl⟩) hK hZ hA hWm hWx (dj_s hdj) hS hm9.2 (by decide) rfl rfl hl.1 rfl (Nat.le_of_ble_eq_true rfl) dL_law_665 ⟨by show cl + 0 + 0 ≤ 600000; omega, by show sl + 0 + 0 ≤ 7302250; omega⟩ (fun r2 M1 H locs hp2 hWm hWx hdj hS => ?_)
        obtain ⟨eM1, hp2⟩ := hp2
        have pm1 := Px.pu eM1 hm9.1
        have hiv1 : Iv S1 M1 qx tp qm := (Iv.keep hiv px1 pm1 (by decide) (by decide) (by decide) (by decide) (by decide) (by decide))
        refine lv_pop hx hb dL_law_668 rfl ?_
        refine lv_goto (tgt := 761) hx hb dL_law_669 (by decide) ?_
        exact htail S1 M1 H locs ls _ _ (by omega) (by omega) hiv1 hWx hWm (dj_s hdj) hS hl
      by_cases k16 : op = 16
      · refine lv_tableIn (off := 639) (tgt := 672) hx hb dL_law_33 (by rw [k16]; decide) (by rw [k16]; decide) (by rw [k16]; rfl) (by decide) ?_
        refine lv_aload_n hx hb dL_law_672 rfl (lv_at hl 2 rfl) ?_
        refine lv_aload_n hx hb dL_law_673 rfl (lv_at hl 3 rfl) ?_
        refine lv_iload_n hx hb dL_law_674 rfl (lv_at hl 0 rfl) ?_
        refine lv_iconst (v := 1) hx hb dL_law_675 (by decide) ?_
        refine lv_iadd hx hb dL_law_676 ?_
        rw [show (nI (6 * j) + 1 : Int32) = nI (6 * j + 1) from nI_add (6 * j) 1]
        refine va_sld hx hb hXs hbl hbA hS (vp_in_nI (n := 6 * j + 1) (by omega) (by omega)) dL_law_677 ?_
        refine lv_topi (fun a1 ea1 => ?_)
        refine lv_aload_n hx hb dL_law_678 rfl (lv_at hl 3 rfl) ?_
        refine lv_iload_n hx hb dL_law_679 rfl (lv_at hl 0 rfl) ?_
        refine lv_iconst (v := 2) hx hb dL_law_680 (by decide) ?_
        refine lv_iadd hx hb dL_law_681 ?_
        rw [show (nI (6 * j) + 2 : Int32) = nI (6 * j + 2) from nI_add (6 * j) 2]
        refine va_sld hx hb hXs hbl hbA hS (vp_in_nI (n := 6 * j + 2) (by omega) (by omega)) dL_law_682 ?_
        refine lv_topi (fun a2 ea2 => ?_)
        refine pl_Vi (S := S) (T := M) (As := [.int a1, .int a2]) (rest := []) F (fun A => b_X8_sheet l D cy A S qx a1 a2 hx8.1 hx8.2.1) (cwV 2 hts gL_law_X8_sheet rfl rfl rfl (by decide +kernel) ⟨Nat.le_of_ble_eq_true rfl, Nat.le_of_ble_eq_true rfl⟩) hK hZ hA hWx hWm hdj hS hx8.2.1 (by decide) rfl rfl hl.1 rfl (Nat.le_of_ble_eq_true rfl) dL_law_683 ⟨by show cl + 0 ≤ 600000; omega, by show sl + 0 ≤ 7302250; omega⟩ (fun r1 S1 H locs hp1 hWx hWm hdj hS => ?_)
        obtain ⟨eS1, hp1⟩ := hp1
        have px1 := Px.pu eS1 hx8.1
        refine lv_pop hx hb dL_law_686 rfl ?_
        refine lv_aload_n hx hb dL_law_687 rfl (lv_at hl 1 rfl) ?_
        refine lv_aload_n hx hb dL_law_688 rfl (lv_at hl 3 rfl) ?_
        refine lv_iload_n hx hb dL_law_689 rfl (lv_at hl 0 rfl) ?_
        refine lv_iconst (v := 1) hx hb dL_law_690 (by decide) ?_
        refine lv_iadd hx hb dL_law_691 ?_
        rw [show (nI (6 * j) + 1 : Int32) = nI (6 * j + 1) from nI_add (6 * j) 1]
        refine va_sld hx hb hXs hbl hbA hS (vp_in_nI (n := 6 * j + 1) (by omega) (by omega)) dL_law_692 ?_
        rw [← ea1]
        refine lv_aload_n hx hb dL_law_693 rfl (lv_at hl 3 rfl) ?_
        refine lv_iload_n hx hb dL_law_694 rfl (lv_at hl 0 rfl) ?_
        refine lv_iconst (v := 2) hx hb dL_law_695 (by decide) ?_
        refine lv_iadd hx hb dL_law_696 ?_
        rw [show (nI (6 * j) + 2 : Int32) = nI (6 * j + 2) from nI_add (6 * j) 2]
        refine va_sld hx hb hXs hbl hbA hS (vp_in_nI (n := 6 * j + 2) (by omega) (by omega)) dL_law_697 ?_
        rw [← ea2]
        refine pl_Vi (S := M) (T := S1) (As := [.int a1, .int a2]) (rest := []) F (fun A => b_X9_sheet l D cy A M qm a1 a2 hm9.1 hm9.2) (cwV 2 hts gL_law_X9_sheet rfl rfl rfl (by decide +kernel) ⟨Nat.le_of_ble_eq_true rfl, Nat.le_of_ble_eq_true rfl⟩) hK hZ hA hWm hWx (dj_s hdj) hS hm9.2 (by decide) rfl rfl hl.1 rfl (Nat.le_of_ble_eq_true rfl) dL_law_698 ⟨by show cl + 0 + 0 ≤ 600000; omega, by show sl + 0 + 0 ≤ 7302250; omega⟩ (fun r2 M1 H locs hp2 hWm hWx hdj hS => ?_)
        obtain ⟨eM1, hp2⟩ := hp2
        have pm1 := Px.pu eM1 hm9.1
        have hiv1 : Iv S1 M1 qx tp qm := (Iv.keep hiv px1 pm1 (by decide) (by decide) (by decide) (by decide) (by decide) (by decide))
        refine lv_pop hx hb dL_law_701 rfl ?_
        refine lv_goto (tgt := 761) hx hb dL_law_702 (by decide) ?_
        exact htail S1 M1 H locs ls _ _ (by omega) (by omega) hiv1 hWx hWm (dj_s hdj) hS hl
      by_cases k17 : op = 17
      · refine lv_tableIn (off := 672) (tgt := 705) hx hb dL_law_33 (by rw [k17]; decide) (by rw [k17]; decide) (by rw [k17]; rfl) (by decide) ?_
        refine lv_aload_n hx hb dL_law_705 rfl (lv_at hl 2 rfl) ?_
        refine lv_aload_n hx hb dL_law_706 rfl (lv_at hl 3 rfl) ?_
        refine lv_iload_n hx hb dL_law_707 rfl (lv_at hl 0 rfl) ?_
        refine lv_iconst (v := 1) hx hb dL_law_708 (by decide) ?_
        refine lv_iadd hx hb dL_law_709 ?_
        rw [show (nI (6 * j) + 1 : Int32) = nI (6 * j + 1) from nI_add (6 * j) 1]
        refine va_sld hx hb hXs hbl hbA hS (vp_in_nI (n := 6 * j + 1) (by omega) (by omega)) dL_law_710 ?_
        refine lv_topi (fun a1 ea1 => ?_)
        refine lv_aload_n hx hb dL_law_711 rfl (lv_at hl 3 rfl) ?_
        refine lv_iload_n hx hb dL_law_712 rfl (lv_at hl 0 rfl) ?_
        refine lv_iconst (v := 2) hx hb dL_law_713 (by decide) ?_
        refine lv_iadd hx hb dL_law_714 ?_
        rw [show (nI (6 * j) + 2 : Int32) = nI (6 * j + 2) from nI_add (6 * j) 2]
        refine va_sld hx hb hXs hbl hbA hS (vp_in_nI (n := 6 * j + 2) (by omega) (by omega)) dL_law_715 ?_
        refine lv_topi (fun a2 ea2 => ?_)
        refine pl_Vi (S := S) (T := M) (As := [.int a1, .int a2]) (rest := []) F (fun A => b_X8_club l D cy A S qx a1 a2 hx8.1 hx8.2.1) (cwV 2 hts gL_law_X8_club rfl rfl rfl (by decide +kernel) ⟨Nat.le_of_ble_eq_true rfl, Nat.le_of_ble_eq_true rfl⟩) hK hZ hA hWx hWm hdj hS hx8.2.1 (by decide) rfl rfl hl.1 rfl (Nat.le_of_ble_eq_true rfl) dL_law_716 ⟨by show cl + 0 ≤ 600000; omega, by show sl + 0 ≤ 7302250; omega⟩ (fun r1 S1 H locs hp1 hWx hWm hdj hS => ?_)
        obtain ⟨eS1, hp1⟩ := hp1
        have px1 := Px.pu eS1 hx8.1
        refine lv_pop hx hb dL_law_719 rfl ?_
        refine lv_aload_n hx hb dL_law_720 rfl (lv_at hl 1 rfl) ?_
        refine lv_aload_n hx hb dL_law_721 rfl (lv_at hl 3 rfl) ?_
        refine lv_iload_n hx hb dL_law_722 rfl (lv_at hl 0 rfl) ?_
        refine lv_iconst (v := 1) hx hb dL_law_723 (by decide) ?_
        refine lv_iadd hx hb dL_law_724 ?_
        rw [show (nI (6 * j) + 1 : Int32) = nI (6 * j + 1) from nI_add (6 * j) 1]
        refine va_sld hx hb hXs hbl hbA hS (vp_in_nI (n := 6 * j + 1) (by omega) (by omega)) dL_law_725 ?_
        rw [← ea1]
        refine lv_aload_n hx hb dL_law_726 rfl (lv_at hl 3 rfl) ?_
        refine lv_iload_n hx hb dL_law_727 rfl (lv_at hl 0 rfl) ?_
        refine lv_iconst (v := 2) hx hb dL_law_728 (by decide) ?_
        refine lv_iadd hx hb dL_law_729 ?_
        rw [show (nI (6 * j) + 2 : Int32) = nI (6 * j + 2) from nI_add (6 * j) 2]
        refine va_sld hx hb hXs hbl hbA hS (vp_in_nI (n := 6 * j + 2) (by omega) (by omega)) dL_law_730 ?_
        rw [← ea2]
        refine pl_Vi (S := M) (T := S1) (As := [.int a1, .int a2]) (rest := []) F (fun A => b_X9_club l D cy A M qm a1 a2 hm9.1 hm9.2) (cwV 2 hts gL_law_X9_club rfl rfl rfl (by decide +kernel) ⟨Nat.le_of_ble_eq_true rfl, Nat.le_of_ble_eq_true rfl⟩) hK hZ hA hWm hWx (dj_s hdj) hS hm9.2 (by decide) rfl rfl hl.1 rfl (Nat.le_of_ble_eq_true rfl) dL_law_731 ⟨by show cl + 0 + 0 ≤ 600000; omega, by show sl + 0 + 0 ≤ 7302250; omega⟩ (fun r2 M1 H locs hp2 hWm hWx hdj hS => ?_)
        obtain ⟨eM1, hp2⟩ := hp2
        have pm1 := Px.pu eM1 hm9.1
        have hiv1 : Iv S1 M1 qx tp qm := (Iv.keep hiv px1 pm1 (by decide) (by decide) (by decide) (by decide) (by decide) (by decide))
        refine lv_pop hx hb dL_law_734 rfl ?_
        refine lv_goto (tgt := 761) hx hb dL_law_735 (by decide) ?_
        exact htail S1 M1 H locs ls _ _ (by omega) (by omega) hiv1 hWx hWm (dj_s hdj) hS hl
      by_cases k18 : op = 18
      · refine lv_tableIn (off := 705) (tgt := 738) hx hb dL_law_33 (by rw [k18]; decide) (by rw [k18]; decide) (by rw [k18]; rfl) (by decide) ?_
        refine lv_aload_n hx hb dL_law_738 rfl (lv_at hl 2 rfl) ?_
        refine lv_aload_n hx hb dL_law_739 rfl (lv_at hl 3 rfl) ?_
        refine lv_iload_n hx hb dL_law_740 rfl (lv_at hl 0 rfl) ?_
        refine lv_iconst (v := 1) hx hb dL_law_741 (by decide) ?_
        refine lv_iadd hx hb dL_law_742 ?_
        rw [show (nI (6 * j) + 1 : Int32) = nI (6 * j + 1) from nI_add (6 * j) 1]
        refine va_sld hx hb hXs hbl hbA hS (vp_in_nI (n := 6 * j + 1) (by omega) (by omega)) dL_law_743 ?_
        refine lv_topi (fun a1 ea1 => ?_)
        refine pl_Vi (S := S) (T := M) (As := [.int a1]) (rest := []) F (fun A => b_X8_count l D cy A S qx a1 hx8.1 hx8.2.1) (cwV 1 hts gL_law_X8_count rfl rfl rfl (by decide +kernel) ⟨Nat.le_of_ble_eq_true rfl, Nat.le_of_ble_eq_true rfl⟩) hK hZ hA hWx hWm hdj hS hx8.2.1 (by decide) rfl rfl hl.1 rfl (Nat.le_of_ble_eq_true rfl) dL_law_744 ⟨by show cl + 0 ≤ 600000; omega, by show sl + 0 ≤ 7302250; omega⟩ (fun r1 S1 H locs hp1 hWx hWm hdj hS => ?_)
        obtain ⟨eS1, hp1⟩ := hp1
        have px1 := Px.pu eS1 hx8.1
        refine lv_pop hx hb dL_law_747 rfl ?_
        refine lv_aload_n hx hb dL_law_748 rfl (lv_at hl 1 rfl) ?_
        refine lv_aload_n hx hb dL_law_749 rfl (lv_at hl 3 rfl) ?_
        refine lv_iload_n hx hb dL_law_750 rfl (lv_at hl 0 rfl) ?_
        refine lv_iconst (v := 1) hx hb dL_law_751 (by decide) ?_
        refine lv_iadd hx hb dL_law_752 ?_
        rw [show (nI (6 * j) + 1 : Int32) = nI (6 * j + 1) from nI_add (6 * j) 1]
        refine va_sld hx hb hXs hbl hbA hS (vp_in_nI (n := 6 * j + 1) (by omega) (by omega)) dL_law_753 ?_
        rw [← ea1]
        refine pl_Vi (S := M) (T := S1) (As := [.int a1]) (rest := []) F (fun A => b_X9_count l D cy A M qm a1 hm9.1 hm9.2) (cwV 1 hts gL_law_X9_count rfl rfl rfl (by decide +kernel) ⟨Nat.le_of_ble_eq_true rfl, Nat.le_of_ble_eq_true rfl⟩) hK hZ hA hWm hWx (dj_s hdj) hS hm9.2 (by decide) rfl rfl hl.1 rfl (Nat.le_of_ble_eq_true rfl) dL_law_754 ⟨by show cl + 0 + 0 ≤ 600000; omega, by show sl + 0 + 0 ≤ 7302250; omega⟩ (fun r2 M1 H locs hp2 hWm hWx hdj hS => ?_)
        obtain ⟨eM1, hp2⟩ := hp2
        have pm1 := Px.pu eM1 hm9.1
        have hiv1 : Iv S1 M1 qx tp qm := (Iv.keep hiv px1 pm1 (by decide) (by decide) (by decide) (by decide) (by decide) (by decide))
        refine lv_pop hx hb dL_law_757 rfl ?_
        refine lv_goto (tgt := 761) hx hb dL_law_758 (by decide) ?_
        exact htail S1 M1 H locs ls _ _ (by omega) (by omega) hiv1 hWx hWm (dj_s hdj) hS hl
      refine lv_tableOut (tgt := 761) hx hb dL_law_33 (by have q0 := lv_neT k0 (a := 0) rfl; have q1 := lv_neT k1 (a := 1) rfl; have q2 := lv_neT k2 (a := 2) rfl; have q3 := lv_neT k3 (a := 3) rfl; have q4 := lv_neT k4 (a := 4) rfl; have q5 := lv_neT k5 (a := 5) rfl; have q6 := lv_neT k6 (a := 6) rfl; have q7 := lv_neT k7 (a := 7) rfl; have q8 := lv_neT k8 (a := 8) rfl; have q9 := lv_neT k9 (a := 9) rfl; have q10 := lv_neT k10 (a := 10) rfl; have q11 := lv_neT k11 (a := 11) rfl; have q12 := lv_neT k12 (a := 12) rfl; have q13 := lv_neT k13 (a := 13) rfl; have q14 := lv_neT k14 (a := 14) rfl; have q15 := lv_neT k15 (a := 15) rfl; have q16 := lv_neT k16 (a := 16) rfl; have q17 := lv_neT k17 (a := 17) rfl; have q18 := lv_neT k18 (a := 18) rfl; omega) (by decide) ?_
      exact htail S M H locs ls _ _ (by omega) (by omega) hiv hWx hWm hdj hS hl
  exact hloop _ 0 S M H locs ls _ _ (Nat.zero_le _) (by decide) (by decide) hiv (Nat.lt_succ_self _) hWx hWm (dj_s hdj) hS hl
