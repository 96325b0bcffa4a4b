theorem dj_s {S T : St} (h : Dj S T) : Dj T S := fun q h1 h2 => h q h2 h1
theorem tw_3 {P Q R : Prop} {u v a b d : Int32} (h1 : (u = a ∧ P) ∨ (u = b ∧ Q) ∨ (u = d ∧ R)) (h2 : (v = a ∧ P) ∨ (v = b ∧ Q) ∨ (v = d ∧ R)) (hPQ : ¬ (P ∧ Q)) (hPR : ¬ (P ∧ R)) (hQR : ¬ (Q ∧ R)) : u = v := by
  rcases h1 with ⟨e1, h1⟩ | ⟨e1, h1⟩ | ⟨e1, h1⟩
  · rcases h2 with ⟨e2, h2⟩ | ⟨e2, h2⟩ | ⟨e2, h2⟩
    · exact e1.trans e2.symm
    · exact (hPQ ⟨h1, h2⟩).elim
    · exact (hPR ⟨h1, h2⟩).elim
  · rcases h2 with ⟨e2, h2⟩ | ⟨e2, h2⟩ | ⟨e2, h2⟩
    · exact (hPQ ⟨h2, h1⟩).elim
    · exact e1.trans e2.symm
    · exact (hQR ⟨h1, h2⟩).elim
  · rcases h2 with ⟨e2, h2⟩ | ⟨e2, h2⟩ | ⟨e2, h2⟩
    · exact (hPR ⟨h2, h1⟩).elim
    · exact (hQR ⟨h2, h1⟩).elim
    · exact e1.trans e2.symm
set_option maxHeartbeats 8000000 in
set_option maxRecDepth 100000 in
/-- THE LAW, from its entry -/
theorem whole_start {p : Program} {e : Env} {s : State} {m : MethodId} {below : List Frame} {meth : Method} {c : Code} (l : Launch) {b L : Nat} {xs : Nat → Int32} (hL : L ≤ 6) (C0 : lw_At p s m meth c b L xs) : W p l e room_1 s m #[Value.ref b] below meth c s.heap [] 0 0 (lw_Z below #[Value.ref b] s) (entryFrame m ([Value.ref b] : List Value).toArray 4) := by
  obtain ⟨hx, hb, hr, hml, hown, hts0, hXs, hbl, hlocks, hgv⟩ := id C0
  have hts : ∀ w ∈ wsL_law, w.before #[Value.ref b] s = true := fun w h => hts0 w (wsL_law_in w h)
  obtain ⟨D, cy, hK⟩ := st_K hts0
  have hZ0 := st_Z hts0 hgv
  obtain ⟨A, eA⟩ : ∃ A : Nat → Prop, A = fun q : Nat => s.heap.size ≤ q := ⟨_, rfl⟩
  have hZ : ZS A s := by rw [eA]; exact hZ0
  have hA : ∀ q : Nat, s.heap.size ≤ q → A q := fun q h => by rw [eA]; exact h
  have hA2 : ∀ q : Nat, A q → s.heap.size ≤ q := fun q h => by rw [eA] at h; exact h
  have hbA : ¬ A b := fun h => absurd hbl (Nat.not_lt.mpr (hA2 b h))
  clear hZ0 eA
  have hb : c.code = cL_law := hb
  have hown : s.vm.findClass RL = some m.cls := hown
  have F : CallFix p m c cL_law 4 s #[Value.ref b] wsL_law RL := ⟨hx, hb, hml, hown, hts⟩
  have hS : va_S A s.heap s.heap [] := va_S.rf
  have hl := lv_entry ([.ref b]) (n := 4) (Nat.le_of_ble_eq_true rfl)
  rw [lg_entry_eq]
  generalize (lg_sl ([.ref b]) ++ List.replicate (4 - (lg_sl ([.ref b])).length) Slot.unset).toArray = ls at hl ⊢
  have hl : lv_has ls 4 [(0, .ref b)] := hl
  refine pg_new (S := S0_) (ci := 8) (C := RX8) (T := TX8) (N := 18) hx hb hts inlX8 tyX8 tyX8_ok hown (hts (.classLink RL 7 RX8) (by decide +kernel)) (hts (.instantiable RX8 18) (by decide +kernel)) (hts (.initialized RX8) (by decide +kernel)) hK (pw_0 D cy A s.heap) hS hA (by decide) rfl df_8 (Nat.le_of_ble_eq_true rfl) (Nat.le_of_ble_eq_true rfl) dL_law_0 (fun qx H hqx hW hS => ?_)
  refine lv_dup hx hb dL_law_3 rfl ?_
  refine pc_Iv (As := []) (rest := [.ref qx]) F (c_X8_init l D cy A (stN S0_ qx 8 0) qx (by rw [kN, if_pos rfl]) (by rw [iN, if_pos rfl]) (by rw [iN, if_pos rfl]) (by rw [iN, if_pos rfl]) (by rw [iN, if_pos rfl]) (by rw [iN, if_pos rfl]) (by rw [iN, if_pos rfl]) (by rw [iN, if_pos rfl]) (by rw [iN, if_pos rfl]) (by rw [iN, if_pos rfl])) (cwI 0 hts gL_law_X8_init rfl rfl rfl (hts (.initialized RX8) (by decide +kernel)) (hts (.methodLink RL 9 yX8_init) (by decide +kernel)) (hts (.instanceMethod yX8_init) (by decide +kernel)) rfl (by decide +kernel) ⟨Nat.le_of_ble_eq_true rfl, Nat.le_of_ble_eq_true rfl⟩) hK hZ hA hW hS rfl hl.1 rfl (Nat.le_of_ble_eq_true rfl) dL_law_4 ⟨Nat.le_of_ble_eq_true rfl, Nat.le_of_ble_eq_true rfl⟩ (fun S H locs hp hW hS => ?_)
  obtain ⟨-, hp⟩ := hp
  obtain ⟨i1, -, hp⟩ := hp
  obtain ⟨q1, -, hp⟩ := hp
  obtain ⟨w1, -, hp⟩ := hp
  obtain ⟨q2, -, hp⟩ := hp
  obtain ⟨w2, -, hp⟩ := hp
  obtain ⟨i2, -, hp⟩ := hp
  obtain ⟨q3, -, hp⟩ := hp
  obtain ⟨w3, -, hp⟩ := hp
  obtain ⟨q4, -, hp⟩ := hp
  obtain ⟨w4, -, hp⟩ := hp
  obtain ⟨rif, -, hp⟩ := hp
  obtain ⟨rg, -, hp⟩ := hp
  obtain ⟨ses, -, hp⟩ := hp
  obtain ⟨pr, -, hp⟩ := hp
  obtain ⟨tp, -, hp⟩ := hp
  obtain ⟨by_, -, hp⟩ := hp
  obtain ⟨rd, -, hp⟩ := hp
  obtain ⟨mo, -, hp⟩ := hp
  obtain ⟨mv, -, hp⟩ := hp
  obtain ⟨rw_, -, hp⟩ := hp
  obtain ⟨br, -, hp⟩ := hp
  obtain ⟨lf, -, hp⟩ := hp
  obtain ⟨pl, -, hp⟩ := hp
  obtain ⟨wa, -, hp⟩ := hp
  obtain ⟨pi, -, hp⟩ := hp
  obtain ⟨be, -, hp⟩ := hp
  obtain ⟨ro, -, hp⟩ := hp
  obtain ⟨x_0, x_1, x_2, x_3, x_4, x_5, x_6, x_7, x_8, x_9, x_10, x_11, x_12, x_13, x_14, x_15, x_16, x_17, x_18, x_19, x_20, x_21, x_22, x_23, x_24, x_25, x_26, x_27, x_28, x_29, x_30, x_31, x_32, x_33, x_34, x_35, x_36, x_37, x_38, x_39, x_40, x_41, x_42, x_43, x_44, x_45, x_46, x_47, x_48, x_49, x_50, x_51, x_52, x_53, x_54, x_55, x_56, x_57, x_58, x_59, x_60, x_61, x_62, x_63, x_64, x_65, x_66, x_67, x_68, x_69, x_70, x_71, x_72, x_73, x_74, x_75, x_76, x_77, x_78, x_79, x_80, x_81, x_82, x_83, x_84, x_85, x_86, x_87, x_88, x_89, x_90, x_91, x_92, x_93, x_94, x_95, x_96, x_97, x_98, x_99, x_100, x_101, x_102, x_103, x_104, x_105, x_106, x_107, x_108, x_109, x_110, x_111, x_112, x_113, x_114, x_115, x_116, x_117, x_118, x_119, x_120, x_121, x_122, x_123, x_124, x_125, x_126, x_127⟩ := hp
  refine lv_astore_n (lv' := [(1, .ref qx), (0, .ref b)]) hx hb dL_law_7 rfl hl (by decide) rfl (fun ls hl => ?_)
  refine pl_new (S := S0_) (T := S) (ci := 9) (C := RX9) (Tb := TX9) (N := 63) hx hb hts inlX9 tyX9 tyX9_ok hown (hts (.classLink RL 10 RX9) (by decide +kernel)) (hts (.instantiable RX9 63) (by decide +kernel)) (hts (.initialized RX9) (by decide +kernel)) hK (pw_0 D cy A H) S0_k hW hS hA (by decide) rfl df_9 (Nat.le_of_ble_eq_true rfl) (Nat.le_of_ble_eq_true rfl) dL_law_8 (fun qm H hWm hWx hdj hS => ?_)
  refine lv_dup hx hb dL_law_11 rfl ?_
  refine pl_Iv (S := stN S0_ qm 9 0) (T := S) (As := []) (rest := [.ref qm]) F (fun A => c_X9_init l D cy A (stN S0_ qm 9 0) qm (by rw [kN, if_pos rfl]) (by rw [iN, if_pos rfl]) (by rw [iN, if_pos rfl]) (by rw [iN, if_pos rfl]) (by rw [iN, if_pos rfl]) (by rw [iN, if_pos rfl]) (by rw [iN, if_pos rfl]) (by rw [iN, if_pos rfl]) (by rw [iN, if_pos rfl]) (by rw [iN, if_pos rfl]) (by rw [iN, if_pos rfl]) (by rw [iN, if_pos rfl]) (by rw [iN, if_pos rfl]) (by rw [iN, if_pos rfl]) (by rw [iN, if_pos rfl]) (by rw [iN, if_pos rfl]) (by rw [iN, if_pos rfl]) (by rw [iN, if_pos rfl]) (by rw [iN, if_pos rfl]) (by rw [iN, if_pos rfl]) (by rw [iN, if_pos rfl]) (by rw [iN, if_pos rfl]) (by rw [iN, if_pos rfl]) (by rw [iN, if_pos rfl]) (by rw [iN, if_pos rfl]) (by rw [iN, if_pos rfl])) (cwI 0 hts gL_law_X9_init rfl rfl rfl (hts (.initialized RX9) (by decide +kernel)) (hts (.methodLink RL 12 yX9_init) (by decide +kernel)) (hts (.instanceMethod yX9_init) (by decide +kernel)) rfl (by decide +kernel) ⟨Nat.le_of_ble_eq_true rfl, Nat.le_of_ble_eq_true rfl⟩) hK hZ hA hWm hWx hdj hS rfl hl.1 rfl (Nat.le_of_ble_eq_true rfl) dL_law_12 ⟨Nat.le_of_ble_eq_true rfl, Nat.le_of_ble_eq_true rfl⟩ (fun M H locs hp hWm hWx hdj hS => ?_)
  obtain ⟨-, hp⟩ := hp
  obtain ⟨m_tape, -, hp⟩ := hp
  obtain ⟨m_clocks, -, hp⟩ := hp
  obtain ⟨m_daysOf, -, hp⟩ := hp
  obtain ⟨m_kinds, -, hp⟩ := hp
  obtain ⟨m_limit, -, hp⟩ := hp
  obtain ⟨m_fee, -, hp⟩ := hp
  obtain ⟨m_hundredths, -, hp⟩ := hp
  obtain ⟨m_priceOf, -, hp⟩ := hp
  obtain ⟨m_thick, -, hp⟩ := hp
  obtain ⟨m_ruts, -, hp⟩ := hp
  obtain ⟨m_shaved, -, hp⟩ := hp
  obtain ⟨m_flooded, -, hp⟩ := hp
  obtain ⟨m_melted, -, hp⟩ := hp
  obtain ⟨m_cutShave, -, hp⟩ := hp
  obtain ⟨m_cutFlood, -, hp⟩ := hp
  obtain ⟨m_hasCut, -, hp⟩ := hp
  obtain ⟨m_clubOf, -, hp⟩ := hp
  obtain ⟨m_kindOf, -, hp⟩ := hp
  obtain ⟨m_sheetOf, -, hp⟩ := hp
  obtain ⟨m_hourOf, -, hp⟩ := hp
  obtain ⟨m_state, -, hp⟩ := hp
  obtain ⟨m_why, -, hp⟩ := hp
  obtain ⟨m_feeOf, -, hp⟩ := hp
  obtain ⟨m_partOf, -, hp⟩ := hp
  obtain ⟨m_moved, -, hp⟩ := hp
  obtain ⟨m_closedSheet, -, hp⟩ := hp
  obtain ⟨m_closedFrom, -, hp⟩ := hp
  obtain ⟨m_closedTo, -, hp⟩ := hp
  obtain ⟨m_out, -, hp⟩ := hp
  obtain ⟨m_way, -, hp⟩ := hp
  obtain ⟨m_best, -, hp⟩ := hp
  obtain ⟨m_wayHour, -, hp⟩ := hp
  obtain ⟨m_wants, -, hp⟩ := hp
  obtain ⟨m_row, -, hp⟩ := hp
  obtain ⟨m_bestRow, -, hp⟩ := hp
  obtain ⟨m_told, -, hp⟩ := hp
  obtain ⟨m_share, -, hp⟩ := hp
  obtain ⟨m_over, -, hp⟩ := hp
  obtain ⟨y_0, y_1, y_2, y_3, y_4, y_5, y_6, y_7, y_8, y_9, y_10, y_11, y_12, y_13, y_14, y_15, y_16, y_17, y_18, y_19, y_20, y_21, y_22, y_23, y_24, y_25, y_26, y_27, y_28, y_29, y_30, y_31, y_32, y_33, y_34, y_35, y_36, y_37, y_38, y_39, y_40, y_41, y_42, y_43, y_44, y_45, y_46, y_47, y_48, y_49, y_50, y_51, y_52, y_53, y_54, y_55, y_56, y_57, y_58, y_59, y_60, y_61, y_62, y_63, y_64, y_65, y_66, y_67, y_68, y_69, y_70, y_71, y_72, y_73, y_74, y_75, y_76, y_77, y_78, y_79, y_80, y_81, y_82, y_83, y_84, y_85, y_86, y_87, y_88, y_89, y_90, y_91, y_92, y_93, y_94, y_95, y_96, y_97, y_98, y_99, y_100, y_101, y_102, y_103, y_104, y_105, y_106, y_107, y_108, y_109, y_110, y_111, y_112, y_113, y_114, y_115, y_116, y_117, y_118, y_119, y_120, y_121, y_122, y_123, y_124, y_125, y_126, y_127, y_128, y_129, y_130, y_131, y_132, y_133, y_134, y_135, y_136, y_137, y_138, y_139, y_140, y_141, y_142, y_143, y_144, y_145, y_146, y_147, y_148, y_149, y_150, y_151, y_152, y_153, y_154, y_155, y_156, y_157, y_158, y_159, y_160⟩ := hp
  refine lv_astore_n (lv' := [(2, .ref qm), (1, .ref qx), (0, .ref b)]) hx hb dL_law_15 rfl hl (by decide) rfl (fun ls hl => ?_)
  refine lv_iconst (v := 0) hx hb dL_law_16 (by decide) ?_
  refine lv_istore_n (lv' := [(3, .int 0), (2, .ref qm), (1, .ref qx), (0, .ref b)]) hx hb dL_law_17 rfl hl (by decide) rfl (fun ls hl => ?_)
  have hend : ∀ (H : Heap) (locs : List Loc) (ls : Array Slot) (cl sl : Nat), cl ≤ 600000 → sl ≤ 7302250 → va_S A s.heap H locs → W p l e room_1 s m #[Value.ref b] below meth c H locs cl sl (lw_Z below #[Value.ref b] s) (F0 m 767 ls []) := by
    intro H locs ls cl sl h1 h2 hS
    refine lv_iconst (v := 1) hx hb dL_law_767 (by decide) ?_
    refine va_forget (fun q hq => hA2 _ (hS.2.2 q hq)) ?_
    refine W.widen (k := 600000) (n := 7302250) h1 h2 ?_
    exact lw_ret hx hb hr hlocks dL_law_768
  refine lv_iload_n hx hb dL_law_18 rfl (lv_at hl 0 rfl) ?_
  refine lv_aload_n hx hb dL_law_19 rfl (lv_at hl 3 rfl) ?_
  refine va_slen hx hb hXs hbl hbA hS dL_law_20 ?_
  refine lv_bipush (v := 6) hx hb dL_law_21 (by decide) ?_
  refine lv_isub hx hb dL_law_23 ?_
  rcases Nat.lt_or_ge L 6 with hL6 | hL6
  · refine lv_icmp_gt (tgt := 767) hx hb dL_law_24 (by decide) (fun _ => ?_) (fun c1 => absurd (pk_sneg (a := L) (b := 6) (by decide) hL6) c1)
    exact hend H locs ls _ _ (by decide) (by decide) hS
  have hL7 : L = 6 := Nat.le_antisymm hL hL6
  subst hL7
  refine lv_icmp_gt (tgt := 767) hx hb dL_law_24 (by decide) (fun c1 => absurd c1 (by decide)) (fun _ => ?_)
  have htail : ∀ (H : Heap) (locs : List Loc) (ls : Array Slot) (cl sl : Nat), cl ≤ 600000 → sl ≤ 7302250 → va_S A s.heap H locs → lv_has ls 4 [(3, .int 0), (2, .ref qm), (1, .ref qx), (0, .ref b)] → W p l e room_1 s m #[Value.ref b] below meth c H locs cl sl (lw_Z below #[Value.ref b] s) (F0 m 761 ls []) := by
    intro H locs ls cl sl h1 h2 hS hl
    refine lv_iinc (v := 6) (lv' := [(3, .int 6), (2, .ref qm), (1, .ref qx), (0, .ref b)]) hx hb dL_law_761 hl (k := 0) rfl (by decide) (by decide) rfl (fun ls hl => ?_)
    refine lv_goto (tgt := 18) hx hb dL_law_764 (by decide) ?_
    refine lv_iload_n hx hb dL_law_18 rfl (lv_at hl 0 rfl) ?_
    refine lv_aload_n hx hb dL_law_19 rfl (lv_at hl 3 rfl) ?_
    refine va_slen hx hb hXs hbl hbA hS dL_law_20 ?_
    refine lv_bipush (v := 6) hx hb dL_law_21 (by decide) ?_
    refine lv_isub hx hb dL_law_23 ?_
    refine lv_icmp_gt (tgt := 767) hx hb dL_law_24 (by decide) (fun _ => hend H locs ls cl sl h1 h2 hS) (fun c1 => absurd (by decide) c1)
  refine lv_aload_n hx hb dL_law_27 rfl (lv_at hl 3 rfl) ?_
  refine lv_iload_n hx hb dL_law_28 rfl (lv_at hl 0 rfl) ?_
  refine va_sld hx hb hXs hbl hbA hS (vp_in_nI (n := 0) (by decide) (by decide)) dL_law_29 ?_
  refine lv_bipush (v := 31) hx hb dL_law_30 (by decide) ?_
  refine lv_iand hx hb dL_law_32 ?_
  refine lv_topi (fun op eop => ?_)
  by_cases k0 : op = 0
  · refine lv_tableIn (off := 91) (tgt := 124) hx hb dL_law_33 (by rw [k0]; decide) (by rw [k0]; decide) (by rw [k0]; rfl) (by decide) ?_
    refine lv_aload_n hx hb dL_law_124 rfl (lv_at hl 2 rfl) ?_
    refine lv_aload_n hx hb dL_law_125 rfl (lv_at hl 3 rfl) ?_
    refine lv_iload_n hx hb dL_law_126 rfl (lv_at hl 0 rfl) ?_
    refine lv_iconst (v := 1) hx hb dL_law_127 (by decide) ?_
    refine lv_iadd hx hb dL_law_128 ?_
    rw [show (0 + 1 : Int32) = 1 from by decide]
    refine va_sld hx hb hXs hbl hbA hS (vp_in_nI (n := 1) (by decide) (by decide)) dL_law_129 ?_
    refine lv_aload_n hx hb dL_law_130 rfl (lv_at hl 3 rfl) ?_
    refine lv_iload_n hx hb dL_law_131 rfl (lv_at hl 0 rfl) ?_
    refine lv_iconst (v := 2) hx hb dL_law_132 (by decide) ?_
    refine lv_iadd hx hb dL_law_133 ?_
    rw [show (0 + 2 : Int32) = 2 from by decide]
    refine va_sld hx hb hXs hbl hbA hS (vp_in_nI (n := 2) (by decide) (by decide)) dL_law_134 ?_
    refine lv_aload_n hx hb dL_law_135 rfl (lv_at hl 3 rfl) ?_
    refine lv_iload_n hx hb dL_law_136 rfl (lv_at hl 0 rfl) ?_
    refine lv_iconst (v := 3) hx hb dL_law_137 (by decide) ?_
    refine lv_iadd hx hb dL_law_138 ?_
    rw [show (0 + 3 : Int32) = 3 from by decide]
    refine va_sld hx hb hXs hbl hbA hS (vp_in_nI (n := 3) (by decide) (by decide)) dL_law_139 ?_
    refine lv_aload_n hx hb dL_law_140 rfl (lv_at hl 3 rfl) ?_
    refine lv_iload_n hx hb dL_law_141 rfl (lv_at hl 0 rfl) ?_
    refine lv_iconst (v := 4) hx hb dL_law_142 (by decide) ?_
    refine lv_iadd hx hb dL_law_143 ?_
    rw [show (0 + 4 : Int32) = 4 from by decide]
    refine va_sld hx hb hXs hbl hbA hS (vp_in_nI (n := 4) (by decide) (by decide)) dL_law_144 ?_
    refine lv_aload_n hx hb dL_law_145 rfl (lv_at hl 3 rfl) ?_
    refine lv_iload_n hx hb dL_law_146 rfl (lv_at hl 0 rfl) ?_
    refine lv_iconst (v := 5) hx hb dL_law_147 (by decide) ?_
    refine lv_iadd hx hb dL_law_148 ?_
    rw [show (0 + 5 : Int32) = 5 from by decide]
    refine va_sld hx hb hXs hbl hbA hS (vp_in_nI (n := 5) (by decide) (by decide)) dL_law_149 ?_
    refine pl_Vi (S := S) (T := M) (As := [.int (xs (Int32.toNatClampNeg 1)), .int (xs (Int32.toNatClampNeg 2)), .int (xs (Int32.toNatClampNeg 3)), .int (xs (Int32.toNatClampNeg 4)), .int (xs (Int32.toNatClampNeg 5))]) (rest := []) F (fun A => c_X8_feed l D cy A S qx tp by_ (xs (Int32.toNatClampNeg 1)) (xs (Int32.toNatClampNeg 2)) (xs (Int32.toNatClampNeg 3)) (xs (Int32.toNatClampNeg 4)) (xs (Int32.toNatClampNeg 5)) x_0 x_6 x_60 x_61 x_62 x_63 x_64 x_113 x_114 x_115 x_116 x_117 x_118 x_119 x_120 x_121) (cwV 5 hts gL_law_X8_feed rfl rfl rfl (by decide +kernel) ⟨Nat.le_of_ble_eq_true rfl, Nat.le_of_ble_eq_true rfl⟩) hK hZ hA hWx hWm (dj_s hdj) hS x_0 (by decide) rfl rfl hl.1 rfl (Nat.le_of_ble_eq_true rfl) dL_law_150 ⟨Nat.le_of_ble_eq_true rfl, Nat.le_of_ble_eq_true rfl⟩ (fun r1 S1 H locs hp1 hWx hWm hdj hS => ?_)
    refine lv_aload_n hx hb dL_law_153 rfl (lv_at hl 1 rfl) ?_
    refine lv_aload_n hx hb dL_law_154 rfl (lv_at hl 3 rfl) ?_
    refine lv_iload_n hx hb dL_law_155 rfl (lv_at hl 0 rfl) ?_
    refine lv_iconst (v := 1) hx hb dL_law_156 (by decide) ?_
    refine lv_iadd hx hb dL_law_157 ?_
    rw [show (0 + 1 : Int32) = 1 from by decide]
    refine va_sld hx hb hXs hbl hbA hS (vp_in_nI (n := 1) (by decide) (by decide)) dL_law_158 ?_
    refine lv_aload_n hx hb dL_law_159 rfl (lv_at hl 3 rfl) ?_
    refine lv_iload_n hx hb dL_law_160 rfl (lv_at hl 0 rfl) ?_
    refine lv_iconst (v := 2) hx hb dL_law_161 (by decide) ?_
    refine lv_iadd hx hb dL_law_162 ?_
    rw [show (0 + 2 : Int32) = 2 from by decide]
    refine va_sld hx hb hXs hbl hbA hS (vp_in_nI (n := 2) (by decide) (by decide)) dL_law_163 ?_
    refine lv_aload_n hx hb dL_law_164 rfl (lv_at hl 3 rfl) ?_
    refine lv_iload_n hx hb dL_law_165 rfl (lv_at hl 0 rfl) ?_
    refine lv_iconst (v := 3) hx hb dL_law_166 (by decide) ?_
    refine lv_iadd hx hb dL_law_167 ?_
    rw [show (0 + 3 : Int32) = 3 from by decide]
    refine va_sld hx hb hXs hbl hbA hS (vp_in_nI (n := 3) (by decide) (by decide)) dL_law_168 ?_
    refine lv_aload_n hx hb dL_law_169 rfl (lv_at hl 3 rfl) ?_
    refine lv_iload_n hx hb dL_law_170 rfl (lv_at hl 0 rfl) ?_
    refine lv_iconst (v := 4) hx hb dL_law_171 (by decide) ?_
    refine lv_iadd hx hb dL_law_172 ?_
    rw [show (0 + 4 : Int32) = 4 from by decide]
    refine va_sld hx hb hXs hbl hbA hS (vp_in_nI (n := 4) (by decide) (by decide)) dL_law_173 ?_
    refine lv_aload_n hx hb dL_law_174 rfl (lv_at hl 3 rfl) ?_
    refine lv_iload_n hx hb dL_law_175 rfl (lv_at hl 0 rfl) ?_
    refine lv_iconst (v := 5) hx hb dL_law_176 (by decide) ?_
    refine lv_iadd hx hb dL_law_177 ?_
    rw [show (0 + 5 : Int32) = 5 from by decide]
    refine va_sld hx hb hXs hbl hbA hS (vp_in_nI (n := 5) (by decide) (by decide)) dL_law_178 ?_
    refine pl_Vi (S := M) (T := S1) (As := [.int (xs (Int32.toNatClampNeg 1)), .int (xs (Int32.toNatClampNeg 2)), .int (xs (Int32.toNatClampNeg 3)), .int (xs (Int32.toNatClampNeg 4)), .int (xs (Int32.toNatClampNeg 5))]) (rest := [.int r1]) F (fun A => c_X9_feed l D cy A M qm m_tape (xs (Int32.toNatClampNeg 1)) (xs (Int32.toNatClampNeg 2)) (xs (Int32.toNatClampNeg 3)) (xs (Int32.toNatClampNeg 4)) (xs (Int32.toNatClampNeg 5)) y_0 y_1 y_2 y_3 y_130) (cwV 5 hts gL_law_X9_feed rfl rfl rfl (by decide +kernel) ⟨Nat.le_of_ble_eq_true rfl, Nat.le_of_ble_eq_true rfl⟩) hK hZ hA hWm hWx (dj_s hdj) hS y_0 (by decide) rfl rfl hl.1 rfl (Nat.le_of_ble_eq_true rfl) dL_law_179 ⟨Nat.le_of_ble_eq_true rfl, Nat.le_of_ble_eq_true rfl⟩ (fun r2 M1 H locs hp2 hWm hWx hdj hS => ?_)
    exact lv_icmp_eq (tgt := 761) hx hb dL_law_182 (by decide) (fun _ => htail H locs ls _ _ (by decide) (by decide) hS hl) (fun c1 => absurd (hp1.trans hp2.symm) c1)
  by_cases k1 : op = 1
  · refine lv_tableIn (off := 154) (tgt := 187) hx hb dL_law_33 (by rw [k1]; decide) (by rw [k1]; decide) (by rw [k1]; rfl) (by decide) ?_
    refine lv_aload_n hx hb dL_law_187 rfl (lv_at hl 2 rfl) ?_
    refine lv_aload_n hx hb dL_law_188 rfl (lv_at hl 3 rfl) ?_
    refine lv_iload_n hx hb dL_law_189 rfl (lv_at hl 0 rfl) ?_
    refine lv_iconst (v := 1) hx hb dL_law_190 (by decide) ?_
    refine lv_iadd hx hb dL_law_191 ?_
    rw [show (0 + 1 : Int32) = 1 from by decide]
    refine va_sld hx hb hXs hbl hbA hS (vp_in_nI (n := 1) (by decide) (by decide)) dL_law_192 ?_
    refine lv_aload_n hx hb dL_law_193 rfl (lv_at hl 3 rfl) ?_
    refine lv_iload_n hx hb dL_law_194 rfl (lv_at hl 0 rfl) ?_
    refine lv_iconst (v := 2) hx hb dL_law_195 (by decide) ?_
    refine lv_iadd hx hb dL_law_196 ?_
    rw [show (0 + 2 : Int32) = 2 from by decide]
    refine va_sld hx hb hXs hbl hbA hS (vp_in_nI (n := 2) (by decide) (by decide)) dL_law_197 ?_
    refine pl_Vi (S := S) (T := M) (As := [.int (xs (Int32.toNatClampNeg 1)), .int (xs (Int32.toNatClampNeg 2))]) (rest := []) F (fun A => c_X8_rights l D cy A S qx tp rd rif (xs (Int32.toNatClampNeg 1)) (xs (Int32.toNatClampNeg 2)) x_0 x_3 x_6 x_7 x_52 x_53 x_60 x_64 x_65 x_66 x_113 x_114 x_115 x_116 x_117 x_118 x_119 x_120 x_121) (cwV 2 hts gL_law_X8_rights rfl rfl rfl (by decide +kernel) ⟨Nat.le_of_ble_eq_true rfl, Nat.le_of_ble_eq_true rfl⟩) hK hZ hA hWx hWm (dj_s hdj) hS x_0 (by decide) rfl rfl hl.1 rfl (Nat.le_of_ble_eq_true rfl) dL_law_198 ⟨Nat.le_of_ble_eq_true rfl, Nat.le_of_ble_eq_true rfl⟩ (fun r1 S1 H locs hp1 hWx hWm hdj hS => ?_)
    refine lv_aload_n hx hb dL_law_201 rfl (lv_at hl 1 rfl) ?_
    refine lv_aload_n hx hb dL_law_202 rfl (lv_at hl 3 rfl) ?_
    refine lv_iload_n hx hb dL_law_203 rfl (lv_at hl 0 rfl) ?_
    refine lv_iconst (v := 1) hx hb dL_law_204 (by decide) ?_
    refine lv_iadd hx hb dL_law_205 ?_
    rw [show (0 + 1 : Int32) = 1 from by decide]
    refine va_sld hx hb hXs hbl hbA hS (vp_in_nI (n := 1) (by decide) (by decide)) dL_law_206 ?_
    refine lv_aload_n hx hb dL_law_207 rfl (lv_at hl 3 rfl) ?_
    refine lv_iload_n hx hb dL_law_208 rfl (lv_at hl 0 rfl) ?_
    refine lv_iconst (v := 2) hx hb dL_law_209 (by decide) ?_
    refine lv_iadd hx hb dL_law_210 ?_
    rw [show (0 + 2 : Int32) = 2 from by decide]
    refine va_sld hx hb hXs hbl hbA hS (vp_in_nI (n := 2) (by decide) (by decide)) dL_law_211 ?_
    refine pl_Vi (S := M) (T := S1) (As := [.int (xs (Int32.toNatClampNeg 1)), .int (xs (Int32.toNatClampNeg 2))]) (rest := [.int r1]) F (fun A => c_X9_rights l D cy A M qm (xs (Int32.toNatClampNeg 1)) (xs (Int32.toNatClampNeg 2)) y_0 y_130) (cwV 2 hts gL_law_X9_rights rfl rfl rfl (by decide +kernel) ⟨Nat.le_of_ble_eq_true rfl, Nat.le_of_ble_eq_true rfl⟩) hK hZ hA hWm hWx (dj_s hdj) hS y_0 (by decide) rfl rfl hl.1 rfl (Nat.le_of_ble_eq_true rfl) dL_law_212 ⟨Nat.le_of_ble_eq_true rfl, Nat.le_of_ble_eq_true rfl⟩ (fun r2 M1 H locs hp2 hWm hWx hdj hS => ?_)
    exact lv_icmp_eq (tgt := 761) hx hb dL_law_215 (by decide) (fun _ => htail H locs ls _ _ (by decide) (by decide) hS hl) (fun c1 => absurd (tw_ hp1 hp2) c1)
  by_cases k2 : op = 2
  · refine lv_tableIn (off := 187) (tgt := 220) hx hb dL_law_33 (by rw [k2]; decide) (by rw [k2]; decide) (by rw [k2]; rfl) (by decide) ?_
    refine lv_aload_n hx hb dL_law_220 rfl (lv_at hl 2 rfl) ?_
    refine lv_aload_n hx hb dL_law_221 rfl (lv_at hl 3 rfl) ?_
    refine lv_iload_n hx hb dL_law_222 rfl (lv_at hl 0 rfl) ?_
    refine lv_iconst (v := 1) hx hb dL_law_223 (by decide) ?_
    refine lv_iadd hx hb dL_law_224 ?_
    rw [show (0 + 1 : Int32) = 1 from by decide]
    refine va_sld hx hb hXs hbl hbA hS (vp_in_nI (n := 1) (by decide) (by decide)) dL_law_225 ?_
    refine pl_Vi (S := S) (T := M) (As := [.int (xs (Int32.toNatClampNeg 1))]) (rest := []) F (fun A => c_X8_most l D cy A S qx (xs (Int32.toNatClampNeg 1)) x_0 x_113 x_114 x_115 x_116 x_117 x_118 x_119 x_120 x_121) (cwV 1 hts gL_law_X8_most rfl rfl rfl (by decide +kernel) ⟨Nat.le_of_ble_eq_true rfl, Nat.le_of_ble_eq_true rfl⟩) hK hZ hA hWx hWm (dj_s hdj) hS x_0 (by decide) rfl rfl hl.1 rfl (Nat.le_of_ble_eq_true rfl) dL_law_226 ⟨Nat.le_of_ble_eq_true rfl, Nat.le_of_ble_eq_true rfl⟩ (fun r1 S1 H locs hp1 hWx hWm hdj hS => ?_)
    refine lv_aload_n hx hb dL_law_229 rfl (lv_at hl 1 rfl) ?_
    refine lv_aload_n hx hb dL_law_230 rfl (lv_at hl 3 rfl) ?_
    refine lv_iload_n hx hb dL_law_231 rfl (lv_at hl 0 rfl) ?_
    refine lv_iconst (v := 1) hx hb dL_law_232 (by decide) ?_
    refine lv_iadd hx hb dL_law_233 ?_
    rw [show (0 + 1 : Int32) = 1 from by decide]
    refine va_sld hx hb hXs hbl hbA hS (vp_in_nI (n := 1) (by decide) (by decide)) dL_law_234 ?_
    refine pl_Vi (S := M) (T := S1) (As := [.int (xs (Int32.toNatClampNeg 1))]) (rest := [.int r1]) F (fun A => c_X9_most l D cy A M qm (xs (Int32.toNatClampNeg 1)) y_0) (cwV 1 hts gL_law_X9_most rfl rfl rfl (by decide +kernel) ⟨Nat.le_of_ble_eq_true rfl, Nat.le_of_ble_eq_true rfl⟩) hK hZ hA hWm hWx (dj_s hdj) hS y_0 (by decide) rfl rfl hl.1 rfl (Nat.le_of_ble_eq_true rfl) dL_law_235 ⟨Nat.le_of_ble_eq_true rfl, Nat.le_of_ble_eq_true rfl⟩ (fun r2 M1 H locs hp2 hWm hWx hdj hS => ?_)
    exact lv_icmp_eq (tgt := 761) hx hb dL_law_238 (by decide) (fun _ => htail H locs ls _ _ (by decide) (by decide) hS hl) (fun c1 => absurd (tw_i hp1 hp2) c1)
  by_cases k3 : op = 3
  · refine lv_tableIn (off := 210) (tgt := 243) hx hb dL_law_33 (by rw [k3]; decide) (by rw [k3]; decide) (by rw [k3]; rfl) (by decide) ?_
    refine lv_aload_n hx hb dL_law_243 rfl (lv_at hl 2 rfl) ?_
    refine lv_aload_n hx hb dL_law_244 rfl (lv_at hl 3 rfl) ?_
    refine lv_iload_n hx hb dL_law_245 rfl (lv_at hl 0 rfl) ?_
    refine lv_iconst (v := 1) hx hb dL_law_246 (by decide) ?_
    refine lv_iadd hx hb dL_law_247 ?_
    rw [show (0 + 1 : Int32) = 1 from by decide]
    refine va_sld hx hb hXs hbl hbA hS (vp_in_nI (n := 1) (by decide) (by decide)) dL_law_248 ?_
    refine pl_Vi (S := S) (T := M) (As := [.int (xs (Int32.toNatClampNeg 1))]) (rest := []) F (fun A => c_X8_compressors l D cy A S qx (xs (Int32.toNatClampNeg 1)) x_0 x_113 x_114 x_115 x_116 x_117 x_118 x_119 x_120 x_121) (cwV 1 hts gL_law_X8_compressors rfl rfl rfl (by decide +kernel) ⟨Nat.le_of_ble_eq_true rfl, Nat.le_of_ble_eq_true rfl⟩) hK hZ hA hWx hWm (dj_s hdj) hS x_0 (by decide) rfl rfl hl.1 rfl (Nat.le_of_ble_eq_true rfl) dL_law_249 ⟨Nat.le_of_ble_eq_true rfl, Nat.le_of_ble_eq_true rfl⟩ (fun r1 S1 H locs hp1 hWx hWm hdj hS => ?_)
    refine lv_aload_n hx hb dL_law_252 rfl (lv_at hl 1 rfl) ?_
    refine lv_aload_n hx hb dL_law_253 rfl (lv_at hl 3 rfl) ?_
    refine lv_iload_n hx hb dL_law_254 rfl (lv_at hl 0 rfl) ?_
    refine lv_iconst (v := 1) hx hb dL_law_255 (by decide) ?_
    refine lv_iadd hx hb dL_law_256 ?_
    rw [show (0 + 1 : Int32) = 1 from by decide]
    refine va_sld hx hb hXs hbl hbA hS (vp_in_nI (n := 1) (by decide) (by decide)) dL_law_257 ?_
    refine pl_Vi (S := M) (T := S1) (As := [.int (xs (Int32.toNatClampNeg 1))]) (rest := [.int r1]) F (fun A => c_X9_compressors l D cy A M qm (xs (Int32.toNatClampNeg 1)) y_0) (cwV 1 hts gL_law_X9_compressors rfl rfl rfl (by decide +kernel) ⟨Nat.le_of_ble_eq_true rfl, Nat.le_of_ble_eq_true rfl⟩) hK hZ hA hWm hWx (dj_s hdj) hS y_0 (by decide) rfl rfl hl.1 rfl (Nat.le_of_ble_eq_true rfl) dL_law_258 ⟨Nat.le_of_ble_eq_true rfl, Nat.le_of_ble_eq_true rfl⟩ (fun r2 M1 H locs hp2 hWm hWx hdj hS => ?_)
    exact lv_icmp_eq (tgt := 761) hx hb dL_law_261 (by decide) (fun _ => htail H locs ls _ _ (by decide) (by decide) hS hl) (fun c1 => absurd (tw_i hp1 hp2) c1)
  by_cases k4 : op = 4
  · refine lv_tableIn (off := 233) (tgt := 266) hx hb dL_law_33 (by rw [k4]; decide) (by rw [k4]; decide) (by rw [k4]; rfl) (by decide) ?_
    refine lv_aload_n hx hb dL_law_266 rfl (lv_at hl 2 rfl) ?_
    refine lv_aload_n hx hb dL_law_267 rfl (lv_at hl 3 rfl) ?_
    refine lv_iload_n hx hb dL_law_268 rfl (lv_at hl 0 rfl) ?_
    refine lv_iconst (v := 1) hx hb dL_law_269 (by decide) ?_
    refine lv_iadd hx hb dL_law_270 ?_
    rw [show (0 + 1 : Int32) = 1 from by decide]
    refine va_sld hx hb hXs hbl hbA hS (vp_in_nI (n := 1) (by decide) (by decide)) dL_law_271 ?_
    refine lv_aload_n hx hb dL_law_272 rfl (lv_at hl 3 rfl) ?_
    refine lv_iload_n hx hb dL_law_273 rfl (lv_at hl 0 rfl) ?_
    refine lv_iconst (v := 2) hx hb dL_law_274 (by decide) ?_
    refine lv_iadd hx hb dL_law_275 ?_
    rw [show (0 + 2 : Int32) = 2 from by decide]
    refine va_sld hx hb hXs hbl hbA hS (vp_in_nI (n := 2) (by decide) (by decide)) dL_law_276 ?_
    refine pl_Vi (S := S) (T := M) (As := [.int (xs (Int32.toNatClampNeg 1)), .int (xs (Int32.toNatClampNeg 2))]) (rest := []) F (fun A => c_X8_price l D cy A S qx pr (xs (Int32.toNatClampNeg 1)) (xs (Int32.toNatClampNeg 2)) x_0 x_5 x_57 x_58 x_59 x_113 x_114 x_115 x_116 x_117 x_118 x_119 x_120 x_121) (cwV 2 hts gL_law_X8_price rfl rfl rfl (by decide +kernel) ⟨Nat.le_of_ble_eq_true rfl, Nat.le_of_ble_eq_true rfl⟩) hK hZ hA hWx hWm (dj_s hdj) hS x_0 (by decide) rfl rfl hl.1 rfl (Nat.le_of_ble_eq_true rfl) dL_law_277 ⟨Nat.le_of_ble_eq_true rfl, Nat.le_of_ble_eq_true rfl⟩ (fun r1 S1 H locs hp1 hWx hWm hdj hS => ?_)
    refine lv_aload_n hx hb dL_law_280 rfl (lv_at hl 1 rfl) ?_
    refine lv_aload_n hx hb dL_law_281 rfl (lv_at hl 3 rfl) ?_
    refine lv_iload_n hx hb dL_law_282 rfl (lv_at hl 0 rfl) ?_
    refine lv_iconst (v := 1) hx hb dL_law_283 (by decide) ?_
    refine lv_iadd hx hb dL_law_284 ?_
    rw [show (0 + 1 : Int32) = 1 from by decide]
    refine va_sld hx hb hXs hbl hbA hS (vp_in_nI (n := 1) (by decide) (by decide)) dL_law_285 ?_
    refine lv_aload_n hx hb dL_law_286 rfl (lv_at hl 3 rfl) ?_
    refine lv_iload_n hx hb dL_law_287 rfl (lv_at hl 0 rfl) ?_
    refine lv_iconst (v := 2) hx hb dL_law_288 (by decide) ?_
    refine lv_iadd hx hb dL_law_289 ?_
    rw [show (0 + 2 : Int32) = 2 from by decide]
    refine va_sld hx hb hXs hbl hbA hS (vp_in_nI (n := 2) (by decide) (by decide)) dL_law_290 ?_
    refine pl_Vi (S := M) (T := S1) (As := [.int (xs (Int32.toNatClampNeg 1)), .int (xs (Int32.toNatClampNeg 2))]) (rest := [.int r1]) F (fun A => c_X9_price l D cy A M qm m_priceOf (xs (Int32.toNatClampNeg 1)) (xs (Int32.toNatClampNeg 2)) y_0 y_22 y_23 y_24) (cwV 2 hts gL_law_X9_price rfl rfl rfl (by decide +kernel) ⟨Nat.le_of_ble_eq_true rfl, Nat.le_of_ble_eq_true rfl⟩) hK hZ hA hWm hWx (dj_s hdj) hS y_0 (by decide) rfl rfl hl.1 rfl (Nat.le_of_ble_eq_true rfl) dL_law_291 ⟨Nat.le_of_ble_eq_true rfl, Nat.le_of_ble_eq_true rfl⟩ (fun r2 M1 H locs hp2 hWm hWx hdj hS => ?_)
    exact lv_icmp_eq (tgt := 761) hx hb dL_law_294 (by decide) (fun _ => htail H locs ls _ _ (by decide) (by decide) hS hl) (fun c1 => absurd (tw_i hp1 hp2) c1)
  by_cases k5 : op = 5
  · refine lv_tableIn (off := 266) (tgt := 299) hx hb dL_law_33 (by rw [k5]; decide) (by rw [k5]; decide) (by rw [k5]; rfl) (by decide) ?_
    refine lv_aload_n hx hb dL_law_299 rfl (lv_at hl 2 rfl) ?_
    refine lv_aload_n hx hb dL_law_300 rfl (lv_at hl 3 rfl) ?_
    refine lv_iload_n hx hb dL_law_301 rfl (lv_at hl 0 rfl) ?_
    refine lv_iconst (v := 1) hx hb dL_law_302 (by decide) ?_
    refine lv_iadd hx hb dL_law_303 ?_
    rw [show (0 + 1 : Int32) = 1 from by decide]
    refine va_sld hx hb hXs hbl hbA hS (vp_in_nI (n := 1) (by decide) (by decide)) dL_law_304 ?_
    refine pl_Vi (S := S) (T := M) (As := [.int (xs (Int32.toNatClampNeg 1))]) (rest := []) F (fun A => c_X8_rest l D cy A S qx (xs (Int32.toNatClampNeg 1)) x_0 x_113 x_114 x_115 x_116 x_117 x_118 x_119 x_120 x_121) (cwV 1 hts gL_law_X8_rest rfl rfl rfl (by decide +kernel) ⟨Nat.le_of_ble_eq_true rfl, Nat.le_of_ble_eq_true rfl⟩) hK hZ hA hWx hWm (dj_s hdj) hS x_0 (by decide) rfl rfl hl.1 rfl (Nat.le_of_ble_eq_true rfl) dL_law_305 ⟨Nat.le_of_ble_eq_true rfl, Nat.le_of_ble_eq_true rfl⟩ (fun r1 S1 H locs hp1 hWx hWm hdj hS => ?_)
    refine lv_aload_n hx hb dL_law_308 rfl (lv_at hl 1 rfl) ?_
    refine lv_aload_n hx hb dL_law_309 rfl (lv_at hl 3 rfl) ?_
    refine lv_iload_n hx hb dL_law_310 rfl (lv_at hl 0 rfl) ?_
    refine lv_iconst (v := 1) hx hb dL_law_311 (by decide) ?_
    refine lv_iadd hx hb dL_law_312 ?_
    rw [show (0 + 1 : Int32) = 1 from by decide]
    refine va_sld hx hb hXs hbl hbA hS (vp_in_nI (n := 1) (by decide) (by decide)) dL_law_313 ?_
    refine pl_Vi (S := M) (T := S1) (As := [.int (xs (Int32.toNatClampNeg 1))]) (rest := [.int r1]) F (fun A => c_X9_rest l D cy A M qm (xs (Int32.toNatClampNeg 1)) y_0) (cwV 1 hts gL_law_X9_rest rfl rfl rfl (by decide +kernel) ⟨Nat.le_of_ble_eq_true rfl, Nat.le_of_ble_eq_true rfl⟩) hK hZ hA hWm hWx (dj_s hdj) hS y_0 (by decide) rfl rfl hl.1 rfl (Nat.le_of_ble_eq_true rfl) dL_law_314 ⟨Nat.le_of_ble_eq_true rfl, Nat.le_of_ble_eq_true rfl⟩ (fun r2 M1 H locs hp2 hWm hWx hdj hS => ?_)
    exact lv_icmp_eq (tgt := 761) hx hb dL_law_317 (by decide) (fun _ => htail H locs ls _ _ (by decide) (by decide) hS hl) (fun c1 => absurd (tw_i hp1 hp2) c1)
  by_cases k6 : op = 6
  · refine lv_tableIn (off := 289) (tgt := 322) hx hb dL_law_33 (by rw [k6]; decide) (by rw [k6]; decide) (by rw [k6]; rfl) (by decide) ?_
    refine lv_aload_n hx hb dL_law_322 rfl (lv_at hl 2 rfl) ?_
    refine lv_aload_n hx hb dL_law_323 rfl (lv_at hl 3 rfl) ?_
    refine lv_iload_n hx hb dL_law_324 rfl (lv_at hl 0 rfl) ?_
    refine lv_iconst (v := 1) hx hb dL_law_325 (by decide) ?_
    refine lv_iadd hx hb dL_law_326 ?_
    rw [show (0 + 1 : Int32) = 1 from by decide]
    refine va_sld hx hb hXs hbl hbA hS (vp_in_nI (n := 1) (by decide) (by decide)) dL_law_327 ?_
    refine lv_aload_n hx hb dL_law_328 rfl (lv_at hl 3 rfl) ?_
    refine lv_iload_n hx hb dL_law_329 rfl (lv_at hl 0 rfl) ?_
    refine lv_iconst (v := 2) hx hb dL_law_330 (by decide) ?_
    refine lv_iadd hx hb dL_law_331 ?_
    rw [show (0 + 2 : Int32) = 2 from by decide]
    refine va_sld hx hb hXs hbl hbA hS (vp_in_nI (n := 2) (by decide) (by decide)) dL_law_332 ?_
    refine lv_aload_n hx hb dL_law_333 rfl (lv_at hl 3 rfl) ?_
    refine lv_iload_n hx hb dL_law_334 rfl (lv_at hl 0 rfl) ?_
    refine lv_iconst (v := 3) hx hb dL_law_335 (by decide) ?_
    refine lv_iadd hx hb dL_law_336 ?_
    rw [show (0 + 3 : Int32) = 3 from by decide]
    refine va_sld hx hb hXs hbl hbA hS (vp_in_nI (n := 3) (by decide) (by decide)) dL_law_337 ?_
    refine lv_aload_n hx hb dL_law_338 rfl (lv_at hl 3 rfl) ?_
    refine lv_iload_n hx hb dL_law_339 rfl (lv_at hl 0 rfl) ?_
    refine lv_iconst (v := 4) hx hb dL_law_340 (by decide) ?_
    refine lv_iadd hx hb dL_law_341 ?_
    rw [show (0 + 4 : Int32) = 4 from by decide]
    refine va_sld hx hb hXs hbl hbA hS (vp_in_nI (n := 4) (by decide) (by decide)) dL_law_342 ?_
    refine pl_Vi (S := S) (T := M) (As := [.int (xs (Int32.toNatClampNeg 1)), .int (xs (Int32.toNatClampNeg 2)), .int (xs (Int32.toNatClampNeg 3)), .int (xs (Int32.toNatClampNeg 4))]) (rest := []) F (fun A => c_X8_book l D cy A S qx i1 i2 q1 w1 q2 w2 q3 w3 q4 w4 rif rg ses (xs (Int32.toNatClampNeg 1)) (xs (Int32.toNatClampNeg 2)) (xs (Int32.toNatClampNeg 3)) (xs (Int32.toNatClampNeg 4)) x_0 x_1 x_2 x_3 x_4 x_10 x_11 x_12 x_13 x_14 x_15 x_16 x_17 x_18 x_19 x_20 x_21 x_22 x_23 x_24 x_25 x_26 x_27 x_28 x_29 x_30 x_31 x_32 x_33 x_34 x_35 x_36 x_37 x_38 x_39 x_40 x_41 x_42 x_43 x_44 x_45 x_46 x_47 x_48 x_49 x_50 x_51 x_52 x_53 x_54 x_55 x_56 x_105 x_106 x_107 x_108 x_109 x_110 x_111 x_112 x_113 x_114 x_115 x_116 x_117 x_118 x_119 x_120 x_121) (cwV 4 hts gL_law_X8_book rfl rfl rfl (by decide +kernel) ⟨Nat.le_of_ble_eq_true rfl, Nat.le_of_ble_eq_true rfl⟩) hK hZ hA hWx hWm (dj_s hdj) hS x_0 (by decide) rfl rfl hl.1 rfl (Nat.le_of_ble_eq_true rfl) dL_law_343 ⟨Nat.le_of_ble_eq_true rfl, Nat.le_of_ble_eq_true rfl⟩ (fun r1 S1 H locs hp1 hWx hWm hdj hS => ?_)
    refine lv_aload_n hx hb dL_law_346 rfl (lv_at hl 1 rfl) ?_
    refine lv_aload_n hx hb dL_law_347 rfl (lv_at hl 3 rfl) ?_
    refine lv_iload_n hx hb dL_law_348 rfl (lv_at hl 0 rfl) ?_
    refine lv_iconst (v := 1) hx hb dL_law_349 (by decide) ?_
    refine lv_iadd hx hb dL_law_350 ?_
    rw [show (0 + 1 : Int32) = 1 from by decide]
    refine va_sld hx hb hXs hbl hbA hS (vp_in_nI (n := 1) (by decide) (by decide)) dL_law_351 ?_
    refine lv_aload_n hx hb dL_law_352 rfl (lv_at hl 3 rfl) ?_
    refine lv_iload_n hx hb dL_law_353 rfl (lv_at hl 0 rfl) ?_
    refine lv_iconst (v := 2) hx hb dL_law_354 (by decide) ?_
    refine lv_iadd hx hb dL_law_355 ?_
    rw [show (0 + 2 : Int32) = 2 from by decide]
    refine va_sld hx hb hXs hbl hbA hS (vp_in_nI (n := 2) (by decide) (by decide)) dL_law_356 ?_
    refine lv_aload_n hx hb dL_law_357 rfl (lv_at hl 3 rfl) ?_
    refine lv_iload_n hx hb dL_law_358 rfl (lv_at hl 0 rfl) ?_
    refine lv_iconst (v := 3) hx hb dL_law_359 (by decide) ?_
    refine lv_iadd hx hb dL_law_360 ?_
    rw [show (0 + 3 : Int32) = 3 from by decide]
    refine va_sld hx hb hXs hbl hbA hS (vp_in_nI (n := 3) (by decide) (by decide)) dL_law_361 ?_
    refine lv_aload_n hx hb dL_law_362 rfl (lv_at hl 3 rfl) ?_
    refine lv_iload_n hx hb dL_law_363 rfl (lv_at hl 0 rfl) ?_
    refine lv_iconst (v := 4) hx hb dL_law_364 (by decide) ?_
    refine lv_iadd hx hb dL_law_365 ?_
    rw [show (0 + 4 : Int32) = 4 from by decide]
    refine va_sld hx hb hXs hbl hbA hS (vp_in_nI (n := 4) (by decide) (by decide)) dL_law_366 ?_
    refine pl_Vi (S := M) (T := S1) (As := [.int (xs (Int32.toNatClampNeg 1)), .int (xs (Int32.toNatClampNeg 2)), .int (xs (Int32.toNatClampNeg 3)), .int (xs (Int32.toNatClampNeg 4))]) (rest := [.int r1]) F (fun A => c_X9_book l D cy A M qm m_clocks m_daysOf m_kinds m_limit m_fee m_hundredths m_clubOf m_kindOf m_sheetOf m_hourOf m_state m_why m_feeOf m_partOf m_moved (xs (Int32.toNatClampNeg 1)) (xs (Int32.toNatClampNeg 2)) (xs (Int32.toNatClampNeg 3)) (xs (Int32.toNatClampNeg 4)) y_0 y_4 y_5 y_6 y_7 y_8 y_9 y_10 y_11 y_12 y_13 y_14 y_15 y_16 y_17 y_18 y_19 y_20 y_21 y_49 y_50 y_51 y_52 y_53 y_54 y_55 y_56 y_57 y_58 y_59 y_60 y_61 y_62 y_63 y_64 y_65 y_66 y_67 y_68 y_69 y_70 y_71 y_72 y_73 y_74 y_75 y_124 y_125 y_126 y_127 y_141 y_148 y_149 y_150) (cwV 4 hts gL_law_X9_book rfl rfl rfl (by decide +kernel) ⟨Nat.le_of_ble_eq_true rfl, Nat.le_of_ble_eq_true rfl⟩) hK hZ hA hWm hWx (dj_s hdj) hS y_0 (by decide) rfl rfl hl.1 rfl (Nat.le_of_ble_eq_true rfl) dL_law_367 ⟨Nat.le_of_ble_eq_true rfl, Nat.le_of_ble_eq_true rfl⟩ (fun r2 M1 H locs hp2 hWm hWx hdj hS => ?_)
    exact lv_icmp_eq (tgt := 761) hx hb dL_law_370 (by decide) (fun _ => htail H locs ls _ _ (by decide) (by decide) hS hl) (fun c1 => absurd (tw_ hp1 hp2) c1)
  by_cases k7 : op = 7
  · refine lv_tableIn (off := 342) (tgt := 375) hx hb dL_law_33 (by rw [k7]; decide) (by rw [k7]; decide) (by rw [k7]; rfl) (by decide) ?_
    refine lv_aload_n hx hb dL_law_375 rfl (lv_at hl 2 rfl) ?_
    refine lv_aload_n hx hb dL_law_376 rfl (lv_at hl 3 rfl) ?_
    refine lv_iload_n hx hb dL_law_377 rfl (lv_at hl 0 rfl) ?_
    refine lv_iconst (v := 1) hx hb dL_law_378 (by decide) ?_
    refine lv_iadd hx hb dL_law_379 ?_
    rw [show (0 + 1 : Int32) = 1 from by decide]
    refine va_sld hx hb hXs hbl hbA hS (vp_in_nI (n := 1) (by decide) (by decide)) dL_law_380 ?_
    refine pl_Vi (S := S) (T := M) (As := [.int (xs (Int32.toNatClampNeg 1))]) (rest := []) F (fun A => c_X8_cancel l D cy A S qx (xs (Int32.toNatClampNeg 1)) x_0 x_113 x_114 x_115 x_116 x_117 x_118 x_119 x_120 x_121) (cwV 1 hts gL_law_X8_cancel rfl rfl rfl (by decide +kernel) ⟨Nat.le_of_ble_eq_true rfl, Nat.le_of_ble_eq_true rfl⟩) hK hZ hA hWx hWm (dj_s hdj) hS x_0 (by decide) rfl rfl hl.1 rfl (Nat.le_of_ble_eq_true rfl) dL_law_381 ⟨Nat.le_of_ble_eq_true rfl, Nat.le_of_ble_eq_true rfl⟩ (fun r1 S1 H locs hp1 hWx hWm hdj hS => ?_)
    refine lv_aload_n hx hb dL_law_384 rfl (lv_at hl 1 rfl) ?_
    refine lv_aload_n hx hb dL_law_385 rfl (lv_at hl 3 rfl) ?_
    refine lv_iload_n hx hb dL_law_386 rfl (lv_at hl 0 rfl) ?_
    refine lv_iconst (v := 1) hx hb dL_law_387 (by decide) ?_
    refine lv_iadd hx hb dL_law_388 ?_
    rw [show (0 + 1 : Int32) = 1 from by decide]
    refine va_sld hx hb hXs hbl hbA hS (vp_in_nI (n := 1) (by decide) (by decide)) dL_law_389 ?_
    refine pl_Vi (S := M) (T := S1) (As := [.int (xs (Int32.toNatClampNeg 1))]) (rest := [.int r1]) F (fun A => c_X9_cancel l D cy A M qm (xs (Int32.toNatClampNeg 1)) y_0 y_149) (cwV 1 hts gL_law_X9_cancel rfl rfl rfl (by decide +kernel) ⟨Nat.le_of_ble_eq_true rfl, Nat.le_of_ble_eq_true rfl⟩) hK hZ hA hWm hWx (dj_s hdj) hS y_0 (by decide) rfl rfl hl.1 rfl (Nat.le_of_ble_eq_true rfl) dL_law_390 ⟨Nat.le_of_ble_eq_true rfl, Nat.le_of_ble_eq_true rfl⟩ (fun r2 M1 H locs hp2 hWm hWx hdj hS => ?_)
    exact lv_icmp_eq (tgt := 761) hx hb dL_law_393 (by decide) (fun _ => htail H locs ls _ _ (by decide) (by decide) hS hl) (fun c1 => absurd (hp1.trans hp2.symm) c1)
  by_cases k8 : op = 8
  · refine lv_tableIn (off := 365) (tgt := 398) hx hb dL_law_33 (by rw [k8]; decide) (by rw [k8]; decide) (by rw [k8]; rfl) (by decide) ?_
    refine lv_aload_n hx hb dL_law_398 rfl (lv_at hl 2 rfl) ?_
    refine lv_aload_n hx hb dL_law_399 rfl (lv_at hl 3 rfl) ?_
    refine lv_iload_n hx hb dL_law_400 rfl (lv_at hl 0 rfl) ?_
    refine lv_iconst (v := 1) hx hb dL_law_401 (by decide) ?_
    refine lv_iadd hx hb dL_law_402 ?_
    rw [show (0 + 1 : Int32) = 1 from by decide]
    refine va_sld hx hb hXs hbl hbA hS (vp_in_nI (n := 1) (by decide) (by decide)) dL_law_403 ?_
    refine lv_aload_n hx hb dL_law_404 rfl (lv_at hl 3 rfl) ?_
    refine lv_iload_n hx hb dL_law_405 rfl (lv_at hl 0 rfl) ?_
    refine lv_iconst (v := 2) hx hb dL_law_406 (by decide) ?_
    refine lv_iadd hx hb dL_law_407 ?_
    rw [show (0 + 2 : Int32) = 2 from by decide]
    refine va_sld hx hb hXs hbl hbA hS (vp_in_nI (n := 2) (by decide) (by decide)) dL_law_408 ?_
    refine lv_aload_n hx hb dL_law_409 rfl (lv_at hl 3 rfl) ?_
    refine lv_iload_n hx hb dL_law_410 rfl (lv_at hl 0 rfl) ?_
    refine lv_iconst (v := 3) hx hb dL_law_411 (by decide) ?_
    refine lv_iadd hx hb dL_law_412 ?_
    rw [show (0 + 3 : Int32) = 3 from by decide]
    refine va_sld hx hb hXs hbl hbA hS (vp_in_nI (n := 3) (by decide) (by decide)) dL_law_413 ?_
    refine pl_Vi (S := S) (T := M) (As := [.int (xs (Int32.toNatClampNeg 1)), .int (xs (Int32.toNatClampNeg 2)), .int (xs (Int32.toNatClampNeg 3))]) (rest := []) F (fun A => c_X8_cut l D cy A S qx i1 i2 (xs (Int32.toNatClampNeg 1)) (xs (Int32.toNatClampNeg 2)) (xs (Int32.toNatClampNeg 3)) x_0 x_1 x_2 x_10 x_23 x_24 x_25 x_26 x_27 x_28 x_29 x_30 x_31 x_44 x_45 x_46 x_47 x_48 x_49 x_50 x_51 x_113 x_114 x_115 x_116 x_117 x_118 x_119 x_120 x_121) (cwV 3 hts gL_law_X8_cut rfl rfl rfl (by decide +kernel) ⟨Nat.le_of_ble_eq_true rfl, Nat.le_of_ble_eq_true rfl⟩) hK hZ hA hWx hWm (dj_s hdj) hS x_0 (by decide) rfl rfl hl.1 rfl (Nat.le_of_ble_eq_true rfl) dL_law_414 ⟨Nat.le_of_ble_eq_true rfl, Nat.le_of_ble_eq_true rfl⟩ (fun r1 S1 H locs hp1 hWx hWm hdj hS => ?_)
    refine lv_aload_n hx hb dL_law_417 rfl (lv_at hl 1 rfl) ?_
    refine lv_aload_n hx hb dL_law_418 rfl (lv_at hl 3 rfl) ?_
    refine lv_iload_n hx hb dL_law_419 rfl (lv_at hl 0 rfl) ?_
    refine lv_iconst (v := 1) hx hb dL_law_420 (by decide) ?_
    refine lv_iadd hx hb dL_law_421 ?_
    rw [show (0 + 1 : Int32) = 1 from by decide]
    refine va_sld hx hb hXs hbl hbA hS (vp_in_nI (n := 1) (by decide) (by decide)) dL_law_422 ?_
    refine lv_aload_n hx hb dL_law_423 rfl (lv_at hl 3 rfl) ?_
    refine lv_iload_n hx hb dL_law_424 rfl (lv_at hl 0 rfl) ?_
    refine lv_iconst (v := 2) hx hb dL_law_425 (by decide) ?_
    refine lv_iadd hx hb dL_law_426 ?_
    rw [show (0 + 2 : Int32) = 2 from by decide]
    refine va_sld hx hb hXs hbl hbA hS (vp_in_nI (n := 2) (by decide) (by decide)) dL_law_427 ?_
    refine lv_aload_n hx hb dL_law_428 rfl (lv_at hl 3 rfl) ?_
    refine lv_iload_n hx hb dL_law_429 rfl (lv_at hl 0 rfl) ?_
    refine lv_iconst (v := 3) hx hb dL_law_430 (by decide) ?_
    refine lv_iadd hx hb dL_law_431 ?_
    rw [show (0 + 3 : Int32) = 3 from by decide]
    refine va_sld hx hb hXs hbl hbA hS (vp_in_nI (n := 3) (by decide) (by decide)) dL_law_432 ?_
    refine pl_Vi (S := M) (T := S1) (As := [.int (xs (Int32.toNatClampNeg 1)), .int (xs (Int32.toNatClampNeg 2)), .int (xs (Int32.toNatClampNeg 3))]) (rest := [.int r1]) F (fun A => c_X9_cut l D cy A M qm m_cutShave m_cutFlood m_hasCut (xs (Int32.toNatClampNeg 1)) (xs (Int32.toNatClampNeg 2)) (xs (Int32.toNatClampNeg 3)) y_0 y_40 y_41 y_42 y_43 y_44 y_45 y_46 y_47 y_48) (cwV 3 hts gL_law_X9_cut rfl rfl rfl (by decide +kernel) ⟨Nat.le_of_ble_eq_true rfl, Nat.le_of_ble_eq_true rfl⟩) hK hZ hA hWm hWx (dj_s hdj) hS y_0 (by decide) rfl rfl hl.1 rfl (Nat.le_of_ble_eq_true rfl) dL_law_433 ⟨Nat.le_of_ble_eq_true rfl, Nat.le_of_ble_eq_true rfl⟩ (fun r2 M1 H locs hp2 hWm hWx hdj hS => ?_)
    exact lv_icmp_eq (tgt := 761) hx hb dL_law_436 (by decide) (fun _ => htail H locs ls _ _ (by decide) (by decide) hS hl) (fun c1 => absurd (tw_i hp1 hp2) c1)
  by_cases k9 : op = 9
  · refine lv_tableIn (off := 408) (tgt := 441) hx hb dL_law_33 (by rw [k9]; decide) (by rw [k9]; decide) (by rw [k9]; rfl) (by decide) ?_
    refine lv_aload_n hx hb dL_law_441 rfl (lv_at hl 2 rfl) ?_
    refine lv_aload_n hx hb dL_law_442 rfl (lv_at hl 3 rfl) ?_
    refine lv_iload_n hx hb dL_law_443 rfl (lv_at hl 0 rfl) ?_
    refine lv_iconst (v := 1) hx hb dL_law_444 (by decide) ?_
    refine lv_iadd hx hb dL_law_445 ?_
    rw [show (0 + 1 : Int32) = 1 from by decide]
    refine va_sld hx hb hXs hbl hbA hS (vp_in_nI (n := 1) (by decide) (by decide)) dL_law_446 ?_
    refine lv_aload_n hx hb dL_law_447 rfl (lv_at hl 3 rfl) ?_
    refine lv_iload_n hx hb dL_law_448 rfl (lv_at hl 0 rfl) ?_
    refine lv_iconst (v := 2) hx hb dL_law_449 (by decide) ?_
    refine lv_iadd hx hb dL_law_450 ?_
    rw [show (0 + 2 : Int32) = 2 from by decide]
    refine va_sld hx hb hXs hbl hbA hS (vp_in_nI (n := 2) (by decide) (by decide)) dL_law_451 ?_
    refine lv_aload_n hx hb dL_law_452 rfl (lv_at hl 3 rfl) ?_
    refine lv_iload_n hx hb dL_law_453 rfl (lv_at hl 0 rfl) ?_
    refine lv_iconst (v := 3) hx hb dL_law_454 (by decide) ?_
    refine lv_iadd hx hb dL_law_455 ?_
    rw [show (0 + 3 : Int32) = 3 from by decide]
    refine va_sld hx hb hXs hbl hbA hS (vp_in_nI (n := 3) (by decide) (by decide)) dL_law_456 ?_
    refine pl_Vi (S := S) (T := M) (As := [.int (xs (Int32.toNatClampNeg 1)), .int (xs (Int32.toNatClampNeg 2)), .int (xs (Int32.toNatClampNeg 3))]) (rest := []) F (fun A => c_X8_close l D cy A S qx i1 i2 q1 w1 q2 w2 q3 w3 q4 w4 mo mv rw_ br lf (xs (Int32.toNatClampNeg 1)) (xs (Int32.toNatClampNeg 2)) (xs (Int32.toNatClampNeg 3)) x_0 x_1 x_2 x_8 x_10 x_11 x_12 x_13 x_14 x_15 x_16 x_17 x_18 x_19 x_20 x_21 x_22 x_23 x_24 x_25 x_26 x_27 x_28 x_29 x_30 x_31 x_32 x_33 x_34 x_35 x_36 x_37 x_38 x_39 x_40 x_41 x_42 x_43 x_44 x_45 x_46 x_47 x_48 x_49 x_50 x_51 x_67 x_68 x_69 x_70 x_71 x_72 x_73 x_74 x_75 x_76 x_77 x_78 x_79 x_80 x_81 x_82 x_83 x_84 x_85 x_113 x_114 x_115 x_116 x_117 x_118 x_119 x_120 x_121) (cwV 3 hts gL_law_X8_close rfl rfl rfl (by decide +kernel) ⟨Nat.le_of_ble_eq_true rfl, Nat.le_of_ble_eq_true rfl⟩) hK hZ hA hWx hWm (dj_s hdj) hS x_0 (by decide) rfl rfl hl.1 rfl (Nat.le_of_ble_eq_true rfl) dL_law_457 ⟨Nat.le_of_ble_eq_true rfl, Nat.le_of_ble_eq_true rfl⟩ (fun r1 S1 H locs hp1 hWx hWm hdj hS => ?_)
    refine lv_aload_n hx hb dL_law_460 rfl (lv_at hl 1 rfl) ?_
    refine lv_aload_n hx hb dL_law_461 rfl (lv_at hl 3 rfl) ?_
    refine lv_iload_n hx hb dL_law_462 rfl (lv_at hl 0 rfl) ?_
    refine lv_iconst (v := 1) hx hb dL_law_463 (by decide) ?_
    refine lv_iadd hx hb dL_law_464 ?_
    rw [show (0 + 1 : Int32) = 1 from by decide]
    refine va_sld hx hb hXs hbl hbA hS (vp_in_nI (n := 1) (by decide) (by decide)) dL_law_465 ?_
    refine lv_aload_n hx hb dL_law_466 rfl (lv_at hl 3 rfl) ?_
    refine lv_iload_n hx hb dL_law_467 rfl (lv_at hl 0 rfl) ?_
    refine lv_iconst (v := 2) hx hb dL_law_468 (by decide) ?_
    refine lv_iadd hx hb dL_law_469 ?_
    rw [show (0 + 2 : Int32) = 2 from by decide]
    refine va_sld hx hb hXs hbl hbA hS (vp_in_nI (n := 2) (by decide) (by decide)) dL_law_470 ?_
    refine lv_aload_n hx hb dL_law_471 rfl (lv_at hl 3 rfl) ?_
    refine lv_iload_n hx hb dL_law_472 rfl (lv_at hl 0 rfl) ?_
    refine lv_iconst (v := 3) hx hb dL_law_473 (by decide) ?_
    refine lv_iadd hx hb dL_law_474 ?_
    rw [show (0 + 3 : Int32) = 3 from by decide]
    refine va_sld hx hb hXs hbl hbA hS (vp_in_nI (n := 3) (by decide) (by decide)) dL_law_475 ?_
    refine pl_Vi (S := M) (T := S1) (As := [.int (xs (Int32.toNatClampNeg 1)), .int (xs (Int32.toNatClampNeg 2)), .int (xs (Int32.toNatClampNeg 3))]) (rest := [.int r1]) F (fun A => c_X9_close l D cy A M qm m_closedSheet m_closedFrom m_closedTo (xs (Int32.toNatClampNeg 1)) (xs (Int32.toNatClampNeg 2)) (xs (Int32.toNatClampNeg 3)) y_0 y_76 y_77 y_78 y_79 y_80 y_81 y_82 y_83 y_84 y_141 y_149 y_150) (cwV 3 hts gL_law_X9_close rfl rfl rfl (by decide +kernel) ⟨Nat.le_of_ble_eq_true rfl, Nat.le_of_ble_eq_true rfl⟩) hK hZ hA hWm hWx (dj_s hdj) hS y_0 (by decide) rfl rfl hl.1 rfl (Nat.le_of_ble_eq_true rfl) dL_law_476 ⟨Nat.le_of_ble_eq_true rfl, Nat.le_of_ble_eq_true rfl⟩ (fun r2 M1 H locs hp2 hWm hWx hdj hS => ?_)
    exact lv_icmp_eq (tgt := 761) hx hb dL_law_479 (by decide) (fun _ => htail H locs ls _ _ (by decide) (by decide) hS hl) (fun c1 => absurd (tw_ hp1 hp2) c1)
  by_cases k10 : op = 10
  · refine lv_tableIn (off := 451) (tgt := 484) hx hb dL_law_33 (by rw [k10]; decide) (by rw [k10]; decide) (by rw [k10]; rfl) (by decide) ?_
    refine lv_aload_n hx hb dL_law_484 rfl (lv_at hl 2 rfl) ?_
    refine lv_aload_n hx hb dL_law_485 rfl (lv_at hl 3 rfl) ?_
    refine lv_iload_n hx hb dL_law_486 rfl (lv_at hl 0 rfl) ?_
    refine lv_iconst (v := 1) hx hb dL_law_487 (by decide) ?_
    refine lv_iadd hx hb dL_law_488 ?_
    rw [show (0 + 1 : Int32) = 1 from by decide]
    refine va_sld hx hb hXs hbl hbA hS (vp_in_nI (n := 1) (by decide) (by decide)) dL_law_489 ?_
    refine lv_aload_n hx hb dL_law_490 rfl (lv_at hl 3 rfl) ?_
    refine lv_iload_n hx hb dL_law_491 rfl (lv_at hl 0 rfl) ?_
    refine lv_iconst (v := 2) hx hb dL_law_492 (by decide) ?_
    refine lv_iadd hx hb dL_law_493 ?_
    rw [show (0 + 2 : Int32) = 2 from by decide]
    refine va_sld hx hb hXs hbl hbA hS (vp_in_nI (n := 2) (by decide) (by decide)) dL_law_494 ?_
    refine pl_Vi (S := S) (T := M) (As := [.int (xs (Int32.toNatClampNeg 1)), .int (xs (Int32.toNatClampNeg 2))]) (rest := []) F (fun A => c_X8_step l D cy A S qx i1 i2 q1 w1 q2 w2 q3 w3 q4 w4 pr (xs (Int32.toNatClampNeg 1)) (xs (Int32.toNatClampNeg 2)) x_0 x_1 x_2 x_5 x_10 x_11 x_12 x_13 x_14 x_15 x_16 x_17 x_18 x_19 x_20 x_21 x_22 x_23 x_24 x_25 x_26 x_27 x_28 x_29 x_30 x_31 x_32 x_33 x_34 x_35 x_36 x_37 x_38 x_39 x_40 x_41 x_42 x_43 x_44 x_45 x_46 x_47 x_48 x_49 x_50 x_51 x_57 x_58 x_59 x_113 x_114 x_115 x_116 x_117 x_118 x_119 x_120 x_121) (cwV 2 hts gL_law_X8_step rfl rfl rfl (by decide +kernel) ⟨Nat.le_of_ble_eq_true rfl, Nat.le_of_ble_eq_true rfl⟩) hK hZ hA hWx hWm (dj_s hdj) hS x_0 (by decide) rfl rfl hl.1 rfl (Nat.le_of_ble_eq_true rfl) dL_law_495 ⟨Nat.le_of_ble_eq_true rfl, Nat.le_of_ble_eq_true rfl⟩ (fun r1 S1 H locs hp1 hWx hWm hdj hS => ?_)
    refine lv_aload_n hx hb dL_law_498 rfl (lv_at hl 1 rfl) ?_
    refine lv_aload_n hx hb dL_law_499 rfl (lv_at hl 3 rfl) ?_
    refine lv_iload_n hx hb dL_law_500 rfl (lv_at hl 0 rfl) ?_
    refine lv_iconst (v := 1) hx hb dL_law_501 (by decide) ?_
    refine lv_iadd hx hb dL_law_502 ?_
    rw [show (0 + 1 : Int32) = 1 from by decide]
    refine va_sld hx hb hXs hbl hbA hS (vp_in_nI (n := 1) (by decide) (by decide)) dL_law_503 ?_
    refine lv_aload_n hx hb dL_law_504 rfl (lv_at hl 3 rfl) ?_
    refine lv_iload_n hx hb dL_law_505 rfl (lv_at hl 0 rfl) ?_
    refine lv_iconst (v := 2) hx hb dL_law_506 (by decide) ?_
    refine lv_iadd hx hb dL_law_507 ?_
    rw [show (0 + 2 : Int32) = 2 from by decide]
    refine va_sld hx hb hXs hbl hbA hS (vp_in_nI (n := 2) (by decide) (by decide)) dL_law_508 ?_
    refine pl_Vi (S := M) (T := S1) (As := [.int (xs (Int32.toNatClampNeg 1)), .int (xs (Int32.toNatClampNeg 2))]) (rest := [.int r1]) F (fun A => c_X9_step l D cy A M qm m_priceOf m_thick m_melted m_hasCut (xs (Int32.toNatClampNeg 1)) (xs (Int32.toNatClampNeg 2)) y_0 y_22 y_23 y_24 y_25 y_26 y_27 y_37 y_38 y_39 y_46 y_47 y_48 y_121 y_123 y_141 y_142 y_143 y_144 y_145 y_146 y_147 y_149 y_150) (cwV 2 hts gL_law_X9_step rfl rfl rfl (by decide +kernel) ⟨Nat.le_of_ble_eq_true rfl, Nat.le_of_ble_eq_true rfl⟩) hK hZ hA hWm hWx (dj_s hdj) hS y_0 (by decide) rfl rfl hl.1 rfl (Nat.le_of_ble_eq_true rfl) dL_law_509 ⟨Nat.le_of_ble_eq_true rfl, Nat.le_of_ble_eq_true rfl⟩ (fun r2 M1 H locs hp2 hWm hWx hdj hS => ?_)
    exact lv_icmp_eq (tgt := 761) hx hb dL_law_512 (by decide) (fun _ => htail H locs ls _ _ (by decide) (by decide) hS hl) (fun c1 => absurd (tw_ hp1 hp2) c1)
  by_cases k11 : op = 11
  · refine lv_tableIn (off := 484) (tgt := 517) hx hb dL_law_33 (by rw [k11]; decide) (by rw [k11]; decide) (by rw [k11]; rfl) (by decide) ?_
    refine lv_aload_n hx hb dL_law_517 rfl (lv_at hl 2 rfl) ?_
    refine lv_aload_n hx hb dL_law_518 rfl (lv_at hl 3 rfl) ?_
    refine lv_iload_n hx hb dL_law_519 rfl (lv_at hl 0 rfl) ?_
    refine lv_iconst (v := 1) hx hb dL_law_520 (by decide) ?_
    refine lv_iadd hx hb dL_law_521 ?_
    rw [show (0 + 1 : Int32) = 1 from by decide]
    refine va_sld hx hb hXs hbl hbA hS (vp_in_nI (n := 1) (by decide) (by decide)) dL_law_522 ?_
    refine lv_aload_n hx hb dL_law_523 rfl (lv_at hl 3 rfl) ?_
    refine lv_iload_n hx hb dL_law_524 rfl (lv_at hl 0 rfl) ?_
    refine lv_iconst (v := 2) hx hb dL_law_525 (by decide) ?_
    refine lv_iadd hx hb dL_law_526 ?_
    rw [show (0 + 2 : Int32) = 2 from by decide]
    refine va_sld hx hb hXs hbl hbA hS (vp_in_nI (n := 2) (by decide) (by decide)) dL_law_527 ?_
    refine pl_Vi (S := S) (T := M) (As := [.int (xs (Int32.toNatClampNeg 1)), .int (xs (Int32.toNatClampNeg 2))]) (rest := []) F (fun A => c_X8_plan l D cy A S qx i1 i2 q1 w1 q2 w2 q3 w3 q4 w4 pr pl wa pi be ro (xs (Int32.toNatClampNeg 1)) (xs (Int32.toNatClampNeg 2)) x_0 x_1 x_2 x_5 x_9 x_10 x_11 x_12 x_13 x_14 x_15 x_16 x_17 x_18 x_19 x_20 x_21 x_22 x_23 x_24 x_25 x_26 x_27 x_28 x_29 x_30 x_31 x_32 x_33 x_34 x_35 x_36 x_37 x_38 x_39 x_40 x_41 x_42 x_43 x_44 x_45 x_46 x_47 x_48 x_49 x_50 x_51 x_57 x_58 x_59 x_86 x_87 x_88 x_89 x_90 x_91 x_92 x_93 x_94 x_95 x_96 x_97 x_98 x_99 x_100 x_101 x_102 x_103 x_104 x_113 x_114 x_115 x_116 x_117 x_118 x_119 x_120 x_121 x_122 x_123 x_124 x_125 x_126 x_127) (cwV 2 hts gL_law_X8_plan rfl rfl rfl (by decide +kernel) ⟨Nat.le_of_ble_eq_true rfl, Nat.le_of_ble_eq_true rfl⟩) hK hZ hA hWx hWm (dj_s hdj) hS x_0 (by decide) rfl rfl hl.1 rfl (Nat.le_of_ble_eq_true rfl) dL_law_528 ⟨Nat.le_of_ble_eq_true rfl, Nat.le_of_ble_eq_true rfl⟩ (fun r1 S1 H locs hp1 hWx hWm hdj hS => ?_)
    refine lv_aload_n hx hb dL_law_531 rfl (lv_at hl 1 rfl) ?_
    refine lv_aload_n hx hb dL_law_532 rfl (lv_at hl 3 rfl) ?_
    refine lv_iload_n hx hb dL_law_533 rfl (lv_at hl 0 rfl) ?_
    refine lv_iconst (v := 1) hx hb dL_law_534 (by decide) ?_
    refine lv_iadd hx hb dL_law_535 ?_
    rw [show (0 + 1 : Int32) = 1 from by decide]
    refine va_sld hx hb hXs hbl hbA hS (vp_in_nI (n := 1) (by decide) (by decide)) dL_law_536 ?_
    refine lv_aload_n hx hb dL_law_537 rfl (lv_at hl 3 rfl) ?_
    refine lv_iload_n hx hb dL_law_538 rfl (lv_at hl 0 rfl) ?_
    refine lv_iconst (v := 2) hx hb dL_law_539 (by decide) ?_
    refine lv_iadd hx hb dL_law_540 ?_
    rw [show (0 + 2 : Int32) = 2 from by decide]
    refine va_sld hx hb hXs hbl hbA hS (vp_in_nI (n := 2) (by decide) (by decide)) dL_law_541 ?_
    refine pl_Vi (S := M) (T := S1) (As := [.int (xs (Int32.toNatClampNeg 1)), .int (xs (Int32.toNatClampNeg 2))]) (rest := [.int r1]) F (fun A => c_X9_plan l D cy A M qm m_priceOf m_wants m_row m_bestRow m_told (xs (Int32.toNatClampNeg 1)) (xs (Int32.toNatClampNeg 2)) y_0 y_22 y_23 y_24 y_97 y_98 y_99 y_100 y_101 y_102 y_103 y_104 y_105 y_106 y_107 y_108 y_123 y_141 y_142 y_146 y_147 y_149 y_155 y_156 y_157 y_158 y_159 y_160) (cwV 2 hts gL_law_X9_plan rfl rfl rfl (by decide +kernel) ⟨Nat.le_of_ble_eq_true rfl, Nat.le_of_ble_eq_true rfl⟩) hK hZ hA hWm hWx (dj_s hdj) hS y_0 (by decide) rfl rfl hl.1 rfl (Nat.le_of_ble_eq_true rfl) dL_law_542 ⟨Nat.le_of_ble_eq_true rfl, Nat.le_of_ble_eq_true rfl⟩ (fun r2 M1 H locs hp2 hWm hWx hdj hS => ?_)
    exact lv_icmp_eq (tgt := 761) hx hb dL_law_545 (by decide) (fun _ => htail H locs ls _ _ (by decide) (by decide) hS hl) (fun c1 => absurd (hp1.trans hp2.symm) c1)
  by_cases k12 : op = 12
  · refine lv_tableIn (off := 517) (tgt := 550) hx hb dL_law_33 (by rw [k12]; decide) (by rw [k12]; decide) (by rw [k12]; rfl) (by decide) ?_
    refine lv_aload_n hx hb dL_law_550 rfl (lv_at hl 2 rfl) ?_
    refine lv_aload_n hx hb dL_law_551 rfl (lv_at hl 3 rfl) ?_
    refine lv_iload_n hx hb dL_law_552 rfl (lv_at hl 0 rfl) ?_
    refine lv_iconst (v := 1) hx hb dL_law_553 (by decide) ?_
    refine lv_iadd hx hb dL_law_554 ?_
    rw [show (0 + 1 : Int32) = 1 from by decide]
    refine va_sld hx hb hXs hbl hbA hS (vp_in_nI (n := 1) (by decide) (by decide)) dL_law_555 ?_
    refine pl_Vi (S := S) (T := M) (As := [.int (xs (Int32.toNatClampNeg 1))]) (rest := []) F (fun A => c_X8_planned l D cy A S qx pl ro (xs (Int32.toNatClampNeg 1)) x_0 x_9 x_86 x_97 x_98 x_99 x_100 x_101 x_102 x_103 x_104 x_113 x_114 x_115 x_116 x_117 x_118 x_119 x_120 x_121) (cwV 1 hts gL_law_X8_planned rfl rfl rfl (by decide +kernel) ⟨Nat.le_of_ble_eq_true rfl, Nat.le_of_ble_eq_true rfl⟩) hK hZ hA hWx hWm (dj_s hdj) hS x_0 (by decide) rfl rfl hl.1 rfl (Nat.le_of_ble_eq_true rfl) dL_law_556 ⟨Nat.le_of_ble_eq_true rfl, Nat.le_of_ble_eq_true rfl⟩ (fun r1 S1 H locs hp1 hWx hWm hdj hS => ?_)
    refine lv_aload_n hx hb dL_law_559 rfl (lv_at hl 1 rfl) ?_
    refine lv_aload_n hx hb dL_law_560 rfl (lv_at hl 3 rfl) ?_
    refine lv_iload_n hx hb dL_law_561 rfl (lv_at hl 0 rfl) ?_
    refine lv_iconst (v := 1) hx hb dL_law_562 (by decide) ?_
    refine lv_iadd hx hb dL_law_563 ?_
    rw [show (0 + 1 : Int32) = 1 from by decide]
    refine va_sld hx hb hXs hbl hbA hS (vp_in_nI (n := 1) (by decide) (by decide)) dL_law_564 ?_
    refine pl_Vi (S := M) (T := S1) (As := [.int (xs (Int32.toNatClampNeg 1))]) (rest := [.int r1]) F (fun A => c_X9_planned l D cy A M qm (xs (Int32.toNatClampNeg 1)) y_0 y_154) (cwV 1 hts gL_law_X9_planned rfl rfl rfl (by decide +kernel) ⟨Nat.le_of_ble_eq_true rfl, Nat.le_of_ble_eq_true rfl⟩) hK hZ hA hWm hWx (dj_s hdj) hS y_0 (by decide) rfl rfl hl.1 rfl (Nat.le_of_ble_eq_true rfl) dL_law_565 ⟨Nat.le_of_ble_eq_true rfl, Nat.le_of_ble_eq_true rfl⟩ (fun r2 M1 H locs hp2 hWm hWx hdj hS => ?_)
    exact lv_icmp_eq (tgt := 761) hx hb dL_law_568 (by decide) (fun _ => htail H locs ls _ _ (by decide) (by decide) hS hl) (fun c1 => absurd (hp1.trans hp2.symm) c1)
  by_cases k13 : op = 13
  · refine lv_tableIn (off := 540) (tgt := 573) hx hb dL_law_33 (by rw [k13]; decide) (by rw [k13]; decide) (by rw [k13]; rfl) (by decide) ?_
    refine lv_aload_n hx hb dL_law_573 rfl (lv_at hl 2 rfl) ?_
    refine lv_aload_n hx hb dL_law_574 rfl (lv_at hl 3 rfl) ?_
    refine lv_iload_n hx hb dL_law_575 rfl (lv_at hl 0 rfl) ?_
    refine lv_iconst (v := 1) hx hb dL_law_576 (by decide) ?_
    refine lv_iadd hx hb dL_law_577 ?_
    rw [show (0 + 1 : Int32) = 1 from by decide]
    refine va_sld hx hb hXs hbl hbA hS (vp_in_nI (n := 1) (by decide) (by decide)) dL_law_578 ?_
    refine lv_aload_n hx hb dL_law_579 rfl (lv_at hl 3 rfl) ?_
    refine lv_iload_n hx hb dL_law_580 rfl (lv_at hl 0 rfl) ?_
    refine lv_iconst (v := 2) hx hb dL_law_581 (by decide) ?_
    refine lv_iadd hx hb dL_law_582 ?_
    rw [show (0 + 2 : Int32) = 2 from by decide]
    refine va_sld hx hb hXs hbl hbA hS (vp_in_nI (n := 2) (by decide) (by decide)) dL_law_583 ?_
    refine pl_Vi (S := S) (T := M) (As := [.int (xs (Int32.toNatClampNeg 1)), .int (xs (Int32.toNatClampNeg 2))]) (rest := []) F (fun A => c_X8_part l D cy A S qx (xs (Int32.toNatClampNeg 1)) (xs (Int32.toNatClampNeg 2)) x_0 x_113 x_114 x_115 x_116 x_117 x_118 x_119 x_120 x_121) (cwV 2 hts gL_law_X8_part rfl rfl rfl (by decide +kernel) ⟨Nat.le_of_ble_eq_true rfl, Nat.le_of_ble_eq_true rfl⟩) hK hZ hA hWx hWm (dj_s hdj) hS x_0 (by decide) rfl rfl hl.1 rfl (Nat.le_of_ble_eq_true rfl) dL_law_584 ⟨Nat.le_of_ble_eq_true rfl, Nat.le_of_ble_eq_true rfl⟩ (fun r1 S1 H locs hp1 hWx hWm hdj hS => ?_)
    refine lv_aload_n hx hb dL_law_587 rfl (lv_at hl 1 rfl) ?_
    refine lv_aload_n hx hb dL_law_588 rfl (lv_at hl 3 rfl) ?_
    refine lv_iload_n hx hb dL_law_589 rfl (lv_at hl 0 rfl) ?_
    refine lv_iconst (v := 1) hx hb dL_law_590 (by decide) ?_
    refine lv_iadd hx hb dL_law_591 ?_
    rw [show (0 + 1 : Int32) = 1 from by decide]
    refine va_sld hx hb hXs hbl hbA hS (vp_in_nI (n := 1) (by decide) (by decide)) dL_law_592 ?_
    refine lv_aload_n hx hb dL_law_593 rfl (lv_at hl 3 rfl) ?_
    refine lv_iload_n hx hb dL_law_594 rfl (lv_at hl 0 rfl) ?_
    refine lv_iconst (v := 2) hx hb dL_law_595 (by decide) ?_
    refine lv_iadd hx hb dL_law_596 ?_
    rw [show (0 + 2 : Int32) = 2 from by decide]
    refine va_sld hx hb hXs hbl hbA hS (vp_in_nI (n := 2) (by decide) (by decide)) dL_law_597 ?_
    refine pl_Vi (S := M) (T := S1) (As := [.int (xs (Int32.toNatClampNeg 1)), .int (xs (Int32.toNatClampNeg 2))]) (rest := [.int r1]) F (fun A => c_X9_part l D cy A M qm (xs (Int32.toNatClampNeg 1)) (xs (Int32.toNatClampNeg 2)) y_0 y_149) (cwV 2 hts gL_law_X9_part rfl rfl rfl (by decide +kernel) ⟨Nat.le_of_ble_eq_true rfl, Nat.le_of_ble_eq_true rfl⟩) hK hZ hA hWm hWx (dj_s hdj) hS y_0 (by decide) rfl rfl hl.1 rfl (Nat.le_of_ble_eq_true rfl) dL_law_598 ⟨Nat.le_of_ble_eq_true rfl, Nat.le_of_ble_eq_true rfl⟩ (fun r2 M1 H locs hp2 hWm hWx hdj hS => ?_)
    exact lv_icmp_eq (tgt := 761) hx hb dL_law_601 (by decide) (fun _ => htail H locs ls _ _ (by decide) (by decide) hS hl) (fun c1 => absurd (hp1.trans hp2.symm) c1)
  by_cases k14 : op = 14
  · refine lv_tableIn (off := 573) (tgt := 606) hx hb dL_law_33 (by rw [k14]; decide) (by rw [k14]; decide) (by rw [k14]; rfl) (by decide) ?_
    refine lv_aload_n hx hb dL_law_606 rfl (lv_at hl 2 rfl) ?_
    refine lv_aload_n hx hb dL_law_607 rfl (lv_at hl 3 rfl) ?_
    refine lv_iload_n hx hb dL_law_608 rfl (lv_at hl 0 rfl) ?_
    refine lv_iconst (v := 1) hx hb dL_law_609 (by decide) ?_
    refine lv_iadd hx hb dL_law_610 ?_
    rw [show (0 + 1 : Int32) = 1 from by decide]
    refine va_sld hx hb hXs hbl hbA hS (vp_in_nI (n := 1) (by decide) (by decide)) dL_law_611 ?_
    refine lv_aload_n hx hb dL_law_612 rfl (lv_at hl 3 rfl) ?_
    refine lv_iload_n hx hb dL_law_613 rfl (lv_at hl 0 rfl) ?_
    refine lv_iconst (v := 2) hx hb dL_law_614 (by decide) ?_
    refine lv_iadd hx hb dL_law_615 ?_
    rw [show (0 + 2 : Int32) = 2 from by decide]
    refine va_sld hx hb hXs hbl hbA hS (vp_in_nI (n := 2) (by decide) (by decide)) dL_law_616 ?_
    refine pl_Vi (S := S) (T := M) (As := [.int (xs (Int32.toNatClampNeg 1)), .int (xs (Int32.toNatClampNeg 2))]) (rest := []) F (fun A => c_X8_look l D cy A S qx (xs (Int32.toNatClampNeg 1)) (xs (Int32.toNatClampNeg 2)) x_0 x_113 x_114 x_115 x_116 x_117 x_118 x_119 x_120 x_121) (cwV 2 hts gL_law_X8_look rfl rfl rfl (by decide +kernel) ⟨Nat.le_of_ble_eq_true rfl, Nat.le_of_ble_eq_true rfl⟩) hK hZ hA hWx hWm (dj_s hdj) hS x_0 (by decide) rfl rfl hl.1 rfl (Nat.le_of_ble_eq_true rfl) dL_law_617 ⟨Nat.le_of_ble_eq_true rfl, Nat.le_of_ble_eq_true rfl⟩ (fun r1 S1 H locs hp1 hWx hWm hdj hS => ?_)
    refine lv_aload_n hx hb dL_law_620 rfl (lv_at hl 1 rfl) ?_
    refine lv_aload_n hx hb dL_law_621 rfl (lv_at hl 3 rfl) ?_
    refine lv_iload_n hx hb dL_law_622 rfl (lv_at hl 0 rfl) ?_
    refine lv_iconst (v := 1) hx hb dL_law_623 (by decide) ?_
    refine lv_iadd hx hb dL_law_624 ?_
    rw [show (0 + 1 : Int32) = 1 from by decide]
    refine va_sld hx hb hXs hbl hbA hS (vp_in_nI (n := 1) (by decide) (by decide)) dL_law_625 ?_
    refine lv_aload_n hx hb dL_law_626 rfl (lv_at hl 3 rfl) ?_
    refine lv_iload_n hx hb dL_law_627 rfl (lv_at hl 0 rfl) ?_
    refine lv_iconst (v := 2) hx hb dL_law_628 (by decide) ?_
    refine lv_iadd hx hb dL_law_629 ?_
    rw [show (0 + 2 : Int32) = 2 from by decide]
    refine va_sld hx hb hXs hbl hbA hS (vp_in_nI (n := 2) (by decide) (by decide)) dL_law_630 ?_
    refine pl_Vi (S := M) (T := S1) (As := [.int (xs (Int32.toNatClampNeg 1)), .int (xs (Int32.toNatClampNeg 2))]) (rest := [.int r1]) F (fun A => c_X9_look l D cy A M qm (xs (Int32.toNatClampNeg 1)) (xs (Int32.toNatClampNeg 2)) y_0 y_149) (cwV 2 hts gL_law_X9_look rfl rfl rfl (by decide +kernel) ⟨Nat.le_of_ble_eq_true rfl, Nat.le_of_ble_eq_true rfl⟩) hK hZ hA hWm hWx (dj_s hdj) hS y_0 (by decide) rfl rfl hl.1 rfl (Nat.le_of_ble_eq_true rfl) dL_law_631 ⟨Nat.le_of_ble_eq_true rfl, Nat.le_of_ble_eq_true rfl⟩ (fun r2 M1 H locs hp2 hWm hWx hdj hS => ?_)
    exact lv_icmp_eq (tgt := 761) hx hb dL_law_634 (by decide) (fun _ => htail H locs ls _ _ (by decide) (by decide) hS hl) (fun c1 => absurd (hp1.trans hp2.symm) c1)
  by_cases k15 : op = 15
  · refine lv_tableIn (off := 606) (tgt := 639) hx hb dL_law_33 (by rw [k15]; decide) (by rw [k15]; decide) (by rw [k15]; rfl) (by decide) ?_
    refine lv_aload_n hx hb dL_law_639 rfl (lv_at hl 2 rfl) ?_
    refine lv_aload_n hx hb dL_law_640 rfl (lv_at hl 3 rfl) ?_
    refine lv_iload_n hx hb dL_law_641 rfl (lv_at hl 0 rfl) ?_
    refine lv_iconst (v := 1) hx hb dL_law_642 (by decide) ?_
    refine lv_iadd hx hb dL_law_643 ?_
    rw [show (0 + 1 : Int32) = 1 from by decide]
    refine va_sld hx hb hXs hbl hbA hS (vp_in_nI (n := 1) (by decide) (by decide)) dL_law_644 ?_
    refine lv_aload_n hx hb dL_law_645 rfl (lv_at hl 3 rfl) ?_
    refine lv_iload_n hx hb dL_law_646 rfl (lv_at hl 0 rfl) ?_
    refine lv_iconst (v := 2) hx hb dL_law_647 (by decide) ?_
    refine lv_iadd hx hb dL_law_648 ?_
    rw [show (0 + 2 : Int32) = 2 from by decide]
    refine va_sld hx hb hXs hbl hbA hS (vp_in_nI (n := 2) (by decide) (by decide)) dL_law_649 ?_
    refine pl_Vi (S := S) (T := M) (As := [.int (xs (Int32.toNatClampNeg 1)), .int (xs (Int32.toNatClampNeg 2))]) (rest := []) F (fun A => c_X8_at l D cy A S qx i1 i2 q1 w1 q3 w3 (xs (Int32.toNatClampNeg 1)) (xs (Int32.toNatClampNeg 2)) x_0 x_1 x_2 x_10 x_11 x_12 x_13 x_14 x_15 x_16 x_23 x_24 x_25 x_26 x_27 x_28 x_29 x_30 x_31 x_32 x_33 x_34 x_35 x_36 x_37 x_44 x_45 x_46 x_47 x_48 x_49 x_50 x_51 x_113 x_114 x_115 x_116 x_117 x_118 x_119 x_120 x_121) (cwV 2 hts gL_law_X8_at rfl rfl rfl (by decide +kernel) ⟨Nat.le_of_ble_eq_true rfl, Nat.le_of_ble_eq_true rfl⟩) hK hZ hA hWx hWm (dj_s hdj) hS x_0 (by decide) rfl rfl hl.1 rfl (Nat.le_of_ble_eq_true rfl) dL_law_650 ⟨Nat.le_of_ble_eq_true rfl, Nat.le_of_ble_eq_true rfl⟩ (fun r1 S1 H locs hp1 hWx hWm hdj hS => ?_)
    refine lv_aload_n hx hb dL_law_653 rfl (lv_at hl 1 rfl) ?_
    refine lv_aload_n hx hb dL_law_654 rfl (lv_at hl 3 rfl) ?_
    refine lv_iload_n hx hb dL_law_655 rfl (lv_at hl 0 rfl) ?_
    refine lv_iconst (v := 1) hx hb dL_law_656 (by decide) ?_
    refine lv_iadd hx hb dL_law_657 ?_
    rw [show (0 + 1 : Int32) = 1 from by decide]
    refine va_sld hx hb hXs hbl hbA hS (vp_in_nI (n := 1) (by decide) (by decide)) dL_law_658 ?_
    refine lv_aload_n hx hb dL_law_659 rfl (lv_at hl 3 rfl) ?_
    refine lv_iload_n hx hb dL_law_660 rfl (lv_at hl 0 rfl) ?_
    refine lv_iconst (v := 2) hx hb dL_law_661 (by decide) ?_
    refine lv_iadd hx hb dL_law_662 ?_
    rw [show (0 + 2 : Int32) = 2 from by decide]
    refine va_sld hx hb hXs hbl hbA hS (vp_in_nI (n := 2) (by decide) (by decide)) dL_law_663 ?_
    refine pl_Vi (S := M) (T := S1) (As := [.int (xs (Int32.toNatClampNeg 1)), .int (xs (Int32.toNatClampNeg 2))]) (rest := [.int r1]) F (fun A => c_X9_at l D cy A M qm (xs (Int32.toNatClampNeg 1)) (xs (Int32.toNatClampNeg 2)) y_0 y_149) (cwV 2 hts gL_law_X9_at rfl rfl rfl (by decide +kernel) ⟨Nat.le_of_ble_eq_true rfl, Nat.le_of_ble_eq_true rfl⟩) hK hZ hA hWm hWx (dj_s hdj) hS y_0 (by decide) rfl rfl hl.1 rfl (Nat.le_of_ble_eq_true rfl) dL_law_664 ⟨Nat.le_of_ble_eq_true rfl, Nat.le_of_ble_eq_true rfl⟩ (fun r2 M1 H locs hp2 hWm hWx hdj hS => ?_)
    exact lv_icmp_eq (tgt := 761) hx hb dL_law_667 (by decide) (fun _ => htail H locs ls _ _ (by decide) (by decide) hS hl) (fun c1 => absurd (hp1.trans hp2.symm) c1)
  by_cases k16 : op = 16
  · refine lv_tableIn (off := 639) (tgt := 672) hx hb dL_law_33 (by rw [k16]; decide) (by rw [k16]; decide) (by rw [k16]; rfl) (by decide) ?_
    refine lv_aload_n hx hb dL_law_672 rfl (lv_at hl 2 rfl) ?_
    refine lv_aload_n hx hb dL_law_673 rfl (lv_at hl 3 rfl) ?_
    refine lv_iload_n hx hb dL_law_674 rfl (lv_at hl 0 rfl) ?_
    refine lv_iconst (v := 1) hx hb dL_law_675 (by decide) ?_
    refine lv_iadd hx hb dL_law_676 ?_
    rw [show (0 + 1 : Int32) = 1 from by decide]
    refine va_sld hx hb hXs hbl hbA hS (vp_in_nI (n := 1) (by decide) (by decide)) dL_law_677 ?_
    refine lv_aload_n hx hb dL_law_678 rfl (lv_at hl 3 rfl) ?_
    refine lv_iload_n hx hb dL_law_679 rfl (lv_at hl 0 rfl) ?_
    refine lv_iconst (v := 2) hx hb dL_law_680 (by decide) ?_
    refine lv_iadd hx hb dL_law_681 ?_
    rw [show (0 + 2 : Int32) = 2 from by decide]
    refine va_sld hx hb hXs hbl hbA hS (vp_in_nI (n := 2) (by decide) (by decide)) dL_law_682 ?_
    refine pl_Vi (S := S) (T := M) (As := [.int (xs (Int32.toNatClampNeg 1)), .int (xs (Int32.toNatClampNeg 2))]) (rest := []) F (fun A => c_X8_sheet l D cy A S qx i1 i2 q1 w1 q2 w2 q3 w3 q4 w4 (xs (Int32.toNatClampNeg 1)) (xs (Int32.toNatClampNeg 2)) x_0 x_1 x_2 x_10 x_11 x_12 x_13 x_14 x_15 x_16 x_17 x_18 x_19 x_20 x_21 x_22 x_23 x_24 x_25 x_26 x_27 x_28 x_29 x_30 x_31 x_32 x_33 x_34 x_35 x_36 x_37 x_38 x_39 x_40 x_41 x_42 x_43 x_44 x_45 x_46 x_47 x_48 x_49 x_50 x_51 x_113 x_114 x_115 x_116 x_117 x_118 x_119 x_120 x_121) (cwV 2 hts gL_law_X8_sheet rfl rfl rfl (by decide +kernel) ⟨Nat.le_of_ble_eq_true rfl, Nat.le_of_ble_eq_true rfl⟩) hK hZ hA hWx hWm (dj_s hdj) hS x_0 (by decide) rfl rfl hl.1 rfl (Nat.le_of_ble_eq_true rfl) dL_law_683 ⟨Nat.le_of_ble_eq_true rfl, Nat.le_of_ble_eq_true rfl⟩ (fun r1 S1 H locs hp1 hWx hWm hdj hS => ?_)
    refine lv_aload_n hx hb dL_law_686 rfl (lv_at hl 1 rfl) ?_
    refine lv_aload_n hx hb dL_law_687 rfl (lv_at hl 3 rfl) ?_
    refine lv_iload_n hx hb dL_law_688 rfl (lv_at hl 0 rfl) ?_
    refine lv_iconst (v := 1) hx hb dL_law_689 (by decide) ?_
    refine lv_iadd hx hb dL_law_690 ?_
    rw [show (0 + 1 : Int32) = 1 from by decide]
    refine va_sld hx hb hXs hbl hbA hS (vp_in_nI (n := 1) (by decide) (by decide)) dL_law_691 ?_
    refine lv_aload_n hx hb dL_law_692 rfl (lv_at hl 3 rfl) ?_
    refine lv_iload_n hx hb dL_law_693 rfl (lv_at hl 0 rfl) ?_
    refine lv_iconst (v := 2) hx hb dL_law_694 (by decide) ?_
    refine lv_iadd hx hb dL_law_695 ?_
    rw [show (0 + 2 : Int32) = 2 from by decide]
    refine va_sld hx hb hXs hbl hbA hS (vp_in_nI (n := 2) (by decide) (by decide)) dL_law_696 ?_
    refine pl_Vi (S := M) (T := S1) (As := [.int (xs (Int32.toNatClampNeg 1)), .int (xs (Int32.toNatClampNeg 2))]) (rest := [.int r1]) F (fun A => c_X9_sheet l D cy A M qm m_thick m_ruts m_shaved m_flooded m_melted (xs (Int32.toNatClampNeg 1)) (xs (Int32.toNatClampNeg 2)) y_0 y_25 y_26 y_27 y_28 y_29 y_30 y_31 y_32 y_33 y_34 y_35 y_36 y_37 y_38 y_39 y_115 y_116 y_117 y_118 y_122 y_141 y_150) (cwV 2 hts gL_law_X9_sheet rfl rfl rfl (by decide +kernel) ⟨Nat.le_of_ble_eq_true rfl, Nat.le_of_ble_eq_true rfl⟩) hK hZ hA hWm hWx (dj_s hdj) hS y_0 (by decide) rfl rfl hl.1 rfl (Nat.le_of_ble_eq_true rfl) dL_law_697 ⟨Nat.le_of_ble_eq_true rfl, Nat.le_of_ble_eq_true rfl⟩ (fun r2 M1 H locs hp2 hWm hWx hdj hS => ?_)
    exact lv_icmp_eq (tgt := 761) hx hb dL_law_700 (by decide) (fun _ => htail H locs ls _ _ (by decide) (by decide) hS hl) (fun c1 => absurd (tw_3 hp1 hp2 (by omega) (by omega) (by omega)) c1)
  by_cases k17 : op = 17
  · refine lv_tableIn (off := 672) (tgt := 705) hx hb dL_law_33 (by rw [k17]; decide) (by rw [k17]; decide) (by rw [k17]; rfl) (by decide) ?_
    refine lv_aload_n hx hb dL_law_705 rfl (lv_at hl 2 rfl) ?_
    refine lv_aload_n hx hb dL_law_706 rfl (lv_at hl 3 rfl) ?_
    refine lv_iload_n hx hb dL_law_707 rfl (lv_at hl 0 rfl) ?_
    refine lv_iconst (v := 1) hx hb dL_law_708 (by decide) ?_
    refine lv_iadd hx hb dL_law_709 ?_
    rw [show (0 + 1 : Int32) = 1 from by decide]
    refine va_sld hx hb hXs hbl hbA hS (vp_in_nI (n := 1) (by decide) (by decide)) dL_law_710 ?_
    refine lv_aload_n hx hb dL_law_711 rfl (lv_at hl 3 rfl) ?_
    refine lv_iload_n hx hb dL_law_712 rfl (lv_at hl 0 rfl) ?_
    refine lv_iconst (v := 2) hx hb dL_law_713 (by decide) ?_
    refine lv_iadd hx hb dL_law_714 ?_
    rw [show (0 + 2 : Int32) = 2 from by decide]
    refine va_sld hx hb hXs hbl hbA hS (vp_in_nI (n := 2) (by decide) (by decide)) dL_law_715 ?_
    refine pl_Vi (S := S) (T := M) (As := [.int (xs (Int32.toNatClampNeg 1)), .int (xs (Int32.toNatClampNeg 2))]) (rest := []) F (fun A => c_X8_club l D cy A S qx (xs (Int32.toNatClampNeg 1)) (xs (Int32.toNatClampNeg 2)) x_0 x_113 x_114 x_115 x_116 x_117 x_118 x_119 x_120 x_121) (cwV 2 hts gL_law_X8_club rfl rfl rfl (by decide +kernel) ⟨Nat.le_of_ble_eq_true rfl, Nat.le_of_ble_eq_true rfl⟩) hK hZ hA hWx hWm (dj_s hdj) hS x_0 (by decide) rfl rfl hl.1 rfl (Nat.le_of_ble_eq_true rfl) dL_law_716 ⟨Nat.le_of_ble_eq_true rfl, Nat.le_of_ble_eq_true rfl⟩ (fun r1 S1 H locs hp1 hWx hWm hdj hS => ?_)
    refine lv_aload_n hx hb dL_law_719 rfl (lv_at hl 1 rfl) ?_
    refine lv_aload_n hx hb dL_law_720 rfl (lv_at hl 3 rfl) ?_
    refine lv_iload_n hx hb dL_law_721 rfl (lv_at hl 0 rfl) ?_
    refine lv_iconst (v := 1) hx hb dL_law_722 (by decide) ?_
    refine lv_iadd hx hb dL_law_723 ?_
    rw [show (0 + 1 : Int32) = 1 from by decide]
    refine va_sld hx hb hXs hbl hbA hS (vp_in_nI (n := 1) (by decide) (by decide)) dL_law_724 ?_
    refine lv_aload_n hx hb dL_law_725 rfl (lv_at hl 3 rfl) ?_
    refine lv_iload_n hx hb dL_law_726 rfl (lv_at hl 0 rfl) ?_
    refine lv_iconst (v := 2) hx hb dL_law_727 (by decide) ?_
    refine lv_iadd hx hb dL_law_728 ?_
    rw [show (0 + 2 : Int32) = 2 from by decide]
    refine va_sld hx hb hXs hbl hbA hS (vp_in_nI (n := 2) (by decide) (by decide)) dL_law_729 ?_
    refine pl_Vi (S := M) (T := S1) (As := [.int (xs (Int32.toNatClampNeg 1)), .int (xs (Int32.toNatClampNeg 2))]) (rest := [.int r1]) F (fun A => c_X9_club l D cy A M qm (xs (Int32.toNatClampNeg 1)) (xs (Int32.toNatClampNeg 2)) y_0 y_149) (cwV 2 hts gL_law_X9_club rfl rfl rfl (by decide +kernel) ⟨Nat.le_of_ble_eq_true rfl, Nat.le_of_ble_eq_true rfl⟩) hK hZ hA hWm hWx (dj_s hdj) hS y_0 (by decide) rfl rfl hl.1 rfl (Nat.le_of_ble_eq_true rfl) dL_law_730 ⟨Nat.le_of_ble_eq_true rfl, Nat.le_of_ble_eq_true rfl⟩ (fun r2 M1 H locs hp2 hWm hWx hdj hS => ?_)
    exact lv_icmp_eq (tgt := 761) hx hb dL_law_733 (by decide) (fun _ => htail H locs ls _ _ (by decide) (by decide) hS hl) (fun c1 => absurd (tw_ hp1 hp2) c1)
  by_cases k18 : op = 18
  · refine lv_tableIn (off := 705) (tgt := 738) hx hb dL_law_33 (by rw [k18]; decide) (by rw [k18]; decide) (by rw [k18]; rfl) (by decide) ?_
    refine lv_aload_n hx hb dL_law_738 rfl (lv_at hl 2 rfl) ?_
    refine lv_aload_n hx hb dL_law_739 rfl (lv_at hl 3 rfl) ?_
    refine lv_iload_n hx hb dL_law_740 rfl (lv_at hl 0 rfl) ?_
    refine lv_iconst (v := 1) hx hb dL_law_741 (by decide) ?_
    refine lv_iadd hx hb dL_law_742 ?_
    rw [show (0 + 1 : Int32) = 1 from by decide]
    refine va_sld hx hb hXs hbl hbA hS (vp_in_nI (n := 1) (by decide) (by decide)) dL_law_743 ?_
    refine pl_Vi (S := S) (T := M) (As := [.int (xs (Int32.toNatClampNeg 1))]) (rest := []) F (fun A => c_X8_count l D cy A S qx tp pr (xs (Int32.toNatClampNeg 1)) x_0 x_5 x_6 x_57 x_58 x_59 x_60 x_64 x_113 x_114 x_115 x_116 x_117 x_118 x_119 x_120 x_121) (cwV 1 hts gL_law_X8_count rfl rfl rfl (by decide +kernel) ⟨Nat.le_of_ble_eq_true rfl, Nat.le_of_ble_eq_true rfl⟩) hK hZ hA hWx hWm (dj_s hdj) hS x_0 (by decide) rfl rfl hl.1 rfl (Nat.le_of_ble_eq_true rfl) dL_law_744 ⟨Nat.le_of_ble_eq_true rfl, Nat.le_of_ble_eq_true rfl⟩ (fun r1 S1 H locs hp1 hWx hWm hdj hS => ?_)
    refine lv_aload_n hx hb dL_law_747 rfl (lv_at hl 1 rfl) ?_
    refine lv_aload_n hx hb dL_law_748 rfl (lv_at hl 3 rfl) ?_
    refine lv_iload_n hx hb dL_law_749 rfl (lv_at hl 0 rfl) ?_
    refine lv_iconst (v := 1) hx hb dL_law_750 (by decide) ?_
    refine lv_iadd hx hb dL_law_751 ?_
    rw [show (0 + 1 : Int32) = 1 from by decide]
    refine va_sld hx hb hXs hbl hbA hS (vp_in_nI (n := 1) (by decide) (by decide)) dL_law_752 ?_
    refine pl_Vi (S := M) (T := S1) (As := [.int (xs (Int32.toNatClampNeg 1))]) (rest := [.int r1]) F (fun A => c_X9_count l D cy A M qm m_priceOf (xs (Int32.toNatClampNeg 1)) y_0 y_22 y_23 y_24 y_123 y_130 y_141 y_142 y_143 y_144 y_145 y_146 y_147 y_148 y_149) (cwV 1 hts gL_law_X9_count rfl rfl rfl (by decide +kernel) ⟨Nat.le_of_ble_eq_true rfl, Nat.le_of_ble_eq_true rfl⟩) hK hZ hA hWm hWx (dj_s hdj) hS y_0 (by decide) rfl rfl hl.1 rfl (Nat.le_of_ble_eq_true rfl) dL_law_753 ⟨Nat.le_of_ble_eq_true rfl, Nat.le_of_ble_eq_true rfl⟩ (fun r2 M1 H locs hp2 hWm hWx hdj hS => ?_)
    exact lv_icmp_eq (tgt := 761) hx hb dL_law_756 (by decide) (fun _ => htail H locs ls _ _ (by decide) (by decide) hS hl) (fun c1 => absurd (Eq.trans hp1 (Eq.symm hp2)) c1)
  refine lv_tableOut (tgt := 761) hx hb dL_law_33 (by have q0 := lv_neT k0 (a := 0) rfl; have q1 := lv_neT k1 (a := 1) rfl; have q2 := lv_neT k2 (a := 2) rfl; have q3 := lv_neT k3 (a := 3) rfl; have q4 := lv_neT k4 (a := 4) rfl; have q5 := lv_neT k5 (a := 5) rfl; have q6 := lv_neT k6 (a := 6) rfl; have q7 := lv_neT k7 (a := 7) rfl; have q8 := lv_neT k8 (a := 8) rfl; have q9 := lv_neT k9 (a := 9) rfl; have q10 := lv_neT k10 (a := 10) rfl; have q11 := lv_neT k11 (a := 11) rfl; have q12 := lv_neT k12 (a := 12) rfl; have q13 := lv_neT k13 (a := 13) rfl; have q14 := lv_neT k14 (a := 14) rfl; have q15 := lv_neT k15 (a := 15) rfl; have q16 := lv_neT k16 (a := 16) rfl; have q17 := lv_neT k17 (a := 17) rfl; have q18 := lv_neT k18 (a := 18) rfl; omega) (by decide) ?_
  exact htail H locs ls _ _ (by decide) (by decide) hS hl
