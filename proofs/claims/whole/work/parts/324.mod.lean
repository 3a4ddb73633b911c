set_option maxHeartbeats 40000000 in
set_option maxRecDepth 100000 in
theorem c_M_quadrant0 (l : Launch) (dC : Nat → ClassId) (dI : Nat → Nat → Nat) (h1 : Nat) (hh : Int32) : Met l y_M_quadrant0 w_M_quadrant0 { frames := 2, cells := 0, slots := 0, locals := 44 } (va_Pc [.ref h1] (mo dC dI h1 hh)) (vp_Si (fun r => r = f_M_quadrant0 hh)) 0 0 (fun _ => False) := by
  refine Met.ofW (cc := b_M_quadrant0) (maxL := 4) (ret := (some .int)) (by decide) rfl ?_
  intro p e s m args below meth c s₁ B hml hv
  obtain ⟨rfl, hT⟩ := hv
  have hx := B.exec
  have hb := B.bytes
  have hr := B.returns
  have hts := atoms_spec (ws := w_M_quadrant0) B.pre
  have hown : s.vm.findClass R_M = some m.cls := findClass_of_methodNamed B.named
  have hlocks := B.notSynchronized
  have hl := lv_entry ([.ref h1]) (n := 4) (Nat.le_of_ble_eq_true rfl)
  rw [lg_entry_eq]
  generalize (lg_sl ([.ref h1]) ++ List.replicate (4 - (lg_sl ([.ref h1])).length) Slot.unset).toArray = ls at hl ⊢
  have hl : lv_has ls 4 [(0, .ref h1)] := hl
  obtain ⟨th, wt, fi, wo, le, wn, hP, hK⟩ := id hT
  have hP : va_P (dC, dI) classes [(h1, .inr (1, [.int th, .int hh, .int wt, .int fi, .int wo, .int le, .int wn]))] s.heap := hP
  refine lv_bipush (v := nI 8) hx hb d_M_quadrant0_0 (by decide) ?_
  refine lv_aload_n hx hb d_M_quadrant0_2 rfl (lv_at hl 0 rfl) ?_
  refine lv_bipush (v := nI 9) hx hb d_M_quadrant0_3 (by decide) ?_
  refine lv_bipush (v := nI 7) hx hb d_M_quadrant0_5 (by decide) ?_
  refine callE (W.runV (b := h1) (As := [.int (nI 9), .int (nI 7)]) (rest := [.int (nI 8)]) ⟨hx, hb, hml, hown, hts⟩ (c_M_bits l dC dI h1 hh 9 7 (by decide) (by decide) (by decide)) (cwV 2 hts (gV awx k_329 k_331 ks_4 k_2 k_332) rfl rfl rfl (by decide +kernel) ⟨Nat.le_of_ble_eq_true rfl, Nat.le_of_ble_eq_true rfl⟩) (mo_pre hT) rfl rfl hl.1 rfl (lv_room (Nat.le_of_ble_eq_true rfl)) d_M_quadrant0_7 ⟨Nat.zero_le _, Nat.zero_le _⟩) ?_
  refine lv_iadd hx hb d_M_quadrant0_10 ?_
  refine lv_istore_n (lv' := [(1, .int ((nI 8) + (f_M_bits hh 9 7))), (0, .ref h1)]) hx hb d_M_quadrant0_11 rfl hl (by decide) rfl (fun ls hl => ?_)
  refine lv_bipush (v := nI 8) hx hb d_M_quadrant0_12 (by decide) ?_
  refine lv_aload_n hx hb d_M_quadrant0_14 rfl (lv_at hl 1 rfl) ?_
  refine lv_iconst (v := nI 4) hx hb d_M_quadrant0_15 (by decide) ?_
  refine lv_iconst (v := nI 2) hx hb d_M_quadrant0_16 (by decide) ?_
  refine callE (W.runV (b := h1) (As := [.int (nI 4), .int (nI 2)]) (rest := [.int (nI 8)]) ⟨hx, hb, hml, hown, hts⟩ (c_M_bits l dC dI h1 hh 4 2 (by decide) (by decide) (by decide)) (cwV 2 hts (gV awx k_329 k_331 ks_4 k_2 k_332) rfl rfl rfl (by decide +kernel) ⟨Nat.le_of_ble_eq_true rfl, Nat.le_of_ble_eq_true rfl⟩) (mo_pre hT) rfl rfl hl.1 rfl (lv_room (Nat.le_of_ble_eq_true rfl)) d_M_quadrant0_17 ⟨Nat.zero_le _, Nat.zero_le _⟩) ?_
  refine lv_iadd hx hb d_M_quadrant0_20 ?_
  refine lv_istore_n (lv' := [(2, .int ((nI 8) + (f_M_bits hh 4 2))), (1, .int ((nI 8) + (f_M_bits hh 9 7))), (0, .ref h1)]) hx hb d_M_quadrant0_21 rfl hl (by decide) rfl (fun ls hl => ?_)
  refine lv_aload_n hx hb d_M_quadrant0_22 rfl (lv_at hl 2 rfl) ?_
  refine lv_bipush (v := nI 15) hx hb d_M_quadrant0_23 (by decide) ?_
  refine lv_bipush (v := nI 13) hx hb d_M_quadrant0_25 (by decide) ?_
  refine callE (W.runV (b := h1) (As := [.int (nI 15), .int (nI 13)]) (rest := []) ⟨hx, hb, hml, hown, hts⟩ (c_M_bits l dC dI h1 hh 15 13 (by decide) (by decide) (by decide)) (cwV 2 hts (gV awx k_329 k_331 ks_4 k_2 k_332) rfl rfl rfl (by decide +kernel) ⟨Nat.le_of_ble_eq_true rfl, Nat.le_of_ble_eq_true rfl⟩) (mo_pre hT) rfl rfl hl.1 rfl (lv_room (Nat.le_of_ble_eq_true rfl)) d_M_quadrant0_27 ⟨Nat.zero_le _, Nat.zero_le _⟩) ?_
  by_cases c1 : (f_M_bits hh 15 13) = nI 0
  · refine lv_tableIn (tgt := 76) (off := 46) hx hb d_M_quadrant0_30 (by rw [c1]; decide +kernel) (by rw [c1]; decide +kernel) (by rw [c1]; decide +kernel) (by decide) ?_
    refine lv_bipush (v := nI 64) hx hb d_M_quadrant0_76 (by decide) ?_
    refine lv_aload_n hx hb d_M_quadrant0_78 rfl (lv_at hl 2 rfl) ?_
    refine lv_bipush (v := nI 10) hx hb d_M_quadrant0_79 (by decide) ?_
    refine lv_bipush (v := nI 7) hx hb d_M_quadrant0_81 (by decide) ?_
    refine callE (W.runV (b := h1) (As := [.int (nI 10), .int (nI 7)]) (rest := [.int (nI 64)]) ⟨hx, hb, hml, hown, hts⟩ (c_M_bits l dC dI h1 hh 10 7 (by decide) (by decide) (by decide)) (cwV 2 hts (gV awx k_329 k_331 ks_4 k_2 k_332) rfl rfl rfl (by decide +kernel) ⟨Nat.le_of_ble_eq_true rfl, Nat.le_of_ble_eq_true rfl⟩) (mo_pre hT) rfl rfl hl.1 rfl (lv_room (Nat.le_of_ble_eq_true rfl)) d_M_quadrant0_83 ⟨Nat.zero_le _, Nat.zero_le _⟩) ?_
    refine lv_imul hx hb d_M_quadrant0_86 ?_
    refine lv_bipush (v := nI 16) hx hb d_M_quadrant0_87 (by decide) ?_
    refine lv_aload_n hx hb d_M_quadrant0_89 rfl (lv_at hl 2 rfl) ?_
    refine lv_bipush (v := nI 12) hx hb d_M_quadrant0_90 (by decide) ?_
    refine lv_bipush (v := nI 11) hx hb d_M_quadrant0_92 (by decide) ?_
    refine callE (W.runV (b := h1) (As := [.int (nI 12), .int (nI 11)]) (rest := [.int (nI 16), .int ((nI 64) * (f_M_bits hh 10 7))]) ⟨hx, hb, hml, hown, hts⟩ (c_M_bits l dC dI h1 hh 12 11 (by decide) (by decide) (by decide)) (cwV 2 hts (gV awx k_329 k_331 ks_4 k_2 k_332) rfl rfl rfl (by decide +kernel) ⟨Nat.le_of_ble_eq_true rfl, Nat.le_of_ble_eq_true rfl⟩) (mo_pre hT) rfl rfl hl.1 rfl (lv_room (Nat.le_of_ble_eq_true rfl)) d_M_quadrant0_94 ⟨Nat.zero_le _, Nat.zero_le _⟩) ?_
    refine lv_imul hx hb d_M_quadrant0_97 ?_
    refine lv_iadd hx hb d_M_quadrant0_98 ?_
    refine lv_bipush (v := nI 8) hx hb d_M_quadrant0_99 (by decide) ?_
    refine lv_aload_n hx hb d_M_quadrant0_101 rfl (lv_at hl 2 rfl) ?_
    refine lv_iconst (v := nI 5) hx hb d_M_quadrant0_102 (by decide) ?_
    refine lv_iconst (v := nI 5) hx hb d_M_quadrant0_103 (by decide) ?_
    refine callE (W.runV (b := h1) (As := [.int (nI 5), .int (nI 5)]) (rest := [.int (nI 8), .int (((nI 64) * (f_M_bits hh 10 7)) + ((nI 16) * (f_M_bits hh 12 11)))]) ⟨hx, hb, hml, hown, hts⟩ (c_M_bits l dC dI h1 hh 5 5 (by decide) (by decide) (by decide)) (cwV 2 hts (gV awx k_329 k_331 ks_4 k_2 k_332) rfl rfl rfl (by decide +kernel) ⟨Nat.le_of_ble_eq_true rfl, Nat.le_of_ble_eq_true rfl⟩) (mo_pre hT) rfl rfl hl.1 rfl (lv_room (Nat.le_of_ble_eq_true rfl)) d_M_quadrant0_104 ⟨Nat.zero_le _, Nat.zero_le _⟩) ?_
    refine lv_imul hx hb d_M_quadrant0_107 ?_
    refine lv_iadd hx hb d_M_quadrant0_108 ?_
    refine lv_iconst (v := nI 4) hx hb d_M_quadrant0_109 (by decide) ?_
    refine lv_aload_n hx hb d_M_quadrant0_110 rfl (lv_at hl 2 rfl) ?_
    refine lv_bipush (v := nI 6) hx hb d_M_quadrant0_111 (by decide) ?_
    refine lv_bipush (v := nI 6) hx hb d_M_quadrant0_113 (by decide) ?_
    refine callE (W.runV (b := h1) (As := [.int (nI 6), .int (nI 6)]) (rest := [.int (nI 4), .int ((((nI 64) * (f_M_bits hh 10 7)) + ((nI 16) * (f_M_bits hh 12 11))) + ((nI 8) * (f_M_bits hh 5 5)))]) ⟨hx, hb, hml, hown, hts⟩ (c_M_bits l dC dI h1 hh 6 6 (by decide) (by decide) (by decide)) (cwV 2 hts (gV awx k_329 k_331 ks_4 k_2 k_332) rfl rfl rfl (by decide +kernel) ⟨Nat.le_of_ble_eq_true rfl, Nat.le_of_ble_eq_true rfl⟩) (mo_pre hT) rfl rfl hl.1 rfl (lv_room (Nat.le_of_ble_eq_true rfl)) d_M_quadrant0_115 ⟨Nat.zero_le _, Nat.zero_le _⟩) ?_
    refine lv_imul hx hb d_M_quadrant0_118 ?_
    refine lv_iadd hx hb d_M_quadrant0_119 ?_
    refine lv_istore_n (lv' := [(3, .int (((((nI 64) * (f_M_bits hh 10 7)) + ((nI 16) * (f_M_bits hh 12 11))) + ((nI 8) * (f_M_bits hh 5 5))) + ((nI 4) * (f_M_bits hh 6 6)))), (2, .int ((nI 8) + (f_M_bits hh 4 2))), (1, .int ((nI 8) + (f_M_bits hh 9 7))), (0, .ref h1)]) hx hb d_M_quadrant0_120 rfl hl (by decide) rfl (fun ls hl => ?_)
    refine lv_iload_n hx hb d_M_quadrant0_121 rfl (lv_at hl 0 rfl) ?_
    refine lv_if_ne (tgt := 129) hx hb d_M_quadrant0_122 (by decide) (fun c2 => ?_) (fun c2 => ?_)
    · refine lv_bipush (v := nI 19) hx hb d_M_quadrant0_129 (by decide) ?_
      refine lv_iload_n hx hb d_M_quadrant0_131 rfl (lv_at hl 1 rfl) ?_
      refine lv_iconst (v := nI 0) hx hb d_M_quadrant0_132 (by decide) ?_
      refine lv_iconst (v := nI 2) hx hb d_M_quadrant0_133 (by decide) ?_
      refine lv_iload_n hx hb d_M_quadrant0_134 rfl (lv_at hl 0 rfl) ?_
      refine callE (W.runS (As := [.int (nI 19), .int ((nI 8) + (f_M_bits hh 4 2)), .int (nI 0), .int (nI 2), .int (((((nI 64) * (f_M_bits hh 10 7)) + ((nI 16) * (f_M_bits hh 12 11))) + ((nI 8) * (f_M_bits hh 5 5))) + ((nI 4) * (f_M_bits hh 6 6)))]) (rest := []) ⟨hx, hb, hml, hown, hts⟩ (c_M_wordI l (nI 19) ((nI 8) + (f_M_bits hh 4 2)) (nI 0) (nI 2) (((((nI 64) * (f_M_bits hh 10 7)) + ((nI 16) * (f_M_bits hh 12 11))) + ((nI 8) * (f_M_bits hh 5 5))) + ((nI 4) * (f_M_bits hh 6 6)))) (cwS 5 hts (gS k_333 k_334 k_2 k_335) rfl rfl rfl (by decide +kernel) ⟨Nat.le_of_ble_eq_true rfl, Nat.le_of_ble_eq_true rfl⟩) pre0 rfl rfl hl.1 rfl (lv_room (Nat.le_of_ble_eq_true rfl)) d_M_quadrant0_135 ⟨Nat.zero_le _, Nat.zero_le _⟩) ?_
      exact W.iret hx hb hr (fun t ht _ => ⟨_, rfl, by rw [f_M_quadrant0, if_pos c1, if_neg c2], ht⟩) (fun q h => nomatch h) d_M_quadrant0_138
    · refine lv_iconst (v := nI 0) hx hb d_M_quadrant0_125 (by decide) ?_
      refine lv_goto (tgt := 138) hx hb d_M_quadrant0_126 (by decide) ?_
      exact W.iret hx hb hr (fun t ht _ => ⟨_, rfl, by rw [f_M_quadrant0, if_pos c1, if_pos c2], ht⟩) (fun q h => nomatch h) d_M_quadrant0_138
  by_cases c3 : (f_M_bits hh 15 13) = nI 1
  · refine lv_tableIn (tgt := 139) (off := 109) hx hb d_M_quadrant0_30 (by rw [c3]; decide +kernel) (by rw [c3]; decide +kernel) (by rw [c3]; decide +kernel) (by decide) ?_
    refine lv_bipush (v := nI 7) hx hb d_M_quadrant0_139 (by decide) ?_
    refine lv_iload_n hx hb d_M_quadrant0_141 rfl (lv_at hl 0 rfl) ?_
    refine lv_iconst (v := nI 3) hx hb d_M_quadrant0_142 (by decide) ?_
    refine lv_iload_n hx hb d_M_quadrant0_143 rfl (lv_at hl 1 rfl) ?_
    refine lv_aload_n hx hb d_M_quadrant0_144 rfl (lv_at hl 2 rfl) ?_
    refine callE (W.runV (b := h1) (As := []) (rest := [.int ((nI 8) + (f_M_bits hh 9 7)), .int (nI 3), .int ((nI 8) + (f_M_bits hh 4 2)), .int (nI 7)]) ⟨hx, hb, hml, hown, hts⟩ (c_M_eights l dC dI h1 hh ) (cwV 0 hts (gV awx k_338 k_340 ks_5 k_2 k_341) rfl rfl rfl (by decide +kernel) ⟨Nat.le_of_ble_eq_true rfl, Nat.le_of_ble_eq_true rfl⟩) (mo_pre hT) rfl rfl hl.1 rfl (lv_room (Nat.le_of_ble_eq_true rfl)) d_M_quadrant0_145 ⟨Nat.zero_le _, Nat.zero_le _⟩) ?_
    refine callE (W.runS (As := [.int (nI 7), .int ((nI 8) + (f_M_bits hh 4 2)), .int (nI 3), .int ((nI 8) + (f_M_bits hh 9 7)), .int (f_M_eights hh )]) (rest := []) ⟨hx, hb, hml, hown, hts⟩ (c_M_wordI l (nI 7) ((nI 8) + (f_M_bits hh 4 2)) (nI 3) ((nI 8) + (f_M_bits hh 9 7)) (f_M_eights hh )) (cwS 5 hts (gS k_333 k_334 k_2 k_335) rfl rfl rfl (by decide +kernel) ⟨Nat.le_of_ble_eq_true rfl, Nat.le_of_ble_eq_true rfl⟩) pre0 rfl rfl hl.1 rfl (lv_room (Nat.le_of_ble_eq_true rfl)) d_M_quadrant0_148 ⟨Nat.zero_le _, Nat.zero_le _⟩) ?_
    exact W.iret hx hb hr (fun t ht _ => ⟨_, rfl, by rw [f_M_quadrant0, if_neg c1, if_pos c3], ht⟩) (fun q h => nomatch h) d_M_quadrant0_151
  by_cases c4 : (f_M_bits hh 15 13) = nI 2
  · refine lv_tableIn (tgt := 152) (off := 122) hx hb d_M_quadrant0_30 (by rw [c4]; decide +kernel) (by rw [c4]; decide +kernel) (by rw [c4]; decide +kernel) (by decide) ?_
    refine lv_iconst (v := nI 3) hx hb d_M_quadrant0_152 (by decide) ?_
    refine lv_iload_n hx hb d_M_quadrant0_153 rfl (lv_at hl 0 rfl) ?_
    refine lv_iconst (v := nI 2) hx hb d_M_quadrant0_154 (by decide) ?_
    refine lv_iload_n hx hb d_M_quadrant0_155 rfl (lv_at hl 1 rfl) ?_
    refine lv_aload_n hx hb d_M_quadrant0_156 rfl (lv_at hl 2 rfl) ?_
    refine callE (W.runV (b := h1) (As := []) (rest := [.int ((nI 8) + (f_M_bits hh 9 7)), .int (nI 2), .int ((nI 8) + (f_M_bits hh 4 2)), .int (nI 3)]) ⟨hx, hb, hml, hown, hts⟩ (c_M_fours l dC dI h1 hh ) (cwV 0 hts (gV awx k_342 k_344 ks_6 k_2 k_345) rfl rfl rfl (by decide +kernel) ⟨Nat.le_of_ble_eq_true rfl, Nat.le_of_ble_eq_true rfl⟩) (mo_pre hT) rfl rfl hl.1 rfl (lv_room (Nat.le_of_ble_eq_true rfl)) d_M_quadrant0_157 ⟨Nat.zero_le _, Nat.zero_le _⟩) ?_
    refine callE (W.runS (As := [.int (nI 3), .int ((nI 8) + (f_M_bits hh 4 2)), .int (nI 2), .int ((nI 8) + (f_M_bits hh 9 7)), .int (f_M_fours hh )]) (rest := []) ⟨hx, hb, hml, hown, hts⟩ (c_M_wordI l (nI 3) ((nI 8) + (f_M_bits hh 4 2)) (nI 2) ((nI 8) + (f_M_bits hh 9 7)) (f_M_fours hh )) (cwS 5 hts (gS k_333 k_334 k_2 k_335) rfl rfl rfl (by decide +kernel) ⟨Nat.le_of_ble_eq_true rfl, Nat.le_of_ble_eq_true rfl⟩) pre0 rfl rfl hl.1 rfl (lv_room (Nat.le_of_ble_eq_true rfl)) d_M_quadrant0_160 ⟨Nat.zero_le _, Nat.zero_le _⟩) ?_
    exact W.iret hx hb hr (fun t ht _ => ⟨_, rfl, by rw [f_M_quadrant0, if_neg c1, if_neg c3, if_pos c4], ht⟩) (fun q h => nomatch h) d_M_quadrant0_163
  by_cases c5 : (f_M_bits hh 15 13) = nI 3
  · refine lv_tableIn (tgt := 164) (off := 134) hx hb d_M_quadrant0_30 (by rw [c5]; decide +kernel) (by rw [c5]; decide +kernel) (by rw [c5]; decide +kernel) (by decide) ?_
    refine lv_iconst (v := nI 3) hx hb d_M_quadrant0_164 (by decide) ?_
    refine lv_iload_n hx hb d_M_quadrant0_165 rfl (lv_at hl 0 rfl) ?_
    refine lv_iconst (v := nI 3) hx hb d_M_quadrant0_166 (by decide) ?_
    refine lv_iload_n hx hb d_M_quadrant0_167 rfl (lv_at hl 1 rfl) ?_
    refine lv_aload_n hx hb d_M_quadrant0_168 rfl (lv_at hl 2 rfl) ?_
    refine callE (W.runV (b := h1) (As := []) (rest := [.int ((nI 8) + (f_M_bits hh 9 7)), .int (nI 3), .int ((nI 8) + (f_M_bits hh 4 2)), .int (nI 3)]) ⟨hx, hb, hml, hown, hts⟩ (c_M_eights l dC dI h1 hh ) (cwV 0 hts (gV awx k_338 k_340 ks_5 k_2 k_341) rfl rfl rfl (by decide +kernel) ⟨Nat.le_of_ble_eq_true rfl, Nat.le_of_ble_eq_true rfl⟩) (mo_pre hT) rfl rfl hl.1 rfl (lv_room (Nat.le_of_ble_eq_true rfl)) d_M_quadrant0_169 ⟨Nat.zero_le _, Nat.zero_le _⟩) ?_
    refine callE (W.runS (As := [.int (nI 3), .int ((nI 8) + (f_M_bits hh 4 2)), .int (nI 3), .int ((nI 8) + (f_M_bits hh 9 7)), .int (f_M_eights hh )]) (rest := []) ⟨hx, hb, hml, hown, hts⟩ (c_M_wordI l (nI 3) ((nI 8) + (f_M_bits hh 4 2)) (nI 3) ((nI 8) + (f_M_bits hh 9 7)) (f_M_eights hh )) (cwS 5 hts (gS k_333 k_334 k_2 k_335) rfl rfl rfl (by decide +kernel) ⟨Nat.le_of_ble_eq_true rfl, Nat.le_of_ble_eq_true rfl⟩) pre0 rfl rfl hl.1 rfl (lv_room (Nat.le_of_ble_eq_true rfl)) d_M_quadrant0_172 ⟨Nat.zero_le _, Nat.zero_le _⟩) ?_
    exact W.iret hx hb hr (fun t ht _ => ⟨_, rfl, by rw [f_M_quadrant0, if_neg c1, if_neg c3, if_neg c4, if_pos c5], ht⟩) (fun q h => nomatch h) d_M_quadrant0_175
  by_cases c6 : (f_M_bits hh 15 13) = nI 4
  · refine lv_tableIn (tgt := 215) (off := 185) hx hb d_M_quadrant0_30 (by rw [c6]; decide +kernel) (by rw [c6]; decide +kernel) (by rw [c6]; decide +kernel) (by decide) ?_
    refine lv_iconst (v := nI 0) hx hb d_M_quadrant0_215 (by decide) ?_
    exact W.iret hx hb hr (fun t ht _ => ⟨_, rfl, by rw [f_M_quadrant0, if_neg c1, if_neg c3, if_neg c4, if_neg c5, if_pos c6], ht⟩) (fun q h => nomatch h) d_M_quadrant0_216
  by_cases c7 : (f_M_bits hh 15 13) = nI 5
  · refine lv_tableIn (tgt := 176) (off := 146) hx hb d_M_quadrant0_30 (by rw [c7]; decide +kernel) (by rw [c7]; decide +kernel) (by rw [c7]; decide +kernel) (by decide) ?_
    refine lv_bipush (v := nI 39) hx hb d_M_quadrant0_176 (by decide) ?_
    refine lv_iconst (v := nI 3) hx hb d_M_quadrant0_178 (by decide) ?_
    refine lv_iload_n hx hb d_M_quadrant0_179 rfl (lv_at hl 1 rfl) ?_
    refine lv_iload_n hx hb d_M_quadrant0_180 rfl (lv_at hl 0 rfl) ?_
    refine lv_aload_n hx hb d_M_quadrant0_181 rfl (lv_at hl 2 rfl) ?_
    refine callE (W.runV (b := h1) (As := []) (rest := [.int ((nI 8) + (f_M_bits hh 4 2)), .int ((nI 8) + (f_M_bits hh 9 7)), .int (nI 3), .int (nI 39)]) ⟨hx, hb, hml, hown, hts⟩ (c_M_eights l dC dI h1 hh ) (cwV 0 hts (gV awx k_338 k_340 ks_5 k_2 k_341) rfl rfl rfl (by decide +kernel) ⟨Nat.le_of_ble_eq_true rfl, Nat.le_of_ble_eq_true rfl⟩) (mo_pre hT) rfl rfl hl.1 rfl (lv_room (Nat.le_of_ble_eq_true rfl)) d_M_quadrant0_182 ⟨Nat.zero_le _, Nat.zero_le _⟩) ?_
    refine callE (W.runS (As := [.int (nI 39), .int (nI 3), .int ((nI 8) + (f_M_bits hh 9 7)), .int ((nI 8) + (f_M_bits hh 4 2)), .int (f_M_eights hh )]) (rest := []) ⟨hx, hb, hml, hown, hts⟩ (c_M_wordS l (nI 39) (nI 3) ((nI 8) + (f_M_bits hh 9 7)) ((nI 8) + (f_M_bits hh 4 2)) (f_M_eights hh )) (cwS 5 hts (gS k_346 k_347 k_2 k_348) rfl rfl rfl (by decide +kernel) ⟨Nat.le_of_ble_eq_true rfl, Nat.le_of_ble_eq_true rfl⟩) pre0 rfl rfl hl.1 rfl (lv_room (Nat.le_of_ble_eq_true rfl)) d_M_quadrant0_185 ⟨Nat.zero_le _, Nat.zero_le _⟩) ?_
    exact W.iret hx hb hr (fun t ht _ => ⟨_, rfl, by rw [f_M_quadrant0, if_neg c1, if_neg c3, if_neg c4, if_neg c5, if_neg c6, if_pos c7], ht⟩) (fun q h => nomatch h) d_M_quadrant0_188
  by_cases c8 : (f_M_bits hh 15 13) = nI 6
  · refine lv_tableIn (tgt := 189) (off := 159) hx hb d_M_quadrant0_30 (by rw [c8]; decide +kernel) (by rw [c8]; decide +kernel) (by rw [c8]; decide +kernel) (by decide) ?_
    refine lv_bipush (v := nI 35) hx hb d_M_quadrant0_189 (by decide) ?_
    refine lv_iconst (v := nI 2) hx hb d_M_quadrant0_191 (by decide) ?_
    refine lv_iload_n hx hb d_M_quadrant0_192 rfl (lv_at hl 1 rfl) ?_
    refine lv_iload_n hx hb d_M_quadrant0_193 rfl (lv_at hl 0 rfl) ?_
    refine lv_aload_n hx hb d_M_quadrant0_194 rfl (lv_at hl 2 rfl) ?_
    refine callE (W.runV (b := h1) (As := []) (rest := [.int ((nI 8) + (f_M_bits hh 4 2)), .int ((nI 8) + (f_M_bits hh 9 7)), .int (nI 2), .int (nI 35)]) ⟨hx, hb, hml, hown, hts⟩ (c_M_fours l dC dI h1 hh ) (cwV 0 hts (gV awx k_342 k_344 ks_6 k_2 k_345) rfl rfl rfl (by decide +kernel) ⟨Nat.le_of_ble_eq_true rfl, Nat.le_of_ble_eq_true rfl⟩) (mo_pre hT) rfl rfl hl.1 rfl (lv_room (Nat.le_of_ble_eq_true rfl)) d_M_quadrant0_195 ⟨Nat.zero_le _, Nat.zero_le _⟩) ?_
    refine callE (W.runS (As := [.int (nI 35), .int (nI 2), .int ((nI 8) + (f_M_bits hh 9 7)), .int ((nI 8) + (f_M_bits hh 4 2)), .int (f_M_fours hh )]) (rest := []) ⟨hx, hb, hml, hown, hts⟩ (c_M_wordS l (nI 35) (nI 2) ((nI 8) + (f_M_bits hh 9 7)) ((nI 8) + (f_M_bits hh 4 2)) (f_M_fours hh )) (cwS 5 hts (gS k_346 k_347 k_2 k_348) rfl rfl rfl (by decide +kernel) ⟨Nat.le_of_ble_eq_true rfl, Nat.le_of_ble_eq_true rfl⟩) pre0 rfl rfl hl.1 rfl (lv_room (Nat.le_of_ble_eq_true rfl)) d_M_quadrant0_198 ⟨Nat.zero_le _, Nat.zero_le _⟩) ?_
    exact W.iret hx hb hr (fun t ht _ => ⟨_, rfl, by rw [f_M_quadrant0, if_neg c1, if_neg c3, if_neg c4, if_neg c5, if_neg c6, if_neg c7, if_pos c8], ht⟩) (fun q h => nomatch h) d_M_quadrant0_201
  by_cases c9 : (f_M_bits hh 15 13) = nI 7
  · refine lv_tableIn (tgt := 202) (off := 172) hx hb d_M_quadrant0_30 (by rw [c9]; decide +kernel) (by rw [c9]; decide +kernel) (by rw [c9]; decide +kernel) (by decide) ?_
    refine lv_bipush (v := nI 35) hx hb d_M_quadrant0_202 (by decide) ?_
    refine lv_iconst (v := nI 3) hx hb d_M_quadrant0_204 (by decide) ?_
    refine lv_iload_n hx hb d_M_quadrant0_205 rfl (lv_at hl 1 rfl) ?_
    refine lv_iload_n hx hb d_M_quadrant0_206 rfl (lv_at hl 0 rfl) ?_
    refine lv_aload_n hx hb d_M_quadrant0_207 rfl (lv_at hl 2 rfl) ?_
    refine callE (W.runV (b := h1) (As := []) (rest := [.int ((nI 8) + (f_M_bits hh 4 2)), .int ((nI 8) + (f_M_bits hh 9 7)), .int (nI 3), .int (nI 35)]) ⟨hx, hb, hml, hown, hts⟩ (c_M_eights l dC dI h1 hh ) (cwV 0 hts (gV awx k_338 k_340 ks_5 k_2 k_341) rfl rfl rfl (by decide +kernel) ⟨Nat.le_of_ble_eq_true rfl, Nat.le_of_ble_eq_true rfl⟩) (mo_pre hT) rfl rfl hl.1 rfl (lv_room (Nat.le_of_ble_eq_true rfl)) d_M_quadrant0_208 ⟨Nat.zero_le _, Nat.zero_le _⟩) ?_
    refine callE (W.runS (As := [.int (nI 35), .int (nI 3), .int ((nI 8) + (f_M_bits hh 9 7)), .int ((nI 8) + (f_M_bits hh 4 2)), .int (f_M_eights hh )]) (rest := []) ⟨hx, hb, hml, hown, hts⟩ (c_M_wordS l (nI 35) (nI 3) ((nI 8) + (f_M_bits hh 9 7)) ((nI 8) + (f_M_bits hh 4 2)) (f_M_eights hh )) (cwS 5 hts (gS k_346 k_347 k_2 k_348) rfl rfl rfl (by decide +kernel) ⟨Nat.le_of_ble_eq_true rfl, Nat.le_of_ble_eq_true rfl⟩) pre0 rfl rfl hl.1 rfl (lv_room (Nat.le_of_ble_eq_true rfl)) d_M_quadrant0_211 ⟨Nat.zero_le _, Nat.zero_le _⟩) ?_
    exact W.iret hx hb hr (fun t ht _ => ⟨_, rfl, by rw [f_M_quadrant0, if_neg c1, if_neg c3, if_neg c4, if_neg c5, if_neg c6, if_neg c7, if_neg c8, if_pos c9], ht⟩) (fun q h => nomatch h) d_M_quadrant0_214
  have c1z := lv_neT (a := 0) c1 (by decide)
  have c3z := lv_neT (a := 1) c3 (by decide)
  have c4z := lv_neT (a := 2) c4 (by decide)
  have c5z := lv_neT (a := 3) c5 (by decide)
  have c6z := lv_neT (a := 4) c6 (by decide)
  have c7z := lv_neT (a := 5) c7 (by decide)
  have c8z := lv_neT (a := 6) c8 (by decide)
  have c9z := lv_neT (a := 7) c9 (by decide)
  refine lv_tableOut (tgt := 215) hx hb d_M_quadrant0_30 (by omega) (by decide) ?_
  refine lv_iconst (v := nI 0) hx hb d_M_quadrant0_215 (by decide) ?_
  exact W.iret hx hb hr (fun t ht _ => ⟨_, rfl, by rw [f_M_quadrant0, if_neg c1, if_neg c3, if_neg c4, if_neg c5, if_neg c6, if_neg c7, if_neg c8, if_neg c9], ht⟩) (fun q h => nomatch h) d_M_quadrant0_216
