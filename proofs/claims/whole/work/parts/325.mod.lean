set_option maxHeartbeats 40000000 in
set_option maxRecDepth 100000 in
theorem c_M_arithmetic (l : Launch) (dC : Nat → ClassId) (dI : Nat → Nat → Nat) (h1 : Nat) (hh : Int32) : Met l y_M_arithmetic w_M_arithmetic { frames := 3, cells := 0, slots := 0, locals := 64 } (va_Pc [.ref h1] (mo dC dI h1 hh)) (vp_Si (fun r => r = f_M_arithmetic hh)) 0 0 (fun _ => False) := by
  refine Met.ofW (cc := b_M_arithmetic) (maxL := 4) (ret := (some .int)) (by decide) rfl ?_
  intro p e s m args below meth c s₁ B hml hv
  obtain ⟨rfl, hT⟩ := hv
  have hx := B.exec
  have hb := B.bytes
  have hr := B.returns
  have hts := atoms_spec (ws := w_M_arithmetic) B.pre
  have hown : s.vm.findClass R_M = some m.cls := findClass_of_methodNamed B.named
  have hlocks := B.notSynchronized
  have hl := lv_entry ([.ref h1]) (n := 4) (Nat.le_of_ble_eq_true rfl)
  rw [lg_entry_eq]
  generalize (lg_sl ([.ref h1]) ++ List.replicate (4 - (lg_sl ([.ref h1])).length) Slot.unset).toArray = ls at hl ⊢
  have hl : lv_has ls 4 [(0, .ref h1)] := hl
  obtain ⟨th, wt, fi, wo, le, wn, hP, hK⟩ := id hT
  have hP : va_P (dC, dI) classes [(h1, .inr (1, [.int th, .int hh, .int wt, .int fi, .int wo, .int le, .int wn]))] s.heap := hP
  refine lv_bipush (v := nI 8) hx hb d_M_arithmetic_0 (by decide) ?_
  refine lv_aload_n hx hb d_M_arithmetic_2 rfl (lv_at hl 0 rfl) ?_
  refine lv_bipush (v := nI 9) hx hb d_M_arithmetic_3 (by decide) ?_
  refine lv_bipush (v := nI 7) hx hb d_M_arithmetic_5 (by decide) ?_
  refine callE (W.runV (b := h1) (As := [.int (nI 9), .int (nI 7)]) (rest := [.int (nI 8)]) ⟨hx, hb, hml, hown, hts⟩ (c_M_bits l dC dI h1 hh 9 7 (by decide) (by decide) (by decide)) (cwV 2 hts (gV awx k_329 k_331 ks_4 k_2 k_332) rfl rfl rfl (by decide +kernel) ⟨Nat.le_of_ble_eq_true rfl, Nat.le_of_ble_eq_true rfl⟩) (mo_pre hT) rfl rfl hl.1 rfl (lv_room (Nat.le_of_ble_eq_true rfl)) d_M_arithmetic_7 ⟨Nat.zero_le _, Nat.zero_le _⟩) ?_
  refine lv_iadd hx hb d_M_arithmetic_10 ?_
  refine lv_istore_n (lv' := [(1, .int ((nI 8) + (f_M_bits hh 9 7))), (0, .ref h1)]) hx hb d_M_arithmetic_11 rfl hl (by decide) rfl (fun ls hl => ?_)
  refine lv_bipush (v := nI 8) hx hb d_M_arithmetic_12 (by decide) ?_
  refine lv_aload_n hx hb d_M_arithmetic_14 rfl (lv_at hl 1 rfl) ?_
  refine lv_iconst (v := nI 4) hx hb d_M_arithmetic_15 (by decide) ?_
  refine lv_iconst (v := nI 2) hx hb d_M_arithmetic_16 (by decide) ?_
  refine callE (W.runV (b := h1) (As := [.int (nI 4), .int (nI 2)]) (rest := [.int (nI 8)]) ⟨hx, hb, hml, hown, hts⟩ (c_M_bits l dC dI h1 hh 4 2 (by decide) (by decide) (by decide)) (cwV 2 hts (gV awx k_329 k_331 ks_4 k_2 k_332) rfl rfl rfl (by decide +kernel) ⟨Nat.le_of_ble_eq_true rfl, Nat.le_of_ble_eq_true rfl⟩) (mo_pre hT) rfl rfl hl.1 rfl (lv_room (Nat.le_of_ble_eq_true rfl)) d_M_arithmetic_17 ⟨Nat.zero_le _, Nat.zero_le _⟩) ?_
  refine lv_iadd hx hb d_M_arithmetic_20 ?_
  refine lv_istore_n (lv' := [(2, .int ((nI 8) + (f_M_bits hh 4 2))), (1, .int ((nI 8) + (f_M_bits hh 9 7))), (0, .ref h1)]) hx hb d_M_arithmetic_21 rfl hl (by decide) rfl (fun ls hl => ?_)
  refine lv_aload_n hx hb d_M_arithmetic_22 rfl (lv_at hl 2 rfl) ?_
  refine lv_bipush (v := nI 11) hx hb d_M_arithmetic_23 (by decide) ?_
  refine lv_bipush (v := nI 10) hx hb d_M_arithmetic_25 (by decide) ?_
  refine callE (W.runV (b := h1) (As := [.int (nI 11), .int (nI 10)]) (rest := []) ⟨hx, hb, hml, hown, hts⟩ (c_M_bits l dC dI h1 hh 11 10 (by decide) (by decide) (by decide)) (cwV 2 hts (gV awx k_329 k_331 ks_4 k_2 k_332) rfl rfl rfl (by decide +kernel) ⟨Nat.le_of_ble_eq_true rfl, Nat.le_of_ble_eq_true rfl⟩) (mo_pre hT) rfl rfl hl.1 rfl (lv_room (Nat.le_of_ble_eq_true rfl)) d_M_arithmetic_27 ⟨Nat.zero_le _, Nat.zero_le _⟩) ?_
  refine lv_istore_n (lv' := [(3, .int (f_M_bits hh 11 10)), (2, .int ((nI 8) + (f_M_bits hh 4 2))), (1, .int ((nI 8) + (f_M_bits hh 9 7))), (0, .ref h1)]) hx hb d_M_arithmetic_30 rfl hl (by decide) rfl (fun ls hl => ?_)
  refine lv_iload_n hx hb d_M_arithmetic_31 rfl (lv_at hl 0 rfl) ?_
  refine lv_iconst (v := nI 2) hx hb d_M_arithmetic_32 (by decide) ?_
  refine lv_icmp_ge (tgt := 55) hx hb d_M_arithmetic_33 (by decide) (fun c1 => ?_) (fun c1 => ?_)
  · refine lv_iload_n hx hb d_M_arithmetic_55 rfl (lv_at hl 0 rfl) ?_
    refine lv_iconst (v := nI 2) hx hb d_M_arithmetic_56 (by decide) ?_
    refine lv_icmp_ne (tgt := 74) hx hb d_M_arithmetic_57 (by decide) (fun c2 => ?_) (fun c2 => ?_)
    · refine lv_iconst (v := nI 4) hx hb d_M_arithmetic_74 (by decide) ?_
      refine lv_aload_n hx hb d_M_arithmetic_75 rfl (lv_at hl 3 rfl) ?_
      refine lv_bipush (v := nI 12) hx hb d_M_arithmetic_76 (by decide) ?_
      refine lv_bipush (v := nI 12) hx hb d_M_arithmetic_78 (by decide) ?_
      refine callE (W.runV (b := h1) (As := [.int (nI 12), .int (nI 12)]) (rest := [.int (nI 4)]) ⟨hx, hb, hml, hown, hts⟩ (c_M_bits l dC dI h1 hh 12 12 (by decide) (by decide) (by decide)) (cwV 2 hts (gV awx k_329 k_331 ks_4 k_2 k_332) rfl rfl rfl (by decide +kernel) ⟨Nat.le_of_ble_eq_true rfl, Nat.le_of_ble_eq_true rfl⟩) (mo_pre hT) rfl rfl hl.1 rfl (lv_room (Nat.le_of_ble_eq_true rfl)) d_M_arithmetic_80 ⟨Nat.zero_le _, Nat.zero_le _⟩) ?_
      refine lv_imul hx hb d_M_arithmetic_83 ?_
      refine lv_aload_n hx hb d_M_arithmetic_84 rfl (lv_at hl 3 rfl) ?_
      refine lv_bipush (v := nI 6) hx hb d_M_arithmetic_85 (by decide) ?_
      refine lv_iconst (v := nI 5) hx hb d_M_arithmetic_87 (by decide) ?_
      refine callE (W.runV (b := h1) (As := [.int (nI 6), .int (nI 5)]) (rest := [.int ((nI 4) * (f_M_bits hh 12 12))]) ⟨hx, hb, hml, hown, hts⟩ (c_M_bits l dC dI h1 hh 6 5 (by decide) (by decide) (by decide)) (cwV 2 hts (gV awx k_329 k_331 ks_4 k_2 k_332) rfl rfl rfl (by decide +kernel) ⟨Nat.le_of_ble_eq_true rfl, Nat.le_of_ble_eq_true rfl⟩) (mo_pre hT) rfl rfl hl.1 rfl (lv_room (Nat.le_of_ble_eq_true rfl)) d_M_arithmetic_88 ⟨Nat.zero_le _, Nat.zero_le _⟩) ?_
      refine lv_iadd hx hb d_M_arithmetic_91 ?_
      by_cases c3 : (((nI 4) * (f_M_bits hh 12 12)) + (f_M_bits hh 6 5)) = nI 0
      · refine lv_tableIn (tgt := 132) (off := 40) hx hb d_M_arithmetic_92 (by rw [c3]; decide +kernel) (by rw [c3]; decide +kernel) (by rw [c3]; decide +kernel) (by decide) ?_
        refine lv_bipush (v := nI 51) hx hb d_M_arithmetic_132 (by decide) ?_
        refine lv_iload_n hx hb d_M_arithmetic_134 rfl (lv_at hl 2 rfl) ?_
        refine lv_iconst (v := nI 0) hx hb d_M_arithmetic_135 (by decide) ?_
        refine lv_iload_n hx hb d_M_arithmetic_136 rfl (lv_at hl 2 rfl) ?_
        refine lv_iload_n hx hb d_M_arithmetic_137 rfl (lv_at hl 1 rfl) ?_
        refine lv_bipush (v := nI 32) hx hb d_M_arithmetic_138 (by decide) ?_
        refine callE (W.runS (As := [.int (nI 51), .int ((nI 8) + (f_M_bits hh 9 7)), .int (nI 0), .int ((nI 8) + (f_M_bits hh 9 7)), .int ((nI 8) + (f_M_bits hh 4 2)), .int (nI 32)]) (rest := []) ⟨hx, hb, hml, hown, hts⟩ (c_M_wordR l (nI 51) ((nI 8) + (f_M_bits hh 9 7)) (nI 0) ((nI 8) + (f_M_bits hh 9 7)) ((nI 8) + (f_M_bits hh 4 2)) (nI 32)) (cwS 6 hts (gS k_370 k_371 k_2 k_372) rfl rfl rfl (by decide +kernel) ⟨Nat.le_of_ble_eq_true rfl, Nat.le_of_ble_eq_true rfl⟩) pre0 rfl rfl hl.1 rfl (lv_room (Nat.le_of_ble_eq_true rfl)) d_M_arithmetic_140 ⟨Nat.zero_le _, Nat.zero_le _⟩) ?_
        exact W.iret hx hb hr (fun t ht _ => ⟨_, rfl, by rw [f_M_arithmetic, if_pos c1, if_neg c2, if_pos c3], ht⟩) (fun q h => nomatch h) d_M_arithmetic_143
      by_cases c4 : (((nI 4) * (f_M_bits hh 12 12)) + (f_M_bits hh 6 5)) = nI 1
      · refine lv_tableIn (tgt := 144) (off := 52) hx hb d_M_arithmetic_92 (by rw [c4]; decide +kernel) (by rw [c4]; decide +kernel) (by rw [c4]; decide +kernel) (by decide) ?_
        refine lv_bipush (v := nI 51) hx hb d_M_arithmetic_144 (by decide) ?_
        refine lv_iload_n hx hb d_M_arithmetic_146 rfl (lv_at hl 2 rfl) ?_
        refine lv_iconst (v := nI 4) hx hb d_M_arithmetic_147 (by decide) ?_
        refine lv_iload_n hx hb d_M_arithmetic_148 rfl (lv_at hl 2 rfl) ?_
        refine lv_iload_n hx hb d_M_arithmetic_149 rfl (lv_at hl 1 rfl) ?_
        refine lv_iconst (v := nI 0) hx hb d_M_arithmetic_150 (by decide) ?_
        refine callE (W.runS (As := [.int (nI 51), .int ((nI 8) + (f_M_bits hh 9 7)), .int (nI 4), .int ((nI 8) + (f_M_bits hh 9 7)), .int ((nI 8) + (f_M_bits hh 4 2)), .int (nI 0)]) (rest := []) ⟨hx, hb, hml, hown, hts⟩ (c_M_wordR l (nI 51) ((nI 8) + (f_M_bits hh 9 7)) (nI 4) ((nI 8) + (f_M_bits hh 9 7)) ((nI 8) + (f_M_bits hh 4 2)) (nI 0)) (cwS 6 hts (gS k_370 k_371 k_2 k_372) rfl rfl rfl (by decide +kernel) ⟨Nat.le_of_ble_eq_true rfl, Nat.le_of_ble_eq_true rfl⟩) pre0 rfl rfl hl.1 rfl (lv_room (Nat.le_of_ble_eq_true rfl)) d_M_arithmetic_151 ⟨Nat.zero_le _, Nat.zero_le _⟩) ?_
        exact W.iret hx hb hr (fun t ht _ => ⟨_, rfl, by rw [f_M_arithmetic, if_pos c1, if_neg c2, if_neg c3, if_pos c4], ht⟩) (fun q h => nomatch h) d_M_arithmetic_154
      by_cases c5 : (((nI 4) * (f_M_bits hh 12 12)) + (f_M_bits hh 6 5)) = nI 2
      · refine lv_tableIn (tgt := 155) (off := 63) hx hb d_M_arithmetic_92 (by rw [c5]; decide +kernel) (by rw [c5]; decide +kernel) (by rw [c5]; decide +kernel) (by decide) ?_
        refine lv_bipush (v := nI 51) hx hb d_M_arithmetic_155 (by decide) ?_
        refine lv_iload_n hx hb d_M_arithmetic_157 rfl (lv_at hl 2 rfl) ?_
        refine lv_bipush (v := nI 6) hx hb d_M_arithmetic_158 (by decide) ?_
        refine lv_iload_n hx hb d_M_arithmetic_160 rfl (lv_at hl 2 rfl) ?_
        refine lv_iload_n hx hb d_M_arithmetic_161 rfl (lv_at hl 1 rfl) ?_
        refine lv_iconst (v := nI 0) hx hb d_M_arithmetic_162 (by decide) ?_
        refine callE (W.runS (As := [.int (nI 51), .int ((nI 8) + (f_M_bits hh 9 7)), .int (nI 6), .int ((nI 8) + (f_M_bits hh 9 7)), .int ((nI 8) + (f_M_bits hh 4 2)), .int (nI 0)]) (rest := []) ⟨hx, hb, hml, hown, hts⟩ (c_M_wordR l (nI 51) ((nI 8) + (f_M_bits hh 9 7)) (nI 6) ((nI 8) + (f_M_bits hh 9 7)) ((nI 8) + (f_M_bits hh 4 2)) (nI 0)) (cwS 6 hts (gS k_370 k_371 k_2 k_372) rfl rfl rfl (by decide +kernel) ⟨Nat.le_of_ble_eq_true rfl, Nat.le_of_ble_eq_true rfl⟩) pre0 rfl rfl hl.1 rfl (lv_room (Nat.le_of_ble_eq_true rfl)) d_M_arithmetic_163 ⟨Nat.zero_le _, Nat.zero_le _⟩) ?_
        exact W.iret hx hb hr (fun t ht _ => ⟨_, rfl, by rw [f_M_arithmetic, if_pos c1, if_neg c2, if_neg c3, if_neg c4, if_pos c5], ht⟩) (fun q h => nomatch h) d_M_arithmetic_166
      by_cases c6 : (((nI 4) * (f_M_bits hh 12 12)) + (f_M_bits hh 6 5)) = nI 3
      · refine lv_tableIn (tgt := 167) (off := 75) hx hb d_M_arithmetic_92 (by rw [c6]; decide +kernel) (by rw [c6]; decide +kernel) (by rw [c6]; decide +kernel) (by decide) ?_
        refine lv_bipush (v := nI 51) hx hb d_M_arithmetic_167 (by decide) ?_
        refine lv_iload_n hx hb d_M_arithmetic_169 rfl (lv_at hl 2 rfl) ?_
        refine lv_bipush (v := nI 7) hx hb d_M_arithmetic_170 (by decide) ?_
        refine lv_iload_n hx hb d_M_arithmetic_172 rfl (lv_at hl 2 rfl) ?_
        refine lv_iload_n hx hb d_M_arithmetic_173 rfl (lv_at hl 1 rfl) ?_
        refine lv_iconst (v := nI 0) hx hb d_M_arithmetic_174 (by decide) ?_
        refine callE (W.runS (As := [.int (nI 51), .int ((nI 8) + (f_M_bits hh 9 7)), .int (nI 7), .int ((nI 8) + (f_M_bits hh 9 7)), .int ((nI 8) + (f_M_bits hh 4 2)), .int (nI 0)]) (rest := []) ⟨hx, hb, hml, hown, hts⟩ (c_M_wordR l (nI 51) ((nI 8) + (f_M_bits hh 9 7)) (nI 7) ((nI 8) + (f_M_bits hh 9 7)) ((nI 8) + (f_M_bits hh 4 2)) (nI 0)) (cwS 6 hts (gS k_370 k_371 k_2 k_372) rfl rfl rfl (by decide +kernel) ⟨Nat.le_of_ble_eq_true rfl, Nat.le_of_ble_eq_true rfl⟩) pre0 rfl rfl hl.1 rfl (lv_room (Nat.le_of_ble_eq_true rfl)) d_M_arithmetic_175 ⟨Nat.zero_le _, Nat.zero_le _⟩) ?_
        exact W.iret hx hb hr (fun t ht _ => ⟨_, rfl, by rw [f_M_arithmetic, if_pos c1, if_neg c2, if_neg c3, if_neg c4, if_neg c5, if_pos c6], ht⟩) (fun q h => nomatch h) d_M_arithmetic_178
      by_cases c7 : (((nI 4) * (f_M_bits hh 12 12)) + (f_M_bits hh 6 5)) = nI 4
      · refine lv_tableIn (tgt := 179) (off := 87) hx hb d_M_arithmetic_92 (by rw [c7]; decide +kernel) (by rw [c7]; decide +kernel) (by rw [c7]; decide +kernel) (by decide) ?_
        refine lv_bipush (v := nI 59) hx hb d_M_arithmetic_179 (by decide) ?_
        refine lv_iload_n hx hb d_M_arithmetic_181 rfl (lv_at hl 2 rfl) ?_
        refine lv_iconst (v := nI 0) hx hb d_M_arithmetic_182 (by decide) ?_
        refine lv_iload_n hx hb d_M_arithmetic_183 rfl (lv_at hl 2 rfl) ?_
        refine lv_iload_n hx hb d_M_arithmetic_184 rfl (lv_at hl 1 rfl) ?_
        refine lv_bipush (v := nI 32) hx hb d_M_arithmetic_185 (by decide) ?_
        refine callE (W.runS (As := [.int (nI 59), .int ((nI 8) + (f_M_bits hh 9 7)), .int (nI 0), .int ((nI 8) + (f_M_bits hh 9 7)), .int ((nI 8) + (f_M_bits hh 4 2)), .int (nI 32)]) (rest := []) ⟨hx, hb, hml, hown, hts⟩ (c_M_wordR l (nI 59) ((nI 8) + (f_M_bits hh 9 7)) (nI 0) ((nI 8) + (f_M_bits hh 9 7)) ((nI 8) + (f_M_bits hh 4 2)) (nI 32)) (cwS 6 hts (gS k_370 k_371 k_2 k_372) rfl rfl rfl (by decide +kernel) ⟨Nat.le_of_ble_eq_true rfl, Nat.le_of_ble_eq_true rfl⟩) pre0 rfl rfl hl.1 rfl (lv_room (Nat.le_of_ble_eq_true rfl)) d_M_arithmetic_187 ⟨Nat.zero_le _, Nat.zero_le _⟩) ?_
        exact W.iret hx hb hr (fun t ht _ => ⟨_, rfl, by rw [f_M_arithmetic, if_pos c1, if_neg c2, if_neg c3, if_neg c4, if_neg c5, if_neg c6, if_pos c7], ht⟩) (fun q h => nomatch h) d_M_arithmetic_190
      by_cases c8 : (((nI 4) * (f_M_bits hh 12 12)) + (f_M_bits hh 6 5)) = nI 5
      · refine lv_tableIn (tgt := 191) (off := 99) hx hb d_M_arithmetic_92 (by rw [c8]; decide +kernel) (by rw [c8]; decide +kernel) (by rw [c8]; decide +kernel) (by decide) ?_
        refine lv_bipush (v := nI 59) hx hb d_M_arithmetic_191 (by decide) ?_
        refine lv_iload_n hx hb d_M_arithmetic_193 rfl (lv_at hl 2 rfl) ?_
        refine lv_iconst (v := nI 0) hx hb d_M_arithmetic_194 (by decide) ?_
        refine lv_iload_n hx hb d_M_arithmetic_195 rfl (lv_at hl 2 rfl) ?_
        refine lv_iload_n hx hb d_M_arithmetic_196 rfl (lv_at hl 1 rfl) ?_
        refine lv_iconst (v := nI 0) hx hb d_M_arithmetic_197 (by decide) ?_
        refine callE (W.runS (As := [.int (nI 59), .int ((nI 8) + (f_M_bits hh 9 7)), .int (nI 0), .int ((nI 8) + (f_M_bits hh 9 7)), .int ((nI 8) + (f_M_bits hh 4 2)), .int (nI 0)]) (rest := []) ⟨hx, hb, hml, hown, hts⟩ (c_M_wordR l (nI 59) ((nI 8) + (f_M_bits hh 9 7)) (nI 0) ((nI 8) + (f_M_bits hh 9 7)) ((nI 8) + (f_M_bits hh 4 2)) (nI 0)) (cwS 6 hts (gS k_370 k_371 k_2 k_372) rfl rfl rfl (by decide +kernel) ⟨Nat.le_of_ble_eq_true rfl, Nat.le_of_ble_eq_true rfl⟩) pre0 rfl rfl hl.1 rfl (lv_room (Nat.le_of_ble_eq_true rfl)) d_M_arithmetic_198 ⟨Nat.zero_le _, Nat.zero_le _⟩) ?_
        exact W.iret hx hb hr (fun t ht _ => ⟨_, rfl, by rw [f_M_arithmetic, if_pos c1, if_neg c2, if_neg c3, if_neg c4, if_neg c5, if_neg c6, if_neg c7, if_pos c8], ht⟩) (fun q h => nomatch h) d_M_arithmetic_201
      have c3z := lv_neT (a := 0) c3 (by decide)
      have c4z := lv_neT (a := 1) c4 (by decide)
      have c5z := lv_neT (a := 2) c5 (by decide)
      have c6z := lv_neT (a := 3) c6 (by decide)
      have c7z := lv_neT (a := 4) c7 (by decide)
      have c8z := lv_neT (a := 5) c8 (by decide)
      refine lv_tableOut (tgt := 202) hx hb d_M_arithmetic_92 (by omega) (by decide) ?_
      refine lv_iconst (v := nI 0) hx hb d_M_arithmetic_202 (by decide) ?_
      exact W.iret hx hb hr (fun t ht _ => ⟨_, rfl, by rw [f_M_arithmetic, if_pos c1, if_neg c2, if_neg c3, if_neg c4, if_neg c5, if_neg c6, if_neg c7, if_neg c8], ht⟩) (fun q h => nomatch h) d_M_arithmetic_203
    · refine lv_bipush (v := nI 19) hx hb d_M_arithmetic_60 (by decide) ?_
      refine lv_iload_n hx hb d_M_arithmetic_62 rfl (lv_at hl 2 rfl) ?_
      refine lv_bipush (v := nI 7) hx hb d_M_arithmetic_63 (by decide) ?_
      refine lv_iload_n hx hb d_M_arithmetic_65 rfl (lv_at hl 2 rfl) ?_
      refine lv_aload_n hx hb d_M_arithmetic_66 rfl (lv_at hl 3 rfl) ?_
      refine callE (W.runV (b := h1) (As := []) (rest := [.int ((nI 8) + (f_M_bits hh 9 7)), .int (nI 7), .int ((nI 8) + (f_M_bits hh 9 7)), .int (nI 19)]) ⟨hx, hb, hml, hown, hts⟩ (c_M_signed l dC dI h1 hh ) (cwV 0 hts (gV awx k_354 k_356 ks_8 k_2 k_357) rfl rfl rfl (by decide +kernel) ⟨Nat.le_of_ble_eq_true rfl, Nat.le_of_ble_eq_true rfl⟩) (mo_pre hT) rfl rfl hl.1 rfl (lv_room (Nat.le_of_ble_eq_true rfl)) d_M_arithmetic_67 ⟨Nat.zero_le _, Nat.zero_le _⟩) ?_
      refine callE (W.runS (As := [.int (nI 19), .int ((nI 8) + (f_M_bits hh 9 7)), .int (nI 7), .int ((nI 8) + (f_M_bits hh 9 7)), .int (f_M_signed hh )]) (rest := []) ⟨hx, hb, hml, hown, hts⟩ (c_M_wordI l (nI 19) ((nI 8) + (f_M_bits hh 9 7)) (nI 7) ((nI 8) + (f_M_bits hh 9 7)) (f_M_signed hh )) (cwS 5 hts (gS k_333 k_334 k_2 k_335) rfl rfl rfl (by decide +kernel) ⟨Nat.le_of_ble_eq_true rfl, Nat.le_of_ble_eq_true rfl⟩) pre0 rfl rfl hl.1 rfl (lv_room (Nat.le_of_ble_eq_true rfl)) d_M_arithmetic_70 ⟨Nat.zero_le _, Nat.zero_le _⟩) ?_
      exact W.iret hx hb hr (fun t ht _ => ⟨_, rfl, by rw [f_M_arithmetic, if_pos c1, if_pos c2], ht⟩) (fun q h => nomatch h) d_M_arithmetic_73
  · refine lv_bipush (v := nI 19) hx hb d_M_arithmetic_36 (by decide) ?_
    refine lv_iload_n hx hb d_M_arithmetic_38 rfl (lv_at hl 2 rfl) ?_
    refine lv_iconst (v := nI 5) hx hb d_M_arithmetic_39 (by decide) ?_
    refine lv_iload_n hx hb d_M_arithmetic_40 rfl (lv_at hl 2 rfl) ?_
    refine lv_aload_n hx hb d_M_arithmetic_41 rfl (lv_at hl 3 rfl) ?_
    refine callE (W.runV (b := h1) (As := []) (rest := [.int ((nI 8) + (f_M_bits hh 9 7)), .int (nI 5), .int ((nI 8) + (f_M_bits hh 9 7)), .int (nI 19)]) ⟨hx, hb, hml, hown, hts⟩ (c_M_plain l dC dI h1 hh ) (cwV 0 hts (gV awx k_358 k_360 ks_9 k_2 k_361) rfl rfl rfl (by decide +kernel) ⟨Nat.le_of_ble_eq_true rfl, Nat.le_of_ble_eq_true rfl⟩) (mo_pre hT) rfl rfl hl.1 rfl (lv_room (Nat.le_of_ble_eq_true rfl)) d_M_arithmetic_42 ⟨Nat.zero_le _, Nat.zero_le _⟩) ?_
    refine lv_sipush (v := nI 1024) hx hb d_M_arithmetic_45 (by decide) ?_
    refine lv_iload_n hx hb d_M_arithmetic_48 rfl (lv_at hl 0 rfl) ?_
    refine lv_imul hx hb d_M_arithmetic_49 ?_
    refine lv_iadd hx hb d_M_arithmetic_50 ?_
    refine callE (W.runS (As := [.int (nI 19), .int ((nI 8) + (f_M_bits hh 9 7)), .int (nI 5), .int ((nI 8) + (f_M_bits hh 9 7)), .int ((f_M_plain hh ) + ((nI 1024) * (f_M_bits hh 11 10)))]) (rest := []) ⟨hx, hb, hml, hown, hts⟩ (c_M_wordI l (nI 19) ((nI 8) + (f_M_bits hh 9 7)) (nI 5) ((nI 8) + (f_M_bits hh 9 7)) ((f_M_plain hh ) + ((nI 1024) * (f_M_bits hh 11 10)))) (cwS 5 hts (gS k_333 k_334 k_2 k_335) rfl rfl rfl (by decide +kernel) ⟨Nat.le_of_ble_eq_true rfl, Nat.le_of_ble_eq_true rfl⟩) pre0 rfl rfl hl.1 rfl (lv_room (Nat.le_of_ble_eq_true rfl)) d_M_arithmetic_51 ⟨Nat.zero_le _, Nat.zero_le _⟩) ?_
    exact W.iret hx hb hr (fun t ht _ => ⟨_, rfl, by rw [f_M_arithmetic, if_neg c1], ht⟩) (fun q h => nomatch h) d_M_arithmetic_54
