set_option maxHeartbeats 40000000 in
set_option maxRecDepth 100000 in
theorem c_wordForArithmetic (l : Launch) (t : Nat → Nat) (a0 : Int32) : Met l y_S_wordForArithmetic w_S_wordForArithmetic { frames := 2, cells := 0, slots := 0, locals := 47 } (va_Pc [.int a0] (tb t)) (vp_Si (fun r => r = f_wordForArithmetic a0)) 0 0 (fun _ => False) := by
  refine Met.ofW (cc := b_S_wordForArithmetic) (maxL := 2) (ret := (some .int)) (by decide) rfl ?_
  intro p e s m args below meth c s₁ B hml hv
  obtain ⟨rfl, hT⟩ := hv
  have hx := B.exec
  have hb := B.bytes
  have hr := B.returns
  have hts := atoms_spec (ws := w_S_wordForArithmetic) B.pre
  have hown : s.vm.findClass R_S = some m.cls := findClass_of_methodNamed B.named
  have hlocks := B.notSynchronized
  have hl := lv_entry ([.int a0]) (n := 2) (Nat.le_of_ble_eq_true rfl)
  rw [lg_entry_eq]
  generalize (lg_sl ([.int a0]) ++ List.replicate (2 - (lg_sl ([.int a0])).length) Slot.unset).toArray = ls at hl ⊢
  have hl : lv_has ls 2 [(0, .int a0)] := hl
  refine lv_bipush (v := nI 8) hx hb d_S_wordForArithmetic_0 (by decide) ?_
  refine lv_iload_n hx hb d_S_wordForArithmetic_2 rfl (lv_at hl 0 rfl) ?_
  refine lv_bipush (v := nI 9) hx hb d_S_wordForArithmetic_3 (by decide) ?_
  refine lv_bipush (v := nI 7) hx hb d_S_wordForArithmetic_5 (by decide) ?_
  refine callE (W.runS (As := [.int a0, .int (nI 9), .int (nI 7)]) (rest := [.int (nI 8)]) ⟨hx, hb, hml, hown, hts⟩ (c_bits l t a0 (nI 9) (nI 7)) (cwS 3 hts (gS k_47 k_48 k_1 k_49) rfl rfl rfl (by decide +kernel) ⟨Nat.le_of_ble_eq_true rfl, Nat.le_of_ble_eq_true rfl⟩) (tb_pre hT) rfl rfl hl.1 rfl (lv_room (Nat.le_of_ble_eq_true rfl)) d_S_wordForArithmetic_7 ⟨Nat.zero_le _, Nat.zero_le _⟩) ?_
  refine lv_iadd hx hb d_S_wordForArithmetic_10 ?_
  refine lv_istore_n (lv' := [(1, .int ((nI 8) + (f_bits a0 (nI 9) (nI 7)))), (0, .int a0)]) hx hb d_S_wordForArithmetic_11 rfl hl (by decide) rfl (fun ls hl => ?_)
  refine lv_iload_n hx hb d_S_wordForArithmetic_12 rfl (lv_at hl 1 rfl) ?_
  refine lv_bipush (v := nI 11) hx hb d_S_wordForArithmetic_13 (by decide) ?_
  refine lv_bipush (v := nI 10) hx hb d_S_wordForArithmetic_15 (by decide) ?_
  refine callE (W.runS (As := [.int a0, .int (nI 11), .int (nI 10)]) (rest := []) ⟨hx, hb, hml, hown, hts⟩ (c_bits l t a0 (nI 11) (nI 10)) (cwS 3 hts (gS k_47 k_48 k_1 k_49) rfl rfl rfl (by decide +kernel) ⟨Nat.le_of_ble_eq_true rfl, Nat.le_of_ble_eq_true rfl⟩) (tb_pre hT) rfl rfl hl.1 rfl (lv_room (Nat.le_of_ble_eq_true rfl)) d_S_wordForArithmetic_17 ⟨Nat.zero_le _, Nat.zero_le _⟩) ?_
  by_cases c1 : (f_bits a0 (nI 11) (nI 10)) = nI 0
  · refine lv_tableIn (tgt := 48) (off := 28) hx hb d_S_wordForArithmetic_20 (by rw [c1]; decide +kernel) (by rw [c1]; decide +kernel) (by rw [c1]; decide +kernel) (by decide) ?_
    refine lv_bipush (v := nI 19) hx hb d_S_wordForArithmetic_48 (by decide) ?_
    refine lv_iload_n hx hb d_S_wordForArithmetic_50 rfl (lv_at hl 0 rfl) ?_
    refine lv_iconst (v := nI 5) hx hb d_S_wordForArithmetic_51 (by decide) ?_
    refine lv_iload_n hx hb d_S_wordForArithmetic_52 rfl (lv_at hl 0 rfl) ?_
    refine lv_iload_n hx hb d_S_wordForArithmetic_53 rfl (lv_at hl 1 rfl) ?_
    refine callE (W.runS (As := [.int a0]) (rest := [.int ((nI 8) + (f_bits a0 (nI 9) (nI 7))), .int (nI 5), .int ((nI 8) + (f_bits a0 (nI 9) (nI 7))), .int (nI 19)]) ⟨hx, hb, hml, hown, hts⟩ (c_unsignedImmediate l t a0) (cwS 1 hts (gS k_154 k_155 k_1 k_156) rfl rfl rfl (by decide +kernel) ⟨Nat.le_of_ble_eq_true rfl, Nat.le_of_ble_eq_true rfl⟩) (tb_pre hT) rfl rfl hl.1 rfl (lv_room (Nat.le_of_ble_eq_true rfl)) d_S_wordForArithmetic_54 ⟨Nat.zero_le _, Nat.zero_le _⟩) ?_
    refine callE (W.runS (As := [.int (nI 19), .int ((nI 8) + (f_bits a0 (nI 9) (nI 7))), .int (nI 5), .int ((nI 8) + (f_bits a0 (nI 9) (nI 7))), .int (f_unsignedImmediate a0)]) (rest := []) ⟨hx, hb, hml, hown, hts⟩ (c_formI l t (nI 19) ((nI 8) + (f_bits a0 (nI 9) (nI 7))) (nI 5) ((nI 8) + (f_bits a0 (nI 9) (nI 7))) (f_unsignedImmediate a0)) (cwS 5 hts (gS k_124 k_125 k_1 k_126) rfl rfl rfl (by decide +kernel) ⟨Nat.le_of_ble_eq_true rfl, Nat.le_of_ble_eq_true rfl⟩) (tb_pre hT) rfl rfl hl.1 rfl (lv_room (Nat.le_of_ble_eq_true rfl)) d_S_wordForArithmetic_57 ⟨Nat.zero_le _, Nat.zero_le _⟩) ?_
    exact W.iret hx hb hr (fun t ht _ => ⟨_, rfl, by rw [f_wordForArithmetic, if_pos c1], ht⟩) (fun q h => nomatch h) d_S_wordForArithmetic_60
  by_cases c2 : (f_bits a0 (nI 11) (nI 10)) = nI 1
  · refine lv_tableIn (tgt := 61) (off := 41) hx hb d_S_wordForArithmetic_20 (by rw [c2]; decide +kernel) (by rw [c2]; decide +kernel) (by rw [c2]; decide +kernel) (by decide) ?_
    refine lv_bipush (v := nI 19) hx hb d_S_wordForArithmetic_61 (by decide) ?_
    refine lv_iload_n hx hb d_S_wordForArithmetic_63 rfl (lv_at hl 0 rfl) ?_
    refine lv_iconst (v := nI 5) hx hb d_S_wordForArithmetic_64 (by decide) ?_
    refine lv_iload_n hx hb d_S_wordForArithmetic_65 rfl (lv_at hl 0 rfl) ?_
    refine lv_iload_n hx hb d_S_wordForArithmetic_66 rfl (lv_at hl 1 rfl) ?_
    refine callE (W.runS (As := [.int a0]) (rest := [.int ((nI 8) + (f_bits a0 (nI 9) (nI 7))), .int (nI 5), .int ((nI 8) + (f_bits a0 (nI 9) (nI 7))), .int (nI 19)]) ⟨hx, hb, hml, hown, hts⟩ (c_unsignedImmediate l t a0) (cwS 1 hts (gS k_154 k_155 k_1 k_156) rfl rfl rfl (by decide +kernel) ⟨Nat.le_of_ble_eq_true rfl, Nat.le_of_ble_eq_true rfl⟩) (tb_pre hT) rfl rfl hl.1 rfl (lv_room (Nat.le_of_ble_eq_true rfl)) d_S_wordForArithmetic_67 ⟨Nat.zero_le _, Nat.zero_le _⟩) ?_
    refine lv_sipush (v := nI 1024) hx hb d_S_wordForArithmetic_70 (by decide) ?_
    refine lv_iadd hx hb d_S_wordForArithmetic_73 ?_
    refine callE (W.runS (As := [.int (nI 19), .int ((nI 8) + (f_bits a0 (nI 9) (nI 7))), .int (nI 5), .int ((nI 8) + (f_bits a0 (nI 9) (nI 7))), .int ((f_unsignedImmediate a0) + (nI 1024))]) (rest := []) ⟨hx, hb, hml, hown, hts⟩ (c_formI l t (nI 19) ((nI 8) + (f_bits a0 (nI 9) (nI 7))) (nI 5) ((nI 8) + (f_bits a0 (nI 9) (nI 7))) ((f_unsignedImmediate a0) + (nI 1024))) (cwS 5 hts (gS k_124 k_125 k_1 k_126) rfl rfl rfl (by decide +kernel) ⟨Nat.le_of_ble_eq_true rfl, Nat.le_of_ble_eq_true rfl⟩) (tb_pre hT) rfl rfl hl.1 rfl (lv_room (Nat.le_of_ble_eq_true rfl)) d_S_wordForArithmetic_74 ⟨Nat.zero_le _, Nat.zero_le _⟩) ?_
    exact W.iret hx hb hr (fun t ht _ => ⟨_, rfl, by rw [f_wordForArithmetic, if_neg c1, if_pos c2], ht⟩) (fun q h => nomatch h) d_S_wordForArithmetic_77
  by_cases c3 : (f_bits a0 (nI 11) (nI 10)) = nI 2
  · refine lv_tableIn (tgt := 78) (off := 58) hx hb d_S_wordForArithmetic_20 (by rw [c3]; decide +kernel) (by rw [c3]; decide +kernel) (by rw [c3]; decide +kernel) (by decide) ?_
    refine lv_bipush (v := nI 19) hx hb d_S_wordForArithmetic_78 (by decide) ?_
    refine lv_iload_n hx hb d_S_wordForArithmetic_80 rfl (lv_at hl 0 rfl) ?_
    refine lv_bipush (v := nI 7) hx hb d_S_wordForArithmetic_81 (by decide) ?_
    refine lv_iload_n hx hb d_S_wordForArithmetic_83 rfl (lv_at hl 0 rfl) ?_
    refine lv_iload_n hx hb d_S_wordForArithmetic_84 rfl (lv_at hl 1 rfl) ?_
    refine callE (W.runS (As := [.int a0]) (rest := [.int ((nI 8) + (f_bits a0 (nI 9) (nI 7))), .int (nI 7), .int ((nI 8) + (f_bits a0 (nI 9) (nI 7))), .int (nI 19)]) ⟨hx, hb, hml, hown, hts⟩ (c_signedImmediate l t a0) (cwS 1 hts (gS k_136 k_137 k_1 k_138) rfl rfl rfl (by decide +kernel) ⟨Nat.le_of_ble_eq_true rfl, Nat.le_of_ble_eq_true rfl⟩) (tb_pre hT) rfl rfl hl.1 rfl (lv_room (Nat.le_of_ble_eq_true rfl)) d_S_wordForArithmetic_85 ⟨Nat.zero_le _, Nat.zero_le _⟩) ?_
    refine callE (W.runS (As := [.int (nI 19), .int ((nI 8) + (f_bits a0 (nI 9) (nI 7))), .int (nI 7), .int ((nI 8) + (f_bits a0 (nI 9) (nI 7))), .int (f_signedImmediate a0)]) (rest := []) ⟨hx, hb, hml, hown, hts⟩ (c_formI l t (nI 19) ((nI 8) + (f_bits a0 (nI 9) (nI 7))) (nI 7) ((nI 8) + (f_bits a0 (nI 9) (nI 7))) (f_signedImmediate a0)) (cwS 5 hts (gS k_124 k_125 k_1 k_126) rfl rfl rfl (by decide +kernel) ⟨Nat.le_of_ble_eq_true rfl, Nat.le_of_ble_eq_true rfl⟩) (tb_pre hT) rfl rfl hl.1 rfl (lv_room (Nat.le_of_ble_eq_true rfl)) d_S_wordForArithmetic_88 ⟨Nat.zero_le _, Nat.zero_le _⟩) ?_
    exact W.iret hx hb hr (fun t ht _ => ⟨_, rfl, by rw [f_wordForArithmetic, if_neg c1, if_neg c2, if_pos c3], ht⟩) (fun q h => nomatch h) d_S_wordForArithmetic_91
  have c1z := lv_neT (a := 0) c1 (by decide)
  have c2z := lv_neT (a := 1) c2 (by decide)
  have c3z := lv_neT (a := 2) c3 (by decide)
  refine lv_tableOut (tgt := 92) hx hb d_S_wordForArithmetic_20 (by omega) (by decide) ?_
  refine lv_iload_n hx hb d_S_wordForArithmetic_92 rfl (lv_at hl 1 rfl) ?_
  refine lv_iload_n hx hb d_S_wordForArithmetic_93 rfl (lv_at hl 0 rfl) ?_
  refine callE (W.runS (As := [.int a0, .int ((nI 8) + (f_bits a0 (nI 9) (nI 7)))]) (rest := []) ⟨hx, hb, hml, hown, hts⟩ (c_wordForTwoRegisters l t a0 ((nI 8) + (f_bits a0 (nI 9) (nI 7)))) (cwS 2 hts (gS k_157 k_158 k_1 k_159) rfl rfl rfl (by decide +kernel) ⟨Nat.le_of_ble_eq_true rfl, Nat.le_of_ble_eq_true rfl⟩) (tb_pre hT) rfl rfl hl.1 rfl (lv_room (Nat.le_of_ble_eq_true rfl)) d_S_wordForArithmetic_94 ⟨Nat.zero_le _, Nat.zero_le _⟩) ?_
  exact W.iret hx hb hr (fun t ht _ => ⟨_, rfl, by rw [f_wordForArithmetic, if_neg c1, if_neg c2, if_neg c3], ht⟩) (fun q h => nomatch h) d_S_wordForArithmetic_97
set_option maxHeartbeats 40000000 in
set_option maxRecDepth 100000 in
theorem c_formJ (l : Launch) (t : Nat → Nat) (a0 a1 : Int32) : Met l y_S_formJ w_S_formJ { frames := 1, cells := 0, slots := 0, locals := 22 } (va_Pc [.int a0, .int a1] (tb t)) (vp_Si (fun r => r = f_formJ a0 a1)) 0 0 (fun _ => False) := by
  refine Met.ofW (cc := b_S_formJ) (maxL := 3) (ret := (some .int)) (by decide) rfl ?_
  intro p e s m args below meth c s₁ B hml hv
  obtain ⟨rfl, hT⟩ := hv
  have hx := B.exec
  have hb := B.bytes
  have hr := B.returns
  have hts := atoms_spec (ws := w_S_formJ) B.pre
  have hown : s.vm.findClass R_S = some m.cls := findClass_of_methodNamed B.named
  have hlocks := B.notSynchronized
  have hl := lv_entry ([.int a0, .int a1]) (n := 3) (Nat.le_of_ble_eq_true rfl)
  rw [lg_entry_eq]
  generalize (lg_sl ([.int a0, .int a1]) ++ List.replicate (3 - (lg_sl ([.int a0, .int a1])).length) Slot.unset).toArray = ls at hl ⊢
  have hl : lv_has ls 3 [(0, .int a0), (1, .int a1)] := hl
  refine lv_iload_n hx hb d_S_formJ_0 rfl (lv_at hl 1 rfl) ?_
  refine lv_bipush (v := nI 20) hx hb d_S_formJ_1 (by decide) ?_
  refine lv_bipush (v := nI 20) hx hb d_S_formJ_3 (by decide) ?_
  refine callE (W.runS (As := [.int a1, .int (nI 20), .int (nI 20)]) (rest := []) ⟨hx, hb, hml, hown, hts⟩ (c_bits l t a1 (nI 20) (nI 20)) (cwS 3 hts (gS k_47 k_48 k_1 k_49) rfl rfl rfl (by decide +kernel) ⟨Nat.le_of_ble_eq_true rfl, Nat.le_of_ble_eq_true rfl⟩) (tb_pre hT) rfl rfl hl.1 rfl (lv_room (Nat.le_of_ble_eq_true rfl)) d_S_formJ_5 ⟨Nat.zero_le _, Nat.zero_le _⟩) ?_
  refine lv_bipush (v := nI 31) hx hb d_S_formJ_8 (by decide) ?_
  refine lv_ishl hx hb d_S_formJ_10 ?_
  refine lv_iload_n hx hb d_S_formJ_11 rfl (lv_at hl 1 rfl) ?_
  refine lv_bipush (v := nI 10) hx hb d_S_formJ_12 (by decide) ?_
  refine lv_iconst (v := nI 1) hx hb d_S_formJ_14 (by decide) ?_
  refine callE (W.runS (As := [.int a1, .int (nI 10), .int (nI 1)]) (rest := [.int ((f_bits a1 (nI 20) (nI 20)) <<< ((nI 31) &&& 31))]) ⟨hx, hb, hml, hown, hts⟩ (c_bits l t a1 (nI 10) (nI 1)) (cwS 3 hts (gS k_47 k_48 k_1 k_49) rfl rfl rfl (by decide +kernel) ⟨Nat.le_of_ble_eq_true rfl, Nat.le_of_ble_eq_true rfl⟩) (tb_pre hT) rfl rfl hl.1 rfl (lv_room (Nat.le_of_ble_eq_true rfl)) d_S_formJ_15 ⟨Nat.zero_le _, Nat.zero_le _⟩) ?_
  refine lv_bipush (v := nI 21) hx hb d_S_formJ_18 (by decide) ?_
  refine lv_ishl hx hb d_S_formJ_20 ?_
  refine lv_ior hx hb d_S_formJ_21 ?_
  refine lv_iload_n hx hb d_S_formJ_22 rfl (lv_at hl 1 rfl) ?_
  refine lv_bipush (v := nI 11) hx hb d_S_formJ_23 (by decide) ?_
  refine lv_bipush (v := nI 11) hx hb d_S_formJ_25 (by decide) ?_
  refine callE (W.runS (As := [.int a1, .int (nI 11), .int (nI 11)]) (rest := [.int (((f_bits a1 (nI 20) (nI 20)) <<< ((nI 31) &&& 31)) ||| ((f_bits a1 (nI 10) (nI 1)) <<< ((nI 21) &&& 31)))]) ⟨hx, hb, hml, hown, hts⟩ (c_bits l t a1 (nI 11) (nI 11)) (cwS 3 hts (gS k_47 k_48 k_1 k_49) rfl rfl rfl (by decide +kernel) ⟨Nat.le_of_ble_eq_true rfl, Nat.le_of_ble_eq_true rfl⟩) (tb_pre hT) rfl rfl hl.1 rfl (lv_room (Nat.le_of_ble_eq_true rfl)) d_S_formJ_27 ⟨Nat.zero_le _, Nat.zero_le _⟩) ?_
  refine lv_bipush (v := nI 20) hx hb d_S_formJ_30 (by decide) ?_
  refine lv_ishl hx hb d_S_formJ_32 ?_
  refine lv_ior hx hb d_S_formJ_33 ?_
  refine lv_istore_n (lv' := [(2, .int ((((f_bits a1 (nI 20) (nI 20)) <<< ((nI 31) &&& 31)) ||| ((f_bits a1 (nI 10) (nI 1)) <<< ((nI 21) &&& 31))) ||| ((f_bits a1 (nI 11) (nI 11)) <<< ((nI 20) &&& 31)))), (0, .int a0), (1, .int a1)]) hx hb d_S_formJ_34 rfl hl (by decide) rfl (fun ls hl => ?_)
  refine lv_bipush (v := nI 111) hx hb d_S_formJ_35 (by decide) ?_
  refine lv_iload_n hx hb d_S_formJ_37 rfl (lv_at hl 1 rfl) ?_
  refine lv_bipush (v := nI 7) hx hb d_S_formJ_38 (by decide) ?_
  refine lv_ishl hx hb d_S_formJ_40 ?_
  refine lv_ior hx hb d_S_formJ_41 ?_
  refine lv_iload_n hx hb d_S_formJ_42 rfl (lv_at hl 2 rfl) ?_
  refine lv_bipush (v := nI 19) hx hb d_S_formJ_43 (by decide) ?_
  refine lv_bipush (v := nI 12) hx hb d_S_formJ_45 (by decide) ?_
  refine callE (W.runS (As := [.int a1, .int (nI 19), .int (nI 12)]) (rest := [.int ((nI 111) ||| (a0 <<< ((nI 7) &&& 31)))]) ⟨hx, hb, hml, hown, hts⟩ (c_bits l t a1 (nI 19) (nI 12)) (cwS 3 hts (gS k_47 k_48 k_1 k_49) rfl rfl rfl (by decide +kernel) ⟨Nat.le_of_ble_eq_true rfl, Nat.le_of_ble_eq_true rfl⟩) (tb_pre hT) rfl rfl hl.1 rfl (lv_room (Nat.le_of_ble_eq_true rfl)) d_S_formJ_47 ⟨Nat.zero_le _, Nat.zero_le _⟩) ?_
  refine lv_bipush (v := nI 12) hx hb d_S_formJ_50 (by decide) ?_
  refine lv_ishl hx hb d_S_formJ_52 ?_
  refine lv_ior hx hb d_S_formJ_53 ?_
  refine lv_iload_n hx hb d_S_formJ_54 rfl (lv_at hl 0 rfl) ?_
  refine lv_ior hx hb d_S_formJ_55 ?_
  exact W.iret hx hb hr (fun t ht _ => ⟨_, rfl, by rw [f_formJ], ht⟩) (fun q h => nomatch h) d_S_formJ_56
