set_option maxHeartbeats 40000000 in
set_option maxRecDepth 100000 in
theorem c_fieldC (l : Launch) (t : Nat → Nat) (a0 : Int32) : Met l y_S_fieldC w_S_fieldC { frames := 1, cells := 0, slots := 0, locals := 22 } (va_Pc [.int a0] (tb t)) (vp_Si (fun r => r = f_fieldC a0)) 0 0 (fun _ => False) := by
  refine Met.ofW (cc := b_S_fieldC) (maxL := 1) (ret := (some .int)) (by decide) rfl ?_
  intro p e s m args below meth c s₁ B hml hv
  obtain ⟨rfl, hT⟩ := hv
  have hx := B.exec
  have hb := B.bytes
  have hr := B.returns
  have hts := atoms_spec (ws := w_S_fieldC) B.pre
  have hown : s.vm.findClass R_S = some m.cls := findClass_of_methodNamed B.named
  have hlocks := B.notSynchronized
  have hl := lv_entry ([.int a0]) (n := 1) (Nat.le_of_ble_eq_true rfl)
  rw [lg_entry_eq]
  generalize (lg_sl ([.int a0]) ++ List.replicate (1 - (lg_sl ([.int a0])).length) Slot.unset).toArray = ls at hl ⊢
  have hl : lv_has ls 1 [(0, .int a0)] := hl
  refine lv_iload_n hx hb d_S_fieldC_0 rfl (lv_at hl 0 rfl) ?_
  refine lv_bipush (v := nI 6) hx hb d_S_fieldC_1 (by decide) ?_
  refine lv_iconst (v := nI 0) hx hb d_S_fieldC_3 (by decide) ?_
  refine callE (W.runS (As := [.int a0, .int (nI 6), .int (nI 0)]) (rest := []) ⟨hx, hb, hml, hown, hts⟩ (c_bits l t a0 (nI 6) (nI 0)) (cwS 3 hts (gS k_47 k_48 k_1 k_49) rfl rfl rfl (by decide +kernel) ⟨Nat.le_of_ble_eq_true rfl, Nat.le_of_ble_eq_true rfl⟩) (tb_pre hT) rfl rfl hl.1 rfl (lv_room (Nat.le_of_ble_eq_true rfl)) d_S_fieldC_4 ⟨Nat.zero_le _, Nat.zero_le _⟩) ?_
  exact W.iret hx hb hr (fun t ht _ => ⟨_, rfl, by rw [f_fieldC], ht⟩) (fun q h => nomatch h) d_S_fieldC_7
set_option maxHeartbeats 40000000 in
set_option maxRecDepth 100000 in
theorem c_fieldF (l : Launch) (t : Nat → Nat) (a0 : Int32) : Met l y_S_fieldF w_S_fieldF { frames := 1, cells := 0, slots := 0, locals := 22 } (va_Pc [.int a0] (tb t)) (vp_Si (fun r => r = f_fieldF a0)) 0 0 (fun _ => False) := by
  refine Met.ofW (cc := b_S_fieldF) (maxL := 1) (ret := (some .int)) (by decide) rfl ?_
  intro p e s m args below meth c s₁ B hml hv
  obtain ⟨rfl, hT⟩ := hv
  have hx := B.exec
  have hb := B.bytes
  have hr := B.returns
  have hts := atoms_spec (ws := w_S_fieldF) B.pre
  have hown : s.vm.findClass R_S = some m.cls := findClass_of_methodNamed B.named
  have hlocks := B.notSynchronized
  have hl := lv_entry ([.int a0]) (n := 1) (Nat.le_of_ble_eq_true rfl)
  rw [lg_entry_eq]
  generalize (lg_sl ([.int a0]) ++ List.replicate (1 - (lg_sl ([.int a0])).length) Slot.unset).toArray = ls at hl ⊢
  have hl : lv_has ls 1 [(0, .int a0)] := hl
  refine lv_iload_n hx hb d_S_fieldF_0 rfl (lv_at hl 0 rfl) ?_
  refine lv_bipush (v := nI 14) hx hb d_S_fieldF_1 (by decide) ?_
  refine lv_bipush (v := nI 12) hx hb d_S_fieldF_3 (by decide) ?_
  refine callE (W.runS (As := [.int a0, .int (nI 14), .int (nI 12)]) (rest := []) ⟨hx, hb, hml, hown, hts⟩ (c_bits l t a0 (nI 14) (nI 12)) (cwS 3 hts (gS k_47 k_48 k_1 k_49) rfl rfl rfl (by decide +kernel) ⟨Nat.le_of_ble_eq_true rfl, Nat.le_of_ble_eq_true rfl⟩) (tb_pre hT) rfl rfl hl.1 rfl (lv_room (Nat.le_of_ble_eq_true rfl)) d_S_fieldF_5 ⟨Nat.zero_le _, Nat.zero_le _⟩) ?_
  exact W.iret hx hb hr (fun t ht _ => ⟨_, rfl, by rw [f_fieldF], ht⟩) (fun q h => nomatch h) d_S_fieldF_8
set_option maxHeartbeats 40000000 in
set_option maxRecDepth 100000 in
theorem c_guessOperation (l : Launch) (t : Nat → Nat) (a0 a1 a2 : Int32) : Met l y_S_guessOperation w_S_guessOperation { frames := 0, cells := 0, slots := 0, locals := 0 } (va_Pc [.int a0, .int a1, .int a2] (tb t)) (vp_Si (fun r => r = f_guessOperation a0 a1 a2)) 0 0 (fun _ => False) := by
  refine Met.ofW (cc := b_S_guessOperation) (maxL := 3) (ret := (some .int)) (by decide) rfl ?_
  intro p e s m args below meth c s₁ B hml hv
  obtain ⟨rfl, hT⟩ := hv
  have hx := B.exec
  have hb := B.bytes
  have hr := B.returns
  have hts := atoms_spec (ws := w_S_guessOperation) B.pre
  have hown : s.vm.findClass R_S = some m.cls := findClass_of_methodNamed B.named
  have hlocks := B.notSynchronized
  have hl := lv_entry ([.int a0, .int a1, .int a2]) (n := 3) (Nat.le_of_ble_eq_true rfl)
  rw [lg_entry_eq]
  generalize (lg_sl ([.int a0, .int a1, .int a2]) ++ List.replicate (3 - (lg_sl ([.int a0, .int a1, .int a2])).length) Slot.unset).toArray = ls at hl ⊢
  have hl : lv_has ls 3 [(0, .int a0), (1, .int a1), (2, .int a2)] := hl
  refine lv_iload_n hx hb d_S_guessOperation_0 rfl (lv_at hl 1 rfl) ?_
  by_cases c1 : a1 = nI 4
  · refine lv_tableIn (tgt := 32) (off := 31) hx hb d_S_guessOperation_1 (by rw [c1]; decide +kernel) (by rw [c1]; decide +kernel) (by rw [c1]; decide +kernel) (by decide) ?_
    refine lv_iconst (v := nI 1) hx hb d_S_guessOperation_32 (by decide) ?_
    exact W.iret hx hb hr (fun t ht _ => ⟨_, rfl, by rw [f_guessOperation, if_pos c1], ht⟩) (fun q h => nomatch h) d_S_guessOperation_33
  by_cases c2 : a1 = nI 5
  · refine lv_tableIn (tgt := 38) (off := 37) hx hb d_S_guessOperation_1 (by rw [c2]; decide +kernel) (by rw [c2]; decide +kernel) (by rw [c2]; decide +kernel) (by decide) ?_
    refine lv_iload_n hx hb d_S_guessOperation_38 rfl (lv_at hl 0 rfl) ?_
    refine lv_bipush (v := nI 59) hx hb d_S_guessOperation_39 (by decide) ?_
    refine lv_icmp_ne (tgt := 52) hx hb d_S_guessOperation_41 (by decide) (fun c3 => ?_) (fun c3 => ?_)
    · refine lv_iconst (v := nI 0) hx hb d_S_guessOperation_52 (by decide) ?_
      exact W.iret hx hb hr (fun t ht _ => ⟨_, rfl, by rw [f_guessOperation, if_neg c1, if_pos c2, if_neg c3], ht⟩) (fun q h => nomatch h) d_S_guessOperation_53
    · refine lv_iload_n hx hb d_S_guessOperation_44 rfl (lv_at hl 2 rfl) ?_
      refine lv_if_ne (tgt := 52) hx hb d_S_guessOperation_45 (by decide) (fun c4 => ?_) (fun c4 => ?_)
      · refine lv_iconst (v := nI 0) hx hb d_S_guessOperation_52 (by decide) ?_
        exact W.iret hx hb hr (fun t ht _ => ⟨_, rfl, by rw [f_guessOperation, if_neg c1, if_pos c2, if_pos c3, if_neg c4], ht⟩) (fun q h => nomatch h) d_S_guessOperation_53
      · refine lv_iconst (v := nI 1) hx hb d_S_guessOperation_48 (by decide) ?_
        refine lv_goto (tgt := 53) hx hb d_S_guessOperation_49 (by decide) ?_
        exact W.iret hx hb hr (fun t ht _ => ⟨_, rfl, by rw [f_guessOperation, if_neg c1, if_pos c2, if_pos c3, if_pos c4], ht⟩) (fun q h => nomatch h) d_S_guessOperation_53
  by_cases c5 : a1 = nI 6
  · refine lv_tableIn (tgt := 34) (off := 33) hx hb d_S_guessOperation_1 (by rw [c5]; decide +kernel) (by rw [c5]; decide +kernel) (by rw [c5]; decide +kernel) (by decide) ?_
    refine lv_iconst (v := nI 2) hx hb d_S_guessOperation_34 (by decide) ?_
    exact W.iret hx hb hr (fun t ht _ => ⟨_, rfl, by rw [f_guessOperation, if_neg c1, if_neg c2, if_pos c5], ht⟩) (fun q h => nomatch h) d_S_guessOperation_35
  by_cases c6 : a1 = nI 7
  · refine lv_tableIn (tgt := 36) (off := 35) hx hb d_S_guessOperation_1 (by rw [c6]; decide +kernel) (by rw [c6]; decide +kernel) (by rw [c6]; decide +kernel) (by decide) ?_
    refine lv_iconst (v := nI 3) hx hb d_S_guessOperation_36 (by decide) ?_
    exact W.iret hx hb hr (fun t ht _ => ⟨_, rfl, by rw [f_guessOperation, if_neg c1, if_neg c2, if_neg c5, if_pos c6], ht⟩) (fun q h => nomatch h) d_S_guessOperation_37
  have c1z := lv_neT (a := 4) c1 (by decide)
  have c2z := lv_neT (a := 5) c2 (by decide)
  have c5z := lv_neT (a := 6) c5 (by decide)
  have c6z := lv_neT (a := 7) c6 (by decide)
  refine lv_tableOut (tgt := 38) hx hb d_S_guessOperation_1 (by omega) (by decide) ?_
  refine lv_iload_n hx hb d_S_guessOperation_38 rfl (lv_at hl 0 rfl) ?_
  refine lv_bipush (v := nI 59) hx hb d_S_guessOperation_39 (by decide) ?_
  refine lv_icmp_ne (tgt := 52) hx hb d_S_guessOperation_41 (by decide) (fun c7 => ?_) (fun c7 => ?_)
  · refine lv_iconst (v := nI 0) hx hb d_S_guessOperation_52 (by decide) ?_
    exact W.iret hx hb hr (fun t ht _ => ⟨_, rfl, by rw [f_guessOperation, if_neg c1, if_neg c2, if_neg c5, if_neg c6, if_neg c7], ht⟩) (fun q h => nomatch h) d_S_guessOperation_53
  · refine lv_iload_n hx hb d_S_guessOperation_44 rfl (lv_at hl 2 rfl) ?_
    refine lv_if_ne (tgt := 52) hx hb d_S_guessOperation_45 (by decide) (fun c8 => ?_) (fun c8 => ?_)
    · refine lv_iconst (v := nI 0) hx hb d_S_guessOperation_52 (by decide) ?_
      exact W.iret hx hb hr (fun t ht _ => ⟨_, rfl, by rw [f_guessOperation, if_neg c1, if_neg c2, if_neg c5, if_neg c6, if_pos c7, if_neg c8], ht⟩) (fun q h => nomatch h) d_S_guessOperation_53
    · refine lv_iconst (v := nI 1) hx hb d_S_guessOperation_48 (by decide) ?_
      refine lv_goto (tgt := 53) hx hb d_S_guessOperation_49 (by decide) ?_
      exact W.iret hx hb hr (fun t ht _ => ⟨_, rfl, by rw [f_guessOperation, if_neg c1, if_neg c2, if_neg c5, if_neg c6, if_pos c7, if_pos c8], ht⟩) (fun q h => nomatch h) d_S_guessOperation_53
set_option maxHeartbeats 40000000 in
set_option maxRecDepth 100000 in
theorem c_guessForArithmetic (l : Launch) (t : Nat → Nat) (a0 : Int32) : Met l y_S_guessForArithmetic w_S_guessForArithmetic { frames := 2, cells := 0, slots := 0, locals := 42 } (va_Pc [.int a0] (tb t)) (vp_Si (fun r => r = f_guessForArithmetic a0)) 0 0 (fun _ => False) := by
  refine Met.ofW (cc := b_S_guessForArithmetic) (maxL := 5) (ret := (some .int)) (by decide) rfl ?_
  intro p e s m args below meth c s₁ B hml hv
  obtain ⟨rfl, hT⟩ := hv
  have hx := B.exec
  have hb := B.bytes
  have hr := B.returns
  have hts := atoms_spec (ws := w_S_guessForArithmetic) B.pre
  have hown : s.vm.findClass R_S = some m.cls := findClass_of_methodNamed B.named
  have hlocks := B.notSynchronized
  have hl := lv_entry ([.int a0]) (n := 5) (Nat.le_of_ble_eq_true rfl)
  rw [lg_entry_eq]
  generalize (lg_sl ([.int a0]) ++ List.replicate (5 - (lg_sl ([.int a0])).length) Slot.unset).toArray = ls at hl ⊢
  have hl : lv_has ls 5 [(0, .int a0)] := hl
  refine lv_iload_n hx hb d_S_guessForArithmetic_0 rfl (lv_at hl 0 rfl) ?_
  refine callE (W.runS (As := [.int a0]) (rest := []) ⟨hx, hb, hml, hown, hts⟩ (c_fieldD l t a0) (cwS 1 hts (gS k_50 k_51 k_1 k_52) rfl rfl rfl (by decide +kernel) ⟨Nat.le_of_ble_eq_true rfl, Nat.le_of_ble_eq_true rfl⟩) (tb_pre hT) rfl rfl hl.1 rfl (lv_room (Nat.le_of_ble_eq_true rfl)) d_S_guessForArithmetic_1 ⟨Nat.zero_le _, Nat.zero_le _⟩) ?_
  refine lv_iconst (v := nI 2) hx hb d_S_guessForArithmetic_4 (by decide) ?_
  refine lv_iconst (v := nI 0) hx hb d_S_guessForArithmetic_5 (by decide) ?_
  refine callE (W.runS (As := [.int (f_fieldD a0), .int (nI 2), .int (nI 0)]) (rest := []) ⟨hx, hb, hml, hown, hts⟩ (c_bits l t (f_fieldD a0) (nI 2) (nI 0)) (cwS 3 hts (gS k_47 k_48 k_1 k_49) rfl rfl rfl (by decide +kernel) ⟨Nat.le_of_ble_eq_true rfl, Nat.le_of_ble_eq_true rfl⟩) (tb_pre hT) rfl rfl hl.1 rfl (lv_room (Nat.le_of_ble_eq_true rfl)) d_S_guessForArithmetic_6 ⟨Nat.zero_le _, Nat.zero_le _⟩) ?_
  refine lv_bipush (v := nI 7) hx hb d_S_guessForArithmetic_9 (by decide) ?_
  refine lv_ishl hx hb d_S_guessForArithmetic_11 ?_
  refine lv_istore_n (lv' := [(1, .int ((f_bits (f_fieldD a0) (nI 2) (nI 0)) <<< ((nI 7) &&& 31))), (0, .int a0)]) hx hb d_S_guessForArithmetic_12 rfl hl (by decide) rfl (fun ls hl => ?_)
  refine lv_iload_n hx hb d_S_guessForArithmetic_13 rfl (lv_at hl 1 rfl) ?_
  refine callE (W.runS (As := [.int a0]) (rest := []) ⟨hx, hb, hml, hown, hts⟩ (c_fieldB l t a0) (cwS 1 hts (gS k_53 k_54 k_1 k_55) rfl rfl rfl (by decide +kernel) ⟨Nat.le_of_ble_eq_true rfl, Nat.le_of_ble_eq_true rfl⟩) (tb_pre hT) rfl rfl hl.1 rfl (lv_room (Nat.le_of_ble_eq_true rfl)) d_S_guessForArithmetic_14 ⟨Nat.zero_le _, Nat.zero_le _⟩) ?_
  refine lv_iconst (v := nI 2) hx hb d_S_guessForArithmetic_17 (by decide) ?_
  refine lv_ishl hx hb d_S_guessForArithmetic_18 ?_
  refine lv_istore_n (lv' := [(2, .int ((f_fieldB a0) <<< ((nI 2) &&& 31))), (1, .int ((f_bits (f_fieldD a0) (nI 2) (nI 0)) <<< ((nI 7) &&& 31))), (0, .int a0)]) hx hb d_S_guessForArithmetic_19 rfl hl (by decide) rfl (fun ls hl => ?_)
  refine lv_iload_n hx hb d_S_guessForArithmetic_20 rfl (lv_at hl 2 rfl) ?_
  refine callE (W.runS (As := [.int a0]) (rest := []) ⟨hx, hb, hml, hown, hts⟩ (c_fieldC l t a0) (cwS 1 hts (gS k_82 k_83 k_1 k_84) rfl rfl rfl (by decide +kernel) ⟨Nat.le_of_ble_eq_true rfl, Nat.le_of_ble_eq_true rfl⟩) (tb_pre hT) rfl rfl hl.1 rfl (lv_room (Nat.le_of_ble_eq_true rfl)) d_S_guessForArithmetic_21 ⟨Nat.zero_le _, Nat.zero_le _⟩) ?_
  refine lv_bipush (v := nI 19) hx hb d_S_guessForArithmetic_24 (by decide) ?_
  refine lv_icmp_eq (tgt := 71) hx hb d_S_guessForArithmetic_26 (by decide) (fun c1 => ?_) (fun c1 => ?_)
  · refine lv_iload_n hx hb d_S_guessForArithmetic_71 rfl (lv_at hl 2 rfl) ?_
    refine callE (W.runS (As := [.int a0]) (rest := []) ⟨hx, hb, hml, hown, hts⟩ (c_fieldF l t a0) (cwS 1 hts (gS k_85 k_86 k_1 k_87) rfl rfl rfl (by decide +kernel) ⟨Nat.le_of_ble_eq_true rfl, Nat.le_of_ble_eq_true rfl⟩) (tb_pre hT) rfl rfl hl.1 rfl (lv_room (Nat.le_of_ble_eq_true rfl)) d_S_guessForArithmetic_72 ⟨Nat.zero_le _, Nat.zero_le _⟩) ?_
    refine lv_bipush (v := nI 7) hx hb d_S_guessForArithmetic_75 (by decide) ?_
    refine lv_icmp_ne (tgt := 88) hx hb d_S_guessForArithmetic_77 (by decide) (fun c2 => ?_) (fun c2 => ?_)
    · refine lv_iload_n hx hb d_S_guessForArithmetic_88 rfl (lv_at hl 2 rfl) ?_
      refine lv_bipush (v := nI 30) hx hb d_S_guessForArithmetic_89 (by decide) ?_
      refine lv_bipush (v := nI 30) hx hb d_S_guessForArithmetic_91 (by decide) ?_
      refine callE (W.runS (As := [.int a0, .int (nI 30), .int (nI 30)]) (rest := []) ⟨hx, hb, hml, hown, hts⟩ (c_bits l t a0 (nI 30) (nI 30)) (cwS 3 hts (gS k_47 k_48 k_1 k_49) rfl rfl rfl (by decide +kernel) ⟨Nat.le_of_ble_eq_true rfl, Nat.le_of_ble_eq_true rfl⟩) (tb_pre hT) rfl rfl hl.1 rfl (lv_room (Nat.le_of_ble_eq_true rfl)) d_S_guessForArithmetic_93 ⟨Nat.zero_le _, Nat.zero_le _⟩) ?_
      refine lv_bipush (v := nI 10) hx hb d_S_guessForArithmetic_96 (by decide) ?_
      refine lv_ishl hx hb d_S_guessForArithmetic_98 ?_
      refine lv_iload_n hx hb d_S_guessForArithmetic_99 rfl (lv_at hl 1 rfl) ?_
      refine lv_ior hx hb d_S_guessForArithmetic_100 ?_
      refine lv_iload_n hx hb d_S_guessForArithmetic_101 rfl (lv_at hl 0 rfl) ?_
      refine lv_ior hx hb d_S_guessForArithmetic_102 ?_
      exact W.iret hx hb hr (fun t ht _ => ⟨_, rfl, by rw [f_guessForArithmetic, if_pos c1, if_neg c2], ht⟩) (fun q h => nomatch h) d_S_guessForArithmetic_103
    · refine lv_sipush (v := nI 2048) hx hb d_S_guessForArithmetic_80 (by decide) ?_
      refine lv_iload_n hx hb d_S_guessForArithmetic_83 rfl (lv_at hl 1 rfl) ?_
      refine lv_ior hx hb d_S_guessForArithmetic_84 ?_
      refine lv_iload_n hx hb d_S_guessForArithmetic_85 rfl (lv_at hl 0 rfl) ?_
      refine lv_ior hx hb d_S_guessForArithmetic_86 ?_
      exact W.iret hx hb hr (fun t ht _ => ⟨_, rfl, by rw [f_guessForArithmetic, if_pos c1, if_pos c2], ht⟩) (fun q h => nomatch h) d_S_guessForArithmetic_87
  · refine lv_iload_n hx hb d_S_guessForArithmetic_29 rfl (lv_at hl 2 rfl) ?_
    refine callE (W.runS (As := [.int a0]) (rest := []) ⟨hx, hb, hml, hown, hts⟩ (c_fieldB l t a0) (cwS 1 hts (gS k_53 k_54 k_1 k_55) rfl rfl rfl (by decide +kernel) ⟨Nat.le_of_ble_eq_true rfl, Nat.le_of_ble_eq_true rfl⟩) (tb_pre hT) rfl rfl hl.1 rfl (lv_room (Nat.le_of_ble_eq_true rfl)) d_S_guessForArithmetic_30 ⟨Nat.zero_le _, Nat.zero_le _⟩) ?_
    refine lv_iconst (v := nI 2) hx hb d_S_guessForArithmetic_33 (by decide) ?_
    refine lv_iconst (v := nI 0) hx hb d_S_guessForArithmetic_34 (by decide) ?_
    refine callE (W.runS (As := [.int (f_fieldB a0), .int (nI 2), .int (nI 0)]) (rest := []) ⟨hx, hb, hml, hown, hts⟩ (c_bits l t (f_fieldB a0) (nI 2) (nI 0)) (cwS 3 hts (gS k_47 k_48 k_1 k_49) rfl rfl rfl (by decide +kernel) ⟨Nat.le_of_ble_eq_true rfl, Nat.le_of_ble_eq_true rfl⟩) (tb_pre hT) rfl rfl hl.1 rfl (lv_room (Nat.le_of_ble_eq_true rfl)) d_S_guessForArithmetic_35 ⟨Nat.zero_le _, Nat.zero_le _⟩) ?_
    refine lv_iconst (v := nI 2) hx hb d_S_guessForArithmetic_38 (by decide) ?_
    refine lv_ishl hx hb d_S_guessForArithmetic_39 ?_
    refine lv_istore_n (lv' := [(3, .int ((f_bits (f_fieldB a0) (nI 2) (nI 0)) <<< ((nI 2) &&& 31))), (2, .int ((f_fieldB a0) <<< ((nI 2) &&& 31))), (1, .int ((f_bits (f_fieldD a0) (nI 2) (nI 0)) <<< ((nI 7) &&& 31))), (0, .int a0)]) hx hb d_S_guessForArithmetic_40 rfl hl (by decide) rfl (fun ls hl => ?_)
    refine lv_iload_n hx hb d_S_guessForArithmetic_41 rfl (lv_at hl 3 rfl) ?_
    refine callE (W.runS (As := [.int a0]) (rest := []) ⟨hx, hb, hml, hown, hts⟩ (c_fieldC l t a0) (cwS 1 hts (gS k_82 k_83 k_1 k_84) rfl rfl rfl (by decide +kernel) ⟨Nat.le_of_ble_eq_true rfl, Nat.le_of_ble_eq_true rfl⟩) (tb_pre hT) rfl rfl hl.1 rfl (lv_room (Nat.le_of_ble_eq_true rfl)) d_S_guessForArithmetic_42 ⟨Nat.zero_le _, Nat.zero_le _⟩) ?_
    refine lv_iload_n hx hb d_S_guessForArithmetic_45 rfl (lv_at hl 3 rfl) ?_
    refine callE (W.runS (As := [.int a0]) (rest := [.int (f_fieldC a0)]) ⟨hx, hb, hml, hown, hts⟩ (c_fieldF l t a0) (cwS 1 hts (gS k_85 k_86 k_1 k_87) rfl rfl rfl (by decide +kernel) ⟨Nat.le_of_ble_eq_true rfl, Nat.le_of_ble_eq_true rfl⟩) (tb_pre hT) rfl rfl hl.1 rfl (lv_room (Nat.le_of_ble_eq_true rfl)) d_S_guessForArithmetic_46 ⟨Nat.zero_le _, Nat.zero_le _⟩) ?_
    refine lv_iload_n hx hb d_S_guessForArithmetic_49 rfl (lv_at hl 3 rfl) ?_
    refine callE (W.runS (As := [.int a0]) (rest := [.int (f_fieldF a0), .int (f_fieldC a0)]) ⟨hx, hb, hml, hown, hts⟩ (c_fieldG l t a0) (cwS 1 hts (gS k_71 k_72 k_1 k_73) rfl rfl rfl (by decide +kernel) ⟨Nat.le_of_ble_eq_true rfl, Nat.le_of_ble_eq_true rfl⟩) (tb_pre hT) rfl rfl hl.1 rfl (lv_room (Nat.le_of_ble_eq_true rfl)) d_S_guessForArithmetic_50 ⟨Nat.zero_le _, Nat.zero_le _⟩) ?_
    refine callE (W.runS (As := [.int (f_fieldC a0), .int (f_fieldF a0), .int (f_fieldG a0)]) (rest := []) ⟨hx, hb, hml, hown, hts⟩ (c_guessOperation l t (f_fieldC a0) (f_fieldF a0) (f_fieldG a0)) (cwS 3 hts (gS k_88 k_89 k_1 k_90) rfl rfl rfl (by decide +kernel) ⟨Nat.le_of_ble_eq_true rfl, Nat.le_of_ble_eq_true rfl⟩) (tb_pre hT) rfl rfl hl.1 rfl (lv_room (Nat.le_of_ble_eq_true rfl)) d_S_guessForArithmetic_53 ⟨Nat.zero_le _, Nat.zero_le _⟩) ?_
    refine lv_istore (lv' := [(4, .int (f_guessOperation (f_fieldC a0) (f_fieldF a0) (f_fieldG a0))), (3, .int ((f_bits (f_fieldB a0) (nI 2) (nI 0)) <<< ((nI 2) &&& 31))), (2, .int ((f_fieldB a0) <<< ((nI 2) &&& 31))), (1, .int ((f_bits (f_fieldD a0) (nI 2) (nI 0)) <<< ((nI 7) &&& 31))), (0, .int a0)]) hx hb d_S_guessForArithmetic_56 hl (by decide) rfl (fun ls hl => ?_)
    refine lv_sipush (v := nI 3072) hx hb d_S_guessForArithmetic_58 (by decide) ?_
    refine lv_iload_n hx hb d_S_guessForArithmetic_61 rfl (lv_at hl 3 rfl) ?_
    refine lv_ior hx hb d_S_guessForArithmetic_62 ?_
    refine lv_iload hx hb d_S_guessForArithmetic_63 (lv_at hl 0 rfl) ?_
    refine lv_iconst (v := nI 5) hx hb d_S_guessForArithmetic_65 (by decide) ?_
    refine lv_ishl hx hb d_S_guessForArithmetic_66 ?_
    refine lv_ior hx hb d_S_guessForArithmetic_67 ?_
    refine lv_iload_n hx hb d_S_guessForArithmetic_68 rfl (lv_at hl 1 rfl) ?_
    refine lv_ior hx hb d_S_guessForArithmetic_69 ?_
    exact W.iret hx hb hr (fun t ht _ => ⟨_, rfl, by rw [f_guessForArithmetic, if_neg c1], ht⟩) (fun q h => nomatch h) d_S_guessForArithmetic_70
