set_option maxHeartbeats 40000000 in
set_option maxRecDepth 100000 in
theorem c_wordForGoOrCopy (l : Launch) (t : Nat → Nat) (a0 a1 : Int32) : Met l y_S_wordForGoOrCopy w_S_wordForGoOrCopy { frames := 1, cells := 0, slots := 0, locals := 25 } (va_Pc [.int a0, .int a1] (tb t)) (vp_Si (fun r => r = f_wordForGoOrCopy a0 a1)) 0 0 (fun _ => False) := by
  refine Met.ofW (cc := b_S_wordForGoOrCopy) (maxL := 2) (ret := (some .int)) (by decide) rfl ?_
  intro p e s m args below meth c s₁ B hml hv
  obtain ⟨rfl, hT⟩ := hv
  have hx := B.exec
  have hb := B.bytes
  have hr := B.returns
  have hts := atoms_spec (ws := w_S_wordForGoOrCopy) B.pre
  have hown : s.vm.findClass R_S = some m.cls := findClass_of_methodNamed B.named
  have hlocks := B.notSynchronized
  have hl := lv_entry ([.int a0, .int a1]) (n := 2) (Nat.le_of_ble_eq_true rfl)
  rw [lg_entry_eq]
  generalize (lg_sl ([.int a0, .int a1]) ++ List.replicate (2 - (lg_sl ([.int a0, .int a1])).length) Slot.unset).toArray = ls at hl ⊢
  have hl : lv_has ls 2 [(0, .int a0), (1, .int a1)] := hl
  refine lv_iload_n hx hb d_S_wordForGoOrCopy_0 rfl (lv_at hl 1 rfl) ?_
  refine lv_if_eq (tgt := 15) hx hb d_S_wordForGoOrCopy_1 (by decide) (fun c1 => ?_) (fun c1 => ?_)
  · refine lv_iload_n hx hb d_S_wordForGoOrCopy_15 rfl (lv_at hl 0 rfl) ?_
    refine lv_if_ne (tgt := 23) hx hb d_S_wordForGoOrCopy_16 (by decide) (fun c2 => ?_) (fun c2 => ?_)
    · refine lv_bipush (v := nI 103) hx hb d_S_wordForGoOrCopy_23 (by decide) ?_
      refine lv_iconst (v := nI 0) hx hb d_S_wordForGoOrCopy_25 (by decide) ?_
      refine lv_iconst (v := nI 0) hx hb d_S_wordForGoOrCopy_26 (by decide) ?_
      refine lv_iload_n hx hb d_S_wordForGoOrCopy_27 rfl (lv_at hl 0 rfl) ?_
      refine lv_iconst (v := nI 0) hx hb d_S_wordForGoOrCopy_28 (by decide) ?_
      refine callE (W.runS (As := [.int (nI 103), .int (nI 0), .int (nI 0), .int a0, .int (nI 0)]) (rest := []) ⟨hx, hb, hml, hown, hts⟩ (c_formI l t (nI 103) (nI 0) (nI 0) a0 (nI 0)) (cwS 5 hts (gS k_124 k_125 k_1 k_126) rfl rfl rfl (by decide +kernel) ⟨Nat.le_of_ble_eq_true rfl, Nat.le_of_ble_eq_true rfl⟩) (tb_pre hT) rfl rfl hl.1 rfl (lv_room (Nat.le_of_ble_eq_true rfl)) d_S_wordForGoOrCopy_29 ⟨Nat.zero_le _, Nat.zero_le _⟩) ?_
      exact W.iret hx hb hr (fun t ht _ => ⟨_, rfl, by rw [f_wordForGoOrCopy, if_pos c1, if_neg c2], ht⟩) (fun q h => nomatch h) d_S_wordForGoOrCopy_32
    · refine lv_iconst (v := nI 0) hx hb d_S_wordForGoOrCopy_19 (by decide) ?_
      refine lv_goto (tgt := 32) hx hb d_S_wordForGoOrCopy_20 (by decide) ?_
      exact W.iret hx hb hr (fun t ht _ => ⟨_, rfl, by rw [f_wordForGoOrCopy, if_pos c1, if_pos c2], ht⟩) (fun q h => nomatch h) d_S_wordForGoOrCopy_32
  · refine lv_bipush (v := nI 51) hx hb d_S_wordForGoOrCopy_4 (by decide) ?_
    refine lv_iload_n hx hb d_S_wordForGoOrCopy_6 rfl (lv_at hl 0 rfl) ?_
    refine lv_iconst (v := nI 0) hx hb d_S_wordForGoOrCopy_7 (by decide) ?_
    refine lv_iconst (v := nI 0) hx hb d_S_wordForGoOrCopy_8 (by decide) ?_
    refine lv_iload_n hx hb d_S_wordForGoOrCopy_9 rfl (lv_at hl 1 rfl) ?_
    refine lv_iconst (v := nI 0) hx hb d_S_wordForGoOrCopy_10 (by decide) ?_
    refine callE (W.runS (As := [.int (nI 51), .int a0, .int (nI 0), .int (nI 0), .int a1, .int (nI 0)]) (rest := []) ⟨hx, hb, hml, hown, hts⟩ (c_formR l t (nI 51) a0 (nI 0) (nI 0) a1 (nI 0)) (cwS 6 hts (gS k_130 k_131 k_1 k_132) rfl rfl rfl (by decide +kernel) ⟨Nat.le_of_ble_eq_true rfl, Nat.le_of_ble_eq_true rfl⟩) (tb_pre hT) rfl rfl hl.1 rfl (lv_room (Nat.le_of_ble_eq_true rfl)) d_S_wordForGoOrCopy_11 ⟨Nat.zero_le _, Nat.zero_le _⟩) ?_
    exact W.iret hx hb hr (fun t ht _ => ⟨_, rfl, by rw [f_wordForGoOrCopy, if_neg c1], ht⟩) (fun q h => nomatch h) d_S_wordForGoOrCopy_14
set_option maxHeartbeats 40000000 in
set_option maxRecDepth 100000 in
theorem c_wordForCallOrAdd (l : Launch) (t : Nat → Nat) (a0 a1 : Int32) : Met l y_S_wordForCallOrAdd w_S_wordForCallOrAdd { frames := 1, cells := 0, slots := 0, locals := 25 } (va_Pc [.int a0, .int a1] (tb t)) (vp_Si (fun r => r = f_wordForCallOrAdd a0 a1)) 0 0 (fun _ => False) := by
  refine Met.ofW (cc := b_S_wordForCallOrAdd) (maxL := 2) (ret := (some .int)) (by decide) rfl ?_
  intro p e s m args below meth c s₁ B hml hv
  obtain ⟨rfl, hT⟩ := hv
  have hx := B.exec
  have hb := B.bytes
  have hr := B.returns
  have hts := atoms_spec (ws := w_S_wordForCallOrAdd) B.pre
  have hown : s.vm.findClass R_S = some m.cls := findClass_of_methodNamed B.named
  have hlocks := B.notSynchronized
  have hl := lv_entry ([.int a0, .int a1]) (n := 2) (Nat.le_of_ble_eq_true rfl)
  rw [lg_entry_eq]
  generalize (lg_sl ([.int a0, .int a1]) ++ List.replicate (2 - (lg_sl ([.int a0, .int a1])).length) Slot.unset).toArray = ls at hl ⊢
  have hl : lv_has ls 2 [(0, .int a0), (1, .int a1)] := hl
  refine lv_iload_n hx hb d_S_wordForCallOrAdd_0 rfl (lv_at hl 1 rfl) ?_
  refine lv_if_eq (tgt := 15) hx hb d_S_wordForCallOrAdd_1 (by decide) (fun c1 => ?_) (fun c1 => ?_)
  · refine lv_iload_n hx hb d_S_wordForCallOrAdd_15 rfl (lv_at hl 0 rfl) ?_
    refine lv_if_ne (tgt := 31) hx hb d_S_wordForCallOrAdd_16 (by decide) (fun c2 => ?_) (fun c2 => ?_)
    · refine lv_bipush (v := nI 103) hx hb d_S_wordForCallOrAdd_31 (by decide) ?_
      refine lv_iconst (v := nI 1) hx hb d_S_wordForCallOrAdd_33 (by decide) ?_
      refine lv_iconst (v := nI 0) hx hb d_S_wordForCallOrAdd_34 (by decide) ?_
      refine lv_iload_n hx hb d_S_wordForCallOrAdd_35 rfl (lv_at hl 0 rfl) ?_
      refine lv_iconst (v := nI 0) hx hb d_S_wordForCallOrAdd_36 (by decide) ?_
      refine callE (W.runS (As := [.int (nI 103), .int (nI 1), .int (nI 0), .int a0, .int (nI 0)]) (rest := []) ⟨hx, hb, hml, hown, hts⟩ (c_formI l t (nI 103) (nI 1) (nI 0) a0 (nI 0)) (cwS 5 hts (gS k_124 k_125 k_1 k_126) rfl rfl rfl (by decide +kernel) ⟨Nat.le_of_ble_eq_true rfl, Nat.le_of_ble_eq_true rfl⟩) (tb_pre hT) rfl rfl hl.1 rfl (lv_room (Nat.le_of_ble_eq_true rfl)) d_S_wordForCallOrAdd_37 ⟨Nat.zero_le _, Nat.zero_le _⟩) ?_
      exact W.iret hx hb hr (fun t ht _ => ⟨_, rfl, by rw [f_wordForCallOrAdd, if_pos c1, if_neg c2], ht⟩) (fun q h => nomatch h) d_S_wordForCallOrAdd_40
    · refine lv_bipush (v := nI 115) hx hb d_S_wordForCallOrAdd_19 (by decide) ?_
      refine lv_iconst (v := nI 0) hx hb d_S_wordForCallOrAdd_21 (by decide) ?_
      refine lv_iconst (v := nI 0) hx hb d_S_wordForCallOrAdd_22 (by decide) ?_
      refine lv_iconst (v := nI 0) hx hb d_S_wordForCallOrAdd_23 (by decide) ?_
      refine lv_iconst (v := nI 1) hx hb d_S_wordForCallOrAdd_24 (by decide) ?_
      refine callE (W.runS (As := [.int (nI 115), .int (nI 0), .int (nI 0), .int (nI 0), .int (nI 1)]) (rest := []) ⟨hx, hb, hml, hown, hts⟩ (c_formI l t (nI 115) (nI 0) (nI 0) (nI 0) (nI 1)) (cwS 5 hts (gS k_124 k_125 k_1 k_126) rfl rfl rfl (by decide +kernel) ⟨Nat.le_of_ble_eq_true rfl, Nat.le_of_ble_eq_true rfl⟩) (tb_pre hT) rfl rfl hl.1 rfl (lv_room (Nat.le_of_ble_eq_true rfl)) d_S_wordForCallOrAdd_25 ⟨Nat.zero_le _, Nat.zero_le _⟩) ?_
      refine lv_goto (tgt := 40) hx hb d_S_wordForCallOrAdd_28 (by decide) ?_
      exact W.iret hx hb hr (fun t ht _ => ⟨_, rfl, by rw [f_wordForCallOrAdd, if_pos c1, if_pos c2], ht⟩) (fun q h => nomatch h) d_S_wordForCallOrAdd_40
  · refine lv_bipush (v := nI 51) hx hb d_S_wordForCallOrAdd_4 (by decide) ?_
    refine lv_iload_n hx hb d_S_wordForCallOrAdd_6 rfl (lv_at hl 0 rfl) ?_
    refine lv_iconst (v := nI 0) hx hb d_S_wordForCallOrAdd_7 (by decide) ?_
    refine lv_iload_n hx hb d_S_wordForCallOrAdd_8 rfl (lv_at hl 0 rfl) ?_
    refine lv_iload_n hx hb d_S_wordForCallOrAdd_9 rfl (lv_at hl 1 rfl) ?_
    refine lv_iconst (v := nI 0) hx hb d_S_wordForCallOrAdd_10 (by decide) ?_
    refine callE (W.runS (As := [.int (nI 51), .int a0, .int (nI 0), .int a0, .int a1, .int (nI 0)]) (rest := []) ⟨hx, hb, hml, hown, hts⟩ (c_formR l t (nI 51) a0 (nI 0) a0 a1 (nI 0)) (cwS 6 hts (gS k_130 k_131 k_1 k_132) rfl rfl rfl (by decide +kernel) ⟨Nat.le_of_ble_eq_true rfl, Nat.le_of_ble_eq_true rfl⟩) (tb_pre hT) rfl rfl hl.1 rfl (lv_room (Nat.le_of_ble_eq_true rfl)) d_S_wordForCallOrAdd_11 ⟨Nat.zero_le _, Nat.zero_le _⟩) ?_
    exact W.iret hx hb hr (fun t ht _ => ⟨_, rfl, by rw [f_wordForCallOrAdd, if_neg c1], ht⟩) (fun q h => nomatch h) d_S_wordForCallOrAdd_14
set_option maxHeartbeats 40000000 in
set_option maxRecDepth 100000 in
theorem c_wordForLow2 (l : Launch) (t : Nat → Nat) (a0 : Int32) : Met l y_S_wordForLow2 w_S_wordForLow2 { frames := 2, cells := 0, slots := 0, locals := 49 } (va_Pc [.int a0] (tb t)) (vp_Si (fun r => r = f_wordForLow2 a0)) 0 0 (fun _ => False) := by
  refine Met.ofW (cc := b_S_wordForLow2) (maxL := 3) (ret := (some .int)) (by decide) rfl ?_
  intro p e s m args below meth c s₁ B hml hv
  obtain ⟨rfl, hT⟩ := hv
  have hx := B.exec
  have hb := B.bytes
  have hr := B.returns
  have hts := atoms_spec (ws := w_S_wordForLow2) B.pre
  have hown : s.vm.findClass R_S = some m.cls := findClass_of_methodNamed B.named
  have hlocks := B.notSynchronized
  have hl := lv_entry ([.int a0]) (n := 3) (Nat.le_of_ble_eq_true rfl)
  rw [lg_entry_eq]
  generalize (lg_sl ([.int a0]) ++ List.replicate (3 - (lg_sl ([.int a0])).length) Slot.unset).toArray = ls at hl ⊢
  have hl : lv_has ls 3 [(0, .int a0)] := hl
  refine lv_iload_n hx hb d_S_wordForLow2_0 rfl (lv_at hl 0 rfl) ?_
  refine lv_bipush (v := nI 11) hx hb d_S_wordForLow2_1 (by decide) ?_
  refine lv_bipush (v := nI 7) hx hb d_S_wordForLow2_3 (by decide) ?_
  refine callE (W.runS (As := [.int a0, .int (nI 11), .int (nI 7)]) (rest := []) ⟨hx, hb, hml, hown, hts⟩ (c_bits l t a0 (nI 11) (nI 7)) (cwS 3 hts (gS k_47 k_48 k_1 k_49) rfl rfl rfl (by decide +kernel) ⟨Nat.le_of_ble_eq_true rfl, Nat.le_of_ble_eq_true rfl⟩) (tb_pre hT) rfl rfl hl.1 rfl (lv_room (Nat.le_of_ble_eq_true rfl)) d_S_wordForLow2_5 ⟨Nat.zero_le _, Nat.zero_le _⟩) ?_
  refine lv_istore_n (lv' := [(1, .int (f_bits a0 (nI 11) (nI 7))), (0, .int a0)]) hx hb d_S_wordForLow2_8 rfl hl (by decide) rfl (fun ls hl => ?_)
  refine lv_iload_n hx hb d_S_wordForLow2_9 rfl (lv_at hl 1 rfl) ?_
  refine lv_bipush (v := nI 6) hx hb d_S_wordForLow2_10 (by decide) ?_
  refine lv_iconst (v := nI 2) hx hb d_S_wordForLow2_12 (by decide) ?_
  refine callE (W.runS (As := [.int a0, .int (nI 6), .int (nI 2)]) (rest := []) ⟨hx, hb, hml, hown, hts⟩ (c_bits l t a0 (nI 6) (nI 2)) (cwS 3 hts (gS k_47 k_48 k_1 k_49) rfl rfl rfl (by decide +kernel) ⟨Nat.le_of_ble_eq_true rfl, Nat.le_of_ble_eq_true rfl⟩) (tb_pre hT) rfl rfl hl.1 rfl (lv_room (Nat.le_of_ble_eq_true rfl)) d_S_wordForLow2_13 ⟨Nat.zero_le _, Nat.zero_le _⟩) ?_
  refine lv_istore_n (lv' := [(2, .int (f_bits a0 (nI 6) (nI 2))), (1, .int (f_bits a0 (nI 11) (nI 7))), (0, .int a0)]) hx hb d_S_wordForLow2_16 rfl hl (by decide) rfl (fun ls hl => ?_)
  refine lv_iload_n hx hb d_S_wordForLow2_17 rfl (lv_at hl 2 rfl) ?_
  refine lv_bipush (v := nI 15) hx hb d_S_wordForLow2_18 (by decide) ?_
  refine lv_bipush (v := nI 13) hx hb d_S_wordForLow2_20 (by decide) ?_
  refine callE (W.runS (As := [.int a0, .int (nI 15), .int (nI 13)]) (rest := []) ⟨hx, hb, hml, hown, hts⟩ (c_bits l t a0 (nI 15) (nI 13)) (cwS 3 hts (gS k_47 k_48 k_1 k_49) rfl rfl rfl (by decide +kernel) ⟨Nat.le_of_ble_eq_true rfl, Nat.le_of_ble_eq_true rfl⟩) (tb_pre hT) rfl rfl hl.1 rfl (lv_room (Nat.le_of_ble_eq_true rfl)) d_S_wordForLow2_22 ⟨Nat.zero_le _, Nat.zero_le _⟩) ?_
  by_cases c1 : (f_bits a0 (nI 15) (nI 13)) = nI 0
  · refine lv_tableIn (tgt := 68) (off := 43) hx hb d_S_wordForLow2_25 (by rw [c1]; decide +kernel) (by rw [c1]; decide +kernel) (by rw [c1]; decide +kernel) (by decide) ?_
    refine lv_bipush (v := nI 19) hx hb d_S_wordForLow2_68 (by decide) ?_
    refine lv_iload_n hx hb d_S_wordForLow2_70 rfl (lv_at hl 1 rfl) ?_
    refine lv_iconst (v := nI 1) hx hb d_S_wordForLow2_71 (by decide) ?_
    refine lv_iload_n hx hb d_S_wordForLow2_72 rfl (lv_at hl 1 rfl) ?_
    refine lv_iload_n hx hb d_S_wordForLow2_73 rfl (lv_at hl 2 rfl) ?_
    refine callE (W.runS (As := [.int a0]) (rest := [.int (f_bits a0 (nI 11) (nI 7)), .int (nI 1), .int (f_bits a0 (nI 11) (nI 7)), .int (nI 19)]) ⟨hx, hb, hml, hown, hts⟩ (c_unsignedImmediate l t a0) (cwS 1 hts (gS k_154 k_155 k_1 k_156) rfl rfl rfl (by decide +kernel) ⟨Nat.le_of_ble_eq_true rfl, Nat.le_of_ble_eq_true rfl⟩) (tb_pre hT) rfl rfl hl.1 rfl (lv_room (Nat.le_of_ble_eq_true rfl)) d_S_wordForLow2_74 ⟨Nat.zero_le _, Nat.zero_le _⟩) ?_
    refine callE (W.runS (As := [.int (nI 19), .int (f_bits a0 (nI 11) (nI 7)), .int (nI 1), .int (f_bits a0 (nI 11) (nI 7)), .int (f_unsignedImmediate a0)]) (rest := []) ⟨hx, hb, hml, hown, hts⟩ (c_formI l t (nI 19) (f_bits a0 (nI 11) (nI 7)) (nI 1) (f_bits a0 (nI 11) (nI 7)) (f_unsignedImmediate a0)) (cwS 5 hts (gS k_124 k_125 k_1 k_126) rfl rfl rfl (by decide +kernel) ⟨Nat.le_of_ble_eq_true rfl, Nat.le_of_ble_eq_true rfl⟩) (tb_pre hT) rfl rfl hl.1 rfl (lv_room (Nat.le_of_ble_eq_true rfl)) d_S_wordForLow2_77 ⟨Nat.zero_le _, Nat.zero_le _⟩) ?_
    exact W.iret hx hb hr (fun t ht _ => ⟨_, rfl, by rw [f_wordForLow2, if_pos c1], ht⟩) (fun q h => nomatch h) d_S_wordForLow2_80
  by_cases c2 : (f_bits a0 (nI 15) (nI 13)) = nI 1
  · refine lv_tableIn (tgt := 81) (off := 56) hx hb d_S_wordForLow2_25 (by rw [c2]; decide +kernel) (by rw [c2]; decide +kernel) (by rw [c2]; decide +kernel) (by decide) ?_
    refine lv_bipush (v := nI 7) hx hb d_S_wordForLow2_81 (by decide) ?_
    refine lv_iload_n hx hb d_S_wordForLow2_83 rfl (lv_at hl 1 rfl) ?_
    refine lv_iconst (v := nI 3) hx hb d_S_wordForLow2_84 (by decide) ?_
    refine lv_iconst (v := nI 2) hx hb d_S_wordForLow2_85 (by decide) ?_
    refine lv_iload_n hx hb d_S_wordForLow2_86 rfl (lv_at hl 2 rfl) ?_
    refine va_gets hx hb (hT 6 _ rfl).1 va_S.rf hown (hts _ (List.mem_cons_of_mem _ k_104)) (fun _ h9 => h9) d_S_wordForLow2_87 ?_
    refine callE (W.runS (As := [.int a0, .ref (t 6)]) (rest := [.int (nI 2), .int (nI 3), .int (f_bits a0 (nI 11) (nI 7)), .int (nI 7)]) ⟨hx, hb, hml, hown, hts⟩ (c_gather l t 6 rfl (mm := 3) rfl (by decide) a0) (cwS 2 hts (gS k_118 k_119 k_1 k_120) rfl rfl rfl (by decide +kernel) ⟨Nat.le_of_ble_eq_true rfl, Nat.le_of_ble_eq_true rfl⟩) (tb_pre hT) rfl rfl hl.1 rfl (lv_room (Nat.le_of_ble_eq_true rfl)) d_S_wordForLow2_90 ⟨Nat.zero_le _, Nat.zero_le _⟩) ?_
    refine callE (W.runS (As := [.int (nI 7), .int (f_bits a0 (nI 11) (nI 7)), .int (nI 3), .int (nI 2), .int (f_gather row6 (nI 0) a0)]) (rest := []) ⟨hx, hb, hml, hown, hts⟩ (c_formI l t (nI 7) (f_bits a0 (nI 11) (nI 7)) (nI 3) (nI 2) (f_gather row6 (nI 0) a0)) (cwS 5 hts (gS k_124 k_125 k_1 k_126) rfl rfl rfl (by decide +kernel) ⟨Nat.le_of_ble_eq_true rfl, Nat.le_of_ble_eq_true rfl⟩) (tb_pre hT) rfl rfl hl.1 rfl (lv_room (Nat.le_of_ble_eq_true rfl)) d_S_wordForLow2_93 ⟨Nat.zero_le _, Nat.zero_le _⟩) ?_
    exact W.iret hx hb hr (fun t ht _ => ⟨_, rfl, by rw [f_wordForLow2, if_neg c1, if_pos c2], ht⟩) (fun q h => nomatch h) d_S_wordForLow2_96
  by_cases c3 : (f_bits a0 (nI 15) (nI 13)) = nI 2
  · refine lv_tableIn (tgt := 97) (off := 72) hx hb d_S_wordForLow2_25 (by rw [c3]; decide +kernel) (by rw [c3]; decide +kernel) (by rw [c3]; decide +kernel) (by decide) ?_
    refine lv_iload_n hx hb d_S_wordForLow2_97 rfl (lv_at hl 1 rfl) ?_
    refine lv_if_ne (tgt := 105) hx hb d_S_wordForLow2_98 (by decide) (fun c4 => ?_) (fun c4 => ?_)
    · refine lv_iconst (v := nI 3) hx hb d_S_wordForLow2_105 (by decide) ?_
      refine lv_iload_n hx hb d_S_wordForLow2_106 rfl (lv_at hl 1 rfl) ?_
      refine lv_iconst (v := nI 2) hx hb d_S_wordForLow2_107 (by decide) ?_
      refine lv_iconst (v := nI 2) hx hb d_S_wordForLow2_108 (by decide) ?_
      refine lv_iload_n hx hb d_S_wordForLow2_109 rfl (lv_at hl 2 rfl) ?_
      refine va_gets hx hb (hT 7 _ rfl).1 va_S.rf hown (hts _ (List.mem_cons_of_mem _ k_106)) (fun _ h9 => h9) d_S_wordForLow2_110 ?_
      refine callE (W.runS (As := [.int a0, .ref (t 7)]) (rest := [.int (nI 2), .int (nI 2), .int (f_bits a0 (nI 11) (nI 7)), .int (nI 3)]) ⟨hx, hb, hml, hown, hts⟩ (c_gather l t 7 rfl (mm := 3) rfl (by decide) a0) (cwS 2 hts (gS k_118 k_119 k_1 k_120) rfl rfl rfl (by decide +kernel) ⟨Nat.le_of_ble_eq_true rfl, Nat.le_of_ble_eq_true rfl⟩) (tb_pre hT) rfl rfl hl.1 rfl (lv_room (Nat.le_of_ble_eq_true rfl)) d_S_wordForLow2_113 ⟨Nat.zero_le _, Nat.zero_le _⟩) ?_
      refine callE (W.runS (As := [.int (nI 3), .int (f_bits a0 (nI 11) (nI 7)), .int (nI 2), .int (nI 2), .int (f_gather row7 (nI 0) a0)]) (rest := []) ⟨hx, hb, hml, hown, hts⟩ (c_formI l t (nI 3) (f_bits a0 (nI 11) (nI 7)) (nI 2) (nI 2) (f_gather row7 (nI 0) a0)) (cwS 5 hts (gS k_124 k_125 k_1 k_126) rfl rfl rfl (by decide +kernel) ⟨Nat.le_of_ble_eq_true rfl, Nat.le_of_ble_eq_true rfl⟩) (tb_pre hT) rfl rfl hl.1 rfl (lv_room (Nat.le_of_ble_eq_true rfl)) d_S_wordForLow2_116 ⟨Nat.zero_le _, Nat.zero_le _⟩) ?_
      exact W.iret hx hb hr (fun t ht _ => ⟨_, rfl, by rw [f_wordForLow2, if_neg c1, if_neg c2, if_pos c3, if_neg c4], ht⟩) (fun q h => nomatch h) d_S_wordForLow2_119
    · refine lv_iconst (v := nI 0) hx hb d_S_wordForLow2_101 (by decide) ?_
      refine lv_goto (tgt := 119) hx hb d_S_wordForLow2_102 (by decide) ?_
      exact W.iret hx hb hr (fun t ht _ => ⟨_, rfl, by rw [f_wordForLow2, if_neg c1, if_neg c2, if_pos c3, if_pos c4], ht⟩) (fun q h => nomatch h) d_S_wordForLow2_119
  by_cases c5 : (f_bits a0 (nI 15) (nI 13)) = nI 3
  · refine lv_tableIn (tgt := 120) (off := 95) hx hb d_S_wordForLow2_25 (by rw [c5]; decide +kernel) (by rw [c5]; decide +kernel) (by rw [c5]; decide +kernel) (by decide) ?_
    refine lv_iload_n hx hb d_S_wordForLow2_120 rfl (lv_at hl 1 rfl) ?_
    refine lv_if_ne (tgt := 128) hx hb d_S_wordForLow2_121 (by decide) (fun c6 => ?_) (fun c6 => ?_)
    · refine lv_iconst (v := nI 3) hx hb d_S_wordForLow2_128 (by decide) ?_
      refine lv_iload_n hx hb d_S_wordForLow2_129 rfl (lv_at hl 1 rfl) ?_
      refine lv_iconst (v := nI 3) hx hb d_S_wordForLow2_130 (by decide) ?_
      refine lv_iconst (v := nI 2) hx hb d_S_wordForLow2_131 (by decide) ?_
      refine lv_iload_n hx hb d_S_wordForLow2_132 rfl (lv_at hl 2 rfl) ?_
      refine va_gets hx hb (hT 6 _ rfl).1 va_S.rf hown (hts _ (List.mem_cons_of_mem _ k_104)) (fun _ h9 => h9) d_S_wordForLow2_133 ?_
      refine callE (W.runS (As := [.int a0, .ref (t 6)]) (rest := [.int (nI 2), .int (nI 3), .int (f_bits a0 (nI 11) (nI 7)), .int (nI 3)]) ⟨hx, hb, hml, hown, hts⟩ (c_gather l t 6 rfl (mm := 3) rfl (by decide) a0) (cwS 2 hts (gS k_118 k_119 k_1 k_120) rfl rfl rfl (by decide +kernel) ⟨Nat.le_of_ble_eq_true rfl, Nat.le_of_ble_eq_true rfl⟩) (tb_pre hT) rfl rfl hl.1 rfl (lv_room (Nat.le_of_ble_eq_true rfl)) d_S_wordForLow2_136 ⟨Nat.zero_le _, Nat.zero_le _⟩) ?_
      refine callE (W.runS (As := [.int (nI 3), .int (f_bits a0 (nI 11) (nI 7)), .int (nI 3), .int (nI 2), .int (f_gather row6 (nI 0) a0)]) (rest := []) ⟨hx, hb, hml, hown, hts⟩ (c_formI l t (nI 3) (f_bits a0 (nI 11) (nI 7)) (nI 3) (nI 2) (f_gather row6 (nI 0) a0)) (cwS 5 hts (gS k_124 k_125 k_1 k_126) rfl rfl rfl (by decide +kernel) ⟨Nat.le_of_ble_eq_true rfl, Nat.le_of_ble_eq_true rfl⟩) (tb_pre hT) rfl rfl hl.1 rfl (lv_room (Nat.le_of_ble_eq_true rfl)) d_S_wordForLow2_139 ⟨Nat.zero_le _, Nat.zero_le _⟩) ?_
      exact W.iret hx hb hr (fun t ht _ => ⟨_, rfl, by rw [f_wordForLow2, if_neg c1, if_neg c2, if_neg c3, if_pos c5, if_neg c6], ht⟩) (fun q h => nomatch h) d_S_wordForLow2_142
    · refine lv_iconst (v := nI 0) hx hb d_S_wordForLow2_124 (by decide) ?_
      refine lv_goto (tgt := 142) hx hb d_S_wordForLow2_125 (by decide) ?_
      exact W.iret hx hb hr (fun t ht _ => ⟨_, rfl, by rw [f_wordForLow2, if_neg c1, if_neg c2, if_neg c3, if_pos c5, if_pos c6], ht⟩) (fun q h => nomatch h) d_S_wordForLow2_142
  by_cases c7 : (f_bits a0 (nI 15) (nI 13)) = nI 4
  · refine lv_tableIn (tgt := 143) (off := 118) hx hb d_S_wordForLow2_25 (by rw [c7]; decide +kernel) (by rw [c7]; decide +kernel) (by rw [c7]; decide +kernel) (by decide) ?_
    refine lv_iload_n hx hb d_S_wordForLow2_143 rfl (lv_at hl 2 rfl) ?_
    refine lv_bipush (v := nI 12) hx hb d_S_wordForLow2_144 (by decide) ?_
    refine lv_bipush (v := nI 12) hx hb d_S_wordForLow2_146 (by decide) ?_
    refine callE (W.runS (As := [.int a0, .int (nI 12), .int (nI 12)]) (rest := []) ⟨hx, hb, hml, hown, hts⟩ (c_bits l t a0 (nI 12) (nI 12)) (cwS 3 hts (gS k_47 k_48 k_1 k_49) rfl rfl rfl (by decide +kernel) ⟨Nat.le_of_ble_eq_true rfl, Nat.le_of_ble_eq_true rfl⟩) (tb_pre hT) rfl rfl hl.1 rfl (lv_room (Nat.le_of_ble_eq_true rfl)) d_S_wordForLow2_148 ⟨Nat.zero_le _, Nat.zero_le _⟩) ?_
    refine lv_if_ne (tgt := 162) hx hb d_S_wordForLow2_151 (by decide) (fun c8 => ?_) (fun c8 => ?_)
    · refine lv_iload_n hx hb d_S_wordForLow2_162 rfl (lv_at hl 1 rfl) ?_
      refine lv_iload_n hx hb d_S_wordForLow2_163 rfl (lv_at hl 0 rfl) ?_
      refine callE (W.runS (As := [.int (f_bits a0 (nI 11) (nI 7)), .int (f_bits a0 (nI 6) (nI 2))]) (rest := []) ⟨hx, hb, hml, hown, hts⟩ (c_wordForCallOrAdd l t (f_bits a0 (nI 11) (nI 7)) (f_bits a0 (nI 6) (nI 2))) (cwS 2 hts (gS k_172 k_173 k_1 k_174) rfl rfl rfl (by decide +kernel) ⟨Nat.le_of_ble_eq_true rfl, Nat.le_of_ble_eq_true rfl⟩) (tb_pre hT) rfl rfl hl.1 rfl (lv_room (Nat.le_of_ble_eq_true rfl)) d_S_wordForLow2_164 ⟨Nat.zero_le _, Nat.zero_le _⟩) ?_
      exact W.iret hx hb hr (fun t ht _ => ⟨_, rfl, by rw [f_wordForLow2, if_neg c1, if_neg c2, if_neg c3, if_neg c5, if_pos c7, if_neg c8], ht⟩) (fun q h => nomatch h) d_S_wordForLow2_167
    · refine lv_iload_n hx hb d_S_wordForLow2_154 rfl (lv_at hl 1 rfl) ?_
      refine lv_iload_n hx hb d_S_wordForLow2_155 rfl (lv_at hl 0 rfl) ?_
      refine callE (W.runS (As := [.int (f_bits a0 (nI 11) (nI 7)), .int (f_bits a0 (nI 6) (nI 2))]) (rest := []) ⟨hx, hb, hml, hown, hts⟩ (c_wordForGoOrCopy l t (f_bits a0 (nI 11) (nI 7)) (f_bits a0 (nI 6) (nI 2))) (cwS 2 hts (gS k_169 k_170 k_1 k_171) rfl rfl rfl (by decide +kernel) ⟨Nat.le_of_ble_eq_true rfl, Nat.le_of_ble_eq_true rfl⟩) (tb_pre hT) rfl rfl hl.1 rfl (lv_room (Nat.le_of_ble_eq_true rfl)) d_S_wordForLow2_156 ⟨Nat.zero_le _, Nat.zero_le _⟩) ?_
      refine lv_goto (tgt := 167) hx hb d_S_wordForLow2_159 (by decide) ?_
      exact W.iret hx hb hr (fun t ht _ => ⟨_, rfl, by rw [f_wordForLow2, if_neg c1, if_neg c2, if_neg c3, if_neg c5, if_pos c7, if_pos c8], ht⟩) (fun q h => nomatch h) d_S_wordForLow2_167
  by_cases c9 : (f_bits a0 (nI 15) (nI 13)) = nI 5
  · refine lv_tableIn (tgt := 168) (off := 143) hx hb d_S_wordForLow2_25 (by rw [c9]; decide +kernel) (by rw [c9]; decide +kernel) (by rw [c9]; decide +kernel) (by decide) ?_
    refine lv_bipush (v := nI 39) hx hb d_S_wordForLow2_168 (by decide) ?_
    refine lv_iconst (v := nI 3) hx hb d_S_wordForLow2_170 (by decide) ?_
    refine lv_iconst (v := nI 2) hx hb d_S_wordForLow2_171 (by decide) ?_
    refine lv_iload_n hx hb d_S_wordForLow2_172 rfl (lv_at hl 0 rfl) ?_
    refine lv_iload_n hx hb d_S_wordForLow2_173 rfl (lv_at hl 2 rfl) ?_
    refine va_gets hx hb (hT 8 _ rfl).1 va_S.rf hown (hts _ (List.mem_cons_of_mem _ k_108)) (fun _ h9 => h9) d_S_wordForLow2_174 ?_
    refine callE (W.runS (As := [.int a0, .ref (t 8)]) (rest := [.int (f_bits a0 (nI 6) (nI 2)), .int (nI 2), .int (nI 3), .int (nI 39)]) ⟨hx, hb, hml, hown, hts⟩ (c_gather l t 8 rfl (mm := 2) rfl (by decide) a0) (cwS 2 hts (gS k_118 k_119 k_1 k_120) rfl rfl rfl (by decide +kernel) ⟨Nat.le_of_ble_eq_true rfl, Nat.le_of_ble_eq_true rfl⟩) (tb_pre hT) rfl rfl hl.1 rfl (lv_room (Nat.le_of_ble_eq_true rfl)) d_S_wordForLow2_177 ⟨Nat.zero_le _, Nat.zero_le _⟩) ?_
    refine callE (W.runS (As := [.int (nI 39), .int (nI 3), .int (nI 2), .int (f_bits a0 (nI 6) (nI 2)), .int (f_gather row8 (nI 0) a0)]) (rest := []) ⟨hx, hb, hml, hown, hts⟩ (c_formS l t (nI 39) (nI 3) (nI 2) (f_bits a0 (nI 6) (nI 2)) (f_gather row8 (nI 0) a0)) (cwS 5 hts (gS k_127 k_128 k_1 k_129) rfl rfl rfl (by decide +kernel) ⟨Nat.le_of_ble_eq_true rfl, Nat.le_of_ble_eq_true rfl⟩) (tb_pre hT) rfl rfl hl.1 rfl (lv_room (Nat.le_of_ble_eq_true rfl)) d_S_wordForLow2_180 ⟨Nat.zero_le _, Nat.zero_le _⟩) ?_
    exact W.iret hx hb hr (fun t ht _ => ⟨_, rfl, by rw [f_wordForLow2, if_neg c1, if_neg c2, if_neg c3, if_neg c5, if_neg c7, if_pos c9], ht⟩) (fun q h => nomatch h) d_S_wordForLow2_183
  by_cases c10 : (f_bits a0 (nI 15) (nI 13)) = nI 6
  · refine lv_tableIn (tgt := 184) (off := 159) hx hb d_S_wordForLow2_25 (by rw [c10]; decide +kernel) (by rw [c10]; decide +kernel) (by rw [c10]; decide +kernel) (by decide) ?_
    refine lv_bipush (v := nI 35) hx hb d_S_wordForLow2_184 (by decide) ?_
    refine lv_iconst (v := nI 2) hx hb d_S_wordForLow2_186 (by decide) ?_
    refine lv_iconst (v := nI 2) hx hb d_S_wordForLow2_187 (by decide) ?_
    refine lv_iload_n hx hb d_S_wordForLow2_188 rfl (lv_at hl 0 rfl) ?_
    refine lv_iload_n hx hb d_S_wordForLow2_189 rfl (lv_at hl 2 rfl) ?_
    refine va_gets hx hb (hT 9 _ rfl).1 va_S.rf hown (hts _ (List.mem_cons_of_mem _ k_110)) (fun _ h9 => h9) d_S_wordForLow2_190 ?_
    refine callE (W.runS (As := [.int a0, .ref (t 9)]) (rest := [.int (f_bits a0 (nI 6) (nI 2)), .int (nI 2), .int (nI 2), .int (nI 35)]) ⟨hx, hb, hml, hown, hts⟩ (c_gather l t 9 rfl (mm := 2) rfl (by decide) a0) (cwS 2 hts (gS k_118 k_119 k_1 k_120) rfl rfl rfl (by decide +kernel) ⟨Nat.le_of_ble_eq_true rfl, Nat.le_of_ble_eq_true rfl⟩) (tb_pre hT) rfl rfl hl.1 rfl (lv_room (Nat.le_of_ble_eq_true rfl)) d_S_wordForLow2_193 ⟨Nat.zero_le _, Nat.zero_le _⟩) ?_
    refine callE (W.runS (As := [.int (nI 35), .int (nI 2), .int (nI 2), .int (f_bits a0 (nI 6) (nI 2)), .int (f_gather row9 (nI 0) a0)]) (rest := []) ⟨hx, hb, hml, hown, hts⟩ (c_formS l t (nI 35) (nI 2) (nI 2) (f_bits a0 (nI 6) (nI 2)) (f_gather row9 (nI 0) a0)) (cwS 5 hts (gS k_127 k_128 k_1 k_129) rfl rfl rfl (by decide +kernel) ⟨Nat.le_of_ble_eq_true rfl, Nat.le_of_ble_eq_true rfl⟩) (tb_pre hT) rfl rfl hl.1 rfl (lv_room (Nat.le_of_ble_eq_true rfl)) d_S_wordForLow2_196 ⟨Nat.zero_le _, Nat.zero_le _⟩) ?_
    exact W.iret hx hb hr (fun t ht _ => ⟨_, rfl, by rw [f_wordForLow2, if_neg c1, if_neg c2, if_neg c3, if_neg c5, if_neg c7, if_neg c9, if_pos c10], ht⟩) (fun q h => nomatch h) d_S_wordForLow2_199
  have c1z := lv_neT (a := 0) c1 (by decide)
  have c2z := lv_neT (a := 1) c2 (by decide)
  have c3z := lv_neT (a := 2) c3 (by decide)
  have c5z := lv_neT (a := 3) c5 (by decide)
  have c7z := lv_neT (a := 4) c7 (by decide)
  have c9z := lv_neT (a := 5) c9 (by decide)
  have c10z := lv_neT (a := 6) c10 (by decide)
  refine lv_tableOut (tgt := 200) hx hb d_S_wordForLow2_25 (by omega) (by decide) ?_
  refine lv_bipush (v := nI 35) hx hb d_S_wordForLow2_200 (by decide) ?_
  refine lv_iconst (v := nI 3) hx hb d_S_wordForLow2_202 (by decide) ?_
  refine lv_iconst (v := nI 2) hx hb d_S_wordForLow2_203 (by decide) ?_
  refine lv_iload_n hx hb d_S_wordForLow2_204 rfl (lv_at hl 0 rfl) ?_
  refine lv_iload_n hx hb d_S_wordForLow2_205 rfl (lv_at hl 2 rfl) ?_
  refine va_gets hx hb (hT 8 _ rfl).1 va_S.rf hown (hts _ (List.mem_cons_of_mem _ k_108)) (fun _ h9 => h9) d_S_wordForLow2_206 ?_
  refine callE (W.runS (As := [.int a0, .ref (t 8)]) (rest := [.int (f_bits a0 (nI 6) (nI 2)), .int (nI 2), .int (nI 3), .int (nI 35)]) ⟨hx, hb, hml, hown, hts⟩ (c_gather l t 8 rfl (mm := 2) rfl (by decide) a0) (cwS 2 hts (gS k_118 k_119 k_1 k_120) rfl rfl rfl (by decide +kernel) ⟨Nat.le_of_ble_eq_true rfl, Nat.le_of_ble_eq_true rfl⟩) (tb_pre hT) rfl rfl hl.1 rfl (lv_room (Nat.le_of_ble_eq_true rfl)) d_S_wordForLow2_209 ⟨Nat.zero_le _, Nat.zero_le _⟩) ?_
  refine callE (W.runS (As := [.int (nI 35), .int (nI 3), .int (nI 2), .int (f_bits a0 (nI 6) (nI 2)), .int (f_gather row8 (nI 0) a0)]) (rest := []) ⟨hx, hb, hml, hown, hts⟩ (c_formS l t (nI 35) (nI 3) (nI 2) (f_bits a0 (nI 6) (nI 2)) (f_gather row8 (nI 0) a0)) (cwS 5 hts (gS k_127 k_128 k_1 k_129) rfl rfl rfl (by decide +kernel) ⟨Nat.le_of_ble_eq_true rfl, Nat.le_of_ble_eq_true rfl⟩) (tb_pre hT) rfl rfl hl.1 rfl (lv_room (Nat.le_of_ble_eq_true rfl)) d_S_wordForLow2_212 ⟨Nat.zero_le _, Nat.zero_le _⟩) ?_
  exact W.iret hx hb hr (fun t ht _ => ⟨_, rfl, by rw [f_wordForLow2, if_neg c1, if_neg c2, if_neg c3, if_neg c5, if_neg c7, if_neg c9, if_neg c10], ht⟩) (fun q h => nomatch h) d_S_wordForLow2_215
