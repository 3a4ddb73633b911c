set_option maxHeartbeats 40000000 in
set_option maxRecDepth 100000 in
theorem c_signedImmediate (l : Launch) (t : Nat → Nat) (a0 : Int32) : Met l y_S_signedImmediate w_S_signedImmediate { frames := 1, cells := 0, slots := 0, locals := 22 } (va_Pc [.int a0] (tb t)) (vp_Si (fun r => r = f_signedImmediate a0)) 0 0 (fun _ => False) := by
  refine Met.ofW (cc := b_S_signedImmediate) (maxL := 1) (ret := (some .int)) (by decide) rfl ?_
  intro p e s m args below meth c s₁ B hml hv
  obtain ⟨rfl, hT⟩ := hv
  have hx := B.exec
  have hb := B.bytes
  have hr := B.returns
  have hts := atoms_spec (ws := w_S_signedImmediate) B.pre
  have hown : s.vm.findClass R_S = some m.cls := findClass_of_methodNamed B.named
  have hlocks := B.notSynchronized
  have hl := lv_entry ([.int a0]) (n := 1) (Nat.le_of_ble_eq_true rfl)
  rw [lg_entry_eq]
  generalize (lg_sl ([.int a0]) ++ List.replicate (1 - (lg_sl ([.int a0])).length) Slot.unset).toArray = ls at hl ⊢
  have hl : lv_has ls 1 [(0, .int a0)] := hl
  refine lv_iload_n hx hb d_S_signedImmediate_0 rfl (lv_at hl 0 rfl) ?_
  refine lv_bipush (v := nI 6) hx hb d_S_signedImmediate_1 (by decide) ?_
  refine lv_iconst (v := nI 2) hx hb d_S_signedImmediate_3 (by decide) ?_
  refine callE (W.runS (As := [.int a0, .int (nI 6), .int (nI 2)]) (rest := []) ⟨hx, hb, hml, hown, hts⟩ (c_bits l t a0 (nI 6) (nI 2)) (cwS 3 hts (gS k_47 k_48 k_1 k_49) rfl rfl rfl (by decide +kernel) ⟨Nat.le_of_ble_eq_true rfl, Nat.le_of_ble_eq_true rfl⟩) (tb_pre hT) rfl rfl hl.1 rfl (lv_room (Nat.le_of_ble_eq_true rfl)) d_S_signedImmediate_4 ⟨Nat.zero_le _, Nat.zero_le _⟩) ?_
  refine lv_iload_n hx hb d_S_signedImmediate_7 rfl (lv_at hl 0 rfl) ?_
  refine lv_bipush (v := nI 12) hx hb d_S_signedImmediate_8 (by decide) ?_
  refine lv_bipush (v := nI 12) hx hb d_S_signedImmediate_10 (by decide) ?_
  refine callE (W.runS (As := [.int a0, .int (nI 12), .int (nI 12)]) (rest := [.int (f_bits a0 (nI 6) (nI 2))]) ⟨hx, hb, hml, hown, hts⟩ (c_bits l t a0 (nI 12) (nI 12)) (cwS 3 hts (gS k_47 k_48 k_1 k_49) rfl rfl rfl (by decide +kernel) ⟨Nat.le_of_ble_eq_true rfl, Nat.le_of_ble_eq_true rfl⟩) (tb_pre hT) rfl rfl hl.1 rfl (lv_room (Nat.le_of_ble_eq_true rfl)) d_S_signedImmediate_12 ⟨Nat.zero_le _, Nat.zero_le _⟩) ?_
  refine lv_iconst (v := nI 5) hx hb d_S_signedImmediate_15 (by decide) ?_
  refine lv_ishl hx hb d_S_signedImmediate_16 ?_
  refine lv_isub hx hb d_S_signedImmediate_17 ?_
  exact W.iret hx hb hr (fun t ht _ => ⟨_, rfl, by rw [f_signedImmediate], ht⟩) (fun q h => nomatch h) d_S_signedImmediate_18
set_option maxHeartbeats 40000000 in
set_option maxRecDepth 100000 in
theorem c_withSign (l : Launch) (t : Nat → Nat) (a0 a1 : Int32) : Met l y_S_withSign w_S_withSign { frames := 0, cells := 0, slots := 0, locals := 0 } (va_Pc [.int a0, .int a1] (tb t)) (vp_Si (fun r => r = f_withSign a0 a1)) 0 0 (fun _ => False) := by
  refine Met.ofW (cc := b_S_withSign) (maxL := 3) (ret := (some .int)) (by decide) rfl ?_
  intro p e s m args below meth c s₁ B hml hv
  obtain ⟨rfl, hT⟩ := hv
  have hx := B.exec
  have hb := B.bytes
  have hr := B.returns
  have hts := atoms_spec (ws := w_S_withSign) B.pre
  have hown : s.vm.findClass R_S = some m.cls := findClass_of_methodNamed B.named
  have hlocks := B.notSynchronized
  have hl := lv_entry ([.int a0, .int a1]) (n := 3) (Nat.le_of_ble_eq_true rfl)
  rw [lg_entry_eq]
  generalize (lg_sl ([.int a0, .int a1]) ++ List.replicate (3 - (lg_sl ([.int a0, .int a1])).length) Slot.unset).toArray = ls at hl ⊢
  have hl : lv_has ls 3 [(0, .int a0), (1, .int a1)] := hl
  refine lv_bipush (v := nI 31) hx hb d_S_withSign_0 (by decide) ?_
  refine lv_iload_n hx hb d_S_withSign_2 rfl (lv_at hl 1 rfl) ?_
  refine lv_isub hx hb d_S_withSign_3 ?_
  refine lv_istore_n (lv' := [(2, .int ((nI 31) - a1)), (0, .int a0), (1, .int a1)]) hx hb d_S_withSign_4 rfl hl (by decide) rfl (fun ls hl => ?_)
  refine lv_iload_n hx hb d_S_withSign_5 rfl (lv_at hl 1 rfl) ?_
  refine lv_iload_n hx hb d_S_withSign_6 rfl (lv_at hl 0 rfl) ?_
  refine lv_ishl hx hb d_S_withSign_7 ?_
  refine lv_iload_n hx hb d_S_withSign_8 rfl (lv_at hl 0 rfl) ?_
  refine lv_ishr hx hb d_S_withSign_9 ?_
  exact W.iret hx hb hr (fun t ht _ => ⟨_, rfl, by rw [f_withSign], ht⟩) (fun q h => nomatch h) d_S_withSign_10
set_option maxHeartbeats 40000000 in
set_option maxRecDepth 100000 in
theorem c_wordForMoveStack (l : Launch) (t : Nat → Nat) (a0 : Int32) : Met l y_S_wordForMoveStack w_S_wordForMoveStack { frames := 1, cells := 0, slots := 0, locals := 24 } (va_Pc [.int a0] (tb t)) (vp_Si (fun r => r = f_wordForMoveStack a0)) 0 0 (fun _ => False) := by
  refine Met.ofW (cc := b_S_wordForMoveStack) (maxL := 1) (ret := (some .int)) (by decide) rfl ?_
  intro p e s m args below meth c s₁ B hml hv
  obtain ⟨rfl, hT⟩ := hv
  have hx := B.exec
  have hb := B.bytes
  have hr := B.returns
  have hts := atoms_spec (ws := w_S_wordForMoveStack) B.pre
  have hown : s.vm.findClass R_S = some m.cls := findClass_of_methodNamed B.named
  have hlocks := B.notSynchronized
  have hl := lv_entry ([.int a0]) (n := 1) (Nat.le_of_ble_eq_true rfl)
  rw [lg_entry_eq]
  generalize (lg_sl ([.int a0]) ++ List.replicate (1 - (lg_sl ([.int a0])).length) Slot.unset).toArray = ls at hl ⊢
  have hl : lv_has ls 1 [(0, .int a0)] := hl
  refine lv_iload_n hx hb d_S_wordForMoveStack_0 rfl (lv_at hl 0 rfl) ?_
  refine lv_if_ne (tgt := 8) hx hb d_S_wordForMoveStack_1 (by decide) (fun c1 => ?_) (fun c1 => ?_)
  · refine lv_bipush (v := nI 19) hx hb d_S_wordForMoveStack_8 (by decide) ?_
    refine lv_iconst (v := nI 2) hx hb d_S_wordForMoveStack_10 (by decide) ?_
    refine lv_iconst (v := nI 0) hx hb d_S_wordForMoveStack_11 (by decide) ?_
    refine lv_iconst (v := nI 2) hx hb d_S_wordForMoveStack_12 (by decide) ?_
    refine lv_iload_n hx hb d_S_wordForMoveStack_13 rfl (lv_at hl 0 rfl) ?_
    refine callE (W.runS (As := [.int (nI 19), .int (nI 2), .int (nI 0), .int (nI 2), .int a0]) (rest := []) ⟨hx, hb, hml, hown, hts⟩ (c_formI l t (nI 19) (nI 2) (nI 0) (nI 2) a0) (cwS 5 hts (gS k_124 k_125 k_1 k_126) rfl rfl rfl (by decide +kernel) ⟨Nat.le_of_ble_eq_true rfl, Nat.le_of_ble_eq_true rfl⟩) (tb_pre hT) rfl rfl hl.1 rfl (lv_room (Nat.le_of_ble_eq_true rfl)) d_S_wordForMoveStack_14 ⟨Nat.zero_le _, Nat.zero_le _⟩) ?_
    exact W.iret hx hb hr (fun t ht _ => ⟨_, rfl, by rw [f_wordForMoveStack, if_neg c1], ht⟩) (fun q h => nomatch h) d_S_wordForMoveStack_17
  · refine lv_iconst (v := nI 0) hx hb d_S_wordForMoveStack_4 (by decide) ?_
    refine lv_goto (tgt := 17) hx hb d_S_wordForMoveStack_5 (by decide) ?_
    exact W.iret hx hb hr (fun t ht _ => ⟨_, rfl, by rw [f_wordForMoveStack, if_pos c1], ht⟩) (fun q h => nomatch h) d_S_wordForMoveStack_17
set_option maxHeartbeats 40000000 in
set_option maxRecDepth 100000 in
theorem c_formU (l : Launch) (t : Nat → Nat) (a0 a1 a2 : Int32) : Met l y_S_formU w_S_formU { frames := 1, cells := 0, slots := 0, locals := 22 } (va_Pc [.int a0, .int a1, .int a2] (tb t)) (vp_Si (fun r => r = f_formU a0 a1 a2)) 0 0 (fun _ => False) := by
  refine Met.ofW (cc := b_S_formU) (maxL := 3) (ret := (some .int)) (by decide) rfl ?_
  intro p e s m args below meth c s₁ B hml hv
  obtain ⟨rfl, hT⟩ := hv
  have hx := B.exec
  have hb := B.bytes
  have hr := B.returns
  have hts := atoms_spec (ws := w_S_formU) B.pre
  have hown : s.vm.findClass R_S = some m.cls := findClass_of_methodNamed B.named
  have hlocks := B.notSynchronized
  have hl := lv_entry ([.int a0, .int a1, .int a2]) (n := 3) (Nat.le_of_ble_eq_true rfl)
  rw [lg_entry_eq]
  generalize (lg_sl ([.int a0, .int a1, .int a2]) ++ List.replicate (3 - (lg_sl ([.int a0, .int a1, .int a2])).length) Slot.unset).toArray = ls at hl ⊢
  have hl : lv_has ls 3 [(0, .int a0), (1, .int a1), (2, .int a2)] := hl
  refine lv_iload_n hx hb d_S_formU_0 rfl (lv_at hl 0 rfl) ?_
  refine lv_iload_n hx hb d_S_formU_1 rfl (lv_at hl 1 rfl) ?_
  refine lv_bipush (v := nI 7) hx hb d_S_formU_2 (by decide) ?_
  refine lv_ishl hx hb d_S_formU_4 ?_
  refine lv_ior hx hb d_S_formU_5 ?_
  refine lv_iload_n hx hb d_S_formU_6 rfl (lv_at hl 2 rfl) ?_
  refine lv_bipush (v := nI 31) hx hb d_S_formU_7 (by decide) ?_
  refine lv_bipush (v := nI 12) hx hb d_S_formU_9 (by decide) ?_
  refine callE (W.runS (As := [.int a2, .int (nI 31), .int (nI 12)]) (rest := [.int (a0 ||| (a1 <<< ((nI 7) &&& 31)))]) ⟨hx, hb, hml, hown, hts⟩ (c_bits l t a2 (nI 31) (nI 12)) (cwS 3 hts (gS k_47 k_48 k_1 k_49) rfl rfl rfl (by decide +kernel) ⟨Nat.le_of_ble_eq_true rfl, Nat.le_of_ble_eq_true rfl⟩) (tb_pre hT) rfl rfl hl.1 rfl (lv_room (Nat.le_of_ble_eq_true rfl)) d_S_formU_11 ⟨Nat.zero_le _, Nat.zero_le _⟩) ?_
  refine lv_bipush (v := nI 12) hx hb d_S_formU_14 (by decide) ?_
  refine lv_ishl hx hb d_S_formU_16 ?_
  refine lv_ior hx hb d_S_formU_17 ?_
  exact W.iret hx hb hr (fun t ht _ => ⟨_, rfl, by rw [f_formU], ht⟩) (fun q h => nomatch h) d_S_formU_18
set_option maxHeartbeats 40000000 in
set_option maxRecDepth 100000 in
theorem c_wordForUpper (l : Launch) (t : Nat → Nat) (a0 a1 : Int32) : Met l y_S_wordForUpper w_S_wordForUpper { frames := 2, cells := 0, slots := 0, locals := 44 } (va_Pc [.int a0, .int a1] (tb t)) (vp_Si (fun r => r = f_wordForUpper a0 a1)) 0 0 (fun _ => False) := by
  refine Met.ofW (cc := b_S_wordForUpper) (maxL := 2) (ret := (some .int)) (by decide) rfl ?_
  intro p e s m args below meth c s₁ B hml hv
  obtain ⟨rfl, hT⟩ := hv
  have hx := B.exec
  have hb := B.bytes
  have hr := B.returns
  have hts := atoms_spec (ws := w_S_wordForUpper) B.pre
  have hown : s.vm.findClass R_S = some m.cls := findClass_of_methodNamed B.named
  have hlocks := B.notSynchronized
  have hl := lv_entry ([.int a0, .int a1]) (n := 2) (Nat.le_of_ble_eq_true rfl)
  rw [lg_entry_eq]
  generalize (lg_sl ([.int a0, .int a1]) ++ List.replicate (2 - (lg_sl ([.int a0, .int a1])).length) Slot.unset).toArray = ls at hl ⊢
  have hl : lv_has ls 2 [(0, .int a0), (1, .int a1)] := hl
  refine lv_iload_n hx hb d_S_wordForUpper_0 rfl (lv_at hl 1 rfl) ?_
  refine lv_if_ne (tgt := 8) hx hb d_S_wordForUpper_1 (by decide) (fun c1 => ?_) (fun c1 => ?_)
  · refine lv_bipush (v := nI 55) hx hb d_S_wordForUpper_8 (by decide) ?_
    refine lv_iload_n hx hb d_S_wordForUpper_10 rfl (lv_at hl 0 rfl) ?_
    refine lv_iload_n hx hb d_S_wordForUpper_11 rfl (lv_at hl 1 rfl) ?_
    refine lv_sipush (v := nI 4096) hx hb d_S_wordForUpper_12 (by decide) ?_
    refine lv_imul hx hb d_S_wordForUpper_15 ?_
    refine callE (W.runS (As := [.int (nI 55), .int a0, .int (a1 * (nI 4096))]) (rest := []) ⟨hx, hb, hml, hown, hts⟩ (c_formU l t (nI 55) a0 (a1 * (nI 4096))) (cwS 3 hts (gS k_148 k_149 k_1 k_150) rfl rfl rfl (by decide +kernel) ⟨Nat.le_of_ble_eq_true rfl, Nat.le_of_ble_eq_true rfl⟩) (tb_pre hT) rfl rfl hl.1 rfl (lv_room (Nat.le_of_ble_eq_true rfl)) d_S_wordForUpper_16 ⟨Nat.zero_le _, Nat.zero_le _⟩) ?_
    exact W.iret hx hb hr (fun t ht _ => ⟨_, rfl, by rw [f_wordForUpper, if_neg c1], ht⟩) (fun q h => nomatch h) d_S_wordForUpper_19
  · refine lv_iconst (v := nI 0) hx hb d_S_wordForUpper_4 (by decide) ?_
    refine lv_goto (tgt := 19) hx hb d_S_wordForUpper_5 (by decide) ?_
    exact W.iret hx hb hr (fun t ht _ => ⟨_, rfl, by rw [f_wordForUpper, if_pos c1], ht⟩) (fun q h => nomatch h) d_S_wordForUpper_19
set_option maxHeartbeats 40000000 in
set_option maxRecDepth 100000 in
theorem c_unsignedImmediate (l : Launch) (t : Nat → Nat) (a0 : Int32) : Met l y_S_unsignedImmediate w_S_unsignedImmediate { frames := 1, cells := 0, slots := 0, locals := 22 } (va_Pc [.int a0] (tb t)) (vp_Si (fun r => r = f_unsignedImmediate a0)) 0 0 (fun _ => False) := by
  refine Met.ofW (cc := b_S_unsignedImmediate) (maxL := 1) (ret := (some .int)) (by decide) rfl ?_
  intro p e s m args below meth c s₁ B hml hv
  obtain ⟨rfl, hT⟩ := hv
  have hx := B.exec
  have hb := B.bytes
  have hr := B.returns
  have hts := atoms_spec (ws := w_S_unsignedImmediate) B.pre
  have hown : s.vm.findClass R_S = some m.cls := findClass_of_methodNamed B.named
  have hlocks := B.notSynchronized
  have hl := lv_entry ([.int a0]) (n := 1) (Nat.le_of_ble_eq_true rfl)
  rw [lg_entry_eq]
  generalize (lg_sl ([.int a0]) ++ List.replicate (1 - (lg_sl ([.int a0])).length) Slot.unset).toArray = ls at hl ⊢
  have hl : lv_has ls 1 [(0, .int a0)] := hl
  refine lv_iload_n hx hb d_S_unsignedImmediate_0 rfl (lv_at hl 0 rfl) ?_
  refine lv_bipush (v := nI 6) hx hb d_S_unsignedImmediate_1 (by decide) ?_
  refine lv_iconst (v := nI 2) hx hb d_S_unsignedImmediate_3 (by decide) ?_
  refine callE (W.runS (As := [.int a0, .int (nI 6), .int (nI 2)]) (rest := []) ⟨hx, hb, hml, hown, hts⟩ (c_bits l t a0 (nI 6) (nI 2)) (cwS 3 hts (gS k_47 k_48 k_1 k_49) rfl rfl rfl (by decide +kernel) ⟨Nat.le_of_ble_eq_true rfl, Nat.le_of_ble_eq_true rfl⟩) (tb_pre hT) rfl rfl hl.1 rfl (lv_room (Nat.le_of_ble_eq_true rfl)) d_S_unsignedImmediate_4 ⟨Nat.zero_le _, Nat.zero_le _⟩) ?_
  refine lv_iload_n hx hb d_S_unsignedImmediate_7 rfl (lv_at hl 0 rfl) ?_
  refine lv_bipush (v := nI 12) hx hb d_S_unsignedImmediate_8 (by decide) ?_
  refine lv_bipush (v := nI 12) hx hb d_S_unsignedImmediate_10 (by decide) ?_
  refine callE (W.runS (As := [.int a0, .int (nI 12), .int (nI 12)]) (rest := [.int (f_bits a0 (nI 6) (nI 2))]) ⟨hx, hb, hml, hown, hts⟩ (c_bits l t a0 (nI 12) (nI 12)) (cwS 3 hts (gS k_47 k_48 k_1 k_49) rfl rfl rfl (by decide +kernel) ⟨Nat.le_of_ble_eq_true rfl, Nat.le_of_ble_eq_true rfl⟩) (tb_pre hT) rfl rfl hl.1 rfl (lv_room (Nat.le_of_ble_eq_true rfl)) d_S_unsignedImmediate_12 ⟨Nat.zero_le _, Nat.zero_le _⟩) ?_
  refine lv_iconst (v := nI 5) hx hb d_S_unsignedImmediate_15 (by decide) ?_
  refine lv_ishl hx hb d_S_unsignedImmediate_16 ?_
  refine lv_iadd hx hb d_S_unsignedImmediate_17 ?_
  exact W.iret hx hb hr (fun t ht _ => ⟨_, rfl, by rw [f_unsignedImmediate], ht⟩) (fun q h => nomatch h) d_S_unsignedImmediate_18
set_option maxHeartbeats 40000000 in
set_option maxRecDepth 100000 in
theorem c_wordForTwoRegisters (l : Launch) (t : Nat → Nat) (a0 a1 : Int32) : Met l y_S_wordForTwoRegisters w_S_wordForTwoRegisters { frames := 1, cells := 0, slots := 0, locals := 25 } (va_Pc [.int a0, .int a1] (tb t)) (vp_Si (fun r => r = f_wordForTwoRegisters a0 a1)) 0 0 (fun _ => False) := by
  refine Met.ofW (cc := b_S_wordForTwoRegisters) (maxL := 3) (ret := (some .int)) (by decide) rfl ?_
  intro p e s m args below meth c s₁ B hml hv
  obtain ⟨rfl, hT⟩ := hv
  have hx := B.exec
  have hb := B.bytes
  have hr := B.returns
  have hts := atoms_spec (ws := w_S_wordForTwoRegisters) B.pre
  have hown : s.vm.findClass R_S = some m.cls := findClass_of_methodNamed B.named
  have hlocks := B.notSynchronized
  have hl := lv_entry ([.int a0, .int a1]) (n := 3) (Nat.le_of_ble_eq_true rfl)
  rw [lg_entry_eq]
  generalize (lg_sl ([.int a0, .int a1]) ++ List.replicate (3 - (lg_sl ([.int a0, .int a1])).length) Slot.unset).toArray = ls at hl ⊢
  have hl : lv_has ls 3 [(0, .int a0), (1, .int a1)] := hl
  refine lv_bipush (v := nI 8) hx hb d_S_wordForTwoRegisters_0 (by decide) ?_
  refine lv_iload_n hx hb d_S_wordForTwoRegisters_2 rfl (lv_at hl 0 rfl) ?_
  refine lv_iconst (v := nI 4) hx hb d_S_wordForTwoRegisters_3 (by decide) ?_
  refine lv_iconst (v := nI 2) hx hb d_S_wordForTwoRegisters_4 (by decide) ?_
  refine callE (W.runS (As := [.int a0, .int (nI 4), .int (nI 2)]) (rest := [.int (nI 8)]) ⟨hx, hb, hml, hown, hts⟩ (c_bits l t a0 (nI 4) (nI 2)) (cwS 3 hts (gS k_47 k_48 k_1 k_49) rfl rfl rfl (by decide +kernel) ⟨Nat.le_of_ble_eq_true rfl, Nat.le_of_ble_eq_true rfl⟩) (tb_pre hT) rfl rfl hl.1 rfl (lv_room (Nat.le_of_ble_eq_true rfl)) d_S_wordForTwoRegisters_5 ⟨Nat.zero_le _, Nat.zero_le _⟩) ?_
  refine lv_iadd hx hb d_S_wordForTwoRegisters_8 ?_
  refine lv_istore_n (lv' := [(2, .int ((nI 8) + (f_bits a0 (nI 4) (nI 2)))), (0, .int a0), (1, .int a1)]) hx hb d_S_wordForTwoRegisters_9 rfl hl (by decide) rfl (fun ls hl => ?_)
  refine lv_iload_n hx hb d_S_wordForTwoRegisters_10 rfl (lv_at hl 1 rfl) ?_
  refine lv_bipush (v := nI 12) hx hb d_S_wordForTwoRegisters_11 (by decide) ?_
  refine lv_bipush (v := nI 12) hx hb d_S_wordForTwoRegisters_13 (by decide) ?_
  refine callE (W.runS (As := [.int a0, .int (nI 12), .int (nI 12)]) (rest := []) ⟨hx, hb, hml, hown, hts⟩ (c_bits l t a0 (nI 12) (nI 12)) (cwS 3 hts (gS k_47 k_48 k_1 k_49) rfl rfl rfl (by decide +kernel) ⟨Nat.le_of_ble_eq_true rfl, Nat.le_of_ble_eq_true rfl⟩) (tb_pre hT) rfl rfl hl.1 rfl (lv_room (Nat.le_of_ble_eq_true rfl)) d_S_wordForTwoRegisters_15 ⟨Nat.zero_le _, Nat.zero_le _⟩) ?_
  refine lv_iconst (v := nI 2) hx hb d_S_wordForTwoRegisters_18 (by decide) ?_
  refine lv_ishl hx hb d_S_wordForTwoRegisters_19 ?_
  refine lv_iload_n hx hb d_S_wordForTwoRegisters_20 rfl (lv_at hl 1 rfl) ?_
  refine lv_bipush (v := nI 6) hx hb d_S_wordForTwoRegisters_21 (by decide) ?_
  refine lv_iconst (v := nI 5) hx hb d_S_wordForTwoRegisters_23 (by decide) ?_
  refine callE (W.runS (As := [.int a0, .int (nI 6), .int (nI 5)]) (rest := [.int ((f_bits a0 (nI 12) (nI 12)) <<< ((nI 2) &&& 31))]) ⟨hx, hb, hml, hown, hts⟩ (c_bits l t a0 (nI 6) (nI 5)) (cwS 3 hts (gS k_47 k_48 k_1 k_49) rfl rfl rfl (by decide +kernel) ⟨Nat.le_of_ble_eq_true rfl, Nat.le_of_ble_eq_true rfl⟩) (tb_pre hT) rfl rfl hl.1 rfl (lv_room (Nat.le_of_ble_eq_true rfl)) d_S_wordForTwoRegisters_24 ⟨Nat.zero_le _, Nat.zero_le _⟩) ?_
  refine lv_ior hx hb d_S_wordForTwoRegisters_27 ?_
  by_cases c1 : (((f_bits a0 (nI 12) (nI 12)) <<< ((nI 2) &&& 31)) ||| (f_bits a0 (nI 6) (nI 5))) = nI 0
  · refine lv_tableIn (tgt := 68) (off := 40) hx hb d_S_wordForTwoRegisters_28 (by rw [c1]; decide +kernel) (by rw [c1]; decide +kernel) (by rw [c1]; decide +kernel) (by decide) ?_
    refine lv_bipush (v := nI 51) hx hb d_S_wordForTwoRegisters_68 (by decide) ?_
    refine lv_iload_n hx hb d_S_wordForTwoRegisters_70 rfl (lv_at hl 2 rfl) ?_
    refine lv_iconst (v := nI 0) hx hb d_S_wordForTwoRegisters_71 (by decide) ?_
    refine lv_iload_n hx hb d_S_wordForTwoRegisters_72 rfl (lv_at hl 2 rfl) ?_
    refine lv_iload_n hx hb d_S_wordForTwoRegisters_73 rfl (lv_at hl 0 rfl) ?_
    refine lv_bipush (v := nI 32) hx hb d_S_wordForTwoRegisters_74 (by decide) ?_
    refine callE (W.runS (As := [.int (nI 51), .int a1, .int (nI 0), .int a1, .int ((nI 8) + (f_bits a0 (nI 4) (nI 2))), .int (nI 32)]) (rest := []) ⟨hx, hb, hml, hown, hts⟩ (c_formR l t (nI 51) a1 (nI 0) a1 ((nI 8) + (f_bits a0 (nI 4) (nI 2))) (nI 32)) (cwS 6 hts (gS k_130 k_131 k_1 k_132) rfl rfl rfl (by decide +kernel) ⟨Nat.le_of_ble_eq_true rfl, Nat.le_of_ble_eq_true rfl⟩) (tb_pre hT) rfl rfl hl.1 rfl (lv_room (Nat.le_of_ble_eq_true rfl)) d_S_wordForTwoRegisters_76 ⟨Nat.zero_le _, Nat.zero_le _⟩) ?_
    exact W.iret hx hb hr (fun t ht _ => ⟨_, rfl, by rw [f_wordForTwoRegisters, if_pos c1], ht⟩) (fun q h => nomatch h) d_S_wordForTwoRegisters_79
  by_cases c2 : (((f_bits a0 (nI 12) (nI 12)) <<< ((nI 2) &&& 31)) ||| (f_bits a0 (nI 6) (nI 5))) = nI 1
  · refine lv_tableIn (tgt := 80) (off := 52) hx hb d_S_wordForTwoRegisters_28 (by rw [c2]; decide +kernel) (by rw [c2]; decide +kernel) (by rw [c2]; decide +kernel) (by decide) ?_
    refine lv_bipush (v := nI 51) hx hb d_S_wordForTwoRegisters_80 (by decide) ?_
    refine lv_iload_n hx hb d_S_wordForTwoRegisters_82 rfl (lv_at hl 2 rfl) ?_
    refine lv_iconst (v := nI 4) hx hb d_S_wordForTwoRegisters_83 (by decide) ?_
    refine lv_iload_n hx hb d_S_wordForTwoRegisters_84 rfl (lv_at hl 2 rfl) ?_
    refine lv_iload_n hx hb d_S_wordForTwoRegisters_85 rfl (lv_at hl 0 rfl) ?_
    refine lv_iconst (v := nI 0) hx hb d_S_wordForTwoRegisters_86 (by decide) ?_
    refine callE (W.runS (As := [.int (nI 51), .int a1, .int (nI 4), .int a1, .int ((nI 8) + (f_bits a0 (nI 4) (nI 2))), .int (nI 0)]) (rest := []) ⟨hx, hb, hml, hown, hts⟩ (c_formR l t (nI 51) a1 (nI 4) a1 ((nI 8) + (f_bits a0 (nI 4) (nI 2))) (nI 0)) (cwS 6 hts (gS k_130 k_131 k_1 k_132) rfl rfl rfl (by decide +kernel) ⟨Nat.le_of_ble_eq_true rfl, Nat.le_of_ble_eq_true rfl⟩) (tb_pre hT) rfl rfl hl.1 rfl (lv_room (Nat.le_of_ble_eq_true rfl)) d_S_wordForTwoRegisters_87 ⟨Nat.zero_le _, Nat.zero_le _⟩) ?_
    exact W.iret hx hb hr (fun t ht _ => ⟨_, rfl, by rw [f_wordForTwoRegisters, if_neg c1, if_pos c2], ht⟩) (fun q h => nomatch h) d_S_wordForTwoRegisters_90
  by_cases c3 : (((f_bits a0 (nI 12) (nI 12)) <<< ((nI 2) &&& 31)) ||| (f_bits a0 (nI 6) (nI 5))) = nI 2
  · refine lv_tableIn (tgt := 91) (off := 63) hx hb d_S_wordForTwoRegisters_28 (by rw [c3]; decide +kernel) (by rw [c3]; decide +kernel) (by rw [c3]; decide +kernel) (by decide) ?_
    refine lv_bipush (v := nI 51) hx hb d_S_wordForTwoRegisters_91 (by decide) ?_
    refine lv_iload_n hx hb d_S_wordForTwoRegisters_93 rfl (lv_at hl 2 rfl) ?_
    refine lv_bipush (v := nI 6) hx hb d_S_wordForTwoRegisters_94 (by decide) ?_
    refine lv_iload_n hx hb d_S_wordForTwoRegisters_96 rfl (lv_at hl 2 rfl) ?_
    refine lv_iload_n hx hb d_S_wordForTwoRegisters_97 rfl (lv_at hl 0 rfl) ?_
    refine lv_iconst (v := nI 0) hx hb d_S_wordForTwoRegisters_98 (by decide) ?_
    refine callE (W.runS (As := [.int (nI 51), .int a1, .int (nI 6), .int a1, .int ((nI 8) + (f_bits a0 (nI 4) (nI 2))), .int (nI 0)]) (rest := []) ⟨hx, hb, hml, hown, hts⟩ (c_formR l t (nI 51) a1 (nI 6) a1 ((nI 8) + (f_bits a0 (nI 4) (nI 2))) (nI 0)) (cwS 6 hts (gS k_130 k_131 k_1 k_132) rfl rfl rfl (by decide +kernel) ⟨Nat.le_of_ble_eq_true rfl, Nat.le_of_ble_eq_true rfl⟩) (tb_pre hT) rfl rfl hl.1 rfl (lv_room (Nat.le_of_ble_eq_true rfl)) d_S_wordForTwoRegisters_99 ⟨Nat.zero_le _, Nat.zero_le _⟩) ?_
    exact W.iret hx hb hr (fun t ht _ => ⟨_, rfl, by rw [f_wordForTwoRegisters, if_neg c1, if_neg c2, if_pos c3], ht⟩) (fun q h => nomatch h) d_S_wordForTwoRegisters_102
  by_cases c4 : (((f_bits a0 (nI 12) (nI 12)) <<< ((nI 2) &&& 31)) ||| (f_bits a0 (nI 6) (nI 5))) = nI 3
  · refine lv_tableIn (tgt := 103) (off := 75) hx hb d_S_wordForTwoRegisters_28 (by rw [c4]; decide +kernel) (by rw [c4]; decide +kernel) (by rw [c4]; decide +kernel) (by decide) ?_
    refine lv_bipush (v := nI 51) hx hb d_S_wordForTwoRegisters_103 (by decide) ?_
    refine lv_iload_n hx hb d_S_wordForTwoRegisters_105 rfl (lv_at hl 2 rfl) ?_
    refine lv_bipush (v := nI 7) hx hb d_S_wordForTwoRegisters_106 (by decide) ?_
    refine lv_iload_n hx hb d_S_wordForTwoRegisters_108 rfl (lv_at hl 2 rfl) ?_
    refine lv_iload_n hx hb d_S_wordForTwoRegisters_109 rfl (lv_at hl 0 rfl) ?_
    refine lv_iconst (v := nI 0) hx hb d_S_wordForTwoRegisters_110 (by decide) ?_
    refine callE (W.runS (As := [.int (nI 51), .int a1, .int (nI 7), .int a1, .int ((nI 8) + (f_bits a0 (nI 4) (nI 2))), .int (nI 0)]) (rest := []) ⟨hx, hb, hml, hown, hts⟩ (c_formR l t (nI 51) a1 (nI 7) a1 ((nI 8) + (f_bits a0 (nI 4) (nI 2))) (nI 0)) (cwS 6 hts (gS k_130 k_131 k_1 k_132) rfl rfl rfl (by decide +kernel) ⟨Nat.le_of_ble_eq_true rfl, Nat.le_of_ble_eq_true rfl⟩) (tb_pre hT) rfl rfl hl.1 rfl (lv_room (Nat.le_of_ble_eq_true rfl)) d_S_wordForTwoRegisters_111 ⟨Nat.zero_le _, Nat.zero_le _⟩) ?_
    exact W.iret hx hb hr (fun t ht _ => ⟨_, rfl, by rw [f_wordForTwoRegisters, if_neg c1, if_neg c2, if_neg c3, if_pos c4], ht⟩) (fun q h => nomatch h) d_S_wordForTwoRegisters_114
  by_cases c5 : (((f_bits a0 (nI 12) (nI 12)) <<< ((nI 2) &&& 31)) ||| (f_bits a0 (nI 6) (nI 5))) = nI 4
  · refine lv_tableIn (tgt := 115) (off := 87) hx hb d_S_wordForTwoRegisters_28 (by rw [c5]; decide +kernel) (by rw [c5]; decide +kernel) (by rw [c5]; decide +kernel) (by decide) ?_
    refine lv_bipush (v := nI 59) hx hb d_S_wordForTwoRegisters_115 (by decide) ?_
    refine lv_iload_n hx hb d_S_wordForTwoRegisters_117 rfl (lv_at hl 2 rfl) ?_
    refine lv_iconst (v := nI 0) hx hb d_S_wordForTwoRegisters_118 (by decide) ?_
    refine lv_iload_n hx hb d_S_wordForTwoRegisters_119 rfl (lv_at hl 2 rfl) ?_
    refine lv_iload_n hx hb d_S_wordForTwoRegisters_120 rfl (lv_at hl 0 rfl) ?_
    refine lv_bipush (v := nI 32) hx hb d_S_wordForTwoRegisters_121 (by decide) ?_
    refine callE (W.runS (As := [.int (nI 59), .int a1, .int (nI 0), .int a1, .int ((nI 8) + (f_bits a0 (nI 4) (nI 2))), .int (nI 32)]) (rest := []) ⟨hx, hb, hml, hown, hts⟩ (c_formR l t (nI 59) a1 (nI 0) a1 ((nI 8) + (f_bits a0 (nI 4) (nI 2))) (nI 32)) (cwS 6 hts (gS k_130 k_131 k_1 k_132) rfl rfl rfl (by decide +kernel) ⟨Nat.le_of_ble_eq_true rfl, Nat.le_of_ble_eq_true rfl⟩) (tb_pre hT) rfl rfl hl.1 rfl (lv_room (Nat.le_of_ble_eq_true rfl)) d_S_wordForTwoRegisters_123 ⟨Nat.zero_le _, Nat.zero_le _⟩) ?_
    exact W.iret hx hb hr (fun t ht _ => ⟨_, rfl, by rw [f_wordForTwoRegisters, if_neg c1, if_neg c2, if_neg c3, if_neg c4, if_pos c5], ht⟩) (fun q h => nomatch h) d_S_wordForTwoRegisters_126
  by_cases c6 : (((f_bits a0 (nI 12) (nI 12)) <<< ((nI 2) &&& 31)) ||| (f_bits a0 (nI 6) (nI 5))) = nI 5
  · refine lv_tableIn (tgt := 127) (off := 99) hx hb d_S_wordForTwoRegisters_28 (by rw [c6]; decide +kernel) (by rw [c6]; decide +kernel) (by rw [c6]; decide +kernel) (by decide) ?_
    refine lv_bipush (v := nI 59) hx hb d_S_wordForTwoRegisters_127 (by decide) ?_
    refine lv_iload_n hx hb d_S_wordForTwoRegisters_129 rfl (lv_at hl 2 rfl) ?_
    refine lv_iconst (v := nI 0) hx hb d_S_wordForTwoRegisters_130 (by decide) ?_
    refine lv_iload_n hx hb d_S_wordForTwoRegisters_131 rfl (lv_at hl 2 rfl) ?_
    refine lv_iload_n hx hb d_S_wordForTwoRegisters_132 rfl (lv_at hl 0 rfl) ?_
    refine lv_iconst (v := nI 0) hx hb d_S_wordForTwoRegisters_133 (by decide) ?_
    refine callE (W.runS (As := [.int (nI 59), .int a1, .int (nI 0), .int a1, .int ((nI 8) + (f_bits a0 (nI 4) (nI 2))), .int (nI 0)]) (rest := []) ⟨hx, hb, hml, hown, hts⟩ (c_formR l t (nI 59) a1 (nI 0) a1 ((nI 8) + (f_bits a0 (nI 4) (nI 2))) (nI 0)) (cwS 6 hts (gS k_130 k_131 k_1 k_132) rfl rfl rfl (by decide +kernel) ⟨Nat.le_of_ble_eq_true rfl, Nat.le_of_ble_eq_true rfl⟩) (tb_pre hT) rfl rfl hl.1 rfl (lv_room (Nat.le_of_ble_eq_true rfl)) d_S_wordForTwoRegisters_134 ⟨Nat.zero_le _, Nat.zero_le _⟩) ?_
    exact W.iret hx hb hr (fun t ht _ => ⟨_, rfl, by rw [f_wordForTwoRegisters, if_neg c1, if_neg c2, if_neg c3, if_neg c4, if_neg c5, if_pos c6], ht⟩) (fun q h => nomatch h) d_S_wordForTwoRegisters_137
  have c1z := lv_neT (a := 0) c1 (by decide)
  have c2z := lv_neT (a := 1) c2 (by decide)
  have c3z := lv_neT (a := 2) c3 (by decide)
  have c4z := lv_neT (a := 3) c4 (by decide)
  have c5z := lv_neT (a := 4) c5 (by decide)
  have c6z := lv_neT (a := 5) c6 (by decide)
  refine lv_tableOut (tgt := 138) hx hb d_S_wordForTwoRegisters_28 (by omega) (by decide) ?_
  refine lv_iconst (v := nI 0) hx hb d_S_wordForTwoRegisters_138 (by decide) ?_
  exact W.iret hx hb hr (fun t ht _ => ⟨_, rfl, by rw [f_wordForTwoRegisters, if_neg c1, if_neg c2, if_neg c3, if_neg c4, if_neg c5, if_neg c6], ht⟩) (fun q h => nomatch h) d_S_wordForTwoRegisters_139
