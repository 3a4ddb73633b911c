set_option maxHeartbeats 40000000 in
set_option maxRecDepth 100000 in
theorem c_wordFor (l : Launch) (t : Nat → Nat) (a0 : Int32) : Met l y_S_wordFor w_S_wordFor { frames := 4, cells := 0, slots := 0, locals := 91 } (va_Pc [.int a0] (tb t)) (vp_Si (fun r => r = f_wordFor a0)) 0 0 (fun _ => False) := by
  refine Met.ofW (cc := b_S_wordFor) (maxL := 1) (ret := (some .int)) (by decide) rfl ?_
  intro p e s m args below meth c s₁ B hml hv
  obtain ⟨rfl, hT⟩ := hv
  have hx := B.exec
  have hb := B.bytes
  have hr := B.returns
  have hts := atoms_spec (ws := w_S_wordFor) B.pre
  have hown : s.vm.findClass R_S = some m.cls := findClass_of_methodNamed B.named
  have hlocks := B.notSynchronized
  have hl := lv_entry ([.int a0]) (n := 1) (Nat.le_of_ble_eq_true rfl)
  rw [lg_entry_eq]
  generalize (lg_sl ([.int a0]) ++ List.replicate (1 - (lg_sl ([.int a0])).length) Slot.unset).toArray = ls at hl ⊢
  have hl : lv_has ls 1 [(0, .int a0)] := hl
  refine lv_iload_n hx hb d_S_wordFor_0 rfl (lv_at hl 0 rfl) ?_
  refine lv_iconst (v := nI 1) hx hb d_S_wordFor_1 (by decide) ?_
  refine lv_iconst (v := nI 0) hx hb d_S_wordFor_2 (by decide) ?_
  refine callE (W.runS (As := [.int a0, .int (nI 1), .int (nI 0)]) (rest := []) ⟨hx, hb, hml, hown, hts⟩ (c_bits l t a0 (nI 1) (nI 0)) (cwS 3 hts (gS k_47 k_48 k_1 k_49) rfl rfl rfl (by decide +kernel) ⟨Nat.le_of_ble_eq_true rfl, Nat.le_of_ble_eq_true rfl⟩) (tb_pre hT) rfl rfl hl.1 rfl (lv_room (Nat.le_of_ble_eq_true rfl)) d_S_wordFor_3 ⟨Nat.zero_le _, Nat.zero_le _⟩) ?_
  by_cases c1 : (f_bits a0 (nI 1) (nI 0)) = nI 0
  · refine lv_tableIn (tgt := 32) (off := 26) hx hb d_S_wordFor_6 (by rw [c1]; decide +kernel) (by rw [c1]; decide +kernel) (by rw [c1]; decide +kernel) (by decide) ?_
    refine lv_iload_n hx hb d_S_wordFor_32 rfl (lv_at hl 0 rfl) ?_
    refine callE (W.runS (As := [.int a0]) (rest := []) ⟨hx, hb, hml, hown, hts⟩ (c_wordForLow0 l t a0) (cwS 1 hts (gS k_115 k_116 k_1 k_117) rfl rfl rfl (by decide +kernel) ⟨Nat.le_of_ble_eq_true rfl, Nat.le_of_ble_eq_true rfl⟩) (tb_pre hT) rfl rfl hl.1 rfl (lv_room (Nat.le_of_ble_eq_true rfl)) d_S_wordFor_33 ⟨Nat.zero_le _, Nat.zero_le _⟩) ?_
    exact W.iret hx hb hr (fun t ht _ => ⟨_, rfl, by rw [f_wordFor, if_pos c1], ht⟩) (fun q h => nomatch h) d_S_wordFor_36
  by_cases c2 : (f_bits a0 (nI 1) (nI 0)) = nI 1
  · refine lv_tableIn (tgt := 37) (off := 31) hx hb d_S_wordFor_6 (by rw [c2]; decide +kernel) (by rw [c2]; decide +kernel) (by rw [c2]; decide +kernel) (by decide) ?_
    refine lv_iload_n hx hb d_S_wordFor_37 rfl (lv_at hl 0 rfl) ?_
    refine callE (W.runS (As := [.int a0]) (rest := []) ⟨hx, hb, hml, hown, hts⟩ (c_wordForLow1 l t a0) (cwS 1 hts (gS k_133 k_134 k_1 k_135) rfl rfl rfl (by decide +kernel) ⟨Nat.le_of_ble_eq_true rfl, Nat.le_of_ble_eq_true rfl⟩) (tb_pre hT) rfl rfl hl.1 rfl (lv_room (Nat.le_of_ble_eq_true rfl)) d_S_wordFor_38 ⟨Nat.zero_le _, Nat.zero_le _⟩) ?_
    exact W.iret hx hb hr (fun t ht _ => ⟨_, rfl, by rw [f_wordFor, if_neg c1, if_pos c2], ht⟩) (fun q h => nomatch h) d_S_wordFor_41
  by_cases c3 : (f_bits a0 (nI 1) (nI 0)) = nI 2
  · refine lv_tableIn (tgt := 42) (off := 36) hx hb d_S_wordFor_6 (by rw [c3]; decide +kernel) (by rw [c3]; decide +kernel) (by rw [c3]; decide +kernel) (by decide) ?_
    refine lv_iload_n hx hb d_S_wordFor_42 rfl (lv_at hl 0 rfl) ?_
    refine callE (W.runS (As := [.int a0]) (rest := []) ⟨hx, hb, hml, hown, hts⟩ (c_wordForLow2 l t a0) (cwS 1 hts (gS k_166 k_167 k_1 k_168) rfl rfl rfl (by decide +kernel) ⟨Nat.le_of_ble_eq_true rfl, Nat.le_of_ble_eq_true rfl⟩) (tb_pre hT) rfl rfl hl.1 rfl (lv_room (Nat.le_of_ble_eq_true rfl)) d_S_wordFor_43 ⟨Nat.zero_le _, Nat.zero_le _⟩) ?_
    exact W.iret hx hb hr (fun t ht _ => ⟨_, rfl, by rw [f_wordFor, if_neg c1, if_neg c2, if_pos c3], ht⟩) (fun q h => nomatch h) d_S_wordFor_46
  have c1z := lv_neT (a := 0) c1 (by decide)
  have c2z := lv_neT (a := 1) c2 (by decide)
  have c3z := lv_neT (a := 2) c3 (by decide)
  refine lv_tableOut (tgt := 47) hx hb d_S_wordFor_6 (by omega) (by decide) ?_
  refine lv_iconst (v := nI 0) hx hb d_S_wordFor_47 (by decide) ?_
  exact W.iret hx hb hr (fun t ht _ => ⟨_, rfl, by rw [f_wordFor, if_neg c1, if_neg c2, if_neg c3], ht⟩) (fun q h => nomatch h) d_S_wordFor_48
set_option maxHeartbeats 40000000 in
set_option maxRecDepth 100000 in
theorem c_fieldA (l : Launch) (t : Nat → Nat) (a0 : Int32) : Met l y_S_fieldA w_S_fieldA { frames := 1, cells := 0, slots := 0, locals := 22 } (va_Pc [.int a0] (tb t)) (vp_Si (fun r => r = f_fieldA a0)) 0 0 (fun _ => False) := by
  refine Met.ofW (cc := b_S_fieldA) (maxL := 1) (ret := (some .int)) (by decide) rfl ?_
  intro p e s m args below meth c s₁ B hml hv
  obtain ⟨rfl, hT⟩ := hv
  have hx := B.exec
  have hb := B.bytes
  have hr := B.returns
  have hts := atoms_spec (ws := w_S_fieldA) B.pre
  have hown : s.vm.findClass R_S = some m.cls := findClass_of_methodNamed B.named
  have hlocks := B.notSynchronized
  have hl := lv_entry ([.int a0]) (n := 1) (Nat.le_of_ble_eq_true rfl)
  rw [lg_entry_eq]
  generalize (lg_sl ([.int a0]) ++ List.replicate (1 - (lg_sl ([.int a0])).length) Slot.unset).toArray = ls at hl ⊢
  have hl : lv_has ls 1 [(0, .int a0)] := hl
  refine lv_iload_n hx hb d_S_fieldA_0 rfl (lv_at hl 0 rfl) ?_
  refine lv_bipush (v := nI 19) hx hb d_S_fieldA_1 (by decide) ?_
  refine lv_bipush (v := nI 15) hx hb d_S_fieldA_3 (by decide) ?_
  refine callE (W.runS (As := [.int a0, .int (nI 19), .int (nI 15)]) (rest := []) ⟨hx, hb, hml, hown, hts⟩ (c_bits l t a0 (nI 19) (nI 15)) (cwS 3 hts (gS k_47 k_48 k_1 k_49) rfl rfl rfl (by decide +kernel) ⟨Nat.le_of_ble_eq_true rfl, Nat.le_of_ble_eq_true rfl⟩) (tb_pre hT) rfl rfl hl.1 rfl (lv_room (Nat.le_of_ble_eq_true rfl)) d_S_fieldA_5 ⟨Nat.zero_le _, Nat.zero_le _⟩) ?_
  exact W.iret hx hb hr (fun t ht _ => ⟨_, rfl, by rw [f_fieldA], ht⟩) (fun q h => nomatch h) d_S_fieldA_8
set_option maxHeartbeats 40000000 in
set_option maxRecDepth 100000 in
theorem c_fieldD (l : Launch) (t : Nat → Nat) (a0 : Int32) : Met l y_S_fieldD w_S_fieldD { frames := 1, cells := 0, slots := 0, locals := 22 } (va_Pc [.int a0] (tb t)) (vp_Si (fun r => r = f_fieldD a0)) 0 0 (fun _ => False) := by
  refine Met.ofW (cc := b_S_fieldD) (maxL := 1) (ret := (some .int)) (by decide) rfl ?_
  intro p e s m args below meth c s₁ B hml hv
  obtain ⟨rfl, hT⟩ := hv
  have hx := B.exec
  have hb := B.bytes
  have hr := B.returns
  have hts := atoms_spec (ws := w_S_fieldD) B.pre
  have hown : s.vm.findClass R_S = some m.cls := findClass_of_methodNamed B.named
  have hlocks := B.notSynchronized
  have hl := lv_entry ([.int a0]) (n := 1) (Nat.le_of_ble_eq_true rfl)
  rw [lg_entry_eq]
  generalize (lg_sl ([.int a0]) ++ List.replicate (1 - (lg_sl ([.int a0])).length) Slot.unset).toArray = ls at hl ⊢
  have hl : lv_has ls 1 [(0, .int a0)] := hl
  refine lv_iload_n hx hb d_S_fieldD_0 rfl (lv_at hl 0 rfl) ?_
  refine lv_bipush (v := nI 11) hx hb d_S_fieldD_1 (by decide) ?_
  refine lv_bipush (v := nI 7) hx hb d_S_fieldD_3 (by decide) ?_
  refine callE (W.runS (As := [.int a0, .int (nI 11), .int (nI 7)]) (rest := []) ⟨hx, hb, hml, hown, hts⟩ (c_bits l t a0 (nI 11) (nI 7)) (cwS 3 hts (gS k_47 k_48 k_1 k_49) rfl rfl rfl (by decide +kernel) ⟨Nat.le_of_ble_eq_true rfl, Nat.le_of_ble_eq_true rfl⟩) (tb_pre hT) rfl rfl hl.1 rfl (lv_room (Nat.le_of_ble_eq_true rfl)) d_S_fieldD_5 ⟨Nat.zero_le _, Nat.zero_le _⟩) ?_
  exact W.iret hx hb hr (fun t ht _ => ⟨_, rfl, by rw [f_fieldD], ht⟩) (fun q h => nomatch h) d_S_fieldD_8
set_option maxHeartbeats 40000000 in
set_option maxRecDepth 100000 in
theorem c_fieldB (l : Launch) (t : Nat → Nat) (a0 : Int32) : Met l y_S_fieldB w_S_fieldB { frames := 1, cells := 0, slots := 0, locals := 22 } (va_Pc [.int a0] (tb t)) (vp_Si (fun r => r = f_fieldB a0)) 0 0 (fun _ => False) := by
  refine Met.ofW (cc := b_S_fieldB) (maxL := 1) (ret := (some .int)) (by decide) rfl ?_
  intro p e s m args below meth c s₁ B hml hv
  obtain ⟨rfl, hT⟩ := hv
  have hx := B.exec
  have hb := B.bytes
  have hr := B.returns
  have hts := atoms_spec (ws := w_S_fieldB) B.pre
  have hown : s.vm.findClass R_S = some m.cls := findClass_of_methodNamed B.named
  have hlocks := B.notSynchronized
  have hl := lv_entry ([.int a0]) (n := 1) (Nat.le_of_ble_eq_true rfl)
  rw [lg_entry_eq]
  generalize (lg_sl ([.int a0]) ++ List.replicate (1 - (lg_sl ([.int a0])).length) Slot.unset).toArray = ls at hl ⊢
  have hl : lv_has ls 1 [(0, .int a0)] := hl
  refine lv_iload_n hx hb d_S_fieldB_0 rfl (lv_at hl 0 rfl) ?_
  refine lv_bipush (v := nI 24) hx hb d_S_fieldB_1 (by decide) ?_
  refine lv_bipush (v := nI 20) hx hb d_S_fieldB_3 (by decide) ?_
  refine callE (W.runS (As := [.int a0, .int (nI 24), .int (nI 20)]) (rest := []) ⟨hx, hb, hml, hown, hts⟩ (c_bits l t a0 (nI 24) (nI 20)) (cwS 3 hts (gS k_47 k_48 k_1 k_49) rfl rfl rfl (by decide +kernel) ⟨Nat.le_of_ble_eq_true rfl, Nat.le_of_ble_eq_true rfl⟩) (tb_pre hT) rfl rfl hl.1 rfl (lv_room (Nat.le_of_ble_eq_true rfl)) d_S_fieldB_5 ⟨Nat.zero_le _, Nat.zero_le _⟩) ?_
  exact W.iret hx hb hr (fun t ht _ => ⟨_, rfl, by rw [f_fieldB], ht⟩) (fun q h => nomatch h) d_S_fieldB_8
set_option maxHeartbeats 40000000 in
set_option maxRecDepth 100000 in
theorem c_immediateOfI (l : Launch) (t : Nat → Nat) (a0 : Int32) : Met l y_S_immediateOfI w_S_immediateOfI { frames := 1, cells := 0, slots := 0, locals := 22 } (va_Pc [.int a0] (tb t)) (vp_Si (fun r => r = f_immediateOfI a0)) 0 0 (fun _ => False) := by
  refine Met.ofW (cc := b_S_immediateOfI) (maxL := 1) (ret := (some .int)) (by decide) rfl ?_
  intro p e s m args below meth c s₁ B hml hv
  obtain ⟨rfl, hT⟩ := hv
  have hx := B.exec
  have hb := B.bytes
  have hr := B.returns
  have hts := atoms_spec (ws := w_S_immediateOfI) B.pre
  have hown : s.vm.findClass R_S = some m.cls := findClass_of_methodNamed B.named
  have hlocks := B.notSynchronized
  have hl := lv_entry ([.int a0]) (n := 1) (Nat.le_of_ble_eq_true rfl)
  rw [lg_entry_eq]
  generalize (lg_sl ([.int a0]) ++ List.replicate (1 - (lg_sl ([.int a0])).length) Slot.unset).toArray = ls at hl ⊢
  have hl : lv_has ls 1 [(0, .int a0)] := hl
  refine lv_iload_n hx hb d_S_immediateOfI_0 rfl (lv_at hl 0 rfl) ?_
  refine lv_bipush (v := nI 31) hx hb d_S_immediateOfI_1 (by decide) ?_
  refine lv_bipush (v := nI 20) hx hb d_S_immediateOfI_3 (by decide) ?_
  refine callE (W.runS (As := [.int a0, .int (nI 31), .int (nI 20)]) (rest := []) ⟨hx, hb, hml, hown, hts⟩ (c_bits l t a0 (nI 31) (nI 20)) (cwS 3 hts (gS k_47 k_48 k_1 k_49) rfl rfl rfl (by decide +kernel) ⟨Nat.le_of_ble_eq_true rfl, Nat.le_of_ble_eq_true rfl⟩) (tb_pre hT) rfl rfl hl.1 rfl (lv_room (Nat.le_of_ble_eq_true rfl)) d_S_immediateOfI_5 ⟨Nat.zero_le _, Nat.zero_le _⟩) ?_
  exact W.iret hx hb hr (fun t ht _ => ⟨_, rfl, by rw [f_immediateOfI], ht⟩) (fun q h => nomatch h) d_S_immediateOfI_8
set_option maxHeartbeats 40000000 in
set_option maxRecDepth 100000 in
theorem c_fieldG (l : Launch) (t : Nat → Nat) (a0 : Int32) : Met l y_S_fieldG w_S_fieldG { frames := 1, cells := 0, slots := 0, locals := 22 } (va_Pc [.int a0] (tb t)) (vp_Si (fun r => r = f_fieldG a0)) 0 0 (fun _ => False) := by
  refine Met.ofW (cc := b_S_fieldG) (maxL := 1) (ret := (some .int)) (by decide) rfl ?_
  intro p e s m args below meth c s₁ B hml hv
  obtain ⟨rfl, hT⟩ := hv
  have hx := B.exec
  have hb := B.bytes
  have hr := B.returns
  have hts := atoms_spec (ws := w_S_fieldG) B.pre
  have hown : s.vm.findClass R_S = some m.cls := findClass_of_methodNamed B.named
  have hlocks := B.notSynchronized
  have hl := lv_entry ([.int a0]) (n := 1) (Nat.le_of_ble_eq_true rfl)
  rw [lg_entry_eq]
  generalize (lg_sl ([.int a0]) ++ List.replicate (1 - (lg_sl ([.int a0])).length) Slot.unset).toArray = ls at hl ⊢
  have hl : lv_has ls 1 [(0, .int a0)] := hl
  refine lv_iload_n hx hb d_S_fieldG_0 rfl (lv_at hl 0 rfl) ?_
  refine lv_bipush (v := nI 31) hx hb d_S_fieldG_1 (by decide) ?_
  refine lv_bipush (v := nI 25) hx hb d_S_fieldG_3 (by decide) ?_
  refine callE (W.runS (As := [.int a0, .int (nI 31), .int (nI 25)]) (rest := []) ⟨hx, hb, hml, hown, hts⟩ (c_bits l t a0 (nI 31) (nI 25)) (cwS 3 hts (gS k_47 k_48 k_1 k_49) rfl rfl rfl (by decide +kernel) ⟨Nat.le_of_ble_eq_true rfl, Nat.le_of_ble_eq_true rfl⟩) (tb_pre hT) rfl rfl hl.1 rfl (lv_room (Nat.le_of_ble_eq_true rfl)) d_S_fieldG_5 ⟨Nat.zero_le _, Nat.zero_le _⟩) ?_
  exact W.iret hx hb hr (fun t ht _ => ⟨_, rfl, by rw [f_fieldG], ht⟩) (fun q h => nomatch h) d_S_fieldG_8
set_option maxHeartbeats 40000000 in
set_option maxRecDepth 100000 in
theorem c_immediateOfS (l : Launch) (t : Nat → Nat) (a0 : Int32) : Met l y_S_immediateOfS w_S_immediateOfS { frames := 2, cells := 0, slots := 0, locals := 42 } (va_Pc [.int a0] (tb t)) (vp_Si (fun r => r = f_immediateOfS a0)) 0 0 (fun _ => False) := by
  refine Met.ofW (cc := b_S_immediateOfS) (maxL := 1) (ret := (some .int)) (by decide) rfl ?_
  intro p e s m args below meth c s₁ B hml hv
  obtain ⟨rfl, hT⟩ := hv
  have hx := B.exec
  have hb := B.bytes
  have hr := B.returns
  have hts := atoms_spec (ws := w_S_immediateOfS) B.pre
  have hown : s.vm.findClass R_S = some m.cls := findClass_of_methodNamed B.named
  have hlocks := B.notSynchronized
  have hl := lv_entry ([.int a0]) (n := 1) (Nat.le_of_ble_eq_true rfl)
  rw [lg_entry_eq]
  generalize (lg_sl ([.int a0]) ++ List.replicate (1 - (lg_sl ([.int a0])).length) Slot.unset).toArray = ls at hl ⊢
  have hl : lv_has ls 1 [(0, .int a0)] := hl
  refine lv_iload_n hx hb d_S_immediateOfS_0 rfl (lv_at hl 0 rfl) ?_
  refine callE (W.runS (As := [.int a0]) (rest := []) ⟨hx, hb, hml, hown, hts⟩ (c_fieldG l t a0) (cwS 1 hts (gS k_71 k_72 k_1 k_73) rfl rfl rfl (by decide +kernel) ⟨Nat.le_of_ble_eq_true rfl, Nat.le_of_ble_eq_true rfl⟩) (tb_pre hT) rfl rfl hl.1 rfl (lv_room (Nat.le_of_ble_eq_true rfl)) d_S_immediateOfS_1 ⟨Nat.zero_le _, Nat.zero_le _⟩) ?_
  refine lv_iconst (v := nI 5) hx hb d_S_immediateOfS_4 (by decide) ?_
  refine lv_ishl hx hb d_S_immediateOfS_5 ?_
  refine lv_iload_n hx hb d_S_immediateOfS_6 rfl (lv_at hl 0 rfl) ?_
  refine callE (W.runS (As := [.int a0]) (rest := [.int ((f_fieldG a0) <<< ((nI 5) &&& 31))]) ⟨hx, hb, hml, hown, hts⟩ (c_fieldD l t a0) (cwS 1 hts (gS k_50 k_51 k_1 k_52) rfl rfl rfl (by decide +kernel) ⟨Nat.le_of_ble_eq_true rfl, Nat.le_of_ble_eq_true rfl⟩) (tb_pre hT) rfl rfl hl.1 rfl (lv_room (Nat.le_of_ble_eq_true rfl)) d_S_immediateOfS_7 ⟨Nat.zero_le _, Nat.zero_le _⟩) ?_
  refine lv_ior hx hb d_S_immediateOfS_10 ?_
  exact W.iret hx hb hr (fun t ht _ => ⟨_, rfl, by rw [f_immediateOfS], ht⟩) (fun q h => nomatch h) d_S_immediateOfS_11
