set_option maxHeartbeats 40000000 in
set_option maxRecDepth 100000 in
theorem c_immediateOfJ (l : Launch) (t : Nat → Nat) (a0 : Int32) : Met l y_S_immediateOfJ w_S_immediateOfJ { frames := 1, cells := 0, slots := 0, locals := 22 } (va_Pc [.int a0] (tb t)) (vp_Si (fun r => r = f_immediateOfJ a0)) 0 0 (fun _ => False) := by
  refine Met.ofW (cc := b_S_immediateOfJ) (maxL := 2) (ret := (some .int)) (by decide) rfl ?_
  intro p e s m args below meth c s₁ B hml hv
  obtain ⟨rfl, hT⟩ := hv
  have hx := B.exec
  have hb := B.bytes
  have hr := B.returns
  have hts := atoms_spec (ws := w_S_immediateOfJ) B.pre
  have hown : s.vm.findClass R_S = some m.cls := findClass_of_methodNamed B.named
  have hlocks := B.notSynchronized
  have hl := lv_entry ([.int a0]) (n := 2) (Nat.le_of_ble_eq_true rfl)
  rw [lg_entry_eq]
  generalize (lg_sl ([.int a0]) ++ List.replicate (2 - (lg_sl ([.int a0])).length) Slot.unset).toArray = ls at hl ⊢
  have hl : lv_has ls 2 [(0, .int a0)] := hl
  refine lv_iload_n hx hb d_S_immediateOfJ_0 rfl (lv_at hl 0 rfl) ?_
  refine lv_bipush (v := nI 31) hx hb d_S_immediateOfJ_1 (by decide) ?_
  refine lv_bipush (v := nI 31) hx hb d_S_immediateOfJ_3 (by decide) ?_
  refine callE (W.runS (As := [.int a0, .int (nI 31), .int (nI 31)]) (rest := []) ⟨hx, hb, hml, hown, hts⟩ (c_bits l t a0 (nI 31) (nI 31)) (cwS 3 hts (gS k_47 k_48 k_1 k_49) rfl rfl rfl (by decide +kernel) ⟨Nat.le_of_ble_eq_true rfl, Nat.le_of_ble_eq_true rfl⟩) (tb_pre hT) rfl rfl hl.1 rfl (lv_room (Nat.le_of_ble_eq_true rfl)) d_S_immediateOfJ_5 ⟨Nat.zero_le _, Nat.zero_le _⟩) ?_
  refine lv_bipush (v := nI 20) hx hb d_S_immediateOfJ_8 (by decide) ?_
  refine lv_ishl hx hb d_S_immediateOfJ_10 ?_
  refine lv_iload_n hx hb d_S_immediateOfJ_11 rfl (lv_at hl 0 rfl) ?_
  refine lv_bipush (v := nI 19) hx hb d_S_immediateOfJ_12 (by decide) ?_
  refine lv_bipush (v := nI 12) hx hb d_S_immediateOfJ_14 (by decide) ?_
  refine callE (W.runS (As := [.int a0, .int (nI 19), .int (nI 12)]) (rest := [.int ((f_bits a0 (nI 31) (nI 31)) <<< ((nI 20) &&& 31))]) ⟨hx, hb, hml, hown, hts⟩ (c_bits l t a0 (nI 19) (nI 12)) (cwS 3 hts (gS k_47 k_48 k_1 k_49) rfl rfl rfl (by decide +kernel) ⟨Nat.le_of_ble_eq_true rfl, Nat.le_of_ble_eq_true rfl⟩) (tb_pre hT) rfl rfl hl.1 rfl (lv_room (Nat.le_of_ble_eq_true rfl)) d_S_immediateOfJ_16 ⟨Nat.zero_le _, Nat.zero_le _⟩) ?_
  refine lv_bipush (v := nI 12) hx hb d_S_immediateOfJ_19 (by decide) ?_
  refine lv_ishl hx hb d_S_immediateOfJ_21 ?_
  refine lv_ior hx hb d_S_immediateOfJ_22 ?_
  refine lv_istore_n (lv' := [(1, .int (((f_bits a0 (nI 31) (nI 31)) <<< ((nI 20) &&& 31)) ||| ((f_bits a0 (nI 19) (nI 12)) <<< ((nI 12) &&& 31)))), (0, .int a0)]) hx hb d_S_immediateOfJ_23 rfl hl (by decide) rfl (fun ls hl => ?_)
  refine lv_iload_n hx hb d_S_immediateOfJ_24 rfl (lv_at hl 0 rfl) ?_
  refine lv_iload_n hx hb d_S_immediateOfJ_25 rfl (lv_at hl 1 rfl) ?_
  refine lv_bipush (v := nI 20) hx hb d_S_immediateOfJ_26 (by decide) ?_
  refine lv_bipush (v := nI 20) hx hb d_S_immediateOfJ_28 (by decide) ?_
  refine callE (W.runS (As := [.int a0, .int (nI 20), .int (nI 20)]) (rest := [.int (((f_bits a0 (nI 31) (nI 31)) <<< ((nI 20) &&& 31)) ||| ((f_bits a0 (nI 19) (nI 12)) <<< ((nI 12) &&& 31)))]) ⟨hx, hb, hml, hown, hts⟩ (c_bits l t a0 (nI 20) (nI 20)) (cwS 3 hts (gS k_47 k_48 k_1 k_49) rfl rfl rfl (by decide +kernel) ⟨Nat.le_of_ble_eq_true rfl, Nat.le_of_ble_eq_true rfl⟩) (tb_pre hT) rfl rfl hl.1 rfl (lv_room (Nat.le_of_ble_eq_true rfl)) d_S_immediateOfJ_30 ⟨Nat.zero_le _, Nat.zero_le _⟩) ?_
  refine lv_bipush (v := nI 11) hx hb d_S_immediateOfJ_33 (by decide) ?_
  refine lv_ishl hx hb d_S_immediateOfJ_35 ?_
  refine lv_ior hx hb d_S_immediateOfJ_36 ?_
  refine lv_iload_n hx hb d_S_immediateOfJ_37 rfl (lv_at hl 1 rfl) ?_
  refine lv_bipush (v := nI 30) hx hb d_S_immediateOfJ_38 (by decide) ?_
  refine lv_bipush (v := nI 21) hx hb d_S_immediateOfJ_40 (by decide) ?_
  refine callE (W.runS (As := [.int a0, .int (nI 30), .int (nI 21)]) (rest := [.int ((((f_bits a0 (nI 31) (nI 31)) <<< ((nI 20) &&& 31)) ||| ((f_bits a0 (nI 19) (nI 12)) <<< ((nI 12) &&& 31))) ||| ((f_bits a0 (nI 20) (nI 20)) <<< ((nI 11) &&& 31)))]) ⟨hx, hb, hml, hown, hts⟩ (c_bits l t a0 (nI 30) (nI 21)) (cwS 3 hts (gS k_47 k_48 k_1 k_49) rfl rfl rfl (by decide +kernel) ⟨Nat.le_of_ble_eq_true rfl, Nat.le_of_ble_eq_true rfl⟩) (tb_pre hT) rfl rfl hl.1 rfl (lv_room (Nat.le_of_ble_eq_true rfl)) d_S_immediateOfJ_42 ⟨Nat.zero_le _, Nat.zero_le _⟩) ?_
  refine lv_iconst (v := nI 1) hx hb d_S_immediateOfJ_45 (by decide) ?_
  refine lv_ishl hx hb d_S_immediateOfJ_46 ?_
  refine lv_ior hx hb d_S_immediateOfJ_47 ?_
  exact W.iret hx hb hr (fun t ht _ => ⟨_, rfl, by rw [f_immediateOfJ], ht⟩) (fun q h => nomatch h) d_S_immediateOfJ_48
set_option maxHeartbeats 40000000 in
set_option maxRecDepth 100000 in
theorem c_immediateOfB (l : Launch) (t : Nat → Nat) (a0 : Int32) : Met l y_S_immediateOfB w_S_immediateOfB { frames := 1, cells := 0, slots := 0, locals := 22 } (va_Pc [.int a0] (tb t)) (vp_Si (fun r => r = f_immediateOfB a0)) 0 0 (fun _ => False) := by
  refine Met.ofW (cc := b_S_immediateOfB) (maxL := 2) (ret := (some .int)) (by decide) rfl ?_
  intro p e s m args below meth c s₁ B hml hv
  obtain ⟨rfl, hT⟩ := hv
  have hx := B.exec
  have hb := B.bytes
  have hr := B.returns
  have hts := atoms_spec (ws := w_S_immediateOfB) B.pre
  have hown : s.vm.findClass R_S = some m.cls := findClass_of_methodNamed B.named
  have hlocks := B.notSynchronized
  have hl := lv_entry ([.int a0]) (n := 2) (Nat.le_of_ble_eq_true rfl)
  rw [lg_entry_eq]
  generalize (lg_sl ([.int a0]) ++ List.replicate (2 - (lg_sl ([.int a0])).length) Slot.unset).toArray = ls at hl ⊢
  have hl : lv_has ls 2 [(0, .int a0)] := hl
  refine lv_iload_n hx hb d_S_immediateOfB_0 rfl (lv_at hl 0 rfl) ?_
  refine lv_bipush (v := nI 31) hx hb d_S_immediateOfB_1 (by decide) ?_
  refine lv_bipush (v := nI 31) hx hb d_S_immediateOfB_3 (by decide) ?_
  refine callE (W.runS (As := [.int a0, .int (nI 31), .int (nI 31)]) (rest := []) ⟨hx, hb, hml, hown, hts⟩ (c_bits l t a0 (nI 31) (nI 31)) (cwS 3 hts (gS k_47 k_48 k_1 k_49) rfl rfl rfl (by decide +kernel) ⟨Nat.le_of_ble_eq_true rfl, Nat.le_of_ble_eq_true rfl⟩) (tb_pre hT) rfl rfl hl.1 rfl (lv_room (Nat.le_of_ble_eq_true rfl)) d_S_immediateOfB_5 ⟨Nat.zero_le _, Nat.zero_le _⟩) ?_
  refine lv_bipush (v := nI 12) hx hb d_S_immediateOfB_8 (by decide) ?_
  refine lv_ishl hx hb d_S_immediateOfB_10 ?_
  refine lv_iload_n hx hb d_S_immediateOfB_11 rfl (lv_at hl 0 rfl) ?_
  refine lv_bipush (v := nI 7) hx hb d_S_immediateOfB_12 (by decide) ?_
  refine lv_bipush (v := nI 7) hx hb d_S_immediateOfB_14 (by decide) ?_
  refine callE (W.runS (As := [.int a0, .int (nI 7), .int (nI 7)]) (rest := [.int ((f_bits a0 (nI 31) (nI 31)) <<< ((nI 12) &&& 31))]) ⟨hx, hb, hml, hown, hts⟩ (c_bits l t a0 (nI 7) (nI 7)) (cwS 3 hts (gS k_47 k_48 k_1 k_49) rfl rfl rfl (by decide +kernel) ⟨Nat.le_of_ble_eq_true rfl, Nat.le_of_ble_eq_true rfl⟩) (tb_pre hT) rfl rfl hl.1 rfl (lv_room (Nat.le_of_ble_eq_true rfl)) d_S_immediateOfB_16 ⟨Nat.zero_le _, Nat.zero_le _⟩) ?_
  refine lv_bipush (v := nI 11) hx hb d_S_immediateOfB_19 (by decide) ?_
  refine lv_ishl hx hb d_S_immediateOfB_21 ?_
  refine lv_ior hx hb d_S_immediateOfB_22 ?_
  refine lv_istore_n (lv' := [(1, .int (((f_bits a0 (nI 31) (nI 31)) <<< ((nI 12) &&& 31)) ||| ((f_bits a0 (nI 7) (nI 7)) <<< ((nI 11) &&& 31)))), (0, .int a0)]) hx hb d_S_immediateOfB_23 rfl hl (by decide) rfl (fun ls hl => ?_)
  refine lv_iload_n hx hb d_S_immediateOfB_24 rfl (lv_at hl 0 rfl) ?_
  refine lv_iload_n hx hb d_S_immediateOfB_25 rfl (lv_at hl 1 rfl) ?_
  refine lv_bipush (v := nI 30) hx hb d_S_immediateOfB_26 (by decide) ?_
  refine lv_bipush (v := nI 25) hx hb d_S_immediateOfB_28 (by decide) ?_
  refine callE (W.runS (As := [.int a0, .int (nI 30), .int (nI 25)]) (rest := [.int (((f_bits a0 (nI 31) (nI 31)) <<< ((nI 12) &&& 31)) ||| ((f_bits a0 (nI 7) (nI 7)) <<< ((nI 11) &&& 31)))]) ⟨hx, hb, hml, hown, hts⟩ (c_bits l t a0 (nI 30) (nI 25)) (cwS 3 hts (gS k_47 k_48 k_1 k_49) rfl rfl rfl (by decide +kernel) ⟨Nat.le_of_ble_eq_true rfl, Nat.le_of_ble_eq_true rfl⟩) (tb_pre hT) rfl rfl hl.1 rfl (lv_room (Nat.le_of_ble_eq_true rfl)) d_S_immediateOfB_30 ⟨Nat.zero_le _, Nat.zero_le _⟩) ?_
  refine lv_iconst (v := nI 5) hx hb d_S_immediateOfB_33 (by decide) ?_
  refine lv_ishl hx hb d_S_immediateOfB_34 ?_
  refine lv_ior hx hb d_S_immediateOfB_35 ?_
  refine lv_iload_n hx hb d_S_immediateOfB_36 rfl (lv_at hl 1 rfl) ?_
  refine lv_bipush (v := nI 11) hx hb d_S_immediateOfB_37 (by decide) ?_
  refine lv_bipush (v := nI 8) hx hb d_S_immediateOfB_39 (by decide) ?_
  refine callE (W.runS (As := [.int a0, .int (nI 11), .int (nI 8)]) (rest := [.int ((((f_bits a0 (nI 31) (nI 31)) <<< ((nI 12) &&& 31)) ||| ((f_bits a0 (nI 7) (nI 7)) <<< ((nI 11) &&& 31))) ||| ((f_bits a0 (nI 30) (nI 25)) <<< ((nI 5) &&& 31)))]) ⟨hx, hb, hml, hown, hts⟩ (c_bits l t a0 (nI 11) (nI 8)) (cwS 3 hts (gS k_47 k_48 k_1 k_49) rfl rfl rfl (by decide +kernel) ⟨Nat.le_of_ble_eq_true rfl, Nat.le_of_ble_eq_true rfl⟩) (tb_pre hT) rfl rfl hl.1 rfl (lv_room (Nat.le_of_ble_eq_true rfl)) d_S_immediateOfB_41 ⟨Nat.zero_le _, Nat.zero_le _⟩) ?_
  refine lv_iconst (v := nI 1) hx hb d_S_immediateOfB_44 (by decide) ?_
  refine lv_ishl hx hb d_S_immediateOfB_45 ?_
  refine lv_ior hx hb d_S_immediateOfB_46 ?_
  exact W.iret hx hb hr (fun t ht _ => ⟨_, rfl, by rw [f_immediateOfB], ht⟩) (fun q h => nomatch h) d_S_immediateOfB_47
set_option maxHeartbeats 40000000 in
set_option maxRecDepth 100000 in
theorem c_guessForLow1 (l : Launch) (t : Nat → Nat) (a0 a1 : Int32) : Met l y_S_guessForLow1 w_S_guessForLow1 { frames := 3, cells := 0, slots := 0, locals := 66 } (va_Pc [.int a0, .int a1] (tb t)) (vp_Si (fun r => r = f_guessForLow1 a0 a1)) 0 0 (fun _ => False) := by
  refine Met.ofW (cc := b_S_guessForLow1) (maxL := 3) (ret := (some .int)) (by decide) rfl ?_
  intro p e s m args below meth c s₁ B hml hv
  obtain ⟨rfl, hT⟩ := hv
  have hx := B.exec
  have hb := B.bytes
  have hr := B.returns
  have hts := atoms_spec (ws := w_S_guessForLow1) B.pre
  have hown : s.vm.findClass R_S = some m.cls := findClass_of_methodNamed B.named
  have hlocks := B.notSynchronized
  have hl := lv_entry ([.int a0, .int a1]) (n := 3) (Nat.le_of_ble_eq_true rfl)
  rw [lg_entry_eq]
  generalize (lg_sl ([.int a0, .int a1]) ++ List.replicate (3 - (lg_sl ([.int a0, .int a1])).length) Slot.unset).toArray = ls at hl ⊢
  have hl : lv_has ls 3 [(0, .int a0), (1, .int a1)] := hl
  refine lv_iload_n hx hb d_S_guessForLow1_0 rfl (lv_at hl 1 rfl) ?_
  refine callE (W.runS (As := [.int a1]) (rest := []) ⟨hx, hb, hml, hown, hts⟩ (c_fieldD l t a1) (cwS 1 hts (gS k_50 k_51 k_1 k_52) rfl rfl rfl (by decide +kernel) ⟨Nat.le_of_ble_eq_true rfl, Nat.le_of_ble_eq_true rfl⟩) (tb_pre hT) rfl rfl hl.1 rfl (lv_room (Nat.le_of_ble_eq_true rfl)) d_S_guessForLow1_1 ⟨Nat.zero_le _, Nat.zero_le _⟩) ?_
  refine lv_bipush (v := nI 7) hx hb d_S_guessForLow1_4 (by decide) ?_
  refine lv_ishl hx hb d_S_guessForLow1_6 ?_
  refine lv_istore_n (lv' := [(2, .int ((f_fieldD a1) <<< ((nI 7) &&& 31))), (0, .int a0), (1, .int a1)]) hx hb d_S_guessForLow1_7 rfl hl (by decide) rfl (fun ls hl => ?_)
  refine lv_iload_n hx hb d_S_guessForLow1_8 rfl (lv_at hl 1 rfl) ?_
  by_cases c1 : a0 = nI 3
  · refine lv_tableIn (tgt := 44) (off := 35) hx hb d_S_guessForLow1_9 (by rw [c1]; decide +kernel) (by rw [c1]; decide +kernel) (by rw [c1]; decide +kernel) (by decide) ?_
    refine lv_iload_n hx hb d_S_guessForLow1_44 rfl (lv_at hl 2 rfl) ?_
    refine callE (W.runS (As := [.int a1]) (rest := []) ⟨hx, hb, hml, hown, hts⟩ (c_fieldD l t a1) (cwS 1 hts (gS k_50 k_51 k_1 k_52) rfl rfl rfl (by decide +kernel) ⟨Nat.le_of_ble_eq_true rfl, Nat.le_of_ble_eq_true rfl⟩) (tb_pre hT) rfl rfl hl.1 rfl (lv_room (Nat.le_of_ble_eq_true rfl)) d_S_guessForLow1_45 ⟨Nat.zero_le _, Nat.zero_le _⟩) ?_
    refine lv_iconst (v := nI 2) hx hb d_S_guessForLow1_48 (by decide) ?_
    refine lv_icmp_ne (tgt := 67) hx hb d_S_guessForLow1_49 (by decide) (fun c2 => ?_) (fun c2 => ?_)
    · refine lv_iload_n hx hb d_S_guessForLow1_67 rfl (lv_at hl 0 rfl) ?_
      refine lv_iload_n hx hb d_S_guessForLow1_68 rfl (lv_at hl 2 rfl) ?_
      refine lv_bipush (v := nI 16) hx hb d_S_guessForLow1_69 (by decide) ?_
      refine lv_bipush (v := nI 12) hx hb d_S_guessForLow1_71 (by decide) ?_
      refine callE (W.runS (As := [.int a1, .int (nI 16), .int (nI 12)]) (rest := [.int ((f_fieldD a1) <<< ((nI 7) &&& 31))]) ⟨hx, hb, hml, hown, hts⟩ (c_bits l t a1 (nI 16) (nI 12)) (cwS 3 hts (gS k_47 k_48 k_1 k_49) rfl rfl rfl (by decide +kernel) ⟨Nat.le_of_ble_eq_true rfl, Nat.le_of_ble_eq_true rfl⟩) (tb_pre hT) rfl rfl hl.1 rfl (lv_room (Nat.le_of_ble_eq_true rfl)) d_S_guessForLow1_73 ⟨Nat.zero_le _, Nat.zero_le _⟩) ?_
      refine lv_iconst (v := nI 2) hx hb d_S_guessForLow1_76 (by decide) ?_
      refine lv_ishl hx hb d_S_guessForLow1_77 ?_
      refine lv_ior hx hb d_S_guessForLow1_78 ?_
      exact W.iret hx hb hr (fun t ht _ => ⟨_, rfl, by rw [f_guessForLow1, if_pos c1, if_neg c2], ht⟩) (fun q h => nomatch h) d_S_guessForLow1_79
    · refine lv_iload_n hx hb d_S_guessForLow1_52 rfl (lv_at hl 0 rfl) ?_
      refine lv_iload_n hx hb d_S_guessForLow1_53 rfl (lv_at hl 2 rfl) ?_
      refine callE (W.runS (As := [.int a1]) (rest := [.int ((f_fieldD a1) <<< ((nI 7) &&& 31))]) ⟨hx, hb, hml, hown, hts⟩ (c_immediateOfI l t a1) (cwS 1 hts (gS k_56 k_57 k_1 k_58) rfl rfl rfl (by decide +kernel) ⟨Nat.le_of_ble_eq_true rfl, Nat.le_of_ble_eq_true rfl⟩) (tb_pre hT) rfl rfl hl.1 rfl (lv_room (Nat.le_of_ble_eq_true rfl)) d_S_guessForLow1_54 ⟨Nat.zero_le _, Nat.zero_le _⟩) ?_
      refine va_gets hx hb (hT 3 _ rfl).1 va_S.rf hown (hts _ (List.mem_cons_of_mem _ k_77)) (fun _ h9 => h9) d_S_guessForLow1_57 ?_
      refine callE (W.runS (As := [.int (f_immediateOfI a1), .ref (t 3)]) (rest := [.int ((f_fieldD a1) <<< ((nI 7) &&& 31))]) ⟨hx, hb, hml, hown, hts⟩ (c_scatter l t 3 rfl (mm := 5) rfl (by decide) (f_immediateOfI a1)) (cwS 2 hts (gS k_61 k_62 k_1 k_63) rfl rfl rfl (by decide +kernel) ⟨Nat.le_of_ble_eq_true rfl, Nat.le_of_ble_eq_true rfl⟩) (tb_pre hT) rfl rfl hl.1 rfl (lv_room (Nat.le_of_ble_eq_true rfl)) d_S_guessForLow1_60 ⟨Nat.zero_le _, Nat.zero_le _⟩) ?_
      refine lv_ior hx hb d_S_guessForLow1_63 ?_
      refine lv_goto (tgt := 79) hx hb d_S_guessForLow1_64 (by decide) ?_
      exact W.iret hx hb hr (fun t ht _ => ⟨_, rfl, by rw [f_guessForLow1, if_pos c1, if_pos c2], ht⟩) (fun q h => nomatch h) d_S_guessForLow1_79
  by_cases c3 : a0 = nI 4
  · refine lv_tableIn (tgt := 80) (off := 71) hx hb d_S_guessForLow1_9 (by rw [c3]; decide +kernel) (by rw [c3]; decide +kernel) (by rw [c3]; decide +kernel) (by decide) ?_
    refine lv_iload_n hx hb d_S_guessForLow1_80 rfl (lv_at hl 2 rfl) ?_
    refine callE (W.runS (As := [.int a1]) (rest := []) ⟨hx, hb, hml, hown, hts⟩ (c_guessForArithmetic l t a1) (cwS 1 hts (gS k_79 k_80 k_1 k_81) rfl rfl rfl (by decide +kernel) ⟨Nat.le_of_ble_eq_true rfl, Nat.le_of_ble_eq_true rfl⟩) (tb_pre hT) rfl rfl hl.1 rfl (lv_room (Nat.le_of_ble_eq_true rfl)) d_S_guessForLow1_81 ⟨Nat.zero_le _, Nat.zero_le _⟩) ?_
    exact W.iret hx hb hr (fun t ht _ => ⟨_, rfl, by rw [f_guessForLow1, if_neg c1, if_pos c3], ht⟩) (fun q h => nomatch h) d_S_guessForLow1_84
  by_cases c4 : a0 = nI 5
  · refine lv_tableIn (tgt := 85) (off := 76) hx hb d_S_guessForLow1_9 (by rw [c4]; decide +kernel) (by rw [c4]; decide +kernel) (by rw [c4]; decide +kernel) (by decide) ?_
    refine lv_iload_n hx hb d_S_guessForLow1_85 rfl (lv_at hl 2 rfl) ?_
    refine callE (W.runS (As := [.int a1]) (rest := []) ⟨hx, hb, hml, hown, hts⟩ (c_immediateOfJ l t a1) (cwS 1 hts (gS k_91 k_92 k_1 k_93) rfl rfl rfl (by decide +kernel) ⟨Nat.le_of_ble_eq_true rfl, Nat.le_of_ble_eq_true rfl⟩) (tb_pre hT) rfl rfl hl.1 rfl (lv_room (Nat.le_of_ble_eq_true rfl)) d_S_guessForLow1_86 ⟨Nat.zero_le _, Nat.zero_le _⟩) ?_
    refine va_gets hx hb (hT 4 _ rfl).1 va_S.rf hown (hts _ (List.mem_cons_of_mem _ k_94)) (fun _ h9 => h9) d_S_guessForLow1_89 ?_
    refine callE (W.runS (As := [.int (f_immediateOfJ a1), .ref (t 4)]) (rest := []) ⟨hx, hb, hml, hown, hts⟩ (c_scatter l t 4 rfl (mm := 8) rfl (by decide) (f_immediateOfJ a1)) (cwS 2 hts (gS k_61 k_62 k_1 k_63) rfl rfl rfl (by decide +kernel) ⟨Nat.le_of_ble_eq_true rfl, Nat.le_of_ble_eq_true rfl⟩) (tb_pre hT) rfl rfl hl.1 rfl (lv_room (Nat.le_of_ble_eq_true rfl)) d_S_guessForLow1_92 ⟨Nat.zero_le _, Nat.zero_le _⟩) ?_
    exact W.iret hx hb hr (fun t ht _ => ⟨_, rfl, by rw [f_guessForLow1, if_neg c1, if_neg c3, if_pos c4], ht⟩) (fun q h => nomatch h) d_S_guessForLow1_95
  by_cases c5 : a0 = nI 6
  · refine lv_tableIn (tgt := 96) (off := 87) hx hb d_S_guessForLow1_9 (by rw [c5]; decide +kernel) (by rw [c5]; decide +kernel) (by rw [c5]; decide +kernel) (by decide) ?_
    refine lv_iload_n hx hb d_S_guessForLow1_96 rfl (lv_at hl 2 rfl) ?_
    refine callE (W.runS (As := [.int a1]) (rest := []) ⟨hx, hb, hml, hown, hts⟩ (c_immediateOfB l t a1) (cwS 1 hts (gS k_96 k_97 k_1 k_98) rfl rfl rfl (by decide +kernel) ⟨Nat.le_of_ble_eq_true rfl, Nat.le_of_ble_eq_true rfl⟩) (tb_pre hT) rfl rfl hl.1 rfl (lv_room (Nat.le_of_ble_eq_true rfl)) d_S_guessForLow1_97 ⟨Nat.zero_le _, Nat.zero_le _⟩) ?_
    refine va_gets hx hb (hT 5 _ rfl).1 va_S.rf hown (hts _ (List.mem_cons_of_mem _ k_99)) (fun _ h9 => h9) d_S_guessForLow1_100 ?_
    refine callE (W.runS (As := [.int (f_immediateOfB a1), .ref (t 5)]) (rest := []) ⟨hx, hb, hml, hown, hts⟩ (c_scatter l t 5 rfl (mm := 5) rfl (by decide) (f_immediateOfB a1)) (cwS 2 hts (gS k_61 k_62 k_1 k_63) rfl rfl rfl (by decide +kernel) ⟨Nat.le_of_ble_eq_true rfl, Nat.le_of_ble_eq_true rfl⟩) (tb_pre hT) rfl rfl hl.1 rfl (lv_room (Nat.le_of_ble_eq_true rfl)) d_S_guessForLow1_103 ⟨Nat.zero_le _, Nat.zero_le _⟩) ?_
    refine lv_iload_n hx hb d_S_guessForLow1_106 rfl (lv_at hl 2 rfl) ?_
    refine callE (W.runS (As := [.int a1]) (rest := [.int (f_scatter row5 (nI 0) (f_immediateOfB a1))]) ⟨hx, hb, hml, hown, hts⟩ (c_fieldA l t a1) (cwS 1 hts (gS k_44 k_45 k_1 k_46) rfl rfl rfl (by decide +kernel) ⟨Nat.le_of_ble_eq_true rfl, Nat.le_of_ble_eq_true rfl⟩) (tb_pre hT) rfl rfl hl.1 rfl (lv_room (Nat.le_of_ble_eq_true rfl)) d_S_guessForLow1_107 ⟨Nat.zero_le _, Nat.zero_le _⟩) ?_
    refine lv_iconst (v := nI 2) hx hb d_S_guessForLow1_110 (by decide) ?_
    refine lv_iconst (v := nI 0) hx hb d_S_guessForLow1_111 (by decide) ?_
    refine callE (W.runS (As := [.int (f_fieldA a1), .int (nI 2), .int (nI 0)]) (rest := [.int (f_scatter row5 (nI 0) (f_immediateOfB a1))]) ⟨hx, hb, hml, hown, hts⟩ (c_bits l t (f_fieldA a1) (nI 2) (nI 0)) (cwS 3 hts (gS k_47 k_48 k_1 k_49) rfl rfl rfl (by decide +kernel) ⟨Nat.le_of_ble_eq_true rfl, Nat.le_of_ble_eq_true rfl⟩) (tb_pre hT) rfl rfl hl.1 rfl (lv_room (Nat.le_of_ble_eq_true rfl)) d_S_guessForLow1_112 ⟨Nat.zero_le _, Nat.zero_le _⟩) ?_
    refine lv_bipush (v := nI 7) hx hb d_S_guessForLow1_115 (by decide) ?_
    refine lv_ishl hx hb d_S_guessForLow1_117 ?_
    refine lv_ior hx hb d_S_guessForLow1_118 ?_
    exact W.iret hx hb hr (fun t ht _ => ⟨_, rfl, by rw [f_guessForLow1, if_neg c1, if_neg c3, if_neg c4, if_pos c5], ht⟩) (fun q h => nomatch h) d_S_guessForLow1_119
  by_cases c6 : a0 = nI 7
  · refine lv_tableIn (tgt := 96) (off := 87) hx hb d_S_guessForLow1_9 (by rw [c6]; decide +kernel) (by rw [c6]; decide +kernel) (by rw [c6]; decide +kernel) (by decide) ?_
    refine lv_iload_n hx hb d_S_guessForLow1_96 rfl (lv_at hl 2 rfl) ?_
    refine callE (W.runS (As := [.int a1]) (rest := []) ⟨hx, hb, hml, hown, hts⟩ (c_immediateOfB l t a1) (cwS 1 hts (gS k_96 k_97 k_1 k_98) rfl rfl rfl (by decide +kernel) ⟨Nat.le_of_ble_eq_true rfl, Nat.le_of_ble_eq_true rfl⟩) (tb_pre hT) rfl rfl hl.1 rfl (lv_room (Nat.le_of_ble_eq_true rfl)) d_S_guessForLow1_97 ⟨Nat.zero_le _, Nat.zero_le _⟩) ?_
    refine va_gets hx hb (hT 5 _ rfl).1 va_S.rf hown (hts _ (List.mem_cons_of_mem _ k_99)) (fun _ h9 => h9) d_S_guessForLow1_100 ?_
    refine callE (W.runS (As := [.int (f_immediateOfB a1), .ref (t 5)]) (rest := []) ⟨hx, hb, hml, hown, hts⟩ (c_scatter l t 5 rfl (mm := 5) rfl (by decide) (f_immediateOfB a1)) (cwS 2 hts (gS k_61 k_62 k_1 k_63) rfl rfl rfl (by decide +kernel) ⟨Nat.le_of_ble_eq_true rfl, Nat.le_of_ble_eq_true rfl⟩) (tb_pre hT) rfl rfl hl.1 rfl (lv_room (Nat.le_of_ble_eq_true rfl)) d_S_guessForLow1_103 ⟨Nat.zero_le _, Nat.zero_le _⟩) ?_
    refine lv_iload_n hx hb d_S_guessForLow1_106 rfl (lv_at hl 2 rfl) ?_
    refine callE (W.runS (As := [.int a1]) (rest := [.int (f_scatter row5 (nI 0) (f_immediateOfB a1))]) ⟨hx, hb, hml, hown, hts⟩ (c_fieldA l t a1) (cwS 1 hts (gS k_44 k_45 k_1 k_46) rfl rfl rfl (by decide +kernel) ⟨Nat.le_of_ble_eq_true rfl, Nat.le_of_ble_eq_true rfl⟩) (tb_pre hT) rfl rfl hl.1 rfl (lv_room (Nat.le_of_ble_eq_true rfl)) d_S_guessForLow1_107 ⟨Nat.zero_le _, Nat.zero_le _⟩) ?_
    refine lv_iconst (v := nI 2) hx hb d_S_guessForLow1_110 (by decide) ?_
    refine lv_iconst (v := nI 0) hx hb d_S_guessForLow1_111 (by decide) ?_
    refine callE (W.runS (As := [.int (f_fieldA a1), .int (nI 2), .int (nI 0)]) (rest := [.int (f_scatter row5 (nI 0) (f_immediateOfB a1))]) ⟨hx, hb, hml, hown, hts⟩ (c_bits l t (f_fieldA a1) (nI 2) (nI 0)) (cwS 3 hts (gS k_47 k_48 k_1 k_49) rfl rfl rfl (by decide +kernel) ⟨Nat.le_of_ble_eq_true rfl, Nat.le_of_ble_eq_true rfl⟩) (tb_pre hT) rfl rfl hl.1 rfl (lv_room (Nat.le_of_ble_eq_true rfl)) d_S_guessForLow1_112 ⟨Nat.zero_le _, Nat.zero_le _⟩) ?_
    refine lv_bipush (v := nI 7) hx hb d_S_guessForLow1_115 (by decide) ?_
    refine lv_ishl hx hb d_S_guessForLow1_117 ?_
    refine lv_ior hx hb d_S_guessForLow1_118 ?_
    exact W.iret hx hb hr (fun t ht _ => ⟨_, rfl, by rw [f_guessForLow1, if_neg c1, if_neg c3, if_neg c4, if_neg c5, if_pos c6], ht⟩) (fun q h => nomatch h) d_S_guessForLow1_119
  have c1z := lv_neT (a := 3) c1 (by decide)
  have c3z := lv_neT (a := 4) c3 (by decide)
  have c4z := lv_neT (a := 5) c4 (by decide)
  have c5z := lv_neT (a := 6) c5 (by decide)
  have c6z := lv_neT (a := 7) c6 (by decide)
  refine lv_tableOut (tgt := 120) hx hb d_S_guessForLow1_9 (by omega) (by decide) ?_
  refine lv_iload_n hx hb d_S_guessForLow1_120 rfl (lv_at hl 0 rfl) ?_
  refine lv_iload_n hx hb d_S_guessForLow1_121 rfl (lv_at hl 2 rfl) ?_
  refine callE (W.runS (As := [.int a1]) (rest := [.int ((f_fieldD a1) <<< ((nI 7) &&& 31))]) ⟨hx, hb, hml, hown, hts⟩ (c_fieldB l t a1) (cwS 1 hts (gS k_53 k_54 k_1 k_55) rfl rfl rfl (by decide +kernel) ⟨Nat.le_of_ble_eq_true rfl, Nat.le_of_ble_eq_true rfl⟩) (tb_pre hT) rfl rfl hl.1 rfl (lv_room (Nat.le_of_ble_eq_true rfl)) d_S_guessForLow1_122 ⟨Nat.zero_le _, Nat.zero_le _⟩) ?_
  refine lv_iconst (v := nI 2) hx hb d_S_guessForLow1_125 (by decide) ?_
  refine lv_ishl hx hb d_S_guessForLow1_126 ?_
  refine lv_ior hx hb d_S_guessForLow1_127 ?_
  exact W.iret hx hb hr (fun t ht _ => ⟨_, rfl, by rw [f_guessForLow1, if_neg c1, if_neg c3, if_neg c4, if_neg c5, if_neg c6], ht⟩) (fun q h => nomatch h) d_S_guessForLow1_128
