set_option maxHeartbeats 40000000 in
set_option maxRecDepth 100000 in
theorem c_guessForLow0 (l : Launch) (t : Nat → Nat) (a0 a1 : Int32) : Met l y_S_guessForLow0 w_S_guessForLow0 { frames := 3, cells := 0, slots := 0, locals := 62 } (va_Pc [.int a0, .int a1] (tb t)) (vp_Si (fun r => r = f_guessForLow0 a0 a1)) 0 0 (fun _ => False) := by
  refine Met.ofW (cc := b_S_guessForLow0) (maxL := 5) (ret := (some .int)) (by decide) rfl ?_
  intro p e s m args below meth c s₁ B hml hv
  obtain ⟨rfl, hT⟩ := hv
  have hx := B.exec
  have hb := B.bytes
  have hr := B.returns
  have hts := atoms_spec (ws := w_S_guessForLow0) B.pre
  have hown : s.vm.findClass R_S = some m.cls := findClass_of_methodNamed B.named
  have hlocks := B.notSynchronized
  have hl := lv_entry ([.int a0, .int a1]) (n := 5) (Nat.le_of_ble_eq_true rfl)
  rw [lg_entry_eq]
  generalize (lg_sl ([.int a0, .int a1]) ++ List.replicate (5 - (lg_sl ([.int a0, .int a1])).length) Slot.unset).toArray = ls at hl ⊢
  have hl : lv_has ls 5 [(0, .int a0), (1, .int a1)] := hl
  refine lv_iload_n hx hb d_S_guessForLow0_0 rfl (lv_at hl 1 rfl) ?_
  refine callE (W.runS (As := [.int a1]) (rest := []) ⟨hx, hb, hml, hown, hts⟩ (c_fieldA l t a1) (cwS 1 hts (gS k_44 k_45 k_1 k_46) rfl rfl rfl (by decide +kernel) ⟨Nat.le_of_ble_eq_true rfl, Nat.le_of_ble_eq_true rfl⟩) (tb_pre hT) rfl rfl hl.1 rfl (lv_room (Nat.le_of_ble_eq_true rfl)) d_S_guessForLow0_1 ⟨Nat.zero_le _, Nat.zero_le _⟩) ?_
  refine lv_iconst (v := nI 2) hx hb d_S_guessForLow0_4 (by decide) ?_
  refine lv_iconst (v := nI 0) hx hb d_S_guessForLow0_5 (by decide) ?_
  refine callE (W.runS (As := [.int (f_fieldA a1), .int (nI 2), .int (nI 0)]) (rest := []) ⟨hx, hb, hml, hown, hts⟩ (c_bits l t (f_fieldA a1) (nI 2) (nI 0)) (cwS 3 hts (gS k_47 k_48 k_1 k_49) rfl rfl rfl (by decide +kernel) ⟨Nat.le_of_ble_eq_true rfl, Nat.le_of_ble_eq_true rfl⟩) (tb_pre hT) rfl rfl hl.1 rfl (lv_room (Nat.le_of_ble_eq_true rfl)) d_S_guessForLow0_6 ⟨Nat.zero_le _, Nat.zero_le _⟩) ?_
  refine lv_bipush (v := nI 7) hx hb d_S_guessForLow0_9 (by decide) ?_
  refine lv_ishl hx hb d_S_guessForLow0_11 ?_
  refine lv_istore_n (lv' := [(2, .int ((f_bits (f_fieldA a1) (nI 2) (nI 0)) <<< ((nI 7) &&& 31))), (0, .int a0), (1, .int a1)]) hx hb d_S_guessForLow0_12 rfl hl (by decide) rfl (fun ls hl => ?_)
  refine lv_iload_n hx hb d_S_guessForLow0_13 rfl (lv_at hl 2 rfl) ?_
  refine callE (W.runS (As := [.int a1]) (rest := []) ⟨hx, hb, hml, hown, hts⟩ (c_fieldD l t a1) (cwS 1 hts (gS k_50 k_51 k_1 k_52) rfl rfl rfl (by decide +kernel) ⟨Nat.le_of_ble_eq_true rfl, Nat.le_of_ble_eq_true rfl⟩) (tb_pre hT) rfl rfl hl.1 rfl (lv_room (Nat.le_of_ble_eq_true rfl)) d_S_guessForLow0_14 ⟨Nat.zero_le _, Nat.zero_le _⟩) ?_
  refine lv_iconst (v := nI 2) hx hb d_S_guessForLow0_17 (by decide) ?_
  refine lv_iconst (v := nI 0) hx hb d_S_guessForLow0_18 (by decide) ?_
  refine callE (W.runS (As := [.int (f_fieldD a1), .int (nI 2), .int (nI 0)]) (rest := []) ⟨hx, hb, hml, hown, hts⟩ (c_bits l t (f_fieldD a1) (nI 2) (nI 0)) (cwS 3 hts (gS k_47 k_48 k_1 k_49) rfl rfl rfl (by decide +kernel) ⟨Nat.le_of_ble_eq_true rfl, Nat.le_of_ble_eq_true rfl⟩) (tb_pre hT) rfl rfl hl.1 rfl (lv_room (Nat.le_of_ble_eq_true rfl)) d_S_guessForLow0_19 ⟨Nat.zero_le _, Nat.zero_le _⟩) ?_
  refine lv_iconst (v := nI 2) hx hb d_S_guessForLow0_22 (by decide) ?_
  refine lv_ishl hx hb d_S_guessForLow0_23 ?_
  refine lv_istore_n (lv' := [(3, .int ((f_bits (f_fieldD a1) (nI 2) (nI 0)) <<< ((nI 2) &&& 31))), (2, .int ((f_bits (f_fieldA a1) (nI 2) (nI 0)) <<< ((nI 7) &&& 31))), (0, .int a0), (1, .int a1)]) hx hb d_S_guessForLow0_24 rfl hl (by decide) rfl (fun ls hl => ?_)
  refine lv_iload_n hx hb d_S_guessForLow0_25 rfl (lv_at hl 3 rfl) ?_
  refine callE (W.runS (As := [.int a1]) (rest := []) ⟨hx, hb, hml, hown, hts⟩ (c_fieldB l t a1) (cwS 1 hts (gS k_53 k_54 k_1 k_55) rfl rfl rfl (by decide +kernel) ⟨Nat.le_of_ble_eq_true rfl, Nat.le_of_ble_eq_true rfl⟩) (tb_pre hT) rfl rfl hl.1 rfl (lv_room (Nat.le_of_ble_eq_true rfl)) d_S_guessForLow0_26 ⟨Nat.zero_le _, Nat.zero_le _⟩) ?_
  refine lv_iconst (v := nI 2) hx hb d_S_guessForLow0_29 (by decide) ?_
  refine lv_iconst (v := nI 0) hx hb d_S_guessForLow0_30 (by decide) ?_
  refine callE (W.runS (As := [.int (f_fieldB a1), .int (nI 2), .int (nI 0)]) (rest := []) ⟨hx, hb, hml, hown, hts⟩ (c_bits l t (f_fieldB a1) (nI 2) (nI 0)) (cwS 3 hts (gS k_47 k_48 k_1 k_49) rfl rfl rfl (by decide +kernel) ⟨Nat.le_of_ble_eq_true rfl, Nat.le_of_ble_eq_true rfl⟩) (tb_pre hT) rfl rfl hl.1 rfl (lv_room (Nat.le_of_ble_eq_true rfl)) d_S_guessForLow0_31 ⟨Nat.zero_le _, Nat.zero_le _⟩) ?_
  refine lv_iconst (v := nI 2) hx hb d_S_guessForLow0_34 (by decide) ?_
  refine lv_ishl hx hb d_S_guessForLow0_35 ?_
  refine lv_istore (lv' := [(4, .int ((f_bits (f_fieldB a1) (nI 2) (nI 0)) <<< ((nI 2) &&& 31))), (3, .int ((f_bits (f_fieldD a1) (nI 2) (nI 0)) <<< ((nI 2) &&& 31))), (2, .int ((f_bits (f_fieldA a1) (nI 2) (nI 0)) <<< ((nI 7) &&& 31))), (0, .int a0), (1, .int a1)]) hx hb d_S_guessForLow0_36 hl (by decide) rfl (fun ls hl => ?_)
  refine lv_iload_n hx hb d_S_guessForLow0_38 rfl (lv_at hl 3 rfl) ?_
  by_cases c1 : a0 = nI 0
  · refine lv_tableIn (tgt := 80) (off := 41) hx hb d_S_guessForLow0_39 (by rw [c1]; decide +kernel) (by rw [c1]; decide +kernel) (by rw [c1]; decide +kernel) (by decide) ?_
    refine lv_iload_n hx hb d_S_guessForLow0_80 rfl (lv_at hl 4 rfl) ?_
    refine callE (W.runS (As := [.int a1]) (rest := []) ⟨hx, hb, hml, hown, hts⟩ (c_immediateOfI l t a1) (cwS 1 hts (gS k_56 k_57 k_1 k_58) rfl rfl rfl (by decide +kernel) ⟨Nat.le_of_ble_eq_true rfl, Nat.le_of_ble_eq_true rfl⟩) (tb_pre hT) rfl rfl hl.1 rfl (lv_room (Nat.le_of_ble_eq_true rfl)) d_S_guessForLow0_81 ⟨Nat.zero_le _, Nat.zero_le _⟩) ?_
    refine va_gets hx hb (hT 0 _ rfl).1 va_S.rf hown (hts _ (List.mem_cons_of_mem _ k_59)) (fun _ h9 => h9) d_S_guessForLow0_84 ?_
    refine callE (W.runS (As := [.int (f_immediateOfI a1), .ref (t 0)]) (rest := []) ⟨hx, hb, hml, hown, hts⟩ (c_scatter l t 0 rfl (mm := 4) rfl (by decide) (f_immediateOfI a1)) (cwS 2 hts (gS k_61 k_62 k_1 k_63) rfl rfl rfl (by decide +kernel) ⟨Nat.le_of_ble_eq_true rfl, Nat.le_of_ble_eq_true rfl⟩) (tb_pre hT) rfl rfl hl.1 rfl (lv_room (Nat.le_of_ble_eq_true rfl)) d_S_guessForLow0_87 ⟨Nat.zero_le _, Nat.zero_le _⟩) ?_
    refine lv_iload_n hx hb d_S_guessForLow0_90 rfl (lv_at hl 1 rfl) ?_
    refine lv_ior hx hb d_S_guessForLow0_91 ?_
    exact W.iret hx hb hr (fun t ht _ => ⟨_, rfl, by rw [f_guessForLow0, if_pos c1], ht⟩) (fun q h => nomatch h) d_S_guessForLow0_92
  by_cases c2 : a0 = nI 1
  · refine lv_tableIn (tgt := 93) (off := 54) hx hb d_S_guessForLow0_39 (by rw [c2]; decide +kernel) (by rw [c2]; decide +kernel) (by rw [c2]; decide +kernel) (by decide) ?_
    refine lv_iload_n hx hb d_S_guessForLow0_93 rfl (lv_at hl 4 rfl) ?_
    refine callE (W.runS (As := [.int a1]) (rest := []) ⟨hx, hb, hml, hown, hts⟩ (c_immediateOfI l t a1) (cwS 1 hts (gS k_56 k_57 k_1 k_58) rfl rfl rfl (by decide +kernel) ⟨Nat.le_of_ble_eq_true rfl, Nat.le_of_ble_eq_true rfl⟩) (tb_pre hT) rfl rfl hl.1 rfl (lv_room (Nat.le_of_ble_eq_true rfl)) d_S_guessForLow0_94 ⟨Nat.zero_le _, Nat.zero_le _⟩) ?_
    refine va_gets hx hb (hT 1 _ rfl).1 va_S.rf hown (hts _ (List.mem_cons_of_mem _ k_64)) (fun _ h9 => h9) d_S_guessForLow0_97 ?_
    refine callE (W.runS (As := [.int (f_immediateOfI a1), .ref (t 1)]) (rest := []) ⟨hx, hb, hml, hown, hts⟩ (c_scatter l t 1 rfl (mm := 2) rfl (by decide) (f_immediateOfI a1)) (cwS 2 hts (gS k_61 k_62 k_1 k_63) rfl rfl rfl (by decide +kernel) ⟨Nat.le_of_ble_eq_true rfl, Nat.le_of_ble_eq_true rfl⟩) (tb_pre hT) rfl rfl hl.1 rfl (lv_room (Nat.le_of_ble_eq_true rfl)) d_S_guessForLow0_100 ⟨Nat.zero_le _, Nat.zero_le _⟩) ?_
    refine lv_iload_n hx hb d_S_guessForLow0_103 rfl (lv_at hl 2 rfl) ?_
    refine lv_ior hx hb d_S_guessForLow0_104 ?_
    refine lv_iload_n hx hb d_S_guessForLow0_105 rfl (lv_at hl 1 rfl) ?_
    refine lv_ior hx hb d_S_guessForLow0_106 ?_
    exact W.iret hx hb hr (fun t ht _ => ⟨_, rfl, by rw [f_guessForLow0, if_neg c1, if_pos c2], ht⟩) (fun q h => nomatch h) d_S_guessForLow0_107
  by_cases c3 : a0 = nI 2
  · refine lv_tableIn (tgt := 108) (off := 69) hx hb d_S_guessForLow0_39 (by rw [c3]; decide +kernel) (by rw [c3]; decide +kernel) (by rw [c3]; decide +kernel) (by decide) ?_
    refine lv_iload_n hx hb d_S_guessForLow0_108 rfl (lv_at hl 4 rfl) ?_
    refine callE (W.runS (As := [.int a1]) (rest := []) ⟨hx, hb, hml, hown, hts⟩ (c_immediateOfI l t a1) (cwS 1 hts (gS k_56 k_57 k_1 k_58) rfl rfl rfl (by decide +kernel) ⟨Nat.le_of_ble_eq_true rfl, Nat.le_of_ble_eq_true rfl⟩) (tb_pre hT) rfl rfl hl.1 rfl (lv_room (Nat.le_of_ble_eq_true rfl)) d_S_guessForLow0_109 ⟨Nat.zero_le _, Nat.zero_le _⟩) ?_
    refine va_gets hx hb (hT 2 _ rfl).1 va_S.rf hown (hts _ (List.mem_cons_of_mem _ k_66)) (fun _ h9 => h9) d_S_guessForLow0_112 ?_
    refine callE (W.runS (As := [.int (f_immediateOfI a1), .ref (t 2)]) (rest := []) ⟨hx, hb, hml, hown, hts⟩ (c_scatter l t 2 rfl (mm := 3) rfl (by decide) (f_immediateOfI a1)) (cwS 2 hts (gS k_61 k_62 k_1 k_63) rfl rfl rfl (by decide +kernel) ⟨Nat.le_of_ble_eq_true rfl, Nat.le_of_ble_eq_true rfl⟩) (tb_pre hT) rfl rfl hl.1 rfl (lv_room (Nat.le_of_ble_eq_true rfl)) d_S_guessForLow0_115 ⟨Nat.zero_le _, Nat.zero_le _⟩) ?_
    refine lv_iload_n hx hb d_S_guessForLow0_118 rfl (lv_at hl 2 rfl) ?_
    refine lv_ior hx hb d_S_guessForLow0_119 ?_
    refine lv_iload_n hx hb d_S_guessForLow0_120 rfl (lv_at hl 1 rfl) ?_
    refine lv_ior hx hb d_S_guessForLow0_121 ?_
    exact W.iret hx hb hr (fun t ht _ => ⟨_, rfl, by rw [f_guessForLow0, if_neg c1, if_neg c2, if_pos c3], ht⟩) (fun q h => nomatch h) d_S_guessForLow0_122
  by_cases c4 : a0 = nI 3
  · refine lv_tableIn (tgt := 93) (off := 54) hx hb d_S_guessForLow0_39 (by rw [c4]; decide +kernel) (by rw [c4]; decide +kernel) (by rw [c4]; decide +kernel) (by decide) ?_
    refine lv_iload_n hx hb d_S_guessForLow0_93 rfl (lv_at hl 4 rfl) ?_
    refine callE (W.runS (As := [.int a1]) (rest := []) ⟨hx, hb, hml, hown, hts⟩ (c_immediateOfI l t a1) (cwS 1 hts (gS k_56 k_57 k_1 k_58) rfl rfl rfl (by decide +kernel) ⟨Nat.le_of_ble_eq_true rfl, Nat.le_of_ble_eq_true rfl⟩) (tb_pre hT) rfl rfl hl.1 rfl (lv_room (Nat.le_of_ble_eq_true rfl)) d_S_guessForLow0_94 ⟨Nat.zero_le _, Nat.zero_le _⟩) ?_
    refine va_gets hx hb (hT 1 _ rfl).1 va_S.rf hown (hts _ (List.mem_cons_of_mem _ k_64)) (fun _ h9 => h9) d_S_guessForLow0_97 ?_
    refine callE (W.runS (As := [.int (f_immediateOfI a1), .ref (t 1)]) (rest := []) ⟨hx, hb, hml, hown, hts⟩ (c_scatter l t 1 rfl (mm := 2) rfl (by decide) (f_immediateOfI a1)) (cwS 2 hts (gS k_61 k_62 k_1 k_63) rfl rfl rfl (by decide +kernel) ⟨Nat.le_of_ble_eq_true rfl, Nat.le_of_ble_eq_true rfl⟩) (tb_pre hT) rfl rfl hl.1 rfl (lv_room (Nat.le_of_ble_eq_true rfl)) d_S_guessForLow0_100 ⟨Nat.zero_le _, Nat.zero_le _⟩) ?_
    refine lv_iload_n hx hb d_S_guessForLow0_103 rfl (lv_at hl 2 rfl) ?_
    refine lv_ior hx hb d_S_guessForLow0_104 ?_
    refine lv_iload_n hx hb d_S_guessForLow0_105 rfl (lv_at hl 1 rfl) ?_
    refine lv_ior hx hb d_S_guessForLow0_106 ?_
    exact W.iret hx hb hr (fun t ht _ => ⟨_, rfl, by rw [f_guessForLow0, if_neg c1, if_neg c2, if_neg c3, if_pos c4], ht⟩) (fun q h => nomatch h) d_S_guessForLow0_107
  by_cases c5 : a0 = nI 4
  · refine lv_tableIn (tgt := 139) (off := 100) hx hb d_S_guessForLow0_39 (by rw [c5]; decide +kernel) (by rw [c5]; decide +kernel) (by rw [c5]; decide +kernel) (by decide) ?_
    refine lv_iload_n hx hb d_S_guessForLow0_139 rfl (lv_at hl 4 rfl) ?_
    refine callE (W.runS (As := [.int a1]) (rest := []) ⟨hx, hb, hml, hown, hts⟩ (c_immediateOfS l t a1) (cwS 1 hts (gS k_68 k_69 k_1 k_70) rfl rfl rfl (by decide +kernel) ⟨Nat.le_of_ble_eq_true rfl, Nat.le_of_ble_eq_true rfl⟩) (tb_pre hT) rfl rfl hl.1 rfl (lv_room (Nat.le_of_ble_eq_true rfl)) d_S_guessForLow0_140 ⟨Nat.zero_le _, Nat.zero_le _⟩) ?_
    refine va_gets hx hb (hT 1 _ rfl).1 va_S.rf hown (hts _ (List.mem_cons_of_mem _ k_64)) (fun _ h9 => h9) d_S_guessForLow0_143 ?_
    refine callE (W.runS (As := [.int (f_immediateOfS a1), .ref (t 1)]) (rest := []) ⟨hx, hb, hml, hown, hts⟩ (c_scatter l t 1 rfl (mm := 2) rfl (by decide) (f_immediateOfS a1)) (cwS 2 hts (gS k_61 k_62 k_1 k_63) rfl rfl rfl (by decide +kernel) ⟨Nat.le_of_ble_eq_true rfl, Nat.le_of_ble_eq_true rfl⟩) (tb_pre hT) rfl rfl hl.1 rfl (lv_room (Nat.le_of_ble_eq_true rfl)) d_S_guessForLow0_146 ⟨Nat.zero_le _, Nat.zero_le _⟩) ?_
    refine lv_iload_n hx hb d_S_guessForLow0_149 rfl (lv_at hl 2 rfl) ?_
    refine lv_ior hx hb d_S_guessForLow0_150 ?_
    refine lv_iload hx hb d_S_guessForLow0_151 (lv_at hl 0 rfl) ?_
    refine lv_ior hx hb d_S_guessForLow0_153 ?_
    exact W.iret hx hb hr (fun t ht _ => ⟨_, rfl, by rw [f_guessForLow0, if_neg c1, if_neg c2, if_neg c3, if_neg c4, if_pos c5], ht⟩) (fun q h => nomatch h) d_S_guessForLow0_154
  by_cases c6 : a0 = nI 5
  · refine lv_tableIn (tgt := 139) (off := 100) hx hb d_S_guessForLow0_39 (by rw [c6]; decide +kernel) (by rw [c6]; decide +kernel) (by rw [c6]; decide +kernel) (by decide) ?_
    refine lv_iload_n hx hb d_S_guessForLow0_139 rfl (lv_at hl 4 rfl) ?_
    refine callE (W.runS (As := [.int a1]) (rest := []) ⟨hx, hb, hml, hown, hts⟩ (c_immediateOfS l t a1) (cwS 1 hts (gS k_68 k_69 k_1 k_70) rfl rfl rfl (by decide +kernel) ⟨Nat.le_of_ble_eq_true rfl, Nat.le_of_ble_eq_true rfl⟩) (tb_pre hT) rfl rfl hl.1 rfl (lv_room (Nat.le_of_ble_eq_true rfl)) d_S_guessForLow0_140 ⟨Nat.zero_le _, Nat.zero_le _⟩) ?_
    refine va_gets hx hb (hT 1 _ rfl).1 va_S.rf hown (hts _ (List.mem_cons_of_mem _ k_64)) (fun _ h9 => h9) d_S_guessForLow0_143 ?_
    refine callE (W.runS (As := [.int (f_immediateOfS a1), .ref (t 1)]) (rest := []) ⟨hx, hb, hml, hown, hts⟩ (c_scatter l t 1 rfl (mm := 2) rfl (by decide) (f_immediateOfS a1)) (cwS 2 hts (gS k_61 k_62 k_1 k_63) rfl rfl rfl (by decide +kernel) ⟨Nat.le_of_ble_eq_true rfl, Nat.le_of_ble_eq_true rfl⟩) (tb_pre hT) rfl rfl hl.1 rfl (lv_room (Nat.le_of_ble_eq_true rfl)) d_S_guessForLow0_146 ⟨Nat.zero_le _, Nat.zero_le _⟩) ?_
    refine lv_iload_n hx hb d_S_guessForLow0_149 rfl (lv_at hl 2 rfl) ?_
    refine lv_ior hx hb d_S_guessForLow0_150 ?_
    refine lv_iload hx hb d_S_guessForLow0_151 (lv_at hl 0 rfl) ?_
    refine lv_ior hx hb d_S_guessForLow0_153 ?_
    exact W.iret hx hb hr (fun t ht _ => ⟨_, rfl, by rw [f_guessForLow0, if_neg c1, if_neg c2, if_neg c3, if_neg c4, if_neg c5, if_pos c6], ht⟩) (fun q h => nomatch h) d_S_guessForLow0_154
  by_cases c7 : a0 = nI 6
  · refine lv_tableIn (tgt := 123) (off := 84) hx hb d_S_guessForLow0_39 (by rw [c7]; decide +kernel) (by rw [c7]; decide +kernel) (by rw [c7]; decide +kernel) (by decide) ?_
    refine lv_iload_n hx hb d_S_guessForLow0_123 rfl (lv_at hl 4 rfl) ?_
    refine callE (W.runS (As := [.int a1]) (rest := []) ⟨hx, hb, hml, hown, hts⟩ (c_immediateOfS l t a1) (cwS 1 hts (gS k_68 k_69 k_1 k_70) rfl rfl rfl (by decide +kernel) ⟨Nat.le_of_ble_eq_true rfl, Nat.le_of_ble_eq_true rfl⟩) (tb_pre hT) rfl rfl hl.1 rfl (lv_room (Nat.le_of_ble_eq_true rfl)) d_S_guessForLow0_124 ⟨Nat.zero_le _, Nat.zero_le _⟩) ?_
    refine va_gets hx hb (hT 2 _ rfl).1 va_S.rf hown (hts _ (List.mem_cons_of_mem _ k_66)) (fun _ h9 => h9) d_S_guessForLow0_127 ?_
    refine callE (W.runS (As := [.int (f_immediateOfS a1), .ref (t 2)]) (rest := []) ⟨hx, hb, hml, hown, hts⟩ (c_scatter l t 2 rfl (mm := 3) rfl (by decide) (f_immediateOfS a1)) (cwS 2 hts (gS k_61 k_62 k_1 k_63) rfl rfl rfl (by decide +kernel) ⟨Nat.le_of_ble_eq_true rfl, Nat.le_of_ble_eq_true rfl⟩) (tb_pre hT) rfl rfl hl.1 rfl (lv_room (Nat.le_of_ble_eq_true rfl)) d_S_guessForLow0_130 ⟨Nat.zero_le _, Nat.zero_le _⟩) ?_
    refine lv_iload_n hx hb d_S_guessForLow0_133 rfl (lv_at hl 2 rfl) ?_
    refine lv_ior hx hb d_S_guessForLow0_134 ?_
    refine lv_iload hx hb d_S_guessForLow0_135 (lv_at hl 0 rfl) ?_
    refine lv_ior hx hb d_S_guessForLow0_137 ?_
    exact W.iret hx hb hr (fun t ht _ => ⟨_, rfl, by rw [f_guessForLow0, if_neg c1, if_neg c2, if_neg c3, if_neg c4, if_neg c5, if_neg c6, if_pos c7], ht⟩) (fun q h => nomatch h) d_S_guessForLow0_138
  have c1z := lv_neT (a := 0) c1 (by decide)
  have c2z := lv_neT (a := 1) c2 (by decide)
  have c3z := lv_neT (a := 2) c3 (by decide)
  have c4z := lv_neT (a := 3) c4 (by decide)
  have c5z := lv_neT (a := 4) c5 (by decide)
  have c6z := lv_neT (a := 5) c6 (by decide)
  have c7z := lv_neT (a := 6) c7 (by decide)
  refine lv_tableOut (tgt := 139) hx hb d_S_guessForLow0_39 (by omega) (by decide) ?_
  refine lv_iload_n hx hb d_S_guessForLow0_139 rfl (lv_at hl 4 rfl) ?_
  refine callE (W.runS (As := [.int a1]) (rest := []) ⟨hx, hb, hml, hown, hts⟩ (c_immediateOfS l t a1) (cwS 1 hts (gS k_68 k_69 k_1 k_70) rfl rfl rfl (by decide +kernel) ⟨Nat.le_of_ble_eq_true rfl, Nat.le_of_ble_eq_true rfl⟩) (tb_pre hT) rfl rfl hl.1 rfl (lv_room (Nat.le_of_ble_eq_true rfl)) d_S_guessForLow0_140 ⟨Nat.zero_le _, Nat.zero_le _⟩) ?_
  refine va_gets hx hb (hT 1 _ rfl).1 va_S.rf hown (hts _ (List.mem_cons_of_mem _ k_64)) (fun _ h9 => h9) d_S_guessForLow0_143 ?_
  refine callE (W.runS (As := [.int (f_immediateOfS a1), .ref (t 1)]) (rest := []) ⟨hx, hb, hml, hown, hts⟩ (c_scatter l t 1 rfl (mm := 2) rfl (by decide) (f_immediateOfS a1)) (cwS 2 hts (gS k_61 k_62 k_1 k_63) rfl rfl rfl (by decide +kernel) ⟨Nat.le_of_ble_eq_true rfl, Nat.le_of_ble_eq_true rfl⟩) (tb_pre hT) rfl rfl hl.1 rfl (lv_room (Nat.le_of_ble_eq_true rfl)) d_S_guessForLow0_146 ⟨Nat.zero_le _, Nat.zero_le _⟩) ?_
  refine lv_iload_n hx hb d_S_guessForLow0_149 rfl (lv_at hl 2 rfl) ?_
  refine lv_ior hx hb d_S_guessForLow0_150 ?_
  refine lv_iload hx hb d_S_guessForLow0_151 (lv_at hl 0 rfl) ?_
  refine lv_ior hx hb d_S_guessForLow0_153 ?_
  exact W.iret hx hb hr (fun t ht _ => ⟨_, rfl, by rw [f_guessForLow0, if_neg c1, if_neg c2, if_neg c3, if_neg c4, if_neg c5, if_neg c6, if_neg c7], ht⟩) (fun q h => nomatch h) d_S_guessForLow0_154
