set_option maxHeartbeats 40000000 in
set_option maxRecDepth 100000 in
theorem c_guessForLow2 (l : Launch) (t : Nat → Nat) (a0 a1 : Int32) : Met l y_S_guessForLow2 w_S_guessForLow2 { frames := 3, cells := 0, slots := 0, locals := 62 } (va_Pc [.int a0, .int a1] (tb t)) (vp_Si (fun r => r = f_guessForLow2 a0 a1)) 0 0 (fun _ => False) := by
  refine Met.ofW (cc := b_S_guessForLow2) (maxL := 4) (ret := (some .int)) (by decide) rfl ?_
  intro p e s m args below meth c s₁ B hml hv
  obtain ⟨rfl, hT⟩ := hv
  have hx := B.exec
  have hb := B.bytes
  have hr := B.returns
  have hts := atoms_spec (ws := w_S_guessForLow2) B.pre
  have hown : s.vm.findClass R_S = some m.cls := findClass_of_methodNamed B.named
  have hlocks := B.notSynchronized
  have hl := lv_entry ([.int a0, .int a1]) (n := 4) (Nat.le_of_ble_eq_true rfl)
  rw [lg_entry_eq]
  generalize (lg_sl ([.int a0, .int a1]) ++ List.replicate (4 - (lg_sl ([.int a0, .int a1])).length) Slot.unset).toArray = ls at hl ⊢
  have hl : lv_has ls 4 [(0, .int a0), (1, .int a1)] := hl
  refine lv_iload_n hx hb d_S_guessForLow2_0 rfl (lv_at hl 1 rfl) ?_
  refine callE (W.runS (As := [.int a1]) (rest := []) ⟨hx, hb, hml, hown, hts⟩ (c_fieldD l t a1) (cwS 1 hts (gS k_50 k_51 k_1 k_52) rfl rfl rfl (by decide +kernel) ⟨Nat.le_of_ble_eq_true rfl, Nat.le_of_ble_eq_true rfl⟩) (tb_pre hT) rfl rfl hl.1 rfl (lv_room (Nat.le_of_ble_eq_true rfl)) d_S_guessForLow2_1 ⟨Nat.zero_le _, Nat.zero_le _⟩) ?_
  refine lv_bipush (v := nI 7) hx hb d_S_guessForLow2_4 (by decide) ?_
  refine lv_ishl hx hb d_S_guessForLow2_6 ?_
  refine lv_istore_n (lv' := [(2, .int ((f_fieldD a1) <<< ((nI 7) &&& 31))), (0, .int a0), (1, .int a1)]) hx hb d_S_guessForLow2_7 rfl hl (by decide) rfl (fun ls hl => ?_)
  refine lv_iload_n hx hb d_S_guessForLow2_8 rfl (lv_at hl 2 rfl) ?_
  refine callE (W.runS (As := [.int a1]) (rest := []) ⟨hx, hb, hml, hown, hts⟩ (c_fieldB l t a1) (cwS 1 hts (gS k_53 k_54 k_1 k_55) rfl rfl rfl (by decide +kernel) ⟨Nat.le_of_ble_eq_true rfl, Nat.le_of_ble_eq_true rfl⟩) (tb_pre hT) rfl rfl hl.1 rfl (lv_room (Nat.le_of_ble_eq_true rfl)) d_S_guessForLow2_9 ⟨Nat.zero_le _, Nat.zero_le _⟩) ?_
  refine lv_iconst (v := nI 2) hx hb d_S_guessForLow2_12 (by decide) ?_
  refine lv_ishl hx hb d_S_guessForLow2_13 ?_
  refine lv_istore_n (lv' := [(3, .int ((f_fieldB a1) <<< ((nI 2) &&& 31))), (2, .int ((f_fieldD a1) <<< ((nI 7) &&& 31))), (0, .int a0), (1, .int a1)]) hx hb d_S_guessForLow2_14 rfl hl (by decide) rfl (fun ls hl => ?_)
  refine lv_iload_n hx hb d_S_guessForLow2_15 rfl (lv_at hl 2 rfl) ?_
  by_cases c1 : a0 = nI 1
  · refine lv_tableIn (tgt := 60) (off := 44) hx hb d_S_guessForLow2_16 (by rw [c1]; decide +kernel) (by rw [c1]; decide +kernel) (by rw [c1]; decide +kernel) (by decide) ?_
    refine lv_iload_n hx hb d_S_guessForLow2_60 rfl (lv_at hl 1 rfl) ?_
    refine lv_iload_n hx hb d_S_guessForLow2_61 rfl (lv_at hl 3 rfl) ?_
    refine callE (W.runS (As := [.int a1]) (rest := [.int ((f_fieldD a1) <<< ((nI 7) &&& 31))]) ⟨hx, hb, hml, hown, hts⟩ (c_immediateOfI l t a1) (cwS 1 hts (gS k_56 k_57 k_1 k_58) rfl rfl rfl (by decide +kernel) ⟨Nat.le_of_ble_eq_true rfl, Nat.le_of_ble_eq_true rfl⟩) (tb_pre hT) rfl rfl hl.1 rfl (lv_room (Nat.le_of_ble_eq_true rfl)) d_S_guessForLow2_62 ⟨Nat.zero_le _, Nat.zero_le _⟩) ?_
    refine va_gets hx hb (hT 6 _ rfl).1 va_S.rf hown (hts _ (List.mem_cons_of_mem _ k_104)) (fun _ h9 => h9) d_S_guessForLow2_65 ?_
    refine callE (W.runS (As := [.int (f_immediateOfI a1), .ref (t 6)]) (rest := [.int ((f_fieldD a1) <<< ((nI 7) &&& 31))]) ⟨hx, hb, hml, hown, hts⟩ (c_scatter l t 6 rfl (mm := 3) rfl (by decide) (f_immediateOfI a1)) (cwS 2 hts (gS k_61 k_62 k_1 k_63) rfl rfl rfl (by decide +kernel) ⟨Nat.le_of_ble_eq_true rfl, Nat.le_of_ble_eq_true rfl⟩) (tb_pre hT) rfl rfl hl.1 rfl (lv_room (Nat.le_of_ble_eq_true rfl)) d_S_guessForLow2_68 ⟨Nat.zero_le _, Nat.zero_le _⟩) ?_
    refine lv_ior hx hb d_S_guessForLow2_71 ?_
    exact W.iret hx hb hr (fun t ht _ => ⟨_, rfl, by rw [f_guessForLow2, if_pos c1], ht⟩) (fun q h => nomatch h) d_S_guessForLow2_72
  by_cases c2 : a0 = nI 2
  · refine lv_tableIn (tgt := 73) (off := 57) hx hb d_S_guessForLow2_16 (by rw [c2]; decide +kernel) (by rw [c2]; decide +kernel) (by rw [c2]; decide +kernel) (by decide) ?_
    refine lv_iload_n hx hb d_S_guessForLow2_73 rfl (lv_at hl 1 rfl) ?_
    refine lv_iload_n hx hb d_S_guessForLow2_74 rfl (lv_at hl 3 rfl) ?_
    refine callE (W.runS (As := [.int a1]) (rest := [.int ((f_fieldD a1) <<< ((nI 7) &&& 31))]) ⟨hx, hb, hml, hown, hts⟩ (c_immediateOfI l t a1) (cwS 1 hts (gS k_56 k_57 k_1 k_58) rfl rfl rfl (by decide +kernel) ⟨Nat.le_of_ble_eq_true rfl, Nat.le_of_ble_eq_true rfl⟩) (tb_pre hT) rfl rfl hl.1 rfl (lv_room (Nat.le_of_ble_eq_true rfl)) d_S_guessForLow2_75 ⟨Nat.zero_le _, Nat.zero_le _⟩) ?_
    refine va_gets hx hb (hT 7 _ rfl).1 va_S.rf hown (hts _ (List.mem_cons_of_mem _ k_106)) (fun _ h9 => h9) d_S_guessForLow2_78 ?_
    refine callE (W.runS (As := [.int (f_immediateOfI a1), .ref (t 7)]) (rest := [.int ((f_fieldD a1) <<< ((nI 7) &&& 31))]) ⟨hx, hb, hml, hown, hts⟩ (c_scatter l t 7 rfl (mm := 3) rfl (by decide) (f_immediateOfI a1)) (cwS 2 hts (gS k_61 k_62 k_1 k_63) rfl rfl rfl (by decide +kernel) ⟨Nat.le_of_ble_eq_true rfl, Nat.le_of_ble_eq_true rfl⟩) (tb_pre hT) rfl rfl hl.1 rfl (lv_room (Nat.le_of_ble_eq_true rfl)) d_S_guessForLow2_81 ⟨Nat.zero_le _, Nat.zero_le _⟩) ?_
    refine lv_ior hx hb d_S_guessForLow2_84 ?_
    exact W.iret hx hb hr (fun t ht _ => ⟨_, rfl, by rw [f_guessForLow2, if_neg c1, if_pos c2], ht⟩) (fun q h => nomatch h) d_S_guessForLow2_85
  by_cases c3 : a0 = nI 3
  · refine lv_tableIn (tgt := 60) (off := 44) hx hb d_S_guessForLow2_16 (by rw [c3]; decide +kernel) (by rw [c3]; decide +kernel) (by rw [c3]; decide +kernel) (by decide) ?_
    refine lv_iload_n hx hb d_S_guessForLow2_60 rfl (lv_at hl 1 rfl) ?_
    refine lv_iload_n hx hb d_S_guessForLow2_61 rfl (lv_at hl 3 rfl) ?_
    refine callE (W.runS (As := [.int a1]) (rest := [.int ((f_fieldD a1) <<< ((nI 7) &&& 31))]) ⟨hx, hb, hml, hown, hts⟩ (c_immediateOfI l t a1) (cwS 1 hts (gS k_56 k_57 k_1 k_58) rfl rfl rfl (by decide +kernel) ⟨Nat.le_of_ble_eq_true rfl, Nat.le_of_ble_eq_true rfl⟩) (tb_pre hT) rfl rfl hl.1 rfl (lv_room (Nat.le_of_ble_eq_true rfl)) d_S_guessForLow2_62 ⟨Nat.zero_le _, Nat.zero_le _⟩) ?_
    refine va_gets hx hb (hT 6 _ rfl).1 va_S.rf hown (hts _ (List.mem_cons_of_mem _ k_104)) (fun _ h9 => h9) d_S_guessForLow2_65 ?_
    refine callE (W.runS (As := [.int (f_immediateOfI a1), .ref (t 6)]) (rest := [.int ((f_fieldD a1) <<< ((nI 7) &&& 31))]) ⟨hx, hb, hml, hown, hts⟩ (c_scatter l t 6 rfl (mm := 3) rfl (by decide) (f_immediateOfI a1)) (cwS 2 hts (gS k_61 k_62 k_1 k_63) rfl rfl rfl (by decide +kernel) ⟨Nat.le_of_ble_eq_true rfl, Nat.le_of_ble_eq_true rfl⟩) (tb_pre hT) rfl rfl hl.1 rfl (lv_room (Nat.le_of_ble_eq_true rfl)) d_S_guessForLow2_68 ⟨Nat.zero_le _, Nat.zero_le _⟩) ?_
    refine lv_ior hx hb d_S_guessForLow2_71 ?_
    exact W.iret hx hb hr (fun t ht _ => ⟨_, rfl, by rw [f_guessForLow2, if_neg c1, if_neg c2, if_pos c3], ht⟩) (fun q h => nomatch h) d_S_guessForLow2_72
  by_cases c4 : a0 = nI 4
  · refine lv_tableIn (tgt := 86) (off := 70) hx hb d_S_guessForLow2_16 (by rw [c4]; decide +kernel) (by rw [c4]; decide +kernel) (by rw [c4]; decide +kernel) (by decide) ?_
    refine lv_iload_n hx hb d_S_guessForLow2_86 rfl (lv_at hl 3 rfl) ?_
    refine callE (W.runS (As := [.int a1]) (rest := []) ⟨hx, hb, hml, hown, hts⟩ (c_fieldC l t a1) (cwS 1 hts (gS k_82 k_83 k_1 k_84) rfl rfl rfl (by decide +kernel) ⟨Nat.le_of_ble_eq_true rfl, Nat.le_of_ble_eq_true rfl⟩) (tb_pre hT) rfl rfl hl.1 rfl (lv_room (Nat.le_of_ble_eq_true rfl)) d_S_guessForLow2_87 ⟨Nat.zero_le _, Nat.zero_le _⟩) ?_
    refine lv_bipush (v := nI 51) hx hb d_S_guessForLow2_90 (by decide) ?_
    refine lv_icmp_ne (tgt := 101) hx hb d_S_guessForLow2_92 (by decide) (fun c5 => ?_) (fun c5 => ?_)
    · refine lv_iload_n hx hb d_S_guessForLow2_101 rfl (lv_at hl 3 rfl) ?_
      refine callE (W.runS (As := [.int a1]) (rest := []) ⟨hx, hb, hml, hown, hts⟩ (c_fieldA l t a1) (cwS 1 hts (gS k_44 k_45 k_1 k_46) rfl rfl rfl (by decide +kernel) ⟨Nat.le_of_ble_eq_true rfl, Nat.le_of_ble_eq_true rfl⟩) (tb_pre hT) rfl rfl hl.1 rfl (lv_room (Nat.le_of_ble_eq_true rfl)) d_S_guessForLow2_102 ⟨Nat.zero_le _, Nat.zero_le _⟩) ?_
      refine lv_bipush (v := nI 7) hx hb d_S_guessForLow2_105 (by decide) ?_
      refine lv_ishl hx hb d_S_guessForLow2_107 ?_
      exact W.iret hx hb hr (fun t ht _ => ⟨_, rfl, by rw [f_guessForLow2, if_neg c1, if_neg c2, if_neg c3, if_pos c4, if_neg c5], ht⟩) (fun q h => nomatch h) d_S_guessForLow2_108
    · refine lv_iload_n hx hb d_S_guessForLow2_95 rfl (lv_at hl 1 rfl) ?_
      refine lv_iload_n hx hb d_S_guessForLow2_96 rfl (lv_at hl 0 rfl) ?_
      refine lv_ior hx hb d_S_guessForLow2_97 ?_
      refine lv_goto (tgt := 108) hx hb d_S_guessForLow2_98 (by decide) ?_
      exact W.iret hx hb hr (fun t ht _ => ⟨_, rfl, by rw [f_guessForLow2, if_neg c1, if_neg c2, if_neg c3, if_pos c4, if_pos c5], ht⟩) (fun q h => nomatch h) d_S_guessForLow2_108
  by_cases c6 : a0 = nI 5
  · refine lv_tableIn (tgt := 109) (off := 93) hx hb d_S_guessForLow2_16 (by rw [c6]; decide +kernel) (by rw [c6]; decide +kernel) (by rw [c6]; decide +kernel) (by decide) ?_
    refine lv_iload_n hx hb d_S_guessForLow2_109 rfl (lv_at hl 0 rfl) ?_
    refine lv_iload_n hx hb d_S_guessForLow2_110 rfl (lv_at hl 3 rfl) ?_
    refine callE (W.runS (As := [.int a1]) (rest := [.int ((f_fieldB a1) <<< ((nI 2) &&& 31))]) ⟨hx, hb, hml, hown, hts⟩ (c_immediateOfS l t a1) (cwS 1 hts (gS k_68 k_69 k_1 k_70) rfl rfl rfl (by decide +kernel) ⟨Nat.le_of_ble_eq_true rfl, Nat.le_of_ble_eq_true rfl⟩) (tb_pre hT) rfl rfl hl.1 rfl (lv_room (Nat.le_of_ble_eq_true rfl)) d_S_guessForLow2_111 ⟨Nat.zero_le _, Nat.zero_le _⟩) ?_
    refine va_gets hx hb (hT 8 _ rfl).1 va_S.rf hown (hts _ (List.mem_cons_of_mem _ k_108)) (fun _ h9 => h9) d_S_guessForLow2_114 ?_
    refine callE (W.runS (As := [.int (f_immediateOfS a1), .ref (t 8)]) (rest := [.int ((f_fieldB a1) <<< ((nI 2) &&& 31))]) ⟨hx, hb, hml, hown, hts⟩ (c_scatter l t 8 rfl (mm := 2) rfl (by decide) (f_immediateOfS a1)) (cwS 2 hts (gS k_61 k_62 k_1 k_63) rfl rfl rfl (by decide +kernel) ⟨Nat.le_of_ble_eq_true rfl, Nat.le_of_ble_eq_true rfl⟩) (tb_pre hT) rfl rfl hl.1 rfl (lv_room (Nat.le_of_ble_eq_true rfl)) d_S_guessForLow2_117 ⟨Nat.zero_le _, Nat.zero_le _⟩) ?_
    refine lv_ior hx hb d_S_guessForLow2_120 ?_
    exact W.iret hx hb hr (fun t ht _ => ⟨_, rfl, by rw [f_guessForLow2, if_neg c1, if_neg c2, if_neg c3, if_neg c4, if_pos c6], ht⟩) (fun q h => nomatch h) d_S_guessForLow2_121
  by_cases c7 : a0 = nI 6
  · refine lv_tableIn (tgt := 122) (off := 106) hx hb d_S_guessForLow2_16 (by rw [c7]; decide +kernel) (by rw [c7]; decide +kernel) (by rw [c7]; decide +kernel) (by decide) ?_
    refine lv_iload_n hx hb d_S_guessForLow2_122 rfl (lv_at hl 0 rfl) ?_
    refine lv_iload_n hx hb d_S_guessForLow2_123 rfl (lv_at hl 3 rfl) ?_
    refine callE (W.runS (As := [.int a1]) (rest := [.int ((f_fieldB a1) <<< ((nI 2) &&& 31))]) ⟨hx, hb, hml, hown, hts⟩ (c_immediateOfS l t a1) (cwS 1 hts (gS k_68 k_69 k_1 k_70) rfl rfl rfl (by decide +kernel) ⟨Nat.le_of_ble_eq_true rfl, Nat.le_of_ble_eq_true rfl⟩) (tb_pre hT) rfl rfl hl.1 rfl (lv_room (Nat.le_of_ble_eq_true rfl)) d_S_guessForLow2_124 ⟨Nat.zero_le _, Nat.zero_le _⟩) ?_
    refine va_gets hx hb (hT 9 _ rfl).1 va_S.rf hown (hts _ (List.mem_cons_of_mem _ k_110)) (fun _ h9 => h9) d_S_guessForLow2_127 ?_
    refine callE (W.runS (As := [.int (f_immediateOfS a1), .ref (t 9)]) (rest := [.int ((f_fieldB a1) <<< ((nI 2) &&& 31))]) ⟨hx, hb, hml, hown, hts⟩ (c_scatter l t 9 rfl (mm := 2) rfl (by decide) (f_immediateOfS a1)) (cwS 2 hts (gS k_61 k_62 k_1 k_63) rfl rfl rfl (by decide +kernel) ⟨Nat.le_of_ble_eq_true rfl, Nat.le_of_ble_eq_true rfl⟩) (tb_pre hT) rfl rfl hl.1 rfl (lv_room (Nat.le_of_ble_eq_true rfl)) d_S_guessForLow2_130 ⟨Nat.zero_le _, Nat.zero_le _⟩) ?_
    refine lv_ior hx hb d_S_guessForLow2_133 ?_
    exact W.iret hx hb hr (fun t ht _ => ⟨_, rfl, by rw [f_guessForLow2, if_neg c1, if_neg c2, if_neg c3, if_neg c4, if_neg c6, if_pos c7], ht⟩) (fun q h => nomatch h) d_S_guessForLow2_134
  by_cases c8 : a0 = nI 7
  · refine lv_tableIn (tgt := 109) (off := 93) hx hb d_S_guessForLow2_16 (by rw [c8]; decide +kernel) (by rw [c8]; decide +kernel) (by rw [c8]; decide +kernel) (by decide) ?_
    refine lv_iload_n hx hb d_S_guessForLow2_109 rfl (lv_at hl 0 rfl) ?_
    refine lv_iload_n hx hb d_S_guessForLow2_110 rfl (lv_at hl 3 rfl) ?_
    refine callE (W.runS (As := [.int a1]) (rest := [.int ((f_fieldB a1) <<< ((nI 2) &&& 31))]) ⟨hx, hb, hml, hown, hts⟩ (c_immediateOfS l t a1) (cwS 1 hts (gS k_68 k_69 k_1 k_70) rfl rfl rfl (by decide +kernel) ⟨Nat.le_of_ble_eq_true rfl, Nat.le_of_ble_eq_true rfl⟩) (tb_pre hT) rfl rfl hl.1 rfl (lv_room (Nat.le_of_ble_eq_true rfl)) d_S_guessForLow2_111 ⟨Nat.zero_le _, Nat.zero_le _⟩) ?_
    refine va_gets hx hb (hT 8 _ rfl).1 va_S.rf hown (hts _ (List.mem_cons_of_mem _ k_108)) (fun _ h9 => h9) d_S_guessForLow2_114 ?_
    refine callE (W.runS (As := [.int (f_immediateOfS a1), .ref (t 8)]) (rest := [.int ((f_fieldB a1) <<< ((nI 2) &&& 31))]) ⟨hx, hb, hml, hown, hts⟩ (c_scatter l t 8 rfl (mm := 2) rfl (by decide) (f_immediateOfS a1)) (cwS 2 hts (gS k_61 k_62 k_1 k_63) rfl rfl rfl (by decide +kernel) ⟨Nat.le_of_ble_eq_true rfl, Nat.le_of_ble_eq_true rfl⟩) (tb_pre hT) rfl rfl hl.1 rfl (lv_room (Nat.le_of_ble_eq_true rfl)) d_S_guessForLow2_117 ⟨Nat.zero_le _, Nat.zero_le _⟩) ?_
    refine lv_ior hx hb d_S_guessForLow2_120 ?_
    exact W.iret hx hb hr (fun t ht _ => ⟨_, rfl, by rw [f_guessForLow2, if_neg c1, if_neg c2, if_neg c3, if_neg c4, if_neg c6, if_neg c7, if_pos c8], ht⟩) (fun q h => nomatch h) d_S_guessForLow2_121
  have c1z := lv_neT (a := 1) c1 (by decide)
  have c2z := lv_neT (a := 2) c2 (by decide)
  have c3z := lv_neT (a := 3) c3 (by decide)
  have c4z := lv_neT (a := 4) c4 (by decide)
  have c6z := lv_neT (a := 5) c6 (by decide)
  have c7z := lv_neT (a := 6) c7 (by decide)
  have c8z := lv_neT (a := 7) c8 (by decide)
  refine lv_tableOut (tgt := 135) hx hb d_S_guessForLow2_16 (by omega) (by decide) ?_
  refine lv_iload_n hx hb d_S_guessForLow2_135 rfl (lv_at hl 1 rfl) ?_
  refine lv_iload_n hx hb d_S_guessForLow2_136 rfl (lv_at hl 0 rfl) ?_
  refine lv_ior hx hb d_S_guessForLow2_137 ?_
  exact W.iret hx hb hr (fun t ht _ => ⟨_, rfl, by rw [f_guessForLow2, if_neg c1, if_neg c2, if_neg c3, if_neg c4, if_neg c6, if_neg c7, if_neg c8], ht⟩) (fun q h => nomatch h) d_S_guessForLow2_138
