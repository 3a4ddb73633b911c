set_option maxHeartbeats 40000000 in
set_option maxRecDepth 100000 in
theorem c_formB (l : Launch) (t : Nat → Nat) (a0 a1 a2 a3 : Int32) : Met l y_S_formB w_S_formB { frames := 1, cells := 0, slots := 0, locals := 25 } (va_Pc [.int a0, .int a1, .int a2, .int a3] (tb t)) (vp_Si (fun r => r = f_formB a0 a1 a2 a3)) 0 0 (fun _ => False) := by
  refine Met.ofW (cc := b_S_formB) (maxL := 6) (ret := (some .int)) (by decide) rfl ?_
  intro p e s m args below meth c s₁ B hml hv
  obtain ⟨rfl, hT⟩ := hv
  have hx := B.exec
  have hb := B.bytes
  have hr := B.returns
  have hts := atoms_spec (ws := w_S_formB) B.pre
  have hown : s.vm.findClass R_S = some m.cls := findClass_of_methodNamed B.named
  have hlocks := B.notSynchronized
  have hl := lv_entry ([.int a0, .int a1, .int a2, .int a3]) (n := 6) (Nat.le_of_ble_eq_true rfl)
  rw [lg_entry_eq]
  generalize (lg_sl ([.int a0, .int a1, .int a2, .int a3]) ++ List.replicate (6 - (lg_sl ([.int a0, .int a1, .int a2, .int a3])).length) Slot.unset).toArray = ls at hl ⊢
  have hl : lv_has ls 6 [(0, .int a0), (1, .int a1), (2, .int a2), (3, .int a3)] := hl
  refine lv_iload_n hx hb d_S_formB_0 rfl (lv_at hl 3 rfl) ?_
  refine lv_iconst (v := nI 4) hx hb d_S_formB_1 (by decide) ?_
  refine lv_iconst (v := nI 1) hx hb d_S_formB_2 (by decide) ?_
  refine callE (W.runS (As := [.int a3, .int (nI 4), .int (nI 1)]) (rest := []) ⟨hx, hb, hml, hown, hts⟩ (c_bits l t a3 (nI 4) (nI 1)) (cwS 3 hts (gS k_47 k_48 k_1 k_49) rfl rfl rfl (by decide +kernel) ⟨Nat.le_of_ble_eq_true rfl, Nat.le_of_ble_eq_true rfl⟩) (tb_pre hT) rfl rfl hl.1 rfl (lv_room (Nat.le_of_ble_eq_true rfl)) d_S_formB_3 ⟨Nat.zero_le _, Nat.zero_le _⟩) ?_
  refine lv_iconst (v := nI 1) hx hb d_S_formB_6 (by decide) ?_
  refine lv_ishl hx hb d_S_formB_7 ?_
  refine lv_iload_n hx hb d_S_formB_8 rfl (lv_at hl 3 rfl) ?_
  refine lv_bipush (v := nI 11) hx hb d_S_formB_9 (by decide) ?_
  refine lv_bipush (v := nI 11) hx hb d_S_formB_11 (by decide) ?_
  refine callE (W.runS (As := [.int a3, .int (nI 11), .int (nI 11)]) (rest := [.int ((f_bits a3 (nI 4) (nI 1)) <<< ((nI 1) &&& 31))]) ⟨hx, hb, hml, hown, hts⟩ (c_bits l t a3 (nI 11) (nI 11)) (cwS 3 hts (gS k_47 k_48 k_1 k_49) rfl rfl rfl (by decide +kernel) ⟨Nat.le_of_ble_eq_true rfl, Nat.le_of_ble_eq_true rfl⟩) (tb_pre hT) rfl rfl hl.1 rfl (lv_room (Nat.le_of_ble_eq_true rfl)) d_S_formB_13 ⟨Nat.zero_le _, Nat.zero_le _⟩) ?_
  refine lv_ior hx hb d_S_formB_16 ?_
  refine lv_istore (lv' := [(4, .int (((f_bits a3 (nI 4) (nI 1)) <<< ((nI 1) &&& 31)) ||| (f_bits a3 (nI 11) (nI 11)))), (0, .int a0), (1, .int a1), (2, .int a2), (3, .int a3)]) hx hb d_S_formB_17 hl (by decide) rfl (fun ls hl => ?_)
  refine lv_iload_n hx hb d_S_formB_19 rfl (lv_at hl 4 rfl) ?_
  refine lv_bipush (v := nI 12) hx hb d_S_formB_20 (by decide) ?_
  refine lv_bipush (v := nI 12) hx hb d_S_formB_22 (by decide) ?_
  refine callE (W.runS (As := [.int a3, .int (nI 12), .int (nI 12)]) (rest := []) ⟨hx, hb, hml, hown, hts⟩ (c_bits l t a3 (nI 12) (nI 12)) (cwS 3 hts (gS k_47 k_48 k_1 k_49) rfl rfl rfl (by decide +kernel) ⟨Nat.le_of_ble_eq_true rfl, Nat.le_of_ble_eq_true rfl⟩) (tb_pre hT) rfl rfl hl.1 rfl (lv_room (Nat.le_of_ble_eq_true rfl)) d_S_formB_24 ⟨Nat.zero_le _, Nat.zero_le _⟩) ?_
  refine lv_bipush (v := nI 6) hx hb d_S_formB_27 (by decide) ?_
  refine lv_ishl hx hb d_S_formB_29 ?_
  refine lv_iload_n hx hb d_S_formB_30 rfl (lv_at hl 4 rfl) ?_
  refine lv_bipush (v := nI 10) hx hb d_S_formB_31 (by decide) ?_
  refine lv_iconst (v := nI 5) hx hb d_S_formB_33 (by decide) ?_
  refine callE (W.runS (As := [.int a3, .int (nI 10), .int (nI 5)]) (rest := [.int ((f_bits a3 (nI 12) (nI 12)) <<< ((nI 6) &&& 31))]) ⟨hx, hb, hml, hown, hts⟩ (c_bits l t a3 (nI 10) (nI 5)) (cwS 3 hts (gS k_47 k_48 k_1 k_49) rfl rfl rfl (by decide +kernel) ⟨Nat.le_of_ble_eq_true rfl, Nat.le_of_ble_eq_true rfl⟩) (tb_pre hT) rfl rfl hl.1 rfl (lv_room (Nat.le_of_ble_eq_true rfl)) d_S_formB_34 ⟨Nat.zero_le _, Nat.zero_le _⟩) ?_
  refine lv_ior hx hb d_S_formB_37 ?_
  refine lv_istore (lv' := [(5, .int (((f_bits a3 (nI 12) (nI 12)) <<< ((nI 6) &&& 31)) ||| (f_bits a3 (nI 10) (nI 5)))), (4, .int (((f_bits a3 (nI 4) (nI 1)) <<< ((nI 1) &&& 31)) ||| (f_bits a3 (nI 11) (nI 11)))), (0, .int a0), (1, .int a1), (2, .int a2), (3, .int a3)]) hx hb d_S_formB_38 hl (by decide) rfl (fun ls hl => ?_)
  refine lv_bipush (v := nI 99) hx hb d_S_formB_40 (by decide) ?_
  refine lv_iload hx hb d_S_formB_42 (lv_at hl 1 rfl) ?_
  refine lv_iload_n hx hb d_S_formB_44 rfl (lv_at hl 2 rfl) ?_
  refine lv_iload_n hx hb d_S_formB_45 rfl (lv_at hl 3 rfl) ?_
  refine lv_iload_n hx hb d_S_formB_46 rfl (lv_at hl 4 rfl) ?_
  refine lv_iload hx hb d_S_formB_47 (lv_at hl 0 rfl) ?_
  refine callE (W.runS (As := [.int (nI 99), .int (((f_bits a3 (nI 4) (nI 1)) <<< ((nI 1) &&& 31)) ||| (f_bits a3 (nI 11) (nI 11))), .int a0, .int a1, .int a2, .int (((f_bits a3 (nI 12) (nI 12)) <<< ((nI 6) &&& 31)) ||| (f_bits a3 (nI 10) (nI 5)))]) (rest := []) ⟨hx, hb, hml, hown, hts⟩ (c_formR l t (nI 99) (((f_bits a3 (nI 4) (nI 1)) <<< ((nI 1) &&& 31)) ||| (f_bits a3 (nI 11) (nI 11))) a0 a1 a2 (((f_bits a3 (nI 12) (nI 12)) <<< ((nI 6) &&& 31)) ||| (f_bits a3 (nI 10) (nI 5)))) (cwS 6 hts (gS k_130 k_131 k_1 k_132) rfl rfl rfl (by decide +kernel) ⟨Nat.le_of_ble_eq_true rfl, Nat.le_of_ble_eq_true rfl⟩) (tb_pre hT) rfl rfl hl.1 rfl (lv_room (Nat.le_of_ble_eq_true rfl)) d_S_formB_49 ⟨Nat.zero_le _, Nat.zero_le _⟩) ?_
  exact W.iret hx hb hr (fun t ht _ => ⟨_, rfl, by rw [f_formB], ht⟩) (fun q h => nomatch h) d_S_formB_52
set_option maxHeartbeats 40000000 in
set_option maxRecDepth 100000 in
theorem c_wordForLow1 (l : Launch) (t : Nat → Nat) (a0 : Int32) : Met l y_S_wordForLow1 w_S_wordForLow1 { frames := 3, cells := 0, slots := 0, locals := 68 } (va_Pc [.int a0] (tb t)) (vp_Si (fun r => r = f_wordForLow1 a0)) 0 0 (fun _ => False) := by
  refine Met.ofW (cc := b_S_wordForLow1) (maxL := 4) (ret := (some .int)) (by decide) rfl ?_
  intro p e s m args below meth c s₁ B hml hv
  obtain ⟨rfl, hT⟩ := hv
  have hx := B.exec
  have hb := B.bytes
  have hr := B.returns
  have hts := atoms_spec (ws := w_S_wordForLow1) B.pre
  have hown : s.vm.findClass R_S = some m.cls := findClass_of_methodNamed B.named
  have hlocks := B.notSynchronized
  have hl := lv_entry ([.int a0]) (n := 4) (Nat.le_of_ble_eq_true rfl)
  rw [lg_entry_eq]
  generalize (lg_sl ([.int a0]) ++ List.replicate (4 - (lg_sl ([.int a0])).length) Slot.unset).toArray = ls at hl ⊢
  have hl : lv_has ls 4 [(0, .int a0)] := hl
  refine lv_iload_n hx hb d_S_wordForLow1_0 rfl (lv_at hl 0 rfl) ?_
  refine lv_bipush (v := nI 11) hx hb d_S_wordForLow1_1 (by decide) ?_
  refine lv_bipush (v := nI 7) hx hb d_S_wordForLow1_3 (by decide) ?_
  refine callE (W.runS (As := [.int a0, .int (nI 11), .int (nI 7)]) (rest := []) ⟨hx, hb, hml, hown, hts⟩ (c_bits l t a0 (nI 11) (nI 7)) (cwS 3 hts (gS k_47 k_48 k_1 k_49) rfl rfl rfl (by decide +kernel) ⟨Nat.le_of_ble_eq_true rfl, Nat.le_of_ble_eq_true rfl⟩) (tb_pre hT) rfl rfl hl.1 rfl (lv_room (Nat.le_of_ble_eq_true rfl)) d_S_wordForLow1_5 ⟨Nat.zero_le _, Nat.zero_le _⟩) ?_
  refine lv_istore_n (lv' := [(1, .int (f_bits a0 (nI 11) (nI 7))), (0, .int a0)]) hx hb d_S_wordForLow1_8 rfl hl (by decide) rfl (fun ls hl => ?_)
  refine lv_bipush (v := nI 8) hx hb d_S_wordForLow1_9 (by decide) ?_
  refine lv_iload_n hx hb d_S_wordForLow1_11 rfl (lv_at hl 1 rfl) ?_
  refine lv_bipush (v := nI 9) hx hb d_S_wordForLow1_12 (by decide) ?_
  refine lv_bipush (v := nI 7) hx hb d_S_wordForLow1_14 (by decide) ?_
  refine callE (W.runS (As := [.int a0, .int (nI 9), .int (nI 7)]) (rest := [.int (nI 8)]) ⟨hx, hb, hml, hown, hts⟩ (c_bits l t a0 (nI 9) (nI 7)) (cwS 3 hts (gS k_47 k_48 k_1 k_49) rfl rfl rfl (by decide +kernel) ⟨Nat.le_of_ble_eq_true rfl, Nat.le_of_ble_eq_true rfl⟩) (tb_pre hT) rfl rfl hl.1 rfl (lv_room (Nat.le_of_ble_eq_true rfl)) d_S_wordForLow1_16 ⟨Nat.zero_le _, Nat.zero_le _⟩) ?_
  refine lv_iadd hx hb d_S_wordForLow1_19 ?_
  refine lv_istore_n (lv' := [(2, .int ((nI 8) + (f_bits a0 (nI 9) (nI 7)))), (1, .int (f_bits a0 (nI 11) (nI 7))), (0, .int a0)]) hx hb d_S_wordForLow1_20 rfl hl (by decide) rfl (fun ls hl => ?_)
  refine lv_iload_n hx hb d_S_wordForLow1_21 rfl (lv_at hl 2 rfl) ?_
  refine callE (W.runS (As := [.int a0]) (rest := []) ⟨hx, hb, hml, hown, hts⟩ (c_signedImmediate l t a0) (cwS 1 hts (gS k_136 k_137 k_1 k_138) rfl rfl rfl (by decide +kernel) ⟨Nat.le_of_ble_eq_true rfl, Nat.le_of_ble_eq_true rfl⟩) (tb_pre hT) rfl rfl hl.1 rfl (lv_room (Nat.le_of_ble_eq_true rfl)) d_S_wordForLow1_22 ⟨Nat.zero_le _, Nat.zero_le _⟩) ?_
  refine lv_istore_n (lv' := [(3, .int (f_signedImmediate a0)), (2, .int ((nI 8) + (f_bits a0 (nI 9) (nI 7)))), (1, .int (f_bits a0 (nI 11) (nI 7))), (0, .int a0)]) hx hb d_S_wordForLow1_25 rfl hl (by decide) rfl (fun ls hl => ?_)
  refine lv_iload_n hx hb d_S_wordForLow1_26 rfl (lv_at hl 3 rfl) ?_
  refine lv_bipush (v := nI 15) hx hb d_S_wordForLow1_27 (by decide) ?_
  refine lv_bipush (v := nI 13) hx hb d_S_wordForLow1_29 (by decide) ?_
  refine callE (W.runS (As := [.int a0, .int (nI 15), .int (nI 13)]) (rest := []) ⟨hx, hb, hml, hown, hts⟩ (c_bits l t a0 (nI 15) (nI 13)) (cwS 3 hts (gS k_47 k_48 k_1 k_49) rfl rfl rfl (by decide +kernel) ⟨Nat.le_of_ble_eq_true rfl, Nat.le_of_ble_eq_true rfl⟩) (tb_pre hT) rfl rfl hl.1 rfl (lv_room (Nat.le_of_ble_eq_true rfl)) d_S_wordForLow1_31 ⟨Nat.zero_le _, Nat.zero_le _⟩) ?_
  by_cases c1 : (f_bits a0 (nI 15) (nI 13)) = nI 0
  · refine lv_tableIn (tgt := 76) (off := 42) hx hb d_S_wordForLow1_34 (by rw [c1]; decide +kernel) (by rw [c1]; decide +kernel) (by rw [c1]; decide +kernel) (by decide) ?_
    refine lv_bipush (v := nI 19) hx hb d_S_wordForLow1_76 (by decide) ?_
    refine lv_iload_n hx hb d_S_wordForLow1_78 rfl (lv_at hl 2 rfl) ?_
    refine lv_iconst (v := nI 0) hx hb d_S_wordForLow1_79 (by decide) ?_
    refine lv_iload_n hx hb d_S_wordForLow1_80 rfl (lv_at hl 2 rfl) ?_
    refine lv_iload_n hx hb d_S_wordForLow1_81 rfl (lv_at hl 0 rfl) ?_
    refine callE (W.runS (As := [.int (nI 19), .int (f_bits a0 (nI 11) (nI 7)), .int (nI 0), .int (f_bits a0 (nI 11) (nI 7)), .int (f_signedImmediate a0)]) (rest := []) ⟨hx, hb, hml, hown, hts⟩ (c_formI l t (nI 19) (f_bits a0 (nI 11) (nI 7)) (nI 0) (f_bits a0 (nI 11) (nI 7)) (f_signedImmediate a0)) (cwS 5 hts (gS k_124 k_125 k_1 k_126) rfl rfl rfl (by decide +kernel) ⟨Nat.le_of_ble_eq_true rfl, Nat.le_of_ble_eq_true rfl⟩) (tb_pre hT) rfl rfl hl.1 rfl (lv_room (Nat.le_of_ble_eq_true rfl)) d_S_wordForLow1_82 ⟨Nat.zero_le _, Nat.zero_le _⟩) ?_
    exact W.iret hx hb hr (fun t ht _ => ⟨_, rfl, by rw [f_wordForLow1, if_pos c1], ht⟩) (fun q h => nomatch h) d_S_wordForLow1_85
  by_cases c2 : (f_bits a0 (nI 15) (nI 13)) = nI 1
  · refine lv_tableIn (tgt := 86) (off := 52) hx hb d_S_wordForLow1_34 (by rw [c2]; decide +kernel) (by rw [c2]; decide +kernel) (by rw [c2]; decide +kernel) (by decide) ?_
    refine lv_iload_n hx hb d_S_wordForLow1_86 rfl (lv_at hl 2 rfl) ?_
    refine lv_if_ne (tgt := 94) hx hb d_S_wordForLow1_87 (by decide) (fun c3 => ?_) (fun c3 => ?_)
    · refine lv_bipush (v := nI 27) hx hb d_S_wordForLow1_94 (by decide) ?_
      refine lv_iload_n hx hb d_S_wordForLow1_96 rfl (lv_at hl 2 rfl) ?_
      refine lv_iconst (v := nI 0) hx hb d_S_wordForLow1_97 (by decide) ?_
      refine lv_iload_n hx hb d_S_wordForLow1_98 rfl (lv_at hl 2 rfl) ?_
      refine lv_iload_n hx hb d_S_wordForLow1_99 rfl (lv_at hl 0 rfl) ?_
      refine callE (W.runS (As := [.int (nI 27), .int (f_bits a0 (nI 11) (nI 7)), .int (nI 0), .int (f_bits a0 (nI 11) (nI 7)), .int (f_signedImmediate a0)]) (rest := []) ⟨hx, hb, hml, hown, hts⟩ (c_formI l t (nI 27) (f_bits a0 (nI 11) (nI 7)) (nI 0) (f_bits a0 (nI 11) (nI 7)) (f_signedImmediate a0)) (cwS 5 hts (gS k_124 k_125 k_1 k_126) rfl rfl rfl (by decide +kernel) ⟨Nat.le_of_ble_eq_true rfl, Nat.le_of_ble_eq_true rfl⟩) (tb_pre hT) rfl rfl hl.1 rfl (lv_room (Nat.le_of_ble_eq_true rfl)) d_S_wordForLow1_100 ⟨Nat.zero_le _, Nat.zero_le _⟩) ?_
      exact W.iret hx hb hr (fun t ht _ => ⟨_, rfl, by rw [f_wordForLow1, if_neg c1, if_pos c2, if_neg c3], ht⟩) (fun q h => nomatch h) d_S_wordForLow1_103
    · refine lv_iconst (v := nI 0) hx hb d_S_wordForLow1_90 (by decide) ?_
      refine lv_goto (tgt := 103) hx hb d_S_wordForLow1_91 (by decide) ?_
      exact W.iret hx hb hr (fun t ht _ => ⟨_, rfl, by rw [f_wordForLow1, if_neg c1, if_pos c2, if_pos c3], ht⟩) (fun q h => nomatch h) d_S_wordForLow1_103
  by_cases c4 : (f_bits a0 (nI 15) (nI 13)) = nI 2
  · refine lv_tableIn (tgt := 104) (off := 70) hx hb d_S_wordForLow1_34 (by rw [c4]; decide +kernel) (by rw [c4]; decide +kernel) (by rw [c4]; decide +kernel) (by decide) ?_
    refine lv_bipush (v := nI 19) hx hb d_S_wordForLow1_104 (by decide) ?_
    refine lv_iload_n hx hb d_S_wordForLow1_106 rfl (lv_at hl 2 rfl) ?_
    refine lv_iconst (v := nI 0) hx hb d_S_wordForLow1_107 (by decide) ?_
    refine lv_iconst (v := nI 0) hx hb d_S_wordForLow1_108 (by decide) ?_
    refine lv_iload_n hx hb d_S_wordForLow1_109 rfl (lv_at hl 0 rfl) ?_
    refine callE (W.runS (As := [.int (nI 19), .int (f_bits a0 (nI 11) (nI 7)), .int (nI 0), .int (nI 0), .int (f_signedImmediate a0)]) (rest := []) ⟨hx, hb, hml, hown, hts⟩ (c_formI l t (nI 19) (f_bits a0 (nI 11) (nI 7)) (nI 0) (nI 0) (f_signedImmediate a0)) (cwS 5 hts (gS k_124 k_125 k_1 k_126) rfl rfl rfl (by decide +kernel) ⟨Nat.le_of_ble_eq_true rfl, Nat.le_of_ble_eq_true rfl⟩) (tb_pre hT) rfl rfl hl.1 rfl (lv_room (Nat.le_of_ble_eq_true rfl)) d_S_wordForLow1_110 ⟨Nat.zero_le _, Nat.zero_le _⟩) ?_
    exact W.iret hx hb hr (fun t ht _ => ⟨_, rfl, by rw [f_wordForLow1, if_neg c1, if_neg c2, if_pos c4], ht⟩) (fun q h => nomatch h) d_S_wordForLow1_113
  by_cases c5 : (f_bits a0 (nI 15) (nI 13)) = nI 3
  · refine lv_tableIn (tgt := 114) (off := 80) hx hb d_S_wordForLow1_34 (by rw [c5]; decide +kernel) (by rw [c5]; decide +kernel) (by rw [c5]; decide +kernel) (by decide) ?_
    refine lv_iload_n hx hb d_S_wordForLow1_114 rfl (lv_at hl 2 rfl) ?_
    refine lv_iconst (v := nI 2) hx hb d_S_wordForLow1_115 (by decide) ?_
    refine lv_icmp_ne (tgt := 137) hx hb d_S_wordForLow1_116 (by decide) (fun c6 => ?_) (fun c6 => ?_)
    · refine lv_iload_n hx hb d_S_wordForLow1_137 rfl (lv_at hl 2 rfl) ?_
      refine lv_iload_n hx hb d_S_wordForLow1_138 rfl (lv_at hl 0 rfl) ?_
      refine callE (W.runS (As := [.int (f_bits a0 (nI 11) (nI 7)), .int (f_signedImmediate a0)]) (rest := []) ⟨hx, hb, hml, hown, hts⟩ (c_wordForUpper l t (f_bits a0 (nI 11) (nI 7)) (f_signedImmediate a0)) (cwS 2 hts (gS k_145 k_146 k_1 k_147) rfl rfl rfl (by decide +kernel) ⟨Nat.le_of_ble_eq_true rfl, Nat.le_of_ble_eq_true rfl⟩) (tb_pre hT) rfl rfl hl.1 rfl (lv_room (Nat.le_of_ble_eq_true rfl)) d_S_wordForLow1_139 ⟨Nat.zero_le _, Nat.zero_le _⟩) ?_
      exact W.iret hx hb hr (fun t ht _ => ⟨_, rfl, by rw [f_wordForLow1, if_neg c1, if_neg c2, if_neg c4, if_pos c5, if_neg c6], ht⟩) (fun q h => nomatch h) d_S_wordForLow1_142
    · refine lv_iload_n hx hb d_S_wordForLow1_119 rfl (lv_at hl 3 rfl) ?_
      refine va_gets hx hb (hT 3 _ rfl).1 va_S.rf hown (hts _ (List.mem_cons_of_mem _ k_77)) (fun _ h9 => h9) d_S_wordForLow1_120 ?_
      refine callE (W.runS (As := [.int a0, .ref (t 3)]) (rest := []) ⟨hx, hb, hml, hown, hts⟩ (c_gather l t 3 rfl (mm := 5) rfl (by decide) a0) (cwS 2 hts (gS k_118 k_119 k_1 k_120) rfl rfl rfl (by decide +kernel) ⟨Nat.le_of_ble_eq_true rfl, Nat.le_of_ble_eq_true rfl⟩) (tb_pre hT) rfl rfl hl.1 rfl (lv_room (Nat.le_of_ble_eq_true rfl)) d_S_wordForLow1_123 ⟨Nat.zero_le _, Nat.zero_le _⟩) ?_
      refine lv_bipush (v := nI 9) hx hb d_S_wordForLow1_126 (by decide) ?_
      refine callE (W.runS (As := [.int (f_gather row3 (nI 0) a0), .int (nI 9)]) (rest := []) ⟨hx, hb, hml, hown, hts⟩ (c_withSign l t (f_gather row3 (nI 0) a0) (nI 9)) (cwS 2 hts (gS k_139 k_140 k_1 k_141) rfl rfl rfl (by decide +kernel) ⟨Nat.le_of_ble_eq_true rfl, Nat.le_of_ble_eq_true rfl⟩) (tb_pre hT) rfl rfl hl.1 rfl (lv_room (Nat.le_of_ble_eq_true rfl)) d_S_wordForLow1_128 ⟨Nat.zero_le _, Nat.zero_le _⟩) ?_
      refine callE (W.runS (As := [.int (f_withSign (f_gather row3 (nI 0) a0) (nI 9))]) (rest := []) ⟨hx, hb, hml, hown, hts⟩ (c_wordForMoveStack l t (f_withSign (f_gather row3 (nI 0) a0) (nI 9))) (cwS 1 hts (gS k_142 k_143 k_1 k_144) rfl rfl rfl (by decide +kernel) ⟨Nat.le_of_ble_eq_true rfl, Nat.le_of_ble_eq_true rfl⟩) (tb_pre hT) rfl rfl hl.1 rfl (lv_room (Nat.le_of_ble_eq_true rfl)) d_S_wordForLow1_131 ⟨Nat.zero_le _, Nat.zero_le _⟩) ?_
      refine lv_goto (tgt := 142) hx hb d_S_wordForLow1_134 (by decide) ?_
      exact W.iret hx hb hr (fun t ht _ => ⟨_, rfl, by rw [f_wordForLow1, if_neg c1, if_neg c2, if_neg c4, if_pos c5, if_pos c6], ht⟩) (fun q h => nomatch h) d_S_wordForLow1_142
  by_cases c7 : (f_bits a0 (nI 15) (nI 13)) = nI 4
  · refine lv_tableIn (tgt := 143) (off := 109) hx hb d_S_wordForLow1_34 (by rw [c7]; decide +kernel) (by rw [c7]; decide +kernel) (by rw [c7]; decide +kernel) (by decide) ?_
    refine lv_iload_n hx hb d_S_wordForLow1_143 rfl (lv_at hl 3 rfl) ?_
    refine callE (W.runS (As := [.int a0]) (rest := []) ⟨hx, hb, hml, hown, hts⟩ (c_wordForArithmetic l t a0) (cwS 1 hts (gS k_151 k_152 k_1 k_153) rfl rfl rfl (by decide +kernel) ⟨Nat.le_of_ble_eq_true rfl, Nat.le_of_ble_eq_true rfl⟩) (tb_pre hT) rfl rfl hl.1 rfl (lv_room (Nat.le_of_ble_eq_true rfl)) d_S_wordForLow1_144 ⟨Nat.zero_le _, Nat.zero_le _⟩) ?_
    exact W.iret hx hb hr (fun t ht _ => ⟨_, rfl, by rw [f_wordForLow1, if_neg c1, if_neg c2, if_neg c4, if_neg c5, if_pos c7], ht⟩) (fun q h => nomatch h) d_S_wordForLow1_147
  by_cases c8 : (f_bits a0 (nI 15) (nI 13)) = nI 5
  · refine lv_tableIn (tgt := 148) (off := 114) hx hb d_S_wordForLow1_34 (by rw [c8]; decide +kernel) (by rw [c8]; decide +kernel) (by rw [c8]; decide +kernel) (by decide) ?_
    refine lv_iconst (v := nI 0) hx hb d_S_wordForLow1_148 (by decide) ?_
    refine lv_iload_n hx hb d_S_wordForLow1_149 rfl (lv_at hl 3 rfl) ?_
    refine va_gets hx hb (hT 4 _ rfl).1 va_S.rf hown (hts _ (List.mem_cons_of_mem _ k_94)) (fun _ h9 => h9) d_S_wordForLow1_150 ?_
    refine callE (W.runS (As := [.int a0, .ref (t 4)]) (rest := [.int (nI 0)]) ⟨hx, hb, hml, hown, hts⟩ (c_gather l t 4 rfl (mm := 8) rfl (by decide) a0) (cwS 2 hts (gS k_118 k_119 k_1 k_120) rfl rfl rfl (by decide +kernel) ⟨Nat.le_of_ble_eq_true rfl, Nat.le_of_ble_eq_true rfl⟩) (tb_pre hT) rfl rfl hl.1 rfl (lv_room (Nat.le_of_ble_eq_true rfl)) d_S_wordForLow1_153 ⟨Nat.zero_le _, Nat.zero_le _⟩) ?_
    refine lv_bipush (v := nI 11) hx hb d_S_wordForLow1_156 (by decide) ?_
    refine callE (W.runS (As := [.int (f_gather row4 (nI 0) a0), .int (nI 11)]) (rest := [.int (nI 0)]) ⟨hx, hb, hml, hown, hts⟩ (c_withSign l t (f_gather row4 (nI 0) a0) (nI 11)) (cwS 2 hts (gS k_139 k_140 k_1 k_141) rfl rfl rfl (by decide +kernel) ⟨Nat.le_of_ble_eq_true rfl, Nat.le_of_ble_eq_true rfl⟩) (tb_pre hT) rfl rfl hl.1 rfl (lv_room (Nat.le_of_ble_eq_true rfl)) d_S_wordForLow1_158 ⟨Nat.zero_le _, Nat.zero_le _⟩) ?_
    refine callE (W.runS (As := [.int (nI 0), .int (f_withSign (f_gather row4 (nI 0) a0) (nI 11))]) (rest := []) ⟨hx, hb, hml, hown, hts⟩ (c_formJ l t (nI 0) (f_withSign (f_gather row4 (nI 0) a0) (nI 11))) (cwS 2 hts (gS k_160 k_161 k_1 k_162) rfl rfl rfl (by decide +kernel) ⟨Nat.le_of_ble_eq_true rfl, Nat.le_of_ble_eq_true rfl⟩) (tb_pre hT) rfl rfl hl.1 rfl (lv_room (Nat.le_of_ble_eq_true rfl)) d_S_wordForLow1_161 ⟨Nat.zero_le _, Nat.zero_le _⟩) ?_
    exact W.iret hx hb hr (fun t ht _ => ⟨_, rfl, by rw [f_wordForLow1, if_neg c1, if_neg c2, if_neg c4, if_neg c5, if_neg c7, if_pos c8], ht⟩) (fun q h => nomatch h) d_S_wordForLow1_164
  by_cases c9 : (f_bits a0 (nI 15) (nI 13)) = nI 6
  · refine lv_tableIn (tgt := 165) (off := 131) hx hb d_S_wordForLow1_34 (by rw [c9]; decide +kernel) (by rw [c9]; decide +kernel) (by rw [c9]; decide +kernel) (by decide) ?_
    refine lv_iconst (v := nI 0) hx hb d_S_wordForLow1_165 (by decide) ?_
    refine lv_iload_n hx hb d_S_wordForLow1_166 rfl (lv_at hl 1 rfl) ?_
    refine lv_iconst (v := nI 0) hx hb d_S_wordForLow1_167 (by decide) ?_
    refine lv_iload_n hx hb d_S_wordForLow1_168 rfl (lv_at hl 3 rfl) ?_
    refine va_gets hx hb (hT 5 _ rfl).1 va_S.rf hown (hts _ (List.mem_cons_of_mem _ k_99)) (fun _ h9 => h9) d_S_wordForLow1_169 ?_
    refine callE (W.runS (As := [.int a0, .ref (t 5)]) (rest := [.int (nI 0), .int ((nI 8) + (f_bits a0 (nI 9) (nI 7))), .int (nI 0)]) ⟨hx, hb, hml, hown, hts⟩ (c_gather l t 5 rfl (mm := 5) rfl (by decide) a0) (cwS 2 hts (gS k_118 k_119 k_1 k_120) rfl rfl rfl (by decide +kernel) ⟨Nat.le_of_ble_eq_true rfl, Nat.le_of_ble_eq_true rfl⟩) (tb_pre hT) rfl rfl hl.1 rfl (lv_room (Nat.le_of_ble_eq_true rfl)) d_S_wordForLow1_172 ⟨Nat.zero_le _, Nat.zero_le _⟩) ?_
    refine lv_bipush (v := nI 8) hx hb d_S_wordForLow1_175 (by decide) ?_
    refine callE (W.runS (As := [.int (f_gather row5 (nI 0) a0), .int (nI 8)]) (rest := [.int (nI 0), .int ((nI 8) + (f_bits a0 (nI 9) (nI 7))), .int (nI 0)]) ⟨hx, hb, hml, hown, hts⟩ (c_withSign l t (f_gather row5 (nI 0) a0) (nI 8)) (cwS 2 hts (gS k_139 k_140 k_1 k_141) rfl rfl rfl (by decide +kernel) ⟨Nat.le_of_ble_eq_true rfl, Nat.le_of_ble_eq_true rfl⟩) (tb_pre hT) rfl rfl hl.1 rfl (lv_room (Nat.le_of_ble_eq_true rfl)) d_S_wordForLow1_177 ⟨Nat.zero_le _, Nat.zero_le _⟩) ?_
    refine callE (W.runS (As := [.int (nI 0), .int ((nI 8) + (f_bits a0 (nI 9) (nI 7))), .int (nI 0), .int (f_withSign (f_gather row5 (nI 0) a0) (nI 8))]) (rest := []) ⟨hx, hb, hml, hown, hts⟩ (c_formB l t (nI 0) ((nI 8) + (f_bits a0 (nI 9) (nI 7))) (nI 0) (f_withSign (f_gather row5 (nI 0) a0) (nI 8))) (cwS 4 hts (gS k_163 k_164 k_1 k_165) rfl rfl rfl (by decide +kernel) ⟨Nat.le_of_ble_eq_true rfl, Nat.le_of_ble_eq_true rfl⟩) (tb_pre hT) rfl rfl hl.1 rfl (lv_room (Nat.le_of_ble_eq_true rfl)) d_S_wordForLow1_180 ⟨Nat.zero_le _, Nat.zero_le _⟩) ?_
    exact W.iret hx hb hr (fun t ht _ => ⟨_, rfl, by rw [f_wordForLow1, if_neg c1, if_neg c2, if_neg c4, if_neg c5, if_neg c7, if_neg c8, if_pos c9], ht⟩) (fun q h => nomatch h) d_S_wordForLow1_183
  have c1z := lv_neT (a := 0) c1 (by decide)
  have c2z := lv_neT (a := 1) c2 (by decide)
  have c4z := lv_neT (a := 2) c4 (by decide)
  have c5z := lv_neT (a := 3) c5 (by decide)
  have c7z := lv_neT (a := 4) c7 (by decide)
  have c8z := lv_neT (a := 5) c8 (by decide)
  have c9z := lv_neT (a := 6) c9 (by decide)
  refine lv_tableOut (tgt := 184) hx hb d_S_wordForLow1_34 (by omega) (by decide) ?_
  refine lv_iconst (v := nI 1) hx hb d_S_wordForLow1_184 (by decide) ?_
  refine lv_iload_n hx hb d_S_wordForLow1_185 rfl (lv_at hl 1 rfl) ?_
  refine lv_iconst (v := nI 0) hx hb d_S_wordForLow1_186 (by decide) ?_
  refine lv_iload_n hx hb d_S_wordForLow1_187 rfl (lv_at hl 3 rfl) ?_
  refine va_gets hx hb (hT 5 _ rfl).1 va_S.rf hown (hts _ (List.mem_cons_of_mem _ k_99)) (fun _ h9 => h9) d_S_wordForLow1_188 ?_
  refine callE (W.runS (As := [.int a0, .ref (t 5)]) (rest := [.int (nI 0), .int ((nI 8) + (f_bits a0 (nI 9) (nI 7))), .int (nI 1)]) ⟨hx, hb, hml, hown, hts⟩ (c_gather l t 5 rfl (mm := 5) rfl (by decide) a0) (cwS 2 hts (gS k_118 k_119 k_1 k_120) rfl rfl rfl (by decide +kernel) ⟨Nat.le_of_ble_eq_true rfl, Nat.le_of_ble_eq_true rfl⟩) (tb_pre hT) rfl rfl hl.1 rfl (lv_room (Nat.le_of_ble_eq_true rfl)) d_S_wordForLow1_191 ⟨Nat.zero_le _, Nat.zero_le _⟩) ?_
  refine lv_bipush (v := nI 8) hx hb d_S_wordForLow1_194 (by decide) ?_
  refine callE (W.runS (As := [.int (f_gather row5 (nI 0) a0), .int (nI 8)]) (rest := [.int (nI 0), .int ((nI 8) + (f_bits a0 (nI 9) (nI 7))), .int (nI 1)]) ⟨hx, hb, hml, hown, hts⟩ (c_withSign l t (f_gather row5 (nI 0) a0) (nI 8)) (cwS 2 hts (gS k_139 k_140 k_1 k_141) rfl rfl rfl (by decide +kernel) ⟨Nat.le_of_ble_eq_true rfl, Nat.le_of_ble_eq_true rfl⟩) (tb_pre hT) rfl rfl hl.1 rfl (lv_room (Nat.le_of_ble_eq_true rfl)) d_S_wordForLow1_196 ⟨Nat.zero_le _, Nat.zero_le _⟩) ?_
  refine callE (W.runS (As := [.int (nI 1), .int ((nI 8) + (f_bits a0 (nI 9) (nI 7))), .int (nI 0), .int (f_withSign (f_gather row5 (nI 0) a0) (nI 8))]) (rest := []) ⟨hx, hb, hml, hown, hts⟩ (c_formB l t (nI 1) ((nI 8) + (f_bits a0 (nI 9) (nI 7))) (nI 0) (f_withSign (f_gather row5 (nI 0) a0) (nI 8))) (cwS 4 hts (gS k_163 k_164 k_1 k_165) rfl rfl rfl (by decide +kernel) ⟨Nat.le_of_ble_eq_true rfl, Nat.le_of_ble_eq_true rfl⟩) (tb_pre hT) rfl rfl hl.1 rfl (lv_room (Nat.le_of_ble_eq_true rfl)) d_S_wordForLow1_199 ⟨Nat.zero_le _, Nat.zero_le _⟩) ?_
  exact W.iret hx hb hr (fun t ht _ => ⟨_, rfl, by rw [f_wordForLow1, if_neg c1, if_neg c2, if_neg c4, if_neg c5, if_neg c7, if_neg c8, if_neg c9], ht⟩) (fun q h => nomatch h) d_S_wordForLow1_202
