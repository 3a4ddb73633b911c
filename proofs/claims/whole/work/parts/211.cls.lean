set_option maxHeartbeats 40000000 in
set_option maxRecDepth 100000 in
theorem c_guessOpenBits (l : Launch) (t : Nat → Nat) (a0 a1 a2 : Int32) : Met l y_S_guessOpenBits w_S_guessOpenBits { frames := 4, cells := 0, slots := 0, locals := 88 } (va_Pc [.int a0, .int a1, .int a2] (tb t)) (vp_Si (fun r => r = f_guessOpenBits a0 a1 a2)) 0 0 (fun _ => False) := by
  refine Met.ofW (cc := b_S_guessOpenBits) (maxL := 3) (ret := (some .int)) (by decide) rfl ?_
  intro p e s m args below meth c s₁ B hml hv
  obtain ⟨rfl, hT⟩ := hv
  have hx := B.exec
  have hb := B.bytes
  have hr := B.returns
  have hts := atoms_spec (ws := w_S_guessOpenBits) B.pre
  have hown : s.vm.findClass R_S = some m.cls := findClass_of_methodNamed B.named
  have hlocks := B.notSynchronized
  have hl := lv_entry ([.int a0, .int a1, .int a2]) (n := 3) (Nat.le_of_ble_eq_true rfl)
  rw [lg_entry_eq]
  generalize (lg_sl ([.int a0, .int a1, .int a2]) ++ List.replicate (3 - (lg_sl ([.int a0, .int a1, .int a2])).length) Slot.unset).toArray = ls at hl ⊢
  have hl : lv_has ls 3 [(0, .int a0), (1, .int a1), (2, .int a2)] := hl
  refine lv_iload_n hx hb d_S_guessOpenBits_0 rfl (lv_at hl 0 rfl) ?_
  by_cases c1 : a0 = nI 0
  · refine lv_tableIn (tgt := 28) (off := 27) hx hb d_S_guessOpenBits_1 (by rw [c1]; decide +kernel) (by rw [c1]; decide +kernel) (by rw [c1]; decide +kernel) (by decide) ?_
    refine lv_iload_n hx hb d_S_guessOpenBits_28 rfl (lv_at hl 1 rfl) ?_
    refine lv_iload_n hx hb d_S_guessOpenBits_29 rfl (lv_at hl 2 rfl) ?_
    refine callE (W.runS (As := [.int a1, .int a2]) (rest := []) ⟨hx, hb, hml, hown, hts⟩ (c_guessForLow0 l t a1 a2) (cwS 2 hts (gS k_41 k_42 k_1 k_43) rfl rfl rfl (by decide +kernel) ⟨Nat.le_of_ble_eq_true rfl, Nat.le_of_ble_eq_true rfl⟩) (tb_pre hT) rfl rfl hl.1 rfl (lv_room (Nat.le_of_ble_eq_true rfl)) d_S_guessOpenBits_30 ⟨Nat.zero_le _, Nat.zero_le _⟩) ?_
    exact W.iret hx hb hr (fun t ht _ => ⟨_, rfl, by rw [f_guessOpenBits, if_pos c1], ht⟩) (fun q h => nomatch h) d_S_guessOpenBits_33
  by_cases c2 : a0 = nI 1
  · refine lv_tableIn (tgt := 34) (off := 33) hx hb d_S_guessOpenBits_1 (by rw [c2]; decide +kernel) (by rw [c2]; decide +kernel) (by rw [c2]; decide +kernel) (by decide) ?_
    refine lv_iload_n hx hb d_S_guessOpenBits_34 rfl (lv_at hl 1 rfl) ?_
    refine lv_iload_n hx hb d_S_guessOpenBits_35 rfl (lv_at hl 2 rfl) ?_
    refine callE (W.runS (As := [.int a1, .int a2]) (rest := []) ⟨hx, hb, hml, hown, hts⟩ (c_guessForLow1 l t a1 a2) (cwS 2 hts (gS k_74 k_75 k_1 k_76) rfl rfl rfl (by decide +kernel) ⟨Nat.le_of_ble_eq_true rfl, Nat.le_of_ble_eq_true rfl⟩) (tb_pre hT) rfl rfl hl.1 rfl (lv_room (Nat.le_of_ble_eq_true rfl)) d_S_guessOpenBits_36 ⟨Nat.zero_le _, Nat.zero_le _⟩) ?_
    exact W.iret hx hb hr (fun t ht _ => ⟨_, rfl, by rw [f_guessOpenBits, if_neg c1, if_pos c2], ht⟩) (fun q h => nomatch h) d_S_guessOpenBits_39
  by_cases c3 : a0 = nI 2
  · refine lv_tableIn (tgt := 40) (off := 39) hx hb d_S_guessOpenBits_1 (by rw [c3]; decide +kernel) (by rw [c3]; decide +kernel) (by rw [c3]; decide +kernel) (by decide) ?_
    refine lv_iload_n hx hb d_S_guessOpenBits_40 rfl (lv_at hl 1 rfl) ?_
    refine lv_iload_n hx hb d_S_guessOpenBits_41 rfl (lv_at hl 2 rfl) ?_
    refine callE (W.runS (As := [.int a1, .int a2]) (rest := []) ⟨hx, hb, hml, hown, hts⟩ (c_guessForLow2 l t a1 a2) (cwS 2 hts (gS k_101 k_102 k_1 k_103) rfl rfl rfl (by decide +kernel) ⟨Nat.le_of_ble_eq_true rfl, Nat.le_of_ble_eq_true rfl⟩) (tb_pre hT) rfl rfl hl.1 rfl (lv_room (Nat.le_of_ble_eq_true rfl)) d_S_guessOpenBits_42 ⟨Nat.zero_le _, Nat.zero_le _⟩) ?_
    exact W.iret hx hb hr (fun t ht _ => ⟨_, rfl, by rw [f_guessOpenBits, if_neg c1, if_neg c2, if_pos c3], ht⟩) (fun q h => nomatch h) d_S_guessOpenBits_45
  have c1z := lv_neT (a := 0) c1 (by decide)
  have c2z := lv_neT (a := 1) c2 (by decide)
  have c3z := lv_neT (a := 2) c3 (by decide)
  refine lv_tableOut (tgt := 46) hx hb d_S_guessOpenBits_1 (by omega) (by decide) ?_
  refine lv_iconst (v := nI 0) hx hb d_S_guessOpenBits_46 (by decide) ?_
  exact W.iret hx hb hr (fun t ht _ => ⟨_, rfl, by rw [f_guessOpenBits, if_neg c1, if_neg c2, if_neg c3], ht⟩) (fun q h => nomatch h) d_S_guessOpenBits_47
set_option maxHeartbeats 40000000 in
set_option maxRecDepth 100000 in
theorem c_halfOfKind (l : Launch) (t : Nat → Nat) (a0 a1 : Int32) : Met l y_S_halfOfKind w_S_halfOfKind { frames := 5, cells := 0, slots := 0, locals := 111 } (va_Pc [.int a0, .int a1] (tb t)) (vp_Si (fun r => r = f_halfOfKind a0 a1)) 0 0 (fun _ => False) := by
  refine Met.ofW (cc := b_S_halfOfKind) (maxL := 5) (ret := (some .int)) (by decide) rfl ?_
  intro p e s m args below meth c s₁ B hml hv
  obtain ⟨rfl, hT⟩ := hv
  have hx := B.exec
  have hb := B.bytes
  have hr := B.returns
  have hts := atoms_spec (ws := w_S_halfOfKind) B.pre
  have hown : s.vm.findClass R_S = some m.cls := findClass_of_methodNamed B.named
  have hlocks := B.notSynchronized
  have hl := lv_entry ([.int a0, .int a1]) (n := 5) (Nat.le_of_ble_eq_true rfl)
  rw [lg_entry_eq]
  generalize (lg_sl ([.int a0, .int a1]) ++ List.replicate (5 - (lg_sl ([.int a0, .int a1])).length) Slot.unset).toArray = ls at hl ⊢
  have hl : lv_has ls 5 [(0, .int a0), (1, .int a1)] := hl
  refine lv_iload_n hx hb d_S_halfOfKind_0 rfl (lv_at hl 1 rfl) ?_
  refine lv_if_ne (tgt := 6) hx hb d_S_halfOfKind_1 (by decide) (fun c1 => ?_) (fun c1 => ?_)
  · refine lv_iload_n hx hb d_S_halfOfKind_6 rfl (lv_at hl 0 rfl) ?_
    refine lv_iconst (v := nI 2) hx hb d_S_halfOfKind_7 (by decide) ?_
    refine lv_ishr hx hb d_S_halfOfKind_8 ?_
    refine lv_istore_n (lv' := [(2, .int (a0 >>> ((nI 2) &&& 31))), (0, .int a0), (1, .int a1)]) hx hb d_S_halfOfKind_9 rfl hl (by decide) rfl (fun ls hl => ?_)
    refine lv_iload_n hx hb d_S_halfOfKind_10 rfl (lv_at hl 1 rfl) ?_
    refine lv_iconst (v := nI 3) hx hb d_S_halfOfKind_11 (by decide) ?_
    refine lv_iand hx hb d_S_halfOfKind_12 ?_
    refine lv_istore_n (lv' := [(3, .int (a0 &&& (nI 3))), (2, .int (a0 >>> ((nI 2) &&& 31))), (0, .int a0), (1, .int a1)]) hx hb d_S_halfOfKind_13 rfl hl (by decide) rfl (fun ls hl => ?_)
    refine lv_iload_n hx hb d_S_halfOfKind_14 rfl (lv_at hl 1 rfl) ?_
    refine lv_bipush (v := nI 12) hx hb d_S_halfOfKind_15 (by decide) ?_
    refine lv_ishl hx hb d_S_halfOfKind_17 ?_
    refine lv_iload_n hx hb d_S_halfOfKind_18 rfl (lv_at hl 0 rfl) ?_
    refine lv_iload_n hx hb d_S_halfOfKind_19 rfl (lv_at hl 1 rfl) ?_
    refine lv_iconst (v := nI 1) hx hb d_S_halfOfKind_20 (by decide) ?_
    refine lv_ishr hx hb d_S_halfOfKind_21 ?_
    refine lv_iload_n hx hb d_S_halfOfKind_22 rfl (lv_at hl 3 rfl) ?_
    refine callE (W.runS (As := [.int (a0 &&& (nI 3)), .int ((a0 >>> ((nI 2) &&& 31)) >>> ((nI 1) &&& 31)), .int a1]) (rest := [.int ((a0 >>> ((nI 2) &&& 31)) <<< ((nI 12) &&& 31))]) ⟨hx, hb, hml, hown, hts⟩ (c_guessOpenBits l t (a0 &&& (nI 3)) ((a0 >>> ((nI 2) &&& 31)) >>> ((nI 1) &&& 31)) a1) (cwS 3 hts (gS k_38 k_39 k_1 k_40) rfl rfl rfl (by decide +kernel) ⟨Nat.le_of_ble_eq_true rfl, Nat.le_of_ble_eq_true rfl⟩) (tb_pre hT) rfl rfl hl.1 rfl (lv_room (Nat.le_of_ble_eq_true rfl)) d_S_halfOfKind_23 ⟨Nat.zero_le _, Nat.zero_le _⟩) ?_
    refine lv_sipush (v := nI 4092) hx hb d_S_halfOfKind_26 (by decide) ?_
    refine lv_iand hx hb d_S_halfOfKind_29 ?_
    refine lv_ior hx hb d_S_halfOfKind_30 ?_
    refine lv_iload_n hx hb d_S_halfOfKind_31 rfl (lv_at hl 0 rfl) ?_
    refine lv_ior hx hb d_S_halfOfKind_32 ?_
    refine lv_istore (lv' := [(4, .int ((((a0 >>> ((nI 2) &&& 31)) <<< ((nI 12) &&& 31)) ||| ((f_guessOpenBits (a0 &&& (nI 3)) ((a0 >>> ((nI 2) &&& 31)) >>> ((nI 1) &&& 31)) a1) &&& (nI 4092))) ||| (a0 &&& (nI 3)))), (3, .int (a0 &&& (nI 3))), (2, .int (a0 >>> ((nI 2) &&& 31))), (0, .int a0), (1, .int a1)]) hx hb d_S_halfOfKind_33 hl (by decide) rfl (fun ls hl => ?_)
    refine lv_iload hx hb d_S_halfOfKind_35 (lv_at hl 0 rfl) ?_
    refine callE (W.runS (As := [.int ((((a0 >>> ((nI 2) &&& 31)) <<< ((nI 12) &&& 31)) ||| ((f_guessOpenBits (a0 &&& (nI 3)) ((a0 >>> ((nI 2) &&& 31)) >>> ((nI 1) &&& 31)) a1) &&& (nI 4092))) ||| (a0 &&& (nI 3)))]) (rest := []) ⟨hx, hb, hml, hown, hts⟩ (c_wordFor l t ((((a0 >>> ((nI 2) &&& 31)) <<< ((nI 12) &&& 31)) ||| ((f_guessOpenBits (a0 &&& (nI 3)) ((a0 >>> ((nI 2) &&& 31)) >>> ((nI 1) &&& 31)) a1) &&& (nI 4092))) ||| (a0 &&& (nI 3)))) (cwS 1 hts (gS k_112 k_113 k_1 k_114) rfl rfl rfl (by decide +kernel) ⟨Nat.le_of_ble_eq_true rfl, Nat.le_of_ble_eq_true rfl⟩) (tb_pre hT) rfl rfl hl.1 rfl (lv_room (Nat.le_of_ble_eq_true rfl)) d_S_halfOfKind_37 ⟨Nat.zero_le _, Nat.zero_le _⟩) ?_
    refine lv_iload_n hx hb d_S_halfOfKind_40 rfl (lv_at hl 4 rfl) ?_
    refine lv_icmp_ne (tgt := 49) hx hb d_S_halfOfKind_41 (by decide) (fun c2 => ?_) (fun c2 => ?_)
    · refine lv_iconst (v := nI 4294967295) hx hb d_S_halfOfKind_49 (by decide) ?_
      exact W.iret hx hb hr (fun t ht _ => ⟨_, rfl, by rw [f_halfOfKind, if_neg c1, if_neg c2], ht⟩) (fun q h => nomatch h) d_S_halfOfKind_50
    · refine lv_iload hx hb d_S_halfOfKind_44 (lv_at hl 0 rfl) ?_
      refine lv_goto (tgt := 50) hx hb d_S_halfOfKind_46 (by decide) ?_
      exact W.iret hx hb hr (fun t ht _ => ⟨_, rfl, by rw [f_halfOfKind, if_neg c1, if_pos c2], ht⟩) (fun q h => nomatch h) d_S_halfOfKind_50
  · refine lv_iconst (v := nI 4294967295) hx hb d_S_halfOfKind_4 (by decide) ?_
    exact W.iret hx hb hr (fun t ht _ => ⟨_, rfl, by rw [f_halfOfKind, if_pos c1], ht⟩) (fun q h => nomatch h) d_S_halfOfKind_5
