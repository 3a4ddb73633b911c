set_option maxHeartbeats 40000000 in
set_option maxRecDepth 100000 in
theorem c_M_upper (l : Launch) (dC : Nat → ClassId) (dI : Nat → Nat → Nat) (h1 : Nat) (hh : Int32) (a1 : Int32) : Met l y_M_upper w_M_upper { frames := 3, cells := 0, slots := 0, locals := 64 } (va_Pc [.ref h1, .int a1] (mo dC dI h1 hh)) (vp_Si (fun r => r = f_M_upper hh a1)) 0 0 (fun _ => False) := by
  refine Met.ofW (cc := b_M_upper) (maxL := 3) (ret := (some .int)) (by decide) rfl ?_
  intro p e s m args below meth c s₁ B hml hv
  obtain ⟨rfl, hT⟩ := hv
  have hx := B.exec
  have hb := B.bytes
  have hr := B.returns
  have hts := atoms_spec (ws := w_M_upper) B.pre
  have hown : s.vm.findClass R_M = some m.cls := findClass_of_methodNamed B.named
  have hlocks := B.notSynchronized
  have hl := lv_entry ([.ref h1, .int a1]) (n := 3) (Nat.le_of_ble_eq_true rfl)
  rw [lg_entry_eq]
  generalize (lg_sl ([.ref h1, .int a1]) ++ List.replicate (3 - (lg_sl ([.ref h1, .int a1])).length) Slot.unset).toArray = ls at hl ⊢
  have hl : lv_has ls 3 [(0, .ref h1), (1, .int a1)] := hl
  obtain ⟨th, wt, fi, wo, le, wn, hP, hK⟩ := id hT
  have hP : va_P (dC, dI) classes [(h1, .inr (1, [.int th, .int hh, .int wt, .int fi, .int wo, .int le, .int wn]))] s.heap := hP
  refine lv_iload_n hx hb d_M_upper_0 rfl (lv_at hl 1 rfl) ?_
  refine lv_iconst (v := nI 2) hx hb d_M_upper_1 (by decide) ?_
  refine lv_icmp_ne (tgt := 79) hx hb d_M_upper_2 (by decide) (fun c1 => ?_) (fun c1 => ?_)
  · refine lv_aload_n hx hb d_M_upper_79 rfl (lv_at hl 0 rfl) ?_
    refine callE (W.runV (b := h1) (As := []) (rest := []) ⟨hx, hb, hml, hown, hts⟩ (c_M_signed l dC dI h1 hh ) (cwV 0 hts (gV awx k_354 k_356 ks_8 k_2 k_357) rfl rfl rfl (by decide +kernel) ⟨Nat.le_of_ble_eq_true rfl, Nat.le_of_ble_eq_true rfl⟩) (mo_pre hT) rfl rfl hl.1 rfl (lv_room (Nat.le_of_ble_eq_true rfl)) d_M_upper_80 ⟨Nat.zero_le _, Nat.zero_le _⟩) ?_
    refine lv_if_ne (tgt := 90) hx hb d_M_upper_83 (by decide) (fun c2 => ?_) (fun c2 => ?_)
    · refine lv_bipush (v := nI 55) hx hb d_M_upper_90 (by decide) ?_
      refine lv_sipush (v := nI 128) hx hb d_M_upper_92 (by decide) ?_
      refine lv_iload_n hx hb d_M_upper_95 rfl (lv_at hl 1 rfl) ?_
      refine lv_imul hx hb d_M_upper_96 ?_
      refine lv_iadd hx hb d_M_upper_97 ?_
      refine lv_sipush (v := nI 4096) hx hb d_M_upper_98 (by decide) ?_
      refine lv_aload_n hx hb d_M_upper_101 rfl (lv_at hl 0 rfl) ?_
      refine callE (W.runV (b := h1) (As := []) (rest := [.int (nI 4096), .int ((nI 55) + ((nI 128) * a1))]) ⟨hx, hb, hml, hown, hts⟩ (c_M_signed l dC dI h1 hh ) (cwV 0 hts (gV awx k_354 k_356 ks_8 k_2 k_357) rfl rfl rfl (by decide +kernel) ⟨Nat.le_of_ble_eq_true rfl, Nat.le_of_ble_eq_true rfl⟩) (mo_pre hT) rfl rfl hl.1 rfl (lv_room (Nat.le_of_ble_eq_true rfl)) d_M_upper_102 ⟨Nat.zero_le _, Nat.zero_le _⟩) ?_
      refine lv_imul hx hb d_M_upper_105 ?_
      refine lv_iadd hx hb d_M_upper_106 ?_
      exact W.iret hx hb hr (fun t ht _ => ⟨_, rfl, by rw [f_M_upper, if_neg c1, if_neg c2], ht⟩) (fun q h => nomatch h) d_M_upper_107
    · refine lv_iconst (v := nI 0) hx hb d_M_upper_86 (by decide) ?_
      refine lv_goto (tgt := 107) hx hb d_M_upper_87 (by decide) ?_
      exact W.iret hx hb hr (fun t ht _ => ⟨_, rfl, by rw [f_M_upper, if_neg c1, if_pos c2], ht⟩) (fun q h => nomatch h) d_M_upper_107
  · refine lv_sipush (v := nI 128) hx hb d_M_upper_5 (by decide) ?_
    refine lv_aload_n hx hb d_M_upper_8 rfl (lv_at hl 0 rfl) ?_
    refine lv_iconst (v := nI 4) hx hb d_M_upper_9 (by decide) ?_
    refine lv_iconst (v := nI 3) hx hb d_M_upper_10 (by decide) ?_
    refine callE (W.runV (b := h1) (As := [.int (nI 4), .int (nI 3)]) (rest := [.int (nI 128)]) ⟨hx, hb, hml, hown, hts⟩ (c_M_bits l dC dI h1 hh 4 3 (by decide) (by decide) (by decide)) (cwV 2 hts (gV awx k_329 k_331 ks_4 k_2 k_332) rfl rfl rfl (by decide +kernel) ⟨Nat.le_of_ble_eq_true rfl, Nat.le_of_ble_eq_true rfl⟩) (mo_pre hT) rfl rfl hl.1 rfl (lv_room (Nat.le_of_ble_eq_true rfl)) d_M_upper_11 ⟨Nat.zero_le _, Nat.zero_le _⟩) ?_
    refine lv_imul hx hb d_M_upper_14 ?_
    refine lv_bipush (v := nI 64) hx hb d_M_upper_15 (by decide) ?_
    refine lv_aload_n hx hb d_M_upper_17 rfl (lv_at hl 0 rfl) ?_
    refine lv_iconst (v := nI 5) hx hb d_M_upper_18 (by decide) ?_
    refine lv_iconst (v := nI 5) hx hb d_M_upper_19 (by decide) ?_
    refine callE (W.runV (b := h1) (As := [.int (nI 5), .int (nI 5)]) (rest := [.int (nI 64), .int ((nI 128) * (f_M_bits hh 4 3))]) ⟨hx, hb, hml, hown, hts⟩ (c_M_bits l dC dI h1 hh 5 5 (by decide) (by decide) (by decide)) (cwV 2 hts (gV awx k_329 k_331 ks_4 k_2 k_332) rfl rfl rfl (by decide +kernel) ⟨Nat.le_of_ble_eq_true rfl, Nat.le_of_ble_eq_true rfl⟩) (mo_pre hT) rfl rfl hl.1 rfl (lv_room (Nat.le_of_ble_eq_true rfl)) d_M_upper_20 ⟨Nat.zero_le _, Nat.zero_le _⟩) ?_
    refine lv_imul hx hb d_M_upper_23 ?_
    refine lv_iadd hx hb d_M_upper_24 ?_
    refine lv_bipush (v := nI 32) hx hb d_M_upper_25 (by decide) ?_
    refine lv_aload_n hx hb d_M_upper_27 rfl (lv_at hl 0 rfl) ?_
    refine lv_iconst (v := nI 2) hx hb d_M_upper_28 (by decide) ?_
    refine lv_iconst (v := nI 2) hx hb d_M_upper_29 (by decide) ?_
    refine callE (W.runV (b := h1) (As := [.int (nI 2), .int (nI 2)]) (rest := [.int (nI 32), .int (((nI 128) * (f_M_bits hh 4 3)) + ((nI 64) * (f_M_bits hh 5 5)))]) ⟨hx, hb, hml, hown, hts⟩ (c_M_bits l dC dI h1 hh 2 2 (by decide) (by decide) (by decide)) (cwV 2 hts (gV awx k_329 k_331 ks_4 k_2 k_332) rfl rfl rfl (by decide +kernel) ⟨Nat.le_of_ble_eq_true rfl, Nat.le_of_ble_eq_true rfl⟩) (mo_pre hT) rfl rfl hl.1 rfl (lv_room (Nat.le_of_ble_eq_true rfl)) d_M_upper_30 ⟨Nat.zero_le _, Nat.zero_le _⟩) ?_
    refine lv_imul hx hb d_M_upper_33 ?_
    refine lv_iadd hx hb d_M_upper_34 ?_
    refine lv_bipush (v := nI 16) hx hb d_M_upper_35 (by decide) ?_
    refine lv_aload_n hx hb d_M_upper_37 rfl (lv_at hl 0 rfl) ?_
    refine lv_bipush (v := nI 6) hx hb d_M_upper_38 (by decide) ?_
    refine lv_bipush (v := nI 6) hx hb d_M_upper_40 (by decide) ?_
    refine callE (W.runV (b := h1) (As := [.int (nI 6), .int (nI 6)]) (rest := [.int (nI 16), .int ((((nI 128) * (f_M_bits hh 4 3)) + ((nI 64) * (f_M_bits hh 5 5))) + ((nI 32) * (f_M_bits hh 2 2)))]) ⟨hx, hb, hml, hown, hts⟩ (c_M_bits l dC dI h1 hh 6 6 (by decide) (by decide) (by decide)) (cwV 2 hts (gV awx k_329 k_331 ks_4 k_2 k_332) rfl rfl rfl (by decide +kernel) ⟨Nat.le_of_ble_eq_true rfl, Nat.le_of_ble_eq_true rfl⟩) (mo_pre hT) rfl rfl hl.1 rfl (lv_room (Nat.le_of_ble_eq_true rfl)) d_M_upper_42 ⟨Nat.zero_le _, Nat.zero_le _⟩) ?_
    refine lv_imul hx hb d_M_upper_45 ?_
    refine lv_iadd hx hb d_M_upper_46 ?_
    refine lv_sipush (v := nI 512) hx hb d_M_upper_47 (by decide) ?_
    refine lv_aload_n hx hb d_M_upper_50 rfl (lv_at hl 0 rfl) ?_
    refine lv_bipush (v := nI 12) hx hb d_M_upper_51 (by decide) ?_
    refine lv_bipush (v := nI 12) hx hb d_M_upper_53 (by decide) ?_
    refine callE (W.runV (b := h1) (As := [.int (nI 12), .int (nI 12)]) (rest := [.int (nI 512), .int (((((nI 128) * (f_M_bits hh 4 3)) + ((nI 64) * (f_M_bits hh 5 5))) + ((nI 32) * (f_M_bits hh 2 2))) + ((nI 16) * (f_M_bits hh 6 6)))]) ⟨hx, hb, hml, hown, hts⟩ (c_M_bits l dC dI h1 hh 12 12 (by decide) (by decide) (by decide)) (cwV 2 hts (gV awx k_329 k_331 ks_4 k_2 k_332) rfl rfl rfl (by decide +kernel) ⟨Nat.le_of_ble_eq_true rfl, Nat.le_of_ble_eq_true rfl⟩) (mo_pre hT) rfl rfl hl.1 rfl (lv_room (Nat.le_of_ble_eq_true rfl)) d_M_upper_55 ⟨Nat.zero_le _, Nat.zero_le _⟩) ?_
    refine lv_imul hx hb d_M_upper_58 ?_
    refine lv_isub hx hb d_M_upper_59 ?_
    refine lv_istore_n (lv' := [(2, .int ((((((nI 128) * (f_M_bits hh 4 3)) + ((nI 64) * (f_M_bits hh 5 5))) + ((nI 32) * (f_M_bits hh 2 2))) + ((nI 16) * (f_M_bits hh 6 6))) - ((nI 512) * (f_M_bits hh 12 12)))), (0, .ref h1), (1, .int a1)]) hx hb d_M_upper_60 rfl hl (by decide) rfl (fun ls hl => ?_)
    refine lv_iload_n hx hb d_M_upper_61 rfl (lv_at hl 0 rfl) ?_
    refine lv_if_ne (tgt := 69) hx hb d_M_upper_62 (by decide) (fun c3 => ?_) (fun c3 => ?_)
    · refine lv_bipush (v := nI 19) hx hb d_M_upper_69 (by decide) ?_
      refine lv_iconst (v := nI 2) hx hb d_M_upper_71 (by decide) ?_
      refine lv_iconst (v := nI 0) hx hb d_M_upper_72 (by decide) ?_
      refine lv_iconst (v := nI 2) hx hb d_M_upper_73 (by decide) ?_
      refine lv_iload_n hx hb d_M_upper_74 rfl (lv_at hl 0 rfl) ?_
      refine callE (W.runS (As := [.int (nI 19), .int (nI 2), .int (nI 0), .int (nI 2), .int ((((((nI 128) * (f_M_bits hh 4 3)) + ((nI 64) * (f_M_bits hh 5 5))) + ((nI 32) * (f_M_bits hh 2 2))) + ((nI 16) * (f_M_bits hh 6 6))) - ((nI 512) * (f_M_bits hh 12 12)))]) (rest := []) ⟨hx, hb, hml, hown, hts⟩ (c_M_wordI l (nI 19) (nI 2) (nI 0) (nI 2) ((((((nI 128) * (f_M_bits hh 4 3)) + ((nI 64) * (f_M_bits hh 5 5))) + ((nI 32) * (f_M_bits hh 2 2))) + ((nI 16) * (f_M_bits hh 6 6))) - ((nI 512) * (f_M_bits hh 12 12)))) (cwS 5 hts (gS k_333 k_334 k_2 k_335) rfl rfl rfl (by decide +kernel) ⟨Nat.le_of_ble_eq_true rfl, Nat.le_of_ble_eq_true rfl⟩) pre0 rfl rfl hl.1 rfl (lv_room (Nat.le_of_ble_eq_true rfl)) d_M_upper_75 ⟨Nat.zero_le _, Nat.zero_le _⟩) ?_
      exact W.iret hx hb hr (fun t ht _ => ⟨_, rfl, by rw [f_M_upper, if_pos c1, if_neg c3], ht⟩) (fun q h => nomatch h) d_M_upper_78
    · refine lv_iconst (v := nI 0) hx hb d_M_upper_65 (by decide) ?_
      refine lv_goto (tgt := 78) hx hb d_M_upper_66 (by decide) ?_
      exact W.iret hx hb hr (fun t ht _ => ⟨_, rfl, by rw [f_M_upper, if_pos c1, if_pos c3], ht⟩) (fun q h => nomatch h) d_M_upper_78
set_option maxHeartbeats 40000000 in
set_option maxRecDepth 100000 in
theorem c_M_quadrant1 (l : Launch) (dC : Nat → ClassId) (dI : Nat → Nat → Nat) (h1 : Nat) (hh : Int32) : Met l y_M_quadrant1 w_M_quadrant1 { frames := 4, cells := 0, slots := 0, locals := 87 } (va_Pc [.ref h1] (mo dC dI h1 hh)) (vp_Si (fun r => r = f_M_quadrant1 hh)) 0 0 (fun _ => False) := by
  refine Met.ofW (cc := b_M_quadrant1) (maxL := 3) (ret := (some .int)) (by decide) rfl ?_
  intro p e s m args below meth c s₁ B hml hv
  obtain ⟨rfl, hT⟩ := hv
  have hx := B.exec
  have hb := B.bytes
  have hr := B.returns
  have hts := atoms_spec (ws := w_M_quadrant1) B.pre
  have hown : s.vm.findClass R_M = some m.cls := findClass_of_methodNamed B.named
  have hlocks := B.notSynchronized
  have hl := lv_entry ([.ref h1]) (n := 3) (Nat.le_of_ble_eq_true rfl)
  rw [lg_entry_eq]
  generalize (lg_sl ([.ref h1]) ++ List.replicate (3 - (lg_sl ([.ref h1])).length) Slot.unset).toArray = ls at hl ⊢
  have hl : lv_has ls 3 [(0, .ref h1)] := hl
  obtain ⟨th, wt, fi, wo, le, wn, hP, hK⟩ := id hT
  have hP : va_P (dC, dI) classes [(h1, .inr (1, [.int th, .int hh, .int wt, .int fi, .int wo, .int le, .int wn]))] s.heap := hP
  refine lv_aload_n hx hb d_M_quadrant1_0 rfl (lv_at hl 0 rfl) ?_
  refine lv_bipush (v := nI 11) hx hb d_M_quadrant1_1 (by decide) ?_
  refine lv_bipush (v := nI 7) hx hb d_M_quadrant1_3 (by decide) ?_
  refine callE (W.runV (b := h1) (As := [.int (nI 11), .int (nI 7)]) (rest := []) ⟨hx, hb, hml, hown, hts⟩ (c_M_bits l dC dI h1 hh 11 7 (by decide) (by decide) (by decide)) (cwV 2 hts (gV awx k_329 k_331 ks_4 k_2 k_332) rfl rfl rfl (by decide +kernel) ⟨Nat.le_of_ble_eq_true rfl, Nat.le_of_ble_eq_true rfl⟩) (mo_pre hT) rfl rfl hl.1 rfl (lv_room (Nat.le_of_ble_eq_true rfl)) d_M_quadrant1_5 ⟨Nat.zero_le _, Nat.zero_le _⟩) ?_
  refine lv_istore_n (lv' := [(1, .int (f_M_bits hh 11 7)), (0, .ref h1)]) hx hb d_M_quadrant1_8 rfl hl (by decide) rfl (fun ls hl => ?_)
  refine lv_bipush (v := nI 64) hx hb d_M_quadrant1_9 (by decide) ?_
  refine lv_aload_n hx hb d_M_quadrant1_11 rfl (lv_at hl 1 rfl) ?_
  refine lv_bipush (v := nI 6) hx hb d_M_quadrant1_12 (by decide) ?_
  refine lv_iconst (v := nI 5) hx hb d_M_quadrant1_14 (by decide) ?_
  refine callE (W.runV (b := h1) (As := [.int (nI 6), .int (nI 5)]) (rest := [.int (nI 64)]) ⟨hx, hb, hml, hown, hts⟩ (c_M_bits l dC dI h1 hh 6 5 (by decide) (by decide) (by decide)) (cwV 2 hts (gV awx k_329 k_331 ks_4 k_2 k_332) rfl rfl rfl (by decide +kernel) ⟨Nat.le_of_ble_eq_true rfl, Nat.le_of_ble_eq_true rfl⟩) (mo_pre hT) rfl rfl hl.1 rfl (lv_room (Nat.le_of_ble_eq_true rfl)) d_M_quadrant1_15 ⟨Nat.zero_le _, Nat.zero_le _⟩) ?_
  refine lv_imul hx hb d_M_quadrant1_18 ?_
  refine lv_bipush (v := nI 32) hx hb d_M_quadrant1_19 (by decide) ?_
  refine lv_aload_n hx hb d_M_quadrant1_21 rfl (lv_at hl 1 rfl) ?_
  refine lv_iconst (v := nI 2) hx hb d_M_quadrant1_22 (by decide) ?_
  refine lv_iconst (v := nI 2) hx hb d_M_quadrant1_23 (by decide) ?_
  refine callE (W.runV (b := h1) (As := [.int (nI 2), .int (nI 2)]) (rest := [.int (nI 32), .int ((nI 64) * (f_M_bits hh 6 5))]) ⟨hx, hb, hml, hown, hts⟩ (c_M_bits l dC dI h1 hh 2 2 (by decide) (by decide) (by decide)) (cwV 2 hts (gV awx k_329 k_331 ks_4 k_2 k_332) rfl rfl rfl (by decide +kernel) ⟨Nat.le_of_ble_eq_true rfl, Nat.le_of_ble_eq_true rfl⟩) (mo_pre hT) rfl rfl hl.1 rfl (lv_room (Nat.le_of_ble_eq_true rfl)) d_M_quadrant1_24 ⟨Nat.zero_le _, Nat.zero_le _⟩) ?_
  refine lv_imul hx hb d_M_quadrant1_27 ?_
  refine lv_iadd hx hb d_M_quadrant1_28 ?_
  refine lv_bipush (v := nI 8) hx hb d_M_quadrant1_29 (by decide) ?_
  refine lv_aload_n hx hb d_M_quadrant1_31 rfl (lv_at hl 1 rfl) ?_
  refine lv_bipush (v := nI 11) hx hb d_M_quadrant1_32 (by decide) ?_
  refine lv_bipush (v := nI 10) hx hb d_M_quadrant1_34 (by decide) ?_
  refine callE (W.runV (b := h1) (As := [.int (nI 11), .int (nI 10)]) (rest := [.int (nI 8), .int (((nI 64) * (f_M_bits hh 6 5)) + ((nI 32) * (f_M_bits hh 2 2)))]) ⟨hx, hb, hml, hown, hts⟩ (c_M_bits l dC dI h1 hh 11 10 (by decide) (by decide) (by decide)) (cwV 2 hts (gV awx k_329 k_331 ks_4 k_2 k_332) rfl rfl rfl (by decide +kernel) ⟨Nat.le_of_ble_eq_true rfl, Nat.le_of_ble_eq_true rfl⟩) (mo_pre hT) rfl rfl hl.1 rfl (lv_room (Nat.le_of_ble_eq_true rfl)) d_M_quadrant1_36 ⟨Nat.zero_le _, Nat.zero_le _⟩) ?_
  refine lv_imul hx hb d_M_quadrant1_39 ?_
  refine lv_iadd hx hb d_M_quadrant1_40 ?_
  refine lv_iconst (v := nI 2) hx hb d_M_quadrant1_41 (by decide) ?_
  refine lv_aload_n hx hb d_M_quadrant1_42 rfl (lv_at hl 1 rfl) ?_
  refine lv_iconst (v := nI 4) hx hb d_M_quadrant1_43 (by decide) ?_
  refine lv_iconst (v := nI 3) hx hb d_M_quadrant1_44 (by decide) ?_
  refine callE (W.runV (b := h1) (As := [.int (nI 4), .int (nI 3)]) (rest := [.int (nI 2), .int ((((nI 64) * (f_M_bits hh 6 5)) + ((nI 32) * (f_M_bits hh 2 2))) + ((nI 8) * (f_M_bits hh 11 10)))]) ⟨hx, hb, hml, hown, hts⟩ (c_M_bits l dC dI h1 hh 4 3 (by decide) (by decide) (by decide)) (cwV 2 hts (gV awx k_329 k_331 ks_4 k_2 k_332) rfl rfl rfl (by decide +kernel) ⟨Nat.le_of_ble_eq_true rfl, Nat.le_of_ble_eq_true rfl⟩) (mo_pre hT) rfl rfl hl.1 rfl (lv_room (Nat.le_of_ble_eq_true rfl)) d_M_quadrant1_45 ⟨Nat.zero_le _, Nat.zero_le _⟩) ?_
  refine lv_imul hx hb d_M_quadrant1_48 ?_
  refine lv_iadd hx hb d_M_quadrant1_49 ?_
  refine lv_sipush (v := nI 256) hx hb d_M_quadrant1_50 (by decide) ?_
  refine lv_aload_n hx hb d_M_quadrant1_53 rfl (lv_at hl 1 rfl) ?_
  refine lv_bipush (v := nI 12) hx hb d_M_quadrant1_54 (by decide) ?_
  refine lv_bipush (v := nI 12) hx hb d_M_quadrant1_56 (by decide) ?_
  refine callE (W.runV (b := h1) (As := [.int (nI 12), .int (nI 12)]) (rest := [.int (nI 256), .int (((((nI 64) * (f_M_bits hh 6 5)) + ((nI 32) * (f_M_bits hh 2 2))) + ((nI 8) * (f_M_bits hh 11 10))) + ((nI 2) * (f_M_bits hh 4 3)))]) ⟨hx, hb, hml, hown, hts⟩ (c_M_bits l dC dI h1 hh 12 12 (by decide) (by decide) (by decide)) (cwV 2 hts (gV awx k_329 k_331 ks_4 k_2 k_332) rfl rfl rfl (by decide +kernel) ⟨Nat.le_of_ble_eq_true rfl, Nat.le_of_ble_eq_true rfl⟩) (mo_pre hT) rfl rfl hl.1 rfl (lv_room (Nat.le_of_ble_eq_true rfl)) d_M_quadrant1_58 ⟨Nat.zero_le _, Nat.zero_le _⟩) ?_
  refine lv_imul hx hb d_M_quadrant1_61 ?_
  refine lv_isub hx hb d_M_quadrant1_62 ?_
  refine lv_istore_n (lv' := [(2, .int ((((((nI 64) * (f_M_bits hh 6 5)) + ((nI 32) * (f_M_bits hh 2 2))) + ((nI 8) * (f_M_bits hh 11 10))) + ((nI 2) * (f_M_bits hh 4 3))) - ((nI 256) * (f_M_bits hh 12 12)))), (1, .int (f_M_bits hh 11 7)), (0, .ref h1)]) hx hb d_M_quadrant1_63 rfl hl (by decide) rfl (fun ls hl => ?_)
  refine lv_aload_n hx hb d_M_quadrant1_64 rfl (lv_at hl 2 rfl) ?_
  refine lv_bipush (v := nI 15) hx hb d_M_quadrant1_65 (by decide) ?_
  refine lv_bipush (v := nI 13) hx hb d_M_quadrant1_67 (by decide) ?_
  refine callE (W.runV (b := h1) (As := [.int (nI 15), .int (nI 13)]) (rest := []) ⟨hx, hb, hml, hown, hts⟩ (c_M_bits l dC dI h1 hh 15 13 (by decide) (by decide) (by decide)) (cwV 2 hts (gV awx k_329 k_331 ks_4 k_2 k_332) rfl rfl rfl (by decide +kernel) ⟨Nat.le_of_ble_eq_true rfl, Nat.le_of_ble_eq_true rfl⟩) (mo_pre hT) rfl rfl hl.1 rfl (lv_room (Nat.le_of_ble_eq_true rfl)) d_M_quadrant1_69 ⟨Nat.zero_le _, Nat.zero_le _⟩) ?_
  by_cases c1 : (f_M_bits hh 15 13) = nI 0
  · refine lv_tableIn (tgt := 116) (off := 44) hx hb d_M_quadrant1_72 (by rw [c1]; decide +kernel) (by rw [c1]; decide +kernel) (by rw [c1]; decide +kernel) (by decide) ?_
    refine lv_bipush (v := nI 19) hx hb d_M_quadrant1_116 (by decide) ?_
    refine lv_iload_n hx hb d_M_quadrant1_118 rfl (lv_at hl 1 rfl) ?_
    refine lv_iconst (v := nI 0) hx hb d_M_quadrant1_119 (by decide) ?_
    refine lv_iload_n hx hb d_M_quadrant1_120 rfl (lv_at hl 1 rfl) ?_
    refine lv_aload_n hx hb d_M_quadrant1_121 rfl (lv_at hl 2 rfl) ?_
    refine callE (W.runV (b := h1) (As := []) (rest := [.int (f_M_bits hh 11 7), .int (nI 0), .int (f_M_bits hh 11 7), .int (nI 19)]) ⟨hx, hb, hml, hown, hts⟩ (c_M_signed l dC dI h1 hh ) (cwV 0 hts (gV awx k_354 k_356 ks_8 k_2 k_357) rfl rfl rfl (by decide +kernel) ⟨Nat.le_of_ble_eq_true rfl, Nat.le_of_ble_eq_true rfl⟩) (mo_pre hT) rfl rfl hl.1 rfl (lv_room (Nat.le_of_ble_eq_true rfl)) d_M_quadrant1_122 ⟨Nat.zero_le _, Nat.zero_le _⟩) ?_
    refine callE (W.runS (As := [.int (nI 19), .int (f_M_bits hh 11 7), .int (nI 0), .int (f_M_bits hh 11 7), .int (f_M_signed hh )]) (rest := []) ⟨hx, hb, hml, hown, hts⟩ (c_M_wordI l (nI 19) (f_M_bits hh 11 7) (nI 0) (f_M_bits hh 11 7) (f_M_signed hh )) (cwS 5 hts (gS k_333 k_334 k_2 k_335) rfl rfl rfl (by decide +kernel) ⟨Nat.le_of_ble_eq_true rfl, Nat.le_of_ble_eq_true rfl⟩) pre0 rfl rfl hl.1 rfl (lv_room (Nat.le_of_ble_eq_true rfl)) d_M_quadrant1_125 ⟨Nat.zero_le _, Nat.zero_le _⟩) ?_
    exact W.iret hx hb hr (fun t ht _ => ⟨_, rfl, by rw [f_M_quadrant1, if_pos c1], ht⟩) (fun q h => nomatch h) d_M_quadrant1_128
  by_cases c2 : (f_M_bits hh 15 13) = nI 1
  · refine lv_tableIn (tgt := 129) (off := 57) hx hb d_M_quadrant1_72 (by rw [c2]; decide +kernel) (by rw [c2]; decide +kernel) (by rw [c2]; decide +kernel) (by decide) ?_
    refine lv_iload_n hx hb d_M_quadrant1_129 rfl (lv_at hl 1 rfl) ?_
    refine lv_if_ne (tgt := 137) hx hb d_M_quadrant1_130 (by decide) (fun c3 => ?_) (fun c3 => ?_)
    · refine lv_bipush (v := nI 27) hx hb d_M_quadrant1_137 (by decide) ?_
      refine lv_iload_n hx hb d_M_quadrant1_139 rfl (lv_at hl 1 rfl) ?_
      refine lv_iconst (v := nI 0) hx hb d_M_quadrant1_140 (by decide) ?_
      refine lv_iload_n hx hb d_M_quadrant1_141 rfl (lv_at hl 1 rfl) ?_
      refine lv_aload_n hx hb d_M_quadrant1_142 rfl (lv_at hl 2 rfl) ?_
      refine callE (W.runV (b := h1) (As := []) (rest := [.int (f_M_bits hh 11 7), .int (nI 0), .int (f_M_bits hh 11 7), .int (nI 27)]) ⟨hx, hb, hml, hown, hts⟩ (c_M_signed l dC dI h1 hh ) (cwV 0 hts (gV awx k_354 k_356 ks_8 k_2 k_357) rfl rfl rfl (by decide +kernel) ⟨Nat.le_of_ble_eq_true rfl, Nat.le_of_ble_eq_true rfl⟩) (mo_pre hT) rfl rfl hl.1 rfl (lv_room (Nat.le_of_ble_eq_true rfl)) d_M_quadrant1_143 ⟨Nat.zero_le _, Nat.zero_le _⟩) ?_
      refine callE (W.runS (As := [.int (nI 27), .int (f_M_bits hh 11 7), .int (nI 0), .int (f_M_bits hh 11 7), .int (f_M_signed hh )]) (rest := []) ⟨hx, hb, hml, hown, hts⟩ (c_M_wordI l (nI 27) (f_M_bits hh 11 7) (nI 0) (f_M_bits hh 11 7) (f_M_signed hh )) (cwS 5 hts (gS k_333 k_334 k_2 k_335) rfl rfl rfl (by decide +kernel) ⟨Nat.le_of_ble_eq_true rfl, Nat.le_of_ble_eq_true rfl⟩) pre0 rfl rfl hl.1 rfl (lv_room (Nat.le_of_ble_eq_true rfl)) d_M_quadrant1_146 ⟨Nat.zero_le _, Nat.zero_le _⟩) ?_
      exact W.iret hx hb hr (fun t ht _ => ⟨_, rfl, by rw [f_M_quadrant1, if_neg c1, if_pos c2, if_neg c3], ht⟩) (fun q h => nomatch h) d_M_quadrant1_149
    · refine lv_iconst (v := nI 0) hx hb d_M_quadrant1_133 (by decide) ?_
      refine lv_goto (tgt := 149) hx hb d_M_quadrant1_134 (by decide) ?_
      exact W.iret hx hb hr (fun t ht _ => ⟨_, rfl, by rw [f_M_quadrant1, if_neg c1, if_pos c2, if_pos c3], ht⟩) (fun q h => nomatch h) d_M_quadrant1_149
  by_cases c4 : (f_M_bits hh 15 13) = nI 2
  · refine lv_tableIn (tgt := 150) (off := 78) hx hb d_M_quadrant1_72 (by rw [c4]; decide +kernel) (by rw [c4]; decide +kernel) (by rw [c4]; decide +kernel) (by decide) ?_
    refine lv_bipush (v := nI 19) hx hb d_M_quadrant1_150 (by decide) ?_
    refine lv_iload_n hx hb d_M_quadrant1_152 rfl (lv_at hl 1 rfl) ?_
    refine lv_iconst (v := nI 0) hx hb d_M_quadrant1_153 (by decide) ?_
    refine lv_iconst (v := nI 0) hx hb d_M_quadrant1_154 (by decide) ?_
    refine lv_aload_n hx hb d_M_quadrant1_155 rfl (lv_at hl 2 rfl) ?_
    refine callE (W.runV (b := h1) (As := []) (rest := [.int (nI 0), .int (nI 0), .int (f_M_bits hh 11 7), .int (nI 19)]) ⟨hx, hb, hml, hown, hts⟩ (c_M_signed l dC dI h1 hh ) (cwV 0 hts (gV awx k_354 k_356 ks_8 k_2 k_357) rfl rfl rfl (by decide +kernel) ⟨Nat.le_of_ble_eq_true rfl, Nat.le_of_ble_eq_true rfl⟩) (mo_pre hT) rfl rfl hl.1 rfl (lv_room (Nat.le_of_ble_eq_true rfl)) d_M_quadrant1_156 ⟨Nat.zero_le _, Nat.zero_le _⟩) ?_
    refine callE (W.runS (As := [.int (nI 19), .int (f_M_bits hh 11 7), .int (nI 0), .int (nI 0), .int (f_M_signed hh )]) (rest := []) ⟨hx, hb, hml, hown, hts⟩ (c_M_wordI l (nI 19) (f_M_bits hh 11 7) (nI 0) (nI 0) (f_M_signed hh )) (cwS 5 hts (gS k_333 k_334 k_2 k_335) rfl rfl rfl (by decide +kernel) ⟨Nat.le_of_ble_eq_true rfl, Nat.le_of_ble_eq_true rfl⟩) pre0 rfl rfl hl.1 rfl (lv_room (Nat.le_of_ble_eq_true rfl)) d_M_quadrant1_159 ⟨Nat.zero_le _, Nat.zero_le _⟩) ?_
    exact W.iret hx hb hr (fun t ht _ => ⟨_, rfl, by rw [f_M_quadrant1, if_neg c1, if_neg c2, if_pos c4], ht⟩) (fun q h => nomatch h) d_M_quadrant1_162
  by_cases c5 : (f_M_bits hh 15 13) = nI 3
  · refine lv_tableIn (tgt := 163) (off := 91) hx hb d_M_quadrant1_72 (by rw [c5]; decide +kernel) (by rw [c5]; decide +kernel) (by rw [c5]; decide +kernel) (by decide) ?_
    refine lv_aload_n hx hb d_M_quadrant1_163 rfl (lv_at hl 2 rfl) ?_
    refine lv_iload_n hx hb d_M_quadrant1_164 rfl (lv_at hl 1 rfl) ?_
    refine callE (W.runV (b := h1) (As := [.int (f_M_bits hh 11 7)]) (rest := []) ⟨hx, hb, hml, hown, hts⟩ (c_M_upper l dC dI h1 hh (f_M_bits hh 11 7)) (cwV 1 hts (gV awx k_362 k_364 ks_10 k_2 k_365) rfl rfl rfl (by decide +kernel) ⟨Nat.le_of_ble_eq_true rfl, Nat.le_of_ble_eq_true rfl⟩) (mo_pre hT) rfl rfl hl.1 rfl (lv_room (Nat.le_of_ble_eq_true rfl)) d_M_quadrant1_165 ⟨Nat.zero_le _, Nat.zero_le _⟩) ?_
    exact W.iret hx hb hr (fun t ht _ => ⟨_, rfl, by rw [f_M_quadrant1, if_neg c1, if_neg c2, if_neg c4, if_pos c5], ht⟩) (fun q h => nomatch h) d_M_quadrant1_168
  by_cases c6 : (f_M_bits hh 15 13) = nI 4
  · refine lv_tableIn (tgt := 169) (off := 97) hx hb d_M_quadrant1_72 (by rw [c6]; decide +kernel) (by rw [c6]; decide +kernel) (by rw [c6]; decide +kernel) (by decide) ?_
    refine lv_aload_n hx hb d_M_quadrant1_169 rfl (lv_at hl 2 rfl) ?_
    refine callE (W.runV (b := h1) (As := []) (rest := []) ⟨hx, hb, hml, hown, hts⟩ (c_M_arithmetic l dC dI h1 hh ) (cwV 0 hts (gV awx k_366 k_368 ks_11 k_2 k_369) rfl rfl rfl (by decide +kernel) ⟨Nat.le_of_ble_eq_true rfl, Nat.le_of_ble_eq_true rfl⟩) (mo_pre hT) rfl rfl hl.1 rfl (lv_room (Nat.le_of_ble_eq_true rfl)) d_M_quadrant1_170 ⟨Nat.zero_le _, Nat.zero_le _⟩) ?_
    exact W.iret hx hb hr (fun t ht _ => ⟨_, rfl, by rw [f_M_quadrant1, if_neg c1, if_neg c2, if_neg c4, if_neg c5, if_pos c6], ht⟩) (fun q h => nomatch h) d_M_quadrant1_173
  by_cases c7 : (f_M_bits hh 15 13) = nI 5
  · refine lv_tableIn (tgt := 174) (off := 102) hx hb d_M_quadrant1_72 (by rw [c7]; decide +kernel) (by rw [c7]; decide +kernel) (by rw [c7]; decide +kernel) (by decide) ?_
    refine lv_sipush (v := nI 1024) hx hb d_M_quadrant1_174 (by decide) ?_
    refine lv_aload_n hx hb d_M_quadrant1_177 rfl (lv_at hl 2 rfl) ?_
    refine lv_bipush (v := nI 8) hx hb d_M_quadrant1_178 (by decide) ?_
    refine lv_bipush (v := nI 8) hx hb d_M_quadrant1_180 (by decide) ?_
    refine callE (W.runV (b := h1) (As := [.int (nI 8), .int (nI 8)]) (rest := [.int (nI 1024)]) ⟨hx, hb, hml, hown, hts⟩ (c_M_bits l dC dI h1 hh 8 8 (by decide) (by decide) (by decide)) (cwV 2 hts (gV awx k_329 k_331 ks_4 k_2 k_332) rfl rfl rfl (by decide +kernel) ⟨Nat.le_of_ble_eq_true rfl, Nat.le_of_ble_eq_true rfl⟩) (mo_pre hT) rfl rfl hl.1 rfl (lv_room (Nat.le_of_ble_eq_true rfl)) d_M_quadrant1_182 ⟨Nat.zero_le _, Nat.zero_le _⟩) ?_
    refine lv_imul hx hb d_M_quadrant1_185 ?_
    refine lv_sipush (v := nI 256) hx hb d_M_quadrant1_186 (by decide) ?_
    refine lv_aload_n hx hb d_M_quadrant1_189 rfl (lv_at hl 2 rfl) ?_
    refine lv_bipush (v := nI 10) hx hb d_M_quadrant1_190 (by decide) ?_
    refine lv_bipush (v := nI 9) hx hb d_M_quadrant1_192 (by decide) ?_
    refine callE (W.runV (b := h1) (As := [.int (nI 10), .int (nI 9)]) (rest := [.int (nI 256), .int ((nI 1024) * (f_M_bits hh 8 8))]) ⟨hx, hb, hml, hown, hts⟩ (c_M_bits l dC dI h1 hh 10 9 (by decide) (by decide) (by decide)) (cwV 2 hts (gV awx k_329 k_331 ks_4 k_2 k_332) rfl rfl rfl (by decide +kernel) ⟨Nat.le_of_ble_eq_true rfl, Nat.le_of_ble_eq_true rfl⟩) (mo_pre hT) rfl rfl hl.1 rfl (lv_room (Nat.le_of_ble_eq_true rfl)) d_M_quadrant1_194 ⟨Nat.zero_le _, Nat.zero_le _⟩) ?_
    refine lv_imul hx hb d_M_quadrant1_197 ?_
    refine lv_iadd hx hb d_M_quadrant1_198 ?_
    refine lv_sipush (v := nI 128) hx hb d_M_quadrant1_199 (by decide) ?_
    refine lv_aload_n hx hb d_M_quadrant1_202 rfl (lv_at hl 2 rfl) ?_
    refine lv_bipush (v := nI 6) hx hb d_M_quadrant1_203 (by decide) ?_
    refine lv_bipush (v := nI 6) hx hb d_M_quadrant1_205 (by decide) ?_
    refine callE (W.runV (b := h1) (As := [.int (nI 6), .int (nI 6)]) (rest := [.int (nI 128), .int (((nI 1024) * (f_M_bits hh 8 8)) + ((nI 256) * (f_M_bits hh 10 9)))]) ⟨hx, hb, hml, hown, hts⟩ (c_M_bits l dC dI h1 hh 6 6 (by decide) (by decide) (by decide)) (cwV 2 hts (gV awx k_329 k_331 ks_4 k_2 k_332) rfl rfl rfl (by decide +kernel) ⟨Nat.le_of_ble_eq_true rfl, Nat.le_of_ble_eq_true rfl⟩) (mo_pre hT) rfl rfl hl.1 rfl (lv_room (Nat.le_of_ble_eq_true rfl)) d_M_quadrant1_207 ⟨Nat.zero_le _, Nat.zero_le _⟩) ?_
    refine lv_imul hx hb d_M_quadrant1_210 ?_
    refine lv_iadd hx hb d_M_quadrant1_211 ?_
    refine lv_bipush (v := nI 64) hx hb d_M_quadrant1_212 (by decide) ?_
    refine lv_aload_n hx hb d_M_quadrant1_214 rfl (lv_at hl 2 rfl) ?_
    refine lv_bipush (v := nI 7) hx hb d_M_quadrant1_215 (by decide) ?_
    refine lv_bipush (v := nI 7) hx hb d_M_quadrant1_217 (by decide) ?_
    refine callE (W.runV (b := h1) (As := [.int (nI 7), .int (nI 7)]) (rest := [.int (nI 64), .int ((((nI 1024) * (f_M_bits hh 8 8)) + ((nI 256) * (f_M_bits hh 10 9))) + ((nI 128) * (f_M_bits hh 6 6)))]) ⟨hx, hb, hml, hown, hts⟩ (c_M_bits l dC dI h1 hh 7 7 (by decide) (by decide) (by decide)) (cwV 2 hts (gV awx k_329 k_331 ks_4 k_2 k_332) rfl rfl rfl (by decide +kernel) ⟨Nat.le_of_ble_eq_true rfl, Nat.le_of_ble_eq_true rfl⟩) (mo_pre hT) rfl rfl hl.1 rfl (lv_room (Nat.le_of_ble_eq_true rfl)) d_M_quadrant1_219 ⟨Nat.zero_le _, Nat.zero_le _⟩) ?_
    refine lv_imul hx hb d_M_quadrant1_222 ?_
    refine lv_iadd hx hb d_M_quadrant1_223 ?_
    refine lv_bipush (v := nI 32) hx hb d_M_quadrant1_224 (by decide) ?_
    refine lv_aload_n hx hb d_M_quadrant1_226 rfl (lv_at hl 2 rfl) ?_
    refine lv_iconst (v := nI 2) hx hb d_M_quadrant1_227 (by decide) ?_
    refine lv_iconst (v := nI 2) hx hb d_M_quadrant1_228 (by decide) ?_
    refine callE (W.runV (b := h1) (As := [.int (nI 2), .int (nI 2)]) (rest := [.int (nI 32), .int (((((nI 1024) * (f_M_bits hh 8 8)) + ((nI 256) * (f_M_bits hh 10 9))) + ((nI 128) * (f_M_bits hh 6 6))) + ((nI 64) * (f_M_bits hh 7 7)))]) ⟨hx, hb, hml, hown, hts⟩ (c_M_bits l dC dI h1 hh 2 2 (by decide) (by decide) (by decide)) (cwV 2 hts (gV awx k_329 k_331 ks_4 k_2 k_332) rfl rfl rfl (by decide +kernel) ⟨Nat.le_of_ble_eq_true rfl, Nat.le_of_ble_eq_true rfl⟩) (mo_pre hT) rfl rfl hl.1 rfl (lv_room (Nat.le_of_ble_eq_true rfl)) d_M_quadrant1_229 ⟨Nat.zero_le _, Nat.zero_le _⟩) ?_
    refine lv_imul hx hb d_M_quadrant1_232 ?_
    refine lv_iadd hx hb d_M_quadrant1_233 ?_
    refine lv_bipush (v := nI 16) hx hb d_M_quadrant1_234 (by decide) ?_
    refine lv_aload_n hx hb d_M_quadrant1_236 rfl (lv_at hl 2 rfl) ?_
    refine lv_bipush (v := nI 11) hx hb d_M_quadrant1_237 (by decide) ?_
    refine lv_bipush (v := nI 11) hx hb d_M_quadrant1_239 (by decide) ?_
    refine callE (W.runV (b := h1) (As := [.int (nI 11), .int (nI 11)]) (rest := [.int (nI 16), .int ((((((nI 1024) * (f_M_bits hh 8 8)) + ((nI 256) * (f_M_bits hh 10 9))) + ((nI 128) * (f_M_bits hh 6 6))) + ((nI 64) * (f_M_bits hh 7 7))) + ((nI 32) * (f_M_bits hh 2 2)))]) ⟨hx, hb, hml, hown, hts⟩ (c_M_bits l dC dI h1 hh 11 11 (by decide) (by decide) (by decide)) (cwV 2 hts (gV awx k_329 k_331 ks_4 k_2 k_332) rfl rfl rfl (by decide +kernel) ⟨Nat.le_of_ble_eq_true rfl, Nat.le_of_ble_eq_true rfl⟩) (mo_pre hT) rfl rfl hl.1 rfl (lv_room (Nat.le_of_ble_eq_true rfl)) d_M_quadrant1_241 ⟨Nat.zero_le _, Nat.zero_le _⟩) ?_
    refine lv_imul hx hb d_M_quadrant1_244 ?_
    refine lv_iadd hx hb d_M_quadrant1_245 ?_
    refine lv_iconst (v := nI 2) hx hb d_M_quadrant1_246 (by decide) ?_
    refine lv_aload_n hx hb d_M_quadrant1_247 rfl (lv_at hl 2 rfl) ?_
    refine lv_iconst (v := nI 5) hx hb d_M_quadrant1_248 (by decide) ?_
    refine lv_iconst (v := nI 3) hx hb d_M_quadrant1_249 (by decide) ?_
    refine callE (W.runV (b := h1) (As := [.int (nI 5), .int (nI 3)]) (rest := [.int (nI 2), .int (((((((nI 1024) * (f_M_bits hh 8 8)) + ((nI 256) * (f_M_bits hh 10 9))) + ((nI 128) * (f_M_bits hh 6 6))) + ((nI 64) * (f_M_bits hh 7 7))) + ((nI 32) * (f_M_bits hh 2 2))) + ((nI 16) * (f_M_bits hh 11 11)))]) ⟨hx, hb, hml, hown, hts⟩ (c_M_bits l dC dI h1 hh 5 3 (by decide) (by decide) (by decide)) (cwV 2 hts (gV awx k_329 k_331 ks_4 k_2 k_332) rfl rfl rfl (by decide +kernel) ⟨Nat.le_of_ble_eq_true rfl, Nat.le_of_ble_eq_true rfl⟩) (mo_pre hT) rfl rfl hl.1 rfl (lv_room (Nat.le_of_ble_eq_true rfl)) d_M_quadrant1_250 ⟨Nat.zero_le _, Nat.zero_le _⟩) ?_
    refine lv_imul hx hb d_M_quadrant1_253 ?_
    refine lv_iadd hx hb d_M_quadrant1_254 ?_
    refine lv_sipush (v := nI 2048) hx hb d_M_quadrant1_255 (by decide) ?_
    refine lv_aload_n hx hb d_M_quadrant1_258 rfl (lv_at hl 2 rfl) ?_
    refine lv_bipush (v := nI 12) hx hb d_M_quadrant1_259 (by decide) ?_
    refine lv_bipush (v := nI 12) hx hb d_M_quadrant1_261 (by decide) ?_
    refine callE (W.runV (b := h1) (As := [.int (nI 12), .int (nI 12)]) (rest := [.int (nI 2048), .int ((((((((nI 1024) * (f_M_bits hh 8 8)) + ((nI 256) * (f_M_bits hh 10 9))) + ((nI 128) * (f_M_bits hh 6 6))) + ((nI 64) * (f_M_bits hh 7 7))) + ((nI 32) * (f_M_bits hh 2 2))) + ((nI 16) * (f_M_bits hh 11 11))) + ((nI 2) * (f_M_bits hh 5 3)))]) ⟨hx, hb, hml, hown, hts⟩ (c_M_bits l dC dI h1 hh 12 12 (by decide) (by decide) (by decide)) (cwV 2 hts (gV awx k_329 k_331 ks_4 k_2 k_332) rfl rfl rfl (by decide +kernel) ⟨Nat.le_of_ble_eq_true rfl, Nat.le_of_ble_eq_true rfl⟩) (mo_pre hT) rfl rfl hl.1 rfl (lv_room (Nat.le_of_ble_eq_true rfl)) d_M_quadrant1_263 ⟨Nat.zero_le _, Nat.zero_le _⟩) ?_
    refine lv_imul hx hb d_M_quadrant1_266 ?_
    refine lv_isub hx hb d_M_quadrant1_267 ?_
    refine callE (W.runS (As := [.int (((((((((nI 1024) * (f_M_bits hh 8 8)) + ((nI 256) * (f_M_bits hh 10 9))) + ((nI 128) * (f_M_bits hh 6 6))) + ((nI 64) * (f_M_bits hh 7 7))) + ((nI 32) * (f_M_bits hh 2 2))) + ((nI 16) * (f_M_bits hh 11 11))) + ((nI 2) * (f_M_bits hh 5 3))) - ((nI 2048) * (f_M_bits hh 12 12)))]) (rest := []) ⟨hx, hb, hml, hown, hts⟩ (c_M_wordJ l (((((((((nI 1024) * (f_M_bits hh 8 8)) + ((nI 256) * (f_M_bits hh 10 9))) + ((nI 128) * (f_M_bits hh 6 6))) + ((nI 64) * (f_M_bits hh 7 7))) + ((nI 32) * (f_M_bits hh 2 2))) + ((nI 16) * (f_M_bits hh 11 11))) + ((nI 2) * (f_M_bits hh 5 3))) - ((nI 2048) * (f_M_bits hh 12 12)))) (cwS 1 hts (gS k_373 k_374 k_2 k_375) rfl rfl rfl (by decide +kernel) ⟨Nat.le_of_ble_eq_true rfl, Nat.le_of_ble_eq_true rfl⟩) pre0 rfl rfl hl.1 rfl (lv_room (Nat.le_of_ble_eq_true rfl)) d_M_quadrant1_268 ⟨Nat.zero_le _, Nat.zero_le _⟩) ?_
    exact W.iret hx hb hr (fun t ht _ => ⟨_, rfl, by rw [f_M_quadrant1, if_neg c1, if_neg c2, if_neg c4, if_neg c5, if_neg c6, if_pos c7], ht⟩) (fun q h => nomatch h) d_M_quadrant1_271
  by_cases c8 : (f_M_bits hh 15 13) = nI 6
  · refine lv_tableIn (tgt := 272) (off := 200) hx hb d_M_quadrant1_72 (by rw [c8]; decide +kernel) (by rw [c8]; decide +kernel) (by rw [c8]; decide +kernel) (by decide) ?_
    refine lv_iconst (v := nI 0) hx hb d_M_quadrant1_272 (by decide) ?_
    refine lv_bipush (v := nI 8) hx hb d_M_quadrant1_273 (by decide) ?_
    refine lv_aload_n hx hb d_M_quadrant1_275 rfl (lv_at hl 2 rfl) ?_
    refine lv_bipush (v := nI 9) hx hb d_M_quadrant1_276 (by decide) ?_
    refine lv_bipush (v := nI 7) hx hb d_M_quadrant1_278 (by decide) ?_
    refine callE (W.runV (b := h1) (As := [.int (nI 9), .int (nI 7)]) (rest := [.int (nI 8), .int (nI 0)]) ⟨hx, hb, hml, hown, hts⟩ (c_M_bits l dC dI h1 hh 9 7 (by decide) (by decide) (by decide)) (cwV 2 hts (gV awx k_329 k_331 ks_4 k_2 k_332) rfl rfl rfl (by decide +kernel) ⟨Nat.le_of_ble_eq_true rfl, Nat.le_of_ble_eq_true rfl⟩) (mo_pre hT) rfl rfl hl.1 rfl (lv_room (Nat.le_of_ble_eq_true rfl)) d_M_quadrant1_280 ⟨Nat.zero_le _, Nat.zero_le _⟩) ?_
    refine lv_iadd hx hb d_M_quadrant1_283 ?_
    refine lv_iload_n hx hb d_M_quadrant1_284 rfl (lv_at hl 0 rfl) ?_
    refine callE (W.runS (As := [.int (nI 0), .int ((nI 8) + (f_M_bits hh 9 7)), .int ((((((nI 64) * (f_M_bits hh 6 5)) + ((nI 32) * (f_M_bits hh 2 2))) + ((nI 8) * (f_M_bits hh 11 10))) + ((nI 2) * (f_M_bits hh 4 3))) - ((nI 256) * (f_M_bits hh 12 12)))]) (rest := []) ⟨hx, hb, hml, hown, hts⟩ (c_M_wordB l (nI 0) ((nI 8) + (f_M_bits hh 9 7)) ((((((nI 64) * (f_M_bits hh 6 5)) + ((nI 32) * (f_M_bits hh 2 2))) + ((nI 8) * (f_M_bits hh 11 10))) + ((nI 2) * (f_M_bits hh 4 3))) - ((nI 256) * (f_M_bits hh 12 12)))) (cwS 3 hts (gS k_379 k_380 k_2 k_381) rfl rfl rfl (by decide +kernel) ⟨Nat.le_of_ble_eq_true rfl, Nat.le_of_ble_eq_true rfl⟩) pre0 rfl rfl hl.1 rfl (lv_room (Nat.le_of_ble_eq_true rfl)) d_M_quadrant1_285 ⟨Nat.zero_le _, Nat.zero_le _⟩) ?_
    exact W.iret hx hb hr (fun t ht _ => ⟨_, rfl, by rw [f_M_quadrant1, if_neg c1, if_neg c2, if_neg c4, if_neg c5, if_neg c6, if_neg c7, if_pos c8], ht⟩) (fun q h => nomatch h) d_M_quadrant1_288
  have c1z := lv_neT (a := 0) c1 (by decide)
  have c2z := lv_neT (a := 1) c2 (by decide)
  have c4z := lv_neT (a := 2) c4 (by decide)
  have c5z := lv_neT (a := 3) c5 (by decide)
  have c6z := lv_neT (a := 4) c6 (by decide)
  have c7z := lv_neT (a := 5) c7 (by decide)
  have c8z := lv_neT (a := 6) c8 (by decide)
  refine lv_tableOut (tgt := 289) hx hb d_M_quadrant1_72 (by omega) (by decide) ?_
  refine lv_iconst (v := nI 1) hx hb d_M_quadrant1_289 (by decide) ?_
  refine lv_bipush (v := nI 8) hx hb d_M_quadrant1_290 (by decide) ?_
  refine lv_aload_n hx hb d_M_quadrant1_292 rfl (lv_at hl 2 rfl) ?_
  refine lv_bipush (v := nI 9) hx hb d_M_quadrant1_293 (by decide) ?_
  refine lv_bipush (v := nI 7) hx hb d_M_quadrant1_295 (by decide) ?_
  refine callE (W.runV (b := h1) (As := [.int (nI 9), .int (nI 7)]) (rest := [.int (nI 8), .int (nI 1)]) ⟨hx, hb, hml, hown, hts⟩ (c_M_bits l dC dI h1 hh 9 7 (by decide) (by decide) (by decide)) (cwV 2 hts (gV awx k_329 k_331 ks_4 k_2 k_332) rfl rfl rfl (by decide +kernel) ⟨Nat.le_of_ble_eq_true rfl, Nat.le_of_ble_eq_true rfl⟩) (mo_pre hT) rfl rfl hl.1 rfl (lv_room (Nat.le_of_ble_eq_true rfl)) d_M_quadrant1_297 ⟨Nat.zero_le _, Nat.zero_le _⟩) ?_
  refine lv_iadd hx hb d_M_quadrant1_300 ?_
  refine lv_iload_n hx hb d_M_quadrant1_301 rfl (lv_at hl 0 rfl) ?_
  refine callE (W.runS (As := [.int (nI 1), .int ((nI 8) + (f_M_bits hh 9 7)), .int ((((((nI 64) * (f_M_bits hh 6 5)) + ((nI 32) * (f_M_bits hh 2 2))) + ((nI 8) * (f_M_bits hh 11 10))) + ((nI 2) * (f_M_bits hh 4 3))) - ((nI 256) * (f_M_bits hh 12 12)))]) (rest := []) ⟨hx, hb, hml, hown, hts⟩ (c_M_wordB l (nI 1) ((nI 8) + (f_M_bits hh 9 7)) ((((((nI 64) * (f_M_bits hh 6 5)) + ((nI 32) * (f_M_bits hh 2 2))) + ((nI 8) * (f_M_bits hh 11 10))) + ((nI 2) * (f_M_bits hh 4 3))) - ((nI 256) * (f_M_bits hh 12 12)))) (cwS 3 hts (gS k_379 k_380 k_2 k_381) rfl rfl rfl (by decide +kernel) ⟨Nat.le_of_ble_eq_true rfl, Nat.le_of_ble_eq_true rfl⟩) pre0 rfl rfl hl.1 rfl (lv_room (Nat.le_of_ble_eq_true rfl)) d_M_quadrant1_302 ⟨Nat.zero_le _, Nat.zero_le _⟩) ?_
  exact W.iret hx hb hr (fun t ht _ => ⟨_, rfl, by rw [f_M_quadrant1, if_neg c1, if_neg c2, if_neg c4, if_neg c5, if_neg c6, if_neg c7, if_neg c8], ht⟩) (fun q h => nomatch h) d_M_quadrant1_305
