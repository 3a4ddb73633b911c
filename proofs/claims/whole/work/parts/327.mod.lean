set_option maxHeartbeats 40000000 in
set_option maxRecDepth 100000 in
theorem c_M_jumps (l : Launch) (dC : Nat → ClassId) (dI : Nat → Nat → Nat) (h1 : Nat) (hh : Int32) (a1 a2 : Int32) : Met l y_M_jumps w_M_jumps { frames := 2, cells := 0, slots := 0, locals := 49 } (va_Pc [.ref h1, .int a1, .int a2] (mo dC dI h1 hh)) (vp_Si (fun r => r = f_M_jumps hh a1 a2)) 0 0 (fun _ => False) := by
  refine Met.ofW (cc := b_M_jumps) (maxL := 3) (ret := (some .int)) (by decide) rfl ?_
  intro p e s m args below meth c s₁ B hml hv
  obtain ⟨rfl, hT⟩ := hv
  have hx := B.exec
  have hb := B.bytes
  have hr := B.returns
  have hts := atoms_spec (ws := w_M_jumps) B.pre
  have hown : s.vm.findClass R_M = some m.cls := findClass_of_methodNamed B.named
  have hlocks := B.notSynchronized
  have hl := lv_entry ([.ref h1, .int a1, .int a2]) (n := 3) (Nat.le_of_ble_eq_true rfl)
  rw [lg_entry_eq]
  generalize (lg_sl ([.ref h1, .int a1, .int a2]) ++ List.replicate (3 - (lg_sl ([.ref h1, .int a1, .int a2])).length) Slot.unset).toArray = ls at hl ⊢
  have hl : lv_has ls 3 [(0, .ref h1), (1, .int a1), (2, .int a2)] := hl
  obtain ⟨th, wt, fi, wo, le, wn, hP, hK⟩ := id hT
  have hP : va_P (dC, dI) classes [(h1, .inr (1, [.int th, .int hh, .int wt, .int fi, .int wo, .int le, .int wn]))] s.heap := hP
  refine lv_iload_n hx hb d_M_jumps_0 rfl (lv_at hl 2 rfl) ?_
  refine lv_if_ne (tgt := 33) hx hb d_M_jumps_1 (by decide) (fun c1 => ?_) (fun c1 => ?_)
  · refine lv_iload_n hx hb d_M_jumps_33 rfl (lv_at hl 2 rfl) ?_
    refine lv_if_ne (tgt := 63) hx hb d_M_jumps_34 (by decide) (fun c2 => ?_) (fun c2 => ?_)
    · refine lv_bipush (v := nI 51) hx hb d_M_jumps_63 (by decide) ?_
      refine lv_iload_n hx hb d_M_jumps_65 rfl (lv_at hl 1 rfl) ?_
      refine lv_iconst (v := nI 0) hx hb d_M_jumps_66 (by decide) ?_
      refine lv_aload_n hx hb d_M_jumps_67 rfl (lv_at hl 0 rfl) ?_
      refine lv_bipush (v := nI 12) hx hb d_M_jumps_68 (by decide) ?_
      refine lv_bipush (v := nI 12) hx hb d_M_jumps_70 (by decide) ?_
      refine callE (W.runV (b := h1) (As := [.int (nI 12), .int (nI 12)]) (rest := [.int (nI 0), .int a1, .int (nI 51)]) ⟨hx, hb, hml, hown, hts⟩ (c_M_bits l dC dI h1 hh 12 12 (by decide) (by decide) (by decide)) (cwV 2 hts (gV awx k_329 k_331 ks_4 k_2 k_332) rfl rfl rfl (by decide +kernel) ⟨Nat.le_of_ble_eq_true rfl, Nat.le_of_ble_eq_true rfl⟩) (mo_pre hT) rfl rfl hl.1 rfl (lv_room (Nat.le_of_ble_eq_true rfl)) d_M_jumps_72 ⟨Nat.zero_le _, Nat.zero_le _⟩) ?_
      refine lv_if_ne (tgt := 82) hx hb d_M_jumps_75 (by decide) (fun c3 => ?_) (fun c3 => ?_)
      · refine lv_iload_n hx hb d_M_jumps_82 rfl (lv_at hl 1 rfl) ?_
        refine lv_iload_n hx hb d_M_jumps_83 rfl (lv_at hl 2 rfl) ?_
        refine lv_iconst (v := nI 0) hx hb d_M_jumps_84 (by decide) ?_
        refine callE (W.runS (As := [.int (nI 51), .int a1, .int (nI 0), .int a1, .int a2, .int (nI 0)]) (rest := []) ⟨hx, hb, hml, hown, hts⟩ (c_M_wordR l (nI 51) a1 (nI 0) a1 a2 (nI 0)) (cwS 6 hts (gS k_370 k_371 k_2 k_372) rfl rfl rfl (by decide +kernel) ⟨Nat.le_of_ble_eq_true rfl, Nat.le_of_ble_eq_true rfl⟩) pre0 rfl rfl hl.1 rfl (lv_room (Nat.le_of_ble_eq_true rfl)) d_M_jumps_85 ⟨Nat.zero_le _, Nat.zero_le _⟩) ?_
        exact W.iret hx hb hr (fun t ht _ => ⟨_, rfl, by rw [f_M_jumps, if_neg c1, if_neg c2, if_neg c3], ht⟩) (fun q h => nomatch h) d_M_jumps_88
      · refine lv_iconst (v := nI 0) hx hb d_M_jumps_78 (by decide) ?_
        refine lv_goto (tgt := 83) hx hb d_M_jumps_79 (by decide) ?_
        refine lv_iload_n hx hb d_M_jumps_83 rfl (lv_at hl 2 rfl) ?_
        refine lv_iconst (v := nI 0) hx hb d_M_jumps_84 (by decide) ?_
        refine callE (W.runS (As := [.int (nI 51), .int a1, .int (nI 0), .int (nI 0), .int a2, .int (nI 0)]) (rest := []) ⟨hx, hb, hml, hown, hts⟩ (c_M_wordR l (nI 51) a1 (nI 0) (nI 0) a2 (nI 0)) (cwS 6 hts (gS k_370 k_371 k_2 k_372) rfl rfl rfl (by decide +kernel) ⟨Nat.le_of_ble_eq_true rfl, Nat.le_of_ble_eq_true rfl⟩) pre0 rfl rfl hl.1 rfl (lv_room (Nat.le_of_ble_eq_true rfl)) d_M_jumps_85 ⟨Nat.zero_le _, Nat.zero_le _⟩) ?_
        exact W.iret hx hb hr (fun t ht _ => ⟨_, rfl, by rw [f_M_jumps, if_neg c1, if_neg c2, if_pos c3], ht⟩) (fun q h => nomatch h) d_M_jumps_88
    · refine lv_iload_n hx hb d_M_jumps_37 rfl (lv_at hl 1 rfl) ?_
      refine lv_if_ne (tgt := 53) hx hb d_M_jumps_38 (by decide) (fun c4 => ?_) (fun c4 => ?_)
      · refine lv_bipush (v := nI 103) hx hb d_M_jumps_53 (by decide) ?_
        refine lv_iconst (v := nI 1) hx hb d_M_jumps_55 (by decide) ?_
        refine lv_iconst (v := nI 0) hx hb d_M_jumps_56 (by decide) ?_
        refine lv_iload_n hx hb d_M_jumps_57 rfl (lv_at hl 1 rfl) ?_
        refine lv_iconst (v := nI 0) hx hb d_M_jumps_58 (by decide) ?_
        refine callE (W.runS (As := [.int (nI 103), .int (nI 1), .int (nI 0), .int a1, .int (nI 0)]) (rest := []) ⟨hx, hb, hml, hown, hts⟩ (c_M_wordI l (nI 103) (nI 1) (nI 0) a1 (nI 0)) (cwS 5 hts (gS k_333 k_334 k_2 k_335) rfl rfl rfl (by decide +kernel) ⟨Nat.le_of_ble_eq_true rfl, Nat.le_of_ble_eq_true rfl⟩) pre0 rfl rfl hl.1 rfl (lv_room (Nat.le_of_ble_eq_true rfl)) d_M_jumps_59 ⟨Nat.zero_le _, Nat.zero_le _⟩) ?_
        exact W.iret hx hb hr (fun t ht _ => ⟨_, rfl, by rw [f_M_jumps, if_neg c1, if_pos c2, if_neg c4], ht⟩) (fun q h => nomatch h) d_M_jumps_62
      · refine lv_bipush (v := nI 115) hx hb d_M_jumps_41 (by decide) ?_
        refine lv_iconst (v := nI 0) hx hb d_M_jumps_43 (by decide) ?_
        refine lv_iconst (v := nI 0) hx hb d_M_jumps_44 (by decide) ?_
        refine lv_iconst (v := nI 0) hx hb d_M_jumps_45 (by decide) ?_
        refine lv_iconst (v := nI 1) hx hb d_M_jumps_46 (by decide) ?_
        refine callE (W.runS (As := [.int (nI 115), .int (nI 0), .int (nI 0), .int (nI 0), .int (nI 1)]) (rest := []) ⟨hx, hb, hml, hown, hts⟩ (c_M_wordI l (nI 115) (nI 0) (nI 0) (nI 0) (nI 1)) (cwS 5 hts (gS k_333 k_334 k_2 k_335) rfl rfl rfl (by decide +kernel) ⟨Nat.le_of_ble_eq_true rfl, Nat.le_of_ble_eq_true rfl⟩) pre0 rfl rfl hl.1 rfl (lv_room (Nat.le_of_ble_eq_true rfl)) d_M_jumps_47 ⟨Nat.zero_le _, Nat.zero_le _⟩) ?_
        refine lv_goto (tgt := 62) hx hb d_M_jumps_50 (by decide) ?_
        exact W.iret hx hb hr (fun t ht _ => ⟨_, rfl, by rw [f_M_jumps, if_neg c1, if_pos c2, if_pos c4], ht⟩) (fun q h => nomatch h) d_M_jumps_62
  · refine lv_aload_n hx hb d_M_jumps_4 rfl (lv_at hl 0 rfl) ?_
    refine lv_bipush (v := nI 12) hx hb d_M_jumps_5 (by decide) ?_
    refine lv_bipush (v := nI 12) hx hb d_M_jumps_7 (by decide) ?_
    refine callE (W.runV (b := h1) (As := [.int (nI 12), .int (nI 12)]) (rest := []) ⟨hx, hb, hml, hown, hts⟩ (c_M_bits l dC dI h1 hh 12 12 (by decide) (by decide) (by decide)) (cwV 2 hts (gV awx k_329 k_331 ks_4 k_2 k_332) rfl rfl rfl (by decide +kernel) ⟨Nat.le_of_ble_eq_true rfl, Nat.le_of_ble_eq_true rfl⟩) (mo_pre hT) rfl rfl hl.1 rfl (lv_room (Nat.le_of_ble_eq_true rfl)) d_M_jumps_9 ⟨Nat.zero_le _, Nat.zero_le _⟩) ?_
    refine lv_if_ne (tgt := 33) hx hb d_M_jumps_12 (by decide) (fun c5 => ?_) (fun c5 => ?_)
    · refine lv_iload_n hx hb d_M_jumps_33 rfl (lv_at hl 2 rfl) ?_
      refine lv_if_ne (tgt := 63) hx hb d_M_jumps_34 (by decide) (fun c6 => ?_) (fun c6 => ?_)
      · refine lv_bipush (v := nI 51) hx hb d_M_jumps_63 (by decide) ?_
        refine lv_iload_n hx hb d_M_jumps_65 rfl (lv_at hl 1 rfl) ?_
        refine lv_iconst (v := nI 0) hx hb d_M_jumps_66 (by decide) ?_
        refine lv_aload_n hx hb d_M_jumps_67 rfl (lv_at hl 0 rfl) ?_
        refine lv_bipush (v := nI 12) hx hb d_M_jumps_68 (by decide) ?_
        refine lv_bipush (v := nI 12) hx hb d_M_jumps_70 (by decide) ?_
        refine callE (W.runV (b := h1) (As := [.int (nI 12), .int (nI 12)]) (rest := [.int (nI 0), .int a1, .int (nI 51)]) ⟨hx, hb, hml, hown, hts⟩ (c_M_bits l dC dI h1 hh 12 12 (by decide) (by decide) (by decide)) (cwV 2 hts (gV awx k_329 k_331 ks_4 k_2 k_332) rfl rfl rfl (by decide +kernel) ⟨Nat.le_of_ble_eq_true rfl, Nat.le_of_ble_eq_true rfl⟩) (mo_pre hT) rfl rfl hl.1 rfl (lv_room (Nat.le_of_ble_eq_true rfl)) d_M_jumps_72 ⟨Nat.zero_le _, Nat.zero_le _⟩) ?_
        refine lv_if_ne (tgt := 82) hx hb d_M_jumps_75 (by decide) (fun c7 => ?_) (fun c7 => ?_)
        · refine lv_iload_n hx hb d_M_jumps_82 rfl (lv_at hl 1 rfl) ?_
          refine lv_iload_n hx hb d_M_jumps_83 rfl (lv_at hl 2 rfl) ?_
          refine lv_iconst (v := nI 0) hx hb d_M_jumps_84 (by decide) ?_
          refine callE (W.runS (As := [.int (nI 51), .int a1, .int (nI 0), .int a1, .int a2, .int (nI 0)]) (rest := []) ⟨hx, hb, hml, hown, hts⟩ (c_M_wordR l (nI 51) a1 (nI 0) a1 a2 (nI 0)) (cwS 6 hts (gS k_370 k_371 k_2 k_372) rfl rfl rfl (by decide +kernel) ⟨Nat.le_of_ble_eq_true rfl, Nat.le_of_ble_eq_true rfl⟩) pre0 rfl rfl hl.1 rfl (lv_room (Nat.le_of_ble_eq_true rfl)) d_M_jumps_85 ⟨Nat.zero_le _, Nat.zero_le _⟩) ?_
          exact W.iret hx hb hr (fun t ht _ => ⟨_, rfl, by rw [f_M_jumps, if_pos c1, if_neg c5, if_neg c6, if_neg c7], ht⟩) (fun q h => nomatch h) d_M_jumps_88
        · refine lv_iconst (v := nI 0) hx hb d_M_jumps_78 (by decide) ?_
          refine lv_goto (tgt := 83) hx hb d_M_jumps_79 (by decide) ?_
          refine lv_iload_n hx hb d_M_jumps_83 rfl (lv_at hl 2 rfl) ?_
          refine lv_iconst (v := nI 0) hx hb d_M_jumps_84 (by decide) ?_
          refine callE (W.runS (As := [.int (nI 51), .int a1, .int (nI 0), .int (nI 0), .int a2, .int (nI 0)]) (rest := []) ⟨hx, hb, hml, hown, hts⟩ (c_M_wordR l (nI 51) a1 (nI 0) (nI 0) a2 (nI 0)) (cwS 6 hts (gS k_370 k_371 k_2 k_372) rfl rfl rfl (by decide +kernel) ⟨Nat.le_of_ble_eq_true rfl, Nat.le_of_ble_eq_true rfl⟩) pre0 rfl rfl hl.1 rfl (lv_room (Nat.le_of_ble_eq_true rfl)) d_M_jumps_85 ⟨Nat.zero_le _, Nat.zero_le _⟩) ?_
          exact W.iret hx hb hr (fun t ht _ => ⟨_, rfl, by rw [f_M_jumps, if_pos c1, if_neg c5, if_neg c6, if_pos c7], ht⟩) (fun q h => nomatch h) d_M_jumps_88
      · refine lv_iload_n hx hb d_M_jumps_37 rfl (lv_at hl 1 rfl) ?_
        refine lv_if_ne (tgt := 53) hx hb d_M_jumps_38 (by decide) (fun c8 => ?_) (fun c8 => ?_)
        · refine lv_bipush (v := nI 103) hx hb d_M_jumps_53 (by decide) ?_
          refine lv_iconst (v := nI 1) hx hb d_M_jumps_55 (by decide) ?_
          refine lv_iconst (v := nI 0) hx hb d_M_jumps_56 (by decide) ?_
          refine lv_iload_n hx hb d_M_jumps_57 rfl (lv_at hl 1 rfl) ?_
          refine lv_iconst (v := nI 0) hx hb d_M_jumps_58 (by decide) ?_
          refine callE (W.runS (As := [.int (nI 103), .int (nI 1), .int (nI 0), .int a1, .int (nI 0)]) (rest := []) ⟨hx, hb, hml, hown, hts⟩ (c_M_wordI l (nI 103) (nI 1) (nI 0) a1 (nI 0)) (cwS 5 hts (gS k_333 k_334 k_2 k_335) rfl rfl rfl (by decide +kernel) ⟨Nat.le_of_ble_eq_true rfl, Nat.le_of_ble_eq_true rfl⟩) pre0 rfl rfl hl.1 rfl (lv_room (Nat.le_of_ble_eq_true rfl)) d_M_jumps_59 ⟨Nat.zero_le _, Nat.zero_le _⟩) ?_
          exact W.iret hx hb hr (fun t ht _ => ⟨_, rfl, by rw [f_M_jumps, if_pos c1, if_neg c5, if_pos c6, if_neg c8], ht⟩) (fun q h => nomatch h) d_M_jumps_62
        · refine lv_bipush (v := nI 115) hx hb d_M_jumps_41 (by decide) ?_
          refine lv_iconst (v := nI 0) hx hb d_M_jumps_43 (by decide) ?_
          refine lv_iconst (v := nI 0) hx hb d_M_jumps_44 (by decide) ?_
          refine lv_iconst (v := nI 0) hx hb d_M_jumps_45 (by decide) ?_
          refine lv_iconst (v := nI 1) hx hb d_M_jumps_46 (by decide) ?_
          refine callE (W.runS (As := [.int (nI 115), .int (nI 0), .int (nI 0), .int (nI 0), .int (nI 1)]) (rest := []) ⟨hx, hb, hml, hown, hts⟩ (c_M_wordI l (nI 115) (nI 0) (nI 0) (nI 0) (nI 1)) (cwS 5 hts (gS k_333 k_334 k_2 k_335) rfl rfl rfl (by decide +kernel) ⟨Nat.le_of_ble_eq_true rfl, Nat.le_of_ble_eq_true rfl⟩) pre0 rfl rfl hl.1 rfl (lv_room (Nat.le_of_ble_eq_true rfl)) d_M_jumps_47 ⟨Nat.zero_le _, Nat.zero_le _⟩) ?_
          refine lv_goto (tgt := 62) hx hb d_M_jumps_50 (by decide) ?_
          exact W.iret hx hb hr (fun t ht _ => ⟨_, rfl, by rw [f_M_jumps, if_pos c1, if_neg c5, if_pos c6, if_pos c8], ht⟩) (fun q h => nomatch h) d_M_jumps_62
    · refine lv_iload_n hx hb d_M_jumps_15 rfl (lv_at hl 1 rfl) ?_
      refine lv_if_ne (tgt := 23) hx hb d_M_jumps_16 (by decide) (fun c9 => ?_) (fun c9 => ?_)
      · refine lv_bipush (v := nI 103) hx hb d_M_jumps_23 (by decide) ?_
        refine lv_iconst (v := nI 0) hx hb d_M_jumps_25 (by decide) ?_
        refine lv_iconst (v := nI 0) hx hb d_M_jumps_26 (by decide) ?_
        refine lv_iload_n hx hb d_M_jumps_27 rfl (lv_at hl 1 rfl) ?_
        refine lv_iconst (v := nI 0) hx hb d_M_jumps_28 (by decide) ?_
        refine callE (W.runS (As := [.int (nI 103), .int (nI 0), .int (nI 0), .int a1, .int (nI 0)]) (rest := []) ⟨hx, hb, hml, hown, hts⟩ (c_M_wordI l (nI 103) (nI 0) (nI 0) a1 (nI 0)) (cwS 5 hts (gS k_333 k_334 k_2 k_335) rfl rfl rfl (by decide +kernel) ⟨Nat.le_of_ble_eq_true rfl, Nat.le_of_ble_eq_true rfl⟩) pre0 rfl rfl hl.1 rfl (lv_room (Nat.le_of_ble_eq_true rfl)) d_M_jumps_29 ⟨Nat.zero_le _, Nat.zero_le _⟩) ?_
        exact W.iret hx hb hr (fun t ht _ => ⟨_, rfl, by rw [f_M_jumps, if_pos c1, if_pos c5, if_neg c9], ht⟩) (fun q h => nomatch h) d_M_jumps_32
      · refine lv_iconst (v := nI 0) hx hb d_M_jumps_19 (by decide) ?_
        refine lv_goto (tgt := 32) hx hb d_M_jumps_20 (by decide) ?_
        exact W.iret hx hb hr (fun t ht _ => ⟨_, rfl, by rw [f_M_jumps, if_pos c1, if_pos c5, if_pos c9], ht⟩) (fun q h => nomatch h) d_M_jumps_32
set_option maxHeartbeats 40000000 in
set_option maxRecDepth 100000 in
theorem c_M_quadrant2 (l : Launch) (dC : Nat → ClassId) (dI : Nat → Nat → Nat) (h1 : Nat) (hh : Int32) : Met l y_M_quadrant2 w_M_quadrant2 { frames := 3, cells := 0, slots := 0, locals := 71 } (va_Pc [.ref h1] (mo dC dI h1 hh)) (vp_Si (fun r => r = f_M_quadrant2 hh)) 0 0 (fun _ => False) := by
  refine Met.ofW (cc := b_M_quadrant2) (maxL := 5) (ret := (some .int)) (by decide) rfl ?_
  intro p e s m args below meth c s₁ B hml hv
  obtain ⟨rfl, hT⟩ := hv
  have hx := B.exec
  have hb := B.bytes
  have hr := B.returns
  have hts := atoms_spec (ws := w_M_quadrant2) B.pre
  have hown : s.vm.findClass R_M = some m.cls := findClass_of_methodNamed B.named
  have hlocks := B.notSynchronized
  have hl := lv_entry ([.ref h1]) (n := 5) (Nat.le_of_ble_eq_true rfl)
  rw [lg_entry_eq]
  generalize (lg_sl ([.ref h1]) ++ List.replicate (5 - (lg_sl ([.ref h1])).length) Slot.unset).toArray = ls at hl ⊢
  have hl : lv_has ls 5 [(0, .ref h1)] := hl
  obtain ⟨th, wt, fi, wo, le, wn, hP, hK⟩ := id hT
  have hP : va_P (dC, dI) classes [(h1, .inr (1, [.int th, .int hh, .int wt, .int fi, .int wo, .int le, .int wn]))] s.heap := hP
  refine lv_aload_n hx hb d_M_quadrant2_0 rfl (lv_at hl 0 rfl) ?_
  refine lv_bipush (v := nI 11) hx hb d_M_quadrant2_1 (by decide) ?_
  refine lv_bipush (v := nI 7) hx hb d_M_quadrant2_3 (by decide) ?_
  refine callE (W.runV (b := h1) (As := [.int (nI 11), .int (nI 7)]) (rest := []) ⟨hx, hb, hml, hown, hts⟩ (c_M_bits l dC dI h1 hh 11 7 (by decide) (by decide) (by decide)) (cwV 2 hts (gV awx k_329 k_331 ks_4 k_2 k_332) rfl rfl rfl (by decide +kernel) ⟨Nat.le_of_ble_eq_true rfl, Nat.le_of_ble_eq_true rfl⟩) (mo_pre hT) rfl rfl hl.1 rfl (lv_room (Nat.le_of_ble_eq_true rfl)) d_M_quadrant2_5 ⟨Nat.zero_le _, Nat.zero_le _⟩) ?_
  refine lv_istore_n (lv' := [(1, .int (f_M_bits hh 11 7)), (0, .ref h1)]) hx hb d_M_quadrant2_8 rfl hl (by decide) rfl (fun ls hl => ?_)
  refine lv_aload_n hx hb d_M_quadrant2_9 rfl (lv_at hl 1 rfl) ?_
  refine lv_bipush (v := nI 6) hx hb d_M_quadrant2_10 (by decide) ?_
  refine lv_iconst (v := nI 2) hx hb d_M_quadrant2_12 (by decide) ?_
  refine callE (W.runV (b := h1) (As := [.int (nI 6), .int (nI 2)]) (rest := []) ⟨hx, hb, hml, hown, hts⟩ (c_M_bits l dC dI h1 hh 6 2 (by decide) (by decide) (by decide)) (cwV 2 hts (gV awx k_329 k_331 ks_4 k_2 k_332) rfl rfl rfl (by decide +kernel) ⟨Nat.le_of_ble_eq_true rfl, Nat.le_of_ble_eq_true rfl⟩) (mo_pre hT) rfl rfl hl.1 rfl (lv_room (Nat.le_of_ble_eq_true rfl)) d_M_quadrant2_13 ⟨Nat.zero_le _, Nat.zero_le _⟩) ?_
  refine lv_istore_n (lv' := [(2, .int (f_M_bits hh 6 2)), (1, .int (f_M_bits hh 11 7)), (0, .ref h1)]) hx hb d_M_quadrant2_16 rfl hl (by decide) rfl (fun ls hl => ?_)
  refine lv_bipush (v := nI 64) hx hb d_M_quadrant2_17 (by decide) ?_
  refine lv_aload_n hx hb d_M_quadrant2_19 rfl (lv_at hl 2 rfl) ?_
  refine lv_iconst (v := nI 4) hx hb d_M_quadrant2_20 (by decide) ?_
  refine lv_iconst (v := nI 2) hx hb d_M_quadrant2_21 (by decide) ?_
  refine callE (W.runV (b := h1) (As := [.int (nI 4), .int (nI 2)]) (rest := [.int (nI 64)]) ⟨hx, hb, hml, hown, hts⟩ (c_M_bits l dC dI h1 hh 4 2 (by decide) (by decide) (by decide)) (cwV 2 hts (gV awx k_329 k_331 ks_4 k_2 k_332) rfl rfl rfl (by decide +kernel) ⟨Nat.le_of_ble_eq_true rfl, Nat.le_of_ble_eq_true rfl⟩) (mo_pre hT) rfl rfl hl.1 rfl (lv_room (Nat.le_of_ble_eq_true rfl)) d_M_quadrant2_22 ⟨Nat.zero_le _, Nat.zero_le _⟩) ?_
  refine lv_imul hx hb d_M_quadrant2_25 ?_
  refine lv_bipush (v := nI 32) hx hb d_M_quadrant2_26 (by decide) ?_
  refine lv_aload_n hx hb d_M_quadrant2_28 rfl (lv_at hl 2 rfl) ?_
  refine lv_bipush (v := nI 12) hx hb d_M_quadrant2_29 (by decide) ?_
  refine lv_bipush (v := nI 12) hx hb d_M_quadrant2_31 (by decide) ?_
  refine callE (W.runV (b := h1) (As := [.int (nI 12), .int (nI 12)]) (rest := [.int (nI 32), .int ((nI 64) * (f_M_bits hh 4 2))]) ⟨hx, hb, hml, hown, hts⟩ (c_M_bits l dC dI h1 hh 12 12 (by decide) (by decide) (by decide)) (cwV 2 hts (gV awx k_329 k_331 ks_4 k_2 k_332) rfl rfl rfl (by decide +kernel) ⟨Nat.le_of_ble_eq_true rfl, Nat.le_of_ble_eq_true rfl⟩) (mo_pre hT) rfl rfl hl.1 rfl (lv_room (Nat.le_of_ble_eq_true rfl)) d_M_quadrant2_33 ⟨Nat.zero_le _, Nat.zero_le _⟩) ?_
  refine lv_imul hx hb d_M_quadrant2_36 ?_
  refine lv_iadd hx hb d_M_quadrant2_37 ?_
  refine lv_bipush (v := nI 8) hx hb d_M_quadrant2_38 (by decide) ?_
  refine lv_aload_n hx hb d_M_quadrant2_40 rfl (lv_at hl 2 rfl) ?_
  refine lv_bipush (v := nI 6) hx hb d_M_quadrant2_41 (by decide) ?_
  refine lv_iconst (v := nI 5) hx hb d_M_quadrant2_43 (by decide) ?_
  refine callE (W.runV (b := h1) (As := [.int (nI 6), .int (nI 5)]) (rest := [.int (nI 8), .int (((nI 64) * (f_M_bits hh 4 2)) + ((nI 32) * (f_M_bits hh 12 12)))]) ⟨hx, hb, hml, hown, hts⟩ (c_M_bits l dC dI h1 hh 6 5 (by decide) (by decide) (by decide)) (cwV 2 hts (gV awx k_329 k_331 ks_4 k_2 k_332) rfl rfl rfl (by decide +kernel) ⟨Nat.le_of_ble_eq_true rfl, Nat.le_of_ble_eq_true rfl⟩) (mo_pre hT) rfl rfl hl.1 rfl (lv_room (Nat.le_of_ble_eq_true rfl)) d_M_quadrant2_44 ⟨Nat.zero_le _, Nat.zero_le _⟩) ?_
  refine lv_imul hx hb d_M_quadrant2_47 ?_
  refine lv_iadd hx hb d_M_quadrant2_48 ?_
  refine lv_istore_n (lv' := [(3, .int ((((nI 64) * (f_M_bits hh 4 2)) + ((nI 32) * (f_M_bits hh 12 12))) + ((nI 8) * (f_M_bits hh 6 5)))), (2, .int (f_M_bits hh 6 2)), (1, .int (f_M_bits hh 11 7)), (0, .ref h1)]) hx hb d_M_quadrant2_49 rfl hl (by decide) rfl (fun ls hl => ?_)
  refine lv_bipush (v := nI 64) hx hb d_M_quadrant2_50 (by decide) ?_
  refine lv_aload_n hx hb d_M_quadrant2_52 rfl (lv_at hl 3 rfl) ?_
  refine lv_bipush (v := nI 9) hx hb d_M_quadrant2_53 (by decide) ?_
  refine lv_bipush (v := nI 7) hx hb d_M_quadrant2_55 (by decide) ?_
  refine callE (W.runV (b := h1) (As := [.int (nI 9), .int (nI 7)]) (rest := [.int (nI 64)]) ⟨hx, hb, hml, hown, hts⟩ (c_M_bits l dC dI h1 hh 9 7 (by decide) (by decide) (by decide)) (cwV 2 hts (gV awx k_329 k_331 ks_4 k_2 k_332) rfl rfl rfl (by decide +kernel) ⟨Nat.le_of_ble_eq_true rfl, Nat.le_of_ble_eq_true rfl⟩) (mo_pre hT) rfl rfl hl.1 rfl (lv_room (Nat.le_of_ble_eq_true rfl)) d_M_quadrant2_57 ⟨Nat.zero_le _, Nat.zero_le _⟩) ?_
  refine lv_imul hx hb d_M_quadrant2_60 ?_
  refine lv_bipush (v := nI 8) hx hb d_M_quadrant2_61 (by decide) ?_
  refine lv_aload_n hx hb d_M_quadrant2_63 rfl (lv_at hl 3 rfl) ?_
  refine lv_bipush (v := nI 12) hx hb d_M_quadrant2_64 (by decide) ?_
  refine lv_bipush (v := nI 10) hx hb d_M_quadrant2_66 (by decide) ?_
  refine callE (W.runV (b := h1) (As := [.int (nI 12), .int (nI 10)]) (rest := [.int (nI 8), .int ((nI 64) * (f_M_bits hh 9 7))]) ⟨hx, hb, hml, hown, hts⟩ (c_M_bits l dC dI h1 hh 12 10 (by decide) (by decide) (by decide)) (cwV 2 hts (gV awx k_329 k_331 ks_4 k_2 k_332) rfl rfl rfl (by decide +kernel) ⟨Nat.le_of_ble_eq_true rfl, Nat.le_of_ble_eq_true rfl⟩) (mo_pre hT) rfl rfl hl.1 rfl (lv_room (Nat.le_of_ble_eq_true rfl)) d_M_quadrant2_68 ⟨Nat.zero_le _, Nat.zero_le _⟩) ?_
  refine lv_imul hx hb d_M_quadrant2_71 ?_
  refine lv_iadd hx hb d_M_quadrant2_72 ?_
  refine lv_istore (lv' := [(4, .int (((nI 64) * (f_M_bits hh 9 7)) + ((nI 8) * (f_M_bits hh 12 10)))), (3, .int ((((nI 64) * (f_M_bits hh 4 2)) + ((nI 32) * (f_M_bits hh 12 12))) + ((nI 8) * (f_M_bits hh 6 5)))), (2, .int (f_M_bits hh 6 2)), (1, .int (f_M_bits hh 11 7)), (0, .ref h1)]) hx hb d_M_quadrant2_73 hl (by decide) rfl (fun ls hl => ?_)
  refine lv_aload_n hx hb d_M_quadrant2_75 rfl (lv_at hl 4 rfl) ?_
  refine lv_bipush (v := nI 15) hx hb d_M_quadrant2_76 (by decide) ?_
  refine lv_bipush (v := nI 13) hx hb d_M_quadrant2_78 (by decide) ?_
  refine callE (W.runV (b := h1) (As := [.int (nI 15), .int (nI 13)]) (rest := []) ⟨hx, hb, hml, hown, hts⟩ (c_M_bits l dC dI h1 hh 15 13 (by decide) (by decide) (by decide)) (cwV 2 hts (gV awx k_329 k_331 ks_4 k_2 k_332) rfl rfl rfl (by decide +kernel) ⟨Nat.le_of_ble_eq_true rfl, Nat.le_of_ble_eq_true rfl⟩) (mo_pre hT) rfl rfl hl.1 rfl (lv_room (Nat.le_of_ble_eq_true rfl)) d_M_quadrant2_80 ⟨Nat.zero_le _, Nat.zero_le _⟩) ?_
  by_cases c1 : (f_M_bits hh 15 13) = nI 0
  · refine lv_tableIn (tgt := 124) (off := 41) hx hb d_M_quadrant2_83 (by rw [c1]; decide +kernel) (by rw [c1]; decide +kernel) (by rw [c1]; decide +kernel) (by decide) ?_
    refine lv_bipush (v := nI 19) hx hb d_M_quadrant2_124 (by decide) ?_
    refine lv_iload_n hx hb d_M_quadrant2_126 rfl (lv_at hl 3 rfl) ?_
    refine lv_iconst (v := nI 1) hx hb d_M_quadrant2_127 (by decide) ?_
    refine lv_iload_n hx hb d_M_quadrant2_128 rfl (lv_at hl 3 rfl) ?_
    refine lv_aload_n hx hb d_M_quadrant2_129 rfl (lv_at hl 4 rfl) ?_
    refine callE (W.runV (b := h1) (As := []) (rest := [.int (f_M_bits hh 11 7), .int (nI 1), .int (f_M_bits hh 11 7), .int (nI 19)]) ⟨hx, hb, hml, hown, hts⟩ (c_M_plain l dC dI h1 hh ) (cwV 0 hts (gV awx k_358 k_360 ks_9 k_2 k_361) rfl rfl rfl (by decide +kernel) ⟨Nat.le_of_ble_eq_true rfl, Nat.le_of_ble_eq_true rfl⟩) (mo_pre hT) rfl rfl hl.1 rfl (lv_room (Nat.le_of_ble_eq_true rfl)) d_M_quadrant2_130 ⟨Nat.zero_le _, Nat.zero_le _⟩) ?_
    refine callE (W.runS (As := [.int (nI 19), .int (f_M_bits hh 11 7), .int (nI 1), .int (f_M_bits hh 11 7), .int (f_M_plain hh )]) (rest := []) ⟨hx, hb, hml, hown, hts⟩ (c_M_wordI l (nI 19) (f_M_bits hh 11 7) (nI 1) (f_M_bits hh 11 7) (f_M_plain hh )) (cwS 5 hts (gS k_333 k_334 k_2 k_335) rfl rfl rfl (by decide +kernel) ⟨Nat.le_of_ble_eq_true rfl, Nat.le_of_ble_eq_true rfl⟩) pre0 rfl rfl hl.1 rfl (lv_room (Nat.le_of_ble_eq_true rfl)) d_M_quadrant2_133 ⟨Nat.zero_le _, Nat.zero_le _⟩) ?_
    exact W.iret hx hb hr (fun t ht _ => ⟨_, rfl, by rw [f_M_quadrant2, if_pos c1], ht⟩) (fun q h => nomatch h) d_M_quadrant2_136
  by_cases c2 : (f_M_bits hh 15 13) = nI 1
  · refine lv_tableIn (tgt := 137) (off := 54) hx hb d_M_quadrant2_83 (by rw [c2]; decide +kernel) (by rw [c2]; decide +kernel) (by rw [c2]; decide +kernel) (by decide) ?_
    refine lv_bipush (v := nI 7) hx hb d_M_quadrant2_137 (by decide) ?_
    refine lv_iload_n hx hb d_M_quadrant2_139 rfl (lv_at hl 3 rfl) ?_
    refine lv_iconst (v := nI 3) hx hb d_M_quadrant2_140 (by decide) ?_
    refine lv_iconst (v := nI 2) hx hb d_M_quadrant2_141 (by decide) ?_
    refine lv_iload_n hx hb d_M_quadrant2_142 rfl (lv_at hl 1 rfl) ?_
    refine callE (W.runS (As := [.int (nI 7), .int (f_M_bits hh 11 7), .int (nI 3), .int (nI 2), .int ((((nI 64) * (f_M_bits hh 4 2)) + ((nI 32) * (f_M_bits hh 12 12))) + ((nI 8) * (f_M_bits hh 6 5)))]) (rest := []) ⟨hx, hb, hml, hown, hts⟩ (c_M_wordI l (nI 7) (f_M_bits hh 11 7) (nI 3) (nI 2) ((((nI 64) * (f_M_bits hh 4 2)) + ((nI 32) * (f_M_bits hh 12 12))) + ((nI 8) * (f_M_bits hh 6 5)))) (cwS 5 hts (gS k_333 k_334 k_2 k_335) rfl rfl rfl (by decide +kernel) ⟨Nat.le_of_ble_eq_true rfl, Nat.le_of_ble_eq_true rfl⟩) pre0 rfl rfl hl.1 rfl (lv_room (Nat.le_of_ble_eq_true rfl)) d_M_quadrant2_143 ⟨Nat.zero_le _, Nat.zero_le _⟩) ?_
    exact W.iret hx hb hr (fun t ht _ => ⟨_, rfl, by rw [f_M_quadrant2, if_neg c1, if_pos c2], ht⟩) (fun q h => nomatch h) d_M_quadrant2_146
  by_cases c3 : (f_M_bits hh 15 13) = nI 2
  · refine lv_tableIn (tgt := 147) (off := 64) hx hb d_M_quadrant2_83 (by rw [c3]; decide +kernel) (by rw [c3]; decide +kernel) (by rw [c3]; decide +kernel) (by decide) ?_
    refine lv_iload_n hx hb d_M_quadrant2_147 rfl (lv_at hl 3 rfl) ?_
    refine lv_if_ne (tgt := 155) hx hb d_M_quadrant2_148 (by decide) (fun c4 => ?_) (fun c4 => ?_)
    · refine lv_iconst (v := nI 3) hx hb d_M_quadrant2_155 (by decide) ?_
      refine lv_iload_n hx hb d_M_quadrant2_156 rfl (lv_at hl 3 rfl) ?_
      refine lv_iconst (v := nI 2) hx hb d_M_quadrant2_157 (by decide) ?_
      refine lv_iconst (v := nI 2) hx hb d_M_quadrant2_158 (by decide) ?_
      refine lv_bipush (v := nI 64) hx hb d_M_quadrant2_159 (by decide) ?_
      refine lv_aload_n hx hb d_M_quadrant2_161 rfl (lv_at hl 4 rfl) ?_
      refine lv_iconst (v := nI 3) hx hb d_M_quadrant2_162 (by decide) ?_
      refine lv_iconst (v := nI 2) hx hb d_M_quadrant2_163 (by decide) ?_
      refine callE (W.runV (b := h1) (As := [.int (nI 3), .int (nI 2)]) (rest := [.int (nI 64), .int (nI 2), .int (nI 2), .int (f_M_bits hh 11 7), .int (nI 3)]) ⟨hx, hb, hml, hown, hts⟩ (c_M_bits l dC dI h1 hh 3 2 (by decide) (by decide) (by decide)) (cwV 2 hts (gV awx k_329 k_331 ks_4 k_2 k_332) rfl rfl rfl (by decide +kernel) ⟨Nat.le_of_ble_eq_true rfl, Nat.le_of_ble_eq_true rfl⟩) (mo_pre hT) rfl rfl hl.1 rfl (lv_room (Nat.le_of_ble_eq_true rfl)) d_M_quadrant2_164 ⟨Nat.zero_le _, Nat.zero_le _⟩) ?_
      refine lv_imul hx hb d_M_quadrant2_167 ?_
      refine lv_bipush (v := nI 32) hx hb d_M_quadrant2_168 (by decide) ?_
      refine lv_aload_n hx hb d_M_quadrant2_170 rfl (lv_at hl 4 rfl) ?_
      refine lv_bipush (v := nI 12) hx hb d_M_quadrant2_171 (by decide) ?_
      refine lv_bipush (v := nI 12) hx hb d_M_quadrant2_173 (by decide) ?_
      refine callE (W.runV (b := h1) (As := [.int (nI 12), .int (nI 12)]) (rest := [.int (nI 32), .int ((nI 64) * (f_M_bits hh 3 2)), .int (nI 2), .int (nI 2), .int (f_M_bits hh 11 7), .int (nI 3)]) ⟨hx, hb, hml, hown, hts⟩ (c_M_bits l dC dI h1 hh 12 12 (by decide) (by decide) (by decide)) (cwV 2 hts (gV awx k_329 k_331 ks_4 k_2 k_332) rfl rfl rfl (by decide +kernel) ⟨Nat.le_of_ble_eq_true rfl, Nat.le_of_ble_eq_true rfl⟩) (mo_pre hT) rfl rfl hl.1 rfl (lv_room (Nat.le_of_ble_eq_true rfl)) d_M_quadrant2_175 ⟨Nat.zero_le _, Nat.zero_le _⟩) ?_
      refine lv_imul hx hb d_M_quadrant2_178 ?_
      refine lv_iadd hx hb d_M_quadrant2_179 ?_
      refine lv_iconst (v := nI 4) hx hb d_M_quadrant2_180 (by decide) ?_
      refine lv_aload_n hx hb d_M_quadrant2_181 rfl (lv_at hl 4 rfl) ?_
      refine lv_bipush (v := nI 6) hx hb d_M_quadrant2_182 (by decide) ?_
      refine lv_iconst (v := nI 4) hx hb d_M_quadrant2_184 (by decide) ?_
      refine callE (W.runV (b := h1) (As := [.int (nI 6), .int (nI 4)]) (rest := [.int (nI 4), .int (((nI 64) * (f_M_bits hh 3 2)) + ((nI 32) * (f_M_bits hh 12 12))), .int (nI 2), .int (nI 2), .int (f_M_bits hh 11 7), .int (nI 3)]) ⟨hx, hb, hml, hown, hts⟩ (c_M_bits l dC dI h1 hh 6 4 (by decide) (by decide) (by decide)) (cwV 2 hts (gV awx k_329 k_331 ks_4 k_2 k_332) rfl rfl rfl (by decide +kernel) ⟨Nat.le_of_ble_eq_true rfl, Nat.le_of_ble_eq_true rfl⟩) (mo_pre hT) rfl rfl hl.1 rfl (lv_room (Nat.le_of_ble_eq_true rfl)) d_M_quadrant2_185 ⟨Nat.zero_le _, Nat.zero_le _⟩) ?_
      refine lv_imul hx hb d_M_quadrant2_188 ?_
      refine lv_iadd hx hb d_M_quadrant2_189 ?_
      refine callE (W.runS (As := [.int (nI 3), .int (f_M_bits hh 11 7), .int (nI 2), .int (nI 2), .int ((((nI 64) * (f_M_bits hh 3 2)) + ((nI 32) * (f_M_bits hh 12 12))) + ((nI 4) * (f_M_bits hh 6 4)))]) (rest := []) ⟨hx, hb, hml, hown, hts⟩ (c_M_wordI l (nI 3) (f_M_bits hh 11 7) (nI 2) (nI 2) ((((nI 64) * (f_M_bits hh 3 2)) + ((nI 32) * (f_M_bits hh 12 12))) + ((nI 4) * (f_M_bits hh 6 4)))) (cwS 5 hts (gS k_333 k_334 k_2 k_335) rfl rfl rfl (by decide +kernel) ⟨Nat.le_of_ble_eq_true rfl, Nat.le_of_ble_eq_true rfl⟩) pre0 rfl rfl hl.1 rfl (lv_room (Nat.le_of_ble_eq_true rfl)) d_M_quadrant2_190 ⟨Nat.zero_le _, Nat.zero_le _⟩) ?_
      exact W.iret hx hb hr (fun t ht _ => ⟨_, rfl, by rw [f_M_quadrant2, if_neg c1, if_neg c2, if_pos c3, if_neg c4], ht⟩) (fun q h => nomatch h) d_M_quadrant2_193
    · refine lv_iconst (v := nI 0) hx hb d_M_quadrant2_151 (by decide) ?_
      refine lv_goto (tgt := 193) hx hb d_M_quadrant2_152 (by decide) ?_
      exact W.iret hx hb hr (fun t ht _ => ⟨_, rfl, by rw [f_M_quadrant2, if_neg c1, if_neg c2, if_pos c3, if_pos c4], ht⟩) (fun q h => nomatch h) d_M_quadrant2_193
  by_cases c5 : (f_M_bits hh 15 13) = nI 3
  · refine lv_tableIn (tgt := 194) (off := 111) hx hb d_M_quadrant2_83 (by rw [c5]; decide +kernel) (by rw [c5]; decide +kernel) (by rw [c5]; decide +kernel) (by decide) ?_
    refine lv_iload_n hx hb d_M_quadrant2_194 rfl (lv_at hl 3 rfl) ?_
    refine lv_if_ne (tgt := 202) hx hb d_M_quadrant2_195 (by decide) (fun c6 => ?_) (fun c6 => ?_)
    · refine lv_iconst (v := nI 3) hx hb d_M_quadrant2_202 (by decide) ?_
      refine lv_iload_n hx hb d_M_quadrant2_203 rfl (lv_at hl 3 rfl) ?_
      refine lv_iconst (v := nI 3) hx hb d_M_quadrant2_204 (by decide) ?_
      refine lv_iconst (v := nI 2) hx hb d_M_quadrant2_205 (by decide) ?_
      refine lv_iload_n hx hb d_M_quadrant2_206 rfl (lv_at hl 1 rfl) ?_
      refine callE (W.runS (As := [.int (nI 3), .int (f_M_bits hh 11 7), .int (nI 3), .int (nI 2), .int ((((nI 64) * (f_M_bits hh 4 2)) + ((nI 32) * (f_M_bits hh 12 12))) + ((nI 8) * (f_M_bits hh 6 5)))]) (rest := []) ⟨hx, hb, hml, hown, hts⟩ (c_M_wordI l (nI 3) (f_M_bits hh 11 7) (nI 3) (nI 2) ((((nI 64) * (f_M_bits hh 4 2)) + ((nI 32) * (f_M_bits hh 12 12))) + ((nI 8) * (f_M_bits hh 6 5)))) (cwS 5 hts (gS k_333 k_334 k_2 k_335) rfl rfl rfl (by decide +kernel) ⟨Nat.le_of_ble_eq_true rfl, Nat.le_of_ble_eq_true rfl⟩) pre0 rfl rfl hl.1 rfl (lv_room (Nat.le_of_ble_eq_true rfl)) d_M_quadrant2_207 ⟨Nat.zero_le _, Nat.zero_le _⟩) ?_
      exact W.iret hx hb hr (fun t ht _ => ⟨_, rfl, by rw [f_M_quadrant2, if_neg c1, if_neg c2, if_neg c3, if_pos c5, if_neg c6], ht⟩) (fun q h => nomatch h) d_M_quadrant2_210
    · refine lv_iconst (v := nI 0) hx hb d_M_quadrant2_198 (by decide) ?_
      refine lv_goto (tgt := 210) hx hb d_M_quadrant2_199 (by decide) ?_
      exact W.iret hx hb hr (fun t ht _ => ⟨_, rfl, by rw [f_M_quadrant2, if_neg c1, if_neg c2, if_neg c3, if_pos c5, if_pos c6], ht⟩) (fun q h => nomatch h) d_M_quadrant2_210
  by_cases c7 : (f_M_bits hh 15 13) = nI 4
  · refine lv_tableIn (tgt := 211) (off := 128) hx hb d_M_quadrant2_83 (by rw [c7]; decide +kernel) (by rw [c7]; decide +kernel) (by rw [c7]; decide +kernel) (by decide) ?_
    refine lv_aload_n hx hb d_M_quadrant2_211 rfl (lv_at hl 4 rfl) ?_
    refine lv_iload_n hx hb d_M_quadrant2_212 rfl (lv_at hl 3 rfl) ?_
    refine lv_iload_n hx hb d_M_quadrant2_213 rfl (lv_at hl 2 rfl) ?_
    refine callE (W.runV (b := h1) (As := [.int (f_M_bits hh 11 7), .int (f_M_bits hh 6 2)]) (rest := []) ⟨hx, hb, hml, hown, hts⟩ (c_M_jumps l dC dI h1 hh (f_M_bits hh 11 7) (f_M_bits hh 6 2)) (cwV 2 hts (gV awx k_386 k_388 ks_13 k_2 k_389) rfl rfl rfl (by decide +kernel) ⟨Nat.le_of_ble_eq_true rfl, Nat.le_of_ble_eq_true rfl⟩) (mo_pre hT) rfl rfl hl.1 rfl (lv_room (Nat.le_of_ble_eq_true rfl)) d_M_quadrant2_214 ⟨Nat.zero_le _, Nat.zero_le _⟩) ?_
    exact W.iret hx hb hr (fun t ht _ => ⟨_, rfl, by rw [f_M_quadrant2, if_neg c1, if_neg c2, if_neg c3, if_neg c5, if_pos c7], ht⟩) (fun q h => nomatch h) d_M_quadrant2_217
  by_cases c8 : (f_M_bits hh 15 13) = nI 5
  · refine lv_tableIn (tgt := 218) (off := 135) hx hb d_M_quadrant2_83 (by rw [c8]; decide +kernel) (by rw [c8]; decide +kernel) (by rw [c8]; decide +kernel) (by decide) ?_
    refine lv_bipush (v := nI 39) hx hb d_M_quadrant2_218 (by decide) ?_
    refine lv_iconst (v := nI 3) hx hb d_M_quadrant2_220 (by decide) ?_
    refine lv_iconst (v := nI 2) hx hb d_M_quadrant2_221 (by decide) ?_
    refine lv_iload_n hx hb d_M_quadrant2_222 rfl (lv_at hl 2 rfl) ?_
    refine lv_iload hx hb d_M_quadrant2_223 (lv_at hl 0 rfl) ?_
    refine callE (W.runS (As := [.int (nI 39), .int (nI 3), .int (nI 2), .int (f_M_bits hh 6 2), .int (((nI 64) * (f_M_bits hh 9 7)) + ((nI 8) * (f_M_bits hh 12 10)))]) (rest := []) ⟨hx, hb, hml, hown, hts⟩ (c_M_wordS l (nI 39) (nI 3) (nI 2) (f_M_bits hh 6 2) (((nI 64) * (f_M_bits hh 9 7)) + ((nI 8) * (f_M_bits hh 12 10)))) (cwS 5 hts (gS k_346 k_347 k_2 k_348) rfl rfl rfl (by decide +kernel) ⟨Nat.le_of_ble_eq_true rfl, Nat.le_of_ble_eq_true rfl⟩) pre0 rfl rfl hl.1 rfl (lv_room (Nat.le_of_ble_eq_true rfl)) d_M_quadrant2_225 ⟨Nat.zero_le _, Nat.zero_le _⟩) ?_
    exact W.iret hx hb hr (fun t ht _ => ⟨_, rfl, by rw [f_M_quadrant2, if_neg c1, if_neg c2, if_neg c3, if_neg c5, if_neg c7, if_pos c8], ht⟩) (fun q h => nomatch h) d_M_quadrant2_228
  by_cases c9 : (f_M_bits hh 15 13) = nI 6
  · refine lv_tableIn (tgt := 229) (off := 146) hx hb d_M_quadrant2_83 (by rw [c9]; decide +kernel) (by rw [c9]; decide +kernel) (by rw [c9]; decide +kernel) (by decide) ?_
    refine lv_bipush (v := nI 35) hx hb d_M_quadrant2_229 (by decide) ?_
    refine lv_iconst (v := nI 2) hx hb d_M_quadrant2_231 (by decide) ?_
    refine lv_iconst (v := nI 2) hx hb d_M_quadrant2_232 (by decide) ?_
    refine lv_iload_n hx hb d_M_quadrant2_233 rfl (lv_at hl 2 rfl) ?_
    refine lv_bipush (v := nI 64) hx hb d_M_quadrant2_234 (by decide) ?_
    refine lv_aload_n hx hb d_M_quadrant2_236 rfl (lv_at hl 4 rfl) ?_
    refine lv_bipush (v := nI 8) hx hb d_M_quadrant2_237 (by decide) ?_
    refine lv_bipush (v := nI 7) hx hb d_M_quadrant2_239 (by decide) ?_
    refine callE (W.runV (b := h1) (As := [.int (nI 8), .int (nI 7)]) (rest := [.int (nI 64), .int (f_M_bits hh 6 2), .int (nI 2), .int (nI 2), .int (nI 35)]) ⟨hx, hb, hml, hown, hts⟩ (c_M_bits l dC dI h1 hh 8 7 (by decide) (by decide) (by decide)) (cwV 2 hts (gV awx k_329 k_331 ks_4 k_2 k_332) rfl rfl rfl (by decide +kernel) ⟨Nat.le_of_ble_eq_true rfl, Nat.le_of_ble_eq_true rfl⟩) (mo_pre hT) rfl rfl hl.1 rfl (lv_room (Nat.le_of_ble_eq_true rfl)) d_M_quadrant2_241 ⟨Nat.zero_le _, Nat.zero_le _⟩) ?_
    refine lv_imul hx hb d_M_quadrant2_244 ?_
    refine lv_iconst (v := nI 4) hx hb d_M_quadrant2_245 (by decide) ?_
    refine lv_aload_n hx hb d_M_quadrant2_246 rfl (lv_at hl 4 rfl) ?_
    refine lv_bipush (v := nI 12) hx hb d_M_quadrant2_247 (by decide) ?_
    refine lv_bipush (v := nI 9) hx hb d_M_quadrant2_249 (by decide) ?_
    refine callE (W.runV (b := h1) (As := [.int (nI 12), .int (nI 9)]) (rest := [.int (nI 4), .int ((nI 64) * (f_M_bits hh 8 7)), .int (f_M_bits hh 6 2), .int (nI 2), .int (nI 2), .int (nI 35)]) ⟨hx, hb, hml, hown, hts⟩ (c_M_bits l dC dI h1 hh 12 9 (by decide) (by decide) (by decide)) (cwV 2 hts (gV awx k_329 k_331 ks_4 k_2 k_332) rfl rfl rfl (by decide +kernel) ⟨Nat.le_of_ble_eq_true rfl, Nat.le_of_ble_eq_true rfl⟩) (mo_pre hT) rfl rfl hl.1 rfl (lv_room (Nat.le_of_ble_eq_true rfl)) d_M_quadrant2_251 ⟨Nat.zero_le _, Nat.zero_le _⟩) ?_
    refine lv_imul hx hb d_M_quadrant2_254 ?_
    refine lv_iadd hx hb d_M_quadrant2_255 ?_
    refine callE (W.runS (As := [.int (nI 35), .int (nI 2), .int (nI 2), .int (f_M_bits hh 6 2), .int (((nI 64) * (f_M_bits hh 8 7)) + ((nI 4) * (f_M_bits hh 12 9)))]) (rest := []) ⟨hx, hb, hml, hown, hts⟩ (c_M_wordS l (nI 35) (nI 2) (nI 2) (f_M_bits hh 6 2) (((nI 64) * (f_M_bits hh 8 7)) + ((nI 4) * (f_M_bits hh 12 9)))) (cwS 5 hts (gS k_346 k_347 k_2 k_348) rfl rfl rfl (by decide +kernel) ⟨Nat.le_of_ble_eq_true rfl, Nat.le_of_ble_eq_true rfl⟩) pre0 rfl rfl hl.1 rfl (lv_room (Nat.le_of_ble_eq_true rfl)) d_M_quadrant2_256 ⟨Nat.zero_le _, Nat.zero_le _⟩) ?_
    exact W.iret hx hb hr (fun t ht _ => ⟨_, rfl, by rw [f_M_quadrant2, if_neg c1, if_neg c2, if_neg c3, if_neg c5, if_neg c7, if_neg c8, if_pos c9], ht⟩) (fun q h => nomatch h) d_M_quadrant2_259
  have c1z := lv_neT (a := 0) c1 (by decide)
  have c2z := lv_neT (a := 1) c2 (by decide)
  have c3z := lv_neT (a := 2) c3 (by decide)
  have c5z := lv_neT (a := 3) c5 (by decide)
  have c7z := lv_neT (a := 4) c7 (by decide)
  have c8z := lv_neT (a := 5) c8 (by decide)
  have c9z := lv_neT (a := 6) c9 (by decide)
  refine lv_tableOut (tgt := 260) hx hb d_M_quadrant2_83 (by omega) (by decide) ?_
  refine lv_bipush (v := nI 35) hx hb d_M_quadrant2_260 (by decide) ?_
  refine lv_iconst (v := nI 3) hx hb d_M_quadrant2_262 (by decide) ?_
  refine lv_iconst (v := nI 2) hx hb d_M_quadrant2_263 (by decide) ?_
  refine lv_iload_n hx hb d_M_quadrant2_264 rfl (lv_at hl 2 rfl) ?_
  refine lv_iload hx hb d_M_quadrant2_265 (lv_at hl 0 rfl) ?_
  refine callE (W.runS (As := [.int (nI 35), .int (nI 3), .int (nI 2), .int (f_M_bits hh 6 2), .int (((nI 64) * (f_M_bits hh 9 7)) + ((nI 8) * (f_M_bits hh 12 10)))]) (rest := []) ⟨hx, hb, hml, hown, hts⟩ (c_M_wordS l (nI 35) (nI 3) (nI 2) (f_M_bits hh 6 2) (((nI 64) * (f_M_bits hh 9 7)) + ((nI 8) * (f_M_bits hh 12 10)))) (cwS 5 hts (gS k_346 k_347 k_2 k_348) rfl rfl rfl (by decide +kernel) ⟨Nat.le_of_ble_eq_true rfl, Nat.le_of_ble_eq_true rfl⟩) pre0 rfl rfl hl.1 rfl (lv_room (Nat.le_of_ble_eq_true rfl)) d_M_quadrant2_267 ⟨Nat.zero_le _, Nat.zero_le _⟩) ?_
  exact W.iret hx hb hr (fun t ht _ => ⟨_, rfl, by rw [f_M_quadrant2, if_neg c1, if_neg c2, if_neg c3, if_neg c5, if_neg c7, if_neg c8, if_neg c9], ht⟩) (fun q h => nomatch h) d_M_quadrant2_270
