set_option maxHeartbeats 40000000 in
set_option maxRecDepth 100000 in
theorem c_isHalf (l : Launch) (t : Nat → Nat) (a0 : Int32) : Met l y_S_isHalf w_S_isHalf { frames := 0, cells := 0, slots := 0, locals := 0 } (va_Pc [.int a0] (tb t)) (vp_Si (fun r => r = f_isHalf a0)) 0 0 (fun _ => False) := by
  refine Met.ofW (cc := b_S_isHalf) (maxL := 1) (ret := (some .boolean)) (by decide) rfl ?_
  intro p e s m args below meth c s₁ B hml hv
  obtain ⟨rfl, hT⟩ := hv
  have hx := B.exec
  have hb := B.bytes
  have hr := B.returns
  have hts := atoms_spec (ws := w_S_isHalf) B.pre
  have hown : s.vm.findClass R_S = some m.cls := findClass_of_methodNamed B.named
  have hlocks := B.notSynchronized
  have hl := lv_entry ([.int a0]) (n := 1) (Nat.le_of_ble_eq_true rfl)
  rw [lg_entry_eq]
  generalize (lg_sl ([.int a0]) ++ List.replicate (1 - (lg_sl ([.int a0])).length) Slot.unset).toArray = ls at hl ⊢
  have hl : lv_has ls 1 [(0, .int a0)] := hl
  refine lv_iload_n hx hb d_S_isHalf_0 rfl (lv_at hl 0 rfl) ?_
  refine lv_if_lt (tgt := 14) hx hb d_S_isHalf_1 (by decide) (fun c1 => ?_) (fun c1 => ?_)
  · refine lv_iconst (v := nI 0) hx hb d_S_isHalf_14 (by decide) ?_
    exact W.zret hx hb hr (by rfl) (fun t ht _ => ⟨_, rfl, by rw [f_isHalf, if_pos c1], ht⟩) (fun q h => nomatch h) d_S_isHalf_15
  · refine lv_iload_n hx hb d_S_isHalf_4 rfl (lv_at hl 0 rfl) ?_
    refine lv_ldc (v := nI 65535) hx hb hown (hts _ (List.mem_cons_of_mem _ k_206)) d_S_isHalf_5 ?_
    refine lv_icmp_gt (tgt := 14) hx hb d_S_isHalf_7 (by decide) (fun c2 => ?_) (fun c2 => ?_)
    · refine lv_iconst (v := nI 0) hx hb d_S_isHalf_14 (by decide) ?_
      exact W.zret hx hb hr (by rfl) (fun t ht _ => ⟨_, rfl, by rw [f_isHalf, if_neg c1, if_pos c2], ht⟩) (fun q h => nomatch h) d_S_isHalf_15
    · refine lv_iconst (v := nI 1) hx hb d_S_isHalf_10 (by decide) ?_
      refine lv_goto (tgt := 15) hx hb d_S_isHalf_11 (by decide) ?_
      exact W.zret hx hb hr (by rfl) (fun t ht _ => ⟨_, rfl, by rw [f_isHalf, if_neg c1, if_neg c2], ht⟩) (fun q h => nomatch h) d_S_isHalf_15
set_option maxHeartbeats 40000000 in
set_option maxRecDepth 100000 in
theorem c_formI (l : Launch) (t : Nat → Nat) (a0 a1 a2 a3 a4 : Int32) : Met l y_S_formI w_S_formI { frames := 0, cells := 0, slots := 0, locals := 0 } (va_Pc [.int a0, .int a1, .int a2, .int a3, .int a4] (tb t)) (vp_Si (fun r => r = f_formI a0 a1 a2 a3 a4)) 0 0 (fun _ => False) := by
  refine Met.ofW (cc := b_S_formI) (maxL := 5) (ret := (some .int)) (by decide) rfl ?_
  intro p e s m args below meth c s₁ B hml hv
  obtain ⟨rfl, hT⟩ := hv
  have hx := B.exec
  have hb := B.bytes
  have hr := B.returns
  have hts := atoms_spec (ws := w_S_formI) B.pre
  have hown : s.vm.findClass R_S = some m.cls := findClass_of_methodNamed B.named
  have hlocks := B.notSynchronized
  have hl := lv_entry ([.int a0, .int a1, .int a2, .int a3, .int a4]) (n := 5) (Nat.le_of_ble_eq_true rfl)
  rw [lg_entry_eq]
  generalize (lg_sl ([.int a0, .int a1, .int a2, .int a3, .int a4]) ++ List.replicate (5 - (lg_sl ([.int a0, .int a1, .int a2, .int a3, .int a4])).length) Slot.unset).toArray = ls at hl ⊢
  have hl : lv_has ls 5 [(0, .int a0), (1, .int a1), (2, .int a2), (3, .int a3), (4, .int a4)] := hl
  refine lv_iload_n hx hb d_S_formI_0 rfl (lv_at hl 0 rfl) ?_
  refine lv_iload_n hx hb d_S_formI_1 rfl (lv_at hl 1 rfl) ?_
  refine lv_bipush (v := nI 7) hx hb d_S_formI_2 (by decide) ?_
  refine lv_ishl hx hb d_S_formI_4 ?_
  refine lv_ior hx hb d_S_formI_5 ?_
  refine lv_iload_n hx hb d_S_formI_6 rfl (lv_at hl 2 rfl) ?_
  refine lv_bipush (v := nI 12) hx hb d_S_formI_7 (by decide) ?_
  refine lv_ishl hx hb d_S_formI_9 ?_
  refine lv_ior hx hb d_S_formI_10 ?_
  refine lv_iload_n hx hb d_S_formI_11 rfl (lv_at hl 3 rfl) ?_
  refine lv_bipush (v := nI 15) hx hb d_S_formI_12 (by decide) ?_
  refine lv_ishl hx hb d_S_formI_14 ?_
  refine lv_ior hx hb d_S_formI_15 ?_
  refine lv_iload hx hb d_S_formI_16 (lv_at hl 4 rfl) ?_
  refine lv_bipush (v := nI 20) hx hb d_S_formI_18 (by decide) ?_
  refine lv_ishl hx hb d_S_formI_20 ?_
  refine lv_ior hx hb d_S_formI_21 ?_
  exact W.iret hx hb hr (fun t ht _ => ⟨_, rfl, by rw [f_formI], ht⟩) (fun q h => nomatch h) d_S_formI_22
set_option maxHeartbeats 40000000 in
set_option maxRecDepth 100000 in
theorem c_wordForAddToStack (l : Launch) (t : Nat → Nat) (a0 a1 : Int32) : Met l y_S_wordForAddToStack w_S_wordForAddToStack { frames := 1, cells := 0, slots := 0, locals := 24 } (va_Pc [.int a0, .int a1] (tb t)) (vp_Si (fun r => r = f_wordForAddToStack a0 a1)) 0 0 (fun _ => False) := by
  refine Met.ofW (cc := b_S_wordForAddToStack) (maxL := 2) (ret := (some .int)) (by decide) rfl ?_
  intro p e s m args below meth c s₁ B hml hv
  obtain ⟨rfl, hT⟩ := hv
  have hx := B.exec
  have hb := B.bytes
  have hr := B.returns
  have hts := atoms_spec (ws := w_S_wordForAddToStack) B.pre
  have hown : s.vm.findClass R_S = some m.cls := findClass_of_methodNamed B.named
  have hlocks := B.notSynchronized
  have hl := lv_entry ([.int a0, .int a1]) (n := 2) (Nat.le_of_ble_eq_true rfl)
  rw [lg_entry_eq]
  generalize (lg_sl ([.int a0, .int a1]) ++ List.replicate (2 - (lg_sl ([.int a0, .int a1])).length) Slot.unset).toArray = ls at hl ⊢
  have hl : lv_has ls 2 [(0, .int a0), (1, .int a1)] := hl
  refine lv_iload_n hx hb d_S_wordForAddToStack_0 rfl (lv_at hl 1 rfl) ?_
  refine lv_if_ne (tgt := 8) hx hb d_S_wordForAddToStack_1 (by decide) (fun c1 => ?_) (fun c1 => ?_)
  · refine lv_bipush (v := nI 19) hx hb d_S_wordForAddToStack_8 (by decide) ?_
    refine lv_iload_n hx hb d_S_wordForAddToStack_10 rfl (lv_at hl 0 rfl) ?_
    refine lv_iconst (v := nI 0) hx hb d_S_wordForAddToStack_11 (by decide) ?_
    refine lv_iconst (v := nI 2) hx hb d_S_wordForAddToStack_12 (by decide) ?_
    refine lv_iload_n hx hb d_S_wordForAddToStack_13 rfl (lv_at hl 1 rfl) ?_
    refine callE (W.runS (As := [.int (nI 19), .int a0, .int (nI 0), .int (nI 2), .int a1]) (rest := []) ⟨hx, hb, hml, hown, hts⟩ (c_formI l t (nI 19) a0 (nI 0) (nI 2) a1) (cwS 5 hts (gS k_124 k_125 k_1 k_126) rfl rfl rfl (by decide +kernel) ⟨Nat.le_of_ble_eq_true rfl, Nat.le_of_ble_eq_true rfl⟩) (tb_pre hT) rfl rfl hl.1 rfl (lv_room (Nat.le_of_ble_eq_true rfl)) d_S_wordForAddToStack_14 ⟨Nat.zero_le _, Nat.zero_le _⟩) ?_
    exact W.iret hx hb hr (fun t ht _ => ⟨_, rfl, by rw [f_wordForAddToStack, if_neg c1], ht⟩) (fun q h => nomatch h) d_S_wordForAddToStack_17
  · refine lv_iconst (v := nI 0) hx hb d_S_wordForAddToStack_4 (by decide) ?_
    refine lv_goto (tgt := 17) hx hb d_S_wordForAddToStack_5 (by decide) ?_
    exact W.iret hx hb hr (fun t ht _ => ⟨_, rfl, by rw [f_wordForAddToStack, if_pos c1], ht⟩) (fun q h => nomatch h) d_S_wordForAddToStack_17
set_option maxHeartbeats 40000000 in
set_option maxRecDepth 100000 in
theorem c_formR (l : Launch) (t : Nat → Nat) (a0 a1 a2 a3 a4 a5 : Int32) : Met l y_S_formR w_S_formR { frames := 0, cells := 0, slots := 0, locals := 0 } (va_Pc [.int a0, .int a1, .int a2, .int a3, .int a4, .int a5] (tb t)) (vp_Si (fun r => r = f_formR a0 a1 a2 a3 a4 a5)) 0 0 (fun _ => False) := by
  refine Met.ofW (cc := b_S_formR) (maxL := 6) (ret := (some .int)) (by decide) rfl ?_
  intro p e s m args below meth c s₁ B hml hv
  obtain ⟨rfl, hT⟩ := hv
  have hx := B.exec
  have hb := B.bytes
  have hr := B.returns
  have hts := atoms_spec (ws := w_S_formR) B.pre
  have hown : s.vm.findClass R_S = some m.cls := findClass_of_methodNamed B.named
  have hlocks := B.notSynchronized
  have hl := lv_entry ([.int a0, .int a1, .int a2, .int a3, .int a4, .int a5]) (n := 6) (Nat.le_of_ble_eq_true rfl)
  rw [lg_entry_eq]
  generalize (lg_sl ([.int a0, .int a1, .int a2, .int a3, .int a4, .int a5]) ++ List.replicate (6 - (lg_sl ([.int a0, .int a1, .int a2, .int a3, .int a4, .int a5])).length) Slot.unset).toArray = ls at hl ⊢
  have hl : lv_has ls 6 [(0, .int a0), (1, .int a1), (2, .int a2), (3, .int a3), (4, .int a4), (5, .int a5)] := hl
  refine lv_iload_n hx hb d_S_formR_0 rfl (lv_at hl 0 rfl) ?_
  refine lv_iload_n hx hb d_S_formR_1 rfl (lv_at hl 1 rfl) ?_
  refine lv_bipush (v := nI 7) hx hb d_S_formR_2 (by decide) ?_
  refine lv_ishl hx hb d_S_formR_4 ?_
  refine lv_ior hx hb d_S_formR_5 ?_
  refine lv_iload_n hx hb d_S_formR_6 rfl (lv_at hl 2 rfl) ?_
  refine lv_bipush (v := nI 12) hx hb d_S_formR_7 (by decide) ?_
  refine lv_ishl hx hb d_S_formR_9 ?_
  refine lv_ior hx hb d_S_formR_10 ?_
  refine lv_iload_n hx hb d_S_formR_11 rfl (lv_at hl 3 rfl) ?_
  refine lv_bipush (v := nI 15) hx hb d_S_formR_12 (by decide) ?_
  refine lv_ishl hx hb d_S_formR_14 ?_
  refine lv_ior hx hb d_S_formR_15 ?_
  refine lv_iload hx hb d_S_formR_16 (lv_at hl 4 rfl) ?_
  refine lv_bipush (v := nI 20) hx hb d_S_formR_18 (by decide) ?_
  refine lv_ishl hx hb d_S_formR_20 ?_
  refine lv_ior hx hb d_S_formR_21 ?_
  refine lv_iload hx hb d_S_formR_22 (lv_at hl 5 rfl) ?_
  refine lv_bipush (v := nI 25) hx hb d_S_formR_24 (by decide) ?_
  refine lv_ishl hx hb d_S_formR_26 ?_
  refine lv_ior hx hb d_S_formR_27 ?_
  exact W.iret hx hb hr (fun t ht _ => ⟨_, rfl, by rw [f_formR], ht⟩) (fun q h => nomatch h) d_S_formR_28
set_option maxHeartbeats 40000000 in
set_option maxRecDepth 100000 in
theorem c_formS (l : Launch) (t : Nat → Nat) (a0 a1 a2 a3 a4 : Int32) : Met l y_S_formS w_S_formS { frames := 1, cells := 0, slots := 0, locals := 25 } (va_Pc [.int a0, .int a1, .int a2, .int a3, .int a4] (tb t)) (vp_Si (fun r => r = f_formS a0 a1 a2 a3 a4)) 0 0 (fun _ => False) := by
  refine Met.ofW (cc := b_S_formS) (maxL := 5) (ret := (some .int)) (by decide) rfl ?_
  intro p e s m args below meth c s₁ B hml hv
  obtain ⟨rfl, hT⟩ := hv
  have hx := B.exec
  have hb := B.bytes
  have hr := B.returns
  have hts := atoms_spec (ws := w_S_formS) B.pre
  have hown : s.vm.findClass R_S = some m.cls := findClass_of_methodNamed B.named
  have hlocks := B.notSynchronized
  have hl := lv_entry ([.int a0, .int a1, .int a2, .int a3, .int a4]) (n := 5) (Nat.le_of_ble_eq_true rfl)
  rw [lg_entry_eq]
  generalize (lg_sl ([.int a0, .int a1, .int a2, .int a3, .int a4]) ++ List.replicate (5 - (lg_sl ([.int a0, .int a1, .int a2, .int a3, .int a4])).length) Slot.unset).toArray = ls at hl ⊢
  have hl : lv_has ls 5 [(0, .int a0), (1, .int a1), (2, .int a2), (3, .int a3), (4, .int a4)] := hl
  refine lv_iload_n hx hb d_S_formS_0 rfl (lv_at hl 0 rfl) ?_
  refine lv_iload hx hb d_S_formS_1 (lv_at hl 4 rfl) ?_
  refine lv_iconst (v := nI 4) hx hb d_S_formS_3 (by decide) ?_
  refine lv_iconst (v := nI 0) hx hb d_S_formS_4 (by decide) ?_
  refine callE (W.runS (As := [.int a4, .int (nI 4), .int (nI 0)]) (rest := [.int a0]) ⟨hx, hb, hml, hown, hts⟩ (c_bits l t a4 (nI 4) (nI 0)) (cwS 3 hts (gS k_47 k_48 k_1 k_49) rfl rfl rfl (by decide +kernel) ⟨Nat.le_of_ble_eq_true rfl, Nat.le_of_ble_eq_true rfl⟩) (tb_pre hT) rfl rfl hl.1 rfl (lv_room (Nat.le_of_ble_eq_true rfl)) d_S_formS_5 ⟨Nat.zero_le _, Nat.zero_le _⟩) ?_
  refine lv_iload_n hx hb d_S_formS_8 rfl (lv_at hl 1 rfl) ?_
  refine lv_iload_n hx hb d_S_formS_9 rfl (lv_at hl 2 rfl) ?_
  refine lv_iload_n hx hb d_S_formS_10 rfl (lv_at hl 3 rfl) ?_
  refine lv_iload hx hb d_S_formS_11 (lv_at hl 4 rfl) ?_
  refine lv_bipush (v := nI 11) hx hb d_S_formS_13 (by decide) ?_
  refine lv_iconst (v := nI 5) hx hb d_S_formS_15 (by decide) ?_
  refine callE (W.runS (As := [.int a4, .int (nI 11), .int (nI 5)]) (rest := [.int a3, .int a2, .int a1, .int (f_bits a4 (nI 4) (nI 0)), .int a0]) ⟨hx, hb, hml, hown, hts⟩ (c_bits l t a4 (nI 11) (nI 5)) (cwS 3 hts (gS k_47 k_48 k_1 k_49) rfl rfl rfl (by decide +kernel) ⟨Nat.le_of_ble_eq_true rfl, Nat.le_of_ble_eq_true rfl⟩) (tb_pre hT) rfl rfl hl.1 rfl (lv_room (Nat.le_of_ble_eq_true rfl)) d_S_formS_16 ⟨Nat.zero_le _, Nat.zero_le _⟩) ?_
  refine callE (W.runS (As := [.int a0, .int (f_bits a4 (nI 4) (nI 0)), .int a1, .int a2, .int a3, .int (f_bits a4 (nI 11) (nI 5))]) (rest := []) ⟨hx, hb, hml, hown, hts⟩ (c_formR l t a0 (f_bits a4 (nI 4) (nI 0)) a1 a2 a3 (f_bits a4 (nI 11) (nI 5))) (cwS 6 hts (gS k_130 k_131 k_1 k_132) rfl rfl rfl (by decide +kernel) ⟨Nat.le_of_ble_eq_true rfl, Nat.le_of_ble_eq_true rfl⟩) (tb_pre hT) rfl rfl hl.1 rfl (lv_room (Nat.le_of_ble_eq_true rfl)) d_S_formS_19 ⟨Nat.zero_le _, Nat.zero_le _⟩) ?_
  exact W.iret hx hb hr (fun t ht _ => ⟨_, rfl, by rw [f_formS], ht⟩) (fun q h => nomatch h) d_S_formS_22
set_option maxHeartbeats 40000000 in
set_option maxRecDepth 100000 in
theorem c_wordForLow0 (l : Launch) (t : Nat → Nat) (a0 : Int32) : Met l y_S_wordForLow0 w_S_wordForLow0 { frames := 2, cells := 0, slots := 0, locals := 49 } (va_Pc [.int a0] (tb t)) (vp_Si (fun r => r = f_wordForLow0 a0)) 0 0 (fun _ => False) := by
  refine Met.ofW (cc := b_S_wordForLow0) (maxL := 3) (ret := (some .int)) (by decide) rfl ?_
  intro p e s m args below meth c s₁ B hml hv
  obtain ⟨rfl, hT⟩ := hv
  have hx := B.exec
  have hb := B.bytes
  have hr := B.returns
  have hts := atoms_spec (ws := w_S_wordForLow0) B.pre
  have hown : s.vm.findClass R_S = some m.cls := findClass_of_methodNamed B.named
  have hlocks := B.notSynchronized
  have hl := lv_entry ([.int a0]) (n := 3) (Nat.le_of_ble_eq_true rfl)
  rw [lg_entry_eq]
  generalize (lg_sl ([.int a0]) ++ List.replicate (3 - (lg_sl ([.int a0])).length) Slot.unset).toArray = ls at hl ⊢
  have hl : lv_has ls 3 [(0, .int a0)] := hl
  refine lv_bipush (v := nI 8) hx hb d_S_wordForLow0_0 (by decide) ?_
  refine lv_iload_n hx hb d_S_wordForLow0_2 rfl (lv_at hl 0 rfl) ?_
  refine lv_bipush (v := nI 9) hx hb d_S_wordForLow0_3 (by decide) ?_
  refine lv_bipush (v := nI 7) hx hb d_S_wordForLow0_5 (by decide) ?_
  refine callE (W.runS (As := [.int a0, .int (nI 9), .int (nI 7)]) (rest := [.int (nI 8)]) ⟨hx, hb, hml, hown, hts⟩ (c_bits l t a0 (nI 9) (nI 7)) (cwS 3 hts (gS k_47 k_48 k_1 k_49) rfl rfl rfl (by decide +kernel) ⟨Nat.le_of_ble_eq_true rfl, Nat.le_of_ble_eq_true rfl⟩) (tb_pre hT) rfl rfl hl.1 rfl (lv_room (Nat.le_of_ble_eq_true rfl)) d_S_wordForLow0_7 ⟨Nat.zero_le _, Nat.zero_le _⟩) ?_
  refine lv_iadd hx hb d_S_wordForLow0_10 ?_
  refine lv_istore_n (lv' := [(1, .int ((nI 8) + (f_bits a0 (nI 9) (nI 7)))), (0, .int a0)]) hx hb d_S_wordForLow0_11 rfl hl (by decide) rfl (fun ls hl => ?_)
  refine lv_bipush (v := nI 8) hx hb d_S_wordForLow0_12 (by decide) ?_
  refine lv_iload_n hx hb d_S_wordForLow0_14 rfl (lv_at hl 1 rfl) ?_
  refine lv_iconst (v := nI 4) hx hb d_S_wordForLow0_15 (by decide) ?_
  refine lv_iconst (v := nI 2) hx hb d_S_wordForLow0_16 (by decide) ?_
  refine callE (W.runS (As := [.int a0, .int (nI 4), .int (nI 2)]) (rest := [.int (nI 8)]) ⟨hx, hb, hml, hown, hts⟩ (c_bits l t a0 (nI 4) (nI 2)) (cwS 3 hts (gS k_47 k_48 k_1 k_49) rfl rfl rfl (by decide +kernel) ⟨Nat.le_of_ble_eq_true rfl, Nat.le_of_ble_eq_true rfl⟩) (tb_pre hT) rfl rfl hl.1 rfl (lv_room (Nat.le_of_ble_eq_true rfl)) d_S_wordForLow0_17 ⟨Nat.zero_le _, Nat.zero_le _⟩) ?_
  refine lv_iadd hx hb d_S_wordForLow0_20 ?_
  refine lv_istore_n (lv' := [(2, .int ((nI 8) + (f_bits a0 (nI 4) (nI 2)))), (1, .int ((nI 8) + (f_bits a0 (nI 9) (nI 7)))), (0, .int a0)]) hx hb d_S_wordForLow0_21 rfl hl (by decide) rfl (fun ls hl => ?_)
  refine lv_iload_n hx hb d_S_wordForLow0_22 rfl (lv_at hl 2 rfl) ?_
  refine lv_bipush (v := nI 15) hx hb d_S_wordForLow0_23 (by decide) ?_
  refine lv_bipush (v := nI 13) hx hb d_S_wordForLow0_25 (by decide) ?_
  refine callE (W.runS (As := [.int a0, .int (nI 15), .int (nI 13)]) (rest := []) ⟨hx, hb, hml, hown, hts⟩ (c_bits l t a0 (nI 15) (nI 13)) (cwS 3 hts (gS k_47 k_48 k_1 k_49) rfl rfl rfl (by decide +kernel) ⟨Nat.le_of_ble_eq_true rfl, Nat.le_of_ble_eq_true rfl⟩) (tb_pre hT) rfl rfl hl.1 rfl (lv_room (Nat.le_of_ble_eq_true rfl)) d_S_wordForLow0_27 ⟨Nat.zero_le _, Nat.zero_le _⟩) ?_
  by_cases c1 : (f_bits a0 (nI 15) (nI 13)) = nI 0
  · refine lv_tableIn (tgt := 76) (off := 46) hx hb d_S_wordForLow0_30 (by rw [c1]; decide +kernel) (by rw [c1]; decide +kernel) (by rw [c1]; decide +kernel) (by decide) ?_
    refine lv_iload_n hx hb d_S_wordForLow0_76 rfl (lv_at hl 0 rfl) ?_
    refine lv_iload_n hx hb d_S_wordForLow0_77 rfl (lv_at hl 2 rfl) ?_
    refine va_gets hx hb (hT 0 _ rfl).1 va_S.rf hown (hts _ (List.mem_cons_of_mem _ k_59)) (fun _ h9 => h9) d_S_wordForLow0_78 ?_
    refine callE (W.runS (As := [.int a0, .ref (t 0)]) (rest := [.int ((nI 8) + (f_bits a0 (nI 4) (nI 2)))]) ⟨hx, hb, hml, hown, hts⟩ (c_gather l t 0 rfl (mm := 4) rfl (by decide) a0) (cwS 2 hts (gS k_118 k_119 k_1 k_120) rfl rfl rfl (by decide +kernel) ⟨Nat.le_of_ble_eq_true rfl, Nat.le_of_ble_eq_true rfl⟩) (tb_pre hT) rfl rfl hl.1 rfl (lv_room (Nat.le_of_ble_eq_true rfl)) d_S_wordForLow0_81 ⟨Nat.zero_le _, Nat.zero_le _⟩) ?_
    refine callE (W.runS (As := [.int ((nI 8) + (f_bits a0 (nI 4) (nI 2))), .int (f_gather row0 (nI 0) a0)]) (rest := []) ⟨hx, hb, hml, hown, hts⟩ (c_wordForAddToStack l t ((nI 8) + (f_bits a0 (nI 4) (nI 2))) (f_gather row0 (nI 0) a0)) (cwS 2 hts (gS k_121 k_122 k_1 k_123) rfl rfl rfl (by decide +kernel) ⟨Nat.le_of_ble_eq_true rfl, Nat.le_of_ble_eq_true rfl⟩) (tb_pre hT) rfl rfl hl.1 rfl (lv_room (Nat.le_of_ble_eq_true rfl)) d_S_wordForLow0_84 ⟨Nat.zero_le _, Nat.zero_le _⟩) ?_
    exact W.iret hx hb hr (fun t ht _ => ⟨_, rfl, by rw [f_wordForLow0, if_pos c1], ht⟩) (fun q h => nomatch h) d_S_wordForLow0_87
  by_cases c2 : (f_bits a0 (nI 15) (nI 13)) = nI 1
  · refine lv_tableIn (tgt := 88) (off := 58) hx hb d_S_wordForLow0_30 (by rw [c2]; decide +kernel) (by rw [c2]; decide +kernel) (by rw [c2]; decide +kernel) (by decide) ?_
    refine lv_bipush (v := nI 7) hx hb d_S_wordForLow0_88 (by decide) ?_
    refine lv_iload_n hx hb d_S_wordForLow0_90 rfl (lv_at hl 0 rfl) ?_
    refine lv_iconst (v := nI 3) hx hb d_S_wordForLow0_91 (by decide) ?_
    refine lv_iload_n hx hb d_S_wordForLow0_92 rfl (lv_at hl 1 rfl) ?_
    refine lv_iload_n hx hb d_S_wordForLow0_93 rfl (lv_at hl 2 rfl) ?_
    refine va_gets hx hb (hT 1 _ rfl).1 va_S.rf hown (hts _ (List.mem_cons_of_mem _ k_64)) (fun _ h9 => h9) d_S_wordForLow0_94 ?_
    refine callE (W.runS (As := [.int a0, .ref (t 1)]) (rest := [.int ((nI 8) + (f_bits a0 (nI 9) (nI 7))), .int (nI 3), .int ((nI 8) + (f_bits a0 (nI 4) (nI 2))), .int (nI 7)]) ⟨hx, hb, hml, hown, hts⟩ (c_gather l t 1 rfl (mm := 2) rfl (by decide) a0) (cwS 2 hts (gS k_118 k_119 k_1 k_120) rfl rfl rfl (by decide +kernel) ⟨Nat.le_of_ble_eq_true rfl, Nat.le_of_ble_eq_true rfl⟩) (tb_pre hT) rfl rfl hl.1 rfl (lv_room (Nat.le_of_ble_eq_true rfl)) d_S_wordForLow0_97 ⟨Nat.zero_le _, Nat.zero_le _⟩) ?_
    refine callE (W.runS (As := [.int (nI 7), .int ((nI 8) + (f_bits a0 (nI 4) (nI 2))), .int (nI 3), .int ((nI 8) + (f_bits a0 (nI 9) (nI 7))), .int (f_gather row1 (nI 0) a0)]) (rest := []) ⟨hx, hb, hml, hown, hts⟩ (c_formI l t (nI 7) ((nI 8) + (f_bits a0 (nI 4) (nI 2))) (nI 3) ((nI 8) + (f_bits a0 (nI 9) (nI 7))) (f_gather row1 (nI 0) a0)) (cwS 5 hts (gS k_124 k_125 k_1 k_126) rfl rfl rfl (by decide +kernel) ⟨Nat.le_of_ble_eq_true rfl, Nat.le_of_ble_eq_true rfl⟩) (tb_pre hT) rfl rfl hl.1 rfl (lv_room (Nat.le_of_ble_eq_true rfl)) d_S_wordForLow0_100 ⟨Nat.zero_le _, Nat.zero_le _⟩) ?_
    exact W.iret hx hb hr (fun t ht _ => ⟨_, rfl, by rw [f_wordForLow0, if_neg c1, if_pos c2], ht⟩) (fun q h => nomatch h) d_S_wordForLow0_103
  by_cases c3 : (f_bits a0 (nI 15) (nI 13)) = nI 2
  · refine lv_tableIn (tgt := 104) (off := 74) hx hb d_S_wordForLow0_30 (by rw [c3]; decide +kernel) (by rw [c3]; decide +kernel) (by rw [c3]; decide +kernel) (by decide) ?_
    refine lv_iconst (v := nI 3) hx hb d_S_wordForLow0_104 (by decide) ?_
    refine lv_iload_n hx hb d_S_wordForLow0_105 rfl (lv_at hl 0 rfl) ?_
    refine lv_iconst (v := nI 2) hx hb d_S_wordForLow0_106 (by decide) ?_
    refine lv_iload_n hx hb d_S_wordForLow0_107 rfl (lv_at hl 1 rfl) ?_
    refine lv_iload_n hx hb d_S_wordForLow0_108 rfl (lv_at hl 2 rfl) ?_
    refine va_gets hx hb (hT 2 _ rfl).1 va_S.rf hown (hts _ (List.mem_cons_of_mem _ k_66)) (fun _ h9 => h9) d_S_wordForLow0_109 ?_
    refine callE (W.runS (As := [.int a0, .ref (t 2)]) (rest := [.int ((nI 8) + (f_bits a0 (nI 9) (nI 7))), .int (nI 2), .int ((nI 8) + (f_bits a0 (nI 4) (nI 2))), .int (nI 3)]) ⟨hx, hb, hml, hown, hts⟩ (c_gather l t 2 rfl (mm := 3) rfl (by decide) a0) (cwS 2 hts (gS k_118 k_119 k_1 k_120) rfl rfl rfl (by decide +kernel) ⟨Nat.le_of_ble_eq_true rfl, Nat.le_of_ble_eq_true rfl⟩) (tb_pre hT) rfl rfl hl.1 rfl (lv_room (Nat.le_of_ble_eq_true rfl)) d_S_wordForLow0_112 ⟨Nat.zero_le _, Nat.zero_le _⟩) ?_
    refine callE (W.runS (As := [.int (nI 3), .int ((nI 8) + (f_bits a0 (nI 4) (nI 2))), .int (nI 2), .int ((nI 8) + (f_bits a0 (nI 9) (nI 7))), .int (f_gather row2 (nI 0) a0)]) (rest := []) ⟨hx, hb, hml, hown, hts⟩ (c_formI l t (nI 3) ((nI 8) + (f_bits a0 (nI 4) (nI 2))) (nI 2) ((nI 8) + (f_bits a0 (nI 9) (nI 7))) (f_gather row2 (nI 0) a0)) (cwS 5 hts (gS k_124 k_125 k_1 k_126) rfl rfl rfl (by decide +kernel) ⟨Nat.le_of_ble_eq_true rfl, Nat.le_of_ble_eq_true rfl⟩) (tb_pre hT) rfl rfl hl.1 rfl (lv_room (Nat.le_of_ble_eq_true rfl)) d_S_wordForLow0_115 ⟨Nat.zero_le _, Nat.zero_le _⟩) ?_
    exact W.iret hx hb hr (fun t ht _ => ⟨_, rfl, by rw [f_wordForLow0, if_neg c1, if_neg c2, if_pos c3], ht⟩) (fun q h => nomatch h) d_S_wordForLow0_118
  by_cases c4 : (f_bits a0 (nI 15) (nI 13)) = nI 3
  · refine lv_tableIn (tgt := 119) (off := 89) hx hb d_S_wordForLow0_30 (by rw [c4]; decide +kernel) (by rw [c4]; decide +kernel) (by rw [c4]; decide +kernel) (by decide) ?_
    refine lv_iconst (v := nI 3) hx hb d_S_wordForLow0_119 (by decide) ?_
    refine lv_iload_n hx hb d_S_wordForLow0_120 rfl (lv_at hl 0 rfl) ?_
    refine lv_iconst (v := nI 3) hx hb d_S_wordForLow0_121 (by decide) ?_
    refine lv_iload_n hx hb d_S_wordForLow0_122 rfl (lv_at hl 1 rfl) ?_
    refine lv_iload_n hx hb d_S_wordForLow0_123 rfl (lv_at hl 2 rfl) ?_
    refine va_gets hx hb (hT 1 _ rfl).1 va_S.rf hown (hts _ (List.mem_cons_of_mem _ k_64)) (fun _ h9 => h9) d_S_wordForLow0_124 ?_
    refine callE (W.runS (As := [.int a0, .ref (t 1)]) (rest := [.int ((nI 8) + (f_bits a0 (nI 9) (nI 7))), .int (nI 3), .int ((nI 8) + (f_bits a0 (nI 4) (nI 2))), .int (nI 3)]) ⟨hx, hb, hml, hown, hts⟩ (c_gather l t 1 rfl (mm := 2) rfl (by decide) a0) (cwS 2 hts (gS k_118 k_119 k_1 k_120) rfl rfl rfl (by decide +kernel) ⟨Nat.le_of_ble_eq_true rfl, Nat.le_of_ble_eq_true rfl⟩) (tb_pre hT) rfl rfl hl.1 rfl (lv_room (Nat.le_of_ble_eq_true rfl)) d_S_wordForLow0_127 ⟨Nat.zero_le _, Nat.zero_le _⟩) ?_
    refine callE (W.runS (As := [.int (nI 3), .int ((nI 8) + (f_bits a0 (nI 4) (nI 2))), .int (nI 3), .int ((nI 8) + (f_bits a0 (nI 9) (nI 7))), .int (f_gather row1 (nI 0) a0)]) (rest := []) ⟨hx, hb, hml, hown, hts⟩ (c_formI l t (nI 3) ((nI 8) + (f_bits a0 (nI 4) (nI 2))) (nI 3) ((nI 8) + (f_bits a0 (nI 9) (nI 7))) (f_gather row1 (nI 0) a0)) (cwS 5 hts (gS k_124 k_125 k_1 k_126) rfl rfl rfl (by decide +kernel) ⟨Nat.le_of_ble_eq_true rfl, Nat.le_of_ble_eq_true rfl⟩) (tb_pre hT) rfl rfl hl.1 rfl (lv_room (Nat.le_of_ble_eq_true rfl)) d_S_wordForLow0_130 ⟨Nat.zero_le _, Nat.zero_le _⟩) ?_
    exact W.iret hx hb hr (fun t ht _ => ⟨_, rfl, by rw [f_wordForLow0, if_neg c1, if_neg c2, if_neg c3, if_pos c4], ht⟩) (fun q h => nomatch h) d_S_wordForLow0_133
  by_cases c5 : (f_bits a0 (nI 15) (nI 13)) = nI 4
  · refine lv_tableIn (tgt := 182) (off := 152) hx hb d_S_wordForLow0_30 (by rw [c5]; decide +kernel) (by rw [c5]; decide +kernel) (by rw [c5]; decide +kernel) (by decide) ?_
    refine lv_iconst (v := nI 0) hx hb d_S_wordForLow0_182 (by decide) ?_
    exact W.iret hx hb hr (fun t ht _ => ⟨_, rfl, by rw [f_wordForLow0, if_neg c1, if_neg c2, if_neg c3, if_neg c4, if_pos c5], ht⟩) (fun q h => nomatch h) d_S_wordForLow0_183
  by_cases c6 : (f_bits a0 (nI 15) (nI 13)) = nI 5
  · refine lv_tableIn (tgt := 134) (off := 104) hx hb d_S_wordForLow0_30 (by rw [c6]; decide +kernel) (by rw [c6]; decide +kernel) (by rw [c6]; decide +kernel) (by decide) ?_
    refine lv_bipush (v := nI 39) hx hb d_S_wordForLow0_134 (by decide) ?_
    refine lv_iconst (v := nI 3) hx hb d_S_wordForLow0_136 (by decide) ?_
    refine lv_iload_n hx hb d_S_wordForLow0_137 rfl (lv_at hl 1 rfl) ?_
    refine lv_iload_n hx hb d_S_wordForLow0_138 rfl (lv_at hl 0 rfl) ?_
    refine lv_iload_n hx hb d_S_wordForLow0_139 rfl (lv_at hl 2 rfl) ?_
    refine va_gets hx hb (hT 1 _ rfl).1 va_S.rf hown (hts _ (List.mem_cons_of_mem _ k_64)) (fun _ h9 => h9) d_S_wordForLow0_140 ?_
    refine callE (W.runS (As := [.int a0, .ref (t 1)]) (rest := [.int ((nI 8) + (f_bits a0 (nI 4) (nI 2))), .int ((nI 8) + (f_bits a0 (nI 9) (nI 7))), .int (nI 3), .int (nI 39)]) ⟨hx, hb, hml, hown, hts⟩ (c_gather l t 1 rfl (mm := 2) rfl (by decide) a0) (cwS 2 hts (gS k_118 k_119 k_1 k_120) rfl rfl rfl (by decide +kernel) ⟨Nat.le_of_ble_eq_true rfl, Nat.le_of_ble_eq_true rfl⟩) (tb_pre hT) rfl rfl hl.1 rfl (lv_room (Nat.le_of_ble_eq_true rfl)) d_S_wordForLow0_143 ⟨Nat.zero_le _, Nat.zero_le _⟩) ?_
    refine callE (W.runS (As := [.int (nI 39), .int (nI 3), .int ((nI 8) + (f_bits a0 (nI 9) (nI 7))), .int ((nI 8) + (f_bits a0 (nI 4) (nI 2))), .int (f_gather row1 (nI 0) a0)]) (rest := []) ⟨hx, hb, hml, hown, hts⟩ (c_formS l t (nI 39) (nI 3) ((nI 8) + (f_bits a0 (nI 9) (nI 7))) ((nI 8) + (f_bits a0 (nI 4) (nI 2))) (f_gather row1 (nI 0) a0)) (cwS 5 hts (gS k_127 k_128 k_1 k_129) rfl rfl rfl (by decide +kernel) ⟨Nat.le_of_ble_eq_true rfl, Nat.le_of_ble_eq_true rfl⟩) (tb_pre hT) rfl rfl hl.1 rfl (lv_room (Nat.le_of_ble_eq_true rfl)) d_S_wordForLow0_146 ⟨Nat.zero_le _, Nat.zero_le _⟩) ?_
    exact W.iret hx hb hr (fun t ht _ => ⟨_, rfl, by rw [f_wordForLow0, if_neg c1, if_neg c2, if_neg c3, if_neg c4, if_neg c5, if_pos c6], ht⟩) (fun q h => nomatch h) d_S_wordForLow0_149
  by_cases c7 : (f_bits a0 (nI 15) (nI 13)) = nI 6
  · refine lv_tableIn (tgt := 150) (off := 120) hx hb d_S_wordForLow0_30 (by rw [c7]; decide +kernel) (by rw [c7]; decide +kernel) (by rw [c7]; decide +kernel) (by decide) ?_
    refine lv_bipush (v := nI 35) hx hb d_S_wordForLow0_150 (by decide) ?_
    refine lv_iconst (v := nI 2) hx hb d_S_wordForLow0_152 (by decide) ?_
    refine lv_iload_n hx hb d_S_wordForLow0_153 rfl (lv_at hl 1 rfl) ?_
    refine lv_iload_n hx hb d_S_wordForLow0_154 rfl (lv_at hl 0 rfl) ?_
    refine lv_iload_n hx hb d_S_wordForLow0_155 rfl (lv_at hl 2 rfl) ?_
    refine va_gets hx hb (hT 2 _ rfl).1 va_S.rf hown (hts _ (List.mem_cons_of_mem _ k_66)) (fun _ h9 => h9) d_S_wordForLow0_156 ?_
    refine callE (W.runS (As := [.int a0, .ref (t 2)]) (rest := [.int ((nI 8) + (f_bits a0 (nI 4) (nI 2))), .int ((nI 8) + (f_bits a0 (nI 9) (nI 7))), .int (nI 2), .int (nI 35)]) ⟨hx, hb, hml, hown, hts⟩ (c_gather l t 2 rfl (mm := 3) rfl (by decide) a0) (cwS 2 hts (gS k_118 k_119 k_1 k_120) rfl rfl rfl (by decide +kernel) ⟨Nat.le_of_ble_eq_true rfl, Nat.le_of_ble_eq_true rfl⟩) (tb_pre hT) rfl rfl hl.1 rfl (lv_room (Nat.le_of_ble_eq_true rfl)) d_S_wordForLow0_159 ⟨Nat.zero_le _, Nat.zero_le _⟩) ?_
    refine callE (W.runS (As := [.int (nI 35), .int (nI 2), .int ((nI 8) + (f_bits a0 (nI 9) (nI 7))), .int ((nI 8) + (f_bits a0 (nI 4) (nI 2))), .int (f_gather row2 (nI 0) a0)]) (rest := []) ⟨hx, hb, hml, hown, hts⟩ (c_formS l t (nI 35) (nI 2) ((nI 8) + (f_bits a0 (nI 9) (nI 7))) ((nI 8) + (f_bits a0 (nI 4) (nI 2))) (f_gather row2 (nI 0) a0)) (cwS 5 hts (gS k_127 k_128 k_1 k_129) rfl rfl rfl (by decide +kernel) ⟨Nat.le_of_ble_eq_true rfl, Nat.le_of_ble_eq_true rfl⟩) (tb_pre hT) rfl rfl hl.1 rfl (lv_room (Nat.le_of_ble_eq_true rfl)) d_S_wordForLow0_162 ⟨Nat.zero_le _, Nat.zero_le _⟩) ?_
    exact W.iret hx hb hr (fun t ht _ => ⟨_, rfl, by rw [f_wordForLow0, if_neg c1, if_neg c2, if_neg c3, if_neg c4, if_neg c5, if_neg c6, if_pos c7], ht⟩) (fun q h => nomatch h) d_S_wordForLow0_165
  by_cases c8 : (f_bits a0 (nI 15) (nI 13)) = nI 7
  · refine lv_tableIn (tgt := 166) (off := 136) hx hb d_S_wordForLow0_30 (by rw [c8]; decide +kernel) (by rw [c8]; decide +kernel) (by rw [c8]; decide +kernel) (by decide) ?_
    refine lv_bipush (v := nI 35) hx hb d_S_wordForLow0_166 (by decide) ?_
    refine lv_iconst (v := nI 3) hx hb d_S_wordForLow0_168 (by decide) ?_
    refine lv_iload_n hx hb d_S_wordForLow0_169 rfl (lv_at hl 1 rfl) ?_
    refine lv_iload_n hx hb d_S_wordForLow0_170 rfl (lv_at hl 0 rfl) ?_
    refine lv_iload_n hx hb d_S_wordForLow0_171 rfl (lv_at hl 2 rfl) ?_
    refine va_gets hx hb (hT 1 _ rfl).1 va_S.rf hown (hts _ (List.mem_cons_of_mem _ k_64)) (fun _ h9 => h9) d_S_wordForLow0_172 ?_
    refine callE (W.runS (As := [.int a0, .ref (t 1)]) (rest := [.int ((nI 8) + (f_bits a0 (nI 4) (nI 2))), .int ((nI 8) + (f_bits a0 (nI 9) (nI 7))), .int (nI 3), .int (nI 35)]) ⟨hx, hb, hml, hown, hts⟩ (c_gather l t 1 rfl (mm := 2) rfl (by decide) a0) (cwS 2 hts (gS k_118 k_119 k_1 k_120) rfl rfl rfl (by decide +kernel) ⟨Nat.le_of_ble_eq_true rfl, Nat.le_of_ble_eq_true rfl⟩) (tb_pre hT) rfl rfl hl.1 rfl (lv_room (Nat.le_of_ble_eq_true rfl)) d_S_wordForLow0_175 ⟨Nat.zero_le _, Nat.zero_le _⟩) ?_
    refine callE (W.runS (As := [.int (nI 35), .int (nI 3), .int ((nI 8) + (f_bits a0 (nI 9) (nI 7))), .int ((nI 8) + (f_bits a0 (nI 4) (nI 2))), .int (f_gather row1 (nI 0) a0)]) (rest := []) ⟨hx, hb, hml, hown, hts⟩ (c_formS l t (nI 35) (nI 3) ((nI 8) + (f_bits a0 (nI 9) (nI 7))) ((nI 8) + (f_bits a0 (nI 4) (nI 2))) (f_gather row1 (nI 0) a0)) (cwS 5 hts (gS k_127 k_128 k_1 k_129) rfl rfl rfl (by decide +kernel) ⟨Nat.le_of_ble_eq_true rfl, Nat.le_of_ble_eq_true rfl⟩) (tb_pre hT) rfl rfl hl.1 rfl (lv_room (Nat.le_of_ble_eq_true rfl)) d_S_wordForLow0_178 ⟨Nat.zero_le _, Nat.zero_le _⟩) ?_
    exact W.iret hx hb hr (fun t ht _ => ⟨_, rfl, by rw [f_wordForLow0, if_neg c1, if_neg c2, if_neg c3, if_neg c4, if_neg c5, if_neg c6, if_neg c7, if_pos c8], ht⟩) (fun q h => nomatch h) d_S_wordForLow0_181
  have c1z := lv_neT (a := 0) c1 (by decide)
  have c2z := lv_neT (a := 1) c2 (by decide)
  have c3z := lv_neT (a := 2) c3 (by decide)
  have c4z := lv_neT (a := 3) c4 (by decide)
  have c5z := lv_neT (a := 4) c5 (by decide)
  have c6z := lv_neT (a := 5) c6 (by decide)
  have c7z := lv_neT (a := 6) c7 (by decide)
  have c8z := lv_neT (a := 7) c8 (by decide)
  refine lv_tableOut (tgt := 182) hx hb d_S_wordForLow0_30 (by omega) (by decide) ?_
  refine lv_iconst (v := nI 0) hx hb d_S_wordForLow0_182 (by decide) ?_
  exact W.iret hx hb hr (fun t ht _ => ⟨_, rfl, by rw [f_wordForLow0, if_neg c1, if_neg c2, if_neg c3, if_neg c4, if_neg c5, if_neg c6, if_neg c7, if_neg c8], ht⟩) (fun q h => nomatch h) d_S_wordForLow0_183
