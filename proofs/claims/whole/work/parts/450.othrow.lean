set_option maxHeartbeats 40000000 in
set_option maxRecDepth 100000 in
theorem c_S_expand (l : Launch) (t : Nat → Nat) (h0 : Nat) (a1 : Int32) (hv9 : ¬ f_isHalf a1 = 0) : Met l y_S_expand w_S_expand { frames := 5, cells := 0, slots := 0, locals := 111 } (va_Pc [.ref h0, .int a1] (tb t)) (vp_Si (fun r => r = f_wordFor a1)) 0 0 (fun _ => False) := by
  refine Met.ofW (cc := b_S_expand) (maxL := 2) (ret := (some .int)) (by decide) rfl ?_
  intro p e s m args below meth c s₁ B hml hv
  obtain ⟨rfl, hT⟩ := hv
  have hx := B.exec
  have hb := B.bytes
  have hr := B.returns
  have hts := atoms_spec (ws := w_S_expand) B.pre
  have hown : s.vm.findClass R_S = some m.cls := findClass_of_methodNamed B.named
  have hlocks := B.notSynchronized
  have hl := lv_entry ([.ref h0, .int a1]) (n := 2) (Nat.le_of_ble_eq_true rfl)
  rw [lg_entry_eq]
  generalize (lg_sl ([.ref h0, .int a1]) ++ List.replicate (2 - (lg_sl ([.ref h0, .int a1])).length) Slot.unset).toArray = ls at hl ⊢
  have hl : lv_has ls 2 [(0, .ref h0), (1, .int a1)] := hl
  refine lv_iload_n hx hb d_S_expand_0 rfl (lv_at hl 1 rfl) ?_
  refine callE (W.runS (As := [.int a1]) (rest := []) ⟨hx, hb, hml, hown, hts⟩ (c_isHalf l t a1) (cwS 1 hts (gS k_203 k_204 k_1 k_205) rfl rfl rfl (by decide +kernel) ⟨Nat.le_of_ble_eq_true rfl, Nat.le_of_ble_eq_true rfl⟩) (tb_pre hT) rfl rfl hl.1 rfl (lv_room (Nat.le_of_ble_eq_true rfl)) d_S_expand_1 ⟨Nat.zero_le _, Nat.zero_le _⟩) ?_
  refine lv_if_ne (tgt := 17) hx hb d_S_expand_4 (by decide) (fun c1 => ?_) (fun c1 => ?_)
  · refine lv_iload_n hx hb d_S_expand_17 rfl (lv_at hl 1 rfl) ?_
    refine callE (W.runS (As := [.int a1]) (rest := []) ⟨hx, hb, hml, hown, hts⟩ (c_wordFor l t a1) (cwS 1 hts (gS k_112 k_113 k_1 k_114) rfl rfl rfl (by decide +kernel) ⟨Nat.le_of_ble_eq_true rfl, Nat.le_of_ble_eq_true rfl⟩) (tb_pre hT) rfl rfl hl.1 rfl (lv_room (Nat.le_of_ble_eq_true rfl)) d_S_expand_18 ⟨Nat.zero_le _, Nat.zero_le _⟩) ?_
    exact W.iret hx hb hr (fun t ht _ => ⟨_, rfl, rfl, ht⟩) (fun q h => nomatch h) d_S_expand_21
  · exact absurd c1 hv9
set_option maxHeartbeats 40000000 in
set_option maxRecDepth 100000 in
theorem c_S_expand_bad (l : Launch) (hst : l.stackTraces = false) (t : Nat → Nat) (h0 : Nat) (a1 : Int32) (hv9 : f_isHalf a1 = 0) : xMet l y_S_expand w_S_expand { frames := 6, cells := 1, slots := 6, locals := 82 } (va_Pc [.ref h0, .int a1] (fun U => tb t U ∧ xx U)) xE 1 6 := by
  refine xMet.ofW (cc := b_S_expand) (maxL := 2) (ret := (some .int)) (by decide) rfl ?_
  intro p e s m args below meth c s₁ B hml hv
  obtain ⟨rfl, hT, hXX⟩ := hv
  have hx := B.exec
  have hb := B.bytes
  have hr := B.returns
  have hts := atoms_spec (ws := w_S_expand) B.pre
  have hown : s.vm.findClass R_S = some m.cls := findClass_of_methodNamed B.named
  have hlocks := B.notSynchronized
  have hl := lv_entry ([.ref h0, .int a1]) (n := 2) (Nat.le_of_ble_eq_true rfl)
  rw [lg_entry_eq]
  generalize (lg_sl ([.ref h0, .int a1]) ++ List.replicate (2 - (lg_sl ([.ref h0, .int a1])).length) Slot.unset).toArray = ls at hl ⊢
  have hl : lv_has ls 2 [(0, .ref h0), (1, .int a1)] := hl
  have hnh : c.exceptionTable.isEmpty = true := B.noHandlers (hts _ List.mem_cons_self)
  refine lv_iload_n hx hb d_S_expand_0 rfl (lv_at hl 1 rfl) ?_
  refine callE (W.runS (As := [.int a1]) (rest := []) ⟨hx, hb, hml, hown, hts⟩ (c_isHalf l t a1) (cwS 1 hts (gS k_203 k_204 k_1 k_205) rfl rfl rfl (by decide +kernel) ⟨Nat.le_of_ble_eq_true rfl, Nat.le_of_ble_eq_true rfl⟩) (tb_pre hT) rfl rfl hl.1 rfl (lv_room (Nat.le_of_ble_eq_true rfl)) d_S_expand_1 ⟨Nat.zero_le _, Nat.zero_le _⟩) ?_
  refine lv_if_ne (tgt := 17) hx hb d_S_expand_4 (by decide) (fun c1 => absurd hv9 c1) (fun c1 => ?_)
  obtain ⟨-, -, ⟨sa, hstr⟩, -⟩ := id hXX
  exact x_throw hx hb hst hown (by decide +kernel) (by decide +kernel) (hts _ (List.mem_cons_of_mem _ k_207)) (hts _ (List.mem_cons_of_mem _ k_6)) hstr (own_all (fun w h => hts w (List.mem_cons_of_mem _ h)) hXX) (by rw [hml]; exact hl.1) d_S_expand_7 d_S_expand_10 d_S_expand_11 d_S_expand_13 d_S_expand_16 (fun x hx9 => by rw [Array.isEmpty_iff.mp hnh] at hx9; cases hx9) (Nat.lt_of_lt_of_le (by decide) (Nat.le_refl _)) (Nat.le_of_ble_eq_true rfl) (Nat.le_of_ble_eq_true rfl) (Nat.le_of_ble_eq_true rfl) hlocks (Nat.le_refl _) (Nat.le_refl _)
set_option maxHeartbeats 40000000 in
set_option maxRecDepth 100000 in
theorem c_S_take_bad (l : Launch) (hst : l.stackTraces = false) (t : Nat → Nat) (h0 : Nat) (a1 : Int32) (hv9 : f_isHalf a1 = 0) : xMet l y_S_take w_S_take { frames := 6, cells := 1, slots := 6, locals := 82 } (va_Pc [.ref h0, .int a1] (fun U => tb t U ∧ xx U)) xE 1 6 := by
  refine xMet.ofW (cc := b_S_take) (maxL := 2) (ret := (some .boolean)) (by decide) rfl ?_
  intro p e s m args below meth c s₁ B hml hv
  obtain ⟨rfl, hT, hXX⟩ := hv
  have hx := B.exec
  have hb := B.bytes
  have hr := B.returns
  have hts := atoms_spec (ws := w_S_take) B.pre
  have hown : s.vm.findClass R_S = some m.cls := findClass_of_methodNamed B.named
  have hlocks := B.notSynchronized
  have hl := lv_entry ([.ref h0, .int a1]) (n := 2) (Nat.le_of_ble_eq_true rfl)
  rw [lg_entry_eq]
  generalize (lg_sl ([.ref h0, .int a1]) ++ List.replicate (2 - (lg_sl ([.ref h0, .int a1])).length) Slot.unset).toArray = ls at hl ⊢
  have hl : lv_has ls 2 [(0, .ref h0), (1, .int a1)] := hl
  have hnh : c.exceptionTable.isEmpty = true := B.noHandlers (hts _ List.mem_cons_self)
  refine lv_iload_n hx hb d_S_take_0 rfl (lv_at hl 1 rfl) ?_
  refine callE (W.runS (As := [.int a1]) (rest := []) ⟨hx, hb, hml, hown, hts⟩ (c_isHalf l t a1) (cwS 1 hts (gS k_203 k_204 k_1 k_205) rfl rfl rfl (by decide +kernel) ⟨Nat.le_of_ble_eq_true rfl, Nat.le_of_ble_eq_true rfl⟩) (tb_pre hT) rfl rfl hl.1 rfl (lv_room (Nat.le_of_ble_eq_true rfl)) d_S_take_1 ⟨Nat.zero_le _, Nat.zero_le _⟩) ?_
  refine lv_if_ne (tgt := 17) hx hb d_S_take_4 (by decide) (fun c1 => absurd hv9 c1) (fun c1 => ?_)
  obtain ⟨-, -, ⟨sa, hstr⟩, -⟩ := id hXX
  exact x_throw hx hb hst hown (by decide +kernel) (by decide +kernel) (hts _ (List.mem_cons_of_mem _ k_207)) (hts _ (List.mem_cons_of_mem _ k_6)) hstr (own_all (fun w h => hts w (List.mem_cons_of_mem _ h)) hXX) (by rw [hml]; exact hl.1) d_S_take_7 d_S_take_10 d_S_take_11 d_S_take_13 d_S_take_16 (fun x hx9 => by rw [Array.isEmpty_iff.mp hnh] at hx9; cases hx9) (Nat.lt_of_lt_of_le (by decide) (Nat.le_refl _)) (Nat.le_of_ble_eq_true rfl) (Nat.le_of_ble_eq_true rfl) (Nat.le_of_ble_eq_true rfl) hlocks (Nat.le_refl _) (Nat.le_refl _)
