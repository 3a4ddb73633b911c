set_option maxHeartbeats 40000000 in
set_option maxRecDepth 100000 in
theorem c_M_search0 (l : Launch) (dC : Nat → ClassId) (dI : Nat → Nat → Nat) (h1 sz : Nat) (th hh wt fi wo le wn : Int32) (a1 a2 : Int32) (h0 : a1 = 0) : Met l y_M_search w_M_search { frames := 7, cells := 0, slots := 0, locals := 157 } (va_Pc [.ref h1, .int a1, .int a2] (o_B dC dI sz [(h1, .inr (1, [.int th, .int hh, .int wt, .int fi, .int wo, .int le, .int wn]))])) (va_Qi (fun r (_ : Int32) => r = f_srA a1 a2) (fun u t => at_M dC dI (va_A [(h1, .inr (1, [.int th, .int hh, .int wt, .int fi, .int wo, .int le, .int wn]))] sz) h1 (th, u, wt, fi, wo, le, wn) t) (va_A [(h1, .inr (1, [.int th, .int hh, .int wt, .int fi, .int wo, .int le, .int wn]))] sz)) 0 0 (va_A [(h1, .inr (1, [.int th, .int hh, .int wt, .int fi, .int wo, .int le, .int wn]))] sz) := by
  refine Met.ofW (cc := b_M_search) (maxL := 9) (ret := (some .int)) (by decide) rfl ?_
  intro p e s m args below meth c s₁ B hml hv
  obtain ⟨rfl, hsz, hP, hK, hD0⟩ := hv
  have hx := B.exec
  have hb := B.bytes
  have hr := B.returns
  have hts := atoms_spec (ws := w_M_search) B.pre
  have hown : s.vm.findClass R_M = some m.cls := findClass_of_methodNamed B.named
  have hlocks := B.notSynchronized
  have hl := lv_entry ([.ref h1, .int a1, .int a2]) (n := 9) (Nat.le_of_ble_eq_true rfl)
  rw [lg_entry_eq]
  generalize (lg_sl ([.ref h1, .int a1, .int a2]) ++ List.replicate (9 - (lg_sl ([.ref h1, .int a1, .int a2])).length) Slot.unset).toArray = ls at hl ⊢
  have hl : lv_has ls 9 [(0, .ref h1), (1, .int a1), (2, .int a2)] := hl
  subst hsz
  have hD := hD0.self (sz := s.heap.size)
  generalize hAe : va_A [(h1, .inr (1, [.int th, .int hh, .int wt, .int fi, .int wo, .int le, .int wn]))] s.heap.size = A at hD ⊢
  have hA : ∀ q : Nat, s.heap.size ≤ q → A q := fun q h => by rw [← hAe]; exact Or.inr h
  have hS : va_S A s.heap s.heap [] := va_S.rf
  have hP : va_P (dC, dI) classes [(h1, .inr (1, [.int th, .int hh, .int wt, .int fi, .int wo, .int le, .int wn]))] s.heap := hP
  refine lv_iconst (v := nI 0) hx hb d_M_search_0 (by decide) ?_
  refine lv_istore_n (lv' := [(3, .int (nI 0)), (0, .ref h1), (1, .int a1), (2, .int a2)]) hx hb d_M_search_1 rfl hl (by decide) rfl (fun ls hl => ?_)
  refine lv_iconst (v := nI 4294967295) hx hb d_M_search_2 (by decide) ?_
  refine lv_istore (lv' := [(4, .int (nI 4294967295)), (3, .int (nI 0)), (0, .ref h1), (1, .int a1), (2, .int a2)]) hx hb d_M_search_3 hl (by decide) rfl (fun ls hl => ?_)
  refine lv_iconst (v := nI 0) hx hb d_M_search_5 (by decide) ?_
  refine lv_istore (lv' := [(5, .int (nI 0)), (4, .int (nI 4294967295)), (3, .int (nI 0)), (0, .ref h1), (1, .int a1), (2, .int a2)]) hx hb d_M_search_6 hl (by decide) rfl (fun ls hl => ?_)
  refine lv_iload hx hb d_M_search_8 (lv_at hl 0 rfl) ?_
  refine lv_bipush (v := nI 24) hx hb d_M_search_10 (by decide) ?_
  refine lv_icmp_ge (tgt := 97) hx hb d_M_search_12 (by decide) (fun c1 => ?_) (fun c1 => ?_)
  · exact absurd c1 (by decide)
  · have _ := c1
    refine lv_iload_n hx hb d_M_search_15 rfl (lv_at hl 4 rfl) ?_
    refine lv_if_eq (tgt := 97) hx hb d_M_search_16 (by decide) (fun c2 => ?_) (fun c2 => ?_)
    · have _ := c2
      refine lv_iload_n hx hb d_M_search_97 rfl (lv_at hl 5 rfl) ?_
      refine lv_if_eq (tgt := 105) hx hb d_M_search_98 (by decide) (fun c3 => ?_) (fun c3 => ?_)
      · refine lv_iload hx hb d_M_search_105 (lv_at hl 1 rfl) ?_
        exact W.iret hx hb hr (fun t ht hW => ⟨⟨_, hh, rfl, by rw [f_srA, if_pos h0, f_sr, if_pos c3]; rfl, by rw [ht]; exact hP, va_K.moved hW.alike hK, hD⟩, hS.F ht⟩) hS.2.2 d_M_search_107
      · refine lv_iload_n hx hb d_M_search_101 rfl (lv_at hl 2 rfl) ?_
        refine lv_goto (tgt := 107) hx hb d_M_search_102 (by decide) ?_
        exact W.iret hx hb hr (fun t ht hW => ⟨⟨_, hh, rfl, by rw [f_srA, if_pos h0, f_sr, if_neg c3]; rfl, by rw [ht]; exact hP, va_K.moved hW.alike hK, hD⟩, hS.F ht⟩) hS.2.2 d_M_search_107
    · exact absurd h0 c2
theorem c_M_searchA (l : Launch) (dC : Nat → ClassId) (dI : Nat → Nat → Nat) (h1 sz : Nat) (th hh wt fi wo le wn : Int32) (a1 a2 : Int32) : Met l y_M_search w_M_search { frames := 7, cells := 0, slots := 0, locals := 157 } (va_Pc [.ref h1, .int a1, .int a2] (o_B dC dI sz [(h1, .inr (1, [.int th, .int hh, .int wt, .int fi, .int wo, .int le, .int wn]))])) (va_Qi (fun r (_ : Int32) => r = f_srA a1 a2) (fun u t => at_M dC dI (va_A [(h1, .inr (1, [.int th, .int hh, .int wt, .int fi, .int wo, .int le, .int wn]))] sz) h1 (th, u, wt, fi, wo, le, wn) t) (va_A [(h1, .inr (1, [.int th, .int hh, .int wt, .int fi, .int wo, .int le, .int wn]))] sz)) 0 0 (va_A [(h1, .inr (1, [.int th, .int hh, .int wt, .int fi, .int wo, .int le, .int wn]))] sz) := by
  by_cases h0 : a1 = 0
  · exact c_M_search0 l dC dI h1 sz th hh wt fi wo le wn a1 a2 h0
  · have e : f_srA a1 a2 = f_sr a1 24 a2 := by rw [f_srA, if_neg h0]
    rw [e]
    exact c_M_search l dC dI h1 sz th hh wt fi wo le wn a1 a2 h0
set_option maxHeartbeats 40000000 in
set_option maxRecDepth 100000 in
theorem c_M_shorten (l : Launch) (dC : Nat → ClassId) (dI : Nat → Nat → Nat) (h1 sz : Nat) (th hh wt fi wo le wn : Int32) (a1 : Int32) : Met l y_M_shorten w_M_shorten { frames := 8, cells := 0, slots := 0, locals := 185 } (va_Pc [.ref h1, .int a1] (o_B dC dI sz [(h1, .inr (1, [.int th, .int hh, .int wt, .int fi, .int wo, .int le, .int wn]))])) (va_Qi (fun r (_ : Int32) => r = f_shortN a1 64) (fun u t => at_M dC dI (va_A [(h1, .inr (1, [.int th, .int hh, .int wt, .int fi, .int wo, .int le, .int wn]))] sz) h1 (nI 0, u, wt, fi, wo, le, wn) t) (va_A [(h1, .inr (1, [.int th, .int hh, .int wt, .int fi, .int wo, .int le, .int wn]))] sz)) 0 0 (va_A [(h1, .inr (1, [.int th, .int hh, .int wt, .int fi, .int wo, .int le, .int wn]))] sz) := by
  refine Met.ofW (cc := b_M_shorten) (maxL := 2) (ret := (some .int)) (by decide) rfl ?_
  intro p e s m args below meth c s₁ B hml hv
  obtain ⟨rfl, hsz, hP, hK, hD0⟩ := hv
  have hx := B.exec
  have hb := B.bytes
  have hr := B.returns
  have hts := atoms_spec (ws := w_M_shorten) B.pre
  have hown : s.vm.findClass R_M = some m.cls := findClass_of_methodNamed B.named
  have hlocks := B.notSynchronized
  have hl := lv_entry ([.ref h1, .int a1]) (n := 2) (Nat.le_of_ble_eq_true rfl)
  rw [lg_entry_eq]
  generalize (lg_sl ([.ref h1, .int a1]) ++ List.replicate (2 - (lg_sl ([.ref h1, .int a1])).length) Slot.unset).toArray = ls at hl ⊢
  have hl : lv_has ls 2 [(0, .ref h1), (1, .int a1)] := hl
  subst hsz
  have hD := hD0.self (sz := s.heap.size)
  generalize hAe : va_A [(h1, .inr (1, [.int th, .int hh, .int wt, .int fi, .int wo, .int le, .int wn]))] s.heap.size = A at hD ⊢
  have hA : ∀ q : Nat, s.heap.size ≤ q → A q := fun q h => by rw [← hAe]; exact Or.inr h
  have hS : va_S A s.heap s.heap [] := va_S.rf
  have hP : va_P (dC, dI) classes [(h1, .inr (1, [.int th, .int hh, .int wt, .int fi, .int wo, .int le, .int wn]))] s.heap := hP
  refine lv_aload_n hx hb d_M_shorten_0 rfl (lv_at hl 0 rfl) ?_
  refine lv_iconst (v := nI 0) hx hb d_M_shorten_1 (by decide) ?_
  refine va_put (D := (dC, dI)) (ci := 1) (v := .int (nI 0)) (ty := .int) (C := R_M) (T := T_M) (N := 7) hx hb hts (fun w h => List.mem_cons_of_mem _ (i_M w h)) ty_M ty_M_ok nm_M hown hK hP hD hS 0 rfl rfl 0 (by decide) (hts _ (List.mem_cons_of_mem _ k_290)) (fun _ h9 => h9) rfl (by decide +kernel) rfl rfl (Nat.le_of_ble_eq_true rfl) d_M_shorten_2 (fun H locs hP hD hS => ?_)
  have hP : va_P (dC, dI) classes [(h1, .inr (1, [.int (nI 0), .int hh, .int wt, .int fi, .int wo, .int le, .int wn]))] H := hP
  have hD : va_D A [(h1, .inr (1, [.int (nI 0), .int hh, .int wt, .int fi, .int wo, .int le, .int wn]))] := hD
  refine lv_aload_n hx hb d_M_shorten_5 rfl (lv_at hl 0 rfl) ?_
  refine lv_iload_n hx hb d_M_shorten_6 rfl (lv_at hl 1 rfl) ?_
  refine lv_iconst (v := nI 0) hx hb d_M_shorten_7 (by decide) ?_
  have hFc := va_free (wc := [(h1, .inr (1, [.int (nI 0), .int hh, .int wt, .int fi, .int wo, .int le, .int wn]))]) hD hS hA [0] rfl
  refine callQi (va_runV (b := h1) (As := [.int a1, .int (nI 0)]) (rest := []) ⟨hx, hb, hml, hown, hts⟩ (c_M_searchA l dC dI h1 H.size (nI 0) hh wt fi wo le wn a1 (nI 0)) (cwV 2 hts (gV awx k_394 k_396 ks_14 k_2 k_397) rfl rfl rfl (by decide +kernel) ⟨Nat.le_of_ble_eq_true rfl, Nat.le_of_ble_eq_true rfl⟩) ⟨o_blind, va_recv hK hP (ci := 1) (q0 := 0) rfl rfl, fun U hU hW => ⟨rfl, by rw [hU], by rw [hU]; exact hP, va_K.moved hW.alike hK, hD.weaken (fun _ _ _ _ => trivial)⟩⟩ rfl rfl hl.1 rfl (lv_room (Nat.le_of_ble_eq_true rfl)) d_M_shorten_8 ⟨Nat.zero_le _, Nat.zero_le _⟩) hS (fun q _ h => hFc q h) hFc (fun u9 t9 H1 locs ht hvm hB hz1 hk1 hS => ?_)
  obtain ⟨hP1, hK1, hD1⟩ := hB
  rw [ht] at hP1
  have hK1 := va_K.moved hvm.symm hK1
  obtain ⟨hP, hD⟩ := va_join (wr := []) (w1 := [(h1, .inr (1, [.int (nI 0), .int u9, .int wt, .int fi, .int wo, .int le, .int wn]))]) hP hD [0] [] rfl rfl (by decide) (by decide) hk1 hFc hP1 hD1
  generalize H1 = H at hP hS ⊢
  have hP : va_P (dC, dI) classes [(h1, .inr (1, [.int (nI 0), .int u9, .int wt, .int fi, .int wo, .int le, .int wn]))] H := hP
  have hD : va_D A [(h1, .inr (1, [.int (nI 0), .int u9, .int wt, .int fi, .int wo, .int le, .int wn]))] := hD
  exact W.iret hx hb hr (fun t ht hW => ⟨⟨_, u9, rfl, same_short a1, by rw [ht]; exact hP, va_K.moved hW.alike hK, hD⟩, hS.F ht⟩) hS.2.2 d_M_shorten_11
set_option maxHeartbeats 40000000 in
set_option maxRecDepth 100000 in
theorem c_M_halves (l : Launch) (dC : Nat → ClassId) (dI : Nat → Nat → Nat) (h1 sz : Nat) (th hh wt fi wo le wn : Int32) (a1 : Int32) : Met l y_M_halves w_M_halves { frames := 8, cells := 0, slots := 0, locals := 185 } (va_Pc [.ref h1, .int a1] (o_B dC dI sz [(h1, .inr (1, [.int th, .int hh, .int wt, .int fi, .int wo, .int le, .int wn]))])) (va_Qi (fun r (_ : Int32) => r = f_halvesN a1 64) (fun u t => at_M dC dI (va_A [(h1, .inr (1, [.int th, .int hh, .int wt, .int fi, .int wo, .int le, .int wn]))] sz) h1 (nI 0, u, wt, fi, wo, le, wn) t) (va_A [(h1, .inr (1, [.int th, .int hh, .int wt, .int fi, .int wo, .int le, .int wn]))] sz)) 0 0 (va_A [(h1, .inr (1, [.int th, .int hh, .int wt, .int fi, .int wo, .int le, .int wn]))] sz) := by
  refine Met.ofW (cc := b_M_halves) (maxL := 2) (ret := (some .int)) (by decide) rfl ?_
  intro p e s m args below meth c s₁ B hml hv
  obtain ⟨rfl, hsz, hP, hK, hD0⟩ := hv
  have hx := B.exec
  have hb := B.bytes
  have hr := B.returns
  have hts := atoms_spec (ws := w_M_halves) B.pre
  have hown : s.vm.findClass R_M = some m.cls := findClass_of_methodNamed B.named
  have hlocks := B.notSynchronized
  have hl := lv_entry ([.ref h1, .int a1]) (n := 2) (Nat.le_of_ble_eq_true rfl)
  rw [lg_entry_eq]
  generalize (lg_sl ([.ref h1, .int a1]) ++ List.replicate (2 - (lg_sl ([.ref h1, .int a1])).length) Slot.unset).toArray = ls at hl ⊢
  have hl : lv_has ls 2 [(0, .ref h1), (1, .int a1)] := hl
  subst hsz
  have hD := hD0.self (sz := s.heap.size)
  generalize hAe : va_A [(h1, .inr (1, [.int th, .int hh, .int wt, .int fi, .int wo, .int le, .int wn]))] s.heap.size = A at hD ⊢
  have hA : ∀ q : Nat, s.heap.size ≤ q → A q := fun q h => by rw [← hAe]; exact Or.inr h
  have hS : va_S A s.heap s.heap [] := va_S.rf
  have hP : va_P (dC, dI) classes [(h1, .inr (1, [.int th, .int hh, .int wt, .int fi, .int wo, .int le, .int wn]))] s.heap := hP
  refine lv_aload_n hx hb d_M_halves_0 rfl (lv_at hl 0 rfl) ?_
  refine lv_iconst (v := nI 0) hx hb d_M_halves_1 (by decide) ?_
  refine va_put (D := (dC, dI)) (ci := 1) (v := .int (nI 0)) (ty := .int) (C := R_M) (T := T_M) (N := 7) hx hb hts (fun w h => List.mem_cons_of_mem _ (i_M w h)) ty_M ty_M_ok nm_M hown hK hP hD hS 0 rfl rfl 0 (by decide) (hts _ (List.mem_cons_of_mem _ k_290)) (fun _ h9 => h9) rfl (by decide +kernel) rfl rfl (Nat.le_of_ble_eq_true rfl) d_M_halves_2 (fun H locs hP hD hS => ?_)
  have hP : va_P (dC, dI) classes [(h1, .inr (1, [.int (nI 0), .int hh, .int wt, .int fi, .int wo, .int le, .int wn]))] H := hP
  have hD : va_D A [(h1, .inr (1, [.int (nI 0), .int hh, .int wt, .int fi, .int wo, .int le, .int wn]))] := hD
  refine lv_aload_n hx hb d_M_halves_5 rfl (lv_at hl 0 rfl) ?_
  refine lv_iload_n hx hb d_M_halves_6 rfl (lv_at hl 1 rfl) ?_
  refine lv_iconst (v := nI 1) hx hb d_M_halves_7 (by decide) ?_
  have hFc := va_free (wc := [(h1, .inr (1, [.int (nI 0), .int hh, .int wt, .int fi, .int wo, .int le, .int wn]))]) hD hS hA [0] rfl
  refine callQi (va_runV (b := h1) (As := [.int a1, .int (nI 1)]) (rest := []) ⟨hx, hb, hml, hown, hts⟩ (c_M_searchA l dC dI h1 H.size (nI 0) hh wt fi wo le wn a1 (nI 1)) (cwV 2 hts (gV awx k_394 k_396 ks_14 k_2 k_397) rfl rfl rfl (by decide +kernel) ⟨Nat.le_of_ble_eq_true rfl, Nat.le_of_ble_eq_true rfl⟩) ⟨o_blind, va_recv hK hP (ci := 1) (q0 := 0) rfl rfl, fun U hU hW => ⟨rfl, by rw [hU], by rw [hU]; exact hP, va_K.moved hW.alike hK, hD.weaken (fun _ _ _ _ => trivial)⟩⟩ rfl rfl hl.1 rfl (lv_room (Nat.le_of_ble_eq_true rfl)) d_M_halves_8 ⟨Nat.zero_le _, Nat.zero_le _⟩) hS (fun q _ h => hFc q h) hFc (fun u9 t9 H1 locs ht hvm hB hz1 hk1 hS => ?_)
  obtain ⟨hP1, hK1, hD1⟩ := hB
  rw [ht] at hP1
  have hK1 := va_K.moved hvm.symm hK1
  obtain ⟨hP, hD⟩ := va_join (wr := []) (w1 := [(h1, .inr (1, [.int (nI 0), .int u9, .int wt, .int fi, .int wo, .int le, .int wn]))]) hP hD [0] [] rfl rfl (by decide) (by decide) hk1 hFc hP1 hD1
  generalize H1 = H at hP hS ⊢
  have hP : va_P (dC, dI) classes [(h1, .inr (1, [.int (nI 0), .int u9, .int wt, .int fi, .int wo, .int le, .int wn]))] H := hP
  have hD : va_D A [(h1, .inr (1, [.int (nI 0), .int u9, .int wt, .int fi, .int wo, .int le, .int wn]))] := hD
  exact W.iret hx hb hr (fun t ht hW => ⟨⟨_, u9, rfl, same_halves a1, by rw [ht]; exact hP, va_K.moved hW.alike hK, hD⟩, hS.F ht⟩) hS.2.2 d_M_halves_11
