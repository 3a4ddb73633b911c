set_option maxHeartbeats 40000000 in
set_option maxRecDepth 100000 in
theorem c_M_wordOf (l : Launch) (dC : Nat → ClassId) (dI : Nat → Nat → Nat) (h1 sz : Nat) (th hh wt fi wo le wn : Int32) (a1 : Int32) : Met l y_M_wordOf w_M_wordOf { frames := 5, cells := 0, slots := 0, locals := 109 } (va_Pc [.ref h1, .int a1] (o_B dC dI sz [(h1, .inr (1, [.int th, .int hh, .int wt, .int fi, .int wo, .int le, .int wn]))])) (va_Qi (fun r (_ : Unit) => r = f_M_wordOf a1) (fun (_ : Unit) t => at_M dC dI (va_A [(h1, .inr (1, [.int th, .int hh, .int wt, .int fi, .int wo, .int le, .int wn]))] sz) h1 (th, a1, wt, fi, wo, le, wn) t) (va_A [(h1, .inr (1, [.int th, .int hh, .int wt, .int fi, .int wo, .int le, .int wn]))] sz)) 0 0 (va_A [(h1, .inr (1, [.int th, .int hh, .int wt, .int fi, .int wo, .int le, .int wn]))] sz) := by
  refine Met.ofW (cc := b_M_wordOf) (maxL := 2) (ret := (some .int)) (by decide) rfl ?_
  intro p e s m args below meth c s₁ B hml hv
  obtain ⟨rfl, hsz, hP, hK, hD0⟩ := hv
  have hx := B.exec
  have hb := B.bytes
  have hr := B.returns
  have hts := atoms_spec (ws := w_M_wordOf) B.pre
  have hown : s.vm.findClass R_M = some m.cls := findClass_of_methodNamed B.named
  have hlocks := B.notSynchronized
  have hl := lv_entry ([.ref h1, .int a1]) (n := 2) (Nat.le_of_ble_eq_true rfl)
  rw [lg_entry_eq]
  generalize (lg_sl ([.ref h1, .int a1]) ++ List.replicate (2 - (lg_sl ([.ref h1, .int a1])).length) Slot.unset).toArray = ls at hl ⊢
  have hl : lv_has ls 2 [(0, .ref h1), (1, .int a1)] := hl
  subst hsz
  have hD := hD0.self (sz := s.heap.size)
  generalize hAe : va_A [(h1, .inr (1, [.int th, .int hh, .int wt, .int fi, .int wo, .int le, .int wn]))] s.heap.size = A at hD ⊢
  have hA : ∀ q : Nat, s.heap.size ≤ q → A q := fun q h => by rw [← hAe]; exact Or.inr h
  have hS : va_S A s.heap s.heap [] := va_S.rf
  have hP : va_P (dC, dI) classes [(h1, .inr (1, [.int th, .int hh, .int wt, .int fi, .int wo, .int le, .int wn]))] s.heap := hP
  refine lv_aload_n hx hb d_M_wordOf_0 rfl (lv_at hl 0 rfl) ?_
  refine lv_iload_n hx hb d_M_wordOf_1 rfl (lv_at hl 1 rfl) ?_
  refine va_put (D := (dC, dI)) (ci := 1) (v := .int a1) (ty := .int) (C := R_M) (T := T_M) (N := 7) hx hb hts (fun w h => List.mem_cons_of_mem _ (i_M w h)) ty_M ty_M_ok nm_M hown hK hP hD hS 0 rfl rfl 1 (by decide) (hts _ (List.mem_cons_of_mem _ k_291)) (fun _ h9 => h9) rfl (by decide +kernel) rfl rfl (Nat.le_of_ble_eq_true rfl) d_M_wordOf_2 (fun H locs hP hD hS => ?_)
  have hP : va_P (dC, dI) classes [(h1, .inr (1, [.int th, .int a1, .int wt, .int fi, .int wo, .int le, .int wn]))] H := hP
  have hD : va_D A [(h1, .inr (1, [.int th, .int a1, .int wt, .int fi, .int wo, .int le, .int wn]))] := hD
  refine lv_iload_n hx hb d_M_wordOf_5 rfl (lv_at hl 1 rfl) ?_
  refine lv_iconst (v := nI 3) hx hb d_M_wordOf_6 (by decide) ?_
  refine lv_iand hx hb d_M_wordOf_7 ?_
  by_cases c1 : (a1 &&& (nI 3)) = nI 0
  · refine lv_tableIn (tgt := 36) (off := 28) hx hb d_M_wordOf_8 (by rw [c1]; decide +kernel) (by rw [c1]; decide +kernel) (by rw [c1]; decide +kernel) (by decide) ?_
    refine lv_aload_n hx hb d_M_wordOf_36 rfl (lv_at hl 0 rfl) ?_
    refine callE (W.runV (b := h1) (As := []) (rest := []) ⟨hx, hb, hml, hown, hts⟩ (c_M_quadrant0 l dC dI h1 a1 ) (cwV 0 hts (gV awx k_325 k_327 ks_3 k_2 k_328) rfl rfl rfl (by decide +kernel) ⟨Nat.le_of_ble_eq_true rfl, Nat.le_of_ble_eq_true rfl⟩) (mo_pre ⟨th, wt, fi, wo, le, wn, hP, hK⟩) rfl rfl hl.1 rfl (lv_room (Nat.le_of_ble_eq_true rfl)) d_M_wordOf_37 ⟨Nat.zero_le _, Nat.zero_le _⟩) ?_
    exact W.iret hx hb hr (fun t ht hW => ⟨⟨_, (), rfl, by rw [f_M_wordOf, if_pos c1], by rw [ht]; exact hP, va_K.moved hW.alike hK, hD⟩, hS.F ht⟩) hS.2.2 d_M_wordOf_40
  by_cases c2 : (a1 &&& (nI 3)) = nI 1
  · refine lv_tableIn (tgt := 41) (off := 33) hx hb d_M_wordOf_8 (by rw [c2]; decide +kernel) (by rw [c2]; decide +kernel) (by rw [c2]; decide +kernel) (by decide) ?_
    refine lv_aload_n hx hb d_M_wordOf_41 rfl (lv_at hl 0 rfl) ?_
    refine callE (W.runV (b := h1) (As := []) (rest := []) ⟨hx, hb, hml, hown, hts⟩ (c_M_quadrant1 l dC dI h1 a1 ) (cwV 0 hts (gV awx k_350 k_352 ks_7 k_2 k_353) rfl rfl rfl (by decide +kernel) ⟨Nat.le_of_ble_eq_true rfl, Nat.le_of_ble_eq_true rfl⟩) (mo_pre ⟨th, wt, fi, wo, le, wn, hP, hK⟩) rfl rfl hl.1 rfl (lv_room (Nat.le_of_ble_eq_true rfl)) d_M_wordOf_42 ⟨Nat.zero_le _, Nat.zero_le _⟩) ?_
    exact W.iret hx hb hr (fun t ht hW => ⟨⟨_, (), rfl, by rw [f_M_wordOf, if_neg c1, if_pos c2], by rw [ht]; exact hP, va_K.moved hW.alike hK, hD⟩, hS.F ht⟩) hS.2.2 d_M_wordOf_45
  by_cases c3 : (a1 &&& (nI 3)) = nI 2
  · refine lv_tableIn (tgt := 46) (off := 38) hx hb d_M_wordOf_8 (by rw [c3]; decide +kernel) (by rw [c3]; decide +kernel) (by rw [c3]; decide +kernel) (by decide) ?_
    refine lv_aload_n hx hb d_M_wordOf_46 rfl (lv_at hl 0 rfl) ?_
    refine callE (W.runV (b := h1) (As := []) (rest := []) ⟨hx, hb, hml, hown, hts⟩ (c_M_quadrant2 l dC dI h1 a1 ) (cwV 0 hts (gV awx k_382 k_384 ks_12 k_2 k_385) rfl rfl rfl (by decide +kernel) ⟨Nat.le_of_ble_eq_true rfl, Nat.le_of_ble_eq_true rfl⟩) (mo_pre ⟨th, wt, fi, wo, le, wn, hP, hK⟩) rfl rfl hl.1 rfl (lv_room (Nat.le_of_ble_eq_true rfl)) d_M_wordOf_47 ⟨Nat.zero_le _, Nat.zero_le _⟩) ?_
    exact W.iret hx hb hr (fun t ht hW => ⟨⟨_, (), rfl, by rw [f_M_wordOf, if_neg c1, if_neg c2, if_pos c3], by rw [ht]; exact hP, va_K.moved hW.alike hK, hD⟩, hS.F ht⟩) hS.2.2 d_M_wordOf_50
  have c1z := lv_neT (a := 0) c1 (by decide)
  have c2z := lv_neT (a := 1) c2 (by decide)
  have c3z := lv_neT (a := 2) c3 (by decide)
  refine lv_tableOut (tgt := 51) hx hb d_M_wordOf_8 (by omega) (by decide) ?_
  refine lv_iconst (v := nI 0) hx hb d_M_wordOf_51 (by decide) ?_
  exact W.iret hx hb hr (fun t ht hW => ⟨⟨_, (), rfl, by rw [f_M_wordOf, if_neg c1, if_neg c2, if_neg c3], by rw [ht]; exact hP, va_K.moved hW.alike hK, hD⟩, hS.F ht⟩) hS.2.2 d_M_wordOf_52
def g_M_expand (th hh wt fi wo le wn a1 : Int32) : Int32 × (Int32 × Int32 × Int32 × Int32 × Int32 × Int32 × Int32) := (if a1 < 0 then (if (nI 1) ≤ 0 then ((f_M_wordOf a1), ((nI 1), a1, wt, fi, wo, le, wn)) else ((nI 0), ((nI 1), hh, wt, fi, wo, le, wn))) else (if a1 ≤ (nI 65535) then (if (nI 0) ≤ 0 then ((f_M_wordOf a1), ((nI 0), a1, wt, fi, wo, le, wn)) else ((nI 0), ((nI 0), hh, wt, fi, wo, le, wn))) else (if (nI 1) ≤ 0 then ((f_M_wordOf a1), ((nI 1), a1, wt, fi, wo, le, wn)) else ((nI 0), ((nI 1), hh, wt, fi, wo, le, wn)))))
set_option maxHeartbeats 40000000 in
set_option maxRecDepth 100000 in
theorem c_M_expand (l : Launch) (dC : Nat → ClassId) (dI : Nat → Nat → Nat) (h1 sz : Nat) (th hh wt fi wo le wn : Int32) (a1 : Int32) : Met l y_M_expand w_M_expand { frames := 6, cells := 0, slots := 0, locals := 130 } (va_Pc [.ref h1, .int a1] (o_B dC dI sz [(h1, .inr (1, [.int th, .int hh, .int wt, .int fi, .int wo, .int le, .int wn]))])) (va_Qi (fun r u => (r, u) = g_M_expand th hh wt fi wo le wn a1) (at_M dC dI (va_A [(h1, .inr (1, [.int th, .int hh, .int wt, .int fi, .int wo, .int le, .int wn]))] sz) h1) (va_A [(h1, .inr (1, [.int th, .int hh, .int wt, .int fi, .int wo, .int le, .int wn]))] sz)) 0 0 (va_A [(h1, .inr (1, [.int th, .int hh, .int wt, .int fi, .int wo, .int le, .int wn]))] sz) := by
  refine Met.ofW (cc := b_M_expand) (maxL := 2) (ret := (some .int)) (by decide) rfl ?_
  intro p e s m args below meth c s₁ B hml hv
  obtain ⟨rfl, hsz, hP, hK, hD0⟩ := hv
  have hx := B.exec
  have hb := B.bytes
  have hr := B.returns
  have hts := atoms_spec (ws := w_M_expand) B.pre
  have hown : s.vm.findClass R_M = some m.cls := findClass_of_methodNamed B.named
  have hlocks := B.notSynchronized
  have hl := lv_entry ([.ref h1, .int a1]) (n := 2) (Nat.le_of_ble_eq_true rfl)
  rw [lg_entry_eq]
  generalize (lg_sl ([.ref h1, .int a1]) ++ List.replicate (2 - (lg_sl ([.ref h1, .int a1])).length) Slot.unset).toArray = ls at hl ⊢
  have hl : lv_has ls 2 [(0, .ref h1), (1, .int a1)] := hl
  subst hsz
  have hD := hD0.self (sz := s.heap.size)
  generalize hAe : va_A [(h1, .inr (1, [.int th, .int hh, .int wt, .int fi, .int wo, .int le, .int wn]))] s.heap.size = A at hD ⊢
  have hA : ∀ q : Nat, s.heap.size ≤ q → A q := fun q h => by rw [← hAe]; exact Or.inr h
  have hS : va_S A s.heap s.heap [] := va_S.rf
  have hP : va_P (dC, dI) classes [(h1, .inr (1, [.int th, .int hh, .int wt, .int fi, .int wo, .int le, .int wn]))] s.heap := hP
  refine lv_aload_n hx hb d_M_expand_0 rfl (lv_at hl 0 rfl) ?_
  refine lv_iload_n hx hb d_M_expand_1 rfl (lv_at hl 1 rfl) ?_
  refine lv_if_lt (tgt := 11) hx hb d_M_expand_2 (by decide) (fun c1 => ?_) (fun c1 => ?_)
  · refine lv_iconst (v := nI 1) hx hb d_M_expand_11 (by decide) ?_
    refine lv_goto (tgt := 16) hx hb d_M_expand_12 (by decide) ?_
    refine va_put (D := (dC, dI)) (ci := 1) (v := .int (nI 1)) (ty := .int) (C := R_M) (T := T_M) (N := 7) hx hb hts (fun w h => List.mem_cons_of_mem _ (i_M w h)) ty_M ty_M_ok nm_M hown hK hP hD hS 0 rfl rfl 0 (by decide) (hts _ (List.mem_cons_of_mem _ k_290)) (fun _ h9 => h9) rfl (by decide +kernel) rfl rfl (Nat.le_of_ble_eq_true rfl) d_M_expand_16 (fun H locs hP hD hS => ?_)
    have hP : va_P (dC, dI) classes [(h1, .inr (1, [.int (nI 1), .int hh, .int wt, .int fi, .int wo, .int le, .int wn]))] H := hP
    have hD : va_D A [(h1, .inr (1, [.int (nI 1), .int hh, .int wt, .int fi, .int wo, .int le, .int wn]))] := hD
    refine lv_aload_n hx hb d_M_expand_19 rfl (lv_at hl 0 rfl) ?_
    refine va_get (D := (dC, dI)) (ci := 1) (v := .int (nI 1)) (C := R_M) (T := T_M) (N := 7) hx hb hts (fun w h => List.mem_cons_of_mem _ (i_M w h)) hown hK hP 0 rfl rfl 0 (by decide) (hts _ (List.mem_cons_of_mem _ k_290)) (fun _ h9 => h9) rfl d_M_expand_20 ?_
    refine lv_if_le (tgt := 30) hx hb d_M_expand_23 (by decide) (fun c2 => ?_) (fun c2 => ?_)
    · refine lv_aload_n hx hb d_M_expand_30 rfl (lv_at hl 0 rfl) ?_
      refine lv_iload_n hx hb d_M_expand_31 rfl (lv_at hl 1 rfl) ?_
      have hFc := va_free (wc := [(h1, .inr (1, [.int (nI 1), .int hh, .int wt, .int fi, .int wo, .int le, .int wn]))]) hD hS hA [0] rfl
      refine callQ (va_runV (b := h1) (As := [.int a1]) (rest := []) ⟨hx, hb, hml, hown, hts⟩ (c_M_wordOf l dC dI h1 H.size (nI 1) hh wt fi wo le wn a1) (cwV 1 hts (gV awx k_321 k_323 ks_2 k_2 k_324) rfl rfl rfl (by decide +kernel) ⟨Nat.le_of_ble_eq_true rfl, Nat.le_of_ble_eq_true rfl⟩) ⟨o_blind, va_recv hK hP (ci := 1) (q0 := 0) rfl rfl, fun U hU hW => ⟨rfl, by rw [hU], by rw [hU]; exact hP, va_K.moved hW.alike hK, hD.weaken (fun _ _ _ _ => trivial)⟩⟩ rfl rfl hl.1 rfl (lv_room (Nat.le_of_ble_eq_true rfl)) d_M_expand_32 ⟨Nat.zero_le _, Nat.zero_le _⟩) hS (fun q _ h => hFc q h) hFc (fun t9 H1 locs ht hvm hB hz1 hk1 hS => ?_)
      obtain ⟨hP1, hK1, hD1⟩ := hB
      rw [ht] at hP1
      have hK1 := va_K.moved hvm.symm hK1
      obtain ⟨hP, hD⟩ := va_join (wr := []) (w1 := [(h1, .inr (1, [.int (nI 1), .int a1, .int wt, .int fi, .int wo, .int le, .int wn]))]) hP hD [0] [] rfl rfl (by decide) (by decide) hk1 hFc hP1 hD1
      generalize H1 = H at hP hS ⊢
      have hP : va_P (dC, dI) classes [(h1, .inr (1, [.int (nI 1), .int a1, .int wt, .int fi, .int wo, .int le, .int wn]))] H := hP
      have hD : va_D A [(h1, .inr (1, [.int (nI 1), .int a1, .int wt, .int fi, .int wo, .int le, .int wn]))] := hD
      exact W.iret hx hb hr (fun t ht hW => ⟨⟨_, ((nI 1), a1, wt, fi, wo, le, wn), rfl, by rw [g_M_expand, if_pos c1, if_pos c2], by rw [ht]; exact hP, va_K.moved hW.alike hK, hD⟩, hS.F ht⟩) hS.2.2 d_M_expand_35
    · refine lv_iconst (v := nI 0) hx hb d_M_expand_26 (by decide) ?_
      refine lv_goto (tgt := 35) hx hb d_M_expand_27 (by decide) ?_
      exact W.iret hx hb hr (fun t ht hW => ⟨⟨_, ((nI 1), hh, wt, fi, wo, le, wn), rfl, by rw [g_M_expand, if_pos c1, if_neg c2], by rw [ht]; exact hP, va_K.moved hW.alike hK, hD⟩, hS.F ht⟩) hS.2.2 d_M_expand_35
  · refine lv_iload_n hx hb d_M_expand_5 rfl (lv_at hl 1 rfl) ?_
    refine lv_ldc (v := nI 65535) hx hb hown (hts _ (List.mem_cons_of_mem _ k_320)) d_M_expand_6 ?_
    refine lv_icmp_le (tgt := 15) hx hb d_M_expand_8 (by decide) (fun c3 => ?_) (fun c3 => ?_)
    · refine lv_iconst (v := nI 0) hx hb d_M_expand_15 (by decide) ?_
      refine va_put (D := (dC, dI)) (ci := 1) (v := .int (nI 0)) (ty := .int) (C := R_M) (T := T_M) (N := 7) hx hb hts (fun w h => List.mem_cons_of_mem _ (i_M w h)) ty_M ty_M_ok nm_M hown hK hP hD hS 0 rfl rfl 0 (by decide) (hts _ (List.mem_cons_of_mem _ k_290)) (fun _ h9 => h9) rfl (by decide +kernel) rfl rfl (Nat.le_of_ble_eq_true rfl) d_M_expand_16 (fun H locs hP hD hS => ?_)
      have hP : va_P (dC, dI) classes [(h1, .inr (1, [.int (nI 0), .int hh, .int wt, .int fi, .int wo, .int le, .int wn]))] H := hP
      have hD : va_D A [(h1, .inr (1, [.int (nI 0), .int hh, .int wt, .int fi, .int wo, .int le, .int wn]))] := hD
      refine lv_aload_n hx hb d_M_expand_19 rfl (lv_at hl 0 rfl) ?_
      refine va_get (D := (dC, dI)) (ci := 1) (v := .int (nI 0)) (C := R_M) (T := T_M) (N := 7) hx hb hts (fun w h => List.mem_cons_of_mem _ (i_M w h)) hown hK hP 0 rfl rfl 0 (by decide) (hts _ (List.mem_cons_of_mem _ k_290)) (fun _ h9 => h9) rfl d_M_expand_20 ?_
      refine lv_if_le (tgt := 30) hx hb d_M_expand_23 (by decide) (fun c4 => ?_) (fun c4 => ?_)
      · refine lv_aload_n hx hb d_M_expand_30 rfl (lv_at hl 0 rfl) ?_
        refine lv_iload_n hx hb d_M_expand_31 rfl (lv_at hl 1 rfl) ?_
        have hFc := va_free (wc := [(h1, .inr (1, [.int (nI 0), .int hh, .int wt, .int fi, .int wo, .int le, .int wn]))]) hD hS hA [0] rfl
        refine callQ (va_runV (b := h1) (As := [.int a1]) (rest := []) ⟨hx, hb, hml, hown, hts⟩ (c_M_wordOf l dC dI h1 H.size (nI 0) hh wt fi wo le wn a1) (cwV 1 hts (gV awx k_321 k_323 ks_2 k_2 k_324) rfl rfl rfl (by decide +kernel) ⟨Nat.le_of_ble_eq_true rfl, Nat.le_of_ble_eq_true rfl⟩) ⟨o_blind, va_recv hK hP (ci := 1) (q0 := 0) rfl rfl, fun U hU hW => ⟨rfl, by rw [hU], by rw [hU]; exact hP, va_K.moved hW.alike hK, hD.weaken (fun _ _ _ _ => trivial)⟩⟩ rfl rfl hl.1 rfl (lv_room (Nat.le_of_ble_eq_true rfl)) d_M_expand_32 ⟨Nat.zero_le _, Nat.zero_le _⟩) hS (fun q _ h => hFc q h) hFc (fun t9 H1 locs ht hvm hB hz1 hk1 hS => ?_)
        obtain ⟨hP1, hK1, hD1⟩ := hB
        rw [ht] at hP1
        have hK1 := va_K.moved hvm.symm hK1
        obtain ⟨hP, hD⟩ := va_join (wr := []) (w1 := [(h1, .inr (1, [.int (nI 0), .int a1, .int wt, .int fi, .int wo, .int le, .int wn]))]) hP hD [0] [] rfl rfl (by decide) (by decide) hk1 hFc hP1 hD1
        generalize H1 = H at hP hS ⊢
        have hP : va_P (dC, dI) classes [(h1, .inr (1, [.int (nI 0), .int a1, .int wt, .int fi, .int wo, .int le, .int wn]))] H := hP
        have hD : va_D A [(h1, .inr (1, [.int (nI 0), .int a1, .int wt, .int fi, .int wo, .int le, .int wn]))] := hD
        exact W.iret hx hb hr (fun t ht hW => ⟨⟨_, ((nI 0), a1, wt, fi, wo, le, wn), rfl, by rw [g_M_expand, if_neg c1, if_pos c3, if_pos c4], by rw [ht]; exact hP, va_K.moved hW.alike hK, hD⟩, hS.F ht⟩) hS.2.2 d_M_expand_35
      · refine lv_iconst (v := nI 0) hx hb d_M_expand_26 (by decide) ?_
        refine lv_goto (tgt := 35) hx hb d_M_expand_27 (by decide) ?_
        exact W.iret hx hb hr (fun t ht hW => ⟨⟨_, ((nI 0), hh, wt, fi, wo, le, wn), rfl, by rw [g_M_expand, if_neg c1, if_pos c3, if_neg c4], by rw [ht]; exact hP, va_K.moved hW.alike hK, hD⟩, hS.F ht⟩) hS.2.2 d_M_expand_35
    · refine lv_iconst (v := nI 1) hx hb d_M_expand_11 (by decide) ?_
      refine lv_goto (tgt := 16) hx hb d_M_expand_12 (by decide) ?_
      refine va_put (D := (dC, dI)) (ci := 1) (v := .int (nI 1)) (ty := .int) (C := R_M) (T := T_M) (N := 7) hx hb hts (fun w h => List.mem_cons_of_mem _ (i_M w h)) ty_M ty_M_ok nm_M hown hK hP hD hS 0 rfl rfl 0 (by decide) (hts _ (List.mem_cons_of_mem _ k_290)) (fun _ h9 => h9) rfl (by decide +kernel) rfl rfl (Nat.le_of_ble_eq_true rfl) d_M_expand_16 (fun H locs hP hD hS => ?_)
      have hP : va_P (dC, dI) classes [(h1, .inr (1, [.int (nI 1), .int hh, .int wt, .int fi, .int wo, .int le, .int wn]))] H := hP
      have hD : va_D A [(h1, .inr (1, [.int (nI 1), .int hh, .int wt, .int fi, .int wo, .int le, .int wn]))] := hD
      refine lv_aload_n hx hb d_M_expand_19 rfl (lv_at hl 0 rfl) ?_
      refine va_get (D := (dC, dI)) (ci := 1) (v := .int (nI 1)) (C := R_M) (T := T_M) (N := 7) hx hb hts (fun w h => List.mem_cons_of_mem _ (i_M w h)) hown hK hP 0 rfl rfl 0 (by decide) (hts _ (List.mem_cons_of_mem _ k_290)) (fun _ h9 => h9) rfl d_M_expand_20 ?_
      refine lv_if_le (tgt := 30) hx hb d_M_expand_23 (by decide) (fun c5 => ?_) (fun c5 => ?_)
      · refine lv_aload_n hx hb d_M_expand_30 rfl (lv_at hl 0 rfl) ?_
        refine lv_iload_n hx hb d_M_expand_31 rfl (lv_at hl 1 rfl) ?_
        have hFc := va_free (wc := [(h1, .inr (1, [.int (nI 1), .int hh, .int wt, .int fi, .int wo, .int le, .int wn]))]) hD hS hA [0] rfl
        refine callQ (va_runV (b := h1) (As := [.int a1]) (rest := []) ⟨hx, hb, hml, hown, hts⟩ (c_M_wordOf l dC dI h1 H.size (nI 1) hh wt fi wo le wn a1) (cwV 1 hts (gV awx k_321 k_323 ks_2 k_2 k_324) rfl rfl rfl (by decide +kernel) ⟨Nat.le_of_ble_eq_true rfl, Nat.le_of_ble_eq_true rfl⟩) ⟨o_blind, va_recv hK hP (ci := 1) (q0 := 0) rfl rfl, fun U hU hW => ⟨rfl, by rw [hU], by rw [hU]; exact hP, va_K.moved hW.alike hK, hD.weaken (fun _ _ _ _ => trivial)⟩⟩ rfl rfl hl.1 rfl (lv_room (Nat.le_of_ble_eq_true rfl)) d_M_expand_32 ⟨Nat.zero_le _, Nat.zero_le _⟩) hS (fun q _ h => hFc q h) hFc (fun t9 H1 locs ht hvm hB hz1 hk1 hS => ?_)
        obtain ⟨hP1, hK1, hD1⟩ := hB
        rw [ht] at hP1
        have hK1 := va_K.moved hvm.symm hK1
        obtain ⟨hP, hD⟩ := va_join (wr := []) (w1 := [(h1, .inr (1, [.int (nI 1), .int a1, .int wt, .int fi, .int wo, .int le, .int wn]))]) hP hD [0] [] rfl rfl (by decide) (by decide) hk1 hFc hP1 hD1
        generalize H1 = H at hP hS ⊢
        have hP : va_P (dC, dI) classes [(h1, .inr (1, [.int (nI 1), .int a1, .int wt, .int fi, .int wo, .int le, .int wn]))] H := hP
        have hD : va_D A [(h1, .inr (1, [.int (nI 1), .int a1, .int wt, .int fi, .int wo, .int le, .int wn]))] := hD
        exact W.iret hx hb hr (fun t ht hW => ⟨⟨_, ((nI 1), a1, wt, fi, wo, le, wn), rfl, by rw [g_M_expand, if_neg c1, if_neg c3, if_pos c5], by rw [ht]; exact hP, va_K.moved hW.alike hK, hD⟩, hS.F ht⟩) hS.2.2 d_M_expand_35
      · refine lv_iconst (v := nI 0) hx hb d_M_expand_26 (by decide) ?_
        refine lv_goto (tgt := 35) hx hb d_M_expand_27 (by decide) ?_
        exact W.iret hx hb hr (fun t ht hW => ⟨⟨_, ((nI 1), hh, wt, fi, wo, le, wn), rfl, by rw [g_M_expand, if_neg c1, if_neg c3, if_neg c5], by rw [ht]; exact hP, va_K.moved hW.alike hK, hD⟩, hS.F ht⟩) hS.2.2 d_M_expand_35
def g_M_take (th hh wt fi wo le wn a1 : Int32) : Int32 × (Int32 × Int32 × Int32 × Int32 × Int32 × Int32 × Int32) := (if a1 < 0 then (if (nI 1) ≤ 0 then (if wt = 0 then (if (a1 - a1 / (nI 4) * (nI 4)) = (nI 3) then ((nI 0), ((nI 1), hh, (nI 1), a1, wo, le, wn)) else (if wt = 0 then (if wt = 0 then ((nI 1), ((nI 1), a1, (nI 0), fi, (f_M_wordOf a1), (nI 2), (wn + (nI 1)))) else ((nI 1), ((nI 1), a1, (nI 0), fi, (f_M_wordOf a1), (nI 4), (wn + (nI 1))))) else (if wt = 0 then ((nI 1), ((nI 1), hh, (nI 0), fi, (fi ||| (a1 <<< ((nI 16) &&& 31))), (nI 2), (wn + (nI 1)))) else ((nI 1), ((nI 1), hh, (nI 0), fi, (fi ||| (a1 <<< ((nI 16) &&& 31))), (nI 4), (wn + (nI 1))))))) else (if wt = 0 then (if wt = 0 then ((nI 1), ((nI 1), a1, (nI 0), fi, (f_M_wordOf a1), (nI 2), (wn + (nI 1)))) else ((nI 1), ((nI 1), a1, (nI 0), fi, (f_M_wordOf a1), (nI 4), (wn + (nI 1))))) else (if wt = 0 then ((nI 1), ((nI 1), hh, (nI 0), fi, (fi ||| (a1 <<< ((nI 16) &&& 31))), (nI 2), (wn + (nI 1)))) else ((nI 1), ((nI 1), hh, (nI 0), fi, (fi ||| (a1 <<< ((nI 16) &&& 31))), (nI 4), (wn + (nI 1))))))) else ((nI 0), ((nI 1), hh, wt, fi, wo, le, wn))) else (if a1 ≤ (nI 65535) then (if (nI 0) ≤ 0 then (if wt = 0 then (if (a1 - a1 / (nI 4) * (nI 4)) = (nI 3) then ((nI 0), ((nI 0), hh, (nI 1), a1, wo, le, wn)) else (if wt = 0 then (if wt = 0 then ((nI 1), ((nI 0), a1, (nI 0), fi, (f_M_wordOf a1), (nI 2), (wn + (nI 1)))) else ((nI 1), ((nI 0), a1, (nI 0), fi, (f_M_wordOf a1), (nI 4), (wn + (nI 1))))) else (if wt = 0 then ((nI 1), ((nI 0), hh, (nI 0), fi, (fi ||| (a1 <<< ((nI 16) &&& 31))), (nI 2), (wn + (nI 1)))) else ((nI 1), ((nI 0), hh, (nI 0), fi, (fi ||| (a1 <<< ((nI 16) &&& 31))), (nI 4), (wn + (nI 1))))))) else (if wt = 0 then (if wt = 0 then ((nI 1), ((nI 0), a1, (nI 0), fi, (f_M_wordOf a1), (nI 2), (wn + (nI 1)))) else ((nI 1), ((nI 0), a1, (nI 0), fi, (f_M_wordOf a1), (nI 4), (wn + (nI 1))))) else (if wt = 0 then ((nI 1), ((nI 0), hh, (nI 0), fi, (fi ||| (a1 <<< ((nI 16) &&& 31))), (nI 2), (wn + (nI 1)))) else ((nI 1), ((nI 0), hh, (nI 0), fi, (fi ||| (a1 <<< ((nI 16) &&& 31))), (nI 4), (wn + (nI 1))))))) else ((nI 0), ((nI 0), hh, wt, fi, wo, le, wn))) else (if (nI 1) ≤ 0 then (if wt = 0 then (if (a1 - a1 / (nI 4) * (nI 4)) = (nI 3) then ((nI 0), ((nI 1), hh, (nI 1), a1, wo, le, wn)) else (if wt = 0 then (if wt = 0 then ((nI 1), ((nI 1), a1, (nI 0), fi, (f_M_wordOf a1), (nI 2), (wn + (nI 1)))) else ((nI 1), ((nI 1), a1, (nI 0), fi, (f_M_wordOf a1), (nI 4), (wn + (nI 1))))) else (if wt = 0 then ((nI 1), ((nI 1), hh, (nI 0), fi, (fi ||| (a1 <<< ((nI 16) &&& 31))), (nI 2), (wn + (nI 1)))) else ((nI 1), ((nI 1), hh, (nI 0), fi, (fi ||| (a1 <<< ((nI 16) &&& 31))), (nI 4), (wn + (nI 1))))))) else (if wt = 0 then (if wt = 0 then ((nI 1), ((nI 1), a1, (nI 0), fi, (f_M_wordOf a1), (nI 2), (wn + (nI 1)))) else ((nI 1), ((nI 1), a1, (nI 0), fi, (f_M_wordOf a1), (nI 4), (wn + (nI 1))))) else (if wt = 0 then ((nI 1), ((nI 1), hh, (nI 0), fi, (fi ||| (a1 <<< ((nI 16) &&& 31))), (nI 2), (wn + (nI 1)))) else ((nI 1), ((nI 1), hh, (nI 0), fi, (fi ||| (a1 <<< ((nI 16) &&& 31))), (nI 4), (wn + (nI 1))))))) else ((nI 0), ((nI 1), hh, wt, fi, wo, le, wn)))))
set_option maxHeartbeats 40000000 in
set_option maxRecDepth 100000 in
theorem c_M_take (l : Launch) (dC : Nat → ClassId) (dI : Nat → Nat → Nat) (h1 sz : Nat) (th hh wt fi wo le wn : Int32) (a1 : Int32) : Met l y_M_take w_M_take { frames := 6, cells := 0, slots := 0, locals := 130 } (va_Pc [.ref h1, .int a1] (o_B dC dI sz [(h1, .inr (1, [.int th, .int hh, .int wt, .int fi, .int wo, .int le, .int wn]))])) (va_Qi (fun r u => (r, u) = g_M_take th hh wt fi wo le wn a1) (at_M dC dI (va_A [(h1, .inr (1, [.int th, .int hh, .int wt, .int fi, .int wo, .int le, .int wn]))] sz) h1) (va_A [(h1, .inr (1, [.int th, .int hh, .int wt, .int fi, .int wo, .int le, .int wn]))] sz)) 0 0 (va_A [(h1, .inr (1, [.int th, .int hh, .int wt, .int fi, .int wo, .int le, .int wn]))] sz) := by
  refine Met.ofW (cc := b_M_take) (maxL := 2) (ret := (some .boolean)) (by decide) rfl ?_
  intro p e s m args below meth c s₁ B hml hv
  obtain ⟨rfl, hsz, hP, hK, hD0⟩ := hv
  have hx := B.exec
  have hb := B.bytes
  have hr := B.returns
  have hts := atoms_spec (ws := w_M_take) B.pre
  have hown : s.vm.findClass R_M = some m.cls := findClass_of_methodNamed B.named
  have hlocks := B.notSynchronized
  have hl := lv_entry ([.ref h1, .int a1]) (n := 2) (Nat.le_of_ble_eq_true rfl)
  rw [lg_entry_eq]
  generalize (lg_sl ([.ref h1, .int a1]) ++ List.replicate (2 - (lg_sl ([.ref h1, .int a1])).length) Slot.unset).toArray = ls at hl ⊢
  have hl : lv_has ls 2 [(0, .ref h1), (1, .int a1)] := hl
  subst hsz
  have hD := hD0.self (sz := s.heap.size)
  generalize hAe : va_A [(h1, .inr (1, [.int th, .int hh, .int wt, .int fi, .int wo, .int le, .int wn]))] s.heap.size = A at hD ⊢
  have hA : ∀ q : Nat, s.heap.size ≤ q → A q := fun q h => by rw [← hAe]; exact Or.inr h
  have hS : va_S A s.heap s.heap [] := va_S.rf
  have hP : va_P (dC, dI) classes [(h1, .inr (1, [.int th, .int hh, .int wt, .int fi, .int wo, .int le, .int wn]))] s.heap := hP
  refine lv_aload_n hx hb d_M_take_0 rfl (lv_at hl 0 rfl) ?_
  refine lv_iload_n hx hb d_M_take_1 rfl (lv_at hl 1 rfl) ?_
  refine lv_if_lt (tgt := 11) hx hb d_M_take_2 (by decide) (fun c1 => ?_) (fun c1 => ?_)
  · refine lv_iconst (v := nI 1) hx hb d_M_take_11 (by decide) ?_
    refine lv_goto (tgt := 16) hx hb d_M_take_12 (by decide) ?_
    refine va_put (D := (dC, dI)) (ci := 1) (v := .int (nI 1)) (ty := .int) (C := R_M) (T := T_M) (N := 7) hx hb hts (fun w h => List.mem_cons_of_mem _ (i_M w h)) ty_M ty_M_ok nm_M hown hK hP hD hS 0 rfl rfl 0 (by decide) (hts _ (List.mem_cons_of_mem _ k_290)) (fun _ h9 => h9) rfl (by decide +kernel) rfl rfl (Nat.le_of_ble_eq_true rfl) d_M_take_16 (fun H locs hP hD hS => ?_)
    have hP : va_P (dC, dI) classes [(h1, .inr (1, [.int (nI 1), .int hh, .int wt, .int fi, .int wo, .int le, .int wn]))] H := hP
    have hD : va_D A [(h1, .inr (1, [.int (nI 1), .int hh, .int wt, .int fi, .int wo, .int le, .int wn]))] := hD
    refine lv_aload_n hx hb d_M_take_19 rfl (lv_at hl 0 rfl) ?_
    refine va_get (D := (dC, dI)) (ci := 1) (v := .int (nI 1)) (C := R_M) (T := T_M) (N := 7) hx hb hts (fun w h => List.mem_cons_of_mem _ (i_M w h)) hown hK hP 0 rfl rfl 0 (by decide) (hts _ (List.mem_cons_of_mem _ k_290)) (fun _ h9 => h9) rfl d_M_take_20 ?_
    refine lv_if_le (tgt := 28) hx hb d_M_take_23 (by decide) (fun c2 => ?_) (fun c2 => ?_)
    · refine lv_aload_n hx hb d_M_take_28 rfl (lv_at hl 0 rfl) ?_
      refine va_get (D := (dC, dI)) (ci := 1) (v := .int wt) (C := R_M) (T := T_M) (N := 7) hx hb hts (fun w h => List.mem_cons_of_mem _ (i_M w h)) hown hK hP 0 rfl rfl 2 (by decide) (hts _ (List.mem_cons_of_mem _ k_292)) (fun _ h9 => h9) rfl d_M_take_29 ?_
      refine lv_if_ne (tgt := 54) hx hb d_M_take_32 (by decide) (fun c3 => ?_) (fun c3 => ?_)
      · refine lv_aload_n hx hb d_M_take_54 rfl (lv_at hl 0 rfl) ?_
        refine lv_aload_n hx hb d_M_take_55 rfl (lv_at hl 0 rfl) ?_
        refine va_get (D := (dC, dI)) (ci := 1) (v := .int wt) (C := R_M) (T := T_M) (N := 7) hx hb hts (fun w h => List.mem_cons_of_mem _ (i_M w h)) hown hK hP 0 rfl rfl 2 (by decide) (hts _ (List.mem_cons_of_mem _ k_292)) (fun _ h9 => h9) rfl d_M_take_56 ?_
        refine lv_if_eq (tgt := 74) hx hb d_M_take_59 (by decide) (fun c4 => ?_) (fun c4 => ?_)
        · refine lv_aload_n hx hb d_M_take_74 rfl (lv_at hl 0 rfl) ?_
          refine lv_iload_n hx hb d_M_take_75 rfl (lv_at hl 1 rfl) ?_
          have hFc := va_free (wc := [(h1, .inr (1, [.int (nI 1), .int hh, .int wt, .int fi, .int wo, .int le, .int wn]))]) hD hS hA [0] rfl
          refine callQ (va_runV (b := h1) (As := [.int a1]) (rest := [.ref h1]) ⟨hx, hb, hml, hown, hts⟩ (c_M_wordOf l dC dI h1 H.size (nI 1) hh wt fi wo le wn a1) (cwV 1 hts (gV awx k_321 k_323 ks_2 k_2 k_324) rfl rfl rfl (by decide +kernel) ⟨Nat.le_of_ble_eq_true rfl, Nat.le_of_ble_eq_true rfl⟩) ⟨o_blind, va_recv hK hP (ci := 1) (q0 := 0) rfl rfl, fun U hU hW => ⟨rfl, by rw [hU], by rw [hU]; exact hP, va_K.moved hW.alike hK, hD.weaken (fun _ _ _ _ => trivial)⟩⟩ rfl rfl hl.1 rfl (lv_room (Nat.le_of_ble_eq_true rfl)) d_M_take_76 ⟨Nat.zero_le _, Nat.zero_le _⟩) hS (fun q _ h => hFc q h) hFc (fun t9 H1 locs ht hvm hB hz1 hk1 hS => ?_)
          obtain ⟨hP1, hK1, hD1⟩ := hB
          rw [ht] at hP1
          have hK1 := va_K.moved hvm.symm hK1
          obtain ⟨hP, hD⟩ := va_join (wr := []) (w1 := [(h1, .inr (1, [.int (nI 1), .int a1, .int wt, .int fi, .int wo, .int le, .int wn]))]) hP hD [0] [] rfl rfl (by decide) (by decide) hk1 hFc hP1 hD1
          generalize H1 = H at hP hS ⊢
          have hP : va_P (dC, dI) classes [(h1, .inr (1, [.int (nI 1), .int a1, .int wt, .int fi, .int wo, .int le, .int wn]))] H := hP
          have hD : va_D A [(h1, .inr (1, [.int (nI 1), .int a1, .int wt, .int fi, .int wo, .int le, .int wn]))] := hD
          refine va_put (D := (dC, dI)) (ci := 1) (v := .int (f_M_wordOf a1)) (ty := .int) (C := R_M) (T := T_M) (N := 7) hx hb hts (fun w h => List.mem_cons_of_mem _ (i_M w h)) ty_M ty_M_ok nm_M hown hK hP hD hS 0 rfl rfl 4 (by decide) (hts _ (List.mem_cons_of_mem _ k_294)) (fun _ h9 => h9) rfl (by decide +kernel) rfl rfl (Nat.le_of_ble_eq_true rfl) d_M_take_79 (fun H locs hP hD hS => ?_)
          have hP : va_P (dC, dI) classes [(h1, .inr (1, [.int (nI 1), .int a1, .int wt, .int fi, .int (f_M_wordOf a1), .int le, .int wn]))] H := hP
          have hD : va_D A [(h1, .inr (1, [.int (nI 1), .int a1, .int wt, .int fi, .int (f_M_wordOf a1), .int le, .int wn]))] := hD
          refine lv_aload_n hx hb d_M_take_82 rfl (lv_at hl 0 rfl) ?_
          refine lv_aload_n hx hb d_M_take_83 rfl (lv_at hl 0 rfl) ?_
          refine va_get (D := (dC, dI)) (ci := 1) (v := .int wt) (C := R_M) (T := T_M) (N := 7) hx hb hts (fun w h => List.mem_cons_of_mem _ (i_M w h)) hown hK hP 0 rfl rfl 2 (by decide) (hts _ (List.mem_cons_of_mem _ k_292)) (fun _ h9 => h9) rfl d_M_take_84 ?_
          refine lv_if_eq (tgt := 94) hx hb d_M_take_87 (by decide) (fun c5 => ?_) (fun c5 => ?_)
          · refine lv_iconst (v := nI 2) hx hb d_M_take_94 (by decide) ?_
            refine va_put (D := (dC, dI)) (ci := 1) (v := .int (nI 2)) (ty := .int) (C := R_M) (T := T_M) (N := 7) hx hb hts (fun w h => List.mem_cons_of_mem _ (i_M w h)) ty_M ty_M_ok nm_M hown hK hP hD hS 0 rfl rfl 5 (by decide) (hts _ (List.mem_cons_of_mem _ k_295)) (fun _ h9 => h9) rfl (by decide +kernel) rfl rfl (Nat.le_of_ble_eq_true rfl) d_M_take_95 (fun H locs hP hD hS => ?_)
            have hP : va_P (dC, dI) classes [(h1, .inr (1, [.int (nI 1), .int a1, .int wt, .int fi, .int (f_M_wordOf a1), .int (nI 2), .int wn]))] H := hP
            have hD : va_D A [(h1, .inr (1, [.int (nI 1), .int a1, .int wt, .int fi, .int (f_M_wordOf a1), .int (nI 2), .int wn]))] := hD
            refine lv_aload_n hx hb d_M_take_98 rfl (lv_at hl 0 rfl) ?_
            refine lv_iconst (v := nI 0) hx hb d_M_take_99 (by decide) ?_
            refine va_put (D := (dC, dI)) (ci := 1) (v := .int (nI 0)) (ty := .boolean) (C := R_M) (T := T_M) (N := 7) hx hb hts (fun w h => List.mem_cons_of_mem _ (i_M w h)) ty_M ty_M_ok nm_M hown hK hP hD hS 0 rfl rfl 2 (by decide) (hts _ (List.mem_cons_of_mem _ k_292)) (fun _ h9 => h9) rfl (by decide +kernel) rfl rfl (Nat.le_of_ble_eq_true rfl) d_M_take_100 (fun H locs hP hD hS => ?_)
            have hP : va_P (dC, dI) classes [(h1, .inr (1, [.int (nI 1), .int a1, .int (nI 0), .int fi, .int (f_M_wordOf a1), .int (nI 2), .int wn]))] H := hP
            have hD : va_D A [(h1, .inr (1, [.int (nI 1), .int a1, .int (nI 0), .int fi, .int (f_M_wordOf a1), .int (nI 2), .int wn]))] := hD
            refine lv_aload_n hx hb d_M_take_103 rfl (lv_at hl 0 rfl) ?_
            refine lv_dup hx hb d_M_take_104 rfl ?_
            refine va_get (D := (dC, dI)) (ci := 1) (v := .int wn) (C := R_M) (T := T_M) (N := 7) hx hb hts (fun w h => List.mem_cons_of_mem _ (i_M w h)) hown hK hP 0 rfl rfl 6 (by decide) (hts _ (List.mem_cons_of_mem _ k_296)) (fun _ h9 => h9) rfl d_M_take_105 ?_
            refine lv_iconst (v := nI 1) hx hb d_M_take_108 (by decide) ?_
            refine lv_iadd hx hb d_M_take_109 ?_
            refine va_put (D := (dC, dI)) (ci := 1) (v := .int (wn + (nI 1))) (ty := .int) (C := R_M) (T := T_M) (N := 7) hx hb hts (fun w h => List.mem_cons_of_mem _ (i_M w h)) ty_M ty_M_ok nm_M hown hK hP hD hS 0 rfl rfl 6 (by decide) (hts _ (List.mem_cons_of_mem _ k_296)) (fun _ h9 => h9) rfl (by decide +kernel) rfl rfl (Nat.le_of_ble_eq_true rfl) d_M_take_110 (fun H locs hP hD hS => ?_)
            have hP : va_P (dC, dI) classes [(h1, .inr (1, [.int (nI 1), .int a1, .int (nI 0), .int fi, .int (f_M_wordOf a1), .int (nI 2), .int (wn + (nI 1))]))] H := hP
            have hD : va_D A [(h1, .inr (1, [.int (nI 1), .int a1, .int (nI 0), .int fi, .int (f_M_wordOf a1), .int (nI 2), .int (wn + (nI 1))]))] := hD
            refine lv_iconst (v := nI 1) hx hb d_M_take_113 (by decide) ?_
            exact W.zret hx hb hr (by decide +kernel) (fun t ht hW => ⟨⟨_, ((nI 1), a1, (nI 0), fi, (f_M_wordOf a1), (nI 2), (wn + (nI 1))), rfl, by rw [g_M_take, if_pos c1, if_pos c2, if_neg c3, if_pos c4, if_pos c5], by rw [ht]; exact hP, va_K.moved hW.alike hK, hD⟩, hS.F ht⟩) hS.2.2 d_M_take_114
          · refine lv_iconst (v := nI 4) hx hb d_M_take_90 (by decide) ?_
            refine lv_goto (tgt := 95) hx hb d_M_take_91 (by decide) ?_
            refine va_put (D := (dC, dI)) (ci := 1) (v := .int (nI 4)) (ty := .int) (C := R_M) (T := T_M) (N := 7) hx hb hts (fun w h => List.mem_cons_of_mem _ (i_M w h)) ty_M ty_M_ok nm_M hown hK hP hD hS 0 rfl rfl 5 (by decide) (hts _ (List.mem_cons_of_mem _ k_295)) (fun _ h9 => h9) rfl (by decide +kernel) rfl rfl (Nat.le_of_ble_eq_true rfl) d_M_take_95 (fun H locs hP hD hS => ?_)
            have hP : va_P (dC, dI) classes [(h1, .inr (1, [.int (nI 1), .int a1, .int wt, .int fi, .int (f_M_wordOf a1), .int (nI 4), .int wn]))] H := hP
            have hD : va_D A [(h1, .inr (1, [.int (nI 1), .int a1, .int wt, .int fi, .int (f_M_wordOf a1), .int (nI 4), .int wn]))] := hD
            refine lv_aload_n hx hb d_M_take_98 rfl (lv_at hl 0 rfl) ?_
            refine lv_iconst (v := nI 0) hx hb d_M_take_99 (by decide) ?_
            refine va_put (D := (dC, dI)) (ci := 1) (v := .int (nI 0)) (ty := .boolean) (C := R_M) (T := T_M) (N := 7) hx hb hts (fun w h => List.mem_cons_of_mem _ (i_M w h)) ty_M ty_M_ok nm_M hown hK hP hD hS 0 rfl rfl 2 (by decide) (hts _ (List.mem_cons_of_mem _ k_292)) (fun _ h9 => h9) rfl (by decide +kernel) rfl rfl (Nat.le_of_ble_eq_true rfl) d_M_take_100 (fun H locs hP hD hS => ?_)
            have hP : va_P (dC, dI) classes [(h1, .inr (1, [.int (nI 1), .int a1, .int (nI 0), .int fi, .int (f_M_wordOf a1), .int (nI 4), .int wn]))] H := hP
            have hD : va_D A [(h1, .inr (1, [.int (nI 1), .int a1, .int (nI 0), .int fi, .int (f_M_wordOf a1), .int (nI 4), .int wn]))] := hD
            refine lv_aload_n hx hb d_M_take_103 rfl (lv_at hl 0 rfl) ?_
            refine lv_dup hx hb d_M_take_104 rfl ?_
            refine va_get (D := (dC, dI)) (ci := 1) (v := .int wn) (C := R_M) (T := T_M) (N := 7) hx hb hts (fun w h => List.mem_cons_of_mem _ (i_M w h)) hown hK hP 0 rfl rfl 6 (by decide) (hts _ (List.mem_cons_of_mem _ k_296)) (fun _ h9 => h9) rfl d_M_take_105 ?_
            refine lv_iconst (v := nI 1) hx hb d_M_take_108 (by decide) ?_
            refine lv_iadd hx hb d_M_take_109 ?_
            refine va_put (D := (dC, dI)) (ci := 1) (v := .int (wn + (nI 1))) (ty := .int) (C := R_M) (T := T_M) (N := 7) hx hb hts (fun w h => List.mem_cons_of_mem _ (i_M w h)) ty_M ty_M_ok nm_M hown hK hP hD hS 0 rfl rfl 6 (by decide) (hts _ (List.mem_cons_of_mem _ k_296)) (fun _ h9 => h9) rfl (by decide +kernel) rfl rfl (Nat.le_of_ble_eq_true rfl) d_M_take_110 (fun H locs hP hD hS => ?_)
            have hP : va_P (dC, dI) classes [(h1, .inr (1, [.int (nI 1), .int a1, .int (nI 0), .int fi, .int (f_M_wordOf a1), .int (nI 4), .int (wn + (nI 1))]))] H := hP
            have hD : va_D A [(h1, .inr (1, [.int (nI 1), .int a1, .int (nI 0), .int fi, .int (f_M_wordOf a1), .int (nI 4), .int (wn + (nI 1))]))] := hD
            refine lv_iconst (v := nI 1) hx hb d_M_take_113 (by decide) ?_
            exact W.zret hx hb hr (by decide +kernel) (fun t ht hW => ⟨⟨_, ((nI 1), a1, (nI 0), fi, (f_M_wordOf a1), (nI 4), (wn + (nI 1))), rfl, by rw [g_M_take, if_pos c1, if_pos c2, if_neg c3, if_pos c4, if_neg c5], by rw [ht]; exact hP, va_K.moved hW.alike hK, hD⟩, hS.F ht⟩) hS.2.2 d_M_take_114
        · refine lv_aload_n hx hb d_M_take_62 rfl (lv_at hl 0 rfl) ?_
          refine va_get (D := (dC, dI)) (ci := 1) (v := .int fi) (C := R_M) (T := T_M) (N := 7) hx hb hts (fun w h => List.mem_cons_of_mem _ (i_M w h)) hown hK hP 0 rfl rfl 3 (by decide) (hts _ (List.mem_cons_of_mem _ k_293)) (fun _ h9 => h9) rfl d_M_take_63 ?_
          refine lv_iload_n hx hb d_M_take_66 rfl (lv_at hl 1 rfl) ?_
          refine lv_bipush (v := nI 16) hx hb d_M_take_67 (by decide) ?_
          refine lv_ishl hx hb d_M_take_69 ?_
          refine lv_ior hx hb d_M_take_70 ?_
          refine lv_goto (tgt := 79) hx hb d_M_take_71 (by decide) ?_
          refine va_put (D := (dC, dI)) (ci := 1) (v := .int (fi ||| (a1 <<< ((nI 16) &&& 31)))) (ty := .int) (C := R_M) (T := T_M) (N := 7) hx hb hts (fun w h => List.mem_cons_of_mem _ (i_M w h)) ty_M ty_M_ok nm_M hown hK hP hD hS 0 rfl rfl 4 (by decide) (hts _ (List.mem_cons_of_mem _ k_294)) (fun _ h9 => h9) rfl (by decide +kernel) rfl rfl (Nat.le_of_ble_eq_true rfl) d_M_take_79 (fun H locs hP hD hS => ?_)
          have hP : va_P (dC, dI) classes [(h1, .inr (1, [.int (nI 1), .int hh, .int wt, .int fi, .int (fi ||| (a1 <<< ((nI 16) &&& 31))), .int le, .int wn]))] H := hP
          have hD : va_D A [(h1, .inr (1, [.int (nI 1), .int hh, .int wt, .int fi, .int (fi ||| (a1 <<< ((nI 16) &&& 31))), .int le, .int wn]))] := hD
          refine lv_aload_n hx hb d_M_take_82 rfl (lv_at hl 0 rfl) ?_
          refine lv_aload_n hx hb d_M_take_83 rfl (lv_at hl 0 rfl) ?_
          refine va_get (D := (dC, dI)) (ci := 1) (v := .int wt) (C := R_M) (T := T_M) (N := 7) hx hb hts (fun w h => List.mem_cons_of_mem _ (i_M w h)) hown hK hP 0 rfl rfl 2 (by decide) (hts _ (List.mem_cons_of_mem _ k_292)) (fun _ h9 => h9) rfl d_M_take_84 ?_
          refine lv_if_eq (tgt := 94) hx hb d_M_take_87 (by decide) (fun c6 => ?_) (fun c6 => ?_)
          · refine lv_iconst (v := nI 2) hx hb d_M_take_94 (by decide) ?_
            refine va_put (D := (dC, dI)) (ci := 1) (v := .int (nI 2)) (ty := .int) (C := R_M) (T := T_M) (N := 7) hx hb hts (fun w h => List.mem_cons_of_mem _ (i_M w h)) ty_M ty_M_ok nm_M hown hK hP hD hS 0 rfl rfl 5 (by decide) (hts _ (List.mem_cons_of_mem _ k_295)) (fun _ h9 => h9) rfl (by decide +kernel) rfl rfl (Nat.le_of_ble_eq_true rfl) d_M_take_95 (fun H locs hP hD hS => ?_)
            have hP : va_P (dC, dI) classes [(h1, .inr (1, [.int (nI 1), .int hh, .int wt, .int fi, .int (fi ||| (a1 <<< ((nI 16) &&& 31))), .int (nI 2), .int wn]))] H := hP
            have hD : va_D A [(h1, .inr (1, [.int (nI 1), .int hh, .int wt, .int fi, .int (fi ||| (a1 <<< ((nI 16) &&& 31))), .int (nI 2), .int wn]))] := hD
            refine lv_aload_n hx hb d_M_take_98 rfl (lv_at hl 0 rfl) ?_
            refine lv_iconst (v := nI 0) hx hb d_M_take_99 (by decide) ?_
            refine va_put (D := (dC, dI)) (ci := 1) (v := .int (nI 0)) (ty := .boolean) (C := R_M) (T := T_M) (N := 7) hx hb hts (fun w h => List.mem_cons_of_mem _ (i_M w h)) ty_M ty_M_ok nm_M hown hK hP hD hS 0 rfl rfl 2 (by decide) (hts _ (List.mem_cons_of_mem _ k_292)) (fun _ h9 => h9) rfl (by decide +kernel) rfl rfl (Nat.le_of_ble_eq_true rfl) d_M_take_100 (fun H locs hP hD hS => ?_)
            have hP : va_P (dC, dI) classes [(h1, .inr (1, [.int (nI 1), .int hh, .int (nI 0), .int fi, .int (fi ||| (a1 <<< ((nI 16) &&& 31))), .int (nI 2), .int wn]))] H := hP
            have hD : va_D A [(h1, .inr (1, [.int (nI 1), .int hh, .int (nI 0), .int fi, .int (fi ||| (a1 <<< ((nI 16) &&& 31))), .int (nI 2), .int wn]))] := hD
            refine lv_aload_n hx hb d_M_take_103 rfl (lv_at hl 0 rfl) ?_
            refine lv_dup hx hb d_M_take_104 rfl ?_
            refine va_get (D := (dC, dI)) (ci := 1) (v := .int wn) (C := R_M) (T := T_M) (N := 7) hx hb hts (fun w h => List.mem_cons_of_mem _ (i_M w h)) hown hK hP 0 rfl rfl 6 (by decide) (hts _ (List.mem_cons_of_mem _ k_296)) (fun _ h9 => h9) rfl d_M_take_105 ?_
            refine lv_iconst (v := nI 1) hx hb d_M_take_108 (by decide) ?_
            refine lv_iadd hx hb d_M_take_109 ?_
            refine va_put (D := (dC, dI)) (ci := 1) (v := .int (wn + (nI 1))) (ty := .int) (C := R_M) (T := T_M) (N := 7) hx hb hts (fun w h => List.mem_cons_of_mem _ (i_M w h)) ty_M ty_M_ok nm_M hown hK hP hD hS 0 rfl rfl 6 (by decide) (hts _ (List.mem_cons_of_mem _ k_296)) (fun _ h9 => h9) rfl (by decide +kernel) rfl rfl (Nat.le_of_ble_eq_true rfl) d_M_take_110 (fun H locs hP hD hS => ?_)
            have hP : va_P (dC, dI) classes [(h1, .inr (1, [.int (nI 1), .int hh, .int (nI 0), .int fi, .int (fi ||| (a1 <<< ((nI 16) &&& 31))), .int (nI 2), .int (wn + (nI 1))]))] H := hP
            have hD : va_D A [(h1, .inr (1, [.int (nI 1), .int hh, .int (nI 0), .int fi, .int (fi ||| (a1 <<< ((nI 16) &&& 31))), .int (nI 2), .int (wn + (nI 1))]))] := hD
            refine lv_iconst (v := nI 1) hx hb d_M_take_113 (by decide) ?_
            exact W.zret hx hb hr (by decide +kernel) (fun t ht hW => ⟨⟨_, ((nI 1), hh, (nI 0), fi, (fi ||| (a1 <<< ((nI 16) &&& 31))), (nI 2), (wn + (nI 1))), rfl, by rw [g_M_take, if_pos c1, if_pos c2, if_neg c3, if_neg c4, if_pos c6], by rw [ht]; exact hP, va_K.moved hW.alike hK, hD⟩, hS.F ht⟩) hS.2.2 d_M_take_114
          · refine lv_iconst (v := nI 4) hx hb d_M_take_90 (by decide) ?_
            refine lv_goto (tgt := 95) hx hb d_M_take_91 (by decide) ?_
            refine va_put (D := (dC, dI)) (ci := 1) (v := .int (nI 4)) (ty := .int) (C := R_M) (T := T_M) (N := 7) hx hb hts (fun w h => List.mem_cons_of_mem _ (i_M w h)) ty_M ty_M_ok nm_M hown hK hP hD hS 0 rfl rfl 5 (by decide) (hts _ (List.mem_cons_of_mem _ k_295)) (fun _ h9 => h9) rfl (by decide +kernel) rfl rfl (Nat.le_of_ble_eq_true rfl) d_M_take_95 (fun H locs hP hD hS => ?_)
            have hP : va_P (dC, dI) classes [(h1, .inr (1, [.int (nI 1), .int hh, .int wt, .int fi, .int (fi ||| (a1 <<< ((nI 16) &&& 31))), .int (nI 4), .int wn]))] H := hP
            have hD : va_D A [(h1, .inr (1, [.int (nI 1), .int hh, .int wt, .int fi, .int (fi ||| (a1 <<< ((nI 16) &&& 31))), .int (nI 4), .int wn]))] := hD
            refine lv_aload_n hx hb d_M_take_98 rfl (lv_at hl 0 rfl) ?_
            refine lv_iconst (v := nI 0) hx hb d_M_take_99 (by decide) ?_
            refine va_put (D := (dC, dI)) (ci := 1) (v := .int (nI 0)) (ty := .boolean) (C := R_M) (T := T_M) (N := 7) hx hb hts (fun w h => List.mem_cons_of_mem _ (i_M w h)) ty_M ty_M_ok nm_M hown hK hP hD hS 0 rfl rfl 2 (by decide) (hts _ (List.mem_cons_of_mem _ k_292)) (fun _ h9 => h9) rfl (by decide +kernel) rfl rfl (Nat.le_of_ble_eq_true rfl) d_M_take_100 (fun H locs hP hD hS => ?_)
            have hP : va_P (dC, dI) classes [(h1, .inr (1, [.int (nI 1), .int hh, .int (nI 0), .int fi, .int (fi ||| (a1 <<< ((nI 16) &&& 31))), .int (nI 4), .int wn]))] H := hP
            have hD : va_D A [(h1, .inr (1, [.int (nI 1), .int hh, .int (nI 0), .int fi, .int (fi ||| (a1 <<< ((nI 16) &&& 31))), .int (nI 4), .int wn]))] := hD
            refine lv_aload_n hx hb d_M_take_103 rfl (lv_at hl 0 rfl) ?_
            refine lv_dup hx hb d_M_take_104 rfl ?_
            refine va_get (D := (dC, dI)) (ci := 1) (v := .int wn) (C := R_M) (T := T_M) (N := 7) hx hb hts (fun w h => List.mem_cons_of_mem _ (i_M w h)) hown hK hP 0 rfl rfl 6 (by decide) (hts _ (List.mem_cons_of_mem _ k_296)) (fun _ h9 => h9) rfl d_M_take_105 ?_
            refine lv_iconst (v := nI 1) hx hb d_M_take_108 (by decide) ?_
            refine lv_iadd hx hb d_M_take_109 ?_
            refine va_put (D := (dC, dI)) (ci := 1) (v := .int (wn + (nI 1))) (ty := .int) (C := R_M) (T := T_M) (N := 7) hx hb hts (fun w h => List.mem_cons_of_mem _ (i_M w h)) ty_M ty_M_ok nm_M hown hK hP hD hS 0 rfl rfl 6 (by decide) (hts _ (List.mem_cons_of_mem _ k_296)) (fun _ h9 => h9) rfl (by decide +kernel) rfl rfl (Nat.le_of_ble_eq_true rfl) d_M_take_110 (fun H locs hP hD hS => ?_)
            have hP : va_P (dC, dI) classes [(h1, .inr (1, [.int (nI 1), .int hh, .int (nI 0), .int fi, .int (fi ||| (a1 <<< ((nI 16) &&& 31))), .int (nI 4), .int (wn + (nI 1))]))] H := hP
            have hD : va_D A [(h1, .inr (1, [.int (nI 1), .int hh, .int (nI 0), .int fi, .int (fi ||| (a1 <<< ((nI 16) &&& 31))), .int (nI 4), .int (wn + (nI 1))]))] := hD
            refine lv_iconst (v := nI 1) hx hb d_M_take_113 (by decide) ?_
            exact W.zret hx hb hr (by decide +kernel) (fun t ht hW => ⟨⟨_, ((nI 1), hh, (nI 0), fi, (fi ||| (a1 <<< ((nI 16) &&& 31))), (nI 4), (wn + (nI 1))), rfl, by rw [g_M_take, if_pos c1, if_pos c2, if_neg c3, if_neg c4, if_neg c6], by rw [ht]; exact hP, va_K.moved hW.alike hK, hD⟩, hS.F ht⟩) hS.2.2 d_M_take_114
      · refine lv_iload_n hx hb d_M_take_35 rfl (lv_at hl 1 rfl) ?_
        refine lv_iconst (v := nI 4) hx hb d_M_take_36 (by decide) ?_
        refine lv_irem hx hb d_M_take_37 (by decide) ?_
        refine lv_iconst (v := nI 3) hx hb d_M_take_38 (by decide) ?_
        refine lv_icmp_ne (tgt := 54) hx hb d_M_take_39 (by decide) (fun c7 => ?_) (fun c7 => ?_)
        · refine lv_aload_n hx hb d_M_take_54 rfl (lv_at hl 0 rfl) ?_
          refine lv_aload_n hx hb d_M_take_55 rfl (lv_at hl 0 rfl) ?_
          refine va_get (D := (dC, dI)) (ci := 1) (v := .int wt) (C := R_M) (T := T_M) (N := 7) hx hb hts (fun w h => List.mem_cons_of_mem _ (i_M w h)) hown hK hP 0 rfl rfl 2 (by decide) (hts _ (List.mem_cons_of_mem _ k_292)) (fun _ h9 => h9) rfl d_M_take_56 ?_
          refine lv_if_eq (tgt := 74) hx hb d_M_take_59 (by decide) (fun c8 => ?_) (fun c8 => ?_)
          · refine lv_aload_n hx hb d_M_take_74 rfl (lv_at hl 0 rfl) ?_
            refine lv_iload_n hx hb d_M_take_75 rfl (lv_at hl 1 rfl) ?_
            have hFc := va_free (wc := [(h1, .inr (1, [.int (nI 1), .int hh, .int wt, .int fi, .int wo, .int le, .int wn]))]) hD hS hA [0] rfl
            refine callQ (va_runV (b := h1) (As := [.int a1]) (rest := [.ref h1]) ⟨hx, hb, hml, hown, hts⟩ (c_M_wordOf l dC dI h1 H.size (nI 1) hh wt fi wo le wn a1) (cwV 1 hts (gV awx k_321 k_323 ks_2 k_2 k_324) rfl rfl rfl (by decide +kernel) ⟨Nat.le_of_ble_eq_true rfl, Nat.le_of_ble_eq_true rfl⟩) ⟨o_blind, va_recv hK hP (ci := 1) (q0 := 0) rfl rfl, fun U hU hW => ⟨rfl, by rw [hU], by rw [hU]; exact hP, va_K.moved hW.alike hK, hD.weaken (fun _ _ _ _ => trivial)⟩⟩ rfl rfl hl.1 rfl (lv_room (Nat.le_of_ble_eq_true rfl)) d_M_take_76 ⟨Nat.zero_le _, Nat.zero_le _⟩) hS (fun q _ h => hFc q h) hFc (fun t9 H1 locs ht hvm hB hz1 hk1 hS => ?_)
            obtain ⟨hP1, hK1, hD1⟩ := hB
            rw [ht] at hP1
            have hK1 := va_K.moved hvm.symm hK1
            obtain ⟨hP, hD⟩ := va_join (wr := []) (w1 := [(h1, .inr (1, [.int (nI 1), .int a1, .int wt, .int fi, .int wo, .int le, .int wn]))]) hP hD [0] [] rfl rfl (by decide) (by decide) hk1 hFc hP1 hD1
            generalize H1 = H at hP hS ⊢
            have hP : va_P (dC, dI) classes [(h1, .inr (1, [.int (nI 1), .int a1, .int wt, .int fi, .int wo, .int le, .int wn]))] H := hP
            have hD : va_D A [(h1, .inr (1, [.int (nI 1), .int a1, .int wt, .int fi, .int wo, .int le, .int wn]))] := hD
            refine va_put (D := (dC, dI)) (ci := 1) (v := .int (f_M_wordOf a1)) (ty := .int) (C := R_M) (T := T_M) (N := 7) hx hb hts (fun w h => List.mem_cons_of_mem _ (i_M w h)) ty_M ty_M_ok nm_M hown hK hP hD hS 0 rfl rfl 4 (by decide) (hts _ (List.mem_cons_of_mem _ k_294)) (fun _ h9 => h9) rfl (by decide +kernel) rfl rfl (Nat.le_of_ble_eq_true rfl) d_M_take_79 (fun H locs hP hD hS => ?_)
            have hP : va_P (dC, dI) classes [(h1, .inr (1, [.int (nI 1), .int a1, .int wt, .int fi, .int (f_M_wordOf a1), .int le, .int wn]))] H := hP
            have hD : va_D A [(h1, .inr (1, [.int (nI 1), .int a1, .int wt, .int fi, .int (f_M_wordOf a1), .int le, .int wn]))] := hD
            refine lv_aload_n hx hb d_M_take_82 rfl (lv_at hl 0 rfl) ?_
            refine lv_aload_n hx hb d_M_take_83 rfl (lv_at hl 0 rfl) ?_
            refine va_get (D := (dC, dI)) (ci := 1) (v := .int wt) (C := R_M) (T := T_M) (N := 7) hx hb hts (fun w h => List.mem_cons_of_mem _ (i_M w h)) hown hK hP 0 rfl rfl 2 (by decide) (hts _ (List.mem_cons_of_mem _ k_292)) (fun _ h9 => h9) rfl d_M_take_84 ?_
            refine lv_if_eq (tgt := 94) hx hb d_M_take_87 (by decide) (fun c9 => ?_) (fun c9 => ?_)
            · refine lv_iconst (v := nI 2) hx hb d_M_take_94 (by decide) ?_
              refine va_put (D := (dC, dI)) (ci := 1) (v := .int (nI 2)) (ty := .int) (C := R_M) (T := T_M) (N := 7) hx hb hts (fun w h => List.mem_cons_of_mem _ (i_M w h)) ty_M ty_M_ok nm_M hown hK hP hD hS 0 rfl rfl 5 (by decide) (hts _ (List.mem_cons_of_mem _ k_295)) (fun _ h9 => h9) rfl (by decide +kernel) rfl rfl (Nat.le_of_ble_eq_true rfl) d_M_take_95 (fun H locs hP hD hS => ?_)
              have hP : va_P (dC, dI) classes [(h1, .inr (1, [.int (nI 1), .int a1, .int wt, .int fi, .int (f_M_wordOf a1), .int (nI 2), .int wn]))] H := hP
              have hD : va_D A [(h1, .inr (1, [.int (nI 1), .int a1, .int wt, .int fi, .int (f_M_wordOf a1), .int (nI 2), .int wn]))] := hD
              refine lv_aload_n hx hb d_M_take_98 rfl (lv_at hl 0 rfl) ?_
              refine lv_iconst (v := nI 0) hx hb d_M_take_99 (by decide) ?_
              refine va_put (D := (dC, dI)) (ci := 1) (v := .int (nI 0)) (ty := .boolean) (C := R_M) (T := T_M) (N := 7) hx hb hts (fun w h => List.mem_cons_of_mem _ (i_M w h)) ty_M ty_M_ok nm_M hown hK hP hD hS 0 rfl rfl 2 (by decide) (hts _ (List.mem_cons_of_mem _ k_292)) (fun _ h9 => h9) rfl (by decide +kernel) rfl rfl (Nat.le_of_ble_eq_true rfl) d_M_take_100 (fun H locs hP hD hS => ?_)
              have hP : va_P (dC, dI) classes [(h1, .inr (1, [.int (nI 1), .int a1, .int (nI 0), .int fi, .int (f_M_wordOf a1), .int (nI 2), .int wn]))] H := hP
              have hD : va_D A [(h1, .inr (1, [.int (nI 1), .int a1, .int (nI 0), .int fi, .int (f_M_wordOf a1), .int (nI 2), .int wn]))] := hD
              refine lv_aload_n hx hb d_M_take_103 rfl (lv_at hl 0 rfl) ?_
              refine lv_dup hx hb d_M_take_104 rfl ?_
              refine va_get (D := (dC, dI)) (ci := 1) (v := .int wn) (C := R_M) (T := T_M) (N := 7) hx hb hts (fun w h => List.mem_cons_of_mem _ (i_M w h)) hown hK hP 0 rfl rfl 6 (by decide) (hts _ (List.mem_cons_of_mem _ k_296)) (fun _ h9 => h9) rfl d_M_take_105 ?_
              refine lv_iconst (v := nI 1) hx hb d_M_take_108 (by decide) ?_
              refine lv_iadd hx hb d_M_take_109 ?_
              refine va_put (D := (dC, dI)) (ci := 1) (v := .int (wn + (nI 1))) (ty := .int) (C := R_M) (T := T_M) (N := 7) hx hb hts (fun w h => List.mem_cons_of_mem _ (i_M w h)) ty_M ty_M_ok nm_M hown hK hP hD hS 0 rfl rfl 6 (by decide) (hts _ (List.mem_cons_of_mem _ k_296)) (fun _ h9 => h9) rfl (by decide +kernel) rfl rfl (Nat.le_of_ble_eq_true rfl) d_M_take_110 (fun H locs hP hD hS => ?_)
              have hP : va_P (dC, dI) classes [(h1, .inr (1, [.int (nI 1), .int a1, .int (nI 0), .int fi, .int (f_M_wordOf a1), .int (nI 2), .int (wn + (nI 1))]))] H := hP
              have hD : va_D A [(h1, .inr (1, [.int (nI 1), .int a1, .int (nI 0), .int fi, .int (f_M_wordOf a1), .int (nI 2), .int (wn + (nI 1))]))] := hD
              refine lv_iconst (v := nI 1) hx hb d_M_take_113 (by decide) ?_
              exact W.zret hx hb hr (by decide +kernel) (fun t ht hW => ⟨⟨_, ((nI 1), a1, (nI 0), fi, (f_M_wordOf a1), (nI 2), (wn + (nI 1))), rfl, by rw [g_M_take, if_pos c1, if_pos c2, if_pos c3, if_neg c7, if_pos c8, if_pos c9], by rw [ht]; exact hP, va_K.moved hW.alike hK, hD⟩, hS.F ht⟩) hS.2.2 d_M_take_114
            · refine lv_iconst (v := nI 4) hx hb d_M_take_90 (by decide) ?_
              refine lv_goto (tgt := 95) hx hb d_M_take_91 (by decide) ?_
              refine va_put (D := (dC, dI)) (ci := 1) (v := .int (nI 4)) (ty := .int) (C := R_M) (T := T_M) (N := 7) hx hb hts (fun w h => List.mem_cons_of_mem _ (i_M w h)) ty_M ty_M_ok nm_M hown hK hP hD hS 0 rfl rfl 5 (by decide) (hts _ (List.mem_cons_of_mem _ k_295)) (fun _ h9 => h9) rfl (by decide +kernel) rfl rfl (Nat.le_of_ble_eq_true rfl) d_M_take_95 (fun H locs hP hD hS => ?_)
              have hP : va_P (dC, dI) classes [(h1, .inr (1, [.int (nI 1), .int a1, .int wt, .int fi, .int (f_M_wordOf a1), .int (nI 4), .int wn]))] H := hP
              have hD : va_D A [(h1, .inr (1, [.int (nI 1), .int a1, .int wt, .int fi, .int (f_M_wordOf a1), .int (nI 4), .int wn]))] := hD
              refine lv_aload_n hx hb d_M_take_98 rfl (lv_at hl 0 rfl) ?_
              refine lv_iconst (v := nI 0) hx hb d_M_take_99 (by decide) ?_
              refine va_put (D := (dC, dI)) (ci := 1) (v := .int (nI 0)) (ty := .boolean) (C := R_M) (T := T_M) (N := 7) hx hb hts (fun w h => List.mem_cons_of_mem _ (i_M w h)) ty_M ty_M_ok nm_M hown hK hP hD hS 0 rfl rfl 2 (by decide) (hts _ (List.mem_cons_of_mem _ k_292)) (fun _ h9 => h9) rfl (by decide +kernel) rfl rfl (Nat.le_of_ble_eq_true rfl) d_M_take_100 (fun H locs hP hD hS => ?_)
              have hP : va_P (dC, dI) classes [(h1, .inr (1, [.int (nI 1), .int a1, .int (nI 0), .int fi, .int (f_M_wordOf a1), .int (nI 4), .int wn]))] H := hP
              have hD : va_D A [(h1, .inr (1, [.int (nI 1), .int a1, .int (nI 0), .int fi, .int (f_M_wordOf a1), .int (nI 4), .int wn]))] := hD
              refine lv_aload_n hx hb d_M_take_103 rfl (lv_at hl 0 rfl) ?_
              refine lv_dup hx hb d_M_take_104 rfl ?_
              refine va_get (D := (dC, dI)) (ci := 1) (v := .int wn) (C := R_M) (T := T_M) (N := 7) hx hb hts (fun w h => List.mem_cons_of_mem _ (i_M w h)) hown hK hP 0 rfl rfl 6 (by decide) (hts _ (List.mem_cons_of_mem _ k_296)) (fun _ h9 => h9) rfl d_M_take_105 ?_
              refine lv_iconst (v := nI 1) hx hb d_M_take_108 (by decide) ?_
              refine lv_iadd hx hb d_M_take_109 ?_
              refine va_put (D := (dC, dI)) (ci := 1) (v := .int (wn + (nI 1))) (ty := .int) (C := R_M) (T := T_M) (N := 7) hx hb hts (fun w h => List.mem_cons_of_mem _ (i_M w h)) ty_M ty_M_ok nm_M hown hK hP hD hS 0 rfl rfl 6 (by decide) (hts _ (List.mem_cons_of_mem _ k_296)) (fun _ h9 => h9) rfl (by decide +kernel) rfl rfl (Nat.le_of_ble_eq_true rfl) d_M_take_110 (fun H locs hP hD hS => ?_)
              have hP : va_P (dC, dI) classes [(h1, .inr (1, [.int (nI 1), .int a1, .int (nI 0), .int fi, .int (f_M_wordOf a1), .int (nI 4), .int (wn + (nI 1))]))] H := hP
              have hD : va_D A [(h1, .inr (1, [.int (nI 1), .int a1, .int (nI 0), .int fi, .int (f_M_wordOf a1), .int (nI 4), .int (wn + (nI 1))]))] := hD
              refine lv_iconst (v := nI 1) hx hb d_M_take_113 (by decide) ?_
              exact W.zret hx hb hr (by decide +kernel) (fun t ht hW => ⟨⟨_, ((nI 1), a1, (nI 0), fi, (f_M_wordOf a1), (nI 4), (wn + (nI 1))), rfl, by rw [g_M_take, if_pos c1, if_pos c2, if_pos c3, if_neg c7, if_pos c8, if_neg c9], by rw [ht]; exact hP, va_K.moved hW.alike hK, hD⟩, hS.F ht⟩) hS.2.2 d_M_take_114
          · refine lv_aload_n hx hb d_M_take_62 rfl (lv_at hl 0 rfl) ?_
            refine va_get (D := (dC, dI)) (ci := 1) (v := .int fi) (C := R_M) (T := T_M) (N := 7) hx hb hts (fun w h => List.mem_cons_of_mem _ (i_M w h)) hown hK hP 0 rfl rfl 3 (by decide) (hts _ (List.mem_cons_of_mem _ k_293)) (fun _ h9 => h9) rfl d_M_take_63 ?_
            refine lv_iload_n hx hb d_M_take_66 rfl (lv_at hl 1 rfl) ?_
            refine lv_bipush (v := nI 16) hx hb d_M_take_67 (by decide) ?_
            refine lv_ishl hx hb d_M_take_69 ?_
            refine lv_ior hx hb d_M_take_70 ?_
            refine lv_goto (tgt := 79) hx hb d_M_take_71 (by decide) ?_
            refine va_put (D := (dC, dI)) (ci := 1) (v := .int (fi ||| (a1 <<< ((nI 16) &&& 31)))) (ty := .int) (C := R_M) (T := T_M) (N := 7) hx hb hts (fun w h => List.mem_cons_of_mem _ (i_M w h)) ty_M ty_M_ok nm_M hown hK hP hD hS 0 rfl rfl 4 (by decide) (hts _ (List.mem_cons_of_mem _ k_294)) (fun _ h9 => h9) rfl (by decide +kernel) rfl rfl (Nat.le_of_ble_eq_true rfl) d_M_take_79 (fun H locs hP hD hS => ?_)
            have hP : va_P (dC, dI) classes [(h1, .inr (1, [.int (nI 1), .int hh, .int wt, .int fi, .int (fi ||| (a1 <<< ((nI 16) &&& 31))), .int le, .int wn]))] H := hP
            have hD : va_D A [(h1, .inr (1, [.int (nI 1), .int hh, .int wt, .int fi, .int (fi ||| (a1 <<< ((nI 16) &&& 31))), .int le, .int wn]))] := hD
            refine lv_aload_n hx hb d_M_take_82 rfl (lv_at hl 0 rfl) ?_
            refine lv_aload_n hx hb d_M_take_83 rfl (lv_at hl 0 rfl) ?_
            refine va_get (D := (dC, dI)) (ci := 1) (v := .int wt) (C := R_M) (T := T_M) (N := 7) hx hb hts (fun w h => List.mem_cons_of_mem _ (i_M w h)) hown hK hP 0 rfl rfl 2 (by decide) (hts _ (List.mem_cons_of_mem _ k_292)) (fun _ h9 => h9) rfl d_M_take_84 ?_
            refine lv_if_eq (tgt := 94) hx hb d_M_take_87 (by decide) (fun c10 => ?_) (fun c10 => ?_)
            · refine lv_iconst (v := nI 2) hx hb d_M_take_94 (by decide) ?_
              refine va_put (D := (dC, dI)) (ci := 1) (v := .int (nI 2)) (ty := .int) (C := R_M) (T := T_M) (N := 7) hx hb hts (fun w h => List.mem_cons_of_mem _ (i_M w h)) ty_M ty_M_ok nm_M hown hK hP hD hS 0 rfl rfl 5 (by decide) (hts _ (List.mem_cons_of_mem _ k_295)) (fun _ h9 => h9) rfl (by decide +kernel) rfl rfl (Nat.le_of_ble_eq_true rfl) d_M_take_95 (fun H locs hP hD hS => ?_)
              have hP : va_P (dC, dI) classes [(h1, .inr (1, [.int (nI 1), .int hh, .int wt, .int fi, .int (fi ||| (a1 <<< ((nI 16) &&& 31))), .int (nI 2), .int wn]))] H := hP
              have hD : va_D A [(h1, .inr (1, [.int (nI 1), .int hh, .int wt, .int fi, .int (fi ||| (a1 <<< ((nI 16) &&& 31))), .int (nI 2), .int wn]))] := hD
              refine lv_aload_n hx hb d_M_take_98 rfl (lv_at hl 0 rfl) ?_
              refine lv_iconst (v := nI 0) hx hb d_M_take_99 (by decide) ?_
              refine va_put (D := (dC, dI)) (ci := 1) (v := .int (nI 0)) (ty := .boolean) (C := R_M) (T := T_M) (N := 7) hx hb hts (fun w h => List.mem_cons_of_mem _ (i_M w h)) ty_M ty_M_ok nm_M hown hK hP hD hS 0 rfl rfl 2 (by decide) (hts _ (List.mem_cons_of_mem _ k_292)) (fun _ h9 => h9) rfl (by decide +kernel) rfl rfl (Nat.le_of_ble_eq_true rfl) d_M_take_100 (fun H locs hP hD hS => ?_)
              have hP : va_P (dC, dI) classes [(h1, .inr (1, [.int (nI 1), .int hh, .int (nI 0), .int fi, .int (fi ||| (a1 <<< ((nI 16) &&& 31))), .int (nI 2), .int wn]))] H := hP
              have hD : va_D A [(h1, .inr (1, [.int (nI 1), .int hh, .int (nI 0), .int fi, .int (fi ||| (a1 <<< ((nI 16) &&& 31))), .int (nI 2), .int wn]))] := hD
              refine lv_aload_n hx hb d_M_take_103 rfl (lv_at hl 0 rfl) ?_
              refine lv_dup hx hb d_M_take_104 rfl ?_
              refine va_get (D := (dC, dI)) (ci := 1) (v := .int wn) (C := R_M) (T := T_M) (N := 7) hx hb hts (fun w h => List.mem_cons_of_mem _ (i_M w h)) hown hK hP 0 rfl rfl 6 (by decide) (hts _ (List.mem_cons_of_mem _ k_296)) (fun _ h9 => h9) rfl d_M_take_105 ?_
              refine lv_iconst (v := nI 1) hx hb d_M_take_108 (by decide) ?_
              refine lv_iadd hx hb d_M_take_109 ?_
              refine va_put (D := (dC, dI)) (ci := 1) (v := .int (wn + (nI 1))) (ty := .int) (C := R_M) (T := T_M) (N := 7) hx hb hts (fun w h => List.mem_cons_of_mem _ (i_M w h)) ty_M ty_M_ok nm_M hown hK hP hD hS 0 rfl rfl 6 (by decide) (hts _ (List.mem_cons_of_mem _ k_296)) (fun _ h9 => h9) rfl (by decide +kernel) rfl rfl (Nat.le_of_ble_eq_true rfl) d_M_take_110 (fun H locs hP hD hS => ?_)
              have hP : va_P (dC, dI) classes [(h1, .inr (1, [.int (nI 1), .int hh, .int (nI 0), .int fi, .int (fi ||| (a1 <<< ((nI 16) &&& 31))), .int (nI 2), .int (wn + (nI 1))]))] H := hP
              have hD : va_D A [(h1, .inr (1, [.int (nI 1), .int hh, .int (nI 0), .int fi, .int (fi ||| (a1 <<< ((nI 16) &&& 31))), .int (nI 2), .int (wn + (nI 1))]))] := hD
              refine lv_iconst (v := nI 1) hx hb d_M_take_113 (by decide) ?_
              exact W.zret hx hb hr (by decide +kernel) (fun t ht hW => ⟨⟨_, ((nI 1), hh, (nI 0), fi, (fi ||| (a1 <<< ((nI 16) &&& 31))), (nI 2), (wn + (nI 1))), rfl, by rw [g_M_take, if_pos c1, if_pos c2, if_pos c3, if_neg c7, if_neg c8, if_pos c10], by rw [ht]; exact hP, va_K.moved hW.alike hK, hD⟩, hS.F ht⟩) hS.2.2 d_M_take_114
            · refine lv_iconst (v := nI 4) hx hb d_M_take_90 (by decide) ?_
              refine lv_goto (tgt := 95) hx hb d_M_take_91 (by decide) ?_
              refine va_put (D := (dC, dI)) (ci := 1) (v := .int (nI 4)) (ty := .int) (C := R_M) (T := T_M) (N := 7) hx hb hts (fun w h => List.mem_cons_of_mem _ (i_M w h)) ty_M ty_M_ok nm_M hown hK hP hD hS 0 rfl rfl 5 (by decide) (hts _ (List.mem_cons_of_mem _ k_295)) (fun _ h9 => h9) rfl (by decide +kernel) rfl rfl (Nat.le_of_ble_eq_true rfl) d_M_take_95 (fun H locs hP hD hS => ?_)
              have hP : va_P (dC, dI) classes [(h1, .inr (1, [.int (nI 1), .int hh, .int wt, .int fi, .int (fi ||| (a1 <<< ((nI 16) &&& 31))), .int (nI 4), .int wn]))] H := hP
              have hD : va_D A [(h1, .inr (1, [.int (nI 1), .int hh, .int wt, .int fi, .int (fi ||| (a1 <<< ((nI 16) &&& 31))), .int (nI 4), .int wn]))] := hD
              refine lv_aload_n hx hb d_M_take_98 rfl (lv_at hl 0 rfl) ?_
              refine lv_iconst (v := nI 0) hx hb d_M_take_99 (by decide) ?_
              refine va_put (D := (dC, dI)) (ci := 1) (v := .int (nI 0)) (ty := .boolean) (C := R_M) (T := T_M) (N := 7) hx hb hts (fun w h => List.mem_cons_of_mem _ (i_M w h)) ty_M ty_M_ok nm_M hown hK hP hD hS 0 rfl rfl 2 (by decide) (hts _ (List.mem_cons_of_mem _ k_292)) (fun _ h9 => h9) rfl (by decide +kernel) rfl rfl (Nat.le_of_ble_eq_true rfl) d_M_take_100 (fun H locs hP hD hS => ?_)
              have hP : va_P (dC, dI) classes [(h1, .inr (1, [.int (nI 1), .int hh, .int (nI 0), .int fi, .int (fi ||| (a1 <<< ((nI 16) &&& 31))), .int (nI 4), .int wn]))] H := hP
              have hD : va_D A [(h1, .inr (1, [.int (nI 1), .int hh, .int (nI 0), .int fi, .int (fi ||| (a1 <<< ((nI 16) &&& 31))), .int (nI 4), .int wn]))] := hD
              refine lv_aload_n hx hb d_M_take_103 rfl (lv_at hl 0 rfl) ?_
              refine lv_dup hx hb d_M_take_104 rfl ?_
              refine va_get (D := (dC, dI)) (ci := 1) (v := .int wn) (C := R_M) (T := T_M) (N := 7) hx hb hts (fun w h => List.mem_cons_of_mem _ (i_M w h)) hown hK hP 0 rfl rfl 6 (by decide) (hts _ (List.mem_cons_of_mem _ k_296)) (fun _ h9 => h9) rfl d_M_take_105 ?_
              refine lv_iconst (v := nI 1) hx hb d_M_take_108 (by decide) ?_
              refine lv_iadd hx hb d_M_take_109 ?_
              refine va_put (D := (dC, dI)) (ci := 1) (v := .int (wn + (nI 1))) (ty := .int) (C := R_M) (T := T_M) (N := 7) hx hb hts (fun w h => List.mem_cons_of_mem _ (i_M w h)) ty_M ty_M_ok nm_M hown hK hP hD hS 0 rfl rfl 6 (by decide) (hts _ (List.mem_cons_of_mem _ k_296)) (fun _ h9 => h9) rfl (by decide +kernel) rfl rfl (Nat.le_of_ble_eq_true rfl) d_M_take_110 (fun H locs hP hD hS => ?_)
              have hP : va_P (dC, dI) classes [(h1, .inr (1, [.int (nI 1), .int hh, .int (nI 0), .int fi, .int (fi ||| (a1 <<< ((nI 16) &&& 31))), .int (nI 4), .int (wn + (nI 1))]))] H := hP
              have hD : va_D A [(h1, .inr (1, [.int (nI 1), .int hh, .int (nI 0), .int fi, .int (fi ||| (a1 <<< ((nI 16) &&& 31))), .int (nI 4), .int (wn + (nI 1))]))] := hD
              refine lv_iconst (v := nI 1) hx hb d_M_take_113 (by decide) ?_
              exact W.zret hx hb hr (by decide +kernel) (fun t ht hW => ⟨⟨_, ((nI 1), hh, (nI 0), fi, (fi ||| (a1 <<< ((nI 16) &&& 31))), (nI 4), (wn + (nI 1))), rfl, by rw [g_M_take, if_pos c1, if_pos c2, if_pos c3, if_neg c7, if_neg c8, if_neg c10], by rw [ht]; exact hP, va_K.moved hW.alike hK, hD⟩, hS.F ht⟩) hS.2.2 d_M_take_114
        · refine lv_aload_n hx hb d_M_take_42 rfl (lv_at hl 0 rfl) ?_
          refine lv_iconst (v := nI 1) hx hb d_M_take_43 (by decide) ?_
          refine va_put (D := (dC, dI)) (ci := 1) (v := .int (nI 1)) (ty := .boolean) (C := R_M) (T := T_M) (N := 7) hx hb hts (fun w h => List.mem_cons_of_mem _ (i_M w h)) ty_M ty_M_ok nm_M hown hK hP hD hS 0 rfl rfl 2 (by decide) (hts _ (List.mem_cons_of_mem _ k_292)) (fun _ h9 => h9) rfl (by decide +kernel) rfl rfl (Nat.le_of_ble_eq_true rfl) d_M_take_44 (fun H locs hP hD hS => ?_)
          have hP : va_P (dC, dI) classes [(h1, .inr (1, [.int (nI 1), .int hh, .int (nI 1), .int fi, .int wo, .int le, .int wn]))] H := hP
          have hD : va_D A [(h1, .inr (1, [.int (nI 1), .int hh, .int (nI 1), .int fi, .int wo, .int le, .int wn]))] := hD
          refine lv_aload_n hx hb d_M_take_47 rfl (lv_at hl 0 rfl) ?_
          refine lv_iload_n hx hb d_M_take_48 rfl (lv_at hl 1 rfl) ?_
          refine va_put (D := (dC, dI)) (ci := 1) (v := .int a1) (ty := .int) (C := R_M) (T := T_M) (N := 7) hx hb hts (fun w h => List.mem_cons_of_mem _ (i_M w h)) ty_M ty_M_ok nm_M hown hK hP hD hS 0 rfl rfl 3 (by decide) (hts _ (List.mem_cons_of_mem _ k_293)) (fun _ h9 => h9) rfl (by decide +kernel) rfl rfl (Nat.le_of_ble_eq_true rfl) d_M_take_49 (fun H locs hP hD hS => ?_)
          have hP : va_P (dC, dI) classes [(h1, .inr (1, [.int (nI 1), .int hh, .int (nI 1), .int a1, .int wo, .int le, .int wn]))] H := hP
          have hD : va_D A [(h1, .inr (1, [.int (nI 1), .int hh, .int (nI 1), .int a1, .int wo, .int le, .int wn]))] := hD
          refine lv_iconst (v := nI 0) hx hb d_M_take_52 (by decide) ?_
          exact W.zret hx hb hr (by decide +kernel) (fun t ht hW => ⟨⟨_, ((nI 1), hh, (nI 1), a1, wo, le, wn), rfl, by rw [g_M_take, if_pos c1, if_pos c2, if_pos c3, if_pos c7], by rw [ht]; exact hP, va_K.moved hW.alike hK, hD⟩, hS.F ht⟩) hS.2.2 d_M_take_53
    · refine lv_iconst (v := nI 0) hx hb d_M_take_26 (by decide) ?_
      exact W.zret hx hb hr (by decide +kernel) (fun t ht hW => ⟨⟨_, ((nI 1), hh, wt, fi, wo, le, wn), rfl, by rw [g_M_take, if_pos c1, if_neg c2], by rw [ht]; exact hP, va_K.moved hW.alike hK, hD⟩, hS.F ht⟩) hS.2.2 d_M_take_27
  · refine lv_iload_n hx hb d_M_take_5 rfl (lv_at hl 1 rfl) ?_
    refine lv_ldc (v := nI 65535) hx hb hown (hts _ (List.mem_cons_of_mem _ k_320)) d_M_take_6 ?_
    refine lv_icmp_le (tgt := 15) hx hb d_M_take_8 (by decide) (fun c11 => ?_) (fun c11 => ?_)
    · refine lv_iconst (v := nI 0) hx hb d_M_take_15 (by decide) ?_
      refine va_put (D := (dC, dI)) (ci := 1) (v := .int (nI 0)) (ty := .int) (C := R_M) (T := T_M) (N := 7) hx hb hts (fun w h => List.mem_cons_of_mem _ (i_M w h)) ty_M ty_M_ok nm_M hown hK hP hD hS 0 rfl rfl 0 (by decide) (hts _ (List.mem_cons_of_mem _ k_290)) (fun _ h9 => h9) rfl (by decide +kernel) rfl rfl (Nat.le_of_ble_eq_true rfl) d_M_take_16 (fun H locs hP hD hS => ?_)
      have hP : va_P (dC, dI) classes [(h1, .inr (1, [.int (nI 0), .int hh, .int wt, .int fi, .int wo, .int le, .int wn]))] H := hP
      have hD : va_D A [(h1, .inr (1, [.int (nI 0), .int hh, .int wt, .int fi, .int wo, .int le, .int wn]))] := hD
      refine lv_aload_n hx hb d_M_take_19 rfl (lv_at hl 0 rfl) ?_
      refine va_get (D := (dC, dI)) (ci := 1) (v := .int (nI 0)) (C := R_M) (T := T_M) (N := 7) hx hb hts (fun w h => List.mem_cons_of_mem _ (i_M w h)) hown hK hP 0 rfl rfl 0 (by decide) (hts _ (List.mem_cons_of_mem _ k_290)) (fun _ h9 => h9) rfl d_M_take_20 ?_
      refine lv_if_le (tgt := 28) hx hb d_M_take_23 (by decide) (fun c12 => ?_) (fun c12 => ?_)
      · refine lv_aload_n hx hb d_M_take_28 rfl (lv_at hl 0 rfl) ?_
        refine va_get (D := (dC, dI)) (ci := 1) (v := .int wt) (C := R_M) (T := T_M) (N := 7) hx hb hts (fun w h => List.mem_cons_of_mem _ (i_M w h)) hown hK hP 0 rfl rfl 2 (by decide) (hts _ (List.mem_cons_of_mem _ k_292)) (fun _ h9 => h9) rfl d_M_take_29 ?_
        refine lv_if_ne (tgt := 54) hx hb d_M_take_32 (by decide) (fun c13 => ?_) (fun c13 => ?_)
        · refine lv_aload_n hx hb d_M_take_54 rfl (lv_at hl 0 rfl) ?_
          refine lv_aload_n hx hb d_M_take_55 rfl (lv_at hl 0 rfl) ?_
          refine va_get (D := (dC, dI)) (ci := 1) (v := .int wt) (C := R_M) (T := T_M) (N := 7) hx hb hts (fun w h => List.mem_cons_of_mem _ (i_M w h)) hown hK hP 0 rfl rfl 2 (by decide) (hts _ (List.mem_cons_of_mem _ k_292)) (fun _ h9 => h9) rfl d_M_take_56 ?_
          refine lv_if_eq (tgt := 74) hx hb d_M_take_59 (by decide) (fun c14 => ?_) (fun c14 => ?_)
          · refine lv_aload_n hx hb d_M_take_74 rfl (lv_at hl 0 rfl) ?_
            refine lv_iload_n hx hb d_M_take_75 rfl (lv_at hl 1 rfl) ?_
            have hFc := va_free (wc := [(h1, .inr (1, [.int (nI 0), .int hh, .int wt, .int fi, .int wo, .int le, .int wn]))]) hD hS hA [0] rfl
            refine callQ (va_runV (b := h1) (As := [.int a1]) (rest := [.ref h1]) ⟨hx, hb, hml, hown, hts⟩ (c_M_wordOf l dC dI h1 H.size (nI 0) hh wt fi wo le wn a1) (cwV 1 hts (gV awx k_321 k_323 ks_2 k_2 k_324) rfl rfl rfl (by decide +kernel) ⟨Nat.le_of_ble_eq_true rfl, Nat.le_of_ble_eq_true rfl⟩) ⟨o_blind, va_recv hK hP (ci := 1) (q0 := 0) rfl rfl, fun U hU hW => ⟨rfl, by rw [hU], by rw [hU]; exact hP, va_K.moved hW.alike hK, hD.weaken (fun _ _ _ _ => trivial)⟩⟩ rfl rfl hl.1 rfl (lv_room (Nat.le_of_ble_eq_true rfl)) d_M_take_76 ⟨Nat.zero_le _, Nat.zero_le _⟩) hS (fun q _ h => hFc q h) hFc (fun t9 H1 locs ht hvm hB hz1 hk1 hS => ?_)
            obtain ⟨hP1, hK1, hD1⟩ := hB
            rw [ht] at hP1
            have hK1 := va_K.moved hvm.symm hK1
            obtain ⟨hP, hD⟩ := va_join (wr := []) (w1 := [(h1, .inr (1, [.int (nI 0), .int a1, .int wt, .int fi, .int wo, .int le, .int wn]))]) hP hD [0] [] rfl rfl (by decide) (by decide) hk1 hFc hP1 hD1
            generalize H1 = H at hP hS ⊢
            have hP : va_P (dC, dI) classes [(h1, .inr (1, [.int (nI 0), .int a1, .int wt, .int fi, .int wo, .int le, .int wn]))] H := hP
            have hD : va_D A [(h1, .inr (1, [.int (nI 0), .int a1, .int wt, .int fi, .int wo, .int le, .int wn]))] := hD
            refine va_put (D := (dC, dI)) (ci := 1) (v := .int (f_M_wordOf a1)) (ty := .int) (C := R_M) (T := T_M) (N := 7) hx hb hts (fun w h => List.mem_cons_of_mem _ (i_M w h)) ty_M ty_M_ok nm_M hown hK hP hD hS 0 rfl rfl 4 (by decide) (hts _ (List.mem_cons_of_mem _ k_294)) (fun _ h9 => h9) rfl (by decide +kernel) rfl rfl (Nat.le_of_ble_eq_true rfl) d_M_take_79 (fun H locs hP hD hS => ?_)
            have hP : va_P (dC, dI) classes [(h1, .inr (1, [.int (nI 0), .int a1, .int wt, .int fi, .int (f_M_wordOf a1), .int le, .int wn]))] H := hP
            have hD : va_D A [(h1, .inr (1, [.int (nI 0), .int a1, .int wt, .int fi, .int (f_M_wordOf a1), .int le, .int wn]))] := hD
            refine lv_aload_n hx hb d_M_take_82 rfl (lv_at hl 0 rfl) ?_
            refine lv_aload_n hx hb d_M_take_83 rfl (lv_at hl 0 rfl) ?_
            refine va_get (D := (dC, dI)) (ci := 1) (v := .int wt) (C := R_M) (T := T_M) (N := 7) hx hb hts (fun w h => List.mem_cons_of_mem _ (i_M w h)) hown hK hP 0 rfl rfl 2 (by decide) (hts _ (List.mem_cons_of_mem _ k_292)) (fun _ h9 => h9) rfl d_M_take_84 ?_
            refine lv_if_eq (tgt := 94) hx hb d_M_take_87 (by decide) (fun c15 => ?_) (fun c15 => ?_)
            · refine lv_iconst (v := nI 2) hx hb d_M_take_94 (by decide) ?_
              refine va_put (D := (dC, dI)) (ci := 1) (v := .int (nI 2)) (ty := .int) (C := R_M) (T := T_M) (N := 7) hx hb hts (fun w h => List.mem_cons_of_mem _ (i_M w h)) ty_M ty_M_ok nm_M hown hK hP hD hS 0 rfl rfl 5 (by decide) (hts _ (List.mem_cons_of_mem _ k_295)) (fun _ h9 => h9) rfl (by decide +kernel) rfl rfl (Nat.le_of_ble_eq_true rfl) d_M_take_95 (fun H locs hP hD hS => ?_)
              have hP : va_P (dC, dI) classes [(h1, .inr (1, [.int (nI 0), .int a1, .int wt, .int fi, .int (f_M_wordOf a1), .int (nI 2), .int wn]))] H := hP
              have hD : va_D A [(h1, .inr (1, [.int (nI 0), .int a1, .int wt, .int fi, .int (f_M_wordOf a1), .int (nI 2), .int wn]))] := hD
              refine lv_aload_n hx hb d_M_take_98 rfl (lv_at hl 0 rfl) ?_
              refine lv_iconst (v := nI 0) hx hb d_M_take_99 (by decide) ?_
              refine va_put (D := (dC, dI)) (ci := 1) (v := .int (nI 0)) (ty := .boolean) (C := R_M) (T := T_M) (N := 7) hx hb hts (fun w h => List.mem_cons_of_mem _ (i_M w h)) ty_M ty_M_ok nm_M hown hK hP hD hS 0 rfl rfl 2 (by decide) (hts _ (List.mem_cons_of_mem _ k_292)) (fun _ h9 => h9) rfl (by decide +kernel) rfl rfl (Nat.le_of_ble_eq_true rfl) d_M_take_100 (fun H locs hP hD hS => ?_)
              have hP : va_P (dC, dI) classes [(h1, .inr (1, [.int (nI 0), .int a1, .int (nI 0), .int fi, .int (f_M_wordOf a1), .int (nI 2), .int wn]))] H := hP
              have hD : va_D A [(h1, .inr (1, [.int (nI 0), .int a1, .int (nI 0), .int fi, .int (f_M_wordOf a1), .int (nI 2), .int wn]))] := hD
              refine lv_aload_n hx hb d_M_take_103 rfl (lv_at hl 0 rfl) ?_
              refine lv_dup hx hb d_M_take_104 rfl ?_
              refine va_get (D := (dC, dI)) (ci := 1) (v := .int wn) (C := R_M) (T := T_M) (N := 7) hx hb hts (fun w h => List.mem_cons_of_mem _ (i_M w h)) hown hK hP 0 rfl rfl 6 (by decide) (hts _ (List.mem_cons_of_mem _ k_296)) (fun _ h9 => h9) rfl d_M_take_105 ?_
              refine lv_iconst (v := nI 1) hx hb d_M_take_108 (by decide) ?_
              refine lv_iadd hx hb d_M_take_109 ?_
              refine va_put (D := (dC, dI)) (ci := 1) (v := .int (wn + (nI 1))) (ty := .int) (C := R_M) (T := T_M) (N := 7) hx hb hts (fun w h => List.mem_cons_of_mem _ (i_M w h)) ty_M ty_M_ok nm_M hown hK hP hD hS 0 rfl rfl 6 (by decide) (hts _ (List.mem_cons_of_mem _ k_296)) (fun _ h9 => h9) rfl (by decide +kernel) rfl rfl (Nat.le_of_ble_eq_true rfl) d_M_take_110 (fun H locs hP hD hS => ?_)
              have hP : va_P (dC, dI) classes [(h1, .inr (1, [.int (nI 0), .int a1, .int (nI 0), .int fi, .int (f_M_wordOf a1), .int (nI 2), .int (wn + (nI 1))]))] H := hP
              have hD : va_D A [(h1, .inr (1, [.int (nI 0), .int a1, .int (nI 0), .int fi, .int (f_M_wordOf a1), .int (nI 2), .int (wn + (nI 1))]))] := hD
              refine lv_iconst (v := nI 1) hx hb d_M_take_113 (by decide) ?_
              exact W.zret hx hb hr (by decide +kernel) (fun t ht hW => ⟨⟨_, ((nI 0), a1, (nI 0), fi, (f_M_wordOf a1), (nI 2), (wn + (nI 1))), rfl, by rw [g_M_take, if_neg c1, if_pos c11, if_pos c12, if_neg c13, if_pos c14, if_pos c15], by rw [ht]; exact hP, va_K.moved hW.alike hK, hD⟩, hS.F ht⟩) hS.2.2 d_M_take_114
            · refine lv_iconst (v := nI 4) hx hb d_M_take_90 (by decide) ?_
              refine lv_goto (tgt := 95) hx hb d_M_take_91 (by decide) ?_
              refine va_put (D := (dC, dI)) (ci := 1) (v := .int (nI 4)) (ty := .int) (C := R_M) (T := T_M) (N := 7) hx hb hts (fun w h => List.mem_cons_of_mem _ (i_M w h)) ty_M ty_M_ok nm_M hown hK hP hD hS 0 rfl rfl 5 (by decide) (hts _ (List.mem_cons_of_mem _ k_295)) (fun _ h9 => h9) rfl (by decide +kernel) rfl rfl (Nat.le_of_ble_eq_true rfl) d_M_take_95 (fun H locs hP hD hS => ?_)
              have hP : va_P (dC, dI) classes [(h1, .inr (1, [.int (nI 0), .int a1, .int wt, .int fi, .int (f_M_wordOf a1), .int (nI 4), .int wn]))] H := hP
              have hD : va_D A [(h1, .inr (1, [.int (nI 0), .int a1, .int wt, .int fi, .int (f_M_wordOf a1), .int (nI 4), .int wn]))] := hD
              refine lv_aload_n hx hb d_M_take_98 rfl (lv_at hl 0 rfl) ?_
              refine lv_iconst (v := nI 0) hx hb d_M_take_99 (by decide) ?_
              refine va_put (D := (dC, dI)) (ci := 1) (v := .int (nI 0)) (ty := .boolean) (C := R_M) (T := T_M) (N := 7) hx hb hts (fun w h => List.mem_cons_of_mem _ (i_M w h)) ty_M ty_M_ok nm_M hown hK hP hD hS 0 rfl rfl 2 (by decide) (hts _ (List.mem_cons_of_mem _ k_292)) (fun _ h9 => h9) rfl (by decide +kernel) rfl rfl (Nat.le_of_ble_eq_true rfl) d_M_take_100 (fun H locs hP hD hS => ?_)
              have hP : va_P (dC, dI) classes [(h1, .inr (1, [.int (nI 0), .int a1, .int (nI 0), .int fi, .int (f_M_wordOf a1), .int (nI 4), .int wn]))] H := hP
              have hD : va_D A [(h1, .inr (1, [.int (nI 0), .int a1, .int (nI 0), .int fi, .int (f_M_wordOf a1), .int (nI 4), .int wn]))] := hD
              refine lv_aload_n hx hb d_M_take_103 rfl (lv_at hl 0 rfl) ?_
              refine lv_dup hx hb d_M_take_104 rfl ?_
              refine va_get (D := (dC, dI)) (ci := 1) (v := .int wn) (C := R_M) (T := T_M) (N := 7) hx hb hts (fun w h => List.mem_cons_of_mem _ (i_M w h)) hown hK hP 0 rfl rfl 6 (by decide) (hts _ (List.mem_cons_of_mem _ k_296)) (fun _ h9 => h9) rfl d_M_take_105 ?_
              refine lv_iconst (v := nI 1) hx hb d_M_take_108 (by decide) ?_
              refine lv_iadd hx hb d_M_take_109 ?_
              refine va_put (D := (dC, dI)) (ci := 1) (v := .int (wn + (nI 1))) (ty := .int) (C := R_M) (T := T_M) (N := 7) hx hb hts (fun w h => List.mem_cons_of_mem _ (i_M w h)) ty_M ty_M_ok nm_M hown hK hP hD hS 0 rfl rfl 6 (by decide) (hts _ (List.mem_cons_of_mem _ k_296)) (fun _ h9 => h9) rfl (by decide +kernel) rfl rfl (Nat.le_of_ble_eq_true rfl) d_M_take_110 (fun H locs hP hD hS => ?_)
              have hP : va_P (dC, dI) classes [(h1, .inr (1, [.int (nI 0), .int a1, .int (nI 0), .int fi, .int (f_M_wordOf a1), .int (nI 4), .int (wn + (nI 1))]))] H := hP
              have hD : va_D A [(h1, .inr (1, [.int (nI 0), .int a1, .int (nI 0), .int fi, .int (f_M_wordOf a1), .int (nI 4), .int (wn + (nI 1))]))] := hD
              refine lv_iconst (v := nI 1) hx hb d_M_take_113 (by decide) ?_
              exact W.zret hx hb hr (by decide +kernel) (fun t ht hW => ⟨⟨_, ((nI 0), a1, (nI 0), fi, (f_M_wordOf a1), (nI 4), (wn + (nI 1))), rfl, by rw [g_M_take, if_neg c1, if_pos c11, if_pos c12, if_neg c13, if_pos c14, if_neg c15], by rw [ht]; exact hP, va_K.moved hW.alike hK, hD⟩, hS.F ht⟩) hS.2.2 d_M_take_114
          · refine lv_aload_n hx hb d_M_take_62 rfl (lv_at hl 0 rfl) ?_
            refine va_get (D := (dC, dI)) (ci := 1) (v := .int fi) (C := R_M) (T := T_M) (N := 7) hx hb hts (fun w h => List.mem_cons_of_mem _ (i_M w h)) hown hK hP 0 rfl rfl 3 (by decide) (hts _ (List.mem_cons_of_mem _ k_293)) (fun _ h9 => h9) rfl d_M_take_63 ?_
            refine lv_iload_n hx hb d_M_take_66 rfl (lv_at hl 1 rfl) ?_
            refine lv_bipush (v := nI 16) hx hb d_M_take_67 (by decide) ?_
            refine lv_ishl hx hb d_M_take_69 ?_
            refine lv_ior hx hb d_M_take_70 ?_
            refine lv_goto (tgt := 79) hx hb d_M_take_71 (by decide) ?_
            refine va_put (D := (dC, dI)) (ci := 1) (v := .int (fi ||| (a1 <<< ((nI 16) &&& 31)))) (ty := .int) (C := R_M) (T := T_M) (N := 7) hx hb hts (fun w h => List.mem_cons_of_mem _ (i_M w h)) ty_M ty_M_ok nm_M hown hK hP hD hS 0 rfl rfl 4 (by decide) (hts _ (List.mem_cons_of_mem _ k_294)) (fun _ h9 => h9) rfl (by decide +kernel) rfl rfl (Nat.le_of_ble_eq_true rfl) d_M_take_79 (fun H locs hP hD hS => ?_)
            have hP : va_P (dC, dI) classes [(h1, .inr (1, [.int (nI 0), .int hh, .int wt, .int fi, .int (fi ||| (a1 <<< ((nI 16) &&& 31))), .int le, .int wn]))] H := hP
            have hD : va_D A [(h1, .inr (1, [.int (nI 0), .int hh, .int wt, .int fi, .int (fi ||| (a1 <<< ((nI 16) &&& 31))), .int le, .int wn]))] := hD
            refine lv_aload_n hx hb d_M_take_82 rfl (lv_at hl 0 rfl) ?_
            refine lv_aload_n hx hb d_M_take_83 rfl (lv_at hl 0 rfl) ?_
            refine va_get (D := (dC, dI)) (ci := 1) (v := .int wt) (C := R_M) (T := T_M) (N := 7) hx hb hts (fun w h => List.mem_cons_of_mem _ (i_M w h)) hown hK hP 0 rfl rfl 2 (by decide) (hts _ (List.mem_cons_of_mem _ k_292)) (fun _ h9 => h9) rfl d_M_take_84 ?_
            refine lv_if_eq (tgt := 94) hx hb d_M_take_87 (by decide) (fun c16 => ?_) (fun c16 => ?_)
            · refine lv_iconst (v := nI 2) hx hb d_M_take_94 (by decide) ?_
              refine va_put (D := (dC, dI)) (ci := 1) (v := .int (nI 2)) (ty := .int) (C := R_M) (T := T_M) (N := 7) hx hb hts (fun w h => List.mem_cons_of_mem _ (i_M w h)) ty_M ty_M_ok nm_M hown hK hP hD hS 0 rfl rfl 5 (by decide) (hts _ (List.mem_cons_of_mem _ k_295)) (fun _ h9 => h9) rfl (by decide +kernel) rfl rfl (Nat.le_of_ble_eq_true rfl) d_M_take_95 (fun H locs hP hD hS => ?_)
              have hP : va_P (dC, dI) classes [(h1, .inr (1, [.int (nI 0), .int hh, .int wt, .int fi, .int (fi ||| (a1 <<< ((nI 16) &&& 31))), .int (nI 2), .int wn]))] H := hP
              have hD : va_D A [(h1, .inr (1, [.int (nI 0), .int hh, .int wt, .int fi, .int (fi ||| (a1 <<< ((nI 16) &&& 31))), .int (nI 2), .int wn]))] := hD
              refine lv_aload_n hx hb d_M_take_98 rfl (lv_at hl 0 rfl) ?_
              refine lv_iconst (v := nI 0) hx hb d_M_take_99 (by decide) ?_
              refine va_put (D := (dC, dI)) (ci := 1) (v := .int (nI 0)) (ty := .boolean) (C := R_M) (T := T_M) (N := 7) hx hb hts (fun w h => List.mem_cons_of_mem _ (i_M w h)) ty_M ty_M_ok nm_M hown hK hP hD hS 0 rfl rfl 2 (by decide) (hts _ (List.mem_cons_of_mem _ k_292)) (fun _ h9 => h9) rfl (by decide +kernel) rfl rfl (Nat.le_of_ble_eq_true rfl) d_M_take_100 (fun H locs hP hD hS => ?_)
              have hP : va_P (dC, dI) classes [(h1, .inr (1, [.int (nI 0), .int hh, .int (nI 0), .int fi, .int (fi ||| (a1 <<< ((nI 16) &&& 31))), .int (nI 2), .int wn]))] H := hP
              have hD : va_D A [(h1, .inr (1, [.int (nI 0), .int hh, .int (nI 0), .int fi, .int (fi ||| (a1 <<< ((nI 16) &&& 31))), .int (nI 2), .int wn]))] := hD
              refine lv_aload_n hx hb d_M_take_103 rfl (lv_at hl 0 rfl) ?_
              refine lv_dup hx hb d_M_take_104 rfl ?_
              refine va_get (D := (dC, dI)) (ci := 1) (v := .int wn) (C := R_M) (T := T_M) (N := 7) hx hb hts (fun w h => List.mem_cons_of_mem _ (i_M w h)) hown hK hP 0 rfl rfl 6 (by decide) (hts _ (List.mem_cons_of_mem _ k_296)) (fun _ h9 => h9) rfl d_M_take_105 ?_
              refine lv_iconst (v := nI 1) hx hb d_M_take_108 (by decide) ?_
              refine lv_iadd hx hb d_M_take_109 ?_
              refine va_put (D := (dC, dI)) (ci := 1) (v := .int (wn + (nI 1))) (ty := .int) (C := R_M) (T := T_M) (N := 7) hx hb hts (fun w h => List.mem_cons_of_mem _ (i_M w h)) ty_M ty_M_ok nm_M hown hK hP hD hS 0 rfl rfl 6 (by decide) (hts _ (List.mem_cons_of_mem _ k_296)) (fun _ h9 => h9) rfl (by decide +kernel) rfl rfl (Nat.le_of_ble_eq_true rfl) d_M_take_110 (fun H locs hP hD hS => ?_)
              have hP : va_P (dC, dI) classes [(h1, .inr (1, [.int (nI 0), .int hh, .int (nI 0), .int fi, .int (fi ||| (a1 <<< ((nI 16) &&& 31))), .int (nI 2), .int (wn + (nI 1))]))] H := hP
              have hD : va_D A [(h1, .inr (1, [.int (nI 0), .int hh, .int (nI 0), .int fi, .int (fi ||| (a1 <<< ((nI 16) &&& 31))), .int (nI 2), .int (wn + (nI 1))]))] := hD
              refine lv_iconst (v := nI 1) hx hb d_M_take_113 (by decide) ?_
              exact W.zret hx hb hr (by decide +kernel) (fun t ht hW => ⟨⟨_, ((nI 0), hh, (nI 0), fi, (fi ||| (a1 <<< ((nI 16) &&& 31))), (nI 2), (wn + (nI 1))), rfl, by rw [g_M_take, if_neg c1, if_pos c11, if_pos c12, if_neg c13, if_neg c14, if_pos c16], by rw [ht]; exact hP, va_K.moved hW.alike hK, hD⟩, hS.F ht⟩) hS.2.2 d_M_take_114
            · refine lv_iconst (v := nI 4) hx hb d_M_take_90 (by decide) ?_
              refine lv_goto (tgt := 95) hx hb d_M_take_91 (by decide) ?_
              refine va_put (D := (dC, dI)) (ci := 1) (v := .int (nI 4)) (ty := .int) (C := R_M) (T := T_M) (N := 7) hx hb hts (fun w h => List.mem_cons_of_mem _ (i_M w h)) ty_M ty_M_ok nm_M hown hK hP hD hS 0 rfl rfl 5 (by decide) (hts _ (List.mem_cons_of_mem _ k_295)) (fun _ h9 => h9) rfl (by decide +kernel) rfl rfl (Nat.le_of_ble_eq_true rfl) d_M_take_95 (fun H locs hP hD hS => ?_)
              have hP : va_P (dC, dI) classes [(h1, .inr (1, [.int (nI 0), .int hh, .int wt, .int fi, .int (fi ||| (a1 <<< ((nI 16) &&& 31))), .int (nI 4), .int wn]))] H := hP
              have hD : va_D A [(h1, .inr (1, [.int (nI 0), .int hh, .int wt, .int fi, .int (fi ||| (a1 <<< ((nI 16) &&& 31))), .int (nI 4), .int wn]))] := hD
              refine lv_aload_n hx hb d_M_take_98 rfl (lv_at hl 0 rfl) ?_
              refine lv_iconst (v := nI 0) hx hb d_M_take_99 (by decide) ?_
              refine va_put (D := (dC, dI)) (ci := 1) (v := .int (nI 0)) (ty := .boolean) (C := R_M) (T := T_M) (N := 7) hx hb hts (fun w h => List.mem_cons_of_mem _ (i_M w h)) ty_M ty_M_ok nm_M hown hK hP hD hS 0 rfl rfl 2 (by decide) (hts _ (List.mem_cons_of_mem _ k_292)) (fun _ h9 => h9) rfl (by decide +kernel) rfl rfl (Nat.le_of_ble_eq_true rfl) d_M_take_100 (fun H locs hP hD hS => ?_)
              have hP : va_P (dC, dI) classes [(h1, .inr (1, [.int (nI 0), .int hh, .int (nI 0), .int fi, .int (fi ||| (a1 <<< ((nI 16) &&& 31))), .int (nI 4), .int wn]))] H := hP
              have hD : va_D A [(h1, .inr (1, [.int (nI 0), .int hh, .int (nI 0), .int fi, .int (fi ||| (a1 <<< ((nI 16) &&& 31))), .int (nI 4), .int wn]))] := hD
              refine lv_aload_n hx hb d_M_take_103 rfl (lv_at hl 0 rfl) ?_
              refine lv_dup hx hb d_M_take_104 rfl ?_
              refine va_get (D := (dC, dI)) (ci := 1) (v := .int wn) (C := R_M) (T := T_M) (N := 7) hx hb hts (fun w h => List.mem_cons_of_mem _ (i_M w h)) hown hK hP 0 rfl rfl 6 (by decide) (hts _ (List.mem_cons_of_mem _ k_296)) (fun _ h9 => h9) rfl d_M_take_105 ?_
              refine lv_iconst (v := nI 1) hx hb d_M_take_108 (by decide) ?_
              refine lv_iadd hx hb d_M_take_109 ?_
              refine va_put (D := (dC, dI)) (ci := 1) (v := .int (wn + (nI 1))) (ty := .int) (C := R_M) (T := T_M) (N := 7) hx hb hts (fun w h => List.mem_cons_of_mem _ (i_M w h)) ty_M ty_M_ok nm_M hown hK hP hD hS 0 rfl rfl 6 (by decide) (hts _ (List.mem_cons_of_mem _ k_296)) (fun _ h9 => h9) rfl (by decide +kernel) rfl rfl (Nat.le_of_ble_eq_true rfl) d_M_take_110 (fun H locs hP hD hS => ?_)
              have hP : va_P (dC, dI) classes [(h1, .inr (1, [.int (nI 0), .int hh, .int (nI 0), .int fi, .int (fi ||| (a1 <<< ((nI 16) &&& 31))), .int (nI 4), .int (wn + (nI 1))]))] H := hP
              have hD : va_D A [(h1, .inr (1, [.int (nI 0), .int hh, .int (nI 0), .int fi, .int (fi ||| (a1 <<< ((nI 16) &&& 31))), .int (nI 4), .int (wn + (nI 1))]))] := hD
              refine lv_iconst (v := nI 1) hx hb d_M_take_113 (by decide) ?_
              exact W.zret hx hb hr (by decide +kernel) (fun t ht hW => ⟨⟨_, ((nI 0), hh, (nI 0), fi, (fi ||| (a1 <<< ((nI 16) &&& 31))), (nI 4), (wn + (nI 1))), rfl, by rw [g_M_take, if_neg c1, if_pos c11, if_pos c12, if_neg c13, if_neg c14, if_neg c16], by rw [ht]; exact hP, va_K.moved hW.alike hK, hD⟩, hS.F ht⟩) hS.2.2 d_M_take_114
        · refine lv_iload_n hx hb d_M_take_35 rfl (lv_at hl 1 rfl) ?_
          refine lv_iconst (v := nI 4) hx hb d_M_take_36 (by decide) ?_
          refine lv_irem hx hb d_M_take_37 (by decide) ?_
          refine lv_iconst (v := nI 3) hx hb d_M_take_38 (by decide) ?_
          refine lv_icmp_ne (tgt := 54) hx hb d_M_take_39 (by decide) (fun c17 => ?_) (fun c17 => ?_)
          · refine lv_aload_n hx hb d_M_take_54 rfl (lv_at hl 0 rfl) ?_
            refine lv_aload_n hx hb d_M_take_55 rfl (lv_at hl 0 rfl) ?_
            refine va_get (D := (dC, dI)) (ci := 1) (v := .int wt) (C := R_M) (T := T_M) (N := 7) hx hb hts (fun w h => List.mem_cons_of_mem _ (i_M w h)) hown hK hP 0 rfl rfl 2 (by decide) (hts _ (List.mem_cons_of_mem _ k_292)) (fun _ h9 => h9) rfl d_M_take_56 ?_
            refine lv_if_eq (tgt := 74) hx hb d_M_take_59 (by decide) (fun c18 => ?_) (fun c18 => ?_)
            · refine lv_aload_n hx hb d_M_take_74 rfl (lv_at hl 0 rfl) ?_
              refine lv_iload_n hx hb d_M_take_75 rfl (lv_at hl 1 rfl) ?_
              have hFc := va_free (wc := [(h1, .inr (1, [.int (nI 0), .int hh, .int wt, .int fi, .int wo, .int le, .int wn]))]) hD hS hA [0] rfl
              refine callQ (va_runV (b := h1) (As := [.int a1]) (rest := [.ref h1]) ⟨hx, hb, hml, hown, hts⟩ (c_M_wordOf l dC dI h1 H.size (nI 0) hh wt fi wo le wn a1) (cwV 1 hts (gV awx k_321 k_323 ks_2 k_2 k_324) rfl rfl rfl (by decide +kernel) ⟨Nat.le_of_ble_eq_true rfl, Nat.le_of_ble_eq_true rfl⟩) ⟨o_blind, va_recv hK hP (ci := 1) (q0 := 0) rfl rfl, fun U hU hW => ⟨rfl, by rw [hU], by rw [hU]; exact hP, va_K.moved hW.alike hK, hD.weaken (fun _ _ _ _ => trivial)⟩⟩ rfl rfl hl.1 rfl (lv_room (Nat.le_of_ble_eq_true rfl)) d_M_take_76 ⟨Nat.zero_le _, Nat.zero_le _⟩) hS (fun q _ h => hFc q h) hFc (fun t9 H1 locs ht hvm hB hz1 hk1 hS => ?_)
              obtain ⟨hP1, hK1, hD1⟩ := hB
              rw [ht] at hP1
              have hK1 := va_K.moved hvm.symm hK1
              obtain ⟨hP, hD⟩ := va_join (wr := []) (w1 := [(h1, .inr (1, [.int (nI 0), .int a1, .int wt, .int fi, .int wo, .int le, .int wn]))]) hP hD [0] [] rfl rfl (by decide) (by decide) hk1 hFc hP1 hD1
              generalize H1 = H at hP hS ⊢
              have hP : va_P (dC, dI) classes [(h1, .inr (1, [.int (nI 0), .int a1, .int wt, .int fi, .int wo, .int le, .int wn]))] H := hP
              have hD : va_D A [(h1, .inr (1, [.int (nI 0), .int a1, .int wt, .int fi, .int wo, .int le, .int wn]))] := hD
              refine va_put (D := (dC, dI)) (ci := 1) (v := .int (f_M_wordOf a1)) (ty := .int) (C := R_M) (T := T_M) (N := 7) hx hb hts (fun w h => List.mem_cons_of_mem _ (i_M w h)) ty_M ty_M_ok nm_M hown hK hP hD hS 0 rfl rfl 4 (by decide) (hts _ (List.mem_cons_of_mem _ k_294)) (fun _ h9 => h9) rfl (by decide +kernel) rfl rfl (Nat.le_of_ble_eq_true rfl) d_M_take_79 (fun H locs hP hD hS => ?_)
              have hP : va_P (dC, dI) classes [(h1, .inr (1, [.int (nI 0), .int a1, .int wt, .int fi, .int (f_M_wordOf a1), .int le, .int wn]))] H := hP
              have hD : va_D A [(h1, .inr (1, [.int (nI 0), .int a1, .int wt, .int fi, .int (f_M_wordOf a1), .int le, .int wn]))] := hD
              refine lv_aload_n hx hb d_M_take_82 rfl (lv_at hl 0 rfl) ?_
              refine lv_aload_n hx hb d_M_take_83 rfl (lv_at hl 0 rfl) ?_
              refine va_get (D := (dC, dI)) (ci := 1) (v := .int wt) (C := R_M) (T := T_M) (N := 7) hx hb hts (fun w h => List.mem_cons_of_mem _ (i_M w h)) hown hK hP 0 rfl rfl 2 (by decide) (hts _ (List.mem_cons_of_mem _ k_292)) (fun _ h9 => h9) rfl d_M_take_84 ?_
              refine lv_if_eq (tgt := 94) hx hb d_M_take_87 (by decide) (fun c19 => ?_) (fun c19 => ?_)
              · refine lv_iconst (v := nI 2) hx hb d_M_take_94 (by decide) ?_
                refine va_put (D := (dC, dI)) (ci := 1) (v := .int (nI 2)) (ty := .int) (C := R_M) (T := T_M) (N := 7) hx hb hts (fun w h => List.mem_cons_of_mem _ (i_M w h)) ty_M ty_M_ok nm_M hown hK hP hD hS 0 rfl rfl 5 (by decide) (hts _ (List.mem_cons_of_mem _ k_295)) (fun _ h9 => h9) rfl (by decide +kernel) rfl rfl (Nat.le_of_ble_eq_true rfl) d_M_take_95 (fun H locs hP hD hS => ?_)
                have hP : va_P (dC, dI) classes [(h1, .inr (1, [.int (nI 0), .int a1, .int wt, .int fi, .int (f_M_wordOf a1), .int (nI 2), .int wn]))] H := hP
                have hD : va_D A [(h1, .inr (1, [.int (nI 0), .int a1, .int wt, .int fi, .int (f_M_wordOf a1), .int (nI 2), .int wn]))] := hD
                refine lv_aload_n hx hb d_M_take_98 rfl (lv_at hl 0 rfl) ?_
                refine lv_iconst (v := nI 0) hx hb d_M_take_99 (by decide) ?_
                refine va_put (D := (dC, dI)) (ci := 1) (v := .int (nI 0)) (ty := .boolean) (C := R_M) (T := T_M) (N := 7) hx hb hts (fun w h => List.mem_cons_of_mem _ (i_M w h)) ty_M ty_M_ok nm_M hown hK hP hD hS 0 rfl rfl 2 (by decide) (hts _ (List.mem_cons_of_mem _ k_292)) (fun _ h9 => h9) rfl (by decide +kernel) rfl rfl (Nat.le_of_ble_eq_true rfl) d_M_take_100 (fun H locs hP hD hS => ?_)
                have hP : va_P (dC, dI) classes [(h1, .inr (1, [.int (nI 0), .int a1, .int (nI 0), .int fi, .int (f_M_wordOf a1), .int (nI 2), .int wn]))] H := hP
                have hD : va_D A [(h1, .inr (1, [.int (nI 0), .int a1, .int (nI 0), .int fi, .int (f_M_wordOf a1), .int (nI 2), .int wn]))] := hD
                refine lv_aload_n hx hb d_M_take_103 rfl (lv_at hl 0 rfl) ?_
                refine lv_dup hx hb d_M_take_104 rfl ?_
                refine va_get (D := (dC, dI)) (ci := 1) (v := .int wn) (C := R_M) (T := T_M) (N := 7) hx hb hts (fun w h => List.mem_cons_of_mem _ (i_M w h)) hown hK hP 0 rfl rfl 6 (by decide) (hts _ (List.mem_cons_of_mem _ k_296)) (fun _ h9 => h9) rfl d_M_take_105 ?_
                refine lv_iconst (v := nI 1) hx hb d_M_take_108 (by decide) ?_
                refine lv_iadd hx hb d_M_take_109 ?_
                refine va_put (D := (dC, dI)) (ci := 1) (v := .int (wn + (nI 1))) (ty := .int) (C := R_M) (T := T_M) (N := 7) hx hb hts (fun w h => List.mem_cons_of_mem _ (i_M w h)) ty_M ty_M_ok nm_M hown hK hP hD hS 0 rfl rfl 6 (by decide) (hts _ (List.mem_cons_of_mem _ k_296)) (fun _ h9 => h9) rfl (by decide +kernel) rfl rfl (Nat.le_of_ble_eq_true rfl) d_M_take_110 (fun H locs hP hD hS => ?_)
                have hP : va_P (dC, dI) classes [(h1, .inr (1, [.int (nI 0), .int a1, .int (nI 0), .int fi, .int (f_M_wordOf a1), .int (nI 2), .int (wn + (nI 1))]))] H := hP
                have hD : va_D A [(h1, .inr (1, [.int (nI 0), .int a1, .int (nI 0), .int fi, .int (f_M_wordOf a1), .int (nI 2), .int (wn + (nI 1))]))] := hD
                refine lv_iconst (v := nI 1) hx hb d_M_take_113 (by decide) ?_
                exact W.zret hx hb hr (by decide +kernel) (fun t ht hW => ⟨⟨_, ((nI 0), a1, (nI 0), fi, (f_M_wordOf a1), (nI 2), (wn + (nI 1))), rfl, by rw [g_M_take, if_neg c1, if_pos c11, if_pos c12, if_pos c13, if_neg c17, if_pos c18, if_pos c19], by rw [ht]; exact hP, va_K.moved hW.alike hK, hD⟩, hS.F ht⟩) hS.2.2 d_M_take_114
              · refine lv_iconst (v := nI 4) hx hb d_M_take_90 (by decide) ?_
                refine lv_goto (tgt := 95) hx hb d_M_take_91 (by decide) ?_
                refine va_put (D := (dC, dI)) (ci := 1) (v := .int (nI 4)) (ty := .int) (C := R_M) (T := T_M) (N := 7) hx hb hts (fun w h => List.mem_cons_of_mem _ (i_M w h)) ty_M ty_M_ok nm_M hown hK hP hD hS 0 rfl rfl 5 (by decide) (hts _ (List.mem_cons_of_mem _ k_295)) (fun _ h9 => h9) rfl (by decide +kernel) rfl rfl (Nat.le_of_ble_eq_true rfl) d_M_take_95 (fun H locs hP hD hS => ?_)
                have hP : va_P (dC, dI) classes [(h1, .inr (1, [.int (nI 0), .int a1, .int wt, .int fi, .int (f_M_wordOf a1), .int (nI 4), .int wn]))] H := hP
                have hD : va_D A [(h1, .inr (1, [.int (nI 0), .int a1, .int wt, .int fi, .int (f_M_wordOf a1), .int (nI 4), .int wn]))] := hD
                refine lv_aload_n hx hb d_M_take_98 rfl (lv_at hl 0 rfl) ?_
                refine lv_iconst (v := nI 0) hx hb d_M_take_99 (by decide) ?_
                refine va_put (D := (dC, dI)) (ci := 1) (v := .int (nI 0)) (ty := .boolean) (C := R_M) (T := T_M) (N := 7) hx hb hts (fun w h => List.mem_cons_of_mem _ (i_M w h)) ty_M ty_M_ok nm_M hown hK hP hD hS 0 rfl rfl 2 (by decide) (hts _ (List.mem_cons_of_mem _ k_292)) (fun _ h9 => h9) rfl (by decide +kernel) rfl rfl (Nat.le_of_ble_eq_true rfl) d_M_take_100 (fun H locs hP hD hS => ?_)
                have hP : va_P (dC, dI) classes [(h1, .inr (1, [.int (nI 0), .int a1, .int (nI 0), .int fi, .int (f_M_wordOf a1), .int (nI 4), .int wn]))] H := hP
                have hD : va_D A [(h1, .inr (1, [.int (nI 0), .int a1, .int (nI 0), .int fi, .int (f_M_wordOf a1), .int (nI 4), .int wn]))] := hD
                refine lv_aload_n hx hb d_M_take_103 rfl (lv_at hl 0 rfl) ?_
                refine lv_dup hx hb d_M_take_104 rfl ?_
                refine va_get (D := (dC, dI)) (ci := 1) (v := .int wn) (C := R_M) (T := T_M) (N := 7) hx hb hts (fun w h => List.mem_cons_of_mem _ (i_M w h)) hown hK hP 0 rfl rfl 6 (by decide) (hts _ (List.mem_cons_of_mem _ k_296)) (fun _ h9 => h9) rfl d_M_take_105 ?_
                refine lv_iconst (v := nI 1) hx hb d_M_take_108 (by decide) ?_
                refine lv_iadd hx hb d_M_take_109 ?_
                refine va_put (D := (dC, dI)) (ci := 1) (v := .int (wn + (nI 1))) (ty := .int) (C := R_M) (T := T_M) (N := 7) hx hb hts (fun w h => List.mem_cons_of_mem _ (i_M w h)) ty_M ty_M_ok nm_M hown hK hP hD hS 0 rfl rfl 6 (by decide) (hts _ (List.mem_cons_of_mem _ k_296)) (fun _ h9 => h9) rfl (by decide +kernel) rfl rfl (Nat.le_of_ble_eq_true rfl) d_M_take_110 (fun H locs hP hD hS => ?_)
                have hP : va_P (dC, dI) classes [(h1, .inr (1, [.int (nI 0), .int a1, .int (nI 0), .int fi, .int (f_M_wordOf a1), .int (nI 4), .int (wn + (nI 1))]))] H := hP
                have hD : va_D A [(h1, .inr (1, [.int (nI 0), .int a1, .int (nI 0), .int fi, .int (f_M_wordOf a1), .int (nI 4), .int (wn + (nI 1))]))] := hD
                refine lv_iconst (v := nI 1) hx hb d_M_take_113 (by decide) ?_
                exact W.zret hx hb hr (by decide +kernel) (fun t ht hW => ⟨⟨_, ((nI 0), a1, (nI 0), fi, (f_M_wordOf a1), (nI 4), (wn + (nI 1))), rfl, by rw [g_M_take, if_neg c1, if_pos c11, if_pos c12, if_pos c13, if_neg c17, if_pos c18, if_neg c19], by rw [ht]; exact hP, va_K.moved hW.alike hK, hD⟩, hS.F ht⟩) hS.2.2 d_M_take_114
            · refine lv_aload_n hx hb d_M_take_62 rfl (lv_at hl 0 rfl) ?_
              refine va_get (D := (dC, dI)) (ci := 1) (v := .int fi) (C := R_M) (T := T_M) (N := 7) hx hb hts (fun w h => List.mem_cons_of_mem _ (i_M w h)) hown hK hP 0 rfl rfl 3 (by decide) (hts _ (List.mem_cons_of_mem _ k_293)) (fun _ h9 => h9) rfl d_M_take_63 ?_
              refine lv_iload_n hx hb d_M_take_66 rfl (lv_at hl 1 rfl) ?_
              refine lv_bipush (v := nI 16) hx hb d_M_take_67 (by decide) ?_
              refine lv_ishl hx hb d_M_take_69 ?_
              refine lv_ior hx hb d_M_take_70 ?_
              refine lv_goto (tgt := 79) hx hb d_M_take_71 (by decide) ?_
              refine va_put (D := (dC, dI)) (ci := 1) (v := .int (fi ||| (a1 <<< ((nI 16) &&& 31)))) (ty := .int) (C := R_M) (T := T_M) (N := 7) hx hb hts (fun w h => List.mem_cons_of_mem _ (i_M w h)) ty_M ty_M_ok nm_M hown hK hP hD hS 0 rfl rfl 4 (by decide) (hts _ (List.mem_cons_of_mem _ k_294)) (fun _ h9 => h9) rfl (by decide +kernel) rfl rfl (Nat.le_of_ble_eq_true rfl) d_M_take_79 (fun H locs hP hD hS => ?_)
              have hP : va_P (dC, dI) classes [(h1, .inr (1, [.int (nI 0), .int hh, .int wt, .int fi, .int (fi ||| (a1 <<< ((nI 16) &&& 31))), .int le, .int wn]))] H := hP
              have hD : va_D A [(h1, .inr (1, [.int (nI 0), .int hh, .int wt, .int fi, .int (fi ||| (a1 <<< ((nI 16) &&& 31))), .int le, .int wn]))] := hD
              refine lv_aload_n hx hb d_M_take_82 rfl (lv_at hl 0 rfl) ?_
              refine lv_aload_n hx hb d_M_take_83 rfl (lv_at hl 0 rfl) ?_
              refine va_get (D := (dC, dI)) (ci := 1) (v := .int wt) (C := R_M) (T := T_M) (N := 7) hx hb hts (fun w h => List.mem_cons_of_mem _ (i_M w h)) hown hK hP 0 rfl rfl 2 (by decide) (hts _ (List.mem_cons_of_mem _ k_292)) (fun _ h9 => h9) rfl d_M_take_84 ?_
              refine lv_if_eq (tgt := 94) hx hb d_M_take_87 (by decide) (fun c20 => ?_) (fun c20 => ?_)
              · refine lv_iconst (v := nI 2) hx hb d_M_take_94 (by decide) ?_
                refine va_put (D := (dC, dI)) (ci := 1) (v := .int (nI 2)) (ty := .int) (C := R_M) (T := T_M) (N := 7) hx hb hts (fun w h => List.mem_cons_of_mem _ (i_M w h)) ty_M ty_M_ok nm_M hown hK hP hD hS 0 rfl rfl 5 (by decide) (hts _ (List.mem_cons_of_mem _ k_295)) (fun _ h9 => h9) rfl (by decide +kernel) rfl rfl (Nat.le_of_ble_eq_true rfl) d_M_take_95 (fun H locs hP hD hS => ?_)
                have hP : va_P (dC, dI) classes [(h1, .inr (1, [.int (nI 0), .int hh, .int wt, .int fi, .int (fi ||| (a1 <<< ((nI 16) &&& 31))), .int (nI 2), .int wn]))] H := hP
                have hD : va_D A [(h1, .inr (1, [.int (nI 0), .int hh, .int wt, .int fi, .int (fi ||| (a1 <<< ((nI 16) &&& 31))), .int (nI 2), .int wn]))] := hD
                refine lv_aload_n hx hb d_M_take_98 rfl (lv_at hl 0 rfl) ?_
                refine lv_iconst (v := nI 0) hx hb d_M_take_99 (by decide) ?_
                refine va_put (D := (dC, dI)) (ci := 1) (v := .int (nI 0)) (ty := .boolean) (C := R_M) (T := T_M) (N := 7) hx hb hts (fun w h => List.mem_cons_of_mem _ (i_M w h)) ty_M ty_M_ok nm_M hown hK hP hD hS 0 rfl rfl 2 (by decide) (hts _ (List.mem_cons_of_mem _ k_292)) (fun _ h9 => h9) rfl (by decide +kernel) rfl rfl (Nat.le_of_ble_eq_true rfl) d_M_take_100 (fun H locs hP hD hS => ?_)
                have hP : va_P (dC, dI) classes [(h1, .inr (1, [.int (nI 0), .int hh, .int (nI 0), .int fi, .int (fi ||| (a1 <<< ((nI 16) &&& 31))), .int (nI 2), .int wn]))] H := hP
                have hD : va_D A [(h1, .inr (1, [.int (nI 0), .int hh, .int (nI 0), .int fi, .int (fi ||| (a1 <<< ((nI 16) &&& 31))), .int (nI 2), .int wn]))] := hD
                refine lv_aload_n hx hb d_M_take_103 rfl (lv_at hl 0 rfl) ?_
                refine lv_dup hx hb d_M_take_104 rfl ?_
                refine va_get (D := (dC, dI)) (ci := 1) (v := .int wn) (C := R_M) (T := T_M) (N := 7) hx hb hts (fun w h => List.mem_cons_of_mem _ (i_M w h)) hown hK hP 0 rfl rfl 6 (by decide) (hts _ (List.mem_cons_of_mem _ k_296)) (fun _ h9 => h9) rfl d_M_take_105 ?_
                refine lv_iconst (v := nI 1) hx hb d_M_take_108 (by decide) ?_
                refine lv_iadd hx hb d_M_take_109 ?_
                refine va_put (D := (dC, dI)) (ci := 1) (v := .int (wn + (nI 1))) (ty := .int) (C := R_M) (T := T_M) (N := 7) hx hb hts (fun w h => List.mem_cons_of_mem _ (i_M w h)) ty_M ty_M_ok nm_M hown hK hP hD hS 0 rfl rfl 6 (by decide) (hts _ (List.mem_cons_of_mem _ k_296)) (fun _ h9 => h9) rfl (by decide +kernel) rfl rfl (Nat.le_of_ble_eq_true rfl) d_M_take_110 (fun H locs hP hD hS => ?_)
                have hP : va_P (dC, dI) classes [(h1, .inr (1, [.int (nI 0), .int hh, .int (nI 0), .int fi, .int (fi ||| (a1 <<< ((nI 16) &&& 31))), .int (nI 2), .int (wn + (nI 1))]))] H := hP
                have hD : va_D A [(h1, .inr (1, [.int (nI 0), .int hh, .int (nI 0), .int fi, .int (fi ||| (a1 <<< ((nI 16) &&& 31))), .int (nI 2), .int (wn + (nI 1))]))] := hD
                refine lv_iconst (v := nI 1) hx hb d_M_take_113 (by decide) ?_
                exact W.zret hx hb hr (by decide +kernel) (fun t ht hW => ⟨⟨_, ((nI 0), hh, (nI 0), fi, (fi ||| (a1 <<< ((nI 16) &&& 31))), (nI 2), (wn + (nI 1))), rfl, by rw [g_M_take, if_neg c1, if_pos c11, if_pos c12, if_pos c13, if_neg c17, if_neg c18, if_pos c20], by rw [ht]; exact hP, va_K.moved hW.alike hK, hD⟩, hS.F ht⟩) hS.2.2 d_M_take_114
              · refine lv_iconst (v := nI 4) hx hb d_M_take_90 (by decide) ?_
                refine lv_goto (tgt := 95) hx hb d_M_take_91 (by decide) ?_
                refine va_put (D := (dC, dI)) (ci := 1) (v := .int (nI 4)) (ty := .int) (C := R_M) (T := T_M) (N := 7) hx hb hts (fun w h => List.mem_cons_of_mem _ (i_M w h)) ty_M ty_M_ok nm_M hown hK hP hD hS 0 rfl rfl 5 (by decide) (hts _ (List.mem_cons_of_mem _ k_295)) (fun _ h9 => h9) rfl (by decide +kernel) rfl rfl (Nat.le_of_ble_eq_true rfl) d_M_take_95 (fun H locs hP hD hS => ?_)
                have hP : va_P (dC, dI) classes [(h1, .inr (1, [.int (nI 0), .int hh, .int wt, .int fi, .int (fi ||| (a1 <<< ((nI 16) &&& 31))), .int (nI 4), .int wn]))] H := hP
                have hD : va_D A [(h1, .inr (1, [.int (nI 0), .int hh, .int wt, .int fi, .int (fi ||| (a1 <<< ((nI 16) &&& 31))), .int (nI 4), .int wn]))] := hD
                refine lv_aload_n hx hb d_M_take_98 rfl (lv_at hl 0 rfl) ?_
                refine lv_iconst (v := nI 0) hx hb d_M_take_99 (by decide) ?_
                refine va_put (D := (dC, dI)) (ci := 1) (v := .int (nI 0)) (ty := .boolean) (C := R_M) (T := T_M) (N := 7) hx hb hts (fun w h => List.mem_cons_of_mem _ (i_M w h)) ty_M ty_M_ok nm_M hown hK hP hD hS 0 rfl rfl 2 (by decide) (hts _ (List.mem_cons_of_mem _ k_292)) (fun _ h9 => h9) rfl (by decide +kernel) rfl rfl (Nat.le_of_ble_eq_true rfl) d_M_take_100 (fun H locs hP hD hS => ?_)
                have hP : va_P (dC, dI) classes [(h1, .inr (1, [.int (nI 0), .int hh, .int (nI 0), .int fi, .int (fi ||| (a1 <<< ((nI 16) &&& 31))), .int (nI 4), .int wn]))] H := hP
                have hD : va_D A [(h1, .inr (1, [.int (nI 0), .int hh, .int (nI 0), .int fi, .int (fi ||| (a1 <<< ((nI 16) &&& 31))), .int (nI 4), .int wn]))] := hD
                refine lv_aload_n hx hb d_M_take_103 rfl (lv_at hl 0 rfl) ?_
                refine lv_dup hx hb d_M_take_104 rfl ?_
                refine va_get (D := (dC, dI)) (ci := 1) (v := .int wn) (C := R_M) (T := T_M) (N := 7) hx hb hts (fun w h => List.mem_cons_of_mem _ (i_M w h)) hown hK hP 0 rfl rfl 6 (by decide) (hts _ (List.mem_cons_of_mem _ k_296)) (fun _ h9 => h9) rfl d_M_take_105 ?_
                refine lv_iconst (v := nI 1) hx hb d_M_take_108 (by decide) ?_
                refine lv_iadd hx hb d_M_take_109 ?_
                refine va_put (D := (dC, dI)) (ci := 1) (v := .int (wn + (nI 1))) (ty := .int) (C := R_M) (T := T_M) (N := 7) hx hb hts (fun w h => List.mem_cons_of_mem _ (i_M w h)) ty_M ty_M_ok nm_M hown hK hP hD hS 0 rfl rfl 6 (by decide) (hts _ (List.mem_cons_of_mem _ k_296)) (fun _ h9 => h9) rfl (by decide +kernel) rfl rfl (Nat.le_of_ble_eq_true rfl) d_M_take_110 (fun H locs hP hD hS => ?_)
                have hP : va_P (dC, dI) classes [(h1, .inr (1, [.int (nI 0), .int hh, .int (nI 0), .int fi, .int (fi ||| (a1 <<< ((nI 16) &&& 31))), .int (nI 4), .int (wn + (nI 1))]))] H := hP
                have hD : va_D A [(h1, .inr (1, [.int (nI 0), .int hh, .int (nI 0), .int fi, .int (fi ||| (a1 <<< ((nI 16) &&& 31))), .int (nI 4), .int (wn + (nI 1))]))] := hD
                refine lv_iconst (v := nI 1) hx hb d_M_take_113 (by decide) ?_
                exact W.zret hx hb hr (by decide +kernel) (fun t ht hW => ⟨⟨_, ((nI 0), hh, (nI 0), fi, (fi ||| (a1 <<< ((nI 16) &&& 31))), (nI 4), (wn + (nI 1))), rfl, by rw [g_M_take, if_neg c1, if_pos c11, if_pos c12, if_pos c13, if_neg c17, if_neg c18, if_neg c20], by rw [ht]; exact hP, va_K.moved hW.alike hK, hD⟩, hS.F ht⟩) hS.2.2 d_M_take_114
          · refine lv_aload_n hx hb d_M_take_42 rfl (lv_at hl 0 rfl) ?_
            refine lv_iconst (v := nI 1) hx hb d_M_take_43 (by decide) ?_
            refine va_put (D := (dC, dI)) (ci := 1) (v := .int (nI 1)) (ty := .boolean) (C := R_M) (T := T_M) (N := 7) hx hb hts (fun w h => List.mem_cons_of_mem _ (i_M w h)) ty_M ty_M_ok nm_M hown hK hP hD hS 0 rfl rfl 2 (by decide) (hts _ (List.mem_cons_of_mem _ k_292)) (fun _ h9 => h9) rfl (by decide +kernel) rfl rfl (Nat.le_of_ble_eq_true rfl) d_M_take_44 (fun H locs hP hD hS => ?_)
            have hP : va_P (dC, dI) classes [(h1, .inr (1, [.int (nI 0), .int hh, .int (nI 1), .int fi, .int wo, .int le, .int wn]))] H := hP
            have hD : va_D A [(h1, .inr (1, [.int (nI 0), .int hh, .int (nI 1), .int fi, .int wo, .int le, .int wn]))] := hD
            refine lv_aload_n hx hb d_M_take_47 rfl (lv_at hl 0 rfl) ?_
            refine lv_iload_n hx hb d_M_take_48 rfl (lv_at hl 1 rfl) ?_
            refine va_put (D := (dC, dI)) (ci := 1) (v := .int a1) (ty := .int) (C := R_M) (T := T_M) (N := 7) hx hb hts (fun w h => List.mem_cons_of_mem _ (i_M w h)) ty_M ty_M_ok nm_M hown hK hP hD hS 0 rfl rfl 3 (by decide) (hts _ (List.mem_cons_of_mem _ k_293)) (fun _ h9 => h9) rfl (by decide +kernel) rfl rfl (Nat.le_of_ble_eq_true rfl) d_M_take_49 (fun H locs hP hD hS => ?_)
            have hP : va_P (dC, dI) classes [(h1, .inr (1, [.int (nI 0), .int hh, .int (nI 1), .int a1, .int wo, .int le, .int wn]))] H := hP
            have hD : va_D A [(h1, .inr (1, [.int (nI 0), .int hh, .int (nI 1), .int a1, .int wo, .int le, .int wn]))] := hD
            refine lv_iconst (v := nI 0) hx hb d_M_take_52 (by decide) ?_
            exact W.zret hx hb hr (by decide +kernel) (fun t ht hW => ⟨⟨_, ((nI 0), hh, (nI 1), a1, wo, le, wn), rfl, by rw [g_M_take, if_neg c1, if_pos c11, if_pos c12, if_pos c13, if_pos c17], by rw [ht]; exact hP, va_K.moved hW.alike hK, hD⟩, hS.F ht⟩) hS.2.2 d_M_take_53
      · refine lv_iconst (v := nI 0) hx hb d_M_take_26 (by decide) ?_
        exact W.zret hx hb hr (by decide +kernel) (fun t ht hW => ⟨⟨_, ((nI 0), hh, wt, fi, wo, le, wn), rfl, by rw [g_M_take, if_neg c1, if_pos c11, if_neg c12], by rw [ht]; exact hP, va_K.moved hW.alike hK, hD⟩, hS.F ht⟩) hS.2.2 d_M_take_27
    · refine lv_iconst (v := nI 1) hx hb d_M_take_11 (by decide) ?_
      refine lv_goto (tgt := 16) hx hb d_M_take_12 (by decide) ?_
      refine va_put (D := (dC, dI)) (ci := 1) (v := .int (nI 1)) (ty := .int) (C := R_M) (T := T_M) (N := 7) hx hb hts (fun w h => List.mem_cons_of_mem _ (i_M w h)) ty_M ty_M_ok nm_M hown hK hP hD hS 0 rfl rfl 0 (by decide) (hts _ (List.mem_cons_of_mem _ k_290)) (fun _ h9 => h9) rfl (by decide +kernel) rfl rfl (Nat.le_of_ble_eq_true rfl) d_M_take_16 (fun H locs hP hD hS => ?_)
      have hP : va_P (dC, dI) classes [(h1, .inr (1, [.int (nI 1), .int hh, .int wt, .int fi, .int wo, .int le, .int wn]))] H := hP
      have hD : va_D A [(h1, .inr (1, [.int (nI 1), .int hh, .int wt, .int fi, .int wo, .int le, .int wn]))] := hD
      refine lv_aload_n hx hb d_M_take_19 rfl (lv_at hl 0 rfl) ?_
      refine va_get (D := (dC, dI)) (ci := 1) (v := .int (nI 1)) (C := R_M) (T := T_M) (N := 7) hx hb hts (fun w h => List.mem_cons_of_mem _ (i_M w h)) hown hK hP 0 rfl rfl 0 (by decide) (hts _ (List.mem_cons_of_mem _ k_290)) (fun _ h9 => h9) rfl d_M_take_20 ?_
      refine lv_if_le (tgt := 28) hx hb d_M_take_23 (by decide) (fun c21 => ?_) (fun c21 => ?_)
      · refine lv_aload_n hx hb d_M_take_28 rfl (lv_at hl 0 rfl) ?_
        refine va_get (D := (dC, dI)) (ci := 1) (v := .int wt) (C := R_M) (T := T_M) (N := 7) hx hb hts (fun w h => List.mem_cons_of_mem _ (i_M w h)) hown hK hP 0 rfl rfl 2 (by decide) (hts _ (List.mem_cons_of_mem _ k_292)) (fun _ h9 => h9) rfl d_M_take_29 ?_
        refine lv_if_ne (tgt := 54) hx hb d_M_take_32 (by decide) (fun c22 => ?_) (fun c22 => ?_)
        · refine lv_aload_n hx hb d_M_take_54 rfl (lv_at hl 0 rfl) ?_
          refine lv_aload_n hx hb d_M_take_55 rfl (lv_at hl 0 rfl) ?_
          refine va_get (D := (dC, dI)) (ci := 1) (v := .int wt) (C := R_M) (T := T_M) (N := 7) hx hb hts (fun w h => List.mem_cons_of_mem _ (i_M w h)) hown hK hP 0 rfl rfl 2 (by decide) (hts _ (List.mem_cons_of_mem _ k_292)) (fun _ h9 => h9) rfl d_M_take_56 ?_
          refine lv_if_eq (tgt := 74) hx hb d_M_take_59 (by decide) (fun c23 => ?_) (fun c23 => ?_)
          · refine lv_aload_n hx hb d_M_take_74 rfl (lv_at hl 0 rfl) ?_
            refine lv_iload_n hx hb d_M_take_75 rfl (lv_at hl 1 rfl) ?_
            have hFc := va_free (wc := [(h1, .inr (1, [.int (nI 1), .int hh, .int wt, .int fi, .int wo, .int le, .int wn]))]) hD hS hA [0] rfl
            refine callQ (va_runV (b := h1) (As := [.int a1]) (rest := [.ref h1]) ⟨hx, hb, hml, hown, hts⟩ (c_M_wordOf l dC dI h1 H.size (nI 1) hh wt fi wo le wn a1) (cwV 1 hts (gV awx k_321 k_323 ks_2 k_2 k_324) rfl rfl rfl (by decide +kernel) ⟨Nat.le_of_ble_eq_true rfl, Nat.le_of_ble_eq_true rfl⟩) ⟨o_blind, va_recv hK hP (ci := 1) (q0 := 0) rfl rfl, fun U hU hW => ⟨rfl, by rw [hU], by rw [hU]; exact hP, va_K.moved hW.alike hK, hD.weaken (fun _ _ _ _ => trivial)⟩⟩ rfl rfl hl.1 rfl (lv_room (Nat.le_of_ble_eq_true rfl)) d_M_take_76 ⟨Nat.zero_le _, Nat.zero_le _⟩) hS (fun q _ h => hFc q h) hFc (fun t9 H1 locs ht hvm hB hz1 hk1 hS => ?_)
            obtain ⟨hP1, hK1, hD1⟩ := hB
            rw [ht] at hP1
            have hK1 := va_K.moved hvm.symm hK1
            obtain ⟨hP, hD⟩ := va_join (wr := []) (w1 := [(h1, .inr (1, [.int (nI 1), .int a1, .int wt, .int fi, .int wo, .int le, .int wn]))]) hP hD [0] [] rfl rfl (by decide) (by decide) hk1 hFc hP1 hD1
            generalize H1 = H at hP hS ⊢
            have hP : va_P (dC, dI) classes [(h1, .inr (1, [.int (nI 1), .int a1, .int wt, .int fi, .int wo, .int le, .int wn]))] H := hP
            have hD : va_D A [(h1, .inr (1, [.int (nI 1), .int a1, .int wt, .int fi, .int wo, .int le, .int wn]))] := hD
            refine va_put (D := (dC, dI)) (ci := 1) (v := .int (f_M_wordOf a1)) (ty := .int) (C := R_M) (T := T_M) (N := 7) hx hb hts (fun w h => List.mem_cons_of_mem _ (i_M w h)) ty_M ty_M_ok nm_M hown hK hP hD hS 0 rfl rfl 4 (by decide) (hts _ (List.mem_cons_of_mem _ k_294)) (fun _ h9 => h9) rfl (by decide +kernel) rfl rfl (Nat.le_of_ble_eq_true rfl) d_M_take_79 (fun H locs hP hD hS => ?_)
            have hP : va_P (dC, dI) classes [(h1, .inr (1, [.int (nI 1), .int a1, .int wt, .int fi, .int (f_M_wordOf a1), .int le, .int wn]))] H := hP
            have hD : va_D A [(h1, .inr (1, [.int (nI 1), .int a1, .int wt, .int fi, .int (f_M_wordOf a1), .int le, .int wn]))] := hD
            refine lv_aload_n hx hb d_M_take_82 rfl (lv_at hl 0 rfl) ?_
            refine lv_aload_n hx hb d_M_take_83 rfl (lv_at hl 0 rfl) ?_
            refine va_get (D := (dC, dI)) (ci := 1) (v := .int wt) (C := R_M) (T := T_M) (N := 7) hx hb hts (fun w h => List.mem_cons_of_mem _ (i_M w h)) hown hK hP 0 rfl rfl 2 (by decide) (hts _ (List.mem_cons_of_mem _ k_292)) (fun _ h9 => h9) rfl d_M_take_84 ?_
            refine lv_if_eq (tgt := 94) hx hb d_M_take_87 (by decide) (fun c24 => ?_) (fun c24 => ?_)
            · refine lv_iconst (v := nI 2) hx hb d_M_take_94 (by decide) ?_
              refine va_put (D := (dC, dI)) (ci := 1) (v := .int (nI 2)) (ty := .int) (C := R_M) (T := T_M) (N := 7) hx hb hts (fun w h => List.mem_cons_of_mem _ (i_M w h)) ty_M ty_M_ok nm_M hown hK hP hD hS 0 rfl rfl 5 (by decide) (hts _ (List.mem_cons_of_mem _ k_295)) (fun _ h9 => h9) rfl (by decide +kernel) rfl rfl (Nat.le_of_ble_eq_true rfl) d_M_take_95 (fun H locs hP hD hS => ?_)
              have hP : va_P (dC, dI) classes [(h1, .inr (1, [.int (nI 1), .int a1, .int wt, .int fi, .int (f_M_wordOf a1), .int (nI 2), .int wn]))] H := hP
              have hD : va_D A [(h1, .inr (1, [.int (nI 1), .int a1, .int wt, .int fi, .int (f_M_wordOf a1), .int (nI 2), .int wn]))] := hD
              refine lv_aload_n hx hb d_M_take_98 rfl (lv_at hl 0 rfl) ?_
              refine lv_iconst (v := nI 0) hx hb d_M_take_99 (by decide) ?_
              refine va_put (D := (dC, dI)) (ci := 1) (v := .int (nI 0)) (ty := .boolean) (C := R_M) (T := T_M) (N := 7) hx hb hts (fun w h => List.mem_cons_of_mem _ (i_M w h)) ty_M ty_M_ok nm_M hown hK hP hD hS 0 rfl rfl 2 (by decide) (hts _ (List.mem_cons_of_mem _ k_292)) (fun _ h9 => h9) rfl (by decide +kernel) rfl rfl (Nat.le_of_ble_eq_true rfl) d_M_take_100 (fun H locs hP hD hS => ?_)
              have hP : va_P (dC, dI) classes [(h1, .inr (1, [.int (nI 1), .int a1, .int (nI 0), .int fi, .int (f_M_wordOf a1), .int (nI 2), .int wn]))] H := hP
              have hD : va_D A [(h1, .inr (1, [.int (nI 1), .int a1, .int (nI 0), .int fi, .int (f_M_wordOf a1), .int (nI 2), .int wn]))] := hD
              refine lv_aload_n hx hb d_M_take_103 rfl (lv_at hl 0 rfl) ?_
              refine lv_dup hx hb d_M_take_104 rfl ?_
              refine va_get (D := (dC, dI)) (ci := 1) (v := .int wn) (C := R_M) (T := T_M) (N := 7) hx hb hts (fun w h => List.mem_cons_of_mem _ (i_M w h)) hown hK hP 0 rfl rfl 6 (by decide) (hts _ (List.mem_cons_of_mem _ k_296)) (fun _ h9 => h9) rfl d_M_take_105 ?_
              refine lv_iconst (v := nI 1) hx hb d_M_take_108 (by decide) ?_
              refine lv_iadd hx hb d_M_take_109 ?_
              refine va_put (D := (dC, dI)) (ci := 1) (v := .int (wn + (nI 1))) (ty := .int) (C := R_M) (T := T_M) (N := 7) hx hb hts (fun w h => List.mem_cons_of_mem _ (i_M w h)) ty_M ty_M_ok nm_M hown hK hP hD hS 0 rfl rfl 6 (by decide) (hts _ (List.mem_cons_of_mem _ k_296)) (fun _ h9 => h9) rfl (by decide +kernel) rfl rfl (Nat.le_of_ble_eq_true rfl) d_M_take_110 (fun H locs hP hD hS => ?_)
              have hP : va_P (dC, dI) classes [(h1, .inr (1, [.int (nI 1), .int a1, .int (nI 0), .int fi, .int (f_M_wordOf a1), .int (nI 2), .int (wn + (nI 1))]))] H := hP
              have hD : va_D A [(h1, .inr (1, [.int (nI 1), .int a1, .int (nI 0), .int fi, .int (f_M_wordOf a1), .int (nI 2), .int (wn + (nI 1))]))] := hD
              refine lv_iconst (v := nI 1) hx hb d_M_take_113 (by decide) ?_
              exact W.zret hx hb hr (by decide +kernel) (fun t ht hW => ⟨⟨_, ((nI 1), a1, (nI 0), fi, (f_M_wordOf a1), (nI 2), (wn + (nI 1))), rfl, by rw [g_M_take, if_neg c1, if_neg c11, if_pos c21, if_neg c22, if_pos c23, if_pos c24], by rw [ht]; exact hP, va_K.moved hW.alike hK, hD⟩, hS.F ht⟩) hS.2.2 d_M_take_114
            · refine lv_iconst (v := nI 4) hx hb d_M_take_90 (by decide) ?_
              refine lv_goto (tgt := 95) hx hb d_M_take_91 (by decide) ?_
              refine va_put (D := (dC, dI)) (ci := 1) (v := .int (nI 4)) (ty := .int) (C := R_M) (T := T_M) (N := 7) hx hb hts (fun w h => List.mem_cons_of_mem _ (i_M w h)) ty_M ty_M_ok nm_M hown hK hP hD hS 0 rfl rfl 5 (by decide) (hts _ (List.mem_cons_of_mem _ k_295)) (fun _ h9 => h9) rfl (by decide +kernel) rfl rfl (Nat.le_of_ble_eq_true rfl) d_M_take_95 (fun H locs hP hD hS => ?_)
              have hP : va_P (dC, dI) classes [(h1, .inr (1, [.int (nI 1), .int a1, .int wt, .int fi, .int (f_M_wordOf a1), .int (nI 4), .int wn]))] H := hP
              have hD : va_D A [(h1, .inr (1, [.int (nI 1), .int a1, .int wt, .int fi, .int (f_M_wordOf a1), .int (nI 4), .int wn]))] := hD
              refine lv_aload_n hx hb d_M_take_98 rfl (lv_at hl 0 rfl) ?_
              refine lv_iconst (v := nI 0) hx hb d_M_take_99 (by decide) ?_
              refine va_put (D := (dC, dI)) (ci := 1) (v := .int (nI 0)) (ty := .boolean) (C := R_M) (T := T_M) (N := 7) hx hb hts (fun w h => List.mem_cons_of_mem _ (i_M w h)) ty_M ty_M_ok nm_M hown hK hP hD hS 0 rfl rfl 2 (by decide) (hts _ (List.mem_cons_of_mem _ k_292)) (fun _ h9 => h9) rfl (by decide +kernel) rfl rfl (Nat.le_of_ble_eq_true rfl) d_M_take_100 (fun H locs hP hD hS => ?_)
              have hP : va_P (dC, dI) classes [(h1, .inr (1, [.int (nI 1), .int a1, .int (nI 0), .int fi, .int (f_M_wordOf a1), .int (nI 4), .int wn]))] H := hP
              have hD : va_D A [(h1, .inr (1, [.int (nI 1), .int a1, .int (nI 0), .int fi, .int (f_M_wordOf a1), .int (nI 4), .int wn]))] := hD
              refine lv_aload_n hx hb d_M_take_103 rfl (lv_at hl 0 rfl) ?_
              refine lv_dup hx hb d_M_take_104 rfl ?_
              refine va_get (D := (dC, dI)) (ci := 1) (v := .int wn) (C := R_M) (T := T_M) (N := 7) hx hb hts (fun w h => List.mem_cons_of_mem _ (i_M w h)) hown hK hP 0 rfl rfl 6 (by decide) (hts _ (List.mem_cons_of_mem _ k_296)) (fun _ h9 => h9) rfl d_M_take_105 ?_
              refine lv_iconst (v := nI 1) hx hb d_M_take_108 (by decide) ?_
              refine lv_iadd hx hb d_M_take_109 ?_
              refine va_put (D := (dC, dI)) (ci := 1) (v := .int (wn + (nI 1))) (ty := .int) (C := R_M) (T := T_M) (N := 7) hx hb hts (fun w h => List.mem_cons_of_mem _ (i_M w h)) ty_M ty_M_ok nm_M hown hK hP hD hS 0 rfl rfl 6 (by decide) (hts _ (List.mem_cons_of_mem _ k_296)) (fun _ h9 => h9) rfl (by decide +kernel) rfl rfl (Nat.le_of_ble_eq_true rfl) d_M_take_110 (fun H locs hP hD hS => ?_)
              have hP : va_P (dC, dI) classes [(h1, .inr (1, [.int (nI 1), .int a1, .int (nI 0), .int fi, .int (f_M_wordOf a1), .int (nI 4), .int (wn + (nI 1))]))] H := hP
              have hD : va_D A [(h1, .inr (1, [.int (nI 1), .int a1, .int (nI 0), .int fi, .int (f_M_wordOf a1), .int (nI 4), .int (wn + (nI 1))]))] := hD
              refine lv_iconst (v := nI 1) hx hb d_M_take_113 (by decide) ?_
              exact W.zret hx hb hr (by decide +kernel) (fun t ht hW => ⟨⟨_, ((nI 1), a1, (nI 0), fi, (f_M_wordOf a1), (nI 4), (wn + (nI 1))), rfl, by rw [g_M_take, if_neg c1, if_neg c11, if_pos c21, if_neg c22, if_pos c23, if_neg c24], by rw [ht]; exact hP, va_K.moved hW.alike hK, hD⟩, hS.F ht⟩) hS.2.2 d_M_take_114
          · refine lv_aload_n hx hb d_M_take_62 rfl (lv_at hl 0 rfl) ?_
            refine va_get (D := (dC, dI)) (ci := 1) (v := .int fi) (C := R_M) (T := T_M) (N := 7) hx hb hts (fun w h => List.mem_cons_of_mem _ (i_M w h)) hown hK hP 0 rfl rfl 3 (by decide) (hts _ (List.mem_cons_of_mem _ k_293)) (fun _ h9 => h9) rfl d_M_take_63 ?_
            refine lv_iload_n hx hb d_M_take_66 rfl (lv_at hl 1 rfl) ?_
            refine lv_bipush (v := nI 16) hx hb d_M_take_67 (by decide) ?_
            refine lv_ishl hx hb d_M_take_69 ?_
            refine lv_ior hx hb d_M_take_70 ?_
            refine lv_goto (tgt := 79) hx hb d_M_take_71 (by decide) ?_
            refine va_put (D := (dC, dI)) (ci := 1) (v := .int (fi ||| (a1 <<< ((nI 16) &&& 31)))) (ty := .int) (C := R_M) (T := T_M) (N := 7) hx hb hts (fun w h => List.mem_cons_of_mem _ (i_M w h)) ty_M ty_M_ok nm_M hown hK hP hD hS 0 rfl rfl 4 (by decide) (hts _ (List.mem_cons_of_mem _ k_294)) (fun _ h9 => h9) rfl (by decide +kernel) rfl rfl (Nat.le_of_ble_eq_true rfl) d_M_take_79 (fun H locs hP hD hS => ?_)
            have hP : va_P (dC, dI) classes [(h1, .inr (1, [.int (nI 1), .int hh, .int wt, .int fi, .int (fi ||| (a1 <<< ((nI 16) &&& 31))), .int le, .int wn]))] H := hP
            have hD : va_D A [(h1, .inr (1, [.int (nI 1), .int hh, .int wt, .int fi, .int (fi ||| (a1 <<< ((nI 16) &&& 31))), .int le, .int wn]))] := hD
            refine lv_aload_n hx hb d_M_take_82 rfl (lv_at hl 0 rfl) ?_
            refine lv_aload_n hx hb d_M_take_83 rfl (lv_at hl 0 rfl) ?_
            refine va_get (D := (dC, dI)) (ci := 1) (v := .int wt) (C := R_M) (T := T_M) (N := 7) hx hb hts (fun w h => List.mem_cons_of_mem _ (i_M w h)) hown hK hP 0 rfl rfl 2 (by decide) (hts _ (List.mem_cons_of_mem _ k_292)) (fun _ h9 => h9) rfl d_M_take_84 ?_
            refine lv_if_eq (tgt := 94) hx hb d_M_take_87 (by decide) (fun c25 => ?_) (fun c25 => ?_)
            · refine lv_iconst (v := nI 2) hx hb d_M_take_94 (by decide) ?_
              refine va_put (D := (dC, dI)) (ci := 1) (v := .int (nI 2)) (ty := .int) (C := R_M) (T := T_M) (N := 7) hx hb hts (fun w h => List.mem_cons_of_mem _ (i_M w h)) ty_M ty_M_ok nm_M hown hK hP hD hS 0 rfl rfl 5 (by decide) (hts _ (List.mem_cons_of_mem _ k_295)) (fun _ h9 => h9) rfl (by decide +kernel) rfl rfl (Nat.le_of_ble_eq_true rfl) d_M_take_95 (fun H locs hP hD hS => ?_)
              have hP : va_P (dC, dI) classes [(h1, .inr (1, [.int (nI 1), .int hh, .int wt, .int fi, .int (fi ||| (a1 <<< ((nI 16) &&& 31))), .int (nI 2), .int wn]))] H := hP
              have hD : va_D A [(h1, .inr (1, [.int (nI 1), .int hh, .int wt, .int fi, .int (fi ||| (a1 <<< ((nI 16) &&& 31))), .int (nI 2), .int wn]))] := hD
              refine lv_aload_n hx hb d_M_take_98 rfl (lv_at hl 0 rfl) ?_
              refine lv_iconst (v := nI 0) hx hb d_M_take_99 (by decide) ?_
              refine va_put (D := (dC, dI)) (ci := 1) (v := .int (nI 0)) (ty := .boolean) (C := R_M) (T := T_M) (N := 7) hx hb hts (fun w h => List.mem_cons_of_mem _ (i_M w h)) ty_M ty_M_ok nm_M hown hK hP hD hS 0 rfl rfl 2 (by decide) (hts _ (List.mem_cons_of_mem _ k_292)) (fun _ h9 => h9) rfl (by decide +kernel) rfl rfl (Nat.le_of_ble_eq_true rfl) d_M_take_100 (fun H locs hP hD hS => ?_)
              have hP : va_P (dC, dI) classes [(h1, .inr (1, [.int (nI 1), .int hh, .int (nI 0), .int fi, .int (fi ||| (a1 <<< ((nI 16) &&& 31))), .int (nI 2), .int wn]))] H := hP
              have hD : va_D A [(h1, .inr (1, [.int (nI 1), .int hh, .int (nI 0), .int fi, .int (fi ||| (a1 <<< ((nI 16) &&& 31))), .int (nI 2), .int wn]))] := hD
              refine lv_aload_n hx hb d_M_take_103 rfl (lv_at hl 0 rfl) ?_
              refine lv_dup hx hb d_M_take_104 rfl ?_
              refine va_get (D := (dC, dI)) (ci := 1) (v := .int wn) (C := R_M) (T := T_M) (N := 7) hx hb hts (fun w h => List.mem_cons_of_mem _ (i_M w h)) hown hK hP 0 rfl rfl 6 (by decide) (hts _ (List.mem_cons_of_mem _ k_296)) (fun _ h9 => h9) rfl d_M_take_105 ?_
              refine lv_iconst (v := nI 1) hx hb d_M_take_108 (by decide) ?_
              refine lv_iadd hx hb d_M_take_109 ?_
              refine va_put (D := (dC, dI)) (ci := 1) (v := .int (wn + (nI 1))) (ty := .int) (C := R_M) (T := T_M) (N := 7) hx hb hts (fun w h => List.mem_cons_of_mem _ (i_M w h)) ty_M ty_M_ok nm_M hown hK hP hD hS 0 rfl rfl 6 (by decide) (hts _ (List.mem_cons_of_mem _ k_296)) (fun _ h9 => h9) rfl (by decide +kernel) rfl rfl (Nat.le_of_ble_eq_true rfl) d_M_take_110 (fun H locs hP hD hS => ?_)
              have hP : va_P (dC, dI) classes [(h1, .inr (1, [.int (nI 1), .int hh, .int (nI 0), .int fi, .int (fi ||| (a1 <<< ((nI 16) &&& 31))), .int (nI 2), .int (wn + (nI 1))]))] H := hP
              have hD : va_D A [(h1, .inr (1, [.int (nI 1), .int hh, .int (nI 0), .int fi, .int (fi ||| (a1 <<< ((nI 16) &&& 31))), .int (nI 2), .int (wn + (nI 1))]))] := hD
              refine lv_iconst (v := nI 1) hx hb d_M_take_113 (by decide) ?_
              exact W.zret hx hb hr (by decide +kernel) (fun t ht hW => ⟨⟨_, ((nI 1), hh, (nI 0), fi, (fi ||| (a1 <<< ((nI 16) &&& 31))), (nI 2), (wn + (nI 1))), rfl, by rw [g_M_take, if_neg c1, if_neg c11, if_pos c21, if_neg c22, if_neg c23, if_pos c25], by rw [ht]; exact hP, va_K.moved hW.alike hK, hD⟩, hS.F ht⟩) hS.2.2 d_M_take_114
            · refine lv_iconst (v := nI 4) hx hb d_M_take_90 (by decide) ?_
              refine lv_goto (tgt := 95) hx hb d_M_take_91 (by decide) ?_
              refine va_put (D := (dC, dI)) (ci := 1) (v := .int (nI 4)) (ty := .int) (C := R_M) (T := T_M) (N := 7) hx hb hts (fun w h => List.mem_cons_of_mem _ (i_M w h)) ty_M ty_M_ok nm_M hown hK hP hD hS 0 rfl rfl 5 (by decide) (hts _ (List.mem_cons_of_mem _ k_295)) (fun _ h9 => h9) rfl (by decide +kernel) rfl rfl (Nat.le_of_ble_eq_true rfl) d_M_take_95 (fun H locs hP hD hS => ?_)
              have hP : va_P (dC, dI) classes [(h1, .inr (1, [.int (nI 1), .int hh, .int wt, .int fi, .int (fi ||| (a1 <<< ((nI 16) &&& 31))), .int (nI 4), .int wn]))] H := hP
              have hD : va_D A [(h1, .inr (1, [.int (nI 1), .int hh, .int wt, .int fi, .int (fi ||| (a1 <<< ((nI 16) &&& 31))), .int (nI 4), .int wn]))] := hD
              refine lv_aload_n hx hb d_M_take_98 rfl (lv_at hl 0 rfl) ?_
              refine lv_iconst (v := nI 0) hx hb d_M_take_99 (by decide) ?_
              refine va_put (D := (dC, dI)) (ci := 1) (v := .int (nI 0)) (ty := .boolean) (C := R_M) (T := T_M) (N := 7) hx hb hts (fun w h => List.mem_cons_of_mem _ (i_M w h)) ty_M ty_M_ok nm_M hown hK hP hD hS 0 rfl rfl 2 (by decide) (hts _ (List.mem_cons_of_mem _ k_292)) (fun _ h9 => h9) rfl (by decide +kernel) rfl rfl (Nat.le_of_ble_eq_true rfl) d_M_take_100 (fun H locs hP hD hS => ?_)
              have hP : va_P (dC, dI) classes [(h1, .inr (1, [.int (nI 1), .int hh, .int (nI 0), .int fi, .int (fi ||| (a1 <<< ((nI 16) &&& 31))), .int (nI 4), .int wn]))] H := hP
              have hD : va_D A [(h1, .inr (1, [.int (nI 1), .int hh, .int (nI 0), .int fi, .int (fi ||| (a1 <<< ((nI 16) &&& 31))), .int (nI 4), .int wn]))] := hD
              refine lv_aload_n hx hb d_M_take_103 rfl (lv_at hl 0 rfl) ?_
              refine lv_dup hx hb d_M_take_104 rfl ?_
              refine va_get (D := (dC, dI)) (ci := 1) (v := .int wn) (C := R_M) (T := T_M) (N := 7) hx hb hts (fun w h => List.mem_cons_of_mem _ (i_M w h)) hown hK hP 0 rfl rfl 6 (by decide) (hts _ (List.mem_cons_of_mem _ k_296)) (fun _ h9 => h9) rfl d_M_take_105 ?_
              refine lv_iconst (v := nI 1) hx hb d_M_take_108 (by decide) ?_
              refine lv_iadd hx hb d_M_take_109 ?_
              refine va_put (D := (dC, dI)) (ci := 1) (v := .int (wn + (nI 1))) (ty := .int) (C := R_M) (T := T_M) (N := 7) hx hb hts (fun w h => List.mem_cons_of_mem _ (i_M w h)) ty_M ty_M_ok nm_M hown hK hP hD hS 0 rfl rfl 6 (by decide) (hts _ (List.mem_cons_of_mem _ k_296)) (fun _ h9 => h9) rfl (by decide +kernel) rfl rfl (Nat.le_of_ble_eq_true rfl) d_M_take_110 (fun H locs hP hD hS => ?_)
              have hP : va_P (dC, dI) classes [(h1, .inr (1, [.int (nI 1), .int hh, .int (nI 0), .int fi, .int (fi ||| (a1 <<< ((nI 16) &&& 31))), .int (nI 4), .int (wn + (nI 1))]))] H := hP
              have hD : va_D A [(h1, .inr (1, [.int (nI 1), .int hh, .int (nI 0), .int fi, .int (fi ||| (a1 <<< ((nI 16) &&& 31))), .int (nI 4), .int (wn + (nI 1))]))] := hD
              refine lv_iconst (v := nI 1) hx hb d_M_take_113 (by decide) ?_
              exact W.zret hx hb hr (by decide +kernel) (fun t ht hW => ⟨⟨_, ((nI 1), hh, (nI 0), fi, (fi ||| (a1 <<< ((nI 16) &&& 31))), (nI 4), (wn + (nI 1))), rfl, by rw [g_M_take, if_neg c1, if_neg c11, if_pos c21, if_neg c22, if_neg c23, if_neg c25], by rw [ht]; exact hP, va_K.moved hW.alike hK, hD⟩, hS.F ht⟩) hS.2.2 d_M_take_114
        · refine lv_iload_n hx hb d_M_take_35 rfl (lv_at hl 1 rfl) ?_
          refine lv_iconst (v := nI 4) hx hb d_M_take_36 (by decide) ?_
          refine lv_irem hx hb d_M_take_37 (by decide) ?_
          refine lv_iconst (v := nI 3) hx hb d_M_take_38 (by decide) ?_
          refine lv_icmp_ne (tgt := 54) hx hb d_M_take_39 (by decide) (fun c26 => ?_) (fun c26 => ?_)
          · refine lv_aload_n hx hb d_M_take_54 rfl (lv_at hl 0 rfl) ?_
            refine lv_aload_n hx hb d_M_take_55 rfl (lv_at hl 0 rfl) ?_
            refine va_get (D := (dC, dI)) (ci := 1) (v := .int wt) (C := R_M) (T := T_M) (N := 7) hx hb hts (fun w h => List.mem_cons_of_mem _ (i_M w h)) hown hK hP 0 rfl rfl 2 (by decide) (hts _ (List.mem_cons_of_mem _ k_292)) (fun _ h9 => h9) rfl d_M_take_56 ?_
            refine lv_if_eq (tgt := 74) hx hb d_M_take_59 (by decide) (fun c27 => ?_) (fun c27 => ?_)
            · refine lv_aload_n hx hb d_M_take_74 rfl (lv_at hl 0 rfl) ?_
              refine lv_iload_n hx hb d_M_take_75 rfl (lv_at hl 1 rfl) ?_
              have hFc := va_free (wc := [(h1, .inr (1, [.int (nI 1), .int hh, .int wt, .int fi, .int wo, .int le, .int wn]))]) hD hS hA [0] rfl
              refine callQ (va_runV (b := h1) (As := [.int a1]) (rest := [.ref h1]) ⟨hx, hb, hml, hown, hts⟩ (c_M_wordOf l dC dI h1 H.size (nI 1) hh wt fi wo le wn a1) (cwV 1 hts (gV awx k_321 k_323 ks_2 k_2 k_324) rfl rfl rfl (by decide +kernel) ⟨Nat.le_of_ble_eq_true rfl, Nat.le_of_ble_eq_true rfl⟩) ⟨o_blind, va_recv hK hP (ci := 1) (q0 := 0) rfl rfl, fun U hU hW => ⟨rfl, by rw [hU], by rw [hU]; exact hP, va_K.moved hW.alike hK, hD.weaken (fun _ _ _ _ => trivial)⟩⟩ rfl rfl hl.1 rfl (lv_room (Nat.le_of_ble_eq_true rfl)) d_M_take_76 ⟨Nat.zero_le _, Nat.zero_le _⟩) hS (fun q _ h => hFc q h) hFc (fun t9 H1 locs ht hvm hB hz1 hk1 hS => ?_)
              obtain ⟨hP1, hK1, hD1⟩ := hB
              rw [ht] at hP1
              have hK1 := va_K.moved hvm.symm hK1
              obtain ⟨hP, hD⟩ := va_join (wr := []) (w1 := [(h1, .inr (1, [.int (nI 1), .int a1, .int wt, .int fi, .int wo, .int le, .int wn]))]) hP hD [0] [] rfl rfl (by decide) (by decide) hk1 hFc hP1 hD1
              generalize H1 = H at hP hS ⊢
              have hP : va_P (dC, dI) classes [(h1, .inr (1, [.int (nI 1), .int a1, .int wt, .int fi, .int wo, .int le, .int wn]))] H := hP
              have hD : va_D A [(h1, .inr (1, [.int (nI 1), .int a1, .int wt, .int fi, .int wo, .int le, .int wn]))] := hD
              refine va_put (D := (dC, dI)) (ci := 1) (v := .int (f_M_wordOf a1)) (ty := .int) (C := R_M) (T := T_M) (N := 7) hx hb hts (fun w h => List.mem_cons_of_mem _ (i_M w h)) ty_M ty_M_ok nm_M hown hK hP hD hS 0 rfl rfl 4 (by decide) (hts _ (List.mem_cons_of_mem _ k_294)) (fun _ h9 => h9) rfl (by decide +kernel) rfl rfl (Nat.le_of_ble_eq_true rfl) d_M_take_79 (fun H locs hP hD hS => ?_)
              have hP : va_P (dC, dI) classes [(h1, .inr (1, [.int (nI 1), .int a1, .int wt, .int fi, .int (f_M_wordOf a1), .int le, .int wn]))] H := hP
              have hD : va_D A [(h1, .inr (1, [.int (nI 1), .int a1, .int wt, .int fi, .int (f_M_wordOf a1), .int le, .int wn]))] := hD
              refine lv_aload_n hx hb d_M_take_82 rfl (lv_at hl 0 rfl) ?_
              refine lv_aload_n hx hb d_M_take_83 rfl (lv_at hl 0 rfl) ?_
              refine va_get (D := (dC, dI)) (ci := 1) (v := .int wt) (C := R_M) (T := T_M) (N := 7) hx hb hts (fun w h => List.mem_cons_of_mem _ (i_M w h)) hown hK hP 0 rfl rfl 2 (by decide) (hts _ (List.mem_cons_of_mem _ k_292)) (fun _ h9 => h9) rfl d_M_take_84 ?_
              refine lv_if_eq (tgt := 94) hx hb d_M_take_87 (by decide) (fun c28 => ?_) (fun c28 => ?_)
              · refine lv_iconst (v := nI 2) hx hb d_M_take_94 (by decide) ?_
                refine va_put (D := (dC, dI)) (ci := 1) (v := .int (nI 2)) (ty := .int) (C := R_M) (T := T_M) (N := 7) hx hb hts (fun w h => List.mem_cons_of_mem _ (i_M w h)) ty_M ty_M_ok nm_M hown hK hP hD hS 0 rfl rfl 5 (by decide) (hts _ (List.mem_cons_of_mem _ k_295)) (fun _ h9 => h9) rfl (by decide +kernel) rfl rfl (Nat.le_of_ble_eq_true rfl) d_M_take_95 (fun H locs hP hD hS => ?_)
                have hP : va_P (dC, dI) classes [(h1, .inr (1, [.int (nI 1), .int a1, .int wt, .int fi, .int (f_M_wordOf a1), .int (nI 2), .int wn]))] H := hP
                have hD : va_D A [(h1, .inr (1, [.int (nI 1), .int a1, .int wt, .int fi, .int (f_M_wordOf a1), .int (nI 2), .int wn]))] := hD
                refine lv_aload_n hx hb d_M_take_98 rfl (lv_at hl 0 rfl) ?_
                refine lv_iconst (v := nI 0) hx hb d_M_take_99 (by decide) ?_
                refine va_put (D := (dC, dI)) (ci := 1) (v := .int (nI 0)) (ty := .boolean) (C := R_M) (T := T_M) (N := 7) hx hb hts (fun w h => List.mem_cons_of_mem _ (i_M w h)) ty_M ty_M_ok nm_M hown hK hP hD hS 0 rfl rfl 2 (by decide) (hts _ (List.mem_cons_of_mem _ k_292)) (fun _ h9 => h9) rfl (by decide +kernel) rfl rfl (Nat.le_of_ble_eq_true rfl) d_M_take_100 (fun H locs hP hD hS => ?_)
                have hP : va_P (dC, dI) classes [(h1, .inr (1, [.int (nI 1), .int a1, .int (nI 0), .int fi, .int (f_M_wordOf a1), .int (nI 2), .int wn]))] H := hP
                have hD : va_D A [(h1, .inr (1, [.int (nI 1), .int a1, .int (nI 0), .int fi, .int (f_M_wordOf a1), .int (nI 2), .int wn]))] := hD
                refine lv_aload_n hx hb d_M_take_103 rfl (lv_at hl 0 rfl) ?_
                refine lv_dup hx hb d_M_take_104 rfl ?_
                refine va_get (D := (dC, dI)) (ci := 1) (v := .int wn) (C := R_M) (T := T_M) (N := 7) hx hb hts (fun w h => List.mem_cons_of_mem _ (i_M w h)) hown hK hP 0 rfl rfl 6 (by decide) (hts _ (List.mem_cons_of_mem _ k_296)) (fun _ h9 => h9) rfl d_M_take_105 ?_
                refine lv_iconst (v := nI 1) hx hb d_M_take_108 (by decide) ?_
                refine lv_iadd hx hb d_M_take_109 ?_
                refine va_put (D := (dC, dI)) (ci := 1) (v := .int (wn + (nI 1))) (ty := .int) (C := R_M) (T := T_M) (N := 7) hx hb hts (fun w h => List.mem_cons_of_mem _ (i_M w h)) ty_M ty_M_ok nm_M hown hK hP hD hS 0 rfl rfl 6 (by decide) (hts _ (List.mem_cons_of_mem _ k_296)) (fun _ h9 => h9) rfl (by decide +kernel) rfl rfl (Nat.le_of_ble_eq_true rfl) d_M_take_110 (fun H locs hP hD hS => ?_)
                have hP : va_P (dC, dI) classes [(h1, .inr (1, [.int (nI 1), .int a1, .int (nI 0), .int fi, .int (f_M_wordOf a1), .int (nI 2), .int (wn + (nI 1))]))] H := hP
                have hD : va_D A [(h1, .inr (1, [.int (nI 1), .int a1, .int (nI 0), .int fi, .int (f_M_wordOf a1), .int (nI 2), .int (wn + (nI 1))]))] := hD
                refine lv_iconst (v := nI 1) hx hb d_M_take_113 (by decide) ?_
                exact W.zret hx hb hr (by decide +kernel) (fun t ht hW => ⟨⟨_, ((nI 1), a1, (nI 0), fi, (f_M_wordOf a1), (nI 2), (wn + (nI 1))), rfl, by rw [g_M_take, if_neg c1, if_neg c11, if_pos c21, if_pos c22, if_neg c26, if_pos c27, if_pos c28], by rw [ht]; exact hP, va_K.moved hW.alike hK, hD⟩, hS.F ht⟩) hS.2.2 d_M_take_114
              · refine lv_iconst (v := nI 4) hx hb d_M_take_90 (by decide) ?_
                refine lv_goto (tgt := 95) hx hb d_M_take_91 (by decide) ?_
                refine va_put (D := (dC, dI)) (ci := 1) (v := .int (nI 4)) (ty := .int) (C := R_M) (T := T_M) (N := 7) hx hb hts (fun w h => List.mem_cons_of_mem _ (i_M w h)) ty_M ty_M_ok nm_M hown hK hP hD hS 0 rfl rfl 5 (by decide) (hts _ (List.mem_cons_of_mem _ k_295)) (fun _ h9 => h9) rfl (by decide +kernel) rfl rfl (Nat.le_of_ble_eq_true rfl) d_M_take_95 (fun H locs hP hD hS => ?_)
                have hP : va_P (dC, dI) classes [(h1, .inr (1, [.int (nI 1), .int a1, .int wt, .int fi, .int (f_M_wordOf a1), .int (nI 4), .int wn]))] H := hP
                have hD : va_D A [(h1, .inr (1, [.int (nI 1), .int a1, .int wt, .int fi, .int (f_M_wordOf a1), .int (nI 4), .int wn]))] := hD
                refine lv_aload_n hx hb d_M_take_98 rfl (lv_at hl 0 rfl) ?_
                refine lv_iconst (v := nI 0) hx hb d_M_take_99 (by decide) ?_
                refine va_put (D := (dC, dI)) (ci := 1) (v := .int (nI 0)) (ty := .boolean) (C := R_M) (T := T_M) (N := 7) hx hb hts (fun w h => List.mem_cons_of_mem _ (i_M w h)) ty_M ty_M_ok nm_M hown hK hP hD hS 0 rfl rfl 2 (by decide) (hts _ (List.mem_cons_of_mem _ k_292)) (fun _ h9 => h9) rfl (by decide +kernel) rfl rfl (Nat.le_of_ble_eq_true rfl) d_M_take_100 (fun H locs hP hD hS => ?_)
                have hP : va_P (dC, dI) classes [(h1, .inr (1, [.int (nI 1), .int a1, .int (nI 0), .int fi, .int (f_M_wordOf a1), .int (nI 4), .int wn]))] H := hP
                have hD : va_D A [(h1, .inr (1, [.int (nI 1), .int a1, .int (nI 0), .int fi, .int (f_M_wordOf a1), .int (nI 4), .int wn]))] := hD
                refine lv_aload_n hx hb d_M_take_103 rfl (lv_at hl 0 rfl) ?_
                refine lv_dup hx hb d_M_take_104 rfl ?_
                refine va_get (D := (dC, dI)) (ci := 1) (v := .int wn) (C := R_M) (T := T_M) (N := 7) hx hb hts (fun w h => List.mem_cons_of_mem _ (i_M w h)) hown hK hP 0 rfl rfl 6 (by decide) (hts _ (List.mem_cons_of_mem _ k_296)) (fun _ h9 => h9) rfl d_M_take_105 ?_
                refine lv_iconst (v := nI 1) hx hb d_M_take_108 (by decide) ?_
                refine lv_iadd hx hb d_M_take_109 ?_
                refine va_put (D := (dC, dI)) (ci := 1) (v := .int (wn + (nI 1))) (ty := .int) (C := R_M) (T := T_M) (N := 7) hx hb hts (fun w h => List.mem_cons_of_mem _ (i_M w h)) ty_M ty_M_ok nm_M hown hK hP hD hS 0 rfl rfl 6 (by decide) (hts _ (List.mem_cons_of_mem _ k_296)) (fun _ h9 => h9) rfl (by decide +kernel) rfl rfl (Nat.le_of_ble_eq_true rfl) d_M_take_110 (fun H locs hP hD hS => ?_)
                have hP : va_P (dC, dI) classes [(h1, .inr (1, [.int (nI 1), .int a1, .int (nI 0), .int fi, .int (f_M_wordOf a1), .int (nI 4), .int (wn + (nI 1))]))] H := hP
                have hD : va_D A [(h1, .inr (1, [.int (nI 1), .int a1, .int (nI 0), .int fi, .int (f_M_wordOf a1), .int (nI 4), .int (wn + (nI 1))]))] := hD
                refine lv_iconst (v := nI 1) hx hb d_M_take_113 (by decide) ?_
                exact W.zret hx hb hr (by decide +kernel) (fun t ht hW => ⟨⟨_, ((nI 1), a1, (nI 0), fi, (f_M_wordOf a1), (nI 4), (wn + (nI 1))), rfl, by rw [g_M_take, if_neg c1, if_neg c11, if_pos c21, if_pos c22, if_neg c26, if_pos c27, if_neg c28], by rw [ht]; exact hP, va_K.moved hW.alike hK, hD⟩, hS.F ht⟩) hS.2.2 d_M_take_114
            · refine lv_aload_n hx hb d_M_take_62 rfl (lv_at hl 0 rfl) ?_
              refine va_get (D := (dC, dI)) (ci := 1) (v := .int fi) (C := R_M) (T := T_M) (N := 7) hx hb hts (fun w h => List.mem_cons_of_mem _ (i_M w h)) hown hK hP 0 rfl rfl 3 (by decide) (hts _ (List.mem_cons_of_mem _ k_293)) (fun _ h9 => h9) rfl d_M_take_63 ?_
              refine lv_iload_n hx hb d_M_take_66 rfl (lv_at hl 1 rfl) ?_
              refine lv_bipush (v := nI 16) hx hb d_M_take_67 (by decide) ?_
              refine lv_ishl hx hb d_M_take_69 ?_
              refine lv_ior hx hb d_M_take_70 ?_
              refine lv_goto (tgt := 79) hx hb d_M_take_71 (by decide) ?_
              refine va_put (D := (dC, dI)) (ci := 1) (v := .int (fi ||| (a1 <<< ((nI 16) &&& 31)))) (ty := .int) (C := R_M) (T := T_M) (N := 7) hx hb hts (fun w h => List.mem_cons_of_mem _ (i_M w h)) ty_M ty_M_ok nm_M hown hK hP hD hS 0 rfl rfl 4 (by decide) (hts _ (List.mem_cons_of_mem _ k_294)) (fun _ h9 => h9) rfl (by decide +kernel) rfl rfl (Nat.le_of_ble_eq_true rfl) d_M_take_79 (fun H locs hP hD hS => ?_)
              have hP : va_P (dC, dI) classes [(h1, .inr (1, [.int (nI 1), .int hh, .int wt, .int fi, .int (fi ||| (a1 <<< ((nI 16) &&& 31))), .int le, .int wn]))] H := hP
              have hD : va_D A [(h1, .inr (1, [.int (nI 1), .int hh, .int wt, .int fi, .int (fi ||| (a1 <<< ((nI 16) &&& 31))), .int le, .int wn]))] := hD
              refine lv_aload_n hx hb d_M_take_82 rfl (lv_at hl 0 rfl) ?_
              refine lv_aload_n hx hb d_M_take_83 rfl (lv_at hl 0 rfl) ?_
              refine va_get (D := (dC, dI)) (ci := 1) (v := .int wt) (C := R_M) (T := T_M) (N := 7) hx hb hts (fun w h => List.mem_cons_of_mem _ (i_M w h)) hown hK hP 0 rfl rfl 2 (by decide) (hts _ (List.mem_cons_of_mem _ k_292)) (fun _ h9 => h9) rfl d_M_take_84 ?_
              refine lv_if_eq (tgt := 94) hx hb d_M_take_87 (by decide) (fun c29 => ?_) (fun c29 => ?_)
              · refine lv_iconst (v := nI 2) hx hb d_M_take_94 (by decide) ?_
                refine va_put (D := (dC, dI)) (ci := 1) (v := .int (nI 2)) (ty := .int) (C := R_M) (T := T_M) (N := 7) hx hb hts (fun w h => List.mem_cons_of_mem _ (i_M w h)) ty_M ty_M_ok nm_M hown hK hP hD hS 0 rfl rfl 5 (by decide) (hts _ (List.mem_cons_of_mem _ k_295)) (fun _ h9 => h9) rfl (by decide +kernel) rfl rfl (Nat.le_of_ble_eq_true rfl) d_M_take_95 (fun H locs hP hD hS => ?_)
                have hP : va_P (dC, dI) classes [(h1, .inr (1, [.int (nI 1), .int hh, .int wt, .int fi, .int (fi ||| (a1 <<< ((nI 16) &&& 31))), .int (nI 2), .int wn]))] H := hP
                have hD : va_D A [(h1, .inr (1, [.int (nI 1), .int hh, .int wt, .int fi, .int (fi ||| (a1 <<< ((nI 16) &&& 31))), .int (nI 2), .int wn]))] := hD
                refine lv_aload_n hx hb d_M_take_98 rfl (lv_at hl 0 rfl) ?_
                refine lv_iconst (v := nI 0) hx hb d_M_take_99 (by decide) ?_
                refine va_put (D := (dC, dI)) (ci := 1) (v := .int (nI 0)) (ty := .boolean) (C := R_M) (T := T_M) (N := 7) hx hb hts (fun w h => List.mem_cons_of_mem _ (i_M w h)) ty_M ty_M_ok nm_M hown hK hP hD hS 0 rfl rfl 2 (by decide) (hts _ (List.mem_cons_of_mem _ k_292)) (fun _ h9 => h9) rfl (by decide +kernel) rfl rfl (Nat.le_of_ble_eq_true rfl) d_M_take_100 (fun H locs hP hD hS => ?_)
                have hP : va_P (dC, dI) classes [(h1, .inr (1, [.int (nI 1), .int hh, .int (nI 0), .int fi, .int (fi ||| (a1 <<< ((nI 16) &&& 31))), .int (nI 2), .int wn]))] H := hP
                have hD : va_D A [(h1, .inr (1, [.int (nI 1), .int hh, .int (nI 0), .int fi, .int (fi ||| (a1 <<< ((nI 16) &&& 31))), .int (nI 2), .int wn]))] := hD
                refine lv_aload_n hx hb d_M_take_103 rfl (lv_at hl 0 rfl) ?_
                refine lv_dup hx hb d_M_take_104 rfl ?_
                refine va_get (D := (dC, dI)) (ci := 1) (v := .int wn) (C := R_M) (T := T_M) (N := 7) hx hb hts (fun w h => List.mem_cons_of_mem _ (i_M w h)) hown hK hP 0 rfl rfl 6 (by decide) (hts _ (List.mem_cons_of_mem _ k_296)) (fun _ h9 => h9) rfl d_M_take_105 ?_
                refine lv_iconst (v := nI 1) hx hb d_M_take_108 (by decide) ?_
                refine lv_iadd hx hb d_M_take_109 ?_
                refine va_put (D := (dC, dI)) (ci := 1) (v := .int (wn + (nI 1))) (ty := .int) (C := R_M) (T := T_M) (N := 7) hx hb hts (fun w h => List.mem_cons_of_mem _ (i_M w h)) ty_M ty_M_ok nm_M hown hK hP hD hS 0 rfl rfl 6 (by decide) (hts _ (List.mem_cons_of_mem _ k_296)) (fun _ h9 => h9) rfl (by decide +kernel) rfl rfl (Nat.le_of_ble_eq_true rfl) d_M_take_110 (fun H locs hP hD hS => ?_)
                have hP : va_P (dC, dI) classes [(h1, .inr (1, [.int (nI 1), .int hh, .int (nI 0), .int fi, .int (fi ||| (a1 <<< ((nI 16) &&& 31))), .int (nI 2), .int (wn + (nI 1))]))] H := hP
                have hD : va_D A [(h1, .inr (1, [.int (nI 1), .int hh, .int (nI 0), .int fi, .int (fi ||| (a1 <<< ((nI 16) &&& 31))), .int (nI 2), .int (wn + (nI 1))]))] := hD
                refine lv_iconst (v := nI 1) hx hb d_M_take_113 (by decide) ?_
                exact W.zret hx hb hr (by decide +kernel) (fun t ht hW => ⟨⟨_, ((nI 1), hh, (nI 0), fi, (fi ||| (a1 <<< ((nI 16) &&& 31))), (nI 2), (wn + (nI 1))), rfl, by rw [g_M_take, if_neg c1, if_neg c11, if_pos c21, if_pos c22, if_neg c26, if_neg c27, if_pos c29], by rw [ht]; exact hP, va_K.moved hW.alike hK, hD⟩, hS.F ht⟩) hS.2.2 d_M_take_114
              · refine lv_iconst (v := nI 4) hx hb d_M_take_90 (by decide) ?_
                refine lv_goto (tgt := 95) hx hb d_M_take_91 (by decide) ?_
                refine va_put (D := (dC, dI)) (ci := 1) (v := .int (nI 4)) (ty := .int) (C := R_M) (T := T_M) (N := 7) hx hb hts (fun w h => List.mem_cons_of_mem _ (i_M w h)) ty_M ty_M_ok nm_M hown hK hP hD hS 0 rfl rfl 5 (by decide) (hts _ (List.mem_cons_of_mem _ k_295)) (fun _ h9 => h9) rfl (by decide +kernel) rfl rfl (Nat.le_of_ble_eq_true rfl) d_M_take_95 (fun H locs hP hD hS => ?_)
                have hP : va_P (dC, dI) classes [(h1, .inr (1, [.int (nI 1), .int hh, .int wt, .int fi, .int (fi ||| (a1 <<< ((nI 16) &&& 31))), .int (nI 4), .int wn]))] H := hP
                have hD : va_D A [(h1, .inr (1, [.int (nI 1), .int hh, .int wt, .int fi, .int (fi ||| (a1 <<< ((nI 16) &&& 31))), .int (nI 4), .int wn]))] := hD
                refine lv_aload_n hx hb d_M_take_98 rfl (lv_at hl 0 rfl) ?_
                refine lv_iconst (v := nI 0) hx hb d_M_take_99 (by decide) ?_
                refine va_put (D := (dC, dI)) (ci := 1) (v := .int (nI 0)) (ty := .boolean) (C := R_M) (T := T_M) (N := 7) hx hb hts (fun w h => List.mem_cons_of_mem _ (i_M w h)) ty_M ty_M_ok nm_M hown hK hP hD hS 0 rfl rfl 2 (by decide) (hts _ (List.mem_cons_of_mem _ k_292)) (fun _ h9 => h9) rfl (by decide +kernel) rfl rfl (Nat.le_of_ble_eq_true rfl) d_M_take_100 (fun H locs hP hD hS => ?_)
                have hP : va_P (dC, dI) classes [(h1, .inr (1, [.int (nI 1), .int hh, .int (nI 0), .int fi, .int (fi ||| (a1 <<< ((nI 16) &&& 31))), .int (nI 4), .int wn]))] H := hP
                have hD : va_D A [(h1, .inr (1, [.int (nI 1), .int hh, .int (nI 0), .int fi, .int (fi ||| (a1 <<< ((nI 16) &&& 31))), .int (nI 4), .int wn]))] := hD
                refine lv_aload_n hx hb d_M_take_103 rfl (lv_at hl 0 rfl) ?_
                refine lv_dup hx hb d_M_take_104 rfl ?_
                refine va_get (D := (dC, dI)) (ci := 1) (v := .int wn) (C := R_M) (T := T_M) (N := 7) hx hb hts (fun w h => List.mem_cons_of_mem _ (i_M w h)) hown hK hP 0 rfl rfl 6 (by decide) (hts _ (List.mem_cons_of_mem _ k_296)) (fun _ h9 => h9) rfl d_M_take_105 ?_
                refine lv_iconst (v := nI 1) hx hb d_M_take_108 (by decide) ?_
                refine lv_iadd hx hb d_M_take_109 ?_
                refine va_put (D := (dC, dI)) (ci := 1) (v := .int (wn + (nI 1))) (ty := .int) (C := R_M) (T := T_M) (N := 7) hx hb hts (fun w h => List.mem_cons_of_mem _ (i_M w h)) ty_M ty_M_ok nm_M hown hK hP hD hS 0 rfl rfl 6 (by decide) (hts _ (List.mem_cons_of_mem _ k_296)) (fun _ h9 => h9) rfl (by decide +kernel) rfl rfl (Nat.le_of_ble_eq_true rfl) d_M_take_110 (fun H locs hP hD hS => ?_)
                have hP : va_P (dC, dI) classes [(h1, .inr (1, [.int (nI 1), .int hh, .int (nI 0), .int fi, .int (fi ||| (a1 <<< ((nI 16) &&& 31))), .int (nI 4), .int (wn + (nI 1))]))] H := hP
                have hD : va_D A [(h1, .inr (1, [.int (nI 1), .int hh, .int (nI 0), .int fi, .int (fi ||| (a1 <<< ((nI 16) &&& 31))), .int (nI 4), .int (wn + (nI 1))]))] := hD
                refine lv_iconst (v := nI 1) hx hb d_M_take_113 (by decide) ?_
                exact W.zret hx hb hr (by decide +kernel) (fun t ht hW => ⟨⟨_, ((nI 1), hh, (nI 0), fi, (fi ||| (a1 <<< ((nI 16) &&& 31))), (nI 4), (wn + (nI 1))), rfl, by rw [g_M_take, if_neg c1, if_neg c11, if_pos c21, if_pos c22, if_neg c26, if_neg c27, if_neg c29], by rw [ht]; exact hP, va_K.moved hW.alike hK, hD⟩, hS.F ht⟩) hS.2.2 d_M_take_114
          · refine lv_aload_n hx hb d_M_take_42 rfl (lv_at hl 0 rfl) ?_
            refine lv_iconst (v := nI 1) hx hb d_M_take_43 (by decide) ?_
            refine va_put (D := (dC, dI)) (ci := 1) (v := .int (nI 1)) (ty := .boolean) (C := R_M) (T := T_M) (N := 7) hx hb hts (fun w h => List.mem_cons_of_mem _ (i_M w h)) ty_M ty_M_ok nm_M hown hK hP hD hS 0 rfl rfl 2 (by decide) (hts _ (List.mem_cons_of_mem _ k_292)) (fun _ h9 => h9) rfl (by decide +kernel) rfl rfl (Nat.le_of_ble_eq_true rfl) d_M_take_44 (fun H locs hP hD hS => ?_)
            have hP : va_P (dC, dI) classes [(h1, .inr (1, [.int (nI 1), .int hh, .int (nI 1), .int fi, .int wo, .int le, .int wn]))] H := hP
            have hD : va_D A [(h1, .inr (1, [.int (nI 1), .int hh, .int (nI 1), .int fi, .int wo, .int le, .int wn]))] := hD
            refine lv_aload_n hx hb d_M_take_47 rfl (lv_at hl 0 rfl) ?_
            refine lv_iload_n hx hb d_M_take_48 rfl (lv_at hl 1 rfl) ?_
            refine va_put (D := (dC, dI)) (ci := 1) (v := .int a1) (ty := .int) (C := R_M) (T := T_M) (N := 7) hx hb hts (fun w h => List.mem_cons_of_mem _ (i_M w h)) ty_M ty_M_ok nm_M hown hK hP hD hS 0 rfl rfl 3 (by decide) (hts _ (List.mem_cons_of_mem _ k_293)) (fun _ h9 => h9) rfl (by decide +kernel) rfl rfl (Nat.le_of_ble_eq_true rfl) d_M_take_49 (fun H locs hP hD hS => ?_)
            have hP : va_P (dC, dI) classes [(h1, .inr (1, [.int (nI 1), .int hh, .int (nI 1), .int a1, .int wo, .int le, .int wn]))] H := hP
            have hD : va_D A [(h1, .inr (1, [.int (nI 1), .int hh, .int (nI 1), .int a1, .int wo, .int le, .int wn]))] := hD
            refine lv_iconst (v := nI 0) hx hb d_M_take_52 (by decide) ?_
            exact W.zret hx hb hr (by decide +kernel) (fun t ht hW => ⟨⟨_, ((nI 1), hh, (nI 1), a1, wo, le, wn), rfl, by rw [g_M_take, if_neg c1, if_neg c11, if_pos c21, if_pos c22, if_pos c26], by rw [ht]; exact hP, va_K.moved hW.alike hK, hD⟩, hS.F ht⟩) hS.2.2 d_M_take_53
      · refine lv_iconst (v := nI 0) hx hb d_M_take_26 (by decide) ?_
        exact W.zret hx hb hr (by decide +kernel) (fun t ht hW => ⟨⟨_, ((nI 1), hh, wt, fi, wo, le, wn), rfl, by rw [g_M_take, if_neg c1, if_neg c11, if_neg c21], by rw [ht]; exact hP, va_K.moved hW.alike hK, hD⟩, hS.F ht⟩) hS.2.2 d_M_take_27
def g_S_take (w wh lw ll wc a1 : Int32) : Int32 × (Int32 × Int32 × Int32 × Int32 × Int32) := (if (f_isHalf a1) = 0 then (nI 0, (w, wh, lw, ll, wc)) else (if w = 0 then (if (f_bits a1 (nI 1) (nI 0)) = (nI 3) then ((nI 0), ((nI 1), a1, lw, ll, wc)) else ((nI 1), (w, wh, (f_wordFor a1), (nI 2), (wc + (nI 1))))) else ((nI 1), ((nI 0), wh, ((a1 <<< ((nI 16) &&& 31)) ||| wh), (nI 4), (wc + (nI 1))))))
set_option maxHeartbeats 40000000 in
set_option maxRecDepth 100000 in
theorem c_S_take (l : Launch) (dC : Nat → ClassId) (dI : Nat → Nat → Nat) (t : Nat → Nat) (h0 sz : Nat) (w wh lw ll wc : Int32) (a1 : Int32) (hv9 : ¬ f_isHalf a1 = 0) : Met l y_S_take w_S_take { frames := 5, cells := 0, slots := 0, locals := 111 } (va_Pc [.ref h0, .int a1] (fun U => o_B dC dI sz [(h0, .inr (0, [.int w, .int wh, .int lw, .int ll, .int wc]))] U ∧ tbA (va_A [(h0, .inr (0, [.int w, .int wh, .int lw, .int ll, .int wc]))] sz) t U U.heap)) (va_Qi (fun r u => (r, u) = g_S_take w wh lw ll wc a1) (at_S dC dI (va_A [(h0, .inr (0, [.int w, .int wh, .int lw, .int ll, .int wc]))] sz) h0) (va_A [(h0, .inr (0, [.int w, .int wh, .int lw, .int ll, .int wc]))] sz)) 0 0 (va_A [(h0, .inr (0, [.int w, .int wh, .int lw, .int ll, .int wc]))] sz) := by
  refine Met.ofW (cc := b_S_take) (maxL := 2) (ret := (some .boolean)) (by decide) rfl ?_
  intro p e s m args below meth c s₁ B hml hv
  obtain ⟨rfl, ⟨hsz, hP, hK, hD0⟩, hT⟩ := hv
  have hx := B.exec
  have hb := B.bytes
  have hr := B.returns
  have hts := atoms_spec (ws := w_S_take) B.pre
  have hown : s.vm.findClass R_S = some m.cls := findClass_of_methodNamed B.named
  have hlocks := B.notSynchronized
  have hl := lv_entry ([.ref h0, .int a1]) (n := 2) (Nat.le_of_ble_eq_true rfl)
  rw [lg_entry_eq]
  generalize (lg_sl ([.ref h0, .int a1]) ++ List.replicate (2 - (lg_sl ([.ref h0, .int a1])).length) Slot.unset).toArray = ls at hl ⊢
  have hl : lv_has ls 2 [(0, .ref h0), (1, .int a1)] := hl
  subst hsz
  have hD := hD0.self (sz := s.heap.size)
  generalize hAe : va_A [(h0, .inr (0, [.int w, .int wh, .int lw, .int ll, .int wc]))] s.heap.size = A at hD hT ⊢
  have hA : ∀ q : Nat, s.heap.size ≤ q → A q := fun q h => by rw [← hAe]; exact Or.inr h
  have hS : va_S A s.heap s.heap [] := va_S.rf
  have hP : va_P (dC, dI) classes [(h0, .inr (0, [.int w, .int wh, .int lw, .int ll, .int wc]))] s.heap := hP
  refine lv_iload_n hx hb d_S_take_0 rfl (lv_at hl 1 rfl) ?_
  refine callE (W.runS (As := [.int a1]) (rest := []) ⟨hx, hb, hml, hown, hts⟩ (c_isHalf l t a1) (cwS 1 hts (gS k_203 k_204 k_1 k_205) rfl rfl rfl (by decide +kernel) ⟨Nat.le_of_ble_eq_true rfl, Nat.le_of_ble_eq_true rfl⟩) (tb_preH (tb_keep hT hS)) rfl rfl hl.1 rfl (lv_room (Nat.le_of_ble_eq_true rfl)) d_S_take_1 ⟨Nat.zero_le _, Nat.zero_le _⟩) ?_
  refine lv_if_ne (tgt := 17) hx hb d_S_take_4 (by decide) (fun c1 => ?_) (fun c1 => ?_)
  · refine lv_aload_n hx hb d_S_take_17 rfl (lv_at hl 0 rfl) ?_
    refine va_get (D := (dC, dI)) (ci := 0) (v := .int w) (C := R_S) (T := T_S) (N := 5) hx hb hts (fun w h => List.mem_cons_of_mem _ (i_S w h)) hown hK hP 0 rfl rfl 0 (by decide) (hts _ (List.mem_cons_of_mem _ k_15)) (fun _ h9 => h9) rfl d_S_take_18 ?_
    refine lv_if_eq (tgt := 45) hx hb d_S_take_21 (by decide) (fun c2 => ?_) (fun c2 => ?_)
    · refine lv_iload_n hx hb d_S_take_45 rfl (lv_at hl 1 rfl) ?_
      refine lv_iconst (v := nI 1) hx hb d_S_take_46 (by decide) ?_
      refine lv_iconst (v := nI 0) hx hb d_S_take_47 (by decide) ?_
      refine callE (W.runS (As := [.int a1, .int (nI 1), .int (nI 0)]) (rest := []) ⟨hx, hb, hml, hown, hts⟩ (c_bits l t a1 (nI 1) (nI 0)) (cwS 3 hts (gS k_47 k_48 k_1 k_49) rfl rfl rfl (by decide +kernel) ⟨Nat.le_of_ble_eq_true rfl, Nat.le_of_ble_eq_true rfl⟩) (tb_preH (tb_keep hT hS)) rfl rfl hl.1 rfl (lv_room (Nat.le_of_ble_eq_true rfl)) d_S_take_48 ⟨Nat.zero_le _, Nat.zero_le _⟩) ?_
      refine lv_iconst (v := nI 3) hx hb d_S_take_51 (by decide) ?_
      refine lv_icmp_ne (tgt := 67) hx hb d_S_take_52 (by decide) (fun c3 => ?_) (fun c3 => ?_)
      · refine lv_aload_n hx hb d_S_take_67 rfl (lv_at hl 0 rfl) ?_
        refine lv_iload_n hx hb d_S_take_68 rfl (lv_at hl 1 rfl) ?_
        refine callE (W.runS (As := [.int a1]) (rest := [.ref h0]) ⟨hx, hb, hml, hown, hts⟩ (c_wordFor l t a1) (cwS 1 hts (gS k_112 k_113 k_1 k_114) rfl rfl rfl (by decide +kernel) ⟨Nat.le_of_ble_eq_true rfl, Nat.le_of_ble_eq_true rfl⟩) (tb_preH (tb_keep hT hS)) rfl rfl hl.1 rfl (lv_room (Nat.le_of_ble_eq_true rfl)) d_S_take_69 ⟨Nat.zero_le _, Nat.zero_le _⟩) ?_
        refine lv_iconst (v := nI 2) hx hb d_S_take_72 (by decide) ?_
        have hFc := va_free (wc := [(h0, .inr (0, [.int w, .int wh, .int lw, .int ll, .int wc]))]) hD hS hA [0] rfl
        refine callQv (va_runV (b := h0) (As := [.int (f_wordFor a1), .int (nI 2)]) (rest := []) ⟨hx, hb, hml, hown, hts⟩ (c_S_keepWhole l dC dI h0 s.heap.size w wh lw ll wc (f_wordFor a1) (nI 2)) (cwV 2 hts (gV awx k_280 k_282 ks_1 k_1 k_283) rfl rfl rfl (by decide +kernel) ⟨Nat.le_of_ble_eq_true rfl, Nat.le_of_ble_eq_true rfl⟩) ⟨o_blind, va_recv hK hP (ci := 0) (q0 := 0) rfl rfl, fun U hU hW => ⟨rfl, by rw [hU], by rw [hU]; exact hP, va_K.moved hW.alike hK, hD.weaken (fun _ _ _ _ => trivial)⟩⟩ rfl rfl hl.1 rfl (lv_room (Nat.le_of_ble_eq_true rfl)) d_S_take_73 ⟨Nat.zero_le _, Nat.zero_le _⟩) hS (fun q _ h => hFc q h) hFc (fun t9 H1 locs ht hvm hB hz1 hk1 hS => ?_)
        obtain ⟨hP1, hK1, hD1⟩ := hB
        rw [ht] at hP1
        have hK1 := va_K.moved hvm.symm hK1
        obtain ⟨hP, hD⟩ := va_join (wr := []) (w1 := [(h0, .inr (0, [.int w, .int wh, .int (f_wordFor a1), .int (nI 2), .int (wc + (nI 1))]))]) hP hD [0] [] rfl rfl (by decide) (by decide) hk1 hFc hP1 hD1
        generalize H1 = H at hP hS ⊢
        have hP : va_P (dC, dI) classes [(h0, .inr (0, [.int w, .int wh, .int (f_wordFor a1), .int (nI 2), .int (wc + (nI 1))]))] H := hP
        have hD : va_D A [(h0, .inr (0, [.int w, .int wh, .int (f_wordFor a1), .int (nI 2), .int (wc + (nI 1))]))] := hD
        refine lv_iconst (v := nI 1) hx hb d_S_take_76 (by decide) ?_
        exact W.zret hx hb hr (by decide +kernel) (fun t ht hW => ⟨⟨_, (w, wh, (f_wordFor a1), (nI 2), (wc + (nI 1))), rfl, by rw [g_S_take, if_neg c1, if_pos c2, if_neg c3], by rw [ht]; exact hP, va_K.moved hW.alike hK, hD⟩, hS.F ht⟩) hS.2.2 d_S_take_77
      · refine lv_aload_n hx hb d_S_take_55 rfl (lv_at hl 0 rfl) ?_
        refine lv_iconst (v := nI 1) hx hb d_S_take_56 (by decide) ?_
        refine va_put (D := (dC, dI)) (ci := 0) (v := .int (nI 1)) (ty := .boolean) (C := R_S) (T := T_S) (N := 5) hx hb hts (fun w h => List.mem_cons_of_mem _ (i_S w h)) ty_S ty_S_ok nm_S hown hK hP hD hS 0 rfl rfl 0 (by decide) (hts _ (List.mem_cons_of_mem _ k_15)) (fun _ h9 => h9) rfl (by decide +kernel) rfl rfl (Nat.le_of_ble_eq_true rfl) d_S_take_57 (fun H locs hP hD hS => ?_)
        have hP : va_P (dC, dI) classes [(h0, .inr (0, [.int (nI 1), .int wh, .int lw, .int ll, .int wc]))] H := hP
        have hD : va_D A [(h0, .inr (0, [.int (nI 1), .int wh, .int lw, .int ll, .int wc]))] := hD
        refine lv_aload_n hx hb d_S_take_60 rfl (lv_at hl 0 rfl) ?_
        refine lv_iload_n hx hb d_S_take_61 rfl (lv_at hl 1 rfl) ?_
        refine va_put (D := (dC, dI)) (ci := 0) (v := .int a1) (ty := .int) (C := R_S) (T := T_S) (N := 5) hx hb hts (fun w h => List.mem_cons_of_mem _ (i_S w h)) ty_S ty_S_ok nm_S hown hK hP hD hS 0 rfl rfl 1 (by decide) (hts _ (List.mem_cons_of_mem _ k_16)) (fun _ h9 => h9) rfl (by decide +kernel) rfl rfl (Nat.le_of_ble_eq_true rfl) d_S_take_62 (fun H locs hP hD hS => ?_)
        have hP : va_P (dC, dI) classes [(h0, .inr (0, [.int (nI 1), .int a1, .int lw, .int ll, .int wc]))] H := hP
        have hD : va_D A [(h0, .inr (0, [.int (nI 1), .int a1, .int lw, .int ll, .int wc]))] := hD
        refine lv_iconst (v := nI 0) hx hb d_S_take_65 (by decide) ?_
        exact W.zret hx hb hr (by decide +kernel) (fun t ht hW => ⟨⟨_, ((nI 1), a1, lw, ll, wc), rfl, by rw [g_S_take, if_neg c1, if_pos c2, if_pos c3], by rw [ht]; exact hP, va_K.moved hW.alike hK, hD⟩, hS.F ht⟩) hS.2.2 d_S_take_66
    · refine lv_aload_n hx hb d_S_take_24 rfl (lv_at hl 0 rfl) ?_
      refine lv_iconst (v := nI 0) hx hb d_S_take_25 (by decide) ?_
      refine va_put (D := (dC, dI)) (ci := 0) (v := .int (nI 0)) (ty := .boolean) (C := R_S) (T := T_S) (N := 5) hx hb hts (fun w h => List.mem_cons_of_mem _ (i_S w h)) ty_S ty_S_ok nm_S hown hK hP hD hS 0 rfl rfl 0 (by decide) (hts _ (List.mem_cons_of_mem _ k_15)) (fun _ h9 => h9) rfl (by decide +kernel) rfl rfl (Nat.le_of_ble_eq_true rfl) d_S_take_26 (fun H locs hP hD hS => ?_)
      have hP : va_P (dC, dI) classes [(h0, .inr (0, [.int (nI 0), .int wh, .int lw, .int ll, .int wc]))] H := hP
      have hD : va_D A [(h0, .inr (0, [.int (nI 0), .int wh, .int lw, .int ll, .int wc]))] := hD
      refine lv_aload_n hx hb d_S_take_29 rfl (lv_at hl 0 rfl) ?_
      refine lv_iload_n hx hb d_S_take_30 rfl (lv_at hl 1 rfl) ?_
      refine lv_bipush (v := nI 16) hx hb d_S_take_31 (by decide) ?_
      refine lv_ishl hx hb d_S_take_33 ?_
      refine lv_aload_n hx hb d_S_take_34 rfl (lv_at hl 0 rfl) ?_
      refine va_get (D := (dC, dI)) (ci := 0) (v := .int wh) (C := R_S) (T := T_S) (N := 5) hx hb hts (fun w h => List.mem_cons_of_mem _ (i_S w h)) hown hK hP 0 rfl rfl 1 (by decide) (hts _ (List.mem_cons_of_mem _ k_16)) (fun _ h9 => h9) rfl d_S_take_35 ?_
      refine lv_ior hx hb d_S_take_38 ?_
      refine lv_iconst (v := nI 4) hx hb d_S_take_39 (by decide) ?_
      have hFc := va_free (wc := [(h0, .inr (0, [.int (nI 0), .int wh, .int lw, .int ll, .int wc]))]) hD hS hA [0] rfl
      refine callQv (va_runV (b := h0) (As := [.int ((a1 <<< ((nI 16) &&& 31)) ||| wh), .int (nI 4)]) (rest := []) ⟨hx, hb, hml, hown, hts⟩ (c_S_keepWhole l dC dI h0 H.size (nI 0) wh lw ll wc ((a1 <<< ((nI 16) &&& 31)) ||| wh) (nI 4)) (cwV 2 hts (gV awx k_280 k_282 ks_1 k_1 k_283) rfl rfl rfl (by decide +kernel) ⟨Nat.le_of_ble_eq_true rfl, Nat.le_of_ble_eq_true rfl⟩) ⟨o_blind, va_recv hK hP (ci := 0) (q0 := 0) rfl rfl, fun U hU hW => ⟨rfl, by rw [hU], by rw [hU]; exact hP, va_K.moved hW.alike hK, hD.weaken (fun _ _ _ _ => trivial)⟩⟩ rfl rfl hl.1 rfl (lv_room (Nat.le_of_ble_eq_true rfl)) d_S_take_40 ⟨Nat.zero_le _, Nat.zero_le _⟩) hS (fun q _ h => hFc q h) hFc (fun t9 H1 locs ht hvm hB hz1 hk1 hS => ?_)
      obtain ⟨hP1, hK1, hD1⟩ := hB
      rw [ht] at hP1
      have hK1 := va_K.moved hvm.symm hK1
      obtain ⟨hP, hD⟩ := va_join (wr := []) (w1 := [(h0, .inr (0, [.int (nI 0), .int wh, .int ((a1 <<< ((nI 16) &&& 31)) ||| wh), .int (nI 4), .int (wc + (nI 1))]))]) hP hD [0] [] rfl rfl (by decide) (by decide) hk1 hFc hP1 hD1
      generalize H1 = H at hP hS ⊢
      have hP : va_P (dC, dI) classes [(h0, .inr (0, [.int (nI 0), .int wh, .int ((a1 <<< ((nI 16) &&& 31)) ||| wh), .int (nI 4), .int (wc + (nI 1))]))] H := hP
      have hD : va_D A [(h0, .inr (0, [.int (nI 0), .int wh, .int ((a1 <<< ((nI 16) &&& 31)) ||| wh), .int (nI 4), .int (wc + (nI 1))]))] := hD
      refine lv_iconst (v := nI 1) hx hb d_S_take_43 (by decide) ?_
      exact W.zret hx hb hr (by decide +kernel) (fun t ht hW => ⟨⟨_, ((nI 0), wh, ((a1 <<< ((nI 16) &&& 31)) ||| wh), (nI 4), (wc + (nI 1))), rfl, by rw [g_S_take, if_neg c1, if_neg c2], by rw [ht]; exact hP, va_K.moved hW.alike hK, hD⟩, hS.F ht⟩) hS.2.2 d_S_take_44
  · exact absurd c1 hv9
