set_option maxHeartbeats 40000000 in
set_option maxRecDepth 100000 in
theorem c_L_expand (l : Launch) (dC : Nat → ClassId) (dI : Nat → Nat → Nat) (t : Nat → Nat) (q0 q2 sz : Nat) (cA : ClassId) (w wh lw ll wc : Int32) (f : Nat → Int64) (a1 : Int32) (hv9 : ¬ f_isHalf a1 = 0) : Met l y_L_expand w_L_expand { frames := 6, cells := 0, slots := 0, locals := 132 } (va_Pc [.ref q0, .int a1, .ref q2] (l_B dC dI t sz cA [(q0, .inr (0, [.int w, .int wh, .int lw, .int ll, .int wc])), (q2, .inl (cA, 1, .inr (.inl f)))])) (va_Qi (fun r (_ : Unit) => r = nI 0) (fun _ t9 => at_L dC dI (va_A [(q0, .inr (0, [.int w, .int wh, .int lw, .int ll, .int wc])), (q2, .inl (cA, 1, .inr (.inl f)))] sz) cA [(q0, .inr (0, [.int w, .int wh, .int lw, .int ll, .int wc])), (q2, .inl (cA, 1, .inr (.inl (vp_updL f (nI 0).toNatClampNeg (f_wordFor a1).toInt64))))] t9) (va_A [(q0, .inr (0, [.int w, .int wh, .int lw, .int ll, .int wc])), (q2, .inl (cA, 1, .inr (.inl f)))] sz)) 0 0 (va_A [(q0, .inr (0, [.int w, .int wh, .int lw, .int ll, .int wc])), (q2, .inl (cA, 1, .inr (.inl f)))] sz) := by
  refine va_MetW (cc := b_L_expand) (maxL := 4) (ret := (some .int)) (hh := [(0, 9, 12, 13)]) (by decide) rfl ?_
  intro p e s m args below meth c s₁ B hml hv
  obtain ⟨rfl, hsz, hP, hK, hD0, hT⟩ := hv
  have hx := B.exec
  have hb := B.bytes
  have hr := B.returns
  have hts := atoms_spec (ws := w_L_expand) B.pre
  have hown : s.vm.findClass R_L = some m.cls := findClass_of_methodNamed B.named
  have hlocks := B.notSynchronized
  have hl := lv_entry ([.ref q0, .int a1, .ref q2]) (n := 4) (Nat.le_of_ble_eq_true rfl)
  rw [lg_entry_eq]
  generalize (lg_sl ([.ref q0, .int a1, .ref q2]) ++ List.replicate (4 - (lg_sl ([.ref q0, .int a1, .ref q2])).length) Slot.unset).toArray = ls at hl ⊢
  have hl : lv_has ls 4 [(0, .ref q0), (1, .int a1), (2, .ref q2)] := hl
  subst hsz
  have hD := hD0.self (sz := s.heap.size)
  generalize hAe : va_A [(q0, .inr (0, [.int w, .int wh, .int lw, .int ll, .int wc])), (q2, .inl (cA, 1, .inr (.inl f)))] s.heap.size = A at hD hT ⊢
  have hA : ∀ q : Nat, s.heap.size ≤ q → A q := fun q h => by rw [← hAe]; exact Or.inr h
  have hS : va_S A s.heap s.heap [] := va_S.rf
  have hP : va_P (dC, dI) classes [(q0, .inr (0, [.int w, .int wh, .int lw, .int ll, .int wc])), (q2, .inl (cA, 1, .inr (.inl f)))] s.heap := hP
  refine lv_aload_n hx hb d_L_expand_0 rfl (lv_at hl 2 rfl) ?_
  refine lv_iconst (v := nI 0) hx hb d_L_expand_1 (by decide) ?_
  refine lv_aload_n hx hb d_L_expand_2 rfl (lv_at hl 0 rfl) ?_
  refine lv_iload_n hx hb d_L_expand_3 rfl (lv_at hl 1 rfl) ?_
  refine callE (W.runV (b := q0) (As := [.int a1]) (rest := [.int (nI 0), .ref q2]) ⟨hx, hb, hml, hown, hts⟩ (c_S_expand l t q0 a1 hv9) (cwV 1 hts (gV awx k_199 k_200 k_201 k_1 k_202) rfl rfl rfl (by decide +kernel) ⟨Nat.le_of_ble_eq_true rfl, Nat.le_of_ble_eq_true rfl⟩) (tb_preV (tb_keep hT hS) (va_recv hK hP (ci := 0) (q0 := 0) rfl rfl)) rfl rfl hl.1 rfl (lv_room (Nat.le_of_ble_eq_true rfl)) d_L_expand_4 ⟨Nat.zero_le _, Nat.zero_le _⟩) ?_
  refine lv_i2l (v := (f_wordFor a1).toInt64) hx hb d_L_expand_7 rfl ?_
  refine va_last (x := (f_wordFor a1).toInt64) hx hb hK hP hD hS 1 0 rfl rfl (vp_in_nI (by decide) (by decide)) d_L_expand_8 (fun H locs hP hD hS => ?_)
  have hP : va_P (dC, dI) classes [(q0, .inr (0, [.int w, .int wh, .int lw, .int ll, .int wc])), (q2, .inl (cA, 1, .inr (.inl (vp_updL f (nI 0).toNatClampNeg (f_wordFor a1).toInt64))))] H := hP
  have hD : va_D A [(q0, .inr (0, [.int w, .int wh, .int lw, .int ll, .int wc])), (q2, .inl (cA, 1, .inr (.inl (vp_updL f (nI 0).toNatClampNeg (f_wordFor a1).toInt64))))] := hD
  refine lv_goto (tgt := 15) hx hb d_L_expand_9 (by decide) ?_
  refine lv_iconst (v := nI 0) hx hb d_L_expand_15 (by decide) ?_
  exact W.iret hx hb hr (fun t ht hW => ⟨⟨_, (), rfl, rfl, by rw [ht]; exact hP, va_K.moved hW.alike hK, hD⟩, hS.F ht⟩) hS.2.2 d_L_expand_16
set_option maxHeartbeats 40000000 in
set_option maxRecDepth 100000 in
theorem c_L_expand_bad (l : Launch) (hst : l.stackTraces = false) (dC : Nat → ClassId) (dI : Nat → Nat → Nat) (t : Nat → Nat) (q0 q2 sz : Nat) (cA : ClassId) (w wh lw ll wc : Int32) (f : Nat → Int64) (a1 : Int32) (hv9 : f_isHalf a1 = 0) : Met l y_L_expand w_L_expand { frames := 7, cells := 1, slots := 6, locals := 103 } (va_Pc [.ref q0, .int a1, .ref q2] (fun U => l_B dC dI t sz cA [(q0, .inr (0, [.int w, .int wh, .int lw, .int ll, .int wc])), (q2, .inl (cA, 1, .inr (.inl f)))] U ∧ xx U)) (va_Qi (fun r (_ : Unit) => r = nI 1) (fun _ t9 => at_L dC dI (va_A [(q0, .inr (0, [.int w, .int wh, .int lw, .int ll, .int wc])), (q2, .inl (cA, 1, .inr (.inl f)))] sz) cA [(q0, .inr (0, [.int w, .int wh, .int lw, .int ll, .int wc])), (q2, .inl (cA, 1, .inr (.inl f)))] t9) (va_A [(q0, .inr (0, [.int w, .int wh, .int lw, .int ll, .int wc])), (q2, .inl (cA, 1, .inr (.inl f)))] sz)) 1 6 (va_A [(q0, .inr (0, [.int w, .int wh, .int lw, .int ll, .int wc])), (q2, .inl (cA, 1, .inr (.inl f)))] sz) := by
  refine va_MetW (cc := b_L_expand) (maxL := 4) (ret := (some .int)) (hh := [(0, 9, 12, 13)]) (by decide) rfl ?_
  intro p e s m args below meth c s₁ B hml hv
  obtain ⟨rfl, ⟨hsz, hP, hK, hD0, hT⟩, hXX⟩ := hv
  have hx := B.exec
  have hb := B.bytes
  have hr := B.returns
  have hts := atoms_spec (ws := w_L_expand) B.pre
  have hown : s.vm.findClass R_L = some m.cls := findClass_of_methodNamed B.named
  have hlocks := B.notSynchronized
  have hl := lv_entry ([.ref q0, .int a1, .ref q2]) (n := 4) (Nat.le_of_ble_eq_true rfl)
  rw [lg_entry_eq]
  generalize (lg_sl ([.ref q0, .int a1, .ref q2]) ++ List.replicate (4 - (lg_sl ([.ref q0, .int a1, .ref q2])).length) Slot.unset).toArray = ls at hl ⊢
  have hl : lv_has ls 4 [(0, .ref q0), (1, .int a1), (2, .ref q2)] := hl
  subst hsz
  have hD := hD0.self (sz := s.heap.size)
  generalize hAe : va_A [(q0, .inr (0, [.int w, .int wh, .int lw, .int ll, .int wc])), (q2, .inl (cA, 1, .inr (.inl f)))] s.heap.size = A at hD hT ⊢
  have hA : ∀ q : Nat, s.heap.size ≤ q → A q := fun q h => by rw [← hAe]; exact Or.inr h
  have hS : va_S A s.heap s.heap [] := va_S.rf
  have hP : va_P (dC, dI) classes [(q0, .inr (0, [.int w, .int wh, .int lw, .int ll, .int wc])), (q2, .inl (cA, 1, .inr (.inl f)))] s.heap := hP
  obtain ⟨x, htab, e1, e2, e3, e4⟩ := x_row (x_table B (hts _ List.mem_cons_self))
  refine lv_aload_n hx hb d_L_expand_0 rfl (lv_at hl 2 rfl) ?_
  refine lv_iconst (v := nI 0) hx hb d_L_expand_1 (by decide) ?_
  refine lv_aload_n hx hb d_L_expand_2 rfl (lv_at hl 0 rfl) ?_
  refine lv_iload_n hx hb d_L_expand_3 rfl (lv_at hl 1 rfl) ?_
  refine x_call (E := xE) (D := xE) (x := x) (As := [.int a1]) (rest := [.int (nI 0), .ref q2]) ⟨hx, hb, hml, hown, hts⟩ (c_S_expand_bad l hst t q0 a1 hv9) (cwV 1 hts (gV awx k_199 k_200 k_201 k_1 k_202) rfl rfl rfl (by decide +kernel) ⟨Nat.le_of_ble_eq_true rfl, Nat.le_of_ble_eq_true rfl⟩) (tbx_preV (tb_keep hT hS) hXX (va_recv hK hP (ci := 0) (q0 := 0) rfl rfl)) rfl hl.1 rfl (Nat.le_of_ble_eq_true rfl) d_L_expand_4 ⟨Nat.le_of_ble_eq_true rfl, Nat.le_of_ble_eq_true rfl⟩ htab (by unfold covers; rw [e1, e2]; decide) (by rw [e4]; decide) (by rw [e4]; exact hts _ (List.mem_cons_of_mem _ k_198)) (va_tabs (c := .castable xE xE) rfl (A := #[]) (u := s) (U := s) rfl (hXX.2.2.2 _ xe_fw)) (fun q9 H1 hz hk => ?_)
  rw [e3]
  have hP : va_P (dC, dI) classes [(q0, .inr (0, [.int w, .int wh, .int lw, .int ll, .int wc])), (q2, .inl (cA, 1, .inr (.inl f)))] H1 := hP.kept (fun k q h => hk q.1 (hP k q h).lt)
  have hS : va_S A s.heap H1 [] := ⟨hz, fun q h _ => hk q h, fun q h => nomatch h⟩
  refine lv_astore_n (lv' := [(3, .ref q9), (0, .ref q0), (1, .int a1), (2, .ref q2)]) hx hb d_L_expand_12 rfl hl (by decide) rfl (fun ls hl => ?_)
  refine lv_iconst (v := nI 1) hx hb d_L_expand_13 (by decide) ?_
  exact W.iret hx hb hr (fun t ht hW => ⟨⟨_, (), rfl, rfl, by rw [ht]; exact hP, va_K.moved hW.alike hK, hD⟩, hS.F ht⟩) hS.2.2 d_L_expand_14
set_option maxHeartbeats 40000000 in
set_option maxRecDepth 100000 in
theorem c_L_take_bad (l : Launch) (hst : l.stackTraces = false) (dC : Nat → ClassId) (dI : Nat → Nat → Nat) (t : Nat → Nat) (q0 q2 sz : Nat) (cA : ClassId) (w wh lw ll wc : Int32) (f : Nat → Int64) (a1 : Int32) (hv9 : f_isHalf a1 = 0) : Met l y_L_take w_L_take { frames := 7, cells := 1, slots := 6, locals := 103 } (va_Pc [.ref q0, .int a1, .ref q2] (fun U => l_B dC dI t sz cA [(q0, .inr (0, [.int w, .int wh, .int lw, .int ll, .int wc])), (q2, .inl (cA, 1, .inr (.inl f)))] U ∧ xx U)) (va_Qi (fun r (_ : Unit) => r = nI 1) (fun _ t9 => at_L dC dI (va_A [(q0, .inr (0, [.int w, .int wh, .int lw, .int ll, .int wc])), (q2, .inl (cA, 1, .inr (.inl f)))] sz) cA [(q0, .inr (0, [.int w, .int wh, .int lw, .int ll, .int wc])), (q2, .inl (cA, 1, .inr (.inl f)))] t9) (va_A [(q0, .inr (0, [.int w, .int wh, .int lw, .int ll, .int wc])), (q2, .inl (cA, 1, .inr (.inl f)))] sz)) 1 6 (va_A [(q0, .inr (0, [.int w, .int wh, .int lw, .int ll, .int wc])), (q2, .inl (cA, 1, .inr (.inl f)))] sz) := by
  refine va_MetW (cc := b_L_take) (maxL := 4) (ret := (some .int)) (hh := [(0, 16, 19, 13)]) (by decide) rfl ?_
  intro p e s m args below meth c s₁ B hml hv
  obtain ⟨rfl, ⟨hsz, hP, hK, hD0, hT⟩, hXX⟩ := hv
  have hx := B.exec
  have hb := B.bytes
  have hr := B.returns
  have hts := atoms_spec (ws := w_L_take) B.pre
  have hown : s.vm.findClass R_L = some m.cls := findClass_of_methodNamed B.named
  have hlocks := B.notSynchronized
  have hl := lv_entry ([.ref q0, .int a1, .ref q2]) (n := 4) (Nat.le_of_ble_eq_true rfl)
  rw [lg_entry_eq]
  generalize (lg_sl ([.ref q0, .int a1, .ref q2]) ++ List.replicate (4 - (lg_sl ([.ref q0, .int a1, .ref q2])).length) Slot.unset).toArray = ls at hl ⊢
  have hl : lv_has ls 4 [(0, .ref q0), (1, .int a1), (2, .ref q2)] := hl
  subst hsz
  have hD := hD0.self (sz := s.heap.size)
  generalize hAe : va_A [(q0, .inr (0, [.int w, .int wh, .int lw, .int ll, .int wc])), (q2, .inl (cA, 1, .inr (.inl f)))] s.heap.size = A at hD hT ⊢
  have hA : ∀ q : Nat, s.heap.size ≤ q → A q := fun q h => by rw [← hAe]; exact Or.inr h
  have hS : va_S A s.heap s.heap [] := va_S.rf
  have hP : va_P (dC, dI) classes [(q0, .inr (0, [.int w, .int wh, .int lw, .int ll, .int wc])), (q2, .inl (cA, 1, .inr (.inl f)))] s.heap := hP
  obtain ⟨x, htab, e1, e2, e3, e4⟩ := x_row (x_table B (hts _ List.mem_cons_self))
  refine lv_aload_n hx hb d_L_take_0 rfl (lv_at hl 2 rfl) ?_
  refine lv_iconst (v := nI 0) hx hb d_L_take_1 (by decide) ?_
  refine lv_aload_n hx hb d_L_take_2 rfl (lv_at hl 0 rfl) ?_
  refine lv_iload_n hx hb d_L_take_3 rfl (lv_at hl 1 rfl) ?_
  refine x_call (E := xE) (D := xE) (x := x) (As := [.int a1]) (rest := [.int (nI 0), .ref q2]) ⟨hx, hb, hml, hown, hts⟩ (c_S_take_bad l hst t q0 a1 hv9) (cwV 1 hts (gV awx k_276 k_277 k_278 k_1 k_279) rfl rfl rfl (by decide +kernel) ⟨Nat.le_of_ble_eq_true rfl, Nat.le_of_ble_eq_true rfl⟩) (tbx_preV (tb_keep hT hS) hXX (va_recv hK hP (ci := 0) (q0 := 0) rfl rfl)) rfl hl.1 rfl (Nat.le_of_ble_eq_true rfl) d_L_take_4 ⟨Nat.le_of_ble_eq_true rfl, Nat.le_of_ble_eq_true rfl⟩ htab (by unfold covers; rw [e1, e2]; decide) (by rw [e4]; decide) (by rw [e4]; exact hts _ (List.mem_cons_of_mem _ k_198)) (va_tabs (c := .castable xE xE) rfl (A := #[]) (u := s) (U := s) rfl (hXX.2.2.2 _ xe_fw)) (fun q9 H1 hz hk => ?_)
  rw [e3]
  have hP : va_P (dC, dI) classes [(q0, .inr (0, [.int w, .int wh, .int lw, .int ll, .int wc])), (q2, .inl (cA, 1, .inr (.inl f)))] H1 := hP.kept (fun k q h => hk q.1 (hP k q h).lt)
  have hS : va_S A s.heap H1 [] := ⟨hz, fun q h _ => hk q h, fun q h => nomatch h⟩
  refine lv_astore_n (lv' := [(3, .ref q9), (0, .ref q0), (1, .int a1), (2, .ref q2)]) hx hb d_L_take_19 rfl hl (by decide) rfl (fun ls hl => ?_)
  refine lv_iconst (v := nI 1) hx hb d_L_take_20 (by decide) ?_
  exact W.iret hx hb hr (fun t ht hW => ⟨⟨_, (), rfl, rfl, by rw [ht]; exact hP, va_K.moved hW.alike hK, hD⟩, hS.F ht⟩) hS.2.2 d_L_take_21
set_option maxHeartbeats 40000000 in
set_option maxRecDepth 100000 in
theorem c_L_take (l : Launch) (dC : Nat → ClassId) (dI : Nat → Nat → Nat) (t : Nat → Nat) (q0 q2 sz : Nat) (cA : ClassId) (w wh lw ll wc : Int32) (f : Nat → Int64) (a1 : Int32) (hv9 : ¬ f_isHalf a1 = 0) : Met l y_L_take w_L_take { frames := 6, cells := 0, slots := 0, locals := 132 } (va_Pc [.ref q0, .int a1, .ref q2] (l_B dC dI t sz cA [(q0, .inr (0, [.int w, .int wh, .int lw, .int ll, .int wc])), (q2, .inl (cA, 1, .inr (.inl f)))])) (va_Qi (fun r (z : Int32 × (Int32 × Int32 × Int32 × Int32 × Int32)) => r = nI 0 ∧ z = g_S_take w wh lw ll wc a1) (fun (z : Int32 × (Int32 × Int32 × Int32 × Int32 × Int32)) t9 => match z with | (r2, (w2, wh2, lw2, ll2, wc2)) => at_L dC dI (va_A [(q0, .inr (0, [.int w, .int wh, .int lw, .int ll, .int wc])), (q2, .inl (cA, 1, .inr (.inl f)))] sz) cA [(q0, .inr (0, [.int w2, .int wh2, .int lw2, .int ll2, .int wc2])), (q2, .inl (cA, 1, .inr (.inl (vp_updL f (nI 0).toNatClampNeg (if r2 = 0 then lN 0 else lN 1)))))] t9) (va_A [(q0, .inr (0, [.int w, .int wh, .int lw, .int ll, .int wc])), (q2, .inl (cA, 1, .inr (.inl f)))] sz)) 0 0 (va_A [(q0, .inr (0, [.int w, .int wh, .int lw, .int ll, .int wc])), (q2, .inl (cA, 1, .inr (.inl f)))] sz) := by
  refine va_MetW (cc := b_L_take) (maxL := 4) (ret := (some .int)) (hh := [(0, 16, 19, 13)]) (by decide) rfl ?_
  intro p e s m args below meth c s₁ B hml hv
  obtain ⟨rfl, hsz, hP, hK, hD0, hT⟩ := hv
  have hx := B.exec
  have hb := B.bytes
  have hr := B.returns
  have hts := atoms_spec (ws := w_L_take) B.pre
  have hown : s.vm.findClass R_L = some m.cls := findClass_of_methodNamed B.named
  have hlocks := B.notSynchronized
  have hl := lv_entry ([.ref q0, .int a1, .ref q2]) (n := 4) (Nat.le_of_ble_eq_true rfl)
  rw [lg_entry_eq]
  generalize (lg_sl ([.ref q0, .int a1, .ref q2]) ++ List.replicate (4 - (lg_sl ([.ref q0, .int a1, .ref q2])).length) Slot.unset).toArray = ls at hl ⊢
  have hl : lv_has ls 4 [(0, .ref q0), (1, .int a1), (2, .ref q2)] := hl
  subst hsz
  have hD := hD0.self (sz := s.heap.size)
  generalize hAe : va_A [(q0, .inr (0, [.int w, .int wh, .int lw, .int ll, .int wc])), (q2, .inl (cA, 1, .inr (.inl f)))] s.heap.size = A at hD hT ⊢
  have hA : ∀ q : Nat, s.heap.size ≤ q → A q := fun q h => by rw [← hAe]; exact Or.inr h
  have hS : va_S A s.heap s.heap [] := va_S.rf
  have hP : va_P (dC, dI) classes [(q0, .inr (0, [.int w, .int wh, .int lw, .int ll, .int wc])), (q2, .inl (cA, 1, .inr (.inl f)))] s.heap := hP
  refine lv_aload_n hx hb d_L_take_0 rfl (lv_at hl 2 rfl) ?_
  refine lv_iconst (v := nI 0) hx hb d_L_take_1 (by decide) ?_
  refine lv_aload_n hx hb d_L_take_2 rfl (lv_at hl 0 rfl) ?_
  refine lv_iload_n hx hb d_L_take_3 rfl (lv_at hl 1 rfl) ?_
  have hPc := hP.sub (ws' := [(q0, .inr (0, [.int w, .int wh, .int lw, .int ll, .int wc]))]) [0] rfl
  have hDc := hD.sub (ws' := [(q0, .inr (0, [.int w, .int wh, .int lw, .int ll, .int wc]))]) [0] (by decide) rfl
  have hKc := hK.sub (tys' := []) [] rfl
  have hFc := va_free (wc := [(q0, .inr (0, [.int w, .int wh, .int lw, .int ll, .int wc]))]) hD hS hA [0] rfl
  refine va_calli (va_runV (b := q0) (As := [.int a1]) (rest := [.int (nI 0), .ref q2]) ⟨hx, hb, hml, hown, hts⟩ (c_S_take l dC dI t q0 s.heap.size w wh lw ll wc a1 hv9) (cwV 1 hts (gV awx k_276 k_277 k_278 k_1 k_279) rfl rfl rfl (by decide +kernel) ⟨Nat.le_of_ble_eq_true rfl, Nat.le_of_ble_eq_true rfl⟩) ⟨t_blind, va_recv hK hP (ci := 0) (q0 := 0) rfl rfl, fun U hU hW => ⟨rfl, ⟨by rw [hU], by rw [hU]; exact hPc, va_K.moved hW.alike hKc, hDc.weaken (fun _ _ _ _ => trivial)⟩, by rw [hU]; exact tbA.moved hW.alike (hT.narrow hFc)⟩⟩ rfl rfl hl.1 rfl (lv_room (Nat.le_of_ble_eq_true rfl)) d_L_take_4 ⟨Nat.zero_le _, Nat.zero_le _⟩) hS (fun q _ h => hFc q h) hFc (fun r2 u t9 H1 locs ht hvm hw hB hz1 hk1 hS => ?_)
  obtain ⟨w2, wh2, lw2, ll2, wc2⟩ := u
  obtain ⟨hP1, hK1, hD1⟩ := hB
  rw [ht] at hP1
  obtain ⟨hP, hD⟩ := va_join (wr := [(q2, .inl (cA, 1, .inr (.inl f)))]) (w1 := [(q0, .inr (0, [.int w2, .int wh2, .int lw2, .int ll2, .int wc2]))]) hP hD [0] [1] rfl rfl (by decide) (by decide) hk1 hFc hP1 hD1
  generalize H1 = H at hP hS ⊢
  have hP : va_P (dC, dI) classes [(q0, .inr (0, [.int w2, .int wh2, .int lw2, .int ll2, .int wc2])), (q2, .inl (cA, 1, .inr (.inl f)))] H := hP.sub [1, 0] rfl
  have hD : va_D A [(q0, .inr (0, [.int w2, .int wh2, .int lw2, .int ll2, .int wc2])), (q2, .inl (cA, 1, .inr (.inl f)))] := hD.sub [1, 0] (by decide) rfl
  refine lv_if_eq (tgt := 14) hx hb d_L_take_7 (by decide) (fun c1 => ?_) (fun c1 => ?_)
  · refine lv_lconst (v := lN 0) hx hb d_L_take_14 rfl ?_
    refine va_last (x := (lN 0)) hx hb hK hP hD hS 1 0 rfl rfl (vp_in_nI (by decide) (by decide)) d_L_take_15 (fun H locs hP hD hS => ?_)
    have hP : va_P (dC, dI) classes [(q0, .inr (0, [.int w2, .int wh2, .int lw2, .int ll2, .int wc2])), (q2, .inl (cA, 1, .inr (.inl (vp_updL f (nI 0).toNatClampNeg (lN 0)))))] H := hP
    have hD : va_D A [(q0, .inr (0, [.int w2, .int wh2, .int lw2, .int ll2, .int wc2])), (q2, .inl (cA, 1, .inr (.inl (vp_updL f (nI 0).toNatClampNeg (lN 0)))))] := hD
    refine lv_goto (tgt := 22) hx hb d_L_take_16 (by decide) ?_
    refine lv_iconst (v := nI 0) hx hb d_L_take_22 (by decide) ?_
    exact W.iret hx hb hr (fun t ht hW => ⟨⟨_, (r2, (w2, wh2, lw2, ll2, wc2)), rfl, ⟨rfl, hw⟩, by rw [ht, if_pos c1]; exact hP, va_K.moved hW.alike hK, by rw [if_pos c1]; exact hD⟩, hS.F ht⟩) hS.2.2 d_L_take_23
  · refine lv_lconst (v := lN 1) hx hb d_L_take_10 rfl ?_
    refine lv_goto (tgt := 15) hx hb d_L_take_11 (by decide) ?_
    refine va_last (x := (lN 1)) hx hb hK hP hD hS 1 0 rfl rfl (vp_in_nI (by decide) (by decide)) d_L_take_15 (fun H locs hP hD hS => ?_)
    have hP : va_P (dC, dI) classes [(q0, .inr (0, [.int w2, .int wh2, .int lw2, .int ll2, .int wc2])), (q2, .inl (cA, 1, .inr (.inl (vp_updL f (nI 0).toNatClampNeg (lN 1)))))] H := hP
    have hD : va_D A [(q0, .inr (0, [.int w2, .int wh2, .int lw2, .int ll2, .int wc2])), (q2, .inl (cA, 1, .inr (.inl (vp_updL f (nI 0).toNatClampNeg (lN 1)))))] := hD
    refine lv_goto (tgt := 22) hx hb d_L_take_16 (by decide) ?_
    refine lv_iconst (v := nI 0) hx hb d_L_take_22 (by decide) ?_
    exact W.iret hx hb hr (fun t ht hW => ⟨⟨_, (r2, (w2, wh2, lw2, ll2, wc2)), rfl, ⟨rfl, hw⟩, by rw [ht, if_neg c1]; exact hP, va_K.moved hW.alike hK, by rw [if_neg c1]; exact hD⟩, hS.F ht⟩) hS.2.2 d_L_take_23
