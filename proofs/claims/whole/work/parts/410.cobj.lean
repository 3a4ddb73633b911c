set_option maxHeartbeats 40000000 in
set_option maxRecDepth 100000 in
theorem c_S_init (l : Launch) (dC : Nat → ClassId) (dI : Nat → Nat → Nat) (h0 sz : Nat) (w wh lw ll wc : Int32) : Met l y_S_init w_S_init { frames := 1, cells := 0, slots := 0, locals := 12 } (va_Pc [.ref h0] (o_B dC dI sz [(h0, .inr (0, [.int w, .int wh, .int lw, .int ll, .int wc]))])) (va_Qv (fun (_ : Unit) => True) (fun (_ : Unit) t => at_S dC dI (va_A [(h0, .inr (0, [.int w, .int wh, .int lw, .int ll, .int wc]))] sz) h0 ((nI 0), (nI 0), (nI 0), (nI 0), (nI 0)) t) (va_A [(h0, .inr (0, [.int w, .int wh, .int lw, .int ll, .int wc]))] sz)) 0 0 (va_A [(h0, .inr (0, [.int w, .int wh, .int lw, .int ll, .int wc]))] sz) := by
  refine Met.ofW (cc := b_S_init) (maxL := 1) (ret := none) (by decide) rfl ?_
  intro p e s m args below meth c s₁ B hml hv
  obtain ⟨rfl, hsz, hP, hK, hD0⟩ := hv
  have hx := B.exec
  have hb := B.bytes
  have hr := B.returns
  have hts := atoms_spec (ws := w_S_init) B.pre
  have hown : s.vm.findClass R_S = some m.cls := findClass_of_methodNamed B.named
  have hlocks := B.notSynchronized
  have hl := lv_entry ([.ref h0]) (n := 1) (Nat.le_of_ble_eq_true rfl)
  rw [lg_entry_eq]
  generalize (lg_sl ([.ref h0]) ++ List.replicate (1 - (lg_sl ([.ref h0])).length) Slot.unset).toArray = ls at hl ⊢
  have hl : lv_has ls 1 [(0, .ref h0)] := hl
  subst hsz
  have hD := hD0.self (sz := s.heap.size)
  generalize hAe : va_A [(h0, .inr (0, [.int w, .int wh, .int lw, .int ll, .int wc]))] s.heap.size = A at hD ⊢
  have hA : ∀ q : Nat, s.heap.size ≤ q → A q := fun q h => by rw [← hAe]; exact Or.inr h
  have hS : va_S A s.heap s.heap [] := va_S.rf
  have hP : va_P (dC, dI) classes [(h0, .inr (0, [.int w, .int wh, .int lw, .int ll, .int wc]))] s.heap := hP
  refine lv_aload_n hx hb d_S_init_0 rfl (lv_at hl 0 rfl) ?_
  refine W.objInit hx hb hown (hts _ (List.mem_cons_of_mem _ k_12)) (hts _ (List.mem_cons_of_mem _ k_13)) (hts _ (List.mem_cons_of_mem _ k_14)) rfl (by rw [hml]; exact hl.1) rfl d_S_init_1 (Nat.le_of_ble_eq_true rfl) (Nat.le_of_ble_eq_true rfl) ?_
  refine W.eq (g2 := F0 m 4 ls []) rfl ?_
  refine lv_aload_n hx hb d_S_init_4 rfl (lv_at hl 0 rfl) ?_
  refine lv_iconst (v := nI 0) hx hb d_S_init_5 (by decide) ?_
  refine va_put (D := (dC, dI)) (ci := 0) (v := .int (nI 0)) (ty := .boolean) (C := R_S) (T := T_S) (N := 5) hx hb hts (fun w h => List.mem_cons_of_mem _ (i_S w h)) ty_S ty_S_ok nm_S hown hK hP hD hS 0 rfl rfl 0 (by decide) (hts _ (List.mem_cons_of_mem _ k_15)) (fun _ h9 => h9) rfl (by decide +kernel) rfl rfl (Nat.le_of_ble_eq_true rfl) d_S_init_6 (fun H locs hP hD hS => ?_)
  have hP : va_P (dC, dI) classes [(h0, .inr (0, [.int (nI 0), .int wh, .int lw, .int ll, .int wc]))] H := hP
  have hD : va_D A [(h0, .inr (0, [.int (nI 0), .int wh, .int lw, .int ll, .int wc]))] := hD
  refine lv_aload_n hx hb d_S_init_9 rfl (lv_at hl 0 rfl) ?_
  refine lv_iconst (v := nI 0) hx hb d_S_init_10 (by decide) ?_
  refine va_put (D := (dC, dI)) (ci := 0) (v := .int (nI 0)) (ty := .int) (C := R_S) (T := T_S) (N := 5) hx hb hts (fun w h => List.mem_cons_of_mem _ (i_S w h)) ty_S ty_S_ok nm_S hown hK hP hD hS 0 rfl rfl 1 (by decide) (hts _ (List.mem_cons_of_mem _ k_16)) (fun _ h9 => h9) rfl (by decide +kernel) rfl rfl (Nat.le_of_ble_eq_true rfl) d_S_init_11 (fun H locs hP hD hS => ?_)
  have hP : va_P (dC, dI) classes [(h0, .inr (0, [.int (nI 0), .int (nI 0), .int lw, .int ll, .int wc]))] H := hP
  have hD : va_D A [(h0, .inr (0, [.int (nI 0), .int (nI 0), .int lw, .int ll, .int wc]))] := hD
  refine lv_aload_n hx hb d_S_init_14 rfl (lv_at hl 0 rfl) ?_
  refine lv_iconst (v := nI 0) hx hb d_S_init_15 (by decide) ?_
  refine va_put (D := (dC, dI)) (ci := 0) (v := .int (nI 0)) (ty := .int) (C := R_S) (T := T_S) (N := 5) hx hb hts (fun w h => List.mem_cons_of_mem _ (i_S w h)) ty_S ty_S_ok nm_S hown hK hP hD hS 0 rfl rfl 2 (by decide) (hts _ (List.mem_cons_of_mem _ k_17)) (fun _ h9 => h9) rfl (by decide +kernel) rfl rfl (Nat.le_of_ble_eq_true rfl) d_S_init_16 (fun H locs hP hD hS => ?_)
  have hP : va_P (dC, dI) classes [(h0, .inr (0, [.int (nI 0), .int (nI 0), .int (nI 0), .int ll, .int wc]))] H := hP
  have hD : va_D A [(h0, .inr (0, [.int (nI 0), .int (nI 0), .int (nI 0), .int ll, .int wc]))] := hD
  refine lv_aload_n hx hb d_S_init_19 rfl (lv_at hl 0 rfl) ?_
  refine lv_iconst (v := nI 0) hx hb d_S_init_20 (by decide) ?_
  refine va_put (D := (dC, dI)) (ci := 0) (v := .int (nI 0)) (ty := .int) (C := R_S) (T := T_S) (N := 5) hx hb hts (fun w h => List.mem_cons_of_mem _ (i_S w h)) ty_S ty_S_ok nm_S hown hK hP hD hS 0 rfl rfl 3 (by decide) (hts _ (List.mem_cons_of_mem _ k_18)) (fun _ h9 => h9) rfl (by decide +kernel) rfl rfl (Nat.le_of_ble_eq_true rfl) d_S_init_21 (fun H locs hP hD hS => ?_)
  have hP : va_P (dC, dI) classes [(h0, .inr (0, [.int (nI 0), .int (nI 0), .int (nI 0), .int (nI 0), .int wc]))] H := hP
  have hD : va_D A [(h0, .inr (0, [.int (nI 0), .int (nI 0), .int (nI 0), .int (nI 0), .int wc]))] := hD
  refine lv_aload_n hx hb d_S_init_24 rfl (lv_at hl 0 rfl) ?_
  refine lv_iconst (v := nI 0) hx hb d_S_init_25 (by decide) ?_
  refine va_put (D := (dC, dI)) (ci := 0) (v := .int (nI 0)) (ty := .int) (C := R_S) (T := T_S) (N := 5) hx hb hts (fun w h => List.mem_cons_of_mem _ (i_S w h)) ty_S ty_S_ok nm_S hown hK hP hD hS 0 rfl rfl 4 (by decide) (hts _ (List.mem_cons_of_mem _ k_19)) (fun _ h9 => h9) rfl (by decide +kernel) rfl rfl (Nat.le_of_ble_eq_true rfl) d_S_init_26 (fun H locs hP hD hS => ?_)
  have hP : va_P (dC, dI) classes [(h0, .inr (0, [.int (nI 0), .int (nI 0), .int (nI 0), .int (nI 0), .int (nI 0)]))] H := hP
  have hD : va_D A [(h0, .inr (0, [.int (nI 0), .int (nI 0), .int (nI 0), .int (nI 0), .int (nI 0)]))] := hD
  exact W.vret hx hb hr (fun t ht hW => ⟨⟨(), rfl, trivial, by rw [ht]; exact hP, va_K.moved hW.alike hK, hD⟩, hS.F ht⟩) hS.2.2 d_S_init_29
set_option maxHeartbeats 40000000 in
set_option maxRecDepth 100000 in
theorem c_S_word (l : Launch) (dC : Nat → ClassId) (dI : Nat → Nat → Nat) (h0 : Nat) (w wh lw ll wc : Int32) : Met l y_S_word w_S_word { frames := 0, cells := 0, slots := 0, locals := 0 } (va_Pc [.ref h0] (fun U => va_P (dC, dI) classes [(h0, .inr (0, [.int w, .int wh, .int lw, .int ll, .int wc]))] U.heap ∧ va_K (dC, dI) classes [] U)) (vp_Si (fun r => r = lw)) 0 0 (fun _ => False) := by
  refine Met.ofW (cc := b_S_word) (maxL := 1) (ret := (some .int)) (by decide) rfl ?_
  intro p e s m args below meth c s₁ B hml hv
  obtain ⟨rfl, hP, hK⟩ := hv
  have hx := B.exec
  have hb := B.bytes
  have hr := B.returns
  have hts := atoms_spec (ws := w_S_word) B.pre
  have hown : s.vm.findClass R_S = some m.cls := findClass_of_methodNamed B.named
  have hlocks := B.notSynchronized
  have hl := lv_entry ([.ref h0]) (n := 1) (Nat.le_of_ble_eq_true rfl)
  rw [lg_entry_eq]
  generalize (lg_sl ([.ref h0]) ++ List.replicate (1 - (lg_sl ([.ref h0])).length) Slot.unset).toArray = ls at hl ⊢
  have hl : lv_has ls 1 [(0, .ref h0)] := hl
  have hP : va_P (dC, dI) classes [(h0, .inr (0, [.int w, .int wh, .int lw, .int ll, .int wc]))] s.heap := hP
  refine lv_aload_n hx hb d_S_word_0 rfl (lv_at hl 0 rfl) ?_
  refine va_get (D := (dC, dI)) (ci := 0) (v := .int lw) (C := R_S) (T := T_S) (N := 5) hx hb hts (fun w h => List.mem_cons_of_mem _ (i_S w h)) hown hK hP 0 rfl rfl 2 (by decide) (hts _ (List.mem_cons_of_mem _ k_17)) (fun _ h9 => h9) rfl d_S_word_1 ?_
  exact W.iret hx hb hr (fun t ht _ => ⟨_, rfl, rfl, ht⟩) (fun q h => nomatch h) d_S_word_4
set_option maxHeartbeats 40000000 in
set_option maxRecDepth 100000 in
theorem c_S_length (l : Launch) (dC : Nat → ClassId) (dI : Nat → Nat → Nat) (h0 : Nat) (w wh lw ll wc : Int32) : Met l y_S_length w_S_length { frames := 0, cells := 0, slots := 0, locals := 0 } (va_Pc [.ref h0] (fun U => va_P (dC, dI) classes [(h0, .inr (0, [.int w, .int wh, .int lw, .int ll, .int wc]))] U.heap ∧ va_K (dC, dI) classes [] U)) (vp_Si (fun r => r = ll)) 0 0 (fun _ => False) := by
  refine Met.ofW (cc := b_S_length) (maxL := 1) (ret := (some .int)) (by decide) rfl ?_
  intro p e s m args below meth c s₁ B hml hv
  obtain ⟨rfl, hP, hK⟩ := hv
  have hx := B.exec
  have hb := B.bytes
  have hr := B.returns
  have hts := atoms_spec (ws := w_S_length) B.pre
  have hown : s.vm.findClass R_S = some m.cls := findClass_of_methodNamed B.named
  have hlocks := B.notSynchronized
  have hl := lv_entry ([.ref h0]) (n := 1) (Nat.le_of_ble_eq_true rfl)
  rw [lg_entry_eq]
  generalize (lg_sl ([.ref h0]) ++ List.replicate (1 - (lg_sl ([.ref h0])).length) Slot.unset).toArray = ls at hl ⊢
  have hl : lv_has ls 1 [(0, .ref h0)] := hl
  have hP : va_P (dC, dI) classes [(h0, .inr (0, [.int w, .int wh, .int lw, .int ll, .int wc]))] s.heap := hP
  refine lv_aload_n hx hb d_S_length_0 rfl (lv_at hl 0 rfl) ?_
  refine va_get (D := (dC, dI)) (ci := 0) (v := .int ll) (C := R_S) (T := T_S) (N := 5) hx hb hts (fun w h => List.mem_cons_of_mem _ (i_S w h)) hown hK hP 0 rfl rfl 3 (by decide) (hts _ (List.mem_cons_of_mem _ k_18)) (fun _ h9 => h9) rfl d_S_length_1 ?_
  exact W.iret hx hb hr (fun t ht _ => ⟨_, rfl, rfl, ht⟩) (fun q h => nomatch h) d_S_length_4
set_option maxHeartbeats 40000000 in
set_option maxRecDepth 100000 in
theorem c_S_whole (l : Launch) (dC : Nat → ClassId) (dI : Nat → Nat → Nat) (h0 : Nat) (w wh lw ll wc : Int32) : Met l y_S_whole w_S_whole { frames := 0, cells := 0, slots := 0, locals := 0 } (va_Pc [.ref h0] (fun U => va_P (dC, dI) classes [(h0, .inr (0, [.int w, .int wh, .int lw, .int ll, .int wc]))] U.heap ∧ va_K (dC, dI) classes [] U)) (vp_Si (fun r => r = wc)) 0 0 (fun _ => False) := by
  refine Met.ofW (cc := b_S_whole) (maxL := 1) (ret := (some .int)) (by decide) rfl ?_
  intro p e s m args below meth c s₁ B hml hv
  obtain ⟨rfl, hP, hK⟩ := hv
  have hx := B.exec
  have hb := B.bytes
  have hr := B.returns
  have hts := atoms_spec (ws := w_S_whole) B.pre
  have hown : s.vm.findClass R_S = some m.cls := findClass_of_methodNamed B.named
  have hlocks := B.notSynchronized
  have hl := lv_entry ([.ref h0]) (n := 1) (Nat.le_of_ble_eq_true rfl)
  rw [lg_entry_eq]
  generalize (lg_sl ([.ref h0]) ++ List.replicate (1 - (lg_sl ([.ref h0])).length) Slot.unset).toArray = ls at hl ⊢
  have hl : lv_has ls 1 [(0, .ref h0)] := hl
  have hP : va_P (dC, dI) classes [(h0, .inr (0, [.int w, .int wh, .int lw, .int ll, .int wc]))] s.heap := hP
  refine lv_aload_n hx hb d_S_whole_0 rfl (lv_at hl 0 rfl) ?_
  refine va_get (D := (dC, dI)) (ci := 0) (v := .int wc) (C := R_S) (T := T_S) (N := 5) hx hb hts (fun w h => List.mem_cons_of_mem _ (i_S w h)) hown hK hP 0 rfl rfl 4 (by decide) (hts _ (List.mem_cons_of_mem _ k_19)) (fun _ h9 => h9) rfl d_S_whole_1 ?_
  exact W.iret hx hb hr (fun t ht _ => ⟨_, rfl, rfl, ht⟩) (fun q h => nomatch h) d_S_whole_4
set_option maxHeartbeats 40000000 in
set_option maxRecDepth 100000 in
theorem c_S_drop (l : Launch) (dC : Nat → ClassId) (dI : Nat → Nat → Nat) (h0 sz : Nat) (w wh lw ll wc : Int32) (hw0 : narrow .boolean (.int w) = .int w) : Met l y_S_drop w_S_drop { frames := 0, cells := 0, slots := 0, locals := 0 } (va_Pc [.ref h0] (o_B dC dI sz [(h0, .inr (0, [.int w, .int wh, .int lw, .int ll, .int wc]))])) (va_Qi (fun r (_ : Unit) => r = w) (fun (_ : Unit) t => at_S dC dI (va_A [(h0, .inr (0, [.int w, .int wh, .int lw, .int ll, .int wc]))] sz) h0 ((nI 0), wh, lw, ll, wc) t) (va_A [(h0, .inr (0, [.int w, .int wh, .int lw, .int ll, .int wc]))] sz)) 0 0 (va_A [(h0, .inr (0, [.int w, .int wh, .int lw, .int ll, .int wc]))] sz) := by
  refine Met.ofW (cc := b_S_drop) (maxL := 2) (ret := (some .boolean)) (by decide) rfl ?_
  intro p e s m args below meth c s₁ B hml hv
  obtain ⟨rfl, hsz, hP, hK, hD0⟩ := hv
  have hx := B.exec
  have hb := B.bytes
  have hr := B.returns
  have hts := atoms_spec (ws := w_S_drop) B.pre
  have hown : s.vm.findClass R_S = some m.cls := findClass_of_methodNamed B.named
  have hlocks := B.notSynchronized
  have hl := lv_entry ([.ref h0]) (n := 2) (Nat.le_of_ble_eq_true rfl)
  rw [lg_entry_eq]
  generalize (lg_sl ([.ref h0]) ++ List.replicate (2 - (lg_sl ([.ref h0])).length) Slot.unset).toArray = ls at hl ⊢
  have hl : lv_has ls 2 [(0, .ref h0)] := hl
  subst hsz
  have hD := hD0.self (sz := s.heap.size)
  generalize hAe : va_A [(h0, .inr (0, [.int w, .int wh, .int lw, .int ll, .int wc]))] s.heap.size = A at hD ⊢
  have hA : ∀ q : Nat, s.heap.size ≤ q → A q := fun q h => by rw [← hAe]; exact Or.inr h
  have hS : va_S A s.heap s.heap [] := va_S.rf
  have hP : va_P (dC, dI) classes [(h0, .inr (0, [.int w, .int wh, .int lw, .int ll, .int wc]))] s.heap := hP
  refine lv_aload_n hx hb d_S_drop_0 rfl (lv_at hl 0 rfl) ?_
  refine va_get (D := (dC, dI)) (ci := 0) (v := .int w) (C := R_S) (T := T_S) (N := 5) hx hb hts (fun w h => List.mem_cons_of_mem _ (i_S w h)) hown hK hP 0 rfl rfl 0 (by decide) (hts _ (List.mem_cons_of_mem _ k_15)) (fun _ h9 => h9) rfl d_S_drop_1 ?_
  refine lv_istore_n (lv' := [(1, .int w), (0, .ref h0)]) hx hb d_S_drop_4 rfl hl (by decide) rfl (fun ls hl => ?_)
  refine lv_aload_n hx hb d_S_drop_5 rfl (lv_at hl 1 rfl) ?_
  refine lv_iconst (v := nI 0) hx hb d_S_drop_6 (by decide) ?_
  refine va_put (D := (dC, dI)) (ci := 0) (v := .int (nI 0)) (ty := .boolean) (C := R_S) (T := T_S) (N := 5) hx hb hts (fun w h => List.mem_cons_of_mem _ (i_S w h)) ty_S ty_S_ok nm_S hown hK hP hD hS 0 rfl rfl 0 (by decide) (hts _ (List.mem_cons_of_mem _ k_15)) (fun _ h9 => h9) rfl (by decide +kernel) rfl rfl (Nat.le_of_ble_eq_true rfl) d_S_drop_7 (fun H locs hP hD hS => ?_)
  have hP : va_P (dC, dI) classes [(h0, .inr (0, [.int (nI 0), .int wh, .int lw, .int ll, .int wc]))] H := hP
  have hD : va_D A [(h0, .inr (0, [.int (nI 0), .int wh, .int lw, .int ll, .int wc]))] := hD
  refine lv_iload_n hx hb d_S_drop_10 rfl (lv_at hl 0 rfl) ?_
  exact W.zret hx hb hr hw0 (fun t ht hW => ⟨⟨_, (), rfl, rfl, by rw [ht]; exact hP, va_K.moved hW.alike hK, hD⟩, hS.F ht⟩) hS.2.2 d_S_drop_11
set_option maxHeartbeats 40000000 in
set_option maxRecDepth 100000 in
theorem c_S_keepWhole (l : Launch) (dC : Nat → ClassId) (dI : Nat → Nat → Nat) (h0 sz : Nat) (w wh lw ll wc : Int32) (a1 a2 : Int32) : Met l y_S_keepWhole w_S_keepWhole { frames := 0, cells := 0, slots := 0, locals := 0 } (va_Pc [.ref h0, .int a1, .int a2] (o_B dC dI sz [(h0, .inr (0, [.int w, .int wh, .int lw, .int ll, .int wc]))])) (va_Qv (fun (_ : Unit) => True) (fun (_ : Unit) t => at_S dC dI (va_A [(h0, .inr (0, [.int w, .int wh, .int lw, .int ll, .int wc]))] sz) h0 (w, wh, a1, a2, (wc + (nI 1))) t) (va_A [(h0, .inr (0, [.int w, .int wh, .int lw, .int ll, .int wc]))] sz)) 0 0 (va_A [(h0, .inr (0, [.int w, .int wh, .int lw, .int ll, .int wc]))] sz) := by
  refine Met.ofW (cc := b_S_keepWhole) (maxL := 3) (ret := none) (by decide) rfl ?_
  intro p e s m args below meth c s₁ B hml hv
  obtain ⟨rfl, hsz, hP, hK, hD0⟩ := hv
  have hx := B.exec
  have hb := B.bytes
  have hr := B.returns
  have hts := atoms_spec (ws := w_S_keepWhole) B.pre
  have hown : s.vm.findClass R_S = some m.cls := findClass_of_methodNamed B.named
  have hlocks := B.notSynchronized
  have hl := lv_entry ([.ref h0, .int a1, .int a2]) (n := 3) (Nat.le_of_ble_eq_true rfl)
  rw [lg_entry_eq]
  generalize (lg_sl ([.ref h0, .int a1, .int a2]) ++ List.replicate (3 - (lg_sl ([.ref h0, .int a1, .int a2])).length) Slot.unset).toArray = ls at hl ⊢
  have hl : lv_has ls 3 [(0, .ref h0), (1, .int a1), (2, .int a2)] := hl
  subst hsz
  have hD := hD0.self (sz := s.heap.size)
  generalize hAe : va_A [(h0, .inr (0, [.int w, .int wh, .int lw, .int ll, .int wc]))] s.heap.size = A at hD ⊢
  have hA : ∀ q : Nat, s.heap.size ≤ q → A q := fun q h => by rw [← hAe]; exact Or.inr h
  have hS : va_S A s.heap s.heap [] := va_S.rf
  have hP : va_P (dC, dI) classes [(h0, .inr (0, [.int w, .int wh, .int lw, .int ll, .int wc]))] s.heap := hP
  refine lv_aload_n hx hb d_S_keepWhole_0 rfl (lv_at hl 0 rfl) ?_
  refine lv_iload_n hx hb d_S_keepWhole_1 rfl (lv_at hl 1 rfl) ?_
  refine va_put (D := (dC, dI)) (ci := 0) (v := .int a1) (ty := .int) (C := R_S) (T := T_S) (N := 5) hx hb hts (fun w h => List.mem_cons_of_mem _ (i_S w h)) ty_S ty_S_ok nm_S hown hK hP hD hS 0 rfl rfl 2 (by decide) (hts _ (List.mem_cons_of_mem _ k_17)) (fun _ h9 => h9) rfl (by decide +kernel) rfl rfl (Nat.le_of_ble_eq_true rfl) d_S_keepWhole_2 (fun H locs hP hD hS => ?_)
  have hP : va_P (dC, dI) classes [(h0, .inr (0, [.int w, .int wh, .int a1, .int ll, .int wc]))] H := hP
  have hD : va_D A [(h0, .inr (0, [.int w, .int wh, .int a1, .int ll, .int wc]))] := hD
  refine lv_aload_n hx hb d_S_keepWhole_5 rfl (lv_at hl 0 rfl) ?_
  refine lv_iload_n hx hb d_S_keepWhole_6 rfl (lv_at hl 2 rfl) ?_
  refine va_put (D := (dC, dI)) (ci := 0) (v := .int a2) (ty := .int) (C := R_S) (T := T_S) (N := 5) hx hb hts (fun w h => List.mem_cons_of_mem _ (i_S w h)) ty_S ty_S_ok nm_S hown hK hP hD hS 0 rfl rfl 3 (by decide) (hts _ (List.mem_cons_of_mem _ k_18)) (fun _ h9 => h9) rfl (by decide +kernel) rfl rfl (Nat.le_of_ble_eq_true rfl) d_S_keepWhole_7 (fun H locs hP hD hS => ?_)
  have hP : va_P (dC, dI) classes [(h0, .inr (0, [.int w, .int wh, .int a1, .int a2, .int wc]))] H := hP
  have hD : va_D A [(h0, .inr (0, [.int w, .int wh, .int a1, .int a2, .int wc]))] := hD
  refine lv_aload_n hx hb d_S_keepWhole_10 rfl (lv_at hl 0 rfl) ?_
  refine lv_dup hx hb d_S_keepWhole_11 rfl ?_
  refine va_get (D := (dC, dI)) (ci := 0) (v := .int wc) (C := R_S) (T := T_S) (N := 5) hx hb hts (fun w h => List.mem_cons_of_mem _ (i_S w h)) hown hK hP 0 rfl rfl 4 (by decide) (hts _ (List.mem_cons_of_mem _ k_19)) (fun _ h9 => h9) rfl d_S_keepWhole_12 ?_
  refine lv_iconst (v := nI 1) hx hb d_S_keepWhole_15 (by decide) ?_
  refine lv_iadd hx hb d_S_keepWhole_16 ?_
  refine va_put (D := (dC, dI)) (ci := 0) (v := .int (wc + (nI 1))) (ty := .int) (C := R_S) (T := T_S) (N := 5) hx hb hts (fun w h => List.mem_cons_of_mem _ (i_S w h)) ty_S ty_S_ok nm_S hown hK hP hD hS 0 rfl rfl 4 (by decide) (hts _ (List.mem_cons_of_mem _ k_19)) (fun _ h9 => h9) rfl (by decide +kernel) rfl rfl (Nat.le_of_ble_eq_true rfl) d_S_keepWhole_17 (fun H locs hP hD hS => ?_)
  have hP : va_P (dC, dI) classes [(h0, .inr (0, [.int w, .int wh, .int a1, .int a2, .int (wc + (nI 1))]))] H := hP
  have hD : va_D A [(h0, .inr (0, [.int w, .int wh, .int a1, .int a2, .int (wc + (nI 1))]))] := hD
  exact W.vret hx hb hr (fun t ht hW => ⟨⟨(), rfl, trivial, by rw [ht]; exact hP, va_K.moved hW.alike hK, hD⟩, hS.F ht⟩) hS.2.2 d_S_keepWhole_20
