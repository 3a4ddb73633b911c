set_option maxHeartbeats 40000000 in
set_option maxRecDepth 100000 in
theorem c_M_bits (l : Launch) (dC : Nat → ClassId) (dI : Nat → Nat → Nat) (h1 : Nat) (hh : Int32) (hi lo : Nat) (h9 : hi ≤ 15) (h8 : lo ≤ hi) (h7 : 1 ≤ lo) : Met l y_M_bits w_M_bits { frames := 0, cells := 0, slots := 0, locals := 0 } (va_Pc [.ref h1, .int (nI hi), .int (nI lo)] (mo dC dI h1 hh)) (vp_Si (fun r => r = f_M_bits hh hi lo)) 0 0 (fun _ => False) := by
  refine Met.ofW (cc := b_M_bits) (maxL := 5) (ret := (some .int)) (by decide) rfl ?_
  intro p e s m args below meth c s₁ B hml hv
  obtain ⟨rfl, hT⟩ := hv
  have hx := B.exec
  have hb := B.bytes
  have hr := B.returns
  have hts := atoms_spec (ws := w_M_bits) B.pre
  have hown : s.vm.findClass R_M = some m.cls := findClass_of_methodNamed B.named
  have hlocks := B.notSynchronized
  have hl := lv_entry ([.ref h1, .int (nI hi), .int (nI lo)]) (n := 5) (Nat.le_of_ble_eq_true rfl)
  rw [lg_entry_eq]
  generalize (lg_sl ([.ref h1, .int (nI hi), .int (nI lo)]) ++ List.replicate (5 - (lg_sl ([.ref h1, .int (nI hi), .int (nI lo)])).length) Slot.unset).toArray = ls at hl ⊢
  have hl : lv_has ls 5 [(0, .ref h1), (1, .int (nI hi)), (2, .int (nI lo))] := hl
  obtain ⟨th, wt, fi, wo, le, wn, hP, hK⟩ := id hT
  have hP : va_P (dC, dI) classes [(h1, .inr (1, [.int th, .int hh, .int wt, .int fi, .int wo, .int le, .int wn]))] s.heap := hP
  have key : ∀ (q n : Nat) (xv xk : Int32) (ls : Array Slot), n ≤ hi + 1 - lo → hi + 1 - lo < n + q → xv = f_mb hh hi n → xk = nI (hi - n) → lv_has ls 5 [(0, .ref h1), (1, .int (nI hi)), (2, .int (nI lo)), (3, .int xv), (4, .int xk)] → W p l e (headSpec w_M_bits { frames := 0, cells := 0, slots := 0, locals := 0 }).room s m ([.ref h1, .int (nI hi), .int (nI lo)] : List Value).toArray below meth c s.heap [] 0 0 (MQ below (vp_Si (fun r => r = f_M_bits hh hi lo)) ([.ref h1, .int (nI hi), .int (nI lo)] : List Value).toArray s 0 0 (fun _ => False)) (F0 m 5 ls []) := by
    intro q
    induction q with
    | zero => intro n xv xk ls g1 g2; omega
    | succ q ih =>
      intro n xv xk ls hn hq ev ek hl
      rw [ev, ek] at hl
      refine lv_iload hx hb d_M_bits_5 (lv_at hl 4 rfl) ?_
      refine lv_iload_n hx hb d_M_bits_7 rfl (lv_at hl 2 rfl) ?_
      refine lv_icmp_lt (tgt := 31) hx hb d_M_bits_8 (by decide) (fun c1 => ?_) (fun c1 => ?_)
      · rw [nI_ltI (by omega) (by omega)] at c1
        have en : n = hi + 1 - lo := by omega
        refine lv_iload_n hx hb d_M_bits_31 rfl (lv_at hl 3 rfl) ?_
        exact W.iret hx hb hr (fun t ht _ => ⟨_, rfl, by rw [en]; rfl, ht⟩) (fun q h => nomatch h) d_M_bits_32
      · rw [nI_ltI (by omega) (by omega)] at c1
        refine lv_iconst (v := nI 2) hx hb d_M_bits_11 (by decide) ?_
        refine lv_iload_n hx hb d_M_bits_12 rfl (lv_at hl 3 rfl) ?_
        refine lv_imul hx hb d_M_bits_13 ?_
        refine lv_aload_n hx hb d_M_bits_14 rfl (lv_at hl 0 rfl) ?_
        refine va_get (D := (dC, dI)) (ci := 1) (v := .int hh) (C := R_M) (T := T_M) (N := 7) hx hb hts (fun w h => List.mem_cons_of_mem _ (i_M w h)) hown hK hP 0 rfl rfl 1 (by decide) (hts _ (List.mem_cons_of_mem _ k_291)) (fun _ h9 => h9) rfl d_M_bits_15 ?_
        refine lv_iload hx hb d_M_bits_18 (lv_at hl 4 rfl) ?_
        refine lv_ishr hx hb d_M_bits_20 ?_
        refine lv_iconst (v := nI 1) hx hb d_M_bits_21 (by decide) ?_
        refine lv_iand hx hb d_M_bits_22 ?_
        refine lv_iadd hx hb d_M_bits_23 ?_
        refine lv_istore_n (lv' := [(3, .int (f_mb hh hi (n + 1))), (0, .ref h1), (1, .int (nI hi)), (2, .int (nI lo)), (4, .int (nI (hi - n)))]) hx hb d_M_bits_24 rfl hl (by decide) rfl (fun ls hl => ?_)
        refine lv_iinc (v := nI (hi - (n + 1))) (lv' := [(4, .int (nI (hi - (n + 1)))), (3, .int (f_mb hh hi (n + 1))), (0, .ref h1), (1, .int (nI hi)), (2, .int (nI lo))]) hx hb d_M_bits_25 hl (k := 4) rfl (by rw [show Int32.ofInt (-1) = nI 4294967295 from by decide, nI_add, nI_iff]; omega) (by decide) rfl (fun ls hl => ?_)
        refine lv_goto (tgt := 5) hx hb d_M_bits_28 (by decide) ?_
        exact ih (n + 1) _ _ ls (by omega) (by omega) rfl rfl (lv_sub hl [2, 3, 4, 1, 0] rfl)
  refine lv_iconst (v := nI 0) hx hb d_M_bits_0 (by decide) ?_
  refine lv_istore_n (lv' := [(3, .int (nI 0)), (0, .ref h1), (1, .int (nI hi)), (2, .int (nI lo))]) hx hb d_M_bits_1 rfl hl (by decide) rfl (fun ls hl => ?_)
  refine lv_iload_n hx hb d_M_bits_2 rfl (lv_at hl 2 rfl) ?_
  refine lv_istore (lv' := [(4, .int (nI hi)), (3, .int (nI 0)), (0, .ref h1), (1, .int (nI hi)), (2, .int (nI lo))]) hx hb d_M_bits_3 hl (by decide) rfl (fun ls hl => ?_)
  exact key (hi + 2) 0 (nI 0) (nI hi) ls (Nat.zero_le _) (by omega) rfl rfl (lv_sub hl [2, 3, 4, 1, 0] rfl)
set_option maxHeartbeats 40000000 in
set_option maxRecDepth 100000 in
theorem c_M_plain (l : Launch) (dC : Nat → ClassId) (dI : Nat → Nat → Nat) (h1 : Nat) (hh : Int32) : Met l y_M_plain w_M_plain { frames := 1, cells := 0, slots := 0, locals := 24 } (va_Pc [.ref h1] (mo dC dI h1 hh)) (vp_Si (fun r => r = f_M_plain hh)) 0 0 (fun _ => False) := by
  refine Met.ofW (cc := b_M_plain) (maxL := 1) (ret := (some .int)) (by decide) rfl ?_
  intro p e s m args below meth c s₁ B hml hv
  obtain ⟨rfl, hT⟩ := hv
  have hx := B.exec
  have hb := B.bytes
  have hr := B.returns
  have hts := atoms_spec (ws := w_M_plain) B.pre
  have hown : s.vm.findClass R_M = some m.cls := findClass_of_methodNamed B.named
  have hlocks := B.notSynchronized
  have hl := lv_entry ([.ref h1]) (n := 1) (Nat.le_of_ble_eq_true rfl)
  rw [lg_entry_eq]
  generalize (lg_sl ([.ref h1]) ++ List.replicate (1 - (lg_sl ([.ref h1])).length) Slot.unset).toArray = ls at hl ⊢
  have hl : lv_has ls 1 [(0, .ref h1)] := hl
  obtain ⟨th, wt, fi, wo, le, wn, hP, hK⟩ := id hT
  have hP : va_P (dC, dI) classes [(h1, .inr (1, [.int th, .int hh, .int wt, .int fi, .int wo, .int le, .int wn]))] s.heap := hP
  refine lv_bipush (v := nI 32) hx hb d_M_plain_0 (by decide) ?_
  refine lv_aload_n hx hb d_M_plain_2 rfl (lv_at hl 0 rfl) ?_
  refine lv_bipush (v := nI 12) hx hb d_M_plain_3 (by decide) ?_
  refine lv_bipush (v := nI 12) hx hb d_M_plain_5 (by decide) ?_
  refine callE (W.runV (b := h1) (As := [.int (nI 12), .int (nI 12)]) (rest := [.int (nI 32)]) ⟨hx, hb, hml, hown, hts⟩ (c_M_bits l dC dI h1 hh 12 12 (by decide) (by decide) (by decide)) (cwV 2 hts (gV awx k_329 k_331 ks_4 k_2 k_332) rfl rfl rfl (by decide +kernel) ⟨Nat.le_of_ble_eq_true rfl, Nat.le_of_ble_eq_true rfl⟩) (mo_pre hT) rfl rfl hl.1 rfl (lv_room (Nat.le_of_ble_eq_true rfl)) d_M_plain_7 ⟨Nat.zero_le _, Nat.zero_le _⟩) ?_
  refine lv_imul hx hb d_M_plain_10 ?_
  refine lv_aload_n hx hb d_M_plain_11 rfl (lv_at hl 0 rfl) ?_
  refine lv_bipush (v := nI 6) hx hb d_M_plain_12 (by decide) ?_
  refine lv_iconst (v := nI 2) hx hb d_M_plain_14 (by decide) ?_
  refine callE (W.runV (b := h1) (As := [.int (nI 6), .int (nI 2)]) (rest := [.int ((nI 32) * (f_M_bits hh 12 12))]) ⟨hx, hb, hml, hown, hts⟩ (c_M_bits l dC dI h1 hh 6 2 (by decide) (by decide) (by decide)) (cwV 2 hts (gV awx k_329 k_331 ks_4 k_2 k_332) rfl rfl rfl (by decide +kernel) ⟨Nat.le_of_ble_eq_true rfl, Nat.le_of_ble_eq_true rfl⟩) (mo_pre hT) rfl rfl hl.1 rfl (lv_room (Nat.le_of_ble_eq_true rfl)) d_M_plain_15 ⟨Nat.zero_le _, Nat.zero_le _⟩) ?_
  refine lv_iadd hx hb d_M_plain_18 ?_
  exact W.iret hx hb hr (fun t ht _ => ⟨_, rfl, by rw [f_M_plain], ht⟩) (fun q h => nomatch h) d_M_plain_19
set_option maxHeartbeats 40000000 in
set_option maxRecDepth 100000 in
theorem c_M_signed (l : Launch) (dC : Nat → ClassId) (dI : Nat → Nat → Nat) (h1 : Nat) (hh : Int32) : Met l y_M_signed w_M_signed { frames := 2, cells := 0, slots := 0, locals := 44 } (va_Pc [.ref h1] (mo dC dI h1 hh)) (vp_Si (fun r => r = f_M_signed hh)) 0 0 (fun _ => False) := by
  refine Met.ofW (cc := b_M_signed) (maxL := 1) (ret := (some .int)) (by decide) rfl ?_
  intro p e s m args below meth c s₁ B hml hv
  obtain ⟨rfl, hT⟩ := hv
  have hx := B.exec
  have hb := B.bytes
  have hr := B.returns
  have hts := atoms_spec (ws := w_M_signed) B.pre
  have hown : s.vm.findClass R_M = some m.cls := findClass_of_methodNamed B.named
  have hlocks := B.notSynchronized
  have hl := lv_entry ([.ref h1]) (n := 1) (Nat.le_of_ble_eq_true rfl)
  rw [lg_entry_eq]
  generalize (lg_sl ([.ref h1]) ++ List.replicate (1 - (lg_sl ([.ref h1])).length) Slot.unset).toArray = ls at hl ⊢
  have hl : lv_has ls 1 [(0, .ref h1)] := hl
  obtain ⟨th, wt, fi, wo, le, wn, hP, hK⟩ := id hT
  have hP : va_P (dC, dI) classes [(h1, .inr (1, [.int th, .int hh, .int wt, .int fi, .int wo, .int le, .int wn]))] s.heap := hP
  refine lv_aload_n hx hb d_M_signed_0 rfl (lv_at hl 0 rfl) ?_
  refine callE (W.runV (b := h1) (As := []) (rest := []) ⟨hx, hb, hml, hown, hts⟩ (c_M_plain l dC dI h1 hh ) (cwV 0 hts (gV awx k_358 k_360 ks_9 k_2 k_361) rfl rfl rfl (by decide +kernel) ⟨Nat.le_of_ble_eq_true rfl, Nat.le_of_ble_eq_true rfl⟩) (mo_pre hT) rfl rfl hl.1 rfl (lv_room (Nat.le_of_ble_eq_true rfl)) d_M_signed_1 ⟨Nat.zero_le _, Nat.zero_le _⟩) ?_
  refine lv_bipush (v := nI 64) hx hb d_M_signed_4 (by decide) ?_
  refine lv_aload_n hx hb d_M_signed_6 rfl (lv_at hl 0 rfl) ?_
  refine lv_bipush (v := nI 12) hx hb d_M_signed_7 (by decide) ?_
  refine lv_bipush (v := nI 12) hx hb d_M_signed_9 (by decide) ?_
  refine callE (W.runV (b := h1) (As := [.int (nI 12), .int (nI 12)]) (rest := [.int (nI 64), .int (f_M_plain hh )]) ⟨hx, hb, hml, hown, hts⟩ (c_M_bits l dC dI h1 hh 12 12 (by decide) (by decide) (by decide)) (cwV 2 hts (gV awx k_329 k_331 ks_4 k_2 k_332) rfl rfl rfl (by decide +kernel) ⟨Nat.le_of_ble_eq_true rfl, Nat.le_of_ble_eq_true rfl⟩) (mo_pre hT) rfl rfl hl.1 rfl (lv_room (Nat.le_of_ble_eq_true rfl)) d_M_signed_11 ⟨Nat.zero_le _, Nat.zero_le _⟩) ?_
  refine lv_imul hx hb d_M_signed_14 ?_
  refine lv_isub hx hb d_M_signed_15 ?_
  exact W.iret hx hb hr (fun t ht _ => ⟨_, rfl, by rw [f_M_signed], ht⟩) (fun q h => nomatch h) d_M_signed_16
set_option maxHeartbeats 40000000 in
set_option maxRecDepth 100000 in
theorem c_M_eights (l : Launch) (dC : Nat → ClassId) (dI : Nat → Nat → Nat) (h1 : Nat) (hh : Int32) : Met l y_M_eights w_M_eights { frames := 1, cells := 0, slots := 0, locals := 24 } (va_Pc [.ref h1] (mo dC dI h1 hh)) (vp_Si (fun r => r = f_M_eights hh)) 0 0 (fun _ => False) := by
  refine Met.ofW (cc := b_M_eights) (maxL := 1) (ret := (some .int)) (by decide) rfl ?_
  intro p e s m args below meth c s₁ B hml hv
  obtain ⟨rfl, hT⟩ := hv
  have hx := B.exec
  have hb := B.bytes
  have hr := B.returns
  have hts := atoms_spec (ws := w_M_eights) B.pre
  have hown : s.vm.findClass R_M = some m.cls := findClass_of_methodNamed B.named
  have hlocks := B.notSynchronized
  have hl := lv_entry ([.ref h1]) (n := 1) (Nat.le_of_ble_eq_true rfl)
  rw [lg_entry_eq]
  generalize (lg_sl ([.ref h1]) ++ List.replicate (1 - (lg_sl ([.ref h1])).length) Slot.unset).toArray = ls at hl ⊢
  have hl : lv_has ls 1 [(0, .ref h1)] := hl
  obtain ⟨th, wt, fi, wo, le, wn, hP, hK⟩ := id hT
  have hP : va_P (dC, dI) classes [(h1, .inr (1, [.int th, .int hh, .int wt, .int fi, .int wo, .int le, .int wn]))] s.heap := hP
  refine lv_bipush (v := nI 64) hx hb d_M_eights_0 (by decide) ?_
  refine lv_aload_n hx hb d_M_eights_2 rfl (lv_at hl 0 rfl) ?_
  refine lv_bipush (v := nI 6) hx hb d_M_eights_3 (by decide) ?_
  refine lv_iconst (v := nI 5) hx hb d_M_eights_5 (by decide) ?_
  refine callE (W.runV (b := h1) (As := [.int (nI 6), .int (nI 5)]) (rest := [.int (nI 64)]) ⟨hx, hb, hml, hown, hts⟩ (c_M_bits l dC dI h1 hh 6 5 (by decide) (by decide) (by decide)) (cwV 2 hts (gV awx k_329 k_331 ks_4 k_2 k_332) rfl rfl rfl (by decide +kernel) ⟨Nat.le_of_ble_eq_true rfl, Nat.le_of_ble_eq_true rfl⟩) (mo_pre hT) rfl rfl hl.1 rfl (lv_room (Nat.le_of_ble_eq_true rfl)) d_M_eights_6 ⟨Nat.zero_le _, Nat.zero_le _⟩) ?_
  refine lv_imul hx hb d_M_eights_9 ?_
  refine lv_bipush (v := nI 8) hx hb d_M_eights_10 (by decide) ?_
  refine lv_aload_n hx hb d_M_eights_12 rfl (lv_at hl 0 rfl) ?_
  refine lv_bipush (v := nI 12) hx hb d_M_eights_13 (by decide) ?_
  refine lv_bipush (v := nI 10) hx hb d_M_eights_15 (by decide) ?_
  refine callE (W.runV (b := h1) (As := [.int (nI 12), .int (nI 10)]) (rest := [.int (nI 8), .int ((nI 64) * (f_M_bits hh 6 5))]) ⟨hx, hb, hml, hown, hts⟩ (c_M_bits l dC dI h1 hh 12 10 (by decide) (by decide) (by decide)) (cwV 2 hts (gV awx k_329 k_331 ks_4 k_2 k_332) rfl rfl rfl (by decide +kernel) ⟨Nat.le_of_ble_eq_true rfl, Nat.le_of_ble_eq_true rfl⟩) (mo_pre hT) rfl rfl hl.1 rfl (lv_room (Nat.le_of_ble_eq_true rfl)) d_M_eights_17 ⟨Nat.zero_le _, Nat.zero_le _⟩) ?_
  refine lv_imul hx hb d_M_eights_20 ?_
  refine lv_iadd hx hb d_M_eights_21 ?_
  exact W.iret hx hb hr (fun t ht _ => ⟨_, rfl, by rw [f_M_eights], ht⟩) (fun q h => nomatch h) d_M_eights_22
set_option maxHeartbeats 40000000 in
set_option maxRecDepth 100000 in
theorem c_M_fours (l : Launch) (dC : Nat → ClassId) (dI : Nat → Nat → Nat) (h1 : Nat) (hh : Int32) : Met l y_M_fours w_M_fours { frames := 1, cells := 0, slots := 0, locals := 24 } (va_Pc [.ref h1] (mo dC dI h1 hh)) (vp_Si (fun r => r = f_M_fours hh)) 0 0 (fun _ => False) := by
  refine Met.ofW (cc := b_M_fours) (maxL := 1) (ret := (some .int)) (by decide) rfl ?_
  intro p e s m args below meth c s₁ B hml hv
  obtain ⟨rfl, hT⟩ := hv
  have hx := B.exec
  have hb := B.bytes
  have hr := B.returns
  have hts := atoms_spec (ws := w_M_fours) B.pre
  have hown : s.vm.findClass R_M = some m.cls := findClass_of_methodNamed B.named
  have hlocks := B.notSynchronized
  have hl := lv_entry ([.ref h1]) (n := 1) (Nat.le_of_ble_eq_true rfl)
  rw [lg_entry_eq]
  generalize (lg_sl ([.ref h1]) ++ List.replicate (1 - (lg_sl ([.ref h1])).length) Slot.unset).toArray = ls at hl ⊢
  have hl : lv_has ls 1 [(0, .ref h1)] := hl
  obtain ⟨th, wt, fi, wo, le, wn, hP, hK⟩ := id hT
  have hP : va_P (dC, dI) classes [(h1, .inr (1, [.int th, .int hh, .int wt, .int fi, .int wo, .int le, .int wn]))] s.heap := hP
  refine lv_bipush (v := nI 64) hx hb d_M_fours_0 (by decide) ?_
  refine lv_aload_n hx hb d_M_fours_2 rfl (lv_at hl 0 rfl) ?_
  refine lv_iconst (v := nI 5) hx hb d_M_fours_3 (by decide) ?_
  refine lv_iconst (v := nI 5) hx hb d_M_fours_4 (by decide) ?_
  refine callE (W.runV (b := h1) (As := [.int (nI 5), .int (nI 5)]) (rest := [.int (nI 64)]) ⟨hx, hb, hml, hown, hts⟩ (c_M_bits l dC dI h1 hh 5 5 (by decide) (by decide) (by decide)) (cwV 2 hts (gV awx k_329 k_331 ks_4 k_2 k_332) rfl rfl rfl (by decide +kernel) ⟨Nat.le_of_ble_eq_true rfl, Nat.le_of_ble_eq_true rfl⟩) (mo_pre hT) rfl rfl hl.1 rfl (lv_room (Nat.le_of_ble_eq_true rfl)) d_M_fours_5 ⟨Nat.zero_le _, Nat.zero_le _⟩) ?_
  refine lv_imul hx hb d_M_fours_8 ?_
  refine lv_bipush (v := nI 8) hx hb d_M_fours_9 (by decide) ?_
  refine lv_aload_n hx hb d_M_fours_11 rfl (lv_at hl 0 rfl) ?_
  refine lv_bipush (v := nI 12) hx hb d_M_fours_12 (by decide) ?_
  refine lv_bipush (v := nI 10) hx hb d_M_fours_14 (by decide) ?_
  refine callE (W.runV (b := h1) (As := [.int (nI 12), .int (nI 10)]) (rest := [.int (nI 8), .int ((nI 64) * (f_M_bits hh 5 5))]) ⟨hx, hb, hml, hown, hts⟩ (c_M_bits l dC dI h1 hh 12 10 (by decide) (by decide) (by decide)) (cwV 2 hts (gV awx k_329 k_331 ks_4 k_2 k_332) rfl rfl rfl (by decide +kernel) ⟨Nat.le_of_ble_eq_true rfl, Nat.le_of_ble_eq_true rfl⟩) (mo_pre hT) rfl rfl hl.1 rfl (lv_room (Nat.le_of_ble_eq_true rfl)) d_M_fours_16 ⟨Nat.zero_le _, Nat.zero_le _⟩) ?_
  refine lv_imul hx hb d_M_fours_19 ?_
  refine lv_iadd hx hb d_M_fours_20 ?_
  refine lv_iconst (v := nI 4) hx hb d_M_fours_21 (by decide) ?_
  refine lv_aload_n hx hb d_M_fours_22 rfl (lv_at hl 0 rfl) ?_
  refine lv_bipush (v := nI 6) hx hb d_M_fours_23 (by decide) ?_
  refine lv_bipush (v := nI 6) hx hb d_M_fours_25 (by decide) ?_
  refine callE (W.runV (b := h1) (As := [.int (nI 6), .int (nI 6)]) (rest := [.int (nI 4), .int (((nI 64) * (f_M_bits hh 5 5)) + ((nI 8) * (f_M_bits hh 12 10)))]) ⟨hx, hb, hml, hown, hts⟩ (c_M_bits l dC dI h1 hh 6 6 (by decide) (by decide) (by decide)) (cwV 2 hts (gV awx k_329 k_331 ks_4 k_2 k_332) rfl rfl rfl (by decide +kernel) ⟨Nat.le_of_ble_eq_true rfl, Nat.le_of_ble_eq_true rfl⟩) (mo_pre hT) rfl rfl hl.1 rfl (lv_room (Nat.le_of_ble_eq_true rfl)) d_M_fours_27 ⟨Nat.zero_le _, Nat.zero_le _⟩) ?_
  refine lv_imul hx hb d_M_fours_30 ?_
  refine lv_iadd hx hb d_M_fours_31 ?_
  exact W.iret hx hb hr (fun t ht _ => ⟨_, rfl, by rw [f_M_fours], ht⟩) (fun q h => nomatch h) d_M_fours_32
