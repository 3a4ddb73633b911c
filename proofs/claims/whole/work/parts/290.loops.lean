set_option maxHeartbeats 40000000 in
set_option maxRecDepth 100000 in
theorem c_shorten (l : Launch) (t : Nat → Nat) (h0 : Nat) (a0 : Int32) : Met l y_S_shorten w_S_shorten { frames := 6, cells := 0, slots := 0, locals := 135 } (va_Pc [.ref h0, .int a0] (tb t)) (vp_Si (fun r => r = f_shortN a0 64)) 0 0 (fun _ => False) := by
  refine Met.ofW (cc := b_S_shorten) (maxL := 5) (ret := (some .int)) (by decide) rfl ?_
  intro p e s m args below meth c s₁ B hml hv
  obtain ⟨rfl, hT⟩ := hv
  have hx := B.exec
  have hb := B.bytes
  have hr := B.returns
  have hts := atoms_spec (ws := w_S_shorten) B.pre
  have hown : s.vm.findClass R_S = some m.cls := findClass_of_methodNamed B.named
  have hlocks := B.notSynchronized
  have hl := lv_entry ([.ref h0, .int a0]) (n := 5) (Nat.le_of_ble_eq_true rfl)
  rw [lg_entry_eq]
  generalize (lg_sl ([.ref h0, .int a0]) ++ List.replicate (5 - (lg_sl ([.ref h0, .int a0])).length) Slot.unset).toArray = ls at hl ⊢
  have hl : lv_has ls 5 [(0, .ref h0), (1, .int a0)] := hl
  have key : ∀ (n k : Nat) (xc xk : Int32) (ls : Array Slot), k ≤ 64 → 64 < k + n → xc = f_shortN a0 k → xk = nI k → lv_has ls 5 [(0, .ref h0), (1, .int a0), (2, .int xc), (3, .int xk)] → W p l e (headSpec w_S_shorten { frames := 6, cells := 0, slots := 0, locals := 135 }).room s m ([.ref h0, .int a0] : List Value).toArray below meth c s.heap [] 0 0 (MQ below (vp_Si (fun r => r = f_shortN a0 64)) ([.ref h0, .int a0] : List Value).toArray s 0 0 (fun _ => False)) (F0 m 4 ls []) := by
    intro n
    induction n with
    | zero => intro k xc xk ls h1 h2; omega
    | succ n ih =>
      intro k xc xk ls hk hn exc exk hl
      subst exc exk
      refine lv_iload_n hx hb d_S_shorten_4 rfl (lv_at hl 3 rfl) ?_
      refine lv_bipush (v := nI 64) hx hb d_S_shorten_5 (by decide) ?_
      refine lv_icmp_ge (tgt := 43) hx hb d_S_shorten_7 (by decide) (fun c1 => ?_) (fun c1 => ?_)
      · rw [nI_leI (by omega) (by omega)] at c1
        have ek : k = 64 := by omega
        subst ek
        refine lv_iload_n hx hb d_S_shorten_43 rfl (lv_at hl 2 rfl) ?_
        exact W.iret hx hb hr (fun t ht _ => ⟨_, rfl, rfl, ht⟩) (fun q h => nomatch h) d_S_shorten_44
      · rw [nI_leI (by omega) (by omega)] at c1
        have hkb : k < 64 := by omega
        refine lv_iload_n hx hb d_S_shorten_10 rfl (lv_at hl 3 rfl) ?_
        refine lv_iload_n hx hb d_S_shorten_11 rfl (lv_at hl 1 rfl) ?_
        refine callE (W.runS (As := [.int (nI k), .int a0]) (rest := []) ⟨hx, hb, hml, hown, hts⟩ (c_halfOfKind l t (nI k) a0) (cwS 2 hts (gS k_35 k_36 k_1 k_37) rfl rfl rfl (by decide +kernel) ⟨Nat.le_of_ble_eq_true rfl, Nat.le_of_ble_eq_true rfl⟩) (tb_pre hT) rfl rfl hl.1 rfl (lv_room (Nat.le_of_ble_eq_true rfl)) d_S_shorten_12 ⟨Nat.zero_le _, Nat.zero_le _⟩) ?_
        refine lv_istore (lv' := [(4, .int (f_halfOfKind (nI k) a0)), (0, .ref h0), (1, .int a0), (2, .int (f_shortN a0 k)), (3, .int (nI k))]) hx hb d_S_shorten_15 hl (by decide) rfl (fun ls hl => ?_)
        refine lv_iload hx hb d_S_shorten_17 (lv_at hl 0 rfl) ?_
        refine lv_iconst (v := nI 4294967295) hx hb d_S_shorten_19 (by decide) ?_
        refine lv_icmp_eq (tgt := 37) hx hb d_S_shorten_20 (by decide) (fun c2 => ?_) (fun c2 => ?_)
        · refine lv_iinc (v := ((nI k) + nI 1)) (lv' := [(3, .int ((nI k) + nI 1)), (4, .int (f_halfOfKind (nI k) a0)), (0, .ref h0), (1, .int a0), (2, .int (f_shortN a0 k))]) hx hb d_S_shorten_37 hl (k := 4) rfl (by rw [show Int32.ofInt 1 = nI 1 from by decide]) (by decide) rfl (fun ls hl => ?_)
          refine lv_goto (tgt := 4) hx hb d_S_shorten_40 (by decide) ?_
          exact ih (k + 1) (f_shortN a0 k) ((nI k) + nI 1) ls (by omega) (by omega) (by rw [f_shortN_s, if_pos c2]) (by exact nI_add _ _) (lv_sub hl [2, 3, 4, 0] rfl)
        · refine lv_iload_n hx hb d_S_shorten_23 rfl (lv_at hl 3 rfl) ?_
          refine lv_iconst (v := nI 4294967295) hx hb d_S_shorten_24 (by decide) ?_
          refine lv_icmp_eq (tgt := 34) hx hb d_S_shorten_25 (by decide) (fun c4 => ?_) (fun c4 => ?_)
          · refine lv_iload hx hb d_S_shorten_34 (lv_at hl 0 rfl) ?_
            refine lv_istore_n (lv' := [(2, .int (f_halfOfKind (nI k) a0)), (4, .int (f_halfOfKind (nI k) a0)), (0, .ref h0), (1, .int a0), (3, .int (nI k))]) hx hb d_S_shorten_36 rfl hl (by decide) rfl (fun ls hl => ?_)
            refine lv_iinc (v := ((nI k) + nI 1)) (lv' := [(3, .int ((nI k) + nI 1)), (2, .int (f_halfOfKind (nI k) a0)), (4, .int (f_halfOfKind (nI k) a0)), (0, .ref h0), (1, .int a0)]) hx hb d_S_shorten_37 hl (k := 4) rfl (by rw [show Int32.ofInt 1 = nI 1 from by decide]) (by decide) rfl (fun ls hl => ?_)
            refine lv_goto (tgt := 4) hx hb d_S_shorten_40 (by decide) ?_
            exact ih (k + 1) (f_halfOfKind (nI k) a0) ((nI k) + nI 1) ls (by omega) (by omega) (by rw [f_shortN_s, if_neg c2, if_pos c4]) (by exact nI_add _ _) (lv_sub hl [3, 4, 1, 0] rfl)
          · refine lv_iload hx hb d_S_shorten_28 (lv_at hl 0 rfl) ?_
            refine lv_iload_n hx hb d_S_shorten_30 rfl (lv_at hl 3 rfl) ?_
            refine lv_icmp_ge (tgt := 37) hx hb d_S_shorten_31 (by decide) (fun c6 => ?_) (fun c6 => ?_)
            · refine lv_iinc (v := ((nI k) + nI 1)) (lv' := [(3, .int ((nI k) + nI 1)), (4, .int (f_halfOfKind (nI k) a0)), (0, .ref h0), (1, .int a0), (2, .int (f_shortN a0 k))]) hx hb d_S_shorten_37 hl (k := 4) rfl (by rw [show Int32.ofInt 1 = nI 1 from by decide]) (by decide) rfl (fun ls hl => ?_)
              refine lv_goto (tgt := 4) hx hb d_S_shorten_40 (by decide) ?_
              exact ih (k + 1) (f_shortN a0 k) ((nI k) + nI 1) ls (by omega) (by omega) (by rw [f_shortN_s, if_neg c2, if_neg c4, if_pos c6]) (by exact nI_add _ _) (lv_sub hl [2, 3, 4, 0] rfl)
            · refine lv_iload hx hb d_S_shorten_34 (lv_at hl 0 rfl) ?_
              refine lv_istore_n (lv' := [(2, .int (f_halfOfKind (nI k) a0)), (4, .int (f_halfOfKind (nI k) a0)), (0, .ref h0), (1, .int a0), (3, .int (nI k))]) hx hb d_S_shorten_36 rfl hl (by decide) rfl (fun ls hl => ?_)
              refine lv_iinc (v := ((nI k) + nI 1)) (lv' := [(3, .int ((nI k) + nI 1)), (2, .int (f_halfOfKind (nI k) a0)), (4, .int (f_halfOfKind (nI k) a0)), (0, .ref h0), (1, .int a0)]) hx hb d_S_shorten_37 hl (k := 4) rfl (by rw [show Int32.ofInt 1 = nI 1 from by decide]) (by decide) rfl (fun ls hl => ?_)
              refine lv_goto (tgt := 4) hx hb d_S_shorten_40 (by decide) ?_
              exact ih (k + 1) (f_halfOfKind (nI k) a0) ((nI k) + nI 1) ls (by omega) (by omega) (by rw [f_shortN_s, if_neg c2, if_neg c4, if_neg c6]) (by exact nI_add _ _) (lv_sub hl [3, 4, 1, 0] rfl)
  refine lv_iconst (v := nI 4294967295) hx hb d_S_shorten_0 (by decide) ?_
  refine lv_istore_n (lv' := [(2, .int (nI 4294967295)), (0, .ref h0), (1, .int a0)]) hx hb d_S_shorten_1 rfl hl (by decide) rfl (fun ls hl => ?_)
  refine lv_iconst (v := nI 0) hx hb d_S_shorten_2 (by decide) ?_
  refine lv_istore_n (lv' := [(3, .int (nI 0)), (2, .int (nI 4294967295)), (0, .ref h0), (1, .int a0)]) hx hb d_S_shorten_3 rfl hl (by decide) rfl (fun ls hl => ?_)
  exact key 65 0 (nI 4294967295) (nI 0) ls (Nat.zero_le _) (by omega) rfl rfl (lv_sub hl [2, 3, 1, 0] rfl)
set_option maxHeartbeats 40000000 in
set_option maxRecDepth 100000 in
theorem c_halves (l : Launch) (t : Nat → Nat) (h0 : Nat) (a0 : Int32) : Met l y_S_halves w_S_halves { frames := 6, cells := 0, slots := 0, locals := 135 } (va_Pc [.ref h0, .int a0] (tb t)) (vp_Si (fun r => r = f_halvesN a0 64)) 0 0 (fun _ => False) := by
  refine Met.ofW (cc := b_S_halves) (maxL := 4) (ret := (some .int)) (by decide) rfl ?_
  intro p e s m args below meth c s₁ B hml hv
  obtain ⟨rfl, hT⟩ := hv
  have hx := B.exec
  have hb := B.bytes
  have hr := B.returns
  have hts := atoms_spec (ws := w_S_halves) B.pre
  have hown : s.vm.findClass R_S = some m.cls := findClass_of_methodNamed B.named
  have hlocks := B.notSynchronized
  have hl := lv_entry ([.ref h0, .int a0]) (n := 4) (Nat.le_of_ble_eq_true rfl)
  rw [lg_entry_eq]
  generalize (lg_sl ([.ref h0, .int a0]) ++ List.replicate (4 - (lg_sl ([.ref h0, .int a0])).length) Slot.unset).toArray = ls at hl ⊢
  have hl : lv_has ls 4 [(0, .ref h0), (1, .int a0)] := hl
  have key : ∀ (n k : Nat) (xc xk : Int32) (ls : Array Slot), k ≤ 64 → 64 < k + n → xc = f_halvesN a0 k → xk = nI k → lv_has ls 4 [(0, .ref h0), (1, .int a0), (2, .int xc), (3, .int xk)] → W p l e (headSpec w_S_halves { frames := 6, cells := 0, slots := 0, locals := 135 }).room s m ([.ref h0, .int a0] : List Value).toArray below meth c s.heap [] 0 0 (MQ below (vp_Si (fun r => r = f_halvesN a0 64)) ([.ref h0, .int a0] : List Value).toArray s 0 0 (fun _ => False)) (F0 m 4 ls []) := by
    intro n
    induction n with
    | zero => intro k xc xk ls h1 h2; omega
    | succ n ih =>
      intro k xc xk ls hk hn exc exk hl
      subst exc exk
      refine lv_iload_n hx hb d_S_halves_4 rfl (lv_at hl 3 rfl) ?_
      refine lv_bipush (v := nI 64) hx hb d_S_halves_5 (by decide) ?_
      refine lv_icmp_ge (tgt := 28) hx hb d_S_halves_7 (by decide) (fun c1 => ?_) (fun c1 => ?_)
      · rw [nI_leI (by omega) (by omega)] at c1
        have ek : k = 64 := by omega
        subst ek
        refine lv_iload_n hx hb d_S_halves_28 rfl (lv_at hl 2 rfl) ?_
        exact W.iret hx hb hr (fun t ht _ => ⟨_, rfl, rfl, ht⟩) (fun q h => nomatch h) d_S_halves_29
      · rw [nI_leI (by omega) (by omega)] at c1
        have hkb : k < 64 := by omega
        refine lv_iload_n hx hb d_S_halves_10 rfl (lv_at hl 3 rfl) ?_
        refine lv_iload_n hx hb d_S_halves_11 rfl (lv_at hl 1 rfl) ?_
        refine callE (W.runS (As := [.int (nI k), .int a0]) (rest := []) ⟨hx, hb, hml, hown, hts⟩ (c_halfOfKind l t (nI k) a0) (cwS 2 hts (gS k_35 k_36 k_1 k_37) rfl rfl rfl (by decide +kernel) ⟨Nat.le_of_ble_eq_true rfl, Nat.le_of_ble_eq_true rfl⟩) (tb_pre hT) rfl rfl hl.1 rfl (lv_room (Nat.le_of_ble_eq_true rfl)) d_S_halves_12 ⟨Nat.zero_le _, Nat.zero_le _⟩) ?_
        refine lv_iconst (v := nI 4294967295) hx hb d_S_halves_15 (by decide) ?_
        refine lv_icmp_eq (tgt := 22) hx hb d_S_halves_16 (by decide) (fun c2 => ?_) (fun c2 => ?_)
        · refine lv_iinc (v := ((nI k) + nI 1)) (lv' := [(3, .int ((nI k) + nI 1)), (0, .ref h0), (1, .int a0), (2, .int (f_halvesN a0 k))]) hx hb d_S_halves_22 hl (k := 3) rfl (by rw [show Int32.ofInt 1 = nI 1 from by decide]) (by decide) rfl (fun ls hl => ?_)
          refine lv_goto (tgt := 4) hx hb d_S_halves_25 (by decide) ?_
          exact ih (k + 1) (f_halvesN a0 k) ((nI k) + nI 1) ls (by omega) (by omega) (by rw [f_halvesN_s, if_pos c2]) (by exact nI_add _ _) (lv_sub hl [1, 2, 3, 0] rfl)
        · refine lv_iinc (v := ((f_halvesN a0 k) + nI 1)) (lv' := [(2, .int ((f_halvesN a0 k) + nI 1)), (0, .ref h0), (1, .int a0), (3, .int (nI k))]) hx hb d_S_halves_19 hl (k := 2) rfl (by rw [show Int32.ofInt 1 = nI 1 from by decide]) (by decide) rfl (fun ls hl => ?_)
          refine lv_iinc (v := ((nI k) + nI 1)) (lv' := [(3, .int ((nI k) + nI 1)), (2, .int ((f_halvesN a0 k) + nI 1)), (0, .ref h0), (1, .int a0)]) hx hb d_S_halves_22 hl (k := 3) rfl (by rw [show Int32.ofInt 1 = nI 1 from by decide]) (by decide) rfl (fun ls hl => ?_)
          refine lv_goto (tgt := 4) hx hb d_S_halves_25 (by decide) ?_
          exact ih (k + 1) ((f_halvesN a0 k) + nI 1) ((nI k) + nI 1) ls (by omega) (by omega) (by rw [f_halvesN_s, if_neg c2]) (by exact nI_add _ _) (lv_sub hl [2, 3, 1, 0] rfl)
  refine lv_iconst (v := nI 0) hx hb d_S_halves_0 (by decide) ?_
  refine lv_istore_n (lv' := [(2, .int (nI 0)), (0, .ref h0), (1, .int a0)]) hx hb d_S_halves_1 rfl hl (by decide) rfl (fun ls hl => ?_)
  refine lv_iconst (v := nI 0) hx hb d_S_halves_2 (by decide) ?_
  refine lv_istore_n (lv' := [(3, .int (nI 0)), (2, .int (nI 0)), (0, .ref h0), (1, .int a0)]) hx hb d_S_halves_3 rfl hl (by decide) rfl (fun ls hl => ?_)
  exact key 65 0 (nI 0) (nI 0) ls (Nat.zero_le _) (by omega) rfl rfl (lv_sub hl [2, 3, 1, 0] rfl)
