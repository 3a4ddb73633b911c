set_option maxHeartbeats 40000000 in
set_option maxRecDepth 100000 in
theorem c_bits (l : Launch) (t : Nat → Nat) (a0 a1 a2 : Int32) : Met l y_S_bits w_S_bits { frames := 0, cells := 0, slots := 0, locals := 0 } (va_Pc [.int a0, .int a1, .int a2] (tb t)) (vp_Si (fun r => r = f_bits a0 a1 a2)) 0 0 (fun _ => False) := by
  refine Met.ofW (cc := b_S_bits) (maxL := 3) (ret := (some .int)) (by decide) rfl ?_
  intro p e s m args below meth c s₁ B hml hv
  obtain ⟨rfl, hT⟩ := hv
  have hx := B.exec
  have hb := B.bytes
  have hr := B.returns
  have hts := atoms_spec (ws := w_S_bits) B.pre
  have hown : s.vm.findClass R_S = some m.cls := findClass_of_methodNamed B.named
  have hlocks := B.notSynchronized
  have hl := lv_entry ([.int a0, .int a1, .int a2]) (n := 3) (Nat.le_of_ble_eq_true rfl)
  rw [lg_entry_eq]
  generalize (lg_sl ([.int a0, .int a1, .int a2]) ++ List.replicate (3 - (lg_sl ([.int a0, .int a1, .int a2])).length) Slot.unset).toArray = ls at hl ⊢
  have hl : lv_has ls 3 [(0, .int a0), (1, .int a1), (2, .int a2)] := hl
  refine lv_iload_n hx hb d_S_bits_0 rfl (lv_at hl 0 rfl) ?_
  refine lv_iload_n hx hb d_S_bits_1 rfl (lv_at hl 2 rfl) ?_
  refine lv_iushr (v := i_ushr a0 a2) hx hb d_S_bits_2 rfl ?_
  refine lv_iconst (v := nI 1) hx hb d_S_bits_3 (by decide) ?_
  refine lv_iload_n hx hb d_S_bits_4 rfl (lv_at hl 1 rfl) ?_
  refine lv_iload_n hx hb d_S_bits_5 rfl (lv_at hl 2 rfl) ?_
  refine lv_isub hx hb d_S_bits_6 ?_
  refine lv_iconst (v := nI 1) hx hb d_S_bits_7 (by decide) ?_
  refine lv_iadd hx hb d_S_bits_8 ?_
  refine lv_ishl hx hb d_S_bits_9 ?_
  refine lv_iconst (v := nI 1) hx hb d_S_bits_10 (by decide) ?_
  refine lv_isub hx hb d_S_bits_11 ?_
  refine lv_iand hx hb d_S_bits_12 ?_
  exact W.iret hx hb hr (fun t ht _ => ⟨_, rfl, by rw [f_bits], ht⟩) (fun q h => nomatch h) d_S_bits_13
set_option maxHeartbeats 4000000 in
set_option maxRecDepth 100000 in
theorem c_gather (l : Launch) (t : Nat → Nat) (k : Nat) {nm : String} {row : List Nat} {mm : Nat} (hk : tabs[k]? = some (nm, row)) (hm : row.length = 3 * mm) (hm2 : mm ≤ 100) (a0 : Int32) : Met l y_S_gather w_S_gather { frames := 1, cells := 0, slots := 0, locals := 22 } (va_Pc [.int a0, .ref (t k)] (tb t)) (vp_Si (fun r => r = f_gather row (nI 0) a0)) 0 0 (fun _ => False) := by
  refine Met.ofW (cc := b_S_gather) (maxL := 4) (ret := (some .int)) (by decide) rfl ?_
  intro p e s m args below meth c s₁ B hml hv
  obtain ⟨rfl, hT⟩ := hv
  have hx := B.exec
  have hb := B.bytes
  have hr := B.returns
  have hts := atoms_spec (ws := w_S_gather) B.pre
  have hown : s.vm.findClass R_S = some m.cls := findClass_of_methodNamed B.named
  have hlocks := B.notSynchronized
  have hl := lv_entry ([.int a0, .ref (t k)]) (n := 4) (Nat.le_of_ble_eq_true rfl)
  rw [lg_entry_eq]
  generalize (lg_sl ([.int a0, .ref (t k)]) ++ List.replicate (4 - (lg_sl ([.int a0, .ref (t k)])).length) Slot.unset).toArray = ls at hl ⊢
  have hl : lv_has ls 4 [(0, .int a0), (1, .ref (t k))] := hl
  have hTk : va_T .int (t k) row.length (fun j => .int (nI (row.getD j 0))) (fun _ => False) s s.heap := (hT k _ hk).2
  have hld : ∀ j : Nat, j < row.length → vp_in (nI j) row.length ∧ Value.int (nI (row.getD (nI j).toNatClampNeg 0)) = .int (nI (row.getD j 0)) := fun j hj => ⟨vp_in_nI hj (by omega), by rw [nI_clamp (by omega)]⟩
  have key : ∀ (n j : Nat) (acc x3 : Int32) (ls : Array Slot), j ≤ mm → mm < j + n → x3 = nI (3 * j) → f_gather (row.drop (3 * j)) acc a0 = f_gather row (nI 0) a0 → lv_has ls 4 [(0, .int a0), (1, .ref (t k)), (2, .int acc), (3, .int x3)] → W p l e (headSpec w_S_gather { frames := 1, cells := 0, slots := 0, locals := 22 }).room s m ([.int a0, .ref (t k)] : List Value).toArray below meth c s.heap [] 0 0 (MQ below (vp_Si (fun r => r = f_gather row (nI 0) a0)) ([.int a0, .ref (t k)] : List Value).toArray s 0 0 (fun _ => False)) (F0 m 4 ls []) := by
    intro n
    induction n with
    | zero => intro j acc x3 ls h1 h2; omega
    | succ n ih =>
      intro j acc x3 ls hj hn ex hf hl
      subst ex
      refine lv_iload_n hx hb d_S_gather_4 rfl (lv_at hl 3 rfl) ?_
      refine lv_iconst (v := nI 2) hx hb d_S_gather_5 (by decide) ?_
      refine lv_iadd hx hb d_S_gather_6 ?_
      refine lv_topi (fun v1 e1 => ?_)
      rw [nI_add] at e1
      subst e1
      refine lv_aload_n hx hb d_S_gather_7 rfl (lv_at hl 1 rfl) ?_
      refine va_tlen hx hb hTk va_S.rf (v := nI row.length) rfl d_S_gather_8 ?_
      refine lv_icmp_ge (tgt := 39) hx hb d_S_gather_9 (by decide) (fun c1 => ?_) (fun c1 => ?_)
      · rw [nI_leI (by omega) (by omega)] at c1
        have ej : j = mm := by omega
        refine lv_iload_n hx hb d_S_gather_39 rfl (lv_at hl 2 rfl) ?_
        exact W.iret hx hb hr (fun t ht _ => ⟨_, rfl, by rw [← hf, ej, ← hm, List.drop_length]; rfl, ht⟩) (fun q h => nomatch h) d_S_gather_40
      · rw [nI_leI (by omega) (by omega)] at c1
        have hlt : 3 * j + 2 < row.length := by omega
        refine lv_iload_n hx hb d_S_gather_12 rfl (lv_at hl 2 rfl) ?_
        refine lv_iload_n hx hb d_S_gather_13 rfl (lv_at hl 0 rfl) ?_
        refine lv_aload_n hx hb d_S_gather_14 rfl (lv_at hl 1 rfl) ?_
        refine lv_iload_n hx hb d_S_gather_15 rfl (lv_at hl 3 rfl) ?_
        refine lv_iconst (v := nI 1) hx hb d_S_gather_16 (by decide) ?_
        refine lv_iadd hx hb d_S_gather_17 ?_
        refine lv_topi (fun v2 e2 => ?_)
        rw [nI_add] at e2
        subst e2
        refine va_ti hx hb hTk va_S.rf (hld (3 * j + 1) (by omega)).1 (hld (3 * j + 1) (by omega)).2 d_S_gather_18 ?_
        refine lv_aload_n hx hb d_S_gather_19 rfl (lv_at hl 1 rfl) ?_
        refine lv_iload_n hx hb d_S_gather_20 rfl (lv_at hl 3 rfl) ?_
        refine lv_iconst (v := nI 2) hx hb d_S_gather_21 (by decide) ?_
        refine lv_iadd hx hb d_S_gather_22 ?_
        refine lv_topi (fun v3 e3 => ?_)
        rw [nI_add] at e3
        subst e3
        refine va_ti hx hb hTk va_S.rf (hld (3 * j + 2) (by omega)).1 (hld (3 * j + 2) (by omega)).2 d_S_gather_23 ?_
        refine callE (W.runS (As := [.int a0, .int (nI (row.getD (3 * j + 1) 0)), .int (nI (row.getD (3 * j + 2) 0))]) (rest := [.int acc]) ⟨hx, hb, hml, hown, hts⟩ (c_bits l t a0 (nI (row.getD (3 * j + 1) 0)) (nI (row.getD (3 * j + 2) 0))) (cwS 3 hts (gS k_47 k_48 k_1 k_49) rfl rfl rfl (by decide +kernel) ⟨Nat.le_of_ble_eq_true rfl, Nat.le_of_ble_eq_true rfl⟩) (tb_pre hT) rfl rfl hl.1 rfl (lv_room (Nat.le_of_ble_eq_true rfl)) d_S_gather_24 ⟨Nat.zero_le _, Nat.zero_le _⟩) ?_
        refine lv_aload_n hx hb d_S_gather_27 rfl (lv_at hl 1 rfl) ?_
        refine lv_iload_n hx hb d_S_gather_28 rfl (lv_at hl 3 rfl) ?_
        refine va_ti hx hb hTk va_S.rf (hld (3 * j) (by omega)).1 (hld (3 * j) (by omega)).2 d_S_gather_29 ?_
        refine lv_ishl hx hb d_S_gather_30 ?_
        refine lv_ior hx hb d_S_gather_31 ?_
        refine lv_topi (fun v5 e5 => ?_)
        refine lv_istore_n (lv' := [(2, .int v5), (0, .int a0), (1, .ref (t k)), (3, .int (nI (3 * j)))]) hx hb d_S_gather_32 rfl hl (by decide) rfl (fun ls hl => ?_)
        obtain ⟨v6, e6⟩ : ∃ y : Int32, y = nI (3 * j) + nI 3 := ⟨_, rfl⟩
        refine lv_iinc (v := v6) (lv' := [(3, .int v6), (2, .int v5), (0, .int a0), (1, .ref (t k))]) hx hb d_S_gather_33 hl (k := 3) rfl (by rw [e6]; rfl) (by decide) rfl (fun ls hl => ?_)
        refine lv_goto (tgt := 4) hx hb d_S_gather_36 (by decide) ?_
        refine ih (j + 1) v5 v6 ls (by omega) (by omega) (by rw [e6, nI_add]; rfl) ?_ (lv_sub hl [2, 3, 1, 0] rfl)
        rw [← hf, drop3 row (3 * j) hlt, e5]
        rfl
  refine lv_iconst (v := nI 0) hx hb d_S_gather_0 (by decide) ?_
  refine lv_istore_n (lv' := [(2, .int (nI 0)), (0, .int a0), (1, .ref (t k))]) hx hb d_S_gather_1 rfl hl (by decide) rfl (fun ls hl => ?_)
  refine lv_iconst (v := nI 0) hx hb d_S_gather_2 (by decide) ?_
  refine lv_istore_n (lv' := [(3, .int (nI 0)), (2, .int (nI 0)), (0, .int a0), (1, .ref (t k))]) hx hb d_S_gather_3 rfl hl (by decide) rfl (fun ls hl => ?_)
  exact key (mm + 1) 0 (nI 0) (nI 0) ls (Nat.zero_le _) (by omega) rfl rfl (lv_sub hl [2, 3, 1, 0] rfl)
set_option maxHeartbeats 4000000 in
set_option maxRecDepth 100000 in
theorem c_scatter (l : Launch) (t : Nat → Nat) (k : Nat) {nm : String} {row : List Nat} {mm : Nat} (hk : tabs[k]? = some (nm, row)) (hm : row.length = 3 * mm) (hm2 : mm ≤ 100) (a0 : Int32) : Met l y_S_scatter w_S_scatter { frames := 1, cells := 0, slots := 0, locals := 22 } (va_Pc [.int a0, .ref (t k)] (tb t)) (vp_Si (fun r => r = f_scatter row (nI 0) a0)) 0 0 (fun _ => False) := by
  refine Met.ofW (cc := b_S_scatter) (maxL := 5) (ret := (some .int)) (by decide) rfl ?_
  intro p e s m args below meth c s₁ B hml hv
  obtain ⟨rfl, hT⟩ := hv
  have hx := B.exec
  have hb := B.bytes
  have hr := B.returns
  have hts := atoms_spec (ws := w_S_scatter) B.pre
  have hown : s.vm.findClass R_S = some m.cls := findClass_of_methodNamed B.named
  have hlocks := B.notSynchronized
  have hl := lv_entry ([.int a0, .ref (t k)]) (n := 5) (Nat.le_of_ble_eq_true rfl)
  rw [lg_entry_eq]
  generalize (lg_sl ([.int a0, .ref (t k)]) ++ List.replicate (5 - (lg_sl ([.int a0, .ref (t k)])).length) Slot.unset).toArray = ls at hl ⊢
  have hl : lv_has ls 5 [(0, .int a0), (1, .ref (t k))] := hl
  have hTk : va_T .int (t k) row.length (fun j => .int (nI (row.getD j 0))) (fun _ => False) s s.heap := (hT k _ hk).2
  have hld : ∀ j : Nat, j < row.length → vp_in (nI j) row.length ∧ Value.int (nI (row.getD (nI j).toNatClampNeg 0)) = .int (nI (row.getD j 0)) := fun j hj => ⟨vp_in_nI hj (by omega), by rw [nI_clamp (by omega)]⟩
  have key : ∀ (n j : Nat) (acc x3 : Int32) (ls : Array Slot), j ≤ mm → mm < j + n → x3 = nI (3 * j) → f_scatter (row.drop (3 * j)) acc a0 = f_scatter row (nI 0) a0 → lv_has ls 5 [(0, .int a0), (1, .ref (t k)), (2, .int acc), (3, .int x3)] → W p l e (headSpec w_S_scatter { frames := 1, cells := 0, slots := 0, locals := 22 }).room s m ([.int a0, .ref (t k)] : List Value).toArray below meth c s.heap [] 0 0 (MQ below (vp_Si (fun r => r = f_scatter row (nI 0) a0)) ([.int a0, .ref (t k)] : List Value).toArray s 0 0 (fun _ => False)) (F0 m 4 ls []) := by
    intro n
    induction n with
    | zero => intro j acc x3 ls h1 h2; omega
    | succ n ih =>
      intro j acc x3 ls hj hn ex hf hl
      subst ex
      refine lv_iload_n hx hb d_S_scatter_4 rfl (lv_at hl 3 rfl) ?_
      refine lv_iconst (v := nI 2) hx hb d_S_scatter_5 (by decide) ?_
      refine lv_iadd hx hb d_S_scatter_6 ?_
      refine lv_topi (fun v1 e1 => ?_)
      rw [nI_add] at e1
      subst e1
      refine lv_aload_n hx hb d_S_scatter_7 rfl (lv_at hl 1 rfl) ?_
      refine va_tlen hx hb hTk va_S.rf (v := nI row.length) rfl d_S_scatter_8 ?_
      refine lv_icmp_ge (tgt := 53) hx hb d_S_scatter_9 (by decide) (fun c1 => ?_) (fun c1 => ?_)
      · rw [nI_leI (by omega) (by omega)] at c1
        have ej : j = mm := by omega
        refine lv_iload_n hx hb d_S_scatter_53 rfl (lv_at hl 2 rfl) ?_
        exact W.iret hx hb hr (fun t ht _ => ⟨_, rfl, by rw [← hf, ej, ← hm, List.drop_length]; rfl, ht⟩) (fun q h => nomatch h) d_S_scatter_54
      · rw [nI_leI (by omega) (by omega)] at c1
        have hlt : 3 * j + 2 < row.length := by omega
        refine lv_aload_n hx hb d_S_scatter_12 rfl (lv_at hl 1 rfl) ?_
        refine lv_iload_n hx hb d_S_scatter_13 rfl (lv_at hl 3 rfl) ?_
        refine va_ti hx hb hTk va_S.rf (hld (3 * j) (by omega)).1 (hld (3 * j) (by omega)).2 d_S_scatter_14 ?_
        refine lv_aload_n hx hb d_S_scatter_15 rfl (lv_at hl 1 rfl) ?_
        refine lv_iload_n hx hb d_S_scatter_16 rfl (lv_at hl 3 rfl) ?_
        refine lv_iconst (v := nI 1) hx hb d_S_scatter_17 (by decide) ?_
        refine lv_iadd hx hb d_S_scatter_18 ?_
        refine lv_topi (fun v11 e11 => ?_)
        rw [nI_add] at e11
        subst e11
        refine va_ti hx hb hTk va_S.rf (hld (3 * j + 1) (by omega)).1 (hld (3 * j + 1) (by omega)).2 d_S_scatter_19 ?_
        refine lv_iadd hx hb d_S_scatter_20 ?_
        refine lv_aload_n hx hb d_S_scatter_21 rfl (lv_at hl 1 rfl) ?_
        refine lv_iload_n hx hb d_S_scatter_22 rfl (lv_at hl 3 rfl) ?_
        refine lv_iconst (v := nI 2) hx hb d_S_scatter_23 (by decide) ?_
        refine lv_iadd hx hb d_S_scatter_24 ?_
        refine lv_topi (fun v12 e12 => ?_)
        rw [nI_add] at e12
        subst e12
        refine va_ti hx hb hTk va_S.rf (hld (3 * j + 2) (by omega)).1 (hld (3 * j + 2) (by omega)).2 d_S_scatter_25 ?_
        refine lv_isub hx hb d_S_scatter_26 ?_
        refine lv_topi (fun v2 e2 => ?_)
        refine lv_istore (lv' := [(4, .int v2), (0, .int a0), (1, .ref (t k)), (2, .int acc), (3, .int (nI (3 * j)))]) hx hb d_S_scatter_27 hl (by decide) rfl (fun ls hl => ?_)
        refine lv_iload_n hx hb d_S_scatter_29 rfl (lv_at hl 3 rfl) ?_
        refine lv_iload_n hx hb d_S_scatter_30 rfl (lv_at hl 1 rfl) ?_
        refine lv_iload hx hb d_S_scatter_31 (lv_at hl 0 rfl) ?_
        refine lv_aload_n hx hb d_S_scatter_33 rfl (lv_at hl 2 rfl) ?_
        refine lv_iload_n hx hb d_S_scatter_34 rfl (lv_at hl 4 rfl) ?_
        refine va_ti hx hb hTk va_S.rf (hld (3 * j) (by omega)).1 (hld (3 * j) (by omega)).2 d_S_scatter_35 ?_
        refine callE (W.runS (As := [.int a0, .int v2, .int (nI (row.getD (3 * j) 0))]) (rest := [.int acc]) ⟨hx, hb, hml, hown, hts⟩ (c_bits l t a0 v2 (nI (row.getD (3 * j) 0))) (cwS 3 hts (gS k_47 k_48 k_1 k_49) rfl rfl rfl (by decide +kernel) ⟨Nat.le_of_ble_eq_true rfl, Nat.le_of_ble_eq_true rfl⟩) (tb_pre hT) rfl rfl hl.1 rfl (lv_room (Nat.le_of_ble_eq_true rfl)) d_S_scatter_36 ⟨Nat.zero_le _, Nat.zero_le _⟩) ?_
        refine lv_aload_n hx hb d_S_scatter_39 rfl (lv_at hl 2 rfl) ?_
        refine lv_iload_n hx hb d_S_scatter_40 rfl (lv_at hl 4 rfl) ?_
        refine lv_iconst (v := nI 2) hx hb d_S_scatter_41 (by decide) ?_
        refine lv_iadd hx hb d_S_scatter_42 ?_
        refine lv_topi (fun v13 e13 => ?_)
        rw [nI_add] at e13
        subst e13
        refine va_ti hx hb hTk va_S.rf (hld (3 * j + 2) (by omega)).1 (hld (3 * j + 2) (by omega)).2 d_S_scatter_43 ?_
        refine lv_ishl hx hb d_S_scatter_44 ?_
        refine lv_ior hx hb d_S_scatter_45 ?_
        refine lv_topi (fun v5 e5 => ?_)
        refine lv_istore_n (lv' := [(2, .int v5), (4, .int v2), (0, .int a0), (1, .ref (t k)), (3, .int (nI (3 * j)))]) hx hb d_S_scatter_46 rfl hl (by decide) rfl (fun ls hl => ?_)
        obtain ⟨v6, e6⟩ : ∃ y : Int32, y = nI (3 * j) + nI 3 := ⟨_, rfl⟩
        refine lv_iinc (v := v6) (lv' := [(3, .int v6), (2, .int v5), (4, .int v2), (0, .int a0), (1, .ref (t k))]) hx hb d_S_scatter_47 hl (k := 4) rfl (by rw [e6]; rfl) (by decide) rfl (fun ls hl => ?_)
        refine lv_goto (tgt := 4) hx hb d_S_scatter_50 (by decide) ?_
        refine ih (j + 1) v5 v6 ls (by omega) (by omega) (by rw [e6, nI_add]; rfl) ?_ (lv_sub hl [3, 4, 1, 0] rfl)
        rw [← hf, drop3 row (3 * j) hlt, e5, e2]
        rfl
  refine lv_iconst (v := nI 0) hx hb d_S_scatter_0 (by decide) ?_
  refine lv_istore_n (lv' := [(2, .int (nI 0)), (0, .int a0), (1, .ref (t k))]) hx hb d_S_scatter_1 rfl hl (by decide) rfl (fun ls hl => ?_)
  refine lv_iconst (v := nI 0) hx hb d_S_scatter_2 (by decide) ?_
  refine lv_istore_n (lv' := [(3, .int (nI 0)), (2, .int (nI 0)), (0, .int a0), (1, .ref (t k))]) hx hb d_S_scatter_3 rfl hl (by decide) rfl (fun ls hl => ?_)
  exact key (mm + 1) 0 (nI 0) (nI 0) ls (Nat.zero_le _) (by omega) rfl rfl (lv_sub hl [2, 3, 1, 0] rfl)
