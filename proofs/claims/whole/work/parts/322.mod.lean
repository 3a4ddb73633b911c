set_option maxHeartbeats 40000000 in
set_option maxRecDepth 100000 in
theorem c_M_wordB (l : Launch) (a0 a1 a2 : Int32) : Met l y_M_wordB w_M_wordB { frames := 1, cells := 0, slots := 0, locals := 22 } (va_Pc [.int a0, .int a1, .int a2] (tt0)) (vp_Si (fun r => r = f_M_wordB a0 a1 a2)) 0 0 (fun _ => False) := by
  refine Met.ofW (cc := b_M_wordB) (maxL := 5) (ret := (some .int)) (by decide) rfl ?_
  intro p e s m args below meth c s₁ B hml hv
  obtain ⟨rfl, hT⟩ := hv
  have hx := B.exec
  have hb := B.bytes
  have hr := B.returns
  have hts := atoms_spec (ws := w_M_wordB) B.pre
  have hown : s.vm.findClass R_M = some m.cls := findClass_of_methodNamed B.named
  have hlocks := B.notSynchronized
  have hl := lv_entry ([.int a0, .int a1, .int a2]) (n := 5) (Nat.le_of_ble_eq_true rfl)
  rw [lg_entry_eq]
  generalize (lg_sl ([.int a0, .int a1, .int a2]) ++ List.replicate (5 - (lg_sl ([.int a0, .int a1, .int a2])).length) Slot.unset).toArray = ls at hl ⊢
  have hl : lv_has ls 5 [(0, .int a0), (1, .int a1), (2, .int a2)] := hl
  have key : ∀ (n k : Nat) (xc xk : Int32) (ls : Array Slot), k ≤ 10 → 10 < k + n → xc = f_wB a2 (((((nI 99) + ((nI 4096) * a0)) + ((nI 32768) * a1)) + (f_M_bit a2 (nI 11) (nI 7))) + (f_M_bit a2 (nI 12) (nI 31))) k → xk = nI (k + 1) → lv_has ls 5 [(0, .int a0), (1, .int a1), (2, .int a2), (3, .int xc), (4, .int xk)] → W p l e (headSpec w_M_wordB { frames := 1, cells := 0, slots := 0, locals := 22 }).room s m ([.int a0, .int a1, .int a2] : List Value).toArray below meth c s.heap [] 0 0 (MQ below (vp_Si (fun r => r = f_M_wordB a0 a1 a2)) ([.int a0, .int a1, .int a2] : List Value).toArray s 0 0 (fun _ => False)) (F0 m 35 ls []) := by
    intro n
    induction n with
    | zero => intro k xc xk ls h1 h2; omega
    | succ n ih =>
      intro k xc xk ls hk hn exc exk hl
      rw [exc, exk] at hl
      refine lv_iload hx hb d_M_wordB_35 (lv_at hl 4 rfl) ?_
      refine lv_bipush (v := nI 11) hx hb d_M_wordB_37 (by decide) ?_
      refine lv_icmp_ge (tgt := 76) hx hb d_M_wordB_39 (by decide) (fun c1 => ?_) (fun c1 => ?_)
      · rw [nI_leI (by omega) (by omega)] at c1
        have ek : k = 10 := by omega
        refine lv_iload_n hx hb d_M_wordB_76 rfl (lv_at hl 3 rfl) ?_
        exact W.iret hx hb hr (fun t ht _ => ⟨_, rfl, by rw [ek]; rfl, ht⟩) (fun q h => nomatch h) d_M_wordB_77
      · rw [nI_leI (by omega) (by omega)] at c1
        have hkb : k < 10 := by omega
        refine lv_iload_n hx hb d_M_wordB_42 rfl (lv_at hl 3 rfl) ?_
        refine lv_iload_n hx hb d_M_wordB_43 rfl (lv_at hl 2 rfl) ?_
        refine lv_iload hx hb d_M_wordB_44 (lv_at hl 4 rfl) ?_
        refine lv_iload hx hb d_M_wordB_46 (lv_at hl 4 rfl) ?_
        refine lv_iconst (v := nI 5) hx hb d_M_wordB_48 (by decide) ?_
        refine lv_icmp_ge (tgt := 60) hx hb d_M_wordB_49 (by decide) (fun c2 => ?_) (fun c2 => ?_)
        · refine lv_iload hx hb d_M_wordB_60 (lv_at hl 4 rfl) ?_
          refine lv_bipush (v := nI 20) hx hb d_M_wordB_62 (by decide) ?_
          refine lv_iadd hx hb d_M_wordB_64 ?_
          refine callE (W.runS (As := [.int a2, .int (nI (k + 1)), .int ((nI (k + 1)) + (nI 20))]) (rest := [.int (f_wB a2 (((((nI 99) + ((nI 4096) * a0)) + ((nI 32768) * a1)) + (f_M_bit a2 (nI 11) (nI 7))) + (f_M_bit a2 (nI 12) (nI 31))) k)]) ⟨hx, hb, hml, hown, hts⟩ (c_M_bit l a2 (nI (k + 1)) ((nI (k + 1)) + (nI 20))) (cwS 3 hts (gS k_376 k_377 k_2 k_378) rfl rfl rfl (by decide +kernel) ⟨Nat.le_of_ble_eq_true rfl, Nat.le_of_ble_eq_true rfl⟩) pre0 rfl rfl hl.1 rfl (lv_room (Nat.le_of_ble_eq_true rfl)) d_M_wordB_65 ⟨Nat.zero_le _, Nat.zero_le _⟩) ?_
          refine lv_iadd hx hb d_M_wordB_68 ?_
          refine lv_istore_n (lv' := [(3, .int ((f_wB a2 (((((nI 99) + ((nI 4096) * a0)) + ((nI 32768) * a1)) + (f_M_bit a2 (nI 11) (nI 7))) + (f_M_bit a2 (nI 12) (nI 31))) k) + (f_M_bit a2 (nI (k + 1)) ((nI (k + 1)) + (nI 20))))), (0, .int a0), (1, .int a1), (2, .int a2), (4, .int (nI (k + 1)))]) hx hb d_M_wordB_69 rfl hl (by decide) rfl (fun ls hl => ?_)
          refine lv_iinc (v := ((nI (k + 1)) + nI 1)) (lv' := [(4, .int ((nI (k + 1)) + nI 1)), (3, .int ((f_wB a2 (((((nI 99) + ((nI 4096) * a0)) + ((nI 32768) * a1)) + (f_M_bit a2 (nI 11) (nI 7))) + (f_M_bit a2 (nI 12) (nI 31))) k) + (f_M_bit a2 (nI (k + 1)) ((nI (k + 1)) + (nI 20))))), (0, .int a0), (1, .int a1), (2, .int a2)]) hx hb d_M_wordB_70 hl (k := 4) rfl (by rw [show Int32.ofInt 1 = nI 1 from by decide]) (by decide) rfl (fun ls hl => ?_)
          refine lv_goto (tgt := 35) hx hb d_M_wordB_73 (by decide) ?_
          exact ih (k + 1) _ _ ls (by omega) (by omega) (by rw [f_wB_s, if_pos c2]) (nI_add _ _) (lv_sub hl [2, 3, 4, 1, 0] rfl)
        · refine lv_iload hx hb d_M_wordB_52 (lv_at hl 4 rfl) ?_
          refine lv_bipush (v := nI 7) hx hb d_M_wordB_54 (by decide) ?_
          refine lv_iadd hx hb d_M_wordB_56 ?_
          refine lv_goto (tgt := 65) hx hb d_M_wordB_57 (by decide) ?_
          refine callE (W.runS (As := [.int a2, .int (nI (k + 1)), .int ((nI (k + 1)) + (nI 7))]) (rest := [.int (f_wB a2 (((((nI 99) + ((nI 4096) * a0)) + ((nI 32768) * a1)) + (f_M_bit a2 (nI 11) (nI 7))) + (f_M_bit a2 (nI 12) (nI 31))) k)]) ⟨hx, hb, hml, hown, hts⟩ (c_M_bit l a2 (nI (k + 1)) ((nI (k + 1)) + (nI 7))) (cwS 3 hts (gS k_376 k_377 k_2 k_378) rfl rfl rfl (by decide +kernel) ⟨Nat.le_of_ble_eq_true rfl, Nat.le_of_ble_eq_true rfl⟩) pre0 rfl rfl hl.1 rfl (lv_room (Nat.le_of_ble_eq_true rfl)) d_M_wordB_65 ⟨Nat.zero_le _, Nat.zero_le _⟩) ?_
          refine lv_iadd hx hb d_M_wordB_68 ?_
          refine lv_istore_n (lv' := [(3, .int ((f_wB a2 (((((nI 99) + ((nI 4096) * a0)) + ((nI 32768) * a1)) + (f_M_bit a2 (nI 11) (nI 7))) + (f_M_bit a2 (nI 12) (nI 31))) k) + (f_M_bit a2 (nI (k + 1)) ((nI (k + 1)) + (nI 7))))), (0, .int a0), (1, .int a1), (2, .int a2), (4, .int (nI (k + 1)))]) hx hb d_M_wordB_69 rfl hl (by decide) rfl (fun ls hl => ?_)
          refine lv_iinc (v := ((nI (k + 1)) + nI 1)) (lv' := [(4, .int ((nI (k + 1)) + nI 1)), (3, .int ((f_wB a2 (((((nI 99) + ((nI 4096) * a0)) + ((nI 32768) * a1)) + (f_M_bit a2 (nI 11) (nI 7))) + (f_M_bit a2 (nI 12) (nI 31))) k) + (f_M_bit a2 (nI (k + 1)) ((nI (k + 1)) + (nI 7))))), (0, .int a0), (1, .int a1), (2, .int a2)]) hx hb d_M_wordB_70 hl (k := 4) rfl (by rw [show Int32.ofInt 1 = nI 1 from by decide]) (by decide) rfl (fun ls hl => ?_)
          refine lv_goto (tgt := 35) hx hb d_M_wordB_73 (by decide) ?_
          exact ih (k + 1) _ _ ls (by omega) (by omega) (by rw [f_wB_s, if_neg c2]) (nI_add _ _) (lv_sub hl [2, 3, 4, 1, 0] rfl)
  refine lv_bipush (v := nI 99) hx hb d_M_wordB_0 (by decide) ?_
  refine lv_sipush (v := nI 4096) hx hb d_M_wordB_2 (by decide) ?_
  refine lv_iload_n hx hb d_M_wordB_5 rfl (lv_at hl 0 rfl) ?_
  refine lv_imul hx hb d_M_wordB_6 ?_
  refine lv_iadd hx hb d_M_wordB_7 ?_
  refine lv_ldc (v := nI 32768) hx hb hown (hts _ (List.mem_cons_of_mem _ k_336)) d_M_wordB_8 ?_
  refine lv_iload_n hx hb d_M_wordB_10 rfl (lv_at hl 1 rfl) ?_
  refine lv_imul hx hb d_M_wordB_11 ?_
  refine lv_iadd hx hb d_M_wordB_12 ?_
  refine lv_iload_n hx hb d_M_wordB_13 rfl (lv_at hl 2 rfl) ?_
  refine lv_bipush (v := nI 11) hx hb d_M_wordB_14 (by decide) ?_
  refine lv_bipush (v := nI 7) hx hb d_M_wordB_16 (by decide) ?_
  refine callE (W.runS (As := [.int a2, .int (nI 11), .int (nI 7)]) (rest := [.int (((nI 99) + ((nI 4096) * a0)) + ((nI 32768) * a1))]) ⟨hx, hb, hml, hown, hts⟩ (c_M_bit l a2 (nI 11) (nI 7)) (cwS 3 hts (gS k_376 k_377 k_2 k_378) rfl rfl rfl (by decide +kernel) ⟨Nat.le_of_ble_eq_true rfl, Nat.le_of_ble_eq_true rfl⟩) pre0 rfl rfl hl.1 rfl (lv_room (Nat.le_of_ble_eq_true rfl)) d_M_wordB_18 ⟨Nat.zero_le _, Nat.zero_le _⟩) ?_
  refine lv_iadd hx hb d_M_wordB_21 ?_
  refine lv_iload_n hx hb d_M_wordB_22 rfl (lv_at hl 2 rfl) ?_
  refine lv_bipush (v := nI 12) hx hb d_M_wordB_23 (by decide) ?_
  refine lv_bipush (v := nI 31) hx hb d_M_wordB_25 (by decide) ?_
  refine callE (W.runS (As := [.int a2, .int (nI 12), .int (nI 31)]) (rest := [.int ((((nI 99) + ((nI 4096) * a0)) + ((nI 32768) * a1)) + (f_M_bit a2 (nI 11) (nI 7)))]) ⟨hx, hb, hml, hown, hts⟩ (c_M_bit l a2 (nI 12) (nI 31)) (cwS 3 hts (gS k_376 k_377 k_2 k_378) rfl rfl rfl (by decide +kernel) ⟨Nat.le_of_ble_eq_true rfl, Nat.le_of_ble_eq_true rfl⟩) pre0 rfl rfl hl.1 rfl (lv_room (Nat.le_of_ble_eq_true rfl)) d_M_wordB_27 ⟨Nat.zero_le _, Nat.zero_le _⟩) ?_
  refine lv_iadd hx hb d_M_wordB_30 ?_
  refine lv_istore_n (lv' := [(3, .int (((((nI 99) + ((nI 4096) * a0)) + ((nI 32768) * a1)) + (f_M_bit a2 (nI 11) (nI 7))) + (f_M_bit a2 (nI 12) (nI 31)))), (0, .int a0), (1, .int a1), (2, .int a2)]) hx hb d_M_wordB_31 rfl hl (by decide) rfl (fun ls hl => ?_)
  refine lv_iconst (v := nI 1) hx hb d_M_wordB_32 (by decide) ?_
  refine lv_istore (lv' := [(4, .int (nI 1)), (3, .int (((((nI 99) + ((nI 4096) * a0)) + ((nI 32768) * a1)) + (f_M_bit a2 (nI 11) (nI 7))) + (f_M_bit a2 (nI 12) (nI 31)))), (0, .int a0), (1, .int a1), (2, .int a2)]) hx hb d_M_wordB_33 hl (by decide) rfl (fun ls hl => ?_)
  exact key 11 0 _ _ ls (Nat.zero_le _) (by omega) rfl rfl (lv_sub hl [2, 3, 4, 1, 0] rfl)
set_option maxHeartbeats 40000000 in
set_option maxRecDepth 100000 in
theorem c_M_wordJ (l : Launch) (a0 : Int32) : Met l y_M_wordJ w_M_wordJ { frames := 1, cells := 0, slots := 0, locals := 22 } (va_Pc [.int a0] (tt0)) (vp_Si (fun r => r = f_M_wordJ a0)) 0 0 (fun _ => False) := by
  refine Met.ofW (cc := b_M_wordJ) (maxL := 3) (ret := (some .int)) (by decide) rfl ?_
  intro p e s m args below meth c s₁ B hml hv
  obtain ⟨rfl, hT⟩ := hv
  have hx := B.exec
  have hb := B.bytes
  have hr := B.returns
  have hts := atoms_spec (ws := w_M_wordJ) B.pre
  have hown : s.vm.findClass R_M = some m.cls := findClass_of_methodNamed B.named
  have hlocks := B.notSynchronized
  have hl := lv_entry ([.int a0]) (n := 3) (Nat.le_of_ble_eq_true rfl)
  rw [lg_entry_eq]
  generalize (lg_sl ([.int a0]) ++ List.replicate (3 - (lg_sl ([.int a0])).length) Slot.unset).toArray = ls at hl ⊢
  have hl : lv_has ls 3 [(0, .int a0)] := hl
  have key : ∀ (n k : Nat) (xc xk : Int32) (ls : Array Slot), k ≤ 19 → 19 < k + n → xc = f_wJ a0 (((nI 111) + (f_M_bit a0 (nI 11) (nI 20))) + (f_M_bit a0 (nI 20) (nI 31))) k → xk = nI (k + 1) → lv_has ls 3 [(0, .int a0), (1, .int xc), (2, .int xk)] → W p l e (headSpec w_M_wordJ { frames := 1, cells := 0, slots := 0, locals := 22 }).room s m ([.int a0] : List Value).toArray below meth c s.heap [] 0 0 (MQ below (vp_Si (fun r => r = f_M_wordJ a0)) ([.int a0] : List Value).toArray s 0 0 (fun _ => False)) (F0 m 23 ls []) := by
    intro n
    induction n with
    | zero => intro k xc xk ls h1 h2; omega
    | succ n ih =>
      intro k xc xk ls hk hn exc exk hl
      rw [exc, exk] at hl
      refine lv_iload_n hx hb d_M_wordJ_23 rfl (lv_at hl 2 rfl) ?_
      refine lv_bipush (v := nI 20) hx hb d_M_wordJ_24 (by decide) ?_
      refine lv_icmp_ge (tgt := 67) hx hb d_M_wordJ_26 (by decide) (fun c1 => ?_) (fun c1 => ?_)
      · rw [nI_leI (by omega) (by omega)] at c1
        have ek : k = 19 := by omega
        refine lv_iload_n hx hb d_M_wordJ_67 rfl (lv_at hl 1 rfl) ?_
        exact W.iret hx hb hr (fun t ht _ => ⟨_, rfl, by rw [ek]; rfl, ht⟩) (fun q h => nomatch h) d_M_wordJ_68
      · rw [nI_leI (by omega) (by omega)] at c1
        have hkb : k < 19 := by omega
        refine lv_iload_n hx hb d_M_wordJ_29 rfl (lv_at hl 2 rfl) ?_
        refine lv_bipush (v := nI 11) hx hb d_M_wordJ_30 (by decide) ?_
        refine lv_icmp_ne (tgt := 39) hx hb d_M_wordJ_32 (by decide) (fun c2 => ?_) (fun c2 => ?_)
        · refine lv_iload_n hx hb d_M_wordJ_39 rfl (lv_at hl 1 rfl) ?_
          refine lv_iload_n hx hb d_M_wordJ_40 rfl (lv_at hl 0 rfl) ?_
          refine lv_iload_n hx hb d_M_wordJ_41 rfl (lv_at hl 2 rfl) ?_
          refine lv_iload_n hx hb d_M_wordJ_42 rfl (lv_at hl 2 rfl) ?_
          refine lv_bipush (v := nI 11) hx hb d_M_wordJ_43 (by decide) ?_
          refine lv_icmp_ge (tgt := 55) hx hb d_M_wordJ_45 (by decide) (fun c3 => ?_) (fun c3 => ?_)
          · refine lv_iload_n hx hb d_M_wordJ_55 rfl (lv_at hl 2 rfl) ?_
            refine callE (W.runS (As := [.int a0, .int (nI (k + 1)), .int (nI (k + 1))]) (rest := [.int (f_wJ a0 (((nI 111) + (f_M_bit a0 (nI 11) (nI 20))) + (f_M_bit a0 (nI 20) (nI 31))) k)]) ⟨hx, hb, hml, hown, hts⟩ (c_M_bit l a0 (nI (k + 1)) (nI (k + 1))) (cwS 3 hts (gS k_376 k_377 k_2 k_378) rfl rfl rfl (by decide +kernel) ⟨Nat.le_of_ble_eq_true rfl, Nat.le_of_ble_eq_true rfl⟩) pre0 rfl rfl hl.1 rfl (lv_room (Nat.le_of_ble_eq_true rfl)) d_M_wordJ_56 ⟨Nat.zero_le _, Nat.zero_le _⟩) ?_
            refine lv_iadd hx hb d_M_wordJ_59 ?_
            refine lv_istore_n (lv' := [(1, .int ((f_wJ a0 (((nI 111) + (f_M_bit a0 (nI 11) (nI 20))) + (f_M_bit a0 (nI 20) (nI 31))) k) + (f_M_bit a0 (nI (k + 1)) (nI (k + 1))))), (0, .int a0), (2, .int (nI (k + 1)))]) hx hb d_M_wordJ_60 rfl hl (by decide) rfl (fun ls hl => ?_)
            refine lv_iinc (v := ((nI (k + 1)) + nI 1)) (lv' := [(2, .int ((nI (k + 1)) + nI 1)), (1, .int ((f_wJ a0 (((nI 111) + (f_M_bit a0 (nI 11) (nI 20))) + (f_M_bit a0 (nI 20) (nI 31))) k) + (f_M_bit a0 (nI (k + 1)) (nI (k + 1))))), (0, .int a0)]) hx hb d_M_wordJ_61 hl (k := 2) rfl (by rw [show Int32.ofInt 1 = nI 1 from by decide]) (by decide) rfl (fun ls hl => ?_)
            refine lv_goto (tgt := 23) hx hb d_M_wordJ_64 (by decide) ?_
            exact ih (k + 1) _ _ ls (by omega) (by omega) (by rw [f_wJ_s, if_neg c2, if_pos c3]) (nI_add _ _) (lv_sub hl [2, 1, 0] rfl)
          · refine lv_iload_n hx hb d_M_wordJ_48 rfl (lv_at hl 2 rfl) ?_
            refine lv_bipush (v := nI 20) hx hb d_M_wordJ_49 (by decide) ?_
            refine lv_iadd hx hb d_M_wordJ_51 ?_
            refine lv_goto (tgt := 56) hx hb d_M_wordJ_52 (by decide) ?_
            refine callE (W.runS (As := [.int a0, .int (nI (k + 1)), .int ((nI (k + 1)) + (nI 20))]) (rest := [.int (f_wJ a0 (((nI 111) + (f_M_bit a0 (nI 11) (nI 20))) + (f_M_bit a0 (nI 20) (nI 31))) k)]) ⟨hx, hb, hml, hown, hts⟩ (c_M_bit l a0 (nI (k + 1)) ((nI (k + 1)) + (nI 20))) (cwS 3 hts (gS k_376 k_377 k_2 k_378) rfl rfl rfl (by decide +kernel) ⟨Nat.le_of_ble_eq_true rfl, Nat.le_of_ble_eq_true rfl⟩) pre0 rfl rfl hl.1 rfl (lv_room (Nat.le_of_ble_eq_true rfl)) d_M_wordJ_56 ⟨Nat.zero_le _, Nat.zero_le _⟩) ?_
            refine lv_iadd hx hb d_M_wordJ_59 ?_
            refine lv_istore_n (lv' := [(1, .int ((f_wJ a0 (((nI 111) + (f_M_bit a0 (nI 11) (nI 20))) + (f_M_bit a0 (nI 20) (nI 31))) k) + (f_M_bit a0 (nI (k + 1)) ((nI (k + 1)) + (nI 20))))), (0, .int a0), (2, .int (nI (k + 1)))]) hx hb d_M_wordJ_60 rfl hl (by decide) rfl (fun ls hl => ?_)
            refine lv_iinc (v := ((nI (k + 1)) + nI 1)) (lv' := [(2, .int ((nI (k + 1)) + nI 1)), (1, .int ((f_wJ a0 (((nI 111) + (f_M_bit a0 (nI 11) (nI 20))) + (f_M_bit a0 (nI 20) (nI 31))) k) + (f_M_bit a0 (nI (k + 1)) ((nI (k + 1)) + (nI 20))))), (0, .int a0)]) hx hb d_M_wordJ_61 hl (k := 2) rfl (by rw [show Int32.ofInt 1 = nI 1 from by decide]) (by decide) rfl (fun ls hl => ?_)
            refine lv_goto (tgt := 23) hx hb d_M_wordJ_64 (by decide) ?_
            exact ih (k + 1) _ _ ls (by omega) (by omega) (by rw [f_wJ_s, if_neg c2, if_neg c3]) (nI_add _ _) (lv_sub hl [2, 1, 0] rfl)
        · refine lv_iload_n hx hb d_M_wordJ_35 rfl (lv_at hl 1 rfl) ?_
          refine lv_goto (tgt := 60) hx hb d_M_wordJ_36 (by decide) ?_
          refine lv_istore_n (lv' := [(1, .int (f_wJ a0 (((nI 111) + (f_M_bit a0 (nI 11) (nI 20))) + (f_M_bit a0 (nI 20) (nI 31))) k)), (0, .int a0), (2, .int (nI (k + 1)))]) hx hb d_M_wordJ_60 rfl hl (by decide) rfl (fun ls hl => ?_)
          refine lv_iinc (v := ((nI (k + 1)) + nI 1)) (lv' := [(2, .int ((nI (k + 1)) + nI 1)), (1, .int (f_wJ a0 (((nI 111) + (f_M_bit a0 (nI 11) (nI 20))) + (f_M_bit a0 (nI 20) (nI 31))) k)), (0, .int a0)]) hx hb d_M_wordJ_61 hl (k := 2) rfl (by rw [show Int32.ofInt 1 = nI 1 from by decide]) (by decide) rfl (fun ls hl => ?_)
          refine lv_goto (tgt := 23) hx hb d_M_wordJ_64 (by decide) ?_
          exact ih (k + 1) _ _ ls (by omega) (by omega) (by rw [f_wJ_s, if_pos c2]) (nI_add _ _) (lv_sub hl [2, 1, 0] rfl)
  refine lv_bipush (v := nI 111) hx hb d_M_wordJ_0 (by decide) ?_
  refine lv_iload_n hx hb d_M_wordJ_2 rfl (lv_at hl 0 rfl) ?_
  refine lv_bipush (v := nI 11) hx hb d_M_wordJ_3 (by decide) ?_
  refine lv_bipush (v := nI 20) hx hb d_M_wordJ_5 (by decide) ?_
  refine callE (W.runS (As := [.int a0, .int (nI 11), .int (nI 20)]) (rest := [.int (nI 111)]) ⟨hx, hb, hml, hown, hts⟩ (c_M_bit l a0 (nI 11) (nI 20)) (cwS 3 hts (gS k_376 k_377 k_2 k_378) rfl rfl rfl (by decide +kernel) ⟨Nat.le_of_ble_eq_true rfl, Nat.le_of_ble_eq_true rfl⟩) pre0 rfl rfl hl.1 rfl (lv_room (Nat.le_of_ble_eq_true rfl)) d_M_wordJ_7 ⟨Nat.zero_le _, Nat.zero_le _⟩) ?_
  refine lv_iadd hx hb d_M_wordJ_10 ?_
  refine lv_iload_n hx hb d_M_wordJ_11 rfl (lv_at hl 0 rfl) ?_
  refine lv_bipush (v := nI 20) hx hb d_M_wordJ_12 (by decide) ?_
  refine lv_bipush (v := nI 31) hx hb d_M_wordJ_14 (by decide) ?_
  refine callE (W.runS (As := [.int a0, .int (nI 20), .int (nI 31)]) (rest := [.int ((nI 111) + (f_M_bit a0 (nI 11) (nI 20)))]) ⟨hx, hb, hml, hown, hts⟩ (c_M_bit l a0 (nI 20) (nI 31)) (cwS 3 hts (gS k_376 k_377 k_2 k_378) rfl rfl rfl (by decide +kernel) ⟨Nat.le_of_ble_eq_true rfl, Nat.le_of_ble_eq_true rfl⟩) pre0 rfl rfl hl.1 rfl (lv_room (Nat.le_of_ble_eq_true rfl)) d_M_wordJ_16 ⟨Nat.zero_le _, Nat.zero_le _⟩) ?_
  refine lv_iadd hx hb d_M_wordJ_19 ?_
  refine lv_istore_n (lv' := [(1, .int (((nI 111) + (f_M_bit a0 (nI 11) (nI 20))) + (f_M_bit a0 (nI 20) (nI 31)))), (0, .int a0)]) hx hb d_M_wordJ_20 rfl hl (by decide) rfl (fun ls hl => ?_)
  refine lv_iconst (v := nI 1) hx hb d_M_wordJ_21 (by decide) ?_
  refine lv_istore_n (lv' := [(2, .int (nI 1)), (1, .int (((nI 111) + (f_M_bit a0 (nI 11) (nI 20))) + (f_M_bit a0 (nI 20) (nI 31)))), (0, .int a0)]) hx hb d_M_wordJ_22 rfl hl (by decide) rfl (fun ls hl => ?_)
  exact key 20 0 _ _ ls (Nat.zero_le _) (by omega) rfl rfl (lv_sub hl [2, 1, 0] rfl)
