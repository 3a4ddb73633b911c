set_option maxHeartbeats 40000000 in
set_option maxRecDepth 100000 in
theorem c_M_search (l : Launch) (dC : Nat → ClassId) (dI : Nat → Nat → Nat) (h1 sz : Nat) (th hh wt fi wo le wn : Int32) (a1 a2 : Int32) (h0 : ¬ a1 = 0) : Met l y_M_search w_M_search { frames := 7, cells := 0, slots := 0, locals := 157 } (va_Pc [.ref h1, .int a1, .int a2] (o_B dC dI sz [(h1, .inr (1, [.int th, .int hh, .int wt, .int fi, .int wo, .int le, .int wn]))])) (va_Qi (fun r (_ : Int32) => r = f_sr a1 24 a2) (fun u t => at_M dC dI (va_A [(h1, .inr (1, [.int th, .int hh, .int wt, .int fi, .int wo, .int le, .int wn]))] sz) h1 (th, u, wt, fi, wo, le, wn) t) (va_A [(h1, .inr (1, [.int th, .int hh, .int wt, .int fi, .int wo, .int le, .int wn]))] sz)) 0 0 (va_A [(h1, .inr (1, [.int th, .int hh, .int wt, .int fi, .int wo, .int le, .int wn]))] sz) := by
  refine Met.ofW (cc := b_M_search) (maxL := 9) (ret := (some .int)) (by decide) rfl ?_
  intro p e s m args below meth c s₁ B hml hv
  obtain ⟨rfl, hsz, hP, hK, hD0⟩ := hv
  have hx := B.exec
  have hb := B.bytes
  have hr := B.returns
  have hts := atoms_spec (ws := w_M_search) B.pre
  have hown : s.vm.findClass R_M = some m.cls := findClass_of_methodNamed B.named
  have hlocks := B.notSynchronized
  have hl := lv_entry ([.ref h1, .int a1, .int a2]) (n := 9) (Nat.le_of_ble_eq_true rfl)
  rw [lg_entry_eq]
  generalize (lg_sl ([.ref h1, .int a1, .int a2]) ++ List.replicate (9 - (lg_sl ([.ref h1, .int a1, .int a2])).length) Slot.unset).toArray = ls at hl ⊢
  have hl : lv_has ls 9 [(0, .ref h1), (1, .int a1), (2, .int a2)] := hl
  subst hsz
  have hD := hD0.self (sz := s.heap.size)
  generalize hAe : va_A [(h1, .inr (1, [.int th, .int hh, .int wt, .int fi, .int wo, .int le, .int wn]))] s.heap.size = A at hD ⊢
  have hA : ∀ q : Nat, s.heap.size ≤ q → A q := fun q h => by rw [← hAe]; exact Or.inr h
  have hS : va_S A s.heap s.heap [] := va_S.rf
  have hP : va_P (dC, dI) classes [(h1, .inr (1, [.int th, .int hh, .int wt, .int fi, .int wo, .int le, .int wn]))] s.heap := hP
  have key : ∀ (q k : Nat) (xm xl xk u : Int32) (H : Heap) (locs : List Loc) (ls : Array Slot), k ≤ 24 → 24 < k + q → xm = (f_se a1 k).1 → xl = (f_se a1 k).2 → xk = nI k → va_P (dC, dI) classes [(h1, .inr (1, [.int th, .int u, .int wt, .int fi, .int wo, .int le, .int wn]))] H → va_D A [(h1, .inr (1, [.int th, .int u, .int wt, .int fi, .int wo, .int le, .int wn]))] → va_S A s.heap H locs → lv_has ls 9 [(0, .ref h1), (1, .int a1), (2, .int a2), (3, .int xm), (4, .int xl), (5, .int xk)] → W p l e (headSpec w_M_search { frames := 7, cells := 0, slots := 0, locals := 157 }).room s m ([.ref h1, .int a1, .int a2] : List Value).toArray below meth c H locs 0 0 (MQ below (va_Qi (fun r (_ : Int32) => r = f_sr a1 24 a2) (fun u t => at_M dC dI (A) h1 (th, u, wt, fi, wo, le, wn) t) (A)) ([.ref h1, .int a1, .int a2] : List Value).toArray s 0 0 A) (F0 m 8 ls []) := by
    intro q
    induction q with
    | zero => intro k xm xl xk u H locs ls g1 g2; omega
    | succ q ih =>
      intro k xm xl xk u H locs ls hk hq em el ek8 hP hD hS hl
      rw [em, el, ek8] at hl
      refine lv_iload hx hb d_M_search_8 (lv_at hl 5 rfl) ?_
      refine lv_bipush (v := nI 24) hx hb d_M_search_10 (by decide) ?_
      refine lv_icmp_ge (tgt := 97) hx hb d_M_search_12 (by decide) (fun c1 => ?_) (fun c1 => ?_)
      · rw [nI_leI (by omega) (by omega)] at c1
        have ek : k = 24 := by omega
        refine lv_iload_n hx hb d_M_search_97 rfl (lv_at hl 2 rfl) ?_
        refine lv_if_eq (tgt := 105) hx hb d_M_search_98 (by decide) (fun c2 => ?_) (fun c2 => ?_)
        · refine lv_iload hx hb d_M_search_105 (lv_at hl 4 rfl) ?_
          exact W.iret hx hb hr (fun t ht hW => ⟨⟨_, u, rfl, by rw [f_sr, if_pos c2, ek], by rw [ht]; exact hP, va_K.moved hW.alike hK, hD⟩, hS.F ht⟩) hS.2.2 d_M_search_107
        · refine lv_iload_n hx hb d_M_search_101 rfl (lv_at hl 3 rfl) ?_
          refine lv_goto (tgt := 107) hx hb d_M_search_102 (by decide) ?_
          exact W.iret hx hb hr (fun t ht hW => ⟨⟨_, u, rfl, by rw [f_sr, if_neg c2, ek], by rw [ht]; exact hP, va_K.moved hW.alike hK, hD⟩, hS.F ht⟩) hS.2.2 d_M_search_107
      · rw [nI_leI (by omega) (by omega)] at c1
        have hk9 : k < 24 := by omega
        refine lv_iload_n hx hb d_M_search_15 rfl (lv_at hl 1 rfl) ?_
        refine lv_if_eq (tgt := 97) hx hb d_M_search_16 (by decide) (fun c3 => ?_) (fun c3 => ?_)
        · exact absurd c3 h0
        · refine lv_iload_n hx hb d_M_search_19 rfl (lv_at hl 1 rfl) ?_
          refine lv_bipush (v := nI 127) hx hb d_M_search_20 (by decide) ?_
          refine lv_iand hx hb d_M_search_22 ?_
          refine callE (W.runS (As := [.int (a1 &&& (nI 127))]) (rest := []) ⟨hx, hb, hml, hown, hts⟩ (c_M_groups l (a1 &&& (nI 127))) (cwS 1 hts (gS k_398 k_399 k_2 k_400) rfl rfl rfl (by decide +kernel) ⟨Nat.le_of_ble_eq_true rfl, Nat.le_of_ble_eq_true rfl⟩) pre0 rfl rfl hl.1 rfl (lv_room (Nat.le_of_ble_eq_true rfl)) d_M_search_23 ⟨Nat.zero_le _, Nat.zero_le _⟩) ?_
          refine lv_iload hx hb d_M_search_26 (lv_at hl 5 rfl) ?_
          refine lv_ishr hx hb d_M_search_28 ?_
          refine lv_iconst (v := nI 1) hx hb d_M_search_29 (by decide) ?_
          refine lv_iand hx hb d_M_search_30 ?_
          refine lv_iconst (v := nI 1) hx hb d_M_search_31 (by decide) ?_
          refine lv_icmp_ne (tgt := 91) hx hb d_M_search_32 (by decide) (fun c4 => ?_) (fun c4 => ?_)
          · refine lv_iinc (v := ((nI k) + nI 1)) (lv' := [(5, .int ((nI k) + nI 1)), (0, .ref h1), (1, .int a1), (2, .int a2), (3, .int (f_se a1 k).1), (4, .int (f_se a1 k).2)]) hx hb d_M_search_91 hl (k := 5) rfl (by rw [show Int32.ofInt 1 = nI 1 from by decide]) (by decide) rfl (fun ls hl => ?_)
            refine lv_goto (tgt := 8) hx hb d_M_search_94 (by decide) ?_
            exact ih (k + 1) _ _ _ u H locs ls (by omega) (by omega) (by rw [f_se_s, if_neg c4]) (by rw [f_se_s, if_neg c4]) (nI_add _ _) hP hD hS (lv_sub hl [1, 2, 3, 4, 5, 0] rfl)
          · refine lv_aload_n hx hb d_M_search_35 rfl (lv_at hl 0 rfl) ?_
            refine lv_iload hx hb d_M_search_36 (lv_at hl 5 rfl) ?_
            refine lv_iload_n hx hb d_M_search_38 rfl (lv_at hl 1 rfl) ?_
            have hFc := va_free (wc := [(h1, .inr (1, [.int th, .int u, .int wt, .int fi, .int wo, .int le, .int wn]))]) hD hS hA [0] rfl
            refine callQl (va_runV (b := h1) (As := [.int (nI k), .int a1]) (rest := []) ⟨hx, hb, hml, hown, hts⟩ (c_M_triedAll l dC dI h1 H.size th u wt fi wo le wn (nI k) a1) (cwV 2 hts (gV awx k_408 k_410 ks_15 k_2 k_411) rfl rfl rfl (by decide +kernel) ⟨Nat.le_of_ble_eq_true rfl, Nat.le_of_ble_eq_true rfl⟩) ⟨o_blind, va_recv hK hP (ci := 1) (q0 := 0) rfl rfl, fun U hU hW => ⟨rfl, by rw [hU], by rw [hU]; exact hP, va_K.moved hW.alike hK, hD.weaken (fun _ _ _ _ => trivial)⟩⟩ rfl rfl hl.1 rfl (lv_room (Nat.le_of_ble_eq_true rfl)) d_M_search_39 ⟨Nat.zero_le _, Nat.zero_le _⟩) hS (fun q _ h => hFc q h) hFc (fun u9 t9 H1 locs ht hvm hB hz1 hk1 hS => ?_)
            obtain ⟨hP1, hK1, hD1⟩ := hB
            rw [ht] at hP1
            have hK1 := va_K.moved hvm.symm hK1
            obtain ⟨hP, hD⟩ := va_join (wr := []) (w1 := [(h1, .inr (1, [.int th, .int u9, .int wt, .int fi, .int wo, .int le, .int wn]))]) hP hD [0] [] rfl rfl (by decide) (by decide) hk1 hFc hP1 hD1
            generalize H1 = H at hP hS ⊢
            have hP : va_P (dC, dI) classes [(h1, .inr (1, [.int th, .int u9, .int wt, .int fi, .int wo, .int le, .int wn]))] H := hP
            have hD : va_D A [(h1, .inr (1, [.int th, .int u9, .int wt, .int fi, .int wo, .int le, .int wn]))] := hD
            refine lv_lstore (lv' := [(6, .long (f_tr (nI k) a1)), (0, .ref h1), (1, .int a1), (2, .int a2), (3, .int (f_se a1 k).1), (4, .int (f_se a1 k).2), (5, .int (nI k))]) hx hb d_M_search_42 hl (by decide) rfl (fun ls hl => ?_)
            refine lv_lload hx hb d_M_search_44 (lv_at hl 0 rfl) ?_
            refine lv_ldc2 (v := lN 4096) hx hb hown (hts _ (List.mem_cons_of_mem _ k_415)) d_M_search_46 ?_
            refine lv_ldiv hx hb d_M_search_49 (by decide) ?_
            refine lv_l2i (v := (((f_tr (nI k) a1) / (lN 4096))).toInt32) hx hb d_M_search_50 rfl ?_
            refine lv_iconst (v := nI 1) hx hb d_M_search_51 (by decide) ?_
            refine lv_isub hx hb d_M_search_52 ?_
            refine lv_istore (lv' := [(8, .int ((((f_tr (nI k) a1) / (lN 4096))).toInt32 - (nI 1))), (6, .long (f_tr (nI k) a1)), (0, .ref h1), (1, .int a1), (2, .int a2), (3, .int (f_se a1 k).1), (4, .int (f_se a1 k).2), (5, .int (nI k))]) hx hb d_M_search_53 hl (by decide) rfl (fun ls hl => ?_)
            refine lv_iload_n hx hb d_M_search_55 rfl (lv_at hl 5 rfl) ?_
            refine lv_lload hx hb d_M_search_56 (lv_at hl 1 rfl) ?_
            refine lv_ldc2 (v := lN 4096) hx hb hown (hts _ (List.mem_cons_of_mem _ k_415)) d_M_search_58 ?_
            refine lv_lrem hx hb d_M_search_61 (by decide) ?_
            refine lv_l2i (v := (((f_tr (nI k) a1) - (f_tr (nI k) a1) / (lN 4096) * (lN 4096))).toInt32) hx hb d_M_search_62 rfl ?_
            refine lv_iadd hx hb d_M_search_63 ?_
            refine lv_istore_n (lv' := [(3, .int ((f_se a1 k).1 + (((f_tr (nI k) a1) - (f_tr (nI k) a1) / (lN 4096) * (lN 4096))).toInt32)), (8, .int ((((f_tr (nI k) a1) / (lN 4096))).toInt32 - (nI 1))), (6, .long (f_tr (nI k) a1)), (0, .ref h1), (1, .int a1), (2, .int a2), (4, .int (f_se a1 k).2), (5, .int (nI k))]) hx hb d_M_search_64 rfl hl (by decide) rfl (fun ls hl => ?_)
            refine lv_iload hx hb d_M_search_65 (lv_at hl 1 rfl) ?_
            refine lv_if_lt (tgt := 87) hx hb d_M_search_67 (by decide) (fun c6 => ?_) (fun c6 => ?_)
            · refine lv_iload hx hb d_M_search_87 (lv_at hl 6 rfl) ?_
              refine lv_istore (lv' := [(4, .int (f_se a1 k).2), (3, .int ((f_se a1 k).1 + (((f_tr (nI k) a1) - (f_tr (nI k) a1) / (lN 4096) * (lN 4096))).toInt32)), (8, .int ((((f_tr (nI k) a1) / (lN 4096))).toInt32 - (nI 1))), (6, .long (f_tr (nI k) a1)), (0, .ref h1), (1, .int a1), (2, .int a2), (5, .int (nI k))]) hx hb d_M_search_89 hl (by decide) rfl (fun ls hl => ?_)
              refine lv_iinc (v := ((nI k) + nI 1)) (lv' := [(5, .int ((nI k) + nI 1)), (4, .int (f_se a1 k).2), (3, .int ((f_se a1 k).1 + (((f_tr (nI k) a1) - (f_tr (nI k) a1) / (lN 4096) * (lN 4096))).toInt32)), (8, .int ((((f_tr (nI k) a1) / (lN 4096))).toInt32 - (nI 1))), (6, .long (f_tr (nI k) a1)), (0, .ref h1), (1, .int a1), (2, .int a2)]) hx hb d_M_search_91 hl (k := 7) rfl (by rw [show Int32.ofInt 1 = nI 1 from by decide]) (by decide) rfl (fun ls hl => ?_)
              refine lv_goto (tgt := 8) hx hb d_M_search_94 (by decide) ?_
              exact ih (k + 1) _ _ _ u9 H locs ls (by omega) (by omega) (by rw [f_se_s, if_pos c4]) (by rw [f_se_s, if_pos c4]; show _ = ite _ _ _; rw [if_pos c6]) (nI_add _ _) hP hD hS (lv_sub hl [5, 6, 7, 2, 1, 0] rfl)
            · refine lv_iload hx hb d_M_search_70 (lv_at hl 6 rfl) ?_
              refine lv_if_lt (tgt := 82) hx hb d_M_search_72 (by decide) (fun c8 => ?_) (fun c8 => ?_)
              · refine lv_iload hx hb d_M_search_82 (lv_at hl 1 rfl) ?_
                refine lv_goto (tgt := 89) hx hb d_M_search_84 (by decide) ?_
                refine lv_istore (lv' := [(4, .int ((((f_tr (nI k) a1) / (lN 4096))).toInt32 - (nI 1))), (3, .int ((f_se a1 k).1 + (((f_tr (nI k) a1) - (f_tr (nI k) a1) / (lN 4096) * (lN 4096))).toInt32)), (8, .int ((((f_tr (nI k) a1) / (lN 4096))).toInt32 - (nI 1))), (6, .long (f_tr (nI k) a1)), (0, .ref h1), (1, .int a1), (2, .int a2), (5, .int (nI k))]) hx hb d_M_search_89 hl (by decide) rfl (fun ls hl => ?_)
                refine lv_iinc (v := ((nI k) + nI 1)) (lv' := [(5, .int ((nI k) + nI 1)), (4, .int ((((f_tr (nI k) a1) / (lN 4096))).toInt32 - (nI 1))), (3, .int ((f_se a1 k).1 + (((f_tr (nI k) a1) - (f_tr (nI k) a1) / (lN 4096) * (lN 4096))).toInt32)), (8, .int ((((f_tr (nI k) a1) / (lN 4096))).toInt32 - (nI 1))), (6, .long (f_tr (nI k) a1)), (0, .ref h1), (1, .int a1), (2, .int a2)]) hx hb d_M_search_91 hl (k := 7) rfl (by rw [show Int32.ofInt 1 = nI 1 from by decide]) (by decide) rfl (fun ls hl => ?_)
                refine lv_goto (tgt := 8) hx hb d_M_search_94 (by decide) ?_
                exact ih (k + 1) _ _ _ u9 H locs ls (by omega) (by omega) (by rw [f_se_s, if_pos c4]) (by rw [f_se_s, if_pos c4]; show _ = ite _ _ _; rw [if_neg c6, if_pos c8]) (nI_add _ _) hP hD hS (lv_sub hl [5, 6, 7, 2, 1, 0] rfl)
              · refine lv_iload hx hb d_M_search_75 (lv_at hl 1 rfl) ?_
                refine lv_iload hx hb d_M_search_77 (lv_at hl 6 rfl) ?_
                refine lv_icmp_ge (tgt := 87) hx hb d_M_search_79 (by decide) (fun c10 => ?_) (fun c10 => ?_)
                · refine lv_iload hx hb d_M_search_87 (lv_at hl 6 rfl) ?_
                  refine lv_istore (lv' := [(4, .int (f_se a1 k).2), (3, .int ((f_se a1 k).1 + (((f_tr (nI k) a1) - (f_tr (nI k) a1) / (lN 4096) * (lN 4096))).toInt32)), (8, .int ((((f_tr (nI k) a1) / (lN 4096))).toInt32 - (nI 1))), (6, .long (f_tr (nI k) a1)), (0, .ref h1), (1, .int a1), (2, .int a2), (5, .int (nI k))]) hx hb d_M_search_89 hl (by decide) rfl (fun ls hl => ?_)
                  refine lv_iinc (v := ((nI k) + nI 1)) (lv' := [(5, .int ((nI k) + nI 1)), (4, .int (f_se a1 k).2), (3, .int ((f_se a1 k).1 + (((f_tr (nI k) a1) - (f_tr (nI k) a1) / (lN 4096) * (lN 4096))).toInt32)), (8, .int ((((f_tr (nI k) a1) / (lN 4096))).toInt32 - (nI 1))), (6, .long (f_tr (nI k) a1)), (0, .ref h1), (1, .int a1), (2, .int a2)]) hx hb d_M_search_91 hl (k := 7) rfl (by rw [show Int32.ofInt 1 = nI 1 from by decide]) (by decide) rfl (fun ls hl => ?_)
                  refine lv_goto (tgt := 8) hx hb d_M_search_94 (by decide) ?_
                  exact ih (k + 1) _ _ _ u9 H locs ls (by omega) (by omega) (by rw [f_se_s, if_pos c4]) (by rw [f_se_s, if_pos c4]; show _ = ite _ _ _; rw [if_neg c6, if_neg c8, if_pos c10]) (nI_add _ _) hP hD hS (lv_sub hl [5, 6, 7, 2, 1, 0] rfl)
                · refine lv_iload hx hb d_M_search_82 (lv_at hl 1 rfl) ?_
                  refine lv_goto (tgt := 89) hx hb d_M_search_84 (by decide) ?_
                  refine lv_istore (lv' := [(4, .int ((((f_tr (nI k) a1) / (lN 4096))).toInt32 - (nI 1))), (3, .int ((f_se a1 k).1 + (((f_tr (nI k) a1) - (f_tr (nI k) a1) / (lN 4096) * (lN 4096))).toInt32)), (8, .int ((((f_tr (nI k) a1) / (lN 4096))).toInt32 - (nI 1))), (6, .long (f_tr (nI k) a1)), (0, .ref h1), (1, .int a1), (2, .int a2), (5, .int (nI k))]) hx hb d_M_search_89 hl (by decide) rfl (fun ls hl => ?_)
                  refine lv_iinc (v := ((nI k) + nI 1)) (lv' := [(5, .int ((nI k) + nI 1)), (4, .int ((((f_tr (nI k) a1) / (lN 4096))).toInt32 - (nI 1))), (3, .int ((f_se a1 k).1 + (((f_tr (nI k) a1) - (f_tr (nI k) a1) / (lN 4096) * (lN 4096))).toInt32)), (8, .int ((((f_tr (nI k) a1) / (lN 4096))).toInt32 - (nI 1))), (6, .long (f_tr (nI k) a1)), (0, .ref h1), (1, .int a1), (2, .int a2)]) hx hb d_M_search_91 hl (k := 7) rfl (by rw [show Int32.ofInt 1 = nI 1 from by decide]) (by decide) rfl (fun ls hl => ?_)
                  refine lv_goto (tgt := 8) hx hb d_M_search_94 (by decide) ?_
                  exact ih (k + 1) _ _ _ u9 H locs ls (by omega) (by omega) (by rw [f_se_s, if_pos c4]) (by rw [f_se_s, if_pos c4]; show _ = ite _ _ _; rw [if_neg c6, if_neg c8, if_neg c10]) (nI_add _ _) hP hD hS (lv_sub hl [5, 6, 7, 2, 1, 0] rfl)
  refine lv_iconst (v := nI 0) hx hb d_M_search_0 (by decide) ?_
  refine lv_istore_n (lv' := [(3, .int (nI 0)), (0, .ref h1), (1, .int a1), (2, .int a2)]) hx hb d_M_search_1 rfl hl (by decide) rfl (fun ls hl => ?_)
  refine lv_iconst (v := nI 4294967295) hx hb d_M_search_2 (by decide) ?_
  refine lv_istore (lv' := [(4, .int (nI 4294967295)), (3, .int (nI 0)), (0, .ref h1), (1, .int a1), (2, .int a2)]) hx hb d_M_search_3 hl (by decide) rfl (fun ls hl => ?_)
  refine lv_iconst (v := nI 0) hx hb d_M_search_5 (by decide) ?_
  refine lv_istore (lv' := [(5, .int (nI 0)), (4, .int (nI 4294967295)), (3, .int (nI 0)), (0, .ref h1), (1, .int a1), (2, .int a2)]) hx hb d_M_search_6 hl (by decide) rfl (fun ls hl => ?_)
  exact key 25 0 _ _ _ hh s.heap [] ls (Nat.zero_le _) (by omega) rfl rfl rfl hP hD hS (lv_sub hl [3, 4, 5, 2, 1, 0] rfl)
