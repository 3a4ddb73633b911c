set_option maxHeartbeats 40000000 in
set_option maxRecDepth 100000 in
theorem c_M_triedAll (l : Launch) (dC : Nat → ClassId) (dI : Nat → Nat → Nat) (h1 sz : Nat) (th hh wt fi wo le wn : Int32) (a1 a2 : Int32) : Met l y_M_triedAll w_M_triedAll { frames := 6, cells := 0, slots := 0, locals := 130 } (va_Pc [.ref h1, .int a1, .int a2] (o_B dC dI sz [(h1, .inr (1, [.int th, .int hh, .int wt, .int fi, .int wo, .int le, .int wn]))])) (va_Ql (fun r (_ : Int32) => r = f_tr a1 a2) (fun u t => at_M dC dI (va_A [(h1, .inr (1, [.int th, .int hh, .int wt, .int fi, .int wo, .int le, .int wn]))] sz) h1 (th, u, wt, fi, wo, le, wn) t) (va_A [(h1, .inr (1, [.int th, .int hh, .int wt, .int fi, .int wo, .int le, .int wn]))] sz)) 0 0 (va_A [(h1, .inr (1, [.int th, .int hh, .int wt, .int fi, .int wo, .int le, .int wn]))] sz) := by
  refine Met.ofW (cc := b_M_triedAll) (maxL := 8) (ret := (some .long)) (by decide) rfl ?_
  intro p e s m args below meth c s₁ B hml hv
  obtain ⟨rfl, hsz, hP, hK, hD0⟩ := hv
  have hx := B.exec
  have hb := B.bytes
  have hr := B.returns
  have hts := atoms_spec (ws := w_M_triedAll) B.pre
  have hown : s.vm.findClass R_M = some m.cls := findClass_of_methodNamed B.named
  have hlocks := B.notSynchronized
  have hl := lv_entry ([.ref h1, .int a1, .int a2]) (n := 8) (Nat.le_of_ble_eq_true rfl)
  rw [lg_entry_eq]
  generalize (lg_sl ([.ref h1, .int a1, .int a2]) ++ List.replicate (8 - (lg_sl ([.ref h1, .int a1, .int a2])).length) Slot.unset).toArray = ls at hl ⊢
  have hl : lv_has ls 8 [(0, .ref h1), (1, .int a1), (2, .int a2)] := hl
  subst hsz
  have hD := hD0.self (sz := s.heap.size)
  generalize hAe : va_A [(h1, .inr (1, [.int th, .int hh, .int wt, .int fi, .int wo, .int le, .int wn]))] s.heap.size = A at hD ⊢
  have hA : ∀ q : Nat, s.heap.size ≤ q → A q := fun q h => by rw [← hAe]; exact Or.inr h
  have hS : va_S A s.heap s.heap [] := va_S.rf
  have hP : va_P (dC, dI) classes [(h1, .inr (1, [.int th, .int hh, .int wt, .int fi, .int wo, .int le, .int wn]))] s.heap := hP
  have key : ∀ (q n : Nat) (xL : Int64) (xc xk u : Int32) (H : Heap) (locs : List Loc) (ls : Array Slot), n ≤ 2048 → 2048 < n + q → xL = (f_ta a1 a2 n).1 → xc = (f_ta a1 a2 n).2 → xk = nI (4294969343 - n) → va_P (dC, dI) classes [(h1, .inr (1, [.int th, .int u, .int wt, .int fi, .int wo, .int le, .int wn]))] H → va_D A [(h1, .inr (1, [.int th, .int u, .int wt, .int fi, .int wo, .int le, .int wn]))] → va_S A s.heap H locs → lv_has ls 8 [(0, .ref h1), (1, .int a1), (2, .int a2), (3, .long xL), (5, .int xc), (6, .int xk)] → W p l e (headSpec w_M_triedAll { frames := 6, cells := 0, slots := 0, locals := 130 }).room s m ([.ref h1, .int a1, .int a2] : List Value).toArray below meth c H locs 0 0 (MQ below (va_Ql (fun r (_ : Int32) => r = f_tr a1 a2) (fun u t => at_M dC dI (A) h1 (th, u, wt, fi, wo, le, wn) t) (A)) ([.ref h1, .int a1, .int a2] : List Value).toArray s 0 0 A) (F0 m 10 ls []) := by
    intro q
    induction q with
    | zero => intro n xL xc xk u H locs ls g1 g2; omega
    | succ q ih =>
      intro n xL xc xk u H locs ls hn hq eL ec ek hP hD hS hl
      rw [eL, ec, ek] at hl
      refine lv_iload hx hb d_M_triedAll_10 (lv_at hl 5 rfl) ?_
      refine lv_if_lt (tgt := 68) hx hb d_M_triedAll_12 (by decide) (fun c1 => ?_) (fun c1 => ?_)
      · have en : n = 2048 := by
          rcases Nat.lt_or_ge n 2048 with q9 | q9
          · rw [show nI (4294969343 - n) = nI (2047 - n) from (nI_iff _ _).mpr (by omega)] at c1
            exact absurd c1 (nI_pos (by omega))
          · omega
        refine lv_iload hx hb d_M_triedAll_68 (lv_at hl 4 rfl) ?_
        refine lv_i2l (v := ((f_ta a1 a2 n).2).toInt64) hx hb d_M_triedAll_70 rfl ?_
        refine lv_ldc2 (v := lN 4096) hx hb hown (hts _ (List.mem_cons_of_mem _ k_415)) d_M_triedAll_71 ?_
        refine lv_lload_n hx hb d_M_triedAll_74 rfl (lv_at hl 3 rfl) ?_
        refine lv_lmul hx hb d_M_triedAll_75 ?_
        refine lv_ladd hx hb d_M_triedAll_76 ?_
        exact W.lret hx hb hr (fun t ht hW => ⟨⟨_, u, rfl, by rw [en]; rfl, by rw [ht]; exact hP, va_K.moved hW.alike hK, hD⟩, hS.F ht⟩) hS.2.2 d_M_triedAll_77
      · have hn9 : n < 2048 := by
          rcases Nat.lt_or_ge n 2048 with q9 | q9
          · exact q9
          · have en : n = 2048 := by omega
            rw [en] at c1
            exact absurd (by decide) c1
        refine lv_iload_n hx hb d_M_triedAll_15 rfl (lv_at hl 1 rfl) ?_
        refine lv_bipush (v := nI 7) hx hb d_M_triedAll_16 (by decide) ?_
        refine lv_iand hx hb d_M_triedAll_18 ?_
        refine lv_bipush (v := nI 13) hx hb d_M_triedAll_19 (by decide) ?_
        refine lv_ishl hx hb d_M_triedAll_21 ?_
        refine lv_iload hx hb d_M_triedAll_22 (lv_at hl 5 rfl) ?_
        refine lv_iconst (v := nI 2) hx hb d_M_triedAll_24 (by decide) ?_
        refine lv_ishl hx hb d_M_triedAll_25 ?_
        refine lv_ior hx hb d_M_triedAll_26 ?_
        refine lv_iload_n hx hb d_M_triedAll_27 rfl (lv_at hl 1 rfl) ?_
        refine lv_iconst (v := nI 3) hx hb d_M_triedAll_28 (by decide) ?_
        refine lv_ishr hx hb d_M_triedAll_29 ?_
        refine lv_ior hx hb d_M_triedAll_30 ?_
        refine lv_istore (lv' := [(7, .int ((((a1 &&& (nI 7)) <<< ((nI 13) &&& 31)) ||| ((nI (4294969343 - n)) <<< ((nI 2) &&& 31))) ||| (a1 >>> ((nI 3) &&& 31)))), (0, .ref h1), (1, .int a1), (2, .int a2), (3, .long (f_ta a1 a2 n).1), (5, .int (f_ta a1 a2 n).2), (6, .int (nI (4294969343 - n)))]) hx hb d_M_triedAll_31 hl (by decide) rfl (fun ls hl => ?_)
        refine lv_iload_n hx hb d_M_triedAll_33 rfl (lv_at hl 2 rfl) ?_
        refine lv_iload hx hb d_M_triedAll_34 (lv_at hl 6 rfl) ?_
        refine lv_iload_n hx hb d_M_triedAll_36 rfl (lv_at hl 3 rfl) ?_
        refine callE (W.runS (As := [.int a1, .int (nI (4294969343 - n)), .int a2]) (rest := []) ⟨hx, hb, hml, hown, hts⟩ (c_M_couldBe l a1 (nI (4294969343 - n)) a2) (cwS 3 hts (gS k_412 k_413 k_2 k_414) rfl rfl rfl (by decide +kernel) ⟨Nat.le_of_ble_eq_true rfl, Nat.le_of_ble_eq_true rfl⟩) pre0 rfl rfl hl.1 rfl (lv_room (Nat.le_of_ble_eq_true rfl)) d_M_triedAll_37 ⟨Nat.zero_le _, Nat.zero_le _⟩) ?_
        refine lv_if_eq (tgt := 62) hx hb d_M_triedAll_40 (by decide) (fun c2 => ?_) (fun c2 => ?_)
        · refine lv_iinc (v := ((nI (4294969343 - n)) + nI 4294967295)) (lv' := [(6, .int ((nI (4294969343 - n)) + nI 4294967295)), (7, .int ((((a1 &&& (nI 7)) <<< ((nI 13) &&& 31)) ||| ((nI (4294969343 - n)) <<< ((nI 2) &&& 31))) ||| (a1 >>> ((nI 3) &&& 31)))), (0, .ref h1), (1, .int a1), (2, .int a2), (3, .long (f_ta a1 a2 n).1), (5, .int (f_ta a1 a2 n).2)]) hx hb d_M_triedAll_62 hl (k := 6) rfl (by rw [show Int32.ofInt (-1) = nI 4294967295 from by decide]) (by decide) rfl (fun ls hl => ?_)
          refine lv_goto (tgt := 10) hx hb d_M_triedAll_65 (by decide) ?_
          exact ih (n + 1) _ _ _ u H locs ls (by omega) (by omega) (by rw [f_ta_s, if_pos c2]) (by rw [f_ta_s, if_pos c2]) (by rw [nI_add, nI_iff]; omega) hP hD hS (lv_sub hl [2, 3, 4, 5, 6, 0] rfl)
        · refine lv_aload_n hx hb d_M_triedAll_43 rfl (lv_at hl 1 rfl) ?_
          refine lv_iload hx hb d_M_triedAll_44 (lv_at hl 0 rfl) ?_
          have hFc := va_free (wc := [(h1, .inr (1, [.int th, .int u, .int wt, .int fi, .int wo, .int le, .int wn]))]) hD hS hA [0] rfl
          refine callQ (va_runV (b := h1) (As := [.int ((((a1 &&& (nI 7)) <<< ((nI 13) &&& 31)) ||| ((nI (4294969343 - n)) <<< ((nI 2) &&& 31))) ||| (a1 >>> ((nI 3) &&& 31)))]) (rest := []) ⟨hx, hb, hml, hown, hts⟩ (c_M_wordOf l dC dI h1 H.size th u wt fi wo le wn ((((a1 &&& (nI 7)) <<< ((nI 13) &&& 31)) ||| ((nI (4294969343 - n)) <<< ((nI 2) &&& 31))) ||| (a1 >>> ((nI 3) &&& 31)))) (cwV 1 hts (gV awx k_321 k_323 ks_2 k_2 k_324) rfl rfl rfl (by decide +kernel) ⟨Nat.le_of_ble_eq_true rfl, Nat.le_of_ble_eq_true rfl⟩) ⟨o_blind, va_recv hK hP (ci := 1) (q0 := 0) rfl rfl, fun U hU hW => ⟨rfl, by rw [hU], by rw [hU]; exact hP, va_K.moved hW.alike hK, hD.weaken (fun _ _ _ _ => trivial)⟩⟩ rfl rfl hl.1 rfl (lv_room (Nat.le_of_ble_eq_true rfl)) d_M_triedAll_46 ⟨Nat.zero_le _, Nat.zero_le _⟩) hS (fun q _ h => hFc q h) hFc (fun t9 H1 locs ht hvm hB hz1 hk1 hS => ?_)
          obtain ⟨hP1, hK1, hD1⟩ := hB
          rw [ht] at hP1
          have hK1 := va_K.moved hvm.symm hK1
          obtain ⟨hP, hD⟩ := va_join (wr := []) (w1 := [(h1, .inr (1, [.int th, .int ((((a1 &&& (nI 7)) <<< ((nI 13) &&& 31)) ||| ((nI (4294969343 - n)) <<< ((nI 2) &&& 31))) ||| (a1 >>> ((nI 3) &&& 31))), .int wt, .int fi, .int wo, .int le, .int wn]))]) hP hD [0] [] rfl rfl (by decide) (by decide) hk1 hFc hP1 hD1
          generalize H1 = H at hP hS ⊢
          have hP : va_P (dC, dI) classes [(h1, .inr (1, [.int th, .int ((((a1 &&& (nI 7)) <<< ((nI 13) &&& 31)) ||| ((nI (4294969343 - n)) <<< ((nI 2) &&& 31))) ||| (a1 >>> ((nI 3) &&& 31))), .int wt, .int fi, .int wo, .int le, .int wn]))] H := hP
          have hD : va_D A [(h1, .inr (1, [.int th, .int ((((a1 &&& (nI 7)) <<< ((nI 13) &&& 31)) ||| ((nI (4294969343 - n)) <<< ((nI 2) &&& 31))) ||| (a1 >>> ((nI 3) &&& 31))), .int wt, .int fi, .int wo, .int le, .int wn]))] := hD
          refine lv_iload_n hx hb d_M_triedAll_49 rfl (lv_at hl 3 rfl) ?_
          refine lv_icmp_ne (tgt := 62) hx hb d_M_triedAll_50 (by decide) (fun c4 => ?_) (fun c4 => ?_)
          · refine lv_iinc (v := ((nI (4294969343 - n)) + nI 4294967295)) (lv' := [(6, .int ((nI (4294969343 - n)) + nI 4294967295)), (7, .int ((((a1 &&& (nI 7)) <<< ((nI 13) &&& 31)) ||| ((nI (4294969343 - n)) <<< ((nI 2) &&& 31))) ||| (a1 >>> ((nI 3) &&& 31)))), (0, .ref h1), (1, .int a1), (2, .int a2), (3, .long (f_ta a1 a2 n).1), (5, .int (f_ta a1 a2 n).2)]) hx hb d_M_triedAll_62 hl (k := 6) rfl (by rw [show Int32.ofInt (-1) = nI 4294967295 from by decide]) (by decide) rfl (fun ls hl => ?_)
            refine lv_goto (tgt := 10) hx hb d_M_triedAll_65 (by decide) ?_
            exact ih (n + 1) _ _ _ ((((a1 &&& (nI 7)) <<< ((nI 13) &&& 31)) ||| ((nI (4294969343 - n)) <<< ((nI 2) &&& 31))) ||| (a1 >>> ((nI 3) &&& 31))) H locs ls (by omega) (by omega) (by rw [f_ta_s, if_neg c2, if_neg c4]) (by rw [f_ta_s, if_neg c2, if_neg c4]) (by rw [nI_add, nI_iff]; omega) hP hD hS (lv_sub hl [2, 3, 4, 5, 6, 0] rfl)
          · refine lv_iinc (v := ((f_ta a1 a2 n).2 + nI 1)) (lv' := [(5, .int ((f_ta a1 a2 n).2 + nI 1)), (7, .int ((((a1 &&& (nI 7)) <<< ((nI 13) &&& 31)) ||| ((nI (4294969343 - n)) <<< ((nI 2) &&& 31))) ||| (a1 >>> ((nI 3) &&& 31)))), (0, .ref h1), (1, .int a1), (2, .int a2), (3, .long (f_ta a1 a2 n).1), (6, .int (nI (4294969343 - n)))]) hx hb d_M_triedAll_53 hl (k := 5) rfl (by rw [show Int32.ofInt 1 = nI 1 from by decide]) (by decide) rfl (fun ls hl => ?_)
            refine lv_iload hx hb d_M_triedAll_56 (lv_at hl 1 rfl) ?_
            refine lv_i2l (v := (((((a1 &&& (nI 7)) <<< ((nI 13) &&& 31)) ||| ((nI (4294969343 - n)) <<< ((nI 2) &&& 31))) ||| (a1 >>> ((nI 3) &&& 31)))).toInt64) hx hb d_M_triedAll_58 rfl ?_
            refine lv_lconst (v := lN 1) hx hb d_M_triedAll_59 rfl ?_
            refine lv_ladd hx hb d_M_triedAll_60 ?_
            refine lv_lstore_n (lv' := [(3, .long ((((((a1 &&& (nI 7)) <<< ((nI 13) &&& 31)) ||| ((nI (4294969343 - n)) <<< ((nI 2) &&& 31))) ||| (a1 >>> ((nI 3) &&& 31)))).toInt64 + (lN 1))), (5, .int ((f_ta a1 a2 n).2 + nI 1)), (7, .int ((((a1 &&& (nI 7)) <<< ((nI 13) &&& 31)) ||| ((nI (4294969343 - n)) <<< ((nI 2) &&& 31))) ||| (a1 >>> ((nI 3) &&& 31)))), (0, .ref h1), (1, .int a1), (2, .int a2), (6, .int (nI (4294969343 - n)))]) hx hb d_M_triedAll_61 rfl hl (by decide) rfl (fun ls hl => ?_)
            refine lv_iinc (v := ((nI (4294969343 - n)) + nI 4294967295)) (lv' := [(6, .int ((nI (4294969343 - n)) + nI 4294967295)), (3, .long ((((((a1 &&& (nI 7)) <<< ((nI 13) &&& 31)) ||| ((nI (4294969343 - n)) <<< ((nI 2) &&& 31))) ||| (a1 >>> ((nI 3) &&& 31)))).toInt64 + (lN 1))), (5, .int ((f_ta a1 a2 n).2 + nI 1)), (7, .int ((((a1 &&& (nI 7)) <<< ((nI 13) &&& 31)) ||| ((nI (4294969343 - n)) <<< ((nI 2) &&& 31))) ||| (a1 >>> ((nI 3) &&& 31)))), (0, .ref h1), (1, .int a1), (2, .int a2)]) hx hb d_M_triedAll_62 hl (k := 6) rfl (by rw [show Int32.ofInt (-1) = nI 4294967295 from by decide]) (by decide) rfl (fun ls hl => ?_)
            refine lv_goto (tgt := 10) hx hb d_M_triedAll_65 (by decide) ?_
            exact ih (n + 1) _ _ _ ((((a1 &&& (nI 7)) <<< ((nI 13) &&& 31)) ||| ((nI (4294969343 - n)) <<< ((nI 2) &&& 31))) ||| (a1 >>> ((nI 3) &&& 31))) H locs ls (by omega) (by omega) (by rw [f_ta_s, if_neg c2, if_pos c4]) (by rw [f_ta_s, if_neg c2, if_pos c4]) (by rw [nI_add, nI_iff]; omega) hP hD hS (lv_sub hl [4, 5, 6, 1, 2, 0] rfl)
  refine lv_lconst (v := lN 0) hx hb d_M_triedAll_0 rfl ?_
  refine lv_lstore_n (lv' := [(3, .long (lN 0)), (0, .ref h1), (1, .int a1), (2, .int a2)]) hx hb d_M_triedAll_1 rfl hl (by decide) rfl (fun ls hl => ?_)
  refine lv_iconst (v := nI 0) hx hb d_M_triedAll_2 (by decide) ?_
  refine lv_istore (lv' := [(5, .int (nI 0)), (3, .long (lN 0)), (0, .ref h1), (1, .int a1), (2, .int a2)]) hx hb d_M_triedAll_3 hl (by decide) rfl (fun ls hl => ?_)
  refine lv_sipush (v := nI 2047) hx hb d_M_triedAll_5 (by decide) ?_
  refine lv_istore (lv' := [(6, .int (nI 2047)), (5, .int (nI 0)), (3, .long (lN 0)), (0, .ref h1), (1, .int a1), (2, .int a2)]) hx hb d_M_triedAll_8 hl (by decide) rfl (fun ls hl => ?_)
  exact key 2049 0 _ _ _ hh s.heap [] ls (Nat.zero_le _) (by omega) rfl rfl rfl hP hD hS (lv_sub hl [3, 4, 5, 2, 1, 0] rfl)
