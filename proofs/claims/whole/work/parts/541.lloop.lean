set_option maxHeartbeats 40000000 in
set_option maxRecDepth 100000 in
theorem law_loop {p : Program} {l : Launch} {e : Env} {s : State} {m : MethodId} {below : List Frame} {meth : Method} {c : Code} {b L : Nat} {xs : Nat → Int32} {t : Nat → Nat} {dC : Nat → ClassId} {dI : Nat → Nat → Nat} {cA : ClassId} {q0 q1 q2 : Nat} (hst : l.stackTraces = false) (F : l_F p s m c b L xs t dC dI cA) (hr : meth.sig.returnType = ret) (hlocks : meth.locks = false) :
    ∀ (n j : Nat), 2 * j ≤ L → L + 1 ≤ 2 * j + n → ∀ (w wh lw ll wc th hh : Int32) (f : Nat → Int64) (H : Heap) (locs : List Loc) (ls : Array Slot), l_at dC dI cA q0 q1 q2 s w wh lw ll wc th hh f H locs → lv_has ls 7 (l_lv b q0 q1 q2 j) → W p l e room_1 s m #[Value.ref b] below meth c H locs (3 + j) (13 + 6 * j) (lw_Z below #[Value.ref b] s) (F0 m 23 ls []) := by
  obtain ⟨hx, hb, hml, hown, hts, hX, hbl, hK, hT, hXX, hL⟩ := id F
  have hbA : ¬ l_A s b := Nat.not_le.mpr hbl
  intro n
  induction n with
  | zero =>
    intro j h1 h2
    exact absurd h2 (by omega)
  | succ n ih =>
    intro j hj1 hj2 w wh lw ll wc th hh f H locs ls C hl
    have hS : va_S (l_A s) s.heap H locs := C.2.2.1
    refine lv_iload hx hb d_L_law_23 (lv_at hl 4 rfl) ?_
    refine lv_aload_n hx hb d_L_law_25 rfl (lv_at hl 0 rfl) ?_
    refine va_slen hx hb hX hbl hbA hS d_L_law_26 ?_
    refine lv_iconst (v := nI 2) hx hb d_L_law_27 (by decide) ?_
    refine lv_isub hx hb d_L_law_28 ?_
    have hd : (Int32.ofNat L - nI 2).toInt = (L : Int) - 2 := pk_sub_toInt (a := L) (b := 2) (by omega) (by omega)
    refine lv_icmp_gt (tgt := 311) hx hb d_L_law_29 (by decide) (fun c1 => ?_) (fun c1 => ?_)
    · refine lv_iconst (v := 1) hx hb d_L_law_311 (by decide) ?_
      refine va_forget (fun q hq => hS.2.2 q hq) ?_
      refine W.widen (k := 1029) (n := 8217) (by omega) (by omega) ?_
      exact lw_ret hx hb hr hlocks d_L_law_312
    · have hj : 2 * j + 2 ≤ L := by
        rw [Int32.lt_iff_toInt_lt, hd, nI_toInt (show 2 * j < 2 ^ 31 by omega)] at c1
        omega
      have K : l_K p l e s m below meth c (lw_Z below #[Value.ref b] s) b dC dI cA q0 q1 q2 j := by
        intro w wh lw ll wc th hh f H locs ls C hl
        refine lv_iinc (v := nI (2 * (j + 1))) (lv' := [(4, .int (nI (2 * (j + 1)))), (0, .ref b), (1, .ref q0), (2, .ref q1), (3, .ref q2)]) hx hb d_L_law_305 hl (k := 4) rfl (by rw [show Int32.ofInt 2 = nI 2 by decide, show 2 * (j + 1) = 2 * j + 2 by omega]; exact (Int32.ofNat_add (2 * j) 2).symm) (by decide) rfl (fun ls hl => ?_)
        refine lv_goto (tgt := 23) hx hb d_L_law_308 (by decide) ?_
        exact ih (j + 1) (by omega) (by omega) w wh lw ll wc th hh f H locs ls C (lv_sub hl [1, 2, 3, 4, 0] rfl)
      refine lv_aload_n hx hb d_L_law_32 rfl (lv_at hl 0 rfl) ?_
      refine lv_iload hx hb d_L_law_33 (lv_at hl 4 rfl) ?_
      refine va_sld hx hb hX hbl hbA hS (vp_in_nI (by omega) (by omega)) d_L_law_35 ?_
      refine lv_bipush (v := nI 7) hx hb d_L_law_36 (by decide) ?_
      refine lv_iand hx hb d_L_law_38 ?_
      obtain ⟨k, hk, ek⟩ := pk_andE (xs (nI (2 * j)).toNatClampNeg) (m := nI 7) 3 (by decide)
      rw [ek]
      rcases (show k = 0 ∨ k = 1 ∨ k = 2 ∨ k = 3 ∨ k = 4 ∨ k = 5 ∨ k = 6 ∨ k = 7 by omega) with rfl | rfl | rfl | rfl | rfl | rfl | rfl | rfl
      · refine lv_tableIn (off := 45) (tgt := 84) hx hb d_L_law_39 (by decide) (by decide) (by decide +kernel) (by decide) ?_
        exact law_c0 hst F hj C hl K
      · refine lv_tableIn (off := 101) (tgt := 140) hx hb d_L_law_39 (by decide) (by decide) (by decide +kernel) (by decide) ?_
        exact law_c1 hst F hj C hl K
      · refine lv_tableIn (off := 126) (tgt := 165) hx hb d_L_law_39 (by decide) (by decide) (by decide +kernel) (by decide) ?_
        exact law_c2 hst F hj C hl K
      · refine lv_tableIn (off := 151) (tgt := 190) hx hb d_L_law_39 (by decide) (by decide) (by decide +kernel) (by decide) ?_
        exact law_c3 hst F hj C hl K
      · refine lv_tableIn (off := 214) (tgt := 253) hx hb d_L_law_39 (by decide) (by decide) (by decide +kernel) (by decide) ?_
        exact law_c4 hst F hj C hl K
      · refine lv_tableIn (off := 227) (tgt := 266) hx hb d_L_law_39 (by decide) (by decide) (by decide +kernel) (by decide) ?_
        exact law_c5 hst F hj C hl K
      · refine lv_tableIn (off := 240) (tgt := 279) hx hb d_L_law_39 (by decide) (by decide) (by decide +kernel) (by decide) ?_
        exact law_c6 hst F hj C hl K
      · refine lv_tableIn (off := 253) (tgt := 292) hx hb d_L_law_39 (by decide) (by decide) (by decide +kernel) (by decide) ?_
        exact law_c7 hst F hj C hl K
