set_option maxHeartbeats 40000000 in
set_option maxRecDepth 100000 in
theorem law_c3 {p : Program} {l : Launch} {e : Env} {s : State} {m : MethodId} {below : List Frame} {meth : Method} {c : Code} {Q : State → Prop} {b L : Nat} {xs : Nat → Int32} {t : Nat → Nat} {dC : Nat → ClassId} {dI : Nat → Nat → Nat} {cA : ClassId} {q0 q1 q2 j : Nat} {w wh lw ll wc th hh : Int32} {f : Nat → Int64} {H : Heap} {locs : List Loc} {ls : Array Slot} (hst : l.stackTraces = false) (F : l_F p s m c b L xs t dC dI cA) (hj : 2 * j + 2 ≤ L) (C : l_at dC dI cA q0 q1 q2 s w wh lw ll wc th hh f H locs) (hl : lv_has ls 7 (l_lv b q0 q1 q2 j)) (K : l_K p l e s m below meth c Q b dC dI cA q0 q1 q2 j) : W p l e room_1 s m #[Value.ref b] below meth c H locs (3 + j) (13 + 6 * j) Q (F0 m 190 ls []) := by
  obtain ⟨hx, hb, hml, hown, hts, hX, hbl, hK, hT, hXX, hL⟩ := F
  obtain ⟨hP, hD, hS, hw⟩ := C
  have hA : ∀ q : Nat, s.heap.size ≤ q → l_A s q := fun _ h => h
  have hf0 : 3 + j + 0 ≤ room_1.cells ∧ 13 + 6 * j + 0 ≤ room_1.slots := ⟨by show _ ≤ 1029; omega, by show _ ≤ 8217; omega⟩
  have hf1 : 3 + j + 1 ≤ room_1.cells ∧ 13 + 6 * j + 6 ≤ room_1.slots := ⟨by show _ ≤ 1029; omega, by show _ ≤ 8217; omega⟩
  have hf2 : 3 + j + 1 + 0 ≤ room_1.cells ∧ 13 + 6 * j + 6 + 0 ≤ room_1.slots := hf1
  obtain ⟨a, ha⟩ : ∃ x, xs (2 * j + 1) = x := ⟨_, rfl⟩
  refine lv_aload_n hx hb d_L_law_190 rfl (lv_at hl 1 rfl) ?_
  refine l_arg (i0 := 0) (i4 := 4) hx hb hX hbl hS hl rfl rfl hj hL ha d_L_law_191 d_L_law_192 d_L_law_194 d_L_law_195 d_L_law_196 ?_
  refine lv_aload_n hx hb d_L_law_197 rfl (lv_at hl 3 rfl) ?_
  by_cases hv9 : f_isHalf a = 0
  · have hPc := hP.sub (ws' := [(q0, .inr (0, [.int w, .int wh, .int lw, .int ll, .int wc])), (q2, .inl (cA, 1, .inr (.inl f)))]) [0, 2] rfl
    have hDc := hD.sub (ws' := [(q0, .inr (0, [.int w, .int wh, .int lw, .int ll, .int wc])), (q2, .inl (cA, 1, .inr (.inl f)))]) [0, 2] (by decide) rfl
    have hKc := hK.sub (tys' := []) [] rfl
    have hFc := va_free (wc := [(q0, .inr (0, [.int w, .int wh, .int lw, .int ll, .int wc])), (q2, .inl (cA, 1, .inr (.inl f)))]) hD hS hA [0, 2] rfl
    have hTc := (hT.kept hS.2.1).narrow hFc
    refine callQ (x_runSW (n := 3) (As := [.ref q0, .int a, .ref q2]) (rest := []) ⟨hx, hb, hml, hown, hts⟩ (c_L_take_bad l hst dC dI t q0 q2 H.size cA w wh lw ll wc f a hv9) (gSW k_273 k_274 k_0 k_275) rfl rfl rfl (by decide +kernel) ⟨Nat.le_of_ble_eq_true rfl, Nat.le_of_ble_eq_true rfl⟩ (l_preX hPc hK hDc hTc hXX (fun a9 h9 => hS.2.1 a9 h9 (Nat.not_le.mpr h9))) rfl rfl hl.1 rfl (lv_room (Nat.le_of_ble_eq_true rfl)) d_L_law_198 hf1) hS (fun q _ h => hFc q h) hFc (fun t9 H1 locs ht hvm hB hz1 hk1 hS => ?_)
    obtain ⟨hP1, hK1, hD1⟩ := hB
    rw [ht] at hP1
    obtain ⟨hP, hD⟩ := va_join (wr := [(q1, .inr (1, [.int th, .int hh, .int w, .int wh, .int lw, .int ll, .int wc]))]) (w1 := [(q0, .inr (0, [.int w, .int wh, .int lw, .int ll, .int wc])), (q2, .inl (cA, 1, .inr (.inl f)))]) hP hD [0, 2] [1] rfl rfl (by decide) (by decide) hk1 hFc hP1 hD1
    generalize H1 = H at hP hS ⊢
    have hP : va_P (dC, dI) classes [(q0, .inr (0, [.int w, .int wh, .int lw, .int ll, .int wc])), (q1, .inr (1, [.int th, .int hh, .int w, .int wh, .int lw, .int ll, .int wc])), (q2, .inl (cA, 1, .inr (.inl f)))] H := hP.sub [1, 0, 2] rfl
    have hD : va_D (l_A s) [(q0, .inr (0, [.int w, .int wh, .int lw, .int ll, .int wc])), (q1, .inr (1, [.int th, .int hh, .int w, .int wh, .int lw, .int ll, .int wc])), (q2, .inl (cA, 1, .inr (.inl f)))] := hD.sub [1, 0, 2] (by decide) rfl
    refine lv_istore (lv' := [(5, .int (nI 1)), (0, .ref b), (1, .ref q0), (2, .ref q1), (3, .ref q2), (4, .int (nI (2 * j)))]) hx hb d_L_law_201 hl (by decide) rfl (fun ls hl => ?_)
    refine lv_aload_n hx hb d_L_law_203 rfl (lv_at hl 3 rfl) ?_
    refine l_arg (i0 := 1) (i4 := 5) hx hb hX hbl hS hl rfl rfl hj hL ha d_L_law_204 d_L_law_205 d_L_law_207 d_L_law_208 d_L_law_209 ?_
    have hPc := hP.sub (ws' := [(q1, .inr (1, [.int th, .int hh, .int w, .int wh, .int lw, .int ll, .int wc]))]) [1] rfl
    have hDc := hD.sub (ws' := [(q1, .inr (1, [.int th, .int hh, .int w, .int wh, .int lw, .int ll, .int wc]))]) [1] (by decide) rfl
    have hKc := hK.sub (tys' := []) [] rfl
    have hFc := va_free (wc := [(q1, .inr (1, [.int th, .int hh, .int w, .int wh, .int lw, .int ll, .int wc]))]) hD hS hA [1] rfl
    refine callG (va_runV (b := q1) (As := [.int a]) (rest := []) ⟨hx, hb, hml, hown, hts⟩ (c_M_take l dC dI q1 H.size th hh w wh lw ll wc a) (cwV 1 hts (gV (fun _ h => h) k_420 k_421 k_422 k_2 k_423) rfl rfl rfl (by decide +kernel) ⟨Nat.le_of_ble_eq_true rfl, Nat.le_of_ble_eq_true rfl⟩) (o_preV (va_recv hK hP (ci := 1) (q0 := 1) rfl rfl) hPc hKc hDc) rfl rfl hl.1 rfl (lv_room (Nat.le_of_ble_eq_true rfl)) d_L_law_210 hf2) (fun r9 u9 h9 => Prod.mk.inj (h9.trans (tk_bad hv9 th hh w wh lw ll wc))) hS (fun q _ h => hFc q h) hFc (fun t9 H1 locs ht hvm hB hz1 hk1 hS => ?_)
    obtain ⟨hP1, hK1, hD1⟩ := hB
    rw [ht] at hP1
    obtain ⟨hP, hD⟩ := va_join (wr := [(q0, .inr (0, [.int w, .int wh, .int lw, .int ll, .int wc])), (q2, .inl (cA, 1, .inr (.inl f)))]) (w1 := [(q1, .inr (1, [.int (nI 1), .int hh, .int w, .int wh, .int lw, .int ll, .int wc]))]) hP hD [1] [0, 2] rfl rfl (by decide) (by decide) hk1 hFc hP1 hD1
    generalize H1 = H at hP hS ⊢
    have hP : va_P (dC, dI) classes [(q0, .inr (0, [.int w, .int wh, .int lw, .int ll, .int wc])), (q1, .inr (1, [.int (nI 1), .int hh, .int w, .int wh, .int lw, .int ll, .int wc])), (q2, .inl (cA, 1, .inr (.inl f)))] H := hP.sub [0, 2, 1] rfl
    have hD : va_D (l_A s) [(q0, .inr (0, [.int w, .int wh, .int lw, .int ll, .int wc])), (q1, .inr (1, [.int (nI 1), .int hh, .int w, .int wh, .int lw, .int ll, .int wc])), (q2, .inl (cA, 1, .inr (.inl f)))] := hD.sub [0, 2, 1] (by decide) rfl
    refine lv_istore (lv' := [(6, .int (nI 0)), (5, .int (nI 1)), (0, .ref b), (1, .ref q0), (2, .ref q1), (3, .ref q2), (4, .int (nI (2 * j)))]) hx hb d_L_law_213 hl (by decide) rfl (fun ls hl => ?_)
    refine lv_aload_n hx hb d_L_law_215 rfl (lv_at hl 4 rfl) ?_
    refine callE (W.runV (b := q1) (As := []) (rest := []) ⟨hx, hb, hml, hown, hts⟩ (c_M_thrown l dC dI q1 (nI 1) hh w wh lw ll wc) (cwV 0 hts (gV (fun _ h => h) k_312 k_313 k_314 k_2 k_315) rfl rfl rfl (by decide +kernel) ⟨Nat.le_of_ble_eq_true rfl, Nat.le_of_ble_eq_true rfl⟩) (r_preV (va_recv hK hP (ci := 1) (q0 := 1) rfl rfl) (hP.sub (ws' := [(q1, .inr (1, [.int (nI 1), .int hh, .int w, .int wh, .int lw, .int ll, .int wc]))]) [1] rfl) (hK.sub (tys' := []) [] rfl)) rfl rfl hl.1 rfl (lv_room (Nat.le_of_ble_eq_true rfl)) d_L_law_216 hf2) ?_
    refine lv_iload hx hb d_L_law_219 (lv_at hl 1 rfl) ?_
    refine lv_icmp_eq (tgt := 226) hx hb d_L_law_221 (by decide) (fun c1 => ?_) (fun c1 => absurd rfl c1)
    refine lv_iload hx hb d_L_law_226 (lv_at hl 1 rfl) ?_
    refine lv_if_ne (tgt := 250) hx hb d_L_law_228 (by decide) (fun c1 => ?_) (fun c1 => absurd c1 (by decide))
    refine lv_goto (tgt := 305) hx hb d_L_law_250 (by decide) ?_
    refine W.widen (k := 3 + (j + 1)) (n := 13 + 6 * (j + 1)) (by omega) (by omega) ?_
    exact K _ _ _ _ _ _ _ _ _ _ _ ⟨hP, hD, hS, hw⟩ (lv_sub hl [2, 3, 4, 5, 6] rfl)
  · obtain ⟨kk9, hk9, ek9⟩ := half_of hv9
    have hv8 : ¬ f_isHalf (nI kk9) = 0 := by rw [← ek9]; exact hv9
    obtain ⟨r2, u2, w2, wh2, lw2, ll2, wc2, g1, g2, g3, g4⟩ := tk_ok hk9 hv8 th hh w wh lw ll wc hw
    rw [← ek9] at g1 g2
    have hPc := hP.sub (ws' := [(q0, .inr (0, [.int w, .int wh, .int lw, .int ll, .int wc])), (q2, .inl (cA, 1, .inr (.inl f)))]) [0, 2] rfl
    have hDc := hD.sub (ws' := [(q0, .inr (0, [.int w, .int wh, .int lw, .int ll, .int wc])), (q2, .inl (cA, 1, .inr (.inl f)))]) [0, 2] (by decide) rfl
    have hKc := hK.sub (tys' := []) [] rfl
    have hFc := va_free (wc := [(q0, .inr (0, [.int w, .int wh, .int lw, .int ll, .int wc])), (q2, .inl (cA, 1, .inr (.inl f)))]) hD hS hA [0, 2] rfl
    have hTc := (hT.kept hS.2.1).narrow hFc
    refine callG (x_runSW (n := 3) (As := [.ref q0, .int a, .ref q2]) (rest := []) ⟨hx, hb, hml, hown, hts⟩ (c_L_take l dC dI t q0 q2 H.size cA w wh lw ll wc f a hv9) (gSW k_273 k_274 k_0 k_275) rfl rfl rfl (by decide +kernel) ⟨Nat.le_of_ble_eq_true rfl, Nat.le_of_ble_eq_true rfl⟩ (l_preS hPc hK hDc hTc) rfl rfl hl.1 rfl (lv_room (Nat.le_of_ble_eq_true rfl)) d_L_law_198 hf0) (fun r9 z9 h9 => ⟨h9.1, h9.2.trans g1⟩) hS (fun q _ h => hFc q h) hFc (fun t9 H1 locs ht hvm hB hz1 hk1 hS => ?_)
    obtain ⟨hP1, hK1, hD1⟩ := hB
    rw [ht] at hP1
    obtain ⟨hP, hD⟩ := va_join (wr := [(q1, .inr (1, [.int th, .int hh, .int w, .int wh, .int lw, .int ll, .int wc]))]) (w1 := [(q0, .inr (0, [.int w2, .int wh2, .int lw2, .int ll2, .int wc2])), (q2, .inl (cA, 1, .inr (.inl (vp_updL f (nI 0).toNatClampNeg (if r2 = 0 then lN 0 else lN 1)))))]) hP hD [0, 2] [1] rfl rfl (by decide) (by decide) hk1 hFc hP1 hD1
    generalize H1 = H at hP hS ⊢
    have hP : va_P (dC, dI) classes [(q0, .inr (0, [.int w2, .int wh2, .int lw2, .int ll2, .int wc2])), (q1, .inr (1, [.int th, .int hh, .int w, .int wh, .int lw, .int ll, .int wc])), (q2, .inl (cA, 1, .inr (.inl (vp_updL f (nI 0).toNatClampNeg (if r2 = 0 then lN 0 else lN 1)))))] H := hP.sub [1, 0, 2] rfl
    have hD : va_D (l_A s) [(q0, .inr (0, [.int w2, .int wh2, .int lw2, .int ll2, .int wc2])), (q1, .inr (1, [.int th, .int hh, .int w, .int wh, .int lw, .int ll, .int wc])), (q2, .inl (cA, 1, .inr (.inl (vp_updL f (nI 0).toNatClampNeg (if r2 = 0 then lN 0 else lN 1)))))] := hD.sub [1, 0, 2] (by decide) rfl
    refine lv_istore (lv' := [(5, .int (nI 0)), (0, .ref b), (1, .ref q0), (2, .ref q1), (3, .ref q2), (4, .int (nI (2 * j)))]) hx hb d_L_law_201 hl (by decide) rfl (fun ls hl => ?_)
    refine lv_aload_n hx hb d_L_law_203 rfl (lv_at hl 3 rfl) ?_
    refine l_arg (i0 := 1) (i4 := 5) hx hb hX hbl hS hl rfl rfl hj hL ha d_L_law_204 d_L_law_205 d_L_law_207 d_L_law_208 d_L_law_209 ?_
    have hPc := hP.sub (ws' := [(q1, .inr (1, [.int th, .int hh, .int w, .int wh, .int lw, .int ll, .int wc]))]) [1] rfl
    have hDc := hD.sub (ws' := [(q1, .inr (1, [.int th, .int hh, .int w, .int wh, .int lw, .int ll, .int wc]))]) [1] (by decide) rfl
    have hKc := hK.sub (tys' := []) [] rfl
    have hFc := va_free (wc := [(q1, .inr (1, [.int th, .int hh, .int w, .int wh, .int lw, .int ll, .int wc]))]) hD hS hA [1] rfl
    refine callG (va_runV (b := q1) (As := [.int a]) (rest := []) ⟨hx, hb, hml, hown, hts⟩ (c_M_take l dC dI q1 H.size th hh w wh lw ll wc a) (cwV 1 hts (gV (fun _ h => h) k_420 k_421 k_422 k_2 k_423) rfl rfl rfl (by decide +kernel) ⟨Nat.le_of_ble_eq_true rfl, Nat.le_of_ble_eq_true rfl⟩) (o_preV (va_recv hK hP (ci := 1) (q0 := 1) rfl rfl) hPc hKc hDc) rfl rfl hl.1 rfl (lv_room (Nat.le_of_ble_eq_true rfl)) d_L_law_210 hf0) (fun r9 u9 h9 => Prod.mk.inj (h9.trans (g2))) hS (fun q _ h => hFc q h) hFc (fun t9 H1 locs ht hvm hB hz1 hk1 hS => ?_)
    obtain ⟨hP1, hK1, hD1⟩ := hB
    rw [ht] at hP1
    obtain ⟨hP, hD⟩ := va_join (wr := [(q0, .inr (0, [.int w2, .int wh2, .int lw2, .int ll2, .int wc2])), (q2, .inl (cA, 1, .inr (.inl (vp_updL f (nI 0).toNatClampNeg (if r2 = 0 then lN 0 else lN 1)))))]) (w1 := [(q1, .inr (1, [.int (nI 0), .int u2, .int w2, .int wh2, .int lw2, .int ll2, .int wc2]))]) hP hD [1] [0, 2] rfl rfl (by decide) (by decide) hk1 hFc hP1 hD1
    generalize H1 = H at hP hS ⊢
    have hP : va_P (dC, dI) classes [(q0, .inr (0, [.int w2, .int wh2, .int lw2, .int ll2, .int wc2])), (q1, .inr (1, [.int (nI 0), .int u2, .int w2, .int wh2, .int lw2, .int ll2, .int wc2])), (q2, .inl (cA, 1, .inr (.inl (vp_updL f (nI 0).toNatClampNeg (if r2 = 0 then lN 0 else lN 1)))))] H := hP.sub [0, 2, 1] rfl
    have hD : va_D (l_A s) [(q0, .inr (0, [.int w2, .int wh2, .int lw2, .int ll2, .int wc2])), (q1, .inr (1, [.int (nI 0), .int u2, .int w2, .int wh2, .int lw2, .int ll2, .int wc2])), (q2, .inl (cA, 1, .inr (.inl (vp_updL f (nI 0).toNatClampNeg (if r2 = 0 then lN 0 else lN 1)))))] := hD.sub [0, 2, 1] (by decide) rfl
    refine lv_istore (lv' := [(6, .int r2), (5, .int (nI 0)), (0, .ref b), (1, .ref q0), (2, .ref q1), (3, .ref q2), (4, .int (nI (2 * j)))]) hx hb d_L_law_213 hl (by decide) rfl (fun ls hl => ?_)
    refine lv_aload_n hx hb d_L_law_215 rfl (lv_at hl 4 rfl) ?_
    refine callE (W.runV (b := q1) (As := []) (rest := []) ⟨hx, hb, hml, hown, hts⟩ (c_M_thrown l dC dI q1 (nI 0) u2 w2 wh2 lw2 ll2 wc2) (cwV 0 hts (gV (fun _ h => h) k_312 k_313 k_314 k_2 k_315) rfl rfl rfl (by decide +kernel) ⟨Nat.le_of_ble_eq_true rfl, Nat.le_of_ble_eq_true rfl⟩) (r_preV (va_recv hK hP (ci := 1) (q0 := 1) rfl rfl) (hP.sub (ws' := [(q1, .inr (1, [.int (nI 0), .int u2, .int w2, .int wh2, .int lw2, .int ll2, .int wc2]))]) [1] rfl) (hK.sub (tys' := []) [] rfl)) rfl rfl hl.1 rfl (lv_room (Nat.le_of_ble_eq_true rfl)) d_L_law_216 hf0) ?_
    refine lv_iload hx hb d_L_law_219 (lv_at hl 1 rfl) ?_
    refine lv_icmp_eq (tgt := 226) hx hb d_L_law_221 (by decide) (fun c1 => ?_) (fun c1 => absurd rfl c1)
    refine lv_iload hx hb d_L_law_226 (lv_at hl 1 rfl) ?_
    refine lv_if_ne (tgt := 250) hx hb d_L_law_228 (by decide) (fun c1 => absurd nI_0 c1) (fun c1 => ?_)
    refine lv_aload_n hx hb d_L_law_231 rfl (lv_at hl 5 rfl) ?_
    refine lv_iconst (v := nI 0) hx hb d_L_law_232 (by decide) ?_
    refine va_lald hx hb hK hP 2 0 rfl rfl (vp_in_nI (by decide) (by decide)) d_L_law_233 ?_
    rw [pk_uLs]
    refine lv_iload hx hb d_L_law_234 (lv_at hl 0 rfl) ?_
    refine lv_if_eq (tgt := 243) hx hb d_L_law_236 (by decide) (fun c2 => ?_) (fun c2 => ?_)
    · refine lv_lconst (v := lN 0) hx hb d_L_law_243 rfl ?_
      refine W.lcmp hx hb d_L_law_244 ?_
      refine lv_if_eq (tgt := 250) hx hb d_L_law_245 (by decide) (fun c3 => ?_) (fun c3 => absurd ((lg_cmp_eq _ _).mpr (if_pos c2)) c3)
      refine lv_goto (tgt := 305) hx hb d_L_law_250 (by decide) ?_
      refine W.widen (k := 3 + (j + 1)) (n := 13 + 6 * (j + 1)) (by omega) (by omega) ?_
      exact K _ _ _ _ _ _ _ _ _ _ _ ⟨hP, hD, hS, g3⟩ (lv_sub hl [2, 3, 4, 5, 6] rfl)
    · refine lv_lconst (v := lN 1) hx hb d_L_law_239 rfl ?_
      refine lv_goto (tgt := 244) hx hb d_L_law_240 (by decide) ?_
      refine W.lcmp hx hb d_L_law_244 ?_
      refine lv_if_eq (tgt := 250) hx hb d_L_law_245 (by decide) (fun c3 => ?_) (fun c3 => absurd ((lg_cmp_eq _ _).mpr (if_neg c2)) c3)
      refine lv_goto (tgt := 305) hx hb d_L_law_250 (by decide) ?_
      refine W.widen (k := 3 + (j + 1)) (n := 13 + 6 * (j + 1)) (by omega) (by omega) ?_
      exact K _ _ _ _ _ _ _ _ _ _ _ ⟨hP, hD, hS, g3⟩ (lv_sub hl [2, 3, 4, 5, 6] rfl)
