set_option maxHeartbeats 40000000 in
set_option maxRecDepth 100000 in
theorem law_c2 {p : Program} {l : Launch} {e : Env} {s : State} {m : MethodId} {below : List Frame} {meth : Method} {c : Code} {Q : State → Prop} {b L : Nat} {xs : Nat → Int32} {t : Nat → Nat} {dC : Nat → ClassId} {dI : Nat → Nat → Nat} {cA : ClassId} {q0 q1 q2 j : Nat} {w wh lw ll wc th hh : Int32} {f : Nat → Int64} {H : Heap} {locs : List Loc} {ls : Array Slot} (hst : l.stackTraces = false) (F : l_F p s m c b L xs t dC dI cA) (hj : 2 * j + 2 ≤ L) (C : l_at dC dI cA q0 q1 q2 s w wh lw ll wc th hh f H locs) (hl : lv_has ls 7 (l_lv b q0 q1 q2 j)) (K : l_K p l e s m below meth c Q b dC dI cA q0 q1 q2 j) : W p l e room_1 s m #[Value.ref b] below meth c H locs (3 + j) (13 + 6 * j) Q (F0 m 165 ls []) := by
  obtain ⟨hx, hb, hml, hown, hts, hX, hbl, hK, hT, hXX, hL⟩ := F
  obtain ⟨hP, hD, hS, hw⟩ := C
  have hA : ∀ q : Nat, s.heap.size ≤ q → l_A s q := fun _ h => h
  have hf0 : 3 + j + 0 ≤ room_1.cells ∧ 13 + 6 * j + 0 ≤ room_1.slots := ⟨by show _ ≤ 1029; omega, by show _ ≤ 8217; omega⟩
  have hf1 : 3 + j + 1 ≤ room_1.cells ∧ 13 + 6 * j + 6 ≤ room_1.slots := ⟨by show _ ≤ 1029; omega, by show _ ≤ 8217; omega⟩
  have hf2 : 3 + j + 1 + 0 ≤ room_1.cells ∧ 13 + 6 * j + 6 + 0 ≤ room_1.slots := hf1
  obtain ⟨a, ha⟩ : ∃ x, xs (2 * j + 1) = x := ⟨_, rfl⟩
  refine lv_aload_n hx hb d_L_law_165 rfl (lv_at hl 1 rfl) ?_
  refine l_arg (i0 := 0) (i4 := 4) hx hb hX hbl hS hl rfl rfl hj hL ha d_L_law_166 d_L_law_167 d_L_law_169 d_L_law_170 d_L_law_171 ?_
  refine callE (W.runV (b := q0) (As := [.int a]) (rest := []) ⟨hx, hb, hml, hown, hts⟩ (c_halves l t q0 a) (cwV 1 hts (gV (fun _ h => h) k_175 k_176 k_177 k_1 k_178) rfl rfl rfl (by decide +kernel) ⟨Nat.le_of_ble_eq_true rfl, Nat.le_of_ble_eq_true rfl⟩) (tb_preV (tb_keep hT hS) (va_recv hK hP (ci := 0) (q0 := 0) rfl rfl)) rfl rfl hl.1 rfl (lv_room (Nat.le_of_ble_eq_true rfl)) d_L_law_172 hf0) ?_
  refine lv_aload_n hx hb d_L_law_175 rfl (lv_at hl 2 rfl) ?_
  refine l_arg (i0 := 0) (i4 := 4) hx hb hX hbl hS hl rfl rfl hj hL ha d_L_law_176 d_L_law_177 d_L_law_179 d_L_law_180 d_L_law_181 ?_
  have hPc := hP.sub (ws' := [(q1, .inr (1, [.int th, .int hh, .int w, .int wh, .int lw, .int ll, .int wc]))]) [1] rfl
  have hDc := hD.sub (ws' := [(q1, .inr (1, [.int th, .int hh, .int w, .int wh, .int lw, .int ll, .int wc]))]) [1] (by decide) rfl
  have hKc := hK.sub (tys' := []) [] rfl
  have hFc := va_free (wc := [(q1, .inr (1, [.int th, .int hh, .int w, .int wh, .int lw, .int ll, .int wc]))]) hD hS hA [1] rfl
  refine callQi (va_runV (b := q1) (As := [.int a]) (rest := [.int (f_halvesN a 64)]) ⟨hx, hb, hml, hown, hts⟩ (c_M_halves l dC dI q1 H.size th hh w wh lw ll wc a) (cwV 1 hts (gV (fun _ h => h) k_416 k_417 k_418 k_2 k_419) rfl rfl rfl (by decide +kernel) ⟨Nat.le_of_ble_eq_true rfl, Nat.le_of_ble_eq_true rfl⟩) (o_preV (va_recv hK hP (ci := 1) (q0 := 1) rfl rfl) hPc hKc hDc) rfl rfl hl.1 rfl (lv_room (Nat.le_of_ble_eq_true rfl)) d_L_law_182 hf0) hS (fun q _ h => hFc q h) hFc (fun u t9 H1 locs ht hvm hB hz1 hk1 hS => ?_)
  obtain ⟨hP1, hK1, hD1⟩ := hB
  rw [ht] at hP1
  obtain ⟨hP, hD⟩ := va_join (wr := [(q0, .inr (0, [.int w, .int wh, .int lw, .int ll, .int wc])), (q2, .inl (cA, 1, .inr (.inl f)))]) (w1 := [(q1, .inr (1, [.int (nI 0), .int u, .int w, .int wh, .int lw, .int ll, .int wc]))]) hP hD [1] [0, 2] rfl rfl (by decide) (by decide) hk1 hFc hP1 hD1
  generalize H1 = H at hP hS ⊢
  have hP : va_P (dC, dI) classes [(q0, .inr (0, [.int w, .int wh, .int lw, .int ll, .int wc])), (q1, .inr (1, [.int (nI 0), .int u, .int w, .int wh, .int lw, .int ll, .int wc])), (q2, .inl (cA, 1, .inr (.inl f)))] H := hP.sub [0, 2, 1] rfl
  have hD : va_D (l_A s) [(q0, .inr (0, [.int w, .int wh, .int lw, .int ll, .int wc])), (q1, .inr (1, [.int (nI 0), .int u, .int w, .int wh, .int lw, .int ll, .int wc])), (q2, .inl (cA, 1, .inr (.inl f)))] := hD.sub [0, 2, 1] (by decide) rfl
  refine lv_icmp_eq (tgt := 305) hx hb d_L_law_185 (by decide) (fun c1 => ?_) (fun c1 => absurd rfl c1)
  refine W.widen (k := 3 + (j + 1)) (n := 13 + 6 * (j + 1)) (by omega) (by omega) ?_
  exact K _ _ _ _ _ _ _ _ _ _ _ ⟨hP, hD, hS, hw⟩ (lv_sub hl [0, 1, 2, 3, 4] rfl)
