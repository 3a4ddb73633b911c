/-! the reference's search finds what the class finds -/
def hN (g k : Nat) : Nat := Nat.add (Nat.add (Nat.mul (Nat.mod g 8) 8192) (Nat.mul k 4)) (Nat.div g 8)
theorem hN_eq (g k : Nat) : hN g k = g % 8 * 8192 + k * 4 + g / 8 := rfl
def n_hF (g k : Nat) : Nat := n_or (n_or (n_shl (n_and g 7) 13) (n_shl k 2)) (n_sshr g 3)
theorem t_hF (g k : Nat) : hF (nI g) (nI k) = nI (n_hF g k) := by
  simp only [hF, n_hF, tt_and, tt_or, tt_shl, tt_sshr]
def chH (i : Nat) : Bool := n_eqb (n_hF (Nat.div i 2048) (Nat.mod i 2048)) (hN (Nat.div i 2048) (Nat.mod i 2048))
theorem chH_0 : rng chH 0 1024 = true := by decide +kernel
theorem chH_1 : rng chH 1024 1024 = true := by decide +kernel
theorem chH_2 : rng chH 2048 1024 = true := by decide +kernel
theorem chH_3 : rng chH 3072 1024 = true := by decide +kernel
theorem chH_4 : rng chH 4096 1024 = true := by decide +kernel
theorem chH_5 : rng chH 5120 1024 = true := by decide +kernel
theorem chH_6 : rng chH 6144 1024 = true := by decide +kernel
theorem chH_7 : rng chH 7168 1024 = true := by decide +kernel
theorem chH_8 : rng chH 8192 1024 = true := by decide +kernel
theorem chH_9 : rng chH 9216 1024 = true := by decide +kernel
theorem chH_10 : rng chH 10240 1024 = true := by decide +kernel
theorem chH_11 : rng chH 11264 1024 = true := by decide +kernel
theorem chH_12 : rng chH 12288 1024 = true := by decide +kernel
theorem chH_13 : rng chH 13312 1024 = true := by decide +kernel
theorem chH_14 : rng chH 14336 1024 = true := by decide +kernel
theorem chH_15 : rng chH 15360 1024 = true := by decide +kernel
theorem chH_16 : rng chH 16384 1024 = true := by decide +kernel
theorem chH_17 : rng chH 17408 1024 = true := by decide +kernel
theorem chH_18 : rng chH 18432 1024 = true := by decide +kernel
theorem chH_19 : rng chH 19456 1024 = true := by decide +kernel
theorem chH_20 : rng chH 20480 1024 = true := by decide +kernel
theorem chH_21 : rng chH 21504 1024 = true := by decide +kernel
theorem chH_22 : rng chH 22528 1024 = true := by decide +kernel
theorem chH_23 : rng chH 23552 1024 = true := by decide +kernel
theorem chH_24 : rng chH 24576 1024 = true := by decide +kernel
theorem chH_25 : rng chH 25600 1024 = true := by decide +kernel
theorem chH_26 : rng chH 26624 1024 = true := by decide +kernel
theorem chH_27 : rng chH 27648 1024 = true := by decide +kernel
theorem chH_28 : rng chH 28672 1024 = true := by decide +kernel
theorem chH_29 : rng chH 29696 1024 = true := by decide +kernel
theorem chH_30 : rng chH 30720 1024 = true := by decide +kernel
theorem chH_31 : rng chH 31744 1024 = true := by decide +kernel
theorem chH_32 : rng chH 32768 1024 = true := by decide +kernel
theorem chH_33 : rng chH 33792 1024 = true := by decide +kernel
theorem chH_34 : rng chH 34816 1024 = true := by decide +kernel
theorem chH_35 : rng chH 35840 1024 = true := by decide +kernel
theorem chH_36 : rng chH 36864 1024 = true := by decide +kernel
theorem chH_37 : rng chH 37888 1024 = true := by decide +kernel
theorem chH_38 : rng chH 38912 1024 = true := by decide +kernel
theorem chH_39 : rng chH 39936 1024 = true := by decide +kernel
theorem chH_40 : rng chH 40960 1024 = true := by decide +kernel
theorem chH_41 : rng chH 41984 1024 = true := by decide +kernel
theorem chH_42 : rng chH 43008 1024 = true := by decide +kernel
theorem chH_43 : rng chH 44032 1024 = true := by decide +kernel
theorem chH_44 : rng chH 45056 1024 = true := by decide +kernel
theorem chH_45 : rng chH 46080 1024 = true := by decide +kernel
theorem chH_46 : rng chH 47104 1024 = true := by decide +kernel
theorem chH_47 : rng chH 48128 1024 = true := by decide +kernel
theorem chH_all (h : Nat) (hh : h < 49152) : chH h = true := by
  have key : ∀ j, j < 48 → ∀ i, i < 1024 → chH (1024 * j + i) = true := by
    intro j hj i hi
    match j, hj with
    | 0, _ => exact rng_at chH_0 i hi
    | 1, _ => exact rng_at chH_1 i hi
    | 2, _ => exact rng_at chH_2 i hi
    | 3, _ => exact rng_at chH_3 i hi
    | 4, _ => exact rng_at chH_4 i hi
    | 5, _ => exact rng_at chH_5 i hi
    | 6, _ => exact rng_at chH_6 i hi
    | 7, _ => exact rng_at chH_7 i hi
    | 8, _ => exact rng_at chH_8 i hi
    | 9, _ => exact rng_at chH_9 i hi
    | 10, _ => exact rng_at chH_10 i hi
    | 11, _ => exact rng_at chH_11 i hi
    | 12, _ => exact rng_at chH_12 i hi
    | 13, _ => exact rng_at chH_13 i hi
    | 14, _ => exact rng_at chH_14 i hi
    | 15, _ => exact rng_at chH_15 i hi
    | 16, _ => exact rng_at chH_16 i hi
    | 17, _ => exact rng_at chH_17 i hi
    | 18, _ => exact rng_at chH_18 i hi
    | 19, _ => exact rng_at chH_19 i hi
    | 20, _ => exact rng_at chH_20 i hi
    | 21, _ => exact rng_at chH_21 i hi
    | 22, _ => exact rng_at chH_22 i hi
    | 23, _ => exact rng_at chH_23 i hi
    | 24, _ => exact rng_at chH_24 i hi
    | 25, _ => exact rng_at chH_25 i hi
    | 26, _ => exact rng_at chH_26 i hi
    | 27, _ => exact rng_at chH_27 i hi
    | 28, _ => exact rng_at chH_28 i hi
    | 29, _ => exact rng_at chH_29 i hi
    | 30, _ => exact rng_at chH_30 i hi
    | 31, _ => exact rng_at chH_31 i hi
    | 32, _ => exact rng_at chH_32 i hi
    | 33, _ => exact rng_at chH_33 i hi
    | 34, _ => exact rng_at chH_34 i hi
    | 35, _ => exact rng_at chH_35 i hi
    | 36, _ => exact rng_at chH_36 i hi
    | 37, _ => exact rng_at chH_37 i hi
    | 38, _ => exact rng_at chH_38 i hi
    | 39, _ => exact rng_at chH_39 i hi
    | 40, _ => exact rng_at chH_40 i hi
    | 41, _ => exact rng_at chH_41 i hi
    | 42, _ => exact rng_at chH_42 i hi
    | 43, _ => exact rng_at chH_43 i hi
    | 44, _ => exact rng_at chH_44 i hi
    | 45, _ => exact rng_at chH_45 i hi
    | 46, _ => exact rng_at chH_46 i hi
    | 47, _ => exact rng_at chH_47 i hi
    | j + 48, hj => omega
  have := key (h / 1024) (by omega) (h % 1024) (by omega)
  rw [show 1024 * (h / 1024) + h % 1024 = h by omega] at this
  exact this
theorem hF_nat {g k : Nat} (hg : g < 24) (hk : k < 2048) : hF (nI g) (nI k) = nI (hN g k) := by
  have h := chH_all (g * 2048 + k) (by omega)
  unfold chH at h
  rw [← n_eq_iff] at h
  have e1 : Nat.div (g * 2048 + k) 2048 = g := by show (g * 2048 + k) / 2048 = g; omega
  have e2 : Nat.mod (g * 2048 + k) 2048 = k := by show (g * 2048 + k) % 2048 = k; omega
  rw [e1, e2] at h
  rw [t_hF, h]
theorem hN_lt {g k : Nat} (hg : g < 24) (hk : k < 2048) : hN g k < 65536 := by rw [hN_eq]; omega
theorem gp_eq (h : Nat) : gp h = h % 4 * 8 + h / 8192 := rfl
theorem gq_eq (h : Nat) : gq h = h / 4 % 2048 := rfl
theorem gp_hN {g k : Nat} (hg : g < 24) (hk : k < 2048) : gp (hN g k) = g := by
  rw [gp_eq, hN_eq]
  have h1 := Nat.div_add_mod g 8
  have h2 : g / 8 < 3 := by omega
  have h3 : g % 8 < 8 := Nat.mod_lt _ (by decide)
  generalize g / 8 = a at h1 h2 ⊢
  generalize g % 8 = b at h1 h3 ⊢
  have e1 : (b * 8192 + k * 4 + a) % 4 = a := by omega
  have e2 : (b * 8192 + k * 4 + a) / 8192 = b := by omega
  rw [e1, e2]
  omega
theorem gq_hN {g k : Nat} (hg : g < 24) (hk : k < 2048) : gq (hN g k) = k := by
  rw [gq_eq, hN_eq]
  have h2 : g / 8 < 3 := by omega
  have h3 : g % 8 < 8 := Nat.mod_lt _ (by decide)
  generalize g / 8 = a at h2 ⊢
  generalize g % 8 = b at h3 ⊢
  have e1 : (b * 8192 + k * 4 + a) / 4 = b * 2048 + k := by omega
  rw [e1]
  omega
theorem hN_of {h : Nat} (hh : h < 65536) : hN (gp h) (gq h) = h := by
  rw [hN_eq, gp_eq, gq_eq]
  have e0 : h / 4 / 2048 = h / 8192 := by rw [Nat.div_div_eq_div_mul]
  have h3 : h / 8192 < 8 := by omega
  have e1 : (h % 4 * 8 + h / 8192) % 8 = h / 8192 := by omega
  have e2 : (h % 4 * 8 + h / 8192) / 8 = h % 4 := by omega
  rw [e1, e2]
  have q1 := Nat.div_add_mod h 4
  have q2 := Nat.div_add_mod (h / 4) 2048
  rw [e0] at q2
  omega
/-- a half that stands for the word w -/
abbrev sd (w : Int32) (h : Nat) : Prop := f_wordFor (nI h) = w ∧ w ≠ 0
theorem sd_group {w : Int32} {h : Nat} (hh : h < 65536) (hs : sd w h) : gp h < 24 := by
  rcases Nat.lt_or_ge (h % 4) 3 with q | q
  · rw [gp_eq]; omega
  · have e : h % 4 = 3 := by omega
    have h1 := word_same hh
    have h2 : nI h &&& nI 3 = nI 3 := by
      rw [tt_and]
      show nI (h &&& 3) = _
      rw [show (3 : Nat) = 2 ^ 2 - 1 from rfl, Nat.and_two_pow_sub_one_eq_mod]
      show nI (h % 4) = _
      rw [e]
    have h3 : f_M_wordOf (nI h) = nI 0 := by
      rw [f_M_wordOf, h2, if_neg (by decide), if_neg (by decide), if_neg (by decide)]
    rw [h3, hs.1] at h1
    exact absurd h1.symm hs.2
theorem hit_iff {g k : Nat} (hg : g < 24) (hk : k < 2048) {w : Int32} (h0 : w ≠ 0) : (¬ f_M_couldBe (nI g) (nI k) w = 0 ∧ f_M_wordOf (hF (nI g) (nI k)) = w) ↔ sd w (hN g k) := by
  have hl := hN_lt hg hk
  rw [hF_nat hg hk, word_same hl]
  constructor
  · intro h
    exact ⟨h.2, h0⟩
  · intro h
    refine ⟨?_, h.1⟩
    have h2 := (found_ok hl h.1 h0).2
    rw [gp_hN hg hk, gq_hN hg hk] at h2
    rw [h2]
    decide
theorem kd9 (n : Nat) (hn : n < 2048) : nI (4294969343 - n) = nI (2047 - n) := (nI_iff _ _).mpr (by omega)
/-- how many in the group, from its top down -/
def cG (w : Int32) (g : Nat) : Nat → Bool := fun j => decide (sd w (hN g (2047 - j)))
theorem cnt_le (P : Nat → Bool) : ∀ n, cnt P n ≤ n
  | 0 => Nat.le_refl 0
  | n + 1 => by
    show cnt P n + _ ≤ n + 1
    have := cnt_le P n
    cases P n
    · show cnt P n + 0 ≤ n + 1; omega
    · show cnt P n + 1 ≤ n + 1; omega
theorem ta_inv {g : Nat} (hg : g < 24) {w : Int32} (h0 : w ≠ 0) : ∀ n, n ≤ 2048 → ∃ L : Nat, f_ta (nI g) w n = (lN L, nI (cnt (cG w g) n)) ∧ ((L = 0 ∧ ∀ k, 2048 - n ≤ k → k < 2048 → ¬ sd w (hN g k)) ∨ ∃ k, 2048 - n ≤ k ∧ k < 2048 ∧ sd w (hN g k) ∧ L = hN g k + 1 ∧ ∀ j, 2048 - n ≤ j → j < k → ¬ sd w (hN g j))
  | 0, _ => ⟨0, rfl, Or.inl ⟨rfl, fun k h1 h2 => by omega⟩⟩
  | n + 1, hn => by
    obtain ⟨L, hL, hc⟩ := ta_inv hg h0 n (by omega)
    have hk : 2047 - n < 2048 := by omega
    have hi := hit_iff hg hk h0
    have hcn : cnt (cG w g) (n + 1) = cnt (cG w g) n + (bif decide (sd w (hN g (2047 - n))) then 1 else 0) := rfl
    by_cases hs : sd w (hN g (2047 - n))
    · obtain ⟨h1, h2⟩ := hi.mpr hs
      refine ⟨hN g (2047 - n) + 1, ?_, Or.inr ⟨2047 - n, by omega, hk, hs, rfl, fun j h3 h4 => by omega⟩⟩
      rw [f_ta_s, kd9 n (by omega), if_neg h1, if_pos h2, hF_nat hg hk, hL, hcn, decide_eq_true hs]
      have hl := hN_lt hg hk
      show ((nI (hN g (2047 - n))).toInt64 + lN 1, nI (cnt (cG w g) n) + nI 1) = (lN (hN g (2047 - n) + 1), nI (cnt (cG w g) n + 1))
      rw [nI_l (by omega), lN_add, nI_add]
    · refine ⟨L, ?_, ?_⟩
      · rw [f_ta_s, kd9 n (by omega), hcn, decide_eq_false hs]
        show _ = (lN L, nI (cnt (cG w g) n + 0))
        rw [Nat.add_zero]
        by_cases h1 : f_M_couldBe (nI g) (nI (2047 - n)) w = 0
        · rw [if_pos h1]; exact hL
        · rw [if_neg h1]
          by_cases h2 : f_M_wordOf (hF (nI g) (nI (2047 - n))) = w
          · exact absurd (hi.mp ⟨h1, h2⟩) hs
          · rw [if_neg h2]; exact hL
      · rcases hc with ⟨a1, a2⟩ | ⟨k, a1, a2, a3, a4, a5⟩
        · refine Or.inl ⟨a1, fun k h1 h2 => ?_⟩
          rcases Nat.lt_or_ge k (2048 - n) with q | q
          · rw [show k = 2047 - n by omega]; exact hs
          · exact a2 k q h2
        · refine Or.inr ⟨k, by omega, a2, a3, a4, fun j h1 h2 => ?_⟩
          rcases Nat.lt_or_ge j (2048 - n) with q | q
          · rw [show j = 2047 - n by omega]; exact hs
          · exact a5 j q h2
/-- what one group gives: the least in it, and how many -/
theorem tr_spec {g : Nat} (hg : g < 24) {w : Int32} (h0 : w ≠ 0) : s_many (f_tr (nI g) w) = nI (cnt (cG w g) 2048) ∧ ((s_half (f_tr (nI g) w) = nI 4294967295 ∧ ∀ k, k < 2048 → ¬ sd w (hN g k)) ∨ ∃ k, k < 2048 ∧ sd w (hN g k) ∧ s_half (f_tr (nI g) w) = nI (hN g k) ∧ ∀ j, j < k → ¬ sd w (hN g j)) := by
  obtain ⟨L, hL, hc⟩ := ta_inv hg h0 2048 (Nat.le_refl _)
  have hc2 := cnt_le (cG w g) 2048
  have hLb : L ≤ 65536 := by
    rcases hc with ⟨a1, -⟩ | ⟨k, -, a2, -, a4, -⟩
    · omega
    · have := hN_lt hg a2; omega
  have e : f_tr (nI g) w = lN (cnt (cG w g) 2048 + 4096 * L) := by
    unfold f_tr
    rw [hL]
    show (nI (cnt (cG w g) 2048)).toInt64 + lN 4096 * lN L = _
    rw [nI_l (by omega), lN_mul, lN_add]
  generalize cnt (cG w g) 2048 = c at hc2 e ⊢
  have e1 : (f_tr (nI g) w / lN 4096) = lN L := by
    rw [e, pk_lDiv (by omega) (by omega) (by omega)]
    congr 1
    omega
  have e2 : f_tr (nI g) w - f_tr (nI g) w / lN 4096 * lN 4096 = lN c := by
    rw [e, pk_lRem (by omega) (by omega) (by omega)]
    congr 1
    omega
  have e3 : s_half (f_tr (nI g) w) = nI L - nI 1 := by
    show (f_tr (nI g) w / lN 4096).toInt32 - nI 1 = _
    rw [e1, lN_i]
  refine ⟨?_, ?_⟩
  · show (f_tr (nI g) w - f_tr (nI g) w / lN 4096 * lN 4096).toInt32 = _
    rw [e2, lN_i]
  · rcases hc with ⟨a1, a2⟩ | ⟨k, a1, a2, a3, a4, a5⟩
    · refine Or.inl ⟨?_, fun k hk => a2 k (by omega) hk⟩
      rw [e3, a1]
      decide
    · refine Or.inr ⟨k, a2, a3, ?_, fun j hj => a5 j (by omega) hj⟩
      rw [e3, a4, tt_sub, nI_iff]
      show (hN g k + 1 + 4294967296 - 1 % 4294967296) % 4294967296 = _
      omega
theorem nI_none_neg : nI 4294967295 < 0 := by decide
theorem se_many {w : Int32} (h0 : w ≠ 0) : ∀ n, n ≤ 24 → (f_se w n).1 = nI (ksum (fun g => cnt (cG w g) 2048) n)
  | 0, _ => rfl
  | n + 1, hn => by
    have ih := se_many h0 n (by omega)
    obtain ⟨t1, t2⟩ := tr_spec (g := n) (by omega) h0
    rw [f_se_s]
    show _ = nI (ksum (fun g => cnt (cG w g) 2048) n + cnt (cG w n) 2048)
    by_cases hb : (((f_M_groups (w &&& nI 127)) >>> ((nI n) &&& 31)) &&& nI 1) = nI 1
    · rw [if_pos hb]
      show (f_se w n).1 + s_many (f_tr (nI n) w) = _
      rw [ih, t1, nI_add]
    · rw [if_neg hb, ih]
      have hz : cnt (cG w n) 2048 = 0 := cnt_none (fun j hj => decide_eq_false (fun hs => by
        have h2 := (found_ok (hN_lt (by omega) (by omega)) hs.1 h0).1
        rw [gp_hN (by omega) (by omega)] at h2
        exact hb h2))
      rw [hz, Nat.add_zero]
theorem se_least {w : Int32} (h0 : w ≠ 0) : ∀ n, n ≤ 24 → ∃ r, (f_se w n).2 = nI r ∧ ((r = 4294967295 ∧ ∀ g k, g < n → k < 2048 → ¬ sd w (hN g k)) ∨ (r < 65536 ∧ sd w r ∧ ∀ g k, g < n → k < 2048 → sd w (hN g k) → r ≤ hN g k))
  | 0, _ => ⟨4294967295, rfl, Or.inl ⟨rfl, fun g k hg => absurd hg (Nat.not_lt_zero g)⟩⟩
  | n + 1, hn => by
    obtain ⟨r, hr, hc⟩ := se_least h0 n (by omega)
    obtain ⟨-, t2⟩ := tr_spec (g := n) (by omega) h0
    rw [f_se_s]
    by_cases hb : (((f_M_groups (w &&& nI 127)) >>> ((nI n) &&& 31)) &&& nI 1) = nI 1
    · rw [if_pos hb]
      show ∃ r, (if s_half (f_tr (nI n) w) < 0 then (f_se w n).2 else if (f_se w n).2 < 0 then s_half (f_tr (nI n) w) else if (f_se w n).2 ≤ s_half (f_tr (nI n) w) then (f_se w n).2 else s_half (f_tr (nI n) w)) = nI r ∧ _
      rcases t2 with ⟨a1, a2⟩ | ⟨k, a1, a2, a3, a4⟩
      · rw [a1, if_pos nI_none_neg]
        refine ⟨r, hr, ?_⟩
        rcases hc with ⟨b1, b2⟩ | ⟨b1, b2, b3⟩
        · refine Or.inl ⟨b1, fun g j hg hj => ?_⟩
          rcases Nat.lt_or_ge g n with q | q
          · exact b2 g j q hj
          · rw [show g = n by omega]; exact a2 j hj
        · refine Or.inr ⟨b1, b2, fun g j hg hj hs => ?_⟩
          rcases Nat.lt_or_ge g n with q | q
          · exact b3 g j q hj hs
          · rw [show g = n by omega] at hs
            exact absurd hs (a2 j hj)
      · have hl := hN_lt (g := n) (by omega) a1
        have hmin : ∀ j, j < 2048 → sd w (hN n j) → hN n k ≤ hN n j := fun j hj hs => by
          rcases Nat.lt_or_ge j k with q | q
          · exact absurd hs (a4 j q)
          · rw [hN_eq, hN_eq]; omega
        rw [a3, if_neg (nI_pos (by omega))]
        rcases hc with ⟨b1, b2⟩ | ⟨b1, b2, b3⟩
        · rw [hr, b1, if_pos nI_none_neg]
          refine ⟨hN n k, rfl, Or.inr ⟨hl, a2, fun g j hg hj hs => ?_⟩⟩
          rcases Nat.lt_or_ge g n with q | q
          · exact absurd hs (b2 g j q hj)
          · rw [show g = n by omega] at hs ⊢
            exact hmin j hj hs
        · rw [hr, if_neg (nI_pos (by omega))]
          by_cases hle : r ≤ hN n k
          · rw [if_pos ((nI_leI (by omega) (by omega)).mpr hle)]
            refine ⟨r, rfl, Or.inr ⟨b1, b2, fun g j hg hj hs => ?_⟩⟩
            rcases Nat.lt_or_ge g n with q | q
            · exact b3 g j q hj hs
            · rw [show g = n by omega] at hs ⊢
              exact Nat.le_trans hle (hmin j hj hs)
          · rw [if_neg (fun q => hle ((nI_leI (by omega) (by omega)).mp q))]
            refine ⟨hN n k, rfl, Or.inr ⟨hl, a2, fun g j hg hj hs => ?_⟩⟩
            rcases Nat.lt_or_ge g n with q | q
            · have := b3 g j q hj hs
              omega
            · rw [show g = n by omega] at hs ⊢
              exact hmin j hj hs
    · rw [if_neg hb]
      have hno : ∀ k, k < 2048 → ¬ sd w (hN n k) := fun k hk hs => by
        have h2 := (found_ok (hN_lt (by omega) hk) hs.1 h0).1
        rw [gp_hN (by omega) hk] at h2
        exact hb h2
      refine ⟨r, hr, ?_⟩
      rcases hc with ⟨b1, b2⟩ | ⟨b1, b2, b3⟩
      · refine Or.inl ⟨b1, fun g j hg hj => ?_⟩
        rcases Nat.lt_or_ge g n with q | q
        · exact b2 g j q hj
        · rw [show g = n by omega]; exact hno j hj
      · refine Or.inr ⟨b1, b2, fun g j hg hj hs => ?_⟩
        rcases Nat.lt_or_ge g n with q | q
        · exact b3 g j q hj hs
        · rw [show g = n by omega] at hs
          exact absurd hs (hno j hj)
theorem gq_lt (h : Nat) : gq h < 2048 := by rw [gq_eq]; omega
theorem se_lst {w : Int32} (h0 : w ≠ 0) : ∃ r, (f_se w 24).2 = nI r ∧ lst (sd w) 65536 r := by
  obtain ⟨r, hr, hc⟩ := se_least h0 24 (Nat.le_refl _)
  refine ⟨r, hr, ?_⟩
  rcases hc with ⟨b1, b2⟩ | ⟨b1, b2, b3⟩
  · refine Or.inr ⟨b1, fun i hi hs => ?_⟩
    have := b2 (gp i) (gq i) (sd_group hi hs) (gq_lt i)
    rw [hN_of hi] at this
    exact this hs
  · refine Or.inl ⟨b1, b2, fun i hi hs => ?_⟩
    have h1 : i < 65536 := by omega
    have := b3 (gp i) (gq i) (sd_group h1 hs) (gq_lt i) (by rw [hN_of h1]; exact hs)
    rw [hN_of h1] at this
    omega
theorem cnt_ksum (P : Nat → Bool) : ∀ n, cnt P n = ksum (fun j => bif P j then 1 else 0) n
  | 0 => rfl
  | n + 1 => by
    show cnt P n + _ = ksum _ n + _
    rw [cnt_ksum P n]
theorem ksum_tail {F : Nat → Nat} {a : Nat} : ∀ m, a ≤ m → (∀ k, a ≤ k → k < m → F k = 0) → ksum F m = ksum F a
  | 0, h, _ => by rw [show a = 0 by omega]
  | m + 1, h, hz => by
    rcases Nat.lt_or_ge m a with q | q
    · rw [show a = m + 1 by omega]
    · show ksum F m + F m = ksum F a
      rw [ksum_tail m q (fun k h1 h2 => hz k h1 (by omega)), hz m q (by omega), Nat.add_zero]
theorem group_cnt {w : Int32} {g : Nat} (hg : g < 24) : cnt (fun h => decide (sd w h) && (gp h == g)) 65536 = cnt (cG w g) 2048 := by
  rw [cnt_split (κ := fun h => 2047 - gq h) (m := 2048) (fun i _ => by show 2047 - gq i < 2048; omega), cnt_ksum]
  refine ksum_congr (fun j hj => ?_)
  have hk : 2047 - j < 2048 := by omega
  by_cases hs : sd w (hN g (2047 - j))
  · rw [show cG w g j = true from decide_eq_true hs, cnt_one (hN_lt hg hk)]
    · rfl
    · rw [Bool.and_eq_true, Bool.and_eq_true, decide_eq_true_eq, beq_iff_eq, beq_iff_eq, gp_hN hg hk, gq_hN hg hk]
      exact ⟨⟨hs, rfl⟩, by omega⟩
    · intro i hi hp
      rw [Bool.and_eq_true, Bool.and_eq_true, decide_eq_true_eq, beq_iff_eq, beq_iff_eq] at hp
      have h1 := hN_of hi
      have h2 := gq_lt i
      rw [hp.1.2, show gq i = 2047 - j by omega] at h1
      exact h1.symm
  · rw [show cG w g j = false from decide_eq_false hs, cnt_none]
    · rfl
    · intro i hi
      cases hx : ((decide (sd w i) && (gp i == g)) && (2047 - gq i == j)) with
      | false => rfl
      | true =>
        rw [Bool.and_eq_true, Bool.and_eq_true, decide_eq_true_eq, beq_iff_eq, beq_iff_eq] at hx
        have h1 := hN_of hi
        have h2 := gq_lt i
        rw [hx.1.2, show gq i = 2047 - j by omega] at h1
        rw [h1] at hs
        exact absurd hx.1.1 hs
theorem se_cnt {w : Int32} : ksum (fun g => cnt (cG w g) 2048) 24 = cnt (fun h => decide (sd w h)) 65536 := by
  rw [cnt_split (P := fun h => decide (sd w h)) (κ := gp) (m := 32) (fun i hi => by show gp i < 32; rw [gp_eq]; omega)]
  rw [ksum_tail (a := 24) 32 (by omega) (fun k h1 h2 => cnt_none (fun i hi => by
    cases hx : (decide (sd w i) && (gp i == k)) with
    | false => rfl
    | true =>
      rw [Bool.and_eq_true, decide_eq_true_eq, beq_iff_eq] at hx
      have := sd_group hi hx.1
      omega))]
  exact ksum_congr (fun g hg => (group_cnt hg).symm)
def f_srA (w cb : Int32) : Int32 := f_sr w (if w = 0 then 0 else 24) cb
theorem same_short (w : Int32) : f_srA w (nI 0) = f_shortN w 64 := by
  obtain ⟨r, hr, hl⟩ := sh_spec w
  rw [f_srA, f_sr, if_pos (by decide), hr]
  by_cases h0 : w = 0
  · rw [if_pos h0]
    rcases hl with ⟨-, ⟨-, h2⟩, -⟩ | ⟨h1, -⟩
    · exact absurd h0 h2
    · rw [h1]; rfl
  · rw [if_neg h0]
    obtain ⟨q, hq, hl2⟩ := se_lst h0
    rw [hq, lst_one hl hl2]
theorem same_halves (w : Int32) : f_srA w (nI 1) = f_halvesN w 64 := by
  rw [f_srA, f_sr, if_neg (by decide), hv_spec]
  by_cases h0 : w = 0
  · rw [if_pos h0, cnt_none (fun i _ => decide_eq_false (fun q => q.2 h0))]
    rfl
  · rw [if_neg h0, se_many h0 24 (Nat.le_refl _), se_cnt]
