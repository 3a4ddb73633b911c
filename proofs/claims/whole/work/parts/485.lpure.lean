/-! class and reference, call by call -/
theorem half_of {a : Int32} (h : ¬ f_isHalf a = 0) : ∃ k, k < 65536 ∧ a = nI k := by
  rw [f_isHalf] at h
  by_cases h1 : a < 0
  · rw [if_pos h1] at h
    exact absurd (by decide) h
  · rw [if_neg h1] at h
    by_cases h2 : nI 65535 < a
    · rw [if_pos h2] at h
      exact absurd (by decide) h
    · obtain ⟨j, hj, e⟩ := nI_of h1
      rw [e, nI_ltI (by omega) hj] at h2
      exact ⟨j, by omega, e⟩
theorem half_not {a : Int32} (h : f_isHalf a = 0) : a < 0 ∨ (¬ a < 0 ∧ ¬ a ≤ nI 65535) := by
  rw [f_isHalf] at h
  by_cases h1 : a < 0
  · exact Or.inl h1
  · rw [if_neg h1] at h
    by_cases h2 : nI 65535 < a
    · obtain ⟨j, hj, e⟩ := nI_of h1
      refine Or.inr ⟨h1, ?_⟩
      rw [e, nI_ltI (by omega) hj] at h2
      rw [e, nI_leI hj (by omega)]
      omega
    · rw [if_neg h2] at h
      exact absurd h (by decide)
theorem ex_ok {k : Nat} (hk : k < 65536) (th hh wt fi wo le wn : Int32) : g_M_expand th hh wt fi wo le wn (nI k) = (f_wordFor (nI k), (nI 0, nI k, wt, fi, wo, le, wn)) := by
  rw [g_M_expand, if_neg (nI_pos (by omega)), if_pos (nI_le (by omega) (by omega)), if_pos (by decide), word_same hk]
theorem ex_bad {a : Int32} (h : f_isHalf a = 0) (th hh wt fi wo le wn : Int32) : g_M_expand th hh wt fi wo le wn a = (nI 0, (nI 1, hh, wt, fi, wo, le, wn)) := by
  rw [g_M_expand]
  rcases half_not h with h1 | ⟨h1, h2⟩
  · rw [if_pos h1, if_neg (by decide)]
  · rw [if_neg h1, if_neg h2, if_neg (by decide)]
theorem tk_bad {a : Int32} (h : f_isHalf a = 0) (th hh wt fi wo le wn : Int32) : g_M_take th hh wt fi wo le wn a = (nI 0, (nI 1, hh, wt, fi, wo, le, wn)) := by
  rw [g_M_take]
  rcases half_not h with h1 | ⟨h1, h2⟩
  · rw [if_pos h1, if_neg (by decide)]
  · rw [if_neg h1, if_neg h2, if_neg (by decide)]
theorem or_sym (x y : Int32) : x ||| y = y ||| x := Int32.toBitVec_inj.mp (by rw [Int32.toBitVec_or, Int32.toBitVec_or, BitVec.or_comm])
theorem n_bits10 (k : Nat) : n_bits k 1 0 = (k % 4294967296) / 2 ^ (0 % 32) &&& (1 * 2 ^ ((1 + 4294967296 - 0 % 4294967296 + 1) % 32) + 4294967296 - 1 % 4294967296) := rfl
theorem low_bits {k : Nat} (hk : k < 65536) : f_bits (nI k) (nI 1) (nI 0) = nI (k % 4) := by
  rw [t_bits, n_bits10]
  simp only [Nat.reduceMod, Nat.reducePow, Nat.reduceAdd, Nat.reduceMul, Nat.reduceSub, Nat.div_one]
  rw [Nat.mod_eq_of_lt (show k < 4294967296 by omega)]
  have e : k &&& 4294967299 = k % 4 := by
    apply Nat.eq_of_testBit_eq
    intro i
    rw [Nat.testBit_and, show (4 : Nat) = 2 ^ 2 from rfl, Nat.testBit_mod_two_pow]
    rcases Nat.lt_or_ge i 16 with q | q
    · have hb : ∀ i, i < 16 → (4294967299 : Nat).testBit i = decide (i < 2) := by decide
      rw [hb i q, Bool.and_comm]
    · have hz : k.testBit i = false := Nat.testBit_lt_two_pow (Nat.lt_of_lt_of_le hk (Nat.pow_le_pow_right (n := 2) (by decide) q))
      rw [hz]
      simp
  rw [e]
theorem low_rem {k : Nat} (hk : k < 65536) : nI k - nI k / nI 4 * nI 4 = nI (k % 4) := pk_rem (by omega) (by decide) (by decide)
/-- take: the same answer, the same state behind it -/
theorem tk_ok {k : Nat} (hk : k < 65536) (hv : ¬ f_isHalf (nI k) = 0) (th hh w wh lw ll wc : Int32) (hw : w = nI 0 ∨ w = nI 1) : ∃ (r u w2 wh2 lw2 ll2 wc2 : Int32), g_S_take w wh lw ll wc (nI k) = (r, (w2, wh2, lw2, ll2, wc2)) ∧ g_M_take th hh w wh lw ll wc (nI k) = (r, (nI 0, u, w2, wh2, lw2, ll2, wc2)) ∧ (w2 = nI 0 ∨ w2 = nI 1) ∧ (r = nI 0 ∨ r = nI 1) := by
  have e1 : g_M_take th hh w wh lw ll wc (nI k) = if w = 0 then (if (nI k - nI k / (nI 4) * (nI 4)) = (nI 3) then ((nI 0), ((nI 0), hh, (nI 1), nI k, lw, ll, wc)) else (if w = 0 then (if w = 0 then ((nI 1), ((nI 0), nI k, (nI 0), wh, (f_M_wordOf (nI k)), (nI 2), (wc + (nI 1)))) else ((nI 1), ((nI 0), nI k, (nI 0), wh, (f_M_wordOf (nI k)), (nI 4), (wc + (nI 1))))) else (if w = 0 then ((nI 1), ((nI 0), hh, (nI 0), wh, (wh ||| (nI k <<< ((nI 16) &&& 31))), (nI 2), (wc + (nI 1)))) else ((nI 1), ((nI 0), hh, (nI 0), wh, (wh ||| (nI k <<< ((nI 16) &&& 31))), (nI 4), (wc + (nI 1))))))) else (if w = 0 then (if w = 0 then ((nI 1), ((nI 0), nI k, (nI 0), wh, (f_M_wordOf (nI k)), (nI 2), (wc + (nI 1)))) else ((nI 1), ((nI 0), nI k, (nI 0), wh, (f_M_wordOf (nI k)), (nI 4), (wc + (nI 1))))) else (if w = 0 then ((nI 1), ((nI 0), hh, (nI 0), wh, (wh ||| (nI k <<< ((nI 16) &&& 31))), (nI 2), (wc + (nI 1)))) else ((nI 1), ((nI 0), hh, (nI 0), wh, (wh ||| (nI k <<< ((nI 16) &&& 31))), (nI 4), (wc + (nI 1)))))) := by
    rw [g_M_take, if_neg (nI_pos (by omega)), if_pos (nI_le (by omega) (by omega)), if_pos (by decide)]
  rw [e1, g_S_take, if_neg hv, low_bits hk, low_rem hk, word_same hk]
  by_cases h0 : w = 0
  · simp only [if_pos h0]
    by_cases h3 : nI (k % 4) = nI 3
    · simp only [if_pos h3]
      exact ⟨_, _, _, _, _, _, _, rfl, rfl, Or.inr rfl, Or.inl rfl⟩
    · simp only [if_neg h3]
      have hw0 : w = nI 0 := h0
      exact ⟨_, nI k, w, _, _, _, _, rfl, by rw [hw0], hw, Or.inr rfl⟩
  · simp only [if_neg h0]
    exact ⟨_, hh, nI 0, _, _, _, _, rfl, by rw [or_sym], Or.inl rfl, Or.inr rfl⟩
theorem nb {w : Int32} (h : w = nI 0 ∨ w = nI 1) : narrow .boolean (.int w) = .int w := by
  rcases h with rfl | rfl
  · decide +kernel
  · decide +kernel
