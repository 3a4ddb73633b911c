/-! shorten and halves of the class: the least half, and how many -/
def f_shortN (w : Int32) : Nat → Int32
  | 0 => nI 4294967295
  | k + 1 => if f_halfOfKind (nI k) w = nI 4294967295 then f_shortN w k else if f_shortN w k = nI 4294967295 then f_halfOfKind (nI k) w else if f_shortN w k ≤ f_halfOfKind (nI k) w then f_shortN w k else f_halfOfKind (nI k) w
theorem f_shortN_s (w : Int32) (k : Nat) : f_shortN w (k + 1) = if f_halfOfKind (nI k) w = nI 4294967295 then f_shortN w k else if f_shortN w k = nI 4294967295 then f_halfOfKind (nI k) w else if f_shortN w k ≤ f_halfOfKind (nI k) w then f_shortN w k else f_halfOfKind (nI k) w := rfl
def f_halvesN (w : Int32) : Nat → Int32
  | 0 => nI 0
  | k + 1 => if f_halfOfKind (nI k) w = nI 4294967295 then f_halvesN w k else f_halvesN w k + nI 1
theorem f_halvesN_s (w : Int32) (k : Nat) : f_halvesN w (k + 1) = if f_halfOfKind (nI k) w = nI 4294967295 then f_halvesN w k else f_halvesN w k + nI 1 := rfl
def f_cand (a0 a1 : Int32) : Int32 := ((((a0 >>> ((nI 2) &&& 31)) <<< ((nI 12) &&& 31)) ||| ((f_guessOpenBits (a0 &&& (nI 3)) ((a0 >>> ((nI 2) &&& 31)) >>> ((nI 1) &&& 31)) a1) &&& (nI 4092))) ||| (a0 &&& (nI 3)))
def n_cand (a0 a1 : Nat) : Nat := (n_or (n_or (n_shl (n_sshr a0 2) 12) (n_and (n_guessOpenBits (n_and a0 3) (n_sshr (n_sshr a0 2) 1) a1) 4092)) (n_and a0 3))
theorem t_cand (a0 a1 : Nat) : f_cand (nI a0) (nI a1) = nI (n_cand a0 a1) := by
  simp only [f_cand, n_cand, t_guessOpenBits, tt_and, tt_or, tt_shl, tt_sshr]
theorem cand_eq (a0 a1 : Int32) : f_halfOfKind a0 a1 = if a1 = 0 then nI 4294967295 else if f_wordFor (f_cand a0 a1) = a1 then f_cand a0 a1 else nI 4294967295 := rfl
def kd (h : Nat) : Nat := Nat.add (Nat.mul (Nat.div h 4096) 4) (Nat.mod h 4)
theorem n_shl_eq (a k : Nat) : n_shl a k = a * 2 ^ (k % 32) := rfl
theorem n_sshr_eq (a k : Nat) : n_sshr a k = (a + 2147483648) % 4294967296 / 2 ^ (k % 32) + 4294967296 - 2 ^ (31 - k % 32) := rfl
theorem cand_nat (k g : Nat) (hk : k < 64) : n_or (n_or (n_shl (n_sshr k 2) 12) (n_and g 4092)) (n_and k 3) % 4294967296 = 4096 * (k / 4) + (g &&& 4092) + k % 4 ∧ (g &&& 4092) < 4096 ∧ (g &&& 4092) % 4 = 0 := by
  have h1 : n_shl (n_sshr k 2) 12 = 2 ^ 12 * (k / 4 + 4294967296) := by
    rw [n_shl_eq, n_sshr_eq]
    simp only [Nat.reduceMod, Nat.reduceSub, Nat.reducePow]
    omega
  have hg : (g &&& 4092) ≤ 4092 := Nat.and_le_right
  have hg4 : (g &&& 4092) % 4 = 0 := by
    have := Nat.and_mod_two_pow (a := g) (b := 4092) (n := 2)
    have e : (4092 : Nat) % 2 ^ 2 = 0 := by decide
    rw [e, Nat.and_zero] at this
    exact this
  have hlt : (g &&& 4092) < 2 ^ 12 := by
    rw [show (2 : Nat) ^ 12 = 4096 from by decide]
    omega
  have h2 : n_or (2 ^ 12 * (k / 4 + 4294967296)) (g &&& 4092) = 2 ^ 12 * (k / 4 + 4294967296) + (g &&& 4092) := (Nat.two_pow_add_eq_or_of_lt (i := 12) hlt _).symm
  have h3 : n_and k 3 = k % 4 := Nat.and_two_pow_sub_one_eq_mod k 2
  have h4 : 2 ^ 12 * (k / 4 + 4294967296) + (g &&& 4092) = 2 ^ 2 * (1024 * (k / 4 + 4294967296) + (g &&& 4092) / 4) := by
    have e4 : (2 : Nat) ^ 12 = 4096 := by decide
    have e5 : (2 : Nat) ^ 2 = 4 := by decide
    rw [e4, e5]
    omega
  have h5 : n_or (2 ^ 2 * (1024 * (k / 4 + 4294967296) + (g &&& 4092) / 4)) (k % 4) = 2 ^ 2 * (1024 * (k / 4 + 4294967296) + (g &&& 4092) / 4) + k % 4 := (Nat.two_pow_add_eq_or_of_lt (i := 2) (show k % 4 < 2 ^ 2 from Nat.mod_lt _ (by decide)) _).symm
  refine ⟨?_, by omega, hg4⟩
  rw [h1, h3]
  show n_or (n_or (2 ^ 12 * (k / 4 + 4294967296)) (g &&& 4092)) (k % 4) % 4294967296 = _
  rw [h2, h4, h5]
  have e5 : (2 : Nat) ^ 2 = 4 := by decide
  rw [e5]
  omega
theorem cand_ok (k : Nat) (hk : k < 64) (w : Int32) : ∃ h, h < 65536 ∧ f_cand (nI k) w = nI h ∧ kd h = k := by
  rw [← nI_sur w]
  generalize w.toBitVec.toNat = n
  rw [t_cand]
  obtain ⟨h1, h2, h3⟩ := cand_nat k (n_guessOpenBits (n_and k 3) (n_sshr (n_sshr k 2) 1) n) hk
  refine ⟨n_cand k n % 4294967296, ?_, (nI_mod _).symm, ?_⟩
  · unfold n_cand
    rw [h1]
    omega
  · unfold n_cand
    rw [h1]
    show (_ / 4096) * 4 + _ % 4 = k
    omega
theorem none_ne {h : Nat} (hh : h < 65536) : ¬ nI h = nI 4294967295 := by
  rw [nI_iff]
  omega
theorem gA (k : Nat) (hk : k < 64) (w : Int32) : f_halfOfKind (nI k) w = nI 4294967295 ∨ ∃ h, h < 65536 ∧ f_halfOfKind (nI k) w = nI h ∧ (f_wordFor (nI h) = w ∧ w ≠ 0) ∧ kd h = k := by
  rw [cand_eq]
  by_cases h0 : w = 0
  · exact Or.inl (if_pos h0)
  · rw [if_neg h0]
    obtain ⟨h, hh, he, hkd⟩ := cand_ok k hk w
    rw [he]
    by_cases h1 : f_wordFor (nI h) = w
    · exact Or.inr ⟨h, hh, if_pos h1, ⟨h1, h0⟩, hkd⟩
    · exact Or.inl (if_neg h1)
theorem kd_lt {h : Nat} (hh : h < 65536) : kd h < 64 := by
  show h / 4096 * 4 + h % 4 < 64
  omega
/-- all halves, by the kernel: a half that stands for a word is what the guess of its kind finds -/
def chB (h : Nat) : Bool := or (n_eqb (n_wordFor h) 0) (n_eqb (n_cand (kd h) (n_wordFor h)) h)
noncomputable def rng (f : Nat → Bool) (lo n : Nat) : Bool := Nat.rec true (fun i ih => and (f (Nat.add lo i)) ih) n
theorem rng_at {f : Nat → Bool} {lo : Nat} : ∀ {n : Nat}, rng f lo n = true → ∀ i, i < n → f (lo + i) = true
  | 0, _, i, hi => absurd hi (Nat.not_lt_zero i)
  | n + 1, h, i, hi => by
    have h' : (f (lo + n) && rng f lo n) = true := h
    rw [Bool.and_eq_true] at h'
    rcases Nat.lt_or_ge i n with q | q
    · exact rng_at h'.2 i q
    · have e : i = n := by omega
      rw [e]
      exact h'.1
theorem chB_0 : rng chB 0 1024 = true := by decide +kernel
theorem chB_1 : rng chB 1024 1024 = true := by decide +kernel
theorem chB_2 : rng chB 2048 1024 = true := by decide +kernel
theorem chB_3 : rng chB 3072 1024 = true := by decide +kernel
theorem chB_4 : rng chB 4096 1024 = true := by decide +kernel
theorem chB_5 : rng chB 5120 1024 = true := by decide +kernel
theorem chB_6 : rng chB 6144 1024 = true := by decide +kernel
theorem chB_7 : rng chB 7168 1024 = true := by decide +kernel
theorem chB_8 : rng chB 8192 1024 = true := by decide +kernel
theorem chB_9 : rng chB 9216 1024 = true := by decide +kernel
theorem chB_10 : rng chB 10240 1024 = true := by decide +kernel
theorem chB_11 : rng chB 11264 1024 = true := by decide +kernel
theorem chB_12 : rng chB 12288 1024 = true := by decide +kernel
theorem chB_13 : rng chB 13312 1024 = true := by decide +kernel
theorem chB_14 : rng chB 14336 1024 = true := by decide +kernel
theorem chB_15 : rng chB 15360 1024 = true := by decide +kernel
theorem chB_16 : rng chB 16384 1024 = true := by decide +kernel
theorem chB_17 : rng chB 17408 1024 = true := by decide +kernel
theorem chB_18 : rng chB 18432 1024 = true := by decide +kernel
theorem chB_19 : rng chB 19456 1024 = true := by decide +kernel
theorem chB_20 : rng chB 20480 1024 = true := by decide +kernel
theorem chB_21 : rng chB 21504 1024 = true := by decide +kernel
theorem chB_22 : rng chB 22528 1024 = true := by decide +kernel
theorem chB_23 : rng chB 23552 1024 = true := by decide +kernel
theorem chB_24 : rng chB 24576 1024 = true := by decide +kernel
theorem chB_25 : rng chB 25600 1024 = true := by decide +kernel
theorem chB_26 : rng chB 26624 1024 = true := by decide +kernel
theorem chB_27 : rng chB 27648 1024 = true := by decide +kernel
theorem chB_28 : rng chB 28672 1024 = true := by decide +kernel
theorem chB_29 : rng chB 29696 1024 = true := by decide +kernel
theorem chB_30 : rng chB 30720 1024 = true := by decide +kernel
theorem chB_31 : rng chB 31744 1024 = true := by decide +kernel
theorem chB_32 : rng chB 32768 1024 = true := by decide +kernel
theorem chB_33 : rng chB 33792 1024 = true := by decide +kernel
theorem chB_34 : rng chB 34816 1024 = true := by decide +kernel
theorem chB_35 : rng chB 35840 1024 = true := by decide +kernel
theorem chB_36 : rng chB 36864 1024 = true := by decide +kernel
theorem chB_37 : rng chB 37888 1024 = true := by decide +kernel
theorem chB_38 : rng chB 38912 1024 = true := by decide +kernel
theorem chB_39 : rng chB 39936 1024 = true := by decide +kernel
theorem chB_40 : rng chB 40960 1024 = true := by decide +kernel
theorem chB_41 : rng chB 41984 1024 = true := by decide +kernel
theorem chB_42 : rng chB 43008 1024 = true := by decide +kernel
theorem chB_43 : rng chB 44032 1024 = true := by decide +kernel
theorem chB_44 : rng chB 45056 1024 = true := by decide +kernel
theorem chB_45 : rng chB 46080 1024 = true := by decide +kernel
theorem chB_46 : rng chB 47104 1024 = true := by decide +kernel
theorem chB_47 : rng chB 48128 1024 = true := by decide +kernel
theorem chB_48 : rng chB 49152 1024 = true := by decide +kernel
theorem chB_49 : rng chB 50176 1024 = true := by decide +kernel
theorem chB_50 : rng chB 51200 1024 = true := by decide +kernel
theorem chB_51 : rng chB 52224 1024 = true := by decide +kernel
theorem chB_52 : rng chB 53248 1024 = true := by decide +kernel
theorem chB_53 : rng chB 54272 1024 = true := by decide +kernel
theorem chB_54 : rng chB 55296 1024 = true := by decide +kernel
theorem chB_55 : rng chB 56320 1024 = true := by decide +kernel
theorem chB_56 : rng chB 57344 1024 = true := by decide +kernel
theorem chB_57 : rng chB 58368 1024 = true := by decide +kernel
theorem chB_58 : rng chB 59392 1024 = true := by decide +kernel
theorem chB_59 : rng chB 60416 1024 = true := by decide +kernel
theorem chB_60 : rng chB 61440 1024 = true := by decide +kernel
theorem chB_61 : rng chB 62464 1024 = true := by decide +kernel
theorem chB_62 : rng chB 63488 1024 = true := by decide +kernel
theorem chB_63 : rng chB 64512 1024 = true := by decide +kernel
theorem chB_all (h : Nat) (hh : h < 65536) : chB h = true := by
  have key : ∀ j, j < 64 → ∀ i, i < 1024 → chB (1024 * j + i) = true := by
    intro j hj i hi
    match j, hj with
    | 0, _ => exact rng_at chB_0 i hi
    | 1, _ => exact rng_at chB_1 i hi
    | 2, _ => exact rng_at chB_2 i hi
    | 3, _ => exact rng_at chB_3 i hi
    | 4, _ => exact rng_at chB_4 i hi
    | 5, _ => exact rng_at chB_5 i hi
    | 6, _ => exact rng_at chB_6 i hi
    | 7, _ => exact rng_at chB_7 i hi
    | 8, _ => exact rng_at chB_8 i hi
    | 9, _ => exact rng_at chB_9 i hi
    | 10, _ => exact rng_at chB_10 i hi
    | 11, _ => exact rng_at chB_11 i hi
    | 12, _ => exact rng_at chB_12 i hi
    | 13, _ => exact rng_at chB_13 i hi
    | 14, _ => exact rng_at chB_14 i hi
    | 15, _ => exact rng_at chB_15 i hi
    | 16, _ => exact rng_at chB_16 i hi
    | 17, _ => exact rng_at chB_17 i hi
    | 18, _ => exact rng_at chB_18 i hi
    | 19, _ => exact rng_at chB_19 i hi
    | 20, _ => exact rng_at chB_20 i hi
    | 21, _ => exact rng_at chB_21 i hi
    | 22, _ => exact rng_at chB_22 i hi
    | 23, _ => exact rng_at chB_23 i hi
    | 24, _ => exact rng_at chB_24 i hi
    | 25, _ => exact rng_at chB_25 i hi
    | 26, _ => exact rng_at chB_26 i hi
    | 27, _ => exact rng_at chB_27 i hi
    | 28, _ => exact rng_at chB_28 i hi
    | 29, _ => exact rng_at chB_29 i hi
    | 30, _ => exact rng_at chB_30 i hi
    | 31, _ => exact rng_at chB_31 i hi
    | 32, _ => exact rng_at chB_32 i hi
    | 33, _ => exact rng_at chB_33 i hi
    | 34, _ => exact rng_at chB_34 i hi
    | 35, _ => exact rng_at chB_35 i hi
    | 36, _ => exact rng_at chB_36 i hi
    | 37, _ => exact rng_at chB_37 i hi
    | 38, _ => exact rng_at chB_38 i hi
    | 39, _ => exact rng_at chB_39 i hi
    | 40, _ => exact rng_at chB_40 i hi
    | 41, _ => exact rng_at chB_41 i hi
    | 42, _ => exact rng_at chB_42 i hi
    | 43, _ => exact rng_at chB_43 i hi
    | 44, _ => exact rng_at chB_44 i hi
    | 45, _ => exact rng_at chB_45 i hi
    | 46, _ => exact rng_at chB_46 i hi
    | 47, _ => exact rng_at chB_47 i hi
    | 48, _ => exact rng_at chB_48 i hi
    | 49, _ => exact rng_at chB_49 i hi
    | 50, _ => exact rng_at chB_50 i hi
    | 51, _ => exact rng_at chB_51 i hi
    | 52, _ => exact rng_at chB_52 i hi
    | 53, _ => exact rng_at chB_53 i hi
    | 54, _ => exact rng_at chB_54 i hi
    | 55, _ => exact rng_at chB_55 i hi
    | 56, _ => exact rng_at chB_56 i hi
    | 57, _ => exact rng_at chB_57 i hi
    | 58, _ => exact rng_at chB_58 i hi
    | 59, _ => exact rng_at chB_59 i hi
    | 60, _ => exact rng_at chB_60 i hi
    | 61, _ => exact rng_at chB_61 i hi
    | 62, _ => exact rng_at chB_62 i hi
    | 63, _ => exact rng_at chB_63 i hi
    | j + 64, hj => omega
  have := key (h / 1024) (by omega) (h % 1024) (by omega)
  rw [show 1024 * (h / 1024) + h % 1024 = h by omega] at this
  exact this
theorem gB {h : Nat} (hh : h < 65536) {w : Int32} (hw : f_wordFor (nI h) = w) (h0 : w ≠ 0) : f_halfOfKind (nI (kd h)) w = nI h := by
  have hc := chB_all h hh
  unfold chB at hc
  rw [Bool.or_eq_true, ← n_eq_iff, ← n_eq_iff, ← t_wordFor, hw, ← t_cand, ← t_wordFor, hw] at hc
  rcases hc with hc | hc
  · exact absurd hc h0
  · rw [cand_eq, if_neg h0, hc, if_pos hw]
theorem sh_inv (w : Int32) : ∀ k, k ≤ 64 → ∃ r, f_shortN w k = nI r ∧ ((r = 4294967295 ∧ ∀ j, j < k → f_halfOfKind (nI j) w = nI 4294967295) ∨ (r < 65536 ∧ (∃ j, j < k ∧ f_halfOfKind (nI j) w = nI r) ∧ ∀ j i, j < k → i < 65536 → f_halfOfKind (nI j) w = nI i → r ≤ i))
  | 0, _ => ⟨4294967295, rfl, Or.inl ⟨rfl, fun j hj => absurd hj (Nat.not_lt_zero j)⟩⟩
  | k + 1, hk => by
    obtain ⟨r, hr, hc⟩ := sh_inv w k (by omega)
    rcases gA k (by omega) w with hn | ⟨h, hh, he, -, -⟩
    · refine ⟨r, by rw [f_shortN_s, if_pos hn]; exact hr, ?_⟩
      rcases hc with ⟨a1, a2⟩ | ⟨a1, ⟨j, a2, a3⟩, a4⟩
      · refine Or.inl ⟨a1, fun j hj => ?_⟩
        rcases Nat.lt_or_ge j k with q | q
        · exact a2 j q
        · rw [show j = k by omega]; exact hn
      · refine Or.inr ⟨a1, ⟨j, by omega, a3⟩, fun j i hj hi hji => ?_⟩
        rcases Nat.lt_or_ge j k with q | q
        · exact a4 j i q hi hji
        · rw [show j = k by omega, hn] at hji
          exact absurd hji.symm (none_ne hi)
    · have hne : ¬ f_halfOfKind (nI k) w = nI 4294967295 := by rw [he]; exact none_ne hh
      rcases hc with ⟨a1, a2⟩ | ⟨a1, ⟨j, a2, a3⟩, a4⟩
      · refine ⟨h, by rw [f_shortN_s, if_neg hne, if_pos (by rw [hr, a1])]; exact he, Or.inr ⟨hh, ⟨k, by omega, he⟩, fun j i hj hi hji => ?_⟩⟩
        rcases Nat.lt_or_ge j k with q | q
        · rw [a2 j q] at hji
          exact absurd hji.symm (none_ne hi)
        · rw [show j = k by omega, he, nI_eq (by omega) (by omega)] at hji
          omega
      · have hne2 : ¬ f_shortN w k = nI 4294967295 := by rw [hr]; exact none_ne a1
        by_cases hle : r ≤ h
        · refine ⟨r, by rw [f_shortN_s, if_neg hne, if_neg hne2, if_pos (by rw [hr, he, nI_leI (by omega) (by omega)]; exact hle)]; exact hr, Or.inr ⟨a1, ⟨j, by omega, a3⟩, fun j i hj hi hji => ?_⟩⟩
          rcases Nat.lt_or_ge j k with q | q
          · exact a4 j i q hi hji
          · rw [show j = k by omega, he, nI_eq (by omega) (by omega)] at hji
            omega
        · refine ⟨h, by rw [f_shortN_s, if_neg hne, if_neg hne2, if_neg (by rw [hr, he, nI_leI (by omega) (by omega)]; exact hle)]; exact he, Or.inr ⟨hh, ⟨k, by omega, he⟩, fun j i hj hi hji => ?_⟩⟩
          rcases Nat.lt_or_ge j k with q | q
          · have := a4 j i q hi hji
            omega
          · rw [show j = k by omega, he, nI_eq (by omega) (by omega)] at hji
            omega
/-- what shorten answers: the least half that stands for the word -/
theorem sh_spec (w : Int32) : ∃ r, f_shortN w 64 = nI r ∧ lst (fun h => f_wordFor (nI h) = w ∧ w ≠ 0) 65536 r := by
  obtain ⟨r, hr, hc⟩ := sh_inv w 64 (Nat.le_refl _)
  refine ⟨r, hr, ?_⟩
  rcases hc with ⟨a1, a2⟩ | ⟨a1, ⟨j, a2, a3⟩, a4⟩
  · refine Or.inr ⟨a1, fun i hi hp => ?_⟩
    have h1 := gB hi hp.1 hp.2
    rw [a2 _ (kd_lt hi)] at h1
    exact none_ne hi h1.symm
  · refine Or.inl ⟨a1, ?_, fun i hi hp => ?_⟩
    · rcases gA j a2 w with hn | ⟨h, hh, he, hp, -⟩
      · rw [a3] at hn
        exact absurd hn (none_ne a1)
      · rw [a3, nI_eq (by omega) (by omega)] at he
        rw [he]
        exact hp
    · have h1 := gB (by omega) hp.1 hp.2
      have := a4 (kd i) i (kd_lt (by omega)) (by omega) h1
      omega
/-- what halves answers: how many halves stand for the word -/
theorem hv_spec (w : Int32) : f_halvesN w 64 = nI (cnt (fun h => decide (f_wordFor (nI h) = w ∧ w ≠ 0)) 65536) := by
  have h1 : ∀ k, f_halvesN w k = nI (ksum (fun j => if f_halfOfKind (nI j) w = nI 4294967295 then 0 else 1) k) := by
    intro k
    induction k with
    | zero => rfl
    | succ k ih =>
      rw [f_halvesN_s]
      show _ = nI (ksum _ k + (if f_halfOfKind (nI k) w = nI 4294967295 then 0 else 1))
      by_cases hn : f_halfOfKind (nI k) w = nI 4294967295
      · rw [if_pos hn, if_pos hn]; exact ih
      · rw [if_neg hn, if_neg hn, ih, nI_add]
  rw [h1, cnt_split (κ := kd) (m := 64) (fun i hi => kd_lt hi)]
  congr 1
  refine ksum_congr (fun k hk => ?_)
  rcases gA k hk w with hn | ⟨h, hh, he, hp, hkd⟩
  · rw [if_pos hn, cnt_none]
    intro i hi
    rw [Bool.and_eq_false_iff]
    by_cases hp : f_wordFor (nI i) = w ∧ w ≠ 0
    · right
      have h2 := gB hi hp.1 hp.2
      simp only [beq_eq_false_iff_ne]
      intro e
      rw [e, hn] at h2
      exact none_ne hi h2.symm
    · left
      exact decide_eq_false hp
  · rw [if_neg (by rw [he]; exact none_ne hh), cnt_one hh]
    · rw [Bool.and_eq_true, decide_eq_true_eq, beq_iff_eq]
      exact ⟨hp, hkd⟩
    · intro i hi hpi
      rw [Bool.and_eq_true, decide_eq_true_eq, beq_iff_eq] at hpi
      have h2 := gB hi hpi.1.1 hpi.1.2
      rw [hpi.2, he, nI_eq (by omega) (by omega)] at h2
      exact h2.symm
