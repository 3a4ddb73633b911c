/-! the reference's word of a half, and that the class has the same; what the reference leaves out when it searches is never a find -/
def f_M_wordOf (a : Int32) : Int32 := if a &&& nI 3 = nI 0 then f_M_quadrant0 a else if a &&& nI 3 = nI 1 then f_M_quadrant1 a else if a &&& nI 3 = nI 2 then f_M_quadrant2 a else nI 0
def n_M_wordOf (a : Nat) : Nat := bif n_eqb (n_and a 3) 0 then n_M_quadrant0 a else bif n_eqb (n_and a 3) 1 then n_M_quadrant1 a else bif n_eqb (n_and a 3) 2 then n_M_quadrant2 a else 0
theorem t_M_wordOf (a : Nat) : f_M_wordOf (nI a) = nI (n_M_wordOf a) := by
  simp only [f_M_wordOf, n_M_wordOf, t_M_quadrant0, t_M_quadrant1, t_M_quadrant2, tt_and, tt_eq]
/-- the group and the place within it -/
def gp (h : Nat) : Nat := Nat.add (Nat.mul (Nat.mod h 4) 8) (Nat.div h 8192)
def gq (h : Nat) : Nat := Nat.mod (Nat.div h 4) 2048
def chM (h : Nat) : Bool := and (n_eqb (n_wordFor h) (n_M_wordOf h)) (or (n_eqb (n_wordFor h) 0) (and (n_eqb (n_and (n_sshr (n_M_groups (n_and (n_wordFor h) 127)) (gp h)) 1) 1) (n_eqb (n_M_couldBe (gp h) (gq h) (n_wordFor h)) 1)))
theorem chM_0 : rng chM 0 1024 = true := by decide +kernel
theorem chM_1 : rng chM 1024 1024 = true := by decide +kernel
theorem chM_2 : rng chM 2048 1024 = true := by decide +kernel
theorem chM_3 : rng chM 3072 1024 = true := by decide +kernel
theorem chM_4 : rng chM 4096 1024 = true := by decide +kernel
theorem chM_5 : rng chM 5120 1024 = true := by decide +kernel
theorem chM_6 : rng chM 6144 1024 = true := by decide +kernel
theorem chM_7 : rng chM 7168 1024 = true := by decide +kernel
theorem chM_8 : rng chM 8192 1024 = true := by decide +kernel
theorem chM_9 : rng chM 9216 1024 = true := by decide +kernel
theorem chM_10 : rng chM 10240 1024 = true := by decide +kernel
theorem chM_11 : rng chM 11264 1024 = true := by decide +kernel
theorem chM_12 : rng chM 12288 1024 = true := by decide +kernel
theorem chM_13 : rng chM 13312 1024 = true := by decide +kernel
theorem chM_14 : rng chM 14336 1024 = true := by decide +kernel
theorem chM_15 : rng chM 15360 1024 = true := by decide +kernel
theorem chM_16 : rng chM 16384 1024 = true := by decide +kernel
theorem chM_17 : rng chM 17408 1024 = true := by decide +kernel
theorem chM_18 : rng chM 18432 1024 = true := by decide +kernel
theorem chM_19 : rng chM 19456 1024 = true := by decide +kernel
theorem chM_20 : rng chM 20480 1024 = true := by decide +kernel
theorem chM_21 : rng chM 21504 1024 = true := by decide +kernel
theorem chM_22 : rng chM 22528 1024 = true := by decide +kernel
theorem chM_23 : rng chM 23552 1024 = true := by decide +kernel
theorem chM_24 : rng chM 24576 1024 = true := by decide +kernel
theorem chM_25 : rng chM 25600 1024 = true := by decide +kernel
theorem chM_26 : rng chM 26624 1024 = true := by decide +kernel
theorem chM_27 : rng chM 27648 1024 = true := by decide +kernel
theorem chM_28 : rng chM 28672 1024 = true := by decide +kernel
theorem chM_29 : rng chM 29696 1024 = true := by decide +kernel
theorem chM_30 : rng chM 30720 1024 = true := by decide +kernel
theorem chM_31 : rng chM 31744 1024 = true := by decide +kernel
theorem chM_32 : rng chM 32768 1024 = true := by decide +kernel
theorem chM_33 : rng chM 33792 1024 = true := by decide +kernel
theorem chM_34 : rng chM 34816 1024 = true := by decide +kernel
theorem chM_35 : rng chM 35840 1024 = true := by decide +kernel
theorem chM_36 : rng chM 36864 1024 = true := by decide +kernel
theorem chM_37 : rng chM 37888 1024 = true := by decide +kernel
theorem chM_38 : rng chM 38912 1024 = true := by decide +kernel
theorem chM_39 : rng chM 39936 1024 = true := by decide +kernel
theorem chM_40 : rng chM 40960 1024 = true := by decide +kernel
theorem chM_41 : rng chM 41984 1024 = true := by decide +kernel
theorem chM_42 : rng chM 43008 1024 = true := by decide +kernel
theorem chM_43 : rng chM 44032 1024 = true := by decide +kernel
theorem chM_44 : rng chM 45056 1024 = true := by decide +kernel
theorem chM_45 : rng chM 46080 1024 = true := by decide +kernel
theorem chM_46 : rng chM 47104 1024 = true := by decide +kernel
theorem chM_47 : rng chM 48128 1024 = true := by decide +kernel
theorem chM_48 : rng chM 49152 1024 = true := by decide +kernel
theorem chM_49 : rng chM 50176 1024 = true := by decide +kernel
theorem chM_50 : rng chM 51200 1024 = true := by decide +kernel
theorem chM_51 : rng chM 52224 1024 = true := by decide +kernel
theorem chM_52 : rng chM 53248 1024 = true := by decide +kernel
theorem chM_53 : rng chM 54272 1024 = true := by decide +kernel
theorem chM_54 : rng chM 55296 1024 = true := by decide +kernel
theorem chM_55 : rng chM 56320 1024 = true := by decide +kernel
theorem chM_56 : rng chM 57344 1024 = true := by decide +kernel
theorem chM_57 : rng chM 58368 1024 = true := by decide +kernel
theorem chM_58 : rng chM 59392 1024 = true := by decide +kernel
theorem chM_59 : rng chM 60416 1024 = true := by decide +kernel
theorem chM_60 : rng chM 61440 1024 = true := by decide +kernel
theorem chM_61 : rng chM 62464 1024 = true := by decide +kernel
theorem chM_62 : rng chM 63488 1024 = true := by decide +kernel
theorem chM_63 : rng chM 64512 1024 = true := by decide +kernel
theorem chM_all (h : Nat) (hh : h < 65536) : chM h = true := by
  have key : ∀ j, j < 64 → ∀ i, i < 1024 → chM (1024 * j + i) = true := by
    intro j hj i hi
    match j, hj with
    | 0, _ => exact rng_at chM_0 i hi
    | 1, _ => exact rng_at chM_1 i hi
    | 2, _ => exact rng_at chM_2 i hi
    | 3, _ => exact rng_at chM_3 i hi
    | 4, _ => exact rng_at chM_4 i hi
    | 5, _ => exact rng_at chM_5 i hi
    | 6, _ => exact rng_at chM_6 i hi
    | 7, _ => exact rng_at chM_7 i hi
    | 8, _ => exact rng_at chM_8 i hi
    | 9, _ => exact rng_at chM_9 i hi
    | 10, _ => exact rng_at chM_10 i hi
    | 11, _ => exact rng_at chM_11 i hi
    | 12, _ => exact rng_at chM_12 i hi
    | 13, _ => exact rng_at chM_13 i hi
    | 14, _ => exact rng_at chM_14 i hi
    | 15, _ => exact rng_at chM_15 i hi
    | 16, _ => exact rng_at chM_16 i hi
    | 17, _ => exact rng_at chM_17 i hi
    | 18, _ => exact rng_at chM_18 i hi
    | 19, _ => exact rng_at chM_19 i hi
    | 20, _ => exact rng_at chM_20 i hi
    | 21, _ => exact rng_at chM_21 i hi
    | 22, _ => exact rng_at chM_22 i hi
    | 23, _ => exact rng_at chM_23 i hi
    | 24, _ => exact rng_at chM_24 i hi
    | 25, _ => exact rng_at chM_25 i hi
    | 26, _ => exact rng_at chM_26 i hi
    | 27, _ => exact rng_at chM_27 i hi
    | 28, _ => exact rng_at chM_28 i hi
    | 29, _ => exact rng_at chM_29 i hi
    | 30, _ => exact rng_at chM_30 i hi
    | 31, _ => exact rng_at chM_31 i hi
    | 32, _ => exact rng_at chM_32 i hi
    | 33, _ => exact rng_at chM_33 i hi
    | 34, _ => exact rng_at chM_34 i hi
    | 35, _ => exact rng_at chM_35 i hi
    | 36, _ => exact rng_at chM_36 i hi
    | 37, _ => exact rng_at chM_37 i hi
    | 38, _ => exact rng_at chM_38 i hi
    | 39, _ => exact rng_at chM_39 i hi
    | 40, _ => exact rng_at chM_40 i hi
    | 41, _ => exact rng_at chM_41 i hi
    | 42, _ => exact rng_at chM_42 i hi
    | 43, _ => exact rng_at chM_43 i hi
    | 44, _ => exact rng_at chM_44 i hi
    | 45, _ => exact rng_at chM_45 i hi
    | 46, _ => exact rng_at chM_46 i hi
    | 47, _ => exact rng_at chM_47 i hi
    | 48, _ => exact rng_at chM_48 i hi
    | 49, _ => exact rng_at chM_49 i hi
    | 50, _ => exact rng_at chM_50 i hi
    | 51, _ => exact rng_at chM_51 i hi
    | 52, _ => exact rng_at chM_52 i hi
    | 53, _ => exact rng_at chM_53 i hi
    | 54, _ => exact rng_at chM_54 i hi
    | 55, _ => exact rng_at chM_55 i hi
    | 56, _ => exact rng_at chM_56 i hi
    | 57, _ => exact rng_at chM_57 i hi
    | 58, _ => exact rng_at chM_58 i hi
    | 59, _ => exact rng_at chM_59 i hi
    | 60, _ => exact rng_at chM_60 i hi
    | 61, _ => exact rng_at chM_61 i hi
    | 62, _ => exact rng_at chM_62 i hi
    | 63, _ => exact rng_at chM_63 i hi
    | j + 64, hj => omega
  have := key (h / 1024) (by omega) (h % 1024) (by omega)
  rw [show 1024 * (h / 1024) + h % 1024 = h by omega] at this
  exact this
theorem word_same {h : Nat} (hh : h < 65536) : f_M_wordOf (nI h) = f_wordFor (nI h) := by
  have hc := chM_all h hh
  unfold chM at hc
  rw [Bool.and_eq_true, ← n_eq_iff] at hc
  rw [t_M_wordOf, t_wordFor]
  exact hc.1.symm
theorem found_ok {h : Nat} (hh : h < 65536) {w : Int32} (hw : f_wordFor (nI h) = w) (h0 : w ≠ 0) : ((f_M_groups (w &&& nI 127)) >>> (nI (gp h) &&& 31)) &&& nI 1 = nI 1 ∧ f_M_couldBe (nI (gp h)) (nI (gq h)) w = nI 1 := by
  have hc := chM_all h hh
  unfold chM at hc
  rw [Bool.and_eq_true, Bool.or_eq_true, Bool.and_eq_true, ← n_eq_iff, ← n_eq_iff, ← n_eq_iff, ← n_eq_iff, ← tt_and, ← tt_sshr, ← t_M_groups, ← tt_and, ← t_M_couldBe, ← t_wordFor, hw] at hc
  rcases hc.2 with h1 | h1
  · exact absurd h1 h0
  · exact h1
