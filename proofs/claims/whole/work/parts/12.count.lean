/-! counting: the places below n where P holds; the same by kinds -/
def cnt (P : Nat → Bool) : Nat → Nat
  | 0 => 0
  | n + 1 => cnt P n + (bif P n then 1 else 0)
def ksum (F : Nat → Nat) : Nat → Nat
  | 0 => 0
  | n + 1 => ksum F n + F n
theorem cnt_congr {P Q : Nat → Bool} : ∀ {n : Nat}, (∀ i, i < n → P i = Q i) → cnt P n = cnt Q n
  | 0, _ => rfl
  | n + 1, h => by
    show cnt P n + _ = cnt Q n + _
    rw [cnt_congr (fun i hi => h i (by omega)), h n (by omega)]
theorem cnt_none {P : Nat → Bool} : ∀ {n : Nat}, (∀ i, i < n → P i = false) → cnt P n = 0
  | 0, _ => rfl
  | n + 1, h => by
    show cnt P n + _ = 0
    rw [cnt_none (fun i hi => h i (by omega)), h n (by omega)]
    rfl
theorem cnt_one {P : Nat → Bool} : ∀ {n j : Nat}, j < n → P j = true → (∀ i, i < n → P i = true → i = j) → cnt P n = 1
  | 0, j, hj, _, _ => by omega
  | n + 1, j, hj, hP, hu => by
    show cnt P n + _ = 1
    rcases Nat.lt_or_ge j n with h | h
    · rw [cnt_one h hP (fun i hi => hu i (by omega))]
      have hn : P n = false := by
        cases e : P n with
        | false => rfl
        | true => have := hu n (by omega) e; omega
      rw [hn]
      rfl
    · have e : j = n := by omega
      subst e
      rw [cnt_none (fun i hi => by
        cases e : P i with
        | false => rfl
        | true => have := hu i (by omega) e; omega), hP]
      rfl
theorem ksum_add (F G : Nat → Nat) : ∀ m, ksum (fun k => F k + G k) m = ksum F m + ksum G m
  | 0 => rfl
  | m + 1 => by
    show ksum (fun k => F k + G k) m + (F m + G m) = (ksum F m + F m) + (ksum G m + G m)
    rw [ksum_add F G m]
    omega
theorem ksum_congr {F G : Nat → Nat} : ∀ {m : Nat}, (∀ k, k < m → F k = G k) → ksum F m = ksum G m
  | 0, _ => rfl
  | m + 1, h => by
    show ksum F m + F m = ksum G m + G m
    rw [ksum_congr (fun k hk => h k (by omega)), h m (by omega)]
theorem ksum_zero : ∀ m, ksum (fun _ => 0) m = 0
  | 0 => rfl
  | m + 1 => by
    show ksum (fun _ => 0) m + 0 = 0
    rw [ksum_zero m]
theorem ksum_hit {b : Bool} {j : Nat} : ∀ {m : Nat}, ksum (fun k => bif b && (j == k) then 1 else 0) m = bif b && decide (j < m) then 1 else 0
  | 0 => by
    cases b <;> rfl
  | m + 1 => by
    show ksum _ m + _ = _
    rw [ksum_hit (m := m)]
    cases b with
    | false => rfl
    | true =>
      simp only [Bool.true_and]
      rcases Nat.lt_trichotomy j m with h | h | h
      · have h1 : (j == m) = false := by simp; omega
        have h2 : decide (j < m + 1) = true := by simp; omega
        have h3 : decide (j < m) = true := by simp; omega
        rw [h1, h2, h3]; rfl
      · have h1 : (j == m) = true := by simp; omega
        have h2 : decide (j < m + 1) = true := by simp; omega
        have h3 : decide (j < m) = false := by simp; omega
        rw [h1, h2, h3]; rfl
      · have h1 : (j == m) = false := by simp; omega
        have h2 : decide (j < m + 1) = false := by simp; omega
        have h3 : decide (j < m) = false := by simp; omega
        rw [h1, h2, h3]; rfl
theorem cnt_split {P : Nat → Bool} {κ : Nat → Nat} {m : Nat} : ∀ {n : Nat}, (∀ i, i < n → κ i < m) → cnt P n = ksum (fun k => cnt (fun i => P i && (κ i == k)) n) m
  | 0, _ => (ksum_zero m).symm
  | n + 1, h => by
    show cnt P n + _ = ksum (fun k => cnt (fun i => P i && (κ i == k)) n + (bif P n && (κ n == k) then 1 else 0)) m
    rw [ksum_add, ← cnt_split (fun i hi => h i (by omega)), ksum_hit]
    have e : decide (κ n < m) = true := by simp; exact h n (by omega)
    rw [e, Bool.and_true]
/-! the least place: what it is, that there is only one -/
def lst (P : Nat → Prop) (N : Nat) (r : Nat) : Prop := (r < N ∧ P r ∧ ∀ i, i < r → ¬ P i) ∨ (r = 4294967295 ∧ ∀ i, i < N → ¬ P i)
theorem lst_one {P : Nat → Prop} {N r q : Nat} (hr : lst P N r) (hq : lst P N q) : r = q := by
  rcases hr with ⟨a1, a2, a3⟩ | ⟨a1, a2⟩
  · rcases hq with ⟨b1, b2, b3⟩ | ⟨b1, b2⟩
    · rcases Nat.lt_trichotomy r q with h | h | h
      · exact absurd a2 (b3 r h)
      · exact h
      · exact absurd b2 (a3 q h)
    · exact absurd a2 (b2 r a1)
  · rcases hq with ⟨b1, b2, b3⟩ | ⟨b1, b2⟩
    · exact absurd b2 (a2 q b1)
    · rw [a1, b1]
