/-! ints by naturals: nI carries sums, masks, shifts and comparisons over, without a premise -/
def i_ushr (x y : Int32) : Int32 := (x.toUInt32 >>> (y.toUInt32 &&& Int32.toUInt32 31)).toInt32
def n_add (a b : Nat) : Nat := Nat.add a b
def n_sub (a b : Nat) : Nat := Nat.sub (Nat.add a 4294967296) (Nat.mod b 4294967296)
def n_mul (a b : Nat) : Nat := Nat.mul a b
def n_and (a b : Nat) : Nat := Nat.land a b
def n_or (a b : Nat) : Nat := Nat.lor a b
def n_xor (a b : Nat) : Nat := Nat.xor a b
def n_shl (a k : Nat) : Nat := Nat.mul a (Nat.pow 2 (Nat.mod k 32))
def n_ushr (a k : Nat) : Nat := Nat.div (Nat.mod a 4294967296) (Nat.pow 2 (Nat.mod k 32))
def n_sshr (a k : Nat) : Nat := Nat.sub (Nat.add (Nat.div (Nat.mod (Nat.add a 2147483648) 4294967296) (Nat.pow 2 (Nat.mod k 32))) 4294967296) (Nat.pow 2 (Nat.sub 31 (Nat.mod k 32)))
def n_eqb (a b : Nat) : Bool := Nat.beq (Nat.mod a 4294967296) (Nat.mod b 4294967296)
def n_ltb (a b : Nat) : Bool := Nat.ble (Nat.succ (Nat.mod (Nat.add a 2147483648) 4294967296)) (Nat.mod (Nat.add b 2147483648) 4294967296)
def n_leb (a b : Nat) : Bool := Nat.ble (Nat.mod (Nat.add a 2147483648) 4294967296) (Nat.mod (Nat.add b 2147483648) 4294967296)
theorem nI_tn (a : Nat) : (nI a).toBitVec.toNat = a % 4294967296 := by
  show (BitVec.ofNat 32 a).toNat = _
  rw [BitVec.toNat_ofNat]
theorem nI_ext {x y : Int32} (h : x.toBitVec.toNat = y.toBitVec.toNat) : x = y := Int32.toBitVec_inj.mp (BitVec.eq_of_toNat_eq h)
theorem nI_iff (a b : Nat) : nI a = nI b ↔ a % 4294967296 = b % 4294967296 := by
  constructor
  · intro h
    rw [← nI_tn, ← nI_tn, h]
  · intro h
    apply nI_ext
    rw [nI_tn, nI_tn, h]
theorem nI_mod (a : Nat) : nI (a % 4294967296) = nI a := (nI_iff _ _).mpr (by omega)
theorem nI_sur (x : Int32) : nI x.toBitVec.toNat = x := by
  apply nI_ext
  rw [nI_tn]
  exact Nat.mod_eq_of_lt x.toBitVec.isLt
theorem nI_ti (a : Nat) : (nI a).toInt = (((a + 2147483648) % 4294967296 : Nat) : Int) - 2147483648 := by
  show (BitVec.ofNat 32 a).toInt = _
  rw [BitVec.toInt_eq_toNat_cond, BitVec.toNat_ofNat]
  have h : a % 2 ^ 32 = a % 4294967296 := rfl
  rw [h]
  split <;> omega
theorem tt_add (a b : Nat) : nI a + nI b = nI (n_add a b) := nI_add a b
theorem tt_mul (a b : Nat) : nI a * nI b = nI (n_mul a b) := pk_mul a b
theorem tt_and (a b : Nat) : nI a &&& nI b = nI (n_and a b) := by
  apply Int32.toBitVec_inj.1
  show BitVec.ofNat 32 a &&& BitVec.ofNat 32 b = BitVec.ofNat 32 (a &&& b)
  apply BitVec.eq_of_getLsbD_eq
  intro i hi
  simp [hi]
theorem tt_or (a b : Nat) : nI a ||| nI b = nI (n_or a b) := by
  apply Int32.toBitVec_inj.1
  show BitVec.ofNat 32 a ||| BitVec.ofNat 32 b = BitVec.ofNat 32 (a ||| b)
  apply BitVec.eq_of_getLsbD_eq
  intro i hi
  simp [hi]
theorem tt_xor (a b : Nat) : nI a ^^^ nI b = nI (n_xor a b) := by
  apply Int32.toBitVec_inj.1
  show BitVec.ofNat 32 a ^^^ BitVec.ofNat 32 b = BitVec.ofNat 32 (a ^^^ b)
  apply BitVec.eq_of_getLsbD_eq
  intro i hi
  simp [hi]
theorem tt_sub (a b : Nat) : nI a - nI b = nI (n_sub a b) := by
  apply nI_ext
  rw [Int32.toBitVec_sub, BitVec.toNat_sub, nI_tn, nI_tn, nI_tn]
  show _ = (a + 4294967296 - b % 4294967296) % 4294967296
  omega
theorem tt_31 (k : Nat) : nI k &&& 31 = nI (k % 32) := by
  show nI k &&& nI 31 = _
  rw [tt_and]
  show nI (k &&& 31) = _
  rw [show (31 : Nat) = 2 ^ 5 - 1 from rfl, Nat.and_two_pow_sub_one_eq_mod]
theorem tt_sm : ∀ j, j < 32 → ((nI j).toBitVec.smod 32).toNat = j := by decide +kernel
theorem tt_um : ∀ j, j < 32 → ((nI j).toUInt32.toBitVec % 32).toNat = j := by decide +kernel
theorem tt_cnt (k : Nat) : ((nI k &&& 31).toBitVec.smod 32).toNat = k % 32 := by
  rw [tt_31]
  exact tt_sm _ (Nat.mod_lt _ (by decide))
theorem tt_shl (a k : Nat) : nI a <<< (nI k &&& 31) = nI (n_shl a k) := by
  apply nI_ext
  rw [pk_shl _ _ _ (tt_cnt k), nI_tn, nI_tn]
  show a % 4294967296 * 2 ^ (k % 32) % 4294967296 = a * 2 ^ (k % 32) % 4294967296
  rw [Nat.mul_mod, Nat.mod_mod, ← Nat.mul_mod]
theorem tt_ushr (a k : Nat) : i_ushr (nI a) (nI k) = nI (n_ushr a k) := by
  apply nI_ext
  have e : (nI k).toUInt32 &&& Int32.toUInt32 31 = (nI (k % 32)).toUInt32 := congrArg Int32.toUInt32 (tt_31 k)
  have hs : (((nI k).toUInt32 &&& Int32.toUInt32 31).toBitVec % 32).toNat = k % 32 := by
    rw [e]
    exact tt_um _ (Nat.mod_lt _ (by decide))
  unfold i_ushr
  rw [pk_ushr _ _ _ hs, nI_tn, nI_tn]
  show a % 4294967296 / 2 ^ (k % 32) = a % 4294967296 / 2 ^ (k % 32) % 4294967296
  have h : a % 4294967296 / 2 ^ (k % 32) ≤ a % 4294967296 := Nat.div_le_self _ _
  generalize a % 4294967296 / 2 ^ (k % 32) = z at h ⊢
  omega
theorem tt_sshr (a k : Nat) : nI a >>> (nI k &&& 31) = nI (n_sshr a k) := by
  apply Int32.toInt_inj.mp
  rw [pk_shr _ _ _ (tt_cnt k), nI_ti, nI_ti, Int.shiftRight_eq_div_pow]
  show ((((a + 2147483648) % 4294967296 : Nat) : Int) - 2147483648) / ((2 ^ (k % 32) : Nat) : Int) = ((((a + 2147483648) % 4294967296 / 2 ^ (k % 32) + 4294967296 - 2 ^ (31 - k % 32)) + 2147483648) % 4294967296 : Nat) - 2147483648
  have hk : k % 32 < 32 := Nat.mod_lt _ (by decide)
  generalize k % 32 = j at hk ⊢
  have hu : (a + 2147483648) % 4294967296 < 4294967296 := Nat.mod_lt _ (by decide)
  generalize (a + 2147483648) % 4294967296 = u at hu ⊢
  have hp : 2 ^ (31 - j) * 2 ^ j = 2147483648 := by
    rw [← Nat.pow_add, show 31 - j + j = 31 by omega]
  have hj : 0 < 2 ^ j := Nat.two_pow_pos j
  have hj2 : 0 < 2 ^ (31 - j) := Nat.two_pow_pos _
  have e1 : ((u : Int) - 2147483648) / ((2 ^ j : Nat) : Int) = (u / 2 ^ j : Nat) - (2 ^ (31 - j) : Nat) := by
    have : (u : Int) - 2147483648 = u + (-((2 ^ (31 - j) : Nat) : Int)) * ((2 ^ j : Nat) : Int) := by
      rw [Int.neg_mul, ← Int.natCast_mul, hp]
      omega
    rw [this, Int.add_mul_ediv_right _ _ (by omega)]
    rw [← Int.natCast_ediv]
    omega
  rw [e1]
  have h1 : u / 2 ^ j ≤ u := Nat.div_le_self _ _
  have h2 : 2 ^ (31 - j) ≤ 2147483648 := by rw [← hp]; exact Nat.le_mul_of_pos_right _ hj
  have h3 : u / 2 ^ j < 2 * 2 ^ (31 - j) := by
    rw [Nat.div_lt_iff_lt_mul hj, Nat.mul_assoc, hp]
    omega
  generalize u / 2 ^ j = q at h1 h3 ⊢
  generalize 2 ^ (31 - j) = r at h2 h3 ⊢
  omega
theorem n_eq_iff (a b : Nat) : nI a = nI b ↔ n_eqb a b = true := by
  rw [nI_iff]
  exact ⟨fun h => by unfold n_eqb; show Nat.beq (a % 4294967296) (b % 4294967296) = true; rw [h]; exact Nat.beq_refl _, fun h => Nat.eq_of_beq_eq_true h⟩
theorem n_lt_iff (a b : Nat) : nI a < nI b ↔ n_ltb a b = true := by
  rw [Int32.lt_iff_toInt_lt, nI_ti, nI_ti]
  have e : n_ltb a b = true ↔ (a + 2147483648) % 4294967296 < (b + 2147483648) % 4294967296 := ⟨fun h => Nat.le_of_ble_eq_true h, fun h => Nat.ble_eq_true_of_le h⟩
  rw [e]
  omega
theorem n_le_iff (a b : Nat) : nI a ≤ nI b ↔ n_leb a b = true := by
  rw [Int32.le_iff_toInt_le, nI_ti, nI_ti]
  have e : n_leb a b = true ↔ (a + 2147483648) % 4294967296 ≤ (b + 2147483648) % 4294967296 := ⟨fun h => Nat.le_of_ble_eq_true h, fun h => Nat.ble_eq_true_of_le h⟩
  rw [e]
  omega
theorem tt_if {P : Prop} {i : Decidable P} {b : Bool} (h : P ↔ b = true) (x y : Nat) : (if P then nI x else nI y) = nI (bif b then x else y) := by
  cases b with
  | true => rw [if_pos (h.mpr rfl)]; rfl
  | false => rw [if_neg (fun q => by cases h.mp q)]; rfl
theorem tt_eq (a b x y : Nat) {i : Decidable (nI a = nI b)} : (if nI a = nI b then nI x else nI y) = nI (bif n_eqb a b then x else y) := tt_if (n_eq_iff a b) x y
theorem tt_lt (a b x y : Nat) {i : Decidable (nI a < nI b)} : (if nI a < nI b then nI x else nI y) = nI (bif n_ltb a b then x else y) := tt_if (n_lt_iff a b) x y
theorem tt_le (a b x y : Nat) {i : Decidable (nI a ≤ nI b)} : (if nI a ≤ nI b then nI x else nI y) = nI (bif n_leb a b then x else y) := tt_if (n_le_iff a b) x y
theorem tt_eq0 (a x y : Nat) {i : Decidable (nI a = 0)} : (if nI a = 0 then nI x else nI y) = nI (bif n_eqb a 0 then x else y) := tt_if (n_eq_iff a 0) x y
theorem tt_lt0 (a x y : Nat) {i : Decidable (nI a < 0)} : (if nI a < 0 then nI x else nI y) = nI (bif n_ltb a 0 then x else y) := tt_if (n_lt_iff a 0) x y
theorem tt_0lt (a x y : Nat) {i : Decidable (0 < nI a)} : (if 0 < nI a then nI x else nI y) = nI (bif n_ltb 0 a then x else y) := tt_if (n_lt_iff 0 a) x y
theorem tt_le0 (a x y : Nat) {i : Decidable (nI a ≤ 0)} : (if nI a ≤ 0 then nI x else nI y) = nI (bif n_leb a 0 then x else y) := tt_if (n_le_iff a 0) x y
theorem tt_0le (a x y : Nat) {i : Decidable (0 ≤ nI a)} : (if 0 ≤ nI a then nI x else nI y) = nI (bif n_leb 0 a then x else y) := tt_if (n_le_iff 0 a) x y
/-- a call whose answer is told by a term -/
theorem callE {p : Program} {l : Launch} {e : Env} {R : Room} {s : State} {m : MethodId} {args : Array Value} {below : List Frame} {meth : Method} {c : Code} {H : Heap} {locs : List Loc} {cells slots : Nat} {Q : State → Prop} {pc : Nat} {ls : Array Slot} {rest st0 : List Value} {X : Int32} {a : Array Value}
    (hr : CallRun p l e R s m args below meth c H locs cells slots 0 0 (F0 m pc ls st0) rest (vp_Si (fun r => r = X) a) (fun _ => False))
    (kk : W p l e R s m args below meth c H locs cells slots Q (F0 m (pc + 3) ls (.int X :: rest))) : W p l e R s m args below meth c H locs cells slots Q (F0 m pc ls st0) :=
  vp_callSi hr (fun r h => by have h' : r = X := h; rw [h']; exact kk)
