def f_bits (a0 a1 a2 : Int32) : Int32 := ((i_ushr a0 a2) &&& (((nI 1) <<< (((a1 - a2) + (nI 1)) &&& 31)) - (nI 1)))
def n_bits (a0 a1 a2 : Nat) : Nat := (n_and (n_ushr a0 a2) (n_sub (n_shl 1 (n_add (n_sub a1 a2) 1)) 1))
theorem t_bits (a0 a1 a2 : Nat) : f_bits (nI a0) (nI a1) (nI a2) = nI (n_bits a0 a1 a2) := by
  simp only [f_bits, n_bits, tt_add, tt_sub, tt_mul, tt_and, tt_or, tt_xor, tt_shl, tt_sshr, tt_ushr, tt_eq, tt_eq0, tt_lt, tt_lt0, tt_0lt, tt_le, tt_le0, tt_0le]
def row0 : List Nat := [6, 10, 7, 4, 12, 11, 3, 5, 5, 2, 6, 6]
def row1 : List Nat := [6, 6, 5, 3, 12, 10]
def row2 : List Nat := [6, 5, 5, 3, 12, 10, 2, 6, 6]
def row3 : List Nat := [9, 12, 12, 7, 4, 3, 6, 5, 5, 5, 2, 2, 4, 6, 6]
def row4 : List Nat := [11, 12, 12, 10, 8, 8, 8, 10, 9, 7, 6, 6, 6, 7, 7, 5, 2, 2, 4, 11, 11, 1, 5, 3]
def row5 : List Nat := [8, 12, 12, 6, 6, 5, 5, 2, 2, 3, 11, 10, 1, 4, 3]
def row6 : List Nat := [6, 4, 2, 5, 12, 12, 3, 6, 5]
def row7 : List Nat := [6, 3, 2, 5, 12, 12, 2, 6, 4]
def row8 : List Nat := [6, 9, 7, 3, 12, 10]
def row9 : List Nat := [6, 8, 7, 2, 12, 9]
def tabs : List (String × List Nat) := [("ADD_TO_STACK", row0), ("EIGHT_BYTES", row1), ("FOUR_BYTES", row2), ("MOVE_STACK", row3), ("JUMP", row4), ("BRANCH", row5), ("LOAD_EIGHT_FROM_STACK", row6), ("LOAD_FOUR_FROM_STACK", row7), ("STORE_EIGHT_TO_STACK", row8), ("STORE_FOUR_TO_STACK", row9)]
/-- the static tables as the class finds them: the static names the cell t k, the cell holds the row -/
def tbs (t : Nat → Nat) (U : State) (H : Heap) : Prop := ∀ (k : Nat) (q : String × List Nat), tabs[k]? = some q → va_Z "ShortForms" q.1 "[I" (.ref (t k)) (fun _ => False) U H ∧ va_T .int (t k) q.2.length (fun j => .int (nI (q.2.getD j 0))) (fun _ => False) U H
def tb (t : Nat → Nat) (U : State) : Prop := tbs t U U.heap
theorem tb_pre {s : State} {t : Nat → Nat} {As : List Value} (h : tb t s) : PreS s s.heap (va_Pc As (tb t)) As :=
  ⟨fun a U g mk q => ⟨q.1, fun k x hk => ⟨va_Z.moved (u := U) (U := U.calling g mk a) (Vm.Alike.refl U.vm) (q.2 k x hk).1, va_T.moved (u := U) (U := U.calling g mk a) (Vm.Alike.refl U.vm) (q.2 k x hk).2⟩⟩, fun U hU hW => ⟨rfl, fun k x hk => by rw [hU]; exact ⟨va_Z.moved hW.alike (h k x hk).1, va_T.moved hW.alike (h k x hk).2⟩⟩⟩
theorem drop1 (row : List Nat) (i : Nat) (h : i < row.length) : row.drop i = row.getD i 0 :: row.drop (i + 1) := by
  rw [List.drop_eq_getElem_cons h, List.getD_eq_getElem?_getD, List.getElem?_eq_getElem h]
  rfl
theorem drop3 (row : List Nat) (i : Nat) (h : i + 2 < row.length) : row.drop i = row.getD i 0 :: row.getD (i + 1) 0 :: row.getD (i + 2) 0 :: row.drop (i + 3) := by
  rw [drop1 row i (by omega), drop1 row (i + 1) (by omega), drop1 row (i + 2) (by omega)]
def f_gather : List Nat → Int32 → Int32 → Int32
  | p :: hi :: lo :: r, acc, h => f_gather r (acc ||| (f_bits h (nI hi) (nI lo) <<< (nI p &&& 31))) h
  | _, acc, _ => acc
def n_gather : List Nat → Nat → Nat → Nat
  | p :: hi :: lo :: r, acc, h => n_gather r (n_or acc (n_shl (n_bits h hi lo) p)) h
  | _, acc, _ => acc
theorem t_gatherA : ∀ (n : Nat) (r : List Nat) (acc h : Nat), r.length ≤ n → f_gather r (nI acc) (nI h) = nI (n_gather r acc h)
  | n, [], acc, h, _ => rfl
  | n, [_], acc, h, _ => rfl
  | n, [_, _], acc, h, _ => rfl
  | 0, p :: hi :: lo :: r, acc, h, hl => by simp at hl
  | n + 1, p :: hi :: lo :: r, acc, h, hl => by
    show f_gather r (nI acc ||| (f_bits (nI h) (nI hi) (nI lo) <<< (nI p &&& 31))) (nI h) = nI (n_gather r (n_or acc (n_shl (n_bits h hi lo) p)) h)
    rw [t_bits, tt_shl, tt_or]
    exact t_gatherA n r _ h (by simp at hl; omega)
theorem t_gather (r : List Nat) (acc h : Nat) : f_gather r (nI acc) (nI h) = nI (n_gather r acc h) := t_gatherA r.length r acc h (Nat.le_refl _)
def f_scatter : List Nat → Int32 → Int32 → Int32
  | p :: hi :: lo :: r, acc, i => f_scatter r (acc ||| (f_bits i (nI p + nI hi - nI lo) (nI p) <<< (nI lo &&& 31))) i
  | _, acc, _ => acc
def n_scatter : List Nat → Nat → Nat → Nat
  | p :: hi :: lo :: r, acc, i => n_scatter r (n_or acc (n_shl (n_bits i (n_sub (n_add p hi) lo) p) lo)) i
  | _, acc, _ => acc
theorem t_scatterA : ∀ (n : Nat) (r : List Nat) (acc h : Nat), r.length ≤ n → f_scatter r (nI acc) (nI h) = nI (n_scatter r acc h)
  | n, [], acc, h, _ => rfl
  | n, [_], acc, h, _ => rfl
  | n, [_, _], acc, h, _ => rfl
  | 0, p :: hi :: lo :: r, acc, h, hl => by simp at hl
  | n + 1, p :: hi :: lo :: r, acc, h, hl => by
    show f_scatter r (nI acc ||| (f_bits (nI h) (nI p + nI hi - nI lo) (nI p) <<< (nI lo &&& 31))) (nI h) = nI (n_scatter r (n_or acc (n_shl (n_bits h (n_sub (n_add p hi) lo) p) lo)) h)
    rw [tt_add, tt_sub, t_bits, tt_shl, tt_or]
    exact t_scatterA n r _ h (by simp at hl; omega)
theorem t_scatter (r : List Nat) (acc h : Nat) : f_scatter r (nI acc) (nI h) = nI (n_scatter r acc h) := t_scatterA r.length r acc h (Nat.le_refl _)
def f_isHalf (a0 : Int32) : Int32 := (if a0 < 0 then (nI 0) else (if (nI 65535) < a0 then (nI 0) else (nI 1)))
def n_isHalf (a0 : Nat) : Nat := (bif (n_ltb a0 0) then 0 else (bif (n_ltb 65535 a0) then 0 else 1))
theorem t_isHalf (a0 : Nat) : f_isHalf (nI a0) = nI (n_isHalf a0) := by
  simp only [f_isHalf, n_isHalf, tt_add, tt_sub, tt_mul, tt_and, tt_or, tt_xor, tt_shl, tt_sshr, tt_ushr, tt_eq, tt_eq0, tt_lt, tt_lt0, tt_0lt, tt_le, tt_le0, tt_0le]
def f_formI (a0 a1 a2 a3 a4 : Int32) : Int32 := ((((a0 ||| (a1 <<< ((nI 7) &&& 31))) ||| (a2 <<< ((nI 12) &&& 31))) ||| (a3 <<< ((nI 15) &&& 31))) ||| (a4 <<< ((nI 20) &&& 31)))
def n_formI (a0 a1 a2 a3 a4 : Nat) : Nat := (n_or (n_or (n_or (n_or a0 (n_shl a1 7)) (n_shl a2 12)) (n_shl a3 15)) (n_shl a4 20))
theorem t_formI (a0 a1 a2 a3 a4 : Nat) : f_formI (nI a0) (nI a1) (nI a2) (nI a3) (nI a4) = nI (n_formI a0 a1 a2 a3 a4) := by
  simp only [f_formI, n_formI, tt_add, tt_sub, tt_mul, tt_and, tt_or, tt_xor, tt_shl, tt_sshr, tt_ushr, tt_eq, tt_eq0, tt_lt, tt_lt0, tt_0lt, tt_le, tt_le0, tt_0le]
def f_wordForAddToStack (a0 a1 : Int32) : Int32 := (if a1 = 0 then (nI 0) else (f_formI (nI 19) a0 (nI 0) (nI 2) a1))
def n_wordForAddToStack (a0 a1 : Nat) : Nat := (bif (n_eqb a1 0) then 0 else (n_formI 19 a0 0 2 a1))
theorem t_wordForAddToStack (a0 a1 : Nat) : f_wordForAddToStack (nI a0) (nI a1) = nI (n_wordForAddToStack a0 a1) := by
  simp only [f_wordForAddToStack, n_wordForAddToStack, t_formI, tt_add, tt_sub, tt_mul, tt_and, tt_or, tt_xor, tt_shl, tt_sshr, tt_ushr, tt_eq, tt_eq0, tt_lt, tt_lt0, tt_0lt, tt_le, tt_le0, tt_0le]
def f_formR (a0 a1 a2 a3 a4 a5 : Int32) : Int32 := (((((a0 ||| (a1 <<< ((nI 7) &&& 31))) ||| (a2 <<< ((nI 12) &&& 31))) ||| (a3 <<< ((nI 15) &&& 31))) ||| (a4 <<< ((nI 20) &&& 31))) ||| (a5 <<< ((nI 25) &&& 31)))
def n_formR (a0 a1 a2 a3 a4 a5 : Nat) : Nat := (n_or (n_or (n_or (n_or (n_or a0 (n_shl a1 7)) (n_shl a2 12)) (n_shl a3 15)) (n_shl a4 20)) (n_shl a5 25))
theorem t_formR (a0 a1 a2 a3 a4 a5 : Nat) : f_formR (nI a0) (nI a1) (nI a2) (nI a3) (nI a4) (nI a5) = nI (n_formR a0 a1 a2 a3 a4 a5) := by
  simp only [f_formR, n_formR, tt_add, tt_sub, tt_mul, tt_and, tt_or, tt_xor, tt_shl, tt_sshr, tt_ushr, tt_eq, tt_eq0, tt_lt, tt_lt0, tt_0lt, tt_le, tt_le0, tt_0le]
def f_formS (a0 a1 a2 a3 a4 : Int32) : Int32 := (f_formR a0 (f_bits a4 (nI 4) (nI 0)) a1 a2 a3 (f_bits a4 (nI 11) (nI 5)))
def n_formS (a0 a1 a2 a3 a4 : Nat) : Nat := (n_formR a0 (n_bits a4 4 0) a1 a2 a3 (n_bits a4 11 5))
theorem t_formS (a0 a1 a2 a3 a4 : Nat) : f_formS (nI a0) (nI a1) (nI a2) (nI a3) (nI a4) = nI (n_formS a0 a1 a2 a3 a4) := by
  simp only [f_formS, n_formS, t_bits, t_formR, tt_add, tt_sub, tt_mul, tt_and, tt_or, tt_xor, tt_shl, tt_sshr, tt_ushr, tt_eq, tt_eq0, tt_lt, tt_lt0, tt_0lt, tt_le, tt_le0, tt_0le]
def f_wordForLow0 (a0 : Int32) : Int32 := (if (f_bits a0 (nI 15) (nI 13)) = nI 0 then (f_wordForAddToStack ((nI 8) + (f_bits a0 (nI 4) (nI 2))) (f_gather row0 (nI 0) a0)) else (if (f_bits a0 (nI 15) (nI 13)) = nI 1 then (f_formI (nI 7) ((nI 8) + (f_bits a0 (nI 4) (nI 2))) (nI 3) ((nI 8) + (f_bits a0 (nI 9) (nI 7))) (f_gather row1 (nI 0) a0)) else (if (f_bits a0 (nI 15) (nI 13)) = nI 2 then (f_formI (nI 3) ((nI 8) + (f_bits a0 (nI 4) (nI 2))) (nI 2) ((nI 8) + (f_bits a0 (nI 9) (nI 7))) (f_gather row2 (nI 0) a0)) else (if (f_bits a0 (nI 15) (nI 13)) = nI 3 then (f_formI (nI 3) ((nI 8) + (f_bits a0 (nI 4) (nI 2))) (nI 3) ((nI 8) + (f_bits a0 (nI 9) (nI 7))) (f_gather row1 (nI 0) a0)) else (if (f_bits a0 (nI 15) (nI 13)) = nI 4 then (nI 0) else (if (f_bits a0 (nI 15) (nI 13)) = nI 5 then (f_formS (nI 39) (nI 3) ((nI 8) + (f_bits a0 (nI 9) (nI 7))) ((nI 8) + (f_bits a0 (nI 4) (nI 2))) (f_gather row1 (nI 0) a0)) else (if (f_bits a0 (nI 15) (nI 13)) = nI 6 then (f_formS (nI 35) (nI 2) ((nI 8) + (f_bits a0 (nI 9) (nI 7))) ((nI 8) + (f_bits a0 (nI 4) (nI 2))) (f_gather row2 (nI 0) a0)) else (if (f_bits a0 (nI 15) (nI 13)) = nI 7 then (f_formS (nI 35) (nI 3) ((nI 8) + (f_bits a0 (nI 9) (nI 7))) ((nI 8) + (f_bits a0 (nI 4) (nI 2))) (f_gather row1 (nI 0) a0)) else (nI 0)))))))))
def n_wordForLow0 (a0 : Nat) : Nat := (bif (n_eqb (n_bits a0 15 13) 0) then (n_wordForAddToStack (n_add 8 (n_bits a0 4 2)) (n_gather row0 0 a0)) else (bif (n_eqb (n_bits a0 15 13) 1) then (n_formI 7 (n_add 8 (n_bits a0 4 2)) 3 (n_add 8 (n_bits a0 9 7)) (n_gather row1 0 a0)) else (bif (n_eqb (n_bits a0 15 13) 2) then (n_formI 3 (n_add 8 (n_bits a0 4 2)) 2 (n_add 8 (n_bits a0 9 7)) (n_gather row2 0 a0)) else (bif (n_eqb (n_bits a0 15 13) 3) then (n_formI 3 (n_add 8 (n_bits a0 4 2)) 3 (n_add 8 (n_bits a0 9 7)) (n_gather row1 0 a0)) else (bif (n_eqb (n_bits a0 15 13) 4) then 0 else (bif (n_eqb (n_bits a0 15 13) 5) then (n_formS 39 3 (n_add 8 (n_bits a0 9 7)) (n_add 8 (n_bits a0 4 2)) (n_gather row1 0 a0)) else (bif (n_eqb (n_bits a0 15 13) 6) then (n_formS 35 2 (n_add 8 (n_bits a0 9 7)) (n_add 8 (n_bits a0 4 2)) (n_gather row2 0 a0)) else (bif (n_eqb (n_bits a0 15 13) 7) then (n_formS 35 3 (n_add 8 (n_bits a0 9 7)) (n_add 8 (n_bits a0 4 2)) (n_gather row1 0 a0)) else 0))))))))
theorem t_wordForLow0 (a0 : Nat) : f_wordForLow0 (nI a0) = nI (n_wordForLow0 a0) := by
  simp only [f_wordForLow0, n_wordForLow0, t_bits, t_formI, t_formS, t_gather, t_wordForAddToStack, tt_add, tt_sub, tt_mul, tt_and, tt_or, tt_xor, tt_shl, tt_sshr, tt_ushr, tt_eq, tt_eq0, tt_lt, tt_lt0, tt_0lt, tt_le, tt_le0, tt_0le]
def f_signedImmediate (a0 : Int32) : Int32 := ((f_bits a0 (nI 6) (nI 2)) - ((f_bits a0 (nI 12) (nI 12)) <<< ((nI 5) &&& 31)))
def n_signedImmediate (a0 : Nat) : Nat := (n_sub (n_bits a0 6 2) (n_shl (n_bits a0 12 12) 5))
theorem t_signedImmediate (a0 : Nat) : f_signedImmediate (nI a0) = nI (n_signedImmediate a0) := by
  simp only [f_signedImmediate, n_signedImmediate, t_bits, tt_add, tt_sub, tt_mul, tt_and, tt_or, tt_xor, tt_shl, tt_sshr, tt_ushr, tt_eq, tt_eq0, tt_lt, tt_lt0, tt_0lt, tt_le, tt_le0, tt_0le]
def f_withSign (a0 a1 : Int32) : Int32 := ((a0 <<< (((nI 31) - a1) &&& 31)) >>> (((nI 31) - a1) &&& 31))
def n_withSign (a0 a1 : Nat) : Nat := (n_sshr (n_shl a0 (n_sub 31 a1)) (n_sub 31 a1))
theorem t_withSign (a0 a1 : Nat) : f_withSign (nI a0) (nI a1) = nI (n_withSign a0 a1) := by
  simp only [f_withSign, n_withSign, tt_add, tt_sub, tt_mul, tt_and, tt_or, tt_xor, tt_shl, tt_sshr, tt_ushr, tt_eq, tt_eq0, tt_lt, tt_lt0, tt_0lt, tt_le, tt_le0, tt_0le]
def f_wordForMoveStack (a0 : Int32) : Int32 := (if a0 = 0 then (nI 0) else (f_formI (nI 19) (nI 2) (nI 0) (nI 2) a0))
def n_wordForMoveStack (a0 : Nat) : Nat := (bif (n_eqb a0 0) then 0 else (n_formI 19 2 0 2 a0))
theorem t_wordForMoveStack (a0 : Nat) : f_wordForMoveStack (nI a0) = nI (n_wordForMoveStack a0) := by
  simp only [f_wordForMoveStack, n_wordForMoveStack, t_formI, tt_add, tt_sub, tt_mul, tt_and, tt_or, tt_xor, tt_shl, tt_sshr, tt_ushr, tt_eq, tt_eq0, tt_lt, tt_lt0, tt_0lt, tt_le, tt_le0, tt_0le]
def f_formU (a0 a1 a2 : Int32) : Int32 := ((a0 ||| (a1 <<< ((nI 7) &&& 31))) ||| ((f_bits a2 (nI 31) (nI 12)) <<< ((nI 12) &&& 31)))
def n_formU (a0 a1 a2 : Nat) : Nat := (n_or (n_or a0 (n_shl a1 7)) (n_shl (n_bits a2 31 12) 12))
theorem t_formU (a0 a1 a2 : Nat) : f_formU (nI a0) (nI a1) (nI a2) = nI (n_formU a0 a1 a2) := by
  simp only [f_formU, n_formU, t_bits, tt_add, tt_sub, tt_mul, tt_and, tt_or, tt_xor, tt_shl, tt_sshr, tt_ushr, tt_eq, tt_eq0, tt_lt, tt_lt0, tt_0lt, tt_le, tt_le0, tt_0le]
def f_wordForUpper (a0 a1 : Int32) : Int32 := (if a1 = 0 then (nI 0) else (f_formU (nI 55) a0 (a1 * (nI 4096))))
def n_wordForUpper (a0 a1 : Nat) : Nat := (bif (n_eqb a1 0) then 0 else (n_formU 55 a0 (n_mul a1 4096)))
theorem t_wordForUpper (a0 a1 : Nat) : f_wordForUpper (nI a0) (nI a1) = nI (n_wordForUpper a0 a1) := by
  simp only [f_wordForUpper, n_wordForUpper, t_formU, tt_add, tt_sub, tt_mul, tt_and, tt_or, tt_xor, tt_shl, tt_sshr, tt_ushr, tt_eq, tt_eq0, tt_lt, tt_lt0, tt_0lt, tt_le, tt_le0, tt_0le]
def f_unsignedImmediate (a0 : Int32) : Int32 := ((f_bits a0 (nI 6) (nI 2)) + ((f_bits a0 (nI 12) (nI 12)) <<< ((nI 5) &&& 31)))
def n_unsignedImmediate (a0 : Nat) : Nat := (n_add (n_bits a0 6 2) (n_shl (n_bits a0 12 12) 5))
theorem t_unsignedImmediate (a0 : Nat) : f_unsignedImmediate (nI a0) = nI (n_unsignedImmediate a0) := by
  simp only [f_unsignedImmediate, n_unsignedImmediate, t_bits, tt_add, tt_sub, tt_mul, tt_and, tt_or, tt_xor, tt_shl, tt_sshr, tt_ushr, tt_eq, tt_eq0, tt_lt, tt_lt0, tt_0lt, tt_le, tt_le0, tt_0le]
def f_wordForTwoRegisters (a0 a1 : Int32) : Int32 := (if (((f_bits a0 (nI 12) (nI 12)) <<< ((nI 2) &&& 31)) ||| (f_bits a0 (nI 6) (nI 5))) = nI 0 then (f_formR (nI 51) a1 (nI 0) a1 ((nI 8) + (f_bits a0 (nI 4) (nI 2))) (nI 32)) else (if (((f_bits a0 (nI 12) (nI 12)) <<< ((nI 2) &&& 31)) ||| (f_bits a0 (nI 6) (nI 5))) = nI 1 then (f_formR (nI 51) a1 (nI 4) a1 ((nI 8) + (f_bits a0 (nI 4) (nI 2))) (nI 0)) else (if (((f_bits a0 (nI 12) (nI 12)) <<< ((nI 2) &&& 31)) ||| (f_bits a0 (nI 6) (nI 5))) = nI 2 then (f_formR (nI 51) a1 (nI 6) a1 ((nI 8) + (f_bits a0 (nI 4) (nI 2))) (nI 0)) else (if (((f_bits a0 (nI 12) (nI 12)) <<< ((nI 2) &&& 31)) ||| (f_bits a0 (nI 6) (nI 5))) = nI 3 then (f_formR (nI 51) a1 (nI 7) a1 ((nI 8) + (f_bits a0 (nI 4) (nI 2))) (nI 0)) else (if (((f_bits a0 (nI 12) (nI 12)) <<< ((nI 2) &&& 31)) ||| (f_bits a0 (nI 6) (nI 5))) = nI 4 then (f_formR (nI 59) a1 (nI 0) a1 ((nI 8) + (f_bits a0 (nI 4) (nI 2))) (nI 32)) else (if (((f_bits a0 (nI 12) (nI 12)) <<< ((nI 2) &&& 31)) ||| (f_bits a0 (nI 6) (nI 5))) = nI 5 then (f_formR (nI 59) a1 (nI 0) a1 ((nI 8) + (f_bits a0 (nI 4) (nI 2))) (nI 0)) else (nI 0)))))))
def n_wordForTwoRegisters (a0 a1 : Nat) : Nat := (bif (n_eqb (n_or (n_shl (n_bits a0 12 12) 2) (n_bits a0 6 5)) 0) then (n_formR 51 a1 0 a1 (n_add 8 (n_bits a0 4 2)) 32) else (bif (n_eqb (n_or (n_shl (n_bits a0 12 12) 2) (n_bits a0 6 5)) 1) then (n_formR 51 a1 4 a1 (n_add 8 (n_bits a0 4 2)) 0) else (bif (n_eqb (n_or (n_shl (n_bits a0 12 12) 2) (n_bits a0 6 5)) 2) then (n_formR 51 a1 6 a1 (n_add 8 (n_bits a0 4 2)) 0) else (bif (n_eqb (n_or (n_shl (n_bits a0 12 12) 2) (n_bits a0 6 5)) 3) then (n_formR 51 a1 7 a1 (n_add 8 (n_bits a0 4 2)) 0) else (bif (n_eqb (n_or (n_shl (n_bits a0 12 12) 2) (n_bits a0 6 5)) 4) then (n_formR 59 a1 0 a1 (n_add 8 (n_bits a0 4 2)) 32) else (bif (n_eqb (n_or (n_shl (n_bits a0 12 12) 2) (n_bits a0 6 5)) 5) then (n_formR 59 a1 0 a1 (n_add 8 (n_bits a0 4 2)) 0) else 0))))))
theorem t_wordForTwoRegisters (a0 a1 : Nat) : f_wordForTwoRegisters (nI a0) (nI a1) = nI (n_wordForTwoRegisters a0 a1) := by
  simp only [f_wordForTwoRegisters, n_wordForTwoRegisters, t_bits, t_formR, tt_add, tt_sub, tt_mul, tt_and, tt_or, tt_xor, tt_shl, tt_sshr, tt_ushr, tt_eq, tt_eq0, tt_lt, tt_lt0, tt_0lt, tt_le, tt_le0, tt_0le]
def f_wordForArithmetic (a0 : Int32) : Int32 := (if (f_bits a0 (nI 11) (nI 10)) = nI 0 then (f_formI (nI 19) ((nI 8) + (f_bits a0 (nI 9) (nI 7))) (nI 5) ((nI 8) + (f_bits a0 (nI 9) (nI 7))) (f_unsignedImmediate a0)) else (if (f_bits a0 (nI 11) (nI 10)) = nI 1 then (f_formI (nI 19) ((nI 8) + (f_bits a0 (nI 9) (nI 7))) (nI 5) ((nI 8) + (f_bits a0 (nI 9) (nI 7))) ((f_unsignedImmediate a0) + (nI 1024))) else (if (f_bits a0 (nI 11) (nI 10)) = nI 2 then (f_formI (nI 19) ((nI 8) + (f_bits a0 (nI 9) (nI 7))) (nI 7) ((nI 8) + (f_bits a0 (nI 9) (nI 7))) (f_signedImmediate a0)) else (f_wordForTwoRegisters a0 ((nI 8) + (f_bits a0 (nI 9) (nI 7)))))))
def n_wordForArithmetic (a0 : Nat) : Nat := (bif (n_eqb (n_bits a0 11 10) 0) then (n_formI 19 (n_add 8 (n_bits a0 9 7)) 5 (n_add 8 (n_bits a0 9 7)) (n_unsignedImmediate a0)) else (bif (n_eqb (n_bits a0 11 10) 1) then (n_formI 19 (n_add 8 (n_bits a0 9 7)) 5 (n_add 8 (n_bits a0 9 7)) (n_add (n_unsignedImmediate a0) 1024)) else (bif (n_eqb (n_bits a0 11 10) 2) then (n_formI 19 (n_add 8 (n_bits a0 9 7)) 7 (n_add 8 (n_bits a0 9 7)) (n_signedImmediate a0)) else (n_wordForTwoRegisters a0 (n_add 8 (n_bits a0 9 7))))))
theorem t_wordForArithmetic (a0 : Nat) : f_wordForArithmetic (nI a0) = nI (n_wordForArithmetic a0) := by
  simp only [f_wordForArithmetic, n_wordForArithmetic, t_bits, t_formI, t_signedImmediate, t_unsignedImmediate, t_wordForTwoRegisters, tt_add, tt_sub, tt_mul, tt_and, tt_or, tt_xor, tt_shl, tt_sshr, tt_ushr, tt_eq, tt_eq0, tt_lt, tt_lt0, tt_0lt, tt_le, tt_le0, tt_0le]
def f_formJ (a0 a1 : Int32) : Int32 := ((((nI 111) ||| (a0 <<< ((nI 7) &&& 31))) ||| ((f_bits a1 (nI 19) (nI 12)) <<< ((nI 12) &&& 31))) ||| ((((f_bits a1 (nI 20) (nI 20)) <<< ((nI 31) &&& 31)) ||| ((f_bits a1 (nI 10) (nI 1)) <<< ((nI 21) &&& 31))) ||| ((f_bits a1 (nI 11) (nI 11)) <<< ((nI 20) &&& 31))))
def n_formJ (a0 a1 : Nat) : Nat := (n_or (n_or (n_or 111 (n_shl a0 7)) (n_shl (n_bits a1 19 12) 12)) (n_or (n_or (n_shl (n_bits a1 20 20) 31) (n_shl (n_bits a1 10 1) 21)) (n_shl (n_bits a1 11 11) 20)))
theorem t_formJ (a0 a1 : Nat) : f_formJ (nI a0) (nI a1) = nI (n_formJ a0 a1) := by
  simp only [f_formJ, n_formJ, t_bits, tt_add, tt_sub, tt_mul, tt_and, tt_or, tt_xor, tt_shl, tt_sshr, tt_ushr, tt_eq, tt_eq0, tt_lt, tt_lt0, tt_0lt, tt_le, tt_le0, tt_0le]
def f_formB (a0 a1 a2 a3 : Int32) : Int32 := (f_formR (nI 99) (((f_bits a3 (nI 4) (nI 1)) <<< ((nI 1) &&& 31)) ||| (f_bits a3 (nI 11) (nI 11))) a0 a1 a2 (((f_bits a3 (nI 12) (nI 12)) <<< ((nI 6) &&& 31)) ||| (f_bits a3 (nI 10) (nI 5))))
def n_formB (a0 a1 a2 a3 : Nat) : Nat := (n_formR 99 (n_or (n_shl (n_bits a3 4 1) 1) (n_bits a3 11 11)) a0 a1 a2 (n_or (n_shl (n_bits a3 12 12) 6) (n_bits a3 10 5)))
theorem t_formB (a0 a1 a2 a3 : Nat) : f_formB (nI a0) (nI a1) (nI a2) (nI a3) = nI (n_formB a0 a1 a2 a3) := by
  simp only [f_formB, n_formB, t_bits, t_formR, tt_add, tt_sub, tt_mul, tt_and, tt_or, tt_xor, tt_shl, tt_sshr, tt_ushr, tt_eq, tt_eq0, tt_lt, tt_lt0, tt_0lt, tt_le, tt_le0, tt_0le]
def f_wordForLow1 (a0 : Int32) : Int32 := (if (f_bits a0 (nI 15) (nI 13)) = nI 0 then (f_formI (nI 19) (f_bits a0 (nI 11) (nI 7)) (nI 0) (f_bits a0 (nI 11) (nI 7)) (f_signedImmediate a0)) else (if (f_bits a0 (nI 15) (nI 13)) = nI 1 then (if (f_bits a0 (nI 11) (nI 7)) = 0 then (nI 0) else (f_formI (nI 27) (f_bits a0 (nI 11) (nI 7)) (nI 0) (f_bits a0 (nI 11) (nI 7)) (f_signedImmediate a0))) else (if (f_bits a0 (nI 15) (nI 13)) = nI 2 then (f_formI (nI 19) (f_bits a0 (nI 11) (nI 7)) (nI 0) (nI 0) (f_signedImmediate a0)) else (if (f_bits a0 (nI 15) (nI 13)) = nI 3 then (if (f_bits a0 (nI 11) (nI 7)) = (nI 2) then (f_wordForMoveStack (f_withSign (f_gather row3 (nI 0) a0) (nI 9))) else (f_wordForUpper (f_bits a0 (nI 11) (nI 7)) (f_signedImmediate a0))) else (if (f_bits a0 (nI 15) (nI 13)) = nI 4 then (f_wordForArithmetic a0) else (if (f_bits a0 (nI 15) (nI 13)) = nI 5 then (f_formJ (nI 0) (f_withSign (f_gather row4 (nI 0) a0) (nI 11))) else (if (f_bits a0 (nI 15) (nI 13)) = nI 6 then (f_formB (nI 0) ((nI 8) + (f_bits a0 (nI 9) (nI 7))) (nI 0) (f_withSign (f_gather row5 (nI 0) a0) (nI 8))) else (f_formB (nI 1) ((nI 8) + (f_bits a0 (nI 9) (nI 7))) (nI 0) (f_withSign (f_gather row5 (nI 0) a0) (nI 8))))))))))
def n_wordForLow1 (a0 : Nat) : Nat := (bif (n_eqb (n_bits a0 15 13) 0) then (n_formI 19 (n_bits a0 11 7) 0 (n_bits a0 11 7) (n_signedImmediate a0)) else (bif (n_eqb (n_bits a0 15 13) 1) then (bif (n_eqb (n_bits a0 11 7) 0) then 0 else (n_formI 27 (n_bits a0 11 7) 0 (n_bits a0 11 7) (n_signedImmediate a0))) else (bif (n_eqb (n_bits a0 15 13) 2) then (n_formI 19 (n_bits a0 11 7) 0 0 (n_signedImmediate a0)) else (bif (n_eqb (n_bits a0 15 13) 3) then (bif (n_eqb (n_bits a0 11 7) 2) then (n_wordForMoveStack (n_withSign (n_gather row3 0 a0) 9)) else (n_wordForUpper (n_bits a0 11 7) (n_signedImmediate a0))) else (bif (n_eqb (n_bits a0 15 13) 4) then (n_wordForArithmetic a0) else (bif (n_eqb (n_bits a0 15 13) 5) then (n_formJ 0 (n_withSign (n_gather row4 0 a0) 11)) else (bif (n_eqb (n_bits a0 15 13) 6) then (n_formB 0 (n_add 8 (n_bits a0 9 7)) 0 (n_withSign (n_gather row5 0 a0) 8)) else (n_formB 1 (n_add 8 (n_bits a0 9 7)) 0 (n_withSign (n_gather row5 0 a0) 8)))))))))
theorem t_wordForLow1 (a0 : Nat) : f_wordForLow1 (nI a0) = nI (n_wordForLow1 a0) := by
  simp only [f_wordForLow1, n_wordForLow1, t_bits, t_formB, t_formI, t_formJ, t_gather, t_signedImmediate, t_withSign, t_wordForArithmetic, t_wordForMoveStack, t_wordForUpper, tt_add, tt_sub, tt_mul, tt_and, tt_or, tt_xor, tt_shl, tt_sshr, tt_ushr, tt_eq, tt_eq0, tt_lt, tt_lt0, tt_0lt, tt_le, tt_le0, tt_0le]
def f_wordForGoOrCopy (a0 a1 : Int32) : Int32 := (if a1 = 0 then (if a0 = 0 then (nI 0) else (f_formI (nI 103) (nI 0) (nI 0) a0 (nI 0))) else (f_formR (nI 51) a0 (nI 0) (nI 0) a1 (nI 0)))
def n_wordForGoOrCopy (a0 a1 : Nat) : Nat := (bif (n_eqb a1 0) then (bif (n_eqb a0 0) then 0 else (n_formI 103 0 0 a0 0)) else (n_formR 51 a0 0 0 a1 0))
theorem t_wordForGoOrCopy (a0 a1 : Nat) : f_wordForGoOrCopy (nI a0) (nI a1) = nI (n_wordForGoOrCopy a0 a1) := by
  simp only [f_wordForGoOrCopy, n_wordForGoOrCopy, t_formI, t_formR, tt_add, tt_sub, tt_mul, tt_and, tt_or, tt_xor, tt_shl, tt_sshr, tt_ushr, tt_eq, tt_eq0, tt_lt, tt_lt0, tt_0lt, tt_le, tt_le0, tt_0le]
def f_wordForCallOrAdd (a0 a1 : Int32) : Int32 := (if a1 = 0 then (if a0 = 0 then (f_formI (nI 115) (nI 0) (nI 0) (nI 0) (nI 1)) else (f_formI (nI 103) (nI 1) (nI 0) a0 (nI 0))) else (f_formR (nI 51) a0 (nI 0) a0 a1 (nI 0)))
def n_wordForCallOrAdd (a0 a1 : Nat) : Nat := (bif (n_eqb a1 0) then (bif (n_eqb a0 0) then (n_formI 115 0 0 0 1) else (n_formI 103 1 0 a0 0)) else (n_formR 51 a0 0 a0 a1 0))
theorem t_wordForCallOrAdd (a0 a1 : Nat) : f_wordForCallOrAdd (nI a0) (nI a1) = nI (n_wordForCallOrAdd a0 a1) := by
  simp only [f_wordForCallOrAdd, n_wordForCallOrAdd, t_formI, t_formR, tt_add, tt_sub, tt_mul, tt_and, tt_or, tt_xor, tt_shl, tt_sshr, tt_ushr, tt_eq, tt_eq0, tt_lt, tt_lt0, tt_0lt, tt_le, tt_le0, tt_0le]
def f_wordForLow2 (a0 : Int32) : Int32 := (if (f_bits a0 (nI 15) (nI 13)) = nI 0 then (f_formI (nI 19) (f_bits a0 (nI 11) (nI 7)) (nI 1) (f_bits a0 (nI 11) (nI 7)) (f_unsignedImmediate a0)) else (if (f_bits a0 (nI 15) (nI 13)) = nI 1 then (f_formI (nI 7) (f_bits a0 (nI 11) (nI 7)) (nI 3) (nI 2) (f_gather row6 (nI 0) a0)) else (if (f_bits a0 (nI 15) (nI 13)) = nI 2 then (if (f_bits a0 (nI 11) (nI 7)) = 0 then (nI 0) else (f_formI (nI 3) (f_bits a0 (nI 11) (nI 7)) (nI 2) (nI 2) (f_gather row7 (nI 0) a0))) else (if (f_bits a0 (nI 15) (nI 13)) = nI 3 then (if (f_bits a0 (nI 11) (nI 7)) = 0 then (nI 0) else (f_formI (nI 3) (f_bits a0 (nI 11) (nI 7)) (nI 3) (nI 2) (f_gather row6 (nI 0) a0))) else (if (f_bits a0 (nI 15) (nI 13)) = nI 4 then (if (f_bits a0 (nI 12) (nI 12)) = 0 then (f_wordForGoOrCopy (f_bits a0 (nI 11) (nI 7)) (f_bits a0 (nI 6) (nI 2))) else (f_wordForCallOrAdd (f_bits a0 (nI 11) (nI 7)) (f_bits a0 (nI 6) (nI 2)))) else (if (f_bits a0 (nI 15) (nI 13)) = nI 5 then (f_formS (nI 39) (nI 3) (nI 2) (f_bits a0 (nI 6) (nI 2)) (f_gather row8 (nI 0) a0)) else (if (f_bits a0 (nI 15) (nI 13)) = nI 6 then (f_formS (nI 35) (nI 2) (nI 2) (f_bits a0 (nI 6) (nI 2)) (f_gather row9 (nI 0) a0)) else (f_formS (nI 35) (nI 3) (nI 2) (f_bits a0 (nI 6) (nI 2)) (f_gather row8 (nI 0) a0)))))))))
def n_wordForLow2 (a0 : Nat) : Nat := (bif (n_eqb (n_bits a0 15 13) 0) then (n_formI 19 (n_bits a0 11 7) 1 (n_bits a0 11 7) (n_unsignedImmediate a0)) else (bif (n_eqb (n_bits a0 15 13) 1) then (n_formI 7 (n_bits a0 11 7) 3 2 (n_gather row6 0 a0)) else (bif (n_eqb (n_bits a0 15 13) 2) then (bif (n_eqb (n_bits a0 11 7) 0) then 0 else (n_formI 3 (n_bits a0 11 7) 2 2 (n_gather row7 0 a0))) else (bif (n_eqb (n_bits a0 15 13) 3) then (bif (n_eqb (n_bits a0 11 7) 0) then 0 else (n_formI 3 (n_bits a0 11 7) 3 2 (n_gather row6 0 a0))) else (bif (n_eqb (n_bits a0 15 13) 4) then (bif (n_eqb (n_bits a0 12 12) 0) then (n_wordForGoOrCopy (n_bits a0 11 7) (n_bits a0 6 2)) else (n_wordForCallOrAdd (n_bits a0 11 7) (n_bits a0 6 2))) else (bif (n_eqb (n_bits a0 15 13) 5) then (n_formS 39 3 2 (n_bits a0 6 2) (n_gather row8 0 a0)) else (bif (n_eqb (n_bits a0 15 13) 6) then (n_formS 35 2 2 (n_bits a0 6 2) (n_gather row9 0 a0)) else (n_formS 35 3 2 (n_bits a0 6 2) (n_gather row8 0 a0)))))))))
theorem t_wordForLow2 (a0 : Nat) : f_wordForLow2 (nI a0) = nI (n_wordForLow2 a0) := by
  simp only [f_wordForLow2, n_wordForLow2, t_bits, t_formI, t_formS, t_gather, t_unsignedImmediate, t_wordForCallOrAdd, t_wordForGoOrCopy, tt_add, tt_sub, tt_mul, tt_and, tt_or, tt_xor, tt_shl, tt_sshr, tt_ushr, tt_eq, tt_eq0, tt_lt, tt_lt0, tt_0lt, tt_le, tt_le0, tt_0le]
def f_wordFor (a0 : Int32) : Int32 := (if (f_bits a0 (nI 1) (nI 0)) = nI 0 then (f_wordForLow0 a0) else (if (f_bits a0 (nI 1) (nI 0)) = nI 1 then (f_wordForLow1 a0) else (if (f_bits a0 (nI 1) (nI 0)) = nI 2 then (f_wordForLow2 a0) else (nI 0))))
def n_wordFor (a0 : Nat) : Nat := (bif (n_eqb (n_bits a0 1 0) 0) then (n_wordForLow0 a0) else (bif (n_eqb (n_bits a0 1 0) 1) then (n_wordForLow1 a0) else (bif (n_eqb (n_bits a0 1 0) 2) then (n_wordForLow2 a0) else 0)))
theorem t_wordFor (a0 : Nat) : f_wordFor (nI a0) = nI (n_wordFor a0) := by
  simp only [f_wordFor, n_wordFor, t_bits, t_wordForLow0, t_wordForLow1, t_wordForLow2, tt_add, tt_sub, tt_mul, tt_and, tt_or, tt_xor, tt_shl, tt_sshr, tt_ushr, tt_eq, tt_eq0, tt_lt, tt_lt0, tt_0lt, tt_le, tt_le0, tt_0le]
def f_fieldA (a0 : Int32) : Int32 := (f_bits a0 (nI 19) (nI 15))
def n_fieldA (a0 : Nat) : Nat := (n_bits a0 19 15)
theorem t_fieldA (a0 : Nat) : f_fieldA (nI a0) = nI (n_fieldA a0) := by
  simp only [f_fieldA, n_fieldA, t_bits, tt_add, tt_sub, tt_mul, tt_and, tt_or, tt_xor, tt_shl, tt_sshr, tt_ushr, tt_eq, tt_eq0, tt_lt, tt_lt0, tt_0lt, tt_le, tt_le0, tt_0le]
def f_fieldD (a0 : Int32) : Int32 := (f_bits a0 (nI 11) (nI 7))
def n_fieldD (a0 : Nat) : Nat := (n_bits a0 11 7)
theorem t_fieldD (a0 : Nat) : f_fieldD (nI a0) = nI (n_fieldD a0) := by
  simp only [f_fieldD, n_fieldD, t_bits, tt_add, tt_sub, tt_mul, tt_and, tt_or, tt_xor, tt_shl, tt_sshr, tt_ushr, tt_eq, tt_eq0, tt_lt, tt_lt0, tt_0lt, tt_le, tt_le0, tt_0le]
def f_fieldB (a0 : Int32) : Int32 := (f_bits a0 (nI 24) (nI 20))
def n_fieldB (a0 : Nat) : Nat := (n_bits a0 24 20)
theorem t_fieldB (a0 : Nat) : f_fieldB (nI a0) = nI (n_fieldB a0) := by
  simp only [f_fieldB, n_fieldB, t_bits, tt_add, tt_sub, tt_mul, tt_and, tt_or, tt_xor, tt_shl, tt_sshr, tt_ushr, tt_eq, tt_eq0, tt_lt, tt_lt0, tt_0lt, tt_le, tt_le0, tt_0le]
def f_immediateOfI (a0 : Int32) : Int32 := (f_bits a0 (nI 31) (nI 20))
def n_immediateOfI (a0 : Nat) : Nat := (n_bits a0 31 20)
theorem t_immediateOfI (a0 : Nat) : f_immediateOfI (nI a0) = nI (n_immediateOfI a0) := by
  simp only [f_immediateOfI, n_immediateOfI, t_bits, tt_add, tt_sub, tt_mul, tt_and, tt_or, tt_xor, tt_shl, tt_sshr, tt_ushr, tt_eq, tt_eq0, tt_lt, tt_lt0, tt_0lt, tt_le, tt_le0, tt_0le]
def f_fieldG (a0 : Int32) : Int32 := (f_bits a0 (nI 31) (nI 25))
def n_fieldG (a0 : Nat) : Nat := (n_bits a0 31 25)
theorem t_fieldG (a0 : Nat) : f_fieldG (nI a0) = nI (n_fieldG a0) := by
  simp only [f_fieldG, n_fieldG, t_bits, tt_add, tt_sub, tt_mul, tt_and, tt_or, tt_xor, tt_shl, tt_sshr, tt_ushr, tt_eq, tt_eq0, tt_lt, tt_lt0, tt_0lt, tt_le, tt_le0, tt_0le]
def f_immediateOfS (a0 : Int32) : Int32 := (((f_fieldG a0) <<< ((nI 5) &&& 31)) ||| (f_fieldD a0))
def n_immediateOfS (a0 : Nat) : Nat := (n_or (n_shl (n_fieldG a0) 5) (n_fieldD a0))
theorem t_immediateOfS (a0 : Nat) : f_immediateOfS (nI a0) = nI (n_immediateOfS a0) := by
  simp only [f_immediateOfS, n_immediateOfS, t_fieldD, t_fieldG, tt_add, tt_sub, tt_mul, tt_and, tt_or, tt_xor, tt_shl, tt_sshr, tt_ushr, tt_eq, tt_eq0, tt_lt, tt_lt0, tt_0lt, tt_le, tt_le0, tt_0le]
def f_guessForLow0 (a0 a1 : Int32) : Int32 := (if a0 = nI 0 then ((f_scatter row0 (nI 0) (f_immediateOfI a1)) ||| ((f_bits (f_fieldD a1) (nI 2) (nI 0)) <<< ((nI 2) &&& 31))) else (if a0 = nI 1 then (((f_scatter row1 (nI 0) (f_immediateOfI a1)) ||| ((f_bits (f_fieldA a1) (nI 2) (nI 0)) <<< ((nI 7) &&& 31))) ||| ((f_bits (f_fieldD a1) (nI 2) (nI 0)) <<< ((nI 2) &&& 31))) else (if a0 = nI 2 then (((f_scatter row2 (nI 0) (f_immediateOfI a1)) ||| ((f_bits (f_fieldA a1) (nI 2) (nI 0)) <<< ((nI 7) &&& 31))) ||| ((f_bits (f_fieldD a1) (nI 2) (nI 0)) <<< ((nI 2) &&& 31))) else (if a0 = nI 3 then (((f_scatter row1 (nI 0) (f_immediateOfI a1)) ||| ((f_bits (f_fieldA a1) (nI 2) (nI 0)) <<< ((nI 7) &&& 31))) ||| ((f_bits (f_fieldD a1) (nI 2) (nI 0)) <<< ((nI 2) &&& 31))) else (if a0 = nI 4 then (((f_scatter row1 (nI 0) (f_immediateOfS a1)) ||| ((f_bits (f_fieldA a1) (nI 2) (nI 0)) <<< ((nI 7) &&& 31))) ||| ((f_bits (f_fieldB a1) (nI 2) (nI 0)) <<< ((nI 2) &&& 31))) else (if a0 = nI 5 then (((f_scatter row1 (nI 0) (f_immediateOfS a1)) ||| ((f_bits (f_fieldA a1) (nI 2) (nI 0)) <<< ((nI 7) &&& 31))) ||| ((f_bits (f_fieldB a1) (nI 2) (nI 0)) <<< ((nI 2) &&& 31))) else (if a0 = nI 6 then (((f_scatter row2 (nI 0) (f_immediateOfS a1)) ||| ((f_bits (f_fieldA a1) (nI 2) (nI 0)) <<< ((nI 7) &&& 31))) ||| ((f_bits (f_fieldB a1) (nI 2) (nI 0)) <<< ((nI 2) &&& 31))) else (((f_scatter row1 (nI 0) (f_immediateOfS a1)) ||| ((f_bits (f_fieldA a1) (nI 2) (nI 0)) <<< ((nI 7) &&& 31))) ||| ((f_bits (f_fieldB a1) (nI 2) (nI 0)) <<< ((nI 2) &&& 31))))))))))
def n_guessForLow0 (a0 a1 : Nat) : Nat := (bif (n_eqb a0 0) then (n_or (n_scatter row0 0 (n_immediateOfI a1)) (n_shl (n_bits (n_fieldD a1) 2 0) 2)) else (bif (n_eqb a0 1) then (n_or (n_or (n_scatter row1 0 (n_immediateOfI a1)) (n_shl (n_bits (n_fieldA a1) 2 0) 7)) (n_shl (n_bits (n_fieldD a1) 2 0) 2)) else (bif (n_eqb a0 2) then (n_or (n_or (n_scatter row2 0 (n_immediateOfI a1)) (n_shl (n_bits (n_fieldA a1) 2 0) 7)) (n_shl (n_bits (n_fieldD a1) 2 0) 2)) else (bif (n_eqb a0 3) then (n_or (n_or (n_scatter row1 0 (n_immediateOfI a1)) (n_shl (n_bits (n_fieldA a1) 2 0) 7)) (n_shl (n_bits (n_fieldD a1) 2 0) 2)) else (bif (n_eqb a0 4) then (n_or (n_or (n_scatter row1 0 (n_immediateOfS a1)) (n_shl (n_bits (n_fieldA a1) 2 0) 7)) (n_shl (n_bits (n_fieldB a1) 2 0) 2)) else (bif (n_eqb a0 5) then (n_or (n_or (n_scatter row1 0 (n_immediateOfS a1)) (n_shl (n_bits (n_fieldA a1) 2 0) 7)) (n_shl (n_bits (n_fieldB a1) 2 0) 2)) else (bif (n_eqb a0 6) then (n_or (n_or (n_scatter row2 0 (n_immediateOfS a1)) (n_shl (n_bits (n_fieldA a1) 2 0) 7)) (n_shl (n_bits (n_fieldB a1) 2 0) 2)) else (n_or (n_or (n_scatter row1 0 (n_immediateOfS a1)) (n_shl (n_bits (n_fieldA a1) 2 0) 7)) (n_shl (n_bits (n_fieldB a1) 2 0) 2)))))))))
theorem t_guessForLow0 (a0 a1 : Nat) : f_guessForLow0 (nI a0) (nI a1) = nI (n_guessForLow0 a0 a1) := by
  simp only [f_guessForLow0, n_guessForLow0, t_bits, t_fieldA, t_fieldB, t_fieldD, t_immediateOfI, t_immediateOfS, t_scatter, tt_add, tt_sub, tt_mul, tt_and, tt_or, tt_xor, tt_shl, tt_sshr, tt_ushr, tt_eq, tt_eq0, tt_lt, tt_lt0, tt_0lt, tt_le, tt_le0, tt_0le]
def f_fieldC (a0 : Int32) : Int32 := (f_bits a0 (nI 6) (nI 0))
def n_fieldC (a0 : Nat) : Nat := (n_bits a0 6 0)
theorem t_fieldC (a0 : Nat) : f_fieldC (nI a0) = nI (n_fieldC a0) := by
  simp only [f_fieldC, n_fieldC, t_bits, tt_add, tt_sub, tt_mul, tt_and, tt_or, tt_xor, tt_shl, tt_sshr, tt_ushr, tt_eq, tt_eq0, tt_lt, tt_lt0, tt_0lt, tt_le, tt_le0, tt_0le]
def f_fieldF (a0 : Int32) : Int32 := (f_bits a0 (nI 14) (nI 12))
def n_fieldF (a0 : Nat) : Nat := (n_bits a0 14 12)
theorem t_fieldF (a0 : Nat) : f_fieldF (nI a0) = nI (n_fieldF a0) := by
  simp only [f_fieldF, n_fieldF, t_bits, tt_add, tt_sub, tt_mul, tt_and, tt_or, tt_xor, tt_shl, tt_sshr, tt_ushr, tt_eq, tt_eq0, tt_lt, tt_lt0, tt_0lt, tt_le, tt_le0, tt_0le]
def f_guessOperation (a0 a1 a2 : Int32) : Int32 := (if a1 = nI 4 then (nI 1) else (if a1 = nI 5 then (if a0 = (nI 59) then (if a2 = 0 then (nI 1) else (nI 0)) else (nI 0)) else (if a1 = nI 6 then (nI 2) else (if a1 = nI 7 then (nI 3) else (if a0 = (nI 59) then (if a2 = 0 then (nI 1) else (nI 0)) else (nI 0))))))
def n_guessOperation (a0 a1 a2 : Nat) : Nat := (bif (n_eqb a1 4) then 1 else (bif (n_eqb a1 5) then (bif (n_eqb a0 59) then (bif (n_eqb a2 0) then 1 else 0) else 0) else (bif (n_eqb a1 6) then 2 else (bif (n_eqb a1 7) then 3 else (bif (n_eqb a0 59) then (bif (n_eqb a2 0) then 1 else 0) else 0)))))
theorem t_guessOperation (a0 a1 a2 : Nat) : f_guessOperation (nI a0) (nI a1) (nI a2) = nI (n_guessOperation a0 a1 a2) := by
  simp only [f_guessOperation, n_guessOperation, tt_add, tt_sub, tt_mul, tt_and, tt_or, tt_xor, tt_shl, tt_sshr, tt_ushr, tt_eq, tt_eq0, tt_lt, tt_lt0, tt_0lt, tt_le, tt_le0, tt_0le]
def f_guessForArithmetic (a0 : Int32) : Int32 := (if (f_fieldC a0) = (nI 19) then (if (f_fieldF a0) = (nI 7) then (((nI 2048) ||| ((f_bits (f_fieldD a0) (nI 2) (nI 0)) <<< ((nI 7) &&& 31))) ||| ((f_fieldB a0) <<< ((nI 2) &&& 31))) else ((((f_bits a0 (nI 30) (nI 30)) <<< ((nI 10) &&& 31)) ||| ((f_bits (f_fieldD a0) (nI 2) (nI 0)) <<< ((nI 7) &&& 31))) ||| ((f_fieldB a0) <<< ((nI 2) &&& 31)))) else ((((nI 3072) ||| ((f_bits (f_fieldD a0) (nI 2) (nI 0)) <<< ((nI 7) &&& 31))) ||| ((f_guessOperation (f_fieldC a0) (f_fieldF a0) (f_fieldG a0)) <<< ((nI 5) &&& 31))) ||| ((f_bits (f_fieldB a0) (nI 2) (nI 0)) <<< ((nI 2) &&& 31))))
def n_guessForArithmetic (a0 : Nat) : Nat := (bif (n_eqb (n_fieldC a0) 19) then (bif (n_eqb (n_fieldF a0) 7) then (n_or (n_or 2048 (n_shl (n_bits (n_fieldD a0) 2 0) 7)) (n_shl (n_fieldB a0) 2)) else (n_or (n_or (n_shl (n_bits a0 30 30) 10) (n_shl (n_bits (n_fieldD a0) 2 0) 7)) (n_shl (n_fieldB a0) 2))) else (n_or (n_or (n_or 3072 (n_shl (n_bits (n_fieldD a0) 2 0) 7)) (n_shl (n_guessOperation (n_fieldC a0) (n_fieldF a0) (n_fieldG a0)) 5)) (n_shl (n_bits (n_fieldB a0) 2 0) 2)))
theorem t_guessForArithmetic (a0 : Nat) : f_guessForArithmetic (nI a0) = nI (n_guessForArithmetic a0) := by
  simp only [f_guessForArithmetic, n_guessForArithmetic, t_bits, t_fieldB, t_fieldC, t_fieldD, t_fieldF, t_fieldG, t_guessOperation, tt_add, tt_sub, tt_mul, tt_and, tt_or, tt_xor, tt_shl, tt_sshr, tt_ushr, tt_eq, tt_eq0, tt_lt, tt_lt0, tt_0lt, tt_le, tt_le0, tt_0le]
def f_immediateOfJ (a0 : Int32) : Int32 := (((((f_bits a0 (nI 31) (nI 31)) <<< ((nI 20) &&& 31)) ||| ((f_bits a0 (nI 19) (nI 12)) <<< ((nI 12) &&& 31))) ||| ((f_bits a0 (nI 20) (nI 20)) <<< ((nI 11) &&& 31))) ||| ((f_bits a0 (nI 30) (nI 21)) <<< ((nI 1) &&& 31)))
def n_immediateOfJ (a0 : Nat) : Nat := (n_or (n_or (n_or (n_shl (n_bits a0 31 31) 20) (n_shl (n_bits a0 19 12) 12)) (n_shl (n_bits a0 20 20) 11)) (n_shl (n_bits a0 30 21) 1))
theorem t_immediateOfJ (a0 : Nat) : f_immediateOfJ (nI a0) = nI (n_immediateOfJ a0) := by
  simp only [f_immediateOfJ, n_immediateOfJ, t_bits, tt_add, tt_sub, tt_mul, tt_and, tt_or, tt_xor, tt_shl, tt_sshr, tt_ushr, tt_eq, tt_eq0, tt_lt, tt_lt0, tt_0lt, tt_le, tt_le0, tt_0le]
def f_immediateOfB (a0 : Int32) : Int32 := (((((f_bits a0 (nI 31) (nI 31)) <<< ((nI 12) &&& 31)) ||| ((f_bits a0 (nI 7) (nI 7)) <<< ((nI 11) &&& 31))) ||| ((f_bits a0 (nI 30) (nI 25)) <<< ((nI 5) &&& 31))) ||| ((f_bits a0 (nI 11) (nI 8)) <<< ((nI 1) &&& 31)))
def n_immediateOfB (a0 : Nat) : Nat := (n_or (n_or (n_or (n_shl (n_bits a0 31 31) 12) (n_shl (n_bits a0 7 7) 11)) (n_shl (n_bits a0 30 25) 5)) (n_shl (n_bits a0 11 8) 1))
theorem t_immediateOfB (a0 : Nat) : f_immediateOfB (nI a0) = nI (n_immediateOfB a0) := by
  simp only [f_immediateOfB, n_immediateOfB, t_bits, tt_add, tt_sub, tt_mul, tt_and, tt_or, tt_xor, tt_shl, tt_sshr, tt_ushr, tt_eq, tt_eq0, tt_lt, tt_lt0, tt_0lt, tt_le, tt_le0, tt_0le]
def f_guessForLow1 (a0 a1 : Int32) : Int32 := (if a0 = nI 3 then (if (f_fieldD a1) = (nI 2) then (((f_fieldD a1) <<< ((nI 7) &&& 31)) ||| (f_scatter row3 (nI 0) (f_immediateOfI a1))) else (((f_fieldD a1) <<< ((nI 7) &&& 31)) ||| ((f_bits a1 (nI 16) (nI 12)) <<< ((nI 2) &&& 31)))) else (if a0 = nI 4 then (f_guessForArithmetic a1) else (if a0 = nI 5 then (f_scatter row4 (nI 0) (f_immediateOfJ a1)) else (if a0 = nI 6 then ((f_scatter row5 (nI 0) (f_immediateOfB a1)) ||| ((f_bits (f_fieldA a1) (nI 2) (nI 0)) <<< ((nI 7) &&& 31))) else (if a0 = nI 7 then ((f_scatter row5 (nI 0) (f_immediateOfB a1)) ||| ((f_bits (f_fieldA a1) (nI 2) (nI 0)) <<< ((nI 7) &&& 31))) else (((f_fieldD a1) <<< ((nI 7) &&& 31)) ||| ((f_fieldB a1) <<< ((nI 2) &&& 31))))))))
def n_guessForLow1 (a0 a1 : Nat) : Nat := (bif (n_eqb a0 3) then (bif (n_eqb (n_fieldD a1) 2) then (n_or (n_shl (n_fieldD a1) 7) (n_scatter row3 0 (n_immediateOfI a1))) else (n_or (n_shl (n_fieldD a1) 7) (n_shl (n_bits a1 16 12) 2))) else (bif (n_eqb a0 4) then (n_guessForArithmetic a1) else (bif (n_eqb a0 5) then (n_scatter row4 0 (n_immediateOfJ a1)) else (bif (n_eqb a0 6) then (n_or (n_scatter row5 0 (n_immediateOfB a1)) (n_shl (n_bits (n_fieldA a1) 2 0) 7)) else (bif (n_eqb a0 7) then (n_or (n_scatter row5 0 (n_immediateOfB a1)) (n_shl (n_bits (n_fieldA a1) 2 0) 7)) else (n_or (n_shl (n_fieldD a1) 7) (n_shl (n_fieldB a1) 2)))))))
theorem t_guessForLow1 (a0 a1 : Nat) : f_guessForLow1 (nI a0) (nI a1) = nI (n_guessForLow1 a0 a1) := by
  simp only [f_guessForLow1, n_guessForLow1, t_bits, t_fieldA, t_fieldB, t_fieldD, t_guessForArithmetic, t_immediateOfB, t_immediateOfI, t_immediateOfJ, t_scatter, tt_add, tt_sub, tt_mul, tt_and, tt_or, tt_xor, tt_shl, tt_sshr, tt_ushr, tt_eq, tt_eq0, tt_lt, tt_lt0, tt_0lt, tt_le, tt_le0, tt_0le]
def f_guessForLow2 (a0 a1 : Int32) : Int32 := (if a0 = nI 1 then (((f_fieldD a1) <<< ((nI 7) &&& 31)) ||| (f_scatter row6 (nI 0) (f_immediateOfI a1))) else (if a0 = nI 2 then (((f_fieldD a1) <<< ((nI 7) &&& 31)) ||| (f_scatter row7 (nI 0) (f_immediateOfI a1))) else (if a0 = nI 3 then (((f_fieldD a1) <<< ((nI 7) &&& 31)) ||| (f_scatter row6 (nI 0) (f_immediateOfI a1))) else (if a0 = nI 4 then (if (f_fieldC a1) = (nI 51) then (((f_fieldD a1) <<< ((nI 7) &&& 31)) ||| ((f_fieldB a1) <<< ((nI 2) &&& 31))) else ((f_fieldA a1) <<< ((nI 7) &&& 31))) else (if a0 = nI 5 then (((f_fieldB a1) <<< ((nI 2) &&& 31)) ||| (f_scatter row8 (nI 0) (f_immediateOfS a1))) else (if a0 = nI 6 then (((f_fieldB a1) <<< ((nI 2) &&& 31)) ||| (f_scatter row9 (nI 0) (f_immediateOfS a1))) else (if a0 = nI 7 then (((f_fieldB a1) <<< ((nI 2) &&& 31)) ||| (f_scatter row8 (nI 0) (f_immediateOfS a1))) else (((f_fieldD a1) <<< ((nI 7) &&& 31)) ||| ((f_fieldB a1) <<< ((nI 2) &&& 31))))))))))
def n_guessForLow2 (a0 a1 : Nat) : Nat := (bif (n_eqb a0 1) then (n_or (n_shl (n_fieldD a1) 7) (n_scatter row6 0 (n_immediateOfI a1))) else (bif (n_eqb a0 2) then (n_or (n_shl (n_fieldD a1) 7) (n_scatter row7 0 (n_immediateOfI a1))) else (bif (n_eqb a0 3) then (n_or (n_shl (n_fieldD a1) 7) (n_scatter row6 0 (n_immediateOfI a1))) else (bif (n_eqb a0 4) then (bif (n_eqb (n_fieldC a1) 51) then (n_or (n_shl (n_fieldD a1) 7) (n_shl (n_fieldB a1) 2)) else (n_shl (n_fieldA a1) 7)) else (bif (n_eqb a0 5) then (n_or (n_shl (n_fieldB a1) 2) (n_scatter row8 0 (n_immediateOfS a1))) else (bif (n_eqb a0 6) then (n_or (n_shl (n_fieldB a1) 2) (n_scatter row9 0 (n_immediateOfS a1))) else (bif (n_eqb a0 7) then (n_or (n_shl (n_fieldB a1) 2) (n_scatter row8 0 (n_immediateOfS a1))) else (n_or (n_shl (n_fieldD a1) 7) (n_shl (n_fieldB a1) 2)))))))))
theorem t_guessForLow2 (a0 a1 : Nat) : f_guessForLow2 (nI a0) (nI a1) = nI (n_guessForLow2 a0 a1) := by
  simp only [f_guessForLow2, n_guessForLow2, t_fieldA, t_fieldB, t_fieldC, t_fieldD, t_immediateOfI, t_immediateOfS, t_scatter, tt_add, tt_sub, tt_mul, tt_and, tt_or, tt_xor, tt_shl, tt_sshr, tt_ushr, tt_eq, tt_eq0, tt_lt, tt_lt0, tt_0lt, tt_le, tt_le0, tt_0le]
def f_guessOpenBits (a0 a1 a2 : Int32) : Int32 := (if a0 = nI 0 then (f_guessForLow0 a1 a2) else (if a0 = nI 1 then (f_guessForLow1 a1 a2) else (if a0 = nI 2 then (f_guessForLow2 a1 a2) else (nI 0))))
def n_guessOpenBits (a0 a1 a2 : Nat) : Nat := (bif (n_eqb a0 0) then (n_guessForLow0 a1 a2) else (bif (n_eqb a0 1) then (n_guessForLow1 a1 a2) else (bif (n_eqb a0 2) then (n_guessForLow2 a1 a2) else 0)))
theorem t_guessOpenBits (a0 a1 a2 : Nat) : f_guessOpenBits (nI a0) (nI a1) (nI a2) = nI (n_guessOpenBits a0 a1 a2) := by
  simp only [f_guessOpenBits, n_guessOpenBits, t_guessForLow0, t_guessForLow1, t_guessForLow2, tt_add, tt_sub, tt_mul, tt_and, tt_or, tt_xor, tt_shl, tt_sshr, tt_ushr, tt_eq, tt_eq0, tt_lt, tt_lt0, tt_0lt, tt_le, tt_le0, tt_0le]
def f_halfOfKind (a0 a1 : Int32) : Int32 := (if a1 = 0 then (nI 4294967295) else (if (f_wordFor ((((a0 >>> ((nI 2) &&& 31)) <<< ((nI 12) &&& 31)) ||| ((f_guessOpenBits (a0 &&& (nI 3)) ((a0 >>> ((nI 2) &&& 31)) >>> ((nI 1) &&& 31)) a1) &&& (nI 4092))) ||| (a0 &&& (nI 3)))) = a1 then ((((a0 >>> ((nI 2) &&& 31)) <<< ((nI 12) &&& 31)) ||| ((f_guessOpenBits (a0 &&& (nI 3)) ((a0 >>> ((nI 2) &&& 31)) >>> ((nI 1) &&& 31)) a1) &&& (nI 4092))) ||| (a0 &&& (nI 3))) else (nI 4294967295)))
def n_halfOfKind (a0 a1 : Nat) : Nat := (bif (n_eqb a1 0) then 4294967295 else (bif (n_eqb (n_wordFor (n_or (n_or (n_shl (n_sshr a0 2) 12) (n_and (n_guessOpenBits (n_and a0 3) (n_sshr (n_sshr a0 2) 1) a1) 4092)) (n_and a0 3))) a1) then (n_or (n_or (n_shl (n_sshr a0 2) 12) (n_and (n_guessOpenBits (n_and a0 3) (n_sshr (n_sshr a0 2) 1) a1) 4092)) (n_and a0 3)) else 4294967295))
theorem t_halfOfKind (a0 a1 : Nat) : f_halfOfKind (nI a0) (nI a1) = nI (n_halfOfKind a0 a1) := by
  simp only [f_halfOfKind, n_halfOfKind, t_guessOpenBits, t_wordFor, tt_add, tt_sub, tt_mul, tt_and, tt_or, tt_xor, tt_shl, tt_sshr, tt_ushr, tt_eq, tt_eq0, tt_lt, tt_lt0, tt_0lt, tt_le, tt_le0, tt_0le]
