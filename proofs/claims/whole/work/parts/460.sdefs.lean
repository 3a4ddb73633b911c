/-! the reference's search: what its two loops have in hand -/
abbrev hF (g k : Int32) : Int32 := ((((g &&& (nI 7)) <<< ((nI 13) &&& 31)) ||| (k <<< ((nI 2) &&& 31))) ||| (g >>> ((nI 3) &&& 31)))
/-- behind n places of the group g, from the top: the least find, one more than it, and how many -/
def f_ta (g : Int32) (w : Int32) : Nat → Int64 × Int32
  | 0 => (lN 0, nI 0)
  | n + 1 => if f_M_couldBe g (nI (4294969343 - n)) w = 0 then f_ta g w n else if f_M_wordOf (hF g (nI (4294969343 - n))) = w then ((hF g (nI (4294969343 - n))).toInt64 + lN 1, (f_ta g w n).2 + nI 1) else f_ta g w n
theorem f_ta_s (g : Int32) (w : Int32) (n : Nat) : f_ta g w (n + 1) = if f_M_couldBe g (nI (4294969343 - n)) w = 0 then f_ta g w n else if f_M_wordOf (hF g (nI (4294969343 - n))) = w then ((hF g (nI (4294969343 - n))).toInt64 + lN 1, (f_ta g w n).2 + nI 1) else f_ta g w n := rfl
def f_tr (g w : Int32) : Int64 := (f_ta g w 2048).2.toInt64 + lN 4096 * (f_ta g w 2048).1
abbrev s_half (f : Int64) : Int32 := (f / lN 4096).toInt32 - nI 1
abbrev s_many (f : Int64) : Int32 := (f - f / lN 4096 * lN 4096).toInt32
/-- behind n groups: how many, and the least -/
def f_se (w : Int32) : Nat → Int32 × Int32
  | 0 => (nI 0, nI 4294967295)
  | g + 1 => if (((f_M_groups (w &&& nI 127)) >>> ((nI g) &&& 31)) &&& nI 1) = nI 1 then ((f_se w g).1 + s_many (f_tr (nI g) w), if s_half (f_tr (nI g) w) < 0 then (f_se w g).2 else if (f_se w g).2 < 0 then s_half (f_tr (nI g) w) else if (f_se w g).2 ≤ s_half (f_tr (nI g) w) then (f_se w g).2 else s_half (f_tr (nI g) w)) else f_se w g
theorem f_se_s (w : Int32) (g : Nat) : f_se w (g + 1) = if (((f_M_groups (w &&& nI 127)) >>> ((nI g) &&& 31)) &&& nI 1) = nI 1 then ((f_se w g).1 + s_many (f_tr (nI g) w), if s_half (f_tr (nI g) w) < 0 then (f_se w g).2 else if (f_se w g).2 < 0 then s_half (f_tr (nI g) w) else if (f_se w g).2 ≤ s_half (f_tr (nI g) w) then (f_se w g).2 else s_half (f_tr (nI g) w)) else f_se w g := rfl
def f_sr (w : Int32) (n : Nat) (cb : Int32) : Int32 := if cb = 0 then (f_se w n).2 else (f_se w n).1
section LQ
variable {p : Program} {l : Launch} {e : Env} {R : Room} {s : State} {m : MethodId} {args : Array Value} {below : List Frame} {meth : Method} {c : Code} {H : Heap} {locs : List Loc} {cells slots : Nat} {Q : State → Prop}
variable {pc : Nat} {ls : Array Slot} {rest st0 : List Value} {a : Array Value} {A0 A1 : Nat → Prop} {H0 : Heap} {mc ms : Nat} {free : Addr → Prop}
theorem callQl {X : Int64} {B : Int32 → State → Prop} (hr : va_Run p l e R s m args below meth c H locs cells slots mc ms (F0 m pc ls st0) rest (va_Ql (fun r (_ : Int32) => r = X) B A1 a) free) (hS : va_S A0 H0 H locs) (hA : ∀ q, q < H.size → A1 q → A0 q) (hf : ∀ q, free q → A0 q)
    (kk : ∀ (u : Int32) (t : State) (H1 : Heap) (locs1 : List Loc), t.heap = H1 → s.vm.Alike t.vm → B u t → H.size ≤ H1.size → (∀ q : Nat, q < H.size → ¬ A1 q → H1[q]? = H[q]?) → va_S A0 H0 H1 locs1 → W p l e R s m args below meth c H1 locs1 (cells + mc) (slots + ms) Q (F0 m (pc + 3) ls (.long X :: rest))) : W p l e R s m args below meth c H locs cells slots Q (F0 m pc ls st0) :=
  va_calll hr hS hA hf (fun r u t H1 locs1 h1 h2 h3 h4 h5 h6 h7 => by have h3 : r = X := h3; rw [h3]; exact kk u t H1 locs1 h1 h2 h4 h5 h6 h7)
theorem callQi {X : Int32} {B : Int32 → State → Prop} (hr : va_Run p l e R s m args below meth c H locs cells slots mc ms (F0 m pc ls st0) rest (va_Qi (fun r (_ : Int32) => r = X) B A1 a) free) (hS : va_S A0 H0 H locs) (hA : ∀ q, q < H.size → A1 q → A0 q) (hf : ∀ q, free q → A0 q)
    (kk : ∀ (u : Int32) (t : State) (H1 : Heap) (locs1 : List Loc), t.heap = H1 → s.vm.Alike t.vm → B u t → H.size ≤ H1.size → (∀ q : Nat, q < H.size → ¬ A1 q → H1[q]? = H[q]?) → va_S A0 H0 H1 locs1 → W p l e R s m args below meth c H1 locs1 (cells + mc) (slots + ms) Q (F0 m (pc + 3) ls (.int X :: rest))) : W p l e R s m args below meth c H locs cells slots Q (F0 m pc ls st0) :=
  va_calli hr hS hA hf (fun r u t H1 locs1 h1 h2 h3 h4 h5 h6 h7 => by have h3 : r = X := h3; rw [h3]; exact kk u t H1 locs1 h1 h2 h4 h5 h6 h7)
end LQ
