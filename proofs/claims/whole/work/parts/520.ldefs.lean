/-! the law's loop: what stays, what moves -/
abbrev l_A (s : State) : Nat → Prop := fun q => s.heap.size ≤ q
def l_F (p : Program) (s : State) (m : MethodId) (c : Code) (b L : Nat) (xs : Nat → Int32) (t : Nat → Nat) (dC : Nat → ClassId) (dI : Nat → Nat → Nat) (cA : ClassId) : Prop :=
  p.tables.exec = Jvm.exec ∧ c.code = b_L_law ∧ c.maxLocals = 7 ∧ s.vm.findClass R_L = some m.cls ∧ (∀ w ∈ aw, w.before #[Value.ref b] s = true) ∧ va_X b L xs s s.heap ∧ b < s.heap.size ∧ va_K (dC, dI) classes [(cA, .long)] s ∧ tbA (l_A s) t s s.heap ∧ xx s ∧ L ≤ 1024
def l_at (dC : Nat → ClassId) (dI : Nat → Nat → Nat) (cA : ClassId) (q0 q1 q2 : Nat) (s : State) (w wh lw ll wc th hh : Int32) (f : Nat → Int64) (H : Heap) (locs : List Loc) : Prop :=
  va_P (dC, dI) classes [(q0, .inr (0, [.int w, .int wh, .int lw, .int ll, .int wc])), (q1, .inr (1, [.int th, .int hh, .int w, .int wh, .int lw, .int ll, .int wc])), (q2, .inl (cA, 1, .inr (.inl f)))] H ∧ va_D (l_A s) [(q0, .inr (0, [.int w, .int wh, .int lw, .int ll, .int wc])), (q1, .inr (1, [.int th, .int hh, .int w, .int wh, .int lw, .int ll, .int wc])), (q2, .inl (cA, 1, .inr (.inl f)))] ∧ va_S (l_A s) s.heap H locs ∧ (w = nI 0 ∨ w = nI 1)
abbrev l_lv (b q0 q1 q2 j : Nat) : List (Nat × Value) := [(0, .ref b), (1, .ref q0), (2, .ref q1), (3, .ref q2), (4, .int (nI (2 * j)))]
def l_K (p : Program) (l : Launch) (e : Env) (s : State) (m : MethodId) (below : List Frame) (meth : Method) (c : Code) (Q : State → Prop) (b : Nat) (dC : Nat → ClassId) (dI : Nat → Nat → Nat) (cA : ClassId) (q0 q1 q2 j : Nat) : Prop :=
  ∀ (w wh lw ll wc th hh : Int32) (f : Nat → Int64) (H : Heap) (locs : List Loc) (ls : Array Slot), l_at dC dI cA q0 q1 q2 s w wh lw ll wc th hh f H locs → lv_has ls 7 (l_lv b q0 q1 q2 j) → W p l e room_1 s m #[Value.ref b] below meth c H locs (3 + (j + 1)) (13 + 6 * (j + 1)) Q (F0 m 305 ls [])
theorem r_preV {s : State} {H : Heap} {C : String} {dC : Nat → ClassId} {dI : Nat → Nat → Nat} {ws : va_W} {h0 : Nat} (hr : ∃ cell : Cell, H[h0]? = some cell ∧ cell.vm.isStatics = false ∧ s.vm.findClass C = some cell.cls) (hP : va_P (dC, dI) classes ws H) (hK : va_K (dC, dI) classes [] s) : PreV s H C h0 (va_Pc [.ref h0] (fun U => va_P (dC, dI) classes ws U.heap ∧ va_K (dC, dI) classes [] U)) [] :=
  ⟨fun a U g mk q => ⟨q.1, q.2.1, va_K.moved (u := U) (U := U.calling g mk a) (Vm.Alike.refl U.vm) q.2.2⟩, hr, fun U hU hW => ⟨rfl, by rw [hU]; exact hP, va_K.moved hW.alike hK⟩⟩
theorem o_preV {s : State} {H : Heap} {C : String} {dC : Nat → ClassId} {dI : Nat → Nat → Nat} {ws : va_W} {A : Nat → Prop} {h0 : Nat} {As : List Value} (hr : ∃ cell : Cell, H[h0]? = some cell ∧ cell.vm.isStatics = false ∧ s.vm.findClass C = some cell.cls) (hP : va_P (dC, dI) classes ws H) (hK : va_K (dC, dI) classes [] s) (hD : va_D A ws) : PreV s H C h0 (va_Pc (.ref h0 :: As) (o_B dC dI H.size ws)) As :=
  ⟨o_blind, hr, fun U hU hW => ⟨rfl, by rw [hU], by rw [hU]; exact hP, va_K.moved hW.alike hK, hD.weaken (fun _ _ _ _ => trivial)⟩⟩
theorem l_preS {s : State} {H : Heap} {dC : Nat → ClassId} {dI : Nat → Nat → Nat} {t : Nat → Nat} {cA : ClassId} {ws : va_W} {A : Nat → Prop} {As : List Value} (hP : va_P (dC, dI) classes ws H) (hK : va_K (dC, dI) classes [(cA, .long)] s) (hD : va_D A ws) (hT : tbA (va_A ws H.size) t s H) : PreS s H (va_Pc As (l_B dC dI t H.size cA ws)) As :=
  ⟨l_blind, fun U hU hW => ⟨rfl, by rw [hU], by rw [hU]; exact hP, va_K.moved hW.alike hK, hD.weaken (fun _ _ _ _ => trivial), by rw [hU]; exact tbA.moved hW.alike hT⟩⟩
theorem l_preX {s : State} {H : Heap} {dC : Nat → ClassId} {dI : Nat → Nat → Nat} {t : Nat → Nat} {cA : ClassId} {ws : va_W} {A : Nat → Prop} {As : List Value} (hP : va_P (dC, dI) classes ws H) (hK : va_K (dC, dI) classes [(cA, .long)] s) (hD : va_D A ws) (hT : tbA (va_A ws H.size) t s H) (hX : xx s) (hq : ∀ a : Nat, a < s.heap.size → H[a]? = s.heap[a]?) : PreS s H (va_Pc As (fun U => l_B dC dI t H.size cA ws U ∧ xx U)) As :=
  ⟨l_blindX, fun U hU hW => ⟨rfl, ((l_preS (As := As) hP hK hD hT).2 U hU hW).2, hX.go hW hU hq⟩⟩
section LB
variable {p : Program} {l : Launch} {e : Env} {R : Room} {s : State} {m : MethodId} {args : Array Value} {below : List Frame} {meth : Method} {c : Code} {H : Heap} {locs : List Loc} {cells slots : Nat} {Q : State → Prop}
variable {pc : Nat} {ls : Array Slot} {rest st0 : List Value} {a : Array Value} {A0 A1 : Nat → Prop} {H0 : Heap} {mc ms : Nat} {free : Addr → Prop}
/-- a call whose answer and whose state behind it are told by terms -/
theorem callG {S : Type} {post : Int32 → S → Prop} {X : Int32} {Y : S} {B : S → State → Prop} (hr : va_Run p l e R s m args below meth c H locs cells slots mc ms (F0 m pc ls st0) rest (va_Qi post B A1 a) free) (hG : ∀ r u, post r u → r = X ∧ u = Y) (hS : va_S A0 H0 H locs) (hA : ∀ q, q < H.size → A1 q → A0 q) (hf : ∀ q, free q → A0 q)
    (kk : ∀ (t : State) (H1 : Heap) (locs1 : List Loc), t.heap = H1 → s.vm.Alike t.vm → B Y t → H.size ≤ H1.size → (∀ q : Nat, q < H.size → ¬ A1 q → H1[q]? = H[q]?) → va_S A0 H0 H1 locs1 → W p l e R s m args below meth c H1 locs1 (cells + mc) (slots + ms) Q (F0 m (pc + 3) ls (.int X :: rest))) : W p l e R s m args below meth c H locs cells slots Q (F0 m pc ls st0) :=
  va_calli hr hS hA hf (fun r u t H1 locs1 h1 h2 h3 h4 h5 h6 h7 => by
    obtain ⟨e1, e2⟩ := hG r u h3
    rw [e2] at h4
    rw [e1]
    exact kk t H1 locs1 h1 h2 h4 h5 h6 h7)
/-- the second of a pair of the script's ints, onto the stack -/
theorem l_arg {b L j : Nat} {xs : Nat → Int32} {lv : List (Nat × Value)} {i0 i4 : Nat} {x : Int32} (hx : p.tables.exec = Jvm.exec) (hb : c.code = b_L_law) (hX : va_X b L xs s s.heap) (hbl : b < s.heap.size) (hS : va_S (l_A s) s.heap H locs) (hl : lv_has ls 7 lv) (h0 : lv[i0]? = some (0, .ref b)) (h4 : lv[i4]? = some (4, .int (nI (2 * j)))) (hj : 2 * j + 2 ≤ L) (hL : L ≤ 1024) (ha : xs (2 * j + 1) = x)
    (d0 : decode b_L_law pc = .ok (.aload_n 0, 1)) (d1 : decode b_L_law (pc + 1) = .ok (.iload 4, 2)) (d3 : decode b_L_law (pc + 3) = .ok (.iconst 1, 1)) (d4 : decode b_L_law (pc + 4) = .ok (.iadd, 1)) (d5 : decode b_L_law (pc + 5) = .ok (.iaload, 1))
    (kk : W p l e R s m args below meth c H locs cells slots Q (F0 m (pc + 6) ls (.int x :: rest))) : W p l e R s m args below meth c H locs cells slots Q (F0 m pc ls rest) := by
  have hbA : ¬ l_A s b := Nat.not_le.mpr hbl
  refine lv_aload_n hx hb d0 rfl (lv_at hl i0 h0) ?_
  refine lv_iload hx hb d1 (lv_at hl i4 h4) ?_
  refine lv_iconst (v := nI 1) hx hb d3 (by decide) ?_
  refine lv_iadd hx hb d4 ?_
  rw [show nI (2 * j) + nI 1 = nI (2 * j + 1) from (Int32.ofNat_add (2 * j) 1).symm]
  refine va_sld hx hb hX hbl hbA hS (vp_in_nI (by omega) (by omega)) d5 ?_
  rw [nI_clamp (show 2 * j + 1 < 2 ^ 31 by omega), ha]
  exact kk
end LB
