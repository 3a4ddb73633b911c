/-! objects: the class's and the reference's, one cell each -/
abbrev at_S (dC : Nat → ClassId) (dI : Nat → Nat → Nat) (A : Nat → Prop) (h0 : Nat) (u : Int32 × Int32 × Int32 × Int32 × Int32) (t : State) : Prop := match u with
  | (w, wh, lw, ll, wc) => va_P (dC, dI) classes [(h0, .inr (0, [.int w, .int wh, .int lw, .int ll, .int wc]))] t.heap ∧ va_K (dC, dI) classes [] t ∧ va_D A [(h0, .inr (0, [.int w, .int wh, .int lw, .int ll, .int wc]))]
abbrev at_M (dC : Nat → ClassId) (dI : Nat → Nat → Nat) (A : Nat → Prop) (h1 : Nat) (u : Int32 × Int32 × Int32 × Int32 × Int32 × Int32 × Int32) (t : State) : Prop := match u with
  | (th, hh, wt, fi, wo, le, wn) => va_P (dC, dI) classes [(h1, .inr (1, [.int th, .int hh, .int wt, .int fi, .int wo, .int le, .int wn]))] t.heap ∧ va_K (dC, dI) classes [] t ∧ va_D A [(h1, .inr (1, [.int th, .int hh, .int wt, .int fi, .int wo, .int le, .int wn]))]
def tbA (A : Nat → Prop) (t : Nat → Nat) (U : State) (H : Heap) : Prop := ∀ (k : Nat) (q : String × List Nat), tabs[k]? = some q → va_Z "ShortForms" q.1 "[I" (.ref (t k)) A U H ∧ va_T .int (t k) q.2.length (fun j => .int (nI (q.2.getD j 0))) A U H
theorem tbA.moved {A : Nat → Prop} {t : Nat → Nat} {u U : State} {H : Heap} (hvm : u.vm.Alike U.vm) (h : tbA A t u H) : tbA A t U H := fun k q hk => ⟨va_Z.moved hvm (h k q hk).1, va_T.moved hvm (h k q hk).2⟩
theorem tbA.narrow {A B : Nat → Prop} {t : Nat → Nat} {U : State} {H : Heap} (h : tbA A t U H) (hAB : ∀ q, B q → A q) : tbA B t U H := fun k q hk => ⟨va_Z.narrow (h k q hk).1 hAB, va_T.narrow (h k q hk).2 hAB⟩
theorem tbA.kept {A : Nat → Prop} {t : Nat → Nat} {U : State} {H H1 : Heap} (h : tbA A t U H) (hq : ∀ a : Nat, a < H.size → ¬ A a → H1[a]? = H[a]?) : tbA A t U H1 := fun k q hk => ⟨va_Z.kept (h k q hk).1 hq, va_T.kept (h k q hk).2 hq⟩
theorem tb_keep {A : Nat → Prop} {t : Nat → Nat} {s : State} {H : Heap} {locs : List Loc} (h : tbA A t s s.heap) (hS : va_S A s.heap H locs) : tbs t s H := (h.kept hS.2.1).narrow (fun _ z => z.elim)
theorem tb_preH {s : State} {H : Heap} {t : Nat → Nat} {As : List Value} (h : tbs t s H) : PreS s H (va_Pc As (tb t)) As :=
  ⟨fun a U g mk q => ⟨q.1, fun k x hk => ⟨va_Z.moved (u := U) (U := U.calling g mk a) (Vm.Alike.refl U.vm) (q.2 k x hk).1, va_T.moved (u := U) (U := U.calling g mk a) (Vm.Alike.refl U.vm) (q.2 k x hk).2⟩⟩, fun U hU hW => ⟨rfl, fun k x hk => by rw [hU]; exact ⟨va_Z.moved hW.alike (h k x hk).1, va_T.moved hW.alike (h k x hk).2⟩⟩⟩
/-- what an object's method is begun with: its cell, and nothing of the frames -/
abbrev o_B (dC : Nat → ClassId) (dI : Nat → Nat → Nat) (sz : Nat) (ws : va_W) (U : State) : Prop := U.heap.size = sz ∧ va_P (dC, dI) classes ws U.heap ∧ va_K (dC, dI) classes [] U ∧ va_D (fun _ => True) ws
theorem o_blind {dC : Nat → ClassId} {dI : Nat → Nat → Nat} {sz : Nat} {ws : va_W} {As : List Value} : FrameBlind (va_Pc As (o_B dC dI sz ws)) := fun a U g mk q => by
  obtain ⟨q0, q1, qP, qK, qD⟩ := q
  exact ⟨q0, q1, qP, va_K.moved (u := U) (U := U.calling g mk a) (Vm.Alike.refl U.vm) qK, qD⟩
section OC
variable {p : Program} {l : Launch} {e : Env} {R : Room} {s : State} {m : MethodId} {args : Array Value} {below : List Frame} {meth : Method} {c : Code} {H : Heap} {locs : List Loc} {cells slots : Nat} {Q : State → Prop}
variable {pc : Nat} {ls : Array Slot} {rest st0 : List Value} {a : Array Value} {A0 A1 : Nat → Prop} {H0 : Heap} {mc ms : Nat} {free : Addr → Prop}
theorem callQ {X : Int32} {B : State → Prop} (hr : va_Run p l e R s m args below meth c H locs cells slots mc ms (F0 m pc ls st0) rest (va_Qi (fun r (_ : Unit) => r = X) (fun _ t => B t) A1 a) free) (hS : va_S A0 H0 H locs) (hA : ∀ q, q < H.size → A1 q → A0 q) (hf : ∀ q, free q → A0 q)
    (kk : ∀ (t : State) (H1 : Heap) (locs1 : List Loc), t.heap = H1 → s.vm.Alike t.vm → B t → H.size ≤ H1.size → (∀ q : Nat, q < H.size → ¬ A1 q → H1[q]? = H[q]?) → va_S A0 H0 H1 locs1 → W p l e R s m args below meth c H1 locs1 (cells + mc) (slots + ms) Q (F0 m (pc + 3) ls (.int X :: rest))) : W p l e R s m args below meth c H locs cells slots Q (F0 m pc ls st0) :=
  va_calli hr hS hA hf (fun r u t H1 locs1 h1 h2 h3 h4 h5 h6 h7 => by have h3 : r = X := h3; rw [h3]; exact kk t H1 locs1 h1 h2 h4 h5 h6 h7)
theorem callQv {B : State → Prop} (hr : va_Run p l e R s m args below meth c H locs cells slots mc ms (F0 m pc ls st0) rest (va_Qv (fun (_ : Unit) => True) (fun _ t => B t) A1 a) free) (hS : va_S A0 H0 H locs) (hA : ∀ q, q < H.size → A1 q → A0 q) (hf : ∀ q, free q → A0 q)
    (kk : ∀ (t : State) (H1 : Heap) (locs1 : List Loc), t.heap = H1 → s.vm.Alike t.vm → B t → H.size ≤ H1.size → (∀ q : Nat, q < H.size → ¬ A1 q → H1[q]? = H[q]?) → va_S A0 H0 H1 locs1 → W p l e R s m args below meth c H1 locs1 (cells + mc) (slots + ms) Q (F0 m (pc + 3) ls rest)) : W p l e R s m args below meth c H locs cells slots Q (F0 m pc ls st0) :=
  va_callv hr hS hA hf (fun u t H1 locs1 h1 h2 _ h4 h5 h6 h7 => kk t H1 locs1 h1 h2 h4 h5 h6 h7)
end OC
