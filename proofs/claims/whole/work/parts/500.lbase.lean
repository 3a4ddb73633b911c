/-! the law's own two helpers: the class's call, and its exception caught -/
abbrev l_B (dC : Nat → ClassId) (dI : Nat → Nat → Nat) (t : Nat → Nat) (sz : Nat) (cA : ClassId) (ws : va_W) (U : State) : Prop := U.heap.size = sz ∧ va_P (dC, dI) classes ws U.heap ∧ va_K (dC, dI) classes [(cA, .long)] U ∧ va_D (fun _ => True) ws ∧ tbA (va_A ws sz) t U U.heap
abbrev at_L (dC : Nat → ClassId) (dI : Nat → Nat → Nat) (A : Nat → Prop) (cA : ClassId) (ws : va_W) (t : State) : Prop := va_P (dC, dI) classes ws t.heap ∧ va_K (dC, dI) classes [(cA, .long)] t ∧ va_D A ws
theorem l_blind {dC : Nat → ClassId} {dI : Nat → Nat → Nat} {t : Nat → Nat} {sz : Nat} {cA : ClassId} {ws : va_W} {As : List Value} : FrameBlind (va_Pc As (l_B dC dI t sz cA ws)) := fun a U g mk q => by
  obtain ⟨q0, q1, qP, qK, qD, qT⟩ := q
  exact ⟨q0, q1, qP, va_K.moved (u := U) (U := U.calling g mk a) (Vm.Alike.refl U.vm) qK, qD, tbA.moved (u := U) (U := U.calling g mk a) (Vm.Alike.refl U.vm) qT⟩
theorem l_blindX {dC : Nat → ClassId} {dI : Nat → Nat → Nat} {t : Nat → Nat} {sz : Nat} {cA : ClassId} {ws : va_W} {As : List Value} : FrameBlind (va_Pc As (fun U => l_B dC dI t sz cA ws U ∧ xx U)) := fun a U g mk q => ⟨q.1, (l_blind (As := As) a U g mk ⟨q.1, q.2.1⟩).2, q.2.2.blind⟩
theorem t_blind {dC : Nat → ClassId} {dI : Nat → Nat → Nat} {t : Nat → Nat} {sz : Nat} {ws : va_W} {A : Nat → Prop} {As : List Value} : FrameBlind (va_Pc As (fun U => o_B dC dI sz ws U ∧ tbA A t U U.heap)) := fun a U g mk q => ⟨q.1, (o_blind (As := As) a U g mk ⟨q.1, q.2.1⟩).2, tbA.moved (u := U) (U := U.calling g mk a) (Vm.Alike.refl U.vm) q.2.2⟩
theorem tb_preV {s : State} {H : Heap} {t : Nat → Nat} {h0 : Nat} {As : List Value} (h : tbs t s H) (hr : ∃ cell : Cell, H[h0]? = some cell ∧ cell.vm.isStatics = false ∧ s.vm.findClass R_S = some cell.cls) : PreV s H R_S h0 (va_Pc (.ref h0 :: As) (tb t)) As := ⟨(tb_preH (As := .ref h0 :: As) h).1, hr, (tb_preH (As := .ref h0 :: As) h).2⟩
theorem tbx_preV {s : State} {t : Nat → Nat} {h0 : Nat} {As : List Value} (h : tbs t s s.heap) (hX : xx s) (hr : ∃ cell : Cell, s.heap[h0]? = some cell ∧ cell.vm.isStatics = false ∧ s.vm.findClass R_S = some cell.cls) : PreV s s.heap R_S h0 (va_Pc (.ref h0 :: As) (fun U => tb t U ∧ xx U)) As :=
  ⟨fun a U g mk q => ⟨q.1, ((tb_preH (As := .ref h0 :: As) h).1 a U g mk ⟨q.1, q.2.1⟩).2, q.2.2.blind⟩, hr, fun U hU hW => ⟨rfl, ((tb_preH (As := .ref h0 :: As) h).2 U hU hW).2, hX.go hW hU (fun _ _ => rfl)⟩⟩
theorem xe_fw : Cond.castable xE xE ∈ fw := by decide +kernel
/-- the words of a static call of a method with an exception table -/
theorem gSW {c : Cond} {own : String} {idx : Nat} {y : MethodName} (h1 : Cond.methodLink own idx y ∈ aw) (h2 : Cond.static y ∈ aw) (h3 : Cond.initialized y.cls ∈ aw) (h4 : c ∈ aw) : GoodIn aw (va_wsS own idx y (c :: aw)) := by
  refine gAny (fun _ h => h) (fun w hw => ?_)
  unfold va_wsS at hw
  rcases List.mem_append.mp hw with h | h
  · simp only [List.mem_cons, List.not_mem_nil, or_false] at h
    rcases h with rfl | rfl | rfl
    · exact h1
    · exact h2
    · exact h3
  · exact aw_cons h4 w h
