/-! what the Statement gives of the start: the tables, and what a throw asks -/
theorem tabs_ok : ∀ q ∈ tabs, q.2.length < 2 ^ 31 ∧ Cond.arrayOf (.static "ShortForms" q.1 "[I") .int ∈ flatC (Jvm.Cond.and given_1 narrow_1) ∧ Cond.eq (.length (.static "ShortForms" q.1 "[I")) (.int (Int32.ofNat q.2.length)) ∈ flatC (Jvm.Cond.and given_1 narrow_1) ∧ (∀ j, j < q.2.length → Cond.eq (.elem (.static "ShortForms" q.1 "[I") (.int (Int32.ofNat j))) (.int (nI (q.2.getD j 0))) ∈ flatC (Jvm.Cond.and given_1 narrow_1)) ∧ Cond.laysStatic "ShortForms" q.1 "[I" ∈ lw_tbl := by decide +kernel
theorem ini_ok : Cond.initialized "ShortForms" ∈ lw_tbl := by decide +kernel
theorem l_tabs {b : Nat} {s : State} {A : Nat → Prop} (hgv : (Jvm.Cond.and given_1 narrow_1).before #[Value.ref b] s = true) (hts : ∀ w ∈ lw_tbl, w.before #[Value.ref b] s = true) (hA : ∀ a : Nat, a < s.heap.size → ¬ A a) : ∃ t : Nat → Nat, tbA A t s s.heap := by
  have hs := flat_of_before _ hgv
  have h : ∀ k : Nat, ∃ t : Nat, ∀ q : String × List Nat, tabs[k]? = some q → va_Z "ShortForms" q.1 "[I" (.ref t) A s s.heap ∧ va_T .int t q.2.length (fun j => .int (nI (q.2.getD j 0))) A s s.heap := by
    intro k
    cases hk : tabs[k]? with
    | none => exact ⟨0, fun q hq => nomatch hq⟩
    | some q =>
      obtain ⟨h1, h2, h3, h4, h5⟩ := tabs_ok q (List.mem_of_getElem? hk)
      obtain ⟨t, ht, hT⟩ := va_Tof (A := A) (f := fun j => .int (nI (q.2.getD j 0))) h1 (hs _ h2) (va_eqt (hs _ h3)) (fun j hj => va_eqt (hs _ (h4 j hj))) hA
      refine ⟨t, fun q9 hq => ?_⟩
      cases hq
      exact ⟨va_Zref (hts _ h5) (hts _ ini_ok) ht hA, hT⟩
  exact ⟨fun k => (h k).choose, fun k q hk => (h k).choose_spec q hk⟩
theorem l_xx {b : Nat} {s : State} (hgv : (Jvm.Cond.and given_1 narrow_1).before #[Value.ref b] s = true) (hts : ∀ w ∈ lw_tbl, w.before #[Value.ref b] s = true) : xx s := by
  have hs := flat_of_before _ hgv
  obtain ⟨a, c, cA, kA, q1, -⟩ := Cond.exactly_spec (args := #[Value.ref b]) (first := s) (o := none) (s := s) (idx := []) (t := .string "ShortForms" 32) (cls := "java/lang/String") (hs (.exactly (.string "ShortForms" 32) "java/lang/String") (by decide +kernel))
  exact ⟨xz.of (hts (.laysStatic "java/lang/Throwable" "UNASSIGNED_STACK" "[Ljava/lang/StackTraceElement;") (by decide +kernel)) (hs (.isRef (.static "java/lang/Throwable" "UNASSIGNED_STACK" "[Ljava/lang/StackTraceElement;")) (by decide +kernel)), xz.of (hts (.laysStatic "java/lang/Throwable" "SUPPRESSED_SENTINEL" "Ljava/util/List;") (by decide +kernel)) (hs (.isRef (.static "java/lang/Throwable" "SUPPRESSED_SENTINEL" "Ljava/util/List;")) (by decide +kernel)), ⟨a, vk_R.of (hts (.stringRef "ShortForms" 32 "a half is 0 .. 65535") (by decide +kernel)) q1⟩, fun w hw => va_tabs (c := w) (fw_at hw).1 (A := #[Value.ref b]) (u := s) (U := s) rfl (hts w (List.mem_filter.mp hw).1)⟩
