set_option maxHeartbeats 40000000 in
set_option maxRecDepth 100000 in
theorem c_M_couldBe (l : Launch) (a0 a1 a2 : Int32) : Met l y_M_couldBe w_M_couldBe { frames := 0, cells := 0, slots := 0, locals := 0 } (va_Pc [.int a0, .int a1, .int a2] (tt0)) (vp_Si (fun r => r = f_M_couldBe a0 a1 a2)) 0 0 (fun _ => False) := by
  refine Met.ofW (cc := b_M_couldBe) (maxL := 6) (ret := (some .boolean)) (by decide) rfl ?_
  intro p e s m args below meth c s₁ B hml hv
  obtain ⟨rfl, hT⟩ := hv
  have hx := B.exec
  have hb := B.bytes
  have hr := B.returns
  have hts := atoms_spec (ws := w_M_couldBe) B.pre
  have hown : s.vm.findClass R_M = some m.cls := findClass_of_methodNamed B.named
  have hlocks := B.notSynchronized
  have hl := lv_entry ([.int a0, .int a1, .int a2]) (n := 6) (Nat.le_of_ble_eq_true rfl)
  rw [lg_entry_eq]
  generalize (lg_sl ([.int a0, .int a1, .int a2]) ++ List.replicate (6 - (lg_sl ([.int a0, .int a1, .int a2])).length) Slot.unset).toArray = ls at hl ⊢
  have hl : lv_has ls 6 [(0, .int a0), (1, .int a1), (2, .int a2)] := hl
  refine lv_iload_n hx hb d_M_couldBe_0 rfl (lv_at hl 2 rfl) ?_
  refine lv_bipush (v := nI 7) hx hb d_M_couldBe_1 (by decide) ?_
  refine lv_ishr hx hb d_M_couldBe_3 ?_
  refine lv_bipush (v := nI 31) hx hb d_M_couldBe_4 (by decide) ?_
  refine lv_iand hx hb d_M_couldBe_6 ?_
  refine lv_istore_n (lv' := [(3, .int ((a2 >>> ((nI 7) &&& 31)) &&& (nI 31))), (0, .int a0), (1, .int a1), (2, .int a2)]) hx hb d_M_couldBe_7 rfl hl (by decide) rfl (fun ls hl => ?_)
  refine lv_iload_n hx hb d_M_couldBe_8 rfl (lv_at hl 3 rfl) ?_
  refine lv_bipush (v := nI 15) hx hb d_M_couldBe_9 (by decide) ?_
  refine lv_ishr hx hb d_M_couldBe_11 ?_
  refine lv_bipush (v := nI 31) hx hb d_M_couldBe_12 (by decide) ?_
  refine lv_iand hx hb d_M_couldBe_14 ?_
  refine lv_istore (lv' := [(4, .int ((a2 >>> ((nI 15) &&& 31)) &&& (nI 31))), (3, .int ((a2 >>> ((nI 7) &&& 31)) &&& (nI 31))), (0, .int a0), (1, .int a1), (2, .int a2)]) hx hb d_M_couldBe_15 hl (by decide) rfl (fun ls hl => ?_)
  refine lv_iload_n hx hb d_M_couldBe_17 rfl (lv_at hl 4 rfl) ?_
  refine lv_bipush (v := nI 20) hx hb d_M_couldBe_18 (by decide) ?_
  refine lv_ishr hx hb d_M_couldBe_20 ?_
  refine lv_bipush (v := nI 31) hx hb d_M_couldBe_21 (by decide) ?_
  refine lv_iand hx hb d_M_couldBe_23 ?_
  refine lv_istore (lv' := [(5, .int ((a2 >>> ((nI 20) &&& 31)) &&& (nI 31))), (4, .int ((a2 >>> ((nI 15) &&& 31)) &&& (nI 31))), (3, .int ((a2 >>> ((nI 7) &&& 31)) &&& (nI 31))), (0, .int a0), (1, .int a1), (2, .int a2)]) hx hb d_M_couldBe_24 hl (by decide) rfl (fun ls hl => ?_)
  refine lv_iload_n hx hb d_M_couldBe_26 rfl (lv_at hl 3 rfl) ?_
  refine lv_if_ne (tgt := 47) hx hb d_M_couldBe_27 (by decide) (fun c1 => ?_) (fun c1 => ?_)
  · refine lv_iload_n hx hb d_M_couldBe_47 rfl (lv_at hl 3 rfl) ?_
    refine lv_bipush (v := nI 8) hx hb d_M_couldBe_48 (by decide) ?_
    refine lv_icmp_lt (tgt := 71) hx hb d_M_couldBe_50 (by decide) (fun c2 => ?_) (fun c2 => ?_)
    · refine lv_bipush (v := nI 8) hx hb d_M_couldBe_71 (by decide) ?_
      refine lv_iload_n hx hb d_M_couldBe_73 rfl (lv_at hl 4 rfl) ?_
      refine lv_iconst (v := nI 5) hx hb d_M_couldBe_74 (by decide) ?_
      refine lv_ishr hx hb d_M_couldBe_75 ?_
      refine lv_bipush (v := nI 7) hx hb d_M_couldBe_76 (by decide) ?_
      refine lv_iand hx hb d_M_couldBe_78 ?_
      refine lv_iadd hx hb d_M_couldBe_79 ?_
      refine lv_iload hx hb d_M_couldBe_80 (lv_at hl 1 rfl) ?_
      refine lv_icmp_ne (tgt := 89) hx hb d_M_couldBe_82 (by decide) (fun c3 => ?_) (fun c3 => ?_)
      · refine lv_iconst (v := nI 0) hx hb d_M_couldBe_89 (by decide) ?_
        exact W.zret hx hb hr (by rfl) (fun t ht _ => ⟨_, rfl, by rw [f_M_couldBe, if_neg c1, if_pos c2, if_neg c3], ht⟩) (fun q h => nomatch h) d_M_couldBe_90
      · refine lv_iconst (v := nI 1) hx hb d_M_couldBe_85 (by decide) ?_
        refine lv_goto (tgt := 90) hx hb d_M_couldBe_86 (by decide) ?_
        exact W.zret hx hb hr (by rfl) (fun t ht _ => ⟨_, rfl, by rw [f_M_couldBe, if_neg c1, if_pos c2, if_pos c3], ht⟩) (fun q h => nomatch h) d_M_couldBe_90
    · refine lv_iload_n hx hb d_M_couldBe_53 rfl (lv_at hl 3 rfl) ?_
      refine lv_bipush (v := nI 12) hx hb d_M_couldBe_54 (by decide) ?_
      refine lv_icmp_eq (tgt := 71) hx hb d_M_couldBe_56 (by decide) (fun c4 => ?_) (fun c4 => ?_)
      · refine lv_bipush (v := nI 8) hx hb d_M_couldBe_71 (by decide) ?_
        refine lv_iload_n hx hb d_M_couldBe_73 rfl (lv_at hl 4 rfl) ?_
        refine lv_iconst (v := nI 5) hx hb d_M_couldBe_74 (by decide) ?_
        refine lv_ishr hx hb d_M_couldBe_75 ?_
        refine lv_bipush (v := nI 7) hx hb d_M_couldBe_76 (by decide) ?_
        refine lv_iand hx hb d_M_couldBe_78 ?_
        refine lv_iadd hx hb d_M_couldBe_79 ?_
        refine lv_iload hx hb d_M_couldBe_80 (lv_at hl 1 rfl) ?_
        refine lv_icmp_ne (tgt := 89) hx hb d_M_couldBe_82 (by decide) (fun c5 => ?_) (fun c5 => ?_)
        · refine lv_iconst (v := nI 0) hx hb d_M_couldBe_89 (by decide) ?_
          exact W.zret hx hb hr (by rfl) (fun t ht _ => ⟨_, rfl, by rw [f_M_couldBe, if_neg c1, if_neg c2, if_pos c4, if_neg c5], ht⟩) (fun q h => nomatch h) d_M_couldBe_90
        · refine lv_iconst (v := nI 1) hx hb d_M_couldBe_85 (by decide) ?_
          refine lv_goto (tgt := 90) hx hb d_M_couldBe_86 (by decide) ?_
          exact W.zret hx hb hr (by rfl) (fun t ht _ => ⟨_, rfl, by rw [f_M_couldBe, if_neg c1, if_neg c2, if_pos c4, if_pos c5], ht⟩) (fun q h => nomatch h) d_M_couldBe_90
      · refine lv_iload_n hx hb d_M_couldBe_59 rfl (lv_at hl 3 rfl) ?_
        refine lv_bipush (v := nI 14) hx hb d_M_couldBe_60 (by decide) ?_
        refine lv_icmp_eq (tgt := 71) hx hb d_M_couldBe_62 (by decide) (fun c6 => ?_) (fun c6 => ?_)
        · refine lv_bipush (v := nI 8) hx hb d_M_couldBe_71 (by decide) ?_
          refine lv_iload_n hx hb d_M_couldBe_73 rfl (lv_at hl 4 rfl) ?_
          refine lv_iconst (v := nI 5) hx hb d_M_couldBe_74 (by decide) ?_
          refine lv_ishr hx hb d_M_couldBe_75 ?_
          refine lv_bipush (v := nI 7) hx hb d_M_couldBe_76 (by decide) ?_
          refine lv_iand hx hb d_M_couldBe_78 ?_
          refine lv_iadd hx hb d_M_couldBe_79 ?_
          refine lv_iload hx hb d_M_couldBe_80 (lv_at hl 1 rfl) ?_
          refine lv_icmp_ne (tgt := 89) hx hb d_M_couldBe_82 (by decide) (fun c7 => ?_) (fun c7 => ?_)
          · refine lv_iconst (v := nI 0) hx hb d_M_couldBe_89 (by decide) ?_
            exact W.zret hx hb hr (by rfl) (fun t ht _ => ⟨_, rfl, by rw [f_M_couldBe, if_neg c1, if_neg c2, if_neg c4, if_pos c6, if_neg c7], ht⟩) (fun q h => nomatch h) d_M_couldBe_90
          · refine lv_iconst (v := nI 1) hx hb d_M_couldBe_85 (by decide) ?_
            refine lv_goto (tgt := 90) hx hb d_M_couldBe_86 (by decide) ?_
            exact W.zret hx hb hr (by rfl) (fun t ht _ => ⟨_, rfl, by rw [f_M_couldBe, if_neg c1, if_neg c2, if_neg c4, if_pos c6, if_pos c7], ht⟩) (fun q h => nomatch h) d_M_couldBe_90
        · refine lv_iload_n hx hb d_M_couldBe_65 rfl (lv_at hl 3 rfl) ?_
          refine lv_bipush (v := nI 15) hx hb d_M_couldBe_66 (by decide) ?_
          refine lv_icmp_ne (tgt := 91) hx hb d_M_couldBe_68 (by decide) (fun c8 => ?_) (fun c8 => ?_)
          · refine lv_iload_n hx hb d_M_couldBe_91 rfl (lv_at hl 3 rfl) ?_
            refine lv_bipush (v := nI 13) hx hb d_M_couldBe_92 (by decide) ?_
            refine lv_icmp_ne (tgt := 99) hx hb d_M_couldBe_94 (by decide) (fun c9 => ?_) (fun c9 => ?_)
            · refine lv_iload_n hx hb d_M_couldBe_99 rfl (lv_at hl 3 rfl) ?_
              refine lv_bipush (v := nI 20) hx hb d_M_couldBe_100 (by decide) ?_
              refine lv_icmp_ge (tgt := 123) hx hb d_M_couldBe_102 (by decide) (fun c10 => ?_) (fun c10 => ?_)
              · refine lv_iload_n hx hb d_M_couldBe_123 rfl (lv_at hl 3 rfl) ?_
                refine lv_bipush (v := nI 20) hx hb d_M_couldBe_124 (by decide) ?_
                refine lv_icmp_ne (tgt := 153) hx hb d_M_couldBe_126 (by decide) (fun c11 => ?_) (fun c11 => ?_)
                · refine lv_iload_n hx hb d_M_couldBe_153 rfl (lv_at hl 4 rfl) ?_
                  refine lv_bipush (v := nI 31) hx hb d_M_couldBe_154 (by decide) ?_
                  refine lv_iand hx hb d_M_couldBe_156 ?_
                  refine lv_iload hx hb d_M_couldBe_157 (lv_at hl 0 rfl) ?_
                  refine lv_icmp_ne (tgt := 166) hx hb d_M_couldBe_159 (by decide) (fun c12 => ?_) (fun c12 => ?_)
                  · refine lv_iconst (v := nI 0) hx hb d_M_couldBe_166 (by decide) ?_
                    exact W.zret hx hb hr (by rfl) (fun t ht _ => ⟨_, rfl, by rw [f_M_couldBe, if_neg c1, if_neg c2, if_neg c4, if_neg c6, if_neg c8, if_neg c9, if_pos c10, if_neg c11, if_neg c12], ht⟩) (fun q h => nomatch h) d_M_couldBe_167
                  · refine lv_iconst (v := nI 1) hx hb d_M_couldBe_162 (by decide) ?_
                    refine lv_goto (tgt := 167) hx hb d_M_couldBe_163 (by decide) ?_
                    exact W.zret hx hb hr (by rfl) (fun t ht _ => ⟨_, rfl, by rw [f_M_couldBe, if_neg c1, if_neg c2, if_neg c4, if_neg c6, if_neg c8, if_neg c9, if_pos c10, if_neg c11, if_pos c12], ht⟩) (fun q h => nomatch h) d_M_couldBe_167
                · refine lv_iload_n hx hb d_M_couldBe_129 rfl (lv_at hl 4 rfl) ?_
                  refine lv_bipush (v := nI 31) hx hb d_M_couldBe_130 (by decide) ?_
                  refine lv_iand hx hb d_M_couldBe_132 ?_
                  refine lv_if_eq (tgt := 145) hx hb d_M_couldBe_133 (by decide) (fun c13 => ?_) (fun c13 => ?_)
                  · refine lv_iconst (v := nI 1) hx hb d_M_couldBe_145 (by decide) ?_
                    refine lv_goto (tgt := 167) hx hb d_M_couldBe_146 (by decide) ?_
                    exact W.zret hx hb hr (by rfl) (fun t ht _ => ⟨_, rfl, by rw [f_M_couldBe, if_neg c1, if_neg c2, if_neg c4, if_neg c6, if_neg c8, if_neg c9, if_pos c10, if_pos c11, if_pos c13], ht⟩) (fun q h => nomatch h) d_M_couldBe_167
                  · refine lv_iload_n hx hb d_M_couldBe_136 rfl (lv_at hl 4 rfl) ?_
                    refine lv_bipush (v := nI 31) hx hb d_M_couldBe_137 (by decide) ?_
                    refine lv_iand hx hb d_M_couldBe_139 ?_
                    refine lv_iload hx hb d_M_couldBe_140 (lv_at hl 0 rfl) ?_
                    refine lv_icmp_ne (tgt := 149) hx hb d_M_couldBe_142 (by decide) (fun c14 => ?_) (fun c14 => ?_)
                    · refine lv_iconst (v := nI 0) hx hb d_M_couldBe_149 (by decide) ?_
                      refine lv_goto (tgt := 167) hx hb d_M_couldBe_150 (by decide) ?_
                      exact W.zret hx hb hr (by rfl) (fun t ht _ => ⟨_, rfl, by rw [f_M_couldBe, if_neg c1, if_neg c2, if_neg c4, if_neg c6, if_neg c8, if_neg c9, if_pos c10, if_pos c11, if_neg c13, if_neg c14], ht⟩) (fun q h => nomatch h) d_M_couldBe_167
                    · refine lv_iconst (v := nI 1) hx hb d_M_couldBe_145 (by decide) ?_
                      refine lv_goto (tgt := 167) hx hb d_M_couldBe_146 (by decide) ?_
                      exact W.zret hx hb hr (by rfl) (fun t ht _ => ⟨_, rfl, by rw [f_M_couldBe, if_neg c1, if_neg c2, if_neg c4, if_neg c6, if_neg c8, if_neg c9, if_pos c10, if_pos c11, if_neg c13, if_pos c14], ht⟩) (fun q h => nomatch h) d_M_couldBe_167
              · refine lv_iload_n hx hb d_M_couldBe_105 rfl (lv_at hl 4 rfl) ?_
                refine lv_iconst (v := nI 5) hx hb d_M_couldBe_106 (by decide) ?_
                refine lv_ishr hx hb d_M_couldBe_107 ?_
                refine lv_bipush (v := nI 31) hx hb d_M_couldBe_108 (by decide) ?_
                refine lv_iand hx hb d_M_couldBe_110 ?_
                refine lv_iload_n hx hb d_M_couldBe_111 rfl (lv_at hl 2 rfl) ?_
                refine lv_icmp_ne (tgt := 119) hx hb d_M_couldBe_112 (by decide) (fun c15 => ?_) (fun c15 => ?_)
                · refine lv_iconst (v := nI 0) hx hb d_M_couldBe_119 (by decide) ?_
                  refine lv_goto (tgt := 167) hx hb d_M_couldBe_120 (by decide) ?_
                  exact W.zret hx hb hr (by rfl) (fun t ht _ => ⟨_, rfl, by rw [f_M_couldBe, if_neg c1, if_neg c2, if_neg c4, if_neg c6, if_neg c8, if_neg c9, if_neg c10, if_neg c15], ht⟩) (fun q h => nomatch h) d_M_couldBe_167
                · refine lv_iconst (v := nI 1) hx hb d_M_couldBe_115 (by decide) ?_
                  refine lv_goto (tgt := 167) hx hb d_M_couldBe_116 (by decide) ?_
                  exact W.zret hx hb hr (by rfl) (fun t ht _ => ⟨_, rfl, by rw [f_M_couldBe, if_neg c1, if_neg c2, if_neg c4, if_neg c6, if_neg c8, if_neg c9, if_neg c10, if_pos c15], ht⟩) (fun q h => nomatch h) d_M_couldBe_167
            · refine lv_iconst (v := nI 1) hx hb d_M_couldBe_97 (by decide) ?_
              exact W.zret hx hb hr (by rfl) (fun t ht _ => ⟨_, rfl, by rw [f_M_couldBe, if_neg c1, if_neg c2, if_neg c4, if_neg c6, if_neg c8, if_pos c9], ht⟩) (fun q h => nomatch h) d_M_couldBe_98
          · refine lv_bipush (v := nI 8) hx hb d_M_couldBe_71 (by decide) ?_
            refine lv_iload_n hx hb d_M_couldBe_73 rfl (lv_at hl 4 rfl) ?_
            refine lv_iconst (v := nI 5) hx hb d_M_couldBe_74 (by decide) ?_
            refine lv_ishr hx hb d_M_couldBe_75 ?_
            refine lv_bipush (v := nI 7) hx hb d_M_couldBe_76 (by decide) ?_
            refine lv_iand hx hb d_M_couldBe_78 ?_
            refine lv_iadd hx hb d_M_couldBe_79 ?_
            refine lv_iload hx hb d_M_couldBe_80 (lv_at hl 1 rfl) ?_
            refine lv_icmp_ne (tgt := 89) hx hb d_M_couldBe_82 (by decide) (fun c16 => ?_) (fun c16 => ?_)
            · refine lv_iconst (v := nI 0) hx hb d_M_couldBe_89 (by decide) ?_
              exact W.zret hx hb hr (by rfl) (fun t ht _ => ⟨_, rfl, by rw [f_M_couldBe, if_neg c1, if_neg c2, if_neg c4, if_neg c6, if_pos c8, if_neg c16], ht⟩) (fun q h => nomatch h) d_M_couldBe_90
            · refine lv_iconst (v := nI 1) hx hb d_M_couldBe_85 (by decide) ?_
              refine lv_goto (tgt := 90) hx hb d_M_couldBe_86 (by decide) ?_
              exact W.zret hx hb hr (by rfl) (fun t ht _ => ⟨_, rfl, by rw [f_M_couldBe, if_neg c1, if_neg c2, if_neg c4, if_neg c6, if_pos c8, if_pos c16], ht⟩) (fun q h => nomatch h) d_M_couldBe_90
  · refine lv_bipush (v := nI 8) hx hb d_M_couldBe_30 (by decide) ?_
    refine lv_iload_n hx hb d_M_couldBe_32 rfl (lv_at hl 4 rfl) ?_
    refine lv_bipush (v := nI 7) hx hb d_M_couldBe_33 (by decide) ?_
    refine lv_iand hx hb d_M_couldBe_35 ?_
    refine lv_iadd hx hb d_M_couldBe_36 ?_
    refine lv_iload_n hx hb d_M_couldBe_37 rfl (lv_at hl 2 rfl) ?_
    refine lv_icmp_ne (tgt := 45) hx hb d_M_couldBe_38 (by decide) (fun c17 => ?_) (fun c17 => ?_)
    · refine lv_iconst (v := nI 0) hx hb d_M_couldBe_45 (by decide) ?_
      exact W.zret hx hb hr (by rfl) (fun t ht _ => ⟨_, rfl, by rw [f_M_couldBe, if_pos c1, if_neg c17], ht⟩) (fun q h => nomatch h) d_M_couldBe_46
    · refine lv_iconst (v := nI 1) hx hb d_M_couldBe_41 (by decide) ?_
      refine lv_goto (tgt := 46) hx hb d_M_couldBe_42 (by decide) ?_
      exact W.zret hx hb hr (by rfl) (fun t ht _ => ⟨_, rfl, by rw [f_M_couldBe, if_pos c1, if_pos c17], ht⟩) (fun q h => nomatch h) d_M_couldBe_46
