/-! THE REFERENCE: put, found, join. -/
def x_put (M : wM) (r z : Int) : Int := if ¬ ((0 ≤ r ∧ r < M 17 0) ∧ 0 ≤ z ∧ z < M 12 0) then 1 else if ¬ M 4 z = M 13 r then 2 else if ¬ M 7 z = -1 ∨ (0 < M 16 r ∧ plM M z < plM M (lastM M r)) ∨ lentM M (M 4 z) = true then 3 else 0
def v_put (M : wM) (r z : Int) : Int := M 16 r + 1
def n_put (M : wM) (r z : Int) : wM := if x_put M r z = 0 then addsM (mup M 0 0 (x_put M r z)) r z 0 else (mup M 0 0 (x_put M r z))
set_option maxHeartbeats 4000000 in
set_option maxRecDepth 100000 in
theorem m_put (l : Launch) (hfl : l.stackTraces = false) {M : wM} {r z : Int} (h_r : rg r)  (h_z : rg z) (I : Inv M) : MC l yX6_put cX6_put 6 (some FieldType.int) 4 [.int (iN r), .int (iN z)] M (.inl (some (.int (iN (if x_put M r z = 0 then v_put M r z else 0))))) (n_put M r z) := by
  intro S0 o B hM0
  refine Ct.of cal_X6_put hfl (Nat.le_of_ble_eq_true rfl) ?_
  intro p e s m args below meth c D sz C ME
  have hM : RMF S0 S0 o B M := ⟨hM0, mF.rf⟩
  have I9 := I
  obtain ⟨i1, i2, i3, i3e, i4, i4e, i5, i6, i7, i8, i10, i11⟩ := I9
  obtain ⟨a1, a2, a3, a4, a5, a6, a7⟩ := id i1
  have key : ∀ (x : Int) (S : wS), x = x_put M r z → RMF S0 S o B M → J p l e { frames := 20 * 4, cells := 0, slots := 0, locals := 200 * 4 } s m args below meth c 6 D (wA S0 sz) (wQ below D sz S0 (fun r9 S9 => r9 = .inl (some (.int (iN (if x_put M r z = 0 then v_put M r z else 0)))) ∧ RMF S0 S9 o B (n_put M r z)) args s 0 0) 137 [(0, .ref o), (1, .int (iN (r))), (2, .int (iN (z)))] [.int (iN x), .ref o] S 0 0 := by
    intro x S hx hM
    subst hx
    refine j_mcall C hM (c_goesOn l hfl (by unfold x_put; (repeat' split) <;> (unfold rg; omega))) cal_X6_goesOn vi_X6_goesOn rfl ml_Mo_103 rfl rfl (Nat.le_of_ble_eq_true rfl) ⟨by decide, by decide⟩ ⟨by omega, by omega⟩ dX6_put_137 (fun S hM => ?_)
    refine j_ifne_b (tgt := 145) C dX6_put_140 (by decide) (fun c140 => ?_) (fun c140 => ?_)
    · try simp only [decide_eq_true_eq, decide_eq_false_iff_not] at c140
      try simp only [decide_eq_true_eq, decide_eq_false_iff_not] at c140
      have ok : ((0 ≤ r ∧ r < M 17 0) ∧ 0 ≤ z ∧ z < M 12 0) ∧ M 7 z = -1 := by
        clear I i1 i2 i3 i3e i4 i4e i5 i6 i7 i8 i10 i11; (try clear key); (try clear w2); (try clear w3); (try clear w4); (try clear w6); (try clear w7); (try clear w8); (try clear w9); (try clear p4); (try clear o4); unfold x_put at c140
        (repeat' split at c140) <;> first | rfl | omega | (simp_all; done) | (simp_all; omega)
      have w4 := i4 r (by omega) (by omega)
      have wl := reelM_lt i1 i4 (r := r) (s := z) (by omega) (by omega) (by omega)
      refine j_aload_n C dX6_put_145 rfl ?_
      refine j_iload_n C dX6_put_146 rfl ?_
      refine j_iload_n C dX6_put_147 rfl ?_
      refine j_iconst C dX6_put_148 ?_
      refine j_mcall C hM (c_adds l hfl (M := mup M 0 0 (x_put M r z)) (by omega) (by omega) (show 0 ≤ M 16 r ∧ M 16 r < 60 by omega)) cal_X6_adds vi_X6_adds rfl ml_Mo_134 rfl rfl (Nat.le_of_ble_eq_true rfl) ⟨by decide, by decide⟩ ⟨by omega, by omega⟩ dX6_put_149 (fun S hM => ?_)
      refine j_aload_n C dX6_put_152 rfl ?_
      refine j_mgeta C hM fl_Mo_49 (by decide) dX6_put_153 ?_
      refine j_iload_n C dX6_put_156 rfl ?_
      refine j_mald C hM (by decide) rfl (by simp only [mLen]; omega) dX6_put_157 ?_
      refine j_iret C ME ?_ (by omega) (by omega) dX6_put_158
      refine ⟨rI ?_, ?_⟩
      · first
        | (rw [if_neg c140]; done)
        | (rw [if_pos c140]; unfold v_put; simp [addsM, mup])
      · unfold n_put
        first
        | (rw [if_neg c140]; exact hM)
        | (rw [if_pos c140]; exact hM)
    · try simp only [decide_eq_true_eq, decide_eq_false_iff_not] at c140
      try simp only [decide_eq_true_eq, decide_eq_false_iff_not] at c140
      refine j_iconst C dX6_put_143 ?_
      refine j_iret C ME ?_ (by omega) (by omega) dX6_put_144
      refine ⟨rI ?_, ?_⟩
      · first
        | (rw [if_neg c140]; done)
        | (rw [if_pos c140]; unfold v_put; simp [addsM, mup])
      · unfold n_put
        first
        | (rw [if_neg c140]; exact hM)
        | (rw [if_pos c140]; exact hM)
  refine j_aload_n C dX6_put_0 rfl ?_
  refine j_iload_n C dX6_put_1 rfl ?_
  refine j_mcall C hM (c_isReel l hfl (by unfold rg at *; omega) (by omega)) cal_X6_isReel vi_X6_isReel rfl ml_Mo_118 rfl rfl (Nat.le_of_ble_eq_true rfl) ⟨by decide, by decide⟩ ⟨by omega, by omega⟩ dX6_put_2 (fun S hM => ?_)
  refine j_ifeq_b (tgt := 20) C dX6_put_5 (by decide) (fun c5 => ?_) (fun c5 => ?_)
  · try simp only [decide_eq_true_eq, decide_eq_false_iff_not] at c5
    refine j_iconst C dX6_put_20 ?_
    refine j_istore_n C dX6_put_21 (by decide) ?_
    refine j_iload_n C dX6_put_22 rfl ?_
    refine j_if_eq (tgt := 45) C dX6_put_23 (by decide) (by unfold rg at *; omega) (fun c23 => ?_) (fun c23 => ?_)
    · refine j_iconst C dX6_put_45 ?_
      refine j_istore C dX6_put_46 (by decide) ?_
      refine j_iload C dX6_put_48 rfl ?_
      refine j_if_eq (tgt := 106) C dX6_put_50 (by decide) (by unfold rg at *; omega) (fun c50 => ?_) (fun c50 => ?_)
      · refine j_iconst C dX6_put_106 ?_
        refine j_istore C dX6_put_107 (by decide) ?_
        refine j_aload_n C dX6_put_109 rfl ?_
        refine j_iload_n C dX6_put_110 rfl ?_
        refine j_if_ne (tgt := 118) C dX6_put_111 (by decide) (by unfold rg at *; omega) (fun c111 => ?_) (fun c111 => ?_)
        · exact absurd c111 (by decide)
        · refine j_iconst C dX6_put_114 ?_
          refine j_goto (tgt := 137) C dX6_put_115 (by decide) ?_
          refine J.lvs (lv' := [(0, .ref o), (1, .int (iN (r))), (2, .int (iN (z)))]) ?_ ?_
          · intro q hq; simp only [List.mem_cons, List.not_mem_nil, or_false] at hq; rcases hq with rfl | rfl | rfl <;> rfl
          · refine key _ _ (by clear I i1 i2 i3 i3e i4 i4e i5 i6 i7 i8 i10 i11; (try clear key); (try clear w2); (try clear w3); (try clear w4); (try clear w6); (try clear w7); (try clear w8); (try clear w9); (try clear p4); (try clear o4); (try simp only [decide_eq_true_eq, decide_eq_false_iff_not] at *); unfold x_put; (repeat' split) <;> first | rfl | omega | (simp_all; done) | (simp_all; omega)) hM
      · exact absurd c50 (by decide)
    · exact absurd c23 (by decide)
  · try simp only [decide_eq_true_eq, decide_eq_false_iff_not] at c5
    refine j_aload_n C dX6_put_8 rfl ?_
    refine j_iload_n C dX6_put_9 rfl ?_
    refine j_mcall C hM (c_isShot l hfl (by unfold rg at *; omega) (by omega)) cal_X6_isShot vi_X6_isShot rfl ml_Mo_121 rfl rfl (Nat.le_of_ble_eq_true rfl) ⟨by decide, by decide⟩ ⟨by omega, by omega⟩ dX6_put_10 (fun S hM => ?_)
    refine j_ifeq_b (tgt := 20) C dX6_put_13 (by decide) (fun c13 => ?_) (fun c13 => ?_)
    · try simp only [decide_eq_true_eq, decide_eq_false_iff_not] at c13
      refine j_iconst C dX6_put_20 ?_
      refine j_istore_n C dX6_put_21 (by decide) ?_
      refine j_iload_n C dX6_put_22 rfl ?_
      refine j_if_eq (tgt := 45) C dX6_put_23 (by decide) (by unfold rg at *; omega) (fun c23 => ?_) (fun c23 => ?_)
      · refine j_iconst C dX6_put_45 ?_
        refine j_istore C dX6_put_46 (by decide) ?_
        refine j_iload C dX6_put_48 rfl ?_
        refine j_if_eq (tgt := 106) C dX6_put_50 (by decide) (by unfold rg at *; omega) (fun c50 => ?_) (fun c50 => ?_)
        · refine j_iconst C dX6_put_106 ?_
          refine j_istore C dX6_put_107 (by decide) ?_
          refine j_aload_n C dX6_put_109 rfl ?_
          refine j_iload_n C dX6_put_110 rfl ?_
          refine j_if_ne (tgt := 118) C dX6_put_111 (by decide) (by unfold rg at *; omega) (fun c111 => ?_) (fun c111 => ?_)
          · exact absurd c111 (by decide)
          · refine j_iconst C dX6_put_114 ?_
            refine j_goto (tgt := 137) C dX6_put_115 (by decide) ?_
            refine J.lvs (lv' := [(0, .ref o), (1, .int (iN (r))), (2, .int (iN (z)))]) ?_ ?_
            · intro q hq; simp only [List.mem_cons, List.not_mem_nil, or_false] at hq; rcases hq with rfl | rfl | rfl <;> rfl
            · refine key _ _ (by clear I i1 i2 i3 i3e i4 i4e i5 i6 i7 i8 i10 i11; (try clear key); (try clear w2); (try clear w3); (try clear w4); (try clear w6); (try clear w7); (try clear w8); (try clear w9); (try clear p4); (try clear o4); (try simp only [decide_eq_true_eq, decide_eq_false_iff_not] at *); unfold x_put; (repeat' split) <;> first | rfl | omega | (simp_all; done) | (simp_all; omega)) hM
        · exact absurd c50 (by decide)
      · exact absurd c23 (by decide)
    · try simp only [decide_eq_true_eq, decide_eq_false_iff_not] at c13
      refine j_iconst C dX6_put_16 ?_
      refine j_goto (tgt := 21) C dX6_put_17 (by decide) ?_
      refine j_istore_n C dX6_put_21 (by decide) ?_
      refine j_iload_n C dX6_put_22 rfl ?_
      refine j_if_eq (tgt := 45) C dX6_put_23 (by decide) (by unfold rg at *; omega) (fun c23 => ?_) (fun c23 => ?_)
      · exact absurd c23 (by decide)
      · have w2 := i2 z (by omega) (by omega)
        have w4 := i4 r (by omega) (by omega)
        obtain ⟨p1, p2, p3, p4⟩ := plM_spec i1 i3 i2 i3e (s := z) (by omega) (by omega)
        have w3 := i3 (M 4 z) (by omega) (by omega)
        refine j_aload_n C dX6_put_26 rfl ?_
        refine j_mgeta C hM fl_Mo_16 (by decide) dX6_put_27 ?_
        refine j_iload_n C dX6_put_30 rfl ?_
        refine j_mald C hM (by decide) rfl (by simp only [mLen]; omega) dX6_put_31 ?_
        refine j_aload_n C dX6_put_32 rfl ?_
        refine j_mgeta C hM fl_Mo_40 (by decide) dX6_put_33 ?_
        refine j_iload_n C dX6_put_36 rfl ?_
        refine j_mald C hM (by decide) rfl (by simp only [mLen]; omega) dX6_put_37 ?_
        refine j_icmp_ne (tgt := 45) C dX6_put_38 (by decide) (by unfold rg at *; omega) (by unfold rg at *; omega) (fun c38 => ?_) (fun c38 => ?_)
        · refine j_iconst C dX6_put_45 ?_
          refine j_istore C dX6_put_46 (by decide) ?_
          refine j_iload C dX6_put_48 rfl ?_
          refine j_if_eq (tgt := 106) C dX6_put_50 (by decide) (by unfold rg at *; omega) (fun c50 => ?_) (fun c50 => ?_)
          · refine j_iconst C dX6_put_106 ?_
            refine j_istore C dX6_put_107 (by decide) ?_
            refine j_aload_n C dX6_put_109 rfl ?_
            refine j_iload_n C dX6_put_110 rfl ?_
            refine j_if_ne (tgt := 118) C dX6_put_111 (by decide) (by unfold rg at *; omega) (fun c111 => ?_) (fun c111 => ?_)
            · refine j_iload C dX6_put_118 rfl ?_
              refine j_if_ne (tgt := 127) C dX6_put_120 (by decide) (by unfold rg at *; omega) (fun c120 => ?_) (fun c120 => ?_)
              · exact absurd c120 (by decide)
              · refine j_iconst C dX6_put_123 ?_
                refine j_goto (tgt := 137) C dX6_put_124 (by decide) ?_
                refine J.lvs (lv' := [(0, .ref o), (1, .int (iN (r))), (2, .int (iN (z)))]) ?_ ?_
                · intro q hq; simp only [List.mem_cons, List.not_mem_nil, or_false] at hq; rcases hq with rfl | rfl | rfl <;> rfl
                · refine key _ _ (by clear I i1 i2 i3 i3e i4 i4e i5 i6 i7 i8 i10 i11; (try clear key); (try clear w2); (try clear w3); (try clear w4); (try clear w6); (try clear w7); (try clear w8); (try clear w9); (try clear p4); (try clear o4); (try simp only [decide_eq_true_eq, decide_eq_false_iff_not] at *); unfold x_put; (repeat' split) <;> first | rfl | omega | (simp_all; done) | (simp_all; omega)) hM
            · exact absurd c111 (by decide)
          · exact absurd c50 (by decide)
        · refine j_iconst C dX6_put_41 ?_
          refine j_goto (tgt := 46) C dX6_put_42 (by decide) ?_
          refine j_istore C dX6_put_46 (by decide) ?_
          refine j_iload C dX6_put_48 rfl ?_
          refine j_if_eq (tgt := 106) C dX6_put_50 (by decide) (by unfold rg at *; omega) (fun c50 => ?_) (fun c50 => ?_)
          · exact absurd c50 (by decide)
          · refine j_aload_n C dX6_put_53 rfl ?_
            refine j_mgeta C hM fl_Mo_25 (by decide) dX6_put_54 ?_
            refine j_iload_n C dX6_put_57 rfl ?_
            refine j_mald C hM (by decide) rfl (by simp only [mLen]; omega) dX6_put_58 ?_
            refine j_iconst C dX6_put_59 ?_
            refine j_icmp_ne (tgt := 102) C dX6_put_60 (by decide) (by unfold rg at *; omega) (by unfold rg at *; omega) (fun c60 => ?_) (fun c60 => ?_)
            · refine j_iconst C dX6_put_102 ?_
              refine j_goto (tgt := 107) C dX6_put_103 (by decide) ?_
              refine j_istore C dX6_put_107 (by decide) ?_
              refine j_aload_n C dX6_put_109 rfl ?_
              refine j_iload_n C dX6_put_110 rfl ?_
              refine j_if_ne (tgt := 118) C dX6_put_111 (by decide) (by unfold rg at *; omega) (fun c111 => ?_) (fun c111 => ?_)
              · refine j_iload C dX6_put_118 rfl ?_
                refine j_if_ne (tgt := 127) C dX6_put_120 (by decide) (by unfold rg at *; omega) (fun c120 => ?_) (fun c120 => ?_)
                · refine j_iload C dX6_put_127 rfl ?_
                  refine j_if_eq (tgt := 136) C dX6_put_129 (by decide) (by unfold rg at *; omega) (fun c129 => ?_) (fun c129 => ?_)
                  · exact absurd c129 (by decide)
                  · refine j_iconst C dX6_put_132 ?_
                    refine j_goto (tgt := 137) C dX6_put_133 (by decide) ?_
                    refine J.lvs (lv' := [(0, .ref o), (1, .int (iN (r))), (2, .int (iN (z)))]) ?_ ?_
                    · intro q hq; simp only [List.mem_cons, List.not_mem_nil, or_false] at hq; rcases hq with rfl | rfl | rfl <;> rfl
                    · refine key _ _ (by clear I i1 i2 i3 i3e i4 i4e i5 i6 i7 i8 i10 i11; (try clear key); (try clear w2); (try clear w3); (try clear w4); (try clear w6); (try clear w7); (try clear w8); (try clear w9); (try clear p4); (try clear o4); (try simp only [decide_eq_true_eq, decide_eq_false_iff_not] at *); unfold x_put; (repeat' split) <;> first | rfl | omega | (simp_all; done) | (simp_all; omega)) hM
                · exact absurd c120 (by decide)
              · exact absurd c111 (by decide)
            · refine j_aload_n C dX6_put_63 rfl ?_
              refine j_mgeta C hM fl_Mo_49 (by decide) dX6_put_64 ?_
              refine j_iload_n C dX6_put_67 rfl ?_
              refine j_mald C hM (by decide) rfl (by simp only [mLen]; omega) dX6_put_68 ?_
              refine j_if_le (tgt := 89) C dX6_put_69 (by decide) (by unfold rg at *; omega) (fun c69 => ?_) (fun c69 => ?_)
              · refine j_aload_n C dX6_put_89 rfl ?_
                refine j_aload_n C dX6_put_90 rfl ?_
                refine j_mgeta C hM fl_Mo_16 (by decide) dX6_put_91 ?_
                refine j_iload_n C dX6_put_94 rfl ?_
                refine j_mald C hM (by decide) rfl (by simp only [mLen]; omega) dX6_put_95 ?_
                refine j_mcall C hM (c_isLent l hfl (by unfold rg at *; omega) i1 i6 i8) cal_X6_isLent vi_X6_isLent rfl ml_Mo_131 rfl rfl (Nat.le_of_ble_eq_true rfl) ⟨by decide, by decide⟩ ⟨by omega, by omega⟩ dX6_put_96 (fun S hM => ?_)
                refine j_ifeq_b (tgt := 106) C dX6_put_99 (by decide) (fun c99 => ?_) (fun c99 => ?_)
                · try simp only [decide_eq_true_eq, decide_eq_false_iff_not] at c99
                  refine j_iconst C dX6_put_106 ?_
                  refine j_istore C dX6_put_107 (by decide) ?_
                  refine j_aload_n C dX6_put_109 rfl ?_
                  refine j_iload_n C dX6_put_110 rfl ?_
                  refine j_if_ne (tgt := 118) C dX6_put_111 (by decide) (by unfold rg at *; omega) (fun c111 => ?_) (fun c111 => ?_)
                  · refine j_iload C dX6_put_118 rfl ?_
                    refine j_if_ne (tgt := 127) C dX6_put_120 (by decide) (by unfold rg at *; omega) (fun c120 => ?_) (fun c120 => ?_)
                    · refine j_iload C dX6_put_127 rfl ?_
                      refine j_if_eq (tgt := 136) C dX6_put_129 (by decide) (by unfold rg at *; omega) (fun c129 => ?_) (fun c129 => ?_)
                      · refine j_iconst C dX6_put_136 ?_
                        refine J.lvs (lv' := [(0, .ref o), (1, .int (iN (r))), (2, .int (iN (z)))]) ?_ ?_
                        · intro q hq; simp only [List.mem_cons, List.not_mem_nil, or_false] at hq; rcases hq with rfl | rfl | rfl <;> rfl
                        · refine key _ _ (by clear I i1 i2 i3 i3e i4 i4e i5 i6 i7 i8 i10 i11; (try clear key); (try clear w2); (try clear w3); (try clear w4); (try clear w6); (try clear w7); (try clear w8); (try clear w9); (try clear p4); (try clear o4); (try simp only [decide_eq_true_eq, decide_eq_false_iff_not] at *); unfold x_put; (repeat' split) <;> first | rfl | omega | (simp_all; done) | (simp_all; omega)) hM
                      · exact absurd c129 (by decide)
                    · exact absurd c120 (by decide)
                  · exact absurd c111 (by decide)
                · try simp only [decide_eq_true_eq, decide_eq_false_iff_not] at c99
                  refine j_iconst C dX6_put_102 ?_
                  refine j_goto (tgt := 107) C dX6_put_103 (by decide) ?_
                  refine j_istore C dX6_put_107 (by decide) ?_
                  refine j_aload_n C dX6_put_109 rfl ?_
                  refine j_iload_n C dX6_put_110 rfl ?_
                  refine j_if_ne (tgt := 118) C dX6_put_111 (by decide) (by unfold rg at *; omega) (fun c111 => ?_) (fun c111 => ?_)
                  · refine j_iload C dX6_put_118 rfl ?_
                    refine j_if_ne (tgt := 127) C dX6_put_120 (by decide) (by unfold rg at *; omega) (fun c120 => ?_) (fun c120 => ?_)
                    · refine j_iload C dX6_put_127 rfl ?_
                      refine j_if_eq (tgt := 136) C dX6_put_129 (by decide) (by unfold rg at *; omega) (fun c129 => ?_) (fun c129 => ?_)
                      · exact absurd c129 (by decide)
                      · refine j_iconst C dX6_put_132 ?_
                        refine j_goto (tgt := 137) C dX6_put_133 (by decide) ?_
                        refine J.lvs (lv' := [(0, .ref o), (1, .int (iN (r))), (2, .int (iN (z)))]) ?_ ?_
                        · intro q hq; simp only [List.mem_cons, List.not_mem_nil, or_false] at hq; rcases hq with rfl | rfl | rfl <;> rfl
                        · refine key _ _ (by clear I i1 i2 i3 i3e i4 i4e i5 i6 i7 i8 i10 i11; (try clear key); (try clear w2); (try clear w3); (try clear w4); (try clear w6); (try clear w7); (try clear w8); (try clear w9); (try clear p4); (try clear o4); (try simp only [decide_eq_true_eq, decide_eq_false_iff_not] at *); unfold x_put; (repeat' split) <;> first | rfl | omega | (simp_all; done) | (simp_all; omega)) hM
                    · exact absurd c120 (by decide)
                  · exact absurd c111 (by decide)
              · have w5 := w4.2.2.2.2 (M 16 r - 1) (by omega) (by omega)
                rw [show 60 * r + (M 16 r - 1) = 60 * r + M 16 r - 1 by omega] at w5
                have w60 := i2 (M 14 (60 * r + M 16 r - 1)) (by omega) (by omega)
                obtain ⟨o1, o2, o3, o4⟩ := plM_spec i1 i3 i2 i3e (s := lastM M r) w5.1 w5.2.1
                have w7 := i3 (M 4 (lastM M r)) (by unfold lastM; omega) (by unfold lastM; omega)
                refine j_aload_n C dX6_put_72 rfl ?_
                refine j_iload_n C dX6_put_73 rfl ?_
                refine j_mcall C hM (c_placeOf l hfl (by omega) i1 i2 i3 i3e) cal_X6_placeOf vi_X6_placeOf rfl ml_Mo_124 rfl rfl (Nat.le_of_ble_eq_true rfl) ⟨by decide, by decide⟩ ⟨by omega, by omega⟩ dX6_put_74 (fun S hM => ?_)
                refine j_aload_n C dX6_put_77 rfl ?_
                refine j_aload_n C dX6_put_78 rfl ?_
                refine j_iload_n C dX6_put_79 rfl ?_
                refine j_mcall C hM (c_lastOf l hfl (by omega) (by omega)) cal_X6_lastOf vi_X6_lastOf rfl ml_Mo_128 rfl rfl (Nat.le_of_ble_eq_true rfl) ⟨by decide, by decide⟩ ⟨by omega, by omega⟩ dX6_put_80 (fun S hM => ?_)
                refine j_mcall C hM (c_placeOf l hfl (z := lastM M r) ⟨w5.1, w5.2.1⟩ i1 i2 i3 i3e) cal_X6_placeOf vi_X6_placeOf rfl ml_Mo_124 rfl rfl (Nat.le_of_ble_eq_true rfl) ⟨by decide, by decide⟩ ⟨by omega, by omega⟩ dX6_put_83 (fun S hM => ?_)
                refine j_icmp_lt (tgt := 102) C dX6_put_86 (by decide) (by unfold rg at *; omega) (by unfold rg at *; omega) (fun c86 => ?_) (fun c86 => ?_)
                · refine j_iconst C dX6_put_102 ?_
                  refine j_goto (tgt := 107) C dX6_put_103 (by decide) ?_
                  refine j_istore C dX6_put_107 (by decide) ?_
                  refine j_aload_n C dX6_put_109 rfl ?_
                  refine j_iload_n C dX6_put_110 rfl ?_
                  refine j_if_ne (tgt := 118) C dX6_put_111 (by decide) (by unfold rg at *; omega) (fun c111 => ?_) (fun c111 => ?_)
                  · refine j_iload C dX6_put_118 rfl ?_
                    refine j_if_ne (tgt := 127) C dX6_put_120 (by decide) (by unfold rg at *; omega) (fun c120 => ?_) (fun c120 => ?_)
                    · refine j_iload C dX6_put_127 rfl ?_
                      refine j_if_eq (tgt := 136) C dX6_put_129 (by decide) (by unfold rg at *; omega) (fun c129 => ?_) (fun c129 => ?_)
                      · exact absurd c129 (by decide)
                      · refine j_iconst C dX6_put_132 ?_
                        refine j_goto (tgt := 137) C dX6_put_133 (by decide) ?_
                        refine J.lvs (lv' := [(0, .ref o), (1, .int (iN (r))), (2, .int (iN (z)))]) ?_ ?_
                        · intro q hq; simp only [List.mem_cons, List.not_mem_nil, or_false] at hq; rcases hq with rfl | rfl | rfl <;> rfl
                        · refine key _ _ (by clear I i1 i2 i3 i3e i4 i4e i5 i6 i7 i8 i10 i11; (try clear key); (try clear w2); (try clear w3); (try clear w4); (try clear w6); (try clear w7); (try clear w8); (try clear w9); (try clear p4); (try clear o4); (try simp only [decide_eq_true_eq, decide_eq_false_iff_not] at *); unfold x_put; (repeat' split) <;> first | rfl | omega | (simp_all; done) | (simp_all; omega)) hM
                    · exact absurd c120 (by decide)
                  · exact absurd c111 (by decide)
                · refine j_aload_n C dX6_put_89 rfl ?_
                  refine j_aload_n C dX6_put_90 rfl ?_
                  refine j_mgeta C hM fl_Mo_16 (by decide) dX6_put_91 ?_
                  refine j_iload_n C dX6_put_94 rfl ?_
                  refine j_mald C hM (by decide) rfl (by simp only [mLen]; omega) dX6_put_95 ?_
                  refine j_mcall C hM (c_isLent l hfl (by unfold rg at *; omega) i1 i6 i8) cal_X6_isLent vi_X6_isLent rfl ml_Mo_131 rfl rfl (Nat.le_of_ble_eq_true rfl) ⟨by decide, by decide⟩ ⟨by omega, by omega⟩ dX6_put_96 (fun S hM => ?_)
                  refine j_ifeq_b (tgt := 106) C dX6_put_99 (by decide) (fun c99 => ?_) (fun c99 => ?_)
                  · try simp only [decide_eq_true_eq, decide_eq_false_iff_not] at c99
                    refine j_iconst C dX6_put_106 ?_
                    refine j_istore C dX6_put_107 (by decide) ?_
                    refine j_aload_n C dX6_put_109 rfl ?_
                    refine j_iload_n C dX6_put_110 rfl ?_
                    refine j_if_ne (tgt := 118) C dX6_put_111 (by decide) (by unfold rg at *; omega) (fun c111 => ?_) (fun c111 => ?_)
                    · refine j_iload C dX6_put_118 rfl ?_
                      refine j_if_ne (tgt := 127) C dX6_put_120 (by decide) (by unfold rg at *; omega) (fun c120 => ?_) (fun c120 => ?_)
                      · refine j_iload C dX6_put_127 rfl ?_
                        refine j_if_eq (tgt := 136) C dX6_put_129 (by decide) (by unfold rg at *; omega) (fun c129 => ?_) (fun c129 => ?_)
                        · refine j_iconst C dX6_put_136 ?_
                          refine J.lvs (lv' := [(0, .ref o), (1, .int (iN (r))), (2, .int (iN (z)))]) ?_ ?_
                          · intro q hq; simp only [List.mem_cons, List.not_mem_nil, or_false] at hq; rcases hq with rfl | rfl | rfl <;> rfl
                          · refine key _ _ (by clear I i1 i2 i3 i3e i4 i4e i5 i6 i7 i8 i10 i11; (try clear key); (try clear w2); (try clear w3); (try clear w4); (try clear w6); (try clear w7); (try clear w8); (try clear w9); (try clear p4); (try clear o4); (try simp only [decide_eq_true_eq, decide_eq_false_iff_not] at *); unfold x_put; (repeat' split) <;> first | rfl | omega | (simp_all; done) | (simp_all; omega)) hM
                        · exact absurd c129 (by decide)
                      · exact absurd c120 (by decide)
                    · exact absurd c111 (by decide)
                  · try simp only [decide_eq_true_eq, decide_eq_false_iff_not] at c99
                    refine j_iconst C dX6_put_102 ?_
                    refine j_goto (tgt := 107) C dX6_put_103 (by decide) ?_
                    refine j_istore C dX6_put_107 (by decide) ?_
                    refine j_aload_n C dX6_put_109 rfl ?_
                    refine j_iload_n C dX6_put_110 rfl ?_
                    refine j_if_ne (tgt := 118) C dX6_put_111 (by decide) (by unfold rg at *; omega) (fun c111 => ?_) (fun c111 => ?_)
                    · refine j_iload C dX6_put_118 rfl ?_
                      refine j_if_ne (tgt := 127) C dX6_put_120 (by decide) (by unfold rg at *; omega) (fun c120 => ?_) (fun c120 => ?_)
                      · refine j_iload C dX6_put_127 rfl ?_
                        refine j_if_eq (tgt := 136) C dX6_put_129 (by decide) (by unfold rg at *; omega) (fun c129 => ?_) (fun c129 => ?_)
                        · exact absurd c129 (by decide)
                        · refine j_iconst C dX6_put_132 ?_
                          refine j_goto (tgt := 137) C dX6_put_133 (by decide) ?_
                          refine J.lvs (lv' := [(0, .ref o), (1, .int (iN (r))), (2, .int (iN (z)))]) ?_ ?_
                          · intro q hq; simp only [List.mem_cons, List.not_mem_nil, or_false] at hq; rcases hq with rfl | rfl | rfl <;> rfl
                          · refine key _ _ (by clear I i1 i2 i3 i3e i4 i4e i5 i6 i7 i8 i10 i11; (try clear key); (try clear w2); (try clear w3); (try clear w4); (try clear w6); (try clear w7); (try clear w8); (try clear w9); (try clear p4); (try clear o4); (try simp only [decide_eq_true_eq, decide_eq_false_iff_not] at *); unfold x_put; (repeat' split) <;> first | rfl | omega | (simp_all; done) | (simp_all; omega)) hM
                      · exact absurd c120 (by decide)
                    · exact absurd c111 (by decide)

