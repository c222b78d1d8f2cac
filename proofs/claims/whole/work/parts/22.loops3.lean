/-! THE REFERENCE: scan, lend, and the plain ones. -/
def x_scan (M : wM) (r z : Int) : Int := if ¬ (0 ≤ r ∧ r < M 17 0) then 1 else if ¬ (1 ≤ z ∧ z ≤ 4) then 2 else if M 16 r = 0 ∨ lentM M (M 13 r) = true then 3 else 0
def v_scan (M : wM) (r z : Int) : Int := sumI (fun k : Nat => lossM M r k) (M 16 r).toNat
def n_scan (M : wM) (r z : Int) : wM := if x_scan M r z = 0 then scanC (mup M 0 0 (x_scan M r z)) r z (M 16 r).toNat else (mup M 0 0 (x_scan M r z))
theorem bN_le (b : Bool) : 0 ≤ bN b ∧ bN b ≤ 1 := by cases b <;> simp [bN]
def x_lend (M : wM) (f a b g : Int) : Int := if ¬ (0 ≤ f ∧ f < M 21 0) then 1 else if ¬ ((1 ≤ a ∧ a ≤ 9) ∧ (0 ≤ b ∧ b ≤ 3) ∧ 1 ≤ g ∧ g ≤ 99) then 2 else if lentM M (M 19 f) = true ∨ badM M f (a * (1 + b)) (M 17 0).toNat = true then 3 else if M 28 0 = 20 then 4 else 0
def v_lend (M : wM) (f a b g : Int) : Int := M 28 0
def n_lend (M : wM) (f a b g : Int) : wM := if x_lend M f a b g = 0 then mup (mup (mup (mup (mup (mup M 0 0 (x_lend M f a b g)) 23 (M 28 0) f) 24 (M 28 0) a) 25 (M 28 0) b) 26 (M 28 0) (M 29 0 + g)) 28 0 (M 28 0 + 1) else (mup M 0 0 (x_lend M f a b g))
set_option maxHeartbeats 4000000 in
set_option maxRecDepth 100000 in
theorem m_scan (l : Launch) (hfl : l.stackTraces = false) {M : wM} {r z : Int} (h_r : rg r)  (h_z : rg z) (I : Inv M) : MC l yX6_scan cX6_scan 8 (some FieldType.int) 4 [.int (iN r), .int (iN z)] M (.inl (some (.int (iN (if x_scan M r z = 0 then v_scan M r z else 0))))) (n_scan M r z) := by
  intro S0 o B hM0
  refine Ct.of cal_X6_scan hfl (Nat.le_of_ble_eq_true rfl) ?_
  intro p e s m args below meth c D sz C ME
  have hM : RMF S0 S0 o B M := ⟨hM0, mF.rf⟩
  have I9 := I
  obtain ⟨i1, i2, i3, i3e, i4, i4e, i5, i6, i7, i8, i10, i11⟩ := I9
  obtain ⟨a1, a2, a3, a4, a5, a6, a7⟩ := id i1
  have key : ∀ (x : Int) (S : wS), x = x_scan M r z → RMF S0 S o B M → J p l e { frames := 20 * 4, cells := 0, slots := 0, locals := 200 * 4 } s m args below meth c 8 D (wA S0 sz) (wQ below D sz S0 (fun r9 S9 => r9 = .inl (some (.int (iN (if x_scan M r z = 0 then v_scan M r z else 0)))) ∧ RMF S0 S9 o B (n_scan M r z)) args s 0 0) 55 [(0, .ref o), (1, .int (iN (r))), (2, .int (iN (z)))] [.int (iN x), .ref o] S 0 0 := by
    intro x S hx hM
    subst hx
    refine j_mcall C hM (c_goesOn l hfl (by unfold x_scan; (repeat' split) <;> (unfold rg; omega))) cal_X6_goesOn vi_X6_goesOn rfl ml_Mo_103 rfl rfl (Nat.le_of_ble_eq_true rfl) ⟨by decide, by decide⟩ ⟨by omega, by omega⟩ dX6_scan_55 (fun S hM => ?_)
    refine j_ifne_b (tgt := 63) C dX6_scan_58 (by decide) (fun c58 => ?_) (fun c58 => ?_)
    · try simp only [decide_eq_true_eq, decide_eq_false_iff_not] at c58
      try simp only [decide_eq_true_eq, decide_eq_false_iff_not] at c58
      have ok : (0 ≤ r ∧ r < M 17 0) ∧ 1 ≤ z ∧ z ≤ 4 := by
        clear I i1 i2 i3 i3e i4 i4e i5 i6 i7 i8 i10 i11; (try clear key); (try clear key2); (try clear ih); (try clear w5); (try clear w11); (try clear w2); (try clear w3); (try clear w4); (try clear w6); (try clear w7); (try clear w8); (try clear w9); (try clear p4); (try clear o4); unfold x_scan at c58
        (repeat' split at c58) <;> first | rfl | omega | (simp_all; done) | (simp_all; omega)
      have w4 := i4 r (by omega) (by omega)
      refine j_iconst C dX6_scan_63 ?_
      refine j_istore C dX6_scan_64 (by decide) ?_
      refine j_iconst C dX6_scan_66 ?_
      refine j_istore C dX6_scan_67 (by decide) ?_
      have key2 : ∀ (fuel : Nat) (i : Nat) (S : wS), M 16 r - i < fuel → (i : Int) ≤ M 16 r → RMF S0 S o B (scanC (mup M 0 0 (x_scan M r z)) r z i) → J p l e { frames := 20 * 4, cells := 0, slots := 0, locals := 200 * 4 } s m args below meth c 8 D (wA S0 sz) (wQ below D sz S0 (fun r9 S9 => r9 = .inl (some (.int (iN (if x_scan M r z = 0 then v_scan M r z else 0)))) ∧ RMF S0 S9 o B (n_scan M r z)) args s 0 0) 69 [(0, .ref o), (1, .int (iN (r))), (2, .int (iN (z))), (4, .int (iN (sumI (fun k : Nat => lossM M r k) i))), (5, .int (iN (i)))] [] S 0 0 := by
        intro fuel
        induction fuel with
        | zero => intro i S h1 h2 hM; omega
        | succ fuel ih =>
          intro i S h1 h2 hM
          have e16 : (scanC (mup M 0 0 (x_scan M r z)) r z i) 16 r = M 16 r := rfl
          have w7 := fun (h : (i : Int) < M 16 r) => w4.2.2.2.2 i (by omega) h
          have e14 : (scanC (mup M 0 0 (x_scan M r z)) r z i) 14 (60 * r + i) = M 14 (60 * r + i) := rfl
          have w8 := fun (h : (i : Int) < M 16 r) => i2 (M 14 (60 * r + i)) (w7 h).1 (w7 h).2.1
          have e5 : (scanC (mup M 0 0 (x_scan M r z)) r z i) 5 (M 14 (60 * r + i)) = M 5 (M 14 (60 * r + i)) := rfl
          have e8 : (i : Int) < M 16 r → (scanC (mup M 0 0 (x_scan M r z)) r z i) 8 (M 14 (60 * r + i)) = M 8 (M 14 (60 * r + i)) := by
            intro h
            refine sc8_at (M := (mup M 0 0 (x_scan M r z))) (fun q hq e => ?_)
            have e9 := (w7 h).2.2.2.2.2 q (by omega) (by omega) e.symm
            omega
          have ew : wornP (scanC (mup M 0 0 (x_scan M r z)) r z i) r i = wornP M r i := rfl
          have ew2 : wornP (scanC (mup M 0 0 (x_scan M r z)) r z i) r (i - 1) = wornP M r (i - 1) := rfl
          have e9 : sumI (fun k : Nat => lossM M r k) (i + 1) = sumI (fun k : Nat => lossM M r k) i + lossM M r i := rfl
          have lo : (i : Int) < M 16 r → 0 ≤ bN (wornP M r i) + bN (wornP M r (i - 1)) ∧ bN (wornP M r i) + bN (wornP M r (i - 1)) ≤ 2 := fun _ => by have := bN_le (wornP M r i); have := bN_le (wornP M r (i - 1)); omega
          have key3 : ∀ (S : wS), (i : Int) < M 16 r → RMF S0 S o B (scanC (mup M 0 0 (x_scan M r z)) r z i) → J p l e { frames := 20 * 4, cells := 0, slots := 0, locals := 200 * 4 } s m args below meth c 8 D (wA S0 sz) (wQ below D sz S0 (fun r9 S9 => r9 = .inl (some (.int (iN (if x_scan M r z = 0 then v_scan M r z else 0)))) ∧ RMF S0 S9 o B (n_scan M r z)) args s 0 0) 127 [(0, .ref o), (1, .int (iN (r))), (2, .int (iN (z))), (4, .int (iN (sumI (fun k : Nat => lossM M r k) i))), (5, .int (iN (i))), (6, .int (iN (M 14 (60 * r + i))))] [.int (iN (bN (wornP M r i) + bN (wornP M r (i - 1))))] S 0 0 := by
            intro S hlt hM
            have w7 := w7 hlt
            have w8 := w8 hlt
            have e8 := e8 hlt
            have lo := lo hlt
            refine j_istore C dX6_scan_127 (by decide) ?_
            refine j_iload C dX6_scan_129 rfl ?_
            refine j_aload_n C dX6_scan_131 rfl ?_
            refine j_mgeta C hM fl_Mo_19 (by decide) dX6_scan_132 ?_
            refine j_iload C dX6_scan_135 rfl ?_
            refine j_mald C hM (by decide) rfl (by simp only [mLen]; omega) dX6_scan_137 ?_
            refine j_icmp_le (tgt := 151) C dX6_scan_138 (by decide) (by unfold rg at *; omega) (by unfold rg at *; omega) (fun c138 => ?_) (fun c138 => ?_)
            · refine j_iload C dX6_scan_151 rfl ?_
              refine j_istore C dX6_scan_153 (by decide) ?_
              refine j_iload C dX6_scan_155 rfl ?_
              refine j_iload C dX6_scan_157 rfl ?_
              refine j_iadd C dX6_scan_159 ?_
              refine j_istore C dX6_scan_160 (by decide) ?_
              refine j_iload_n C dX6_scan_162 rfl ?_
              refine j_aload_n C dX6_scan_163 rfl ?_
              refine j_mgeta C hM fl_Mo_28 (by decide) dX6_scan_164 ?_
              refine j_iload C dX6_scan_167 rfl ?_
              refine j_mald C hM (by decide) rfl (by simp only [mLen]; omega) dX6_scan_169 ?_
              refine j_icmp_lt (tgt := 190) C dX6_scan_170 (by decide) (by unfold rg at *; omega) (by unfold rg at *; omega) (fun c170 => ?_) (fun c170 => ?_)
              · refine j_iinc C dX6_scan_190 rfl (by decide) ?_
                refine j_goto (tgt := 69) C dX6_scan_193 (by decide) ?_
                have ihk := ih (i + 1) S (by omega) (by omega)
                first
                  | (have el : lossM M r i = M 5 (M 14 (60 * r + i)) := by unfold lossM; rw [if_pos (by omega)]
                     have ihk := ihk (by rw [scanC_S1 (M := (mup M 0 0 (x_scan M r z))) (show M 8 (M 14 (60 * r + i)) ≤ z by omega)]; rw [show lossM (mup M 0 0 (x_scan M r z)) r i = M 5 (M 14 (60 * r + i)) from el]; exact hM)
                     rw [e9, el] at ihk
                     refine J.lvs (lv' := [(0, .ref o), (1, .int (iN (r))), (2, .int (iN (z))), (4, .int (iN (sumI (fun k : Nat => lossM M r k) i + M 5 (M 14 (60 * r + i))))), (5, .int (iN (((i + 1 : Nat) : Int))))]) ?_ ?_
                     · intro q hq; simp only [List.mem_cons, List.not_mem_nil, or_false] at hq; rcases hq with rfl | rfl | rfl | rfl | rfl <;> rfl
                     · refine ihk)
                  | (have el : lossM M r i = bN (wornP M r i) + bN (wornP M r (i - 1)) := by unfold lossM; rw [if_neg (by omega)]
                     have ihk := ihk (by rw [scanC_S1 (M := (mup M 0 0 (x_scan M r z))) (show M 8 (M 14 (60 * r + i)) ≤ z by omega)]; rw [show lossM (mup M 0 0 (x_scan M r z)) r i = bN (wornP M r i) + bN (wornP M r (i - 1)) from el]; exact hM)
                     rw [e9, el] at ihk
                     refine J.lvs (lv' := [(0, .ref o), (1, .int (iN (r))), (2, .int (iN (z))), (4, .int (iN (sumI (fun k : Nat => lossM M r k) i + (bN (wornP M r i) + bN (wornP M r (i - 1)))))), (5, .int (iN (((i + 1 : Nat) : Int))))]) ?_ ?_
                     · intro q hq; simp only [List.mem_cons, List.not_mem_nil, or_false] at hq; rcases hq with rfl | rfl | rfl | rfl | rfl <;> rfl
                     · refine ihk)
                  | (have el : lossM M r i = M 5 (M 14 (60 * r + i)) := by unfold lossM; rw [if_pos (by omega)]
                     have ihk := ihk (by rw [scanC_S0 (M := (mup M 0 0 (x_scan M r z))) (show ¬ M 8 (M 14 (60 * r + i)) ≤ z by omega)]; exact hM)
                     rw [e9, el] at ihk
                     refine J.lvs (lv' := [(0, .ref o), (1, .int (iN (r))), (2, .int (iN (z))), (4, .int (iN (sumI (fun k : Nat => lossM M r k) i + M 5 (M 14 (60 * r + i))))), (5, .int (iN (((i + 1 : Nat) : Int))))]) ?_ ?_
                     · intro q hq; simp only [List.mem_cons, List.not_mem_nil, or_false] at hq; rcases hq with rfl | rfl | rfl | rfl | rfl <;> rfl
                     · refine ihk)
                  | (have el : lossM M r i = bN (wornP M r i) + bN (wornP M r (i - 1)) := by unfold lossM; rw [if_neg (by omega)]
                     have ihk := ihk (by rw [scanC_S0 (M := (mup M 0 0 (x_scan M r z))) (show ¬ M 8 (M 14 (60 * r + i)) ≤ z by omega)]; exact hM)
                     rw [e9, el] at ihk
                     refine J.lvs (lv' := [(0, .ref o), (1, .int (iN (r))), (2, .int (iN (z))), (4, .int (iN (sumI (fun k : Nat => lossM M r k) i + (bN (wornP M r i) + bN (wornP M r (i - 1)))))), (5, .int (iN (((i + 1 : Nat) : Int))))]) ?_ ?_
                     · intro q hq; simp only [List.mem_cons, List.not_mem_nil, or_false] at hq; rcases hq with rfl | rfl | rfl | rfl | rfl <;> rfl
                     · refine ihk)
              · refine j_aload_n C dX6_scan_173 rfl ?_
                refine j_mgeta C hM fl_Mo_28 (by decide) dX6_scan_174 ?_
                refine j_iload C dX6_scan_177 rfl ?_
                refine j_iload_n C dX6_scan_179 rfl ?_
                refine j_mast C hM (by decide) rfl (by simp only [mLen]; omega) dX6_scan_180 (fun S hM => ?_)
                refine j_aload_n C dX6_scan_181 rfl ?_
                refine j_mgeta C hM fl_Mo_31 (by decide) dX6_scan_182 ?_
                refine j_iload C dX6_scan_185 rfl ?_
                refine j_iload C dX6_scan_187 rfl ?_
                refine j_mast C hM (by decide) rfl (by simp only [mLen]; omega) dX6_scan_189 (fun S hM => ?_)
                refine j_iinc C dX6_scan_190 rfl (by decide) ?_
                refine j_goto (tgt := 69) C dX6_scan_193 (by decide) ?_
                have ihk := ih (i + 1) S (by omega) (by omega)
                first
                  | (have el : lossM M r i = M 5 (M 14 (60 * r + i)) := by unfold lossM; rw [if_pos (by omega)]
                     have ihk := ihk (by rw [scanC_S1 (M := (mup M 0 0 (x_scan M r z))) (show M 8 (M 14 (60 * r + i)) ≤ z by omega)]; rw [show lossM (mup M 0 0 (x_scan M r z)) r i = M 5 (M 14 (60 * r + i)) from el]; exact hM)
                     rw [e9, el] at ihk
                     refine J.lvs (lv' := [(0, .ref o), (1, .int (iN (r))), (2, .int (iN (z))), (4, .int (iN (sumI (fun k : Nat => lossM M r k) i + M 5 (M 14 (60 * r + i))))), (5, .int (iN (((i + 1 : Nat) : Int))))]) ?_ ?_
                     · intro q hq; simp only [List.mem_cons, List.not_mem_nil, or_false] at hq; rcases hq with rfl | rfl | rfl | rfl | rfl <;> rfl
                     · refine ihk)
                  | (have el : lossM M r i = bN (wornP M r i) + bN (wornP M r (i - 1)) := by unfold lossM; rw [if_neg (by omega)]
                     have ihk := ihk (by rw [scanC_S1 (M := (mup M 0 0 (x_scan M r z))) (show M 8 (M 14 (60 * r + i)) ≤ z by omega)]; rw [show lossM (mup M 0 0 (x_scan M r z)) r i = bN (wornP M r i) + bN (wornP M r (i - 1)) from el]; exact hM)
                     rw [e9, el] at ihk
                     refine J.lvs (lv' := [(0, .ref o), (1, .int (iN (r))), (2, .int (iN (z))), (4, .int (iN (sumI (fun k : Nat => lossM M r k) i + (bN (wornP M r i) + bN (wornP M r (i - 1)))))), (5, .int (iN (((i + 1 : Nat) : Int))))]) ?_ ?_
                     · intro q hq; simp only [List.mem_cons, List.not_mem_nil, or_false] at hq; rcases hq with rfl | rfl | rfl | rfl | rfl <;> rfl
                     · refine ihk)
                  | (have el : lossM M r i = M 5 (M 14 (60 * r + i)) := by unfold lossM; rw [if_pos (by omega)]
                     have ihk := ihk (by rw [scanC_S0 (M := (mup M 0 0 (x_scan M r z))) (show ¬ M 8 (M 14 (60 * r + i)) ≤ z by omega)]; exact hM)
                     rw [e9, el] at ihk
                     refine J.lvs (lv' := [(0, .ref o), (1, .int (iN (r))), (2, .int (iN (z))), (4, .int (iN (sumI (fun k : Nat => lossM M r k) i + M 5 (M 14 (60 * r + i))))), (5, .int (iN (((i + 1 : Nat) : Int))))]) ?_ ?_
                     · intro q hq; simp only [List.mem_cons, List.not_mem_nil, or_false] at hq; rcases hq with rfl | rfl | rfl | rfl | rfl <;> rfl
                     · refine ihk)
                  | (have el : lossM M r i = bN (wornP M r i) + bN (wornP M r (i - 1)) := by unfold lossM; rw [if_neg (by omega)]
                     have ihk := ihk (by rw [scanC_S0 (M := (mup M 0 0 (x_scan M r z))) (show ¬ M 8 (M 14 (60 * r + i)) ≤ z by omega)]; exact hM)
                     rw [e9, el] at ihk
                     refine J.lvs (lv' := [(0, .ref o), (1, .int (iN (r))), (2, .int (iN (z))), (4, .int (iN (sumI (fun k : Nat => lossM M r k) i + (bN (wornP M r i) + bN (wornP M r (i - 1)))))), (5, .int (iN (((i + 1 : Nat) : Int))))]) ?_ ?_
                     · intro q hq; simp only [List.mem_cons, List.not_mem_nil, or_false] at hq; rcases hq with rfl | rfl | rfl | rfl | rfl <;> rfl
                     · refine ihk)
            · refine j_aload_n C dX6_scan_141 rfl ?_
              refine j_mgeta C hM fl_Mo_19 (by decide) dX6_scan_142 ?_
              refine j_iload C dX6_scan_145 rfl ?_
              refine j_mald C hM (by decide) rfl (by simp only [mLen]; omega) dX6_scan_147 ?_
              refine j_goto (tgt := 153) C dX6_scan_148 (by decide) ?_
              refine j_istore C dX6_scan_153 (by decide) ?_
              refine j_iload C dX6_scan_155 rfl ?_
              refine j_iload C dX6_scan_157 rfl ?_
              refine j_iadd C dX6_scan_159 ?_
              refine j_istore C dX6_scan_160 (by decide) ?_
              refine j_iload_n C dX6_scan_162 rfl ?_
              refine j_aload_n C dX6_scan_163 rfl ?_
              refine j_mgeta C hM fl_Mo_28 (by decide) dX6_scan_164 ?_
              refine j_iload C dX6_scan_167 rfl ?_
              refine j_mald C hM (by decide) rfl (by simp only [mLen]; omega) dX6_scan_169 ?_
              refine j_icmp_lt (tgt := 190) C dX6_scan_170 (by decide) (by unfold rg at *; omega) (by unfold rg at *; omega) (fun c170 => ?_) (fun c170 => ?_)
              · refine j_iinc C dX6_scan_190 rfl (by decide) ?_
                refine j_goto (tgt := 69) C dX6_scan_193 (by decide) ?_
                have ihk := ih (i + 1) S (by omega) (by omega)
                first
                  | (have el : lossM M r i = M 5 (M 14 (60 * r + i)) := by unfold lossM; rw [if_pos (by omega)]
                     have ihk := ihk (by rw [scanC_S1 (M := (mup M 0 0 (x_scan M r z))) (show M 8 (M 14 (60 * r + i)) ≤ z by omega)]; rw [show lossM (mup M 0 0 (x_scan M r z)) r i = M 5 (M 14 (60 * r + i)) from el]; exact hM)
                     rw [e9, el] at ihk
                     refine J.lvs (lv' := [(0, .ref o), (1, .int (iN (r))), (2, .int (iN (z))), (4, .int (iN (sumI (fun k : Nat => lossM M r k) i + M 5 (M 14 (60 * r + i))))), (5, .int (iN (((i + 1 : Nat) : Int))))]) ?_ ?_
                     · intro q hq; simp only [List.mem_cons, List.not_mem_nil, or_false] at hq; rcases hq with rfl | rfl | rfl | rfl | rfl <;> rfl
                     · refine ihk)
                  | (have el : lossM M r i = bN (wornP M r i) + bN (wornP M r (i - 1)) := by unfold lossM; rw [if_neg (by omega)]
                     have ihk := ihk (by rw [scanC_S1 (M := (mup M 0 0 (x_scan M r z))) (show M 8 (M 14 (60 * r + i)) ≤ z by omega)]; rw [show lossM (mup M 0 0 (x_scan M r z)) r i = bN (wornP M r i) + bN (wornP M r (i - 1)) from el]; exact hM)
                     rw [e9, el] at ihk
                     refine J.lvs (lv' := [(0, .ref o), (1, .int (iN (r))), (2, .int (iN (z))), (4, .int (iN (sumI (fun k : Nat => lossM M r k) i + (bN (wornP M r i) + bN (wornP M r (i - 1)))))), (5, .int (iN (((i + 1 : Nat) : Int))))]) ?_ ?_
                     · intro q hq; simp only [List.mem_cons, List.not_mem_nil, or_false] at hq; rcases hq with rfl | rfl | rfl | rfl | rfl <;> rfl
                     · refine ihk)
                  | (have el : lossM M r i = M 5 (M 14 (60 * r + i)) := by unfold lossM; rw [if_pos (by omega)]
                     have ihk := ihk (by rw [scanC_S0 (M := (mup M 0 0 (x_scan M r z))) (show ¬ M 8 (M 14 (60 * r + i)) ≤ z by omega)]; exact hM)
                     rw [e9, el] at ihk
                     refine J.lvs (lv' := [(0, .ref o), (1, .int (iN (r))), (2, .int (iN (z))), (4, .int (iN (sumI (fun k : Nat => lossM M r k) i + M 5 (M 14 (60 * r + i))))), (5, .int (iN (((i + 1 : Nat) : Int))))]) ?_ ?_
                     · intro q hq; simp only [List.mem_cons, List.not_mem_nil, or_false] at hq; rcases hq with rfl | rfl | rfl | rfl | rfl <;> rfl
                     · refine ihk)
                  | (have el : lossM M r i = bN (wornP M r i) + bN (wornP M r (i - 1)) := by unfold lossM; rw [if_neg (by omega)]
                     have ihk := ihk (by rw [scanC_S0 (M := (mup M 0 0 (x_scan M r z))) (show ¬ M 8 (M 14 (60 * r + i)) ≤ z by omega)]; exact hM)
                     rw [e9, el] at ihk
                     refine J.lvs (lv' := [(0, .ref o), (1, .int (iN (r))), (2, .int (iN (z))), (4, .int (iN (sumI (fun k : Nat => lossM M r k) i + (bN (wornP M r i) + bN (wornP M r (i - 1)))))), (5, .int (iN (((i + 1 : Nat) : Int))))]) ?_ ?_
                     · intro q hq; simp only [List.mem_cons, List.not_mem_nil, or_false] at hq; rcases hq with rfl | rfl | rfl | rfl | rfl <;> rfl
                     · refine ihk)
              · refine j_aload_n C dX6_scan_173 rfl ?_
                refine j_mgeta C hM fl_Mo_28 (by decide) dX6_scan_174 ?_
                refine j_iload C dX6_scan_177 rfl ?_
                refine j_iload_n C dX6_scan_179 rfl ?_
                refine j_mast C hM (by decide) rfl (by simp only [mLen]; omega) dX6_scan_180 (fun S hM => ?_)
                refine j_aload_n C dX6_scan_181 rfl ?_
                refine j_mgeta C hM fl_Mo_31 (by decide) dX6_scan_182 ?_
                refine j_iload C dX6_scan_185 rfl ?_
                refine j_iload C dX6_scan_187 rfl ?_
                refine j_mast C hM (by decide) rfl (by simp only [mLen]; omega) dX6_scan_189 (fun S hM => ?_)
                refine j_iinc C dX6_scan_190 rfl (by decide) ?_
                refine j_goto (tgt := 69) C dX6_scan_193 (by decide) ?_
                have ihk := ih (i + 1) S (by omega) (by omega)
                first
                  | (have el : lossM M r i = M 5 (M 14 (60 * r + i)) := by unfold lossM; rw [if_pos (by omega)]
                     have ihk := ihk (by rw [scanC_S1 (M := (mup M 0 0 (x_scan M r z))) (show M 8 (M 14 (60 * r + i)) ≤ z by omega)]; rw [show lossM (mup M 0 0 (x_scan M r z)) r i = M 5 (M 14 (60 * r + i)) from el]; exact hM)
                     rw [e9, el] at ihk
                     refine J.lvs (lv' := [(0, .ref o), (1, .int (iN (r))), (2, .int (iN (z))), (4, .int (iN (sumI (fun k : Nat => lossM M r k) i + M 5 (M 14 (60 * r + i))))), (5, .int (iN (((i + 1 : Nat) : Int))))]) ?_ ?_
                     · intro q hq; simp only [List.mem_cons, List.not_mem_nil, or_false] at hq; rcases hq with rfl | rfl | rfl | rfl | rfl <;> rfl
                     · refine ihk)
                  | (have el : lossM M r i = bN (wornP M r i) + bN (wornP M r (i - 1)) := by unfold lossM; rw [if_neg (by omega)]
                     have ihk := ihk (by rw [scanC_S1 (M := (mup M 0 0 (x_scan M r z))) (show M 8 (M 14 (60 * r + i)) ≤ z by omega)]; rw [show lossM (mup M 0 0 (x_scan M r z)) r i = bN (wornP M r i) + bN (wornP M r (i - 1)) from el]; exact hM)
                     rw [e9, el] at ihk
                     refine J.lvs (lv' := [(0, .ref o), (1, .int (iN (r))), (2, .int (iN (z))), (4, .int (iN (sumI (fun k : Nat => lossM M r k) i + (bN (wornP M r i) + bN (wornP M r (i - 1)))))), (5, .int (iN (((i + 1 : Nat) : Int))))]) ?_ ?_
                     · intro q hq; simp only [List.mem_cons, List.not_mem_nil, or_false] at hq; rcases hq with rfl | rfl | rfl | rfl | rfl <;> rfl
                     · refine ihk)
                  | (have el : lossM M r i = M 5 (M 14 (60 * r + i)) := by unfold lossM; rw [if_pos (by omega)]
                     have ihk := ihk (by rw [scanC_S0 (M := (mup M 0 0 (x_scan M r z))) (show ¬ M 8 (M 14 (60 * r + i)) ≤ z by omega)]; exact hM)
                     rw [e9, el] at ihk
                     refine J.lvs (lv' := [(0, .ref o), (1, .int (iN (r))), (2, .int (iN (z))), (4, .int (iN (sumI (fun k : Nat => lossM M r k) i + M 5 (M 14 (60 * r + i))))), (5, .int (iN (((i + 1 : Nat) : Int))))]) ?_ ?_
                     · intro q hq; simp only [List.mem_cons, List.not_mem_nil, or_false] at hq; rcases hq with rfl | rfl | rfl | rfl | rfl <;> rfl
                     · refine ihk)
                  | (have el : lossM M r i = bN (wornP M r i) + bN (wornP M r (i - 1)) := by unfold lossM; rw [if_neg (by omega)]
                     have ihk := ihk (by rw [scanC_S0 (M := (mup M 0 0 (x_scan M r z))) (show ¬ M 8 (M 14 (60 * r + i)) ≤ z by omega)]; exact hM)
                     rw [e9, el] at ihk
                     refine J.lvs (lv' := [(0, .ref o), (1, .int (iN (r))), (2, .int (iN (z))), (4, .int (iN (sumI (fun k : Nat => lossM M r k) i + (bN (wornP M r i) + bN (wornP M r (i - 1)))))), (5, .int (iN (((i + 1 : Nat) : Int))))]) ?_ ?_
                     · intro q hq; simp only [List.mem_cons, List.not_mem_nil, or_false] at hq; rcases hq with rfl | rfl | rfl | rfl | rfl <;> rfl
                     · refine ihk)
          refine j_iload C dX6_scan_69 rfl ?_
          refine j_aload_n C dX6_scan_71 rfl ?_
          refine j_mgeta C hM fl_Mo_49 (by decide) dX6_scan_72 ?_
          refine j_iload_n C dX6_scan_75 rfl ?_
          refine j_mald C hM (by decide) rfl (by simp only [mLen]; omega) dX6_scan_76 ?_
          refine j_icmp_ge (tgt := 196) C dX6_scan_77 (by decide) (by unfold rg at *; omega) (by unfold rg at *; omega) (fun c77 => ?_) (fun c77 => ?_)
          · have ei : i = (M 16 r).toNat := by omega
            subst ei
            refine j_iload C dX6_scan_196 rfl ?_
            refine j_iret C ME ?_ (by omega) (by omega) dX6_scan_198
            refine ⟨rI ?_, ?_⟩
            · first
              | (rw [if_neg c58]; done)
              | (rw [if_pos c58]; unfold v_scan; rfl)
            · unfold n_scan
              first
              | (rw [if_neg c58]; exact hM)
              | (rw [if_pos c58]; exact hM)
          · have w7q := w7 (by omega)
            refine j_aload_n C dX6_scan_80 rfl ?_
            refine j_mgeta C hM fl_Mo_43 (by decide) dX6_scan_81 ?_
            refine j_bipush C dX6_scan_84 (by decide) ?_
            refine j_iload_n C dX6_scan_86 rfl ?_
            refine j_imul C dX6_scan_87 ?_
            refine j_iload C dX6_scan_88 rfl ?_
            refine j_iadd C dX6_scan_90 ?_
            refine j_mald C hM (by decide) rfl (by simp only [mLen]; omega) dX6_scan_91 ?_
            refine j_istore C dX6_scan_92 (by decide) ?_
            refine j_aload_n C dX6_scan_94 rfl ?_
            refine j_iload_n C dX6_scan_95 rfl ?_
            refine j_iload C dX6_scan_96 rfl ?_
            refine j_mcall C hM (c_isWorn l hfl (M := (scanC (mup M 0 0 (x_scan M r z)) r z i)) (by omega) (by omega) i1 i4) cal_X6_isWorn vi_X6_isWorn rfl ml_Mo_169 rfl rfl (Nat.le_of_ble_eq_true rfl) ⟨by decide, by decide⟩ ⟨by omega, by omega⟩ dX6_scan_98 (fun S hM => ?_)
            refine j_ifeq_b (tgt := 108) C dX6_scan_101 (by decide) (fun c101 => ?_) (fun c101 => ?_)
            · try simp only [decide_eq_true_eq, decide_eq_false_iff_not] at c101
              refine j_iconst C dX6_scan_108 ?_
              refine j_aload_n C dX6_scan_109 rfl ?_
              refine j_iload_n C dX6_scan_110 rfl ?_
              refine j_iload C dX6_scan_111 rfl ?_
              refine j_iconst C dX6_scan_113 ?_
              refine j_isub C dX6_scan_114 ?_
              refine j_mcall C hM (c_isWorn l hfl (M := (scanC (mup M 0 0 (x_scan M r z)) r z i)) (by omega) (by omega) i1 i4) cal_X6_isWorn vi_X6_isWorn rfl ml_Mo_169 rfl rfl (Nat.le_of_ble_eq_true rfl) ⟨by decide, by decide⟩ ⟨by omega, by omega⟩ dX6_scan_115 (fun S hM => ?_)
              refine j_ifeq_b (tgt := 125) C dX6_scan_118 (by decide) (fun c118 => ?_) (fun c118 => ?_)
              · try simp only [decide_eq_true_eq, decide_eq_false_iff_not] at c118
                refine j_iconst C dX6_scan_125 ?_
                refine j_iadd C dX6_scan_126 ?_
                refine J.eqI (b := bN (wornP M r i) + bN (wornP M r (i - 1))) (by rw [ew] at c101; rw [ew2] at c118; rw [c101, c118]; rfl) ?_
                refine J.lvs (lv' := [(0, .ref o), (1, .int (iN (r))), (2, .int (iN (z))), (4, .int (iN (sumI (fun k : Nat => lossM M r k) i))), (5, .int (iN (i))), (6, .int (iN (M 14 (60 * r + i))))]) ?_ ?_
                · intro q hq; simp only [List.mem_cons, List.not_mem_nil, or_false] at hq; rcases hq with rfl | rfl | rfl | rfl | rfl | rfl <;> rfl
                · refine key3 S (by omega) hM
              · try simp only [decide_eq_true_eq, decide_eq_false_iff_not] at c118
                refine j_iconst C dX6_scan_121 ?_
                refine j_goto (tgt := 126) C dX6_scan_122 (by decide) ?_
                refine j_iadd C dX6_scan_126 ?_
                refine J.eqI (b := bN (wornP M r i) + bN (wornP M r (i - 1))) (by rw [ew] at c101; rw [ew2] at c118; rw [c101, c118]; rfl) ?_
                refine J.lvs (lv' := [(0, .ref o), (1, .int (iN (r))), (2, .int (iN (z))), (4, .int (iN (sumI (fun k : Nat => lossM M r k) i))), (5, .int (iN (i))), (6, .int (iN (M 14 (60 * r + i))))]) ?_ ?_
                · intro q hq; simp only [List.mem_cons, List.not_mem_nil, or_false] at hq; rcases hq with rfl | rfl | rfl | rfl | rfl | rfl <;> rfl
                · refine key3 S (by omega) hM
            · try simp only [decide_eq_true_eq, decide_eq_false_iff_not] at c101
              refine j_iconst C dX6_scan_104 ?_
              refine j_goto (tgt := 109) C dX6_scan_105 (by decide) ?_
              refine j_aload_n C dX6_scan_109 rfl ?_
              refine j_iload_n C dX6_scan_110 rfl ?_
              refine j_iload C dX6_scan_111 rfl ?_
              refine j_iconst C dX6_scan_113 ?_
              refine j_isub C dX6_scan_114 ?_
              refine j_mcall C hM (c_isWorn l hfl (M := (scanC (mup M 0 0 (x_scan M r z)) r z i)) (by omega) (by omega) i1 i4) cal_X6_isWorn vi_X6_isWorn rfl ml_Mo_169 rfl rfl (Nat.le_of_ble_eq_true rfl) ⟨by decide, by decide⟩ ⟨by omega, by omega⟩ dX6_scan_115 (fun S hM => ?_)
              refine j_ifeq_b (tgt := 125) C dX6_scan_118 (by decide) (fun c118 => ?_) (fun c118 => ?_)
              · try simp only [decide_eq_true_eq, decide_eq_false_iff_not] at c118
                refine j_iconst C dX6_scan_125 ?_
                refine j_iadd C dX6_scan_126 ?_
                refine J.eqI (b := bN (wornP M r i) + bN (wornP M r (i - 1))) (by rw [ew] at c101; rw [ew2] at c118; rw [c101, c118]; rfl) ?_
                refine J.lvs (lv' := [(0, .ref o), (1, .int (iN (r))), (2, .int (iN (z))), (4, .int (iN (sumI (fun k : Nat => lossM M r k) i))), (5, .int (iN (i))), (6, .int (iN (M 14 (60 * r + i))))]) ?_ ?_
                · intro q hq; simp only [List.mem_cons, List.not_mem_nil, or_false] at hq; rcases hq with rfl | rfl | rfl | rfl | rfl | rfl <;> rfl
                · refine key3 S (by omega) hM
              · try simp only [decide_eq_true_eq, decide_eq_false_iff_not] at c118
                refine j_iconst C dX6_scan_121 ?_
                refine j_goto (tgt := 126) C dX6_scan_122 (by decide) ?_
                refine j_iadd C dX6_scan_126 ?_
                refine J.eqI (b := bN (wornP M r i) + bN (wornP M r (i - 1))) (by rw [ew] at c101; rw [ew2] at c118; rw [c101, c118]; rfl) ?_
                refine J.lvs (lv' := [(0, .ref o), (1, .int (iN (r))), (2, .int (iN (z))), (4, .int (iN (sumI (fun k : Nat => lossM M r k) i))), (5, .int (iN (i))), (6, .int (iN (M 14 (60 * r + i))))]) ?_ ?_
                · intro q hq; simp only [List.mem_cons, List.not_mem_nil, or_false] at hq; rcases hq with rfl | rfl | rfl | rfl | rfl | rfl <;> rfl
                · refine key3 S (by omega) hM
      refine J.lvs (lv' := [(0, .ref o), (1, .int (iN (r))), (2, .int (iN (z))), (4, .int (iN (sumI (fun k : Nat => lossM M r k) 0))), (5, .int (iN (((0 : Nat) : Int))))]) ?_ ?_
      · intro q hq; simp only [List.mem_cons, List.not_mem_nil, or_false] at hq; rcases hq with rfl | rfl | rfl | rfl | rfl <;> rfl
      · exact key2 ((M 16 r).toNat + 1) 0 S (by omega) (by omega) (by rw [scanC_0]; exact hM)
    · try simp only [decide_eq_true_eq, decide_eq_false_iff_not] at c58
      try simp only [decide_eq_true_eq, decide_eq_false_iff_not] at c58
      refine j_iconst C dX6_scan_61 ?_
      refine j_iret C ME ?_ (by omega) (by omega) dX6_scan_62
      refine ⟨rI ?_, ?_⟩
      · first
        | (rw [if_neg c58]; done)
        | (rw [if_pos c58]; unfold v_scan; rfl)
      · unfold n_scan
        first
        | (rw [if_neg c58]; exact hM)
        | (rw [if_pos c58]; exact hM)
  refine j_aload_n C dX6_scan_0 rfl ?_
  refine j_iload_n C dX6_scan_1 rfl ?_
  refine j_mcall C hM (c_isReel l hfl (by unfold rg at *; omega) (by omega)) cal_X6_isReel vi_X6_isReel rfl ml_Mo_118 rfl rfl (Nat.le_of_ble_eq_true rfl) ⟨by decide, by decide⟩ ⟨by omega, by omega⟩ dX6_scan_2 (fun S hM => ?_)
  refine j_istore_n C dX6_scan_5 (by decide) ?_
  refine j_aload_n C dX6_scan_6 rfl ?_
  refine j_iload_n C dX6_scan_7 rfl ?_
  refine j_ifne_b (tgt := 15) C dX6_scan_8 (by decide) (fun c8 => ?_) (fun c8 => ?_)
  · try simp only [decide_eq_true_eq, decide_eq_false_iff_not] at c8
    have w4 := i4 r (by omega) (by omega)
    refine j_iload_n C dX6_scan_15 rfl ?_
    refine j_iconst C dX6_scan_16 ?_
    refine j_iconst C dX6_scan_17 ?_
    refine j_callS C (c_in l hfl (by unfold rg at *; omega) (by unfold rg; omega) (by unfold rg; omega)) cal_X6_in st_X6_in ml_Mo_87 rfl rfl (Nat.le_of_ble_eq_true rfl) ⟨by decide, by decide⟩ ⟨by omega, by omega⟩ dX6_scan_18 (fun E S9 h => nomatch h.1) (fun v9 S9 h => ?_)
    obtain ⟨h, h9⟩ := h
    have h9 := h9.symm
    subst h9
    cases h
    refine j_ifne_b (tgt := 28) C dX6_scan_21 (by decide) (fun c21 => ?_) (fun c21 => ?_)
    · try simp only [decide_eq_true_eq, decide_eq_false_iff_not] at c21
      refine j_aload_n C dX6_scan_28 rfl ?_
      refine j_mgeta C hM fl_Mo_49 (by decide) dX6_scan_29 ?_
      refine j_iload_n C dX6_scan_32 rfl ?_
      refine j_mald C hM (by decide) rfl (by simp only [mLen]; omega) dX6_scan_33 ?_
      refine j_if_eq (tgt := 50) C dX6_scan_34 (by decide) (by unfold rg at *; omega) (fun c34 => ?_) (fun c34 => ?_)
      · refine j_iconst C dX6_scan_50 ?_
        refine j_goto (tgt := 55) C dX6_scan_51 (by decide) ?_
        refine J.lvs (lv' := [(0, .ref o), (1, .int (iN (r))), (2, .int (iN (z)))]) ?_ ?_
        · intro q hq; simp only [List.mem_cons, List.not_mem_nil, or_false] at hq; rcases hq with rfl | rfl | rfl <;> rfl
        · refine key _ _ (by clear I i1 i2 i3 i3e i4 i4e i5 i6 i7 i8 i10 i11; (try clear key); (try clear key2); (try clear ih); (try clear w5); (try clear w11); (try clear w2); (try clear w3); (try clear w4); (try clear w6); (try clear w7); (try clear w8); (try clear w9); (try clear p4); (try clear o4); (try simp only [decide_eq_true_eq, decide_eq_false_iff_not] at *); unfold x_scan; (repeat' split) <;> first | rfl | omega | (simp_all; done) | (simp_all; omega)) hM
      · refine j_aload_n C dX6_scan_37 rfl ?_
        refine j_aload_n C dX6_scan_38 rfl ?_
        refine j_mgeta C hM fl_Mo_40 (by decide) dX6_scan_39 ?_
        refine j_iload_n C dX6_scan_42 rfl ?_
        refine j_mald C hM (by decide) rfl (by simp only [mLen]; omega) dX6_scan_43 ?_
        refine j_mcall C hM (c_isLent l hfl (by unfold rg at *; omega) i1 i6 i8) cal_X6_isLent vi_X6_isLent rfl ml_Mo_131 rfl rfl (Nat.le_of_ble_eq_true rfl) ⟨by decide, by decide⟩ ⟨by omega, by omega⟩ dX6_scan_44 (fun S hM => ?_)
        refine j_ifeq_b (tgt := 54) C dX6_scan_47 (by decide) (fun c47 => ?_) (fun c47 => ?_)
        · try simp only [decide_eq_true_eq, decide_eq_false_iff_not] at c47
          refine j_iconst C dX6_scan_54 ?_
          refine J.lvs (lv' := [(0, .ref o), (1, .int (iN (r))), (2, .int (iN (z)))]) ?_ ?_
          · intro q hq; simp only [List.mem_cons, List.not_mem_nil, or_false] at hq; rcases hq with rfl | rfl | rfl <;> rfl
          · refine key _ _ (by clear I i1 i2 i3 i3e i4 i4e i5 i6 i7 i8 i10 i11; (try clear key); (try clear key2); (try clear ih); (try clear w5); (try clear w11); (try clear w2); (try clear w3); (try clear w4); (try clear w6); (try clear w7); (try clear w8); (try clear w9); (try clear p4); (try clear o4); (try simp only [decide_eq_true_eq, decide_eq_false_iff_not] at *); unfold x_scan; (repeat' split) <;> first | rfl | omega | (simp_all; done) | (simp_all; omega)) hM
        · try simp only [decide_eq_true_eq, decide_eq_false_iff_not] at c47
          refine j_iconst C dX6_scan_50 ?_
          refine j_goto (tgt := 55) C dX6_scan_51 (by decide) ?_
          refine J.lvs (lv' := [(0, .ref o), (1, .int (iN (r))), (2, .int (iN (z)))]) ?_ ?_
          · intro q hq; simp only [List.mem_cons, List.not_mem_nil, or_false] at hq; rcases hq with rfl | rfl | rfl <;> rfl
          · refine key _ _ (by clear I i1 i2 i3 i3e i4 i4e i5 i6 i7 i8 i10 i11; (try clear key); (try clear key2); (try clear ih); (try clear w5); (try clear w11); (try clear w2); (try clear w3); (try clear w4); (try clear w6); (try clear w7); (try clear w8); (try clear w9); (try clear p4); (try clear o4); (try simp only [decide_eq_true_eq, decide_eq_false_iff_not] at *); unfold x_scan; (repeat' split) <;> first | rfl | omega | (simp_all; done) | (simp_all; omega)) hM
    · try simp only [decide_eq_true_eq, decide_eq_false_iff_not] at c21
      refine j_iconst C dX6_scan_24 ?_
      refine j_goto (tgt := 55) C dX6_scan_25 (by decide) ?_
      refine J.lvs (lv' := [(0, .ref o), (1, .int (iN (r))), (2, .int (iN (z)))]) ?_ ?_
      · intro q hq; simp only [List.mem_cons, List.not_mem_nil, or_false] at hq; rcases hq with rfl | rfl | rfl <;> rfl
      · refine key _ _ (by clear I i1 i2 i3 i3e i4 i4e i5 i6 i7 i8 i10 i11; (try clear key); (try clear key2); (try clear ih); (try clear w5); (try clear w11); (try clear w2); (try clear w3); (try clear w4); (try clear w6); (try clear w7); (try clear w8); (try clear w9); (try clear p4); (try clear o4); (try simp only [decide_eq_true_eq, decide_eq_false_iff_not] at *); unfold x_scan; (repeat' split) <;> first | rfl | omega | (simp_all; done) | (simp_all; omega)) hM
  · try simp only [decide_eq_true_eq, decide_eq_false_iff_not] at c8
    refine j_iconst C dX6_scan_11 ?_
    refine j_goto (tgt := 55) C dX6_scan_12 (by decide) ?_
    refine J.lvs (lv' := [(0, .ref o), (1, .int (iN (r))), (2, .int (iN (z)))]) ?_ ?_
    · intro q hq; simp only [List.mem_cons, List.not_mem_nil, or_false] at hq; rcases hq with rfl | rfl | rfl <;> rfl
    · refine key _ _ (by clear I i1 i2 i3 i3e i4 i4e i5 i6 i7 i8 i10 i11; (try clear key); (try clear key2); (try clear ih); (try clear w5); (try clear w11); (try clear w2); (try clear w3); (try clear w4); (try clear w6); (try clear w7); (try clear w8); (try clear w9); (try clear p4); (try clear o4); (try simp only [decide_eq_true_eq, decide_eq_false_iff_not] at *); unfold x_scan; (repeat' split) <;> first | rfl | omega | (simp_all; done) | (simp_all; omega)) hM

set_option maxHeartbeats 4000000 in
set_option maxRecDepth 100000 in
theorem m_lend (l : Launch) (hfl : l.stackTraces = false) {M : wM} {f a b g : Int} (h_f : rg f)  (h_a : rg a)  (h_b : rg b)  (h_g : rg g) (I : Inv M) : MC l yX6_lend cX6_lend 9 (some FieldType.int) 4 [.int (iN f), .int (iN a), .int (iN b), .int (iN g)] M (.inl (some (.int (iN (if x_lend M f a b g = 0 then v_lend M f a b g else 0))))) (n_lend M f a b g) := by
  intro S0 o B hM0
  refine Ct.of cal_X6_lend hfl (Nat.le_of_ble_eq_true rfl) ?_
  intro p e s m args below meth c D sz C ME
  have hM : RMF S0 S0 o B M := ⟨hM0, mF.rf⟩
  have I9 := I
  obtain ⟨i1, i2, i3, i3e, i4, i4e, i5, i6, i7, i8, i10, i11⟩ := I9
  obtain ⟨a1, a2, a3, a4, a5, a6, a7⟩ := id i1
  have key : ∀ (x : Int) (S : wS), x = x_lend M f a b g → RMF S0 S o B M → J p l e { frames := 20 * 4, cells := 0, slots := 0, locals := 200 * 4 } s m args below meth c 9 D (wA S0 sz) (wQ below D sz S0 (fun r9 S9 => r9 = .inl (some (.int (iN (if x_lend M f a b g = 0 then v_lend M f a b g else 0)))) ∧ RMF S0 S9 o B (n_lend M f a b g)) args s 0 0) 176 [(0, .ref o), (1, .int (iN (f))), (2, .int (iN (a))), (3, .int (iN (b))), (4, .int (iN (g)))] [.int (iN x), .ref o] S 0 0 := by
    intro x S hx hM
    subst hx
    refine j_mcall C hM (c_goesOn l hfl (by unfold x_lend; (repeat' split) <;> (unfold rg; omega))) cal_X6_goesOn vi_X6_goesOn rfl ml_Mo_103 rfl rfl (Nat.le_of_ble_eq_true rfl) ⟨by decide, by decide⟩ ⟨by omega, by omega⟩ dX6_lend_176 (fun S hM => ?_)
    refine j_ifne_b (tgt := 184) C dX6_lend_179 (by decide) (fun c179 => ?_) (fun c179 => ?_)
    · try simp only [decide_eq_true_eq, decide_eq_false_iff_not] at c179
      try simp only [decide_eq_true_eq, decide_eq_false_iff_not] at c179
      have ok : (0 ≤ f ∧ f < M 21 0) ∧ ((1 ≤ a ∧ a ≤ 9) ∧ (0 ≤ b ∧ b ≤ 3) ∧ 1 ≤ g ∧ g ≤ 99) ∧ M 28 0 < 20 := by
        clear I i1 i2 i3 i3e i4 i4e i5 i6 i7 i8 i10 i11; (try clear key); (try clear key2); (try clear ih); (try clear w5); (try clear w11); (try clear w2); (try clear w3); (try clear w4); (try clear w6); (try clear w7); (try clear w8); (try clear w9); (try clear p4); (try clear o4); unfold x_lend at c179
        (repeat' split at c179) <;> first | rfl | omega | (simp_all; done) | (simp_all; omega)
      
      refine j_aload_n C dX6_lend_184 rfl ?_
      refine j_mgeta C hM fl_Mo_65 (by decide) dX6_lend_185 ?_
      refine j_aload_n C dX6_lend_188 rfl ?_
      refine j_mgeti C hM fl_Mo_100 ⟨by decide, rfl⟩ dX6_lend_189 ?_
      refine j_iload_n C dX6_lend_192 rfl ?_
      refine j_mast C hM (by decide) rfl (show 0 ≤ M 28 0 ∧ M 28 0 < ((20 : Nat) : Int) by omega) dX6_lend_193 (fun S hM => ?_)
      refine j_aload_n C dX6_lend_194 rfl ?_
      refine j_mgeta C hM fl_Mo_68 (by decide) dX6_lend_195 ?_
      refine j_aload_n C dX6_lend_198 rfl ?_
      refine j_mgeti C hM fl_Mo_100 ⟨by decide, rfl⟩ dX6_lend_199 ?_
      refine j_iload_n C dX6_lend_202 rfl ?_
      refine j_mast C hM (by decide) rfl (show 0 ≤ M 28 0 ∧ M 28 0 < ((20 : Nat) : Int) by omega) dX6_lend_203 (fun S hM => ?_)
      refine j_aload_n C dX6_lend_204 rfl ?_
      refine j_mgeta C hM fl_Mo_71 (by decide) dX6_lend_205 ?_
      refine j_aload_n C dX6_lend_208 rfl ?_
      refine j_mgeti C hM fl_Mo_100 ⟨by decide, rfl⟩ dX6_lend_209 ?_
      refine j_iload_n C dX6_lend_212 rfl ?_
      refine j_mast C hM (by decide) rfl (show 0 ≤ M 28 0 ∧ M 28 0 < ((20 : Nat) : Int) by omega) dX6_lend_213 (fun S hM => ?_)
      refine j_aload_n C dX6_lend_214 rfl ?_
      refine j_mgeta C hM fl_Mo_74 (by decide) dX6_lend_215 ?_
      refine j_aload_n C dX6_lend_218 rfl ?_
      refine j_mgeti C hM fl_Mo_100 ⟨by decide, rfl⟩ dX6_lend_219 ?_
      refine j_aload_n C dX6_lend_222 rfl ?_
      refine j_mgeti C hM fl_Mo_181 ⟨by decide, rfl⟩ dX6_lend_223 ?_
      refine j_iload C dX6_lend_226 rfl ?_
      refine j_iadd C dX6_lend_228 ?_
      refine j_mast C hM (by decide) rfl (show 0 ≤ M 28 0 ∧ M 28 0 < ((20 : Nat) : Int) by omega) dX6_lend_229 (fun S hM => ?_)
      refine j_aload_n C dX6_lend_230 rfl ?_
      refine j_dup C dX6_lend_231 rfl ?_
      refine j_mgeti C hM fl_Mo_100 ⟨by decide, rfl⟩ dX6_lend_232 ?_
      refine j_iconst C dX6_lend_235 ?_
      refine j_iadd C dX6_lend_236 ?_
      refine j_mputi C hM fl_Mo_100 ⟨by decide, rfl⟩ dX6_lend_237 (fun S hM => ?_)
      refine j_aload_n C dX6_lend_240 rfl ?_
      refine j_mgeti C hM fl_Mo_100 ⟨by decide, rfl⟩ dX6_lend_241 ?_
      refine j_iconst C dX6_lend_244 ?_
      refine j_isub C dX6_lend_245 ?_
      refine j_iret C ME ?_ (by omega) (by omega) dX6_lend_246
      refine ⟨rI ?_, ?_⟩
      · first
        | (rw [if_neg c179]; done)
        | (rw [if_pos c179]; unfold v_lend; show M 28 0 + 1 - 1 = M 28 0; omega)
      · unfold n_lend
        first
        | (rw [if_neg c179]; exact hM)
        | (rw [if_pos c179]; exact hM)
    · try simp only [decide_eq_true_eq, decide_eq_false_iff_not] at c179
      try simp only [decide_eq_true_eq, decide_eq_false_iff_not] at c179
      refine j_iconst C dX6_lend_182 ?_
      refine j_iret C ME ?_ (by omega) (by omega) dX6_lend_183
      refine ⟨rI ?_, ?_⟩
      · first
        | (rw [if_neg c179]; done)
        | (rw [if_pos c179]; unfold v_lend; show M 28 0 + 1 - 1 = M 28 0; omega)
      · unfold n_lend
        first
        | (rw [if_neg c179]; exact hM)
        | (rw [if_pos c179]; exact hM)
  have key3 : ∀ (u t : Bool) (S : wS), u = decide ((1 ≤ a ∧ a ≤ 9) ∧ (0 ≤ b ∧ b ≤ 3) ∧ 1 ≤ g ∧ g ≤ 99) → (u = true → t = (decide (0 ≤ f ∧ f < M 21 0) && !lentM M (M 19 f) && !badM M f (a * (1 + b)) (M 17 0).toNat)) → RMF S0 S o B M → J p l e { frames := 20 * 4, cells := 0, slots := 0, locals := 200 * 4 } s m args below meth c 9 D (wA S0 sz) (wQ below D sz S0 (fun r9 S9 => r9 = .inl (some (.int (iN (if x_lend M f a b g = 0 then v_lend M f a b g else 0)))) ∧ RMF S0 S9 o B (n_lend M f a b g)) args s 0 0) 134 [(0, .ref o), (1, .int (iN (f))), (2, .int (iN (a))), (3, .int (iN (b))), (4, .int (iN (g))), (5, .int (iN (bN (decide (0 ≤ f ∧ f < M 21 0))))), (6, .int (iN (bN u))), (7, .int (iN (bN t)))] [] S 0 0 := by
    intro u t S hu ht hM
    refine j_aload_n C dX6_lend_134 rfl ?_
    refine j_iload C dX6_lend_135 rfl ?_
    refine j_ifne_b (tgt := 144) C dX6_lend_137 (by decide) (fun c137 => ?_) (fun c137 => ?_)
    · try simp only [decide_eq_true_eq, decide_eq_false_iff_not] at c137
      refine j_iload C dX6_lend_144 rfl ?_
      refine j_ifne_b (tgt := 153) C dX6_lend_146 (by decide) (fun c146 => ?_) (fun c146 => ?_)
      · try simp only [decide_eq_true_eq, decide_eq_false_iff_not] at c146
        refine j_iload C dX6_lend_153 rfl ?_
        refine j_ifne_b (tgt := 162) C dX6_lend_155 (by decide) (fun c155 => ?_) (fun c155 => ?_)
        · try simp only [decide_eq_true_eq, decide_eq_false_iff_not] at c155
          refine j_aload_n C dX6_lend_162 rfl ?_
          refine j_mgeti C hM fl_Mo_100 ⟨by decide, rfl⟩ dX6_lend_163 ?_
          refine j_bipush C dX6_lend_166 (by decide) ?_
          refine j_icmp_ne (tgt := 175) C dX6_lend_168 (by decide) (by unfold rg at *; omega) (by unfold rg at *; omega) (fun c168 => ?_) (fun c168 => ?_)
          · refine j_iconst C dX6_lend_175 ?_
            refine J.lvs (lv' := [(0, .ref o), (1, .int (iN (f))), (2, .int (iN (a))), (3, .int (iN (b))), (4, .int (iN (g)))]) ?_ ?_
            · intro q hq; simp only [List.mem_cons, List.not_mem_nil, or_false] at hq; rcases hq with rfl | rfl | rfl | rfl | rfl <;> rfl
            · refine key _ _ (by clear I i1 i2 i3 i3e i4 i4e i5 i6 i7 i8 i10 i11; (try clear key); (try clear key2); (try clear ih); (try clear w5); (try clear w11); (try clear w2); (try clear w3); (try clear w4); (try clear w6); (try clear w7); (try clear w8); (try clear w9); (try clear p4); (try clear o4); (try simp only [decide_eq_true_eq, decide_eq_false_iff_not] at *); unfold x_lend; (repeat' split) <;> first | rfl | omega | (simp_all; done) | (simp_all; omega)) hM
          · refine j_iconst C dX6_lend_171 ?_
            refine j_goto (tgt := 176) C dX6_lend_172 (by decide) ?_
            refine J.lvs (lv' := [(0, .ref o), (1, .int (iN (f))), (2, .int (iN (a))), (3, .int (iN (b))), (4, .int (iN (g)))]) ?_ ?_
            · intro q hq; simp only [List.mem_cons, List.not_mem_nil, or_false] at hq; rcases hq with rfl | rfl | rfl | rfl | rfl <;> rfl
            · refine key _ _ (by clear I i1 i2 i3 i3e i4 i4e i5 i6 i7 i8 i10 i11; (try clear key); (try clear key2); (try clear ih); (try clear w5); (try clear w11); (try clear w2); (try clear w3); (try clear w4); (try clear w6); (try clear w7); (try clear w8); (try clear w9); (try clear p4); (try clear o4); (try simp only [decide_eq_true_eq, decide_eq_false_iff_not] at *); unfold x_lend; (repeat' split) <;> first | rfl | omega | (simp_all; done) | (simp_all; omega)) hM
        · try simp only [decide_eq_true_eq, decide_eq_false_iff_not] at c155
          refine j_iconst C dX6_lend_158 ?_
          refine j_goto (tgt := 176) C dX6_lend_159 (by decide) ?_
          refine J.lvs (lv' := [(0, .ref o), (1, .int (iN (f))), (2, .int (iN (a))), (3, .int (iN (b))), (4, .int (iN (g)))]) ?_ ?_
          · intro q hq; simp only [List.mem_cons, List.not_mem_nil, or_false] at hq; rcases hq with rfl | rfl | rfl | rfl | rfl <;> rfl
          · refine key _ _ (by clear I i1 i2 i3 i3e i4 i4e i5 i6 i7 i8 i10 i11; (try clear key); (try clear key2); (try clear ih); (try clear w5); (try clear w11); (try clear w2); (try clear w3); (try clear w4); (try clear w6); (try clear w7); (try clear w8); (try clear w9); (try clear p4); (try clear o4); (try simp only [decide_eq_true_eq, decide_eq_false_iff_not] at *); unfold x_lend; (repeat' split) <;> first | rfl | omega | (simp_all; done) | (simp_all; omega)) hM
      · try simp only [decide_eq_true_eq, decide_eq_false_iff_not] at c146
        refine j_iconst C dX6_lend_149 ?_
        refine j_goto (tgt := 176) C dX6_lend_150 (by decide) ?_
        refine J.lvs (lv' := [(0, .ref o), (1, .int (iN (f))), (2, .int (iN (a))), (3, .int (iN (b))), (4, .int (iN (g)))]) ?_ ?_
        · intro q hq; simp only [List.mem_cons, List.not_mem_nil, or_false] at hq; rcases hq with rfl | rfl | rfl | rfl | rfl <;> rfl
        · refine key _ _ (by clear I i1 i2 i3 i3e i4 i4e i5 i6 i7 i8 i10 i11; (try clear key); (try clear key2); (try clear ih); (try clear w5); (try clear w11); (try clear w2); (try clear w3); (try clear w4); (try clear w6); (try clear w7); (try clear w8); (try clear w9); (try clear p4); (try clear o4); (try simp only [decide_eq_true_eq, decide_eq_false_iff_not] at *); unfold x_lend; (repeat' split) <;> first | rfl | omega | (simp_all; done) | (simp_all; omega)) hM
    · try simp only [decide_eq_true_eq, decide_eq_false_iff_not] at c137
      refine j_iconst C dX6_lend_140 ?_
      refine j_goto (tgt := 176) C dX6_lend_141 (by decide) ?_
      refine J.lvs (lv' := [(0, .ref o), (1, .int (iN (f))), (2, .int (iN (a))), (3, .int (iN (b))), (4, .int (iN (g)))]) ?_ ?_
      · intro q hq; simp only [List.mem_cons, List.not_mem_nil, or_false] at hq; rcases hq with rfl | rfl | rfl | rfl | rfl <;> rfl
      · refine key _ _ (by clear I i1 i2 i3 i3e i4 i4e i5 i6 i7 i8 i10 i11; (try clear key); (try clear key2); (try clear ih); (try clear w5); (try clear w11); (try clear w2); (try clear w3); (try clear w4); (try clear w6); (try clear w7); (try clear w8); (try clear w9); (try clear p4); (try clear o4); (try simp only [decide_eq_true_eq, decide_eq_false_iff_not] at *); unfold x_lend; (repeat' split) <;> first | rfl | omega | (simp_all; done) | (simp_all; omega)) hM
  have key2 : ∀ (fuel : Nat) (i : Nat) (u t : Bool) (S : wS), M 17 0 - i < fuel → (i : Int) ≤ M 17 0 → u = decide ((1 ≤ a ∧ a ≤ 9) ∧ (0 ≤ b ∧ b ≤ 3) ∧ 1 ≤ g ∧ g ≤ 99) → t = (decide (0 ≤ f ∧ f < M 21 0) && !lentM M (M 19 f) && !badM M f (a * (1 + b)) i) → RMF S0 S o B M → J p l e { frames := 20 * 4, cells := 0, slots := 0, locals := 200 * 4 } s m args below meth c 9 D (wA S0 sz) (wQ below D sz S0 (fun r9 S9 => r9 = .inl (some (.int (iN (if x_lend M f a b g = 0 then v_lend M f a b g else 0)))) ∧ RMF S0 S9 o B (n_lend M f a b g)) args s 0 0) 72 [(0, .ref o), (1, .int (iN (f))), (2, .int (iN (a))), (3, .int (iN (b))), (4, .int (iN (g))), (5, .int (iN (bN (decide (0 ≤ f ∧ f < M 21 0))))), (6, .int (iN (bN u))), (7, .int (iN (bN t))), (8, .int (iN (i)))] [] S 0 0 := by
    intro fuel
    induction fuel with
    | zero => intro i u t S h1 h2 hu ht hM; omega
    | succ fuel ih =>
      intro i u t S h1 h2 hu ht hM
      have e9 : badM M f (a * (1 + b)) (i + 1) = (badM M f (a * (1 + b)) i || (decide (M 13 i = M 19 f) && !bearP M i (a * (1 + b)))) := rfl
      have w6 := fun (h : 0 ≤ f ∧ f < M 21 0) => i6 f (by omega) (by omega)
      have w4 := fun (h : (i : Int) < 24) => i4 i (by omega) (by omega)
      refine j_iload C dX6_lend_72 rfl ?_
      refine j_aload_n C dX6_lend_74 rfl ?_
      refine j_mgeti C hM fl_Mo_94 ⟨by decide, rfl⟩ dX6_lend_75 ?_
      refine j_icmp_ge (tgt := 134) C dX6_lend_78 (by decide) (by unfold rg at *; omega) (by unfold rg at *; omega) (fun c78 => ?_) (fun c78 => ?_)
      · refine J.lvs (lv' := [(0, .ref o), (1, .int (iN (f))), (2, .int (iN (a))), (3, .int (iN (b))), (4, .int (iN (g))), (5, .int (iN (bN (decide (0 ≤ f ∧ f < M 21 0))))), (6, .int (iN (bN u))), (7, .int (iN (bN t)))]) ?_ ?_
        · intro q hq; simp only [List.mem_cons, List.not_mem_nil, or_false] at hq; rcases hq with rfl | rfl | rfl | rfl | rfl | rfl | rfl | rfl <;> rfl
        · refine key3 u t S hu ?_ hM
          · intro hu2
            first
            | (rw [ht, show i = (M 17 0).toNat by omega]; done)
            | (exfalso; rw [hu2] at c88; exact absurd c88 (by decide))
            | (rw [c83] at ht
               rw [c83]
               cases hb : badM M f (a * (1 + b)) i with
               | true => rw [show badM M f (a * (1 + b)) (M 17 0).toNat = true from anyI_mono (by omega) hb]; simp
               | false => rw [hb] at ht; cases hv : lentM M (M 19 f) with
                 | true => simp
                 | false => rw [hv] at ht; cases hw : decide (0 ≤ f ∧ f < M 21 0) with
                   | true => rw [hw] at ht; exact absurd ht (by decide)
                   | false => rfl)
      · refine j_iload C dX6_lend_81 rfl ?_
        refine j_ifeq_b (tgt := 134) C dX6_lend_83 (by decide) (fun c83 => ?_) (fun c83 => ?_)
        · try simp only [decide_eq_true_eq, decide_eq_false_iff_not] at c83
          refine J.lvs (lv' := [(0, .ref o), (1, .int (iN (f))), (2, .int (iN (a))), (3, .int (iN (b))), (4, .int (iN (g))), (5, .int (iN (bN (decide (0 ≤ f ∧ f < M 21 0))))), (6, .int (iN (bN u))), (7, .int (iN (bN t)))]) ?_ ?_
          · intro q hq; simp only [List.mem_cons, List.not_mem_nil, or_false] at hq; rcases hq with rfl | rfl | rfl | rfl | rfl | rfl | rfl | rfl <;> rfl
          · refine key3 u t S hu ?_ hM
            · intro hu2
              first
              | (rw [ht, show i = (M 17 0).toNat by omega]; done)
              | (exfalso; rw [hu2] at c88; exact absurd c88 (by decide))
              | (rw [c83] at ht
                 rw [c83]
                 cases hb : badM M f (a * (1 + b)) i with
                 | true => rw [show badM M f (a * (1 + b)) (M 17 0).toNat = true from anyI_mono (by omega) hb]; simp
                 | false => rw [hb] at ht; cases hv : lentM M (M 19 f) with
                   | true => simp
                   | false => rw [hv] at ht; cases hw : decide (0 ≤ f ∧ f < M 21 0) with
                     | true => rw [hw] at ht; exact absurd ht (by decide)
                     | false => rfl)
        · try simp only [decide_eq_true_eq, decide_eq_false_iff_not] at c83
          refine j_iload C dX6_lend_86 rfl ?_
          refine j_ifeq_b (tgt := 134) C dX6_lend_88 (by decide) (fun c88 => ?_) (fun c88 => ?_)
          · try simp only [decide_eq_true_eq, decide_eq_false_iff_not] at c88
            refine J.lvs (lv' := [(0, .ref o), (1, .int (iN (f))), (2, .int (iN (a))), (3, .int (iN (b))), (4, .int (iN (g))), (5, .int (iN (bN (decide (0 ≤ f ∧ f < M 21 0))))), (6, .int (iN (bN u))), (7, .int (iN (bN t)))]) ?_ ?_
            · intro q hq; simp only [List.mem_cons, List.not_mem_nil, or_false] at hq; rcases hq with rfl | rfl | rfl | rfl | rfl | rfl | rfl | rfl <;> rfl
            · refine key3 u t S hu ?_ hM
              · intro hu2
                first
                | (rw [ht, show i = (M 17 0).toNat by omega]; done)
                | (exfalso; rw [hu2] at c88; exact absurd c88 (by decide))
                | (rw [c83] at ht
                   rw [c83]
                   cases hb : badM M f (a * (1 + b)) i with
                   | true => rw [show badM M f (a * (1 + b)) (M 17 0).toNat = true from anyI_mono (by omega) hb]; simp
                   | false => rw [hb] at ht; cases hv : lentM M (M 19 f) with
                     | true => simp
                     | false => rw [hv] at ht; cases hw : decide (0 ≤ f ∧ f < M 21 0) with
                       | true => rw [hw] at ht; exact absurd ht (by decide)
                       | false => rfl)
          · try simp only [decide_eq_true_eq, decide_eq_false_iff_not] at c88
            have hw1 : a * (1 + b) ≤ 9 * (1 + b) := by
              rw [c88] at hu
              have q := of_decide_eq_true hu.symm
              exact Int.mul_le_mul_of_nonneg_right (by omega) (by omega)
            have hw2 : 0 ≤ a * (1 + b) := by
              rw [c88] at hu
              have q := of_decide_eq_true hu.symm
              exact Int.mul_nonneg (by omega) (by omega)
            have hv : 0 ≤ f ∧ f < M 21 0 := by
              rw [c83] at ht
              cases hw : decide (0 ≤ f ∧ f < M 21 0) with
              | true => exact of_decide_eq_true hw
              | false => rw [hw] at ht; exact absurd ht (by simp)
            have w6 := w6 hv
            have w4 := w4 (by omega)
            have hb3 : b ≤ 3 := by
              rw [c88] at hu
              have q := of_decide_eq_true hu.symm
              omega
            refine j_aload_n C dX6_lend_91 rfl ?_
            refine j_mgeta C hM fl_Mo_40 (by decide) dX6_lend_92 ?_
            refine j_iload C dX6_lend_95 rfl ?_
            refine j_mald C hM (by decide) rfl (by simp only [mLen]; omega) dX6_lend_97 ?_
            refine j_aload_n C dX6_lend_98 rfl ?_
            refine j_mgeta C hM fl_Mo_56 (by decide) dX6_lend_99 ?_
            refine j_iload_n C dX6_lend_102 rfl ?_
            refine j_mald C hM (by decide) rfl (by simp only [mLen]; omega) dX6_lend_103 ?_
            refine j_icmp_ne (tgt := 121) C dX6_lend_104 (by decide) (by unfold rg at *; omega) (by unfold rg at *; omega) (fun c104 => ?_) (fun c104 => ?_)
            · refine j_iconst C dX6_lend_121 ?_
              refine j_goto (tgt := 126) C dX6_lend_122 (by decide) ?_
              refine j_istore C dX6_lend_126 (by decide) ?_
              refine j_iinc C dX6_lend_128 rfl (by decide) ?_
              refine j_goto (tgt := 72) C dX6_lend_131 (by decide) ?_
              first
                | (refine J.lvs (lv' := [(0, .ref o), (1, .int (iN (f))), (2, .int (iN (a))), (3, .int (iN (b))), (4, .int (iN (g))), (5, .int (iN (bN (decide (0 ≤ f ∧ f < M 21 0))))), (6, .int (iN (bN u))), (7, .int (iN (bN true))), (8, .int (iN (((i + 1 : Nat) : Int))))]) ?_ ?_
                   · intro q hq; simp only [List.mem_cons, List.not_mem_nil, or_false] at hq; rcases hq with rfl | rfl | rfl | rfl | rfl | rfl | rfl | rfl | rfl <;> rfl
                   · refine ih (i + 1) u true S (by omega) (by omega) hu ?_ hM
                     · rw [e9, Bool.not_or, ← Bool.and_assoc, ← ht, c83]; first | (simp [c104, c118]; done) | (simp [c104]; done))
                | (refine J.lvs (lv' := [(0, .ref o), (1, .int (iN (f))), (2, .int (iN (a))), (3, .int (iN (b))), (4, .int (iN (g))), (5, .int (iN (bN (decide (0 ≤ f ∧ f < M 21 0))))), (6, .int (iN (bN u))), (7, .int (iN (bN false))), (8, .int (iN (((i + 1 : Nat) : Int))))]) ?_ ?_
                   · intro q hq; simp only [List.mem_cons, List.not_mem_nil, or_false] at hq; rcases hq with rfl | rfl | rfl | rfl | rfl | rfl | rfl | rfl | rfl <;> rfl
                   · refine ih (i + 1) u false S (by omega) (by omega) hu ?_ hM
                     · rw [e9, Bool.not_or, ← Bool.and_assoc, ← ht, c83]; first | (simp [c104, c118]; done) | (simp [c104]; done))
            · refine j_aload_n C dX6_lend_107 rfl ?_
              refine j_iload C dX6_lend_108 rfl ?_
              refine j_iload_n C dX6_lend_110 rfl ?_
              refine j_iconst C dX6_lend_111 ?_
              refine j_iload_n C dX6_lend_112 rfl ?_
              refine j_iadd C dX6_lend_113 ?_
              refine j_imul C dX6_lend_114 ?_
              refine j_mcall C hM (c_bears l hfl (M := M) (by omega) (by omega) i1 i4) cal_X6_bears vi_X6_bears rfl ml_Mo_159 rfl rfl (Nat.le_of_ble_eq_true rfl) ⟨by decide, by decide⟩ ⟨by omega, by omega⟩ dX6_lend_115 (fun S hM => ?_)
              refine j_ifeq_b (tgt := 125) C dX6_lend_118 (by decide) (fun c118 => ?_) (fun c118 => ?_)
              · try simp only [decide_eq_true_eq, decide_eq_false_iff_not] at c118
                refine j_iconst C dX6_lend_125 ?_
                refine j_istore C dX6_lend_126 (by decide) ?_
                refine j_iinc C dX6_lend_128 rfl (by decide) ?_
                refine j_goto (tgt := 72) C dX6_lend_131 (by decide) ?_
                first
                  | (refine J.lvs (lv' := [(0, .ref o), (1, .int (iN (f))), (2, .int (iN (a))), (3, .int (iN (b))), (4, .int (iN (g))), (5, .int (iN (bN (decide (0 ≤ f ∧ f < M 21 0))))), (6, .int (iN (bN u))), (7, .int (iN (bN true))), (8, .int (iN (((i + 1 : Nat) : Int))))]) ?_ ?_
                     · intro q hq; simp only [List.mem_cons, List.not_mem_nil, or_false] at hq; rcases hq with rfl | rfl | rfl | rfl | rfl | rfl | rfl | rfl | rfl <;> rfl
                     · refine ih (i + 1) u true S (by omega) (by omega) hu ?_ hM
                       · rw [e9, Bool.not_or, ← Bool.and_assoc, ← ht, c83]; first | (simp [c104, c118]; done) | (simp [c104]; done))
                  | (refine J.lvs (lv' := [(0, .ref o), (1, .int (iN (f))), (2, .int (iN (a))), (3, .int (iN (b))), (4, .int (iN (g))), (5, .int (iN (bN (decide (0 ≤ f ∧ f < M 21 0))))), (6, .int (iN (bN u))), (7, .int (iN (bN false))), (8, .int (iN (((i + 1 : Nat) : Int))))]) ?_ ?_
                     · intro q hq; simp only [List.mem_cons, List.not_mem_nil, or_false] at hq; rcases hq with rfl | rfl | rfl | rfl | rfl | rfl | rfl | rfl | rfl <;> rfl
                     · refine ih (i + 1) u false S (by omega) (by omega) hu ?_ hM
                       · rw [e9, Bool.not_or, ← Bool.and_assoc, ← ht, c83]; first | (simp [c104, c118]; done) | (simp [c104]; done))
              · try simp only [decide_eq_true_eq, decide_eq_false_iff_not] at c118
                refine j_iconst C dX6_lend_121 ?_
                refine j_goto (tgt := 126) C dX6_lend_122 (by decide) ?_
                refine j_istore C dX6_lend_126 (by decide) ?_
                refine j_iinc C dX6_lend_128 rfl (by decide) ?_
                refine j_goto (tgt := 72) C dX6_lend_131 (by decide) ?_
                first
                  | (refine J.lvs (lv' := [(0, .ref o), (1, .int (iN (f))), (2, .int (iN (a))), (3, .int (iN (b))), (4, .int (iN (g))), (5, .int (iN (bN (decide (0 ≤ f ∧ f < M 21 0))))), (6, .int (iN (bN u))), (7, .int (iN (bN true))), (8, .int (iN (((i + 1 : Nat) : Int))))]) ?_ ?_
                     · intro q hq; simp only [List.mem_cons, List.not_mem_nil, or_false] at hq; rcases hq with rfl | rfl | rfl | rfl | rfl | rfl | rfl | rfl | rfl <;> rfl
                     · refine ih (i + 1) u true S (by omega) (by omega) hu ?_ hM
                       · rw [e9, Bool.not_or, ← Bool.and_assoc, ← ht, c83]; first | (simp [c104, c118]; done) | (simp [c104]; done))
                  | (refine J.lvs (lv' := [(0, .ref o), (1, .int (iN (f))), (2, .int (iN (a))), (3, .int (iN (b))), (4, .int (iN (g))), (5, .int (iN (bN (decide (0 ≤ f ∧ f < M 21 0))))), (6, .int (iN (bN u))), (7, .int (iN (bN false))), (8, .int (iN (((i + 1 : Nat) : Int))))]) ?_ ?_
                     · intro q hq; simp only [List.mem_cons, List.not_mem_nil, or_false] at hq; rcases hq with rfl | rfl | rfl | rfl | rfl | rfl | rfl | rfl | rfl <;> rfl
                     · refine ih (i + 1) u false S (by omega) (by omega) hu ?_ hM
                       · rw [e9, Bool.not_or, ← Bool.and_assoc, ← ht, c83]; first | (simp [c104, c118]; done) | (simp [c104]; done))
  refine j_aload_n C dX6_lend_0 rfl ?_
  refine j_iload_n C dX6_lend_1 rfl ?_
  refine j_mcall C hM (c_isVersion l hfl (by unfold rg at *; omega) (by omega)) cal_X6_isVersion vi_X6_isVersion rfl ml_Mo_175 rfl rfl (Nat.le_of_ble_eq_true rfl) ⟨by decide, by decide⟩ ⟨by omega, by omega⟩ dX6_lend_2 (fun S hM => ?_)
  refine j_istore C dX6_lend_5 (by decide) ?_
  refine j_iload_n C dX6_lend_7 rfl ?_
  refine j_iconst C dX6_lend_8 ?_
  refine j_bipush C dX6_lend_9 (by decide) ?_
  refine j_callS C (c_in l hfl (by unfold rg at *; omega) (by unfold rg; omega) (by unfold rg; omega)) cal_X6_in st_X6_in ml_Mo_87 rfl rfl (Nat.le_of_ble_eq_true rfl) ⟨by decide, by decide⟩ ⟨by omega, by omega⟩ dX6_lend_11 (fun E S9 h => nomatch h.1) (fun v9 S9 h => ?_)
  obtain ⟨h, h9⟩ := h
  have h9 := h9.symm
  subst h9
  cases h
  refine j_ifeq_b (tgt := 41) C dX6_lend_14 (by decide) (fun c14 => ?_) (fun c14 => ?_)
  · try simp only [decide_eq_true_eq, decide_eq_false_iff_not] at c14
    refine j_iconst C dX6_lend_41 ?_
    refine j_istore C dX6_lend_42 (by decide) ?_
    refine j_iload C dX6_lend_44 rfl ?_
    refine j_ifeq_b (tgt := 66) C dX6_lend_46 (by decide) (fun c46 => ?_) (fun c46 => ?_)
    · try simp only [decide_eq_true_eq, decide_eq_false_iff_not] at c46
      refine j_iconst C dX6_lend_66 ?_
      refine j_istore C dX6_lend_67 (by decide) ?_
      refine j_iconst C dX6_lend_69 ?_
      refine j_istore C dX6_lend_70 (by decide) ?_
      first
        | (refine J.lvs (lv' := [(0, .ref o), (1, .int (iN (f))), (2, .int (iN (a))), (3, .int (iN (b))), (4, .int (iN (g))), (5, .int (iN (bN (decide (0 ≤ f ∧ f < M 21 0))))), (6, .int (iN (bN true))), (7, .int (iN (bN true))), (8, .int (iN (((0 : Nat) : Int))))]) ?_ ?_
           · intro q hq; simp only [List.mem_cons, List.not_mem_nil, or_false] at hq; rcases hq with rfl | rfl | rfl | rfl | rfl | rfl | rfl | rfl | rfl <;> rfl
           · refine key2 ((M 17 0).toNat + 1) 0 true true _ (by omega) (by omega) ?_ ?_ hM
             · symm; apply decide_eq_true; omega
             · (try clear key); (try clear key2); (try clear ih); clear I i1 i2 i3 i3e i4 i4e i5 i6 i7 i8 i10 i11; simp [badM, anyI, *])
        | (refine J.lvs (lv' := [(0, .ref o), (1, .int (iN (f))), (2, .int (iN (a))), (3, .int (iN (b))), (4, .int (iN (g))), (5, .int (iN (bN (decide (0 ≤ f ∧ f < M 21 0))))), (6, .int (iN (bN true))), (7, .int (iN (bN false))), (8, .int (iN (((0 : Nat) : Int))))]) ?_ ?_
           · intro q hq; simp only [List.mem_cons, List.not_mem_nil, or_false] at hq; rcases hq with rfl | rfl | rfl | rfl | rfl | rfl | rfl | rfl | rfl <;> rfl
           · refine key2 ((M 17 0).toNat + 1) 0 true false _ (by omega) (by omega) ?_ ?_ hM
             · symm; apply decide_eq_true; omega
             · (try clear key); (try clear key2); (try clear ih); clear I i1 i2 i3 i3e i4 i4e i5 i6 i7 i8 i10 i11; simp [badM, anyI, *])
        | (refine J.lvs (lv' := [(0, .ref o), (1, .int (iN (f))), (2, .int (iN (a))), (3, .int (iN (b))), (4, .int (iN (g))), (5, .int (iN (bN (decide (0 ≤ f ∧ f < M 21 0))))), (6, .int (iN (bN false))), (7, .int (iN (bN true))), (8, .int (iN (((0 : Nat) : Int))))]) ?_ ?_
           · intro q hq; simp only [List.mem_cons, List.not_mem_nil, or_false] at hq; rcases hq with rfl | rfl | rfl | rfl | rfl | rfl | rfl | rfl | rfl <;> rfl
           · refine key2 ((M 17 0).toNat + 1) 0 false true _ (by omega) (by omega) ?_ ?_ hM
             · symm; apply decide_eq_false; omega
             · (try clear key); (try clear key2); (try clear ih); clear I i1 i2 i3 i3e i4 i4e i5 i6 i7 i8 i10 i11; simp [badM, anyI, *])
        | (refine J.lvs (lv' := [(0, .ref o), (1, .int (iN (f))), (2, .int (iN (a))), (3, .int (iN (b))), (4, .int (iN (g))), (5, .int (iN (bN (decide (0 ≤ f ∧ f < M 21 0))))), (6, .int (iN (bN false))), (7, .int (iN (bN false))), (8, .int (iN (((0 : Nat) : Int))))]) ?_ ?_
           · intro q hq; simp only [List.mem_cons, List.not_mem_nil, or_false] at hq; rcases hq with rfl | rfl | rfl | rfl | rfl | rfl | rfl | rfl | rfl <;> rfl
           · refine key2 ((M 17 0).toNat + 1) 0 false false _ (by omega) (by omega) ?_ ?_ hM
             · symm; apply decide_eq_false; omega
             · (try clear key); (try clear key2); (try clear ih); clear I i1 i2 i3 i3e i4 i4e i5 i6 i7 i8 i10 i11; simp [badM, anyI, *])
    · try simp only [decide_eq_true_eq, decide_eq_false_iff_not] at c46
      have w6 := i6 f (by omega) (by omega)
      refine j_aload_n C dX6_lend_49 rfl ?_
      refine j_aload_n C dX6_lend_50 rfl ?_
      refine j_mgeta C hM fl_Mo_56 (by decide) dX6_lend_51 ?_
      refine j_iload_n C dX6_lend_54 rfl ?_
      refine j_mald C hM (by decide) rfl (by simp only [mLen]; omega) dX6_lend_55 ?_
      refine j_mcall C hM (c_isLent l hfl (by unfold rg at *; omega) i1 i6 i8) cal_X6_isLent vi_X6_isLent rfl ml_Mo_131 rfl rfl (Nat.le_of_ble_eq_true rfl) ⟨by decide, by decide⟩ ⟨by omega, by omega⟩ dX6_lend_56 (fun S hM => ?_)
      refine j_ifne_b (tgt := 66) C dX6_lend_59 (by decide) (fun c59 => ?_) (fun c59 => ?_)
      · try simp only [decide_eq_true_eq, decide_eq_false_iff_not] at c59
        refine j_iconst C dX6_lend_66 ?_
        refine j_istore C dX6_lend_67 (by decide) ?_
        refine j_iconst C dX6_lend_69 ?_
        refine j_istore C dX6_lend_70 (by decide) ?_
        first
          | (refine J.lvs (lv' := [(0, .ref o), (1, .int (iN (f))), (2, .int (iN (a))), (3, .int (iN (b))), (4, .int (iN (g))), (5, .int (iN (bN (decide (0 ≤ f ∧ f < M 21 0))))), (6, .int (iN (bN true))), (7, .int (iN (bN true))), (8, .int (iN (((0 : Nat) : Int))))]) ?_ ?_
             · intro q hq; simp only [List.mem_cons, List.not_mem_nil, or_false] at hq; rcases hq with rfl | rfl | rfl | rfl | rfl | rfl | rfl | rfl | rfl <;> rfl
             · refine key2 ((M 17 0).toNat + 1) 0 true true _ (by omega) (by omega) ?_ ?_ hM
               · symm; apply decide_eq_true; omega
               · (try clear key); (try clear key2); (try clear ih); clear I i1 i2 i3 i3e i4 i4e i5 i6 i7 i8 i10 i11; simp [badM, anyI, *])
          | (refine J.lvs (lv' := [(0, .ref o), (1, .int (iN (f))), (2, .int (iN (a))), (3, .int (iN (b))), (4, .int (iN (g))), (5, .int (iN (bN (decide (0 ≤ f ∧ f < M 21 0))))), (6, .int (iN (bN true))), (7, .int (iN (bN false))), (8, .int (iN (((0 : Nat) : Int))))]) ?_ ?_
             · intro q hq; simp only [List.mem_cons, List.not_mem_nil, or_false] at hq; rcases hq with rfl | rfl | rfl | rfl | rfl | rfl | rfl | rfl | rfl <;> rfl
             · refine key2 ((M 17 0).toNat + 1) 0 true false _ (by omega) (by omega) ?_ ?_ hM
               · symm; apply decide_eq_true; omega
               · (try clear key); (try clear key2); (try clear ih); clear I i1 i2 i3 i3e i4 i4e i5 i6 i7 i8 i10 i11; simp [badM, anyI, *])
          | (refine J.lvs (lv' := [(0, .ref o), (1, .int (iN (f))), (2, .int (iN (a))), (3, .int (iN (b))), (4, .int (iN (g))), (5, .int (iN (bN (decide (0 ≤ f ∧ f < M 21 0))))), (6, .int (iN (bN false))), (7, .int (iN (bN true))), (8, .int (iN (((0 : Nat) : Int))))]) ?_ ?_
             · intro q hq; simp only [List.mem_cons, List.not_mem_nil, or_false] at hq; rcases hq with rfl | rfl | rfl | rfl | rfl | rfl | rfl | rfl | rfl <;> rfl
             · refine key2 ((M 17 0).toNat + 1) 0 false true _ (by omega) (by omega) ?_ ?_ hM
               · symm; apply decide_eq_false; omega
               · (try clear key); (try clear key2); (try clear ih); clear I i1 i2 i3 i3e i4 i4e i5 i6 i7 i8 i10 i11; simp [badM, anyI, *])
          | (refine J.lvs (lv' := [(0, .ref o), (1, .int (iN (f))), (2, .int (iN (a))), (3, .int (iN (b))), (4, .int (iN (g))), (5, .int (iN (bN (decide (0 ≤ f ∧ f < M 21 0))))), (6, .int (iN (bN false))), (7, .int (iN (bN false))), (8, .int (iN (((0 : Nat) : Int))))]) ?_ ?_
             · intro q hq; simp only [List.mem_cons, List.not_mem_nil, or_false] at hq; rcases hq with rfl | rfl | rfl | rfl | rfl | rfl | rfl | rfl | rfl <;> rfl
             · refine key2 ((M 17 0).toNat + 1) 0 false false _ (by omega) (by omega) ?_ ?_ hM
               · symm; apply decide_eq_false; omega
               · (try clear key); (try clear key2); (try clear ih); clear I i1 i2 i3 i3e i4 i4e i5 i6 i7 i8 i10 i11; simp [badM, anyI, *])
      · try simp only [decide_eq_true_eq, decide_eq_false_iff_not] at c59
        refine j_iconst C dX6_lend_62 ?_
        refine j_goto (tgt := 67) C dX6_lend_63 (by decide) ?_
        refine j_istore C dX6_lend_67 (by decide) ?_
        refine j_iconst C dX6_lend_69 ?_
        refine j_istore C dX6_lend_70 (by decide) ?_
        first
          | (refine J.lvs (lv' := [(0, .ref o), (1, .int (iN (f))), (2, .int (iN (a))), (3, .int (iN (b))), (4, .int (iN (g))), (5, .int (iN (bN (decide (0 ≤ f ∧ f < M 21 0))))), (6, .int (iN (bN true))), (7, .int (iN (bN true))), (8, .int (iN (((0 : Nat) : Int))))]) ?_ ?_
             · intro q hq; simp only [List.mem_cons, List.not_mem_nil, or_false] at hq; rcases hq with rfl | rfl | rfl | rfl | rfl | rfl | rfl | rfl | rfl <;> rfl
             · refine key2 ((M 17 0).toNat + 1) 0 true true _ (by omega) (by omega) ?_ ?_ hM
               · symm; apply decide_eq_true; omega
               · (try clear key); (try clear key2); (try clear ih); clear I i1 i2 i3 i3e i4 i4e i5 i6 i7 i8 i10 i11; simp [badM, anyI, *])
          | (refine J.lvs (lv' := [(0, .ref o), (1, .int (iN (f))), (2, .int (iN (a))), (3, .int (iN (b))), (4, .int (iN (g))), (5, .int (iN (bN (decide (0 ≤ f ∧ f < M 21 0))))), (6, .int (iN (bN true))), (7, .int (iN (bN false))), (8, .int (iN (((0 : Nat) : Int))))]) ?_ ?_
             · intro q hq; simp only [List.mem_cons, List.not_mem_nil, or_false] at hq; rcases hq with rfl | rfl | rfl | rfl | rfl | rfl | rfl | rfl | rfl <;> rfl
             · refine key2 ((M 17 0).toNat + 1) 0 true false _ (by omega) (by omega) ?_ ?_ hM
               · symm; apply decide_eq_true; omega
               · (try clear key); (try clear key2); (try clear ih); clear I i1 i2 i3 i3e i4 i4e i5 i6 i7 i8 i10 i11; simp [badM, anyI, *])
          | (refine J.lvs (lv' := [(0, .ref o), (1, .int (iN (f))), (2, .int (iN (a))), (3, .int (iN (b))), (4, .int (iN (g))), (5, .int (iN (bN (decide (0 ≤ f ∧ f < M 21 0))))), (6, .int (iN (bN false))), (7, .int (iN (bN true))), (8, .int (iN (((0 : Nat) : Int))))]) ?_ ?_
             · intro q hq; simp only [List.mem_cons, List.not_mem_nil, or_false] at hq; rcases hq with rfl | rfl | rfl | rfl | rfl | rfl | rfl | rfl | rfl <;> rfl
             · refine key2 ((M 17 0).toNat + 1) 0 false true _ (by omega) (by omega) ?_ ?_ hM
               · symm; apply decide_eq_false; omega
               · (try clear key); (try clear key2); (try clear ih); clear I i1 i2 i3 i3e i4 i4e i5 i6 i7 i8 i10 i11; simp [badM, anyI, *])
          | (refine J.lvs (lv' := [(0, .ref o), (1, .int (iN (f))), (2, .int (iN (a))), (3, .int (iN (b))), (4, .int (iN (g))), (5, .int (iN (bN (decide (0 ≤ f ∧ f < M 21 0))))), (6, .int (iN (bN false))), (7, .int (iN (bN false))), (8, .int (iN (((0 : Nat) : Int))))]) ?_ ?_
             · intro q hq; simp only [List.mem_cons, List.not_mem_nil, or_false] at hq; rcases hq with rfl | rfl | rfl | rfl | rfl | rfl | rfl | rfl | rfl <;> rfl
             · refine key2 ((M 17 0).toNat + 1) 0 false false _ (by omega) (by omega) ?_ ?_ hM
               · symm; apply decide_eq_false; omega
               · (try clear key); (try clear key2); (try clear ih); clear I i1 i2 i3 i3e i4 i4e i5 i6 i7 i8 i10 i11; simp [badM, anyI, *])
  · try simp only [decide_eq_true_eq, decide_eq_false_iff_not] at c14
    refine j_iload_n C dX6_lend_17 rfl ?_
    refine j_iconst C dX6_lend_18 ?_
    refine j_iconst C dX6_lend_19 ?_
    refine j_callS C (c_in l hfl (by unfold rg at *; omega) (by unfold rg; omega) (by unfold rg; omega)) cal_X6_in st_X6_in ml_Mo_87 rfl rfl (Nat.le_of_ble_eq_true rfl) ⟨by decide, by decide⟩ ⟨by omega, by omega⟩ dX6_lend_20 (fun E S9 h => nomatch h.1) (fun v9 S9 h => ?_)
    obtain ⟨h, h9⟩ := h
    have h9 := h9.symm
    subst h9
    cases h
    refine j_ifeq_b (tgt := 41) C dX6_lend_23 (by decide) (fun c23 => ?_) (fun c23 => ?_)
    · try simp only [decide_eq_true_eq, decide_eq_false_iff_not] at c23
      refine j_iconst C dX6_lend_41 ?_
      refine j_istore C dX6_lend_42 (by decide) ?_
      refine j_iload C dX6_lend_44 rfl ?_
      refine j_ifeq_b (tgt := 66) C dX6_lend_46 (by decide) (fun c46 => ?_) (fun c46 => ?_)
      · try simp only [decide_eq_true_eq, decide_eq_false_iff_not] at c46
        refine j_iconst C dX6_lend_66 ?_
        refine j_istore C dX6_lend_67 (by decide) ?_
        refine j_iconst C dX6_lend_69 ?_
        refine j_istore C dX6_lend_70 (by decide) ?_
        first
          | (refine J.lvs (lv' := [(0, .ref o), (1, .int (iN (f))), (2, .int (iN (a))), (3, .int (iN (b))), (4, .int (iN (g))), (5, .int (iN (bN (decide (0 ≤ f ∧ f < M 21 0))))), (6, .int (iN (bN true))), (7, .int (iN (bN true))), (8, .int (iN (((0 : Nat) : Int))))]) ?_ ?_
             · intro q hq; simp only [List.mem_cons, List.not_mem_nil, or_false] at hq; rcases hq with rfl | rfl | rfl | rfl | rfl | rfl | rfl | rfl | rfl <;> rfl
             · refine key2 ((M 17 0).toNat + 1) 0 true true _ (by omega) (by omega) ?_ ?_ hM
               · symm; apply decide_eq_true; omega
               · (try clear key); (try clear key2); (try clear ih); clear I i1 i2 i3 i3e i4 i4e i5 i6 i7 i8 i10 i11; simp [badM, anyI, *])
          | (refine J.lvs (lv' := [(0, .ref o), (1, .int (iN (f))), (2, .int (iN (a))), (3, .int (iN (b))), (4, .int (iN (g))), (5, .int (iN (bN (decide (0 ≤ f ∧ f < M 21 0))))), (6, .int (iN (bN true))), (7, .int (iN (bN false))), (8, .int (iN (((0 : Nat) : Int))))]) ?_ ?_
             · intro q hq; simp only [List.mem_cons, List.not_mem_nil, or_false] at hq; rcases hq with rfl | rfl | rfl | rfl | rfl | rfl | rfl | rfl | rfl <;> rfl
             · refine key2 ((M 17 0).toNat + 1) 0 true false _ (by omega) (by omega) ?_ ?_ hM
               · symm; apply decide_eq_true; omega
               · (try clear key); (try clear key2); (try clear ih); clear I i1 i2 i3 i3e i4 i4e i5 i6 i7 i8 i10 i11; simp [badM, anyI, *])
          | (refine J.lvs (lv' := [(0, .ref o), (1, .int (iN (f))), (2, .int (iN (a))), (3, .int (iN (b))), (4, .int (iN (g))), (5, .int (iN (bN (decide (0 ≤ f ∧ f < M 21 0))))), (6, .int (iN (bN false))), (7, .int (iN (bN true))), (8, .int (iN (((0 : Nat) : Int))))]) ?_ ?_
             · intro q hq; simp only [List.mem_cons, List.not_mem_nil, or_false] at hq; rcases hq with rfl | rfl | rfl | rfl | rfl | rfl | rfl | rfl | rfl <;> rfl
             · refine key2 ((M 17 0).toNat + 1) 0 false true _ (by omega) (by omega) ?_ ?_ hM
               · symm; apply decide_eq_false; omega
               · (try clear key); (try clear key2); (try clear ih); clear I i1 i2 i3 i3e i4 i4e i5 i6 i7 i8 i10 i11; simp [badM, anyI, *])
          | (refine J.lvs (lv' := [(0, .ref o), (1, .int (iN (f))), (2, .int (iN (a))), (3, .int (iN (b))), (4, .int (iN (g))), (5, .int (iN (bN (decide (0 ≤ f ∧ f < M 21 0))))), (6, .int (iN (bN false))), (7, .int (iN (bN false))), (8, .int (iN (((0 : Nat) : Int))))]) ?_ ?_
             · intro q hq; simp only [List.mem_cons, List.not_mem_nil, or_false] at hq; rcases hq with rfl | rfl | rfl | rfl | rfl | rfl | rfl | rfl | rfl <;> rfl
             · refine key2 ((M 17 0).toNat + 1) 0 false false _ (by omega) (by omega) ?_ ?_ hM
               · symm; apply decide_eq_false; omega
               · (try clear key); (try clear key2); (try clear ih); clear I i1 i2 i3 i3e i4 i4e i5 i6 i7 i8 i10 i11; simp [badM, anyI, *])
      · try simp only [decide_eq_true_eq, decide_eq_false_iff_not] at c46
        have w6 := i6 f (by omega) (by omega)
        refine j_aload_n C dX6_lend_49 rfl ?_
        refine j_aload_n C dX6_lend_50 rfl ?_
        refine j_mgeta C hM fl_Mo_56 (by decide) dX6_lend_51 ?_
        refine j_iload_n C dX6_lend_54 rfl ?_
        refine j_mald C hM (by decide) rfl (by simp only [mLen]; omega) dX6_lend_55 ?_
        refine j_mcall C hM (c_isLent l hfl (by unfold rg at *; omega) i1 i6 i8) cal_X6_isLent vi_X6_isLent rfl ml_Mo_131 rfl rfl (Nat.le_of_ble_eq_true rfl) ⟨by decide, by decide⟩ ⟨by omega, by omega⟩ dX6_lend_56 (fun S hM => ?_)
        refine j_ifne_b (tgt := 66) C dX6_lend_59 (by decide) (fun c59 => ?_) (fun c59 => ?_)
        · try simp only [decide_eq_true_eq, decide_eq_false_iff_not] at c59
          refine j_iconst C dX6_lend_66 ?_
          refine j_istore C dX6_lend_67 (by decide) ?_
          refine j_iconst C dX6_lend_69 ?_
          refine j_istore C dX6_lend_70 (by decide) ?_
          first
            | (refine J.lvs (lv' := [(0, .ref o), (1, .int (iN (f))), (2, .int (iN (a))), (3, .int (iN (b))), (4, .int (iN (g))), (5, .int (iN (bN (decide (0 ≤ f ∧ f < M 21 0))))), (6, .int (iN (bN true))), (7, .int (iN (bN true))), (8, .int (iN (((0 : Nat) : Int))))]) ?_ ?_
               · intro q hq; simp only [List.mem_cons, List.not_mem_nil, or_false] at hq; rcases hq with rfl | rfl | rfl | rfl | rfl | rfl | rfl | rfl | rfl <;> rfl
               · refine key2 ((M 17 0).toNat + 1) 0 true true _ (by omega) (by omega) ?_ ?_ hM
                 · symm; apply decide_eq_true; omega
                 · (try clear key); (try clear key2); (try clear ih); clear I i1 i2 i3 i3e i4 i4e i5 i6 i7 i8 i10 i11; simp [badM, anyI, *])
            | (refine J.lvs (lv' := [(0, .ref o), (1, .int (iN (f))), (2, .int (iN (a))), (3, .int (iN (b))), (4, .int (iN (g))), (5, .int (iN (bN (decide (0 ≤ f ∧ f < M 21 0))))), (6, .int (iN (bN true))), (7, .int (iN (bN false))), (8, .int (iN (((0 : Nat) : Int))))]) ?_ ?_
               · intro q hq; simp only [List.mem_cons, List.not_mem_nil, or_false] at hq; rcases hq with rfl | rfl | rfl | rfl | rfl | rfl | rfl | rfl | rfl <;> rfl
               · refine key2 ((M 17 0).toNat + 1) 0 true false _ (by omega) (by omega) ?_ ?_ hM
                 · symm; apply decide_eq_true; omega
                 · (try clear key); (try clear key2); (try clear ih); clear I i1 i2 i3 i3e i4 i4e i5 i6 i7 i8 i10 i11; simp [badM, anyI, *])
            | (refine J.lvs (lv' := [(0, .ref o), (1, .int (iN (f))), (2, .int (iN (a))), (3, .int (iN (b))), (4, .int (iN (g))), (5, .int (iN (bN (decide (0 ≤ f ∧ f < M 21 0))))), (6, .int (iN (bN false))), (7, .int (iN (bN true))), (8, .int (iN (((0 : Nat) : Int))))]) ?_ ?_
               · intro q hq; simp only [List.mem_cons, List.not_mem_nil, or_false] at hq; rcases hq with rfl | rfl | rfl | rfl | rfl | rfl | rfl | rfl | rfl <;> rfl
               · refine key2 ((M 17 0).toNat + 1) 0 false true _ (by omega) (by omega) ?_ ?_ hM
                 · symm; apply decide_eq_false; omega
                 · (try clear key); (try clear key2); (try clear ih); clear I i1 i2 i3 i3e i4 i4e i5 i6 i7 i8 i10 i11; simp [badM, anyI, *])
            | (refine J.lvs (lv' := [(0, .ref o), (1, .int (iN (f))), (2, .int (iN (a))), (3, .int (iN (b))), (4, .int (iN (g))), (5, .int (iN (bN (decide (0 ≤ f ∧ f < M 21 0))))), (6, .int (iN (bN false))), (7, .int (iN (bN false))), (8, .int (iN (((0 : Nat) : Int))))]) ?_ ?_
               · intro q hq; simp only [List.mem_cons, List.not_mem_nil, or_false] at hq; rcases hq with rfl | rfl | rfl | rfl | rfl | rfl | rfl | rfl | rfl <;> rfl
               · refine key2 ((M 17 0).toNat + 1) 0 false false _ (by omega) (by omega) ?_ ?_ hM
                 · symm; apply decide_eq_false; omega
                 · (try clear key); (try clear key2); (try clear ih); clear I i1 i2 i3 i3e i4 i4e i5 i6 i7 i8 i10 i11; simp [badM, anyI, *])
        · try simp only [decide_eq_true_eq, decide_eq_false_iff_not] at c59
          refine j_iconst C dX6_lend_62 ?_
          refine j_goto (tgt := 67) C dX6_lend_63 (by decide) ?_
          refine j_istore C dX6_lend_67 (by decide) ?_
          refine j_iconst C dX6_lend_69 ?_
          refine j_istore C dX6_lend_70 (by decide) ?_
          first
            | (refine J.lvs (lv' := [(0, .ref o), (1, .int (iN (f))), (2, .int (iN (a))), (3, .int (iN (b))), (4, .int (iN (g))), (5, .int (iN (bN (decide (0 ≤ f ∧ f < M 21 0))))), (6, .int (iN (bN true))), (7, .int (iN (bN true))), (8, .int (iN (((0 : Nat) : Int))))]) ?_ ?_
               · intro q hq; simp only [List.mem_cons, List.not_mem_nil, or_false] at hq; rcases hq with rfl | rfl | rfl | rfl | rfl | rfl | rfl | rfl | rfl <;> rfl
               · refine key2 ((M 17 0).toNat + 1) 0 true true _ (by omega) (by omega) ?_ ?_ hM
                 · symm; apply decide_eq_true; omega
                 · (try clear key); (try clear key2); (try clear ih); clear I i1 i2 i3 i3e i4 i4e i5 i6 i7 i8 i10 i11; simp [badM, anyI, *])
            | (refine J.lvs (lv' := [(0, .ref o), (1, .int (iN (f))), (2, .int (iN (a))), (3, .int (iN (b))), (4, .int (iN (g))), (5, .int (iN (bN (decide (0 ≤ f ∧ f < M 21 0))))), (6, .int (iN (bN true))), (7, .int (iN (bN false))), (8, .int (iN (((0 : Nat) : Int))))]) ?_ ?_
               · intro q hq; simp only [List.mem_cons, List.not_mem_nil, or_false] at hq; rcases hq with rfl | rfl | rfl | rfl | rfl | rfl | rfl | rfl | rfl <;> rfl
               · refine key2 ((M 17 0).toNat + 1) 0 true false _ (by omega) (by omega) ?_ ?_ hM
                 · symm; apply decide_eq_true; omega
                 · (try clear key); (try clear key2); (try clear ih); clear I i1 i2 i3 i3e i4 i4e i5 i6 i7 i8 i10 i11; simp [badM, anyI, *])
            | (refine J.lvs (lv' := [(0, .ref o), (1, .int (iN (f))), (2, .int (iN (a))), (3, .int (iN (b))), (4, .int (iN (g))), (5, .int (iN (bN (decide (0 ≤ f ∧ f < M 21 0))))), (6, .int (iN (bN false))), (7, .int (iN (bN true))), (8, .int (iN (((0 : Nat) : Int))))]) ?_ ?_
               · intro q hq; simp only [List.mem_cons, List.not_mem_nil, or_false] at hq; rcases hq with rfl | rfl | rfl | rfl | rfl | rfl | rfl | rfl | rfl <;> rfl
               · refine key2 ((M 17 0).toNat + 1) 0 false true _ (by omega) (by omega) ?_ ?_ hM
                 · symm; apply decide_eq_false; omega
                 · (try clear key); (try clear key2); (try clear ih); clear I i1 i2 i3 i3e i4 i4e i5 i6 i7 i8 i10 i11; simp [badM, anyI, *])
            | (refine J.lvs (lv' := [(0, .ref o), (1, .int (iN (f))), (2, .int (iN (a))), (3, .int (iN (b))), (4, .int (iN (g))), (5, .int (iN (bN (decide (0 ≤ f ∧ f < M 21 0))))), (6, .int (iN (bN false))), (7, .int (iN (bN false))), (8, .int (iN (((0 : Nat) : Int))))]) ?_ ?_
               · intro q hq; simp only [List.mem_cons, List.not_mem_nil, or_false] at hq; rcases hq with rfl | rfl | rfl | rfl | rfl | rfl | rfl | rfl | rfl <;> rfl
               · refine key2 ((M 17 0).toNat + 1) 0 false false _ (by omega) (by omega) ?_ ?_ hM
                 · symm; apply decide_eq_false; omega
                 · (try clear key); (try clear key2); (try clear ih); clear I i1 i2 i3 i3e i4 i4e i5 i6 i7 i8 i10 i11; simp [badM, anyI, *])
    · try simp only [decide_eq_true_eq, decide_eq_false_iff_not] at c23
      refine j_iload C dX6_lend_26 rfl ?_
      refine j_iconst C dX6_lend_28 ?_
      refine j_bipush C dX6_lend_29 (by decide) ?_
      refine j_callS C (c_in l hfl (by unfold rg at *; omega) (by unfold rg; omega) (by unfold rg; omega)) cal_X6_in st_X6_in ml_Mo_87 rfl rfl (Nat.le_of_ble_eq_true rfl) ⟨by decide, by decide⟩ ⟨by omega, by omega⟩ dX6_lend_31 (fun E S9 h => nomatch h.1) (fun v9 S9 h => ?_)
      obtain ⟨h, h9⟩ := h
      have h9 := h9.symm
      subst h9
      cases h
      refine j_ifeq_b (tgt := 41) C dX6_lend_34 (by decide) (fun c34 => ?_) (fun c34 => ?_)
      · try simp only [decide_eq_true_eq, decide_eq_false_iff_not] at c34
        refine j_iconst C dX6_lend_41 ?_
        refine j_istore C dX6_lend_42 (by decide) ?_
        refine j_iload C dX6_lend_44 rfl ?_
        refine j_ifeq_b (tgt := 66) C dX6_lend_46 (by decide) (fun c46 => ?_) (fun c46 => ?_)
        · try simp only [decide_eq_true_eq, decide_eq_false_iff_not] at c46
          refine j_iconst C dX6_lend_66 ?_
          refine j_istore C dX6_lend_67 (by decide) ?_
          refine j_iconst C dX6_lend_69 ?_
          refine j_istore C dX6_lend_70 (by decide) ?_
          first
            | (refine J.lvs (lv' := [(0, .ref o), (1, .int (iN (f))), (2, .int (iN (a))), (3, .int (iN (b))), (4, .int (iN (g))), (5, .int (iN (bN (decide (0 ≤ f ∧ f < M 21 0))))), (6, .int (iN (bN true))), (7, .int (iN (bN true))), (8, .int (iN (((0 : Nat) : Int))))]) ?_ ?_
               · intro q hq; simp only [List.mem_cons, List.not_mem_nil, or_false] at hq; rcases hq with rfl | rfl | rfl | rfl | rfl | rfl | rfl | rfl | rfl <;> rfl
               · refine key2 ((M 17 0).toNat + 1) 0 true true _ (by omega) (by omega) ?_ ?_ hM
                 · symm; apply decide_eq_true; omega
                 · (try clear key); (try clear key2); (try clear ih); clear I i1 i2 i3 i3e i4 i4e i5 i6 i7 i8 i10 i11; simp [badM, anyI, *])
            | (refine J.lvs (lv' := [(0, .ref o), (1, .int (iN (f))), (2, .int (iN (a))), (3, .int (iN (b))), (4, .int (iN (g))), (5, .int (iN (bN (decide (0 ≤ f ∧ f < M 21 0))))), (6, .int (iN (bN true))), (7, .int (iN (bN false))), (8, .int (iN (((0 : Nat) : Int))))]) ?_ ?_
               · intro q hq; simp only [List.mem_cons, List.not_mem_nil, or_false] at hq; rcases hq with rfl | rfl | rfl | rfl | rfl | rfl | rfl | rfl | rfl <;> rfl
               · refine key2 ((M 17 0).toNat + 1) 0 true false _ (by omega) (by omega) ?_ ?_ hM
                 · symm; apply decide_eq_true; omega
                 · (try clear key); (try clear key2); (try clear ih); clear I i1 i2 i3 i3e i4 i4e i5 i6 i7 i8 i10 i11; simp [badM, anyI, *])
            | (refine J.lvs (lv' := [(0, .ref o), (1, .int (iN (f))), (2, .int (iN (a))), (3, .int (iN (b))), (4, .int (iN (g))), (5, .int (iN (bN (decide (0 ≤ f ∧ f < M 21 0))))), (6, .int (iN (bN false))), (7, .int (iN (bN true))), (8, .int (iN (((0 : Nat) : Int))))]) ?_ ?_
               · intro q hq; simp only [List.mem_cons, List.not_mem_nil, or_false] at hq; rcases hq with rfl | rfl | rfl | rfl | rfl | rfl | rfl | rfl | rfl <;> rfl
               · refine key2 ((M 17 0).toNat + 1) 0 false true _ (by omega) (by omega) ?_ ?_ hM
                 · symm; apply decide_eq_false; omega
                 · (try clear key); (try clear key2); (try clear ih); clear I i1 i2 i3 i3e i4 i4e i5 i6 i7 i8 i10 i11; simp [badM, anyI, *])
            | (refine J.lvs (lv' := [(0, .ref o), (1, .int (iN (f))), (2, .int (iN (a))), (3, .int (iN (b))), (4, .int (iN (g))), (5, .int (iN (bN (decide (0 ≤ f ∧ f < M 21 0))))), (6, .int (iN (bN false))), (7, .int (iN (bN false))), (8, .int (iN (((0 : Nat) : Int))))]) ?_ ?_
               · intro q hq; simp only [List.mem_cons, List.not_mem_nil, or_false] at hq; rcases hq with rfl | rfl | rfl | rfl | rfl | rfl | rfl | rfl | rfl <;> rfl
               · refine key2 ((M 17 0).toNat + 1) 0 false false _ (by omega) (by omega) ?_ ?_ hM
                 · symm; apply decide_eq_false; omega
                 · (try clear key); (try clear key2); (try clear ih); clear I i1 i2 i3 i3e i4 i4e i5 i6 i7 i8 i10 i11; simp [badM, anyI, *])
        · try simp only [decide_eq_true_eq, decide_eq_false_iff_not] at c46
          have w6 := i6 f (by omega) (by omega)
          refine j_aload_n C dX6_lend_49 rfl ?_
          refine j_aload_n C dX6_lend_50 rfl ?_
          refine j_mgeta C hM fl_Mo_56 (by decide) dX6_lend_51 ?_
          refine j_iload_n C dX6_lend_54 rfl ?_
          refine j_mald C hM (by decide) rfl (by simp only [mLen]; omega) dX6_lend_55 ?_
          refine j_mcall C hM (c_isLent l hfl (by unfold rg at *; omega) i1 i6 i8) cal_X6_isLent vi_X6_isLent rfl ml_Mo_131 rfl rfl (Nat.le_of_ble_eq_true rfl) ⟨by decide, by decide⟩ ⟨by omega, by omega⟩ dX6_lend_56 (fun S hM => ?_)
          refine j_ifne_b (tgt := 66) C dX6_lend_59 (by decide) (fun c59 => ?_) (fun c59 => ?_)
          · try simp only [decide_eq_true_eq, decide_eq_false_iff_not] at c59
            refine j_iconst C dX6_lend_66 ?_
            refine j_istore C dX6_lend_67 (by decide) ?_
            refine j_iconst C dX6_lend_69 ?_
            refine j_istore C dX6_lend_70 (by decide) ?_
            first
              | (refine J.lvs (lv' := [(0, .ref o), (1, .int (iN (f))), (2, .int (iN (a))), (3, .int (iN (b))), (4, .int (iN (g))), (5, .int (iN (bN (decide (0 ≤ f ∧ f < M 21 0))))), (6, .int (iN (bN true))), (7, .int (iN (bN true))), (8, .int (iN (((0 : Nat) : Int))))]) ?_ ?_
                 · intro q hq; simp only [List.mem_cons, List.not_mem_nil, or_false] at hq; rcases hq with rfl | rfl | rfl | rfl | rfl | rfl | rfl | rfl | rfl <;> rfl
                 · refine key2 ((M 17 0).toNat + 1) 0 true true _ (by omega) (by omega) ?_ ?_ hM
                   · symm; apply decide_eq_true; omega
                   · (try clear key); (try clear key2); (try clear ih); clear I i1 i2 i3 i3e i4 i4e i5 i6 i7 i8 i10 i11; simp [badM, anyI, *])
              | (refine J.lvs (lv' := [(0, .ref o), (1, .int (iN (f))), (2, .int (iN (a))), (3, .int (iN (b))), (4, .int (iN (g))), (5, .int (iN (bN (decide (0 ≤ f ∧ f < M 21 0))))), (6, .int (iN (bN true))), (7, .int (iN (bN false))), (8, .int (iN (((0 : Nat) : Int))))]) ?_ ?_
                 · intro q hq; simp only [List.mem_cons, List.not_mem_nil, or_false] at hq; rcases hq with rfl | rfl | rfl | rfl | rfl | rfl | rfl | rfl | rfl <;> rfl
                 · refine key2 ((M 17 0).toNat + 1) 0 true false _ (by omega) (by omega) ?_ ?_ hM
                   · symm; apply decide_eq_true; omega
                   · (try clear key); (try clear key2); (try clear ih); clear I i1 i2 i3 i3e i4 i4e i5 i6 i7 i8 i10 i11; simp [badM, anyI, *])
              | (refine J.lvs (lv' := [(0, .ref o), (1, .int (iN (f))), (2, .int (iN (a))), (3, .int (iN (b))), (4, .int (iN (g))), (5, .int (iN (bN (decide (0 ≤ f ∧ f < M 21 0))))), (6, .int (iN (bN false))), (7, .int (iN (bN true))), (8, .int (iN (((0 : Nat) : Int))))]) ?_ ?_
                 · intro q hq; simp only [List.mem_cons, List.not_mem_nil, or_false] at hq; rcases hq with rfl | rfl | rfl | rfl | rfl | rfl | rfl | rfl | rfl <;> rfl
                 · refine key2 ((M 17 0).toNat + 1) 0 false true _ (by omega) (by omega) ?_ ?_ hM
                   · symm; apply decide_eq_false; omega
                   · (try clear key); (try clear key2); (try clear ih); clear I i1 i2 i3 i3e i4 i4e i5 i6 i7 i8 i10 i11; simp [badM, anyI, *])
              | (refine J.lvs (lv' := [(0, .ref o), (1, .int (iN (f))), (2, .int (iN (a))), (3, .int (iN (b))), (4, .int (iN (g))), (5, .int (iN (bN (decide (0 ≤ f ∧ f < M 21 0))))), (6, .int (iN (bN false))), (7, .int (iN (bN false))), (8, .int (iN (((0 : Nat) : Int))))]) ?_ ?_
                 · intro q hq; simp only [List.mem_cons, List.not_mem_nil, or_false] at hq; rcases hq with rfl | rfl | rfl | rfl | rfl | rfl | rfl | rfl | rfl <;> rfl
                 · refine key2 ((M 17 0).toNat + 1) 0 false false _ (by omega) (by omega) ?_ ?_ hM
                   · symm; apply decide_eq_false; omega
                   · (try clear key); (try clear key2); (try clear ih); clear I i1 i2 i3 i3e i4 i4e i5 i6 i7 i8 i10 i11; simp [badM, anyI, *])
          · try simp only [decide_eq_true_eq, decide_eq_false_iff_not] at c59
            refine j_iconst C dX6_lend_62 ?_
            refine j_goto (tgt := 67) C dX6_lend_63 (by decide) ?_
            refine j_istore C dX6_lend_67 (by decide) ?_
            refine j_iconst C dX6_lend_69 ?_
            refine j_istore C dX6_lend_70 (by decide) ?_
            first
              | (refine J.lvs (lv' := [(0, .ref o), (1, .int (iN (f))), (2, .int (iN (a))), (3, .int (iN (b))), (4, .int (iN (g))), (5, .int (iN (bN (decide (0 ≤ f ∧ f < M 21 0))))), (6, .int (iN (bN true))), (7, .int (iN (bN true))), (8, .int (iN (((0 : Nat) : Int))))]) ?_ ?_
                 · intro q hq; simp only [List.mem_cons, List.not_mem_nil, or_false] at hq; rcases hq with rfl | rfl | rfl | rfl | rfl | rfl | rfl | rfl | rfl <;> rfl
                 · refine key2 ((M 17 0).toNat + 1) 0 true true _ (by omega) (by omega) ?_ ?_ hM
                   · symm; apply decide_eq_true; omega
                   · (try clear key); (try clear key2); (try clear ih); clear I i1 i2 i3 i3e i4 i4e i5 i6 i7 i8 i10 i11; simp [badM, anyI, *])
              | (refine J.lvs (lv' := [(0, .ref o), (1, .int (iN (f))), (2, .int (iN (a))), (3, .int (iN (b))), (4, .int (iN (g))), (5, .int (iN (bN (decide (0 ≤ f ∧ f < M 21 0))))), (6, .int (iN (bN true))), (7, .int (iN (bN false))), (8, .int (iN (((0 : Nat) : Int))))]) ?_ ?_
                 · intro q hq; simp only [List.mem_cons, List.not_mem_nil, or_false] at hq; rcases hq with rfl | rfl | rfl | rfl | rfl | rfl | rfl | rfl | rfl <;> rfl
                 · refine key2 ((M 17 0).toNat + 1) 0 true false _ (by omega) (by omega) ?_ ?_ hM
                   · symm; apply decide_eq_true; omega
                   · (try clear key); (try clear key2); (try clear ih); clear I i1 i2 i3 i3e i4 i4e i5 i6 i7 i8 i10 i11; simp [badM, anyI, *])
              | (refine J.lvs (lv' := [(0, .ref o), (1, .int (iN (f))), (2, .int (iN (a))), (3, .int (iN (b))), (4, .int (iN (g))), (5, .int (iN (bN (decide (0 ≤ f ∧ f < M 21 0))))), (6, .int (iN (bN false))), (7, .int (iN (bN true))), (8, .int (iN (((0 : Nat) : Int))))]) ?_ ?_
                 · intro q hq; simp only [List.mem_cons, List.not_mem_nil, or_false] at hq; rcases hq with rfl | rfl | rfl | rfl | rfl | rfl | rfl | rfl | rfl <;> rfl
                 · refine key2 ((M 17 0).toNat + 1) 0 false true _ (by omega) (by omega) ?_ ?_ hM
                   · symm; apply decide_eq_false; omega
                   · (try clear key); (try clear key2); (try clear ih); clear I i1 i2 i3 i3e i4 i4e i5 i6 i7 i8 i10 i11; simp [badM, anyI, *])
              | (refine J.lvs (lv' := [(0, .ref o), (1, .int (iN (f))), (2, .int (iN (a))), (3, .int (iN (b))), (4, .int (iN (g))), (5, .int (iN (bN (decide (0 ≤ f ∧ f < M 21 0))))), (6, .int (iN (bN false))), (7, .int (iN (bN false))), (8, .int (iN (((0 : Nat) : Int))))]) ?_ ?_
                 · intro q hq; simp only [List.mem_cons, List.not_mem_nil, or_false] at hq; rcases hq with rfl | rfl | rfl | rfl | rfl | rfl | rfl | rfl | rfl <;> rfl
                 · refine key2 ((M 17 0).toNat + 1) 0 false false _ (by omega) (by omega) ?_ ?_ hM
                   · symm; apply decide_eq_false; omega
                   · (try clear key); (try clear key2); (try clear ih); clear I i1 i2 i3 i3e i4 i4e i5 i6 i7 i8 i10 i11; simp [badM, anyI, *])
      · try simp only [decide_eq_true_eq, decide_eq_false_iff_not] at c34
        refine j_iconst C dX6_lend_37 ?_
        refine j_goto (tgt := 42) C dX6_lend_38 (by decide) ?_
        refine j_istore C dX6_lend_42 (by decide) ?_
        refine j_iload C dX6_lend_44 rfl ?_
        refine j_ifeq_b (tgt := 66) C dX6_lend_46 (by decide) (fun c46 => ?_) (fun c46 => ?_)
        · try simp only [decide_eq_true_eq, decide_eq_false_iff_not] at c46
          refine j_iconst C dX6_lend_66 ?_
          refine j_istore C dX6_lend_67 (by decide) ?_
          refine j_iconst C dX6_lend_69 ?_
          refine j_istore C dX6_lend_70 (by decide) ?_
          first
            | (refine J.lvs (lv' := [(0, .ref o), (1, .int (iN (f))), (2, .int (iN (a))), (3, .int (iN (b))), (4, .int (iN (g))), (5, .int (iN (bN (decide (0 ≤ f ∧ f < M 21 0))))), (6, .int (iN (bN true))), (7, .int (iN (bN true))), (8, .int (iN (((0 : Nat) : Int))))]) ?_ ?_
               · intro q hq; simp only [List.mem_cons, List.not_mem_nil, or_false] at hq; rcases hq with rfl | rfl | rfl | rfl | rfl | rfl | rfl | rfl | rfl <;> rfl
               · refine key2 ((M 17 0).toNat + 1) 0 true true _ (by omega) (by omega) ?_ ?_ hM
                 · symm; apply decide_eq_true; omega
                 · (try clear key); (try clear key2); (try clear ih); clear I i1 i2 i3 i3e i4 i4e i5 i6 i7 i8 i10 i11; simp [badM, anyI, *])
            | (refine J.lvs (lv' := [(0, .ref o), (1, .int (iN (f))), (2, .int (iN (a))), (3, .int (iN (b))), (4, .int (iN (g))), (5, .int (iN (bN (decide (0 ≤ f ∧ f < M 21 0))))), (6, .int (iN (bN true))), (7, .int (iN (bN false))), (8, .int (iN (((0 : Nat) : Int))))]) ?_ ?_
               · intro q hq; simp only [List.mem_cons, List.not_mem_nil, or_false] at hq; rcases hq with rfl | rfl | rfl | rfl | rfl | rfl | rfl | rfl | rfl <;> rfl
               · refine key2 ((M 17 0).toNat + 1) 0 true false _ (by omega) (by omega) ?_ ?_ hM
                 · symm; apply decide_eq_true; omega
                 · (try clear key); (try clear key2); (try clear ih); clear I i1 i2 i3 i3e i4 i4e i5 i6 i7 i8 i10 i11; simp [badM, anyI, *])
            | (refine J.lvs (lv' := [(0, .ref o), (1, .int (iN (f))), (2, .int (iN (a))), (3, .int (iN (b))), (4, .int (iN (g))), (5, .int (iN (bN (decide (0 ≤ f ∧ f < M 21 0))))), (6, .int (iN (bN false))), (7, .int (iN (bN true))), (8, .int (iN (((0 : Nat) : Int))))]) ?_ ?_
               · intro q hq; simp only [List.mem_cons, List.not_mem_nil, or_false] at hq; rcases hq with rfl | rfl | rfl | rfl | rfl | rfl | rfl | rfl | rfl <;> rfl
               · refine key2 ((M 17 0).toNat + 1) 0 false true _ (by omega) (by omega) ?_ ?_ hM
                 · symm; apply decide_eq_false; omega
                 · (try clear key); (try clear key2); (try clear ih); clear I i1 i2 i3 i3e i4 i4e i5 i6 i7 i8 i10 i11; simp [badM, anyI, *])
            | (refine J.lvs (lv' := [(0, .ref o), (1, .int (iN (f))), (2, .int (iN (a))), (3, .int (iN (b))), (4, .int (iN (g))), (5, .int (iN (bN (decide (0 ≤ f ∧ f < M 21 0))))), (6, .int (iN (bN false))), (7, .int (iN (bN false))), (8, .int (iN (((0 : Nat) : Int))))]) ?_ ?_
               · intro q hq; simp only [List.mem_cons, List.not_mem_nil, or_false] at hq; rcases hq with rfl | rfl | rfl | rfl | rfl | rfl | rfl | rfl | rfl <;> rfl
               · refine key2 ((M 17 0).toNat + 1) 0 false false _ (by omega) (by omega) ?_ ?_ hM
                 · symm; apply decide_eq_false; omega
                 · (try clear key); (try clear key2); (try clear ih); clear I i1 i2 i3 i3e i4 i4e i5 i6 i7 i8 i10 i11; simp [badM, anyI, *])
        · try simp only [decide_eq_true_eq, decide_eq_false_iff_not] at c46
          have w6 := i6 f (by omega) (by omega)
          refine j_aload_n C dX6_lend_49 rfl ?_
          refine j_aload_n C dX6_lend_50 rfl ?_
          refine j_mgeta C hM fl_Mo_56 (by decide) dX6_lend_51 ?_
          refine j_iload_n C dX6_lend_54 rfl ?_
          refine j_mald C hM (by decide) rfl (by simp only [mLen]; omega) dX6_lend_55 ?_
          refine j_mcall C hM (c_isLent l hfl (by unfold rg at *; omega) i1 i6 i8) cal_X6_isLent vi_X6_isLent rfl ml_Mo_131 rfl rfl (Nat.le_of_ble_eq_true rfl) ⟨by decide, by decide⟩ ⟨by omega, by omega⟩ dX6_lend_56 (fun S hM => ?_)
          refine j_ifne_b (tgt := 66) C dX6_lend_59 (by decide) (fun c59 => ?_) (fun c59 => ?_)
          · try simp only [decide_eq_true_eq, decide_eq_false_iff_not] at c59
            refine j_iconst C dX6_lend_66 ?_
            refine j_istore C dX6_lend_67 (by decide) ?_
            refine j_iconst C dX6_lend_69 ?_
            refine j_istore C dX6_lend_70 (by decide) ?_
            first
              | (refine J.lvs (lv' := [(0, .ref o), (1, .int (iN (f))), (2, .int (iN (a))), (3, .int (iN (b))), (4, .int (iN (g))), (5, .int (iN (bN (decide (0 ≤ f ∧ f < M 21 0))))), (6, .int (iN (bN true))), (7, .int (iN (bN true))), (8, .int (iN (((0 : Nat) : Int))))]) ?_ ?_
                 · intro q hq; simp only [List.mem_cons, List.not_mem_nil, or_false] at hq; rcases hq with rfl | rfl | rfl | rfl | rfl | rfl | rfl | rfl | rfl <;> rfl
                 · refine key2 ((M 17 0).toNat + 1) 0 true true _ (by omega) (by omega) ?_ ?_ hM
                   · symm; apply decide_eq_true; omega
                   · (try clear key); (try clear key2); (try clear ih); clear I i1 i2 i3 i3e i4 i4e i5 i6 i7 i8 i10 i11; simp [badM, anyI, *])
              | (refine J.lvs (lv' := [(0, .ref o), (1, .int (iN (f))), (2, .int (iN (a))), (3, .int (iN (b))), (4, .int (iN (g))), (5, .int (iN (bN (decide (0 ≤ f ∧ f < M 21 0))))), (6, .int (iN (bN true))), (7, .int (iN (bN false))), (8, .int (iN (((0 : Nat) : Int))))]) ?_ ?_
                 · intro q hq; simp only [List.mem_cons, List.not_mem_nil, or_false] at hq; rcases hq with rfl | rfl | rfl | rfl | rfl | rfl | rfl | rfl | rfl <;> rfl
                 · refine key2 ((M 17 0).toNat + 1) 0 true false _ (by omega) (by omega) ?_ ?_ hM
                   · symm; apply decide_eq_true; omega
                   · (try clear key); (try clear key2); (try clear ih); clear I i1 i2 i3 i3e i4 i4e i5 i6 i7 i8 i10 i11; simp [badM, anyI, *])
              | (refine J.lvs (lv' := [(0, .ref o), (1, .int (iN (f))), (2, .int (iN (a))), (3, .int (iN (b))), (4, .int (iN (g))), (5, .int (iN (bN (decide (0 ≤ f ∧ f < M 21 0))))), (6, .int (iN (bN false))), (7, .int (iN (bN true))), (8, .int (iN (((0 : Nat) : Int))))]) ?_ ?_
                 · intro q hq; simp only [List.mem_cons, List.not_mem_nil, or_false] at hq; rcases hq with rfl | rfl | rfl | rfl | rfl | rfl | rfl | rfl | rfl <;> rfl
                 · refine key2 ((M 17 0).toNat + 1) 0 false true _ (by omega) (by omega) ?_ ?_ hM
                   · symm; apply decide_eq_false; omega
                   · (try clear key); (try clear key2); (try clear ih); clear I i1 i2 i3 i3e i4 i4e i5 i6 i7 i8 i10 i11; simp [badM, anyI, *])
              | (refine J.lvs (lv' := [(0, .ref o), (1, .int (iN (f))), (2, .int (iN (a))), (3, .int (iN (b))), (4, .int (iN (g))), (5, .int (iN (bN (decide (0 ≤ f ∧ f < M 21 0))))), (6, .int (iN (bN false))), (7, .int (iN (bN false))), (8, .int (iN (((0 : Nat) : Int))))]) ?_ ?_
                 · intro q hq; simp only [List.mem_cons, List.not_mem_nil, or_false] at hq; rcases hq with rfl | rfl | rfl | rfl | rfl | rfl | rfl | rfl | rfl <;> rfl
                 · refine key2 ((M 17 0).toNat + 1) 0 false false _ (by omega) (by omega) ?_ ?_ hM
                   · symm; apply decide_eq_false; omega
                   · (try clear key); (try clear key2); (try clear ih); clear I i1 i2 i3 i3e i4 i4e i5 i6 i7 i8 i10 i11; simp [badM, anyI, *])
          · try simp only [decide_eq_true_eq, decide_eq_false_iff_not] at c59
            refine j_iconst C dX6_lend_62 ?_
            refine j_goto (tgt := 67) C dX6_lend_63 (by decide) ?_
            refine j_istore C dX6_lend_67 (by decide) ?_
            refine j_iconst C dX6_lend_69 ?_
            refine j_istore C dX6_lend_70 (by decide) ?_
            first
              | (refine J.lvs (lv' := [(0, .ref o), (1, .int (iN (f))), (2, .int (iN (a))), (3, .int (iN (b))), (4, .int (iN (g))), (5, .int (iN (bN (decide (0 ≤ f ∧ f < M 21 0))))), (6, .int (iN (bN true))), (7, .int (iN (bN true))), (8, .int (iN (((0 : Nat) : Int))))]) ?_ ?_
                 · intro q hq; simp only [List.mem_cons, List.not_mem_nil, or_false] at hq; rcases hq with rfl | rfl | rfl | rfl | rfl | rfl | rfl | rfl | rfl <;> rfl
                 · refine key2 ((M 17 0).toNat + 1) 0 true true _ (by omega) (by omega) ?_ ?_ hM
                   · symm; apply decide_eq_true; omega
                   · (try clear key); (try clear key2); (try clear ih); clear I i1 i2 i3 i3e i4 i4e i5 i6 i7 i8 i10 i11; simp [badM, anyI, *])
              | (refine J.lvs (lv' := [(0, .ref o), (1, .int (iN (f))), (2, .int (iN (a))), (3, .int (iN (b))), (4, .int (iN (g))), (5, .int (iN (bN (decide (0 ≤ f ∧ f < M 21 0))))), (6, .int (iN (bN true))), (7, .int (iN (bN false))), (8, .int (iN (((0 : Nat) : Int))))]) ?_ ?_
                 · intro q hq; simp only [List.mem_cons, List.not_mem_nil, or_false] at hq; rcases hq with rfl | rfl | rfl | rfl | rfl | rfl | rfl | rfl | rfl <;> rfl
                 · refine key2 ((M 17 0).toNat + 1) 0 true false _ (by omega) (by omega) ?_ ?_ hM
                   · symm; apply decide_eq_true; omega
                   · (try clear key); (try clear key2); (try clear ih); clear I i1 i2 i3 i3e i4 i4e i5 i6 i7 i8 i10 i11; simp [badM, anyI, *])
              | (refine J.lvs (lv' := [(0, .ref o), (1, .int (iN (f))), (2, .int (iN (a))), (3, .int (iN (b))), (4, .int (iN (g))), (5, .int (iN (bN (decide (0 ≤ f ∧ f < M 21 0))))), (6, .int (iN (bN false))), (7, .int (iN (bN true))), (8, .int (iN (((0 : Nat) : Int))))]) ?_ ?_
                 · intro q hq; simp only [List.mem_cons, List.not_mem_nil, or_false] at hq; rcases hq with rfl | rfl | rfl | rfl | rfl | rfl | rfl | rfl | rfl <;> rfl
                 · refine key2 ((M 17 0).toNat + 1) 0 false true _ (by omega) (by omega) ?_ ?_ hM
                   · symm; apply decide_eq_false; omega
                   · (try clear key); (try clear key2); (try clear ih); clear I i1 i2 i3 i3e i4 i4e i5 i6 i7 i8 i10 i11; simp [badM, anyI, *])
              | (refine J.lvs (lv' := [(0, .ref o), (1, .int (iN (f))), (2, .int (iN (a))), (3, .int (iN (b))), (4, .int (iN (g))), (5, .int (iN (bN (decide (0 ≤ f ∧ f < M 21 0))))), (6, .int (iN (bN false))), (7, .int (iN (bN false))), (8, .int (iN (((0 : Nat) : Int))))]) ?_ ?_
                 · intro q hq; simp only [List.mem_cons, List.not_mem_nil, or_false] at hq; rcases hq with rfl | rfl | rfl | rfl | rfl | rfl | rfl | rfl | rfl <;> rfl
                 · refine key2 ((M 17 0).toNat + 1) 0 false false _ (by omega) (by omega) ?_ ?_ hM
                   · symm; apply decide_eq_false; omega
                   · (try clear key); (try clear key2); (try clear ih); clear I i1 i2 i3 i3e i4 i4e i5 i6 i7 i8 i10 i11; simp [badM, anyI, *])

set_option maxHeartbeats 4000000 in
set_option maxRecDepth 100000 in
theorem m_shown (l : Launch) (hfl : l.stackTraces = false) {M : wM}  : MC l yX6_shown cX6_shown 1 (some FieldType.long) 4 [] M (.inl (some (.long (iL (M 30 0))))) (mup M 0 0 0) := by
  intro S0 o B hM0
  refine Ct.of cal_X6_shown hfl (Nat.le_of_ble_eq_true rfl) ?_
  intro p e s m args below meth c D sz C ME
  have hM : RMF S0 S0 o B M := ⟨hM0, mF.rf⟩
  refine j_aload_n C dX6_shown_0 rfl ?_
  refine j_iconst C dX6_shown_1 ?_
  refine j_mputi C hM fl_Mo_81 ⟨by decide, rfl⟩ dX6_shown_2 (fun S hM => ?_)
  refine j_aload_n C dX6_shown_5 rfl ?_
  refine j_mgetl C hM fl_Mo_152 dX6_shown_6 ?_
  refine j_lret C ME ?_ (by omega) (by omega) dX6_shown_9
  exact ⟨rfl, hM⟩

set_option maxHeartbeats 4000000 in
set_option maxRecDepth 100000 in
theorem m_isSound (l : Launch) (hfl : l.stackTraces = false) {M : wM}  : MC l yX6_isSound cX6_isSound 1 (some FieldType.boolean) 4 [] M (.inl (some (.int (iN 1)))) (mup M 0 0 0) := by
  intro S0 o B hM0
  refine Ct.of cal_X6_isSound hfl (Nat.le_of_ble_eq_true rfl) ?_
  intro p e s m args below meth c D sz C ME
  have hM : RMF S0 S0 o B M := ⟨hM0, mF.rf⟩
  refine j_aload_n C dX6_isSound_0 rfl ?_
  refine j_iconst C dX6_isSound_1 ?_
  refine j_mputi C hM fl_Mo_81 ⟨by decide, rfl⟩ dX6_isSound_2 (fun S hM => ?_)
  refine j_iconst C dX6_isSound_5 ?_
  refine j_zret C ME (by first | exact Or.inl rfl | exact Or.inr rfl | (unfold bN; split <;> simp)) ?_ (by omega) (by omega) dX6_isSound_6
  exact ⟨rfl, hM⟩

