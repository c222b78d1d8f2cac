/-! THE REFERENCE: its methods with a loop. -/
def msetK (M : wM) (j : Nat) (h : Int → Int) (k : Int) : wM := mset M j (fun i => if 0 ≤ i ∧ i < k then h i else M j i)
theorem msetK_0 {M : wM} {j : Nat} {h : Int → Int} {k : Int} (hk : k ≤ 0) : msetK M j h k = M := mset_id (fun i => if_neg (by omega))
theorem msetK_ge {M : wM} {j : Nat} {h : Int → Int} {k i : Int} (hk : k ≤ i) : msetK M j h k j i = M j i := by
  show (if j = j then (if 0 ≤ i ∧ i < k then h i else M j i) else _) = _
  rw [if_pos rfl, if_neg (by omega)]
theorem msetK_S {M : wM} {j : Nat} {h : Int → Int} {k : Int} (hk : 0 ≤ k) : msetK M j h (k + 1) = mup (msetK M j h k) j k (h k) := by
  rw [mset_mup, msetK, msetK, mset_set]
  refine mset_cong (fun i => ?_)
  simp only [mset, if_true]
  by_cases q : i = k
  · rw [if_pos (by omega), if_pos q, q]
  · rw [if_neg q]
    by_cases q2 : 0 ≤ i ∧ i < k
    · rw [if_pos (by omega), if_pos q2]
    · rw [if_neg (by omega), if_neg q2]
theorem msetK_skip {M : wM} {j : Nat} {h : Int → Int} {k : Int} (hk : 0 ≤ k) (e : h k = M j k) : msetK M j h (k + 1) = msetK M j h k := by
  rw [msetK_S hk, e, ← msetK_ge (M := M) (j := j) (h := h) (k := k) (i := k) (Int.le_refl _), mup_id]
def mostM (M : wM) (k : Nat) : Int := maxI (fun i : Nat => greatM M i) k
def grH (M : wM) (z g : Int) (i : Int) : Int := if g = -1 ∧ mup M 11 z (-1) 11 i = z then -1 else mup M 11 z (-1) 11 i
def grC (M : wM) (z g : Int) (k : Int) : wM := msetK (mup (mup M 10 z g) 11 z (-1)) 11 (grH M z g) k
def poP (M : wM) (z i : Int) : Bool := decide (¬ i = z ∧ M 4 i = M 4 z ∧ M 6 i = M 6 z ∧ M 10 i = -1)
def poC (M : wM) (z : Int) (k : Int) : wM := msetK M 11 (fun i => if poP M z i then z else M 11 i) k
def hasV (M : wM) (f c : Int) (k : Nat) : Bool := anyI (fun v => decide (M 19 v = f ∧ M 20 v = c)) k
def lateM (M : wM) (d : Int) (k : Nat) : Int := sumI (fun q => if M 27 q = 0 ∧ M 26 q < d then 1 else 0) k
def x_setLimit (M : wM) (a : Int) : Int := if ¬ (2 ≤ a ∧ a ≤ 50) then 1 else if a < mostM M (M 17 0).toNat ∨ (a < M 18 0 ∧ loanM M = true) then 2 else 0
def v_setLimit (M : wM) (a : Int) : Int := M 18 0
def n_setLimit (M : wM) (a : Int) : wM := if x_setLimit M a = 0 then mup (mup M 0 0 (x_setLimit M a)) 18 0 a else (mup M 0 0 (x_setLimit M a))
def x_grade (M : wM) (z g : Int) : Int := if ¬ (0 ≤ z ∧ z < M 12 0) then 1 else if ¬ (-1 ≤ g ∧ g ≤ 99) then 2 else if g = -1 ∧ M 10 z = -1 then 3 else 0
def v_grade (M : wM) (z g : Int) : Int := gradeM M z
def n_grade (M : wM) (z g : Int) : wM := if x_grade M z g = 0 then grC (mup M 0 0 (x_grade M z g)) z g (M 12 0) else (mup M 0 0 (x_grade M z g))
def x_passOn (M : wM) (z : Int) : Int := if ¬ (0 ≤ z ∧ z < M 12 0) then 1 else if M 10 z = -1 then 2 else 0
def v_passOn (M : wM) (z : Int) : Int := sumI (fun k : Nat => bN (poP M z k)) (M 12 0).toNat
def n_passOn (M : wM) (z : Int) : wM := if x_passOn M z = 0 then poC (mup M 0 0 (x_passOn M z)) z (M 12 0) else (mup M 0 0 (x_passOn M z))
def x_addVersion (M : wM) (f a : Int) : Int := if ¬ (0 ≤ f ∧ f < M 1 0) then 1 else if ¬ (0 ≤ a ∧ a ≤ 7) then 2 else if hasV M f a (M 21 0).toNat = true then 3 else if M 21 0 = 10 then 4 else 0
def v_addVersion (M : wM) (f a : Int) : Int := M 21 0
def n_addVersion (M : wM) (f a : Int) : wM := if x_addVersion M f a = 0 then mup (mup (mup (mup M 0 0 (x_addVersion M f a)) 19 (M 21 0) f) 20 (M 21 0) a) 21 0 (M 21 0 + 1) else (mup M 0 0 (x_addVersion M f a))
def x_advance (M : wM) (a : Int) : Int := if ¬ (1 ≤ a ∧ a ≤ 99) then 1 else 0
def v_advance (M : wM) (a : Int) : Int := lateM M (M 29 0 + a) (M 28 0).toNat
def n_advance (M : wM) (a : Int) : wM := if x_advance M a = 0 then mup (mup M 0 0 (x_advance M a)) 29 0 (M 29 0 + a) else (mup M 0 0 (x_advance M a))
set_option maxHeartbeats 4000000 in
set_option maxRecDepth 100000 in
theorem m_setLimit (l : Launch) (hfl : l.stackTraces = false) {M : wM} {a : Int} (h_a : rg a) (I : Inv M) : MC l yX6_setLimit cX6_setLimit 5 (some FieldType.int) 4 [.int (iN a)] M (.inl (some (.int (iN (if x_setLimit M a = 0 then v_setLimit M a else 0))))) (n_setLimit M a) := by
  intro S0 o B hM0
  refine Ct.of cal_X6_setLimit hfl (Nat.le_of_ble_eq_true rfl) ?_
  intro p e s m args below meth c D sz C ME
  have hM : RMF S0 S0 o B M := ⟨hM0, mF.rf⟩
  have I9 := I
  obtain ⟨i1, i2, i3, i3e, i4, i4e, i5, i6, i7, i8, i10, i11⟩ := I9
  obtain ⟨a1, a2, a3, a4, a5, a6, a7⟩ := id i1
  have key : ∀ (x : Int) (S : wS), x = x_setLimit M a → RMF S0 S o B M → J p l e { frames := 20 * 4, cells := 0, slots := 0, locals := 200 * 4 } s m args below meth c 5 D (wA S0 sz) (wQ below D sz S0 (fun r9 S9 => r9 = .inl (some (.int (iN (if x_setLimit M a = 0 then v_setLimit M a else 0)))) ∧ RMF S0 S9 o B (n_setLimit M a)) args s 0 0) 83 [(0, .ref o), (1, .int (iN (a)))] [.int (iN x), .ref o] S 0 0 := by
    intro x S hx hM
    subst hx
    refine j_mcall C hM (c_goesOn l hfl (by unfold x_setLimit; (repeat' split) <;> (unfold rg; omega))) cal_X6_goesOn vi_X6_goesOn rfl ml_Mo_103 rfl rfl (Nat.le_of_ble_eq_true rfl) ⟨by decide, by decide⟩ ⟨by omega, by omega⟩ dX6_setLimit_83 (fun S hM => ?_)
    refine j_ifne_b (tgt := 91) C dX6_setLimit_86 (by decide) (fun c86 => ?_) (fun c86 => ?_)
    · try simp only [decide_eq_true_eq, decide_eq_false_iff_not] at c86
      try simp only [decide_eq_true_eq, decide_eq_false_iff_not] at c86
      have ok : 2 ≤ a ∧ a ≤ 50 := by
        clear I i1 i2 i3 i3e i4 i4e i5 i6 i7 i8 i10 i11; (try clear key); (try clear key2); (try clear ih); (try clear w5); (try clear w11); (try clear w2); (try clear w3); (try clear w4); (try clear w6); (try clear w7); (try clear w8); (try clear w9); (try clear p4); (try clear o4); unfold x_setLimit at c86
        (repeat' split at c86) <;> first | rfl | omega | (simp_all; done) | (simp_all; omega)
      
      refine j_aload_n C dX6_setLimit_91 rfl ?_
      refine j_mgeti C hM fl_Mo_52 ⟨by decide, rfl⟩ dX6_setLimit_92 ?_
      refine j_istore C dX6_setLimit_95 (by decide) ?_
      refine j_aload_n C dX6_setLimit_97 rfl ?_
      refine j_iload_n C dX6_setLimit_98 rfl ?_
      refine j_mputi C hM fl_Mo_52 ⟨by decide, rfl⟩ dX6_setLimit_99 (fun S hM => ?_)
      refine j_iload C dX6_setLimit_102 rfl ?_
      refine j_iret C ME ?_ (by omega) (by omega) dX6_setLimit_104
      refine ⟨rI ?_, ?_⟩
      · first
        | (rw [if_neg c86]; done)
        | (rw [if_pos c86]; unfold v_setLimit; rfl)
      · unfold n_setLimit
        first
        | (rw [if_neg c86]; exact hM)
        | (rw [if_pos c86]; exact hM)
    · try simp only [decide_eq_true_eq, decide_eq_false_iff_not] at c86
      try simp only [decide_eq_true_eq, decide_eq_false_iff_not] at c86
      refine j_iconst C dX6_setLimit_89 ?_
      refine j_iret C ME ?_ (by omega) (by omega) dX6_setLimit_90
      refine ⟨rI ?_, ?_⟩
      · first
        | (rw [if_neg c86]; done)
        | (rw [if_pos c86]; unfold v_setLimit; rfl)
      · unfold n_setLimit
        first
        | (rw [if_neg c86]; exact hM)
        | (rw [if_pos c86]; exact hM)
  refine j_iload_n C dX6_setLimit_0 rfl ?_
  refine j_iconst C dX6_setLimit_1 ?_
  refine j_bipush C dX6_setLimit_2 (by decide) ?_
  refine j_callS C (c_in l hfl (by unfold rg at *; omega) (by unfold rg; omega) (by unfold rg; omega)) cal_X6_in st_X6_in ml_Mo_87 rfl rfl (Nat.le_of_ble_eq_true rfl) ⟨by decide, by decide⟩ ⟨by omega, by omega⟩ dX6_setLimit_4 (fun E S9 h => nomatch h.1) (fun v9 S9 h => ?_)
  obtain ⟨h, h9⟩ := h
  have h9 := h9.symm
  subst h9
  cases h
  refine j_istore_n C dX6_setLimit_7 (by decide) ?_
  refine j_iconst C dX6_setLimit_8 ?_
  refine j_istore_n C dX6_setLimit_9 (by decide) ?_
  refine j_iconst C dX6_setLimit_10 ?_
  refine j_istore C dX6_setLimit_11 (by decide) ?_
  have key2 : ∀ (fuel : Nat) (i : Nat) (S : wS), M 17 0 - i < fuel → (i : Int) ≤ M 17 0 → RMF S0 S o B M → J p l e { frames := 20 * 4, cells := 0, slots := 0, locals := 200 * 4 } s m args below meth c 5 D (wA S0 sz) (wQ below D sz S0 (fun r9 S9 => r9 = .inl (some (.int (iN (if x_setLimit M a = 0 then v_setLimit M a else 0)))) ∧ RMF S0 S9 o B (n_setLimit M a)) args s 0 0) 13 [(0, .ref o), (1, .int (iN (a))), (2, .int (iN (bN (decide (2 ≤ a ∧ a ≤ 50))))), (3, .int (iN (mostM M i))), (4, .int (iN (i)))] [] S 0 0 := by
    intro fuel
    induction fuel with
    | zero => intro i S h1 h2 hM; omega
    | succ fuel ih =>
      intro i S h1 h2 hM
      have w5 : 0 ≤ mostM M i ∧ mostM M i ≤ M 18 0 := maxI_bound (by omega) (fun k hk => (greatM_rg (r := k) (by omega) i1 i4).2)
      have w6 := fun (h : (i : Int) < 24) => greatM_rg (r := i) (by omega) i1 i4
      refine j_iload C dX6_setLimit_13 rfl ?_
      refine j_aload_n C dX6_setLimit_15 rfl ?_
      refine j_mgeti C hM fl_Mo_94 ⟨by decide, rfl⟩ dX6_setLimit_16 ?_
      refine j_icmp_ge (tgt := 49) C dX6_setLimit_19 (by decide) (by unfold rg at *; omega) (by unfold rg at *; omega) (fun c19 => ?_) (fun c19 => ?_)
      · have ei : i = (M 17 0).toNat := by omega
        subst ei
        refine j_aload_n C dX6_setLimit_49 rfl ?_
        refine j_iload_n C dX6_setLimit_50 rfl ?_
        refine j_ifne_b (tgt := 58) C dX6_setLimit_51 (by decide) (fun c51 => ?_) (fun c51 => ?_)
        · try simp only [decide_eq_true_eq, decide_eq_false_iff_not] at c51
          refine j_iload_n C dX6_setLimit_58 rfl ?_
          refine j_iload_n C dX6_setLimit_59 rfl ?_
          refine j_icmp_gt (tgt := 78) C dX6_setLimit_60 (by decide) (by unfold rg at *; omega) (by unfold rg at *; omega) (fun c60 => ?_) (fun c60 => ?_)
          · refine j_iconst C dX6_setLimit_78 ?_
            refine j_goto (tgt := 83) C dX6_setLimit_79 (by decide) ?_
            refine J.lvs (lv' := [(0, .ref o), (1, .int (iN (a)))]) ?_ ?_
            · intro q hq; simp only [List.mem_cons, List.not_mem_nil, or_false] at hq; rcases hq with rfl | rfl <;> rfl
            · refine key _ _ (by clear I i1 i2 i3 i3e i4 i4e i5 i6 i7 i8 i10 i11; (try clear key); (try clear key2); (try clear ih); (try clear w5); (try clear w11); (try clear w2); (try clear w3); (try clear w4); (try clear w6); (try clear w7); (try clear w8); (try clear w9); (try clear p4); (try clear o4); (try simp only [decide_eq_true_eq, decide_eq_false_iff_not] at *); unfold x_setLimit; (repeat' split) <;> first | rfl | omega | (simp_all; done) | (simp_all; omega)) hM
          · refine j_iload_n C dX6_setLimit_63 rfl ?_
            refine j_aload_n C dX6_setLimit_64 rfl ?_
            refine j_mgeti C hM fl_Mo_52 ⟨by decide, rfl⟩ dX6_setLimit_65 ?_
            refine j_icmp_ge (tgt := 82) C dX6_setLimit_68 (by decide) (by unfold rg at *; omega) (by unfold rg at *; omega) (fun c68 => ?_) (fun c68 => ?_)
            · refine j_iconst C dX6_setLimit_82 ?_
              refine J.lvs (lv' := [(0, .ref o), (1, .int (iN (a)))]) ?_ ?_
              · intro q hq; simp only [List.mem_cons, List.not_mem_nil, or_false] at hq; rcases hq with rfl | rfl <;> rfl
              · refine key _ _ (by clear I i1 i2 i3 i3e i4 i4e i5 i6 i7 i8 i10 i11; (try clear key); (try clear key2); (try clear ih); (try clear w5); (try clear w11); (try clear w2); (try clear w3); (try clear w4); (try clear w6); (try clear w7); (try clear w8); (try clear w9); (try clear p4); (try clear o4); (try simp only [decide_eq_true_eq, decide_eq_false_iff_not] at *); unfold x_setLimit; (repeat' split) <;> first | rfl | omega | (simp_all; done) | (simp_all; omega)) hM
            · refine j_aload_n C dX6_setLimit_71 rfl ?_
              refine j_mcall C hM (c_hasLoan l hfl i1 i8) cal_X6_hasLoan vi_X6_hasLoan rfl ml_Mo_148 rfl rfl (Nat.le_of_ble_eq_true rfl) ⟨by decide, by decide⟩ ⟨by omega, by omega⟩ dX6_setLimit_72 (fun S hM => ?_)
              refine j_ifeq_b (tgt := 82) C dX6_setLimit_75 (by decide) (fun c75 => ?_) (fun c75 => ?_)
              · try simp only [decide_eq_true_eq, decide_eq_false_iff_not] at c75
                refine j_iconst C dX6_setLimit_82 ?_
                refine J.lvs (lv' := [(0, .ref o), (1, .int (iN (a)))]) ?_ ?_
                · intro q hq; simp only [List.mem_cons, List.not_mem_nil, or_false] at hq; rcases hq with rfl | rfl <;> rfl
                · refine key _ _ (by clear I i1 i2 i3 i3e i4 i4e i5 i6 i7 i8 i10 i11; (try clear key); (try clear key2); (try clear ih); (try clear w5); (try clear w11); (try clear w2); (try clear w3); (try clear w4); (try clear w6); (try clear w7); (try clear w8); (try clear w9); (try clear p4); (try clear o4); (try simp only [decide_eq_true_eq, decide_eq_false_iff_not] at *); unfold x_setLimit; (repeat' split) <;> first | rfl | omega | (simp_all; done) | (simp_all; omega)) hM
              · try simp only [decide_eq_true_eq, decide_eq_false_iff_not] at c75
                refine j_iconst C dX6_setLimit_78 ?_
                refine j_goto (tgt := 83) C dX6_setLimit_79 (by decide) ?_
                refine J.lvs (lv' := [(0, .ref o), (1, .int (iN (a)))]) ?_ ?_
                · intro q hq; simp only [List.mem_cons, List.not_mem_nil, or_false] at hq; rcases hq with rfl | rfl <;> rfl
                · refine key _ _ (by clear I i1 i2 i3 i3e i4 i4e i5 i6 i7 i8 i10 i11; (try clear key); (try clear key2); (try clear ih); (try clear w5); (try clear w11); (try clear w2); (try clear w3); (try clear w4); (try clear w6); (try clear w7); (try clear w8); (try clear w9); (try clear p4); (try clear o4); (try simp only [decide_eq_true_eq, decide_eq_false_iff_not] at *); unfold x_setLimit; (repeat' split) <;> first | rfl | omega | (simp_all; done) | (simp_all; omega)) hM
        · try simp only [decide_eq_true_eq, decide_eq_false_iff_not] at c51
          refine j_iconst C dX6_setLimit_54 ?_
          refine j_goto (tgt := 83) C dX6_setLimit_55 (by decide) ?_
          refine J.lvs (lv' := [(0, .ref o), (1, .int (iN (a)))]) ?_ ?_
          · intro q hq; simp only [List.mem_cons, List.not_mem_nil, or_false] at hq; rcases hq with rfl | rfl <;> rfl
          · refine key _ _ (by clear I i1 i2 i3 i3e i4 i4e i5 i6 i7 i8 i10 i11; (try clear key); (try clear key2); (try clear ih); (try clear w5); (try clear w11); (try clear w2); (try clear w3); (try clear w4); (try clear w6); (try clear w7); (try clear w8); (try clear w9); (try clear p4); (try clear o4); (try simp only [decide_eq_true_eq, decide_eq_false_iff_not] at *); unfold x_setLimit; (repeat' split) <;> first | rfl | omega | (simp_all; done) | (simp_all; omega)) hM
      · have w6 := w6 (by omega)
        refine j_aload_n C dX6_setLimit_22 rfl ?_
        refine j_iload C dX6_setLimit_23 rfl ?_
        refine j_mcall C hM (c_greatest l hfl (by omega) i1 i4) cal_X6_greatest vi_X6_greatest rfl ml_Mo_145 rfl rfl (Nat.le_of_ble_eq_true rfl) ⟨by decide, by decide⟩ ⟨by omega, by omega⟩ dX6_setLimit_25 (fun S hM => ?_)
        refine j_iload_n C dX6_setLimit_28 rfl ?_
        refine j_icmp_le (tgt := 41) C dX6_setLimit_29 (by decide) (by unfold rg at *; omega) (by unfold rg at *; omega) (fun c29 => ?_) (fun c29 => ?_)
        · refine j_iload_n C dX6_setLimit_41 rfl ?_
          refine j_istore_n C dX6_setLimit_42 (by decide) ?_
          refine j_iinc C dX6_setLimit_43 rfl (by decide) ?_
          refine j_goto (tgt := 13) C dX6_setLimit_46 (by decide) ?_
          have ihk := ih (i + 1) S (by omega) (by omega) hM
          have e9 : mostM M (i + 1) = if mostM M i < greatM M i then greatM M i else mostM M i := rfl
          first
            | (rw [if_pos (by omega)] at e9
               rw [e9] at ihk
               refine J.lvs (lv' := [(0, .ref o), (1, .int (iN (a))), (2, .int (iN (bN (decide (2 ≤ a ∧ a ≤ 50))))), (3, .int (iN (greatM M i))), (4, .int (iN (((i + 1 : Nat) : Int))))]) ?_ ?_
               · intro q hq; simp only [List.mem_cons, List.not_mem_nil, or_false] at hq; rcases hq with rfl | rfl | rfl | rfl | rfl <;> rfl
               · refine ihk)
            | (rw [if_neg (by omega)] at e9
               rw [e9] at ihk
               refine J.lvs (lv' := [(0, .ref o), (1, .int (iN (a))), (2, .int (iN (bN (decide (2 ≤ a ∧ a ≤ 50))))), (3, .int (iN (mostM M i))), (4, .int (iN (((i + 1 : Nat) : Int))))]) ?_ ?_
               · intro q hq; simp only [List.mem_cons, List.not_mem_nil, or_false] at hq; rcases hq with rfl | rfl | rfl | rfl | rfl <;> rfl
               · refine ihk)
        · refine j_aload_n C dX6_setLimit_32 rfl ?_
          refine j_iload C dX6_setLimit_33 rfl ?_
          refine j_mcall C hM (c_greatest l hfl (by omega) i1 i4) cal_X6_greatest vi_X6_greatest rfl ml_Mo_145 rfl rfl (Nat.le_of_ble_eq_true rfl) ⟨by decide, by decide⟩ ⟨by omega, by omega⟩ dX6_setLimit_35 (fun S hM => ?_)
          refine j_goto (tgt := 42) C dX6_setLimit_38 (by decide) ?_
          refine j_istore_n C dX6_setLimit_42 (by decide) ?_
          refine j_iinc C dX6_setLimit_43 rfl (by decide) ?_
          refine j_goto (tgt := 13) C dX6_setLimit_46 (by decide) ?_
          have ihk := ih (i + 1) S (by omega) (by omega) hM
          have e9 : mostM M (i + 1) = if mostM M i < greatM M i then greatM M i else mostM M i := rfl
          first
            | (rw [if_pos (by omega)] at e9
               rw [e9] at ihk
               refine J.lvs (lv' := [(0, .ref o), (1, .int (iN (a))), (2, .int (iN (bN (decide (2 ≤ a ∧ a ≤ 50))))), (3, .int (iN (greatM M i))), (4, .int (iN (((i + 1 : Nat) : Int))))]) ?_ ?_
               · intro q hq; simp only [List.mem_cons, List.not_mem_nil, or_false] at hq; rcases hq with rfl | rfl | rfl | rfl | rfl <;> rfl
               · refine ihk)
            | (rw [if_neg (by omega)] at e9
               rw [e9] at ihk
               refine J.lvs (lv' := [(0, .ref o), (1, .int (iN (a))), (2, .int (iN (bN (decide (2 ≤ a ∧ a ≤ 50))))), (3, .int (iN (mostM M i))), (4, .int (iN (((i + 1 : Nat) : Int))))]) ?_ ?_
               · intro q hq; simp only [List.mem_cons, List.not_mem_nil, or_false] at hq; rcases hq with rfl | rfl | rfl | rfl | rfl <;> rfl
               · refine ihk)
  refine J.lvs (lv' := [(0, .ref o), (1, .int (iN (a))), (2, .int (iN (bN (decide (2 ≤ a ∧ a ≤ 50))))), (3, .int (iN (mostM M 0))), (4, .int (iN (((0 : Nat) : Int))))]) ?_ ?_
  · intro q hq; simp only [List.mem_cons, List.not_mem_nil, or_false] at hq; rcases hq with rfl | rfl | rfl | rfl | rfl <;> rfl
  · exact key2 ((M 17 0).toNat + 1) 0 _ (by omega) (by omega) hM

set_option maxHeartbeats 4000000 in
set_option maxRecDepth 100000 in
theorem m_grade (l : Launch) (hfl : l.stackTraces = false) {M : wM} {z g : Int} (h_z : rg z)  (h_g : rg g) (I : Inv M) : MC l yX6_grade cX6_grade 6 (some FieldType.int) 4 [.int (iN z), .int (iN g)] M (.inl (some (.int (iN (if x_grade M z g = 0 then v_grade M z g else 0))))) (n_grade M z g) := by
  intro S0 o B hM0
  refine Ct.of cal_X6_grade hfl (Nat.le_of_ble_eq_true rfl) ?_
  intro p e s m args below meth c D sz C ME
  have hM : RMF S0 S0 o B M := ⟨hM0, mF.rf⟩
  have I9 := I
  obtain ⟨i1, i2, i3, i3e, i4, i4e, i5, i6, i7, i8, i10, i11⟩ := I9
  obtain ⟨a1, a2, a3, a4, a5, a6, a7⟩ := id i1
  have key : ∀ (x : Int) (S : wS), x = x_grade M z g → RMF S0 S o B M → J p l e { frames := 20 * 4, cells := 0, slots := 0, locals := 200 * 4 } s m args below meth c 6 D (wA S0 sz) (wQ below D sz S0 (fun r9 S9 => r9 = .inl (some (.int (iN (if x_grade M z g = 0 then v_grade M z g else 0)))) ∧ RMF S0 S9 o B (n_grade M z g)) args s 0 0) 49 [(0, .ref o), (1, .int (iN (z))), (2, .int (iN (g)))] [.int (iN x), .ref o] S 0 0 := by
    intro x S hx hM
    subst hx
    refine j_mcall C hM (c_goesOn l hfl (by unfold x_grade; (repeat' split) <;> (unfold rg; omega))) cal_X6_goesOn vi_X6_goesOn rfl ml_Mo_103 rfl rfl (Nat.le_of_ble_eq_true rfl) ⟨by decide, by decide⟩ ⟨by omega, by omega⟩ dX6_grade_49 (fun S hM => ?_)
    refine j_ifne_b (tgt := 57) C dX6_grade_52 (by decide) (fun c52 => ?_) (fun c52 => ?_)
    · try simp only [decide_eq_true_eq, decide_eq_false_iff_not] at c52
      try simp only [decide_eq_true_eq, decide_eq_false_iff_not] at c52
      have ok : (0 ≤ z ∧ z < M 12 0) ∧ -1 ≤ g ∧ g ≤ 99 := by
        clear I i1 i2 i3 i3e i4 i4e i5 i6 i7 i8 i10 i11; (try clear key); (try clear key2); (try clear ih); (try clear w5); (try clear w11); (try clear w2); (try clear w3); (try clear w4); (try clear w6); (try clear w7); (try clear w8); (try clear w9); (try clear p4); (try clear o4); unfold x_grade at c52
        (repeat' split at c52) <;> first | rfl | omega | (simp_all; done) | (simp_all; omega)
      
      refine j_aload_n C dX6_grade_57 rfl ?_
      refine j_iload_n C dX6_grade_58 rfl ?_
      refine j_mcall C hM (c_gradeNow l hfl (M := (mup M 0 0 (x_grade M z g))) ok.1 i1 i2) cal_X6_gradeNow vi_X6_gradeNow rfl ml_Mo_172 rfl rfl (Nat.le_of_ble_eq_true rfl) ⟨by decide, by decide⟩ ⟨by omega, by omega⟩ dX6_grade_59 (fun S hM => ?_)
      refine j_istore C dX6_grade_62 (by decide) ?_
      refine j_aload_n C dX6_grade_64 rfl ?_
      refine j_mgeta C hM fl_Mo_34 (by decide) dX6_grade_65 ?_
      refine j_iload_n C dX6_grade_68 rfl ?_
      refine j_iload_n C dX6_grade_69 rfl ?_
      refine j_mast C hM (by decide) rfl (by simp only [mLen]; omega) dX6_grade_70 (fun S hM => ?_)
      refine j_aload_n C dX6_grade_71 rfl ?_
      refine j_mgeta C hM fl_Mo_37 (by decide) dX6_grade_72 ?_
      refine j_iload_n C dX6_grade_75 rfl ?_
      refine j_iconst C dX6_grade_76 ?_
      refine j_mast C hM (by decide) rfl (by simp only [mLen]; omega) dX6_grade_77 (fun S hM => ?_)
      refine j_iconst C dX6_grade_78 ?_
      refine j_istore C dX6_grade_79 (by decide) ?_
      have key2 : ∀ (fuel : Nat) (i : Nat) (S : wS), M 12 0 - i < fuel → (i : Int) ≤ M 12 0 → RMF S0 S o B (grC (mup M 0 0 (x_grade M z g)) z g i) → J p l e { frames := 20 * 4, cells := 0, slots := 0, locals := 200 * 4 } s m args below meth c 6 D (wA S0 sz) (wQ below D sz S0 (fun r9 S9 => r9 = .inl (some (.int (iN (if x_grade M z g = 0 then v_grade M z g else 0)))) ∧ RMF S0 S9 o B (n_grade M z g)) args s 0 0) 81 [(0, .ref o), (1, .int (iN (z))), (2, .int (iN (g))), (4, .int (iN (gradeM M z))), (5, .int (iN (i)))] [] S 0 0 := by
        intro fuel
        induction fuel with
        | zero => intro i S h1 h2 hM; omega
        | succ fuel ih =>
          intro i S h1 h2 hM
          have e12 : (grC (mup M 0 0 (x_grade M z g)) z g i) 12 0 = M 12 0 := rfl
          have e11 : (grC (mup M 0 0 (x_grade M z g)) z g i) 11 i = mup M 11 z (-1) 11 i := msetK_ge (Int.le_refl _)
          have w5 : (i : Int) < M 12 0 → -1 ≤ mup M 11 z (-1) 11 i ∧ mup M 11 z (-1) 11 i < 60 := by
            intro h
            have w2 := i2 i (by omega) h
            unfold mup
            split <;> omega
          refine j_iload C dX6_grade_81 rfl ?_
          refine j_aload_n C dX6_grade_83 rfl ?_
          refine j_mgeti C hM fl_Mo_91 ⟨by decide, rfl⟩ dX6_grade_84 ?_
          refine j_icmp_ge (tgt := 130) C dX6_grade_87 (by decide) (by unfold rg at *; omega) (by unfold rg at *; omega) (fun c87 => ?_) (fun c87 => ?_)
          · have ei : (i : Int) = M 12 0 := by omega
            rw [ei] at hM
            refine j_iload C dX6_grade_130 rfl ?_
            refine j_iret C ME ?_ (by omega) (by omega) dX6_grade_132
            refine ⟨rI ?_, ?_⟩
            · first
              | (rw [if_neg c52]; done)
              | (rw [if_pos c52]; unfold v_grade; rfl)
            · unfold n_grade
              first
              | (rw [if_neg c52]; exact hM)
              | (rw [if_pos c52]; exact hM)
          · have w5 := w5 (by omega)
            refine j_aload_n C dX6_grade_90 rfl ?_
            refine j_mgeta C hM fl_Mo_37 (by decide) dX6_grade_91 ?_
            refine j_iload C dX6_grade_94 rfl ?_
            refine j_iload_n C dX6_grade_96 rfl ?_
            refine j_iconst C dX6_grade_97 ?_
            refine j_icmp_ne (tgt := 116) C dX6_grade_98 (by decide) (by unfold rg at *; omega) (by unfold rg at *; omega) (fun c98 => ?_) (fun c98 => ?_)
            · refine j_aload_n C dX6_grade_116 rfl ?_
              refine j_mgeta C hM fl_Mo_37 (by decide) dX6_grade_117 ?_
              refine j_iload C dX6_grade_120 rfl ?_
              refine j_mald C hM (by decide) rfl (by simp only [mLen]; omega) dX6_grade_122 ?_
              refine j_mast C hM (by decide) rfl (by simp only [mLen]; omega) dX6_grade_123 (fun S hM => ?_)
              refine j_iinc C dX6_grade_124 rfl (by decide) ?_
              refine j_goto (tgt := 81) C dX6_grade_127 (by decide) ?_
              have ihk := ih (i + 1) S (by omega) (by omega) (by
                rw [show ((i + 1 : Nat) : Int) = (i : Int) + 1 from rfl]
                unfold grC
                rw [msetK_S (by omega)]
                have e : grH (mup M 0 0 (x_grade M z g)) z g i = if g = -1 ∧ mup M 11 z (-1) 11 i = z then -1 else mup M 11 z (-1) 11 i := rfl
                rw [e]
                first
                | (rw [if_pos ⟨by omega, by omega⟩]; exact hM)
                | (rw [if_neg (by omega)]; rw [e11] at hM; exact hM))
              refine J.lvs (lv' := [(0, .ref o), (1, .int (iN (z))), (2, .int (iN (g))), (4, .int (iN (gradeM M z))), (5, .int (iN (((i + 1 : Nat) : Int))))]) ?_ ?_
              · intro q hq; simp only [List.mem_cons, List.not_mem_nil, or_false] at hq; rcases hq with rfl | rfl | rfl | rfl | rfl <;> rfl
              · refine ihk
            · refine j_aload_n C dX6_grade_101 rfl ?_
              refine j_mgeta C hM fl_Mo_37 (by decide) dX6_grade_102 ?_
              refine j_iload C dX6_grade_105 rfl ?_
              refine j_mald C hM (by decide) rfl (by simp only [mLen]; omega) dX6_grade_107 ?_
              refine j_iload_n C dX6_grade_108 rfl ?_
              refine j_icmp_ne (tgt := 116) C dX6_grade_109 (by decide) (by unfold rg at *; omega) (by unfold rg at *; omega) (fun c109 => ?_) (fun c109 => ?_)
              · refine j_aload_n C dX6_grade_116 rfl ?_
                refine j_mgeta C hM fl_Mo_37 (by decide) dX6_grade_117 ?_
                refine j_iload C dX6_grade_120 rfl ?_
                refine j_mald C hM (by decide) rfl (by simp only [mLen]; omega) dX6_grade_122 ?_
                refine j_mast C hM (by decide) rfl (by simp only [mLen]; omega) dX6_grade_123 (fun S hM => ?_)
                refine j_iinc C dX6_grade_124 rfl (by decide) ?_
                refine j_goto (tgt := 81) C dX6_grade_127 (by decide) ?_
                have ihk := ih (i + 1) S (by omega) (by omega) (by
                  rw [show ((i + 1 : Nat) : Int) = (i : Int) + 1 from rfl]
                  unfold grC
                  rw [msetK_S (by omega)]
                  have e : grH (mup M 0 0 (x_grade M z g)) z g i = if g = -1 ∧ mup M 11 z (-1) 11 i = z then -1 else mup M 11 z (-1) 11 i := rfl
                  rw [e]
                  first
                  | (rw [if_pos ⟨by omega, by omega⟩]; exact hM)
                  | (rw [if_neg (by omega)]; rw [e11] at hM; exact hM))
                refine J.lvs (lv' := [(0, .ref o), (1, .int (iN (z))), (2, .int (iN (g))), (4, .int (iN (gradeM M z))), (5, .int (iN (((i + 1 : Nat) : Int))))]) ?_ ?_
                · intro q hq; simp only [List.mem_cons, List.not_mem_nil, or_false] at hq; rcases hq with rfl | rfl | rfl | rfl | rfl <;> rfl
                · refine ihk
              · refine j_iconst C dX6_grade_112 ?_
                refine j_goto (tgt := 123) C dX6_grade_113 (by decide) ?_
                refine j_mast C hM (by decide) rfl (by simp only [mLen]; omega) dX6_grade_123 (fun S hM => ?_)
                refine j_iinc C dX6_grade_124 rfl (by decide) ?_
                refine j_goto (tgt := 81) C dX6_grade_127 (by decide) ?_
                have ihk := ih (i + 1) S (by omega) (by omega) (by
                  rw [show ((i + 1 : Nat) : Int) = (i : Int) + 1 from rfl]
                  unfold grC
                  rw [msetK_S (by omega)]
                  have e : grH (mup M 0 0 (x_grade M z g)) z g i = if g = -1 ∧ mup M 11 z (-1) 11 i = z then -1 else mup M 11 z (-1) 11 i := rfl
                  rw [e]
                  first
                  | (rw [if_pos ⟨by omega, by omega⟩]; exact hM)
                  | (rw [if_neg (by omega)]; rw [e11] at hM; exact hM))
                refine J.lvs (lv' := [(0, .ref o), (1, .int (iN (z))), (2, .int (iN (g))), (4, .int (iN (gradeM M z))), (5, .int (iN (((i + 1 : Nat) : Int))))]) ?_ ?_
                · intro q hq; simp only [List.mem_cons, List.not_mem_nil, or_false] at hq; rcases hq with rfl | rfl | rfl | rfl | rfl <;> rfl
                · refine ihk
      refine J.lvs (lv' := [(0, .ref o), (1, .int (iN (z))), (2, .int (iN (g))), (4, .int (iN (gradeM M z))), (5, .int (iN (((0 : Nat) : Int))))]) ?_ ?_
      · intro q hq; simp only [List.mem_cons, List.not_mem_nil, or_false] at hq; rcases hq with rfl | rfl | rfl | rfl | rfl <;> rfl
      · exact key2 ((M 12 0).toNat + 1) 0 S (by omega) (by omega) (by unfold grC; rw [msetK_0 (by omega)]; exact hM)
    · try simp only [decide_eq_true_eq, decide_eq_false_iff_not] at c52
      try simp only [decide_eq_true_eq, decide_eq_false_iff_not] at c52
      refine j_iconst C dX6_grade_55 ?_
      refine j_iret C ME ?_ (by omega) (by omega) dX6_grade_56
      refine ⟨rI ?_, ?_⟩
      · first
        | (rw [if_neg c52]; done)
        | (rw [if_pos c52]; unfold v_grade; rfl)
      · unfold n_grade
        first
        | (rw [if_neg c52]; exact hM)
        | (rw [if_pos c52]; exact hM)
  refine j_aload_n C dX6_grade_0 rfl ?_
  refine j_iload_n C dX6_grade_1 rfl ?_
  refine j_mcall C hM (c_isShot l hfl (by unfold rg at *; omega) (by omega)) cal_X6_isShot vi_X6_isShot rfl ml_Mo_121 rfl rfl (Nat.le_of_ble_eq_true rfl) ⟨by decide, by decide⟩ ⟨by omega, by omega⟩ dX6_grade_2 (fun S hM => ?_)
  refine j_istore_n C dX6_grade_5 (by decide) ?_
  refine j_aload_n C dX6_grade_6 rfl ?_
  refine j_iload_n C dX6_grade_7 rfl ?_
  refine j_ifne_b (tgt := 15) C dX6_grade_8 (by decide) (fun c8 => ?_) (fun c8 => ?_)
  · try simp only [decide_eq_true_eq, decide_eq_false_iff_not] at c8
    have w2 := i2 z (by omega) (by omega)
    refine j_iload_n C dX6_grade_15 rfl ?_
    refine j_iconst C dX6_grade_16 ?_
    refine j_bipush C dX6_grade_17 (by decide) ?_
    refine j_callS C (c_in l hfl (by unfold rg at *; omega) (by unfold rg; omega) (by unfold rg; omega)) cal_X6_in st_X6_in ml_Mo_87 rfl rfl (Nat.le_of_ble_eq_true rfl) ⟨by decide, by decide⟩ ⟨by omega, by omega⟩ dX6_grade_19 (fun E S9 h => nomatch h.1) (fun v9 S9 h => ?_)
    obtain ⟨h, h9⟩ := h
    have h9 := h9.symm
    subst h9
    cases h
    refine j_ifne_b (tgt := 29) C dX6_grade_22 (by decide) (fun c22 => ?_) (fun c22 => ?_)
    · try simp only [decide_eq_true_eq, decide_eq_false_iff_not] at c22
      refine j_iload_n C dX6_grade_29 rfl ?_
      refine j_iconst C dX6_grade_30 ?_
      refine j_icmp_ne (tgt := 48) C dX6_grade_31 (by decide) (by unfold rg at *; omega) (by unfold rg at *; omega) (fun c31 => ?_) (fun c31 => ?_)
      · refine j_iconst C dX6_grade_48 ?_
        refine J.lvs (lv' := [(0, .ref o), (1, .int (iN (z))), (2, .int (iN (g)))]) ?_ ?_
        · intro q hq; simp only [List.mem_cons, List.not_mem_nil, or_false] at hq; rcases hq with rfl | rfl | rfl <;> rfl
        · refine key _ _ (by clear I i1 i2 i3 i3e i4 i4e i5 i6 i7 i8 i10 i11; (try clear key); (try clear key2); (try clear ih); (try clear w5); (try clear w11); (try clear w2); (try clear w3); (try clear w4); (try clear w6); (try clear w7); (try clear w8); (try clear w9); (try clear p4); (try clear o4); (try simp only [decide_eq_true_eq, decide_eq_false_iff_not] at *); unfold x_grade; (repeat' split) <;> first | rfl | omega | (simp_all; done) | (simp_all; omega)) hM
      · refine j_aload_n C dX6_grade_34 rfl ?_
        refine j_mgeta C hM fl_Mo_34 (by decide) dX6_grade_35 ?_
        refine j_iload_n C dX6_grade_38 rfl ?_
        refine j_mald C hM (by decide) rfl (by simp only [mLen]; omega) dX6_grade_39 ?_
        refine j_iconst C dX6_grade_40 ?_
        refine j_icmp_ne (tgt := 48) C dX6_grade_41 (by decide) (by unfold rg at *; omega) (by unfold rg at *; omega) (fun c41 => ?_) (fun c41 => ?_)
        · refine j_iconst C dX6_grade_48 ?_
          refine J.lvs (lv' := [(0, .ref o), (1, .int (iN (z))), (2, .int (iN (g)))]) ?_ ?_
          · intro q hq; simp only [List.mem_cons, List.not_mem_nil, or_false] at hq; rcases hq with rfl | rfl | rfl <;> rfl
          · refine key _ _ (by clear I i1 i2 i3 i3e i4 i4e i5 i6 i7 i8 i10 i11; (try clear key); (try clear key2); (try clear ih); (try clear w5); (try clear w11); (try clear w2); (try clear w3); (try clear w4); (try clear w6); (try clear w7); (try clear w8); (try clear w9); (try clear p4); (try clear o4); (try simp only [decide_eq_true_eq, decide_eq_false_iff_not] at *); unfold x_grade; (repeat' split) <;> first | rfl | omega | (simp_all; done) | (simp_all; omega)) hM
        · refine j_iconst C dX6_grade_44 ?_
          refine j_goto (tgt := 49) C dX6_grade_45 (by decide) ?_
          refine J.lvs (lv' := [(0, .ref o), (1, .int (iN (z))), (2, .int (iN (g)))]) ?_ ?_
          · intro q hq; simp only [List.mem_cons, List.not_mem_nil, or_false] at hq; rcases hq with rfl | rfl | rfl <;> rfl
          · refine key _ _ (by clear I i1 i2 i3 i3e i4 i4e i5 i6 i7 i8 i10 i11; (try clear key); (try clear key2); (try clear ih); (try clear w5); (try clear w11); (try clear w2); (try clear w3); (try clear w4); (try clear w6); (try clear w7); (try clear w8); (try clear w9); (try clear p4); (try clear o4); (try simp only [decide_eq_true_eq, decide_eq_false_iff_not] at *); unfold x_grade; (repeat' split) <;> first | rfl | omega | (simp_all; done) | (simp_all; omega)) hM
    · try simp only [decide_eq_true_eq, decide_eq_false_iff_not] at c22
      refine j_iconst C dX6_grade_25 ?_
      refine j_goto (tgt := 49) C dX6_grade_26 (by decide) ?_
      refine J.lvs (lv' := [(0, .ref o), (1, .int (iN (z))), (2, .int (iN (g)))]) ?_ ?_
      · intro q hq; simp only [List.mem_cons, List.not_mem_nil, or_false] at hq; rcases hq with rfl | rfl | rfl <;> rfl
      · refine key _ _ (by clear I i1 i2 i3 i3e i4 i4e i5 i6 i7 i8 i10 i11; (try clear key); (try clear key2); (try clear ih); (try clear w5); (try clear w11); (try clear w2); (try clear w3); (try clear w4); (try clear w6); (try clear w7); (try clear w8); (try clear w9); (try clear p4); (try clear o4); (try simp only [decide_eq_true_eq, decide_eq_false_iff_not] at *); unfold x_grade; (repeat' split) <;> first | rfl | omega | (simp_all; done) | (simp_all; omega)) hM
  · try simp only [decide_eq_true_eq, decide_eq_false_iff_not] at c8
    refine j_iconst C dX6_grade_11 ?_
    refine j_goto (tgt := 49) C dX6_grade_12 (by decide) ?_
    refine J.lvs (lv' := [(0, .ref o), (1, .int (iN (z))), (2, .int (iN (g)))]) ?_ ?_
    · intro q hq; simp only [List.mem_cons, List.not_mem_nil, or_false] at hq; rcases hq with rfl | rfl | rfl <;> rfl
    · refine key _ _ (by clear I i1 i2 i3 i3e i4 i4e i5 i6 i7 i8 i10 i11; (try clear key); (try clear key2); (try clear ih); (try clear w5); (try clear w11); (try clear w2); (try clear w3); (try clear w4); (try clear w6); (try clear w7); (try clear w8); (try clear w9); (try clear p4); (try clear o4); (try simp only [decide_eq_true_eq, decide_eq_false_iff_not] at *); unfold x_grade; (repeat' split) <;> first | rfl | omega | (simp_all; done) | (simp_all; omega)) hM

set_option maxHeartbeats 4000000 in
set_option maxRecDepth 100000 in
theorem m_passOn (l : Launch) (hfl : l.stackTraces = false) {M : wM} {z : Int} (h_z : rg z) (I : Inv M) : MC l yX6_passOn cX6_passOn 5 (some FieldType.int) 4 [.int (iN z)] M (.inl (some (.int (iN (if x_passOn M z = 0 then v_passOn M z else 0))))) (n_passOn M z) := by
  intro S0 o B hM0
  refine Ct.of cal_X6_passOn hfl (Nat.le_of_ble_eq_true rfl) ?_
  intro p e s m args below meth c D sz C ME
  have hM : RMF S0 S0 o B M := ⟨hM0, mF.rf⟩
  have I9 := I
  obtain ⟨i1, i2, i3, i3e, i4, i4e, i5, i6, i7, i8, i10, i11⟩ := I9
  obtain ⟨a1, a2, a3, a4, a5, a6, a7⟩ := id i1
  have key : ∀ (x : Int) (S : wS), x = x_passOn M z → RMF S0 S o B M → J p l e { frames := 20 * 4, cells := 0, slots := 0, locals := 200 * 4 } s m args below meth c 5 D (wA S0 sz) (wQ below D sz S0 (fun r9 S9 => r9 = .inl (some (.int (iN (if x_passOn M z = 0 then v_passOn M z else 0)))) ∧ RMF S0 S9 o B (n_passOn M z)) args s 0 0) 30 [(0, .ref o), (1, .int (iN (z)))] [.int (iN x), .ref o] S 0 0 := by
    intro x S hx hM
    subst hx
    refine j_mcall C hM (c_goesOn l hfl (by unfold x_passOn; (repeat' split) <;> (unfold rg; omega))) cal_X6_goesOn vi_X6_goesOn rfl ml_Mo_103 rfl rfl (Nat.le_of_ble_eq_true rfl) ⟨by decide, by decide⟩ ⟨by omega, by omega⟩ dX6_passOn_30 (fun S hM => ?_)
    refine j_ifne_b (tgt := 38) C dX6_passOn_33 (by decide) (fun c33 => ?_) (fun c33 => ?_)
    · try simp only [decide_eq_true_eq, decide_eq_false_iff_not] at c33
      try simp only [decide_eq_true_eq, decide_eq_false_iff_not] at c33
      have ok : 0 ≤ z ∧ z < M 12 0 := by
        clear I i1 i2 i3 i3e i4 i4e i5 i6 i7 i8 i10 i11; (try clear key); (try clear key2); (try clear ih); (try clear w5); (try clear w11); (try clear w2); (try clear w3); (try clear w4); (try clear w6); (try clear w7); (try clear w8); (try clear w9); (try clear p4); (try clear o4); unfold x_passOn at c33
        (repeat' split at c33) <;> first | rfl | omega | (simp_all; done) | (simp_all; omega)
      have w20 := i2 z (by omega) (by omega)
      refine j_iconst C dX6_passOn_38 ?_
      refine j_istore_n C dX6_passOn_39 (by decide) ?_
      refine j_iconst C dX6_passOn_40 ?_
      refine j_istore C dX6_passOn_41 (by decide) ?_
      have key2 : ∀ (fuel : Nat) (i : Nat) (S : wS), M 12 0 - i < fuel → (i : Int) ≤ M 12 0 → RMF S0 S o B (poC (mup M 0 0 (x_passOn M z)) z i) → J p l e { frames := 20 * 4, cells := 0, slots := 0, locals := 200 * 4 } s m args below meth c 5 D (wA S0 sz) (wQ below D sz S0 (fun r9 S9 => r9 = .inl (some (.int (iN (if x_passOn M z = 0 then v_passOn M z else 0)))) ∧ RMF S0 S9 o B (n_passOn M z)) args s 0 0) 43 [(0, .ref o), (1, .int (iN (z))), (3, .int (iN (sumI (fun k : Nat => bN (poP M z k)) i))), (4, .int (iN (i)))] [] S 0 0 := by
        intro fuel
        induction fuel with
        | zero => intro i S h1 h2 hM; omega
        | succ fuel ih =>
          intro i S h1 h2 hM
          have e12 : (poC (mup M 0 0 (x_passOn M z)) z i) 12 0 = M 12 0 := rfl
          have e4 : ∀ x, (poC (mup M 0 0 (x_passOn M z)) z i) 4 x = M 4 x := fun _ => rfl
          have e6 : ∀ x, (poC (mup M 0 0 (x_passOn M z)) z i) 6 x = M 6 x := fun _ => rfl
          have e10 : ∀ x, (poC (mup M 0 0 (x_passOn M z)) z i) 10 x = M 10 x := fun _ => rfl
          have w6 := fun (h : (i : Int) < M 12 0) => i2 i (by omega) h
          have f1 := e4 z
          have f2 := e4 i
          have f3 := e6 z
          have f4 := e6 i
          have f5 := e10 i
          refine j_iload C dX6_passOn_43 rfl ?_
          refine j_aload_n C dX6_passOn_45 rfl ?_
          refine j_mgeti C hM fl_Mo_91 ⟨by decide, rfl⟩ dX6_passOn_46 ?_
          refine j_icmp_ge (tgt := 118) C dX6_passOn_49 (by decide) (by unfold rg at *; omega) (by unfold rg at *; omega) (fun c49 => ?_) (fun c49 => ?_)
          · have ei : i = (M 12 0).toNat := by omega
            subst ei
            rw [show (((M 12 0).toNat : Nat) : Int) = M 12 0 by omega] at hM
            refine j_iload_n C dX6_passOn_118 rfl ?_
            refine j_iret C ME ?_ (by omega) (by omega) dX6_passOn_119
            refine ⟨rI ?_, ?_⟩
            · first
              | (rw [if_neg c33]; done)
              | (rw [if_pos c33]; unfold v_passOn; rfl)
            · unfold n_passOn
              first
              | (rw [if_neg c33]; exact hM)
              | (rw [if_pos c33]; exact hM)
          · have w6 := w6 (by omega)
            refine j_iload C dX6_passOn_52 rfl ?_
            refine j_iload_n C dX6_passOn_54 rfl ?_
            refine j_icmp_eq (tgt := 112) C dX6_passOn_55 (by decide) (by unfold rg at *; omega) (by unfold rg at *; omega) (fun c55 => ?_) (fun c55 => ?_)
            · refine j_iinc C dX6_passOn_112 rfl (by decide) ?_
              refine j_goto (tgt := 43) C dX6_passOn_115 (by decide) ?_
              have e9 : sumI (fun k : Nat => bN (poP M z k)) (i + 1) = sumI (fun k : Nat => bN (poP M z k)) i + bN (poP M z i) := rfl
              first
                | (have q : poP M z i = true := by unfold poP; exact decide_eq_true ⟨by omega, by omega, by omega, by omega⟩
                   have ihk := ih (i + 1) S (by omega) (by omega) (by
                     rw [show ((i + 1 : Nat) : Int) = (i : Int) + 1 from rfl]
                     unfold poC
                     rw [msetK_S (by omega)]
                     show RMF S0 S o B (mup _ 11 i (if poP M z i then z else M 11 i))
                     rw [if_pos q]
                     exact hM)
                   rw [e9, q] at ihk
                   refine J.lvs (lv' := [(0, .ref o), (1, .int (iN (z))), (3, .int (iN (sumI (fun k : Nat => bN (poP M z k)) i + 1))), (4, .int (iN (((i + 1 : Nat) : Int))))]) ?_ ?_
                   · intro q hq; simp only [List.mem_cons, List.not_mem_nil, or_false] at hq; rcases hq with rfl | rfl | rfl | rfl <;> rfl
                   · refine ihk)
                | (have q : poP M z i = false := by unfold poP; exact decide_eq_false (by omega)
                   have ihk := ih (i + 1) S (by omega) (by omega) (by
                     rw [show ((i + 1 : Nat) : Int) = (i : Int) + 1 from rfl]
                     unfold poC
                     rw [msetK_skip (by omega) (by show (if poP M z i then z else M 11 i) = M 11 i; rw [if_neg (by rw [q]; decide)])]
                     exact hM)
                   rw [e9, q, show bN false = 0 from rfl, Int.add_zero] at ihk
                   refine J.lvs (lv' := [(0, .ref o), (1, .int (iN (z))), (3, .int (iN (sumI (fun k : Nat => bN (poP M z k)) i))), (4, .int (iN (((i + 1 : Nat) : Int))))]) ?_ ?_
                   · intro q hq; simp only [List.mem_cons, List.not_mem_nil, or_false] at hq; rcases hq with rfl | rfl | rfl | rfl <;> rfl
                   · refine ihk)
            · refine j_aload_n C dX6_passOn_58 rfl ?_
              refine j_mgeta C hM fl_Mo_16 (by decide) dX6_passOn_59 ?_
              refine j_iload C dX6_passOn_62 rfl ?_
              refine j_mald C hM (by decide) rfl (by simp only [mLen]; omega) dX6_passOn_64 ?_
              refine j_aload_n C dX6_passOn_65 rfl ?_
              refine j_mgeta C hM fl_Mo_16 (by decide) dX6_passOn_66 ?_
              refine j_iload_n C dX6_passOn_69 rfl ?_
              refine j_mald C hM (by decide) rfl (by simp only [mLen]; omega) dX6_passOn_70 ?_
              refine j_icmp_ne (tgt := 112) C dX6_passOn_71 (by decide) (by unfold rg at *; omega) (by unfold rg at *; omega) (fun c71 => ?_) (fun c71 => ?_)
              · refine j_iinc C dX6_passOn_112 rfl (by decide) ?_
                refine j_goto (tgt := 43) C dX6_passOn_115 (by decide) ?_
                have e9 : sumI (fun k : Nat => bN (poP M z k)) (i + 1) = sumI (fun k : Nat => bN (poP M z k)) i + bN (poP M z i) := rfl
                first
                  | (have q : poP M z i = true := by unfold poP; exact decide_eq_true ⟨by omega, by omega, by omega, by omega⟩
                     have ihk := ih (i + 1) S (by omega) (by omega) (by
                       rw [show ((i + 1 : Nat) : Int) = (i : Int) + 1 from rfl]
                       unfold poC
                       rw [msetK_S (by omega)]
                       show RMF S0 S o B (mup _ 11 i (if poP M z i then z else M 11 i))
                       rw [if_pos q]
                       exact hM)
                     rw [e9, q] at ihk
                     refine J.lvs (lv' := [(0, .ref o), (1, .int (iN (z))), (3, .int (iN (sumI (fun k : Nat => bN (poP M z k)) i + 1))), (4, .int (iN (((i + 1 : Nat) : Int))))]) ?_ ?_
                     · intro q hq; simp only [List.mem_cons, List.not_mem_nil, or_false] at hq; rcases hq with rfl | rfl | rfl | rfl <;> rfl
                     · refine ihk)
                  | (have q : poP M z i = false := by unfold poP; exact decide_eq_false (by omega)
                     have ihk := ih (i + 1) S (by omega) (by omega) (by
                       rw [show ((i + 1 : Nat) : Int) = (i : Int) + 1 from rfl]
                       unfold poC
                       rw [msetK_skip (by omega) (by show (if poP M z i then z else M 11 i) = M 11 i; rw [if_neg (by rw [q]; decide)])]
                       exact hM)
                     rw [e9, q, show bN false = 0 from rfl, Int.add_zero] at ihk
                     refine J.lvs (lv' := [(0, .ref o), (1, .int (iN (z))), (3, .int (iN (sumI (fun k : Nat => bN (poP M z k)) i))), (4, .int (iN (((i + 1 : Nat) : Int))))]) ?_ ?_
                     · intro q hq; simp only [List.mem_cons, List.not_mem_nil, or_false] at hq; rcases hq with rfl | rfl | rfl | rfl <;> rfl
                     · refine ihk)
              · refine j_aload_n C dX6_passOn_74 rfl ?_
                refine j_mgeta C hM fl_Mo_22 (by decide) dX6_passOn_75 ?_
                refine j_iload C dX6_passOn_78 rfl ?_
                refine j_mald C hM (by decide) rfl (by simp only [mLen]; omega) dX6_passOn_80 ?_
                refine j_aload_n C dX6_passOn_81 rfl ?_
                refine j_mgeta C hM fl_Mo_22 (by decide) dX6_passOn_82 ?_
                refine j_iload_n C dX6_passOn_85 rfl ?_
                refine j_mald C hM (by decide) rfl (by simp only [mLen]; omega) dX6_passOn_86 ?_
                refine j_icmp_ne (tgt := 112) C dX6_passOn_87 (by decide) (by unfold rg at *; omega) (by unfold rg at *; omega) (fun c87 => ?_) (fun c87 => ?_)
                · refine j_iinc C dX6_passOn_112 rfl (by decide) ?_
                  refine j_goto (tgt := 43) C dX6_passOn_115 (by decide) ?_
                  have e9 : sumI (fun k : Nat => bN (poP M z k)) (i + 1) = sumI (fun k : Nat => bN (poP M z k)) i + bN (poP M z i) := rfl
                  first
                    | (have q : poP M z i = true := by unfold poP; exact decide_eq_true ⟨by omega, by omega, by omega, by omega⟩
                       have ihk := ih (i + 1) S (by omega) (by omega) (by
                         rw [show ((i + 1 : Nat) : Int) = (i : Int) + 1 from rfl]
                         unfold poC
                         rw [msetK_S (by omega)]
                         show RMF S0 S o B (mup _ 11 i (if poP M z i then z else M 11 i))
                         rw [if_pos q]
                         exact hM)
                       rw [e9, q] at ihk
                       refine J.lvs (lv' := [(0, .ref o), (1, .int (iN (z))), (3, .int (iN (sumI (fun k : Nat => bN (poP M z k)) i + 1))), (4, .int (iN (((i + 1 : Nat) : Int))))]) ?_ ?_
                       · intro q hq; simp only [List.mem_cons, List.not_mem_nil, or_false] at hq; rcases hq with rfl | rfl | rfl | rfl <;> rfl
                       · refine ihk)
                    | (have q : poP M z i = false := by unfold poP; exact decide_eq_false (by omega)
                       have ihk := ih (i + 1) S (by omega) (by omega) (by
                         rw [show ((i + 1 : Nat) : Int) = (i : Int) + 1 from rfl]
                         unfold poC
                         rw [msetK_skip (by omega) (by show (if poP M z i then z else M 11 i) = M 11 i; rw [if_neg (by rw [q]; decide)])]
                         exact hM)
                       rw [e9, q, show bN false = 0 from rfl, Int.add_zero] at ihk
                       refine J.lvs (lv' := [(0, .ref o), (1, .int (iN (z))), (3, .int (iN (sumI (fun k : Nat => bN (poP M z k)) i))), (4, .int (iN (((i + 1 : Nat) : Int))))]) ?_ ?_
                       · intro q hq; simp only [List.mem_cons, List.not_mem_nil, or_false] at hq; rcases hq with rfl | rfl | rfl | rfl <;> rfl
                       · refine ihk)
                · refine j_aload_n C dX6_passOn_90 rfl ?_
                  refine j_mgeta C hM fl_Mo_34 (by decide) dX6_passOn_91 ?_
                  refine j_iload C dX6_passOn_94 rfl ?_
                  refine j_mald C hM (by decide) rfl (by simp only [mLen]; omega) dX6_passOn_96 ?_
                  refine j_iconst C dX6_passOn_97 ?_
                  refine j_icmp_ne (tgt := 112) C dX6_passOn_98 (by decide) (by unfold rg at *; omega) (by unfold rg at *; omega) (fun c98 => ?_) (fun c98 => ?_)
                  · refine j_iinc C dX6_passOn_112 rfl (by decide) ?_
                    refine j_goto (tgt := 43) C dX6_passOn_115 (by decide) ?_
                    have e9 : sumI (fun k : Nat => bN (poP M z k)) (i + 1) = sumI (fun k : Nat => bN (poP M z k)) i + bN (poP M z i) := rfl
                    first
                      | (have q : poP M z i = true := by unfold poP; exact decide_eq_true ⟨by omega, by omega, by omega, by omega⟩
                         have ihk := ih (i + 1) S (by omega) (by omega) (by
                           rw [show ((i + 1 : Nat) : Int) = (i : Int) + 1 from rfl]
                           unfold poC
                           rw [msetK_S (by omega)]
                           show RMF S0 S o B (mup _ 11 i (if poP M z i then z else M 11 i))
                           rw [if_pos q]
                           exact hM)
                         rw [e9, q] at ihk
                         refine J.lvs (lv' := [(0, .ref o), (1, .int (iN (z))), (3, .int (iN (sumI (fun k : Nat => bN (poP M z k)) i + 1))), (4, .int (iN (((i + 1 : Nat) : Int))))]) ?_ ?_
                         · intro q hq; simp only [List.mem_cons, List.not_mem_nil, or_false] at hq; rcases hq with rfl | rfl | rfl | rfl <;> rfl
                         · refine ihk)
                      | (have q : poP M z i = false := by unfold poP; exact decide_eq_false (by omega)
                         have ihk := ih (i + 1) S (by omega) (by omega) (by
                           rw [show ((i + 1 : Nat) : Int) = (i : Int) + 1 from rfl]
                           unfold poC
                           rw [msetK_skip (by omega) (by show (if poP M z i then z else M 11 i) = M 11 i; rw [if_neg (by rw [q]; decide)])]
                           exact hM)
                         rw [e9, q, show bN false = 0 from rfl, Int.add_zero] at ihk
                         refine J.lvs (lv' := [(0, .ref o), (1, .int (iN (z))), (3, .int (iN (sumI (fun k : Nat => bN (poP M z k)) i))), (4, .int (iN (((i + 1 : Nat) : Int))))]) ?_ ?_
                         · intro q hq; simp only [List.mem_cons, List.not_mem_nil, or_false] at hq; rcases hq with rfl | rfl | rfl | rfl <;> rfl
                         · refine ihk)
                  · refine j_aload_n C dX6_passOn_101 rfl ?_
                    refine j_mgeta C hM fl_Mo_37 (by decide) dX6_passOn_102 ?_
                    refine j_iload C dX6_passOn_105 rfl ?_
                    refine j_iload_n C dX6_passOn_107 rfl ?_
                    refine j_mast C hM (by decide) rfl (by simp only [mLen]; omega) dX6_passOn_108 (fun S hM => ?_)
                    refine j_iinc C dX6_passOn_109 rfl (by decide) ?_
                    refine j_iinc C dX6_passOn_112 rfl (by decide) ?_
                    refine j_goto (tgt := 43) C dX6_passOn_115 (by decide) ?_
                    have e9 : sumI (fun k : Nat => bN (poP M z k)) (i + 1) = sumI (fun k : Nat => bN (poP M z k)) i + bN (poP M z i) := rfl
                    first
                      | (have q : poP M z i = true := by unfold poP; exact decide_eq_true ⟨by omega, by omega, by omega, by omega⟩
                         have ihk := ih (i + 1) S (by omega) (by omega) (by
                           rw [show ((i + 1 : Nat) : Int) = (i : Int) + 1 from rfl]
                           unfold poC
                           rw [msetK_S (by omega)]
                           show RMF S0 S o B (mup _ 11 i (if poP M z i then z else M 11 i))
                           rw [if_pos q]
                           exact hM)
                         rw [e9, q] at ihk
                         refine J.lvs (lv' := [(0, .ref o), (1, .int (iN (z))), (3, .int (iN (sumI (fun k : Nat => bN (poP M z k)) i + 1))), (4, .int (iN (((i + 1 : Nat) : Int))))]) ?_ ?_
                         · intro q hq; simp only [List.mem_cons, List.not_mem_nil, or_false] at hq; rcases hq with rfl | rfl | rfl | rfl <;> rfl
                         · refine ihk)
                      | (have q : poP M z i = false := by unfold poP; exact decide_eq_false (by omega)
                         have ihk := ih (i + 1) S (by omega) (by omega) (by
                           rw [show ((i + 1 : Nat) : Int) = (i : Int) + 1 from rfl]
                           unfold poC
                           rw [msetK_skip (by omega) (by show (if poP M z i then z else M 11 i) = M 11 i; rw [if_neg (by rw [q]; decide)])]
                           exact hM)
                         rw [e9, q, show bN false = 0 from rfl, Int.add_zero] at ihk
                         refine J.lvs (lv' := [(0, .ref o), (1, .int (iN (z))), (3, .int (iN (sumI (fun k : Nat => bN (poP M z k)) i))), (4, .int (iN (((i + 1 : Nat) : Int))))]) ?_ ?_
                         · intro q hq; simp only [List.mem_cons, List.not_mem_nil, or_false] at hq; rcases hq with rfl | rfl | rfl | rfl <;> rfl
                         · refine ihk)
      refine J.lvs (lv' := [(0, .ref o), (1, .int (iN (z))), (3, .int (iN (sumI (fun k : Nat => bN (poP M z k)) 0))), (4, .int (iN (((0 : Nat) : Int))))]) ?_ ?_
      · intro q hq; simp only [List.mem_cons, List.not_mem_nil, or_false] at hq; rcases hq with rfl | rfl | rfl | rfl <;> rfl
      · exact key2 ((M 12 0).toNat + 1) 0 S (by omega) (by omega) (by unfold poC; rw [msetK_0 (by omega)]; exact hM)
    · try simp only [decide_eq_true_eq, decide_eq_false_iff_not] at c33
      try simp only [decide_eq_true_eq, decide_eq_false_iff_not] at c33
      refine j_iconst C dX6_passOn_36 ?_
      refine j_iret C ME ?_ (by omega) (by omega) dX6_passOn_37
      refine ⟨rI ?_, ?_⟩
      · first
        | (rw [if_neg c33]; done)
        | (rw [if_pos c33]; unfold v_passOn; rfl)
      · unfold n_passOn
        first
        | (rw [if_neg c33]; exact hM)
        | (rw [if_pos c33]; exact hM)
  refine j_aload_n C dX6_passOn_0 rfl ?_
  refine j_iload_n C dX6_passOn_1 rfl ?_
  refine j_mcall C hM (c_isShot l hfl (by unfold rg at *; omega) (by omega)) cal_X6_isShot vi_X6_isShot rfl ml_Mo_121 rfl rfl (Nat.le_of_ble_eq_true rfl) ⟨by decide, by decide⟩ ⟨by omega, by omega⟩ dX6_passOn_2 (fun S hM => ?_)
  refine j_istore_n C dX6_passOn_5 (by decide) ?_
  refine j_aload_n C dX6_passOn_6 rfl ?_
  refine j_iload_n C dX6_passOn_7 rfl ?_
  refine j_ifne_b (tgt := 15) C dX6_passOn_8 (by decide) (fun c8 => ?_) (fun c8 => ?_)
  · try simp only [decide_eq_true_eq, decide_eq_false_iff_not] at c8
    have w2 := i2 z (by omega) (by omega)
    refine j_aload_n C dX6_passOn_15 rfl ?_
    refine j_mgeta C hM fl_Mo_34 (by decide) dX6_passOn_16 ?_
    refine j_iload_n C dX6_passOn_19 rfl ?_
    refine j_mald C hM (by decide) rfl (by simp only [mLen]; omega) dX6_passOn_20 ?_
    refine j_iconst C dX6_passOn_21 ?_
    refine j_icmp_ne (tgt := 29) C dX6_passOn_22 (by decide) (by unfold rg at *; omega) (by unfold rg at *; omega) (fun c22 => ?_) (fun c22 => ?_)
    · refine j_iconst C dX6_passOn_29 ?_
      refine J.lvs (lv' := [(0, .ref o), (1, .int (iN (z)))]) ?_ ?_
      · intro q hq; simp only [List.mem_cons, List.not_mem_nil, or_false] at hq; rcases hq with rfl | rfl <;> rfl
      · refine key _ _ (by clear I i1 i2 i3 i3e i4 i4e i5 i6 i7 i8 i10 i11; (try clear key); (try clear key2); (try clear ih); (try clear w5); (try clear w11); (try clear w2); (try clear w3); (try clear w4); (try clear w6); (try clear w7); (try clear w8); (try clear w9); (try clear p4); (try clear o4); (try simp only [decide_eq_true_eq, decide_eq_false_iff_not] at *); unfold x_passOn; (repeat' split) <;> first | rfl | omega | (simp_all; done) | (simp_all; omega)) hM
    · refine j_iconst C dX6_passOn_25 ?_
      refine j_goto (tgt := 30) C dX6_passOn_26 (by decide) ?_
      refine J.lvs (lv' := [(0, .ref o), (1, .int (iN (z)))]) ?_ ?_
      · intro q hq; simp only [List.mem_cons, List.not_mem_nil, or_false] at hq; rcases hq with rfl | rfl <;> rfl
      · refine key _ _ (by clear I i1 i2 i3 i3e i4 i4e i5 i6 i7 i8 i10 i11; (try clear key); (try clear key2); (try clear ih); (try clear w5); (try clear w11); (try clear w2); (try clear w3); (try clear w4); (try clear w6); (try clear w7); (try clear w8); (try clear w9); (try clear p4); (try clear o4); (try simp only [decide_eq_true_eq, decide_eq_false_iff_not] at *); unfold x_passOn; (repeat' split) <;> first | rfl | omega | (simp_all; done) | (simp_all; omega)) hM
  · try simp only [decide_eq_true_eq, decide_eq_false_iff_not] at c8
    refine j_iconst C dX6_passOn_11 ?_
    refine j_goto (tgt := 30) C dX6_passOn_12 (by decide) ?_
    refine J.lvs (lv' := [(0, .ref o), (1, .int (iN (z)))]) ?_ ?_
    · intro q hq; simp only [List.mem_cons, List.not_mem_nil, or_false] at hq; rcases hq with rfl | rfl <;> rfl
    · refine key _ _ (by clear I i1 i2 i3 i3e i4 i4e i5 i6 i7 i8 i10 i11; (try clear key); (try clear key2); (try clear ih); (try clear w5); (try clear w11); (try clear w2); (try clear w3); (try clear w4); (try clear w6); (try clear w7); (try clear w8); (try clear w9); (try clear p4); (try clear o4); (try simp only [decide_eq_true_eq, decide_eq_false_iff_not] at *); unfold x_passOn; (repeat' split) <;> first | rfl | omega | (simp_all; done) | (simp_all; omega)) hM

set_option maxHeartbeats 4000000 in
set_option maxRecDepth 100000 in
theorem m_addVersion (l : Launch) (hfl : l.stackTraces = false) {M : wM} {f a : Int} (h_f : rg f)  (h_a : rg a) (I : Inv M) : MC l yX6_addVersion cX6_addVersion 6 (some FieldType.int) 4 [.int (iN f), .int (iN a)] M (.inl (some (.int (iN (if x_addVersion M f a = 0 then v_addVersion M f a else 0))))) (n_addVersion M f a) := by
  intro S0 o B hM0
  refine Ct.of cal_X6_addVersion hfl (Nat.le_of_ble_eq_true rfl) ?_
  intro p e s m args below meth c D sz C ME
  have hM : RMF S0 S0 o B M := ⟨hM0, mF.rf⟩
  have I9 := I
  obtain ⟨i1, i2, i3, i3e, i4, i4e, i5, i6, i7, i8, i10, i11⟩ := I9
  obtain ⟨a1, a2, a3, a4, a5, a6, a7⟩ := id i1
  have key : ∀ (x : Int) (S : wS), x = x_addVersion M f a → RMF S0 S o B M → J p l e { frames := 20 * 4, cells := 0, slots := 0, locals := 200 * 4 } s m args below meth c 6 D (wA S0 sz) (wQ below D sz S0 (fun r9 S9 => r9 = .inl (some (.int (iN (if x_addVersion M f a = 0 then v_addVersion M f a else 0)))) ∧ RMF S0 S9 o B (n_addVersion M f a)) args s 0 0) 107 [(0, .ref o), (1, .int (iN (f))), (2, .int (iN (a)))] [.int (iN x), .ref o] S 0 0 := by
    intro x S hx hM
    subst hx
    refine j_mcall C hM (c_goesOn l hfl (by unfold x_addVersion; (repeat' split) <;> (unfold rg; omega))) cal_X6_goesOn vi_X6_goesOn rfl ml_Mo_103 rfl rfl (Nat.le_of_ble_eq_true rfl) ⟨by decide, by decide⟩ ⟨by omega, by omega⟩ dX6_addVersion_107 (fun S hM => ?_)
    refine j_ifne_b (tgt := 115) C dX6_addVersion_110 (by decide) (fun c110 => ?_) (fun c110 => ?_)
    · try simp only [decide_eq_true_eq, decide_eq_false_iff_not] at c110
      try simp only [decide_eq_true_eq, decide_eq_false_iff_not] at c110
      have ok : (0 ≤ f ∧ f < M 1 0) ∧ (0 ≤ a ∧ a ≤ 7) ∧ M 21 0 < 10 := by
        clear I i1 i2 i3 i3e i4 i4e i5 i6 i7 i8 i10 i11; (try clear key); (try clear key2); (try clear ih); (try clear w5); (try clear w11); (try clear w2); (try clear w3); (try clear w4); (try clear w6); (try clear w7); (try clear w8); (try clear w9); (try clear p4); (try clear o4); unfold x_addVersion at c110
        (repeat' split at c110) <;> first | rfl | omega | (simp_all; done) | (simp_all; omega)
      
      refine j_aload_n C dX6_addVersion_115 rfl ?_
      refine j_mgeta C hM fl_Mo_56 (by decide) dX6_addVersion_116 ?_
      refine j_aload_n C dX6_addVersion_119 rfl ?_
      refine j_mgeti C hM fl_Mo_97 ⟨by decide, rfl⟩ dX6_addVersion_120 ?_
      refine j_iload_n C dX6_addVersion_123 rfl ?_
      refine j_mast C hM (by decide) rfl (show 0 ≤ M 21 0 ∧ M 21 0 < ((10 : Nat) : Int) by omega) dX6_addVersion_124 (fun S hM => ?_)
      refine j_aload_n C dX6_addVersion_125 rfl ?_
      refine j_mgeta C hM fl_Mo_59 (by decide) dX6_addVersion_126 ?_
      refine j_aload_n C dX6_addVersion_129 rfl ?_
      refine j_mgeti C hM fl_Mo_97 ⟨by decide, rfl⟩ dX6_addVersion_130 ?_
      refine j_iload_n C dX6_addVersion_133 rfl ?_
      refine j_mast C hM (by decide) rfl (show 0 ≤ M 21 0 ∧ M 21 0 < ((10 : Nat) : Int) by omega) dX6_addVersion_134 (fun S hM => ?_)
      refine j_aload_n C dX6_addVersion_135 rfl ?_
      refine j_dup C dX6_addVersion_136 rfl ?_
      refine j_mgeti C hM fl_Mo_97 ⟨by decide, rfl⟩ dX6_addVersion_137 ?_
      refine j_iconst C dX6_addVersion_140 ?_
      refine j_iadd C dX6_addVersion_141 ?_
      refine j_mputi C hM fl_Mo_97 ⟨by decide, rfl⟩ dX6_addVersion_142 (fun S hM => ?_)
      refine j_aload_n C dX6_addVersion_145 rfl ?_
      refine j_mgeti C hM fl_Mo_97 ⟨by decide, rfl⟩ dX6_addVersion_146 ?_
      refine j_iconst C dX6_addVersion_149 ?_
      refine j_isub C dX6_addVersion_150 ?_
      refine j_iret C ME ?_ (by omega) (by omega) dX6_addVersion_151
      refine ⟨rI ?_, ?_⟩
      · first
        | (rw [if_neg c110]; done)
        | (rw [if_pos c110]; unfold v_addVersion; show M 21 0 + 1 - 1 = M 21 0; omega)
      · unfold n_addVersion
        first
        | (rw [if_neg c110]; exact hM)
        | (rw [if_pos c110]; exact hM)
    · try simp only [decide_eq_true_eq, decide_eq_false_iff_not] at c110
      try simp only [decide_eq_true_eq, decide_eq_false_iff_not] at c110
      refine j_iconst C dX6_addVersion_113 ?_
      refine j_iret C ME ?_ (by omega) (by omega) dX6_addVersion_114
      refine ⟨rI ?_, ?_⟩
      · first
        | (rw [if_neg c110]; done)
        | (rw [if_pos c110]; unfold v_addVersion; show M 21 0 + 1 - 1 = M 21 0; omega)
      · unfold n_addVersion
        first
        | (rw [if_neg c110]; exact hM)
        | (rw [if_pos c110]; exact hM)
  refine j_aload_n C dX6_addVersion_0 rfl ?_
  refine j_iload_n C dX6_addVersion_1 rfl ?_
  refine j_mcall C hM (c_isFilm l hfl (by unfold rg at *; omega) (by omega)) cal_X6_isFilm vi_X6_isFilm rfl ml_Mo_107 rfl rfl (Nat.le_of_ble_eq_true rfl) ⟨by decide, by decide⟩ ⟨by omega, by omega⟩ dX6_addVersion_2 (fun S hM => ?_)
  refine j_istore_n C dX6_addVersion_5 (by decide) ?_
  refine j_iconst C dX6_addVersion_6 ?_
  refine j_istore C dX6_addVersion_7 (by decide) ?_
  refine j_iconst C dX6_addVersion_9 ?_
  refine j_istore C dX6_addVersion_10 (by decide) ?_
  have key2 : ∀ (fuel : Nat) (i : Nat) (b : Bool) (S : wS), M 21 0 - i < fuel → (i : Int) ≤ M 21 0 → b = hasV M f a i → RMF S0 S o B M → J p l e { frames := 20 * 4, cells := 0, slots := 0, locals := 200 * 4 } s m args below meth c 6 D (wA S0 sz) (wQ below D sz S0 (fun r9 S9 => r9 = .inl (some (.int (iN (if x_addVersion M f a = 0 then v_addVersion M f a else 0)))) ∧ RMF S0 S9 o B (n_addVersion M f a)) args s 0 0) 12 [(0, .ref o), (1, .int (iN (f))), (2, .int (iN (a))), (3, .int (iN (bN (decide (0 ≤ f ∧ f < M 1 0))))), (4, .int (iN (bN b))), (5, .int (iN (i)))] [] S 0 0 := by
    intro fuel
    induction fuel with
    | zero => intro i b S h1 h2 hb hM; omega
    | succ fuel ih =>
      intro i b S h1 h2 hb hM
      have w6 := fun (h : (i : Int) < 10) => i6 i (by omega) h
      have e9 : hasV M f a (i + 1) = (hasV M f a i || decide (M 19 i = f ∧ M 20 i = a)) := rfl
      refine j_iload C dX6_addVersion_12 rfl ?_
      refine j_aload_n C dX6_addVersion_14 rfl ?_
      refine j_mgeti C hM fl_Mo_97 ⟨by decide, rfl⟩ dX6_addVersion_15 ?_
      refine j_icmp_ge (tgt := 61) C dX6_addVersion_18 (by decide) (by unfold rg at *; omega) (by unfold rg at *; omega) (fun c18 => ?_) (fun c18 => ?_)
      · have ei : i = (M 21 0).toNat := by omega
        subst ei
        refine j_aload_n C dX6_addVersion_61 rfl ?_
        refine j_iload_n C dX6_addVersion_62 rfl ?_
        refine j_ifne_b (tgt := 70) C dX6_addVersion_63 (by decide) (fun c63 => ?_) (fun c63 => ?_)
        · try simp only [decide_eq_true_eq, decide_eq_false_iff_not] at c63
          refine j_iload_n C dX6_addVersion_70 rfl ?_
          refine j_iconst C dX6_addVersion_71 ?_
          refine j_bipush C dX6_addVersion_72 (by decide) ?_
          refine j_callS C (c_in l hfl (by unfold rg at *; omega) (by unfold rg; omega) (by unfold rg; omega)) cal_X6_in st_X6_in ml_Mo_87 rfl rfl (Nat.le_of_ble_eq_true rfl) ⟨by decide, by decide⟩ ⟨by omega, by omega⟩ dX6_addVersion_74 (fun E S9 h => nomatch h.1) (fun v9 S9 h => ?_)
          obtain ⟨h, h9⟩ := h
          have h9 := h9.symm
          subst h9
          cases h
          refine j_ifne_b (tgt := 84) C dX6_addVersion_77 (by decide) (fun c77 => ?_) (fun c77 => ?_)
          · try simp only [decide_eq_true_eq, decide_eq_false_iff_not] at c77
            refine j_iload C dX6_addVersion_84 rfl ?_
            refine j_ifeq_b (tgt := 93) C dX6_addVersion_86 (by decide) (fun c86 => ?_) (fun c86 => ?_)
            · try simp only [decide_eq_true_eq, decide_eq_false_iff_not] at c86
              refine j_aload_n C dX6_addVersion_93 rfl ?_
              refine j_mgeti C hM fl_Mo_97 ⟨by decide, rfl⟩ dX6_addVersion_94 ?_
              refine j_bipush C dX6_addVersion_97 (by decide) ?_
              refine j_icmp_ne (tgt := 106) C dX6_addVersion_99 (by decide) (by unfold rg at *; omega) (by unfold rg at *; omega) (fun c99 => ?_) (fun c99 => ?_)
              · refine j_iconst C dX6_addVersion_106 ?_
                refine J.lvs (lv' := [(0, .ref o), (1, .int (iN (f))), (2, .int (iN (a)))]) ?_ ?_
                · intro q hq; simp only [List.mem_cons, List.not_mem_nil, or_false] at hq; rcases hq with rfl | rfl | rfl <;> rfl
                · refine key _ _ (by clear I i1 i2 i3 i3e i4 i4e i5 i6 i7 i8 i10 i11; (try clear key); (try clear key2); (try clear ih); (try clear w5); (try clear w11); (try clear w2); (try clear w3); (try clear w4); (try clear w6); (try clear w7); (try clear w8); (try clear w9); (try clear p4); (try clear o4); (try simp only [decide_eq_true_eq, decide_eq_false_iff_not] at *); unfold x_addVersion; (repeat' split) <;> first | rfl | omega | (simp_all; done) | (simp_all; omega)) hM
              · refine j_iconst C dX6_addVersion_102 ?_
                refine j_goto (tgt := 107) C dX6_addVersion_103 (by decide) ?_
                refine J.lvs (lv' := [(0, .ref o), (1, .int (iN (f))), (2, .int (iN (a)))]) ?_ ?_
                · intro q hq; simp only [List.mem_cons, List.not_mem_nil, or_false] at hq; rcases hq with rfl | rfl | rfl <;> rfl
                · refine key _ _ (by clear I i1 i2 i3 i3e i4 i4e i5 i6 i7 i8 i10 i11; (try clear key); (try clear key2); (try clear ih); (try clear w5); (try clear w11); (try clear w2); (try clear w3); (try clear w4); (try clear w6); (try clear w7); (try clear w8); (try clear w9); (try clear p4); (try clear o4); (try simp only [decide_eq_true_eq, decide_eq_false_iff_not] at *); unfold x_addVersion; (repeat' split) <;> first | rfl | omega | (simp_all; done) | (simp_all; omega)) hM
            · try simp only [decide_eq_true_eq, decide_eq_false_iff_not] at c86
              refine j_iconst C dX6_addVersion_89 ?_
              refine j_goto (tgt := 107) C dX6_addVersion_90 (by decide) ?_
              refine J.lvs (lv' := [(0, .ref o), (1, .int (iN (f))), (2, .int (iN (a)))]) ?_ ?_
              · intro q hq; simp only [List.mem_cons, List.not_mem_nil, or_false] at hq; rcases hq with rfl | rfl | rfl <;> rfl
              · refine key _ _ (by clear I i1 i2 i3 i3e i4 i4e i5 i6 i7 i8 i10 i11; (try clear key); (try clear key2); (try clear ih); (try clear w5); (try clear w11); (try clear w2); (try clear w3); (try clear w4); (try clear w6); (try clear w7); (try clear w8); (try clear w9); (try clear p4); (try clear o4); (try simp only [decide_eq_true_eq, decide_eq_false_iff_not] at *); unfold x_addVersion; (repeat' split) <;> first | rfl | omega | (simp_all; done) | (simp_all; omega)) hM
          · try simp only [decide_eq_true_eq, decide_eq_false_iff_not] at c77
            refine j_iconst C dX6_addVersion_80 ?_
            refine j_goto (tgt := 107) C dX6_addVersion_81 (by decide) ?_
            refine J.lvs (lv' := [(0, .ref o), (1, .int (iN (f))), (2, .int (iN (a)))]) ?_ ?_
            · intro q hq; simp only [List.mem_cons, List.not_mem_nil, or_false] at hq; rcases hq with rfl | rfl | rfl <;> rfl
            · refine key _ _ (by clear I i1 i2 i3 i3e i4 i4e i5 i6 i7 i8 i10 i11; (try clear key); (try clear key2); (try clear ih); (try clear w5); (try clear w11); (try clear w2); (try clear w3); (try clear w4); (try clear w6); (try clear w7); (try clear w8); (try clear w9); (try clear p4); (try clear o4); (try simp only [decide_eq_true_eq, decide_eq_false_iff_not] at *); unfold x_addVersion; (repeat' split) <;> first | rfl | omega | (simp_all; done) | (simp_all; omega)) hM
        · try simp only [decide_eq_true_eq, decide_eq_false_iff_not] at c63
          refine j_iconst C dX6_addVersion_66 ?_
          refine j_goto (tgt := 107) C dX6_addVersion_67 (by decide) ?_
          refine J.lvs (lv' := [(0, .ref o), (1, .int (iN (f))), (2, .int (iN (a)))]) ?_ ?_
          · intro q hq; simp only [List.mem_cons, List.not_mem_nil, or_false] at hq; rcases hq with rfl | rfl | rfl <;> rfl
          · refine key _ _ (by clear I i1 i2 i3 i3e i4 i4e i5 i6 i7 i8 i10 i11; (try clear key); (try clear key2); (try clear ih); (try clear w5); (try clear w11); (try clear w2); (try clear w3); (try clear w4); (try clear w6); (try clear w7); (try clear w8); (try clear w9); (try clear p4); (try clear o4); (try simp only [decide_eq_true_eq, decide_eq_false_iff_not] at *); unfold x_addVersion; (repeat' split) <;> first | rfl | omega | (simp_all; done) | (simp_all; omega)) hM
      · have w6 := w6 (by omega)
        refine j_iload C dX6_addVersion_21 rfl ?_
        refine j_ifne_b (tgt := 48) C dX6_addVersion_23 (by decide) (fun c23 => ?_) (fun c23 => ?_)
        · try simp only [decide_eq_true_eq, decide_eq_false_iff_not] at c23
          refine j_iconst C dX6_addVersion_48 ?_
          refine j_goto (tgt := 53) C dX6_addVersion_49 (by decide) ?_
          refine j_istore C dX6_addVersion_53 (by decide) ?_
          refine j_iinc C dX6_addVersion_55 rfl (by decide) ?_
          refine j_goto (tgt := 12) C dX6_addVersion_58 (by decide) ?_
          first
            | (refine J.lvs (lv' := [(0, .ref o), (1, .int (iN (f))), (2, .int (iN (a))), (3, .int (iN (bN (decide (0 ≤ f ∧ f < M 1 0))))), (4, .int (iN (bN true))), (5, .int (iN (((i + 1 : Nat) : Int))))]) ?_ ?_
               · intro q hq; simp only [List.mem_cons, List.not_mem_nil, or_false] at hq; rcases hq with rfl | rfl | rfl | rfl | rfl | rfl <;> rfl
               · refine ih (i + 1) true S (by omega) (by omega) ?_ hM
                 · rw [e9, ← hb]; clear hb ih key; simp [*])
            | (refine J.lvs (lv' := [(0, .ref o), (1, .int (iN (f))), (2, .int (iN (a))), (3, .int (iN (bN (decide (0 ≤ f ∧ f < M 1 0))))), (4, .int (iN (bN false))), (5, .int (iN (((i + 1 : Nat) : Int))))]) ?_ ?_
               · intro q hq; simp only [List.mem_cons, List.not_mem_nil, or_false] at hq; rcases hq with rfl | rfl | rfl | rfl | rfl | rfl <;> rfl
               · refine ih (i + 1) false S (by omega) (by omega) ?_ hM
                 · rw [e9, ← hb]; clear hb ih key; simp [*])
        · try simp only [decide_eq_true_eq, decide_eq_false_iff_not] at c23
          refine j_aload_n C dX6_addVersion_26 rfl ?_
          refine j_mgeta C hM fl_Mo_56 (by decide) dX6_addVersion_27 ?_
          refine j_iload C dX6_addVersion_30 rfl ?_
          refine j_mald C hM (by decide) rfl (by simp only [mLen]; omega) dX6_addVersion_32 ?_
          refine j_iload_n C dX6_addVersion_33 rfl ?_
          refine j_icmp_ne (tgt := 52) C dX6_addVersion_34 (by decide) (by unfold rg at *; omega) (by unfold rg at *; omega) (fun c34 => ?_) (fun c34 => ?_)
          · refine j_iconst C dX6_addVersion_52 ?_
            refine j_istore C dX6_addVersion_53 (by decide) ?_
            refine j_iinc C dX6_addVersion_55 rfl (by decide) ?_
            refine j_goto (tgt := 12) C dX6_addVersion_58 (by decide) ?_
            first
              | (refine J.lvs (lv' := [(0, .ref o), (1, .int (iN (f))), (2, .int (iN (a))), (3, .int (iN (bN (decide (0 ≤ f ∧ f < M 1 0))))), (4, .int (iN (bN true))), (5, .int (iN (((i + 1 : Nat) : Int))))]) ?_ ?_
                 · intro q hq; simp only [List.mem_cons, List.not_mem_nil, or_false] at hq; rcases hq with rfl | rfl | rfl | rfl | rfl | rfl <;> rfl
                 · refine ih (i + 1) true S (by omega) (by omega) ?_ hM
                   · rw [e9, ← hb]; clear hb ih key; simp [*])
              | (refine J.lvs (lv' := [(0, .ref o), (1, .int (iN (f))), (2, .int (iN (a))), (3, .int (iN (bN (decide (0 ≤ f ∧ f < M 1 0))))), (4, .int (iN (bN false))), (5, .int (iN (((i + 1 : Nat) : Int))))]) ?_ ?_
                 · intro q hq; simp only [List.mem_cons, List.not_mem_nil, or_false] at hq; rcases hq with rfl | rfl | rfl | rfl | rfl | rfl <;> rfl
                 · refine ih (i + 1) false S (by omega) (by omega) ?_ hM
                   · rw [e9, ← hb]; clear hb ih key; simp [*])
          · refine j_aload_n C dX6_addVersion_37 rfl ?_
            refine j_mgeta C hM fl_Mo_59 (by decide) dX6_addVersion_38 ?_
            refine j_iload C dX6_addVersion_41 rfl ?_
            refine j_mald C hM (by decide) rfl (by simp only [mLen]; omega) dX6_addVersion_43 ?_
            refine j_iload_n C dX6_addVersion_44 rfl ?_
            refine j_icmp_ne (tgt := 52) C dX6_addVersion_45 (by decide) (by unfold rg at *; omega) (by unfold rg at *; omega) (fun c45 => ?_) (fun c45 => ?_)
            · refine j_iconst C dX6_addVersion_52 ?_
              refine j_istore C dX6_addVersion_53 (by decide) ?_
              refine j_iinc C dX6_addVersion_55 rfl (by decide) ?_
              refine j_goto (tgt := 12) C dX6_addVersion_58 (by decide) ?_
              first
                | (refine J.lvs (lv' := [(0, .ref o), (1, .int (iN (f))), (2, .int (iN (a))), (3, .int (iN (bN (decide (0 ≤ f ∧ f < M 1 0))))), (4, .int (iN (bN true))), (5, .int (iN (((i + 1 : Nat) : Int))))]) ?_ ?_
                   · intro q hq; simp only [List.mem_cons, List.not_mem_nil, or_false] at hq; rcases hq with rfl | rfl | rfl | rfl | rfl | rfl <;> rfl
                   · refine ih (i + 1) true S (by omega) (by omega) ?_ hM
                     · rw [e9, ← hb]; clear hb ih key; simp [*])
                | (refine J.lvs (lv' := [(0, .ref o), (1, .int (iN (f))), (2, .int (iN (a))), (3, .int (iN (bN (decide (0 ≤ f ∧ f < M 1 0))))), (4, .int (iN (bN false))), (5, .int (iN (((i + 1 : Nat) : Int))))]) ?_ ?_
                   · intro q hq; simp only [List.mem_cons, List.not_mem_nil, or_false] at hq; rcases hq with rfl | rfl | rfl | rfl | rfl | rfl <;> rfl
                   · refine ih (i + 1) false S (by omega) (by omega) ?_ hM
                     · rw [e9, ← hb]; clear hb ih key; simp [*])
            · refine j_iconst C dX6_addVersion_48 ?_
              refine j_goto (tgt := 53) C dX6_addVersion_49 (by decide) ?_
              refine j_istore C dX6_addVersion_53 (by decide) ?_
              refine j_iinc C dX6_addVersion_55 rfl (by decide) ?_
              refine j_goto (tgt := 12) C dX6_addVersion_58 (by decide) ?_
              first
                | (refine J.lvs (lv' := [(0, .ref o), (1, .int (iN (f))), (2, .int (iN (a))), (3, .int (iN (bN (decide (0 ≤ f ∧ f < M 1 0))))), (4, .int (iN (bN true))), (5, .int (iN (((i + 1 : Nat) : Int))))]) ?_ ?_
                   · intro q hq; simp only [List.mem_cons, List.not_mem_nil, or_false] at hq; rcases hq with rfl | rfl | rfl | rfl | rfl | rfl <;> rfl
                   · refine ih (i + 1) true S (by omega) (by omega) ?_ hM
                     · rw [e9, ← hb]; clear hb ih key; simp [*])
                | (refine J.lvs (lv' := [(0, .ref o), (1, .int (iN (f))), (2, .int (iN (a))), (3, .int (iN (bN (decide (0 ≤ f ∧ f < M 1 0))))), (4, .int (iN (bN false))), (5, .int (iN (((i + 1 : Nat) : Int))))]) ?_ ?_
                   · intro q hq; simp only [List.mem_cons, List.not_mem_nil, or_false] at hq; rcases hq with rfl | rfl | rfl | rfl | rfl | rfl <;> rfl
                   · refine ih (i + 1) false S (by omega) (by omega) ?_ hM
                     · rw [e9, ← hb]; clear hb ih key; simp [*])
  refine J.lvs (lv' := [(0, .ref o), (1, .int (iN (f))), (2, .int (iN (a))), (3, .int (iN (bN (decide (0 ≤ f ∧ f < M 1 0))))), (4, .int (iN (bN false))), (5, .int (iN (((0 : Nat) : Int))))]) ?_ ?_
  · intro q hq; simp only [List.mem_cons, List.not_mem_nil, or_false] at hq; rcases hq with rfl | rfl | rfl | rfl | rfl | rfl <;> rfl
  · exact key2 ((M 21 0).toNat + 1) 0 false _ (by omega) (by omega) rfl hM

set_option maxHeartbeats 4000000 in
set_option maxRecDepth 100000 in
theorem m_advance (l : Launch) (hfl : l.stackTraces = false) {M : wM} {a : Int} (h_a : rg a) (I : Inv M) : MC l yX6_advance cX6_advance 4 (some FieldType.int) 4 [.int (iN a)] M (.inl (some (.int (iN (if x_advance M a = 0 then v_advance M a else 0))))) (n_advance M a) := by
  intro S0 o B hM0
  refine Ct.of cal_X6_advance hfl (Nat.le_of_ble_eq_true rfl) ?_
  intro p e s m args below meth c D sz C ME
  have hM : RMF S0 S0 o B M := ⟨hM0, mF.rf⟩
  have I9 := I
  obtain ⟨i1, i2, i3, i3e, i4, i4e, i5, i6, i7, i8, i10, i11⟩ := I9
  obtain ⟨a1, a2, a3, a4, a5, a6, a7⟩ := id i1
  have key : ∀ (x : Int) (S : wS), x = x_advance M a → RMF S0 S o B M → J p l e { frames := 20 * 4, cells := 0, slots := 0, locals := 200 * 4 } s m args below meth c 4 D (wA S0 sz) (wQ below D sz S0 (fun r9 S9 => r9 = .inl (some (.int (iN (if x_advance M a = 0 then v_advance M a else 0)))) ∧ RMF S0 S9 o B (n_advance M a)) args s 0 0) 16 [(0, .ref o), (1, .int (iN (a)))] [.int (iN x), .ref o] S 0 0 := by
    intro x S hx hM
    subst hx
    refine j_mcall C hM (c_goesOn l hfl (by unfold x_advance; (repeat' split) <;> (unfold rg; omega))) cal_X6_goesOn vi_X6_goesOn rfl ml_Mo_103 rfl rfl (Nat.le_of_ble_eq_true rfl) ⟨by decide, by decide⟩ ⟨by omega, by omega⟩ dX6_advance_16 (fun S hM => ?_)
    refine j_ifne_b (tgt := 24) C dX6_advance_19 (by decide) (fun c19 => ?_) (fun c19 => ?_)
    · try simp only [decide_eq_true_eq, decide_eq_false_iff_not] at c19
      try simp only [decide_eq_true_eq, decide_eq_false_iff_not] at c19
      have ok : 1 ≤ a ∧ a ≤ 99 := by
        clear I i1 i2 i3 i3e i4 i4e i5 i6 i7 i8 i10 i11; (try clear key); (try clear key2); (try clear ih); (try clear w5); (try clear w11); (try clear w2); (try clear w3); (try clear w4); (try clear w6); (try clear w7); (try clear w8); (try clear w9); (try clear p4); (try clear o4); unfold x_advance at c19
        (repeat' split at c19) <;> first | rfl | omega | (simp_all; done) | (simp_all; omega)
      
      refine j_aload_n C dX6_advance_24 rfl ?_
      refine j_dup C dX6_advance_25 rfl ?_
      refine j_mgeti C hM fl_Mo_181 ⟨by decide, rfl⟩ dX6_advance_26 ?_
      refine j_iload_n C dX6_advance_29 rfl ?_
      refine j_iadd C dX6_advance_30 ?_
      refine j_mputi C hM fl_Mo_181 ⟨by decide, rfl⟩ dX6_advance_31 (fun S hM => ?_)
      refine j_iconst C dX6_advance_34 ?_
      refine j_istore_n C dX6_advance_35 (by decide) ?_
      refine j_iconst C dX6_advance_36 ?_
      refine j_istore_n C dX6_advance_37 (by decide) ?_
      have key2 : ∀ (fuel : Nat) (i : Nat) (S : wS), M 28 0 - i < fuel → (i : Int) ≤ M 28 0 → RMF S0 S o B (mup (mup M 0 0 (x_advance M a)) 29 0 (M 29 0 + a)) → J p l e { frames := 20 * 4, cells := 0, slots := 0, locals := 200 * 4 } s m args below meth c 4 D (wA S0 sz) (wQ below D sz S0 (fun r9 S9 => r9 = .inl (some (.int (iN (if x_advance M a = 0 then v_advance M a else 0)))) ∧ RMF S0 S9 o B (n_advance M a)) args s 0 0) 38 [(0, .ref o), (2, .int (iN (lateM M (M 29 0 + a) i))), (3, .int (iN (i)))] [] S 0 0 := by
        intro fuel
        induction fuel with
        | zero => intro i S h1 h2 hM; omega
        | succ fuel ih =>
          intro i S h1 h2 hM
          have e28 : (mup (mup M 0 0 (x_advance M a)) 29 0 (M 29 0 + a)) 28 0 = M 28 0 := rfl
          have e27 : (mup (mup M 0 0 (x_advance M a)) 29 0 (M 29 0 + a)) 27 i = M 27 i := rfl
          have e26 : (mup (mup M 0 0 (x_advance M a)) 29 0 (M 29 0 + a)) 26 i = M 26 i := rfl
          have e29 : (mup (mup M 0 0 (x_advance M a)) 29 0 (M 29 0 + a)) 29 0 = M 29 0 + a := by simp [mup]
          have w8 := fun (h : (i : Int) < M 28 0) => i8 i (by omega) (by omega)
          have e9 : lateM M (M 29 0 + a) (i + 1) = lateM M (M 29 0 + a) i + (if M 27 i = 0 ∧ M 26 i < M 29 0 + a then 1 else 0) := rfl
          refine j_iload_n C dX6_advance_38 rfl ?_
          refine j_aload_n C dX6_advance_39 rfl ?_
          refine j_mgeti C hM fl_Mo_100 ⟨by decide, rfl⟩ dX6_advance_40 ?_
          refine j_icmp_ge (tgt := 82) C dX6_advance_43 (by decide) (by unfold rg at *; omega) (by unfold rg at *; omega) (fun c43 => ?_) (fun c43 => ?_)
          · have ei : i = (M 28 0).toNat := by omega
            subst ei
            refine j_iload_n C dX6_advance_82 rfl ?_
            refine j_iret C ME ?_ (by omega) (by omega) dX6_advance_83
            refine ⟨rI ?_, ?_⟩
            · first
              | (rw [if_neg c19]; done)
              | (rw [if_pos c19]; unfold v_advance; rfl)
            · unfold n_advance
              first
              | (rw [if_neg c19]; exact hM)
              | (rw [if_pos c19]; exact hM)
          · have w8 := w8 (by omega)
            refine j_iload_n C dX6_advance_46 rfl ?_
            refine j_aload_n C dX6_advance_47 rfl ?_
            refine j_mgeta C hM fl_Mo_77 (by decide) dX6_advance_48 ?_
            refine j_iload_n C dX6_advance_51 rfl ?_
            refine j_mzld C hM (by omega) dX6_advance_52 ?_
            refine j_if_ne (tgt := 73) C dX6_advance_53 (by decide) (by unfold rg at *; omega) (fun c53 => ?_) (fun c53 => ?_)
            · refine j_iconst C dX6_advance_73 ?_
              refine j_iadd C dX6_advance_74 ?_
              refine j_istore_n C dX6_advance_75 (by decide) ?_
              refine j_iinc C dX6_advance_76 rfl (by decide) ?_
              refine j_goto (tgt := 38) C dX6_advance_79 (by decide) ?_
              have ihk := ih (i + 1) S (by omega) (by omega) hM
              first
                | (rw [if_pos ⟨by omega, by omega⟩] at e9
                   rw [e9] at ihk
                   refine J.lvs (lv' := [(0, .ref o), (2, .int (iN (lateM M (M 29 0 + a) i + 1))), (3, .int (iN (((i + 1 : Nat) : Int))))]) ?_ ?_
                   · intro q hq; simp only [List.mem_cons, List.not_mem_nil, or_false] at hq; rcases hq with rfl | rfl | rfl <;> rfl
                   · refine ihk)
                | (rw [if_neg (by omega)] at e9
                   rw [e9] at ihk
                   refine J.lvs (lv' := [(0, .ref o), (2, .int (iN (lateM M (M 29 0 + a) i + 0))), (3, .int (iN (((i + 1 : Nat) : Int))))]) ?_ ?_
                   · intro q hq; simp only [List.mem_cons, List.not_mem_nil, or_false] at hq; rcases hq with rfl | rfl | rfl <;> rfl
                   · refine ihk)
            · refine j_aload_n C dX6_advance_56 rfl ?_
              refine j_mgeti C hM fl_Mo_181 ⟨by decide, rfl⟩ dX6_advance_57 ?_
              refine j_aload_n C dX6_advance_60 rfl ?_
              refine j_mgeta C hM fl_Mo_74 (by decide) dX6_advance_61 ?_
              refine j_iload_n C dX6_advance_64 rfl ?_
              refine j_mald C hM (by decide) rfl (by simp only [mLen]; omega) dX6_advance_65 ?_
              refine j_icmp_le (tgt := 73) C dX6_advance_66 (by decide) (by unfold rg at *; omega) (by unfold rg at *; omega) (fun c66 => ?_) (fun c66 => ?_)
              · refine j_iconst C dX6_advance_73 ?_
                refine j_iadd C dX6_advance_74 ?_
                refine j_istore_n C dX6_advance_75 (by decide) ?_
                refine j_iinc C dX6_advance_76 rfl (by decide) ?_
                refine j_goto (tgt := 38) C dX6_advance_79 (by decide) ?_
                have ihk := ih (i + 1) S (by omega) (by omega) hM
                first
                  | (rw [if_pos ⟨by omega, by omega⟩] at e9
                     rw [e9] at ihk
                     refine J.lvs (lv' := [(0, .ref o), (2, .int (iN (lateM M (M 29 0 + a) i + 1))), (3, .int (iN (((i + 1 : Nat) : Int))))]) ?_ ?_
                     · intro q hq; simp only [List.mem_cons, List.not_mem_nil, or_false] at hq; rcases hq with rfl | rfl | rfl <;> rfl
                     · refine ihk)
                  | (rw [if_neg (by omega)] at e9
                     rw [e9] at ihk
                     refine J.lvs (lv' := [(0, .ref o), (2, .int (iN (lateM M (M 29 0 + a) i + 0))), (3, .int (iN (((i + 1 : Nat) : Int))))]) ?_ ?_
                     · intro q hq; simp only [List.mem_cons, List.not_mem_nil, or_false] at hq; rcases hq with rfl | rfl | rfl <;> rfl
                     · refine ihk)
              · refine j_iconst C dX6_advance_69 ?_
                refine j_goto (tgt := 74) C dX6_advance_70 (by decide) ?_
                refine j_iadd C dX6_advance_74 ?_
                refine j_istore_n C dX6_advance_75 (by decide) ?_
                refine j_iinc C dX6_advance_76 rfl (by decide) ?_
                refine j_goto (tgt := 38) C dX6_advance_79 (by decide) ?_
                have ihk := ih (i + 1) S (by omega) (by omega) hM
                first
                  | (rw [if_pos ⟨by omega, by omega⟩] at e9
                     rw [e9] at ihk
                     refine J.lvs (lv' := [(0, .ref o), (2, .int (iN (lateM M (M 29 0 + a) i + 1))), (3, .int (iN (((i + 1 : Nat) : Int))))]) ?_ ?_
                     · intro q hq; simp only [List.mem_cons, List.not_mem_nil, or_false] at hq; rcases hq with rfl | rfl | rfl <;> rfl
                     · refine ihk)
                  | (rw [if_neg (by omega)] at e9
                     rw [e9] at ihk
                     refine J.lvs (lv' := [(0, .ref o), (2, .int (iN (lateM M (M 29 0 + a) i + 0))), (3, .int (iN (((i + 1 : Nat) : Int))))]) ?_ ?_
                     · intro q hq; simp only [List.mem_cons, List.not_mem_nil, or_false] at hq; rcases hq with rfl | rfl | rfl <;> rfl
                     · refine ihk)
      refine J.lvs (lv' := [(0, .ref o), (2, .int (iN (lateM M (M 29 0 + a) 0))), (3, .int (iN (((0 : Nat) : Int))))]) ?_ ?_
      · intro q hq; simp only [List.mem_cons, List.not_mem_nil, or_false] at hq; rcases hq with rfl | rfl | rfl <;> rfl
      · exact key2 ((M 28 0).toNat + 1) 0 S (by omega) (by omega) hM
    · try simp only [decide_eq_true_eq, decide_eq_false_iff_not] at c19
      try simp only [decide_eq_true_eq, decide_eq_false_iff_not] at c19
      refine j_iconst C dX6_advance_22 ?_
      refine j_iret C ME ?_ (by omega) (by omega) dX6_advance_23
      refine ⟨rI ?_, ?_⟩
      · first
        | (rw [if_neg c19]; done)
        | (rw [if_pos c19]; unfold v_advance; rfl)
      · unfold n_advance
        first
        | (rw [if_neg c19]; exact hM)
        | (rw [if_pos c19]; exact hM)
  refine j_aload_n C dX6_advance_0 rfl ?_
  refine j_iload_n C dX6_advance_1 rfl ?_
  refine j_iconst C dX6_advance_2 ?_
  refine j_bipush C dX6_advance_3 (by decide) ?_
  refine j_callS C (c_in l hfl (by unfold rg at *; omega) (by unfold rg; omega) (by unfold rg; omega)) cal_X6_in st_X6_in ml_Mo_87 rfl rfl (Nat.le_of_ble_eq_true rfl) ⟨by decide, by decide⟩ ⟨by omega, by omega⟩ dX6_advance_5 (fun E S9 h => nomatch h.1) (fun v9 S9 h => ?_)
  obtain ⟨h, h9⟩ := h
  have h9 := h9.symm
  subst h9
  cases h
  refine j_ifeq_b (tgt := 15) C dX6_advance_8 (by decide) (fun c8 => ?_) (fun c8 => ?_)
  · try simp only [decide_eq_true_eq, decide_eq_false_iff_not] at c8
    refine j_iconst C dX6_advance_15 ?_
    refine J.lvs (lv' := [(0, .ref o), (1, .int (iN (a)))]) ?_ ?_
    · intro q hq; simp only [List.mem_cons, List.not_mem_nil, or_false] at hq; rcases hq with rfl | rfl <;> rfl
    · refine key _ _ (by clear I i1 i2 i3 i3e i4 i4e i5 i6 i7 i8 i10 i11; (try clear key); (try clear key2); (try clear ih); (try clear w5); (try clear w11); (try clear w2); (try clear w3); (try clear w4); (try clear w6); (try clear w7); (try clear w8); (try clear w9); (try clear p4); (try clear o4); (try simp only [decide_eq_true_eq, decide_eq_false_iff_not] at *); unfold x_advance; (repeat' split) <;> first | rfl | omega | (simp_all; done) | (simp_all; omega)) hM
  · try simp only [decide_eq_true_eq, decide_eq_false_iff_not] at c8
    refine j_iconst C dX6_advance_11 ?_
    refine j_goto (tgt := 16) C dX6_advance_12 (by decide) ?_
    refine J.lvs (lv' := [(0, .ref o), (1, .int (iN (a)))]) ?_ ?_
    · intro q hq; simp only [List.mem_cons, List.not_mem_nil, or_false] at hq; rcases hq with rfl | rfl <;> rfl
    · refine key _ _ (by clear I i1 i2 i3 i3e i4 i4e i5 i6 i7 i8 i10 i11; (try clear key); (try clear key2); (try clear ih); (try clear w5); (try clear w11); (try clear w2); (try clear w3); (try clear w4); (try clear w6); (try clear w7); (try clear w8); (try clear w9); (try clear p4); (try clear o4); (try simp only [decide_eq_true_eq, decide_eq_false_iff_not] at *); unfold x_advance; (repeat' split) <;> first | rfl | omega | (simp_all; done) | (simp_all; omega)) hM

