/-! THE REFERENCE: its private methods that write. -/
theorem mset_id {M : wM} {j : Nat} {g : Int → Int} (e : ∀ i, g i = M j i) : mset M j g = M := by
  funext j' i
  unfold mset
  by_cases h : j' = j
  · subst h; rw [if_pos rfl]; exact e i
  · rw [if_neg h]
theorem wearK_0 {M : wM} {r w k : Int} (h : k ≤ 0) : wearK M r w k = M := mset_id (fun i => if_neg (by omega))
theorem wearK_S {M : wM} {r w k : Int} (h : 0 ≤ k) : wearK M r w (k + 1) = mup (wearK M r w k) 15 (60 * r + k) (wearK M r w k 15 (60 * r + k) + w) := by
  rw [mset_mup, wearK, wearK, mset_set]
  refine mset_cong (fun i => ?_)
  simp only [mset, if_true]
  by_cases q : i = 60 * r + k
  · rw [if_pos (by omega), if_pos q, if_neg (by omega), q]
  · rw [if_neg q]
    by_cases q2 : 60 * r ≤ i ∧ i < 60 * r + k
    · rw [if_pos (by omega), if_pos q2]
    · rw [if_neg (by omega), if_neg q2]
theorem shK_top {M : wM} {f k : Int} (h : M 3 f ≤ k) : shK M f k = M := mset_id (fun i => if_neg (by omega))
theorem shK_S {M : wM} {f k : Int} (h : k ≤ M 3 f) : shK M f (k + -1) = mup (shK M f k) 2 (60 * f + k) (shK M f k 2 (60 * f + k - 1)) := by
  rw [mset_mup, shK, shK, mset_set]
  refine mset_cong (fun i => ?_)
  simp only [mset, if_true]
  by_cases q : i = 60 * f + k
  · rw [if_pos (by omega), if_pos q, if_neg (by omega), q]
  · rw [if_neg q]
    by_cases q2 : 60 * f + k < i ∧ i ≤ 60 * f + M 3 f
    · rw [if_pos (by omega), if_pos q2]
    · rw [if_neg (by omega), if_neg q2]
def wearH (M : wM) (r : Int) : Prop := (0 ≤ M 16 r ∧ M 16 r ≤ 60) ∧ ∀ k : Nat, (k : Int) < M 16 r → (0 ≤ M 14 (60 * r + k) ∧ M 14 (60 * r + k) < 60) ∧ 0 ≤ M 5 (M 14 (60 * r + k)) ∧ M 5 (M 14 (60 * r + k)) ≤ 999
theorem wearH_of {M : wM} {r : Int} (hr : 0 ≤ r ∧ r < 24) (i1 : I1 M) (i2 : I2 M) (i4 : I4 M) : wearH M r := by
  have w4 := i4 r hr.1 hr.2
  obtain ⟨-, a2, -⟩ := i1
  refine ⟨by omega, fun k hk => ?_⟩
  have q := w4.2.2.2.2 k (by omega) (by omega)
  have w2 := i2 (M 14 (60 * r + k)) q.1 q.2.1
  omega
theorem onM_rw {M : wM} {r : Int} (h : wearH M r) : 0 ≤ onM M r ∧ onM M r ≤ 59940 := by
  have q := sumI_bound (f := fun k : Nat => M 5 (M 14 (60 * r + k))) (c := 999) (n := (M 16 r).toNat) (fun k hk => (h.2 k (by omega)).2)
  have h1 := h.1
  unfold onM
  have e : ((M 16 r).toNat : Int) * 999 ≤ 60 * 999 := Int.mul_le_mul_of_nonneg_right (by omega) (by omega)
  omega
theorem onM_rg {M : wM} {r : Int} (hr : 0 ≤ r ∧ r < 24) (i1 : I1 M) (i2 : I2 M) (i4 : I4 M) : 0 ≤ onM M r ∧ onM M r ≤ 59940 := by
  have w4 := i4 r hr.1 hr.2
  have q := sumI_bound (f := fun k : Nat => M 5 (M 14 (60 * r + k))) (c := 999) (n := (M 16 r).toNat) (fun k hk => by
    have q := w4.2.2.2.2 k (by omega) (by omega)
    have w2 := i2 (M 14 (60 * r + k)) q.1 q.2.1
    show 0 ≤ M 5 (M 14 (60 * r + k)) ∧ M 5 (M 14 (60 * r + k)) ≤ 999
    omega)
  obtain ⟨-, a2, -⟩ := i1
  unfold onM
  have e : ((M 16 r).toNat : Int) * 999 ≤ 60 * 999 := Int.mul_le_mul_of_nonneg_right (by omega) (by omega)
  omega
set_option maxHeartbeats 4000000 in
set_option maxRecDepth 100000 in
theorem c_wears (l : Launch) (hfl : l.stackTraces = false) {M : wM} {r w : Int} (hr : 0 ≤ r ∧ r < 24) (hW : wearH M r) : MC l yX6_wears cX6_wears 4 none 2 [.int (iN r), .int (iN w)] M (.inl none) (wearM M r w) := by
  intro S0 o B hM0
  refine Ct.of cal_X6_wears hfl (Nat.le_of_ble_eq_true rfl) ?_
  intro p e s m args below meth c D sz C ME
  have hM : RMF S0 S0 o B M := ⟨hM0, mF.rf⟩
  obtain ⟨hm, h14⟩ := id hW
  refine j_iconst C dX6_wears_0 ?_
  refine j_istore_n C dX6_wears_1 (by decide) ?_
  have key : ∀ (fuel : Nat) (i : Nat) (S : wS), M 16 r - i < fuel → ((i : Int) + 1 ≤ M 16 r ∨ i = 0) → RMF S0 S o B (wearK M r w i) → J p l e { frames := 20 * 2, cells := 0, slots := 0, locals := 200 * 2 } s m args below meth c 4 D (wA S0 sz) (wQ below D sz S0 (fun r9 S9 => r9 = .inl none ∧ RMF S0 S9 o B (wearM M r w)) args s 0 0) 2 [(0, .ref o), (1, .int (iN (r))), (2, .int (iN (w))), (3, .int (iN (i)))] [] S 0 0 := by
    intro fuel
    induction fuel with
    | zero => intro i S h1 h2 hM; omega
    | succ fuel ih =>
      intro i S h1 h2 hM
      have e16 : wearK M r w i 16 r = M 16 r := rfl
      refine j_iload_n C dX6_wears_2 rfl ?_
      refine j_iconst C dX6_wears_3 ?_
      refine j_iadd C dX6_wears_4 ?_
      refine j_aload_n C dX6_wears_5 rfl ?_
      refine j_mgeta C hM fl_Mo_49 (by decide) dX6_wears_6 ?_
      refine j_iload_n C dX6_wears_9 rfl ?_
      refine j_mald C hM (by decide) rfl (by simp only [mLen]; omega) dX6_wears_10 ?_
      refine j_icmp_ge (tgt := 35) C dX6_wears_11 (by decide) (by unfold rg at *; omega) (by unfold rg at *; omega) (fun c11 => ?_) (fun c11 => ?_)
      · refine j_aload_n C dX6_wears_35 rfl ?_
        refine j_dup C dX6_wears_36 rfl ?_
        refine j_mgetl C hM fl_Mo_152 dX6_wears_37 ?_
        refine j_aload_n C dX6_wears_40 rfl ?_
        refine j_iload_n C dX6_wears_41 rfl ?_
        refine j_mcall C hM (c_framesOn l hfl hr (M := wearK M r w i) hm (fun k hk => (h14 k hk).1)) cal_X6_framesOn vi_X6_framesOn rfl ml_Mo_156 rfl rfl (Nat.le_of_ble_eq_true rfl) ⟨by decide, by decide⟩ ⟨by omega, by omega⟩ dX6_wears_42 (fun S hM => ?_)
        refine j_i2l C (by have q := onM_rw hW; show rg (onM M r); unfold rg; omega) dX6_wears_45 ?_
        refine j_laddI C dX6_wears_46 ?_
        refine j_mputl C hM fl_Mo_152 dX6_wears_47 (fun S hM => ?_)
        refine j_vret C ME ?_ (by omega) (by omega) dX6_wears_50
        refine ⟨rfl, ?_⟩
        have e : wearK M r w i = wearK M r w (M 16 r - 1) := by
          rcases Int.lt_or_le 0 (M 16 r) with q | q
          · rw [show (i : Int) = M 16 r - 1 by omega]
          · rw [wearK_0 (by omega), wearK_0 (by omega)]
        unfold wearM
        rw [← e]
        exact hM
      · refine j_aload_n C dX6_wears_14 rfl ?_
        refine j_mgeta C hM fl_Mo_46 (by decide) dX6_wears_15 ?_
        refine j_bipush C dX6_wears_18 (by decide) ?_
        refine j_iload_n C dX6_wears_20 rfl ?_
        refine j_imul C dX6_wears_21 ?_
        refine j_iload_n C dX6_wears_22 rfl ?_
        refine j_iadd C dX6_wears_23 ?_
        refine j_dup2 C dX6_wears_24 rfl rfl ?_
        refine j_mald C hM (by decide) rfl (by simp only [mLen]; omega) dX6_wears_25 ?_
        refine j_iload_n C dX6_wears_26 rfl ?_
        refine j_iadd C dX6_wears_27 ?_
        refine j_mast C hM (by decide) rfl (by simp only [mLen]; omega) dX6_wears_28 (fun S hM => ?_)
        refine j_iinc C dX6_wears_29 rfl (by decide) ?_
        refine j_goto (tgt := 2) C dX6_wears_32 (by decide) ?_
        have ihk := ih (i + 1) S (by omega) (by omega) (by rw [Int.natCast_add, show ((1 : Nat) : Int) = 1 from rfl, wearK_S (by omega)]; exact hM)
        refine J.lvs (lv' := [(0, .ref o), (1, .int (iN (r))), (2, .int (iN (w))), (3, .int (iN (((i + 1 : Nat) : Int))))]) ?_ ?_
        · intro q hq; simp only [List.mem_cons, List.not_mem_nil, or_false] at hq; rcases hq with rfl | rfl | rfl | rfl <;> rfl
        · refine ihk
  refine J.lvs (lv' := [(0, .ref o), (1, .int (iN (r))), (2, .int (iN (w))), (3, .int (iN (((0 : Nat) : Int))))]) ?_ ?_
  · intro q hq; simp only [List.mem_cons, List.not_mem_nil, or_false] at hq; rcases hq with rfl | rfl | rfl | rfl <;> rfl
  · exact key ((M 16 r).toNat + 1) 0 S0 (by omega) (by omega) (by rw [wearK_0 (by omega)]; exact hM)

set_option maxHeartbeats 4000000 in
set_option maxRecDepth 100000 in
theorem c_adds (l : Launch) (hfl : l.stackTraces = false) {M : wM} {r s9 w : Int} (hr : 0 ≤ r ∧ r < 24) (hs : 0 ≤ s9 ∧ s9 < 60) (hm : 0 ≤ M 16 r ∧ M 16 r < 60) : MC l yX6_adds cX6_adds 4 none 1 [.int (iN r), .int (iN s9), .int (iN w)] M (.inl none) (addsM M r s9 w) := by
  intro S0 o B hM0
  refine Ct.of cal_X6_adds hfl (Nat.le_of_ble_eq_true rfl) ?_
  intro p e s m args below meth c D sz C ME
  have hM : RMF S0 S0 o B M := ⟨hM0, mF.rf⟩
  refine j_aload_n C dX6_adds_0 rfl ?_
  refine j_mgeta C hM fl_Mo_49 (by decide) dX6_adds_1 ?_
  refine j_iload_n C dX6_adds_4 rfl ?_
  refine j_mald C hM (by decide) rfl (by simp only [mLen]; omega) dX6_adds_5 ?_
  refine j_if_le (tgt := 28) C dX6_adds_6 (by decide) (by unfold rg at *; omega) (fun c6 => ?_) (fun c6 => ?_)
  · refine j_aload_n C dX6_adds_28 rfl ?_
    refine j_mgeta C hM fl_Mo_43 (by decide) dX6_adds_29 ?_
    refine j_bipush C dX6_adds_32 (by decide) ?_
    refine j_iload_n C dX6_adds_34 rfl ?_
    refine j_imul C dX6_adds_35 ?_
    refine j_aload_n C dX6_adds_36 rfl ?_
    refine j_mgeta C hM fl_Mo_49 (by decide) dX6_adds_37 ?_
    refine j_iload_n C dX6_adds_40 rfl ?_
    refine j_mald C hM (by decide) rfl (by simp only [mLen]; omega) dX6_adds_41 ?_
    refine j_iadd C dX6_adds_42 ?_
    refine j_iload_n C dX6_adds_43 rfl ?_
    refine j_mast C hM (by decide) rfl (by simp [mup, mLen]; omega) dX6_adds_44 (fun S hM => ?_)
    refine j_aload_n C dX6_adds_45 rfl ?_
    refine j_mgeta C hM fl_Mo_49 (by decide) dX6_adds_46 ?_
    refine j_iload_n C dX6_adds_49 rfl ?_
    refine j_dup2 C dX6_adds_50 rfl rfl ?_
    refine j_mald C hM (by decide) rfl (by simp [mup, mLen]; omega) dX6_adds_51 ?_
    refine j_iconst C dX6_adds_52 ?_
    refine j_iadd C dX6_adds_53 ?_
    refine j_mast C hM (by decide) rfl (by simp [mup, mLen]; omega) dX6_adds_54 (fun S hM => ?_)
    refine j_aload_n C dX6_adds_55 rfl ?_
    refine j_mgeta C hM fl_Mo_25 (by decide) dX6_adds_56 ?_
    refine j_iload_n C dX6_adds_59 rfl ?_
    refine j_iload_n C dX6_adds_60 rfl ?_
    refine j_mast C hM (by decide) rfl (by simp [mup, mLen]; omega) dX6_adds_61 (fun S hM => ?_)
    refine j_vret C ME ?_ (by omega) (by omega) dX6_adds_62
    refine ⟨rfl, ?_⟩
    first
      | (unfold addsM; rw [if_pos (by assumption), mup_id]; exact hM)
      | (unfold addsM; rw [if_neg (by assumption)]; exact hM)
  · refine j_aload_n C dX6_adds_9 rfl ?_
    refine j_mgeta C hM fl_Mo_46 (by decide) dX6_adds_10 ?_
    refine j_bipush C dX6_adds_13 (by decide) ?_
    refine j_iload_n C dX6_adds_15 rfl ?_
    refine j_imul C dX6_adds_16 ?_
    refine j_aload_n C dX6_adds_17 rfl ?_
    refine j_mgeta C hM fl_Mo_49 (by decide) dX6_adds_18 ?_
    refine j_iload_n C dX6_adds_21 rfl ?_
    refine j_mald C hM (by decide) rfl (by simp only [mLen]; omega) dX6_adds_22 ?_
    refine j_iadd C dX6_adds_23 ?_
    refine j_iconst C dX6_adds_24 ?_
    refine j_isub C dX6_adds_25 ?_
    refine j_iload_n C dX6_adds_26 rfl ?_
    refine j_mast C hM (by decide) rfl (by simp [mup, mLen]; omega) dX6_adds_27 (fun S hM => ?_)
    refine j_aload_n C dX6_adds_28 rfl ?_
    refine j_mgeta C hM fl_Mo_43 (by decide) dX6_adds_29 ?_
    refine j_bipush C dX6_adds_32 (by decide) ?_
    refine j_iload_n C dX6_adds_34 rfl ?_
    refine j_imul C dX6_adds_35 ?_
    refine j_aload_n C dX6_adds_36 rfl ?_
    refine j_mgeta C hM fl_Mo_49 (by decide) dX6_adds_37 ?_
    refine j_iload_n C dX6_adds_40 rfl ?_
    refine j_mald C hM (by decide) rfl (by simp only [mLen]; omega) dX6_adds_41 ?_
    refine j_iadd C dX6_adds_42 ?_
    refine j_iload_n C dX6_adds_43 rfl ?_
    refine j_mast C hM (by decide) rfl (by simp [mup, mLen]; omega) dX6_adds_44 (fun S hM => ?_)
    refine j_aload_n C dX6_adds_45 rfl ?_
    refine j_mgeta C hM fl_Mo_49 (by decide) dX6_adds_46 ?_
    refine j_iload_n C dX6_adds_49 rfl ?_
    refine j_dup2 C dX6_adds_50 rfl rfl ?_
    refine j_mald C hM (by decide) rfl (by simp [mup, mLen]; omega) dX6_adds_51 ?_
    refine j_iconst C dX6_adds_52 ?_
    refine j_iadd C dX6_adds_53 ?_
    refine j_mast C hM (by decide) rfl (by simp [mup, mLen]; omega) dX6_adds_54 (fun S hM => ?_)
    refine j_aload_n C dX6_adds_55 rfl ?_
    refine j_mgeta C hM fl_Mo_25 (by decide) dX6_adds_56 ?_
    refine j_iload_n C dX6_adds_59 rfl ?_
    refine j_iload_n C dX6_adds_60 rfl ?_
    refine j_mast C hM (by decide) rfl (by simp [mup, mLen]; omega) dX6_adds_61 (fun S hM => ?_)
    refine j_vret C ME ?_ (by omega) (by omega) dX6_adds_62
    refine ⟨rfl, ?_⟩
    first
      | (unfold addsM; rw [if_pos (by assumption), mup_id]; exact hM)
      | (unfold addsM; rw [if_neg (by assumption)]; exact hM)

set_option maxHeartbeats 4000000 in
set_option maxRecDepth 100000 in
theorem c_makes (l : Launch) (hfl : l.stackTraces = false) {M : wM} {f z a b : Int} (hf : 0 ≤ f ∧ f < 6) (hz : 0 ≤ z ∧ z ≤ M 3 f) (hm : 0 ≤ M 3 f ∧ M 3 f < 60) (hs : 0 ≤ M 12 0 ∧ M 12 0 < 60) : MC l yX6_makes cX6_makes 6 (some FieldType.int) 1 [.int (iN f), .int (iN z), .int (iN a), .int (iN b)] M (.inl (some (.int (iN (M 12 0))))) (makesM M f z a b) := by
  intro S0 o B hM0
  refine Ct.of cal_X6_makes hfl (Nat.le_of_ble_eq_true rfl) ?_
  intro p e s m args below meth c D sz C ME
  have hM : RMF S0 S0 o B M := ⟨hM0, mF.rf⟩
  refine j_aload_n C dX6_makes_0 rfl ?_
  refine j_mgeta C hM fl_Mo_13 (by decide) dX6_makes_1 ?_
  refine j_iload_n C dX6_makes_4 rfl ?_
  refine j_mald C hM (by decide) rfl (by simp only [mLen]; omega) dX6_makes_5 ?_
  refine j_istore C dX6_makes_6 (by decide) ?_
  have key : ∀ (fuel : Nat) (k : Int) (S : wS), k - z < fuel → z ≤ k → k ≤ M 3 f → RMF S0 S o B (shK M f k) → J p l e { frames := 20 * 1, cells := 0, slots := 0, locals := 200 * 1 } s m args below meth c 6 D (wA S0 sz) (wQ below D sz S0 (fun r9 S9 => r9 = .inl (some (.int (iN (M 12 0)))) ∧ RMF S0 S9 o B (makesM M f z a b)) args s 0 0) 8 [(0, .ref o), (1, .int (iN (f))), (2, .int (iN (z))), (3, .int (iN (a))), (4, .int (iN (b))), (5, .int (iN (k)))] [] S 0 0 := by
    intro fuel
    induction fuel with
    | zero => intro k S h1 h2 h3 hM; omega
    | succ fuel ih =>
      intro k S h1 h2 h3 hM
      refine j_iload C dX6_makes_8 rfl ?_
      refine j_iload_n C dX6_makes_10 rfl ?_
      refine j_icmp_le (tgt := 46) C dX6_makes_11 (by decide) (by unfold rg at *; omega) (by unfold rg at *; omega) (fun c11 => ?_) (fun c11 => ?_)
      · have ek : k = z := by omega
        subst ek
        refine j_aload_n C dX6_makes_46 rfl ?_
        refine j_mgeta C hM fl_Mo_7 (by decide) dX6_makes_47 ?_
        refine j_bipush C dX6_makes_50 (by decide) ?_
        refine j_iload_n C dX6_makes_52 rfl ?_
        refine j_imul C dX6_makes_53 ?_
        refine j_iload_n C dX6_makes_54 rfl ?_
        refine j_iadd C dX6_makes_55 ?_
        refine j_aload_n C dX6_makes_56 rfl ?_
        refine j_mgeti C hM fl_Mo_91 ⟨by decide, rfl⟩ dX6_makes_57 ?_
        refine j_mast C hM (by decide) rfl (by simp [mup, shK, mset, mLen] <;> omega) dX6_makes_60 (fun S hM => ?_)
        refine j_aload_n C dX6_makes_61 rfl ?_
        refine j_mgeta C hM fl_Mo_13 (by decide) dX6_makes_62 ?_
        refine j_iload_n C dX6_makes_65 rfl ?_
        refine j_dup2 C dX6_makes_66 rfl rfl ?_
        refine j_mald C hM (by decide) rfl (by simp [mup, shK, mset, mLen] <;> omega) dX6_makes_67 ?_
        refine j_iconst C dX6_makes_68 ?_
        refine j_iadd C dX6_makes_69 ?_
        refine j_mast C hM (by decide) rfl (by simp [mup, shK, mset, mLen] <;> omega) dX6_makes_70 (fun S hM => ?_)
        refine j_aload_n C dX6_makes_71 rfl ?_
        refine j_mgeta C hM fl_Mo_16 (by decide) dX6_makes_72 ?_
        refine j_aload_n C dX6_makes_75 rfl ?_
        refine j_mgeti C hM fl_Mo_91 ⟨by decide, rfl⟩ dX6_makes_76 ?_
        refine j_iload_n C dX6_makes_79 rfl ?_
        refine j_mast C hM (by decide) rfl (by simp [mup, shK, mset, mLen] <;> omega) dX6_makes_80 (fun S hM => ?_)
        refine j_aload_n C dX6_makes_81 rfl ?_
        refine j_mgeta C hM fl_Mo_19 (by decide) dX6_makes_82 ?_
        refine j_aload_n C dX6_makes_85 rfl ?_
        refine j_mgeti C hM fl_Mo_91 ⟨by decide, rfl⟩ dX6_makes_86 ?_
        refine j_iload_n C dX6_makes_89 rfl ?_
        refine j_mast C hM (by decide) rfl (by simp [mup, shK, mset, mLen] <;> omega) dX6_makes_90 (fun S hM => ?_)
        refine j_aload_n C dX6_makes_91 rfl ?_
        refine j_mgeta C hM fl_Mo_22 (by decide) dX6_makes_92 ?_
        refine j_aload_n C dX6_makes_95 rfl ?_
        refine j_mgeti C hM fl_Mo_91 ⟨by decide, rfl⟩ dX6_makes_96 ?_
        refine j_iload C dX6_makes_99 rfl ?_
        refine j_mast C hM (by decide) rfl (by simp [mup, shK, mset, mLen] <;> omega) dX6_makes_101 (fun S hM => ?_)
        refine j_aload_n C dX6_makes_102 rfl ?_
        refine j_mgeta C hM fl_Mo_25 (by decide) dX6_makes_103 ?_
        refine j_aload_n C dX6_makes_106 rfl ?_
        refine j_mgeti C hM fl_Mo_91 ⟨by decide, rfl⟩ dX6_makes_107 ?_
        refine j_iconst C dX6_makes_110 ?_
        refine j_mast C hM (by decide) rfl (by simp [mup, shK, mset, mLen] <;> omega) dX6_makes_111 (fun S hM => ?_)
        refine j_aload_n C dX6_makes_112 rfl ?_
        refine j_mgeta C hM fl_Mo_34 (by decide) dX6_makes_113 ?_
        refine j_aload_n C dX6_makes_116 rfl ?_
        refine j_mgeti C hM fl_Mo_91 ⟨by decide, rfl⟩ dX6_makes_117 ?_
        refine j_iconst C dX6_makes_120 ?_
        refine j_mast C hM (by decide) rfl (by simp [mup, shK, mset, mLen] <;> omega) dX6_makes_121 (fun S hM => ?_)
        refine j_aload_n C dX6_makes_122 rfl ?_
        refine j_mgeta C hM fl_Mo_37 (by decide) dX6_makes_123 ?_
        refine j_aload_n C dX6_makes_126 rfl ?_
        refine j_mgeti C hM fl_Mo_91 ⟨by decide, rfl⟩ dX6_makes_127 ?_
        refine j_iconst C dX6_makes_130 ?_
        refine j_mast C hM (by decide) rfl (by simp [mup, shK, mset, mLen] <;> omega) dX6_makes_131 (fun S hM => ?_)
        refine j_aload_n C dX6_makes_132 rfl ?_
        refine j_dup C dX6_makes_133 rfl ?_
        refine j_mgeti C hM fl_Mo_91 ⟨by decide, rfl⟩ dX6_makes_134 ?_
        refine j_iconst C dX6_makes_137 ?_
        refine j_iadd C dX6_makes_138 ?_
        refine j_mputi C hM fl_Mo_91 ⟨by decide, rfl⟩ dX6_makes_139 (fun S hM => ?_)
        refine j_aload_n C dX6_makes_142 rfl ?_
        refine j_mgeti C hM fl_Mo_91 ⟨by decide, rfl⟩ dX6_makes_143 ?_
        refine j_iconst C dX6_makes_146 ?_
        refine j_isub C dX6_makes_147 ?_
        refine j_iret C ME ?_ (by omega) (by omega) dX6_makes_148
        refine ⟨rI ?_, hM⟩
        show M 12 0 + 1 - 1 = M 12 0
        omega
      · refine j_aload_n C dX6_makes_14 rfl ?_
        refine j_mgeta C hM fl_Mo_7 (by decide) dX6_makes_15 ?_
        refine j_bipush C dX6_makes_18 (by decide) ?_
        refine j_iload_n C dX6_makes_20 rfl ?_
        refine j_imul C dX6_makes_21 ?_
        refine j_iload C dX6_makes_22 rfl ?_
        refine j_iadd C dX6_makes_24 ?_
        refine j_aload_n C dX6_makes_25 rfl ?_
        refine j_mgeta C hM fl_Mo_7 (by decide) dX6_makes_26 ?_
        refine j_bipush C dX6_makes_29 (by decide) ?_
        refine j_iload_n C dX6_makes_31 rfl ?_
        refine j_imul C dX6_makes_32 ?_
        refine j_iload C dX6_makes_33 rfl ?_
        refine j_iadd C dX6_makes_35 ?_
        refine j_iconst C dX6_makes_36 ?_
        refine j_isub C dX6_makes_37 ?_
        refine j_mald C hM (by decide) rfl (by simp only [mLen]; omega) dX6_makes_38 ?_
        refine j_mast C hM (by decide) rfl (by simp only [mLen]; omega) dX6_makes_39 (fun S hM => ?_)
        refine j_iinc C dX6_makes_40 rfl (by decide) ?_
        refine j_goto (tgt := 8) C dX6_makes_43 (by decide) ?_
        have ihk := ih (k + -1) S (by omega) (by omega) (by omega) (by rw [shK_S (by omega)]; exact hM)
        refine J.lvs (lv' := [(0, .ref o), (1, .int (iN (f))), (2, .int (iN (z))), (3, .int (iN (a))), (4, .int (iN (b))), (5, .int (iN (k + -1)))]) ?_ ?_
        · intro q hq; simp only [List.mem_cons, List.not_mem_nil, or_false] at hq; rcases hq with rfl | rfl | rfl | rfl | rfl | rfl <;> rfl
        · refine ihk
  refine J.lvs (lv' := [(0, .ref o), (1, .int (iN (f))), (2, .int (iN (z))), (3, .int (iN (a))), (4, .int (iN (b))), (5, .int (iN (M 3 f)))]) ?_ ?_
  · intro q hq; simp only [List.mem_cons, List.not_mem_nil, or_false] at hq; rcases hq with rfl | rfl | rfl | rfl | rfl | rfl <;> rfl
  · exact key ((M 3 f).toNat + 1) (M 3 f) S0 (by omega) (by omega) (by omega) (by rw [shK_top (by omega)]; exact hM)

