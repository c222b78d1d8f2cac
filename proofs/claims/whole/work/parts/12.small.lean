/-! THE REFERENCE: its small methods. -/
theorem rI {a b : Int} (h : a = b) : (.inl (some (.int (iN a))) : wR) = .inl (some (.int (iN b))) := by rw [h]
theorem b1 {c : Prop} [Decidable c] (h : c) : (1 : Int) = bN (decide c) := by simp [bN, h]
theorem b0 {c : Prop} [Decidable c] (h : ¬ c) : (0 : Int) = bN (decide c) := by simp [bN, h]
theorem bN_iff {c d : Prop} [Decidable c] [Decidable d] (h : c ↔ d) : bN (decide c) = bN (decide d) := by simp [h]
set_option maxHeartbeats 4000000 in
set_option maxRecDepth 100000 in
/-- in: low <= v <= high -/
theorem c_in (l : Launch) (hfl : l.stackTraces = false) {S : wS} {z lo hi : Int} (h1 : rg z) (h2 : rg lo) (h3 : rg hi) : Ct l yX6_in cX6_in 3 (some FieldType.boolean) 1 0 0 [.int (iN z), .int (iN lo), .int (iN hi)] S (fun r S' => r = .inl (some (.int (iN (bN (decide (lo ≤ z ∧ z ≤ hi)))))) ∧ S' = S) := by
  refine Ct.of cal_X6_in hfl (Nat.le_of_ble_eq_true rfl) ?_
  intro p e s m args below meth c D sz C ME
  refine j_iload_n C dX6_in_0 rfl ?_
  refine j_iload_n C dX6_in_1 rfl ?_
  refine j_icmp_lt (tgt := 14) C dX6_in_2 (by decide) h1 h2 (fun c2 => ?_) (fun c2 => ?_)
  · refine j_iconst C dX6_in_14 ?_
    refine j_zret C ME (by first | exact Or.inl rfl | exact Or.inr rfl | (unfold bN; split <;> simp)) ?_ (by omega) (by omega) dX6_in_15
    exact ⟨rI (by first | exact b1 (by omega) | exact b0 (by omega)), rfl⟩
  · refine j_iload_n C dX6_in_5 rfl ?_
    refine j_iload_n C dX6_in_6 rfl ?_
    refine j_icmp_gt (tgt := 14) C dX6_in_7 (by decide) h1 h3 (fun c7 => ?_) (fun c7 => ?_)
    · refine j_iconst C dX6_in_14 ?_
      refine j_zret C ME (by first | exact Or.inl rfl | exact Or.inr rfl | (unfold bN; split <;> simp)) ?_ (by omega) (by omega) dX6_in_15
      exact ⟨rI (by first | exact b1 (by omega) | exact b0 (by omega)), rfl⟩
    · refine j_iconst C dX6_in_10 ?_
      refine j_goto (tgt := 15) C dX6_in_11 (by decide) ?_
      refine j_zret C ME (by first | exact Or.inl rfl | exact Or.inr rfl | (unfold bN; split <;> simp)) ?_ (by omega) (by omega) dX6_in_15
      exact ⟨rI (by first | exact b1 (by omega) | exact b0 (by omega)), rfl⟩

set_option maxHeartbeats 4000000 in
set_option maxRecDepth 100000 in
theorem c_thrown (l : Launch) (hfl : l.stackTraces = false) {M : wM}  : MC l yX6_thrown cX6_thrown 1 (some FieldType.int) 1 [] M (.inl (some (.int (iN (M 0 0))))) (M) := by
  intro S o B hM0
  refine Ct.of cal_X6_thrown hfl (Nat.le_of_ble_eq_true rfl) ?_
  intro p e s m args below meth c D sz C ME
  have hM : RMF S S o B M := ⟨hM0, mF.rf⟩
  refine j_aload_n C dX6_thrown_0 rfl ?_
  refine j_mgeti C hM fl_Mo_81 ⟨by decide, rfl⟩ dX6_thrown_1 ?_
  refine j_iret C ME ?_ (by omega) (by omega) dX6_thrown_4
  exact ⟨rfl, hM⟩

set_option maxHeartbeats 4000000 in
set_option maxRecDepth 100000 in
theorem c_goesOn (l : Launch) (hfl : l.stackTraces = false) {M : wM} {z : Int} (h1 : rg z) : MC l yX6_goesOn cX6_goesOn 2 (some FieldType.boolean) 1 [.int (iN z)] M (.inl (some (.int (iN (bN (decide (z = 0))))))) (mup M 0 0 z) := by
  intro S o B hM0
  refine Ct.of cal_X6_goesOn hfl (Nat.le_of_ble_eq_true rfl) ?_
  intro p e s m args below meth c D sz C ME
  have hM : RMF S S o B M := ⟨hM0, mF.rf⟩
  refine j_aload_n C dX6_goesOn_0 rfl ?_
  refine j_iload_n C dX6_goesOn_1 rfl ?_
  refine j_mputi C hM fl_Mo_81 ⟨by decide, rfl⟩ dX6_goesOn_2 (fun S hM => ?_)
  refine j_iload_n C dX6_goesOn_5 rfl ?_
  refine j_if_ne (tgt := 13) C dX6_goesOn_6 (by decide) h1 (fun c6 => ?_) (fun c6 => ?_)
  · refine j_iconst C dX6_goesOn_13 ?_
    refine j_zret C ME (by first | exact Or.inl rfl | exact Or.inr rfl | (unfold bN; split <;> simp)) ?_ (by omega) (by omega) dX6_goesOn_14
    exact ⟨rI (by first | exact b1 (by omega) | exact b0 (by omega)), hM⟩
  · refine j_iconst C dX6_goesOn_9 ?_
    refine j_goto (tgt := 14) C dX6_goesOn_10 (by decide) ?_
    refine j_zret C ME (by first | exact Or.inl rfl | exact Or.inr rfl | (unfold bN; split <;> simp)) ?_ (by omega) (by omega) dX6_goesOn_14
    exact ⟨rI (by first | exact b1 (by omega) | exact b0 (by omega)), hM⟩

set_option maxHeartbeats 4000000 in
set_option maxRecDepth 100000 in
theorem c_isFilm (l : Launch) (hfl : l.stackTraces = false) {M : wM} {z : Int} (h1 : rg z) (h2 : 0 ≤ M 1 0 ∧ M 1 0 ≤ 100) : MC l yX6_isFilm cX6_isFilm 2 (some FieldType.boolean) 2 [.int (iN z)] M (.inl (some (.int (iN (bN (decide (0 ≤ z ∧ z < M 1 0))))))) (M) := by
  intro S o B hM0
  refine Ct.of cal_X6_isFilm hfl (Nat.le_of_ble_eq_true rfl) ?_
  intro p e s m args below meth c D sz C ME
  have hM : RMF S S o B M := ⟨hM0, mF.rf⟩
  refine j_iload_n C dX6_isFilm_0 rfl ?_
  refine j_iconst C dX6_isFilm_1 ?_
  refine j_aload_n C dX6_isFilm_2 rfl ?_
  refine j_mgeti C hM fl_Mo_84 ⟨by decide, rfl⟩ dX6_isFilm_3 ?_
  refine j_iconst C dX6_isFilm_6 ?_
  refine j_isub C dX6_isFilm_7 ?_
  refine j_callS C (c_in l hfl (by unfold rg at *; omega) (by unfold rg; omega) (by unfold rg; omega)) cal_X6_in st_X6_in ml_Mo_87 rfl rfl (by decide) ⟨by decide, by decide⟩ ⟨by omega, by omega⟩ dX6_isFilm_8 (fun E S9 h => nomatch h.1) (fun v9 S9 h => ?_)
  obtain ⟨h, rfl⟩ := h
  cases h
  refine j_zret C ME (by unfold bN; split <;> simp) ?_ (by omega) (by omega) dX6_isFilm_11
  exact ⟨rI (bN_iff (by omega)), hM⟩

set_option maxHeartbeats 4000000 in
set_option maxRecDepth 100000 in
theorem c_isShot (l : Launch) (hfl : l.stackTraces = false) {M : wM} {z : Int} (h1 : rg z) (h2 : 0 ≤ M 12 0 ∧ M 12 0 ≤ 100) : MC l yX6_isShot cX6_isShot 2 (some FieldType.boolean) 2 [.int (iN z)] M (.inl (some (.int (iN (bN (decide (0 ≤ z ∧ z < M 12 0))))))) (M) := by
  intro S o B hM0
  refine Ct.of cal_X6_isShot hfl (Nat.le_of_ble_eq_true rfl) ?_
  intro p e s m args below meth c D sz C ME
  have hM : RMF S S o B M := ⟨hM0, mF.rf⟩
  refine j_iload_n C dX6_isShot_0 rfl ?_
  refine j_iconst C dX6_isShot_1 ?_
  refine j_aload_n C dX6_isShot_2 rfl ?_
  refine j_mgeti C hM fl_Mo_91 ⟨by decide, rfl⟩ dX6_isShot_3 ?_
  refine j_iconst C dX6_isShot_6 ?_
  refine j_isub C dX6_isShot_7 ?_
  refine j_callS C (c_in l hfl (by unfold rg at *; omega) (by unfold rg; omega) (by unfold rg; omega)) cal_X6_in st_X6_in ml_Mo_87 rfl rfl (by decide) ⟨by decide, by decide⟩ ⟨by omega, by omega⟩ dX6_isShot_8 (fun E S9 h => nomatch h.1) (fun v9 S9 h => ?_)
  obtain ⟨h, rfl⟩ := h
  cases h
  refine j_zret C ME (by unfold bN; split <;> simp) ?_ (by omega) (by omega) dX6_isShot_11
  exact ⟨rI (bN_iff (by omega)), hM⟩

set_option maxHeartbeats 4000000 in
set_option maxRecDepth 100000 in
theorem c_isReel (l : Launch) (hfl : l.stackTraces = false) {M : wM} {z : Int} (h1 : rg z) (h2 : 0 ≤ M 17 0 ∧ M 17 0 ≤ 100) : MC l yX6_isReel cX6_isReel 2 (some FieldType.boolean) 2 [.int (iN z)] M (.inl (some (.int (iN (bN (decide (0 ≤ z ∧ z < M 17 0))))))) (M) := by
  intro S o B hM0
  refine Ct.of cal_X6_isReel hfl (Nat.le_of_ble_eq_true rfl) ?_
  intro p e s m args below meth c D sz C ME
  have hM : RMF S S o B M := ⟨hM0, mF.rf⟩
  refine j_iload_n C dX6_isReel_0 rfl ?_
  refine j_iconst C dX6_isReel_1 ?_
  refine j_aload_n C dX6_isReel_2 rfl ?_
  refine j_mgeti C hM fl_Mo_94 ⟨by decide, rfl⟩ dX6_isReel_3 ?_
  refine j_iconst C dX6_isReel_6 ?_
  refine j_isub C dX6_isReel_7 ?_
  refine j_callS C (c_in l hfl (by unfold rg at *; omega) (by unfold rg; omega) (by unfold rg; omega)) cal_X6_in st_X6_in ml_Mo_87 rfl rfl (by decide) ⟨by decide, by decide⟩ ⟨by omega, by omega⟩ dX6_isReel_8 (fun E S9 h => nomatch h.1) (fun v9 S9 h => ?_)
  obtain ⟨h, rfl⟩ := h
  cases h
  refine j_zret C ME (by unfold bN; split <;> simp) ?_ (by omega) (by omega) dX6_isReel_11
  exact ⟨rI (bN_iff (by omega)), hM⟩

set_option maxHeartbeats 4000000 in
set_option maxRecDepth 100000 in
theorem c_isVersion (l : Launch) (hfl : l.stackTraces = false) {M : wM} {z : Int} (h1 : rg z) (h2 : 0 ≤ M 21 0 ∧ M 21 0 ≤ 100) : MC l yX6_isVersion cX6_isVersion 2 (some FieldType.boolean) 2 [.int (iN z)] M (.inl (some (.int (iN (bN (decide (0 ≤ z ∧ z < M 21 0))))))) (M) := by
  intro S o B hM0
  refine Ct.of cal_X6_isVersion hfl (Nat.le_of_ble_eq_true rfl) ?_
  intro p e s m args below meth c D sz C ME
  have hM : RMF S S o B M := ⟨hM0, mF.rf⟩
  refine j_iload_n C dX6_isVersion_0 rfl ?_
  refine j_iconst C dX6_isVersion_1 ?_
  refine j_aload_n C dX6_isVersion_2 rfl ?_
  refine j_mgeti C hM fl_Mo_97 ⟨by decide, rfl⟩ dX6_isVersion_3 ?_
  refine j_iconst C dX6_isVersion_6 ?_
  refine j_isub C dX6_isVersion_7 ?_
  refine j_callS C (c_in l hfl (by unfold rg at *; omega) (by unfold rg; omega) (by unfold rg; omega)) cal_X6_in st_X6_in ml_Mo_87 rfl rfl (by decide) ⟨by decide, by decide⟩ ⟨by omega, by omega⟩ dX6_isVersion_8 (fun E S9 h => nomatch h.1) (fun v9 S9 h => ?_)
  obtain ⟨h, rfl⟩ := h
  cases h
  refine j_zret C ME (by unfold bN; split <;> simp) ?_ (by omega) (by omega) dX6_isVersion_11
  exact ⟨rI (bN_iff (by omega)), hM⟩

set_option maxHeartbeats 4000000 in
set_option maxRecDepth 100000 in
theorem c_isLoan (l : Launch) (hfl : l.stackTraces = false) {M : wM} {z : Int} (h1 : rg z) (h2 : 0 ≤ M 28 0 ∧ M 28 0 ≤ 100) : MC l yX6_isLoan cX6_isLoan 2 (some FieldType.boolean) 2 [.int (iN z)] M (.inl (some (.int (iN (bN (decide (0 ≤ z ∧ z < M 28 0))))))) (M) := by
  intro S o B hM0
  refine Ct.of cal_X6_isLoan hfl (Nat.le_of_ble_eq_true rfl) ?_
  intro p e s m args below meth c D sz C ME
  have hM : RMF S S o B M := ⟨hM0, mF.rf⟩
  refine j_iload_n C dX6_isLoan_0 rfl ?_
  refine j_iconst C dX6_isLoan_1 ?_
  refine j_aload_n C dX6_isLoan_2 rfl ?_
  refine j_mgeti C hM fl_Mo_100 ⟨by decide, rfl⟩ dX6_isLoan_3 ?_
  refine j_iconst C dX6_isLoan_6 ?_
  refine j_isub C dX6_isLoan_7 ?_
  refine j_callS C (c_in l hfl (by unfold rg at *; omega) (by unfold rg; omega) (by unfold rg; omega)) cal_X6_in st_X6_in ml_Mo_87 rfl rfl (by decide) ⟨by decide, by decide⟩ ⟨by omega, by omega⟩ dX6_isLoan_8 (fun E S9 h => nomatch h.1) (fun v9 S9 h => ?_)
  obtain ⟨h, rfl⟩ := h
  cases h
  refine j_zret C ME (by unfold bN; split <;> simp) ?_ (by omega) (by omega) dX6_isLoan_11
  exact ⟨rI (bN_iff (by omega)), hM⟩

set_option maxHeartbeats 4000000 in
set_option maxRecDepth 100000 in
theorem c_areFine (l : Launch) (hfl : l.stackTraces = false) {S : wS} {a b : Int} (h1 : rg a) (h2 : rg b) : Ct l yX6_areFine cX6_areFine 2 (some FieldType.boolean) 2 0 0 [.int (iN a), .int (iN b)] S (fun r S' => r = .inl (some (.int (iN (bN (decide ((1 ≤ a ∧ a ≤ 999) ∧ 0 ≤ b ∧ b ≤ 9)))))) ∧ S' = S) := by
  refine Ct.of cal_X6_areFine hfl (Nat.le_of_ble_eq_true rfl) ?_
  intro p e s m args below meth c D sz C ME
  refine j_iload_n C dX6_areFine_0 rfl ?_
  refine j_iconst C dX6_areFine_1 ?_
  refine j_sipush C dX6_areFine_2 (by decide) ?_
  refine j_callS C (c_in l hfl (by unfold rg at *; omega) (by unfold rg; omega) (by unfold rg; omega)) cal_X6_in st_X6_in ml_Mo_87 rfl rfl (by decide) ⟨by decide, by decide⟩ ⟨by omega, by omega⟩ dX6_areFine_5 (fun E S9 h => nomatch h.1) (fun v9 S9 h => ?_)
  obtain ⟨h, rfl⟩ := h
  cases h
  refine j_ifeq_b (tgt := 25) C dX6_areFine_8 (by decide) (fun c8 => ?_) (fun c8 => ?_)
  · refine j_iconst C dX6_areFine_25 ?_
    refine j_zret C ME (by first | exact Or.inl rfl | exact Or.inr rfl) ?_ (by omega) (by omega) dX6_areFine_26
    exact ⟨rI (by first | exact b1 (by simp at *; omega) | exact b0 (by simp at *; omega)), rfl⟩
  · refine j_iload_n C dX6_areFine_11 rfl ?_
    refine j_iconst C dX6_areFine_12 ?_
    refine j_bipush C dX6_areFine_13 (by decide) ?_
    refine j_callS C (c_in l hfl (by unfold rg at *; omega) (by unfold rg; omega) (by unfold rg; omega)) cal_X6_in st_X6_in ml_Mo_87 rfl rfl (by decide) ⟨by decide, by decide⟩ ⟨by omega, by omega⟩ dX6_areFine_15 (fun E S9 h => nomatch h.1) (fun v9 S9 h => ?_)
    obtain ⟨h, rfl⟩ := h
    cases h
    refine j_ifeq_b (tgt := 25) C dX6_areFine_18 (by decide) (fun c18 => ?_) (fun c18 => ?_)
    · refine j_iconst C dX6_areFine_25 ?_
      refine j_zret C ME (by first | exact Or.inl rfl | exact Or.inr rfl) ?_ (by omega) (by omega) dX6_areFine_26
      exact ⟨rI (by first | exact b1 (by simp at *; omega) | exact b0 (by simp at *; omega)), rfl⟩
    · refine j_iconst C dX6_areFine_21 ?_
      refine j_goto (tgt := 26) C dX6_areFine_22 (by decide) ?_
      refine j_zret C ME (by first | exact Or.inl rfl | exact Or.inr rfl) ?_ (by omega) (by omega) dX6_areFine_26
      exact ⟨rI (by first | exact b1 (by simp at *; omega) | exact b0 (by simp at *; omega)), rfl⟩

